/-! THE READER: what is read, by the levels of what may be open -/
theorem upw_stt0 {g : IG} {t : Nat} (a s : Nat) (ht : t < 6) (h2 : g 2 2 = nI a) (h3 : g 2 3 = nI s) {n : Nat} (hN : g (5 + 4 * t) 3 = nI n) : stt g t (a, s, g 2 4, g 2 5) (n, g (5 + 4 * t + 1)) = g := by
  funext i j
  unfold stt
  by_cases hi : i = 2
  · subst hi
    rw [if_pos rfl]
    split
    · rename_i h; subst h; exact h2.symm
    · split
      · rename_i h; subst h; exact h3.symm
      · split
        · rename_i h; subst h; rfl
        · split
          · rename_i h; subst h; rfl
          · rfl
  · rw [if_neg hi]
    split
    · rename_i h; subst h
      split
      · rename_i h; subst h; exact hN.symm
      · rfl
    · split
      · rename_i h; subst h; rfl
      · rfl
/-- a reader's contract: from what is read to what is read, with the codes behind those that stood there -/
def RdC (l : Launch) (E : Ev) (n : Nat) (g : IG) (r : RG) (z : Int64) (t : Nat) (y : MethodName) (cc : ByteArray) (nL : Nat) (d : Nat) (o1 : Int32) (F : PF) : Prop :=
  ∀ (S : PS) (N : SK), S.1 ≤ 160 → N.1 ≤ 160 → Ct l E n y cc nL none d [.ref (E.2.1 2), .int o1] (stt g t S N) r z (Zu r z (stt g t (F S).1 (apC N (F S).2)))
theorem go_putr {p : Program} {l : Launch} {e : Env} {R : Room} {s : State} {m : MethodId} {args : Array Value} {below : List Frame} {meth : Method} {c : Code} {E : Ev} {n nL : Nat} {cc : ByteArray} {own : String} {ret : Option FieldType} {Z : ZT} {g : IG} {r : RG} {z : Int64} {pc pc' : Nat} {lv : LV} {st : List Value} (cx : Cx p s m args meth c E n cc nL own ret) {idx ci k i N x : Nat} {nm : String} (hf : FL own idx ci k) (hdg : decode cc pc = .ok (.putfield idx, 3)) (hk : kd i = (ci, N)) (hi : i < n) (hc : ci < 7) (ht : ftc ci k = 1) (hn : fin ci k = false) (hd : parseFieldDescriptor (dsc ci k) = some (.object nm)) (hp : pc + 3 = pc')
    (kk : Go p l e R s m args below meth c E n nL Z g (up2r r i k (some x)) z pc' lv st) : Go p l e R s m args below meth c E n nL Z g r z pc lv (.ref (E.2.1 x) :: .ref (E.2.1 i) :: st) := by
  subst hp
  intro H locs ls a b h
  obtain ⟨C, T, N', ty, q1, q2, q3, q4, q5, q6, q7⟩ := hf
  obtain ⟨⟨hx, hb, hml, hown, hts⟩, hr, hlk, hK, hX⟩ := cx
  have hN : N' = N := by
    have := clx_N i ci N hk hc
    rw [q1] at this
    exact Option.some.inj this
  subst hN
  have hfin : (T k).2.2.2 = false := by
    unfold fin at hn
    rw [q1] at hn
    exact hn
  have hdsc : parseFieldDescriptor (T k).2.2.1 = some (.object nm) := by
    unfold dsc at hd
    rw [q1] at hd
    exact hd
  refine va_put (ci := ci) (C := C) (T := T) (N := N') (k := k) (v := .ref (E.2.1 x)) (ty := .object nm) hx hb hts q5 ty q6 q7 hown hK.1 a.1 a.2 b i (by rw [wsl_at hi, cnt_o hk hc]) q1 q2 (hts _ q3) (fun x hx => by rw [q4] at hx; exact hx) hfin hdsc rfl (rfl) (by rw [fls_len]; exact q2) hdg (fun H1 locs1 hP hD hS => ?_)
  rw [wsl_putr hi hk hc q2 ht] at hP hD
  exact kk H1 locs1 ls ⟨hP, hD⟩ hS h

set_option maxHeartbeats 4000000 in
set_option maxRecDepth 20000 in
theorem c_X3_add (l : Launch) (E : Ev) {n : Nat} {g : IG} {r : RG} {z : Int64} {t sz : Nat} (hn : 37 ≤ n) (ht : t < 6) (hsz : sz ≤ 160) (hr : RdR r t) (hsz1 : g 2 1 = nI sz) {S : PS} {N : SK} (hN : N.1 ≤ 160) (c1 : Int32) : Ct l E n yX3_add cX3_add 2 none 1 [.ref (E.2.1 (5 + 4 * t)), .int c1] (stt g t S N) r z (Zu r z (stt g t S (addC N c1))) := by
  refine Ct.of (lv0 := [(0, .ref (E.2.1 (5 + 4 * t))), (1, .int c1)]) (by decide) (Nat.le_of_ble_eq_true rfl) rfl ?_
  intro p e s m below meth c cx
  refine go_aload_n (pc' := 1) cx dX3_add_0 rfl rfl ?_
  refine go_geti (pc' := 4) cx (nI N.1) fX3_21 dX3_add_1 (txt_k' _ ht).1 (by omega) (ltn rfl) rfl (stt_n ht) rfl ?_
  refine go_aload_n (pc' := 5) cx dX3_add_4 rfl rfl ?_
  refine go_getr (pc' := 8) cx (5 + 4 * t + 1) fX3_9 dX3_add_5 (txt_k' _ ht).1 (by omega) (ltn rfl) rfl hr.2.2.1 rfl ?_
  refine go_alen (pc' := 9) cx 160 dX3_add_8 (txt_k' _ ht).2.1 rfl (by omega) rfl rfl ?_
  refine go_icmp_ge (pc' := 12) cx 32 dX3_add_9 rfl rfl (fun c9 => ?_) (fun c9 => ?_)
  · have c9 := (nI_leI (a := 160) (b := N.1) (by omega) (by omega)).mp c9
    refine go_vret cx rfl dX3_add_32 ?_
    exact Zu.mk (congrArg (stt g t S) (by unfold addC; first | rw [if_pos (by omega)] | rw [if_neg (by omega)]))
  · have c9 : ¬ 160 ≤ N.1 := fun q9 => c9 ((nI_leI (a := 160) (b := N.1) (by omega) (by omega)).mpr q9)
    refine go_aload_n (pc' := 13) cx dX3_add_12 rfl rfl ?_
    refine go_getr (pc' := 16) cx (5 + 4 * t + 1) fX3_9 dX3_add_13 (txt_k' _ ht).1 (by omega) (ltn rfl) rfl hr.2.2.1 rfl ?_
    refine go_aload_n (pc' := 17) cx dX3_add_16 rfl rfl ?_
    refine go_geti (pc' := 20) cx (nI N.1) fX3_21 dX3_add_17 (txt_k' _ ht).1 (by omega) (ltn rfl) rfl (stt_n ht) rfl ?_
    refine go_iload_n (pc' := 21) cx dX3_add_20 rfl rfl ?_
    refine go_iastk (pc' := 22) cx N.1 dX3_add_21 (txt_k' _ ht).2.1 (by omega) (vpi (k := N.1) (a := 160) (by omega) rfl rfl) (cli (k := N.1) (a := 160) (by omega) rfl) rfl ?_
    refine go_g (stt_wc (g := g) (S := S) (N := N) N.1 c1 ht) ?_
    refine go_aload_n (pc' := 23) cx dX3_add_22 rfl rfl ?_
    refine go_dup (pc' := 24) cx rfl dX3_add_23 rfl ?_
    refine go_geti (pc' := 27) cx (nI N.1) fX3_21 dX3_add_24 (txt_k' _ ht).1 (by omega) (ltn rfl) rfl (stt_n ht) rfl ?_
    refine go_iconst (pc' := 28) cx 1 dX3_add_27 rfl rfl ?_
    refine go_iadd (pc' := 29) cx dX3_add_28 rfl ?_
    refine go_val (w := .int (nI (N.1 + 1))) (congrArg Value.int (nI_add N.1 1)) ?_
    refine go_puti (pc' := 32) cx fX3_21 dX3_add_29 (txt_k' _ ht).1 (by omega) (ltn rfl) rfl rfl rfl rfl ?_
    refine go_g (stt_wn (g := g) (S := S) (N := (N.1, upd N.2 N.1 c1)) (N.1 + 1) ht) ?_
    refine go_vret cx rfl dX3_add_32 ?_
    exact Zu.mk (congrArg (stt g t S) (by unfold addC; first | rw [if_pos (by omega)] | rw [if_neg (by omega)]))

set_option maxHeartbeats 4000000 in
set_option maxRecDepth 20000 in
theorem c_X0_refuse (l : Launch) (E : Ev) {n : Nat} {g : IG} {r : RG} {z : Int64} {t sz : Nat} (hn : 37 ≤ n) (ht : t < 6) (hsz : sz ≤ 160) (hr : RdR r t) (hsz1 : g 2 1 = nI sz) {S : PS} {N : SK} : Ct l E n yX0_refuse cX0_refuse 1 none 1 [.ref (E.2.1 2)] (stt g t S N) r z (Zu r z (stt g t (refS S) N)) := by
  refine Ct.of (lv0 := [(0, .ref (E.2.1 2))]) (by decide) (Nat.le_of_ble_eq_true rfl) rfl ?_
  intro p e s m below meth c cx
  refine go_aload_n (pc' := 1) cx dX0_refuse_0 rfl rfl ?_
  refine go_geti (pc' := 4) cx S.2.2.2 fX0_29 dX0_refuse_1 kq2 (by omega) (ltn rfl) rfl stt_25 rfl ?_
  refine go_iconst (pc' := 5) cx (-1) dX0_refuse_4 rfl rfl ?_
  refine go_icmp_ne (pc' := 8) cx 16 dX0_refuse_5 rfl rfl (fun c5 => ?_) (fun c5 => ?_)
  · refine go_aload_n (pc' := 17) cx dX0_refuse_16 rfl rfl ?_
    refine go_sipush (pc' := 20) cx 10022 dX0_refuse_17 rfl rfl ?_
    refine go_puti (pc' := 23) cx fX0_48 dX0_refuse_20 kq2 (by omega) (ltn rfl) rfl rfl rfl rfl ?_
    refine go_g (stt_w4 (g := g) (t := t) (S := S) (N := N) 10022) ?_
    refine go_vret cx rfl dX0_refuse_23 ?_
    exact Zu.mk (congrArg (fun q => stt g t q N) (by unfold refS; first | rw [if_pos c5] | rw [if_neg c5]))
  · refine go_aload_n (pc' := 9) cx dX0_refuse_8 rfl rfl ?_
    refine go_aload_n (pc' := 10) cx dX0_refuse_9 rfl rfl ?_
    refine go_geti (pc' := 13) cx (nI S.2.1) fX0_45 dX0_refuse_10 kq2 (by omega) (ltn rfl) rfl stt_23 rfl ?_
    refine go_puti (pc' := 16) cx fX0_29 dX0_refuse_13 kq2 (by omega) (ltn rfl) rfl rfl rfl rfl ?_
    refine go_g (stt_w5 (g := g) (t := t) (S := S) (N := N) (nI S.2.1)) ?_
    refine go_aload_n (pc' := 17) cx dX0_refuse_16 rfl rfl ?_
    refine go_sipush (pc' := 20) cx 10022 dX0_refuse_17 rfl rfl ?_
    refine go_puti (pc' := 23) cx fX0_48 dX0_refuse_20 kq2 (by omega) (ltn rfl) rfl rfl rfl rfl ?_
    refine go_g (stt_w4 (g := g) (t := t) (S := (S.1, S.2.1, S.2.2.1, nI S.2.1)) (N := N) 10022) ?_
    refine go_vret cx rfl dX0_refuse_23 ?_
    exact Zu.mk (congrArg (fun q => stt g t q N) (by unfold refS; first | rw [if_pos c5] | rw [if_neg c5]))

set_option maxHeartbeats 4000000 in
set_option maxRecDepth 20000 in
theorem c_X0_demand (l : Launch) (E : Ev) {n : Nat} {g : IG} {r : RG} {z : Int64} {t sz : Nat} (hn : 37 ≤ n) (ht : t < 6) (hsz : sz ≤ 160) (hr : RdR r t) (hsz1 : g 2 1 = nI sz) {S : PS} {N : SK} (hS : S.1 ≤ 160) (w1 : Int32) : Ct l E n yX0_demand cX0_demand 2 none 8 [.ref (E.2.1 2), .int w1] (stt g t S N) r z (Zu r z (stt g t (demS (advS (g 3) sz) w1 S) N)) := by
  refine Ct.of (lv0 := [(0, .ref (E.2.1 2)), (1, .int w1)]) (by decide) (Nat.le_of_ble_eq_true rfl) rfl ?_
  intro p e s m below meth c cx
  refine go_aload_n (pc' := 1) cx dX0_demand_0 rfl rfl ?_
  refine go_geti (pc' := 4) cx S.2.2.1 fX0_48 dX0_demand_1 kq2 (by omega) (ltn rfl) rfl stt_24 rfl ?_
  refine go_iload_n (pc' := 5) cx dX0_demand_4 rfl rfl ?_
  refine go_icmp_ne (pc' := 8) cx 15 dX0_demand_5 rfl rfl (fun c5 => ?_) (fun c5 => ?_)
  · refine go_aload_n (pc' := 16) cx dX0_demand_15 rfl rfl ?_
    refine go_cVu (pc' := 19) cx (c_X0_refuse l E hn ht hsz hr hsz1 (S := S) (N := N)) mX0_refuse lX0_51 dX0_demand_16 kq2 (ltn rfl) (by omega) rfl rfl rfl rfl (by omega) (Nat.le_of_ble_eq_true rfl) (Nat.le_of_ble_eq_true rfl) rfl ?_
    refine go_vret cx rfl dX0_demand_19 ?_
    exact Zu.mk (congrArg (fun q => stt g t q N) (by unfold demS; first | rw [if_pos c5] | rw [if_neg c5]))
  · refine go_aload_n (pc' := 9) cx dX0_demand_8 rfl rfl ?_
    refine go_cVu (pc' := 12) cx (c_X0_advance l E hn ht hsz hr hsz1 (S := S) (N := N) hS) mX0_advance lX0_32 dX0_demand_9 kq2 (ltn rfl) (by omega) rfl rfl rfl rfl (by omega) (Nat.le_of_ble_eq_true rfl) (Nat.le_of_ble_eq_true rfl) rfl ?_
    refine go_goto cx 19 dX0_demand_12 rfl ?_
    refine go_vret cx rfl dX0_demand_19 ?_
    exact Zu.mk (congrArg (fun q => stt g t q N) (by unfold demS; first | rw [if_pos c5] | rw [if_neg c5]))

set_option maxHeartbeats 4000000 in
set_option maxRecDepth 20000 in
theorem readTerm_loop {l : Launch} {E : Ev} {Z : ZT} {n : Nat} {g : IG} {r : RG} {z : Int64} {p : Program} {e : Env} {s : State} {m : MethodId} {args : Array Value} {below : List Frame} {meth : Method} {c : Code} {t sz : Nat} (hn : 37 ≤ n) (ht : t < 6) (hsz : sz ≤ 160) (hr : RdR r t) (hsz1 : g 2 1 = nI sz) (d : Nat) (hd : 8 ≤ d) (hA : BdA (advS (g 3) sz)) {F : PF} (hF : Bd F) {o1 : Int32} (hC : RdC l E n g r z t yX0_readOne cX0_readOne 2 d o1 F)  (cx : Cx p s m args meth c E n cX0_readTerm 3 yX0_readTerm.cls none) : ∀ (k i : Nat) (S : PS) (N : SK), i + k = 160 → S.1 ≤ 160 → N.1 ≤ 160 → (Go p l e (rmd (d + 1)) s m args below meth c E n 3 Z (stt g t (lpF (advS (g 3) sz) pTe F k S).1 (apC N (lpF (advS (g 3) sz) pTe F k S).2)) r z 49 [(0, .ref (E.2.1 2)), (1, .int o1)] []) → Go p l e (rmd (d + 1)) s m args below meth c E n 3 Z (stt g t S N) r z 7 [(2, .int (nI i)), (0, .ref (E.2.1 2)), (1, .int o1)] [] := by
  intro k
  induction k with
  | zero =>
    intro i S N hi hS hN kk
    have hq : i = 160 := by omega
    subst hq
    refine go_iload_n (pc' := 8) cx dX0_readTerm_7 rfl rfl ?_
    refine go_sipush (pc' := 11) cx 160 dX0_readTerm_8 rfl rfl ?_
    refine go_icmp_ge (pc' := 14) cx 49 dX0_readTerm_11 rfl rfl (fun _ => ?_) (fun hh => absurd hh (by decide))
    refine go_sub [1, 2] [(0, .ref (E.2.1 2)), (1, .int o1)] rfl ?_
    exact kk
  | succ k ih =>
    intro i S N hi hS hN kk
    refine go_iload_n (pc' := 8) cx dX0_readTerm_7 rfl rfl ?_
    refine go_sipush (pc' := 11) cx 160 dX0_readTerm_8 rfl rfl ?_
    refine go_icmp_ge (pc' := 14) cx 49 dX0_readTerm_11 rfl rfl (fun hh => absurd ((nI_leI (a := 160) (b := i) (by omega) (by omega)).mp hh) (by omega)) (fun _ => ?_)
    refine go_aload_n (pc' := 15) cx dX0_readTerm_14 rfl rfl ?_
    refine go_geti (pc' := 18) cx S.2.2.1 fX0_48 dX0_readTerm_15 kq2 (by omega) (ltn rfl) rfl stt_24 rfl ?_
    refine go_sipush (pc' := 21) cx 10017 dX0_readTerm_18 rfl rfl ?_
    refine go_icmp_ne (pc' := 24) cx 49 dX0_readTerm_21 rfl rfl (fun c21 => ?_) (fun c21 => ?_)
    · refine go_sub [1, 2] [(0, .ref (E.2.1 2)), (1, .int o1)] rfl ?_
      have h9 : lpF (advS (g 3) sz) pTe F (k + 1) S = (S, []) := if_neg (show ¬ pTe S.2.2.1 = true by unfold pTe; simp only [beq_iff_eq]; exact c21)
      rw [h9] at kk
      exact kk
    · refine go_aload_n (pc' := 25) cx dX0_readTerm_24 rfl rfl ?_
      refine go_cVu (pc' := 28) cx (c_X0_advance l E hn ht hsz hr hsz1 (S := S) (N := N) hS) mX0_advance lX0_32 dX0_readTerm_25 kq2 (ltn rfl) (by omega) rfl rfl rfl rfl (by omega) (Nat.le_of_ble_eq_true rfl) (Nat.le_of_ble_eq_true rfl) rfl ?_
      refine go_aload_n (pc' := 29) cx dX0_readTerm_28 rfl rfl ?_
      refine go_iload_n (pc' := 30) cx dX0_readTerm_29 rfl rfl ?_
      refine go_cVu (pc' := 33) cx (hC (advS (g 3) sz S) N (advS_le hS hsz) hN) mX0_readOne lX0_69 dX0_readTerm_30 kq2 (ltn rfl) (by omega) rfl rfl rfl rfl (Nat.lt_succ_self _) (Nat.le_of_ble_eq_true rfl) (Nat.le_of_ble_eq_true rfl) rfl ?_
      refine go_aload_n (pc' := 34) cx dX0_readTerm_33 rfl rfl ?_
      refine go_getr (pc' := 37) cx (5 + 4 * t) fX0_19 dX0_readTerm_34 kq2 (by omega) (ltn rfl) rfl hr.2.1 rfl ?_
      refine go_sipush (pc' := 40) cx 10017 dX0_readTerm_37 rfl rfl ?_
      refine go_cVu (pc' := 43) cx (c_X3_add l E hn ht hsz hr hsz1 (S := (F (advS (g 3) sz S)).1) (N := (apC N (F (advS (g 3) sz S)).2)) (apC_le hN) 10017) mX3_add lX0_57 dX0_readTerm_40 (txt_k' _ ht).1 (ltn rfl) (by omega) rfl rfl rfl rfl (by omega) (Nat.le_of_ble_eq_true rfl) (Nat.le_of_ble_eq_true rfl) rfl ?_
      refine go_iinc (pc' := 46) cx (nI (i + 1)) dX0_readTerm_43 rfl (nI_1 i) (ltn rfl) [(2, .int (nI (i + 1))), (0, .ref (E.2.1 2)), (1, .int o1)] rfl rfl ?_
      refine go_goto cx 7 dX0_readTerm_46 rfl ?_
      have h9 : lpF (advS (g 3) sz) pTe F (k + 1) S = ((lpF (advS (g 3) sz) pTe F k (F (advS (g 3) sz S)).1).1, (F (advS (g 3) sz S)).2 ++ S.2.2.1 :: (lpF (advS (g 3) sz) pTe F k (F (advS (g 3) sz S)).1).2) := if_pos (show pTe S.2.2.1 = true by rw [c21]; rfl)
      rw [h9] at kk
      refine ih (i + 1) _ _ (by omega) (hF _ (advS_le hS hsz)) (addC_le (apC_le hN)) ?_
      have h8 : apC N ((F (advS (g 3) sz S)).2 ++ S.2.2.1 :: (lpF (advS (g 3) sz) pTe F k (F (advS (g 3) sz S)).1).2) = apC (addC (apC N (F (advS (g 3) sz S)).2) 10017) (lpF (advS (g 3) sz) pTe F k ((F (advS (g 3) sz S)).1)).2 := by
        rw [apC_app]
        rw [show S.2.2.1 = (10017 : Int32) from c21]
        rfl
      rw [← h8]
      exact kk

set_option maxHeartbeats 4000000 in
set_option maxRecDepth 20000 in
theorem c_X0_readTerm (l : Launch) (E : Ev) {n : Nat} {g : IG} {r : RG} {z : Int64} {t sz : Nat} (hn : 37 ≤ n) (ht : t < 6) (hsz : sz ≤ 160) (hr : RdR r t) (hsz1 : g 2 1 = nI sz) (d : Nat) (hd : 8 ≤ d) (hA : BdA (advS (g 3) sz)) {F : PF} (hF : Bd F) {o1 : Int32} (hC : RdC l E n g r z t yX0_readOne cX0_readOne 2 d o1 F) {S : PS} {N : SK} (hS : S.1 ≤ 160) (hN : N.1 ≤ 160) : Ct l E n yX0_readTerm cX0_readTerm 3 none (d + 1) [.ref (E.2.1 2), .int o1] (stt g t S N) r z (Zu r z (stt g t (lvF (advS (g 3) sz) pTe F S).1 (apC N (lvF (advS (g 3) sz) pTe F S).2))) := by
  refine Ct.of (lv0 := [(0, .ref (E.2.1 2)), (1, .int o1)]) (by decide) (Nat.le_of_ble_eq_true rfl) rfl ?_
  intro p e s m below meth c cx
  refine go_aload_n (pc' := 1) cx dX0_readTerm_0 rfl rfl ?_
  refine go_iload_n (pc' := 2) cx dX0_readTerm_1 rfl rfl ?_
  refine go_cVu (pc' := 5) cx (hC S N hS hN) mX0_readOne lX0_69 dX0_readTerm_2 kq2 (ltn rfl) (by omega) rfl rfl rfl rfl (Nat.lt_succ_self _) (Nat.le_of_ble_eq_true rfl) (Nat.le_of_ble_eq_true rfl) rfl ?_
  refine go_iconst (pc' := 6) cx 0 dX0_readTerm_5 rfl rfl ?_
  refine go_istore_n (pc' := 7) cx dX0_readTerm_6 (ltn rfl) [(2, .int 0), (0, .ref (E.2.1 2)), (1, .int o1)] rfl rfl ?_
  refine readTerm_loop hn ht hsz hr hsz1 d hd hA hF hC cx 160 0 ((F S).1) (apC N (F S).2) rfl (hF _ hS) (apC_le hN) ?_
  refine go_vret cx rfl dX0_readTerm_49 ?_
  exact Zu.mk (by unfold lvF; rw [apC_app])

set_option maxHeartbeats 4000000 in
set_option maxRecDepth 20000 in
theorem readAnd_loop {l : Launch} {E : Ev} {Z : ZT} {n : Nat} {g : IG} {r : RG} {z : Int64} {p : Program} {e : Env} {s : State} {m : MethodId} {args : Array Value} {below : List Frame} {meth : Method} {c : Code} {t sz : Nat} (hn : 37 ≤ n) (ht : t < 6) (hsz : sz ≤ 160) (hr : RdR r t) (hsz1 : g 2 1 = nI sz) (d : Nat) (hd : 8 ≤ d) (hA : BdA (advS (g 3) sz)) {F : PF} (hF : Bd F) {o1 : Int32} (hC : RdC l E n g r z t yX0_readNot cX0_readNot 3 d o1 F)  (cx : Cx p s m args meth c E n cX0_readAnd 3 yX0_readAnd.cls none) : ∀ (k i : Nat) (S : PS) (N : SK), i + k = 160 → S.1 ≤ 160 → N.1 ≤ 160 → (Go p l e (rmd (d + 1)) s m args below meth c E n 3 Z (stt g t (lpF (advS (g 3) sz) pAn F k S).1 (apC N (lpF (advS (g 3) sz) pAn F k S).2)) r z 49 [(0, .ref (E.2.1 2)), (1, .int o1)] []) → Go p l e (rmd (d + 1)) s m args below meth c E n 3 Z (stt g t S N) r z 7 [(2, .int (nI i)), (0, .ref (E.2.1 2)), (1, .int o1)] [] := by
  intro k
  induction k with
  | zero =>
    intro i S N hi hS hN kk
    have hq : i = 160 := by omega
    subst hq
    refine go_iload_n (pc' := 8) cx dX0_readAnd_7 rfl rfl ?_
    refine go_sipush (pc' := 11) cx 160 dX0_readAnd_8 rfl rfl ?_
    refine go_icmp_ge (pc' := 14) cx 49 dX0_readAnd_11 rfl rfl (fun _ => ?_) (fun hh => absurd hh (by decide))
    refine go_sub [1, 2] [(0, .ref (E.2.1 2)), (1, .int o1)] rfl ?_
    exact kk
  | succ k ih =>
    intro i S N hi hS hN kk
    refine go_iload_n (pc' := 8) cx dX0_readAnd_7 rfl rfl ?_
    refine go_sipush (pc' := 11) cx 160 dX0_readAnd_8 rfl rfl ?_
    refine go_icmp_ge (pc' := 14) cx 49 dX0_readAnd_11 rfl rfl (fun hh => absurd ((nI_leI (a := 160) (b := i) (by omega) (by omega)).mp hh) (by omega)) (fun _ => ?_)
    refine go_aload_n (pc' := 15) cx dX0_readAnd_14 rfl rfl ?_
    refine go_geti (pc' := 18) cx S.2.2.1 fX0_48 dX0_readAnd_15 kq2 (by omega) (ltn rfl) rfl stt_24 rfl ?_
    refine go_sipush (pc' := 21) cx 10010 dX0_readAnd_18 rfl rfl ?_
    refine go_icmp_ne (pc' := 24) cx 49 dX0_readAnd_21 rfl rfl (fun c21 => ?_) (fun c21 => ?_)
    · refine go_sub [1, 2] [(0, .ref (E.2.1 2)), (1, .int o1)] rfl ?_
      have h9 : lpF (advS (g 3) sz) pAn F (k + 1) S = (S, []) := if_neg (show ¬ pAn S.2.2.1 = true by unfold pAn; simp only [beq_iff_eq]; exact c21)
      rw [h9] at kk
      exact kk
    · refine go_aload_n (pc' := 25) cx dX0_readAnd_24 rfl rfl ?_
      refine go_cVu (pc' := 28) cx (c_X0_advance l E hn ht hsz hr hsz1 (S := S) (N := N) hS) mX0_advance lX0_32 dX0_readAnd_25 kq2 (ltn rfl) (by omega) rfl rfl rfl rfl (by omega) (Nat.le_of_ble_eq_true rfl) (Nat.le_of_ble_eq_true rfl) rfl ?_
      refine go_aload_n (pc' := 29) cx dX0_readAnd_28 rfl rfl ?_
      refine go_iload_n (pc' := 30) cx dX0_readAnd_29 rfl rfl ?_
      refine go_cVu (pc' := 33) cx (hC (advS (g 3) sz S) N (advS_le hS hsz) hN) mX0_readNot lX0_60 dX0_readAnd_30 kq2 (ltn rfl) (by omega) rfl rfl rfl rfl (Nat.lt_succ_self _) (Nat.le_of_ble_eq_true rfl) (Nat.le_of_ble_eq_true rfl) rfl ?_
      refine go_aload_n (pc' := 34) cx dX0_readAnd_33 rfl rfl ?_
      refine go_getr (pc' := 37) cx (5 + 4 * t) fX0_19 dX0_readAnd_34 kq2 (by omega) (ltn rfl) rfl hr.2.1 rfl ?_
      refine go_sipush (pc' := 40) cx 10010 dX0_readAnd_37 rfl rfl ?_
      refine go_cVu (pc' := 43) cx (c_X3_add l E hn ht hsz hr hsz1 (S := (F (advS (g 3) sz S)).1) (N := (apC N (F (advS (g 3) sz S)).2)) (apC_le hN) 10010) mX3_add lX0_57 dX0_readAnd_40 (txt_k' _ ht).1 (ltn rfl) (by omega) rfl rfl rfl rfl (by omega) (Nat.le_of_ble_eq_true rfl) (Nat.le_of_ble_eq_true rfl) rfl ?_
      refine go_iinc (pc' := 46) cx (nI (i + 1)) dX0_readAnd_43 rfl (nI_1 i) (ltn rfl) [(2, .int (nI (i + 1))), (0, .ref (E.2.1 2)), (1, .int o1)] rfl rfl ?_
      refine go_goto cx 7 dX0_readAnd_46 rfl ?_
      have h9 : lpF (advS (g 3) sz) pAn F (k + 1) S = ((lpF (advS (g 3) sz) pAn F k (F (advS (g 3) sz S)).1).1, (F (advS (g 3) sz S)).2 ++ S.2.2.1 :: (lpF (advS (g 3) sz) pAn F k (F (advS (g 3) sz S)).1).2) := if_pos (show pAn S.2.2.1 = true by rw [c21]; rfl)
      rw [h9] at kk
      refine ih (i + 1) _ _ (by omega) (hF _ (advS_le hS hsz)) (addC_le (apC_le hN)) ?_
      have h8 : apC N ((F (advS (g 3) sz S)).2 ++ S.2.2.1 :: (lpF (advS (g 3) sz) pAn F k (F (advS (g 3) sz S)).1).2) = apC (addC (apC N (F (advS (g 3) sz S)).2) 10010) (lpF (advS (g 3) sz) pAn F k ((F (advS (g 3) sz S)).1)).2 := by
        rw [apC_app]
        rw [show S.2.2.1 = (10010 : Int32) from c21]
        rfl
      rw [← h8]
      exact kk

set_option maxHeartbeats 4000000 in
set_option maxRecDepth 20000 in
theorem c_X0_readAnd (l : Launch) (E : Ev) {n : Nat} {g : IG} {r : RG} {z : Int64} {t sz : Nat} (hn : 37 ≤ n) (ht : t < 6) (hsz : sz ≤ 160) (hr : RdR r t) (hsz1 : g 2 1 = nI sz) (d : Nat) (hd : 8 ≤ d) (hA : BdA (advS (g 3) sz)) {F : PF} (hF : Bd F) {o1 : Int32} (hC : RdC l E n g r z t yX0_readNot cX0_readNot 3 d o1 F) {S : PS} {N : SK} (hS : S.1 ≤ 160) (hN : N.1 ≤ 160) : Ct l E n yX0_readAnd cX0_readAnd 3 none (d + 1) [.ref (E.2.1 2), .int o1] (stt g t S N) r z (Zu r z (stt g t (lvF (advS (g 3) sz) pAn F S).1 (apC N (lvF (advS (g 3) sz) pAn F S).2))) := by
  refine Ct.of (lv0 := [(0, .ref (E.2.1 2)), (1, .int o1)]) (by decide) (Nat.le_of_ble_eq_true rfl) rfl ?_
  intro p e s m below meth c cx
  refine go_aload_n (pc' := 1) cx dX0_readAnd_0 rfl rfl ?_
  refine go_iload_n (pc' := 2) cx dX0_readAnd_1 rfl rfl ?_
  refine go_cVu (pc' := 5) cx (hC S N hS hN) mX0_readNot lX0_60 dX0_readAnd_2 kq2 (ltn rfl) (by omega) rfl rfl rfl rfl (Nat.lt_succ_self _) (Nat.le_of_ble_eq_true rfl) (Nat.le_of_ble_eq_true rfl) rfl ?_
  refine go_iconst (pc' := 6) cx 0 dX0_readAnd_5 rfl rfl ?_
  refine go_istore_n (pc' := 7) cx dX0_readAnd_6 (ltn rfl) [(2, .int 0), (0, .ref (E.2.1 2)), (1, .int o1)] rfl rfl ?_
  refine readAnd_loop hn ht hsz hr hsz1 d hd hA hF hC cx 160 0 ((F S).1) (apC N (F S).2) rfl (hF _ hS) (apC_le hN) ?_
  refine go_vret cx rfl dX0_readAnd_49 ?_
  exact Zu.mk (by unfold lvF; rw [apC_app])

set_option maxHeartbeats 4000000 in
set_option maxRecDepth 20000 in
theorem readOr_loop {l : Launch} {E : Ev} {Z : ZT} {n : Nat} {g : IG} {r : RG} {z : Int64} {p : Program} {e : Env} {s : State} {m : MethodId} {args : Array Value} {below : List Frame} {meth : Method} {c : Code} {t sz : Nat} (hn : 37 ≤ n) (ht : t < 6) (hsz : sz ≤ 160) (hr : RdR r t) (hsz1 : g 2 1 = nI sz) (d : Nat) (hd : 8 ≤ d) (hA : BdA (advS (g 3) sz)) {F : PF} (hF : Bd F) {o1 : Int32} (hC : RdC l E n g r z t yX0_readAnd cX0_readAnd 3 d o1 F)  (cx : Cx p s m args meth c E n cX0_readOr 3 yX0_readOr.cls none) : ∀ (k i : Nat) (S : PS) (N : SK), i + k = 160 → S.1 ≤ 160 → N.1 ≤ 160 → (Go p l e (rmd (d + 1)) s m args below meth c E n 3 Z (stt g t (lpF (advS (g 3) sz) pOr F k S).1 (apC N (lpF (advS (g 3) sz) pOr F k S).2)) r z 49 [(0, .ref (E.2.1 2)), (1, .int o1)] []) → Go p l e (rmd (d + 1)) s m args below meth c E n 3 Z (stt g t S N) r z 7 [(2, .int (nI i)), (0, .ref (E.2.1 2)), (1, .int o1)] [] := by
  intro k
  induction k with
  | zero =>
    intro i S N hi hS hN kk
    have hq : i = 160 := by omega
    subst hq
    refine go_iload_n (pc' := 8) cx dX0_readOr_7 rfl rfl ?_
    refine go_sipush (pc' := 11) cx 160 dX0_readOr_8 rfl rfl ?_
    refine go_icmp_ge (pc' := 14) cx 49 dX0_readOr_11 rfl rfl (fun _ => ?_) (fun hh => absurd hh (by decide))
    refine go_sub [1, 2] [(0, .ref (E.2.1 2)), (1, .int o1)] rfl ?_
    exact kk
  | succ k ih =>
    intro i S N hi hS hN kk
    refine go_iload_n (pc' := 8) cx dX0_readOr_7 rfl rfl ?_
    refine go_sipush (pc' := 11) cx 160 dX0_readOr_8 rfl rfl ?_
    refine go_icmp_ge (pc' := 14) cx 49 dX0_readOr_11 rfl rfl (fun hh => absurd ((nI_leI (a := 160) (b := i) (by omega) (by omega)).mp hh) (by omega)) (fun _ => ?_)
    refine go_aload_n (pc' := 15) cx dX0_readOr_14 rfl rfl ?_
    refine go_geti (pc' := 18) cx S.2.2.1 fX0_48 dX0_readOr_15 kq2 (by omega) (ltn rfl) rfl stt_24 rfl ?_
    refine go_sipush (pc' := 21) cx 10009 dX0_readOr_18 rfl rfl ?_
    refine go_icmp_ne (pc' := 24) cx 49 dX0_readOr_21 rfl rfl (fun c21 => ?_) (fun c21 => ?_)
    · refine go_sub [1, 2] [(0, .ref (E.2.1 2)), (1, .int o1)] rfl ?_
      have h9 : lpF (advS (g 3) sz) pOr F (k + 1) S = (S, []) := if_neg (show ¬ pOr S.2.2.1 = true by unfold pOr; simp only [beq_iff_eq]; exact c21)
      rw [h9] at kk
      exact kk
    · refine go_aload_n (pc' := 25) cx dX0_readOr_24 rfl rfl ?_
      refine go_cVu (pc' := 28) cx (c_X0_advance l E hn ht hsz hr hsz1 (S := S) (N := N) hS) mX0_advance lX0_32 dX0_readOr_25 kq2 (ltn rfl) (by omega) rfl rfl rfl rfl (by omega) (Nat.le_of_ble_eq_true rfl) (Nat.le_of_ble_eq_true rfl) rfl ?_
      refine go_aload_n (pc' := 29) cx dX0_readOr_28 rfl rfl ?_
      refine go_iload_n (pc' := 30) cx dX0_readOr_29 rfl rfl ?_
      refine go_cVu (pc' := 33) cx (hC (advS (g 3) sz S) N (advS_le hS hsz) hN) mX0_readAnd lX0_54 dX0_readOr_30 kq2 (ltn rfl) (by omega) rfl rfl rfl rfl (Nat.lt_succ_self _) (Nat.le_of_ble_eq_true rfl) (Nat.le_of_ble_eq_true rfl) rfl ?_
      refine go_aload_n (pc' := 34) cx dX0_readOr_33 rfl rfl ?_
      refine go_getr (pc' := 37) cx (5 + 4 * t) fX0_19 dX0_readOr_34 kq2 (by omega) (ltn rfl) rfl hr.2.1 rfl ?_
      refine go_sipush (pc' := 40) cx 10009 dX0_readOr_37 rfl rfl ?_
      refine go_cVu (pc' := 43) cx (c_X3_add l E hn ht hsz hr hsz1 (S := (F (advS (g 3) sz S)).1) (N := (apC N (F (advS (g 3) sz S)).2)) (apC_le hN) 10009) mX3_add lX0_57 dX0_readOr_40 (txt_k' _ ht).1 (ltn rfl) (by omega) rfl rfl rfl rfl (by omega) (Nat.le_of_ble_eq_true rfl) (Nat.le_of_ble_eq_true rfl) rfl ?_
      refine go_iinc (pc' := 46) cx (nI (i + 1)) dX0_readOr_43 rfl (nI_1 i) (ltn rfl) [(2, .int (nI (i + 1))), (0, .ref (E.2.1 2)), (1, .int o1)] rfl rfl ?_
      refine go_goto cx 7 dX0_readOr_46 rfl ?_
      have h9 : lpF (advS (g 3) sz) pOr F (k + 1) S = ((lpF (advS (g 3) sz) pOr F k (F (advS (g 3) sz S)).1).1, (F (advS (g 3) sz S)).2 ++ S.2.2.1 :: (lpF (advS (g 3) sz) pOr F k (F (advS (g 3) sz S)).1).2) := if_pos (show pOr S.2.2.1 = true by rw [c21]; rfl)
      rw [h9] at kk
      refine ih (i + 1) _ _ (by omega) (hF _ (advS_le hS hsz)) (addC_le (apC_le hN)) ?_
      have h8 : apC N ((F (advS (g 3) sz S)).2 ++ S.2.2.1 :: (lpF (advS (g 3) sz) pOr F k (F (advS (g 3) sz S)).1).2) = apC (addC (apC N (F (advS (g 3) sz S)).2) 10009) (lpF (advS (g 3) sz) pOr F k ((F (advS (g 3) sz S)).1)).2 := by
        rw [apC_app]
        rw [show S.2.2.1 = (10009 : Int32) from c21]
        rfl
      rw [← h8]
      exact kk

set_option maxHeartbeats 4000000 in
set_option maxRecDepth 20000 in
theorem c_X0_readOr (l : Launch) (E : Ev) {n : Nat} {g : IG} {r : RG} {z : Int64} {t sz : Nat} (hn : 37 ≤ n) (ht : t < 6) (hsz : sz ≤ 160) (hr : RdR r t) (hsz1 : g 2 1 = nI sz) (d : Nat) (hd : 8 ≤ d) (hA : BdA (advS (g 3) sz)) {F : PF} (hF : Bd F) {o1 : Int32} (hC : RdC l E n g r z t yX0_readAnd cX0_readAnd 3 d o1 F) {S : PS} {N : SK} (hS : S.1 ≤ 160) (hN : N.1 ≤ 160) : Ct l E n yX0_readOr cX0_readOr 3 none (d + 1) [.ref (E.2.1 2), .int o1] (stt g t S N) r z (Zu r z (stt g t (lvF (advS (g 3) sz) pOr F S).1 (apC N (lvF (advS (g 3) sz) pOr F S).2))) := by
  refine Ct.of (lv0 := [(0, .ref (E.2.1 2)), (1, .int o1)]) (by decide) (Nat.le_of_ble_eq_true rfl) rfl ?_
  intro p e s m below meth c cx
  refine go_aload_n (pc' := 1) cx dX0_readOr_0 rfl rfl ?_
  refine go_iload_n (pc' := 2) cx dX0_readOr_1 rfl rfl ?_
  refine go_cVu (pc' := 5) cx (hC S N hS hN) mX0_readAnd lX0_54 dX0_readOr_2 kq2 (ltn rfl) (by omega) rfl rfl rfl rfl (Nat.lt_succ_self _) (Nat.le_of_ble_eq_true rfl) (Nat.le_of_ble_eq_true rfl) rfl ?_
  refine go_iconst (pc' := 6) cx 0 dX0_readOr_5 rfl rfl ?_
  refine go_istore_n (pc' := 7) cx dX0_readOr_6 (ltn rfl) [(2, .int 0), (0, .ref (E.2.1 2)), (1, .int o1)] rfl rfl ?_
  refine readOr_loop hn ht hsz hr hsz1 d hd hA hF hC cx 160 0 ((F S).1) (apC N (F S).2) rfl (hF _ hS) (apC_le hN) ?_
  refine go_vret cx rfl dX0_readOr_49 ?_
  exact Zu.mk (by unfold lvF; rw [apC_app])

set_option maxHeartbeats 4000000 in
set_option maxRecDepth 20000 in
theorem readSum_loop {l : Launch} {E : Ev} {Z : ZT} {n : Nat} {g : IG} {r : RG} {z : Int64} {p : Program} {e : Env} {s : State} {m : MethodId} {args : Array Value} {below : List Frame} {meth : Method} {c : Code} {t sz : Nat} (hn : 37 ≤ n) (ht : t < 6) (hsz : sz ≤ 160) (hr : RdR r t) (hsz1 : g 2 1 = nI sz) (d : Nat) (hd : 8 ≤ d) (hA : BdA (advS (g 3) sz)) {F : PF} (hF : Bd F) {o1 : Int32} (hC : RdC l E n g r z t yX0_readTerm cX0_readTerm 3 d o1 F)  (cx : Cx p s m args meth c E n cX0_readSum 4 yX0_readSum.cls none) : ∀ (k i : Nat) (S : PS) (N : SK), i + k = 160 → S.1 ≤ 160 → N.1 ≤ 160 → (Go p l e (rmd (d + 1)) s m args below meth c E n 4 Z (stt g t (lpF (advS (g 3) sz) pSu F k S).1 (apC N (lpF (advS (g 3) sz) pSu F k S).2)) r z 62 [(0, .ref (E.2.1 2)), (1, .int o1)] []) → Go p l e (rmd (d + 1)) s m args below meth c E n 4 Z (stt g t S N) r z 7 [(2, .int (nI i)), (0, .ref (E.2.1 2)), (1, .int o1)] [] := by
  intro k
  induction k with
  | zero =>
    intro i S N hi hS hN kk
    have hq : i = 160 := by omega
    subst hq
    refine go_iload_n (pc' := 8) cx dX0_readSum_7 rfl rfl ?_
    refine go_sipush (pc' := 11) cx 160 dX0_readSum_8 rfl rfl ?_
    refine go_icmp_ge (pc' := 14) cx 62 dX0_readSum_11 rfl rfl (fun _ => ?_) (fun hh => absurd hh (by decide))
    refine go_sub [1, 2] [(0, .ref (E.2.1 2)), (1, .int o1)] rfl ?_
    exact kk
  | succ k ih =>
    intro i S N hi hS hN kk
    refine go_iload_n (pc' := 8) cx dX0_readSum_7 rfl rfl ?_
    refine go_sipush (pc' := 11) cx 160 dX0_readSum_8 rfl rfl ?_
    refine go_icmp_ge (pc' := 14) cx 62 dX0_readSum_11 rfl rfl (fun hh => absurd ((nI_leI (a := 160) (b := i) (by omega) (by omega)).mp hh) (by omega)) (fun _ => ?_)
    refine go_aload_n (pc' := 15) cx dX0_readSum_14 rfl rfl ?_
    refine go_geti (pc' := 18) cx S.2.2.1 fX0_48 dX0_readSum_15 kq2 (by omega) (ltn rfl) rfl stt_24 rfl ?_
    refine go_sipush (pc' := 21) cx 10015 dX0_readSum_18 rfl rfl ?_
    refine go_icmp_eq (pc' := 24) cx 34 dX0_readSum_21 rfl rfl (fun c21 => ?_) (fun c21 => ?_)
    · refine go_aload_n (pc' := 35) cx dX0_readSum_34 rfl rfl ?_
      refine go_geti (pc' := 38) cx S.2.2.1 fX0_48 dX0_readSum_35 kq2 (by omega) (ltn rfl) rfl stt_24 rfl ?_
      refine go_istore_n (pc' := 39) cx dX0_readSum_38 (ltn rfl) [(3, .int S.2.2.1), (2, .int (nI i)), (0, .ref (E.2.1 2)), (1, .int o1)] rfl rfl ?_
      refine go_aload_n (pc' := 40) cx dX0_readSum_39 rfl rfl ?_
      refine go_cVu (pc' := 43) cx (c_X0_advance l E hn ht hsz hr hsz1 (S := S) (N := N) hS) mX0_advance lX0_32 dX0_readSum_40 kq2 (ltn rfl) (by omega) rfl rfl rfl rfl (by omega) (Nat.le_of_ble_eq_true rfl) (Nat.le_of_ble_eq_true rfl) rfl ?_
      refine go_aload_n (pc' := 44) cx dX0_readSum_43 rfl rfl ?_
      refine go_iload_n (pc' := 45) cx dX0_readSum_44 rfl rfl ?_
      refine go_cVu (pc' := 48) cx (hC (advS (g 3) sz S) N (advS_le hS hsz) hN) mX0_readTerm lX0_66 dX0_readSum_45 kq2 (ltn rfl) (by omega) rfl rfl rfl rfl (Nat.lt_succ_self _) (Nat.le_of_ble_eq_true rfl) (Nat.le_of_ble_eq_true rfl) rfl ?_
      refine go_aload_n (pc' := 49) cx dX0_readSum_48 rfl rfl ?_
      refine go_getr (pc' := 52) cx (5 + 4 * t) fX0_19 dX0_readSum_49 kq2 (by omega) (ltn rfl) rfl hr.2.1 rfl ?_
      refine go_iload_n (pc' := 53) cx dX0_readSum_52 rfl rfl ?_
      refine go_cVu (pc' := 56) cx (c_X3_add l E hn ht hsz hr hsz1 (S := (F (advS (g 3) sz S)).1) (N := (apC N (F (advS (g 3) sz S)).2)) (apC_le hN) S.2.2.1) mX3_add lX0_57 dX0_readSum_53 (txt_k' _ ht).1 (ltn rfl) (by omega) rfl rfl rfl rfl (by omega) (Nat.le_of_ble_eq_true rfl) (Nat.le_of_ble_eq_true rfl) rfl ?_
      refine go_iinc (pc' := 59) cx (nI (i + 1)) dX0_readSum_56 rfl (nI_1 i) (ltn rfl) [(2, .int (nI (i + 1))), (3, .int S.2.2.1), (0, .ref (E.2.1 2)), (1, .int o1)] rfl rfl ?_
      refine go_goto cx 7 dX0_readSum_59 rfl ?_
      refine go_sub [0, 2, 3] [(2, .int (nI (i + 1))), (0, .ref (E.2.1 2)), (1, .int o1)] rfl ?_
      have h9 : lpF (advS (g 3) sz) pSu F (k + 1) S = ((lpF (advS (g 3) sz) pSu F k (F (advS (g 3) sz S)).1).1, (F (advS (g 3) sz S)).2 ++ S.2.2.1 :: (lpF (advS (g 3) sz) pSu F k (F (advS (g 3) sz S)).1).2) := if_pos (show pSu S.2.2.1 = true by unfold pSu; first | (rw [c21]; rfl) | (rw [c31]; rfl))
      rw [h9] at kk
      refine ih (i + 1) _ _ (by omega) (hF _ (advS_le hS hsz)) (addC_le (apC_le hN)) ?_
      have h8 : apC N ((F (advS (g 3) sz S)).2 ++ S.2.2.1 :: (lpF (advS (g 3) sz) pSu F k (F (advS (g 3) sz S)).1).2) = apC (addC (apC N (F (advS (g 3) sz S)).2) S.2.2.1) (lpF (advS (g 3) sz) pSu F k ((F (advS (g 3) sz S)).1)).2 := by
        rw [apC_app]
        skip
        rfl
      rw [← h8]
      exact kk
    · refine go_aload_n (pc' := 25) cx dX0_readSum_24 rfl rfl ?_
      refine go_geti (pc' := 28) cx S.2.2.1 fX0_48 dX0_readSum_25 kq2 (by omega) (ltn rfl) rfl stt_24 rfl ?_
      refine go_sipush (pc' := 31) cx 10016 dX0_readSum_28 rfl rfl ?_
      refine go_icmp_ne (pc' := 34) cx 62 dX0_readSum_31 rfl rfl (fun c31 => ?_) (fun c31 => ?_)
      · refine go_sub [1, 2] [(0, .ref (E.2.1 2)), (1, .int o1)] rfl ?_
        have h9 : lpF (advS (g 3) sz) pSu F (k + 1) S = (S, []) := if_neg (show ¬ pSu S.2.2.1 = true by unfold pSu; simp only [Bool.or_eq_true, beq_iff_eq]; exact fun q => q.elim c21 c31)
        rw [h9] at kk
        exact kk
      · refine go_aload_n (pc' := 35) cx dX0_readSum_34 rfl rfl ?_
        refine go_geti (pc' := 38) cx S.2.2.1 fX0_48 dX0_readSum_35 kq2 (by omega) (ltn rfl) rfl stt_24 rfl ?_
        refine go_istore_n (pc' := 39) cx dX0_readSum_38 (ltn rfl) [(3, .int S.2.2.1), (2, .int (nI i)), (0, .ref (E.2.1 2)), (1, .int o1)] rfl rfl ?_
        refine go_aload_n (pc' := 40) cx dX0_readSum_39 rfl rfl ?_
        refine go_cVu (pc' := 43) cx (c_X0_advance l E hn ht hsz hr hsz1 (S := S) (N := N) hS) mX0_advance lX0_32 dX0_readSum_40 kq2 (ltn rfl) (by omega) rfl rfl rfl rfl (by omega) (Nat.le_of_ble_eq_true rfl) (Nat.le_of_ble_eq_true rfl) rfl ?_
        refine go_aload_n (pc' := 44) cx dX0_readSum_43 rfl rfl ?_
        refine go_iload_n (pc' := 45) cx dX0_readSum_44 rfl rfl ?_
        refine go_cVu (pc' := 48) cx (hC (advS (g 3) sz S) N (advS_le hS hsz) hN) mX0_readTerm lX0_66 dX0_readSum_45 kq2 (ltn rfl) (by omega) rfl rfl rfl rfl (Nat.lt_succ_self _) (Nat.le_of_ble_eq_true rfl) (Nat.le_of_ble_eq_true rfl) rfl ?_
        refine go_aload_n (pc' := 49) cx dX0_readSum_48 rfl rfl ?_
        refine go_getr (pc' := 52) cx (5 + 4 * t) fX0_19 dX0_readSum_49 kq2 (by omega) (ltn rfl) rfl hr.2.1 rfl ?_
        refine go_iload_n (pc' := 53) cx dX0_readSum_52 rfl rfl ?_
        refine go_cVu (pc' := 56) cx (c_X3_add l E hn ht hsz hr hsz1 (S := (F (advS (g 3) sz S)).1) (N := (apC N (F (advS (g 3) sz S)).2)) (apC_le hN) S.2.2.1) mX3_add lX0_57 dX0_readSum_53 (txt_k' _ ht).1 (ltn rfl) (by omega) rfl rfl rfl rfl (by omega) (Nat.le_of_ble_eq_true rfl) (Nat.le_of_ble_eq_true rfl) rfl ?_
        refine go_iinc (pc' := 59) cx (nI (i + 1)) dX0_readSum_56 rfl (nI_1 i) (ltn rfl) [(2, .int (nI (i + 1))), (3, .int S.2.2.1), (0, .ref (E.2.1 2)), (1, .int o1)] rfl rfl ?_
        refine go_goto cx 7 dX0_readSum_59 rfl ?_
        refine go_sub [0, 2, 3] [(2, .int (nI (i + 1))), (0, .ref (E.2.1 2)), (1, .int o1)] rfl ?_
        have h9 : lpF (advS (g 3) sz) pSu F (k + 1) S = ((lpF (advS (g 3) sz) pSu F k (F (advS (g 3) sz S)).1).1, (F (advS (g 3) sz S)).2 ++ S.2.2.1 :: (lpF (advS (g 3) sz) pSu F k (F (advS (g 3) sz S)).1).2) := if_pos (show pSu S.2.2.1 = true by unfold pSu; first | (rw [c21]; rfl) | (rw [c31]; rfl))
        rw [h9] at kk
        refine ih (i + 1) _ _ (by omega) (hF _ (advS_le hS hsz)) (addC_le (apC_le hN)) ?_
        have h8 : apC N ((F (advS (g 3) sz S)).2 ++ S.2.2.1 :: (lpF (advS (g 3) sz) pSu F k (F (advS (g 3) sz S)).1).2) = apC (addC (apC N (F (advS (g 3) sz S)).2) S.2.2.1) (lpF (advS (g 3) sz) pSu F k ((F (advS (g 3) sz S)).1)).2 := by
          rw [apC_app]
          skip
          rfl
        rw [← h8]
        exact kk

set_option maxHeartbeats 4000000 in
set_option maxRecDepth 20000 in
theorem c_X0_readSum (l : Launch) (E : Ev) {n : Nat} {g : IG} {r : RG} {z : Int64} {t sz : Nat} (hn : 37 ≤ n) (ht : t < 6) (hsz : sz ≤ 160) (hr : RdR r t) (hsz1 : g 2 1 = nI sz) (d : Nat) (hd : 8 ≤ d) (hA : BdA (advS (g 3) sz)) {F : PF} (hF : Bd F) {o1 : Int32} (hC : RdC l E n g r z t yX0_readTerm cX0_readTerm 3 d o1 F) {S : PS} {N : SK} (hS : S.1 ≤ 160) (hN : N.1 ≤ 160) : Ct l E n yX0_readSum cX0_readSum 4 none (d + 1) [.ref (E.2.1 2), .int o1] (stt g t S N) r z (Zu r z (stt g t (lvF (advS (g 3) sz) pSu F S).1 (apC N (lvF (advS (g 3) sz) pSu F S).2))) := by
  refine Ct.of (lv0 := [(0, .ref (E.2.1 2)), (1, .int o1)]) (by decide) (Nat.le_of_ble_eq_true rfl) rfl ?_
  intro p e s m below meth c cx
  refine go_aload_n (pc' := 1) cx dX0_readSum_0 rfl rfl ?_
  refine go_iload_n (pc' := 2) cx dX0_readSum_1 rfl rfl ?_
  refine go_cVu (pc' := 5) cx (hC S N hS hN) mX0_readTerm lX0_66 dX0_readSum_2 kq2 (ltn rfl) (by omega) rfl rfl rfl rfl (Nat.lt_succ_self _) (Nat.le_of_ble_eq_true rfl) (Nat.le_of_ble_eq_true rfl) rfl ?_
  refine go_iconst (pc' := 6) cx 0 dX0_readSum_5 rfl rfl ?_
  refine go_istore_n (pc' := 7) cx dX0_readSum_6 (ltn rfl) [(2, .int 0), (0, .ref (E.2.1 2)), (1, .int o1)] rfl rfl ?_
  refine readSum_loop hn ht hsz hr hsz1 d hd hA hF hC cx 160 0 ((F S).1) (apC N (F S).2) rfl (hF _ hS) (apC_le hN) ?_
  refine go_vret cx rfl dX0_readSum_62 ?_
  exact Zu.mk (by unfold lvF; rw [apC_app])

set_option maxHeartbeats 4000000 in
set_option maxRecDepth 20000 in
theorem c_X0_readOne_0 (l : Launch) (E : Ev) {n : Nat} {g : IG} {r : RG} {z : Int64} {t sz : Nat} (hn : 37 ≤ n) (ht : t < 6) (hsz : sz ≤ 160) (hr : RdR r t) (hsz1 : g 2 1 = nI sz) (d : Nat) (hd : 8 ≤ d) (hA : BdA (advS (g 3) sz)) {S : PS} {N : SK} (hS : S.1 ≤ 160) (hN : N.1 ≤ 160) : Ct l E n yX0_readOne cX0_readOne 2 none (d + 1) [.ref (E.2.1 2), .int 5] (stt g t S N) r z (Zu r z (stt g t (on0 (advS (g 3) sz) S).1 (apC N (on0 (advS (g 3) sz) S).2))) := by
  refine Ct.of (lv0 := [(0, .ref (E.2.1 2)), (1, .int 5)]) (by decide) (Nat.le_of_ble_eq_true rfl) rfl ?_
  intro p e s m below meth c cx
  refine go_aload_n (pc' := 1) cx dX0_readOne_0 rfl rfl ?_
  refine go_geti (pc' := 4) cx S.2.2.1 fX0_48 dX0_readOne_1 kq2 (by omega) (ltn rfl) rfl stt_24 rfl ?_
  refine go_sipush (pc' := 7) cx 10005 dX0_readOne_4 rfl rfl ?_
  refine go_icmp_gt (pc' := 10) cx 28 dX0_readOne_7 rfl rfl (fun c7 => ?_) (fun c7 => ?_)
  · have c7n := Int32.not_le.mpr c7
    refine go_aload_n (pc' := 29) cx dX0_readOne_28 rfl rfl ?_
    refine go_geti (pc' := 32) cx S.2.2.1 fX0_48 dX0_readOne_29 kq2 (by omega) (ltn rfl) rfl stt_24 rfl ?_
    refine go_sipush (pc' := 35) cx 10016 dX0_readOne_32 rfl rfl ?_
    refine go_icmp_ne (pc' := 38) cx 67 dX0_readOne_35 rfl rfl (fun c35 => ?_) (fun c35 => ?_)
    · refine go_aload_n (pc' := 68) cx dX0_readOne_67 rfl rfl ?_
      refine go_geti (pc' := 71) cx S.2.2.1 fX0_48 dX0_readOne_68 kq2 (by omega) (ltn rfl) rfl stt_24 rfl ?_
      refine go_sipush (pc' := 74) cx 10012 dX0_readOne_71 rfl rfl ?_
      refine go_icmp_ne (pc' := 77) cx 103 dX0_readOne_74 rfl rfl (fun c74 => ?_) (fun c74 => ?_)
      · refine go_aload_n (pc' := 104) cx dX0_readOne_103 rfl rfl ?_
        refine go_cVu (pc' := 107) cx (c_X0_refuse l E hn ht hsz hr hsz1 (S := S) (N := N)) mX0_refuse lX0_51 dX0_readOne_104 kq2 (ltn rfl) (by omega) rfl rfl rfl rfl (by omega) (Nat.le_of_ble_eq_true rfl) (Nat.le_of_ble_eq_true rfl) rfl ?_
        refine go_vret cx rfl dX0_readOne_107 ?_
        exact Zu.mk (by first | (simp only [on0, c7, c7n, c35, c74, if_true, if_false, or_true, true_or, or_self, apC_app, apC_1]; done) | (simp only [on0, c7, c7n, c35, c74, if_true, if_false, or_true, true_or, or_self, apC_app, apC_1]; rfl) | (simp [on0, c7, c7n, c35, c74, if_true, if_false, or_true, true_or, or_self, apC_app, apC_1]; done) | (simp [on0, c7, c7n, c35, c74, if_true, if_false, or_true, true_or, or_self, apC_app, apC_1]; rfl))
      · refine go_iload_n (pc' := 78) cx dX0_readOne_77 rfl rfl ?_
        refine go_iconst (pc' := 79) cx 5 dX0_readOne_78 rfl rfl ?_
        refine go_icmp_ge (pc' := 82) cx 103 dX0_readOne_79 rfl rfl (fun _ => ?_) (fun hh => absurd hh (by decide))
        refine go_aload_n (pc' := 104) cx dX0_readOne_103 rfl rfl ?_
        refine go_cVu (pc' := 107) cx (c_X0_refuse l E hn ht hsz hr hsz1 (S := S) (N := N)) mX0_refuse lX0_51 dX0_readOne_104 kq2 (ltn rfl) (by omega) rfl rfl rfl rfl (by omega) (Nat.le_of_ble_eq_true rfl) (Nat.le_of_ble_eq_true rfl) rfl ?_
        refine go_vret cx rfl dX0_readOne_107 ?_
        exact Zu.mk (by first | (simp only [on0, c7, c7n, c35, c74, if_true, if_false, or_true, true_or, or_self, apC_app, apC_1]; done) | (simp only [on0, c7, c7n, c35, c74, if_true, if_false, or_true, true_or, or_self, apC_app, apC_1]; rfl) | (simp [on0, c7, c7n, c35, c74, if_true, if_false, or_true, true_or, or_self, apC_app, apC_1]; done) | (simp [on0, c7, c7n, c35, c74, if_true, if_false, or_true, true_or, or_self, apC_app, apC_1]; rfl))
    · refine go_iload_n (pc' := 39) cx dX0_readOne_38 rfl rfl ?_
      refine go_iconst (pc' := 40) cx 5 dX0_readOne_39 rfl rfl ?_
      refine go_icmp_ge (pc' := 43) cx 67 dX0_readOne_40 rfl rfl (fun _ => ?_) (fun hh => absurd hh (by decide))
      refine go_aload_n (pc' := 68) cx dX0_readOne_67 rfl rfl ?_
      refine go_geti (pc' := 71) cx S.2.2.1 fX0_48 dX0_readOne_68 kq2 (by omega) (ltn rfl) rfl stt_24 rfl ?_
      refine go_sipush (pc' := 74) cx 10012 dX0_readOne_71 rfl rfl ?_
      refine go_icmp_ne (pc' := 77) cx 103 dX0_readOne_74 rfl rfl (fun c74 => ?_) (fun c74 => ?_)
      · refine go_aload_n (pc' := 104) cx dX0_readOne_103 rfl rfl ?_
        refine go_cVu (pc' := 107) cx (c_X0_refuse l E hn ht hsz hr hsz1 (S := S) (N := N)) mX0_refuse lX0_51 dX0_readOne_104 kq2 (ltn rfl) (by omega) rfl rfl rfl rfl (by omega) (Nat.le_of_ble_eq_true rfl) (Nat.le_of_ble_eq_true rfl) rfl ?_
        refine go_vret cx rfl dX0_readOne_107 ?_
        exact Zu.mk (by first | (simp only [on0, c7, c7n, c35, c74, if_true, if_false, or_true, true_or, or_self, apC_app, apC_1]; done) | (simp only [on0, c7, c7n, c35, c74, if_true, if_false, or_true, true_or, or_self, apC_app, apC_1]; rfl) | (simp [on0, c7, c7n, c35, c74, if_true, if_false, or_true, true_or, or_self, apC_app, apC_1]; done) | (simp [on0, c7, c7n, c35, c74, if_true, if_false, or_true, true_or, or_self, apC_app, apC_1]; rfl))
      · refine go_iload_n (pc' := 78) cx dX0_readOne_77 rfl rfl ?_
        refine go_iconst (pc' := 79) cx 5 dX0_readOne_78 rfl rfl ?_
        refine go_icmp_ge (pc' := 82) cx 103 dX0_readOne_79 rfl rfl (fun _ => ?_) (fun hh => absurd hh (by decide))
        refine go_aload_n (pc' := 104) cx dX0_readOne_103 rfl rfl ?_
        refine go_cVu (pc' := 107) cx (c_X0_refuse l E hn ht hsz hr hsz1 (S := S) (N := N)) mX0_refuse lX0_51 dX0_readOne_104 kq2 (ltn rfl) (by omega) rfl rfl rfl rfl (by omega) (Nat.le_of_ble_eq_true rfl) (Nat.le_of_ble_eq_true rfl) rfl ?_
        refine go_vret cx rfl dX0_readOne_107 ?_
        exact Zu.mk (by first | (simp only [on0, c7, c7n, c35, c74, if_true, if_false, or_true, true_or, or_self, apC_app, apC_1]; done) | (simp only [on0, c7, c7n, c35, c74, if_true, if_false, or_true, true_or, or_self, apC_app, apC_1]; rfl) | (simp [on0, c7, c7n, c35, c74, if_true, if_false, or_true, true_or, or_self, apC_app, apC_1]; done) | (simp [on0, c7, c7n, c35, c74, if_true, if_false, or_true, true_or, or_self, apC_app, apC_1]; rfl))
  · have c7n := Int32.not_lt.mp c7
    refine go_aload_n (pc' := 11) cx dX0_readOne_10 rfl rfl ?_
    refine go_getr (pc' := 14) cx (5 + 4 * t) fX0_19 dX0_readOne_11 kq2 (by omega) (ltn rfl) rfl hr.2.1 rfl ?_
    refine go_aload_n (pc' := 15) cx dX0_readOne_14 rfl rfl ?_
    refine go_geti (pc' := 18) cx S.2.2.1 fX0_48 dX0_readOne_15 kq2 (by omega) (ltn rfl) rfl stt_24 rfl ?_
    refine go_cVu (pc' := 21) cx (c_X3_add l E hn ht hsz hr hsz1 (S := S) (N := N) hN S.2.2.1) mX3_add lX0_57 dX0_readOne_18 (txt_k' _ ht).1 (ltn rfl) (by omega) rfl rfl rfl rfl (by omega) (Nat.le_of_ble_eq_true rfl) (Nat.le_of_ble_eq_true rfl) rfl ?_
    refine go_aload_n (pc' := 22) cx dX0_readOne_21 rfl rfl ?_
    refine go_cVu (pc' := 25) cx (c_X0_advance l E hn ht hsz hr hsz1 (S := S) (N := (addC N S.2.2.1)) hS) mX0_advance lX0_32 dX0_readOne_22 kq2 (ltn rfl) (by omega) rfl rfl rfl rfl (by omega) (Nat.le_of_ble_eq_true rfl) (Nat.le_of_ble_eq_true rfl) rfl ?_
    refine go_goto cx 107 dX0_readOne_25 rfl ?_
    refine go_vret cx rfl dX0_readOne_107 ?_
    exact Zu.mk (by first | (simp only [on0, c7, c7n, if_true, if_false, or_true, true_or, or_self, apC_app, apC_1]; done) | (simp only [on0, c7, c7n, if_true, if_false, or_true, true_or, or_self, apC_app, apC_1]; rfl) | (simp [on0, c7, c7n, if_true, if_false, or_true, true_or, or_self, apC_app, apC_1]; done) | (simp [on0, c7, c7n, if_true, if_false, or_true, true_or, or_self, apC_app, apC_1]; rfl))

set_option maxHeartbeats 4000000 in
set_option maxRecDepth 20000 in
theorem c_X0_readOne_s (l : Launch) (E : Ev) {n : Nat} {g : IG} {r : RG} {z : Int64} {t sz : Nat} (hn : 37 ≤ n) (ht : t < 6) (hsz : sz ≤ 160) (hr : RdR r t) (hsz1 : g 2 1 = nI sz) (d d1 d2 : Nat) (hd : 8 ≤ d) (hd1 : d1 ≤ d) (hd2 : d2 ≤ d) (hA : BdA (advS (g 3) sz)) {j : Nat} (hj : j < 5) {F1 F2 : PF} (hF1 : Bd F1) (hF2 : Bd F2) (hC1 : RdC l E n g r z t yX0_readOne cX0_readOne 2 d1 (nI (j + 1)) F1) (hC2 : RdC l E n g r z t yX0_readOr cX0_readOr 3 d2 (nI (j + 1)) F2) {S : PS} {N : SK} (hS : S.1 ≤ 160) (hN : N.1 ≤ 160) : Ct l E n yX0_readOne cX0_readOne 2 none (d + 1) [.ref (E.2.1 2), .int (nI j)] (stt g t S N) r z (Zu r z (stt g t (onS (advS (g 3) sz) F1 F2 S).1 (apC N (onS (advS (g 3) sz) F1 F2 S).2))) := by
  refine Ct.of (lv0 := [(0, .ref (E.2.1 2)), (1, .int (nI j))]) (by decide) (Nat.le_of_ble_eq_true rfl) rfl ?_
  intro p e s m below meth c cx
  refine go_aload_n (pc' := 1) cx dX0_readOne_0 rfl rfl ?_
  refine go_geti (pc' := 4) cx S.2.2.1 fX0_48 dX0_readOne_1 kq2 (by omega) (ltn rfl) rfl stt_24 rfl ?_
  refine go_sipush (pc' := 7) cx 10005 dX0_readOne_4 rfl rfl ?_
  refine go_icmp_gt (pc' := 10) cx 28 dX0_readOne_7 rfl rfl (fun c7 => ?_) (fun c7 => ?_)
  · have c7n := Int32.not_le.mpr c7
    refine go_aload_n (pc' := 29) cx dX0_readOne_28 rfl rfl ?_
    refine go_geti (pc' := 32) cx S.2.2.1 fX0_48 dX0_readOne_29 kq2 (by omega) (ltn rfl) rfl stt_24 rfl ?_
    refine go_sipush (pc' := 35) cx 10016 dX0_readOne_32 rfl rfl ?_
    refine go_icmp_ne (pc' := 38) cx 67 dX0_readOne_35 rfl rfl (fun c35 => ?_) (fun c35 => ?_)
    · refine go_aload_n (pc' := 68) cx dX0_readOne_67 rfl rfl ?_
      refine go_geti (pc' := 71) cx S.2.2.1 fX0_48 dX0_readOne_68 kq2 (by omega) (ltn rfl) rfl stt_24 rfl ?_
      refine go_sipush (pc' := 74) cx 10012 dX0_readOne_71 rfl rfl ?_
      refine go_icmp_ne (pc' := 77) cx 103 dX0_readOne_74 rfl rfl (fun c74 => ?_) (fun c74 => ?_)
      · refine go_aload_n (pc' := 104) cx dX0_readOne_103 rfl rfl ?_
        refine go_cVu (pc' := 107) cx (c_X0_refuse l E hn ht hsz hr hsz1 (S := S) (N := N)) mX0_refuse lX0_51 dX0_readOne_104 kq2 (ltn rfl) (by omega) rfl rfl rfl rfl (by omega) (Nat.le_of_ble_eq_true rfl) (Nat.le_of_ble_eq_true rfl) rfl ?_
        refine go_vret cx rfl dX0_readOne_107 ?_
        exact Zu.mk (by first | (simp only [onS, c7, c7n, c35, c74, if_true, if_false, or_true, true_or, or_self, apC_app, apC_1]; done) | (simp only [onS, c7, c7n, c35, c74, if_true, if_false, or_true, true_or, or_self, apC_app, apC_1]; rfl) | (simp [onS, c7, c7n, c35, c74, if_true, if_false, or_true, true_or, or_self, apC_app, apC_1]; done) | (simp [onS, c7, c7n, c35, c74, if_true, if_false, or_true, true_or, or_self, apC_app, apC_1]; rfl))
      · refine go_iload_n (pc' := 78) cx dX0_readOne_77 rfl rfl ?_
        refine go_iconst (pc' := 79) cx 5 dX0_readOne_78 rfl rfl ?_
        refine go_icmp_ge (pc' := 82) cx 103 dX0_readOne_79 rfl rfl (fun hh => absurd ((nI_leI (a := 5) (b := j) (by omega) (by omega)).mp hh) (by omega)) (fun _ => ?_)
        refine go_aload_n (pc' := 83) cx dX0_readOne_82 rfl rfl ?_
        refine go_cVu (pc' := 86) cx (c_X0_advance l E hn ht hsz hr hsz1 (S := S) (N := N) hS) mX0_advance lX0_32 dX0_readOne_83 kq2 (ltn rfl) (by omega) rfl rfl rfl rfl (by omega) (Nat.le_of_ble_eq_true rfl) (Nat.le_of_ble_eq_true rfl) rfl ?_
        refine go_aload_n (pc' := 87) cx dX0_readOne_86 rfl rfl ?_
        refine go_iload_n (pc' := 88) cx dX0_readOne_87 rfl rfl ?_
        refine go_iconst (pc' := 89) cx 1 dX0_readOne_88 rfl rfl ?_
        refine go_iadd (pc' := 90) cx dX0_readOne_89 rfl ?_
        refine go_val (w := .int (nI (j + 1))) (congrArg Value.int (nI_add j 1)) ?_
        refine go_cVu (pc' := 93) cx (hC2 (advS (g 3) sz S) N (advS_le hS hsz) hN) mX0_readOr lX0_39 dX0_readOne_90 kq2 (ltn rfl) (by omega) rfl rfl rfl rfl (by omega) (Nat.le_of_ble_eq_true rfl) (Nat.le_of_ble_eq_true rfl) rfl ?_
        refine go_aload_n (pc' := 94) cx dX0_readOne_93 rfl rfl ?_
        refine go_sipush (pc' := 97) cx 10013 dX0_readOne_94 rfl rfl ?_
        refine go_cVu (pc' := 100) cx (c_X0_demand l E hn ht hsz hr hsz1 (S := (F2 (advS (g 3) sz S)).1) (N := (apC N (F2 (advS (g 3) sz S)).2)) (hF2 _ (advS_le hS hsz)) 10013) mX0_demand lX0_35 dX0_readOne_97 kq2 (ltn rfl) (by omega) rfl rfl rfl rfl (by omega) (Nat.le_of_ble_eq_true rfl) (Nat.le_of_ble_eq_true rfl) rfl ?_
        refine go_goto cx 107 dX0_readOne_100 rfl ?_
        refine go_vret cx rfl dX0_readOne_107 ?_
        exact Zu.mk (by first | (simp only [onS, c7, c7n, c35, c74, if_true, if_false, or_true, true_or, or_self, apC_app, apC_1]; done) | (simp only [onS, c7, c7n, c35, c74, if_true, if_false, or_true, true_or, or_self, apC_app, apC_1]; rfl) | (simp [onS, c7, c7n, c35, c74, if_true, if_false, or_true, true_or, or_self, apC_app, apC_1]; done) | (simp [onS, c7, c7n, c35, c74, if_true, if_false, or_true, true_or, or_self, apC_app, apC_1]; rfl))
    · refine go_iload_n (pc' := 39) cx dX0_readOne_38 rfl rfl ?_
      refine go_iconst (pc' := 40) cx 5 dX0_readOne_39 rfl rfl ?_
      refine go_icmp_ge (pc' := 43) cx 67 dX0_readOne_40 rfl rfl (fun hh => absurd ((nI_leI (a := 5) (b := j) (by omega) (by omega)).mp hh) (by omega)) (fun _ => ?_)
      refine go_aload_n (pc' := 44) cx dX0_readOne_43 rfl rfl ?_
      refine go_cVu (pc' := 47) cx (c_X0_advance l E hn ht hsz hr hsz1 (S := S) (N := N) hS) mX0_advance lX0_32 dX0_readOne_44 kq2 (ltn rfl) (by omega) rfl rfl rfl rfl (by omega) (Nat.le_of_ble_eq_true rfl) (Nat.le_of_ble_eq_true rfl) rfl ?_
      refine go_aload_n (pc' := 48) cx dX0_readOne_47 rfl rfl ?_
      refine go_iload_n (pc' := 49) cx dX0_readOne_48 rfl rfl ?_
      refine go_iconst (pc' := 50) cx 1 dX0_readOne_49 rfl rfl ?_
      refine go_iadd (pc' := 51) cx dX0_readOne_50 rfl ?_
      refine go_val (w := .int (nI (j + 1))) (congrArg Value.int (nI_add j 1)) ?_
      refine go_cVu (pc' := 54) cx (hC1 (advS (g 3) sz S) N (advS_le hS hsz) hN) mX0_readOne lX0_69 dX0_readOne_51 kq2 (ltn rfl) (by omega) rfl rfl rfl rfl (by omega) (Nat.le_of_ble_eq_true rfl) (Nat.le_of_ble_eq_true rfl) rfl ?_
      refine go_aload_n (pc' := 55) cx dX0_readOne_54 rfl rfl ?_
      refine go_getr (pc' := 58) cx (5 + 4 * t) fX0_19 dX0_readOne_55 kq2 (by omega) (ltn rfl) rfl hr.2.1 rfl ?_
      refine go_sipush (pc' := 61) cx 10020 dX0_readOne_58 rfl rfl ?_
      refine go_cVu (pc' := 64) cx (c_X3_add l E hn ht hsz hr hsz1 (S := (F1 (advS (g 3) sz S)).1) (N := (apC N (F1 (advS (g 3) sz S)).2)) (apC_le hN) 10020) mX3_add lX0_57 dX0_readOne_61 (txt_k' _ ht).1 (ltn rfl) (by omega) rfl rfl rfl rfl (by omega) (Nat.le_of_ble_eq_true rfl) (Nat.le_of_ble_eq_true rfl) rfl ?_
      refine go_goto cx 107 dX0_readOne_64 rfl ?_
      refine go_vret cx rfl dX0_readOne_107 ?_
      exact Zu.mk (by first | (simp only [onS, c7, c7n, c35, if_true, if_false, or_true, true_or, or_self, apC_app, apC_1]; done) | (simp only [onS, c7, c7n, c35, if_true, if_false, or_true, true_or, or_self, apC_app, apC_1]; rfl) | (simp [onS, c7, c7n, c35, if_true, if_false, or_true, true_or, or_self, apC_app, apC_1]; done) | (simp [onS, c7, c7n, c35, if_true, if_false, or_true, true_or, or_self, apC_app, apC_1]; rfl))
  · have c7n := Int32.not_lt.mp c7
    refine go_aload_n (pc' := 11) cx dX0_readOne_10 rfl rfl ?_
    refine go_getr (pc' := 14) cx (5 + 4 * t) fX0_19 dX0_readOne_11 kq2 (by omega) (ltn rfl) rfl hr.2.1 rfl ?_
    refine go_aload_n (pc' := 15) cx dX0_readOne_14 rfl rfl ?_
    refine go_geti (pc' := 18) cx S.2.2.1 fX0_48 dX0_readOne_15 kq2 (by omega) (ltn rfl) rfl stt_24 rfl ?_
    refine go_cVu (pc' := 21) cx (c_X3_add l E hn ht hsz hr hsz1 (S := S) (N := N) hN S.2.2.1) mX3_add lX0_57 dX0_readOne_18 (txt_k' _ ht).1 (ltn rfl) (by omega) rfl rfl rfl rfl (by omega) (Nat.le_of_ble_eq_true rfl) (Nat.le_of_ble_eq_true rfl) rfl ?_
    refine go_aload_n (pc' := 22) cx dX0_readOne_21 rfl rfl ?_
    refine go_cVu (pc' := 25) cx (c_X0_advance l E hn ht hsz hr hsz1 (S := S) (N := (addC N S.2.2.1)) hS) mX0_advance lX0_32 dX0_readOne_22 kq2 (ltn rfl) (by omega) rfl rfl rfl rfl (by omega) (Nat.le_of_ble_eq_true rfl) (Nat.le_of_ble_eq_true rfl) rfl ?_
    refine go_goto cx 107 dX0_readOne_25 rfl ?_
    refine go_vret cx rfl dX0_readOne_107 ?_
    exact Zu.mk (by first | (simp only [onS, c7, c7n, if_true, if_false, or_true, true_or, or_self, apC_app, apC_1]; done) | (simp only [onS, c7, c7n, if_true, if_false, or_true, true_or, or_self, apC_app, apC_1]; rfl) | (simp [onS, c7, c7n, if_true, if_false, or_true, true_or, or_self, apC_app, apC_1]; done) | (simp [onS, c7, c7n, if_true, if_false, or_true, true_or, or_self, apC_app, apC_1]; rfl))

set_option maxHeartbeats 4000000 in
set_option maxRecDepth 20000 in
theorem c_X0_readNot_0 (l : Launch) (E : Ev) {n : Nat} {g : IG} {r : RG} {z : Int64} {t sz : Nat} (hn : 37 ≤ n) (ht : t < 6) (hsz : sz ≤ 160) (hr : RdR r t) (hsz1 : g 2 1 = nI sz) (d : Nat) (hd : 8 ≤ d) (hA : BdA (advS (g 3) sz)) {F : PF} (hF : Bd F) (hC : RdC l E n g r z t yX0_readSum cX0_readSum 4 d 5 F) {S : PS} {N : SK} (hS : S.1 ≤ 160) (hN : N.1 ≤ 160) : Ct l E n yX0_readNot cX0_readNot 3 none (d + 1) [.ref (E.2.1 2), .int 5] (stt g t S N) r z (Zu r z (stt g t (cmF (advS (g 3) sz) F S).1 (apC N (cmF (advS (g 3) sz) F S).2))) := by
  refine Ct.of (lv0 := [(0, .ref (E.2.1 2)), (1, .int 5)]) (by decide) (Nat.le_of_ble_eq_true rfl) rfl ?_
  intro p e s m below meth c cx
  refine go_aload_n (pc' := 1) cx dX0_readNot_0 rfl rfl ?_
  refine go_geti (pc' := 4) cx S.2.2.1 fX0_48 dX0_readNot_1 kq2 (by omega) (ltn rfl) rfl stt_24 rfl ?_
  refine go_sipush (pc' := 7) cx 10011 dX0_readNot_4 rfl rfl ?_
  refine go_icmp_ne (pc' := 10) cx 37 dX0_readNot_7 rfl rfl (fun c7 => ?_) (fun c7 => ?_)
  · refine go_aload_n (pc' := 38) cx dX0_readNot_37 rfl rfl ?_
    refine go_iload_n (pc' := 39) cx dX0_readNot_38 rfl rfl ?_
    refine go_cVu (pc' := 42) cx (hC S N hS hN) mX0_readSum lX0_63 dX0_readNot_39 kq2 (ltn rfl) (by omega) rfl rfl rfl rfl (by omega) (Nat.le_of_ble_eq_true rfl) (Nat.le_of_ble_eq_true rfl) rfl ?_
    refine go_aload_n (pc' := 43) cx dX0_readNot_42 rfl rfl ?_
    refine go_geti (pc' := 46) cx (((F S).1).2.2.1) fX0_48 dX0_readNot_43 kq2 (by omega) (ltn rfl) rfl stt_24 rfl ?_
    refine go_sipush (pc' := 49) cx 10018 dX0_readNot_46 rfl rfl ?_
    refine go_icmp_eq (pc' := 52) cx 62 dX0_readNot_49 rfl rfl (fun c49 => ?_) (fun c49 => ?_)
    · refine go_aload_n (pc' := 63) cx dX0_readNot_62 rfl rfl ?_
      refine go_geti (pc' := 66) cx (((F S).1).2.2.1) fX0_48 dX0_readNot_63 kq2 (by omega) (ltn rfl) rfl stt_24 rfl ?_
      refine go_istore_n (pc' := 67) cx dX0_readNot_66 (ltn rfl) [(2, .int (((F S).1).2.2.1)), (0, .ref (E.2.1 2)), (1, .int 5)] rfl rfl ?_
      refine go_aload_n (pc' := 68) cx dX0_readNot_67 rfl rfl ?_
      refine go_cVu (pc' := 71) cx (c_X0_advance l E hn ht hsz hr hsz1 (S := (F S).1) (N := (apC N (F S).2)) (hF _ hS)) mX0_advance lX0_32 dX0_readNot_68 kq2 (ltn rfl) (by omega) rfl rfl rfl rfl (by omega) (Nat.le_of_ble_eq_true rfl) (Nat.le_of_ble_eq_true rfl) rfl ?_
      refine go_aload_n (pc' := 72) cx dX0_readNot_71 rfl rfl ?_
      refine go_iload_n (pc' := 73) cx dX0_readNot_72 rfl rfl ?_
      refine go_cVu (pc' := 76) cx (hC (advS (g 3) sz ((F S).1)) (apC N (F S).2) (advS_le (hF _ hS) hsz) (apC_le hN)) mX0_readSum lX0_63 dX0_readNot_73 kq2 (ltn rfl) (by omega) rfl rfl rfl rfl (by omega) (Nat.le_of_ble_eq_true rfl) (Nat.le_of_ble_eq_true rfl) rfl ?_
      refine go_aload_n (pc' := 77) cx dX0_readNot_76 rfl rfl ?_
      refine go_getr (pc' := 80) cx (5 + 4 * t) fX0_19 dX0_readNot_77 kq2 (by omega) (ltn rfl) rfl hr.2.1 rfl ?_
      refine go_iload_n (pc' := 81) cx dX0_readNot_80 rfl rfl ?_
      refine go_cVu (pc' := 84) cx (c_X3_add l E hn ht hsz hr hsz1 (S := (F (advS (g 3) sz ((F S).1))).1) (N := (apC (apC N (F S).2) (F (advS (g 3) sz ((F S).1))).2)) (apC_le (apC_le hN)) (((F S).1).2.2.1)) mX3_add lX0_57 dX0_readNot_81 (txt_k' _ ht).1 (ltn rfl) (by omega) rfl rfl rfl rfl (by omega) (Nat.le_of_ble_eq_true rfl) (Nat.le_of_ble_eq_true rfl) rfl ?_
      refine go_vret cx rfl dX0_readNot_84 ?_
      exact Zu.mk (by first | (simp only [cmF, c7, c49, if_true, if_false, or_true, true_or, or_self, apC_app, apC_1]; done) | (simp only [cmF, c7, c49, if_true, if_false, or_true, true_or, or_self, apC_app, apC_1]; rfl) | (simp [cmF, c7, c49, if_true, if_false, or_true, true_or, or_self, apC_app, apC_1]; done) | (simp [cmF, c7, c49, if_true, if_false, or_true, true_or, or_self, apC_app, apC_1]; rfl))
    · refine go_aload_n (pc' := 53) cx dX0_readNot_52 rfl rfl ?_
      refine go_geti (pc' := 56) cx (((F S).1).2.2.1) fX0_48 dX0_readNot_53 kq2 (by omega) (ltn rfl) rfl stt_24 rfl ?_
      refine go_sipush (pc' := 59) cx 10019 dX0_readNot_56 rfl rfl ?_
      refine go_icmp_ne (pc' := 62) cx 84 dX0_readNot_59 rfl rfl (fun c59 => ?_) (fun c59 => ?_)
      · refine go_vret cx rfl dX0_readNot_84 ?_
        exact Zu.mk (by first | (simp only [cmF, c7, c49, c59, if_true, if_false, or_true, true_or, or_self, apC_app, apC_1]; done) | (simp only [cmF, c7, c49, c59, if_true, if_false, or_true, true_or, or_self, apC_app, apC_1]; rfl) | (simp [cmF, c7, c49, c59, if_true, if_false, or_true, true_or, or_self, apC_app, apC_1]; done) | (simp [cmF, c7, c49, c59, if_true, if_false, or_true, true_or, or_self, apC_app, apC_1]; rfl))
      · refine go_aload_n (pc' := 63) cx dX0_readNot_62 rfl rfl ?_
        refine go_geti (pc' := 66) cx (((F S).1).2.2.1) fX0_48 dX0_readNot_63 kq2 (by omega) (ltn rfl) rfl stt_24 rfl ?_
        refine go_istore_n (pc' := 67) cx dX0_readNot_66 (ltn rfl) [(2, .int (((F S).1).2.2.1)), (0, .ref (E.2.1 2)), (1, .int 5)] rfl rfl ?_
        refine go_aload_n (pc' := 68) cx dX0_readNot_67 rfl rfl ?_
        refine go_cVu (pc' := 71) cx (c_X0_advance l E hn ht hsz hr hsz1 (S := (F S).1) (N := (apC N (F S).2)) (hF _ hS)) mX0_advance lX0_32 dX0_readNot_68 kq2 (ltn rfl) (by omega) rfl rfl rfl rfl (by omega) (Nat.le_of_ble_eq_true rfl) (Nat.le_of_ble_eq_true rfl) rfl ?_
        refine go_aload_n (pc' := 72) cx dX0_readNot_71 rfl rfl ?_
        refine go_iload_n (pc' := 73) cx dX0_readNot_72 rfl rfl ?_
        refine go_cVu (pc' := 76) cx (hC (advS (g 3) sz ((F S).1)) (apC N (F S).2) (advS_le (hF _ hS) hsz) (apC_le hN)) mX0_readSum lX0_63 dX0_readNot_73 kq2 (ltn rfl) (by omega) rfl rfl rfl rfl (by omega) (Nat.le_of_ble_eq_true rfl) (Nat.le_of_ble_eq_true rfl) rfl ?_
        refine go_aload_n (pc' := 77) cx dX0_readNot_76 rfl rfl ?_
        refine go_getr (pc' := 80) cx (5 + 4 * t) fX0_19 dX0_readNot_77 kq2 (by omega) (ltn rfl) rfl hr.2.1 rfl ?_
        refine go_iload_n (pc' := 81) cx dX0_readNot_80 rfl rfl ?_
        refine go_cVu (pc' := 84) cx (c_X3_add l E hn ht hsz hr hsz1 (S := (F (advS (g 3) sz ((F S).1))).1) (N := (apC (apC N (F S).2) (F (advS (g 3) sz ((F S).1))).2)) (apC_le (apC_le hN)) (((F S).1).2.2.1)) mX3_add lX0_57 dX0_readNot_81 (txt_k' _ ht).1 (ltn rfl) (by omega) rfl rfl rfl rfl (by omega) (Nat.le_of_ble_eq_true rfl) (Nat.le_of_ble_eq_true rfl) rfl ?_
        refine go_vret cx rfl dX0_readNot_84 ?_
        exact Zu.mk (by first | (simp only [cmF, c7, c49, c59, if_true, if_false, or_true, true_or, or_self, apC_app, apC_1]; done) | (simp only [cmF, c7, c49, c59, if_true, if_false, or_true, true_or, or_self, apC_app, apC_1]; rfl) | (simp [cmF, c7, c49, c59, if_true, if_false, or_true, true_or, or_self, apC_app, apC_1]; done) | (simp [cmF, c7, c49, c59, if_true, if_false, or_true, true_or, or_self, apC_app, apC_1]; rfl))
  · refine go_iload_n (pc' := 11) cx dX0_readNot_10 rfl rfl ?_
    refine go_iconst (pc' := 12) cx 5 dX0_readNot_11 rfl rfl ?_
    refine go_icmp_ge (pc' := 15) cx 37 dX0_readNot_12 rfl rfl (fun _ => ?_) (fun hh => absurd hh (by decide))
    refine go_aload_n (pc' := 38) cx dX0_readNot_37 rfl rfl ?_
    refine go_iload_n (pc' := 39) cx dX0_readNot_38 rfl rfl ?_
    refine go_cVu (pc' := 42) cx (hC S N hS hN) mX0_readSum lX0_63 dX0_readNot_39 kq2 (ltn rfl) (by omega) rfl rfl rfl rfl (by omega) (Nat.le_of_ble_eq_true rfl) (Nat.le_of_ble_eq_true rfl) rfl ?_
    refine go_aload_n (pc' := 43) cx dX0_readNot_42 rfl rfl ?_
    refine go_geti (pc' := 46) cx (((F S).1).2.2.1) fX0_48 dX0_readNot_43 kq2 (by omega) (ltn rfl) rfl stt_24 rfl ?_
    refine go_sipush (pc' := 49) cx 10018 dX0_readNot_46 rfl rfl ?_
    refine go_icmp_eq (pc' := 52) cx 62 dX0_readNot_49 rfl rfl (fun c49 => ?_) (fun c49 => ?_)
    · refine go_aload_n (pc' := 63) cx dX0_readNot_62 rfl rfl ?_
      refine go_geti (pc' := 66) cx (((F S).1).2.2.1) fX0_48 dX0_readNot_63 kq2 (by omega) (ltn rfl) rfl stt_24 rfl ?_
      refine go_istore_n (pc' := 67) cx dX0_readNot_66 (ltn rfl) [(2, .int (((F S).1).2.2.1)), (0, .ref (E.2.1 2)), (1, .int 5)] rfl rfl ?_
      refine go_aload_n (pc' := 68) cx dX0_readNot_67 rfl rfl ?_
      refine go_cVu (pc' := 71) cx (c_X0_advance l E hn ht hsz hr hsz1 (S := (F S).1) (N := (apC N (F S).2)) (hF _ hS)) mX0_advance lX0_32 dX0_readNot_68 kq2 (ltn rfl) (by omega) rfl rfl rfl rfl (by omega) (Nat.le_of_ble_eq_true rfl) (Nat.le_of_ble_eq_true rfl) rfl ?_
      refine go_aload_n (pc' := 72) cx dX0_readNot_71 rfl rfl ?_
      refine go_iload_n (pc' := 73) cx dX0_readNot_72 rfl rfl ?_
      refine go_cVu (pc' := 76) cx (hC (advS (g 3) sz ((F S).1)) (apC N (F S).2) (advS_le (hF _ hS) hsz) (apC_le hN)) mX0_readSum lX0_63 dX0_readNot_73 kq2 (ltn rfl) (by omega) rfl rfl rfl rfl (by omega) (Nat.le_of_ble_eq_true rfl) (Nat.le_of_ble_eq_true rfl) rfl ?_
      refine go_aload_n (pc' := 77) cx dX0_readNot_76 rfl rfl ?_
      refine go_getr (pc' := 80) cx (5 + 4 * t) fX0_19 dX0_readNot_77 kq2 (by omega) (ltn rfl) rfl hr.2.1 rfl ?_
      refine go_iload_n (pc' := 81) cx dX0_readNot_80 rfl rfl ?_
      refine go_cVu (pc' := 84) cx (c_X3_add l E hn ht hsz hr hsz1 (S := (F (advS (g 3) sz ((F S).1))).1) (N := (apC (apC N (F S).2) (F (advS (g 3) sz ((F S).1))).2)) (apC_le (apC_le hN)) (((F S).1).2.2.1)) mX3_add lX0_57 dX0_readNot_81 (txt_k' _ ht).1 (ltn rfl) (by omega) rfl rfl rfl rfl (by omega) (Nat.le_of_ble_eq_true rfl) (Nat.le_of_ble_eq_true rfl) rfl ?_
      refine go_vret cx rfl dX0_readNot_84 ?_
      exact Zu.mk (by first | (simp only [cmF, c7, c49, if_true, if_false, or_true, true_or, or_self, apC_app, apC_1]; done) | (simp only [cmF, c7, c49, if_true, if_false, or_true, true_or, or_self, apC_app, apC_1]; rfl) | (simp [cmF, c7, c49, if_true, if_false, or_true, true_or, or_self, apC_app, apC_1]; done) | (simp [cmF, c7, c49, if_true, if_false, or_true, true_or, or_self, apC_app, apC_1]; rfl))
    · refine go_aload_n (pc' := 53) cx dX0_readNot_52 rfl rfl ?_
      refine go_geti (pc' := 56) cx (((F S).1).2.2.1) fX0_48 dX0_readNot_53 kq2 (by omega) (ltn rfl) rfl stt_24 rfl ?_
      refine go_sipush (pc' := 59) cx 10019 dX0_readNot_56 rfl rfl ?_
      refine go_icmp_ne (pc' := 62) cx 84 dX0_readNot_59 rfl rfl (fun c59 => ?_) (fun c59 => ?_)
      · refine go_vret cx rfl dX0_readNot_84 ?_
        exact Zu.mk (by first | (simp only [cmF, c7, c49, c59, if_true, if_false, or_true, true_or, or_self, apC_app, apC_1]; done) | (simp only [cmF, c7, c49, c59, if_true, if_false, or_true, true_or, or_self, apC_app, apC_1]; rfl) | (simp [cmF, c7, c49, c59, if_true, if_false, or_true, true_or, or_self, apC_app, apC_1]; done) | (simp [cmF, c7, c49, c59, if_true, if_false, or_true, true_or, or_self, apC_app, apC_1]; rfl))
      · refine go_aload_n (pc' := 63) cx dX0_readNot_62 rfl rfl ?_
        refine go_geti (pc' := 66) cx (((F S).1).2.2.1) fX0_48 dX0_readNot_63 kq2 (by omega) (ltn rfl) rfl stt_24 rfl ?_
        refine go_istore_n (pc' := 67) cx dX0_readNot_66 (ltn rfl) [(2, .int (((F S).1).2.2.1)), (0, .ref (E.2.1 2)), (1, .int 5)] rfl rfl ?_
        refine go_aload_n (pc' := 68) cx dX0_readNot_67 rfl rfl ?_
        refine go_cVu (pc' := 71) cx (c_X0_advance l E hn ht hsz hr hsz1 (S := (F S).1) (N := (apC N (F S).2)) (hF _ hS)) mX0_advance lX0_32 dX0_readNot_68 kq2 (ltn rfl) (by omega) rfl rfl rfl rfl (by omega) (Nat.le_of_ble_eq_true rfl) (Nat.le_of_ble_eq_true rfl) rfl ?_
        refine go_aload_n (pc' := 72) cx dX0_readNot_71 rfl rfl ?_
        refine go_iload_n (pc' := 73) cx dX0_readNot_72 rfl rfl ?_
        refine go_cVu (pc' := 76) cx (hC (advS (g 3) sz ((F S).1)) (apC N (F S).2) (advS_le (hF _ hS) hsz) (apC_le hN)) mX0_readSum lX0_63 dX0_readNot_73 kq2 (ltn rfl) (by omega) rfl rfl rfl rfl (by omega) (Nat.le_of_ble_eq_true rfl) (Nat.le_of_ble_eq_true rfl) rfl ?_
        refine go_aload_n (pc' := 77) cx dX0_readNot_76 rfl rfl ?_
        refine go_getr (pc' := 80) cx (5 + 4 * t) fX0_19 dX0_readNot_77 kq2 (by omega) (ltn rfl) rfl hr.2.1 rfl ?_
        refine go_iload_n (pc' := 81) cx dX0_readNot_80 rfl rfl ?_
        refine go_cVu (pc' := 84) cx (c_X3_add l E hn ht hsz hr hsz1 (S := (F (advS (g 3) sz ((F S).1))).1) (N := (apC (apC N (F S).2) (F (advS (g 3) sz ((F S).1))).2)) (apC_le (apC_le hN)) (((F S).1).2.2.1)) mX3_add lX0_57 dX0_readNot_81 (txt_k' _ ht).1 (ltn rfl) (by omega) rfl rfl rfl rfl (by omega) (Nat.le_of_ble_eq_true rfl) (Nat.le_of_ble_eq_true rfl) rfl ?_
        refine go_vret cx rfl dX0_readNot_84 ?_
        exact Zu.mk (by first | (simp only [cmF, c7, c49, c59, if_true, if_false, or_true, true_or, or_self, apC_app, apC_1]; done) | (simp only [cmF, c7, c49, c59, if_true, if_false, or_true, true_or, or_self, apC_app, apC_1]; rfl) | (simp [cmF, c7, c49, c59, if_true, if_false, or_true, true_or, or_self, apC_app, apC_1]; done) | (simp [cmF, c7, c49, c59, if_true, if_false, or_true, true_or, or_self, apC_app, apC_1]; rfl))

set_option maxHeartbeats 4000000 in
set_option maxRecDepth 20000 in
theorem c_X0_readNot_s (l : Launch) (E : Ev) {n : Nat} {g : IG} {r : RG} {z : Int64} {t sz : Nat} (hn : 37 ≤ n) (ht : t < 6) (hsz : sz ≤ 160) (hr : RdR r t) (hsz1 : g 2 1 = nI sz) (d d1 : Nat) (hd : 8 ≤ d) (hd1 : d1 ≤ d) (hA : BdA (advS (g 3) sz)) {j : Nat} (hj : j < 5) {F F1 : PF} (hF : Bd F) (hF1 : Bd F1) (hC : RdC l E n g r z t yX0_readSum cX0_readSum 4 d (nI j) F) (hC1 : RdC l E n g r z t yX0_readNot cX0_readNot 3 d1 (nI (j + 1)) F1) {S : PS} {N : SK} (hS : S.1 ≤ 160) (hN : N.1 ≤ 160) : Ct l E n yX0_readNot cX0_readNot 3 none (d + 1) [.ref (E.2.1 2), .int (nI j)] (stt g t S N) r z (Zu r z (stt g t (ntS (advS (g 3) sz) F1 F S).1 (apC N (ntS (advS (g 3) sz) F1 F S).2))) := by
  refine Ct.of (lv0 := [(0, .ref (E.2.1 2)), (1, .int (nI j))]) (by decide) (Nat.le_of_ble_eq_true rfl) rfl ?_
  intro p e s m below meth c cx
  refine go_aload_n (pc' := 1) cx dX0_readNot_0 rfl rfl ?_
  refine go_geti (pc' := 4) cx S.2.2.1 fX0_48 dX0_readNot_1 kq2 (by omega) (ltn rfl) rfl stt_24 rfl ?_
  refine go_sipush (pc' := 7) cx 10011 dX0_readNot_4 rfl rfl ?_
  refine go_icmp_ne (pc' := 10) cx 37 dX0_readNot_7 rfl rfl (fun c7 => ?_) (fun c7 => ?_)
  · refine go_aload_n (pc' := 38) cx dX0_readNot_37 rfl rfl ?_
    refine go_iload_n (pc' := 39) cx dX0_readNot_38 rfl rfl ?_
    refine go_cVu (pc' := 42) cx (hC S N hS hN) mX0_readSum lX0_63 dX0_readNot_39 kq2 (ltn rfl) (by omega) rfl rfl rfl rfl (by omega) (Nat.le_of_ble_eq_true rfl) (Nat.le_of_ble_eq_true rfl) rfl ?_
    refine go_aload_n (pc' := 43) cx dX0_readNot_42 rfl rfl ?_
    refine go_geti (pc' := 46) cx (((F S).1).2.2.1) fX0_48 dX0_readNot_43 kq2 (by omega) (ltn rfl) rfl stt_24 rfl ?_
    refine go_sipush (pc' := 49) cx 10018 dX0_readNot_46 rfl rfl ?_
    refine go_icmp_eq (pc' := 52) cx 62 dX0_readNot_49 rfl rfl (fun c49 => ?_) (fun c49 => ?_)
    · refine go_aload_n (pc' := 63) cx dX0_readNot_62 rfl rfl ?_
      refine go_geti (pc' := 66) cx (((F S).1).2.2.1) fX0_48 dX0_readNot_63 kq2 (by omega) (ltn rfl) rfl stt_24 rfl ?_
      refine go_istore_n (pc' := 67) cx dX0_readNot_66 (ltn rfl) [(2, .int (((F S).1).2.2.1)), (0, .ref (E.2.1 2)), (1, .int (nI j))] rfl rfl ?_
      refine go_aload_n (pc' := 68) cx dX0_readNot_67 rfl rfl ?_
      refine go_cVu (pc' := 71) cx (c_X0_advance l E hn ht hsz hr hsz1 (S := (F S).1) (N := (apC N (F S).2)) (hF _ hS)) mX0_advance lX0_32 dX0_readNot_68 kq2 (ltn rfl) (by omega) rfl rfl rfl rfl (by omega) (Nat.le_of_ble_eq_true rfl) (Nat.le_of_ble_eq_true rfl) rfl ?_
      refine go_aload_n (pc' := 72) cx dX0_readNot_71 rfl rfl ?_
      refine go_iload_n (pc' := 73) cx dX0_readNot_72 rfl rfl ?_
      refine go_cVu (pc' := 76) cx (hC (advS (g 3) sz ((F S).1)) (apC N (F S).2) (advS_le (hF _ hS) hsz) (apC_le hN)) mX0_readSum lX0_63 dX0_readNot_73 kq2 (ltn rfl) (by omega) rfl rfl rfl rfl (by omega) (Nat.le_of_ble_eq_true rfl) (Nat.le_of_ble_eq_true rfl) rfl ?_
      refine go_aload_n (pc' := 77) cx dX0_readNot_76 rfl rfl ?_
      refine go_getr (pc' := 80) cx (5 + 4 * t) fX0_19 dX0_readNot_77 kq2 (by omega) (ltn rfl) rfl hr.2.1 rfl ?_
      refine go_iload_n (pc' := 81) cx dX0_readNot_80 rfl rfl ?_
      refine go_cVu (pc' := 84) cx (c_X3_add l E hn ht hsz hr hsz1 (S := (F (advS (g 3) sz ((F S).1))).1) (N := (apC (apC N (F S).2) (F (advS (g 3) sz ((F S).1))).2)) (apC_le (apC_le hN)) (((F S).1).2.2.1)) mX3_add lX0_57 dX0_readNot_81 (txt_k' _ ht).1 (ltn rfl) (by omega) rfl rfl rfl rfl (by omega) (Nat.le_of_ble_eq_true rfl) (Nat.le_of_ble_eq_true rfl) rfl ?_
      refine go_vret cx rfl dX0_readNot_84 ?_
      exact Zu.mk (by first | (simp only [ntS, cmF, c7, c49, if_true, if_false, or_true, true_or, or_self, apC_app, apC_1]; done) | (simp only [ntS, cmF, c7, c49, if_true, if_false, or_true, true_or, or_self, apC_app, apC_1]; rfl) | (simp [ntS, cmF, c7, c49, if_true, if_false, or_true, true_or, or_self, apC_app, apC_1]; done) | (simp [ntS, cmF, c7, c49, if_true, if_false, or_true, true_or, or_self, apC_app, apC_1]; rfl))
    · refine go_aload_n (pc' := 53) cx dX0_readNot_52 rfl rfl ?_
      refine go_geti (pc' := 56) cx (((F S).1).2.2.1) fX0_48 dX0_readNot_53 kq2 (by omega) (ltn rfl) rfl stt_24 rfl ?_
      refine go_sipush (pc' := 59) cx 10019 dX0_readNot_56 rfl rfl ?_
      refine go_icmp_ne (pc' := 62) cx 84 dX0_readNot_59 rfl rfl (fun c59 => ?_) (fun c59 => ?_)
      · refine go_vret cx rfl dX0_readNot_84 ?_
        exact Zu.mk (by first | (simp only [ntS, cmF, c7, c49, c59, if_true, if_false, or_true, true_or, or_self, apC_app, apC_1]; done) | (simp only [ntS, cmF, c7, c49, c59, if_true, if_false, or_true, true_or, or_self, apC_app, apC_1]; rfl) | (simp [ntS, cmF, c7, c49, c59, if_true, if_false, or_true, true_or, or_self, apC_app, apC_1]; done) | (simp [ntS, cmF, c7, c49, c59, if_true, if_false, or_true, true_or, or_self, apC_app, apC_1]; rfl))
      · refine go_aload_n (pc' := 63) cx dX0_readNot_62 rfl rfl ?_
        refine go_geti (pc' := 66) cx (((F S).1).2.2.1) fX0_48 dX0_readNot_63 kq2 (by omega) (ltn rfl) rfl stt_24 rfl ?_
        refine go_istore_n (pc' := 67) cx dX0_readNot_66 (ltn rfl) [(2, .int (((F S).1).2.2.1)), (0, .ref (E.2.1 2)), (1, .int (nI j))] rfl rfl ?_
        refine go_aload_n (pc' := 68) cx dX0_readNot_67 rfl rfl ?_
        refine go_cVu (pc' := 71) cx (c_X0_advance l E hn ht hsz hr hsz1 (S := (F S).1) (N := (apC N (F S).2)) (hF _ hS)) mX0_advance lX0_32 dX0_readNot_68 kq2 (ltn rfl) (by omega) rfl rfl rfl rfl (by omega) (Nat.le_of_ble_eq_true rfl) (Nat.le_of_ble_eq_true rfl) rfl ?_
        refine go_aload_n (pc' := 72) cx dX0_readNot_71 rfl rfl ?_
        refine go_iload_n (pc' := 73) cx dX0_readNot_72 rfl rfl ?_
        refine go_cVu (pc' := 76) cx (hC (advS (g 3) sz ((F S).1)) (apC N (F S).2) (advS_le (hF _ hS) hsz) (apC_le hN)) mX0_readSum lX0_63 dX0_readNot_73 kq2 (ltn rfl) (by omega) rfl rfl rfl rfl (by omega) (Nat.le_of_ble_eq_true rfl) (Nat.le_of_ble_eq_true rfl) rfl ?_
        refine go_aload_n (pc' := 77) cx dX0_readNot_76 rfl rfl ?_
        refine go_getr (pc' := 80) cx (5 + 4 * t) fX0_19 dX0_readNot_77 kq2 (by omega) (ltn rfl) rfl hr.2.1 rfl ?_
        refine go_iload_n (pc' := 81) cx dX0_readNot_80 rfl rfl ?_
        refine go_cVu (pc' := 84) cx (c_X3_add l E hn ht hsz hr hsz1 (S := (F (advS (g 3) sz ((F S).1))).1) (N := (apC (apC N (F S).2) (F (advS (g 3) sz ((F S).1))).2)) (apC_le (apC_le hN)) (((F S).1).2.2.1)) mX3_add lX0_57 dX0_readNot_81 (txt_k' _ ht).1 (ltn rfl) (by omega) rfl rfl rfl rfl (by omega) (Nat.le_of_ble_eq_true rfl) (Nat.le_of_ble_eq_true rfl) rfl ?_
        refine go_vret cx rfl dX0_readNot_84 ?_
        exact Zu.mk (by first | (simp only [ntS, cmF, c7, c49, c59, if_true, if_false, or_true, true_or, or_self, apC_app, apC_1]; done) | (simp only [ntS, cmF, c7, c49, c59, if_true, if_false, or_true, true_or, or_self, apC_app, apC_1]; rfl) | (simp [ntS, cmF, c7, c49, c59, if_true, if_false, or_true, true_or, or_self, apC_app, apC_1]; done) | (simp [ntS, cmF, c7, c49, c59, if_true, if_false, or_true, true_or, or_self, apC_app, apC_1]; rfl))
  · refine go_iload_n (pc' := 11) cx dX0_readNot_10 rfl rfl ?_
    refine go_iconst (pc' := 12) cx 5 dX0_readNot_11 rfl rfl ?_
    refine go_icmp_ge (pc' := 15) cx 37 dX0_readNot_12 rfl rfl (fun hh => absurd ((nI_leI (a := 5) (b := j) (by omega) (by omega)).mp hh) (by omega)) (fun _ => ?_)
    refine go_aload_n (pc' := 16) cx dX0_readNot_15 rfl rfl ?_
    refine go_cVu (pc' := 19) cx (c_X0_advance l E hn ht hsz hr hsz1 (S := S) (N := N) hS) mX0_advance lX0_32 dX0_readNot_16 kq2 (ltn rfl) (by omega) rfl rfl rfl rfl (by omega) (Nat.le_of_ble_eq_true rfl) (Nat.le_of_ble_eq_true rfl) rfl ?_
    refine go_aload_n (pc' := 20) cx dX0_readNot_19 rfl rfl ?_
    refine go_iload_n (pc' := 21) cx dX0_readNot_20 rfl rfl ?_
    refine go_iconst (pc' := 22) cx 1 dX0_readNot_21 rfl rfl ?_
    refine go_iadd (pc' := 23) cx dX0_readNot_22 rfl ?_
    refine go_val (w := .int (nI (j + 1))) (congrArg Value.int (nI_add j 1)) ?_
    refine go_cVu (pc' := 26) cx (hC1 (advS (g 3) sz S) N (advS_le hS hsz) hN) mX0_readNot lX0_60 dX0_readNot_23 kq2 (ltn rfl) (by omega) rfl rfl rfl rfl (by omega) (Nat.le_of_ble_eq_true rfl) (Nat.le_of_ble_eq_true rfl) rfl ?_
    refine go_aload_n (pc' := 27) cx dX0_readNot_26 rfl rfl ?_
    refine go_getr (pc' := 30) cx (5 + 4 * t) fX0_19 dX0_readNot_27 kq2 (by omega) (ltn rfl) rfl hr.2.1 rfl ?_
    refine go_sipush (pc' := 33) cx 10011 dX0_readNot_30 rfl rfl ?_
    refine go_cVu (pc' := 36) cx (c_X3_add l E hn ht hsz hr hsz1 (S := (F1 (advS (g 3) sz S)).1) (N := (apC N (F1 (advS (g 3) sz S)).2)) (apC_le hN) 10011) mX3_add lX0_57 dX0_readNot_33 (txt_k' _ ht).1 (ltn rfl) (by omega) rfl rfl rfl rfl (by omega) (Nat.le_of_ble_eq_true rfl) (Nat.le_of_ble_eq_true rfl) rfl ?_
    refine go_vret cx rfl dX0_readNot_36 ?_
    exact Zu.mk (by first | (simp only [ntS, cmF, c7, if_true, if_false, or_true, true_or, or_self, apC_app, apC_1]; done) | (simp only [ntS, cmF, c7, if_true, if_false, or_true, true_or, or_self, apC_app, apC_1]; rfl) | (simp [ntS, cmF, c7, if_true, if_false, or_true, true_or, or_self, apC_app, apC_1]; done) | (simp [ntS, cmF, c7, if_true, if_false, or_true, true_or, or_self, apC_app, apC_1]; rfl))

section LV
variable {n : Nat} {g : IG} {r : RG} {z : Int64} {t sz : Nat}
theorem RdC_sum (l : Launch) (E : Ev) (hn : 37 ≤ n) (ht : t < 6) (hsz : sz ≤ 160) (hr : RdR r t) (hsz1 : g 2 1 = nI sz) (hA : BdA (advS (g 3) sz)) {F : PF} (hF : Bd F) {o1 : Int32} {d : Nat} (hd : 8 ≤ d) (h : RdC l E n g r z t yX0_readOne cX0_readOne 2 d o1 F) : RdC l E n g r z t yX0_readSum cX0_readSum 4 (d + 2) o1 (smF (advS (g 3) sz) F) := by
  have h1 : RdC l E n g r z t yX0_readTerm cX0_readTerm 3 (d + 1) o1 (lvF (advS (g 3) sz) pTe F) := fun S N hS hN => c_X0_readTerm l E hn ht hsz hr hsz1 d hd hA hF h hS hN
  exact fun S N hS hN => c_X0_readSum l E hn ht hsz hr hsz1 (d + 1) (by omega) hA (lvF_le hA hF) h1 hS hN
theorem RdC_or (l : Launch) (E : Ev) (hn : 37 ≤ n) (ht : t < 6) (hsz : sz ≤ 160) (hr : RdR r t) (hsz1 : g 2 1 = nI sz) (hA : BdA (advS (g 3) sz)) {F : PF} (hF : Bd F) {o1 : Int32} {d : Nat} (hd : 8 ≤ d) (h : RdC l E n g r z t yX0_readNot cX0_readNot 3 d o1 F) : RdC l E n g r z t yX0_readOr cX0_readOr 3 (d + 2) o1 (orF (advS (g 3) sz) F) := by
  have h1 : RdC l E n g r z t yX0_readAnd cX0_readAnd 3 (d + 1) o1 (lvF (advS (g 3) sz) pAn F) := fun S N hS hN => c_X0_readAnd l E hn ht hsz hr hsz1 d hd hA hF h hS hN
  exact fun S N hS hN => c_X0_readOr l E hn ht hsz hr hsz1 (d + 1) (by omega) hA (lvF_le hA hF) h1 hS hN
/-- the readers of a level: or, one, not -/
def RdL (l : Launch) (E : Ev) (n : Nat) (g : IG) (r : RG) (z : Int64) (t : Nat) (A : PS → PS) (k : Nat) : Prop :=
  RdC l E n g r z t yX0_readOr cX0_readOr 3 (14 + 6 * k) (nI (5 - k)) (lvl A k).1 ∧ RdC l E n g r z t yX0_readOne cX0_readOne 2 (9 + 6 * k) (nI (5 - k)) (lvl A k).2.1 ∧ RdC l E n g r z t yX0_readNot cX0_readNot 3 (12 + 6 * k) (nI (5 - k)) (lvl A k).2.2
theorem RdL_all (l : Launch) (E : Ev) (hn : 37 ≤ n) (ht : t < 6) (hsz : sz ≤ 160) (hr : RdR r t) (hsz1 : g 2 1 = nI sz) : ∀ k, k ≤ 5 → RdL l E n g r z t (advS (g 3) sz) k := by
  have hA : BdA (advS (g 3) sz) := fun S hS => advS_le hS hsz
  intro k
  induction k with
  | zero =>
    intro _
    have e5 : nI (5 - 0) = 5 := rfl
    unfold RdL
    rw [e5]
    have h1 : RdC l E n g r z t yX0_readOne cX0_readOne 2 9 5 (on0 (advS (g 3) sz)) := fun S N hS hN => c_X0_readOne_0 l E hn ht hsz hr hsz1 8 (Nat.le_refl 8) hA hS hN
    have h2 := RdC_sum l E hn ht hsz hr hsz1 hA (on0_le hA) (by omega) h1
    have h3 : RdC l E n g r z t yX0_readNot cX0_readNot 3 12 5 (cmF (advS (g 3) sz) (smF (advS (g 3) sz) (on0 (advS (g 3) sz)))) := fun S N hS hN => c_X0_readNot_0 l E hn ht hsz hr hsz1 11 (by omega) hA (smF_le hA (on0_le hA)) h2 hS hN
    have h4 := RdC_or l E hn ht hsz hr hsz1 hA (cmF_le hA (smF_le hA (on0_le hA))) (by omega) h3
    exact ⟨h4, h1, h3⟩
  | succ k ih =>
    intro hk
    obtain ⟨i1, i2, i3⟩ := ih (by omega)
    have e5 : 5 - k = 5 - (k + 1) + 1 := by omega
    rw [e5] at i1 i2 i3
    have hj : 5 - (k + 1) < 5 := by omega
    obtain ⟨b1, b2, b3⟩ := lvl_le hA k
    unfold RdL
    rw [show 14 + 6 * (k + 1) = 14 + 6 * k + 1 + 2 + 1 + 2 by omega, show 12 + 6 * (k + 1) = 14 + 6 * k + 1 + 2 + 1 by omega, show 9 + 6 * (k + 1) = 14 + 6 * k + 1 by omega]
    have h1 : RdC l E n g r z t yX0_readOne cX0_readOne 2 (14 + 6 * k + 1) (nI (5 - (k + 1))) (onS (advS (g 3) sz) (lvl (advS (g 3) sz) k).2.1 (lvl (advS (g 3) sz) k).1) := fun S N hS hN => c_X0_readOne_s l E hn ht hsz hr hsz1 (14 + 6 * k) (9 + 6 * k) (14 + 6 * k) (by omega) (by omega) (by omega) hA hj b2 b1 i2 i1 hS hN
    have h2 := RdC_sum l E hn ht hsz hr hsz1 hA (onS_le hA b2 b1) (by omega) h1
    have h3 : RdC l E n g r z t yX0_readNot cX0_readNot 3 (14 + 6 * k + 1 + 2 + 1) (nI (5 - (k + 1))) (ntS (advS (g 3) sz) (lvl (advS (g 3) sz) k).2.2 (smF (advS (g 3) sz) (onS (advS (g 3) sz) (lvl (advS (g 3) sz) k).2.1 (lvl (advS (g 3) sz) k).1))) := fun S N hS hN => c_X0_readNot_s l E hn ht hsz hr hsz1 (14 + 6 * k + 1 + 2) (12 + 6 * k) (by omega) (by omega) hA hj (smF_le hA (onS_le hA b2 b1)) b3 h2 i3 hS hN
    exact ⟨RdC_or l E hn ht hsz hr hsz1 hA (ntS_le hA b3 (smF_le hA (onS_le hA b2 b1))) (by omega) h3, h1, h3⟩
end LV
/-- a part: its key, what it says, its end -/
def rdP (A : PS → PS) (k : Nat) (S : PS) : PS × List Int32 := (demS A 10014 ((lvl A 5).1 (demS A (nI (10006 + k)) S)).1, ((lvl A 5).1 (demS A (nI (10006 + k)) S)).2)
theorem stt_end {g : IG} {t : Nat} {S : PS} {N : SK} (ht : t < 6) (k : Nat) (v : Int32) : up2 (stt g t S N) (5 + 4 * t + 2) k v = stt (up2 g (5 + 4 * t + 2) k v) t S N := by
  funext i j
  simp only [up2, stt]
  by_cases hi : i = 5 + 4 * t + 2
  · subst hi
    have h1 : ¬ 5 + 4 * t + 2 = 2 := by omega
    have h2 : ¬ 5 + 4 * t + 2 = 5 + 4 * t := by omega
    have h3 : ¬ 5 + 4 * t + 2 = 5 + 4 * t + 1 := by omega
    simp only [if_true, if_neg h1, if_neg h2, if_neg h3]
  · simp only [if_neg hi]
theorem nI_ex (x : Int32) : ∃ s, x = nI s := ⟨x.toUInt32.toNat, by
  show x = Int32.ofNat x.toUInt32.toNat
  rw [Int32.ofNat]
  apply Int32.toBitVec_inj.mp
  simp⟩
theorem rd_begin {g : IG} {t s : Nat} (ht : t < 6) (hs : g 2 3 = nI s) : up2 (up2 (up2 g (5 + 4 * t) 3 0) 2 2 0) 2 5 (-1) = stt g t (0, s, g 2 4, -1) (0, g (5 + 4 * t + 1)) := by
  funext i j
  unfold up2 stt
  by_cases h2 : i = 2
  · subst h2
    have h5 : ¬ 2 = 5 + 4 * t := by omega
    simp only [if_true, if_neg h5]
    by_cases j5 : j = 5
    · subst j5; rfl
    · rw [if_neg j5]
      by_cases j2 : j = 2
      · subst j2; rfl
      · rw [if_neg j2, if_neg j2]
        by_cases j3 : j = 3
        · subst j3; exact hs
        · rw [if_neg j3]
          by_cases j4 : j = 4
          · subst j4; rfl
          · rw [if_neg j4, if_neg j5]
  · simp only [if_neg h2]
    by_cases h5 : i = 5 + 4 * t
    · subst h5
      simp only [if_true]
      rfl
    · simp only [if_neg h5]
      split
      · rename_i h; subst h; rfl
      · rfl
def RdR0 (r : RG) (t : Nat) : Prop := r 2 0 = some 3 ∧ r (5 + 4 * t) 0 = some (5 + 4 * t + 1) ∧ r (5 + 4 * t) 1 = some (5 + 4 * t + 2)
theorem RdR_up {r : RG} {t : Nat} (h : RdR0 r t) : RdR (up2r r 2 6 (some (5 + 4 * t))) t := by
  unfold RdR up2r
  refine ⟨?_, ?_, ?_, ?_⟩
  · rw [if_pos rfl, if_neg (by omega)]; exact h.1
  · rw [if_pos rfl, if_pos rfl]
  · rw [if_neg (by omega)]; exact h.2.1
  · rw [if_neg (by omega)]; exact h.2.2
theorem advS_0 {T : Nat → Int32} {sz s : Nat} {k f : Int32} {a : Nat} : advS T sz (a, s, k, f) = advS T sz (a, 0, 0, f) := rfl

set_option maxHeartbeats 4000000 in
set_option maxRecDepth 20000 in
theorem read_part {l : Launch} {E : Ev} {Z : ZT} {n : Nat} {g : IG} {r : RG} {z : Int64} {p : Program} {e : Env} {s : State} {m : MethodId} {args : Array Value} {below : List Frame} {meth : Method} {c : Code} {t sz : Nat} (hn : 37 ≤ n) (ht : t < 6) (hsz : sz ≤ 160) (hr : RdR r t) (hsz1 : g 2 1 = nI sz) {S : PS} {N : SK} (hS : S.1 ≤ 160) (hN : N.1 ≤ 160) (hA : BdA (advS (g 3) sz)) {k : Nat} (hk : k < 3) (cx : Cx p s m args meth c E n cX0_read 3 yX0_read.cls (some .int)) : (Go p l e (rmd 46) s m args below meth c E n 3 Z (stt (up2 g (5 + 4 * t + 2) k (nI (apC N (rdP (advS (g 3) sz) k S).2).1)) t (rdP (advS (g 3) sz) k S).1 (apC N (rdP (advS (g 3) sz) k S).2)) r z 29 [(2, .int (nI (k + 1))), (0, .ref (E.2.1 2)), (1, .ref (E.2.1 (5 + 4 * t)))] []) → Go p l e (rmd 46) s m args below meth c E n 3 Z (stt g t S N) r z 29 [(2, .int (nI k)), (0, .ref (E.2.1 2)), (1, .ref (E.2.1 (5 + 4 * t)))] [] := by
  intro kk
  unfold rdP at kk
  skip
  refine go_iload_n (pc' := 30) cx dX0_read_29 rfl rfl ?_
  refine go_iconst (pc' := 31) cx 3 dX0_read_30 rfl rfl ?_
  refine go_icmp_ge (pc' := 34) cx 77 dX0_read_31 rfl rfl (fun hh => absurd ((nI_leI (a := 3) (b := k) (by omega) (by omega)).mp hh) (by omega)) (fun _ => ?_)
  refine go_aload_n (pc' := 35) cx dX0_read_34 rfl rfl ?_
  refine go_sipush (pc' := 38) cx 10006 dX0_read_35 rfl rfl ?_
  refine go_iload_n (pc' := 39) cx dX0_read_38 rfl rfl ?_
  refine go_iadd (pc' := 40) cx dX0_read_39 rfl ?_
  refine go_val (w := .int (nI (10006 + k))) (congrArg Value.int (nI_add 10006 k)) ?_
  refine go_cVu (pc' := 43) cx (c_X0_demand l E hn ht hsz hr hsz1 (S := S) (N := N) hS (nI (10006 + k))) mX0_demand lX0_35 dX0_read_40 kq2 (ltn rfl) (by omega) rfl rfl rfl rfl (ltn rfl) (Nat.le_of_ble_eq_true rfl) (Nat.le_of_ble_eq_true rfl) rfl ?_
  refine go_aload_n (pc' := 44) cx dX0_read_43 rfl rfl ?_
  refine go_iconst (pc' := 45) cx 0 dX0_read_44 rfl rfl ?_
  refine go_cVu (pc' := 48) cx ((RdL_all l E hn ht hsz hr hsz1 5 (Nat.le_refl 5)).1 (demS (advS (g 3) sz) (nI (10006 + k)) S) N (demS_le hA hS) hN) mX0_readOr lX0_39 dX0_read_45 kq2 (ltn rfl) (by omega) rfl rfl rfl rfl (ltn rfl) (Nat.le_of_ble_eq_true rfl) (Nat.le_of_ble_eq_true rfl) rfl ?_
  refine go_aload_n (pc' := 49) cx dX0_read_48 rfl rfl ?_
  refine go_sipush (pc' := 52) cx 10014 dX0_read_49 rfl rfl ?_
  refine go_cVu (pc' := 55) cx (c_X0_demand l E hn ht hsz hr hsz1 (S := ((lvl (advS (g 3) sz) 5).1 (demS (advS (g 3) sz) (nI (10006 + k)) S)).1) (N := (apC N ((lvl (advS (g 3) sz) 5).1 (demS (advS (g 3) sz) (nI (10006 + k)) S)).2)) ((lvl_le hA 5).1 _ (demS_le hA hS)) 10014) mX0_demand lX0_35 dX0_read_52 kq2 (ltn rfl) (by omega) rfl rfl rfl rfl (ltn rfl) (Nat.le_of_ble_eq_true rfl) (Nat.le_of_ble_eq_true rfl) rfl ?_
  refine go_aload_n (pc' := 56) cx dX0_read_55 rfl rfl ?_
  refine go_getr (pc' := 59) cx (5 + 4 * t) fX0_19 dX0_read_56 kq2 (by omega) (ltn rfl) rfl hr.2.1 rfl ?_
  refine go_getr (pc' := 62) cx (5 + 4 * t + 2) fX0_42 dX0_read_59 (txt_k' _ ht).1 (by omega) (ltn rfl) rfl hr.2.2.2 rfl ?_
  refine go_iload_n (pc' := 63) cx dX0_read_62 rfl rfl ?_
  refine go_aload_n (pc' := 64) cx dX0_read_63 rfl rfl ?_
  refine go_getr (pc' := 67) cx (5 + 4 * t) fX0_19 dX0_read_64 kq2 (by omega) (ltn rfl) rfl hr.2.1 rfl ?_
  refine go_geti (pc' := 70) cx (nI ((apC N ((lvl (advS (g 3) sz) 5).1 (demS (advS (g 3) sz) (nI (10006 + k)) S)).2).1)) fX0_23 dX0_read_67 (txt_k' _ ht).1 (by omega) (ltn rfl) rfl (stt_n ht) rfl ?_
  refine go_iastk (pc' := 71) cx k dX0_read_70 (txt_k' _ ht).2.2.1 (by omega) (vpi (k := k) (a := 3) (by omega) rfl rfl) (cli (k := k) (a := 3) (by omega) rfl) rfl ?_
  refine go_iinc (pc' := 74) cx (nI (k + 1)) dX0_read_71 rfl (nI_1 k) (ltn rfl) [(2, .int (nI (k + 1))), (0, .ref (E.2.1 2)), (1, .ref (E.2.1 (5 + 4 * t)))] rfl rfl ?_
  refine go_goto cx 29 dX0_read_74 rfl ?_
  refine go_g (stt_end ht k (nI ((apC N ((lvl (advS (g 3) sz) 5).1 (demS (advS (g 3) sz) (nI (10006 + k)) S)).2).1))) ?_
  exact kk

set_option maxHeartbeats 4000000 in
set_option maxRecDepth 20000 in
theorem read_end {l : Launch} {E : Ev} {Z : ZT} {n : Nat} {g : IG} {r : RG} {z : Int64} {p : Program} {e : Env} {s : State} {m : MethodId} {args : Array Value} {below : List Frame} {meth : Method} {c : Code} {t sz : Nat} (hn : 37 ≤ n) (ht : t < 6) (hsz : sz ≤ 160) (hr : RdR (up2r r 2 6 (some (5 + 4 * t))) t) {T : Nat → Int32} (hsz1 : g 2 1 = nI sz) {S : PS} {N : SK} (hS : S.1 ≤ 160) (hT : g 3 = T) (cx : Cx p s m args meth c E n cX0_read 3 yX0_read.cls (some .int)) : Go p l e (rmd 46) s m args below meth c E n 3 (Zi (up2r r 2 6 (some (5 + 4 * t))) z (demS (advS T sz) 10021 S).2.2.2 (stt g t (demS (advS T sz) 10021 S) N)) (stt g t S N) (up2r r 2 6 (some (5 + 4 * t))) z 29 [(2, .int 3), (0, .ref (E.2.1 2)), (1, .ref (E.2.1 (5 + 4 * t)))] [] := by
  subst hT
  skip
  refine go_iload_n (pc' := 30) cx dX0_read_29 rfl rfl ?_
  refine go_iconst (pc' := 31) cx 3 dX0_read_30 rfl rfl ?_
  refine go_icmp_ge (pc' := 34) cx 77 dX0_read_31 rfl rfl (fun _ => ?_) (fun hh => absurd hh (by decide))
  refine go_aload_n (pc' := 78) cx dX0_read_77 rfl rfl ?_
  refine go_sipush (pc' := 81) cx 10021 dX0_read_78 rfl rfl ?_
  refine go_cVu (pc' := 84) cx (c_X0_demand l E hn ht hsz hr hsz1 (S := S) (N := N) hS 10021) mX0_demand lX0_35 dX0_read_81 kq2 (ltn rfl) (by omega) rfl rfl rfl rfl (ltn rfl) (Nat.le_of_ble_eq_true rfl) (Nat.le_of_ble_eq_true rfl) rfl ?_
  refine go_aload_n (pc' := 85) cx dX0_read_84 rfl rfl ?_
  refine go_geti (pc' := 88) cx ((demS (advS (g 3) sz) 10021 S).2.2.2) fX0_29 dX0_read_85 kq2 (by omega) (ltn rfl) rfl stt_25 rfl ?_
  refine go_iret cx rfl dX0_read_88 ?_
  exact Zi.mk rfl rfl

/-- what is read of a tape: behind which token, the codes of the three parts -/
def rd0 (T : Nat → Int32) (sz : Nat) : PS := advS T sz (0, 0, 0, -1)
def rq1 (RP : Nat → PS → PS × List Int32) (S : PS) : PS × List Int32 := RP 0 S
def rq2 (RP : Nat → PS → PS × List Int32) (S : PS) : PS × List Int32 := RP 1 (rq1 RP S).1
def rq3 (RP : Nat → PS → PS × List Int32) (S : PS) : PS × List Int32 := RP 2 (rq2 RP S).1
def rn1 (RP : Nat → PS → PS × List Int32) (S : PS) (N : SK) : SK := apC N (rq1 RP S).2
def rn2 (RP : Nat → PS → PS × List Int32) (S : PS) (N : SK) : SK := apC (rn1 RP S N) (rq2 RP S).2
def rn3 (RP : Nat → PS → PS × List Int32) (S : PS) (N : SK) : SK := apC (rn2 RP S N) (rq3 RP S).2
def rdX (RP : Nat → PS → PS × List Int32) (A : PS → PS) (g : IG) (t : Nat) (S : PS) (N : SK) : IG := stt (up2 (up2 (up2 g (5 + 4 * t + 2) 0 (nI (rn1 RP S N).1)) (5 + 4 * t + 2) 1 (nI (rn2 RP S N).1)) (5 + 4 * t + 2) 2 (nI (rn3 RP S N).1)) t (demS A 10021 (rq3 RP S).1) (rn3 RP S N)
/-- the tape is read: its fault; the ints then -/
def rdF (T : Nat → Int32) (sz : Nat) : Int32 := (demS (advS T sz) 10021 (rq3 (rdP (advS T sz)) (rd0 T sz)).1).2.2.2
def rdG (g : IG) (t sz : Nat) : IG := rdX (rdP (advS (g 3) sz)) (advS (g 3) sz) g t (rd0 (g 3) sz) (0, g (5 + 4 * t + 1))
theorem rdP_le {T : Nat → Int32} {sz : Nat} (hsz : sz ≤ 160) {k : Nat} {S : PS} (h : S.1 ≤ 160) : (rdP (advS T sz) k S).1.1 ≤ 160 := by
  have hA : BdA (advS T sz) := fun S hS => advS_le hS hsz
  exact demS_le hA ((lvl_le hA 5).1 _ (demS_le hA h))
set_option maxHeartbeats 4000000 in
set_option maxRecDepth 20000 in
theorem read_tail {l : Launch} {E : Ev} {n : Nat} {g : IG} {r : RG} {z : Int64} {p : Program} {e : Env} {s : State} {m : MethodId} {args : Array Value} {below : List Frame} {meth : Method} {c : Code} {t sz : Nat} (hn : 37 ≤ n) (ht : t < 6) (hsz : sz ≤ 160) (hr : RdR (up2r r 2 6 (some (5 + 4 * t))) t) (hsz1 : g 2 1 = nI sz) (hA : BdA (advS (g 3) sz)) {S0 : PS} {N0 : SK} (b0 : S0.1 ≤ 160) (n0 : N0.1 ≤ 160)
    (cx : Cx p s m args meth c E n cX0_read 3 yX0_read.cls (some .int)) : Go p l e (rmd 46) s m args below meth c E n 3 (Zi (up2r r 2 6 (some (5 + 4 * t))) z (demS (advS (g 3) sz) 10021 (rq3 (rdP (advS (g 3) sz)) S0).1).2.2.2 (rdX (rdP (advS (g 3) sz)) (advS (g 3) sz) g t S0 N0)) (stt g t S0 N0) (up2r r 2 6 (some (5 + 4 * t))) z 29 [(2, .int (nI 0)), (0, .ref (E.2.1 2)), (1, .ref (E.2.1 (5 + 4 * t)))] [] := by
  have up3 : ∀ (g : IG) k v, (up2 g (5 + 4 * t + 2) k v) 3 = g 3 := fun g k v => funext fun b => up2_n _ _ (Or.inl (by omega))
  have up21 : ∀ (g : IG) k v, (up2 g (5 + 4 * t + 2) k v) 2 1 = g 2 1 := fun g k v => up2_n _ _ (Or.inl (by omega))
  have hb : ∀ k (S : PS), S.1 ≤ 160 → (rdP (advS (g 3) sz) k S).1.1 ≤ 160 := fun k S h => rdP_le hsz h
  have part : ∀ (k : Nat) (g' : IG) (S : PS) (N : SK) (Z : ZT), k < 3 → g' 3 = g 3 → g' 2 1 = nI sz → S.1 ≤ 160 → N.1 ≤ 160 → Go p l e (rmd 46) s m args below meth c E n 3 Z (stt (up2 g' (5 + 4 * t + 2) k (nI (apC N (rdP (advS (g 3) sz) k S).2).1)) t (rdP (advS (g 3) sz) k S).1 (apC N (rdP (advS (g 3) sz) k S).2)) (up2r r 2 6 (some (5 + 4 * t))) z 29 [(2, .int (nI (k + 1))), (0, .ref (E.2.1 2)), (1, .ref (E.2.1 (5 + 4 * t)))] [] → Go p l e (rmd 46) s m args below meth c E n 3 Z (stt g' t S N) (up2r r 2 6 (some (5 + 4 * t))) z 29 [(2, .int (nI k)), (0, .ref (E.2.1 2)), (1, .ref (E.2.1 (5 + 4 * t)))] [] := by
    intro k g' S N Z hk e3 e1 hS hN kk
    rw [← e3] at kk
    exact read_part hn ht hsz hr e1 hS hN (by rw [e3]; exact hA) hk cx kk
  have fin : ∀ (g' : IG) (S : PS) (N : SK), g' 3 = g 3 → g' 2 1 = nI sz → S.1 ≤ 160 → Go p l e (rmd 46) s m args below meth c E n 3 (Zi (up2r r 2 6 (some (5 + 4 * t))) z (demS (advS (g 3) sz) 10021 S).2.2.2 (stt g' t (demS (advS (g 3) sz) 10021 S) N)) (stt g' t S N) (up2r r 2 6 (some (5 + 4 * t))) z 29 [(2, .int 3), (0, .ref (E.2.1 2)), (1, .ref (E.2.1 (5 + 4 * t)))] [] := fun g' S N e3 e1 hS => read_end (Z := fun _ _ _ _ => True) hn ht hsz hr e1 hS e3 cx
  generalize rdP (advS (g 3) sz) = RP at hb part ⊢
  generalize advS (g 3) sz = A at fin ⊢
  clear hA
  unfold rdX
  refine part 0 g S0 N0 _ (by omega) rfl hsz1 b0 n0 ?_
  refine part 1 _ _ _ _ (by omega) (up3 _ _ _) ((up21 _ _ _).trans hsz1) (hb _ _ b0) (apC_le n0) ?_
  refine part 2 _ _ _ _ (by omega) ((up3 _ _ _).trans (up3 _ _ _)) (((up21 _ _ _).trans (up21 _ _ _)).trans hsz1) (hb _ _ (hb _ _ b0)) (apC_le (apC_le n0)) ?_
  exact fin _ _ _ ((up3 _ _ _).trans ((up3 _ _ _).trans (up3 _ _ _))) (((up21 _ _ _).trans ((up21 _ _ _).trans (up21 _ _ _))).trans hsz1) (hb _ _ (hb _ _ (hb _ _ b0)))

set_option maxHeartbeats 4000000 in
set_option maxRecDepth 20000 in
theorem c_X0_read (l : Launch) (E : Ev) {n : Nat} {g : IG} {r : RG} {z : Int64} {t sz : Nat} (hn : 37 ≤ n) (ht : t < 6) (hsz : sz ≤ 160) (h0 : RdR0 r t) (hsz1 : g 2 1 = nI sz) : Ct l E n yX0_read cX0_read 3 (some .int) 46 [.ref (E.2.1 2), .ref (E.2.1 (5 + 4 * t))] g r z (Zi (up2r r 2 6 (some (5 + 4 * t))) z (rdF (g 3) sz) (rdG g t sz)) := by
  refine Ct.of (lv0 := [(0, .ref (E.2.1 2)), (1, .ref (E.2.1 (5 + 4 * t)))]) (by decide) (Nat.le_of_ble_eq_true rfl) rfl ?_
  intro p e s m below meth c cx
  refine go_aload_n (pc' := 1) cx dX0_read_0 rfl rfl ?_
  refine go_aload_n (pc' := 2) cx dX0_read_1 rfl rfl ?_
  refine go_putr (pc' := 5) cx (nm := "AsLastTime$Text") fX0_19 dX0_read_2 kq2 (by omega) (ltn rfl) rfl rfl (by decide +kernel) rfl ?_
  refine go_aload_n (pc' := 6) cx dX0_read_5 rfl rfl ?_
  refine go_getr (pc' := 9) cx (5 + 4 * t) fX0_19 dX0_read_6 kq2 (by omega) (ltn rfl) rfl (RdR_up h0).2.1 rfl ?_
  refine go_iconst (pc' := 10) cx 0 dX0_read_9 rfl rfl ?_
  refine go_puti (pc' := 13) cx fX0_23 dX0_read_10 (txt_k' _ ht).1 (by omega) (ltn rfl) rfl rfl rfl rfl ?_
  refine go_aload_n (pc' := 14) cx dX0_read_13 rfl rfl ?_
  refine go_iconst (pc' := 15) cx 0 dX0_read_14 rfl rfl ?_
  refine go_puti (pc' := 18) cx fX0_26 dX0_read_15 kq2 (by omega) (ltn rfl) rfl rfl rfl rfl ?_
  refine go_aload_n (pc' := 19) cx dX0_read_18 rfl rfl ?_
  refine go_iconst (pc' := 20) cx (-1) dX0_read_19 rfl rfl ?_
  refine go_puti (pc' := 23) cx fX0_29 dX0_read_20 kq2 (by omega) (ltn rfl) rfl rfl rfl rfl ?_
  obtain ⟨s0, hs0⟩ := nI_ex (g 2 3)
  refine go_g (rd_begin ht hs0) ?_
  have hr : RdR (up2r r 2 6 (some (5 + 4 * t))) t := RdR_up h0
  have hA : BdA (advS (g 3) sz) := fun S hS => advS_le hS hsz
  refine go_aload_n (pc' := 24) cx dX0_read_23 rfl rfl ?_
  refine go_cVu (pc' := 27) cx (c_X0_advance l E hn ht hsz hr hsz1 (S := (0, s0, g 2 4, -1)) (N := (0, g (5 + 4 * t + 1))) (Nat.zero_le _)) mX0_advance lX0_32 dX0_read_24 kq2 (ltn rfl) (by omega) rfl rfl rfl rfl (ltn rfl) (Nat.le_of_ble_eq_true rfl) (Nat.le_of_ble_eq_true rfl) rfl ?_
  refine go_iconst (pc' := 28) cx 0 dX0_read_27 rfl rfl ?_
  refine go_istore_n (pc' := 29) cx dX0_read_28 (ltn rfl) [(2, .int 0), (0, .ref (E.2.1 2)), (1, .ref (E.2.1 (5 + 4 * t)))] rfl rfl ?_
  unfold rdF rdG rd0
  exact read_tail hn ht hsz hr hsz1 hA (advS_le (Nat.zero_le _) hsz) (Nat.zero_le _) cx
