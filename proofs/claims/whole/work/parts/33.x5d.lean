/-! THE CLASS: seeds, the image, texts, the host -/
def ZL (r : RG) (z : Int64) (P : Int64 → IG → Prop) : ZT := fun v g1 r1 z1 => (∃ x, v = some (.long x) ∧ P x g1) ∧ r1 = r ∧ z1 = z
theorem ZL.mk {r : RG} {z : Int64} {P : Int64 → IG → Prop} {x : Int64} {g : IG} (h : P x g) : ZL r z P (some (.long x)) g r z := ⟨⟨x, rfl, h⟩, rfl, rfl⟩
theorem rng_n {x : Int32} {lo M : Int32} {n : Nat} (hM : M.toInt = n) (hl : 0 ≤ lo.toInt) (h1 : ¬ x < lo) (h2 : ¬ M < x) : ∃ j : Nat, j ≤ n ∧ x = nI j := by
  refine nI_of2 hM (fun q => h1 ?_) (Int32.not_lt.mp h2)
  have := Int32.lt_iff_toInt_lt.mp q
  exact Int32.lt_iff_toInt_lt.mpr (by have e : (0 : Int32).toInt = 0 := by decide
                                      omega)
theorem RFo_up {o : Option Nat} {x : Nat} : up2r (RFo o) 2 6 (some x) = RFo (some x) := by
  funext i k
  unfold up2r RFo
  by_cases h1 : i = 2
  · by_cases h2 : k = 6
    · rw [if_pos h1, if_pos h2, if_pos ⟨h1, h2⟩]
    · rw [if_pos h1, if_neg h2, if_neg (fun q => h2 q.2), if_neg (fun q => h2 q.2)]
  · rw [if_neg h1, if_neg (fun q => h1 q.1), if_neg (fun q => h1 q.1)]
theorem RdR0_o {o : Option Nat} {t : Nat} (ht : t < 6) : RdR0 (RFo o) t := ⟨rfl, (txt_r ht).1, (txt_r ht).2.1⟩
/-- what a sheet refuses a picture -/
def prF (so : Int32) (sz vn : Nat) : Int32 := if so = -1 then -11 else if sz ≤ vn then 0 else -2
def ShX (g : IG) : Prop := ∀ t, t < 4 → ∃ sz, sz ≤ 40 ∧ g (29 + 2 * t) 2 = nI sz
theorem hasR_ok {sz : Nat} {i n : Int32} (hsz : sz ≤ 40) (h : ¬ hasR (nI sz) i n = 0) : ∃ a k : Nat, i = nI a ∧ n = nI k ∧ a + k ≤ sz := by
  unfold hasR at h
  by_cases h1 : i < 0
  · rw [if_pos h1] at h
    exact absurd rfl h
  rw [if_neg h1] at h
  by_cases h2 : n < 0
  · rw [if_pos h2] at h
    exact absurd rfl h
  rw [if_neg h2] at h
  by_cases h3 : nI sz < i
  · rw [if_pos h3] at h
    exact absurd rfl h
  rw [if_neg h3] at h
  by_cases h4 : nI sz - i < n
  · rw [if_pos h4] at h
    exact absurd rfl h
  obtain ⟨a, ha, rfl⟩ := nI_of h1
  obtain ⟨k, hk, rfl⟩ := nI_of h2
  have h5 : a ≤ sz := by
    rw [nI_ltI (by omega) ha] at h3
    omega
  rw [pk_sub h5, nI_ltI (by omega) hk] at h4
  exact ⟨a, k, rfl, rfl, by omega⟩
theorem hasR_1 {sz a k : Nat} (hsz : sz ≤ 40) (h : a + k ≤ sz) : hasR (nI sz) (nI a) (nI k) = 1 := by
  unfold hasR
  rw [if_neg (nI_pos (by omega)), if_neg (nI_pos (by omega)), if_neg (nI_nlt (by omega) (by omega)), pk_sub (by omega), if_neg (nI_nlt (by omega) (by omega))]
theorem c_putX (l : Launch) (E : Ev) {g : IG} {o : Option Nat} {z : Int64} {t sz : Nat} (ht : t < 4) (hsz : sz ≤ 40) (h2 : g (29 + 2 * t) 2 = nI sz) (i1 v1 : Int32) : Ct l E 115 yX2_put cX2_put 3 (some .boolean) 1 [.ref (E.2.1 (29 + 2 * t)), .int i1, .int v1] g (RFo o) z (ZI (RFo o) z (fun x g1 => (∃ q, q < sz ∧ i1 = nI q ∧ x = 1 ∧ g1 = up2 g (29 + 2 * t + 1) q (cvS (g (29 + 2 * t) 1) v1)) ∨ ((i1 < 0 ∨ ¬ i1 < nI sz) ∧ x = 0 ∧ g1 = g))) := by
  by_cases hi : i1 < 0 ∨ ¬ i1 < nI sz
  · refine (c_X2_putN l E (o := o) (z := z) ht i1 v1 (by rw [h2]; exact hi)).wk ?_
    rintro _ _ _ _ ⟨rfl, rfl, rfl, rfl⟩
    exact ZI.mk (Or.inr ⟨hi, rfl, rfl⟩)
  · obtain ⟨q, hq, rfl⟩ := nI_of (fun e => hi (Or.inl e))
    have hlt : q < sz := by
      have : nI q < nI sz := Classical.not_not.mp fun e => hi (Or.inr e)
      rw [nI_ltI hq (by omega)] at this
      exact this
    refine (c_X2_put l E (o := o) (z := z) ht hsz hlt v1 h2).wk ?_
    rintro _ _ _ _ ⟨rfl, rfl, rfl, rfl⟩
    exact ZI.mk (Or.inl ⟨q, hlt, rfl, rfl, rfl⟩)
theorem cdF_s {a b d : Nat} : cdF a b (d + 1) = if d + 1 ≤ 1 then 1 else if a % (d + 1) = 0 then (if b % (d + 1) = 0 then d + 1 else cdF a b d) else cdF a b d := rfl
theorem chN_s {M : TM} {a : Sv} {hn vn : Nat} {z : Int32} {k : Nat} : chN M a hn vn z (k + 1) = if BDs M (drS a (z + nI k) hn vn) vn ≤ BDs M a vn then chN M a hn vn z k + 1 else chN M a hn vn z k := rfl

set_option maxHeartbeats 1000000 in
set_option maxRecDepth 20000 in
theorem cd_loop {l : Launch} {E : Ev} {Z : ZT} {o : Option Nat} {z : Int64} {p : Program} {e : Env} {s : State} {m : MethodId} {args : Array Value} {below : List Frame} {meth : Method} {c : Code} {a b : Nat} (ha : a < 100) (hb : b < 100) {g : IG} (cx : Cx p s m args meth c E 115 cX5_commonDivisor 3 yX5_commonDivisor.cls (some .int)) : ∀ (d : Nat), d < 100 → Z (some (.int (nI (cdF a b d)))) g (RFo o) z → Go p l e (rmd 1) s m args below meth c E 115 3 Z g (RFo o) z 2 [(2, .int (nI d)), (0, .int (nI a)), (1, .int (nI b))] [] := by
  intro d
  induction d with
  | zero =>
    intro hd hZ
    refine go_iload_n (pc' := 3) cx dX5_commonDivisor_2 rfl rfl ?_
    refine go_iconst (pc' := 4) cx 1 dX5_commonDivisor_3 rfl rfl ?_
    refine go_icmp_le (pc' := 7) cx 27 dX5_commonDivisor_4 rfl rfl (fun _ => ?_) (fun hh => absurd hh (by decide))
    refine go_iconst (pc' := 28) cx 1 dX5_commonDivisor_27 rfl rfl ?_
    refine go_iret cx rfl dX5_commonDivisor_28 ?_
    exact hZ
  | succ d ih =>
    intro hd hZ
    have ma := Nat.mod_lt a (show d + 1 > 0 by omega)
    have mb := Nat.mod_lt b (show d + 1 > 0 by omega)
    refine go_iload_n (pc' := 3) cx dX5_commonDivisor_2 rfl rfl ?_
    refine go_iconst (pc' := 4) cx 1 dX5_commonDivisor_3 rfl rfl ?_
    refine go_icmp_le (pc' := 7) cx 27 dX5_commonDivisor_4 rfl rfl (fun c4 => ?_) (fun c4 => ?_)
    · have c4 := (nI_leI (a := (d + 1)) (b := 1) (by omega) (by omega)).mp c4
      refine go_iconst (pc' := 28) cx 1 dX5_commonDivisor_27 rfl rfl ?_
      refine go_iret cx rfl dX5_commonDivisor_28 ?_
      have h9 : cdF a b (d + 1) = 1 := by
        rw [cdF_s, if_pos (by omega)]
      rw [h9] at hZ
      exact hZ
    · have c4 : ¬ (d + 1) ≤ 1 := fun q9 => c4 ((nI_leI (a := (d + 1)) (b := 1) (by omega) (by omega)).mpr q9)
      refine go_iload_n (pc' := 8) cx dX5_commonDivisor_7 rfl rfl ?_
      refine go_iload_n (pc' := 9) cx dX5_commonDivisor_8 rfl rfl ?_
      refine go_irem (pc' := 10) cx (nI_ne0 (by omega) (by omega)) dX5_commonDivisor_9 rfl ?_
      refine go_val (w := .int (nI (a % (d + 1)))) (congrArg Value.int (pk_rem (by omega) (Nat.succ_pos d) (by omega))) ?_
      refine go_if_ne (pc' := 13) cx 21 dX5_commonDivisor_10 rfl rfl (fun c10 => ?_) (fun c10 => ?_)
      · have c10 : ¬ (a % (d + 1)) = 0 := fun q9 => c10 ((nI_eq (a := (a % (d + 1))) (b := 0) (by omega) (by omega)).mpr q9)
        refine go_iinc (pc' := 24) cx (nI d) dX5_commonDivisor_21 rfl ((m1_sub _).trans (nI_pred d)) (ltn rfl) [(2, .int (nI d)), (0, .int (nI a)), (1, .int (nI b))] rfl rfl ?_
        refine go_goto cx 2 dX5_commonDivisor_24 rfl ?_
        have h9 : cdF a b (d + 1) = cdF a b d := by
          rw [cdF_s, if_neg (by omega)]
          first | rw [if_neg c10] | rw [if_pos c10, if_neg c16]
        rw [h9] at hZ
        exact ih (by omega) hZ
      · have c10 := (nI_eq (a := (a % (d + 1))) (b := 0) (by omega) (by omega)).mp c10
        refine go_iload_n (pc' := 14) cx dX5_commonDivisor_13 rfl rfl ?_
        refine go_iload_n (pc' := 15) cx dX5_commonDivisor_14 rfl rfl ?_
        refine go_irem (pc' := 16) cx (nI_ne0 (by omega) (by omega)) dX5_commonDivisor_15 rfl ?_
        refine go_val (w := .int (nI (b % (d + 1)))) (congrArg Value.int (pk_rem (by omega) (Nat.succ_pos d) (by omega))) ?_
        refine go_if_ne (pc' := 19) cx 21 dX5_commonDivisor_16 rfl rfl (fun c16 => ?_) (fun c16 => ?_)
        · have c16 : ¬ (b % (d + 1)) = 0 := fun q9 => c16 ((nI_eq (a := (b % (d + 1))) (b := 0) (by omega) (by omega)).mpr q9)
          refine go_iinc (pc' := 24) cx (nI d) dX5_commonDivisor_21 rfl ((m1_sub _).trans (nI_pred d)) (ltn rfl) [(2, .int (nI d)), (0, .int (nI a)), (1, .int (nI b))] rfl rfl ?_
          refine go_goto cx 2 dX5_commonDivisor_24 rfl ?_
          have h9 : cdF a b (d + 1) = cdF a b d := by
            rw [cdF_s, if_neg (by omega)]
            first | rw [if_neg c10] | rw [if_pos c10, if_neg c16]
          rw [h9] at hZ
          exact ih (by omega) hZ
        · have c16 := (nI_eq (a := (b % (d + 1))) (b := 0) (by omega) (by omega)).mp c16
          refine go_iload_n (pc' := 20) cx dX5_commonDivisor_19 rfl rfl ?_
          refine go_iret cx rfl dX5_commonDivisor_20 ?_
          have h9 : cdF a b (d + 1) = d + 1 := by
            rw [cdF_s, if_neg (by omega), if_pos c10, if_pos c16]
          rw [h9] at hZ
          exact hZ

set_option maxHeartbeats 1000000 in
set_option maxRecDepth 20000 in
theorem c_X5_commonDivisor (l : Launch) (E : Ev) {g : IG} {o : Option Nat} {z : Int64} {a b : Nat} (ha : a < 100) (hb : b < 100) : Ct l E 115 yX5_commonDivisor cX5_commonDivisor 3 (some .int) 1 [.int (nI a), .int (nI b)] g (RFo o) z (Zi (RFo o) z (nI (cdF a b b)) g) := by
  refine Ct.of (lv0 := [(0, .int (nI a)), (1, .int (nI b))]) (by decide) (Nat.le_of_ble_eq_true rfl) rfl ?_
  intro p e s m below meth c cx
  refine go_iload_n (pc' := 1) cx dX5_commonDivisor_0 rfl rfl ?_
  refine go_istore_n (pc' := 2) cx dX5_commonDivisor_1 (ltn rfl) [(2, .int (nI b)), (0, .int (nI a)), (1, .int (nI b))] rfl rfl ?_
  exact cd_loop ha hb cx b hb (Zi.mk rfl rfl)

set_option maxHeartbeats 1000000 in
set_option maxRecDepth 20000 in
theorem chance_loop {l : Launch} {E : Ev} {Z : ZT} {g : IG} {o : Option Nat} {z : Int64} {p : Program} {e : Env} {s : State} {m : MethodId} {args : Array Value} {below : List Frame} {meth : Method} {c : Code} {hn vn ru tc : Nat} {M : Nat → TM} (hX : XP g hn vn ru tc M) (h0 : 0 < hn) (x1 x3 : Int32) {n1 : Nat} (hn1 : n1 ≤ 20) (cx : Cx p s m args meth c E 115 cX5_chance 7 yX5_chance.cls (some .long)) : ∀ (j k : Nat) (G : IG), k + j = n1 → Fr scr g G → (∀ G', Fr scr g G' → Go p l e (rmd 8) s m args below meth c E 115 7 Z G' (RFo o) z 72 [(5, .int (nI (chN (M ru) (svC g 37) hn vn x1 n1))), (0, .ref (E.2.1 0)), (1, .int x1), (2, .int (nI n1)), (3, .int x3)] []) → Go p l e (rmd 8) s m args below meth c E 115 7 Z G (RFo o) z 44 [(6, .int (nI k)), (5, .int (nI (chN (M ru) (svC g 37) hn vn x1 k))), (4, .int (BDs (M ru) (svC g 37) vn)), (0, .ref (E.2.1 0)), (1, .int x1), (2, .int (nI n1)), (3, .int x3)] [] := by
  obtain ⟨hhn5, hvn8, hruc, htc6⟩ := id hX.1
  intro j
  induction j with
  | zero =>
    intro k G hk hF kk
    have hq : k = n1 := by omega
    subst hq
    refine go_iload (pc' := 46) cx dX5_chance_44 rfl rfl ?_
    refine go_iload_n (pc' := 47) cx dX5_chance_46 rfl rfl ?_
    refine go_icmp_ge (pc' := 50) cx 72 dX5_chance_47 rfl rfl (fun _ => ?_) (fun hh => absurd ((nI_leI (a := k) (b := k) (by omega) (by omega)).mpr (Nat.le_refl _)) hh)
    refine go_sub [1, 3, 4, 5, 6] [(5, .int (nI (chN (M ru) (svC g 37) hn vn x1 k))), (0, .ref (E.2.1 0)), (1, .int x1), (2, .int (nI k)), (3, .int x3)] rfl ?_
    exact kk G hF
  | succ j ih =>
    intro k G hk hF kk
    have hcl := chN_le (M := M ru) (a := svC g 37) (hn := hn) (vn := vn) (z := x1) k
    refine go_iload (pc' := 46) cx dX5_chance_44 rfl rfl ?_
    refine go_iload_n (pc' := 47) cx dX5_chance_46 rfl rfl ?_
    refine go_icmp_ge (pc' := 50) cx 72 dX5_chance_47 rfl rfl (fun hh => absurd ((nI_leI (a := n1) (b := k) (by omega) (by omega)).mp hh) (by omega)) (fun _ => ?_)
    refine go_aload_n (pc' := 51) cx dX5_chance_50 rfl rfl ?_
    refine go_iload_n (pc' := 52) cx dX5_chance_51 rfl rfl ?_
    refine go_iload (pc' := 54) cx dX5_chance_52 rfl rfl ?_
    refine go_iadd (pc' := 55) cx dX5_chance_54 rfl ?_
    refine go_cVI (pc' := 58) cx (c_X5_badnessDrawn l E (G := G) hX h0 hF (x1 + (nI k))) mX5_badnessDrawn lX5_193 dX5_chance_55 kq0 (ltn rfl) (ltn rfl) rfl rfl rfl rfl (ltn rfl) (Nat.le_of_ble_eq_true rfl) (Nat.le_of_ble_eq_true rfl) rfl (fun y_2 G_1 hG_1 => ?_)
    have ey_2 := hG_1.1
    subst ey_2
    refine go_iload (pc' := 60) cx dX5_chance_58 rfl rfl ?_
    refine go_icmp_gt (pc' := 63) cx 66 dX5_chance_60 rfl rfl (fun c60 => ?_) (fun c60 => ?_)
    · have c60n := Int32.not_le.mpr c60
      refine go_iinc (pc' := 69) cx (nI (k + 1)) dX5_chance_66 rfl (nI_1 k) (ltn rfl) [(6, .int (nI (k + 1))), (5, .int (nI (chN (M ru) (svC g 37) hn vn x1 k))), (4, .int (BDs (M ru) (svC g 37) vn)), (0, .ref (E.2.1 0)), (1, .int x1), (2, .int (nI n1)), (3, .int x3)] rfl rfl ?_
      refine go_goto cx 44 dX5_chance_69 rfl ?_
      refine go_sub [0, 1, 2, 3, 4, 5, 6] [(6, .int (nI (k + 1))), (5, .int (nI (chN (M ru) (svC g 37) hn vn x1 k))), (4, .int (BDs (M ru) (svC g 37) vn)), (0, .ref (E.2.1 0)), (1, .int x1), (2, .int (nI n1)), (3, .int x3)] rfl ?_
      have h9 : chN (M ru) (svC g 37) hn vn x1 (k + 1) = (chN (M ru) (svC g 37) hn vn x1 k) := by
        rw [chN_s]
        first | rw [if_pos (Int32.not_lt.mp c60)] | rw [if_neg (Int32.not_le.mpr c60)]
      have h8 := ih (k + 1) G_1 (by omega) hG_1.2 kk
      rw [h9] at h8
      exact h8
    · have c60n := Int32.not_lt.mp c60
      refine go_iinc (pc' := 66) cx (nI ((chN (M ru) (svC g 37) hn vn x1 k) + 1)) dX5_chance_63 rfl (nI_1 (chN (M ru) (svC g 37) hn vn x1 k)) (ltn rfl) [(5, .int (nI ((chN (M ru) (svC g 37) hn vn x1 k) + 1))), (6, .int (nI k)), (4, .int (BDs (M ru) (svC g 37) vn)), (0, .ref (E.2.1 0)), (1, .int x1), (2, .int (nI n1)), (3, .int x3)] rfl rfl ?_
      refine go_iinc (pc' := 69) cx (nI (k + 1)) dX5_chance_66 rfl (nI_1 k) (ltn rfl) [(6, .int (nI (k + 1))), (5, .int (nI ((chN (M ru) (svC g 37) hn vn x1 k) + 1))), (4, .int (BDs (M ru) (svC g 37) vn)), (0, .ref (E.2.1 0)), (1, .int x1), (2, .int (nI n1)), (3, .int x3)] rfl rfl ?_
      refine go_goto cx 44 dX5_chance_69 rfl ?_
      refine go_sub [0, 1, 2, 3, 4, 5, 6] [(6, .int (nI (k + 1))), (5, .int (nI ((chN (M ru) (svC g 37) hn vn x1 k) + 1))), (4, .int (BDs (M ru) (svC g 37) vn)), (0, .ref (E.2.1 0)), (1, .int x1), (2, .int (nI n1)), (3, .int x3)] rfl ?_
      have h9 : chN (M ru) (svC g 37) hn vn x1 (k + 1) = ((chN (M ru) (svC g 37) hn vn x1 k) + 1) := by
        rw [chN_s]
        first | rw [if_pos (Int32.not_lt.mp c60)] | rw [if_neg (Int32.not_le.mpr c60)]
      have h8 := ih (k + 1) G_1 (by omega) hG_1.2 kk
      rw [h9] at h8
      exact h8

set_option maxHeartbeats 1000000 in
set_option maxRecDepth 20000 in
theorem c_X5_chance (l : Launch) (E : Ev) {g : IG} {o : Option Nat} {z : Int64} {hn vn ru tc : Nat} {M : Nat → TM} (hX : XP g hn vn ru tc M) (x1 x2 x3 : Int32) : Ct l E 115 yX5_chance cX5_chance 7 (some .long) 8 [.ref (E.2.1 0), .int x1, .int x2, .int x3] g (RFo o) z (ZL (RFo o) z (fun x g1 => x = chanceF (M ru) (svC g 37) hn vn x1 x2 x3 ∧ Fr scr g g1)) := by
  refine Ct.of (lv0 := [(0, .ref (E.2.1 0)), (1, .int x1), (2, .int x2), (3, .int x3)]) (by decide) (Nat.le_of_ble_eq_true rfl) rfl ?_
  intro p e s m below meth c cx
  obtain ⟨hhn5, hvn8, hruc, htc6⟩ := id hX.1
  refine go_iload_n (pc' := 1) cx dX5_chance_0 rfl rfl ?_
  refine go_iconst (pc' := 2) cx 1 dX5_chance_1 rfl rfl ?_
  refine go_icmp_lt (pc' := 5) cx 28 dX5_chance_2 rfl rfl (fun c2 => ?_) (fun c2 => ?_)
  · have c2n := Int32.not_le.mpr c2
    refine go_ldc2 (pc' := 31) cx (-4611686018427387904) kX5_196 dX5_chance_28 rfl ?_
    refine go_lret cx rfl dX5_chance_31 ?_
    exact ZL.mk ⟨by unfold chanceF; first | rw [if_pos c2] | rw [if_neg c2, if_pos c8] | rw [if_neg c2, if_neg c8, if_pos c15] | rw [if_neg c2, if_neg c8, if_neg c15, if_pos c25], Fr.rf⟩
  · have c2n := Int32.not_lt.mp c2
    refine go_iload_n (pc' := 6) cx dX5_chance_5 rfl rfl ?_
    refine go_bipush (pc' := 8) cx 20 dX5_chance_6 rfl rfl ?_
    refine go_icmp_gt (pc' := 11) cx 28 dX5_chance_8 rfl rfl (fun c8 => ?_) (fun c8 => ?_)
    · have c8n := Int32.not_le.mpr c8
      refine go_ldc2 (pc' := 31) cx (-4611686018427387904) kX5_196 dX5_chance_28 rfl ?_
      refine go_lret cx rfl dX5_chance_31 ?_
      exact ZL.mk ⟨by unfold chanceF; first | rw [if_pos c2] | rw [if_neg c2, if_pos c8] | rw [if_neg c2, if_neg c8, if_pos c15] | rw [if_neg c2, if_neg c8, if_neg c15, if_pos c25], Fr.rf⟩
    · have c8n := Int32.not_lt.mp c8
      refine go_iload_n (pc' := 12) cx dX5_chance_11 rfl rfl ?_
      refine go_cSi (pc' := 15) cx (c_X5_isFirstOrSecond l E (g := g) x3) mX5_isFirstOrSecond lX5_146 dX5_chance_12 rfl rfl rfl (ltn rfl) (Nat.le_of_ble_eq_true rfl) (Nat.le_of_ble_eq_true rfl) rfl ?_
      refine go_if_eq (pc' := 18) cx 28 dX5_chance_15 rfl rfl (fun c15 => ?_) (fun c15 => ?_)
      · refine go_ldc2 (pc' := 31) cx (-4611686018427387904) kX5_196 dX5_chance_28 rfl ?_
        refine go_lret cx rfl dX5_chance_31 ?_
        exact ZL.mk ⟨by unfold chanceF; first | rw [if_pos c2] | rw [if_neg c2, if_pos c8] | rw [if_neg c2, if_neg c8, if_pos c15] | rw [if_neg c2, if_neg c8, if_neg c15, if_pos c25], Fr.rf⟩
      · refine go_aload_n (pc' := 19) cx dX5_chance_18 rfl rfl ?_
        refine go_getr (pc' := 22) cx 37 fX5_66 dX5_chance_19 kq0 (ltn rfl) (ltn rfl) rfl rfl rfl ?_
        refine go_geti (pc' := 25) cx (nI hn) fX5_96 dX5_chance_22 kq37 (ltn rfl) (ltn rfl) rfl hX.2.1 rfl ?_
        refine go_if_ne (pc' := 28) cx 32 dX5_chance_25 rfl rfl (fun c25 => ?_) (fun c25 => ?_)
        · have c25 : ¬ hn = 0 := fun q9 => c25 ((nI_eq (a := hn) (b := 0) (by omega) (by omega)).mpr q9)
          have h0 : 0 < hn := Nat.pos_of_ne_zero c25
          obtain ⟨n1, hn1, e1⟩ := rng_n (n := 20) (M := 20) (by decide) (by decide) c2 c8
          subst e1
          have cln := clI_n (k := n1) (by omega)
          refine go_aload_n (pc' := 33) cx dX5_chance_32 rfl rfl ?_
          refine go_cVI (pc' := 36) cx (c_X5_badnessNow l E (G := g) hX Fr.rf) mX5_badnessNow lX5_159 dX5_chance_33 kq0 (ltn rfl) (ltn rfl) rfl rfl rfl rfl (ltn rfl) (Nat.le_of_ble_eq_true rfl) (Nat.le_of_ble_eq_true rfl) rfl (fun y_2 G_1 hG_1 => ?_)
          have ey_2 := hG_1.1
          subst ey_2
          refine go_istore (pc' := 38) cx dX5_chance_36 (ltn rfl) [(4, .int (BDs (M ru) (svC g 37) vn)), (0, .ref (E.2.1 0)), (1, .int x1), (2, .int (nI n1)), (3, .int x3)] rfl rfl ?_
          refine go_iconst (pc' := 39) cx 0 dX5_chance_38 rfl rfl ?_
          refine go_istore (pc' := 41) cx dX5_chance_39 (ltn rfl) [(5, .int 0), (4, .int (BDs (M ru) (svC g 37) vn)), (0, .ref (E.2.1 0)), (1, .int x1), (2, .int (nI n1)), (3, .int x3)] rfl rfl ?_
          refine go_iconst (pc' := 42) cx 0 dX5_chance_41 rfl rfl ?_
          refine go_istore (pc' := 44) cx dX5_chance_42 (ltn rfl) [(6, .int 0), (5, .int 0), (4, .int (BDs (M ru) (svC g 37) vn)), (0, .ref (E.2.1 0)), (1, .int x1), (2, .int (nI n1)), (3, .int x3)] rfl rfl ?_
          refine chance_loop hX h0 x1 x3 hn1 cx n1 0 G_1 (Nat.zero_add n1) hG_1.2 (fun G hF => ?_)
          have hcl := chN_le (M := M ru) (a := svC g 37) (hn := hn) (vn := vn) (z := x1) n1
          refine go_iload (pc' := 74) cx dX5_chance_72 rfl rfl ?_
          refine go_iload_n (pc' := 75) cx dX5_chance_74 rfl rfl ?_
          refine go_cSi (pc' := 78) cx (c_X5_commonDivisor l E (g := G) (a := (chN (M ru) (svC g 37) hn vn x1 n1)) (b := n1) (by omega) (by omega)) mX5_commonDivisor lX5_198 dX5_chance_75 rfl rfl rfl (ltn rfl) (Nat.le_of_ble_eq_true rfl) (Nat.le_of_ble_eq_true rfl) rfl ?_
          refine go_istore (pc' := 80) cx dX5_chance_78 (ltn rfl) [(6, .int (nI (cdF (chN (M ru) (svC g 37) hn vn x1 n1) n1 n1))), (5, .int (nI (chN (M ru) (svC g 37) hn vn x1 n1))), (0, .ref (E.2.1 0)), (1, .int x1), (2, .int (nI n1)), (3, .int x3)] rfl rfl ?_
          refine go_iload_n (pc' := 81) cx dX5_chance_80 rfl rfl ?_
          refine go_if_ne (pc' := 84) cx 93 dX5_chance_81 rfl rfl (fun c81 => ?_) (fun c81 => ?_)
          · refine go_iload_n (pc' := 94) cx dX5_chance_93 rfl rfl ?_
            refine go_iload (pc' := 96) cx dX5_chance_94 rfl rfl ?_
            refine go_idiv (pc' := 97) cx (nI_ne0 (cdF_pos _) (by have := cdF_le (a := (chN (M ru) (svC g 37) hn vn x1 n1)) (b := n1) n1; omega)) dX5_chance_96 rfl ?_
            refine go_val (w := .int (nI (n1 / cdF (chN (M ru) (svC g 37) hn vn x1 n1) n1 n1))) (congrArg Value.int (pk_div (by omega) (cdF_pos _) (by have := cdF_le (a := (chN (M ru) (svC g 37) hn vn x1 n1)) (b := n1) n1; omega))) ?_
            refine go_i2l (pc' := 98) cx dX5_chance_97 rfl ?_
            refine go_lret cx rfl dX5_chance_98 ?_
            exact ZL.mk ⟨by unfold chanceF; rw [if_neg c2, if_neg c8, if_neg c15, if_neg c25, cln]; first | rw [if_pos c81] | rw [if_neg c81], hF⟩
          · refine go_iload (pc' := 86) cx dX5_chance_84 rfl rfl ?_
            refine go_iload (pc' := 88) cx dX5_chance_86 rfl rfl ?_
            refine go_idiv (pc' := 89) cx (nI_ne0 (cdF_pos _) (by have := cdF_le (a := (chN (M ru) (svC g 37) hn vn x1 n1)) (b := n1) n1; omega)) dX5_chance_88 rfl ?_
            refine go_val (w := .int (nI ((chN (M ru) (svC g 37) hn vn x1 n1) / cdF (chN (M ru) (svC g 37) hn vn x1 n1) n1 n1))) (congrArg Value.int (pk_div (by omega) (cdF_pos _) (by have := cdF_le (a := (chN (M ru) (svC g 37) hn vn x1 n1)) (b := n1) n1; omega))) ?_
            refine go_i2l (pc' := 90) cx dX5_chance_89 rfl ?_
            refine go_goto cx 98 dX5_chance_90 rfl ?_
            refine go_lret cx rfl dX5_chance_98 ?_
            exact ZL.mk ⟨by unfold chanceF; rw [if_neg c2, if_neg c8, if_neg c15, if_neg c25, cln]; first | rw [if_pos c81] | rw [if_neg c81], hF⟩
        · have c25 := (nI_eq (a := hn) (b := 0) (by omega) (by omega)).mp c25
          refine go_ldc2 (pc' := 31) cx (-4611686018427387904) kX5_196 dX5_chance_28 rfl ?_
          refine go_lret cx rfl dX5_chance_31 ?_
          exact ZL.mk ⟨by unfold chanceF; first | rw [if_pos c2] | rw [if_neg c2, if_pos c8] | rw [if_neg c2, if_neg c8, if_pos c15] | rw [if_neg c2, if_neg c8, if_neg c15, if_pos c25], Fr.rf⟩

set_option maxHeartbeats 1000000 in
set_option maxRecDepth 20000 in
theorem c_X5_image (l : Launch) (E : Ev) {g : IG} {o : Option Nat} {z : Int64} {hn vn ru tc : Nat} {M : Nat → TM} (hX : XP g hn vn ru tc M)  : Ct l E 115 yX5_image cX5_image 1 (some .int) 2 [.ref (E.2.1 0)] g (RFo o) z (Zi (RFo o) z (nI vn) (up2 (bcF g 50 37) 0 5 1)) := by
  refine Ct.of (lv0 := [(0, .ref (E.2.1 0))]) (by decide) (Nat.le_of_ble_eq_true rfl) rfl ?_
  intro p e s m below meth c cx
  obtain ⟨hhn5, hvn8, hruc, htc6⟩ := id hX.1
  refine go_aload_n (pc' := 1) cx dX5_image_0 rfl rfl ?_
  refine go_getr (pc' := 4) cx 50 fX5_70 dX5_image_1 kq0 (ltn rfl) (ltn rfl) rfl rfl rfl ?_
  refine go_aload_n (pc' := 5) cx dX5_image_4 rfl rfl ?_
  refine go_getr (pc' := 8) cx 37 fX5_66 dX5_image_5 kq0 (ltn rfl) (ltn rfl) rfl rfl rfl ?_
  refine go_cVu (pc' := 11) cx (c_X1_become l E (g := g) (so := 50) (ot := 37) s50 s37 (by decide)) mX1_become lX5_201 dX5_image_8 kq50 (ltn rfl) (ltn rfl) rfl rfl rfl rfl (ltn rfl) (Nat.le_of_ble_eq_true rfl) (Nat.le_of_ble_eq_true rfl) rfl ?_
  refine go_aload_n (pc' := 12) cx dX5_image_11 rfl rfl ?_
  refine go_iconst (pc' := 13) cx 1 dX5_image_12 rfl rfl ?_
  refine go_putz (pc' := 16) cx fX5_26 dX5_image_13 kq0 (ltn rfl) (ltn rfl) rfl rfl rfl (Or.inr rfl) rfl ?_
  refine go_aload_n (pc' := 17) cx dX5_image_16 rfl rfl ?_
  refine go_getr (pc' := 20) cx 50 fX5_70 dX5_image_17 kq0 (ltn rfl) (ltn rfl) rfl rfl rfl ?_
  refine go_geti (pc' := 23) cx (nI vn) fX5_143 dX5_image_20 kq50 (ltn rfl) (ltn rfl) rfl ((up2_n _ _ (Or.inl (by omega))).trans ((bcF_int (k := 1) (by omega)).trans hX.2.2.1)) rfl ?_
  refine go_iret cx rfl dX5_image_23 ?_
  exact Zi.mk rfl rfl

set_option maxHeartbeats 1000000 in
set_option maxRecDepth 20000 in
theorem c_X5_back (l : Launch) (E : Ev) {g : IG} {o : Option Nat} {z : Int64} {hn vn ru tc : Nat} {M : Nat → TM} (hX : XP g hn vn ru tc M)  : Ct l E 115 yX5_back cX5_back 1 (some .int) 2 [.ref (E.2.1 0)] g (RFo o) z (ZI (RFo o) z (fun x g1 => (g 0 5 = 0 ∧ x = -3 ∧ g1 = g) ∨ (¬ g 0 5 = 0 ∧ x = g 50 3 ∧ g1 = bcF g 37 50))) := by
  refine Ct.of (lv0 := [(0, .ref (E.2.1 0))]) (by decide) (Nat.le_of_ble_eq_true rfl) rfl ?_
  intro p e s m below meth c cx
  obtain ⟨hhn5, hvn8, hruc, htc6⟩ := id hX.1
  refine go_aload_n (pc' := 1) cx dX5_back_0 rfl rfl ?_
  refine go_geti (pc' := 4) cx (g 0 5) fX5_26 dX5_back_1 kq0 (ltn rfl) (ltn rfl) rfl rfl rfl ?_
  refine go_if_ne (pc' := 7) cx 10 dX5_back_4 rfl rfl (fun c4 => ?_) (fun c4 => ?_)
  · refine go_aload_n (pc' := 11) cx dX5_back_10 rfl rfl ?_
    refine go_getr (pc' := 14) cx 37 fX5_66 dX5_back_11 kq0 (ltn rfl) (ltn rfl) rfl rfl rfl ?_
    refine go_aload_n (pc' := 15) cx dX5_back_14 rfl rfl ?_
    refine go_getr (pc' := 18) cx 50 fX5_70 dX5_back_15 kq0 (ltn rfl) (ltn rfl) rfl rfl rfl ?_
    refine go_cVu (pc' := 21) cx (c_X1_become l E (g := g) (so := 37) (ot := 50) s37 s50 (by decide)) mX1_become lX5_201 dX5_back_18 kq37 (ltn rfl) (ltn rfl) rfl rfl rfl rfl (ltn rfl) (Nat.le_of_ble_eq_true rfl) (Nat.le_of_ble_eq_true rfl) rfl ?_
    refine go_aload_n (pc' := 22) cx dX5_back_21 rfl rfl ?_
    refine go_getr (pc' := 25) cx 37 fX5_66 dX5_back_22 kq0 (ltn rfl) (ltn rfl) rfl rfl rfl ?_
    refine go_geti (pc' := 28) cx (g 50 3) fX5_143 dX5_back_25 kq37 (ltn rfl) (ltn rfl) rfl (bcF_int (k := 1) (by omega)) rfl ?_
    refine go_iret cx rfl dX5_back_28 ?_
    exact ZI.mk (Or.inr ⟨c4, rfl, rfl⟩)
  · refine go_bipush (pc' := 9) cx (-3) dX5_back_7 rfl rfl ?_
    refine go_iret cx rfl dX5_back_9 ?_
    exact ZI.mk (Or.inl ⟨c4, rfl, rfl⟩)

theorem rdG_o {g : IG} {t sz : Nat} {i : Nat} (h2 : i ≠ 2) (h3 : i ≠ 5 + 4 * t) (h4 : i ≠ 5 + 4 * t + 1) (h5 : i ≠ 5 + 4 * t + 2) : rdG g t sz i = g i := by
  unfold rdG rdX
  rw [stt_o h2 h3 h4]
  funext b
  rw [up2_n _ _ (Or.inl h5), up2_n _ _ (Or.inl h5), up2_n _ _ (Or.inl h5)]
theorem rdG_0 {g : IG} {t sz : Nat} (ht : t < 6) : rdG g t sz 0 1 = g 0 1 := congrFun (rdG_o (by omega) (by omega) (by omega) (by omega)) 1

set_option maxHeartbeats 1000000 in
set_option maxRecDepth 20000 in
theorem c_X5_text (l : Launch) (E : Ev) {g : IG} {o : Option Nat} {z : Int64} {hn vn ru tc : Nat} {M : Nat → TM} (hX : XP g hn vn ru tc M) {sz : Nat} (hsz : sz ≤ 160) (h1 : g 2 1 = nI sz) (htc5 : tc < 6) : Ct l E 115 yX5_text cX5_text 2 (some .int) 47 [.ref (E.2.1 0)] g (RFo o) z (ZI (RFo (some (5 + 4 * tc))) z (fun x g1 => (rdF (g 3) sz = -1 ∧ x = nI tc ∧ g1 = up2 (up2 (rdG g tc sz) 2 1 0) 0 1 (nI (tc + 1))) ∨ (¬ rdF (g 3) sz = -1 ∧ x = -100 - rdF (g 3) sz ∧ g1 = up2 (rdG g tc sz) 2 1 0))) := by
  refine Ct.of (lv0 := [(0, .ref (E.2.1 0))]) (by decide) (Nat.le_of_ble_eq_true rfl) rfl ?_
  intro p e s m below meth c cx
  obtain ⟨hhn5, hvn8, hruc, htc6⟩ := id hX.1
  refine go_aload_n (pc' := 1) cx dX5_text_0 rfl rfl ?_
  refine go_geti (pc' := 4) cx (nI tc) fX5_15 dX5_text_1 kq0 (ltn rfl) (ltn rfl) rfl hX.2.2.2.2.1 rfl ?_
  refine go_bipush (pc' := 6) cx 6 dX5_text_4 rfl rfl ?_
  refine go_icmp_lt (pc' := 9) cx 12 dX5_text_6 rfl rfl (fun _ => ?_) (fun hh => absurd ((nI_ltI (a := tc) (b := 6) (by omega) (by omega)).mpr htc5) hh)
  refine go_aload_n (pc' := 13) cx dX5_text_12 rfl rfl ?_
  refine go_getr (pc' := 16) cx 2 fX5_22 dX5_text_13 kq0 (ltn rfl) (ltn rfl) rfl rfl rfl ?_
  refine go_aload_n (pc' := 17) cx dX5_text_16 rfl rfl ?_
  refine go_getr (pc' := 20) cx 1 fX5_11 dX5_text_17 kq0 (ltn rfl) (ltn rfl) rfl rfl rfl ?_
  refine go_aload_n (pc' := 21) cx dX5_text_20 rfl rfl ?_
  refine go_geti (pc' := 24) cx (nI tc) fX5_15 dX5_text_21 kq0 (ltn rfl) (ltn rfl) rfl hX.2.2.2.2.1 rfl ?_
  refine go_aaldk (pc' := 25) cx tc (5 + 4 * tc) dX5_text_24 kq1 (Nat.le_of_ble_eq_true rfl) (ltn rfl) (ltn rfl) (vpi (k := tc) (a := 6) (by omega) rfl rfl) (cli (k := tc) (a := 6) (by omega) rfl) (txt_r htc5).2.2.2 rfl ?_
  refine go_cVi (pc' := 28) cx (by have h9 := c_X0_read l E (n := 115) (g := g) (r := RFo o) (z := z) (by decide) htc5 hsz (RdR0_o htc5) h1; rw [RFo_up] at h9; exact h9) mX0_read lX5_54 dX5_text_25 kq2 (ltn rfl) (ltn rfl) rfl rfl rfl rfl (ltn rfl) (Nat.le_of_ble_eq_true rfl) (Nat.le_of_ble_eq_true rfl) rfl ?_
  refine go_istore_n (pc' := 29) cx dX5_text_28 (ltn rfl) [(1, .int (rdF (g 3) sz)), (0, .ref (E.2.1 0))] rfl rfl ?_
  refine go_aload_n (pc' := 30) cx dX5_text_29 rfl rfl ?_
  refine go_getr (pc' := 33) cx 2 fX5_22 dX5_text_30 kq0 (ltn rfl) (ltn rfl) rfl rfl rfl ?_
  refine go_cVu (pc' := 36) cx (c_X0_empty l E (n := 115) (g := (rdG g tc sz)) (by decide)) mX0_empty lX5_58 dX5_text_33 kq2 (ltn rfl) (ltn rfl) rfl rfl rfl rfl (ltn rfl) (Nat.le_of_ble_eq_true rfl) (Nat.le_of_ble_eq_true rfl) rfl ?_
  refine go_iload_n (pc' := 37) cx dX5_text_36 rfl rfl ?_
  refine go_iconst (pc' := 38) cx (-1) dX5_text_37 rfl rfl ?_
  refine go_icmp_eq (pc' := 41) cx 46 dX5_text_38 rfl rfl (fun c38 => ?_) (fun c38 => ?_)
  · refine go_aload_n (pc' := 47) cx dX5_text_46 rfl rfl ?_
    refine go_dup (pc' := 48) cx rfl dX5_text_47 rfl ?_
    refine go_geti (pc' := 51) cx (nI tc) fX5_15 dX5_text_48 kq0 (ltn rfl) (ltn rfl) rfl ((up2_n _ _ (Or.inl (by omega))).trans ((rdG_0 htc5).trans hX.2.2.2.2.1)) rfl ?_
    refine go_iconst (pc' := 52) cx 1 dX5_text_51 rfl rfl ?_
    refine go_iadd (pc' := 53) cx dX5_text_52 rfl ?_
    refine go_val (w := .int (nI (tc + 1))) (congrArg Value.int (nI_add tc 1)) ?_
    refine go_puti (pc' := 56) cx fX5_15 dX5_text_53 kq0 (ltn rfl) (ltn rfl) rfl rfl rfl rfl ?_
    refine go_aload_n (pc' := 57) cx dX5_text_56 rfl rfl ?_
    refine go_geti (pc' := 60) cx (nI (tc + 1)) fX5_15 dX5_text_57 kq0 (ltn rfl) (ltn rfl) rfl (up2_s _ _ _ _) rfl ?_
    refine go_iconst (pc' := 61) cx 1 dX5_text_60 rfl rfl ?_
    refine go_isub (pc' := 62) cx dX5_text_61 rfl ?_
    refine go_val (w := .int (nI tc)) (congrArg Value.int (nI_pred tc)) ?_
    refine go_iret cx rfl dX5_text_62 ?_
    exact ZI.mk (Or.inl ⟨c38, rfl, rfl⟩)
  · refine go_bipush (pc' := 43) cx (-100) dX5_text_41 rfl rfl ?_
    refine go_iload_n (pc' := 44) cx dX5_text_43 rfl rfl ?_
    refine go_isub (pc' := 45) cx dX5_text_44 rfl ?_
    refine go_iret cx rfl dX5_text_45 ?_
    exact ZI.mk (Or.inr ⟨c38, rfl, rfl⟩)

set_option maxHeartbeats 1000000 in
set_option maxRecDepth 20000 in
theorem c_X5_textF (l : Launch) (E : Ev) {g : IG} {o : Option Nat} {z : Int64} {hn vn ru tc : Nat} {M : Nat → TM} (hX : XP g hn vn ru tc M) (htc5 : tc = 6) : Ct l E 115 yX5_text cX5_text 2 (some .int) 47 [.ref (E.2.1 0)] g (RFo o) z (Zi (RFo o) z (-4) g) := by
  refine Ct.of (lv0 := [(0, .ref (E.2.1 0))]) (by decide) (Nat.le_of_ble_eq_true rfl) rfl ?_
  intro p e s m below meth c cx
  obtain ⟨hhn5, hvn8, hruc, htc6⟩ := id hX.1
  refine go_aload_n (pc' := 1) cx dX5_text_0 rfl rfl ?_
  refine go_geti (pc' := 4) cx (nI tc) fX5_15 dX5_text_1 kq0 (ltn rfl) (ltn rfl) rfl hX.2.2.2.2.1 rfl ?_
  refine go_bipush (pc' := 6) cx 6 dX5_text_4 rfl rfl ?_
  refine go_icmp_lt (pc' := 9) cx 12 dX5_text_6 rfl rfl (fun hh => absurd ((nI_ltI (a := tc) (b := 6) (by omega) (by omega)).mp hh) (by omega)) (fun _ => ?_)
  refine go_bipush (pc' := 11) cx (-4) dX5_text_9 rfl rfl ?_
  refine go_iret cx rfl dX5_text_11 ?_
  exact Zi.mk rfl rfl
