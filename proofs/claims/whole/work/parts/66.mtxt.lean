/-! THE REFERENCE: a text comes out of the tape; what is read depends on the bytes that stand there alone -/
theorem skB_cg {T U : Nat → Int32} : ∀ k a, (∀ i, a ≤ i → i < a + k → T i = U i) → skB T k a = skB U k a
  | 0, _, _ => rfl
  | k + 1, a, h => by
    show (if T a = 32 then skB T k (a + 1) else if T a = 10 then skB T k (a + 1) else a) = (if U a = 32 then skB U k (a + 1) else if U a = 10 then skB U k (a + 1) else a)
    rw [h a (Nat.le_refl a) (by omega), skB_cg k (a + 1) (fun i h1 h2 => h i (by omega) (by omega))]
theorem skL_cg {T U : Nat → Int32} : ∀ k a, (∀ i, a ≤ i → i < a + k → T i = U i) → skL T k a = skL U k a
  | 0, _, _ => rfl
  | k + 1, a, h => by
    show (if isLt (T a) = 0 then a else skL T k (a + 1)) = (if isLt (U a) = 0 then a else skL U k (a + 1))
    rw [h a (Nat.le_refl a) (by omega), skL_cg k (a + 1) (fun i h1 h2 => h i (by omega) (by omega))]
theorem nmF_cg {T U : Nat → Int32} : ∀ k a v, (∀ i, a ≤ i → i < a + k → T i = U i) → nmF T k a v = nmF U k a v
  | 0, _, _, _ => rfl
  | k + 1, a, v, h => by
    show (if isDg (T a) = 0 then (a, v) else nmF T k (a + 1) (10 * v + T a - 48)) = (if isDg (U a) = 0 then (a, v) else nmF U k (a + 1) (10 * v + U a - 48))
    rw [h a (Nat.le_refl a) (by omega), nmF_cg k (a + 1) _ (fun i h1 h2 => h i (by omega) (by omega))]
theorem stF_cg {T U : Nat → Int32} {s i : Nat} : ∀ k j, (∀ q, s + j ≤ q → q < s + j + k → T q = U q) → stF T s i k j = stF U s i k j
  | 0, _, _ => rfl
  | k + 1, j, h => by
    show (if T (s + j) = (byS.getD i []).getD j 0 then stF T s i k (j + 1) else 0) = (if U (s + j) = (byS.getD i []).getD j 0 then stF U s i k (j + 1) else 0)
    rw [h (s + j) (Nat.le_refl _) (by omega), stF_cg k (j + 1) (fun q h1 h2 => h q (by omega) (by omega))]
theorem stV_cg {T U : Nat → Int32} {s len i : Nat} (h : ∀ q, s ≤ q → q < s + len → T q = U q) : stV T s len i = stV U s len i := by
  unfold stV
  by_cases e : lnS.getD i 0 = len
  · rw [if_pos e, if_pos e, stF_cg _ _ (fun q h1 h2 => h q (by omega) (by omega))]
  · rw [if_neg e, if_neg e]
theorem wcL_cg {T U : Nat → Int32} {s len : Nat} (h : ∀ q, s ≤ q → q < s + len → T q = U q) : ∀ k w, wcL T s len k w = wcL U s len k w
  | 0, _ => rfl
  | k + 1, w => by
    show (if stV T s len (w + 1) = 0 then wcL T s len k (w + 1) else nI (10000 + w)) = (if stV U s len (w + 1) = 0 then wcL U s len k (w + 1) else nI (10000 + w))
    rw [stV_cg h, wcL_cg h k (w + 1)]
theorem tokS_cg {T U : Nat → Int32} {sz a : Nat} {ft : Int32} (h : ∀ i, i < sz → T i = U i) : tokS T sz a ft = tokS U sz a ft := by
  unfold tokS
  by_cases e : sz ≤ a
  · rw [if_pos e, if_pos e]
  · have hl := skL_le (T := U) (sz - a) a
    rw [if_neg e, if_neg e, h a (by omega), nmF_cg (T := T) (U := U) (sz - a) a 0 (fun i h1 h2 => h i (by omega)), skL_cg (T := T) (U := U) (sz - a) a (fun i h1 h2 => h i (by omega)), wcL_cg (T := T) (U := U) (fun q h1 h2 => h q (by omega)) 12 0]
theorem advS_cg {T U : Nat → Int32} {sz : Nat} (h : ∀ i, i < sz → T i = U i) : advS T sz = advS U sz := funext fun S => by
  rw [advS_tok, advS_tok, tokS_cg h]
  by_cases e : S.1 ≤ sz
  · rw [skB_cg (T := T) (U := U) (sz - S.1) S.1 (fun i h1 h2 => h i (by omega))]
  · rw [show sz - S.1 = 0 by omega]
    rfl
theorem rd0_cg {T U : Nat → Int32} {sz : Nat} (h : ∀ i, i < sz → T i = U i) : rd0 T sz = rd0 U sz := by
  unfold rd0
  rw [advS_cg h]
theorem rdF_cg {T U : Nat → Int32} {sz : Nat} (h : ∀ i, i < sz → T i = U i) : rdF T sz = rdF U sz := by
  unfold rdF
  rw [advS_cg h, rd0_cg h]
theorem rdP_q {A : PS → PS} {k : Nat} {c : Int32} (h : nI (10006 + k) = c) : rdP A k = prQ A (lvl A 5).1 c := funext fun S => by
  unfold rdP prQ
  rw [h]
/-- the codes of the three parts -/
def csO (T : Nat → Int32) (sz : Nat) (k : Nat) : List Int32 := if k = 0 then (rq1 (rdP (advS T sz)) (rd0 T sz)).2 else if k = 1 then (rq2 (rdP (advS T sz)) (rd0 T sz)).2 else (rq3 (rdP (advS T sz)) (rd0 T sz)).2
theorem rdF_q {T : Nat → Int32} {sz : Nat} : rdF T sz = (demS (advS T sz) 10021 (prQ (advS T sz) (lvl (advS T sz) 5).1 10008 (prQ (advS T sz) (lvl (advS T sz) 5).1 10007 (prQ (advS T sz) (lvl (advS T sz) 5).1 10006 (rd0 T sz)).1).1).1).2.2.2 := by
  unfold rdF rq3 rq2 rq1
  rw [rdP_q (k := 0) (c := 10006) rfl, rdP_q (k := 1) (c := 10007) rfl, rdP_q (k := 2) (c := 10008) rfl]
theorem csO_ok {T : Nat → Int32} {sz : Nat} (h : rdF T sz = -1) : RdOK T sz (csO T sz) := by
  rw [rdF_q] at h
  refine ⟨h, ?_, ?_, ?_⟩
  · show (rq1 (rdP (advS T sz)) (rd0 T sz)).2 = _
    unfold rq1
    rw [rdP_q (k := 0) (c := 10006) rfl]
  · show (rq2 (rdP (advS T sz)) (rd0 T sz)).2 = _
    unfold rq2 rq1
    rw [rdP_q (k := 0) (c := 10006) rfl, rdP_q (k := 1) (c := 10007) rfl]
  · show (rq3 (rdP (advS T sz)) (rd0 T sz)).2 = _
    unfold rq3 rq2 rq1
    rw [rdP_q (k := 0) (c := 10006) rfl, rdP_q (k := 1) (c := 10007) rfl, rdP_q (k := 2) (c := 10008) rfl]
theorem csO_cg {T U : Nat → Int32} {sz : Nat} (h : ∀ i, i < sz → T i = U i) : csO T sz = csO U sz := funext fun k => by
  unfold csO
  rw [advS_cg h, rd0_cg h]
theorem RdOK_cg {T U : Nat → Int32} {sz : Nat} {cs : Nat → List Int32} (h : ∀ i, i < sz → T i = U i) (hR : RdOK T sz cs) : RdOK U sz cs := by
  unfold RdOK at *
  rw [advS_cg h, rd0_cg h] at hR
  exact hR
/-- a text that the reference reads first of all -/
theorem c_readN6 (l : Launch) (E : Ev) {g : IG} {o : Option Nat} {z : Int64} {t sz : Nat} {T : Nat → Int32} (ht : t < 6) (hsz : sz ≤ 160) (h90 : g 90 t = nI sz) (h89 : ∀ i, i < sz → g 89 (160 * t + i) = T i) (hT0 : ∀ i, i < sz → ¬ T i < 0) : Ct l E 115 yX6_read cX6_read 6 (some .int) 43 [.ref (E.2.1 88), .int (nI t), .int 0] g (RFo o) z (ZIz (RFo o) (fun x g1 z1 => FrR g g1 ∧ ((rdF T sz = -1 ∧ g1 88 33 = 0) ∨ (¬ rdF T sz = -1 ∧ g1 88 33 = 1 ∧ g1 88 34 = rdF T sz)))) := by
  have hT1 : ∀ i, i < sz → ¬ g 89 (160 * t + i) < 0 := fun i hi => by
    rw [h89 i hi]
    exact hT0 i hi
  have hC : MCx (gBn g (160 * t) sz) (160 * t) sz (g 89) := ⟨by omega, hsz, rfl, rfl, rfl, hT1⟩
  have hL := McL_0 l E (o := o) hC
  refine (c_X6_read l E (z := z) ht (by omega : 0 < 3) rfl hsz h90 rfl hT1 (lvl_P hsz 5).1 hL.1).wk ?_
  rintro _ _ _ _ ⟨⟨x, rfl, hF, p, q, r, e1, e2, e3, -, hV⟩, rfl⟩
  refine ZIz.mk ⟨hF, ?_⟩
  have e : rdF (mT (g 89) (160 * t)) sz = rdF T sz := rdF_cg h89
  have e2 := rdF_q (T := mT (g 89) (160 * t)) (sz := sz)
  rw [e] at e2
  rcases hV with ⟨v0, v1, -⟩ | ⟨v0, v1, v2⟩
  · exact Or.inl ⟨e2.trans v0, v1⟩
  · exact Or.inr ⟨fun q => v0 (e2.symm.trans q), v1, v2.trans e2.symm⟩
/-- but for a text that comes -/
def FrT (tc : Nat) (g0 g : IG) : Prop := ∀ i k, ¬ ((i = 89 ∧ 160 * tc ≤ k ∧ k < 160 * tc + 160) ∨ (i = 90 ∧ k = tc) ∨ (i = 88 ∧ (26 ≤ k ∧ k ≤ 37 ∨ k = 3 ∨ k = 6))) → g i k = g0 i k

set_option maxHeartbeats 1000000 in
set_option maxRecDepth 20000 in
theorem text_loopM {l : Launch} {E : Ev} {Z : ZT} {o : Option Nat} {p : Program} {e : Env} {s : State} {m : MethodId} {args : Array Value} {below : List Frame} {meth : Method} {c : Code} {g : IG} {z : Int64} {tc sz : Nat} (htc : tc < 6) (hsz : sz ≤ 160) (h3 : g 88 3 = nI tc) (h6 : g 88 6 = nI sz) (cx : Cx p s m args meth c E 115 cX6_text 2 yX6_text.cls (some .int)) : ∀ (k u : Nat) (G : IG), u + k = sz → (∀ i q, ¬ (i = 89 ∧ 160 * tc ≤ q ∧ q < 160 * tc + sz) → G i q = g i q) → (∀ q, q < u → G 89 (160 * tc + q) = g 91 q) → (∀ (G9 : IG), (∀ i q, ¬ (i = 89 ∧ 160 * tc ≤ q ∧ q < 160 * tc + sz) → G9 i q = g i q) → (∀ q, q < sz → G9 89 (160 * tc + q) = g 91 q) → Go p l e (rmd 44) s m args below meth c E 115 2 Z G9 (RFo o) z 49 [(1, .int (nI sz)), (0, .ref (E.2.1 88))] []) → Go p l e (rmd 44) s m args below meth c E 115 2 Z G (RFo o) z 14 [(1, .int (nI u)), (0, .ref (E.2.1 88))] [] := by
  intro k
  induction k with
  | zero =>
    intro u G hk hF h0 hZ
    have hu : u = sz := by omega
    subst hu
    refine go_iload_n (pc' := 15) cx dX6_text_14 rfl rfl ?_
    refine go_aload_n (pc' := 16) cx dX6_text_15 rfl rfl ?_
    refine go_geti (pc' := 19) cx (nI u) fX6_156 dX6_text_16 kq88 (ltn rfl) (ltn rfl) rfl ((hF 88 6 (by omega)).trans h6) rfl ?_
    refine go_icmp_ge (pc' := 22) cx 49 dX6_text_19 rfl rfl (fun _ => ?_) (fun hh9 => absurd (Int32.le_refl _) hh9)
    exact hZ G hF h0
  | succ k ih =>
    intro u G hk hF h0 hZ
    refine go_iload_n (pc' := 15) cx dX6_text_14 rfl rfl ?_
    refine go_aload_n (pc' := 16) cx dX6_text_15 rfl rfl ?_
    refine go_geti (pc' := 19) cx (nI sz) fX6_156 dX6_text_16 kq88 (ltn rfl) (ltn rfl) rfl ((hF 88 6 (by omega)).trans h6) rfl ?_
    refine go_icmp_ge (pc' := 22) cx 49 dX6_text_19 rfl rfl (fun hh9 => absurd ((nI_leI (a := sz) (b := u) (by omega) (by omega)).mp hh9) (by omega)) (fun _ => ?_)
    refine go_aload_n (pc' := 23) cx dX6_text_22 rfl rfl ?_
    refine go_getr (pc' := 26) cx 89 fX6_13 dX6_text_23 kq88 (ltn rfl) (ltn rfl) rfl rfl rfl ?_
    refine go_sipush (pc' := 29) cx 160 dX6_text_26 rfl rfl ?_
    refine go_aload_n (pc' := 30) cx dX6_text_29 rfl rfl ?_
    refine go_geti (pc' := 33) cx (nI tc) fX6_103 dX6_text_30 kq88 (ltn rfl) (ltn rfl) rfl ((hF 88 3 (by omega)).trans h3) rfl ?_
    refine go_imul (pc' := 34) cx dX6_text_33 rfl ?_
    refine go_val (w := .int (nI (160 * tc))) (congrArg Value.int (pk_mul 160 tc)) ?_
    refine go_iload_n (pc' := 35) cx dX6_text_34 rfl rfl ?_
    refine go_iadd (pc' := 36) cx dX6_text_35 rfl ?_
    refine go_val (w := .int (nI ((160 * tc) + u))) (congrArg Value.int (nI_add (160 * tc) u)) ?_
    refine go_aload_n (pc' := 37) cx dX6_text_36 rfl rfl ?_
    refine go_getr (pc' := 40) cx 91 fX6_20 dX6_text_37 kq88 (ltn rfl) (ltn rfl) rfl rfl rfl ?_
    refine go_iload_n (pc' := 41) cx dX6_text_40 rfl rfl ?_
    refine go_iald (pc' := 42) cx (G 91 u) dX6_text_41 kq91 (ltn rfl) (vpi (k := u) (a := 160) (by omega) rfl rfl) (congrArg (G 91) (cli (k := u) (a := 160) (by omega) rfl)) rfl ?_
    refine go_iastk (pc' := 43) cx ((160 * tc) + u) dX6_text_42 kq89 (ltn rfl) (vpi (k := ((160 * tc) + u)) (a := 960) (by omega) rfl rfl) (cli (k := ((160 * tc) + u)) (a := 960) (by omega) rfl) rfl ?_
    refine go_iinc (pc' := 46) cx (nI (u + 1)) dX6_text_43 rfl (nI_1 u) (ltn rfl) [(1, .int (nI (u + 1))), (0, .ref (E.2.1 88))] rfl rfl ?_
    refine go_goto cx 14 dX6_text_46 rfl ?_
    exact ih (u + 1) (up2 G 89 ((160 * tc) + u) (G 91 u)) (by omega) (fun i q h9 => (up2_n _ _ (by omega)).trans (hF i q h9)) (fun q hq => by
      by_cases e : q = u
      · rw [e, up2_s]
        exact hF 91 _ (by omega)
      · rw [up2_n _ _ (Or.inr (by omega))]
        exact h0 q (by omega)) hZ

set_option maxHeartbeats 1000000 in
set_option maxRecDepth 20000 in
theorem c_X6_text (l : Launch) (E : Ev) {g : IG} {o : Option Nat} {z : Int64} {tc sz : Nat} (htc : tc < 6) (hsz : sz ≤ 160) (h3 : g 88 3 = nI tc) (h6 : g 88 6 = nI sz) (hT0 : ∀ i, i < sz → ¬ g 91 i < 0) : Ct l E 115 yX6_text cX6_text 2 (some .int) 44 [.ref (E.2.1 88)] g (RFo o) z (ZIz (RFo o) (fun x g1 z1 => (rdF (g 91) sz = -1 ∧ x = nI tc ∧ FrT tc g g1 ∧ g1 88 3 = nI (tc + 1) ∧ g1 88 6 = 0 ∧ TtI g1 tc (csO (g 91) sz)) ∨ (¬ rdF (g 91) sz = -1 ∧ x = -100 - rdF (g 91) sz ∧ FrT tc g g1 ∧ g1 88 3 = nI tc ∧ g1 88 6 = 0))) := by
  refine Ct.of (lv0 := [(0, .ref (E.2.1 88))]) (by decide) (Nat.le_of_ble_eq_true rfl) rfl ?_
  intro p e s m below meth c cx
  refine go_aload_n (pc' := 1) cx dX6_text_0 rfl rfl ?_
  refine go_geti (pc' := 4) cx (nI tc) fX6_103 dX6_text_1 kq88 (ltn rfl) (ltn rfl) rfl h3 rfl ?_
  refine go_bipush (pc' := 6) cx 6 dX6_text_4 rfl rfl ?_
  refine go_icmp_ne (pc' := 9) cx 12 dX6_text_6 rfl rfl (fun _ => ?_) (fun hh9 => absurd ((nI_eq (a := tc) (b := 6) (by omega) (by omega)).mp hh9) (by omega))
  refine go_iconst (pc' := 13) cx 0 dX6_text_12 rfl rfl ?_
  refine go_istore_n (pc' := 14) cx dX6_text_13 (ltn rfl) [(1, .int 0), (0, .ref (E.2.1 88))] rfl rfl ?_
  refine go_sub [0, 1] [(1, .int (nI 0)), (0, .ref (E.2.1 88))] rfl ?_
  refine text_loopM (g := g) htc hsz h3 h6 cx sz 0 g (by omega) (fun i q h9 => rfl) (fun q hq => absurd hq (Nat.not_lt_zero q)) (fun G9 f9 i9 => ?_)
  refine go_aload_n (pc' := 50) cx dX6_text_49 rfl rfl ?_
  refine go_getr (pc' := 53) cx 90 fX6_17 dX6_text_50 kq88 (ltn rfl) (ltn rfl) rfl rfl rfl ?_
  refine go_aload_n (pc' := 54) cx dX6_text_53 rfl rfl ?_
  refine go_geti (pc' := 57) cx (nI tc) fX6_103 dX6_text_54 kq88 (ltn rfl) (ltn rfl) rfl ((f9 88 3 (by omega)).trans h3) rfl ?_
  refine go_aload_n (pc' := 58) cx dX6_text_57 rfl rfl ?_
  refine go_geti (pc' := 61) cx (nI sz) fX6_156 dX6_text_58 kq88 (ltn rfl) (ltn rfl) rfl ((f9 88 6 (by omega)).trans h6) rfl ?_
  refine go_iastk (pc' := 62) cx tc dX6_text_61 kq90 (ltn rfl) (vpi (k := tc) (a := 6) (by omega) rfl rfl) (cli (k := tc) (a := 6) (by omega) rfl) rfl ?_
  refine go_aload_n (pc' := 63) cx dX6_text_62 rfl rfl ?_
  refine go_iconst (pc' := 64) cx 0 dX6_text_63 rfl rfl ?_
  refine go_puti (pc' := 67) cx fX6_156 dX6_text_64 kq88 (ltn rfl) (ltn rfl) rfl rfl rfl rfl ?_
  refine go_aload_n (pc' := 68) cx dX6_text_67 rfl rfl ?_
  refine go_aload_n (pc' := 69) cx dX6_text_68 rfl rfl ?_
  refine go_geti (pc' := 72) cx (nI tc) fX6_103 dX6_text_69 kq88 (ltn rfl) (ltn rfl) rfl ((up2_n (up2 G9 90 tc (nI sz)) 0 (Or.inr (Nat.ne_of_beq_eq_false rfl))).trans ((up2_n G9 (nI sz) (Or.inl (Nat.ne_of_beq_eq_false rfl))).trans ((f9 88 3 (by omega)).trans h3))) rfl ?_
  refine go_iconst (pc' := 73) cx 0 dX6_text_72 rfl rfl ?_
  obtain ⟨GB, eGB⟩ : ∃ y : IG, y = (up2 (up2 G9 90 tc (nI sz)) 88 6 0) := ⟨_, rfl⟩
  refine go_g eGB.symm ?_
  have b90 : GB 90 tc = nI sz := by
    rw [eGB, up2_n _ _ (by omega), up2_s]
  have b89 : ∀ i, i < sz → GB 89 (160 * tc + i) = g 91 i := fun i hi => by
    rw [eGB, up2_n _ _ (by omega), up2_n _ _ (by omega)]
    exact i9 i hi
  have bF : FrT tc g GB := fun i k q => by
    rw [eGB, up2_n _ _ (by omega), up2_n _ _ (by omega)]
    exact f9 i k (by omega)
  have b3 : GB 88 3 = nI tc := by
    rw [eGB, up2_n _ _ (by omega), up2_n _ _ (by omega)]
    exact (f9 88 3 (by omega)).trans h3
  have b6 : GB 88 6 = 0 := by
    rw [eGB, up2_s]
  refine go_cVIz (pc' := 76) cx (c_readN6 l E (g := GB) (T := g 91) htc hsz b90 b89 hT0) mX6_read lX6_376 dX6_text_73 kq88 (ltn rfl) (ltn rfl) rfl rfl rfl rfl (ltn rfl) (Nat.le_of_ble_eq_true rfl) (Nat.le_of_ble_eq_true rfl) rfl (fun x2 G2 z2 h2 => ?_)
  obtain ⟨hF2, hb⟩ := h2
  have hF9 : FrT tc g G2 := fun i k q => (hF2 i k (by omega)).trans (bF i k q)
  refine go_istore_n (pc' := 77) cx dX6_text_76 (ltn rfl) [(1, .int x2), (0, .ref (E.2.1 88))] rfl rfl ?_
  refine go_aload_n (pc' := 78) cx dX6_text_77 rfl rfl ?_
  refine go_geti (pc' := 81) cx (G2 88 33) fX6_190 dX6_text_78 kq88 (ltn rfl) (ltn rfl) rfl rfl rfl ?_
  refine go_if_eq (pc' := 84) cx 92 dX6_text_81 rfl rfl (fun c81 => ?_) (fun c81 => ?_)
  · refine go_aload_n (pc' := 93) cx dX6_text_92 rfl rfl ?_
    refine go_dup (pc' := 94) cx rfl dX6_text_93 rfl ?_
    refine go_geti (pc' := 97) cx (nI tc) fX6_103 dX6_text_94 kq88 (ltn rfl) (ltn rfl) rfl ((hF2 88 3 (by omega)).trans b3) rfl ?_
    refine go_iconst (pc' := 98) cx 1 dX6_text_97 rfl rfl ?_
    refine go_iadd (pc' := 99) cx dX6_text_98 rfl ?_
    refine go_val (w := .int (nI (tc + 1))) (congrArg Value.int (nI_add tc 1)) ?_
    refine go_puti (pc' := 102) cx fX6_103 dX6_text_99 kq88 (ltn rfl) (ltn rfl) rfl rfl rfl rfl ?_
    refine go_aload_n (pc' := 103) cx dX6_text_102 rfl rfl ?_
    refine go_geti (pc' := 106) cx (nI (tc + 1)) fX6_103 dX6_text_103 kq88 (ltn rfl) (ltn rfl) rfl (up2_s G2 88 3 (nI (tc + 1))) rfl ?_
    refine go_iconst (pc' := 107) cx 1 dX6_text_106 rfl rfl ?_
    refine go_isub (pc' := 108) cx dX6_text_107 rfl ?_
    refine go_iret cx rfl dX6_text_108 ?_
    rcases hb with ⟨r1, r2⟩ | ⟨r1, r2, r3⟩
    · refine ZIz.mk (Or.inl ⟨r1, nI_pred tc, fun i k q => ?_, up2_s _ _ _ _, (up2_n _ _ (by omega)).trans ((hF2 88 6 (by omega)).trans b6), ?_⟩)
      · rw [up2_n _ _ (by omega)]
        exact hF9 i k q
      · refine ⟨sz, hsz, ?_, fun i hi => ?_, ?_⟩
        · rw [up2_n _ _ (by omega), hF2 90 tc (by omega)]
          exact b90
        · rw [up2_n _ _ (by omega), hF2 89 _ (by omega), b89 i hi]
          exact hT0 i hi
        · refine RdOK_cg (fun i hi => ?_) (csO_ok r1)
          show g 91 i = up2 G2 88 3 (nI (tc + 1)) 89 (160 * tc + i)
          rw [up2_n _ _ (by omega), hF2 89 _ (by omega), b89 i hi]
    · exact absurd (c81.symm.trans r2) (by decide)
  · refine go_bipush (pc' := 86) cx (-100) dX6_text_84 rfl rfl ?_
    refine go_aload_n (pc' := 87) cx dX6_text_86 rfl rfl ?_
    refine go_geti (pc' := 90) cx (G2 88 34) fX6_194 dX6_text_87 kq88 (ltn rfl) (ltn rfl) rfl rfl rfl ?_
    refine go_isub (pc' := 91) cx dX6_text_90 rfl ?_
    refine go_iret cx rfl dX6_text_91 ?_
    rcases hb with ⟨r1, r2⟩ | ⟨r1, r2, r3⟩
    · exact absurd r2 c81
    exact ZIz.mk (Or.inr ⟨r1, by rw [r3], hF9, (hF2 88 3 (by omega)).trans b3, (hF2 88 6 (by omega)).trans b6⟩)

set_option maxHeartbeats 1000000 in
set_option maxRecDepth 20000 in
theorem c_X6_textF (l : Launch) (E : Ev) {g : IG} {o : Option Nat} {z : Int64} (h3 : g 88 3 = 6) : Ct l E 115 yX6_text cX6_text 2 (some .int) 44 [.ref (E.2.1 88)] g (RFo o) z (Zi (RFo o) z (-4) g) := by
  refine Ct.of (lv0 := [(0, .ref (E.2.1 88))]) (by decide) (Nat.le_of_ble_eq_true rfl) rfl ?_
  intro p e s m below meth c cx
  refine go_aload_n (pc' := 1) cx dX6_text_0 rfl rfl ?_
  refine go_geti (pc' := 4) cx 6 fX6_103 dX6_text_1 kq88 (ltn rfl) (ltn rfl) rfl h3 rfl ?_
  refine go_bipush (pc' := 6) cx 6 dX6_text_4 rfl rfl ?_
  refine go_icmp_ne (pc' := 9) cx 12 dX6_text_6 rfl rfl (fun hh => absurd hh (by decide)) (fun _ => ?_)
  refine go_bipush (pc' := 11) cx (-4) dX6_text_9 rfl rfl ?_
  refine go_iret cx rfl dX6_text_11 ?_
  exact Zi.mk rfl rfl
