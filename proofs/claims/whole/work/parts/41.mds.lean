/-! THE REFERENCE: where its reader stands, beside what is read -/
def MdS (g0 : IG) (fr sz : Nat) (R : Nat → Int32) (K : Nat) (S : PS) (g : IG) (z : Int64) : Prop :=
  Fr88 g0 g ∧ g 88 32 = nI K ∧ WF (mT R fr) sz S ∧ ((S.2.2.2 = -1 ∧ g 88 33 = 0 ∧ g 88 30 = nI S.2.1 ∧ g 88 29 = kdT (mT R fr) sz S.2.1 ∧ (¬ kdT (mT R fr) sz S.2.1 = 4 → g 88 28 = nI S.1) ∧ (kdT (mT R fr) sz S.2.1 = 2 → z = S.2.2.1.toInt64) ∧ (kdT (mT R fr) sz S.2.1 = 3 → z = (mT R fr S.2.1).toInt64)) ∨ (¬ S.2.2.2 = -1 ∧ g 88 33 = 1 ∧ g 88 34 = S.2.2.2))
/-- the text that is read -/
def MCx (g0 : IG) (fr sz : Nat) (R : Nat → Int32) : Prop := fr ≤ 800 ∧ sz ≤ 160 ∧ g0 88 26 = nI fr ∧ g0 88 27 = nI sz ∧ g0 89 = R ∧ ∀ i, i < sz → ¬ R (fr + i) < 0
section MDS
variable {g0 : IG} {fr sz : Nat} {R : Nat → Int32} {K : Nat} {S : PS} {g : IG} {z : Int64}
theorem MdS.f (h : MdS g0 fr sz R K S g z) {i k : Nat} (q : ¬ (i = 88 ∧ (k = 28 ∨ k = 29 ∨ k = 30 ∨ k = 32 ∨ k = 33 ∨ k = 34))) : g i k = g0 i k := h.1 i k q
theorem MdS.tk (h : MdS g0 fr sz R K S g z) (hu : S.2.2.2 = -1) : S.2.2.1 = (tokS (mT R fr) sz S.2.1 (-1)).2.2.1 ∧ S.1 = (tokS (mT R fr) sz S.2.1 (-1)).1 ∧ S.2.1 ≤ sz := by
  obtain ⟨e, hs⟩ := h.2.2.1.tok hu
  exact ⟨congrArg (fun q : PS => q.2.2.1) e, congrArg (fun q : PS => q.1) e, hs⟩
theorem MdS.un (h : MdS g0 fr sz R K S g z) (hu : S.2.2.2 = -1) : g 88 33 = 0 ∧ g 88 30 = nI S.2.1 ∧ g 88 29 = kdT (mT R fr) sz S.2.1 ∧ (¬ kdT (mT R fr) sz S.2.1 = 4 → g 88 28 = nI S.1) ∧ (kdT (mT R fr) sz S.2.1 = 2 → z = S.2.2.1.toInt64) ∧ (kdT (mT R fr) sz S.2.1 = 3 → z = (mT R fr S.2.1).toInt64) := by
  rcases h.2.2.2 with q | q
  · exact q.2
  · exact absurd hu q.1
theorem MdS.bd (h : MdS g0 fr sz R K S g z) (hu : ¬ S.2.2.2 = -1) : g 88 33 = 1 ∧ g 88 34 = S.2.2.2 ∧ S.2.2.1 = 10022 := by
  rcases h.2.2.2 with q | q
  · exact absurd q.1 hu
  · exact ⟨q.2.1, q.2.2, h.2.2.1.bad hu⟩
theorem kd4_tk {T : Nat → Int32} {s : Nat} (h : kdT T sz s = 4) : (tokS T sz s (-1)).2.2.1 = 10022 := by
  rcases tk_all (T := T) (sz := sz) (s := s) with ⟨k, -, e⟩ | ⟨k, -, -, -, e⟩ | ⟨k, -, v, hv, e⟩ | ⟨k, -, -, e⟩ | ⟨k, -, e⟩
  · rw [h] at k; exact absurd k (by decide)
  · rw [h] at k; exact absurd k (by decide)
  · rw [h] at k; exact absurd k (by decide)
  · rw [h] at k; exact absurd k (by decide)
  · exact e
theorem MdS.kd4 (h : MdS g0 fr sz R K S g z) (hu : S.2.2.2 = -1) (ht : ¬ S.2.2.1 = 10022) : ¬ kdT (mT R fr) sz S.2.1 = 4 := fun q => ht ((h.tk hu).1.trans (kd4_tk q))
/-- the next token -/
theorem MdS.nx (hC : MCx g0 fr sz R) (h : MdS g0 fr sz R K S g z) (hu : S.2.2.2 = -1) {g1 : IG} {z1 : Int64} (hN : NxP (mT R fr) sz (skB (mT R fr) (sz - S.1) S.1) g g1 z1) : MdS g0 fr sz R K (advS (mT R fr) sz S) g1 z1 := by
  have hA := adv_W h.2.2.1 hu
  obtain ⟨n1, n2, n3, n4, n5, n6, n7, n8, n9⟩ := hN
  have e : advS (mT R fr) sz S = tokS (mT R fr) sz (skB (mT R fr) (sz - S.1) S.1) (-1) := by rw [advS_tok, hu]
  have e2 : (advS (mT R fr) sz S).2.1 = skB (mT R fr) (sz - S.1) S.1 := by rw [e]; exact tokS_st
  refine ⟨h.1.tr n1, n2.trans h.2.1, hA.1, Or.inl ⟨hA.2.2.2, n3.trans (h.un hu).1, ?_, ?_, ?_, ?_, ?_⟩⟩
  · rw [e2]; exact n5
  · rw [e2]; exact n6
  · rw [e2]
    intro q
    rw [e]
    exact n7 q
  · rw [e2]
    intro q
    rw [e]
    exact n8 q
  · rw [e2]
    exact n9
theorem MdS.fl (hsz : sz ≤ 160) (h : MdS g0 fr sz R K S g z) (hu : S.2.2.2 = -1) : MdS g0 fr sz R K (refS S) (up2 (up2 g 88 33 1) 88 34 (nI S.2.1)) z := by
  have hR := ref_W hsz h.2.2.1
  refine ⟨(h.1.up (by decide)).up (by decide), h.2.1, hR.1, Or.inr ⟨hR.2.2.1, rfl, ?_⟩⟩
  unfold refS
  rw [if_pos hu]
  rfl
theorem MdS.op (h : MdS g0 fr sz R K S g z) (K' : Nat) : MdS g0 fr sz R K' S (up2 g 88 32 (nI K')) z :=
  ⟨h.1.up (by decide), rfl, h.2.2.1, h.2.2.2⟩
end MDS
/-- a letter of the word at hand -/
def ltv (T : Nat → Int32) (s e i : Nat) (c : Int32) : Int32 := if s + i < e then (if T (s + i) = c then 1 else 0) else if c = 0 then 1 else 0
theorem ltv_iff {T : Nat → Int32} {s e i : Nat} {c : Int32} : (¬ ltv T s e i c = 0) ↔ (s + i < e → T (s + i) = c) ∧ (¬ s + i < e → c = 0) := by
  unfold ltv
  by_cases h : s + i < e
  · rw [if_pos h]
    by_cases h2 : T (s + i) = c
    · rw [if_pos h2]
      exact ⟨fun _ => ⟨fun _ => h2, fun q => absurd h q⟩, fun _ => by decide⟩
    · rw [if_neg h2]
      exact ⟨fun q => absurd rfl q, fun q => absurd (q.1 h) h2⟩
  · rw [if_neg h]
    by_cases h2 : c = 0
    · rw [if_pos h2]
      exact ⟨fun _ => ⟨fun q => absurd q h, fun _ => h2⟩, fun _ => by decide⟩
    · rw [if_neg h2]
      exact ⟨fun q => absurd rfl q, fun q => absurd (q.2 h) h2⟩
theorem lt8 {P : Nat → Prop} (h0 : P 0) (h1 : P 1) (h2 : P 2) (h3 : P 3) (h4 : P 4) (h5 : P 5) (h6 : P 6) (h7 : P 7) : ∀ i, i < 8 → P i := by
  intro i hi
  rcases (show i = 0 ∨ i = 1 ∨ i = 2 ∨ i = 3 ∨ i = 4 ∨ i = 5 ∨ i = 6 ∨ i = 7 by omega) with rfl | rfl | rfl | rfl | rfl | rfl | rfl | rfl <;> assumption
theorem tk_w {T : Nat → Int32} {sz s w : Nat} (hw : w < 12) (h : (tokS T sz s (-1)).2.2.1 = nI (10000 + w)) : kdT T sz s = 1 := by
  have hb : ∀ w, w < 12 → ¬ nI (10000 + w) = 10021 ∧ ¬ nI (10000 + w) = 10022 := by decide +kernel
  rcases tk_all (T := T) (sz := sz) (s := s) with ⟨k, -, e⟩ | ⟨k, -, -, -, e⟩ | ⟨k, -, v, hv, e⟩ | ⟨k, -, h3, e⟩ | ⟨k, -, e⟩
  · exact absurd (h.symm.trans e) (hb w hw).1
  · exact k
  · have := (nI_eq (by omega) (by omega)).mp (e.symm.trans h)
    omega
  · exfalso
    have q := e.symm.trans h
    rcases sgn_c (x := T s) with ⟨c, p⟩ | ⟨c, p⟩ | ⟨c, p⟩ | ⟨c, p⟩ | ⟨c, p⟩ | ⟨c, p⟩ | ⟨c, p⟩ | ⟨c, p⟩ | p
    · exact nI_wd hw (c := 40) (Or.inl rfl) (q.symm.trans p)
    · exact nI_wd hw (c := 41) (Or.inr (Or.inl rfl)) (q.symm.trans p)
    · exact nI_wd hw (c := 59) (Or.inr (Or.inr (Or.inl rfl))) (q.symm.trans p)
    · exact nI_wd hw (c := 43) (Or.inr (Or.inr (Or.inr (Or.inl rfl)))) (q.symm.trans p)
    · exact nI_wd hw (c := 45) (Or.inr (Or.inr (Or.inr (Or.inr (Or.inl rfl))))) (q.symm.trans p)
    · exact nI_wd hw (c := 42) (Or.inr (Or.inr (Or.inr (Or.inr (Or.inr (Or.inl rfl)))))) (q.symm.trans p)
    · exact nI_wd hw (c := 60) (Or.inr (Or.inr (Or.inr (Or.inr (Or.inr (Or.inr (Or.inl rfl))))))) (q.symm.trans p)
    · exact nI_wd hw (c := 61) (Or.inr (Or.inr (Or.inr (Or.inr (Or.inr (Or.inr (Or.inr rfl))))))) (q.symm.trans p)
    · exact h3 p
  · exact absurd (h.symm.trans e) (hb w hw).2
/-- the names' numbers, as the reference holds them -/
def evM (g0 : IG) : Int32 → Int32 := nmV (g0 88 20) (g0 88 21) (g0 88 22) (g0 88 23) (g0 88 24) (g0 88 25)

theorem sg_bad {c : Int32} (hc : isSg c) : ¬ (10022 : Int32) = sgn c := by
  rcases hc with rfl | rfl | rfl | rfl | rfl | rfl | rfl | rfl <;> decide

set_option maxHeartbeats 1000000 in
set_option maxRecDepth 20000 in
theorem c_X6_isSign (l : Launch) (E : Ev) {g0 g : IG} {o : Option Nat} {z : Int64} {fr sz K : Nat} {R : Nat → Int32} {S : PS} (hC : MCx g0 fr sz R) (hM : MdS g0 fr sz R K S g z) {c1 : Int32} (hc : isSg c1) : Ct l E 115 yX6_isSign cX6_isSign 2 (some .boolean) 1 [.ref (E.2.1 88), .int c1] g (RFo o) z (Zi (RFo o) z (if S.2.2.1 = sgn c1 then 1 else 0) g) := by
  refine Ct.of (lv0 := [(0, .ref (E.2.1 88)), (1, .int c1)]) (by decide) (Nat.le_of_ble_eq_true rfl) rfl ?_
  intro p e s m below meth c cx
  obtain ⟨hfr, hsz, h26, h27, h89, hT0⟩ := id hC
  have hK : g 88 32 = nI K := hM.2.1
  have g26 : g 88 26 = nI fr := (hM.f (by omega)).trans h26
  have g27 : g 88 27 = nI sz := (hM.f (by omega)).trans h27
  have g89 : g 89 = R := (funext fun b => hM.f (by omega)).trans h89
  by_cases hu : S.2.2.2 = -1
  · obtain ⟨hu1, hu2, hu3, hu4, hu5, hu6⟩ := hM.un hu
    obtain ⟨ht1, ht2, ht3⟩ := hM.tk hu
    refine go_aload_n (pc' := 1) cx dX6_isSign_0 rfl rfl ?_
    refine go_geti (pc' := 4) cx 0 fX6_190 dX6_isSign_1 kq88 (ltn rfl) (ltn rfl) rfl hu1 rfl ?_
    refine go_if_ne (pc' := 7) cx 29 dX6_isSign_4 rfl rfl (fun hh => absurd hh (by decide)) (fun _ => ?_)
    refine go_aload_n (pc' := 8) cx dX6_isSign_7 rfl rfl ?_
    refine go_geti (pc' := 11) cx (kdT (mT R fr) sz S.2.1) fX6_175 dX6_isSign_8 kq88 (ltn rfl) (ltn rfl) rfl hu3 rfl ?_
    refine go_iconst (pc' := 12) cx 3 dX6_isSign_11 rfl rfl ?_
    refine go_icmp_ne (pc' := 15) cx 29 dX6_isSign_12 rfl rfl (fun c12 => ?_) (fun c12 => ?_)
    · refine go_iconst (pc' := 30) cx 0 dX6_isSign_29 rfl rfl ?_
      refine go_zret cx (Or.inl rfl) rfl dX6_isSign_30 ?_
      exact Zi.mk (by rw [ht1]; rw [if_neg (fun q => c12 ((sg_iff hc).mp q).1)]) rfl
    · refine go_aload_n (pc' := 16) cx dX6_isSign_15 rfl rfl ?_
      refine go_getl (N := 56) (pc' := 19) cx fX6_186 dX6_isSign_16 (ltn rfl) rfl ?_
      refine go_iload_n (pc' := 20) cx dX6_isSign_19 rfl rfl ?_
      refine go_i2l (pc' := 21) cx dX6_isSign_20 rfl ?_
      refine go_lcmp (pc' := 22) cx dX6_isSign_21 rfl ?_
      refine go_if_ne (pc' := 25) cx 29 dX6_isSign_22 rfl rfl (fun c22 => ?_) (fun c22 => ?_)
      · refine go_iconst (pc' := 30) cx 0 dX6_isSign_29 rfl rfl ?_
        refine go_zret cx (Or.inl rfl) rfl dX6_isSign_30 ?_
        exact Zi.mk (by rw [ht1]; rw [if_neg (fun q => c22 ((lg_cmp_eq _ _).mpr ((hu6 c12).trans (i64_eq.mpr ((sg_iff hc).mp q).2))))]) rfl
      · refine go_iconst (pc' := 26) cx 1 dX6_isSign_25 rfl rfl ?_
        refine go_goto cx 30 dX6_isSign_26 rfl ?_
        refine go_zret cx (Or.inr rfl) rfl dX6_isSign_30 ?_
        exact Zi.mk (by rw [ht1]; rw [if_pos ((sg_iff hc).mpr ⟨c12, i64_eq.mp ((hu6 c12).symm.trans ((lg_cmp_eq _ _).mp c22))⟩)]) rfl
  · obtain ⟨hf1, hf2, hf3⟩ := hM.bd hu
    refine go_aload_n (pc' := 1) cx dX6_isSign_0 rfl rfl ?_
    refine go_geti (pc' := 4) cx 1 fX6_190 dX6_isSign_1 kq88 (ltn rfl) (ltn rfl) rfl hf1 rfl ?_
    refine go_if_ne (pc' := 7) cx 29 dX6_isSign_4 rfl rfl (fun _ => ?_) (fun hh => absurd hh (by decide))
    refine go_iconst (pc' := 30) cx 0 dX6_isSign_29 rfl rfl ?_
    refine go_zret cx (Or.inl rfl) rfl dX6_isSign_30 ?_
    exact Zi.mk (by rw [hf3, if_neg (sg_bad hc)]) rfl

set_option maxHeartbeats 1000000 in
set_option maxRecDepth 20000 in
theorem c_X6_fail (l : Launch) (E : Ev) {g0 g : IG} {o : Option Nat} {z : Int64} {fr sz K : Nat} {R : Nat → Int32} {S : PS} (hC : MCx g0 fr sz R) (hM : MdS g0 fr sz R K S g z)  : Ct l E 115 yX6_fail cX6_fail 1 none 1 [.ref (E.2.1 88)] g (RFo o) z (ZV (RFo o) z (fun g1 => MdS g0 fr sz R K (refS S) g1 z)) := by
  refine Ct.of (lv0 := [(0, .ref (E.2.1 88))]) (by decide) (Nat.le_of_ble_eq_true rfl) rfl ?_
  intro p e s m below meth c cx
  obtain ⟨hfr, hsz, h26, h27, h89, hT0⟩ := id hC
  have hK : g 88 32 = nI K := hM.2.1
  have g26 : g 88 26 = nI fr := (hM.f (by omega)).trans h26
  have g27 : g 88 27 = nI sz := (hM.f (by omega)).trans h27
  have g89 : g 89 = R := (funext fun b => hM.f (by omega)).trans h89
  by_cases hu : S.2.2.2 = -1
  · obtain ⟨hu1, hu2, hu3, hu4, hu5, hu6⟩ := hM.un hu
    obtain ⟨ht1, ht2, ht3⟩ := hM.tk hu
    refine go_aload_n (pc' := 1) cx dX6_fail_0 rfl rfl ?_
    refine go_geti (pc' := 4) cx 0 fX6_190 dX6_fail_1 kq88 (ltn rfl) (ltn rfl) rfl hu1 rfl ?_
    refine go_if_ne (pc' := 7) cx 20 dX6_fail_4 rfl rfl (fun hh => absurd hh (by decide)) (fun _ => ?_)
    refine go_aload_n (pc' := 8) cx dX6_fail_7 rfl rfl ?_
    refine go_iconst (pc' := 9) cx 1 dX6_fail_8 rfl rfl ?_
    refine go_putz (pc' := 12) cx fX6_190 dX6_fail_9 kq88 (ltn rfl) (ltn rfl) rfl rfl rfl (Or.inr rfl) rfl ?_
    refine go_aload_n (pc' := 13) cx dX6_fail_12 rfl rfl ?_
    refine go_aload_n (pc' := 14) cx dX6_fail_13 rfl rfl ?_
    refine go_geti (pc' := 17) cx (nI S.2.1) fX6_172 dX6_fail_14 kq88 (ltn rfl) (ltn rfl) rfl ((up2_n g 1 (Or.inr (Nat.ne_of_beq_eq_false rfl))).trans hu2) rfl ?_
    refine go_puti (pc' := 20) cx fX6_194 dX6_fail_17 kq88 (ltn rfl) (ltn rfl) rfl rfl rfl rfl ?_
    refine go_vret cx rfl dX6_fail_20 ?_
    exact ZV.mk (hM.fl hsz hu)
  · obtain ⟨hf1, hf2, hf3⟩ := hM.bd hu
    refine go_aload_n (pc' := 1) cx dX6_fail_0 rfl rfl ?_
    refine go_geti (pc' := 4) cx 1 fX6_190 dX6_fail_1 kq88 (ltn rfl) (ltn rfl) rfl hf1 rfl ?_
    refine go_if_ne (pc' := 7) cx 20 dX6_fail_4 rfl rfl (fun _ => ?_) (fun hh => absurd hh (by decide))
    refine go_vret cx rfl dX6_fail_20 ?_
    exact ZV.mk (by rw [(ref_W hsz hM.2.2.1).2.2.2 hu]; exact hM)

set_option maxHeartbeats 1000000 in
set_option maxRecDepth 20000 in
theorem c_X6_isLetter (l : Launch) (E : Ev) {g0 g : IG} {o : Option Nat} {z : Int64} {fr sz K : Nat} {R : Nat → Int32} {S : PS} (hC : MCx g0 fr sz R) (hM : MdS g0 fr sz R K S g z) (hu : S.2.2.2 = -1) (hk : kdT (mT R fr) sz S.2.1 = 1) {i : Nat} (hi : i < 8) (c1 : Int32) : Ct l E 115 yX6_isLetter cX6_isLetter 3 (some .boolean) 2 [.ref (E.2.1 88), .int (nI i), .int c1] g (RFo o) z (Zi (RFo o) z (ltv (mT R fr) S.2.1 S.1 i c1) g) := by
  refine Ct.of (lv0 := [(0, .ref (E.2.1 88)), (1, .int (nI i)), (2, .int c1)]) (by decide) (Nat.le_of_ble_eq_true rfl) rfl ?_
  intro p e s m below meth c cx
  obtain ⟨hfr, hsz, h26, h27, h89, hT0⟩ := id hC
  have hK : g 88 32 = nI K := hM.2.1
  have g26 : g 88 26 = nI fr := (hM.f (by omega)).trans h26
  have g27 : g 88 27 = nI sz := (hM.f (by omega)).trans h27
  have g89 : g 89 = R := (funext fun b => hM.f (by omega)).trans h89
  have hse : S.1 ≤ sz ∧ S.2.1 ≤ S.1 := by
    obtain ⟨q1, q2, q3⟩ := hM.tk hu
    have := tokS_at (T := mT R fr) (ft := -1) q3
    omega
  obtain ⟨hu1, hu2, hu3, hu4, hu5, hu6⟩ := hM.un hu
  obtain ⟨ht1, ht2, ht3⟩ := hM.tk hu
  refine go_aload_n (pc' := 1) cx dX6_isLetter_0 rfl rfl ?_
  refine go_geti (pc' := 4) cx (nI S.2.1) fX6_172 dX6_isLetter_1 kq88 (ltn rfl) (ltn rfl) rfl hu2 rfl ?_
  refine go_iload_n (pc' := 5) cx dX6_isLetter_4 rfl rfl ?_
  refine go_iadd (pc' := 6) cx dX6_isLetter_5 rfl ?_
  refine go_val (w := .int (nI (S.2.1 + i))) (congrArg Value.int (nI_add S.2.1 i)) ?_
  refine go_aload_n (pc' := 7) cx dX6_isLetter_6 rfl rfl ?_
  refine go_geti (pc' := 10) cx (nI S.1) fX6_165 dX6_isLetter_7 kq88 (ltn rfl) (ltn rfl) rfl (hu4 (by rw [hk]; decide)) rfl ?_
  refine go_icmp_ge (pc' := 13) cx 35 dX6_isLetter_10 rfl rfl (fun c10 => ?_) (fun c10 => ?_)
  · have c10 := (nI_leI (a := S.1) (b := (S.2.1 + i)) (by omega) (by omega)).mp c10
    refine go_iload_n (pc' := 36) cx dX6_isLetter_35 rfl rfl ?_
    refine go_if_ne (pc' := 39) cx 43 dX6_isLetter_36 rfl rfl (fun c36 => ?_) (fun c36 => ?_)
    · refine go_iconst (pc' := 44) cx 0 dX6_isLetter_43 rfl rfl ?_
      refine go_zret cx (Or.inl rfl) rfl dX6_isLetter_44 ?_
      exact Zi.mk (by unfold ltv; first | (rw [if_pos (by omega)]; first | rw [if_pos (show mT R fr (S.2.1 + i) = c1 from c24)] | rw [if_neg (show ¬ mT R fr (S.2.1 + i) = c1 from c24)]) | (rw [if_neg (by omega)]; first | rw [if_pos c36] | rw [if_neg c36])) rfl
    · refine go_iconst (pc' := 40) cx 1 dX6_isLetter_39 rfl rfl ?_
      refine go_goto cx 44 dX6_isLetter_40 rfl ?_
      refine go_zret cx (Or.inr rfl) rfl dX6_isLetter_44 ?_
      exact Zi.mk (by unfold ltv; first | (rw [if_pos (by omega)]; first | rw [if_pos (show mT R fr (S.2.1 + i) = c1 from c24)] | rw [if_neg (show ¬ mT R fr (S.2.1 + i) = c1 from c24)]) | (rw [if_neg (by omega)]; first | rw [if_pos c36] | rw [if_neg c36])) rfl
  · have c10 : ¬ S.1 ≤ (S.2.1 + i) := fun q9 => c10 ((nI_leI (a := S.1) (b := (S.2.1 + i)) (by omega) (by omega)).mpr q9)
    refine go_aload_n (pc' := 14) cx dX6_isLetter_13 rfl rfl ?_
    refine go_aload_n (pc' := 15) cx dX6_isLetter_14 rfl rfl ?_
    refine go_geti (pc' := 18) cx (nI S.2.1) fX6_172 dX6_isLetter_15 kq88 (ltn rfl) (ltn rfl) rfl hu2 rfl ?_
    refine go_iload_n (pc' := 19) cx dX6_isLetter_18 rfl rfl ?_
    refine go_iadd (pc' := 20) cx dX6_isLetter_19 rfl ?_
    refine go_val (w := .int (nI (S.2.1 + i))) (congrArg Value.int (nI_add S.2.1 i)) ?_
    refine go_cVi (pc' := 23) cx (c_X6_byteAt_i l E (g := g) (fr := fr) (sz := sz) (R := R) hfr hsz g26 g27 g89 (i := (S.2.1 + i)) (by omega)) mX6_byteAt lX6_168 dX6_isLetter_20 kq88 (ltn rfl) (ltn rfl) rfl rfl rfl rfl (ltn rfl) (Nat.le_of_ble_eq_true rfl) (Nat.le_of_ble_eq_true rfl) rfl ?_
    refine go_iload_n (pc' := 24) cx dX6_isLetter_23 rfl rfl ?_
    refine go_icmp_ne (pc' := 27) cx 31 dX6_isLetter_24 rfl rfl (fun c24 => ?_) (fun c24 => ?_)
    · refine go_iconst (pc' := 32) cx 0 dX6_isLetter_31 rfl rfl ?_
      refine go_goto cx 44 dX6_isLetter_32 rfl ?_
      refine go_zret cx (Or.inl rfl) rfl dX6_isLetter_44 ?_
      exact Zi.mk (by unfold ltv; first | (rw [if_pos (by omega)]; first | rw [if_pos (show mT R fr (S.2.1 + i) = c1 from c24)] | rw [if_neg (show ¬ mT R fr (S.2.1 + i) = c1 from c24)]) | (rw [if_neg (by omega)]; first | rw [if_pos c36] | rw [if_neg c36])) rfl
    · refine go_iconst (pc' := 28) cx 1 dX6_isLetter_27 rfl rfl ?_
      refine go_goto cx 44 dX6_isLetter_28 rfl ?_
      refine go_zret cx (Or.inr rfl) rfl dX6_isLetter_44 ?_
      exact Zi.mk (by unfold ltv; first | (rw [if_pos (by omega)]; first | rw [if_pos (show mT R fr (S.2.1 + i) = c1 from c24)] | rw [if_neg (show ¬ mT R fr (S.2.1 + i) = c1 from c24)]) | (rw [if_neg (by omega)]; first | rw [if_pos c36] | rw [if_neg c36])) rfl

theorem wd_bad {w : Nat} (hw : w < 12) : ¬ (10022 : Int32) = nI (10000 + w) := by
  have : ∀ w, w < 12 → ¬ (10022 : Int32) = nI (10000 + w) := by decide +kernel
  exact this w hw

set_option maxHeartbeats 1000000 in
set_option maxRecDepth 20000 in
theorem c_X6_isWord (l : Launch) (E : Ev) {g0 g : IG} {o : Option Nat} {z : Int64} {fr sz K : Nat} {R : Nat → Int32} {S : PS} (hC : MCx g0 fr sz R) (hM : MdS g0 fr sz R K S g z) {w : Nat} (hw : w < 12) : Ct l E 115 yX6_isWord cX6_isWord 9 (some .boolean) 3 [.ref (E.2.1 88), .int (wdC w 0), .int (wdC w 1), .int (wdC w 2), .int (wdC w 3), .int (wdC w 4), .int (wdC w 5), .int (wdC w 6), .int (wdC w 7)] g (RFo o) z (Zi (RFo o) z (if S.2.2.1 = nI (10000 + w) then 1 else 0) g) := by
  refine Ct.of (lv0 := [(0, .ref (E.2.1 88)), (1, .int (wdC w 0)), (2, .int (wdC w 1)), (3, .int (wdC w 2)), (4, .int (wdC w 3)), (5, .int (wdC w 4)), (6, .int (wdC w 5)), (7, .int (wdC w 6)), (8, .int (wdC w 7))]) (by decide) (Nat.le_of_ble_eq_true rfl) rfl ?_
  intro p e s m below meth c cx
  obtain ⟨hfr, hsz, h26, h27, h89, hT0⟩ := id hC
  have hK : g 88 32 = nI K := hM.2.1
  have g26 : g 88 26 = nI fr := (hM.f (by omega)).trans h26
  have g27 : g 88 27 = nI sz := (hM.f (by omega)).trans h27
  have g89 : g 89 = R := (funext fun b => hM.f (by omega)).trans h89
  by_cases hu : S.2.2.2 = -1
  · obtain ⟨hu1, hu2, hu3, hu4, hu5, hu6⟩ := hM.un hu
    obtain ⟨ht1, ht2, ht3⟩ := hM.tk hu
    refine go_aload_n (pc' := 1) cx dX6_isWord_0 rfl rfl ?_
    refine go_geti (pc' := 4) cx 0 fX6_190 dX6_isWord_1 kq88 (ltn rfl) (ltn rfl) rfl hu1 rfl ?_
    refine go_if_ne (pc' := 7) cx 112 dX6_isWord_4 rfl rfl (fun hh => absurd hh (by decide)) (fun _ => ?_)
    refine go_aload_n (pc' := 8) cx dX6_isWord_7 rfl rfl ?_
    refine go_geti (pc' := 11) cx (kdT (mT R fr) sz S.2.1) fX6_175 dX6_isWord_8 kq88 (ltn rfl) (ltn rfl) rfl hu3 rfl ?_
    refine go_iconst (pc' := 12) cx 1 dX6_isWord_11 rfl rfl ?_
    refine go_icmp_ne (pc' := 15) cx 112 dX6_isWord_12 rfl rfl (fun c12 => ?_) (fun c12 => ?_)
    · refine go_iconst (pc' := 113) cx 0 dX6_isWord_112 rfl rfl ?_
      refine go_zret cx (Or.inl rfl) rfl dX6_isWord_113 ?_
      exact Zi.mk (by rw [if_neg (fun q => c12 (tk_w hw (ht1.symm.trans q)))]) rfl
    · have hk1 : kdT (mT R fr) sz S.2.1 = 1 := c12
      have hkl : kdT (mT R fr) sz S.2.1 = 1 → S.1 = skL (mT R fr) (sz - S.2.1) S.2.1 ∧ (tokS (mT R fr) sz S.2.1 (-1)).2.2.1 = wcL (mT R fr) S.2.1 (skL (mT R fr) (sz - S.2.1) S.2.1 - S.2.1) 12 0 := fun q => by
        rcases tk_all (T := mT R fr) (sz := sz) (s := S.2.1) with r | ⟨-, -, -, e1, e2⟩ | r | r | r
        · rw [q] at r; exact absurd r.1 (by decide)
        · exact ⟨ht2.trans e1, e2⟩
        · rw [q] at r; exact absurd r.1 (by decide)
        · rw [q] at r; exact absurd r.1 (by decide)
        · rw [q] at r; exact absurd r.1 (by decide)
      have hse : S.1 ≤ sz ∧ S.2.1 ≤ S.1 := by
        have := tokS_at (T := mT R fr) (ft := -1) ht3
        omega
      have hlw : ∀ q, S.2.1 ≤ q → q < S.1 → ¬ isLt (mT R fr q) = 0 := fun q h1 h2 => skL_lt (sz - S.2.1) S.2.1 q h1 (by rw [← (hkl hk1).1]; exact h2)
      refine go_aload_n (pc' := 16) cx dX6_isWord_15 rfl rfl ?_
      refine go_geti (pc' := 19) cx (nI S.1) fX6_165 dX6_isWord_16 kq88 (ltn rfl) (ltn rfl) rfl (hu4 (by rw [hk1]; decide)) rfl ?_
      refine go_aload_n (pc' := 20) cx dX6_isWord_19 rfl rfl ?_
      refine go_geti (pc' := 23) cx (nI S.2.1) fX6_172 dX6_isWord_20 kq88 (ltn rfl) (ltn rfl) rfl hu2 rfl ?_
      refine go_bipush (pc' := 25) cx 8 dX6_isWord_23 rfl rfl ?_
      refine go_iadd (pc' := 26) cx dX6_isWord_25 rfl ?_
      refine go_val (w := .int (nI (S.2.1 + 8))) (congrArg Value.int (nI_add S.2.1 8)) ?_
      refine go_icmp_gt (pc' := 29) cx 112 dX6_isWord_26 rfl rfl (fun c26 => ?_) (fun c26 => ?_)
      · have c26 := (nI_ltI (a := (S.2.1 + 8)) (b := S.1) (by omega) (by omega)).mp c26
        refine go_iconst (pc' := 113) cx 0 dX6_isWord_112 rfl rfl ?_
        refine go_zret cx (Or.inl rfl) rfl dX6_isWord_113 ?_
        have hwd := wd_iff (T := mT R fr) (s := S.2.1) (e := S.1) hw hse.2 hlw
        have e9 : S.2.2.1 = wcL (mT R fr) S.2.1 (S.1 - S.2.1) 12 0 := by rw [ht1, (hkl hk1).2, ← (hkl hk1).1]
        have htk := hwd
        rw [← e9] at htk
        exact Zi.mk (by rw [if_neg (fun q => absurd (htk.mp q).1 (by omega))]) rfl
      · have c26 : ¬ (S.2.1 + 8) < S.1 := fun q9 => c26 ((nI_ltI (a := (S.2.1 + 8)) (b := S.1) (by omega) (by omega)).mpr q9)
        refine go_aload_n (pc' := 30) cx dX6_isWord_29 rfl rfl ?_
        refine go_iconst (pc' := 31) cx 0 dX6_isWord_30 rfl rfl ?_
        refine go_iload_n (pc' := 32) cx dX6_isWord_31 rfl rfl ?_
        refine go_cVi (pc' := 35) cx (c_X6_isLetter l E hC hM hu hk1 (i := 0) (by omega) (wdC w 0)) mX6_isLetter lX6_197 dX6_isWord_32 kq88 (ltn rfl) (ltn rfl) rfl rfl rfl rfl (ltn rfl) (Nat.le_of_ble_eq_true rfl) (Nat.le_of_ble_eq_true rfl) rfl ?_
        refine go_if_eq (pc' := 38) cx 112 dX6_isWord_35 rfl rfl (fun c35 => ?_) (fun c35 => ?_)
        · refine go_iconst (pc' := 113) cx 0 dX6_isWord_112 rfl rfl ?_
          refine go_zret cx (Or.inl rfl) rfl dX6_isWord_113 ?_
          have hwd := wd_iff (T := mT R fr) (s := S.2.1) (e := S.1) hw hse.2 hlw
          have e9 : S.2.2.1 = wcL (mT R fr) S.2.1 (S.1 - S.2.1) 12 0 := by rw [ht1, (hkl hk1).2, ← (hkl hk1).1]
          have htk := hwd
          rw [← e9] at htk
          exact Zi.mk (by rw [if_neg (fun q => absurd c35 (ltv_iff.mpr ((htk.mp q).2 0 (by omega))))]) rfl
        · refine go_aload_n (pc' := 39) cx dX6_isWord_38 rfl rfl ?_
          refine go_iconst (pc' := 40) cx 1 dX6_isWord_39 rfl rfl ?_
          refine go_iload_n (pc' := 41) cx dX6_isWord_40 rfl rfl ?_
          refine go_cVi (pc' := 44) cx (c_X6_isLetter l E hC hM hu hk1 (i := 1) (by omega) (wdC w 1)) mX6_isLetter lX6_197 dX6_isWord_41 kq88 (ltn rfl) (ltn rfl) rfl rfl rfl rfl (ltn rfl) (Nat.le_of_ble_eq_true rfl) (Nat.le_of_ble_eq_true rfl) rfl ?_
          refine go_if_eq (pc' := 47) cx 112 dX6_isWord_44 rfl rfl (fun c44 => ?_) (fun c44 => ?_)
          · refine go_iconst (pc' := 113) cx 0 dX6_isWord_112 rfl rfl ?_
            refine go_zret cx (Or.inl rfl) rfl dX6_isWord_113 ?_
            have hwd := wd_iff (T := mT R fr) (s := S.2.1) (e := S.1) hw hse.2 hlw
            have e9 : S.2.2.1 = wcL (mT R fr) S.2.1 (S.1 - S.2.1) 12 0 := by rw [ht1, (hkl hk1).2, ← (hkl hk1).1]
            have htk := hwd
            rw [← e9] at htk
            exact Zi.mk (by rw [if_neg (fun q => absurd c44 (ltv_iff.mpr ((htk.mp q).2 1 (by omega))))]) rfl
          · refine go_aload_n (pc' := 48) cx dX6_isWord_47 rfl rfl ?_
            refine go_iconst (pc' := 49) cx 2 dX6_isWord_48 rfl rfl ?_
            refine go_iload_n (pc' := 50) cx dX6_isWord_49 rfl rfl ?_
            refine go_cVi (pc' := 53) cx (c_X6_isLetter l E hC hM hu hk1 (i := 2) (by omega) (wdC w 2)) mX6_isLetter lX6_197 dX6_isWord_50 kq88 (ltn rfl) (ltn rfl) rfl rfl rfl rfl (ltn rfl) (Nat.le_of_ble_eq_true rfl) (Nat.le_of_ble_eq_true rfl) rfl ?_
            refine go_if_eq (pc' := 56) cx 112 dX6_isWord_53 rfl rfl (fun c53 => ?_) (fun c53 => ?_)
            · refine go_iconst (pc' := 113) cx 0 dX6_isWord_112 rfl rfl ?_
              refine go_zret cx (Or.inl rfl) rfl dX6_isWord_113 ?_
              have hwd := wd_iff (T := mT R fr) (s := S.2.1) (e := S.1) hw hse.2 hlw
              have e9 : S.2.2.1 = wcL (mT R fr) S.2.1 (S.1 - S.2.1) 12 0 := by rw [ht1, (hkl hk1).2, ← (hkl hk1).1]
              have htk := hwd
              rw [← e9] at htk
              exact Zi.mk (by rw [if_neg (fun q => absurd c53 (ltv_iff.mpr ((htk.mp q).2 2 (by omega))))]) rfl
            · refine go_aload_n (pc' := 57) cx dX6_isWord_56 rfl rfl ?_
              refine go_iconst (pc' := 58) cx 3 dX6_isWord_57 rfl rfl ?_
              refine go_iload (pc' := 60) cx dX6_isWord_58 rfl rfl ?_
              refine go_cVi (pc' := 63) cx (c_X6_isLetter l E hC hM hu hk1 (i := 3) (by omega) (wdC w 3)) mX6_isLetter lX6_197 dX6_isWord_60 kq88 (ltn rfl) (ltn rfl) rfl rfl rfl rfl (ltn rfl) (Nat.le_of_ble_eq_true rfl) (Nat.le_of_ble_eq_true rfl) rfl ?_
              refine go_if_eq (pc' := 66) cx 112 dX6_isWord_63 rfl rfl (fun c63 => ?_) (fun c63 => ?_)
              · refine go_iconst (pc' := 113) cx 0 dX6_isWord_112 rfl rfl ?_
                refine go_zret cx (Or.inl rfl) rfl dX6_isWord_113 ?_
                have hwd := wd_iff (T := mT R fr) (s := S.2.1) (e := S.1) hw hse.2 hlw
                have e9 : S.2.2.1 = wcL (mT R fr) S.2.1 (S.1 - S.2.1) 12 0 := by rw [ht1, (hkl hk1).2, ← (hkl hk1).1]
                have htk := hwd
                rw [← e9] at htk
                exact Zi.mk (by rw [if_neg (fun q => absurd c63 (ltv_iff.mpr ((htk.mp q).2 3 (by omega))))]) rfl
              · refine go_aload_n (pc' := 67) cx dX6_isWord_66 rfl rfl ?_
                refine go_iconst (pc' := 68) cx 4 dX6_isWord_67 rfl rfl ?_
                refine go_iload (pc' := 70) cx dX6_isWord_68 rfl rfl ?_
                refine go_cVi (pc' := 73) cx (c_X6_isLetter l E hC hM hu hk1 (i := 4) (by omega) (wdC w 4)) mX6_isLetter lX6_197 dX6_isWord_70 kq88 (ltn rfl) (ltn rfl) rfl rfl rfl rfl (ltn rfl) (Nat.le_of_ble_eq_true rfl) (Nat.le_of_ble_eq_true rfl) rfl ?_
                refine go_if_eq (pc' := 76) cx 112 dX6_isWord_73 rfl rfl (fun c73 => ?_) (fun c73 => ?_)
                · refine go_iconst (pc' := 113) cx 0 dX6_isWord_112 rfl rfl ?_
                  refine go_zret cx (Or.inl rfl) rfl dX6_isWord_113 ?_
                  have hwd := wd_iff (T := mT R fr) (s := S.2.1) (e := S.1) hw hse.2 hlw
                  have e9 : S.2.2.1 = wcL (mT R fr) S.2.1 (S.1 - S.2.1) 12 0 := by rw [ht1, (hkl hk1).2, ← (hkl hk1).1]
                  have htk := hwd
                  rw [← e9] at htk
                  exact Zi.mk (by rw [if_neg (fun q => absurd c73 (ltv_iff.mpr ((htk.mp q).2 4 (by omega))))]) rfl
                · refine go_aload_n (pc' := 77) cx dX6_isWord_76 rfl rfl ?_
                  refine go_iconst (pc' := 78) cx 5 dX6_isWord_77 rfl rfl ?_
                  refine go_iload (pc' := 80) cx dX6_isWord_78 rfl rfl ?_
                  refine go_cVi (pc' := 83) cx (c_X6_isLetter l E hC hM hu hk1 (i := 5) (by omega) (wdC w 5)) mX6_isLetter lX6_197 dX6_isWord_80 kq88 (ltn rfl) (ltn rfl) rfl rfl rfl rfl (ltn rfl) (Nat.le_of_ble_eq_true rfl) (Nat.le_of_ble_eq_true rfl) rfl ?_
                  refine go_if_eq (pc' := 86) cx 112 dX6_isWord_83 rfl rfl (fun c83 => ?_) (fun c83 => ?_)
                  · refine go_iconst (pc' := 113) cx 0 dX6_isWord_112 rfl rfl ?_
                    refine go_zret cx (Or.inl rfl) rfl dX6_isWord_113 ?_
                    have hwd := wd_iff (T := mT R fr) (s := S.2.1) (e := S.1) hw hse.2 hlw
                    have e9 : S.2.2.1 = wcL (mT R fr) S.2.1 (S.1 - S.2.1) 12 0 := by rw [ht1, (hkl hk1).2, ← (hkl hk1).1]
                    have htk := hwd
                    rw [← e9] at htk
                    exact Zi.mk (by rw [if_neg (fun q => absurd c83 (ltv_iff.mpr ((htk.mp q).2 5 (by omega))))]) rfl
                  · refine go_aload_n (pc' := 87) cx dX6_isWord_86 rfl rfl ?_
                    refine go_bipush (pc' := 89) cx 6 dX6_isWord_87 rfl rfl ?_
                    refine go_iload (pc' := 91) cx dX6_isWord_89 rfl rfl ?_
                    refine go_cVi (pc' := 94) cx (c_X6_isLetter l E hC hM hu hk1 (i := 6) (by omega) (wdC w 6)) mX6_isLetter lX6_197 dX6_isWord_91 kq88 (ltn rfl) (ltn rfl) rfl rfl rfl rfl (ltn rfl) (Nat.le_of_ble_eq_true rfl) (Nat.le_of_ble_eq_true rfl) rfl ?_
                    refine go_if_eq (pc' := 97) cx 112 dX6_isWord_94 rfl rfl (fun c94 => ?_) (fun c94 => ?_)
                    · refine go_iconst (pc' := 113) cx 0 dX6_isWord_112 rfl rfl ?_
                      refine go_zret cx (Or.inl rfl) rfl dX6_isWord_113 ?_
                      have hwd := wd_iff (T := mT R fr) (s := S.2.1) (e := S.1) hw hse.2 hlw
                      have e9 : S.2.2.1 = wcL (mT R fr) S.2.1 (S.1 - S.2.1) 12 0 := by rw [ht1, (hkl hk1).2, ← (hkl hk1).1]
                      have htk := hwd
                      rw [← e9] at htk
                      exact Zi.mk (by rw [if_neg (fun q => absurd c94 (ltv_iff.mpr ((htk.mp q).2 6 (by omega))))]) rfl
                    · refine go_aload_n (pc' := 98) cx dX6_isWord_97 rfl rfl ?_
                      refine go_bipush (pc' := 100) cx 7 dX6_isWord_98 rfl rfl ?_
                      refine go_iload (pc' := 102) cx dX6_isWord_100 rfl rfl ?_
                      refine go_cVi (pc' := 105) cx (c_X6_isLetter l E hC hM hu hk1 (i := 7) (by omega) (wdC w 7)) mX6_isLetter lX6_197 dX6_isWord_102 kq88 (ltn rfl) (ltn rfl) rfl rfl rfl rfl (ltn rfl) (Nat.le_of_ble_eq_true rfl) (Nat.le_of_ble_eq_true rfl) rfl ?_
                      refine go_if_eq (pc' := 108) cx 112 dX6_isWord_105 rfl rfl (fun c105 => ?_) (fun c105 => ?_)
                      · refine go_iconst (pc' := 113) cx 0 dX6_isWord_112 rfl rfl ?_
                        refine go_zret cx (Or.inl rfl) rfl dX6_isWord_113 ?_
                        have hwd := wd_iff (T := mT R fr) (s := S.2.1) (e := S.1) hw hse.2 hlw
                        have e9 : S.2.2.1 = wcL (mT R fr) S.2.1 (S.1 - S.2.1) 12 0 := by rw [ht1, (hkl hk1).2, ← (hkl hk1).1]
                        have htk := hwd
                        rw [← e9] at htk
                        exact Zi.mk (by rw [if_neg (fun q => absurd c105 (ltv_iff.mpr ((htk.mp q).2 7 (by omega))))]) rfl
                      · refine go_iconst (pc' := 109) cx 1 dX6_isWord_108 rfl rfl ?_
                        refine go_goto cx 113 dX6_isWord_109 rfl ?_
                        refine go_zret cx (Or.inr rfl) rfl dX6_isWord_113 ?_
                        have hwd := wd_iff (T := mT R fr) (s := S.2.1) (e := S.1) hw hse.2 hlw
                        have e9 : S.2.2.1 = wcL (mT R fr) S.2.1 (S.1 - S.2.1) 12 0 := by rw [ht1, (hkl hk1).2, ← (hkl hk1).1]
                        have htk := hwd
                        rw [← e9] at htk
                        exact Zi.mk (by rw [if_pos (htk.mpr ⟨by omega, lt8 (ltv_iff.mp c35) (ltv_iff.mp c44) (ltv_iff.mp c53) (ltv_iff.mp c63) (ltv_iff.mp c73) (ltv_iff.mp c83) (ltv_iff.mp c94) (ltv_iff.mp c105)⟩)]) rfl
  · obtain ⟨hf1, hf2, hf3⟩ := hM.bd hu
    refine go_aload_n (pc' := 1) cx dX6_isWord_0 rfl rfl ?_
    refine go_geti (pc' := 4) cx 1 fX6_190 dX6_isWord_1 kq88 (ltn rfl) (ltn rfl) rfl hf1 rfl ?_
    refine go_if_ne (pc' := 7) cx 112 dX6_isWord_4 rfl rfl (fun _ => ?_) (fun hh => absurd hh (by decide))
    refine go_iconst (pc' := 113) cx 0 dX6_isWord_112 rfl rfl ?_
    refine go_zret cx (Or.inl rfl) rfl dX6_isWord_113 ?_
    exact Zi.mk (by rw [hf3, if_neg (wd_bad hw)]) rfl

theorem c_isWord_0 (l : Launch) (E : Ev) {g0 g : IG} {o : Option Nat} {z : Int64} {fr sz K : Nat} {R : Nat → Int32} {S : PS} (hC : MCx g0 fr sz R) (hM : MdS g0 fr sz R K S g z)  : Ct l E 115 yX6_isWord cX6_isWord 9 (some .boolean) 3 [.ref (E.2.1 88), .int 108, .int 101, .int 110, .int 103, .int 116, .int 104, .int 0, .int 0] g (RFo o) z (Zi (RFo o) z (if S.2.2.1 = 10000 then 1 else 0) g) := c_X6_isWord l E hC hM (w := 0) (by decide)

theorem c_isWord_1 (l : Launch) (E : Ev) {g0 g : IG} {o : Option Nat} {z : Int64} {fr sz K : Nat} {R : Nat → Int32} {S : PS} (hC : MCx g0 fr sz R) (hM : MdS g0 fr sz R K S g z)  : Ct l E 115 yX6_isWord cX6_isWord 9 (some .boolean) 3 [.ref (E.2.1 88), .int 108, .int 97, .int 115, .int 116, .int 0, .int 0, .int 0, .int 0] g (RFo o) z (Zi (RFo o) z (if S.2.2.1 = 10001 then 1 else 0) g) := c_X6_isWord l E hC hM (w := 1) (by decide)

theorem c_isWord_2 (l : Launch) (E : Ev) {g0 g : IG} {o : Option Nat} {z : Int64} {fr sz K : Nat} {R : Nat → Int32} {S : PS} (hC : MCx g0 fr sz R) (hM : MdS g0 fr sz R K S g z)  : Ct l E 115 yX6_isWord cX6_isWord 9 (some .boolean) 3 [.ref (E.2.1 88), .int 119, .int 97, .int 110, .int 116, .int 0, .int 0, .int 0, .int 0] g (RFo o) z (Zi (RFo o) z (if S.2.2.1 = 10002 then 1 else 0) g) := c_X6_isWord l E hC hM (w := 2) (by decide)

theorem c_isWord_3 (l : Launch) (E : Ev) {g0 g : IG} {o : Option Nat} {z : Int64} {fr sz K : Nat} {R : Nat → Int32} {S : PS} (hC : MCx g0 fr sz R) (hM : MdS g0 fr sz R K S g z)  : Ct l E 115 yX6_isWord cX6_isWord 9 (some .boolean) 3 [.ref (E.2.1 88), .int 119, .int 101, .int 101, .int 107, .int 115, .int 0, .int 0, .int 0] g (RFo o) z (Zi (RFo o) z (if S.2.2.1 = 10003 then 1 else 0) g) := c_X6_isWord l E hC hM (w := 3) (by decide)

theorem c_isWord_4 (l : Launch) (E : Ev) {g0 g : IG} {o : Option Nat} {z : Int64} {fr sz K : Nat} {R : Nat → Int32} {S : PS} (hC : MCx g0 fr sz R) (hM : MdS g0 fr sz R K S g z)  : Ct l E 115 yX6_isWord cX6_isWord 9 (some .boolean) 3 [.ref (E.2.1 88), .int 112, .int 108, .int 97, .int 99, .int 101, .int 0, .int 0, .int 0] g (RFo o) z (Zi (RFo o) z (if S.2.2.1 = 10004 then 1 else 0) g) := c_X6_isWord l E hC hM (w := 4) (by decide)

theorem c_isWord_5 (l : Launch) (E : Ev) {g0 g : IG} {o : Option Nat} {z : Int64} {fr sz K : Nat} {R : Nat → Int32} {S : PS} (hC : MCx g0 fr sz R) (hM : MdS g0 fr sz R K S g z)  : Ct l E 115 yX6_isWord cX6_isWord 9 (some .boolean) 3 [.ref (E.2.1 88), .int 104, .int 97, .int 110, .int 100, .int 0, .int 0, .int 0, .int 0] g (RFo o) z (Zi (RFo o) z (if S.2.2.1 = 10005 then 1 else 0) g) := c_X6_isWord l E hC hM (w := 5) (by decide)

theorem c_isWord_6 (l : Launch) (E : Ev) {g0 g : IG} {o : Option Nat} {z : Int64} {fr sz K : Nat} {R : Nat → Int32} {S : PS} (hC : MCx g0 fr sz R) (hM : MdS g0 fr sz R K S g z)  : Ct l E 115 yX6_isWord cX6_isWord 9 (some .boolean) 3 [.ref (E.2.1 88), .int 103, .int 114, .int 111, .int 119, .int 115, .int 0, .int 0, .int 0] g (RFo o) z (Zi (RFo o) z (if S.2.2.1 = 10006 then 1 else 0) g) := c_X6_isWord l E hC hM (w := 6) (by decide)

theorem c_isWord_7 (l : Launch) (E : Ev) {g0 g : IG} {o : Option Nat} {z : Int64} {fr sz K : Nat} {R : Nat → Int32} {S : PS} (hC : MCx g0 fr sz R) (hM : MdS g0 fr sz R K S g z)  : Ct l E 115 yX6_isWord cX6_isWord 9 (some .boolean) 3 [.ref (E.2.1 88), .int 101, .int 118, .int 101, .int 110, .int 115, .int 0, .int 0, .int 0] g (RFo o) z (Zi (RFo o) z (if S.2.2.1 = 10007 then 1 else 0) g) := c_X6_isWord l E hC hM (w := 7) (by decide)

theorem c_isWord_8 (l : Launch) (E : Ev) {g0 g : IG} {o : Option Nat} {z : Int64} {fr sz K : Nat} {R : Nat → Int32} {S : PS} (hC : MCx g0 fr sz R) (hM : MdS g0 fr sz R K S g z)  : Ct l E 115 yX6_isWord cX6_isWord 9 (some .boolean) 3 [.ref (E.2.1 88), .int 109, .int 105, .int 110, .int 100, .int 115, .int 0, .int 0, .int 0] g (RFo o) z (Zi (RFo o) z (if S.2.2.1 = 10008 then 1 else 0) g) := c_X6_isWord l E hC hM (w := 8) (by decide)

theorem c_isWord_9 (l : Launch) (E : Ev) {g0 g : IG} {o : Option Nat} {z : Int64} {fr sz K : Nat} {R : Nat → Int32} {S : PS} (hC : MCx g0 fr sz R) (hM : MdS g0 fr sz R K S g z)  : Ct l E 115 yX6_isWord cX6_isWord 9 (some .boolean) 3 [.ref (E.2.1 88), .int 111, .int 114, .int 0, .int 0, .int 0, .int 0, .int 0, .int 0] g (RFo o) z (Zi (RFo o) z (if S.2.2.1 = 10009 then 1 else 0) g) := c_X6_isWord l E hC hM (w := 9) (by decide)

theorem c_isWord_10 (l : Launch) (E : Ev) {g0 g : IG} {o : Option Nat} {z : Int64} {fr sz K : Nat} {R : Nat → Int32} {S : PS} (hC : MCx g0 fr sz R) (hM : MdS g0 fr sz R K S g z)  : Ct l E 115 yX6_isWord cX6_isWord 9 (some .boolean) 3 [.ref (E.2.1 88), .int 97, .int 110, .int 100, .int 0, .int 0, .int 0, .int 0, .int 0] g (RFo o) z (Zi (RFo o) z (if S.2.2.1 = 10010 then 1 else 0) g) := c_X6_isWord l E hC hM (w := 10) (by decide)

theorem c_isWord_11 (l : Launch) (E : Ev) {g0 g : IG} {o : Option Nat} {z : Int64} {fr sz K : Nat} {R : Nat → Int32} {S : PS} (hC : MCx g0 fr sz R) (hM : MdS g0 fr sz R K S g z)  : Ct l E 115 yX6_isWord cX6_isWord 9 (some .boolean) 3 [.ref (E.2.1 88), .int 110, .int 111, .int 116, .int 0, .int 0, .int 0, .int 0, .int 0] g (RFo o) z (Zi (RFo o) z (if S.2.2.1 = 10011 then 1 else 0) g) := c_X6_isWord l E hC hM (w := 11) (by decide)

theorem c_nextM (l : Launch) (E : Ev) {g0 g : IG} {o : Option Nat} {z : Int64} {fr sz K : Nat} {R : Nat → Int32} {S : PS} (hC : MCx g0 fr sz R) (hM : MdS g0 fr sz R K S g z) (hu : S.2.2.2 = -1) (ht : ¬ S.2.2.1 = 10022) : Ct l E 115 yX6_next cX6_next 3 none 3 [.ref (E.2.1 88)] g (RFo o) z (ZVz (RFo o) (fun g1 z1 => MdS g0 fr sz R K (advS (mT R fr) sz S) g1 z1)) := by
  obtain ⟨hfr, hsz, h26, h27, h89, hT0⟩ := id hC
  obtain ⟨t1, t2, t3⟩ := hM.tk hu
  have hat := tokS_at (T := mT R fr) (ft := -1) t3
  refine (c_X6_next l E (g := g) (o := o) (z := z) (fr := fr) (sz := sz) (a := S.1) (R := R) hfr hsz ((hM.f (by omega)).trans h26) ((hM.f (by omega)).trans h27) ((funext fun b => hM.f (by omega)).trans h89) (by omega) ((hM.un hu).2.2.2.1 (hM.kd4 hu ht)) hT0).wk ?_
  rintro _ _ _ _ ⟨⟨rfl, hN⟩, rfl⟩
  exact ZVz.mk (hM.nx hC hu hN)

set_option maxHeartbeats 1000000 in
set_option maxRecDepth 20000 in
theorem c_X6_opens (l : Launch) (E : Ev) {g0 g : IG} {o : Option Nat} {z : Int64} {fr sz K : Nat} {R : Nat → Int32} {S : PS} (hC : MCx g0 fr sz R) (hM : MdS g0 fr sz R K S g z) (hu : S.2.2.2 = -1) (ht : ¬ S.2.2.1 = 10022) (hK5 : K < 5) : Ct l E 115 yX6_opens cX6_opens 1 (some .boolean) 4 [.ref (E.2.1 88)] g (RFo o) z (ZIz (RFo o) (fun x g1 z1 => x = 1 ∧ MdS g0 fr sz R (K + 1) (advS (mT R fr) sz S) g1 z1)) := by
  refine Ct.of (lv0 := [(0, .ref (E.2.1 88))]) (by decide) (Nat.le_of_ble_eq_true rfl) rfl ?_
  intro p e s m below meth c cx
  obtain ⟨hfr, hsz, h26, h27, h89, hT0⟩ := id hC
  have hK : g 88 32 = nI K := hM.2.1
  have g26 : g 88 26 = nI fr := (hM.f (by omega)).trans h26
  have g27 : g 88 27 = nI sz := (hM.f (by omega)).trans h27
  have g89 : g 89 = R := (funext fun b => hM.f (by omega)).trans h89
  obtain ⟨hu1, hu2, hu3, hu4, hu5, hu6⟩ := hM.un hu
  obtain ⟨ht1, ht2, ht3⟩ := hM.tk hu
  refine go_aload_n (pc' := 1) cx dX6_opens_0 rfl rfl ?_
  refine go_geti (pc' := 4) cx (nI K) fX6_200 dX6_opens_1 kq88 (ltn rfl) (ltn rfl) rfl hK rfl ?_
  refine go_iconst (pc' := 5) cx 5 dX6_opens_4 rfl rfl ?_
  refine go_icmp_ne (pc' := 8) cx 14 dX6_opens_5 rfl rfl (fun _ => ?_) (fun hh => absurd ((nI_eq (a := K) (b := 5) (by omega) (by omega)).mp hh) (by omega))
  refine go_aload_n (pc' := 15) cx dX6_opens_14 rfl rfl ?_
  refine go_dup (pc' := 16) cx rfl dX6_opens_15 rfl ?_
  refine go_geti (pc' := 19) cx (nI K) fX6_200 dX6_opens_16 kq88 (ltn rfl) (ltn rfl) rfl hK rfl ?_
  refine go_iconst (pc' := 20) cx 1 dX6_opens_19 rfl rfl ?_
  refine go_iadd (pc' := 21) cx dX6_opens_20 rfl ?_
  refine go_val (w := .int (nI (K + 1))) (congrArg Value.int (nI_add K 1)) ?_
  refine go_puti (pc' := 24) cx fX6_200 dX6_opens_21 kq88 (ltn rfl) (ltn rfl) rfl rfl rfl rfl ?_
  refine go_aload_n (pc' := 25) cx dX6_opens_24 rfl rfl ?_
  refine go_cVVz (pc' := 28) cx (c_nextM l E hC (hM.op (K + 1)) hu ht) mX6_next lX6_206 dX6_opens_25 kq88 (ltn rfl) (ltn rfl) rfl rfl rfl rfl (ltn rfl) (Nat.le_of_ble_eq_true rfl) (Nat.le_of_ble_eq_true rfl) rfl (fun G1 z1 hG => ?_)
  refine go_iconst (pc' := 29) cx 1 dX6_opens_28 rfl rfl ?_
  refine go_zret cx (Or.inr rfl) rfl dX6_opens_29 ?_
  exact ZIz.mk ⟨rfl, hG⟩

set_option maxHeartbeats 1000000 in
set_option maxRecDepth 20000 in
theorem c_X6_opens5 (l : Launch) (E : Ev) {g0 g : IG} {o : Option Nat} {z : Int64} {fr sz K : Nat} {R : Nat → Int32} {S : PS} (hC : MCx g0 fr sz R) (hM : MdS g0 fr sz R K S g z) (hK5 : K = 5) : Ct l E 115 yX6_opens cX6_opens 1 (some .boolean) 4 [.ref (E.2.1 88)] g (RFo o) z (ZI (RFo o) z (fun x g1 => x = 0 ∧ MdS g0 fr sz R K (refS S) g1 z)) := by
  refine Ct.of (lv0 := [(0, .ref (E.2.1 88))]) (by decide) (Nat.le_of_ble_eq_true rfl) rfl ?_
  intro p e s m below meth c cx
  obtain ⟨hfr, hsz, h26, h27, h89, hT0⟩ := id hC
  have hK : g 88 32 = nI K := hM.2.1
  have g26 : g 88 26 = nI fr := (hM.f (by omega)).trans h26
  have g27 : g 88 27 = nI sz := (hM.f (by omega)).trans h27
  have g89 : g 89 = R := (funext fun b => hM.f (by omega)).trans h89
  by_cases hu : S.2.2.2 = -1
  · obtain ⟨hu1, hu2, hu3, hu4, hu5, hu6⟩ := hM.un hu
    obtain ⟨ht1, ht2, ht3⟩ := hM.tk hu
    refine go_aload_n (pc' := 1) cx dX6_opens_0 rfl rfl ?_
    refine go_geti (pc' := 4) cx (nI K) fX6_200 dX6_opens_1 kq88 (ltn rfl) (ltn rfl) rfl hK rfl ?_
    refine go_iconst (pc' := 5) cx 5 dX6_opens_4 rfl rfl ?_
    refine go_icmp_ne (pc' := 8) cx 14 dX6_opens_5 rfl rfl (fun hh => absurd ((nI_eq (a := K) (b := 5) (by omega) (by omega)).mpr hK5) hh) (fun _ => ?_)
    refine go_aload_n (pc' := 9) cx dX6_opens_8 rfl rfl ?_
    refine go_cVV (pc' := 12) cx (c_X6_fail l E hC hM) mX6_fail lX6_203 dX6_opens_9 kq88 (ltn rfl) (ltn rfl) rfl rfl rfl rfl (ltn rfl) (Nat.le_of_ble_eq_true rfl) (Nat.le_of_ble_eq_true rfl) rfl (fun G1 hG => ?_)
    refine go_iconst (pc' := 13) cx 0 dX6_opens_12 rfl rfl ?_
    refine go_zret cx (Or.inl rfl) rfl dX6_opens_13 ?_
    exact ZI.mk ⟨rfl, hG⟩
  · obtain ⟨hf1, hf2, hf3⟩ := hM.bd hu
    refine go_aload_n (pc' := 1) cx dX6_opens_0 rfl rfl ?_
    refine go_geti (pc' := 4) cx (nI K) fX6_200 dX6_opens_1 kq88 (ltn rfl) (ltn rfl) rfl hK rfl ?_
    refine go_iconst (pc' := 5) cx 5 dX6_opens_4 rfl rfl ?_
    refine go_icmp_ne (pc' := 8) cx 14 dX6_opens_5 rfl rfl (fun hh => absurd ((nI_eq (a := K) (b := 5) (by omega) (by omega)).mpr hK5) hh) (fun _ => ?_)
    refine go_aload_n (pc' := 9) cx dX6_opens_8 rfl rfl ?_
    refine go_cVV (pc' := 12) cx (c_X6_fail l E hC hM) mX6_fail lX6_203 dX6_opens_9 kq88 (ltn rfl) (ltn rfl) rfl rfl rfl rfl (ltn rfl) (Nat.le_of_ble_eq_true rfl) (Nat.le_of_ble_eq_true rfl) rfl (fun G1 hG => ?_)
    refine go_iconst (pc' := 13) cx 0 dX6_opens_12 rfl rfl ?_
    refine go_zret cx (Or.inl rfl) rfl dX6_opens_13 ?_
    exact ZI.mk ⟨rfl, hG⟩

theorem tk_nm {T : Nat → Int32} {sz : Nat} {S : PS} (hk : kdT T sz S.2.1 = 1) (ht : S.2.2.1 = (tokS T sz S.2.1 (-1)).2.2.1) (h : S.2.2.1 ≤ 10005) : S.2.2.1 = 10000 ∨ S.2.2.1 = 10001 ∨ S.2.2.1 = 10002 ∨ S.2.2.1 = 10003 ∨ S.2.2.1 = 10004 ∨ S.2.2.1 = 10005 := by
  rcases tk_all (T := T) (sz := sz) (s := S.2.1) with r | ⟨-, -, -, -, e⟩ | r | r | r
  · rw [hk] at r; exact absurd r.1 (by decide)
  · rcases wcL_cases (T := T) (s := S.2.1) (len := skL T (sz - S.2.1) S.2.1 - S.2.1) 12 0 with q | ⟨j, -, hj, q, -⟩
    · rw [ht, e, q] at h
      exact absurd h (by decide)
    · have hv : S.2.2.1 = nI (10000 + j) := ht.trans (e.trans q)
      rw [hv] at h
      have h5 : 10000 + j ≤ 10005 := (nI_leI (b := 10005) (by omega) (by omega)).mp h
      rw [hv]
      rcases (show j = 0 ∨ j = 1 ∨ j = 2 ∨ j = 3 ∨ j = 4 ∨ j = 5 by omega) with rfl | rfl | rfl | rfl | rfl | rfl
      · exact Or.inl rfl
      · exact Or.inr (Or.inl rfl)
      · exact Or.inr (Or.inr (Or.inl rfl))
      · exact Or.inr (Or.inr (Or.inr (Or.inl rfl)))
      · exact Or.inr (Or.inr (Or.inr (Or.inr (Or.inl rfl))))
      · exact Or.inr (Or.inr (Or.inr (Or.inr (Or.inr rfl))))
  · rw [hk] at r; exact absurd r.1 (by decide)
  · rw [hk] at r; exact absurd r.1 (by decide)
  · rw [hk] at r; exact absurd r.1 (by decide)

set_option maxHeartbeats 1000000 in
set_option maxRecDepth 20000 in
theorem c_X6_name (l : Launch) (E : Ev) {g0 g : IG} {o : Option Nat} {z : Int64} {fr sz K : Nat} {R : Nat → Int32} {S : PS} (hC : MCx g0 fr sz R) (hM : MdS g0 fr sz R K S g z) (hu : S.2.2.2 = -1) (hk : kdT (mT R fr) sz S.2.1 = 1) : Ct l E 115 yX6_name cX6_name 1 (some .int) 4 [.ref (E.2.1 88)] g (RFo o) z (ZI (RFo o) z (fun x g1 => (S.2.2.1 ≤ 10005 ∧ x = evM g0 S.2.2.1 ∧ MdS g0 fr sz R K S g1 z) ∨ (¬ S.2.2.1 ≤ 10005 ∧ MdS g0 fr sz R K (refS S) g1 z))) := by
  refine Ct.of (lv0 := [(0, .ref (E.2.1 88))]) (by decide) (Nat.le_of_ble_eq_true rfl) rfl ?_
  intro p e s m below meth c cx
  obtain ⟨hfr, hsz, h26, h27, h89, hT0⟩ := id hC
  have hK : g 88 32 = nI K := hM.2.1
  have g26 : g 88 26 = nI fr := (hM.f (by omega)).trans h26
  have g27 : g 88 27 = nI sz := (hM.f (by omega)).trans h27
  have g89 : g 89 = R := (funext fun b => hM.f (by omega)).trans h89
  obtain ⟨hu1, hu2, hu3, hu4, hu5, hu6⟩ := hM.un hu
  obtain ⟨ht1, ht2, ht3⟩ := hM.tk hu
  refine go_aload_n (pc' := 1) cx dX6_name_0 rfl rfl ?_
  refine go_bipush (pc' := 3) cx 108 dX6_name_1 rfl rfl ?_
  refine go_bipush (pc' := 5) cx 101 dX6_name_3 rfl rfl ?_
  refine go_bipush (pc' := 7) cx 110 dX6_name_5 rfl rfl ?_
  refine go_bipush (pc' := 9) cx 103 dX6_name_7 rfl rfl ?_
  refine go_bipush (pc' := 11) cx 116 dX6_name_9 rfl rfl ?_
  refine go_bipush (pc' := 13) cx 104 dX6_name_11 rfl rfl ?_
  refine go_iconst (pc' := 14) cx 0 dX6_name_13 rfl rfl ?_
  refine go_iconst (pc' := 15) cx 0 dX6_name_14 rfl rfl ?_
  refine go_cVi (pc' := 18) cx (c_isWord_0 l E hC hM) mX6_isWord lX6_209 dX6_name_15 kq88 (ltn rfl) (ltn rfl) rfl rfl rfl rfl (ltn rfl) (Nat.le_of_ble_eq_true rfl) (Nat.le_of_ble_eq_true rfl) rfl ?_
  refine go_if_eq (pc' := 21) cx 26 dX6_name_18 rfl rfl (fun c18 => ?_) (fun c18 => ?_)
  · refine go_aload_n (pc' := 27) cx dX6_name_26 rfl rfl ?_
    refine go_bipush (pc' := 29) cx 108 dX6_name_27 rfl rfl ?_
    refine go_bipush (pc' := 31) cx 97 dX6_name_29 rfl rfl ?_
    refine go_bipush (pc' := 33) cx 115 dX6_name_31 rfl rfl ?_
    refine go_bipush (pc' := 35) cx 116 dX6_name_33 rfl rfl ?_
    refine go_iconst (pc' := 36) cx 0 dX6_name_35 rfl rfl ?_
    refine go_iconst (pc' := 37) cx 0 dX6_name_36 rfl rfl ?_
    refine go_iconst (pc' := 38) cx 0 dX6_name_37 rfl rfl ?_
    refine go_iconst (pc' := 39) cx 0 dX6_name_38 rfl rfl ?_
    refine go_cVi (pc' := 42) cx (c_isWord_1 l E hC hM) mX6_isWord lX6_209 dX6_name_39 kq88 (ltn rfl) (ltn rfl) rfl rfl rfl rfl (ltn rfl) (Nat.le_of_ble_eq_true rfl) (Nat.le_of_ble_eq_true rfl) rfl ?_
    refine go_if_eq (pc' := 45) cx 50 dX6_name_42 rfl rfl (fun c42 => ?_) (fun c42 => ?_)
    · refine go_aload_n (pc' := 51) cx dX6_name_50 rfl rfl ?_
      refine go_bipush (pc' := 53) cx 119 dX6_name_51 rfl rfl ?_
      refine go_bipush (pc' := 55) cx 97 dX6_name_53 rfl rfl ?_
      refine go_bipush (pc' := 57) cx 110 dX6_name_55 rfl rfl ?_
      refine go_bipush (pc' := 59) cx 116 dX6_name_57 rfl rfl ?_
      refine go_iconst (pc' := 60) cx 0 dX6_name_59 rfl rfl ?_
      refine go_iconst (pc' := 61) cx 0 dX6_name_60 rfl rfl ?_
      refine go_iconst (pc' := 62) cx 0 dX6_name_61 rfl rfl ?_
      refine go_iconst (pc' := 63) cx 0 dX6_name_62 rfl rfl ?_
      refine go_cVi (pc' := 66) cx (c_isWord_2 l E hC hM) mX6_isWord lX6_209 dX6_name_63 kq88 (ltn rfl) (ltn rfl) rfl rfl rfl rfl (ltn rfl) (Nat.le_of_ble_eq_true rfl) (Nat.le_of_ble_eq_true rfl) rfl ?_
      refine go_if_eq (pc' := 69) cx 74 dX6_name_66 rfl rfl (fun c66 => ?_) (fun c66 => ?_)
      · refine go_aload_n (pc' := 75) cx dX6_name_74 rfl rfl ?_
        refine go_bipush (pc' := 77) cx 119 dX6_name_75 rfl rfl ?_
        refine go_bipush (pc' := 79) cx 101 dX6_name_77 rfl rfl ?_
        refine go_bipush (pc' := 81) cx 101 dX6_name_79 rfl rfl ?_
        refine go_bipush (pc' := 83) cx 107 dX6_name_81 rfl rfl ?_
        refine go_bipush (pc' := 85) cx 115 dX6_name_83 rfl rfl ?_
        refine go_iconst (pc' := 86) cx 0 dX6_name_85 rfl rfl ?_
        refine go_iconst (pc' := 87) cx 0 dX6_name_86 rfl rfl ?_
        refine go_iconst (pc' := 88) cx 0 dX6_name_87 rfl rfl ?_
        refine go_cVi (pc' := 91) cx (c_isWord_3 l E hC hM) mX6_isWord lX6_209 dX6_name_88 kq88 (ltn rfl) (ltn rfl) rfl rfl rfl rfl (ltn rfl) (Nat.le_of_ble_eq_true rfl) (Nat.le_of_ble_eq_true rfl) rfl ?_
        refine go_if_eq (pc' := 94) cx 99 dX6_name_91 rfl rfl (fun c91 => ?_) (fun c91 => ?_)
        · refine go_aload_n (pc' := 100) cx dX6_name_99 rfl rfl ?_
          refine go_bipush (pc' := 102) cx 112 dX6_name_100 rfl rfl ?_
          refine go_bipush (pc' := 104) cx 108 dX6_name_102 rfl rfl ?_
          refine go_bipush (pc' := 106) cx 97 dX6_name_104 rfl rfl ?_
          refine go_bipush (pc' := 108) cx 99 dX6_name_106 rfl rfl ?_
          refine go_bipush (pc' := 110) cx 101 dX6_name_108 rfl rfl ?_
          refine go_iconst (pc' := 111) cx 0 dX6_name_110 rfl rfl ?_
          refine go_iconst (pc' := 112) cx 0 dX6_name_111 rfl rfl ?_
          refine go_iconst (pc' := 113) cx 0 dX6_name_112 rfl rfl ?_
          refine go_cVi (pc' := 116) cx (c_isWord_4 l E hC hM) mX6_isWord lX6_209 dX6_name_113 kq88 (ltn rfl) (ltn rfl) rfl rfl rfl rfl (ltn rfl) (Nat.le_of_ble_eq_true rfl) (Nat.le_of_ble_eq_true rfl) rfl ?_
          refine go_if_eq (pc' := 119) cx 124 dX6_name_116 rfl rfl (fun c116 => ?_) (fun c116 => ?_)
          · refine go_aload_n (pc' := 125) cx dX6_name_124 rfl rfl ?_
            refine go_bipush (pc' := 127) cx 104 dX6_name_125 rfl rfl ?_
            refine go_bipush (pc' := 129) cx 97 dX6_name_127 rfl rfl ?_
            refine go_bipush (pc' := 131) cx 110 dX6_name_129 rfl rfl ?_
            refine go_bipush (pc' := 133) cx 100 dX6_name_131 rfl rfl ?_
            refine go_iconst (pc' := 134) cx 0 dX6_name_133 rfl rfl ?_
            refine go_iconst (pc' := 135) cx 0 dX6_name_134 rfl rfl ?_
            refine go_iconst (pc' := 136) cx 0 dX6_name_135 rfl rfl ?_
            refine go_iconst (pc' := 137) cx 0 dX6_name_136 rfl rfl ?_
            refine go_cVi (pc' := 140) cx (c_isWord_5 l E hC hM) mX6_isWord lX6_209 dX6_name_137 kq88 (ltn rfl) (ltn rfl) rfl rfl rfl rfl (ltn rfl) (Nat.le_of_ble_eq_true rfl) (Nat.le_of_ble_eq_true rfl) rfl ?_
            refine go_if_eq (pc' := 143) cx 148 dX6_name_140 rfl rfl (fun c140 => ?_) (fun c140 => ?_)
            · refine go_aload_n (pc' := 149) cx dX6_name_148 rfl rfl ?_
              refine go_cVV (pc' := 152) cx (c_X6_fail l E hC hM) mX6_fail lX6_203 dX6_name_149 kq88 (ltn rfl) (ltn rfl) rfl rfl rfl rfl (ltn rfl) (Nat.le_of_ble_eq_true rfl) (Nat.le_of_ble_eq_true rfl) rfl (fun G1 hG => ?_)
              refine go_iconst (pc' := 153) cx 0 dX6_name_152 rfl rfl ?_
              refine go_iret cx rfl dX6_name_153 ?_
              refine ZI.mk (Or.inr ⟨?_, hG⟩)
              intro q
              have := tk_nm hk ht1 q
              have nc18 : ¬ S.2.2.1 = 10000 := fun r => absurd c18 (by rw [if_pos r]; decide)
              have nc42 : ¬ S.2.2.1 = 10001 := fun r => absurd c42 (by rw [if_pos r]; decide)
              have nc66 : ¬ S.2.2.1 = 10002 := fun r => absurd c66 (by rw [if_pos r]; decide)
              have nc91 : ¬ S.2.2.1 = 10003 := fun r => absurd c91 (by rw [if_pos r]; decide)
              have nc116 : ¬ S.2.2.1 = 10004 := fun r => absurd c116 (by rw [if_pos r]; decide)
              have nc140 : ¬ S.2.2.1 = 10005 := fun r => absurd c140 (by rw [if_pos r]; decide)
              rcases this with r | r | r | r | r | r
              · exact nc18 r
              · exact nc42 r
              · exact nc66 r
              · exact nc91 r
              · exact nc116 r
              · exact nc140 r
            · refine go_aload_n (pc' := 144) cx dX6_name_143 rfl rfl ?_
              refine go_geti (pc' := 147) cx (g0 88 25) fX6_228 dX6_name_144 kq88 (ltn rfl) (ltn rfl) rfl (hM.f (by omega)) rfl ?_
              refine go_iret cx rfl dX6_name_147 ?_
              have n9 : S.2.2.1 = 10005 := Classical.byContradiction fun r => c140 (if_neg r)
              exact ZI.mk (Or.inl ⟨by rw [n9]; decide, by unfold evM nmV; rw [n9]; rfl, hM⟩)
          · refine go_aload_n (pc' := 120) cx dX6_name_119 rfl rfl ?_
            refine go_geti (pc' := 123) cx (g0 88 24) fX6_225 dX6_name_120 kq88 (ltn rfl) (ltn rfl) rfl (hM.f (by omega)) rfl ?_
            refine go_iret cx rfl dX6_name_123 ?_
            have n9 : S.2.2.1 = 10004 := Classical.byContradiction fun r => c116 (if_neg r)
            exact ZI.mk (Or.inl ⟨by rw [n9]; decide, by unfold evM nmV; rw [n9]; rfl, hM⟩)
        · refine go_aload_n (pc' := 95) cx dX6_name_94 rfl rfl ?_
          refine go_geti (pc' := 98) cx (g0 88 23) fX6_222 dX6_name_95 kq88 (ltn rfl) (ltn rfl) rfl (hM.f (by omega)) rfl ?_
          refine go_iret cx rfl dX6_name_98 ?_
          have n9 : S.2.2.1 = 10003 := Classical.byContradiction fun r => c91 (if_neg r)
          exact ZI.mk (Or.inl ⟨by rw [n9]; decide, by unfold evM nmV; rw [n9]; rfl, hM⟩)
      · refine go_aload_n (pc' := 70) cx dX6_name_69 rfl rfl ?_
        refine go_geti (pc' := 73) cx (g0 88 22) fX6_219 dX6_name_70 kq88 (ltn rfl) (ltn rfl) rfl (hM.f (by omega)) rfl ?_
        refine go_iret cx rfl dX6_name_73 ?_
        have n9 : S.2.2.1 = 10002 := Classical.byContradiction fun r => c66 (if_neg r)
        exact ZI.mk (Or.inl ⟨by rw [n9]; decide, by unfold evM nmV; rw [n9]; rfl, hM⟩)
    · refine go_aload_n (pc' := 46) cx dX6_name_45 rfl rfl ?_
      refine go_geti (pc' := 49) cx (g0 88 21) fX6_216 dX6_name_46 kq88 (ltn rfl) (ltn rfl) rfl (hM.f (by omega)) rfl ?_
      refine go_iret cx rfl dX6_name_49 ?_
      have n9 : S.2.2.1 = 10001 := Classical.byContradiction fun r => c42 (if_neg r)
      exact ZI.mk (Or.inl ⟨by rw [n9]; decide, by unfold evM nmV; rw [n9]; rfl, hM⟩)
  · refine go_aload_n (pc' := 22) cx dX6_name_21 rfl rfl ?_
    refine go_geti (pc' := 25) cx (g0 88 20) fX6_213 dX6_name_22 kq88 (ltn rfl) (ltn rfl) rfl (hM.f (by omega)) rfl ?_
    refine go_iret cx rfl dX6_name_25 ?_
    have n9 : S.2.2.1 = 10000 := Classical.byContradiction fun r => c18 (if_neg r)
    exact ZI.mk (Or.inl ⟨by rw [n9]; decide, by unfold evM nmV; rw [n9]; rfl, hM⟩)
