/-! THE REFERENCE: a text is read -/
def prQ (A : PS → PS) (F : PF) (cw : Int32) (S : PS) : PS × List Int32 := (demS A 10014 (F (demS A cw S)).1, (F (demS A cw S)).2)
theorem prP_W {T : Nat → Int32} {sz : Nat} (hz : sz ≤ 160) {F : PF} (hP : Pp T sz F) {cw : Int32} (hc : ¬ cw = 10022) {S : PS} (hS : WF T sz S) : WF T sz (prQ (advS T sz) F cw S).1 ∧ (¬ S.2.2.2 = -1 → (prQ (advS T sz) F cw S).1 = S) := by
  have d1 := dem_W hz hc hS
  have f1 := hP _ d1.1
  have d2 := dem_W hz (w := 10014) (by decide) f1.1
  refine ⟨d2.1, fun q => ?_⟩
  have e1 := d1.2.2.1 q
  have e2 : (F (demS (advS T sz) cw S)).1 = S := by
    rw [e1] at f1 ⊢
    exact f1.2.2 q
  show demS (advS T sz) 10014 (F (demS (advS T sz) cw S)).1 = S
  rw [e2] at d2 ⊢
  exact d2.2.2.1 q

set_option maxHeartbeats 1000000 in
set_option maxRecDepth 20000 in
theorem c_X6_part (l : Launch) (E : Ev) {g0 : IG} {o : Option Nat} {fr sz : Nat} {R : Nat → Int32} (hC : MCx g0 fr sz R) {F : PF} (hP : Pp (mT R fr) sz F) {D : Nat} (hC1 : McC l E o g0 fr sz R 0 yX6_either0 cX6_either0 3 41 F D) {cw : Int32} (hcw : ¬ cw = 10022) (S : PS) (g : IG) (z : Int64) (hM : MdS g0 fr sz R 0 S g z) : Ct l E 115 yX6_part cX6_part 3 (some .int) 42 [.ref (E.2.1 88), .int (if S.2.2.1 = cw then 1 else 0)] g (RFo o) z (ZIz (RFo o) (fun x g1 z1 => MdS g0 fr sz R 0 (prQ (advS (mT R fr) sz) F cw S).1 g1 z1 ∧ ((prQ (advS (mT R fr) sz) F cw S).1.2.2.2 = -1 → GC (evM g0) D (prQ (advS (mT R fr) sz) F cw S).2 x))) := by
  obtain ⟨hfr, hsz, h26, h27, h89, hT0⟩ := id hC
  by_cases hk : S.2.2.1 = cw
  · have hu := hM.2.2.1.un (by rw [hk]; exact hcw)
    rw [if_pos hk]
    refine Ct.of (lv0 := [(0, .ref (E.2.1 88)), (1, .int 1)]) (by decide) (Nat.le_of_ble_eq_true rfl) rfl ?_
    intro p e s m below meth c cx
    refine go_iload_n (pc' := 1) cx dX6_part_0 rfl rfl ?_
    refine go_if_ne (pc' := 4) cx 8 dX6_part_1 rfl rfl (fun _ => ?_) (fun hh => absurd hh (by decide))
    refine go_aload_n (pc' := 9) cx dX6_part_8 rfl rfl ?_
    refine go_geti (pc' := 12) cx 0 fX6_190 dX6_part_9 kq88 (ltn rfl) (ltn rfl) rfl ((hM).un hu).1 rfl ?_
    refine go_if_ne (pc' := 15) cx 19 dX6_part_12 rfl rfl (fun hh => absurd hh (by decide)) (fun _ => ?_)
    refine go_aload_n (pc' := 16) cx dX6_part_15 rfl rfl ?_
    have aG_1 := adv_W hM.2.2.1 hu
    refine go_cVVz (pc' := 19) cx (c_nextM l E hC hM hu (by rw [hk]; exact hcw)) mX6_next lX6_206 dX6_part_16 kq88 (ltn rfl) (ltn rfl) rfl rfl rfl rfl (by omega) (Nat.le_of_ble_eq_true rfl) (Nat.le_of_ble_eq_true rfl) rfl (fun G_1 z_2 mG_1 => ?_)
    refine go_aload_n (pc' := 20) cx dX6_part_19 rfl rfl ?_
    refine go_geti (pc' := 23) cx 0 fX6_190 dX6_part_20 kq88 (ltn rfl) (ltn rfl) rfl ((mG_1).un (aG_1.2.2.2)).1 rfl ?_
    refine go_if_eq (pc' := 26) cx 30 dX6_part_23 rfl rfl (fun _ => ?_) (fun hh => absurd hh (by decide))
    refine go_aload_n (pc' := 31) cx dX6_part_30 rfl rfl ?_
    refine go_cVIz (pc' := 34) cx (hC1 (advS (mT R fr) sz S) G_1 z_2 mG_1) mX6_either0 lX6_351 dX6_part_31 kq88 (ltn rfl) (ltn rfl) rfl rfl rfl rfl (by omega) (Nat.le_of_ble_eq_true rfl) (Nat.le_of_ble_eq_true rfl) rfl (fun w_5 G_3 z_4 hG_3 => ?_)
    obtain ⟨mG_3, vG_3⟩ := hG_3
    refine go_istore_n (pc' := 35) cx dX6_part_34 (ltn rfl) [(2, .int w_5), (0, .ref (E.2.1 88)), (1, .int 1)] rfl rfl ?_
    refine go_aload_n (pc' := 36) cx dX6_part_35 rfl rfl ?_
    refine go_bipush (pc' := 38) cx 59 dX6_part_36 rfl rfl ?_
    refine go_cVi (pc' := 41) cx (c_isSign_59 l E hC mG_3) mX6_isSign lX6_231 dX6_part_38 kq88 (ltn rfl) (ltn rfl) rfl rfl rfl rfl (by omega) (Nat.le_of_ble_eq_true rfl) (Nat.le_of_ble_eq_true rfl) rfl ?_
    refine go_if_ne (pc' := 44) cx 48 dX6_part_41 rfl rfl (fun c41 => ?_) (fun c41 => ?_)
    · have tc41G_3 : ((F (advS (mT R fr) sz S)).1).2.2.1 = 10014 := one_of c41
      have utc41G_3 := (mG_3).2.2.1.un (by rw [tc41G_3]; decide)
      refine go_aload_n (pc' := 49) cx dX6_part_48 rfl rfl ?_
      refine go_geti (pc' := 52) cx 0 fX6_190 dX6_part_49 kq88 (ltn rfl) (ltn rfl) rfl ((mG_3).un utc41G_3).1 rfl ?_
      refine go_if_ne (pc' := 55) cx 59 dX6_part_52 rfl rfl (fun hh => absurd hh (by decide)) (fun _ => ?_)
      refine go_aload_n (pc' := 56) cx dX6_part_55 rfl rfl ?_
      have aG_6 := adv_W mG_3.2.2.1 utc41G_3
      refine go_cVVz (pc' := 59) cx (c_nextM l E hC mG_3 utc41G_3 (by rw [tc41G_3]; decide)) mX6_next lX6_206 dX6_part_56 kq88 (ltn rfl) (ltn rfl) rfl rfl rfl rfl (by omega) (Nat.le_of_ble_eq_true rfl) (Nat.le_of_ble_eq_true rfl) rfl (fun G_6 z_7 mG_6 => ?_)
      refine go_iload_n (pc' := 60) cx dX6_part_59 rfl rfl ?_
      refine go_iret cx rfl dX6_part_60 ?_
      have e9 : demS (advS (mT R fr) sz) cw S = (advS (mT R fr) sz) S := if_pos hk
      have d9 : demS (advS (mT R fr) sz) 10014 (F ((advS (mT R fr) sz) S)).1 = (advS (mT R fr) sz) (F ((advS (mT R fr) sz) S)).1 := if_pos tc41G_3
      exact ZIz.mk ⟨by unfold prQ; rw [e9, d9]; exact mG_6, fun q9 => by unfold prQ; rw [e9]; exact vG_3 utc41G_3⟩
    · refine go_aload_n (pc' := 45) cx dX6_part_44 rfl rfl ?_
      refine go_cVV (pc' := 48) cx (c_X6_fail l E hC mG_3) mX6_fail lX6_203 dX6_part_45 kq88 (ltn rfl) (ltn rfl) rfl rfl rfl rfl (by omega) (Nat.le_of_ble_eq_true rfl) (Nat.le_of_ble_eq_true rfl) rfl (fun G_8 mG_8 => ?_)
      refine go_aload_n (pc' := 49) cx dX6_part_48 rfl rfl ?_
      refine go_geti (pc' := 52) cx 1 fX6_190 dX6_part_49 kq88 (ltn rfl) (ltn rfl) rfl ((mG_8).bd (ref_W hsz (mG_3).2.2.1).2.2.1).1 rfl ?_
      refine go_if_ne (pc' := 55) cx 59 dX6_part_52 rfl rfl (fun _ => ?_) (fun hh => absurd hh (by decide))
      refine go_iload_n (pc' := 60) cx dX6_part_59 rfl rfl ?_
      refine go_iret cx rfl dX6_part_60 ?_
      have e9 : demS (advS (mT R fr) sz) cw S = (advS (mT R fr) sz) S := if_pos hk
      have d9 : demS (advS (mT R fr) sz) 10014 (F ((advS (mT R fr) sz) S)).1 = refS (F ((advS (mT R fr) sz) S)).1 := if_neg (zero_of c41)
      exact ZIz.mk ⟨by unfold prQ; rw [e9, d9]; exact mG_8, fun q9 => absurd (by unfold prQ at q9; rw [e9, d9] at q9; exact q9) (ref_W hsz (mG_3).2.2.1).2.2.1⟩
  · rw [if_neg hk]
    have d1 := ref_W hsz hM.2.2.1
    have e9 : demS (advS (mT R fr) sz) cw S = refS S := if_neg hk
    have f1 := hP _ d1.1
    have f2 := f1.2.2 d1.2.2.1
    refine Ct.of (lv0 := [(0, .ref (E.2.1 88)), (1, .int 0)]) (by decide) (Nat.le_of_ble_eq_true rfl) rfl ?_
    intro p e s m below meth c cx
    refine go_iload_n (pc' := 1) cx dX6_part_0 rfl rfl ?_
    refine go_if_ne (pc' := 4) cx 8 dX6_part_1 rfl rfl (fun hh => absurd hh (by decide)) (fun _ => ?_)
    refine go_aload_n (pc' := 5) cx dX6_part_4 rfl rfl ?_
    refine go_cVV (pc' := 8) cx (c_X6_fail l E hC hM) mX6_fail lX6_203 dX6_part_5 kq88 (ltn rfl) (ltn rfl) rfl rfl rfl rfl (by omega) (Nat.le_of_ble_eq_true rfl) (Nat.le_of_ble_eq_true rfl) rfl (fun G_1 mG_1 => ?_)
    refine go_aload_n (pc' := 9) cx dX6_part_8 rfl rfl ?_
    refine go_geti (pc' := 12) cx 1 fX6_190 dX6_part_9 kq88 (ltn rfl) (ltn rfl) rfl ((mG_1).bd (ref_W hsz (hM).2.2.1).2.2.1).1 rfl ?_
    refine go_if_ne (pc' := 15) cx 19 dX6_part_12 rfl rfl (fun _ => ?_) (fun hh => absurd hh (by decide))
    refine go_aload_n (pc' := 20) cx dX6_part_19 rfl rfl ?_
    refine go_geti (pc' := 23) cx 1 fX6_190 dX6_part_20 kq88 (ltn rfl) (ltn rfl) rfl ((mG_1).bd (ref_W hsz (hM).2.2.1).2.2.1).1 rfl ?_
    refine go_if_eq (pc' := 26) cx 30 dX6_part_23 rfl rfl (fun hh => absurd hh (by decide)) (fun _ => ?_)
    refine go_iconst (pc' := 27) cx 0 dX6_part_26 rfl rfl ?_
    refine go_goto cx 34 dX6_part_27 rfl ?_
    refine go_istore_n (pc' := 35) cx dX6_part_34 (ltn rfl) [(2, .int 0), (0, .ref (E.2.1 88)), (1, .int 0)] rfl rfl ?_
    refine go_aload_n (pc' := 36) cx dX6_part_35 rfl rfl ?_
    refine go_bipush (pc' := 38) cx 59 dX6_part_36 rfl rfl ?_
    refine go_cVi (pc' := 41) cx (c_isSignF_59 l E hC mG_1 rfl) mX6_isSign lX6_231 dX6_part_38 kq88 (ltn rfl) (ltn rfl) rfl rfl rfl rfl (by omega) (Nat.le_of_ble_eq_true rfl) (Nat.le_of_ble_eq_true rfl) rfl ?_
    refine go_if_ne (pc' := 44) cx 48 dX6_part_41 rfl rfl (fun hh => absurd hh (by decide)) (fun _ => ?_)
    refine go_aload_n (pc' := 45) cx dX6_part_44 rfl rfl ?_
    refine go_cVV (pc' := 48) cx (c_X6_fail l E hC mG_1) mX6_fail lX6_203 dX6_part_45 kq88 (ltn rfl) (ltn rfl) rfl rfl rfl rfl (by omega) (Nat.le_of_ble_eq_true rfl) (Nat.le_of_ble_eq_true rfl) rfl (fun G_2 mG_2 => ?_)
    refine go_aload_n (pc' := 49) cx dX6_part_48 rfl rfl ?_
    refine go_geti (pc' := 52) cx 1 fX6_190 dX6_part_49 kq88 (ltn rfl) (ltn rfl) rfl ((mG_2).bd (ref_W hsz (mG_1).2.2.1).2.2.1).1 rfl ?_
    refine go_if_ne (pc' := 55) cx 59 dX6_part_52 rfl rfl (fun _ => ?_) (fun hh => absurd hh (by decide))
    refine go_iload_n (pc' := 60) cx dX6_part_59 rfl rfl ?_
    refine go_iret cx rfl dX6_part_60 ?_
    have t9 : (refS S).2.2.1 = 10022 := rfl
    have d9 : demS (advS (mT R fr) sz) 10014 (refS S) = refS (refS S) := if_neg (by rw [t9]; decide)
    exact ZIz.mk ⟨by unfold prQ; rw [e9, f2, d9]; exact mG_2, fun q9 => absurd (by unfold prQ at q9; rw [e9, f2, d9] at q9; exact q9) (ref_W hsz d1.1).2.2.1⟩

/-- but for what reading a text writes, the ints are as they were -/
def FrR (g0 g : IG) : Prop := ∀ i k, ¬ (i = 88 ∧ 26 ≤ k ∧ k ≤ 37) → g i k = g0 i k
theorem FrR.rf {g : IG} : FrR g g := fun _ _ _ => rfl
theorem FrR.tr {g0 g g1 : IG} (h : FrR g0 g) (h1 : FrR g g1) : FrR g0 g1 := fun i k q => (h1 i k q).trans (h i k q)
theorem FrR.up {g0 g : IG} {k : Nat} {v : Int32} (h : FrR g0 g) (h1 : 26 ≤ k) (h2 : k ≤ 37) : FrR g0 (up2 g 88 k v) := fun i j q => by
  rw [up2_n _ _ (by omega)]
  exact h i j q
theorem Fr88.r {g0 g : IG} (h : Fr88 g0 g) : FrR g0 g := fun i k q => h i k (by omega)
def gBn (g : IG) (fr sz : Nat) : IG := up2 (up2 (up2 (up2 (up2 g 88 26 (nI fr)) 88 27 (nI sz)) 88 28 0) 88 32 0) 88 33 0
theorem gBn_r {g : IG} {fr sz : Nat} : FrR g (gBn g fr sz) := ((((FrR.rf.up (by omega) (by omega)).up (by omega) (by omega)).up (by omega) (by omega)).up (by omega) (by omega)).up (by omega) (by omega)
theorem gBn_ev {g : IG} {fr sz : Nat} : evM (gBn g fr sz) = evM g := rfl
theorem md0 {g g1 : IG} {z1 : Int64} {fr sz : Nat} {R : Nat → Int32} (hN : NxP (mT R fr) sz (skB (mT R fr) (sz - 0) 0) (gBn g fr sz) g1 z1) : MdS (gBn g fr sz) fr sz R 0 (rd0 (mT R fr) sz) g1 z1 := by
  obtain ⟨n1, n2, n3, n4, n5, n6, n7, n8, n9⟩ := hN
  have e : rd0 (mT R fr) sz = tokS (mT R fr) sz (skB (mT R fr) (sz - 0) 0) (-1) := rfl
  have e2 : (rd0 (mT R fr) sz).2.1 = skB (mT R fr) (sz - 0) 0 := by rw [e]; exact tokS_st
  have q2 := skB_le (T := mT R fr) (sz - 0) 0
  have hw : WF (mT R fr) sz (rd0 (mT R fr) sz) := Or.inl ⟨by rw [e]; exact tokS_ft, by rw [e2, e], by rw [e2]; omega⟩
  refine ⟨n1, n2, hw, Or.inl ⟨by rw [e]; exact tokS_ft, n3, by rw [e2]; exact n5, by rw [e2]; exact n6, ?_, ?_, by rw [e2]; exact n9⟩⟩
  · rw [e2, e]; exact n7
  · rw [e2, e]; exact n8
/-- what a text's parts say -/
def RdV (ev : Int32 → Int32) (A : PS → PS) (F : PF) (D : Nat) (S0 : PS) (p q r : Int32) (b f : Int32) : Prop :=
  ((demS A 10021 (prQ A F 10008 (prQ A F 10007 (prQ A F 10006 S0).1).1).1).2.2.2 = -1 ∧ b = 0 ∧ GC ev D (prQ A F 10006 S0).2 p ∧ GC ev D (prQ A F 10007 (prQ A F 10006 S0).1).2 q ∧ GC ev D (prQ A F 10008 (prQ A F 10007 (prQ A F 10006 S0).1).1).2 r) ∨
  (¬ (demS A 10021 (prQ A F 10008 (prQ A F 10007 (prQ A F 10006 S0).1).1).1).2.2.2 = -1 ∧ b = 1 ∧ f = (demS A 10021 (prQ A F 10008 (prQ A F 10007 (prQ A F 10006 S0).1).1).1).2.2.2)
theorem tk_kd0 {T : Nat → Int32} {sz : Nat} {S : PS} (ht : S.2.2.1 = (tokS T sz S.2.1 (-1)).2.2.1) : kdT T sz S.2.1 = 0 ↔ S.2.2.1 = 10021 := by
  rw [ht]
  rcases tk_all (T := T) (sz := sz) (s := S.2.1) with ⟨k, -, e⟩ | ⟨k, -, -, -, e⟩ | ⟨k, -, v, hv, e⟩ | ⟨k, -, h3, e⟩ | ⟨k, -, e⟩
  · rw [k, e]; exact ⟨fun _ => rfl, fun _ => rfl⟩
  · rw [k, e]
    refine ⟨fun q => absurd q (by decide), fun q => ?_⟩
    rcases wcL_cases (T := T) (s := S.2.1) (len := skL T (sz - S.2.1) S.2.1 - S.2.1) 12 0 with r | ⟨j, -, hj, r, -⟩
    · rw [r] at q; exact absurd q (by decide)
    · rw [r] at q
      have := (nI_eq (a := 10000 + j) (b := 10021) (by omega) (by omega)).mp q
      omega
  · rw [k, e]
    refine ⟨fun q => absurd q (by decide), fun q => ?_⟩
    have := (nI_eq (a := v) (b := 10021) (by omega) (by omega)).mp q
    omega
  · rw [k, e]
    refine ⟨fun q => absurd q (by decide), fun q => ?_⟩
    rcases sgn_c (x := T S.2.1) with ⟨c, p⟩ | ⟨c, p⟩ | ⟨c, p⟩ | ⟨c, p⟩ | ⟨c, p⟩ | ⟨c, p⟩ | ⟨c, p⟩ | ⟨c, p⟩ | p
    all_goals (rw [p] at q; exact absurd q (by decide))
  · rw [k, e]
    exact ⟨fun q => absurd q (by decide), fun q => absurd q (by decide)⟩

set_option maxHeartbeats 1000000 in
set_option maxRecDepth 20000 in
theorem c_X6_read (l : Launch) (E : Ev) {g : IG} {o : Option Nat} {z : Int64} {t sz wh : Nat} (ht : t < 6) (hwh : wh < 3) {fr : Nat} {R : Nat → Int32} (efr : fr = 160 * t) (hsz : sz ≤ 160) (h90 : g 90 t = nI sz) (h89 : g 89 = R) (hT0 : ∀ i, i < sz → ¬ R (fr + i) < 0) {F : PF} (hP : Pp (mT R fr) sz F) {D : Nat} (hC1 : McC l E o (gBn g fr sz) fr sz R 0 yX6_either0 cX6_either0 3 41 F D)  : Ct l E 115 yX6_read cX6_read 6 (some .int) 43 [.ref (E.2.1 88), .int (nI t), .int (nI wh)] g (RFo o) z (ZIz (RFo o) (fun x g1 z1 => FrR g g1 ∧ ∃ p q r, g1 88 35 = p ∧ g1 88 36 = q ∧ g1 88 37 = r ∧ x = (if wh = 0 then p else if wh = 1 then q else r) ∧ RdV (evM g) (advS (mT R fr) sz) F D (rd0 (mT R fr) sz) p q r (g1 88 33) (g1 88 34))) := by
  refine Ct.of (lv0 := [(0, .ref (E.2.1 88)), (1, .int (nI t)), (2, .int (nI wh))]) (by decide) (Nat.le_of_ble_eq_true rfl) rfl ?_
  intro p e s m below meth c cx
  have hfr : fr ≤ 800 := by omega
  have hC : MCx (gBn g fr sz) fr sz R := ⟨hfr, hsz, rfl, rfl, h89, hT0⟩
  refine go_aload_n (pc' := 1) cx dX6_read_0 rfl rfl ?_
  refine go_sipush (pc' := 4) cx 160 dX6_read_1 rfl rfl ?_
  refine go_iload_n (pc' := 5) cx dX6_read_4 rfl rfl ?_
  refine go_imul (pc' := 6) cx dX6_read_5 rfl ?_
  refine go_val (w := .int (nI fr)) (congrArg Value.int (by rw [efr]; exact pk_mul 160 t)) ?_
  refine go_puti (pc' := 9) cx fX6_162 dX6_read_6 kq88 (ltn rfl) (ltn rfl) rfl rfl rfl rfl ?_
  refine go_aload_n (pc' := 10) cx dX6_read_9 rfl rfl ?_
  refine go_aload_n (pc' := 11) cx dX6_read_10 rfl rfl ?_
  refine go_getr (pc' := 14) cx 90 fX6_17 dX6_read_11 kq88 (ltn rfl) (ltn rfl) rfl rfl rfl ?_
  refine go_iload_n (pc' := 15) cx dX6_read_14 rfl rfl ?_
  refine go_iald (pc' := 16) cx (nI sz) dX6_read_15 kq90 (ltn rfl) (vpi (k := t) (a := 6) (by omega) rfl rfl) ((congrArg ((up2 g 88 26 (nI fr)) 90) (cli (k := t) (a := 6) (by omega) rfl)).trans ((up2_n g (nI fr) (Or.inl (Nat.ne_of_beq_eq_false rfl))).trans h90)) rfl ?_
  refine go_puti (pc' := 19) cx fX6_159 dX6_read_16 kq88 (ltn rfl) (ltn rfl) rfl rfl rfl rfl ?_
  refine go_aload_n (pc' := 20) cx dX6_read_19 rfl rfl ?_
  refine go_iconst (pc' := 21) cx 0 dX6_read_20 rfl rfl ?_
  refine go_puti (pc' := 24) cx fX6_165 dX6_read_21 kq88 (ltn rfl) (ltn rfl) rfl rfl rfl rfl ?_
  refine go_aload_n (pc' := 25) cx dX6_read_24 rfl rfl ?_
  refine go_iconst (pc' := 26) cx 0 dX6_read_25 rfl rfl ?_
  refine go_puti (pc' := 29) cx fX6_200 dX6_read_26 kq88 (ltn rfl) (ltn rfl) rfl rfl rfl rfl ?_
  refine go_aload_n (pc' := 30) cx dX6_read_29 rfl rfl ?_
  refine go_iconst (pc' := 31) cx 0 dX6_read_30 rfl rfl ?_
  refine go_putz (pc' := 34) cx fX6_190 dX6_read_31 kq88 (ltn rfl) (ltn rfl) rfl rfl rfl (Or.inl rfl) rfl ?_
  refine go_aload_n (pc' := 35) cx dX6_read_34 rfl rfl ?_
  refine go_cVVz (pc' := 38) cx (c_X6_next l E (g := gBn g fr sz) (fr := fr) (sz := sz) (a := 0) (R := R) hfr hsz rfl rfl h89 (Nat.zero_le sz) rfl hT0) mX6_next lX6_206 dX6_read_35 kq88 (ltn rfl) (ltn rfl) rfl rfl rfl rfl (ltn rfl) (Nat.le_of_ble_eq_true rfl) (Nat.le_of_ble_eq_true rfl) rfl (fun G0 z0 n0 => ?_)
  have m0 := md0 n0
  refine go_aload_n (pc' := 39) cx dX6_read_38 rfl rfl ?_
  refine go_aload_n (pc' := 40) cx dX6_read_39 rfl rfl ?_
  refine go_bipush (pc' := 42) cx 103 dX6_read_40 rfl rfl ?_
  refine go_bipush (pc' := 44) cx 114 dX6_read_42 rfl rfl ?_
  refine go_bipush (pc' := 46) cx 111 dX6_read_44 rfl rfl ?_
  refine go_bipush (pc' := 48) cx 119 dX6_read_46 rfl rfl ?_
  refine go_bipush (pc' := 50) cx 115 dX6_read_48 rfl rfl ?_
  refine go_iconst (pc' := 51) cx 0 dX6_read_50 rfl rfl ?_
  refine go_iconst (pc' := 52) cx 0 dX6_read_51 rfl rfl ?_
  refine go_iconst (pc' := 53) cx 0 dX6_read_52 rfl rfl ?_
  refine go_cVi (pc' := 56) cx (c_isWord_6 l E hC m0) mX6_isWord lX6_209 dX6_read_53 kq88 (ltn rfl) (ltn rfl) rfl rfl rfl rfl (by omega) (Nat.le_of_ble_eq_true rfl) (Nat.le_of_ble_eq_true rfl) rfl ?_
  refine go_cVIz (pc' := 59) cx (c_X6_part l E hC hP hC1 (cw := 10006) (by decide) (rd0 (mT R fr) sz) G0 z0 m0) mX6_part lX6_354 dX6_read_56 kq88 (ltn rfl) (ltn rfl) rfl rfl rfl rfl (by omega) (Nat.le_of_ble_eq_true rfl) (Nat.le_of_ble_eq_true rfl) rfl (fun w_3 G_1 z_2 hG_1 => ?_)
  obtain ⟨mG_1, vG_1⟩ := hG_1
  refine go_istore_n (pc' := 60) cx dX6_read_59 (ltn rfl) [(3, .int w_3), (0, .ref (E.2.1 88)), (1, .int (nI t)), (2, .int (nI wh))] rfl rfl ?_
  by_cases bG_1 : ((prQ (advS (mT R fr) sz) F 10006 (rd0 (mT R fr) sz)).1).2.2.2 = -1
  · refine go_aload_n (pc' := 61) cx dX6_read_60 rfl rfl ?_
    refine go_geti (pc' := 64) cx 0 fX6_190 dX6_read_61 kq88 (ltn rfl) (ltn rfl) rfl ((mG_1).un bG_1).1 rfl ?_
    refine go_if_eq (pc' := 67) cx 71 dX6_read_64 rfl rfl (fun _ => ?_) (fun hh => absurd hh (by decide))
    refine go_aload_n (pc' := 72) cx dX6_read_71 rfl rfl ?_
    refine go_aload_n (pc' := 73) cx dX6_read_72 rfl rfl ?_
    refine go_bipush (pc' := 75) cx 101 dX6_read_73 rfl rfl ?_
    refine go_bipush (pc' := 77) cx 118 dX6_read_75 rfl rfl ?_
    refine go_bipush (pc' := 79) cx 101 dX6_read_77 rfl rfl ?_
    refine go_bipush (pc' := 81) cx 110 dX6_read_79 rfl rfl ?_
    refine go_bipush (pc' := 83) cx 115 dX6_read_81 rfl rfl ?_
    refine go_iconst (pc' := 84) cx 0 dX6_read_83 rfl rfl ?_
    refine go_iconst (pc' := 85) cx 0 dX6_read_84 rfl rfl ?_
    refine go_iconst (pc' := 86) cx 0 dX6_read_85 rfl rfl ?_
    refine go_cVi (pc' := 89) cx (c_isWord_7 l E hC mG_1) mX6_isWord lX6_209 dX6_read_86 kq88 (ltn rfl) (ltn rfl) rfl rfl rfl rfl (by omega) (Nat.le_of_ble_eq_true rfl) (Nat.le_of_ble_eq_true rfl) rfl ?_
    refine go_cVIz (pc' := 92) cx (c_X6_part l E hC hP hC1 (cw := 10007) (by decide) ((prQ (advS (mT R fr) sz) F 10006 (rd0 (mT R fr) sz)).1) G_1 z_2 mG_1) mX6_part lX6_354 dX6_read_89 kq88 (ltn rfl) (ltn rfl) rfl rfl rfl rfl (by omega) (Nat.le_of_ble_eq_true rfl) (Nat.le_of_ble_eq_true rfl) rfl (fun w_6 G_4 z_5 hG_4 => ?_)
    obtain ⟨mG_4, vG_4⟩ := hG_4
    refine go_istore (pc' := 94) cx dX6_read_92 (ltn rfl) [(4, .int w_6), (3, .int w_3), (0, .ref (E.2.1 88)), (1, .int (nI t)), (2, .int (nI wh))] rfl rfl ?_
    by_cases bG_4 : ((prQ (advS (mT R fr) sz) F 10007 ((prQ (advS (mT R fr) sz) F 10006 (rd0 (mT R fr) sz)).1)).1).2.2.2 = -1
    · refine go_aload_n (pc' := 95) cx dX6_read_94 rfl rfl ?_
      refine go_geti (pc' := 98) cx 0 fX6_190 dX6_read_95 kq88 (ltn rfl) (ltn rfl) rfl ((mG_4).un bG_4).1 rfl ?_
      refine go_if_eq (pc' := 101) cx 105 dX6_read_98 rfl rfl (fun _ => ?_) (fun hh => absurd hh (by decide))
      refine go_aload_n (pc' := 106) cx dX6_read_105 rfl rfl ?_
      refine go_aload_n (pc' := 107) cx dX6_read_106 rfl rfl ?_
      refine go_bipush (pc' := 109) cx 109 dX6_read_107 rfl rfl ?_
      refine go_bipush (pc' := 111) cx 105 dX6_read_109 rfl rfl ?_
      refine go_bipush (pc' := 113) cx 110 dX6_read_111 rfl rfl ?_
      refine go_bipush (pc' := 115) cx 100 dX6_read_113 rfl rfl ?_
      refine go_bipush (pc' := 117) cx 115 dX6_read_115 rfl rfl ?_
      refine go_iconst (pc' := 118) cx 0 dX6_read_117 rfl rfl ?_
      refine go_iconst (pc' := 119) cx 0 dX6_read_118 rfl rfl ?_
      refine go_iconst (pc' := 120) cx 0 dX6_read_119 rfl rfl ?_
      refine go_cVi (pc' := 123) cx (c_isWord_8 l E hC mG_4) mX6_isWord lX6_209 dX6_read_120 kq88 (ltn rfl) (ltn rfl) rfl rfl rfl rfl (by omega) (Nat.le_of_ble_eq_true rfl) (Nat.le_of_ble_eq_true rfl) rfl ?_
      refine go_cVIz (pc' := 126) cx (c_X6_part l E hC hP hC1 (cw := 10008) (by decide) ((prQ (advS (mT R fr) sz) F 10007 ((prQ (advS (mT R fr) sz) F 10006 (rd0 (mT R fr) sz)).1)).1) G_4 z_5 mG_4) mX6_part lX6_354 dX6_read_123 kq88 (ltn rfl) (ltn rfl) rfl rfl rfl rfl (by omega) (Nat.le_of_ble_eq_true rfl) (Nat.le_of_ble_eq_true rfl) rfl (fun w_9 G_7 z_8 hG_7 => ?_)
      obtain ⟨mG_7, vG_7⟩ := hG_7
      refine go_istore (pc' := 128) cx dX6_read_126 (ltn rfl) [(5, .int w_9), (4, .int w_6), (3, .int w_3), (0, .ref (E.2.1 88)), (1, .int (nI t)), (2, .int (nI wh))] rfl rfl ?_
      by_cases bG_7 : ((prQ (advS (mT R fr) sz) F 10008 ((prQ (advS (mT R fr) sz) F 10007 ((prQ (advS (mT R fr) sz) F 10006 (rd0 (mT R fr) sz)).1)).1)).1).2.2.2 = -1
      · refine go_aload_n (pc' := 129) cx dX6_read_128 rfl rfl ?_
        refine go_geti (pc' := 132) cx 0 fX6_190 dX6_read_129 kq88 (ltn rfl) (ltn rfl) rfl ((mG_7).un bG_7).1 rfl ?_
        refine go_if_ne (pc' := 135) cx 146 dX6_read_132 rfl rfl (fun hh => absurd hh (by decide)) (fun _ => ?_)
        refine go_aload_n (pc' := 136) cx dX6_read_135 rfl rfl ?_
        refine go_geti (pc' := 139) cx (kdT (mT R fr) sz ((prQ (advS (mT R fr) sz) F 10008 ((prQ (advS (mT R fr) sz) F 10007 ((prQ (advS (mT R fr) sz) F 10006 (rd0 (mT R fr) sz)).1)).1)).1).2.1) fX6_175 dX6_read_136 kq88 (ltn rfl) (ltn rfl) rfl ((mG_7).un bG_7).2.2.1 rfl ?_
        refine go_if_eq (pc' := 142) cx 146 dX6_read_139 rfl rfl (fun c139 => ?_) (fun c139 => ?_)
        · refine go_aload_n (pc' := 147) cx dX6_read_146 rfl rfl ?_
          refine go_iload_n (pc' := 148) cx dX6_read_147 rfl rfl ?_
          refine go_puti (pc' := 151) cx fX6_358 dX6_read_148 kq88 (ltn rfl) (ltn rfl) rfl rfl rfl rfl ?_
          refine go_aload_n (pc' := 152) cx dX6_read_151 rfl rfl ?_
          refine go_iload (pc' := 154) cx dX6_read_152 rfl rfl ?_
          refine go_puti (pc' := 157) cx fX6_361 dX6_read_154 kq88 (ltn rfl) (ltn rfl) rfl rfl rfl rfl ?_
          refine go_aload_n (pc' := 158) cx dX6_read_157 rfl rfl ?_
          refine go_iload (pc' := 160) cx dX6_read_158 rfl rfl ?_
          refine go_puti (pc' := 163) cx fX6_364 dX6_read_160 kq88 (ltn rfl) (ltn rfl) rfl rfl rfl rfl ?_
          refine go_iload_n (pc' := 164) cx dX6_read_163 rfl rfl ?_
          refine go_if_ne (pc' := 167) cx 171 dX6_read_164 rfl rfl (fun c164 => ?_) (fun c164 => ?_)
          · have c164 : ¬ wh = 0 := fun q9 => c164 ((nI_eq (a := wh) (b := 0) (by omega) (by omega)).mpr q9)
            refine go_iload_n (pc' := 172) cx dX6_read_171 rfl rfl ?_
            refine go_iconst (pc' := 173) cx 1 dX6_read_172 rfl rfl ?_
            refine go_icmp_ne (pc' := 176) cx 181 dX6_read_173 rfl rfl (fun c173 => ?_) (fun c173 => ?_)
            · have c173 : ¬ wh = 1 := fun q9 => c173 ((nI_eq (a := wh) (b := 1) (by omega) (by omega)).mpr q9)
              refine go_iload (pc' := 183) cx dX6_read_181 rfl rfl ?_
              refine go_iret cx rfl dX6_read_183 ?_
              have hz := hC.2.1
              have w0 := m0.2.2.1
              have w1 := prP_W (cw := 10006) hz hP (by decide) w0
              have w2 := prP_W (cw := 10007) hz hP (by decide) w1.1
              have w3 := prP_W (cw := 10008) hz hP (by decide) w2.1
              have k9 : (prQ (advS (mT R fr) sz) F 10008 (prQ (advS (mT R fr) sz) F 10007 (prQ (advS (mT R fr) sz) F 10006 (rd0 (mT R fr) sz)).1).1).1.2.2.1 = 10021 := (tk_kd0 ((mG_7).tk bG_7).1).mp c139
              have d9 : demS (advS (mT R fr) sz) 10021 (prQ (advS (mT R fr) sz) F 10008 (prQ (advS (mT R fr) sz) F 10007 (prQ (advS (mT R fr) sz) F 10006 (rd0 (mT R fr) sz)).1).1).1 = (advS (mT R fr) sz) (prQ (advS (mT R fr) sz) F 10008 (prQ (advS (mT R fr) sz) F 10007 (prQ (advS (mT R fr) sz) F 10006 (rd0 (mT R fr) sz)).1).1).1 := if_pos k9
              have f9 := (adv_W w3.1 bG_7).2.2.2
              refine ZIz.mk ⟨((((gBn_r.tr (mG_7).1.r).up (by omega) (by omega)).up (by omega) (by omega)).up (by omega) (by omega)), w_3, w_6, w_9, rfl, rfl, rfl, (by first | (rw [if_pos c164]; done) | (rw [if_neg c164, if_pos c173]; done) | (rw [if_neg c164, if_neg c173]; done)), ?_⟩
              exact Or.inl ⟨by rw [d9]; exact f9, ((mG_7).un bG_7).1, vG_1 bG_1, vG_4 bG_4, vG_7 bG_7⟩
            · have c173 := (nI_eq (a := wh) (b := 1) (by omega) (by omega)).mp c173
              refine go_iload (pc' := 178) cx dX6_read_176 rfl rfl ?_
              refine go_goto cx 183 dX6_read_178 rfl ?_
              refine go_iret cx rfl dX6_read_183 ?_
              have hz := hC.2.1
              have w0 := m0.2.2.1
              have w1 := prP_W (cw := 10006) hz hP (by decide) w0
              have w2 := prP_W (cw := 10007) hz hP (by decide) w1.1
              have w3 := prP_W (cw := 10008) hz hP (by decide) w2.1
              have k9 : (prQ (advS (mT R fr) sz) F 10008 (prQ (advS (mT R fr) sz) F 10007 (prQ (advS (mT R fr) sz) F 10006 (rd0 (mT R fr) sz)).1).1).1.2.2.1 = 10021 := (tk_kd0 ((mG_7).tk bG_7).1).mp c139
              have d9 : demS (advS (mT R fr) sz) 10021 (prQ (advS (mT R fr) sz) F 10008 (prQ (advS (mT R fr) sz) F 10007 (prQ (advS (mT R fr) sz) F 10006 (rd0 (mT R fr) sz)).1).1).1 = (advS (mT R fr) sz) (prQ (advS (mT R fr) sz) F 10008 (prQ (advS (mT R fr) sz) F 10007 (prQ (advS (mT R fr) sz) F 10006 (rd0 (mT R fr) sz)).1).1).1 := if_pos k9
              have f9 := (adv_W w3.1 bG_7).2.2.2
              refine ZIz.mk ⟨((((gBn_r.tr (mG_7).1.r).up (by omega) (by omega)).up (by omega) (by omega)).up (by omega) (by omega)), w_3, w_6, w_9, rfl, rfl, rfl, (by first | (rw [if_pos c164]; done) | (rw [if_neg c164, if_pos c173]; done) | (rw [if_neg c164, if_neg c173]; done)), ?_⟩
              exact Or.inl ⟨by rw [d9]; exact f9, ((mG_7).un bG_7).1, vG_1 bG_1, vG_4 bG_4, vG_7 bG_7⟩
          · have c164 := (nI_eq (a := wh) (b := 0) (by omega) (by omega)).mp c164
            refine go_iload_n (pc' := 168) cx dX6_read_167 rfl rfl ?_
            refine go_goto cx 183 dX6_read_168 rfl ?_
            refine go_iret cx rfl dX6_read_183 ?_
            have hz := hC.2.1
            have w0 := m0.2.2.1
            have w1 := prP_W (cw := 10006) hz hP (by decide) w0
            have w2 := prP_W (cw := 10007) hz hP (by decide) w1.1
            have w3 := prP_W (cw := 10008) hz hP (by decide) w2.1
            have k9 : (prQ (advS (mT R fr) sz) F 10008 (prQ (advS (mT R fr) sz) F 10007 (prQ (advS (mT R fr) sz) F 10006 (rd0 (mT R fr) sz)).1).1).1.2.2.1 = 10021 := (tk_kd0 ((mG_7).tk bG_7).1).mp c139
            have d9 : demS (advS (mT R fr) sz) 10021 (prQ (advS (mT R fr) sz) F 10008 (prQ (advS (mT R fr) sz) F 10007 (prQ (advS (mT R fr) sz) F 10006 (rd0 (mT R fr) sz)).1).1).1 = (advS (mT R fr) sz) (prQ (advS (mT R fr) sz) F 10008 (prQ (advS (mT R fr) sz) F 10007 (prQ (advS (mT R fr) sz) F 10006 (rd0 (mT R fr) sz)).1).1).1 := if_pos k9
            have f9 := (adv_W w3.1 bG_7).2.2.2
            refine ZIz.mk ⟨((((gBn_r.tr (mG_7).1.r).up (by omega) (by omega)).up (by omega) (by omega)).up (by omega) (by omega)), w_3, w_6, w_9, rfl, rfl, rfl, (by first | (rw [if_pos c164]; done) | (rw [if_neg c164, if_pos c173]; done) | (rw [if_neg c164, if_neg c173]; done)), ?_⟩
            exact Or.inl ⟨by rw [d9]; exact f9, ((mG_7).un bG_7).1, vG_1 bG_1, vG_4 bG_4, vG_7 bG_7⟩
        · refine go_aload_n (pc' := 143) cx dX6_read_142 rfl rfl ?_
          refine go_cVV (pc' := 146) cx (c_X6_fail l E hC mG_7) mX6_fail lX6_203 dX6_read_143 kq88 (ltn rfl) (ltn rfl) rfl rfl rfl rfl (by omega) (Nat.le_of_ble_eq_true rfl) (Nat.le_of_ble_eq_true rfl) rfl (fun G_10 mG_10 => ?_)
          refine go_aload_n (pc' := 147) cx dX6_read_146 rfl rfl ?_
          refine go_iload_n (pc' := 148) cx dX6_read_147 rfl rfl ?_
          refine go_puti (pc' := 151) cx fX6_358 dX6_read_148 kq88 (ltn rfl) (ltn rfl) rfl rfl rfl rfl ?_
          refine go_aload_n (pc' := 152) cx dX6_read_151 rfl rfl ?_
          refine go_iload (pc' := 154) cx dX6_read_152 rfl rfl ?_
          refine go_puti (pc' := 157) cx fX6_361 dX6_read_154 kq88 (ltn rfl) (ltn rfl) rfl rfl rfl rfl ?_
          refine go_aload_n (pc' := 158) cx dX6_read_157 rfl rfl ?_
          refine go_iload (pc' := 160) cx dX6_read_158 rfl rfl ?_
          refine go_puti (pc' := 163) cx fX6_364 dX6_read_160 kq88 (ltn rfl) (ltn rfl) rfl rfl rfl rfl ?_
          refine go_iload_n (pc' := 164) cx dX6_read_163 rfl rfl ?_
          refine go_if_ne (pc' := 167) cx 171 dX6_read_164 rfl rfl (fun c164 => ?_) (fun c164 => ?_)
          · have c164 : ¬ wh = 0 := fun q9 => c164 ((nI_eq (a := wh) (b := 0) (by omega) (by omega)).mpr q9)
            refine go_iload_n (pc' := 172) cx dX6_read_171 rfl rfl ?_
            refine go_iconst (pc' := 173) cx 1 dX6_read_172 rfl rfl ?_
            refine go_icmp_ne (pc' := 176) cx 181 dX6_read_173 rfl rfl (fun c173 => ?_) (fun c173 => ?_)
            · have c173 : ¬ wh = 1 := fun q9 => c173 ((nI_eq (a := wh) (b := 1) (by omega) (by omega)).mpr q9)
              refine go_iload (pc' := 183) cx dX6_read_181 rfl rfl ?_
              refine go_iret cx rfl dX6_read_183 ?_
              have hz := hC.2.1
              have w0 := m0.2.2.1
              have w1 := prP_W (cw := 10006) hz hP (by decide) w0
              have w2 := prP_W (cw := 10007) hz hP (by decide) w1.1
              have w3 := prP_W (cw := 10008) hz hP (by decide) w2.1
              have k9 : ¬ (prQ (advS (mT R fr) sz) F 10008 (prQ (advS (mT R fr) sz) F 10007 (prQ (advS (mT R fr) sz) F 10006 (rd0 (mT R fr) sz)).1).1).1.2.2.1 = 10021 := fun q9 => c139 ((tk_kd0 ((mG_7).tk bG_7).1).mpr q9)
              have d9 : demS (advS (mT R fr) sz) 10021 (prQ (advS (mT R fr) sz) F 10008 (prQ (advS (mT R fr) sz) F 10007 (prQ (advS (mT R fr) sz) F 10006 (rd0 (mT R fr) sz)).1).1).1 = refS (prQ (advS (mT R fr) sz) F 10008 (prQ (advS (mT R fr) sz) F 10007 (prQ (advS (mT R fr) sz) F 10006 (rd0 (mT R fr) sz)).1).1).1 := if_neg k9
              refine ZIz.mk ⟨((((gBn_r.tr (mG_10).1.r).up (by omega) (by omega)).up (by omega) (by omega)).up (by omega) (by omega)), w_3, w_6, w_9, rfl, rfl, rfl, (by first | (rw [if_pos c164]; done) | (rw [if_neg c164, if_pos c173]; done) | (rw [if_neg c164, if_neg c173]; done)), ?_⟩
              exact Or.inr ⟨by rw [d9]; exact (ref_W hsz (mG_7).2.2.1).2.2.1, ((mG_10).bd (ref_W hsz (mG_7).2.2.1).2.2.1).1, by rw [d9]; exact ((mG_10).bd (ref_W hsz (mG_7).2.2.1).2.2.1).2.1⟩
            · have c173 := (nI_eq (a := wh) (b := 1) (by omega) (by omega)).mp c173
              refine go_iload (pc' := 178) cx dX6_read_176 rfl rfl ?_
              refine go_goto cx 183 dX6_read_178 rfl ?_
              refine go_iret cx rfl dX6_read_183 ?_
              have hz := hC.2.1
              have w0 := m0.2.2.1
              have w1 := prP_W (cw := 10006) hz hP (by decide) w0
              have w2 := prP_W (cw := 10007) hz hP (by decide) w1.1
              have w3 := prP_W (cw := 10008) hz hP (by decide) w2.1
              have k9 : ¬ (prQ (advS (mT R fr) sz) F 10008 (prQ (advS (mT R fr) sz) F 10007 (prQ (advS (mT R fr) sz) F 10006 (rd0 (mT R fr) sz)).1).1).1.2.2.1 = 10021 := fun q9 => c139 ((tk_kd0 ((mG_7).tk bG_7).1).mpr q9)
              have d9 : demS (advS (mT R fr) sz) 10021 (prQ (advS (mT R fr) sz) F 10008 (prQ (advS (mT R fr) sz) F 10007 (prQ (advS (mT R fr) sz) F 10006 (rd0 (mT R fr) sz)).1).1).1 = refS (prQ (advS (mT R fr) sz) F 10008 (prQ (advS (mT R fr) sz) F 10007 (prQ (advS (mT R fr) sz) F 10006 (rd0 (mT R fr) sz)).1).1).1 := if_neg k9
              refine ZIz.mk ⟨((((gBn_r.tr (mG_10).1.r).up (by omega) (by omega)).up (by omega) (by omega)).up (by omega) (by omega)), w_3, w_6, w_9, rfl, rfl, rfl, (by first | (rw [if_pos c164]; done) | (rw [if_neg c164, if_pos c173]; done) | (rw [if_neg c164, if_neg c173]; done)), ?_⟩
              exact Or.inr ⟨by rw [d9]; exact (ref_W hsz (mG_7).2.2.1).2.2.1, ((mG_10).bd (ref_W hsz (mG_7).2.2.1).2.2.1).1, by rw [d9]; exact ((mG_10).bd (ref_W hsz (mG_7).2.2.1).2.2.1).2.1⟩
          · have c164 := (nI_eq (a := wh) (b := 0) (by omega) (by omega)).mp c164
            refine go_iload_n (pc' := 168) cx dX6_read_167 rfl rfl ?_
            refine go_goto cx 183 dX6_read_168 rfl ?_
            refine go_iret cx rfl dX6_read_183 ?_
            have hz := hC.2.1
            have w0 := m0.2.2.1
            have w1 := prP_W (cw := 10006) hz hP (by decide) w0
            have w2 := prP_W (cw := 10007) hz hP (by decide) w1.1
            have w3 := prP_W (cw := 10008) hz hP (by decide) w2.1
            have k9 : ¬ (prQ (advS (mT R fr) sz) F 10008 (prQ (advS (mT R fr) sz) F 10007 (prQ (advS (mT R fr) sz) F 10006 (rd0 (mT R fr) sz)).1).1).1.2.2.1 = 10021 := fun q9 => c139 ((tk_kd0 ((mG_7).tk bG_7).1).mpr q9)
            have d9 : demS (advS (mT R fr) sz) 10021 (prQ (advS (mT R fr) sz) F 10008 (prQ (advS (mT R fr) sz) F 10007 (prQ (advS (mT R fr) sz) F 10006 (rd0 (mT R fr) sz)).1).1).1 = refS (prQ (advS (mT R fr) sz) F 10008 (prQ (advS (mT R fr) sz) F 10007 (prQ (advS (mT R fr) sz) F 10006 (rd0 (mT R fr) sz)).1).1).1 := if_neg k9
            refine ZIz.mk ⟨((((gBn_r.tr (mG_10).1.r).up (by omega) (by omega)).up (by omega) (by omega)).up (by omega) (by omega)), w_3, w_6, w_9, rfl, rfl, rfl, (by first | (rw [if_pos c164]; done) | (rw [if_neg c164, if_pos c173]; done) | (rw [if_neg c164, if_neg c173]; done)), ?_⟩
            exact Or.inr ⟨by rw [d9]; exact (ref_W hsz (mG_7).2.2.1).2.2.1, ((mG_10).bd (ref_W hsz (mG_7).2.2.1).2.2.1).1, by rw [d9]; exact ((mG_10).bd (ref_W hsz (mG_7).2.2.1).2.2.1).2.1⟩
      · refine go_aload_n (pc' := 129) cx dX6_read_128 rfl rfl ?_
        refine go_geti (pc' := 132) cx 1 fX6_190 dX6_read_129 kq88 (ltn rfl) (ltn rfl) rfl ((mG_7).bd bG_7).1 rfl ?_
        refine go_if_ne (pc' := 135) cx 146 dX6_read_132 rfl rfl (fun _ => ?_) (fun hh => absurd hh (by decide))
        refine go_aload_n (pc' := 147) cx dX6_read_146 rfl rfl ?_
        refine go_iload_n (pc' := 148) cx dX6_read_147 rfl rfl ?_
        refine go_puti (pc' := 151) cx fX6_358 dX6_read_148 kq88 (ltn rfl) (ltn rfl) rfl rfl rfl rfl ?_
        refine go_aload_n (pc' := 152) cx dX6_read_151 rfl rfl ?_
        refine go_iload (pc' := 154) cx dX6_read_152 rfl rfl ?_
        refine go_puti (pc' := 157) cx fX6_361 dX6_read_154 kq88 (ltn rfl) (ltn rfl) rfl rfl rfl rfl ?_
        refine go_aload_n (pc' := 158) cx dX6_read_157 rfl rfl ?_
        refine go_iload (pc' := 160) cx dX6_read_158 rfl rfl ?_
        refine go_puti (pc' := 163) cx fX6_364 dX6_read_160 kq88 (ltn rfl) (ltn rfl) rfl rfl rfl rfl ?_
        refine go_iload_n (pc' := 164) cx dX6_read_163 rfl rfl ?_
        refine go_if_ne (pc' := 167) cx 171 dX6_read_164 rfl rfl (fun c164 => ?_) (fun c164 => ?_)
        · have c164 : ¬ wh = 0 := fun q9 => c164 ((nI_eq (a := wh) (b := 0) (by omega) (by omega)).mpr q9)
          refine go_iload_n (pc' := 172) cx dX6_read_171 rfl rfl ?_
          refine go_iconst (pc' := 173) cx 1 dX6_read_172 rfl rfl ?_
          refine go_icmp_ne (pc' := 176) cx 181 dX6_read_173 rfl rfl (fun c173 => ?_) (fun c173 => ?_)
          · have c173 : ¬ wh = 1 := fun q9 => c173 ((nI_eq (a := wh) (b := 1) (by omega) (by omega)).mpr q9)
            refine go_iload (pc' := 183) cx dX6_read_181 rfl rfl ?_
            refine go_iret cx rfl dX6_read_183 ?_
            have hz := hC.2.1
            have w0 := m0.2.2.1
            have w1 := prP_W (cw := 10006) hz hP (by decide) w0
            have w2 := prP_W (cw := 10007) hz hP (by decide) w1.1
            have w3 := prP_W (cw := 10008) hz hP (by decide) w2.1
            have e3 : (prQ (advS (mT R fr) sz) F 10008 (prQ (advS (mT R fr) sz) F 10007 (prQ (advS (mT R fr) sz) F 10006 (rd0 (mT R fr) sz)).1).1).1 = (prQ (advS (mT R fr) sz) F 10008 ((prQ (advS (mT R fr) sz) F 10007 ((prQ (advS (mT R fr) sz) F 10006 (rd0 (mT R fr) sz)).1)).1)).1 := rfl
            have d9 : demS (advS (mT R fr) sz) 10021 (prQ (advS (mT R fr) sz) F 10008 (prQ (advS (mT R fr) sz) F 10007 (prQ (advS (mT R fr) sz) F 10006 (rd0 (mT R fr) sz)).1).1).1 = (prQ (advS (mT R fr) sz) F 10008 ((prQ (advS (mT R fr) sz) F 10007 ((prQ (advS (mT R fr) sz) F 10006 (rd0 (mT R fr) sz)).1)).1)).1 := by
              rw [e3]
              exact (dem_W hz (w := 10021) (by decide) (mG_7).2.2.1).2.2.1 bG_7
            refine ZIz.mk ⟨((((gBn_r.tr (mG_7).1.r).up (by omega) (by omega)).up (by omega) (by omega)).up (by omega) (by omega)), w_3, w_6, w_9, rfl, rfl, rfl, (by first | (rw [if_pos c164]; done) | (rw [if_neg c164, if_pos c173]; done) | (rw [if_neg c164, if_neg c173]; done)), ?_⟩
            exact Or.inr ⟨by rw [d9]; exact bG_7, ((mG_7).bd bG_7).1, by rw [d9]; exact ((mG_7).bd bG_7).2.1⟩
          · have c173 := (nI_eq (a := wh) (b := 1) (by omega) (by omega)).mp c173
            refine go_iload (pc' := 178) cx dX6_read_176 rfl rfl ?_
            refine go_goto cx 183 dX6_read_178 rfl ?_
            refine go_iret cx rfl dX6_read_183 ?_
            have hz := hC.2.1
            have w0 := m0.2.2.1
            have w1 := prP_W (cw := 10006) hz hP (by decide) w0
            have w2 := prP_W (cw := 10007) hz hP (by decide) w1.1
            have w3 := prP_W (cw := 10008) hz hP (by decide) w2.1
            have e3 : (prQ (advS (mT R fr) sz) F 10008 (prQ (advS (mT R fr) sz) F 10007 (prQ (advS (mT R fr) sz) F 10006 (rd0 (mT R fr) sz)).1).1).1 = (prQ (advS (mT R fr) sz) F 10008 ((prQ (advS (mT R fr) sz) F 10007 ((prQ (advS (mT R fr) sz) F 10006 (rd0 (mT R fr) sz)).1)).1)).1 := rfl
            have d9 : demS (advS (mT R fr) sz) 10021 (prQ (advS (mT R fr) sz) F 10008 (prQ (advS (mT R fr) sz) F 10007 (prQ (advS (mT R fr) sz) F 10006 (rd0 (mT R fr) sz)).1).1).1 = (prQ (advS (mT R fr) sz) F 10008 ((prQ (advS (mT R fr) sz) F 10007 ((prQ (advS (mT R fr) sz) F 10006 (rd0 (mT R fr) sz)).1)).1)).1 := by
              rw [e3]
              exact (dem_W hz (w := 10021) (by decide) (mG_7).2.2.1).2.2.1 bG_7
            refine ZIz.mk ⟨((((gBn_r.tr (mG_7).1.r).up (by omega) (by omega)).up (by omega) (by omega)).up (by omega) (by omega)), w_3, w_6, w_9, rfl, rfl, rfl, (by first | (rw [if_pos c164]; done) | (rw [if_neg c164, if_pos c173]; done) | (rw [if_neg c164, if_neg c173]; done)), ?_⟩
            exact Or.inr ⟨by rw [d9]; exact bG_7, ((mG_7).bd bG_7).1, by rw [d9]; exact ((mG_7).bd bG_7).2.1⟩
        · have c164 := (nI_eq (a := wh) (b := 0) (by omega) (by omega)).mp c164
          refine go_iload_n (pc' := 168) cx dX6_read_167 rfl rfl ?_
          refine go_goto cx 183 dX6_read_168 rfl ?_
          refine go_iret cx rfl dX6_read_183 ?_
          have hz := hC.2.1
          have w0 := m0.2.2.1
          have w1 := prP_W (cw := 10006) hz hP (by decide) w0
          have w2 := prP_W (cw := 10007) hz hP (by decide) w1.1
          have w3 := prP_W (cw := 10008) hz hP (by decide) w2.1
          have e3 : (prQ (advS (mT R fr) sz) F 10008 (prQ (advS (mT R fr) sz) F 10007 (prQ (advS (mT R fr) sz) F 10006 (rd0 (mT R fr) sz)).1).1).1 = (prQ (advS (mT R fr) sz) F 10008 ((prQ (advS (mT R fr) sz) F 10007 ((prQ (advS (mT R fr) sz) F 10006 (rd0 (mT R fr) sz)).1)).1)).1 := rfl
          have d9 : demS (advS (mT R fr) sz) 10021 (prQ (advS (mT R fr) sz) F 10008 (prQ (advS (mT R fr) sz) F 10007 (prQ (advS (mT R fr) sz) F 10006 (rd0 (mT R fr) sz)).1).1).1 = (prQ (advS (mT R fr) sz) F 10008 ((prQ (advS (mT R fr) sz) F 10007 ((prQ (advS (mT R fr) sz) F 10006 (rd0 (mT R fr) sz)).1)).1)).1 := by
            rw [e3]
            exact (dem_W hz (w := 10021) (by decide) (mG_7).2.2.1).2.2.1 bG_7
          refine ZIz.mk ⟨((((gBn_r.tr (mG_7).1.r).up (by omega) (by omega)).up (by omega) (by omega)).up (by omega) (by omega)), w_3, w_6, w_9, rfl, rfl, rfl, (by first | (rw [if_pos c164]; done) | (rw [if_neg c164, if_pos c173]; done) | (rw [if_neg c164, if_neg c173]; done)), ?_⟩
          exact Or.inr ⟨by rw [d9]; exact bG_7, ((mG_7).bd bG_7).1, by rw [d9]; exact ((mG_7).bd bG_7).2.1⟩
    · refine go_aload_n (pc' := 95) cx dX6_read_94 rfl rfl ?_
      refine go_geti (pc' := 98) cx 1 fX6_190 dX6_read_95 kq88 (ltn rfl) (ltn rfl) rfl ((mG_4).bd bG_4).1 rfl ?_
      refine go_if_eq (pc' := 101) cx 105 dX6_read_98 rfl rfl (fun hh => absurd hh (by decide)) (fun _ => ?_)
      refine go_iconst (pc' := 102) cx 0 dX6_read_101 rfl rfl ?_
      refine go_goto cx 126 dX6_read_102 rfl ?_
      refine go_istore (pc' := 128) cx dX6_read_126 (ltn rfl) [(5, .int 0), (4, .int w_6), (3, .int w_3), (0, .ref (E.2.1 88)), (1, .int (nI t)), (2, .int (nI wh))] rfl rfl ?_
      refine go_aload_n (pc' := 129) cx dX6_read_128 rfl rfl ?_
      refine go_geti (pc' := 132) cx 1 fX6_190 dX6_read_129 kq88 (ltn rfl) (ltn rfl) rfl ((mG_4).bd bG_4).1 rfl ?_
      refine go_if_ne (pc' := 135) cx 146 dX6_read_132 rfl rfl (fun _ => ?_) (fun hh => absurd hh (by decide))
      refine go_aload_n (pc' := 147) cx dX6_read_146 rfl rfl ?_
      refine go_iload_n (pc' := 148) cx dX6_read_147 rfl rfl ?_
      refine go_puti (pc' := 151) cx fX6_358 dX6_read_148 kq88 (ltn rfl) (ltn rfl) rfl rfl rfl rfl ?_
      refine go_aload_n (pc' := 152) cx dX6_read_151 rfl rfl ?_
      refine go_iload (pc' := 154) cx dX6_read_152 rfl rfl ?_
      refine go_puti (pc' := 157) cx fX6_361 dX6_read_154 kq88 (ltn rfl) (ltn rfl) rfl rfl rfl rfl ?_
      refine go_aload_n (pc' := 158) cx dX6_read_157 rfl rfl ?_
      refine go_iload (pc' := 160) cx dX6_read_158 rfl rfl ?_
      refine go_puti (pc' := 163) cx fX6_364 dX6_read_160 kq88 (ltn rfl) (ltn rfl) rfl rfl rfl rfl ?_
      refine go_iload_n (pc' := 164) cx dX6_read_163 rfl rfl ?_
      refine go_if_ne (pc' := 167) cx 171 dX6_read_164 rfl rfl (fun c164 => ?_) (fun c164 => ?_)
      · have c164 : ¬ wh = 0 := fun q9 => c164 ((nI_eq (a := wh) (b := 0) (by omega) (by omega)).mpr q9)
        refine go_iload_n (pc' := 172) cx dX6_read_171 rfl rfl ?_
        refine go_iconst (pc' := 173) cx 1 dX6_read_172 rfl rfl ?_
        refine go_icmp_ne (pc' := 176) cx 181 dX6_read_173 rfl rfl (fun c173 => ?_) (fun c173 => ?_)
        · have c173 : ¬ wh = 1 := fun q9 => c173 ((nI_eq (a := wh) (b := 1) (by omega) (by omega)).mpr q9)
          refine go_iload (pc' := 183) cx dX6_read_181 rfl rfl ?_
          refine go_iret cx rfl dX6_read_183 ?_
          have hz := hC.2.1
          have w0 := m0.2.2.1
          have w1 := prP_W (cw := 10006) hz hP (by decide) w0
          have w2 := prP_W (cw := 10007) hz hP (by decide) w1.1
          have w3 := prP_W (cw := 10008) hz hP (by decide) w2.1
          have e3 : (prQ (advS (mT R fr) sz) F 10008 (prQ (advS (mT R fr) sz) F 10007 (prQ (advS (mT R fr) sz) F 10006 (rd0 (mT R fr) sz)).1).1).1 = (prQ (advS (mT R fr) sz) F 10007 ((prQ (advS (mT R fr) sz) F 10006 (rd0 (mT R fr) sz)).1)).1 := w3.2 bG_4
          have d9 : demS (advS (mT R fr) sz) 10021 (prQ (advS (mT R fr) sz) F 10008 (prQ (advS (mT R fr) sz) F 10007 (prQ (advS (mT R fr) sz) F 10006 (rd0 (mT R fr) sz)).1).1).1 = (prQ (advS (mT R fr) sz) F 10007 ((prQ (advS (mT R fr) sz) F 10006 (rd0 (mT R fr) sz)).1)).1 := by
            rw [e3]
            exact (dem_W hz (w := 10021) (by decide) (mG_4).2.2.1).2.2.1 bG_4
          refine ZIz.mk ⟨((((gBn_r.tr (mG_4).1.r).up (by omega) (by omega)).up (by omega) (by omega)).up (by omega) (by omega)), w_3, w_6, 0, rfl, rfl, rfl, (by first | (rw [if_pos c164]; done) | (rw [if_neg c164, if_pos c173]; done) | (rw [if_neg c164, if_neg c173]; done)), ?_⟩
          exact Or.inr ⟨by rw [d9]; exact bG_4, ((mG_4).bd bG_4).1, by rw [d9]; exact ((mG_4).bd bG_4).2.1⟩
        · have c173 := (nI_eq (a := wh) (b := 1) (by omega) (by omega)).mp c173
          refine go_iload (pc' := 178) cx dX6_read_176 rfl rfl ?_
          refine go_goto cx 183 dX6_read_178 rfl ?_
          refine go_iret cx rfl dX6_read_183 ?_
          have hz := hC.2.1
          have w0 := m0.2.2.1
          have w1 := prP_W (cw := 10006) hz hP (by decide) w0
          have w2 := prP_W (cw := 10007) hz hP (by decide) w1.1
          have w3 := prP_W (cw := 10008) hz hP (by decide) w2.1
          have e3 : (prQ (advS (mT R fr) sz) F 10008 (prQ (advS (mT R fr) sz) F 10007 (prQ (advS (mT R fr) sz) F 10006 (rd0 (mT R fr) sz)).1).1).1 = (prQ (advS (mT R fr) sz) F 10007 ((prQ (advS (mT R fr) sz) F 10006 (rd0 (mT R fr) sz)).1)).1 := w3.2 bG_4
          have d9 : demS (advS (mT R fr) sz) 10021 (prQ (advS (mT R fr) sz) F 10008 (prQ (advS (mT R fr) sz) F 10007 (prQ (advS (mT R fr) sz) F 10006 (rd0 (mT R fr) sz)).1).1).1 = (prQ (advS (mT R fr) sz) F 10007 ((prQ (advS (mT R fr) sz) F 10006 (rd0 (mT R fr) sz)).1)).1 := by
            rw [e3]
            exact (dem_W hz (w := 10021) (by decide) (mG_4).2.2.1).2.2.1 bG_4
          refine ZIz.mk ⟨((((gBn_r.tr (mG_4).1.r).up (by omega) (by omega)).up (by omega) (by omega)).up (by omega) (by omega)), w_3, w_6, 0, rfl, rfl, rfl, (by first | (rw [if_pos c164]; done) | (rw [if_neg c164, if_pos c173]; done) | (rw [if_neg c164, if_neg c173]; done)), ?_⟩
          exact Or.inr ⟨by rw [d9]; exact bG_4, ((mG_4).bd bG_4).1, by rw [d9]; exact ((mG_4).bd bG_4).2.1⟩
      · have c164 := (nI_eq (a := wh) (b := 0) (by omega) (by omega)).mp c164
        refine go_iload_n (pc' := 168) cx dX6_read_167 rfl rfl ?_
        refine go_goto cx 183 dX6_read_168 rfl ?_
        refine go_iret cx rfl dX6_read_183 ?_
        have hz := hC.2.1
        have w0 := m0.2.2.1
        have w1 := prP_W (cw := 10006) hz hP (by decide) w0
        have w2 := prP_W (cw := 10007) hz hP (by decide) w1.1
        have w3 := prP_W (cw := 10008) hz hP (by decide) w2.1
        have e3 : (prQ (advS (mT R fr) sz) F 10008 (prQ (advS (mT R fr) sz) F 10007 (prQ (advS (mT R fr) sz) F 10006 (rd0 (mT R fr) sz)).1).1).1 = (prQ (advS (mT R fr) sz) F 10007 ((prQ (advS (mT R fr) sz) F 10006 (rd0 (mT R fr) sz)).1)).1 := w3.2 bG_4
        have d9 : demS (advS (mT R fr) sz) 10021 (prQ (advS (mT R fr) sz) F 10008 (prQ (advS (mT R fr) sz) F 10007 (prQ (advS (mT R fr) sz) F 10006 (rd0 (mT R fr) sz)).1).1).1 = (prQ (advS (mT R fr) sz) F 10007 ((prQ (advS (mT R fr) sz) F 10006 (rd0 (mT R fr) sz)).1)).1 := by
          rw [e3]
          exact (dem_W hz (w := 10021) (by decide) (mG_4).2.2.1).2.2.1 bG_4
        refine ZIz.mk ⟨((((gBn_r.tr (mG_4).1.r).up (by omega) (by omega)).up (by omega) (by omega)).up (by omega) (by omega)), w_3, w_6, 0, rfl, rfl, rfl, (by first | (rw [if_pos c164]; done) | (rw [if_neg c164, if_pos c173]; done) | (rw [if_neg c164, if_neg c173]; done)), ?_⟩
        exact Or.inr ⟨by rw [d9]; exact bG_4, ((mG_4).bd bG_4).1, by rw [d9]; exact ((mG_4).bd bG_4).2.1⟩
  · refine go_aload_n (pc' := 61) cx dX6_read_60 rfl rfl ?_
    refine go_geti (pc' := 64) cx 1 fX6_190 dX6_read_61 kq88 (ltn rfl) (ltn rfl) rfl ((mG_1).bd bG_1).1 rfl ?_
    refine go_if_eq (pc' := 67) cx 71 dX6_read_64 rfl rfl (fun hh => absurd hh (by decide)) (fun _ => ?_)
    refine go_iconst (pc' := 68) cx 0 dX6_read_67 rfl rfl ?_
    refine go_goto cx 92 dX6_read_68 rfl ?_
    refine go_istore (pc' := 94) cx dX6_read_92 (ltn rfl) [(4, .int 0), (3, .int w_3), (0, .ref (E.2.1 88)), (1, .int (nI t)), (2, .int (nI wh))] rfl rfl ?_
    refine go_aload_n (pc' := 95) cx dX6_read_94 rfl rfl ?_
    refine go_geti (pc' := 98) cx 1 fX6_190 dX6_read_95 kq88 (ltn rfl) (ltn rfl) rfl ((mG_1).bd bG_1).1 rfl ?_
    refine go_if_eq (pc' := 101) cx 105 dX6_read_98 rfl rfl (fun hh => absurd hh (by decide)) (fun _ => ?_)
    refine go_iconst (pc' := 102) cx 0 dX6_read_101 rfl rfl ?_
    refine go_goto cx 126 dX6_read_102 rfl ?_
    refine go_istore (pc' := 128) cx dX6_read_126 (ltn rfl) [(5, .int 0), (4, .int 0), (3, .int w_3), (0, .ref (E.2.1 88)), (1, .int (nI t)), (2, .int (nI wh))] rfl rfl ?_
    refine go_aload_n (pc' := 129) cx dX6_read_128 rfl rfl ?_
    refine go_geti (pc' := 132) cx 1 fX6_190 dX6_read_129 kq88 (ltn rfl) (ltn rfl) rfl ((mG_1).bd bG_1).1 rfl ?_
    refine go_if_ne (pc' := 135) cx 146 dX6_read_132 rfl rfl (fun _ => ?_) (fun hh => absurd hh (by decide))
    refine go_aload_n (pc' := 147) cx dX6_read_146 rfl rfl ?_
    refine go_iload_n (pc' := 148) cx dX6_read_147 rfl rfl ?_
    refine go_puti (pc' := 151) cx fX6_358 dX6_read_148 kq88 (ltn rfl) (ltn rfl) rfl rfl rfl rfl ?_
    refine go_aload_n (pc' := 152) cx dX6_read_151 rfl rfl ?_
    refine go_iload (pc' := 154) cx dX6_read_152 rfl rfl ?_
    refine go_puti (pc' := 157) cx fX6_361 dX6_read_154 kq88 (ltn rfl) (ltn rfl) rfl rfl rfl rfl ?_
    refine go_aload_n (pc' := 158) cx dX6_read_157 rfl rfl ?_
    refine go_iload (pc' := 160) cx dX6_read_158 rfl rfl ?_
    refine go_puti (pc' := 163) cx fX6_364 dX6_read_160 kq88 (ltn rfl) (ltn rfl) rfl rfl rfl rfl ?_
    refine go_iload_n (pc' := 164) cx dX6_read_163 rfl rfl ?_
    refine go_if_ne (pc' := 167) cx 171 dX6_read_164 rfl rfl (fun c164 => ?_) (fun c164 => ?_)
    · have c164 : ¬ wh = 0 := fun q9 => c164 ((nI_eq (a := wh) (b := 0) (by omega) (by omega)).mpr q9)
      refine go_iload_n (pc' := 172) cx dX6_read_171 rfl rfl ?_
      refine go_iconst (pc' := 173) cx 1 dX6_read_172 rfl rfl ?_
      refine go_icmp_ne (pc' := 176) cx 181 dX6_read_173 rfl rfl (fun c173 => ?_) (fun c173 => ?_)
      · have c173 : ¬ wh = 1 := fun q9 => c173 ((nI_eq (a := wh) (b := 1) (by omega) (by omega)).mpr q9)
        refine go_iload (pc' := 183) cx dX6_read_181 rfl rfl ?_
        refine go_iret cx rfl dX6_read_183 ?_
        have hz := hC.2.1
        have w0 := m0.2.2.1
        have w1 := prP_W (cw := 10006) hz hP (by decide) w0
        have w2 := prP_W (cw := 10007) hz hP (by decide) w1.1
        have w3 := prP_W (cw := 10008) hz hP (by decide) w2.1
        have e3 : (prQ (advS (mT R fr) sz) F 10008 (prQ (advS (mT R fr) sz) F 10007 (prQ (advS (mT R fr) sz) F 10006 (rd0 (mT R fr) sz)).1).1).1 = (prQ (advS (mT R fr) sz) F 10006 (rd0 (mT R fr) sz)).1 := (w3.2 (by rw [w2.2 bG_1]; exact bG_1)).trans (w2.2 bG_1)
        have d9 : demS (advS (mT R fr) sz) 10021 (prQ (advS (mT R fr) sz) F 10008 (prQ (advS (mT R fr) sz) F 10007 (prQ (advS (mT R fr) sz) F 10006 (rd0 (mT R fr) sz)).1).1).1 = (prQ (advS (mT R fr) sz) F 10006 (rd0 (mT R fr) sz)).1 := by
          rw [e3]
          exact (dem_W hz (w := 10021) (by decide) (mG_1).2.2.1).2.2.1 bG_1
        refine ZIz.mk ⟨((((gBn_r.tr (mG_1).1.r).up (by omega) (by omega)).up (by omega) (by omega)).up (by omega) (by omega)), w_3, 0, 0, rfl, rfl, rfl, (by first | (rw [if_pos c164]; done) | (rw [if_neg c164, if_pos c173]; done) | (rw [if_neg c164, if_neg c173]; done)), ?_⟩
        exact Or.inr ⟨by rw [d9]; exact bG_1, ((mG_1).bd bG_1).1, by rw [d9]; exact ((mG_1).bd bG_1).2.1⟩
      · have c173 := (nI_eq (a := wh) (b := 1) (by omega) (by omega)).mp c173
        refine go_iload (pc' := 178) cx dX6_read_176 rfl rfl ?_
        refine go_goto cx 183 dX6_read_178 rfl ?_
        refine go_iret cx rfl dX6_read_183 ?_
        have hz := hC.2.1
        have w0 := m0.2.2.1
        have w1 := prP_W (cw := 10006) hz hP (by decide) w0
        have w2 := prP_W (cw := 10007) hz hP (by decide) w1.1
        have w3 := prP_W (cw := 10008) hz hP (by decide) w2.1
        have e3 : (prQ (advS (mT R fr) sz) F 10008 (prQ (advS (mT R fr) sz) F 10007 (prQ (advS (mT R fr) sz) F 10006 (rd0 (mT R fr) sz)).1).1).1 = (prQ (advS (mT R fr) sz) F 10006 (rd0 (mT R fr) sz)).1 := (w3.2 (by rw [w2.2 bG_1]; exact bG_1)).trans (w2.2 bG_1)
        have d9 : demS (advS (mT R fr) sz) 10021 (prQ (advS (mT R fr) sz) F 10008 (prQ (advS (mT R fr) sz) F 10007 (prQ (advS (mT R fr) sz) F 10006 (rd0 (mT R fr) sz)).1).1).1 = (prQ (advS (mT R fr) sz) F 10006 (rd0 (mT R fr) sz)).1 := by
          rw [e3]
          exact (dem_W hz (w := 10021) (by decide) (mG_1).2.2.1).2.2.1 bG_1
        refine ZIz.mk ⟨((((gBn_r.tr (mG_1).1.r).up (by omega) (by omega)).up (by omega) (by omega)).up (by omega) (by omega)), w_3, 0, 0, rfl, rfl, rfl, (by first | (rw [if_pos c164]; done) | (rw [if_neg c164, if_pos c173]; done) | (rw [if_neg c164, if_neg c173]; done)), ?_⟩
        exact Or.inr ⟨by rw [d9]; exact bG_1, ((mG_1).bd bG_1).1, by rw [d9]; exact ((mG_1).bd bG_1).2.1⟩
    · have c164 := (nI_eq (a := wh) (b := 0) (by omega) (by omega)).mp c164
      refine go_iload_n (pc' := 168) cx dX6_read_167 rfl rfl ?_
      refine go_goto cx 183 dX6_read_168 rfl ?_
      refine go_iret cx rfl dX6_read_183 ?_
      have hz := hC.2.1
      have w0 := m0.2.2.1
      have w1 := prP_W (cw := 10006) hz hP (by decide) w0
      have w2 := prP_W (cw := 10007) hz hP (by decide) w1.1
      have w3 := prP_W (cw := 10008) hz hP (by decide) w2.1
      have e3 : (prQ (advS (mT R fr) sz) F 10008 (prQ (advS (mT R fr) sz) F 10007 (prQ (advS (mT R fr) sz) F 10006 (rd0 (mT R fr) sz)).1).1).1 = (prQ (advS (mT R fr) sz) F 10006 (rd0 (mT R fr) sz)).1 := (w3.2 (by rw [w2.2 bG_1]; exact bG_1)).trans (w2.2 bG_1)
      have d9 : demS (advS (mT R fr) sz) 10021 (prQ (advS (mT R fr) sz) F 10008 (prQ (advS (mT R fr) sz) F 10007 (prQ (advS (mT R fr) sz) F 10006 (rd0 (mT R fr) sz)).1).1).1 = (prQ (advS (mT R fr) sz) F 10006 (rd0 (mT R fr) sz)).1 := by
        rw [e3]
        exact (dem_W hz (w := 10021) (by decide) (mG_1).2.2.1).2.2.1 bG_1
      refine ZIz.mk ⟨((((gBn_r.tr (mG_1).1.r).up (by omega) (by omega)).up (by omega) (by omega)).up (by omega) (by omega)), w_3, 0, 0, rfl, rfl, rfl, (by first | (rw [if_pos c164]; done) | (rw [if_neg c164, if_pos c173]; done) | (rw [if_neg c164, if_neg c173]; done)), ?_⟩
      exact Or.inr ⟨by rw [d9]; exact bG_1, ((mG_1).bd bG_1).1, by rw [d9]; exact ((mG_1).bd bG_1).2.1⟩
