/-! THE REFERENCE: a text is read -/
def prQ (A : PS → PS) (F : PF) (cw : Int32) (S : PS) : PS × List Int32 := (demS A 10014 (F (demS A cw S)).1, (F (demS A cw S)).2)
theorem prP_W {T : Nat → Int32} {sz : Nat} (hz : sz ≤ 160) {F : PF} (hP : Pp T sz F) {cw : Int32} (hc : ¬ cw = 10022) {S : PS} (hS : WF T sz S) : WF T sz (prQ (advS T sz) F cw S).1 ∧ (¬ S.2.2.2 = -1 → (prQ (advS T sz) F cw S).1 = S) := by
  have d1 := dem_W hz hc hS
  have f1 := hP _ d1.1
  have d2 := dem_W hz (w := 10014) (by decide) f1.1
  refine ⟨d2.1, fun q => ?_⟩
  have e1 := d1.2.2.1 q
  have e2 : (F (demS (advS T sz) cw S)).1 = S := by
    rw [e1] at f1 ⊢
    exact f1.2.2 q
  show demS (advS T sz) 10014 (F (demS (advS T sz) cw S)).1 = S
  rw [e2] at d2 ⊢
  exact d2.2.2.1 q

set_option maxHeartbeats 1000000 in
set_option maxRecDepth 20000 in
theorem c_X6_part (l : Launch) (E : Ev) {g0 : IG} {o : Option Nat} {fr sz : Nat} {R : Nat → Int32} (hC : MCx g0 fr sz R) {F : PF} (hP : Pp (mT R fr) sz F) {D : Nat} (hC1 : McC l E o g0 fr sz R 0 yX6_either0 cX6_either0 3 41 F D) {cw : Int32} (hcw : ¬ cw = 10022) (S : PS) (g : IG) (z : Int64) (hM : MdS g0 fr sz R 0 S g z) : Ct l E 115 yX6_part cX6_part 3 (some .int) 42 [.ref (E.2.1 88), .int (if S.2.2.1 = cw then 1 else 0)] g (RFo o) z (ZIz (RFo o) (fun x g1 z1 => MdS g0 fr sz R 0 (prQ (advS (mT R fr) sz) F cw S).1 g1 z1 ∧ ((prQ (advS (mT R fr) sz) F cw S).1.2.2.2 = -1 → GC (evM g0) D (prQ (advS (mT R fr) sz) F cw S).2 x))) := by
  obtain ⟨hfr, hsz, h26, h27, h89, hT0⟩ := id hC
  by_cases hk : S.2.2.1 = cw
  · have hu := hM.2.2.1.un (by rw [hk]; exact hcw)
    rw [if_pos hk]
    refine Ct.of (lv0 := [(0, .ref (E.2.1 88)), (1, .int 1)]) (by decide) (Nat.le_of_ble_eq_true rfl) rfl ?_
    intro p e s m below meth c cx
    refine go_iload_n (pc' := 1) cx dX6_part_0 rfl rfl ?_
    refine go_if_ne (pc' := 4) cx 8 dX6_part_1 rfl rfl (fun _ => ?_) (fun hh => absurd hh (by decide))
    refine go_aload_n (pc' := 9) cx dX6_part_8 rfl rfl ?_
    refine go_geti (pc' := 12) cx 0 fX6_190 dX6_part_9 kq88 (ltn rfl) (ltn rfl) rfl ((hM).un hu).1 rfl ?_
    refine go_if_ne (pc' := 15) cx 19 dX6_part_12 rfl rfl (fun hh => absurd hh (by decide)) (fun _ => ?_)
    refine go_aload_n (pc' := 16) cx dX6_part_15 rfl rfl ?_
    have aG_1 := adv_W hM.2.2.1 hu
    refine go_cVVz (pc' := 19) cx (c_nextM l E hC hM hu (by rw [hk]; exact hcw)) mX6_next lX6_206 dX6_part_16 kq88 (ltn rfl) (ltn rfl) rfl rfl rfl rfl (by omega) (Nat.le_of_ble_eq_true rfl) (Nat.le_of_ble_eq_true rfl) rfl (fun G_1 z_2 mG_1 => ?_)
    refine go_aload_n (pc' := 20) cx dX6_part_19 rfl rfl ?_
    refine go_geti (pc' := 23) cx 0 fX6_190 dX6_part_20 kq88 (ltn rfl) (ltn rfl) rfl ((mG_1).un (aG_1.2.2.2)).1 rfl ?_
    refine go_if_eq (pc' := 26) cx 30 dX6_part_23 rfl rfl (fun _ => ?_) (fun hh => absurd hh (by decide))
    refine go_aload_n (pc' := 31) cx dX6_part_30 rfl rfl ?_
    refine go_cVIz (pc' := 34) cx (hC1 (advS (mT R fr) sz S) G_1 z_2 mG_1) mX6_either0 lX6_351 dX6_part_31 kq88 (ltn rfl) (ltn rfl) rfl rfl rfl rfl (by omega) (Nat.le_of_ble_eq_true rfl) (Nat.le_of_ble_eq_true rfl) rfl (fun w_5 G_3 z_4 hG_3 => ?_)
    obtain ⟨mG_3, vG_3⟩ := hG_3
    refine go_istore_n (pc' := 35) cx dX6_part_34 (ltn rfl) [(2, .int w_5), (0, .ref (E.2.1 88)), (1, .int 1)] rfl rfl ?_
    refine go_aload_n (pc' := 36) cx dX6_part_35 rfl rfl ?_
    refine go_bipush (pc' := 38) cx 59 dX6_part_36 rfl rfl ?_
    refine go_cVi (pc' := 41) cx (c_isSign_59 l E hC mG_3) mX6_isSign lX6_231 dX6_part_38 kq88 (ltn rfl) (ltn rfl) rfl rfl rfl rfl (by omega) (Nat.le_of_ble_eq_true rfl) (Nat.le_of_ble_eq_true rfl) rfl ?_
    refine go_if_ne (pc' := 44) cx 48 dX6_part_41 rfl rfl (fun c41 => ?_) (fun c41 => ?_)
    · have tc41G_3 : ((F (advS (mT R fr) sz S)).1).2.2.1 = 10014 := one_of c41
      have utc41G_3 := (mG_3).2.2.1.un (by rw [tc41G_3]; decide)
      refine go_aload_n (pc' := 49) cx dX6_part_48 rfl rfl ?_
      refine go_geti (pc' := 52) cx 0 fX6_190 dX6_part_49 kq88 (ltn rfl) (ltn rfl) rfl ((mG_3).un utc41G_3).1 rfl ?_
      refine go_if_ne (pc' := 55) cx 59 dX6_part_52 rfl rfl (fun hh => absurd hh (by decide)) (fun _ => ?_)
      refine go_aload_n (pc' := 56) cx dX6_part_55 rfl rfl ?_
      have aG_6 := adv_W mG_3.2.2.1 utc41G_3
      refine go_cVVz (pc' := 59) cx (c_nextM l E hC mG_3 utc41G_3 (by rw [tc41G_3]; decide)) mX6_next lX6_206 dX6_part_56 kq88 (ltn rfl) (ltn rfl) rfl rfl rfl rfl (by omega) (Nat.le_of_ble_eq_true rfl) (Nat.le_of_ble_eq_true rfl) rfl (fun G_6 z_7 mG_6 => ?_)
      refine go_iload_n (pc' := 60) cx dX6_part_59 rfl rfl ?_
      refine go_iret cx rfl dX6_part_60 ?_
      have e9 : demS (advS (mT R fr) sz) cw S = (advS (mT R fr) sz) S := if_pos hk
      have d9 : demS (advS (mT R fr) sz) 10014 (F ((advS (mT R fr) sz) S)).1 = (advS (mT R fr) sz) (F ((advS (mT R fr) sz) S)).1 := if_pos tc41G_3
      exact ZIz.mk ⟨by unfold prQ; rw [e9, d9]; exact mG_6, fun q9 => by unfold prQ; rw [e9]; exact vG_3 utc41G_3⟩
    · refine go_aload_n (pc' := 45) cx dX6_part_44 rfl rfl ?_
      refine go_cVV (pc' := 48) cx (c_X6_fail l E hC mG_3) mX6_fail lX6_203 dX6_part_45 kq88 (ltn rfl) (ltn rfl) rfl rfl rfl rfl (by omega) (Nat.le_of_ble_eq_true rfl) (Nat.le_of_ble_eq_true rfl) rfl (fun G_8 mG_8 => ?_)
      refine go_aload_n (pc' := 49) cx dX6_part_48 rfl rfl ?_
      refine go_geti (pc' := 52) cx 1 fX6_190 dX6_part_49 kq88 (ltn rfl) (ltn rfl) rfl ((mG_8).bd (ref_W hsz (mG_3).2.2.1).2.2.1).1 rfl ?_
      refine go_if_ne (pc' := 55) cx 59 dX6_part_52 rfl rfl (fun _ => ?_) (fun hh => absurd hh (by decide))
      refine go_iload_n (pc' := 60) cx dX6_part_59 rfl rfl ?_
      refine go_iret cx rfl dX6_part_60 ?_
      have e9 : demS (advS (mT R fr) sz) cw S = (advS (mT R fr) sz) S := if_pos hk
      have d9 : demS (advS (mT R fr) sz) 10014 (F ((advS (mT R fr) sz) S)).1 = refS (F ((advS (mT R fr) sz) S)).1 := if_neg (zero_of c41)
      exact ZIz.mk ⟨by unfold prQ; rw [e9, d9]; exact mG_8, fun q9 => absurd (by unfold prQ at q9; rw [e9, d9] at q9; exact q9) (ref_W hsz (mG_3).2.2.1).2.2.1⟩
  · rw [if_neg hk]
    have d1 := ref_W hsz hM.2.2.1
    have e9 : demS (advS (mT R fr) sz) cw S = refS S := if_neg hk
    have f1 := hP _ d1.1
    have f2 := f1.2.2 d1.2.2.1
    refine Ct.of (lv0 := [(0, .ref (E.2.1 88)), (1, .int 0)]) (by decide) (Nat.le_of_ble_eq_true rfl) rfl ?_
    intro p e s m below meth c cx
    refine go_iload_n (pc' := 1) cx dX6_part_0 rfl rfl ?_
    refine go_if_ne (pc' := 4) cx 8 dX6_part_1 rfl rfl (fun hh => absurd hh (by decide)) (fun _ => ?_)
    refine go_aload_n (pc' := 5) cx dX6_part_4 rfl rfl ?_
    refine go_cVV (pc' := 8) cx (c_X6_fail l E hC hM) mX6_fail lX6_203 dX6_part_5 kq88 (ltn rfl) (ltn rfl) rfl rfl rfl rfl (by omega) (Nat.le_of_ble_eq_true rfl) (Nat.le_of_ble_eq_true rfl) rfl (fun G_1 mG_1 => ?_)
    refine go_aload_n (pc' := 9) cx dX6_part_8 rfl rfl ?_
    refine go_geti (pc' := 12) cx 1 fX6_190 dX6_part_9 kq88 (ltn rfl) (ltn rfl) rfl ((mG_1).bd (ref_W hsz (hM).2.2.1).2.2.1).1 rfl ?_
    refine go_if_ne (pc' := 15) cx 19 dX6_part_12 rfl rfl (fun _ => ?_) (fun hh => absurd hh (by decide))
    refine go_aload_n (pc' := 20) cx dX6_part_19 rfl rfl ?_
    refine go_geti (pc' := 23) cx 1 fX6_190 dX6_part_20 kq88 (ltn rfl) (ltn rfl) rfl ((mG_1).bd (ref_W hsz (hM).2.2.1).2.2.1).1 rfl ?_
    refine go_if_eq (pc' := 26) cx 30 dX6_part_23 rfl rfl (fun hh => absurd hh (by decide)) (fun _ => ?_)
    refine go_iconst (pc' := 27) cx 0 dX6_part_26 rfl rfl ?_
    refine go_goto cx 34 dX6_part_27 rfl ?_
    refine go_istore_n (pc' := 35) cx dX6_part_34 (ltn rfl) [(2, .int 0), (0, .ref (E.2.1 88)), (1, .int 0)] rfl rfl ?_
    refine go_aload_n (pc' := 36) cx dX6_part_35 rfl rfl ?_
    refine go_bipush (pc' := 38) cx 59 dX6_part_36 rfl rfl ?_
    refine go_cVi (pc' := 41) cx (c_isSignF_59 l E hC mG_1 rfl) mX6_isSign lX6_231 dX6_part_38 kq88 (ltn rfl) (ltn rfl) rfl rfl rfl rfl (by omega) (Nat.le_of_ble_eq_true rfl) (Nat.le_of_ble_eq_true rfl) rfl ?_
    refine go_if_ne (pc' := 44) cx 48 dX6_part_41 rfl rfl (fun hh => absurd hh (by decide)) (fun _ => ?_)
    refine go_aload_n (pc' := 45) cx dX6_part_44 rfl rfl ?_
    refine go_cVV (pc' := 48) cx (c_X6_fail l E hC mG_1) mX6_fail lX6_203 dX6_part_45 kq88 (ltn rfl) (ltn rfl) rfl rfl rfl rfl (by omega) (Nat.le_of_ble_eq_true rfl) (Nat.le_of_ble_eq_true rfl) rfl (fun G_2 mG_2 => ?_)
    refine go_aload_n (pc' := 49) cx dX6_part_48 rfl rfl ?_
    refine go_geti (pc' := 52) cx 1 fX6_190 dX6_part_49 kq88 (ltn rfl) (ltn rfl) rfl ((mG_2).bd (ref_W hsz (mG_1).2.2.1).2.2.1).1 rfl ?_
    refine go_if_ne (pc' := 55) cx 59 dX6_part_52 rfl rfl (fun _ => ?_) (fun hh => absurd hh (by decide))
    refine go_iload_n (pc' := 60) cx dX6_part_59 rfl rfl ?_
    refine go_iret cx rfl dX6_part_60 ?_
    have t9 : (refS S).2.2.1 = 10022 := rfl
    have d9 : demS (advS (mT R fr) sz) 10014 (refS S) = refS (refS S) := if_neg (by rw [t9]; decide)
    exact ZIz.mk ⟨by unfold prQ; rw [e9, f2, d9]; exact mG_2, fun q9 => absurd (by unfold prQ at q9; rw [e9, f2, d9] at q9; exact q9) (ref_W hsz d1.1).2.2.1⟩
