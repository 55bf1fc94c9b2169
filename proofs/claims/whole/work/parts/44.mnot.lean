/-! THE REFERENCE: not, and the levels -/
theorem jn_lt {v w : Int32} : jnV 10018 v w = (if v < w then 1 else 0) := rfl
theorem jn_eq {v w : Int32} : jnV 10019 v w = (if v = w then 1 else 0) := rfl

set_option maxHeartbeats 1000000 in
set_option maxRecDepth 20000 in
theorem c_X6_not0 (l : Launch) (E : Ev) {g0 : IG} {o : Option Nat} {fr sz : Nat} {R : Nat → Int32} (hC : MCx g0 fr sz R) {F F1 : PF} (hP : Pp (mT R fr) sz F) (hP1 : Pp (mT R fr) sz F1) {D D1 d d1 : Nat} (hD1 : D1 ≤ D + 1) (hd : 5 ≤ d) (hd1 : d1 ≤ d) (hC1 : McC l E o g0 fr sz R 0 yX6_added0 cX6_added0 4 d F D) (hC2 : McC l E o g0 fr sz R 1 yX6_not1 cX6_not1 4 d1 F1 D1)  : McC l E o g0 fr sz R 0 yX6_not0 cX6_not0 4 (d + 1) (ntS (advS (mT R fr) sz) F1 F) (D + 1) := by
  intro S g z hM
  refine Ct.of (lv0 := [(0, .ref (E.2.1 88))]) (by decide) (Nat.le_of_ble_eq_true rfl) rfl ?_
  intro p e s m below meth c cx
  obtain ⟨hfr, hsz, h26, h27, h89, hT0⟩ := id hC
  refine go_aload_n (pc' := 1) cx dX6_not0_0 rfl rfl ?_
  refine go_bipush (pc' := 3) cx 110 dX6_not0_1 rfl rfl ?_
  refine go_bipush (pc' := 5) cx 111 dX6_not0_3 rfl rfl ?_
  refine go_bipush (pc' := 7) cx 116 dX6_not0_5 rfl rfl ?_
  refine go_iconst (pc' := 8) cx 0 dX6_not0_7 rfl rfl ?_
  refine go_iconst (pc' := 9) cx 0 dX6_not0_8 rfl rfl ?_
  refine go_iconst (pc' := 10) cx 0 dX6_not0_9 rfl rfl ?_
  refine go_iconst (pc' := 11) cx 0 dX6_not0_10 rfl rfl ?_
  refine go_iconst (pc' := 12) cx 0 dX6_not0_11 rfl rfl ?_
  refine go_cVi (pc' := 15) cx (c_isWord_11 l E hC hM) mX6_isWord lX6_209 dX6_not0_12 kq88 (ltn rfl) (ltn rfl) rfl rfl rfl rfl (by omega) (Nat.le_of_ble_eq_true rfl) (Nat.le_of_ble_eq_true rfl) rfl ?_
  refine go_if_eq (pc' := 18) cx 52 dX6_not0_15 rfl rfl (fun c15 => ?_) (fun c15 => ?_)
  · refine go_aload_n (pc' := 53) cx dX6_not0_52 rfl rfl ?_
    refine go_cVIz (pc' := 56) cx (hC1 S g z hM) mX6_added0 lX6_342 dX6_not0_53 kq88 (ltn rfl) (ltn rfl) rfl rfl rfl rfl (by omega) (Nat.le_of_ble_eq_true rfl) (Nat.le_of_ble_eq_true rfl) rfl (fun w_3 G_1 z_2 hG_1 => ?_)
    obtain ⟨mG_1, vG_1⟩ := hG_1
    refine go_istore_n (pc' := 57) cx dX6_not0_56 (ltn rfl) [(1, .int w_3), (0, .ref (E.2.1 88))] rfl rfl ?_
    refine go_aload_n (pc' := 58) cx dX6_not0_57 rfl rfl ?_
    refine go_bipush (pc' := 60) cx 60 dX6_not0_58 rfl rfl ?_
    refine go_cVi (pc' := 63) cx (c_isSign_60 l E hC mG_1) mX6_isSign lX6_231 dX6_not0_60 kq88 (ltn rfl) (ltn rfl) rfl rfl rfl rfl (by omega) (Nat.le_of_ble_eq_true rfl) (Nat.le_of_ble_eq_true rfl) rfl ?_
    refine go_if_ne (pc' := 66) cx 77 dX6_not0_63 rfl rfl (fun c63 => ?_) (fun c63 => ?_)
    · have tc63G_1 : ((F S).1).2.2.1 = 10018 := one_of c63
      have utc63G_1 := (mG_1).2.2.1.un (by rw [tc63G_1]; decide)
      refine go_aload_n (pc' := 78) cx dX6_not0_77 rfl rfl ?_
      refine go_getl (N := 56) (pc' := 81) cx fX6_186 dX6_not0_78 (ltn rfl) rfl ?_
      refine go_ldc2 (pc' := 84) cx 60 kX6_253 dX6_not0_81 rfl ?_
      refine go_val (w := .long (((60 : Int32)).toInt64)) (congrArg Value.long (by decide)) ?_
      refine go_lcmp (pc' := 85) cx dX6_not0_84 rfl ?_
      refine go_if_ne (pc' := 88) cx 92 dX6_not0_85 rfl rfl (fun hh => absurd hh (by rw [wth_10018 mG_1 utc63G_1 tc63G_1]; decide)) (fun _ => ?_)
      refine go_iconst (pc' := 89) cx 1 dX6_not0_88 rfl rfl ?_
      refine go_goto cx 93 dX6_not0_89 rfl ?_
      refine go_istore_n (pc' := 94) cx dX6_not0_93 (ltn rfl) [(2, .int 1), (1, .int w_3), (0, .ref (E.2.1 88))] rfl rfl ?_
      refine go_aload_n (pc' := 95) cx dX6_not0_94 rfl rfl ?_
      have aG_4 := adv_W mG_1.2.2.1 utc63G_1
      refine go_cVVz (pc' := 98) cx (c_nextM l E hC mG_1 utc63G_1 (by rw [tc63G_1]; decide)) mX6_next lX6_206 dX6_not0_95 kq88 (ltn rfl) (ltn rfl) rfl rfl rfl rfl (by omega) (Nat.le_of_ble_eq_true rfl) (Nat.le_of_ble_eq_true rfl) rfl (fun G_4 z_5 mG_4 => ?_)
      refine go_aload_n (pc' := 99) cx dX6_not0_98 rfl rfl ?_
      refine go_cVIz (pc' := 102) cx (hC1 (advS (mT R fr) sz ((F S).1)) G_4 z_5 mG_4) mX6_added0 lX6_342 dX6_not0_99 kq88 (ltn rfl) (ltn rfl) rfl rfl rfl rfl (by omega) (Nat.le_of_ble_eq_true rfl) (Nat.le_of_ble_eq_true rfl) rfl (fun w_8 G_6 z_7 hG_6 => ?_)
      obtain ⟨mG_6, vG_6⟩ := hG_6
      refine go_istore_n (pc' := 103) cx dX6_not0_102 (ltn rfl) [(3, .int w_8), (2, .int 1), (1, .int w_3), (0, .ref (E.2.1 88))] rfl rfl ?_
      refine go_iload_n (pc' := 104) cx dX6_not0_103 rfl rfl ?_
      refine go_if_eq (pc' := 107) cx 115 dX6_not0_104 rfl rfl (fun hh => absurd hh (by decide)) (fun _ => ?_)
      refine go_iload_n (pc' := 108) cx dX6_not0_107 rfl rfl ?_
      refine go_iload_n (pc' := 109) cx dX6_not0_108 rfl rfl ?_
      refine go_icmp_ge (pc' := 112) cx 124 dX6_not0_109 rfl rfl (fun c109 => ?_) (fun c109 => ?_)
      · have c109n := Int32.not_lt.mpr c109
        refine go_iconst (pc' := 125) cx 0 dX6_not0_124 rfl rfl ?_
        refine go_iret cx rfl dX6_not0_125 ?_
        have e8 : ntS (advS (mT R fr) sz) F1 F S = cmF (advS (mT R fr) sz) F S := if_neg (zero_of c15)
        have e9 : cmF (advS (mT R fr) sz) F S = ((F ((advS (mT R fr) sz) (F S).1)).1, (F S).2 ++ (F ((advS (mT R fr) sz) (F S).1)).2 ++ [(F S).1.2.2.1]) := by
          unfold cmF
          rw [if_pos (Or.inl tc63G_1)]
        exact ZIz.mk ⟨by rw [e8, e9]; exact mG_6, fun q9 => by rw [e8, e9] at q9 ⊢; exact (by have g9 := GC_bin (c := 10018) (D := D + 1) (vG_1 utc63G_1) (vG_6 q9) (Nat.le_succ D) (Nat.le_refl _) (by decide) (by decide) (by decide); rw [tc63G_1]; have j9 : jnV 10018 w_3 w_8 = _ := jn_lt; rw [j9] at g9; first | (rw [if_neg (Int32.not_lt.mpr c109)] at g9; exact g9) | (rw [if_pos (Int32.not_le.mp c109)] at g9; exact g9))⟩
      · have c109n := Int32.not_le.mp c109
        refine go_goto cx 120 dX6_not0_112 rfl ?_
        refine go_iconst (pc' := 121) cx 1 dX6_not0_120 rfl rfl ?_
        refine go_goto cx 125 dX6_not0_121 rfl ?_
        refine go_iret cx rfl dX6_not0_125 ?_
        have e8 : ntS (advS (mT R fr) sz) F1 F S = cmF (advS (mT R fr) sz) F S := if_neg (zero_of c15)
        have e9 : cmF (advS (mT R fr) sz) F S = ((F ((advS (mT R fr) sz) (F S).1)).1, (F S).2 ++ (F ((advS (mT R fr) sz) (F S).1)).2 ++ [(F S).1.2.2.1]) := by
          unfold cmF
          rw [if_pos (Or.inl tc63G_1)]
        exact ZIz.mk ⟨by rw [e8, e9]; exact mG_6, fun q9 => by rw [e8, e9] at q9 ⊢; exact (by have g9 := GC_bin (c := 10018) (D := D + 1) (vG_1 utc63G_1) (vG_6 q9) (Nat.le_succ D) (Nat.le_refl _) (by decide) (by decide) (by decide); rw [tc63G_1]; have j9 : jnV 10018 w_3 w_8 = _ := jn_lt; rw [j9] at g9; first | (rw [if_neg (Int32.not_lt.mpr c109)] at g9; exact g9) | (rw [if_pos (Int32.not_le.mp c109)] at g9; exact g9))⟩
    · refine go_aload_n (pc' := 67) cx dX6_not0_66 rfl rfl ?_
      refine go_bipush (pc' := 69) cx 61 dX6_not0_67 rfl rfl ?_
      refine go_cVi (pc' := 72) cx (c_isSign_61 l E hC mG_1) mX6_isSign lX6_231 dX6_not0_69 kq88 (ltn rfl) (ltn rfl) rfl rfl rfl rfl (by omega) (Nat.le_of_ble_eq_true rfl) (Nat.le_of_ble_eq_true rfl) rfl ?_
      refine go_if_ne (pc' := 75) cx 77 dX6_not0_72 rfl rfl (fun c72 => ?_) (fun c72 => ?_)
      · have tc72G_1 : ((F S).1).2.2.1 = 10019 := one_of c72
        have utc72G_1 := (mG_1).2.2.1.un (by rw [tc72G_1]; decide)
        refine go_aload_n (pc' := 78) cx dX6_not0_77 rfl rfl ?_
        refine go_getl (N := 56) (pc' := 81) cx fX6_186 dX6_not0_78 (ltn rfl) rfl ?_
        refine go_ldc2 (pc' := 84) cx 60 kX6_253 dX6_not0_81 rfl ?_
        refine go_val (w := .long (((60 : Int32)).toInt64)) (congrArg Value.long (by decide)) ?_
        refine go_lcmp (pc' := 85) cx dX6_not0_84 rfl ?_
        refine go_if_ne (pc' := 88) cx 92 dX6_not0_85 rfl rfl (fun _ => ?_) (fun hh => absurd hh (by rw [wth_10019 mG_1 utc72G_1 tc72G_1]; decide))
        refine go_iconst (pc' := 93) cx 0 dX6_not0_92 rfl rfl ?_
        refine go_istore_n (pc' := 94) cx dX6_not0_93 (ltn rfl) [(2, .int 0), (1, .int w_3), (0, .ref (E.2.1 88))] rfl rfl ?_
        refine go_aload_n (pc' := 95) cx dX6_not0_94 rfl rfl ?_
        have aG_9 := adv_W mG_1.2.2.1 utc72G_1
        refine go_cVVz (pc' := 98) cx (c_nextM l E hC mG_1 utc72G_1 (by rw [tc72G_1]; decide)) mX6_next lX6_206 dX6_not0_95 kq88 (ltn rfl) (ltn rfl) rfl rfl rfl rfl (by omega) (Nat.le_of_ble_eq_true rfl) (Nat.le_of_ble_eq_true rfl) rfl (fun G_9 z_10 mG_9 => ?_)
        refine go_aload_n (pc' := 99) cx dX6_not0_98 rfl rfl ?_
        refine go_cVIz (pc' := 102) cx (hC1 (advS (mT R fr) sz ((F S).1)) G_9 z_10 mG_9) mX6_added0 lX6_342 dX6_not0_99 kq88 (ltn rfl) (ltn rfl) rfl rfl rfl rfl (by omega) (Nat.le_of_ble_eq_true rfl) (Nat.le_of_ble_eq_true rfl) rfl (fun w_13 G_11 z_12 hG_11 => ?_)
        obtain ⟨mG_11, vG_11⟩ := hG_11
        refine go_istore_n (pc' := 103) cx dX6_not0_102 (ltn rfl) [(3, .int w_13), (2, .int 0), (1, .int w_3), (0, .ref (E.2.1 88))] rfl rfl ?_
        refine go_iload_n (pc' := 104) cx dX6_not0_103 rfl rfl ?_
        refine go_if_eq (pc' := 107) cx 115 dX6_not0_104 rfl rfl (fun _ => ?_) (fun hh => absurd hh (by decide))
        refine go_iload_n (pc' := 116) cx dX6_not0_115 rfl rfl ?_
        refine go_iload_n (pc' := 117) cx dX6_not0_116 rfl rfl ?_
        refine go_icmp_ne (pc' := 120) cx 124 dX6_not0_117 rfl rfl (fun c117 => ?_) (fun c117 => ?_)
        · refine go_iconst (pc' := 125) cx 0 dX6_not0_124 rfl rfl ?_
          refine go_iret cx rfl dX6_not0_125 ?_
          have e8 : ntS (advS (mT R fr) sz) F1 F S = cmF (advS (mT R fr) sz) F S := if_neg (zero_of c15)
          have e9 : cmF (advS (mT R fr) sz) F S = ((F ((advS (mT R fr) sz) (F S).1)).1, (F S).2 ++ (F ((advS (mT R fr) sz) (F S).1)).2 ++ [(F S).1.2.2.1]) := by
            unfold cmF
            rw [if_pos (Or.inr tc72G_1)]
          exact ZIz.mk ⟨by rw [e8, e9]; exact mG_11, fun q9 => by rw [e8, e9] at q9 ⊢; exact (by have g9 := GC_bin (c := 10019) (D := D + 1) (vG_1 utc72G_1) (vG_11 q9) (Nat.le_succ D) (Nat.le_refl _) (by decide) (by decide) (by decide); rw [tc72G_1]; have j9 : jnV 10019 w_3 w_13 = _ := jn_eq; rw [j9] at g9; first | (rw [if_pos c117] at g9; exact g9) | (rw [if_neg c117] at g9; exact g9))⟩
        · refine go_iconst (pc' := 121) cx 1 dX6_not0_120 rfl rfl ?_
          refine go_goto cx 125 dX6_not0_121 rfl ?_
          refine go_iret cx rfl dX6_not0_125 ?_
          have e8 : ntS (advS (mT R fr) sz) F1 F S = cmF (advS (mT R fr) sz) F S := if_neg (zero_of c15)
          have e9 : cmF (advS (mT R fr) sz) F S = ((F ((advS (mT R fr) sz) (F S).1)).1, (F S).2 ++ (F ((advS (mT R fr) sz) (F S).1)).2 ++ [(F S).1.2.2.1]) := by
            unfold cmF
            rw [if_pos (Or.inr tc72G_1)]
          exact ZIz.mk ⟨by rw [e8, e9]; exact mG_11, fun q9 => by rw [e8, e9] at q9 ⊢; exact (by have g9 := GC_bin (c := 10019) (D := D + 1) (vG_1 utc72G_1) (vG_11 q9) (Nat.le_succ D) (Nat.le_refl _) (by decide) (by decide) (by decide); rw [tc72G_1]; have j9 : jnV 10019 w_3 w_13 = _ := jn_eq; rw [j9] at g9; first | (rw [if_pos c117] at g9; exact g9) | (rw [if_neg c117] at g9; exact g9))⟩
      · refine go_iload_n (pc' := 76) cx dX6_not0_75 rfl rfl ?_
        refine go_iret cx rfl dX6_not0_76 ?_
        have e8 : ntS (advS (mT R fr) sz) F1 F S = cmF (advS (mT R fr) sz) F S := if_neg (zero_of c15)
        have e9 : cmF (advS (mT R fr) sz) F S = F S := by
          unfold cmF
          rw [if_neg (fun q8 => q8.elim (zero_of c63) (zero_of c72))]
        exact ZIz.mk ⟨by rw [e8, e9]; exact mG_1, fun q9 => by rw [e8, e9] at q9 ⊢; exact (vG_1 q9).mono (Nat.le_succ D)⟩
  · have tc15 : S.2.2.1 = 10011 := one_of c15
    have utc15 := hM.2.2.1.un (by rw [tc15]; decide)
    refine go_aload_n (pc' := 19) cx dX6_not0_18 rfl rfl ?_
    have aG_14 := adv_W (hM).2.2.1 utc15
    refine go_cVIz (pc' := 22) cx (c_X6_opens l E hC hM utc15 (by rw [tc15]; decide) (by omega)) mX6_opens lX6_234 dX6_not0_19 kq88 (ltn rfl) (ltn rfl) rfl rfl rfl rfl (by omega) (Nat.le_of_ble_eq_true rfl) (Nat.le_of_ble_eq_true rfl) rfl (fun w_16 G_14 z_15 hG_14 => ?_)
    obtain ⟨eG_14, mG_14⟩ := hG_14
    subst eG_14
    refine go_if_ne (pc' := 25) cx 27 dX6_not0_22 rfl rfl (fun _ => ?_) (fun hh => absurd hh (by decide))
    refine go_aload_n (pc' := 28) cx dX6_not0_27 rfl rfl ?_
    refine go_cVIz (pc' := 31) cx (hC2 (advS (mT R fr) sz S) G_14 z_15 mG_14) mX6_not1 lX6_327 dX6_not0_28 kq88 (ltn rfl) (ltn rfl) rfl rfl rfl rfl (by omega) (Nat.le_of_ble_eq_true rfl) (Nat.le_of_ble_eq_true rfl) rfl (fun w_19 G_17 z_18 hG_17 => ?_)
    obtain ⟨mG_17, vG_17⟩ := hG_17
    refine go_istore_n (pc' := 32) cx dX6_not0_31 (ltn rfl) [(1, .int w_19), (0, .ref (E.2.1 88))] rfl rfl ?_
    refine go_aload_n (pc' := 33) cx dX6_not0_32 rfl rfl ?_
    refine go_dup (pc' := 34) cx rfl dX6_not0_33 rfl ?_
    refine go_geti (pc' := 37) cx (nI (0 + 1)) fX6_200 dX6_not0_34 kq88 (ltn rfl) (ltn rfl) rfl (mG_17).2.1 rfl ?_
    refine go_iconst (pc' := 38) cx 1 dX6_not0_37 rfl rfl ?_
    refine go_isub (pc' := 39) cx dX6_not0_38 rfl ?_
    refine go_val (w := .int (nI 0)) (congrArg Value.int (nI_pred 0)) ?_
    refine go_puti (pc' := 42) cx fX6_200 dX6_not0_39 kq88 (ltn rfl) (ltn rfl) rfl rfl rfl rfl ?_
    refine go_iload_n (pc' := 43) cx dX6_not0_42 rfl rfl ?_
    refine go_if_ne (pc' := 46) cx 50 dX6_not0_43 rfl rfl (fun c43 => ?_) (fun c43 => ?_)
    · refine go_iconst (pc' := 51) cx 0 dX6_not0_50 rfl rfl ?_
      refine go_iret cx rfl dX6_not0_51 ?_
      have e9 : ntS (advS (mT R fr) sz) F1 F S = ((F1 ((advS (mT R fr) sz) S)).1, (F1 ((advS (mT R fr) sz) S)).2 ++ [10011]) := if_pos tc15
      exact ZIz.mk ⟨by rw [e9]; exact ((mG_17).op 0), fun q9 => by rw [e9] at q9 ⊢; have g9 := (GC_not (vG_17 q9)).mono hD1; first | (rw [if_pos c43] at g9; exact g9) | (rw [if_neg c43] at g9; exact g9)⟩
    · refine go_iconst (pc' := 47) cx 1 dX6_not0_46 rfl rfl ?_
      refine go_goto cx 51 dX6_not0_47 rfl ?_
      refine go_iret cx rfl dX6_not0_51 ?_
      have e9 : ntS (advS (mT R fr) sz) F1 F S = ((F1 ((advS (mT R fr) sz) S)).1, (F1 ((advS (mT R fr) sz) S)).2 ++ [10011]) := if_pos tc15
      exact ZIz.mk ⟨by rw [e9]; exact ((mG_17).op 0), fun q9 => by rw [e9] at q9 ⊢; have g9 := (GC_not (vG_17 q9)).mono hD1; first | (rw [if_pos c43] at g9; exact g9) | (rw [if_neg c43] at g9; exact g9)⟩

set_option maxHeartbeats 1000000 in
set_option maxRecDepth 20000 in
theorem c_X6_not1 (l : Launch) (E : Ev) {g0 : IG} {o : Option Nat} {fr sz : Nat} {R : Nat → Int32} (hC : MCx g0 fr sz R) {F F1 : PF} (hP : Pp (mT R fr) sz F) (hP1 : Pp (mT R fr) sz F1) {D D1 d d1 : Nat} (hD1 : D1 ≤ D + 1) (hd : 5 ≤ d) (hd1 : d1 ≤ d) (hC1 : McC l E o g0 fr sz R 1 yX6_added1 cX6_added1 4 d F D) (hC2 : McC l E o g0 fr sz R 2 yX6_not2 cX6_not2 4 d1 F1 D1)  : McC l E o g0 fr sz R 1 yX6_not1 cX6_not1 4 (d + 1) (ntS (advS (mT R fr) sz) F1 F) (D + 1) := by
  intro S g z hM
  refine Ct.of (lv0 := [(0, .ref (E.2.1 88))]) (by decide) (Nat.le_of_ble_eq_true rfl) rfl ?_
  intro p e s m below meth c cx
  obtain ⟨hfr, hsz, h26, h27, h89, hT0⟩ := id hC
  refine go_aload_n (pc' := 1) cx dX6_not1_0 rfl rfl ?_
  refine go_bipush (pc' := 3) cx 110 dX6_not1_1 rfl rfl ?_
  refine go_bipush (pc' := 5) cx 111 dX6_not1_3 rfl rfl ?_
  refine go_bipush (pc' := 7) cx 116 dX6_not1_5 rfl rfl ?_
  refine go_iconst (pc' := 8) cx 0 dX6_not1_7 rfl rfl ?_
  refine go_iconst (pc' := 9) cx 0 dX6_not1_8 rfl rfl ?_
  refine go_iconst (pc' := 10) cx 0 dX6_not1_9 rfl rfl ?_
  refine go_iconst (pc' := 11) cx 0 dX6_not1_10 rfl rfl ?_
  refine go_iconst (pc' := 12) cx 0 dX6_not1_11 rfl rfl ?_
  refine go_cVi (pc' := 15) cx (c_isWord_11 l E hC hM) mX6_isWord lX6_209 dX6_not1_12 kq88 (ltn rfl) (ltn rfl) rfl rfl rfl rfl (by omega) (Nat.le_of_ble_eq_true rfl) (Nat.le_of_ble_eq_true rfl) rfl ?_
  refine go_if_eq (pc' := 18) cx 52 dX6_not1_15 rfl rfl (fun c15 => ?_) (fun c15 => ?_)
  · refine go_aload_n (pc' := 53) cx dX6_not1_52 rfl rfl ?_
    refine go_cVIz (pc' := 56) cx (hC1 S g z hM) mX6_added1 lX6_324 dX6_not1_53 kq88 (ltn rfl) (ltn rfl) rfl rfl rfl rfl (by omega) (Nat.le_of_ble_eq_true rfl) (Nat.le_of_ble_eq_true rfl) rfl (fun w_3 G_1 z_2 hG_1 => ?_)
    obtain ⟨mG_1, vG_1⟩ := hG_1
    refine go_istore_n (pc' := 57) cx dX6_not1_56 (ltn rfl) [(1, .int w_3), (0, .ref (E.2.1 88))] rfl rfl ?_
    refine go_aload_n (pc' := 58) cx dX6_not1_57 rfl rfl ?_
    refine go_bipush (pc' := 60) cx 60 dX6_not1_58 rfl rfl ?_
    refine go_cVi (pc' := 63) cx (c_isSign_60 l E hC mG_1) mX6_isSign lX6_231 dX6_not1_60 kq88 (ltn rfl) (ltn rfl) rfl rfl rfl rfl (by omega) (Nat.le_of_ble_eq_true rfl) (Nat.le_of_ble_eq_true rfl) rfl ?_
    refine go_if_ne (pc' := 66) cx 77 dX6_not1_63 rfl rfl (fun c63 => ?_) (fun c63 => ?_)
    · have tc63G_1 : ((F S).1).2.2.1 = 10018 := one_of c63
      have utc63G_1 := (mG_1).2.2.1.un (by rw [tc63G_1]; decide)
      refine go_aload_n (pc' := 78) cx dX6_not1_77 rfl rfl ?_
      refine go_getl (N := 56) (pc' := 81) cx fX6_186 dX6_not1_78 (ltn rfl) rfl ?_
      refine go_ldc2 (pc' := 84) cx 60 kX6_253 dX6_not1_81 rfl ?_
      refine go_val (w := .long (((60 : Int32)).toInt64)) (congrArg Value.long (by decide)) ?_
      refine go_lcmp (pc' := 85) cx dX6_not1_84 rfl ?_
      refine go_if_ne (pc' := 88) cx 92 dX6_not1_85 rfl rfl (fun hh => absurd hh (by rw [wth_10018 mG_1 utc63G_1 tc63G_1]; decide)) (fun _ => ?_)
      refine go_iconst (pc' := 89) cx 1 dX6_not1_88 rfl rfl ?_
      refine go_goto cx 93 dX6_not1_89 rfl ?_
      refine go_istore_n (pc' := 94) cx dX6_not1_93 (ltn rfl) [(2, .int 1), (1, .int w_3), (0, .ref (E.2.1 88))] rfl rfl ?_
      refine go_aload_n (pc' := 95) cx dX6_not1_94 rfl rfl ?_
      have aG_4 := adv_W mG_1.2.2.1 utc63G_1
      refine go_cVVz (pc' := 98) cx (c_nextM l E hC mG_1 utc63G_1 (by rw [tc63G_1]; decide)) mX6_next lX6_206 dX6_not1_95 kq88 (ltn rfl) (ltn rfl) rfl rfl rfl rfl (by omega) (Nat.le_of_ble_eq_true rfl) (Nat.le_of_ble_eq_true rfl) rfl (fun G_4 z_5 mG_4 => ?_)
      refine go_aload_n (pc' := 99) cx dX6_not1_98 rfl rfl ?_
      refine go_cVIz (pc' := 102) cx (hC1 (advS (mT R fr) sz ((F S).1)) G_4 z_5 mG_4) mX6_added1 lX6_324 dX6_not1_99 kq88 (ltn rfl) (ltn rfl) rfl rfl rfl rfl (by omega) (Nat.le_of_ble_eq_true rfl) (Nat.le_of_ble_eq_true rfl) rfl (fun w_8 G_6 z_7 hG_6 => ?_)
      obtain ⟨mG_6, vG_6⟩ := hG_6
      refine go_istore_n (pc' := 103) cx dX6_not1_102 (ltn rfl) [(3, .int w_8), (2, .int 1), (1, .int w_3), (0, .ref (E.2.1 88))] rfl rfl ?_
      refine go_iload_n (pc' := 104) cx dX6_not1_103 rfl rfl ?_
      refine go_if_eq (pc' := 107) cx 115 dX6_not1_104 rfl rfl (fun hh => absurd hh (by decide)) (fun _ => ?_)
      refine go_iload_n (pc' := 108) cx dX6_not1_107 rfl rfl ?_
      refine go_iload_n (pc' := 109) cx dX6_not1_108 rfl rfl ?_
      refine go_icmp_ge (pc' := 112) cx 124 dX6_not1_109 rfl rfl (fun c109 => ?_) (fun c109 => ?_)
      · have c109n := Int32.not_lt.mpr c109
        refine go_iconst (pc' := 125) cx 0 dX6_not1_124 rfl rfl ?_
        refine go_iret cx rfl dX6_not1_125 ?_
        have e8 : ntS (advS (mT R fr) sz) F1 F S = cmF (advS (mT R fr) sz) F S := if_neg (zero_of c15)
        have e9 : cmF (advS (mT R fr) sz) F S = ((F ((advS (mT R fr) sz) (F S).1)).1, (F S).2 ++ (F ((advS (mT R fr) sz) (F S).1)).2 ++ [(F S).1.2.2.1]) := by
          unfold cmF
          rw [if_pos (Or.inl tc63G_1)]
        exact ZIz.mk ⟨by rw [e8, e9]; exact mG_6, fun q9 => by rw [e8, e9] at q9 ⊢; exact (by have g9 := GC_bin (c := 10018) (D := D + 1) (vG_1 utc63G_1) (vG_6 q9) (Nat.le_succ D) (Nat.le_refl _) (by decide) (by decide) (by decide); rw [tc63G_1]; have j9 : jnV 10018 w_3 w_8 = _ := jn_lt; rw [j9] at g9; first | (rw [if_neg (Int32.not_lt.mpr c109)] at g9; exact g9) | (rw [if_pos (Int32.not_le.mp c109)] at g9; exact g9))⟩
      · have c109n := Int32.not_le.mp c109
        refine go_goto cx 120 dX6_not1_112 rfl ?_
        refine go_iconst (pc' := 121) cx 1 dX6_not1_120 rfl rfl ?_
        refine go_goto cx 125 dX6_not1_121 rfl ?_
        refine go_iret cx rfl dX6_not1_125 ?_
        have e8 : ntS (advS (mT R fr) sz) F1 F S = cmF (advS (mT R fr) sz) F S := if_neg (zero_of c15)
        have e9 : cmF (advS (mT R fr) sz) F S = ((F ((advS (mT R fr) sz) (F S).1)).1, (F S).2 ++ (F ((advS (mT R fr) sz) (F S).1)).2 ++ [(F S).1.2.2.1]) := by
          unfold cmF
          rw [if_pos (Or.inl tc63G_1)]
        exact ZIz.mk ⟨by rw [e8, e9]; exact mG_6, fun q9 => by rw [e8, e9] at q9 ⊢; exact (by have g9 := GC_bin (c := 10018) (D := D + 1) (vG_1 utc63G_1) (vG_6 q9) (Nat.le_succ D) (Nat.le_refl _) (by decide) (by decide) (by decide); rw [tc63G_1]; have j9 : jnV 10018 w_3 w_8 = _ := jn_lt; rw [j9] at g9; first | (rw [if_neg (Int32.not_lt.mpr c109)] at g9; exact g9) | (rw [if_pos (Int32.not_le.mp c109)] at g9; exact g9))⟩
    · refine go_aload_n (pc' := 67) cx dX6_not1_66 rfl rfl ?_
      refine go_bipush (pc' := 69) cx 61 dX6_not1_67 rfl rfl ?_
      refine go_cVi (pc' := 72) cx (c_isSign_61 l E hC mG_1) mX6_isSign lX6_231 dX6_not1_69 kq88 (ltn rfl) (ltn rfl) rfl rfl rfl rfl (by omega) (Nat.le_of_ble_eq_true rfl) (Nat.le_of_ble_eq_true rfl) rfl ?_
      refine go_if_ne (pc' := 75) cx 77 dX6_not1_72 rfl rfl (fun c72 => ?_) (fun c72 => ?_)
      · have tc72G_1 : ((F S).1).2.2.1 = 10019 := one_of c72
        have utc72G_1 := (mG_1).2.2.1.un (by rw [tc72G_1]; decide)
        refine go_aload_n (pc' := 78) cx dX6_not1_77 rfl rfl ?_
        refine go_getl (N := 56) (pc' := 81) cx fX6_186 dX6_not1_78 (ltn rfl) rfl ?_
        refine go_ldc2 (pc' := 84) cx 60 kX6_253 dX6_not1_81 rfl ?_
        refine go_val (w := .long (((60 : Int32)).toInt64)) (congrArg Value.long (by decide)) ?_
        refine go_lcmp (pc' := 85) cx dX6_not1_84 rfl ?_
        refine go_if_ne (pc' := 88) cx 92 dX6_not1_85 rfl rfl (fun _ => ?_) (fun hh => absurd hh (by rw [wth_10019 mG_1 utc72G_1 tc72G_1]; decide))
        refine go_iconst (pc' := 93) cx 0 dX6_not1_92 rfl rfl ?_
        refine go_istore_n (pc' := 94) cx dX6_not1_93 (ltn rfl) [(2, .int 0), (1, .int w_3), (0, .ref (E.2.1 88))] rfl rfl ?_
        refine go_aload_n (pc' := 95) cx dX6_not1_94 rfl rfl ?_
        have aG_9 := adv_W mG_1.2.2.1 utc72G_1
        refine go_cVVz (pc' := 98) cx (c_nextM l E hC mG_1 utc72G_1 (by rw [tc72G_1]; decide)) mX6_next lX6_206 dX6_not1_95 kq88 (ltn rfl) (ltn rfl) rfl rfl rfl rfl (by omega) (Nat.le_of_ble_eq_true rfl) (Nat.le_of_ble_eq_true rfl) rfl (fun G_9 z_10 mG_9 => ?_)
        refine go_aload_n (pc' := 99) cx dX6_not1_98 rfl rfl ?_
        refine go_cVIz (pc' := 102) cx (hC1 (advS (mT R fr) sz ((F S).1)) G_9 z_10 mG_9) mX6_added1 lX6_324 dX6_not1_99 kq88 (ltn rfl) (ltn rfl) rfl rfl rfl rfl (by omega) (Nat.le_of_ble_eq_true rfl) (Nat.le_of_ble_eq_true rfl) rfl (fun w_13 G_11 z_12 hG_11 => ?_)
        obtain ⟨mG_11, vG_11⟩ := hG_11
        refine go_istore_n (pc' := 103) cx dX6_not1_102 (ltn rfl) [(3, .int w_13), (2, .int 0), (1, .int w_3), (0, .ref (E.2.1 88))] rfl rfl ?_
        refine go_iload_n (pc' := 104) cx dX6_not1_103 rfl rfl ?_
        refine go_if_eq (pc' := 107) cx 115 dX6_not1_104 rfl rfl (fun _ => ?_) (fun hh => absurd hh (by decide))
        refine go_iload_n (pc' := 116) cx dX6_not1_115 rfl rfl ?_
        refine go_iload_n (pc' := 117) cx dX6_not1_116 rfl rfl ?_
        refine go_icmp_ne (pc' := 120) cx 124 dX6_not1_117 rfl rfl (fun c117 => ?_) (fun c117 => ?_)
        · refine go_iconst (pc' := 125) cx 0 dX6_not1_124 rfl rfl ?_
          refine go_iret cx rfl dX6_not1_125 ?_
          have e8 : ntS (advS (mT R fr) sz) F1 F S = cmF (advS (mT R fr) sz) F S := if_neg (zero_of c15)
          have e9 : cmF (advS (mT R fr) sz) F S = ((F ((advS (mT R fr) sz) (F S).1)).1, (F S).2 ++ (F ((advS (mT R fr) sz) (F S).1)).2 ++ [(F S).1.2.2.1]) := by
            unfold cmF
            rw [if_pos (Or.inr tc72G_1)]
          exact ZIz.mk ⟨by rw [e8, e9]; exact mG_11, fun q9 => by rw [e8, e9] at q9 ⊢; exact (by have g9 := GC_bin (c := 10019) (D := D + 1) (vG_1 utc72G_1) (vG_11 q9) (Nat.le_succ D) (Nat.le_refl _) (by decide) (by decide) (by decide); rw [tc72G_1]; have j9 : jnV 10019 w_3 w_13 = _ := jn_eq; rw [j9] at g9; first | (rw [if_pos c117] at g9; exact g9) | (rw [if_neg c117] at g9; exact g9))⟩
        · refine go_iconst (pc' := 121) cx 1 dX6_not1_120 rfl rfl ?_
          refine go_goto cx 125 dX6_not1_121 rfl ?_
          refine go_iret cx rfl dX6_not1_125 ?_
          have e8 : ntS (advS (mT R fr) sz) F1 F S = cmF (advS (mT R fr) sz) F S := if_neg (zero_of c15)
          have e9 : cmF (advS (mT R fr) sz) F S = ((F ((advS (mT R fr) sz) (F S).1)).1, (F S).2 ++ (F ((advS (mT R fr) sz) (F S).1)).2 ++ [(F S).1.2.2.1]) := by
            unfold cmF
            rw [if_pos (Or.inr tc72G_1)]
          exact ZIz.mk ⟨by rw [e8, e9]; exact mG_11, fun q9 => by rw [e8, e9] at q9 ⊢; exact (by have g9 := GC_bin (c := 10019) (D := D + 1) (vG_1 utc72G_1) (vG_11 q9) (Nat.le_succ D) (Nat.le_refl _) (by decide) (by decide) (by decide); rw [tc72G_1]; have j9 : jnV 10019 w_3 w_13 = _ := jn_eq; rw [j9] at g9; first | (rw [if_pos c117] at g9; exact g9) | (rw [if_neg c117] at g9; exact g9))⟩
      · refine go_iload_n (pc' := 76) cx dX6_not1_75 rfl rfl ?_
        refine go_iret cx rfl dX6_not1_76 ?_
        have e8 : ntS (advS (mT R fr) sz) F1 F S = cmF (advS (mT R fr) sz) F S := if_neg (zero_of c15)
        have e9 : cmF (advS (mT R fr) sz) F S = F S := by
          unfold cmF
          rw [if_neg (fun q8 => q8.elim (zero_of c63) (zero_of c72))]
        exact ZIz.mk ⟨by rw [e8, e9]; exact mG_1, fun q9 => by rw [e8, e9] at q9 ⊢; exact (vG_1 q9).mono (Nat.le_succ D)⟩
  · have tc15 : S.2.2.1 = 10011 := one_of c15
    have utc15 := hM.2.2.1.un (by rw [tc15]; decide)
    refine go_aload_n (pc' := 19) cx dX6_not1_18 rfl rfl ?_
    have aG_14 := adv_W (hM).2.2.1 utc15
    refine go_cVIz (pc' := 22) cx (c_X6_opens l E hC hM utc15 (by rw [tc15]; decide) (by omega)) mX6_opens lX6_234 dX6_not1_19 kq88 (ltn rfl) (ltn rfl) rfl rfl rfl rfl (by omega) (Nat.le_of_ble_eq_true rfl) (Nat.le_of_ble_eq_true rfl) rfl (fun w_16 G_14 z_15 hG_14 => ?_)
    obtain ⟨eG_14, mG_14⟩ := hG_14
    subst eG_14
    refine go_if_ne (pc' := 25) cx 27 dX6_not1_22 rfl rfl (fun _ => ?_) (fun hh => absurd hh (by decide))
    refine go_aload_n (pc' := 28) cx dX6_not1_27 rfl rfl ?_
    refine go_cVIz (pc' := 31) cx (hC2 (advS (mT R fr) sz S) G_14 z_15 mG_14) mX6_not2 lX6_309 dX6_not1_28 kq88 (ltn rfl) (ltn rfl) rfl rfl rfl rfl (by omega) (Nat.le_of_ble_eq_true rfl) (Nat.le_of_ble_eq_true rfl) rfl (fun w_19 G_17 z_18 hG_17 => ?_)
    obtain ⟨mG_17, vG_17⟩ := hG_17
    refine go_istore_n (pc' := 32) cx dX6_not1_31 (ltn rfl) [(1, .int w_19), (0, .ref (E.2.1 88))] rfl rfl ?_
    refine go_aload_n (pc' := 33) cx dX6_not1_32 rfl rfl ?_
    refine go_dup (pc' := 34) cx rfl dX6_not1_33 rfl ?_
    refine go_geti (pc' := 37) cx (nI (1 + 1)) fX6_200 dX6_not1_34 kq88 (ltn rfl) (ltn rfl) rfl (mG_17).2.1 rfl ?_
    refine go_iconst (pc' := 38) cx 1 dX6_not1_37 rfl rfl ?_
    refine go_isub (pc' := 39) cx dX6_not1_38 rfl ?_
    refine go_val (w := .int (nI 1)) (congrArg Value.int (nI_pred 1)) ?_
    refine go_puti (pc' := 42) cx fX6_200 dX6_not1_39 kq88 (ltn rfl) (ltn rfl) rfl rfl rfl rfl ?_
    refine go_iload_n (pc' := 43) cx dX6_not1_42 rfl rfl ?_
    refine go_if_ne (pc' := 46) cx 50 dX6_not1_43 rfl rfl (fun c43 => ?_) (fun c43 => ?_)
    · refine go_iconst (pc' := 51) cx 0 dX6_not1_50 rfl rfl ?_
      refine go_iret cx rfl dX6_not1_51 ?_
      have e9 : ntS (advS (mT R fr) sz) F1 F S = ((F1 ((advS (mT R fr) sz) S)).1, (F1 ((advS (mT R fr) sz) S)).2 ++ [10011]) := if_pos tc15
      exact ZIz.mk ⟨by rw [e9]; exact ((mG_17).op 1), fun q9 => by rw [e9] at q9 ⊢; have g9 := (GC_not (vG_17 q9)).mono hD1; first | (rw [if_pos c43] at g9; exact g9) | (rw [if_neg c43] at g9; exact g9)⟩
    · refine go_iconst (pc' := 47) cx 1 dX6_not1_46 rfl rfl ?_
      refine go_goto cx 51 dX6_not1_47 rfl ?_
      refine go_iret cx rfl dX6_not1_51 ?_
      have e9 : ntS (advS (mT R fr) sz) F1 F S = ((F1 ((advS (mT R fr) sz) S)).1, (F1 ((advS (mT R fr) sz) S)).2 ++ [10011]) := if_pos tc15
      exact ZIz.mk ⟨by rw [e9]; exact ((mG_17).op 1), fun q9 => by rw [e9] at q9 ⊢; have g9 := (GC_not (vG_17 q9)).mono hD1; first | (rw [if_pos c43] at g9; exact g9) | (rw [if_neg c43] at g9; exact g9)⟩

set_option maxHeartbeats 1000000 in
set_option maxRecDepth 20000 in
theorem c_X6_not2 (l : Launch) (E : Ev) {g0 : IG} {o : Option Nat} {fr sz : Nat} {R : Nat → Int32} (hC : MCx g0 fr sz R) {F F1 : PF} (hP : Pp (mT R fr) sz F) (hP1 : Pp (mT R fr) sz F1) {D D1 d d1 : Nat} (hD1 : D1 ≤ D + 1) (hd : 5 ≤ d) (hd1 : d1 ≤ d) (hC1 : McC l E o g0 fr sz R 2 yX6_added2 cX6_added2 4 d F D) (hC2 : McC l E o g0 fr sz R 3 yX6_not3 cX6_not3 4 d1 F1 D1)  : McC l E o g0 fr sz R 2 yX6_not2 cX6_not2 4 (d + 1) (ntS (advS (mT R fr) sz) F1 F) (D + 1) := by
  intro S g z hM
  refine Ct.of (lv0 := [(0, .ref (E.2.1 88))]) (by decide) (Nat.le_of_ble_eq_true rfl) rfl ?_
  intro p e s m below meth c cx
  obtain ⟨hfr, hsz, h26, h27, h89, hT0⟩ := id hC
  refine go_aload_n (pc' := 1) cx dX6_not2_0 rfl rfl ?_
  refine go_bipush (pc' := 3) cx 110 dX6_not2_1 rfl rfl ?_
  refine go_bipush (pc' := 5) cx 111 dX6_not2_3 rfl rfl ?_
  refine go_bipush (pc' := 7) cx 116 dX6_not2_5 rfl rfl ?_
  refine go_iconst (pc' := 8) cx 0 dX6_not2_7 rfl rfl ?_
  refine go_iconst (pc' := 9) cx 0 dX6_not2_8 rfl rfl ?_
  refine go_iconst (pc' := 10) cx 0 dX6_not2_9 rfl rfl ?_
  refine go_iconst (pc' := 11) cx 0 dX6_not2_10 rfl rfl ?_
  refine go_iconst (pc' := 12) cx 0 dX6_not2_11 rfl rfl ?_
  refine go_cVi (pc' := 15) cx (c_isWord_11 l E hC hM) mX6_isWord lX6_209 dX6_not2_12 kq88 (ltn rfl) (ltn rfl) rfl rfl rfl rfl (by omega) (Nat.le_of_ble_eq_true rfl) (Nat.le_of_ble_eq_true rfl) rfl ?_
  refine go_if_eq (pc' := 18) cx 52 dX6_not2_15 rfl rfl (fun c15 => ?_) (fun c15 => ?_)
  · refine go_aload_n (pc' := 53) cx dX6_not2_52 rfl rfl ?_
    refine go_cVIz (pc' := 56) cx (hC1 S g z hM) mX6_added2 lX6_306 dX6_not2_53 kq88 (ltn rfl) (ltn rfl) rfl rfl rfl rfl (by omega) (Nat.le_of_ble_eq_true rfl) (Nat.le_of_ble_eq_true rfl) rfl (fun w_3 G_1 z_2 hG_1 => ?_)
    obtain ⟨mG_1, vG_1⟩ := hG_1
    refine go_istore_n (pc' := 57) cx dX6_not2_56 (ltn rfl) [(1, .int w_3), (0, .ref (E.2.1 88))] rfl rfl ?_
    refine go_aload_n (pc' := 58) cx dX6_not2_57 rfl rfl ?_
    refine go_bipush (pc' := 60) cx 60 dX6_not2_58 rfl rfl ?_
    refine go_cVi (pc' := 63) cx (c_isSign_60 l E hC mG_1) mX6_isSign lX6_231 dX6_not2_60 kq88 (ltn rfl) (ltn rfl) rfl rfl rfl rfl (by omega) (Nat.le_of_ble_eq_true rfl) (Nat.le_of_ble_eq_true rfl) rfl ?_
    refine go_if_ne (pc' := 66) cx 77 dX6_not2_63 rfl rfl (fun c63 => ?_) (fun c63 => ?_)
    · have tc63G_1 : ((F S).1).2.2.1 = 10018 := one_of c63
      have utc63G_1 := (mG_1).2.2.1.un (by rw [tc63G_1]; decide)
      refine go_aload_n (pc' := 78) cx dX6_not2_77 rfl rfl ?_
      refine go_getl (N := 56) (pc' := 81) cx fX6_186 dX6_not2_78 (ltn rfl) rfl ?_
      refine go_ldc2 (pc' := 84) cx 60 kX6_253 dX6_not2_81 rfl ?_
      refine go_val (w := .long (((60 : Int32)).toInt64)) (congrArg Value.long (by decide)) ?_
      refine go_lcmp (pc' := 85) cx dX6_not2_84 rfl ?_
      refine go_if_ne (pc' := 88) cx 92 dX6_not2_85 rfl rfl (fun hh => absurd hh (by rw [wth_10018 mG_1 utc63G_1 tc63G_1]; decide)) (fun _ => ?_)
      refine go_iconst (pc' := 89) cx 1 dX6_not2_88 rfl rfl ?_
      refine go_goto cx 93 dX6_not2_89 rfl ?_
      refine go_istore_n (pc' := 94) cx dX6_not2_93 (ltn rfl) [(2, .int 1), (1, .int w_3), (0, .ref (E.2.1 88))] rfl rfl ?_
      refine go_aload_n (pc' := 95) cx dX6_not2_94 rfl rfl ?_
      have aG_4 := adv_W mG_1.2.2.1 utc63G_1
      refine go_cVVz (pc' := 98) cx (c_nextM l E hC mG_1 utc63G_1 (by rw [tc63G_1]; decide)) mX6_next lX6_206 dX6_not2_95 kq88 (ltn rfl) (ltn rfl) rfl rfl rfl rfl (by omega) (Nat.le_of_ble_eq_true rfl) (Nat.le_of_ble_eq_true rfl) rfl (fun G_4 z_5 mG_4 => ?_)
      refine go_aload_n (pc' := 99) cx dX6_not2_98 rfl rfl ?_
      refine go_cVIz (pc' := 102) cx (hC1 (advS (mT R fr) sz ((F S).1)) G_4 z_5 mG_4) mX6_added2 lX6_306 dX6_not2_99 kq88 (ltn rfl) (ltn rfl) rfl rfl rfl rfl (by omega) (Nat.le_of_ble_eq_true rfl) (Nat.le_of_ble_eq_true rfl) rfl (fun w_8 G_6 z_7 hG_6 => ?_)
      obtain ⟨mG_6, vG_6⟩ := hG_6
      refine go_istore_n (pc' := 103) cx dX6_not2_102 (ltn rfl) [(3, .int w_8), (2, .int 1), (1, .int w_3), (0, .ref (E.2.1 88))] rfl rfl ?_
      refine go_iload_n (pc' := 104) cx dX6_not2_103 rfl rfl ?_
      refine go_if_eq (pc' := 107) cx 115 dX6_not2_104 rfl rfl (fun hh => absurd hh (by decide)) (fun _ => ?_)
      refine go_iload_n (pc' := 108) cx dX6_not2_107 rfl rfl ?_
      refine go_iload_n (pc' := 109) cx dX6_not2_108 rfl rfl ?_
      refine go_icmp_ge (pc' := 112) cx 124 dX6_not2_109 rfl rfl (fun c109 => ?_) (fun c109 => ?_)
      · have c109n := Int32.not_lt.mpr c109
        refine go_iconst (pc' := 125) cx 0 dX6_not2_124 rfl rfl ?_
        refine go_iret cx rfl dX6_not2_125 ?_
        have e8 : ntS (advS (mT R fr) sz) F1 F S = cmF (advS (mT R fr) sz) F S := if_neg (zero_of c15)
        have e9 : cmF (advS (mT R fr) sz) F S = ((F ((advS (mT R fr) sz) (F S).1)).1, (F S).2 ++ (F ((advS (mT R fr) sz) (F S).1)).2 ++ [(F S).1.2.2.1]) := by
          unfold cmF
          rw [if_pos (Or.inl tc63G_1)]
        exact ZIz.mk ⟨by rw [e8, e9]; exact mG_6, fun q9 => by rw [e8, e9] at q9 ⊢; exact (by have g9 := GC_bin (c := 10018) (D := D + 1) (vG_1 utc63G_1) (vG_6 q9) (Nat.le_succ D) (Nat.le_refl _) (by decide) (by decide) (by decide); rw [tc63G_1]; have j9 : jnV 10018 w_3 w_8 = _ := jn_lt; rw [j9] at g9; first | (rw [if_neg (Int32.not_lt.mpr c109)] at g9; exact g9) | (rw [if_pos (Int32.not_le.mp c109)] at g9; exact g9))⟩
      · have c109n := Int32.not_le.mp c109
        refine go_goto cx 120 dX6_not2_112 rfl ?_
        refine go_iconst (pc' := 121) cx 1 dX6_not2_120 rfl rfl ?_
        refine go_goto cx 125 dX6_not2_121 rfl ?_
        refine go_iret cx rfl dX6_not2_125 ?_
        have e8 : ntS (advS (mT R fr) sz) F1 F S = cmF (advS (mT R fr) sz) F S := if_neg (zero_of c15)
        have e9 : cmF (advS (mT R fr) sz) F S = ((F ((advS (mT R fr) sz) (F S).1)).1, (F S).2 ++ (F ((advS (mT R fr) sz) (F S).1)).2 ++ [(F S).1.2.2.1]) := by
          unfold cmF
          rw [if_pos (Or.inl tc63G_1)]
        exact ZIz.mk ⟨by rw [e8, e9]; exact mG_6, fun q9 => by rw [e8, e9] at q9 ⊢; exact (by have g9 := GC_bin (c := 10018) (D := D + 1) (vG_1 utc63G_1) (vG_6 q9) (Nat.le_succ D) (Nat.le_refl _) (by decide) (by decide) (by decide); rw [tc63G_1]; have j9 : jnV 10018 w_3 w_8 = _ := jn_lt; rw [j9] at g9; first | (rw [if_neg (Int32.not_lt.mpr c109)] at g9; exact g9) | (rw [if_pos (Int32.not_le.mp c109)] at g9; exact g9))⟩
    · refine go_aload_n (pc' := 67) cx dX6_not2_66 rfl rfl ?_
      refine go_bipush (pc' := 69) cx 61 dX6_not2_67 rfl rfl ?_
      refine go_cVi (pc' := 72) cx (c_isSign_61 l E hC mG_1) mX6_isSign lX6_231 dX6_not2_69 kq88 (ltn rfl) (ltn rfl) rfl rfl rfl rfl (by omega) (Nat.le_of_ble_eq_true rfl) (Nat.le_of_ble_eq_true rfl) rfl ?_
      refine go_if_ne (pc' := 75) cx 77 dX6_not2_72 rfl rfl (fun c72 => ?_) (fun c72 => ?_)
      · have tc72G_1 : ((F S).1).2.2.1 = 10019 := one_of c72
        have utc72G_1 := (mG_1).2.2.1.un (by rw [tc72G_1]; decide)
        refine go_aload_n (pc' := 78) cx dX6_not2_77 rfl rfl ?_
        refine go_getl (N := 56) (pc' := 81) cx fX6_186 dX6_not2_78 (ltn rfl) rfl ?_
        refine go_ldc2 (pc' := 84) cx 60 kX6_253 dX6_not2_81 rfl ?_
        refine go_val (w := .long (((60 : Int32)).toInt64)) (congrArg Value.long (by decide)) ?_
        refine go_lcmp (pc' := 85) cx dX6_not2_84 rfl ?_
        refine go_if_ne (pc' := 88) cx 92 dX6_not2_85 rfl rfl (fun _ => ?_) (fun hh => absurd hh (by rw [wth_10019 mG_1 utc72G_1 tc72G_1]; decide))
        refine go_iconst (pc' := 93) cx 0 dX6_not2_92 rfl rfl ?_
        refine go_istore_n (pc' := 94) cx dX6_not2_93 (ltn rfl) [(2, .int 0), (1, .int w_3), (0, .ref (E.2.1 88))] rfl rfl ?_
        refine go_aload_n (pc' := 95) cx dX6_not2_94 rfl rfl ?_
        have aG_9 := adv_W mG_1.2.2.1 utc72G_1
        refine go_cVVz (pc' := 98) cx (c_nextM l E hC mG_1 utc72G_1 (by rw [tc72G_1]; decide)) mX6_next lX6_206 dX6_not2_95 kq88 (ltn rfl) (ltn rfl) rfl rfl rfl rfl (by omega) (Nat.le_of_ble_eq_true rfl) (Nat.le_of_ble_eq_true rfl) rfl (fun G_9 z_10 mG_9 => ?_)
        refine go_aload_n (pc' := 99) cx dX6_not2_98 rfl rfl ?_
        refine go_cVIz (pc' := 102) cx (hC1 (advS (mT R fr) sz ((F S).1)) G_9 z_10 mG_9) mX6_added2 lX6_306 dX6_not2_99 kq88 (ltn rfl) (ltn rfl) rfl rfl rfl rfl (by omega) (Nat.le_of_ble_eq_true rfl) (Nat.le_of_ble_eq_true rfl) rfl (fun w_13 G_11 z_12 hG_11 => ?_)
        obtain ⟨mG_11, vG_11⟩ := hG_11
        refine go_istore_n (pc' := 103) cx dX6_not2_102 (ltn rfl) [(3, .int w_13), (2, .int 0), (1, .int w_3), (0, .ref (E.2.1 88))] rfl rfl ?_
        refine go_iload_n (pc' := 104) cx dX6_not2_103 rfl rfl ?_
        refine go_if_eq (pc' := 107) cx 115 dX6_not2_104 rfl rfl (fun _ => ?_) (fun hh => absurd hh (by decide))
        refine go_iload_n (pc' := 116) cx dX6_not2_115 rfl rfl ?_
        refine go_iload_n (pc' := 117) cx dX6_not2_116 rfl rfl ?_
        refine go_icmp_ne (pc' := 120) cx 124 dX6_not2_117 rfl rfl (fun c117 => ?_) (fun c117 => ?_)
        · refine go_iconst (pc' := 125) cx 0 dX6_not2_124 rfl rfl ?_
          refine go_iret cx rfl dX6_not2_125 ?_
          have e8 : ntS (advS (mT R fr) sz) F1 F S = cmF (advS (mT R fr) sz) F S := if_neg (zero_of c15)
          have e9 : cmF (advS (mT R fr) sz) F S = ((F ((advS (mT R fr) sz) (F S).1)).1, (F S).2 ++ (F ((advS (mT R fr) sz) (F S).1)).2 ++ [(F S).1.2.2.1]) := by
            unfold cmF
            rw [if_pos (Or.inr tc72G_1)]
          exact ZIz.mk ⟨by rw [e8, e9]; exact mG_11, fun q9 => by rw [e8, e9] at q9 ⊢; exact (by have g9 := GC_bin (c := 10019) (D := D + 1) (vG_1 utc72G_1) (vG_11 q9) (Nat.le_succ D) (Nat.le_refl _) (by decide) (by decide) (by decide); rw [tc72G_1]; have j9 : jnV 10019 w_3 w_13 = _ := jn_eq; rw [j9] at g9; first | (rw [if_pos c117] at g9; exact g9) | (rw [if_neg c117] at g9; exact g9))⟩
        · refine go_iconst (pc' := 121) cx 1 dX6_not2_120 rfl rfl ?_
          refine go_goto cx 125 dX6_not2_121 rfl ?_
          refine go_iret cx rfl dX6_not2_125 ?_
          have e8 : ntS (advS (mT R fr) sz) F1 F S = cmF (advS (mT R fr) sz) F S := if_neg (zero_of c15)
          have e9 : cmF (advS (mT R fr) sz) F S = ((F ((advS (mT R fr) sz) (F S).1)).1, (F S).2 ++ (F ((advS (mT R fr) sz) (F S).1)).2 ++ [(F S).1.2.2.1]) := by
            unfold cmF
            rw [if_pos (Or.inr tc72G_1)]
          exact ZIz.mk ⟨by rw [e8, e9]; exact mG_11, fun q9 => by rw [e8, e9] at q9 ⊢; exact (by have g9 := GC_bin (c := 10019) (D := D + 1) (vG_1 utc72G_1) (vG_11 q9) (Nat.le_succ D) (Nat.le_refl _) (by decide) (by decide) (by decide); rw [tc72G_1]; have j9 : jnV 10019 w_3 w_13 = _ := jn_eq; rw [j9] at g9; first | (rw [if_pos c117] at g9; exact g9) | (rw [if_neg c117] at g9; exact g9))⟩
      · refine go_iload_n (pc' := 76) cx dX6_not2_75 rfl rfl ?_
        refine go_iret cx rfl dX6_not2_76 ?_
        have e8 : ntS (advS (mT R fr) sz) F1 F S = cmF (advS (mT R fr) sz) F S := if_neg (zero_of c15)
        have e9 : cmF (advS (mT R fr) sz) F S = F S := by
          unfold cmF
          rw [if_neg (fun q8 => q8.elim (zero_of c63) (zero_of c72))]
        exact ZIz.mk ⟨by rw [e8, e9]; exact mG_1, fun q9 => by rw [e8, e9] at q9 ⊢; exact (vG_1 q9).mono (Nat.le_succ D)⟩
  · have tc15 : S.2.2.1 = 10011 := one_of c15
    have utc15 := hM.2.2.1.un (by rw [tc15]; decide)
    refine go_aload_n (pc' := 19) cx dX6_not2_18 rfl rfl ?_
    have aG_14 := adv_W (hM).2.2.1 utc15
    refine go_cVIz (pc' := 22) cx (c_X6_opens l E hC hM utc15 (by rw [tc15]; decide) (by omega)) mX6_opens lX6_234 dX6_not2_19 kq88 (ltn rfl) (ltn rfl) rfl rfl rfl rfl (by omega) (Nat.le_of_ble_eq_true rfl) (Nat.le_of_ble_eq_true rfl) rfl (fun w_16 G_14 z_15 hG_14 => ?_)
    obtain ⟨eG_14, mG_14⟩ := hG_14
    subst eG_14
    refine go_if_ne (pc' := 25) cx 27 dX6_not2_22 rfl rfl (fun _ => ?_) (fun hh => absurd hh (by decide))
    refine go_aload_n (pc' := 28) cx dX6_not2_27 rfl rfl ?_
    refine go_cVIz (pc' := 31) cx (hC2 (advS (mT R fr) sz S) G_14 z_15 mG_14) mX6_not3 lX6_291 dX6_not2_28 kq88 (ltn rfl) (ltn rfl) rfl rfl rfl rfl (by omega) (Nat.le_of_ble_eq_true rfl) (Nat.le_of_ble_eq_true rfl) rfl (fun w_19 G_17 z_18 hG_17 => ?_)
    obtain ⟨mG_17, vG_17⟩ := hG_17
    refine go_istore_n (pc' := 32) cx dX6_not2_31 (ltn rfl) [(1, .int w_19), (0, .ref (E.2.1 88))] rfl rfl ?_
    refine go_aload_n (pc' := 33) cx dX6_not2_32 rfl rfl ?_
    refine go_dup (pc' := 34) cx rfl dX6_not2_33 rfl ?_
    refine go_geti (pc' := 37) cx (nI (2 + 1)) fX6_200 dX6_not2_34 kq88 (ltn rfl) (ltn rfl) rfl (mG_17).2.1 rfl ?_
    refine go_iconst (pc' := 38) cx 1 dX6_not2_37 rfl rfl ?_
    refine go_isub (pc' := 39) cx dX6_not2_38 rfl ?_
    refine go_val (w := .int (nI 2)) (congrArg Value.int (nI_pred 2)) ?_
    refine go_puti (pc' := 42) cx fX6_200 dX6_not2_39 kq88 (ltn rfl) (ltn rfl) rfl rfl rfl rfl ?_
    refine go_iload_n (pc' := 43) cx dX6_not2_42 rfl rfl ?_
    refine go_if_ne (pc' := 46) cx 50 dX6_not2_43 rfl rfl (fun c43 => ?_) (fun c43 => ?_)
    · refine go_iconst (pc' := 51) cx 0 dX6_not2_50 rfl rfl ?_
      refine go_iret cx rfl dX6_not2_51 ?_
      have e9 : ntS (advS (mT R fr) sz) F1 F S = ((F1 ((advS (mT R fr) sz) S)).1, (F1 ((advS (mT R fr) sz) S)).2 ++ [10011]) := if_pos tc15
      exact ZIz.mk ⟨by rw [e9]; exact ((mG_17).op 2), fun q9 => by rw [e9] at q9 ⊢; have g9 := (GC_not (vG_17 q9)).mono hD1; first | (rw [if_pos c43] at g9; exact g9) | (rw [if_neg c43] at g9; exact g9)⟩
    · refine go_iconst (pc' := 47) cx 1 dX6_not2_46 rfl rfl ?_
      refine go_goto cx 51 dX6_not2_47 rfl ?_
      refine go_iret cx rfl dX6_not2_51 ?_
      have e9 : ntS (advS (mT R fr) sz) F1 F S = ((F1 ((advS (mT R fr) sz) S)).1, (F1 ((advS (mT R fr) sz) S)).2 ++ [10011]) := if_pos tc15
      exact ZIz.mk ⟨by rw [e9]; exact ((mG_17).op 2), fun q9 => by rw [e9] at q9 ⊢; have g9 := (GC_not (vG_17 q9)).mono hD1; first | (rw [if_pos c43] at g9; exact g9) | (rw [if_neg c43] at g9; exact g9)⟩

set_option maxHeartbeats 1000000 in
set_option maxRecDepth 20000 in
theorem c_X6_not3 (l : Launch) (E : Ev) {g0 : IG} {o : Option Nat} {fr sz : Nat} {R : Nat → Int32} (hC : MCx g0 fr sz R) {F F1 : PF} (hP : Pp (mT R fr) sz F) (hP1 : Pp (mT R fr) sz F1) {D D1 d d1 : Nat} (hD1 : D1 ≤ D + 1) (hd : 5 ≤ d) (hd1 : d1 ≤ d) (hC1 : McC l E o g0 fr sz R 3 yX6_added3 cX6_added3 4 d F D) (hC2 : McC l E o g0 fr sz R 4 yX6_not4 cX6_not4 4 d1 F1 D1)  : McC l E o g0 fr sz R 3 yX6_not3 cX6_not3 4 (d + 1) (ntS (advS (mT R fr) sz) F1 F) (D + 1) := by
  intro S g z hM
  refine Ct.of (lv0 := [(0, .ref (E.2.1 88))]) (by decide) (Nat.le_of_ble_eq_true rfl) rfl ?_
  intro p e s m below meth c cx
  obtain ⟨hfr, hsz, h26, h27, h89, hT0⟩ := id hC
  refine go_aload_n (pc' := 1) cx dX6_not3_0 rfl rfl ?_
  refine go_bipush (pc' := 3) cx 110 dX6_not3_1 rfl rfl ?_
  refine go_bipush (pc' := 5) cx 111 dX6_not3_3 rfl rfl ?_
  refine go_bipush (pc' := 7) cx 116 dX6_not3_5 rfl rfl ?_
  refine go_iconst (pc' := 8) cx 0 dX6_not3_7 rfl rfl ?_
  refine go_iconst (pc' := 9) cx 0 dX6_not3_8 rfl rfl ?_
  refine go_iconst (pc' := 10) cx 0 dX6_not3_9 rfl rfl ?_
  refine go_iconst (pc' := 11) cx 0 dX6_not3_10 rfl rfl ?_
  refine go_iconst (pc' := 12) cx 0 dX6_not3_11 rfl rfl ?_
  refine go_cVi (pc' := 15) cx (c_isWord_11 l E hC hM) mX6_isWord lX6_209 dX6_not3_12 kq88 (ltn rfl) (ltn rfl) rfl rfl rfl rfl (by omega) (Nat.le_of_ble_eq_true rfl) (Nat.le_of_ble_eq_true rfl) rfl ?_
  refine go_if_eq (pc' := 18) cx 52 dX6_not3_15 rfl rfl (fun c15 => ?_) (fun c15 => ?_)
  · refine go_aload_n (pc' := 53) cx dX6_not3_52 rfl rfl ?_
    refine go_cVIz (pc' := 56) cx (hC1 S g z hM) mX6_added3 lX6_288 dX6_not3_53 kq88 (ltn rfl) (ltn rfl) rfl rfl rfl rfl (by omega) (Nat.le_of_ble_eq_true rfl) (Nat.le_of_ble_eq_true rfl) rfl (fun w_3 G_1 z_2 hG_1 => ?_)
    obtain ⟨mG_1, vG_1⟩ := hG_1
    refine go_istore_n (pc' := 57) cx dX6_not3_56 (ltn rfl) [(1, .int w_3), (0, .ref (E.2.1 88))] rfl rfl ?_
    refine go_aload_n (pc' := 58) cx dX6_not3_57 rfl rfl ?_
    refine go_bipush (pc' := 60) cx 60 dX6_not3_58 rfl rfl ?_
    refine go_cVi (pc' := 63) cx (c_isSign_60 l E hC mG_1) mX6_isSign lX6_231 dX6_not3_60 kq88 (ltn rfl) (ltn rfl) rfl rfl rfl rfl (by omega) (Nat.le_of_ble_eq_true rfl) (Nat.le_of_ble_eq_true rfl) rfl ?_
    refine go_if_ne (pc' := 66) cx 77 dX6_not3_63 rfl rfl (fun c63 => ?_) (fun c63 => ?_)
    · have tc63G_1 : ((F S).1).2.2.1 = 10018 := one_of c63
      have utc63G_1 := (mG_1).2.2.1.un (by rw [tc63G_1]; decide)
      refine go_aload_n (pc' := 78) cx dX6_not3_77 rfl rfl ?_
      refine go_getl (N := 56) (pc' := 81) cx fX6_186 dX6_not3_78 (ltn rfl) rfl ?_
      refine go_ldc2 (pc' := 84) cx 60 kX6_253 dX6_not3_81 rfl ?_
      refine go_val (w := .long (((60 : Int32)).toInt64)) (congrArg Value.long (by decide)) ?_
      refine go_lcmp (pc' := 85) cx dX6_not3_84 rfl ?_
      refine go_if_ne (pc' := 88) cx 92 dX6_not3_85 rfl rfl (fun hh => absurd hh (by rw [wth_10018 mG_1 utc63G_1 tc63G_1]; decide)) (fun _ => ?_)
      refine go_iconst (pc' := 89) cx 1 dX6_not3_88 rfl rfl ?_
      refine go_goto cx 93 dX6_not3_89 rfl ?_
      refine go_istore_n (pc' := 94) cx dX6_not3_93 (ltn rfl) [(2, .int 1), (1, .int w_3), (0, .ref (E.2.1 88))] rfl rfl ?_
      refine go_aload_n (pc' := 95) cx dX6_not3_94 rfl rfl ?_
      have aG_4 := adv_W mG_1.2.2.1 utc63G_1
      refine go_cVVz (pc' := 98) cx (c_nextM l E hC mG_1 utc63G_1 (by rw [tc63G_1]; decide)) mX6_next lX6_206 dX6_not3_95 kq88 (ltn rfl) (ltn rfl) rfl rfl rfl rfl (by omega) (Nat.le_of_ble_eq_true rfl) (Nat.le_of_ble_eq_true rfl) rfl (fun G_4 z_5 mG_4 => ?_)
      refine go_aload_n (pc' := 99) cx dX6_not3_98 rfl rfl ?_
      refine go_cVIz (pc' := 102) cx (hC1 (advS (mT R fr) sz ((F S).1)) G_4 z_5 mG_4) mX6_added3 lX6_288 dX6_not3_99 kq88 (ltn rfl) (ltn rfl) rfl rfl rfl rfl (by omega) (Nat.le_of_ble_eq_true rfl) (Nat.le_of_ble_eq_true rfl) rfl (fun w_8 G_6 z_7 hG_6 => ?_)
      obtain ⟨mG_6, vG_6⟩ := hG_6
      refine go_istore_n (pc' := 103) cx dX6_not3_102 (ltn rfl) [(3, .int w_8), (2, .int 1), (1, .int w_3), (0, .ref (E.2.1 88))] rfl rfl ?_
      refine go_iload_n (pc' := 104) cx dX6_not3_103 rfl rfl ?_
      refine go_if_eq (pc' := 107) cx 115 dX6_not3_104 rfl rfl (fun hh => absurd hh (by decide)) (fun _ => ?_)
      refine go_iload_n (pc' := 108) cx dX6_not3_107 rfl rfl ?_
      refine go_iload_n (pc' := 109) cx dX6_not3_108 rfl rfl ?_
      refine go_icmp_ge (pc' := 112) cx 124 dX6_not3_109 rfl rfl (fun c109 => ?_) (fun c109 => ?_)
      · have c109n := Int32.not_lt.mpr c109
        refine go_iconst (pc' := 125) cx 0 dX6_not3_124 rfl rfl ?_
        refine go_iret cx rfl dX6_not3_125 ?_
        have e8 : ntS (advS (mT R fr) sz) F1 F S = cmF (advS (mT R fr) sz) F S := if_neg (zero_of c15)
        have e9 : cmF (advS (mT R fr) sz) F S = ((F ((advS (mT R fr) sz) (F S).1)).1, (F S).2 ++ (F ((advS (mT R fr) sz) (F S).1)).2 ++ [(F S).1.2.2.1]) := by
          unfold cmF
          rw [if_pos (Or.inl tc63G_1)]
        exact ZIz.mk ⟨by rw [e8, e9]; exact mG_6, fun q9 => by rw [e8, e9] at q9 ⊢; exact (by have g9 := GC_bin (c := 10018) (D := D + 1) (vG_1 utc63G_1) (vG_6 q9) (Nat.le_succ D) (Nat.le_refl _) (by decide) (by decide) (by decide); rw [tc63G_1]; have j9 : jnV 10018 w_3 w_8 = _ := jn_lt; rw [j9] at g9; first | (rw [if_neg (Int32.not_lt.mpr c109)] at g9; exact g9) | (rw [if_pos (Int32.not_le.mp c109)] at g9; exact g9))⟩
      · have c109n := Int32.not_le.mp c109
        refine go_goto cx 120 dX6_not3_112 rfl ?_
        refine go_iconst (pc' := 121) cx 1 dX6_not3_120 rfl rfl ?_
        refine go_goto cx 125 dX6_not3_121 rfl ?_
        refine go_iret cx rfl dX6_not3_125 ?_
        have e8 : ntS (advS (mT R fr) sz) F1 F S = cmF (advS (mT R fr) sz) F S := if_neg (zero_of c15)
        have e9 : cmF (advS (mT R fr) sz) F S = ((F ((advS (mT R fr) sz) (F S).1)).1, (F S).2 ++ (F ((advS (mT R fr) sz) (F S).1)).2 ++ [(F S).1.2.2.1]) := by
          unfold cmF
          rw [if_pos (Or.inl tc63G_1)]
        exact ZIz.mk ⟨by rw [e8, e9]; exact mG_6, fun q9 => by rw [e8, e9] at q9 ⊢; exact (by have g9 := GC_bin (c := 10018) (D := D + 1) (vG_1 utc63G_1) (vG_6 q9) (Nat.le_succ D) (Nat.le_refl _) (by decide) (by decide) (by decide); rw [tc63G_1]; have j9 : jnV 10018 w_3 w_8 = _ := jn_lt; rw [j9] at g9; first | (rw [if_neg (Int32.not_lt.mpr c109)] at g9; exact g9) | (rw [if_pos (Int32.not_le.mp c109)] at g9; exact g9))⟩
    · refine go_aload_n (pc' := 67) cx dX6_not3_66 rfl rfl ?_
      refine go_bipush (pc' := 69) cx 61 dX6_not3_67 rfl rfl ?_
      refine go_cVi (pc' := 72) cx (c_isSign_61 l E hC mG_1) mX6_isSign lX6_231 dX6_not3_69 kq88 (ltn rfl) (ltn rfl) rfl rfl rfl rfl (by omega) (Nat.le_of_ble_eq_true rfl) (Nat.le_of_ble_eq_true rfl) rfl ?_
      refine go_if_ne (pc' := 75) cx 77 dX6_not3_72 rfl rfl (fun c72 => ?_) (fun c72 => ?_)
      · have tc72G_1 : ((F S).1).2.2.1 = 10019 := one_of c72
        have utc72G_1 := (mG_1).2.2.1.un (by rw [tc72G_1]; decide)
        refine go_aload_n (pc' := 78) cx dX6_not3_77 rfl rfl ?_
        refine go_getl (N := 56) (pc' := 81) cx fX6_186 dX6_not3_78 (ltn rfl) rfl ?_
        refine go_ldc2 (pc' := 84) cx 60 kX6_253 dX6_not3_81 rfl ?_
        refine go_val (w := .long (((60 : Int32)).toInt64)) (congrArg Value.long (by decide)) ?_
        refine go_lcmp (pc' := 85) cx dX6_not3_84 rfl ?_
        refine go_if_ne (pc' := 88) cx 92 dX6_not3_85 rfl rfl (fun _ => ?_) (fun hh => absurd hh (by rw [wth_10019 mG_1 utc72G_1 tc72G_1]; decide))
        refine go_iconst (pc' := 93) cx 0 dX6_not3_92 rfl rfl ?_
        refine go_istore_n (pc' := 94) cx dX6_not3_93 (ltn rfl) [(2, .int 0), (1, .int w_3), (0, .ref (E.2.1 88))] rfl rfl ?_
        refine go_aload_n (pc' := 95) cx dX6_not3_94 rfl rfl ?_
        have aG_9 := adv_W mG_1.2.2.1 utc72G_1
        refine go_cVVz (pc' := 98) cx (c_nextM l E hC mG_1 utc72G_1 (by rw [tc72G_1]; decide)) mX6_next lX6_206 dX6_not3_95 kq88 (ltn rfl) (ltn rfl) rfl rfl rfl rfl (by omega) (Nat.le_of_ble_eq_true rfl) (Nat.le_of_ble_eq_true rfl) rfl (fun G_9 z_10 mG_9 => ?_)
        refine go_aload_n (pc' := 99) cx dX6_not3_98 rfl rfl ?_
        refine go_cVIz (pc' := 102) cx (hC1 (advS (mT R fr) sz ((F S).1)) G_9 z_10 mG_9) mX6_added3 lX6_288 dX6_not3_99 kq88 (ltn rfl) (ltn rfl) rfl rfl rfl rfl (by omega) (Nat.le_of_ble_eq_true rfl) (Nat.le_of_ble_eq_true rfl) rfl (fun w_13 G_11 z_12 hG_11 => ?_)
        obtain ⟨mG_11, vG_11⟩ := hG_11
        refine go_istore_n (pc' := 103) cx dX6_not3_102 (ltn rfl) [(3, .int w_13), (2, .int 0), (1, .int w_3), (0, .ref (E.2.1 88))] rfl rfl ?_
        refine go_iload_n (pc' := 104) cx dX6_not3_103 rfl rfl ?_
        refine go_if_eq (pc' := 107) cx 115 dX6_not3_104 rfl rfl (fun _ => ?_) (fun hh => absurd hh (by decide))
        refine go_iload_n (pc' := 116) cx dX6_not3_115 rfl rfl ?_
        refine go_iload_n (pc' := 117) cx dX6_not3_116 rfl rfl ?_
        refine go_icmp_ne (pc' := 120) cx 124 dX6_not3_117 rfl rfl (fun c117 => ?_) (fun c117 => ?_)
        · refine go_iconst (pc' := 125) cx 0 dX6_not3_124 rfl rfl ?_
          refine go_iret cx rfl dX6_not3_125 ?_
          have e8 : ntS (advS (mT R fr) sz) F1 F S = cmF (advS (mT R fr) sz) F S := if_neg (zero_of c15)
          have e9 : cmF (advS (mT R fr) sz) F S = ((F ((advS (mT R fr) sz) (F S).1)).1, (F S).2 ++ (F ((advS (mT R fr) sz) (F S).1)).2 ++ [(F S).1.2.2.1]) := by
            unfold cmF
            rw [if_pos (Or.inr tc72G_1)]
          exact ZIz.mk ⟨by rw [e8, e9]; exact mG_11, fun q9 => by rw [e8, e9] at q9 ⊢; exact (by have g9 := GC_bin (c := 10019) (D := D + 1) (vG_1 utc72G_1) (vG_11 q9) (Nat.le_succ D) (Nat.le_refl _) (by decide) (by decide) (by decide); rw [tc72G_1]; have j9 : jnV 10019 w_3 w_13 = _ := jn_eq; rw [j9] at g9; first | (rw [if_pos c117] at g9; exact g9) | (rw [if_neg c117] at g9; exact g9))⟩
        · refine go_iconst (pc' := 121) cx 1 dX6_not3_120 rfl rfl ?_
          refine go_goto cx 125 dX6_not3_121 rfl ?_
          refine go_iret cx rfl dX6_not3_125 ?_
          have e8 : ntS (advS (mT R fr) sz) F1 F S = cmF (advS (mT R fr) sz) F S := if_neg (zero_of c15)
          have e9 : cmF (advS (mT R fr) sz) F S = ((F ((advS (mT R fr) sz) (F S).1)).1, (F S).2 ++ (F ((advS (mT R fr) sz) (F S).1)).2 ++ [(F S).1.2.2.1]) := by
            unfold cmF
            rw [if_pos (Or.inr tc72G_1)]
          exact ZIz.mk ⟨by rw [e8, e9]; exact mG_11, fun q9 => by rw [e8, e9] at q9 ⊢; exact (by have g9 := GC_bin (c := 10019) (D := D + 1) (vG_1 utc72G_1) (vG_11 q9) (Nat.le_succ D) (Nat.le_refl _) (by decide) (by decide) (by decide); rw [tc72G_1]; have j9 : jnV 10019 w_3 w_13 = _ := jn_eq; rw [j9] at g9; first | (rw [if_pos c117] at g9; exact g9) | (rw [if_neg c117] at g9; exact g9))⟩
      · refine go_iload_n (pc' := 76) cx dX6_not3_75 rfl rfl ?_
        refine go_iret cx rfl dX6_not3_76 ?_
        have e8 : ntS (advS (mT R fr) sz) F1 F S = cmF (advS (mT R fr) sz) F S := if_neg (zero_of c15)
        have e9 : cmF (advS (mT R fr) sz) F S = F S := by
          unfold cmF
          rw [if_neg (fun q8 => q8.elim (zero_of c63) (zero_of c72))]
        exact ZIz.mk ⟨by rw [e8, e9]; exact mG_1, fun q9 => by rw [e8, e9] at q9 ⊢; exact (vG_1 q9).mono (Nat.le_succ D)⟩
  · have tc15 : S.2.2.1 = 10011 := one_of c15
    have utc15 := hM.2.2.1.un (by rw [tc15]; decide)
    refine go_aload_n (pc' := 19) cx dX6_not3_18 rfl rfl ?_
    have aG_14 := adv_W (hM).2.2.1 utc15
    refine go_cVIz (pc' := 22) cx (c_X6_opens l E hC hM utc15 (by rw [tc15]; decide) (by omega)) mX6_opens lX6_234 dX6_not3_19 kq88 (ltn rfl) (ltn rfl) rfl rfl rfl rfl (by omega) (Nat.le_of_ble_eq_true rfl) (Nat.le_of_ble_eq_true rfl) rfl (fun w_16 G_14 z_15 hG_14 => ?_)
    obtain ⟨eG_14, mG_14⟩ := hG_14
    subst eG_14
    refine go_if_ne (pc' := 25) cx 27 dX6_not3_22 rfl rfl (fun _ => ?_) (fun hh => absurd hh (by decide))
    refine go_aload_n (pc' := 28) cx dX6_not3_27 rfl rfl ?_
    refine go_cVIz (pc' := 31) cx (hC2 (advS (mT R fr) sz S) G_14 z_15 mG_14) mX6_not4 lX6_273 dX6_not3_28 kq88 (ltn rfl) (ltn rfl) rfl rfl rfl rfl (by omega) (Nat.le_of_ble_eq_true rfl) (Nat.le_of_ble_eq_true rfl) rfl (fun w_19 G_17 z_18 hG_17 => ?_)
    obtain ⟨mG_17, vG_17⟩ := hG_17
    refine go_istore_n (pc' := 32) cx dX6_not3_31 (ltn rfl) [(1, .int w_19), (0, .ref (E.2.1 88))] rfl rfl ?_
    refine go_aload_n (pc' := 33) cx dX6_not3_32 rfl rfl ?_
    refine go_dup (pc' := 34) cx rfl dX6_not3_33 rfl ?_
    refine go_geti (pc' := 37) cx (nI (3 + 1)) fX6_200 dX6_not3_34 kq88 (ltn rfl) (ltn rfl) rfl (mG_17).2.1 rfl ?_
    refine go_iconst (pc' := 38) cx 1 dX6_not3_37 rfl rfl ?_
    refine go_isub (pc' := 39) cx dX6_not3_38 rfl ?_
    refine go_val (w := .int (nI 3)) (congrArg Value.int (nI_pred 3)) ?_
    refine go_puti (pc' := 42) cx fX6_200 dX6_not3_39 kq88 (ltn rfl) (ltn rfl) rfl rfl rfl rfl ?_
    refine go_iload_n (pc' := 43) cx dX6_not3_42 rfl rfl ?_
    refine go_if_ne (pc' := 46) cx 50 dX6_not3_43 rfl rfl (fun c43 => ?_) (fun c43 => ?_)
    · refine go_iconst (pc' := 51) cx 0 dX6_not3_50 rfl rfl ?_
      refine go_iret cx rfl dX6_not3_51 ?_
      have e9 : ntS (advS (mT R fr) sz) F1 F S = ((F1 ((advS (mT R fr) sz) S)).1, (F1 ((advS (mT R fr) sz) S)).2 ++ [10011]) := if_pos tc15
      exact ZIz.mk ⟨by rw [e9]; exact ((mG_17).op 3), fun q9 => by rw [e9] at q9 ⊢; have g9 := (GC_not (vG_17 q9)).mono hD1; first | (rw [if_pos c43] at g9; exact g9) | (rw [if_neg c43] at g9; exact g9)⟩
    · refine go_iconst (pc' := 47) cx 1 dX6_not3_46 rfl rfl ?_
      refine go_goto cx 51 dX6_not3_47 rfl ?_
      refine go_iret cx rfl dX6_not3_51 ?_
      have e9 : ntS (advS (mT R fr) sz) F1 F S = ((F1 ((advS (mT R fr) sz) S)).1, (F1 ((advS (mT R fr) sz) S)).2 ++ [10011]) := if_pos tc15
      exact ZIz.mk ⟨by rw [e9]; exact ((mG_17).op 3), fun q9 => by rw [e9] at q9 ⊢; have g9 := (GC_not (vG_17 q9)).mono hD1; first | (rw [if_pos c43] at g9; exact g9) | (rw [if_neg c43] at g9; exact g9)⟩

set_option maxHeartbeats 1000000 in
set_option maxRecDepth 20000 in
theorem c_X6_not4 (l : Launch) (E : Ev) {g0 : IG} {o : Option Nat} {fr sz : Nat} {R : Nat → Int32} (hC : MCx g0 fr sz R) {F F1 : PF} (hP : Pp (mT R fr) sz F) (hP1 : Pp (mT R fr) sz F1) {D D1 d d1 : Nat} (hD1 : D1 ≤ D + 1) (hd : 5 ≤ d) (hd1 : d1 ≤ d) (hC1 : McC l E o g0 fr sz R 4 yX6_added4 cX6_added4 4 d F D) (hC2 : McC l E o g0 fr sz R 5 yX6_not5 cX6_not5 4 d1 F1 D1)  : McC l E o g0 fr sz R 4 yX6_not4 cX6_not4 4 (d + 1) (ntS (advS (mT R fr) sz) F1 F) (D + 1) := by
  intro S g z hM
  refine Ct.of (lv0 := [(0, .ref (E.2.1 88))]) (by decide) (Nat.le_of_ble_eq_true rfl) rfl ?_
  intro p e s m below meth c cx
  obtain ⟨hfr, hsz, h26, h27, h89, hT0⟩ := id hC
  refine go_aload_n (pc' := 1) cx dX6_not4_0 rfl rfl ?_
  refine go_bipush (pc' := 3) cx 110 dX6_not4_1 rfl rfl ?_
  refine go_bipush (pc' := 5) cx 111 dX6_not4_3 rfl rfl ?_
  refine go_bipush (pc' := 7) cx 116 dX6_not4_5 rfl rfl ?_
  refine go_iconst (pc' := 8) cx 0 dX6_not4_7 rfl rfl ?_
  refine go_iconst (pc' := 9) cx 0 dX6_not4_8 rfl rfl ?_
  refine go_iconst (pc' := 10) cx 0 dX6_not4_9 rfl rfl ?_
  refine go_iconst (pc' := 11) cx 0 dX6_not4_10 rfl rfl ?_
  refine go_iconst (pc' := 12) cx 0 dX6_not4_11 rfl rfl ?_
  refine go_cVi (pc' := 15) cx (c_isWord_11 l E hC hM) mX6_isWord lX6_209 dX6_not4_12 kq88 (ltn rfl) (ltn rfl) rfl rfl rfl rfl (by omega) (Nat.le_of_ble_eq_true rfl) (Nat.le_of_ble_eq_true rfl) rfl ?_
  refine go_if_eq (pc' := 18) cx 52 dX6_not4_15 rfl rfl (fun c15 => ?_) (fun c15 => ?_)
  · refine go_aload_n (pc' := 53) cx dX6_not4_52 rfl rfl ?_
    refine go_cVIz (pc' := 56) cx (hC1 S g z hM) mX6_added4 lX6_270 dX6_not4_53 kq88 (ltn rfl) (ltn rfl) rfl rfl rfl rfl (by omega) (Nat.le_of_ble_eq_true rfl) (Nat.le_of_ble_eq_true rfl) rfl (fun w_3 G_1 z_2 hG_1 => ?_)
    obtain ⟨mG_1, vG_1⟩ := hG_1
    refine go_istore_n (pc' := 57) cx dX6_not4_56 (ltn rfl) [(1, .int w_3), (0, .ref (E.2.1 88))] rfl rfl ?_
    refine go_aload_n (pc' := 58) cx dX6_not4_57 rfl rfl ?_
    refine go_bipush (pc' := 60) cx 60 dX6_not4_58 rfl rfl ?_
    refine go_cVi (pc' := 63) cx (c_isSign_60 l E hC mG_1) mX6_isSign lX6_231 dX6_not4_60 kq88 (ltn rfl) (ltn rfl) rfl rfl rfl rfl (by omega) (Nat.le_of_ble_eq_true rfl) (Nat.le_of_ble_eq_true rfl) rfl ?_
    refine go_if_ne (pc' := 66) cx 77 dX6_not4_63 rfl rfl (fun c63 => ?_) (fun c63 => ?_)
    · have tc63G_1 : ((F S).1).2.2.1 = 10018 := one_of c63
      have utc63G_1 := (mG_1).2.2.1.un (by rw [tc63G_1]; decide)
      refine go_aload_n (pc' := 78) cx dX6_not4_77 rfl rfl ?_
      refine go_getl (N := 56) (pc' := 81) cx fX6_186 dX6_not4_78 (ltn rfl) rfl ?_
      refine go_ldc2 (pc' := 84) cx 60 kX6_253 dX6_not4_81 rfl ?_
      refine go_val (w := .long (((60 : Int32)).toInt64)) (congrArg Value.long (by decide)) ?_
      refine go_lcmp (pc' := 85) cx dX6_not4_84 rfl ?_
      refine go_if_ne (pc' := 88) cx 92 dX6_not4_85 rfl rfl (fun hh => absurd hh (by rw [wth_10018 mG_1 utc63G_1 tc63G_1]; decide)) (fun _ => ?_)
      refine go_iconst (pc' := 89) cx 1 dX6_not4_88 rfl rfl ?_
      refine go_goto cx 93 dX6_not4_89 rfl ?_
      refine go_istore_n (pc' := 94) cx dX6_not4_93 (ltn rfl) [(2, .int 1), (1, .int w_3), (0, .ref (E.2.1 88))] rfl rfl ?_
      refine go_aload_n (pc' := 95) cx dX6_not4_94 rfl rfl ?_
      have aG_4 := adv_W mG_1.2.2.1 utc63G_1
      refine go_cVVz (pc' := 98) cx (c_nextM l E hC mG_1 utc63G_1 (by rw [tc63G_1]; decide)) mX6_next lX6_206 dX6_not4_95 kq88 (ltn rfl) (ltn rfl) rfl rfl rfl rfl (by omega) (Nat.le_of_ble_eq_true rfl) (Nat.le_of_ble_eq_true rfl) rfl (fun G_4 z_5 mG_4 => ?_)
      refine go_aload_n (pc' := 99) cx dX6_not4_98 rfl rfl ?_
      refine go_cVIz (pc' := 102) cx (hC1 (advS (mT R fr) sz ((F S).1)) G_4 z_5 mG_4) mX6_added4 lX6_270 dX6_not4_99 kq88 (ltn rfl) (ltn rfl) rfl rfl rfl rfl (by omega) (Nat.le_of_ble_eq_true rfl) (Nat.le_of_ble_eq_true rfl) rfl (fun w_8 G_6 z_7 hG_6 => ?_)
      obtain ⟨mG_6, vG_6⟩ := hG_6
      refine go_istore_n (pc' := 103) cx dX6_not4_102 (ltn rfl) [(3, .int w_8), (2, .int 1), (1, .int w_3), (0, .ref (E.2.1 88))] rfl rfl ?_
      refine go_iload_n (pc' := 104) cx dX6_not4_103 rfl rfl ?_
      refine go_if_eq (pc' := 107) cx 115 dX6_not4_104 rfl rfl (fun hh => absurd hh (by decide)) (fun _ => ?_)
      refine go_iload_n (pc' := 108) cx dX6_not4_107 rfl rfl ?_
      refine go_iload_n (pc' := 109) cx dX6_not4_108 rfl rfl ?_
      refine go_icmp_ge (pc' := 112) cx 124 dX6_not4_109 rfl rfl (fun c109 => ?_) (fun c109 => ?_)
      · have c109n := Int32.not_lt.mpr c109
        refine go_iconst (pc' := 125) cx 0 dX6_not4_124 rfl rfl ?_
        refine go_iret cx rfl dX6_not4_125 ?_
        have e8 : ntS (advS (mT R fr) sz) F1 F S = cmF (advS (mT R fr) sz) F S := if_neg (zero_of c15)
        have e9 : cmF (advS (mT R fr) sz) F S = ((F ((advS (mT R fr) sz) (F S).1)).1, (F S).2 ++ (F ((advS (mT R fr) sz) (F S).1)).2 ++ [(F S).1.2.2.1]) := by
          unfold cmF
          rw [if_pos (Or.inl tc63G_1)]
        exact ZIz.mk ⟨by rw [e8, e9]; exact mG_6, fun q9 => by rw [e8, e9] at q9 ⊢; exact (by have g9 := GC_bin (c := 10018) (D := D + 1) (vG_1 utc63G_1) (vG_6 q9) (Nat.le_succ D) (Nat.le_refl _) (by decide) (by decide) (by decide); rw [tc63G_1]; have j9 : jnV 10018 w_3 w_8 = _ := jn_lt; rw [j9] at g9; first | (rw [if_neg (Int32.not_lt.mpr c109)] at g9; exact g9) | (rw [if_pos (Int32.not_le.mp c109)] at g9; exact g9))⟩
      · have c109n := Int32.not_le.mp c109
        refine go_goto cx 120 dX6_not4_112 rfl ?_
        refine go_iconst (pc' := 121) cx 1 dX6_not4_120 rfl rfl ?_
        refine go_goto cx 125 dX6_not4_121 rfl ?_
        refine go_iret cx rfl dX6_not4_125 ?_
        have e8 : ntS (advS (mT R fr) sz) F1 F S = cmF (advS (mT R fr) sz) F S := if_neg (zero_of c15)
        have e9 : cmF (advS (mT R fr) sz) F S = ((F ((advS (mT R fr) sz) (F S).1)).1, (F S).2 ++ (F ((advS (mT R fr) sz) (F S).1)).2 ++ [(F S).1.2.2.1]) := by
          unfold cmF
          rw [if_pos (Or.inl tc63G_1)]
        exact ZIz.mk ⟨by rw [e8, e9]; exact mG_6, fun q9 => by rw [e8, e9] at q9 ⊢; exact (by have g9 := GC_bin (c := 10018) (D := D + 1) (vG_1 utc63G_1) (vG_6 q9) (Nat.le_succ D) (Nat.le_refl _) (by decide) (by decide) (by decide); rw [tc63G_1]; have j9 : jnV 10018 w_3 w_8 = _ := jn_lt; rw [j9] at g9; first | (rw [if_neg (Int32.not_lt.mpr c109)] at g9; exact g9) | (rw [if_pos (Int32.not_le.mp c109)] at g9; exact g9))⟩
    · refine go_aload_n (pc' := 67) cx dX6_not4_66 rfl rfl ?_
      refine go_bipush (pc' := 69) cx 61 dX6_not4_67 rfl rfl ?_
      refine go_cVi (pc' := 72) cx (c_isSign_61 l E hC mG_1) mX6_isSign lX6_231 dX6_not4_69 kq88 (ltn rfl) (ltn rfl) rfl rfl rfl rfl (by omega) (Nat.le_of_ble_eq_true rfl) (Nat.le_of_ble_eq_true rfl) rfl ?_
      refine go_if_ne (pc' := 75) cx 77 dX6_not4_72 rfl rfl (fun c72 => ?_) (fun c72 => ?_)
      · have tc72G_1 : ((F S).1).2.2.1 = 10019 := one_of c72
        have utc72G_1 := (mG_1).2.2.1.un (by rw [tc72G_1]; decide)
        refine go_aload_n (pc' := 78) cx dX6_not4_77 rfl rfl ?_
        refine go_getl (N := 56) (pc' := 81) cx fX6_186 dX6_not4_78 (ltn rfl) rfl ?_
        refine go_ldc2 (pc' := 84) cx 60 kX6_253 dX6_not4_81 rfl ?_
        refine go_val (w := .long (((60 : Int32)).toInt64)) (congrArg Value.long (by decide)) ?_
        refine go_lcmp (pc' := 85) cx dX6_not4_84 rfl ?_
        refine go_if_ne (pc' := 88) cx 92 dX6_not4_85 rfl rfl (fun _ => ?_) (fun hh => absurd hh (by rw [wth_10019 mG_1 utc72G_1 tc72G_1]; decide))
        refine go_iconst (pc' := 93) cx 0 dX6_not4_92 rfl rfl ?_
        refine go_istore_n (pc' := 94) cx dX6_not4_93 (ltn rfl) [(2, .int 0), (1, .int w_3), (0, .ref (E.2.1 88))] rfl rfl ?_
        refine go_aload_n (pc' := 95) cx dX6_not4_94 rfl rfl ?_
        have aG_9 := adv_W mG_1.2.2.1 utc72G_1
        refine go_cVVz (pc' := 98) cx (c_nextM l E hC mG_1 utc72G_1 (by rw [tc72G_1]; decide)) mX6_next lX6_206 dX6_not4_95 kq88 (ltn rfl) (ltn rfl) rfl rfl rfl rfl (by omega) (Nat.le_of_ble_eq_true rfl) (Nat.le_of_ble_eq_true rfl) rfl (fun G_9 z_10 mG_9 => ?_)
        refine go_aload_n (pc' := 99) cx dX6_not4_98 rfl rfl ?_
        refine go_cVIz (pc' := 102) cx (hC1 (advS (mT R fr) sz ((F S).1)) G_9 z_10 mG_9) mX6_added4 lX6_270 dX6_not4_99 kq88 (ltn rfl) (ltn rfl) rfl rfl rfl rfl (by omega) (Nat.le_of_ble_eq_true rfl) (Nat.le_of_ble_eq_true rfl) rfl (fun w_13 G_11 z_12 hG_11 => ?_)
        obtain ⟨mG_11, vG_11⟩ := hG_11
        refine go_istore_n (pc' := 103) cx dX6_not4_102 (ltn rfl) [(3, .int w_13), (2, .int 0), (1, .int w_3), (0, .ref (E.2.1 88))] rfl rfl ?_
        refine go_iload_n (pc' := 104) cx dX6_not4_103 rfl rfl ?_
        refine go_if_eq (pc' := 107) cx 115 dX6_not4_104 rfl rfl (fun _ => ?_) (fun hh => absurd hh (by decide))
        refine go_iload_n (pc' := 116) cx dX6_not4_115 rfl rfl ?_
        refine go_iload_n (pc' := 117) cx dX6_not4_116 rfl rfl ?_
        refine go_icmp_ne (pc' := 120) cx 124 dX6_not4_117 rfl rfl (fun c117 => ?_) (fun c117 => ?_)
        · refine go_iconst (pc' := 125) cx 0 dX6_not4_124 rfl rfl ?_
          refine go_iret cx rfl dX6_not4_125 ?_
          have e8 : ntS (advS (mT R fr) sz) F1 F S = cmF (advS (mT R fr) sz) F S := if_neg (zero_of c15)
          have e9 : cmF (advS (mT R fr) sz) F S = ((F ((advS (mT R fr) sz) (F S).1)).1, (F S).2 ++ (F ((advS (mT R fr) sz) (F S).1)).2 ++ [(F S).1.2.2.1]) := by
            unfold cmF
            rw [if_pos (Or.inr tc72G_1)]
          exact ZIz.mk ⟨by rw [e8, e9]; exact mG_11, fun q9 => by rw [e8, e9] at q9 ⊢; exact (by have g9 := GC_bin (c := 10019) (D := D + 1) (vG_1 utc72G_1) (vG_11 q9) (Nat.le_succ D) (Nat.le_refl _) (by decide) (by decide) (by decide); rw [tc72G_1]; have j9 : jnV 10019 w_3 w_13 = _ := jn_eq; rw [j9] at g9; first | (rw [if_pos c117] at g9; exact g9) | (rw [if_neg c117] at g9; exact g9))⟩
        · refine go_iconst (pc' := 121) cx 1 dX6_not4_120 rfl rfl ?_
          refine go_goto cx 125 dX6_not4_121 rfl ?_
          refine go_iret cx rfl dX6_not4_125 ?_
          have e8 : ntS (advS (mT R fr) sz) F1 F S = cmF (advS (mT R fr) sz) F S := if_neg (zero_of c15)
          have e9 : cmF (advS (mT R fr) sz) F S = ((F ((advS (mT R fr) sz) (F S).1)).1, (F S).2 ++ (F ((advS (mT R fr) sz) (F S).1)).2 ++ [(F S).1.2.2.1]) := by
            unfold cmF
            rw [if_pos (Or.inr tc72G_1)]
          exact ZIz.mk ⟨by rw [e8, e9]; exact mG_11, fun q9 => by rw [e8, e9] at q9 ⊢; exact (by have g9 := GC_bin (c := 10019) (D := D + 1) (vG_1 utc72G_1) (vG_11 q9) (Nat.le_succ D) (Nat.le_refl _) (by decide) (by decide) (by decide); rw [tc72G_1]; have j9 : jnV 10019 w_3 w_13 = _ := jn_eq; rw [j9] at g9; first | (rw [if_pos c117] at g9; exact g9) | (rw [if_neg c117] at g9; exact g9))⟩
      · refine go_iload_n (pc' := 76) cx dX6_not4_75 rfl rfl ?_
        refine go_iret cx rfl dX6_not4_76 ?_
        have e8 : ntS (advS (mT R fr) sz) F1 F S = cmF (advS (mT R fr) sz) F S := if_neg (zero_of c15)
        have e9 : cmF (advS (mT R fr) sz) F S = F S := by
          unfold cmF
          rw [if_neg (fun q8 => q8.elim (zero_of c63) (zero_of c72))]
        exact ZIz.mk ⟨by rw [e8, e9]; exact mG_1, fun q9 => by rw [e8, e9] at q9 ⊢; exact (vG_1 q9).mono (Nat.le_succ D)⟩
  · have tc15 : S.2.2.1 = 10011 := one_of c15
    have utc15 := hM.2.2.1.un (by rw [tc15]; decide)
    refine go_aload_n (pc' := 19) cx dX6_not4_18 rfl rfl ?_
    have aG_14 := adv_W (hM).2.2.1 utc15
    refine go_cVIz (pc' := 22) cx (c_X6_opens l E hC hM utc15 (by rw [tc15]; decide) (by omega)) mX6_opens lX6_234 dX6_not4_19 kq88 (ltn rfl) (ltn rfl) rfl rfl rfl rfl (by omega) (Nat.le_of_ble_eq_true rfl) (Nat.le_of_ble_eq_true rfl) rfl (fun w_16 G_14 z_15 hG_14 => ?_)
    obtain ⟨eG_14, mG_14⟩ := hG_14
    subst eG_14
    refine go_if_ne (pc' := 25) cx 27 dX6_not4_22 rfl rfl (fun _ => ?_) (fun hh => absurd hh (by decide))
    refine go_aload_n (pc' := 28) cx dX6_not4_27 rfl rfl ?_
    refine go_cVIz (pc' := 31) cx (hC2 (advS (mT R fr) sz S) G_14 z_15 mG_14) mX6_not5 lX6_255 dX6_not4_28 kq88 (ltn rfl) (ltn rfl) rfl rfl rfl rfl (by omega) (Nat.le_of_ble_eq_true rfl) (Nat.le_of_ble_eq_true rfl) rfl (fun w_19 G_17 z_18 hG_17 => ?_)
    obtain ⟨mG_17, vG_17⟩ := hG_17
    refine go_istore_n (pc' := 32) cx dX6_not4_31 (ltn rfl) [(1, .int w_19), (0, .ref (E.2.1 88))] rfl rfl ?_
    refine go_aload_n (pc' := 33) cx dX6_not4_32 rfl rfl ?_
    refine go_dup (pc' := 34) cx rfl dX6_not4_33 rfl ?_
    refine go_geti (pc' := 37) cx (nI (4 + 1)) fX6_200 dX6_not4_34 kq88 (ltn rfl) (ltn rfl) rfl (mG_17).2.1 rfl ?_
    refine go_iconst (pc' := 38) cx 1 dX6_not4_37 rfl rfl ?_
    refine go_isub (pc' := 39) cx dX6_not4_38 rfl ?_
    refine go_val (w := .int (nI 4)) (congrArg Value.int (nI_pred 4)) ?_
    refine go_puti (pc' := 42) cx fX6_200 dX6_not4_39 kq88 (ltn rfl) (ltn rfl) rfl rfl rfl rfl ?_
    refine go_iload_n (pc' := 43) cx dX6_not4_42 rfl rfl ?_
    refine go_if_ne (pc' := 46) cx 50 dX6_not4_43 rfl rfl (fun c43 => ?_) (fun c43 => ?_)
    · refine go_iconst (pc' := 51) cx 0 dX6_not4_50 rfl rfl ?_
      refine go_iret cx rfl dX6_not4_51 ?_
      have e9 : ntS (advS (mT R fr) sz) F1 F S = ((F1 ((advS (mT R fr) sz) S)).1, (F1 ((advS (mT R fr) sz) S)).2 ++ [10011]) := if_pos tc15
      exact ZIz.mk ⟨by rw [e9]; exact ((mG_17).op 4), fun q9 => by rw [e9] at q9 ⊢; have g9 := (GC_not (vG_17 q9)).mono hD1; first | (rw [if_pos c43] at g9; exact g9) | (rw [if_neg c43] at g9; exact g9)⟩
    · refine go_iconst (pc' := 47) cx 1 dX6_not4_46 rfl rfl ?_
      refine go_goto cx 51 dX6_not4_47 rfl ?_
      refine go_iret cx rfl dX6_not4_51 ?_
      have e9 : ntS (advS (mT R fr) sz) F1 F S = ((F1 ((advS (mT R fr) sz) S)).1, (F1 ((advS (mT R fr) sz) S)).2 ++ [10011]) := if_pos tc15
      exact ZIz.mk ⟨by rw [e9]; exact ((mG_17).op 4), fun q9 => by rw [e9] at q9 ⊢; have g9 := (GC_not (vG_17 q9)).mono hD1; first | (rw [if_pos c43] at g9; exact g9) | (rw [if_neg c43] at g9; exact g9)⟩

set_option maxHeartbeats 1000000 in
set_option maxRecDepth 20000 in
theorem c_X6_not5 (l : Launch) (E : Ev) {g0 : IG} {o : Option Nat} {fr sz : Nat} {R : Nat → Int32} (hC : MCx g0 fr sz R) {F : PF} (hP : Pp (mT R fr) sz F) {D d : Nat} (hd : 5 ≤ d) (hF0 : ∀ S : PS, WF (mT R fr) sz S → S.2.2.1 = 10011 → (F S).1 = refS S) (hC1 : McC l E o g0 fr sz R 5 yX6_added5 cX6_added5 4 d F D)  : McC l E o g0 fr sz R 5 yX6_not5 cX6_not5 4 (d + 1) (cmF (advS (mT R fr) sz) F) (D + 1) := by
  intro S g z hM
  refine Ct.of (lv0 := [(0, .ref (E.2.1 88))]) (by decide) (Nat.le_of_ble_eq_true rfl) rfl ?_
  intro p e s m below meth c cx
  obtain ⟨hfr, hsz, h26, h27, h89, hT0⟩ := id hC
  refine go_aload_n (pc' := 1) cx dX6_not5_0 rfl rfl ?_
  refine go_bipush (pc' := 3) cx 110 dX6_not5_1 rfl rfl ?_
  refine go_bipush (pc' := 5) cx 111 dX6_not5_3 rfl rfl ?_
  refine go_bipush (pc' := 7) cx 116 dX6_not5_5 rfl rfl ?_
  refine go_iconst (pc' := 8) cx 0 dX6_not5_7 rfl rfl ?_
  refine go_iconst (pc' := 9) cx 0 dX6_not5_8 rfl rfl ?_
  refine go_iconst (pc' := 10) cx 0 dX6_not5_9 rfl rfl ?_
  refine go_iconst (pc' := 11) cx 0 dX6_not5_10 rfl rfl ?_
  refine go_iconst (pc' := 12) cx 0 dX6_not5_11 rfl rfl ?_
  refine go_cVi (pc' := 15) cx (c_isWord_11 l E hC hM) mX6_isWord lX6_209 dX6_not5_12 kq88 (ltn rfl) (ltn rfl) rfl rfl rfl rfl (by omega) (Nat.le_of_ble_eq_true rfl) (Nat.le_of_ble_eq_true rfl) rfl ?_
  refine go_if_eq (pc' := 18) cx 25 dX6_not5_15 rfl rfl (fun c15 => ?_) (fun c15 => ?_)
  · refine go_aload_n (pc' := 26) cx dX6_not5_25 rfl rfl ?_
    refine go_cVIz (pc' := 29) cx (hC1 S g z hM) mX6_added5 lX6_250 dX6_not5_26 kq88 (ltn rfl) (ltn rfl) rfl rfl rfl rfl (by omega) (Nat.le_of_ble_eq_true rfl) (Nat.le_of_ble_eq_true rfl) rfl (fun w_3 G_1 z_2 hG_1 => ?_)
    obtain ⟨mG_1, vG_1⟩ := hG_1
    refine go_istore_n (pc' := 30) cx dX6_not5_29 (ltn rfl) [(1, .int w_3), (0, .ref (E.2.1 88))] rfl rfl ?_
    refine go_aload_n (pc' := 31) cx dX6_not5_30 rfl rfl ?_
    refine go_bipush (pc' := 33) cx 60 dX6_not5_31 rfl rfl ?_
    refine go_cVi (pc' := 36) cx (c_isSign_60 l E hC mG_1) mX6_isSign lX6_231 dX6_not5_33 kq88 (ltn rfl) (ltn rfl) rfl rfl rfl rfl (by omega) (Nat.le_of_ble_eq_true rfl) (Nat.le_of_ble_eq_true rfl) rfl ?_
    refine go_if_ne (pc' := 39) cx 50 dX6_not5_36 rfl rfl (fun c36 => ?_) (fun c36 => ?_)
    · have tc36G_1 : ((F S).1).2.2.1 = 10018 := one_of c36
      have utc36G_1 := (mG_1).2.2.1.un (by rw [tc36G_1]; decide)
      refine go_aload_n (pc' := 51) cx dX6_not5_50 rfl rfl ?_
      refine go_getl (N := 56) (pc' := 54) cx fX6_186 dX6_not5_51 (ltn rfl) rfl ?_
      refine go_ldc2 (pc' := 57) cx 60 kX6_253 dX6_not5_54 rfl ?_
      refine go_val (w := .long (((60 : Int32)).toInt64)) (congrArg Value.long (by decide)) ?_
      refine go_lcmp (pc' := 58) cx dX6_not5_57 rfl ?_
      refine go_if_ne (pc' := 61) cx 65 dX6_not5_58 rfl rfl (fun hh => absurd hh (by rw [wth_10018 mG_1 utc36G_1 tc36G_1]; decide)) (fun _ => ?_)
      refine go_iconst (pc' := 62) cx 1 dX6_not5_61 rfl rfl ?_
      refine go_goto cx 66 dX6_not5_62 rfl ?_
      refine go_istore_n (pc' := 67) cx dX6_not5_66 (ltn rfl) [(2, .int 1), (1, .int w_3), (0, .ref (E.2.1 88))] rfl rfl ?_
      refine go_aload_n (pc' := 68) cx dX6_not5_67 rfl rfl ?_
      have aG_4 := adv_W mG_1.2.2.1 utc36G_1
      refine go_cVVz (pc' := 71) cx (c_nextM l E hC mG_1 utc36G_1 (by rw [tc36G_1]; decide)) mX6_next lX6_206 dX6_not5_68 kq88 (ltn rfl) (ltn rfl) rfl rfl rfl rfl (by omega) (Nat.le_of_ble_eq_true rfl) (Nat.le_of_ble_eq_true rfl) rfl (fun G_4 z_5 mG_4 => ?_)
      refine go_aload_n (pc' := 72) cx dX6_not5_71 rfl rfl ?_
      refine go_cVIz (pc' := 75) cx (hC1 (advS (mT R fr) sz ((F S).1)) G_4 z_5 mG_4) mX6_added5 lX6_250 dX6_not5_72 kq88 (ltn rfl) (ltn rfl) rfl rfl rfl rfl (by omega) (Nat.le_of_ble_eq_true rfl) (Nat.le_of_ble_eq_true rfl) rfl (fun w_8 G_6 z_7 hG_6 => ?_)
      obtain ⟨mG_6, vG_6⟩ := hG_6
      refine go_istore_n (pc' := 76) cx dX6_not5_75 (ltn rfl) [(3, .int w_8), (2, .int 1), (1, .int w_3), (0, .ref (E.2.1 88))] rfl rfl ?_
      refine go_iload_n (pc' := 77) cx dX6_not5_76 rfl rfl ?_
      refine go_if_eq (pc' := 80) cx 88 dX6_not5_77 rfl rfl (fun hh => absurd hh (by decide)) (fun _ => ?_)
      refine go_iload_n (pc' := 81) cx dX6_not5_80 rfl rfl ?_
      refine go_iload_n (pc' := 82) cx dX6_not5_81 rfl rfl ?_
      refine go_icmp_ge (pc' := 85) cx 97 dX6_not5_82 rfl rfl (fun c82 => ?_) (fun c82 => ?_)
      · have c82n := Int32.not_lt.mpr c82
        refine go_iconst (pc' := 98) cx 0 dX6_not5_97 rfl rfl ?_
        refine go_iret cx rfl dX6_not5_98 ?_
        have e9 : cmF (advS (mT R fr) sz) F S = ((F ((advS (mT R fr) sz) (F S).1)).1, (F S).2 ++ (F ((advS (mT R fr) sz) (F S).1)).2 ++ [(F S).1.2.2.1]) := by
          unfold cmF
          rw [if_pos (Or.inl tc36G_1)]
        exact ZIz.mk ⟨by rw [e9]; exact mG_6, fun q9 => by rw [e9] at q9 ⊢; exact (by have g9 := GC_bin (c := 10018) (D := D + 1) (vG_1 utc36G_1) (vG_6 q9) (Nat.le_succ D) (Nat.le_refl _) (by decide) (by decide) (by decide); rw [tc36G_1]; have j9 : jnV 10018 w_3 w_8 = _ := jn_lt; rw [j9] at g9; first | (rw [if_neg (Int32.not_lt.mpr c82)] at g9; exact g9) | (rw [if_pos (Int32.not_le.mp c82)] at g9; exact g9))⟩
      · have c82n := Int32.not_le.mp c82
        refine go_goto cx 93 dX6_not5_85 rfl ?_
        refine go_iconst (pc' := 94) cx 1 dX6_not5_93 rfl rfl ?_
        refine go_goto cx 98 dX6_not5_94 rfl ?_
        refine go_iret cx rfl dX6_not5_98 ?_
        have e9 : cmF (advS (mT R fr) sz) F S = ((F ((advS (mT R fr) sz) (F S).1)).1, (F S).2 ++ (F ((advS (mT R fr) sz) (F S).1)).2 ++ [(F S).1.2.2.1]) := by
          unfold cmF
          rw [if_pos (Or.inl tc36G_1)]
        exact ZIz.mk ⟨by rw [e9]; exact mG_6, fun q9 => by rw [e9] at q9 ⊢; exact (by have g9 := GC_bin (c := 10018) (D := D + 1) (vG_1 utc36G_1) (vG_6 q9) (Nat.le_succ D) (Nat.le_refl _) (by decide) (by decide) (by decide); rw [tc36G_1]; have j9 : jnV 10018 w_3 w_8 = _ := jn_lt; rw [j9] at g9; first | (rw [if_neg (Int32.not_lt.mpr c82)] at g9; exact g9) | (rw [if_pos (Int32.not_le.mp c82)] at g9; exact g9))⟩
    · refine go_aload_n (pc' := 40) cx dX6_not5_39 rfl rfl ?_
      refine go_bipush (pc' := 42) cx 61 dX6_not5_40 rfl rfl ?_
      refine go_cVi (pc' := 45) cx (c_isSign_61 l E hC mG_1) mX6_isSign lX6_231 dX6_not5_42 kq88 (ltn rfl) (ltn rfl) rfl rfl rfl rfl (by omega) (Nat.le_of_ble_eq_true rfl) (Nat.le_of_ble_eq_true rfl) rfl ?_
      refine go_if_ne (pc' := 48) cx 50 dX6_not5_45 rfl rfl (fun c45 => ?_) (fun c45 => ?_)
      · have tc45G_1 : ((F S).1).2.2.1 = 10019 := one_of c45
        have utc45G_1 := (mG_1).2.2.1.un (by rw [tc45G_1]; decide)
        refine go_aload_n (pc' := 51) cx dX6_not5_50 rfl rfl ?_
        refine go_getl (N := 56) (pc' := 54) cx fX6_186 dX6_not5_51 (ltn rfl) rfl ?_
        refine go_ldc2 (pc' := 57) cx 60 kX6_253 dX6_not5_54 rfl ?_
        refine go_val (w := .long (((60 : Int32)).toInt64)) (congrArg Value.long (by decide)) ?_
        refine go_lcmp (pc' := 58) cx dX6_not5_57 rfl ?_
        refine go_if_ne (pc' := 61) cx 65 dX6_not5_58 rfl rfl (fun _ => ?_) (fun hh => absurd hh (by rw [wth_10019 mG_1 utc45G_1 tc45G_1]; decide))
        refine go_iconst (pc' := 66) cx 0 dX6_not5_65 rfl rfl ?_
        refine go_istore_n (pc' := 67) cx dX6_not5_66 (ltn rfl) [(2, .int 0), (1, .int w_3), (0, .ref (E.2.1 88))] rfl rfl ?_
        refine go_aload_n (pc' := 68) cx dX6_not5_67 rfl rfl ?_
        have aG_9 := adv_W mG_1.2.2.1 utc45G_1
        refine go_cVVz (pc' := 71) cx (c_nextM l E hC mG_1 utc45G_1 (by rw [tc45G_1]; decide)) mX6_next lX6_206 dX6_not5_68 kq88 (ltn rfl) (ltn rfl) rfl rfl rfl rfl (by omega) (Nat.le_of_ble_eq_true rfl) (Nat.le_of_ble_eq_true rfl) rfl (fun G_9 z_10 mG_9 => ?_)
        refine go_aload_n (pc' := 72) cx dX6_not5_71 rfl rfl ?_
        refine go_cVIz (pc' := 75) cx (hC1 (advS (mT R fr) sz ((F S).1)) G_9 z_10 mG_9) mX6_added5 lX6_250 dX6_not5_72 kq88 (ltn rfl) (ltn rfl) rfl rfl rfl rfl (by omega) (Nat.le_of_ble_eq_true rfl) (Nat.le_of_ble_eq_true rfl) rfl (fun w_13 G_11 z_12 hG_11 => ?_)
        obtain ⟨mG_11, vG_11⟩ := hG_11
        refine go_istore_n (pc' := 76) cx dX6_not5_75 (ltn rfl) [(3, .int w_13), (2, .int 0), (1, .int w_3), (0, .ref (E.2.1 88))] rfl rfl ?_
        refine go_iload_n (pc' := 77) cx dX6_not5_76 rfl rfl ?_
        refine go_if_eq (pc' := 80) cx 88 dX6_not5_77 rfl rfl (fun _ => ?_) (fun hh => absurd hh (by decide))
        refine go_iload_n (pc' := 89) cx dX6_not5_88 rfl rfl ?_
        refine go_iload_n (pc' := 90) cx dX6_not5_89 rfl rfl ?_
        refine go_icmp_ne (pc' := 93) cx 97 dX6_not5_90 rfl rfl (fun c90 => ?_) (fun c90 => ?_)
        · refine go_iconst (pc' := 98) cx 0 dX6_not5_97 rfl rfl ?_
          refine go_iret cx rfl dX6_not5_98 ?_
          have e9 : cmF (advS (mT R fr) sz) F S = ((F ((advS (mT R fr) sz) (F S).1)).1, (F S).2 ++ (F ((advS (mT R fr) sz) (F S).1)).2 ++ [(F S).1.2.2.1]) := by
            unfold cmF
            rw [if_pos (Or.inr tc45G_1)]
          exact ZIz.mk ⟨by rw [e9]; exact mG_11, fun q9 => by rw [e9] at q9 ⊢; exact (by have g9 := GC_bin (c := 10019) (D := D + 1) (vG_1 utc45G_1) (vG_11 q9) (Nat.le_succ D) (Nat.le_refl _) (by decide) (by decide) (by decide); rw [tc45G_1]; have j9 : jnV 10019 w_3 w_13 = _ := jn_eq; rw [j9] at g9; first | (rw [if_pos c90] at g9; exact g9) | (rw [if_neg c90] at g9; exact g9))⟩
        · refine go_iconst (pc' := 94) cx 1 dX6_not5_93 rfl rfl ?_
          refine go_goto cx 98 dX6_not5_94 rfl ?_
          refine go_iret cx rfl dX6_not5_98 ?_
          have e9 : cmF (advS (mT R fr) sz) F S = ((F ((advS (mT R fr) sz) (F S).1)).1, (F S).2 ++ (F ((advS (mT R fr) sz) (F S).1)).2 ++ [(F S).1.2.2.1]) := by
            unfold cmF
            rw [if_pos (Or.inr tc45G_1)]
          exact ZIz.mk ⟨by rw [e9]; exact mG_11, fun q9 => by rw [e9] at q9 ⊢; exact (by have g9 := GC_bin (c := 10019) (D := D + 1) (vG_1 utc45G_1) (vG_11 q9) (Nat.le_succ D) (Nat.le_refl _) (by decide) (by decide) (by decide); rw [tc45G_1]; have j9 : jnV 10019 w_3 w_13 = _ := jn_eq; rw [j9] at g9; first | (rw [if_pos c90] at g9; exact g9) | (rw [if_neg c90] at g9; exact g9))⟩
      · refine go_iload_n (pc' := 49) cx dX6_not5_48 rfl rfl ?_
        refine go_iret cx rfl dX6_not5_49 ?_
        have e9 : cmF (advS (mT R fr) sz) F S = F S := by
          unfold cmF
          rw [if_neg (fun q8 => q8.elim (zero_of c36) (zero_of c45))]
        exact ZIz.mk ⟨by rw [e9]; exact mG_1, fun q9 => by rw [e9] at q9 ⊢; exact (vG_1 q9).mono (Nat.le_succ D)⟩
  · have tc15 : S.2.2.1 = 10011 := one_of c15
    have utc15 := hM.2.2.1.un (by rw [tc15]; decide)
    refine go_aload_n (pc' := 19) cx dX6_not5_18 rfl rfl ?_
    refine go_cVI (pc' := 22) cx (c_X6_opens5 l E hC hM rfl) mX6_opens lX6_234 dX6_not5_19 kq88 (ltn rfl) (ltn rfl) rfl rfl rfl rfl (by omega) (Nat.le_of_ble_eq_true rfl) (Nat.le_of_ble_eq_true rfl) rfl (fun w_16 G_14 hG_14 => ?_)
    obtain ⟨eG_14, mG_14⟩ := hG_14
    subst eG_14
    refine go_pop (pc' := 23) cx rfl dX6_not5_22 rfl ?_
    refine go_iconst (pc' := 24) cx 0 dX6_not5_23 rfl rfl ?_
    refine go_iret cx rfl dX6_not5_24 ?_
    have e9 : cmF (advS (mT R fr) sz) F S = F S := by
      unfold cmF
      rw [if_neg (by rw [hF0 S hM.2.2.1 tc15]; show ¬ ((10022 : Int32) = 10018 ∨ (10022 : Int32) = 10019); decide)]
    have e7 := hF0 S hM.2.2.1 tc15
    exact ZIz.mk ⟨by rw [e9, e7]; exact mG_14, fun q9 => absurd (by rw [e9, e7] at q9; exact q9) (ref_W hsz hM.2.2.1).2.2.1⟩

theorem on0_11 {T : Nat → Int32} {sz : Nat} (hz : sz ≤ 160) {S : PS} (hS : WF T sz S) (h : S.2.2.1 = 10011) : (smF (advS T sz) (on0 (advS T sz)) S).1 = refS S := by
  have e : on0 (advS T sz) S = (refS S, []) := if_neg (by rw [h]; decide)
  have q := ref_W hz hS
  have q1 := lvF_P (T := T) (sz := sz) (P := pTe) rfl (on0_P hz)
  have l1 : (lvF (advS T sz) pTe (on0 (advS T sz)) S).1 = refS S := by
    unfold lvF
    rw [e]
    exact (lpF_P (P := pTe) rfl (on0_P hz) 160 _ q.1).2.2 q.2.2.1
  show (lvF (advS T sz) pSu (lvF (advS T sz) pTe (on0 (advS T sz))) S).1 = refS S
  unfold lvF at l1 ⊢
  rw [l1]
  exact (lpF_P (P := pSu) rfl q1 160 _ q.1).2.2 q.2.2.1

theorem McL_5 (l : Launch) (E : Ev) {g0 : IG} {o : Option Nat} {fr sz : Nat} {R : Nat → Int32} (hC : MCx g0 fr sz R) : McC l E o g0 fr sz R 5 yX6_either5 cX6_either5 3 11 (lvl (advS (mT R fr) sz) 0).1 6 ∧ McC l E o g0 fr sz R 5 yX6_atom5 cX6_atom5 2 6 (lvl (advS (mT R fr) sz) 0).2.1 1 ∧ McC l E o g0 fr sz R 5 yX6_not5 cX6_not5 4 9 (lvl (advS (mT R fr) sz) 0).2.2 4 := by
  have hz := hC.2.1
  have p1 : Pp (mT R fr) sz (on0 (advS (mT R fr) sz)) := on0_P hz
  have h1 : McC l E o g0 fr sz R 5 yX6_atom5 cX6_atom5 2 6 (on0 (advS (mT R fr) sz)) 1 := c_X6_atom5 l E hC (Nat.le_refl 1) (by omega)
  have p2 := lvF_P (T := mT R fr) (sz := sz) (P := pTe) rfl p1
  have h2 := c_X6_term5 l E hC (d := 6) p1 (by omega) h1
  have p3 := lvF_P (T := mT R fr) (sz := sz) (P := pSu) rfl p2
  have h3 := c_X6_added5 l E hC (d := 7) p2 (by omega) h2
  have h4 : McC l E o g0 fr sz R 5 yX6_not5 cX6_not5 4 9 (cmF (advS (mT R fr) sz) (smF (advS (mT R fr) sz) (on0 (advS (mT R fr) sz)))) 4 := c_X6_not5 l E hC (d := 8) p3 (by omega) (fun S hS h => on0_11 hz hS h) h3
  have p4 : Pp (mT R fr) sz (cmF (advS (mT R fr) sz) (smF (advS (mT R fr) sz) (on0 (advS (mT R fr) sz)))) := cmF_P p3
  have h5 := c_X6_both5 l E hC (d := 9) p4 (by omega) h4
  have p5 := lvF_P (T := mT R fr) (sz := sz) (P := pAn) rfl p4
  have h6 := c_X6_either5 l E hC (d := 10) p5 (by omega) h5
  exact ⟨h6, h1, h4⟩

theorem McL_4 (l : Launch) (E : Ev) {g0 : IG} {o : Option Nat} {fr sz : Nat} {R : Nat → Int32} (hC : MCx g0 fr sz R) : McC l E o g0 fr sz R 4 yX6_either4 cX6_either4 3 17 (lvl (advS (mT R fr) sz) 1).1 11 ∧ McC l E o g0 fr sz R 4 yX6_atom4 cX6_atom4 2 12 (lvl (advS (mT R fr) sz) 1).2.1 6 ∧ McC l E o g0 fr sz R 4 yX6_not4 cX6_not4 4 15 (lvl (advS (mT R fr) sz) 1).2.2 9 := by
  have hz := hC.2.1
  obtain ⟨i1, i2, i3⟩ := McL_5 l E (o := o) hC
  obtain ⟨b1, b2, b3⟩ := lvl_P (T := mT R fr) hz 0
  have p1 : Pp (mT R fr) sz (onS (advS (mT R fr) sz) (lvl (advS (mT R fr) sz) 0).2.1 (lvl (advS (mT R fr) sz) 0).1) := onS_P hz b2 b1
  have h1 : McC l E o g0 fr sz R 4 yX6_atom4 cX6_atom4 2 12 (onS (advS (mT R fr) sz) (lvl (advS (mT R fr) sz) 0).2.1 (lvl (advS (mT R fr) sz) 0).1) 6 := c_X6_atom4 l E hC (d := 11) b2 b1 (by omega) (by omega) (by omega) (by omega) (by omega) (by omega) i2 i1
  have p2 := lvF_P (T := mT R fr) (sz := sz) (P := pTe) rfl p1
  have h2 := c_X6_term4 l E hC (d := 12) p1 (by omega) h1
  have p3 := lvF_P (T := mT R fr) (sz := sz) (P := pSu) rfl p2
  have h3 := c_X6_added4 l E hC (d := 13) p2 (by omega) h2
  have h4 : McC l E o g0 fr sz R 4 yX6_not4 cX6_not4 4 15 (ntS (advS (mT R fr) sz) (lvl (advS (mT R fr) sz) 0).2.2 (smF (advS (mT R fr) sz) (onS (advS (mT R fr) sz) (lvl (advS (mT R fr) sz) 0).2.1 (lvl (advS (mT R fr) sz) 0).1))) 9 := c_X6_not4 l E hC (d := 14) p3 b3 (by omega) (by omega) (by omega) h3 i3
  have p4 : Pp (mT R fr) sz (ntS (advS (mT R fr) sz) (lvl (advS (mT R fr) sz) 0).2.2 (smF (advS (mT R fr) sz) (onS (advS (mT R fr) sz) (lvl (advS (mT R fr) sz) 0).2.1 (lvl (advS (mT R fr) sz) 0).1))) := ntS_P b3 p3
  have h5 := c_X6_both4 l E hC (d := 15) p4 (by omega) h4
  have p5 := lvF_P (T := mT R fr) (sz := sz) (P := pAn) rfl p4
  have h6 := c_X6_either4 l E hC (d := 16) p5 (by omega) h5
  exact ⟨h6, h1, h4⟩

theorem McL_3 (l : Launch) (E : Ev) {g0 : IG} {o : Option Nat} {fr sz : Nat} {R : Nat → Int32} (hC : MCx g0 fr sz R) : McC l E o g0 fr sz R 3 yX6_either3 cX6_either3 3 23 (lvl (advS (mT R fr) sz) 2).1 16 ∧ McC l E o g0 fr sz R 3 yX6_atom3 cX6_atom3 2 18 (lvl (advS (mT R fr) sz) 2).2.1 11 ∧ McC l E o g0 fr sz R 3 yX6_not3 cX6_not3 4 21 (lvl (advS (mT R fr) sz) 2).2.2 14 := by
  have hz := hC.2.1
  obtain ⟨i1, i2, i3⟩ := McL_4 l E (o := o) hC
  obtain ⟨b1, b2, b3⟩ := lvl_P (T := mT R fr) hz 1
  have p1 : Pp (mT R fr) sz (onS (advS (mT R fr) sz) (lvl (advS (mT R fr) sz) 1).2.1 (lvl (advS (mT R fr) sz) 1).1) := onS_P hz b2 b1
  have h1 : McC l E o g0 fr sz R 3 yX6_atom3 cX6_atom3 2 18 (onS (advS (mT R fr) sz) (lvl (advS (mT R fr) sz) 1).2.1 (lvl (advS (mT R fr) sz) 1).1) 11 := c_X6_atom3 l E hC (d := 17) b2 b1 (by omega) (by omega) (by omega) (by omega) (by omega) (by omega) i2 i1
  have p2 := lvF_P (T := mT R fr) (sz := sz) (P := pTe) rfl p1
  have h2 := c_X6_term3 l E hC (d := 18) p1 (by omega) h1
  have p3 := lvF_P (T := mT R fr) (sz := sz) (P := pSu) rfl p2
  have h3 := c_X6_added3 l E hC (d := 19) p2 (by omega) h2
  have h4 : McC l E o g0 fr sz R 3 yX6_not3 cX6_not3 4 21 (ntS (advS (mT R fr) sz) (lvl (advS (mT R fr) sz) 1).2.2 (smF (advS (mT R fr) sz) (onS (advS (mT R fr) sz) (lvl (advS (mT R fr) sz) 1).2.1 (lvl (advS (mT R fr) sz) 1).1))) 14 := c_X6_not3 l E hC (d := 20) p3 b3 (by omega) (by omega) (by omega) h3 i3
  have p4 : Pp (mT R fr) sz (ntS (advS (mT R fr) sz) (lvl (advS (mT R fr) sz) 1).2.2 (smF (advS (mT R fr) sz) (onS (advS (mT R fr) sz) (lvl (advS (mT R fr) sz) 1).2.1 (lvl (advS (mT R fr) sz) 1).1))) := ntS_P b3 p3
  have h5 := c_X6_both3 l E hC (d := 21) p4 (by omega) h4
  have p5 := lvF_P (T := mT R fr) (sz := sz) (P := pAn) rfl p4
  have h6 := c_X6_either3 l E hC (d := 22) p5 (by omega) h5
  exact ⟨h6, h1, h4⟩

theorem McL_2 (l : Launch) (E : Ev) {g0 : IG} {o : Option Nat} {fr sz : Nat} {R : Nat → Int32} (hC : MCx g0 fr sz R) : McC l E o g0 fr sz R 2 yX6_either2 cX6_either2 3 29 (lvl (advS (mT R fr) sz) 3).1 21 ∧ McC l E o g0 fr sz R 2 yX6_atom2 cX6_atom2 2 24 (lvl (advS (mT R fr) sz) 3).2.1 16 ∧ McC l E o g0 fr sz R 2 yX6_not2 cX6_not2 4 27 (lvl (advS (mT R fr) sz) 3).2.2 19 := by
  have hz := hC.2.1
  obtain ⟨i1, i2, i3⟩ := McL_3 l E (o := o) hC
  obtain ⟨b1, b2, b3⟩ := lvl_P (T := mT R fr) hz 2
  have p1 : Pp (mT R fr) sz (onS (advS (mT R fr) sz) (lvl (advS (mT R fr) sz) 2).2.1 (lvl (advS (mT R fr) sz) 2).1) := onS_P hz b2 b1
  have h1 : McC l E o g0 fr sz R 2 yX6_atom2 cX6_atom2 2 24 (onS (advS (mT R fr) sz) (lvl (advS (mT R fr) sz) 2).2.1 (lvl (advS (mT R fr) sz) 2).1) 16 := c_X6_atom2 l E hC (d := 23) b2 b1 (by omega) (by omega) (by omega) (by omega) (by omega) (by omega) i2 i1
  have p2 := lvF_P (T := mT R fr) (sz := sz) (P := pTe) rfl p1
  have h2 := c_X6_term2 l E hC (d := 24) p1 (by omega) h1
  have p3 := lvF_P (T := mT R fr) (sz := sz) (P := pSu) rfl p2
  have h3 := c_X6_added2 l E hC (d := 25) p2 (by omega) h2
  have h4 : McC l E o g0 fr sz R 2 yX6_not2 cX6_not2 4 27 (ntS (advS (mT R fr) sz) (lvl (advS (mT R fr) sz) 2).2.2 (smF (advS (mT R fr) sz) (onS (advS (mT R fr) sz) (lvl (advS (mT R fr) sz) 2).2.1 (lvl (advS (mT R fr) sz) 2).1))) 19 := c_X6_not2 l E hC (d := 26) p3 b3 (by omega) (by omega) (by omega) h3 i3
  have p4 : Pp (mT R fr) sz (ntS (advS (mT R fr) sz) (lvl (advS (mT R fr) sz) 2).2.2 (smF (advS (mT R fr) sz) (onS (advS (mT R fr) sz) (lvl (advS (mT R fr) sz) 2).2.1 (lvl (advS (mT R fr) sz) 2).1))) := ntS_P b3 p3
  have h5 := c_X6_both2 l E hC (d := 27) p4 (by omega) h4
  have p5 := lvF_P (T := mT R fr) (sz := sz) (P := pAn) rfl p4
  have h6 := c_X6_either2 l E hC (d := 28) p5 (by omega) h5
  exact ⟨h6, h1, h4⟩

theorem McL_1 (l : Launch) (E : Ev) {g0 : IG} {o : Option Nat} {fr sz : Nat} {R : Nat → Int32} (hC : MCx g0 fr sz R) : McC l E o g0 fr sz R 1 yX6_either1 cX6_either1 3 35 (lvl (advS (mT R fr) sz) 4).1 26 ∧ McC l E o g0 fr sz R 1 yX6_atom1 cX6_atom1 2 30 (lvl (advS (mT R fr) sz) 4).2.1 21 ∧ McC l E o g0 fr sz R 1 yX6_not1 cX6_not1 4 33 (lvl (advS (mT R fr) sz) 4).2.2 24 := by
  have hz := hC.2.1
  obtain ⟨i1, i2, i3⟩ := McL_2 l E (o := o) hC
  obtain ⟨b1, b2, b3⟩ := lvl_P (T := mT R fr) hz 3
  have p1 : Pp (mT R fr) sz (onS (advS (mT R fr) sz) (lvl (advS (mT R fr) sz) 3).2.1 (lvl (advS (mT R fr) sz) 3).1) := onS_P hz b2 b1
  have h1 : McC l E o g0 fr sz R 1 yX6_atom1 cX6_atom1 2 30 (onS (advS (mT R fr) sz) (lvl (advS (mT R fr) sz) 3).2.1 (lvl (advS (mT R fr) sz) 3).1) 21 := c_X6_atom1 l E hC (d := 29) b2 b1 (by omega) (by omega) (by omega) (by omega) (by omega) (by omega) i2 i1
  have p2 := lvF_P (T := mT R fr) (sz := sz) (P := pTe) rfl p1
  have h2 := c_X6_term1 l E hC (d := 30) p1 (by omega) h1
  have p3 := lvF_P (T := mT R fr) (sz := sz) (P := pSu) rfl p2
  have h3 := c_X6_added1 l E hC (d := 31) p2 (by omega) h2
  have h4 : McC l E o g0 fr sz R 1 yX6_not1 cX6_not1 4 33 (ntS (advS (mT R fr) sz) (lvl (advS (mT R fr) sz) 3).2.2 (smF (advS (mT R fr) sz) (onS (advS (mT R fr) sz) (lvl (advS (mT R fr) sz) 3).2.1 (lvl (advS (mT R fr) sz) 3).1))) 24 := c_X6_not1 l E hC (d := 32) p3 b3 (by omega) (by omega) (by omega) h3 i3
  have p4 : Pp (mT R fr) sz (ntS (advS (mT R fr) sz) (lvl (advS (mT R fr) sz) 3).2.2 (smF (advS (mT R fr) sz) (onS (advS (mT R fr) sz) (lvl (advS (mT R fr) sz) 3).2.1 (lvl (advS (mT R fr) sz) 3).1))) := ntS_P b3 p3
  have h5 := c_X6_both1 l E hC (d := 33) p4 (by omega) h4
  have p5 := lvF_P (T := mT R fr) (sz := sz) (P := pAn) rfl p4
  have h6 := c_X6_either1 l E hC (d := 34) p5 (by omega) h5
  exact ⟨h6, h1, h4⟩

theorem McL_0 (l : Launch) (E : Ev) {g0 : IG} {o : Option Nat} {fr sz : Nat} {R : Nat → Int32} (hC : MCx g0 fr sz R) : McC l E o g0 fr sz R 0 yX6_either0 cX6_either0 3 41 (lvl (advS (mT R fr) sz) 5).1 31 ∧ McC l E o g0 fr sz R 0 yX6_atom0 cX6_atom0 2 36 (lvl (advS (mT R fr) sz) 5).2.1 26 ∧ McC l E o g0 fr sz R 0 yX6_not0 cX6_not0 4 39 (lvl (advS (mT R fr) sz) 5).2.2 29 := by
  have hz := hC.2.1
  obtain ⟨i1, i2, i3⟩ := McL_1 l E (o := o) hC
  obtain ⟨b1, b2, b3⟩ := lvl_P (T := mT R fr) hz 4
  have p1 : Pp (mT R fr) sz (onS (advS (mT R fr) sz) (lvl (advS (mT R fr) sz) 4).2.1 (lvl (advS (mT R fr) sz) 4).1) := onS_P hz b2 b1
  have h1 : McC l E o g0 fr sz R 0 yX6_atom0 cX6_atom0 2 36 (onS (advS (mT R fr) sz) (lvl (advS (mT R fr) sz) 4).2.1 (lvl (advS (mT R fr) sz) 4).1) 26 := c_X6_atom0 l E hC (d := 35) b2 b1 (by omega) (by omega) (by omega) (by omega) (by omega) (by omega) i2 i1
  have p2 := lvF_P (T := mT R fr) (sz := sz) (P := pTe) rfl p1
  have h2 := c_X6_term0 l E hC (d := 36) p1 (by omega) h1
  have p3 := lvF_P (T := mT R fr) (sz := sz) (P := pSu) rfl p2
  have h3 := c_X6_added0 l E hC (d := 37) p2 (by omega) h2
  have h4 : McC l E o g0 fr sz R 0 yX6_not0 cX6_not0 4 39 (ntS (advS (mT R fr) sz) (lvl (advS (mT R fr) sz) 4).2.2 (smF (advS (mT R fr) sz) (onS (advS (mT R fr) sz) (lvl (advS (mT R fr) sz) 4).2.1 (lvl (advS (mT R fr) sz) 4).1))) 29 := c_X6_not0 l E hC (d := 38) p3 b3 (by omega) (by omega) (by omega) h3 i3
  have p4 : Pp (mT R fr) sz (ntS (advS (mT R fr) sz) (lvl (advS (mT R fr) sz) 4).2.2 (smF (advS (mT R fr) sz) (onS (advS (mT R fr) sz) (lvl (advS (mT R fr) sz) 4).2.1 (lvl (advS (mT R fr) sz) 4).1))) := ntS_P b3 p3
  have h5 := c_X6_both0 l E hC (d := 39) p4 (by omega) h4
  have p5 := lvF_P (T := mT R fr) (sz := sz) (P := pAn) rfl p4
  have h6 := c_X6_either0 l E hC (d := 40) p5 (by omega) h5
  exact ⟨h6, h1, h4⟩
