/-! THE REFERENCE: what it is asked of a course -/
theorem inX_ng {lo hi x : Int32} (h : ¬ inX lo hi x = 0) : ¬ x < lo ∧ ¬ hi < x := by
  unfold inX at h
  by_cases h0 : x < lo
  · rw [if_pos h0] at h
    exact absurd rfl h
  · rw [if_neg h0] at h
    by_cases h1 : hi < x
    · rw [if_pos h1] at h
      exact absurd rfl h
    · exact ⟨h0, h1⟩
theorem inX_ps {lo hi x : Int32} (h : inX lo hi x = 0) : x < lo ∨ (¬ x < lo ∧ hi < x) := by
  unfold inX at h
  by_cases h0 : x < lo
  · exact Or.inl h0
  · rw [if_neg h0] at h
    by_cases h1 : hi < x
    · exact Or.inr ⟨h0, h1⟩
    · rw [if_neg h1] at h
      exact absurd h (by decide)
theorem nm1 {n : Nat} (h : 0 < n) : nI n - 1 = nI (n - 1) := pk_sub (a := n) (b := 1) h
theorem lt4_n {x : Int32} (h : ¬ x < 0) (h4 : ¬ (4 : Int32) ≤ x) : ∃ p, p < 4 ∧ x = nI p := by
  rcases pk_ix x (n := 4) (by decide) with q | q | q
  · exact absurd q h
  · exact absurd (show (4 : Int32) ≤ x from q) h4
  · exact q
theorem CWm.at {M : TM} {a : Sv} {G : IG} {n v p : Nat} (h : CWm M a G n) (hv : v < n) (hp : p < 4) : G 104 (4 * v + p) = (crs M a (v + 1)).1 p := (h v hv).1 p hp
theorem CWm.last {M : TM} {a : Sv} {G : IG} {n p : Nat} (h : CWm M a G n) (hn : 0 < n) (hp : p < 4) : G 104 (4 * (n - 1) + p) = (crs M a n).1 p := by
  have := h.at (v := n - 1) (p := p) (by omega) hp
  rw [show n - 1 + 1 = n by omega] at this
  exact this
theorem CWm.off {M : TM} {a : Sv} {G : IG} {n : Nat} (h : CWm M a G n) (hn : 0 < n) : G 105 (n - 1) = ofA M a (crs M a n).1 (crs M a n).2 := by
  have := (h (n - 1) (by omega)).2
  unfold OFs at this
  rw [show n - 1 + 1 = n by omega] at this
  exact this

set_option maxHeartbeats 1000000 in
set_option maxRecDepth 20000 in
theorem c_X6_course (l : Launch) (E : Ev) {g : IG} {o : Option Nat} {z : Int64} {hn vn ru tc : Nat} {CS : CSt} (hX : XM g hn vn ru tc CS) (x1 x2 : Int32) : Ct l E 115 yX6_course cX6_course 3 (some .int) 49 [.ref (E.2.1 88), .int x1, .int x2] g (RFo o) z (ZIz (RFo o) (fun x g1 z1 => x = courseF (TMx CS ru) (svM g) vn x1 x2 ∧ FrK g g1 ∧ SdI g1 tc CS)) := by
  refine Ct.of (lv0 := [(0, .ref (E.2.1 88)), (1, .int x1), (2, .int x2)]) (by decide) (Nat.le_of_ble_eq_true rfl) rfl ?_
  intro p e s m below meth c cx
  have hb := hX.1
  have hS0 := hX.2.2.2.2.2.2.2.2.2.2
  refine go_aload_n (pc' := 1) cx dX6_course_0 rfl rfl ?_
  refine go_iload_n (pc' := 2) cx dX6_course_1 rfl rfl ?_
  refine go_cVi (pc' := 5) cx (c_X6_isVisit l E (g := g) (vn := vn) hX.2.2.1 (by have := hX.1.2; omega) x1) mX6_isVisit lX6_125 dX6_course_2 kq88 (ltn rfl) (ltn rfl) rfl rfl rfl rfl (ltn rfl) (Nat.le_of_ble_eq_true rfl) (Nat.le_of_ble_eq_true rfl) rfl ?_
  refine go_if_eq (pc' := 8) cx 15 dX6_course_5 rfl rfl (fun c5 => ?_) (fun c5 => ?_)
  · refine go_bipush (pc' := 17) cx (-2) dX6_course_15 rfl rfl ?_
    refine go_iret cx rfl dX6_course_17 ?_
    exact ZIz.mk ⟨by simp only [courseF, c5, if_true, if_false], FrK.rf, hS0⟩
  · refine go_iload_n (pc' := 9) cx dX6_course_8 rfl rfl ?_
    refine go_cSi (pc' := 12) cx (c_X6_isPlace l E (g := g) x2) mX6_isPlace lX6_118 dX6_course_9 rfl rfl rfl (ltn rfl) (Nat.le_of_ble_eq_true rfl) (Nat.le_of_ble_eq_true rfl) rfl ?_
    refine go_if_ne (pc' := 15) cx 18 dX6_course_12 rfl rfl (fun c12 => ?_) (fun c12 => ?_)
    · obtain ⟨v, hv, ev⟩ := in_ok (k := vn) (by omega) c5
      subst ev
      have clv := clI_n (k := v) (by omega)
      obtain ⟨pl, hpl, epl⟩ := in_ok (k := 4) (by omega) c12
      subst epl
      have clpl := clI_n (k := pl) (by omega)
      refine go_aload_n (pc' := 19) cx dX6_course_18 rfl rfl ?_
      refine go_cVIz (pc' := 22) cx (c_X6_courses l E (g := g) hX) mX6_courses lX6_421 dX6_course_19 kq88 (ltn rfl) (ltn rfl) rfl rfl rfl rfl (ltn rfl) (Nat.le_of_ble_eq_true rfl) (Nat.le_of_ble_eq_true rfl) rfl (fun xc GC zc hc => ?_)
      obtain ⟨ec, fc, cw, y39, sc⟩ := hc
      refine go_pop (pc' := 23) cx rfl dX6_course_22 rfl ?_
      refine go_aload_n (pc' := 24) cx dX6_course_23 rfl rfl ?_
      refine go_getr (pc' := 27) cx 104 fX6_62 dX6_course_24 kq88 (ltn rfl) (ltn rfl) rfl rfl rfl ?_
      refine go_iconst (pc' := 28) cx 4 dX6_course_27 rfl rfl ?_
      refine go_iload_n (pc' := 29) cx dX6_course_28 rfl rfl ?_
      refine go_imul (pc' := 30) cx dX6_course_29 rfl ?_
      refine go_val (w := .int (nI (4 * v))) (congrArg Value.int (pk_mul 4 v)) ?_
      refine go_iload_n (pc' := 31) cx dX6_course_30 rfl rfl ?_
      refine go_iadd (pc' := 32) cx dX6_course_31 rfl ?_
      refine go_val (w := .int (nI ((4 * v) + pl))) (congrArg Value.int (nI_add (4 * v) pl)) ?_
      refine go_iald (pc' := 33) cx (GC 104 ((4 * v) + pl)) dX6_course_32 kq104 (ltn rfl) (vpi (k := ((4 * v) + pl)) (a := 32) (by omega) rfl rfl) (congrArg (GC 104) (cli (k := ((4 * v) + pl)) (a := 32) (by omega) rfl)) rfl ?_
      refine go_iret cx rfl dX6_course_33 ?_
      exact ZIz.mk ⟨by simp only [courseF, c5, c12, if_false, clv, clpl]; exact cw.at hv hpl, fc, sc⟩
    · refine go_bipush (pc' := 17) cx (-2) dX6_course_15 rfl rfl ?_
      refine go_iret cx rfl dX6_course_17 ?_
      exact ZIz.mk ⟨by simp only [courseF, c5, c12, if_true, if_false], FrK.rf, hS0⟩

set_option maxHeartbeats 1000000 in
set_option maxRecDepth 20000 in
theorem c_X6_drift (l : Launch) (E : Ev) {g : IG} {o : Option Nat} {z : Int64} {hn vn ru tc : Nat} {CS : CSt} (hX : XM g hn vn ru tc CS) (x1 : Int32) : Ct l E 115 yX6_drift cX6_drift 2 (some .int) 49 [.ref (E.2.1 88), .int x1] g (RFo o) z (ZIz (RFo o) (fun x g1 z1 => x = driftF (TMx CS ru) (svM g) vn x1 ∧ FrK g g1 ∧ SdI g1 tc CS)) := by
  refine Ct.of (lv0 := [(0, .ref (E.2.1 88)), (1, .int x1)]) (by decide) (Nat.le_of_ble_eq_true rfl) rfl ?_
  intro p e s m below meth c cx
  have hb := hX.1
  have hS0 := hX.2.2.2.2.2.2.2.2.2.2
  refine go_iload_n (pc' := 1) cx dX6_drift_0 rfl rfl ?_
  refine go_cSi (pc' := 4) cx (c_X6_isPlace l E (g := g) x1) mX6_isPlace lX6_118 dX6_drift_1 rfl rfl rfl (ltn rfl) (Nat.le_of_ble_eq_true rfl) (Nat.le_of_ble_eq_true rfl) rfl ?_
  refine go_if_ne (pc' := 7) cx 11 dX6_drift_4 rfl rfl (fun c4 => ?_) (fun c4 => ?_)
  · obtain ⟨pl, hpl, epl⟩ := in_ok (k := 4) (by omega) c4
    subst epl
    have clpl := clI_n (k := pl) (by omega)
    refine go_aload_n (pc' := 12) cx dX6_drift_11 rfl rfl ?_
    refine go_cVIz (pc' := 15) cx (c_X6_courses l E (g := g) hX) mX6_courses lX6_421 dX6_drift_12 kq88 (ltn rfl) (ltn rfl) rfl rfl rfl rfl (ltn rfl) (Nat.le_of_ble_eq_true rfl) (Nat.le_of_ble_eq_true rfl) rfl (fun xc GC zc hc => ?_)
    obtain ⟨ec, fc, cw, y39, sc⟩ := hc
    refine go_pop (pc' := 16) cx rfl dX6_drift_15 rfl ?_
    refine go_aload_n (pc' := 17) cx dX6_drift_16 rfl rfl ?_
    refine go_geti (pc' := 20) cx (nI vn) fX6_115 dX6_drift_17 kq88 (ltn rfl) (ltn rfl) rfl ((fc 88 19 (by omega)).trans hX.2.2.1) rfl ?_
    refine go_if_ne (pc' := 23) cx 32 dX6_drift_20 rfl rfl (fun c20 => ?_) (fun c20 => ?_)
    · have hv0 : 0 < vn := by
        rcases Nat.eq_zero_or_pos vn with q | q
        · exact absurd (by rw [q]; rfl) c20
        · exact q
      refine go_aload_n (pc' := 33) cx dX6_drift_32 rfl rfl ?_
      refine go_getr (pc' := 36) cx 104 fX6_62 dX6_drift_33 kq88 (ltn rfl) (ltn rfl) rfl rfl rfl ?_
      refine go_iconst (pc' := 37) cx 4 dX6_drift_36 rfl rfl ?_
      refine go_aload_n (pc' := 38) cx dX6_drift_37 rfl rfl ?_
      refine go_geti (pc' := 41) cx (nI vn) fX6_115 dX6_drift_38 kq88 (ltn rfl) (ltn rfl) rfl ((fc 88 19 (by omega)).trans hX.2.2.1) rfl ?_
      refine go_iconst (pc' := 42) cx 1 dX6_drift_41 rfl rfl ?_
      refine go_isub (pc' := 43) cx dX6_drift_42 rfl ?_
      refine go_val (w := .int (nI (vn - 1))) (congrArg Value.int (pk_sub (a := vn) (b := 1) (by omega))) ?_
      refine go_imul (pc' := 44) cx dX6_drift_43 rfl ?_
      refine go_val (w := .int (nI (4 * (vn - 1)))) (congrArg Value.int (pk_mul 4 (vn - 1))) ?_
      refine go_iload_n (pc' := 45) cx dX6_drift_44 rfl rfl ?_
      refine go_iadd (pc' := 46) cx dX6_drift_45 rfl ?_
      refine go_val (w := .int (nI ((4 * (vn - 1)) + pl))) (congrArg Value.int (nI_add (4 * (vn - 1)) pl)) ?_
      refine go_iald (pc' := 47) cx (GC 104 ((4 * (vn - 1)) + pl)) dX6_drift_46 kq104 (ltn rfl) (vpi (k := ((4 * (vn - 1)) + pl)) (a := 32) (by omega) rfl rfl) (congrArg (GC 104) (cli (k := ((4 * (vn - 1)) + pl)) (a := 32) (by omega) rfl)) rfl ?_
      refine go_aload_n (pc' := 48) cx dX6_drift_47 rfl rfl ?_
      refine go_getr (pc' := 51) cx 94 fX6_29 dX6_drift_48 kq88 (ltn rfl) (ltn rfl) rfl rfl rfl ?_
      refine go_iload_n (pc' := 52) cx dX6_drift_51 rfl rfl ?_
      refine go_iald (pc' := 53) cx (g 94 pl) dX6_drift_52 kq94 (ltn rfl) (vpi (k := pl) (a := 4) hpl rfl rfl) ((congrArg (GC 94) (cli (k := pl) (a := 4) hpl rfl)).trans (fc 94 pl (by omega))) rfl ?_
      refine go_isub (pc' := 54) cx dX6_drift_53 rfl ?_
      refine go_iret cx rfl dX6_drift_54 ?_
      exact ZIz.mk ⟨by
        simp only [driftF, c4, if_false, clpl]
        rw [← cw.last hv0 hpl]
        rfl, fc, sc⟩
    · refine go_aload_n (pc' := 24) cx dX6_drift_23 rfl rfl ?_
      refine go_getr (pc' := 27) cx 92 fX6_23 dX6_drift_24 kq88 (ltn rfl) (ltn rfl) rfl rfl rfl ?_
      refine go_iload_n (pc' := 28) cx dX6_drift_27 rfl rfl ?_
      refine go_iald (pc' := 29) cx (g 92 pl) dX6_drift_28 kq92 (ltn rfl) (vpi (k := pl) (a := 4) hpl rfl rfl) ((congrArg (GC 92) (cli (k := pl) (a := 4) hpl rfl)).trans (fc 92 pl (by omega))) rfl ?_
      refine go_goto cx 47 dX6_drift_29 rfl ?_
      refine go_aload_n (pc' := 48) cx dX6_drift_47 rfl rfl ?_
      refine go_getr (pc' := 51) cx 94 fX6_29 dX6_drift_48 kq88 (ltn rfl) (ltn rfl) rfl rfl rfl ?_
      refine go_iload_n (pc' := 52) cx dX6_drift_51 rfl rfl ?_
      refine go_iald (pc' := 53) cx (g 94 pl) dX6_drift_52 kq94 (ltn rfl) (vpi (k := pl) (a := 4) hpl rfl rfl) ((congrArg (GC 94) (cli (k := pl) (a := 4) hpl rfl)).trans (fc 94 pl (by omega))) rfl ?_
      refine go_isub (pc' := 54) cx dX6_drift_53 rfl ?_
      refine go_iret cx rfl dX6_drift_54 ?_
      exact ZIz.mk ⟨by
        have e0 : vn = 0 := (nI_eq (by omega) (by omega)).mp c20
        subst e0
        simp only [driftF, c4, if_false, clpl, crs]
        skip
        rfl, fc, sc⟩
  · refine go_sipush (pc' := 10) cx (-1000) dX6_drift_7 rfl rfl ?_
    refine go_iret cx rfl dX6_drift_10 ?_
    exact ZIz.mk ⟨by simp only [driftF, c4, if_true], FrK.rf, hS0⟩

set_option maxHeartbeats 1000000 in
set_option maxRecDepth 20000 in
theorem c_X6_once (l : Launch) (E : Ev) {g : IG} {o : Option Nat} {z : Int64} {hn vn ru tc : Nat} {CS : CSt} (hX : XM g hn vn ru tc CS) (x1 x2 : Int32) : Ct l E 115 yX6_once cX6_once 4 (some .int) 49 [.ref (E.2.1 88), .int x1, .int x2] g (RFo o) z (ZIz (RFo o) (fun x g1 z1 => x = onceF (TMx CS ru) (svM g) vn x1 x2 ∧ FrK g g1 ∧ SdI g1 tc CS)) := by
  refine Ct.of (lv0 := [(0, .ref (E.2.1 88)), (1, .int x1), (2, .int x2)]) (by decide) (Nat.le_of_ble_eq_true rfl) rfl ?_
  intro p e s m below meth c cx
  have hb := hX.1
  have hS0 := hX.2.2.2.2.2.2.2.2.2.2
  refine go_aload_n (pc' := 1) cx dX6_once_0 rfl rfl ?_
  refine go_iload_n (pc' := 2) cx dX6_once_1 rfl rfl ?_
  refine go_cVi (pc' := 5) cx (c_X6_isVisit l E (g := g) (vn := vn) hX.2.2.1 (by have := hX.1.2; omega) x1) mX6_isVisit lX6_125 dX6_once_2 kq88 (ltn rfl) (ltn rfl) rfl rfl rfl rfl (ltn rfl) (Nat.le_of_ble_eq_true rfl) (Nat.le_of_ble_eq_true rfl) rfl ?_
  refine go_if_eq (pc' := 8) cx 20 dX6_once_5 rfl rfl (fun c5 => ?_) (fun c5 => ?_)
  · refine go_bipush (pc' := 22) cx (-2) dX6_once_20 rfl rfl ?_
    refine go_iret cx rfl dX6_once_22 ?_
    exact ZIz.mk ⟨by simp only [onceF, c5, if_true], FrK.rf, hS0⟩
  · refine go_iload_n (pc' := 9) cx dX6_once_8 rfl rfl ?_
    refine go_i2l (pc' := 10) cx dX6_once_9 rfl ?_
    refine go_lconst (pc' := 11) cx 0 dX6_once_10 rfl rfl ?_
    refine go_val (w := .long (((0 : Int32)).toInt64)) (congrArg Value.long (by decide)) ?_
    refine go_ldc2 (pc' := 14) cx 5 kX6_144 dX6_once_11 rfl ?_
    refine go_val (w := .long (((5 : Int32)).toInt64)) (congrArg Value.long (by decide)) ?_
    refine go_cSi (pc' := 17) cx (c_X6_in l E (g := g) x2 (0 : Int32) (5 : Int32)) mX6_in lX6_108 dX6_once_14 rfl rfl rfl (ltn rfl) (Nat.le_of_ble_eq_true rfl) (Nat.le_of_ble_eq_true rfl) rfl ?_
    refine go_if_ne (pc' := 20) cx 23 dX6_once_17 rfl rfl (fun c17 => ?_) (fun c17 => ?_)
    · obtain ⟨v, hv, ev⟩ := in_ok (k := vn) (by omega) c5
      subst ev
      have clv := clI_n (k := v) (by omega)
      obtain ⟨w0, w5⟩ := inX_ng c17
      refine go_aload_n (pc' := 24) cx dX6_once_23 rfl rfl ?_
      refine go_cVV (pc' := 27) cx (c_X6_layAside l E (g := g)) mX6_layAside lX6_408 dX6_once_24 kq88 (ltn rfl) (ltn rfl) rfl rfl rfl rfl (ltn rfl) (Nat.le_of_ble_eq_true rfl) (Nat.le_of_ble_eq_true rfl) rfl (fun GL hL => ?_)
      obtain ⟨a1, a2, a3⟩ := hL
      have hFL : FrD g GL := fun i k q => a1 i k (by omega)
      have r92 : GL 92 = g 92 := funext fun k => a1 92 k (by omega)
      have r93 : GL 93 = g 93 := funext fun k => a1 93 k (by omega)
      have hSL : SdI GL tc CS := hS0.fr (funext fun k => a1 102 k (by omega))
      have hnL : Ln (GL 92) := by
        rw [r92]
        exact hX.2.2.2.1
      obtain ⟨h, hh, hgh⟩ := hX.2.2.2.2.1 v (by omega)
      have hgL : GL 99 v = nI h := (a1 99 v (by omega)).trans hgh
      refine go_aload_n (pc' := 28) cx dX6_once_27 rfl rfl ?_
      refine go_iload_n (pc' := 29) cx dX6_once_28 rfl rfl ?_
      refine go_cVVz (pc' := 32) cx (c_X6_goesTo l E (g := GL) (hX.2.2.2.2.2.fd hFL hSL) hnL (v := v) (h := h) (by omega) (by omega) hgL) mX6_goesTo lX6_411 dX6_once_29 kq88 (ltn rfl) (ltn rfl) rfl rfl rfl rfl (ltn rfl) (Nat.le_of_ble_eq_true rfl) (Nat.le_of_ble_eq_true rfl) rfl (fun G1 z1 h1 => ?_)
      obtain ⟨f1, r1, e1, y1, s1, n1⟩ := h1
      have u1 : E4 (G1 92) (stL (TMx CS ru) (svM g) v ((svM g) 0) ((svM g) 1)) := by
        rw [r1, r92, r93]
        exact stL_E4 (hFL.rv v) E4.rf E4.rf
      have hF1 : FrD g G1 := hFL.tr f1.fd
      have hA1 : AsD g G1 := a2.fr (f1.c (by omega) (by omega) (by omega) (by omega))
      have y1' : G1 88 39 = ctA (TMx CS ru) (svM g) v ((svM g) 0) ((svM g) 1) := by
        rw [y1, a3, Int32.zero_add, r92, r93]
        exact ctA_E4 (hFL.rv v) E4.rf E4.rf
      refine go_iload_n (pc' := 33) cx dX6_once_32 rfl rfl ?_
      refine go_iconst (pc' := 34) cx 4 dX6_once_33 rfl rfl ?_
      refine go_icmp_ge (pc' := 37) cx 46 dX6_once_34 rfl rfl (fun c34 => ?_) (fun c34 => ?_)
      · have c34n := Int32.not_lt.mpr c34
        refine go_iload_n (pc' := 47) cx dX6_once_46 rfl rfl ?_
        refine go_iconst (pc' := 48) cx 4 dX6_once_47 rfl rfl ?_
        refine go_icmp_ne (pc' := 51) cx 58 dX6_once_48 rfl rfl (fun c48 => ?_) (fun c48 => ?_)
        · refine go_aload_n (pc' := 59) cx dX6_once_58 rfl rfl ?_
          refine go_cVIz (pc' := 62) cx (c_X6_offNow l E (g := G1) (hX.2.2.2.2.2.fd hF1 s1)) mX6_offNow lX6_415 dX6_once_59 kq88 (ltn rfl) (ltn rfl) rfl rfl rfl rfl (ltn rfl) (Nat.le_of_ble_eq_true rfl) (Nat.le_of_ble_eq_true rfl) rfl (fun x3 G2 z2 h2 => ?_)
          obtain ⟨e2, f2, s2⟩ := h2
          have e3 := e2.trans (ofA_E4 (b := (svM g)) (hF1.rv v).1 u1 (e1.tr u1))
          refine go_istore_n (pc' := 63) cx dX6_once_62 (ltn rfl) [(3, .int x3), (0, .ref (E.2.1 88)), (1, .int (nI v)), (2, .int x2)] rfl rfl ?_
          refine go_aload_n (pc' := 64) cx dX6_once_63 rfl rfl ?_
          refine go_cVV (pc' := 67) cx (c_X6_takeBack l E (g := G2)) mX6_takeBack lX6_418 dX6_once_64 kq88 (ltn rfl) (ltn rfl) rfl rfl rfl rfl (ltn rfl) (Nat.le_of_ble_eq_true rfl) (Nat.le_of_ble_eq_true rfl) rfl (fun GT hT => ?_)
          obtain ⟨t1, t2⟩ := hT
          refine go_iload_n (pc' := 68) cx dX6_once_67 rfl rfl ?_
          refine go_iret cx rfl dX6_once_68 ?_
          exact ZIz.mk ⟨by
            rw [e3]
            simp only [onceF, c5, w0, w5, clv, if_false]
            rw [if_neg (Int32.not_lt.mpr c34), if_neg c48], (hF1.tr f2.fk.fd).k (hA1.fr (f2.c (by omega) (by omega))) t1 t2, s2.fr (funext fun k => t1 102 k (by omega))⟩
        · refine go_aload_n (pc' := 52) cx dX6_once_51 rfl rfl ?_
          refine go_geti (pc' := 55) cx (G1 88 39) fX6_399 dX6_once_52 kq88 (ltn rfl) (ltn rfl) rfl rfl rfl ?_
          refine go_goto cx 62 dX6_once_55 rfl ?_
          refine go_istore_n (pc' := 63) cx dX6_once_62 (ltn rfl) [(3, .int (G1 88 39)), (0, .ref (E.2.1 88)), (1, .int (nI v)), (2, .int x2)] rfl rfl ?_
          refine go_aload_n (pc' := 64) cx dX6_once_63 rfl rfl ?_
          refine go_cVV (pc' := 67) cx (c_X6_takeBack l E (g := G1)) mX6_takeBack lX6_418 dX6_once_64 kq88 (ltn rfl) (ltn rfl) rfl rfl rfl rfl (ltn rfl) (Nat.le_of_ble_eq_true rfl) (Nat.le_of_ble_eq_true rfl) rfl (fun GT hT => ?_)
          obtain ⟨t1, t2⟩ := hT
          refine go_iload_n (pc' := 68) cx dX6_once_67 rfl rfl ?_
          refine go_iret cx rfl dX6_once_68 ?_
          exact ZIz.mk ⟨by
            subst c48
            simp only [onceF, c5, clv, if_false]
            exact y1', hF1.k hA1 t1 t2, s1.fr (funext fun k => t1 102 k (by omega))⟩
      · have c34n := Int32.not_le.mp c34
        obtain ⟨pl, hpl, epl⟩ := lt4_n w0 c34
        subst epl
        have clpl := clI_n (k := pl) (by omega)
        refine go_aload_n (pc' := 38) cx dX6_once_37 rfl rfl ?_
        refine go_getr (pc' := 41) cx 92 fX6_23 dX6_once_38 kq88 (ltn rfl) (ltn rfl) rfl rfl rfl ?_
        refine go_iload_n (pc' := 42) cx dX6_once_41 rfl rfl ?_
        refine go_iald (pc' := 43) cx (G1 92 pl) dX6_once_42 kq92 (ltn rfl) (vpi (k := pl) (a := 4) hpl rfl rfl) (congrArg (G1 92) (cli (k := pl) (a := 4) hpl rfl)) rfl ?_
        refine go_goto cx 62 dX6_once_43 rfl ?_
        refine go_istore_n (pc' := 63) cx dX6_once_62 (ltn rfl) [(3, .int (G1 92 pl)), (0, .ref (E.2.1 88)), (1, .int (nI v)), (2, .int (nI pl))] rfl rfl ?_
        refine go_aload_n (pc' := 64) cx dX6_once_63 rfl rfl ?_
        refine go_cVV (pc' := 67) cx (c_X6_takeBack l E (g := G1)) mX6_takeBack lX6_418 dX6_once_64 kq88 (ltn rfl) (ltn rfl) rfl rfl rfl rfl (ltn rfl) (Nat.le_of_ble_eq_true rfl) (Nat.le_of_ble_eq_true rfl) rfl (fun GT hT => ?_)
        obtain ⟨t1, t2⟩ := hT
        refine go_iload_n (pc' := 68) cx dX6_once_67 rfl rfl ?_
        refine go_iret cx rfl dX6_once_68 ?_
        exact ZIz.mk ⟨by
          simp only [onceF, c5, w0, w5, clv, clpl, if_false]
          rw [if_pos (Int32.not_le.mp c34)]
          exact u1 pl (by omega), hF1.k hA1 t1 t2, s1.fr (funext fun k => t1 102 k (by omega))⟩
    · refine go_bipush (pc' := 22) cx (-2) dX6_once_20 rfl rfl ?_
      refine go_iret cx rfl dX6_once_22 ?_
      exact ZIz.mk ⟨by
        simp only [onceF, c5, if_false]
        rcases inX_ps c17 with q | ⟨q, q2⟩
        · rw [if_pos q]
        · rw [if_neg q, if_pos q2], FrK.rf, hS0⟩

set_option maxHeartbeats 1000000 in
set_option maxRecDepth 20000 in
theorem c_X6_go (l : Launch) (E : Ev) {g : IG} {o : Option Nat} {z : Int64} {hn vn ru tc : Nat} {CS : CSt} (hX : XM g hn vn ru tc CS) (x1 : Int32) : Ct l E 115 yX6_go cX6_go 2 (some .int) 49 [.ref (E.2.1 88), .int x1] g (RFo o) z (ZIz (RFo o) (fun x g1 z1 => (inI (nI vn) x1 = 0 ∧ x = goF (TMx CS ru) (svM g) vn x1 ∧ g1 = g) ∨ ∃ v, v < vn ∧ x1 = nI v ∧ x = goF (TMx CS ru) (svM g) vn x1 ∧ FrC g g1 ∧ E4 (g1 92) (stL (TMx CS ru) (svM g) v ((svM g) 0) ((svM g) 1)) ∧ E4 (g1 93) (stL (TMx CS ru) (svM g) v ((svM g) 0) ((svM g) 1)) ∧ SdI g1 tc CS ∧ Ln (g1 92))) := by
  refine Ct.of (lv0 := [(0, .ref (E.2.1 88)), (1, .int x1)]) (by decide) (Nat.le_of_ble_eq_true rfl) rfl ?_
  intro p e s m below meth c cx
  have hb := hX.1
  have hS0 := hX.2.2.2.2.2.2.2.2.2.2
  refine go_aload_n (pc' := 1) cx dX6_go_0 rfl rfl ?_
  refine go_iload_n (pc' := 2) cx dX6_go_1 rfl rfl ?_
  refine go_cVi (pc' := 5) cx (c_X6_isVisit l E (g := g) (vn := vn) hX.2.2.1 (by have := hX.1.2; omega) x1) mX6_isVisit lX6_125 dX6_go_2 kq88 (ltn rfl) (ltn rfl) rfl rfl rfl rfl (ltn rfl) (Nat.le_of_ble_eq_true rfl) (Nat.le_of_ble_eq_true rfl) rfl ?_
  refine go_if_ne (pc' := 8) cx 11 dX6_go_5 rfl rfl (fun c5 => ?_) (fun c5 => ?_)
  · obtain ⟨v, hv, ev⟩ := in_ok (k := vn) (by omega) c5
    subst ev
    have clv := clI_n (k := v) (by omega)
    refine go_aload_n (pc' := 12) cx dX6_go_11 rfl rfl ?_
    refine go_iload_n (pc' := 13) cx dX6_go_12 rfl rfl ?_
    obtain ⟨h, hh, hgh⟩ := hX.2.2.2.2.1 v (by omega)
    refine go_cVVz (pc' := 16) cx (c_X6_goesTo l E (g := g) hX.2.2.2.2.2 hX.2.2.2.1 (v := v) (h := h) (by omega) (by omega) hgh) mX6_goesTo lX6_411 dX6_go_13 kq88 (ltn rfl) (ltn rfl) rfl rfl rfl rfl (ltn rfl) (Nat.le_of_ble_eq_true rfl) (Nat.le_of_ble_eq_true rfl) rfl (fun G1 z1 h1 => ?_)
    obtain ⟨f1, r1, e1, y1, s1, n1⟩ := h1
    have u1 : E4 (G1 92) (stL (TMx CS ru) (svM g) v ((svM g) 0) ((svM g) 1)) := by
      rw [r1]
      exact E4.rf
    have hF1 : FrD g G1 := f1.fd
    refine go_aload_n (pc' := 17) cx dX6_go_16 rfl rfl ?_
    refine go_cVIz (pc' := 20) cx (c_X6_offNow l E (g := G1) (hX.2.2.2.2.2.fd hF1 s1)) mX6_offNow lX6_415 dX6_go_17 kq88 (ltn rfl) (ltn rfl) rfl rfl rfl rfl (ltn rfl) (Nat.le_of_ble_eq_true rfl) (Nat.le_of_ble_eq_true rfl) rfl (fun x3 G2 z2 h2 => ?_)
    obtain ⟨e2, f2, s2⟩ := h2
    have e3 := e2.trans (ofA_E4 (b := (svM g)) (hF1.rv v).1 u1 (e1.tr u1))
    refine go_iret cx rfl dX6_go_20 ?_
    exact ZIz.mk (Or.inr ⟨v, hv, rfl, by rw [e3]; simp only [goF, c5, clv, if_false], f1.tr f2.fc, by rw [f2.c (by omega) (by omega)]; exact u1, by rw [f2.c (by omega) (by omega)]; exact e1.tr u1, s2, by rw [f2.c (by omega) (by omega)]; exact n1⟩)
  · refine go_bipush (pc' := 10) cx (-2) dX6_go_8 rfl rfl ?_
    refine go_iret cx rfl dX6_go_10 ?_
    exact ZIz.mk (Or.inl ⟨c5, by simp only [goF, c5, if_true], rfl⟩)
