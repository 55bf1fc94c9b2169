/-! THE REFERENCE: the worst visit, the last that was near, sheets -/
theorem oi_some {f : Nat → Int32} {n w : Nat} (hn : n ≤ 8) (h : wrs f n = some w) : w < n ∧ w < 8 := by
  have := wrs_lt h
  omega
theorem wrs_sn {f : Nat → Int32} {n : Nat} (h : wrs f n = none) : wrs f (n + 1) = some n := by
  show (match wrs f n with | none => some n | some w => if f n ≤ f w then some w else some n) = some n
  rw [h]
theorem wrs_ss {f : Nat → Int32} {n w : Nat} (h : wrs f n = some w) : wrs f (n + 1) = if f n ≤ f w then some w else some n := by
  show (match wrs f n with | none => some n | some w => if f n ≤ f w then some w else some n) = _
  rw [h]
theorem isN_z (L W : Nat → Int32) (x : Int32) : isN L W x = 0 ∨ isN L W x = 1 := by
  unfold isN
  split
  · split
    · split
      · split
        · exact Or.inr rfl
        · exact Or.inl rfl
      · exact Or.inl rfl
    · exact Or.inl rfl
  · exact Or.inl rfl

set_option maxHeartbeats 1000000 in
set_option maxRecDepth 20000 in
theorem bad_loopM {l : Launch} {E : Ev} {Z : ZT} {G : IG} {o : Option Nat} {z : Int64} {p : Program} {e : Env} {s : State} {m : MethodId} {args : Array Value} {below : List Frame} {meth : Method} {c : Code} {vn : Nat} {x1 x2 : Int32} (hv8 : vn ≤ 8) (h19 : G 88 19 = nI vn) (cx : Cx p s m args meth c E 115 cX6_bad 5 yX6_bad.cls (some .int)) : ∀ (k u : Nat), u + k = vn → Z (some (.int (oi (wrs (G 105) vn)))) G (RFo o) z → Go p l e (rmd 49) s m args below meth c E 115 5 Z G (RFo o) z 74 [(4, .int (nI u)), (3, .int (oi (wrs (G 105) u))), (0, .ref (E.2.1 88)), (1, .int x1), (2, .int x2)] [] := by
  intro k
  induction k with
  | zero =>
    intro u hk hZ
    have hu : u = vn := by omega
    subst hu
    refine go_iload (pc' := 76) cx dX6_bad_74 rfl rfl ?_
    refine go_aload_n (pc' := 77) cx dX6_bad_76 rfl rfl ?_
    refine go_geti (pc' := 80) cx (nI u) fX6_115 dX6_bad_77 kq88 (ltn rfl) (ltn rfl) rfl h19 rfl ?_
    refine go_icmp_ge (pc' := 83) cx 117 dX6_bad_80 rfl rfl (fun _ => ?_) (fun hh9 => absurd (Int32.le_refl _) hh9)
    refine go_iload_n (pc' := 118) cx dX6_bad_117 rfl rfl ?_
    refine go_iret cx rfl dX6_bad_118 ?_
    exact hZ
  | succ k ih =>
    intro u hk hZ
    cases hq : wrs (G 105) u with
    | none =>
      refine go_sub [0, 1, 2, 3, 4] [(4, .int (nI u)), (3, .int (-1)), (0, .ref (E.2.1 88)), (1, .int x1), (2, .int x2)] rfl ?_
      refine go_iload (pc' := 76) cx dX6_bad_74 rfl rfl ?_
      refine go_aload_n (pc' := 77) cx dX6_bad_76 rfl rfl ?_
      refine go_geti (pc' := 80) cx (nI vn) fX6_115 dX6_bad_77 kq88 (ltn rfl) (ltn rfl) rfl h19 rfl ?_
      refine go_icmp_ge (pc' := 83) cx 117 dX6_bad_80 rfl rfl (fun hh9 => absurd ((nI_leI (a := vn) (b := u) (by omega) (by omega)).mp hh9) (by omega)) (fun _ => ?_)
      refine go_iload_n (pc' := 84) cx dX6_bad_83 rfl rfl ?_
      refine go_iconst (pc' := 85) cx (-1) dX6_bad_84 rfl rfl ?_
      refine go_icmp_eq (pc' := 88) cx 104 dX6_bad_85 rfl rfl (fun _ => ?_) (fun hh9 => absurd rfl hh9)
      refine go_iload (pc' := 106) cx dX6_bad_104 rfl rfl ?_
      refine go_goto cx 110 dX6_bad_106 rfl ?_
      refine go_istore_n (pc' := 111) cx dX6_bad_110 (ltn rfl) [(3, .int (nI u)), (4, .int (nI u)), (0, .ref (E.2.1 88)), (1, .int x1), (2, .int x2)] rfl rfl ?_
      refine go_iinc (pc' := 114) cx (nI (u + 1)) dX6_bad_111 rfl (nI_1 u) (ltn rfl) [(4, .int (nI (u + 1))), (3, .int (nI u)), (0, .ref (E.2.1 88)), (1, .int x1), (2, .int x2)] rfl rfl ?_
      refine go_goto cx 74 dX6_bad_114 rfl ?_
      have e9 : wrs (G 105) (u + 1) = some u := wrs_sn hq
      refine go_sub [0, 1, 2, 3, 4] [(4, .int (nI (u + 1))), (3, .int (oi (wrs (G 105) (u + 1)))), (0, .ref (E.2.1 88)), (1, .int x1), (2, .int x2)] (by rw [e9]; rfl) ?_
      exact ih (u + 1) (by omega) hZ
    | some w =>
      have hw := wrs_lt hq
      refine go_sub [0, 1, 2, 3, 4] [(4, .int (nI u)), (3, .int (nI w)), (0, .ref (E.2.1 88)), (1, .int x1), (2, .int x2)] rfl ?_
      refine go_iload (pc' := 76) cx dX6_bad_74 rfl rfl ?_
      refine go_aload_n (pc' := 77) cx dX6_bad_76 rfl rfl ?_
      refine go_geti (pc' := 80) cx (nI vn) fX6_115 dX6_bad_77 kq88 (ltn rfl) (ltn rfl) rfl h19 rfl ?_
      refine go_icmp_ge (pc' := 83) cx 117 dX6_bad_80 rfl rfl (fun hh9 => absurd ((nI_leI (a := vn) (b := u) (by omega) (by omega)).mp hh9) (by omega)) (fun _ => ?_)
      refine go_iload_n (pc' := 84) cx dX6_bad_83 rfl rfl ?_
      refine go_iconst (pc' := 85) cx (-1) dX6_bad_84 rfl rfl ?_
      refine go_icmp_eq (pc' := 88) cx 104 dX6_bad_85 rfl rfl (fun hh9 => absurd hh9 (nI_nm (by omega))) (fun _ => ?_)
      refine go_aload_n (pc' := 89) cx dX6_bad_88 rfl rfl ?_
      refine go_getr (pc' := 92) cx 105 fX6_65 dX6_bad_89 kq88 (ltn rfl) (ltn rfl) rfl rfl rfl ?_
      refine go_iload (pc' := 94) cx dX6_bad_92 rfl rfl ?_
      refine go_iald (pc' := 95) cx (G 105 u) dX6_bad_94 kq105 (ltn rfl) (vpi (k := u) (a := 8) (by omega) rfl rfl) (congrArg (G 105) (cli (k := u) (a := 8) (by omega) rfl)) rfl ?_
      refine go_aload_n (pc' := 96) cx dX6_bad_95 rfl rfl ?_
      refine go_getr (pc' := 99) cx 105 fX6_65 dX6_bad_96 kq88 (ltn rfl) (ltn rfl) rfl rfl rfl ?_
      refine go_iload_n (pc' := 100) cx dX6_bad_99 rfl rfl ?_
      refine go_iald (pc' := 101) cx (G 105 w) dX6_bad_100 kq105 (ltn rfl) (vpi (k := w) (a := 8) (by omega) rfl rfl) (congrArg (G 105) (cli (k := w) (a := 8) (by omega) rfl)) rfl ?_
      refine go_icmp_le (pc' := 104) cx 109 dX6_bad_101 rfl rfl (fun c101 => ?_) (fun c101 => ?_)
      · have c101n := Int32.not_lt.mpr c101
        refine go_iload_n (pc' := 110) cx dX6_bad_109 rfl rfl ?_
        refine go_istore_n (pc' := 111) cx dX6_bad_110 (ltn rfl) [(3, .int (nI w)), (4, .int (nI u)), (0, .ref (E.2.1 88)), (1, .int x1), (2, .int x2)] rfl rfl ?_
        refine go_iinc (pc' := 114) cx (nI (u + 1)) dX6_bad_111 rfl (nI_1 u) (ltn rfl) [(4, .int (nI (u + 1))), (3, .int (nI w)), (0, .ref (E.2.1 88)), (1, .int x1), (2, .int x2)] rfl rfl ?_
        refine go_goto cx 74 dX6_bad_114 rfl ?_
        have e9 : wrs (G 105) (u + 1) = some w := (wrs_ss hq).trans (if_pos c101)
        refine go_sub [0, 1, 2, 3, 4] [(4, .int (nI (u + 1))), (3, .int (oi (wrs (G 105) (u + 1)))), (0, .ref (E.2.1 88)), (1, .int x1), (2, .int x2)] (by rw [e9]; rfl) ?_
        exact ih (u + 1) (by omega) hZ
      · have c101n := Int32.not_le.mp c101
        refine go_iload (pc' := 106) cx dX6_bad_104 rfl rfl ?_
        refine go_goto cx 110 dX6_bad_106 rfl ?_
        refine go_istore_n (pc' := 111) cx dX6_bad_110 (ltn rfl) [(3, .int (nI u)), (4, .int (nI u)), (0, .ref (E.2.1 88)), (1, .int x1), (2, .int x2)] rfl rfl ?_
        refine go_iinc (pc' := 114) cx (nI (u + 1)) dX6_bad_111 rfl (nI_1 u) (ltn rfl) [(4, .int (nI (u + 1))), (3, .int (nI u)), (0, .ref (E.2.1 88)), (1, .int x1), (2, .int x2)] rfl rfl ?_
        refine go_goto cx 74 dX6_bad_114 rfl ?_
        have e9 : wrs (G 105) (u + 1) = some u := (wrs_ss hq).trans (if_neg c101)
        refine go_sub [0, 1, 2, 3, 4] [(4, .int (nI (u + 1))), (3, .int (oi (wrs (G 105) (u + 1)))), (0, .ref (E.2.1 88)), (1, .int x1), (2, .int x2)] (by rw [e9]; rfl) ?_
        exact ih (u + 1) (by omega) hZ

set_option maxHeartbeats 1000000 in
set_option maxRecDepth 20000 in
theorem c_X6_bad (l : Launch) (E : Ev) {g : IG} {o : Option Nat} {z : Int64} {hn vn ru tc : Nat} {CS : CSt} (hX : XM g hn vn ru tc CS) (x1 : Int32) : Ct l E 115 yX6_bad cX6_bad 5 (some .int) 49 [.ref (E.2.1 88), .int x1] g (RFo o) z (ZIz (RFo o) (fun x g1 z1 => x = badF (TMx CS ru) (svM g) vn x1 ∧ FrK g g1 ∧ SdI g1 tc CS)) := by
  refine Ct.of (lv0 := [(0, .ref (E.2.1 88)), (1, .int x1)]) (by decide) (Nat.le_of_ble_eq_true rfl) rfl ?_
  intro p e s m below meth c cx
  have hb := hX.1
  have hS0 := hX.2.2.2.2.2.2.2.2.2.2
  refine go_iload_n (pc' := 1) cx dX6_bad_0 rfl rfl ?_
  refine go_i2l (pc' := 2) cx dX6_bad_1 rfl ?_
  refine go_lconst (pc' := 3) cx 0 dX6_bad_2 rfl rfl ?_
  refine go_val (w := .long (((0 : Int32)).toInt64)) (congrArg Value.long (by decide)) ?_
  refine go_ldc2 (pc' := 6) cx 3 kX6_106 dX6_bad_3 rfl ?_
  refine go_val (w := .long (((3 : Int32)).toInt64)) (congrArg Value.long (by decide)) ?_
  refine go_cSi (pc' := 9) cx (c_X6_in l E (g := g) x1 (0 : Int32) (3 : Int32)) mX6_in lX6_108 dX6_bad_6 rfl rfl rfl (ltn rfl) (Nat.le_of_ble_eq_true rfl) (Nat.le_of_ble_eq_true rfl) rfl ?_
  refine go_if_ne (pc' := 12) cx 15 dX6_bad_9 rfl rfl (fun c9 => ?_) (fun c9 => ?_)
  · refine go_aload_n (pc' := 16) cx dX6_bad_15 rfl rfl ?_
    refine go_cVIz (pc' := 19) cx (c_X6_courses l E (g := g) hX) mX6_courses lX6_421 dX6_bad_16 kq88 (ltn rfl) (ltn rfl) rfl rfl rfl rfl (ltn rfl) (Nat.le_of_ble_eq_true rfl) (Nat.le_of_ble_eq_true rfl) rfl (fun xc GC zc hc => ?_)
    obtain ⟨ec, fc, cw, y39, sc⟩ := hc
    refine go_istore_n (pc' := 20) cx dX6_bad_19 (ltn rfl) [(2, .int xc), (0, .ref (E.2.1 88)), (1, .int x1)] rfl rfl ?_
    refine go_iload_n (pc' := 21) cx dX6_bad_20 rfl rfl ?_
    refine go_iconst (pc' := 22) cx 2 dX6_bad_21 rfl rfl ?_
    refine go_icmp_ge (pc' := 25) cx 38 dX6_bad_22 rfl rfl (fun c22 => ?_) (fun c22 => ?_)
    · have c22n := Int32.not_lt.mpr c22
      refine go_iload_n (pc' := 39) cx dX6_bad_38 rfl rfl ?_
      refine go_iconst (pc' := 40) cx 2 dX6_bad_39 rfl rfl ?_
      refine go_icmp_ne (pc' := 43) cx 69 dX6_bad_40 rfl rfl (fun c40 => ?_) (fun c40 => ?_)
      · refine go_iconst (pc' := 70) cx (-1) dX6_bad_69 rfl rfl ?_
        refine go_istore_n (pc' := 71) cx dX6_bad_70 (ltn rfl) [(3, .int (-1)), (2, .int xc), (0, .ref (E.2.1 88)), (1, .int x1)] rfl rfl ?_
        refine go_iconst (pc' := 72) cx 0 dX6_bad_71 rfl rfl ?_
        refine go_istore (pc' := 74) cx dX6_bad_72 (ltn rfl) [(4, .int 0), (3, .int (-1)), (2, .int xc), (0, .ref (E.2.1 88)), (1, .int x1)] rfl rfl ?_
        refine go_sub [0, 1, 3, 4, 2] [(4, .int 0), (3, .int (-1)), (0, .ref (E.2.1 88)), (1, .int x1), (2, .int xc)] rfl ?_
        obtain ⟨w0, w3⟩ := inX_ng c9
        have e3 : x1 = 3 := by
          refine Int32.le_antisymm (Int32.not_lt.mp w3) ?_
          obtain ⟨j, hj, rfl⟩ := nI_of w0
          have j2 : ¬ j = 2 := fun q => c40 (by rw [q]; rfl)
          have j3 : 2 ≤ j := (nI_leI (a := 2) (by omega) hj).mp c22
          exact (nI_leI (a := 3) (by omega) hj).mpr (by omega)
        refine go_sub [0, 1, 2, 3, 4] [(4, .int (nI 0)), (3, .int (oi (wrs (GC 105) 0))), (0, .ref (E.2.1 88)), (1, .int x1), (2, .int xc)] rfl ?_
        refine bad_loopM (vn := vn) (by omega) ((fc 88 19 (by omega)).trans hX.2.2.1) cx vn 0 (by omega) (ZIz.mk ⟨?_, fc, sc⟩)
        subst e3
        rw [wrs_c (f' := OFs (TMx CS ru) (svM g)) vn (fun k hk => (cw k hk).2)]
        rfl
      · refine go_aload_n (pc' := 44) cx dX6_bad_43 rfl rfl ?_
        refine go_geti (pc' := 47) cx (nI vn) fX6_115 dX6_bad_44 kq88 (ltn rfl) (ltn rfl) rfl ((fc 88 19 (by omega)).trans hX.2.2.1) rfl ?_
        refine go_if_ne (pc' := 50) cx 57 dX6_bad_47 rfl rfl (fun c47 => ?_) (fun c47 => ?_)
        · have hv0 : 0 < vn := by
            rcases Nat.eq_zero_or_pos vn with q | q
            · exact absurd (by rw [q]; rfl) c47
            · exact q
          refine go_aload_n (pc' := 58) cx dX6_bad_57 rfl rfl ?_
          refine go_getr (pc' := 61) cx 105 fX6_65 dX6_bad_58 kq88 (ltn rfl) (ltn rfl) rfl rfl rfl ?_
          refine go_aload_n (pc' := 62) cx dX6_bad_61 rfl rfl ?_
          refine go_geti (pc' := 65) cx (nI vn) fX6_115 dX6_bad_62 kq88 (ltn rfl) (ltn rfl) rfl ((fc 88 19 (by omega)).trans hX.2.2.1) rfl ?_
          refine go_iconst (pc' := 66) cx 1 dX6_bad_65 rfl rfl ?_
          refine go_isub (pc' := 67) cx dX6_bad_66 rfl ?_
          refine go_val (w := .int (nI (vn - 1))) (congrArg Value.int (pk_sub (a := vn) (b := 1) (by omega))) ?_
          refine go_iald (pc' := 68) cx (GC 105 (vn - 1)) dX6_bad_67 kq105 (ltn rfl) (vpi (k := (vn - 1)) (a := 8) (by omega) rfl rfl) (congrArg (GC 105) (cli (k := (vn - 1)) (a := 8) (by omega) rfl)) rfl ?_
          refine go_iret cx rfl dX6_bad_68 ?_
          obtain ⟨w0, w3⟩ := inX_ng c9
          exact ZIz.mk ⟨by
            unfold badF
            rw [if_neg w0, if_neg w3, if_neg (by rw [c40]; decide), if_neg (by rw [c40]; decide), if_pos c40]
            rw [← cw.off hv0], fc, sc⟩
        · refine go_aload_n (pc' := 51) cx dX6_bad_50 rfl rfl ?_
          refine go_cVIz (pc' := 54) cx (c_X6_offNow l E (g := GC) (hX.2.2.2.2.2.fk fc sc)) mX6_offNow lX6_415 dX6_bad_51 kq88 (ltn rfl) (ltn rfl) rfl rfl rfl rfl (ltn rfl) (Nat.le_of_ble_eq_true rfl) (Nat.le_of_ble_eq_true rfl) rfl (fun x5 G5 z5 h5 => ?_)
          refine go_goto cx 68 dX6_bad_54 rfl ?_
          refine go_iret cx rfl dX6_bad_68 ?_
          obtain ⟨w0, w3⟩ := inX_ng c9
          exact ZIz.mk ⟨by
            unfold badF
            rw [if_neg w0, if_neg w3, if_neg (by rw [c40]; decide), if_neg (by rw [c40]; decide), if_pos c40]
            have e0 : vn = 0 := (nI_eq (by omega) (by omega)).mp c47
            subst e0
            rw [h5.1, fc.sv]
            simp only [crs]
            rw [fc.c (by omega) (by omega), fc.c (by omega) (by omega)]
            rfl, fc.tr h5.2.1.fk, h5.2.2⟩
    · have c22n := Int32.not_le.mp c22
      refine go_iload_n (pc' := 26) cx dX6_bad_25 rfl rfl ?_
      refine go_if_ne (pc' := 29) cx 33 dX6_bad_26 rfl rfl (fun c26 => ?_) (fun c26 => ?_)
      · refine go_aload_n (pc' := 34) cx dX6_bad_33 rfl rfl ?_
        refine go_geti (pc' := 37) cx (GC 88 39) fX6_399 dX6_bad_34 kq88 (ltn rfl) (ltn rfl) rfl rfl rfl ?_
        refine go_iret cx rfl dX6_bad_37 ?_
        obtain ⟨w0, w3⟩ := inX_ng c9
        have e1 : x1 = 1 := by
          obtain ⟨j, hj, rfl⟩ := nI_of w0
          have j2 : ¬ 2 ≤ j := fun q => c22 ((nI_leI (a := 2) (by omega) hj).mpr q)
          have j0 : ¬ j = 0 := fun q => c26 (by rw [q]; rfl)
          rw [show j = 1 by omega]
          rfl
        exact ZIz.mk ⟨by
          rw [y39]
          unfold badF
          rw [if_neg w0, if_neg w3, if_neg c26, if_pos e1], fc, sc⟩
      · refine go_iload_n (pc' := 30) cx dX6_bad_29 rfl rfl ?_
        refine go_goto cx 37 dX6_bad_30 rfl ?_
        refine go_iret cx rfl dX6_bad_37 ?_
        obtain ⟨w0, w3⟩ := inX_ng c9
        exact ZIz.mk ⟨by
          rw [ec]
          unfold badF
          rw [if_neg w0, if_neg w3, if_pos c26], fc, sc⟩
  · refine go_bipush (pc' := 14) cx (-2) dX6_bad_12 rfl rfl ?_
    refine go_iret cx rfl dX6_bad_14 ?_
    exact ZIz.mk ⟨by
      unfold badF
      rcases inX_ps c9 with q | ⟨q, q2⟩
      · rw [if_pos q]
      · rw [if_neg q, if_pos q2], FrK.rf, hS0⟩

set_option maxHeartbeats 1000000 in
set_option maxRecDepth 20000 in
theorem c_X6_isNear (l : Launch) (E : Ev) {g : IG} {o : Option Nat} {z : Int64} {v : Nat} (hv : v < 8) (x1 : Int32) : Ct l E 115 yX6_isNear cX6_isNear 4 (some .boolean) 2 [.ref (E.2.1 88), .int (nI v), .int x1] g (RFo o) z (Zi (RFo o) z (isN (fun p => g 104 (4 * v + p)) (g 94) x1) g) := by
  refine Ct.of (lv0 := [(0, .ref (E.2.1 88)), (1, .int (nI v)), (2, .int x1)]) (by decide) (Nat.le_of_ble_eq_true rfl) rfl ?_
  intro p e s m below meth c cx
  refine go_iconst (pc' := 1) cx 0 dX6_isNear_0 rfl rfl ?_
  refine go_istore_n (pc' := 2) cx dX6_isNear_1 (ltn rfl) [(3, .int 0), (0, .ref (E.2.1 88)), (1, .int (nI v)), (2, .int x1)] rfl rfl ?_
  refine go_iload_n (pc' := 3) cx dX6_isNear_2 rfl rfl ?_
  refine go_iconst (pc' := 4) cx 4 dX6_isNear_3 rfl rfl ?_
  refine go_icmp_ge (pc' := 7) cx 39 dX6_isNear_4 rfl rfl (fun hh => absurd hh (by decide)) (fun _ => ?_)
  refine go_aload_n (pc' := 8) cx dX6_isNear_7 rfl rfl ?_
  refine go_getr (pc' := 11) cx 104 fX6_62 dX6_isNear_8 kq88 (ltn rfl) (ltn rfl) rfl rfl rfl ?_
  refine go_iconst (pc' := 12) cx 4 dX6_isNear_11 rfl rfl ?_
  refine go_iload_n (pc' := 13) cx dX6_isNear_12 rfl rfl ?_
  refine go_imul (pc' := 14) cx dX6_isNear_13 rfl ?_
  refine go_val (w := .int (nI (4 * v))) (congrArg Value.int (pk_mul 4 v)) ?_
  refine go_iload_n (pc' := 15) cx dX6_isNear_14 rfl rfl ?_
  refine go_iadd (pc' := 16) cx dX6_isNear_15 rfl ?_
  refine go_val (w := .int (nI ((4 * v) + 0))) (congrArg Value.int (nI_add (4 * v) 0)) ?_
  refine go_iald (pc' := 17) cx (g 104 ((4 * v) + 0)) dX6_isNear_16 kq104 (ltn rfl) (vpi (k := ((4 * v) + 0)) (a := 32) (by omega) rfl rfl) (congrArg (g 104) (cli (k := ((4 * v) + 0)) (a := 32) (by omega) rfl)) rfl ?_
  refine go_aload_n (pc' := 18) cx dX6_isNear_17 rfl rfl ?_
  refine go_getr (pc' := 21) cx 94 fX6_29 dX6_isNear_18 kq88 (ltn rfl) (ltn rfl) rfl rfl rfl ?_
  refine go_iload_n (pc' := 22) cx dX6_isNear_21 rfl rfl ?_
  refine go_iald (pc' := 23) cx (g 94 0) dX6_isNear_22 kq94 (ltn rfl) (vpi (k := 0) (a := 1) (ltn rfl) rfl rfl) (congrArg (g 94) (cli (k := 0) (a := 1) (ltn rfl) rfl)) rfl ?_
  refine go_isub (pc' := 24) cx dX6_isNear_23 rfl ?_
  refine go_cSi (pc' := 27) cx (c_X6_plain l E (g := g) ((g 104 ((4 * v) + 0)) - (g 94 0))) mX6_plain lX6_392 dX6_isNear_24 rfl rfl rfl (ltn rfl) (Nat.le_of_ble_eq_true rfl) (Nat.le_of_ble_eq_true rfl) rfl ?_
  refine go_iload_n (pc' := 28) cx dX6_isNear_27 rfl rfl ?_
  refine go_icmp_le (pc' := 31) cx 33 dX6_isNear_28 rfl rfl (fun c28 => ?_) (fun c28 => ?_)
  · have c28n := Int32.not_lt.mpr c28
    refine go_iinc (pc' := 36) cx 1 dX6_isNear_33 rfl rfl (ltn rfl) [(3, .int 1), (0, .ref (E.2.1 88)), (1, .int (nI v)), (2, .int x1)] rfl rfl ?_
    refine go_goto cx 2 dX6_isNear_36 rfl ?_
    refine go_iload_n (pc' := 3) cx dX6_isNear_2 rfl rfl ?_
    refine go_iconst (pc' := 4) cx 4 dX6_isNear_3 rfl rfl ?_
    refine go_icmp_ge (pc' := 7) cx 39 dX6_isNear_4 rfl rfl (fun hh => absurd hh (by decide)) (fun _ => ?_)
    refine go_aload_n (pc' := 8) cx dX6_isNear_7 rfl rfl ?_
    refine go_getr (pc' := 11) cx 104 fX6_62 dX6_isNear_8 kq88 (ltn rfl) (ltn rfl) rfl rfl rfl ?_
    refine go_iconst (pc' := 12) cx 4 dX6_isNear_11 rfl rfl ?_
    refine go_iload_n (pc' := 13) cx dX6_isNear_12 rfl rfl ?_
    refine go_imul (pc' := 14) cx dX6_isNear_13 rfl ?_
    refine go_val (w := .int (nI (4 * v))) (congrArg Value.int (pk_mul 4 v)) ?_
    refine go_iload_n (pc' := 15) cx dX6_isNear_14 rfl rfl ?_
    refine go_iadd (pc' := 16) cx dX6_isNear_15 rfl ?_
    refine go_val (w := .int (nI ((4 * v) + 1))) (congrArg Value.int (nI_add (4 * v) 1)) ?_
    refine go_iald (pc' := 17) cx (g 104 ((4 * v) + 1)) dX6_isNear_16 kq104 (ltn rfl) (vpi (k := ((4 * v) + 1)) (a := 32) (by omega) rfl rfl) (congrArg (g 104) (cli (k := ((4 * v) + 1)) (a := 32) (by omega) rfl)) rfl ?_
    refine go_aload_n (pc' := 18) cx dX6_isNear_17 rfl rfl ?_
    refine go_getr (pc' := 21) cx 94 fX6_29 dX6_isNear_18 kq88 (ltn rfl) (ltn rfl) rfl rfl rfl ?_
    refine go_iload_n (pc' := 22) cx dX6_isNear_21 rfl rfl ?_
    refine go_iald (pc' := 23) cx (g 94 1) dX6_isNear_22 kq94 (ltn rfl) (vpi (k := 1) (a := 2) (ltn rfl) rfl rfl) (congrArg (g 94) (cli (k := 1) (a := 2) (ltn rfl) rfl)) rfl ?_
    refine go_isub (pc' := 24) cx dX6_isNear_23 rfl ?_
    refine go_cSi (pc' := 27) cx (c_X6_plain l E (g := g) ((g 104 ((4 * v) + 1)) - (g 94 1))) mX6_plain lX6_392 dX6_isNear_24 rfl rfl rfl (ltn rfl) (Nat.le_of_ble_eq_true rfl) (Nat.le_of_ble_eq_true rfl) rfl ?_
    refine go_iload_n (pc' := 28) cx dX6_isNear_27 rfl rfl ?_
    refine go_icmp_le (pc' := 31) cx 33 dX6_isNear_28 rfl rfl (fun c28_2 => ?_) (fun c28_2 => ?_)
    · have c28_2n := Int32.not_lt.mpr c28_2
      refine go_iinc (pc' := 36) cx 2 dX6_isNear_33 rfl rfl (ltn rfl) [(3, .int 2), (0, .ref (E.2.1 88)), (1, .int (nI v)), (2, .int x1)] rfl rfl ?_
      refine go_goto cx 2 dX6_isNear_36 rfl ?_
      refine go_iload_n (pc' := 3) cx dX6_isNear_2 rfl rfl ?_
      refine go_iconst (pc' := 4) cx 4 dX6_isNear_3 rfl rfl ?_
      refine go_icmp_ge (pc' := 7) cx 39 dX6_isNear_4 rfl rfl (fun hh => absurd hh (by decide)) (fun _ => ?_)
      refine go_aload_n (pc' := 8) cx dX6_isNear_7 rfl rfl ?_
      refine go_getr (pc' := 11) cx 104 fX6_62 dX6_isNear_8 kq88 (ltn rfl) (ltn rfl) rfl rfl rfl ?_
      refine go_iconst (pc' := 12) cx 4 dX6_isNear_11 rfl rfl ?_
      refine go_iload_n (pc' := 13) cx dX6_isNear_12 rfl rfl ?_
      refine go_imul (pc' := 14) cx dX6_isNear_13 rfl ?_
      refine go_val (w := .int (nI (4 * v))) (congrArg Value.int (pk_mul 4 v)) ?_
      refine go_iload_n (pc' := 15) cx dX6_isNear_14 rfl rfl ?_
      refine go_iadd (pc' := 16) cx dX6_isNear_15 rfl ?_
      refine go_val (w := .int (nI ((4 * v) + 2))) (congrArg Value.int (nI_add (4 * v) 2)) ?_
      refine go_iald (pc' := 17) cx (g 104 ((4 * v) + 2)) dX6_isNear_16 kq104 (ltn rfl) (vpi (k := ((4 * v) + 2)) (a := 32) (by omega) rfl rfl) (congrArg (g 104) (cli (k := ((4 * v) + 2)) (a := 32) (by omega) rfl)) rfl ?_
      refine go_aload_n (pc' := 18) cx dX6_isNear_17 rfl rfl ?_
      refine go_getr (pc' := 21) cx 94 fX6_29 dX6_isNear_18 kq88 (ltn rfl) (ltn rfl) rfl rfl rfl ?_
      refine go_iload_n (pc' := 22) cx dX6_isNear_21 rfl rfl ?_
      refine go_iald (pc' := 23) cx (g 94 2) dX6_isNear_22 kq94 (ltn rfl) (vpi (k := 2) (a := 3) (ltn rfl) rfl rfl) (congrArg (g 94) (cli (k := 2) (a := 3) (ltn rfl) rfl)) rfl ?_
      refine go_isub (pc' := 24) cx dX6_isNear_23 rfl ?_
      refine go_cSi (pc' := 27) cx (c_X6_plain l E (g := g) ((g 104 ((4 * v) + 2)) - (g 94 2))) mX6_plain lX6_392 dX6_isNear_24 rfl rfl rfl (ltn rfl) (Nat.le_of_ble_eq_true rfl) (Nat.le_of_ble_eq_true rfl) rfl ?_
      refine go_iload_n (pc' := 28) cx dX6_isNear_27 rfl rfl ?_
      refine go_icmp_le (pc' := 31) cx 33 dX6_isNear_28 rfl rfl (fun c28_3 => ?_) (fun c28_3 => ?_)
      · have c28_3n := Int32.not_lt.mpr c28_3
        refine go_iinc (pc' := 36) cx 3 dX6_isNear_33 rfl rfl (ltn rfl) [(3, .int 3), (0, .ref (E.2.1 88)), (1, .int (nI v)), (2, .int x1)] rfl rfl ?_
        refine go_goto cx 2 dX6_isNear_36 rfl ?_
        refine go_iload_n (pc' := 3) cx dX6_isNear_2 rfl rfl ?_
        refine go_iconst (pc' := 4) cx 4 dX6_isNear_3 rfl rfl ?_
        refine go_icmp_ge (pc' := 7) cx 39 dX6_isNear_4 rfl rfl (fun hh => absurd hh (by decide)) (fun _ => ?_)
        refine go_aload_n (pc' := 8) cx dX6_isNear_7 rfl rfl ?_
        refine go_getr (pc' := 11) cx 104 fX6_62 dX6_isNear_8 kq88 (ltn rfl) (ltn rfl) rfl rfl rfl ?_
        refine go_iconst (pc' := 12) cx 4 dX6_isNear_11 rfl rfl ?_
        refine go_iload_n (pc' := 13) cx dX6_isNear_12 rfl rfl ?_
        refine go_imul (pc' := 14) cx dX6_isNear_13 rfl ?_
        refine go_val (w := .int (nI (4 * v))) (congrArg Value.int (pk_mul 4 v)) ?_
        refine go_iload_n (pc' := 15) cx dX6_isNear_14 rfl rfl ?_
        refine go_iadd (pc' := 16) cx dX6_isNear_15 rfl ?_
        refine go_val (w := .int (nI ((4 * v) + 3))) (congrArg Value.int (nI_add (4 * v) 3)) ?_
        refine go_iald (pc' := 17) cx (g 104 ((4 * v) + 3)) dX6_isNear_16 kq104 (ltn rfl) (vpi (k := ((4 * v) + 3)) (a := 32) (by omega) rfl rfl) (congrArg (g 104) (cli (k := ((4 * v) + 3)) (a := 32) (by omega) rfl)) rfl ?_
        refine go_aload_n (pc' := 18) cx dX6_isNear_17 rfl rfl ?_
        refine go_getr (pc' := 21) cx 94 fX6_29 dX6_isNear_18 kq88 (ltn rfl) (ltn rfl) rfl rfl rfl ?_
        refine go_iload_n (pc' := 22) cx dX6_isNear_21 rfl rfl ?_
        refine go_iald (pc' := 23) cx (g 94 3) dX6_isNear_22 kq94 (ltn rfl) (vpi (k := 3) (a := 4) (ltn rfl) rfl rfl) (congrArg (g 94) (cli (k := 3) (a := 4) (ltn rfl) rfl)) rfl ?_
        refine go_isub (pc' := 24) cx dX6_isNear_23 rfl ?_
        refine go_cSi (pc' := 27) cx (c_X6_plain l E (g := g) ((g 104 ((4 * v) + 3)) - (g 94 3))) mX6_plain lX6_392 dX6_isNear_24 rfl rfl rfl (ltn rfl) (Nat.le_of_ble_eq_true rfl) (Nat.le_of_ble_eq_true rfl) rfl ?_
        refine go_iload_n (pc' := 28) cx dX6_isNear_27 rfl rfl ?_
        refine go_icmp_le (pc' := 31) cx 33 dX6_isNear_28 rfl rfl (fun c28_4 => ?_) (fun c28_4 => ?_)
        · have c28_4n := Int32.not_lt.mpr c28_4
          refine go_iinc (pc' := 36) cx 4 dX6_isNear_33 rfl rfl (ltn rfl) [(3, .int 4), (0, .ref (E.2.1 88)), (1, .int (nI v)), (2, .int x1)] rfl rfl ?_
          refine go_goto cx 2 dX6_isNear_36 rfl ?_
          refine go_iload_n (pc' := 3) cx dX6_isNear_2 rfl rfl ?_
          refine go_iconst (pc' := 4) cx 4 dX6_isNear_3 rfl rfl ?_
          refine go_icmp_ge (pc' := 7) cx 39 dX6_isNear_4 rfl rfl (fun _ => ?_) (fun hh => absurd hh (by decide))
          refine go_iconst (pc' := 40) cx 1 dX6_isNear_39 rfl rfl ?_
          refine go_zret cx (Or.inr rfl) rfl dX6_isNear_40 ?_
          refine Zi.mk ?_ rfl
          unfold isN
          rw [if_pos (show ab (g 104 (4 * v + 0) - g 94 0) ≤ x1 from by rw [← pl_ab]; exact c28), if_pos (show ab (g 104 (4 * v + 1) - g 94 1) ≤ x1 from by rw [← pl_ab]; exact c28_2), if_pos (show ab (g 104 (4 * v + 2) - g 94 2) ≤ x1 from by rw [← pl_ab]; exact c28_3), if_pos (show ab (g 104 (4 * v + 3) - g 94 3) ≤ x1 from by rw [← pl_ab]; exact c28_4)]
        · have c28_4n := Int32.not_le.mp c28_4
          refine go_iconst (pc' := 32) cx 0 dX6_isNear_31 rfl rfl ?_
          refine go_zret cx (Or.inl rfl) rfl dX6_isNear_32 ?_
          refine Zi.mk ?_ rfl
          unfold isN
          rw [if_pos (show ab (g 104 (4 * v + 0) - g 94 0) ≤ x1 from by rw [← pl_ab]; exact c28), if_pos (show ab (g 104 (4 * v + 1) - g 94 1) ≤ x1 from by rw [← pl_ab]; exact c28_2), if_pos (show ab (g 104 (4 * v + 2) - g 94 2) ≤ x1 from by rw [← pl_ab]; exact c28_3), if_neg (show ¬ ab (g 104 (4 * v + 3) - g 94 3) ≤ x1 from by rw [← pl_ab]; exact c28_4)]
      · have c28_3n := Int32.not_le.mp c28_3
        refine go_iconst (pc' := 32) cx 0 dX6_isNear_31 rfl rfl ?_
        refine go_zret cx (Or.inl rfl) rfl dX6_isNear_32 ?_
        refine Zi.mk ?_ rfl
        unfold isN
        rw [if_pos (show ab (g 104 (4 * v + 0) - g 94 0) ≤ x1 from by rw [← pl_ab]; exact c28), if_pos (show ab (g 104 (4 * v + 1) - g 94 1) ≤ x1 from by rw [← pl_ab]; exact c28_2), if_neg (show ¬ ab (g 104 (4 * v + 2) - g 94 2) ≤ x1 from by rw [← pl_ab]; exact c28_3)]
    · have c28_2n := Int32.not_le.mp c28_2
      refine go_iconst (pc' := 32) cx 0 dX6_isNear_31 rfl rfl ?_
      refine go_zret cx (Or.inl rfl) rfl dX6_isNear_32 ?_
      refine Zi.mk ?_ rfl
      unfold isN
      rw [if_pos (show ab (g 104 (4 * v + 0) - g 94 0) ≤ x1 from by rw [← pl_ab]; exact c28), if_neg (show ¬ ab (g 104 (4 * v + 1) - g 94 1) ≤ x1 from by rw [← pl_ab]; exact c28_2)]
  · have c28n := Int32.not_le.mp c28
    refine go_iconst (pc' := 32) cx 0 dX6_isNear_31 rfl rfl ?_
    refine go_zret cx (Or.inl rfl) rfl dX6_isNear_32 ?_
    refine Zi.mk ?_ rfl
    unfold isN
    rw [if_neg (show ¬ ab (g 104 (4 * v + 0) - g 94 0) ≤ x1 from by rw [← pl_ab]; exact c28)]

set_option maxHeartbeats 1000000 in
set_option maxRecDepth 20000 in
theorem again_loopM {l : Launch} {E : Ev} {Z : ZT} {G : IG} {o : Option Nat} {z : Int64} {p : Program} {e : Env} {s : State} {m : MethodId} {args : Array Value} {below : List Frame} {meth : Method} {c : Code} {vn : Nat} {x1 : Int32} (hv8 : vn ≤ 8) (h19 : G 88 19 = nI vn) (cx : Cx p s m args meth c E 115 cX6_again 3 yX6_again.cls (some .int)) : ∀ (u : Nat), u ≤ vn → Z (some (.int (agn (fun v => isN (fun p => G 104 (4 * v + p)) (G 94) x1) u (if u = vn then -1 else nI (u))))) G (RFo o) z → Go p l e (rmd 49) s m args below meth c E 115 3 Z G (RFo o) z 25 [(2, .int (nI u)), (0, .ref (E.2.1 88)), (1, .int x1)] [] := by
  intro u
  induction u with
  | zero =>
    intro hu hZ
    have hZ : Z (some (.int (if 0 = vn then -1 else nI (0)))) G (RFo o) z := hZ
    refine go_iload_n (pc' := 26) cx dX6_again_25 rfl rfl ?_
    refine go_if_le (pc' := 29) cx 46 dX6_again_26 rfl rfl (fun _ => ?_) (fun hh9 => absurd (Int32.le_refl _) hh9)
    refine go_iload_n (pc' := 47) cx dX6_again_46 rfl rfl ?_
    refine go_aload_n (pc' := 48) cx dX6_again_47 rfl rfl ?_
    refine go_geti (pc' := 51) cx (nI vn) fX6_115 dX6_again_48 kq88 (ltn rfl) (ltn rfl) rfl h19 rfl ?_
    refine go_icmp_ne (pc' := 54) cx 58 dX6_again_51 rfl rfl (fun c51 => ?_) (fun c51 => ?_)
    · refine go_iload_n (pc' := 59) cx dX6_again_58 rfl rfl ?_
      refine go_iret cx rfl dX6_again_59 ?_
      rw [if_neg (show ¬ 0 = vn from fun q9 => c51 (by rw [q9]))] at hZ
      exact hZ
    · refine go_iconst (pc' := 55) cx (-1) dX6_again_54 rfl rfl ?_
      refine go_goto cx 59 dX6_again_55 rfl ?_
      refine go_iret cx rfl dX6_again_59 ?_
      rw [if_pos (show 0 = vn from (nI_eq (by omega) (by omega)).mp c51)] at hZ
      exact hZ
  | succ u ih =>
    intro hu hZ
    refine go_iload_n (pc' := 26) cx dX6_again_25 rfl rfl ?_
    refine go_if_le (pc' := 29) cx 46 dX6_again_26 rfl rfl (fun hh9 => absurd hh9 (nI_nle (by omega) (by omega))) (fun _ => ?_)
    refine go_aload_n (pc' := 30) cx dX6_again_29 rfl rfl ?_
    refine go_iload_n (pc' := 31) cx dX6_again_30 rfl rfl ?_
    refine go_iconst (pc' := 32) cx 1 dX6_again_31 rfl rfl ?_
    refine go_isub (pc' := 33) cx dX6_again_32 rfl ?_
    refine go_val (w := .int (nI u)) (congrArg Value.int (nI_pred u)) ?_
    refine go_iload_n (pc' := 34) cx dX6_again_33 rfl rfl ?_
    refine go_cVi (pc' := 37) cx (c_X6_isNear l E (g := G) (v := u) (by omega) x1) mX6_isNear lX6_432 dX6_again_34 kq88 (ltn rfl) (ltn rfl) rfl rfl rfl rfl (ltn rfl) (Nat.le_of_ble_eq_true rfl) (Nat.le_of_ble_eq_true rfl) rfl ?_
    refine go_if_eq (pc' := 40) cx 46 dX6_again_37 rfl rfl (fun c37 => ?_) (fun c37 => ?_)
    · refine go_iload_n (pc' := 47) cx dX6_again_46 rfl rfl ?_
      refine go_aload_n (pc' := 48) cx dX6_again_47 rfl rfl ?_
      refine go_geti (pc' := 51) cx (nI vn) fX6_115 dX6_again_48 kq88 (ltn rfl) (ltn rfl) rfl h19 rfl ?_
      refine go_icmp_ne (pc' := 54) cx 58 dX6_again_51 rfl rfl (fun c51 => ?_) (fun c51 => ?_)
      · refine go_iload_n (pc' := 59) cx dX6_again_58 rfl rfl ?_
        refine go_iret cx rfl dX6_again_59 ?_
        rw [show agn (fun v => isN (fun p => G 104 (4 * v + p)) (G 94) x1) (u + 1) (if u + 1 = vn then -1 else nI (u + 1)) = (if u + 1 = vn then -1 else nI (u + 1)) from if_pos c37] at hZ
        rw [if_neg (show ¬ u + 1 = vn from fun q9 => c51 (by rw [q9]))] at hZ
        exact hZ
      · refine go_iconst (pc' := 55) cx (-1) dX6_again_54 rfl rfl ?_
        refine go_goto cx 59 dX6_again_55 rfl ?_
        refine go_iret cx rfl dX6_again_59 ?_
        rw [show agn (fun v => isN (fun p => G 104 (4 * v + p)) (G 94) x1) (u + 1) (if u + 1 = vn then -1 else nI (u + 1)) = (if u + 1 = vn then -1 else nI (u + 1)) from if_pos c37] at hZ
        rw [if_pos (show u + 1 = vn from (nI_eq (by omega) (by omega)).mp c51)] at hZ
        exact hZ
    · refine go_iinc (pc' := 43) cx (nI u) dX6_again_40 rfl (pk_m1 u) (ltn rfl) [(2, .int (nI u)), (0, .ref (E.2.1 88)), (1, .int x1)] rfl rfl ?_
      refine go_goto cx 25 dX6_again_43 rfl ?_
      refine ih (by omega) ?_
      rw [show agn (fun v => isN (fun p => G 104 (4 * v + p)) (G 94) x1) (u + 1) (if u + 1 = vn then -1 else nI (u + 1)) = agn (fun v => isN (fun p => G 104 (4 * v + p)) (G 94) x1) u (nI u) from if_neg c37] at hZ
      rw [if_neg (show ¬ u = vn by omega)]
      exact hZ

set_option maxHeartbeats 1000000 in
set_option maxRecDepth 20000 in
theorem c_X6_again (l : Launch) (E : Ev) {g : IG} {o : Option Nat} {z : Int64} {hn vn ru tc : Nat} {CS : CSt} (hX : XM g hn vn ru tc CS) (x1 : Int32) : Ct l E 115 yX6_again cX6_again 3 (some .int) 49 [.ref (E.2.1 88), .int x1] g (RFo o) z (ZIz (RFo o) (fun x g1 z1 => x = againF (TMx CS ru) (svM g) vn x1 ∧ FrK g g1 ∧ SdI g1 tc CS)) := by
  refine Ct.of (lv0 := [(0, .ref (E.2.1 88)), (1, .int x1)]) (by decide) (Nat.le_of_ble_eq_true rfl) rfl ?_
  intro p e s m below meth c cx
  have hb := hX.1
  have hS0 := hX.2.2.2.2.2.2.2.2.2.2
  refine go_iload_n (pc' := 1) cx dX6_again_0 rfl rfl ?_
  refine go_i2l (pc' := 2) cx dX6_again_1 rfl ?_
  refine go_lconst (pc' := 3) cx 0 dX6_again_2 rfl rfl ?_
  refine go_val (w := .long (((0 : Int32)).toInt64)) (congrArg Value.long (by decide)) ?_
  refine go_ldc2 (pc' := 6) cx 199 kX6_148 dX6_again_3 rfl ?_
  refine go_val (w := .long (((199 : Int32)).toInt64)) (congrArg Value.long (by decide)) ?_
  refine go_cSi (pc' := 9) cx (c_X6_in l E (g := g) x1 (0 : Int32) (199 : Int32)) mX6_in lX6_108 dX6_again_6 rfl rfl rfl (ltn rfl) (Nat.le_of_ble_eq_true rfl) (Nat.le_of_ble_eq_true rfl) rfl ?_
  refine go_if_ne (pc' := 12) cx 15 dX6_again_9 rfl rfl (fun c9 => ?_) (fun c9 => ?_)
  · refine go_aload_n (pc' := 16) cx dX6_again_15 rfl rfl ?_
    refine go_cVIz (pc' := 19) cx (c_X6_courses l E (g := g) hX) mX6_courses lX6_421 dX6_again_16 kq88 (ltn rfl) (ltn rfl) rfl rfl rfl rfl (ltn rfl) (Nat.le_of_ble_eq_true rfl) (Nat.le_of_ble_eq_true rfl) rfl (fun xc GC zc hc => ?_)
    obtain ⟨ec, fc, cw, y39, sc⟩ := hc
    refine go_pop (pc' := 20) cx rfl dX6_again_19 rfl ?_
    refine go_aload_n (pc' := 21) cx dX6_again_20 rfl rfl ?_
    refine go_geti (pc' := 24) cx (nI vn) fX6_115 dX6_again_21 kq88 (ltn rfl) (ltn rfl) rfl ((fc 88 19 (by omega)).trans hX.2.2.1) rfl ?_
    refine go_istore_n (pc' := 25) cx dX6_again_24 (ltn rfl) [(2, .int (nI vn)), (0, .ref (E.2.1 88)), (1, .int x1)] rfl rfl ?_
    obtain ⟨w0, w9⟩ := inX_ng c9
    refine again_loopM (vn := vn) (by omega) ((fc 88 19 (by omega)).trans hX.2.2.1) cx vn (Nat.le_refl _) (ZIz.mk ⟨?_, fc, sc⟩)
    unfold againF
    rw [if_neg w0, if_neg w9, if_pos rfl]
    exact agn_c vn (-1) (fun k hk => isN_E4 (cw k hk).1 (by rw [fc.c (by omega) (by omega)]; exact E4.rf))
  · refine go_bipush (pc' := 14) cx (-2) dX6_again_12 rfl rfl ?_
    refine go_iret cx rfl dX6_again_14 ?_
    exact ZIz.mk ⟨by
      unfold againF
      rcases inX_ps c9 with q | ⟨q, q2⟩
      · rw [if_pos q]
      · rw [if_neg q, if_pos q2], FrK.rf, hS0⟩
