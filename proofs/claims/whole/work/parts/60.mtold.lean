/-! THE REFERENCE: what is told, what is set -/
def nmM (hn vn : Nat) (w q : Int32) : Int32 := if w = 3 then 1 else if w < 3 then inI 4 q else if w < 7 then inI (nI hn) q else if w = 10 then inI (nI hn) q else inI (nI vn) q

theorem inI_z (k x : Int32) : ¬ inI k x = 0 → inI k x = 1 := by
  unfold inI
  intro h
  split at h
  · exact absurd rfl h
  · split at h
    · exact absurd rfl h
    · rw [if_neg (by assumption), if_neg (by assumption)]

set_option maxHeartbeats 1000000 in
set_option maxRecDepth 20000 in
theorem c_X6_isOf (l : Launch) (E : Ev) {g : IG} {o : Option Nat} {z : Int64} {hn vn : Nat} (hhn : hn ≤ 5) (hvn : vn ≤ 8) (h15 : g 88 15 = nI hn) (h19 : g 88 19 = nI vn) (w q : Int32) : Ct l E 115 yX6_isOf cX6_isOf 3 (some .boolean) 3 [.ref (E.2.1 88), .int w, .int q] g (RFo o) z (Zi (RFo o) z (nmM hn vn w q) g) := by
  refine Ct.of (lv0 := [(0, .ref (E.2.1 88)), (1, .int w), (2, .int q)]) (by decide) (Nat.le_of_ble_eq_true rfl) rfl ?_
  intro p e s m below meth c cx
  refine go_iload_n (pc' := 1) cx dX6_isOf_0 rfl rfl ?_
  refine go_iconst (pc' := 2) cx 3 dX6_isOf_1 rfl rfl ?_
  refine go_icmp_eq (pc' := 5) cx 51 dX6_isOf_2 rfl rfl (fun c2 => ?_) (fun c2 => ?_)
  · refine go_iconst (pc' := 52) cx 1 dX6_isOf_51 rfl rfl ?_
    refine go_goto cx 56 dX6_isOf_52 rfl ?_
    refine go_zret cx (Or.inr rfl) rfl dX6_isOf_56 ?_
    exact Zi.mk (by
      unfold nmM
      rw [if_pos c2]) rfl
  · refine go_iload_n (pc' := 6) cx dX6_isOf_5 rfl rfl ?_
    refine go_iconst (pc' := 7) cx 3 dX6_isOf_6 rfl rfl ?_
    refine go_icmp_ge (pc' := 10) cx 20 dX6_isOf_7 rfl rfl (fun c7 => ?_) (fun c7 => ?_)
    · have c7n := Int32.not_lt.mpr c7
      refine go_iload_n (pc' := 21) cx dX6_isOf_20 rfl rfl ?_
      refine go_bipush (pc' := 23) cx 7 dX6_isOf_21 rfl rfl ?_
      refine go_icmp_lt (pc' := 26) cx 32 dX6_isOf_23 rfl rfl (fun c23 => ?_) (fun c23 => ?_)
      · have c23n := Int32.not_le.mpr c23
        refine go_aload_n (pc' := 33) cx dX6_isOf_32 rfl rfl ?_
        refine go_iload_n (pc' := 34) cx dX6_isOf_33 rfl rfl ?_
        refine go_cVi (pc' := 37) cx (c_X6_isHand l E (g := g) (hn := hn) h15 (by omega) q) mX6_isHand lX6_122 dX6_isOf_34 kq88 (ltn rfl) (ltn rfl) rfl rfl rfl rfl (ltn rfl) (Nat.le_of_ble_eq_true rfl) (Nat.le_of_ble_eq_true rfl) rfl ?_
        refine go_if_eq (pc' := 40) cx 55 dX6_isOf_37 rfl rfl (fun c37 => ?_) (fun c37 => ?_)
        · refine go_iconst (pc' := 56) cx 0 dX6_isOf_55 rfl rfl ?_
          refine go_zret cx (Or.inl rfl) rfl dX6_isOf_56 ?_
          exact Zi.mk (by
            unfold nmM
            rw [if_neg c2]
            have q7 := Int32.not_lt.mpr c7
            rw [if_neg q7, if_pos c23]
            exact c37.symm) rfl
        · refine go_goto cx 51 dX6_isOf_40 rfl ?_
          refine go_iconst (pc' := 52) cx 1 dX6_isOf_51 rfl rfl ?_
          refine go_goto cx 56 dX6_isOf_52 rfl ?_
          refine go_zret cx (Or.inr rfl) rfl dX6_isOf_56 ?_
          exact Zi.mk (by
            unfold nmM
            rw [if_neg c2]
            have q7 := Int32.not_lt.mpr c7
            rw [if_neg q7, if_pos c23]
            exact (inI_z (nI hn) q c37).symm) rfl
      · have c23n := Int32.not_lt.mp c23
        refine go_iload_n (pc' := 27) cx dX6_isOf_26 rfl rfl ?_
        refine go_bipush (pc' := 29) cx 10 dX6_isOf_27 rfl rfl ?_
        refine go_icmp_ne (pc' := 32) cx 43 dX6_isOf_29 rfl rfl (fun c29 => ?_) (fun c29 => ?_)
        · refine go_aload_n (pc' := 44) cx dX6_isOf_43 rfl rfl ?_
          refine go_iload_n (pc' := 45) cx dX6_isOf_44 rfl rfl ?_
          refine go_cVi (pc' := 48) cx (c_X6_isVisit l E (g := g) (vn := vn) h19 (by omega) q) mX6_isVisit lX6_125 dX6_isOf_45 kq88 (ltn rfl) (ltn rfl) rfl rfl rfl rfl (ltn rfl) (Nat.le_of_ble_eq_true rfl) (Nat.le_of_ble_eq_true rfl) rfl ?_
          refine go_if_eq (pc' := 51) cx 55 dX6_isOf_48 rfl rfl (fun c48 => ?_) (fun c48 => ?_)
          · refine go_iconst (pc' := 56) cx 0 dX6_isOf_55 rfl rfl ?_
            refine go_zret cx (Or.inl rfl) rfl dX6_isOf_56 ?_
            exact Zi.mk (by
              unfold nmM
              rw [if_neg c2]
              have q7 := Int32.not_lt.mpr c7
              rw [if_neg q7, if_neg c23, if_neg c29]
              exact c48.symm) rfl
          · refine go_iconst (pc' := 52) cx 1 dX6_isOf_51 rfl rfl ?_
            refine go_goto cx 56 dX6_isOf_52 rfl ?_
            refine go_zret cx (Or.inr rfl) rfl dX6_isOf_56 ?_
            exact Zi.mk (by
              unfold nmM
              rw [if_neg c2]
              have q7 := Int32.not_lt.mpr c7
              rw [if_neg q7, if_neg c23, if_neg c29]
              exact (inI_z (nI vn) q c48).symm) rfl
        · refine go_aload_n (pc' := 33) cx dX6_isOf_32 rfl rfl ?_
          refine go_iload_n (pc' := 34) cx dX6_isOf_33 rfl rfl ?_
          refine go_cVi (pc' := 37) cx (c_X6_isHand l E (g := g) (hn := hn) h15 (by omega) q) mX6_isHand lX6_122 dX6_isOf_34 kq88 (ltn rfl) (ltn rfl) rfl rfl rfl rfl (ltn rfl) (Nat.le_of_ble_eq_true rfl) (Nat.le_of_ble_eq_true rfl) rfl ?_
          refine go_if_eq (pc' := 40) cx 55 dX6_isOf_37 rfl rfl (fun c37 => ?_) (fun c37 => ?_)
          · refine go_iconst (pc' := 56) cx 0 dX6_isOf_55 rfl rfl ?_
            refine go_zret cx (Or.inl rfl) rfl dX6_isOf_56 ?_
            exact Zi.mk (by
              unfold nmM
              rw [if_neg c2]
              have q7 := Int32.not_lt.mpr c7
              rw [if_neg q7, if_neg c23, if_pos c29]
              exact c37.symm) rfl
          · refine go_goto cx 51 dX6_isOf_40 rfl ?_
            refine go_iconst (pc' := 52) cx 1 dX6_isOf_51 rfl rfl ?_
            refine go_goto cx 56 dX6_isOf_52 rfl ?_
            refine go_zret cx (Or.inr rfl) rfl dX6_isOf_56 ?_
            exact Zi.mk (by
              unfold nmM
              rw [if_neg c2]
              have q7 := Int32.not_lt.mpr c7
              rw [if_neg q7, if_neg c23, if_pos c29]
              exact (inI_z (nI hn) q c37).symm) rfl
    · have c7n := Int32.not_le.mp c7
      refine go_iload_n (pc' := 11) cx dX6_isOf_10 rfl rfl ?_
      refine go_cSi (pc' := 14) cx (c_X6_isPlace l E (g := g) q) mX6_isPlace lX6_118 dX6_isOf_11 rfl rfl rfl (ltn rfl) (Nat.le_of_ble_eq_true rfl) (Nat.le_of_ble_eq_true rfl) rfl ?_
      refine go_if_eq (pc' := 17) cx 55 dX6_isOf_14 rfl rfl (fun c14 => ?_) (fun c14 => ?_)
      · refine go_iconst (pc' := 56) cx 0 dX6_isOf_55 rfl rfl ?_
        refine go_zret cx (Or.inl rfl) rfl dX6_isOf_56 ?_
        exact Zi.mk (by
          unfold nmM
          rw [if_neg c2]
          rw [if_pos (Int32.not_le.mp c7)]
          exact c14.symm) rfl
      · refine go_goto cx 51 dX6_isOf_17 rfl ?_
        refine go_iconst (pc' := 52) cx 1 dX6_isOf_51 rfl rfl ?_
        refine go_goto cx 56 dX6_isOf_52 rfl ?_
        refine go_zret cx (Or.inr rfl) rfl dX6_isOf_56 ?_
        exact Zi.mk (by
          unfold nmM
          rw [if_neg c2]
          rw [if_pos (Int32.not_le.mp c7)]
          exact (inI_z 4 q c14).symm) rfl

theorem w11 {x : Int32} (h : ¬ inX 0 10 x = 0) : ∃ w, w < 11 ∧ x = nI w := by
  obtain ⟨h0, h4⟩ := inX_ng h
  obtain ⟨j, hj, rfl⟩ := nI_of h0
  have : ¬ 10 < j := fun q => h4 ((nI_ltI (a := 10) (by omega) hj).mpr q)
  exact ⟨j, by omega, rfl⟩
theorem w11c {w : Nat} (h : w < 11) : w = 0 ∨ w = 1 ∨ w = 2 ∨ w = 3 ∨ w = 4 ∨ w = 5 ∨ w = 6 ∨ w = 7 ∨ w = 8 ∨ w = 9 ∨ w = 10 := by omega

set_option maxHeartbeats 1000000 in
set_option maxRecDepth 20000 in
theorem c_X6_told (l : Launch) (E : Ev) {g : IG} {o : Option Nat} {z : Int64} {hn vn : Nat} (hhn : hn ≤ 5) (hvn : vn ≤ 8) (h15 : g 88 15 = nI hn) (h19 : g 88 19 = nI vn) (of w0 : Int32) : Ct l E 115 yX6_told cX6_told 3 (some .int) 4 [.ref (E.2.1 88), .int of, .int w0] g (RFo o) z (ZI (RFo o) z (fun x g1 => g1 = g ∧ ((x = -100 ∧ (inX 0 10 w0 = 0 ∨ nmM hn vn w0 of = 0)) ∨ ∃ w q : Nat, w < 11 ∧ q < 8 ∧ w0 = nI w ∧ (w ≠ 3 → of = nI q) ∧ ¬ nmM hn vn w0 of = 0 ∧ x = svM g w (if w = 3 then 0 else q)))) := by
  refine Ct.of (lv0 := [(0, .ref (E.2.1 88)), (1, .int of), (2, .int w0)]) (by decide) (Nat.le_of_ble_eq_true rfl) rfl ?_
  intro p e s m below meth c cx
  refine go_iload_n (pc' := 1) cx dX6_told_0 rfl rfl ?_
  refine go_i2l (pc' := 2) cx dX6_told_1 rfl ?_
  refine go_lconst (pc' := 3) cx 0 dX6_told_2 rfl rfl ?_
  refine go_val (w := .long (((0 : Int32)).toInt64)) (congrArg Value.long (by decide)) ?_
  refine go_ldc2 (pc' := 6) cx 10 kX6_152 dX6_told_3 rfl ?_
  refine go_val (w := .long (((10 : Int32)).toInt64)) (congrArg Value.long (by decide)) ?_
  refine go_cSi (pc' := 9) cx (c_X6_in l E (g := g) w0 (0 : Int32) (10 : Int32)) mX6_in lX6_108 dX6_told_6 rfl rfl rfl (ltn rfl) (Nat.le_of_ble_eq_true rfl) (Nat.le_of_ble_eq_true rfl) rfl ?_
  refine go_if_eq (pc' := 12) cx 21 dX6_told_9 rfl rfl (fun c9 => ?_) (fun c9 => ?_)
  · refine go_bipush (pc' := 23) cx (-100) dX6_told_21 rfl rfl ?_
    refine go_iret cx rfl dX6_told_23 ?_
    exact ZI.mk ⟨rfl, Or.inl ⟨rfl, Or.inl c9⟩⟩
  · refine go_aload_n (pc' := 13) cx dX6_told_12 rfl rfl ?_
    refine go_iload_n (pc' := 14) cx dX6_told_13 rfl rfl ?_
    refine go_iload_n (pc' := 15) cx dX6_told_14 rfl rfl ?_
    refine go_cVi (pc' := 18) cx (c_X6_isOf l E (g := g) hhn hvn h15 h19 w0 of) mX6_isOf lX6_130 dX6_told_15 kq88 (ltn rfl) (ltn rfl) rfl rfl rfl rfl (ltn rfl) (Nat.le_of_ble_eq_true rfl) (Nat.le_of_ble_eq_true rfl) rfl ?_
    refine go_if_ne (pc' := 21) cx 24 dX6_told_18 rfl rfl (fun c18 => ?_) (fun c18 => ?_)
    · obtain ⟨w9, hw9, ew9⟩ := w11 c9
      subst ew9
      rcases w11c hw9 with rfl | rfl | rfl | rfl | rfl | rfl | rfl | rfl | rfl | rfl | rfl
      · have cq : ¬ inI 4 of = 0 := c18
        obtain ⟨q, hq, eq⟩ := in_ok (k := 4) (by omega) cq
        subst eq
        refine go_iload_n (pc' := 25) cx dX6_told_24 rfl rfl ?_
        refine go_iconst (pc' := 26) cx 4 dX6_told_25 rfl rfl ?_
        refine go_icmp_ge (pc' := 29) cx 75 dX6_told_26 rfl rfl (fun hh => absurd hh (by decide)) (fun _ => ?_)
        refine go_iload_n (pc' := 30) cx dX6_told_29 rfl rfl ?_
        refine go_if_ne (pc' := 33) cx 42 dX6_told_30 rfl rfl (fun hh => absurd hh (by decide)) (fun _ => ?_)
        refine go_aload_n (pc' := 34) cx dX6_told_33 rfl rfl ?_
        refine go_getr (pc' := 37) cx 92 fX6_23 dX6_told_34 kq88 (ltn rfl) (ltn rfl) rfl rfl rfl ?_
        refine go_iload_n (pc' := 38) cx dX6_told_37 rfl rfl ?_
        refine go_iald (pc' := 39) cx (g 92 q) dX6_told_38 kq92 (ltn rfl) (vpi (k := q) (a := 4) hq rfl rfl) (congrArg (g 92) (cli (k := q) (a := 4) hq rfl)) rfl ?_
        refine go_goto cx 74 dX6_told_39 rfl ?_
        refine go_iret cx rfl dX6_told_74 ?_
        exact ZI.mk ⟨rfl, Or.inr ⟨0, q, by omega, by omega, rfl, fun _ => rfl, c18, rfl⟩⟩
      · have cq : ¬ inI 4 of = 0 := c18
        obtain ⟨q, hq, eq⟩ := in_ok (k := 4) (by omega) cq
        subst eq
        refine go_iload_n (pc' := 25) cx dX6_told_24 rfl rfl ?_
        refine go_iconst (pc' := 26) cx 4 dX6_told_25 rfl rfl ?_
        refine go_icmp_ge (pc' := 29) cx 75 dX6_told_26 rfl rfl (fun hh => absurd hh (by decide)) (fun _ => ?_)
        refine go_iload_n (pc' := 30) cx dX6_told_29 rfl rfl ?_
        refine go_if_ne (pc' := 33) cx 42 dX6_told_30 rfl rfl (fun _ => ?_) (fun hh => absurd hh (by decide))
        refine go_iload_n (pc' := 43) cx dX6_told_42 rfl rfl ?_
        refine go_iconst (pc' := 44) cx 1 dX6_told_43 rfl rfl ?_
        refine go_icmp_ne (pc' := 47) cx 56 dX6_told_44 rfl rfl (fun hh => absurd hh (by decide)) (fun _ => ?_)
        refine go_aload_n (pc' := 48) cx dX6_told_47 rfl rfl ?_
        refine go_getr (pc' := 51) cx 93 fX6_26 dX6_told_48 kq88 (ltn rfl) (ltn rfl) rfl rfl rfl ?_
        refine go_iload_n (pc' := 52) cx dX6_told_51 rfl rfl ?_
        refine go_iald (pc' := 53) cx (g 93 q) dX6_told_52 kq93 (ltn rfl) (vpi (k := q) (a := 4) hq rfl rfl) (congrArg (g 93) (cli (k := q) (a := 4) hq rfl)) rfl ?_
        refine go_goto cx 74 dX6_told_53 rfl ?_
        refine go_iret cx rfl dX6_told_74 ?_
        exact ZI.mk ⟨rfl, Or.inr ⟨1, q, by omega, by omega, rfl, fun _ => rfl, c18, rfl⟩⟩
      · have cq : ¬ inI 4 of = 0 := c18
        obtain ⟨q, hq, eq⟩ := in_ok (k := 4) (by omega) cq
        subst eq
        refine go_iload_n (pc' := 25) cx dX6_told_24 rfl rfl ?_
        refine go_iconst (pc' := 26) cx 4 dX6_told_25 rfl rfl ?_
        refine go_icmp_ge (pc' := 29) cx 75 dX6_told_26 rfl rfl (fun hh => absurd hh (by decide)) (fun _ => ?_)
        refine go_iload_n (pc' := 30) cx dX6_told_29 rfl rfl ?_
        refine go_if_ne (pc' := 33) cx 42 dX6_told_30 rfl rfl (fun _ => ?_) (fun hh => absurd hh (by decide))
        refine go_iload_n (pc' := 43) cx dX6_told_42 rfl rfl ?_
        refine go_iconst (pc' := 44) cx 1 dX6_told_43 rfl rfl ?_
        refine go_icmp_ne (pc' := 47) cx 56 dX6_told_44 rfl rfl (fun _ => ?_) (fun hh => absurd hh (by decide))
        refine go_iload_n (pc' := 57) cx dX6_told_56 rfl rfl ?_
        refine go_iconst (pc' := 58) cx 2 dX6_told_57 rfl rfl ?_
        refine go_icmp_ne (pc' := 61) cx 70 dX6_told_58 rfl rfl (fun hh => absurd hh (by decide)) (fun _ => ?_)
        refine go_aload_n (pc' := 62) cx dX6_told_61 rfl rfl ?_
        refine go_getr (pc' := 65) cx 94 fX6_29 dX6_told_62 kq88 (ltn rfl) (ltn rfl) rfl rfl rfl ?_
        refine go_iload_n (pc' := 66) cx dX6_told_65 rfl rfl ?_
        refine go_iald (pc' := 67) cx (g 94 q) dX6_told_66 kq94 (ltn rfl) (vpi (k := q) (a := 4) hq rfl rfl) (congrArg (g 94) (cli (k := q) (a := 4) hq rfl)) rfl ?_
        refine go_goto cx 74 dX6_told_67 rfl ?_
        refine go_iret cx rfl dX6_told_74 ?_
        exact ZI.mk ⟨rfl, Or.inr ⟨2, q, by omega, by omega, rfl, fun _ => rfl, c18, rfl⟩⟩
      · refine go_iload_n (pc' := 25) cx dX6_told_24 rfl rfl ?_
        refine go_iconst (pc' := 26) cx 4 dX6_told_25 rfl rfl ?_
        refine go_icmp_ge (pc' := 29) cx 75 dX6_told_26 rfl rfl (fun hh => absurd hh (by decide)) (fun _ => ?_)
        refine go_iload_n (pc' := 30) cx dX6_told_29 rfl rfl ?_
        refine go_if_ne (pc' := 33) cx 42 dX6_told_30 rfl rfl (fun _ => ?_) (fun hh => absurd hh (by decide))
        refine go_iload_n (pc' := 43) cx dX6_told_42 rfl rfl ?_
        refine go_iconst (pc' := 44) cx 1 dX6_told_43 rfl rfl ?_
        refine go_icmp_ne (pc' := 47) cx 56 dX6_told_44 rfl rfl (fun _ => ?_) (fun hh => absurd hh (by decide))
        refine go_iload_n (pc' := 57) cx dX6_told_56 rfl rfl ?_
        refine go_iconst (pc' := 58) cx 2 dX6_told_57 rfl rfl ?_
        refine go_icmp_ne (pc' := 61) cx 70 dX6_told_58 rfl rfl (fun _ => ?_) (fun hh => absurd hh (by decide))
        refine go_aload_n (pc' := 71) cx dX6_told_70 rfl rfl ?_
        refine go_geti (pc' := 74) cx (g 88 10) fX6_32 dX6_told_71 kq88 (ltn rfl) (ltn rfl) rfl rfl rfl ?_
        refine go_iret cx rfl dX6_told_74 ?_
        exact ZI.mk ⟨rfl, Or.inr ⟨3, 0, by omega, by omega, rfl, fun h => absurd rfl h, c18, rfl⟩⟩
      · have cq : ¬ inI (nI hn) of = 0 := c18
        obtain ⟨q, hq, eq⟩ := in_ok (k := hn) (by omega) cq
        subst eq
        have hq8 : q < 5 := by omega
        refine go_iload_n (pc' := 25) cx dX6_told_24 rfl rfl ?_
        refine go_iconst (pc' := 26) cx 4 dX6_told_25 rfl rfl ?_
        refine go_icmp_ge (pc' := 29) cx 75 dX6_told_26 rfl rfl (fun _ => ?_) (fun hh => absurd hh (by decide))
        refine go_iload_n (pc' := 76) cx dX6_told_75 rfl rfl ?_
        refine go_bipush (pc' := 78) cx 7 dX6_told_76 rfl rfl ?_
        refine go_icmp_ge (pc' := 81) cx 116 dX6_told_78 rfl rfl (fun hh => absurd hh (by decide)) (fun _ => ?_)
        refine go_iload_n (pc' := 82) cx dX6_told_81 rfl rfl ?_
        refine go_iconst (pc' := 83) cx 4 dX6_told_82 rfl rfl ?_
        refine go_icmp_ne (pc' := 86) cx 95 dX6_told_83 rfl rfl (fun hh => absurd hh (by decide)) (fun _ => ?_)
        refine go_aload_n (pc' := 87) cx dX6_told_86 rfl rfl ?_
        refine go_getr (pc' := 90) cx 96 fX6_38 dX6_told_87 kq88 (ltn rfl) (ltn rfl) rfl rfl rfl ?_
        refine go_iload_n (pc' := 91) cx dX6_told_90 rfl rfl ?_
        refine go_iald (pc' := 92) cx (g 96 q) dX6_told_91 kq96 (ltn rfl) (vpi (k := q) (a := 5) hq8 rfl rfl) (congrArg (g 96) (cli (k := q) (a := 5) hq8 rfl)) rfl ?_
        refine go_goto cx 115 dX6_told_92 rfl ?_
        refine go_iret cx rfl dX6_told_115 ?_
        exact ZI.mk ⟨rfl, Or.inr ⟨4, q, by omega, by omega, rfl, fun _ => rfl, c18, rfl⟩⟩
      · have cq : ¬ inI (nI hn) of = 0 := c18
        obtain ⟨q, hq, eq⟩ := in_ok (k := hn) (by omega) cq
        subst eq
        have hq8 : q < 5 := by omega
        refine go_iload_n (pc' := 25) cx dX6_told_24 rfl rfl ?_
        refine go_iconst (pc' := 26) cx 4 dX6_told_25 rfl rfl ?_
        refine go_icmp_ge (pc' := 29) cx 75 dX6_told_26 rfl rfl (fun _ => ?_) (fun hh => absurd hh (by decide))
        refine go_iload_n (pc' := 76) cx dX6_told_75 rfl rfl ?_
        refine go_bipush (pc' := 78) cx 7 dX6_told_76 rfl rfl ?_
        refine go_icmp_ge (pc' := 81) cx 116 dX6_told_78 rfl rfl (fun hh => absurd hh (by decide)) (fun _ => ?_)
        refine go_iload_n (pc' := 82) cx dX6_told_81 rfl rfl ?_
        refine go_iconst (pc' := 83) cx 4 dX6_told_82 rfl rfl ?_
        refine go_icmp_ne (pc' := 86) cx 95 dX6_told_83 rfl rfl (fun _ => ?_) (fun hh => absurd hh (by decide))
        refine go_iload_n (pc' := 96) cx dX6_told_95 rfl rfl ?_
        refine go_iconst (pc' := 97) cx 5 dX6_told_96 rfl rfl ?_
        refine go_icmp_ne (pc' := 100) cx 109 dX6_told_97 rfl rfl (fun hh => absurd hh (by decide)) (fun _ => ?_)
        refine go_aload_n (pc' := 101) cx dX6_told_100 rfl rfl ?_
        refine go_getr (pc' := 104) cx 97 fX6_41 dX6_told_101 kq88 (ltn rfl) (ltn rfl) rfl rfl rfl ?_
        refine go_iload_n (pc' := 105) cx dX6_told_104 rfl rfl ?_
        refine go_iald (pc' := 106) cx (g 97 q) dX6_told_105 kq97 (ltn rfl) (vpi (k := q) (a := 5) hq8 rfl rfl) (congrArg (g 97) (cli (k := q) (a := 5) hq8 rfl)) rfl ?_
        refine go_goto cx 115 dX6_told_106 rfl ?_
        refine go_iret cx rfl dX6_told_115 ?_
        exact ZI.mk ⟨rfl, Or.inr ⟨5, q, by omega, by omega, rfl, fun _ => rfl, c18, rfl⟩⟩
      · have cq : ¬ inI (nI hn) of = 0 := c18
        obtain ⟨q, hq, eq⟩ := in_ok (k := hn) (by omega) cq
        subst eq
        have hq8 : q < 5 := by omega
        refine go_iload_n (pc' := 25) cx dX6_told_24 rfl rfl ?_
        refine go_iconst (pc' := 26) cx 4 dX6_told_25 rfl rfl ?_
        refine go_icmp_ge (pc' := 29) cx 75 dX6_told_26 rfl rfl (fun _ => ?_) (fun hh => absurd hh (by decide))
        refine go_iload_n (pc' := 76) cx dX6_told_75 rfl rfl ?_
        refine go_bipush (pc' := 78) cx 7 dX6_told_76 rfl rfl ?_
        refine go_icmp_ge (pc' := 81) cx 116 dX6_told_78 rfl rfl (fun hh => absurd hh (by decide)) (fun _ => ?_)
        refine go_iload_n (pc' := 82) cx dX6_told_81 rfl rfl ?_
        refine go_iconst (pc' := 83) cx 4 dX6_told_82 rfl rfl ?_
        refine go_icmp_ne (pc' := 86) cx 95 dX6_told_83 rfl rfl (fun _ => ?_) (fun hh => absurd hh (by decide))
        refine go_iload_n (pc' := 96) cx dX6_told_95 rfl rfl ?_
        refine go_iconst (pc' := 97) cx 5 dX6_told_96 rfl rfl ?_
        refine go_icmp_ne (pc' := 100) cx 109 dX6_told_97 rfl rfl (fun _ => ?_) (fun hh => absurd hh (by decide))
        refine go_aload_n (pc' := 110) cx dX6_told_109 rfl rfl ?_
        refine go_getr (pc' := 113) cx 98 fX6_44 dX6_told_110 kq88 (ltn rfl) (ltn rfl) rfl rfl rfl ?_
        refine go_iload_n (pc' := 114) cx dX6_told_113 rfl rfl ?_
        refine go_iald (pc' := 115) cx (g 98 q) dX6_told_114 kq98 (ltn rfl) (vpi (k := q) (a := 5) hq8 rfl rfl) (congrArg (g 98) (cli (k := q) (a := 5) hq8 rfl)) rfl ?_
        refine go_iret cx rfl dX6_told_115 ?_
        exact ZI.mk ⟨rfl, Or.inr ⟨6, q, by omega, by omega, rfl, fun _ => rfl, c18, rfl⟩⟩
      · have cq : ¬ inI (nI vn) of = 0 := c18
        obtain ⟨q, hq, eq⟩ := in_ok (k := vn) (by omega) cq
        subst eq
        have hq8 : q < 8 := by omega
        refine go_iload_n (pc' := 25) cx dX6_told_24 rfl rfl ?_
        refine go_iconst (pc' := 26) cx 4 dX6_told_25 rfl rfl ?_
        refine go_icmp_ge (pc' := 29) cx 75 dX6_told_26 rfl rfl (fun _ => ?_) (fun hh => absurd hh (by decide))
        refine go_iload_n (pc' := 76) cx dX6_told_75 rfl rfl ?_
        refine go_bipush (pc' := 78) cx 7 dX6_told_76 rfl rfl ?_
        refine go_icmp_ge (pc' := 81) cx 116 dX6_told_78 rfl rfl (fun _ => ?_) (fun hh => absurd hh (by decide))
        refine go_iload_n (pc' := 117) cx dX6_told_116 rfl rfl ?_
        refine go_bipush (pc' := 119) cx 7 dX6_told_117 rfl rfl ?_
        refine go_icmp_ne (pc' := 122) cx 131 dX6_told_119 rfl rfl (fun hh => absurd hh (by decide)) (fun _ => ?_)
        refine go_aload_n (pc' := 123) cx dX6_told_122 rfl rfl ?_
        refine go_getr (pc' := 126) cx 99 fX6_47 dX6_told_123 kq88 (ltn rfl) (ltn rfl) rfl rfl rfl ?_
        refine go_iload_n (pc' := 127) cx dX6_told_126 rfl rfl ?_
        refine go_iald (pc' := 128) cx (g 99 q) dX6_told_127 kq99 (ltn rfl) (vpi (k := q) (a := 8) hq8 rfl rfl) (congrArg (g 99) (cli (k := q) (a := 8) hq8 rfl)) rfl ?_
        refine go_goto cx 167 dX6_told_128 rfl ?_
        refine go_iret cx rfl dX6_told_167 ?_
        exact ZI.mk ⟨rfl, Or.inr ⟨7, q, by omega, by omega, rfl, fun _ => rfl, c18, rfl⟩⟩
      · have cq : ¬ inI (nI vn) of = 0 := c18
        obtain ⟨q, hq, eq⟩ := in_ok (k := vn) (by omega) cq
        subst eq
        have hq8 : q < 8 := by omega
        refine go_iload_n (pc' := 25) cx dX6_told_24 rfl rfl ?_
        refine go_iconst (pc' := 26) cx 4 dX6_told_25 rfl rfl ?_
        refine go_icmp_ge (pc' := 29) cx 75 dX6_told_26 rfl rfl (fun _ => ?_) (fun hh => absurd hh (by decide))
        refine go_iload_n (pc' := 76) cx dX6_told_75 rfl rfl ?_
        refine go_bipush (pc' := 78) cx 7 dX6_told_76 rfl rfl ?_
        refine go_icmp_ge (pc' := 81) cx 116 dX6_told_78 rfl rfl (fun _ => ?_) (fun hh => absurd hh (by decide))
        refine go_iload_n (pc' := 117) cx dX6_told_116 rfl rfl ?_
        refine go_bipush (pc' := 119) cx 7 dX6_told_117 rfl rfl ?_
        refine go_icmp_ne (pc' := 122) cx 131 dX6_told_119 rfl rfl (fun _ => ?_) (fun hh => absurd hh (by decide))
        refine go_iload_n (pc' := 132) cx dX6_told_131 rfl rfl ?_
        refine go_bipush (pc' := 134) cx 8 dX6_told_132 rfl rfl ?_
        refine go_icmp_ne (pc' := 137) cx 146 dX6_told_134 rfl rfl (fun hh => absurd hh (by decide)) (fun _ => ?_)
        refine go_aload_n (pc' := 138) cx dX6_told_137 rfl rfl ?_
        refine go_getr (pc' := 141) cx 100 fX6_50 dX6_told_138 kq88 (ltn rfl) (ltn rfl) rfl rfl rfl ?_
        refine go_iload_n (pc' := 142) cx dX6_told_141 rfl rfl ?_
        refine go_iald (pc' := 143) cx (g 100 q) dX6_told_142 kq100 (ltn rfl) (vpi (k := q) (a := 8) hq8 rfl rfl) (congrArg (g 100) (cli (k := q) (a := 8) hq8 rfl)) rfl ?_
        refine go_goto cx 167 dX6_told_143 rfl ?_
        refine go_iret cx rfl dX6_told_167 ?_
        exact ZI.mk ⟨rfl, Or.inr ⟨8, q, by omega, by omega, rfl, fun _ => rfl, c18, rfl⟩⟩
      · have cq : ¬ inI (nI vn) of = 0 := c18
        obtain ⟨q, hq, eq⟩ := in_ok (k := vn) (by omega) cq
        subst eq
        have hq8 : q < 8 := by omega
        refine go_iload_n (pc' := 25) cx dX6_told_24 rfl rfl ?_
        refine go_iconst (pc' := 26) cx 4 dX6_told_25 rfl rfl ?_
        refine go_icmp_ge (pc' := 29) cx 75 dX6_told_26 rfl rfl (fun _ => ?_) (fun hh => absurd hh (by decide))
        refine go_iload_n (pc' := 76) cx dX6_told_75 rfl rfl ?_
        refine go_bipush (pc' := 78) cx 7 dX6_told_76 rfl rfl ?_
        refine go_icmp_ge (pc' := 81) cx 116 dX6_told_78 rfl rfl (fun _ => ?_) (fun hh => absurd hh (by decide))
        refine go_iload_n (pc' := 117) cx dX6_told_116 rfl rfl ?_
        refine go_bipush (pc' := 119) cx 7 dX6_told_117 rfl rfl ?_
        refine go_icmp_ne (pc' := 122) cx 131 dX6_told_119 rfl rfl (fun _ => ?_) (fun hh => absurd hh (by decide))
        refine go_iload_n (pc' := 132) cx dX6_told_131 rfl rfl ?_
        refine go_bipush (pc' := 134) cx 8 dX6_told_132 rfl rfl ?_
        refine go_icmp_ne (pc' := 137) cx 146 dX6_told_134 rfl rfl (fun _ => ?_) (fun hh => absurd hh (by decide))
        refine go_iload_n (pc' := 147) cx dX6_told_146 rfl rfl ?_
        refine go_bipush (pc' := 149) cx 9 dX6_told_147 rfl rfl ?_
        refine go_icmp_ne (pc' := 152) cx 161 dX6_told_149 rfl rfl (fun hh => absurd hh (by decide)) (fun _ => ?_)
        refine go_aload_n (pc' := 153) cx dX6_told_152 rfl rfl ?_
        refine go_getr (pc' := 156) cx 101 fX6_53 dX6_told_153 kq88 (ltn rfl) (ltn rfl) rfl rfl rfl ?_
        refine go_iload_n (pc' := 157) cx dX6_told_156 rfl rfl ?_
        refine go_iald (pc' := 158) cx (g 101 q) dX6_told_157 kq101 (ltn rfl) (vpi (k := q) (a := 8) hq8 rfl rfl) (congrArg (g 101) (cli (k := q) (a := 8) hq8 rfl)) rfl ?_
        refine go_goto cx 167 dX6_told_158 rfl ?_
        refine go_iret cx rfl dX6_told_167 ?_
        exact ZI.mk ⟨rfl, Or.inr ⟨9, q, by omega, by omega, rfl, fun _ => rfl, c18, rfl⟩⟩
      · have cq : ¬ inI (nI hn) of = 0 := c18
        obtain ⟨q, hq, eq⟩ := in_ok (k := hn) (by omega) cq
        subst eq
        have hq8 : q < 5 := by omega
        refine go_iload_n (pc' := 25) cx dX6_told_24 rfl rfl ?_
        refine go_iconst (pc' := 26) cx 4 dX6_told_25 rfl rfl ?_
        refine go_icmp_ge (pc' := 29) cx 75 dX6_told_26 rfl rfl (fun _ => ?_) (fun hh => absurd hh (by decide))
        refine go_iload_n (pc' := 76) cx dX6_told_75 rfl rfl ?_
        refine go_bipush (pc' := 78) cx 7 dX6_told_76 rfl rfl ?_
        refine go_icmp_ge (pc' := 81) cx 116 dX6_told_78 rfl rfl (fun _ => ?_) (fun hh => absurd hh (by decide))
        refine go_iload_n (pc' := 117) cx dX6_told_116 rfl rfl ?_
        refine go_bipush (pc' := 119) cx 7 dX6_told_117 rfl rfl ?_
        refine go_icmp_ne (pc' := 122) cx 131 dX6_told_119 rfl rfl (fun _ => ?_) (fun hh => absurd hh (by decide))
        refine go_iload_n (pc' := 132) cx dX6_told_131 rfl rfl ?_
        refine go_bipush (pc' := 134) cx 8 dX6_told_132 rfl rfl ?_
        refine go_icmp_ne (pc' := 137) cx 146 dX6_told_134 rfl rfl (fun _ => ?_) (fun hh => absurd hh (by decide))
        refine go_iload_n (pc' := 147) cx dX6_told_146 rfl rfl ?_
        refine go_bipush (pc' := 149) cx 9 dX6_told_147 rfl rfl ?_
        refine go_icmp_ne (pc' := 152) cx 161 dX6_told_149 rfl rfl (fun _ => ?_) (fun hh => absurd hh (by decide))
        refine go_aload_n (pc' := 162) cx dX6_told_161 rfl rfl ?_
        refine go_getr (pc' := 165) cx 95 fX6_35 dX6_told_162 kq88 (ltn rfl) (ltn rfl) rfl rfl rfl ?_
        refine go_iload_n (pc' := 166) cx dX6_told_165 rfl rfl ?_
        refine go_iald (pc' := 167) cx (g 95 q) dX6_told_166 kq95 (ltn rfl) (vpi (k := q) (a := 5) hq8 rfl rfl) (congrArg (g 95) (cli (k := q) (a := 5) hq8 rfl)) rfl ?_
        refine go_iret cx rfl dX6_told_167 ?_
        exact ZI.mk ⟨rfl, Or.inr ⟨10, q, by omega, by omega, rfl, fun _ => rfl, c18, rfl⟩⟩
    · refine go_bipush (pc' := 23) cx (-100) dX6_told_21 rfl rfl ?_
      refine go_iret cx rfl dX6_told_23 ?_
      exact ZI.mk ⟨rfl, Or.inl ⟨rfl, Or.inr c18⟩⟩
