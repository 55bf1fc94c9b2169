/-! THE REFERENCE: what is told, what is set -/
def nmM (hn vn : Nat) (w q : Int32) : Int32 := if w = 3 then 1 else if w < 3 then inI 4 q else if w < 7 then inI (nI hn) q else if w = 10 then inI (nI hn) q else inI (nI vn) q

theorem inI_z (k x : Int32) : ¬ inI k x = 0 → inI k x = 1 := by
  unfold inI
  intro h
  split at h
  · exact absurd rfl h
  · split at h
    · exact absurd rfl h
    · rw [if_neg (by assumption), if_neg (by assumption)]

set_option maxHeartbeats 1000000 in
set_option maxRecDepth 20000 in
theorem c_X6_isOf (l : Launch) (E : Ev) {g : IG} {o : Option Nat} {z : Int64} {hn vn : Nat} (hhn : hn ≤ 5) (hvn : vn ≤ 8) (h15 : g 88 15 = nI hn) (h19 : g 88 19 = nI vn) (w q : Int32) : Ct l E 115 yX6_isOf cX6_isOf 3 (some .boolean) 3 [.ref (E.2.1 88), .int w, .int q] g (RFo o) z (Zi (RFo o) z (nmM hn vn w q) g) := by
  refine Ct.of (lv0 := [(0, .ref (E.2.1 88)), (1, .int w), (2, .int q)]) (by decide) (Nat.le_of_ble_eq_true rfl) rfl ?_
  intro p e s m below meth c cx
  refine go_iload_n (pc' := 1) cx dX6_isOf_0 rfl rfl ?_
  refine go_iconst (pc' := 2) cx 3 dX6_isOf_1 rfl rfl ?_
  refine go_icmp_eq (pc' := 5) cx 51 dX6_isOf_2 rfl rfl (fun c2 => ?_) (fun c2 => ?_)
  · refine go_iconst (pc' := 52) cx 1 dX6_isOf_51 rfl rfl ?_
    refine go_goto cx 56 dX6_isOf_52 rfl ?_
    refine go_zret cx (Or.inr rfl) rfl dX6_isOf_56 ?_
    exact Zi.mk (by
      unfold nmM
      rw [if_pos c2]) rfl
  · refine go_iload_n (pc' := 6) cx dX6_isOf_5 rfl rfl ?_
    refine go_iconst (pc' := 7) cx 3 dX6_isOf_6 rfl rfl ?_
    refine go_icmp_ge (pc' := 10) cx 20 dX6_isOf_7 rfl rfl (fun c7 => ?_) (fun c7 => ?_)
    · have c7n := Int32.not_lt.mpr c7
      refine go_iload_n (pc' := 21) cx dX6_isOf_20 rfl rfl ?_
      refine go_bipush (pc' := 23) cx 7 dX6_isOf_21 rfl rfl ?_
      refine go_icmp_lt (pc' := 26) cx 32 dX6_isOf_23 rfl rfl (fun c23 => ?_) (fun c23 => ?_)
      · have c23n := Int32.not_le.mpr c23
        refine go_aload_n (pc' := 33) cx dX6_isOf_32 rfl rfl ?_
        refine go_iload_n (pc' := 34) cx dX6_isOf_33 rfl rfl ?_
        refine go_cVi (pc' := 37) cx (c_X6_isHand l E (g := g) (hn := hn) h15 (by omega) q) mX6_isHand lX6_122 dX6_isOf_34 kq88 (ltn rfl) (ltn rfl) rfl rfl rfl rfl (ltn rfl) (Nat.le_of_ble_eq_true rfl) (Nat.le_of_ble_eq_true rfl) rfl ?_
        refine go_if_eq (pc' := 40) cx 55 dX6_isOf_37 rfl rfl (fun c37 => ?_) (fun c37 => ?_)
        · refine go_iconst (pc' := 56) cx 0 dX6_isOf_55 rfl rfl ?_
          refine go_zret cx (Or.inl rfl) rfl dX6_isOf_56 ?_
          exact Zi.mk (by
            unfold nmM
            rw [if_neg c2]
            have q7 := Int32.not_lt.mpr c7
            rw [if_neg q7, if_pos c23]
            exact c37.symm) rfl
        · refine go_goto cx 51 dX6_isOf_40 rfl ?_
          refine go_iconst (pc' := 52) cx 1 dX6_isOf_51 rfl rfl ?_
          refine go_goto cx 56 dX6_isOf_52 rfl ?_
          refine go_zret cx (Or.inr rfl) rfl dX6_isOf_56 ?_
          exact Zi.mk (by
            unfold nmM
            rw [if_neg c2]
            have q7 := Int32.not_lt.mpr c7
            rw [if_neg q7, if_pos c23]
            exact (inI_z (nI hn) q c37).symm) rfl
      · have c23n := Int32.not_lt.mp c23
        refine go_iload_n (pc' := 27) cx dX6_isOf_26 rfl rfl ?_
        refine go_bipush (pc' := 29) cx 10 dX6_isOf_27 rfl rfl ?_
        refine go_icmp_ne (pc' := 32) cx 43 dX6_isOf_29 rfl rfl (fun c29 => ?_) (fun c29 => ?_)
        · refine go_aload_n (pc' := 44) cx dX6_isOf_43 rfl rfl ?_
          refine go_iload_n (pc' := 45) cx dX6_isOf_44 rfl rfl ?_
          refine go_cVi (pc' := 48) cx (c_X6_isVisit l E (g := g) (vn := vn) h19 (by omega) q) mX6_isVisit lX6_125 dX6_isOf_45 kq88 (ltn rfl) (ltn rfl) rfl rfl rfl rfl (ltn rfl) (Nat.le_of_ble_eq_true rfl) (Nat.le_of_ble_eq_true rfl) rfl ?_
          refine go_if_eq (pc' := 51) cx 55 dX6_isOf_48 rfl rfl (fun c48 => ?_) (fun c48 => ?_)
          · refine go_iconst (pc' := 56) cx 0 dX6_isOf_55 rfl rfl ?_
            refine go_zret cx (Or.inl rfl) rfl dX6_isOf_56 ?_
            exact Zi.mk (by
              unfold nmM
              rw [if_neg c2]
              have q7 := Int32.not_lt.mpr c7
              rw [if_neg q7, if_neg c23, if_neg c29]
              exact c48.symm) rfl
          · refine go_iconst (pc' := 52) cx 1 dX6_isOf_51 rfl rfl ?_
            refine go_goto cx 56 dX6_isOf_52 rfl ?_
            refine go_zret cx (Or.inr rfl) rfl dX6_isOf_56 ?_
            exact Zi.mk (by
              unfold nmM
              rw [if_neg c2]
              have q7 := Int32.not_lt.mpr c7
              rw [if_neg q7, if_neg c23, if_neg c29]
              exact (inI_z (nI vn) q c48).symm) rfl
        · refine go_aload_n (pc' := 33) cx dX6_isOf_32 rfl rfl ?_
          refine go_iload_n (pc' := 34) cx dX6_isOf_33 rfl rfl ?_
          refine go_cVi (pc' := 37) cx (c_X6_isHand l E (g := g) (hn := hn) h15 (by omega) q) mX6_isHand lX6_122 dX6_isOf_34 kq88 (ltn rfl) (ltn rfl) rfl rfl rfl rfl (ltn rfl) (Nat.le_of_ble_eq_true rfl) (Nat.le_of_ble_eq_true rfl) rfl ?_
          refine go_if_eq (pc' := 40) cx 55 dX6_isOf_37 rfl rfl (fun c37 => ?_) (fun c37 => ?_)
          · refine go_iconst (pc' := 56) cx 0 dX6_isOf_55 rfl rfl ?_
            refine go_zret cx (Or.inl rfl) rfl dX6_isOf_56 ?_
            exact Zi.mk (by
              unfold nmM
              rw [if_neg c2]
              have q7 := Int32.not_lt.mpr c7
              rw [if_neg q7, if_neg c23, if_pos c29]
              exact c37.symm) rfl
          · refine go_goto cx 51 dX6_isOf_40 rfl ?_
            refine go_iconst (pc' := 52) cx 1 dX6_isOf_51 rfl rfl ?_
            refine go_goto cx 56 dX6_isOf_52 rfl ?_
            refine go_zret cx (Or.inr rfl) rfl dX6_isOf_56 ?_
            exact Zi.mk (by
              unfold nmM
              rw [if_neg c2]
              have q7 := Int32.not_lt.mpr c7
              rw [if_neg q7, if_neg c23, if_pos c29]
              exact (inI_z (nI hn) q c37).symm) rfl
    · have c7n := Int32.not_le.mp c7
      refine go_iload_n (pc' := 11) cx dX6_isOf_10 rfl rfl ?_
      refine go_cSi (pc' := 14) cx (c_X6_isPlace l E (g := g) q) mX6_isPlace lX6_118 dX6_isOf_11 rfl rfl rfl (ltn rfl) (Nat.le_of_ble_eq_true rfl) (Nat.le_of_ble_eq_true rfl) rfl ?_
      refine go_if_eq (pc' := 17) cx 55 dX6_isOf_14 rfl rfl (fun c14 => ?_) (fun c14 => ?_)
      · refine go_iconst (pc' := 56) cx 0 dX6_isOf_55 rfl rfl ?_
        refine go_zret cx (Or.inl rfl) rfl dX6_isOf_56 ?_
        exact Zi.mk (by
          unfold nmM
          rw [if_neg c2]
          rw [if_pos (Int32.not_le.mp c7)]
          exact c14.symm) rfl
      · refine go_goto cx 51 dX6_isOf_17 rfl ?_
        refine go_iconst (pc' := 52) cx 1 dX6_isOf_51 rfl rfl ?_
        refine go_goto cx 56 dX6_isOf_52 rfl ?_
        refine go_zret cx (Or.inr rfl) rfl dX6_isOf_56 ?_
        exact Zi.mk (by
          unfold nmM
          rw [if_neg c2]
          rw [if_pos (Int32.not_le.mp c7)]
          exact (inI_z 4 q c14).symm) rfl
