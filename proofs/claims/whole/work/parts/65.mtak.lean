/-! THE REFERENCE: what is taken -/
def KdM (g : IG) (hn : Nat) : Prop := ∀ h, h < hn → ∃ k, k < 6 ∧ g 95 h = nI k
theorem k6 {k : Nat} (h : k < 6) : k = 0 ∨ k = 1 ∨ k = 2 ∨ k = 3 ∨ k = 4 ∨ k = 5 := by omega
theorem w6 {x : Int32} (h : ¬ inX 0 5 x = 0) : ∃ w, w < 6 ∧ x = nI w := by
  obtain ⟨h0, h4⟩ := inX_ng h
  obtain ⟨j, hj, rfl⟩ := nI_of h0
  have : ¬ 5 < j := fun q => h4 ((nI_ltI (a := 5) (by omega) hj).mpr q)
  exact ⟨j, by omega, rfl⟩
def tkM (g : IG) (hn : Nat) (x1 x2 : Int32) : Int32 := if inX 0 5 x2 = 0 then -2 else if inI (nI hn) x1 = 0 then -11 else if undV (g 95 (clI x1)) x2 = 0 then -13 else g 96 (clI x1)

set_option maxHeartbeats 1000000 in
set_option maxRecDepth 20000 in
theorem c_X6_taken (l : Launch) (E : Ev) {g : IG} {o : Option Nat} {z : Int64} {hn vn ru tc : Nat} {CS : CSt} (hX : XM g hn vn ru tc CS) (hK : KdM g hn) (x1 x2 : Int32) : Ct l E 115 yX6_taken cX6_taken 4 (some .int) 3 [.ref (E.2.1 88), .int x1, .int x2] g (RFo o) z (Zi (RFo o) z (tkM g hn x1 x2) g) := by
  refine Ct.of (lv0 := [(0, .ref (E.2.1 88)), (1, .int x1), (2, .int x2)]) (by decide) (Nat.le_of_ble_eq_true rfl) rfl ?_
  intro p e s m below meth c cx
  have hb := hX.1
  have hS0 := hX.2.2.2.2.2.2.2.2.2.2
  refine go_iload_n (pc' := 1) cx dX6_taken_0 rfl rfl ?_
  refine go_i2l (pc' := 2) cx dX6_taken_1 rfl ?_
  refine go_lconst (pc' := 3) cx 0 dX6_taken_2 rfl rfl ?_
  refine go_val (w := .long (((0 : Int32)).toInt64)) (congrArg Value.long (by decide)) ?_
  refine go_ldc2 (pc' := 6) cx 5 kX6_144 dX6_taken_3 rfl ?_
  refine go_val (w := .long (((5 : Int32)).toInt64)) (congrArg Value.long (by decide)) ?_
  refine go_cSi (pc' := 9) cx (c_X6_in l E (g := g) x2 (0 : Int32) (5 : Int32)) mX6_in lX6_108 dX6_taken_6 rfl rfl rfl (ltn rfl) (Nat.le_of_ble_eq_true rfl) (Nat.le_of_ble_eq_true rfl) rfl ?_
  refine go_if_ne (pc' := 12) cx 15 dX6_taken_9 rfl rfl (fun c9 => ?_) (fun c9 => ?_)
  · refine go_aload_n (pc' := 16) cx dX6_taken_15 rfl rfl ?_
    refine go_iload_n (pc' := 17) cx dX6_taken_16 rfl rfl ?_
    refine go_cVi (pc' := 20) cx (c_X6_isHand l E (g := g) (hn := hn) hX.2.1 (by omega) x1) mX6_isHand lX6_122 dX6_taken_17 kq88 (ltn rfl) (ltn rfl) rfl rfl rfl rfl (ltn rfl) (Nat.le_of_ble_eq_true rfl) (Nat.le_of_ble_eq_true rfl) rfl ?_
    refine go_if_ne (pc' := 23) cx 26 dX6_taken_20 rfl rfl (fun c20 => ?_) (fun c20 => ?_)
    · obtain ⟨h, hh, eh⟩ := in_ok (k := hn) (by omega) c20
      subst eh
      have clh := clI_n (k := h) (by omega)
      have hh5 : h < 5 := by omega
      obtain ⟨k9, hk9, ek9⟩ := hK h hh
      obtain ⟨j9, hj9, ej9⟩ := w6 c9
      subst ej9
      rcases k6 hk9 with rfl | rfl | rfl | rfl | rfl | rfl <;> rcases k6 hj9 with rfl | rfl | rfl | rfl | rfl | rfl
      · refine go_aload_n (pc' := 27) cx dX6_taken_26 rfl rfl ?_
        refine go_getr (pc' := 30) cx 95 fX6_35 dX6_taken_27 kq88 (ltn rfl) (ltn rfl) rfl rfl rfl ?_
        refine go_iload_n (pc' := 31) cx dX6_taken_30 rfl rfl ?_
        refine go_iald (pc' := 32) cx 0 dX6_taken_31 kq95 (ltn rfl) (vpi (k := h) (a := 5) hh5 rfl rfl) ((congrArg (g 95) (cli (k := h) (a := 5) hh5 rfl)).trans ek9) rfl ?_
        refine go_istore_n (pc' := 33) cx dX6_taken_32 (ltn rfl) [(3, .int 0), (0, .ref (E.2.1 88)), (1, .int (nI h)), (2, .int 0)] rfl rfl ?_
        refine go_iload_n (pc' := 34) cx dX6_taken_33 rfl rfl ?_
        refine go_iconst (pc' := 35) cx (-1) dX6_taken_34 rfl rfl ?_
        refine go_icmp_eq (pc' := 38) cx 51 dX6_taken_35 rfl rfl (fun hh9 => absurd hh9 (by decide)) (fun _ => ?_)
        refine go_iload_n (pc' := 39) cx dX6_taken_38 rfl rfl ?_
        refine go_iload_n (pc' := 40) cx dX6_taken_39 rfl rfl ?_
        refine go_icmp_eq (pc' := 43) cx 51 dX6_taken_40 rfl rfl (fun _ => ?_) (fun hh => absurd hh (by decide))
        refine go_iload_n (pc' := 52) cx dX6_taken_51 rfl rfl ?_
        refine go_iload_n (pc' := 53) cx dX6_taken_52 rfl rfl ?_
        refine go_icmp_ne (pc' := 56) cx 65 dX6_taken_53 rfl rfl (fun hh => absurd hh (by decide)) (fun _ => ?_)
        refine go_aload_n (pc' := 57) cx dX6_taken_56 rfl rfl ?_
        refine go_getr (pc' := 60) cx 96 fX6_38 dX6_taken_57 kq88 (ltn rfl) (ltn rfl) rfl rfl rfl ?_
        refine go_iload_n (pc' := 61) cx dX6_taken_60 rfl rfl ?_
        refine go_iald (pc' := 62) cx (g 96 h) dX6_taken_61 kq96 (ltn rfl) (vpi (k := h) (a := 5) hh5 rfl rfl) (congrArg (g 96) (cli (k := h) (a := 5) hh5 rfl)) rfl ?_
        refine go_goto cx 67 dX6_taken_62 rfl ?_
        refine go_iret cx rfl dX6_taken_67 ?_
        exact Zi.mk (by
          unfold tkM
          rw [if_neg c9, if_neg c20, clh, ek9]
          exact (if_neg (by decide)).symm) rfl
      · refine go_aload_n (pc' := 27) cx dX6_taken_26 rfl rfl ?_
        refine go_getr (pc' := 30) cx 95 fX6_35 dX6_taken_27 kq88 (ltn rfl) (ltn rfl) rfl rfl rfl ?_
        refine go_iload_n (pc' := 31) cx dX6_taken_30 rfl rfl ?_
        refine go_iald (pc' := 32) cx 0 dX6_taken_31 kq95 (ltn rfl) (vpi (k := h) (a := 5) hh5 rfl rfl) ((congrArg (g 95) (cli (k := h) (a := 5) hh5 rfl)).trans ek9) rfl ?_
        refine go_istore_n (pc' := 33) cx dX6_taken_32 (ltn rfl) [(3, .int 0), (0, .ref (E.2.1 88)), (1, .int (nI h)), (2, .int 1)] rfl rfl ?_
        refine go_iload_n (pc' := 34) cx dX6_taken_33 rfl rfl ?_
        refine go_iconst (pc' := 35) cx (-1) dX6_taken_34 rfl rfl ?_
        refine go_icmp_eq (pc' := 38) cx 51 dX6_taken_35 rfl rfl (fun hh9 => absurd hh9 (by decide)) (fun _ => ?_)
        refine go_iload_n (pc' := 39) cx dX6_taken_38 rfl rfl ?_
        refine go_iload_n (pc' := 40) cx dX6_taken_39 rfl rfl ?_
        refine go_icmp_eq (pc' := 43) cx 51 dX6_taken_40 rfl rfl (fun hh => absurd hh (by decide)) (fun _ => ?_)
        refine go_iload_n (pc' := 44) cx dX6_taken_43 rfl rfl ?_
        refine go_cSi (pc' := 47) cx (c_X6_over l E (g := g) 0) mX6_over lX6_468 dX6_taken_44 rfl rfl rfl (ltn rfl) (Nat.le_of_ble_eq_true rfl) (Nat.le_of_ble_eq_true rfl) rfl ?_
        refine go_val (w := .int (-1)) (congrArg Value.int (by decide)) ?_
        refine go_istore_n (pc' := 48) cx dX6_taken_47 (ltn rfl) [(3, .int (-1)), (0, .ref (E.2.1 88)), (1, .int (nI h)), (2, .int 1)] rfl rfl ?_
        refine go_goto cx 33 dX6_taken_48 rfl ?_
        refine go_iload_n (pc' := 34) cx dX6_taken_33 rfl rfl ?_
        refine go_iconst (pc' := 35) cx (-1) dX6_taken_34 rfl rfl ?_
        refine go_icmp_eq (pc' := 38) cx 51 dX6_taken_35 rfl rfl (fun _ => ?_) (fun hh9 => absurd rfl hh9)
        refine go_iload_n (pc' := 52) cx dX6_taken_51 rfl rfl ?_
        refine go_iload_n (pc' := 53) cx dX6_taken_52 rfl rfl ?_
        refine go_icmp_ne (pc' := 56) cx 65 dX6_taken_53 rfl rfl (fun _ => ?_) (fun hh9 => absurd hh9 (by decide))
        refine go_bipush (pc' := 67) cx (-13) dX6_taken_65 rfl rfl ?_
        refine go_iret cx rfl dX6_taken_67 ?_
        exact Zi.mk (by
          unfold tkM
          rw [if_neg c9, if_neg c20, clh, ek9]
          exact (if_pos (by decide)).symm) rfl
      · refine go_aload_n (pc' := 27) cx dX6_taken_26 rfl rfl ?_
        refine go_getr (pc' := 30) cx 95 fX6_35 dX6_taken_27 kq88 (ltn rfl) (ltn rfl) rfl rfl rfl ?_
        refine go_iload_n (pc' := 31) cx dX6_taken_30 rfl rfl ?_
        refine go_iald (pc' := 32) cx 0 dX6_taken_31 kq95 (ltn rfl) (vpi (k := h) (a := 5) hh5 rfl rfl) ((congrArg (g 95) (cli (k := h) (a := 5) hh5 rfl)).trans ek9) rfl ?_
        refine go_istore_n (pc' := 33) cx dX6_taken_32 (ltn rfl) [(3, .int 0), (0, .ref (E.2.1 88)), (1, .int (nI h)), (2, .int 2)] rfl rfl ?_
        refine go_iload_n (pc' := 34) cx dX6_taken_33 rfl rfl ?_
        refine go_iconst (pc' := 35) cx (-1) dX6_taken_34 rfl rfl ?_
        refine go_icmp_eq (pc' := 38) cx 51 dX6_taken_35 rfl rfl (fun hh9 => absurd hh9 (by decide)) (fun _ => ?_)
        refine go_iload_n (pc' := 39) cx dX6_taken_38 rfl rfl ?_
        refine go_iload_n (pc' := 40) cx dX6_taken_39 rfl rfl ?_
        refine go_icmp_eq (pc' := 43) cx 51 dX6_taken_40 rfl rfl (fun hh => absurd hh (by decide)) (fun _ => ?_)
        refine go_iload_n (pc' := 44) cx dX6_taken_43 rfl rfl ?_
        refine go_cSi (pc' := 47) cx (c_X6_over l E (g := g) 0) mX6_over lX6_468 dX6_taken_44 rfl rfl rfl (ltn rfl) (Nat.le_of_ble_eq_true rfl) (Nat.le_of_ble_eq_true rfl) rfl ?_
        refine go_val (w := .int (-1)) (congrArg Value.int (by decide)) ?_
        refine go_istore_n (pc' := 48) cx dX6_taken_47 (ltn rfl) [(3, .int (-1)), (0, .ref (E.2.1 88)), (1, .int (nI h)), (2, .int 2)] rfl rfl ?_
        refine go_goto cx 33 dX6_taken_48 rfl ?_
        refine go_iload_n (pc' := 34) cx dX6_taken_33 rfl rfl ?_
        refine go_iconst (pc' := 35) cx (-1) dX6_taken_34 rfl rfl ?_
        refine go_icmp_eq (pc' := 38) cx 51 dX6_taken_35 rfl rfl (fun _ => ?_) (fun hh9 => absurd rfl hh9)
        refine go_iload_n (pc' := 52) cx dX6_taken_51 rfl rfl ?_
        refine go_iload_n (pc' := 53) cx dX6_taken_52 rfl rfl ?_
        refine go_icmp_ne (pc' := 56) cx 65 dX6_taken_53 rfl rfl (fun _ => ?_) (fun hh9 => absurd hh9 (by decide))
        refine go_bipush (pc' := 67) cx (-13) dX6_taken_65 rfl rfl ?_
        refine go_iret cx rfl dX6_taken_67 ?_
        exact Zi.mk (by
          unfold tkM
          rw [if_neg c9, if_neg c20, clh, ek9]
          exact (if_pos (by decide)).symm) rfl
      · refine go_aload_n (pc' := 27) cx dX6_taken_26 rfl rfl ?_
        refine go_getr (pc' := 30) cx 95 fX6_35 dX6_taken_27 kq88 (ltn rfl) (ltn rfl) rfl rfl rfl ?_
        refine go_iload_n (pc' := 31) cx dX6_taken_30 rfl rfl ?_
        refine go_iald (pc' := 32) cx 0 dX6_taken_31 kq95 (ltn rfl) (vpi (k := h) (a := 5) hh5 rfl rfl) ((congrArg (g 95) (cli (k := h) (a := 5) hh5 rfl)).trans ek9) rfl ?_
        refine go_istore_n (pc' := 33) cx dX6_taken_32 (ltn rfl) [(3, .int 0), (0, .ref (E.2.1 88)), (1, .int (nI h)), (2, .int 3)] rfl rfl ?_
        refine go_iload_n (pc' := 34) cx dX6_taken_33 rfl rfl ?_
        refine go_iconst (pc' := 35) cx (-1) dX6_taken_34 rfl rfl ?_
        refine go_icmp_eq (pc' := 38) cx 51 dX6_taken_35 rfl rfl (fun hh9 => absurd hh9 (by decide)) (fun _ => ?_)
        refine go_iload_n (pc' := 39) cx dX6_taken_38 rfl rfl ?_
        refine go_iload_n (pc' := 40) cx dX6_taken_39 rfl rfl ?_
        refine go_icmp_eq (pc' := 43) cx 51 dX6_taken_40 rfl rfl (fun hh => absurd hh (by decide)) (fun _ => ?_)
        refine go_iload_n (pc' := 44) cx dX6_taken_43 rfl rfl ?_
        refine go_cSi (pc' := 47) cx (c_X6_over l E (g := g) 0) mX6_over lX6_468 dX6_taken_44 rfl rfl rfl (ltn rfl) (Nat.le_of_ble_eq_true rfl) (Nat.le_of_ble_eq_true rfl) rfl ?_
        refine go_val (w := .int (-1)) (congrArg Value.int (by decide)) ?_
        refine go_istore_n (pc' := 48) cx dX6_taken_47 (ltn rfl) [(3, .int (-1)), (0, .ref (E.2.1 88)), (1, .int (nI h)), (2, .int 3)] rfl rfl ?_
        refine go_goto cx 33 dX6_taken_48 rfl ?_
        refine go_iload_n (pc' := 34) cx dX6_taken_33 rfl rfl ?_
        refine go_iconst (pc' := 35) cx (-1) dX6_taken_34 rfl rfl ?_
        refine go_icmp_eq (pc' := 38) cx 51 dX6_taken_35 rfl rfl (fun _ => ?_) (fun hh9 => absurd rfl hh9)
        refine go_iload_n (pc' := 52) cx dX6_taken_51 rfl rfl ?_
        refine go_iload_n (pc' := 53) cx dX6_taken_52 rfl rfl ?_
        refine go_icmp_ne (pc' := 56) cx 65 dX6_taken_53 rfl rfl (fun _ => ?_) (fun hh9 => absurd hh9 (by decide))
        refine go_bipush (pc' := 67) cx (-13) dX6_taken_65 rfl rfl ?_
        refine go_iret cx rfl dX6_taken_67 ?_
        exact Zi.mk (by
          unfold tkM
          rw [if_neg c9, if_neg c20, clh, ek9]
          exact (if_pos (by decide)).symm) rfl
      · refine go_aload_n (pc' := 27) cx dX6_taken_26 rfl rfl ?_
        refine go_getr (pc' := 30) cx 95 fX6_35 dX6_taken_27 kq88 (ltn rfl) (ltn rfl) rfl rfl rfl ?_
        refine go_iload_n (pc' := 31) cx dX6_taken_30 rfl rfl ?_
        refine go_iald (pc' := 32) cx 0 dX6_taken_31 kq95 (ltn rfl) (vpi (k := h) (a := 5) hh5 rfl rfl) ((congrArg (g 95) (cli (k := h) (a := 5) hh5 rfl)).trans ek9) rfl ?_
        refine go_istore_n (pc' := 33) cx dX6_taken_32 (ltn rfl) [(3, .int 0), (0, .ref (E.2.1 88)), (1, .int (nI h)), (2, .int 4)] rfl rfl ?_
        refine go_iload_n (pc' := 34) cx dX6_taken_33 rfl rfl ?_
        refine go_iconst (pc' := 35) cx (-1) dX6_taken_34 rfl rfl ?_
        refine go_icmp_eq (pc' := 38) cx 51 dX6_taken_35 rfl rfl (fun hh9 => absurd hh9 (by decide)) (fun _ => ?_)
        refine go_iload_n (pc' := 39) cx dX6_taken_38 rfl rfl ?_
        refine go_iload_n (pc' := 40) cx dX6_taken_39 rfl rfl ?_
        refine go_icmp_eq (pc' := 43) cx 51 dX6_taken_40 rfl rfl (fun hh => absurd hh (by decide)) (fun _ => ?_)
        refine go_iload_n (pc' := 44) cx dX6_taken_43 rfl rfl ?_
        refine go_cSi (pc' := 47) cx (c_X6_over l E (g := g) 0) mX6_over lX6_468 dX6_taken_44 rfl rfl rfl (ltn rfl) (Nat.le_of_ble_eq_true rfl) (Nat.le_of_ble_eq_true rfl) rfl ?_
        refine go_val (w := .int (-1)) (congrArg Value.int (by decide)) ?_
        refine go_istore_n (pc' := 48) cx dX6_taken_47 (ltn rfl) [(3, .int (-1)), (0, .ref (E.2.1 88)), (1, .int (nI h)), (2, .int 4)] rfl rfl ?_
        refine go_goto cx 33 dX6_taken_48 rfl ?_
        refine go_iload_n (pc' := 34) cx dX6_taken_33 rfl rfl ?_
        refine go_iconst (pc' := 35) cx (-1) dX6_taken_34 rfl rfl ?_
        refine go_icmp_eq (pc' := 38) cx 51 dX6_taken_35 rfl rfl (fun _ => ?_) (fun hh9 => absurd rfl hh9)
        refine go_iload_n (pc' := 52) cx dX6_taken_51 rfl rfl ?_
        refine go_iload_n (pc' := 53) cx dX6_taken_52 rfl rfl ?_
        refine go_icmp_ne (pc' := 56) cx 65 dX6_taken_53 rfl rfl (fun _ => ?_) (fun hh9 => absurd hh9 (by decide))
        refine go_bipush (pc' := 67) cx (-13) dX6_taken_65 rfl rfl ?_
        refine go_iret cx rfl dX6_taken_67 ?_
        exact Zi.mk (by
          unfold tkM
          rw [if_neg c9, if_neg c20, clh, ek9]
          exact (if_pos (by decide)).symm) rfl
      · refine go_aload_n (pc' := 27) cx dX6_taken_26 rfl rfl ?_
        refine go_getr (pc' := 30) cx 95 fX6_35 dX6_taken_27 kq88 (ltn rfl) (ltn rfl) rfl rfl rfl ?_
        refine go_iload_n (pc' := 31) cx dX6_taken_30 rfl rfl ?_
        refine go_iald (pc' := 32) cx 0 dX6_taken_31 kq95 (ltn rfl) (vpi (k := h) (a := 5) hh5 rfl rfl) ((congrArg (g 95) (cli (k := h) (a := 5) hh5 rfl)).trans ek9) rfl ?_
        refine go_istore_n (pc' := 33) cx dX6_taken_32 (ltn rfl) [(3, .int 0), (0, .ref (E.2.1 88)), (1, .int (nI h)), (2, .int 5)] rfl rfl ?_
        refine go_iload_n (pc' := 34) cx dX6_taken_33 rfl rfl ?_
        refine go_iconst (pc' := 35) cx (-1) dX6_taken_34 rfl rfl ?_
        refine go_icmp_eq (pc' := 38) cx 51 dX6_taken_35 rfl rfl (fun hh9 => absurd hh9 (by decide)) (fun _ => ?_)
        refine go_iload_n (pc' := 39) cx dX6_taken_38 rfl rfl ?_
        refine go_iload_n (pc' := 40) cx dX6_taken_39 rfl rfl ?_
        refine go_icmp_eq (pc' := 43) cx 51 dX6_taken_40 rfl rfl (fun hh => absurd hh (by decide)) (fun _ => ?_)
        refine go_iload_n (pc' := 44) cx dX6_taken_43 rfl rfl ?_
        refine go_cSi (pc' := 47) cx (c_X6_over l E (g := g) 0) mX6_over lX6_468 dX6_taken_44 rfl rfl rfl (ltn rfl) (Nat.le_of_ble_eq_true rfl) (Nat.le_of_ble_eq_true rfl) rfl ?_
        refine go_val (w := .int (-1)) (congrArg Value.int (by decide)) ?_
        refine go_istore_n (pc' := 48) cx dX6_taken_47 (ltn rfl) [(3, .int (-1)), (0, .ref (E.2.1 88)), (1, .int (nI h)), (2, .int 5)] rfl rfl ?_
        refine go_goto cx 33 dX6_taken_48 rfl ?_
        refine go_iload_n (pc' := 34) cx dX6_taken_33 rfl rfl ?_
        refine go_iconst (pc' := 35) cx (-1) dX6_taken_34 rfl rfl ?_
        refine go_icmp_eq (pc' := 38) cx 51 dX6_taken_35 rfl rfl (fun _ => ?_) (fun hh9 => absurd rfl hh9)
        refine go_iload_n (pc' := 52) cx dX6_taken_51 rfl rfl ?_
        refine go_iload_n (pc' := 53) cx dX6_taken_52 rfl rfl ?_
        refine go_icmp_ne (pc' := 56) cx 65 dX6_taken_53 rfl rfl (fun _ => ?_) (fun hh9 => absurd hh9 (by decide))
        refine go_bipush (pc' := 67) cx (-13) dX6_taken_65 rfl rfl ?_
        refine go_iret cx rfl dX6_taken_67 ?_
        exact Zi.mk (by
          unfold tkM
          rw [if_neg c9, if_neg c20, clh, ek9]
          exact (if_pos (by decide)).symm) rfl
      · refine go_aload_n (pc' := 27) cx dX6_taken_26 rfl rfl ?_
        refine go_getr (pc' := 30) cx 95 fX6_35 dX6_taken_27 kq88 (ltn rfl) (ltn rfl) rfl rfl rfl ?_
        refine go_iload_n (pc' := 31) cx dX6_taken_30 rfl rfl ?_
        refine go_iald (pc' := 32) cx 1 dX6_taken_31 kq95 (ltn rfl) (vpi (k := h) (a := 5) hh5 rfl rfl) ((congrArg (g 95) (cli (k := h) (a := 5) hh5 rfl)).trans ek9) rfl ?_
        refine go_istore_n (pc' := 33) cx dX6_taken_32 (ltn rfl) [(3, .int 1), (0, .ref (E.2.1 88)), (1, .int (nI h)), (2, .int 0)] rfl rfl ?_
        refine go_iload_n (pc' := 34) cx dX6_taken_33 rfl rfl ?_
        refine go_iconst (pc' := 35) cx (-1) dX6_taken_34 rfl rfl ?_
        refine go_icmp_eq (pc' := 38) cx 51 dX6_taken_35 rfl rfl (fun hh9 => absurd hh9 (by decide)) (fun _ => ?_)
        refine go_iload_n (pc' := 39) cx dX6_taken_38 rfl rfl ?_
        refine go_iload_n (pc' := 40) cx dX6_taken_39 rfl rfl ?_
        refine go_icmp_eq (pc' := 43) cx 51 dX6_taken_40 rfl rfl (fun hh => absurd hh (by decide)) (fun _ => ?_)
        refine go_iload_n (pc' := 44) cx dX6_taken_43 rfl rfl ?_
        refine go_cSi (pc' := 47) cx (c_X6_over l E (g := g) 1) mX6_over lX6_468 dX6_taken_44 rfl rfl rfl (ltn rfl) (Nat.le_of_ble_eq_true rfl) (Nat.le_of_ble_eq_true rfl) rfl ?_
        refine go_val (w := .int 0) (congrArg Value.int (by decide)) ?_
        refine go_istore_n (pc' := 48) cx dX6_taken_47 (ltn rfl) [(3, .int 0), (0, .ref (E.2.1 88)), (1, .int (nI h)), (2, .int 0)] rfl rfl ?_
        refine go_goto cx 33 dX6_taken_48 rfl ?_
        refine go_iload_n (pc' := 34) cx dX6_taken_33 rfl rfl ?_
        refine go_iconst (pc' := 35) cx (-1) dX6_taken_34 rfl rfl ?_
        refine go_icmp_eq (pc' := 38) cx 51 dX6_taken_35 rfl rfl (fun hh9 => absurd hh9 (by decide)) (fun _ => ?_)
        refine go_iload_n (pc' := 39) cx dX6_taken_38 rfl rfl ?_
        refine go_iload_n (pc' := 40) cx dX6_taken_39 rfl rfl ?_
        refine go_icmp_eq (pc' := 43) cx 51 dX6_taken_40 rfl rfl (fun _ => ?_) (fun hh => absurd hh (by decide))
        refine go_iload_n (pc' := 52) cx dX6_taken_51 rfl rfl ?_
        refine go_iload_n (pc' := 53) cx dX6_taken_52 rfl rfl ?_
        refine go_icmp_ne (pc' := 56) cx 65 dX6_taken_53 rfl rfl (fun hh => absurd hh (by decide)) (fun _ => ?_)
        refine go_aload_n (pc' := 57) cx dX6_taken_56 rfl rfl ?_
        refine go_getr (pc' := 60) cx 96 fX6_38 dX6_taken_57 kq88 (ltn rfl) (ltn rfl) rfl rfl rfl ?_
        refine go_iload_n (pc' := 61) cx dX6_taken_60 rfl rfl ?_
        refine go_iald (pc' := 62) cx (g 96 h) dX6_taken_61 kq96 (ltn rfl) (vpi (k := h) (a := 5) hh5 rfl rfl) (congrArg (g 96) (cli (k := h) (a := 5) hh5 rfl)) rfl ?_
        refine go_goto cx 67 dX6_taken_62 rfl ?_
        refine go_iret cx rfl dX6_taken_67 ?_
        exact Zi.mk (by
          unfold tkM
          rw [if_neg c9, if_neg c20, clh, ek9]
          exact (if_neg (by decide)).symm) rfl
      · refine go_aload_n (pc' := 27) cx dX6_taken_26 rfl rfl ?_
        refine go_getr (pc' := 30) cx 95 fX6_35 dX6_taken_27 kq88 (ltn rfl) (ltn rfl) rfl rfl rfl ?_
        refine go_iload_n (pc' := 31) cx dX6_taken_30 rfl rfl ?_
        refine go_iald (pc' := 32) cx 1 dX6_taken_31 kq95 (ltn rfl) (vpi (k := h) (a := 5) hh5 rfl rfl) ((congrArg (g 95) (cli (k := h) (a := 5) hh5 rfl)).trans ek9) rfl ?_
        refine go_istore_n (pc' := 33) cx dX6_taken_32 (ltn rfl) [(3, .int 1), (0, .ref (E.2.1 88)), (1, .int (nI h)), (2, .int 1)] rfl rfl ?_
        refine go_iload_n (pc' := 34) cx dX6_taken_33 rfl rfl ?_
        refine go_iconst (pc' := 35) cx (-1) dX6_taken_34 rfl rfl ?_
        refine go_icmp_eq (pc' := 38) cx 51 dX6_taken_35 rfl rfl (fun hh9 => absurd hh9 (by decide)) (fun _ => ?_)
        refine go_iload_n (pc' := 39) cx dX6_taken_38 rfl rfl ?_
        refine go_iload_n (pc' := 40) cx dX6_taken_39 rfl rfl ?_
        refine go_icmp_eq (pc' := 43) cx 51 dX6_taken_40 rfl rfl (fun _ => ?_) (fun hh => absurd hh (by decide))
        refine go_iload_n (pc' := 52) cx dX6_taken_51 rfl rfl ?_
        refine go_iload_n (pc' := 53) cx dX6_taken_52 rfl rfl ?_
        refine go_icmp_ne (pc' := 56) cx 65 dX6_taken_53 rfl rfl (fun hh => absurd hh (by decide)) (fun _ => ?_)
        refine go_aload_n (pc' := 57) cx dX6_taken_56 rfl rfl ?_
        refine go_getr (pc' := 60) cx 96 fX6_38 dX6_taken_57 kq88 (ltn rfl) (ltn rfl) rfl rfl rfl ?_
        refine go_iload_n (pc' := 61) cx dX6_taken_60 rfl rfl ?_
        refine go_iald (pc' := 62) cx (g 96 h) dX6_taken_61 kq96 (ltn rfl) (vpi (k := h) (a := 5) hh5 rfl rfl) (congrArg (g 96) (cli (k := h) (a := 5) hh5 rfl)) rfl ?_
        refine go_goto cx 67 dX6_taken_62 rfl ?_
        refine go_iret cx rfl dX6_taken_67 ?_
        exact Zi.mk (by
          unfold tkM
          rw [if_neg c9, if_neg c20, clh, ek9]
          exact (if_neg (by decide)).symm) rfl
      · refine go_aload_n (pc' := 27) cx dX6_taken_26 rfl rfl ?_
        refine go_getr (pc' := 30) cx 95 fX6_35 dX6_taken_27 kq88 (ltn rfl) (ltn rfl) rfl rfl rfl ?_
        refine go_iload_n (pc' := 31) cx dX6_taken_30 rfl rfl ?_
        refine go_iald (pc' := 32) cx 1 dX6_taken_31 kq95 (ltn rfl) (vpi (k := h) (a := 5) hh5 rfl rfl) ((congrArg (g 95) (cli (k := h) (a := 5) hh5 rfl)).trans ek9) rfl ?_
        refine go_istore_n (pc' := 33) cx dX6_taken_32 (ltn rfl) [(3, .int 1), (0, .ref (E.2.1 88)), (1, .int (nI h)), (2, .int 2)] rfl rfl ?_
        refine go_iload_n (pc' := 34) cx dX6_taken_33 rfl rfl ?_
        refine go_iconst (pc' := 35) cx (-1) dX6_taken_34 rfl rfl ?_
        refine go_icmp_eq (pc' := 38) cx 51 dX6_taken_35 rfl rfl (fun hh9 => absurd hh9 (by decide)) (fun _ => ?_)
        refine go_iload_n (pc' := 39) cx dX6_taken_38 rfl rfl ?_
        refine go_iload_n (pc' := 40) cx dX6_taken_39 rfl rfl ?_
        refine go_icmp_eq (pc' := 43) cx 51 dX6_taken_40 rfl rfl (fun hh => absurd hh (by decide)) (fun _ => ?_)
        refine go_iload_n (pc' := 44) cx dX6_taken_43 rfl rfl ?_
        refine go_cSi (pc' := 47) cx (c_X6_over l E (g := g) 1) mX6_over lX6_468 dX6_taken_44 rfl rfl rfl (ltn rfl) (Nat.le_of_ble_eq_true rfl) (Nat.le_of_ble_eq_true rfl) rfl ?_
        refine go_val (w := .int 0) (congrArg Value.int (by decide)) ?_
        refine go_istore_n (pc' := 48) cx dX6_taken_47 (ltn rfl) [(3, .int 0), (0, .ref (E.2.1 88)), (1, .int (nI h)), (2, .int 2)] rfl rfl ?_
        refine go_goto cx 33 dX6_taken_48 rfl ?_
        refine go_iload_n (pc' := 34) cx dX6_taken_33 rfl rfl ?_
        refine go_iconst (pc' := 35) cx (-1) dX6_taken_34 rfl rfl ?_
        refine go_icmp_eq (pc' := 38) cx 51 dX6_taken_35 rfl rfl (fun hh9 => absurd hh9 (by decide)) (fun _ => ?_)
        refine go_iload_n (pc' := 39) cx dX6_taken_38 rfl rfl ?_
        refine go_iload_n (pc' := 40) cx dX6_taken_39 rfl rfl ?_
        refine go_icmp_eq (pc' := 43) cx 51 dX6_taken_40 rfl rfl (fun hh => absurd hh (by decide)) (fun _ => ?_)
        refine go_iload_n (pc' := 44) cx dX6_taken_43 rfl rfl ?_
        refine go_cSi (pc' := 47) cx (c_X6_over l E (g := g) 0) mX6_over lX6_468 dX6_taken_44 rfl rfl rfl (ltn rfl) (Nat.le_of_ble_eq_true rfl) (Nat.le_of_ble_eq_true rfl) rfl ?_
        refine go_val (w := .int (-1)) (congrArg Value.int (by decide)) ?_
        refine go_istore_n (pc' := 48) cx dX6_taken_47 (ltn rfl) [(3, .int (-1)), (0, .ref (E.2.1 88)), (1, .int (nI h)), (2, .int 2)] rfl rfl ?_
        refine go_goto cx 33 dX6_taken_48 rfl ?_
        refine go_iload_n (pc' := 34) cx dX6_taken_33 rfl rfl ?_
        refine go_iconst (pc' := 35) cx (-1) dX6_taken_34 rfl rfl ?_
        refine go_icmp_eq (pc' := 38) cx 51 dX6_taken_35 rfl rfl (fun _ => ?_) (fun hh9 => absurd rfl hh9)
        refine go_iload_n (pc' := 52) cx dX6_taken_51 rfl rfl ?_
        refine go_iload_n (pc' := 53) cx dX6_taken_52 rfl rfl ?_
        refine go_icmp_ne (pc' := 56) cx 65 dX6_taken_53 rfl rfl (fun _ => ?_) (fun hh9 => absurd hh9 (by decide))
        refine go_bipush (pc' := 67) cx (-13) dX6_taken_65 rfl rfl ?_
        refine go_iret cx rfl dX6_taken_67 ?_
        exact Zi.mk (by
          unfold tkM
          rw [if_neg c9, if_neg c20, clh, ek9]
          exact (if_pos (by decide)).symm) rfl
      · refine go_aload_n (pc' := 27) cx dX6_taken_26 rfl rfl ?_
        refine go_getr (pc' := 30) cx 95 fX6_35 dX6_taken_27 kq88 (ltn rfl) (ltn rfl) rfl rfl rfl ?_
        refine go_iload_n (pc' := 31) cx dX6_taken_30 rfl rfl ?_
        refine go_iald (pc' := 32) cx 1 dX6_taken_31 kq95 (ltn rfl) (vpi (k := h) (a := 5) hh5 rfl rfl) ((congrArg (g 95) (cli (k := h) (a := 5) hh5 rfl)).trans ek9) rfl ?_
        refine go_istore_n (pc' := 33) cx dX6_taken_32 (ltn rfl) [(3, .int 1), (0, .ref (E.2.1 88)), (1, .int (nI h)), (2, .int 3)] rfl rfl ?_
        refine go_iload_n (pc' := 34) cx dX6_taken_33 rfl rfl ?_
        refine go_iconst (pc' := 35) cx (-1) dX6_taken_34 rfl rfl ?_
        refine go_icmp_eq (pc' := 38) cx 51 dX6_taken_35 rfl rfl (fun hh9 => absurd hh9 (by decide)) (fun _ => ?_)
        refine go_iload_n (pc' := 39) cx dX6_taken_38 rfl rfl ?_
        refine go_iload_n (pc' := 40) cx dX6_taken_39 rfl rfl ?_
        refine go_icmp_eq (pc' := 43) cx 51 dX6_taken_40 rfl rfl (fun hh => absurd hh (by decide)) (fun _ => ?_)
        refine go_iload_n (pc' := 44) cx dX6_taken_43 rfl rfl ?_
        refine go_cSi (pc' := 47) cx (c_X6_over l E (g := g) 1) mX6_over lX6_468 dX6_taken_44 rfl rfl rfl (ltn rfl) (Nat.le_of_ble_eq_true rfl) (Nat.le_of_ble_eq_true rfl) rfl ?_
        refine go_val (w := .int 0) (congrArg Value.int (by decide)) ?_
        refine go_istore_n (pc' := 48) cx dX6_taken_47 (ltn rfl) [(3, .int 0), (0, .ref (E.2.1 88)), (1, .int (nI h)), (2, .int 3)] rfl rfl ?_
        refine go_goto cx 33 dX6_taken_48 rfl ?_
        refine go_iload_n (pc' := 34) cx dX6_taken_33 rfl rfl ?_
        refine go_iconst (pc' := 35) cx (-1) dX6_taken_34 rfl rfl ?_
        refine go_icmp_eq (pc' := 38) cx 51 dX6_taken_35 rfl rfl (fun hh9 => absurd hh9 (by decide)) (fun _ => ?_)
        refine go_iload_n (pc' := 39) cx dX6_taken_38 rfl rfl ?_
        refine go_iload_n (pc' := 40) cx dX6_taken_39 rfl rfl ?_
        refine go_icmp_eq (pc' := 43) cx 51 dX6_taken_40 rfl rfl (fun hh => absurd hh (by decide)) (fun _ => ?_)
        refine go_iload_n (pc' := 44) cx dX6_taken_43 rfl rfl ?_
        refine go_cSi (pc' := 47) cx (c_X6_over l E (g := g) 0) mX6_over lX6_468 dX6_taken_44 rfl rfl rfl (ltn rfl) (Nat.le_of_ble_eq_true rfl) (Nat.le_of_ble_eq_true rfl) rfl ?_
        refine go_val (w := .int (-1)) (congrArg Value.int (by decide)) ?_
        refine go_istore_n (pc' := 48) cx dX6_taken_47 (ltn rfl) [(3, .int (-1)), (0, .ref (E.2.1 88)), (1, .int (nI h)), (2, .int 3)] rfl rfl ?_
        refine go_goto cx 33 dX6_taken_48 rfl ?_
        refine go_iload_n (pc' := 34) cx dX6_taken_33 rfl rfl ?_
        refine go_iconst (pc' := 35) cx (-1) dX6_taken_34 rfl rfl ?_
        refine go_icmp_eq (pc' := 38) cx 51 dX6_taken_35 rfl rfl (fun _ => ?_) (fun hh9 => absurd rfl hh9)
        refine go_iload_n (pc' := 52) cx dX6_taken_51 rfl rfl ?_
        refine go_iload_n (pc' := 53) cx dX6_taken_52 rfl rfl ?_
        refine go_icmp_ne (pc' := 56) cx 65 dX6_taken_53 rfl rfl (fun _ => ?_) (fun hh9 => absurd hh9 (by decide))
        refine go_bipush (pc' := 67) cx (-13) dX6_taken_65 rfl rfl ?_
        refine go_iret cx rfl dX6_taken_67 ?_
        exact Zi.mk (by
          unfold tkM
          rw [if_neg c9, if_neg c20, clh, ek9]
          exact (if_pos (by decide)).symm) rfl
      · refine go_aload_n (pc' := 27) cx dX6_taken_26 rfl rfl ?_
        refine go_getr (pc' := 30) cx 95 fX6_35 dX6_taken_27 kq88 (ltn rfl) (ltn rfl) rfl rfl rfl ?_
        refine go_iload_n (pc' := 31) cx dX6_taken_30 rfl rfl ?_
        refine go_iald (pc' := 32) cx 1 dX6_taken_31 kq95 (ltn rfl) (vpi (k := h) (a := 5) hh5 rfl rfl) ((congrArg (g 95) (cli (k := h) (a := 5) hh5 rfl)).trans ek9) rfl ?_
        refine go_istore_n (pc' := 33) cx dX6_taken_32 (ltn rfl) [(3, .int 1), (0, .ref (E.2.1 88)), (1, .int (nI h)), (2, .int 4)] rfl rfl ?_
        refine go_iload_n (pc' := 34) cx dX6_taken_33 rfl rfl ?_
        refine go_iconst (pc' := 35) cx (-1) dX6_taken_34 rfl rfl ?_
        refine go_icmp_eq (pc' := 38) cx 51 dX6_taken_35 rfl rfl (fun hh9 => absurd hh9 (by decide)) (fun _ => ?_)
        refine go_iload_n (pc' := 39) cx dX6_taken_38 rfl rfl ?_
        refine go_iload_n (pc' := 40) cx dX6_taken_39 rfl rfl ?_
        refine go_icmp_eq (pc' := 43) cx 51 dX6_taken_40 rfl rfl (fun hh => absurd hh (by decide)) (fun _ => ?_)
        refine go_iload_n (pc' := 44) cx dX6_taken_43 rfl rfl ?_
        refine go_cSi (pc' := 47) cx (c_X6_over l E (g := g) 1) mX6_over lX6_468 dX6_taken_44 rfl rfl rfl (ltn rfl) (Nat.le_of_ble_eq_true rfl) (Nat.le_of_ble_eq_true rfl) rfl ?_
        refine go_val (w := .int 0) (congrArg Value.int (by decide)) ?_
        refine go_istore_n (pc' := 48) cx dX6_taken_47 (ltn rfl) [(3, .int 0), (0, .ref (E.2.1 88)), (1, .int (nI h)), (2, .int 4)] rfl rfl ?_
        refine go_goto cx 33 dX6_taken_48 rfl ?_
        refine go_iload_n (pc' := 34) cx dX6_taken_33 rfl rfl ?_
        refine go_iconst (pc' := 35) cx (-1) dX6_taken_34 rfl rfl ?_
        refine go_icmp_eq (pc' := 38) cx 51 dX6_taken_35 rfl rfl (fun hh9 => absurd hh9 (by decide)) (fun _ => ?_)
        refine go_iload_n (pc' := 39) cx dX6_taken_38 rfl rfl ?_
        refine go_iload_n (pc' := 40) cx dX6_taken_39 rfl rfl ?_
        refine go_icmp_eq (pc' := 43) cx 51 dX6_taken_40 rfl rfl (fun hh => absurd hh (by decide)) (fun _ => ?_)
        refine go_iload_n (pc' := 44) cx dX6_taken_43 rfl rfl ?_
        refine go_cSi (pc' := 47) cx (c_X6_over l E (g := g) 0) mX6_over lX6_468 dX6_taken_44 rfl rfl rfl (ltn rfl) (Nat.le_of_ble_eq_true rfl) (Nat.le_of_ble_eq_true rfl) rfl ?_
        refine go_val (w := .int (-1)) (congrArg Value.int (by decide)) ?_
        refine go_istore_n (pc' := 48) cx dX6_taken_47 (ltn rfl) [(3, .int (-1)), (0, .ref (E.2.1 88)), (1, .int (nI h)), (2, .int 4)] rfl rfl ?_
        refine go_goto cx 33 dX6_taken_48 rfl ?_
        refine go_iload_n (pc' := 34) cx dX6_taken_33 rfl rfl ?_
        refine go_iconst (pc' := 35) cx (-1) dX6_taken_34 rfl rfl ?_
        refine go_icmp_eq (pc' := 38) cx 51 dX6_taken_35 rfl rfl (fun _ => ?_) (fun hh9 => absurd rfl hh9)
        refine go_iload_n (pc' := 52) cx dX6_taken_51 rfl rfl ?_
        refine go_iload_n (pc' := 53) cx dX6_taken_52 rfl rfl ?_
        refine go_icmp_ne (pc' := 56) cx 65 dX6_taken_53 rfl rfl (fun _ => ?_) (fun hh9 => absurd hh9 (by decide))
        refine go_bipush (pc' := 67) cx (-13) dX6_taken_65 rfl rfl ?_
        refine go_iret cx rfl dX6_taken_67 ?_
        exact Zi.mk (by
          unfold tkM
          rw [if_neg c9, if_neg c20, clh, ek9]
          exact (if_pos (by decide)).symm) rfl
      · refine go_aload_n (pc' := 27) cx dX6_taken_26 rfl rfl ?_
        refine go_getr (pc' := 30) cx 95 fX6_35 dX6_taken_27 kq88 (ltn rfl) (ltn rfl) rfl rfl rfl ?_
        refine go_iload_n (pc' := 31) cx dX6_taken_30 rfl rfl ?_
        refine go_iald (pc' := 32) cx 1 dX6_taken_31 kq95 (ltn rfl) (vpi (k := h) (a := 5) hh5 rfl rfl) ((congrArg (g 95) (cli (k := h) (a := 5) hh5 rfl)).trans ek9) rfl ?_
        refine go_istore_n (pc' := 33) cx dX6_taken_32 (ltn rfl) [(3, .int 1), (0, .ref (E.2.1 88)), (1, .int (nI h)), (2, .int 5)] rfl rfl ?_
        refine go_iload_n (pc' := 34) cx dX6_taken_33 rfl rfl ?_
        refine go_iconst (pc' := 35) cx (-1) dX6_taken_34 rfl rfl ?_
        refine go_icmp_eq (pc' := 38) cx 51 dX6_taken_35 rfl rfl (fun hh9 => absurd hh9 (by decide)) (fun _ => ?_)
        refine go_iload_n (pc' := 39) cx dX6_taken_38 rfl rfl ?_
        refine go_iload_n (pc' := 40) cx dX6_taken_39 rfl rfl ?_
        refine go_icmp_eq (pc' := 43) cx 51 dX6_taken_40 rfl rfl (fun hh => absurd hh (by decide)) (fun _ => ?_)
        refine go_iload_n (pc' := 44) cx dX6_taken_43 rfl rfl ?_
        refine go_cSi (pc' := 47) cx (c_X6_over l E (g := g) 1) mX6_over lX6_468 dX6_taken_44 rfl rfl rfl (ltn rfl) (Nat.le_of_ble_eq_true rfl) (Nat.le_of_ble_eq_true rfl) rfl ?_
        refine go_val (w := .int 0) (congrArg Value.int (by decide)) ?_
        refine go_istore_n (pc' := 48) cx dX6_taken_47 (ltn rfl) [(3, .int 0), (0, .ref (E.2.1 88)), (1, .int (nI h)), (2, .int 5)] rfl rfl ?_
        refine go_goto cx 33 dX6_taken_48 rfl ?_
        refine go_iload_n (pc' := 34) cx dX6_taken_33 rfl rfl ?_
        refine go_iconst (pc' := 35) cx (-1) dX6_taken_34 rfl rfl ?_
        refine go_icmp_eq (pc' := 38) cx 51 dX6_taken_35 rfl rfl (fun hh9 => absurd hh9 (by decide)) (fun _ => ?_)
        refine go_iload_n (pc' := 39) cx dX6_taken_38 rfl rfl ?_
        refine go_iload_n (pc' := 40) cx dX6_taken_39 rfl rfl ?_
        refine go_icmp_eq (pc' := 43) cx 51 dX6_taken_40 rfl rfl (fun hh => absurd hh (by decide)) (fun _ => ?_)
        refine go_iload_n (pc' := 44) cx dX6_taken_43 rfl rfl ?_
        refine go_cSi (pc' := 47) cx (c_X6_over l E (g := g) 0) mX6_over lX6_468 dX6_taken_44 rfl rfl rfl (ltn rfl) (Nat.le_of_ble_eq_true rfl) (Nat.le_of_ble_eq_true rfl) rfl ?_
        refine go_val (w := .int (-1)) (congrArg Value.int (by decide)) ?_
        refine go_istore_n (pc' := 48) cx dX6_taken_47 (ltn rfl) [(3, .int (-1)), (0, .ref (E.2.1 88)), (1, .int (nI h)), (2, .int 5)] rfl rfl ?_
        refine go_goto cx 33 dX6_taken_48 rfl ?_
        refine go_iload_n (pc' := 34) cx dX6_taken_33 rfl rfl ?_
        refine go_iconst (pc' := 35) cx (-1) dX6_taken_34 rfl rfl ?_
        refine go_icmp_eq (pc' := 38) cx 51 dX6_taken_35 rfl rfl (fun _ => ?_) (fun hh9 => absurd rfl hh9)
        refine go_iload_n (pc' := 52) cx dX6_taken_51 rfl rfl ?_
        refine go_iload_n (pc' := 53) cx dX6_taken_52 rfl rfl ?_
        refine go_icmp_ne (pc' := 56) cx 65 dX6_taken_53 rfl rfl (fun _ => ?_) (fun hh9 => absurd hh9 (by decide))
        refine go_bipush (pc' := 67) cx (-13) dX6_taken_65 rfl rfl ?_
        refine go_iret cx rfl dX6_taken_67 ?_
        exact Zi.mk (by
          unfold tkM
          rw [if_neg c9, if_neg c20, clh, ek9]
          exact (if_pos (by decide)).symm) rfl
      · refine go_aload_n (pc' := 27) cx dX6_taken_26 rfl rfl ?_
        refine go_getr (pc' := 30) cx 95 fX6_35 dX6_taken_27 kq88 (ltn rfl) (ltn rfl) rfl rfl rfl ?_
        refine go_iload_n (pc' := 31) cx dX6_taken_30 rfl rfl ?_
        refine go_iald (pc' := 32) cx 2 dX6_taken_31 kq95 (ltn rfl) (vpi (k := h) (a := 5) hh5 rfl rfl) ((congrArg (g 95) (cli (k := h) (a := 5) hh5 rfl)).trans ek9) rfl ?_
        refine go_istore_n (pc' := 33) cx dX6_taken_32 (ltn rfl) [(3, .int 2), (0, .ref (E.2.1 88)), (1, .int (nI h)), (2, .int 0)] rfl rfl ?_
        refine go_iload_n (pc' := 34) cx dX6_taken_33 rfl rfl ?_
        refine go_iconst (pc' := 35) cx (-1) dX6_taken_34 rfl rfl ?_
        refine go_icmp_eq (pc' := 38) cx 51 dX6_taken_35 rfl rfl (fun hh9 => absurd hh9 (by decide)) (fun _ => ?_)
        refine go_iload_n (pc' := 39) cx dX6_taken_38 rfl rfl ?_
        refine go_iload_n (pc' := 40) cx dX6_taken_39 rfl rfl ?_
        refine go_icmp_eq (pc' := 43) cx 51 dX6_taken_40 rfl rfl (fun hh => absurd hh (by decide)) (fun _ => ?_)
        refine go_iload_n (pc' := 44) cx dX6_taken_43 rfl rfl ?_
        refine go_cSi (pc' := 47) cx (c_X6_over l E (g := g) 2) mX6_over lX6_468 dX6_taken_44 rfl rfl rfl (ltn rfl) (Nat.le_of_ble_eq_true rfl) (Nat.le_of_ble_eq_true rfl) rfl ?_
        refine go_val (w := .int 0) (congrArg Value.int (by decide)) ?_
        refine go_istore_n (pc' := 48) cx dX6_taken_47 (ltn rfl) [(3, .int 0), (0, .ref (E.2.1 88)), (1, .int (nI h)), (2, .int 0)] rfl rfl ?_
        refine go_goto cx 33 dX6_taken_48 rfl ?_
        refine go_iload_n (pc' := 34) cx dX6_taken_33 rfl rfl ?_
        refine go_iconst (pc' := 35) cx (-1) dX6_taken_34 rfl rfl ?_
        refine go_icmp_eq (pc' := 38) cx 51 dX6_taken_35 rfl rfl (fun hh9 => absurd hh9 (by decide)) (fun _ => ?_)
        refine go_iload_n (pc' := 39) cx dX6_taken_38 rfl rfl ?_
        refine go_iload_n (pc' := 40) cx dX6_taken_39 rfl rfl ?_
        refine go_icmp_eq (pc' := 43) cx 51 dX6_taken_40 rfl rfl (fun _ => ?_) (fun hh => absurd hh (by decide))
        refine go_iload_n (pc' := 52) cx dX6_taken_51 rfl rfl ?_
        refine go_iload_n (pc' := 53) cx dX6_taken_52 rfl rfl ?_
        refine go_icmp_ne (pc' := 56) cx 65 dX6_taken_53 rfl rfl (fun hh => absurd hh (by decide)) (fun _ => ?_)
        refine go_aload_n (pc' := 57) cx dX6_taken_56 rfl rfl ?_
        refine go_getr (pc' := 60) cx 96 fX6_38 dX6_taken_57 kq88 (ltn rfl) (ltn rfl) rfl rfl rfl ?_
        refine go_iload_n (pc' := 61) cx dX6_taken_60 rfl rfl ?_
        refine go_iald (pc' := 62) cx (g 96 h) dX6_taken_61 kq96 (ltn rfl) (vpi (k := h) (a := 5) hh5 rfl rfl) (congrArg (g 96) (cli (k := h) (a := 5) hh5 rfl)) rfl ?_
        refine go_goto cx 67 dX6_taken_62 rfl ?_
        refine go_iret cx rfl dX6_taken_67 ?_
        exact Zi.mk (by
          unfold tkM
          rw [if_neg c9, if_neg c20, clh, ek9]
          exact (if_neg (by decide)).symm) rfl
      · refine go_aload_n (pc' := 27) cx dX6_taken_26 rfl rfl ?_
        refine go_getr (pc' := 30) cx 95 fX6_35 dX6_taken_27 kq88 (ltn rfl) (ltn rfl) rfl rfl rfl ?_
        refine go_iload_n (pc' := 31) cx dX6_taken_30 rfl rfl ?_
        refine go_iald (pc' := 32) cx 2 dX6_taken_31 kq95 (ltn rfl) (vpi (k := h) (a := 5) hh5 rfl rfl) ((congrArg (g 95) (cli (k := h) (a := 5) hh5 rfl)).trans ek9) rfl ?_
        refine go_istore_n (pc' := 33) cx dX6_taken_32 (ltn rfl) [(3, .int 2), (0, .ref (E.2.1 88)), (1, .int (nI h)), (2, .int 1)] rfl rfl ?_
        refine go_iload_n (pc' := 34) cx dX6_taken_33 rfl rfl ?_
        refine go_iconst (pc' := 35) cx (-1) dX6_taken_34 rfl rfl ?_
        refine go_icmp_eq (pc' := 38) cx 51 dX6_taken_35 rfl rfl (fun hh9 => absurd hh9 (by decide)) (fun _ => ?_)
        refine go_iload_n (pc' := 39) cx dX6_taken_38 rfl rfl ?_
        refine go_iload_n (pc' := 40) cx dX6_taken_39 rfl rfl ?_
        refine go_icmp_eq (pc' := 43) cx 51 dX6_taken_40 rfl rfl (fun hh => absurd hh (by decide)) (fun _ => ?_)
        refine go_iload_n (pc' := 44) cx dX6_taken_43 rfl rfl ?_
        refine go_cSi (pc' := 47) cx (c_X6_over l E (g := g) 2) mX6_over lX6_468 dX6_taken_44 rfl rfl rfl (ltn rfl) (Nat.le_of_ble_eq_true rfl) (Nat.le_of_ble_eq_true rfl) rfl ?_
        refine go_val (w := .int 0) (congrArg Value.int (by decide)) ?_
        refine go_istore_n (pc' := 48) cx dX6_taken_47 (ltn rfl) [(3, .int 0), (0, .ref (E.2.1 88)), (1, .int (nI h)), (2, .int 1)] rfl rfl ?_
        refine go_goto cx 33 dX6_taken_48 rfl ?_
        refine go_iload_n (pc' := 34) cx dX6_taken_33 rfl rfl ?_
        refine go_iconst (pc' := 35) cx (-1) dX6_taken_34 rfl rfl ?_
        refine go_icmp_eq (pc' := 38) cx 51 dX6_taken_35 rfl rfl (fun hh9 => absurd hh9 (by decide)) (fun _ => ?_)
        refine go_iload_n (pc' := 39) cx dX6_taken_38 rfl rfl ?_
        refine go_iload_n (pc' := 40) cx dX6_taken_39 rfl rfl ?_
        refine go_icmp_eq (pc' := 43) cx 51 dX6_taken_40 rfl rfl (fun hh => absurd hh (by decide)) (fun _ => ?_)
        refine go_iload_n (pc' := 44) cx dX6_taken_43 rfl rfl ?_
        refine go_cSi (pc' := 47) cx (c_X6_over l E (g := g) 0) mX6_over lX6_468 dX6_taken_44 rfl rfl rfl (ltn rfl) (Nat.le_of_ble_eq_true rfl) (Nat.le_of_ble_eq_true rfl) rfl ?_
        refine go_val (w := .int (-1)) (congrArg Value.int (by decide)) ?_
        refine go_istore_n (pc' := 48) cx dX6_taken_47 (ltn rfl) [(3, .int (-1)), (0, .ref (E.2.1 88)), (1, .int (nI h)), (2, .int 1)] rfl rfl ?_
        refine go_goto cx 33 dX6_taken_48 rfl ?_
        refine go_iload_n (pc' := 34) cx dX6_taken_33 rfl rfl ?_
        refine go_iconst (pc' := 35) cx (-1) dX6_taken_34 rfl rfl ?_
        refine go_icmp_eq (pc' := 38) cx 51 dX6_taken_35 rfl rfl (fun _ => ?_) (fun hh9 => absurd rfl hh9)
        refine go_iload_n (pc' := 52) cx dX6_taken_51 rfl rfl ?_
        refine go_iload_n (pc' := 53) cx dX6_taken_52 rfl rfl ?_
        refine go_icmp_ne (pc' := 56) cx 65 dX6_taken_53 rfl rfl (fun _ => ?_) (fun hh9 => absurd hh9 (by decide))
        refine go_bipush (pc' := 67) cx (-13) dX6_taken_65 rfl rfl ?_
        refine go_iret cx rfl dX6_taken_67 ?_
        exact Zi.mk (by
          unfold tkM
          rw [if_neg c9, if_neg c20, clh, ek9]
          exact (if_pos (by decide)).symm) rfl
      · refine go_aload_n (pc' := 27) cx dX6_taken_26 rfl rfl ?_
        refine go_getr (pc' := 30) cx 95 fX6_35 dX6_taken_27 kq88 (ltn rfl) (ltn rfl) rfl rfl rfl ?_
        refine go_iload_n (pc' := 31) cx dX6_taken_30 rfl rfl ?_
        refine go_iald (pc' := 32) cx 2 dX6_taken_31 kq95 (ltn rfl) (vpi (k := h) (a := 5) hh5 rfl rfl) ((congrArg (g 95) (cli (k := h) (a := 5) hh5 rfl)).trans ek9) rfl ?_
        refine go_istore_n (pc' := 33) cx dX6_taken_32 (ltn rfl) [(3, .int 2), (0, .ref (E.2.1 88)), (1, .int (nI h)), (2, .int 2)] rfl rfl ?_
        refine go_iload_n (pc' := 34) cx dX6_taken_33 rfl rfl ?_
        refine go_iconst (pc' := 35) cx (-1) dX6_taken_34 rfl rfl ?_
        refine go_icmp_eq (pc' := 38) cx 51 dX6_taken_35 rfl rfl (fun hh9 => absurd hh9 (by decide)) (fun _ => ?_)
        refine go_iload_n (pc' := 39) cx dX6_taken_38 rfl rfl ?_
        refine go_iload_n (pc' := 40) cx dX6_taken_39 rfl rfl ?_
        refine go_icmp_eq (pc' := 43) cx 51 dX6_taken_40 rfl rfl (fun _ => ?_) (fun hh => absurd hh (by decide))
        refine go_iload_n (pc' := 52) cx dX6_taken_51 rfl rfl ?_
        refine go_iload_n (pc' := 53) cx dX6_taken_52 rfl rfl ?_
        refine go_icmp_ne (pc' := 56) cx 65 dX6_taken_53 rfl rfl (fun hh => absurd hh (by decide)) (fun _ => ?_)
        refine go_aload_n (pc' := 57) cx dX6_taken_56 rfl rfl ?_
        refine go_getr (pc' := 60) cx 96 fX6_38 dX6_taken_57 kq88 (ltn rfl) (ltn rfl) rfl rfl rfl ?_
        refine go_iload_n (pc' := 61) cx dX6_taken_60 rfl rfl ?_
        refine go_iald (pc' := 62) cx (g 96 h) dX6_taken_61 kq96 (ltn rfl) (vpi (k := h) (a := 5) hh5 rfl rfl) (congrArg (g 96) (cli (k := h) (a := 5) hh5 rfl)) rfl ?_
        refine go_goto cx 67 dX6_taken_62 rfl ?_
        refine go_iret cx rfl dX6_taken_67 ?_
        exact Zi.mk (by
          unfold tkM
          rw [if_neg c9, if_neg c20, clh, ek9]
          exact (if_neg (by decide)).symm) rfl
      · refine go_aload_n (pc' := 27) cx dX6_taken_26 rfl rfl ?_
        refine go_getr (pc' := 30) cx 95 fX6_35 dX6_taken_27 kq88 (ltn rfl) (ltn rfl) rfl rfl rfl ?_
        refine go_iload_n (pc' := 31) cx dX6_taken_30 rfl rfl ?_
        refine go_iald (pc' := 32) cx 2 dX6_taken_31 kq95 (ltn rfl) (vpi (k := h) (a := 5) hh5 rfl rfl) ((congrArg (g 95) (cli (k := h) (a := 5) hh5 rfl)).trans ek9) rfl ?_
        refine go_istore_n (pc' := 33) cx dX6_taken_32 (ltn rfl) [(3, .int 2), (0, .ref (E.2.1 88)), (1, .int (nI h)), (2, .int 3)] rfl rfl ?_
        refine go_iload_n (pc' := 34) cx dX6_taken_33 rfl rfl ?_
        refine go_iconst (pc' := 35) cx (-1) dX6_taken_34 rfl rfl ?_
        refine go_icmp_eq (pc' := 38) cx 51 dX6_taken_35 rfl rfl (fun hh9 => absurd hh9 (by decide)) (fun _ => ?_)
        refine go_iload_n (pc' := 39) cx dX6_taken_38 rfl rfl ?_
        refine go_iload_n (pc' := 40) cx dX6_taken_39 rfl rfl ?_
        refine go_icmp_eq (pc' := 43) cx 51 dX6_taken_40 rfl rfl (fun hh => absurd hh (by decide)) (fun _ => ?_)
        refine go_iload_n (pc' := 44) cx dX6_taken_43 rfl rfl ?_
        refine go_cSi (pc' := 47) cx (c_X6_over l E (g := g) 2) mX6_over lX6_468 dX6_taken_44 rfl rfl rfl (ltn rfl) (Nat.le_of_ble_eq_true rfl) (Nat.le_of_ble_eq_true rfl) rfl ?_
        refine go_val (w := .int 0) (congrArg Value.int (by decide)) ?_
        refine go_istore_n (pc' := 48) cx dX6_taken_47 (ltn rfl) [(3, .int 0), (0, .ref (E.2.1 88)), (1, .int (nI h)), (2, .int 3)] rfl rfl ?_
        refine go_goto cx 33 dX6_taken_48 rfl ?_
        refine go_iload_n (pc' := 34) cx dX6_taken_33 rfl rfl ?_
        refine go_iconst (pc' := 35) cx (-1) dX6_taken_34 rfl rfl ?_
        refine go_icmp_eq (pc' := 38) cx 51 dX6_taken_35 rfl rfl (fun hh9 => absurd hh9 (by decide)) (fun _ => ?_)
        refine go_iload_n (pc' := 39) cx dX6_taken_38 rfl rfl ?_
        refine go_iload_n (pc' := 40) cx dX6_taken_39 rfl rfl ?_
        refine go_icmp_eq (pc' := 43) cx 51 dX6_taken_40 rfl rfl (fun hh => absurd hh (by decide)) (fun _ => ?_)
        refine go_iload_n (pc' := 44) cx dX6_taken_43 rfl rfl ?_
        refine go_cSi (pc' := 47) cx (c_X6_over l E (g := g) 0) mX6_over lX6_468 dX6_taken_44 rfl rfl rfl (ltn rfl) (Nat.le_of_ble_eq_true rfl) (Nat.le_of_ble_eq_true rfl) rfl ?_
        refine go_val (w := .int (-1)) (congrArg Value.int (by decide)) ?_
        refine go_istore_n (pc' := 48) cx dX6_taken_47 (ltn rfl) [(3, .int (-1)), (0, .ref (E.2.1 88)), (1, .int (nI h)), (2, .int 3)] rfl rfl ?_
        refine go_goto cx 33 dX6_taken_48 rfl ?_
        refine go_iload_n (pc' := 34) cx dX6_taken_33 rfl rfl ?_
        refine go_iconst (pc' := 35) cx (-1) dX6_taken_34 rfl rfl ?_
        refine go_icmp_eq (pc' := 38) cx 51 dX6_taken_35 rfl rfl (fun _ => ?_) (fun hh9 => absurd rfl hh9)
        refine go_iload_n (pc' := 52) cx dX6_taken_51 rfl rfl ?_
        refine go_iload_n (pc' := 53) cx dX6_taken_52 rfl rfl ?_
        refine go_icmp_ne (pc' := 56) cx 65 dX6_taken_53 rfl rfl (fun _ => ?_) (fun hh9 => absurd hh9 (by decide))
        refine go_bipush (pc' := 67) cx (-13) dX6_taken_65 rfl rfl ?_
        refine go_iret cx rfl dX6_taken_67 ?_
        exact Zi.mk (by
          unfold tkM
          rw [if_neg c9, if_neg c20, clh, ek9]
          exact (if_pos (by decide)).symm) rfl
      · refine go_aload_n (pc' := 27) cx dX6_taken_26 rfl rfl ?_
        refine go_getr (pc' := 30) cx 95 fX6_35 dX6_taken_27 kq88 (ltn rfl) (ltn rfl) rfl rfl rfl ?_
        refine go_iload_n (pc' := 31) cx dX6_taken_30 rfl rfl ?_
        refine go_iald (pc' := 32) cx 2 dX6_taken_31 kq95 (ltn rfl) (vpi (k := h) (a := 5) hh5 rfl rfl) ((congrArg (g 95) (cli (k := h) (a := 5) hh5 rfl)).trans ek9) rfl ?_
        refine go_istore_n (pc' := 33) cx dX6_taken_32 (ltn rfl) [(3, .int 2), (0, .ref (E.2.1 88)), (1, .int (nI h)), (2, .int 4)] rfl rfl ?_
        refine go_iload_n (pc' := 34) cx dX6_taken_33 rfl rfl ?_
        refine go_iconst (pc' := 35) cx (-1) dX6_taken_34 rfl rfl ?_
        refine go_icmp_eq (pc' := 38) cx 51 dX6_taken_35 rfl rfl (fun hh9 => absurd hh9 (by decide)) (fun _ => ?_)
        refine go_iload_n (pc' := 39) cx dX6_taken_38 rfl rfl ?_
        refine go_iload_n (pc' := 40) cx dX6_taken_39 rfl rfl ?_
        refine go_icmp_eq (pc' := 43) cx 51 dX6_taken_40 rfl rfl (fun hh => absurd hh (by decide)) (fun _ => ?_)
        refine go_iload_n (pc' := 44) cx dX6_taken_43 rfl rfl ?_
        refine go_cSi (pc' := 47) cx (c_X6_over l E (g := g) 2) mX6_over lX6_468 dX6_taken_44 rfl rfl rfl (ltn rfl) (Nat.le_of_ble_eq_true rfl) (Nat.le_of_ble_eq_true rfl) rfl ?_
        refine go_val (w := .int 0) (congrArg Value.int (by decide)) ?_
        refine go_istore_n (pc' := 48) cx dX6_taken_47 (ltn rfl) [(3, .int 0), (0, .ref (E.2.1 88)), (1, .int (nI h)), (2, .int 4)] rfl rfl ?_
        refine go_goto cx 33 dX6_taken_48 rfl ?_
        refine go_iload_n (pc' := 34) cx dX6_taken_33 rfl rfl ?_
        refine go_iconst (pc' := 35) cx (-1) dX6_taken_34 rfl rfl ?_
        refine go_icmp_eq (pc' := 38) cx 51 dX6_taken_35 rfl rfl (fun hh9 => absurd hh9 (by decide)) (fun _ => ?_)
        refine go_iload_n (pc' := 39) cx dX6_taken_38 rfl rfl ?_
        refine go_iload_n (pc' := 40) cx dX6_taken_39 rfl rfl ?_
        refine go_icmp_eq (pc' := 43) cx 51 dX6_taken_40 rfl rfl (fun hh => absurd hh (by decide)) (fun _ => ?_)
        refine go_iload_n (pc' := 44) cx dX6_taken_43 rfl rfl ?_
        refine go_cSi (pc' := 47) cx (c_X6_over l E (g := g) 0) mX6_over lX6_468 dX6_taken_44 rfl rfl rfl (ltn rfl) (Nat.le_of_ble_eq_true rfl) (Nat.le_of_ble_eq_true rfl) rfl ?_
        refine go_val (w := .int (-1)) (congrArg Value.int (by decide)) ?_
        refine go_istore_n (pc' := 48) cx dX6_taken_47 (ltn rfl) [(3, .int (-1)), (0, .ref (E.2.1 88)), (1, .int (nI h)), (2, .int 4)] rfl rfl ?_
        refine go_goto cx 33 dX6_taken_48 rfl ?_
        refine go_iload_n (pc' := 34) cx dX6_taken_33 rfl rfl ?_
        refine go_iconst (pc' := 35) cx (-1) dX6_taken_34 rfl rfl ?_
        refine go_icmp_eq (pc' := 38) cx 51 dX6_taken_35 rfl rfl (fun _ => ?_) (fun hh9 => absurd rfl hh9)
        refine go_iload_n (pc' := 52) cx dX6_taken_51 rfl rfl ?_
        refine go_iload_n (pc' := 53) cx dX6_taken_52 rfl rfl ?_
        refine go_icmp_ne (pc' := 56) cx 65 dX6_taken_53 rfl rfl (fun _ => ?_) (fun hh9 => absurd hh9 (by decide))
        refine go_bipush (pc' := 67) cx (-13) dX6_taken_65 rfl rfl ?_
        refine go_iret cx rfl dX6_taken_67 ?_
        exact Zi.mk (by
          unfold tkM
          rw [if_neg c9, if_neg c20, clh, ek9]
          exact (if_pos (by decide)).symm) rfl
      · refine go_aload_n (pc' := 27) cx dX6_taken_26 rfl rfl ?_
        refine go_getr (pc' := 30) cx 95 fX6_35 dX6_taken_27 kq88 (ltn rfl) (ltn rfl) rfl rfl rfl ?_
        refine go_iload_n (pc' := 31) cx dX6_taken_30 rfl rfl ?_
        refine go_iald (pc' := 32) cx 2 dX6_taken_31 kq95 (ltn rfl) (vpi (k := h) (a := 5) hh5 rfl rfl) ((congrArg (g 95) (cli (k := h) (a := 5) hh5 rfl)).trans ek9) rfl ?_
        refine go_istore_n (pc' := 33) cx dX6_taken_32 (ltn rfl) [(3, .int 2), (0, .ref (E.2.1 88)), (1, .int (nI h)), (2, .int 5)] rfl rfl ?_
        refine go_iload_n (pc' := 34) cx dX6_taken_33 rfl rfl ?_
        refine go_iconst (pc' := 35) cx (-1) dX6_taken_34 rfl rfl ?_
        refine go_icmp_eq (pc' := 38) cx 51 dX6_taken_35 rfl rfl (fun hh9 => absurd hh9 (by decide)) (fun _ => ?_)
        refine go_iload_n (pc' := 39) cx dX6_taken_38 rfl rfl ?_
        refine go_iload_n (pc' := 40) cx dX6_taken_39 rfl rfl ?_
        refine go_icmp_eq (pc' := 43) cx 51 dX6_taken_40 rfl rfl (fun hh => absurd hh (by decide)) (fun _ => ?_)
        refine go_iload_n (pc' := 44) cx dX6_taken_43 rfl rfl ?_
        refine go_cSi (pc' := 47) cx (c_X6_over l E (g := g) 2) mX6_over lX6_468 dX6_taken_44 rfl rfl rfl (ltn rfl) (Nat.le_of_ble_eq_true rfl) (Nat.le_of_ble_eq_true rfl) rfl ?_
        refine go_val (w := .int 0) (congrArg Value.int (by decide)) ?_
        refine go_istore_n (pc' := 48) cx dX6_taken_47 (ltn rfl) [(3, .int 0), (0, .ref (E.2.1 88)), (1, .int (nI h)), (2, .int 5)] rfl rfl ?_
        refine go_goto cx 33 dX6_taken_48 rfl ?_
        refine go_iload_n (pc' := 34) cx dX6_taken_33 rfl rfl ?_
        refine go_iconst (pc' := 35) cx (-1) dX6_taken_34 rfl rfl ?_
        refine go_icmp_eq (pc' := 38) cx 51 dX6_taken_35 rfl rfl (fun hh9 => absurd hh9 (by decide)) (fun _ => ?_)
        refine go_iload_n (pc' := 39) cx dX6_taken_38 rfl rfl ?_
        refine go_iload_n (pc' := 40) cx dX6_taken_39 rfl rfl ?_
        refine go_icmp_eq (pc' := 43) cx 51 dX6_taken_40 rfl rfl (fun hh => absurd hh (by decide)) (fun _ => ?_)
        refine go_iload_n (pc' := 44) cx dX6_taken_43 rfl rfl ?_
        refine go_cSi (pc' := 47) cx (c_X6_over l E (g := g) 0) mX6_over lX6_468 dX6_taken_44 rfl rfl rfl (ltn rfl) (Nat.le_of_ble_eq_true rfl) (Nat.le_of_ble_eq_true rfl) rfl ?_
        refine go_val (w := .int (-1)) (congrArg Value.int (by decide)) ?_
        refine go_istore_n (pc' := 48) cx dX6_taken_47 (ltn rfl) [(3, .int (-1)), (0, .ref (E.2.1 88)), (1, .int (nI h)), (2, .int 5)] rfl rfl ?_
        refine go_goto cx 33 dX6_taken_48 rfl ?_
        refine go_iload_n (pc' := 34) cx dX6_taken_33 rfl rfl ?_
        refine go_iconst (pc' := 35) cx (-1) dX6_taken_34 rfl rfl ?_
        refine go_icmp_eq (pc' := 38) cx 51 dX6_taken_35 rfl rfl (fun _ => ?_) (fun hh9 => absurd rfl hh9)
        refine go_iload_n (pc' := 52) cx dX6_taken_51 rfl rfl ?_
        refine go_iload_n (pc' := 53) cx dX6_taken_52 rfl rfl ?_
        refine go_icmp_ne (pc' := 56) cx 65 dX6_taken_53 rfl rfl (fun _ => ?_) (fun hh9 => absurd hh9 (by decide))
        refine go_bipush (pc' := 67) cx (-13) dX6_taken_65 rfl rfl ?_
        refine go_iret cx rfl dX6_taken_67 ?_
        exact Zi.mk (by
          unfold tkM
          rw [if_neg c9, if_neg c20, clh, ek9]
          exact (if_pos (by decide)).symm) rfl
      · refine go_aload_n (pc' := 27) cx dX6_taken_26 rfl rfl ?_
        refine go_getr (pc' := 30) cx 95 fX6_35 dX6_taken_27 kq88 (ltn rfl) (ltn rfl) rfl rfl rfl ?_
        refine go_iload_n (pc' := 31) cx dX6_taken_30 rfl rfl ?_
        refine go_iald (pc' := 32) cx 3 dX6_taken_31 kq95 (ltn rfl) (vpi (k := h) (a := 5) hh5 rfl rfl) ((congrArg (g 95) (cli (k := h) (a := 5) hh5 rfl)).trans ek9) rfl ?_
        refine go_istore_n (pc' := 33) cx dX6_taken_32 (ltn rfl) [(3, .int 3), (0, .ref (E.2.1 88)), (1, .int (nI h)), (2, .int 0)] rfl rfl ?_
        refine go_iload_n (pc' := 34) cx dX6_taken_33 rfl rfl ?_
        refine go_iconst (pc' := 35) cx (-1) dX6_taken_34 rfl rfl ?_
        refine go_icmp_eq (pc' := 38) cx 51 dX6_taken_35 rfl rfl (fun hh9 => absurd hh9 (by decide)) (fun _ => ?_)
        refine go_iload_n (pc' := 39) cx dX6_taken_38 rfl rfl ?_
        refine go_iload_n (pc' := 40) cx dX6_taken_39 rfl rfl ?_
        refine go_icmp_eq (pc' := 43) cx 51 dX6_taken_40 rfl rfl (fun hh => absurd hh (by decide)) (fun _ => ?_)
        refine go_iload_n (pc' := 44) cx dX6_taken_43 rfl rfl ?_
        refine go_cSi (pc' := 47) cx (c_X6_over l E (g := g) 3) mX6_over lX6_468 dX6_taken_44 rfl rfl rfl (ltn rfl) (Nat.le_of_ble_eq_true rfl) (Nat.le_of_ble_eq_true rfl) rfl ?_
        refine go_val (w := .int 1) (congrArg Value.int (by decide)) ?_
        refine go_istore_n (pc' := 48) cx dX6_taken_47 (ltn rfl) [(3, .int 1), (0, .ref (E.2.1 88)), (1, .int (nI h)), (2, .int 0)] rfl rfl ?_
        refine go_goto cx 33 dX6_taken_48 rfl ?_
        refine go_iload_n (pc' := 34) cx dX6_taken_33 rfl rfl ?_
        refine go_iconst (pc' := 35) cx (-1) dX6_taken_34 rfl rfl ?_
        refine go_icmp_eq (pc' := 38) cx 51 dX6_taken_35 rfl rfl (fun hh9 => absurd hh9 (by decide)) (fun _ => ?_)
        refine go_iload_n (pc' := 39) cx dX6_taken_38 rfl rfl ?_
        refine go_iload_n (pc' := 40) cx dX6_taken_39 rfl rfl ?_
        refine go_icmp_eq (pc' := 43) cx 51 dX6_taken_40 rfl rfl (fun hh => absurd hh (by decide)) (fun _ => ?_)
        refine go_iload_n (pc' := 44) cx dX6_taken_43 rfl rfl ?_
        refine go_cSi (pc' := 47) cx (c_X6_over l E (g := g) 1) mX6_over lX6_468 dX6_taken_44 rfl rfl rfl (ltn rfl) (Nat.le_of_ble_eq_true rfl) (Nat.le_of_ble_eq_true rfl) rfl ?_
        refine go_val (w := .int 0) (congrArg Value.int (by decide)) ?_
        refine go_istore_n (pc' := 48) cx dX6_taken_47 (ltn rfl) [(3, .int 0), (0, .ref (E.2.1 88)), (1, .int (nI h)), (2, .int 0)] rfl rfl ?_
        refine go_goto cx 33 dX6_taken_48 rfl ?_
        refine go_iload_n (pc' := 34) cx dX6_taken_33 rfl rfl ?_
        refine go_iconst (pc' := 35) cx (-1) dX6_taken_34 rfl rfl ?_
        refine go_icmp_eq (pc' := 38) cx 51 dX6_taken_35 rfl rfl (fun hh9 => absurd hh9 (by decide)) (fun _ => ?_)
        refine go_iload_n (pc' := 39) cx dX6_taken_38 rfl rfl ?_
        refine go_iload_n (pc' := 40) cx dX6_taken_39 rfl rfl ?_
        refine go_icmp_eq (pc' := 43) cx 51 dX6_taken_40 rfl rfl (fun _ => ?_) (fun hh => absurd hh (by decide))
        refine go_iload_n (pc' := 52) cx dX6_taken_51 rfl rfl ?_
        refine go_iload_n (pc' := 53) cx dX6_taken_52 rfl rfl ?_
        refine go_icmp_ne (pc' := 56) cx 65 dX6_taken_53 rfl rfl (fun hh => absurd hh (by decide)) (fun _ => ?_)
        refine go_aload_n (pc' := 57) cx dX6_taken_56 rfl rfl ?_
        refine go_getr (pc' := 60) cx 96 fX6_38 dX6_taken_57 kq88 (ltn rfl) (ltn rfl) rfl rfl rfl ?_
        refine go_iload_n (pc' := 61) cx dX6_taken_60 rfl rfl ?_
        refine go_iald (pc' := 62) cx (g 96 h) dX6_taken_61 kq96 (ltn rfl) (vpi (k := h) (a := 5) hh5 rfl rfl) (congrArg (g 96) (cli (k := h) (a := 5) hh5 rfl)) rfl ?_
        refine go_goto cx 67 dX6_taken_62 rfl ?_
        refine go_iret cx rfl dX6_taken_67 ?_
        exact Zi.mk (by
          unfold tkM
          rw [if_neg c9, if_neg c20, clh, ek9]
          exact (if_neg (by decide)).symm) rfl
      · refine go_aload_n (pc' := 27) cx dX6_taken_26 rfl rfl ?_
        refine go_getr (pc' := 30) cx 95 fX6_35 dX6_taken_27 kq88 (ltn rfl) (ltn rfl) rfl rfl rfl ?_
        refine go_iload_n (pc' := 31) cx dX6_taken_30 rfl rfl ?_
        refine go_iald (pc' := 32) cx 3 dX6_taken_31 kq95 (ltn rfl) (vpi (k := h) (a := 5) hh5 rfl rfl) ((congrArg (g 95) (cli (k := h) (a := 5) hh5 rfl)).trans ek9) rfl ?_
        refine go_istore_n (pc' := 33) cx dX6_taken_32 (ltn rfl) [(3, .int 3), (0, .ref (E.2.1 88)), (1, .int (nI h)), (2, .int 1)] rfl rfl ?_
        refine go_iload_n (pc' := 34) cx dX6_taken_33 rfl rfl ?_
        refine go_iconst (pc' := 35) cx (-1) dX6_taken_34 rfl rfl ?_
        refine go_icmp_eq (pc' := 38) cx 51 dX6_taken_35 rfl rfl (fun hh9 => absurd hh9 (by decide)) (fun _ => ?_)
        refine go_iload_n (pc' := 39) cx dX6_taken_38 rfl rfl ?_
        refine go_iload_n (pc' := 40) cx dX6_taken_39 rfl rfl ?_
        refine go_icmp_eq (pc' := 43) cx 51 dX6_taken_40 rfl rfl (fun hh => absurd hh (by decide)) (fun _ => ?_)
        refine go_iload_n (pc' := 44) cx dX6_taken_43 rfl rfl ?_
        refine go_cSi (pc' := 47) cx (c_X6_over l E (g := g) 3) mX6_over lX6_468 dX6_taken_44 rfl rfl rfl (ltn rfl) (Nat.le_of_ble_eq_true rfl) (Nat.le_of_ble_eq_true rfl) rfl ?_
        refine go_val (w := .int 1) (congrArg Value.int (by decide)) ?_
        refine go_istore_n (pc' := 48) cx dX6_taken_47 (ltn rfl) [(3, .int 1), (0, .ref (E.2.1 88)), (1, .int (nI h)), (2, .int 1)] rfl rfl ?_
        refine go_goto cx 33 dX6_taken_48 rfl ?_
        refine go_iload_n (pc' := 34) cx dX6_taken_33 rfl rfl ?_
        refine go_iconst (pc' := 35) cx (-1) dX6_taken_34 rfl rfl ?_
        refine go_icmp_eq (pc' := 38) cx 51 dX6_taken_35 rfl rfl (fun hh9 => absurd hh9 (by decide)) (fun _ => ?_)
        refine go_iload_n (pc' := 39) cx dX6_taken_38 rfl rfl ?_
        refine go_iload_n (pc' := 40) cx dX6_taken_39 rfl rfl ?_
        refine go_icmp_eq (pc' := 43) cx 51 dX6_taken_40 rfl rfl (fun _ => ?_) (fun hh => absurd hh (by decide))
        refine go_iload_n (pc' := 52) cx dX6_taken_51 rfl rfl ?_
        refine go_iload_n (pc' := 53) cx dX6_taken_52 rfl rfl ?_
        refine go_icmp_ne (pc' := 56) cx 65 dX6_taken_53 rfl rfl (fun hh => absurd hh (by decide)) (fun _ => ?_)
        refine go_aload_n (pc' := 57) cx dX6_taken_56 rfl rfl ?_
        refine go_getr (pc' := 60) cx 96 fX6_38 dX6_taken_57 kq88 (ltn rfl) (ltn rfl) rfl rfl rfl ?_
        refine go_iload_n (pc' := 61) cx dX6_taken_60 rfl rfl ?_
        refine go_iald (pc' := 62) cx (g 96 h) dX6_taken_61 kq96 (ltn rfl) (vpi (k := h) (a := 5) hh5 rfl rfl) (congrArg (g 96) (cli (k := h) (a := 5) hh5 rfl)) rfl ?_
        refine go_goto cx 67 dX6_taken_62 rfl ?_
        refine go_iret cx rfl dX6_taken_67 ?_
        exact Zi.mk (by
          unfold tkM
          rw [if_neg c9, if_neg c20, clh, ek9]
          exact (if_neg (by decide)).symm) rfl
      · refine go_aload_n (pc' := 27) cx dX6_taken_26 rfl rfl ?_
        refine go_getr (pc' := 30) cx 95 fX6_35 dX6_taken_27 kq88 (ltn rfl) (ltn rfl) rfl rfl rfl ?_
        refine go_iload_n (pc' := 31) cx dX6_taken_30 rfl rfl ?_
        refine go_iald (pc' := 32) cx 3 dX6_taken_31 kq95 (ltn rfl) (vpi (k := h) (a := 5) hh5 rfl rfl) ((congrArg (g 95) (cli (k := h) (a := 5) hh5 rfl)).trans ek9) rfl ?_
        refine go_istore_n (pc' := 33) cx dX6_taken_32 (ltn rfl) [(3, .int 3), (0, .ref (E.2.1 88)), (1, .int (nI h)), (2, .int 2)] rfl rfl ?_
        refine go_iload_n (pc' := 34) cx dX6_taken_33 rfl rfl ?_
        refine go_iconst (pc' := 35) cx (-1) dX6_taken_34 rfl rfl ?_
        refine go_icmp_eq (pc' := 38) cx 51 dX6_taken_35 rfl rfl (fun hh9 => absurd hh9 (by decide)) (fun _ => ?_)
        refine go_iload_n (pc' := 39) cx dX6_taken_38 rfl rfl ?_
        refine go_iload_n (pc' := 40) cx dX6_taken_39 rfl rfl ?_
        refine go_icmp_eq (pc' := 43) cx 51 dX6_taken_40 rfl rfl (fun hh => absurd hh (by decide)) (fun _ => ?_)
        refine go_iload_n (pc' := 44) cx dX6_taken_43 rfl rfl ?_
        refine go_cSi (pc' := 47) cx (c_X6_over l E (g := g) 3) mX6_over lX6_468 dX6_taken_44 rfl rfl rfl (ltn rfl) (Nat.le_of_ble_eq_true rfl) (Nat.le_of_ble_eq_true rfl) rfl ?_
        refine go_val (w := .int 1) (congrArg Value.int (by decide)) ?_
        refine go_istore_n (pc' := 48) cx dX6_taken_47 (ltn rfl) [(3, .int 1), (0, .ref (E.2.1 88)), (1, .int (nI h)), (2, .int 2)] rfl rfl ?_
        refine go_goto cx 33 dX6_taken_48 rfl ?_
        refine go_iload_n (pc' := 34) cx dX6_taken_33 rfl rfl ?_
        refine go_iconst (pc' := 35) cx (-1) dX6_taken_34 rfl rfl ?_
        refine go_icmp_eq (pc' := 38) cx 51 dX6_taken_35 rfl rfl (fun hh9 => absurd hh9 (by decide)) (fun _ => ?_)
        refine go_iload_n (pc' := 39) cx dX6_taken_38 rfl rfl ?_
        refine go_iload_n (pc' := 40) cx dX6_taken_39 rfl rfl ?_
        refine go_icmp_eq (pc' := 43) cx 51 dX6_taken_40 rfl rfl (fun hh => absurd hh (by decide)) (fun _ => ?_)
        refine go_iload_n (pc' := 44) cx dX6_taken_43 rfl rfl ?_
        refine go_cSi (pc' := 47) cx (c_X6_over l E (g := g) 1) mX6_over lX6_468 dX6_taken_44 rfl rfl rfl (ltn rfl) (Nat.le_of_ble_eq_true rfl) (Nat.le_of_ble_eq_true rfl) rfl ?_
        refine go_val (w := .int 0) (congrArg Value.int (by decide)) ?_
        refine go_istore_n (pc' := 48) cx dX6_taken_47 (ltn rfl) [(3, .int 0), (0, .ref (E.2.1 88)), (1, .int (nI h)), (2, .int 2)] rfl rfl ?_
        refine go_goto cx 33 dX6_taken_48 rfl ?_
        refine go_iload_n (pc' := 34) cx dX6_taken_33 rfl rfl ?_
        refine go_iconst (pc' := 35) cx (-1) dX6_taken_34 rfl rfl ?_
        refine go_icmp_eq (pc' := 38) cx 51 dX6_taken_35 rfl rfl (fun hh9 => absurd hh9 (by decide)) (fun _ => ?_)
        refine go_iload_n (pc' := 39) cx dX6_taken_38 rfl rfl ?_
        refine go_iload_n (pc' := 40) cx dX6_taken_39 rfl rfl ?_
        refine go_icmp_eq (pc' := 43) cx 51 dX6_taken_40 rfl rfl (fun hh => absurd hh (by decide)) (fun _ => ?_)
        refine go_iload_n (pc' := 44) cx dX6_taken_43 rfl rfl ?_
        refine go_cSi (pc' := 47) cx (c_X6_over l E (g := g) 0) mX6_over lX6_468 dX6_taken_44 rfl rfl rfl (ltn rfl) (Nat.le_of_ble_eq_true rfl) (Nat.le_of_ble_eq_true rfl) rfl ?_
        refine go_val (w := .int (-1)) (congrArg Value.int (by decide)) ?_
        refine go_istore_n (pc' := 48) cx dX6_taken_47 (ltn rfl) [(3, .int (-1)), (0, .ref (E.2.1 88)), (1, .int (nI h)), (2, .int 2)] rfl rfl ?_
        refine go_goto cx 33 dX6_taken_48 rfl ?_
        refine go_iload_n (pc' := 34) cx dX6_taken_33 rfl rfl ?_
        refine go_iconst (pc' := 35) cx (-1) dX6_taken_34 rfl rfl ?_
        refine go_icmp_eq (pc' := 38) cx 51 dX6_taken_35 rfl rfl (fun _ => ?_) (fun hh9 => absurd rfl hh9)
        refine go_iload_n (pc' := 52) cx dX6_taken_51 rfl rfl ?_
        refine go_iload_n (pc' := 53) cx dX6_taken_52 rfl rfl ?_
        refine go_icmp_ne (pc' := 56) cx 65 dX6_taken_53 rfl rfl (fun _ => ?_) (fun hh9 => absurd hh9 (by decide))
        refine go_bipush (pc' := 67) cx (-13) dX6_taken_65 rfl rfl ?_
        refine go_iret cx rfl dX6_taken_67 ?_
        exact Zi.mk (by
          unfold tkM
          rw [if_neg c9, if_neg c20, clh, ek9]
          exact (if_pos (by decide)).symm) rfl
      · refine go_aload_n (pc' := 27) cx dX6_taken_26 rfl rfl ?_
        refine go_getr (pc' := 30) cx 95 fX6_35 dX6_taken_27 kq88 (ltn rfl) (ltn rfl) rfl rfl rfl ?_
        refine go_iload_n (pc' := 31) cx dX6_taken_30 rfl rfl ?_
        refine go_iald (pc' := 32) cx 3 dX6_taken_31 kq95 (ltn rfl) (vpi (k := h) (a := 5) hh5 rfl rfl) ((congrArg (g 95) (cli (k := h) (a := 5) hh5 rfl)).trans ek9) rfl ?_
        refine go_istore_n (pc' := 33) cx dX6_taken_32 (ltn rfl) [(3, .int 3), (0, .ref (E.2.1 88)), (1, .int (nI h)), (2, .int 3)] rfl rfl ?_
        refine go_iload_n (pc' := 34) cx dX6_taken_33 rfl rfl ?_
        refine go_iconst (pc' := 35) cx (-1) dX6_taken_34 rfl rfl ?_
        refine go_icmp_eq (pc' := 38) cx 51 dX6_taken_35 rfl rfl (fun hh9 => absurd hh9 (by decide)) (fun _ => ?_)
        refine go_iload_n (pc' := 39) cx dX6_taken_38 rfl rfl ?_
        refine go_iload_n (pc' := 40) cx dX6_taken_39 rfl rfl ?_
        refine go_icmp_eq (pc' := 43) cx 51 dX6_taken_40 rfl rfl (fun _ => ?_) (fun hh => absurd hh (by decide))
        refine go_iload_n (pc' := 52) cx dX6_taken_51 rfl rfl ?_
        refine go_iload_n (pc' := 53) cx dX6_taken_52 rfl rfl ?_
        refine go_icmp_ne (pc' := 56) cx 65 dX6_taken_53 rfl rfl (fun hh => absurd hh (by decide)) (fun _ => ?_)
        refine go_aload_n (pc' := 57) cx dX6_taken_56 rfl rfl ?_
        refine go_getr (pc' := 60) cx 96 fX6_38 dX6_taken_57 kq88 (ltn rfl) (ltn rfl) rfl rfl rfl ?_
        refine go_iload_n (pc' := 61) cx dX6_taken_60 rfl rfl ?_
        refine go_iald (pc' := 62) cx (g 96 h) dX6_taken_61 kq96 (ltn rfl) (vpi (k := h) (a := 5) hh5 rfl rfl) (congrArg (g 96) (cli (k := h) (a := 5) hh5 rfl)) rfl ?_
        refine go_goto cx 67 dX6_taken_62 rfl ?_
        refine go_iret cx rfl dX6_taken_67 ?_
        exact Zi.mk (by
          unfold tkM
          rw [if_neg c9, if_neg c20, clh, ek9]
          exact (if_neg (by decide)).symm) rfl
      · refine go_aload_n (pc' := 27) cx dX6_taken_26 rfl rfl ?_
        refine go_getr (pc' := 30) cx 95 fX6_35 dX6_taken_27 kq88 (ltn rfl) (ltn rfl) rfl rfl rfl ?_
        refine go_iload_n (pc' := 31) cx dX6_taken_30 rfl rfl ?_
        refine go_iald (pc' := 32) cx 3 dX6_taken_31 kq95 (ltn rfl) (vpi (k := h) (a := 5) hh5 rfl rfl) ((congrArg (g 95) (cli (k := h) (a := 5) hh5 rfl)).trans ek9) rfl ?_
        refine go_istore_n (pc' := 33) cx dX6_taken_32 (ltn rfl) [(3, .int 3), (0, .ref (E.2.1 88)), (1, .int (nI h)), (2, .int 4)] rfl rfl ?_
        refine go_iload_n (pc' := 34) cx dX6_taken_33 rfl rfl ?_
        refine go_iconst (pc' := 35) cx (-1) dX6_taken_34 rfl rfl ?_
        refine go_icmp_eq (pc' := 38) cx 51 dX6_taken_35 rfl rfl (fun hh9 => absurd hh9 (by decide)) (fun _ => ?_)
        refine go_iload_n (pc' := 39) cx dX6_taken_38 rfl rfl ?_
        refine go_iload_n (pc' := 40) cx dX6_taken_39 rfl rfl ?_
        refine go_icmp_eq (pc' := 43) cx 51 dX6_taken_40 rfl rfl (fun hh => absurd hh (by decide)) (fun _ => ?_)
        refine go_iload_n (pc' := 44) cx dX6_taken_43 rfl rfl ?_
        refine go_cSi (pc' := 47) cx (c_X6_over l E (g := g) 3) mX6_over lX6_468 dX6_taken_44 rfl rfl rfl (ltn rfl) (Nat.le_of_ble_eq_true rfl) (Nat.le_of_ble_eq_true rfl) rfl ?_
        refine go_val (w := .int 1) (congrArg Value.int (by decide)) ?_
        refine go_istore_n (pc' := 48) cx dX6_taken_47 (ltn rfl) [(3, .int 1), (0, .ref (E.2.1 88)), (1, .int (nI h)), (2, .int 4)] rfl rfl ?_
        refine go_goto cx 33 dX6_taken_48 rfl ?_
        refine go_iload_n (pc' := 34) cx dX6_taken_33 rfl rfl ?_
        refine go_iconst (pc' := 35) cx (-1) dX6_taken_34 rfl rfl ?_
        refine go_icmp_eq (pc' := 38) cx 51 dX6_taken_35 rfl rfl (fun hh9 => absurd hh9 (by decide)) (fun _ => ?_)
        refine go_iload_n (pc' := 39) cx dX6_taken_38 rfl rfl ?_
        refine go_iload_n (pc' := 40) cx dX6_taken_39 rfl rfl ?_
        refine go_icmp_eq (pc' := 43) cx 51 dX6_taken_40 rfl rfl (fun hh => absurd hh (by decide)) (fun _ => ?_)
        refine go_iload_n (pc' := 44) cx dX6_taken_43 rfl rfl ?_
        refine go_cSi (pc' := 47) cx (c_X6_over l E (g := g) 1) mX6_over lX6_468 dX6_taken_44 rfl rfl rfl (ltn rfl) (Nat.le_of_ble_eq_true rfl) (Nat.le_of_ble_eq_true rfl) rfl ?_
        refine go_val (w := .int 0) (congrArg Value.int (by decide)) ?_
        refine go_istore_n (pc' := 48) cx dX6_taken_47 (ltn rfl) [(3, .int 0), (0, .ref (E.2.1 88)), (1, .int (nI h)), (2, .int 4)] rfl rfl ?_
        refine go_goto cx 33 dX6_taken_48 rfl ?_
        refine go_iload_n (pc' := 34) cx dX6_taken_33 rfl rfl ?_
        refine go_iconst (pc' := 35) cx (-1) dX6_taken_34 rfl rfl ?_
        refine go_icmp_eq (pc' := 38) cx 51 dX6_taken_35 rfl rfl (fun hh9 => absurd hh9 (by decide)) (fun _ => ?_)
        refine go_iload_n (pc' := 39) cx dX6_taken_38 rfl rfl ?_
        refine go_iload_n (pc' := 40) cx dX6_taken_39 rfl rfl ?_
        refine go_icmp_eq (pc' := 43) cx 51 dX6_taken_40 rfl rfl (fun hh => absurd hh (by decide)) (fun _ => ?_)
        refine go_iload_n (pc' := 44) cx dX6_taken_43 rfl rfl ?_
        refine go_cSi (pc' := 47) cx (c_X6_over l E (g := g) 0) mX6_over lX6_468 dX6_taken_44 rfl rfl rfl (ltn rfl) (Nat.le_of_ble_eq_true rfl) (Nat.le_of_ble_eq_true rfl) rfl ?_
        refine go_val (w := .int (-1)) (congrArg Value.int (by decide)) ?_
        refine go_istore_n (pc' := 48) cx dX6_taken_47 (ltn rfl) [(3, .int (-1)), (0, .ref (E.2.1 88)), (1, .int (nI h)), (2, .int 4)] rfl rfl ?_
        refine go_goto cx 33 dX6_taken_48 rfl ?_
        refine go_iload_n (pc' := 34) cx dX6_taken_33 rfl rfl ?_
        refine go_iconst (pc' := 35) cx (-1) dX6_taken_34 rfl rfl ?_
        refine go_icmp_eq (pc' := 38) cx 51 dX6_taken_35 rfl rfl (fun _ => ?_) (fun hh9 => absurd rfl hh9)
        refine go_iload_n (pc' := 52) cx dX6_taken_51 rfl rfl ?_
        refine go_iload_n (pc' := 53) cx dX6_taken_52 rfl rfl ?_
        refine go_icmp_ne (pc' := 56) cx 65 dX6_taken_53 rfl rfl (fun _ => ?_) (fun hh9 => absurd hh9 (by decide))
        refine go_bipush (pc' := 67) cx (-13) dX6_taken_65 rfl rfl ?_
        refine go_iret cx rfl dX6_taken_67 ?_
        exact Zi.mk (by
          unfold tkM
          rw [if_neg c9, if_neg c20, clh, ek9]
          exact (if_pos (by decide)).symm) rfl
      · refine go_aload_n (pc' := 27) cx dX6_taken_26 rfl rfl ?_
        refine go_getr (pc' := 30) cx 95 fX6_35 dX6_taken_27 kq88 (ltn rfl) (ltn rfl) rfl rfl rfl ?_
        refine go_iload_n (pc' := 31) cx dX6_taken_30 rfl rfl ?_
        refine go_iald (pc' := 32) cx 3 dX6_taken_31 kq95 (ltn rfl) (vpi (k := h) (a := 5) hh5 rfl rfl) ((congrArg (g 95) (cli (k := h) (a := 5) hh5 rfl)).trans ek9) rfl ?_
        refine go_istore_n (pc' := 33) cx dX6_taken_32 (ltn rfl) [(3, .int 3), (0, .ref (E.2.1 88)), (1, .int (nI h)), (2, .int 5)] rfl rfl ?_
        refine go_iload_n (pc' := 34) cx dX6_taken_33 rfl rfl ?_
        refine go_iconst (pc' := 35) cx (-1) dX6_taken_34 rfl rfl ?_
        refine go_icmp_eq (pc' := 38) cx 51 dX6_taken_35 rfl rfl (fun hh9 => absurd hh9 (by decide)) (fun _ => ?_)
        refine go_iload_n (pc' := 39) cx dX6_taken_38 rfl rfl ?_
        refine go_iload_n (pc' := 40) cx dX6_taken_39 rfl rfl ?_
        refine go_icmp_eq (pc' := 43) cx 51 dX6_taken_40 rfl rfl (fun hh => absurd hh (by decide)) (fun _ => ?_)
        refine go_iload_n (pc' := 44) cx dX6_taken_43 rfl rfl ?_
        refine go_cSi (pc' := 47) cx (c_X6_over l E (g := g) 3) mX6_over lX6_468 dX6_taken_44 rfl rfl rfl (ltn rfl) (Nat.le_of_ble_eq_true rfl) (Nat.le_of_ble_eq_true rfl) rfl ?_
        refine go_val (w := .int 1) (congrArg Value.int (by decide)) ?_
        refine go_istore_n (pc' := 48) cx dX6_taken_47 (ltn rfl) [(3, .int 1), (0, .ref (E.2.1 88)), (1, .int (nI h)), (2, .int 5)] rfl rfl ?_
        refine go_goto cx 33 dX6_taken_48 rfl ?_
        refine go_iload_n (pc' := 34) cx dX6_taken_33 rfl rfl ?_
        refine go_iconst (pc' := 35) cx (-1) dX6_taken_34 rfl rfl ?_
        refine go_icmp_eq (pc' := 38) cx 51 dX6_taken_35 rfl rfl (fun hh9 => absurd hh9 (by decide)) (fun _ => ?_)
        refine go_iload_n (pc' := 39) cx dX6_taken_38 rfl rfl ?_
        refine go_iload_n (pc' := 40) cx dX6_taken_39 rfl rfl ?_
        refine go_icmp_eq (pc' := 43) cx 51 dX6_taken_40 rfl rfl (fun hh => absurd hh (by decide)) (fun _ => ?_)
        refine go_iload_n (pc' := 44) cx dX6_taken_43 rfl rfl ?_
        refine go_cSi (pc' := 47) cx (c_X6_over l E (g := g) 1) mX6_over lX6_468 dX6_taken_44 rfl rfl rfl (ltn rfl) (Nat.le_of_ble_eq_true rfl) (Nat.le_of_ble_eq_true rfl) rfl ?_
        refine go_val (w := .int 0) (congrArg Value.int (by decide)) ?_
        refine go_istore_n (pc' := 48) cx dX6_taken_47 (ltn rfl) [(3, .int 0), (0, .ref (E.2.1 88)), (1, .int (nI h)), (2, .int 5)] rfl rfl ?_
        refine go_goto cx 33 dX6_taken_48 rfl ?_
        refine go_iload_n (pc' := 34) cx dX6_taken_33 rfl rfl ?_
        refine go_iconst (pc' := 35) cx (-1) dX6_taken_34 rfl rfl ?_
        refine go_icmp_eq (pc' := 38) cx 51 dX6_taken_35 rfl rfl (fun hh9 => absurd hh9 (by decide)) (fun _ => ?_)
        refine go_iload_n (pc' := 39) cx dX6_taken_38 rfl rfl ?_
        refine go_iload_n (pc' := 40) cx dX6_taken_39 rfl rfl ?_
        refine go_icmp_eq (pc' := 43) cx 51 dX6_taken_40 rfl rfl (fun hh => absurd hh (by decide)) (fun _ => ?_)
        refine go_iload_n (pc' := 44) cx dX6_taken_43 rfl rfl ?_
        refine go_cSi (pc' := 47) cx (c_X6_over l E (g := g) 0) mX6_over lX6_468 dX6_taken_44 rfl rfl rfl (ltn rfl) (Nat.le_of_ble_eq_true rfl) (Nat.le_of_ble_eq_true rfl) rfl ?_
        refine go_val (w := .int (-1)) (congrArg Value.int (by decide)) ?_
        refine go_istore_n (pc' := 48) cx dX6_taken_47 (ltn rfl) [(3, .int (-1)), (0, .ref (E.2.1 88)), (1, .int (nI h)), (2, .int 5)] rfl rfl ?_
        refine go_goto cx 33 dX6_taken_48 rfl ?_
        refine go_iload_n (pc' := 34) cx dX6_taken_33 rfl rfl ?_
        refine go_iconst (pc' := 35) cx (-1) dX6_taken_34 rfl rfl ?_
        refine go_icmp_eq (pc' := 38) cx 51 dX6_taken_35 rfl rfl (fun _ => ?_) (fun hh9 => absurd rfl hh9)
        refine go_iload_n (pc' := 52) cx dX6_taken_51 rfl rfl ?_
        refine go_iload_n (pc' := 53) cx dX6_taken_52 rfl rfl ?_
        refine go_icmp_ne (pc' := 56) cx 65 dX6_taken_53 rfl rfl (fun _ => ?_) (fun hh9 => absurd hh9 (by decide))
        refine go_bipush (pc' := 67) cx (-13) dX6_taken_65 rfl rfl ?_
        refine go_iret cx rfl dX6_taken_67 ?_
        exact Zi.mk (by
          unfold tkM
          rw [if_neg c9, if_neg c20, clh, ek9]
          exact (if_pos (by decide)).symm) rfl
      · refine go_aload_n (pc' := 27) cx dX6_taken_26 rfl rfl ?_
        refine go_getr (pc' := 30) cx 95 fX6_35 dX6_taken_27 kq88 (ltn rfl) (ltn rfl) rfl rfl rfl ?_
        refine go_iload_n (pc' := 31) cx dX6_taken_30 rfl rfl ?_
        refine go_iald (pc' := 32) cx 4 dX6_taken_31 kq95 (ltn rfl) (vpi (k := h) (a := 5) hh5 rfl rfl) ((congrArg (g 95) (cli (k := h) (a := 5) hh5 rfl)).trans ek9) rfl ?_
        refine go_istore_n (pc' := 33) cx dX6_taken_32 (ltn rfl) [(3, .int 4), (0, .ref (E.2.1 88)), (1, .int (nI h)), (2, .int 0)] rfl rfl ?_
        refine go_iload_n (pc' := 34) cx dX6_taken_33 rfl rfl ?_
        refine go_iconst (pc' := 35) cx (-1) dX6_taken_34 rfl rfl ?_
        refine go_icmp_eq (pc' := 38) cx 51 dX6_taken_35 rfl rfl (fun hh9 => absurd hh9 (by decide)) (fun _ => ?_)
        refine go_iload_n (pc' := 39) cx dX6_taken_38 rfl rfl ?_
        refine go_iload_n (pc' := 40) cx dX6_taken_39 rfl rfl ?_
        refine go_icmp_eq (pc' := 43) cx 51 dX6_taken_40 rfl rfl (fun hh => absurd hh (by decide)) (fun _ => ?_)
        refine go_iload_n (pc' := 44) cx dX6_taken_43 rfl rfl ?_
        refine go_cSi (pc' := 47) cx (c_X6_over l E (g := g) 4) mX6_over lX6_468 dX6_taken_44 rfl rfl rfl (ltn rfl) (Nat.le_of_ble_eq_true rfl) (Nat.le_of_ble_eq_true rfl) rfl ?_
        refine go_val (w := .int 2) (congrArg Value.int (by decide)) ?_
        refine go_istore_n (pc' := 48) cx dX6_taken_47 (ltn rfl) [(3, .int 2), (0, .ref (E.2.1 88)), (1, .int (nI h)), (2, .int 0)] rfl rfl ?_
        refine go_goto cx 33 dX6_taken_48 rfl ?_
        refine go_iload_n (pc' := 34) cx dX6_taken_33 rfl rfl ?_
        refine go_iconst (pc' := 35) cx (-1) dX6_taken_34 rfl rfl ?_
        refine go_icmp_eq (pc' := 38) cx 51 dX6_taken_35 rfl rfl (fun hh9 => absurd hh9 (by decide)) (fun _ => ?_)
        refine go_iload_n (pc' := 39) cx dX6_taken_38 rfl rfl ?_
        refine go_iload_n (pc' := 40) cx dX6_taken_39 rfl rfl ?_
        refine go_icmp_eq (pc' := 43) cx 51 dX6_taken_40 rfl rfl (fun hh => absurd hh (by decide)) (fun _ => ?_)
        refine go_iload_n (pc' := 44) cx dX6_taken_43 rfl rfl ?_
        refine go_cSi (pc' := 47) cx (c_X6_over l E (g := g) 2) mX6_over lX6_468 dX6_taken_44 rfl rfl rfl (ltn rfl) (Nat.le_of_ble_eq_true rfl) (Nat.le_of_ble_eq_true rfl) rfl ?_
        refine go_val (w := .int 0) (congrArg Value.int (by decide)) ?_
        refine go_istore_n (pc' := 48) cx dX6_taken_47 (ltn rfl) [(3, .int 0), (0, .ref (E.2.1 88)), (1, .int (nI h)), (2, .int 0)] rfl rfl ?_
        refine go_goto cx 33 dX6_taken_48 rfl ?_
        refine go_iload_n (pc' := 34) cx dX6_taken_33 rfl rfl ?_
        refine go_iconst (pc' := 35) cx (-1) dX6_taken_34 rfl rfl ?_
        refine go_icmp_eq (pc' := 38) cx 51 dX6_taken_35 rfl rfl (fun hh9 => absurd hh9 (by decide)) (fun _ => ?_)
        refine go_iload_n (pc' := 39) cx dX6_taken_38 rfl rfl ?_
        refine go_iload_n (pc' := 40) cx dX6_taken_39 rfl rfl ?_
        refine go_icmp_eq (pc' := 43) cx 51 dX6_taken_40 rfl rfl (fun _ => ?_) (fun hh => absurd hh (by decide))
        refine go_iload_n (pc' := 52) cx dX6_taken_51 rfl rfl ?_
        refine go_iload_n (pc' := 53) cx dX6_taken_52 rfl rfl ?_
        refine go_icmp_ne (pc' := 56) cx 65 dX6_taken_53 rfl rfl (fun hh => absurd hh (by decide)) (fun _ => ?_)
        refine go_aload_n (pc' := 57) cx dX6_taken_56 rfl rfl ?_
        refine go_getr (pc' := 60) cx 96 fX6_38 dX6_taken_57 kq88 (ltn rfl) (ltn rfl) rfl rfl rfl ?_
        refine go_iload_n (pc' := 61) cx dX6_taken_60 rfl rfl ?_
        refine go_iald (pc' := 62) cx (g 96 h) dX6_taken_61 kq96 (ltn rfl) (vpi (k := h) (a := 5) hh5 rfl rfl) (congrArg (g 96) (cli (k := h) (a := 5) hh5 rfl)) rfl ?_
        refine go_goto cx 67 dX6_taken_62 rfl ?_
        refine go_iret cx rfl dX6_taken_67 ?_
        exact Zi.mk (by
          unfold tkM
          rw [if_neg c9, if_neg c20, clh, ek9]
          exact (if_neg (by decide)).symm) rfl
      · refine go_aload_n (pc' := 27) cx dX6_taken_26 rfl rfl ?_
        refine go_getr (pc' := 30) cx 95 fX6_35 dX6_taken_27 kq88 (ltn rfl) (ltn rfl) rfl rfl rfl ?_
        refine go_iload_n (pc' := 31) cx dX6_taken_30 rfl rfl ?_
        refine go_iald (pc' := 32) cx 4 dX6_taken_31 kq95 (ltn rfl) (vpi (k := h) (a := 5) hh5 rfl rfl) ((congrArg (g 95) (cli (k := h) (a := 5) hh5 rfl)).trans ek9) rfl ?_
        refine go_istore_n (pc' := 33) cx dX6_taken_32 (ltn rfl) [(3, .int 4), (0, .ref (E.2.1 88)), (1, .int (nI h)), (2, .int 1)] rfl rfl ?_
        refine go_iload_n (pc' := 34) cx dX6_taken_33 rfl rfl ?_
        refine go_iconst (pc' := 35) cx (-1) dX6_taken_34 rfl rfl ?_
        refine go_icmp_eq (pc' := 38) cx 51 dX6_taken_35 rfl rfl (fun hh9 => absurd hh9 (by decide)) (fun _ => ?_)
        refine go_iload_n (pc' := 39) cx dX6_taken_38 rfl rfl ?_
        refine go_iload_n (pc' := 40) cx dX6_taken_39 rfl rfl ?_
        refine go_icmp_eq (pc' := 43) cx 51 dX6_taken_40 rfl rfl (fun hh => absurd hh (by decide)) (fun _ => ?_)
        refine go_iload_n (pc' := 44) cx dX6_taken_43 rfl rfl ?_
        refine go_cSi (pc' := 47) cx (c_X6_over l E (g := g) 4) mX6_over lX6_468 dX6_taken_44 rfl rfl rfl (ltn rfl) (Nat.le_of_ble_eq_true rfl) (Nat.le_of_ble_eq_true rfl) rfl ?_
        refine go_val (w := .int 2) (congrArg Value.int (by decide)) ?_
        refine go_istore_n (pc' := 48) cx dX6_taken_47 (ltn rfl) [(3, .int 2), (0, .ref (E.2.1 88)), (1, .int (nI h)), (2, .int 1)] rfl rfl ?_
        refine go_goto cx 33 dX6_taken_48 rfl ?_
        refine go_iload_n (pc' := 34) cx dX6_taken_33 rfl rfl ?_
        refine go_iconst (pc' := 35) cx (-1) dX6_taken_34 rfl rfl ?_
        refine go_icmp_eq (pc' := 38) cx 51 dX6_taken_35 rfl rfl (fun hh9 => absurd hh9 (by decide)) (fun _ => ?_)
        refine go_iload_n (pc' := 39) cx dX6_taken_38 rfl rfl ?_
        refine go_iload_n (pc' := 40) cx dX6_taken_39 rfl rfl ?_
        refine go_icmp_eq (pc' := 43) cx 51 dX6_taken_40 rfl rfl (fun hh => absurd hh (by decide)) (fun _ => ?_)
        refine go_iload_n (pc' := 44) cx dX6_taken_43 rfl rfl ?_
        refine go_cSi (pc' := 47) cx (c_X6_over l E (g := g) 2) mX6_over lX6_468 dX6_taken_44 rfl rfl rfl (ltn rfl) (Nat.le_of_ble_eq_true rfl) (Nat.le_of_ble_eq_true rfl) rfl ?_
        refine go_val (w := .int 0) (congrArg Value.int (by decide)) ?_
        refine go_istore_n (pc' := 48) cx dX6_taken_47 (ltn rfl) [(3, .int 0), (0, .ref (E.2.1 88)), (1, .int (nI h)), (2, .int 1)] rfl rfl ?_
        refine go_goto cx 33 dX6_taken_48 rfl ?_
        refine go_iload_n (pc' := 34) cx dX6_taken_33 rfl rfl ?_
        refine go_iconst (pc' := 35) cx (-1) dX6_taken_34 rfl rfl ?_
        refine go_icmp_eq (pc' := 38) cx 51 dX6_taken_35 rfl rfl (fun hh9 => absurd hh9 (by decide)) (fun _ => ?_)
        refine go_iload_n (pc' := 39) cx dX6_taken_38 rfl rfl ?_
        refine go_iload_n (pc' := 40) cx dX6_taken_39 rfl rfl ?_
        refine go_icmp_eq (pc' := 43) cx 51 dX6_taken_40 rfl rfl (fun hh => absurd hh (by decide)) (fun _ => ?_)
        refine go_iload_n (pc' := 44) cx dX6_taken_43 rfl rfl ?_
        refine go_cSi (pc' := 47) cx (c_X6_over l E (g := g) 0) mX6_over lX6_468 dX6_taken_44 rfl rfl rfl (ltn rfl) (Nat.le_of_ble_eq_true rfl) (Nat.le_of_ble_eq_true rfl) rfl ?_
        refine go_val (w := .int (-1)) (congrArg Value.int (by decide)) ?_
        refine go_istore_n (pc' := 48) cx dX6_taken_47 (ltn rfl) [(3, .int (-1)), (0, .ref (E.2.1 88)), (1, .int (nI h)), (2, .int 1)] rfl rfl ?_
        refine go_goto cx 33 dX6_taken_48 rfl ?_
        refine go_iload_n (pc' := 34) cx dX6_taken_33 rfl rfl ?_
        refine go_iconst (pc' := 35) cx (-1) dX6_taken_34 rfl rfl ?_
        refine go_icmp_eq (pc' := 38) cx 51 dX6_taken_35 rfl rfl (fun _ => ?_) (fun hh9 => absurd rfl hh9)
        refine go_iload_n (pc' := 52) cx dX6_taken_51 rfl rfl ?_
        refine go_iload_n (pc' := 53) cx dX6_taken_52 rfl rfl ?_
        refine go_icmp_ne (pc' := 56) cx 65 dX6_taken_53 rfl rfl (fun _ => ?_) (fun hh9 => absurd hh9 (by decide))
        refine go_bipush (pc' := 67) cx (-13) dX6_taken_65 rfl rfl ?_
        refine go_iret cx rfl dX6_taken_67 ?_
        exact Zi.mk (by
          unfold tkM
          rw [if_neg c9, if_neg c20, clh, ek9]
          exact (if_pos (by decide)).symm) rfl
      · refine go_aload_n (pc' := 27) cx dX6_taken_26 rfl rfl ?_
        refine go_getr (pc' := 30) cx 95 fX6_35 dX6_taken_27 kq88 (ltn rfl) (ltn rfl) rfl rfl rfl ?_
        refine go_iload_n (pc' := 31) cx dX6_taken_30 rfl rfl ?_
        refine go_iald (pc' := 32) cx 4 dX6_taken_31 kq95 (ltn rfl) (vpi (k := h) (a := 5) hh5 rfl rfl) ((congrArg (g 95) (cli (k := h) (a := 5) hh5 rfl)).trans ek9) rfl ?_
        refine go_istore_n (pc' := 33) cx dX6_taken_32 (ltn rfl) [(3, .int 4), (0, .ref (E.2.1 88)), (1, .int (nI h)), (2, .int 2)] rfl rfl ?_
        refine go_iload_n (pc' := 34) cx dX6_taken_33 rfl rfl ?_
        refine go_iconst (pc' := 35) cx (-1) dX6_taken_34 rfl rfl ?_
        refine go_icmp_eq (pc' := 38) cx 51 dX6_taken_35 rfl rfl (fun hh9 => absurd hh9 (by decide)) (fun _ => ?_)
        refine go_iload_n (pc' := 39) cx dX6_taken_38 rfl rfl ?_
        refine go_iload_n (pc' := 40) cx dX6_taken_39 rfl rfl ?_
        refine go_icmp_eq (pc' := 43) cx 51 dX6_taken_40 rfl rfl (fun hh => absurd hh (by decide)) (fun _ => ?_)
        refine go_iload_n (pc' := 44) cx dX6_taken_43 rfl rfl ?_
        refine go_cSi (pc' := 47) cx (c_X6_over l E (g := g) 4) mX6_over lX6_468 dX6_taken_44 rfl rfl rfl (ltn rfl) (Nat.le_of_ble_eq_true rfl) (Nat.le_of_ble_eq_true rfl) rfl ?_
        refine go_val (w := .int 2) (congrArg Value.int (by decide)) ?_
        refine go_istore_n (pc' := 48) cx dX6_taken_47 (ltn rfl) [(3, .int 2), (0, .ref (E.2.1 88)), (1, .int (nI h)), (2, .int 2)] rfl rfl ?_
        refine go_goto cx 33 dX6_taken_48 rfl ?_
        refine go_iload_n (pc' := 34) cx dX6_taken_33 rfl rfl ?_
        refine go_iconst (pc' := 35) cx (-1) dX6_taken_34 rfl rfl ?_
        refine go_icmp_eq (pc' := 38) cx 51 dX6_taken_35 rfl rfl (fun hh9 => absurd hh9 (by decide)) (fun _ => ?_)
        refine go_iload_n (pc' := 39) cx dX6_taken_38 rfl rfl ?_
        refine go_iload_n (pc' := 40) cx dX6_taken_39 rfl rfl ?_
        refine go_icmp_eq (pc' := 43) cx 51 dX6_taken_40 rfl rfl (fun _ => ?_) (fun hh => absurd hh (by decide))
        refine go_iload_n (pc' := 52) cx dX6_taken_51 rfl rfl ?_
        refine go_iload_n (pc' := 53) cx dX6_taken_52 rfl rfl ?_
        refine go_icmp_ne (pc' := 56) cx 65 dX6_taken_53 rfl rfl (fun hh => absurd hh (by decide)) (fun _ => ?_)
        refine go_aload_n (pc' := 57) cx dX6_taken_56 rfl rfl ?_
        refine go_getr (pc' := 60) cx 96 fX6_38 dX6_taken_57 kq88 (ltn rfl) (ltn rfl) rfl rfl rfl ?_
        refine go_iload_n (pc' := 61) cx dX6_taken_60 rfl rfl ?_
        refine go_iald (pc' := 62) cx (g 96 h) dX6_taken_61 kq96 (ltn rfl) (vpi (k := h) (a := 5) hh5 rfl rfl) (congrArg (g 96) (cli (k := h) (a := 5) hh5 rfl)) rfl ?_
        refine go_goto cx 67 dX6_taken_62 rfl ?_
        refine go_iret cx rfl dX6_taken_67 ?_
        exact Zi.mk (by
          unfold tkM
          rw [if_neg c9, if_neg c20, clh, ek9]
          exact (if_neg (by decide)).symm) rfl
      · refine go_aload_n (pc' := 27) cx dX6_taken_26 rfl rfl ?_
        refine go_getr (pc' := 30) cx 95 fX6_35 dX6_taken_27 kq88 (ltn rfl) (ltn rfl) rfl rfl rfl ?_
        refine go_iload_n (pc' := 31) cx dX6_taken_30 rfl rfl ?_
        refine go_iald (pc' := 32) cx 4 dX6_taken_31 kq95 (ltn rfl) (vpi (k := h) (a := 5) hh5 rfl rfl) ((congrArg (g 95) (cli (k := h) (a := 5) hh5 rfl)).trans ek9) rfl ?_
        refine go_istore_n (pc' := 33) cx dX6_taken_32 (ltn rfl) [(3, .int 4), (0, .ref (E.2.1 88)), (1, .int (nI h)), (2, .int 3)] rfl rfl ?_
        refine go_iload_n (pc' := 34) cx dX6_taken_33 rfl rfl ?_
        refine go_iconst (pc' := 35) cx (-1) dX6_taken_34 rfl rfl ?_
        refine go_icmp_eq (pc' := 38) cx 51 dX6_taken_35 rfl rfl (fun hh9 => absurd hh9 (by decide)) (fun _ => ?_)
        refine go_iload_n (pc' := 39) cx dX6_taken_38 rfl rfl ?_
        refine go_iload_n (pc' := 40) cx dX6_taken_39 rfl rfl ?_
        refine go_icmp_eq (pc' := 43) cx 51 dX6_taken_40 rfl rfl (fun hh => absurd hh (by decide)) (fun _ => ?_)
        refine go_iload_n (pc' := 44) cx dX6_taken_43 rfl rfl ?_
        refine go_cSi (pc' := 47) cx (c_X6_over l E (g := g) 4) mX6_over lX6_468 dX6_taken_44 rfl rfl rfl (ltn rfl) (Nat.le_of_ble_eq_true rfl) (Nat.le_of_ble_eq_true rfl) rfl ?_
        refine go_val (w := .int 2) (congrArg Value.int (by decide)) ?_
        refine go_istore_n (pc' := 48) cx dX6_taken_47 (ltn rfl) [(3, .int 2), (0, .ref (E.2.1 88)), (1, .int (nI h)), (2, .int 3)] rfl rfl ?_
        refine go_goto cx 33 dX6_taken_48 rfl ?_
        refine go_iload_n (pc' := 34) cx dX6_taken_33 rfl rfl ?_
        refine go_iconst (pc' := 35) cx (-1) dX6_taken_34 rfl rfl ?_
        refine go_icmp_eq (pc' := 38) cx 51 dX6_taken_35 rfl rfl (fun hh9 => absurd hh9 (by decide)) (fun _ => ?_)
        refine go_iload_n (pc' := 39) cx dX6_taken_38 rfl rfl ?_
        refine go_iload_n (pc' := 40) cx dX6_taken_39 rfl rfl ?_
        refine go_icmp_eq (pc' := 43) cx 51 dX6_taken_40 rfl rfl (fun hh => absurd hh (by decide)) (fun _ => ?_)
        refine go_iload_n (pc' := 44) cx dX6_taken_43 rfl rfl ?_
        refine go_cSi (pc' := 47) cx (c_X6_over l E (g := g) 2) mX6_over lX6_468 dX6_taken_44 rfl rfl rfl (ltn rfl) (Nat.le_of_ble_eq_true rfl) (Nat.le_of_ble_eq_true rfl) rfl ?_
        refine go_val (w := .int 0) (congrArg Value.int (by decide)) ?_
        refine go_istore_n (pc' := 48) cx dX6_taken_47 (ltn rfl) [(3, .int 0), (0, .ref (E.2.1 88)), (1, .int (nI h)), (2, .int 3)] rfl rfl ?_
        refine go_goto cx 33 dX6_taken_48 rfl ?_
        refine go_iload_n (pc' := 34) cx dX6_taken_33 rfl rfl ?_
        refine go_iconst (pc' := 35) cx (-1) dX6_taken_34 rfl rfl ?_
        refine go_icmp_eq (pc' := 38) cx 51 dX6_taken_35 rfl rfl (fun hh9 => absurd hh9 (by decide)) (fun _ => ?_)
        refine go_iload_n (pc' := 39) cx dX6_taken_38 rfl rfl ?_
        refine go_iload_n (pc' := 40) cx dX6_taken_39 rfl rfl ?_
        refine go_icmp_eq (pc' := 43) cx 51 dX6_taken_40 rfl rfl (fun hh => absurd hh (by decide)) (fun _ => ?_)
        refine go_iload_n (pc' := 44) cx dX6_taken_43 rfl rfl ?_
        refine go_cSi (pc' := 47) cx (c_X6_over l E (g := g) 0) mX6_over lX6_468 dX6_taken_44 rfl rfl rfl (ltn rfl) (Nat.le_of_ble_eq_true rfl) (Nat.le_of_ble_eq_true rfl) rfl ?_
        refine go_val (w := .int (-1)) (congrArg Value.int (by decide)) ?_
        refine go_istore_n (pc' := 48) cx dX6_taken_47 (ltn rfl) [(3, .int (-1)), (0, .ref (E.2.1 88)), (1, .int (nI h)), (2, .int 3)] rfl rfl ?_
        refine go_goto cx 33 dX6_taken_48 rfl ?_
        refine go_iload_n (pc' := 34) cx dX6_taken_33 rfl rfl ?_
        refine go_iconst (pc' := 35) cx (-1) dX6_taken_34 rfl rfl ?_
        refine go_icmp_eq (pc' := 38) cx 51 dX6_taken_35 rfl rfl (fun _ => ?_) (fun hh9 => absurd rfl hh9)
        refine go_iload_n (pc' := 52) cx dX6_taken_51 rfl rfl ?_
        refine go_iload_n (pc' := 53) cx dX6_taken_52 rfl rfl ?_
        refine go_icmp_ne (pc' := 56) cx 65 dX6_taken_53 rfl rfl (fun _ => ?_) (fun hh9 => absurd hh9 (by decide))
        refine go_bipush (pc' := 67) cx (-13) dX6_taken_65 rfl rfl ?_
        refine go_iret cx rfl dX6_taken_67 ?_
        exact Zi.mk (by
          unfold tkM
          rw [if_neg c9, if_neg c20, clh, ek9]
          exact (if_pos (by decide)).symm) rfl
      · refine go_aload_n (pc' := 27) cx dX6_taken_26 rfl rfl ?_
        refine go_getr (pc' := 30) cx 95 fX6_35 dX6_taken_27 kq88 (ltn rfl) (ltn rfl) rfl rfl rfl ?_
        refine go_iload_n (pc' := 31) cx dX6_taken_30 rfl rfl ?_
        refine go_iald (pc' := 32) cx 4 dX6_taken_31 kq95 (ltn rfl) (vpi (k := h) (a := 5) hh5 rfl rfl) ((congrArg (g 95) (cli (k := h) (a := 5) hh5 rfl)).trans ek9) rfl ?_
        refine go_istore_n (pc' := 33) cx dX6_taken_32 (ltn rfl) [(3, .int 4), (0, .ref (E.2.1 88)), (1, .int (nI h)), (2, .int 4)] rfl rfl ?_
        refine go_iload_n (pc' := 34) cx dX6_taken_33 rfl rfl ?_
        refine go_iconst (pc' := 35) cx (-1) dX6_taken_34 rfl rfl ?_
        refine go_icmp_eq (pc' := 38) cx 51 dX6_taken_35 rfl rfl (fun hh9 => absurd hh9 (by decide)) (fun _ => ?_)
        refine go_iload_n (pc' := 39) cx dX6_taken_38 rfl rfl ?_
        refine go_iload_n (pc' := 40) cx dX6_taken_39 rfl rfl ?_
        refine go_icmp_eq (pc' := 43) cx 51 dX6_taken_40 rfl rfl (fun _ => ?_) (fun hh => absurd hh (by decide))
        refine go_iload_n (pc' := 52) cx dX6_taken_51 rfl rfl ?_
        refine go_iload_n (pc' := 53) cx dX6_taken_52 rfl rfl ?_
        refine go_icmp_ne (pc' := 56) cx 65 dX6_taken_53 rfl rfl (fun hh => absurd hh (by decide)) (fun _ => ?_)
        refine go_aload_n (pc' := 57) cx dX6_taken_56 rfl rfl ?_
        refine go_getr (pc' := 60) cx 96 fX6_38 dX6_taken_57 kq88 (ltn rfl) (ltn rfl) rfl rfl rfl ?_
        refine go_iload_n (pc' := 61) cx dX6_taken_60 rfl rfl ?_
        refine go_iald (pc' := 62) cx (g 96 h) dX6_taken_61 kq96 (ltn rfl) (vpi (k := h) (a := 5) hh5 rfl rfl) (congrArg (g 96) (cli (k := h) (a := 5) hh5 rfl)) rfl ?_
        refine go_goto cx 67 dX6_taken_62 rfl ?_
        refine go_iret cx rfl dX6_taken_67 ?_
        exact Zi.mk (by
          unfold tkM
          rw [if_neg c9, if_neg c20, clh, ek9]
          exact (if_neg (by decide)).symm) rfl
      · refine go_aload_n (pc' := 27) cx dX6_taken_26 rfl rfl ?_
        refine go_getr (pc' := 30) cx 95 fX6_35 dX6_taken_27 kq88 (ltn rfl) (ltn rfl) rfl rfl rfl ?_
        refine go_iload_n (pc' := 31) cx dX6_taken_30 rfl rfl ?_
        refine go_iald (pc' := 32) cx 4 dX6_taken_31 kq95 (ltn rfl) (vpi (k := h) (a := 5) hh5 rfl rfl) ((congrArg (g 95) (cli (k := h) (a := 5) hh5 rfl)).trans ek9) rfl ?_
        refine go_istore_n (pc' := 33) cx dX6_taken_32 (ltn rfl) [(3, .int 4), (0, .ref (E.2.1 88)), (1, .int (nI h)), (2, .int 5)] rfl rfl ?_
        refine go_iload_n (pc' := 34) cx dX6_taken_33 rfl rfl ?_
        refine go_iconst (pc' := 35) cx (-1) dX6_taken_34 rfl rfl ?_
        refine go_icmp_eq (pc' := 38) cx 51 dX6_taken_35 rfl rfl (fun hh9 => absurd hh9 (by decide)) (fun _ => ?_)
        refine go_iload_n (pc' := 39) cx dX6_taken_38 rfl rfl ?_
        refine go_iload_n (pc' := 40) cx dX6_taken_39 rfl rfl ?_
        refine go_icmp_eq (pc' := 43) cx 51 dX6_taken_40 rfl rfl (fun hh => absurd hh (by decide)) (fun _ => ?_)
        refine go_iload_n (pc' := 44) cx dX6_taken_43 rfl rfl ?_
        refine go_cSi (pc' := 47) cx (c_X6_over l E (g := g) 4) mX6_over lX6_468 dX6_taken_44 rfl rfl rfl (ltn rfl) (Nat.le_of_ble_eq_true rfl) (Nat.le_of_ble_eq_true rfl) rfl ?_
        refine go_val (w := .int 2) (congrArg Value.int (by decide)) ?_
        refine go_istore_n (pc' := 48) cx dX6_taken_47 (ltn rfl) [(3, .int 2), (0, .ref (E.2.1 88)), (1, .int (nI h)), (2, .int 5)] rfl rfl ?_
        refine go_goto cx 33 dX6_taken_48 rfl ?_
        refine go_iload_n (pc' := 34) cx dX6_taken_33 rfl rfl ?_
        refine go_iconst (pc' := 35) cx (-1) dX6_taken_34 rfl rfl ?_
        refine go_icmp_eq (pc' := 38) cx 51 dX6_taken_35 rfl rfl (fun hh9 => absurd hh9 (by decide)) (fun _ => ?_)
        refine go_iload_n (pc' := 39) cx dX6_taken_38 rfl rfl ?_
        refine go_iload_n (pc' := 40) cx dX6_taken_39 rfl rfl ?_
        refine go_icmp_eq (pc' := 43) cx 51 dX6_taken_40 rfl rfl (fun hh => absurd hh (by decide)) (fun _ => ?_)
        refine go_iload_n (pc' := 44) cx dX6_taken_43 rfl rfl ?_
        refine go_cSi (pc' := 47) cx (c_X6_over l E (g := g) 2) mX6_over lX6_468 dX6_taken_44 rfl rfl rfl (ltn rfl) (Nat.le_of_ble_eq_true rfl) (Nat.le_of_ble_eq_true rfl) rfl ?_
        refine go_val (w := .int 0) (congrArg Value.int (by decide)) ?_
        refine go_istore_n (pc' := 48) cx dX6_taken_47 (ltn rfl) [(3, .int 0), (0, .ref (E.2.1 88)), (1, .int (nI h)), (2, .int 5)] rfl rfl ?_
        refine go_goto cx 33 dX6_taken_48 rfl ?_
        refine go_iload_n (pc' := 34) cx dX6_taken_33 rfl rfl ?_
        refine go_iconst (pc' := 35) cx (-1) dX6_taken_34 rfl rfl ?_
        refine go_icmp_eq (pc' := 38) cx 51 dX6_taken_35 rfl rfl (fun hh9 => absurd hh9 (by decide)) (fun _ => ?_)
        refine go_iload_n (pc' := 39) cx dX6_taken_38 rfl rfl ?_
        refine go_iload_n (pc' := 40) cx dX6_taken_39 rfl rfl ?_
        refine go_icmp_eq (pc' := 43) cx 51 dX6_taken_40 rfl rfl (fun hh => absurd hh (by decide)) (fun _ => ?_)
        refine go_iload_n (pc' := 44) cx dX6_taken_43 rfl rfl ?_
        refine go_cSi (pc' := 47) cx (c_X6_over l E (g := g) 0) mX6_over lX6_468 dX6_taken_44 rfl rfl rfl (ltn rfl) (Nat.le_of_ble_eq_true rfl) (Nat.le_of_ble_eq_true rfl) rfl ?_
        refine go_val (w := .int (-1)) (congrArg Value.int (by decide)) ?_
        refine go_istore_n (pc' := 48) cx dX6_taken_47 (ltn rfl) [(3, .int (-1)), (0, .ref (E.2.1 88)), (1, .int (nI h)), (2, .int 5)] rfl rfl ?_
        refine go_goto cx 33 dX6_taken_48 rfl ?_
        refine go_iload_n (pc' := 34) cx dX6_taken_33 rfl rfl ?_
        refine go_iconst (pc' := 35) cx (-1) dX6_taken_34 rfl rfl ?_
        refine go_icmp_eq (pc' := 38) cx 51 dX6_taken_35 rfl rfl (fun _ => ?_) (fun hh9 => absurd rfl hh9)
        refine go_iload_n (pc' := 52) cx dX6_taken_51 rfl rfl ?_
        refine go_iload_n (pc' := 53) cx dX6_taken_52 rfl rfl ?_
        refine go_icmp_ne (pc' := 56) cx 65 dX6_taken_53 rfl rfl (fun _ => ?_) (fun hh9 => absurd hh9 (by decide))
        refine go_bipush (pc' := 67) cx (-13) dX6_taken_65 rfl rfl ?_
        refine go_iret cx rfl dX6_taken_67 ?_
        exact Zi.mk (by
          unfold tkM
          rw [if_neg c9, if_neg c20, clh, ek9]
          exact (if_pos (by decide)).symm) rfl
      · refine go_aload_n (pc' := 27) cx dX6_taken_26 rfl rfl ?_
        refine go_getr (pc' := 30) cx 95 fX6_35 dX6_taken_27 kq88 (ltn rfl) (ltn rfl) rfl rfl rfl ?_
        refine go_iload_n (pc' := 31) cx dX6_taken_30 rfl rfl ?_
        refine go_iald (pc' := 32) cx 5 dX6_taken_31 kq95 (ltn rfl) (vpi (k := h) (a := 5) hh5 rfl rfl) ((congrArg (g 95) (cli (k := h) (a := 5) hh5 rfl)).trans ek9) rfl ?_
        refine go_istore_n (pc' := 33) cx dX6_taken_32 (ltn rfl) [(3, .int 5), (0, .ref (E.2.1 88)), (1, .int (nI h)), (2, .int 0)] rfl rfl ?_
        refine go_iload_n (pc' := 34) cx dX6_taken_33 rfl rfl ?_
        refine go_iconst (pc' := 35) cx (-1) dX6_taken_34 rfl rfl ?_
        refine go_icmp_eq (pc' := 38) cx 51 dX6_taken_35 rfl rfl (fun hh9 => absurd hh9 (by decide)) (fun _ => ?_)
        refine go_iload_n (pc' := 39) cx dX6_taken_38 rfl rfl ?_
        refine go_iload_n (pc' := 40) cx dX6_taken_39 rfl rfl ?_
        refine go_icmp_eq (pc' := 43) cx 51 dX6_taken_40 rfl rfl (fun hh => absurd hh (by decide)) (fun _ => ?_)
        refine go_iload_n (pc' := 44) cx dX6_taken_43 rfl rfl ?_
        refine go_cSi (pc' := 47) cx (c_X6_over l E (g := g) 5) mX6_over lX6_468 dX6_taken_44 rfl rfl rfl (ltn rfl) (Nat.le_of_ble_eq_true rfl) (Nat.le_of_ble_eq_true rfl) rfl ?_
        refine go_val (w := .int 0) (congrArg Value.int (by decide)) ?_
        refine go_istore_n (pc' := 48) cx dX6_taken_47 (ltn rfl) [(3, .int 0), (0, .ref (E.2.1 88)), (1, .int (nI h)), (2, .int 0)] rfl rfl ?_
        refine go_goto cx 33 dX6_taken_48 rfl ?_
        refine go_iload_n (pc' := 34) cx dX6_taken_33 rfl rfl ?_
        refine go_iconst (pc' := 35) cx (-1) dX6_taken_34 rfl rfl ?_
        refine go_icmp_eq (pc' := 38) cx 51 dX6_taken_35 rfl rfl (fun hh9 => absurd hh9 (by decide)) (fun _ => ?_)
        refine go_iload_n (pc' := 39) cx dX6_taken_38 rfl rfl ?_
        refine go_iload_n (pc' := 40) cx dX6_taken_39 rfl rfl ?_
        refine go_icmp_eq (pc' := 43) cx 51 dX6_taken_40 rfl rfl (fun _ => ?_) (fun hh => absurd hh (by decide))
        refine go_iload_n (pc' := 52) cx dX6_taken_51 rfl rfl ?_
        refine go_iload_n (pc' := 53) cx dX6_taken_52 rfl rfl ?_
        refine go_icmp_ne (pc' := 56) cx 65 dX6_taken_53 rfl rfl (fun hh => absurd hh (by decide)) (fun _ => ?_)
        refine go_aload_n (pc' := 57) cx dX6_taken_56 rfl rfl ?_
        refine go_getr (pc' := 60) cx 96 fX6_38 dX6_taken_57 kq88 (ltn rfl) (ltn rfl) rfl rfl rfl ?_
        refine go_iload_n (pc' := 61) cx dX6_taken_60 rfl rfl ?_
        refine go_iald (pc' := 62) cx (g 96 h) dX6_taken_61 kq96 (ltn rfl) (vpi (k := h) (a := 5) hh5 rfl rfl) (congrArg (g 96) (cli (k := h) (a := 5) hh5 rfl)) rfl ?_
        refine go_goto cx 67 dX6_taken_62 rfl ?_
        refine go_iret cx rfl dX6_taken_67 ?_
        exact Zi.mk (by
          unfold tkM
          rw [if_neg c9, if_neg c20, clh, ek9]
          exact (if_neg (by decide)).symm) rfl
      · refine go_aload_n (pc' := 27) cx dX6_taken_26 rfl rfl ?_
        refine go_getr (pc' := 30) cx 95 fX6_35 dX6_taken_27 kq88 (ltn rfl) (ltn rfl) rfl rfl rfl ?_
        refine go_iload_n (pc' := 31) cx dX6_taken_30 rfl rfl ?_
        refine go_iald (pc' := 32) cx 5 dX6_taken_31 kq95 (ltn rfl) (vpi (k := h) (a := 5) hh5 rfl rfl) ((congrArg (g 95) (cli (k := h) (a := 5) hh5 rfl)).trans ek9) rfl ?_
        refine go_istore_n (pc' := 33) cx dX6_taken_32 (ltn rfl) [(3, .int 5), (0, .ref (E.2.1 88)), (1, .int (nI h)), (2, .int 1)] rfl rfl ?_
        refine go_iload_n (pc' := 34) cx dX6_taken_33 rfl rfl ?_
        refine go_iconst (pc' := 35) cx (-1) dX6_taken_34 rfl rfl ?_
        refine go_icmp_eq (pc' := 38) cx 51 dX6_taken_35 rfl rfl (fun hh9 => absurd hh9 (by decide)) (fun _ => ?_)
        refine go_iload_n (pc' := 39) cx dX6_taken_38 rfl rfl ?_
        refine go_iload_n (pc' := 40) cx dX6_taken_39 rfl rfl ?_
        refine go_icmp_eq (pc' := 43) cx 51 dX6_taken_40 rfl rfl (fun hh => absurd hh (by decide)) (fun _ => ?_)
        refine go_iload_n (pc' := 44) cx dX6_taken_43 rfl rfl ?_
        refine go_cSi (pc' := 47) cx (c_X6_over l E (g := g) 5) mX6_over lX6_468 dX6_taken_44 rfl rfl rfl (ltn rfl) (Nat.le_of_ble_eq_true rfl) (Nat.le_of_ble_eq_true rfl) rfl ?_
        refine go_val (w := .int 0) (congrArg Value.int (by decide)) ?_
        refine go_istore_n (pc' := 48) cx dX6_taken_47 (ltn rfl) [(3, .int 0), (0, .ref (E.2.1 88)), (1, .int (nI h)), (2, .int 1)] rfl rfl ?_
        refine go_goto cx 33 dX6_taken_48 rfl ?_
        refine go_iload_n (pc' := 34) cx dX6_taken_33 rfl rfl ?_
        refine go_iconst (pc' := 35) cx (-1) dX6_taken_34 rfl rfl ?_
        refine go_icmp_eq (pc' := 38) cx 51 dX6_taken_35 rfl rfl (fun hh9 => absurd hh9 (by decide)) (fun _ => ?_)
        refine go_iload_n (pc' := 39) cx dX6_taken_38 rfl rfl ?_
        refine go_iload_n (pc' := 40) cx dX6_taken_39 rfl rfl ?_
        refine go_icmp_eq (pc' := 43) cx 51 dX6_taken_40 rfl rfl (fun hh => absurd hh (by decide)) (fun _ => ?_)
        refine go_iload_n (pc' := 44) cx dX6_taken_43 rfl rfl ?_
        refine go_cSi (pc' := 47) cx (c_X6_over l E (g := g) 0) mX6_over lX6_468 dX6_taken_44 rfl rfl rfl (ltn rfl) (Nat.le_of_ble_eq_true rfl) (Nat.le_of_ble_eq_true rfl) rfl ?_
        refine go_val (w := .int (-1)) (congrArg Value.int (by decide)) ?_
        refine go_istore_n (pc' := 48) cx dX6_taken_47 (ltn rfl) [(3, .int (-1)), (0, .ref (E.2.1 88)), (1, .int (nI h)), (2, .int 1)] rfl rfl ?_
        refine go_goto cx 33 dX6_taken_48 rfl ?_
        refine go_iload_n (pc' := 34) cx dX6_taken_33 rfl rfl ?_
        refine go_iconst (pc' := 35) cx (-1) dX6_taken_34 rfl rfl ?_
        refine go_icmp_eq (pc' := 38) cx 51 dX6_taken_35 rfl rfl (fun _ => ?_) (fun hh9 => absurd rfl hh9)
        refine go_iload_n (pc' := 52) cx dX6_taken_51 rfl rfl ?_
        refine go_iload_n (pc' := 53) cx dX6_taken_52 rfl rfl ?_
        refine go_icmp_ne (pc' := 56) cx 65 dX6_taken_53 rfl rfl (fun _ => ?_) (fun hh9 => absurd hh9 (by decide))
        refine go_bipush (pc' := 67) cx (-13) dX6_taken_65 rfl rfl ?_
        refine go_iret cx rfl dX6_taken_67 ?_
        exact Zi.mk (by
          unfold tkM
          rw [if_neg c9, if_neg c20, clh, ek9]
          exact (if_pos (by decide)).symm) rfl
      · refine go_aload_n (pc' := 27) cx dX6_taken_26 rfl rfl ?_
        refine go_getr (pc' := 30) cx 95 fX6_35 dX6_taken_27 kq88 (ltn rfl) (ltn rfl) rfl rfl rfl ?_
        refine go_iload_n (pc' := 31) cx dX6_taken_30 rfl rfl ?_
        refine go_iald (pc' := 32) cx 5 dX6_taken_31 kq95 (ltn rfl) (vpi (k := h) (a := 5) hh5 rfl rfl) ((congrArg (g 95) (cli (k := h) (a := 5) hh5 rfl)).trans ek9) rfl ?_
        refine go_istore_n (pc' := 33) cx dX6_taken_32 (ltn rfl) [(3, .int 5), (0, .ref (E.2.1 88)), (1, .int (nI h)), (2, .int 2)] rfl rfl ?_
        refine go_iload_n (pc' := 34) cx dX6_taken_33 rfl rfl ?_
        refine go_iconst (pc' := 35) cx (-1) dX6_taken_34 rfl rfl ?_
        refine go_icmp_eq (pc' := 38) cx 51 dX6_taken_35 rfl rfl (fun hh9 => absurd hh9 (by decide)) (fun _ => ?_)
        refine go_iload_n (pc' := 39) cx dX6_taken_38 rfl rfl ?_
        refine go_iload_n (pc' := 40) cx dX6_taken_39 rfl rfl ?_
        refine go_icmp_eq (pc' := 43) cx 51 dX6_taken_40 rfl rfl (fun hh => absurd hh (by decide)) (fun _ => ?_)
        refine go_iload_n (pc' := 44) cx dX6_taken_43 rfl rfl ?_
        refine go_cSi (pc' := 47) cx (c_X6_over l E (g := g) 5) mX6_over lX6_468 dX6_taken_44 rfl rfl rfl (ltn rfl) (Nat.le_of_ble_eq_true rfl) (Nat.le_of_ble_eq_true rfl) rfl ?_
        refine go_val (w := .int 0) (congrArg Value.int (by decide)) ?_
        refine go_istore_n (pc' := 48) cx dX6_taken_47 (ltn rfl) [(3, .int 0), (0, .ref (E.2.1 88)), (1, .int (nI h)), (2, .int 2)] rfl rfl ?_
        refine go_goto cx 33 dX6_taken_48 rfl ?_
        refine go_iload_n (pc' := 34) cx dX6_taken_33 rfl rfl ?_
        refine go_iconst (pc' := 35) cx (-1) dX6_taken_34 rfl rfl ?_
        refine go_icmp_eq (pc' := 38) cx 51 dX6_taken_35 rfl rfl (fun hh9 => absurd hh9 (by decide)) (fun _ => ?_)
        refine go_iload_n (pc' := 39) cx dX6_taken_38 rfl rfl ?_
        refine go_iload_n (pc' := 40) cx dX6_taken_39 rfl rfl ?_
        refine go_icmp_eq (pc' := 43) cx 51 dX6_taken_40 rfl rfl (fun hh => absurd hh (by decide)) (fun _ => ?_)
        refine go_iload_n (pc' := 44) cx dX6_taken_43 rfl rfl ?_
        refine go_cSi (pc' := 47) cx (c_X6_over l E (g := g) 0) mX6_over lX6_468 dX6_taken_44 rfl rfl rfl (ltn rfl) (Nat.le_of_ble_eq_true rfl) (Nat.le_of_ble_eq_true rfl) rfl ?_
        refine go_val (w := .int (-1)) (congrArg Value.int (by decide)) ?_
        refine go_istore_n (pc' := 48) cx dX6_taken_47 (ltn rfl) [(3, .int (-1)), (0, .ref (E.2.1 88)), (1, .int (nI h)), (2, .int 2)] rfl rfl ?_
        refine go_goto cx 33 dX6_taken_48 rfl ?_
        refine go_iload_n (pc' := 34) cx dX6_taken_33 rfl rfl ?_
        refine go_iconst (pc' := 35) cx (-1) dX6_taken_34 rfl rfl ?_
        refine go_icmp_eq (pc' := 38) cx 51 dX6_taken_35 rfl rfl (fun _ => ?_) (fun hh9 => absurd rfl hh9)
        refine go_iload_n (pc' := 52) cx dX6_taken_51 rfl rfl ?_
        refine go_iload_n (pc' := 53) cx dX6_taken_52 rfl rfl ?_
        refine go_icmp_ne (pc' := 56) cx 65 dX6_taken_53 rfl rfl (fun _ => ?_) (fun hh9 => absurd hh9 (by decide))
        refine go_bipush (pc' := 67) cx (-13) dX6_taken_65 rfl rfl ?_
        refine go_iret cx rfl dX6_taken_67 ?_
        exact Zi.mk (by
          unfold tkM
          rw [if_neg c9, if_neg c20, clh, ek9]
          exact (if_pos (by decide)).symm) rfl
      · refine go_aload_n (pc' := 27) cx dX6_taken_26 rfl rfl ?_
        refine go_getr (pc' := 30) cx 95 fX6_35 dX6_taken_27 kq88 (ltn rfl) (ltn rfl) rfl rfl rfl ?_
        refine go_iload_n (pc' := 31) cx dX6_taken_30 rfl rfl ?_
        refine go_iald (pc' := 32) cx 5 dX6_taken_31 kq95 (ltn rfl) (vpi (k := h) (a := 5) hh5 rfl rfl) ((congrArg (g 95) (cli (k := h) (a := 5) hh5 rfl)).trans ek9) rfl ?_
        refine go_istore_n (pc' := 33) cx dX6_taken_32 (ltn rfl) [(3, .int 5), (0, .ref (E.2.1 88)), (1, .int (nI h)), (2, .int 3)] rfl rfl ?_
        refine go_iload_n (pc' := 34) cx dX6_taken_33 rfl rfl ?_
        refine go_iconst (pc' := 35) cx (-1) dX6_taken_34 rfl rfl ?_
        refine go_icmp_eq (pc' := 38) cx 51 dX6_taken_35 rfl rfl (fun hh9 => absurd hh9 (by decide)) (fun _ => ?_)
        refine go_iload_n (pc' := 39) cx dX6_taken_38 rfl rfl ?_
        refine go_iload_n (pc' := 40) cx dX6_taken_39 rfl rfl ?_
        refine go_icmp_eq (pc' := 43) cx 51 dX6_taken_40 rfl rfl (fun hh => absurd hh (by decide)) (fun _ => ?_)
        refine go_iload_n (pc' := 44) cx dX6_taken_43 rfl rfl ?_
        refine go_cSi (pc' := 47) cx (c_X6_over l E (g := g) 5) mX6_over lX6_468 dX6_taken_44 rfl rfl rfl (ltn rfl) (Nat.le_of_ble_eq_true rfl) (Nat.le_of_ble_eq_true rfl) rfl ?_
        refine go_val (w := .int 0) (congrArg Value.int (by decide)) ?_
        refine go_istore_n (pc' := 48) cx dX6_taken_47 (ltn rfl) [(3, .int 0), (0, .ref (E.2.1 88)), (1, .int (nI h)), (2, .int 3)] rfl rfl ?_
        refine go_goto cx 33 dX6_taken_48 rfl ?_
        refine go_iload_n (pc' := 34) cx dX6_taken_33 rfl rfl ?_
        refine go_iconst (pc' := 35) cx (-1) dX6_taken_34 rfl rfl ?_
        refine go_icmp_eq (pc' := 38) cx 51 dX6_taken_35 rfl rfl (fun hh9 => absurd hh9 (by decide)) (fun _ => ?_)
        refine go_iload_n (pc' := 39) cx dX6_taken_38 rfl rfl ?_
        refine go_iload_n (pc' := 40) cx dX6_taken_39 rfl rfl ?_
        refine go_icmp_eq (pc' := 43) cx 51 dX6_taken_40 rfl rfl (fun hh => absurd hh (by decide)) (fun _ => ?_)
        refine go_iload_n (pc' := 44) cx dX6_taken_43 rfl rfl ?_
        refine go_cSi (pc' := 47) cx (c_X6_over l E (g := g) 0) mX6_over lX6_468 dX6_taken_44 rfl rfl rfl (ltn rfl) (Nat.le_of_ble_eq_true rfl) (Nat.le_of_ble_eq_true rfl) rfl ?_
        refine go_val (w := .int (-1)) (congrArg Value.int (by decide)) ?_
        refine go_istore_n (pc' := 48) cx dX6_taken_47 (ltn rfl) [(3, .int (-1)), (0, .ref (E.2.1 88)), (1, .int (nI h)), (2, .int 3)] rfl rfl ?_
        refine go_goto cx 33 dX6_taken_48 rfl ?_
        refine go_iload_n (pc' := 34) cx dX6_taken_33 rfl rfl ?_
        refine go_iconst (pc' := 35) cx (-1) dX6_taken_34 rfl rfl ?_
        refine go_icmp_eq (pc' := 38) cx 51 dX6_taken_35 rfl rfl (fun _ => ?_) (fun hh9 => absurd rfl hh9)
        refine go_iload_n (pc' := 52) cx dX6_taken_51 rfl rfl ?_
        refine go_iload_n (pc' := 53) cx dX6_taken_52 rfl rfl ?_
        refine go_icmp_ne (pc' := 56) cx 65 dX6_taken_53 rfl rfl (fun _ => ?_) (fun hh9 => absurd hh9 (by decide))
        refine go_bipush (pc' := 67) cx (-13) dX6_taken_65 rfl rfl ?_
        refine go_iret cx rfl dX6_taken_67 ?_
        exact Zi.mk (by
          unfold tkM
          rw [if_neg c9, if_neg c20, clh, ek9]
          exact (if_pos (by decide)).symm) rfl
      · refine go_aload_n (pc' := 27) cx dX6_taken_26 rfl rfl ?_
        refine go_getr (pc' := 30) cx 95 fX6_35 dX6_taken_27 kq88 (ltn rfl) (ltn rfl) rfl rfl rfl ?_
        refine go_iload_n (pc' := 31) cx dX6_taken_30 rfl rfl ?_
        refine go_iald (pc' := 32) cx 5 dX6_taken_31 kq95 (ltn rfl) (vpi (k := h) (a := 5) hh5 rfl rfl) ((congrArg (g 95) (cli (k := h) (a := 5) hh5 rfl)).trans ek9) rfl ?_
        refine go_istore_n (pc' := 33) cx dX6_taken_32 (ltn rfl) [(3, .int 5), (0, .ref (E.2.1 88)), (1, .int (nI h)), (2, .int 4)] rfl rfl ?_
        refine go_iload_n (pc' := 34) cx dX6_taken_33 rfl rfl ?_
        refine go_iconst (pc' := 35) cx (-1) dX6_taken_34 rfl rfl ?_
        refine go_icmp_eq (pc' := 38) cx 51 dX6_taken_35 rfl rfl (fun hh9 => absurd hh9 (by decide)) (fun _ => ?_)
        refine go_iload_n (pc' := 39) cx dX6_taken_38 rfl rfl ?_
        refine go_iload_n (pc' := 40) cx dX6_taken_39 rfl rfl ?_
        refine go_icmp_eq (pc' := 43) cx 51 dX6_taken_40 rfl rfl (fun hh => absurd hh (by decide)) (fun _ => ?_)
        refine go_iload_n (pc' := 44) cx dX6_taken_43 rfl rfl ?_
        refine go_cSi (pc' := 47) cx (c_X6_over l E (g := g) 5) mX6_over lX6_468 dX6_taken_44 rfl rfl rfl (ltn rfl) (Nat.le_of_ble_eq_true rfl) (Nat.le_of_ble_eq_true rfl) rfl ?_
        refine go_val (w := .int 0) (congrArg Value.int (by decide)) ?_
        refine go_istore_n (pc' := 48) cx dX6_taken_47 (ltn rfl) [(3, .int 0), (0, .ref (E.2.1 88)), (1, .int (nI h)), (2, .int 4)] rfl rfl ?_
        refine go_goto cx 33 dX6_taken_48 rfl ?_
        refine go_iload_n (pc' := 34) cx dX6_taken_33 rfl rfl ?_
        refine go_iconst (pc' := 35) cx (-1) dX6_taken_34 rfl rfl ?_
        refine go_icmp_eq (pc' := 38) cx 51 dX6_taken_35 rfl rfl (fun hh9 => absurd hh9 (by decide)) (fun _ => ?_)
        refine go_iload_n (pc' := 39) cx dX6_taken_38 rfl rfl ?_
        refine go_iload_n (pc' := 40) cx dX6_taken_39 rfl rfl ?_
        refine go_icmp_eq (pc' := 43) cx 51 dX6_taken_40 rfl rfl (fun hh => absurd hh (by decide)) (fun _ => ?_)
        refine go_iload_n (pc' := 44) cx dX6_taken_43 rfl rfl ?_
        refine go_cSi (pc' := 47) cx (c_X6_over l E (g := g) 0) mX6_over lX6_468 dX6_taken_44 rfl rfl rfl (ltn rfl) (Nat.le_of_ble_eq_true rfl) (Nat.le_of_ble_eq_true rfl) rfl ?_
        refine go_val (w := .int (-1)) (congrArg Value.int (by decide)) ?_
        refine go_istore_n (pc' := 48) cx dX6_taken_47 (ltn rfl) [(3, .int (-1)), (0, .ref (E.2.1 88)), (1, .int (nI h)), (2, .int 4)] rfl rfl ?_
        refine go_goto cx 33 dX6_taken_48 rfl ?_
        refine go_iload_n (pc' := 34) cx dX6_taken_33 rfl rfl ?_
        refine go_iconst (pc' := 35) cx (-1) dX6_taken_34 rfl rfl ?_
        refine go_icmp_eq (pc' := 38) cx 51 dX6_taken_35 rfl rfl (fun _ => ?_) (fun hh9 => absurd rfl hh9)
        refine go_iload_n (pc' := 52) cx dX6_taken_51 rfl rfl ?_
        refine go_iload_n (pc' := 53) cx dX6_taken_52 rfl rfl ?_
        refine go_icmp_ne (pc' := 56) cx 65 dX6_taken_53 rfl rfl (fun _ => ?_) (fun hh9 => absurd hh9 (by decide))
        refine go_bipush (pc' := 67) cx (-13) dX6_taken_65 rfl rfl ?_
        refine go_iret cx rfl dX6_taken_67 ?_
        exact Zi.mk (by
          unfold tkM
          rw [if_neg c9, if_neg c20, clh, ek9]
          exact (if_pos (by decide)).symm) rfl
      · refine go_aload_n (pc' := 27) cx dX6_taken_26 rfl rfl ?_
        refine go_getr (pc' := 30) cx 95 fX6_35 dX6_taken_27 kq88 (ltn rfl) (ltn rfl) rfl rfl rfl ?_
        refine go_iload_n (pc' := 31) cx dX6_taken_30 rfl rfl ?_
        refine go_iald (pc' := 32) cx 5 dX6_taken_31 kq95 (ltn rfl) (vpi (k := h) (a := 5) hh5 rfl rfl) ((congrArg (g 95) (cli (k := h) (a := 5) hh5 rfl)).trans ek9) rfl ?_
        refine go_istore_n (pc' := 33) cx dX6_taken_32 (ltn rfl) [(3, .int 5), (0, .ref (E.2.1 88)), (1, .int (nI h)), (2, .int 5)] rfl rfl ?_
        refine go_iload_n (pc' := 34) cx dX6_taken_33 rfl rfl ?_
        refine go_iconst (pc' := 35) cx (-1) dX6_taken_34 rfl rfl ?_
        refine go_icmp_eq (pc' := 38) cx 51 dX6_taken_35 rfl rfl (fun hh9 => absurd hh9 (by decide)) (fun _ => ?_)
        refine go_iload_n (pc' := 39) cx dX6_taken_38 rfl rfl ?_
        refine go_iload_n (pc' := 40) cx dX6_taken_39 rfl rfl ?_
        refine go_icmp_eq (pc' := 43) cx 51 dX6_taken_40 rfl rfl (fun _ => ?_) (fun hh => absurd hh (by decide))
        refine go_iload_n (pc' := 52) cx dX6_taken_51 rfl rfl ?_
        refine go_iload_n (pc' := 53) cx dX6_taken_52 rfl rfl ?_
        refine go_icmp_ne (pc' := 56) cx 65 dX6_taken_53 rfl rfl (fun hh => absurd hh (by decide)) (fun _ => ?_)
        refine go_aload_n (pc' := 57) cx dX6_taken_56 rfl rfl ?_
        refine go_getr (pc' := 60) cx 96 fX6_38 dX6_taken_57 kq88 (ltn rfl) (ltn rfl) rfl rfl rfl ?_
        refine go_iload_n (pc' := 61) cx dX6_taken_60 rfl rfl ?_
        refine go_iald (pc' := 62) cx (g 96 h) dX6_taken_61 kq96 (ltn rfl) (vpi (k := h) (a := 5) hh5 rfl rfl) (congrArg (g 96) (cli (k := h) (a := 5) hh5 rfl)) rfl ?_
        refine go_goto cx 67 dX6_taken_62 rfl ?_
        refine go_iret cx rfl dX6_taken_67 ?_
        exact Zi.mk (by
          unfold tkM
          rw [if_neg c9, if_neg c20, clh, ek9]
          exact (if_neg (by decide)).symm) rfl
    · refine go_bipush (pc' := 25) cx (-11) dX6_taken_23 rfl rfl ?_
      refine go_iret cx rfl dX6_taken_25 ?_
      exact Zi.mk (by unfold tkM; rw [if_neg c9, if_pos c20]) rfl
  · refine go_bipush (pc' := 14) cx (-2) dX6_taken_12 rfl rfl ?_
    refine go_iret cx rfl dX6_taken_14 ?_
    exact Zi.mk (by unfold tkM; rw [if_pos c9]) rfl
