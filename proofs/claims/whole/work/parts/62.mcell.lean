/-! THE REFERENCE: a sheet's cell -/
theorem inX_in2 {x k : Int32} {n : Nat} (hn : n < 1000) (e : k = nI n) (h : ¬ inX 0 (k - 1) x = 0) : ∃ q, q < n ∧ x = nI q := by
  rw [e, inX_inI hn] at h
  exact in_ok (by omega) h

def cvM (so x : Int32) : Int32 := if so = 0 then x.toInt8.toInt32 else if so = 1 then x.toInt16.toInt32 else x

set_option maxHeartbeats 1000000 in
set_option maxRecDepth 20000 in
theorem c_X6_cell (l : Launch) (E : Ev) {g : IG} {o : Option Nat} {z : Int64} (hS : ShMX g) (x1 x2 x3 : Int32) : Ct l E 115 yX6_cell cX6_cell 4 (some .int) 3 [.ref (E.2.1 88), .int x1, .int x2, .int x3] g (RFo o) z (ZI (RFo o) z (fun x g1 => (inI 4 x1 = 0 ∧ x = -2 ∧ g1 = g) ∨ ∃ t, t < 4 ∧ x1 = nI t ∧ ((g 111 t = 0 ∧ x = -11 ∧ g1 = g) ∨ (¬ g 111 t = 0 ∧ ∃ sz, sz ≤ 40 ∧ g 113 t = nI sz ∧ ((∃ q, q < sz ∧ x2 = nI q ∧ x = 1 ∧ g1 = up2 g 114 (40 * t + q) (cvM (g 112 t) x3)) ∨ (inI (nI sz) x2 = 0 ∧ x = -12 ∧ g1 = g)))))) := by
  refine Ct.of (lv0 := [(0, .ref (E.2.1 88)), (1, .int x1), (2, .int x2), (3, .int x3)]) (by decide) (Nat.le_of_ble_eq_true rfl) rfl ?_
  intro p e s m below meth c cx
  refine go_iload_n (pc' := 1) cx dX6_cell_0 rfl rfl ?_
  refine go_cSi (pc' := 4) cx (c_X6_isSheet l E (g := g) x1) mX6_isSheet lX6_435 dX6_cell_1 rfl rfl rfl (ltn rfl) (Nat.le_of_ble_eq_true rfl) (Nat.le_of_ble_eq_true rfl) rfl ?_
  refine go_if_ne (pc' := 7) cx 10 dX6_cell_4 rfl rfl (fun c4 => ?_) (fun c4 => ?_)
  · obtain ⟨t, ht, et⟩ := in_ok (k := 4) (by omega) c4
    subst et
    have clt := clI_n (k := t) (by omega)
    refine go_aload_n (pc' := 11) cx dX6_cell_10 rfl rfl ?_
    refine go_getr (pc' := 14) cx 111 fX6_86 dX6_cell_11 kq88 (ltn rfl) (ltn rfl) rfl rfl rfl ?_
    refine go_iload_n (pc' := 15) cx dX6_cell_14 rfl rfl ?_
    refine go_zald (pc' := 16) cx (g 111 t) dX6_cell_15 kq111 (ltn rfl) (vpi (k := t) (a := 4) ht rfl rfl) (congrArg (g 111) (cli (k := t) (a := 4) ht rfl)) rfl ?_
    refine go_if_ne (pc' := 19) cx 22 dX6_cell_16 rfl rfl (fun c16 => ?_) (fun c16 => ?_)
    · obtain ⟨sz, hsz, h113⟩ := hS t ht c16
      refine go_iload_n (pc' := 23) cx dX6_cell_22 rfl rfl ?_
      refine go_i2l (pc' := 24) cx dX6_cell_23 rfl ?_
      refine go_lconst (pc' := 25) cx 0 dX6_cell_24 rfl rfl ?_
      refine go_val (w := .long (((0 : Int32)).toInt64)) (congrArg Value.long (by decide)) ?_
      refine go_aload_n (pc' := 26) cx dX6_cell_25 rfl rfl ?_
      refine go_getr (pc' := 29) cx 113 fX6_93 dX6_cell_26 kq88 (ltn rfl) (ltn rfl) rfl rfl rfl ?_
      refine go_iload_n (pc' := 30) cx dX6_cell_29 rfl rfl ?_
      refine go_iald (pc' := 31) cx (nI sz) dX6_cell_30 kq113 (ltn rfl) (vpi (k := t) (a := 4) ht rfl rfl) ((congrArg (g 113) (cli (k := t) (a := 4) ht rfl)).trans h113) rfl ?_
      refine go_iconst (pc' := 32) cx 1 dX6_cell_31 rfl rfl ?_
      refine go_isub (pc' := 33) cx dX6_cell_32 rfl ?_
      refine go_i2l (pc' := 34) cx dX6_cell_33 rfl ?_
      refine go_cSi (pc' := 37) cx (c_X6_in l E (g := g) x2 (0 : Int32) ((nI sz) - 1)) mX6_in lX6_108 dX6_cell_34 rfl rfl rfl (ltn rfl) (Nat.le_of_ble_eq_true rfl) (Nat.le_of_ble_eq_true rfl) rfl ?_
      refine go_if_ne (pc' := 40) cx 43 dX6_cell_37 rfl rfl (fun c37 => ?_) (fun c37 => ?_)
      · obtain ⟨q, hq, eq⟩ := inX_in2 (n := sz) (by omega) rfl c37
        subst eq
        refine go_aload_n (pc' := 44) cx dX6_cell_43 rfl rfl ?_
        refine go_getr (pc' := 47) cx 114 fX6_96 dX6_cell_44 kq88 (ltn rfl) (ltn rfl) rfl rfl rfl ?_
        refine go_bipush (pc' := 49) cx 40 dX6_cell_47 rfl rfl ?_
        refine go_iload_n (pc' := 50) cx dX6_cell_49 rfl rfl ?_
        refine go_imul (pc' := 51) cx dX6_cell_50 rfl ?_
        refine go_val (w := .int (nI (40 * t))) (congrArg Value.int (pk_mul 40 t)) ?_
        refine go_iload_n (pc' := 52) cx dX6_cell_51 rfl rfl ?_
        refine go_iadd (pc' := 53) cx dX6_cell_52 rfl ?_
        refine go_val (w := .int (nI ((40 * t) + q))) (congrArg Value.int (nI_add (40 * t) q)) ?_
        refine go_aload_n (pc' := 54) cx dX6_cell_53 rfl rfl ?_
        refine go_getr (pc' := 57) cx 112 fX6_90 dX6_cell_54 kq88 (ltn rfl) (ltn rfl) rfl rfl rfl ?_
        refine go_iload_n (pc' := 58) cx dX6_cell_57 rfl rfl ?_
        refine go_iald (pc' := 59) cx (g 112 t) dX6_cell_58 kq112 (ltn rfl) (vpi (k := t) (a := 4) ht rfl rfl) (congrArg (g 112) (cli (k := t) (a := 4) ht rfl)) rfl ?_
        refine go_if_ne (pc' := 62) cx 67 dX6_cell_59 rfl rfl (fun c59 => ?_) (fun c59 => ?_)
        · refine go_aload_n (pc' := 68) cx dX6_cell_67 rfl rfl ?_
          refine go_getr (pc' := 71) cx 112 fX6_90 dX6_cell_68 kq88 (ltn rfl) (ltn rfl) rfl rfl rfl ?_
          refine go_iload_n (pc' := 72) cx dX6_cell_71 rfl rfl ?_
          refine go_iald (pc' := 73) cx (g 112 t) dX6_cell_72 kq112 (ltn rfl) (vpi (k := t) (a := 4) ht rfl rfl) (congrArg (g 112) (cli (k := t) (a := 4) ht rfl)) rfl ?_
          refine go_iconst (pc' := 74) cx 1 dX6_cell_73 rfl rfl ?_
          refine go_icmp_ne (pc' := 77) cx 82 dX6_cell_74 rfl rfl (fun c74 => ?_) (fun c74 => ?_)
          · refine go_iload_n (pc' := 83) cx dX6_cell_82 rfl rfl ?_
            refine go_iastk (pc' := 84) cx ((40 * t) + q) dX6_cell_83 kq114 (ltn rfl) (vpi (k := ((40 * t) + q)) (a := 160) (by omega) rfl rfl) (cli (k := ((40 * t) + q)) (a := 160) (by omega) rfl) rfl ?_
            refine go_iconst (pc' := 85) cx 1 dX6_cell_84 rfl rfl ?_
            refine go_iret cx rfl dX6_cell_85 ?_
            exact ZI.mk (Or.inr ⟨t, ht, rfl, Or.inr ⟨c16, sz, hsz, h113, Or.inl ⟨q, hq, rfl, rfl, congrArg (up2 g 114 (40 * t + q)) (by unfold cvM; first | rw [if_pos c59] | rw [if_neg c59, if_pos c74] | rw [if_neg c59, if_neg c74])⟩⟩⟩)
          · refine go_iload_n (pc' := 78) cx dX6_cell_77 rfl rfl ?_
            refine go_i2s (pc' := 79) cx dX6_cell_78 rfl ?_
            refine go_goto cx 83 dX6_cell_79 rfl ?_
            refine go_iastk (pc' := 84) cx ((40 * t) + q) dX6_cell_83 kq114 (ltn rfl) (vpi (k := ((40 * t) + q)) (a := 160) (by omega) rfl rfl) (cli (k := ((40 * t) + q)) (a := 160) (by omega) rfl) rfl ?_
            refine go_iconst (pc' := 85) cx 1 dX6_cell_84 rfl rfl ?_
            refine go_iret cx rfl dX6_cell_85 ?_
            exact ZI.mk (Or.inr ⟨t, ht, rfl, Or.inr ⟨c16, sz, hsz, h113, Or.inl ⟨q, hq, rfl, rfl, congrArg (up2 g 114 (40 * t + q)) (by unfold cvM; first | rw [if_pos c59] | rw [if_neg c59, if_pos c74] | rw [if_neg c59, if_neg c74])⟩⟩⟩)
        · refine go_iload_n (pc' := 63) cx dX6_cell_62 rfl rfl ?_
          refine go_i2b (pc' := 64) cx dX6_cell_63 rfl ?_
          refine go_goto cx 83 dX6_cell_64 rfl ?_
          refine go_iastk (pc' := 84) cx ((40 * t) + q) dX6_cell_83 kq114 (ltn rfl) (vpi (k := ((40 * t) + q)) (a := 160) (by omega) rfl rfl) (cli (k := ((40 * t) + q)) (a := 160) (by omega) rfl) rfl ?_
          refine go_iconst (pc' := 85) cx 1 dX6_cell_84 rfl rfl ?_
          refine go_iret cx rfl dX6_cell_85 ?_
          exact ZI.mk (Or.inr ⟨t, ht, rfl, Or.inr ⟨c16, sz, hsz, h113, Or.inl ⟨q, hq, rfl, rfl, congrArg (up2 g 114 (40 * t + q)) (by unfold cvM; first | rw [if_pos c59] | rw [if_neg c59, if_pos c74] | rw [if_neg c59, if_neg c74])⟩⟩⟩)
      · refine go_bipush (pc' := 42) cx (-12) dX6_cell_40 rfl rfl ?_
        refine go_iret cx rfl dX6_cell_42 ?_
        exact ZI.mk (Or.inr ⟨t, ht, rfl, Or.inr ⟨c16, sz, hsz, h113, Or.inr ⟨by rw [← inX_inI (by omega)]; exact c37, rfl, rfl⟩⟩⟩)
    · refine go_bipush (pc' := 21) cx (-11) dX6_cell_19 rfl rfl ?_
      refine go_iret cx rfl dX6_cell_21 ?_
      exact ZI.mk (Or.inr ⟨t, ht, rfl, Or.inl ⟨c16, rfl, rfl⟩⟩)
  · refine go_bipush (pc' := 9) cx (-2) dX6_cell_7 rfl rfl ?_
    refine go_iret cx rfl dX6_cell_9 ?_
    exact ZI.mk (Or.inl ⟨c4, rfl, rfl⟩)
