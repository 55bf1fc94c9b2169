/-! THE CLASS: the host -/
theorem c_hasT (l : Launch) (E : Ev) {g : IG} {o : Option Nat} {z : Int64} {t sz : Nat} (ht : t < 4) (h2 : g (29 + 2 * t) 2 = nI sz) (i1 n1 : Int32) : Ct l E 115 yX2_hasRange cX2_hasRange 3 (some .boolean) 1 [.ref (E.2.1 (29 + 2 * t)), .int i1, .int n1] g (RFo o) z (Zi (RFo o) z (hasR (nI sz) i1 n1) g) := by
  refine (c_X2_hasRange l E ht i1 n1).wk ?_
  rintro _ _ _ _ ⟨rfl, rfl, rfl, rfl⟩
  exact Zi.mk (by rw [h2]) rfl
/-- copied numbers -/
def cpyG (g : IG) (t u a b k : Nat) : IG := upw g (29 + 2 * u + 1) (va_cpy (g (29 + 2 * t + 1)) (g (29 + 2 * u + 1)) a b k)
theorem und_all (l : Launch) (E : Ev) {g : IG} {o : Option Nat} {z : Int64} (h : ∀ k, k < 6 → ∀ x2 : Int32, Ct l E 115 yX5_isUnder cX5_isUnder 4 (some .boolean) 1 [.int (nI k), .int x2] g (RFo o) z (Zi (RFo o) z (undV (nI k) x2) g)) : True := trivial

set_option maxHeartbeats 1000000 in
set_option maxRecDepth 20000 in
theorem c_X5_cell (l : Launch) (E : Ev) {g : IG} {o : Option Nat} {z : Int64} (hS : ShX g) (x1 x2 x3 : Int32) : Ct l E 115 yX5_cell cX5_cell 4 (some .int) 2 [.ref (E.2.1 0), .int x1, .int x2, .int x3] g (RFo o) z (ZI (RFo o) z (fun x g1 => (inI 4 x1 = 0 ∧ x = -2 ∧ g1 = g) ∨ ∃ t sz, t < 4 ∧ sz ≤ 40 ∧ x1 = nI t ∧ g (29 + 2 * t) 2 = nI sz ∧ ((g (29 + 2 * t) 1 = -1 ∧ x = -11 ∧ g1 = g) ∨ (¬ g (29 + 2 * t) 1 = -1 ∧ ((∃ q, q < sz ∧ x2 = nI q ∧ x = 1 ∧ g1 = up2 g (29 + 2 * t + 1) q (cvS (g (29 + 2 * t) 1) x3)) ∨ ((x2 < 0 ∨ ¬ x2 < nI sz) ∧ x = -12 ∧ g1 = g)))))) := by
  refine Ct.of (lv0 := [(0, .ref (E.2.1 0)), (1, .int x1), (2, .int x2), (3, .int x3)]) (by decide) (Nat.le_of_ble_eq_true rfl) rfl ?_
  intro p e s m below meth c cx
  refine go_iload_n (pc' := 1) cx dX5_cell_0 rfl rfl ?_
  refine go_cSi (pc' := 4) cx (c_X5_isSheet l E (g := g) x1) mX5_isSheet lX5_165 dX5_cell_1 rfl rfl rfl (ltn rfl) (Nat.le_of_ble_eq_true rfl) (Nat.le_of_ble_eq_true rfl) rfl ?_
  refine go_if_ne (pc' := 7) cx 10 dX5_cell_4 rfl rfl (fun c4 => ?_) (fun c4 => ?_)
  · obtain ⟨t, ht, et⟩ := in_ok (k := 4) (by omega) c4
    subst et
    obtain ⟨sz, hsz, h2⟩ := hS t ht
    refine go_aload_n (pc' := 11) cx dX5_cell_10 rfl rfl ?_
    refine go_getr (pc' := 14) cx 4 fX5_32 dX5_cell_11 kq0 (ltn rfl) (ltn rfl) rfl rfl rfl ?_
    refine go_iload_n (pc' := 15) cx dX5_cell_14 rfl rfl ?_
    refine go_aaldk (pc' := 16) cx t (29 + 2 * t) dX5_cell_15 kq4 (Nat.le_of_ble_eq_true rfl) (ltn rfl) (ltn rfl) (vpi (k := t) (a := 4) ht rfl rfl) (cli (k := t) (a := 4) ht rfl) (sh_r ht).2 rfl ?_
    refine go_geti (pc' := 19) cx (g (29 + 2 * t) 1) fX5_208 dX5_cell_16 (sh_k' _ ht).1 (by omega) (ltn rfl) rfl rfl rfl ?_
    refine go_iconst (pc' := 20) cx (-1) dX5_cell_19 rfl rfl ?_
    refine go_icmp_ne (pc' := 23) cx 26 dX5_cell_20 rfl rfl (fun c20 => ?_) (fun c20 => ?_)
    · refine go_aload_n (pc' := 27) cx dX5_cell_26 rfl rfl ?_
      refine go_getr (pc' := 30) cx 4 fX5_32 dX5_cell_27 kq0 (ltn rfl) (ltn rfl) rfl rfl rfl ?_
      refine go_iload_n (pc' := 31) cx dX5_cell_30 rfl rfl ?_
      refine go_aaldk (pc' := 32) cx t (29 + 2 * t) dX5_cell_31 kq4 (Nat.le_of_ble_eq_true rfl) (ltn rfl) (ltn rfl) (vpi (k := t) (a := 4) ht rfl rfl) (cli (k := t) (a := 4) ht rfl) (sh_r ht).2 rfl ?_
      refine go_iload_n (pc' := 33) cx dX5_cell_32 rfl rfl ?_
      refine go_iload_n (pc' := 34) cx dX5_cell_33 rfl rfl ?_
      refine go_cVI (pc' := 37) cx (c_putX l E (g := g) ht hsz h2 x2 x3) mX2_put lX5_190 dX5_cell_34 (sh_k' _ ht).1 (ltn rfl) (by omega) rfl rfl rfl rfl (ltn rfl) (Nat.le_of_ble_eq_true rfl) (Nat.le_of_ble_eq_true rfl) rfl (fun y G1 hy => ?_)
      refine go_if_eq (pc' := 40) cx 44 dX5_cell_37 rfl rfl (fun c37 => ?_) (fun c37 => ?_)
      · refine go_bipush (pc' := 46) cx (-12) dX5_cell_44 rfl rfl ?_
        refine go_iret cx rfl dX5_cell_46 ?_
        refine ZI.mk (Or.inr ⟨t, sz, ht, hsz, rfl, h2, ?_⟩)
        refine Or.inr ⟨c20, ?_⟩
        rcases hy with ⟨q, hq, e1, e2, e3⟩ | ⟨e1, e2, e3⟩
        · exact absurd (e2.symm.trans c37) (by decide)
        · exact Or.inr ⟨e1, rfl, e3⟩
      · refine go_iconst (pc' := 41) cx 1 dX5_cell_40 rfl rfl ?_
        refine go_goto cx 46 dX5_cell_41 rfl ?_
        refine go_iret cx rfl dX5_cell_46 ?_
        refine ZI.mk (Or.inr ⟨t, sz, ht, hsz, rfl, h2, ?_⟩)
        refine Or.inr ⟨c20, ?_⟩
        rcases hy with ⟨q, hq, e1, e2, e3⟩ | ⟨e1, e2, e3⟩
        · exact Or.inl ⟨q, hq, e1, rfl, e3⟩
        · exact absurd e2 c37
    · refine go_bipush (pc' := 25) cx (-11) dX5_cell_23 rfl rfl ?_
      refine go_iret cx rfl dX5_cell_25 ?_
      refine ZI.mk (Or.inr ⟨t, sz, ht, hsz, rfl, h2, ?_⟩)
      exact Or.inl ⟨c20, rfl, rfl⟩
  · refine go_bipush (pc' := 9) cx (-2) dX5_cell_7 rfl rfl ?_
    refine go_iret cx rfl dX5_cell_9 ?_
    exact ZI.mk (Or.inl ⟨c4, rfl, rfl⟩)

theorem nI_j {k k2 a b sz su : Nat} {i : Int32} (e : nI k = nI k2) (c : ¬ hasR (nI sz) i (nI k) = 0) (h : a + k ≤ sz) (h2 : b + k2 ≤ su) (hs : sz ≤ 40) (hs2 : su ≤ 40) : k2 = k := ((nI_eq (by omega) (by omega)).mp e).symm

set_option maxHeartbeats 1000000 in
set_option maxRecDepth 20000 in
theorem c_X5_copy (l : Launch) (E : Ev) {g : IG} {o : Option Nat} {z : Int64} (hS : ShX g) (x1 x2 x3 x4 x5 : Int32) : Ct l E 115 yX5_copy cX5_copy 8 (some .int) 2 [.ref (E.2.1 0), .int x1, .int x2, .int x3, .int x4, .int x5] g (RFo o) z (ZI (RFo o) z (fun x g1 => ((inI 4 x1 = 0 ∨ inI 4 x3 = 0) ∧ x = -2 ∧ g1 = g) ∨ ∃ t u sz su, t < 4 ∧ u < 4 ∧ sz ≤ 40 ∧ su ≤ 40 ∧ x1 = nI t ∧ x3 = nI u ∧ g (29 + 2 * t) 2 = nI sz ∧ g (29 + 2 * u) 2 = nI su ∧ (((g (29 + 2 * t) 1 = -1 ∨ g (29 + 2 * u) 1 = -1) ∧ x = -11 ∧ g1 = g) ∨ (¬ g (29 + 2 * t) 1 = -1 ∧ ¬ g (29 + 2 * u) 1 = -1 ∧ ((¬ g (29 + 2 * t) 1 = g (29 + 2 * u) 1 ∧ x = -13 ∧ g1 = g) ∨ (g (29 + 2 * t) 1 = g (29 + 2 * u) 1 ∧ (((hasR (nI sz) x2 x5 = 0 ∨ hasR (nI su) x4 x5 = 0) ∧ x = -12 ∧ g1 = g) ∨ ∃ a b k, x2 = nI a ∧ x4 = nI b ∧ x5 = nI k ∧ a + k ≤ sz ∧ b + k ≤ su ∧ x = nI k ∧ g1 = cpyG g t u a b k))))))) := by
  refine Ct.of (lv0 := [(0, .ref (E.2.1 0)), (1, .int x1), (2, .int x2), (3, .int x3), (4, .int x4), (5, .int x5)]) (by decide) (Nat.le_of_ble_eq_true rfl) rfl ?_
  intro p e s m below meth c cx
  refine go_iload_n (pc' := 1) cx dX5_copy_0 rfl rfl ?_
  refine go_cSi (pc' := 4) cx (c_X5_isSheet l E (g := g) x1) mX5_isSheet lX5_165 dX5_copy_1 rfl rfl rfl (ltn rfl) (Nat.le_of_ble_eq_true rfl) (Nat.le_of_ble_eq_true rfl) rfl ?_
  refine go_if_eq (pc' := 7) cx 14 dX5_copy_4 rfl rfl (fun c4 => ?_) (fun c4 => ?_)
  · refine go_bipush (pc' := 16) cx (-2) dX5_copy_14 rfl rfl ?_
    refine go_iret cx rfl dX5_copy_16 ?_
    exact ZI.mk (Or.inl ⟨Or.inl c4, rfl, rfl⟩)
  · refine go_iload_n (pc' := 8) cx dX5_copy_7 rfl rfl ?_
    refine go_cSi (pc' := 11) cx (c_X5_isSheet l E (g := g) x3) mX5_isSheet lX5_165 dX5_copy_8 rfl rfl rfl (ltn rfl) (Nat.le_of_ble_eq_true rfl) (Nat.le_of_ble_eq_true rfl) rfl ?_
    refine go_if_ne (pc' := 14) cx 17 dX5_copy_11 rfl rfl (fun c11 => ?_) (fun c11 => ?_)
    · obtain ⟨t, ht, et⟩ := in_ok (k := 4) (by omega) c4
      subst et
      obtain ⟨sz, hsz, h2⟩ := hS t ht
      obtain ⟨u, hu, eu⟩ := in_ok (k := 4) (by omega) c11
      subst eu
      obtain ⟨su, hsu, hu2⟩ := hS u hu
      refine go_aload_n (pc' := 18) cx dX5_copy_17 rfl rfl ?_
      refine go_getr (pc' := 21) cx 4 fX5_32 dX5_copy_18 kq0 (ltn rfl) (ltn rfl) rfl rfl rfl ?_
      refine go_iload_n (pc' := 22) cx dX5_copy_21 rfl rfl ?_
      refine go_aaldk (pc' := 23) cx t (29 + 2 * t) dX5_copy_22 kq4 (Nat.le_of_ble_eq_true rfl) (ltn rfl) (ltn rfl) (vpi (k := t) (a := 4) ht rfl rfl) (cli (k := t) (a := 4) ht rfl) (sh_r ht).2 rfl ?_
      refine go_astore (pc' := 25) cx dX5_copy_23 (ltn rfl) [(6, .ref (E.2.1 (29 + 2 * t))), (0, .ref (E.2.1 0)), (1, .int (nI t)), (2, .int x2), (3, .int (nI u)), (4, .int x4), (5, .int x5)] rfl rfl ?_
      refine go_aload_n (pc' := 26) cx dX5_copy_25 rfl rfl ?_
      refine go_getr (pc' := 29) cx 4 fX5_32 dX5_copy_26 kq0 (ltn rfl) (ltn rfl) rfl rfl rfl ?_
      refine go_iload_n (pc' := 30) cx dX5_copy_29 rfl rfl ?_
      refine go_aaldk (pc' := 31) cx u (29 + 2 * u) dX5_copy_30 kq4 (Nat.le_of_ble_eq_true rfl) (ltn rfl) (ltn rfl) (vpi (k := u) (a := 4) hu rfl rfl) (cli (k := u) (a := 4) hu rfl) (sh_r hu).2 rfl ?_
      refine go_astore (pc' := 33) cx dX5_copy_31 (ltn rfl) [(7, .ref (E.2.1 (29 + 2 * u))), (6, .ref (E.2.1 (29 + 2 * t))), (0, .ref (E.2.1 0)), (1, .int (nI t)), (2, .int x2), (3, .int (nI u)), (4, .int x4), (5, .int x5)] rfl rfl ?_
      refine go_aload (pc' := 35) cx dX5_copy_33 rfl rfl ?_
      refine go_geti (pc' := 38) cx (g (29 + 2 * t) 1) fX5_208 dX5_copy_35 (sh_k' _ ht).1 (by omega) (ltn rfl) rfl rfl rfl ?_
      refine go_iconst (pc' := 39) cx (-1) dX5_copy_38 rfl rfl ?_
      refine go_icmp_eq (pc' := 42) cx 51 dX5_copy_39 rfl rfl (fun c39 => ?_) (fun c39 => ?_)
      · refine go_bipush (pc' := 53) cx (-11) dX5_copy_51 rfl rfl ?_
        refine go_iret cx rfl dX5_copy_53 ?_
        refine ZI.mk (Or.inr ⟨t, u, sz, su, ht, hu, hsz, hsu, rfl, rfl, h2, hu2, ?_⟩)
        exact Or.inl ⟨Or.inl c39, rfl, rfl⟩
      · refine go_aload (pc' := 44) cx dX5_copy_42 rfl rfl ?_
        refine go_geti (pc' := 47) cx (g (29 + 2 * u) 1) fX5_208 dX5_copy_44 (sh_k' _ hu).1 (by omega) (ltn rfl) rfl rfl rfl ?_
        refine go_iconst (pc' := 48) cx (-1) dX5_copy_47 rfl rfl ?_
        refine go_icmp_ne (pc' := 51) cx 54 dX5_copy_48 rfl rfl (fun c48 => ?_) (fun c48 => ?_)
        · refine go_aload (pc' := 56) cx dX5_copy_54 rfl rfl ?_
          refine go_geti (pc' := 59) cx (g (29 + 2 * t) 1) fX5_208 dX5_copy_56 (sh_k' _ ht).1 (by omega) (ltn rfl) rfl rfl rfl ?_
          refine go_aload (pc' := 61) cx dX5_copy_59 rfl rfl ?_
          refine go_geti (pc' := 64) cx (g (29 + 2 * u) 1) fX5_208 dX5_copy_61 (sh_k' _ hu).1 (by omega) (ltn rfl) rfl rfl rfl ?_
          refine go_icmp_eq (pc' := 67) cx 70 dX5_copy_64 rfl rfl (fun c64 => ?_) (fun c64 => ?_)
          · refine go_aload (pc' := 72) cx dX5_copy_70 rfl rfl ?_
            refine go_iload_n (pc' := 73) cx dX5_copy_72 rfl rfl ?_
            refine go_iload (pc' := 75) cx dX5_copy_73 rfl rfl ?_
            refine go_cVi (pc' := 78) cx (c_hasT l E (g := g) ht h2 x2 x5) mX2_hasRange lX5_211 dX5_copy_75 (sh_k' _ ht).1 (ltn rfl) (by omega) rfl rfl rfl rfl (ltn rfl) (Nat.le_of_ble_eq_true rfl) (Nat.le_of_ble_eq_true rfl) rfl ?_
            refine go_if_eq (pc' := 81) cx 93 dX5_copy_78 rfl rfl (fun c78 => ?_) (fun c78 => ?_)
            · refine go_bipush (pc' := 95) cx (-12) dX5_copy_93 rfl rfl ?_
              refine go_iret cx rfl dX5_copy_95 ?_
              refine ZI.mk (Or.inr ⟨t, u, sz, su, ht, hu, hsz, hsu, rfl, rfl, h2, hu2, ?_⟩)
              exact Or.inr ⟨c39, c48, Or.inr ⟨c64, Or.inl ⟨Or.inl c78, rfl, rfl⟩⟩⟩
            · refine go_aload (pc' := 83) cx dX5_copy_81 rfl rfl ?_
              refine go_iload (pc' := 85) cx dX5_copy_83 rfl rfl ?_
              refine go_iload (pc' := 87) cx dX5_copy_85 rfl rfl ?_
              refine go_cVi (pc' := 90) cx (c_hasT l E (g := g) hu hu2 x4 x5) mX2_hasRange lX5_211 dX5_copy_87 (sh_k' _ hu).1 (ltn rfl) (by omega) rfl rfl rfl rfl (ltn rfl) (Nat.le_of_ble_eq_true rfl) (Nat.le_of_ble_eq_true rfl) rfl ?_
              refine go_if_ne (pc' := 93) cx 96 dX5_copy_90 rfl rfl (fun c90 => ?_) (fun c90 => ?_)
              · obtain ⟨a, k, ea, ek, hak⟩ := hasR_ok hsz c78
                obtain ⟨b, k2, eb, ek2, hbk⟩ := hasR_ok hsu c90
                subst ea
                subst eb
                subst ek
                have hkk : k2 = k := nI_j ek2 c78 hak hbk hsz hsu
                subst hkk
                refine go_aload (pc' := 98) cx dX5_copy_96 rfl rfl ?_
                refine go_getr (pc' := 101) cx (29 + 2 * t + 1) fX5_214 dX5_copy_98 (sh_k' _ ht).1 (by omega) (ltn rfl) rfl (sh_r ht).1 rfl ?_
                refine go_iload_n (pc' := 102) cx dX5_copy_101 rfl rfl ?_
                refine go_aload (pc' := 104) cx dX5_copy_102 rfl rfl ?_
                refine go_getr (pc' := 107) cx (29 + 2 * u + 1) fX5_214 dX5_copy_104 (sh_k' _ hu).1 (by omega) (ltn rfl) rfl (sh_r hu).1 rfl ?_
                refine go_iload (pc' := 109) cx dX5_copy_107 rfl rfl ?_
                refine go_iload (pc' := 111) cx dX5_copy_109 rfl rfl ?_
                refine go_acopy (pc' := 114) cx a b k2 lX5_218 dX5_copy_111 (sh_k' _ ht).2.1 (sh_k' _ hu).2.1 (by omega) (by omega) (nI_pos (by omega)) (nI_pos (by omega)) (nI_pos (by omega)) (nI_clamp (by omega)) (nI_clamp (by omega)) (nI_clamp (by omega)) (by omega) (by omega) (ltn rfl) (Nat.le_of_ble_eq_true rfl) rfl ?_
                refine go_iload (pc' := 116) cx dX5_copy_114 rfl rfl ?_
                refine go_iret cx rfl dX5_copy_116 ?_
                refine ZI.mk (Or.inr ⟨t, u, sz, su, ht, hu, hsz, hsu, rfl, rfl, h2, hu2, ?_⟩)
                exact Or.inr ⟨c39, c48, Or.inr ⟨c64, Or.inr ⟨a, b, k2, rfl, rfl, rfl, hak, hbk, rfl, rfl⟩⟩⟩
              · refine go_bipush (pc' := 95) cx (-12) dX5_copy_93 rfl rfl ?_
                refine go_iret cx rfl dX5_copy_95 ?_
                refine ZI.mk (Or.inr ⟨t, u, sz, su, ht, hu, hsz, hsu, rfl, rfl, h2, hu2, ?_⟩)
                exact Or.inr ⟨c39, c48, Or.inr ⟨c64, Or.inl ⟨Or.inr c90, rfl, rfl⟩⟩⟩
          · refine go_bipush (pc' := 69) cx (-13) dX5_copy_67 rfl rfl ?_
            refine go_iret cx rfl dX5_copy_69 ?_
            refine ZI.mk (Or.inr ⟨t, u, sz, su, ht, hu, hsz, hsu, rfl, rfl, h2, hu2, ?_⟩)
            exact Or.inr ⟨c39, c48, Or.inl ⟨c64, rfl, rfl⟩⟩
        · refine go_bipush (pc' := 53) cx (-11) dX5_copy_51 rfl rfl ?_
          refine go_iret cx rfl dX5_copy_53 ?_
          refine ZI.mk (Or.inr ⟨t, u, sz, su, ht, hu, hsz, hsu, rfl, rfl, h2, hu2, ?_⟩)
          exact Or.inl ⟨Or.inr c48, rfl, rfl⟩
    · refine go_bipush (pc' := 16) cx (-2) dX5_copy_14 rfl rfl ?_
      refine go_iret cx rfl dX5_copy_16 ?_
      exact ZI.mk (Or.inl ⟨Or.inr c11, rfl, rfl⟩)

set_option maxHeartbeats 1000000 in
set_option maxRecDepth 20000 in
theorem c_X5_isUnder_0 (l : Launch) (E : Ev) {g : IG} {o : Option Nat} {z : Int64} (x2 : Int32) : Ct l E 115 yX5_isUnder cX5_isUnder 4 (some .boolean) 1 [.int 0, .int x2] g (RFo o) z (Zi (RFo o) z (undV 0 x2) g) := by
  refine Ct.of (lv0 := [(0, .int 0), (1, .int x2)]) (by decide) (Nat.le_of_ble_eq_true rfl) rfl ?_
  intro p e s m below meth c cx
  refine go_iload_n (pc' := 1) cx dX5_isUnder_0 rfl rfl ?_
  refine go_istore_n (pc' := 2) cx dX5_isUnder_1 (ltn rfl) [(2, .int 0), (0, .int 0), (1, .int x2)] rfl rfl ?_
  refine go_iconst (pc' := 3) cx 0 dX5_isUnder_2 rfl rfl ?_
  refine go_istore_n (pc' := 4) cx dX5_isUnder_3 (ltn rfl) [(3, .int 0), (2, .int 0), (0, .int 0), (1, .int x2)] rfl rfl ?_
  refine go_iload_n (pc' := 5) cx dX5_isUnder_4 rfl rfl ?_
  refine go_bipush (pc' := 7) cx 6 dX5_isUnder_5 rfl rfl ?_
  refine go_icmp_ge (pc' := 10) cx 39 dX5_isUnder_7 rfl rfl (fun hh => absurd hh (by decide)) (fun _ => ?_)
  refine go_iload_n (pc' := 11) cx dX5_isUnder_10 rfl rfl ?_
  refine go_if_lt (pc' := 14) cx 39 dX5_isUnder_11 rfl rfl (fun hh => absurd hh (by decide)) (fun _ => ?_)
  refine go_iload_n (pc' := 15) cx dX5_isUnder_14 rfl rfl ?_
  refine go_bipush (pc' := 17) cx 6 dX5_isUnder_15 rfl rfl ?_
  refine go_icmp_ge (pc' := 20) cx 39 dX5_isUnder_17 rfl rfl (fun hh => absurd hh (by decide)) (fun _ => ?_)
  refine go_iload_n (pc' := 21) cx dX5_isUnder_20 rfl rfl ?_
  refine go_iload_n (pc' := 22) cx dX5_isUnder_21 rfl rfl ?_
  refine go_icmp_ne (pc' := 25) cx 27 dX5_isUnder_22 rfl rfl (fun c22 => ?_) (fun c22 => ?_)
  · refine go_und (pc' := 30) cx dX5_isUnder_27 rfl ?_
    refine go_iload_n (pc' := 31) cx dX5_isUnder_30 rfl rfl ?_
    refine go_undl (pc' := 32) cx (-1) dX5_isUnder_31 (vpi (k := 0) (a := 1) (ltn rfl) rfl rfl) (by decide) rfl ?_
    refine go_istore_n (pc' := 33) cx dX5_isUnder_32 (ltn rfl) [(2, .int (-1)), (3, .int 0), (0, .int 0), (1, .int x2)] rfl rfl ?_
    refine go_iinc (pc' := 36) cx 1 dX5_isUnder_33 rfl rfl (ltn rfl) [(3, .int 1), (2, .int (-1)), (0, .int 0), (1, .int x2)] rfl rfl ?_
    refine go_goto cx 4 dX5_isUnder_36 rfl ?_
    refine go_iload_n (pc' := 5) cx dX5_isUnder_4 rfl rfl ?_
    refine go_bipush (pc' := 7) cx 6 dX5_isUnder_5 rfl rfl ?_
    refine go_icmp_ge (pc' := 10) cx 39 dX5_isUnder_7 rfl rfl (fun hh => absurd hh (by decide)) (fun _ => ?_)
    refine go_iload_n (pc' := 11) cx dX5_isUnder_10 rfl rfl ?_
    refine go_if_lt (pc' := 14) cx 39 dX5_isUnder_11 rfl rfl (fun _ => ?_) (fun hh => absurd (by decide) hh)
    refine go_iconst (pc' := 40) cx 0 dX5_isUnder_39 rfl rfl ?_
    refine go_zret cx (Or.inl rfl) rfl dX5_isUnder_40 ?_
    exact Zi.mk (by simp [undV, c22]) rfl
  · refine go_iconst (pc' := 26) cx 1 dX5_isUnder_25 rfl rfl ?_
    refine go_zret cx (Or.inr rfl) rfl dX5_isUnder_26 ?_
    exact Zi.mk (by subst c22; decide) rfl

set_option maxHeartbeats 1000000 in
set_option maxRecDepth 20000 in
theorem c_X5_isUnder_1 (l : Launch) (E : Ev) {g : IG} {o : Option Nat} {z : Int64} (x2 : Int32) : Ct l E 115 yX5_isUnder cX5_isUnder 4 (some .boolean) 1 [.int 1, .int x2] g (RFo o) z (Zi (RFo o) z (undV 1 x2) g) := by
  refine Ct.of (lv0 := [(0, .int 1), (1, .int x2)]) (by decide) (Nat.le_of_ble_eq_true rfl) rfl ?_
  intro p e s m below meth c cx
  refine go_iload_n (pc' := 1) cx dX5_isUnder_0 rfl rfl ?_
  refine go_istore_n (pc' := 2) cx dX5_isUnder_1 (ltn rfl) [(2, .int 1), (0, .int 1), (1, .int x2)] rfl rfl ?_
  refine go_iconst (pc' := 3) cx 0 dX5_isUnder_2 rfl rfl ?_
  refine go_istore_n (pc' := 4) cx dX5_isUnder_3 (ltn rfl) [(3, .int 0), (2, .int 1), (0, .int 1), (1, .int x2)] rfl rfl ?_
  refine go_iload_n (pc' := 5) cx dX5_isUnder_4 rfl rfl ?_
  refine go_bipush (pc' := 7) cx 6 dX5_isUnder_5 rfl rfl ?_
  refine go_icmp_ge (pc' := 10) cx 39 dX5_isUnder_7 rfl rfl (fun hh => absurd hh (by decide)) (fun _ => ?_)
  refine go_iload_n (pc' := 11) cx dX5_isUnder_10 rfl rfl ?_
  refine go_if_lt (pc' := 14) cx 39 dX5_isUnder_11 rfl rfl (fun hh => absurd hh (by decide)) (fun _ => ?_)
  refine go_iload_n (pc' := 15) cx dX5_isUnder_14 rfl rfl ?_
  refine go_bipush (pc' := 17) cx 6 dX5_isUnder_15 rfl rfl ?_
  refine go_icmp_ge (pc' := 20) cx 39 dX5_isUnder_17 rfl rfl (fun hh => absurd hh (by decide)) (fun _ => ?_)
  refine go_iload_n (pc' := 21) cx dX5_isUnder_20 rfl rfl ?_
  refine go_iload_n (pc' := 22) cx dX5_isUnder_21 rfl rfl ?_
  refine go_icmp_ne (pc' := 25) cx 27 dX5_isUnder_22 rfl rfl (fun c22 => ?_) (fun c22 => ?_)
  · refine go_und (pc' := 30) cx dX5_isUnder_27 rfl ?_
    refine go_iload_n (pc' := 31) cx dX5_isUnder_30 rfl rfl ?_
    refine go_undl (pc' := 32) cx 0 dX5_isUnder_31 (vpi (k := 1) (a := 2) (ltn rfl) rfl rfl) (by decide) rfl ?_
    refine go_istore_n (pc' := 33) cx dX5_isUnder_32 (ltn rfl) [(2, .int 0), (3, .int 0), (0, .int 1), (1, .int x2)] rfl rfl ?_
    refine go_iinc (pc' := 36) cx 1 dX5_isUnder_33 rfl rfl (ltn rfl) [(3, .int 1), (2, .int 0), (0, .int 1), (1, .int x2)] rfl rfl ?_
    refine go_goto cx 4 dX5_isUnder_36 rfl ?_
    refine go_iload_n (pc' := 5) cx dX5_isUnder_4 rfl rfl ?_
    refine go_bipush (pc' := 7) cx 6 dX5_isUnder_5 rfl rfl ?_
    refine go_icmp_ge (pc' := 10) cx 39 dX5_isUnder_7 rfl rfl (fun hh => absurd hh (by decide)) (fun _ => ?_)
    refine go_iload_n (pc' := 11) cx dX5_isUnder_10 rfl rfl ?_
    refine go_if_lt (pc' := 14) cx 39 dX5_isUnder_11 rfl rfl (fun hh => absurd hh (by decide)) (fun _ => ?_)
    refine go_iload_n (pc' := 15) cx dX5_isUnder_14 rfl rfl ?_
    refine go_bipush (pc' := 17) cx 6 dX5_isUnder_15 rfl rfl ?_
    refine go_icmp_ge (pc' := 20) cx 39 dX5_isUnder_17 rfl rfl (fun hh => absurd hh (by decide)) (fun _ => ?_)
    refine go_iload_n (pc' := 21) cx dX5_isUnder_20 rfl rfl ?_
    refine go_iload_n (pc' := 22) cx dX5_isUnder_21 rfl rfl ?_
    refine go_icmp_ne (pc' := 25) cx 27 dX5_isUnder_22 rfl rfl (fun c22_2 => ?_) (fun c22_2 => ?_)
    · refine go_und (pc' := 30) cx dX5_isUnder_27 rfl ?_
      refine go_iload_n (pc' := 31) cx dX5_isUnder_30 rfl rfl ?_
      refine go_undl (pc' := 32) cx (-1) dX5_isUnder_31 (vpi (k := 0) (a := 1) (ltn rfl) rfl rfl) (by decide) rfl ?_
      refine go_istore_n (pc' := 33) cx dX5_isUnder_32 (ltn rfl) [(2, .int (-1)), (3, .int 1), (0, .int 1), (1, .int x2)] rfl rfl ?_
      refine go_iinc (pc' := 36) cx 2 dX5_isUnder_33 rfl rfl (ltn rfl) [(3, .int 2), (2, .int (-1)), (0, .int 1), (1, .int x2)] rfl rfl ?_
      refine go_goto cx 4 dX5_isUnder_36 rfl ?_
      refine go_iload_n (pc' := 5) cx dX5_isUnder_4 rfl rfl ?_
      refine go_bipush (pc' := 7) cx 6 dX5_isUnder_5 rfl rfl ?_
      refine go_icmp_ge (pc' := 10) cx 39 dX5_isUnder_7 rfl rfl (fun hh => absurd hh (by decide)) (fun _ => ?_)
      refine go_iload_n (pc' := 11) cx dX5_isUnder_10 rfl rfl ?_
      refine go_if_lt (pc' := 14) cx 39 dX5_isUnder_11 rfl rfl (fun _ => ?_) (fun hh => absurd (by decide) hh)
      refine go_iconst (pc' := 40) cx 0 dX5_isUnder_39 rfl rfl ?_
      refine go_zret cx (Or.inl rfl) rfl dX5_isUnder_40 ?_
      exact Zi.mk (by simp [undV, c22, c22_2]) rfl
    · refine go_iconst (pc' := 26) cx 1 dX5_isUnder_25 rfl rfl ?_
      refine go_zret cx (Or.inr rfl) rfl dX5_isUnder_26 ?_
      exact Zi.mk (by subst c22_2; decide) rfl
  · refine go_iconst (pc' := 26) cx 1 dX5_isUnder_25 rfl rfl ?_
    refine go_zret cx (Or.inr rfl) rfl dX5_isUnder_26 ?_
    exact Zi.mk (by subst c22; decide) rfl

set_option maxHeartbeats 1000000 in
set_option maxRecDepth 20000 in
theorem c_X5_isUnder_2 (l : Launch) (E : Ev) {g : IG} {o : Option Nat} {z : Int64} (x2 : Int32) : Ct l E 115 yX5_isUnder cX5_isUnder 4 (some .boolean) 1 [.int 2, .int x2] g (RFo o) z (Zi (RFo o) z (undV 2 x2) g) := by
  refine Ct.of (lv0 := [(0, .int 2), (1, .int x2)]) (by decide) (Nat.le_of_ble_eq_true rfl) rfl ?_
  intro p e s m below meth c cx
  refine go_iload_n (pc' := 1) cx dX5_isUnder_0 rfl rfl ?_
  refine go_istore_n (pc' := 2) cx dX5_isUnder_1 (ltn rfl) [(2, .int 2), (0, .int 2), (1, .int x2)] rfl rfl ?_
  refine go_iconst (pc' := 3) cx 0 dX5_isUnder_2 rfl rfl ?_
  refine go_istore_n (pc' := 4) cx dX5_isUnder_3 (ltn rfl) [(3, .int 0), (2, .int 2), (0, .int 2), (1, .int x2)] rfl rfl ?_
  refine go_iload_n (pc' := 5) cx dX5_isUnder_4 rfl rfl ?_
  refine go_bipush (pc' := 7) cx 6 dX5_isUnder_5 rfl rfl ?_
  refine go_icmp_ge (pc' := 10) cx 39 dX5_isUnder_7 rfl rfl (fun hh => absurd hh (by decide)) (fun _ => ?_)
  refine go_iload_n (pc' := 11) cx dX5_isUnder_10 rfl rfl ?_
  refine go_if_lt (pc' := 14) cx 39 dX5_isUnder_11 rfl rfl (fun hh => absurd hh (by decide)) (fun _ => ?_)
  refine go_iload_n (pc' := 15) cx dX5_isUnder_14 rfl rfl ?_
  refine go_bipush (pc' := 17) cx 6 dX5_isUnder_15 rfl rfl ?_
  refine go_icmp_ge (pc' := 20) cx 39 dX5_isUnder_17 rfl rfl (fun hh => absurd hh (by decide)) (fun _ => ?_)
  refine go_iload_n (pc' := 21) cx dX5_isUnder_20 rfl rfl ?_
  refine go_iload_n (pc' := 22) cx dX5_isUnder_21 rfl rfl ?_
  refine go_icmp_ne (pc' := 25) cx 27 dX5_isUnder_22 rfl rfl (fun c22 => ?_) (fun c22 => ?_)
  · refine go_und (pc' := 30) cx dX5_isUnder_27 rfl ?_
    refine go_iload_n (pc' := 31) cx dX5_isUnder_30 rfl rfl ?_
    refine go_undl (pc' := 32) cx 0 dX5_isUnder_31 (vpi (k := 2) (a := 3) (ltn rfl) rfl rfl) (by decide) rfl ?_
    refine go_istore_n (pc' := 33) cx dX5_isUnder_32 (ltn rfl) [(2, .int 0), (3, .int 0), (0, .int 2), (1, .int x2)] rfl rfl ?_
    refine go_iinc (pc' := 36) cx 1 dX5_isUnder_33 rfl rfl (ltn rfl) [(3, .int 1), (2, .int 0), (0, .int 2), (1, .int x2)] rfl rfl ?_
    refine go_goto cx 4 dX5_isUnder_36 rfl ?_
    refine go_iload_n (pc' := 5) cx dX5_isUnder_4 rfl rfl ?_
    refine go_bipush (pc' := 7) cx 6 dX5_isUnder_5 rfl rfl ?_
    refine go_icmp_ge (pc' := 10) cx 39 dX5_isUnder_7 rfl rfl (fun hh => absurd hh (by decide)) (fun _ => ?_)
    refine go_iload_n (pc' := 11) cx dX5_isUnder_10 rfl rfl ?_
    refine go_if_lt (pc' := 14) cx 39 dX5_isUnder_11 rfl rfl (fun hh => absurd hh (by decide)) (fun _ => ?_)
    refine go_iload_n (pc' := 15) cx dX5_isUnder_14 rfl rfl ?_
    refine go_bipush (pc' := 17) cx 6 dX5_isUnder_15 rfl rfl ?_
    refine go_icmp_ge (pc' := 20) cx 39 dX5_isUnder_17 rfl rfl (fun hh => absurd hh (by decide)) (fun _ => ?_)
    refine go_iload_n (pc' := 21) cx dX5_isUnder_20 rfl rfl ?_
    refine go_iload_n (pc' := 22) cx dX5_isUnder_21 rfl rfl ?_
    refine go_icmp_ne (pc' := 25) cx 27 dX5_isUnder_22 rfl rfl (fun c22_2 => ?_) (fun c22_2 => ?_)
    · refine go_und (pc' := 30) cx dX5_isUnder_27 rfl ?_
      refine go_iload_n (pc' := 31) cx dX5_isUnder_30 rfl rfl ?_
      refine go_undl (pc' := 32) cx (-1) dX5_isUnder_31 (vpi (k := 0) (a := 1) (ltn rfl) rfl rfl) (by decide) rfl ?_
      refine go_istore_n (pc' := 33) cx dX5_isUnder_32 (ltn rfl) [(2, .int (-1)), (3, .int 1), (0, .int 2), (1, .int x2)] rfl rfl ?_
      refine go_iinc (pc' := 36) cx 2 dX5_isUnder_33 rfl rfl (ltn rfl) [(3, .int 2), (2, .int (-1)), (0, .int 2), (1, .int x2)] rfl rfl ?_
      refine go_goto cx 4 dX5_isUnder_36 rfl ?_
      refine go_iload_n (pc' := 5) cx dX5_isUnder_4 rfl rfl ?_
      refine go_bipush (pc' := 7) cx 6 dX5_isUnder_5 rfl rfl ?_
      refine go_icmp_ge (pc' := 10) cx 39 dX5_isUnder_7 rfl rfl (fun hh => absurd hh (by decide)) (fun _ => ?_)
      refine go_iload_n (pc' := 11) cx dX5_isUnder_10 rfl rfl ?_
      refine go_if_lt (pc' := 14) cx 39 dX5_isUnder_11 rfl rfl (fun _ => ?_) (fun hh => absurd (by decide) hh)
      refine go_iconst (pc' := 40) cx 0 dX5_isUnder_39 rfl rfl ?_
      refine go_zret cx (Or.inl rfl) rfl dX5_isUnder_40 ?_
      exact Zi.mk (by simp [undV, c22, c22_2]) rfl
    · refine go_iconst (pc' := 26) cx 1 dX5_isUnder_25 rfl rfl ?_
      refine go_zret cx (Or.inr rfl) rfl dX5_isUnder_26 ?_
      exact Zi.mk (by subst c22_2; decide) rfl
  · refine go_iconst (pc' := 26) cx 1 dX5_isUnder_25 rfl rfl ?_
    refine go_zret cx (Or.inr rfl) rfl dX5_isUnder_26 ?_
    exact Zi.mk (by subst c22; decide) rfl

set_option maxHeartbeats 1000000 in
set_option maxRecDepth 20000 in
theorem c_X5_isUnder_3 (l : Launch) (E : Ev) {g : IG} {o : Option Nat} {z : Int64} (x2 : Int32) : Ct l E 115 yX5_isUnder cX5_isUnder 4 (some .boolean) 1 [.int 3, .int x2] g (RFo o) z (Zi (RFo o) z (undV 3 x2) g) := by
  refine Ct.of (lv0 := [(0, .int 3), (1, .int x2)]) (by decide) (Nat.le_of_ble_eq_true rfl) rfl ?_
  intro p e s m below meth c cx
  refine go_iload_n (pc' := 1) cx dX5_isUnder_0 rfl rfl ?_
  refine go_istore_n (pc' := 2) cx dX5_isUnder_1 (ltn rfl) [(2, .int 3), (0, .int 3), (1, .int x2)] rfl rfl ?_
  refine go_iconst (pc' := 3) cx 0 dX5_isUnder_2 rfl rfl ?_
  refine go_istore_n (pc' := 4) cx dX5_isUnder_3 (ltn rfl) [(3, .int 0), (2, .int 3), (0, .int 3), (1, .int x2)] rfl rfl ?_
  refine go_iload_n (pc' := 5) cx dX5_isUnder_4 rfl rfl ?_
  refine go_bipush (pc' := 7) cx 6 dX5_isUnder_5 rfl rfl ?_
  refine go_icmp_ge (pc' := 10) cx 39 dX5_isUnder_7 rfl rfl (fun hh => absurd hh (by decide)) (fun _ => ?_)
  refine go_iload_n (pc' := 11) cx dX5_isUnder_10 rfl rfl ?_
  refine go_if_lt (pc' := 14) cx 39 dX5_isUnder_11 rfl rfl (fun hh => absurd hh (by decide)) (fun _ => ?_)
  refine go_iload_n (pc' := 15) cx dX5_isUnder_14 rfl rfl ?_
  refine go_bipush (pc' := 17) cx 6 dX5_isUnder_15 rfl rfl ?_
  refine go_icmp_ge (pc' := 20) cx 39 dX5_isUnder_17 rfl rfl (fun hh => absurd hh (by decide)) (fun _ => ?_)
  refine go_iload_n (pc' := 21) cx dX5_isUnder_20 rfl rfl ?_
  refine go_iload_n (pc' := 22) cx dX5_isUnder_21 rfl rfl ?_
  refine go_icmp_ne (pc' := 25) cx 27 dX5_isUnder_22 rfl rfl (fun c22 => ?_) (fun c22 => ?_)
  · refine go_und (pc' := 30) cx dX5_isUnder_27 rfl ?_
    refine go_iload_n (pc' := 31) cx dX5_isUnder_30 rfl rfl ?_
    refine go_undl (pc' := 32) cx 1 dX5_isUnder_31 (vpi (k := 3) (a := 4) (ltn rfl) rfl rfl) (by decide) rfl ?_
    refine go_istore_n (pc' := 33) cx dX5_isUnder_32 (ltn rfl) [(2, .int 1), (3, .int 0), (0, .int 3), (1, .int x2)] rfl rfl ?_
    refine go_iinc (pc' := 36) cx 1 dX5_isUnder_33 rfl rfl (ltn rfl) [(3, .int 1), (2, .int 1), (0, .int 3), (1, .int x2)] rfl rfl ?_
    refine go_goto cx 4 dX5_isUnder_36 rfl ?_
    refine go_iload_n (pc' := 5) cx dX5_isUnder_4 rfl rfl ?_
    refine go_bipush (pc' := 7) cx 6 dX5_isUnder_5 rfl rfl ?_
    refine go_icmp_ge (pc' := 10) cx 39 dX5_isUnder_7 rfl rfl (fun hh => absurd hh (by decide)) (fun _ => ?_)
    refine go_iload_n (pc' := 11) cx dX5_isUnder_10 rfl rfl ?_
    refine go_if_lt (pc' := 14) cx 39 dX5_isUnder_11 rfl rfl (fun hh => absurd hh (by decide)) (fun _ => ?_)
    refine go_iload_n (pc' := 15) cx dX5_isUnder_14 rfl rfl ?_
    refine go_bipush (pc' := 17) cx 6 dX5_isUnder_15 rfl rfl ?_
    refine go_icmp_ge (pc' := 20) cx 39 dX5_isUnder_17 rfl rfl (fun hh => absurd hh (by decide)) (fun _ => ?_)
    refine go_iload_n (pc' := 21) cx dX5_isUnder_20 rfl rfl ?_
    refine go_iload_n (pc' := 22) cx dX5_isUnder_21 rfl rfl ?_
    refine go_icmp_ne (pc' := 25) cx 27 dX5_isUnder_22 rfl rfl (fun c22_2 => ?_) (fun c22_2 => ?_)
    · refine go_und (pc' := 30) cx dX5_isUnder_27 rfl ?_
      refine go_iload_n (pc' := 31) cx dX5_isUnder_30 rfl rfl ?_
      refine go_undl (pc' := 32) cx 0 dX5_isUnder_31 (vpi (k := 1) (a := 2) (ltn rfl) rfl rfl) (by decide) rfl ?_
      refine go_istore_n (pc' := 33) cx dX5_isUnder_32 (ltn rfl) [(2, .int 0), (3, .int 1), (0, .int 3), (1, .int x2)] rfl rfl ?_
      refine go_iinc (pc' := 36) cx 2 dX5_isUnder_33 rfl rfl (ltn rfl) [(3, .int 2), (2, .int 0), (0, .int 3), (1, .int x2)] rfl rfl ?_
      refine go_goto cx 4 dX5_isUnder_36 rfl ?_
      refine go_iload_n (pc' := 5) cx dX5_isUnder_4 rfl rfl ?_
      refine go_bipush (pc' := 7) cx 6 dX5_isUnder_5 rfl rfl ?_
      refine go_icmp_ge (pc' := 10) cx 39 dX5_isUnder_7 rfl rfl (fun hh => absurd hh (by decide)) (fun _ => ?_)
      refine go_iload_n (pc' := 11) cx dX5_isUnder_10 rfl rfl ?_
      refine go_if_lt (pc' := 14) cx 39 dX5_isUnder_11 rfl rfl (fun hh => absurd hh (by decide)) (fun _ => ?_)
      refine go_iload_n (pc' := 15) cx dX5_isUnder_14 rfl rfl ?_
      refine go_bipush (pc' := 17) cx 6 dX5_isUnder_15 rfl rfl ?_
      refine go_icmp_ge (pc' := 20) cx 39 dX5_isUnder_17 rfl rfl (fun hh => absurd hh (by decide)) (fun _ => ?_)
      refine go_iload_n (pc' := 21) cx dX5_isUnder_20 rfl rfl ?_
      refine go_iload_n (pc' := 22) cx dX5_isUnder_21 rfl rfl ?_
      refine go_icmp_ne (pc' := 25) cx 27 dX5_isUnder_22 rfl rfl (fun c22_3 => ?_) (fun c22_3 => ?_)
      · refine go_und (pc' := 30) cx dX5_isUnder_27 rfl ?_
        refine go_iload_n (pc' := 31) cx dX5_isUnder_30 rfl rfl ?_
        refine go_undl (pc' := 32) cx (-1) dX5_isUnder_31 (vpi (k := 0) (a := 1) (ltn rfl) rfl rfl) (by decide) rfl ?_
        refine go_istore_n (pc' := 33) cx dX5_isUnder_32 (ltn rfl) [(2, .int (-1)), (3, .int 2), (0, .int 3), (1, .int x2)] rfl rfl ?_
        refine go_iinc (pc' := 36) cx 3 dX5_isUnder_33 rfl rfl (ltn rfl) [(3, .int 3), (2, .int (-1)), (0, .int 3), (1, .int x2)] rfl rfl ?_
        refine go_goto cx 4 dX5_isUnder_36 rfl ?_
        refine go_iload_n (pc' := 5) cx dX5_isUnder_4 rfl rfl ?_
        refine go_bipush (pc' := 7) cx 6 dX5_isUnder_5 rfl rfl ?_
        refine go_icmp_ge (pc' := 10) cx 39 dX5_isUnder_7 rfl rfl (fun hh => absurd hh (by decide)) (fun _ => ?_)
        refine go_iload_n (pc' := 11) cx dX5_isUnder_10 rfl rfl ?_
        refine go_if_lt (pc' := 14) cx 39 dX5_isUnder_11 rfl rfl (fun _ => ?_) (fun hh => absurd (by decide) hh)
        refine go_iconst (pc' := 40) cx 0 dX5_isUnder_39 rfl rfl ?_
        refine go_zret cx (Or.inl rfl) rfl dX5_isUnder_40 ?_
        exact Zi.mk (by simp [undV, c22, c22_2, c22_3]) rfl
      · refine go_iconst (pc' := 26) cx 1 dX5_isUnder_25 rfl rfl ?_
        refine go_zret cx (Or.inr rfl) rfl dX5_isUnder_26 ?_
        exact Zi.mk (by subst c22_3; decide) rfl
    · refine go_iconst (pc' := 26) cx 1 dX5_isUnder_25 rfl rfl ?_
      refine go_zret cx (Or.inr rfl) rfl dX5_isUnder_26 ?_
      exact Zi.mk (by subst c22_2; decide) rfl
  · refine go_iconst (pc' := 26) cx 1 dX5_isUnder_25 rfl rfl ?_
    refine go_zret cx (Or.inr rfl) rfl dX5_isUnder_26 ?_
    exact Zi.mk (by subst c22; decide) rfl

set_option maxHeartbeats 1000000 in
set_option maxRecDepth 20000 in
theorem c_X5_isUnder_4 (l : Launch) (E : Ev) {g : IG} {o : Option Nat} {z : Int64} (x2 : Int32) : Ct l E 115 yX5_isUnder cX5_isUnder 4 (some .boolean) 1 [.int 4, .int x2] g (RFo o) z (Zi (RFo o) z (undV 4 x2) g) := by
  refine Ct.of (lv0 := [(0, .int 4), (1, .int x2)]) (by decide) (Nat.le_of_ble_eq_true rfl) rfl ?_
  intro p e s m below meth c cx
  refine go_iload_n (pc' := 1) cx dX5_isUnder_0 rfl rfl ?_
  refine go_istore_n (pc' := 2) cx dX5_isUnder_1 (ltn rfl) [(2, .int 4), (0, .int 4), (1, .int x2)] rfl rfl ?_
  refine go_iconst (pc' := 3) cx 0 dX5_isUnder_2 rfl rfl ?_
  refine go_istore_n (pc' := 4) cx dX5_isUnder_3 (ltn rfl) [(3, .int 0), (2, .int 4), (0, .int 4), (1, .int x2)] rfl rfl ?_
  refine go_iload_n (pc' := 5) cx dX5_isUnder_4 rfl rfl ?_
  refine go_bipush (pc' := 7) cx 6 dX5_isUnder_5 rfl rfl ?_
  refine go_icmp_ge (pc' := 10) cx 39 dX5_isUnder_7 rfl rfl (fun hh => absurd hh (by decide)) (fun _ => ?_)
  refine go_iload_n (pc' := 11) cx dX5_isUnder_10 rfl rfl ?_
  refine go_if_lt (pc' := 14) cx 39 dX5_isUnder_11 rfl rfl (fun hh => absurd hh (by decide)) (fun _ => ?_)
  refine go_iload_n (pc' := 15) cx dX5_isUnder_14 rfl rfl ?_
  refine go_bipush (pc' := 17) cx 6 dX5_isUnder_15 rfl rfl ?_
  refine go_icmp_ge (pc' := 20) cx 39 dX5_isUnder_17 rfl rfl (fun hh => absurd hh (by decide)) (fun _ => ?_)
  refine go_iload_n (pc' := 21) cx dX5_isUnder_20 rfl rfl ?_
  refine go_iload_n (pc' := 22) cx dX5_isUnder_21 rfl rfl ?_
  refine go_icmp_ne (pc' := 25) cx 27 dX5_isUnder_22 rfl rfl (fun c22 => ?_) (fun c22 => ?_)
  · refine go_und (pc' := 30) cx dX5_isUnder_27 rfl ?_
    refine go_iload_n (pc' := 31) cx dX5_isUnder_30 rfl rfl ?_
    refine go_undl (pc' := 32) cx 2 dX5_isUnder_31 (vpi (k := 4) (a := 5) (ltn rfl) rfl rfl) (by decide) rfl ?_
    refine go_istore_n (pc' := 33) cx dX5_isUnder_32 (ltn rfl) [(2, .int 2), (3, .int 0), (0, .int 4), (1, .int x2)] rfl rfl ?_
    refine go_iinc (pc' := 36) cx 1 dX5_isUnder_33 rfl rfl (ltn rfl) [(3, .int 1), (2, .int 2), (0, .int 4), (1, .int x2)] rfl rfl ?_
    refine go_goto cx 4 dX5_isUnder_36 rfl ?_
    refine go_iload_n (pc' := 5) cx dX5_isUnder_4 rfl rfl ?_
    refine go_bipush (pc' := 7) cx 6 dX5_isUnder_5 rfl rfl ?_
    refine go_icmp_ge (pc' := 10) cx 39 dX5_isUnder_7 rfl rfl (fun hh => absurd hh (by decide)) (fun _ => ?_)
    refine go_iload_n (pc' := 11) cx dX5_isUnder_10 rfl rfl ?_
    refine go_if_lt (pc' := 14) cx 39 dX5_isUnder_11 rfl rfl (fun hh => absurd hh (by decide)) (fun _ => ?_)
    refine go_iload_n (pc' := 15) cx dX5_isUnder_14 rfl rfl ?_
    refine go_bipush (pc' := 17) cx 6 dX5_isUnder_15 rfl rfl ?_
    refine go_icmp_ge (pc' := 20) cx 39 dX5_isUnder_17 rfl rfl (fun hh => absurd hh (by decide)) (fun _ => ?_)
    refine go_iload_n (pc' := 21) cx dX5_isUnder_20 rfl rfl ?_
    refine go_iload_n (pc' := 22) cx dX5_isUnder_21 rfl rfl ?_
    refine go_icmp_ne (pc' := 25) cx 27 dX5_isUnder_22 rfl rfl (fun c22_2 => ?_) (fun c22_2 => ?_)
    · refine go_und (pc' := 30) cx dX5_isUnder_27 rfl ?_
      refine go_iload_n (pc' := 31) cx dX5_isUnder_30 rfl rfl ?_
      refine go_undl (pc' := 32) cx 0 dX5_isUnder_31 (vpi (k := 2) (a := 3) (ltn rfl) rfl rfl) (by decide) rfl ?_
      refine go_istore_n (pc' := 33) cx dX5_isUnder_32 (ltn rfl) [(2, .int 0), (3, .int 1), (0, .int 4), (1, .int x2)] rfl rfl ?_
      refine go_iinc (pc' := 36) cx 2 dX5_isUnder_33 rfl rfl (ltn rfl) [(3, .int 2), (2, .int 0), (0, .int 4), (1, .int x2)] rfl rfl ?_
      refine go_goto cx 4 dX5_isUnder_36 rfl ?_
      refine go_iload_n (pc' := 5) cx dX5_isUnder_4 rfl rfl ?_
      refine go_bipush (pc' := 7) cx 6 dX5_isUnder_5 rfl rfl ?_
      refine go_icmp_ge (pc' := 10) cx 39 dX5_isUnder_7 rfl rfl (fun hh => absurd hh (by decide)) (fun _ => ?_)
      refine go_iload_n (pc' := 11) cx dX5_isUnder_10 rfl rfl ?_
      refine go_if_lt (pc' := 14) cx 39 dX5_isUnder_11 rfl rfl (fun hh => absurd hh (by decide)) (fun _ => ?_)
      refine go_iload_n (pc' := 15) cx dX5_isUnder_14 rfl rfl ?_
      refine go_bipush (pc' := 17) cx 6 dX5_isUnder_15 rfl rfl ?_
      refine go_icmp_ge (pc' := 20) cx 39 dX5_isUnder_17 rfl rfl (fun hh => absurd hh (by decide)) (fun _ => ?_)
      refine go_iload_n (pc' := 21) cx dX5_isUnder_20 rfl rfl ?_
      refine go_iload_n (pc' := 22) cx dX5_isUnder_21 rfl rfl ?_
      refine go_icmp_ne (pc' := 25) cx 27 dX5_isUnder_22 rfl rfl (fun c22_3 => ?_) (fun c22_3 => ?_)
      · refine go_und (pc' := 30) cx dX5_isUnder_27 rfl ?_
        refine go_iload_n (pc' := 31) cx dX5_isUnder_30 rfl rfl ?_
        refine go_undl (pc' := 32) cx (-1) dX5_isUnder_31 (vpi (k := 0) (a := 1) (ltn rfl) rfl rfl) (by decide) rfl ?_
        refine go_istore_n (pc' := 33) cx dX5_isUnder_32 (ltn rfl) [(2, .int (-1)), (3, .int 2), (0, .int 4), (1, .int x2)] rfl rfl ?_
        refine go_iinc (pc' := 36) cx 3 dX5_isUnder_33 rfl rfl (ltn rfl) [(3, .int 3), (2, .int (-1)), (0, .int 4), (1, .int x2)] rfl rfl ?_
        refine go_goto cx 4 dX5_isUnder_36 rfl ?_
        refine go_iload_n (pc' := 5) cx dX5_isUnder_4 rfl rfl ?_
        refine go_bipush (pc' := 7) cx 6 dX5_isUnder_5 rfl rfl ?_
        refine go_icmp_ge (pc' := 10) cx 39 dX5_isUnder_7 rfl rfl (fun hh => absurd hh (by decide)) (fun _ => ?_)
        refine go_iload_n (pc' := 11) cx dX5_isUnder_10 rfl rfl ?_
        refine go_if_lt (pc' := 14) cx 39 dX5_isUnder_11 rfl rfl (fun _ => ?_) (fun hh => absurd (by decide) hh)
        refine go_iconst (pc' := 40) cx 0 dX5_isUnder_39 rfl rfl ?_
        refine go_zret cx (Or.inl rfl) rfl dX5_isUnder_40 ?_
        exact Zi.mk (by simp [undV, c22, c22_2, c22_3]) rfl
      · refine go_iconst (pc' := 26) cx 1 dX5_isUnder_25 rfl rfl ?_
        refine go_zret cx (Or.inr rfl) rfl dX5_isUnder_26 ?_
        exact Zi.mk (by subst c22_3; decide) rfl
    · refine go_iconst (pc' := 26) cx 1 dX5_isUnder_25 rfl rfl ?_
      refine go_zret cx (Or.inr rfl) rfl dX5_isUnder_26 ?_
      exact Zi.mk (by subst c22_2; decide) rfl
  · refine go_iconst (pc' := 26) cx 1 dX5_isUnder_25 rfl rfl ?_
    refine go_zret cx (Or.inr rfl) rfl dX5_isUnder_26 ?_
    exact Zi.mk (by subst c22; decide) rfl

set_option maxHeartbeats 1000000 in
set_option maxRecDepth 20000 in
theorem c_X5_isUnder_5 (l : Launch) (E : Ev) {g : IG} {o : Option Nat} {z : Int64} (x2 : Int32) : Ct l E 115 yX5_isUnder cX5_isUnder 4 (some .boolean) 1 [.int 5, .int x2] g (RFo o) z (Zi (RFo o) z (undV 5 x2) g) := by
  refine Ct.of (lv0 := [(0, .int 5), (1, .int x2)]) (by decide) (Nat.le_of_ble_eq_true rfl) rfl ?_
  intro p e s m below meth c cx
  refine go_iload_n (pc' := 1) cx dX5_isUnder_0 rfl rfl ?_
  refine go_istore_n (pc' := 2) cx dX5_isUnder_1 (ltn rfl) [(2, .int 5), (0, .int 5), (1, .int x2)] rfl rfl ?_
  refine go_iconst (pc' := 3) cx 0 dX5_isUnder_2 rfl rfl ?_
  refine go_istore_n (pc' := 4) cx dX5_isUnder_3 (ltn rfl) [(3, .int 0), (2, .int 5), (0, .int 5), (1, .int x2)] rfl rfl ?_
  refine go_iload_n (pc' := 5) cx dX5_isUnder_4 rfl rfl ?_
  refine go_bipush (pc' := 7) cx 6 dX5_isUnder_5 rfl rfl ?_
  refine go_icmp_ge (pc' := 10) cx 39 dX5_isUnder_7 rfl rfl (fun hh => absurd hh (by decide)) (fun _ => ?_)
  refine go_iload_n (pc' := 11) cx dX5_isUnder_10 rfl rfl ?_
  refine go_if_lt (pc' := 14) cx 39 dX5_isUnder_11 rfl rfl (fun hh => absurd hh (by decide)) (fun _ => ?_)
  refine go_iload_n (pc' := 15) cx dX5_isUnder_14 rfl rfl ?_
  refine go_bipush (pc' := 17) cx 6 dX5_isUnder_15 rfl rfl ?_
  refine go_icmp_ge (pc' := 20) cx 39 dX5_isUnder_17 rfl rfl (fun hh => absurd hh (by decide)) (fun _ => ?_)
  refine go_iload_n (pc' := 21) cx dX5_isUnder_20 rfl rfl ?_
  refine go_iload_n (pc' := 22) cx dX5_isUnder_21 rfl rfl ?_
  refine go_icmp_ne (pc' := 25) cx 27 dX5_isUnder_22 rfl rfl (fun c22 => ?_) (fun c22 => ?_)
  · refine go_und (pc' := 30) cx dX5_isUnder_27 rfl ?_
    refine go_iload_n (pc' := 31) cx dX5_isUnder_30 rfl rfl ?_
    refine go_undl (pc' := 32) cx 0 dX5_isUnder_31 (vpi (k := 5) (a := 6) (ltn rfl) rfl rfl) (by decide) rfl ?_
    refine go_istore_n (pc' := 33) cx dX5_isUnder_32 (ltn rfl) [(2, .int 0), (3, .int 0), (0, .int 5), (1, .int x2)] rfl rfl ?_
    refine go_iinc (pc' := 36) cx 1 dX5_isUnder_33 rfl rfl (ltn rfl) [(3, .int 1), (2, .int 0), (0, .int 5), (1, .int x2)] rfl rfl ?_
    refine go_goto cx 4 dX5_isUnder_36 rfl ?_
    refine go_iload_n (pc' := 5) cx dX5_isUnder_4 rfl rfl ?_
    refine go_bipush (pc' := 7) cx 6 dX5_isUnder_5 rfl rfl ?_
    refine go_icmp_ge (pc' := 10) cx 39 dX5_isUnder_7 rfl rfl (fun hh => absurd hh (by decide)) (fun _ => ?_)
    refine go_iload_n (pc' := 11) cx dX5_isUnder_10 rfl rfl ?_
    refine go_if_lt (pc' := 14) cx 39 dX5_isUnder_11 rfl rfl (fun hh => absurd hh (by decide)) (fun _ => ?_)
    refine go_iload_n (pc' := 15) cx dX5_isUnder_14 rfl rfl ?_
    refine go_bipush (pc' := 17) cx 6 dX5_isUnder_15 rfl rfl ?_
    refine go_icmp_ge (pc' := 20) cx 39 dX5_isUnder_17 rfl rfl (fun hh => absurd hh (by decide)) (fun _ => ?_)
    refine go_iload_n (pc' := 21) cx dX5_isUnder_20 rfl rfl ?_
    refine go_iload_n (pc' := 22) cx dX5_isUnder_21 rfl rfl ?_
    refine go_icmp_ne (pc' := 25) cx 27 dX5_isUnder_22 rfl rfl (fun c22_2 => ?_) (fun c22_2 => ?_)
    · refine go_und (pc' := 30) cx dX5_isUnder_27 rfl ?_
      refine go_iload_n (pc' := 31) cx dX5_isUnder_30 rfl rfl ?_
      refine go_undl (pc' := 32) cx (-1) dX5_isUnder_31 (vpi (k := 0) (a := 1) (ltn rfl) rfl rfl) (by decide) rfl ?_
      refine go_istore_n (pc' := 33) cx dX5_isUnder_32 (ltn rfl) [(2, .int (-1)), (3, .int 1), (0, .int 5), (1, .int x2)] rfl rfl ?_
      refine go_iinc (pc' := 36) cx 2 dX5_isUnder_33 rfl rfl (ltn rfl) [(3, .int 2), (2, .int (-1)), (0, .int 5), (1, .int x2)] rfl rfl ?_
      refine go_goto cx 4 dX5_isUnder_36 rfl ?_
      refine go_iload_n (pc' := 5) cx dX5_isUnder_4 rfl rfl ?_
      refine go_bipush (pc' := 7) cx 6 dX5_isUnder_5 rfl rfl ?_
      refine go_icmp_ge (pc' := 10) cx 39 dX5_isUnder_7 rfl rfl (fun hh => absurd hh (by decide)) (fun _ => ?_)
      refine go_iload_n (pc' := 11) cx dX5_isUnder_10 rfl rfl ?_
      refine go_if_lt (pc' := 14) cx 39 dX5_isUnder_11 rfl rfl (fun _ => ?_) (fun hh => absurd (by decide) hh)
      refine go_iconst (pc' := 40) cx 0 dX5_isUnder_39 rfl rfl ?_
      refine go_zret cx (Or.inl rfl) rfl dX5_isUnder_40 ?_
      exact Zi.mk (by simp [undV, c22, c22_2]) rfl
    · refine go_iconst (pc' := 26) cx 1 dX5_isUnder_25 rfl rfl ?_
      refine go_zret cx (Or.inr rfl) rfl dX5_isUnder_26 ?_
      exact Zi.mk (by subst c22_2; decide) rfl
  · refine go_iconst (pc' := 26) cx 1 dX5_isUnder_25 rfl rfl ?_
    refine go_zret cx (Or.inr rfl) rfl dX5_isUnder_26 ?_
    exact Zi.mk (by subst c22; decide) rfl

theorem c_isUnderT (l : Launch) (E : Ev) {g : IG} {o : Option Nat} {z : Int64} {k : Nat} (hk : k < 6) (x2 : Int32) : Ct l E 115 yX5_isUnder cX5_isUnder 4 (some .boolean) 1 [.int (nI k), .int x2] g (RFo o) z (Zi (RFo o) z (undV (nI k) x2) g) := by
  rcases (show k = 0 ∨ k = 1 ∨ k = 2 ∨ k = 3 ∨ k = 4 ∨ k = 5 by omega) with rfl | rfl | rfl | rfl | rfl | rfl
  · exact c_X5_isUnder_0 l E x2
  · exact c_X5_isUnder_1 l E x2
  · exact c_X5_isUnder_2 l E x2
  · exact c_X5_isUnder_3 l E x2
  · exact c_X5_isUnder_4 l E x2
  · exact c_X5_isUnder_5 l E x2
/-- hands are of kinds -/
def KdS (g : IG) (hn : Nat) : Prop := ∀ h, h < hn → ∃ k, k < 6 ∧ g 49 h = nI k

set_option maxHeartbeats 1000000 in
set_option maxRecDepth 20000 in
theorem c_X5_taken (l : Launch) (E : Ev) {g : IG} {o : Option Nat} {z : Int64} {hn vn ru tc : Nat} {M : Nat → TM} (hX : XP g hn vn ru tc M) (hK : KdS g hn) (x1 x2 : Int32) : Ct l E 115 yX5_taken cX5_taken 3 (some .int) 3 [.ref (E.2.1 0), .int x1, .int x2] g (RFo o) z (Zi (RFo o) z (takF hn (g 49) (g 43) x1 x2) g) := by
  refine Ct.of (lv0 := [(0, .ref (E.2.1 0)), (1, .int x1), (2, .int x2)]) (by decide) (Nat.le_of_ble_eq_true rfl) rfl ?_
  intro p e s m below meth c cx
  obtain ⟨hhn5, hvn8, hruc, htc6⟩ := id hX.1
  refine go_aload_n (pc' := 1) cx dX5_taken_0 rfl rfl ?_
  refine go_getr (pc' := 4) cx 37 fX5_66 dX5_taken_1 kq0 (ltn rfl) (ltn rfl) rfl rfl rfl ?_
  refine go_bipush (pc' := 6) cx 10 dX5_taken_4 rfl rfl ?_
  refine go_iload_n (pc' := 7) cx dX5_taken_6 rfl rfl ?_
  refine go_cVi (pc' := 10) cx (c_fitsK l E (g := g) x2) mX1_fits lX5_86 dX5_taken_7 kq37 (ltn rfl) (ltn rfl) rfl rfl rfl rfl (ltn rfl) (Nat.le_of_ble_eq_true rfl) (Nat.le_of_ble_eq_true rfl) rfl ?_
  refine go_if_ne (pc' := 13) cx 16 dX5_taken_10 rfl rfl (fun c10 => ?_) (fun c10 => ?_)
  · refine go_aload_n (pc' := 17) cx dX5_taken_16 rfl rfl ?_
    refine go_getr (pc' := 20) cx 37 fX5_66 dX5_taken_17 kq0 (ltn rfl) (ltn rfl) rfl rfl rfl ?_
    refine go_bipush (pc' := 22) cx 10 dX5_taken_20 rfl rfl ?_
    refine go_iload_n (pc' := 23) cx dX5_taken_22 rfl rfl ?_
    refine go_cVi (pc' := 26) cx (c_namesK l E (g := g) hX.2.1 x1) mX1_names lX5_82 dX5_taken_23 kq37 (ltn rfl) (ltn rfl) rfl rfl rfl rfl (ltn rfl) (Nat.le_of_ble_eq_true rfl) (Nat.le_of_ble_eq_true rfl) rfl ?_
    refine go_if_ne (pc' := 29) cx 32 dX5_taken_26 rfl rfl (fun c26 => ?_) (fun c26 => ?_)
    · obtain ⟨h, hh, eh⟩ := in_ok (k := hn) (by omega) c26
      subst eh
      have clh := clI_n (k := h) (by omega)
      obtain ⟨kd1, hkd, ekd⟩ := hK h hh
      refine go_aload_n (pc' := 33) cx dX5_taken_32 rfl rfl ?_
      refine go_getr (pc' := 36) cx 37 fX5_66 dX5_taken_33 kq0 (ltn rfl) (ltn rfl) rfl rfl rfl ?_
      refine go_bipush (pc' := 38) cx 10 dX5_taken_36 rfl rfl ?_
      refine go_iload_n (pc' := 39) cx dX5_taken_38 rfl rfl ?_
      refine go_cVi (pc' := 42) cx (ekd ▸ (c_X1_readL l E (g := g) s37 (w := 10) (q := h) (by omega) (by omega) (by decide))) mX1_read lX5_89 dX5_taken_39 kq37 (ltn rfl) (ltn rfl) rfl rfl rfl rfl (ltn rfl) (Nat.le_of_ble_eq_true rfl) (Nat.le_of_ble_eq_true rfl) rfl ?_
      refine go_iload_n (pc' := 43) cx dX5_taken_42 rfl rfl ?_
      refine go_cSi (pc' := 46) cx (c_isUnderT l E (g := g) hkd x2) mX5_isUnder lX5_224 dX5_taken_43 rfl rfl rfl (ltn rfl) (Nat.le_of_ble_eq_true rfl) (Nat.le_of_ble_eq_true rfl) rfl ?_
      refine go_if_eq (pc' := 49) cx 61 dX5_taken_46 rfl rfl (fun c46 => ?_) (fun c46 => ?_)
      · refine go_bipush (pc' := 63) cx (-13) dX5_taken_61 rfl rfl ?_
        refine go_iret cx rfl dX5_taken_63 ?_
        exact Zi.mk (by unfold takF; rw [if_neg c10, if_neg c26, clh, ekd, if_pos c46]) rfl
      · refine go_aload_n (pc' := 50) cx dX5_taken_49 rfl rfl ?_
        refine go_getr (pc' := 53) cx 37 fX5_66 dX5_taken_50 kq0 (ltn rfl) (ltn rfl) rfl rfl rfl ?_
        refine go_iconst (pc' := 54) cx 4 dX5_taken_53 rfl rfl ?_
        refine go_iload_n (pc' := 55) cx dX5_taken_54 rfl rfl ?_
        refine go_cVi (pc' := 58) cx (c_X1_readL l E (g := g) s37 (w := 4) (q := h) (by omega) (by omega) (by decide)) mX1_read lX5_89 dX5_taken_55 kq37 (ltn rfl) (ltn rfl) rfl rfl rfl rfl (ltn rfl) (Nat.le_of_ble_eq_true rfl) (Nat.le_of_ble_eq_true rfl) rfl ?_
        refine go_goto cx 63 dX5_taken_58 rfl ?_
        refine go_iret cx rfl dX5_taken_63 ?_
        exact Zi.mk (by unfold takF; rw [if_neg c10, if_neg c26, clh, ekd, if_neg c46]) rfl
    · refine go_bipush (pc' := 31) cx (-11) dX5_taken_29 rfl rfl ?_
      refine go_iret cx rfl dX5_taken_31 ?_
      exact Zi.mk (by unfold takF; rw [if_neg c10, if_pos c26]) rfl
  · refine go_bipush (pc' := 15) cx (-2) dX5_taken_13 rfl rfl ?_
    refine go_iret cx rfl dX5_taken_15 ?_
    exact Zi.mk (by unfold takF; rw [if_pos c10]) rfl

theorem vsL_s {row : Nat → Int32} {sz : Nat} {fr : Int32} {n k : Nat} {ca : Int32} {g : IG} {vn : Nat} : vsL row sz fr (n + 1) k ca g vn = if hasR (nI sz) (fr + 2 * nI k) 2 = 0 then (-12, g)
    else vsL row sz fr n (k + 1) (if (nvX g vn (row (clI (fr + 2 * nI k))) (row (clI (fr + 2 * nI k) + 1))).1 < 0 then ca else ca + 1) (nvX g vn (row (clI (fr + 2 * nI k))) (row (clI (fr + 2 * nI k) + 1))).2 (nvN g vn (row (clI (fr + 2 * nI k))) (row (clI (fr + 2 * nI k) + 1))) := rfl

set_option maxHeartbeats 1000000 in
set_option maxRecDepth 20000 in
theorem visits_loop {l : Launch} {E : Ev} {Z : ZT} {o : Option Nat} {z : Int64} {p : Program} {e : Env} {s : State} {m : MethodId} {args : Array Value} {below : List Frame} {meth : Method} {c : Code} {t sz n : Nat} (ht : t < 4) (hsz : sz ≤ 40) (hn8 : n ≤ 8) {row : Nat → Int32} (fr x2 : Int32) (cx : Cx p s m args meth c E 115 cX5_visits 9 yX5_visits.cls (some .int)) : ∀ (j k : Nat) (ca : Int32) (G : IG) (vn : Nat), k + j = n → G (29 + 2 * t) 2 = nI sz → G (29 + 2 * t + 1) = row → vn ≤ 8 → G 37 3 = nI vn → Z (some (.int (vsL row sz fr j k ca G vn).1)) (vsL row sz fr j k ca G vn).2 (RFo o) z → Go p l e (rmd 4) s m args below meth c E 115 9 Z G (RFo o) z 69 [(7, .int (nI k)), (6, .int ca), (0, .ref (E.2.1 0)), (1, .int (nI t)), (2, .int x2), (3, .int fr), (4, .int (nI n)), (5, .ref (E.2.1 (29 + 2 * t)))] [] := by
  intro j
  induction j with
  | zero =>
    intro k ca G vn hk h2 hrow hv8 h3 hZ
    have hq : k = n := by omega
    subst hq
    refine go_iload (pc' := 71) cx dX5_visits_69 rfl rfl ?_
    refine go_iload (pc' := 73) cx dX5_visits_71 rfl rfl ?_
    refine go_icmp_ge (pc' := 76) cx 132 dX5_visits_73 rfl rfl (fun _ => ?_) (fun hh => absurd ((nI_leI (a := k) (b := k) (by omega) (by omega)).mpr (Nat.le_refl _)) hh)
    refine go_iload (pc' := 134) cx dX5_visits_132 rfl rfl ?_
    refine go_iret cx rfl dX5_visits_134 ?_
    exact hZ
  | succ j ih =>
    intro k ca G vn hk h2 hrow hv8 h3 hZ
    refine go_iload (pc' := 71) cx dX5_visits_69 rfl rfl ?_
    refine go_iload (pc' := 73) cx dX5_visits_71 rfl rfl ?_
    refine go_icmp_ge (pc' := 76) cx 132 dX5_visits_73 rfl rfl (fun hh => absurd ((nI_leI (a := n) (b := k) (by omega) (by omega)).mp hh) (by omega)) (fun _ => ?_)
    refine go_iload_n (pc' := 77) cx dX5_visits_76 rfl rfl ?_
    refine go_iconst (pc' := 78) cx 2 dX5_visits_77 rfl rfl ?_
    refine go_iload (pc' := 80) cx dX5_visits_78 rfl rfl ?_
    refine go_imul (pc' := 81) cx dX5_visits_80 rfl ?_
    refine go_val (w := .int (2 * nI k)) rfl ?_
    refine go_iadd (pc' := 82) cx dX5_visits_81 rfl ?_
    refine go_istore (pc' := 84) cx dX5_visits_82 (ltn rfl) [(8, .int (fr + (2 * nI k))), (7, .int (nI k)), (6, .int ca), (0, .ref (E.2.1 0)), (1, .int (nI t)), (2, .int x2), (3, .int fr), (4, .int (nI n)), (5, .ref (E.2.1 (29 + 2 * t)))] rfl rfl ?_
    refine go_aload (pc' := 86) cx dX5_visits_84 rfl rfl ?_
    refine go_iload (pc' := 88) cx dX5_visits_86 rfl rfl ?_
    refine go_iconst (pc' := 89) cx 2 dX5_visits_88 rfl rfl ?_
    refine go_cVi (pc' := 92) cx (c_hasT l E (g := G) ht h2 (fr + (2 * nI k)) 2) mX2_hasRange lX5_211 dX5_visits_89 (sh_k' _ ht).1 (ltn rfl) (by omega) rfl rfl rfl rfl (ltn rfl) (Nat.le_of_ble_eq_true rfl) (Nat.le_of_ble_eq_true rfl) rfl ?_
    refine go_if_ne (pc' := 95) cx 98 dX5_visits_92 rfl rfl (fun c92 => ?_) (fun c92 => ?_)
    · obtain ⟨a, k2, ea, ek2, hak⟩ := hasR_ok hsz c92
      have hk2 : k2 = 2 := ((nI_eq (a := 2) (b := k2) (by omega) (by omega)).mp ek2).symm
      subst hk2
      have hcl : clI (fr + 2 * nI k) = a := by
        rw [ea]
        exact clI_n (by omega)
      refine go_sub [0, 1, 2, 3, 4, 5, 6, 7, 8] [(8, .int (nI a)), (7, .int (nI k)), (6, .int ca), (0, .ref (E.2.1 0)), (1, .int (nI t)), (2, .int x2), (3, .int fr), (4, .int (nI n)), (5, .ref (E.2.1 (29 + 2 * t)))] (by rw [ea]; rfl) ?_
      refine go_aload_n (pc' := 99) cx dX5_visits_98 rfl rfl ?_
      refine go_aload (pc' := 101) cx dX5_visits_99 rfl rfl ?_
      refine go_getr (pc' := 104) cx (29 + 2 * t + 1) fX5_214 dX5_visits_101 (sh_k' _ ht).1 (by omega) (ltn rfl) rfl (sh_r ht).1 rfl ?_
      refine go_iload (pc' := 106) cx dX5_visits_104 rfl rfl ?_
      refine go_iald (pc' := 107) cx (row a) dX5_visits_106 (sh_k' _ ht).2.1 (by omega) (vpi (k := a) (a := 40) (by omega) rfl rfl) ((congrArg (G (29 + 2 * t + 1)) (cli (k := a) (a := 40) (by omega) rfl)).trans (congrFun hrow a)) rfl ?_
      refine go_aload (pc' := 109) cx dX5_visits_107 rfl rfl ?_
      refine go_getr (pc' := 112) cx (29 + 2 * t + 1) fX5_214 dX5_visits_109 (sh_k' _ ht).1 (by omega) (ltn rfl) rfl (sh_r ht).1 rfl ?_
      refine go_iload (pc' := 114) cx dX5_visits_112 rfl rfl ?_
      refine go_iconst (pc' := 115) cx 1 dX5_visits_114 rfl rfl ?_
      refine go_iadd (pc' := 116) cx dX5_visits_115 rfl ?_
      refine go_val (w := .int (nI (a + 1))) (congrArg Value.int (nI_add a 1)) ?_
      refine go_iald (pc' := 117) cx (row (a + 1)) dX5_visits_116 (sh_k' _ ht).2.1 (by omega) (vpi (k := (a + 1)) (a := 40) (by omega) rfl rfl) ((congrArg (G (29 + 2 * t + 1)) (cli (k := (a + 1)) (a := 40) (by omega) rfl)).trans (congrFun hrow (a + 1))) rfl ?_
      refine go_cVi (pc' := 120) cx (c_X5_newVisit l E (g := G) hv8 h3 (row a) (row (a + 1))) mX5_newVisit lX5_99 dX5_visits_117 kq0 (ltn rfl) (ltn rfl) rfl rfl rfl rfl (ltn rfl) (Nat.le_of_ble_eq_true rfl) (Nat.le_of_ble_eq_true rfl) rfl ?_
      refine go_if_lt (pc' := 123) cx 126 dX5_visits_120 rfl rfl (fun c120 => ?_) (fun c120 => ?_)
      · have c120n := Int32.not_le.mpr c120
        refine go_iinc (pc' := 129) cx (nI (k + 1)) dX5_visits_126 rfl (nI_1 k) (ltn rfl) [(7, .int (nI (k + 1))), (8, .int (nI a)), (6, .int ca), (0, .ref (E.2.1 0)), (1, .int (nI t)), (2, .int x2), (3, .int fr), (4, .int (nI n)), (5, .ref (E.2.1 (29 + 2 * t)))] rfl rfl ?_
        refine go_goto cx 69 dX5_visits_129 rfl ?_
        have h9 : vsL row sz fr (j + 1) k ca G vn = vsL row sz fr j (k + 1) ca (nvX G vn (row (clI (fr + 2 * nI k))) (row (clI (fr + 2 * nI k) + 1))).2 (nvN G vn (row (clI (fr + 2 * nI k))) (row (clI (fr + 2 * nI k) + 1))) := by
          rw [vsL_s, if_neg c92, hcl]
          first | rw [if_pos c120] | (rw [if_neg c120, ex_1]; rfl)
        rw [h9, hcl] at hZ
        refine go_sub [0, 2, 3, 4, 5, 6, 7, 8] [(7, .int (nI (k + 1))), (6, .int ca), (0, .ref (E.2.1 0)), (1, .int (nI t)), (2, .int x2), (3, .int fr), (4, .int (nI n)), (5, .ref (E.2.1 (29 + 2 * t)))] rfl ?_
        obtain ⟨n1, n2⟩ := nvX_vn (g := G) (vn := vn) (hd := row a) (wt := row (a + 1)) hv8 h3
        exact ih (k + 1) _ _ _ (by omega) ((congrFun (nvX_fr ⟨by omega, by omega, by omega, by omega⟩) 2).trans h2) ((nvX_fr ⟨by omega, by omega, by omega, by omega⟩).trans hrow) n1 n2 hZ
      · have c120n := Int32.not_lt.mp c120
        obtain ⟨x_1, ex_1⟩ : ∃ y : Int32, y = ca + Int32.ofInt (1) := ⟨_, rfl⟩
        refine go_iinc (pc' := 126) cx x_1 dX5_visits_123 rfl ex_1.symm (ltn rfl) [(6, .int x_1), (8, .int (nI a)), (7, .int (nI k)), (0, .ref (E.2.1 0)), (1, .int (nI t)), (2, .int x2), (3, .int fr), (4, .int (nI n)), (5, .ref (E.2.1 (29 + 2 * t)))] rfl rfl ?_
        refine go_iinc (pc' := 129) cx (nI (k + 1)) dX5_visits_126 rfl (nI_1 k) (ltn rfl) [(7, .int (nI (k + 1))), (6, .int x_1), (8, .int (nI a)), (0, .ref (E.2.1 0)), (1, .int (nI t)), (2, .int x2), (3, .int fr), (4, .int (nI n)), (5, .ref (E.2.1 (29 + 2 * t)))] rfl rfl ?_
        refine go_goto cx 69 dX5_visits_129 rfl ?_
        have h9 : vsL row sz fr (j + 1) k ca G vn = vsL row sz fr j (k + 1) x_1 (nvX G vn (row (clI (fr + 2 * nI k))) (row (clI (fr + 2 * nI k) + 1))).2 (nvN G vn (row (clI (fr + 2 * nI k))) (row (clI (fr + 2 * nI k) + 1))) := by
          rw [vsL_s, if_neg c92, hcl]
          first | rw [if_pos c120] | (rw [if_neg c120, ex_1]; rfl)
        rw [h9, hcl] at hZ
        refine go_sub [0, 1, 3, 4, 5, 6, 7, 8] [(7, .int (nI (k + 1))), (6, .int x_1), (0, .ref (E.2.1 0)), (1, .int (nI t)), (2, .int x2), (3, .int fr), (4, .int (nI n)), (5, .ref (E.2.1 (29 + 2 * t)))] rfl ?_
        obtain ⟨n1, n2⟩ := nvX_vn (g := G) (vn := vn) (hd := row a) (wt := row (a + 1)) hv8 h3
        exact ih (k + 1) _ _ _ (by omega) ((congrFun (nvX_fr ⟨by omega, by omega, by omega, by omega⟩) 2).trans h2) ((nvX_fr ⟨by omega, by omega, by omega, by omega⟩).trans hrow) n1 n2 hZ
    · refine go_bipush (pc' := 97) cx (-12) dX5_visits_95 rfl rfl ?_
      refine go_iret cx rfl dX5_visits_97 ?_
      have h9 : vsL row sz fr (j + 1) k ca G vn = (-12, G) := by
        rw [vsL_s, if_pos c92]
      rw [h9] at hZ
      exact hZ

set_option maxHeartbeats 1000000 in
set_option maxRecDepth 20000 in
theorem c_X5_visits (l : Launch) (E : Ev) {g : IG} {o : Option Nat} {z : Int64} (hS : ShX g) {vn : Nat} (hvn : vn ≤ 8) (h3 : g 37 3 = nI vn) (x1 x2 x3 x4 : Int32) : Ct l E 115 yX5_visits cX5_visits 9 (some .int) 4 [.ref (E.2.1 0), .int x1, .int x2, .int x3, .int x4] g (RFo o) z (ZI (RFo o) z (fun x g1 => ((inI 4 x1 = 0 ∨ x2 < 0 ∨ 2 < x2 ∨ x4 < 0 ∨ 8 < x4) ∧ x = -2 ∧ g1 = g) ∨ ∃ t sz n, t < 4 ∧ sz ≤ 40 ∧ n ≤ 8 ∧ x1 = nI t ∧ x4 = nI n ∧ g (29 + 2 * t) 2 = nI sz ∧ ¬ x2 < 0 ∧ ¬ 2 < x2 ∧ ((g (29 + 2 * t) 1 = -1 ∧ x = -11 ∧ g1 = g) ∨ (¬ g (29 + 2 * t) 1 = -1 ∧ ((¬ g (29 + 2 * t) 1 = x2 ∧ x = -13 ∧ g1 = g) ∨ (g (29 + 2 * t) 1 = x2 ∧ x = (vsL (g (29 + 2 * t + 1)) sz x3 n 0 0 g vn).1 ∧ g1 = (vsL (g (29 + 2 * t + 1)) sz x3 n 0 0 g vn).2)))))) := by
  refine Ct.of (lv0 := [(0, .ref (E.2.1 0)), (1, .int x1), (2, .int x2), (3, .int x3), (4, .int x4)]) (by decide) (Nat.le_of_ble_eq_true rfl) rfl ?_
  intro p e s m below meth c cx
  refine go_iload_n (pc' := 1) cx dX5_visits_0 rfl rfl ?_
  refine go_cSi (pc' := 4) cx (c_X5_isSheet l E (g := g) x1) mX5_isSheet lX5_165 dX5_visits_1 rfl rfl rfl (ltn rfl) (Nat.le_of_ble_eq_true rfl) (Nat.le_of_ble_eq_true rfl) rfl ?_
  refine go_if_eq (pc' := 7) cx 28 dX5_visits_4 rfl rfl (fun c4 => ?_) (fun c4 => ?_)
  · refine go_bipush (pc' := 30) cx (-2) dX5_visits_28 rfl rfl ?_
    refine go_iret cx rfl dX5_visits_30 ?_
    exact ZI.mk (Or.inl ⟨Or.inl c4, rfl, rfl⟩)
  · refine go_iload_n (pc' := 8) cx dX5_visits_7 rfl rfl ?_
    refine go_if_lt (pc' := 11) cx 28 dX5_visits_8 rfl rfl (fun c8 => ?_) (fun c8 => ?_)
    · have c8n := Int32.not_le.mpr c8
      refine go_bipush (pc' := 30) cx (-2) dX5_visits_28 rfl rfl ?_
      refine go_iret cx rfl dX5_visits_30 ?_
      exact ZI.mk (Or.inl ⟨Or.inr (Or.inl c8), rfl, rfl⟩)
    · have c8n := Int32.not_lt.mp c8
      refine go_iload_n (pc' := 12) cx dX5_visits_11 rfl rfl ?_
      refine go_iconst (pc' := 13) cx 2 dX5_visits_12 rfl rfl ?_
      refine go_icmp_gt (pc' := 16) cx 28 dX5_visits_13 rfl rfl (fun c13 => ?_) (fun c13 => ?_)
      · have c13n := Int32.not_le.mpr c13
        refine go_bipush (pc' := 30) cx (-2) dX5_visits_28 rfl rfl ?_
        refine go_iret cx rfl dX5_visits_30 ?_
        exact ZI.mk (Or.inl ⟨Or.inr (Or.inr (Or.inl c13)), rfl, rfl⟩)
      · have c13n := Int32.not_lt.mp c13
        refine go_iload (pc' := 18) cx dX5_visits_16 rfl rfl ?_
        refine go_if_lt (pc' := 21) cx 28 dX5_visits_18 rfl rfl (fun c18 => ?_) (fun c18 => ?_)
        · have c18n := Int32.not_le.mpr c18
          refine go_bipush (pc' := 30) cx (-2) dX5_visits_28 rfl rfl ?_
          refine go_iret cx rfl dX5_visits_30 ?_
          exact ZI.mk (Or.inl ⟨Or.inr (Or.inr (Or.inr (Or.inl c18))), rfl, rfl⟩)
        · have c18n := Int32.not_lt.mp c18
          refine go_iload (pc' := 23) cx dX5_visits_21 rfl rfl ?_
          refine go_bipush (pc' := 25) cx 8 dX5_visits_23 rfl rfl ?_
          refine go_icmp_le (pc' := 28) cx 31 dX5_visits_25 rfl rfl (fun c25 => ?_) (fun c25 => ?_)
          · have c25n := Int32.not_lt.mpr c25
            obtain ⟨t, ht, et⟩ := in_ok (k := 4) (by omega) c4
            subst et
            obtain ⟨sz, hsz, h2⟩ := hS t ht
            obtain ⟨n, hn8, en⟩ := rng_n (n := 8) (M := 8) (lo := 0) (by decide) (by decide) c18 (Int32.not_lt.mpr c25)
            subst en
            refine go_aload_n (pc' := 32) cx dX5_visits_31 rfl rfl ?_
            refine go_getr (pc' := 35) cx 4 fX5_32 dX5_visits_32 kq0 (ltn rfl) (ltn rfl) rfl rfl rfl ?_
            refine go_iload_n (pc' := 36) cx dX5_visits_35 rfl rfl ?_
            refine go_aaldk (pc' := 37) cx t (29 + 2 * t) dX5_visits_36 kq4 (Nat.le_of_ble_eq_true rfl) (ltn rfl) (ltn rfl) (vpi (k := t) (a := 4) ht rfl rfl) (cli (k := t) (a := 4) ht rfl) (sh_r ht).2 rfl ?_
            refine go_astore (pc' := 39) cx dX5_visits_37 (ltn rfl) [(5, .ref (E.2.1 (29 + 2 * t))), (0, .ref (E.2.1 0)), (1, .int (nI t)), (2, .int x2), (3, .int x3), (4, .int (nI n))] rfl rfl ?_
            refine go_aload (pc' := 41) cx dX5_visits_39 rfl rfl ?_
            refine go_geti (pc' := 44) cx (g (29 + 2 * t) 1) fX5_208 dX5_visits_41 (sh_k' _ ht).1 (by omega) (ltn rfl) rfl rfl rfl ?_
            refine go_iconst (pc' := 45) cx (-1) dX5_visits_44 rfl rfl ?_
            refine go_icmp_ne (pc' := 48) cx 51 dX5_visits_45 rfl rfl (fun c45 => ?_) (fun c45 => ?_)
            · refine go_aload (pc' := 53) cx dX5_visits_51 rfl rfl ?_
              refine go_geti (pc' := 56) cx (g (29 + 2 * t) 1) fX5_208 dX5_visits_53 (sh_k' _ ht).1 (by omega) (ltn rfl) rfl rfl rfl ?_
              refine go_iload_n (pc' := 57) cx dX5_visits_56 rfl rfl ?_
              refine go_icmp_eq (pc' := 60) cx 63 dX5_visits_57 rfl rfl (fun c57 => ?_) (fun c57 => ?_)
              · refine go_iconst (pc' := 64) cx 0 dX5_visits_63 rfl rfl ?_
                refine go_istore (pc' := 66) cx dX5_visits_64 (ltn rfl) [(6, .int 0), (5, .ref (E.2.1 (29 + 2 * t))), (0, .ref (E.2.1 0)), (1, .int (nI t)), (2, .int x2), (3, .int x3), (4, .int (nI n))] rfl rfl ?_
                refine go_iconst (pc' := 67) cx 0 dX5_visits_66 rfl rfl ?_
                refine go_istore (pc' := 69) cx dX5_visits_67 (ltn rfl) [(7, .int 0), (6, .int 0), (5, .ref (E.2.1 (29 + 2 * t))), (0, .ref (E.2.1 0)), (1, .int (nI t)), (2, .int x2), (3, .int x3), (4, .int (nI n))] rfl rfl ?_
                refine go_sub [0, 1, 3, 4, 5, 6, 7, 2] [(7, .int 0), (6, .int 0), (0, .ref (E.2.1 0)), (1, .int (nI t)), (2, .int x2), (3, .int x3), (4, .int (nI n)), (5, .ref (E.2.1 (29 + 2 * t)))] rfl ?_
                exact visits_loop (t := t) (sz := sz) (row := g (29 + 2 * t + 1)) ht hsz hn8 x3 x2 cx n 0 0 g vn (Nat.zero_add n) h2 rfl hvn h3 (ZI.mk (Or.inr ⟨t, sz, n, ht, hsz, hn8, rfl, rfl, h2, c8, c13, Or.inr ⟨c45, Or.inr ⟨c57, rfl, rfl⟩⟩⟩))
              · refine go_bipush (pc' := 62) cx (-13) dX5_visits_60 rfl rfl ?_
                refine go_iret cx rfl dX5_visits_62 ?_
                exact ZI.mk (Or.inr ⟨t, sz, n, ht, hsz, hn8, rfl, rfl, h2, c8, c13, Or.inr ⟨c45, Or.inl ⟨c57, rfl, rfl⟩⟩⟩)
            · refine go_bipush (pc' := 50) cx (-11) dX5_visits_48 rfl rfl ?_
              refine go_iret cx rfl dX5_visits_50 ?_
              exact ZI.mk (Or.inr ⟨t, sz, n, ht, hsz, hn8, rfl, rfl, h2, c8, c13, Or.inl ⟨c45, rfl, rfl⟩⟩)
          · have c25n := Int32.not_le.mp c25
            refine go_bipush (pc' := 30) cx (-2) dX5_visits_28 rfl rfl ?_
            refine go_iret cx rfl dX5_visits_30 ?_
            exact ZI.mk (Or.inl ⟨Or.inr (Or.inr (Or.inr (Or.inr (Int32.not_le.mp c25)))), rfl, rfl⟩)
