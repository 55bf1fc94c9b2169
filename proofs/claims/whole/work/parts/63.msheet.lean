/-! THE REFERENCE: a sheet -/

set_option maxHeartbeats 1000000 in
set_option maxRecDepth 20000 in
theorem sheet_loopM {l : Launch} {E : Ev} {Z : ZT} {o : Option Nat} {p : Program} {e : Env} {s : State} {m : MethodId} {args : Array Value} {below : List Frame} {meth : Method} {c : Code} {g : IG} {z : Int64} {t n9 : Nat} {so : Int32} (ht : t < 4) (hm : n9 ≤ 40) (hso : ¬ so < 0) (cx : Cx p s m args meth c E 115 cX6_sheet 5 yX6_sheet.cls (some .int)) : ∀ (k u : Nat) (G : IG), u + k = n9 → (∀ i q, ¬ (i = 114 ∧ 40 * t ≤ q ∧ q < 40 * t + n9) → G i q = g i q) → (∀ q, q < u → G 114 (40 * t + q) = 0) → (∀ (G9 : IG), (∀ i q, ¬ (i = 114 ∧ 40 * t ≤ q ∧ q < 40 * t + n9) → G9 i q = g i q) → (∀ q, q < n9 → G9 114 (40 * t + q) = 0) → Z (some (.int 1)) G9 (RFo o) z) → Go p l e (rmd 3) s m args below meth c E 115 5 Z G (RFo o) z 77 [(4, .int (nI u)), (0, .ref (E.2.1 88)), (1, .int (nI t)), (2, .int so), (3, .int (nI n9))] [] := by
  intro k
  induction k with
  | zero =>
    intro u G hk hF h0 hZ
    have hu : u = n9 := by omega
    subst hu
    refine go_iload (pc' := 79) cx dX6_sheet_77 rfl rfl ?_
    refine go_iload_n (pc' := 80) cx dX6_sheet_79 rfl rfl ?_
    refine go_icmp_ge (pc' := 83) cx 106 dX6_sheet_80 rfl rfl (fun _ => ?_) (fun hh9 => absurd (Int32.le_refl _) hh9)
    refine go_iconst (pc' := 107) cx 1 dX6_sheet_106 rfl rfl ?_
    refine go_iret cx rfl dX6_sheet_107 ?_
    exact hZ G hF h0
  | succ k ih =>
    intro u G hk hF h0 hZ
    refine go_iload (pc' := 79) cx dX6_sheet_77 rfl rfl ?_
    refine go_iload_n (pc' := 80) cx dX6_sheet_79 rfl rfl ?_
    refine go_icmp_ge (pc' := 83) cx 106 dX6_sheet_80 rfl rfl (fun hh9 => absurd ((nI_leI (a := n9) (b := u) (by omega) (by omega)).mp hh9) (by omega)) (fun _ => ?_)
    refine go_iload_n (pc' := 84) cx dX6_sheet_83 rfl rfl ?_
    refine go_if_lt (pc' := 87) cx 106 dX6_sheet_84 rfl rfl (fun hh9 => absurd hh9 hso) (fun _ => ?_)
    refine go_aload_n (pc' := 88) cx dX6_sheet_87 rfl rfl ?_
    refine go_getr (pc' := 91) cx 114 fX6_96 dX6_sheet_88 kq88 (ltn rfl) (ltn rfl) rfl rfl rfl ?_
    refine go_bipush (pc' := 93) cx 40 dX6_sheet_91 rfl rfl ?_
    refine go_iload_n (pc' := 94) cx dX6_sheet_93 rfl rfl ?_
    refine go_imul (pc' := 95) cx dX6_sheet_94 rfl ?_
    refine go_val (w := .int (nI (40 * t))) (congrArg Value.int (pk_mul 40 t)) ?_
    refine go_iload (pc' := 97) cx dX6_sheet_95 rfl rfl ?_
    refine go_iadd (pc' := 98) cx dX6_sheet_97 rfl ?_
    refine go_val (w := .int (nI ((40 * t) + u))) (congrArg Value.int (nI_add (40 * t) u)) ?_
    refine go_iconst (pc' := 99) cx 0 dX6_sheet_98 rfl rfl ?_
    refine go_iastk (pc' := 100) cx ((40 * t) + u) dX6_sheet_99 kq114 (ltn rfl) (vpi (k := ((40 * t) + u)) (a := 160) (by omega) rfl rfl) (cli (k := ((40 * t) + u)) (a := 160) (by omega) rfl) rfl ?_
    refine go_iinc (pc' := 103) cx (nI (u + 1)) dX6_sheet_100 rfl (nI_1 u) (ltn rfl) [(4, .int (nI (u + 1))), (0, .ref (E.2.1 88)), (1, .int (nI t)), (2, .int so), (3, .int (nI n9))] rfl rfl ?_
    refine go_goto cx 77 dX6_sheet_103 rfl ?_
    exact ih (u + 1) (up2 G 114 ((40 * t) + u) 0) (by omega) (fun i q h9 => (up2_n _ _ (by omega)).trans (hF i q h9)) (fun q hq => by
      by_cases e : q = u
      · rw [e, up2_s]
      · rw [up2_n _ _ (Or.inr (by omega))]
        exact h0 q (by omega)) hZ

set_option maxHeartbeats 1000000 in
set_option maxRecDepth 20000 in
theorem c_X6_sheet (l : Launch) (E : Ev) {g : IG} {o : Option Nat} {z : Int64} (x1 so n1 : Int32) : Ct l E 115 yX6_sheet cX6_sheet 5 (some .int) 3 [.ref (E.2.1 88), .int x1, .int so, .int n1] g (RFo o) z (ZI (RFo o) z (fun x g1 => (x = -2 ∧ g1 = g ∧ (inI 4 x1 = 0 ∨ inX (-1) 2 so = 0 ∨ (¬ so < 0 ∧ 40 < n1))) ∨ (x = -14 ∧ g1 = g ∧ ¬ inI 4 x1 = 0 ∧ ¬ inX (-1) 2 so = 0 ∧ ¬ so < 0 ∧ n1 < 0) ∨ ∃ t, t < 4 ∧ x1 = nI t ∧ x = 1 ∧ ¬ inX (-1) 2 so = 0 ∧ ((so < 0 ∧ g1 = up2 (up2 (up2 g 111 t 0) 112 t so) 113 t n1) ∨ (¬ so < 0 ∧ ∃ m, m ≤ 40 ∧ n1 = nI m ∧ (∀ i q, ¬ (i = 114 ∧ 40 * t ≤ q ∧ q < 40 * t + m) → g1 i q = up2 (up2 (up2 g 111 t 1) 112 t so) 113 t n1 i q) ∧ ∀ q, q < m → g1 114 (40 * t + q) = 0)))) := by
  refine Ct.of (lv0 := [(0, .ref (E.2.1 88)), (1, .int x1), (2, .int so), (3, .int n1)]) (by decide) (Nat.le_of_ble_eq_true rfl) rfl ?_
  intro p e s m below meth c cx
  refine go_iload_n (pc' := 1) cx dX6_sheet_0 rfl rfl ?_
  refine go_cSi (pc' := 4) cx (c_X6_isSheet l E (g := g) x1) mX6_isSheet lX6_435 dX6_sheet_1 rfl rfl rfl (ltn rfl) (Nat.le_of_ble_eq_true rfl) (Nat.le_of_ble_eq_true rfl) rfl ?_
  refine go_if_eq (pc' := 7) cx 31 dX6_sheet_4 rfl rfl (fun c4 => ?_) (fun c4 => ?_)
  · refine go_bipush (pc' := 33) cx (-2) dX6_sheet_31 rfl rfl ?_
    refine go_iret cx rfl dX6_sheet_33 ?_
    exact ZI.mk (Or.inl ⟨rfl, rfl, Or.inl c4⟩)
  · refine go_iload_n (pc' := 8) cx dX6_sheet_7 rfl rfl ?_
    refine go_i2l (pc' := 9) cx dX6_sheet_8 rfl ?_
    refine go_ldc2 (pc' := 12) cx (-1) kX6_134 dX6_sheet_9 rfl ?_
    refine go_val (w := .long (((-1 : Int32)).toInt64)) (congrArg Value.long (by decide)) ?_
    refine go_ldc2 (pc' := 15) cx 2 kX6_461 dX6_sheet_12 rfl ?_
    refine go_val (w := .long (((2 : Int32)).toInt64)) (congrArg Value.long (by decide)) ?_
    refine go_cSi (pc' := 18) cx (c_X6_in l E (g := g) so (-1) (2 : Int32)) mX6_in lX6_108 dX6_sheet_15 rfl rfl rfl (ltn rfl) (Nat.le_of_ble_eq_true rfl) (Nat.le_of_ble_eq_true rfl) rfl ?_
    refine go_if_eq (pc' := 21) cx 31 dX6_sheet_18 rfl rfl (fun c18 => ?_) (fun c18 => ?_)
    · refine go_bipush (pc' := 33) cx (-2) dX6_sheet_31 rfl rfl ?_
      refine go_iret cx rfl dX6_sheet_33 ?_
      exact ZI.mk (Or.inl ⟨rfl, rfl, Or.inr (Or.inl c18)⟩)
    · refine go_iload_n (pc' := 22) cx dX6_sheet_21 rfl rfl ?_
      refine go_if_lt (pc' := 25) cx 34 dX6_sheet_22 rfl rfl (fun c22 => ?_) (fun c22 => ?_)
      · have c22n := Int32.not_le.mpr c22
        refine go_iload_n (pc' := 35) cx dX6_sheet_34 rfl rfl ?_
        refine go_if_lt (pc' := 38) cx 45 dX6_sheet_35 rfl rfl (fun _ => ?_) (fun hh9 => absurd c22 hh9)
        obtain ⟨t, ht, et⟩ := in_ok (k := 4) (by omega) c4
        subst et
        have clt := clI_n (k := t) (by omega)
        refine go_aload_n (pc' := 46) cx dX6_sheet_45 rfl rfl ?_
        refine go_getr (pc' := 49) cx 111 fX6_86 dX6_sheet_46 kq88 (ltn rfl) (ltn rfl) rfl rfl rfl ?_
        refine go_iload_n (pc' := 50) cx dX6_sheet_49 rfl rfl ?_
        refine go_iload_n (pc' := 51) cx dX6_sheet_50 rfl rfl ?_
        refine go_if_lt (pc' := 54) cx 58 dX6_sheet_51 rfl rfl (fun _ => ?_) (fun hh9 => absurd c22 hh9)
        refine go_iconst (pc' := 59) cx 0 dX6_sheet_58 rfl rfl ?_
        refine go_zastk (pc' := 60) cx t dX6_sheet_59 kq111 (ltn rfl) (vpi (k := t) (a := 4) ht rfl rfl) (cli (k := t) (a := 4) ht rfl) (Or.inl rfl) rfl ?_
        refine go_aload_n (pc' := 61) cx dX6_sheet_60 rfl rfl ?_
        refine go_getr (pc' := 64) cx 112 fX6_90 dX6_sheet_61 kq88 (ltn rfl) (ltn rfl) rfl rfl rfl ?_
        refine go_iload_n (pc' := 65) cx dX6_sheet_64 rfl rfl ?_
        refine go_iload_n (pc' := 66) cx dX6_sheet_65 rfl rfl ?_
        refine go_iastk (pc' := 67) cx t dX6_sheet_66 kq112 (ltn rfl) (vpi (k := t) (a := 4) ht rfl rfl) (cli (k := t) (a := 4) ht rfl) rfl ?_
        refine go_aload_n (pc' := 68) cx dX6_sheet_67 rfl rfl ?_
        refine go_getr (pc' := 71) cx 113 fX6_93 dX6_sheet_68 kq88 (ltn rfl) (ltn rfl) rfl rfl rfl ?_
        refine go_iload_n (pc' := 72) cx dX6_sheet_71 rfl rfl ?_
        refine go_iload_n (pc' := 73) cx dX6_sheet_72 rfl rfl ?_
        refine go_iastk (pc' := 74) cx t dX6_sheet_73 kq113 (ltn rfl) (vpi (k := t) (a := 4) ht rfl rfl) (cli (k := t) (a := 4) ht rfl) rfl ?_
        refine go_iconst (pc' := 75) cx 0 dX6_sheet_74 rfl rfl ?_
        refine go_istore (pc' := 77) cx dX6_sheet_75 (ltn rfl) [(4, .int 0), (0, .ref (E.2.1 88)), (1, .int (nI t)), (2, .int so), (3, .int n1)] rfl rfl ?_
        refine go_iload (pc' := 79) cx dX6_sheet_77 rfl rfl ?_
        refine go_iload_n (pc' := 80) cx dX6_sheet_79 rfl rfl ?_
        refine go_icmp_ge (pc' := 83) cx 106 dX6_sheet_80 rfl rfl (fun c80 => ?_) (fun c80 => ?_)
        · have c80n := Int32.not_lt.mpr c80
          refine go_iconst (pc' := 107) cx 1 dX6_sheet_106 rfl rfl ?_
          refine go_iret cx rfl dX6_sheet_107 ?_
          exact ZI.mk (Or.inr (Or.inr ⟨t, ht, rfl, rfl, c18, Or.inl ⟨c22, rfl⟩⟩))
        · have c80n := Int32.not_le.mp c80
          refine go_iload_n (pc' := 84) cx dX6_sheet_83 rfl rfl ?_
          refine go_if_lt (pc' := 87) cx 106 dX6_sheet_84 rfl rfl (fun _ => ?_) (fun hh9 => absurd c22 hh9)
          refine go_iconst (pc' := 107) cx 1 dX6_sheet_106 rfl rfl ?_
          refine go_iret cx rfl dX6_sheet_107 ?_
          exact ZI.mk (Or.inr (Or.inr ⟨t, ht, rfl, rfl, c18, Or.inl ⟨c22, rfl⟩⟩))
      · have c22n := Int32.not_lt.mp c22
        refine go_iload_n (pc' := 26) cx dX6_sheet_25 rfl rfl ?_
        refine go_bipush (pc' := 28) cx 40 dX6_sheet_26 rfl rfl ?_
        refine go_icmp_le (pc' := 31) cx 34 dX6_sheet_28 rfl rfl (fun c28 => ?_) (fun c28 => ?_)
        · have c28n := Int32.not_lt.mpr c28
          refine go_iload_n (pc' := 35) cx dX6_sheet_34 rfl rfl ?_
          refine go_if_lt (pc' := 38) cx 45 dX6_sheet_35 rfl rfl (fun hh9 => absurd hh9 c22) (fun _ => ?_)
          refine go_iload_n (pc' := 39) cx dX6_sheet_38 rfl rfl ?_
          refine go_if_ge (pc' := 42) cx 45 dX6_sheet_39 rfl rfl (fun c39 => ?_) (fun c39 => ?_)
          · have c39n := Int32.not_lt.mpr c39
            obtain ⟨t, ht, et⟩ := in_ok (k := 4) (by omega) c4
            subst et
            have clt := clI_n (k := t) (by omega)
            obtain ⟨n9, hm, em⟩ : ∃ y : Nat, y ≤ 40 ∧ n1 = nI y := by
              obtain ⟨j, hj, rfl⟩ := nI_of (x := n1) (Int32.not_lt.mpr c39)
              exact ⟨j, (nI_leI (b := 40) hj (by omega)).mp c28, rfl⟩
            subst em
            refine go_aload_n (pc' := 46) cx dX6_sheet_45 rfl rfl ?_
            refine go_getr (pc' := 49) cx 111 fX6_86 dX6_sheet_46 kq88 (ltn rfl) (ltn rfl) rfl rfl rfl ?_
            refine go_iload_n (pc' := 50) cx dX6_sheet_49 rfl rfl ?_
            refine go_iload_n (pc' := 51) cx dX6_sheet_50 rfl rfl ?_
            refine go_if_lt (pc' := 54) cx 58 dX6_sheet_51 rfl rfl (fun hh9 => absurd hh9 c22) (fun _ => ?_)
            refine go_iconst (pc' := 55) cx 1 dX6_sheet_54 rfl rfl ?_
            refine go_goto cx 59 dX6_sheet_55 rfl ?_
            refine go_zastk (pc' := 60) cx t dX6_sheet_59 kq111 (ltn rfl) (vpi (k := t) (a := 4) ht rfl rfl) (cli (k := t) (a := 4) ht rfl) (Or.inr rfl) rfl ?_
            refine go_aload_n (pc' := 61) cx dX6_sheet_60 rfl rfl ?_
            refine go_getr (pc' := 64) cx 112 fX6_90 dX6_sheet_61 kq88 (ltn rfl) (ltn rfl) rfl rfl rfl ?_
            refine go_iload_n (pc' := 65) cx dX6_sheet_64 rfl rfl ?_
            refine go_iload_n (pc' := 66) cx dX6_sheet_65 rfl rfl ?_
            refine go_iastk (pc' := 67) cx t dX6_sheet_66 kq112 (ltn rfl) (vpi (k := t) (a := 4) ht rfl rfl) (cli (k := t) (a := 4) ht rfl) rfl ?_
            refine go_aload_n (pc' := 68) cx dX6_sheet_67 rfl rfl ?_
            refine go_getr (pc' := 71) cx 113 fX6_93 dX6_sheet_68 kq88 (ltn rfl) (ltn rfl) rfl rfl rfl ?_
            refine go_iload_n (pc' := 72) cx dX6_sheet_71 rfl rfl ?_
            refine go_iload_n (pc' := 73) cx dX6_sheet_72 rfl rfl ?_
            refine go_iastk (pc' := 74) cx t dX6_sheet_73 kq113 (ltn rfl) (vpi (k := t) (a := 4) ht rfl rfl) (cli (k := t) (a := 4) ht rfl) rfl ?_
            refine go_iconst (pc' := 75) cx 0 dX6_sheet_74 rfl rfl ?_
            refine go_istore (pc' := 77) cx dX6_sheet_75 (ltn rfl) [(4, .int 0), (0, .ref (E.2.1 88)), (1, .int (nI t)), (2, .int so), (3, .int (nI n9))] rfl rfl ?_
            refine go_sub [0, 1, 2, 3, 4] [(4, .int (nI 0)), (0, .ref (E.2.1 88)), (1, .int (nI t)), (2, .int so), (3, .int (nI n9))] rfl ?_
            exact sheet_loopM (g := (up2 (up2 (up2 g 111 t 1) 112 t so) 113 t (nI n9))) ht hm c22 cx n9 0 (up2 (up2 (up2 g 111 t 1) 112 t so) 113 t (nI n9)) (by omega) (fun i q h9 => rfl) (fun q hq => absurd hq (Nat.not_lt_zero q)) (fun G9 f9 z9 => ZI.mk (Or.inr (Or.inr ⟨t, ht, rfl, rfl, c18, Or.inr ⟨c22, n9, hm, rfl, f9, z9⟩⟩)))
          · have c39n := Int32.not_le.mp c39
            refine go_bipush (pc' := 44) cx (-14) dX6_sheet_42 rfl rfl ?_
            refine go_iret cx rfl dX6_sheet_44 ?_
            exact ZI.mk (Or.inr (Or.inl ⟨rfl, rfl, c4, c18, c22, Int32.not_le.mp c39⟩))
        · have c28n := Int32.not_le.mp c28
          refine go_bipush (pc' := 33) cx (-2) dX6_sheet_31 rfl rfl ?_
          refine go_iret cx rfl dX6_sheet_33 ?_
          exact ZI.mk (Or.inl ⟨rfl, rfl, Or.inr (Or.inr ⟨c22, Int32.not_le.mp c28⟩)⟩)
