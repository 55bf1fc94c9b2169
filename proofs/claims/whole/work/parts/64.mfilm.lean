/-! THE REFERENCE: a film -/
def FrM (t n : Nat) (g0 g : IG) : Prop := ∀ i k, ¬ ((102 ≤ i ∧ i ≤ 105) ∨ (i = 88 ∧ (20 ≤ k ∧ k ≤ 37 ∨ k = 39)) ∨ ((i = 111 ∨ i = 112 ∨ i = 113) ∧ k = t) ∨ (i = 114 ∧ 40 * t ≤ k ∧ k < 40 * t + n)) → g i k = g0 i k
theorem sheet_ok {g G : IG} {t n : Nat} {x : Int32} (ht : t < 4) (hn : n ≤ 8) (h : (x = -2 ∧ G = g ∧ (inI 4 (nI t) = 0 ∨ inX (-1) 2 1 = 0 ∨ (¬ (1 : Int32) < 0 ∧ 40 < nI n))) ∨ (x = -14 ∧ G = g ∧ ¬ inI 4 (nI t) = 0 ∧ ¬ inX (-1) 2 1 = 0 ∧ ¬ (1 : Int32) < 0 ∧ nI n < 0) ∨ ∃ t2, t2 < 4 ∧ nI t = nI t2 ∧ x = 1 ∧ ¬ inX (-1) 2 1 = 0 ∧ (((1 : Int32) < 0 ∧ G = up2 (up2 (up2 g 111 t2 0) 112 t2 1) 113 t2 (nI n)) ∨ (¬ (1 : Int32) < 0 ∧ ∃ m, m ≤ 40 ∧ nI n = nI m ∧ (∀ i q, ¬ (i = 114 ∧ 40 * t2 ≤ q ∧ q < 40 * t2 + m) → G i q = up2 (up2 (up2 g 111 t2 1) 112 t2 1) 113 t2 (nI n) i q) ∧ ∀ q, q < m → G 114 (40 * t2 + q) = 0))) :
    ∀ i q, ¬ (i = 114 ∧ 40 * t ≤ q ∧ q < 40 * t + n) → G i q = up2 (up2 (up2 g 111 t 1) 112 t 1) 113 t (nI n) i q := by
  rcases h with ⟨-, -, h | h | ⟨-, h⟩⟩ | ⟨-, -, -, -, -, h⟩ | ⟨t2, ht2, e, -, -, ⟨h, -⟩ | ⟨-, m, hm, em, h, -⟩⟩
  · exact absurd h (inI_1' (k := 4) ht (by omega))
  · exact absurd h (by decide)
  · exact absurd ((nI_ltI (a := 40) (by omega) (by omega)).mp h) (by omega)
  · exact absurd h (nI_pos (by omega))
  · exact absurd h (by decide)
  · have e1 : t = t2 := (nI_eq (by omega) (by omega)).mp e
    have e2 : n = m := (nI_eq (by omega) (by omega)).mp em
    subst e1
    subst e2
    exact h

set_option maxHeartbeats 1000000 in
set_option maxRecDepth 20000 in
theorem film_loopM {l : Launch} {E : Ev} {Z : ZT} {o : Option Nat} {p : Program} {e : Env} {s : State} {m : MethodId} {args : Array Value} {below : List Frame} {meth : Method} {c : Code} {g : IG} {z : Int64} {t pl n9 : Nat} (ht : t < 4) (hpl : pl < 4) (hm : n9 ≤ 8) (cx : Cx p s m args meth c E 115 cX6_film 5 yX6_film.cls (some .int)) : ∀ (k u : Nat) (G : IG), u + k = n9 → (∀ i q, ¬ (i = 114 ∧ 40 * t ≤ q ∧ q < 40 * t + n9) → G i q = g i q) → (∀ q, q < u → G 114 (40 * t + q) = g 104 (4 * q + pl)) → (∀ (G9 : IG), (∀ i q, ¬ (i = 114 ∧ 40 * t ≤ q ∧ q < 40 * t + n9) → G9 i q = g i q) → (∀ q, q < n9 → G9 114 (40 * t + q) = g 104 (4 * q + pl)) → Z (some (.int (nI n9))) G9 (RFo o) z) → Go p l e (rmd 50) s m args below meth c E 115 5 Z G (RFo o) z 47 [(4, .int (nI u)), (0, .ref (E.2.1 88)), (1, .int (nI t)), (2, .int (nI pl)), (3, .int (nI n9))] [] := by
  intro k
  induction k with
  | zero =>
    intro u G hk hF h0 hZ
    have hu : u = n9 := by omega
    subst hu
    refine go_iload (pc' := 49) cx dX6_film_47 rfl rfl ?_
    refine go_iload_n (pc' := 50) cx dX6_film_49 rfl rfl ?_
    refine go_icmp_ge (pc' := 53) cx 82 dX6_film_50 rfl rfl (fun _ => ?_) (fun hh9 => absurd (Int32.le_refl _) hh9)
    refine go_iload_n (pc' := 83) cx dX6_film_82 rfl rfl ?_
    refine go_iret cx rfl dX6_film_83 ?_
    exact hZ G hF h0
  | succ k ih =>
    intro u G hk hF h0 hZ
    refine go_iload (pc' := 49) cx dX6_film_47 rfl rfl ?_
    refine go_iload_n (pc' := 50) cx dX6_film_49 rfl rfl ?_
    refine go_icmp_ge (pc' := 53) cx 82 dX6_film_50 rfl rfl (fun hh9 => absurd ((nI_leI (a := n9) (b := u) (by omega) (by omega)).mp hh9) (by omega)) (fun _ => ?_)
    refine go_aload_n (pc' := 54) cx dX6_film_53 rfl rfl ?_
    refine go_getr (pc' := 57) cx 114 fX6_96 dX6_film_54 kq88 (ltn rfl) (ltn rfl) rfl rfl rfl ?_
    refine go_bipush (pc' := 59) cx 40 dX6_film_57 rfl rfl ?_
    refine go_iload_n (pc' := 60) cx dX6_film_59 rfl rfl ?_
    refine go_imul (pc' := 61) cx dX6_film_60 rfl ?_
    refine go_val (w := .int (nI (40 * t))) (congrArg Value.int (pk_mul 40 t)) ?_
    refine go_iload (pc' := 63) cx dX6_film_61 rfl rfl ?_
    refine go_iadd (pc' := 64) cx dX6_film_63 rfl ?_
    refine go_val (w := .int (nI ((40 * t) + u))) (congrArg Value.int (nI_add (40 * t) u)) ?_
    refine go_aload_n (pc' := 65) cx dX6_film_64 rfl rfl ?_
    refine go_getr (pc' := 68) cx 104 fX6_62 dX6_film_65 kq88 (ltn rfl) (ltn rfl) rfl rfl rfl ?_
    refine go_iconst (pc' := 69) cx 4 dX6_film_68 rfl rfl ?_
    refine go_iload (pc' := 71) cx dX6_film_69 rfl rfl ?_
    refine go_imul (pc' := 72) cx dX6_film_71 rfl ?_
    refine go_val (w := .int (nI (4 * u))) (congrArg Value.int (pk_mul 4 u)) ?_
    refine go_iload_n (pc' := 73) cx dX6_film_72 rfl rfl ?_
    refine go_iadd (pc' := 74) cx dX6_film_73 rfl ?_
    refine go_val (w := .int (nI ((4 * u) + pl))) (congrArg Value.int (nI_add (4 * u) pl)) ?_
    refine go_iald (pc' := 75) cx (G 104 ((4 * u) + pl)) dX6_film_74 kq104 (ltn rfl) (vpi (k := ((4 * u) + pl)) (a := 32) (by omega) rfl rfl) (congrArg (G 104) (cli (k := ((4 * u) + pl)) (a := 32) (by omega) rfl)) rfl ?_
    refine go_iastk (pc' := 76) cx ((40 * t) + u) dX6_film_75 kq114 (ltn rfl) (vpi (k := ((40 * t) + u)) (a := 160) (by omega) rfl rfl) (cli (k := ((40 * t) + u)) (a := 160) (by omega) rfl) rfl ?_
    refine go_iinc (pc' := 79) cx (nI (u + 1)) dX6_film_76 rfl (nI_1 u) (ltn rfl) [(4, .int (nI (u + 1))), (0, .ref (E.2.1 88)), (1, .int (nI t)), (2, .int (nI pl)), (3, .int (nI n9))] rfl rfl ?_
    refine go_goto cx 47 dX6_film_79 rfl ?_
    exact ih (u + 1) (up2 G 114 ((40 * t) + u) (G 104 ((4 * u) + pl))) (by omega) (fun i q h9 => (up2_n _ _ (by omega)).trans (hF i q h9)) (fun q hq => by
      by_cases e : q = u
      · rw [e, up2_s]
        exact hF 104 _ (by omega)
      · rw [up2_n _ _ (Or.inr (by omega))]
        exact h0 q (by omega)) hZ

set_option maxHeartbeats 1000000 in
set_option maxRecDepth 20000 in
theorem c_X6_film (l : Launch) (E : Ev) {g : IG} {o : Option Nat} {z : Int64} {hn vn ru tc : Nat} {CS : CSt} (hX : XM g hn vn ru tc CS) (x1 x2 x3 : Int32) : Ct l E 115 yX6_film cX6_film 5 (some .int) 50 [.ref (E.2.1 88), .int x1, .int x2, .int x3] g (RFo o) z (ZIz (RFo o) (fun x g1 z1 => ((inI 4 x1 = 0 ∨ inI 4 x2 = 0 ∨ inX 0 (nI vn) x3 = 0) ∧ x = -2 ∧ g1 = g) ∨ ∃ t pl n, t < 4 ∧ pl < 4 ∧ n ≤ vn ∧ x1 = nI t ∧ x2 = nI pl ∧ x3 = nI n ∧ x = nI n ∧ FrM t n g g1 ∧ g1 111 t = 1 ∧ g1 112 t = 1 ∧ g1 113 t = nI n ∧ (∀ u, u < n → g1 114 (40 * t + u) = (crs (TMx CS ru) (svM g) (u + 1)).1 pl) ∧ SdI g1 tc CS)) := by
  refine Ct.of (lv0 := [(0, .ref (E.2.1 88)), (1, .int x1), (2, .int x2), (3, .int x3)]) (by decide) (Nat.le_of_ble_eq_true rfl) rfl ?_
  intro p e s m below meth c cx
  have hb := hX.1
  have hS0 := hX.2.2.2.2.2.2.2.2.2.2
  refine go_iload_n (pc' := 1) cx dX6_film_0 rfl rfl ?_
  refine go_cSi (pc' := 4) cx (c_X6_isSheet l E (g := g) x1) mX6_isSheet lX6_435 dX6_film_1 rfl rfl rfl (ltn rfl) (Nat.le_of_ble_eq_true rfl) (Nat.le_of_ble_eq_true rfl) rfl ?_
  refine go_if_eq (pc' := 7) cx 28 dX6_film_4 rfl rfl (fun c4 => ?_) (fun c4 => ?_)
  · refine go_bipush (pc' := 30) cx (-2) dX6_film_28 rfl rfl ?_
    refine go_iret cx rfl dX6_film_30 ?_
    exact ZIz.mk (Or.inl ⟨Or.inl c4, rfl, rfl⟩)
  · refine go_iload_n (pc' := 8) cx dX6_film_7 rfl rfl ?_
    refine go_cSi (pc' := 11) cx (c_X6_isPlace l E (g := g) x2) mX6_isPlace lX6_118 dX6_film_8 rfl rfl rfl (ltn rfl) (Nat.le_of_ble_eq_true rfl) (Nat.le_of_ble_eq_true rfl) rfl ?_
    refine go_if_eq (pc' := 14) cx 28 dX6_film_11 rfl rfl (fun c11 => ?_) (fun c11 => ?_)
    · refine go_bipush (pc' := 30) cx (-2) dX6_film_28 rfl rfl ?_
      refine go_iret cx rfl dX6_film_30 ?_
      exact ZIz.mk (Or.inl ⟨Or.inr (Or.inl c11), rfl, rfl⟩)
    · refine go_iload_n (pc' := 15) cx dX6_film_14 rfl rfl ?_
      refine go_i2l (pc' := 16) cx dX6_film_15 rfl ?_
      refine go_lconst (pc' := 17) cx 0 dX6_film_16 rfl rfl ?_
      refine go_val (w := .long (((0 : Int32)).toInt64)) (congrArg Value.long (by decide)) ?_
      refine go_aload_n (pc' := 18) cx dX6_film_17 rfl rfl ?_
      refine go_geti (pc' := 21) cx (nI vn) fX6_115 dX6_film_18 kq88 (ltn rfl) (ltn rfl) rfl hX.2.2.1 rfl ?_
      refine go_i2l (pc' := 22) cx dX6_film_21 rfl ?_
      refine go_cSi (pc' := 25) cx (c_X6_in l E (g := g) x3 (0 : Int32) (nI vn)) mX6_in lX6_108 dX6_film_22 rfl rfl rfl (ltn rfl) (Nat.le_of_ble_eq_true rfl) (Nat.le_of_ble_eq_true rfl) rfl ?_
      refine go_if_ne (pc' := 28) cx 31 dX6_film_25 rfl rfl (fun c25 => ?_) (fun c25 => ?_)
      · obtain ⟨t, ht, et⟩ := in_ok (k := 4) (by omega) c4
        subst et
        have clt := clI_n (k := t) (by omega)
        obtain ⟨pl, hpl, epl⟩ := in_ok (k := 4) (by omega) c11
        subst epl
        have clpl := clI_n (k := pl) (by omega)
        obtain ⟨q1, q2⟩ := inX_ng c25
        obtain ⟨n9, hj9, en9⟩ := nI_of q1
        subst en9
        have hn9 : n9 ≤ vn := by
          rcases Nat.lt_or_ge vn n9 with q | q
          · exact absurd ((nI_ltI (by omega) hj9).mpr q) q2
          · exact q
        refine go_aload_n (pc' := 32) cx dX6_film_31 rfl rfl ?_
        refine go_cVIz (pc' := 35) cx (c_X6_courses l E (g := g) hX) mX6_courses lX6_421 dX6_film_32 kq88 (ltn rfl) (ltn rfl) rfl rfl rfl rfl (ltn rfl) (Nat.le_of_ble_eq_true rfl) (Nat.le_of_ble_eq_true rfl) rfl (fun xc GC zc hc => ?_)
        obtain ⟨ec, fc, cw, y39, sc⟩ := hc
        refine go_pop (pc' := 36) cx rfl dX6_film_35 rfl ?_
        refine go_aload_n (pc' := 37) cx dX6_film_36 rfl rfl ?_
        refine go_iload_n (pc' := 38) cx dX6_film_37 rfl rfl ?_
        refine go_iconst (pc' := 39) cx 1 dX6_film_38 rfl rfl ?_
        refine go_iload_n (pc' := 40) cx dX6_film_39 rfl rfl ?_
        refine go_cVI (pc' := 43) cx (c_X6_sheet l E (g := GC) (nI t) 1 (nI n9)) mX6_sheet lX6_441 dX6_film_40 kq88 (ltn rfl) (ltn rfl) rfl rfl rfl rfl (ltn rfl) (Nat.le_of_ble_eq_true rfl) (Nat.le_of_ble_eq_true rfl) rfl (fun xs GS hs => ?_)
        have hS9 := sheet_ok ht (by omega) hs
        refine go_pop (pc' := 44) cx rfl dX6_film_43 rfl ?_
        refine go_iconst (pc' := 45) cx 0 dX6_film_44 rfl rfl ?_
        refine go_istore (pc' := 47) cx dX6_film_45 (ltn rfl) [(4, .int 0), (0, .ref (E.2.1 88)), (1, .int (nI t)), (2, .int (nI pl)), (3, .int (nI n9))] rfl rfl ?_
        refine go_sub [0, 1, 2, 3, 4] [(4, .int (nI 0)), (0, .ref (E.2.1 88)), (1, .int (nI t)), (2, .int (nI pl)), (3, .int (nI n9))] rfl ?_
        refine film_loopM (g := GS) ht hpl (by omega) cx n9 0 GS (by omega) (fun i q h9 => rfl) (fun q hq => absurd hq (Nat.not_lt_zero q)) (fun G9 f9 i9 => ZIz.mk (Or.inr ⟨t, pl, n9, ht, hpl, hn9, rfl, rfl, rfl, rfl, ?_, ?_, ?_, ?_, ?_, ?_⟩))
        · intro i k q
          rw [f9 i k (by omega), hS9 i k (by omega), up2_n _ _ (by omega), up2_n _ _ (by omega), up2_n _ _ (by omega)]
          exact fc i k (by omega)
        · rw [f9 111 t (by omega), hS9 111 t (by omega), up2_n _ _ (by omega), up2_n _ _ (by omega), up2_s]
        · rw [f9 112 t (by omega), hS9 112 t (by omega), up2_n _ _ (by omega), up2_s]
        · rw [f9 113 t (by omega), hS9 113 t (by omega), up2_s]
        · intro u hu
          rw [i9 u hu, hS9 104 _ (by omega), up2_n _ _ (by omega), up2_n _ _ (by omega), up2_n _ _ (by omega)]
          exact cw.at (by omega) hpl
        · refine sc.fr (funext fun k => ?_)
          rw [f9 102 k (by omega), hS9 102 k (by omega), up2_n _ _ (by omega), up2_n _ _ (by omega), up2_n _ _ (by omega)]
      · refine go_bipush (pc' := 30) cx (-2) dX6_film_28 rfl rfl ?_
        refine go_iret cx rfl dX6_film_30 ?_
        exact ZIz.mk (Or.inl ⟨Or.inr (Or.inr c25), rfl, rfl⟩)
