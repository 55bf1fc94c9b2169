/-! THE REFERENCE: visits by a sheet -/
def nvO (g : IG) (hn vn : Nat) (hd wt : Int32) : Nat := if (nvM g hn vn hd wt).1 < 0 then vn else vn + 1
theorem nvM_cases {g : IG} {hn vn : Nat} {hd wt : Int32} : (∃ c : Int32, c < 0 ∧ nvM g hn vn hd wt = (c, g)) ∨ (¬ nI vn = 8 ∧ nvM g hn vn hd wt = (nI vn, up2 (up2 (up2 (up2 g 99 vn hd) 100 vn (wt / 10)) 101 vn (wt - wt / 10 * 10)) 88 19 (nI (vn + 1)))) := by
  unfold nvM
  by_cases h1 : inI (nI hn) hd = 0
  · exact Or.inl ⟨-2, by decide, if_pos h1⟩
  rw [if_neg h1]
  by_cases h2 : inX 0 203 wt = 0
  · exact Or.inl ⟨-2, by decide, if_pos h2⟩
  rw [if_neg h2]
  by_cases h3 : ¬ wt - wt / 10 * 10 < 4
  · exact Or.inl ⟨-2, by decide, if_pos h3⟩
  rw [if_neg h3]
  by_cases h4 : nI vn = 8
  · exact Or.inl ⟨-4, by decide, if_pos h4⟩
  · exact Or.inr ⟨h4, if_neg h4⟩
theorem nvM_vn {g : IG} {hn vn : Nat} {hd wt : Int32} (hv : vn ≤ 8) (h19 : g 88 19 = nI vn) : nvO g hn vn hd wt ≤ 8 ∧ (nvM g hn vn hd wt).2 88 19 = nI (nvO g hn vn hd wt) := by
  unfold nvO
  rcases nvM_cases (g := g) (hn := hn) (vn := vn) (hd := hd) (wt := wt) with ⟨c, hc, e⟩ | ⟨h4, e⟩
  · rw [e, if_pos hc]
    exact ⟨hv, h19⟩
  · have h8 : vn < 8 := lt_ne (b := 8) hv (by omega) h4
    rw [e, if_neg (nI_pos (by omega))]
    refine ⟨by omega, ?_⟩
    dsimp only
    rw [up2_s]
theorem nvM_fr {g : IG} {hn vn : Nat} {hd wt : Int32} {i k : Nat} (h : ¬ (i = 99 ∨ i = 100 ∨ i = 101 ∨ (i = 88 ∧ k = 19))) : (nvM g hn vn hd wt).2 i k = g i k := by
  rcases nvM_cases (g := g) (hn := hn) (vn := vn) (hd := hd) (wt := wt) with ⟨c, hc, e⟩ | ⟨h4, e⟩
  · rw [e]
  · rw [e]
    dsimp only
    rw [up2_n _ _ (by omega), up2_n _ _ (by omega), up2_n _ _ (by omega), up2_n _ _ (by omega)]
/-- n visits out of a row, two by two: what is answered, the ints then -/
def vsM (hn : Nat) (row : Nat → Int32) (sz : Nat) (fr : Int32) : Nat → Nat → Int32 → IG → Nat → Int32 × IG
  | 0, _, ca, g, _ => (ca, g)
  | n + 1, k, ca, g, vn => if fr < 0 then (-12, g) else if fr ≤ nI sz - nI (2 * k) - 2 then
      vsM hn row sz fr n (k + 1) (if (nvM g hn vn (row (clI fr + 2 * k)) (row (clI fr + 2 * k + 1))).1 < 0 then ca + 0 else ca + 1) (nvM g hn vn (row (clI fr + 2 * k)) (row (clI fr + 2 * k + 1))).2 (nvO g hn vn (row (clI fr + 2 * k)) (row (clI fr + 2 * k + 1)))
    else (-12, g)
theorem vsM_s {hn : Nat} {row : Nat → Int32} {sz : Nat} {fr : Int32} {n k : Nat} {ca : Int32} {g : IG} {vn : Nat} : vsM hn row sz fr (n + 1) k ca g vn = if fr < 0 then (-12, g) else if fr ≤ nI sz - nI (2 * k) - 2 then
      vsM hn row sz fr n (k + 1) (if (nvM g hn vn (row (clI fr + 2 * k)) (row (clI fr + 2 * k + 1))).1 < 0 then ca + 0 else ca + 1) (nvM g hn vn (row (clI fr + 2 * k)) (row (clI fr + 2 * k + 1))).2 (nvO g hn vn (row (clI fr + 2 * k)) (row (clI fr + 2 * k + 1)))
    else (-12, g) := rfl
theorem le_neg40 : ∀ sz, sz < 41 → ∀ k, k < 8 → sz < 2 * k + 2 → nI sz - nI (2 * k) - 2 < 0 := by decide +kernel
theorem le_sub {a sz k : Nat} (hsz : sz ≤ 40) (hk : k < 8) (ha : a < 2 ^ 31) : nI a ≤ nI sz - nI (2 * k) - 2 ↔ a + 2 * k + 2 ≤ sz := by
  by_cases h : 2 * k + 2 ≤ sz
  · rw [pk_sub (a := sz) (b := 2 * k) (by omega), show (2 : Int32) = nI 2 from rfl, pk_sub (a := sz - 2 * k) (b := 2) (by omega), nI_leI ha (by omega)]
    omega
  · refine ⟨fun q => ?_, fun q => by omega⟩
    have h1 := le_neg40 sz (by omega) k hk (by omega)
    exact absurd (Int32.lt_of_le_of_lt q h1) (nI_pos ha)

set_option maxHeartbeats 1000000 in
set_option maxRecDepth 20000 in
theorem visits_loopM {l : Launch} {E : Ev} {Z : ZT} {o : Option Nat} {p : Program} {e : Env} {s : State} {m : MethodId} {args : Array Value} {below : List Frame} {meth : Method} {c : Code} {z : Int64} {hn t sz n : Nat} (hhn : hn ≤ 5) (ht : t < 4) (hsz : sz ≤ 40) (hn8 : n ≤ 8) {row : Nat → Int32} (fr x2 : Int32) (cx : Cx p s m args meth c E 115 cX6_visits 8 yX6_visits.cls (some .int)) : ∀ (j k : Nat) (ca : Int32) (G : IG) (vn : Nat), k + j = n → G 113 t = nI sz → (∀ q, G 114 (40 * t + q) = row q) → vn ≤ 8 → G 88 15 = nI hn → G 88 19 = nI vn → Z (some (.int (vsM hn row sz fr j k ca G vn).1)) (vsM hn row sz fr j k ca G vn).2 (RFo o) z → Go p l e (rmd 4) s m args below meth c E 115 8 Z G (RFo o) z 75 [(6, .int (nI k)), (5, .int ca), (0, .ref (E.2.1 88)), (1, .int (nI t)), (2, .int x2), (3, .int fr), (4, .int (nI n))] [] := by
  intro j
  induction j with
  | zero =>
    intro k ca G vn hk h113 hrow hv8 h15 h19 hZ
    have hu : k = n := by omega
    subst hu
    refine go_iload (pc' := 77) cx dX6_visits_75 rfl rfl ?_
    refine go_iload (pc' := 79) cx dX6_visits_77 rfl rfl ?_
    refine go_icmp_ge (pc' := 82) cx 158 dX6_visits_79 rfl rfl (fun _ => ?_) (fun hh9 => absurd (Int32.le_refl _) hh9)
    refine go_iload (pc' := 160) cx dX6_visits_158 rfl rfl ?_
    refine go_iret cx rfl dX6_visits_160 ?_
    exact hZ
  | succ j ih =>
    intro k ca G vn hk h113 hrow hv8 h15 h19 hZ
    refine go_iload (pc' := 77) cx dX6_visits_75 rfl rfl ?_
    refine go_iload (pc' := 79) cx dX6_visits_77 rfl rfl ?_
    refine go_icmp_ge (pc' := 82) cx 158 dX6_visits_79 rfl rfl (fun hh9 => absurd ((nI_leI (a := n) (b := k) (by omega) (by omega)).mp hh9) (by omega)) (fun _ => ?_)
    refine go_iload_n (pc' := 83) cx dX6_visits_82 rfl rfl ?_
    refine go_if_lt (pc' := 86) cx 103 dX6_visits_83 rfl rfl (fun c83 => ?_) (fun c83 => ?_)
    · have c83n := Int32.not_le.mpr c83
      refine go_bipush (pc' := 105) cx (-12) dX6_visits_103 rfl rfl ?_
      refine go_iret cx rfl dX6_visits_105 ?_
      have h9 : vsM hn row sz fr (j + 1) k ca G vn = (-12, G) := by
        rw [vsM_s, if_pos c83]
      rw [h9] at hZ
      exact hZ
    · have c83n := Int32.not_lt.mp c83
      refine go_iload_n (pc' := 87) cx dX6_visits_86 rfl rfl ?_
      refine go_aload_n (pc' := 88) cx dX6_visits_87 rfl rfl ?_
      refine go_getr (pc' := 91) cx 113 fX6_93 dX6_visits_88 kq88 (ltn rfl) (ltn rfl) rfl rfl rfl ?_
      refine go_iload_n (pc' := 92) cx dX6_visits_91 rfl rfl ?_
      refine go_iald (pc' := 93) cx (nI sz) dX6_visits_92 kq113 (ltn rfl) (vpi (k := t) (a := 4) ht rfl rfl) ((congrArg (G 113) (cli (k := t) (a := 4) ht rfl)).trans h113) rfl ?_
      refine go_iconst (pc' := 94) cx 2 dX6_visits_93 rfl rfl ?_
      refine go_iload (pc' := 96) cx dX6_visits_94 rfl rfl ?_
      refine go_imul (pc' := 97) cx dX6_visits_96 rfl ?_
      refine go_val (w := .int (nI (2 * k))) (congrArg Value.int (pk_mul 2 k)) ?_
      refine go_isub (pc' := 98) cx dX6_visits_97 rfl ?_
      refine go_iconst (pc' := 99) cx 2 dX6_visits_98 rfl rfl ?_
      refine go_isub (pc' := 100) cx dX6_visits_99 rfl ?_
      refine go_icmp_le (pc' := 103) cx 106 dX6_visits_100 rfl rfl (fun c100 => ?_) (fun c100 => ?_)
      · have c100n := Int32.not_lt.mpr c100
        obtain ⟨a, ha, ea⟩ := nI_of c83
        subst ea
        have hak : a + 2 * k + 2 ≤ sz := (le_sub hsz (by omega) ha).mp c100
        have hcl : clI (nI a) = a := clI_n ha
        refine go_bipush (pc' := 108) cx 40 dX6_visits_106 rfl rfl ?_
        refine go_iload_n (pc' := 109) cx dX6_visits_108 rfl rfl ?_
        refine go_imul (pc' := 110) cx dX6_visits_109 rfl ?_
        refine go_val (w := .int (nI (40 * t))) (congrArg Value.int (pk_mul 40 t)) ?_
        refine go_iload_n (pc' := 111) cx dX6_visits_110 rfl rfl ?_
        refine go_iadd (pc' := 112) cx dX6_visits_111 rfl ?_
        refine go_val (w := .int (nI ((40 * t) + a))) (congrArg Value.int (nI_add (40 * t) a)) ?_
        refine go_iconst (pc' := 113) cx 2 dX6_visits_112 rfl rfl ?_
        refine go_iload (pc' := 115) cx dX6_visits_113 rfl rfl ?_
        refine go_imul (pc' := 116) cx dX6_visits_115 rfl ?_
        refine go_val (w := .int (nI (2 * k))) (congrArg Value.int (pk_mul 2 k)) ?_
        refine go_iadd (pc' := 117) cx dX6_visits_116 rfl ?_
        refine go_val (w := .int (nI (((40 * t) + a) + (2 * k)))) (congrArg Value.int (nI_add ((40 * t) + a) (2 * k))) ?_
        refine go_istore (pc' := 119) cx dX6_visits_117 (ltn rfl) [(7, .int (nI (((40 * t) + a) + (2 * k)))), (6, .int (nI k)), (5, .int ca), (0, .ref (E.2.1 88)), (1, .int (nI t)), (2, .int x2), (3, .int (nI a)), (4, .int (nI n))] rfl rfl ?_
        refine go_iload (pc' := 121) cx dX6_visits_119 rfl rfl ?_
        refine go_aload_n (pc' := 122) cx dX6_visits_121 rfl rfl ?_
        refine go_aload_n (pc' := 123) cx dX6_visits_122 rfl rfl ?_
        refine go_getr (pc' := 126) cx 114 fX6_96 dX6_visits_123 kq88 (ltn rfl) (ltn rfl) rfl rfl rfl ?_
        refine go_iload (pc' := 128) cx dX6_visits_126 rfl rfl ?_
        refine go_iald (pc' := 129) cx (row (a + 2 * k)) dX6_visits_128 kq114 (ltn rfl) (vpi (k := (((40 * t) + a) + (2 * k))) (a := 160) (by omega) rfl rfl) ((congrArg (G 114) (Eq.trans (cli (k := (((40 * t) + a) + (2 * k))) (a := 160) (by omega) rfl) (by omega : ((40 * t) + a) + (2 * k) = 40 * t + (a + 2 * k)))).trans (hrow (a + 2 * k))) rfl ?_
        refine go_aload_n (pc' := 130) cx dX6_visits_129 rfl rfl ?_
        refine go_getr (pc' := 133) cx 114 fX6_96 dX6_visits_130 kq88 (ltn rfl) (ltn rfl) rfl rfl rfl ?_
        refine go_iload (pc' := 135) cx dX6_visits_133 rfl rfl ?_
        refine go_iconst (pc' := 136) cx 1 dX6_visits_135 rfl rfl ?_
        refine go_iadd (pc' := 137) cx dX6_visits_136 rfl ?_
        refine go_val (w := .int (nI ((((40 * t) + a) + (2 * k)) + 1))) (congrArg Value.int (nI_add (((40 * t) + a) + (2 * k)) 1)) ?_
        refine go_iald (pc' := 138) cx (row (a + 2 * k + 1)) dX6_visits_137 kq114 (ltn rfl) (vpi (k := ((((40 * t) + a) + (2 * k)) + 1)) (a := 160) (by omega) rfl rfl) ((congrArg (G 114) (Eq.trans (cli (k := ((((40 * t) + a) + (2 * k)) + 1)) (a := 160) (by omega) rfl) (by omega : (((40 * t) + a) + (2 * k)) + 1 = 40 * t + (a + 2 * k + 1)))).trans (hrow (a + 2 * k + 1))) rfl ?_
        refine go_cVi (pc' := 141) cx (c_X6_visit l E (g := G) hhn hv8 h15 h19 (row (a + 2 * k)) (row (a + 2 * k + 1))) mX6_visit lX6_465 dX6_visits_138 kq88 (ltn rfl) (ltn rfl) rfl rfl rfl rfl (ltn rfl) (Nat.le_of_ble_eq_true rfl) (Nat.le_of_ble_eq_true rfl) rfl ?_
        refine go_if_lt (pc' := 144) cx 148 dX6_visits_141 rfl rfl (fun c141 => ?_) (fun c141 => ?_)
        · have c141n := Int32.not_le.mpr c141
          refine go_iconst (pc' := 149) cx 0 dX6_visits_148 rfl rfl ?_
          refine go_iadd (pc' := 150) cx dX6_visits_149 rfl ?_
          refine go_istore (pc' := 152) cx dX6_visits_150 (ltn rfl) [(5, .int (ca + 0)), (7, .int (nI (((40 * t) + a) + (2 * k)))), (6, .int (nI k)), (0, .ref (E.2.1 88)), (1, .int (nI t)), (2, .int x2), (3, .int (nI a)), (4, .int (nI n))] rfl rfl ?_
          refine go_iinc (pc' := 155) cx (nI (k + 1)) dX6_visits_152 rfl (nI_1 k) (ltn rfl) [(6, .int (nI (k + 1))), (5, .int (ca + 0)), (7, .int (nI (((40 * t) + a) + (2 * k)))), (0, .ref (E.2.1 88)), (1, .int (nI t)), (2, .int x2), (3, .int (nI a)), (4, .int (nI n))] rfl rfl ?_
          refine go_goto cx 75 dX6_visits_155 rfl ?_
          have h9 : vsM hn row sz (nI a) (j + 1) k ca G vn = vsM hn row sz (nI a) j (k + 1) (ca + 0) (nvM G hn vn (row (a + 2 * k)) (row (a + 2 * k + 1))).2 (nvO G hn vn (row (a + 2 * k)) (row (a + 2 * k + 1))) := by
            rw [vsM_s, if_neg c83, if_pos c100, hcl]
            first | rw [if_pos c141] | rw [if_neg c141]
          rw [h9] at hZ
          refine go_sub [0, 1, 3, 4, 5, 6, 7] [(6, .int (nI (k + 1))), (5, .int (ca + 0)), (0, .ref (E.2.1 88)), (1, .int (nI t)), (2, .int x2), (3, .int (nI a)), (4, .int (nI n))] rfl ?_
          obtain ⟨n1, n2⟩ := nvM_vn (g := G) (hn := hn) (vn := vn) (hd := row (a + 2 * k)) (wt := row (a + 2 * k + 1)) hv8 h19
          exact ih (k + 1) _ _ _ (by omega) ((nvM_fr (by omega)).trans h113) (fun q => (nvM_fr (by omega)).trans (hrow q)) n1 ((nvM_fr (by omega)).trans h15) n2 hZ
        · have c141n := Int32.not_lt.mp c141
          refine go_iconst (pc' := 145) cx 1 dX6_visits_144 rfl rfl ?_
          refine go_goto cx 149 dX6_visits_145 rfl ?_
          refine go_iadd (pc' := 150) cx dX6_visits_149 rfl ?_
          refine go_istore (pc' := 152) cx dX6_visits_150 (ltn rfl) [(5, .int (ca + 1)), (7, .int (nI (((40 * t) + a) + (2 * k)))), (6, .int (nI k)), (0, .ref (E.2.1 88)), (1, .int (nI t)), (2, .int x2), (3, .int (nI a)), (4, .int (nI n))] rfl rfl ?_
          refine go_iinc (pc' := 155) cx (nI (k + 1)) dX6_visits_152 rfl (nI_1 k) (ltn rfl) [(6, .int (nI (k + 1))), (5, .int (ca + 1)), (7, .int (nI (((40 * t) + a) + (2 * k)))), (0, .ref (E.2.1 88)), (1, .int (nI t)), (2, .int x2), (3, .int (nI a)), (4, .int (nI n))] rfl rfl ?_
          refine go_goto cx 75 dX6_visits_155 rfl ?_
          have h9 : vsM hn row sz (nI a) (j + 1) k ca G vn = vsM hn row sz (nI a) j (k + 1) (ca + 1) (nvM G hn vn (row (a + 2 * k)) (row (a + 2 * k + 1))).2 (nvO G hn vn (row (a + 2 * k)) (row (a + 2 * k + 1))) := by
            rw [vsM_s, if_neg c83, if_pos c100, hcl]
            first | rw [if_pos c141] | rw [if_neg c141]
          rw [h9] at hZ
          refine go_sub [0, 1, 3, 4, 5, 6, 7] [(6, .int (nI (k + 1))), (5, .int (ca + 1)), (0, .ref (E.2.1 88)), (1, .int (nI t)), (2, .int x2), (3, .int (nI a)), (4, .int (nI n))] rfl ?_
          obtain ⟨n1, n2⟩ := nvM_vn (g := G) (hn := hn) (vn := vn) (hd := row (a + 2 * k)) (wt := row (a + 2 * k + 1)) hv8 h19
          exact ih (k + 1) _ _ _ (by omega) ((nvM_fr (by omega)).trans h113) (fun q => (nvM_fr (by omega)).trans (hrow q)) n1 ((nvM_fr (by omega)).trans h15) n2 hZ
      · have c100n := Int32.not_le.mp c100
        refine go_bipush (pc' := 105) cx (-12) dX6_visits_103 rfl rfl ?_
        refine go_iret cx rfl dX6_visits_105 ?_
        have h9 : vsM hn row sz fr (j + 1) k ca G vn = (-12, G) := by
          rw [vsM_s, if_neg c83, if_neg c100]
        rw [h9] at hZ
        exact hZ

set_option maxHeartbeats 1000000 in
set_option maxRecDepth 20000 in
theorem c_X6_visits (l : Launch) (E : Ev) {g : IG} {o : Option Nat} {z : Int64} {hn vn : Nat} (hhn : hn ≤ 5) (hvn : vn ≤ 8) (h15 : g 88 15 = nI hn) (h19 : g 88 19 = nI vn) (hS : ShMX g) (x1 x2 x3 x4 : Int32) : Ct l E 115 yX6_visits cX6_visits 8 (some .int) 4 [.ref (E.2.1 88), .int x1, .int x2, .int x3, .int x4] g (RFo o) z (ZI (RFo o) z (fun x g1 => ((inI 4 x1 = 0 ∨ inX 0 2 x2 = 0 ∨ inX 0 8 x4 = 0) ∧ x = -2 ∧ g1 = g) ∨ ∃ t n, t < 4 ∧ n ≤ 8 ∧ x1 = nI t ∧ x4 = nI n ∧ ¬ inX 0 2 x2 = 0 ∧ ((g 111 t = 0 ∧ x = -11 ∧ g1 = g) ∨ (¬ g 111 t = 0 ∧ ((¬ g 112 t = x2 ∧ x = -13 ∧ g1 = g) ∨ (g 112 t = x2 ∧ ∃ sz, sz ≤ 40 ∧ g 113 t = nI sz ∧ x = (vsM hn (fun q => g 114 (40 * t + q)) sz x3 n 0 0 g vn).1 ∧ g1 = (vsM hn (fun q => g 114 (40 * t + q)) sz x3 n 0 0 g vn).2)))))) := by
  refine Ct.of (lv0 := [(0, .ref (E.2.1 88)), (1, .int x1), (2, .int x2), (3, .int x3), (4, .int x4)]) (by decide) (Nat.le_of_ble_eq_true rfl) rfl ?_
  intro p e s m below meth c cx
  refine go_iload_n (pc' := 1) cx dX6_visits_0 rfl rfl ?_
  refine go_cSi (pc' := 4) cx (c_X6_isSheet l E (g := g) x1) mX6_isSheet lX6_435 dX6_visits_1 rfl rfl rfl (ltn rfl) (Nat.le_of_ble_eq_true rfl) (Nat.le_of_ble_eq_true rfl) rfl ?_
  refine go_if_eq (pc' := 7) cx 32 dX6_visits_4 rfl rfl (fun c4 => ?_) (fun c4 => ?_)
  · refine go_bipush (pc' := 34) cx (-2) dX6_visits_32 rfl rfl ?_
    refine go_iret cx rfl dX6_visits_34 ?_
    exact ZI.mk (Or.inl ⟨Or.inl c4, rfl, rfl⟩)
  · refine go_iload_n (pc' := 8) cx dX6_visits_7 rfl rfl ?_
    refine go_i2l (pc' := 9) cx dX6_visits_8 rfl ?_
    refine go_lconst (pc' := 10) cx 0 dX6_visits_9 rfl rfl ?_
    refine go_val (w := .long (((0 : Int32)).toInt64)) (congrArg Value.long (by decide)) ?_
    refine go_ldc2 (pc' := 13) cx 2 kX6_461 dX6_visits_10 rfl ?_
    refine go_val (w := .long (((2 : Int32)).toInt64)) (congrArg Value.long (by decide)) ?_
    refine go_cSi (pc' := 16) cx (c_X6_in l E (g := g) x2 (0 : Int32) (2 : Int32)) mX6_in lX6_108 dX6_visits_13 rfl rfl rfl (ltn rfl) (Nat.le_of_ble_eq_true rfl) (Nat.le_of_ble_eq_true rfl) rfl ?_
    refine go_if_eq (pc' := 19) cx 32 dX6_visits_16 rfl rfl (fun c16 => ?_) (fun c16 => ?_)
    · refine go_bipush (pc' := 34) cx (-2) dX6_visits_32 rfl rfl ?_
      refine go_iret cx rfl dX6_visits_34 ?_
      exact ZI.mk (Or.inl ⟨Or.inr (Or.inl c16), rfl, rfl⟩)
    · refine go_iload (pc' := 21) cx dX6_visits_19 rfl rfl ?_
      refine go_i2l (pc' := 22) cx dX6_visits_21 rfl ?_
      refine go_lconst (pc' := 23) cx 0 dX6_visits_22 rfl rfl ?_
      refine go_val (w := .long (((0 : Int32)).toInt64)) (congrArg Value.long (by decide)) ?_
      refine go_ldc2 (pc' := 26) cx 8 kX6_463 dX6_visits_23 rfl ?_
      refine go_val (w := .long (((8 : Int32)).toInt64)) (congrArg Value.long (by decide)) ?_
      refine go_cSi (pc' := 29) cx (c_X6_in l E (g := g) x4 (0 : Int32) (8 : Int32)) mX6_in lX6_108 dX6_visits_26 rfl rfl rfl (ltn rfl) (Nat.le_of_ble_eq_true rfl) (Nat.le_of_ble_eq_true rfl) rfl ?_
      refine go_if_ne (pc' := 32) cx 35 dX6_visits_29 rfl rfl (fun c29 => ?_) (fun c29 => ?_)
      · obtain ⟨t, ht, et⟩ := in_ok (k := 4) (by omega) c4
        subst et
        have clt := clI_n (k := t) (by omega)
        obtain ⟨q1, q2⟩ := inX_ng c29
        obtain ⟨n, hj9, en9⟩ := nI_of q1
        subst en9
        have hn8 : n ≤ 8 := by
          rcases Nat.lt_or_ge 8 n with q | q
          · exact absurd ((nI_ltI (a := 8) (by omega) hj9).mpr q) q2
          · exact q
        refine go_aload_n (pc' := 36) cx dX6_visits_35 rfl rfl ?_
        refine go_getr (pc' := 39) cx 111 fX6_86 dX6_visits_36 kq88 (ltn rfl) (ltn rfl) rfl rfl rfl ?_
        refine go_iload_n (pc' := 40) cx dX6_visits_39 rfl rfl ?_
        refine go_zald (pc' := 41) cx (g 111 t) dX6_visits_40 kq111 (ltn rfl) (vpi (k := t) (a := 4) ht rfl rfl) (congrArg (g 111) (cli (k := t) (a := 4) ht rfl)) rfl ?_
        refine go_if_eq (pc' := 44) cx 57 dX6_visits_41 rfl rfl (fun c41 => ?_) (fun c41 => ?_)
        · refine go_aload_n (pc' := 58) cx dX6_visits_57 rfl rfl ?_
          refine go_getr (pc' := 61) cx 111 fX6_86 dX6_visits_58 kq88 (ltn rfl) (ltn rfl) rfl rfl rfl ?_
          refine go_iload_n (pc' := 62) cx dX6_visits_61 rfl rfl ?_
          refine go_zald (pc' := 63) cx (g 111 t) dX6_visits_62 kq111 (ltn rfl) (vpi (k := t) (a := 4) ht rfl rfl) (congrArg (g 111) (cli (k := t) (a := 4) ht rfl)) rfl ?_
          refine go_if_ne (pc' := 66) cx 69 dX6_visits_63 rfl rfl (fun hh9 => absurd c41 hh9) (fun _ => ?_)
          refine go_bipush (pc' := 68) cx (-11) dX6_visits_66 rfl rfl ?_
          refine go_iret cx rfl dX6_visits_68 ?_
          exact ZI.mk (Or.inr ⟨t, n, ht, hn8, rfl, rfl, c16, Or.inl ⟨c41, rfl, rfl⟩⟩)
        · refine go_aload_n (pc' := 45) cx dX6_visits_44 rfl rfl ?_
          refine go_getr (pc' := 48) cx 112 fX6_90 dX6_visits_45 kq88 (ltn rfl) (ltn rfl) rfl rfl rfl ?_
          refine go_iload_n (pc' := 49) cx dX6_visits_48 rfl rfl ?_
          refine go_iald (pc' := 50) cx (g 112 t) dX6_visits_49 kq112 (ltn rfl) (vpi (k := t) (a := 4) ht rfl rfl) (congrArg (g 112) (cli (k := t) (a := 4) ht rfl)) rfl ?_
          refine go_iload_n (pc' := 51) cx dX6_visits_50 rfl rfl ?_
          refine go_icmp_eq (pc' := 54) cx 57 dX6_visits_51 rfl rfl (fun c51 => ?_) (fun c51 => ?_)
          · refine go_aload_n (pc' := 58) cx dX6_visits_57 rfl rfl ?_
            refine go_getr (pc' := 61) cx 111 fX6_86 dX6_visits_58 kq88 (ltn rfl) (ltn rfl) rfl rfl rfl ?_
            refine go_iload_n (pc' := 62) cx dX6_visits_61 rfl rfl ?_
            refine go_zald (pc' := 63) cx (g 111 t) dX6_visits_62 kq111 (ltn rfl) (vpi (k := t) (a := 4) ht rfl rfl) (congrArg (g 111) (cli (k := t) (a := 4) ht rfl)) rfl ?_
            refine go_if_ne (pc' := 66) cx 69 dX6_visits_63 rfl rfl (fun _ => ?_) (fun hh9 => absurd hh9 c41)
            obtain ⟨sz, hsz, h113⟩ := hS t ht c41
            refine go_iconst (pc' := 70) cx 0 dX6_visits_69 rfl rfl ?_
            refine go_istore (pc' := 72) cx dX6_visits_70 (ltn rfl) [(5, .int 0), (0, .ref (E.2.1 88)), (1, .int (nI t)), (2, .int x2), (3, .int x3), (4, .int (nI n))] rfl rfl ?_
            refine go_iconst (pc' := 73) cx 0 dX6_visits_72 rfl rfl ?_
            refine go_istore (pc' := 75) cx dX6_visits_73 (ltn rfl) [(6, .int 0), (5, .int 0), (0, .ref (E.2.1 88)), (1, .int (nI t)), (2, .int x2), (3, .int x3), (4, .int (nI n))] rfl rfl ?_
            refine go_sub [0, 1, 2, 3, 4, 5, 6] [(6, .int (nI 0)), (5, .int 0), (0, .ref (E.2.1 88)), (1, .int (nI t)), (2, .int x2), (3, .int x3), (4, .int (nI n))] rfl ?_
            exact visits_loopM (t := t) (sz := sz) (row := fun q => g 114 (40 * t + q)) hhn ht hsz hn8 x3 x2 cx n 0 0 g vn (Nat.zero_add n) h113 (fun q => rfl) hvn h15 h19 (ZI.mk (Or.inr ⟨t, n, ht, hn8, rfl, rfl, c16, Or.inr ⟨c41, Or.inr ⟨c51, sz, hsz, h113, rfl, rfl⟩⟩⟩))
          · refine go_bipush (pc' := 56) cx (-13) dX6_visits_54 rfl rfl ?_
            refine go_iret cx rfl dX6_visits_56 ?_
            exact ZI.mk (Or.inr ⟨t, n, ht, hn8, rfl, rfl, c16, Or.inr ⟨c41, Or.inl ⟨c51, rfl, rfl⟩⟩⟩)
      · refine go_bipush (pc' := 34) cx (-2) dX6_visits_32 rfl rfl ?_
        refine go_iret cx rfl dX6_visits_34 ?_
        exact ZI.mk (Or.inl ⟨Or.inr (Or.inr c29), rfl, rfl⟩)
