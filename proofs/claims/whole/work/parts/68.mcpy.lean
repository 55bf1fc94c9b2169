/-! THE REFERENCE: numbers come from one sheet to another -/
theorem sub_neg {a b : Nat} (h : a < b) (ha : a ≤ 40) (hb : b < 2 ^ 31) : nI a - nI b < 0 := by
  have e : (nI a - nI b).toInt = (a : Int) - (b : Int) := by
    rw [Int32.toInt_sub, nI_toInt (by omega), nI_toInt hb]
    exact Int.bmod_eq_of_le (by omega) (by omega)
  rw [Int32.lt_iff_toInt_lt, e]
  show (a : Int) - (b : Int) < 0
  omega
theorem le_sub2 {a k sz : Nat} (hsz : sz ≤ 40) (ha : a < 2 ^ 31) (hk : k < 2 ^ 31) : nI a ≤ nI sz - nI k ↔ a + k ≤ sz := by
  by_cases h : k ≤ sz
  · rw [pk_sub h, nI_leI ha (by omega)]
    omega
  · refine ⟨fun q => ?_, fun q => by omega⟩
    exact absurd (Int32.lt_of_le_of_lt q (sub_neg (by omega) hsz hk)) (nI_pos ha)

set_option maxHeartbeats 1000000 in
set_option maxRecDepth 20000 in
theorem copy_loopM0 {l : Launch} {E : Ev} {Z : ZT} {o : Option Nat} {p : Program} {e : Env} {s : State} {m : MethodId} {args : Array Value} {below : List Frame} {meth : Method} {c : Code} {g : IG} {z : Int64} {t u a b n9 : Nat} (ht : t < 4) (hu : u < 4) (ha : a + n9 ≤ 40) (hb : b + n9 ≤ 40) (hd : t ≠ u ∨ b ≤ a) (cx : Cx p s m args meth c E 115 cX6_copy 9 yX6_copy.cls (some .int)) : ∀ (k j : Nat) (G : IG), j + k = n9 → (∀ i q, ¬ (i = 114 ∧ 40 * u + b ≤ q ∧ q < 40 * u + b + j) → G i q = g i q) → (∀ q, q < j → G 114 (40 * u + b + q) = g 114 (40 * t + a + q)) → (∀ (G9 : IG), (∀ i q, ¬ (i = 114 ∧ 40 * u + b ≤ q ∧ q < 40 * u + b + n9) → G9 i q = g i q) → (∀ q, q < n9 → G9 114 (40 * u + b + q) = g 114 (40 * t + a + q)) → Z (some (.int (nI n9))) G9 (RFo o) z) → Go p l e (rmd 3) s m args below meth c E 115 9 Z G (RFo o) z 121 [(7, .int (nI j)), (6, .int 0), (0, .ref (E.2.1 88)), (1, .int (nI t)), (2, .int (nI a)), (3, .int (nI u)), (4, .int (nI b)), (5, .int (nI n9))] [] := by
  intro k
  induction k with
  | zero =>
    intro j G hk hF hC hZ
    have hj : j = n9 := by omega
    subst hj
    refine go_iload (pc' := 123) cx dX6_copy_121 rfl rfl ?_
    refine go_iload (pc' := 125) cx dX6_copy_123 rfl rfl ?_
    refine go_icmp_ge (pc' := 128) cx 182 dX6_copy_125 rfl rfl (fun _ => ?_) (fun hh9 => absurd (Int32.le_refl _) hh9)
    refine go_iload (pc' := 184) cx dX6_copy_182 rfl rfl ?_
    refine go_iret cx rfl dX6_copy_184 ?_
    exact hZ G (fun i q h9 => hF i q (by omega)) (fun q h9 => hC q h9)
  | succ k ih =>
    intro j G hk hF hC hZ
    refine go_iload (pc' := 123) cx dX6_copy_121 rfl rfl ?_
    refine go_iload (pc' := 125) cx dX6_copy_123 rfl rfl ?_
    refine go_icmp_ge (pc' := 128) cx 182 dX6_copy_125 rfl rfl (fun hh9 => absurd ((nI_leI (a := n9) (b := j) (by omega) (by omega)).mp hh9) (by omega)) (fun _ => ?_)
    refine go_iload (pc' := 130) cx dX6_copy_128 rfl rfl ?_
    refine go_if_eq (pc' := 133) cx 143 dX6_copy_130 rfl rfl (fun _ => ?_) (fun hh => absurd hh (by decide))
    refine go_iload (pc' := 145) cx dX6_copy_143 rfl rfl ?_
    refine go_istore (pc' := 147) cx dX6_copy_145 (ltn rfl) [(8, .int (nI j)), (7, .int (nI j)), (6, .int 0), (0, .ref (E.2.1 88)), (1, .int (nI t)), (2, .int (nI a)), (3, .int (nI u)), (4, .int (nI b)), (5, .int (nI n9))] rfl rfl ?_
    refine go_aload_n (pc' := 148) cx dX6_copy_147 rfl rfl ?_
    refine go_getr (pc' := 151) cx 114 fX6_96 dX6_copy_148 kq88 (ltn rfl) (ltn rfl) rfl rfl rfl ?_
    refine go_bipush (pc' := 153) cx 40 dX6_copy_151 rfl rfl ?_
    refine go_iload_n (pc' := 154) cx dX6_copy_153 rfl rfl ?_
    refine go_imul (pc' := 155) cx dX6_copy_154 rfl ?_
    refine go_val (w := .int (nI (40 * u))) (congrArg Value.int (pk_mul 40 u)) ?_
    refine go_iload (pc' := 157) cx dX6_copy_155 rfl rfl ?_
    refine go_iadd (pc' := 158) cx dX6_copy_157 rfl ?_
    refine go_val (w := .int (nI ((40 * u) + b))) (congrArg Value.int (nI_add (40 * u) b)) ?_
    refine go_iload (pc' := 160) cx dX6_copy_158 rfl rfl ?_
    refine go_iadd (pc' := 161) cx dX6_copy_160 rfl ?_
    refine go_val (w := .int (nI (((40 * u) + b) + j))) (congrArg Value.int (nI_add ((40 * u) + b) j)) ?_
    refine go_aload_n (pc' := 162) cx dX6_copy_161 rfl rfl ?_
    refine go_getr (pc' := 165) cx 114 fX6_96 dX6_copy_162 kq88 (ltn rfl) (ltn rfl) rfl rfl rfl ?_
    refine go_bipush (pc' := 167) cx 40 dX6_copy_165 rfl rfl ?_
    refine go_iload_n (pc' := 168) cx dX6_copy_167 rfl rfl ?_
    refine go_imul (pc' := 169) cx dX6_copy_168 rfl ?_
    refine go_val (w := .int (nI (40 * t))) (congrArg Value.int (pk_mul 40 t)) ?_
    refine go_iload_n (pc' := 170) cx dX6_copy_169 rfl rfl ?_
    refine go_iadd (pc' := 171) cx dX6_copy_170 rfl ?_
    refine go_val (w := .int (nI ((40 * t) + a))) (congrArg Value.int (nI_add (40 * t) a)) ?_
    refine go_iload (pc' := 173) cx dX6_copy_171 rfl rfl ?_
    refine go_iadd (pc' := 174) cx dX6_copy_173 rfl ?_
    refine go_val (w := .int (nI (((40 * t) + a) + j))) (congrArg Value.int (nI_add ((40 * t) + a) j)) ?_
    refine go_iald (pc' := 175) cx (G 114 (((40 * t) + a) + j)) dX6_copy_174 kq114 (ltn rfl) (vpi (k := (((40 * t) + a) + j)) (a := 160) (by omega) rfl rfl) (congrArg (G 114) (cli (k := (((40 * t) + a) + j)) (a := 160) (by omega) rfl)) rfl ?_
    refine go_iastk (pc' := 176) cx (((40 * u) + b) + j) dX6_copy_175 kq114 (ltn rfl) (vpi (k := (((40 * u) + b) + j)) (a := 160) (by omega) rfl rfl) (cli (k := (((40 * u) + b) + j)) (a := 160) (by omega) rfl) rfl ?_
    refine go_iinc (pc' := 179) cx (nI (j + 1)) dX6_copy_176 rfl (nI_1 j) (ltn rfl) [(7, .int (nI (j + 1))), (8, .int (nI j)), (6, .int 0), (0, .ref (E.2.1 88)), (1, .int (nI t)), (2, .int (nI a)), (3, .int (nI u)), (4, .int (nI b)), (5, .int (nI n9))] rfl rfl ?_
    refine go_goto cx 121 dX6_copy_179 rfl ?_
    refine go_sub [0, 2, 3, 4, 5, 6, 7, 8] [(7, .int (nI (j + 1))), (6, .int 0), (0, .ref (E.2.1 88)), (1, .int (nI t)), (2, .int (nI a)), (3, .int (nI u)), (4, .int (nI b)), (5, .int (nI n9))] rfl ?_
    exact ih (j + 1) (up2 G 114 (((40 * u) + b) + j) (G 114 (((40 * t) + a) + j))) (by omega) (fun i q h9 => (up2_n _ _ (by omega)).trans (hF i q (by omega))) (fun q h9 => by
      by_cases e : q = j
      · rw [e, up2_s]
        exact hF 114 _ (by omega)
      · rw [up2_n _ _ (Or.inr (by omega))]
        exact hC q (by omega)) hZ

set_option maxHeartbeats 1000000 in
set_option maxRecDepth 20000 in
theorem copy_loopM1 {l : Launch} {E : Ev} {Z : ZT} {o : Option Nat} {p : Program} {e : Env} {s : State} {m : MethodId} {args : Array Value} {below : List Frame} {meth : Method} {c : Code} {g : IG} {z : Int64} {t u a b n9 : Nat} (ht : t < 4) (hu : u < 4) (ha : a + n9 ≤ 40) (hb : b + n9 ≤ 40) (htu : t = u) (hab : a < b) (cx : Cx p s m args meth c E 115 cX6_copy 9 yX6_copy.cls (some .int)) : ∀ (k j : Nat) (G : IG), j + k = n9 → (∀ i q, ¬ (i = 114 ∧ 40 * u + b + (n9 - j) ≤ q ∧ q < 40 * u + b + n9) → G i q = g i q) → (∀ q, n9 - j ≤ q → q < n9 → G 114 (40 * u + b + q) = g 114 (40 * t + a + q)) → (∀ (G9 : IG), (∀ i q, ¬ (i = 114 ∧ 40 * u + b ≤ q ∧ q < 40 * u + b + n9) → G9 i q = g i q) → (∀ q, q < n9 → G9 114 (40 * u + b + q) = g 114 (40 * t + a + q)) → Z (some (.int (nI n9))) G9 (RFo o) z) → Go p l e (rmd 3) s m args below meth c E 115 9 Z G (RFo o) z 121 [(7, .int (nI j)), (6, .int 1), (0, .ref (E.2.1 88)), (1, .int (nI t)), (2, .int (nI a)), (3, .int (nI u)), (4, .int (nI b)), (5, .int (nI n9))] [] := by
  intro k
  induction k with
  | zero =>
    intro j G hk hF hC hZ
    have hj : j = n9 := by omega
    subst hj
    refine go_iload (pc' := 123) cx dX6_copy_121 rfl rfl ?_
    refine go_iload (pc' := 125) cx dX6_copy_123 rfl rfl ?_
    refine go_icmp_ge (pc' := 128) cx 182 dX6_copy_125 rfl rfl (fun _ => ?_) (fun hh9 => absurd (Int32.le_refl _) hh9)
    refine go_iload (pc' := 184) cx dX6_copy_182 rfl rfl ?_
    refine go_iret cx rfl dX6_copy_184 ?_
    exact hZ G (fun i q h9 => hF i q (by omega)) (fun q h9 => hC q (by omega) h9)
  | succ k ih =>
    intro j G hk hF hC hZ
    refine go_iload (pc' := 123) cx dX6_copy_121 rfl rfl ?_
    refine go_iload (pc' := 125) cx dX6_copy_123 rfl rfl ?_
    refine go_icmp_ge (pc' := 128) cx 182 dX6_copy_125 rfl rfl (fun hh9 => absurd ((nI_leI (a := n9) (b := j) (by omega) (by omega)).mp hh9) (by omega)) (fun _ => ?_)
    refine go_iload (pc' := 130) cx dX6_copy_128 rfl rfl ?_
    refine go_if_eq (pc' := 133) cx 143 dX6_copy_130 rfl rfl (fun hh => absurd hh (by decide)) (fun _ => ?_)
    refine go_iload (pc' := 135) cx dX6_copy_133 rfl rfl ?_
    refine go_iconst (pc' := 136) cx 1 dX6_copy_135 rfl rfl ?_
    refine go_isub (pc' := 137) cx dX6_copy_136 rfl ?_
    refine go_val (w := .int (nI (n9 - 1))) (congrArg Value.int (pk_sub (a := n9) (b := 1) (by omega))) ?_
    refine go_iload (pc' := 139) cx dX6_copy_137 rfl rfl ?_
    refine go_isub (pc' := 140) cx dX6_copy_139 rfl ?_
    refine go_val (w := .int (nI ((n9 - 1) - j))) (congrArg Value.int (pk_sub (a := (n9 - 1)) (b := j) (by omega))) ?_
    refine go_goto cx 145 dX6_copy_140 rfl ?_
    refine go_istore (pc' := 147) cx dX6_copy_145 (ltn rfl) [(8, .int (nI ((n9 - 1) - j))), (7, .int (nI j)), (6, .int 1), (0, .ref (E.2.1 88)), (1, .int (nI t)), (2, .int (nI a)), (3, .int (nI u)), (4, .int (nI b)), (5, .int (nI n9))] rfl rfl ?_
    refine go_aload_n (pc' := 148) cx dX6_copy_147 rfl rfl ?_
    refine go_getr (pc' := 151) cx 114 fX6_96 dX6_copy_148 kq88 (ltn rfl) (ltn rfl) rfl rfl rfl ?_
    refine go_bipush (pc' := 153) cx 40 dX6_copy_151 rfl rfl ?_
    refine go_iload_n (pc' := 154) cx dX6_copy_153 rfl rfl ?_
    refine go_imul (pc' := 155) cx dX6_copy_154 rfl ?_
    refine go_val (w := .int (nI (40 * u))) (congrArg Value.int (pk_mul 40 u)) ?_
    refine go_iload (pc' := 157) cx dX6_copy_155 rfl rfl ?_
    refine go_iadd (pc' := 158) cx dX6_copy_157 rfl ?_
    refine go_val (w := .int (nI ((40 * u) + b))) (congrArg Value.int (nI_add (40 * u) b)) ?_
    refine go_iload (pc' := 160) cx dX6_copy_158 rfl rfl ?_
    refine go_iadd (pc' := 161) cx dX6_copy_160 rfl ?_
    refine go_val (w := .int (nI (((40 * u) + b) + ((n9 - 1) - j)))) (congrArg Value.int (nI_add ((40 * u) + b) ((n9 - 1) - j))) ?_
    refine go_aload_n (pc' := 162) cx dX6_copy_161 rfl rfl ?_
    refine go_getr (pc' := 165) cx 114 fX6_96 dX6_copy_162 kq88 (ltn rfl) (ltn rfl) rfl rfl rfl ?_
    refine go_bipush (pc' := 167) cx 40 dX6_copy_165 rfl rfl ?_
    refine go_iload_n (pc' := 168) cx dX6_copy_167 rfl rfl ?_
    refine go_imul (pc' := 169) cx dX6_copy_168 rfl ?_
    refine go_val (w := .int (nI (40 * t))) (congrArg Value.int (pk_mul 40 t)) ?_
    refine go_iload_n (pc' := 170) cx dX6_copy_169 rfl rfl ?_
    refine go_iadd (pc' := 171) cx dX6_copy_170 rfl ?_
    refine go_val (w := .int (nI ((40 * t) + a))) (congrArg Value.int (nI_add (40 * t) a)) ?_
    refine go_iload (pc' := 173) cx dX6_copy_171 rfl rfl ?_
    refine go_iadd (pc' := 174) cx dX6_copy_173 rfl ?_
    refine go_val (w := .int (nI (((40 * t) + a) + ((n9 - 1) - j)))) (congrArg Value.int (nI_add ((40 * t) + a) ((n9 - 1) - j))) ?_
    refine go_iald (pc' := 175) cx (G 114 (((40 * t) + a) + ((n9 - 1) - j))) dX6_copy_174 kq114 (ltn rfl) (vpi (k := (((40 * t) + a) + ((n9 - 1) - j))) (a := 160) (by omega) rfl rfl) (congrArg (G 114) (cli (k := (((40 * t) + a) + ((n9 - 1) - j))) (a := 160) (by omega) rfl)) rfl ?_
    refine go_iastk (pc' := 176) cx (((40 * u) + b) + ((n9 - 1) - j)) dX6_copy_175 kq114 (ltn rfl) (vpi (k := (((40 * u) + b) + ((n9 - 1) - j))) (a := 160) (by omega) rfl rfl) (cli (k := (((40 * u) + b) + ((n9 - 1) - j))) (a := 160) (by omega) rfl) rfl ?_
    refine go_iinc (pc' := 179) cx (nI (j + 1)) dX6_copy_176 rfl (nI_1 j) (ltn rfl) [(7, .int (nI (j + 1))), (8, .int (nI ((n9 - 1) - j))), (6, .int 1), (0, .ref (E.2.1 88)), (1, .int (nI t)), (2, .int (nI a)), (3, .int (nI u)), (4, .int (nI b)), (5, .int (nI n9))] rfl rfl ?_
    refine go_goto cx 121 dX6_copy_179 rfl ?_
    refine go_sub [0, 2, 3, 4, 5, 6, 7, 8] [(7, .int (nI (j + 1))), (6, .int 1), (0, .ref (E.2.1 88)), (1, .int (nI t)), (2, .int (nI a)), (3, .int (nI u)), (4, .int (nI b)), (5, .int (nI n9))] rfl ?_
    exact ih (j + 1) (up2 G 114 (((40 * u) + b) + ((n9 - 1) - j)) (G 114 (((40 * t) + a) + ((n9 - 1) - j)))) (by omega) (fun i q h9 => (up2_n _ _ (by omega)).trans (hF i q (by omega))) (fun q h8 h9 => by
      by_cases e : q = (n9 - 1 - j)
      · rw [e, up2_s]
        exact hF 114 _ (by omega)
      · rw [up2_n _ _ (Or.inr (by omega))]
        exact hC q (by omega) (by omega)) hZ

set_option maxHeartbeats 1000000 in
set_option maxRecDepth 20000 in
theorem c_X6_copy (l : Launch) (E : Ev) {g : IG} {o : Option Nat} {z : Int64} (hS : ShMX g) (x1 x2 x3 x4 x5 : Int32) : Ct l E 115 yX6_copy cX6_copy 9 (some .int) 3 [.ref (E.2.1 88), .int x1, .int x2, .int x3, .int x4, .int x5] g (RFo o) z (ZI (RFo o) z (fun x g1 => ((inI 4 x1 = 0 ∨ inI 4 x3 = 0) ∧ x = -2 ∧ g1 = g) ∨ ∃ t u, t < 4 ∧ u < 4 ∧ x1 = nI t ∧ x3 = nI u ∧ (((g 111 t = 0 ∨ g 111 u = 0) ∧ x = -11 ∧ g1 = g) ∨ (¬ g 111 t = 0 ∧ ¬ g 111 u = 0 ∧ ((¬ g 112 t = g 112 u ∧ x = -13 ∧ g1 = g) ∨ (g 112 t = g 112 u ∧ ∃ sz su, sz ≤ 40 ∧ su ≤ 40 ∧ g 113 t = nI sz ∧ g 113 u = nI su ∧ (((¬ ∃ a b k : Nat, x2 = nI a ∧ x4 = nI b ∧ x5 = nI k ∧ a + k ≤ sz ∧ b + k ≤ su) ∧ x = -12 ∧ g1 = g) ∨ ∃ a b k : Nat, x2 = nI a ∧ x4 = nI b ∧ x5 = nI k ∧ a + k ≤ sz ∧ b + k ≤ su ∧ x = nI k ∧ (∀ i q, ¬ (i = 114 ∧ 40 * u + b ≤ q ∧ q < 40 * u + b + k) → g1 i q = g i q) ∧ ∀ q, q < k → g1 114 (40 * u + b + q) = g 114 (40 * t + a + q)))))))) := by
  refine Ct.of (lv0 := [(0, .ref (E.2.1 88)), (1, .int x1), (2, .int x2), (3, .int x3), (4, .int x4), (5, .int x5)]) (by decide) (Nat.le_of_ble_eq_true rfl) rfl ?_
  intro p e s m below meth c cx
  refine go_iload_n (pc' := 1) cx dX6_copy_0 rfl rfl ?_
  refine go_cSi (pc' := 4) cx (c_X6_isSheet l E (g := g) x1) mX6_isSheet lX6_435 dX6_copy_1 rfl rfl rfl (ltn rfl) (Nat.le_of_ble_eq_true rfl) (Nat.le_of_ble_eq_true rfl) rfl ?_
  refine go_if_eq (pc' := 7) cx 14 dX6_copy_4 rfl rfl (fun c4 => ?_) (fun c4 => ?_)
  · refine go_bipush (pc' := 16) cx (-2) dX6_copy_14 rfl rfl ?_
    refine go_iret cx rfl dX6_copy_16 ?_
    exact ZI.mk (Or.inl ⟨Or.inl c4, rfl, rfl⟩)
  · refine go_iload_n (pc' := 8) cx dX6_copy_7 rfl rfl ?_
    refine go_cSi (pc' := 11) cx (c_X6_isSheet l E (g := g) x3) mX6_isSheet lX6_435 dX6_copy_8 rfl rfl rfl (ltn rfl) (Nat.le_of_ble_eq_true rfl) (Nat.le_of_ble_eq_true rfl) rfl ?_
    refine go_if_ne (pc' := 14) cx 17 dX6_copy_11 rfl rfl (fun c11 => ?_) (fun c11 => ?_)
    · obtain ⟨t, ht, et⟩ := in_ok (k := 4) (by omega) c4
      subst et
      have clt := clI_n (k := t) (by omega)
      obtain ⟨u, hu, eu⟩ := in_ok (k := 4) (by omega) c11
      subst eu
      have clu := clI_n (k := u) (by omega)
      refine go_aload_n (pc' := 18) cx dX6_copy_17 rfl rfl ?_
      refine go_getr (pc' := 21) cx 111 fX6_86 dX6_copy_18 kq88 (ltn rfl) (ltn rfl) rfl rfl rfl ?_
      refine go_iload_n (pc' := 22) cx dX6_copy_21 rfl rfl ?_
      refine go_zald (pc' := 23) cx (g 111 t) dX6_copy_22 kq111 (ltn rfl) (vpi (k := t) (a := 4) ht rfl rfl) (congrArg (g 111) (cli (k := t) (a := 4) ht rfl)) rfl ?_
      refine go_if_eq (pc' := 26) cx 35 dX6_copy_23 rfl rfl (fun c23 => ?_) (fun c23 => ?_)
      · refine go_bipush (pc' := 37) cx (-11) dX6_copy_35 rfl rfl ?_
        refine go_iret cx rfl dX6_copy_37 ?_
        exact ZI.mk (Or.inr ⟨t, u, ht, hu, rfl, rfl, Or.inl ⟨Or.inl c23, rfl, rfl⟩⟩)
      · refine go_aload_n (pc' := 27) cx dX6_copy_26 rfl rfl ?_
        refine go_getr (pc' := 30) cx 111 fX6_86 dX6_copy_27 kq88 (ltn rfl) (ltn rfl) rfl rfl rfl ?_
        refine go_iload_n (pc' := 31) cx dX6_copy_30 rfl rfl ?_
        refine go_zald (pc' := 32) cx (g 111 u) dX6_copy_31 kq111 (ltn rfl) (vpi (k := u) (a := 4) hu rfl rfl) (congrArg (g 111) (cli (k := u) (a := 4) hu rfl)) rfl ?_
        refine go_if_ne (pc' := 35) cx 38 dX6_copy_32 rfl rfl (fun c32 => ?_) (fun c32 => ?_)
        · obtain ⟨sz, hsz, e1⟩ := hS t ht c23
          obtain ⟨su, hsu, e2⟩ := hS u hu c32
          refine go_aload_n (pc' := 39) cx dX6_copy_38 rfl rfl ?_
          refine go_getr (pc' := 42) cx 112 fX6_90 dX6_copy_39 kq88 (ltn rfl) (ltn rfl) rfl rfl rfl ?_
          refine go_iload_n (pc' := 43) cx dX6_copy_42 rfl rfl ?_
          refine go_iald (pc' := 44) cx (g 112 t) dX6_copy_43 kq112 (ltn rfl) (vpi (k := t) (a := 4) ht rfl rfl) (congrArg (g 112) (cli (k := t) (a := 4) ht rfl)) rfl ?_
          refine go_aload_n (pc' := 45) cx dX6_copy_44 rfl rfl ?_
          refine go_getr (pc' := 48) cx 112 fX6_90 dX6_copy_45 kq88 (ltn rfl) (ltn rfl) rfl rfl rfl ?_
          refine go_iload_n (pc' := 49) cx dX6_copy_48 rfl rfl ?_
          refine go_iald (pc' := 50) cx (g 112 u) dX6_copy_49 kq112 (ltn rfl) (vpi (k := u) (a := 4) hu rfl rfl) (congrArg (g 112) (cli (k := u) (a := 4) hu rfl)) rfl ?_
          refine go_icmp_eq (pc' := 53) cx 56 dX6_copy_50 rfl rfl (fun c50 => ?_) (fun c50 => ?_)
          · refine go_iload (pc' := 58) cx dX6_copy_56 rfl rfl ?_
            refine go_if_lt (pc' := 61) cx 97 dX6_copy_58 rfl rfl (fun c58 => ?_) (fun c58 => ?_)
            · have c58n := Int32.not_le.mpr c58
              refine go_bipush (pc' := 99) cx (-12) dX6_copy_97 rfl rfl ?_
              refine go_iret cx rfl dX6_copy_99 ?_
              refine ZI.mk (Or.inr ⟨t, u, ht, hu, rfl, rfl, Or.inr ⟨c23, c32, Or.inr ⟨c50, sz, su, hsz, hsu, e1, e2, Or.inl ⟨?_, rfl, rfl⟩⟩⟩⟩)
              rintro ⟨a, b, k, rfl, rfl, rfl, h1, h2⟩
              exact absurd c58 (nI_pos (by omega))
            · have c58n := Int32.not_lt.mp c58
              refine go_iload_n (pc' := 62) cx dX6_copy_61 rfl rfl ?_
              refine go_if_lt (pc' := 65) cx 97 dX6_copy_62 rfl rfl (fun c62 => ?_) (fun c62 => ?_)
              · have c62n := Int32.not_le.mpr c62
                refine go_bipush (pc' := 99) cx (-12) dX6_copy_97 rfl rfl ?_
                refine go_iret cx rfl dX6_copy_99 ?_
                refine ZI.mk (Or.inr ⟨t, u, ht, hu, rfl, rfl, Or.inr ⟨c23, c32, Or.inr ⟨c50, sz, su, hsz, hsu, e1, e2, Or.inl ⟨?_, rfl, rfl⟩⟩⟩⟩)
                rintro ⟨a, b, k, rfl, rfl, rfl, h1, h2⟩
                exact absurd c62 (nI_pos (by omega))
              · have c62n := Int32.not_lt.mp c62
                refine go_iload (pc' := 67) cx dX6_copy_65 rfl rfl ?_
                refine go_if_lt (pc' := 70) cx 97 dX6_copy_67 rfl rfl (fun c67 => ?_) (fun c67 => ?_)
                · have c67n := Int32.not_le.mpr c67
                  refine go_bipush (pc' := 99) cx (-12) dX6_copy_97 rfl rfl ?_
                  refine go_iret cx rfl dX6_copy_99 ?_
                  refine ZI.mk (Or.inr ⟨t, u, ht, hu, rfl, rfl, Or.inr ⟨c23, c32, Or.inr ⟨c50, sz, su, hsz, hsu, e1, e2, Or.inl ⟨?_, rfl, rfl⟩⟩⟩⟩)
                  rintro ⟨a, b, k, rfl, rfl, rfl, h1, h2⟩
                  exact absurd c67 (nI_pos (by omega))
                · have c67n := Int32.not_lt.mp c67
                  refine go_iload_n (pc' := 71) cx dX6_copy_70 rfl rfl ?_
                  refine go_aload_n (pc' := 72) cx dX6_copy_71 rfl rfl ?_
                  refine go_getr (pc' := 75) cx 113 fX6_93 dX6_copy_72 kq88 (ltn rfl) (ltn rfl) rfl rfl rfl ?_
                  refine go_iload_n (pc' := 76) cx dX6_copy_75 rfl rfl ?_
                  refine go_iald (pc' := 77) cx (nI sz) dX6_copy_76 kq113 (ltn rfl) (vpi (k := t) (a := 4) ht rfl rfl) ((congrArg (g 113) (cli (k := t) (a := 4) ht rfl)).trans e1) rfl ?_
                  refine go_iload (pc' := 79) cx dX6_copy_77 rfl rfl ?_
                  refine go_isub (pc' := 80) cx dX6_copy_79 rfl ?_
                  refine go_icmp_gt (pc' := 83) cx 97 dX6_copy_80 rfl rfl (fun c80 => ?_) (fun c80 => ?_)
                  · have c80n := Int32.not_le.mpr c80
                    refine go_bipush (pc' := 99) cx (-12) dX6_copy_97 rfl rfl ?_
                    refine go_iret cx rfl dX6_copy_99 ?_
                    refine ZI.mk (Or.inr ⟨t, u, ht, hu, rfl, rfl, Or.inr ⟨c23, c32, Or.inr ⟨c50, sz, su, hsz, hsu, e1, e2, Or.inl ⟨?_, rfl, rfl⟩⟩⟩⟩)
                    rintro ⟨a, b, k, rfl, rfl, rfl, h1, h2⟩
                    exact absurd ((le_sub2 hsz (by omega) (by omega)).mpr h1) (Int32.not_le.mpr c80)
                  · have c80n := Int32.not_lt.mp c80
                    refine go_iload (pc' := 85) cx dX6_copy_83 rfl rfl ?_
                    refine go_aload_n (pc' := 86) cx dX6_copy_85 rfl rfl ?_
                    refine go_getr (pc' := 89) cx 113 fX6_93 dX6_copy_86 kq88 (ltn rfl) (ltn rfl) rfl rfl rfl ?_
                    refine go_iload_n (pc' := 90) cx dX6_copy_89 rfl rfl ?_
                    refine go_iald (pc' := 91) cx (nI su) dX6_copy_90 kq113 (ltn rfl) (vpi (k := u) (a := 4) hu rfl rfl) ((congrArg (g 113) (cli (k := u) (a := 4) hu rfl)).trans e2) rfl ?_
                    refine go_iload (pc' := 93) cx dX6_copy_91 rfl rfl ?_
                    refine go_isub (pc' := 94) cx dX6_copy_93 rfl ?_
                    refine go_icmp_le (pc' := 97) cx 100 dX6_copy_94 rfl rfl (fun c94 => ?_) (fun c94 => ?_)
                    · have c94n := Int32.not_lt.mpr c94
                      obtain ⟨n9, hk, ek⟩ := nI_of c58
                      obtain ⟨a, ha, ea⟩ := nI_of c62
                      obtain ⟨b, hb9, eb⟩ := nI_of c67
                      subst ek
                      subst ea
                      subst eb
                      have h1 : a + n9 ≤ sz := (le_sub2 hsz ha hk).mp (Int32.not_lt.mp c80)
                      have h2 : b + n9 ≤ su := (le_sub2 hsu hb9 hk).mp c94
                      refine go_iload_n (pc' := 101) cx dX6_copy_100 rfl rfl ?_
                      refine go_iload_n (pc' := 102) cx dX6_copy_101 rfl rfl ?_
                      refine go_icmp_ne (pc' := 105) cx 115 dX6_copy_102 rfl rfl (fun c102 => ?_) (fun c102 => ?_)
                      · refine go_iconst (pc' := 116) cx 0 dX6_copy_115 rfl rfl ?_
                        refine go_istore (pc' := 118) cx dX6_copy_116 (ltn rfl) [(6, .int 0), (0, .ref (E.2.1 88)), (1, .int (nI t)), (2, .int (nI a)), (3, .int (nI u)), (4, .int (nI b)), (5, .int (nI n9))] rfl rfl ?_
                        refine go_iconst (pc' := 119) cx 0 dX6_copy_118 rfl rfl ?_
                        refine go_istore (pc' := 121) cx dX6_copy_119 (ltn rfl) [(7, .int 0), (6, .int 0), (0, .ref (E.2.1 88)), (1, .int (nI t)), (2, .int (nI a)), (3, .int (nI u)), (4, .int (nI b)), (5, .int (nI n9))] rfl rfl ?_
                        refine go_sub [0, 1, 2, 3, 4, 5, 6, 7] [(7, .int (nI 0)), (6, .int 0), (0, .ref (E.2.1 88)), (1, .int (nI t)), (2, .int (nI a)), (3, .int (nI u)), (4, .int (nI b)), (5, .int (nI n9))] rfl ?_
                        exact copy_loopM0 (g := g) ht hu (by omega) (by omega) (Or.inl fun q => c102 (congrArg nI q)) cx n9 0 g (by omega) (fun i q h9 => rfl) (fun q h9 => absurd h9 (by omega)) (fun G9 f9 i9 => ZI.mk (Or.inr ⟨t, u, ht, hu, rfl, rfl, Or.inr ⟨c23, c32, Or.inr ⟨c50, sz, su, hsz, hsu, e1, e2, Or.inr ⟨a, b, n9, rfl, rfl, rfl, h1, h2, rfl, f9, i9⟩⟩⟩⟩))
                      · refine go_iload_n (pc' := 106) cx dX6_copy_105 rfl rfl ?_
                        refine go_iload (pc' := 108) cx dX6_copy_106 rfl rfl ?_
                        refine go_icmp_ge (pc' := 111) cx 115 dX6_copy_108 rfl rfl (fun c108 => ?_) (fun c108 => ?_)
                        · have c108n := Int32.not_lt.mpr c108
                          refine go_iconst (pc' := 116) cx 0 dX6_copy_115 rfl rfl ?_
                          refine go_istore (pc' := 118) cx dX6_copy_116 (ltn rfl) [(6, .int 0), (0, .ref (E.2.1 88)), (1, .int (nI t)), (2, .int (nI a)), (3, .int (nI u)), (4, .int (nI b)), (5, .int (nI n9))] rfl rfl ?_
                          refine go_iconst (pc' := 119) cx 0 dX6_copy_118 rfl rfl ?_
                          refine go_istore (pc' := 121) cx dX6_copy_119 (ltn rfl) [(7, .int 0), (6, .int 0), (0, .ref (E.2.1 88)), (1, .int (nI t)), (2, .int (nI a)), (3, .int (nI u)), (4, .int (nI b)), (5, .int (nI n9))] rfl rfl ?_
                          refine go_sub [0, 1, 2, 3, 4, 5, 6, 7] [(7, .int (nI 0)), (6, .int 0), (0, .ref (E.2.1 88)), (1, .int (nI t)), (2, .int (nI a)), (3, .int (nI u)), (4, .int (nI b)), (5, .int (nI n9))] rfl ?_
                          exact copy_loopM0 (g := g) ht hu (by omega) (by omega) (Or.inr ((nI_leI (a := b) (b := a) (by omega) (by omega)).mp c108)) cx n9 0 g (by omega) (fun i q h9 => rfl) (fun q h9 => absurd h9 (by omega)) (fun G9 f9 i9 => ZI.mk (Or.inr ⟨t, u, ht, hu, rfl, rfl, Or.inr ⟨c23, c32, Or.inr ⟨c50, sz, su, hsz, hsu, e1, e2, Or.inr ⟨a, b, n9, rfl, rfl, rfl, h1, h2, rfl, f9, i9⟩⟩⟩⟩))
                        · have c108n := Int32.not_le.mp c108
                          refine go_iconst (pc' := 112) cx 1 dX6_copy_111 rfl rfl ?_
                          refine go_goto cx 116 dX6_copy_112 rfl ?_
                          refine go_istore (pc' := 118) cx dX6_copy_116 (ltn rfl) [(6, .int 1), (0, .ref (E.2.1 88)), (1, .int (nI t)), (2, .int (nI a)), (3, .int (nI u)), (4, .int (nI b)), (5, .int (nI n9))] rfl rfl ?_
                          refine go_iconst (pc' := 119) cx 0 dX6_copy_118 rfl rfl ?_
                          refine go_istore (pc' := 121) cx dX6_copy_119 (ltn rfl) [(7, .int 0), (6, .int 1), (0, .ref (E.2.1 88)), (1, .int (nI t)), (2, .int (nI a)), (3, .int (nI u)), (4, .int (nI b)), (5, .int (nI n9))] rfl rfl ?_
                          refine go_sub [0, 1, 2, 3, 4, 5, 6, 7] [(7, .int (nI 0)), (6, .int 1), (0, .ref (E.2.1 88)), (1, .int (nI t)), (2, .int (nI a)), (3, .int (nI u)), (4, .int (nI b)), (5, .int (nI n9))] rfl ?_
                          exact copy_loopM1 (g := g) ht hu (by omega) (by omega) ((nI_eq (a := t) (b := u) (by omega) (by omega)).mp c102) (Nat.not_le.mp fun q => c108 ((nI_leI (a := b) (b := a) (by omega) (by omega)).mpr q)) cx n9 0 g (by omega) (fun i q h9 => rfl) (fun q h8 h9 => absurd h9 (by omega)) (fun G9 f9 i9 => ZI.mk (Or.inr ⟨t, u, ht, hu, rfl, rfl, Or.inr ⟨c23, c32, Or.inr ⟨c50, sz, su, hsz, hsu, e1, e2, Or.inr ⟨a, b, n9, rfl, rfl, rfl, h1, h2, rfl, f9, i9⟩⟩⟩⟩))
                    · have c94n := Int32.not_le.mp c94
                      refine go_bipush (pc' := 99) cx (-12) dX6_copy_97 rfl rfl ?_
                      refine go_iret cx rfl dX6_copy_99 ?_
                      refine ZI.mk (Or.inr ⟨t, u, ht, hu, rfl, rfl, Or.inr ⟨c23, c32, Or.inr ⟨c50, sz, su, hsz, hsu, e1, e2, Or.inl ⟨?_, rfl, rfl⟩⟩⟩⟩)
                      rintro ⟨a, b, k, rfl, rfl, rfl, h1, h2⟩
                      exact absurd ((le_sub2 hsu (by omega) (by omega)).mpr h2) c94
          · refine go_bipush (pc' := 55) cx (-13) dX6_copy_53 rfl rfl ?_
            refine go_iret cx rfl dX6_copy_55 ?_
            exact ZI.mk (Or.inr ⟨t, u, ht, hu, rfl, rfl, Or.inr ⟨c23, c32, Or.inl ⟨c50, rfl, rfl⟩⟩⟩)
        · refine go_bipush (pc' := 37) cx (-11) dX6_copy_35 rfl rfl ?_
          refine go_iret cx rfl dX6_copy_37 ?_
          exact ZI.mk (Or.inr ⟨t, u, ht, hu, rfl, rfl, Or.inl ⟨Or.inr c32, rfl, rfl⟩⟩)
    · refine go_bipush (pc' := 16) cx (-2) dX6_copy_14 rfl rfl ?_
      refine go_iret cx rfl dX6_copy_16 ?_
      exact ZI.mk (Or.inl ⟨Or.inr c11, rfl, rfl⟩)
