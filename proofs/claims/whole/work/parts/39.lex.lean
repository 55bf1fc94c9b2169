/-! TOKENS, as the reference sees them -/
def kdT (T : Nat → Int32) (sz s : Nat) : Int32 := if sz ≤ s then 0 else if isLt (T s) = 0 then (if isDg (T s) = 0 then (if sgn (T s) = 10022 then 4 else 3) else (if (nmF T (sz - s) s 0).1 - s ≤ 4 then 2 else 4)) else 1
theorem dg_ok {x : Int32} (h : ¬ isDg x = 0) : ∃ d, d ≤ 9 ∧ x = nI (48 + d) := by
  unfold isDg at h
  by_cases h1 : x < 48
  · rw [if_pos h1] at h
    exact absurd rfl h
  rw [if_neg h1] at h
  by_cases h2 : 57 < x
  · rw [if_pos h2] at h
    exact absurd rfl h
  obtain ⟨j, hj, rfl⟩ := rng_n (M := 57) (lo := 48) (n := 57) (by decide) (by decide) h1 h2
  have : ¬ j < 48 := fun q => h1 ((nI_ltI (a := j) (b := 48) (by omega) (by omega)).mpr q)
  exact ⟨j - 48, by omega, by rw [show 48 + (j - 48) = j by omega]⟩
theorem nm_step {w d : Nat} : 10 * nI w + nI (48 + d) - 48 = nI (10 * w + d) := by
  rw [show (10 : Int32) = nI 10 from rfl, pk_mul, nI_add, show (48 : Int32) = nI 48 from rfl, pk_sub (by omega), show 10 * w + (48 + d) - 48 = 10 * w + d by omega]
/-- of at most four digits the number is small -/
theorem nm_small {T : Nat → Int32} : ∀ (k a w n : Nat), w < 10 ^ n → (nmF T k a (nI w)).1 - a + n ≤ 4 → ∃ v, v < 10000 ∧ (nmF T k a (nI w)).2 = nI v
  | 0, a, w, n, hw, hn => by
    refine ⟨w, ?_, rfl⟩
    have : 10 ^ n ≤ 10 ^ 4 := Nat.pow_le_pow_right (by omega) (by omega)
    omega
  | k + 1, a, w, n, hw, hn => by
    by_cases h : isDg (T a) = 0
    · have e : nmF T (k + 1) a (nI w) = (a, nI w) := if_pos h
      rw [e] at hn ⊢
      refine ⟨w, ?_, rfl⟩
      have : 10 ^ n ≤ 10 ^ 4 := Nat.pow_le_pow_right (by omega) (by omega)
      omega
    · have e : nmF T (k + 1) a (nI w) = nmF T k (a + 1) (10 * nI w + T a - 48) := if_neg h
      obtain ⟨d, hd, ed⟩ := dg_ok h
      rw [e, ed, nm_step] at hn ⊢
      have q := nmF_le (T := T) k (a + 1) (nI (10 * w + d))
      exact nm_small k (a + 1) (10 * w + d) (n + 1) (by rw [Nat.pow_succ]; omega) (by omega)
theorem wcL_cases {T : Nat → Int32} {s len : Nat} : ∀ k w, wcL T s len k w = 10022 ∨ ∃ j, w ≤ j ∧ j < w + k ∧ wcL T s len k w = nI (10000 + j) ∧ ¬ stV T s len (j + 1) = 0
  | 0, w => Or.inl rfl
  | k + 1, w => by
    by_cases h : stV T s len (w + 1) = 0
    · have e : wcL T s len (k + 1) w = wcL T s len k (w + 1) := if_pos h
      rw [e]
      rcases wcL_cases (T := T) (s := s) (len := len) k (w + 1) with q | ⟨j, h1, h2, h3, h4⟩
      · exact Or.inl q
      · exact Or.inr ⟨j, by omega, by omega, h3, h4⟩
    · have e : wcL T s len (k + 1) w = nI (10000 + w) := if_neg h
      exact Or.inr ⟨w, Nat.le_refl w, by omega, e, h⟩
/-- what a token is, by the kind that the reference sees -/
theorem tk_0 {T : Nat → Int32} {sz s : Nat} (h : kdT T sz s = 0) : (tokS T sz s (-1)).2.2.1 = 10021 := by
  unfold kdT at h
  unfold tokS
  by_cases h1 : sz ≤ s
  · rw [if_pos h1]
  rw [if_neg h1] at h
  by_cases h2 : isLt (T s) = 0
  · rw [if_pos h2] at h
    by_cases h3 : isDg (T s) = 0
    · rw [if_pos h3] at h
      split at h <;> exact absurd h (by decide)
    · rw [if_neg h3] at h
      split at h <;> exact absurd h (by decide)
  · rw [if_neg h2] at h
    exact absurd h (by decide)
theorem tk_all {T : Nat → Int32} {sz s : Nat} : (kdT T sz s = 0 ∧ sz ≤ s ∧ (tokS T sz s (-1)).2.2.1 = 10021) ∨
    (kdT T sz s = 1 ∧ s < sz ∧ ¬ isLt (T s) = 0 ∧ (tokS T sz s (-1)).1 = skL T (sz - s) s ∧ (tokS T sz s (-1)).2.2.1 = wcL T s (skL T (sz - s) s - s) 12 0) ∨
    (kdT T sz s = 2 ∧ s < sz ∧ ∃ v, v < 10000 ∧ (tokS T sz s (-1)).2.2.1 = nI v) ∨
    (kdT T sz s = 3 ∧ s < sz ∧ ¬ sgn (T s) = 10022 ∧ (tokS T sz s (-1)).2.2.1 = sgn (T s)) ∨
    (kdT T sz s = 4 ∧ s < sz ∧ (tokS T sz s (-1)).2.2.1 = 10022) := by
  unfold kdT tokS
  by_cases h1 : sz ≤ s
  · rw [if_pos h1, if_pos h1]
    exact Or.inl ⟨rfl, h1, rfl⟩
  rw [if_neg h1, if_neg h1]
  by_cases h2 : isLt (T s) = 0
  · rw [if_pos h2, if_pos h2]
    by_cases h3 : isDg (T s) = 0
    · rw [if_pos h3, if_pos h3]
      by_cases h4 : sgn (T s) = 10022
      · rw [if_pos h4]
        exact Or.inr (Or.inr (Or.inr (Or.inr ⟨rfl, by omega, h4⟩)))
      · rw [if_neg h4]
        exact Or.inr (Or.inr (Or.inr (Or.inl ⟨rfl, by omega, h4, rfl⟩)))
    · rw [if_neg h3, if_neg h3]
      by_cases h4 : (nmF T (sz - s) s 0).1 - s ≤ 4
      · rw [if_pos h4]
        obtain ⟨v, hv, e⟩ := nm_small (T := T) (sz - s) s 0 0 (by omega) (show (nmF T (sz - s) s 0).1 - s + 0 ≤ 4 from h4)
        exact Or.inr (Or.inr (Or.inl ⟨rfl, by omega, v, hv, by show (if (nmF T (sz - s) s 0).1 - s ≤ 4 then (nmF T (sz - s) s 0).2 else 10022) = nI v; rw [if_pos h4]; exact e⟩))
      · rw [if_neg h4]
        exact Or.inr (Or.inr (Or.inr (Or.inr ⟨rfl, by omega, by show (if (nmF T (sz - s) s 0).1 - s ≤ 4 then (nmF T (sz - s) s 0).2 else 10022) = 10022; rw [if_neg h4]⟩)))
  · rw [if_neg h2, if_neg h2]
    exact Or.inr (Or.inl ⟨rfl, by omega, h2, rfl, rfl⟩)
theorem sgn_c {x : Int32} : (x = 40 ∧ sgn x = 10012) ∨ (x = 41 ∧ sgn x = 10013) ∨ (x = 59 ∧ sgn x = 10014) ∨ (x = 43 ∧ sgn x = 10015) ∨ (x = 45 ∧ sgn x = 10016) ∨ (x = 42 ∧ sgn x = 10017) ∨ (x = 60 ∧ sgn x = 10018) ∨ (x = 61 ∧ sgn x = 10019) ∨ sgn x = 10022 := by
  unfold sgn
  by_cases h1 : x = 40
  · rw [if_pos h1]; exact Or.inl ⟨h1, rfl⟩
  rw [if_neg h1]
  by_cases h2 : x = 41
  · rw [if_pos h2]; exact Or.inr (Or.inl ⟨h2, rfl⟩)
  rw [if_neg h2]
  by_cases h3 : x = 59
  · rw [if_pos h3]; exact Or.inr (Or.inr (Or.inl ⟨h3, rfl⟩))
  rw [if_neg h3]
  by_cases h4 : x = 43
  · rw [if_pos h4]; exact Or.inr (Or.inr (Or.inr (Or.inl ⟨h4, rfl⟩)))
  rw [if_neg h4]
  by_cases h5 : x = 45
  · rw [if_pos h5]; exact Or.inr (Or.inr (Or.inr (Or.inr (Or.inl ⟨h5, rfl⟩))))
  rw [if_neg h5]
  by_cases h6 : x = 42
  · rw [if_pos h6]; exact Or.inr (Or.inr (Or.inr (Or.inr (Or.inr (Or.inl ⟨h6, rfl⟩)))))
  rw [if_neg h6]
  by_cases h7 : x = 60
  · rw [if_pos h7]; exact Or.inr (Or.inr (Or.inr (Or.inr (Or.inr (Or.inr (Or.inl ⟨h7, rfl⟩))))))
  rw [if_neg h7]
  by_cases h8 : x = 61
  · rw [if_pos h8]; exact Or.inr (Or.inr (Or.inr (Or.inr (Or.inr (Or.inr (Or.inr (Or.inl ⟨h8, rfl⟩)))))))
  rw [if_neg h8]
  exact Or.inr (Or.inr (Or.inr (Or.inr (Or.inr (Or.inr (Or.inr (Or.inr rfl)))))))
/-- signs: by their bytes -/
def isSg (c : Int32) : Prop := c = 40 ∨ c = 41 ∨ c = 59 ∨ c = 43 ∨ c = 45 ∨ c = 42 ∨ c = 60 ∨ c = 61
theorem sgn_eq {x c : Int32} (hc : isSg c) : sgn x = sgn c ↔ x = c := by
  constructor
  · intro h
    rcases hc with rfl | rfl | rfl | rfl | rfl | rfl | rfl | rfl <;>
      (rcases sgn_c (x := x) with ⟨e, q⟩ | ⟨e, q⟩ | ⟨e, q⟩ | ⟨e, q⟩ | ⟨e, q⟩ | ⟨e, q⟩ | ⟨e, q⟩ | ⟨e, q⟩ | q <;> first | exact e | (rw [q] at h; exact absurd h (by decide)))
  · intro h
    rw [h]
theorem nI_big {v : Nat} (h : v < 10000) {c : Int32} (hc : isSg c) : ¬ nI v = sgn c := by
  intro q
  have h1 : nI v < 10000 := (nI_ltI (a := v) (b := 10000) (by omega) (by omega)).mpr h
  rw [q] at h1
  rcases hc with rfl | rfl | rfl | rfl | rfl | rfl | rfl | rfl <;> exact absurd h1 (by decide)
theorem nI_wd {j : Nat} (h : j < 12) {c : Int32} (hc : isSg c) : ¬ nI (10000 + j) = sgn c := by
  have : ∀ j, j < 12 → ¬ nI (10000 + j) = 10012 ∧ ¬ nI (10000 + j) = 10013 ∧ ¬ nI (10000 + j) = 10014 ∧ ¬ nI (10000 + j) = 10015 ∧ ¬ nI (10000 + j) = 10016 ∧ ¬ nI (10000 + j) = 10017 ∧ ¬ nI (10000 + j) = 10018 ∧ ¬ nI (10000 + j) = 10019 := by decide +kernel
  have q := this j h
  rcases hc with rfl | rfl | rfl | rfl | rfl | rfl | rfl | rfl
  · exact q.1
  · exact q.2.1
  · exact q.2.2.1
  · exact q.2.2.2.1
  · exact q.2.2.2.2.1
  · exact q.2.2.2.2.2.1
  · exact q.2.2.2.2.2.2.1
  · exact q.2.2.2.2.2.2.2
theorem sg_iff {T : Nat → Int32} {sz s : Nat} {c : Int32} (hc : isSg c) : (tokS T sz s (-1)).2.2.1 = sgn c ↔ kdT T sz s = 3 ∧ T s = c := by
  rcases tk_all (T := T) (sz := sz) (s := s) with ⟨k, -, e⟩ | ⟨k, -, -, -, e⟩ | ⟨k, -, v, hv, e⟩ | ⟨k, -, -, e⟩ | ⟨k, -, e⟩
  · rw [k, e]
    exact ⟨fun q => absurd q (by rcases hc with rfl | rfl | rfl | rfl | rfl | rfl | rfl | rfl <;> decide), fun q => absurd q.1 (by decide)⟩
  · rw [k, e]
    refine ⟨fun q => ?_, fun q => absurd q.1 (by decide)⟩
    rcases wcL_cases (T := T) (s := s) (len := skL T (sz - s) s - s) 12 0 with r | ⟨j, -, hj, r, -⟩
    · rw [r] at q
      rcases hc with rfl | rfl | rfl | rfl | rfl | rfl | rfl | rfl <;> exact absurd q (by decide)
    · rw [r] at q
      exact absurd q (nI_wd (by omega) hc)
  · rw [k, e]
    exact ⟨fun q => absurd q (nI_big hv hc), fun q => absurd q.1 (by decide)⟩
  · rw [k, e]
    exact ⟨fun q => ⟨rfl, (sgn_eq hc).mp q⟩, fun q => (sgn_eq hc).mpr q.2⟩
  · rw [k, e]
    exact ⟨fun q => absurd q (by rcases hc with rfl | rfl | rfl | rfl | rfl | rfl | rfl | rfl <;> decide), fun q => absurd q.1 (by decide)⟩
/-! words -/
theorem stF_iff {T : Nat → Int32} {s i : Nat} : ∀ k j, (¬ stF T s i k j = 0) ↔ ∀ q, j ≤ q → q < j + k → T (s + q) = (byS.getD i []).getD q 0
  | 0, j => ⟨fun _ q h1 h2 => by omega, fun _ => by show ¬ (1 : Int32) = 0; decide⟩
  | k + 1, j => by
    have ih := stF_iff (T := T) (s := s) (i := i) k (j + 1)
    by_cases h : T (s + j) = (byS.getD i []).getD j 0
    · have e : stF T s i (k + 1) j = stF T s i k (j + 1) := if_pos h
      rw [e, ih]
      refine ⟨fun q r h1 h2 => ?_, fun q r h1 h2 => q r (by omega) (by omega)⟩
      by_cases hr : r = j
      · rw [hr]; exact h
      · exact q r (by omega) (by omega)
    · have e : stF T s i (k + 1) j = 0 := if_neg h
      rw [e]
      exact ⟨fun q => absurd rfl q, fun q => absurd (q j (Nat.le_refl j) (by omega)) h⟩
theorem stV_iff {T : Nat → Int32} {s len i : Nat} : (¬ stV T s len i = 0) ↔ lnS.getD i 0 = len ∧ ∀ q, q < len → T (s + q) = (byS.getD i []).getD q 0 := by
  unfold stV
  by_cases h : lnS.getD i 0 = len
  · rw [if_pos h, stF_iff, h]
    exact ⟨fun q => ⟨rfl, fun r hr => q r (Nat.zero_le r) (by omega)⟩, fun q r _ hr => q.2 r (by omega)⟩
  · rw [if_neg h]
    exact ⟨fun q => absurd rfl q, fun q => absurd q.1 h⟩
theorem wd_apart : ∀ i, i < 12 → ∀ j, j < 12 → i ≠ j → (lnS.getD (i + 1) 0 = lnS.getD (j + 1) 0 → ∃ q, q < lnS.getD (i + 1) 0 ∧ (byS.getD (i + 1) []).getD q 0 ≠ (byS.getD (j + 1) []).getD q 0) := by
  have h : ∀ i, i < 12 → ∀ j, j < 12 → i ≠ j → (lnS.getD (i + 1) 0 = lnS.getD (j + 1) 0 → ∃ q, q < 7 ∧ q < lnS.getD (i + 1) 0 ∧ (byS.getD (i + 1) []).getD q 0 ≠ (byS.getD (j + 1) []).getD q 0) := by decide +kernel
  intro i hi j hj hne e
  obtain ⟨q, _, h1, h2⟩ := h i hi j hj hne e
  exact ⟨q, h1, h2⟩
theorem wcL_iff {T : Nat → Int32} {s len w : Nat} (hw : w < 12) : wcL T s len 12 0 = nI (10000 + w) ↔ ¬ stV T s len (w + 1) = 0 := by
  have key : ∀ k v, v ≤ w → w < v + k → (¬ stV T s len (w + 1) = 0) → wcL T s len k v = nI (10000 + w) := by
    intro k
    induction k with
    | zero => intro v h1 h2 _; omega
    | succ k ih =>
      intro v h1 h2 hs
      by_cases hv : v = w
      · subst hv
        exact if_neg hs
      · have h0 : stV T s len (v + 1) = 0 := by
          refine Classical.byContradiction fun hne => ?_
          obtain ⟨a1, a2⟩ := stV_iff.mp hne
          obtain ⟨b1, b2⟩ := stV_iff.mp hs
          obtain ⟨q, c1, c2⟩ := wd_apart v (by omega) w hw hv (a1.trans b1.symm)
          exact c2 ((a2 q (by omega)).symm.trans (b2 q (by omega)))
        have e : wcL T s len (k + 1) v = wcL T s len k (v + 1) := if_pos h0
        rw [e]
        exact ih (v + 1) (by omega) (by omega) hs
  refine ⟨fun h => ?_, key 12 0 (Nat.zero_le w) (by omega)⟩
  rcases wcL_cases (T := T) (s := s) (len := len) 12 0 with r | ⟨j, -, hj, r, hs⟩
  · rw [r] at h
    have : ∀ w, w < 12 → ¬ (10022 : Int32) = nI (10000 + w) := by decide +kernel
    exact absurd h (this w hw)
  · rw [r] at h
    have : 10000 + j = 10000 + w := (nI_eq (by omega) (by omega)).mp h
    rw [show w = j by omega]
    exact hs
theorem skL_lt {T : Nat → Int32} : ∀ k a q, a ≤ q → q < skL T k a → ¬ isLt (T q) = 0
  | 0, a, q, h1, h2 => by
    have : q < a := h2
    omega
  | k + 1, a, q, h1, h2 => by
    by_cases h : isLt (T a) = 0
    · have e : skL T (k + 1) a = a := if_pos h
      rw [e] at h2
      omega
    · have e : skL T (k + 1) a = skL T k (a + 1) := if_neg h
      rw [e] at h2
      by_cases hq : q = a
      · rw [hq]; exact h
      · exact skL_lt k (a + 1) q (by omega) h2
/-- the letters of a word, one by one, 0 behind them -/
def wdC (w i : Nat) : Int32 := (byS.getD (w + 1) []).getD i 0
theorem wdC_0 : ∀ w, w < 12 → lnS.getD (w + 1) 0 ≤ 6 ∧ ∀ i, i < 8 → (wdC w i = 0 ↔ lnS.getD (w + 1) 0 ≤ i) := by
  have h : ∀ w, w < 12 → lnS.getD (w + 1) 0 ≤ 6 ∧ ∀ i, i < 8 → (wdC w i = 0 ↔ lnS.getD (w + 1) 0 ≤ i) := by decide +kernel
  exact h
theorem wd_iff {T : Nat → Int32} {s e w : Nat} (hw : w < 12) (hse : s ≤ e) (hl : ∀ q, s ≤ q → q < e → ¬ isLt (T q) = 0) : wcL T s (e - s) 12 0 = nI (10000 + w) ↔ e ≤ s + 8 ∧ ∀ i, i < 8 → (s + i < e → T (s + i) = wdC w i) ∧ (¬ s + i < e → wdC w i = 0) := by
  rw [wcL_iff hw, stV_iff]
  obtain ⟨h6, hz⟩ := wdC_0 w hw
  constructor
  · rintro ⟨h1, h2⟩
    refine ⟨by omega, fun i hi => ⟨fun q => h2 i (by omega), fun q => (hz i hi).mpr (by omega)⟩⟩
  · rintro ⟨h1, h2⟩
    have hlen : lnS.getD (w + 1) 0 = e - s := by
      have q1 : e - s ≤ lnS.getD (w + 1) 0 := by
        refine Classical.byContradiction fun hc => ?_
        have hc : lnS.getD (w + 1) 0 < e - s := by omega
        have z := (hz (lnS.getD (w + 1) 0) (by omega)).mpr (Nat.le_refl _)
        have t := (h2 (lnS.getD (w + 1) 0) (by omega)).1 (by omega)
        rw [z] at t
        have := hl (s + lnS.getD (w + 1) 0) (by omega) (by omega)
        rw [t] at this
        exact this (by decide)
      by_cases q2 : e - s < 8
      · have z := (h2 (e - s) q2).2 (by omega)
        have := (hz (e - s) q2).mp z
        omega
      · omega
    exact ⟨hlen, fun q hq => (h2 q (by omega)).1 (by omega)⟩
