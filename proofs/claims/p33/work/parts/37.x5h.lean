/-! THE CLASS: the host -/
/-- copied numbers -/
def cpyG (g : IG) (t u a b k : Nat) : IG := upw g (29 + 2 * u + 1) (va_cpy (g (29 + 2 * t + 1)) (g (29 + 2 * u + 1)) a b k)
theorem nI_j {k k2 a b sz su : Nat} {i : Int32} (e : nI k = nI k2) (c : ¬ hasR (nI sz) i (nI k) = 0) (h : a + k ≤ sz) (h2 : b + k2 ≤ su) (hs : sz ≤ 40) (hs2 : su ≤ 40) : k2 = k := ((nI_eq (by omega) (by omega)).mp e).symm

/-- hands are of kinds -/
def KdS (g : IG) (hn : Nat) : Prop := ∀ h, h < hn → ∃ k, k < 6 ∧ g 49 h = nI k

theorem vsL_s {row : Nat → Int32} {sz : Nat} {fr : Int32} {n k : Nat} {ca : Int32} {g : IG} {vn : Nat} : vsL row sz fr (n + 1) k ca g vn = if hasR (nI sz) (fr + 2 * nI k) 2 = 0 then (-12, g)
    else vsL row sz fr n (k + 1) (if (nvX g vn (row (clI (fr + 2 * nI k))) (row (clI (fr + 2 * nI k) + 1))).1 < 0 then ca else ca + 1) (nvX g vn (row (clI (fr + 2 * nI k))) (row (clI (fr + 2 * nI k) + 1))).2 (nvN g vn (row (clI (fr + 2 * nI k))) (row (clI (fr + 2 * nI k) + 1))) := rfl
