/-! THE CLASS: seeds, the image, texts, the host -/
def ZL (r : RG) (z : Int64) (P : Int64 → IG → Prop) : ZT := fun v g1 r1 z1 => (∃ x, v = some (.long x) ∧ P x g1) ∧ r1 = r ∧ z1 = z
theorem ZL.mk {r : RG} {z : Int64} {P : Int64 → IG → Prop} {x : Int64} {g : IG} (h : P x g) : ZL r z P (some (.long x)) g r z := ⟨⟨x, rfl, h⟩, rfl, rfl⟩
theorem rng_n {x : Int32} {lo M : Int32} {n : Nat} (hM : M.toInt = n) (hl : 0 ≤ lo.toInt) (h1 : ¬ x < lo) (h2 : ¬ M < x) : ∃ j : Nat, j ≤ n ∧ x = nI j := by
  refine nI_of2 hM (fun q => h1 ?_) (Int32.not_lt.mp h2)
  have := Int32.lt_iff_toInt_lt.mp q
  exact Int32.lt_iff_toInt_lt.mpr (by have e : (0 : Int32).toInt = 0 := by decide
                                      omega)
theorem RFo_up {o : Option Nat} {x : Nat} : up2r (RFo o) 2 6 (some x) = RFo (some x) := by
  funext i k
  unfold up2r RFo
  by_cases h1 : i = 2
  · by_cases h2 : k = 6
    · rw [if_pos h1, if_pos h2, if_pos ⟨h1, h2⟩]
    · rw [if_pos h1, if_neg h2, if_neg (fun q => h2 q.2), if_neg (fun q => h2 q.2)]
  · rw [if_neg h1, if_neg (fun q => h1 q.1), if_neg (fun q => h1 q.1)]
theorem RdR0_o {o : Option Nat} {t : Nat} (ht : t < 6) : RdR0 (RFo o) t := ⟨rfl, (txt_r ht).1, (txt_r ht).2.1⟩
/-- what a sheet refuses a picture -/
def prF (so : Int32) (sz vn : Nat) : Int32 := if so = -1 then -11 else if sz ≤ vn then 0 else -2
def ShX (g : IG) : Prop := ∀ t, t < 4 → ∃ sz, sz ≤ 40 ∧ g (29 + 2 * t) 2 = nI sz
theorem hasR_ok {sz : Nat} {i n : Int32} (hsz : sz ≤ 40) (h : ¬ hasR (nI sz) i n = 0) : ∃ a k : Nat, i = nI a ∧ n = nI k ∧ a + k ≤ sz := by
  unfold hasR at h
  by_cases h1 : i < 0
  · rw [if_pos h1] at h
    exact absurd rfl h
  rw [if_neg h1] at h
  by_cases h2 : n < 0
  · rw [if_pos h2] at h
    exact absurd rfl h
  rw [if_neg h2] at h
  by_cases h3 : nI sz < i
  · rw [if_pos h3] at h
    exact absurd rfl h
  rw [if_neg h3] at h
  by_cases h4 : nI sz - i < n
  · rw [if_pos h4] at h
    exact absurd rfl h
  obtain ⟨a, ha, rfl⟩ := nI_of h1
  obtain ⟨k, hk, rfl⟩ := nI_of h2
  have h5 : a ≤ sz := by
    rw [nI_ltI (by omega) ha] at h3
    omega
  rw [pk_sub h5, nI_ltI (by omega) hk] at h4
  exact ⟨a, k, rfl, rfl, by omega⟩
theorem hasR_1 {sz a k : Nat} (hsz : sz ≤ 40) (h : a + k ≤ sz) : hasR (nI sz) (nI a) (nI k) = 1 := by
  unfold hasR
  rw [if_neg (nI_pos (by omega)), if_neg (nI_pos (by omega)), if_neg (nI_nlt (by omega) (by omega)), pk_sub (by omega), if_neg (nI_nlt (by omega) (by omega))]
theorem c_putX (l : Launch) (E : Ev) {g : IG} {o : Option Nat} {z : Int64} {t sz : Nat} (ht : t < 4) (hsz : sz ≤ 40) (h2 : g (29 + 2 * t) 2 = nI sz) (i1 v1 : Int32) : Ct l E 88 yX2_put cX2_put 3 (some .boolean) 1 [.ref (E.2.1 (29 + 2 * t)), .int i1, .int v1] g (RFo o) z (ZI (RFo o) z (fun x g1 => (∃ q, q < sz ∧ i1 = nI q ∧ x = 1 ∧ g1 = up2 g (29 + 2 * t + 1) q (cvS (g (29 + 2 * t) 1) v1)) ∨ ((i1 < 0 ∨ ¬ i1 < nI sz) ∧ x = 0 ∧ g1 = g))) := by
  by_cases hi : i1 < 0 ∨ ¬ i1 < nI sz
  · refine (c_X2_putN l E (o := o) (z := z) ht i1 v1 (by rw [h2]; exact hi)).wk ?_
    rintro _ _ _ _ ⟨rfl, rfl, rfl, rfl⟩
    exact ZI.mk (Or.inr ⟨hi, rfl, rfl⟩)
  · obtain ⟨q, hq, rfl⟩ := nI_of (fun e => hi (Or.inl e))
    have hlt : q < sz := by
      have : nI q < nI sz := Classical.not_not.mp fun e => hi (Or.inr e)
      rw [nI_ltI hq (by omega)] at this
      exact this
    refine (c_X2_put l E (o := o) (z := z) ht hsz hlt v1 h2).wk ?_
    rintro _ _ _ _ ⟨rfl, rfl, rfl, rfl⟩
    exact ZI.mk (Or.inl ⟨q, hlt, rfl, rfl, rfl⟩)
theorem cdF_s {a b d : Nat} : cdF a b (d + 1) = if d + 1 ≤ 1 then 1 else if a % (d + 1) = 0 then (if b % (d + 1) = 0 then d + 1 else cdF a b d) else cdF a b d := rfl
theorem chN_s {M : TM} {a : Sv} {hn vn : Nat} {z : Int32} {k : Nat} : chN M a hn vn z (k + 1) = if BDs M (drS a (z + nI k) hn vn) vn ≤ BDs M a vn then chN M a hn vn z k + 1 else chN M a hn vn z k := rfl

theorem rdG_o {g : IG} {t sz : Nat} {i : Nat} (h2 : i ≠ 2) (h3 : i ≠ 5 + 4 * t) (h4 : i ≠ 5 + 4 * t + 1) (h5 : i ≠ 5 + 4 * t + 2) : rdG g t sz i = g i := by
  unfold rdG rdX
  rw [stt_o h2 h3 h4]
  funext b
  rw [up2_n _ _ (Or.inl h5), up2_n _ _ (Or.inl h5), up2_n _ _ (Or.inl h5)]
theorem rdG_0 {g : IG} {t sz : Nat} (ht : t < 6) : rdG g t sz 0 1 = g 0 1 := congrFun (rdG_o (by omega) (by omega) (by omega) (by omega)) 1
