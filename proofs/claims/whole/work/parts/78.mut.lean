/-! THE CALLS THAT CHANGE A SALON -/
theorem SQ.ext {a b a' b' : Sv} {hn vn hn' vn' : Nat} (h : SQ a b hn vn) (hh : hn ≤ hn') (H : ∀ w k, Rl hn' vn' w k → (Rl hn vn w k ∧ a' w k = a w k ∧ b' w k = b w k) ∨ (a' w k = b' w k ∧ (w = 7 → ∃ j, j < hn' ∧ b' w k = nI j) ∧ (w = 0 → ∃ n, n ≤ 199 ∧ b' w k = nI n) ∧ (w = 10 → ∃ j, j < 6 ∧ b' w k = nI j))) : SQ a' b' hn' vn' := by
  refine ⟨fun w k q => ?_, fun v hv => ?_, fun p hp => ?_, fun x hx => ?_⟩
  · rcases H w k q with ⟨h1, h2, h3⟩ | ⟨h1, -⟩
    · exact h2.trans ((h.1 w k h1).trans h3.symm)
    · exact h1
  · rcases H 7 v (by unfold Rl; omega) with ⟨h1, -, h3⟩ | ⟨-, h1, -⟩
    · obtain ⟨j, hj, e⟩ := h.2.1 v (by unfold Rl at h1; omega)
      exact ⟨j, by omega, h3.trans e⟩
    · exact h1 rfl
  · rcases H 0 p (by unfold Rl; omega) with ⟨h1, -, h3⟩ | ⟨-, -, h1, -⟩
    · obtain ⟨j, hj, e⟩ := h.2.2.1 p hp
      exact ⟨j, hj, h3.trans e⟩
    · exact h1 rfl
  · rcases H 10 x (by unfold Rl; omega) with ⟨h1, -, h3⟩ | ⟨-, -, -, h1⟩
    · obtain ⟨j, hj, e⟩ := h.2.2.2 x (by unfold Rl at h1; omega)
      exact ⟨j, hj, h3.trans e⟩
    · exact h1 rfl
theorem svM_c1 {b b' : IG} {w k : Nat} (h1 : w = 3 → b' 88 10 = b 88 10) (h2 : w < 10 → w ≠ 3 → b' (92 + w) k = b (92 + w) k) (h3 : 10 ≤ w → b' 95 k = b 95 k) : svM b' w k = svM b w k := by
  by_cases c1 : w < 10
  · by_cases c3 : w = 3
    · subst c3
      exact h1 rfl
    · rw [svM_o c1 c3, svM_o c1 c3]
      exact h2 c1 c3
  · rw [svM_10 (by omega), svM_10 (by omega)]
    exact h3 (by omega)
theorem Inv.sal {g G : IG} {hn vn ru tc : Nat} {CS : CSt} (h : Inv g g hn vn ru tc CS) {hn' vn' ru' : Nat} (hr : ru' < tc) (hh : hn ≤ hn') (hS : SAL G G hn' vn' ru') (ha : ∀ i k, i < 88 → ¬ scr i → ¬ (37 ≤ i ∧ i ≤ 49) → G i k = g i k) (hb : ∀ i k, 88 ≤ i → ¬ (i = 88 ∧ (k = 4 ∨ k = 10 ∨ k = 15 ∨ k = 19 ∨ (20 ≤ k ∧ k ≤ 37) ∨ k = 39)) → ¬ (92 ≤ i ∧ i ≤ 101 ∧ ¬ (i = 95 ∧ k < hn)) → ¬ (102 ≤ i ∧ i ≤ 107) → G i k = g i k) (hs : SdI G tc CS) : Inv G G hn' vn' ru' tc CS := by
  obtain ⟨h0, h1, h2, h3, h4, h5⟩ := h
  refine ⟨hr, hS, h2.fr (fun i k q => ha i k (by omega) (by unfold scr; omega) (by omega)) (fun i k q => hb i k (by omega) (by omega) (by omega) (by omega)) hs, h3.fr (fun i k q => ha i k (by omega) (by unfold scr; omega) (by omega)) (fun i k q => hb i k (by omega) (by omega) (by omega) (by omega)), fun t ht => (h4 t ht).fr (fun k => ⟨ha _ k (by omega) (by unfold scr; omega) (by omega), ha _ k (by omega) (by unfold scr; omega) (by omega)⟩) ⟨hb _ _ (by omega) (by omega) (by omega) (by omega), hb _ _ (by omega) (by omega) (by omega) (by omega), hb _ _ (by omega) (by omega) (by omega) (by omega), fun i _ => hb _ _ (by omega) (by omega) (by omega) (by omega)⟩, h5.fr hh (Nat.le_refl _) (fun i k q => ha i k (by omega) (by unfold scr; omega) (by omega)) (fun i k q => hb i k (by omega) (by omega) (by omega) (by omega))⟩
theorem Inv.hand {g G : IG} {hn vn ru tc : Nat} {CS : CSt} (h : Inv g g hn vn ru tc CS) (h5 : hn < 5) {ki p q wi : Int32} (hki : ∃ k, k < 6 ∧ ki = nI k) (c : G 37 2 = nI (hn + 1) ∧ G 88 15 = nI (hn + 1)) (d : G 49 hn = ki ∧ G 95 hn = ki ∧ G 43 hn = p ∧ G 96 hn = p ∧ G 44 hn = q ∧ G 97 hn = q ∧ G 45 hn = wi ∧ G 98 hn = wi) (fr : ∀ i k, ¬ ((i = 37 ∧ k = 2) ∨ (i = 88 ∧ k = 15) ∨ ((i = 49 ∨ i = 95 ∨ i = 43 ∨ i = 96 ∨ i = 44 ∨ i = 97 ∨ i = 45 ∨ i = 98) ∧ k = hn)) → G i k = g i k) : Inv G G (hn + 1) vn ru tc CS := by
  obtain ⟨⟨s1, s2⟩, ⟨s3, s4, s5⟩, ⟨s6, s7, s8⟩, s9⟩ := h.2.1
  refine h.sal h.1 (by omega) ⟨⟨by omega, s2⟩, ⟨c.1, (fr _ _ (by omega)).trans s4, (fr _ _ (by omega)).trans s5⟩, ⟨c.2, (fr _ _ (by omega)).trans s7, (fr _ _ (by omega)).trans s8⟩, s9.ext (by omega) (fun w k r => ?_)⟩ (fun i k h1 h2 h3 => fr i k (by omega)) (fun i k h1 h2 h3 h4 => fr i k (by omega)) (h.sd.fr (funext fun k => fr 102 k (by omega)))
  by_cases hk : (w = 4 ∨ w = 5 ∨ w = 6 ∨ w = 10) ∧ k = hn
  · right
    obtain ⟨hw, rfl⟩ := hk
    obtain ⟨d1, d2, d3, d4, d5, d6, d7, d8⟩ := d
    rcases hw with rfl | rfl | rfl | rfl
    · exact ⟨d3.trans d4.symm, fun e => absurd e (by omega), fun e => absurd e (by omega), fun e => absurd e (by omega)⟩
    · exact ⟨d5.trans d6.symm, fun e => absurd e (by omega), fun e => absurd e (by omega), fun e => absurd e (by omega)⟩
    · exact ⟨d7.trans d8.symm, fun e => absurd e (by omega), fun e => absurd e (by omega), fun e => absurd e (by omega)⟩
    · obtain ⟨j, hj, e⟩ := hki
      exact ⟨d1.trans d2.symm, fun e => absurd e (by omega), fun e => absurd e (by omega), fun _ => ⟨j, hj, d2.trans e⟩⟩
  · left
    have hw := r.lt
    unfold Rl at r
    refine ⟨by unfold Rl; omega, ?_, svM_c1 (fun _ => fr _ _ (by omega)) (fun _ _ => fr _ _ (by omega)) (fun _ => fr _ _ (by omega))⟩
    rw [svC_l hw, svC_l hw]
    exact fr _ _ (by omega)
theorem Inv.visit {g G : IG} {hn vn ru tc : Nat} {CS : CSt} (h : Inv g g hn vn ru tc CS) (h8 : vn < 8) {hd p q : Int32} (hhd : ∃ k, k < hn ∧ hd = nI k) (c : G 37 3 = nI (vn + 1) ∧ G 88 19 = nI (vn + 1)) (d : G 46 vn = hd ∧ G 99 vn = hd ∧ G 47 vn = p ∧ G 100 vn = p ∧ G 48 vn = q ∧ G 101 vn = q) (fr : ∀ i k, ¬ ((i = 37 ∧ k = 3) ∨ (i = 88 ∧ k = 19) ∨ ((i = 46 ∨ i = 99 ∨ i = 47 ∨ i = 100 ∨ i = 48 ∨ i = 101) ∧ k = vn)) → G i k = g i k) : Inv G G hn (vn + 1) ru tc CS := by
  obtain ⟨⟨s1, s2⟩, ⟨s3, s4, s5⟩, ⟨s6, s7, s8⟩, s9⟩ := h.2.1
  refine h.sal h.1 (by omega) ⟨⟨s1, by omega⟩, ⟨(fr _ _ (by omega)).trans s3, c.1, (fr _ _ (by omega)).trans s5⟩, ⟨(fr _ _ (by omega)).trans s6, c.2, (fr _ _ (by omega)).trans s8⟩, s9.ext (by omega) (fun w k r => ?_)⟩ (fun i k h1 h2 h3 => fr i k (by omega)) (fun i k h1 h2 h3 h4 => fr i k (by omega)) (h.sd.fr (funext fun k => fr 102 k (by omega)))
  by_cases hk : (w = 7 ∨ w = 8 ∨ w = 9) ∧ k = vn
  · right
    obtain ⟨hw, rfl⟩ := hk
    obtain ⟨d1, d2, d3, d4, d5, d6⟩ := d
    rcases hw with rfl | rfl | rfl
    · obtain ⟨j, hj, e⟩ := hhd
      exact ⟨d1.trans d2.symm, fun _ => ⟨j, hj, d2.trans e⟩, fun e => absurd e (by omega), fun e => absurd e (by omega)⟩
    · exact ⟨d3.trans d4.symm, fun e => absurd e (by omega), fun e => absurd e (by omega), fun e => absurd e (by omega)⟩
    · exact ⟨d5.trans d6.symm, fun e => absurd e (by omega), fun e => absurd e (by omega), fun e => absurd e (by omega)⟩
  · left
    have hw := r.lt
    unfold Rl at r
    refine ⟨by unfold Rl; omega, ?_, svM_c1 (fun _ => fr _ _ (by omega)) (fun _ _ => fr _ _ (by omega)) (fun _ => fr _ _ (by omega))⟩
    rw [svC_l hw, svC_l hw]
    exact fr _ _ (by omega)
theorem Inv.set {g G : IG} {hn vn ru tc : Nat} {CS : CSt} (h : Inv g g hn vn ru tc CS) {w0 q : Nat} (hw0 : w0 < 10) {v : Int32} (h7 : w0 = 7 → ∃ j, j < hn ∧ v = nI j) (h00 : w0 = 0 → ∃ n, n ≤ 199 ∧ v = nI n) (d1 : G (37 + 2 + w0) (if w0 = 3 then 0 else q) = v) (d2 : G (rwM w0) (if w0 = 3 then 10 else q) = v) (fr : ∀ i k, ¬ (i = 37 + 2 + w0 ∧ k = (if w0 = 3 then 0 else q)) → ¬ (i = rwM w0 ∧ k = (if w0 = 3 then 10 else q)) → G i k = g i k) : Inv G G hn vn ru tc CS := by
  obtain ⟨s0, ⟨s3, s4, s5⟩, ⟨s6, s7, s8⟩, s9⟩ := h.2.1
  by_cases c3 : w0 = 3
  · subst c3
    have fr2 : ∀ i k, ¬ (i = 42 ∧ k = 0) → ¬ (i = 88 ∧ k = 10) → G i k = g i k := fr
    refine h.sal h.1 (by omega) ⟨s0, ⟨(fr2 _ _ (by omega) (by omega)).trans s3, (fr2 _ _ (by omega) (by omega)).trans s4, (fr2 _ _ (by omega) (by omega)).trans s5⟩, ⟨(fr2 _ _ (by omega) (by omega)).trans s6, (fr2 _ _ (by omega) (by omega)).trans s7, (fr2 _ _ (by omega) (by omega)).trans s8⟩, s9.ext (by omega) (fun w k r => ?_)⟩ (fun i k h1 h2 h3 => fr2 i k (by omega) (by omega)) (fun i k h1 h2 h3 h4 => fr2 i k (by omega) (by omega)) (h.sd.fr (funext fun k => fr2 102 k (by omega) (by omega)))
    by_cases hk : w = 3
    · right
      subst hk
      have hk0 : k = 0 := by unfold Rl at r; omega
      subst hk0
      exact ⟨d1.trans d2.symm, fun e => absurd e (by omega), fun e => absurd e (by omega), fun e => absurd e (by omega)⟩
    · left
      have hw := r.lt
      refine ⟨r, ?_, svM_c1 (fun e => absurd e hk) (fun _ _ => fr2 _ _ (by omega) (by omega)) (fun _ => fr2 _ _ (by omega) (by omega))⟩
      rw [svC_l hw, svC_l hw]
      exact fr2 _ _ (by omega) (by omega)
  · have eR : rwM w0 = 92 + w0 := if_neg c3
    rw [if_neg c3] at d1 d2
    rw [eR] at d2
    have fr2 : ∀ i k, ¬ (i = 37 + 2 + w0 ∧ k = q) → ¬ (i = 92 + w0 ∧ k = q) → G i k = g i k := fun i k h1 h2 => fr i k (by rw [if_neg c3]; exact h1) (by rw [if_neg c3, eR]; exact h2)
    refine h.sal h.1 (by omega) ⟨s0, ⟨(fr2 _ _ (by omega) (by omega)).trans s3, (fr2 _ _ (by omega) (by omega)).trans s4, (fr2 _ _ (by omega) (by omega)).trans s5⟩, ⟨(fr2 _ _ (by omega) (by omega)).trans s6, (fr2 _ _ (by omega) (by omega)).trans s7, (fr2 _ _ (by omega) (by omega)).trans s8⟩, s9.ext (by omega) (fun w k r => ?_)⟩ (fun i k h1 h2 h3 => fr2 i k (by omega) (by omega)) (fun i k h1 h2 h3 h4 => fr2 i k (by omega) (by omega)) (h.sd.fr (funext fun k => fr2 102 k (by omega) (by omega)))
    by_cases hk : w = w0 ∧ k = q
    · right
      obtain ⟨rfl, rfl⟩ := hk
      have e2 : svM G w k = v := by rw [svM_o hw0 c3]; exact d2
      refine ⟨?_, fun e => ?_, fun e => ?_, fun e => absurd e (by omega)⟩
      · rw [svC_l (by omega), e2]
        exact d1
      · rw [e2]
        exact h7 e
      · rw [e2]
        exact h00 e
    · left
      have hw := r.lt
      refine ⟨r, ?_, svM_c1 (fun e => fr2 _ _ (by omega) (by omega)) (fun _ _ => fr2 _ _ (by omega) (by omega)) (fun _ => fr2 _ _ (by omega) (by omega))⟩
      rw [svC_l hw, svC_l hw]
      exact fr2 _ _ (by omega) (by omega)
/-! the words of a refusal -/
theorem inX_i {lo hi x : Int32} : (¬ inX lo hi x = 0) ↔ lo.toInt ≤ x.toInt ∧ x.toInt ≤ hi.toInt := by
  unfold inX
  by_cases h1 : x < lo
  · rw [if_pos h1]
    have := Int32.lt_iff_toInt_lt.mp h1
    exact ⟨fun q => absurd rfl q, fun q => by omega⟩
  · rw [if_neg h1]
    have h1' : ¬ x.toInt < lo.toInt := fun q => h1 (Int32.lt_iff_toInt_lt.mpr q)
    by_cases h2 : hi < x
    · rw [if_pos h2]
      have := Int32.lt_iff_toInt_lt.mp h2
      exact ⟨fun q => absurd rfl q, fun q => by omega⟩
    · rw [if_neg h2]
      have h2' : ¬ hi.toInt < x.toInt := fun q => h2 (Int32.lt_iff_toInt_lt.mpr q)
      exact ⟨fun _ => by omega, fun _ => by decide⟩
theorem dv_c (x c : Int32) (n : Int) (e : c.toInt = n) (h : n = 10 ∨ n = 100) : ∃ q : Int, (x / c).toInt = q ∧ (x - x / c * c).toInt = x.toInt - n * q ∧ (0 ≤ x.toInt → n * q ≤ x.toInt ∧ x.toInt < n * q + n) ∧ (x.toInt < 0 → x.toInt ≤ n * q ∧ n * q - n < x.toInt) := by
  have hx1 := x.toInt_lt
  have hx2 := x.le_toInt
  have hne : c ≠ -1 := by
    intro q
    rw [q] at e
    have : (-1 : Int32).toInt = -1 := by decide
    omega
  have h1 : (x / c).toInt = x.toInt.tdiv n := by rw [Int32.toInt_div_of_ne_right x c hne, e]
  have hq : (0 ≤ x.toInt → n * (x.toInt.tdiv n) ≤ x.toInt ∧ x.toInt < n * (x.toInt.tdiv n) + n) ∧ (x.toInt < 0 → x.toInt ≤ n * (x.toInt.tdiv n) ∧ n * (x.toInt.tdiv n) - n < x.toInt) := by
    constructor
    · intro h0
      rw [Int.tdiv_eq_ediv_of_nonneg h0]
      rcases h with rfl | rfl <;> omega
    · intro h0
      have : x.toInt.tdiv n = -((-x.toInt) / n) := by rw [← Int.tdiv_eq_ediv_of_nonneg (by omega), Int.neg_tdiv, Int.neg_neg]
      rw [this]
      rcases h with rfl | rfl <;> omega
  refine ⟨x.toInt.tdiv n, h1, ?_, hq.1, hq.2⟩
  rw [Int32.toInt_sub, Int32.toInt_mul, h1, e]
  generalize x.toInt.tdiv n = q at hq
  rcases h with rfl | rfl
  · rw [Int.bmod_eq_of_le (n := q * 10) (by omega) (by omega), Int.bmod_eq_of_le (by omega) (by omega)]
    omega
  · rw [Int.bmod_eq_of_le (n := q * 100) (by omega) (by omega), Int.bmod_eq_of_le (by omega) (by omega)]
    omega
theorem hd_eq (wt : Int32) : (¬ inX 0 9 (wt / 100) = 0 ∧ ¬ inX 0 10 (wt - wt / 100 * 100) = 0) ↔ (¬ inX 0 910 wt = 0 ∧ ¬ 10 < wt - wt / 100 * 100) := by
  obtain ⟨q, e1, e2, e3, e4⟩ := dv_c wt 100 100 (by decide) (Or.inr rfl)
  rw [inX_i, inX_i, inX_i, Int32.lt_iff_toInt_lt, e1, e2]
  have k0 : (0 : Int32).toInt = 0 := by decide
  have k9 : (9 : Int32).toInt = 9 := by decide
  have k10 : (10 : Int32).toInt = 10 := by decide
  have k910 : (910 : Int32).toInt = 910 := by decide
  omega
theorem vs_eq (wt : Int32) : (¬ inX 0 20 (wt / 10) = 0 ∧ ¬ inX 0 3 (wt - wt / 10 * 10) = 0) ↔ (¬ inX 0 203 wt = 0 ∧ wt - wt / 10 * 10 < 4) := by
  obtain ⟨q, e1, e2, e3, e4⟩ := dv_c wt 10 10 (by decide) (Or.inl rfl)
  rw [inX_i, inX_i, inX_i, Int32.lt_iff_toInt_lt, e1, e2]
  have k0 : (0 : Int32).toInt = 0 := by decide
  have k3 : (3 : Int32).toInt = 3 := by decide
  have k4 : (4 : Int32).toInt = 4 := by decide
  have k20 : (20 : Int32).toInt = 20 := by decide
  have k203 : (203 : Int32).toInt = 203 := by decide
  omega
theorem inX_rn {x : Int32} {n : Nat} (hn : n < 1000) (h : ¬ inX 0 (nI n) x = 0) : ∃ k, k ≤ n ∧ x = nI k := by
  obtain ⟨h1, h2⟩ := inX_ng h
  exact rng_n (lo := 0) (nI_toInt (by omega)) (by decide) h1 h2
theorem hd_cases {g : IG} {hn : Nat} (h5 : hn ≤ 5) (ki wt wi : Int32) : (∃ c : Int32, hdX g hn ki wt wi = (c, g) ∧ ∀ b, hdM b hn ki wt wi = (c, b)) ∨ (hn < 5 ∧ (∃ k, k < 6 ∧ ki = nI k) ∧ hdX g hn ki wt wi = (nI hn, up2 (up2 (up2 (up2 (up2 g 37 2 (nI (hn + 1))) 49 hn ki) 43 hn (wt / 100)) 44 hn (wt - wt / 100 * 100)) 45 hn wi) ∧ ∀ b, hdM b hn ki wt wi = (nI hn, up2 (up2 (up2 (up2 (up2 b 95 hn ki) 96 hn (wt / 100)) 97 hn (wt - wt / 100 * 100)) 98 hn wi) 88 15 (nI (hn + 1)))) := by
  have f10 : fitsI g 37 10 ki = inX 0 5 ki := rfl
  have f4 : fitsI g 37 4 (wt / 100) = inX 0 9 (wt / 100) := rfl
  have f5 : fitsI g 37 5 (wt - wt / 100 * 100) = inX 0 10 (wt - wt / 100 * 100) := rfl
  have f6 : fitsI g 37 6 wi = inX 0 199 wi := rfl
  unfold hdX hdM
  rw [f10, f4, f5, f6]
  by_cases c1 : inX 0 5 ki = 0
  · exact Or.inl ⟨-2, by rw [if_pos c1], fun b => by rw [if_pos c1]⟩
  have e := hd_eq wt
  by_cases c2 : ¬ inX 0 9 (wt / 100) = 0 ∧ ¬ inX 0 10 (wt - wt / 100 * 100) = 0
  · obtain ⟨r1, r2⟩ := e.mp c2
    by_cases c3 : inX 0 199 wi = 0
    · exact Or.inl ⟨-2, by rw [if_neg c1, if_neg c2.1, if_neg c2.2, if_pos c3], fun b => by rw [if_neg c1, if_neg r1, if_neg r2, if_pos c3]⟩
    by_cases c4 : hn < 5
    · have r4 : ¬ nI hn = 5 := fun q => by
        have := (nI_eq (a := hn) (b := 5) (by omega) (by omega)).mp q
        omega
      obtain ⟨k, hk, ek⟩ := inX_rn (n := 5) (by omega) c1
      exact Or.inr ⟨c4, ⟨k, by omega, ek⟩, by rw [if_neg c1, if_neg c2.1, if_neg c2.2, if_neg c3, if_pos c4], fun b => by rw [if_neg c1, if_neg r1, if_neg r2, if_neg c3, if_neg r4]⟩
    · have r4 : nI hn = 5 := by rw [show hn = 5 by omega]; rfl
      exact Or.inl ⟨-4, by rw [if_neg c1, if_neg c2.1, if_neg c2.2, if_neg c3, if_neg c4], fun b => by rw [if_neg c1, if_neg r1, if_neg r2, if_neg c3, if_pos r4]⟩
  · refine Or.inl ⟨-2, ?_, fun b => ?_⟩
    · rw [if_neg c1]
      by_cases c3 : inX 0 9 (wt / 100) = 0
      · rw [if_pos c3]
      · rw [if_neg c3]
        by_cases c4 : inX 0 10 (wt - wt / 100 * 100) = 0
        · rw [if_pos c4]
        · exact absurd ⟨c3, c4⟩ c2
    · rw [if_neg c1]
      by_cases c3 : inX 0 910 wt = 0
      · rw [if_pos c3]
      · rw [if_neg c3]
        by_cases c4 : 10 < wt - wt / 100 * 100
        · rw [if_pos c4]
        · exact absurd (e.mpr ⟨c3, c4⟩) c2
theorem nv_cases {g : IG} {hn vn : Nat} (h5 : hn ≤ 5) (h8 : vn ≤ 8) (h2 : g 37 2 = nI hn) (hd wt : Int32) : (∃ c : Int32, c < 0 ∧ nvX g vn hd wt = (c, g) ∧ ∀ b, nvM b hn vn hd wt = (c, b)) ∨ (vn < 8 ∧ (∃ k, k < hn ∧ hd = nI k) ∧ nvX g vn hd wt = (nI vn, up2 (up2 (up2 (up2 g 37 3 (nI (vn + 1))) 46 vn hd) 47 vn (wt / 10)) 48 vn (wt - wt / 10 * 10)) ∧ ∀ b, nvM b hn vn hd wt = (nI vn, up2 (up2 (up2 (up2 b 99 vn hd) 100 vn (wt / 10)) 101 vn (wt - wt / 10 * 10)) 88 19 (nI (vn + 1)))) := by
  have f7 : fitsI g 37 7 hd = inI (nI hn) hd := (show fitsI g 37 7 hd = inX 0 (g 37 2 - 1) hd from rfl).trans (by rw [h2]; exact inX_inI (by omega) hd)
  have f8 : fitsI g 37 8 (wt / 10) = inX 0 20 (wt / 10) := rfl
  have f9 : fitsI g 37 9 (wt - wt / 10 * 10) = inX 0 3 (wt - wt / 10 * 10) := rfl
  unfold nvX nvM
  rw [f7, f8, f9]
  by_cases c1 : inI (nI hn) hd = 0
  · exact Or.inl ⟨-2, by decide, by rw [if_pos c1], fun b => by rw [if_pos c1]⟩
  have e := vs_eq wt
  by_cases c2 : ¬ inX 0 20 (wt / 10) = 0 ∧ ¬ inX 0 3 (wt - wt / 10 * 10) = 0
  · obtain ⟨r1, r2⟩ := e.mp c2
    have r2' : ¬ ¬ wt - wt / 10 * 10 < 4 := fun q => q r2
    by_cases c4 : vn < 8
    · have r4 : ¬ nI vn = 8 := fun q => by
        have := (nI_eq (a := vn) (b := 8) (by omega) (by omega)).mp q
        omega
      exact Or.inr ⟨c4, in_ok (by omega) c1, by rw [if_neg c1, if_neg c2.1, if_neg c2.2, if_pos c4], fun b => by rw [if_neg c1, if_neg r1, if_neg r2', if_neg r4]⟩
    · have r4 : nI vn = 8 := by rw [show vn = 8 by omega]; rfl
      exact Or.inl ⟨-4, by decide, by rw [if_neg c1, if_neg c2.1, if_neg c2.2, if_neg c4], fun b => by rw [if_neg c1, if_neg r1, if_neg r2', if_pos r4]⟩
  · refine Or.inl ⟨-2, by decide, ?_, fun b => ?_⟩
    · rw [if_neg c1]
      by_cases c3 : inX 0 20 (wt / 10) = 0
      · rw [if_pos c3]
      · rw [if_neg c3]
        by_cases c4 : inX 0 3 (wt - wt / 10 * 10) = 0
        · rw [if_pos c4]
        · exact absurd ⟨c3, c4⟩ c2
    · rw [if_neg c1]
      by_cases c3 : inX 0 203 wt = 0
      · rw [if_pos c3]
      · rw [if_neg c3]
        by_cases c4 : wt - wt / 10 * 10 < 4
        · exact absurd (e.mpr ⟨c3, c4⟩) c2
        · rw [if_pos c4]
theorem st_hand {g : IG} {hn vn ru tc : Nat} {CS : CSt} (h : Inv g g hn vn ru tc CS) (ki wt wi : Int32) : (hdX g hn ki wt wi).2 88 15 = nI hn ∧ (hdX g hn ki wt wi).1 = (hdM (hdX g hn ki wt wi).2 hn ki wt wi).1 ∧ InvE (hdM (hdX g hn ki wt wi).2 hn ki wt wi).2 := by
  rcases hd_cases (g := g) h.2.1.1.1 ki wt wi with ⟨c, e1, e2⟩ | ⟨h5, hki, e1, e2⟩
  · rw [e1]
    show g 88 15 = nI hn ∧ c = (hdM g hn ki wt wi).1 ∧ InvE (hdM g hn ki wt wi).2
    rw [e2]
    exact ⟨h.2.1.2.2.1.1, rfl, hn, vn, ru, tc, CS, h⟩
  · rw [e1]
    dsimp only
    rw [e2]
    dsimp only
    refine ⟨?_, rfl, hn + 1, vn, ru, tc, CS, h.hand h5 hki (p := wt / 100) (q := wt - wt / 100 * 100) (wi := wi) ⟨?_, up2_s _ _ _ _⟩ ⟨?_, ?_, ?_, ?_, ?_, ?_, ?_, ?_⟩ (fun i k q => ?_)⟩
    · repeat rw [up2_n _ _ (by omega)]
      exact h.2.1.2.2.1.1
    · repeat rw [up2_n _ _ (by omega)]
      exact up2_s _ _ _ _
    · repeat rw [up2_n _ _ (by omega)]
      exact up2_s _ _ _ _
    · repeat rw [up2_n _ _ (by omega)]
      exact up2_s _ _ _ _
    · repeat rw [up2_n _ _ (by omega)]
      exact up2_s _ _ _ _
    · repeat rw [up2_n _ _ (by omega)]
      exact up2_s _ _ _ _
    · repeat rw [up2_n _ _ (by omega)]
      exact up2_s _ _ _ _
    · repeat rw [up2_n _ _ (by omega)]
      exact up2_s _ _ _ _
    · repeat rw [up2_n _ _ (by omega)]
      exact up2_s _ _ _ _
    · repeat rw [up2_n _ _ (by omega)]
      exact up2_s _ _ _ _
    · repeat rw [up2_n _ _ (by omega)]
theorem iv_visit {g : IG} {hn vn ru tc : Nat} {CS : CSt} (h : Inv g g hn vn ru tc CS) (h8 : vn < 8) {hd p q : Int32} (hhd : ∃ k, k < hn ∧ hd = nI k) : Inv (up2 (up2 (up2 (up2 (up2 (up2 (up2 (up2 g 37 3 (nI (vn + 1))) 46 vn hd) 47 vn p) 48 vn q) 99 vn hd) 100 vn p) 101 vn q) 88 19 (nI (vn + 1))) (up2 (up2 (up2 (up2 (up2 (up2 (up2 (up2 g 37 3 (nI (vn + 1))) 46 vn hd) 47 vn p) 48 vn q) 99 vn hd) 100 vn p) 101 vn q) 88 19 (nI (vn + 1))) hn (vn + 1) ru tc CS := by
  refine h.visit h8 hhd (p := p) (q := q) ⟨?_, up2_s _ _ _ _⟩ ⟨?_, ?_, ?_, ?_, ?_, ?_⟩ (fun i k q => ?_)
  · repeat rw [up2_n _ _ (by omega)]
    exact up2_s _ _ _ _
  · repeat rw [up2_n _ _ (by omega)]
    exact up2_s _ _ _ _
  · repeat rw [up2_n _ _ (by omega)]
    exact up2_s _ _ _ _
  · repeat rw [up2_n _ _ (by omega)]
    exact up2_s _ _ _ _
  · repeat rw [up2_n _ _ (by omega)]
    exact up2_s _ _ _ _
  · repeat rw [up2_n _ _ (by omega)]
    exact up2_s _ _ _ _
  · repeat rw [up2_n _ _ (by omega)]
    exact up2_s _ _ _ _
  · repeat rw [up2_n _ _ (by omega)]
theorem st_visit {g : IG} {hn vn ru tc : Nat} {CS : CSt} (h : Inv g g hn vn ru tc CS) (hd wt : Int32) : ((nvX g vn hd wt).2 88 15 = nI hn ∧ (nvX g vn hd wt).2 88 19 = nI vn) ∧ (nvX g vn hd wt).1 = (nvM (nvX g vn hd wt).2 hn vn hd wt).1 ∧ InvE (nvM (nvX g vn hd wt).2 hn vn hd wt).2 := by
  rcases nv_cases (g := g) h.2.1.1.1 h.2.1.1.2 h.2.1.2.1.1 hd wt with ⟨c, -, e1, e2⟩ | ⟨h8, hhd, e1, e2⟩
  · rw [e1]
    dsimp only
    rw [e2]
    exact ⟨⟨h.2.1.2.2.1.1, h.2.1.2.2.1.2.1⟩, rfl, hn, vn, ru, tc, CS, h⟩
  · rw [e1]
    dsimp only
    rw [e2]
    refine ⟨⟨?_, ?_⟩, rfl, hn, vn + 1, ru, tc, CS, iv_visit h h8 hhd⟩
    · repeat rw [up2_n _ _ (by omega)]
      exact h.2.1.2.2.1.1
    · repeat rw [up2_n _ _ (by omega)]
      exact h.2.1.2.2.1.2.1
