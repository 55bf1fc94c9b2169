/-! VISITS FROM A SHEET -/
def glu (a b : IG) : IG := fun i => if i < 88 then a i else b i
theorem glu_a {a b : IG} {i : Nat} (h : i < 88) : glu a b i = a i := if_pos h
theorem glu_b {a b : IG} {i : Nat} (h : 88 ≤ i) : glu a b i = b i := if_neg (by omega)
theorem Inv.glu {a b : IG} {hn vn ru tc : Nat} {CS : CSt} (h : Inv a b hn vn ru tc CS) : Inv (glu a b) (glu a b) hn vn ru tc CS :=
  h.q (fun i hi _ k => congrFun (glu_a hi) k) (fun i k hi _ => congrFun (glu_b hi) k) (h.sd.fr (glu_b (by omega)))
theorem iv_visit2 {a b : IG} {hn vn ru tc : Nat} {CS : CSt} (h : Inv a b hn vn ru tc CS) (h8 : vn < 8) {hd p q : Int32} (hhd : ∃ k, k < hn ∧ hd = nI k) : Inv (up2 (up2 (up2 (up2 a 37 3 (nI (vn + 1))) 46 vn hd) 47 vn p) 48 vn q) (up2 (up2 (up2 (up2 b 99 vn hd) 100 vn p) 101 vn q) 88 19 (nI (vn + 1))) hn (vn + 1) ru tc CS := by
  have H := iv_visit h.glu h8 (p := p) (q := q) hhd
  have eb : ∀ i k, 88 ≤ i → (up2 (up2 (up2 (up2 b 99 vn hd) 100 vn p) 101 vn q) 88 19 (nI (vn + 1))) i k = (up2 (up2 (up2 (up2 (up2 (up2 (up2 (up2 (glu a b) 37 3 (nI (vn + 1))) 46 vn hd) 47 vn p) 48 vn q) 99 vn hd) 100 vn p) 101 vn q) 88 19 (nI (vn + 1))) i k := fun i k hi => up2_cg (up2_cg (up2_cg (up2_cg (((up2_n _ _ (by omega)).trans ((up2_n _ _ (by omega)).trans ((up2_n _ _ (by omega)).trans ((up2_n _ _ (by omega)).trans (congrFun (glu_b hi) k))))).symm))))
  refine H.q (fun i hi _ k => ?_) (fun i k hi _ => eb i k hi) (H.sd.fr (funext fun k => eb 102 k (by omega)))
  rw [up2_n (g := up2 (up2 (up2 (up2 (up2 (up2 (up2 (glu a b) 37 3 (nI (vn + 1))) 46 vn hd) 47 vn p) 48 vn q) 99 vn hd) 100 vn p) 101 vn q) _ (by omega), up2_n (g := up2 (up2 (up2 (up2 (up2 (up2 (glu a b) 37 3 (nI (vn + 1))) 46 vn hd) 47 vn p) 48 vn q) 99 vn hd) 100 vn p) _ (by omega), up2_n (g := up2 (up2 (up2 (up2 (up2 (glu a b) 37 3 (nI (vn + 1))) 46 vn hd) 47 vn p) 48 vn q) 99 vn hd) _ (by omega), up2_n (g := (up2 (up2 (up2 (up2 (glu a b) 37 3 (nI (vn + 1))) 46 vn hd) 47 vn p) 48 vn q)) _ (by omega)]
  exact up2_cg (up2_cg (up2_cg (up2_cg (congrFun (glu_a hi) k).symm)))
theorem vst_d1 : ∀ sz, sz < 41 → ∀ k, k < 9 → ∀ a, a < 41 → sz < a + 2 * k + 2 → ¬ nI a ≤ nI sz - nI (2 * k) - 2 := by decide +kernel
theorem vst_d2 : ∀ sz, sz < 41 → ¬ nI 41 ≤ nI sz - nI (2 * 0) - 2 := by decide +kernel
theorem vstep {sz k : Nat} {f : Int32} (hsz : sz ≤ 40) (hk : k ≤ 8) (h : k = 0 ∨ ∃ a, a ≤ 40 ∧ f = nI a) : (hasR (nI sz) (f + 2 * nI k) 2 = 0 ∧ (f < 0 ∨ (¬ f < 0 ∧ ¬ f ≤ nI sz - nI (2 * k) - 2))) ∨ ∃ a, f = nI a ∧ a + 2 * k + 2 ≤ sz ∧ ¬ hasR (nI sz) (f + 2 * nI k) 2 = 0 ∧ ¬ f < 0 ∧ f ≤ nI sz - nI (2 * k) - 2 ∧ clI (f + 2 * nI k) = a + 2 * k ∧ clI f = a := by
  by_cases hA : ∃ a, a ≤ 40 ∧ f = nI a
  · obtain ⟨a, ha, rfl⟩ := hA
    have e : nI a + 2 * nI k = nI (a + 2 * k) := by rw [show (2 : Int32) = nI 2 from rfl, pk_mul, nI_add]
    rw [e]
    by_cases hc : a + 2 * k + 2 ≤ sz
    · right
      refine ⟨a, rfl, hc, ?_, nI_pos (by omega), ?_, clI_n (by omega), clI_n (by omega)⟩
      · rw [show (2 : Int32) = nI 2 from rfl, hasR_1 hsz (by omega)]
        decide
      · rw [show (2 : Int32) = nI 2 from rfl, pk_sub (by omega), pk_sub (by omega)]
        exact (nI_leI (by omega) (by omega)).mpr (by omega)
    · left
      refine ⟨?_, Or.inr ⟨nI_pos (by omega), vst_d1 sz (by omega) k (by omega) a (by omega) (by omega)⟩⟩
      by_cases hz : hasR (nI sz) (nI (a + 2 * k)) 2 = 0
      · exact hz
      · obtain ⟨a', k', e1, e2, e3⟩ := hasR_ok hsz hz
        have w1 : a + 2 * k = a' := (nI_eq (by omega) (by omega)).mp e1
        have w2 : 2 = k' := (nI_eq (a := 2) (b := k') (by omega) (by omega)).mp e2
        omega
  · have hk0 : k = 0 := h.elim id (fun q => absurd q hA)
    subst hk0
    have e : f + 2 * nI 0 = f := by rw [show (2 : Int32) * nI 0 = 0 by decide, Int32.add_zero]
    rw [e]
    left
    rcases pk_ix f (n := 41) (by omega) with c | c | ⟨j, hj, c⟩
    · exact ⟨if_pos c, Or.inl c⟩
    · have c0 : ¬ f < 0 := fun q => absurd (Int32.lt_of_le_of_lt c q) (by decide)
      refine ⟨?_, Or.inr ⟨c0, fun q => vst_d2 sz (by omega) (Int32.le_trans c q)⟩⟩
      by_cases hz : hasR (nI sz) f 2 = 0
      · exact hz
      · obtain ⟨a', k', e1, e2, e3⟩ := hasR_ok hsz hz
        exact absurd ⟨a', by omega, e1⟩ hA
    · exact absurd ⟨j, by omega, c⟩ hA
theorem vis_ind {hn ru tc : Nat} {CS : CSt} {row row' : Nat → Int32} {sz : Nat} {f : Int32} (hsz : sz ≤ 40) (hrow : ∀ i, i < sz → row i = row' i) : ∀ (n k : Nat), n + k ≤ 8 → (k = 0 ∨ ∃ a, a ≤ 40 ∧ f = nI a) → ∀ (ca : Int32) (a b : IG) (vn : Nat), Inv a b hn vn ru tc CS → (vsL row sz f n k ca a vn).1 = (vsM hn row' sz f n k ca b vn).1 ∧ ∃ vn', Inv (vsL row sz f n k ca a vn).2 (vsM hn row' sz f n k ca b vn).2 hn vn' ru tc CS := by
  intro n
  induction n with
  | zero =>
    intro k hk h ca a b vn hI
    exact ⟨rfl, vn, hI⟩
  | succ n ih =>
    intro k hk h ca a b vn hI
    rw [vsL_s, vsM_s]
    rcases vstep hsz (by omega) h with ⟨c1, c2⟩ | ⟨p, ef, hp, c1, c2, c3, e1, e2⟩
    · rw [if_pos c1]
      rcases c2 with c2 | ⟨c2, c3⟩
      · rw [if_pos c2]
        exact ⟨rfl, vn, hI⟩
      · rw [if_neg c2, if_neg c3]
        exact ⟨rfl, vn, hI⟩
    · rw [if_neg c1, if_neg c2, if_pos c3, e1, e2, hrow _ (by omega), hrow _ (by omega)]
      generalize row' (p + 2 * k) = hd
      generalize row' (p + 2 * k + 1) = wt
      have hk' : k + 1 = 0 ∨ ∃ a, a ≤ 40 ∧ f = nI a := Or.inr ⟨p, by omega, ef⟩
      unfold nvN nvO
      rcases nv_cases (g := a) hI.2.1.1.1 hI.2.1.1.2 hI.2.1.2.1.1 hd wt with ⟨c, hc, q1, q2⟩ | ⟨h8, hhd, q1, q2⟩
      · rw [q1, q2 b]
        dsimp only
        repeat rw [if_pos hc]
        rw [Int32.add_zero]
        exact ih (k + 1) (by omega) hk' ca a b vn hI
      · rw [q1, q2 b]
        dsimp only
        have hp0 : ¬ nI vn < 0 := nI_pos (by omega)
        repeat rw [if_neg hp0]
        exact ih (k + 1) (by omega) hk' _ _ _ _ (iv_visit2 hI h8 hhd)
theorem vsL_o {row : Nat → Int32} {sz : Nat} {f : Int32} {i : Nat} (hi : 88 ≤ i) : ∀ (n k : Nat) (ca : Int32) (g : IG) (vn : Nat), (vsL row sz f n k ca g vn).2 i = g i
  | 0, _, _, _, _ => rfl
  | n + 1, k, ca, g, vn => by
    rw [vsL_s]
    split
    · rfl
    · rw [vsL_o hi n, nvX_fr (by omega)]
theorem vsM_o {hn : Nat} {row : Nat → Int32} {sz : Nat} {f : Int32} {i j : Nat} (hi : i < 88) : ∀ (n k : Nat) (ca : Int32) (g : IG) (vn : Nat), (vsM hn row sz f n k ca g vn).2 i j = g i j
  | 0, _, _, _, _ => rfl
  | n + 1, k, ca, g, vn => by
    rw [vsM_s]
    split
    · rfl
    · split
      · rw [vsM_o hi n, nvM_fr (by omega)]
      · rfl
theorem st_visits {g g1 : IG} {hn vn ru tc : Nat} {CS : CSt} (h : Inv g g hn vn ru tc CS) (x1 x2 x3 x4 : Int32) {x : Int32} (e1 : ((inI 4 x1 = 0 ∨ x2 < 0 ∨ 2 < x2 ∨ x4 < 0 ∨ 8 < x4) ∧ x = -2 ∧ g1 = g) ∨ ∃ t sz n, t < 4 ∧ sz ≤ 40 ∧ n ≤ 8 ∧ x1 = nI t ∧ x4 = nI n ∧ g (29 + 2 * t) 2 = nI sz ∧ ¬ x2 < 0 ∧ ¬ 2 < x2 ∧ ((g (29 + 2 * t) 1 = -1 ∧ x = -11 ∧ g1 = g) ∨ (¬ g (29 + 2 * t) 1 = -1 ∧ ((¬ g (29 + 2 * t) 1 = x2 ∧ x = -13 ∧ g1 = g) ∨ (g (29 + 2 * t) 1 = x2 ∧ x = (vsL (g (29 + 2 * t + 1)) sz x3 n 0 0 g vn).1 ∧ g1 = (vsL (g (29 + 2 * t + 1)) sz x3 n 0 0 g vn).2))))) : (g1 88 15 = nI hn ∧ g1 88 19 = nI vn ∧ ShMX g1) ∧ ∀ (y : Int32) (g2 : IG), (((inI 4 x1 = 0 ∨ inX 0 2 x2 = 0 ∨ inX 0 8 x4 = 0) ∧ y = -2 ∧ g2 = g1) ∨ ∃ t n, t < 4 ∧ n ≤ 8 ∧ x1 = nI t ∧ x4 = nI n ∧ ¬ inX 0 2 x2 = 0 ∧ ((g1 111 t = 0 ∧ y = -11 ∧ g2 = g1) ∨ (¬ g1 111 t = 0 ∧ ((¬ g1 112 t = x2 ∧ y = -13 ∧ g2 = g1) ∨ (g1 112 t = x2 ∧ ∃ sz, sz ≤ 40 ∧ g1 113 t = nI sz ∧ y = (vsM hn (fun q => g1 114 (40 * t + q)) sz x3 n 0 0 g1 vn).1 ∧ g2 = (vsM hn (fun q => g1 114 (40 * t + q)) sz x3 n 0 0 g1 vn).2))))) → x = y ∧ InvE g2 := by
  have hI : InvE g := ⟨hn, vn, ru, tc, CS, h⟩
  have hg : ∀ i, 88 ≤ i → g1 i = g i := fun i hi => by
    rcases e1 with ⟨-, -, eg⟩ | ⟨t, sz, n, -, -, -, -, -, -, -, -, ⟨-, -, eg⟩ | ⟨-, ⟨-, -, eg⟩ | ⟨-, -, eg⟩⟩⟩
    · rw [eg]
    · rw [eg]
    · rw [eg]
    · rw [eg, vsL_o hi]
  have h1 := h.cq hg
  have dn : ∀ (a : Int32), x = a → g1 = g → ∀ (y : Int32) (g2 : IG), y = a → g2 = g1 → x = y ∧ InvE g2 := fun a ex eg y g2 ey eg2 => ⟨ex.trans ey.symm, by rw [eg2, eg]; exact hI⟩
  refine ⟨⟨h1.2.1.2.2.1.1, h1.2.1.2.2.1.2.1, h1.shm⟩, fun y g2 e2 => ?_⟩
  have k2 : (2 : Int32) = nI 2 := rfl
  have k8 : (8 : Int32) = nI 8 := rfl
  rcases e1 with ⟨c, ex, eg⟩ | ⟨t, sz, n, ht, hsz, hn8, et, e4, h2, c1, c2, e1⟩
  · rcases e2 with ⟨-, ey, eg2⟩ | ⟨t, n, ht, hn8, et, e4, c2, -⟩
    · exact dn _ ex eg y g2 ey eg2
    · exfalso
      rcases c with c | c | c | c | c
      · exact in4_t ht et c
      · exact (inX_ng c2).1 c
      · exact (inX_ng c2).2 c
      · rw [e4] at c
        exact nI_pos (by omega) c
      · rw [e4] at c
        have := (nI_ltI (a := 8) (b := n) (by omega) (by omega)).mp c
        omega
  · have i2 : ¬ inX 0 2 x2 = 0 := by
      unfold inX
      rw [if_neg c1, if_neg c2]
      decide
    rcases e2 with ⟨c, -⟩ | ⟨t', n', ht', hn8', et', e4', -, e2⟩
    · exfalso
      rcases c with c | c | c
      · exact in4_t ht et c
      · exact i2 c
      · rw [e4] at c
        exact inX_t (n := 8) (by omega) hn8 c
    have q1 : t' = t := ((nI_eq (a := t) (b := t') (by omega) (by omega)).mp (et.symm.trans et')).symm
    have q2 : n' = n := ((nI_eq (a := n) (b := n') (by omega) (by omega)).mp (e4.symm.trans e4')).symm
    subst q1
    subst q2
    obtain ⟨sz0, s1, s2, s3⟩ := h.2.2.2.2.1 t' ht
    have esz : sz0 = sz := (nI_eq (a := sz0) (b := sz) (by omega) (by omega)).mp (s2.symm.trans h2)
    subst esz
    rw [hg 111 (by omega), hg 112 (by omega), hg 113 (by omega)] at e2
    rcases e1 with ⟨c, ex, eg⟩ | ⟨c, e1⟩
    · rcases s3 with s3 | s3
      · rcases e2 with ⟨-, ey, eg2⟩ | ⟨q, -⟩
        · exact dn _ ex eg y g2 ey eg2
        · exact absurd s3.2 q
      · exact absurd c s3.1
    · rcases s3 with s3 | ⟨-, s4, s5, s6, s7⟩
      · exact absurd s3.1 c
      rcases e2 with ⟨q, -⟩ | ⟨-, e2⟩
      · exact absurd q s4
      rw [s5] at e2
      rcases e1 with ⟨c3, ex, eg⟩ | ⟨c3, ex, eg⟩
      · rcases e2 with ⟨-, ey, eg2⟩ | ⟨q, -⟩
        · exact dn _ ex eg y g2 ey eg2
        · exact absurd q c3
      · rcases e2 with ⟨q, -⟩ | ⟨-, sz', r1, r2, ey, eg2⟩
        · exact absurd c3 q
        rw [s6] at r2
        have e6 : sz' = sz0 := (nI_eq (a := sz') (b := sz0) (by omega) (by omega)).mp r2.symm
        subst e6
        obtain ⟨w1, vn', w2⟩ := vis_ind (row := g (29 + 2 * t' + 1)) (row' := fun q => g1 114 (40 * t' + q)) (f := x3) hsz (fun i hi => (s7 i hi).trans (congrFun (hg 114 (by omega)) _).symm) n' 0 (by omega) (Or.inl rfl) 0 g g1 vn h1
        rw [← eg, ← eg2] at w2
        refine ⟨ex.trans (w1.trans ey.symm), hn, vn', ru, tc, CS, w2.q (fun i hi _ k => ?_) (fun _ _ _ _ => rfl) w2.sd⟩
        rw [eg2, vsM_o hi]
