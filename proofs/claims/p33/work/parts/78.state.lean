/-! THE STATE BETWEEN THE LAW'S CALLS -/
/-- hn hands, vn visits, the first text rules -/
def Bs (g : IG) (hn vn : Nat) : Prop := XP g hn vn 0 1 (fun _ => M0) ∧ ShX g
theorem svL {g : IG} {w k : Nat} (h : w < 11) : svC g 37 w k = g (39 + w) k := if_pos h
theorem Bs.new {g : IG} (h : CG g) : Bs g 0 0 := by
  obtain ⟨h1, h2, h3, h4, h5, h6, h7, h8, h9, h10⟩ := h
  refine ⟨⟨⟨by omega, by omega, by omega, by omega⟩, h6, h7, h8, h1, fun t ht => ?_, fun v hv => absurd hv (by omega)⟩, fun t ht => ⟨0, by omega, (h5 t ht).2⟩⟩
  rw [show t = 0 by omega]
  exact h4
theorem Bs.q {g g1 : IG} {hn vn : Nat} (h : Bs g hn vn) (hF : Fr scr g g1) : Bs g1 hn vn ∧ svC g1 37 = svC g 37 := by
  refine ⟨⟨h.1.fr hF, fun t ht => ?_⟩, funext fun w => funext fun k => svC_fr hF w k⟩
  obtain ⟨sz, a, b⟩ := h.2 t ht
  exact ⟨sz, a, by rw [hF _ (by unfold scr; omega)]; exact b⟩
theorem svC_up {g : IG} {w k : Nat} {v : Int32} (hw : w < 11) : svC (up2 g (39 + w) k v) 37 = up2 (svC g 37) w k v := by
  funext i j
  by_cases hi : i < 11
  · rw [svL hi]
    by_cases e : i = w ∧ j = k
    · rw [e.1, e.2, up2_s, up2_s]
    · rw [up2_n _ _ (by omega), up2_n _ _ (by omega), svL hi]
  · rw [up2_n _ _ (by omega)]
    unfold svC
    rw [if_neg hi, if_neg hi, up2_n _ _ (by omega)]
theorem Bs.set {g : IG} {hn vn w k : Nat} {v : Int32} (h : Bs g hn vn) (hw : w < 11) (h7 : w = 7 → ∃ j, j < hn ∧ v = nI j) : Bs (up2 g (39 + w) k v) hn vn ∧ svC (up2 g (39 + w) k v) 37 = up2 (svC g 37) w k v := by
  obtain ⟨⟨a0, a1, a2, a3, a4, a5, a6⟩, b⟩ := h
  have o : ∀ i j, i < 39 → up2 g (39 + w) k v i j = g i j := fun i j hi => up2_n _ _ (by omega)
  refine ⟨⟨⟨a0, (o _ _ (by omega)).trans a1, (o _ _ (by omega)).trans a2, (o _ _ (by omega)).trans a3, (o _ _ (by omega)).trans a4, fun t ht => (a5 t ht).up (funext fun j => o _ j (by omega)) (funext fun j => o _ j (by omega)), ?_⟩, fun t ht => ?_⟩, svC_up hw⟩
  · rw [svC_up hw]
    by_cases e : w = 7
    · subst e
      obtain ⟨j, hj, rfl⟩ := h7 rfl
      exact a6.up7 k hj
    · exact a6.up k v e
  · obtain ⟨sz, c, d⟩ := b t ht
    exact ⟨sz, c, (o _ _ (by omega)).trans d⟩
theorem names_p {g : IG} {w q : Nat} (hw : w < 3) (hq : q < 4) : ¬ namesI g 37 (nI w) (nI q) = 0 := by
  have hm : howMany g 37 (nI w) = nI 4 := by
    unfold howMany
    rcases (show w = 0 ∨ w = 1 ∨ w = 2 by omega) with rfl | rfl | rfl
    · rw [if_pos (by decide)]; rfl
    · rw [if_neg (by decide), if_pos (by decide)]; rfl
    · rw [if_neg (by decide), if_neg (by decide), if_pos (by decide)]; rfl
  unfold namesI
  rw [if_neg (nI_pos (by omega)), if_neg (show ¬ (11 : Int32) ≤ nI w from nI_ge (b := 11) (by omega) (by omega)), if_neg (show ¬ nI w = 3 from fun q => by
    have := (nI_eq (a := w) (b := 3) (by omega) (by omega)).mp q
    omega), if_neg (nI_pos (by omega)), hm, if_neg (nI_ge hq (by omega))]
  decide
theorem names_m {g : IG} {q : Int32} : ¬ namesI g 37 (nI 3) q = 0 := by
  unfold namesI
  rw [if_neg (by decide), if_neg (by decide), if_pos (by decide)]
  decide
theorem names_y {g : IG} {w q vn : Nat} (hw : w = 7 ∨ w = 9) (h3 : g 37 3 = nI vn) (hq : q < vn) (hv : vn ≤ 8) : ¬ namesI g 37 (nI w) (nI q) = 0 := by
  have hm : howMany g 37 (nI w) = nI vn := by
    unfold howMany
    rcases hw with rfl | rfl
    · rw [if_neg (by decide), if_neg (by decide), if_neg (by decide), if_pos (by decide), h3]
    · rw [if_neg (by decide), if_neg (by decide), if_neg (by decide), if_neg (by decide), if_neg (by decide), if_pos (by decide), h3]
  unfold namesI
  rw [if_neg (nI_pos (by omega)), if_neg (show ¬ (11 : Int32) ≤ nI w from nI_ge (b := 11) (by omega) (by omega)), if_neg (show ¬ nI w = 3 from fun q => by
    have := (nI_eq (a := w) (b := 3) (by omega) (by omega)).mp q
    omega), if_neg (nI_pos (by omega)), hm, if_neg (nI_ge hq (by omega))]
  decide
theorem fits_n {g : IG} {w0 : Int32} {M v : Nat} (hm : most g 37 w0 = nI M) (hv : v ≤ M) (hM : M < 1000) : ¬ fitsI g 37 w0 (nI v) = 0 := by
  have hn : ¬ nI v < (if w0 = 3 then -1 else 0) := by
    have h0 := nI_pos (n := v) (by omega)
    by_cases e : w0 = 3
    · rw [if_pos e]
      intro q
      have h1 := Int32.lt_iff_toInt_lt.mp q
      have h2 : ((-1 : Int32)).toInt = -1 := by decide
      have h3 := nI_toInt (n := v) (by omega)
      omega
    · rw [if_neg e]
      exact h0
  unfold fitsI
  rw [if_neg hn, hm, if_neg (nI_nlt hv (by omega))]
  decide
theorem most_l {g : IG} {w : Nat} (hw : w < 4 ∨ w = 6) : most g 37 (nI w) = nI 199 := by
  unfold most
  rcases (show w = 0 ∨ w = 1 ∨ w = 2 ∨ w = 3 ∨ w = 6 by omega) with rfl | rfl | rfl | rfl | rfl
  all_goals
    rw [if_neg (by decide), if_neg (by decide), if_neg (by decide), if_neg (by decide), if_neg (by decide), if_neg (by decide)]
    rfl
theorem most_4 {g : IG} : most g 37 (nI 4) = nI 9 := by
  unfold most
  rw [if_pos (by decide)]
  rfl
theorem most_5 {g : IG} : most g 37 (nI 5) = nI 10 := by
  unfold most
  rw [if_neg (by decide), if_pos (by decide)]
  rfl
theorem most_7 {g : IG} {hn : Nat} (h2 : g 37 2 = nI (hn + 1)) : most g 37 (nI 7) = nI hn := by
  unfold most
  rw [if_neg (by decide), if_neg (by decide), if_pos (by decide), h2, nI_pred]
theorem most_8 {g : IG} : most g 37 (nI 8) = nI 20 := by
  unfold most
  rw [if_neg (by decide), if_neg (by decide), if_neg (by decide), if_pos (by decide)]
  rfl
theorem most_9 {g : IG} : most g 37 (nI 9) = nI 3 := by
  unfold most
  rw [if_neg (by decide), if_neg (by decide), if_neg (by decide), if_neg (by decide), if_pos (by decide)]
  rfl
theorem most_10 {g : IG} : most g 37 (nI 10) = nI 5 := by
  unfold most
  rw [if_neg (by decide), if_neg (by decide), if_neg (by decide), if_neg (by decide), if_neg (by decide), if_pos (by decide)]
  rfl
/-- what set() leaves, where it takes -/
theorem set_ok {g g1 : IG} {w q : Nat} {x v : Int32} (hw : w < 10) (hq : q < 8) (h3 : w = 3 → q = 0) (hn : ¬ namesI g 37 (nI w) (nI q) = 0) (hf : ¬ fitsI g 37 (nI w) v = 0)
    (h : (x = -100 ∧ g1 = g ∧ (nI w = 10 ∨ namesI g 37 (nI w) (nI q) = 0 ∨ fitsI g 37 (nI w) v = 0)) ∨ ∃ w' q' : Nat, w' < 11 ∧ q' < 8 ∧ nI w = nI w' ∧ (w' ≠ 3 → nI q = nI q') ∧ ¬ nI w = 10 ∧ ¬ namesI g 37 (nI w) (nI q) = 0 ∧ ¬ fitsI g 37 (nI w) v = 0 ∧ x = g (37 + 2 + w') (if w' = 3 then 0 else q') ∧ g1 = up2 g (37 + 2 + w') (if w' = 3 then 0 else q') v) : g1 = up2 g (39 + w) q v := by
  rcases h with ⟨-, -, h | h | h⟩ | ⟨w', q', a1, a2, a3, a4, -, -, -, -, a5⟩
  · have := (nI_eq (a := w) (b := 10) (by omega) (by omega)).mp h
    omega
  · exact absurd h hn
  · exact absurd h hf
  · have e := (nI_eq (a := w) (b := w') (by omega) (by omega)).mp a3
    subst e
    rw [a5]
    by_cases e3 : w = 3
    · rw [if_pos e3, h3 e3]
    · have e2 := (nI_eq (a := q) (b := q') (by omega) (by omega)).mp (a4 e3)
      rw [if_neg e3, e2]
/-- a hand more -/
def hdG (g : IG) (hn ki num sh wi : Nat) : IG := up2 (up2 (up2 (up2 (up2 g 37 2 (nI (hn + 1))) 49 hn (nI ki)) 43 hn (nI num)) 44 hn (nI sh)) 45 hn (nI wi)
theorem hand_ok {g : IG} {hn ki num sh wi : Nat} {wt : Int32} (hn5 : hn < 5) (hk : ki ≤ 5) (hnu : num ≤ 9) (hsh : sh ≤ 10) (hwi : wi ≤ 199) (hwt : wt = nI (100 * num + sh)) : hdX g hn (nI ki) wt (nI wi) = (nI hn, hdG g hn ki num sh wi) := by
  have e1 : wt / 100 = nI num := by
    rw [hwt, show (100 : Int32) = nI 100 from rfl, pk_div (by omega) (by omega) (by omega)]
    congr 1
    omega
  have e2 : wt - wt / 100 * 100 = nI sh := by
    rw [hwt, show (100 : Int32) = nI 100 from rfl, pk_rem (by omega) (by omega) (by omega)]
    congr 1
    omega
  unfold hdX
  rw [e2, e1, if_neg (fits_n (w0 := 10) most_10 hk (by omega)), if_neg (fits_n (w0 := 4) most_4 hnu (by omega)), if_neg (fits_n (w0 := 5) most_5 hsh (by omega)), if_neg (fits_n (w0 := 6) (most_l (w := 6) (by omega)) hwi (by omega)), if_pos hn5]
  rfl
theorem hdG_sv {g : IG} {hn ki num sh wi w k : Nat} (hw : w < 11) (h : ¬ (k = hn ∧ (w = 4 ∨ w = 5 ∨ w = 6 ∨ w = 10))) : svC (hdG g hn ki num sh wi) 37 w k = svC g 37 w k := by
  rw [svL hw, svL hw]
  unfold hdG
  rw [up2_n _ _ (by omega), up2_n _ _ (by omega), up2_n _ _ (by omega), up2_n _ _ (by omega), up2_n _ _ (by omega)]
theorem hdG_at {g : IG} {hn ki num sh wi : Nat} : svC (hdG g hn ki num sh wi) 37 10 hn = nI ki ∧ svC (hdG g hn ki num sh wi) 37 4 hn = nI num ∧ svC (hdG g hn ki num sh wi) 37 5 hn = nI sh ∧ svC (hdG g hn ki num sh wi) 37 6 hn = nI wi := by
  rw [svL (by omega), svL (by omega), svL (by omega), svL (by omega)]
  unfold hdG
  refine ⟨?_, ?_, ?_, ?_⟩
  · rw [up2_n _ _ (by omega), up2_n _ _ (by omega), up2_n _ _ (by omega), up2_s]
  · rw [up2_n _ _ (by omega), up2_n _ _ (by omega), up2_s]
  · rw [up2_n _ _ (by omega), up2_s]
  · rw [up2_s]
theorem Bs.hand {g : IG} {hn vn ki num sh wi : Nat} (h : Bs g hn vn) (hn5 : hn < 5) : Bs (hdG g hn ki num sh wi) (hn + 1) vn := by
  obtain ⟨⟨a0, a1, a2, a3, a4, a5, a6⟩, b⟩ := h
  have o : ∀ i j, i < 39 → ¬ (i = 37 ∧ j = 2) → hdG g hn ki num sh wi i j = g i j := fun i j hi hj => by
    unfold hdG
    rw [up2_n _ _ (by omega), up2_n _ _ (by omega), up2_n _ _ (by omega), up2_n _ _ (by omega), up2_n _ _ (by omega)]
  have e2 : hdG g hn ki num sh wi 37 2 = nI (hn + 1) := by
    unfold hdG
    rw [up2_n _ _ (by omega), up2_n _ _ (by omega), up2_n _ _ (by omega), up2_n _ _ (by omega), up2_s]
  refine ⟨⟨⟨by omega, a0.2.1, a0.2.2.1, a0.2.2.2⟩, e2, (o _ _ (by omega) (by omega)).trans a2, (o _ _ (by omega) (by omega)).trans a3, (o _ _ (by omega) (by omega)).trans a4, fun t ht => (a5 t ht).up (funext fun j => o _ j (by omega) (by omega)) (funext fun j => o _ j (by omega) (by omega)), fun v hv => ?_⟩, fun t ht => ?_⟩
  · obtain ⟨j, hj, e⟩ := a6 v hv
    exact ⟨j, by omega, (hdG_sv (by omega) (by omega)).trans e⟩
  · obtain ⟨sz, c, d⟩ := b t ht
    exact ⟨sz, c, (o _ _ (by omega) (by omega)).trans d⟩
/-- a visit more -/
def nvG (g : IG) (vn h w : Nat) : IG := up2 (up2 (up2 (up2 g 37 3 (nI (vn + 1))) 46 vn (nI h)) 47 vn (nI w)) 48 vn (nI 0)
theorem visit_ok {g : IG} {hn vn h w : Nat} {wt : Int32} (h2 : g 37 2 = nI hn) (hh : h < hn) (hn5 : hn ≤ 5) (hw : w ≤ 20) (hv : vn < 8) (hwt : wt = nI (10 * w)) : nvX g vn (nI h) wt = (nI vn, nvG g vn h w) := by
  have e1 : wt / 10 = nI w := by
    rw [hwt, show (10 : Int32) = nI 10 from rfl, pk_div (by omega) (by omega) (by omega)]
    congr 1
    omega
  have e2 : wt - wt / 10 * 10 = nI 0 := by
    rw [hwt, show (10 : Int32) = nI 10 from rfl, pk_rem (by omega) (by omega) (by omega)]
    congr 1
    omega
  obtain ⟨hm, rfl⟩ : ∃ hm, hn = hm + 1 := ⟨hn - 1, by omega⟩
  unfold nvX
  rw [e2, e1, if_neg (fits_n (w0 := 7) (most_7 h2) (by omega) (by omega)), if_neg (fits_n (w0 := 8) most_8 hw (by omega)), if_neg (fits_n (w0 := 9) most_9 (by omega) (by omega)), if_pos hv]
  rfl
theorem nvG_sv {g : IG} {vn h w i k : Nat} (hi : i < 11) (hk : ¬ (k = vn ∧ (i = 7 ∨ i = 8 ∨ i = 9))) : svC (nvG g vn h w) 37 i k = svC g 37 i k := by
  rw [svL hi, svL hi]
  unfold nvG
  rw [up2_n _ _ (by omega), up2_n _ _ (by omega), up2_n _ _ (by omega), up2_n _ _ (by omega)]
theorem nvG_at {g : IG} {vn h w : Nat} : svC (nvG g vn h w) 37 7 vn = nI h ∧ svC (nvG g vn h w) 37 8 vn = nI w ∧ svC (nvG g vn h w) 37 9 vn = 0 := by
  rw [svL (by omega), svL (by omega), svL (by omega)]
  unfold nvG
  refine ⟨?_, ?_, ?_⟩
  · rw [up2_n _ _ (by omega), up2_n _ _ (by omega), up2_s]
  · rw [up2_n _ _ (by omega), up2_s]
  · rw [up2_s]
    rfl
theorem Bs.visit {g : IG} {hn vn h w : Nat} (H : Bs g hn vn) (hh : h < hn) (hv : vn < 8) : Bs (nvG g vn h w) hn (vn + 1) := by
  obtain ⟨⟨a0, a1, a2, a3, a4, a5, a6⟩, b⟩ := H
  have o : ∀ i j, i < 39 → ¬ (i = 37 ∧ j = 3) → nvG g vn h w i j = g i j := fun i j hi hj => by
    unfold nvG
    rw [up2_n _ _ (by omega), up2_n _ _ (by omega), up2_n _ _ (by omega), up2_n _ _ (by omega)]
  have e2 : nvG g vn h w 37 3 = nI (vn + 1) := by
    unfold nvG
    rw [up2_n _ _ (by omega), up2_n _ _ (by omega), up2_n _ _ (by omega), up2_s]
  refine ⟨⟨⟨a0.1, by omega, a0.2.2.1, a0.2.2.2⟩, (o _ _ (by omega) (by omega)).trans a1, e2, (o _ _ (by omega) (by omega)).trans a3, (o _ _ (by omega) (by omega)).trans a4, fun t ht => (a5 t ht).up (funext fun j => o _ j (by omega) (by omega)) (funext fun j => o _ j (by omega) (by omega)), fun v hv9 => ?_⟩, fun t ht => ?_⟩
  · by_cases e : v = vn
    · rw [e]
      exact ⟨h, hh, nvG_at.1⟩
    · obtain ⟨j, hj, e9⟩ := a6 v (by omega)
      exact ⟨j, hj, (nvG_sv (by omega) (by omega)).trans e9⟩
  · obtain ⟨sz, c, d⟩ := b t ht
    exact ⟨sz, c, (o _ _ (by omega) (by omega)).trans d⟩
/-- a film of the place 2, over both visits -/
theorem film_ok {g g1 : IG} {x : Int32} (H : Bs g 2 2) (h : ((inI 4 (nI 0) = 0 ∨ inI 4 (nI 2) = 0 ∨ nI 2 < 0 ∨ nI 2 < nI 2) ∧ x = -2 ∧ g1 = g) ∨ ∃ t pl n, t < 4 ∧ pl < 4 ∧ n ≤ 2 ∧ nI 0 = nI t ∧ nI 2 = nI pl ∧ nI 2 = nI n ∧ x = nI n ∧ (Fr (scS t) g g1 ∧ g1 (29 + 2 * t) 1 = 1 ∧ g1 (29 + 2 * t) 2 = nI n ∧ (∀ j, j < 40 → g1 (29 + 2 * t + 1) j = flmR (fun v => cvS 1 ((crs M0 (svC g 37) (v + 1)).1 pl)) n j))) : Bs g1 2 2 ∧ svC g1 37 = svC g 37 ∧ shF g1 0 = (1, 2, g1 30) ∧ Fm (svC g1 37) (g1 30) := by
  rcases h with ⟨h | h | h | h, -⟩ | ⟨t, pl, n, h1, h2, h3, h4, h5, h6, -, hF, f1, f2, f3⟩
  · exact absurd h (in4 (by omega))
  · exact absurd h (in4 (by omega))
  · exact absurd h (by decide)
  · exact absurd h (by decide)
  · have e0 := (nI_eq (a := 0) (b := t) (by omega) (by omega)).mp h4
    have e2 := (nI_eq (a := 2) (b := pl) (by omega) (by omega)).mp h5
    have e3 := (nI_eq (a := 2) (b := n) (by omega) (by omega)).mp h6
    subst e0
    subst e2
    subst e3
    obtain ⟨⟨a0, a1, a2, a3, a4, a5, a6⟩, b⟩ := H
    have o : ∀ i, i < 64 → ¬ (i < 29 ∧ 8 ≤ i ∧ i % 4 = 0) → i ≠ 29 → i ≠ 30 → g1 i = g i := fun i h1 h2 h3 h4 => hF i (by unfold scS scr; omega)
    have es : svC g1 37 = svC g 37 := funext fun w => funext fun k => by
      unfold svC
      split
      · rw [o _ (by omega) (by omega) (by omega) (by omega)]
      · rw [o 37 (by omega) (by omega) (by omega) (by omega)]
    refine ⟨⟨⟨a0, ?_, ?_, ?_, ?_, fun t ht => (a5 t ht).up (o _ (by omega) (by omega) (by omega) (by omega)) (o _ (by omega) (by omega) (by omega) (by omega)), by rw [es]; exact a6⟩, fun t ht => ?_⟩, es, ?_, ?_⟩
    · rw [o 37 (by omega) (by omega) (by omega) (by omega)]; exact a1
    · rw [o 37 (by omega) (by omega) (by omega) (by omega)]; exact a2
    · rw [o 37 (by omega) (by omega) (by omega) (by omega)]; exact a3
    · rw [o 0 (by omega) (by omega) (by omega) (by omega)]; exact a4
    · by_cases e : t = 0
      · rw [e]
        exact ⟨2, by omega, f2⟩
      · obtain ⟨sz, c, d⟩ := b t ht
        exact ⟨sz, c, by rw [o _ (by omega) (by omega) (by omega) (by omega)]; exact d⟩
    · show (g1 29 1, clI (g1 29 2), g1 30) = (1, 2, g1 30)
      have q1 : g1 29 1 = 1 := f1
      have q2 : g1 29 2 = nI 2 := f2
      rw [q1, q2, cl_n (by omega)]
    · intro j hj
      rw [es]
      have := f3 j (by omega)
      unfold flmR at this
      rw [if_pos hj] at this
      exact this
theorem film_q {g g1 : IG} (hF : Fr scr g g1) (hs : shF g 0 = (1, 2, g 30)) (hm : Fm (svC g 37) (g 30)) : shF g1 0 = (1, 2, g1 30) ∧ Fm (svC g1 37) (g1 30) := by
  have e : g1 30 = g 30 := hF 30 (by unfold scr; omega)
  have e2 : g1 29 = g 29 := hF 29 (by unfold scr; omega)
  have es : svC g1 37 = svC g 37 := funext fun w => funext fun k => svC_fr hF w k
  refine ⟨?_, ?_⟩
  · show (g1 29 1, clI (g1 29 2), g1 30) = (1, 2, g1 30)
    rw [e2, e]
    exact hs
  · rw [es, e]
    exact hm
