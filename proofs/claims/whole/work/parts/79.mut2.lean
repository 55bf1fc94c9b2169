/-! THE OTHER CALLS THAT CHANGE -/
theorem names_at {g : IG} {hn vn w : Nat} {of : Int32} (hw : w < 11) (h2 : g 37 2 = nI hn) (h3 : g 37 3 = nI vn) : namesI g 37 (nI w) of = nmM hn vn (nI w) of := by
  rcases (show w = 0 ∨ w = 1 ∨ w = 2 ∨ w = 3 ∨ w = 4 ∨ w = 5 ∨ w = 6 ∨ w = 7 ∨ w = 8 ∨ w = 9 ∨ w = 10 by omega) with rfl | rfl | rfl | rfl | rfl | rfl | rfl | rfl | rfl | rfl | rfl
  · have a : howMany g 37 (nI 0) = (4 : Int32) := by unfold howMany; rw [if_pos (by decide)]
    have b : nmM hn vn (nI 0) of = inI (4 : Int32) of := by unfold nmM; rw [if_neg (by decide), if_pos (by decide)]
    rw [b]
    unfold namesI inI
    rw [if_neg (by decide), if_neg (by decide), if_neg (by decide), a]
  · have a : howMany g 37 (nI 1) = (4 : Int32) := by unfold howMany; rw [if_neg (by decide), if_pos (by decide)]
    have b : nmM hn vn (nI 1) of = inI (4 : Int32) of := by unfold nmM; rw [if_neg (by decide), if_pos (by decide)]
    rw [b]
    unfold namesI inI
    rw [if_neg (by decide), if_neg (by decide), if_neg (by decide), a]
  · have a : howMany g 37 (nI 2) = (4 : Int32) := by unfold howMany; rw [if_neg (by decide), if_neg (by decide), if_pos (by decide)]
    have b : nmM hn vn (nI 2) of = inI (4 : Int32) of := by unfold nmM; rw [if_neg (by decide), if_pos (by decide)]
    rw [b]
    unfold namesI inI
    rw [if_neg (by decide), if_neg (by decide), if_neg (by decide), a]
  · unfold namesI nmM; rw [if_neg (by decide), if_neg (by decide), if_pos (by decide), if_pos (by decide)]
  · have a : howMany g 37 (nI 4) = (nI hn) := by unfold howMany; rw [if_neg (by decide), if_neg (by decide), if_neg (by decide), if_neg (by decide), if_neg (by decide), if_neg (by decide), h2]
    have b : nmM hn vn (nI 4) of = inI (nI hn) of := by unfold nmM; rw [if_neg (by decide), if_neg (by decide), if_pos (by decide)]
    rw [b]
    unfold namesI inI
    rw [if_neg (by decide), if_neg (by decide), if_neg (by decide), a]
  · have a : howMany g 37 (nI 5) = (nI hn) := by unfold howMany; rw [if_neg (by decide), if_neg (by decide), if_neg (by decide), if_neg (by decide), if_neg (by decide), if_neg (by decide), h2]
    have b : nmM hn vn (nI 5) of = inI (nI hn) of := by unfold nmM; rw [if_neg (by decide), if_neg (by decide), if_pos (by decide)]
    rw [b]
    unfold namesI inI
    rw [if_neg (by decide), if_neg (by decide), if_neg (by decide), a]
  · have a : howMany g 37 (nI 6) = (nI hn) := by unfold howMany; rw [if_neg (by decide), if_neg (by decide), if_neg (by decide), if_neg (by decide), if_neg (by decide), if_neg (by decide), h2]
    have b : nmM hn vn (nI 6) of = inI (nI hn) of := by unfold nmM; rw [if_neg (by decide), if_neg (by decide), if_pos (by decide)]
    rw [b]
    unfold namesI inI
    rw [if_neg (by decide), if_neg (by decide), if_neg (by decide), a]
  · have a : howMany g 37 (nI 7) = (nI vn) := by unfold howMany; rw [if_neg (by decide), if_neg (by decide), if_neg (by decide), if_pos (by decide), h3]
    have b : nmM hn vn (nI 7) of = inI (nI vn) of := by unfold nmM; rw [if_neg (by decide), if_neg (by decide), if_neg (by decide), if_neg (by decide)]
    rw [b]
    unfold namesI inI
    rw [if_neg (by decide), if_neg (by decide), if_neg (by decide), a]
  · have a : howMany g 37 (nI 8) = (nI vn) := by unfold howMany; rw [if_neg (by decide), if_neg (by decide), if_neg (by decide), if_neg (by decide), if_pos (by decide), h3]
    have b : nmM hn vn (nI 8) of = inI (nI vn) of := by unfold nmM; rw [if_neg (by decide), if_neg (by decide), if_neg (by decide), if_neg (by decide)]
    rw [b]
    unfold namesI inI
    rw [if_neg (by decide), if_neg (by decide), if_neg (by decide), a]
  · have a : howMany g 37 (nI 9) = (nI vn) := by unfold howMany; rw [if_neg (by decide), if_neg (by decide), if_neg (by decide), if_neg (by decide), if_neg (by decide), if_pos (by decide), h3]
    have b : nmM hn vn (nI 9) of = inI (nI vn) of := by unfold nmM; rw [if_neg (by decide), if_neg (by decide), if_neg (by decide), if_neg (by decide)]
    rw [b]
    unfold namesI inI
    rw [if_neg (by decide), if_neg (by decide), if_neg (by decide), a]
  · have a : howMany g 37 (nI 10) = (nI hn) := by unfold howMany; rw [if_neg (by decide), if_neg (by decide), if_neg (by decide), if_neg (by decide), if_neg (by decide), if_neg (by decide), h2]
    have b : nmM hn vn (nI 10) of = inI (nI hn) of := by unfold nmM; rw [if_neg (by decide), if_neg (by decide), if_neg (by decide), if_pos (by decide)]
    rw [b]
    unfold namesI inI
    rw [if_neg (by decide), if_neg (by decide), if_neg (by decide), a]
theorem fits_at {g : IG} {hn w : Nat} {v : Int32} (hw : w < 10) (h2 : g 37 2 = nI hn) : fitsI g 37 (nI w) v = ftM hn (nI w) v := by
  rcases (show w = 0 ∨ w = 1 ∨ w = 2 ∨ w = 3 ∨ w = 4 ∨ w = 5 ∨ w = 6 ∨ w = 7 ∨ w = 8 ∨ w = 9 by omega) with rfl | rfl | rfl | rfl | rfl | rfl | rfl | rfl | rfl | rfl
  · exact rfl
  · exact rfl
  · exact rfl
  · exact rfl
  · exact rfl
  · exact rfl
  · exact rfl
  · show inX 0 (g 37 2 - 1) v = inX 0 (nI hn - 1) v; rw [h2]
  · exact rfl
  · exact rfl
theorem nm_Rl {hn vn w q : Nat} {of : Int32} (hw : w < 11) (hq : q < 8) (hh : hn ≤ 5) (hv : vn ≤ 8) (hof : w ≠ 3 → of = nI q) (h0 : ¬ nmM hn vn (nI w) of = 0) : Rl hn vn w (if w = 3 then 0 else q) := by
  have key : ∀ b, b < 100 → ¬ inI (nI b) (nI q) = 0 → q < b := fun b hb hi => by
    obtain ⟨j, hj, e⟩ := in_ok (k := b) (by omega) hi
    rwa [(nI_eq (a := q) (b := j) (by omega) (by omega)).mp e]
  rcases (show w = 0 ∨ w = 1 ∨ w = 2 ∨ w = 3 ∨ w = 4 ∨ w = 5 ∨ w = 6 ∨ w = 7 ∨ w = 8 ∨ w = 9 ∨ w = 10 by omega) with rfl | rfl | rfl | rfl | rfl | rfl | rfl | rfl | rfl | rfl | rfl
  · exact (fun (hb : ¬ inI (nI 4) (nI q) = 0) => by have := key 4 (by omega) hb; unfold Rl; rw [if_neg (by omega)]; omega) (by rw [← hof (by omega)]; exact h0)
  · exact (fun (hb : ¬ inI (nI 4) (nI q) = 0) => by have := key 4 (by omega) hb; unfold Rl; rw [if_neg (by omega)]; omega) (by rw [← hof (by omega)]; exact h0)
  · exact (fun (hb : ¬ inI (nI 4) (nI q) = 0) => by have := key 4 (by omega) hb; unfold Rl; rw [if_neg (by omega)]; omega) (by rw [← hof (by omega)]; exact h0)
  · unfold Rl; rw [if_pos rfl]; omega
  · exact (fun (hb : ¬ inI (nI hn) (nI q) = 0) => by have := key hn (by omega) hb; unfold Rl; rw [if_neg (by omega)]; omega) (by rw [← hof (by omega)]; exact h0)
  · exact (fun (hb : ¬ inI (nI hn) (nI q) = 0) => by have := key hn (by omega) hb; unfold Rl; rw [if_neg (by omega)]; omega) (by rw [← hof (by omega)]; exact h0)
  · exact (fun (hb : ¬ inI (nI hn) (nI q) = 0) => by have := key hn (by omega) hb; unfold Rl; rw [if_neg (by omega)]; omega) (by rw [← hof (by omega)]; exact h0)
  · exact (fun (hb : ¬ inI (nI vn) (nI q) = 0) => by have := key vn (by omega) hb; unfold Rl; rw [if_neg (by omega)]; omega) (by rw [← hof (by omega)]; exact h0)
  · exact (fun (hb : ¬ inI (nI vn) (nI q) = 0) => by have := key vn (by omega) hb; unfold Rl; rw [if_neg (by omega)]; omega) (by rw [← hof (by omega)]; exact h0)
  · exact (fun (hb : ¬ inI (nI vn) (nI q) = 0) => by have := key vn (by omega) hb; unfold Rl; rw [if_neg (by omega)]; omega) (by rw [← hof (by omega)]; exact h0)
  · exact (fun (hb : ¬ inI (nI hn) (nI q) = 0) => by have := key hn (by omega) hb; unfold Rl; rw [if_neg (by omega)]; omega) (by rw [← hof (by omega)]; exact h0)
theorem k_eq {w w' q q' : Nat} {of : Int32} (hw : w < 11) (hw' : w' < 11) (hq : q < 8) (hq' : q' < 8) (e : nI w = nI w') (h : w ≠ 3 → of = nI q) (h' : w' ≠ 3 → of = nI q') : w' = w ∧ (if w' = 3 then 0 else q') = (if w = 3 then 0 else q) ∧ (if w' = 3 then 10 else q') = (if w = 3 then 10 else q) := by
  have e1 : w' = w := ((nI_eq (a := w) (b := w') (by omega) (by omega)).mp e).symm
  subst e1
  by_cases c : w' = 3
  · rw [if_pos c, if_pos c, if_pos c, if_pos c]
    exact ⟨rfl, rfl, rfl⟩
  · rw [if_neg c, if_neg c, if_neg c, if_neg c]
    have : q' = q := (nI_eq (a := q') (b := q) (by omega) (by omega)).mp ((h' c).symm.trans (h c))
    exact ⟨rfl, this, this⟩
theorem svMC {g : IG} {hn vn ru tc : Nat} {CS : CSt} (h : Inv g g hn vn ru tc CS) {w k : Nat} (r : Rl hn vn w k) : g (37 + 2 + w) k = svM g w k := (svC_l r.lt).symm.trans (h.2.1.2.2.2.1 w k r)
theorem st_told {g g1 : IG} {hn vn ru tc : Nat} {CS : CSt} (h : Inv g g hn vn ru tc CS) (of w0 : Int32) {x : Int32} (e1 : g1 = g ∧ ((x = -100 ∧ namesI g 37 w0 of = 0) ∨ ∃ w q : Nat, w < 11 ∧ q < 8 ∧ w0 = nI w ∧ (w ≠ 3 → of = nI q) ∧ ¬ namesI g 37 w0 of = 0 ∧ x = g (37 + 2 + w) (if w = 3 then 0 else q))) : (g1 88 15 = nI hn ∧ g1 88 19 = nI vn) ∧ ∀ (y : Int32) (g2 : IG), (g2 = g1 ∧ ((y = -100 ∧ (inX 0 10 w0 = 0 ∨ nmM hn vn w0 of = 0)) ∨ ∃ w q : Nat, w < 11 ∧ q < 8 ∧ w0 = nI w ∧ (w ≠ 3 → of = nI q) ∧ ¬ nmM hn vn w0 of = 0 ∧ y = svM g1 w (if w = 3 then 0 else q))) → x = y ∧ InvE g2 := by
  obtain ⟨eg, e1⟩ := e1
  rw [eg]
  refine ⟨⟨h.2.1.2.2.1.1, h.2.1.2.2.1.2.1⟩, fun y g2 e2 => ?_⟩
  obtain ⟨eg2, e2⟩ := e2
  rw [eg2]
  refine ⟨?_, hn, vn, ru, tc, CS, h⟩
  have hN : ∀ w, w < 11 → namesI g 37 (nI w) of = nmM hn vn (nI w) of := fun w hw => names_at hw h.2.1.2.1.1 h.2.1.2.1.2.1
  rcases e1 with ⟨ex, c⟩ | ⟨w, q, hw, hq, ew, hof, n1, ex⟩ <;> rcases e2 with ⟨ey, d⟩ | ⟨w', q', hw', hq', ew', hof', n1', ey⟩
  · rw [ex, ey]
  · rw [ew'] at c n1'
    exact absurd ((hN w' hw').symm.trans c) n1'
  · exfalso
    rw [ew] at d
    rcases d with d | d
    · have : ∀ w, w < 11 → ¬ inX 0 10 (nI w) = 0 := by decide
      exact this w hw d
    · exact n1 (by rw [ew, hN w hw]; exact d)
  · obtain ⟨k1, k2, -⟩ := k_eq hw hw' hq hq' (ew.symm.trans ew') hof hof'
    rw [ex, ey, k2, k1]
    rw [ew, hN w hw] at n1
    exact svMC h (nm_Rl hw hq h.2.1.1.1 h.2.1.1.2 hof n1)
theorem st_set {g g1 : IG} {hn vn ru tc : Nat} {CS : CSt} (h : Inv g g hn vn ru tc CS) (w0 of v : Int32) {x : Int32} (e1 : (x = -100 ∧ g1 = g ∧ (w0 = 10 ∨ namesI g 37 w0 of = 0 ∨ fitsI g 37 w0 v = 0)) ∨ ∃ w q : Nat, w < 11 ∧ q < 8 ∧ w0 = nI w ∧ (w ≠ 3 → of = nI q) ∧ ¬ w0 = 10 ∧ ¬ namesI g 37 w0 of = 0 ∧ ¬ fitsI g 37 w0 v = 0 ∧ x = g (37 + 2 + w) (if w = 3 then 0 else q) ∧ g1 = up2 g (37 + 2 + w) (if w = 3 then 0 else q) v) : (g1 88 15 = nI hn ∧ g1 88 19 = nI vn) ∧ ∀ (y : Int32) (g2 : IG), ((y = -100 ∧ g2 = g1 ∧ (inX 0 9 w0 = 0 ∨ nmM hn vn w0 of = 0 ∨ ftM hn w0 v = 0)) ∨ ∃ w q : Nat, w < 10 ∧ q < 8 ∧ w0 = nI w ∧ (w ≠ 3 → of = nI q) ∧ ¬ nmM hn vn w0 of = 0 ∧ ¬ ftM hn w0 v = 0 ∧ y = svM g1 w (if w = 3 then 0 else q) ∧ g2 = up2 g1 (rwM w) (if w = 3 then 10 else q) v) → x = y ∧ InvE g2 := by
  have hN : ∀ w, w < 11 → namesI g 37 (nI w) of = nmM hn vn (nI w) of := fun w hw => names_at hw h.2.1.2.1.1 h.2.1.2.1.2.1
  have hF : ∀ w, w < 10 → fitsI g 37 (nI w) v = ftM hn (nI w) v := fun w hw => fits_at hw h.2.1.2.1.1
  rcases e1 with ⟨ex, eg, c⟩ | ⟨w, q, hw, hq, ew, hof, n10, n1, n2, ex, eg⟩
  · rw [eg]
    refine ⟨⟨h.2.1.2.2.1.1, h.2.1.2.2.1.2.1⟩, fun y g2 e2 => ?_⟩
    rcases e2 with ⟨ey, eg2, d⟩ | ⟨w', q', hw', hq', ew', hof', n1', n2', ey, eg2⟩
    · exact ⟨ex.trans ey.symm, by rw [eg2]; exact ⟨hn, vn, ru, tc, CS, h⟩⟩
    · exfalso
      rw [ew'] at c n1' n2'
      rcases c with c | c | c
      · have := (nI_eq (a := w') (b := 10) (by omega) (by omega)).mp c
        omega
      · exact n1' ((hN w' (by omega)).symm.trans c)
      · exact n2' ((hF w' hw').symm.trans c)
  · have hw10 : w < 10 := by
      have : ¬ w = 10 := fun q => n10 (by rw [ew, q]; rfl)
      omega
    rw [ew, hN w hw] at n1
    rw [ew, hF w hw10] at n2
    have hR := nm_Rl hw hq h.2.1.1.1 h.2.1.1.2 hof n1
    have hg : ∀ i k, 88 ≤ i → g1 i k = g i k := fun i k hi => by rw [eg, up2_n _ _ (by omega)]
    refine ⟨⟨(hg _ _ (by omega)).trans h.2.1.2.2.1.1, (hg _ _ (by omega)).trans h.2.1.2.2.1.2.1⟩, fun y g2 e2 => ?_⟩
    rcases e2 with ⟨ey, eg2, d⟩ | ⟨w', q', hw', hq', ew', hof', n1', n2', ey, eg2⟩
    · exfalso
      rw [ew] at d
      rcases d with d | d | d
      · have : ∀ w, w < 10 → ¬ inX 0 9 (nI w) = 0 := by decide
        exact this w hw10 d
      · exact n1 d
      · exact n2 d
    · obtain ⟨k1, k2, k3⟩ := k_eq hw (by omega) hq hq' (ew.symm.trans ew') hof hof'
      subst k1
      rw [k2] at ey
      rw [k3] at eg2
      constructor
      · rw [ex, ey, svM_cg (b := g) (b' := g1) (fun i k q => hg i k (by omega))]
        exact svMC h hR
      · refine ⟨hn, vn, ru, tc, CS, h.set (w0 := w') (q := q) hw10 (v := v) (fun e => ?_) (fun e => ?_) ?_ ?_ (fun i k c1 c2 => ?_)⟩
        · subst e
          refine in_ok (k := hn) (by have := h.2.1.1; omega) (fun e0 => n2 ?_)
          exact (show ftM hn (nI 7) v = inX 0 (nI hn - 1) v from rfl).trans ((inX_inI (by have := h.2.1.1; omega) v).trans e0)
        · subst e
          exact inX_rn (n := 199) (by omega) (fun e0 => n2 e0)
        · have hr : ¬ 37 + 2 + w' = rwM w' := by
            unfold rwM
            by_cases c3 : w' = 3
            · rw [if_pos c3]; omega
            · rw [if_neg c3]; omega
          rw [eg2, up2_n _ _ (Or.inl hr), eg]
          exact up2_s _ _ _ _
        · rw [eg2]
          exact up2_s _ _ _ _
        · rw [eg2, up2_n _ _ (by omega), eg, up2_n _ _ (by omega)]
theorem in255 {x : Int32} (h1 : ¬ x < 0) : ¬ x < 0 := h1
theorem Inv.tap {g G : IG} {hn vn ru tc : Nat} {CS : CSt} (h : Inv g g hn vn ru tc CS) (hT : TAP G G) (fr : ∀ i k, ¬ ((i = 2 ∧ k = 1) ∨ i = 3 ∨ (i = 88 ∧ k = 6) ∨ i = 91) → G i k = g i k) : Inv G G hn vn ru tc CS := by
  obtain ⟨h0, h1, h2, h3, h4, h5⟩ := h
  exact ⟨h0, h1.fr (fun i k q => fr i k (by omega)) (fun i k q => fr i k (by omega)), h2.fr (fun i k q => fr i k (by omega)) (fun i k q => fr i k (by omega)) (h2.2.2.2.2.2.fr (funext fun k => fr 102 k (by omega))), hT, fun t ht => (h4 t ht).fr (fun k => ⟨fr _ k (by omega), fr _ k (by omega)⟩) ⟨fr _ _ (by omega), fr _ _ (by omega), fr _ _ (by omega), fun i _ => fr _ _ (by omega)⟩, h5.fr (Nat.le_refl _) (Nat.le_refl _) (fun i k q => fr i k (by omega)) (fun i k q => fr i k (by omega))⟩
theorem st_feed {g : IG} {hn vn ru tc : Nat} {CS : CSt} (h : Inv g g hn vn ru tc CS) (x1 : Int32) : ∃ sz, sz ≤ 160 ∧ g 2 1 = nI sz ∧ (fdX g sz x1).2 88 6 = nI sz ∧ (fdX g sz x1).1 = (fdM (fdX g sz x1).2 sz x1).1 ∧ InvE (fdM (fdX g sz x1).2 sz x1).2 := by
  obtain ⟨sz, s1, s2, s3, s4⟩ := h.2.2.2.1
  refine ⟨sz, s1, s2, ?_⟩
  have hI : InvE g := ⟨hn, vn, ru, tc, CS, h⟩
  by_cases c1 : x1 < 0
  · have e1 : fdX g sz x1 = (-2, g) := if_pos c1
    have e2 : fdM g sz x1 = (-2, g) := if_pos (if_pos c1)
    rw [e1]
    dsimp only
    rw [e2]
    exact ⟨s3, rfl, hI⟩
  by_cases c2 : (255 : Int32) < x1
  · have e1 : fdX g sz x1 = (-2, g) := (if_neg c1).trans (if_pos c2)
    have e2 : fdM g sz x1 = (-2, g) := if_pos ((if_neg c1).trans (if_pos c2))
    rw [e1]
    dsimp only
    rw [e2]
    exact ⟨s3, rfl, hI⟩
  have c3 : ¬ inX 0 255 x1 = 0 := by
    unfold inX
    rw [if_neg c1, if_neg c2]
    decide
  by_cases c4 : sz < 160
  · have e4 : ¬ nI sz = 160 := fun q => by
      have := (nI_eq (a := sz) (b := 160) (by omega) (by omega)).mp q
      omega
    have e1 : fdX g sz x1 = (nI (sz + 1), up2 (up2 g 3 sz x1) 2 1 (nI (sz + 1))) := (if_neg c1).trans ((if_neg c2).trans (if_pos c4))
    have e2 : ∀ b, fdM b sz x1 = (nI (sz + 1), up2 (up2 b 91 sz x1) 88 6 (nI (sz + 1))) := fun b => (if_neg c3).trans (if_neg e4)
    rw [e1]
    dsimp only
    rw [e2]
    dsimp only
    refine ⟨?_, rfl, hn, vn, ru, tc, CS, h.tap ⟨sz + 1, by omega, ?_, up2_s _ _ _ _, fun i hi => ?_⟩ (fun i k q => ?_)⟩
    · repeat rw [up2_n _ _ (by omega)]
      exact s3
    · repeat rw [up2_n _ _ (by omega)]
      exact up2_s _ _ _ _
    · by_cases e : i = sz
      · subst e
        constructor
        · rw [up2_n _ _ (by omega), up2_n _ _ (by omega), up2_n _ _ (by omega), up2_s, up2_n _ _ (by omega), up2_s]
        · rw [up2_n _ _ (by omega), up2_s]
          exact c1
      · repeat rw [up2_n _ _ (by omega)]
        exact s4 i (by omega)
    · repeat rw [up2_n _ _ (by omega)]
  · have e4 : nI sz = 160 := by rw [show sz = 160 by omega]; rfl
    have e1 : fdX g sz x1 = (-4, g) := (if_neg c1).trans ((if_neg c2).trans (if_neg c4))
    have e2 : fdM g sz x1 = (-4, g) := (if_neg c3).trans (if_pos e4)
    rw [e1]
    dsimp only
    rw [e2]
    exact ⟨s3, rfl, hI⟩
theorem st_force {g : IG} {hn vn ru tc : Nat} {CS : CSt} (h : Inv g g hn vn ru tc CS) (x1 : Int32) : (if x1 < 0 then g else if x1 < g 0 1 then up2 g 37 4 x1 else g) 88 3 = nI tc ∧ (if x1 < 0 then -2 else if x1 < g 0 1 then g 37 4 else -2) = (foM (if x1 < 0 then g else if x1 < g 0 1 then up2 g 37 4 x1 else g) tc x1).1 ∧ InvE (foM (if x1 < 0 then g else if x1 < g 0 1 then up2 g 37 4 x1 else g) tc x1).2 := by
  have hI : InvE g := ⟨hn, vn, ru, tc, CS, h⟩
  have h01 := h.2.2.1.2.1
  have h3 := h.2.2.1.2.2.1
  by_cases c1 : x1 < 0
  · have e2 : foM g tc x1 = (-2, g) := if_pos (if_pos c1)
    rw [if_pos c1, if_pos c1, e2]
    exact ⟨h3, rfl, hI⟩
  rw [if_neg c1, if_neg c1]
  by_cases c2 : x1 < g 0 1
  · have c3 : ¬ inI (nI tc) x1 = 0 := by
      unfold inI
      rw [if_neg c1, if_neg (fun q => absurd c2 (by rw [h01]; exact Int32.not_lt.mpr q))]
      decide
    obtain ⟨v, hv, ev⟩ := in_ok (k := tc) (by have := h.2.2.1.1; omega) c3
    have e2 : ∀ b, foM b tc x1 = (b 88 4, up2 b 88 4 x1) := fun b => if_neg c3
    rw [if_pos c2, if_pos c2, e2]
    dsimp only
    obtain ⟨s0, ⟨s3, s4, s5⟩, ⟨s6, s7, s8⟩, s9⟩ := h.2.1
    have fr : ∀ i k, ¬ ((i = 37 ∧ k = 4) ∨ (i = 88 ∧ k = 4)) → up2 (up2 g 37 4 x1) 88 4 x1 i k = g i k := fun i k q => by
      repeat rw [up2_n _ _ (by omega)]
    refine ⟨?_, ?_, hn, vn, v, tc, CS, h.sal hv (Nat.le_refl _) ⟨s0, ⟨(fr _ _ (by omega)).trans s3, (fr _ _ (by omega)).trans s4, ?_⟩, ⟨(fr _ _ (by omega)).trans s6, (fr _ _ (by omega)).trans s7, (up2_s _ _ _ _).trans ev⟩, s9.cg (fun w k q => ?_) (fun w k q => svM_cg (fun i k q => fr i k (by omega)) w k)⟩ (fun i k h1 h2 h3 => fr i k (by omega)) (fun i k h1 h2 h3 h4 => fr i k (by omega)) (h.sd.fr (funext fun k => fr 102 k (by omega)))⟩
    · rw [up2_n _ _ (by omega)]
      exact h3
    · rw [up2_n _ _ (by omega)]
      exact s5.trans s8.symm
    · rw [up2_n _ _ (by omega), up2_s]
      exact ev
    · have := q.lt
      rw [svC_l this, svC_l this]
      exact fr _ _ (by omega)
  · have e2 : foM g tc x1 = (-2, g) := if_pos ((if_neg c1).trans (if_pos (by rw [← h01]; exact Int32.not_lt.mp c2)))
    rw [if_neg c2, if_neg c2, e2]
    exact ⟨h3, rfl, hI⟩
theorem st_taken {g : IG} {hn vn ru tc : Nat} {CS : CSt} (h : Inv g g hn vn ru tc CS) (x1 x2 : Int32) : KdS g hn ∧ KdM g hn ∧ takF hn (g 49) (g 43) x1 x2 = tkM g hn x1 x2 := by
  have hS := h.2.1.2.2.2
  have h49 : ∀ k, k < hn → g 49 k = g 95 k := fun k hk => hS.1 10 k (by unfold Rl; omega)
  have h43 : ∀ k, k < hn → g 43 k = g 96 k := fun k hk => hS.1 4 k (by unfold Rl; omega)
  refine ⟨fun k hk => ?_, hS.2.2.2, ?_⟩
  · obtain ⟨j, hj, e⟩ := hS.2.2.2 k hk
    exact ⟨j, hj, (h49 k hk).trans e⟩
  · unfold takF tkM
    rw [show inX 0 5 x2 = inI 6 x2 from inX_inI (n := 6) (by omega) x2]
    by_cases c1 : inI 6 x2 = 0
    · rw [if_pos c1, if_pos c1]
    rw [if_neg c1, if_neg c1]
    by_cases c2 : inI (nI hn) x1 = 0
    · rw [if_pos c2, if_pos c2]
    rw [if_neg c2, if_neg c2]
    obtain ⟨j, hj, ej⟩ := in_ok (k := hn) (by have := h.2.1.1; omega) c2
    rw [ej, clI_n (by have := h.2.1.1; omega), h49 j hj, h43 j hj]
theorem st_count {g : IG} {hn vn ru tc : Nat} {CS : CSt} (h : Inv g g hn vn ru tc CS) (x1 : Int32) : cntX g x1 = cnM g x1 := by
  obtain ⟨sz, s1, s2, s3, s4⟩ := h.2.2.2.1
  have hS := h.2.1.2.2.2
  have hL : ltI g = g 92 0 + g 92 1 + g 92 2 + g 92 3 := by
    unfold ltI
    rw [show g 39 0 = g 92 0 from hS.1 0 0 (by unfold Rl; omega), show g 39 1 = g 92 1 from hS.1 0 1 (by unfold Rl; omega), show g 39 2 = g 92 2 from hS.1 0 2 (by unfold Rl; omega), show g 39 3 = g 92 3 from hS.1 0 3 (by unfold Rl; omega), Int32.zero_add]
  unfold cntX cnM
  rw [h.2.1.2.1.1, h.2.1.2.1.2.1, h.2.1.2.1.2.2, h.2.1.2.2.1.1, h.2.1.2.2.1.2.1, h.2.1.2.2.1.2.2, h.2.2.1.2.1, h.2.2.1.2.2.1, s2, s3, hL]
  by_cases c : inX 0 5 x1 = 0
  · rw [if_pos c]
    have hne : ∀ k, k < 6 → ¬ x1 = nI k := fun k hk e => by
      rw [e] at c
      have : ∀ k, k < 6 → ¬ inX 0 5 (nI k) = 0 := by decide
      exact this k hk c
    rw [if_neg (show ¬ x1 = 0 from hne 0 (by omega)), if_neg (show ¬ x1 = 1 from hne 1 (by omega)), if_neg (show ¬ x1 = 2 from hne 2 (by omega)), if_neg (show ¬ x1 = 3 from hne 3 (by omega)), if_neg (show ¬ x1 = 4 from hne 4 (by omega)), if_neg (show ¬ x1 = 5 from hne 5 (by omega))]
  · rw [if_neg c]
    obtain ⟨k, hk, e⟩ := inX_rn (n := 5) (by omega) c
    subst e
    rcases (show k = 0 ∨ k = 1 ∨ k = 2 ∨ k = 3 ∨ k = 4 ∨ k = 5 by omega) with rfl | rfl | rfl | rfl | rfl | rfl <;> rfl
