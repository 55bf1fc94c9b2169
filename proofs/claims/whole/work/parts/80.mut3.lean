/-! TEXTS, COURSES, PICTURES KEPT -/
theorem st_go {g g1 : IG} {hn vn ru tc : Nat} {CS : CSt} (h : Inv g g hn vn ru tc CS) (x1 : Int32) {x : Int32} (e1 : (inI (nI vn) x1 = 0 ∧ x = goF (TMx CS ru) (svC g 37) vn x1 ∧ g1 = g) ∨ ∃ v, v < vn ∧ x1 = nI v ∧ x = goF (TMx CS ru) (svC g 37) vn x1 ∧ Fr scX g g1 ∧ E4 (g1 39) (stL (TMx CS ru) (svC g 37) v (svC g 37 0) (svC g 37 1)) ∧ E4 (g1 40) (stL (TMx CS ru) (svC g 37) v (svC g 37 0) (svC g 37 1))) : XM g1 hn vn ru tc CS ∧ ∀ (y : Int32) (g2 : IG), ((inI (nI vn) x1 = 0 ∧ y = goF (TMx CS ru) (svM g1) vn x1 ∧ g2 = g1) ∨ ∃ v, v < vn ∧ x1 = nI v ∧ y = goF (TMx CS ru) (svM g1) vn x1 ∧ FrC g1 g2 ∧ E4 (g2 92) (stL (TMx CS ru) (svM g1) v ((svM g1) 0) ((svM g1) 1)) ∧ E4 (g2 93) (stL (TMx CS ru) (svM g1) v ((svM g1) 0) ((svM g1) 1)) ∧ SdI g2 tc CS ∧ Ln (g2 92)) → x = y ∧ InvE g2 := by
  have h8 : vn ≤ 8 := h.2.1.1.2
  rcases e1 with ⟨c, ex, eg⟩ | ⟨v, hv, ev, ex, hF, hL, hA⟩
  · rw [eg]
    refine ⟨h.xm, fun y g2 e2 => ?_⟩
    rcases e2 with ⟨-, ey, eg2⟩ | ⟨v', hv', ev', -⟩
    · exact ⟨ex.trans ((rq_go h.rq h.hd h.2.1.1.1 h8 x1).trans ey.symm), by rw [eg2]; exact ⟨hn, vn, ru, tc, CS, h⟩⟩
    · rw [ev'] at c
      exact absurd c (inI_1' hv' (by omega))
  · have h1 := h.cq (b' := g1) (fun i hi => hF i (by unfold scX scr; omega))
    refine ⟨h1.xm, fun y g2 e2 => ?_⟩
    rcases e2 with ⟨c, -, -⟩ | ⟨v', hv', ev', ey, hF2, hL2, hA2, hS2, hN2⟩
    · rw [ev] at c
      exact absurd c (inI_1' hv (by omega))
    · have ev2 : v' = v := ((nI_eq (a := v) (b := v') (by omega) (by omega)).mp (ev.symm.trans ev')).symm
      subst ev2
      refine ⟨ex.trans ((rq_go h1.rq h.hd h.2.1.1.1 h8 x1).trans ey.symm), hn, vn, ru, tc, CS, ?_⟩
      have hE := rq_st (M := (TMx CS ru)) h1.rq h.hd h.2.1.1.1 hv
      obtain ⟨s0, ⟨s3, s4, s5⟩, ⟨s6, s7, s8⟩, s9⟩ := h.2.1
      have fc : ∀ i k, i < 88 → ¬ scr i → i ≠ 39 → i ≠ 40 → g2 i k = g i k := fun i k hi hs h3 h4 => (hF2 i k (by omega)).trans (congrFun (hF i (fun q => q.elim hs (fun q => by omega))) k)
      have fm : ∀ i k, 88 ≤ i → ¬ ((i = 92 ∨ i = 93) ∧ k < 4 ∨ i = 102 ∨ (i = 88 ∧ (20 ≤ k ∧ k ≤ 37 ∨ k = 39))) → g2 i k = g i k := fun i k hi hq => (hF2 i k hq).trans (congrFun (hF i (by unfold scX scr; omega)) k)
      refine h.sal h.1 (Nat.le_refl _) ⟨s0, ⟨(fc _ _ (by omega) (by unfold scr; omega) (by omega) (by omega)).trans s3, (fc _ _ (by omega) (by unfold scr; omega) (by omega) (by omega)).trans s4, (fc _ _ (by omega) (by unfold scr; omega) (by omega) (by omega)).trans s5⟩, ⟨(fm _ _ (by omega) (by omega)).trans s6, (fm _ _ (by omega) (by omega)).trans s7, (fm _ _ (by omega) (by omega)).trans s8⟩, s9.ext (Nat.le_refl _) (fun w k r => ?_)⟩ (fun i k q1 q2 q3 => fc i k q1 q2 (by omega) (by omega)) (fun i k q1 q2 q3 q4 => fm i k q1 (by omega)) hS2
      by_cases hw : w = 0 ∨ w = 1
      · right
        have hk : k < 4 := by unfold Rl at r; omega
        rcases hw with rfl | rfl
        · have c1 : svC g2 37 0 k = g1 39 k := hF2 39 k (by omega)
          refine ⟨?_, fun e => absurd e (by omega), fun _ => hN2 k hk, fun e => absurd e (by omega)⟩
          rw [c1, hL k hk, hE k hk]
          exact (hL2 k hk).symm
        · have c1 : svC g2 37 1 k = g1 40 k := hF2 40 k (by omega)
          refine ⟨?_, fun e => absurd e (by omega), fun e => absurd e (by omega), fun e => absurd e (by omega)⟩
          rw [c1, hA k hk, hE k hk]
          exact (hA2 k hk).symm
      · left
        have hw2 := r.lt
        refine ⟨r, ?_, svM_c1 (fun _ => fm _ _ (by omega) (by omega)) (fun _ _ => fm _ _ (by omega) (by omega)) (fun _ => fm _ _ (by omega) (by omega))⟩
        rw [svC_l hw2, svC_l hw2]
        exact fc _ _ (by omega) (by unfold scr; omega) (by omega) (by omega)
theorem Inv.sh {g G : IG} {hn vn ru tc : Nat} {CS : CSt} (h : Inv g g hn vn ru tc CS) {t : Nat} (ht : t < 4) (hS : SH1 G G t) (ha : ∀ i k, i < 88 → ¬ scr i → i ≠ 29 + 2 * t → i ≠ 29 + 2 * t + 1 → G i k = g i k) (hb : ∀ i k, 88 ≤ i → ¬ (102 ≤ i ∧ i ≤ 107) → ¬ (i = 88 ∧ (20 ≤ k ∧ k ≤ 37 ∨ k = 39)) → ¬ ((i = 111 ∨ i = 112 ∨ i = 113) ∧ k = t) → ¬ (i = 114 ∧ 40 * t ≤ k ∧ k < 40 * t + 40) → G i k = g i k) (hs : SdI G tc CS) : Inv G G hn vn ru tc CS := by
  obtain ⟨h0, h1, h2, h3, h4, h5⟩ := h
  refine ⟨h0, h1.fr (fun i k q => ha i k (by omega) (by unfold scr; omega) (by omega) (by omega)) (fun i k q => hb i k (by omega) (by omega) (by omega) (by omega) (by omega)), h2.fr (fun i k q => ha i k (by omega) (by unfold scr; omega) (by omega) (by omega)) (fun i k q => hb i k (by omega) (by omega) (by omega) (by omega) (by omega)) hs, h3.fr (fun i k q => ha i k (by omega) (by unfold scr; omega) (by omega) (by omega)) (fun i k q => hb i k (by omega) (by omega) (by omega) (by omega) (by omega)), fun u hu => ?_, h5.fr (Nat.le_refl _) (Nat.le_refl _) (fun i k q => ha i k (by omega) (by unfold scr; omega) (by omega) (by omega)) (fun i k q => hb i k (by omega) (by omega) (by omega) (by omega) (by omega))⟩
  by_cases e : u = t
  · rw [e]
    exact hS
  · exact (h4 u hu).fr (fun k => ⟨ha _ k (by omega) (by unfold scr; omega) (by omega) (by omega), ha _ k (by omega) (by unfold scr; omega) (by omega) (by omega)⟩) ⟨hb _ _ (by omega) (by omega) (by omega) (by omega) (by omega), hb _ _ (by omega) (by omega) (by omega) (by omega) (by omega), hb _ _ (by omega) (by omega) (by omega) (by omega) (by omega), fun i _ => hb _ _ (by omega) (by omega) (by omega) (by omega) (by omega)⟩
theorem in4_t {x : Int32} {t : Nat} (ht : t < 4) (e : x = nI t) : ¬ inI 4 x = 0 := by
  rw [e]
  exact inI_1' (k := 4) ht (by omega)
theorem inX_t {n k : Nat} (hn : n < 1000) (hk : k ≤ n) : ¬ inX 0 (nI n) (nI k) = 0 := by
  unfold inX
  rw [if_neg (nI_pos (by omega)), if_neg (fun q => by have := (nI_ltI (a := n) (b := k) (by omega) (by omega)).mp q; omega)]
  decide
theorem st_film {g g1 : IG} {hn vn ru tc : Nat} {CS : CSt} (h : Inv g g hn vn ru tc CS) (x1 x2 x3 : Int32) {x : Int32} (e1 : ((inI 4 x1 = 0 ∨ inI 4 x2 = 0 ∨ x3 < 0 ∨ nI vn < x3) ∧ x = -2 ∧ g1 = g) ∨ ∃ t pl n, t < 4 ∧ pl < 4 ∧ n ≤ vn ∧ x1 = nI t ∧ x2 = nI pl ∧ x3 = nI n ∧ x = nI n ∧ (Fr (scS t) g g1 ∧ g1 (29 + 2 * t) 1 = 1 ∧ g1 (29 + 2 * t) 2 = nI n ∧ (∀ j, j < 40 → g1 (29 + 2 * t + 1) j = flmR (fun v => cvS 1 ((crs (TMx CS ru) (svC g 37) (v + 1)).1 pl)) n j))) : XM g1 hn vn ru tc CS ∧ ∀ (y : Int32) (g2 : IG), (((inI 4 x1 = 0 ∨ inI 4 x2 = 0 ∨ inX 0 (nI vn) x3 = 0) ∧ y = -2 ∧ g2 = g1) ∨ ∃ t pl n, t < 4 ∧ pl < 4 ∧ n ≤ vn ∧ x1 = nI t ∧ x2 = nI pl ∧ x3 = nI n ∧ y = nI n ∧ FrM t n g1 g2 ∧ g2 111 t = 1 ∧ g2 112 t = 1 ∧ g2 113 t = nI n ∧ (∀ u, u < n → g2 114 (40 * t + u) = (crs (TMx CS ru) (svM g1) (u + 1)).1 pl) ∧ SdI g2 tc CS) → x = y ∧ InvE g2 := by
  have h8 : vn ≤ 8 := h.2.1.1.2
  rcases e1 with ⟨c, ex, eg⟩ | ⟨t, pl, n, ht, hpl, hn1, e1, e2, e3, ex, hF, hs, hz, hr⟩
  · rw [eg]
    refine ⟨h.xm, fun y g2 e2 => ?_⟩
    rcases e2 with ⟨-, ey, eg2⟩ | ⟨t, pl, n, ht, hpl, hn1, e1, e2, e3, -⟩
    · exact ⟨ex.trans ey.symm, by rw [eg2]; exact ⟨hn, vn, ru, tc, CS, h⟩⟩
    · exfalso
      rcases c with c | c | c | c
      · exact in4_t ht e1 c
      · exact in4_t hpl e2 c
      · rw [e3] at c
        exact nI_pos (by omega) c
      · rw [e3] at c
        have := (nI_ltI (a := vn) (b := n) (by omega) (by omega)).mp c
        omega
  · have h1 := h.cq (b' := g1) (fun i hi => hF i (by unfold scS scr; omega))
    refine ⟨h1.xm, fun y g2 e4 => ?_⟩
    rcases e4 with ⟨c, -, -⟩ | ⟨t', pl', n', ht', hpl', hn1', e1', e2', e3', ey, hF2, a1, a2, a3, hr2, hS2⟩
    · exfalso
      rcases c with c | c | c
      · exact in4_t ht e1 c
      · exact in4_t hpl e2 c
      · rw [e3] at c
        exact inX_t (by omega) hn1 c
    · have q1 : t' = t := ((nI_eq (a := t) (b := t') (by omega) (by omega)).mp (e1.symm.trans e1')).symm
      have q2 : pl' = pl := ((nI_eq (a := pl) (b := pl') (by omega) (by omega)).mp (e2.symm.trans e2')).symm
      have q3 : n' = n := ((nI_eq (a := n) (b := n') (by omega) (by omega)).mp (e3.symm.trans e3')).symm
      subst q1
      subst q2
      subst q3
      refine ⟨ex.trans ey.symm, hn, vn, ru, tc, CS, h.sh ht ⟨n', by omega, (hF2 _ _ (by omega)).trans hz, Or.inr ⟨?_, ?_, ?_, a3, fun i hi => ?_⟩⟩ (fun i k r1 r2 r3 r4 => (hF2 _ _ (by omega)).trans (congrFun (hF i (fun q => q.elim r2 (fun q => by omega))) k)) (fun i k r1 r2 r3 r4 r5 => (hF2 _ _ (by omega)).trans (congrFun (hF i (by unfold scS scr; omega)) k)) hS2⟩
      · rw [hF2 _ _ (by omega), hs]
        decide
      · rw [a1]
        decide
      · rw [a2, hF2 _ _ (by omega), hs]
      · have c1 := h1.rq.crs (M := (TMx CS ru)) h.hd h.2.1.1.1 (v := i + 1) (by omega)
        rw [hF2 _ _ (by omega), hr i (by omega), hr2 i hi, ← c1.1 pl' hpl]
        obtain ⟨j, hj, ej⟩ := crs_Ln (M := (TMx CS ru)) (a := svC g 37) (v := i) pl' hpl
        unfold flmR
        rw [if_pos hi]
        dsimp only
        rw [ej]
        exact cvS1_ok j hj
theorem st_image {g g1 : IG} {hn vn ru tc : Nat} {CS : CSt} (h : Inv g g hn vn ru tc CS) (eg : g1 = up2 (bcF g 50 37) 0 5 1) {y : Int32} {g2 : IG} (e2 : y = g1 88 19 ∧ (∀ i k, ¬ ((108 ≤ i ∧ i ≤ 110) ∨ (i = 88 ∧ 48 ≤ k ∧ k ≤ 51)) → g2 i k = g1 i k) ∧ ImM g1 g2 ∧ g2 88 48 = g1 88 19 ∧ g2 88 49 = g1 88 15 ∧ g2 88 50 = g1 88 10 ∧ g2 88 51 = g1 88 4) : nI vn = y ∧ InvE g2 := by
  obtain ⟨ey, fr, ⟨i1, i2, i3⟩, k1, k2, k3, k4⟩ := e2
  have b1 : ∀ i k, ¬ ((i = 0 ∧ k = 5) ∨ (50 ≤ i ∧ i ≤ 62)) → g1 i k = g i k := fun i k q => by
    rw [eg, up2_n _ _ (by omega), bcF_out (by omega)]
  have b2 : ∀ i k, ¬ ((i = 0 ∧ k = 5) ∨ (50 ≤ i ∧ i ≤ 62)) → ¬ ((108 ≤ i ∧ i ≤ 110) ∨ (i = 88 ∧ 48 ≤ k ∧ k ≤ 51)) → g2 i k = g i k := fun i k q r => (fr i k r).trans (b1 i k q)
  obtain ⟨h0, h1, h2, h3, h4, h5⟩ := h
  have b3 : ∀ i k, 50 ≤ i → i ≤ 62 → g2 i k = bcF g 50 37 i k := fun i k q r => (fr i k (by omega)).trans (by rw [eg, up2_n _ _ (by omega)])
  refine ⟨?_, hn, vn, ru, tc, CS, h0, h1.fr (fun i k q => b2 i k (by omega) (by omega)) (fun i k q => b2 i k (by omega) (by omega)), h2.fr (fun i k q => b2 i k (by omega) (by omega)) (fun i k q => b2 i k (by omega) (by omega)) (h2.2.2.2.2.2.fr (funext fun k => b2 102 k (by omega) (by omega))), h3.fr (fun i k q => b2 i k (by omega) (by omega)) (fun i k q => b2 i k (by omega) (by omega)), fun t ht => (h4 t ht).fr (fun k => ⟨b2 _ k (by omega) (by omega), b2 _ k (by omega) (by omega)⟩) ⟨b2 _ _ (by omega) (by omega), b2 _ _ (by omega) (by omega), b2 _ _ (by omega) (by omega), fun i _ => b2 _ _ (by omega) (by omega)⟩, Or.inr ⟨?_, hn, vn, ru, Nat.le_refl _, h1.1.1, h1.1.2, h0, ⟨?_, ?_, ?_⟩, ⟨?_, ?_, ?_⟩, h1.2.2.2.cg (fun w k q => ?_) (fun w k q => ?_)⟩⟩
  · rw [ey, b1 _ _ (by omega)]
    exact h1.2.2.1.2.1.symm
  · rw [fr 0 5 (by omega), eg, up2_s]
    decide
  · rw [b3 50 2 (by omega) (by omega)]
    exact (bcF_int (k := 0) (by omega)).trans h1.2.1.1
  · rw [b3 50 3 (by omega) (by omega)]
    exact (bcF_int (k := 1) (by omega)).trans h1.2.1.2.1
  · rw [b3 50 4 (by omega) (by omega)]
    exact (bcF_int (k := 2) (by omega)).trans h1.2.1.2.2
  · rw [k1, b1 _ _ (by omega)]
    exact h1.2.2.1.2.1
  · rw [k2, b1 _ _ (by omega)]
    exact h1.2.2.1.1
  · rw [k4, b1 _ _ (by omega)]
    exact h1.2.2.1.2.2
  · have hw := q.lt
    have hk : k < 8 := by have := h1.1; unfold Rl at q; omega
    rw [svC_l hw, b3 _ _ (by omega) (by omega), ← bcF_sv (g := g) (so := 50) (ot := 37) (Or.inr (Or.inl rfl)) hk (Or.inl hw), svC_l hw]
  · have hw := q.lt
    have hb := h1.1
    unfold Rl at q
    rcases (show w = 0 ∨ w = 1 ∨ w = 2 ∨ w = 3 ∨ w = 4 ∨ w = 5 ∨ w = 6 ∨ w = 7 ∨ w = 8 ∨ w = 9 ∨ w = 10 by omega) with rfl | rfl | rfl | rfl | rfl | rfl | rfl | rfl | rfl | rfl | rfl
    · show g2 108 (4 * 0 + k) = g 92 k
      rw [show 4 * 0 + k = k by omega, (i1 k (by omega)).1, b1 _ _ (by omega)]
    · show g2 108 (4 * 1 + k) = g 93 k
      rw [show 4 * 1 + k = 4 + k by omega, (i1 k (by omega)).2.1, b1 _ _ (by omega)]
    · show g2 108 (4 * 2 + k) = g 94 k
      rw [show 4 * 2 + k = 8 + k by omega, (i1 k (by omega)).2.2, b1 _ _ (by omega)]
    · show g2 88 50 = g 88 10
      rw [k3, b1 _ _ (by omega)]
    · show g2 109 (5 * (4 - 4) + k) = g 96 k
      rw [show 5 * (4 - 4) + k = k by omega, (i2 k (by omega)).1, b1 _ _ (by omega)]
    · show g2 109 (5 * (5 - 4) + k) = g 97 k
      rw [show 5 * (5 - 4) + k = 5 + k by omega, (i2 k (by omega)).2.1, b1 _ _ (by omega)]
    · show g2 109 (5 * (6 - 4) + k) = g 98 k
      rw [show 5 * (6 - 4) + k = 10 + k by omega, (i2 k (by omega)).2.2, b1 _ _ (by omega)]
    · show g2 110 (8 * (7 - 7) + k) = g 99 k
      rw [show 8 * (7 - 7) + k = k by omega, (i3 k (by omega)).1, b1 _ _ (by omega)]
    · show g2 110 (8 * (8 - 7) + k) = g 100 k
      rw [show 8 * (8 - 7) + k = 8 + k by omega, (i3 k (by omega)).2.1, b1 _ _ (by omega)]
    · show g2 110 (8 * (9 - 7) + k) = g 101 k
      rw [show 8 * (9 - 7) + k = 16 + k by omega, (i3 k (by omega)).2.2, b1 _ _ (by omega)]
    · show g2 95 k = g 95 k
      exact b2 _ _ (by omega) (by omega)
theorem st_back {g g1 : IG} {hn vn ru tc : Nat} {CS : CSt} (h : Inv g g hn vn ru tc CS) {x : Int32} (e1 : (g 0 5 = 0 ∧ x = -3 ∧ g1 = g) ∨ (¬ g 0 5 = 0 ∧ x = g 50 3 ∧ g1 = bcF g 37 50)) {y : Int32} {g2 : IG} (e2 : (g1 88 48 = -1 ∧ y = -3 ∧ g2 = g1) ∨ (¬ g1 88 48 = -1 ∧ y = g1 88 48 ∧ (∀ i k, ¬ ((i = 92 ∨ i = 93 ∨ i = 94) ∧ k < 4 ∨ (i = 96 ∨ i = 97 ∨ i = 98) ∧ k < 5 ∨ (i = 99 ∨ i = 100 ∨ i = 101) ∧ k < 8 ∨ (i = 88 ∧ (k = 19 ∨ k = 15 ∨ k = 10 ∨ k = 4))) → g2 i k = g1 i k) ∧ ImM g2 g1 ∧ g2 88 19 = g1 88 48 ∧ g2 88 15 = g1 88 49 ∧ g2 88 10 = g1 88 50 ∧ g2 88 4 = g1 88 51)) : x = y ∧ InvE g2 := by
  have hI : InvE g := ⟨hn, vn, ru, tc, CS, h⟩
  obtain ⟨h0, h1, h2, h3, h4, h5⟩ := h
  rcases h5 with ⟨d1, d2⟩ | ⟨d1, hk, vk, rk, p1, p2, p3, p4, ⟨p5, p6, p7⟩, ⟨p8, p9, p10⟩, p11⟩
  · rcases e1 with ⟨-, ex, eg⟩ | ⟨c, -⟩
    · rw [eg] at e2
      rcases e2 with ⟨-, ey, eg2⟩ | ⟨c, -⟩
      · exact ⟨ex.trans ey.symm, by rw [eg2]; exact hI⟩
      · exact absurd d2 c
    · exact absurd d1 c
  · rcases e1 with ⟨c, -⟩ | ⟨-, ex, eg⟩
    · exact absurd c d1
    have b1 : ∀ i k, ¬ (37 ≤ i ∧ i ≤ 49) → g1 i k = g i k := fun i k q => by rw [eg, bcF_out (by omega)]
    rcases e2 with ⟨c, -⟩ | ⟨-, ey, fr, ⟨i1, i2, i3⟩, k1, k2, k3, k4⟩
    · rw [b1 _ _ (by omega), p8] at c
      exact absurd c (nI_nm (by omega))
    have b2 : ∀ i k, ¬ (37 ≤ i ∧ i ≤ 49) → ¬ ((i = 92 ∨ i = 93 ∨ i = 94) ∧ k < 4 ∨ (i = 96 ∨ i = 97 ∨ i = 98) ∧ k < 5 ∨ (i = 99 ∨ i = 100 ∨ i = 101) ∧ k < 8 ∨ (i = 88 ∧ (k = 19 ∨ k = 15 ∨ k = 10 ∨ k = 4))) → g2 i k = g i k := fun i k q r => (fr i k r).trans (b1 i k q)
    have b3 : ∀ i k, 37 ≤ i → i ≤ 49 → g2 i k = bcF g 37 50 i k := fun i k q r => (fr i k (by omega)).trans (by rw [eg])
    refine ⟨?_, hk, vk, rk, tc, CS, p4, ⟨⟨p2, p3⟩, ⟨?_, ?_, ?_⟩, ⟨?_, ?_, ?_⟩, p11.cg (fun w k q => ?_) (fun w k q => ?_)⟩, h2.fr (fun i k q => b2 i k (by omega) (by omega)) (fun i k q => b2 i k (by omega) (by omega)) (h2.2.2.2.2.2.fr (funext fun k => b2 102 k (by omega) (by omega))), h3.fr (fun i k q => b2 i k (by omega) (by omega)) (fun i k q => b2 i k (by omega) (by omega)), fun t ht => (h4 t ht).fr (fun k => ⟨b2 _ k (by omega) (by omega), b2 _ k (by omega) (by omega)⟩) ⟨b2 _ _ (by omega) (by omega), b2 _ _ (by omega) (by omega), b2 _ _ (by omega) (by omega), fun i _ => b2 _ _ (by omega) (by omega)⟩, (show KEP g g hk tc from Or.inr ⟨d1, hk, vk, rk, Nat.le_refl _, p2, p3, p4, ⟨p5, p6, p7⟩, ⟨p8, p9, p10⟩, p11⟩).fr (Nat.le_refl _) (Nat.le_refl _) (fun i k q => b2 i k (by omega) (by omega)) (fun i k q => b2 i k (by omega) (by omega))⟩
    · rw [ex, ey, b1 _ _ (by omega), p6, p8]
    · rw [b3 37 2 (by omega) (by omega)]
      exact (bcF_int (k := 0) (by omega)).trans p5
    · rw [b3 37 3 (by omega) (by omega)]
      exact (bcF_int (k := 1) (by omega)).trans p6
    · rw [b3 37 4 (by omega) (by omega)]
      exact (bcF_int (k := 2) (by omega)).trans p7
    · rw [k2, b1 _ _ (by omega)]
      exact p9
    · rw [k1, b1 _ _ (by omega)]
      exact p8
    · rw [k4, b1 _ _ (by omega)]
      exact p10
    · have hw := q.lt
      have hk8 : k < 8 := by unfold Rl at q; omega
      rw [svC_l hw, b3 _ _ (by omega) (by omega), ← bcF_sv (g := g) (so := 37) (ot := 50) (Or.inl rfl) hk8 (Or.inl hw), svC_l hw]
    · have hw := q.lt
      unfold Rl at q
      rcases (show w = 0 ∨ w = 1 ∨ w = 2 ∨ w = 3 ∨ w = 4 ∨ w = 5 ∨ w = 6 ∨ w = 7 ∨ w = 8 ∨ w = 9 ∨ w = 10 by omega) with rfl | rfl | rfl | rfl | rfl | rfl | rfl | rfl | rfl | rfl | rfl
      · show g2 92 k = g 108 (4 * 0 + k)
        rw [show 4 * 0 + k = k by omega, ← (i1 k (by omega)).1, b1 _ _ (by omega)]
      · show g2 93 k = g 108 (4 * 1 + k)
        rw [show 4 * 1 + k = 4 + k by omega, ← (i1 k (by omega)).2.1, b1 _ _ (by omega)]
      · show g2 94 k = g 108 (4 * 2 + k)
        rw [show 4 * 2 + k = 8 + k by omega, ← (i1 k (by omega)).2.2, b1 _ _ (by omega)]
      · show g2 88 10 = g 88 50
        rw [k3, b1 _ _ (by omega)]
      · show g2 96 k = g 109 (5 * (4 - 4) + k)
        rw [show 5 * (4 - 4) + k = k by omega, ← (i2 k (by omega)).1, b1 _ _ (by omega)]
      · show g2 97 k = g 109 (5 * (5 - 4) + k)
        rw [show 5 * (5 - 4) + k = 5 + k by omega, ← (i2 k (by omega)).2.1, b1 _ _ (by omega)]
      · show g2 98 k = g 109 (5 * (6 - 4) + k)
        rw [show 5 * (6 - 4) + k = 10 + k by omega, ← (i2 k (by omega)).2.2, b1 _ _ (by omega)]
      · show g2 99 k = g 110 (8 * (7 - 7) + k)
        rw [show 8 * (7 - 7) + k = k by omega, ← (i3 k (by omega)).1, b1 _ _ (by omega)]
      · show g2 100 k = g 110 (8 * (8 - 7) + k)
        rw [show 8 * (8 - 7) + k = 8 + k by omega, ← (i3 k (by omega)).2.1, b1 _ _ (by omega)]
      · show g2 101 k = g 110 (8 * (9 - 7) + k)
        rw [show 8 * (9 - 7) + k = 16 + k by omega, ← (i3 k (by omega)).2.2, b1 _ _ (by omega)]
      · show g2 95 k = g 95 k
        exact b2 _ _ (by omega) (by omega)
theorem TxM.cs {g : IG} {t : Nat} {CS CS' : CSt} (h : TxM g t (TMx CS t)) (e : CS' t = CS t) : TxM g t (TMx CS' t) := by
  have e2 : TMx CS' t = TMx CS t := by
    unfold TMx
    rw [e]
  rw [e2]
  exact h
theorem st_textF {g : IG} {hn vn ru tc : Nat} {CS : CSt} (h : Inv g g hn vn ru tc CS) (h6 : tc = 6) : g 88 3 = 6 := by
  rw [h.2.2.1.2.2.1, h6]
  rfl
theorem st_text {g g1 : IG} {hn vn ru tc : Nat} {CS : CSt} (h : Inv g g hn vn ru tc CS) (htc : tc < 6) {sz : Nat} (hsz : sz ≤ 160) (q1 : g 2 1 = nI sz) (q2 : g 88 6 = nI sz) (q3 : ∀ i, i < sz → g 3 i = g 91 i ∧ ¬ g 91 i < 0) {x : Int32} (e1 : (rdF (g 3) sz = -1 ∧ x = nI tc ∧ g1 = up2 (up2 (rdG g tc sz) 2 1 0) 0 1 (nI (tc + 1))) ∨ (¬ rdF (g 3) sz = -1 ∧ x = -100 - rdF (g 3) sz ∧ g1 = up2 (rdG g tc sz) 2 1 0)) : (g1 88 3 = nI tc ∧ g1 88 6 = nI sz ∧ ∀ i, i < sz → ¬ g1 91 i < 0) ∧ ∀ (y : Int32) (g2 : IG), ((rdF (g1 91) sz = -1 ∧ y = nI tc ∧ FrT tc g1 g2 ∧ g2 88 3 = nI (tc + 1) ∧ g2 88 6 = 0 ∧ TtI g2 tc (csO (g1 91) sz)) ∨ (¬ rdF (g1 91) sz = -1 ∧ y = -100 - rdF (g1 91) sz ∧ FrT tc g1 g2 ∧ g2 88 3 = nI tc ∧ g2 88 6 = 0)) → x = y ∧ InvE g2 := by
  obtain ⟨h0, h1, h2, h3, h4, h5⟩ := h
  have fc : ∀ i k, ¬ ((i = 2 ∧ 1 ≤ k ∧ k ≤ 5) ∨ i = 5 + 4 * tc ∨ i = 5 + 4 * tc + 1 ∨ i = 5 + 4 * tc + 2 ∨ (i = 0 ∧ k = 1)) → g1 i k = g i k := fun i k q => by
    rcases e1 with ⟨-, -, eg⟩ | ⟨-, -, eg⟩
    · rw [eg, up2_n _ _ (by omega), up2_n _ _ (by omega), rdG_fr htc (by omega)]
    · rw [eg, up2_n _ _ (by omega), rdG_fr htc (by omega)]
  have f91 : ∀ i, i < sz → g1 91 i = g 3 i := fun i hi => (fc 91 i (by omega)).trans (q3 i hi).1.symm
  have eF : rdF (g1 91) sz = rdF (g 3) sz := rdF_cg f91
  refine ⟨⟨(fc _ _ (by omega)).trans h2.2.2.1, (fc _ _ (by omega)).trans q2, fun i hi => by rw [fc 91 i (by omega)]; exact (q3 i hi).2⟩, fun y g2 e2 => ?_⟩
  have g21 : g1 2 1 = 0 := by
    rcases e1 with ⟨-, -, eg⟩ | ⟨-, -, eg⟩
    · rw [eg, up2_n _ _ (by omega), up2_s]
    · rw [eg, up2_s]
  have hT : ∀ t, t < tc → TxM g1 t (TMx CS t) := fun t ht => (h2.2.2.2.1 t ht).up (funext fun k => fc _ k (by omega)) (funext fun k => fc _ k (by omega))
  have fm : FrT tc g1 g2 := by
    rcases e2 with ⟨-, -, q, -⟩ | ⟨-, -, q, -⟩ <;> exact q
  have g6 : g2 88 6 = 0 := by
    rcases e2 with ⟨-, -, -, -, q, -⟩ | ⟨-, -, -, -, q⟩ <;> exact q
  have fa : ∀ i k, i < 88 → g2 i k = g1 i k := fun i k hi => fm i k (by omega)
  have fb : ∀ i k, 88 ≤ i → ¬ ((i = 89 ∧ 160 * tc ≤ k ∧ k < 160 * tc + 160) ∨ (i = 90 ∧ k = tc) ∨ (i = 88 ∧ (26 ≤ k ∧ k ≤ 37 ∨ k = 3 ∨ k = 6))) → g2 i k = g i k := fun i k hi q => (fm i k q).trans (fc i k (by omega))
  have fab : ∀ i k, i < 88 → ¬ ((i = 2 ∧ 1 ≤ k ∧ k ≤ 5) ∨ i = 5 + 4 * tc ∨ i = 5 + 4 * tc + 1 ∨ i = 5 + 4 * tc + 2 ∨ (i = 0 ∧ k = 1)) → g2 i k = g i k := fun i k hi q => (fa i k hi).trans (fc i k q)
  have I1 : SAL g2 g2 hn vn ru := h1.fr (fun i k q => fab i k (by omega) (by omega)) (fun i k q => fb i k (by omega) (by omega))
  have I3 : TAP g2 g2 := ⟨0, by omega, (fa _ _ (by omega)).trans g21, g6, fun i hi => absurd hi (by omega)⟩
  have I4 : ∀ t, t < 4 → SH1 g2 g2 t := fun t ht => (h4 t ht).fr (fun k => ⟨fab _ k (by omega) (by omega), fab _ k (by omega) (by omega)⟩) ⟨fb _ _ (by omega) (by omega), fb _ _ (by omega) (by omega), fb _ _ (by omega) (by omega), fun i _ => fb _ _ (by omega) (by omega)⟩
  have I5 : ∀ tc', tc ≤ tc' → KEP g2 g2 hn tc' := fun tc' ht => h5.fr (Nat.le_refl _) ht (fun i k q => fab i k (by omega) (by omega)) (fun i k q => fb i k (by omega) (by omega))
  have hT2 : ∀ t, t < tc → TxM g2 t (TMx CS t) := fun t ht => (hT t ht).up (funext fun k => fa _ k (by omega)) (funext fun k => fa _ k (by omega))
  have hI2 : ∀ t, t < tc → TtI g2 t (CS t) := fun t ht => (h2.2.2.2.2.1 t ht).cg (fun i hi => fb _ _ (by omega) (by omega)) (fb _ _ (by omega) (by omega))
  have hS2 : SdI g2 tc CS := h2.2.2.2.2.2.fr (funext fun k => fb 102 k (by omega) (by omega))
  rcases e1 with ⟨c1, ex, eg⟩ | ⟨c1, ex, eg⟩ <;> rcases e2 with ⟨c2, ey, -, k3, -, kT⟩ | ⟨c2, ey, -, k3, -⟩
  · refine ⟨ex.trans ey.symm, hn, vn, ru, tc + 1, fun t => if t = tc then csO (g 3) sz else CS t, by omega, I1, ⟨⟨by omega, by omega⟩, ?_, k3, fun t ht => ?_, fun t ht => ?_, fun j hj e => ?_⟩, I3, I4, I5 _ (by omega)⟩
    · rw [fa _ _ (by omega), eg]
      exact up2_s _ _ _ _
    · by_cases e : t = tc
      · subst e
        have hX := TxM_rd (g := g) (sz := sz) (CS := fun t' => if t' = t then csO (g 3) sz else CS t') htc hsz c1 (if_pos rfl)
        refine hX.up (funext fun k => ?_) (funext fun k => ?_)
        · rw [fa _ _ (by omega), eg, up2_n _ _ (by omega), up2_n _ _ (by omega)]
        · rw [fa _ _ (by omega), eg, up2_n _ _ (by omega), up2_n _ _ (by omega)]
      · exact (hT2 t (by omega)).cs (if_neg e)
    · by_cases e : t = tc
      · subst e
        dsimp only
        rw [if_pos rfl, ← csO_cg (T := g1 91) (U := g 3) f91]
        exact kT
      · dsimp only
        rw [if_neg e]
        exact hI2 t (by omega)
    · obtain ⟨t, ht, r1, r2⟩ := hS2 j hj e
      refine ⟨t, by omega, r1, fun k hk => ?_⟩
      rw [r2 k hk]
      dsimp only
      rw [if_neg (by omega)]
  · exact absurd (eF.trans c1) c2
  · exact absurd (eF.symm.trans c2) c1
  · refine ⟨by rw [ex, ey, eF], hn, vn, ru, tc, CS, h0, I1, ⟨h2.1, ?_, k3, hT2, hI2, hS2⟩, I3, I4, I5 _ (Nat.le_refl _)⟩
    rw [fa _ _ (by omega), eg, up2_n _ _ (by omega), rdG_0 htc]
    exact h2.2.1
