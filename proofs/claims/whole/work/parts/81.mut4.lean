/-! SHEETS -/
theorem up2_cg {a b : IG} {i k x y : Nat} {v : Int32} (h : a x y = b x y) : up2 a i k v x y = up2 b i k v x y := by
  unfold up2
  rw [h]
theorem inX_m {x : Int32} (h : ¬ inX (-1) 2 x = 0) : ¬ x < -1 ∧ ¬ 2 < x := inX_ng h
theorem so_m1 {x : Int32} (h : x < 0) (h2 : ¬ x < -1) : x = -1 := by
  have a := Int32.lt_iff_toInt_lt.mp h
  have b : ¬ x.toInt < (-1 : Int32).toInt := fun q => h2 (Int32.lt_iff_toInt_lt.mpr q)
  have k0 : (0 : Int32).toInt = 0 := by decide
  have k1 : (-1 : Int32).toInt = -1 := by decide
  exact Int32.toInt_inj.mp (by omega)
theorem rnG_o {g : IG} {t : Nat} {so1 sz1 : Int32} {i k : Nat} (h1 : i ≠ 29 + 2 * t) (h2 : i ≠ 29 + 2 * t + 1) : rnG g t so1 sz1 i k = g i k := by
  show (if i = 29 + 2 * t + 1 then _ else up2 (up2 g (29 + 2 * t) 1 so1) (29 + 2 * t) 2 sz1 i k) = g i k
  rw [if_neg h2, up2_n _ _ (Or.inl h1), up2_n _ _ (Or.inl h1)]
theorem rnG_1 {g : IG} {t : Nat} {so1 sz1 : Int32} : rnG g t so1 sz1 (29 + 2 * t) 1 = so1 := by
  show (if 29 + 2 * t = 29 + 2 * t + 1 then _ else up2 (up2 g (29 + 2 * t) 1 so1) (29 + 2 * t) 2 sz1 (29 + 2 * t) 1) = so1
  rw [if_neg (by omega), up2_n _ _ (by omega), up2_s]
theorem rnG_2 {g : IG} {t : Nat} {so1 sz1 : Int32} : rnG g t so1 sz1 (29 + 2 * t) 2 = sz1 := by
  show (if 29 + 2 * t = 29 + 2 * t + 1 then _ else up2 (up2 g (29 + 2 * t) 1 so1) (29 + 2 * t) 2 sz1 (29 + 2 * t) 2) = sz1
  rw [if_neg (by omega), up2_s]
theorem rnG_r {g : IG} {t : Nat} {so1 sz1 : Int32} {i : Nat} (hi : i < 40) : rnG g t so1 sz1 (29 + 2 * t + 1) i = 0 := by
  show (if 29 + 2 * t + 1 = 29 + 2 * t + 1 then zrow (g (29 + 2 * t + 1)) 40 i else _) = 0
  rw [if_pos rfl]
  exact if_pos hi
theorem st_sheet {g g1 : IG} {hn vn ru tc : Nat} {CS : CSt} (h : Inv g g hn vn ru tc CS) (x1 so1 n1 : Int32) {x : Int32} (e1 : (inI 4 x1 = 0 ∧ x = -2 ∧ g1 = g) ∨ ∃ t, t < 4 ∧ x1 = nI t ∧ x = (shX g t so1 n1).1 ∧ g1 = (shX g t so1 n1).2) {y : Int32} {g2 : IG} (e2 : (y = -2 ∧ g2 = g1 ∧ (inI 4 x1 = 0 ∨ inX (-1) 2 so1 = 0 ∨ (¬ so1 < 0 ∧ 40 < n1))) ∨ (y = -14 ∧ g2 = g1 ∧ ¬ inI 4 x1 = 0 ∧ ¬ inX (-1) 2 so1 = 0 ∧ ¬ so1 < 0 ∧ n1 < 0) ∨ ∃ t, t < 4 ∧ x1 = nI t ∧ y = 1 ∧ ¬ inX (-1) 2 so1 = 0 ∧ ((so1 < 0 ∧ g2 = up2 (up2 (up2 g1 111 t 0) 112 t so1) 113 t n1) ∨ (¬ so1 < 0 ∧ ∃ m, m ≤ 40 ∧ n1 = nI m ∧ (∀ i q, ¬ (i = 114 ∧ 40 * t ≤ q ∧ q < 40 * t + m) → g2 i q = up2 (up2 (up2 g1 111 t 1) 112 t so1) 113 t n1 i q) ∧ ∀ q, q < m → g2 114 (40 * t + q) = 0))) : x = y ∧ InvE g2 := by
  have hI : InvE g := ⟨hn, vn, ru, tc, CS, h⟩
  have hz : ∀ s, inX (-1) 2 s = 0 → s < -1 ∨ 2 < s := fun s c => (inX_ps c).imp id (fun q => q.2)
  have hz2 : ∀ s, s < -1 → inX (-1) 2 s = 0 := fun s c => if_pos c
  have hz3 : ∀ s : Int32, ¬ s < -1 → 2 < s → inX (-1) 2 s = 0 := fun s c d => (if_neg c).trans (if_pos d)
  have hm : ∀ s : Int32, s < -1 → s < 0 := fun s c => Int32.lt_trans c (by decide)
  have h2p : ∀ s : Int32, 2 < s → ¬ s < 0 := fun s c d => absurd (Int32.lt_trans c d) (by decide)
  rcases e1 with ⟨c, ex, eg⟩ | ⟨t, ht, et, ex, eg⟩
  · rw [eg] at e2
    rcases e2 with ⟨ey, eg2, -⟩ | ⟨-, -, c2, -⟩ | ⟨t, ht, et, -⟩
    · exact ⟨ex.trans ey.symm, by rw [eg2]; exact hI⟩
    · exact absurd c c2
    · exact absurd c (in4_t ht et)
  · by_cases c1 : so1 < -1
    · have e3 : shX g t so1 n1 = (-2, g) := if_pos c1
      rw [e3] at ex eg
      have eg' : g1 = g := eg
      rw [eg'] at e2
      rcases e2 with ⟨ey, eg2, -⟩ | ⟨-, -, -, c2, -⟩ | ⟨t', -, -, -, c2, -⟩
      · exact ⟨ex.trans ey.symm, by rw [eg2]; exact hI⟩
      · exact absurd (hz2 _ c1) c2
      · exact absurd (hz2 _ c1) c2
    by_cases c2 : 2 < so1
    · have e3 : shX g t so1 n1 = (-2, g) := (if_neg c1).trans (if_pos c2)
      rw [e3] at ex eg
      have eg' : g1 = g := eg
      rw [eg'] at e2
      rcases e2 with ⟨ey, eg2, -⟩ | ⟨-, -, -, c3, -⟩ | ⟨t', -, -, -, c3, -⟩
      · exact ⟨ex.trans ey.symm, by rw [eg2]; exact hI⟩
      · exact absurd (hz3 _ c1 c2) c3
      · exact absurd (hz3 _ c1 c2) c3
    have hin : ¬ inX (-1) 2 so1 = 0 := fun q => (hz _ q).elim c1 c2
    by_cases c3 : so1 = -1
    · have e3 : shX g t so1 n1 = (1, rnG g t (-1) 0) := (if_neg c1).trans ((if_neg c2).trans (if_pos c3))
      rw [e3] at ex eg
      have eg' : g1 = rnG g t (-1) 0 := eg
      have hs0 : so1 < 0 := by rw [c3]; decide
      rcases e2 with ⟨-, -, q | q | q⟩ | ⟨-, -, -, -, q, -⟩ | ⟨t', ht', et', ey, -, ⟨-, eg2⟩ | ⟨q, -⟩⟩
      · exact absurd q (in4_t ht et)
      · exact absurd q hin
      · exact absurd hs0 q.1
      · exact absurd hs0 q
      · have q1 : t' = t := ((nI_eq (a := t) (b := t') (by omega) (by omega)).mp (et.symm.trans et')).symm
        subst q1
        have fa : ∀ i k, i < 88 → i ≠ 29 + 2 * t' → i ≠ 29 + 2 * t' + 1 → g2 i k = g i k := fun i k hi r1 r2 => by
          rw [eg2, up2_n _ _ (by omega), up2_n _ _ (by omega), up2_n _ _ (by omega), eg', rnG_o r1 r2]
        have fb : ∀ i k, 88 ≤ i → ¬ ((i = 111 ∨ i = 112 ∨ i = 113) ∧ k = t') → g2 i k = g i k := fun i k hi r1 => by
          rw [eg2, up2_n _ _ (by omega), up2_n _ _ (by omega), up2_n _ _ (by omega), eg', rnG_o (by omega) (by omega)]
        refine ⟨ex.trans ey.symm, hn, vn, ru, tc, CS, h.sh ht ⟨0, by omega, ?_, Or.inl ⟨?_, ?_⟩⟩ (fun i k r1 _ r2 r3 => fa i k r1 r2 r3) (fun i k r1 _ _ r2 _ => fb i k r1 r2) (h.sd.fr (funext fun k => fb 102 k (by omega) (by omega)))⟩
        · rw [eg2, up2_n _ _ (by omega), up2_n _ _ (by omega), up2_n _ _ (by omega), eg', rnG_2]
          rfl
        · rw [eg2, up2_n _ _ (by omega), up2_n _ _ (by omega), up2_n _ _ (by omega), eg', rnG_1]
        · rw [eg2, up2_n _ _ (by omega), up2_n _ _ (by omega), up2_s]
      · exact absurd hs0 q
    have hs0 : ¬ so1 < 0 := fun q => c3 (so_m1 q c1)
    by_cases c4 : 40 < n1
    · have e3 : shX g t so1 n1 = (-2, g) := (if_neg c1).trans ((if_neg c2).trans ((if_neg c3).trans (if_pos c4)))
      rw [e3] at ex eg
      have eg' : g1 = g := eg
      rw [eg'] at e2
      rcases e2 with ⟨ey, eg2, -⟩ | ⟨-, -, -, -, -, q⟩ | ⟨t', ht', et', ey, -, ⟨q, -⟩ | ⟨-, m, hm, q, -⟩⟩
      · exact ⟨ex.trans ey.symm, by rw [eg2]; exact hI⟩
      · exact absurd (Int32.lt_trans c4 q) (by decide)
      · exact absurd q hs0
      · rw [q] at c4
        have := (nI_ltI (a := 40) (b := m) (by omega) (by omega)).mp c4
        omega
    by_cases c5 : 0 ≤ n1
    · have e3 : shX g t so1 n1 = (1, rnG g t so1 n1) := (if_neg c1).trans ((if_neg c2).trans ((if_neg c3).trans ((if_neg c4).trans (if_pos c5))))
      rw [e3] at ex eg
      have eg' : g1 = rnG g t so1 n1 := eg
      rcases e2 with ⟨-, -, q | q | q⟩ | ⟨-, -, -, -, -, q⟩ | ⟨t', ht', et', ey, -, ⟨q, -⟩ | ⟨-, m, hm, em, eg2, hr⟩⟩
      · exact absurd q (in4_t ht et)
      · exact absurd q hin
      · exact absurd q.2 c4
      · exact absurd c5 (Int32.not_le.mpr q)
      · exact absurd q hs0
      · have q1 : t' = t := ((nI_eq (a := t) (b := t') (by omega) (by omega)).mp (et.symm.trans et')).symm
        subst q1
        have fa : ∀ i k, i < 88 → g2 i k = g1 i k := fun i k hi => by
          rw [eg2 i k (by omega), up2_n _ _ (by omega), up2_n _ _ (by omega), up2_n _ _ (by omega)]
        have fb : ∀ i k, 88 ≤ i → ¬ ((i = 111 ∨ i = 112 ∨ i = 113) ∧ k = t') → ¬ (i = 114 ∧ 40 * t' ≤ k ∧ k < 40 * t' + 40) → g2 i k = g i k := fun i k hi r1 r2 => by
          rw [eg2 i k (by omega), up2_n _ _ (by omega), up2_n _ _ (by omega), up2_n _ _ (by omega), eg', rnG_o (by omega) (by omega)]
        refine ⟨ex.trans ey.symm, hn, vn, ru, tc, CS, h.sh ht ⟨m, hm, ?_, Or.inr ⟨?_, ?_, ?_, ?_, fun i hi => ?_⟩⟩ (fun i k r1 _ r2 r3 => (fa i k r1).trans (by rw [eg', rnG_o r2 r3])) (fun i k r1 _ _ r2 r3 => fb i k r1 r2 r3) (h.sd.fr (funext fun k => fb 102 k (by omega) (by omega) (by omega)))⟩
        · rw [fa _ _ (by omega), eg', rnG_2, em]
        · rw [fa _ _ (by omega), eg', rnG_1]
          exact c3
        · rw [eg2 _ _ (by omega), up2_n _ _ (by omega), up2_n _ _ (by omega), up2_s]
          decide
        · rw [eg2 _ _ (by omega), up2_n _ _ (by omega), up2_s, fa _ _ (by omega), eg', rnG_1]
        · rw [eg2 _ _ (by omega), up2_s, em]
        · rw [hr i hi, fa _ _ (by omega), eg', rnG_r (by omega)]
    · have e3 : shX g t so1 n1 = (-14, g) := (if_neg c1).trans ((if_neg c2).trans ((if_neg c3).trans ((if_neg c4).trans (if_neg c5))))
      rw [e3] at ex eg
      have eg' : g1 = g := eg
      rw [eg'] at e2
      rcases e2 with ⟨-, -, q | q | q⟩ | ⟨ey, eg2, -⟩ | ⟨t', ht', et', ey, -, ⟨q, -⟩ | ⟨-, m, hm, em, -⟩⟩
      · exact absurd q (in4_t ht et)
      · exact absurd q hin
      · exact absurd q.2 c4
      · exact ⟨ex.trans ey.symm, by rw [eg2]; exact hI⟩
      · exact absurd q hs0
      · rw [em] at c5
        exact absurd (nI_pos' (by omega)) c5
theorem st_cell {g g1 : IG} {hn vn ru tc : Nat} {CS : CSt} (h : Inv g g hn vn ru tc CS) (x1 x2 x3 : Int32) {x : Int32} (e1 : (inI 4 x1 = 0 ∧ x = -2 ∧ g1 = g) ∨ ∃ t sz, t < 4 ∧ sz ≤ 40 ∧ x1 = nI t ∧ g (29 + 2 * t) 2 = nI sz ∧ ((g (29 + 2 * t) 1 = -1 ∧ x = -11 ∧ g1 = g) ∨ (¬ g (29 + 2 * t) 1 = -1 ∧ ((∃ q, q < sz ∧ x2 = nI q ∧ x = 1 ∧ g1 = up2 g (29 + 2 * t + 1) q (cvS (g (29 + 2 * t) 1) x3)) ∨ ((x2 < 0 ∨ ¬ x2 < nI sz) ∧ x = -12 ∧ g1 = g))))) : ShMX g1 ∧ ∀ (y : Int32) (g2 : IG), ((inI 4 x1 = 0 ∧ y = -2 ∧ g2 = g1) ∨ ∃ t, t < 4 ∧ x1 = nI t ∧ ((g1 111 t = 0 ∧ y = -11 ∧ g2 = g1) ∨ (¬ g1 111 t = 0 ∧ ∃ sz, sz ≤ 40 ∧ g1 113 t = nI sz ∧ ((∃ q, q < sz ∧ x2 = nI q ∧ y = 1 ∧ g2 = up2 g1 114 (40 * t + q) (cvM (g1 112 t) x3)) ∨ (inI (nI sz) x2 = 0 ∧ y = -12 ∧ g2 = g1))))) → x = y ∧ InvE g2 := by
  have hI : InvE g := ⟨hn, vn, ru, tc, CS, h⟩
  have dn : ∀ (a : Int32), x = a → g1 = g → ∀ (y : Int32) (g2 : IG), y = a → g2 = g1 → x = y ∧ InvE g2 := fun a ex eg y g2 ey eg2 => ⟨ex.trans ey.symm, by rw [eg2, eg]; exact hI⟩
  rcases e1 with ⟨c, ex, eg⟩ | ⟨t, sz, ht, hsz, et, h2, e1⟩
  · refine ⟨by rw [eg]; exact h.shm, fun y g2 e2 => ?_⟩
    rcases e2 with ⟨-, ey, eg2⟩ | ⟨t, ht, et, -⟩
    · exact dn _ ex eg y g2 ey eg2
    · exact absurd c (in4_t ht et)
  · obtain ⟨sz0, s1, s2, s3⟩ := h.2.2.2.2.1 t ht
    have esz : sz0 = sz := (nI_eq (a := sz0) (b := sz) (by omega) (by omega)).mp (s2.symm.trans h2)
    subst esz
    rcases e1 with ⟨c, ex, eg⟩ | ⟨c, e1⟩
    · refine ⟨by rw [eg]; exact h.shm, fun y g2 e2 => ?_⟩
      rcases e2 with ⟨q, -⟩ | ⟨t', ht', et', e2⟩
      · exact absurd q (in4_t ht et)
      · have q1 : t' = t := ((nI_eq (a := t) (b := t') (by omega) (by omega)).mp (et.symm.trans et')).symm
        subst q1
        rcases s3 with s3 | s3
        · rcases e2 with ⟨-, ey, eg2⟩ | ⟨q, -⟩
          · exact dn _ ex eg y g2 ey eg2
          · rw [eg] at q
            exact absurd s3.2 q
        · exact absurd c s3.1
    · rcases s3 with s3 | ⟨-, s4, s5, s6, s7⟩
      · exact absurd s3.1 c
      rcases e1 with ⟨q, hq, e3, ex, eg⟩ | ⟨c2, ex, eg⟩
      · have hm : ∀ i k, i ≠ 29 + 2 * t + 1 → g1 i k = g i k := fun i k r => by rw [eg, up2_n _ _ (Or.inl r)]
        have h1 := h.cq (b' := g1) (fun i hi => funext fun k => hm i k (by omega))
        refine ⟨h1.shm, fun y g2 e2 => ?_⟩
        rcases e2 with ⟨q, -⟩ | ⟨t', ht', et', e2⟩
        · exact absurd q (in4_t ht et)
        have q1 : t' = t := ((nI_eq (a := t) (b := t') (by omega) (by omega)).mp (et.symm.trans et')).symm
        subst q1
        rcases e2 with ⟨r, -⟩ | ⟨-, sz', k1, k2, e2⟩
        · rw [hm _ _ (by omega)] at r
          exact absurd r s4
        rw [hm _ _ (by omega), s6] at k2
        have e5 : sz' = sz0 := (nI_eq (a := sz') (b := sz0) (by omega) (by omega)).mp k2.symm
        subst e5
        rcases e2 with ⟨q', hq', e3', ey, eg2⟩ | ⟨r, -⟩
        · have e6 : q' = q := (nI_eq (a := q') (b := q) (by omega) (by omega)).mp (e3'.symm.trans e3)
          subst e6
          have fr : ∀ i k, i ≠ 29 + 2 * t' + 1 → ¬ (i = 114 ∧ k = 40 * t' + q') → g2 i k = g i k := fun i k r1 r2 => by
            rw [eg2, up2_n _ _ (by omega), hm _ _ r1]
          refine ⟨ex.trans ey.symm, hn, vn, ru, tc, CS, h.sh ht ⟨sz', s1, (fr _ _ (by omega) (by omega)).trans s2, Or.inr ⟨?_, ?_, ?_, ?_, fun i hi => ?_⟩⟩ (fun i k r1 _ r2 r3 => fr i k r3 (by omega)) (fun i k r1 _ _ r2 r3 => fr i k (by omega) (by omega)) (h.sd.fr (funext fun k => fr 102 k (by omega) (by omega)))⟩
          · rw [fr _ _ (by omega) (by omega)]
            exact c
          · rw [fr _ _ (by omega) (by omega)]
            exact s4
          · rw [fr _ _ (by omega) (by omega), fr _ _ (by omega) (by omega)]
            exact s5
          · rw [fr _ _ (by omega) (by omega)]
            exact s6
          · by_cases e : i = q'
            · rw [e, eg2, up2_n _ _ (by omega), up2_s, eg, up2_s, up2_n _ _ (by omega), s5]
              rfl
            · rw [eg2, up2_n _ _ (by omega), up2_n _ _ (by omega), eg, up2_n _ _ (by omega), up2_n _ _ (by omega)]
              exact s7 i hi
        · rw [e3] at r
          exact absurd r (inI_1' hq (by omega))
      · refine ⟨by rw [eg]; exact h.shm, fun y g2 e2 => ?_⟩
        rcases e2 with ⟨q, -⟩ | ⟨t', ht', et', e2⟩
        · exact absurd q (in4_t ht et)
        have q1 : t' = t := ((nI_eq (a := t) (b := t') (by omega) (by omega)).mp (et.symm.trans et')).symm
        subst q1
        rcases e2 with ⟨r, -⟩ | ⟨-, sz', k1, k2, e2⟩
        · rw [eg] at r
          exact absurd r s4
        rw [eg, s6] at k2
        have e5 : sz' = sz0 := (nI_eq (a := sz') (b := sz0) (by omega) (by omega)).mp k2.symm
        subst e5
        rcases e2 with ⟨q', hq', e3', -⟩ | ⟨-, ey, eg2⟩
        · rw [e3'] at c2
          rcases c2 with c2 | c2
          · exact absurd c2 (nI_pos (by omega))
          · exact absurd (nI_lt hq' (by omega)) c2
        · exact dn _ ex eg y g2 ey eg2
theorem st_copy {g g1 : IG} {hn vn ru tc : Nat} {CS : CSt} (h : Inv g g hn vn ru tc CS) (x1 x2 x3 x4 x5 : Int32) {x : Int32} (e1 : ((inI 4 x1 = 0 ∨ inI 4 x3 = 0) ∧ x = -2 ∧ g1 = g) ∨ ∃ t u sz su, t < 4 ∧ u < 4 ∧ sz ≤ 40 ∧ su ≤ 40 ∧ x1 = nI t ∧ x3 = nI u ∧ g (29 + 2 * t) 2 = nI sz ∧ g (29 + 2 * u) 2 = nI su ∧ (((g (29 + 2 * t) 1 = -1 ∨ g (29 + 2 * u) 1 = -1) ∧ x = -11 ∧ g1 = g) ∨ (¬ g (29 + 2 * t) 1 = -1 ∧ ¬ g (29 + 2 * u) 1 = -1 ∧ ((¬ g (29 + 2 * t) 1 = g (29 + 2 * u) 1 ∧ x = -13 ∧ g1 = g) ∨ (g (29 + 2 * t) 1 = g (29 + 2 * u) 1 ∧ (((hasR (nI sz) x2 x5 = 0 ∨ hasR (nI su) x4 x5 = 0) ∧ x = -12 ∧ g1 = g) ∨ ∃ a b k, x2 = nI a ∧ x4 = nI b ∧ x5 = nI k ∧ a + k ≤ sz ∧ b + k ≤ su ∧ x = nI k ∧ g1 = cpyG g t u a b k)))))) : ShMX g1 ∧ ∀ (y : Int32) (g2 : IG), (((inI 4 x1 = 0 ∨ inI 4 x3 = 0) ∧ y = -2 ∧ g2 = g1) ∨ ∃ t u, t < 4 ∧ u < 4 ∧ x1 = nI t ∧ x3 = nI u ∧ (((g1 111 t = 0 ∨ g1 111 u = 0) ∧ y = -11 ∧ g2 = g1) ∨ (¬ g1 111 t = 0 ∧ ¬ g1 111 u = 0 ∧ ((¬ g1 112 t = g1 112 u ∧ y = -13 ∧ g2 = g1) ∨ (g1 112 t = g1 112 u ∧ ∃ sz su, sz ≤ 40 ∧ su ≤ 40 ∧ g1 113 t = nI sz ∧ g1 113 u = nI su ∧ (((¬ ∃ a b k : Nat, x2 = nI a ∧ x4 = nI b ∧ x5 = nI k ∧ a + k ≤ sz ∧ b + k ≤ su) ∧ y = -12 ∧ g2 = g1) ∨ ∃ a b k : Nat, x2 = nI a ∧ x4 = nI b ∧ x5 = nI k ∧ a + k ≤ sz ∧ b + k ≤ su ∧ y = nI k ∧ (∀ i q, ¬ (i = 114 ∧ 40 * u + b ≤ q ∧ q < 40 * u + b + k) → g2 i q = g1 i q) ∧ ∀ q, q < k → g2 114 (40 * u + b + q) = g1 114 (40 * t + a + q))))))) → x = y ∧ InvE g2 := by
  have hI : InvE g := ⟨hn, vn, ru, tc, CS, h⟩
  have dn : ∀ (a : Int32), x = a → g1 = g → ∀ (y : Int32) (g2 : IG), y = a → g2 = g1 → x = y ∧ InvE g2 := fun a ex eg y g2 ey eg2 => ⟨ex.trans ey.symm, by rw [eg2, eg]; exact hI⟩
  rcases e1 with ⟨c, ex, eg⟩ | ⟨t, u, sz, su, ht, hu, hsz, hsu, et, eu, h2, h2u, e1⟩
  · refine ⟨by rw [eg]; exact h.shm, fun y g2 e2 => ?_⟩
    rcases e2 with ⟨-, ey, eg2⟩ | ⟨t, u, ht, hu, et, eu, -⟩
    · exact dn _ ex eg y g2 ey eg2
    · exact absurd c (fun q => q.elim (in4_t ht et) (in4_t hu eu))
  · obtain ⟨sz0, s1, s2, s3⟩ := h.2.2.2.2.1 t ht
    have esz : sz0 = sz := (nI_eq (a := sz0) (b := sz) (by omega) (by omega)).mp (s2.symm.trans h2)
    subst esz
    obtain ⟨su0, u1, u2, u3⟩ := h.2.2.2.2.1 u hu
    have esu : su0 = su := (nI_eq (a := su0) (b := su) (by omega) (by omega)).mp (u2.symm.trans h2u)
    subst esu
    have i4 : ¬ (inI 4 x1 = 0 ∨ inI 4 x3 = 0) := fun q => q.elim (in4_t ht et) (in4_t hu eu)
    have tt : ∀ t', t' < 4 → x1 = nI t' → t' = t := fun t' ht' et' => ((nI_eq (a := t) (b := t') (by omega) (by omega)).mp (et.symm.trans et')).symm
    have uu : ∀ t', t' < 4 → x3 = nI t' → t' = u := fun t' ht' et' => ((nI_eq (a := u) (b := t') (by omega) (by omega)).mp (eu.symm.trans et')).symm
    rcases e1 with ⟨c, ex, eg⟩ | ⟨ct, cu, e1⟩
    · refine ⟨by rw [eg]; exact h.shm, fun y g2 e2 => ?_⟩
      rcases e2 with ⟨q, -⟩ | ⟨t', u', ht', hu', et', eu', e2⟩
      · exact absurd q i4
      obtain rfl := tt t' ht' et'
      obtain rfl := uu u' hu' eu'
      rcases e2 with ⟨-, ey, eg2⟩ | ⟨r1, r2, -⟩
      · exact dn _ ex eg y g2 ey eg2
      · rw [eg] at r1 r2
        rcases c with c | c
        · rcases s3 with s3 | s3
          · exact absurd s3.2 r1
          · exact absurd c s3.1
        · rcases u3 with u3 | u3
          · exact absurd u3.2 r2
          · exact absurd c u3.1
    · rcases s3 with s3 | ⟨-, s4, s5, s6, s7⟩
      · exact absurd s3.1 ct
      rcases u3 with u3 | ⟨-, u4, u5, u6, u7⟩
      · exact absurd u3.1 cu
      rcases e1 with ⟨c, ex, eg⟩ | ⟨c, e1⟩
      · refine ⟨by rw [eg]; exact h.shm, fun y g2 e2 => ?_⟩
        rcases e2 with ⟨q, -⟩ | ⟨t', u', ht', hu', et', eu', e2⟩
        · exact absurd q i4
        obtain rfl := tt t' ht' et'
        obtain rfl := uu u' hu' eu'
        rcases e2 with ⟨r, -⟩ | ⟨r1, r2, ⟨-, ey, eg2⟩ | ⟨r, -⟩⟩
        · rw [eg] at r
          exact absurd r (fun q => q.elim s4 u4)
        · exact dn _ ex eg y g2 ey eg2
        · rw [eg, s5, u5] at r
          exact absurd r c
      rcases e1 with ⟨c2, ex, eg⟩ | ⟨a, b, k, e3, e4, e5, l1, l2, ex, eg⟩
      · refine ⟨by rw [eg]; exact h.shm, fun y g2 e2 => ?_⟩
        rcases e2 with ⟨q, -⟩ | ⟨t', u', ht', hu', et', eu', e2⟩
        · exact absurd q i4
        obtain rfl := tt t' ht' et'
        obtain rfl := uu u' hu' eu'
        rcases e2 with ⟨r, -⟩ | ⟨r1, r2, ⟨r, -⟩ | ⟨r, sz', su', z1, z2, z3, z4, e2⟩⟩
        · rw [eg] at r
          exact absurd r (fun q => q.elim s4 u4)
        · rw [eg, s5, u5] at r
          exact absurd c r
        · rw [eg, s6] at z3
          rw [eg, u6] at z4
          have e6 : sz' = sz0 := (nI_eq (a := sz') (b := sz0) (by omega) (by omega)).mp z3.symm
          have e7 : su' = su0 := (nI_eq (a := su') (b := su0) (by omega) (by omega)).mp z4.symm
          subst e6
          subst e7
          rcases e2 with ⟨-, ey, eg2⟩ | ⟨a, b, k, e3, e4, e5, l1, l2, -⟩
          · exact dn _ ex eg y g2 ey eg2
          · exfalso
            rw [e3, e4, e5] at c2
            rw [hasR_1 s1 l1, hasR_1 u1 l2] at c2
            exact absurd c2 (by decide)
      · have hm : ∀ i j, i ≠ 29 + 2 * u + 1 → g1 i j = g i j := fun i j r => by
          rw [eg]
          exact if_neg r
        have h1 := h.cq (b' := g1) (fun i hi => funext fun k => hm i k (by omega))
        refine ⟨h1.shm, fun y g2 e2 => ?_⟩
        rcases e2 with ⟨q, -⟩ | ⟨t', u', ht', hu', et', eu', e2⟩
        · exact absurd q i4
        obtain rfl := tt t' ht' et'
        obtain rfl := uu u' hu' eu'
        rw [hm _ _ (by omega), hm _ _ (by omega), hm _ _ (by omega), hm _ _ (by omega)] at e2
        rcases e2 with ⟨r, -⟩ | ⟨r1, r2, ⟨r, -⟩ | ⟨r, sz', su', z1, z2, z3, z4, e2⟩⟩
        · exact absurd r (fun q => q.elim s4 u4)
        · rw [s5, u5] at r
          exact absurd c r
        rw [hm _ _ (by omega), s6] at z3
        rw [hm _ _ (by omega), u6] at z4
        have e6 : sz' = sz0 := (nI_eq (a := sz') (b := sz0) (by omega) (by omega)).mp z3.symm
        have e7 : su' = su0 := (nI_eq (a := su') (b := su0) (by omega) (by omega)).mp z4.symm
        subst e6
        subst e7
        rcases e2 with ⟨r, -⟩ | ⟨a', b', k', e3', e4', e5', l1', l2', ey, eg2, hr⟩
        · exact absurd ⟨a, b, k, e3, e4, e5, l1, l2⟩ r
        have w1 : a' = a := (nI_eq (a := a') (b := a) (by omega) (by omega)).mp (e3'.symm.trans e3)
        have w2 : b' = b := (nI_eq (a := b') (b := b) (by omega) (by omega)).mp (e4'.symm.trans e4)
        have w3 : k' = k := (nI_eq (a := k') (b := k) (by omega) (by omega)).mp (e5'.symm.trans e5)
        subst w1
        subst w2
        subst w3
        have fr : ∀ i j, i ≠ 29 + 2 * u' + 1 → ¬ (i = 114 ∧ 40 * u' + b' ≤ j ∧ j < 40 * u' + b' + k') → g2 i j = g i j := fun i j r1 r2 => (eg2 i j r2).trans (hm i j r1)
        refine ⟨ex.trans ey.symm, hn, vn, ru, tc, CS, h.sh hu ⟨su', u1, (fr _ _ (by omega) (by omega)).trans u2, Or.inr ⟨?_, ?_, ?_, ?_, fun i hi => ?_⟩⟩ (fun i k r1 _ r2 r3 => fr i k r3 (by omega)) (fun i k r1 _ _ r2 r3 => fr i k (by omega) (by omega)) (h.sd.fr (funext fun k => fr 102 k (by omega) (by omega)))⟩
        · rw [fr _ _ (by omega) (by omega)]
          exact cu
        · rw [fr _ _ (by omega) (by omega)]
          exact u4
        · rw [fr _ _ (by omega) (by omega), fr _ _ (by omega) (by omega)]
          exact u5
        · rw [fr _ _ (by omega) (by omega)]
          exact u6
        · have eL : g2 (29 + 2 * u' + 1) i = va_cpy (g (29 + 2 * t' + 1)) (g (29 + 2 * u' + 1)) a' b' k' i := by
            rw [eg2 _ _ (by omega), eg]
            exact if_pos rfl
          rw [eL]
          by_cases hb : b' ≤ i ∧ i < b' + k'
          · rw [pk_cpy_in hb.1 hb.2]
            have := hr (i - b') (by omega)
            rw [show 40 * u' + b' + (i - b') = 40 * u' + i by omega, hm _ _ (by omega)] at this
            rw [this, s7 _ (by omega), show 40 * t' + a' + (i - b') = 40 * t' + (a' + (i - b')) by omega]
          · rw [pk_cpy_out (by omega), fr _ _ (by omega) (by omega)]
            exact u7 i hi
