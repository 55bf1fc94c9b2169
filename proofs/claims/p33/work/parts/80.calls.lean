/-! THE LAW'S CALLS, and what they leave true -/
theorem Bs.qp {P : Sv → Prop} {g g1 : IG} {hn vn : Nat} (h : Bs g hn vn) (hP : P (svC g 37)) (hF : Fr scr g g1) : Bs g1 hn vn ∧ P (svC g1 37) := ⟨(h.q hF).1, by rw [(h.q hF).2]; exact hP⟩
section CALLS
variable {g : IG} {o : Option Nat} {z : Int64} {hn vn : Nat}
theorem k_set (l : Launch) (E : Ev) {w q : Nat} {v : Int32} (hB : Bs g hn vn) (hw : w < 10) (hq : q < 8) (h3 : w = 3 → q = 0) (hna : ¬ namesI g 37 (nI w) (nI q) = 0) (hf : ¬ fitsI g 37 (nI w) v = 0) : Ct l E 88 yX5_set cX5_set 5 (some .int) 3 [.ref (E.2.1 0), .int (nI w), .int (nI q), .int v] g (RFo o) z (ZI (RFo o) z (fun _ g1 => g1 = up2 g (39 + w) q v)) := by
  refine (c_X5_set l E (o := o) (z := z) hB.1.1.1 hB.1.1.2.1 hB.1.2.1 hB.1.2.2.1 (nI w) (nI q) v).wk ?_
  rintro _ _ _ _ ⟨⟨x, rfl, h⟩, rfl, rfl⟩
  exact ⟨⟨x, rfl, set_ok hw hq h3 hna hf h⟩, rfl, rfl⟩
theorem k_setp (l : Launch) (E : Ev) {w q x : Nat} (hB : Bs g hn vn) (hw : w < 3) (hq : q < 4) (hx : x ≤ 199) : Ct l E 88 yX5_set cX5_set 5 (some .int) 3 [.ref (E.2.1 0), .int (nI w), .int (nI q), .int (nI x)] g (RFo o) z (ZI (RFo o) z (fun _ g1 => g1 = up2 g (39 + w) q (nI x))) :=
  k_set l E hB (by omega) (by omega) (by omega) (names_p hw hq) (fits_n (most_l (by omega)) hx (by omega))
theorem k_setm (l : Launch) (E : Ev) {x : Nat} (hB : Bs g hn vn) (hx : x ≤ 199) : Ct l E 88 yX5_set cX5_set 5 (some .int) 3 [.ref (E.2.1 0), .int (nI 3), .int (nI 0), .int (nI x)] g (RFo o) z (ZI (RFo o) z (fun _ g1 => g1 = up2 g 42 0 (nI x))) :=
  k_set l E hB (by omega) (by omega) (by omega) names_m (fits_n (most_l (by omega)) hx (by omega))
theorem k_setw (l : Launch) (E : Ev) {q x : Nat} (hB : Bs g hn vn) (hq : q < vn) (hx : x ≤ 3) : Ct l E 88 yX5_set cX5_set 5 (some .int) 3 [.ref (E.2.1 0), .int (nI 9), .int (nI q), .int (nI x)] g (RFo o) z (ZI (RFo o) z (fun _ g1 => g1 = up2 g 48 q (nI x))) :=
  k_set l E hB (by omega) (by have := hB.1.1.2.1; omega) (by omega) (names_y (Or.inr rfl) hB.1.2.2.1 hq hB.1.1.2.1) (fits_n most_9 hx (by omega))
theorem k_seth (l : Launch) (E : Ev) {q : Nat} (hB : Bs g 2 vn) (hq : q < vn) : Ct l E 88 yX5_set cX5_set 5 (some .int) 3 [.ref (E.2.1 0), .int (nI 7), .int (nI q), .int (nI 1)] g (RFo o) z (ZI (RFo o) z (fun _ g1 => g1 = up2 g 46 q (nI 1))) :=
  k_set l E hB (by omega) (by have := hB.1.1.2.1; omega) (by omega) (names_y (Or.inl rfl) hB.1.2.2.1 hq hB.1.1.2.1) (fits_n (most_7 (hn := 1) hB.1.2.1) (by omega) (by omega))
theorem k_hand (l : Launch) (E : Ev) {ki num sh wi : Nat} {wt : Int32} (hB : Bs g hn vn) (hn5 : hn < 5) (hk : ki ≤ 5) (hnu : num ≤ 9) (hsh : sh ≤ 10) (hwi : wi ≤ 199) (hwt : wt = nI (100 * num + sh)) : Ct l E 88 yX5_hand cX5_hand 5 (some .int) 3 [.ref (E.2.1 0), .int (nI ki), .int wt, .int (nI wi)] g (RFo o) z (Zi (RFo o) z (nI hn) (hdG g hn ki num sh wi)) := by
  have h := c_X5_hand l E (o := o) (z := z) hB.1.1.1 hB.1.2.1 (nI ki) wt (nI wi)
  rw [hand_ok hn5 hk hnu hsh hwi hwt] at h
  exact h
theorem k_visit (l : Launch) (E : Ev) {h w : Nat} {wt : Int32} (hB : Bs g hn vn) (hh : h < hn) (hw : w ≤ 20) (hv : vn < 8) (hwt : wt = nI (10 * w)) : Ct l E 88 yX5_visit cX5_visit 3 (some .int) 4 [.ref (E.2.1 0), .int (nI h), .int wt] g (RFo o) z (Zi (RFo o) z (nI vn) (nvG g vn h w)) := by
  have h := c_X5_visit l E (o := o) (z := z) hB.1.1.2.1 hB.1.2.2.1 (nI h) wt
  rw [visit_ok hB.1.2.1 hh hB.1.1.1 hw hv hwt] at h
  exact h
end CALLS
/-! the first object -/
theorem F1.start {g : IG} {len wi : Nat} (hl : 50 ≤ len ∧ len < 150) (h : ∀ i j, i < 3 → j < 4 → svC g 37 i j = nI len) : F1 (svC (hdG g 0 0 0 10 wi) 37) 0 len 0 0 0 := by
  refine ⟨⟨hl.1, hl.2, by omega, by omega, by omega, Or.inl ⟨rfl, rfl⟩⟩, fun p hp => ?_, fun v hv => absurd hv (by omega), hdG_at.2.2.1, hdG_at.1, hdG_at.2.1⟩
  rw [hdG_sv (by omega) (by omega), hdG_sv (by omega) (by omega), hdG_sv (by omega) (by omega)]
  exact ⟨h 0 p (by omega) hp, h 1 p (by omega) hp, h 2 p (by omega) hp⟩
theorem F1.visit {g : IG} {k len w : Nat} (H : F1 (svC g 37) k len 0 0 0) (hk : k < 8) (hw : w ≤ 20) : F1 (svC (nvG g k 0 w) 37) (k + 1) len 0 0 0 := by
  obtain ⟨h1, h0, hv0, f5, f10, f4⟩ := H
  refine ⟨⟨h1.1, h1.2.1, by omega, h1.2.2.2⟩, fun p hp => ?_, fun v hv => ?_, (nvG_sv (by omega) (by omega)).trans f5, (nvG_sv (by omega) (by omega)).trans f10, (nvG_sv (by omega) (by omega)).trans f4⟩
  · rw [nvG_sv (by omega) (by omega), nvG_sv (by omega) (by omega), nvG_sv (by omega) (by omega)]
    exact h0 p hp
  · by_cases e : v = k
    · rw [e]
      exact ⟨nvG_at.1, ⟨w, hw, nvG_at.2.1⟩, nvG_at.2.2⟩
    · rw [nvG_sv (by omega) (by omega), nvG_sv (by omega) (by omega), nvG_sv (by omega) (by omega)]
      exact hv0 v (by omega)
/-- the second hand stands; the first k visits are its own -/
def FG (a : Sv) (n len sh k : Nat) : Prop := (50 ≤ len ∧ len < 150 ∧ n ≤ 8 ∧ sh ≤ 5) ∧ (∀ p, p < 4 → a 0 p = nI len ∧ a 1 p = nI len ∧ a 2 p = nI len) ∧ (∀ v, v < n → (∃ w, w ≤ 20 ∧ a 8 v = nI w) ∧ a 9 v = 0) ∧ (∀ v, v < k → a 7 v = nI 1) ∧ (a 5 0 = 10 ∧ a 10 0 = nI 0 ∧ a 4 0 = nI 0) ∧ (a 5 1 = 10 ∧ a 10 1 = nI 1 ∧ a 4 1 = nI sh)
theorem FG.start {g : IG} {n len sh wi : Nat} (H : F1 (svC g 37) n len 0 0 0) (hs : sh ≤ 5) : FG (svC (hdG g 1 1 sh 10 wi) 37) n len sh 0 := by
  obtain ⟨h1, h0, hv0, f5, f10, f4⟩ := H
  refine ⟨⟨h1.1, h1.2.1, h1.2.2.1, hs⟩, fun p hp => ?_, fun v hv => ?_, fun v hv => absurd hv (by omega), ⟨(hdG_sv (by omega) (by omega)).trans f5, (hdG_sv (by omega) (by omega)).trans f10, (hdG_sv (by omega) (by omega)).trans f4⟩, hdG_at.2.2.1, hdG_at.1, hdG_at.2.1⟩
  · rw [hdG_sv (by omega) (by omega), hdG_sv (by omega) (by omega), hdG_sv (by omega) (by omega)]
    exact h0 p hp
  · rw [hdG_sv (by omega) (by omega), hdG_sv (by omega) (by omega)]
    exact (hv0 v hv).2
theorem FG.set {a : Sv} {n len sh k : Nat} (H : FG a n len sh k) : FG (up2 a 7 k (nI 1)) n len sh (k + 1) := by
  obtain ⟨h1, h0, hv0, h7, hp0, hp1⟩ := H
  have q : ∀ i j, i ≠ 7 → up2 a 7 k (nI 1) i j = a i j := fun i j hi => up2_n _ _ (Or.inl hi)
  refine ⟨h1, fun p hp => ?_, fun v hv => ?_, fun v hv => ?_, ?_, ?_⟩
  · rw [q _ _ (by omega), q _ _ (by omega), q _ _ (by omega)]
    exact h0 p hp
  · rw [q _ _ (by omega), q _ _ (by omega)]
    exact hv0 v hv
  · by_cases e : v = k
    · rw [e, up2_s]
    · rw [up2_n _ _ (Or.inr e)]
      exact h7 v (by omega)
  · rw [q _ _ (by omega), q _ _ (by omega), q _ _ (by omega)]
    exact hp0
  · rw [q _ _ (by omega), q _ _ (by omega), q _ _ (by omega)]
    exact hp1
/-- all visits are the second hand's -/
def FE (a : Sv) (n len sh : Nat) : Prop := F1 a n len 1 1 sh ∧ (a 5 0 = 10 ∧ a 10 0 = nI 0 ∧ a 4 0 = nI 0) ∧ (a 5 1 = 10 ∧ a 10 1 = nI 1 ∧ a 4 1 = nI sh) ∧ sh ≤ 5
theorem FG.fin {a : Sv} {n len sh : Nat} (H : FG a n len sh n) : FE a n len sh := by
  obtain ⟨h1, h0, hv0, h7, hp0, hp1⟩ := H
  exact ⟨⟨⟨h1.1, h1.2.1, h1.2.2.1, by omega, h1.2.2.2, Or.inr rfl⟩, h0, fun v hv => ⟨h7 v hv, hv0 v hv⟩, hp1⟩, hp0, hp1, h1.2.2.2⟩
theorem FE.whom {a : Sv} {n len sh : Nat} (H : FE a n len sh) : whomF M0 a 2 n 0 = 0 := whom_2 H.1 H.2.1.1 H.2.1.2.1 H.2.1.2.2 H.2.2.1.1 H.2.2.1.2.1 H.2.2.1.2.2 H.2.2.2
theorem sN_law2 : ∀ s, s < 6 → ∀ n, n < 9 → nI (4 * s * n * (n + 1)) / nI 2 = nI (sN s n) := by decide +kernel
/-! the second object -/
theorem F2.start {g : IG} {w wi : Nat} (h : CG g) (hw : w ≤ 20) (hwi : wi ≤ 199) : F2 (svC (nvG (nvG (hdG (hdG g 0 0 0 0 wi) 1 2 0 0 wi) 0 0 w) 1 1 w) 37) w wi ∧ svC (nvG (nvG (hdG (hdG g 0 0 0 0 wi) 1 2 0 0 wi) 0 0 w) 1 1 w) 37 9 0 = 0 := by
  obtain ⟨-, -, -, -, -, -, -, -, h40, -⟩ := h
  obtain ⟨A10, A4, A5, A6⟩ := hdG_at (g := g) (hn := 0) (ki := 0) (num := 0) (sh := 0) (wi := wi)
  obtain ⟨B10, B4, B5, B6⟩ := hdG_at (g := hdG g 0 0 0 0 wi) (hn := 1) (ki := 2) (num := 0) (sh := 0) (wi := wi)
  obtain ⟨C7, C8, C9⟩ := nvG_at (g := hdG (hdG g 0 0 0 0 wi) 1 2 0 0 wi) (vn := 0) (h := 0) (w := w)
  obtain ⟨D7, D8, D9⟩ := nvG_at (g := nvG (hdG (hdG g 0 0 0 0 wi) 1 2 0 0 wi) 0 0 w) (vn := 1) (h := 1) (w := w)
  have e0 : ∀ i, (i = 4 ∨ i = 5 ∨ i = 6 ∨ i = 10) → svC (nvG (nvG (hdG (hdG g 0 0 0 0 wi) 1 2 0 0 wi) 0 0 w) 1 1 w) 37 i 0 = svC (hdG g 0 0 0 0 wi) 37 i 0 := fun i hi => by
    rw [nvG_sv (by omega) (by omega), nvG_sv (by omega) (by omega), hdG_sv (by omega) (by omega)]
  have e1 : ∀ i, (i = 4 ∨ i = 5 ∨ i = 6 ∨ i = 10) → svC (nvG (nvG (hdG (hdG g 0 0 0 0 wi) 1 2 0 0 wi) 0 0 w) 1 1 w) 37 i 1 = svC (hdG (hdG g 0 0 0 0 wi) 1 2 0 0 wi) 37 i 1 := fun i hi => by
    rw [nvG_sv (by omega) (by omega), nvG_sv (by omega) (by omega)]
  have e2 : ∀ i, (i = 7 ∨ i = 8 ∨ i = 9) → svC (nvG (nvG (hdG (hdG g 0 0 0 0 wi) 1 2 0 0 wi) 0 0 w) 1 1 w) 37 i 0 = svC (nvG (hdG (hdG g 0 0 0 0 wi) 1 2 0 0 wi) 0 0 w) 37 i 0 := fun i hi => by
    rw [nvG_sv (by omega) (by omega)]
  have e3 : ∀ i p, i < 3 → svC (nvG (nvG (hdG (hdG g 0 0 0 0 wi) 1 2 0 0 wi) 0 0 w) 1 1 w) 37 i p = g (39 + i) p := fun i p hi => by
    rw [nvG_sv (by omega) (by omega), nvG_sv (by omega) (by omega), hdG_sv (by omega) (by omega), hdG_sv (by omega) (by omega), svL (by omega)]
  refine ⟨⟨⟨hw, hwi⟩, fun p hp => ⟨(e3 0 p (by omega)).trans (h40 p hp).1, (e3 1 p (by omega)).trans (h40 p hp).2.1⟩, ⟨(e2 7 (by omega)).trans C7, D7⟩, ⟨(e2 8 (by omega)).trans C8, D8⟩, ⟨(e0 5 (by omega)).trans A5, (e1 5 (by omega)).trans B5⟩, ⟨(e0 10 (by omega)).trans A10, (e1 10 (by omega)).trans B10⟩, ⟨(e0 4 (by omega)).trans A4, (e1 4 (by omega)).trans B4⟩, ⟨(e0 6 (by omega)).trans A6, (e1 6 (by omega)).trans B6⟩, D9⟩, (e2 9 (by omega)).trans C9⟩
theorem F2.up {a : Sv} {w wi i k : Nat} {v : Int32} (H : F2 a w wi) (h : i = 2 ∨ i = 3 ∨ (i = 9 ∧ k = 0)) : F2 (up2 a i k v) w wi := by
  obtain ⟨h1, h0, h7, h8, h5, h10, h4, h6, h9⟩ := H
  have q : ∀ x y, ¬ (x = i ∧ y = k) → up2 a i k v x y = a x y := fun x y e => up2_n _ _ (by omega)
  refine ⟨h1, fun p hp => ?_, ?_, ?_, ?_, ?_, ?_, ?_, ?_⟩
  · rw [q _ _ (by omega), q _ _ (by omega)]; exact h0 p hp
  · rw [q _ _ (by omega), q _ _ (by omega)]; exact h7
  · rw [q _ _ (by omega), q _ _ (by omega)]; exact h8
  · rw [q _ _ (by omega), q _ _ (by omega)]; exact h5
  · rw [q _ _ (by omega), q _ _ (by omega)]; exact h10
  · rw [q _ _ (by omega), q _ _ (by omega)]; exact h4
  · rw [q _ _ (by omega), q _ _ (by omega)]; exact h6
  · rw [q _ _ (by omega)]; exact h9
/-- a new object's references are as laid -/
theorem rf_new {r1 : RG} (h1 : ∀ i, 88 ≤ i → ∀ j, r1 i j = none) (h2 : ∀ i, i < 88 → ∀ j, r1 i j = RFo (some 5) i j) : r1 = RFo (some 5) := by
  funext i j
  by_cases h : i < 88
  · exact h2 i h j
  · rw [h1 i (by omega)]
    unfold RFo RT
    have hl : rtl.length = 88 := by decide +kernel
    rw [if_neg (by omega), List.getD_eq_getElem?_getD (l := rtl), List.getElem?_eq_none (by omega)]
    rfl
