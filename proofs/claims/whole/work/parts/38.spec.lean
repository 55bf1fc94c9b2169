/-! WHAT IS READ, by itself: where tokens stand, that a fault stays, what codes make of a stack -/
def tokS (T : Nat → Int32) (sz a : Nat) (ft : Int32) : PS :=
  if sz ≤ a then (a, a, 10021, ft)
  else if isLt (T a) = 0 then
    (if isDg (T a) = 0 then (a + 1, a, sgn (T a), ft)
    else ((nmF T (sz - a) a 0).1, a, (if (nmF T (sz - a) a 0).1 - a ≤ 4 then (nmF T (sz - a) a 0).2 else 10022), ft))
  else (skL T (sz - a) a, a, wcL T a (skL T (sz - a) a - a) 12 0, ft)
theorem advS_tok {T : Nat → Int32} {sz : Nat} {S : PS} : advS T sz S = tokS T sz (skB T (sz - S.1) S.1) S.2.2.2 := rfl
theorem tokS_st {T : Nat → Int32} {sz a : Nat} {ft : Int32} : (tokS T sz a ft).2.1 = a := by
  unfold tokS
  split
  · rfl
  · split
    · split <;> rfl
    · rfl
theorem tokS_ft {T : Nat → Int32} {sz a : Nat} {ft : Int32} : (tokS T sz a ft).2.2.2 = ft := by
  unfold tokS
  split
  · rfl
  · split
    · split <;> rfl
    · rfl
theorem tokS_at {T : Nat → Int32} {sz a : Nat} {ft : Int32} (h : a ≤ sz) : a ≤ (tokS T sz a ft).1 ∧ (tokS T sz a ft).1 ≤ sz ∧ (a < sz → a < (tokS T sz a ft).1) := by
  unfold tokS
  by_cases h1 : sz ≤ a
  · rw [if_pos h1]
    exact ⟨Nat.le_refl a, h, fun q => by omega⟩
  rw [if_neg h1]
  obtain ⟨k, hk⟩ : ∃ k, sz - a = k + 1 := ⟨sz - a - 1, by omega⟩
  by_cases h2 : isLt (T a) = 0
  · rw [if_pos h2]
    by_cases h3 : isDg (T a) = 0
    · rw [if_pos h3]
      exact ⟨by show a ≤ a + 1; omega, by show a + 1 ≤ sz; omega, fun _ => by show a < a + 1; omega⟩
    · rw [if_neg h3]
      have e : nmF T (sz - a) a 0 = nmF T k (a + 1) (10 * 0 + T a - 48) := by
        rw [hk]
        exact if_neg h3
      have q := nmF_le (T := T) k (a + 1) (10 * 0 + T a - 48)
      rw [e]
      exact ⟨by show a ≤ (nmF _ _ _ _).1; omega, by show (nmF _ _ _ _).1 ≤ sz; omega, fun _ => by show a < (nmF _ _ _ _).1; omega⟩
  · rw [if_neg h2]
    have e : skL T (sz - a) a = skL T k (a + 1) := by
      rw [hk]
      exact if_neg h2
    have q := skL_le (T := T) k (a + 1)
    rw [e]
    exact ⟨by show a ≤ skL _ _ _; omega, by show skL _ _ _ ≤ sz; omega, fun _ => by show a < skL _ _ _; omega⟩
/-- what is read stands well: no fault so far, at a token; or a fault, that stays -/
def WF (T : Nat → Int32) (sz : Nat) (S : PS) : Prop := (S.2.2.2 = -1 ∧ S = tokS T sz S.2.1 (-1) ∧ S.2.1 ≤ sz) ∨ (¬ S.2.2.2 = -1 ∧ S.2.2.1 = 10022)
theorem WF.un {T : Nat → Int32} {sz : Nat} {S : PS} (h : WF T sz S) (ht : ¬ S.2.2.1 = 10022) : S.2.2.2 = -1 := by
  rcases h with h | h
  · exact h.1
  · exact absurd h.2 ht
theorem WF.tok {T : Nat → Int32} {sz : Nat} {S : PS} (h : WF T sz S) (hu : S.2.2.2 = -1) : S = tokS T sz S.2.1 (-1) ∧ S.2.1 ≤ sz := by
  rcases h with h | h
  · exact h.2
  · exact absurd hu h.1
theorem WF.bad {T : Nat → Int32} {sz : Nat} {S : PS} (h : WF T sz S) (hu : ¬ S.2.2.2 = -1) : S.2.2.1 = 10022 := by
  rcases h with h | h
  · exact absurd h.1 hu
  · exact h.2
theorem adv_W {T : Nat → Int32} {sz : Nat} {S : PS} (h : WF T sz S) (hu : S.2.2.2 = -1) : WF T sz (advS T sz S) ∧ S.2.1 ≤ (advS T sz S).2.1 ∧ (S.2.1 < sz → S.2.1 < (advS T sz S).2.1) ∧ (advS T sz S).2.2.2 = -1 := by
  obtain ⟨e, hs⟩ := h.tok hu
  have q := tokS_at (T := T) (sz := sz) (a := S.2.1) (ft := -1) hs
  rw [← e] at q
  have q2 := skB_le (T := T) (sz - S.1) S.1
  rw [advS_tok, hu]
  have e1 : (tokS T sz (skB T (sz - S.1) S.1) (-1)).2.1 = skB T (sz - S.1) S.1 := tokS_st
  refine ⟨Or.inl ⟨tokS_ft, by rw [e1], by rw [e1]; omega⟩, by rw [e1]; omega, fun q3 => by rw [e1]; have := q.2.2 q3; omega, tokS_ft⟩
theorem nI_nm {s : Nat} (h : s ≤ 160) : ¬ nI s = -1 := by
  have : ∀ s, s ≤ 160 → ¬ nI s = -1 := by decide +kernel
  exact this s h
theorem ref_W {T : Nat → Int32} {sz : Nat} (hz : sz ≤ 160) {S : PS} (h : WF T sz S) : WF T sz (refS S) ∧ (refS S).2.1 = S.2.1 ∧ ¬ (refS S).2.2.2 = -1 ∧ (¬ S.2.2.2 = -1 → refS S = S) := by
  by_cases hu : S.2.2.2 = -1
  · obtain ⟨e, hs⟩ := h.tok hu
    have h1 : ¬ (refS S).2.2.2 = -1 := by
      unfold refS
      rw [if_pos hu]
      exact nI_nm (by omega)
    exact ⟨Or.inr ⟨h1, rfl⟩, rfl, h1, fun q => absurd hu q⟩
  · have e : refS S = S := by
      have e2 := h.bad hu
      unfold refS
      rw [if_neg hu, ← e2]
    exact ⟨by rw [e]; exact h, rfl, by rw [e]; exact hu, fun _ => e⟩
/-- a reader keeps that, goes on, and leaves a fault as it is -/
def Pp (T : Nat → Int32) (sz : Nat) (F : PF) : Prop := ∀ S, WF T sz S → WF T sz (F S).1 ∧ S.2.1 ≤ (F S).1.2.1 ∧ (¬ S.2.2.2 = -1 → (F S).1 = S)
theorem Pp.un {T : Nat → Int32} {sz : Nat} {F : PF} (h : Pp T sz F) {S : PS} (hS : WF T sz S) (hu : (F S).1.2.2.2 = -1) : S.2.2.2 = -1 := by
  by_cases q : S.2.2.2 = -1
  · exact q
  · rw [(h S hS).2.2 q] at hu
    exact hu
section PPS
variable {T : Nat → Int32} {sz : Nat}
theorem dem_W (hz : sz ≤ 160) {w : Int32} (hw : ¬ w = 10022) {S : PS} (h : WF T sz S) : WF T sz (demS (advS T sz) w S) ∧ S.2.1 ≤ (demS (advS T sz) w S).2.1 ∧ (¬ S.2.2.2 = -1 → demS (advS T sz) w S = S) ∧ ((demS (advS T sz) w S).2.2.2 = -1 → S.2.2.1 = w ∧ S.2.2.2 = -1) := by
  unfold demS
  by_cases e : S.2.2.1 = w
  · rw [if_pos e]
    have hu := h.un (by rw [e]; exact hw)
    have q := adv_W h hu
    exact ⟨q.1, q.2.1, fun r => absurd hu r, fun _ => ⟨e, hu⟩⟩
  · rw [if_neg e]
    have q := ref_W hz h
    exact ⟨q.1, Nat.le_of_eq q.2.1.symm, q.2.2.2, fun r => absurd r q.2.2.1⟩
theorem on0_P (hz : sz ≤ 160) : Pp T sz (on0 (advS T sz)) := by
  intro S h
  unfold on0
  by_cases e : S.2.2.1 ≤ 10005
  · rw [if_pos e]
    have hu := h.un (fun q => absurd (q ▸ e) (by decide))
    have q := adv_W h hu
    exact ⟨q.1, q.2.1, fun r => absurd hu r⟩
  · rw [if_neg e]
    have q := ref_W hz h
    exact ⟨q.1, Nat.le_of_eq q.2.1.symm, q.2.2.2⟩
theorem onS_P (hz : sz ≤ 160) {one or : PF} (h1 : Pp T sz one) (h2 : Pp T sz or) : Pp T sz (onS (advS T sz) one or) := by
  intro S h
  unfold onS
  by_cases e : S.2.2.1 ≤ 10005
  · rw [if_pos e]
    have hu := h.un (fun q => absurd (q ▸ e) (by decide))
    have q := adv_W h hu
    exact ⟨q.1, q.2.1, fun r => absurd hu r⟩
  rw [if_neg e]
  by_cases e1 : S.2.2.1 = 10016
  · rw [if_pos e1]
    have hu := h.un (by rw [e1]; decide)
    have q := adv_W h hu
    have p := h1 _ q.1
    exact ⟨p.1, Nat.le_trans q.2.1 p.2.1, fun r => absurd hu r⟩
  rw [if_neg e1]
  by_cases e2 : S.2.2.1 = 10012
  · rw [if_pos e2]
    have hu := h.un (by rw [e2]; decide)
    have q := adv_W h hu
    have p := h2 _ q.1
    have d := dem_W hz (w := 10013) (by decide) p.1
    exact ⟨d.1, Nat.le_trans q.2.1 (Nat.le_trans p.2.1 d.2.1), fun r => absurd hu r⟩
  · rw [if_neg e2]
    have q := ref_W hz h
    exact ⟨q.1, Nat.le_of_eq q.2.1.symm, q.2.2.2⟩
theorem lpF_P {P : Int32 → Bool} (hP : P 10022 = false) {sub : PF} (h1 : Pp T sz sub) : ∀ k, Pp T sz (lpF (advS T sz) P sub k)
  | 0, S, h => ⟨h, Nat.le_refl _, fun _ => rfl⟩
  | k + 1, S, h => by
    unfold lpF
    by_cases e : P S.2.2.1 = true
    · rw [if_pos e]
      have hu := h.un (fun q => by rw [q, hP] at e; cases e)
      have q := adv_W h hu
      have p := h1 _ q.1
      have r := lpF_P hP h1 k _ p.1
      exact ⟨r.1, Nat.le_trans q.2.1 (Nat.le_trans p.2.1 r.2.1), fun r => absurd hu r⟩
    · rw [if_neg e]
      exact ⟨h, Nat.le_refl _, fun _ => rfl⟩
theorem lvF_P {P : Int32 → Bool} (hP : P 10022 = false) {sub : PF} (h1 : Pp T sz sub) : Pp T sz (lvF (advS T sz) P sub) := by
  intro S h
  have p := h1 _ h
  have r := lpF_P hP h1 160 _ p.1
  refine ⟨r.1, Nat.le_trans p.2.1 r.2.1, fun q => ?_⟩
  have e := p.2.2 q
  show (lpF _ P sub 160 (sub S).1).1 = S
  rw [e] at r ⊢
  exact r.2.2 q
theorem cmF_P {sum : PF} (h1 : Pp T sz sum) : Pp T sz (cmF (advS T sz) sum) := by
  intro S h
  have p := h1 _ h
  unfold cmF
  by_cases e : (sum S).1.2.2.1 = 10018 ∨ (sum S).1.2.2.1 = 10019
  · rw [if_pos e]
    have hu := p.1.un (fun q => by rw [q] at e; exact absurd e (by decide))
    have q := adv_W p.1 hu
    have r := h1 _ q.1
    exact ⟨r.1, Nat.le_trans p.2.1 (Nat.le_trans q.2.1 r.2.1), fun z => absurd (h1.un h hu) z⟩
  · rw [if_neg e]
    exact p
theorem ntS_P {nt sum : PF} (h1 : Pp T sz nt) (h2 : Pp T sz sum) : Pp T sz (ntS (advS T sz) nt sum) := by
  intro S h
  unfold ntS
  by_cases e : S.2.2.1 = 10011
  · rw [if_pos e]
    have hu := h.un (by rw [e]; decide)
    have q := adv_W h hu
    have p := h1 _ q.1
    exact ⟨p.1, Nat.le_trans q.2.1 p.2.1, fun r => absurd hu r⟩
  · rw [if_neg e]
    exact cmF_P h2 S h
theorem smF_P {one : PF} (h : Pp T sz one) : Pp T sz (smF (advS T sz) one) := lvF_P rfl (lvF_P rfl h)
theorem orF_P {nt : PF} (h : Pp T sz nt) : Pp T sz (orF (advS T sz) nt) := lvF_P rfl (lvF_P rfl h)
theorem lvl_P (hz : sz ≤ 160) : ∀ k, Pp T sz (lvl (advS T sz) k).1 ∧ Pp T sz (lvl (advS T sz) k).2.1 ∧ Pp T sz (lvl (advS T sz) k).2.2
  | 0 => ⟨orF_P (cmF_P (smF_P (on0_P hz))), on0_P hz, cmF_P (smF_P (on0_P hz))⟩
  | k + 1 => by
    have ih := lvl_P hz k
    have h1 := onS_P hz ih.2.1 ih.1
    have h2 := ntS_P ih.2.2 (smF_P h1)
    exact ⟨orF_P h2, h1, h2⟩
end PPS
/-! what codes make of a stack -/
def rnL (ev : Int32 → Int32) (cs : List Int32) (S : SK) : SK := cs.foldl (fun S c => stp ev c S) S
/-- codes put one number on the stack, if there is room for D -/
def GC (ev : Int32 → Int32) (D : Nat) (cs : List Int32) (v : Int32) : Prop := ∀ S : SK, S.1 + D ≤ 40 → ∃ f, rnL ev cs S = (S.1 + 1, f) ∧ f S.1 = v ∧ ∀ j, j < S.1 → f j = S.2 j
theorem rnL_app {ev : Int32 → Int32} {cs ds : List Int32} {S : SK} : rnL ev (cs ++ ds) S = rnL ev ds (rnL ev cs S) := List.foldl_append
theorem GC.mono {ev : Int32 → Int32} {D D' : Nat} {cs : List Int32} {v : Int32} (h : GC ev D cs v) (hD : D ≤ D') : GC ev D' cs v := fun S hS => h S (by omega)
theorem GC_leaf {ev : Int32 → Int32} {c : Int32} (h : c ≤ 10005) : GC ev 1 [c] (if 10000 ≤ c then ev c else c) := by
  intro S hS
  have e : stp ev c S = (S.1 + 1, upd S.2 S.1 (if 10000 ≤ c then ev c else c)) := by
    unfold stp
    rw [if_neg (fun q => q.elim (fun r => Int32.not_lt.mpr h r) (fun r => by omega))]
  exact ⟨_, e, pk_us, fun j hj => pk_un (by omega)⟩
theorem GC_neg {ev : Int32 → Int32} {D : Nat} {cs : List Int32} {v : Int32} (h : GC ev D cs v) : GC ev D (cs ++ [10020]) (-v) := by
  intro S hS
  obtain ⟨f, e1, e2, e3⟩ := h S hS
  have e : stp ev 10020 (S.1 + 1, f) = (S.1 + 1, upd f S.1 (-v)) := by
    unfold stp
    rw [if_pos (Or.inl (by decide)), if_pos ⟨rfl, by show ¬ S.1 + 1 < 1; omega⟩]
    show (S.1 + 1, upd f (S.1 + 1 - 1) (-(f (S.1 + 1 - 1)))) = _
    rw [Nat.add_sub_cancel, e2]
  refine ⟨upd f S.1 (-v), ?_, pk_us, fun j hj => (pk_un (by omega)).trans (e3 j hj)⟩
  rw [rnL_app, e1]
  exact e
theorem GC_not {ev : Int32 → Int32} {D : Nat} {cs : List Int32} {v : Int32} (h : GC ev D cs v) : GC ev D (cs ++ [10011]) (if v = 0 then 1 else 0) := by
  intro S hS
  obtain ⟨f, e1, e2, e3⟩ := h S hS
  have e : stp ev 10011 (S.1 + 1, f) = (S.1 + 1, upd f S.1 (if v = 0 then 1 else 0)) := by
    unfold stp
    rw [if_pos (Or.inl (by decide)), if_neg (fun q => absurd q.1 (by decide)), if_pos ⟨rfl, by show ¬ S.1 + 1 < 1; omega⟩]
    show (S.1 + 1, upd f (S.1 + 1 - 1) (if f (S.1 + 1 - 1) = 0 then 1 else 0)) = _
    rw [Nat.add_sub_cancel, e2]
  refine ⟨upd f S.1 (if v = 0 then 1 else 0), ?_, pk_us, fun j hj => (pk_un (by omega)).trans (e3 j hj)⟩
  rw [rnL_app, e1]
  exact e
theorem GC_bin {ev : Int32 → Int32} {D D1 D2 : Nat} {cs ds : List Int32} {v w c : Int32} (h : GC ev D1 cs v) (h2 : GC ev D2 ds w) (hD : D1 ≤ D) (hD2 : D2 + 1 ≤ D) (hc : (10005 : Int32) < c) (hc1 : ¬ c = 10020) (hc2 : ¬ c = 10011) : GC ev D (cs ++ ds ++ [c]) (jnV c v w) := by
  intro S hS
  obtain ⟨f, e1, e2, e3⟩ := h S (by omega)
  obtain ⟨f2, d1, d2, d3⟩ := h2 (S.1 + 1, f) (by show S.1 + 1 + D2 ≤ 40; omega)
  have d2 : f2 (S.1 + 1) = w := d2
  have d3 : ∀ j, j < S.1 + 1 → f2 j = f j := d3
  have e : stp ev c (S.1 + 1 + 1, f2) = (S.1 + 1, upd f2 S.1 (jnV c v w)) := by
    unfold stp
    rw [if_pos (Or.inl hc), if_neg (fun q => hc1 q.1), if_neg (fun q => hc2 q.1), if_neg (show ¬ S.1 + 1 + 1 < 2 by omega)]
    show (S.1 + 1 + 1 - 1, upd f2 (S.1 + 1 + 1 - 1 - 1) (jnV c (f2 (S.1 + 1 + 1 - 1 - 1)) (f2 (S.1 + 1 + 1 - 1)))) = _
    rw [show S.1 + 1 + 1 - 1 = S.1 + 1 by omega, show S.1 + 1 - 1 = S.1 by omega, d2, d3 S.1 (by omega), e2]
  refine ⟨upd f2 S.1 (jnV c v w), ?_, pk_us, fun j hj => (pk_un (by omega)).trans ((d3 j (by omega)).trans (e3 j hj))⟩
  rw [rnL_app, rnL_app, e1, d1]
  exact e
