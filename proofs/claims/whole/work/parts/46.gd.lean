/-! WHAT IS READ WITHOUT A FAULT: few codes, that come to a number whatever the names say -/
def Gd (T : Nat → Int32) (sz : Nat) (F : PF) (D : Nat) : Prop := ∀ S, WF T sz S → (F S).1.2.2.2 = -1 → (F S).2.length + S.2.1 ≤ (F S).1.2.1 ∧ ∀ ev, ∃ v, GC ev D (F S).2 v
section GDS
variable {T : Nat → Int32} {sz : Nat}
theorem WF.tt {S : PS} (h : WF T sz S) (hu : S.2.2.2 = -1) : S.2.2.1 = (tokS T sz S.2.1 (-1)).2.2.1 := congrArg (fun q : PS => q.2.2.1) (h.tok hu).1
theorem WF.lt {S : PS} (h : WF T sz S) (hu : S.2.2.2 = -1) (ht : ¬ S.2.2.1 = 10021) : S.2.1 < sz := Nat.not_le.mp fun q => ht ((h.tt hu).trans (tk_0 (kd_end q).1))
theorem Gd.mono {F : PF} {D D' : Nat} (h : Gd T sz F D) (hD : D ≤ D') : Gd T sz F D' := fun S hS hu => ⟨(h S hS hu).1, fun ev => by
  obtain ⟨v, hv⟩ := (h S hS hu).2 ev
  exact ⟨v, hv.mono hD⟩⟩
theorem on0_G (hz : sz ≤ 160) : Gd T sz (on0 (advS T sz)) 1 := by
  intro S h
  unfold on0
  by_cases e : S.2.2.1 ≤ 10005
  · rw [if_pos e]
    intro _
    have hu := h.un (fun q => absurd (q ▸ e) (by decide))
    have q := adv_W h hu
    have l := q.2.2.1 (h.lt hu (fun r => absurd (r ▸ e) (by decide)))
    exact ⟨by show 1 + S.2.1 ≤ (advS T sz S).2.1; omega, fun ev => ⟨_, GC_leaf e⟩⟩
  · rw [if_neg e]
    exact fun r => absurd r (ref_W hz h).2.2.1
theorem onS_G (hz : sz ≤ 160) {one or : PF} {D D1 D2 : Nat} (p1 : Pp T sz one) (p2 : Pp T sz or) (h1 : Gd T sz one D1) (h2 : Gd T sz or D2) (h0 : 1 ≤ D) (hD1 : D1 ≤ D) (hD2 : D2 ≤ D) : Gd T sz (onS (advS T sz) one or) D := by
  intro S h
  unfold onS
  by_cases e : S.2.2.1 ≤ 10005
  · rw [if_pos e]
    intro _
    have hu := h.un (fun q => absurd (q ▸ e) (by decide))
    have q := adv_W h hu
    have l := q.2.2.1 (h.lt hu (fun r => absurd (r ▸ e) (by decide)))
    exact ⟨by show 1 + S.2.1 ≤ (advS T sz S).2.1; omega, fun ev => ⟨_, (GC_leaf e).mono h0⟩⟩
  rw [if_neg e]
  by_cases e1 : S.2.2.1 = 10016
  · rw [if_pos e1]
    intro r
    have hu := h.un (by rw [e1]; decide)
    have q := adv_W h hu
    have l := q.2.2.1 (h.lt hu (by rw [e1]; decide))
    obtain ⟨a, b⟩ := h1 _ q.1 r
    refine ⟨by show ((one (advS T sz S)).2 ++ [10020]).length + S.2.1 ≤ (one (advS T sz S)).1.2.1; rw [List.length_append]; show (one (advS T sz S)).2.length + 1 + S.2.1 ≤ _; omega, fun ev => ?_⟩
    obtain ⟨v, hv⟩ := b ev
    exact ⟨_, (GC_neg hv).mono hD1⟩
  rw [if_neg e1]
  by_cases e2 : S.2.2.1 = 10012
  · rw [if_pos e2]
    intro r
    have hu := h.un (by rw [e2]; decide)
    have q := adv_W h hu
    have p := p2 _ q.1
    have d := dem_W hz (w := 10013) (by decide) p.1
    obtain ⟨a, b⟩ := h2 _ q.1 (d.2.2.2 r).2
    refine ⟨by show (or (advS T sz S)).2.length + S.2.1 ≤ _; have := d.2.1; have := q.2.1; show _ ≤ (demS (advS T sz) 10013 (or (advS T sz S)).1).2.1; omega, fun ev => ?_⟩
    obtain ⟨v, hv⟩ := b ev
    exact ⟨_, hv.mono hD2⟩
  · rw [if_neg e2]
    exact fun r => absurd r (ref_W hz h).2.2.1
/-- as long as a sign stands there -/
theorem lpF_G {P : Int32 → Bool} (hP : P 10022 = false) (hP2 : P 10021 = false) (hP3 : ∀ c, P c = true → (10005 : Int32) < c ∧ ¬ c = 10020 ∧ ¬ c = 10011) {sub : PF} {D : Nat} (p1 : Pp T sz sub) (h1 : Gd T sz sub D) : ∀ (k : Nat) (S : PS) (cs : List Int32), WF T sz S → (lpF (advS T sz) P sub k S).1.2.2.2 = -1 → (lpF (advS T sz) P sub k S).2.length + S.2.1 ≤ (lpF (advS T sz) P sub k S).1.2.1 ∧ ∀ ev, (∃ v, GC ev (D + 1) cs v) → ∃ v, GC ev (D + 1) (cs ++ (lpF (advS T sz) P sub k S).2) v
  | 0, S, cs, h, hu => ⟨by show 0 + S.2.1 ≤ S.2.1; omega, fun ev ⟨v, hv⟩ => ⟨v, by show GC ev (D + 1) (cs ++ []) v; rw [List.append_nil]; exact hv⟩⟩
  | k + 1, S, cs, h, hu => by
    unfold lpF at hu ⊢
    by_cases e : P S.2.2.1 = true
    · rw [if_pos e] at hu ⊢
      have hS := h.un (fun q => by rw [q, hP] at e; cases e)
      have q := adv_W h hS
      have l := q.2.2.1 (h.lt hS (fun r => by rw [r, hP2] at e; cases e))
      have p := p1 _ q.1
      have hs2 : (sub (advS T sz S)).1.2.2.2 = -1 := (lpF_P hP p1 k).un p.1 hu
      obtain ⟨a, b⟩ := h1 _ q.1 hs2
      obtain ⟨c, d⟩ := lpF_G hP hP2 hP3 p1 h1 k (sub (advS T sz S)).1 (cs ++ (sub (advS T sz S)).2 ++ [S.2.2.1]) p.1 hu
      refine ⟨by show ((sub (advS T sz S)).2 ++ S.2.2.1 :: (lpF (advS T sz) P sub k (sub (advS T sz S)).1).2).length + S.2.1 ≤ (lpF (advS T sz) P sub k (sub (advS T sz S)).1).1.2.1; rw [List.length_append, List.length_cons]; omega, fun ev ⟨v, hv⟩ => ?_⟩
      obtain ⟨w, hw⟩ := b ev
      have g := GC_bin (c := S.2.2.1) (D := D + 1) hv hw (Nat.le_refl _) (Nat.le_refl _) (hP3 _ e).1 (hP3 _ e).2.1 (hP3 _ e).2.2
      obtain ⟨x, hx⟩ := d ev ⟨_, g⟩
      exact ⟨x, by rw [lp_app]; exact hx⟩
    · rw [if_neg e] at hu ⊢
      exact ⟨by show 0 + S.2.1 ≤ S.2.1; omega, fun ev ⟨v, hv⟩ => ⟨v, by show GC ev (D + 1) (cs ++ []) v; rw [List.append_nil]; exact hv⟩⟩
theorem lvF_G {P : Int32 → Bool} (hP : P 10022 = false) (hP2 : P 10021 = false) (hP3 : ∀ c, P c = true → (10005 : Int32) < c ∧ ¬ c = 10020 ∧ ¬ c = 10011) {sub : PF} {D : Nat} (p1 : Pp T sz sub) (h1 : Gd T sz sub D) : Gd T sz (lvF (advS T sz) P sub) (D + 1) := by
  intro S h hu
  have p := p1 _ h
  have hu : (lpF (advS T sz) P sub 160 (sub S).1).1.2.2.2 = -1 := hu
  have hs := (lpF_P hP p1 160).un p.1 hu
  obtain ⟨a, b⟩ := h1 _ h hs
  obtain ⟨c, d⟩ := lpF_G hP hP2 hP3 p1 h1 160 (sub S).1 (sub S).2 p.1 hu
  refine ⟨?_, fun ev => ?_⟩
  · show ((sub S).2 ++ (lpF (advS T sz) P sub 160 (sub S).1).2).length + S.2.1 ≤ (lpF (advS T sz) P sub 160 (sub S).1).1.2.1
    rw [List.length_append]
    omega
  · obtain ⟨v, hv⟩ := b ev
    exact d ev ⟨v, hv.mono (Nat.le_succ D)⟩
theorem cmF_G {sum : PF} {D : Nat} (p1 : Pp T sz sum) (h1 : Gd T sz sum D) : Gd T sz (cmF (advS T sz) sum) (D + 1) := by
  intro S h
  have p := p1 _ h
  unfold cmF
  by_cases e : (sum S).1.2.2.1 = 10018 ∨ (sum S).1.2.2.1 = 10019
  · rw [if_pos e]
    intro r
    have hu := p.1.un (fun q => by rw [q] at e; exact absurd e (by decide))
    have q := adv_W p.1 hu
    have l := q.2.2.1 (p.1.lt hu (fun r => by rw [r] at e; exact absurd e (by decide)))
    obtain ⟨a, b⟩ := h1 _ h hu
    obtain ⟨c, d⟩ := h1 _ q.1 r
    refine ⟨?_, fun ev => ?_⟩
    · show ((sum S).2 ++ (sum (advS T sz (sum S).1)).2 ++ [(sum S).1.2.2.1]).length + S.2.1 ≤ (sum (advS T sz (sum S).1)).1.2.1
      rw [List.length_append, List.length_append]
      show (sum S).2.length + (sum (advS T sz (sum S).1)).2.length + 1 + S.2.1 ≤ _
      omega
    · obtain ⟨v, hv⟩ := b ev
      obtain ⟨w, hw⟩ := d ev
      refine ⟨_, GC_bin (c := (sum S).1.2.2.1) (D := D + 1) hv hw (Nat.le_succ D) (Nat.le_refl _) ?_ ?_ ?_⟩
      all_goals (rcases e with e | e <;> (rw [e]; decide))
  · rw [if_neg e]
    exact fun r => ((h1.mono (Nat.le_succ D)) S h r)
theorem ntS_G {nt sum : PF} {D D1 : Nat} (p1 : Pp T sz nt) (p2 : Pp T sz sum) (h1 : Gd T sz nt D1) (h2 : Gd T sz sum D) (hD : D1 ≤ D + 1) : Gd T sz (ntS (advS T sz) nt sum) (D + 1) := by
  intro S h
  unfold ntS
  by_cases e : S.2.2.1 = 10011
  · rw [if_pos e]
    intro r
    have hu := h.un (by rw [e]; decide)
    have q := adv_W h hu
    have l := q.2.2.1 (h.lt hu (by rw [e]; decide))
    obtain ⟨a, b⟩ := h1 _ q.1 r
    refine ⟨by show ((nt (advS T sz S)).2 ++ [10011]).length + S.2.1 ≤ (nt (advS T sz S)).1.2.1; rw [List.length_append]; show (nt (advS T sz S)).2.length + 1 + S.2.1 ≤ _; omega, fun ev => ?_⟩
    obtain ⟨v, hv⟩ := b ev
    exact ⟨_, (GC_not hv).mono hD⟩
  · rw [if_neg e]
    exact cmF_G p2 h2 S h
theorem pTe_3 : ∀ c, pTe c = true → (10005 : Int32) < c ∧ ¬ c = 10020 ∧ ¬ c = 10011 := by
  intro c h
  unfold pTe at h
  rw [beq_iff_eq.mp h]
  decide
theorem pSu_3 : ∀ c, pSu c = true → (10005 : Int32) < c ∧ ¬ c = 10020 ∧ ¬ c = 10011 := by
  intro c h
  unfold pSu at h
  rw [Bool.or_eq_true, beq_iff_eq, beq_iff_eq] at h
  rcases h with h | h <;> (rw [h]; decide)
theorem pAn_3 : ∀ c, pAn c = true → (10005 : Int32) < c ∧ ¬ c = 10020 ∧ ¬ c = 10011 := by
  intro c h
  unfold pAn at h
  rw [beq_iff_eq.mp h]
  decide
theorem pOr_3 : ∀ c, pOr c = true → (10005 : Int32) < c ∧ ¬ c = 10020 ∧ ¬ c = 10011 := by
  intro c h
  unfold pOr at h
  rw [beq_iff_eq.mp h]
  decide
theorem smF_G {one : PF} {D : Nat} (p : Pp T sz one) (h : Gd T sz one D) : Gd T sz (smF (advS T sz) one) (D + 2) := lvF_G rfl rfl pSu_3 (lvF_P rfl p) (lvF_G rfl rfl pTe_3 p h)
theorem orF_G {nt : PF} {D : Nat} (p : Pp T sz nt) (h : Gd T sz nt D) : Gd T sz (orF (advS T sz) nt) (D + 2) := lvF_G rfl rfl pOr_3 (lvF_P rfl p) (lvF_G rfl rfl pAn_3 p h)
theorem lvl_G (hz : sz ≤ 160) : ∀ k, Gd T sz (lvl (advS T sz) k).1 (6 + 5 * k) ∧ Gd T sz (lvl (advS T sz) k).2.1 (1 + 5 * k) ∧ Gd T sz (lvl (advS T sz) k).2.2 (4 + 5 * k)
  | 0 => by
    have p := on0_P (T := T) hz
    have g := on0_G (T := T) hz
    have g2 := cmF_G (smF_P p) (smF_G p g)
    exact ⟨orF_G (cmF_P (smF_P p)) g2, g, g2⟩
  | k + 1 => by
    obtain ⟨i1, i2, i3⟩ := lvl_G hz k
    obtain ⟨p1, p2, p3⟩ := lvl_P (T := T) hz k
    have p := onS_P hz p2 p1
    have g := onS_G (D := 6 + 5 * k) hz p2 p1 i2 i1 (by omega) (by omega) (by omega)
    have g2 := ntS_G (D := 6 + 5 * k + 2) p3 (smF_P p) i3 (smF_G p g) (by omega)
    have gn := ntS_P p3 (smF_P p)
    refine ⟨(orF_G gn g2).mono (by omega), Gd.mono g (by omega), Gd.mono g2 (by omega)⟩
theorem prQ_G (hz : sz ≤ 160) {F : PF} {D : Nat} (p : Pp T sz F) (h : Gd T sz F D) {cw : Int32} (hc : ¬ cw = 10022) : Gd T sz (prQ (advS T sz) F cw) D := by
  intro S hS hu
  have d1 := dem_W hz hc hS
  have f := p _ d1.1
  have d2 := dem_W hz (w := 10014) (by decide) f.1
  have hu : (demS (advS T sz) 10014 (F (demS (advS T sz) cw S)).1).2.2.2 = -1 := hu
  obtain ⟨a, b⟩ := h _ d1.1 (d2.2.2.2 hu).2
  refine ⟨?_, b⟩
  show (F (demS (advS T sz) cw S)).2.length + S.2.1 ≤ (demS (advS T sz) 10014 (F (demS (advS T sz) cw S)).1).2.1
  have := d1.2.1
  have := d2.2.1
  omega
end GDS
/-- what codes come to -/
def valF (ev : Int32 → Int32) (cs : List Int32) : Int32 := (rnL ev cs (0, fun _ => 0)).2 0
theorem GC.val {ev : Int32 → Int32} {D : Nat} {cs : List Int32} {v : Int32} (h : GC ev D cs v) (hD : D ≤ 40) : valF ev cs = v := by
  obtain ⟨f, e1, e2, -⟩ := h (0, fun _ => 0) (by show 0 + D ≤ 40; omega)
  unfold valF
  rw [e1]
  exact e2
