/-! BOTH: what is asked of two salons that agree is the same -/
theorem Req.pt {a b a' b' : Sv} {hn vn : Nat} (h : Req a b hn vn) (q : ∀ i k, a i k = b i k → a' i k = b' i k) : Req a' b' hn vn :=
  ⟨fun p hp => q _ _ (h.1 p hp), fun p hp => q _ _ (h.2.1 p hp), fun p hp => q _ _ (h.2.2.1 p hp), q _ _ h.2.2.2.1, fun w' k' h1 h2 => q _ _ (h.2.2.2.2.1 w' k' h1 h2), fun w' k' h1 h2 => q _ _ (h.2.2.2.2.2 w' k' h1 h2)⟩
theorem Req.fil {a b : Sv} {hn vn : Nat} (h : Req a b hn vn) (w : Nat) (x : Int32) (n : Nat) : Req (filS a w x n) (filS b w x n) hn vn := h.pt (fun i k e => by
  rw [filS_r, filS_r]
  split
  · rfl
  · exact e)
theorem Req.say {a b : Sv} {hn vn : Nat} (h : Req a b hn vn) (n i : Nat) : Req (sayS a n i) (sayS b n i) hn vn := h.pt (fun w k e => by
  unfold sayS
  split
  · rfl
  · exact e)
theorem sayS_hd {a : Sv} {hn vn n i : Nat} (h : HdS a hn vn) : HdS (sayS a n i) hn vn := fun v hv => by
  obtain ⟨j, hj, e⟩ := h v hv
  exact ⟨j, hj, (if_neg (by omega)).trans e⟩
theorem ov_c {f f' : Nat → Int32} {n : Nat} (h : ∀ k, k < n → f k = f' k) : ov f (mns f n) = ov f' (mns f' n) := by
  rw [mns_c n h]
  cases e : mns f' n with
  | none => rfl
  | some w => exact h w (mns_lt e)
theorem btF_c {f f' : Nat → Int32} : ∀ n, (∀ k, k < n → f k = f' k) → btF f n = btF f' n
  | 0, _ => rfl
  | n + 1, h => by
    rw [btF_s, btF_s, h n (by omega), btF_c n (fun k hk => h k (by omega))]
section RQ
variable {M : TM} {a b : Sv} {hn vn : Nat}
theorem rq_st (h : Req a b hn vn) (hd : HdS a hn vn) (hh : hn ≤ 5) {v : Nat} (hv : v < vn) : E4 (stL M a v (a 0) (a 1)) (stL M b v (b 0) (b 1)) := stL_E4 (h.rv hd hh hv) h.1 h.2.1
theorem rq_once (h : Req a b hn vn) (hd : HdS a hn vn) (hh : hn ≤ 5) (hv8 : vn ≤ 8) (x1 x2 : Int32) : onceF M a vn x1 x2 = onceF M b vn x1 x2 := by
  unfold onceF
  by_cases c : inI (nI vn) x1 = 0
  · rw [if_pos c, if_pos c]
  rw [if_neg c, if_neg c]
  obtain ⟨v, hv, e1⟩ := in_ok (k := vn) (by omega) c
  subst e1
  rw [clI_n (k := v) (by omega)]
  have e := rq_st (M := M) h hd hh hv
  by_cases c1 : x2 < 0
  · rw [if_pos c1, if_pos c1]
  rw [if_neg c1, if_neg c1]
  by_cases c2 : 5 < x2
  · rw [if_pos c2, if_pos c2]
  rw [if_neg c2, if_neg c2]
  by_cases c3 : x2 < 4
  · rw [if_pos c3, if_pos c3]
    obtain ⟨q, hq, e2⟩ := lt4_n c1 (Int32.not_le.mpr c3)
    subst e2
    rw [clI_n (k := q) (by omega)]
    exact e q hq
  rw [if_neg c3, if_neg c3, ctA_E4 (h.rv hd hh hv) h.1 h.2.1, ofA_E4 h.2.2.1 e e]
theorem rq_go (h : Req a b hn vn) (hd : HdS a hn vn) (hh : hn ≤ 5) (hv8 : vn ≤ 8) (x1 : Int32) : goF M a vn x1 = goF M b vn x1 := by
  unfold goF
  by_cases c : inI (nI vn) x1 = 0
  · rw [if_pos c, if_pos c]
  rw [if_neg c, if_neg c]
  obtain ⟨v, hv, e1⟩ := in_ok (k := vn) (by omega) c
  subst e1
  rw [clI_n (k := v) (by omega)]
  have e := rq_st (M := M) h hd hh hv
  exact ofA_E4 h.2.2.1 e e
theorem rq_course (h : Req a b hn vn) (hd : HdS a hn vn) (hh : hn ≤ 5) (hv8 : vn ≤ 8) (x1 x2 : Int32) : courseF M a vn x1 x2 = courseF M b vn x1 x2 := by
  unfold courseF
  by_cases c : inI (nI vn) x1 = 0
  · rw [if_pos c, if_pos c]
  rw [if_neg c, if_neg c]
  obtain ⟨v, hv, e1⟩ := in_ok (k := vn) (by omega) c
  subst e1
  by_cases c2 : inI 4 x2 = 0
  · rw [if_pos c2, if_pos c2]
  rw [if_neg c2, if_neg c2]
  obtain ⟨q, hq, e2⟩ := in_ok (k := 4) (by omega) c2
  subst e2
  rw [clI_n (k := v) (by omega), clI_n (k := q) (by omega)]
  exact (h.crs hd hh (v := v + 1) (by omega)).1 q hq
theorem rq_bad (h : Req a b hn vn) (hd : HdS a hn vn) (hh : hn ≤ 5) (x : Int32) : badF M a vn x = badF M b vn x := by
  have e := h.crs (M := M) hd hh (v := vn) (Nat.le_refl _)
  unfold badF
  rw [h.bd hd hh, sumI_c vn (fun k hk => h.ct (M := M) hd hh hk), ofA_E4 h.2.2.1 e.1 e.2, wrs_c vn (fun k hk => h.of (M := M) hd hh hk)]
theorem rq_drift (h : Req a b hn vn) (hd : HdS a hn vn) (hh : hn ≤ 5) (x : Int32) : driftF M a vn x = driftF M b vn x := by
  unfold driftF
  by_cases c : inI 4 x = 0
  · rw [if_pos c, if_pos c]
  rw [if_neg c, if_neg c]
  obtain ⟨q, hq, e2⟩ := in_ok (k := 4) (by omega) c
  subst e2
  rw [clI_n (k := q) (by omega), (h.crs (M := M) hd hh (v := vn) (Nat.le_refl _)).1 q hq, h.2.2.1 q hq]
theorem rq_again (h : Req a b hn vn) (hd : HdS a hn vn) (hh : hn ≤ 5) (x : Int32) : againF M a vn x = againF M b vn x := by
  unfold againF
  rw [agn_c vn (-1) (fun k hk => isN_E4 (x := x) (h.crs (M := M) hd hh (v := k + 1) (by omega)).1 h.2.2.1)]
theorem rq_mark (h : Req a b hn vn) (hd : HdS a hn vn) (hh : hn ≤ 5) : markF M a vn = markF M b vn := by
  unfold markF
  have h1 : Req (filS (up2 a 3 0 (a 2 0)) 9 3 vn) (filS (up2 b 3 0 (b 2 0)) 9 3 vn) hn vn := by
    rw [h.2.2.1 0 (by omega)]
    exact (h.up 3 0 (b 2 0)).fil 9 3 vn
  rw [h.bd hd hh, h1.bd (filS_hd (hd.up 0 _ (by omega)) (fun q => absurd q (by decide)) vn) hh]
theorem rq_wh (h : Req a b hn vn) (hd : HdS a hn vn) (hh : hn ≤ 5) {k : Nat} (hk : k < hn) : whE M a vn k = whE M b vn k :=
  (h.fil 7 (nI k) vn).bd (filS_hd hd (fun _ => ⟨k, hk, rfl⟩) vn) hh
theorem rq_whom (h : Req a b hn vn) (hd : HdS a hn vn) (hh : hn ≤ 5) (x : Int32) : whomF M a hn vn x = whomF M b hn vn x := by
  unfold whomF
  rw [ov_c (fun k hk => rq_wh (M := M) h hd hh hk), mns_c hn (fun k hk => rq_wh (M := M) h hd hh hk)]
theorem rq_when (h : Req a b hn vn) (hd : HdS a hn vn) (hh : hn ≤ 5) (x1 x2 : Int32) : whenF M a vn x1 x2 = whenF M b vn x1 x2 := by
  have e : ∀ k, k < 21 → weE M a vn (clI x1) k = weE M b vn (clI x1) k := fun k hk => (h.up 8 (clI x1) (nI k)).bd (hd.up _ _ (by omega)) hh
  unfold whenF
  rw [ov_c e, mns_c 21 e]
theorem rq_drawn (h : Req a b hn vn) (hd : HdS a hn vn) (hh : hn ≤ 5) (z : Int32) (h0 : 0 < hn) : BDs M (drS a z hn vn) vn = BDs M (drS b z hn vn) vn :=
  (drS_req h z vn).bd (drS_hd hd h0 hh vn) hh
theorem rq_draw (h : Req a b hn vn) (hd : HdS a hn vn) (hh : hn ≤ 5) (z : Int32) : drawF M a hn vn z = drawF M b hn vn z := by
  unfold drawF
  by_cases c : hn = 0
  · rw [if_pos c, if_pos c]
  · rw [if_neg c, if_neg c]
    exact rq_drawn h hd hh z (by omega)
theorem rq_chN (h : Req a b hn vn) (hd : HdS a hn vn) (hh : hn ≤ 5) (z : Int32) (h0 : 0 < hn) : ∀ k, chN M a hn vn z k = chN M b hn vn z k
  | 0 => rfl
  | k + 1 => by
    unfold chN
    rw [rq_drawn h hd hh (z + nI k) h0, h.bd hd hh, rq_chN h hd hh z h0 k]
theorem rq_chance (h : Req a b hn vn) (hd : HdS a hn vn) (hh : hn ≤ 5) (x1 x2 x3 : Int32) : chanceF M a hn vn x1 x2 x3 = chanceF M b hn vn x1 x2 x3 := by
  unfold chanceF
  by_cases c : hn = 0
  · rw [if_pos c, if_pos c]
  · rw [rq_chN h hd hh x1 (by omega) (clI x2)]
theorem rq_say (h : Req a b hn vn) (hd : HdS a hn vn) (hh : hn ≤ 5) (x1 x2 : Int32) : sayF M a vn x1 x2 = sayF M b vn x1 x2 := by
  have e : ∀ k, k < 4 ^ clI x1 → sayE M a vn (clI x1) k = sayE M b vn (clI x1) k := fun k hk => (h.say (clI x1) k).bd (sayS_hd hd) hh
  unfold sayF
  rw [ov_c e, mns_c _ e]
/-- two sheets that show the same -/
def ShE (s s' : Int32 × Nat × (Nat → Int32)) : Prop := (s.1 = -1 ∧ s'.1 = -1) ∨ (¬ s.1 = -1 ∧ ¬ s'.1 = -1 ∧ s.2.1 = s'.2.1 ∧ ∀ i, i < s.2.1 → s.2.2 i = s'.2.2 i)
theorem rq_fot (h : Req a b hn vn) (hd : HdS a hn vn) (hh : hn ≤ 5) {row row' : Nat → Int32} {pl sz : Nat} (hpl : pl < 4) (hsz : sz ≤ vn) (hr : ∀ i, i < sz → row i = row' i) : fotF M a row pl sz = fotF M b row' pl sz :=
  foF_c sz 0 (fun j _ hj => ⟨hr j (by omega), (h.crs (M := M) hd hh (v := j + 1) (by omega)).1 pl hpl⟩)
theorem rq_pict (h : Req a b hn vn) (hd : HdS a hn vn) (hh : hn ≤ 5) {sh sh' : Nat → Int32 × Nat × (Nat → Int32)} (hs : ∀ t, t < 4 → ShE (sh t) (sh' t)) (x1 x2 : Int32) : pictX M a vn sh x1 x2 = pictX M b vn sh' x1 x2 := by
  unfold pictX
  by_cases c : inI 4 x1 = 0 ∨ inI 4 x2 = 0
  · rw [if_pos c, if_pos c]
  rw [if_neg c, if_neg c]
  obtain ⟨t, ht, e1⟩ := in_ok (k := 4) (by omega) (fun q => c (Or.inl q))
  obtain ⟨pl, hpl, e2⟩ := in_ok (k := 4) (by omega) (fun q => c (Or.inr q))
  subst e1
  subst e2
  rw [clI_n (k := t) (by omega), clI_n (k := pl) (by omega)]
  unfold pictF
  rcases hs t ht with ⟨s1, s2⟩ | ⟨s1, s2, s3, s4⟩
  · rw [s1, s2]
    have p1 : ∀ n, prF (-1) n vn = -11 := fun n => if_pos rfl
    rw [p1, p1, if_neg (by decide), if_neg (by decide)]
  · rw [← s3]
    by_cases c3 : (sh t).2.1 ≤ vn
    · rw [prF_0 s1 c3, prF_0 s2 c3, if_pos rfl, if_pos rfl]
      exact rq_fot h hd hh hpl c3 s4
    · rw [prF_2 s1 c3, prF_2 s2 c3, if_neg (by decide), if_neg (by decide)]
end RQ
theorem rq_seen {M : Nat → TM} {a b : Sv} {hn vn ru tc : Nat} (h : Req a b hn vn) (hd : HdS a hn vn) (hh : hn ≤ 5) {sh sh' : Nat → Int32 × Nat × (Nat → Int32)} (hs : ∀ t, t < 4 → ShE (sh t) (sh' t)) {k : Nat} (hk : k < 6) (x1 x2 x4 : Int32) : seenF M ru a hn vn tc sh k x1 x2 x4 = seenF M ru b hn vn tc sh' k x1 x2 x4 := by
  unfold seenF
  by_cases c : inI 4 x1 = 0 ∨ inI 4 x2 = 0
  · rw [if_pos c, if_pos c]
  rw [if_neg c, if_neg c]
  obtain ⟨t, ht, e1⟩ := in_ok (k := 4) (by omega) (fun q => c (Or.inl q))
  obtain ⟨pl, hpl, e2⟩ := in_ok (k := 4) (by omega) (fun q => c (Or.inr q))
  subst e1
  subst e2
  rw [clI_n (k := t) (by omega), clI_n (k := pl) (by omega)]
  by_cases c2 : k < 5 ∧ inI (nI (sCn hn vn k)) x4 = 0
  · rw [if_pos c2, if_pos c2]
  rw [if_neg c2, if_neg c2]
  rcases hs t ht with ⟨s1, s2⟩ | ⟨s1, s2, s3, s4⟩
  · rw [s1, s2]
    have p1 : ∀ n, prF (-1) n vn = -11 := fun n => if_pos rfl
    rw [p1, p1, if_neg (by decide), if_neg (by decide)]
  · rw [← s3]
    by_cases c3 : (sh t).2.1 ≤ vn
    · rw [prF_0 s1 c3, prF_0 s2 c3, if_pos rfl, if_pos rfl]
      by_cases c5 : k = 5
      · rw [if_pos c5, if_pos c5]
        exact btF_c tc (fun q _ => rq_fot h hd hh hpl c3 s4)
      · rw [if_neg c5, if_neg c5]
        refine btF_c _ (fun q hq => ?_)
        show fotF (M ru) (up2 a (sWn k) (clI x4) (nI q)) _ pl _ = fotF (M ru) (up2 b (sWn k) (clI x4) (nI q)) _ pl _
        refine rq_fot (h.up _ _ _) ?_ hh hpl c3 s4
        by_cases c7 : k = 0
        · subst c7
          exact hd.up7 _ hq
        · refine hd.up _ _ ?_
          rcases (show k = 1 ∨ k = 2 ∨ k = 3 ∨ k = 4 by omega) with rfl | rfl | rfl | rfl <;> decide
    · rw [prF_2 s1 c3, prF_2 s2 c3, if_neg (by decide), if_neg (by decide)]
/-! lengths stay in their range -/
theorem mn_i (x y : Int32) : (mn x y).toInt ≤ x.toInt := by
  unfold mn
  by_cases h : y < x
  · rw [if_pos h]
    exact Int.le_of_lt (Int32.lt_iff_toInt_lt.mp h)
  · rw [if_neg h]
    exact Int.le_refl _
theorem lf_rng (x y : Int32) : ∃ n, n ≤ 199 ∧ mx 0 (mn (mn 199 x) y) = nI n := by
  have h1 : (mn (mn 199 x) y).toInt ≤ 199 := Int.le_trans (mn_i _ _) (mn_i 199 x)
  have e199 : (199 : Int32).toInt = 199 := by decide
  have e0 : (0 : Int32).toInt = 0 := by decide
  generalize mn (mn 199 x) y = w at h1 ⊢
  unfold mx
  by_cases h : (0 : Int32) < w
  · rw [if_pos h]
    refine rng_n (x := w) (lo := 0) (M := 199) (n := 199) e199 (by decide) (fun q => ?_) (fun q => ?_)
    · have := Int32.lt_iff_toInt_lt.mp q
      have := Int32.lt_iff_toInt_lt.mp h
      omega
    · have := Int32.lt_iff_toInt_lt.mp q
      omega
  · rw [if_neg h]
    exact ⟨0, by omega, rfl⟩
theorem stL_Ln {M : TM} {a : Sv} {v : Nat} {L A : Nat → Int32} : Ln (stL M a v L A) := by
  unfold stL v2A v1A
  refine Ln.ev30 (by omega) 30 _ (Ln.ev30 (by omega) 30 _ ?_)
  intro p hp
  unfold growS
  rw [if_pos hp]
  exact lf_rng _ _
theorem crs_Ln {M : TM} {a : Sv} {v : Nat} : Ln (crs M a (v + 1)).1 := by
  rw [crs_s1]
  exact stL_Ln
theorem cvS1_ok : ∀ n, n ≤ 199 → cvS 1 (nI n) = nI n := by
  have h : ∀ n, n < 200 → cvS 1 (nI n) = nI n := by decide +kernel
  exact fun n hn => h n (by omega)
