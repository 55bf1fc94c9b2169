/-! BOTH: the codes that the class reads tell what the reference says of them -/
theorem apC_at : ∀ (cs : List Int32) (N : SK), N.1 + cs.length ≤ 160 → (apC N cs).1 = N.1 + cs.length ∧ (∀ i, i < cs.length → (apC N cs).2 (N.1 + i) = cs.getD i 0) ∧ ∀ j, j < N.1 → (apC N cs).2 j = N.2 j
  | [], _, _ => ⟨rfl, fun i hi => absurd hi (Nat.not_lt_zero i), fun _ _ => rfl⟩
  | c :: cs, N, h => by
    have hl : (c :: cs).length = cs.length + 1 := rfl
    have e : apC N (c :: cs) = apC (N.1 + 1, upd N.2 N.1 c) cs := by
      show apC (addC N c) cs = _
      unfold addC
      rw [if_pos (by omega)]
    obtain ⟨h1, h2, h3⟩ := apC_at cs (N.1 + 1, upd N.2 N.1 c) (by show N.1 + 1 + cs.length ≤ 160; omega)
    rw [e]
    refine ⟨h1.trans (by show N.1 + 1 + cs.length = _; omega), fun i hi => ?_, fun j hj => ?_⟩
    · cases i with
      | zero =>
        rw [Nat.add_zero]
        refine (h3 N.1 (Nat.lt_succ_self _)).trans ?_
        show upd N.2 N.1 c N.1 = c
        unfold upd
        exact if_pos rfl
      | succ i =>
        rw [show N.1 + (i + 1) = N.1 + 1 + i by omega]
        exact h2 i (by omega)
    · refine (h3 j (by show j < N.1 + 1; omega)).trans ?_
      show upd N.2 N.1 c j = N.2 j
      unfold upd
      exact if_neg (by omega)
theorem rnS_L {ev : Int32 → Int32} {code : Nat → Int32} : ∀ (cs : List Int32) (i : Nat) (S : SK), (∀ j, j < cs.length → code (i + j) = cs.getD j 0) → rnS ev code i cs.length S = rnL ev cs S
  | [], _, _, _ => rfl
  | c :: cs, i, S, h => by
    show rnS ev code (i + 1) cs.length (stp ev (code i) S) = rnL ev cs (stp ev c S)
    rw [show code i = c from h 0 (Nat.zero_lt_succ _)]
    exact rnS_L cs (i + 1) _ (fun j hj => by
      rw [show i + 1 + j = i + (j + 1) by omega]
      exact h (j + 1) (Nat.succ_lt_succ hj))
theorem tell_cs {ev : Int32 → Int32} {code f : Nat → Int32} {i e D : Nat} {cs : List Int32} {v : Int32} (hl : e = i + cs.length) (h : ∀ j, j < cs.length → code (i + j) = cs.getD j 0) (hg : GC ev D cs v) (hD : D ≤ 40) : tellV ev code i e f = clp (valF ev cs) := by
  obtain ⟨f1, e1, e2, -⟩ := hg (0, f) (by show 0 + D ≤ 40; omega)
  have key : rnS ev code i (e - i) (0, f) = (0 + 1, f1) := by
    rw [hl, Nat.add_sub_cancel_left, rnS_L cs i _ h]
    exact e1
  show clp (if 0 < (rnS ev code i (e - i) (0, f)).1 then (rnS ev code i (e - i) (0, f)).2 ((rnS ev code i (e - i) (0, f)).1 - 1) else 0) = _
  rw [key, hg.val hD]
  show clp (if 0 < 0 + 1 then f1 (0 + 1 - 1) else 0) = clp v
  rw [if_pos (by decide)]
  exact congrArg clp e2
theorem TxM_rd {g : IG} {t sz : Nat} {CS : CSt} (ht : t < 6) (hsz : sz ≤ 160) (hF : rdF (g 3) sz = -1) (hc : CS t = csO (g 3) sz) : TxM (rdG g t sz) t (TMx CS t) := by
  have p := (lvl_P (T := g 3) hsz 5).1
  have gq := (lvl_G (T := g 3) hsz 5).1
  have hW0 : WF (g 3) sz (rd0 (g 3) sz) := by
    have e : rd0 (g 3) sz = tokS (g 3) sz (skB (g 3) (sz - 0) 0) (-1) := rfl
    have e2 : (rd0 (g 3) sz).2.1 = skB (g 3) (sz - 0) 0 := by rw [e]; exact tokS_st
    have q2 := skB_le (T := g 3) (sz - 0) 0
    exact Or.inl ⟨by rw [e]; exact tokS_ft, by rw [e2, e], by rw [e2]; omega⟩
  rw [rdF_q] at hF
  have hc0 : CS t 0 = (rq1 (rdP (advS (g 3) sz)) (rd0 (g 3) sz)).2 := by rw [hc]; rfl
  have hc1 : CS t 1 = (rq2 (rdP (advS (g 3) sz)) (rd0 (g 3) sz)).2 := by rw [hc]; rfl
  have hc2 : CS t 2 = (rq3 (rdP (advS (g 3) sz)) (rd0 (g 3) sz)).2 := by rw [hc]; rfl
  have e1 : rq1 (rdP (advS (g 3) sz)) (rd0 (g 3) sz) = prQ (advS (g 3) sz) (lvl (advS (g 3) sz) 5).1 10006 (rd0 (g 3) sz) := by
    unfold rq1
    rw [rdP_q (k := 0) (c := 10006) rfl]
  have e2 : rq2 (rdP (advS (g 3) sz)) (rd0 (g 3) sz) = prQ (advS (g 3) sz) (lvl (advS (g 3) sz) 5).1 10007 (prQ (advS (g 3) sz) (lvl (advS (g 3) sz) 5).1 10006 (rd0 (g 3) sz)).1 := by
    unfold rq2
    rw [e1, rdP_q (k := 1) (c := 10007) rfl]
  have e3 : rq3 (rdP (advS (g 3) sz)) (rd0 (g 3) sz) = prQ (advS (g 3) sz) (lvl (advS (g 3) sz) 5).1 10008 (prQ (advS (g 3) sz) (lvl (advS (g 3) sz) 5).1 10007 (prQ (advS (g 3) sz) (lvl (advS (g 3) sz) 5).1 10006 (rd0 (g 3) sz)).1).1 := by
    unfold rq3
    rw [e2, rdP_q (k := 2) (c := 10008) rfl]
  have w1 := prP_W (cw := 10006) hsz p (by decide) hW0
  have w2 := prP_W (cw := 10007) hsz p (by decide) w1.1
  have w3 := prP_W (cw := 10008) hsz p (by decide) w2.1
  have d := dem_W (w := 10021) hsz (by decide) w3.1
  have hu3 := (d.2.2.2 hF).2
  have hu2 : (prQ (advS (g 3) sz) (lvl (advS (g 3) sz) 5).1 10007 (prQ (advS (g 3) sz) (lvl (advS (g 3) sz) 5).1 10006 (rd0 (g 3) sz)).1).1.2.2.2 = -1 := by
    refine Classical.byContradiction fun q => ?_
    rw [w3.2 q] at hu3
    exact q hu3
  have hu1 : (prQ (advS (g 3) sz) (lvl (advS (g 3) sz) 5).1 10006 (rd0 (g 3) sz)).1.2.2.2 = -1 := by
    refine Classical.byContradiction fun q => ?_
    rw [w2.2 q] at hu2
    exact q hu2
  have g1 := prQ_G hsz p gq (cw := 10006) (by decide) _ hW0 hu1
  have g2 := prQ_G hsz p gq (cw := 10007) (by decide) _ w1.1 hu2
  have g3 := prQ_G hsz p gq (cw := 10008) (by decide) _ w2.1 hu3
  have hend := (w3.1.tok hu3).2
  rw [← e1] at g1 g2 g3 hend w1 w2 w3
  rw [show prQ (advS (g 3) sz) (lvl (advS (g 3) sz) 5).1 10007 (rq1 (rdP (advS (g 3) sz)) (rd0 (g 3) sz)).1 = rq2 (rdP (advS (g 3) sz)) (rd0 (g 3) sz) by rw [e2, e1]] at g2 g3 hend
  rw [show prQ (advS (g 3) sz) (lvl (advS (g 3) sz) 5).1 10008 (rq2 (rdP (advS (g 3) sz)) (rd0 (g 3) sz)).1 = rq3 (rdP (advS (g 3) sz)) (rd0 (g 3) sz) by rw [e3, e2]] at g3 hend
  clear e1 e2 e3 w1 w2 w3 d hu1 hu2 hu3 hF p gq hW0 hc
  have hcode : rdG g t sz (5 + 4 * t + 1) = (rn3 (rdP (advS (g 3) sz)) (rd0 (g 3) sz) (0, g (5 + 4 * t + 1))).2 := stt_c
  have hend1 : rdG g t sz (5 + 4 * t + 2) 0 = nI (rn1 (rdP (advS (g 3) sz)) (rd0 (g 3) sz) (0, g (5 + 4 * t + 1))).1 := by
    unfold rdG rdX
    rw [stt_o (by omega) (by omega) (by omega), up2_n _ _ (by omega), up2_n _ _ (by omega), up2_s]
  have hend2 : rdG g t sz (5 + 4 * t + 2) 1 = nI (rn2 (rdP (advS (g 3) sz)) (rd0 (g 3) sz) (0, g (5 + 4 * t + 1))).1 := by
    unfold rdG rdX
    rw [stt_o (by omega) (by omega) (by omega), up2_n _ _ (by omega), up2_s]
  have hend3 : rdG g t sz (5 + 4 * t + 2) 2 = nI (rn3 (rdP (advS (g 3) sz)) (rd0 (g 3) sz) (0, g (5 + 4 * t + 1))).1 := by
    unfold rdG rdX
    rw [stt_o (by omega) (by omega) (by omega), up2_s]
  unfold rn3 rn2 rn1 at hcode hend3
  unfold rn2 rn1 at hend2
  unfold rn1 at hend1
  generalize rq1 (rdP (advS (g 3) sz)) (rd0 (g 3) sz) = Q1 at *
  generalize rq2 (rdP (advS (g 3) sz)) (rd0 (g 3) sz) = Q2 at *
  generalize rq3 (rdP (advS (g 3) sz)) (rd0 (g 3) sz) = Q3 at *
  have hl1 := g1.1
  have hl2 := g2.1
  have hl3 := g3.1
  obtain ⟨a1, a2, -⟩ := apC_at Q1.2 (0, g (5 + 4 * t + 1)) (by show 0 + Q1.2.length ≤ 160; omega)
  have a1 : (apC (0, g (5 + 4 * t + 1)) Q1.2).1 = 0 + Q1.2.length := a1
  have a2 : ∀ i, i < Q1.2.length → (apC (0, g (5 + 4 * t + 1)) Q1.2).2 (0 + i) = Q1.2.getD i 0 := a2
  generalize apC (0, g (5 + 4 * t + 1)) Q1.2 = C1 at *
  obtain ⟨b1, b2, b3⟩ := apC_at Q2.2 C1 (by omega)
  generalize apC C1 Q2.2 = C2 at *
  obtain ⟨c1, c2, c3⟩ := apC_at Q3.2 C2 (by omega)
  generalize apC C2 Q3.2 = C3 at *
  refine ⟨ht, fun k => if k = 0 then C1.1 else if k = 1 then C2.1 else C3.1, fun k hk => ?_, fun k hk ev f => ?_⟩
  · rcases (show k = 0 ∨ k = 1 ∨ k = 2 by omega) with rfl | rfl | rfl
    · exact ⟨hend1, by show C1.1 ≤ 160; omega⟩
    · exact ⟨hend2, by show C2.1 ≤ 160; omega⟩
    · exact ⟨hend3, by show C3.1 ≤ 160; omega⟩
  · rw [hcode]
    rcases (show k = 0 ∨ k = 1 ∨ k = 2 by omega) with rfl | rfl | rfl
    · show tellV ev C3.2 0 C1.1 f = clp (valF ev (CS t 0))
      rw [hc0]
      obtain ⟨v, hv⟩ := g1.2 ev
      exact tell_cs (by omega) (fun j hj => (c3 (0 + j) (by omega)).trans ((b3 (0 + j) (by omega)).trans (a2 j hj))) hv (by omega)
    · show tellV ev C3.2 C1.1 C2.1 f = clp (valF ev (CS t 1))
      rw [hc1]
      obtain ⟨v, hv⟩ := g2.2 ev
      exact tell_cs (by omega) (fun j hj => (c3 (C1.1 + j) (by omega)).trans (b2 j hj)) hv (by omega)
    · show tellV ev C3.2 C2.1 C3.1 f = clp (valF ev (CS t 2))
      rw [hc2]
      obtain ⟨v, hv⟩ := g3.2 ev
      exact tell_cs (by omega) (fun j hj => c2 j hj) hv (by omega)
/-- what reading a text leaves alone -/
theorem rdG_fr {g : IG} {t sz i k : Nat} (ht : t < 6) (h : ¬ ((i = 2 ∧ 2 ≤ k ∧ k ≤ 5) ∨ i = 5 + 4 * t ∨ i = 5 + 4 * t + 1 ∨ i = 5 + 4 * t + 2)) : rdG g t sz i k = g i k := by
  unfold rdG rdX
  generalize rdP (advS (g 3) sz) = RP
  generalize advS (g 3) sz = A
  by_cases h2 : i = 2
  · subst h2
    unfold stt
    rw [if_pos rfl]
    rw [if_neg (by omega), if_neg (by omega), if_neg (by omega), if_neg (by omega), up2_n _ _ (by omega), up2_n _ _ (by omega), up2_n _ _ (by omega)]
  · rw [stt_o h2 (by omega) (by omega), up2_n _ _ (by omega), up2_n _ _ (by omega), up2_n _ _ (by omega)]
