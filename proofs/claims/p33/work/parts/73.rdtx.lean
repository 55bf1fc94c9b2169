/-! THE FIRST TEXT: what is read of the tape's bytes, and what it tells -/
def tokS (T : Nat → Int32) (sz a : Nat) (ft : Int32) : PS :=
  if sz ≤ a then (a, a, 10021, ft)
  else if isLt (T a) = 0 then
    (if isDg (T a) = 0 then (a + 1, a, sgn (T a), ft)
    else ((nmF T (sz - a) a 0).1, a, (if (nmF T (sz - a) a 0).1 - a ≤ 4 then (nmF T (sz - a) a 0).2 else 10022), ft))
  else (skL T (sz - a) a, a, wcL T a (skL T (sz - a) a - a) 12 0, ft)
theorem advS_tok {T : Nat → Int32} {sz : Nat} {S : PS} : advS T sz S = tokS T sz (skB T (sz - S.1) S.1) S.2.2.2 := rfl
theorem skB_cg {T U : Nat → Int32} : ∀ k a, (∀ i, a ≤ i → i < a + k → T i = U i) → skB T k a = skB U k a
  | 0, _, _ => rfl
  | k + 1, a, h => by
    show (if T a = 32 then skB T k (a + 1) else if T a = 10 then skB T k (a + 1) else a) = (if U a = 32 then skB U k (a + 1) else if U a = 10 then skB U k (a + 1) else a)
    rw [h a (Nat.le_refl a) (by omega), skB_cg k (a + 1) (fun i h1 h2 => h i (by omega) (by omega))]
theorem skL_cg {T U : Nat → Int32} : ∀ k a, (∀ i, a ≤ i → i < a + k → T i = U i) → skL T k a = skL U k a
  | 0, _, _ => rfl
  | k + 1, a, h => by
    show (if isLt (T a) = 0 then a else skL T k (a + 1)) = (if isLt (U a) = 0 then a else skL U k (a + 1))
    rw [h a (Nat.le_refl a) (by omega), skL_cg k (a + 1) (fun i h1 h2 => h i (by omega) (by omega))]
theorem nmF_cg {T U : Nat → Int32} : ∀ k a v, (∀ i, a ≤ i → i < a + k → T i = U i) → nmF T k a v = nmF U k a v
  | 0, _, _, _ => rfl
  | k + 1, a, v, h => by
    show (if isDg (T a) = 0 then (a, v) else nmF T k (a + 1) (10 * v + T a - 48)) = (if isDg (U a) = 0 then (a, v) else nmF U k (a + 1) (10 * v + U a - 48))
    rw [h a (Nat.le_refl a) (by omega), nmF_cg k (a + 1) _ (fun i h1 h2 => h i (by omega) (by omega))]
theorem stF_cg {T U : Nat → Int32} {s i : Nat} : ∀ k j, (∀ q, s + j ≤ q → q < s + j + k → T q = U q) → stF T s i k j = stF U s i k j
  | 0, _, _ => rfl
  | k + 1, j, h => by
    show (if T (s + j) = (byS.getD i []).getD j 0 then stF T s i k (j + 1) else 0) = (if U (s + j) = (byS.getD i []).getD j 0 then stF U s i k (j + 1) else 0)
    rw [h (s + j) (Nat.le_refl _) (by omega), stF_cg k (j + 1) (fun q h1 h2 => h q (by omega) (by omega))]
theorem stV_cg {T U : Nat → Int32} {s len i : Nat} (h : ∀ q, s ≤ q → q < s + len → T q = U q) : stV T s len i = stV U s len i := by
  unfold stV
  by_cases e : lnS.getD i 0 = len
  · rw [if_pos e, if_pos e, stF_cg _ _ (fun q h1 h2 => h q (by omega) (by omega))]
  · rw [if_neg e, if_neg e]
theorem wcL_cg {T U : Nat → Int32} {s len : Nat} (h : ∀ q, s ≤ q → q < s + len → T q = U q) : ∀ k w, wcL T s len k w = wcL U s len k w
  | 0, _ => rfl
  | k + 1, w => by
    show (if stV T s len (w + 1) = 0 then wcL T s len k (w + 1) else nI (10000 + w)) = (if stV U s len (w + 1) = 0 then wcL U s len k (w + 1) else nI (10000 + w))
    rw [stV_cg h, wcL_cg h k (w + 1)]
theorem tokS_cg {T U : Nat → Int32} {sz a : Nat} {ft : Int32} (h : ∀ i, i < sz → T i = U i) : tokS T sz a ft = tokS U sz a ft := by
  unfold tokS
  by_cases e : sz ≤ a
  · rw [if_pos e, if_pos e]
  · have hl := skL_le (T := U) (sz - a) a
    rw [if_neg e, if_neg e, h a (by omega), nmF_cg (T := T) (U := U) (sz - a) a 0 (fun i h1 h2 => h i (by omega)), skL_cg (T := T) (U := U) (sz - a) a (fun i h1 h2 => h i (by omega)), wcL_cg (T := T) (U := U) (fun q h1 h2 => h q (by omega)) 12 0]
theorem advS_cg {T U : Nat → Int32} {sz : Nat} (h : ∀ i, i < sz → T i = U i) : advS T sz = advS U sz := funext fun S => by
  rw [advS_tok, advS_tok, tokS_cg h]
  by_cases e : S.1 ≤ sz
  · rw [skB_cg (T := T) (U := U) (sz - S.1) S.1 (fun i h1 h2 => h i (by omega))]
  · rw [show sz - S.1 = 0 by omega]
    rfl
theorem rd0_cg {T U : Nat → Int32} {sz : Nat} (h : ∀ i, i < sz → T i = U i) : rd0 T sz = rd0 U sz := by
  unfold rd0
  rw [advS_cg h]
theorem rdF_cg {T U : Nat → Int32} {sz : Nat} (h : ∀ i, i < sz → T i = U i) : rdF T sz = rdF U sz := by
  unfold rdF
  rw [advS_cg h, rd0_cg h]
/-- the first text's bytes -/
def bT : Nat → Int32 := fun q => (byS.getD 0 []).getD q 0
/-- what the first text tells -/
def M0 : TM := fun k ev => clp (if k = 0 then ev 10003 * 2 else 1)
set_option maxRecDepth 100000 in
theorem rq_b1 : (rq1 (rdP (advS bT 37)) (rd0 bT 37)).2 = [10003, 2, 10017] := by decide +kernel
set_option maxRecDepth 100000 in
theorem rq_b2 : (rq2 (rdP (advS bT 37)) (rd0 bT 37)).2 = [1] := by decide +kernel
set_option maxRecDepth 100000 in
theorem rq_b3 : (rq3 (rdP (advS bT 37)) (rd0 bT 37)).2 = [1] := by decide +kernel
theorem b_n1 (f : Nat → Int32) : rn1 (rdP (advS bT 37)) (rd0 bT 37) (0, f) = (3, upd (upd (upd f 0 10003) 1 2) 2 10017) := by
  unfold rn1
  rw [rq_b1]
  rfl
theorem b_n2 (f : Nat → Int32) : rn2 (rdP (advS bT 37)) (rd0 bT 37) (0, f) = (4, upd (upd (upd (upd f 0 10003) 1 2) 2 10017) 3 1) := by
  unfold rn2
  rw [rq_b2, b_n1]
  rfl
theorem b_n3 (f : Nat → Int32) : rn3 (rdP (advS bT 37)) (rd0 bT 37) (0, f) = (5, upd (upd (upd (upd (upd f 0 10003) 1 2) 2 10017) 3 1) 4 1) := by
  unfold rn3
  rw [rq_b3, b_n2]
  rfl
def cdT (f : Nat → Int32) : Nat → Int32 := upd (upd (upd (upd (upd f 0 10003) 1 2) 2 10017) 3 1) 4 1
theorem stp_nm {ev : Int32 → Int32} {c : Int32} {S : SK} (h1 : ¬ 10005 < c) (h2 : 10000 ≤ c) (h3 : S.1 < 40) : stp ev c S = (S.1 + 1, upd S.2 S.1 (ev c)) := by
  unfold stp
  rw [if_neg (fun q => q.elim h1 (fun q => absurd h3 (Nat.not_lt.mpr q))), if_pos h2]
theorem stp_nb {ev : Int32 → Int32} {c : Int32} {S : SK} (h1 : ¬ 10005 < c) (h2 : ¬ 10000 ≤ c) (h3 : S.1 < 40) : stp ev c S = (S.1 + 1, upd S.2 S.1 c) := by
  unfold stp
  rw [if_neg (fun q => q.elim h1 (fun q => absurd h3 (Nat.not_lt.mpr q))), if_neg h2]
theorem stp_mu {ev : Int32 → Int32} {S : SK} (h : ¬ S.1 < 2) : stp ev 10017 S = (S.1 - 1, upd S.2 (S.1 - 1 - 1) (S.2 (S.1 - 1 - 1) * S.2 (S.1 - 1))) := by
  unfold stp
  rw [if_pos (Or.inl (by decide)), if_neg (fun q => absurd q.1 (by decide)), if_neg (fun q => absurd q.1 (by decide)), if_neg h]
  unfold jnV
  rw [if_neg (by decide), if_neg (by decide), if_neg (by decide), if_neg (by decide), if_neg (by decide), if_neg (by decide)]
theorem tell_0 (ev : Int32 → Int32) (f h : Nat → Int32) : tellV ev (cdT h) 0 3 f = clp (ev 10003 * 2) := by
  have e : rnS ev (cdT h) 0 (3 - 0) (0, f) = stp ev 10017 (stp ev 2 (stp ev 10003 (0, f))) := rfl
  unfold tellV
  rw [e, stp_nm (c := 10003) (by decide) (by decide) (by show 0 < 40; decide), stp_nb (c := 2) (by decide) (by decide) (by show 0 + 1 < 40; decide), stp_mu (by show ¬ 0 + 1 + 1 < 2; decide)]
  rfl
theorem tell_1 (ev : Int32 → Int32) (f h : Nat → Int32) : tellV ev (cdT h) 3 4 f = clp 1 := by
  have e : rnS ev (cdT h) 3 (4 - 3) (0, f) = stp ev 1 (0, f) := rfl
  unfold tellV
  rw [e, stp_nb (c := 1) (by decide) (by decide) (by show 0 < 40; decide)]
  rfl
theorem tell_2 (ev : Int32 → Int32) (f h : Nat → Int32) : tellV ev (cdT h) 4 5 f = clp 1 := by
  have e : rnS ev (cdT h) 4 (5 - 4) (0, f) = stp ev 1 (0, f) := rfl
  unfold tellV
  rw [e, stp_nb (c := 1) (by decide) (by decide) (by show 0 < 40; decide)]
  rfl
theorem rdG_c {g : IG} {t sz : Nat} : rdG g t sz (5 + 4 * t + 1) = (rn3 (rdP (advS (g 3) sz)) (rd0 (g 3) sz) (0, g (5 + 4 * t + 1))).2 := stt_c
theorem rdG_e1 {g : IG} {t sz : Nat} (ht : t < 6) : rdG g t sz (5 + 4 * t + 2) 0 = nI (rn1 (rdP (advS (g 3) sz)) (rd0 (g 3) sz) (0, g (5 + 4 * t + 1))).1 := by
  unfold rdG rdX
  rw [stt_o (by omega) (by omega) (by omega), up2_n _ _ (by omega), up2_n _ _ (by omega), up2_s]
theorem rdG_e2 {g : IG} {t sz : Nat} (ht : t < 6) : rdG g t sz (5 + 4 * t + 2) 1 = nI (rn2 (rdP (advS (g 3) sz)) (rd0 (g 3) sz) (0, g (5 + 4 * t + 1))).1 := by
  unfold rdG rdX
  rw [stt_o (by omega) (by omega) (by omega), up2_n _ _ (by omega), up2_s]
theorem rdG_e3 {g : IG} {t sz : Nat} (ht : t < 6) : rdG g t sz (5 + 4 * t + 2) 2 = nI (rn3 (rdP (advS (g 3) sz)) (rd0 (g 3) sz) (0, g (5 + 4 * t + 1))).1 := by
  unfold rdG rdX
  rw [stt_o (by omega) (by omega) (by omega), up2_s]
/-- a text whose codes and ends are the first one's -/
theorem TxM_c {g : IG} {f : Nat → Int32} (hcode : g (5 + 4 * 0 + 1) = cdT f) (h1 : g (5 + 4 * 0 + 2) 0 = nI 3) (h2 : g (5 + 4 * 0 + 2) 1 = nI 4) (h3 : g (5 + 4 * 0 + 2) 2 = nI 5) : TxM g 0 M0 := by
  refine ⟨by omega, fun k => 3 + k, fun k hk => ?_, fun k hk ev f' => ?_⟩
  · rcases (show k = 0 ∨ k = 1 ∨ k = 2 by omega) with rfl | rfl | rfl
    · exact ⟨h1, by decide⟩
    · exact ⟨h2, by decide⟩
    · exact ⟨h3, by decide⟩
  · rw [hcode]
    rcases (show k = 0 ∨ k = 1 ∨ k = 2 by omega) with rfl | rfl | rfl
    · exact tell_0 ev f' f
    · exact tell_1 ev f' f
    · exact tell_2 ev f' f
theorem TxM_0 {g : IG} (h : ∀ i, i < 37 → g 3 i = bT i) : TxM (rdG g 0 37) 0 M0 := by
  have ea : advS (g 3) 37 = advS bT 37 := advS_cg h
  have er : rd0 (g 3) 37 = rd0 bT 37 := rd0_cg h
  have hc := rdG_c (g := g) (t := 0) (sz := 37)
  have h1 := rdG_e1 (g := g) (t := 0) (sz := 37) (by omega)
  have h2 := rdG_e2 (g := g) (t := 0) (sz := 37) (by omega)
  have h3 := rdG_e3 (g := g) (t := 0) (sz := 37) (by omega)
  generalize rdG g 0 37 = G at *
  rw [ea, er] at hc h1 h2 h3
  rw [b_n3] at hc h3
  rw [b_n1] at h1
  rw [b_n2] at h2
  exact TxM_c hc h1 h2 h3
/-- what reading a text leaves alone -/
theorem rdG_fr {g : IG} {t sz i k : Nat} (ht : t < 6) (h : ¬ ((i = 2 ∧ 2 ≤ k ∧ k ≤ 5) ∨ i = 5 + 4 * t ∨ i = 5 + 4 * t + 1 ∨ i = 5 + 4 * t + 2)) : rdG g t sz i k = g i k := by
  unfold rdG rdX
  generalize rdP (advS (g 3) sz) = RP
  generalize advS (g 3) sz = A
  by_cases h2 : i = 2
  · subst h2
    unfold stt
    rw [if_pos rfl]
    rw [if_neg (by omega), if_neg (by omega), if_neg (by omega), if_neg (by omega), up2_n _ _ (by omega), up2_n _ _ (by omega), up2_n _ _ (by omega)]
  · rw [stt_o h2 (by omega) (by omega), up2_n _ _ (by omega), up2_n _ _ (by omega), up2_n _ _ (by omega)]
