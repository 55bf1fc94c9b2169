/-! THE READER: the tape's tokens, and codes for a stack -/
abbrev PS : Type := Nat × Nat × Int32 × Int32
abbrev PF : Type := PS → PS × List Int32
/-- the ints, with what the reader and the text that is read hold -/
def stt (g : IG) (t : Nat) (S : PS) (N : SK) : IG := fun i j =>
  if i = 2 then (if j = 2 then nI S.1 else if j = 3 then nI S.2.1 else if j = 4 then S.2.2.1 else if j = 5 then S.2.2.2 else g i j)
  else if i = 5 + 4 * t then (if j = 3 then nI N.1 else g i j)
  else if i = 5 + 4 * t + 1 then N.2 j
  else g i j
section STT
variable {g : IG} {t : Nat} {S : PS} {N : SK}
theorem stt_21 : stt g t S N 2 1 = g 2 1 := rfl
theorem stt_22 : stt g t S N 2 2 = nI S.1 := rfl
theorem stt_23 : stt g t S N 2 3 = nI S.2.1 := rfl
theorem stt_24 : stt g t S N 2 4 = S.2.2.1 := rfl
theorem stt_25 : stt g t S N 2 5 = S.2.2.2 := rfl
theorem stt_3 (k : Nat) : stt g t S N 3 k = g 3 k := by
  unfold stt
  rw [if_neg (by omega), if_neg (by omega), if_neg (by omega)]
theorem stt_n (ht : t < 6) : stt g t S N (5 + 4 * t) 3 = nI N.1 := by
  unfold stt
  rw [if_neg (by omega), if_pos rfl]
  rfl
theorem stt_o {i : Nat} (h2 : i ≠ 2) (h3 : i ≠ 5 + 4 * t) (h4 : i ≠ 5 + 4 * t + 1) : stt g t S N i = g i := by
  funext j
  unfold stt
  rw [if_neg h2, if_neg h3, if_neg h4]
theorem stt_c : stt g t S N (5 + 4 * t + 1) = N.2 := by
  funext j
  unfold stt
  rw [if_neg (by omega), if_neg (by omega), if_pos rfl]
theorem up2_2 {g1 g2 : IG} {k : Nat} {v : Int32} (h : ∀ i j, g2 i j = if i = 2 then (if j = k then v else g1 i j) else g1 i j) : up2 g1 2 k v = g2 := by
  funext i j
  rw [h i j]
  rfl
theorem stt_w2 (a : Nat) : up2 (stt g t S N) 2 2 (nI a) = stt g t (a, S.2.1, S.2.2.1, S.2.2.2) N := by
  funext i j
  unfold up2 stt
  by_cases hi : i = 2
  · subst hi
    by_cases hj : j = 2
    · subst hj; rfl
    · simp only [if_true, if_neg hj]
  · simp only [if_neg hi]
theorem stt_w3 (a : Nat) : up2 (stt g t S N) 2 3 (nI a) = stt g t (S.1, a, S.2.2.1, S.2.2.2) N := by
  funext i j
  unfold up2 stt
  by_cases hi : i = 2
  · subst hi
    by_cases hj : j = 3
    · subst hj; rfl
    · simp only [if_true, if_neg hj]
  · simp only [if_neg hi]
theorem stt_w4 (v : Int32) : up2 (stt g t S N) 2 4 v = stt g t (S.1, S.2.1, v, S.2.2.2) N := by
  funext i j
  unfold up2 stt
  by_cases hi : i = 2
  · subst hi
    by_cases hj : j = 4
    · subst hj; rfl
    · simp only [if_true, if_neg hj]
  · simp only [if_neg hi]
theorem stt_w5 (v : Int32) : up2 (stt g t S N) 2 5 v = stt g t (S.1, S.2.1, S.2.2.1, v) N := by
  funext i j
  unfold up2 stt
  by_cases hi : i = 2
  · subst hi
    by_cases hj : j = 5
    · subst hj; rfl
    · simp only [if_true, if_neg hj]
  · simp only [if_neg hi]
theorem stt_wn (k : Nat) (ht : t < 6) : up2 (stt g t S N) (5 + 4 * t) 3 (nI k) = stt g t S (k, N.2) := by
  funext i j
  unfold up2 stt
  by_cases hi : i = 5 + 4 * t
  · subst hi
    have h2 : ¬ 5 + 4 * t = 2 := by omega
    by_cases hj : j = 3
    · subst hj
      simp only [if_true, if_neg h2]
    · simp only [if_true, if_neg hj, if_neg h2]
  · simp only [if_neg hi]
theorem stt_wc (k : Nat) (v : Int32) (ht : t < 6) : up2 (stt g t S N) (5 + 4 * t + 1) k v = stt g t S (N.1, upd N.2 k v) := by
  funext i j
  unfold up2 stt upd
  by_cases hi : i = 5 + 4 * t + 1
  · subst hi
    have h2 : ¬ 5 + 4 * t + 1 = 2 := by omega
    have h3 : ¬ 5 + 4 * t + 1 = 5 + 4 * t := by omega
    simp only [if_true, if_neg h2, if_neg h3]
  · simp only [if_neg hi]
end STT
def isLt (x : Int32) : Int32 := if x < 97 then 0 else if 122 < x then 0 else 1
def isDg (x : Int32) : Int32 := if x < 48 then 0 else if 57 < x then 0 else 1
def sgn (x : Int32) : Int32 := if x = 40 then 10012 else if x = 41 then 10013 else if x = 59 then 10014 else if x = 43 then 10015 else if x = 45 then 10016 else if x = 42 then 10017 else if x = 60 then 10018 else if x = 61 then 10019 else 10022
def skB (T : Nat → Int32) : Nat → Nat → Nat
  | 0, a => a
  | k + 1, a => if T a = 32 then skB T k (a + 1) else if T a = 10 then skB T k (a + 1) else a
def skL (T : Nat → Int32) : Nat → Nat → Nat
  | 0, a => a
  | k + 1, a => if isLt (T a) = 0 then a else skL T k (a + 1)
def nmF (T : Nat → Int32) : Nat → Nat → Int32 → Nat × Int32
  | 0, a, v => (a, v)
  | k + 1, a, v => if isDg (T a) = 0 then (a, v) else nmF T k (a + 1) (10 * v + T a - 48)
/-- whether the string i stands at s, from its j-th sign on -/
def stF (T : Nat → Int32) (s i : Nat) : Nat → Nat → Int32
  | 0, _ => 1
  | k + 1, j => if T (s + j) = (byS.getD i []).getD j 0 then stF T s i k (j + 1) else 0
def stV (T : Nat → Int32) (s len i : Nat) : Int32 := if lnS.getD i 0 = len then stF T s i (lnS.getD i 0) 0 else 0
def wcL (T : Nat → Int32) (s len : Nat) : Nat → Nat → Int32
  | 0, _ => 10022
  | k + 1, w => if stV T s len (w + 1) = 0 then wcL T s len k (w + 1) else nI (10000 + w)
def advS (T : Nat → Int32) (sz : Nat) (S : PS) : PS :=
  if sz ≤ skB T (sz - S.1) S.1 then (skB T (sz - S.1) S.1, skB T (sz - S.1) S.1, 10021, S.2.2.2)
  else if isLt (T (skB T (sz - S.1) S.1)) = 0 then
    (if isDg (T (skB T (sz - S.1) S.1)) = 0 then (skB T (sz - S.1) S.1 + 1, skB T (sz - S.1) S.1, sgn (T (skB T (sz - S.1) S.1)), S.2.2.2)
    else ((nmF T (sz - skB T (sz - S.1) S.1) (skB T (sz - S.1) S.1) 0).1, skB T (sz - S.1) S.1, (if (nmF T (sz - skB T (sz - S.1) S.1) (skB T (sz - S.1) S.1) 0).1 - skB T (sz - S.1) S.1 ≤ 4 then (nmF T (sz - skB T (sz - S.1) S.1) (skB T (sz - S.1) S.1) 0).2 else 10022), S.2.2.2))
  else (skL T (sz - skB T (sz - S.1) S.1) (skB T (sz - S.1) S.1), skB T (sz - S.1) S.1, wcL T (skB T (sz - S.1) S.1) (skL T (sz - skB T (sz - S.1) S.1) (skB T (sz - S.1) S.1) - skB T (sz - S.1) S.1) 12 0, S.2.2.2)
theorem skB_le {T : Nat → Int32} : ∀ k a, a ≤ skB T k a ∧ skB T k a ≤ a + k
  | 0, a => ⟨Nat.le_refl _, Nat.le_refl _⟩
  | k + 1, a => by
    have ih := skB_le (T := T) k (a + 1)
    unfold skB
    split
    · omega
    · split
      · omega
      · omega
theorem skL_le {T : Nat → Int32} : ∀ k a, a ≤ skL T k a ∧ skL T k a ≤ a + k
  | 0, a => ⟨Nat.le_refl _, Nat.le_refl _⟩
  | k + 1, a => by
    have ih := skL_le (T := T) k (a + 1)
    unfold skL
    split <;> omega
theorem nmF_le {T : Nat → Int32} : ∀ k a v, a ≤ (nmF T k a v).1 ∧ (nmF T k a v).1 ≤ a + k
  | 0, a, v => ⟨Nat.le_refl _, Nat.le_refl _⟩
  | k + 1, a, v => by
    have ih := nmF_le (T := T) k (a + 1) (10 * v + T a - 48)
    unfold nmF
    split
    · exact ⟨Nat.le_refl _, by show a ≤ _; omega⟩
    · omega
theorem advS_le {T : Nat → Int32} {sz : Nat} {S : PS} (h : S.1 ≤ 160) (hz : sz ≤ 160) : (advS T sz S).1 ≤ 160 := by
  have h1 := skB_le (T := T) (sz - S.1) S.1
  have h2 := skL_le (T := T) (sz - skB T (sz - S.1) S.1) (skB T (sz - S.1) S.1)
  have h3 := nmF_le (T := T) (sz - skB T (sz - S.1) S.1) (skB T (sz - S.1) S.1) 0
  unfold advS
  split
  · show skB _ _ _ ≤ 160
    omega
  · split
    · split
      · show skB _ _ _ + 1 ≤ 160
        omega
      · show (nmF _ _ _ _).1 ≤ 160
        omega
    · show skL _ _ _ ≤ 160
      omega
def addC (N : SK) (c : Int32) : SK := if N.1 < 160 then (N.1 + 1, upd N.2 N.1 c) else N
def apC (N : SK) (cs : List Int32) : SK := cs.foldl addC N
theorem addC_le {N : SK} {c : Int32} (h : N.1 ≤ 160) : (addC N c).1 ≤ 160 := by
  unfold addC
  split
  · show N.1 + 1 ≤ 160
    omega
  · exact h
theorem apC_le : ∀ {cs : List Int32} {N : SK}, N.1 ≤ 160 → (apC N cs).1 ≤ 160
  | [], _, h => h
  | c :: cs, N, h => apC_le (cs := cs) (addC_le (c := c) h)
theorem apC_app {N : SK} {cs ds : List Int32} : apC N (cs ++ ds) = apC (apC N cs) ds := List.foldl_append
theorem apC_1 {N : SK} {cs : List Int32} {c : Int32} : apC N (cs ++ [c]) = addC (apC N cs) c := by rw [apC_app]; rfl
def refS (S : PS) : PS := (S.1, S.2.1, 10022, if S.2.2.2 = -1 then nI S.2.1 else S.2.2.2)
def demS (A : PS → PS) (w : Int32) (S : PS) : PS := if S.2.2.1 = w then A S else refS S
/-- one, and as long as such a sign stands there, the sign and one more -/
def lpF (A : PS → PS) (P : Int32 → Bool) (sub : PF) : Nat → PF
  | 0, S => (S, [])
  | k + 1, S => if P S.2.2.1 = true then ((lpF A P sub k (sub (A S)).1).1, (sub (A S)).2 ++ S.2.2.1 :: (lpF A P sub k (sub (A S)).1).2) else (S, [])
def lvF (A : PS → PS) (P : Int32 → Bool) (sub : PF) : PF := fun S => ((lpF A P sub 160 (sub S).1).1, (sub S).2 ++ (lpF A P sub 160 (sub S).1).2)
def pTe (x : Int32) : Bool := x == 10017
def pSu (x : Int32) : Bool := x == 10015 || x == 10016
def pAn (x : Int32) : Bool := x == 10010
def pOr (x : Int32) : Bool := x == 10009
def cmF (A : PS → PS) (sum : PF) : PF := fun S => if (sum S).1.2.2.1 = 10018 ∨ (sum S).1.2.2.1 = 10019 then ((sum (A (sum S).1)).1, (sum S).2 ++ (sum (A (sum S).1)).2 ++ [(sum S).1.2.2.1]) else sum S
def on0 (A : PS → PS) : PF := fun S => if S.2.2.1 ≤ 10005 then (A S, [S.2.2.1]) else (refS S, [])
def onS (A : PS → PS) (one or : PF) : PF := fun S => if S.2.2.1 ≤ 10005 then (A S, [S.2.2.1]) else if S.2.2.1 = 10016 then ((one (A S)).1, (one (A S)).2 ++ [10020]) else if S.2.2.1 = 10012 then (demS A 10013 (or (A S)).1, (or (A S)).2) else (refS S, [])
def ntS (A : PS → PS) (nt sum : PF) : PF := fun S => if S.2.2.1 = 10011 then ((nt (A S)).1, (nt (A S)).2 ++ [10011]) else cmF A sum S
def smF (A : PS → PS) (one : PF) : PF := lvF A pSu (lvF A pTe one)
def orF (A : PS → PS) (nt : PF) : PF := lvF A pOr (lvF A pAn nt)
/-- the readers with k more that may be open: or, one, not -/
def lvl (A : PS → PS) : Nat → PF × PF × PF
  | 0 => (orF A (cmF A (smF A (on0 A))), on0 A, cmF A (smF A (on0 A)))
  | k + 1 => (orF A (ntS A (lvl A k).2.2 (smF A (onS A (lvl A k).2.1 (lvl A k).1))), onS A (lvl A k).2.1 (lvl A k).1, ntS A (lvl A k).2.2 (smF A (onS A (lvl A k).2.1 (lvl A k).1)))
def Bd (F : PF) : Prop := ∀ S : PS, S.1 ≤ 160 → (F S).1.1 ≤ 160
def BdA (A : PS → PS) : Prop := ∀ S : PS, S.1 ≤ 160 → (A S).1 ≤ 160
theorem refS_le {S : PS} (h : S.1 ≤ 160) : (refS S).1 ≤ 160 := h
theorem demS_le {A : PS → PS} (hA : BdA A) {w : Int32} {S : PS} (h : S.1 ≤ 160) : (demS A w S).1 ≤ 160 := by
  unfold demS
  split
  · exact hA S h
  · exact refS_le h
theorem lpF_le {A : PS → PS} (hA : BdA A) {P : Int32 → Bool} {sub : PF} (hs : Bd sub) : ∀ k, Bd (lpF A P sub k)
  | 0, S, h => h
  | k + 1, S, h => by
    unfold lpF
    split
    · exact lpF_le hA hs k _ (hs _ (hA _ h))
    · exact h
theorem lvF_le {A : PS → PS} (hA : BdA A) {P : Int32 → Bool} {sub : PF} (hs : Bd sub) : Bd (lvF A P sub) := fun S h => lpF_le hA hs 160 _ (hs S h)
theorem cmF_le {A : PS → PS} (hA : BdA A) {sum : PF} (hs : Bd sum) : Bd (cmF A sum) := by
  intro S h
  unfold cmF
  split
  · exact hs _ (hA _ (hs _ h))
  · exact hs _ h
theorem on0_le {A : PS → PS} (hA : BdA A) : Bd (on0 A) := by
  intro S h
  unfold on0
  split
  · exact hA _ h
  · exact h
theorem onS_le {A : PS → PS} (hA : BdA A) {one or : PF} (h1 : Bd one) (h2 : Bd or) : Bd (onS A one or) := by
  intro S h
  unfold onS
  split
  · exact hA _ h
  · split
    · exact h1 _ (hA _ h)
    · split
      · exact demS_le hA (h2 _ (hA _ h))
      · exact h
theorem ntS_le {A : PS → PS} (hA : BdA A) {nt sum : PF} (h1 : Bd nt) (h2 : Bd sum) : Bd (ntS A nt sum) := by
  intro S h
  unfold ntS
  split
  · exact h1 _ (hA _ h)
  · exact cmF_le hA h2 _ h
theorem smF_le {A : PS → PS} (hA : BdA A) {one : PF} (h : Bd one) : Bd (smF A one) := lvF_le hA (lvF_le hA h)
theorem orF_le {A : PS → PS} (hA : BdA A) {nt : PF} (h : Bd nt) : Bd (orF A nt) := lvF_le hA (lvF_le hA h)
theorem lvl_le {A : PS → PS} (hA : BdA A) : ∀ k, Bd (lvl A k).1 ∧ Bd (lvl A k).2.1 ∧ Bd (lvl A k).2.2
  | 0 => ⟨orF_le hA (cmF_le hA (smF_le hA (on0_le hA))), on0_le hA, cmF_le hA (smF_le hA (on0_le hA))⟩
  | k + 1 => by
    have ih := lvl_le hA k
    have h1 := onS_le hA ih.2.1 ih.1
    have h2 := ntS_le hA ih.2.2 (smF_le hA h1)
    exact ⟨orF_le hA h2, h1, h2⟩

/-- the references that the reader needs -/
def RdR (r : RG) (t : Nat) : Prop := r 2 0 = some 3 ∧ r 2 6 = some (5 + 4 * t) ∧ r (5 + 4 * t) 0 = some (5 + 4 * t + 1) ∧ r (5 + 4 * t) 1 = some (5 + 4 * t + 2)

set_option maxHeartbeats 4000000 in
set_option maxRecDepth 20000 in
theorem c_X0_isLetter (l : Launch) (E : Ev) {n : Nat} {g : IG} {r : RG} {z : Int64} (x1 : Int32) : Ct l E n yX0_isLetter cX0_isLetter 1 (some .boolean) 1 [.int x1] g r z (Zi r z (isLt x1) g) := by
  refine Ct.of (lv0 := [(0, .int x1)]) (by decide) (Nat.le_of_ble_eq_true rfl) rfl ?_
  intro p e s m below meth c cx
  refine go_iload_n (pc' := 1) cx dX0_isLetter_0 rfl rfl ?_
  refine go_bipush (pc' := 3) cx 97 dX0_isLetter_1 rfl rfl ?_
  refine go_icmp_lt (pc' := 6) cx 16 dX0_isLetter_3 rfl rfl (fun c3 => ?_) (fun c3 => ?_)
  · have c3n := Int32.not_le.mpr c3
    refine go_iconst (pc' := 17) cx 0 dX0_isLetter_16 rfl rfl ?_
    refine go_zret cx (Or.inl rfl) rfl dX0_isLetter_17 ?_
    exact Zi.mk (by first | (simp [isLt, c3, c3n]; done) | (simp_all [isLt, c3, c3n]; done)) rfl
  · have c3n := Int32.not_lt.mp c3
    refine go_iload_n (pc' := 7) cx dX0_isLetter_6 rfl rfl ?_
    refine go_bipush (pc' := 9) cx 122 dX0_isLetter_7 rfl rfl ?_
    refine go_icmp_gt (pc' := 12) cx 16 dX0_isLetter_9 rfl rfl (fun c9 => ?_) (fun c9 => ?_)
    · have c9n := Int32.not_le.mpr c9
      refine go_iconst (pc' := 17) cx 0 dX0_isLetter_16 rfl rfl ?_
      refine go_zret cx (Or.inl rfl) rfl dX0_isLetter_17 ?_
      exact Zi.mk (by first | (simp [isLt, c3, c3n, c9, c9n]; done) | (simp_all [isLt, c3, c3n, c9, c9n]; done)) rfl
    · have c9n := Int32.not_lt.mp c9
      refine go_iconst (pc' := 13) cx 1 dX0_isLetter_12 rfl rfl ?_
      refine go_goto cx 17 dX0_isLetter_13 rfl ?_
      refine go_zret cx (Or.inr rfl) rfl dX0_isLetter_17 ?_
      exact Zi.mk (by first | (simp [isLt, c3, c3n, c9, c9n]; done) | (simp_all [isLt, c3, c3n, c9, c9n]; done)) rfl

set_option maxHeartbeats 4000000 in
set_option maxRecDepth 20000 in
theorem c_X0_isDigit (l : Launch) (E : Ev) {n : Nat} {g : IG} {r : RG} {z : Int64} (x1 : Int32) : Ct l E n yX0_isDigit cX0_isDigit 1 (some .boolean) 1 [.int x1] g r z (Zi r z (isDg x1) g) := by
  refine Ct.of (lv0 := [(0, .int x1)]) (by decide) (Nat.le_of_ble_eq_true rfl) rfl ?_
  intro p e s m below meth c cx
  refine go_iload_n (pc' := 1) cx dX0_isDigit_0 rfl rfl ?_
  refine go_bipush (pc' := 3) cx 48 dX0_isDigit_1 rfl rfl ?_
  refine go_icmp_lt (pc' := 6) cx 16 dX0_isDigit_3 rfl rfl (fun c3 => ?_) (fun c3 => ?_)
  · have c3n := Int32.not_le.mpr c3
    refine go_iconst (pc' := 17) cx 0 dX0_isDigit_16 rfl rfl ?_
    refine go_zret cx (Or.inl rfl) rfl dX0_isDigit_17 ?_
    exact Zi.mk (by first | (simp [isDg, c3, c3n]; done) | (simp_all [isDg, c3, c3n]; done)) rfl
  · have c3n := Int32.not_lt.mp c3
    refine go_iload_n (pc' := 7) cx dX0_isDigit_6 rfl rfl ?_
    refine go_bipush (pc' := 9) cx 57 dX0_isDigit_7 rfl rfl ?_
    refine go_icmp_gt (pc' := 12) cx 16 dX0_isDigit_9 rfl rfl (fun c9 => ?_) (fun c9 => ?_)
    · have c9n := Int32.not_le.mpr c9
      refine go_iconst (pc' := 17) cx 0 dX0_isDigit_16 rfl rfl ?_
      refine go_zret cx (Or.inl rfl) rfl dX0_isDigit_17 ?_
      exact Zi.mk (by first | (simp [isDg, c3, c3n, c9, c9n]; done) | (simp_all [isDg, c3, c3n, c9, c9n]; done)) rfl
    · have c9n := Int32.not_lt.mp c9
      refine go_iconst (pc' := 13) cx 1 dX0_isDigit_12 rfl rfl ?_
      refine go_goto cx 17 dX0_isDigit_13 rfl ?_
      refine go_zret cx (Or.inr rfl) rfl dX0_isDigit_17 ?_
      exact Zi.mk (by first | (simp [isDg, c3, c3n, c9, c9n]; done) | (simp_all [isDg, c3, c3n, c9, c9n]; done)) rfl

set_option maxHeartbeats 4000000 in
set_option maxRecDepth 20000 in
theorem c_X0_signOf (l : Launch) (E : Ev) {n : Nat} {g : IG} {r : RG} {z : Int64} (x1 : Int32) : Ct l E n yX0_signOf cX0_signOf 1 (some .int) 1 [.int x1] g r z (Zi r z (sgn x1) g) := by
  refine Ct.of (lv0 := [(0, .int x1)]) (by decide) (Nat.le_of_ble_eq_true rfl) rfl ?_
  intro p e s m below meth c cx
  refine go_iload_n (pc' := 1) cx dX0_signOf_0 rfl rfl ?_
  by_cases c1 : x1 = 40
  · refine go_tabIn cx 104 dX0_signOf_1 (by rw [c1]; decide) (by rw [c1]; decide) (by rw [c1]; rfl) rfl ?_
    refine go_sipush (pc' := 107) cx 10012 dX0_signOf_104 rfl rfl ?_
    refine go_iret cx rfl dX0_signOf_107 ?_
    exact Zi.mk (by first | (simp [sgn, c1]; done) | (simp_all [sgn, c1]; done)) rfl
  have n1_40 := c1
  by_cases c1 : x1 = 41
  · refine go_tabIn cx 108 dX0_signOf_1 (by rw [c1]; decide) (by rw [c1]; decide) (by rw [c1]; rfl) rfl ?_
    refine go_sipush (pc' := 111) cx 10013 dX0_signOf_108 rfl rfl ?_
    refine go_iret cx rfl dX0_signOf_111 ?_
    exact Zi.mk (by first | (simp [sgn, n1_40, c1]; done) | (simp_all [sgn, n1_40, c1]; done)) rfl
  have n1_41 := c1
  by_cases c1 : x1 = 42
  · refine go_tabIn cx 124 dX0_signOf_1 (by rw [c1]; decide) (by rw [c1]; decide) (by rw [c1]; rfl) rfl ?_
    refine go_sipush (pc' := 127) cx 10017 dX0_signOf_124 rfl rfl ?_
    refine go_iret cx rfl dX0_signOf_127 ?_
    exact Zi.mk (by first | (simp [sgn, n1_40, n1_41, c1]; done) | (simp_all [sgn, n1_40, n1_41, c1]; done)) rfl
  have n1_42 := c1
  by_cases c1 : x1 = 43
  · refine go_tabIn cx 116 dX0_signOf_1 (by rw [c1]; decide) (by rw [c1]; decide) (by rw [c1]; rfl) rfl ?_
    refine go_sipush (pc' := 119) cx 10015 dX0_signOf_116 rfl rfl ?_
    refine go_iret cx rfl dX0_signOf_119 ?_
    exact Zi.mk (by first | (simp [sgn, n1_40, n1_41, n1_42, c1]; done) | (simp_all [sgn, n1_40, n1_41, n1_42, c1]; done)) rfl
  have n1_43 := c1
  by_cases c1 : x1 = 45
  · refine go_tabIn cx 120 dX0_signOf_1 (by rw [c1]; decide) (by rw [c1]; decide) (by rw [c1]; rfl) rfl ?_
    refine go_sipush (pc' := 123) cx 10016 dX0_signOf_120 rfl rfl ?_
    refine go_iret cx rfl dX0_signOf_123 ?_
    exact Zi.mk (by first | (simp [sgn, n1_40, n1_41, n1_42, n1_43, c1]; done) | (simp_all [sgn, n1_40, n1_41, n1_42, n1_43, c1]; done)) rfl
  have n1_45 := c1
  by_cases c1 : x1 = 59
  · refine go_tabIn cx 112 dX0_signOf_1 (by rw [c1]; decide) (by rw [c1]; decide) (by rw [c1]; rfl) rfl ?_
    refine go_sipush (pc' := 115) cx 10014 dX0_signOf_112 rfl rfl ?_
    refine go_iret cx rfl dX0_signOf_115 ?_
    exact Zi.mk (by first | (simp [sgn, n1_40, n1_41, n1_42, n1_43, n1_45, c1]; done) | (simp_all [sgn, n1_40, n1_41, n1_42, n1_43, n1_45, c1]; done)) rfl
  have n1_59 := c1
  by_cases c1 : x1 = 60
  · refine go_tabIn cx 128 dX0_signOf_1 (by rw [c1]; decide) (by rw [c1]; decide) (by rw [c1]; rfl) rfl ?_
    refine go_sipush (pc' := 131) cx 10018 dX0_signOf_128 rfl rfl ?_
    refine go_iret cx rfl dX0_signOf_131 ?_
    exact Zi.mk (by first | (simp [sgn, n1_40, n1_41, n1_42, n1_43, n1_45, n1_59, c1]; done) | (simp_all [sgn, n1_40, n1_41, n1_42, n1_43, n1_45, n1_59, c1]; done)) rfl
  have n1_60 := c1
  by_cases c1 : x1 = 61
  · refine go_tabIn cx 132 dX0_signOf_1 (by rw [c1]; decide) (by rw [c1]; decide) (by rw [c1]; rfl) rfl ?_
    refine go_sipush (pc' := 135) cx 10019 dX0_signOf_132 rfl rfl ?_
    refine go_iret cx rfl dX0_signOf_135 ?_
    exact Zi.mk (by first | (simp [sgn, n1_40, n1_41, n1_42, n1_43, n1_45, n1_59, n1_60, c1]; done) | (simp_all [sgn, n1_40, n1_41, n1_42, n1_43, n1_45, n1_59, n1_60, c1]; done)) rfl
  have n1_61 := c1
  refine go_tabD cx 136 dX0_signOf_1 ?_ rfl ?_
  · by_cases q1 : x1.toInt < 40
    · exact Or.inl (Or.inl q1)
    by_cases q2 : 61 < x1.toInt
    · exact Or.inl (Or.inr q2)
    refine Or.inr ⟨q1, q2, ?_⟩
    rcases (show x1.toInt = 40 ∨ x1.toInt = 41 ∨ x1.toInt = 42 ∨ x1.toInt = 43 ∨ x1.toInt = 44 ∨ x1.toInt = 45 ∨ x1.toInt = 46 ∨ x1.toInt = 47 ∨ x1.toInt = 48 ∨ x1.toInt = 49 ∨ x1.toInt = 50 ∨ x1.toInt = 51 ∨ x1.toInt = 52 ∨ x1.toInt = 53 ∨ x1.toInt = 54 ∨ x1.toInt = 55 ∨ x1.toInt = 56 ∨ x1.toInt = 57 ∨ x1.toInt = 58 ∨ x1.toInt = 59 ∨ x1.toInt = 60 ∨ x1.toInt = 61 by omega) with q3 | q3 | q3 | q3 | q3 | q3 | q3 | q3 | q3 | q3 | q3 | q3 | q3 | q3 | q3 | q3 | q3 | q3 | q3 | q3 | q3 | q3
    · exact absurd (Int32.toInt_inj.mp (q3.trans (by decide))) n1_40
    · exact absurd (Int32.toInt_inj.mp (q3.trans (by decide))) n1_41
    · exact absurd (Int32.toInt_inj.mp (q3.trans (by decide))) n1_42
    · exact absurd (Int32.toInt_inj.mp (q3.trans (by decide))) n1_43
    · rw [q3]; rfl
    · exact absurd (Int32.toInt_inj.mp (q3.trans (by decide))) n1_45
    · rw [q3]; rfl
    · rw [q3]; rfl
    · rw [q3]; rfl
    · rw [q3]; rfl
    · rw [q3]; rfl
    · rw [q3]; rfl
    · rw [q3]; rfl
    · rw [q3]; rfl
    · rw [q3]; rfl
    · rw [q3]; rfl
    · rw [q3]; rfl
    · rw [q3]; rfl
    · rw [q3]; rfl
    · exact absurd (Int32.toInt_inj.mp (q3.trans (by decide))) n1_59
    · exact absurd (Int32.toInt_inj.mp (q3.trans (by decide))) n1_60
    · exact absurd (Int32.toInt_inj.mp (q3.trans (by decide))) n1_61
  refine go_sipush (pc' := 139) cx 10022 dX0_signOf_136 rfl rfl ?_
  refine go_iret cx rfl dX0_signOf_139 ?_
  exact Zi.mk (by first | (simp [sgn, n1_40, n1_41, n1_42, n1_43, n1_45, n1_59, n1_60, n1_61]; done) | (simp_all [sgn, n1_40, n1_41, n1_42, n1_43, n1_45, n1_59, n1_60, n1_61]; done)) rfl

set_option maxHeartbeats 4000000 in
set_option maxRecDepth 20000 in
theorem c_X0_spelling_0 (l : Launch) (E : Ev) {n : Nat} {g : IG} {r : RG} {z : Int64}  : Ct l E n yX0_spelling cX0_spelling 1 (some (.object "java/lang/String")) 1 [.int 10000] g r z (Zr r z (E.2.2.2.1 1) g) := by
  refine Ct.of (lv0 := [(0, .int 10000)]) (by decide) (Nat.le_of_ble_eq_true rfl) rfl ?_
  intro p e s m below meth c cx
  refine go_iload_n (pc' := 1) cx dX0_spelling_0 rfl rfl ?_
  refine go_tabIn cx 60 dX0_spelling_1 (by decide) (by decide) rfl rfl ?_
  refine go_ldcs (pc' := 62) cx (i := 1) rfl dX0_spelling_60 rfl ?_
  refine go_aret cx (Or.inl ⟨_, rfl⟩) rfl dX0_spelling_62 ?_
  exact Zr.mk rfl rfl

set_option maxHeartbeats 4000000 in
set_option maxRecDepth 20000 in
theorem c_X0_spelling_1 (l : Launch) (E : Ev) {n : Nat} {g : IG} {r : RG} {z : Int64}  : Ct l E n yX0_spelling cX0_spelling 1 (some (.object "java/lang/String")) 1 [.int 10001] g r z (Zr r z (E.2.2.2.1 2) g) := by
  refine Ct.of (lv0 := [(0, .int 10001)]) (by decide) (Nat.le_of_ble_eq_true rfl) rfl ?_
  intro p e s m below meth c cx
  refine go_iload_n (pc' := 1) cx dX0_spelling_0 rfl rfl ?_
  refine go_tabIn cx 63 dX0_spelling_1 (by decide) (by decide) rfl rfl ?_
  refine go_ldcs (pc' := 65) cx (i := 2) rfl dX0_spelling_63 rfl ?_
  refine go_aret cx (Or.inl ⟨_, rfl⟩) rfl dX0_spelling_65 ?_
  exact Zr.mk rfl rfl

set_option maxHeartbeats 4000000 in
set_option maxRecDepth 20000 in
theorem c_X0_spelling_2 (l : Launch) (E : Ev) {n : Nat} {g : IG} {r : RG} {z : Int64}  : Ct l E n yX0_spelling cX0_spelling 1 (some (.object "java/lang/String")) 1 [.int 10002] g r z (Zr r z (E.2.2.2.1 3) g) := by
  refine Ct.of (lv0 := [(0, .int 10002)]) (by decide) (Nat.le_of_ble_eq_true rfl) rfl ?_
  intro p e s m below meth c cx
  refine go_iload_n (pc' := 1) cx dX0_spelling_0 rfl rfl ?_
  refine go_tabIn cx 66 dX0_spelling_1 (by decide) (by decide) rfl rfl ?_
  refine go_ldcs (pc' := 68) cx (i := 3) rfl dX0_spelling_66 rfl ?_
  refine go_aret cx (Or.inl ⟨_, rfl⟩) rfl dX0_spelling_68 ?_
  exact Zr.mk rfl rfl

set_option maxHeartbeats 4000000 in
set_option maxRecDepth 20000 in
theorem c_X0_spelling_3 (l : Launch) (E : Ev) {n : Nat} {g : IG} {r : RG} {z : Int64}  : Ct l E n yX0_spelling cX0_spelling 1 (some (.object "java/lang/String")) 1 [.int 10003] g r z (Zr r z (E.2.2.2.1 4) g) := by
  refine Ct.of (lv0 := [(0, .int 10003)]) (by decide) (Nat.le_of_ble_eq_true rfl) rfl ?_
  intro p e s m below meth c cx
  refine go_iload_n (pc' := 1) cx dX0_spelling_0 rfl rfl ?_
  refine go_tabIn cx 69 dX0_spelling_1 (by decide) (by decide) rfl rfl ?_
  refine go_ldcs (pc' := 71) cx (i := 4) rfl dX0_spelling_69 rfl ?_
  refine go_aret cx (Or.inl ⟨_, rfl⟩) rfl dX0_spelling_71 ?_
  exact Zr.mk rfl rfl

set_option maxHeartbeats 4000000 in
set_option maxRecDepth 20000 in
theorem c_X0_spelling_4 (l : Launch) (E : Ev) {n : Nat} {g : IG} {r : RG} {z : Int64}  : Ct l E n yX0_spelling cX0_spelling 1 (some (.object "java/lang/String")) 1 [.int 10004] g r z (Zr r z (E.2.2.2.1 5) g) := by
  refine Ct.of (lv0 := [(0, .int 10004)]) (by decide) (Nat.le_of_ble_eq_true rfl) rfl ?_
  intro p e s m below meth c cx
  refine go_iload_n (pc' := 1) cx dX0_spelling_0 rfl rfl ?_
  refine go_tabIn cx 72 dX0_spelling_1 (by decide) (by decide) rfl rfl ?_
  refine go_ldcs (pc' := 74) cx (i := 5) rfl dX0_spelling_72 rfl ?_
  refine go_aret cx (Or.inl ⟨_, rfl⟩) rfl dX0_spelling_74 ?_
  exact Zr.mk rfl rfl

set_option maxHeartbeats 4000000 in
set_option maxRecDepth 20000 in
theorem c_X0_spelling_5 (l : Launch) (E : Ev) {n : Nat} {g : IG} {r : RG} {z : Int64}  : Ct l E n yX0_spelling cX0_spelling 1 (some (.object "java/lang/String")) 1 [.int 10005] g r z (Zr r z (E.2.2.2.1 6) g) := by
  refine Ct.of (lv0 := [(0, .int 10005)]) (by decide) (Nat.le_of_ble_eq_true rfl) rfl ?_
  intro p e s m below meth c cx
  refine go_iload_n (pc' := 1) cx dX0_spelling_0 rfl rfl ?_
  refine go_tabIn cx 75 dX0_spelling_1 (by decide) (by decide) rfl rfl ?_
  refine go_ldcs (pc' := 77) cx (i := 6) rfl dX0_spelling_75 rfl ?_
  refine go_aret cx (Or.inl ⟨_, rfl⟩) rfl dX0_spelling_77 ?_
  exact Zr.mk rfl rfl

set_option maxHeartbeats 4000000 in
set_option maxRecDepth 20000 in
theorem c_X0_spelling_6 (l : Launch) (E : Ev) {n : Nat} {g : IG} {r : RG} {z : Int64}  : Ct l E n yX0_spelling cX0_spelling 1 (some (.object "java/lang/String")) 1 [.int 10006] g r z (Zr r z (E.2.2.2.1 7) g) := by
  refine Ct.of (lv0 := [(0, .int 10006)]) (by decide) (Nat.le_of_ble_eq_true rfl) rfl ?_
  intro p e s m below meth c cx
  refine go_iload_n (pc' := 1) cx dX0_spelling_0 rfl rfl ?_
  refine go_tabIn cx 78 dX0_spelling_1 (by decide) (by decide) rfl rfl ?_
  refine go_ldcs (pc' := 80) cx (i := 7) rfl dX0_spelling_78 rfl ?_
  refine go_aret cx (Or.inl ⟨_, rfl⟩) rfl dX0_spelling_80 ?_
  exact Zr.mk rfl rfl

set_option maxHeartbeats 4000000 in
set_option maxRecDepth 20000 in
theorem c_X0_spelling_7 (l : Launch) (E : Ev) {n : Nat} {g : IG} {r : RG} {z : Int64}  : Ct l E n yX0_spelling cX0_spelling 1 (some (.object "java/lang/String")) 1 [.int 10007] g r z (Zr r z (E.2.2.2.1 8) g) := by
  refine Ct.of (lv0 := [(0, .int 10007)]) (by decide) (Nat.le_of_ble_eq_true rfl) rfl ?_
  intro p e s m below meth c cx
  refine go_iload_n (pc' := 1) cx dX0_spelling_0 rfl rfl ?_
  refine go_tabIn cx 81 dX0_spelling_1 (by decide) (by decide) rfl rfl ?_
  refine go_ldcs (pc' := 83) cx (i := 8) rfl dX0_spelling_81 rfl ?_
  refine go_aret cx (Or.inl ⟨_, rfl⟩) rfl dX0_spelling_83 ?_
  exact Zr.mk rfl rfl

set_option maxHeartbeats 4000000 in
set_option maxRecDepth 20000 in
theorem c_X0_spelling_8 (l : Launch) (E : Ev) {n : Nat} {g : IG} {r : RG} {z : Int64}  : Ct l E n yX0_spelling cX0_spelling 1 (some (.object "java/lang/String")) 1 [.int 10008] g r z (Zr r z (E.2.2.2.1 9) g) := by
  refine Ct.of (lv0 := [(0, .int 10008)]) (by decide) (Nat.le_of_ble_eq_true rfl) rfl ?_
  intro p e s m below meth c cx
  refine go_iload_n (pc' := 1) cx dX0_spelling_0 rfl rfl ?_
  refine go_tabIn cx 84 dX0_spelling_1 (by decide) (by decide) rfl rfl ?_
  refine go_ldcs (pc' := 86) cx (i := 9) rfl dX0_spelling_84 rfl ?_
  refine go_aret cx (Or.inl ⟨_, rfl⟩) rfl dX0_spelling_86 ?_
  exact Zr.mk rfl rfl

set_option maxHeartbeats 4000000 in
set_option maxRecDepth 20000 in
theorem c_X0_spelling_9 (l : Launch) (E : Ev) {n : Nat} {g : IG} {r : RG} {z : Int64}  : Ct l E n yX0_spelling cX0_spelling 1 (some (.object "java/lang/String")) 1 [.int 10009] g r z (Zr r z (E.2.2.2.1 10) g) := by
  refine Ct.of (lv0 := [(0, .int 10009)]) (by decide) (Nat.le_of_ble_eq_true rfl) rfl ?_
  intro p e s m below meth c cx
  refine go_iload_n (pc' := 1) cx dX0_spelling_0 rfl rfl ?_
  refine go_tabIn cx 87 dX0_spelling_1 (by decide) (by decide) rfl rfl ?_
  refine go_ldcs (pc' := 89) cx (i := 10) rfl dX0_spelling_87 rfl ?_
  refine go_aret cx (Or.inl ⟨_, rfl⟩) rfl dX0_spelling_89 ?_
  exact Zr.mk rfl rfl

set_option maxHeartbeats 4000000 in
set_option maxRecDepth 20000 in
theorem c_X0_spelling_10 (l : Launch) (E : Ev) {n : Nat} {g : IG} {r : RG} {z : Int64}  : Ct l E n yX0_spelling cX0_spelling 1 (some (.object "java/lang/String")) 1 [.int 10010] g r z (Zr r z (E.2.2.2.1 11) g) := by
  refine Ct.of (lv0 := [(0, .int 10010)]) (by decide) (Nat.le_of_ble_eq_true rfl) rfl ?_
  intro p e s m below meth c cx
  refine go_iload_n (pc' := 1) cx dX0_spelling_0 rfl rfl ?_
  refine go_tabIn cx 90 dX0_spelling_1 (by decide) (by decide) rfl rfl ?_
  refine go_ldcs (pc' := 92) cx (i := 11) rfl dX0_spelling_90 rfl ?_
  refine go_aret cx (Or.inl ⟨_, rfl⟩) rfl dX0_spelling_92 ?_
  exact Zr.mk rfl rfl

set_option maxHeartbeats 4000000 in
set_option maxRecDepth 20000 in
theorem c_X0_spelling_11 (l : Launch) (E : Ev) {n : Nat} {g : IG} {r : RG} {z : Int64}  : Ct l E n yX0_spelling cX0_spelling 1 (some (.object "java/lang/String")) 1 [.int 10011] g r z (Zr r z (E.2.2.2.1 12) g) := by
  refine Ct.of (lv0 := [(0, .int 10011)]) (by decide) (Nat.le_of_ble_eq_true rfl) rfl ?_
  intro p e s m below meth c cx
  refine go_iload_n (pc' := 1) cx dX0_spelling_0 rfl rfl ?_
  refine go_tabOut cx 93 dX0_spelling_1 (by decide) rfl ?_
  refine go_ldcs (pc' := 95) cx (i := 12) rfl dX0_spelling_93 rfl ?_
  refine go_aret cx (Or.inl ⟨_, rfl⟩) rfl dX0_spelling_95 ?_
  exact Zr.mk rfl rfl

set_option maxHeartbeats 4000000 in
set_option maxRecDepth 20000 in
theorem stands_loop {l : Launch} {E : Ev} {Z : ZT} {n : Nat} {g : IG} {r : RG} {z : Int64} {p : Program} {e : Env} {s : State} {m : MethodId} {args : Array Value} {below : List Frame} {meth : Method} {c : Code} {t sz : Nat} (hn : 37 ≤ n) (ht : t < 6) (hsz : sz ≤ 160) (hr : RdR r t) (hsz1 : g 2 1 = nI sz) {i : Nat} (hi : i < 13) {S : PS} {N : SK} (hS : S.2.1 ≤ S.1) (hS2 : S.1 ≤ 160) (hL : S.1 - S.2.1 = lnS.getD i 0) (cx : Cx p s m args meth c E n cX0_stands 3 yX0_stands.cls (some .boolean)) : ∀ (k j : Nat), j + k = lnS.getD i 0 → Z (some (.int (stF (g 3) S.2.1 i k j))) (stt g t S N) r z → Go p l e (rmd 5) s m args below meth c E n 3 Z (stt g t S N) r z 20 [(2, .int (nI j)), (0, .ref (E.2.1 2)), (1, .ref (E.2.2.2.1 i))] [] := by
  have hL37 := (str_ok i hi).1
  intro k
  induction k with
  | zero =>
    intro j hj hZ
    have hq : j = lnS.getD i 0 := by omega
    subst hq
    refine go_iload_n (pc' := 21) cx dX0_stands_20 rfl rfl ?_
    refine go_aload_n (pc' := 22) cx dX0_stands_21 rfl rfl ?_
    refine go_callVs (pc' := 25) cx (c_J0_length l E (g := (stt g t S N)) (i := i) hi) mJ0_length_8abf5 lX0_98 dX0_stands_22 hi rfl rfl rfl rfl (ltn rfl) (Nat.le_of_ble_eq_true rfl) (Nat.le_of_ble_eq_true rfl) rfl ?_
    refine go_icmp_ge (pc' := 28) cx 55 dX0_stands_25 rfl rfl (fun _ => ?_) (fun hh => absurd ((nI_leI (a := lnS.getD i 0) (b := lnS.getD i 0) (by omega) (by omega)).mpr (Nat.le_refl _)) hh)
    refine go_iconst (pc' := 56) cx 1 dX0_stands_55 rfl rfl ?_
    refine go_zret cx (Or.inr rfl) rfl dX0_stands_56 ?_
    exact hZ
  | succ k ih =>
    intro j hj hZ
    refine go_iload_n (pc' := 21) cx dX0_stands_20 rfl rfl ?_
    refine go_aload_n (pc' := 22) cx dX0_stands_21 rfl rfl ?_
    refine go_callVs (pc' := 25) cx (c_J0_length l E (g := (stt g t S N)) (i := i) hi) mJ0_length_8abf5 lX0_98 dX0_stands_22 hi rfl rfl rfl rfl (ltn rfl) (Nat.le_of_ble_eq_true rfl) (Nat.le_of_ble_eq_true rfl) rfl ?_
    refine go_icmp_ge (pc' := 28) cx 55 dX0_stands_25 rfl rfl (fun hh => absurd ((nI_leI (a := lnS.getD i 0) (b := j) (by omega) (by omega)).mp hh) (by omega)) (fun _ => ?_)
    refine go_aload_n (pc' := 29) cx dX0_stands_28 rfl rfl ?_
    refine go_getr (pc' := 32) cx 3 fX0_9 dX0_stands_29 kq2 (by omega) (ltn rfl) rfl hr.1 rfl ?_
    refine go_aload_n (pc' := 33) cx dX0_stands_32 rfl rfl ?_
    refine go_geti (pc' := 36) cx (nI S.2.1) fX0_45 dX0_stands_33 kq2 (by omega) (ltn rfl) rfl stt_23 rfl ?_
    refine go_iload_n (pc' := 37) cx dX0_stands_36 rfl rfl ?_
    refine go_iadd (pc' := 38) cx dX0_stands_37 rfl ?_
    refine go_val (w := .int (nI (S.2.1 + j))) (congrArg Value.int (nI_add S.2.1 j)) ?_
    refine go_iald (pc' := 39) cx (g 3 (S.2.1 + j)) dX0_stands_38 kq3 (by omega) (vpi (k := (S.2.1 + j)) (a := 160) (by omega) rfl rfl) ((congrArg ((stt g t S N) 3) (cli (k := (S.2.1 + j)) (a := 160) (by omega) rfl)).trans (stt_3 _)) rfl ?_
    refine go_aload_n (pc' := 40) cx dX0_stands_39 rfl rfl ?_
    refine go_iload_n (pc' := 41) cx dX0_stands_40 rfl rfl ?_
    refine go_callVs (pc' := 44) cx (c_J0_charAt l E (g := (stt g t S N)) (i := i) (j := j) hi (by omega)) mJ0_charAt_5068e lX0_103 dX0_stands_41 hi rfl rfl rfl rfl (ltn rfl) (Nat.le_of_ble_eq_true rfl) (Nat.le_of_ble_eq_true rfl) rfl ?_
    refine go_icmp_eq (pc' := 47) cx 49 dX0_stands_44 rfl rfl (fun c44 => ?_) (fun c44 => ?_)
    · refine go_iinc (pc' := 52) cx (nI (j + 1)) dX0_stands_49 rfl (nI_1 j) (ltn rfl) [(2, .int (nI (j + 1))), (0, .ref (E.2.1 2)), (1, .ref (E.2.2.2.1 i))] rfl rfl ?_
      refine go_goto cx 20 dX0_stands_52 rfl ?_
      refine ih (j + 1) (by omega) ?_
      have h9 : stF (g 3) S.2.1 i (k + 1) j = stF (g 3) S.2.1 i k (j + 1) := if_pos c44
      rw [h9] at hZ
      exact hZ
    · refine go_iconst (pc' := 48) cx 0 dX0_stands_47 rfl rfl ?_
      refine go_zret cx (Or.inl rfl) rfl dX0_stands_48 ?_
      have h9 : stF (g 3) S.2.1 i (k + 1) j = 0 := if_neg c44
      rw [h9] at hZ
      exact hZ

set_option maxHeartbeats 4000000 in
set_option maxRecDepth 20000 in
theorem c_X0_stands (l : Launch) (E : Ev) {n : Nat} {g : IG} {r : RG} {z : Int64} {t sz : Nat} (hn : 37 ≤ n) (ht : t < 6) (hsz : sz ≤ 160) (hr : RdR r t) (hsz1 : g 2 1 = nI sz) {i : Nat} (hi : i < 13) {S : PS} {N : SK} (hS : S.2.1 ≤ S.1) (hS2 : S.1 ≤ 160) : Ct l E n yX0_stands cX0_stands 3 (some .boolean) 5 [.ref (E.2.1 2), .ref (E.2.2.2.1 i)] (stt g t S N) r z (Zi r z (stV (g 3) S.2.1 (S.1 - S.2.1) i) (stt g t S N)) := by
  refine Ct.of (lv0 := [(0, .ref (E.2.1 2)), (1, .ref (E.2.2.2.1 i))]) (by decide) (Nat.le_of_ble_eq_true rfl) rfl ?_
  intro p e s m below meth c cx
  have hL37 := (str_ok i hi).1
  refine go_aload_n (pc' := 1) cx dX0_stands_0 rfl rfl ?_
  refine go_callVs (pc' := 4) cx (c_J0_length l E (g := (stt g t S N)) (i := i) hi) mJ0_length_8abf5 lX0_98 dX0_stands_1 hi rfl rfl rfl rfl (ltn rfl) (Nat.le_of_ble_eq_true rfl) (Nat.le_of_ble_eq_true rfl) rfl ?_
  refine go_aload_n (pc' := 5) cx dX0_stands_4 rfl rfl ?_
  refine go_geti (pc' := 8) cx (nI S.1) fX0_26 dX0_stands_5 kq2 (by omega) (ltn rfl) rfl stt_22 rfl ?_
  refine go_aload_n (pc' := 9) cx dX0_stands_8 rfl rfl ?_
  refine go_geti (pc' := 12) cx (nI S.2.1) fX0_45 dX0_stands_9 kq2 (by omega) (ltn rfl) rfl stt_23 rfl ?_
  refine go_isub (pc' := 13) cx dX0_stands_12 rfl ?_
  refine go_val (w := .int (nI (S.1 - S.2.1))) (congrArg Value.int (pk_sub (a := S.1) (b := S.2.1) (by omega))) ?_
  refine go_icmp_eq (pc' := 16) cx 18 dX0_stands_13 rfl rfl (fun c13 => ?_) (fun c13 => ?_)
  · have c13 := (nI_eq (a := (lnS.getD i 0)) (b := (S.1 - S.2.1)) (by omega) (by omega)).mp c13
    refine go_iconst (pc' := 19) cx 0 dX0_stands_18 rfl rfl ?_
    refine go_istore_n (pc' := 20) cx dX0_stands_19 (ltn rfl) [(2, .int 0), (0, .ref (E.2.1 2)), (1, .ref (E.2.2.2.1 i))] rfl rfl ?_
    refine stands_loop hn ht hsz hr hsz1 hi hS hS2 c13.symm cx (lnS.getD i 0) 0 (Nat.zero_add _) (Zi.mk ?_ rfl)
    unfold stV
    rw [if_pos c13]
  · have c13 : ¬ (lnS.getD i 0) = (S.1 - S.2.1) := fun q9 => c13 ((nI_eq (a := (lnS.getD i 0)) (b := (S.1 - S.2.1)) (by omega) (by omega)).mpr q9)
    refine go_iconst (pc' := 17) cx 0 dX0_stands_16 rfl rfl ?_
    refine go_zret cx (Or.inl rfl) rfl dX0_stands_17 ?_
    exact Zi.mk (by unfold stV; rw [if_neg c13]) rfl

set_option maxHeartbeats 4000000 in
set_option maxRecDepth 20000 in
theorem word_loop {l : Launch} {E : Ev} {Z : ZT} {n : Nat} {g : IG} {r : RG} {z : Int64} {p : Program} {e : Env} {s : State} {m : MethodId} {args : Array Value} {below : List Frame} {meth : Method} {c : Code} {t sz : Nat} (hn : 37 ≤ n) (ht : t < 6) (hsz : sz ≤ 160) (hr : RdR r t) (hsz1 : g 2 1 = nI sz) {S : PS} {N : SK} (cx : Cx p s m args meth c E n cX0_nextWord 2 yX0_nextWord.cls (some .int)) : ∀ (k a : Nat), a + k = max a sz → a ≤ 160 → (Go p l e (rmd 6) s m args below meth c E n 2 Z (stt g t (skL (g 3) k a, S.2.1, S.2.2.1, S.2.2.2) N) r z 39 [(0, .ref (E.2.1 2))] []) → Go p l e (rmd 6) s m args below meth c E n 2 Z (stt g t (a, S.2.1, S.2.2.1, S.2.2.2) N) r z 0 [(0, .ref (E.2.1 2))] [] := by
  intro k
  induction k with
  | zero =>
    intro a hk ha kk
    refine go_aload_n (pc' := 1) cx dX0_nextWord_0 rfl rfl ?_
    refine go_geti (pc' := 4) cx (nI a) fX0_26 dX0_nextWord_1 kq2 (by omega) (ltn rfl) rfl stt_22 rfl ?_
    refine go_aload_n (pc' := 5) cx dX0_nextWord_4 rfl rfl ?_
    refine go_geti (pc' := 8) cx (nI sz) fX0_15 dX0_nextWord_5 kq2 (by omega) (ltn rfl) rfl (stt_21.trans hsz1) rfl ?_
    refine go_icmp_ge (pc' := 11) cx 39 dX0_nextWord_8 rfl rfl (fun _ => ?_) (fun hh => absurd ((nI_leI (a := sz) (b := a) (by omega) (by omega)).mpr (by omega)) hh)
    exact kk
  | succ k ih =>
    intro a hk ha kk
    refine go_aload_n (pc' := 1) cx dX0_nextWord_0 rfl rfl ?_
    refine go_geti (pc' := 4) cx (nI a) fX0_26 dX0_nextWord_1 kq2 (by omega) (ltn rfl) rfl stt_22 rfl ?_
    refine go_aload_n (pc' := 5) cx dX0_nextWord_4 rfl rfl ?_
    refine go_geti (pc' := 8) cx (nI sz) fX0_15 dX0_nextWord_5 kq2 (by omega) (ltn rfl) rfl (stt_21.trans hsz1) rfl ?_
    refine go_icmp_ge (pc' := 11) cx 39 dX0_nextWord_8 rfl rfl (fun hh => absurd ((nI_leI (a := sz) (b := a) (by omega) (by omega)).mp hh) (by omega)) (fun _ => ?_)
    refine go_aload_n (pc' := 12) cx dX0_nextWord_11 rfl rfl ?_
    refine go_getr (pc' := 15) cx 3 fX0_9 dX0_nextWord_12 kq2 (by omega) (ltn rfl) rfl hr.1 rfl ?_
    refine go_aload_n (pc' := 16) cx dX0_nextWord_15 rfl rfl ?_
    refine go_geti (pc' := 19) cx (nI a) fX0_26 dX0_nextWord_16 kq2 (by omega) (ltn rfl) rfl stt_22 rfl ?_
    refine go_iald (pc' := 20) cx (g 3 a) dX0_nextWord_19 kq3 (by omega) (vpi (k := a) (a := 160) (by omega) rfl rfl) ((congrArg ((stt g t (a, S.2.1, S.2.2.1, S.2.2.2) N) 3) (cli (k := a) (a := 160) (by omega) rfl)).trans (stt_3 _)) rfl ?_
    refine go_cSi (pc' := 23) cx (c_X0_isLetter l E (g := (stt g t (a, S.2.1, S.2.2.1, S.2.2.2) N)) (g 3 a)) mX0_isLetter lX0_72 dX0_nextWord_20 rfl rfl rfl (ltn rfl) (Nat.le_of_ble_eq_true rfl) (Nat.le_of_ble_eq_true rfl) rfl ?_
    refine go_if_eq (pc' := 26) cx 39 dX0_nextWord_23 rfl rfl (fun c23 => ?_) (fun c23 => ?_)
    · have h9 : skL (g 3) (k + 1) a = a := if_pos c23
      rw [h9] at kk
      exact kk
    · refine go_aload_n (pc' := 27) cx dX0_nextWord_26 rfl rfl ?_
      refine go_dup (pc' := 28) cx rfl dX0_nextWord_27 rfl ?_
      refine go_geti (pc' := 31) cx (nI a) fX0_26 dX0_nextWord_28 kq2 (by omega) (ltn rfl) rfl stt_22 rfl ?_
      refine go_iconst (pc' := 32) cx 1 dX0_nextWord_31 rfl rfl ?_
      refine go_iadd (pc' := 33) cx dX0_nextWord_32 rfl ?_
      refine go_val (w := .int (nI (a + 1))) (congrArg Value.int (nI_add a 1)) ?_
      refine go_puti (pc' := 36) cx fX0_26 dX0_nextWord_33 kq2 (by omega) (ltn rfl) rfl rfl rfl rfl ?_
      refine go_g (stt_w2 (g := g) (t := t) (S := (a, S.2.1, S.2.2.1, S.2.2.2)) (N := N) (a + 1)) ?_
      refine go_goto cx 0 dX0_nextWord_36 rfl ?_
      have h9 : skL (g 3) (k + 1) a = skL (g 3) k (a + 1) := if_neg c23
      rw [h9] at kk
      exact ih (a + 1) (by omega) (by omega) kk

set_option maxHeartbeats 4000000 in
set_option maxRecDepth 20000 in
theorem c_X0_nextWord (l : Launch) (E : Ev) {n : Nat} {g : IG} {r : RG} {z : Int64} {t sz : Nat} (hn : 37 ≤ n) (ht : t < 6) (hsz : sz ≤ 160) (hr : RdR r t) (hsz1 : g 2 1 = nI sz) {S : PS} {N : SK} (hS : S.2.1 ≤ S.1) (hS0 : S.1 ≤ 160) : Ct l E n yX0_nextWord cX0_nextWord 2 (some .int) 6 [.ref (E.2.1 2)] (stt g t S N) r z (Zi r z (wcL (g 3) S.2.1 (skL (g 3) (sz - S.1) S.1 - S.2.1) 12 0) (stt g t (skL (g 3) (sz - S.1) S.1, S.2.1, S.2.2.1, S.2.2.2) N)) := by
  refine Ct.of (lv0 := [(0, .ref (E.2.1 2))]) (by decide) (Nat.le_of_ble_eq_true rfl) rfl ?_
  intro p e s m below meth c cx
  have hS1 : S.2.1 ≤ skL (g 3) (sz - S.1) S.1 := Nat.le_trans hS (skL_le _ _).1
  have hS2 : skL (g 3) (sz - S.1) S.1 ≤ 160 := by
    have := (skL_le (T := g 3) (sz - S.1) S.1).2
    omega
  refine word_loop hn ht hsz hr hsz1 (S := S) cx (sz - S.1) S.1 (by omega) hS0 ?_
  refine go_sipush (pc' := 42) cx 10000 dX0_nextWord_39 rfl rfl ?_
  refine go_istore_n (pc' := 43) cx dX0_nextWord_42 (ltn rfl) [(1, .int 10000), (0, .ref (E.2.1 2))] rfl rfl ?_
  refine go_iload_n (pc' := 44) cx dX0_nextWord_43 rfl rfl ?_
  refine go_sipush (pc' := 47) cx 10011 dX0_nextWord_44 rfl rfl ?_
  refine go_icmp_gt (pc' := 50) cx 69 dX0_nextWord_47 rfl rfl (fun hh => absurd hh (by decide)) (fun _ => ?_)
  refine go_aload_n (pc' := 51) cx dX0_nextWord_50 rfl rfl ?_
  refine go_iload_n (pc' := 52) cx dX0_nextWord_51 rfl rfl ?_
  refine go_cSr (pc' := 55) cx (c_X0_spelling_0 l E (g := (stt g t (skL (g 3) (sz - S.1) S.1, S.2.1, S.2.2.1, S.2.2.2) N))) mX0_spelling lX0_90 dX0_nextWord_52 rfl rfl rfl (ltn rfl) (Nat.le_of_ble_eq_true rfl) (Nat.le_of_ble_eq_true rfl) rfl ?_
  refine go_cVi (pc' := 58) cx (c_X0_stands l E hn ht hsz hr hsz1 (i := 1) (ltn rfl) (S := (skL (g 3) (sz - S.1) S.1, S.2.1, S.2.2.1, S.2.2.2)) (N := N) hS1 hS2) mX0_stands lX0_94 dX0_nextWord_55 kq2 (ltn rfl) (by omega) rfl rfl rfl rfl (ltn rfl) (Nat.le_of_ble_eq_true rfl) (Nat.le_of_ble_eq_true rfl) rfl ?_
  refine go_if_eq (pc' := 61) cx 63 dX0_nextWord_58 rfl rfl (fun c58 => ?_) (fun c58 => ?_)
  · refine go_iinc (pc' := 66) cx 10001 dX0_nextWord_63 rfl rfl (ltn rfl) [(1, .int 10001), (0, .ref (E.2.1 2))] rfl rfl ?_
    refine go_goto cx 43 dX0_nextWord_66 rfl ?_
    refine go_iload_n (pc' := 44) cx dX0_nextWord_43 rfl rfl ?_
    refine go_sipush (pc' := 47) cx 10011 dX0_nextWord_44 rfl rfl ?_
    refine go_icmp_gt (pc' := 50) cx 69 dX0_nextWord_47 rfl rfl (fun hh => absurd hh (by decide)) (fun _ => ?_)
    refine go_aload_n (pc' := 51) cx dX0_nextWord_50 rfl rfl ?_
    refine go_iload_n (pc' := 52) cx dX0_nextWord_51 rfl rfl ?_
    refine go_cSr (pc' := 55) cx (c_X0_spelling_1 l E (g := (stt g t (skL (g 3) (sz - S.1) S.1, S.2.1, S.2.2.1, S.2.2.2) N))) mX0_spelling lX0_90 dX0_nextWord_52 rfl rfl rfl (ltn rfl) (Nat.le_of_ble_eq_true rfl) (Nat.le_of_ble_eq_true rfl) rfl ?_
    refine go_cVi (pc' := 58) cx (c_X0_stands l E hn ht hsz hr hsz1 (i := 2) (ltn rfl) (S := (skL (g 3) (sz - S.1) S.1, S.2.1, S.2.2.1, S.2.2.2)) (N := N) hS1 hS2) mX0_stands lX0_94 dX0_nextWord_55 kq2 (ltn rfl) (by omega) rfl rfl rfl rfl (ltn rfl) (Nat.le_of_ble_eq_true rfl) (Nat.le_of_ble_eq_true rfl) rfl ?_
    refine go_if_eq (pc' := 61) cx 63 dX0_nextWord_58 rfl rfl (fun c58_2 => ?_) (fun c58_2 => ?_)
    · refine go_iinc (pc' := 66) cx 10002 dX0_nextWord_63 rfl rfl (ltn rfl) [(1, .int 10002), (0, .ref (E.2.1 2))] rfl rfl ?_
      refine go_goto cx 43 dX0_nextWord_66 rfl ?_
      refine go_iload_n (pc' := 44) cx dX0_nextWord_43 rfl rfl ?_
      refine go_sipush (pc' := 47) cx 10011 dX0_nextWord_44 rfl rfl ?_
      refine go_icmp_gt (pc' := 50) cx 69 dX0_nextWord_47 rfl rfl (fun hh => absurd hh (by decide)) (fun _ => ?_)
      refine go_aload_n (pc' := 51) cx dX0_nextWord_50 rfl rfl ?_
      refine go_iload_n (pc' := 52) cx dX0_nextWord_51 rfl rfl ?_
      refine go_cSr (pc' := 55) cx (c_X0_spelling_2 l E (g := (stt g t (skL (g 3) (sz - S.1) S.1, S.2.1, S.2.2.1, S.2.2.2) N))) mX0_spelling lX0_90 dX0_nextWord_52 rfl rfl rfl (ltn rfl) (Nat.le_of_ble_eq_true rfl) (Nat.le_of_ble_eq_true rfl) rfl ?_
      refine go_cVi (pc' := 58) cx (c_X0_stands l E hn ht hsz hr hsz1 (i := 3) (ltn rfl) (S := (skL (g 3) (sz - S.1) S.1, S.2.1, S.2.2.1, S.2.2.2)) (N := N) hS1 hS2) mX0_stands lX0_94 dX0_nextWord_55 kq2 (ltn rfl) (by omega) rfl rfl rfl rfl (ltn rfl) (Nat.le_of_ble_eq_true rfl) (Nat.le_of_ble_eq_true rfl) rfl ?_
      refine go_if_eq (pc' := 61) cx 63 dX0_nextWord_58 rfl rfl (fun c58_3 => ?_) (fun c58_3 => ?_)
      · refine go_iinc (pc' := 66) cx 10003 dX0_nextWord_63 rfl rfl (ltn rfl) [(1, .int 10003), (0, .ref (E.2.1 2))] rfl rfl ?_
        refine go_goto cx 43 dX0_nextWord_66 rfl ?_
        refine go_iload_n (pc' := 44) cx dX0_nextWord_43 rfl rfl ?_
        refine go_sipush (pc' := 47) cx 10011 dX0_nextWord_44 rfl rfl ?_
        refine go_icmp_gt (pc' := 50) cx 69 dX0_nextWord_47 rfl rfl (fun hh => absurd hh (by decide)) (fun _ => ?_)
        refine go_aload_n (pc' := 51) cx dX0_nextWord_50 rfl rfl ?_
        refine go_iload_n (pc' := 52) cx dX0_nextWord_51 rfl rfl ?_
        refine go_cSr (pc' := 55) cx (c_X0_spelling_3 l E (g := (stt g t (skL (g 3) (sz - S.1) S.1, S.2.1, S.2.2.1, S.2.2.2) N))) mX0_spelling lX0_90 dX0_nextWord_52 rfl rfl rfl (ltn rfl) (Nat.le_of_ble_eq_true rfl) (Nat.le_of_ble_eq_true rfl) rfl ?_
        refine go_cVi (pc' := 58) cx (c_X0_stands l E hn ht hsz hr hsz1 (i := 4) (ltn rfl) (S := (skL (g 3) (sz - S.1) S.1, S.2.1, S.2.2.1, S.2.2.2)) (N := N) hS1 hS2) mX0_stands lX0_94 dX0_nextWord_55 kq2 (ltn rfl) (by omega) rfl rfl rfl rfl (ltn rfl) (Nat.le_of_ble_eq_true rfl) (Nat.le_of_ble_eq_true rfl) rfl ?_
        refine go_if_eq (pc' := 61) cx 63 dX0_nextWord_58 rfl rfl (fun c58_4 => ?_) (fun c58_4 => ?_)
        · refine go_iinc (pc' := 66) cx 10004 dX0_nextWord_63 rfl rfl (ltn rfl) [(1, .int 10004), (0, .ref (E.2.1 2))] rfl rfl ?_
          refine go_goto cx 43 dX0_nextWord_66 rfl ?_
          refine go_iload_n (pc' := 44) cx dX0_nextWord_43 rfl rfl ?_
          refine go_sipush (pc' := 47) cx 10011 dX0_nextWord_44 rfl rfl ?_
          refine go_icmp_gt (pc' := 50) cx 69 dX0_nextWord_47 rfl rfl (fun hh => absurd hh (by decide)) (fun _ => ?_)
          refine go_aload_n (pc' := 51) cx dX0_nextWord_50 rfl rfl ?_
          refine go_iload_n (pc' := 52) cx dX0_nextWord_51 rfl rfl ?_
          refine go_cSr (pc' := 55) cx (c_X0_spelling_4 l E (g := (stt g t (skL (g 3) (sz - S.1) S.1, S.2.1, S.2.2.1, S.2.2.2) N))) mX0_spelling lX0_90 dX0_nextWord_52 rfl rfl rfl (ltn rfl) (Nat.le_of_ble_eq_true rfl) (Nat.le_of_ble_eq_true rfl) rfl ?_
          refine go_cVi (pc' := 58) cx (c_X0_stands l E hn ht hsz hr hsz1 (i := 5) (ltn rfl) (S := (skL (g 3) (sz - S.1) S.1, S.2.1, S.2.2.1, S.2.2.2)) (N := N) hS1 hS2) mX0_stands lX0_94 dX0_nextWord_55 kq2 (ltn rfl) (by omega) rfl rfl rfl rfl (ltn rfl) (Nat.le_of_ble_eq_true rfl) (Nat.le_of_ble_eq_true rfl) rfl ?_
          refine go_if_eq (pc' := 61) cx 63 dX0_nextWord_58 rfl rfl (fun c58_5 => ?_) (fun c58_5 => ?_)
          · refine go_iinc (pc' := 66) cx 10005 dX0_nextWord_63 rfl rfl (ltn rfl) [(1, .int 10005), (0, .ref (E.2.1 2))] rfl rfl ?_
            refine go_goto cx 43 dX0_nextWord_66 rfl ?_
            refine go_iload_n (pc' := 44) cx dX0_nextWord_43 rfl rfl ?_
            refine go_sipush (pc' := 47) cx 10011 dX0_nextWord_44 rfl rfl ?_
            refine go_icmp_gt (pc' := 50) cx 69 dX0_nextWord_47 rfl rfl (fun hh => absurd hh (by decide)) (fun _ => ?_)
            refine go_aload_n (pc' := 51) cx dX0_nextWord_50 rfl rfl ?_
            refine go_iload_n (pc' := 52) cx dX0_nextWord_51 rfl rfl ?_
            refine go_cSr (pc' := 55) cx (c_X0_spelling_5 l E (g := (stt g t (skL (g 3) (sz - S.1) S.1, S.2.1, S.2.2.1, S.2.2.2) N))) mX0_spelling lX0_90 dX0_nextWord_52 rfl rfl rfl (ltn rfl) (Nat.le_of_ble_eq_true rfl) (Nat.le_of_ble_eq_true rfl) rfl ?_
            refine go_cVi (pc' := 58) cx (c_X0_stands l E hn ht hsz hr hsz1 (i := 6) (ltn rfl) (S := (skL (g 3) (sz - S.1) S.1, S.2.1, S.2.2.1, S.2.2.2)) (N := N) hS1 hS2) mX0_stands lX0_94 dX0_nextWord_55 kq2 (ltn rfl) (by omega) rfl rfl rfl rfl (ltn rfl) (Nat.le_of_ble_eq_true rfl) (Nat.le_of_ble_eq_true rfl) rfl ?_
            refine go_if_eq (pc' := 61) cx 63 dX0_nextWord_58 rfl rfl (fun c58_6 => ?_) (fun c58_6 => ?_)
            · refine go_iinc (pc' := 66) cx 10006 dX0_nextWord_63 rfl rfl (ltn rfl) [(1, .int 10006), (0, .ref (E.2.1 2))] rfl rfl ?_
              refine go_goto cx 43 dX0_nextWord_66 rfl ?_
              refine go_iload_n (pc' := 44) cx dX0_nextWord_43 rfl rfl ?_
              refine go_sipush (pc' := 47) cx 10011 dX0_nextWord_44 rfl rfl ?_
              refine go_icmp_gt (pc' := 50) cx 69 dX0_nextWord_47 rfl rfl (fun hh => absurd hh (by decide)) (fun _ => ?_)
              refine go_aload_n (pc' := 51) cx dX0_nextWord_50 rfl rfl ?_
              refine go_iload_n (pc' := 52) cx dX0_nextWord_51 rfl rfl ?_
              refine go_cSr (pc' := 55) cx (c_X0_spelling_6 l E (g := (stt g t (skL (g 3) (sz - S.1) S.1, S.2.1, S.2.2.1, S.2.2.2) N))) mX0_spelling lX0_90 dX0_nextWord_52 rfl rfl rfl (ltn rfl) (Nat.le_of_ble_eq_true rfl) (Nat.le_of_ble_eq_true rfl) rfl ?_
              refine go_cVi (pc' := 58) cx (c_X0_stands l E hn ht hsz hr hsz1 (i := 7) (ltn rfl) (S := (skL (g 3) (sz - S.1) S.1, S.2.1, S.2.2.1, S.2.2.2)) (N := N) hS1 hS2) mX0_stands lX0_94 dX0_nextWord_55 kq2 (ltn rfl) (by omega) rfl rfl rfl rfl (ltn rfl) (Nat.le_of_ble_eq_true rfl) (Nat.le_of_ble_eq_true rfl) rfl ?_
              refine go_if_eq (pc' := 61) cx 63 dX0_nextWord_58 rfl rfl (fun c58_7 => ?_) (fun c58_7 => ?_)
              · refine go_iinc (pc' := 66) cx 10007 dX0_nextWord_63 rfl rfl (ltn rfl) [(1, .int 10007), (0, .ref (E.2.1 2))] rfl rfl ?_
                refine go_goto cx 43 dX0_nextWord_66 rfl ?_
                refine go_iload_n (pc' := 44) cx dX0_nextWord_43 rfl rfl ?_
                refine go_sipush (pc' := 47) cx 10011 dX0_nextWord_44 rfl rfl ?_
                refine go_icmp_gt (pc' := 50) cx 69 dX0_nextWord_47 rfl rfl (fun hh => absurd hh (by decide)) (fun _ => ?_)
                refine go_aload_n (pc' := 51) cx dX0_nextWord_50 rfl rfl ?_
                refine go_iload_n (pc' := 52) cx dX0_nextWord_51 rfl rfl ?_
                refine go_cSr (pc' := 55) cx (c_X0_spelling_7 l E (g := (stt g t (skL (g 3) (sz - S.1) S.1, S.2.1, S.2.2.1, S.2.2.2) N))) mX0_spelling lX0_90 dX0_nextWord_52 rfl rfl rfl (ltn rfl) (Nat.le_of_ble_eq_true rfl) (Nat.le_of_ble_eq_true rfl) rfl ?_
                refine go_cVi (pc' := 58) cx (c_X0_stands l E hn ht hsz hr hsz1 (i := 8) (ltn rfl) (S := (skL (g 3) (sz - S.1) S.1, S.2.1, S.2.2.1, S.2.2.2)) (N := N) hS1 hS2) mX0_stands lX0_94 dX0_nextWord_55 kq2 (ltn rfl) (by omega) rfl rfl rfl rfl (ltn rfl) (Nat.le_of_ble_eq_true rfl) (Nat.le_of_ble_eq_true rfl) rfl ?_
                refine go_if_eq (pc' := 61) cx 63 dX0_nextWord_58 rfl rfl (fun c58_8 => ?_) (fun c58_8 => ?_)
                · refine go_iinc (pc' := 66) cx 10008 dX0_nextWord_63 rfl rfl (ltn rfl) [(1, .int 10008), (0, .ref (E.2.1 2))] rfl rfl ?_
                  refine go_goto cx 43 dX0_nextWord_66 rfl ?_
                  refine go_iload_n (pc' := 44) cx dX0_nextWord_43 rfl rfl ?_
                  refine go_sipush (pc' := 47) cx 10011 dX0_nextWord_44 rfl rfl ?_
                  refine go_icmp_gt (pc' := 50) cx 69 dX0_nextWord_47 rfl rfl (fun hh => absurd hh (by decide)) (fun _ => ?_)
                  refine go_aload_n (pc' := 51) cx dX0_nextWord_50 rfl rfl ?_
                  refine go_iload_n (pc' := 52) cx dX0_nextWord_51 rfl rfl ?_
                  refine go_cSr (pc' := 55) cx (c_X0_spelling_8 l E (g := (stt g t (skL (g 3) (sz - S.1) S.1, S.2.1, S.2.2.1, S.2.2.2) N))) mX0_spelling lX0_90 dX0_nextWord_52 rfl rfl rfl (ltn rfl) (Nat.le_of_ble_eq_true rfl) (Nat.le_of_ble_eq_true rfl) rfl ?_
                  refine go_cVi (pc' := 58) cx (c_X0_stands l E hn ht hsz hr hsz1 (i := 9) (ltn rfl) (S := (skL (g 3) (sz - S.1) S.1, S.2.1, S.2.2.1, S.2.2.2)) (N := N) hS1 hS2) mX0_stands lX0_94 dX0_nextWord_55 kq2 (ltn rfl) (by omega) rfl rfl rfl rfl (ltn rfl) (Nat.le_of_ble_eq_true rfl) (Nat.le_of_ble_eq_true rfl) rfl ?_
                  refine go_if_eq (pc' := 61) cx 63 dX0_nextWord_58 rfl rfl (fun c58_9 => ?_) (fun c58_9 => ?_)
                  · refine go_iinc (pc' := 66) cx 10009 dX0_nextWord_63 rfl rfl (ltn rfl) [(1, .int 10009), (0, .ref (E.2.1 2))] rfl rfl ?_
                    refine go_goto cx 43 dX0_nextWord_66 rfl ?_
                    refine go_iload_n (pc' := 44) cx dX0_nextWord_43 rfl rfl ?_
                    refine go_sipush (pc' := 47) cx 10011 dX0_nextWord_44 rfl rfl ?_
                    refine go_icmp_gt (pc' := 50) cx 69 dX0_nextWord_47 rfl rfl (fun hh => absurd hh (by decide)) (fun _ => ?_)
                    refine go_aload_n (pc' := 51) cx dX0_nextWord_50 rfl rfl ?_
                    refine go_iload_n (pc' := 52) cx dX0_nextWord_51 rfl rfl ?_
                    refine go_cSr (pc' := 55) cx (c_X0_spelling_9 l E (g := (stt g t (skL (g 3) (sz - S.1) S.1, S.2.1, S.2.2.1, S.2.2.2) N))) mX0_spelling lX0_90 dX0_nextWord_52 rfl rfl rfl (ltn rfl) (Nat.le_of_ble_eq_true rfl) (Nat.le_of_ble_eq_true rfl) rfl ?_
                    refine go_cVi (pc' := 58) cx (c_X0_stands l E hn ht hsz hr hsz1 (i := 10) (ltn rfl) (S := (skL (g 3) (sz - S.1) S.1, S.2.1, S.2.2.1, S.2.2.2)) (N := N) hS1 hS2) mX0_stands lX0_94 dX0_nextWord_55 kq2 (ltn rfl) (by omega) rfl rfl rfl rfl (ltn rfl) (Nat.le_of_ble_eq_true rfl) (Nat.le_of_ble_eq_true rfl) rfl ?_
                    refine go_if_eq (pc' := 61) cx 63 dX0_nextWord_58 rfl rfl (fun c58_10 => ?_) (fun c58_10 => ?_)
                    · refine go_iinc (pc' := 66) cx 10010 dX0_nextWord_63 rfl rfl (ltn rfl) [(1, .int 10010), (0, .ref (E.2.1 2))] rfl rfl ?_
                      refine go_goto cx 43 dX0_nextWord_66 rfl ?_
                      refine go_iload_n (pc' := 44) cx dX0_nextWord_43 rfl rfl ?_
                      refine go_sipush (pc' := 47) cx 10011 dX0_nextWord_44 rfl rfl ?_
                      refine go_icmp_gt (pc' := 50) cx 69 dX0_nextWord_47 rfl rfl (fun hh => absurd hh (by decide)) (fun _ => ?_)
                      refine go_aload_n (pc' := 51) cx dX0_nextWord_50 rfl rfl ?_
                      refine go_iload_n (pc' := 52) cx dX0_nextWord_51 rfl rfl ?_
                      refine go_cSr (pc' := 55) cx (c_X0_spelling_10 l E (g := (stt g t (skL (g 3) (sz - S.1) S.1, S.2.1, S.2.2.1, S.2.2.2) N))) mX0_spelling lX0_90 dX0_nextWord_52 rfl rfl rfl (ltn rfl) (Nat.le_of_ble_eq_true rfl) (Nat.le_of_ble_eq_true rfl) rfl ?_
                      refine go_cVi (pc' := 58) cx (c_X0_stands l E hn ht hsz hr hsz1 (i := 11) (ltn rfl) (S := (skL (g 3) (sz - S.1) S.1, S.2.1, S.2.2.1, S.2.2.2)) (N := N) hS1 hS2) mX0_stands lX0_94 dX0_nextWord_55 kq2 (ltn rfl) (by omega) rfl rfl rfl rfl (ltn rfl) (Nat.le_of_ble_eq_true rfl) (Nat.le_of_ble_eq_true rfl) rfl ?_
                      refine go_if_eq (pc' := 61) cx 63 dX0_nextWord_58 rfl rfl (fun c58_11 => ?_) (fun c58_11 => ?_)
                      · refine go_iinc (pc' := 66) cx 10011 dX0_nextWord_63 rfl rfl (ltn rfl) [(1, .int 10011), (0, .ref (E.2.1 2))] rfl rfl ?_
                        refine go_goto cx 43 dX0_nextWord_66 rfl ?_
                        refine go_iload_n (pc' := 44) cx dX0_nextWord_43 rfl rfl ?_
                        refine go_sipush (pc' := 47) cx 10011 dX0_nextWord_44 rfl rfl ?_
                        refine go_icmp_gt (pc' := 50) cx 69 dX0_nextWord_47 rfl rfl (fun hh => absurd hh (by decide)) (fun _ => ?_)
                        refine go_aload_n (pc' := 51) cx dX0_nextWord_50 rfl rfl ?_
                        refine go_iload_n (pc' := 52) cx dX0_nextWord_51 rfl rfl ?_
                        refine go_cSr (pc' := 55) cx (c_X0_spelling_11 l E (g := (stt g t (skL (g 3) (sz - S.1) S.1, S.2.1, S.2.2.1, S.2.2.2) N))) mX0_spelling lX0_90 dX0_nextWord_52 rfl rfl rfl (ltn rfl) (Nat.le_of_ble_eq_true rfl) (Nat.le_of_ble_eq_true rfl) rfl ?_
                        refine go_cVi (pc' := 58) cx (c_X0_stands l E hn ht hsz hr hsz1 (i := 12) (ltn rfl) (S := (skL (g 3) (sz - S.1) S.1, S.2.1, S.2.2.1, S.2.2.2)) (N := N) hS1 hS2) mX0_stands lX0_94 dX0_nextWord_55 kq2 (ltn rfl) (by omega) rfl rfl rfl rfl (ltn rfl) (Nat.le_of_ble_eq_true rfl) (Nat.le_of_ble_eq_true rfl) rfl ?_
                        refine go_if_eq (pc' := 61) cx 63 dX0_nextWord_58 rfl rfl (fun c58_12 => ?_) (fun c58_12 => ?_)
                        · refine go_iinc (pc' := 66) cx 10012 dX0_nextWord_63 rfl rfl (ltn rfl) [(1, .int 10012), (0, .ref (E.2.1 2))] rfl rfl ?_
                          refine go_goto cx 43 dX0_nextWord_66 rfl ?_
                          refine go_iload_n (pc' := 44) cx dX0_nextWord_43 rfl rfl ?_
                          refine go_sipush (pc' := 47) cx 10011 dX0_nextWord_44 rfl rfl ?_
                          refine go_icmp_gt (pc' := 50) cx 69 dX0_nextWord_47 rfl rfl (fun _ => ?_) (fun hh => absurd hh (by decide))
                          refine go_sipush (pc' := 72) cx 10022 dX0_nextWord_69 rfl rfl ?_
                          refine go_iret cx rfl dX0_nextWord_72 ?_
                          exact Zi.mk (by simp only [wcL, c58, c58_2, c58_3, c58_4, c58_5, c58_6, c58_7, c58_8, c58_9, c58_10, c58_11, c58_12, if_true, if_false]) rfl
                        · refine go_iload_n (pc' := 62) cx dX0_nextWord_61 rfl rfl ?_
                          refine go_iret cx rfl dX0_nextWord_62 ?_
                          exact Zi.mk (by simp only [wcL, c58, c58_2, c58_3, c58_4, c58_5, c58_6, c58_7, c58_8, c58_9, c58_10, c58_11, c58_12, if_true, if_false]; rfl) rfl
                      · refine go_iload_n (pc' := 62) cx dX0_nextWord_61 rfl rfl ?_
                        refine go_iret cx rfl dX0_nextWord_62 ?_
                        exact Zi.mk (by simp only [wcL, c58, c58_2, c58_3, c58_4, c58_5, c58_6, c58_7, c58_8, c58_9, c58_10, c58_11, if_true, if_false]; rfl) rfl
                    · refine go_iload_n (pc' := 62) cx dX0_nextWord_61 rfl rfl ?_
                      refine go_iret cx rfl dX0_nextWord_62 ?_
                      exact Zi.mk (by simp only [wcL, c58, c58_2, c58_3, c58_4, c58_5, c58_6, c58_7, c58_8, c58_9, c58_10, if_true, if_false]; rfl) rfl
                  · refine go_iload_n (pc' := 62) cx dX0_nextWord_61 rfl rfl ?_
                    refine go_iret cx rfl dX0_nextWord_62 ?_
                    exact Zi.mk (by simp only [wcL, c58, c58_2, c58_3, c58_4, c58_5, c58_6, c58_7, c58_8, c58_9, if_true, if_false]; rfl) rfl
                · refine go_iload_n (pc' := 62) cx dX0_nextWord_61 rfl rfl ?_
                  refine go_iret cx rfl dX0_nextWord_62 ?_
                  exact Zi.mk (by simp only [wcL, c58, c58_2, c58_3, c58_4, c58_5, c58_6, c58_7, c58_8, if_true, if_false]; rfl) rfl
              · refine go_iload_n (pc' := 62) cx dX0_nextWord_61 rfl rfl ?_
                refine go_iret cx rfl dX0_nextWord_62 ?_
                exact Zi.mk (by simp only [wcL, c58, c58_2, c58_3, c58_4, c58_5, c58_6, c58_7, if_true, if_false]; rfl) rfl
            · refine go_iload_n (pc' := 62) cx dX0_nextWord_61 rfl rfl ?_
              refine go_iret cx rfl dX0_nextWord_62 ?_
              exact Zi.mk (by simp only [wcL, c58, c58_2, c58_3, c58_4, c58_5, c58_6, if_true, if_false]; rfl) rfl
          · refine go_iload_n (pc' := 62) cx dX0_nextWord_61 rfl rfl ?_
            refine go_iret cx rfl dX0_nextWord_62 ?_
            exact Zi.mk (by simp only [wcL, c58, c58_2, c58_3, c58_4, c58_5, if_true, if_false]; rfl) rfl
        · refine go_iload_n (pc' := 62) cx dX0_nextWord_61 rfl rfl ?_
          refine go_iret cx rfl dX0_nextWord_62 ?_
          exact Zi.mk (by simp only [wcL, c58, c58_2, c58_3, c58_4, if_true, if_false]; rfl) rfl
      · refine go_iload_n (pc' := 62) cx dX0_nextWord_61 rfl rfl ?_
        refine go_iret cx rfl dX0_nextWord_62 ?_
        exact Zi.mk (by simp only [wcL, c58, c58_2, c58_3, if_true, if_false]; rfl) rfl
    · refine go_iload_n (pc' := 62) cx dX0_nextWord_61 rfl rfl ?_
      refine go_iret cx rfl dX0_nextWord_62 ?_
      exact Zi.mk (by simp only [wcL, c58, c58_2, if_true, if_false]; rfl) rfl
  · refine go_iload_n (pc' := 62) cx dX0_nextWord_61 rfl rfl ?_
    refine go_iret cx rfl dX0_nextWord_62 ?_
    exact Zi.mk (by simp only [wcL, c58, if_true, if_false]; rfl) rfl

set_option maxHeartbeats 4000000 in
set_option maxRecDepth 20000 in
theorem num_loop {l : Launch} {E : Ev} {Z : ZT} {n : Nat} {g : IG} {r : RG} {z : Int64} {p : Program} {e : Env} {s : State} {m : MethodId} {args : Array Value} {below : List Frame} {meth : Method} {c : Code} {t sz : Nat} (hn : 37 ≤ n) (ht : t < 6) (hsz : sz ≤ 160) (hr : RdR r t) (hsz1 : g 2 1 = nI sz) {S : PS} {N : SK} (cx : Cx p s m args meth c E n cX0_nextNumber 2 yX0_nextNumber.cls (some .int)) : ∀ (k a : Nat) (v : Int32), a + k = max a sz → a ≤ 160 → (Go p l e (rmd 2) s m args below meth c E n 2 Z (stt g t ((nmF (g 3) k a v).1, S.2.1, S.2.2.1, S.2.2.2) N) r z 59 [(1, .int (nmF (g 3) k a v).2), (0, .ref (E.2.1 2))] []) → Go p l e (rmd 2) s m args below meth c E n 2 Z (stt g t (a, S.2.1, S.2.2.1, S.2.2.2) N) r z 2 [(1, .int v), (0, .ref (E.2.1 2))] [] := by
  intro k
  induction k with
  | zero =>
    intro a v hk ha kk
    refine go_aload_n (pc' := 3) cx dX0_nextNumber_2 rfl rfl ?_
    refine go_geti (pc' := 6) cx (nI a) fX0_26 dX0_nextNumber_3 kq2 (by omega) (ltn rfl) rfl stt_22 rfl ?_
    refine go_aload_n (pc' := 7) cx dX0_nextNumber_6 rfl rfl ?_
    refine go_geti (pc' := 10) cx (nI sz) fX0_15 dX0_nextNumber_7 kq2 (by omega) (ltn rfl) rfl (stt_21.trans hsz1) rfl ?_
    refine go_icmp_ge (pc' := 13) cx 59 dX0_nextNumber_10 rfl rfl (fun _ => ?_) (fun hh => absurd ((nI_leI (a := sz) (b := a) (by omega) (by omega)).mpr (by omega)) hh)
    exact kk
  | succ k ih =>
    intro a v hk ha kk
    refine go_aload_n (pc' := 3) cx dX0_nextNumber_2 rfl rfl ?_
    refine go_geti (pc' := 6) cx (nI a) fX0_26 dX0_nextNumber_3 kq2 (by omega) (ltn rfl) rfl stt_22 rfl ?_
    refine go_aload_n (pc' := 7) cx dX0_nextNumber_6 rfl rfl ?_
    refine go_geti (pc' := 10) cx (nI sz) fX0_15 dX0_nextNumber_7 kq2 (by omega) (ltn rfl) rfl (stt_21.trans hsz1) rfl ?_
    refine go_icmp_ge (pc' := 13) cx 59 dX0_nextNumber_10 rfl rfl (fun hh => absurd ((nI_leI (a := sz) (b := a) (by omega) (by omega)).mp hh) (by omega)) (fun _ => ?_)
    refine go_aload_n (pc' := 14) cx dX0_nextNumber_13 rfl rfl ?_
    refine go_getr (pc' := 17) cx 3 fX0_9 dX0_nextNumber_14 kq2 (by omega) (ltn rfl) rfl hr.1 rfl ?_
    refine go_aload_n (pc' := 18) cx dX0_nextNumber_17 rfl rfl ?_
    refine go_geti (pc' := 21) cx (nI a) fX0_26 dX0_nextNumber_18 kq2 (by omega) (ltn rfl) rfl stt_22 rfl ?_
    refine go_iald (pc' := 22) cx (g 3 a) dX0_nextNumber_21 kq3 (by omega) (vpi (k := a) (a := 160) (by omega) rfl rfl) ((congrArg ((stt g t (a, S.2.1, S.2.2.1, S.2.2.2) N) 3) (cli (k := a) (a := 160) (by omega) rfl)).trans (stt_3 _)) rfl ?_
    refine go_cSi (pc' := 25) cx (c_X0_isDigit l E (g := (stt g t (a, S.2.1, S.2.2.1, S.2.2.2) N)) (g 3 a)) mX0_isDigit lX0_80 dX0_nextNumber_22 rfl rfl rfl (ltn rfl) (Nat.le_of_ble_eq_true rfl) (Nat.le_of_ble_eq_true rfl) rfl ?_
    refine go_if_eq (pc' := 28) cx 59 dX0_nextNumber_25 rfl rfl (fun c25 => ?_) (fun c25 => ?_)
    · have h9 : nmF (g 3) (k + 1) a v = (a, v) := if_pos c25
      rw [h9] at kk
      exact kk
    · refine go_bipush (pc' := 30) cx 10 dX0_nextNumber_28 rfl rfl ?_
      refine go_iload_n (pc' := 31) cx dX0_nextNumber_30 rfl rfl ?_
      refine go_imul (pc' := 32) cx dX0_nextNumber_31 rfl ?_
      refine go_aload_n (pc' := 33) cx dX0_nextNumber_32 rfl rfl ?_
      refine go_getr (pc' := 36) cx 3 fX0_9 dX0_nextNumber_33 kq2 (by omega) (ltn rfl) rfl hr.1 rfl ?_
      refine go_aload_n (pc' := 37) cx dX0_nextNumber_36 rfl rfl ?_
      refine go_geti (pc' := 40) cx (nI a) fX0_26 dX0_nextNumber_37 kq2 (by omega) (ltn rfl) rfl stt_22 rfl ?_
      refine go_iald (pc' := 41) cx (g 3 a) dX0_nextNumber_40 kq3 (by omega) (vpi (k := a) (a := 160) (by omega) rfl rfl) ((congrArg ((stt g t (a, S.2.1, S.2.2.1, S.2.2.2) N) 3) (cli (k := a) (a := 160) (by omega) rfl)).trans (stt_3 _)) rfl ?_
      refine go_iadd (pc' := 42) cx dX0_nextNumber_41 rfl ?_
      refine go_bipush (pc' := 44) cx 48 dX0_nextNumber_42 rfl rfl ?_
      refine go_isub (pc' := 45) cx dX0_nextNumber_44 rfl ?_
      refine go_name (fun x_1 ex_1 => ?_)
      refine go_istore_n (pc' := 46) cx dX0_nextNumber_45 (ltn rfl) [(1, .int x_1), (0, .ref (E.2.1 2))] rfl rfl ?_
      refine go_aload_n (pc' := 47) cx dX0_nextNumber_46 rfl rfl ?_
      refine go_dup (pc' := 48) cx rfl dX0_nextNumber_47 rfl ?_
      refine go_geti (pc' := 51) cx (nI a) fX0_26 dX0_nextNumber_48 kq2 (by omega) (ltn rfl) rfl stt_22 rfl ?_
      refine go_iconst (pc' := 52) cx 1 dX0_nextNumber_51 rfl rfl ?_
      refine go_iadd (pc' := 53) cx dX0_nextNumber_52 rfl ?_
      refine go_val (w := .int (nI (a + 1))) (congrArg Value.int (nI_add a 1)) ?_
      refine go_puti (pc' := 56) cx fX0_26 dX0_nextNumber_53 kq2 (by omega) (ltn rfl) rfl rfl rfl rfl ?_
      refine go_g (stt_w2 (g := g) (t := t) (S := (a, S.2.1, S.2.2.1, S.2.2.2)) (N := N) (a + 1)) ?_
      refine go_goto cx 2 dX0_nextNumber_56 rfl ?_
      have h9 : nmF (g 3) (k + 1) a v = nmF (g 3) k (a + 1) (10 * v + g 3 a - 48) := if_neg c25
      rw [h9] at kk
      subst ex_1
      exact ih (a + 1) _ (by omega) (by omega) kk

set_option maxHeartbeats 4000000 in
set_option maxRecDepth 20000 in
theorem c_X0_nextNumber (l : Launch) (E : Ev) {n : Nat} {g : IG} {r : RG} {z : Int64} {t sz : Nat} (hn : 37 ≤ n) (ht : t < 6) (hsz : sz ≤ 160) (hr : RdR r t) (hsz1 : g 2 1 = nI sz) {S : PS} {N : SK} (hS : S.2.1 ≤ S.1) (hS0 : S.1 ≤ 160) : Ct l E n yX0_nextNumber cX0_nextNumber 2 (some .int) 2 [.ref (E.2.1 2)] (stt g t S N) r z (Zi r z (if (nmF (g 3) (sz - S.1) S.1 0).1 - S.2.1 ≤ 4 then (nmF (g 3) (sz - S.1) S.1 0).2 else 10022) (stt g t ((nmF (g 3) (sz - S.1) S.1 0).1, S.2.1, S.2.2.1, S.2.2.2) N)) := by
  refine Ct.of (lv0 := [(0, .ref (E.2.1 2))]) (by decide) (Nat.le_of_ble_eq_true rfl) rfl ?_
  intro p e s m below meth c cx
  refine go_iconst (pc' := 1) cx 0 dX0_nextNumber_0 rfl rfl ?_
  refine go_istore_n (pc' := 2) cx dX0_nextNumber_1 (ltn rfl) [(1, .int 0), (0, .ref (E.2.1 2))] rfl rfl ?_
  have hS1 : S.2.1 ≤ (nmF (g 3) (sz - S.1) S.1 0).1 := Nat.le_trans hS (nmF_le _ _ _).1
  have hS2 : (nmF (g 3) (sz - S.1) S.1 0).1 ≤ 160 := by
    have := (nmF_le (T := g 3) (sz - S.1) S.1 0).2
    omega
  refine num_loop hn ht hsz hr hsz1 (S := S) cx (sz - S.1) S.1 0 (by omega) hS0 ?_
  refine go_aload_n (pc' := 60) cx dX0_nextNumber_59 rfl rfl ?_
  refine go_geti (pc' := 63) cx (nI ((nmF (g 3) (sz - S.1) S.1 0).1)) fX0_26 dX0_nextNumber_60 kq2 (by omega) (ltn rfl) rfl stt_22 rfl ?_
  refine go_aload_n (pc' := 64) cx dX0_nextNumber_63 rfl rfl ?_
  refine go_geti (pc' := 67) cx (nI S.2.1) fX0_45 dX0_nextNumber_64 kq2 (by omega) (ltn rfl) rfl stt_23 rfl ?_
  refine go_isub (pc' := 68) cx dX0_nextNumber_67 rfl ?_
  refine go_val (w := .int (nI ((nmF (g 3) (sz - S.1) S.1 0).1 - S.2.1))) (congrArg Value.int (pk_sub (a := (nmF (g 3) (sz - S.1) S.1 0).1) (b := S.2.1) (by omega))) ?_
  refine go_iconst (pc' := 69) cx 4 dX0_nextNumber_68 rfl rfl ?_
  refine go_icmp_le (pc' := 72) cx 78 dX0_nextNumber_69 rfl rfl (fun c69 => ?_) (fun c69 => ?_)
  · have c69 := (nI_leI (a := ((nmF (g 3) (sz - S.1) S.1 0).1 - S.2.1)) (b := 4) (by omega) (by omega)).mp c69
    refine go_iload_n (pc' := 79) cx dX0_nextNumber_78 rfl rfl ?_
    refine go_iret cx rfl dX0_nextNumber_79 ?_
    exact Zi.mk (by rw [if_pos c69]) rfl
  · have c69 : ¬ ((nmF (g 3) (sz - S.1) S.1 0).1 - S.2.1) ≤ 4 := fun q9 => c69 ((nI_leI (a := ((nmF (g 3) (sz - S.1) S.1 0).1 - S.2.1)) (b := 4) (by omega) (by omega)).mpr q9)
    refine go_sipush (pc' := 75) cx 10022 dX0_nextNumber_72 rfl rfl ?_
    refine go_goto cx 79 dX0_nextNumber_75 rfl ?_
    refine go_iret cx rfl dX0_nextNumber_79 ?_
    exact Zi.mk (by rw [if_neg c69]) rfl

set_option maxHeartbeats 4000000 in
set_option maxRecDepth 20000 in
theorem adv_loop {l : Launch} {E : Ev} {Z : ZT} {n : Nat} {g : IG} {r : RG} {z : Int64} {p : Program} {e : Env} {s : State} {m : MethodId} {args : Array Value} {below : List Frame} {meth : Method} {c : Code} {t sz : Nat} (hn : 37 ≤ n) (ht : t < 6) (hsz : sz ≤ 160) (hr : RdR r t) (hsz1 : g 2 1 = nI sz) {S : PS} {N : SK} (cx : Cx p s m args meth c E n cX0_advance 1 yX0_advance.cls none) : ∀ (k a : Nat), a + k = max a sz → a ≤ 160 → (Go p l e (rmd 7) s m args below meth c E n 1 Z (stt g t (skB (g 3) k a, S.2.1, S.2.2.1, S.2.2.2) N) r z 52 [(0, .ref (E.2.1 2))] []) → Go p l e (rmd 7) s m args below meth c E n 1 Z (stt g t (a, S.2.1, S.2.2.1, S.2.2.2) N) r z 0 [(0, .ref (E.2.1 2))] [] := by
  intro k
  induction k with
  | zero =>
    intro a hk ha kk
    refine go_aload_n (pc' := 1) cx dX0_advance_0 rfl rfl ?_
    refine go_geti (pc' := 4) cx (nI a) fX0_26 dX0_advance_1 kq2 (by omega) (ltn rfl) rfl stt_22 rfl ?_
    refine go_aload_n (pc' := 5) cx dX0_advance_4 rfl rfl ?_
    refine go_geti (pc' := 8) cx (nI sz) fX0_15 dX0_advance_5 kq2 (by omega) (ltn rfl) rfl (stt_21.trans hsz1) rfl ?_
    refine go_icmp_ge (pc' := 11) cx 52 dX0_advance_8 rfl rfl (fun _ => ?_) (fun hh => absurd ((nI_leI (a := sz) (b := a) (by omega) (by omega)).mpr (by omega)) hh)
    exact kk
  | succ k ih =>
    intro a hk ha kk
    refine go_aload_n (pc' := 1) cx dX0_advance_0 rfl rfl ?_
    refine go_geti (pc' := 4) cx (nI a) fX0_26 dX0_advance_1 kq2 (by omega) (ltn rfl) rfl stt_22 rfl ?_
    refine go_aload_n (pc' := 5) cx dX0_advance_4 rfl rfl ?_
    refine go_geti (pc' := 8) cx (nI sz) fX0_15 dX0_advance_5 kq2 (by omega) (ltn rfl) rfl (stt_21.trans hsz1) rfl ?_
    refine go_icmp_ge (pc' := 11) cx 52 dX0_advance_8 rfl rfl (fun hh => absurd ((nI_leI (a := sz) (b := a) (by omega) (by omega)).mp hh) (by omega)) (fun _ => ?_)
    refine go_aload_n (pc' := 12) cx dX0_advance_11 rfl rfl ?_
    refine go_getr (pc' := 15) cx 3 fX0_9 dX0_advance_12 kq2 (by omega) (ltn rfl) rfl hr.1 rfl ?_
    refine go_aload_n (pc' := 16) cx dX0_advance_15 rfl rfl ?_
    refine go_geti (pc' := 19) cx (nI a) fX0_26 dX0_advance_16 kq2 (by omega) (ltn rfl) rfl stt_22 rfl ?_
    refine go_iald (pc' := 20) cx (g 3 a) dX0_advance_19 kq3 (by omega) (vpi (k := a) (a := 160) (by omega) rfl rfl) ((congrArg ((stt g t (a, S.2.1, S.2.2.1, S.2.2.2) N) 3) (cli (k := a) (a := 160) (by omega) rfl)).trans (stt_3 _)) rfl ?_
    refine go_bipush (pc' := 22) cx 32 dX0_advance_20 rfl rfl ?_
    refine go_icmp_eq (pc' := 25) cx 39 dX0_advance_22 rfl rfl (fun c22 => ?_) (fun c22 => ?_)
    · refine go_aload_n (pc' := 40) cx dX0_advance_39 rfl rfl ?_
      refine go_dup (pc' := 41) cx rfl dX0_advance_40 rfl ?_
      refine go_geti (pc' := 44) cx (nI a) fX0_26 dX0_advance_41 kq2 (by omega) (ltn rfl) rfl stt_22 rfl ?_
      refine go_iconst (pc' := 45) cx 1 dX0_advance_44 rfl rfl ?_
      refine go_iadd (pc' := 46) cx dX0_advance_45 rfl ?_
      refine go_val (w := .int (nI (a + 1))) (congrArg Value.int (nI_add a 1)) ?_
      refine go_puti (pc' := 49) cx fX0_26 dX0_advance_46 kq2 (by omega) (ltn rfl) rfl rfl rfl rfl ?_
      refine go_g (stt_w2 (g := g) (t := t) (S := (a, S.2.1, S.2.2.1, S.2.2.2)) (N := N) (a + 1)) ?_
      refine go_goto cx 0 dX0_advance_49 rfl ?_
      have h9 : skB (g 3) (k + 1) a = skB (g 3) k (a + 1) := if_pos c22
      rw [h9] at kk
      exact ih (a + 1) (by omega) (by omega) kk
    · refine go_aload_n (pc' := 26) cx dX0_advance_25 rfl rfl ?_
      refine go_getr (pc' := 29) cx 3 fX0_9 dX0_advance_26 kq2 (by omega) (ltn rfl) rfl hr.1 rfl ?_
      refine go_aload_n (pc' := 30) cx dX0_advance_29 rfl rfl ?_
      refine go_geti (pc' := 33) cx (nI a) fX0_26 dX0_advance_30 kq2 (by omega) (ltn rfl) rfl stt_22 rfl ?_
      refine go_iald (pc' := 34) cx (g 3 a) dX0_advance_33 kq3 (by omega) (vpi (k := a) (a := 160) (by omega) rfl rfl) ((congrArg ((stt g t (a, S.2.1, S.2.2.1, S.2.2.2) N) 3) (cli (k := a) (a := 160) (by omega) rfl)).trans (stt_3 _)) rfl ?_
      refine go_bipush (pc' := 36) cx 10 dX0_advance_34 rfl rfl ?_
      refine go_icmp_ne (pc' := 39) cx 52 dX0_advance_36 rfl rfl (fun c36 => ?_) (fun c36 => ?_)
      · have h9 : skB (g 3) (k + 1) a = a := (if_neg c22).trans (if_neg c36)
        rw [h9] at kk
        exact kk
      · refine go_aload_n (pc' := 40) cx dX0_advance_39 rfl rfl ?_
        refine go_dup (pc' := 41) cx rfl dX0_advance_40 rfl ?_
        refine go_geti (pc' := 44) cx (nI a) fX0_26 dX0_advance_41 kq2 (by omega) (ltn rfl) rfl stt_22 rfl ?_
        refine go_iconst (pc' := 45) cx 1 dX0_advance_44 rfl rfl ?_
        refine go_iadd (pc' := 46) cx dX0_advance_45 rfl ?_
        refine go_val (w := .int (nI (a + 1))) (congrArg Value.int (nI_add a 1)) ?_
        refine go_puti (pc' := 49) cx fX0_26 dX0_advance_46 kq2 (by omega) (ltn rfl) rfl rfl rfl rfl ?_
        refine go_g (stt_w2 (g := g) (t := t) (S := (a, S.2.1, S.2.2.1, S.2.2.2)) (N := N) (a + 1)) ?_
        refine go_goto cx 0 dX0_advance_49 rfl ?_
        have h9 : skB (g 3) (k + 1) a = skB (g 3) k (a + 1) := (if_neg c22).trans (if_pos c36)
        rw [h9] at kk
        exact ih (a + 1) (by omega) (by omega) kk

set_option maxHeartbeats 4000000 in
set_option maxRecDepth 20000 in
theorem c_X0_advance (l : Launch) (E : Ev) {n : Nat} {g : IG} {r : RG} {z : Int64} {t sz : Nat} (hn : 37 ≤ n) (ht : t < 6) (hsz : sz ≤ 160) (hr : RdR r t) (hsz1 : g 2 1 = nI sz) {S : PS} {N : SK} (hS0 : S.1 ≤ 160) : Ct l E n yX0_advance cX0_advance 1 none 7 [.ref (E.2.1 2)] (stt g t S N) r z (Zu r z (stt g t (advS (g 3) sz S) N)) := by
  refine Ct.of (lv0 := [(0, .ref (E.2.1 2))]) (by decide) (Nat.le_of_ble_eq_true rfl) rfl ?_
  intro p e s m below meth c cx
  refine adv_loop hn ht hsz hr hsz1 (S := S) cx (sz - S.1) S.1 (by omega) hS0 ?_
  have hb : skB (g 3) (sz - S.1) S.1 ≤ 160 := by
    have := (skB_le (T := g 3) (sz - S.1) S.1).2
    omega
  unfold advS
  generalize skB (g 3) (sz - S.1) S.1 = b at hb ⊢
  refine go_aload_n (pc' := 53) cx dX0_advance_52 rfl rfl ?_
  refine go_aload_n (pc' := 54) cx dX0_advance_53 rfl rfl ?_
  refine go_geti (pc' := 57) cx (nI b) fX0_26 dX0_advance_54 kq2 (by omega) (ltn rfl) rfl stt_22 rfl ?_
  refine go_puti (pc' := 60) cx fX0_45 dX0_advance_57 kq2 (by omega) (ltn rfl) rfl rfl rfl rfl ?_
  refine go_g (stt_w3 (g := g) (t := t) (S := (b, S.2.1, S.2.2.1, S.2.2.2)) (N := N) b) ?_
  refine go_aload_n (pc' := 61) cx dX0_advance_60 rfl rfl ?_
  refine go_geti (pc' := 64) cx (nI b) fX0_26 dX0_advance_61 kq2 (by omega) (ltn rfl) rfl stt_22 rfl ?_
  refine go_aload_n (pc' := 65) cx dX0_advance_64 rfl rfl ?_
  refine go_geti (pc' := 68) cx (nI sz) fX0_15 dX0_advance_65 kq2 (by omega) (ltn rfl) rfl (stt_21.trans hsz1) rfl ?_
  refine go_icmp_lt (pc' := 71) cx 81 dX0_advance_68 rfl rfl (fun c68 => ?_) (fun c68 => ?_)
  · have c68 := (nI_ltI (a := b) (b := sz) (by omega) (by omega)).mp c68
    refine go_aload_n (pc' := 82) cx dX0_advance_81 rfl rfl ?_
    refine go_getr (pc' := 85) cx 3 fX0_9 dX0_advance_82 kq2 (by omega) (ltn rfl) rfl hr.1 rfl ?_
    refine go_aload_n (pc' := 86) cx dX0_advance_85 rfl rfl ?_
    refine go_geti (pc' := 89) cx (nI b) fX0_26 dX0_advance_86 kq2 (by omega) (ltn rfl) rfl stt_22 rfl ?_
    refine go_iald (pc' := 90) cx (g 3 b) dX0_advance_89 kq3 (by omega) (vpi (k := b) (a := 160) (by omega) rfl rfl) ((congrArg ((stt g t (b, b, S.2.2.1, S.2.2.2) N) 3) (cli (k := b) (a := 160) (by omega) rfl)).trans (stt_3 _)) rfl ?_
    refine go_cSi (pc' := 93) cx (c_X0_isLetter l E (g := (stt g t (b, b, S.2.2.1, S.2.2.2) N)) (g 3 b)) mX0_isLetter lX0_72 dX0_advance_90 rfl rfl rfl (ltn rfl) (Nat.le_of_ble_eq_true rfl) (Nat.le_of_ble_eq_true rfl) rfl ?_
    refine go_if_eq (pc' := 96) cx 107 dX0_advance_93 rfl rfl (fun c93 => ?_) (fun c93 => ?_)
    · refine go_aload_n (pc' := 108) cx dX0_advance_107 rfl rfl ?_
      refine go_getr (pc' := 111) cx 3 fX0_9 dX0_advance_108 kq2 (by omega) (ltn rfl) rfl hr.1 rfl ?_
      refine go_aload_n (pc' := 112) cx dX0_advance_111 rfl rfl ?_
      refine go_geti (pc' := 115) cx (nI b) fX0_26 dX0_advance_112 kq2 (by omega) (ltn rfl) rfl stt_22 rfl ?_
      refine go_iald (pc' := 116) cx (g 3 b) dX0_advance_115 kq3 (by omega) (vpi (k := b) (a := 160) (by omega) rfl rfl) ((congrArg ((stt g t (b, b, S.2.2.1, S.2.2.2) N) 3) (cli (k := b) (a := 160) (by omega) rfl)).trans (stt_3 _)) rfl ?_
      refine go_cSi (pc' := 119) cx (c_X0_isDigit l E (g := (stt g t (b, b, S.2.2.1, S.2.2.2) N)) (g 3 b)) mX0_isDigit lX0_80 dX0_advance_116 rfl rfl rfl (ltn rfl) (Nat.le_of_ble_eq_true rfl) (Nat.le_of_ble_eq_true rfl) rfl ?_
      refine go_if_eq (pc' := 122) cx 133 dX0_advance_119 rfl rfl (fun c119 => ?_) (fun c119 => ?_)
      · refine go_aload_n (pc' := 134) cx dX0_advance_133 rfl rfl ?_
        refine go_aload_n (pc' := 135) cx dX0_advance_134 rfl rfl ?_
        refine go_getr (pc' := 138) cx 3 fX0_9 dX0_advance_135 kq2 (by omega) (ltn rfl) rfl hr.1 rfl ?_
        refine go_aload_n (pc' := 139) cx dX0_advance_138 rfl rfl ?_
        refine go_geti (pc' := 142) cx (nI b) fX0_26 dX0_advance_139 kq2 (by omega) (ltn rfl) rfl stt_22 rfl ?_
        refine go_iald (pc' := 143) cx (g 3 b) dX0_advance_142 kq3 (by omega) (vpi (k := b) (a := 160) (by omega) rfl rfl) ((congrArg ((stt g t (b, b, S.2.2.1, S.2.2.2) N) 3) (cli (k := b) (a := 160) (by omega) rfl)).trans (stt_3 _)) rfl ?_
        refine go_cSi (pc' := 146) cx (c_X0_signOf l E (g := (stt g t (b, b, S.2.2.1, S.2.2.2) N)) (g 3 b)) mX0_signOf lX0_86 dX0_advance_143 rfl rfl rfl (ltn rfl) (Nat.le_of_ble_eq_true rfl) (Nat.le_of_ble_eq_true rfl) rfl ?_
        refine go_puti (pc' := 149) cx fX0_48 dX0_advance_146 kq2 (by omega) (ltn rfl) rfl rfl rfl rfl ?_
        refine go_g (stt_w4 (g := g) (t := t) (S := (b, b, S.2.2.1, S.2.2.2)) (N := N) (sgn (g 3 b))) ?_
        refine go_aload_n (pc' := 150) cx dX0_advance_149 rfl rfl ?_
        refine go_dup (pc' := 151) cx rfl dX0_advance_150 rfl ?_
        refine go_geti (pc' := 154) cx (nI b) fX0_26 dX0_advance_151 kq2 (by omega) (ltn rfl) rfl stt_22 rfl ?_
        refine go_iconst (pc' := 155) cx 1 dX0_advance_154 rfl rfl ?_
        refine go_iadd (pc' := 156) cx dX0_advance_155 rfl ?_
        refine go_val (w := .int (nI (b + 1))) (congrArg Value.int (nI_add b 1)) ?_
        refine go_puti (pc' := 159) cx fX0_26 dX0_advance_156 kq2 (by omega) (ltn rfl) rfl rfl rfl rfl ?_
        refine go_g (stt_w2 (g := g) (t := t) (S := (b, b, sgn (g 3 b), S.2.2.2)) (N := N) (b + 1)) ?_
        refine go_vret cx rfl dX0_advance_159 ?_
        exact Zu.mk (congrArg (fun q => stt g t q N) (by first | rw [if_neg (show ¬ sz ≤ b by omega), if_pos c93, if_pos c119] | rw [if_neg (show ¬ sz ≤ b by omega), if_pos c93, if_neg c119]))
      · refine go_aload_n (pc' := 123) cx dX0_advance_122 rfl rfl ?_
        refine go_aload_n (pc' := 124) cx dX0_advance_123 rfl rfl ?_
        refine go_cVi (pc' := 127) cx (c_X0_nextNumber l E hn ht hsz hr hsz1 (S := (b, b, S.2.2.1, S.2.2.2)) (N := N) (Nat.le_refl _) hb) mX0_nextNumber lX0_83 dX0_advance_124 kq2 (ltn rfl) (by omega) rfl rfl rfl rfl (ltn rfl) (Nat.le_of_ble_eq_true rfl) (Nat.le_of_ble_eq_true rfl) rfl ?_
        refine go_puti (pc' := 130) cx fX0_48 dX0_advance_127 kq2 (by omega) (ltn rfl) rfl rfl rfl rfl ?_
        refine go_g (stt_w4 (g := g) (t := t) (S := ((nmF (g 3) (sz - b) b 0).1, b, S.2.2.1, S.2.2.2)) (N := N) (if (nmF (g 3) (sz - b) b 0).1 - b ≤ 4 then (nmF (g 3) (sz - b) b 0).2 else 10022)) ?_
        refine go_goto cx 159 dX0_advance_130 rfl ?_
        refine go_vret cx rfl dX0_advance_159 ?_
        exact Zu.mk (congrArg (fun q => stt g t q N) (by first | rw [if_neg (show ¬ sz ≤ b by omega), if_pos c93, if_pos c119] | rw [if_neg (show ¬ sz ≤ b by omega), if_pos c93, if_neg c119]))
    · refine go_aload_n (pc' := 97) cx dX0_advance_96 rfl rfl ?_
      refine go_aload_n (pc' := 98) cx dX0_advance_97 rfl rfl ?_
      refine go_cVi (pc' := 101) cx (c_X0_nextWord l E hn ht hsz hr hsz1 (S := (b, b, S.2.2.1, S.2.2.2)) (N := N) (Nat.le_refl _) hb) mX0_nextWord lX0_76 dX0_advance_98 kq2 (ltn rfl) (by omega) rfl rfl rfl rfl (ltn rfl) (Nat.le_of_ble_eq_true rfl) (Nat.le_of_ble_eq_true rfl) rfl ?_
      refine go_puti (pc' := 104) cx fX0_48 dX0_advance_101 kq2 (by omega) (ltn rfl) rfl rfl rfl rfl ?_
      refine go_g (stt_w4 (g := g) (t := t) (S := (skL (g 3) (sz - b) b, b, S.2.2.1, S.2.2.2)) (N := N) (wcL (g 3) b (skL (g 3) (sz - b) b - b) 12 0)) ?_
      refine go_goto cx 159 dX0_advance_104 rfl ?_
      refine go_vret cx rfl dX0_advance_159 ?_
      exact Zu.mk (congrArg (fun q => stt g t q N) (by rw [if_neg (show ¬ sz ≤ b by omega), if_neg c93]))
  · have c68 : ¬ b < sz := fun q9 => c68 ((nI_ltI (a := b) (b := sz) (by omega) (by omega)).mpr q9)
    refine go_aload_n (pc' := 72) cx dX0_advance_71 rfl rfl ?_
    refine go_sipush (pc' := 75) cx 10021 dX0_advance_72 rfl rfl ?_
    refine go_puti (pc' := 78) cx fX0_48 dX0_advance_75 kq2 (by omega) (ltn rfl) rfl rfl rfl rfl ?_
    refine go_g (stt_w4 (g := g) (t := t) (S := (b, b, S.2.2.1, S.2.2.2)) (N := N) 10021) ?_
    refine go_goto cx 159 dX0_advance_78 rfl ?_
    refine go_vret cx rfl dX0_advance_159 ?_
    exact Zu.mk (congrArg (fun q => stt g t q N) (by rw [if_pos (show sz ≤ b by omega)]))
