/-! THE LAW'S MATHEMATICS: the first text, four places that are alike -/
theorem mn_n {a b : Nat} (ha : a < 2 ^ 31) (hb : b < 2 ^ 31) : mn (nI a) (nI b) = nI (min a b) := by
  unfold mn
  by_cases h : b < a
  · rw [if_pos ((nI_ltI hb ha).mpr h), Nat.min_eq_right (Nat.le_of_lt h)]
  · rw [if_neg (fun q => h ((nI_ltI hb ha).mp q)), Nat.min_eq_left (Nat.not_lt.mp h)]
theorem mx0_n {a : Nat} (ha : a < 2 ^ 31) : mx 0 (nI a) = nI a := by
  unfold mx
  by_cases h : (0 : Int32) < nI a
  · rw [if_pos h]
  · rw [if_neg h]
    have h2 : ¬ 0 < a := fun q => h ((nI_ltI (a := 0) (by omega) ha).mpr q)
    rw [show a = 0 by omega]
    rfl
theorem ab_n {a b : Nat} (hab : b ≤ a) (ha : a < 2 ^ 31) : ab (nI a - nI b) = nI (a - b) := by
  rw [pk_sub hab]
  unfold ab
  rw [if_pos (nI_pos' (by omega))]
theorem ab_m {a b : Nat} (hab : a ≤ b) (hb : b < 2 ^ 30) : ab (nI a - nI b) = nI (b - a) := by
  by_cases h : a = b
  · subst h
    exact ab_n (Nat.le_refl _) (by omega)
  · have h1 := pk_sneg (a := a) (b := b) hb (by omega)
    unfold ab
    rw [if_neg (Int32.not_le.mpr h1), Int32.zero_sub, Int32.neg_sub, pk_sub hab]
theorem M0_0 {L A W : Nat → Int32} {w p : Nat} {hd : Int32} (hw : w ≤ 20) : M0 0 (evW L A W (nI w) hd p) = nI (2 * w) := by
  have e : evW L A W (nI w) hd p 10003 = nI w := by
    unfold evW nmV
    rw [if_neg (by decide), if_neg (by decide), if_neg (by decide), if_pos rfl]
  have h : ∀ w, w < 21 → clp (nI w * 2) = nI (2 * w) := by decide +kernel
  unfold M0
  rw [if_pos rfl, e]
  exact h w (by omega)
theorem clp_1 : clp 1 = 1 := by decide +kernel
theorem M0_1 (ev : Int32 → Int32) : M0 1 ev = 1 := by
  unfold M0
  rw [if_neg (by decide)]
  exact clp_1
theorem M0_2 (ev : Int32 → Int32) : M0 2 ev = 1 := by
  unfold M0
  rw [if_neg (by decide)]
  exact clp_1
/-- grown, before the cut -/
def gwN (x w : Nat) : Nat := min 199 (x + 2 * w)
theorem G1_eq {a : Sv} {v h w x p : Nat} {L A : Nat → Int32} (hL : L p = nI x) (h8 : a 8 v = nI w) (hw : w ≤ 20) (hx : x ≤ 199) : G1A M0 a v h L A p = lfA a v h A p (nI (gwN x w)) := by
  unfold G1A
  rw [h8, M0_0 hw, hL, nI_add, show (199 : Int32) = nI 199 from rfl, mn_n (by omega) (by omega)]
  rfl
theorem ev_0 {B : (Nat → Int32) → Int32} {pl : Nat} {L : Nat → Int32} (hB : B L = 1) (h : L pl = L (pl + 1)) : ∀ k, evn B pl k L = (0, L)
  | 0 => rfl
  | k + 1 => by
    unfold evn
    rw [hB, h, Int32.sub_self, if_neg (by decide)]
theorem st_u {a : Sv} {v : Nat} {L A : Nat → Int32} {r : Int32} (h : ∀ p, p < 4 → G1A M0 a v (hdA a v) L A p = r) : (∀ p, p < 4 → stL M0 a v L A p = r) ∧ ctA M0 a v L A = 0 := by
  have hg : ∀ p, p < 4 → growS L (G1A M0 a v (hdA a v) L A) 4 p = r := fun p hp => by
    unfold growS
    rw [if_pos hp]
    exact h p hp
  have e1 : v1A M0 a v (hdA a v) L A = (0, growS L (G1A M0 a v (hdA a v) L A) 4) := ev_0 (M0_1 _) ((hg 0 (by omega)).trans (hg 1 (by omega)).symm) 30
  have e2 : v2A M0 a v (hdA a v) L A = (0, growS L (G1A M0 a v (hdA a v) L A) 4) := by
    unfold v2A
    rw [e1]
    exact ev_0 (M0_1 _) ((hg 2 (by omega)).trans (hg 3 (by omega)).symm) 30
  refine ⟨fun p hp => ?_, ?_⟩
  · unfold stL
    rw [e2]
    exact hg p hp
  · unfold ctA
    rw [e1, e2]
    rfl
theorem crs_u {a : Sv} {n : Nat} (f : Nat → Int32) (h0 : ∀ p, p < 4 → a 0 p = f 0 ∧ a 1 p = f 0) (hs : ∀ v, v < n → ∀ L A : Nat → Int32, (∀ p, p < 4 → L p = f v ∧ A p = f v) → ∀ p, p < 4 → G1A M0 a v (hdA a v) L A p = f (v + 1)) : ∀ v, v ≤ n → ∀ p, p < 4 → (crs M0 a v).1 p = f v ∧ (crs M0 a v).2 p = f v
  | 0, _ => fun p hp => by
    simp only [crs]
    exact h0 p hp
  | v + 1, hv => fun p hp => by
    have ih := crs_u f h0 hs v (by omega)
    have h := (st_u (hs v (by omega) (crs M0 a v).1 (crs M0 a v).2 ih)).1 p hp
    rw [crs_s2, crs_s1]
    exact ⟨h, h⟩
theorem cts_u {a : Sv} {n : Nat} (f : Nat → Int32) (h0 : ∀ p, p < 4 → a 0 p = f 0 ∧ a 1 p = f 0) (hs : ∀ v, v < n → ∀ L A : Nat → Int32, (∀ p, p < 4 → L p = f v ∧ A p = f v) → ∀ p, p < 4 → G1A M0 a v (hdA a v) L A p = f (v + 1)) {v : Nat} (hv : v < n) : CTs M0 a v = 0 :=
  (st_u (hs v hv (crs M0 a v).1 (crs M0 a v).2 (crs_u f h0 hs v (by omega)))).2
theorem of_u {a : Sv} {L A : Nat → Int32} {d : Nat} (h : ∀ p, p < 4 → ab (L p - a 2 p) = nI d) : ofA M0 a L A = nI (4 * d) := by
  unfold ofA
  simp only [offS, M0_2]
  rw [h 0 (by omega), h 1 (by omega), h 2 (by omega), h 3 (by omega), Int32.mul_one, show (0 : Int32) = nI 0 from rfl, nI_add, nI_add, nI_add, nI_add]
  congr 1
  omega
/-! a hand's cut, by its kind and the word -/
theorem mv10 {x ki num pl : Nat} {wi : Int32} (hx : x ≤ 199) (hk : ki = 0 ∨ ki = 1) (hn : num ≤ x) : meansV 10 (nI x) wi (nI ki) (nI num) (nI pl) = nI (x - if ki = 1 then num else 0) := by
  have e : (10 * nI x + (10 - 10) * wi) / 10 = nI x := by
    rw [show (10 : Int32) - 10 = 0 from rfl, Int32.zero_mul, Int32.add_zero, show (10 : Int32) = nI 10 from rfl, pk_mul, pk_div (by omega) (by omega) (by omega)]
    congr 1
    omega
  unfold meansV
  rw [e]
  rcases hk with rfl | rfl
  · rw [if_neg (by decide), if_neg (by decide), if_neg (by decide)]
    rfl
  · rw [if_pos (by decide), if_pos rfl, pk_sub hn]
theorem mv0 {wi ki num pl : Nat} {rem : Int32} (hw : wi ≤ 199) (hk : ki = 0 ∨ ki = 2) : meansV 0 rem (nI wi) (nI ki) (nI num) (nI pl) = nI wi := by
  have e : (0 * rem + (10 - 0) * nI wi) / 10 = nI wi := by
    rw [show (10 : Int32) - 0 = 10 from rfl, Int32.zero_mul, Int32.zero_add, show (10 : Int32) = nI 10 from rfl, pk_mul, pk_div (by omega) (by omega) (by omega)]
    congr 1
    omega
  unfold meansV
  rw [e]
  rcases hk with rfl | rfl
  · rw [if_neg (by decide), if_neg (by decide)]
  · rw [if_neg (by decide), if_neg (by decide)]
theorem lv01 {ki : Nat} {len e : Int32} (hk : ki = 0 ∨ ki = 1) : leavesV (nI ki) len e = e := by
  unfold leavesV
  rcases hk with rfl | rfl
  · rw [if_neg (by decide), if_neg (by decide), if_neg (by decide)]
  · rw [if_neg (by decide), if_neg (by decide), if_neg (by decide)]
theorem half_n {a b : Nat} (ha : a ≤ 1000) (hb : b ≤ 1000) : (nI a + nI b) / 2 = nI ((a + b) / 2) := by
  rw [nI_add, show (2 : Int32) = nI 2 from rfl, pk_div (by omega) (by omega) (by omega)]
theorem lv2 {a b : Nat} (ha : a ≤ 1000) (hb : b ≤ 1000) : leavesV (nI 2) (nI a) (nI b) = nI ((a + b) / 2) := by
  unfold leavesV
  rw [if_pos (by decide)]
  exact half_n ha hb
theorem wv0 {len e0 mk : Int32} : wantsV len e0 0 mk = e0 := by
  unfold wantsV
  rw [if_neg (by decide), if_neg (by decide), if_neg (by decide)]
theorem wv1 {a b : Nat} {mk : Int32} (ha : a ≤ 1000) (hb : b ≤ 1000) : wantsV (nI a) (nI b) 1 mk = nI ((a + b) / 2) := by
  unfold wantsV
  rw [if_pos rfl]
  exact half_n ha hb
theorem wv2 {len e0 mk : Int32} : wantsV len e0 2 mk = e0 - 10 := by
  unfold wantsV
  rw [if_neg (by decide), if_pos rfl]
theorem wv3 {len e0 : Int32} {k : Nat} (hk : k ≤ 199) : wantsV len e0 3 (nI k) = nI k := by
  unfold wantsV
  rw [if_neg (by decide), if_neg (by decide), if_pos rfl, if_neg (fun q => ?_)]
  have h1 := nI_pos (n := k) (by omega)
  rw [q] at h1
  exact h1 (by decide)
/-- a hand of share 10: plain, or one that takes s more -/
theorem g1_10 {a : Sv} {v h w x s ki p : Nat} {L A : Nat → Int32} (hL : L p = nI x) (hA : A p = nI x) (h8 : a 8 v = nI w) (hw : w ≤ 20) (hx : x ≤ 199) (h5 : a 5 h = 10) (hk : ki = 0 ∨ ki = 1) (h10 : a 10 h = nI ki) (h4 : a 4 h = nI s) (hs : s ≤ x) (h9 : a 9 v = 0) : G1A M0 a v h L A p = nI (x - if ki = 1 then s else 0) := by
  rw [G1_eq hL h8 hw hx]
  unfold lfA leftV
  rw [h5, hA, h10, h4, h9, mv10 hx hk hs, wv0, lv01 hk]
  have hg : x ≤ gwN x w := by
    unfold gwN
    omega
  have hg2 : gwN x w ≤ 199 := Nat.min_le_left _ _
  have h3 : (x - if ki = 1 then s else 0) ≤ x := Nat.sub_le _ _
  generalize (x - if ki = 1 then s else 0) = q at *
  rw [mn_n (by omega) (by omega), mx0_n (by omega), Nat.min_eq_right (by omega)]
/-- as marked, by a plain hand -/
theorem g1_3 {a : Sv} {v h w x k p : Nat} {L A : Nat → Int32} (hL : L p = nI x) (h8 : a 8 v = nI w) (hw : w ≤ 20) (hx : x ≤ 199) (h10 : a 10 h = nI 0) (h3 : a 3 0 = nI k) (hk : k ≤ x) (h9 : a 9 v = 3) : G1A M0 a v h L A p = nI k := by
  rw [G1_eq hL h8 hw hx]
  unfold lfA leftV
  rw [h10, h9, h3, wv3 (by omega), lv01 (Or.inl rfl)]
  have hg : x ≤ gwN x w := by
    unfold gwN
    omega
  have hg2 : gwN x w ≤ 199 := Nat.min_le_left _ _
  rw [mn_n (by omega) (by omega), mx0_n (by omega), Nat.min_eq_right (by omega)]
/-- a hand of share 0 -/
theorem g1_0 {a : Sv} {v h w x wi ki nm p : Nat} {L A : Nat → Int32} (hL : L p = nI x) (h8 : a 8 v = nI w) (hw : w ≤ 20) (hx : x ≤ 199) (h5 : a 5 h = 0) (hk : ki = 0 ∨ ki = 2) (h10 : a 10 h = nI ki) (h4 : a 4 h = nI nm) (h6 : a 6 h = nI wi) (hwi : wi ≤ 199) : G1A M0 a v h L A p = leftV (nI ki) (nI (gwN x w)) (nI wi) (a 9 v) (a 3 0) := by
  rw [G1_eq hL h8 hw hx]
  unfold lfA
  rw [h5, h10, h4, h6, mv0 hwi hk]
theorem lf00 {G wi : Nat} {mk : Int32} (hG : G ≤ 199) (hwi : wi ≤ 199) : leftV (nI 0) (nI G) (nI wi) 0 mk = nI (min G wi) := by
  unfold leftV
  rw [wv0, lv01 (Or.inl rfl), mn_n (by omega) (by omega), mx0_n (by omega)]
theorem lf20 {G wi : Nat} {mk : Int32} (hG : G ≤ 199) (hwi : wi ≤ 199) : leftV (nI 2) (nI G) (nI wi) 0 mk = nI (min G ((G + wi) / 2)) := by
  unfold leftV
  rw [wv0, lv2 (by omega) (by omega), mn_n (by omega) (by omega), mx0_n (by omega)]
theorem lf01 {G wi : Nat} {mk : Int32} (hG : G ≤ 199) (hwi : wi ≤ 199) : leftV (nI 0) (nI G) (nI wi) 1 mk = nI (min G ((G + wi) / 2)) := by
  unfold leftV
  rw [wv1 (by omega) (by omega), lv01 (Or.inl rfl), mn_n (by omega) (by omega), mx0_n (by omega)]
theorem lf02 {G wi : Nat} {mk : Int32} : leftV (nI 0) (nI G) (nI wi) 2 mk = mx 0 (mn (nI G) (nI wi - 10)) := by
  unfold leftV
  rw [wv2, lv01 (Or.inl rfl)]
/-! THE FIRST OBJECT: n visits by one hand, that remembers all, and takes s more at each -/
def sN (s : Nat) : Nat → Nat
  | 0 => 0
  | n + 1 => sN s n + 4 * (s * (n + 1))
/-- places all at len, wanted so; the hand h of share 10, of kind ki, number s; n visits by it, word 0 -/
def F1 (a : Sv) (n len h ki s : Nat) : Prop := (50 ≤ len ∧ len < 150 ∧ n ≤ 8 ∧ h < 5 ∧ s ≤ 5 ∧ (ki = 0 ∧ s = 0 ∨ ki = 1)) ∧ (∀ p, p < 4 → a 0 p = nI len ∧ a 1 p = nI len ∧ a 2 p = nI len) ∧ (∀ v, v < n → a 7 v = nI h ∧ (∃ w, w ≤ 20 ∧ a 8 v = nI w) ∧ a 9 v = 0) ∧ a 5 h = 10 ∧ a 10 h = nI ki ∧ a 4 h = nI s
theorem F1.sv {s v n : Nat} (hs : s ≤ 5) (hv : v ≤ n) (hn : n ≤ 8) : s * v ≤ 40 := Nat.le_trans (Nat.mul_le_mul hs (Nat.le_trans hv hn)) (by decide)
theorem F1.step {a : Sv} {n len h ki s : Nat} (H : F1 a n len h ki s) : ∀ v, v < n → ∀ L A : Nat → Int32, (∀ p, p < 4 → L p = nI (len - s * v) ∧ A p = nI (len - s * v)) → ∀ p, p < 4 → G1A M0 a v (hdA a v) L A p = nI (len - s * (v + 1)) := by
  obtain ⟨⟨h1, h2, h3, h4, h5, hk⟩, h0, hv0, f5, f10, f4⟩ := H
  intro v hv L A hLA p hp
  obtain ⟨v7, ⟨w, hw, v8⟩, v9⟩ := hv0 v hv
  have e := F1.sv (v := v + 1) h5 hv h3
  have e2 : s * (v + 1) = s * v + s := Nat.mul_succ s v
  rw [hdA_of v7 (by omega), g1_10 (s := s) (ki := ki) (hLA p hp).1 (hLA p hp).2 v8 hw (by omega) f5 (by omega) f10 f4 (by omega) v9]
  congr 1
  rcases hk with ⟨rfl, rfl⟩ | rfl
  · rw [if_neg (by decide)]
    omega
  · rw [if_pos rfl]
    omega
theorem F1.cu {a : Sv} {n len h ki s : Nat} (H : F1 a n len h ki s) : ∀ v, v ≤ n → ∀ p, p < 4 → (crs M0 a v).1 p = nI (len - s * v) ∧ (crs M0 a v).2 p = nI (len - s * v) :=
  crs_u (fun v => nI (len - s * v)) (fun p hp => ⟨(H.2.1 p hp).1, (H.2.1 p hp).2.1⟩) H.step
theorem F1.dist {a : Sv} {n len h ki s : Nat} (H : F1 a n len h ki s) {v p : Nat} (hv : v ≤ n) (hp : p < 4) : ab ((crs M0 a v).1 p - a 2 p) = nI (s * v) := by
  have e := F1.sv H.1.2.2.2.2.1 hv H.1.2.2.1
  have h1 := H.1
  rw [(H.cu v hv p hp).1, (H.2.1 p hp).2.2, ab_m (by omega) (by omega)]
  congr 1
  omega
theorem F1.of {a : Sv} {n len h ki s : Nat} (H : F1 a n len h ki s) {v : Nat} (hv : v < n) : OFs M0 a v = nI (4 * (s * (v + 1))) := of_u (fun _ hp => H.dist (v := v + 1) hv hp)
theorem F1.bds {a : Sv} {n len h ki s : Nat} (H : F1 a n len h ki s) : ∀ k, k ≤ n → sumI (OFs M0 a) k = nI (sN s k)
  | 0, _ => rfl
  | k + 1, hk => by
    unfold sumI sN
    rw [F1.bds H k (by omega), H.of hk, nI_add]
theorem F1.bad {a : Sv} {n len h ki s : Nat} (H : F1 a n len h ki s) : BDs M0 a n = nI (sN s n) := H.bds n (Nat.le_refl _)
theorem sN_0 : ∀ n, sN 0 n = 0
  | 0 => rfl
  | n + 1 => by
    unfold sN
    rw [sN_0 n]
    omega
theorem sN_lt : ∀ s, s < 6 → ∀ n, n < 9 → sN s n < 2000 := by decide +kernel
theorem sN_law : ∀ s, s < 6 → ∀ n, n < 9 → nI (sN s n) = nI 4 * nI s * nI n * (nI n + 1) / 2 := by decide +kernel
theorem F1.bad0 {a : Sv} {n len h ki s : Nat} (H : F1 a n len h ki s) : badF M0 a n 0 = nI (sN s n) := by
  unfold badF
  rw [if_neg (by decide), if_neg (by decide), if_pos rfl]
  exact H.bad
theorem F1.bad1 {a : Sv} {n len h ki s : Nat} (H : F1 a n len h ki s) : badF M0 a n 1 = 0 := by
  unfold badF
  rw [if_neg (by decide), if_neg (by decide), if_neg (by decide), if_pos rfl]
  have e : ∀ k, k ≤ n → sumI (CTs M0 a) k = 0 := by
    intro k
    induction k with
    | zero => exact fun _ => rfl
    | succ k ih =>
      intro hk
      unfold sumI
      rw [ih (by omega), cts_u (n := n) (fun v => nI (len - s * v)) (fun p hp => ⟨(H.2.1 p hp).1, (H.2.1 p hp).2.1⟩) H.step (by omega)]
      rfl
  exact e n (Nat.le_refl _)
theorem in_n {k N : Nat} (h : k < N) (hN : N < 2 ^ 31) : ¬ inI (nI N) (nI k) = 0 := by
  unfold inI
  rw [if_neg (nI_pos (by omega)), if_neg (nI_ge h hN)]
  decide
theorem in4 {k : Nat} (h : k < 4) : ¬ inI 4 (nI k) = 0 := in_n (N := 4) h (by omega)
theorem cl_n {k : Nat} (h : k < 2 ^ 31) : clI (nI k) = k := nI_clamp h
theorem F1.drift {a : Sv} {n len h ki s p : Nat} (H : F1 a n len h ki s) (hp : p < 4) : driftF M0 a n (nI p) = -(nI s) * nI n := by
  unfold driftF
  rw [if_neg (in4 hp), cl_n (by omega), (H.cu n (Nat.le_refl _) p hp).1, (H.2.1 p hp).2.2, Int32.neg_mul, pk_mul]
  have e := F1.sv H.1.2.2.2.2.1 (Nat.le_refl n) H.1.2.2.1
  have h1 := H.1
  rw [show nI len = nI (len - s * n) + nI (s * n) by rw [nI_add]; congr 1; omega, ← Int32.neg_sub, Int32.add_comm, Int32.add_sub_cancel]
theorem F1.course {a : Sv} {n len h ki s p v : Nat} (H : F1 a n len h ki s) (hv : v < n) (hp : p < 4) : courseF M0 a n (nI v) (nI p) = nI (len - s * (v + 1)) := by
  have h1 := H.1
  unfold courseF
  rw [if_neg (in_n hv (by omega)), if_neg (in4 hp), cl_n (by omega), cl_n (by omega)]
  exact (H.cu (v + 1) hv p hp).1
theorem F1.near {a : Sv} {n len h ki s v : Nat} (H : F1 a n len h ki s) (hv : v < n) : isN (crs M0 a (v + 1)).1 (a 2) 0 = if s = 0 then 1 else 0 := by
  have e := F1.sv (v := v + 1) H.1.2.2.2.2.1 hv H.1.2.2.1
  unfold isN
  rw [H.dist (v := v + 1) (p := 0) hv (by omega), H.dist (v := v + 1) (p := 1) hv (by omega), H.dist (v := v + 1) (p := 2) hv (by omega), H.dist (v := v + 1) (p := 3) hv (by omega)]
  by_cases hs : s = 0
  · subst hs
    rw [Nat.zero_mul, if_pos (by decide), if_pos (by decide), if_pos (by decide), if_pos (by decide), if_pos rfl]
  · have : 0 < s * (v + 1) := Nat.mul_pos (by omega) (by omega)
    rw [if_neg (nI_nle this (by omega)), if_neg hs]
theorem agn_1 {f : Nat → Int32} : ∀ (n : Nat) (b : Int32), (∀ v, v < n → ¬ f v = 0) → 0 < n → agn f n b = 0
  | 0, _, _, h => absurd h (by omega)
  | n + 1, b, hf, _ => by
    unfold agn
    rw [if_neg (hf n (by omega))]
    by_cases h : 0 < n
    · exact agn_1 n _ (fun v hv => hf v (by omega)) h
    · rw [show n = 0 by omega]
      rfl
theorem F1.again {a : Sv} {n len h ki s : Nat} (H : F1 a n len h ki s) (hn : 0 < n) : againF M0 a n 0 = if s = 0 then 0 else -1 := by
  unfold againF
  rw [if_neg (by decide), if_neg (by decide)]
  by_cases hs : s = 0
  · rw [if_pos hs]
    refine agn_1 n _ (fun v hv => ?_) hn
    rw [H.near hv, if_pos hs]
    decide
  · rw [if_neg hs]
    obtain ⟨m, rfl⟩ : ∃ m, n = m + 1 := ⟨n - 1, by omega⟩
    unfold agn
    rw [H.near (v := m) (by omega), if_neg hs, if_pos rfl]
theorem F1.fil {a : Sv} {n len h ki s h' ki' s' : Nat} (H : F1 a n len h ki s) (h5 : a 5 h' = 10) (h10 : a 10 h' = nI ki') (h4 : a 4 h' = nI s') (hh : h' < 5) (hs : s' ≤ 5) (hk : ki' = 0 ∧ s' = 0 ∨ ki' = 1) : F1 (filS a 7 (nI h') n) n len h' ki' s' := by
  have e : ∀ i k, ¬ (i = 7 ∧ k < n) → filS a 7 (nI h') n i k = a i k := fun i k q => by rw [filS_r, if_neg q]
  obtain ⟨h1, h0, hv0, -⟩ := H
  refine ⟨⟨h1.1, h1.2.1, h1.2.2.1, hh, hs, hk⟩, fun p hp => ?_, fun v hv => ?_, ?_, ?_, ?_⟩
  · rw [e _ _ (by omega), e _ _ (by omega), e _ _ (by omega)]
    exact h0 p hp
  · rw [e 8 _ (by omega), e 9 _ (by omega), filS_r, if_pos ⟨rfl, hv⟩]
    exact ⟨rfl, (hv0 v hv).2⟩
  · rw [e _ _ (by omega)]; exact h5
  · rw [e _ _ (by omega)]; exact h10
  · rw [e _ _ (by omega)]; exact h4
theorem whom_1 {a : Sv} {n len : Nat} (H : F1 a n len 0 0 0) : whomF M0 a 1 n 1 = 0 := by
  have e : whE M0 a n 0 = 0 := by
    unfold whE
    rw [(H.fil (h' := 0) H.2.2.2.1 H.2.2.2.2.1 H.2.2.2.2.2 (by omega) (by omega) (Or.inl ⟨rfl, rfl⟩)).bad, sN_0]
    rfl
  unfold whomF
  have m0 : mns (whE M0 a n) 1 = some 0 := mns_0 rfl
  rw [if_neg (by decide), if_neg (by decide), m0]
  exact e
theorem whom_2 {a : Sv} {n len h ki s s' : Nat} (H : F1 a n len h ki s) (h5 : a 5 0 = 10) (h10 : a 10 0 = nI 0) (h4 : a 4 0 = nI 0) (h5' : a 5 1 = 10) (h10' : a 10 1 = nI 1) (h4' : a 4 1 = nI s') (hs : s' ≤ 5) : whomF M0 a 2 n 0 = 0 := by
  have e : whE M0 a n 0 = 0 := by
    unfold whE
    rw [(H.fil (h' := 0) h5 h10 h4 (by omega) (by omega) (Or.inl ⟨rfl, rfl⟩)).bad, sN_0]
    rfl
  have e1 : whE M0 a n 1 = nI (sN s' n) := by
    unfold whE
    exact (H.fil (h' := 1) h5' h10' h4' (by omega) hs (Or.inr rfl)).bad
  have hl := sN_lt s' (by omega) n (by have := H.1; omega)
  have m1 : mns (whE M0 a n) 1 = some 0 := mns_0 rfl
  unfold whomF
  rw [if_neg (by decide), if_pos rfl, mns_g m1 (by rw [e, e1]; exact nI_pos (by omega))]
  rfl
theorem F1.mark {a : Sv} {n len : Nat} (H : F1 a n len 0 0 0) : markF M0 a n = 0 := by
  have e : BDs M0 (filS (up2 a 3 0 (a 2 0)) 9 3 n) n = nI 0 := by
    obtain ⟨h1, h0, hv0, f5, f10, f4⟩ := H
    have q : ∀ i k, ¬ (i = 9 ∧ k < n) → ¬ (i = 3 ∧ k = 0) → filS (up2 a 3 0 (a 2 0)) 9 3 n i k = a i k := fun i k q1 q2 => by
      rw [filS_r, if_neg q1, up2_n _ _ (by omega)]
    have q9 : ∀ v, v < n → filS (up2 a 3 0 (a 2 0)) 9 3 n 9 v = 3 := fun v hv => by rw [filS_r, if_pos ⟨rfl, hv⟩]
    have q3 : filS (up2 a 3 0 (a 2 0)) 9 3 n 3 0 = nI len := by
      rw [filS_r, if_neg (by omega), up2_s]
      exact (h0 0 (by omega)).2.2
    generalize filS (up2 a 3 0 (a 2 0)) 9 3 n = b at q q9 q3
    have hc := crs_u (a := b) (n := n) (fun _ => nI len) (fun p hp => ⟨(q 0 p (by omega) (by omega)).trans (h0 p hp).1, (q 1 p (by omega) (by omega)).trans (h0 p hp).2.1⟩) (fun v hv L A hLA p hp => by
      obtain ⟨v7, ⟨w, hw, v8⟩, v9⟩ := hv0 v hv
      rw [hdA_of (k := 0) ((q 7 v (by omega) (by omega)).trans v7) (by omega)]
      exact g1_3 (hLA p hp).1 ((q 8 v (by omega) (by omega)).trans v8) hw (by omega) ((q 10 0 (by omega) (by omega)).trans f10) q3 (Nat.le_refl _) (q9 v hv))
    have hs : ∀ k, k ≤ n → sumI (OFs M0 b) k = nI 0 := by
      intro k
      induction k with
      | zero => exact fun _ => rfl
      | succ k ih =>
        intro hk
        have e1 : OFs M0 b k = nI (4 * 0) := of_u (fun p hp => by
          rw [(hc (k + 1) hk p hp).1, (q 2 p (by omega) (by omega)).trans (h0 p hp).2.2, ab_n (Nat.le_refl _) (by omega), Nat.sub_self])
        unfold sumI
        rw [ih (by omega), e1]
        rfl
    exact hs n (Nat.le_refl _)
  unfold markF
  rw [e, H.bad, sN_0]
  rfl
/-! THE SECOND OBJECT: two visits of w weeks, by a plain hand and a timid one, that remember nothing -/
def F2 (a : Sv) (w wi : Nat) : Prop := (w ≤ 20 ∧ wi ≤ 199) ∧ (∀ p, p < 4 → a 0 p = nI 40 ∧ a 1 p = nI 40) ∧ (a 7 0 = nI 0 ∧ a 7 1 = nI 1) ∧ (a 8 0 = nI w ∧ a 8 1 = nI w) ∧ (a 5 0 = 0 ∧ a 5 1 = 0) ∧ (a 10 0 = nI 0 ∧ a 10 1 = nI 2) ∧ (a 4 0 = nI 0 ∧ a 4 1 = nI 0) ∧ (a 6 0 = nI wi ∧ a 6 1 = nI wi) ∧ a 9 1 = 0
theorem gw40 {w : Nat} (hw : w ≤ 20) : gwN 40 w = 40 + 2 * w := by
  unfold gwN
  omega
theorem F2.st0 {a : Sv} {w wi : Nat} (H : F2 a w wi) : ∀ p, p < 4 → stL M0 a 0 (a 0) (a 1) p = leftV (nI 0) (nI (40 + 2 * w)) (nI wi) (a 9 0) (a 3 0) := by
  obtain ⟨⟨h1, h2⟩, h0, h7, h8, h5, h10, h4, h6, h9⟩ := H
  refine (st_u (fun p hp => ?_)).1
  rw [hdA_of h7.1 (by omega), g1_0 (ki := 0) (h0 p hp).1 h8.1 h1 (by omega) h5.1 (Or.inl rfl) h10.1 h4.1 h6.1 h2, gw40 h1]
theorem F2.st1 {a : Sv} {w wi : Nat} (H : F2 a w wi) : ∀ p, p < 4 → stL M0 a 1 (a 0) (a 1) p = nI (min (40 + 2 * w) ((40 + 2 * w + wi) / 2)) := by
  obtain ⟨⟨h1, h2⟩, h0, h7, h8, h5, h10, h4, h6, h9⟩ := H
  refine (st_u (fun p hp => ?_)).1
  rw [hdA_of h7.2 (by omega), g1_0 (ki := 2) (h0 p hp).1 h8.2 h1 (by omega) h5.2 (Or.inr rfl) h10.2 h4.2 h6.2 h2, gw40 h1, h9, lf20 (by omega) h2]
theorem once_p {a : Sv} {v p : Nat} (hv : v < 2) (hp : p < 4) : onceF M0 a 2 (nI v) (nI p) = stL M0 a v (a 0) (a 1) p := by
  unfold onceF
  rw [if_neg (in_n (N := 2) hv (by omega)), if_neg (nI_pos (by omega)), if_neg (show ¬ (5 : Int32) < nI p from nI_nlt (a := 5) (b := p) (by omega) (by omega)), if_pos (show nI p < 4 from nI_lt (a := p) (b := 4) hp (by omega)), cl_n (by omega), cl_n (by omega)]
theorem F2.once0 {a : Sv} {w wi p : Nat} (H : F2 a w wi) (hp : p < 4) (h9 : a 9 0 = 0) : onceF M0 a 2 (nI 0) (nI p) = nI (min (40 + 2 * w) wi) := by
  have h1 := H.1
  rw [once_p (by omega) hp, H.st0 p hp, h9, lf00 (by omega) h1.2]
theorem F2.once1 {a : Sv} {w wi p : Nat} (H : F2 a w wi) (hp : p < 4) : onceF M0 a 2 (nI 1) (nI p) = nI (min (40 + 2 * w) ((40 + 2 * w + wi) / 2)) := by
  rw [once_p (by omega) hp, H.st1 p hp]
theorem F2.once2 {a : Sv} {w wi p : Nat} (H : F2 a w wi) (hp : p < 4) (h9 : a 9 0 = 1) : onceF M0 a 2 (nI 0) (nI p) = nI (min (40 + 2 * w) ((40 + 2 * w + wi) / 2)) := by
  have h1 := H.1
  rw [once_p (by omega) hp, H.st0 p hp, h9, lf01 (by omega) h1.2]
theorem F2.once3 {a : Sv} {w wi p : Nat} (H : F2 a w wi) (hp : p < 4) (h9 : a 9 0 = 2) : onceF M0 a 2 (nI 0) (nI p) = mx 0 (mn (nI (40 + 2 * w)) (nI wi - 10)) := by
  rw [once_p (by omega) hp, H.st0 p hp, h9, lf02]
theorem F2.stm {a : Sv} {w wi k : Nat} (H : F2 a w wi) (h9 : a 9 0 = 3) (h3 : a 3 0 = nI k) (hk : k ≤ 40) : ∀ p, p < 4 → stL M0 a 0 (a 0) (a 1) p = nI k := by
  obtain ⟨⟨h1, h2⟩, h0, h7, h8, h5, h10, h4, h6, -⟩ := H
  refine (st_u (fun p hp => ?_)).1
  rw [hdA_of h7.1 (by omega)]
  exact g1_3 (h0 p hp).1 h8.1 h1 (by omega) h10.1 h3 hk h9
theorem F2.oncem {a : Sv} {w wi k p : Nat} (H : F2 a w wi) (h9 : a 9 0 = 3) (h3 : a 3 0 = nI k) (hk : k ≤ 40) (hp : p < 4) : onceF M0 a 2 (nI 0) (nI p) = nI k := by
  rw [once_p (by omega) hp]
  exact H.stm h9 h3 hk p hp
theorem F2.offm {a : Sv} {w wi k : Nat} (H : F2 a w wi) (h9 : a 9 0 = 3) (h3 : a 3 0 = nI k) (hk : k ≤ 40) (h2 : ∀ p, p < 4 → a 2 p = nI k) : onceF M0 a 2 (nI 0) 5 = 0 := by
  unfold onceF
  rw [if_neg (in_n (N := 2) (by omega) (by omega)), if_neg (by decide), if_neg (by decide), if_neg (by decide), if_neg (by decide), cl_n (by omega)]
  refine (of_u (d := 0) (fun p hp => ?_)).trans rfl
  rw [H.stm h9 h3 hk p hp, h2 p hp, ab_n (Nat.le_refl _) (by omega), Nat.sub_self]
/-- shorter is no longer than without a word -/
theorem short_le {G wi : Nat} (hG : G ≤ 199) (hwi : wi ≤ 199) : ¬ nI (min G wi) < mx 0 (mn (nI G) (nI wi - 10)) := by
  by_cases h : 10 ≤ wi
  · rw [show (10 : Int32) = nI 10 from rfl, pk_sub h, mn_n (by omega) (by omega), mx0_n (by omega)]
    exact nI_nlt (by omega) (by omega)
  · have hn := pk_sneg (a := wi) (b := 10) (by omega) (by omega)
    have e : mx 0 (mn (nI G) (nI wi - 10)) = 0 := by
      have h0 : ¬ (0 : Int32) < mn (nI G) (nI wi - 10) := by
        have h1 := nI_pos (n := G) (by omega)
        unfold mn
        rw [if_pos]
        · exact fun q => absurd (Int32.lt_iff_toInt_lt.mp q) (by
            have := Int32.lt_iff_toInt_lt.mp hn
            have e0 : (0 : Int32).toInt = 0 := by decide
            have e1 : nI wi - 10 = nI wi - nI 10 := rfl
            rw [e1]
            omega)
        · refine Int32.lt_iff_toInt_lt.mpr ?_
          have := Int32.lt_iff_toInt_lt.mp hn
          have e0 : (0 : Int32).toInt = 0 := by decide
          have e1 : nI wi - 10 = nI wi - nI 10 := rfl
          have e2 := nI_toInt (n := G) (by omega)
          rw [e1]
          omega
      unfold mx
      rw [if_neg h0]
    rw [e]
    exact nI_pos (by omega)
/-! PICTURES: what a film shows is seen in it -/
def Ln (L : Nat → Int32) : Prop := ∀ p, p < 4 → ∃ n, n ≤ 199 ∧ L p = nI n
theorem dec_n {x : Int32} (hx : ∃ n, n ≤ 199 ∧ x = nI n) : True ∧ ∃ n, n ≤ 199 ∧ mx 0 (x - 1) = nI n := by
  obtain ⟨n, hn, rfl⟩ := hx
  cases n with
  | zero => exact ⟨trivial, 0, by omega, by decide⟩
  | succ k =>
    rw [nI_pred, mx0_n (by omega)]
    exact ⟨trivial, k, by omega, rfl⟩
theorem Ln.ev1 {L : Nat → Int32} {pl : Nat} (h : Ln L) (hp : pl < 3) : Ln (evs L pl) := by
  intro p hp4
  unfold evs
  split
  · unfold upd
    split
    · exact (dec_n (h (pl + 1) (by omega))).2
    · exact h p hp4
  · unfold upd
    split
    · exact (dec_n (h pl (by omega))).2
    · exact h p hp4
theorem Ln.ev30 {B : (Nat → Int32) → Int32} {pl : Nat} (hp : pl < 3) : ∀ (k : Nat) (L : Nat → Int32), Ln L → Ln (evn B pl k L).2
  | 0, _, h => h
  | k + 1, L, h => by
    unfold evn
    split
    · exact Ln.ev30 hp k _ (h.ev1 hp)
    · exact h
theorem mn_i (x y : Int32) : (mn x y).toInt ≤ x.toInt := by
  unfold mn
  by_cases h : y < x
  · rw [if_pos h]
    exact Int.le_of_lt (Int32.lt_iff_toInt_lt.mp h)
  · rw [if_neg h]
    exact Int.le_refl _
theorem lf_rng (x y : Int32) : ∃ n, n ≤ 199 ∧ mx 0 (mn (mn 199 x) y) = nI n := by
  have h1 : (mn (mn 199 x) y).toInt ≤ 199 := Int.le_trans (mn_i _ _) (mn_i 199 x)
  have e199 : (199 : Int32).toInt = 199 := by decide
  have e0 : (0 : Int32).toInt = 0 := by decide
  generalize mn (mn 199 x) y = w at h1 ⊢
  unfold mx
  by_cases h : (0 : Int32) < w
  · rw [if_pos h]
    refine rng_n (x := w) (lo := 0) (M := 199) (n := 199) e199 (by decide) (fun q => ?_) (fun q => ?_)
    · have := Int32.lt_iff_toInt_lt.mp q
      have := Int32.lt_iff_toInt_lt.mp h
      omega
    · have := Int32.lt_iff_toInt_lt.mp q
      omega
  · rw [if_neg h]
    exact ⟨0, by omega, rfl⟩
theorem stL_Ln {M : TM} {a : Sv} {v : Nat} {L A : Nat → Int32} : Ln (stL M a v L A) := by
  unfold stL v2A v1A
  refine Ln.ev30 (by omega) 30 _ (Ln.ev30 (by omega) 30 _ ?_)
  intro p hp
  unfold growS
  rw [if_pos hp]
  exact lf_rng _ _
theorem crs_Ln {M : TM} {a : Sv} {v : Nat} : Ln (crs M a (v + 1)).1 := by
  rw [crs_s1]
  exact stL_Ln
theorem cvS1_ok : ∀ n, n ≤ 199 → cvS 1 (nI n) = nI n := by
  have h : ∀ n, n < 200 → cvS 1 (nI n) = nI n := by decide +kernel
  exact fun n hn => h n (by omega)
theorem bt_nat (f : Nat → Int32) : ∀ n, n ≤ 30 → ∃ m, m < 2 ^ n ∧ btF f n = nI m ∧ ∀ s, s < n → f s = -1 → m.testBit s = true
  | 0, _ => ⟨0, by decide, rfl, fun s h => absurd h (by omega)⟩
  | n + 1, hn => by
    obtain ⟨m, h1, h2, h3⟩ := bt_nat f n (by omega)
    unfold btF
    have hp : 2 ^ n < 2 ^ (n + 1) := Nat.pow_lt_pow_right (by decide) (by omega)
    by_cases h : f n = -1
    · have e30 : 2 ^ n ≤ 2 ^ 29 := Nat.pow_le_pow_right (by decide) (by omega)
      have e : (1 : Int32) <<< (nI n &&& 31) = nI (2 ^ n) := by
        have es : ∀ n, n < 30 → ((nI n &&& 31).toBitVec.smod 32).toNat = n := by decide +kernel
        have := pk_shlN (n := 1) (nI n &&& 31) n (es n (by omega)) (by omega)
        rw [Nat.one_mul] at this
        exact this
      have e2 : nI m ||| nI (2 ^ n) = nI (m ||| 2 ^ n) := by
        have hb : m ||| 2 ^ n < 2 ^ (n + 1) := Nat.or_lt_two_pow (by omega) hp
        have hb2 : 2 ^ (n + 1) ≤ 2 ^ 30 := Nat.pow_le_pow_right (by decide) (by omega)
        refine Int32.toBitVec_inj.mp (BitVec.eq_of_toNat_eq ?_)
        rw [Int32.toBitVec_or, BitVec.toNat_or, pk_tn (by omega), pk_tn (by omega), pk_tn (by omega)]
      refine ⟨m ||| 2 ^ n, Nat.or_lt_two_pow (by omega) hp, ?_, fun s hs q => ?_⟩
      · rw [if_pos h, h2, e, e2]
      · rw [Nat.testBit_or]
        by_cases e : s = n
        · rw [e, Nat.testBit_two_pow_self, Bool.or_true]
        · rw [h3 s (by omega) q, Bool.true_or]
    · refine ⟨m, by omega, ?_, fun s hs q => ?_⟩
      · rw [if_neg h, h2]
      · exact h3 s (by
          by_cases e : s = n
          · rw [e] at q
            exact absurd q h
          · omega) q
theorem bt_bit {f : Nat → Int32} {n s : Nat} (hn : n ≤ 30) (hs : s < n) (h : f s = -1) : (btF f n >>> (nI s &&& 31)) &&& 1 = 1 := by
  obtain ⟨m, h1, h2, h3⟩ := bt_nat f n hn
  have hm : m < 2 ^ 31 := Nat.lt_of_lt_of_le h1 (Nat.pow_le_pow_right (by decide) (by omega))
  have es : ∀ s, s < 30 → ((nI s &&& 31).toBitVec.smod 32).toNat = s := by decide +kernel
  rw [h2, pk_shrN hm _ s (es s (by omega)), pk_andN (by have : m / 2 ^ s ≤ m := Nat.div_le_self _ _; omega) 1 (by decide)]
  have ht := h3 s hs h
  rw [Nat.testBit_eq_decide_div_mod_eq] at ht
  have := of_decide_eq_true ht
  rw [Nat.pow_one, this]
  rfl

theorem foF_2 {f h : Nat → Int32} (h0 : f 0 = h 0) (h1 : f 1 = h 1) : foF f h 0 2 = -1 := by
  show (if f 0 = h 0 then (if f 1 = h 1 then (-1 : Int32) else nI 1) else nI 0) = -1
  rw [if_pos h0, if_pos h1]
/-- the film of the place 2 -/
def Fm (a : Sv) (row : Nat → Int32) : Prop := ∀ j, j < 2 → row j = cvS 1 ((crs M0 a (j + 1)).1 2)
theorem Fm.at {a : Sv} {row : Nat → Int32} (h : Fm a row) {j : Nat} (hj : j < 2) : row j = (crs M0 a (j + 1)).1 2 := by
  obtain ⟨n, hn, e⟩ := crs_Ln (M := M0) (a := a) (v := j) 2 (by omega)
  rw [h j hj, e]
  exact cvS1_ok n hn
theorem fot_ok {a : Sv} {row : Nat → Int32} (h : Fm a row) : fotF M0 a row 2 2 = -1 := foF_2 (h.at (by omega)) (h.at (by omega))
theorem pict_ok {a : Sv} {sh : Nat → Int32 × Nat × (Nat → Int32)} {row : Nat → Int32} (hs : sh 0 = (1, 2, row)) (h : Fm a row) : pictX M0 a 2 sh (nI 0) (nI 2) = -1 := by
  unfold pictX
  rw [if_neg (fun q => q.elim (in4 (by omega)) (in4 (by omega))), cl_n (by omega), cl_n (by omega), hs]
  show pictF M0 a 2 row 1 2 2 = -1
  unfold pictF
  rw [if_pos (by decide)]
  exact fot_ok h
theorem seen_eq {a : Sv} {sh : Nat → Int32 × Nat × (Nat → Int32)} {row : Nat → Int32} {k : Nat} (hs : sh 0 = (1, 2, row)) (hk : k < 3) : seenF (fun _ => M0) 0 a 2 2 1 sh k (nI 0) (nI 2) (nI 0) = btF (fun v => fotF M0 (up2 a (sWn k) 0 (nI v)) row 2 2) (mostN 2 (sWn k)) := by
  unfold seenF
  have hc : sCn 2 2 k = 2 := if_pos hk
  rw [hc, if_neg (fun q => q.elim (in4 (by omega)) (in4 (by omega))), if_neg (fun q => in_n (k := 0) (N := 2) (by omega) (by omega) q.2), cl_n (by omega), cl_n (by omega), hs, if_pos (show prF (1, 2, row).1 (1, 2, row).2.1 2 = 0 from (by decide : prF 1 2 2 = 0)), if_neg (by omega)]
  rfl
theorem seen_1 {a : Sv} {sh : Nat → Int32 × Nat × (Nat → Int32)} {row : Nat → Int32} (hs : sh 0 = (1, 2, row)) (h : Fm a row) (h9 : a 9 0 = nI 2) : (seenF (fun _ => M0) 0 a 2 2 1 sh 1 (nI 0) (nI 2) (nI 0) >>> (nI 2 &&& 31)) &&& 1 = 1 := by
  rw [seen_eq hs (by omega)]
  refine bt_bit (n := 4) (s := 2) (by omega) (by omega) ?_
  show fotF M0 (up2 a 9 0 (nI 2)) row 2 2 = -1
  rw [up2_id h9]
  exact fot_ok h
theorem seen_2 {a : Sv} {sh : Nat → Int32 × Nat × (Nat → Int32)} {row : Nat → Int32} {w : Nat} (hw : w ≤ 20) (hs : sh 0 = (1, 2, row)) (h : Fm a row) (h8 : a 8 0 = nI w) : (seenF (fun _ => M0) 0 a 2 2 1 sh 2 (nI 0) (nI 2) (nI 0) >>> (nI w &&& 31)) &&& 1 = 1 := by
  rw [seen_eq hs (by omega)]
  refine bt_bit (n := 21) (s := w) (by omega) (by omega) ?_
  show fotF M0 (up2 a 8 0 (nI w)) row 2 2 = -1
  rw [up2_id h8]
  exact fot_ok h
