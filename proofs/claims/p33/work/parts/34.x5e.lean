/-! THE CLASS: words that are said, pictures read back, the host -/
/-- the way of words number i at the first n visits: its digits to the base 4 -/
def dgt (n i k : Nat) : Nat := i / 4 ^ (n - 1 - k) % 4
def sayS (a : Sv) (n i : Nat) : Sv := fun w k => if w = 9 ∧ k < n then nI (dgt n i k) else a w k
def sayE (M : TM) (a : Sv) (vn n i : Nat) : Int32 := BDs M (sayS a n i) vn
def odg (n : Nat) : Option Nat → Int32
  | none => -1
  | some i => wdI (fun k => nI (dgt n i k)) n
def sayF (M : TM) (a : Sv) (vn : Nat) (x1 x2 : Int32) : Int32 :=
  if x1 < 0 then -2 else if 4 < x1 then -2 else if nI vn < x1 then -2 else if fosI x2 = 0 then -2
  else if x2 = 0 then ov (sayE M a vn (clI x1)) (mns (sayE M a vn (clI x1)) (4 ^ clI x1)) else odg (clI x1) (mns (sayE M a vn (clI x1)) (4 ^ clI x1))
theorem wdI_c {W W' : Nat → Int32} : ∀ n, (∀ k, k < n → W k = W' k) → wdI W n = wdI W' n
  | 0, _ => rfl
  | n + 1, h => by
    unfold wdI
    rw [wdI_c n (fun k hk => h k (by omega)), h n (by omega)]
theorem dgt_last {n i : Nat} : dgt (n + 1) i n = i % 4 := by
  unfold dgt
  rw [show n + 1 - 1 - n = 0 by omega, Nat.pow_zero, Nat.div_one]
theorem dgt_up {n i k : Nat} (hk : k < n) : dgt (n + 1) i k = dgt n (i / 4) k := by
  unfold dgt
  rw [show n + 1 - 1 - k = n - 1 - k + 1 by omega, Nat.pow_succ, Nat.mul_comm, ← Nat.div_div_eq_div_mul]
theorem nw_dig : ∀ (n i : Nat) (W : Nat → Int32), i < 4 ^ n → (∀ k, k < n → W k = nI (dgt n i k)) → (∀ k, n ≤ k → (nwF W n).2 k = W k) ∧
    (i + 1 < 4 ^ n → ∃ c, c < n ∧ (nwF W n).1 = nI c ∧ (∀ k, k < n → (nwF W n).2 k = nI (dgt n (i + 1) k)) ∧ ∀ k, k < c → (nwF W n).2 k = W k) ∧
    (i + 1 = 4 ^ n → (nwF W n).1 = -1)
  | 0, i, W, hi, _ => by
    refine ⟨fun k _ => rfl, fun h => ?_, fun _ => rfl⟩
    rw [Nat.pow_zero] at h
    omega
  | n + 1, i, W, hi, hW => by
    have h4 : 4 ^ (n + 1) = 4 ^ n * 4 := Nat.pow_succ 4 n
    have hl := hW n (Nat.lt_succ_self n)
    rw [dgt_last] at hl
    have hm : i % 4 < 4 := Nat.mod_lt i (by omega)
    by_cases h3 : i % 4 = 3
    · have e : nwF W (n + 1) = nwF (upd W n 0) n := if_pos (by rw [hl, h3]; decide)
      have hi' : i / 4 < 4 ^ n := by omega
      obtain ⟨p1, p2, p3⟩ := nw_dig n (i / 4) (upd W n 0) hi' (fun k hk => by rw [pk_un (by omega), hW k (by omega), dgt_up hk])
      rw [e]
      refine ⟨fun k hk => ?_, fun h => ?_, fun h => p3 (by omega)⟩
      · rw [p1 k (by omega), pk_un (by omega)]
      · obtain ⟨c, hc, e1, e2, e3⟩ := p2 (by omega)
        refine ⟨c, by omega, e1, fun k hk => ?_, fun k hk => ?_⟩
        · by_cases hkn : k < n
          · rw [e2 k hkn, dgt_up hkn, show (i + 1) / 4 = i / 4 + 1 by omega]
          · rw [show k = n by omega, p1 n (Nat.le_refl n), pk_us, dgt_last, show (i + 1) % 4 = 0 by omega]
            rfl
        · rw [e3 k hk, pk_un (by omega)]
    · have hlt : ¬ (3 : Int32) ≤ W n := by
        rw [hl]
        intro q
        have := (nI_leI (a := 3) (b := i % 4) (by omega) (by omega)).mp q
        omega
      have e : nwF W (n + 1) = (nI n, upd W n (W n + 1)) := if_neg hlt
      rw [e]
      refine ⟨fun k hk => pk_un (by omega), fun h => ⟨n, Nat.lt_succ_self n, rfl, fun k hk => ?_, fun k hk => pk_un (by omega)⟩, fun h => by omega⟩
      by_cases hkn : k < n
      · show upd W n (W n + 1) k = _
        rw [pk_un (by omega), hW k (by omega), dgt_up hkn, dgt_up hkn, show (i + 1) / 4 = i / 4 by omega]
      · rw [show k = n by omega]
        show upd W n (W n + 1) n = _
        rw [pk_us, dgt_last, hl, nI_1, show (i + 1) % 4 = i % 4 + 1 by omega]
theorem aW_75 {G : IG} {W : Nat → Int32} (w : Nat) : aW (upw G 75 W) w = if w = 9 then W else aW G w := by
  funext k
  unfold aW svC
  by_cases h0 : w = 0
  · rw [if_pos h0, if_pos h0, if_neg (by omega), upw_n _ _ _ (by omega)]
  by_cases h1 : w = 1
  · rw [if_neg h0, if_pos h1, if_neg h0, if_pos h1, if_neg (by omega), upw_n _ _ _ (by omega)]
  rw [if_neg h0, if_neg h1]
  by_cases h9 : w = 9
  · subst h9
    rw [if_pos rfl]
    show (if 9 < 11 then upw G 75 W (64 + 2 + 9) k else _) = W k
    rw [if_pos (by omega)]
    exact upw_s _ _ _ _
  · rw [if_neg h9, if_neg h0, if_neg h1]
    by_cases hw : w < 11
    · rw [if_pos hw, if_pos hw, upw_n _ _ _ (by omega)]
    · rw [if_neg hw, if_neg hw, upw_n _ _ _ (by omega)]
/-- the next way of words -/
theorem TH.next {a : Sv} {hn vn ru n i : Nat} {G : IG} (h : TH (sayS a n i) hn vn ru G) (hd : HdS a hn vn) {W : Nat → Int32} (hW : ∀ k, k < n → W k = nI (dgt n (i + 1) k)) (hW2 : ∀ k, n ≤ k → W k = G 75 k) : TH (sayS a n (i + 1)) hn vn ru (upw G 75 W) := by
  obtain ⟨e0, e1, e2, e3, -⟩ := h
  have hq : ∀ w k, w ≠ 9 → sayS a n i w k = sayS a n (i + 1) w k := fun w k hw => by
    unfold sayS
    rw [if_neg (by omega), if_neg (by omega)]
  refine ⟨(upw_n _ _ _ (by omega)).trans e0, (upw_n _ _ _ (by omega)).trans e1, (upw_n _ _ _ (by omega)).trans e2, ?_, fun v hv => ?_⟩
  · refine ⟨?_, ?_, ?_, ?_, ?_, ?_⟩
    · intro p hp
      rw [aW_75, if_neg (by omega), ← hq 0 p (by omega)]
      exact e3.1 p hp
    · intro p hp
      rw [aW_75, if_neg (by omega), ← hq 1 p (by omega)]
      exact e3.2.1 p hp
    · intro p hp
      rw [aW_75, if_neg (by omega), ← hq 2 p (by omega)]
      exact e3.2.2.1 p hp
    · rw [aW_75, if_neg (by omega), ← hq 3 0 (by omega)]
      exact e3.2.2.2.1
    · intro w k hw hk
      rw [aW_75, if_neg (by omega), ← hq w k (by omega)]
      exact e3.2.2.2.2.1 w k hw hk
    · intro w k hw hk
      rw [aW_75]
      by_cases h9 : w = 9
      · subst h9
        rw [if_pos rfl]
        unfold sayS
        by_cases hkn : k < n
        · rw [if_pos ⟨rfl, hkn⟩]
          exact hW k hkn
        · rw [if_neg (by omega), hW2 k (by omega)]
          have := e3.2.2.2.2.2 9 k (by omega) hk
          unfold sayS at this
          rw [if_neg (by omega)] at this
          exact this
      · rw [if_neg h9, ← hq w k h9]
        exact e3.2.2.2.2.2 w k hw hk
  · obtain ⟨j, h1, h2⟩ := hd v hv
    refine ⟨j, h1, ?_⟩
    unfold sayS
    rw [if_neg (by omega)]
    exact h2
/-- courses of the visits ahead of what was changed stand -/
theorem CWp.say {M : TM} {a : Sv} {hn vn : Nat} {G G1 : IG} {n i c : Nat} (h : CWp M (sayS a n i) G c) (hd : HdS a hn vn) (hc : ∀ k, k < c → dgt n (i + 1) k = dgt n i k) (h1 : ∀ j, j ≠ 75 → G1 j = G j) : CWp M (sayS a n (i + 1)) G1 c := by
  have e : ∀ w k, (w ≠ 9 ∨ k < c) → sayS a n i w k = sayS a n (i + 1) w k := by
    intro w k q
    unfold sayS
    by_cases h9 : w = 9 ∧ k < n
    · rw [if_pos h9, if_pos h9, hc k (by omega)]
    · rw [if_neg h9, if_neg h9]
  have e2 : ∀ w, w ≠ 9 → sayS a n i w = sayS a n (i + 1) w := fun w q => funext fun k => e w k (Or.inl q)
  have hR : ∀ u, u < c → Rv (sayS a n i) (sayS a n (i + 1)) u := fun u hu =>
    ⟨by rw [e2 2 (by omega)]; exact E4.rf, by rw [e2 3 (by omega)], by rw [e2 7 (by omega)], by rw [e2 8 (by omega)], e 9 u (Or.inr hu), fun w hw => by rw [e2 w (by omega)]⟩
  have hC := fun u hu => crs_E4 (M := M) (a := sayS a n i) (b := sayS a n (i + 1)) (n := c) (by rw [e2 0 (by omega)]; exact E4.rf) (by rw [e2 1 (by omega)]; exact E4.rf) hR u hu
  intro v hv
  obtain ⟨d1, d2, d3⟩ := h v hv
  rw [h1 _ (by omega), h1 _ (by omega), h1 _ (by omega)]
  refine ⟨d1.tr (hC (v + 1) (by omega)).1, d2.trans ?_, d3.trans ?_⟩
  · exact ofA_E4 (by rw [e2 2 (by omega)]; exact E4.rf) (hC (v + 1) (by omega)).1 (hC (v + 1) (by omega)).2
  · exact ctA_E4 (hR v hv) (hC v (by omega)).1 (hC v (by omega)).2
/-- what a sheet shows, tried one by one -/
def btF (f : Nat → Int32) : Nat → Int32
  | 0 => 0
  | k + 1 => if f k = -1 then btF f k ||| (1 <<< (nI k &&& 31)) else btF f k
theorem btF_s {f : Nat → Int32} {k : Nat} : btF f (k + 1) = if f k = -1 then btF f k ||| (1 <<< (nI k &&& 31)) else btF f k := rfl
def fotF (M : TM) (a : Sv) (row : Nat → Int32) (pl sz : Nat) : Int32 := foF row (fun v => (crs M a (v + 1)).1 pl) 0 sz
def pictF (M : TM) (a : Sv) (vn : Nat) (row : Nat → Int32) (so : Int32) (sz pl : Nat) : Int32 := if prF so sz vn = 0 then fotF M a row pl sz else prF so sz vn
theorem c_fotT (l : Launch) (E : Ev) {G : IG} {o : Option Nat} {z : Int64} {a : Sv} {hn vn ru t sz pl : Nat} {M : TM} {row : Nat → Int32} (hB : XB hn vn ru) (hC : CWp M a G vn) (ht : t < 4) (hsz : sz ≤ vn) (hpl : pl < 4) (h2 : G (29 + 2 * t) 2 = nI sz) (hr : G (29 + 2 * t + 1) = row) : Ct l E 88 yX4_firstOtherwise cX4_firstOtherwise 4 (some .int) 1 [.ref (E.2.1 63), .ref (E.2.1 (29 + 2 * t)), .int (nI pl)] G (RFo o) z (Zi (RFo o) z (fotF M a row pl sz) G) := by
  refine (c_X4_firstOtherwise l E ht (by have := hB.2.1; omega) hpl h2).wk ?_
  rintro _ _ _ _ ⟨rfl, rfl, rfl, rfl⟩
  refine Zi.mk ?_ rfl
  rw [hr]
  exact foF_c sz 0 (fun j _ hj => ⟨rfl, (hC j (by omega)).1 pl hpl⟩)
def ttF (M : Nat → TM) (a : Sv) (row : Nat → Int32) (pl sz tc : Nat) : Int32 := btF (fun t => fotF (M t) a row pl sz) tc
def vsF (M : TM) (a : Sv) (row : Nat → Int32) (pl sz w of n : Nat) : Int32 := btF (fun v => fotF M (up2 a w of (nI v)) row pl sz) n
def mostN (hn : Nat) (w : Nat) : Nat := if w = 4 then 10 else if w = 5 then 11 else if w = 7 then hn else if w = 8 then 21 else 4

theorem sayS_0 {a : Sv} {hn vn n : Nat} : Req (filS a 9 0 n) (sayS a n 0) hn vn := by
  have e : ∀ w k, filS a 9 0 n w k = sayS a n 0 w k := by
    intro w k
    rw [filS_r]
    unfold sayS dgt
    by_cases h : w = 9 ∧ k < n
    · rw [if_pos h, if_pos h, Nat.zero_div]
      rfl
    · rw [if_neg h, if_neg h]
  exact ⟨fun p _ => e _ _, fun p _ => e _ _, fun p _ => e _ _, e _ _, fun w k _ _ => e _ _, fun w k _ _ => e _ _⟩
theorem TH.req {a b : Sv} {hn vn ru : Nat} {G : IG} (h : TH a hn vn ru G) (hR : Req a b hn vn) : TH b hn vn ru G := ⟨h.1, h.2.1, h.2.2.1, h.2.2.2.1.tr hR, hR.hds h.2.2.2.2⟩
theorem say_dg {a : Sv} {hn vn ru n i : Nat} {G : IG} (hH : TH (sayS a n i) hn vn ru G) (hnv : n ≤ vn) : ∀ k, k < n → G 75 k = nI (dgt n i k) := by
  intro k hk
  have := hH.2.2.2.1.2.2.2.2.2 9 k (by omega) (by omega)
  unfold sayS at this
  rw [if_pos ⟨rfl, hk⟩] at this
  exact this
theorem dgt_eq {n i j k : Nat} (h : nI (dgt n i k) = nI (dgt n j k)) : dgt n i k = dgt n j k := by
  have h1 : dgt n i k < 4 := Nat.mod_lt _ (by omega)
  have h2 : dgt n j k < 4 := Nat.mod_lt _ (by omega)
  exact (nI_eq (by omega) (by omega)).mp h
theorem Fr_75 {g G : IG} {W : Nat → Int32} (h : Fr scr g G) : Fr scr g (upw G 75 W) := h.upw (by unfold scr; omega)

theorem wdI_nn : ∀ (n : Nat) (f : Nat → Nat), n ≤ 4 → (∀ k, k < n → f k < 4) → ∃ j, j < 10 ^ n ∧ wdI (fun k => nI (f k)) n = nI j
  | 0, _, _, _ => ⟨0, by omega, rfl⟩
  | n + 1, f, hn, hf => by
    obtain ⟨j, hj, e⟩ := wdI_nn n f (by omega) (fun k hk => hf k (by omega))
    have h1 := hf n (Nat.lt_succ_self n)
    refine ⟨10 * j + f n, by rw [Nat.pow_succ]; omega, ?_⟩
    unfold wdI
    rw [e, show (10 : Int32) = nI 10 from rfl, pk_mul, nI_add]
theorem odg_ne {n i : Nat} (hn : n ≤ 4) : odg n (some i) ≠ -1 := by
  obtain ⟨j, hj, e⟩ := wdI_nn n (dgt n i) hn (fun k _ => Nat.mod_lt _ (by omega))
  have h4 : 10 ^ n ≤ 10 ^ 4 := Nat.pow_le_pow_right (by omega) hn
  show wdI _ n ≠ -1
  rw [e]
  intro q
  have := nI_pos (n := j) (by omega)
  rw [q] at this
  exact this (by decide)
