/-! THE CLASS: words that are said, pictures read back, the host -/
/-- the way of words number i at the first n visits: its digits to the base 4 -/
def dgt (n i k : Nat) : Nat := i / 4 ^ (n - 1 - k) % 4
def sayS (a : Sv) (n i : Nat) : Sv := fun w k => if w = 9 ∧ k < n then nI (dgt n i k) else a w k
def sayE (M : TM) (a : Sv) (vn n i : Nat) : Int32 := BDs M (sayS a n i) vn
def odg (n : Nat) : Option Nat → Int32
  | none => -1
  | some i => wdI (fun k => nI (dgt n i k)) n
def sayF (M : TM) (a : Sv) (vn : Nat) (x1 x2 : Int32) : Int32 :=
  if x1 < 0 then -2 else if 4 < x1 then -2 else if nI vn < x1 then -2 else if fosI x2 = 0 then -2
  else if x2 = 0 then ov (sayE M a vn (clI x1)) (mns (sayE M a vn (clI x1)) (4 ^ clI x1)) else odg (clI x1) (mns (sayE M a vn (clI x1)) (4 ^ clI x1))
theorem wdI_c {W W' : Nat → Int32} : ∀ n, (∀ k, k < n → W k = W' k) → wdI W n = wdI W' n
  | 0, _ => rfl
  | n + 1, h => by
    unfold wdI
    rw [wdI_c n (fun k hk => h k (by omega)), h n (by omega)]
theorem dgt_last {n i : Nat} : dgt (n + 1) i n = i % 4 := by
  unfold dgt
  rw [show n + 1 - 1 - n = 0 by omega, Nat.pow_zero, Nat.div_one]
theorem dgt_up {n i k : Nat} (hk : k < n) : dgt (n + 1) i k = dgt n (i / 4) k := by
  unfold dgt
  rw [show n + 1 - 1 - k = n - 1 - k + 1 by omega, Nat.pow_succ, Nat.mul_comm, ← Nat.div_div_eq_div_mul]
theorem nw_dig : ∀ (n i : Nat) (W : Nat → Int32), i < 4 ^ n → (∀ k, k < n → W k = nI (dgt n i k)) → (∀ k, n ≤ k → (nwF W n).2 k = W k) ∧
    (i + 1 < 4 ^ n → ∃ c, c < n ∧ (nwF W n).1 = nI c ∧ (∀ k, k < n → (nwF W n).2 k = nI (dgt n (i + 1) k)) ∧ ∀ k, k < c → (nwF W n).2 k = W k) ∧
    (i + 1 = 4 ^ n → (nwF W n).1 = -1)
  | 0, i, W, hi, _ => by
    refine ⟨fun k _ => rfl, fun h => ?_, fun _ => rfl⟩
    rw [Nat.pow_zero] at h
    omega
  | n + 1, i, W, hi, hW => by
    have h4 : 4 ^ (n + 1) = 4 ^ n * 4 := Nat.pow_succ 4 n
    have hl := hW n (Nat.lt_succ_self n)
    rw [dgt_last] at hl
    have hm : i % 4 < 4 := Nat.mod_lt i (by omega)
    by_cases h3 : i % 4 = 3
    · have e : nwF W (n + 1) = nwF (upd W n 0) n := if_pos (by rw [hl, h3]; decide)
      have hi' : i / 4 < 4 ^ n := by omega
      obtain ⟨p1, p2, p3⟩ := nw_dig n (i / 4) (upd W n 0) hi' (fun k hk => by rw [pk_un (by omega), hW k (by omega), dgt_up hk])
      rw [e]
      refine ⟨fun k hk => ?_, fun h => ?_, fun h => p3 (by omega)⟩
      · rw [p1 k (by omega), pk_un (by omega)]
      · obtain ⟨c, hc, e1, e2, e3⟩ := p2 (by omega)
        refine ⟨c, by omega, e1, fun k hk => ?_, fun k hk => ?_⟩
        · by_cases hkn : k < n
          · rw [e2 k hkn, dgt_up hkn, show (i + 1) / 4 = i / 4 + 1 by omega]
          · rw [show k = n by omega, p1 n (Nat.le_refl n), pk_us, dgt_last, show (i + 1) % 4 = 0 by omega]
            rfl
        · rw [e3 k hk, pk_un (by omega)]
    · have hlt : ¬ (3 : Int32) ≤ W n := by
        rw [hl]
        intro q
        have := (nI_leI (a := 3) (b := i % 4) (by omega) (by omega)).mp q
        omega
      have e : nwF W (n + 1) = (nI n, upd W n (W n + 1)) := if_neg hlt
      rw [e]
      refine ⟨fun k hk => pk_un (by omega), fun h => ⟨n, Nat.lt_succ_self n, rfl, fun k hk => ?_, fun k hk => pk_un (by omega)⟩, fun h => by omega⟩
      by_cases hkn : k < n
      · show upd W n (W n + 1) k = _
        rw [pk_un (by omega), hW k (by omega), dgt_up hkn, dgt_up hkn, show (i + 1) / 4 = i / 4 by omega]
      · rw [show k = n by omega]
        show upd W n (W n + 1) n = _
        rw [pk_us, dgt_last, hl, nI_1, show (i + 1) % 4 = i % 4 + 1 by omega]
theorem aW_75 {G : IG} {W : Nat → Int32} (w : Nat) : aW (upw G 75 W) w = if w = 9 then W else aW G w := by
  funext k
  unfold aW svC
  by_cases h0 : w = 0
  · rw [if_pos h0, if_pos h0, if_neg (by omega), upw_n _ _ _ (by omega)]
  by_cases h1 : w = 1
  · rw [if_neg h0, if_pos h1, if_neg h0, if_pos h1, if_neg (by omega), upw_n _ _ _ (by omega)]
  rw [if_neg h0, if_neg h1]
  by_cases h9 : w = 9
  · subst h9
    rw [if_pos rfl]
    show (if 9 < 11 then upw G 75 W (64 + 2 + 9) k else _) = W k
    rw [if_pos (by omega)]
    exact upw_s _ _ _ _
  · rw [if_neg h9, if_neg h0, if_neg h1]
    by_cases hw : w < 11
    · rw [if_pos hw, if_pos hw, upw_n _ _ _ (by omega)]
    · rw [if_neg hw, if_neg hw, upw_n _ _ _ (by omega)]
/-- the next way of words -/
theorem TH.next {a : Sv} {hn vn ru n i : Nat} {G : IG} (h : TH (sayS a n i) hn vn ru G) (hd : HdS a hn vn) {W : Nat → Int32} (hW : ∀ k, k < n → W k = nI (dgt n (i + 1) k)) (hW2 : ∀ k, n ≤ k → W k = G 75 k) : TH (sayS a n (i + 1)) hn vn ru (upw G 75 W) := by
  obtain ⟨e0, e1, e2, e3, -⟩ := h
  have hq : ∀ w k, w ≠ 9 → sayS a n i w k = sayS a n (i + 1) w k := fun w k hw => by
    unfold sayS
    rw [if_neg (by omega), if_neg (by omega)]
  refine ⟨(upw_n _ _ _ (by omega)).trans e0, (upw_n _ _ _ (by omega)).trans e1, (upw_n _ _ _ (by omega)).trans e2, ?_, fun v hv => ?_⟩
  · refine ⟨?_, ?_, ?_, ?_, ?_, ?_⟩
    · intro p hp
      rw [aW_75, if_neg (by omega), ← hq 0 p (by omega)]
      exact e3.1 p hp
    · intro p hp
      rw [aW_75, if_neg (by omega), ← hq 1 p (by omega)]
      exact e3.2.1 p hp
    · intro p hp
      rw [aW_75, if_neg (by omega), ← hq 2 p (by omega)]
      exact e3.2.2.1 p hp
    · rw [aW_75, if_neg (by omega), ← hq 3 0 (by omega)]
      exact e3.2.2.2.1
    · intro w k hw hk
      rw [aW_75, if_neg (by omega), ← hq w k (by omega)]
      exact e3.2.2.2.2.1 w k hw hk
    · intro w k hw hk
      rw [aW_75]
      by_cases h9 : w = 9
      · subst h9
        rw [if_pos rfl]
        unfold sayS
        by_cases hkn : k < n
        · rw [if_pos ⟨rfl, hkn⟩]
          exact hW k hkn
        · rw [if_neg (by omega), hW2 k (by omega)]
          have := e3.2.2.2.2.2 9 k (by omega) hk
          unfold sayS at this
          rw [if_neg (by omega)] at this
          exact this
      · rw [if_neg h9, ← hq w k h9]
        exact e3.2.2.2.2.2 w k hw hk
  · obtain ⟨j, h1, h2⟩ := hd v hv
    refine ⟨j, h1, ?_⟩
    unfold sayS
    rw [if_neg (by omega)]
    exact h2
/-- courses of the visits ahead of what was changed stand -/
theorem CWp.say {M : TM} {a : Sv} {hn vn : Nat} {G G1 : IG} {n i c : Nat} (h : CWp M (sayS a n i) G c) (hd : HdS a hn vn) (hc : ∀ k, k < c → dgt n (i + 1) k = dgt n i k) (h1 : ∀ j, j ≠ 75 → G1 j = G j) : CWp M (sayS a n (i + 1)) G1 c := by
  have e : ∀ w k, (w ≠ 9 ∨ k < c) → sayS a n i w k = sayS a n (i + 1) w k := by
    intro w k q
    unfold sayS
    by_cases h9 : w = 9 ∧ k < n
    · rw [if_pos h9, if_pos h9, hc k (by omega)]
    · rw [if_neg h9, if_neg h9]
  have e2 : ∀ w, w ≠ 9 → sayS a n i w = sayS a n (i + 1) w := fun w q => funext fun k => e w k (Or.inl q)
  have hR : ∀ u, u < c → Rv (sayS a n i) (sayS a n (i + 1)) u := fun u hu =>
    ⟨by rw [e2 2 (by omega)]; exact E4.rf, by rw [e2 3 (by omega)], by rw [e2 7 (by omega)], by rw [e2 8 (by omega)], e 9 u (Or.inr hu), fun w hw => by rw [e2 w (by omega)]⟩
  have hC := fun u hu => crs_E4 (M := M) (a := sayS a n i) (b := sayS a n (i + 1)) (n := c) (by rw [e2 0 (by omega)]; exact E4.rf) (by rw [e2 1 (by omega)]; exact E4.rf) hR u hu
  intro v hv
  obtain ⟨d1, d2, d3⟩ := h v hv
  rw [h1 _ (by omega), h1 _ (by omega), h1 _ (by omega)]
  refine ⟨d1.tr (hC (v + 1) (by omega)).1, d2.trans ?_, d3.trans ?_⟩
  · exact ofA_E4 (by rw [e2 2 (by omega)]; exact E4.rf) (hC (v + 1) (by omega)).1 (hC (v + 1) (by omega)).2
  · exact ctA_E4 (hR v hv) (hC v (by omega)).1 (hC v (by omega)).2
/-- what a sheet shows, tried one by one -/
def btF (f : Nat → Int32) : Nat → Int32
  | 0 => 0
  | k + 1 => if f k = -1 then btF f k ||| (1 <<< (nI k &&& 31)) else btF f k
theorem btF_s {f : Nat → Int32} {k : Nat} : btF f (k + 1) = if f k = -1 then btF f k ||| (1 <<< (nI k &&& 31)) else btF f k := rfl
def fotF (M : TM) (a : Sv) (row : Nat → Int32) (pl sz : Nat) : Int32 := foF row (fun v => (crs M a (v + 1)).1 pl) 0 sz
def pictF (M : TM) (a : Sv) (vn : Nat) (row : Nat → Int32) (so : Int32) (sz pl : Nat) : Int32 := if prF so sz vn = 0 then fotF M a row pl sz else prF so sz vn
theorem c_fotT (l : Launch) (E : Ev) {G : IG} {o : Option Nat} {z : Int64} {a : Sv} {hn vn ru t sz pl : Nat} {M : TM} {row : Nat → Int32} (hB : XB hn vn ru) (hC : CWp M a G vn) (ht : t < 4) (hsz : sz ≤ vn) (hpl : pl < 4) (h2 : G (29 + 2 * t) 2 = nI sz) (hr : G (29 + 2 * t + 1) = row) : Ct l E 115 yX4_firstOtherwise cX4_firstOtherwise 4 (some .int) 1 [.ref (E.2.1 63), .ref (E.2.1 (29 + 2 * t)), .int (nI pl)] G (RFo o) z (Zi (RFo o) z (fotF M a row pl sz) G) := by
  refine (c_X4_firstOtherwise l E ht (by have := hB.2.1; omega) hpl h2).wk ?_
  rintro _ _ _ _ ⟨rfl, rfl, rfl, rfl⟩
  refine Zi.mk ?_ rfl
  rw [hr]
  exact foF_c sz 0 (fun j _ hj => ⟨rfl, (hC j (by omega)).1 pl hpl⟩)
def ttF (M : Nat → TM) (a : Sv) (row : Nat → Int32) (pl sz tc : Nat) : Int32 := btF (fun t => fotF (M t) a row pl sz) tc
def vsF (M : TM) (a : Sv) (row : Nat → Int32) (pl sz w of n : Nat) : Int32 := btF (fun v => fotF M (up2 a w of (nI v)) row pl sz) n
def mostN (hn : Nat) (w : Nat) : Nat := if w = 4 then 10 else if w = 5 then 11 else if w = 7 then hn else if w = 8 then 21 else 4

set_option maxHeartbeats 1000000 in
set_option maxRecDepth 20000 in
theorem say_loop0 {l : Launch} {E : Ev} {Z : ZT} {g : IG} {o : Option Nat} {z : Int64} {p : Program} {e : Env} {s : State} {m : MethodId} {args : Array Value} {below : List Frame} {meth : Method} {c : Code} {hn vn ru tc : Nat} {M : Nat → TM} (hX : XP g hn vn ru tc M) {n : Nat} (hn4 : n ≤ 4) (x2 : Int32) (cx : Cx p s m args meth c E 115 cX5_say 8 yX5_say.cls (some .int)) : ∀ (k v : Nat) (G : IG), v + k = n → Fr scr g G → TH (filS (svC g 37) 9 0 v) hn vn ru G → (∀ G', Fr scr g G' → TH (filS (svC g 37) 9 0 n) hn vn ru G' → Go p l e (rmd 6) s m args below meth c E 115 8 Z G' (RFo o) z 64 [(0, .ref (E.2.1 0)), (1, .int (nI n)), (2, .int x2)] []) → Go p l e (rmd 6) s m args below meth c E 115 8 Z G (RFo o) z 39 [(3, .int (nI v)), (0, .ref (E.2.1 0)), (1, .int (nI n)), (2, .int x2)] [] := by
  obtain ⟨hhn5, hvn8, hruc, htc6⟩ := id hX.1
  intro k
  induction k with
  | zero =>
    intro v G hk hF hH kk
    have hq : v = n := by omega
    subst hq
    refine go_iload_n (pc' := 40) cx dX5_say_39 rfl rfl ?_
    refine go_iload_n (pc' := 41) cx dX5_say_40 rfl rfl ?_
    refine go_icmp_ge (pc' := 44) cx 64 dX5_say_41 rfl rfl (fun _ => ?_) (fun hh => absurd ((nI_leI (a := v) (b := v) (by omega) (by omega)).mpr (Nat.le_refl _)) hh)
    refine go_sub [1, 2, 3] [(0, .ref (E.2.1 0)), (1, .int (nI v)), (2, .int x2)] rfl ?_
    exact kk G hF hH
  | succ k ih =>
    intro v G hk hF hH kk
    refine go_iload_n (pc' := 40) cx dX5_say_39 rfl rfl ?_
    refine go_iload_n (pc' := 41) cx dX5_say_40 rfl rfl ?_
    refine go_icmp_ge (pc' := 44) cx 64 dX5_say_41 rfl rfl (fun hh => absurd ((nI_leI (a := n) (b := v) (by omega) (by omega)).mp hh) (by omega)) (fun _ => ?_)
    refine go_aload_n (pc' := 45) cx dX5_say_44 rfl rfl ?_
    refine go_getr (pc' := 48) cx 63 fX5_78 dX5_say_45 kq0 (ltn rfl) (ltn rfl) rfl rfl rfl ?_
    refine go_getr (pc' := 51) cx 64 fX5_114 dX5_say_48 kq63 (ltn rfl) (ltn rfl) rfl rfl rfl ?_
    refine go_bipush (pc' := 53) cx 9 dX5_say_51 rfl rfl ?_
    refine go_iload_n (pc' := 54) cx dX5_say_53 rfl rfl ?_
    refine go_iconst (pc' := 55) cx 0 dX5_say_54 rfl rfl ?_
    refine go_cVV (pc' := 58) cx (c_writeT l E (G := G) hF hH (w := 9) (k := v) (by omega) (by omega) (by omega) (nI v) (fun _ => rfl) (by omega) 0 ((hH).2.2.2.2.up v 0 (by omega))) mX1_write lX5_92 dX5_say_55 kq64 (ltn rfl) (ltn rfl) rfl rfl rfl rfl (ltn rfl) (Nat.le_of_ble_eq_true rfl) (Nat.le_of_ble_eq_true rfl) rfl (fun G_1 hG_1 => ?_)
    refine go_iinc (pc' := 61) cx (nI (v + 1)) dX5_say_58 rfl (nI_1 v) (ltn rfl) [(3, .int (nI (v + 1))), (0, .ref (E.2.1 0)), (1, .int (nI n)), (2, .int x2)] rfl rfl ?_
    refine go_goto cx 39 dX5_say_61 rfl ?_
    exact ih (v + 1) G_1 (by omega) hG_1.1 (hG_1.2.1) kk

theorem sayS_0 {a : Sv} {hn vn n : Nat} : Req (filS a 9 0 n) (sayS a n 0) hn vn := by
  have e : ∀ w k, filS a 9 0 n w k = sayS a n 0 w k := by
    intro w k
    rw [filS_r]
    unfold sayS dgt
    by_cases h : w = 9 ∧ k < n
    · rw [if_pos h, if_pos h, Nat.zero_div]
      rfl
    · rw [if_neg h, if_neg h]
  exact ⟨fun p _ => e _ _, fun p _ => e _ _, fun p _ => e _ _, e _ _, fun w k _ _ => e _ _, fun w k _ _ => e _ _⟩
theorem TH.req {a b : Sv} {hn vn ru : Nat} {G : IG} (h : TH a hn vn ru G) (hR : Req a b hn vn) : TH b hn vn ru G := ⟨h.1, h.2.1, h.2.2.1, h.2.2.2.1.tr hR, hR.hds h.2.2.2.2⟩
theorem c_wdT (l : Launch) (E : Ev) {G : IG} {o : Option Nat} {z : Int64} {a : Sv} {hn vn ru n i : Nat} (hH : TH (sayS a n i) hn vn ru G) (hn4 : n ≤ 4) (hnv : n ≤ vn) : Ct l E 115 yX4_wordDigits cX4_wordDigits 4 (some .int) 1 [.ref (E.2.1 63), .int (nI n)] G (RFo o) z (Zi (RFo o) z (odg n (some i)) G) := by
  refine (c_X4_wordDigits l E (n1 := n) (by omega)).wk ?_
  rintro _ _ _ _ ⟨rfl, rfl, rfl, rfl⟩
  refine Zi.mk (wdI_c n (fun k hk => ?_)) rfl
  have := hH.2.2.2.1.2.2.2.2.2 9 k (by omega) (by omega)
  unfold sayS at this
  rw [if_pos ⟨rfl, hk⟩] at this
  exact this
theorem say_dg {a : Sv} {hn vn ru n i : Nat} {G : IG} (hH : TH (sayS a n i) hn vn ru G) (hnv : n ≤ vn) : ∀ k, k < n → G 75 k = nI (dgt n i k) := by
  intro k hk
  have := hH.2.2.2.1.2.2.2.2.2 9 k (by omega) (by omega)
  unfold sayS at this
  rw [if_pos ⟨rfl, hk⟩] at this
  exact this
theorem dgt_eq {n i j k : Nat} (h : nI (dgt n i k) = nI (dgt n j k)) : dgt n i k = dgt n j k := by
  have h1 : dgt n i k < 4 := Nat.mod_lt _ (by omega)
  have h2 : dgt n j k < 4 := Nat.mod_lt _ (by omega)
  exact (nI_eq (by omega) (by omega)).mp h
theorem Fr_75 {g G : IG} {W : Nat → Int32} (h : Fr scr g G) : Fr scr g (upw G 75 W) := h.upw (by unfold scr; omega)

set_option maxHeartbeats 1000000 in
set_option maxRecDepth 20000 in
theorem say_end {l : Launch} {E : Ev} {Z : ZT} {g : IG} {o : Option Nat} {z : Int64} {p : Program} {e : Env} {s : State} {m : MethodId} {args : Array Value} {below : List Frame} {meth : Method} {c : Code} {hn vn ru tc : Nat} {M : Nat → TM} (hX : XP g hn vn ru tc M) {n : Nat} (hn4 : n ≤ 4) (x2 : Int32) (cx : Cx p s m args meth c E 115 cX5_say 8 yX5_say.cls (some .int)) : ∀ G b d, Fr scr g G → b = ov (sayE (M ru) (svC g 37) vn n) (mns (sayE (M ru) (svC g 37) vn n) (4 ^ n)) → d = odg n (mns (sayE (M ru) (svC g 37) vn n) (4 ^ n)) → (∀ G', Fr scr g G' → Go p l e (rmd 6) s m args below meth c E 115 8 Z G' (RFo o) z 148 [(4, .int (odg n (mns (sayE (M ru) (svC g 37) vn n) (4 ^ n)))), (3, .int (ov (sayE (M ru) (svC g 37) vn n) (mns (sayE (M ru) (svC g 37) vn n) (4 ^ n)))), (0, .ref (E.2.1 0)), (1, .int (nI n)), (2, .int x2)] []) → Go p l e (rmd 6) s m args below meth c E 115 8 Z G (RFo o) z 75 [(6, .int (nI (4 ^ n))), (5, .int (-1)), (4, .int d), (3, .int b), (0, .ref (E.2.1 0)), (1, .int (nI n)), (2, .int x2)] [] := by
  obtain ⟨hhn5, hvn8, hruc, htc6⟩ := id hX.1
  intro G b d hF hb hd kk
  subst hb
  subst hd
  have h256 : 4 ^ n ≤ 4 ^ 4 := Nat.pow_le_pow_right (by omega) hn4
  skip
  refine go_iload (pc' := 77) cx dX5_say_75 rfl rfl ?_
  refine go_sipush (pc' := 80) cx 256 dX5_say_77 rfl rfl ?_
  refine go_icmp_ge (pc' := 83) cx 148 dX5_say_80 rfl rfl (fun c80 => ?_) (fun c80 => ?_)
  · have c80 := (nI_leI (a := 256) (b := (4 ^ n)) (by omega) (by omega)).mp c80
    refine go_sub [2, 3, 4, 5, 6] [(4, .int (odg n (mns (sayE (M ru) (svC g 37) vn n) (4 ^ n)))), (3, .int (ov (sayE (M ru) (svC g 37) vn n) (mns (sayE (M ru) (svC g 37) vn n) (4 ^ n)))), (0, .ref (E.2.1 0)), (1, .int (nI n)), (2, .int x2)] rfl ?_
    exact kk G hF
  · have c80 : ¬ 256 ≤ (4 ^ n) := fun q9 => c80 ((nI_leI (a := 256) (b := (4 ^ n)) (by omega) (by omega)).mpr q9)
    refine go_iload (pc' := 85) cx dX5_say_83 rfl rfl ?_
    refine go_iconst (pc' := 86) cx (-1) dX5_say_85 rfl rfl ?_
    refine go_icmp_eq (pc' := 89) cx 148 dX5_say_86 rfl rfl (fun _ => ?_) (fun hh => absurd rfl hh)
    refine go_sub [2, 3, 4, 5, 6] [(4, .int (odg n (mns (sayE (M ru) (svC g 37) vn n) (4 ^ n)))), (3, .int (ov (sayE (M ru) (svC g 37) vn n) (mns (sayE (M ru) (svC g 37) vn n) (4 ^ n)))), (0, .ref (E.2.1 0)), (1, .int (nI n)), (2, .int x2)] rfl ?_
    exact kk G hF

theorem wdI_nn : ∀ (n : Nat) (f : Nat → Nat), n ≤ 4 → (∀ k, k < n → f k < 4) → ∃ j, j < 10 ^ n ∧ wdI (fun k => nI (f k)) n = nI j
  | 0, _, _, _ => ⟨0, by omega, rfl⟩
  | n + 1, f, hn, hf => by
    obtain ⟨j, hj, e⟩ := wdI_nn n f (by omega) (fun k hk => hf k (by omega))
    have h1 := hf n (Nat.lt_succ_self n)
    refine ⟨10 * j + f n, by rw [Nat.pow_succ]; omega, ?_⟩
    unfold wdI
    rw [e, show (10 : Int32) = nI 10 from rfl, pk_mul, nI_add]
theorem odg_ne {n i : Nat} (hn : n ≤ 4) : odg n (some i) ≠ -1 := by
  obtain ⟨j, hj, e⟩ := wdI_nn n (dgt n i) hn (fun k _ => Nat.mod_lt _ (by omega))
  have h4 : 10 ^ n ≤ 10 ^ 4 := Nat.pow_le_pow_right (by omega) hn
  show wdI _ n ≠ -1
  rw [e]
  intro q
  have := nI_pos (n := j) (by omega)
  rw [q] at this
  exact this (by decide)

set_option maxHeartbeats 1000000 in
set_option maxRecDepth 20000 in
theorem say_loop {l : Launch} {E : Ev} {Z : ZT} {g : IG} {o : Option Nat} {z : Int64} {p : Program} {e : Env} {s : State} {m : MethodId} {args : Array Value} {below : List Frame} {meth : Method} {c : Code} {hn vn ru tc : Nat} {M : Nat → TM} (hX : XP g hn vn ru tc M) {n : Nat} (hn4 : n ≤ 4) (hnv : n ≤ vn) (x2 : Int32) (cx : Cx p s m args meth c E 115 cX5_say 8 yX5_say.cls (some .int)) : ∀ (k i : Nat) (G : IG) (ch : Nat) (l1 : Int32), i + (k + 1) = 4 ^ n → Fr scr g G → TH (sayS (svC g 37) n i) hn vn ru G → ch ≤ n → CWp (M ru) (sayS (svC g 37) n i) G ch → (i ≠ 0 → l1 = ov (sayE (M ru) (svC g 37) vn n) (mns (sayE (M ru) (svC g 37) vn n) i)) → (∀ G', Fr scr g G' → Go p l e (rmd 6) s m args below meth c E 115 8 Z G' (RFo o) z 148 [(4, .int (odg n (mns (sayE (M ru) (svC g 37) vn n) (4 ^ n)))), (3, .int (ov (sayE (M ru) (svC g 37) vn n) (mns (sayE (M ru) (svC g 37) vn n) (4 ^ n)))), (0, .ref (E.2.1 0)), (1, .int (nI n)), (2, .int x2)] []) → Go p l e (rmd 6) s m args below meth c E 115 8 Z G (RFo o) z 75 [(6, .int (nI i)), (5, .int (nI ch)), (4, .int (odg n (mns (sayE (M ru) (svC g 37) vn n) i))), (3, .int l1), (0, .ref (E.2.1 0)), (1, .int (nI n)), (2, .int x2)] [] := by
  obtain ⟨hhn5, hvn8, hruc, htc6⟩ := id hX.1
  intro k
  induction k with
  | zero =>
    intro i G ch l1 hk hF hH hcn hcw hl1 kk
    have h256 : 4 ^ n ≤ 4 ^ 4 := Nat.pow_le_pow_right (by omega) hn4
    have hi256 : i < 256 := by omega
    cases hq : mns (sayE (M ru) (svC g 37) vn n) i with
    | none =>
      refine go_iload (pc' := 77) cx dX5_say_75 rfl rfl ?_
      refine go_sipush (pc' := 80) cx 256 dX5_say_77 rfl rfl ?_
      refine go_icmp_ge (pc' := 83) cx 148 dX5_say_80 rfl rfl (fun hh => absurd ((nI_leI (a := 256) (b := i) (by omega) (by omega)).mp hh) (by omega)) (fun _ => ?_)
      refine go_iload (pc' := 85) cx dX5_say_83 rfl rfl ?_
      refine go_iconst (pc' := 86) cx (-1) dX5_say_85 rfl rfl ?_
      refine go_icmp_eq (pc' := 89) cx 148 dX5_say_86 rfl rfl (fun hh => absurd hh (nI_ne_m20 (by omega))) (fun _ => ?_)
      refine go_aload_n (pc' := 90) cx dX5_say_89 rfl rfl ?_
      refine go_getr (pc' := 93) cx 63 fX5_78 dX5_say_90 kq0 (ltn rfl) (ltn rfl) rfl rfl rfl ?_
      refine go_iload (pc' := 95) cx dX5_say_93 rfl rfl ?_
      have hTG_1 := hX.tx hF hX.1.2.2.1
      refine go_cVV (pc' := 98) cx (c_walkvT l E (G := G) hX.b hTG_1 hH (f := ch) (by omega) hcw) mX4_walk lX5_149 dX5_say_95 kq63 (ltn rfl) (ltn rfl) rfl rfl rfl rfl (ltn rfl) (Nat.le_of_ble_eq_true rfl) (Nat.le_of_ble_eq_true rfl) rfl (fun G_1 hG_1 => ?_)
      have hG_1f := (hF).tr (hG_1.1.mono (fun _ => wk_scr))
      have hG_1t := (hH).wk hG_1.1
      have hG_1c := hG_1.2
      refine go_aload_n (pc' := 99) cx dX5_say_98 rfl rfl ?_
      refine go_getr (pc' := 102) cx 63 fX5_78 dX5_say_99 kq0 (ltn rfl) (ltn rfl) rfl rfl rfl ?_
      refine go_cVi (pc' := 105) cx (c_badT l E (G := G_1) hX.b hG_1t (hG_1c).1) mX4_badness lX5_134 dX5_say_102 kq63 (ltn rfl) (ltn rfl) rfl rfl rfl rfl (ltn rfl) (Nat.le_of_ble_eq_true rfl) (Nat.le_of_ble_eq_true rfl) rfl ?_
      refine go_istore (pc' := 107) cx dX5_say_105 (ltn rfl) [(7, .int ((sayE (M ru) (svC g 37) vn n) i)), (6, .int (nI i)), (5, .int (nI ch)), (4, .int (-1)), (3, .int l1), (0, .ref (E.2.1 0)), (1, .int (nI n)), (2, .int x2)] rfl rfl ?_
      refine go_iload (pc' := 109) cx dX5_say_107 rfl rfl ?_
      refine go_iconst (pc' := 110) cx (-1) dX5_say_109 rfl rfl ?_
      refine go_icmp_eq (pc' := 113) cx 119 dX5_say_110 rfl rfl (fun _ => ?_) (fun hh => absurd rfl hh)
      refine go_iload (pc' := 121) cx dX5_say_119 rfl rfl ?_
      refine go_istore_n (pc' := 122) cx dX5_say_121 (ltn rfl) [(3, .int ((sayE (M ru) (svC g 37) vn n) i)), (7, .int ((sayE (M ru) (svC g 37) vn n) i)), (6, .int (nI i)), (5, .int (nI ch)), (4, .int (-1)), (0, .ref (E.2.1 0)), (1, .int (nI n)), (2, .int x2)] rfl rfl ?_
      refine go_aload_n (pc' := 123) cx dX5_say_122 rfl rfl ?_
      refine go_getr (pc' := 126) cx 63 fX5_78 dX5_say_123 kq0 (ltn rfl) (ltn rfl) rfl rfl rfl ?_
      refine go_iload_n (pc' := 127) cx dX5_say_126 rfl rfl ?_
      refine go_cVi (pc' := 130) cx (c_wdT l E (G := G_1) hG_1t hn4 hnv) mX4_wordDigits lX5_153 dX5_say_127 kq63 (ltn rfl) (ltn rfl) rfl rfl rfl rfl (ltn rfl) (Nat.le_of_ble_eq_true rfl) (Nat.le_of_ble_eq_true rfl) rfl ?_
      refine go_istore (pc' := 132) cx dX5_say_130 (ltn rfl) [(4, .int (odg n (some i))), (3, .int ((sayE (M ru) (svC g 37) vn n) i)), (7, .int ((sayE (M ru) (svC g 37) vn n) i)), (6, .int (nI i)), (5, .int (nI ch)), (0, .ref (E.2.1 0)), (1, .int (nI n)), (2, .int x2)] rfl rfl ?_
      refine go_aload_n (pc' := 133) cx dX5_say_132 rfl rfl ?_
      refine go_getr (pc' := 136) cx 63 fX5_78 dX5_say_133 kq0 (ltn rfl) (ltn rfl) rfl rfl rfl ?_
      refine go_iload_n (pc' := 137) cx dX5_say_136 rfl rfl ?_
      obtain ⟨w1, w2, w3⟩ := nw_dig n i (G_1 75) (by omega) (say_dg hG_1t hnv)
      refine go_cVi (pc' := 140) cx (c_X4_nextWords l E (g := G_1) (n1 := n) (by omega)) mX4_nextWords lX5_156 dX5_say_137 kq63 (ltn rfl) (ltn rfl) rfl rfl rfl rfl (ltn rfl) (Nat.le_of_ble_eq_true rfl) (Nat.le_of_ble_eq_true rfl) rfl ?_
      refine go_istore (pc' := 142) cx dX5_say_140 (ltn rfl) [(5, .int ((nwF (G_1 75) n).1)), (4, .int (odg n (some i))), (3, .int ((sayE (M ru) (svC g 37) vn n) i)), (7, .int ((sayE (M ru) (svC g 37) vn n) i)), (6, .int (nI i)), (0, .ref (E.2.1 0)), (1, .int (nI n)), (2, .int x2)] rfl rfl ?_
      refine go_iinc (pc' := 145) cx (nI (i + 1)) dX5_say_142 rfl (nI_1 i) (ltn rfl) [(6, .int (nI (i + 1))), (5, .int ((nwF (G_1 75) n).1)), (4, .int (odg n (some i))), (3, .int ((sayE (M ru) (svC g 37) vn n) i)), (7, .int ((sayE (M ru) (svC g 37) vn n) i)), (0, .ref (E.2.1 0)), (1, .int (nI n)), (2, .int x2)] rfl rfl ?_
      refine go_goto cx 75 dX5_say_145 rfl ?_
      have hq2 : mns (sayE (M ru) (svC g 37) vn n) (i + 1) = some i := mns_0 hq
      have hi4 : i + 1 = 4 ^ n := by omega
      have hw3 := w3 hi4
      refine go_sub [0, 1, 2, 3, 5, 6, 7] [(6, .int (nI (4 ^ n))), (5, .int (-1)), (4, .int (odg n (some i))), (3, .int ((sayE (M ru) (svC g 37) vn n) i)), (0, .ref (E.2.1 0)), (1, .int (nI n)), (2, .int x2)] (by rw [← hi4, ← hw3]; rfl) ?_
      exact say_end hX hn4 x2 cx _ _ _ (Fr_75 hG_1f) (by rw [← hi4, hq2]; try rfl) (by rw [← hi4, hq2]; try rfl) kk
    | some b =>
      have hb := mns_lt hq
      have ebl := hl1 (by omega)
      rw [hq] at ebl
      have ebl : l1 = (sayE (M ru) (svC g 37) vn n) b := ebl
      subst ebl
      refine go_iload (pc' := 77) cx dX5_say_75 rfl rfl ?_
      refine go_sipush (pc' := 80) cx 256 dX5_say_77 rfl rfl ?_
      refine go_icmp_ge (pc' := 83) cx 148 dX5_say_80 rfl rfl (fun hh => absurd ((nI_leI (a := 256) (b := i) (by omega) (by omega)).mp hh) (by omega)) (fun _ => ?_)
      refine go_iload (pc' := 85) cx dX5_say_83 rfl rfl ?_
      refine go_iconst (pc' := 86) cx (-1) dX5_say_85 rfl rfl ?_
      refine go_icmp_eq (pc' := 89) cx 148 dX5_say_86 rfl rfl (fun hh => absurd hh (nI_ne_m20 (by omega))) (fun _ => ?_)
      refine go_aload_n (pc' := 90) cx dX5_say_89 rfl rfl ?_
      refine go_getr (pc' := 93) cx 63 fX5_78 dX5_say_90 kq0 (ltn rfl) (ltn rfl) rfl rfl rfl ?_
      refine go_iload (pc' := 95) cx dX5_say_93 rfl rfl ?_
      have hTG_1 := hX.tx hF hX.1.2.2.1
      refine go_cVV (pc' := 98) cx (c_walkvT l E (G := G) hX.b hTG_1 hH (f := ch) (by omega) hcw) mX4_walk lX5_149 dX5_say_95 kq63 (ltn rfl) (ltn rfl) rfl rfl rfl rfl (ltn rfl) (Nat.le_of_ble_eq_true rfl) (Nat.le_of_ble_eq_true rfl) rfl (fun G_1 hG_1 => ?_)
      have hG_1f := (hF).tr (hG_1.1.mono (fun _ => wk_scr))
      have hG_1t := (hH).wk hG_1.1
      have hG_1c := hG_1.2
      refine go_aload_n (pc' := 99) cx dX5_say_98 rfl rfl ?_
      refine go_getr (pc' := 102) cx 63 fX5_78 dX5_say_99 kq0 (ltn rfl) (ltn rfl) rfl rfl rfl ?_
      refine go_cVi (pc' := 105) cx (c_badT l E (G := G_1) hX.b hG_1t (hG_1c).1) mX4_badness lX5_134 dX5_say_102 kq63 (ltn rfl) (ltn rfl) rfl rfl rfl rfl (ltn rfl) (Nat.le_of_ble_eq_true rfl) (Nat.le_of_ble_eq_true rfl) rfl ?_
      refine go_istore (pc' := 107) cx dX5_say_105 (ltn rfl) [(7, .int ((sayE (M ru) (svC g 37) vn n) i)), (6, .int (nI i)), (5, .int (nI ch)), (4, .int (odg n (some b))), (3, .int ((sayE (M ru) (svC g 37) vn n) b)), (0, .ref (E.2.1 0)), (1, .int (nI n)), (2, .int x2)] rfl rfl ?_
      refine go_iload (pc' := 109) cx dX5_say_107 rfl rfl ?_
      refine go_iconst (pc' := 110) cx (-1) dX5_say_109 rfl rfl ?_
      refine go_icmp_eq (pc' := 113) cx 119 dX5_say_110 rfl rfl (fun hh => absurd hh (odg_ne (by omega))) (fun _ => ?_)
      refine go_iload (pc' := 115) cx dX5_say_113 rfl rfl ?_
      refine go_iload_n (pc' := 116) cx dX5_say_115 rfl rfl ?_
      refine go_icmp_ge (pc' := 119) cx 132 dX5_say_116 rfl rfl (fun c116 => ?_) (fun c116 => ?_)
      · have c116n := Int32.not_lt.mpr c116
        refine go_aload_n (pc' := 133) cx dX5_say_132 rfl rfl ?_
        refine go_getr (pc' := 136) cx 63 fX5_78 dX5_say_133 kq0 (ltn rfl) (ltn rfl) rfl rfl rfl ?_
        refine go_iload_n (pc' := 137) cx dX5_say_136 rfl rfl ?_
        obtain ⟨w1, w2, w3⟩ := nw_dig n i (G_1 75) (by omega) (say_dg hG_1t hnv)
        refine go_cVi (pc' := 140) cx (c_X4_nextWords l E (g := G_1) (n1 := n) (by omega)) mX4_nextWords lX5_156 dX5_say_137 kq63 (ltn rfl) (ltn rfl) rfl rfl rfl rfl (ltn rfl) (Nat.le_of_ble_eq_true rfl) (Nat.le_of_ble_eq_true rfl) rfl ?_
        refine go_istore (pc' := 142) cx dX5_say_140 (ltn rfl) [(5, .int ((nwF (G_1 75) n).1)), (7, .int ((sayE (M ru) (svC g 37) vn n) i)), (6, .int (nI i)), (4, .int (odg n (some b))), (3, .int ((sayE (M ru) (svC g 37) vn n) b)), (0, .ref (E.2.1 0)), (1, .int (nI n)), (2, .int x2)] rfl rfl ?_
        refine go_iinc (pc' := 145) cx (nI (i + 1)) dX5_say_142 rfl (nI_1 i) (ltn rfl) [(6, .int (nI (i + 1))), (5, .int ((nwF (G_1 75) n).1)), (7, .int ((sayE (M ru) (svC g 37) vn n) i)), (4, .int (odg n (some b))), (3, .int ((sayE (M ru) (svC g 37) vn n) b)), (0, .ref (E.2.1 0)), (1, .int (nI n)), (2, .int x2)] rfl rfl ?_
        refine go_goto cx 75 dX5_say_145 rfl ?_
        have hq2 : mns (sayE (M ru) (svC g 37) vn n) (i + 1) = some b := mns_g hq (Int32.not_lt.mpr c116)
        have hi4 : i + 1 = 4 ^ n := by omega
        have hw3 := w3 hi4
        refine go_sub [0, 1, 3, 4, 5, 6, 7] [(6, .int (nI (4 ^ n))), (5, .int (-1)), (4, .int (odg n (some b))), (3, .int ((sayE (M ru) (svC g 37) vn n) b)), (0, .ref (E.2.1 0)), (1, .int (nI n)), (2, .int x2)] (by rw [← hi4, ← hw3]; rfl) ?_
        exact say_end hX hn4 x2 cx _ _ _ (Fr_75 hG_1f) (by rw [← hi4, hq2]; try rfl) (by rw [← hi4, hq2]; try rfl) kk
      · have c116n := Int32.not_le.mp c116
        refine go_iload (pc' := 121) cx dX5_say_119 rfl rfl ?_
        refine go_istore_n (pc' := 122) cx dX5_say_121 (ltn rfl) [(3, .int ((sayE (M ru) (svC g 37) vn n) i)), (7, .int ((sayE (M ru) (svC g 37) vn n) i)), (6, .int (nI i)), (5, .int (nI ch)), (4, .int (odg n (some b))), (0, .ref (E.2.1 0)), (1, .int (nI n)), (2, .int x2)] rfl rfl ?_
        refine go_aload_n (pc' := 123) cx dX5_say_122 rfl rfl ?_
        refine go_getr (pc' := 126) cx 63 fX5_78 dX5_say_123 kq0 (ltn rfl) (ltn rfl) rfl rfl rfl ?_
        refine go_iload_n (pc' := 127) cx dX5_say_126 rfl rfl ?_
        refine go_cVi (pc' := 130) cx (c_wdT l E (G := G_1) hG_1t hn4 hnv) mX4_wordDigits lX5_153 dX5_say_127 kq63 (ltn rfl) (ltn rfl) rfl rfl rfl rfl (ltn rfl) (Nat.le_of_ble_eq_true rfl) (Nat.le_of_ble_eq_true rfl) rfl ?_
        refine go_istore (pc' := 132) cx dX5_say_130 (ltn rfl) [(4, .int (odg n (some i))), (3, .int ((sayE (M ru) (svC g 37) vn n) i)), (7, .int ((sayE (M ru) (svC g 37) vn n) i)), (6, .int (nI i)), (5, .int (nI ch)), (0, .ref (E.2.1 0)), (1, .int (nI n)), (2, .int x2)] rfl rfl ?_
        refine go_aload_n (pc' := 133) cx dX5_say_132 rfl rfl ?_
        refine go_getr (pc' := 136) cx 63 fX5_78 dX5_say_133 kq0 (ltn rfl) (ltn rfl) rfl rfl rfl ?_
        refine go_iload_n (pc' := 137) cx dX5_say_136 rfl rfl ?_
        obtain ⟨w1, w2, w3⟩ := nw_dig n i (G_1 75) (by omega) (say_dg hG_1t hnv)
        refine go_cVi (pc' := 140) cx (c_X4_nextWords l E (g := G_1) (n1 := n) (by omega)) mX4_nextWords lX5_156 dX5_say_137 kq63 (ltn rfl) (ltn rfl) rfl rfl rfl rfl (ltn rfl) (Nat.le_of_ble_eq_true rfl) (Nat.le_of_ble_eq_true rfl) rfl ?_
        refine go_istore (pc' := 142) cx dX5_say_140 (ltn rfl) [(5, .int ((nwF (G_1 75) n).1)), (4, .int (odg n (some i))), (3, .int ((sayE (M ru) (svC g 37) vn n) i)), (7, .int ((sayE (M ru) (svC g 37) vn n) i)), (6, .int (nI i)), (0, .ref (E.2.1 0)), (1, .int (nI n)), (2, .int x2)] rfl rfl ?_
        refine go_iinc (pc' := 145) cx (nI (i + 1)) dX5_say_142 rfl (nI_1 i) (ltn rfl) [(6, .int (nI (i + 1))), (5, .int ((nwF (G_1 75) n).1)), (4, .int (odg n (some i))), (3, .int ((sayE (M ru) (svC g 37) vn n) i)), (7, .int ((sayE (M ru) (svC g 37) vn n) i)), (0, .ref (E.2.1 0)), (1, .int (nI n)), (2, .int x2)] rfl rfl ?_
        refine go_goto cx 75 dX5_say_145 rfl ?_
        have hq2 : mns (sayE (M ru) (svC g 37) vn n) (i + 1) = some i := mns_l hq (Int32.not_le.mp c116)
        have hi4 : i + 1 = 4 ^ n := by omega
        have hw3 := w3 hi4
        refine go_sub [0, 1, 2, 3, 5, 6, 7] [(6, .int (nI (4 ^ n))), (5, .int (-1)), (4, .int (odg n (some i))), (3, .int ((sayE (M ru) (svC g 37) vn n) i)), (0, .ref (E.2.1 0)), (1, .int (nI n)), (2, .int x2)] (by rw [← hi4, ← hw3]; rfl) ?_
        exact say_end hX hn4 x2 cx _ _ _ (Fr_75 hG_1f) (by rw [← hi4, hq2]; try rfl) (by rw [← hi4, hq2]; try rfl) kk
  | succ k ih =>
    intro i G ch l1 hk hF hH hcn hcw hl1 kk
    have h256 : 4 ^ n ≤ 4 ^ 4 := Nat.pow_le_pow_right (by omega) hn4
    have hi256 : i < 256 := by omega
    cases hq : mns (sayE (M ru) (svC g 37) vn n) i with
    | none =>
      refine go_iload (pc' := 77) cx dX5_say_75 rfl rfl ?_
      refine go_sipush (pc' := 80) cx 256 dX5_say_77 rfl rfl ?_
      refine go_icmp_ge (pc' := 83) cx 148 dX5_say_80 rfl rfl (fun hh => absurd ((nI_leI (a := 256) (b := i) (by omega) (by omega)).mp hh) (by omega)) (fun _ => ?_)
      refine go_iload (pc' := 85) cx dX5_say_83 rfl rfl ?_
      refine go_iconst (pc' := 86) cx (-1) dX5_say_85 rfl rfl ?_
      refine go_icmp_eq (pc' := 89) cx 148 dX5_say_86 rfl rfl (fun hh => absurd hh (nI_ne_m20 (by omega))) (fun _ => ?_)
      refine go_aload_n (pc' := 90) cx dX5_say_89 rfl rfl ?_
      refine go_getr (pc' := 93) cx 63 fX5_78 dX5_say_90 kq0 (ltn rfl) (ltn rfl) rfl rfl rfl ?_
      refine go_iload (pc' := 95) cx dX5_say_93 rfl rfl ?_
      have hTG_1 := hX.tx hF hX.1.2.2.1
      refine go_cVV (pc' := 98) cx (c_walkvT l E (G := G) hX.b hTG_1 hH (f := ch) (by omega) hcw) mX4_walk lX5_149 dX5_say_95 kq63 (ltn rfl) (ltn rfl) rfl rfl rfl rfl (ltn rfl) (Nat.le_of_ble_eq_true rfl) (Nat.le_of_ble_eq_true rfl) rfl (fun G_1 hG_1 => ?_)
      have hG_1f := (hF).tr (hG_1.1.mono (fun _ => wk_scr))
      have hG_1t := (hH).wk hG_1.1
      have hG_1c := hG_1.2
      refine go_aload_n (pc' := 99) cx dX5_say_98 rfl rfl ?_
      refine go_getr (pc' := 102) cx 63 fX5_78 dX5_say_99 kq0 (ltn rfl) (ltn rfl) rfl rfl rfl ?_
      refine go_cVi (pc' := 105) cx (c_badT l E (G := G_1) hX.b hG_1t (hG_1c).1) mX4_badness lX5_134 dX5_say_102 kq63 (ltn rfl) (ltn rfl) rfl rfl rfl rfl (ltn rfl) (Nat.le_of_ble_eq_true rfl) (Nat.le_of_ble_eq_true rfl) rfl ?_
      refine go_istore (pc' := 107) cx dX5_say_105 (ltn rfl) [(7, .int ((sayE (M ru) (svC g 37) vn n) i)), (6, .int (nI i)), (5, .int (nI ch)), (4, .int (-1)), (3, .int l1), (0, .ref (E.2.1 0)), (1, .int (nI n)), (2, .int x2)] rfl rfl ?_
      refine go_iload (pc' := 109) cx dX5_say_107 rfl rfl ?_
      refine go_iconst (pc' := 110) cx (-1) dX5_say_109 rfl rfl ?_
      refine go_icmp_eq (pc' := 113) cx 119 dX5_say_110 rfl rfl (fun _ => ?_) (fun hh => absurd rfl hh)
      refine go_iload (pc' := 121) cx dX5_say_119 rfl rfl ?_
      refine go_istore_n (pc' := 122) cx dX5_say_121 (ltn rfl) [(3, .int ((sayE (M ru) (svC g 37) vn n) i)), (7, .int ((sayE (M ru) (svC g 37) vn n) i)), (6, .int (nI i)), (5, .int (nI ch)), (4, .int (-1)), (0, .ref (E.2.1 0)), (1, .int (nI n)), (2, .int x2)] rfl rfl ?_
      refine go_aload_n (pc' := 123) cx dX5_say_122 rfl rfl ?_
      refine go_getr (pc' := 126) cx 63 fX5_78 dX5_say_123 kq0 (ltn rfl) (ltn rfl) rfl rfl rfl ?_
      refine go_iload_n (pc' := 127) cx dX5_say_126 rfl rfl ?_
      refine go_cVi (pc' := 130) cx (c_wdT l E (G := G_1) hG_1t hn4 hnv) mX4_wordDigits lX5_153 dX5_say_127 kq63 (ltn rfl) (ltn rfl) rfl rfl rfl rfl (ltn rfl) (Nat.le_of_ble_eq_true rfl) (Nat.le_of_ble_eq_true rfl) rfl ?_
      refine go_istore (pc' := 132) cx dX5_say_130 (ltn rfl) [(4, .int (odg n (some i))), (3, .int ((sayE (M ru) (svC g 37) vn n) i)), (7, .int ((sayE (M ru) (svC g 37) vn n) i)), (6, .int (nI i)), (5, .int (nI ch)), (0, .ref (E.2.1 0)), (1, .int (nI n)), (2, .int x2)] rfl rfl ?_
      refine go_aload_n (pc' := 133) cx dX5_say_132 rfl rfl ?_
      refine go_getr (pc' := 136) cx 63 fX5_78 dX5_say_133 kq0 (ltn rfl) (ltn rfl) rfl rfl rfl ?_
      refine go_iload_n (pc' := 137) cx dX5_say_136 rfl rfl ?_
      obtain ⟨w1, w2, w3⟩ := nw_dig n i (G_1 75) (by omega) (say_dg hG_1t hnv)
      refine go_cVi (pc' := 140) cx (c_X4_nextWords l E (g := G_1) (n1 := n) (by omega)) mX4_nextWords lX5_156 dX5_say_137 kq63 (ltn rfl) (ltn rfl) rfl rfl rfl rfl (ltn rfl) (Nat.le_of_ble_eq_true rfl) (Nat.le_of_ble_eq_true rfl) rfl ?_
      refine go_istore (pc' := 142) cx dX5_say_140 (ltn rfl) [(5, .int ((nwF (G_1 75) n).1)), (4, .int (odg n (some i))), (3, .int ((sayE (M ru) (svC g 37) vn n) i)), (7, .int ((sayE (M ru) (svC g 37) vn n) i)), (6, .int (nI i)), (0, .ref (E.2.1 0)), (1, .int (nI n)), (2, .int x2)] rfl rfl ?_
      refine go_iinc (pc' := 145) cx (nI (i + 1)) dX5_say_142 rfl (nI_1 i) (ltn rfl) [(6, .int (nI (i + 1))), (5, .int ((nwF (G_1 75) n).1)), (4, .int (odg n (some i))), (3, .int ((sayE (M ru) (svC g 37) vn n) i)), (7, .int ((sayE (M ru) (svC g 37) vn n) i)), (0, .ref (E.2.1 0)), (1, .int (nI n)), (2, .int x2)] rfl rfl ?_
      refine go_goto cx 75 dX5_say_145 rfl ?_
      have hq2 : mns (sayE (M ru) (svC g 37) vn n) (i + 1) = some i := mns_0 hq
      obtain ⟨c2, hc2, e1, e2, e3⟩ := w2 (by omega)
      refine go_sub [0, 1, 2, 3, 5, 6, 7] [(6, .int (nI (i + 1))), (5, .int (nI c2)), (4, .int (odg n (some i))), (3, .int ((sayE (M ru) (svC g 37) vn n) i)), (0, .ref (E.2.1 0)), (1, .int (nI n)), (2, .int x2)] (by rw [← e1]; rfl) ?_
      have h9 := ih (i + 1) (upw G_1 75 (nwF (G_1 75) n).2) c2 ((sayE (M ru) (svC g 37) vn n) i) (by omega) (Fr_75 hG_1f) ((hG_1t).next hX.2.2.2.2.2.2 e2 w1) (by omega) ((((hG_1c).1.le (show c2 ≤ vn by omega)).say hX.2.2.2.2.2.2 (fun k hk => dgt_eq ((e2 k (by omega)).symm.trans ((e3 k hk).trans (say_dg hG_1t hnv k (by omega)))))) (fun j hj => upw_rn _ _ hj)) (fun _ => by rw [hq2]; first | rfl | exact ebl) kk
      rw [hq2] at h9
      exact h9
    | some b =>
      have hb := mns_lt hq
      have ebl := hl1 (by omega)
      rw [hq] at ebl
      have ebl : l1 = (sayE (M ru) (svC g 37) vn n) b := ebl
      subst ebl
      refine go_iload (pc' := 77) cx dX5_say_75 rfl rfl ?_
      refine go_sipush (pc' := 80) cx 256 dX5_say_77 rfl rfl ?_
      refine go_icmp_ge (pc' := 83) cx 148 dX5_say_80 rfl rfl (fun hh => absurd ((nI_leI (a := 256) (b := i) (by omega) (by omega)).mp hh) (by omega)) (fun _ => ?_)
      refine go_iload (pc' := 85) cx dX5_say_83 rfl rfl ?_
      refine go_iconst (pc' := 86) cx (-1) dX5_say_85 rfl rfl ?_
      refine go_icmp_eq (pc' := 89) cx 148 dX5_say_86 rfl rfl (fun hh => absurd hh (nI_ne_m20 (by omega))) (fun _ => ?_)
      refine go_aload_n (pc' := 90) cx dX5_say_89 rfl rfl ?_
      refine go_getr (pc' := 93) cx 63 fX5_78 dX5_say_90 kq0 (ltn rfl) (ltn rfl) rfl rfl rfl ?_
      refine go_iload (pc' := 95) cx dX5_say_93 rfl rfl ?_
      have hTG_1 := hX.tx hF hX.1.2.2.1
      refine go_cVV (pc' := 98) cx (c_walkvT l E (G := G) hX.b hTG_1 hH (f := ch) (by omega) hcw) mX4_walk lX5_149 dX5_say_95 kq63 (ltn rfl) (ltn rfl) rfl rfl rfl rfl (ltn rfl) (Nat.le_of_ble_eq_true rfl) (Nat.le_of_ble_eq_true rfl) rfl (fun G_1 hG_1 => ?_)
      have hG_1f := (hF).tr (hG_1.1.mono (fun _ => wk_scr))
      have hG_1t := (hH).wk hG_1.1
      have hG_1c := hG_1.2
      refine go_aload_n (pc' := 99) cx dX5_say_98 rfl rfl ?_
      refine go_getr (pc' := 102) cx 63 fX5_78 dX5_say_99 kq0 (ltn rfl) (ltn rfl) rfl rfl rfl ?_
      refine go_cVi (pc' := 105) cx (c_badT l E (G := G_1) hX.b hG_1t (hG_1c).1) mX4_badness lX5_134 dX5_say_102 kq63 (ltn rfl) (ltn rfl) rfl rfl rfl rfl (ltn rfl) (Nat.le_of_ble_eq_true rfl) (Nat.le_of_ble_eq_true rfl) rfl ?_
      refine go_istore (pc' := 107) cx dX5_say_105 (ltn rfl) [(7, .int ((sayE (M ru) (svC g 37) vn n) i)), (6, .int (nI i)), (5, .int (nI ch)), (4, .int (odg n (some b))), (3, .int ((sayE (M ru) (svC g 37) vn n) b)), (0, .ref (E.2.1 0)), (1, .int (nI n)), (2, .int x2)] rfl rfl ?_
      refine go_iload (pc' := 109) cx dX5_say_107 rfl rfl ?_
      refine go_iconst (pc' := 110) cx (-1) dX5_say_109 rfl rfl ?_
      refine go_icmp_eq (pc' := 113) cx 119 dX5_say_110 rfl rfl (fun hh => absurd hh (odg_ne (by omega))) (fun _ => ?_)
      refine go_iload (pc' := 115) cx dX5_say_113 rfl rfl ?_
      refine go_iload_n (pc' := 116) cx dX5_say_115 rfl rfl ?_
      refine go_icmp_ge (pc' := 119) cx 132 dX5_say_116 rfl rfl (fun c116 => ?_) (fun c116 => ?_)
      · have c116n := Int32.not_lt.mpr c116
        refine go_aload_n (pc' := 133) cx dX5_say_132 rfl rfl ?_
        refine go_getr (pc' := 136) cx 63 fX5_78 dX5_say_133 kq0 (ltn rfl) (ltn rfl) rfl rfl rfl ?_
        refine go_iload_n (pc' := 137) cx dX5_say_136 rfl rfl ?_
        obtain ⟨w1, w2, w3⟩ := nw_dig n i (G_1 75) (by omega) (say_dg hG_1t hnv)
        refine go_cVi (pc' := 140) cx (c_X4_nextWords l E (g := G_1) (n1 := n) (by omega)) mX4_nextWords lX5_156 dX5_say_137 kq63 (ltn rfl) (ltn rfl) rfl rfl rfl rfl (ltn rfl) (Nat.le_of_ble_eq_true rfl) (Nat.le_of_ble_eq_true rfl) rfl ?_
        refine go_istore (pc' := 142) cx dX5_say_140 (ltn rfl) [(5, .int ((nwF (G_1 75) n).1)), (7, .int ((sayE (M ru) (svC g 37) vn n) i)), (6, .int (nI i)), (4, .int (odg n (some b))), (3, .int ((sayE (M ru) (svC g 37) vn n) b)), (0, .ref (E.2.1 0)), (1, .int (nI n)), (2, .int x2)] rfl rfl ?_
        refine go_iinc (pc' := 145) cx (nI (i + 1)) dX5_say_142 rfl (nI_1 i) (ltn rfl) [(6, .int (nI (i + 1))), (5, .int ((nwF (G_1 75) n).1)), (7, .int ((sayE (M ru) (svC g 37) vn n) i)), (4, .int (odg n (some b))), (3, .int ((sayE (M ru) (svC g 37) vn n) b)), (0, .ref (E.2.1 0)), (1, .int (nI n)), (2, .int x2)] rfl rfl ?_
        refine go_goto cx 75 dX5_say_145 rfl ?_
        have hq2 : mns (sayE (M ru) (svC g 37) vn n) (i + 1) = some b := mns_g hq (Int32.not_lt.mpr c116)
        obtain ⟨c2, hc2, e1, e2, e3⟩ := w2 (by omega)
        refine go_sub [0, 1, 3, 4, 5, 6, 7] [(6, .int (nI (i + 1))), (5, .int (nI c2)), (4, .int (odg n (some b))), (3, .int ((sayE (M ru) (svC g 37) vn n) b)), (0, .ref (E.2.1 0)), (1, .int (nI n)), (2, .int x2)] (by rw [← e1]; rfl) ?_
        have h9 := ih (i + 1) (upw G_1 75 (nwF (G_1 75) n).2) c2 ((sayE (M ru) (svC g 37) vn n) b) (by omega) (Fr_75 hG_1f) ((hG_1t).next hX.2.2.2.2.2.2 e2 w1) (by omega) ((((hG_1c).1.le (show c2 ≤ vn by omega)).say hX.2.2.2.2.2.2 (fun k hk => dgt_eq ((e2 k (by omega)).symm.trans ((e3 k hk).trans (say_dg hG_1t hnv k (by omega)))))) (fun j hj => upw_rn _ _ hj)) (fun _ => by rw [hq2]; first | rfl | exact ebl) kk
        rw [hq2] at h9
        exact h9
      · have c116n := Int32.not_le.mp c116
        refine go_iload (pc' := 121) cx dX5_say_119 rfl rfl ?_
        refine go_istore_n (pc' := 122) cx dX5_say_121 (ltn rfl) [(3, .int ((sayE (M ru) (svC g 37) vn n) i)), (7, .int ((sayE (M ru) (svC g 37) vn n) i)), (6, .int (nI i)), (5, .int (nI ch)), (4, .int (odg n (some b))), (0, .ref (E.2.1 0)), (1, .int (nI n)), (2, .int x2)] rfl rfl ?_
        refine go_aload_n (pc' := 123) cx dX5_say_122 rfl rfl ?_
        refine go_getr (pc' := 126) cx 63 fX5_78 dX5_say_123 kq0 (ltn rfl) (ltn rfl) rfl rfl rfl ?_
        refine go_iload_n (pc' := 127) cx dX5_say_126 rfl rfl ?_
        refine go_cVi (pc' := 130) cx (c_wdT l E (G := G_1) hG_1t hn4 hnv) mX4_wordDigits lX5_153 dX5_say_127 kq63 (ltn rfl) (ltn rfl) rfl rfl rfl rfl (ltn rfl) (Nat.le_of_ble_eq_true rfl) (Nat.le_of_ble_eq_true rfl) rfl ?_
        refine go_istore (pc' := 132) cx dX5_say_130 (ltn rfl) [(4, .int (odg n (some i))), (3, .int ((sayE (M ru) (svC g 37) vn n) i)), (7, .int ((sayE (M ru) (svC g 37) vn n) i)), (6, .int (nI i)), (5, .int (nI ch)), (0, .ref (E.2.1 0)), (1, .int (nI n)), (2, .int x2)] rfl rfl ?_
        refine go_aload_n (pc' := 133) cx dX5_say_132 rfl rfl ?_
        refine go_getr (pc' := 136) cx 63 fX5_78 dX5_say_133 kq0 (ltn rfl) (ltn rfl) rfl rfl rfl ?_
        refine go_iload_n (pc' := 137) cx dX5_say_136 rfl rfl ?_
        obtain ⟨w1, w2, w3⟩ := nw_dig n i (G_1 75) (by omega) (say_dg hG_1t hnv)
        refine go_cVi (pc' := 140) cx (c_X4_nextWords l E (g := G_1) (n1 := n) (by omega)) mX4_nextWords lX5_156 dX5_say_137 kq63 (ltn rfl) (ltn rfl) rfl rfl rfl rfl (ltn rfl) (Nat.le_of_ble_eq_true rfl) (Nat.le_of_ble_eq_true rfl) rfl ?_
        refine go_istore (pc' := 142) cx dX5_say_140 (ltn rfl) [(5, .int ((nwF (G_1 75) n).1)), (4, .int (odg n (some i))), (3, .int ((sayE (M ru) (svC g 37) vn n) i)), (7, .int ((sayE (M ru) (svC g 37) vn n) i)), (6, .int (nI i)), (0, .ref (E.2.1 0)), (1, .int (nI n)), (2, .int x2)] rfl rfl ?_
        refine go_iinc (pc' := 145) cx (nI (i + 1)) dX5_say_142 rfl (nI_1 i) (ltn rfl) [(6, .int (nI (i + 1))), (5, .int ((nwF (G_1 75) n).1)), (4, .int (odg n (some i))), (3, .int ((sayE (M ru) (svC g 37) vn n) i)), (7, .int ((sayE (M ru) (svC g 37) vn n) i)), (0, .ref (E.2.1 0)), (1, .int (nI n)), (2, .int x2)] rfl rfl ?_
        refine go_goto cx 75 dX5_say_145 rfl ?_
        have hq2 : mns (sayE (M ru) (svC g 37) vn n) (i + 1) = some i := mns_l hq (Int32.not_le.mp c116)
        obtain ⟨c2, hc2, e1, e2, e3⟩ := w2 (by omega)
        refine go_sub [0, 1, 2, 3, 5, 6, 7] [(6, .int (nI (i + 1))), (5, .int (nI c2)), (4, .int (odg n (some i))), (3, .int ((sayE (M ru) (svC g 37) vn n) i)), (0, .ref (E.2.1 0)), (1, .int (nI n)), (2, .int x2)] (by rw [← e1]; rfl) ?_
        have h9 := ih (i + 1) (upw G_1 75 (nwF (G_1 75) n).2) c2 ((sayE (M ru) (svC g 37) vn n) i) (by omega) (Fr_75 hG_1f) ((hG_1t).next hX.2.2.2.2.2.2 e2 w1) (by omega) ((((hG_1c).1.le (show c2 ≤ vn by omega)).say hX.2.2.2.2.2.2 (fun k hk => dgt_eq ((e2 k (by omega)).symm.trans ((e3 k hk).trans (say_dg hG_1t hnv k (by omega)))))) (fun j hj => upw_rn _ _ hj)) (fun _ => by rw [hq2]; first | rfl | exact ebl) kk
        rw [hq2] at h9
        exact h9

set_option maxHeartbeats 1000000 in
set_option maxRecDepth 20000 in
theorem c_X5_say (l : Launch) (E : Ev) {g : IG} {o : Option Nat} {z : Int64} {hn vn ru tc : Nat} {M : Nat → TM} (hX : XP g hn vn ru tc M) (x1 x2 : Int32) : Ct l E 115 yX5_say cX5_say 8 (some .int) 6 [.ref (E.2.1 0), .int x1, .int x2] g (RFo o) z (ZI (RFo o) z (fun x g1 => x = sayF (M ru) (svC g 37) vn x1 x2 ∧ Fr scr g g1)) := by
  refine Ct.of (lv0 := [(0, .ref (E.2.1 0)), (1, .int x1), (2, .int x2)]) (by decide) (Nat.le_of_ble_eq_true rfl) rfl ?_
  intro p e s m below meth c cx
  obtain ⟨hhn5, hvn8, hruc, htc6⟩ := id hX.1
  refine go_iload_n (pc' := 1) cx dX5_say_0 rfl rfl ?_
  refine go_if_lt (pc' := 4) cx 27 dX5_say_1 rfl rfl (fun c1 => ?_) (fun c1 => ?_)
  · have c1n := Int32.not_le.mpr c1
    refine go_bipush (pc' := 29) cx (-2) dX5_say_27 rfl rfl ?_
    refine go_iret cx rfl dX5_say_29 ?_
    exact ZI.mk ⟨by unfold sayF; first | rw [if_pos c1] | rw [if_neg c1, if_pos c6] | rw [if_neg c1, if_neg c6, if_pos c17] | rw [if_neg c1, if_neg c6, if_neg c17, if_pos c24], Fr.rf⟩
  · have c1n := Int32.not_lt.mp c1
    refine go_iload_n (pc' := 5) cx dX5_say_4 rfl rfl ?_
    refine go_iconst (pc' := 6) cx 4 dX5_say_5 rfl rfl ?_
    refine go_icmp_gt (pc' := 9) cx 27 dX5_say_6 rfl rfl (fun c6 => ?_) (fun c6 => ?_)
    · have c6n := Int32.not_le.mpr c6
      refine go_bipush (pc' := 29) cx (-2) dX5_say_27 rfl rfl ?_
      refine go_iret cx rfl dX5_say_29 ?_
      exact ZI.mk ⟨by unfold sayF; first | rw [if_pos c1] | rw [if_neg c1, if_pos c6] | rw [if_neg c1, if_neg c6, if_pos c17] | rw [if_neg c1, if_neg c6, if_neg c17, if_pos c24], Fr.rf⟩
    · have c6n := Int32.not_lt.mp c6
      refine go_iload_n (pc' := 10) cx dX5_say_9 rfl rfl ?_
      refine go_aload_n (pc' := 11) cx dX5_say_10 rfl rfl ?_
      refine go_getr (pc' := 14) cx 37 fX5_66 dX5_say_11 kq0 (ltn rfl) (ltn rfl) rfl rfl rfl ?_
      refine go_geti (pc' := 17) cx (nI vn) fX5_143 dX5_say_14 kq37 (ltn rfl) (ltn rfl) rfl hX.2.2.1 rfl ?_
      refine go_icmp_gt (pc' := 20) cx 27 dX5_say_17 rfl rfl (fun c17 => ?_) (fun c17 => ?_)
      · have c17n := Int32.not_le.mpr c17
        refine go_bipush (pc' := 29) cx (-2) dX5_say_27 rfl rfl ?_
        refine go_iret cx rfl dX5_say_29 ?_
        exact ZI.mk ⟨by unfold sayF; first | rw [if_pos c1] | rw [if_neg c1, if_pos c6] | rw [if_neg c1, if_neg c6, if_pos c17] | rw [if_neg c1, if_neg c6, if_neg c17, if_pos c24], Fr.rf⟩
      · have c17n := Int32.not_lt.mp c17
        refine go_iload_n (pc' := 21) cx dX5_say_20 rfl rfl ?_
        refine go_cSi (pc' := 24) cx (c_X5_isFirstOrSecond l E (g := g) x2) mX5_isFirstOrSecond lX5_146 dX5_say_21 rfl rfl rfl (ltn rfl) (Nat.le_of_ble_eq_true rfl) (Nat.le_of_ble_eq_true rfl) rfl ?_
        refine go_if_ne (pc' := 27) cx 30 dX5_say_24 rfl rfl (fun c24 => ?_) (fun c24 => ?_)
        · obtain ⟨n, hn4, en⟩ := rng_n (n := 4) (M := 4) (lo := 0) (by decide) (by decide) c1 c6
          subst en
          have cln := clI_n (k := n) (by omega)
          have hnv : n ≤ vn := by
            rw [nI_ltI (by omega) (by omega)] at c17
            omega
          refine go_aload_n (pc' := 31) cx dX5_say_30 rfl rfl ?_
          refine go_getr (pc' := 34) cx 63 fX5_78 dX5_say_31 kq0 (ltn rfl) (ltn rfl) rfl rfl rfl ?_
          refine go_cVV (pc' := 37) cx (c_beginT l E (G := g) hX Fr.rf) mX4_begin lX5_111 dX5_say_34 kq63 (ltn rfl) (ltn rfl) rfl rfl rfl rfl (ltn rfl) (Nat.le_of_ble_eq_true rfl) (Nat.le_of_ble_eq_true rfl) rfl (fun G_1 hG_1 => ?_)
          refine go_iconst (pc' := 38) cx 0 dX5_say_37 rfl rfl ?_
          refine go_istore_n (pc' := 39) cx dX5_say_38 (ltn rfl) [(3, .int 0), (0, .ref (E.2.1 0)), (1, .int (nI n)), (2, .int x2)] rfl rfl ?_
          refine say_loop0 hX hn4 x2 cx n 0 G_1 (Nat.zero_add n) hG_1.1 hG_1.2 (fun G hF hH => ?_)
          refine go_iconst (pc' := 65) cx 0 dX5_say_64 rfl rfl ?_
          refine go_istore_n (pc' := 66) cx dX5_say_65 (ltn rfl) [(3, .int 0), (0, .ref (E.2.1 0)), (1, .int (nI n)), (2, .int x2)] rfl rfl ?_
          refine go_iconst (pc' := 67) cx (-1) dX5_say_66 rfl rfl ?_
          refine go_istore (pc' := 69) cx dX5_say_67 (ltn rfl) [(4, .int (-1)), (3, .int 0), (0, .ref (E.2.1 0)), (1, .int (nI n)), (2, .int x2)] rfl rfl ?_
          refine go_iconst (pc' := 70) cx 0 dX5_say_69 rfl rfl ?_
          refine go_istore (pc' := 72) cx dX5_say_70 (ltn rfl) [(5, .int 0), (4, .int (-1)), (3, .int 0), (0, .ref (E.2.1 0)), (1, .int (nI n)), (2, .int x2)] rfl rfl ?_
          refine go_iconst (pc' := 73) cx 0 dX5_say_72 rfl rfl ?_
          refine go_istore (pc' := 75) cx dX5_say_73 (ltn rfl) [(6, .int 0), (5, .int 0), (4, .int (-1)), (3, .int 0), (0, .ref (E.2.1 0)), (1, .int (nI n)), (2, .int x2)] rfl rfl ?_
          have h1 : 0 < 4 ^ n := Nat.pow_pos (by omega)
          refine say_loop hX hn4 hnv x2 cx (4 ^ n - 1) 0 G 0 0 (by omega) hF (hH.req sayS_0) (Nat.zero_le n) (fun v hv => absurd hv (Nat.not_lt_zero v)) (fun q => absurd rfl q) (fun G hF => ?_)
          refine go_iload_n (pc' := 149) cx dX5_say_148 rfl rfl ?_
          refine go_if_ne (pc' := 152) cx 156 dX5_say_149 rfl rfl (fun c149 => ?_) (fun c149 => ?_)
          · refine go_iload (pc' := 158) cx dX5_say_156 rfl rfl ?_
            refine go_iret cx rfl dX5_say_158 ?_
            exact ZI.mk ⟨by unfold sayF; rw [if_neg c1, if_neg c6, if_neg c17, if_neg c24, cln]; first | rw [if_pos c149] | rw [if_neg c149], hF⟩
          · refine go_iload_n (pc' := 153) cx dX5_say_152 rfl rfl ?_
            refine go_goto cx 158 dX5_say_153 rfl ?_
            refine go_iret cx rfl dX5_say_158 ?_
            exact ZI.mk ⟨by unfold sayF; rw [if_neg c1, if_neg c6, if_neg c17, if_neg c24, cln]; first | rw [if_pos c149] | rw [if_neg c149], hF⟩
        · refine go_bipush (pc' := 29) cx (-2) dX5_say_27 rfl rfl ?_
          refine go_iret cx rfl dX5_say_29 ?_
          exact ZI.mk ⟨by unfold sayF; first | rw [if_pos c1] | rw [if_neg c1, if_pos c6] | rw [if_neg c1, if_neg c6, if_pos c17] | rw [if_neg c1, if_neg c6, if_neg c17, if_pos c24], Fr.rf⟩
