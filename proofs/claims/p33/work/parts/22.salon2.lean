/-! SALON: what a hand leaves, how two sides are evened, a visit, how far off -/
def mn (x y : Int32) : Int32 := if y < x then y else x
def mx (x y : Int32) : Int32 := if x < y then y else x
def ab (x : Int32) : Int32 := if 0 ≤ x then x else 0 - x
def leavesV (k len e : Int32) : Int32 := if k = 2 then (len + e) / 2 else if k = 4 then (len + (len + e) / 2) / 2 else if k = 5 then e - (e - e / 5 * 5) else e
def meansV (sh rem wi ki num pl : Int32) : Int32 := if ki = 1 then (sh * rem + (10 - sh) * wi) / 10 - num else if ki = 3 then (sh * rem + (10 - sh) * wi) / 10 - num - (if pl - pl / 2 * 2 = 1 then 3 else 0) else (sh * rem + (10 - sh) * wi) / 10
def wantsV (len e0 wo mk : Int32) : Int32 := if wo = 1 then (len + e0) / 2 else if wo = 2 then e0 - 10 else if wo = 3 then (if mk = -1 then e0 else mk) else e0
def leftV (ki len e0 wo mk : Int32) : Int32 := mx 0 (mn len (leavesV ki len (wantsV len e0 wo mk)))
/-- what the hand of a visit leaves of a length at a place -/
def lfS (g : IG) (so v h : Nat) (A : Nat → Int32) (pl : Nat) (len : Int32) : Int32 :=
  leftV (g (so + 2 + 10) h) len (meansV (g (so + 2 + 5) h) (A pl) (g (so + 2 + 6) h) (g (so + 2 + 10) h) (g (so + 2 + 4) h) (nI pl)) (g (so + 2 + 9) v) (g (so + 2 + 3) 0)
/-- the text that rules: its ends, what its parts tell whatever was on the stack -/
def TxM (g : IG) (ru : Nat) (M : Nat → (Int32 → Int32) → Int32) : Prop := ru < 6 ∧ ∃ en : Nat → Nat, (∀ k, k < 3 → g (5 + 4 * ru + 2) k = nI (en k) ∧ en k ≤ 160) ∧ ∀ k, k < 3 → ∀ ev f, tellV ev (g (5 + 4 * ru + 1)) (if k = 0 then 0 else en (k - 1)) (en k) f = M k ev
theorem TxM.up {g : IG} {ru : Nat} {M : Nat → (Int32 → Int32) → Int32} (h : TxM g ru M) {g' : IG} (h1 : g' (5 + 4 * ru + 1) = g (5 + 4 * ru + 1)) (h2 : g' (5 + 4 * ru + 2) = g (5 + 4 * ru + 2)) : TxM g' ru M := by
  obtain ⟨a, en, b, c⟩ := h
  exact ⟨a, en, by rw [h2]; exact b, by rw [h1]; exact c⟩
/-- the names' numbers, of six -/
def evW (L A W : Nat → Int32) (wk hd : Int32) (pl : Nat) : Int32 → Int32 := nmV (L pl) (A pl) (W pl) wk (nI pl) hd
theorem evS_v {g : IG} {so pl v : Nat} : evS g so pl (nI v) v = (if nI v = -1 then nmV (g (so + 2 + 0) pl) (g (so + 2 + 1) pl) (g (so + 2 + 2) pl) 0 (nI pl) 0 else evW (g (so + 2 + 0)) (g (so + 2 + 1)) (g (so + 2 + 2)) (g (so + 2 + 8) v) (g (so + 2 + 7) v) pl) := by
  unfold evS evW
  split <;> rfl
/-- one cut to be even, and how often -/
def evs (L : Nat → Int32) (pl : Nat) : Nat → Int32 := if L (pl + 1) < L pl then upd L pl (mx 0 (L (pl + 1) - 1)) else upd L (pl + 1) (mx 0 (L pl - 1))
def evn (B : (Nat → Int32) → Int32) (pl : Nat) : Nat → (Nat → Int32) → Nat × (Nat → Int32)
  | 0, L => (0, L)
  | k + 1, L => if B L < ab (L pl - L (pl + 1)) then ((evn B pl k (evs L pl)).1 + 1, (evn B pl k (evs L pl)).2) else (0, L)
theorem evn_le (B : (Nat → Int32) → Int32) (pl : Nat) : ∀ (k : Nat) (L : Nat → Int32), (evn B pl k L).1 ≤ k
  | 0, _ => Nat.le_refl _
  | k + 1, L => by
    unfold evn
    split
    · exact Nat.succ_le_succ (evn_le B pl k _)
    · exact Nat.zero_le _
def offS (L W : Nat → Int32) (D : Nat → Int32) : Nat → Int32
  | 0 => 0
  | p + 1 => offS L W D p + ab (L p - W p) * D p
theorem nI_ne_m1 {v : Nat} (h : v < 8) : nI v ≠ -1 := by
  have : ∀ v, v < 8 → nI v ≠ -1 := by decide +kernel
  exact this v h
theorem evS_vis {g : IG} {so pl v : Nat} (hv : v < 8) : evS g so pl (nI v) v = evW (g (so + 2 + 0)) (g (so + 2 + 1)) (g (so + 2 + 2)) (g (so + 2 + 8) v) (g (so + 2 + 7) v) pl := by
  rw [evS_v, if_neg (nI_ne_m1 hv)]
def evB (M : Nat → (Int32 → Int32) → Int32) (g : IG) (so v pl : Nat) : (Nat → Int32) → Int32 := fun L => M 1 (evW L (g (so + 2 + 1)) (g (so + 2 + 2)) (g (so + 2 + 8) v) (g (so + 2 + 7) v) pl)
theorem evB_w {M : Nat → (Int32 → Int32) → Int32} {g : IG} {so v pl X : Nat} {L f : Nat → Int32} (hs : Sal so) (hX : X < 29) : evB M (upw (upw g (so + 2 + 0) L) X f) so v pl = evB M g so v pl := by
  have hso : so = 37 ∨ so = 50 ∨ so = 64 := hs
  unfold evB
  rw [upw_rn _ _ (show so + 2 + 1 ≠ X by omega), upw_rn _ _ (show so + 2 + 1 ≠ so + 2 + 0 by omega), upw_rn _ _ (show so + 2 + 2 ≠ X by omega), upw_rn _ _ (show so + 2 + 2 ≠ so + 2 + 0 by omega), upw_rn _ _ (show so + 2 + 8 ≠ X by omega), upw_rn _ _ (show so + 2 + 8 ≠ so + 2 + 0 by omega), upw_rn _ _ (show so + 2 + 7 ≠ X by omega), upw_rn _ _ (show so + 2 + 7 ≠ so + 2 + 0 by omega)]
theorem lfS_w {g : IG} {so v h X pl : Nat} {L f A : Nat → Int32} {len : Int32} (hs : Sal so) (hX : X < 29) : lfS (upw (upw g (so + 2 + 0) L) X f) so v h A pl len = lfS g so v h A pl len := by
  have hso : so = 37 ∨ so = 50 ∨ so = 64 := hs
  unfold lfS
  rw [upw_rn _ _ (show so + 2 + 10 ≠ X by omega), upw_rn _ _ (show so + 2 + 10 ≠ so + 2 + 0 by omega), upw_rn _ _ (show so + 2 + 5 ≠ X by omega), upw_rn _ _ (show so + 2 + 5 ≠ so + 2 + 0 by omega), upw_rn _ _ (show so + 2 + 6 ≠ X by omega), upw_rn _ _ (show so + 2 + 6 ≠ so + 2 + 0 by omega), upw_rn _ _ (show so + 2 + 4 ≠ X by omega), upw_rn _ _ (show so + 2 + 4 ≠ so + 2 + 0 by omega), upw_rn _ _ (show so + 2 + 9 ≠ X by omega), upw_rn _ _ (show so + 2 + 9 ≠ so + 2 + 0 by omega), upw_rn _ _ (show so + 2 + 3 ≠ X by omega), upw_rn _ _ (show so + 2 + 3 ≠ so + 2 + 0 by omega)]
/-- lengths of which the first q have grown and been cut -/
def growS (L G1 : Nat → Int32) (q : Nat) : Nat → Int32 := fun j => if j < q then G1 j else L j
theorem growS_s (L G1 : Nat → Int32) (q : Nat) : upd (growS L G1 q) q (G1 q) = growS L G1 (q + 1) := by
  funext j
  unfold upd growS
  by_cases h : j = q
  · subst h
    rw [if_pos rfl, if_pos (Nat.lt_succ_self _)]
  · rw [if_neg h]
    by_cases h2 : j < q
    · rw [if_pos h2, if_pos (by omega)]
    · rw [if_neg h2, if_neg (by omega)]
theorem growS_q (L G1 : Nat → Int32) (q : Nat) : growS L G1 q q = L q := if_neg (Nat.lt_irrefl q)
theorem growS_0 (L G1 : Nat → Int32) : growS L G1 0 = L := funext fun j => if_neg (Nat.not_lt_zero j)
/-- a place's length, grown and cut -/
def G1S (M : Nat → (Int32 → Int32) → Int32) (g : IG) (so v h : Nat) (p : Nat) : Int32 := lfS g so v h (g (so + 2 + 1)) p (mn 199 (g (so + 2 + 0) p + M 0 (evW (g (so + 2 + 0)) (g (so + 2 + 1)) (g (so + 2 + 2)) (g (so + 2 + 8) v) (g (so + 2 + 7) v) p)))
def und1 (M : Nat → (Int32 → Int32) → Int32) (g : IG) (so v h : Nat) : Nat × (Nat → Int32) := evn (evB M g so v 0) 0 30 (growS (g (so + 2 + 0)) (G1S M g so v h) 4)
def und2 (M : Nat → (Int32 → Int32) → Int32) (g : IG) (so v h : Nat) : Nat × (Nat → Int32) := evn (evB M g so v 2) 2 30 (und1 M g so v h).2
theorem evW_c {L L' A W : Nat → Int32} {wk hd : Int32} {p : Nat} (h : L p = L' p) : evW L A W wk hd p = evW L' A W wk hd p := by
  unfold evW
  rw [h]

set_option maxHeartbeats 4000000 in
set_option maxRecDepth 20000 in
theorem c_X1_leaves (l : Launch) (E : Ev) {g : IG} {o : Option Nat} {z : Int64} (k1 len e1 : Int32) : Ct l E 88 yX1_leaves cX1_leaves 3 (some .int) 1 [.int k1, .int len, .int e1] g (RFo o) z (Zi (RFo o) z (leavesV k1 len e1) g) := by
  refine Ct.of (lv0 := [(0, .int k1), (1, .int len), (2, .int e1)]) (by decide) (Nat.le_of_ble_eq_true rfl) rfl ?_
  intro p e s m below meth c cx
  refine go_iload_n (pc' := 1) cx dX1_leaves_0 rfl rfl ?_
  by_cases c1 : k1 = 2
  · refine go_tabIn cx 32 dX1_leaves_1 (by rw [c1]; decide) (by rw [c1]; decide) (by rw [c1]; rfl) rfl ?_
    refine go_iload_n (pc' := 33) cx dX1_leaves_32 rfl rfl ?_
    refine go_iload_n (pc' := 34) cx dX1_leaves_33 rfl rfl ?_
    refine go_iadd (pc' := 35) cx dX1_leaves_34 rfl ?_
    refine go_iconst (pc' := 36) cx 2 dX1_leaves_35 rfl rfl ?_
    refine go_idiv (pc' := 37) cx (by decide) dX1_leaves_36 rfl ?_
    refine go_iret cx rfl dX1_leaves_37 ?_
    exact Zi.mk (by first | (simp [leavesV, c1]; done) | (simp_all [leavesV, c1]; done) | ((try unfold leavesV); (repeat' split) <;> first | rfl | contradiction | (simp_all; done))) rfl
  have n1_2 := c1
  by_cases c1 : k1 = 4
  · refine go_tabIn cx 38 dX1_leaves_1 (by rw [c1]; decide) (by rw [c1]; decide) (by rw [c1]; rfl) rfl ?_
    refine go_iload_n (pc' := 39) cx dX1_leaves_38 rfl rfl ?_
    refine go_iload_n (pc' := 40) cx dX1_leaves_39 rfl rfl ?_
    refine go_iload_n (pc' := 41) cx dX1_leaves_40 rfl rfl ?_
    refine go_iadd (pc' := 42) cx dX1_leaves_41 rfl ?_
    refine go_iconst (pc' := 43) cx 2 dX1_leaves_42 rfl rfl ?_
    refine go_idiv (pc' := 44) cx (by decide) dX1_leaves_43 rfl ?_
    refine go_iadd (pc' := 45) cx dX1_leaves_44 rfl ?_
    refine go_iconst (pc' := 46) cx 2 dX1_leaves_45 rfl rfl ?_
    refine go_idiv (pc' := 47) cx (by decide) dX1_leaves_46 rfl ?_
    refine go_iret cx rfl dX1_leaves_47 ?_
    exact Zi.mk (by first | (simp [leavesV, n1_2, c1]; done) | (simp_all [leavesV, n1_2, c1]; done) | ((try unfold leavesV); (repeat' split) <;> first | rfl | contradiction | (simp_all; done))) rfl
  have n1_4 := c1
  by_cases c1 : k1 = 5
  · refine go_tabIn cx 48 dX1_leaves_1 (by rw [c1]; decide) (by rw [c1]; decide) (by rw [c1]; rfl) rfl ?_
    refine go_iload_n (pc' := 49) cx dX1_leaves_48 rfl rfl ?_
    refine go_iload_n (pc' := 50) cx dX1_leaves_49 rfl rfl ?_
    refine go_iconst (pc' := 51) cx 5 dX1_leaves_50 rfl rfl ?_
    refine go_irem (pc' := 52) cx (by decide) dX1_leaves_51 rfl ?_
    refine go_isub (pc' := 53) cx dX1_leaves_52 rfl ?_
    refine go_iret cx rfl dX1_leaves_53 ?_
    exact Zi.mk (by first | (simp [leavesV, n1_2, n1_4, c1]; done) | (simp_all [leavesV, n1_2, n1_4, c1]; done) | ((try unfold leavesV); (repeat' split) <;> first | rfl | contradiction | (simp_all; done))) rfl
  have n1_5 := c1
  refine go_tabD cx 54 dX1_leaves_1 ?_ rfl ?_
  · by_cases q1 : k1.toInt < 2
    · exact Or.inl (Or.inl q1)
    by_cases q2 : 5 < k1.toInt
    · exact Or.inl (Or.inr q2)
    refine Or.inr ⟨q1, q2, ?_⟩
    rcases (show k1.toInt = 2 ∨ k1.toInt = 3 ∨ k1.toInt = 4 ∨ k1.toInt = 5 by omega) with q3 | q3 | q3 | q3
    · exact absurd (Int32.toInt_inj.mp (q3.trans (by decide))) n1_2
    · rw [q3]; rfl
    · exact absurd (Int32.toInt_inj.mp (q3.trans (by decide))) n1_4
    · exact absurd (Int32.toInt_inj.mp (q3.trans (by decide))) n1_5
  refine go_iload_n (pc' := 55) cx dX1_leaves_54 rfl rfl ?_
  refine go_iret cx rfl dX1_leaves_55 ?_
  exact Zi.mk (by first | (simp [leavesV, n1_2, n1_4, n1_5]; done) | (simp_all [leavesV, n1_2, n1_4, n1_5]; done) | ((try unfold leavesV); (repeat' split) <;> first | rfl | contradiction | (simp_all; done))) rfl

set_option maxHeartbeats 4000000 in
set_option maxRecDepth 20000 in
theorem c_X1_means (l : Launch) (E : Ev) {g : IG} {o : Option Nat} {z : Int64} {so : Nat} (hs : Sal so) {h : Nat} (hh : h < 8) (pl rem : Int32) : Ct l E 88 yX1_means cX1_means 6 (some .int) 1 [.ref (E.2.1 so), .int (nI h), .int pl, .int rem] g (RFo o) z (Zi (RFo o) z (meansV (g (so + 2 + 5) h) rem (g (so + 2 + 6) h) (g (so + 2 + 10) h) (g (so + 2 + 4) h) pl) g) := by
  refine Ct.of (lv0 := [(0, .ref (E.2.1 so)), (1, .int (nI h)), (2, .int pl), (3, .int rem)]) (by decide) (Nat.le_of_ble_eq_true rfl) rfl ?_
  intro p e s m below meth c cx
  refine go_aload_n (pc' := 1) cx dX1_means_0 rfl rfl ?_
  refine go_getr (pc' := 4) cx (so + 1) fX1_11 dX1_means_1 (sal_k0 hs) (sal_l0 hs) (ltn rfl) rfl (sal_r1 hs) rfl ?_
  refine go_iconst (pc' := 5) cx 5 dX1_means_4 rfl rfl ?_
  refine go_aaldk (pc' := 6) cx 5 (so + 2 + 5) dX1_means_5 (sal_k1 hs) (Nat.le_of_ble_eq_true rfl) (ltn rfl) (sal_l1 hs) (vpi (k := 5) (a := 6) (ltn rfl) rfl rfl) (cli (k := 5) (a := 6) (ltn rfl) rfl) (sal_rr hs (ltn rfl)) rfl ?_
  refine go_iload_n (pc' := 7) cx dX1_means_6 rfl rfl ?_
  refine go_iald (pc' := 8) cx (g (so + 2 + 5) h) dX1_means_7 (sal_kr hs (ltn rfl)) (sal_lr hs (ltn rfl)) (vpi (k := h) (a := 8) hh rfl rfl) (congrArg (g (so + 2 + 5)) (cli (k := h) (a := 8) hh rfl)) rfl ?_
  refine go_istore (pc' := 10) cx dX1_means_8 (ltn rfl) [(4, .int (g (so + 2 + 5) h)), (0, .ref (E.2.1 so)), (1, .int (nI h)), (2, .int pl), (3, .int rem)] rfl rfl ?_
  refine go_iload (pc' := 12) cx dX1_means_10 rfl rfl ?_
  refine go_iload_n (pc' := 13) cx dX1_means_12 rfl rfl ?_
  refine go_imul (pc' := 14) cx dX1_means_13 rfl ?_
  refine go_bipush (pc' := 16) cx 10 dX1_means_14 rfl rfl ?_
  refine go_iload (pc' := 18) cx dX1_means_16 rfl rfl ?_
  refine go_isub (pc' := 19) cx dX1_means_18 rfl ?_
  refine go_aload_n (pc' := 20) cx dX1_means_19 rfl rfl ?_
  refine go_getr (pc' := 23) cx (so + 1) fX1_11 dX1_means_20 (sal_k0 hs) (sal_l0 hs) (ltn rfl) rfl (sal_r1 hs) rfl ?_
  refine go_bipush (pc' := 25) cx 6 dX1_means_23 rfl rfl ?_
  refine go_aaldk (pc' := 26) cx 6 (so + 2 + 6) dX1_means_25 (sal_k1 hs) (Nat.le_of_ble_eq_true rfl) (ltn rfl) (sal_l1 hs) (vpi (k := 6) (a := 7) (ltn rfl) rfl rfl) (cli (k := 6) (a := 7) (ltn rfl) rfl) (sal_rr hs (ltn rfl)) rfl ?_
  refine go_iload_n (pc' := 27) cx dX1_means_26 rfl rfl ?_
  refine go_iald (pc' := 28) cx (g (so + 2 + 6) h) dX1_means_27 (sal_kr hs (ltn rfl)) (sal_lr hs (ltn rfl)) (vpi (k := h) (a := 8) hh rfl rfl) (congrArg (g (so + 2 + 6)) (cli (k := h) (a := 8) hh rfl)) rfl ?_
  refine go_imul (pc' := 29) cx dX1_means_28 rfl ?_
  refine go_iadd (pc' := 30) cx dX1_means_29 rfl ?_
  refine go_bipush (pc' := 32) cx 10 dX1_means_30 rfl rfl ?_
  refine go_idiv (pc' := 33) cx (by decide) dX1_means_32 rfl ?_
  refine go_name (fun x_1 ex_1 => ?_)
  refine go_istore (pc' := 35) cx dX1_means_33 (ltn rfl) [(5, .int x_1), (4, .int (g (so + 2 + 5) h)), (0, .ref (E.2.1 so)), (1, .int (nI h)), (2, .int pl), (3, .int rem)] rfl rfl ?_
  refine go_aload_n (pc' := 36) cx dX1_means_35 rfl rfl ?_
  refine go_getr (pc' := 39) cx (so + 1) fX1_11 dX1_means_36 (sal_k0 hs) (sal_l0 hs) (ltn rfl) rfl (sal_r1 hs) rfl ?_
  refine go_bipush (pc' := 41) cx 10 dX1_means_39 rfl rfl ?_
  refine go_aaldk (pc' := 42) cx 10 (so + 2 + 10) dX1_means_41 (sal_k1 hs) (Nat.le_of_ble_eq_true rfl) (ltn rfl) (sal_l1 hs) (vpi (k := 10) (a := 11) (ltn rfl) rfl rfl) (cli (k := 10) (a := 11) (ltn rfl) rfl) (sal_rr hs (ltn rfl)) rfl ?_
  refine go_iload_n (pc' := 43) cx dX1_means_42 rfl rfl ?_
  refine go_iald (pc' := 44) cx (g (so + 2 + 10) h) dX1_means_43 (sal_kr hs (ltn rfl)) (sal_lr hs (ltn rfl)) (vpi (k := h) (a := 8) hh rfl rfl) (congrArg (g (so + 2 + 10)) (cli (k := h) (a := 8) hh rfl)) rfl ?_
  by_cases c44 : g (so + 2 + 10) h = 1
  · refine go_look cx 72 dX1_means_44 rfl (by first | (rw [c44]; done) | (rw [c44]; rfl)) rfl ?_
    refine go_iload (pc' := 74) cx dX1_means_72 rfl rfl ?_
    refine go_aload_n (pc' := 75) cx dX1_means_74 rfl rfl ?_
    refine go_getr (pc' := 78) cx (so + 1) fX1_11 dX1_means_75 (sal_k0 hs) (sal_l0 hs) (ltn rfl) rfl (sal_r1 hs) rfl ?_
    refine go_iconst (pc' := 79) cx 4 dX1_means_78 rfl rfl ?_
    refine go_aaldk (pc' := 80) cx 4 (so + 2 + 4) dX1_means_79 (sal_k1 hs) (Nat.le_of_ble_eq_true rfl) (ltn rfl) (sal_l1 hs) (vpi (k := 4) (a := 5) (ltn rfl) rfl rfl) (cli (k := 4) (a := 5) (ltn rfl) rfl) (sal_rr hs (ltn rfl)) rfl ?_
    refine go_iload_n (pc' := 81) cx dX1_means_80 rfl rfl ?_
    refine go_iald (pc' := 82) cx (g (so + 2 + 4) h) dX1_means_81 (sal_kr hs (ltn rfl)) (sal_lr hs (ltn rfl)) (vpi (k := h) (a := 8) hh rfl rfl) (congrArg (g (so + 2 + 4)) (cli (k := h) (a := 8) hh rfl)) rfl ?_
    refine go_isub (pc' := 83) cx dX1_means_82 rfl ?_
    refine go_iret cx rfl dX1_means_83 ?_
    exact Zi.mk (by first | (simp [meansV, ex_1, c44]; done) | (simp_all [meansV, ex_1, c44]; done) | ((try unfold meansV); (repeat' split) <;> first | rfl | contradiction | (simp_all; done))) rfl
  have n44_1 := c44
  by_cases c44 : g (so + 2 + 10) h = 3
  · refine go_look cx 84 dX1_means_44 rfl (by first | (rw [c44]; done) | (rw [c44]; rfl)) rfl ?_
    refine go_iload (pc' := 86) cx dX1_means_84 rfl rfl ?_
    refine go_aload_n (pc' := 87) cx dX1_means_86 rfl rfl ?_
    refine go_getr (pc' := 90) cx (so + 1) fX1_11 dX1_means_87 (sal_k0 hs) (sal_l0 hs) (ltn rfl) rfl (sal_r1 hs) rfl ?_
    refine go_iconst (pc' := 91) cx 4 dX1_means_90 rfl rfl ?_
    refine go_aaldk (pc' := 92) cx 4 (so + 2 + 4) dX1_means_91 (sal_k1 hs) (Nat.le_of_ble_eq_true rfl) (ltn rfl) (sal_l1 hs) (vpi (k := 4) (a := 5) (ltn rfl) rfl rfl) (cli (k := 4) (a := 5) (ltn rfl) rfl) (sal_rr hs (ltn rfl)) rfl ?_
    refine go_iload_n (pc' := 93) cx dX1_means_92 rfl rfl ?_
    refine go_iald (pc' := 94) cx (g (so + 2 + 4) h) dX1_means_93 (sal_kr hs (ltn rfl)) (sal_lr hs (ltn rfl)) (vpi (k := h) (a := 8) hh rfl rfl) (congrArg (g (so + 2 + 4)) (cli (k := h) (a := 8) hh rfl)) rfl ?_
    refine go_isub (pc' := 95) cx dX1_means_94 rfl ?_
    refine go_iload_n (pc' := 96) cx dX1_means_95 rfl rfl ?_
    refine go_iconst (pc' := 97) cx 2 dX1_means_96 rfl rfl ?_
    refine go_irem (pc' := 98) cx (by decide) dX1_means_97 rfl ?_
    refine go_iconst (pc' := 99) cx 1 dX1_means_98 rfl rfl ?_
    refine go_icmp_ne (pc' := 102) cx 106 dX1_means_99 rfl rfl (fun c99 => ?_) (fun c99 => ?_)
    · refine go_iconst (pc' := 107) cx 0 dX1_means_106 rfl rfl ?_
      refine go_isub (pc' := 108) cx dX1_means_107 rfl ?_
      refine go_iret cx rfl dX1_means_108 ?_
      exact Zi.mk (by first | (simp [meansV, ex_1, n44_1, c44, c99]; done) | (simp_all [meansV, ex_1, n44_1, c44, c99]; done) | ((try unfold meansV); (repeat' split) <;> first | rfl | contradiction | (simp_all; done))) rfl
    · refine go_iconst (pc' := 103) cx 3 dX1_means_102 rfl rfl ?_
      refine go_goto cx 107 dX1_means_103 rfl ?_
      refine go_isub (pc' := 108) cx dX1_means_107 rfl ?_
      refine go_iret cx rfl dX1_means_108 ?_
      exact Zi.mk (by first | (simp [meansV, ex_1, n44_1, c44, c99]; done) | (simp_all [meansV, ex_1, n44_1, c44, c99]; done) | ((try unfold meansV); (repeat' split) <;> first | rfl | contradiction | (simp_all; done))) rfl
  have n44_3 := c44
  refine go_look (off := 65) cx 109 dX1_means_44 rfl (by have q1 : ¬ 1 = (g (so + 2 + 10) h).toInt := fun q => n44_1 (Int32.toInt_inj.mp (q.symm.trans (by decide))); have q3 : ¬ 3 = (g (so + 2 + 10) h).toInt := fun q => n44_3 (Int32.toInt_inj.mp (q.symm.trans (by decide))); simp [Op.lookupswitch.offset, q1, q3]) rfl ?_
  refine go_iload (pc' := 111) cx dX1_means_109 rfl rfl ?_
  refine go_iret cx rfl dX1_means_111 ?_
  exact Zi.mk (by first | (simp [meansV, ex_1, n44_1, n44_3]; done) | (simp_all [meansV, ex_1, n44_1, n44_3]; done) | ((try unfold meansV); (repeat' split) <;> first | rfl | contradiction | (simp_all; done))) rfl

set_option maxHeartbeats 4000000 in
set_option maxRecDepth 20000 in
theorem c_X1_left (l : Launch) (E : Ev) {g : IG} {o : Option Nat} {z : Int64} {so : Nat} (hs : Sal so) {h v pl : Nat} (hh : h < 8) (hv : v < 8) (hpl : pl < 4) (hgh : g (so + 2 + 7) v = nI h) (len : Int32) : Ct l E 88 yX1_left cX1_left 6 (some .int) 2 [.ref (E.2.1 so), .int (nI pl), .int len, .int (nI v)] g (RFo o) z (Zi (RFo o) z (lfS g so v h (g (so + 2 + 1)) pl len) g) := by
  refine Ct.of (lv0 := [(0, .ref (E.2.1 so)), (1, .int (nI pl)), (2, .int len), (3, .int (nI v))]) (by decide) (Nat.le_of_ble_eq_true rfl) rfl ?_
  intro p e s m below meth c cx
  refine go_aload_n (pc' := 1) cx dX1_left_0 rfl rfl ?_
  refine go_getr (pc' := 4) cx (so + 1) fX1_11 dX1_left_1 (sal_k0 hs) (sal_l0 hs) (ltn rfl) rfl (sal_r1 hs) rfl ?_
  refine go_bipush (pc' := 6) cx 7 dX1_left_4 rfl rfl ?_
  refine go_aaldk (pc' := 7) cx 7 (so + 2 + 7) dX1_left_6 (sal_k1 hs) (Nat.le_of_ble_eq_true rfl) (ltn rfl) (sal_l1 hs) (vpi (k := 7) (a := 8) (ltn rfl) rfl rfl) (cli (k := 7) (a := 8) (ltn rfl) rfl) (sal_rr hs (ltn rfl)) rfl ?_
  refine go_iload_n (pc' := 8) cx dX1_left_7 rfl rfl ?_
  refine go_iald (pc' := 9) cx (nI h) dX1_left_8 (sal_kr hs (ltn rfl)) (sal_lr hs (ltn rfl)) (vpi (k := v) (a := 8) hv rfl rfl) ((congrArg (g (so + 2 + 7)) (cli (k := v) (a := 8) hv rfl)).trans hgh) rfl ?_
  refine go_istore (pc' := 11) cx dX1_left_9 (ltn rfl) [(4, .int (nI h)), (0, .ref (E.2.1 so)), (1, .int (nI pl)), (2, .int len), (3, .int (nI v))] rfl rfl ?_
  refine go_aload_n (pc' := 12) cx dX1_left_11 rfl rfl ?_
  refine go_iload (pc' := 14) cx dX1_left_12 rfl rfl ?_
  refine go_iload_n (pc' := 15) cx dX1_left_14 rfl rfl ?_
  refine go_aload_n (pc' := 16) cx dX1_left_15 rfl rfl ?_
  refine go_getr (pc' := 19) cx (so + 1) fX1_11 dX1_left_16 (sal_k0 hs) (sal_l0 hs) (ltn rfl) rfl (sal_r1 hs) rfl ?_
  refine go_iconst (pc' := 20) cx 1 dX1_left_19 rfl rfl ?_
  refine go_aaldk (pc' := 21) cx 1 (so + 2 + 1) dX1_left_20 (sal_k1 hs) (Nat.le_of_ble_eq_true rfl) (ltn rfl) (sal_l1 hs) (vpi (k := 1) (a := 2) (ltn rfl) rfl rfl) (cli (k := 1) (a := 2) (ltn rfl) rfl) (sal_rr hs (ltn rfl)) rfl ?_
  refine go_iload_n (pc' := 22) cx dX1_left_21 rfl rfl ?_
  refine go_iald (pc' := 23) cx (g (so + 2 + 1) pl) dX1_left_22 (sal_kr hs (ltn rfl)) (sal_lr hs (ltn rfl)) (vpi (k := pl) (a := 4) hpl rfl rfl) (congrArg (g (so + 2 + 1)) (cli (k := pl) (a := 4) hpl rfl)) rfl ?_
  refine go_cVi (pc' := 26) cx (c_X1_means l E hs hh (nI pl) (g (so + 2 + 1) pl)) mX1_means lX1_62 dX1_left_23 (sal_k0 hs) (ltn rfl) (sal_l0 hs) rfl rfl rfl rfl (ltn rfl) (Nat.le_of_ble_eq_true rfl) (Nat.le_of_ble_eq_true rfl) rfl ?_
  refine go_name (fun x_1 ex_1 => ?_)
  refine go_istore (pc' := 28) cx dX1_left_26 (ltn rfl) [(5, .int x_1), (4, .int (nI h)), (0, .ref (E.2.1 so)), (1, .int (nI pl)), (2, .int len), (3, .int (nI v))] rfl rfl ?_
  refine go_aload_n (pc' := 29) cx dX1_left_28 rfl rfl ?_
  refine go_getr (pc' := 32) cx (so + 1) fX1_11 dX1_left_29 (sal_k0 hs) (sal_l0 hs) (ltn rfl) rfl (sal_r1 hs) rfl ?_
  refine go_bipush (pc' := 34) cx 9 dX1_left_32 rfl rfl ?_
  refine go_aaldk (pc' := 35) cx 9 (so + 2 + 9) dX1_left_34 (sal_k1 hs) (Nat.le_of_ble_eq_true rfl) (ltn rfl) (sal_l1 hs) (vpi (k := 9) (a := 10) (ltn rfl) rfl rfl) (cli (k := 9) (a := 10) (ltn rfl) rfl) (sal_rr hs (ltn rfl)) rfl ?_
  refine go_iload_n (pc' := 36) cx dX1_left_35 rfl rfl ?_
  refine go_iald (pc' := 37) cx (g (so + 2 + 9) v) dX1_left_36 (sal_kr hs (ltn rfl)) (sal_lr hs (ltn rfl)) (vpi (k := v) (a := 8) hv rfl rfl) (congrArg (g (so + 2 + 9)) (cli (k := v) (a := 8) hv rfl)) rfl ?_
  by_cases c37 : g (so + 2 + 9) v = 1
  · refine go_tabIn cx 64 dX1_left_37 (by rw [c37]; decide) (by rw [c37]; decide) (by rw [c37]; rfl) rfl ?_
    refine go_iload_n (pc' := 65) cx dX1_left_64 rfl rfl ?_
    refine go_iload (pc' := 67) cx dX1_left_65 rfl rfl ?_
    refine go_iadd (pc' := 68) cx dX1_left_67 rfl ?_
    refine go_iconst (pc' := 69) cx 2 dX1_left_68 rfl rfl ?_
    refine go_idiv (pc' := 70) cx (by decide) dX1_left_69 rfl ?_
    refine go_istore (pc' := 72) cx dX1_left_70 (ltn rfl) [(5, .int ((len + x_1) / 2)), (4, .int (nI h)), (0, .ref (E.2.1 so)), (1, .int (nI pl)), (2, .int len), (3, .int (nI v))] rfl rfl ?_
    refine go_goto cx 115 dX1_left_72 rfl ?_
    refine go_iconst (pc' := 116) cx 0 dX1_left_115 rfl rfl ?_
    refine go_iload_n (pc' := 117) cx dX1_left_116 rfl rfl ?_
    refine go_aload_n (pc' := 118) cx dX1_left_117 rfl rfl ?_
    refine go_getr (pc' := 121) cx (so + 1) fX1_11 dX1_left_118 (sal_k0 hs) (sal_l0 hs) (ltn rfl) rfl (sal_r1 hs) rfl ?_
    refine go_bipush (pc' := 123) cx 10 dX1_left_121 rfl rfl ?_
    refine go_aaldk (pc' := 124) cx 10 (so + 2 + 10) dX1_left_123 (sal_k1 hs) (Nat.le_of_ble_eq_true rfl) (ltn rfl) (sal_l1 hs) (vpi (k := 10) (a := 11) (ltn rfl) rfl rfl) (cli (k := 10) (a := 11) (ltn rfl) rfl) (sal_rr hs (ltn rfl)) rfl ?_
    refine go_iload (pc' := 126) cx dX1_left_124 rfl rfl ?_
    refine go_iald (pc' := 127) cx (g (so + 2 + 10) h) dX1_left_126 (sal_kr hs (ltn rfl)) (sal_lr hs (ltn rfl)) (vpi (k := h) (a := 8) hh rfl rfl) (congrArg (g (so + 2 + 10)) (cli (k := h) (a := 8) hh rfl)) rfl ?_
    refine go_iload_n (pc' := 128) cx dX1_left_127 rfl rfl ?_
    refine go_iload (pc' := 130) cx dX1_left_128 rfl rfl ?_
    refine go_cSi (pc' := 133) cx (c_X1_leaves l E (g (so + 2 + 10) h) len ((len + x_1) / 2)) mX1_leaves lX1_65 dX1_left_130 rfl rfl rfl (ltn rfl) (Nat.le_of_ble_eq_true rfl) (Nat.le_of_ble_eq_true rfl) rfl ?_
    refine go_mmin (pc' := 136) cx lX1_49 dX1_left_133 rfl (ltn rfl) (Nat.le_of_ble_eq_true rfl) rfl ?_
    refine go_mmax (pc' := 139) cx lX1_68 dX1_left_136 rfl (ltn rfl) (Nat.le_of_ble_eq_true rfl) rfl ?_
    refine go_iret cx rfl dX1_left_139 ?_
    exact Zi.mk (by first | (simp [lfS, leftV, wantsV, mx, mn, ex_1, c37]; done) | (simp_all [lfS, leftV, wantsV, mx, mn]; done)) rfl
  have n37_1 := c37
  by_cases c37 : g (so + 2 + 9) v = 2
  · refine go_tabIn cx 75 dX1_left_37 (by rw [c37]; decide) (by rw [c37]; decide) (by rw [c37]; rfl) rfl ?_
    refine go_iload (pc' := 77) cx dX1_left_75 rfl rfl ?_
    refine go_bipush (pc' := 79) cx 10 dX1_left_77 rfl rfl ?_
    refine go_isub (pc' := 80) cx dX1_left_79 rfl ?_
    refine go_istore (pc' := 82) cx dX1_left_80 (ltn rfl) [(5, .int (x_1 - 10)), (4, .int (nI h)), (0, .ref (E.2.1 so)), (1, .int (nI pl)), (2, .int len), (3, .int (nI v))] rfl rfl ?_
    refine go_goto cx 115 dX1_left_82 rfl ?_
    refine go_iconst (pc' := 116) cx 0 dX1_left_115 rfl rfl ?_
    refine go_iload_n (pc' := 117) cx dX1_left_116 rfl rfl ?_
    refine go_aload_n (pc' := 118) cx dX1_left_117 rfl rfl ?_
    refine go_getr (pc' := 121) cx (so + 1) fX1_11 dX1_left_118 (sal_k0 hs) (sal_l0 hs) (ltn rfl) rfl (sal_r1 hs) rfl ?_
    refine go_bipush (pc' := 123) cx 10 dX1_left_121 rfl rfl ?_
    refine go_aaldk (pc' := 124) cx 10 (so + 2 + 10) dX1_left_123 (sal_k1 hs) (Nat.le_of_ble_eq_true rfl) (ltn rfl) (sal_l1 hs) (vpi (k := 10) (a := 11) (ltn rfl) rfl rfl) (cli (k := 10) (a := 11) (ltn rfl) rfl) (sal_rr hs (ltn rfl)) rfl ?_
    refine go_iload (pc' := 126) cx dX1_left_124 rfl rfl ?_
    refine go_iald (pc' := 127) cx (g (so + 2 + 10) h) dX1_left_126 (sal_kr hs (ltn rfl)) (sal_lr hs (ltn rfl)) (vpi (k := h) (a := 8) hh rfl rfl) (congrArg (g (so + 2 + 10)) (cli (k := h) (a := 8) hh rfl)) rfl ?_
    refine go_iload_n (pc' := 128) cx dX1_left_127 rfl rfl ?_
    refine go_iload (pc' := 130) cx dX1_left_128 rfl rfl ?_
    refine go_cSi (pc' := 133) cx (c_X1_leaves l E (g (so + 2 + 10) h) len (x_1 - 10)) mX1_leaves lX1_65 dX1_left_130 rfl rfl rfl (ltn rfl) (Nat.le_of_ble_eq_true rfl) (Nat.le_of_ble_eq_true rfl) rfl ?_
    refine go_mmin (pc' := 136) cx lX1_49 dX1_left_133 rfl (ltn rfl) (Nat.le_of_ble_eq_true rfl) rfl ?_
    refine go_mmax (pc' := 139) cx lX1_68 dX1_left_136 rfl (ltn rfl) (Nat.le_of_ble_eq_true rfl) rfl ?_
    refine go_iret cx rfl dX1_left_139 ?_
    exact Zi.mk (by first | (simp [lfS, leftV, wantsV, mx, mn, ex_1, n37_1, c37]; done) | (simp_all [lfS, leftV, wantsV, mx, mn]; done)) rfl
  have n37_2 := c37
  by_cases c37 : g (so + 2 + 9) v = 3
  · refine go_tabIn cx 85 dX1_left_37 (by rw [c37]; decide) (by rw [c37]; decide) (by rw [c37]; rfl) rfl ?_
    refine go_aload_n (pc' := 86) cx dX1_left_85 rfl rfl ?_
    refine go_getr (pc' := 89) cx (so + 1) fX1_11 dX1_left_86 (sal_k0 hs) (sal_l0 hs) (ltn rfl) rfl (sal_r1 hs) rfl ?_
    refine go_iconst (pc' := 90) cx 3 dX1_left_89 rfl rfl ?_
    refine go_aaldk (pc' := 91) cx 3 (so + 2 + 3) dX1_left_90 (sal_k1 hs) (Nat.le_of_ble_eq_true rfl) (ltn rfl) (sal_l1 hs) (vpi (k := 3) (a := 4) (ltn rfl) rfl rfl) (cli (k := 3) (a := 4) (ltn rfl) rfl) (sal_rr hs (ltn rfl)) rfl ?_
    refine go_iconst (pc' := 92) cx 0 dX1_left_91 rfl rfl ?_
    refine go_iald (pc' := 93) cx (g (so + 2 + 3) 0) dX1_left_92 (sal_kr hs (ltn rfl)) (sal_lr hs (ltn rfl)) (vpi (k := 0) (a := 1) (ltn rfl) rfl rfl) (congrArg (g (so + 2 + 3)) (cli (k := 0) (a := 1) (ltn rfl) rfl)) rfl ?_
    refine go_iconst (pc' := 94) cx (-1) dX1_left_93 rfl rfl ?_
    refine go_icmp_ne (pc' := 97) cx 102 dX1_left_94 rfl rfl (fun c94 => ?_) (fun c94 => ?_)
    · refine go_aload_n (pc' := 103) cx dX1_left_102 rfl rfl ?_
      refine go_getr (pc' := 106) cx (so + 1) fX1_11 dX1_left_103 (sal_k0 hs) (sal_l0 hs) (ltn rfl) rfl (sal_r1 hs) rfl ?_
      refine go_iconst (pc' := 107) cx 3 dX1_left_106 rfl rfl ?_
      refine go_aaldk (pc' := 108) cx 3 (so + 2 + 3) dX1_left_107 (sal_k1 hs) (Nat.le_of_ble_eq_true rfl) (ltn rfl) (sal_l1 hs) (vpi (k := 3) (a := 4) (ltn rfl) rfl rfl) (cli (k := 3) (a := 4) (ltn rfl) rfl) (sal_rr hs (ltn rfl)) rfl ?_
      refine go_iconst (pc' := 109) cx 0 dX1_left_108 rfl rfl ?_
      refine go_iald (pc' := 110) cx (g (so + 2 + 3) 0) dX1_left_109 (sal_kr hs (ltn rfl)) (sal_lr hs (ltn rfl)) (vpi (k := 0) (a := 1) (ltn rfl) rfl rfl) (congrArg (g (so + 2 + 3)) (cli (k := 0) (a := 1) (ltn rfl) rfl)) rfl ?_
      refine go_istore (pc' := 112) cx dX1_left_110 (ltn rfl) [(5, .int (g (so + 2 + 3) 0)), (4, .int (nI h)), (0, .ref (E.2.1 so)), (1, .int (nI pl)), (2, .int len), (3, .int (nI v))] rfl rfl ?_
      refine go_goto cx 115 dX1_left_112 rfl ?_
      refine go_iconst (pc' := 116) cx 0 dX1_left_115 rfl rfl ?_
      refine go_iload_n (pc' := 117) cx dX1_left_116 rfl rfl ?_
      refine go_aload_n (pc' := 118) cx dX1_left_117 rfl rfl ?_
      refine go_getr (pc' := 121) cx (so + 1) fX1_11 dX1_left_118 (sal_k0 hs) (sal_l0 hs) (ltn rfl) rfl (sal_r1 hs) rfl ?_
      refine go_bipush (pc' := 123) cx 10 dX1_left_121 rfl rfl ?_
      refine go_aaldk (pc' := 124) cx 10 (so + 2 + 10) dX1_left_123 (sal_k1 hs) (Nat.le_of_ble_eq_true rfl) (ltn rfl) (sal_l1 hs) (vpi (k := 10) (a := 11) (ltn rfl) rfl rfl) (cli (k := 10) (a := 11) (ltn rfl) rfl) (sal_rr hs (ltn rfl)) rfl ?_
      refine go_iload (pc' := 126) cx dX1_left_124 rfl rfl ?_
      refine go_iald (pc' := 127) cx (g (so + 2 + 10) h) dX1_left_126 (sal_kr hs (ltn rfl)) (sal_lr hs (ltn rfl)) (vpi (k := h) (a := 8) hh rfl rfl) (congrArg (g (so + 2 + 10)) (cli (k := h) (a := 8) hh rfl)) rfl ?_
      refine go_iload_n (pc' := 128) cx dX1_left_127 rfl rfl ?_
      refine go_iload (pc' := 130) cx dX1_left_128 rfl rfl ?_
      refine go_cSi (pc' := 133) cx (c_X1_leaves l E (g (so + 2 + 10) h) len (g (so + 2 + 3) 0)) mX1_leaves lX1_65 dX1_left_130 rfl rfl rfl (ltn rfl) (Nat.le_of_ble_eq_true rfl) (Nat.le_of_ble_eq_true rfl) rfl ?_
      refine go_mmin (pc' := 136) cx lX1_49 dX1_left_133 rfl (ltn rfl) (Nat.le_of_ble_eq_true rfl) rfl ?_
      refine go_mmax (pc' := 139) cx lX1_68 dX1_left_136 rfl (ltn rfl) (Nat.le_of_ble_eq_true rfl) rfl ?_
      refine go_iret cx rfl dX1_left_139 ?_
      exact Zi.mk (by first | (simp [lfS, leftV, wantsV, mx, mn, ex_1, n37_1, n37_2, c37, c94]; done) | (simp_all [lfS, leftV, wantsV, mx, mn]; done)) rfl
    · refine go_iload (pc' := 99) cx dX1_left_97 rfl rfl ?_
      refine go_goto cx 110 dX1_left_99 rfl ?_
      refine go_istore (pc' := 112) cx dX1_left_110 (ltn rfl) [(5, .int x_1), (4, .int (nI h)), (0, .ref (E.2.1 so)), (1, .int (nI pl)), (2, .int len), (3, .int (nI v))] rfl rfl ?_
      refine go_goto cx 115 dX1_left_112 rfl ?_
      refine go_iconst (pc' := 116) cx 0 dX1_left_115 rfl rfl ?_
      refine go_iload_n (pc' := 117) cx dX1_left_116 rfl rfl ?_
      refine go_aload_n (pc' := 118) cx dX1_left_117 rfl rfl ?_
      refine go_getr (pc' := 121) cx (so + 1) fX1_11 dX1_left_118 (sal_k0 hs) (sal_l0 hs) (ltn rfl) rfl (sal_r1 hs) rfl ?_
      refine go_bipush (pc' := 123) cx 10 dX1_left_121 rfl rfl ?_
      refine go_aaldk (pc' := 124) cx 10 (so + 2 + 10) dX1_left_123 (sal_k1 hs) (Nat.le_of_ble_eq_true rfl) (ltn rfl) (sal_l1 hs) (vpi (k := 10) (a := 11) (ltn rfl) rfl rfl) (cli (k := 10) (a := 11) (ltn rfl) rfl) (sal_rr hs (ltn rfl)) rfl ?_
      refine go_iload (pc' := 126) cx dX1_left_124 rfl rfl ?_
      refine go_iald (pc' := 127) cx (g (so + 2 + 10) h) dX1_left_126 (sal_kr hs (ltn rfl)) (sal_lr hs (ltn rfl)) (vpi (k := h) (a := 8) hh rfl rfl) (congrArg (g (so + 2 + 10)) (cli (k := h) (a := 8) hh rfl)) rfl ?_
      refine go_iload_n (pc' := 128) cx dX1_left_127 rfl rfl ?_
      refine go_iload (pc' := 130) cx dX1_left_128 rfl rfl ?_
      refine go_cSi (pc' := 133) cx (c_X1_leaves l E (g (so + 2 + 10) h) len x_1) mX1_leaves lX1_65 dX1_left_130 rfl rfl rfl (ltn rfl) (Nat.le_of_ble_eq_true rfl) (Nat.le_of_ble_eq_true rfl) rfl ?_
      refine go_mmin (pc' := 136) cx lX1_49 dX1_left_133 rfl (ltn rfl) (Nat.le_of_ble_eq_true rfl) rfl ?_
      refine go_mmax (pc' := 139) cx lX1_68 dX1_left_136 rfl (ltn rfl) (Nat.le_of_ble_eq_true rfl) rfl ?_
      refine go_iret cx rfl dX1_left_139 ?_
      exact Zi.mk (by first | (simp [lfS, leftV, wantsV, mx, mn, ex_1, n37_1, n37_2, c37, c94]; done) | (simp_all [lfS, leftV, wantsV, mx, mn]; done)) rfl
  have n37_3 := c37
  refine go_tabD cx 115 dX1_left_37 ?_ rfl ?_
  · by_cases q1 : (g (so + 2 + 9) v).toInt < 1
    · exact Or.inl (Or.inl q1)
    by_cases q2 : 3 < (g (so + 2 + 9) v).toInt
    · exact Or.inl (Or.inr q2)
    refine Or.inr ⟨q1, q2, ?_⟩
    rcases (show (g (so + 2 + 9) v).toInt = 1 ∨ (g (so + 2 + 9) v).toInt = 2 ∨ (g (so + 2 + 9) v).toInt = 3 by omega) with q3 | q3 | q3
    · exact absurd (Int32.toInt_inj.mp (q3.trans (by decide))) n37_1
    · exact absurd (Int32.toInt_inj.mp (q3.trans (by decide))) n37_2
    · exact absurd (Int32.toInt_inj.mp (q3.trans (by decide))) n37_3
  refine go_iconst (pc' := 116) cx 0 dX1_left_115 rfl rfl ?_
  refine go_iload_n (pc' := 117) cx dX1_left_116 rfl rfl ?_
  refine go_aload_n (pc' := 118) cx dX1_left_117 rfl rfl ?_
  refine go_getr (pc' := 121) cx (so + 1) fX1_11 dX1_left_118 (sal_k0 hs) (sal_l0 hs) (ltn rfl) rfl (sal_r1 hs) rfl ?_
  refine go_bipush (pc' := 123) cx 10 dX1_left_121 rfl rfl ?_
  refine go_aaldk (pc' := 124) cx 10 (so + 2 + 10) dX1_left_123 (sal_k1 hs) (Nat.le_of_ble_eq_true rfl) (ltn rfl) (sal_l1 hs) (vpi (k := 10) (a := 11) (ltn rfl) rfl rfl) (cli (k := 10) (a := 11) (ltn rfl) rfl) (sal_rr hs (ltn rfl)) rfl ?_
  refine go_iload (pc' := 126) cx dX1_left_124 rfl rfl ?_
  refine go_iald (pc' := 127) cx (g (so + 2 + 10) h) dX1_left_126 (sal_kr hs (ltn rfl)) (sal_lr hs (ltn rfl)) (vpi (k := h) (a := 8) hh rfl rfl) (congrArg (g (so + 2 + 10)) (cli (k := h) (a := 8) hh rfl)) rfl ?_
  refine go_iload_n (pc' := 128) cx dX1_left_127 rfl rfl ?_
  refine go_iload (pc' := 130) cx dX1_left_128 rfl rfl ?_
  refine go_cSi (pc' := 133) cx (c_X1_leaves l E (g (so + 2 + 10) h) len x_1) mX1_leaves lX1_65 dX1_left_130 rfl rfl rfl (ltn rfl) (Nat.le_of_ble_eq_true rfl) (Nat.le_of_ble_eq_true rfl) rfl ?_
  refine go_mmin (pc' := 136) cx lX1_49 dX1_left_133 rfl (ltn rfl) (Nat.le_of_ble_eq_true rfl) rfl ?_
  refine go_mmax (pc' := 139) cx lX1_68 dX1_left_136 rfl (ltn rfl) (Nat.le_of_ble_eq_true rfl) rfl ?_
  refine go_iret cx rfl dX1_left_139 ?_
  exact Zi.mk (by first | (simp [lfS, leftV, wantsV, mx, mn, ex_1, n37_1, n37_2, n37_3]; done) | (simp_all [lfS, leftV, wantsV, mx, mn]; done)) rfl

set_option maxHeartbeats 4000000 in
set_option maxRecDepth 20000 in
theorem off_loop {l : Launch} {E : Ev} {Z : ZT} {o : Option Nat} {z : Int64} {p : Program} {e : Env} {s : State} {m : MethodId} {args : Array Value} {below : List Frame} {meth : Method} {c : Code} {so : Nat} (hs : Sal so) {ru : Nat} {M : Nat → (Int32 → Int32) → Int32} (hru0 : ru < 6) {g : IG} (hT : TxM g ru M) (hgr : g so 4 = nI ru) (cx : Cx p s m args meth c E 88 cX1_off 4 yX1_off.cls (some .int)) : ∀ (k q : Nat) (sum : Int32) (f : Nat → Int32), q + k = 4 → sum = offS (g (so + 2 + 0)) (g (so + 2 + 2)) (fun q => M 2 (nmV (g (so + 2 + 0) q) (g (so + 2 + 1) q) (g (so + 2 + 2) q) 0 (nI q) 0)) q → (∀ f, Go p l e (rmd 3) s m args below meth c E 88 4 Z (upw g (5 + 4 * ru + 3) f) (RFo o) z 57 [(1, .int (offS (g (so + 2 + 0)) (g (so + 2 + 2)) (fun q => M 2 (nmV (g (so + 2 + 0) q) (g (so + 2 + 1) q) (g (so + 2 + 2) q) 0 (nI q) 0)) 4))] []) → Go p l e (rmd 3) s m args below meth c E 88 4 Z (upw g (5 + 4 * ru + 3) f) (RFo o) z 4 [(2, .int (nI q)), (1, .int sum), (0, .ref (E.2.1 so))] [] := by
  have hso : so = 37 ∨ so = 50 ∨ so = 64 := hs
  intro k
  induction k with
  | zero =>
    intro q sum f hk hsum kk
    have hq : q = 4 := by omega
    subst hq
    subst hsum
    refine go_iload_n (pc' := 5) cx dX1_off_4 rfl rfl ?_
    refine go_iconst (pc' := 6) cx 4 dX1_off_5 rfl rfl ?_
    refine go_icmp_ge (pc' := 9) cx 57 dX1_off_6 rfl rfl (fun _ => ?_) (fun hh => absurd hh (by decide))
    refine go_sub [1] [(1, .int (offS (g (so + 2 + 0)) (g (so + 2 + 2)) (fun q => M 2 (nmV (g (so + 2 + 0) q) (g (so + 2 + 1) q) (g (so + 2 + 2) q) 0 (nI q) 0)) 4))] rfl ?_
    exact kk f
  | succ k ih =>
    intro q sum f hk hsum kk
    refine go_iload_n (pc' := 5) cx dX1_off_4 rfl rfl ?_
    refine go_iconst (pc' := 6) cx 4 dX1_off_5 rfl rfl ?_
    refine go_icmp_ge (pc' := 9) cx 57 dX1_off_6 rfl rfl (fun hh => absurd ((nI_leI (a := 4) (b := q) (by omega) (by omega)).mp hh) (by omega)) (fun _ => ?_)
    refine go_aload_n (pc' := 10) cx dX1_off_9 rfl rfl ?_
    refine go_getr (pc' := 13) cx (so + 1) fX1_11 dX1_off_10 (sal_k0 hs) (sal_l0 hs) (ltn rfl) rfl (sal_r1 hs) rfl ?_
    refine go_iconst (pc' := 14) cx 0 dX1_off_13 rfl rfl ?_
    refine go_aaldk (pc' := 15) cx 0 (so + 2 + 0) dX1_off_14 (sal_k1 hs) (Nat.le_of_ble_eq_true rfl) (ltn rfl) (sal_l1 hs) (vpi (k := 0) (a := 1) (ltn rfl) rfl rfl) (cli (k := 0) (a := 1) (ltn rfl) rfl) (sal_rr hs (ltn rfl)) rfl ?_
    refine go_iload_n (pc' := 16) cx dX1_off_15 rfl rfl ?_
    refine go_iald (pc' := 17) cx (g (so + 2 + 0) q) dX1_off_16 (sal_kr hs (ltn rfl)) (sal_lr hs (ltn rfl)) (vpi (k := q) (a := 8) (by omega) rfl rfl) ((congrArg ((upw g (5 + 4 * ru + 3) f) (so + 2 + 0)) (cli (k := q) (a := 8) (by omega) rfl)).trans (upw_n g _ _ (by omega))) rfl ?_
    refine go_aload_n (pc' := 18) cx dX1_off_17 rfl rfl ?_
    refine go_getr (pc' := 21) cx (so + 1) fX1_11 dX1_off_18 (sal_k0 hs) (sal_l0 hs) (ltn rfl) rfl (sal_r1 hs) rfl ?_
    refine go_iconst (pc' := 22) cx 2 dX1_off_21 rfl rfl ?_
    refine go_aaldk (pc' := 23) cx 2 (so + 2 + 2) dX1_off_22 (sal_k1 hs) (Nat.le_of_ble_eq_true rfl) (ltn rfl) (sal_l1 hs) (vpi (k := 2) (a := 3) (ltn rfl) rfl rfl) (cli (k := 2) (a := 3) (ltn rfl) rfl) (sal_rr hs (ltn rfl)) rfl ?_
    refine go_iload_n (pc' := 24) cx dX1_off_23 rfl rfl ?_
    refine go_iald (pc' := 25) cx (g (so + 2 + 2) q) dX1_off_24 (sal_kr hs (ltn rfl)) (sal_lr hs (ltn rfl)) (vpi (k := q) (a := 8) (by omega) rfl rfl) ((congrArg ((upw g (5 + 4 * ru + 3) f) (so + 2 + 2)) (cli (k := q) (a := 8) (by omega) rfl)).trans (upw_n g _ _ (by omega))) rfl ?_
    refine go_isub (pc' := 26) cx dX1_off_25 rfl ?_
    refine go_mabs (pc' := 29) cx lX1_71 dX1_off_26 rfl (ltn rfl) (Nat.le_of_ble_eq_true rfl) rfl ?_
    refine go_name (fun x_1 ex_1 => ?_)
    refine go_istore_n (pc' := 30) cx dX1_off_29 (ltn rfl) [(3, .int x_1), (2, .int (nI q)), (1, .int sum), (0, .ref (E.2.1 so))] rfl rfl ?_
    refine go_iload_n (pc' := 31) cx dX1_off_30 rfl rfl ?_
    refine go_iload_n (pc' := 32) cx dX1_off_31 rfl rfl ?_
    refine go_aload_n (pc' := 33) cx dX1_off_32 rfl rfl ?_
    refine go_getr (pc' := 36) cx 1 fX1_26 dX1_off_33 (sal_k0 hs) (sal_l0 hs) (ltn rfl) rfl (sal_r0 hs) rfl ?_
    refine go_aload_n (pc' := 37) cx dX1_off_36 rfl rfl ?_
    refine go_geti (pc' := 40) cx (nI ru) fX1_23 dX1_off_37 (sal_k0 hs) (sal_l0 hs) (ltn rfl) rfl ((upw_n g f 4 (by omega)).trans hgr) rfl ?_
    refine go_aaldk (pc' := 41) cx ru (5 + 4 * ru) dX1_off_40 kq1 (Nat.le_of_ble_eq_true rfl) (ltn rfl) (ltn rfl) (vpi (k := ru) (a := 6) hru0 rfl rfl) (cli (k := ru) (a := 6) hru0 rfl) (txt_r hru0).2.2.2 rfl ?_
    refine go_iconst (pc' := 42) cx 2 dX1_off_41 rfl rfl ?_
    refine go_iload_n (pc' := 43) cx dX1_off_42 rfl rfl ?_
    refine go_aload_n (pc' := 44) cx dX1_off_43 rfl rfl ?_
    refine go_iconst (pc' := 45) cx (-1) dX1_off_44 rfl rfl ?_
    obtain ⟨hru, en, hen, hM⟩ := id (hT.up (g' := (upw g (5 + 4 * ru + 3) f)) (funext fun _ => upw_n _ _ _ (by omega)) (funext fun _ => upw_n _ _ _ (by omega)))
    refine go_cVI (pc' := 48) cx (c_X3_tell l E (g := (upw g (5 + 4 * ru + 3) f)) (t := ru) (so := so) (pl := q) (v := 0) (en := en 2) (i0 := (en 1)) (pt := 2) hru hs (ltn rfl) (by omega) ((-1)) (fun q => absurd rfl q) (hen 2 (ltn rfl)).2 (hen 2 (ltn rfl)).1 (hen 1 (by omega)).2 (fun q => absurd q (by decide)) (fun _ => (hen 1 (by omega)).1)) mX3_tell lX1_43 dX1_off_45 (txt_k' _ hru0).1 (ltn rfl) (by omega) rfl rfl rfl rfl (ltn rfl) (Nat.le_of_ble_eq_true rfl) (Nat.le_of_ble_eq_true rfl) rfl (fun tv_2 gt ht => ?_)
    obtain ⟨tv_2e, ff, hgt⟩ := ht
    rw [upw_upw] at hgt
    subst hgt
    have tv_2e := tv_2e.trans (hM 2 (ltn rfl) _ _)
    refine go_imul (pc' := 49) cx dX1_off_48 rfl ?_
    refine go_iadd (pc' := 50) cx dX1_off_49 rfl ?_
    refine go_istore_n (pc' := 51) cx dX1_off_50 (ltn rfl) [(1, .int (sum + (x_1 * tv_2))), (3, .int x_1), (2, .int (nI q)), (0, .ref (E.2.1 so))] rfl rfl ?_
    refine go_iinc (pc' := 54) cx (nI (q + 1)) dX1_off_51 rfl (nI_1 q) (ltn rfl) [(2, .int (nI (q + 1))), (1, .int (sum + (x_1 * tv_2))), (3, .int x_1), (0, .ref (E.2.1 so))] rfl rfl ?_
    refine go_goto cx 4 dX1_off_54 rfl ?_
    refine go_sub [0, 1, 3] [(2, .int (nI (q + 1))), (1, .int (sum + (x_1 * tv_2))), (0, .ref (E.2.1 so))] rfl ?_
    refine ih (q + 1) _ ff (by omega) ?_ kk
    rw [ex_1, hsum]
    show _ = offS _ _ _ q + _
    rw [tv_2e]
    simp only [evS]
    rw [upw_n _ _ _ (by omega), upw_n _ _ _ (by omega), upw_n _ _ _ (by omega)]
    rfl

set_option maxHeartbeats 4000000 in
set_option maxRecDepth 20000 in
theorem c_X1_off (l : Launch) (E : Ev) {g : IG} {o : Option Nat} {z : Int64} {so : Nat} (hs : Sal so) {ru : Nat} {M : Nat → (Int32 → Int32) → Int32} (hru0 : ru < 6) (hT : TxM g ru M) (hgr : g so 4 = nI ru) : Ct l E 88 yX1_off cX1_off 4 (some .int) 3 [.ref (E.2.1 so)] g (RFo o) z (ZI (RFo o) z (fun x g1 => x = offS (g (so + 2 + 0)) (g (so + 2 + 2)) (fun q => M 2 (nmV (g (so + 2 + 0) q) (g (so + 2 + 1) q) (g (so + 2 + 2) q) 0 (nI q) 0)) 4 ∧ ∃ f, g1 = upw g (5 + 4 * ru + 3) f)) := by
  refine Ct.of (lv0 := [(0, .ref (E.2.1 so))]) (by decide) (Nat.le_of_ble_eq_true rfl) rfl ?_
  intro p e s m below meth c cx
  refine go_iconst (pc' := 1) cx 0 dX1_off_0 rfl rfl ?_
  refine go_istore_n (pc' := 2) cx dX1_off_1 (ltn rfl) [(1, .int 0), (0, .ref (E.2.1 so))] rfl rfl ?_
  refine go_iconst (pc' := 3) cx 0 dX1_off_2 rfl rfl ?_
  refine go_istore_n (pc' := 4) cx dX1_off_3 (ltn rfl) [(2, .int 0), (1, .int 0), (0, .ref (E.2.1 so))] rfl rfl ?_
  refine go_g (upw_id g (5 + 4 * ru + 3)).symm ?_
  refine off_loop hs hru0 hT hgr cx 4 0 0 (g (5 + 4 * ru + 3)) rfl rfl (fun f => ?_)
  refine go_iload_n (pc' := 58) cx dX1_off_57 rfl rfl ?_
  refine go_iret cx rfl dX1_off_58 ?_
  exact ZI.mk ⟨rfl, f, rfl⟩

set_option maxHeartbeats 4000000 in
set_option maxRecDepth 20000 in
theorem even_loop {l : Launch} {E : Ev} {Z : ZT} {o : Option Nat} {z : Int64} {p : Program} {e : Env} {s : State} {m : MethodId} {args : Array Value} {below : List Frame} {meth : Method} {c : Code} {so : Nat} (hs : Sal so) {ru v pl : Nat} {M : Nat → (Int32 → Int32) → Int32} (hru0 : ru < 6) (hv : v < 8) (hpl : pl < 3) {g : IG} (hT : TxM g ru M) (hgr : g so 4 = nI ru) (cx : Cx p s m args meth c E 88 cX1_even 8 yX1_even.cls (some .int)) : ∀ (k j : Nat) (Lf f : Nat → Int32), j + k = 30 → (∀ f2, Z (some (.int (nI (j + (evn (evB M g so v pl) pl k Lf).1)))) (upw (upw g (so + 2 + 0) (evn (evB M g so v pl) pl k Lf).2) (5 + 4 * ru + 3) f2) (RFo o) z) → Go p l e (rmd 3) s m args below meth c E 88 8 Z (upw (upw g (so + 2 + 0) Lf) (5 + 4 * ru + 3) f) (RFo o) z 10 [(4, .int (nI j)), (3, .ref (E.2.1 (so + 2 + 0))), (0, .ref (E.2.1 so)), (1, .int (nI pl)), (2, .int (nI v))] [] := by
  have hso : so = 37 ∨ so = 50 ∨ so = 64 := hs
  intro k
  induction k with
  | zero =>
    intro j Lf f hk hZ
    have hj : j = 30 := by omega
    subst hj
    refine go_iload (pc' := 12) cx dX1_even_10 rfl rfl ?_
    refine go_bipush (pc' := 14) cx 30 dX1_even_12 rfl rfl ?_
    refine go_icmp_ge (pc' := 17) cx 110 dX1_even_14 rfl rfl (fun _ => ?_) (fun hh => absurd hh (by decide))
    refine go_bipush (pc' := 112) cx 30 dX1_even_110 rfl rfl ?_
    refine go_iret cx rfl dX1_even_112 ?_
    exact hZ f
  | succ k ih =>
    intro j Lf f hk hZ
    refine go_iload (pc' := 12) cx dX1_even_10 rfl rfl ?_
    refine go_bipush (pc' := 14) cx 30 dX1_even_12 rfl rfl ?_
    refine go_icmp_ge (pc' := 17) cx 110 dX1_even_14 rfl rfl (fun hh => absurd ((nI_leI (a := 30) (b := j) (by omega) (by omega)).mp hh) (by omega)) (fun _ => ?_)
    refine go_aload_n (pc' := 18) cx dX1_even_17 rfl rfl ?_
    refine go_getr (pc' := 21) cx 1 fX1_26 dX1_even_18 (sal_k0 hs) (sal_l0 hs) (ltn rfl) rfl (sal_r0 hs) rfl ?_
    refine go_aload_n (pc' := 22) cx dX1_even_21 rfl rfl ?_
    refine go_geti (pc' := 25) cx (nI ru) fX1_23 dX1_even_22 (sal_k0 hs) (sal_l0 hs) (ltn rfl) rfl (((upw_n (upw g (so + 2 + 0) Lf) f 4 (by omega)).trans (upw_n g Lf 4 (by omega))).trans hgr) rfl ?_
    refine go_aaldk (pc' := 26) cx ru (5 + 4 * ru) dX1_even_25 kq1 (Nat.le_of_ble_eq_true rfl) (ltn rfl) (ltn rfl) (vpi (k := ru) (a := 6) hru0 rfl rfl) (cli (k := ru) (a := 6) hru0 rfl) (txt_r hru0).2.2.2 rfl ?_
    refine go_iconst (pc' := 27) cx 1 dX1_even_26 rfl rfl ?_
    refine go_iload_n (pc' := 28) cx dX1_even_27 rfl rfl ?_
    refine go_aload_n (pc' := 29) cx dX1_even_28 rfl rfl ?_
    refine go_iload_n (pc' := 30) cx dX1_even_29 rfl rfl ?_
    obtain ⟨hru, en, hen, hM⟩ := id (hT.up (g' := (upw (upw g (so + 2 + 0) Lf) (5 + 4 * ru + 3) f)) (by rw [upw_rn _ _ (by omega), upw_rn _ _ (by omega)]) (by rw [upw_rn _ _ (by omega), upw_rn _ _ (by omega)]))
    refine go_cVI (pc' := 33) cx (c_X3_tell l E (g := (upw (upw g (so + 2 + 0) Lf) (5 + 4 * ru + 3) f)) (t := ru) (so := so) (pl := pl) (v := v) (en := en 1) (i0 := (en 0)) (pt := 1) hru hs (ltn rfl) (by omega) (nI v) (fun _ => ⟨rfl, hv⟩) (hen 1 (ltn rfl)).2 (hen 1 (ltn rfl)).1 (hen 0 (by omega)).2 (fun q => absurd q (by decide)) (fun _ => (hen 0 (by omega)).1)) mX3_tell lX1_43 dX1_even_30 (txt_k' _ hru0).1 (ltn rfl) (by omega) rfl rfl rfl rfl (ltn rfl) (Nat.le_of_ble_eq_true rfl) (Nat.le_of_ble_eq_true rfl) rfl (fun tv_1 gt ht => ?_)
    obtain ⟨tv_1e, ff, hgt⟩ := ht
    rw [upw_upw] at hgt
    subst hgt
    have tv_1e := tv_1e.trans (hM 1 (ltn rfl) _ _)
    rw [evS_vis hv] at tv_1e
    refine go_istore (pc' := 35) cx dX1_even_33 (ltn rfl) [(5, .int tv_1), (4, .int (nI j)), (3, .ref (E.2.1 (so + 2 + 0))), (0, .ref (E.2.1 so)), (1, .int (nI pl)), (2, .int (nI v))] rfl rfl ?_
    refine go_aload_n (pc' := 36) cx dX1_even_35 rfl rfl ?_
    refine go_iload_n (pc' := 37) cx dX1_even_36 rfl rfl ?_
    refine go_iald (pc' := 38) cx (Lf pl) dX1_even_37 (sal_kr hs (ltn rfl)) (sal_lr hs (ltn rfl)) (vpi (k := pl) (a := 3) hpl rfl rfl) ((congrArg ((upw (upw g (so + 2 + 0) Lf) (5 + 4 * ru + 3) ff) (so + 2 + 0)) (cli (k := pl) (a := 3) hpl rfl)).trans ((upw_n (upw g (so + 2 + 0) Lf) ff pl (by omega)).trans (upw_s g (so + 2 + 0) Lf pl))) rfl ?_
    refine go_aload_n (pc' := 39) cx dX1_even_38 rfl rfl ?_
    refine go_iload_n (pc' := 40) cx dX1_even_39 rfl rfl ?_
    refine go_iconst (pc' := 41) cx 1 dX1_even_40 rfl rfl ?_
    refine go_iadd (pc' := 42) cx dX1_even_41 rfl ?_
    refine go_val (w := .int (nI (pl + 1))) (congrArg Value.int (nI_add pl 1)) ?_
    refine go_iald (pc' := 43) cx (Lf (pl + 1)) dX1_even_42 (sal_kr hs (ltn rfl)) (sal_lr hs (ltn rfl)) (vpi (k := (pl + 1)) (a := 8) (by omega) rfl rfl) ((congrArg ((upw (upw g (so + 2 + 0) Lf) (5 + 4 * ru + 3) ff) (so + 2 + 0)) (cli (k := (pl + 1)) (a := 8) (by omega) rfl)).trans ((upw_n (upw g (so + 2 + 0) Lf) ff (pl + 1) (by omega)).trans (upw_s g (so + 2 + 0) Lf (pl + 1)))) rfl ?_
    refine go_isub (pc' := 44) cx dX1_even_43 rfl ?_
    refine go_mabs (pc' := 47) cx lX1_71 dX1_even_44 rfl (ltn rfl) (Nat.le_of_ble_eq_true rfl) rfl ?_
    refine go_iload (pc' := 49) cx dX1_even_47 rfl rfl ?_
    refine go_icmp_gt (pc' := 52) cx 55 dX1_even_49 rfl rfl (fun c49 => ?_) (fun c49 => ?_)
    · have htv : tv_1 = evB M g so v pl Lf := by
        rw [tv_1e]
        unfold evB
        rw [upw_rn _ _ (show so + 2 + 0 ≠ (5 + 4 * ru + 3) by omega), upw_rs, upw_rn _ _ (show so + 2 + 1 ≠ (5 + 4 * ru + 3) by omega), upw_rn _ _ (show so + 2 + 1 ≠ so + 2 + 0 by omega), upw_rn _ _ (show so + 2 + 2 ≠ (5 + 4 * ru + 3) by omega), upw_rn _ _ (show so + 2 + 2 ≠ so + 2 + 0 by omega), upw_rn _ _ (show so + 2 + 8 ≠ (5 + 4 * ru + 3) by omega), upw_rn _ _ (show so + 2 + 8 ≠ so + 2 + 0 by omega), upw_rn _ _ (show so + 2 + 7 ≠ (5 + 4 * ru + 3) by omega), upw_rn _ _ (show so + 2 + 7 ≠ so + 2 + 0 by omega)]
      rw [htv] at c49
      have hc49 : evB M g so v pl Lf < ab (Lf pl - Lf (pl + 1)) := c49
      refine go_aload_n (pc' := 56) cx dX1_even_55 rfl rfl ?_
      refine go_iload_n (pc' := 57) cx dX1_even_56 rfl rfl ?_
      refine go_iald (pc' := 58) cx (Lf pl) dX1_even_57 (sal_kr hs (ltn rfl)) (sal_lr hs (ltn rfl)) (vpi (k := pl) (a := 3) hpl rfl rfl) ((congrArg ((upw (upw g (so + 2 + 0) Lf) (5 + 4 * ru + 3) ff) (so + 2 + 0)) (cli (k := pl) (a := 3) hpl rfl)).trans ((upw_n (upw g (so + 2 + 0) Lf) ff pl (by omega)).trans (upw_s g (so + 2 + 0) Lf pl))) rfl ?_
      refine go_aload_n (pc' := 59) cx dX1_even_58 rfl rfl ?_
      refine go_iload_n (pc' := 60) cx dX1_even_59 rfl rfl ?_
      refine go_iconst (pc' := 61) cx 1 dX1_even_60 rfl rfl ?_
      refine go_iadd (pc' := 62) cx dX1_even_61 rfl ?_
      refine go_val (w := .int (nI (pl + 1))) (congrArg Value.int (nI_add pl 1)) ?_
      refine go_iald (pc' := 63) cx (Lf (pl + 1)) dX1_even_62 (sal_kr hs (ltn rfl)) (sal_lr hs (ltn rfl)) (vpi (k := (pl + 1)) (a := 8) (by omega) rfl rfl) ((congrArg ((upw (upw g (so + 2 + 0) Lf) (5 + 4 * ru + 3) ff) (so + 2 + 0)) (cli (k := (pl + 1)) (a := 8) (by omega) rfl)).trans ((upw_n (upw g (so + 2 + 0) Lf) ff (pl + 1) (by omega)).trans (upw_s g (so + 2 + 0) Lf (pl + 1)))) rfl ?_
      refine go_icmp_le (pc' := 66) cx 70 dX1_even_63 rfl rfl (fun c63 => ?_) (fun c63 => ?_)
      · refine go_iload_n (pc' := 71) cx dX1_even_70 rfl rfl ?_
        refine go_iconst (pc' := 72) cx 1 dX1_even_71 rfl rfl ?_
        refine go_iadd (pc' := 73) cx dX1_even_72 rfl ?_
        refine go_val (w := .int (nI (pl + 1))) (congrArg Value.int (nI_add pl 1)) ?_
        refine go_istore (pc' := 75) cx dX1_even_73 (ltn rfl) [(6, .int (nI (pl + 1))), (5, .int tv_1), (4, .int (nI j)), (3, .ref (E.2.1 (so + 2 + 0))), (0, .ref (E.2.1 so)), (1, .int (nI pl)), (2, .int (nI v))] rfl rfl ?_
        refine go_iload (pc' := 77) cx dX1_even_75 rfl rfl ?_
        refine go_iload_n (pc' := 78) cx dX1_even_77 rfl rfl ?_
        refine go_icmp_ne (pc' := 81) cx 87 dX1_even_78 rfl rfl (fun _ => ?_) (fun hh => absurd ((nI_eq (a := pl + 1) (b := pl) (by omega) (by omega)).mp hh) (by omega))
        refine go_iload_n (pc' := 88) cx dX1_even_87 rfl rfl ?_
        refine go_istore (pc' := 90) cx dX1_even_88 (ltn rfl) [(7, .int (nI pl)), (6, .int (nI (pl + 1))), (5, .int tv_1), (4, .int (nI j)), (3, .ref (E.2.1 (so + 2 + 0))), (0, .ref (E.2.1 so)), (1, .int (nI pl)), (2, .int (nI v))] rfl rfl ?_
        refine go_aload_n (pc' := 91) cx dX1_even_90 rfl rfl ?_
        refine go_iload (pc' := 93) cx dX1_even_91 rfl rfl ?_
        refine go_iconst (pc' := 94) cx 0 dX1_even_93 rfl rfl ?_
        refine go_aload_n (pc' := 95) cx dX1_even_94 rfl rfl ?_
        refine go_iload (pc' := 97) cx dX1_even_95 rfl rfl ?_
        refine go_iald (pc' := 98) cx (Lf pl) dX1_even_97 (sal_kr hs (ltn rfl)) (sal_lr hs (ltn rfl)) (vpi (k := pl) (a := 3) hpl rfl rfl) ((congrArg ((upw (upw g (so + 2 + 0) Lf) (5 + 4 * ru + 3) ff) (so + 2 + 0)) (cli (k := pl) (a := 3) hpl rfl)).trans ((upw_n (upw g (so + 2 + 0) Lf) ff pl (by omega)).trans (upw_s g (so + 2 + 0) Lf pl))) rfl ?_
        refine go_iconst (pc' := 99) cx 1 dX1_even_98 rfl rfl ?_
        refine go_isub (pc' := 100) cx dX1_even_99 rfl ?_
        refine go_mmax (pc' := 103) cx lX1_68 dX1_even_100 rfl (ltn rfl) (Nat.le_of_ble_eq_true rfl) rfl ?_
        refine go_iastk (pc' := 104) cx (pl + 1) dX1_even_103 (sal_kr hs (ltn rfl)) (sal_lr hs (ltn rfl)) (vpi (k := (pl + 1)) (a := 8) (by omega) rfl rfl) (cli (k := (pl + 1)) (a := 8) (by omega) rfl) rfl ?_
        refine go_g (upw2_up g Lf ff (pl + 1) (if 0 < (Lf pl) - 1 then (Lf pl) - 1 else 0) (by omega)) ?_
        refine go_iinc (pc' := 107) cx (nI (j + 1)) dX1_even_104 rfl (nI_1 j) (ltn rfl) [(4, .int (nI (j + 1))), (7, .int (nI pl)), (6, .int (nI (pl + 1))), (5, .int tv_1), (3, .ref (E.2.1 (so + 2 + 0))), (0, .ref (E.2.1 so)), (1, .int (nI pl)), (2, .int (nI v))] rfl rfl ?_
        refine go_goto cx 10 dX1_even_107 rfl ?_
        refine go_sub [0, 4, 5, 6, 7] [(4, .int (nI (j + 1))), (3, .ref (E.2.1 (so + 2 + 0))), (0, .ref (E.2.1 so)), (1, .int (nI pl)), (2, .int (nI v))] rfl ?_
        have hev : (upd Lf (pl + 1) (if 0 < (Lf pl) - 1 then (Lf pl) - 1 else 0)) = evs Lf pl := by
          unfold evs mx
          first | rw [if_pos (Int32.not_le.mp c63)] | rw [if_neg (Int32.not_lt.mpr c63)]
        refine go_g (congrArg (fun q => upw (upw g (so + 2 + 0) q) (5 + 4 * ru + 3) ff) hev) ?_
        refine ih (j + 1) (evs Lf pl) ff (by omega) (fun f2 => ?_)
        have h9 := hZ f2
        rw [show evn (evB M g so v pl) pl (k + 1) Lf = ((evn (evB M g so v pl) pl k (evs Lf pl)).1 + 1, (evn (evB M g so v pl) pl k (evs Lf pl)).2) from if_pos hc49] at h9
        rw [show j + 1 + (evn (evB M g so v pl) pl k (evs Lf pl)).1 = j + ((evn (evB M g so v pl) pl k (evs Lf pl)).1 + 1) by omega]
        exact h9
      · refine go_iload_n (pc' := 67) cx dX1_even_66 rfl rfl ?_
        refine go_goto cx 73 dX1_even_67 rfl ?_
        refine go_istore (pc' := 75) cx dX1_even_73 (ltn rfl) [(6, .int (nI pl)), (5, .int tv_1), (4, .int (nI j)), (3, .ref (E.2.1 (so + 2 + 0))), (0, .ref (E.2.1 so)), (1, .int (nI pl)), (2, .int (nI v))] rfl rfl ?_
        refine go_iload (pc' := 77) cx dX1_even_75 rfl rfl ?_
        refine go_iload_n (pc' := 78) cx dX1_even_77 rfl rfl ?_
        refine go_icmp_ne (pc' := 81) cx 87 dX1_even_78 rfl rfl (fun hh => absurd rfl hh) (fun _ => ?_)
        refine go_iload_n (pc' := 82) cx dX1_even_81 rfl rfl ?_
        refine go_iconst (pc' := 83) cx 1 dX1_even_82 rfl rfl ?_
        refine go_iadd (pc' := 84) cx dX1_even_83 rfl ?_
        refine go_val (w := .int (nI (pl + 1))) (congrArg Value.int (nI_add pl 1)) ?_
        refine go_goto cx 88 dX1_even_84 rfl ?_
        refine go_istore (pc' := 90) cx dX1_even_88 (ltn rfl) [(7, .int (nI (pl + 1))), (6, .int (nI pl)), (5, .int tv_1), (4, .int (nI j)), (3, .ref (E.2.1 (so + 2 + 0))), (0, .ref (E.2.1 so)), (1, .int (nI pl)), (2, .int (nI v))] rfl rfl ?_
        refine go_aload_n (pc' := 91) cx dX1_even_90 rfl rfl ?_
        refine go_iload (pc' := 93) cx dX1_even_91 rfl rfl ?_
        refine go_iconst (pc' := 94) cx 0 dX1_even_93 rfl rfl ?_
        refine go_aload_n (pc' := 95) cx dX1_even_94 rfl rfl ?_
        refine go_iload (pc' := 97) cx dX1_even_95 rfl rfl ?_
        refine go_iald (pc' := 98) cx (Lf (pl + 1)) dX1_even_97 (sal_kr hs (ltn rfl)) (sal_lr hs (ltn rfl)) (vpi (k := (pl + 1)) (a := 8) (by omega) rfl rfl) ((congrArg ((upw (upw g (so + 2 + 0) Lf) (5 + 4 * ru + 3) ff) (so + 2 + 0)) (cli (k := (pl + 1)) (a := 8) (by omega) rfl)).trans ((upw_n (upw g (so + 2 + 0) Lf) ff (pl + 1) (by omega)).trans (upw_s g (so + 2 + 0) Lf (pl + 1)))) rfl ?_
        refine go_iconst (pc' := 99) cx 1 dX1_even_98 rfl rfl ?_
        refine go_isub (pc' := 100) cx dX1_even_99 rfl ?_
        refine go_mmax (pc' := 103) cx lX1_68 dX1_even_100 rfl (ltn rfl) (Nat.le_of_ble_eq_true rfl) rfl ?_
        refine go_iastk (pc' := 104) cx pl dX1_even_103 (sal_kr hs (ltn rfl)) (sal_lr hs (ltn rfl)) (vpi (k := pl) (a := 3) hpl rfl rfl) (cli (k := pl) (a := 3) hpl rfl) rfl ?_
        refine go_g (upw2_up g Lf ff pl (if 0 < (Lf (pl + 1)) - 1 then (Lf (pl + 1)) - 1 else 0) (by omega)) ?_
        refine go_iinc (pc' := 107) cx (nI (j + 1)) dX1_even_104 rfl (nI_1 j) (ltn rfl) [(4, .int (nI (j + 1))), (7, .int (nI (pl + 1))), (6, .int (nI pl)), (5, .int tv_1), (3, .ref (E.2.1 (so + 2 + 0))), (0, .ref (E.2.1 so)), (1, .int (nI pl)), (2, .int (nI v))] rfl rfl ?_
        refine go_goto cx 10 dX1_even_107 rfl ?_
        refine go_sub [0, 4, 5, 6, 7] [(4, .int (nI (j + 1))), (3, .ref (E.2.1 (so + 2 + 0))), (0, .ref (E.2.1 so)), (1, .int (nI pl)), (2, .int (nI v))] rfl ?_
        have hev : (upd Lf pl (if 0 < (Lf (pl + 1)) - 1 then (Lf (pl + 1)) - 1 else 0)) = evs Lf pl := by
          unfold evs mx
          first | rw [if_pos (Int32.not_le.mp c63)] | rw [if_neg (Int32.not_lt.mpr c63)]
        refine go_g (congrArg (fun q => upw (upw g (so + 2 + 0) q) (5 + 4 * ru + 3) ff) hev) ?_
        refine ih (j + 1) (evs Lf pl) ff (by omega) (fun f2 => ?_)
        have h9 := hZ f2
        rw [show evn (evB M g so v pl) pl (k + 1) Lf = ((evn (evB M g so v pl) pl k (evs Lf pl)).1 + 1, (evn (evB M g so v pl) pl k (evs Lf pl)).2) from if_pos hc49] at h9
        rw [show j + 1 + (evn (evB M g so v pl) pl k (evs Lf pl)).1 = j + ((evn (evB M g so v pl) pl k (evs Lf pl)).1 + 1) by omega]
        exact h9
    · have htv : tv_1 = evB M g so v pl Lf := by
        rw [tv_1e]
        unfold evB
        rw [upw_rn _ _ (show so + 2 + 0 ≠ (5 + 4 * ru + 3) by omega), upw_rs, upw_rn _ _ (show so + 2 + 1 ≠ (5 + 4 * ru + 3) by omega), upw_rn _ _ (show so + 2 + 1 ≠ so + 2 + 0 by omega), upw_rn _ _ (show so + 2 + 2 ≠ (5 + 4 * ru + 3) by omega), upw_rn _ _ (show so + 2 + 2 ≠ so + 2 + 0 by omega), upw_rn _ _ (show so + 2 + 8 ≠ (5 + 4 * ru + 3) by omega), upw_rn _ _ (show so + 2 + 8 ≠ so + 2 + 0 by omega), upw_rn _ _ (show so + 2 + 7 ≠ (5 + 4 * ru + 3) by omega), upw_rn _ _ (show so + 2 + 7 ≠ so + 2 + 0 by omega)]
      rw [htv] at c49
      have hc49 : ¬ evB M g so v pl Lf < ab (Lf pl - Lf (pl + 1)) := c49
      refine go_iload (pc' := 54) cx dX1_even_52 rfl rfl ?_
      refine go_iret cx rfl dX1_even_54 ?_
      have h9 := hZ ff
      rw [show evn (evB M g so v pl) pl (k + 1) Lf = (0, Lf) from if_neg hc49] at h9
      exact h9

set_option maxHeartbeats 4000000 in
set_option maxRecDepth 20000 in
theorem c_X1_even (l : Launch) (E : Ev) {g : IG} {o : Option Nat} {z : Int64} {so : Nat} (hs : Sal so) {ru v pl : Nat} {M : Nat → (Int32 → Int32) → Int32} (hru0 : ru < 6) (hv : v < 8) (hpl : pl < 3) (hT : TxM g ru M) (hgr : g so 4 = nI ru) : Ct l E 88 yX1_even cX1_even 8 (some .int) 3 [.ref (E.2.1 so), .int (nI pl), .int (nI v)] g (RFo o) z (ZI (RFo o) z (fun x g1 => x = nI (evn (evB M g so v pl) pl 30 (g (so + 2 + 0))).1 ∧ ∃ f, g1 = upw (upw g (so + 2 + 0) (evn (evB M g so v pl) pl 30 (g (so + 2 + 0))).2) (5 + 4 * ru + 3) f)) := by
  refine Ct.of (lv0 := [(0, .ref (E.2.1 so)), (1, .int (nI pl)), (2, .int (nI v))]) (by decide) (Nat.le_of_ble_eq_true rfl) rfl ?_
  intro p e s m below meth c cx
  refine go_aload_n (pc' := 1) cx dX1_even_0 rfl rfl ?_
  refine go_getr (pc' := 4) cx (so + 1) fX1_11 dX1_even_1 (sal_k0 hs) (sal_l0 hs) (ltn rfl) rfl (sal_r1 hs) rfl ?_
  refine go_iconst (pc' := 5) cx 0 dX1_even_4 rfl rfl ?_
  refine go_aaldk (pc' := 6) cx 0 (so + 2 + 0) dX1_even_5 (sal_k1 hs) (Nat.le_of_ble_eq_true rfl) (ltn rfl) (sal_l1 hs) (vpi (k := 0) (a := 1) (ltn rfl) rfl rfl) (cli (k := 0) (a := 1) (ltn rfl) rfl) (sal_rr hs (ltn rfl)) rfl ?_
  refine go_astore_n (pc' := 7) cx dX1_even_6 (ltn rfl) [(3, .ref (E.2.1 (so + 2 + 0))), (0, .ref (E.2.1 so)), (1, .int (nI pl)), (2, .int (nI v))] rfl rfl ?_
  refine go_iconst (pc' := 8) cx 0 dX1_even_7 rfl rfl ?_
  refine go_istore (pc' := 10) cx dX1_even_8 (ltn rfl) [(4, .int 0), (3, .ref (E.2.1 (so + 2 + 0))), (0, .ref (E.2.1 so)), (1, .int (nI pl)), (2, .int (nI v))] rfl rfl ?_
  refine go_g (upw_id g (so + 2 + 0)).symm ?_
  refine go_g (upw_id (upw g (so + 2 + 0) (g (so + 2 + 0))) (5 + 4 * ru + 3)).symm ?_
  refine go_sub [0, 1, 2, 3, 4] [(4, .int (nI 0)), (3, .ref (E.2.1 (so + 2 + 0))), (0, .ref (E.2.1 so)), (1, .int (nI pl)), (2, .int (nI v))] rfl ?_
  exact even_loop hs hru0 hv hpl hT hgr cx 30 0 (g (so + 2 + 0)) _ rfl (fun f2 => ZI.mk ⟨by rw [Nat.zero_add], f2, rfl⟩)

set_option maxHeartbeats 4000000 in
set_option maxRecDepth 20000 in
theorem undergo_loop {l : Launch} {E : Ev} {Z : ZT} {o : Option Nat} {z : Int64} {p : Program} {e : Env} {s : State} {m : MethodId} {args : Array Value} {below : List Frame} {meth : Method} {c : Code} {so : Nat} (hs : Sal so) {ru v h : Nat} {M : Nat → (Int32 → Int32) → Int32} (hru0 : ru < 6) (hv : v < 8) (hh : h < 8) {g : IG} (hT : TxM g ru M) (hgr : g so 4 = nI ru) (hgh : g (so + 2 + 7) v = nI h) (cx : Cx p s m args meth c E 88 cX1_undergo 5 yX1_undergo.cls (some .int)) : ∀ (k q : Nat) (f : Nat → Int32), q + k = 4 → (∀ f, Go p l e (rmd 4) s m args below meth c E 88 5 Z (upw (upw g (so + 2 + 0) (growS (g (so + 2 + 0)) (G1S M g so v h) 4)) (5 + 4 * ru + 3) f) (RFo o) z 64 [(0, .ref (E.2.1 so)), (1, .int (nI v))] []) → Go p l e (rmd 4) s m args below meth c E 88 5 Z (upw (upw g (so + 2 + 0) (growS (g (so + 2 + 0)) (G1S M g so v h) q)) (5 + 4 * ru + 3) f) (RFo o) z 2 [(2, .int (nI q)), (0, .ref (E.2.1 so)), (1, .int (nI v))] [] := by
  have hso : so = 37 ∨ so = 50 ∨ so = 64 := hs
  intro k
  induction k with
  | zero =>
    intro q f hk kk
    have hq : q = 4 := by omega
    subst hq
    refine go_iload_n (pc' := 3) cx dX1_undergo_2 rfl rfl ?_
    refine go_iconst (pc' := 4) cx 4 dX1_undergo_3 rfl rfl ?_
    refine go_icmp_ge (pc' := 7) cx 64 dX1_undergo_4 rfl rfl (fun _ => ?_) (fun hh => absurd hh (by decide))
    refine go_sub [1, 2] [(0, .ref (E.2.1 so)), (1, .int (nI v))] rfl ?_
    exact kk f
  | succ k ih =>
    intro q f hk kk
    refine go_iload_n (pc' := 3) cx dX1_undergo_2 rfl rfl ?_
    refine go_iconst (pc' := 4) cx 4 dX1_undergo_3 rfl rfl ?_
    refine go_icmp_ge (pc' := 7) cx 64 dX1_undergo_4 rfl rfl (fun hh => absurd ((nI_leI (a := 4) (b := q) (by omega) (by omega)).mp hh) (by omega)) (fun _ => ?_)
    refine go_aload_n (pc' := 8) cx dX1_undergo_7 rfl rfl ?_
    refine go_getr (pc' := 11) cx 1 fX1_26 dX1_undergo_8 (sal_k0 hs) (sal_l0 hs) (ltn rfl) rfl (sal_r0 hs) rfl ?_
    refine go_aload_n (pc' := 12) cx dX1_undergo_11 rfl rfl ?_
    refine go_geti (pc' := 15) cx (nI ru) fX1_23 dX1_undergo_12 (sal_k0 hs) (sal_l0 hs) (ltn rfl) rfl (((upw_n (upw g (so + 2 + 0) (growS (g (so + 2 + 0)) (G1S M g so v h) q)) f 4 (by omega)).trans (upw_n g (growS (g (so + 2 + 0)) (G1S M g so v h) q) 4 (by omega))).trans hgr) rfl ?_
    refine go_aaldk (pc' := 16) cx ru (5 + 4 * ru) dX1_undergo_15 kq1 (Nat.le_of_ble_eq_true rfl) (ltn rfl) (ltn rfl) (vpi (k := ru) (a := 6) hru0 rfl rfl) (cli (k := ru) (a := 6) hru0 rfl) (txt_r hru0).2.2.2 rfl ?_
    refine go_iconst (pc' := 17) cx 0 dX1_undergo_16 rfl rfl ?_
    refine go_iload_n (pc' := 18) cx dX1_undergo_17 rfl rfl ?_
    refine go_aload_n (pc' := 19) cx dX1_undergo_18 rfl rfl ?_
    refine go_iload_n (pc' := 20) cx dX1_undergo_19 rfl rfl ?_
    obtain ⟨hru, en, hen, hM⟩ := id (hT.up (g' := (upw (upw g (so + 2 + 0) (growS (g (so + 2 + 0)) (G1S M g so v h) q)) (5 + 4 * ru + 3) f)) (by rw [upw_rn _ _ (by omega), upw_rn _ _ (by omega)]) (by rw [upw_rn _ _ (by omega), upw_rn _ _ (by omega)]))
    refine go_cVI (pc' := 23) cx (c_X3_tell l E (g := (upw (upw g (so + 2 + 0) (growS (g (so + 2 + 0)) (G1S M g so v h) q)) (5 + 4 * ru + 3) f)) (t := ru) (so := so) (pl := q) (v := v) (en := en 0) (i0 := 0) (pt := 0) hru hs (ltn rfl) (by omega) (nI v) (fun _ => ⟨rfl, hv⟩) (hen 0 (ltn rfl)).2 (hen 0 (ltn rfl)).1 (Nat.zero_le _) (fun _ => rfl) (fun q => absurd rfl q)) mX3_tell lX1_43 dX1_undergo_20 (txt_k' _ hru0).1 (ltn rfl) (by omega) rfl rfl rfl rfl (ltn rfl) (Nat.le_of_ble_eq_true rfl) (Nat.le_of_ble_eq_true rfl) rfl (fun tv_1 gt ht => ?_)
    obtain ⟨tv_1e, ff, hgt⟩ := ht
    rw [upw_upw] at hgt
    subst hgt
    have tv_1e := tv_1e.trans (hM 0 (ltn rfl) _ _)
    rw [evS_vis hv] at tv_1e
    refine go_istore_n (pc' := 24) cx dX1_undergo_23 (ltn rfl) [(3, .int tv_1), (2, .int (nI q)), (0, .ref (E.2.1 so)), (1, .int (nI v))] rfl rfl ?_
    refine go_sipush (pc' := 27) cx 199 dX1_undergo_24 rfl rfl ?_
    refine go_aload_n (pc' := 28) cx dX1_undergo_27 rfl rfl ?_
    refine go_getr (pc' := 31) cx (so + 1) fX1_11 dX1_undergo_28 (sal_k0 hs) (sal_l0 hs) (ltn rfl) rfl (sal_r1 hs) rfl ?_
    refine go_iconst (pc' := 32) cx 0 dX1_undergo_31 rfl rfl ?_
    refine go_aaldk (pc' := 33) cx 0 (so + 2 + 0) dX1_undergo_32 (sal_k1 hs) (Nat.le_of_ble_eq_true rfl) (ltn rfl) (sal_l1 hs) (vpi (k := 0) (a := 1) (ltn rfl) rfl rfl) (cli (k := 0) (a := 1) (ltn rfl) rfl) (sal_rr hs (ltn rfl)) rfl ?_
    refine go_iload_n (pc' := 34) cx dX1_undergo_33 rfl rfl ?_
    refine go_iald (pc' := 35) cx ((growS (g (so + 2 + 0)) (G1S M g so v h) q) q) dX1_undergo_34 (sal_kr hs (ltn rfl)) (sal_lr hs (ltn rfl)) (vpi (k := q) (a := 8) (by omega) rfl rfl) ((congrArg ((upw (upw g (so + 2 + 0) (growS (g (so + 2 + 0)) (G1S M g so v h) q)) (5 + 4 * ru + 3) ff) (so + 2 + 0)) (cli (k := q) (a := 8) (by omega) rfl)).trans ((upw_n (upw g (so + 2 + 0) (growS (g (so + 2 + 0)) (G1S M g so v h) q)) ff q (by omega)).trans (upw_s g (so + 2 + 0) (growS (g (so + 2 + 0)) (G1S M g so v h) q) q))) rfl ?_
    refine go_iload_n (pc' := 36) cx dX1_undergo_35 rfl rfl ?_
    refine go_iadd (pc' := 37) cx dX1_undergo_36 rfl ?_
    refine go_mmin (pc' := 40) cx lX1_49 dX1_undergo_37 rfl (ltn rfl) (Nat.le_of_ble_eq_true rfl) rfl ?_
    refine go_name (fun x_2 ex_2 => ?_)
    refine go_istore (pc' := 42) cx dX1_undergo_40 (ltn rfl) [(4, .int x_2), (3, .int tv_1), (2, .int (nI q)), (0, .ref (E.2.1 so)), (1, .int (nI v))] rfl rfl ?_
    refine go_aload_n (pc' := 43) cx dX1_undergo_42 rfl rfl ?_
    refine go_getr (pc' := 46) cx (so + 1) fX1_11 dX1_undergo_43 (sal_k0 hs) (sal_l0 hs) (ltn rfl) rfl (sal_r1 hs) rfl ?_
    refine go_iconst (pc' := 47) cx 0 dX1_undergo_46 rfl rfl ?_
    refine go_aaldk (pc' := 48) cx 0 (so + 2 + 0) dX1_undergo_47 (sal_k1 hs) (Nat.le_of_ble_eq_true rfl) (ltn rfl) (sal_l1 hs) (vpi (k := 0) (a := 1) (ltn rfl) rfl rfl) (cli (k := 0) (a := 1) (ltn rfl) rfl) (sal_rr hs (ltn rfl)) rfl ?_
    refine go_iload_n (pc' := 49) cx dX1_undergo_48 rfl rfl ?_
    refine go_aload_n (pc' := 50) cx dX1_undergo_49 rfl rfl ?_
    refine go_iload_n (pc' := 51) cx dX1_undergo_50 rfl rfl ?_
    refine go_iload (pc' := 53) cx dX1_undergo_51 rfl rfl ?_
    refine go_iload_n (pc' := 54) cx dX1_undergo_53 rfl rfl ?_
    refine go_cVi (pc' := 57) cx (c_X1_left l E (g := (upw (upw g (so + 2 + 0) (growS (g (so + 2 + 0)) (G1S M g so v h) q)) (5 + 4 * ru + 3) ff)) hs hh hv (by omega) (by rw [upw_n _ _ _ (by omega), upw_n _ _ _ (by omega)]; exact hgh) x_2) mX1_left lX1_55 dX1_undergo_54 (sal_k0 hs) (ltn rfl) (sal_l0 hs) rfl rfl rfl rfl (ltn rfl) (Nat.le_of_ble_eq_true rfl) (Nat.le_of_ble_eq_true rfl) rfl ?_
    refine go_iastk (pc' := 58) cx q dX1_undergo_57 (sal_kr hs (ltn rfl)) (sal_lr hs (ltn rfl)) (vpi (k := q) (a := 8) (by omega) rfl rfl) (cli (k := q) (a := 8) (by omega) rfl) rfl ?_
    refine go_g (upw2_up g (growS (g (so + 2 + 0)) (G1S M g so v h) q) ff q (lfS (upw (upw g (so + 2 + 0) (growS (g (so + 2 + 0)) (G1S M g so v h) q)) (5 + 4 * ru + 3) ff) so v h ((upw (upw g (so + 2 + 0) (growS (g (so + 2 + 0)) (G1S M g so v h) q)) (5 + 4 * ru + 3) ff) (so + 2 + 1)) q x_2) (by omega)) ?_
    refine go_iinc (pc' := 61) cx (nI (q + 1)) dX1_undergo_58 rfl (nI_1 q) (ltn rfl) [(2, .int (nI (q + 1))), (4, .int x_2), (3, .int tv_1), (0, .ref (E.2.1 so)), (1, .int (nI v))] rfl rfl ?_
    refine go_goto cx 2 dX1_undergo_61 rfl ?_
    refine go_sub [0, 3, 4] [(2, .int (nI (q + 1))), (0, .ref (E.2.1 so)), (1, .int (nI v))] rfl ?_
    have htv : tv_1 = M 0 (evW (g (so + 2 + 0)) (g (so + 2 + 1)) (g (so + 2 + 2)) (g (so + 2 + 8) v) (g (so + 2 + 7) v) q) := by
      rw [tv_1e, upw_rn _ _ (show so + 2 + 0 ≠ (5 + 4 * ru + 3) by omega), upw_rs, upw_rn _ _ (show so + 2 + 1 ≠ (5 + 4 * ru + 3) by omega), upw_rn _ _ (show so + 2 + 1 ≠ so + 2 + 0 by omega), upw_rn _ _ (show so + 2 + 2 ≠ (5 + 4 * ru + 3) by omega), upw_rn _ _ (show so + 2 + 2 ≠ so + 2 + 0 by omega), upw_rn _ _ (show so + 2 + 8 ≠ (5 + 4 * ru + 3) by omega), upw_rn _ _ (show so + 2 + 8 ≠ so + 2 + 0 by omega), upw_rn _ _ (show so + 2 + 7 ≠ (5 + 4 * ru + 3) by omega), upw_rn _ _ (show so + 2 + 7 ≠ so + 2 + 0 by omega)]
      exact congrArg (M 0) (evW_c (growS_q _ _ _))
    have hval : (lfS (upw (upw g (so + 2 + 0) (growS (g (so + 2 + 0)) (G1S M g so v h) q)) (5 + 4 * ru + 3) ff) so v h ((upw (upw g (so + 2 + 0) (growS (g (so + 2 + 0)) (G1S M g so v h) q)) (5 + 4 * ru + 3) ff) (so + 2 + 1)) q x_2) = G1S M g so v h q := by
      rw [lfS_w hs (by omega), upw_rn _ _ (show so + 2 + 1 ≠ (5 + 4 * ru + 3) by omega), upw_rn _ _ (show so + 2 + 1 ≠ so + 2 + 0 by omega), ex_2, growS_q, htv]
      rfl
    refine go_g (congrArg (fun w => upw (upw g (so + 2 + 0) w) (5 + 4 * ru + 3) ff) ((congrArg (upd (growS (g (so + 2 + 0)) (G1S M g so v h) q) q) hval).trans (growS_s _ _ q))) ?_
    exact ih (q + 1) ff (by omega) kk

set_option maxHeartbeats 4000000 in
set_option maxRecDepth 20000 in
theorem c_X1_undergo (l : Launch) (E : Ev) {g : IG} {o : Option Nat} {z : Int64} {so : Nat} (hs : Sal so) {ru v h : Nat} {M : Nat → (Int32 → Int32) → Int32} (hru0 : ru < 6) (hv : v < 8) (hh : h < 8) (hT : TxM g ru M) (hgr : g so 4 = nI ru) (hgh : g (so + 2 + 7) v = nI h) : Ct l E 88 yX1_undergo cX1_undergo 5 (some .int) 4 [.ref (E.2.1 so), .int (nI v)] g (RFo o) z (ZI (RFo o) z (fun x g1 => x = 0 + nI (und1 M g so v h).1 + nI (und2 M g so v h).1 ∧ ∃ f, g1 = upw (upw (upw g (so + 2 + 0) (und2 M g so v h).2) (5 + 4 * ru + 3) f) (so + 2 + 1) (va_cpy (und2 M g so v h).2 (g (so + 2 + 1)) 0 0 4))) := by
  refine Ct.of (lv0 := [(0, .ref (E.2.1 so)), (1, .int (nI v))]) (by decide) (Nat.le_of_ble_eq_true rfl) rfl ?_
  intro p e s m below meth c cx
  have hso : so = 37 ∨ so = 50 ∨ so = 64 := hs
  refine go_iconst (pc' := 1) cx 0 dX1_undergo_0 rfl rfl ?_
  refine go_istore_n (pc' := 2) cx dX1_undergo_1 (ltn rfl) [(2, .int 0), (0, .ref (E.2.1 so)), (1, .int (nI v))] rfl rfl ?_
  refine go_g (upw_id g (so + 2 + 0)).symm ?_
  refine go_g (upw_id (upw g (so + 2 + 0) (g (so + 2 + 0))) (5 + 4 * ru + 3)).symm ?_
  refine go_g (congrArg (fun w => upw (upw g (so + 2 + 0) w) (5 + 4 * ru + 3) ((upw g (so + 2 + 0) (g (so + 2 + 0))) (5 + 4 * ru + 3))) (growS_0 (g (so + 2 + 0)) (G1S M g so v h)).symm) ?_
  refine undergo_loop hs hru0 hv hh hT hgr hgh cx 4 0 _ rfl (fun f => ?_)
  refine go_iconst (pc' := 65) cx 0 dX1_undergo_64 rfl rfl ?_
  refine go_istore_n (pc' := 66) cx dX1_undergo_65 (ltn rfl) [(2, .int 0), (0, .ref (E.2.1 so)), (1, .int (nI v))] rfl rfl ?_
  refine go_iconst (pc' := 67) cx 0 dX1_undergo_66 rfl rfl ?_
  refine go_istore_n (pc' := 68) cx dX1_undergo_67 (ltn rfl) [(3, .int 0), (2, .int 0), (0, .ref (E.2.1 so)), (1, .int (nI v))] rfl rfl ?_
  refine go_iload_n (pc' := 69) cx dX1_undergo_68 rfl rfl ?_
  refine go_iconst (pc' := 70) cx 4 dX1_undergo_69 rfl rfl ?_
  refine go_icmp_ge (pc' := 73) cx 88 dX1_undergo_70 rfl rfl (fun hh => absurd hh (by decide)) (fun _ => ?_)
  refine go_iload_n (pc' := 74) cx dX1_undergo_73 rfl rfl ?_
  refine go_aload_n (pc' := 75) cx dX1_undergo_74 rfl rfl ?_
  refine go_iload_n (pc' := 76) cx dX1_undergo_75 rfl rfl ?_
  refine go_iload_n (pc' := 77) cx dX1_undergo_76 rfl rfl ?_
  refine go_cVI (pc' := 80) cx (c_X1_even l E (g := (upw (upw g (so + 2 + 0) (growS (g (so + 2 + 0)) (G1S M g so v h) 4)) (5 + 4 * ru + 3) f)) (ru := ru) (v := v) (pl := 0) (M := M) hs hru0 hv (ltn rfl) (hT.up (g' := (upw (upw g (so + 2 + 0) (growS (g (so + 2 + 0)) (G1S M g so v h) 4)) (5 + 4 * ru + 3) f)) (by rw [upw_rn _ _ (by omega), upw_rn _ _ (by omega)]) (by rw [upw_rn _ _ (by omega), upw_rn _ _ (by omega)])) (by rw [upw_n _ _ _ (by omega), upw_n _ _ _ (by omega)]; exact hgr)) mX1_even lX1_59 dX1_undergo_77 (sal_k0 hs) (ltn rfl) (sal_l0 hs) rfl rfl rfl rfl (ltn rfl) (Nat.le_of_ble_eq_true rfl) (Nat.le_of_ble_eq_true rfl) rfl (fun ev_1 gt ht => ?_)
  obtain ⟨ev_1e, ff1, hgt⟩ := ht
  rw [evB_w hs (by omega), upw_rn _ _ (show so + 2 + 0 ≠ (5 + 4 * ru + 3) by omega), upw_rs] at ev_1e hgt
  rw [upw_4 _ _ _ _ _ (by omega)] at hgt
  subst hgt
  refine go_iadd (pc' := 81) cx dX1_undergo_80 rfl ?_
  refine go_istore_n (pc' := 82) cx dX1_undergo_81 (ltn rfl) [(2, .int (0 + ev_1)), (3, .int 0), (0, .ref (E.2.1 so)), (1, .int (nI v))] rfl rfl ?_
  refine go_iinc (pc' := 85) cx 2 dX1_undergo_82 rfl rfl (ltn rfl) [(3, .int 2), (2, .int (0 + ev_1)), (0, .ref (E.2.1 so)), (1, .int (nI v))] rfl rfl ?_
  refine go_goto cx 68 dX1_undergo_85 rfl ?_
  refine go_iload_n (pc' := 69) cx dX1_undergo_68 rfl rfl ?_
  refine go_iconst (pc' := 70) cx 4 dX1_undergo_69 rfl rfl ?_
  refine go_icmp_ge (pc' := 73) cx 88 dX1_undergo_70 rfl rfl (fun hh => absurd hh (by decide)) (fun _ => ?_)
  refine go_iload_n (pc' := 74) cx dX1_undergo_73 rfl rfl ?_
  refine go_aload_n (pc' := 75) cx dX1_undergo_74 rfl rfl ?_
  refine go_iload_n (pc' := 76) cx dX1_undergo_75 rfl rfl ?_
  refine go_iload_n (pc' := 77) cx dX1_undergo_76 rfl rfl ?_
  refine go_cVI (pc' := 80) cx (c_X1_even l E (g := (upw (upw g (so + 2 + 0) (evn (evB M g so v 0) 0 30 (growS (g (so + 2 + 0)) (G1S M g so v h) 4)).2) (5 + 4 * ru + 3) ff1)) (ru := ru) (v := v) (pl := 2) (M := M) hs hru0 hv (ltn rfl) (hT.up (g' := (upw (upw g (so + 2 + 0) (evn (evB M g so v 0) 0 30 (growS (g (so + 2 + 0)) (G1S M g so v h) 4)).2) (5 + 4 * ru + 3) ff1)) (by rw [upw_rn _ _ (by omega), upw_rn _ _ (by omega)]) (by rw [upw_rn _ _ (by omega), upw_rn _ _ (by omega)])) (by rw [upw_n _ _ _ (by omega), upw_n _ _ _ (by omega)]; exact hgr)) mX1_even lX1_59 dX1_undergo_77 (sal_k0 hs) (ltn rfl) (sal_l0 hs) rfl rfl rfl rfl (ltn rfl) (Nat.le_of_ble_eq_true rfl) (Nat.le_of_ble_eq_true rfl) rfl (fun ev_2 gt ht => ?_)
  obtain ⟨ev_2e, ff2, hgt⟩ := ht
  rw [evB_w hs (by omega), upw_rn _ _ (show so + 2 + 0 ≠ (5 + 4 * ru + 3) by omega), upw_rs] at ev_2e hgt
  rw [upw_4 _ _ _ _ _ (by omega)] at hgt
  subst hgt
  refine go_iadd (pc' := 81) cx dX1_undergo_80 rfl ?_
  refine go_istore_n (pc' := 82) cx dX1_undergo_81 (ltn rfl) [(2, .int ((0 + ev_1) + ev_2)), (3, .int 2), (0, .ref (E.2.1 so)), (1, .int (nI v))] rfl rfl ?_
  refine go_iinc (pc' := 85) cx 4 dX1_undergo_82 rfl rfl (ltn rfl) [(3, .int 4), (2, .int ((0 + ev_1) + ev_2)), (0, .ref (E.2.1 so)), (1, .int (nI v))] rfl rfl ?_
  refine go_goto cx 68 dX1_undergo_85 rfl ?_
  refine go_iload_n (pc' := 69) cx dX1_undergo_68 rfl rfl ?_
  refine go_iconst (pc' := 70) cx 4 dX1_undergo_69 rfl rfl ?_
  refine go_icmp_ge (pc' := 73) cx 88 dX1_undergo_70 rfl rfl (fun _ => ?_) (fun hh => absurd hh (by decide))
  refine go_aload_n (pc' := 89) cx dX1_undergo_88 rfl rfl ?_
  refine go_getr (pc' := 92) cx (so + 1) fX1_11 dX1_undergo_89 (sal_k0 hs) (sal_l0 hs) (ltn rfl) rfl (sal_r1 hs) rfl ?_
  refine go_iconst (pc' := 93) cx 0 dX1_undergo_92 rfl rfl ?_
  refine go_aaldk (pc' := 94) cx 0 (so + 2 + 0) dX1_undergo_93 (sal_k1 hs) (Nat.le_of_ble_eq_true rfl) (ltn rfl) (sal_l1 hs) (vpi (k := 0) (a := 1) (ltn rfl) rfl rfl) (cli (k := 0) (a := 1) (ltn rfl) rfl) (sal_rr hs (ltn rfl)) rfl ?_
  refine go_iconst (pc' := 95) cx 0 dX1_undergo_94 rfl rfl ?_
  refine go_aload_n (pc' := 96) cx dX1_undergo_95 rfl rfl ?_
  refine go_getr (pc' := 99) cx (so + 1) fX1_11 dX1_undergo_96 (sal_k0 hs) (sal_l0 hs) (ltn rfl) rfl (sal_r1 hs) rfl ?_
  refine go_iconst (pc' := 100) cx 1 dX1_undergo_99 rfl rfl ?_
  refine go_aaldk (pc' := 101) cx 1 (so + 2 + 1) dX1_undergo_100 (sal_k1 hs) (Nat.le_of_ble_eq_true rfl) (ltn rfl) (sal_l1 hs) (vpi (k := 1) (a := 2) (ltn rfl) rfl rfl) (cli (k := 1) (a := 2) (ltn rfl) rfl) (sal_rr hs (ltn rfl)) rfl ?_
  refine go_iconst (pc' := 102) cx 0 dX1_undergo_101 rfl rfl ?_
  refine go_iconst (pc' := 103) cx 4 dX1_undergo_102 rfl rfl ?_
  refine go_acopy (pc' := 106) cx 0 0 4 lX1_30 dX1_undergo_103 (sal_kr hs (ltn rfl)) (sal_kr hs (ltn rfl)) (sal_lr hs (ltn rfl)) (sal_lr hs (ltn rfl)) (by decide) (by decide) (by decide) (by decide) (by decide) (by decide) (by omega) (by omega) (ltn rfl) (Nat.le_of_ble_eq_true rfl) rfl ?_
  refine go_iload_n (pc' := 107) cx dX1_undergo_106 rfl rfl ?_
  refine go_iret cx rfl dX1_undergo_107 ?_
  refine ZI.mk ⟨by rw [ev_1e, ev_2e]; rfl, ff2, ?_⟩
  rw [upw_rn _ _ (show so + 2 + 0 ≠ (5 + 4 * ru + 3) by omega), upw_rs, upw_rn _ _ (show so + 2 + 1 ≠ (5 + 4 * ru + 3) by omega), upw_rn _ _ (show so + 2 + 1 ≠ so + 2 + 0 by omega)]
  rfl
