/-! THE REFERENCE: a course -/
theorem inX_inI {n : Nat} (hn : n < 1000) (x : Int32) : inX 0 (nI n - 1) x = inI (nI n) x := by
  unfold inX inI
  by_cases h0 : x < 0
  · rw [if_pos h0, if_pos h0]
  · rw [if_neg h0, if_neg h0]
    obtain ⟨j, hj, rfl⟩ := nI_of h0
    cases n with
    | zero =>
      rw [if_pos (show nI 0 - 1 < nI j from Int32.lt_of_lt_of_le (by decide) (nI_pos' hj)), if_pos (show nI 0 ≤ nI j from nI_pos' hj)]
    | succ k =>
      rw [nI_pred]
      by_cases h : k < j
      · rw [if_pos ((nI_ltI (by omega) hj).mpr h), if_pos ((nI_leI (by omega) hj).mpr (by omega))]
      · rw [if_neg (fun q => h ((nI_ltI (by omega) hj).mp q)), if_neg (fun q => h ((nI_leI (by omega) hj).mp q))]
theorem inX_4 (x : Int32) : inX 0 3 x = inI 4 x := inX_inI (n := 4) (by omega) x
/-- the reference's salon -/
def XM (g : IG) (hn vn ru tc : Nat) (CS : CSt) : Prop := (hn ≤ 5 ∧ vn ≤ 8) ∧ g 88 15 = nI hn ∧ g 88 19 = nI vn ∧ Ln (g 92) ∧ HdS (svM g) hn vn ∧ MX g tc ru CS
/-- but for what any asking of the reference may write -/
def FrK (g0 g : IG) : Prop := ∀ i k, ¬ (i = 102 ∨ i = 103 ∨ i = 104 ∨ i = 105 ∨ (i = 88 ∧ (20 ≤ k ∧ k ≤ 37 ∨ k = 39))) → g i k = g0 i k
theorem FrK.rf {g : IG} : FrK g g := fun _ _ _ => rfl
theorem FrK.tr {g0 g g1 : IG} (h : FrK g0 g) (h1 : FrK g g1) : FrK g0 g1 := fun i k q => (h1 i k q).trans (h i k q)
theorem FrS.fk {g0 g : IG} (h : FrS g0 g) : FrK g0 g := fun i k q => h i k (by omega)
theorem FrK.c {g0 g : IG} (h : FrK g0 g) {i : Nat} (h1 : ¬ (102 ≤ i ∧ i ≤ 105)) (h2 : i ≠ 88) : g i = g0 i := funext fun k => h i k (by omega)
theorem FrK.sv {g0 g : IG} (h : FrK g0 g) : svM g = svM g0 := by
  funext w
  unfold svM
  rw [h.c (i := 92) (by omega) (by omega), h.c (i := 93) (by omega) (by omega), h.c (i := 94) (by omega) (by omega), h.c (i := 95) (by omega) (by omega), h.c (i := 96) (by omega) (by omega), h.c (i := 97) (by omega) (by omega), h.c (i := 98) (by omega) (by omega), h.c (i := 99) (by omega) (by omega), h.c (i := 100) (by omega) (by omega), h.c (i := 101) (by omega) (by omega), h 88 10 (by omega)]
theorem MX.fk {g g1 : IG} {tc ru : Nat} {CS : CSt} (h : MX g tc ru CS) (hF : FrK g g1) (hS : SdI g1 tc CS) : MX g1 tc ru CS :=
  ⟨h.1, h.2.1, (hF 88 4 (by omega)).trans h.2.2.1, (hF 88 3 (by omega)).trans h.2.2.2.1, fun t ht => (h.2.2.2.2.1 t ht).fr (hF.c (by omega) (by omega)) (hF.c (by omega) (by omega)), hS⟩
theorem XM.fk {g g1 : IG} {hn vn ru tc : Nat} {CS : CSt} (h : XM g hn vn ru tc CS) (hF : FrK g g1) (hS : SdI g1 tc CS) : XM g1 hn vn ru tc CS :=
  ⟨h.1, (hF 88 15 (by omega)).trans h.2.1, (hF 88 19 (by omega)).trans h.2.2.1, by rw [hF.c (by omega) (by omega)]; exact h.2.2.2.1, by rw [hF.sv]; exact h.2.2.2.2.1, h.2.2.2.2.2.fk hF hS⟩
/-- but for the lengths too -/
def FrD (g0 g : IG) : Prop := ∀ i k, ¬ ((i = 92 ∨ i = 93) ∧ k < 4 ∨ i = 102 ∨ i = 103 ∨ i = 104 ∨ i = 105 ∨ (i = 88 ∧ (20 ≤ k ∧ k ≤ 37 ∨ k = 39))) → g i k = g0 i k
theorem FrD.tr {g0 g g1 : IG} (h : FrD g0 g) (h1 : FrD g g1) : FrD g0 g1 := fun i k q => (h1 i k q).trans (h i k q)
theorem FrC.fd {g0 g : IG} (h : FrC g0 g) : FrD g0 g := fun i k q => h i k (by omega)
theorem FrK.fd {g0 g : IG} (h : FrK g0 g) : FrD g0 g := fun i k q => h i k (by omega)
theorem FrD.c {g0 g : IG} (h : FrD g0 g) {i : Nat} (h1 : ¬ (102 ≤ i ∧ i ≤ 105)) (h2 : i ≠ 88) (h3 : i ≠ 92) (h4 : i ≠ 93) : g i = g0 i := funext fun k => h i k (by omega)
theorem FrD.up {g0 g : IG} {i k : Nat} {v : Int32} (h : FrD g0 g) (hi : ((i = 92 ∨ i = 93) ∧ k < 4) ∨ i = 103 ∨ i = 104 ∨ i = 105 ∨ (i = 88 ∧ k = 39)) : FrD g0 (up2 g i k v) := fun a b q => by
  rw [up2_n _ _ (by omega)]
  exact h a b q
theorem MX.fd {g g1 : IG} {tc ru : Nat} {CS : CSt} (h : MX g tc ru CS) (hF : FrD g g1) (hS : SdI g1 tc CS) : MX g1 tc ru CS :=
  ⟨h.1, h.2.1, (hF 88 4 (by omega)).trans h.2.2.1, (hF 88 3 (by omega)).trans h.2.2.2.1, fun t ht => (h.2.2.2.2.1 t ht).fr (hF.c (by omega) (by omega) (by omega) (by omega)) (hF.c (by omega) (by omega) (by omega) (by omega)), hS⟩
theorem FrD.rv {g G : IG} (h : FrD g G) (v : Nat) : Rv (svM G) (svM g) v := by
  have e : ∀ w, 2 ≤ w → svM G w = svM g w := by
    intro w h1
    unfold svM
    rw [h.c (i := 94) (by omega) (by omega) (by omega) (by omega), h.c (i := 95) (by omega) (by omega) (by omega) (by omega), h.c (i := 96) (by omega) (by omega) (by omega) (by omega), h.c (i := 97) (by omega) (by omega) (by omega) (by omega), h.c (i := 98) (by omega) (by omega) (by omega) (by omega), h.c (i := 99) (by omega) (by omega) (by omega) (by omega), h.c (i := 100) (by omega) (by omega) (by omega) (by omega), h.c (i := 101) (by omega) (by omega) (by omega) (by omega), h 88 10 (by omega)]
    rw [if_neg (show ¬ w = 0 by omega), if_neg (show ¬ w = 1 by omega), if_neg (show ¬ w = 0 by omega), if_neg (show ¬ w = 1 by omega)]
  refine ⟨by rw [e 2 (by omega)]; exact E4.rf, by rw [e 3 (by omega)], by rw [e 7 (by omega)], by rw [e 8 (by omega)], by rw [e 9 (by omega)], fun w hw => by rw [e w (by omega)]⟩
/-- what lies aside -/
def AsD (g G : IG) : Prop := ∀ p, p < 4 → G 103 p = g 92 p ∧ G 103 (4 + p) = g 93 p
theorem AsD.fr {g G G1 : IG} (h : AsD g G) (e : G1 103 = G 103) : AsD g G1 := by
  unfold AsD
  rw [e]
  exact h
/-- a course taken back leaves the salon as it was -/
theorem FrD.k {g G G1 : IG} (h : FrD g G) (hA : AsD g G) (ho : ∀ i k, ¬ ((i = 92 ∨ i = 93) ∧ k < 4) → G1 i k = G i k) (h2 : ∀ p, p < 4 → G1 92 p = G 103 p ∧ G1 93 p = G 103 (4 + p)) : FrK g G1 := by
  intro i k q
  by_cases h9 : (i = 92 ∨ i = 93) ∧ k < 4
  · obtain ⟨rfl | rfl, hk⟩ := h9
    · exact (h2 k hk).1.trans (hA k hk).1
    · exact (h2 k hk).2.trans (hA k hk).2
  · rw [ho i k h9]
    exact h i k (by omega)
/-- what a course leaves behind it -/
def CWm (M : TM) (a : Sv) (G : IG) (n : Nat) : Prop := ∀ v, v < n → E4 (fun p => G 104 (4 * v + p)) (crs M a (v + 1)).1 ∧ G 105 v = OFs M a v
def CIm (M : TM) (a : Sv) (g G : IG) (n : Nat) : Prop := FrD g G ∧ AsD g G ∧ E4 (G 92) (crs M a n).1 ∧ E4 (G 93) (crs M a n).2 ∧ CWm M a G n ∧ G 88 39 = sumI (CTs M a) n ∧ Ln (G 92)
theorem E4.ln {L L' : Nat → Int32} (h : E4 L L') (hL : Ln L) : Ln L' := fun p hp => by
  rw [← h p hp]
  exact hL p hp
theorem inX_z (lo hi x : Int32) : inX lo hi x = 0 ∨ inX lo hi x = 1 := by
  unfold inX
  split
  · exact Or.inl rfl
  · split
    · exact Or.inl rfl
    · exact Or.inr rfl

set_option maxHeartbeats 1000000 in
set_option maxRecDepth 20000 in
theorem c_X6_isVisit (l : Launch) (E : Ev) {g : IG} {o : Option Nat} {z : Int64} {vn : Nat} (hvn : g 88 19 = nI vn) (hb : vn < 1000) (x1 : Int32) : Ct l E 115 yX6_isVisit cX6_isVisit 2 (some .boolean) 2 [.ref (E.2.1 88), .int x1] g (RFo o) z (Zi (RFo o) z (inI (nI vn) x1) g) := by
  refine Ct.of (lv0 := [(0, .ref (E.2.1 88)), (1, .int x1)]) (by decide) (Nat.le_of_ble_eq_true rfl) rfl ?_
  intro p e s m below meth c cx
  refine go_iload_n (pc' := 1) cx dX6_isVisit_0 rfl rfl ?_
  refine go_i2l (pc' := 2) cx dX6_isVisit_1 rfl ?_
  refine go_lconst (pc' := 3) cx 0 dX6_isVisit_2 rfl rfl ?_
  refine go_val (w := .long (((0 : Int32)).toInt64)) (congrArg Value.long (by decide)) ?_
  refine go_aload_n (pc' := 4) cx dX6_isVisit_3 rfl rfl ?_
  refine go_geti (pc' := 7) cx (nI vn) fX6_115 dX6_isVisit_4 kq88 (ltn rfl) (ltn rfl) rfl hvn rfl ?_
  refine go_iconst (pc' := 8) cx 1 dX6_isVisit_7 rfl rfl ?_
  refine go_isub (pc' := 9) cx dX6_isVisit_8 rfl ?_
  refine go_i2l (pc' := 10) cx dX6_isVisit_9 rfl ?_
  refine go_cSi (pc' := 13) cx (c_X6_in l E (g := g) x1 (0 : Int32) ((nI vn) - 1)) mX6_in lX6_108 dX6_isVisit_10 rfl rfl rfl (ltn rfl) (Nat.le_of_ble_eq_true rfl) (Nat.le_of_ble_eq_true rfl) rfl ?_
  refine go_zret cx (inX_z _ _ _) rfl dX6_isVisit_13 ?_
  exact Zi.mk (inX_inI hb x1) rfl

set_option maxHeartbeats 1000000 in
set_option maxRecDepth 20000 in
theorem c_X6_isHand (l : Launch) (E : Ev) {g : IG} {o : Option Nat} {z : Int64} {hn : Nat} (hhn : g 88 15 = nI hn) (hb : hn < 1000) (x1 : Int32) : Ct l E 115 yX6_isHand cX6_isHand 2 (some .boolean) 2 [.ref (E.2.1 88), .int x1] g (RFo o) z (Zi (RFo o) z (inI (nI hn) x1) g) := by
  refine Ct.of (lv0 := [(0, .ref (E.2.1 88)), (1, .int x1)]) (by decide) (Nat.le_of_ble_eq_true rfl) rfl ?_
  intro p e s m below meth c cx
  refine go_iload_n (pc' := 1) cx dX6_isHand_0 rfl rfl ?_
  refine go_i2l (pc' := 2) cx dX6_isHand_1 rfl ?_
  refine go_lconst (pc' := 3) cx 0 dX6_isHand_2 rfl rfl ?_
  refine go_val (w := .long (((0 : Int32)).toInt64)) (congrArg Value.long (by decide)) ?_
  refine go_aload_n (pc' := 4) cx dX6_isHand_3 rfl rfl ?_
  refine go_geti (pc' := 7) cx (nI hn) fX6_112 dX6_isHand_4 kq88 (ltn rfl) (ltn rfl) rfl hhn rfl ?_
  refine go_iconst (pc' := 8) cx 1 dX6_isHand_7 rfl rfl ?_
  refine go_isub (pc' := 9) cx dX6_isHand_8 rfl ?_
  refine go_i2l (pc' := 10) cx dX6_isHand_9 rfl ?_
  refine go_cSi (pc' := 13) cx (c_X6_in l E (g := g) x1 (0 : Int32) ((nI hn) - 1)) mX6_in lX6_108 dX6_isHand_10 rfl rfl rfl (ltn rfl) (Nat.le_of_ble_eq_true rfl) (Nat.le_of_ble_eq_true rfl) rfl ?_
  refine go_zret cx (inX_z _ _ _) rfl dX6_isHand_13 ?_
  exact Zi.mk (inX_inI hb x1) rfl

set_option maxHeartbeats 1000000 in
set_option maxRecDepth 20000 in
theorem c_X6_isPlace (l : Launch) (E : Ev) {g : IG} {o : Option Nat} {z : Int64} (x1 : Int32) : Ct l E 115 yX6_isPlace cX6_isPlace 1 (some .boolean) 2 [.int x1] g (RFo o) z (Zi (RFo o) z (inI 4 x1) g) := by
  refine Ct.of (lv0 := [(0, .int x1)]) (by decide) (Nat.le_of_ble_eq_true rfl) rfl ?_
  intro p e s m below meth c cx
  refine go_iload_n (pc' := 1) cx dX6_isPlace_0 rfl rfl ?_
  refine go_i2l (pc' := 2) cx dX6_isPlace_1 rfl ?_
  refine go_lconst (pc' := 3) cx 0 dX6_isPlace_2 rfl rfl ?_
  refine go_val (w := .long (((0 : Int32)).toInt64)) (congrArg Value.long (by decide)) ?_
  refine go_ldc2 (pc' := 6) cx 3 kX6_106 dX6_isPlace_3 rfl ?_
  refine go_val (w := .long (((3 : Int32)).toInt64)) (congrArg Value.long (by decide)) ?_
  refine go_cSi (pc' := 9) cx (c_X6_in l E (g := g) x1 (0 : Int32) (3 : Int32)) mX6_in lX6_108 dX6_isPlace_6 rfl rfl rfl (ltn rfl) (Nat.le_of_ble_eq_true rfl) (Nat.le_of_ble_eq_true rfl) rfl ?_
  refine go_zret cx (inX_z _ _ _) rfl dX6_isPlace_9 ?_
  exact Zi.mk (inX_4 x1) rfl

set_option maxHeartbeats 1000000 in
set_option maxRecDepth 20000 in
theorem c_X6_offNow (l : Launch) (E : Ev) {g : IG} {o : Option Nat} {z : Int64} {tc ru : Nat} {CS : CSt} (hX : MX g tc ru CS)  : Ct l E 115 yX6_offNow cX6_offNow 3 (some .int) 46 [.ref (E.2.1 88)] g (RFo o) z (ZIz (RFo o) (fun x g1 z1 => x = ofA (TMx CS ru) (svM g) (g 92) (g 93) ∧ FrS g g1 ∧ SdI g1 tc CS)) := by
  refine Ct.of (lv0 := [(0, .ref (E.2.1 88))]) (by decide) (Nat.le_of_ble_eq_true rfl) rfl ?_
  intro p e s m below meth c cx
  refine go_iconst (pc' := 1) cx 0 dX6_offNow_0 rfl rfl ?_
  refine go_istore_n (pc' := 2) cx dX6_offNow_1 (ltn rfl) [(1, .int 0), (0, .ref (E.2.1 88))] rfl rfl ?_
  refine go_iconst (pc' := 3) cx 0 dX6_offNow_2 rfl rfl ?_
  refine go_istore_n (pc' := 4) cx dX6_offNow_3 (ltn rfl) [(2, .int 0), (1, .int 0), (0, .ref (E.2.1 88))] rfl rfl ?_
  refine go_iload_n (pc' := 5) cx dX6_offNow_4 rfl rfl ?_
  refine go_iconst (pc' := 6) cx 4 dX6_offNow_5 rfl rfl ?_
  refine go_icmp_ge (pc' := 9) cx 43 dX6_offNow_6 rfl rfl (fun hh => absurd hh (by decide)) (fun _ => ?_)
  refine go_iload_n (pc' := 10) cx dX6_offNow_9 rfl rfl ?_
  refine go_aload_n (pc' := 11) cx dX6_offNow_10 rfl rfl ?_
  refine go_getr (pc' := 14) cx 92 fX6_23 dX6_offNow_11 kq88 (ltn rfl) (ltn rfl) rfl rfl rfl ?_
  refine go_iload_n (pc' := 15) cx dX6_offNow_14 rfl rfl ?_
  refine go_iald (pc' := 16) cx (g 92 0) dX6_offNow_15 kq92 (ltn rfl) (vpi (k := 0) (a := 1) (ltn rfl) rfl rfl) (congrArg (g 92) (cli (k := 0) (a := 1) (ltn rfl) rfl)) rfl ?_
  refine go_aload_n (pc' := 17) cx dX6_offNow_16 rfl rfl ?_
  refine go_getr (pc' := 20) cx 94 fX6_29 dX6_offNow_17 kq88 (ltn rfl) (ltn rfl) rfl rfl rfl ?_
  refine go_iload_n (pc' := 21) cx dX6_offNow_20 rfl rfl ?_
  refine go_iald (pc' := 22) cx (g 94 0) dX6_offNow_21 kq94 (ltn rfl) (vpi (k := 0) (a := 1) (ltn rfl) rfl rfl) (congrArg (g 94) (cli (k := 0) (a := 1) (ltn rfl) rfl)) rfl ?_
  refine go_isub (pc' := 23) cx dX6_offNow_22 rfl ?_
  refine go_cSi (pc' := 26) cx (c_X6_plain l E (g := g) ((g 92 0) - (g 94 0))) mX6_plain lX6_392 dX6_offNow_23 rfl rfl rfl (ltn rfl) (Nat.le_of_ble_eq_true rfl) (Nat.le_of_ble_eq_true rfl) rfl ?_
  refine go_aload_n (pc' := 27) cx dX6_offNow_26 rfl rfl ?_
  refine go_iconst (pc' := 28) cx 2 dX6_offNow_27 rfl rfl ?_
  refine go_iload_n (pc' := 29) cx dX6_offNow_28 rfl rfl ?_
  refine go_iconst (pc' := 30) cx 0 dX6_offNow_29 rfl rfl ?_
  refine go_iconst (pc' := 31) cx 0 dX6_offNow_30 rfl rfl ?_
  refine go_cVIz (pc' := 34) cx (c_X6_says l E (g := g) (hX.fr FrS.rf hX.2.2.2.2.2) (wh := 2) (pl := 0) (by omega) (by omega) 0 0) mX6_says lX6_395 dX6_offNow_31 kq88 (ltn rfl) (ltn rfl) rfl rfl rfl rfl (ltn rfl) (Nat.le_of_ble_eq_true rfl) (Nat.le_of_ble_eq_true rfl) rfl (fun xo0 Go0 zo0 ho0 => ?_)
  obtain ⟨eo0, hFo0, hSo0⟩ := ho0
  have hTo0 : FrS g Go0 := hFo0
  have ko0 : xo0 = TMx CS ru 2 (nmV (g 92 0) (g 93 0) (g 94 0) 0 (nI 0) 0) := by
    rw [eo0]
    rfl
  refine go_imul (pc' := 35) cx dX6_offNow_34 rfl ?_
  refine go_iadd (pc' := 36) cx dX6_offNow_35 rfl ?_
  refine go_istore_n (pc' := 37) cx dX6_offNow_36 (ltn rfl) [(1, .int (0 + ((plnF ((g 92 0) - (g 94 0))) * xo0))), (2, .int 0), (0, .ref (E.2.1 88))] rfl rfl ?_
  refine go_iinc (pc' := 40) cx 1 dX6_offNow_37 rfl rfl (ltn rfl) [(2, .int 1), (1, .int (0 + ((plnF ((g 92 0) - (g 94 0))) * xo0))), (0, .ref (E.2.1 88))] rfl rfl ?_
  refine go_goto cx 4 dX6_offNow_40 rfl ?_
  refine go_iload_n (pc' := 5) cx dX6_offNow_4 rfl rfl ?_
  refine go_iconst (pc' := 6) cx 4 dX6_offNow_5 rfl rfl ?_
  refine go_icmp_ge (pc' := 9) cx 43 dX6_offNow_6 rfl rfl (fun hh => absurd hh (by decide)) (fun _ => ?_)
  refine go_iload_n (pc' := 10) cx dX6_offNow_9 rfl rfl ?_
  refine go_aload_n (pc' := 11) cx dX6_offNow_10 rfl rfl ?_
  refine go_getr (pc' := 14) cx 92 fX6_23 dX6_offNow_11 kq88 (ltn rfl) (ltn rfl) rfl rfl rfl ?_
  refine go_iload_n (pc' := 15) cx dX6_offNow_14 rfl rfl ?_
  refine go_iald (pc' := 16) cx (g 92 1) dX6_offNow_15 kq92 (ltn rfl) (vpi (k := 1) (a := 2) (ltn rfl) rfl rfl) ((congrArg (Go0 92) (cli (k := 1) (a := 2) (ltn rfl) rfl)).trans (hTo0 92 1 (by omega))) rfl ?_
  refine go_aload_n (pc' := 17) cx dX6_offNow_16 rfl rfl ?_
  refine go_getr (pc' := 20) cx 94 fX6_29 dX6_offNow_17 kq88 (ltn rfl) (ltn rfl) rfl rfl rfl ?_
  refine go_iload_n (pc' := 21) cx dX6_offNow_20 rfl rfl ?_
  refine go_iald (pc' := 22) cx (g 94 1) dX6_offNow_21 kq94 (ltn rfl) (vpi (k := 1) (a := 2) (ltn rfl) rfl rfl) ((congrArg (Go0 94) (cli (k := 1) (a := 2) (ltn rfl) rfl)).trans (hTo0 94 1 (by omega))) rfl ?_
  refine go_isub (pc' := 23) cx dX6_offNow_22 rfl ?_
  refine go_cSi (pc' := 26) cx (c_X6_plain l E (g := Go0) ((g 92 1) - (g 94 1))) mX6_plain lX6_392 dX6_offNow_23 rfl rfl rfl (ltn rfl) (Nat.le_of_ble_eq_true rfl) (Nat.le_of_ble_eq_true rfl) rfl ?_
  refine go_aload_n (pc' := 27) cx dX6_offNow_26 rfl rfl ?_
  refine go_iconst (pc' := 28) cx 2 dX6_offNow_27 rfl rfl ?_
  refine go_iload_n (pc' := 29) cx dX6_offNow_28 rfl rfl ?_
  refine go_iconst (pc' := 30) cx 0 dX6_offNow_29 rfl rfl ?_
  refine go_iconst (pc' := 31) cx 0 dX6_offNow_30 rfl rfl ?_
  refine go_cVIz (pc' := 34) cx (c_X6_says l E (g := Go0) (hX.fr hTo0 hSo0) (wh := 2) (pl := 1) (by omega) (by omega) 0 0) mX6_says lX6_395 dX6_offNow_31 kq88 (ltn rfl) (ltn rfl) rfl rfl rfl rfl (ltn rfl) (Nat.le_of_ble_eq_true rfl) (Nat.le_of_ble_eq_true rfl) rfl (fun xo1 Go1 zo1 ho1 => ?_)
  obtain ⟨eo1, hFo1, hSo1⟩ := ho1
  have hTo1 : FrS g Go1 := hTo0.tr hFo1
  have ko1 : xo1 = TMx CS ru 2 (nmV (g 92 1) (g 93 1) (g 94 1) 0 (nI 1) 0) := by
    rw [eo1, hTo0 92 1 (by omega), hTo0 93 1 (by omega), hTo0 94 1 (by omega)]
    rfl
  refine go_imul (pc' := 35) cx dX6_offNow_34 rfl ?_
  refine go_iadd (pc' := 36) cx dX6_offNow_35 rfl ?_
  refine go_istore_n (pc' := 37) cx dX6_offNow_36 (ltn rfl) [(1, .int ((0 + ((plnF ((g 92 0) - (g 94 0))) * xo0)) + ((plnF ((g 92 1) - (g 94 1))) * xo1))), (2, .int 1), (0, .ref (E.2.1 88))] rfl rfl ?_
  refine go_iinc (pc' := 40) cx 2 dX6_offNow_37 rfl rfl (ltn rfl) [(2, .int 2), (1, .int ((0 + ((plnF ((g 92 0) - (g 94 0))) * xo0)) + ((plnF ((g 92 1) - (g 94 1))) * xo1))), (0, .ref (E.2.1 88))] rfl rfl ?_
  refine go_goto cx 4 dX6_offNow_40 rfl ?_
  refine go_iload_n (pc' := 5) cx dX6_offNow_4 rfl rfl ?_
  refine go_iconst (pc' := 6) cx 4 dX6_offNow_5 rfl rfl ?_
  refine go_icmp_ge (pc' := 9) cx 43 dX6_offNow_6 rfl rfl (fun hh => absurd hh (by decide)) (fun _ => ?_)
  refine go_iload_n (pc' := 10) cx dX6_offNow_9 rfl rfl ?_
  refine go_aload_n (pc' := 11) cx dX6_offNow_10 rfl rfl ?_
  refine go_getr (pc' := 14) cx 92 fX6_23 dX6_offNow_11 kq88 (ltn rfl) (ltn rfl) rfl rfl rfl ?_
  refine go_iload_n (pc' := 15) cx dX6_offNow_14 rfl rfl ?_
  refine go_iald (pc' := 16) cx (g 92 2) dX6_offNow_15 kq92 (ltn rfl) (vpi (k := 2) (a := 3) (ltn rfl) rfl rfl) ((congrArg (Go1 92) (cli (k := 2) (a := 3) (ltn rfl) rfl)).trans (hTo1 92 2 (by omega))) rfl ?_
  refine go_aload_n (pc' := 17) cx dX6_offNow_16 rfl rfl ?_
  refine go_getr (pc' := 20) cx 94 fX6_29 dX6_offNow_17 kq88 (ltn rfl) (ltn rfl) rfl rfl rfl ?_
  refine go_iload_n (pc' := 21) cx dX6_offNow_20 rfl rfl ?_
  refine go_iald (pc' := 22) cx (g 94 2) dX6_offNow_21 kq94 (ltn rfl) (vpi (k := 2) (a := 3) (ltn rfl) rfl rfl) ((congrArg (Go1 94) (cli (k := 2) (a := 3) (ltn rfl) rfl)).trans (hTo1 94 2 (by omega))) rfl ?_
  refine go_isub (pc' := 23) cx dX6_offNow_22 rfl ?_
  refine go_cSi (pc' := 26) cx (c_X6_plain l E (g := Go1) ((g 92 2) - (g 94 2))) mX6_plain lX6_392 dX6_offNow_23 rfl rfl rfl (ltn rfl) (Nat.le_of_ble_eq_true rfl) (Nat.le_of_ble_eq_true rfl) rfl ?_
  refine go_aload_n (pc' := 27) cx dX6_offNow_26 rfl rfl ?_
  refine go_iconst (pc' := 28) cx 2 dX6_offNow_27 rfl rfl ?_
  refine go_iload_n (pc' := 29) cx dX6_offNow_28 rfl rfl ?_
  refine go_iconst (pc' := 30) cx 0 dX6_offNow_29 rfl rfl ?_
  refine go_iconst (pc' := 31) cx 0 dX6_offNow_30 rfl rfl ?_
  refine go_cVIz (pc' := 34) cx (c_X6_says l E (g := Go1) (hX.fr hTo1 hSo1) (wh := 2) (pl := 2) (by omega) (by omega) 0 0) mX6_says lX6_395 dX6_offNow_31 kq88 (ltn rfl) (ltn rfl) rfl rfl rfl rfl (ltn rfl) (Nat.le_of_ble_eq_true rfl) (Nat.le_of_ble_eq_true rfl) rfl (fun xo2 Go2 zo2 ho2 => ?_)
  obtain ⟨eo2, hFo2, hSo2⟩ := ho2
  have hTo2 : FrS g Go2 := hTo1.tr hFo2
  have ko2 : xo2 = TMx CS ru 2 (nmV (g 92 2) (g 93 2) (g 94 2) 0 (nI 2) 0) := by
    rw [eo2, hTo1 92 2 (by omega), hTo1 93 2 (by omega), hTo1 94 2 (by omega)]
    rfl
  refine go_imul (pc' := 35) cx dX6_offNow_34 rfl ?_
  refine go_iadd (pc' := 36) cx dX6_offNow_35 rfl ?_
  refine go_istore_n (pc' := 37) cx dX6_offNow_36 (ltn rfl) [(1, .int (((0 + ((plnF ((g 92 0) - (g 94 0))) * xo0)) + ((plnF ((g 92 1) - (g 94 1))) * xo1)) + ((plnF ((g 92 2) - (g 94 2))) * xo2))), (2, .int 2), (0, .ref (E.2.1 88))] rfl rfl ?_
  refine go_iinc (pc' := 40) cx 3 dX6_offNow_37 rfl rfl (ltn rfl) [(2, .int 3), (1, .int (((0 + ((plnF ((g 92 0) - (g 94 0))) * xo0)) + ((plnF ((g 92 1) - (g 94 1))) * xo1)) + ((plnF ((g 92 2) - (g 94 2))) * xo2))), (0, .ref (E.2.1 88))] rfl rfl ?_
  refine go_goto cx 4 dX6_offNow_40 rfl ?_
  refine go_iload_n (pc' := 5) cx dX6_offNow_4 rfl rfl ?_
  refine go_iconst (pc' := 6) cx 4 dX6_offNow_5 rfl rfl ?_
  refine go_icmp_ge (pc' := 9) cx 43 dX6_offNow_6 rfl rfl (fun hh => absurd hh (by decide)) (fun _ => ?_)
  refine go_iload_n (pc' := 10) cx dX6_offNow_9 rfl rfl ?_
  refine go_aload_n (pc' := 11) cx dX6_offNow_10 rfl rfl ?_
  refine go_getr (pc' := 14) cx 92 fX6_23 dX6_offNow_11 kq88 (ltn rfl) (ltn rfl) rfl rfl rfl ?_
  refine go_iload_n (pc' := 15) cx dX6_offNow_14 rfl rfl ?_
  refine go_iald (pc' := 16) cx (g 92 3) dX6_offNow_15 kq92 (ltn rfl) (vpi (k := 3) (a := 4) (ltn rfl) rfl rfl) ((congrArg (Go2 92) (cli (k := 3) (a := 4) (ltn rfl) rfl)).trans (hTo2 92 3 (by omega))) rfl ?_
  refine go_aload_n (pc' := 17) cx dX6_offNow_16 rfl rfl ?_
  refine go_getr (pc' := 20) cx 94 fX6_29 dX6_offNow_17 kq88 (ltn rfl) (ltn rfl) rfl rfl rfl ?_
  refine go_iload_n (pc' := 21) cx dX6_offNow_20 rfl rfl ?_
  refine go_iald (pc' := 22) cx (g 94 3) dX6_offNow_21 kq94 (ltn rfl) (vpi (k := 3) (a := 4) (ltn rfl) rfl rfl) ((congrArg (Go2 94) (cli (k := 3) (a := 4) (ltn rfl) rfl)).trans (hTo2 94 3 (by omega))) rfl ?_
  refine go_isub (pc' := 23) cx dX6_offNow_22 rfl ?_
  refine go_cSi (pc' := 26) cx (c_X6_plain l E (g := Go2) ((g 92 3) - (g 94 3))) mX6_plain lX6_392 dX6_offNow_23 rfl rfl rfl (ltn rfl) (Nat.le_of_ble_eq_true rfl) (Nat.le_of_ble_eq_true rfl) rfl ?_
  refine go_aload_n (pc' := 27) cx dX6_offNow_26 rfl rfl ?_
  refine go_iconst (pc' := 28) cx 2 dX6_offNow_27 rfl rfl ?_
  refine go_iload_n (pc' := 29) cx dX6_offNow_28 rfl rfl ?_
  refine go_iconst (pc' := 30) cx 0 dX6_offNow_29 rfl rfl ?_
  refine go_iconst (pc' := 31) cx 0 dX6_offNow_30 rfl rfl ?_
  refine go_cVIz (pc' := 34) cx (c_X6_says l E (g := Go2) (hX.fr hTo2 hSo2) (wh := 2) (pl := 3) (by omega) (by omega) 0 0) mX6_says lX6_395 dX6_offNow_31 kq88 (ltn rfl) (ltn rfl) rfl rfl rfl rfl (ltn rfl) (Nat.le_of_ble_eq_true rfl) (Nat.le_of_ble_eq_true rfl) rfl (fun xo3 Go3 zo3 ho3 => ?_)
  obtain ⟨eo3, hFo3, hSo3⟩ := ho3
  have hTo3 : FrS g Go3 := hTo2.tr hFo3
  have ko3 : xo3 = TMx CS ru 2 (nmV (g 92 3) (g 93 3) (g 94 3) 0 (nI 3) 0) := by
    rw [eo3, hTo2 92 3 (by omega), hTo2 93 3 (by omega), hTo2 94 3 (by omega)]
    rfl
  refine go_imul (pc' := 35) cx dX6_offNow_34 rfl ?_
  refine go_iadd (pc' := 36) cx dX6_offNow_35 rfl ?_
  refine go_istore_n (pc' := 37) cx dX6_offNow_36 (ltn rfl) [(1, .int ((((0 + ((plnF ((g 92 0) - (g 94 0))) * xo0)) + ((plnF ((g 92 1) - (g 94 1))) * xo1)) + ((plnF ((g 92 2) - (g 94 2))) * xo2)) + ((plnF ((g 92 3) - (g 94 3))) * xo3))), (2, .int 3), (0, .ref (E.2.1 88))] rfl rfl ?_
  refine go_iinc (pc' := 40) cx 4 dX6_offNow_37 rfl rfl (ltn rfl) [(2, .int 4), (1, .int ((((0 + ((plnF ((g 92 0) - (g 94 0))) * xo0)) + ((plnF ((g 92 1) - (g 94 1))) * xo1)) + ((plnF ((g 92 2) - (g 94 2))) * xo2)) + ((plnF ((g 92 3) - (g 94 3))) * xo3))), (0, .ref (E.2.1 88))] rfl rfl ?_
  refine go_goto cx 4 dX6_offNow_40 rfl ?_
  refine go_iload_n (pc' := 5) cx dX6_offNow_4 rfl rfl ?_
  refine go_iconst (pc' := 6) cx 4 dX6_offNow_5 rfl rfl ?_
  refine go_icmp_ge (pc' := 9) cx 43 dX6_offNow_6 rfl rfl (fun _ => ?_) (fun hh => absurd hh (by decide))
  refine go_iload_n (pc' := 44) cx dX6_offNow_43 rfl rfl ?_
  refine go_iret cx rfl dX6_offNow_44 ?_
  refine ZIz.mk ⟨?_, hTo3, hSo3⟩
  unfold ofA
  simp only [offS]
  rw [ko0, ko1, ko2, ko3]
  simp only [pl_ab]
  rfl

set_option maxHeartbeats 1000000 in
set_option maxRecDepth 20000 in
theorem c_X6_layAside (l : Launch) (E : Ev) {g : IG} {o : Option Nat} {z : Int64}  : Ct l E 115 yX6_layAside cX6_layAside 2 none 1 [.ref (E.2.1 88)] g (RFo o) z (ZV (RFo o) z (fun g1 => (∀ i k, ¬ (i = 103 ∨ (i = 88 ∧ k = 39)) → g1 i k = g i k) ∧ AsD g g1 ∧ g1 88 39 = 0)) := by
  refine Ct.of (lv0 := [(0, .ref (E.2.1 88))]) (by decide) (Nat.le_of_ble_eq_true rfl) rfl ?_
  intro p e s m below meth c cx
  refine go_iconst (pc' := 1) cx 0 dX6_layAside_0 rfl rfl ?_
  refine go_istore_n (pc' := 2) cx dX6_layAside_1 (ltn rfl) [(1, .int 0), (0, .ref (E.2.1 88))] rfl rfl ?_
  refine go_iload_n (pc' := 3) cx dX6_layAside_2 rfl rfl ?_
  refine go_iconst (pc' := 4) cx 4 dX6_layAside_3 rfl rfl ?_
  refine go_icmp_ge (pc' := 7) cx 39 dX6_layAside_4 rfl rfl (fun hh => absurd hh (by decide)) (fun _ => ?_)
  refine go_aload_n (pc' := 8) cx dX6_layAside_7 rfl rfl ?_
  refine go_getr (pc' := 11) cx 103 fX6_59 dX6_layAside_8 kq88 (ltn rfl) (ltn rfl) rfl rfl rfl ?_
  refine go_iload_n (pc' := 12) cx dX6_layAside_11 rfl rfl ?_
  refine go_aload_n (pc' := 13) cx dX6_layAside_12 rfl rfl ?_
  refine go_getr (pc' := 16) cx 92 fX6_23 dX6_layAside_13 kq88 (ltn rfl) (ltn rfl) rfl rfl rfl ?_
  refine go_iload_n (pc' := 17) cx dX6_layAside_16 rfl rfl ?_
  refine go_iald (pc' := 18) cx (g 92 0) dX6_layAside_17 kq92 (ltn rfl) (vpi (k := 0) (a := 1) (ltn rfl) rfl rfl) (congrArg (g 92) (cli (k := 0) (a := 1) (ltn rfl) rfl)) rfl ?_
  refine go_iastk (pc' := 19) cx 0 dX6_layAside_18 kq103 (ltn rfl) (vpi (k := 0) (a := 1) (ltn rfl) rfl rfl) (cli (k := 0) (a := 1) (ltn rfl) rfl) rfl ?_
  refine go_aload_n (pc' := 20) cx dX6_layAside_19 rfl rfl ?_
  refine go_getr (pc' := 23) cx 103 fX6_59 dX6_layAside_20 kq88 (ltn rfl) (ltn rfl) rfl rfl rfl ?_
  refine go_iconst (pc' := 24) cx 4 dX6_layAside_23 rfl rfl ?_
  refine go_iload_n (pc' := 25) cx dX6_layAside_24 rfl rfl ?_
  refine go_iadd (pc' := 26) cx dX6_layAside_25 rfl ?_
  refine go_val (w := .int 4) (congrArg Value.int (by decide)) ?_
  refine go_aload_n (pc' := 27) cx dX6_layAside_26 rfl rfl ?_
  refine go_getr (pc' := 30) cx 93 fX6_26 dX6_layAside_27 kq88 (ltn rfl) (ltn rfl) rfl rfl rfl ?_
  refine go_iload_n (pc' := 31) cx dX6_layAside_30 rfl rfl ?_
  refine go_iald (pc' := 32) cx (g 93 0) dX6_layAside_31 kq93 (ltn rfl) (vpi (k := 0) (a := 1) (ltn rfl) rfl rfl) ((congrArg ((up2 g 103 0 (g 92 0)) 93) (cli (k := 0) (a := 1) (ltn rfl) rfl)).trans (up2_n g (g 92 0) (Or.inl (Nat.ne_of_beq_eq_false rfl)))) rfl ?_
  refine go_iastk (pc' := 33) cx 4 dX6_layAside_32 kq103 (ltn rfl) (vpi (k := 4) (a := 5) (ltn rfl) rfl rfl) (cli (k := 4) (a := 5) (ltn rfl) rfl) rfl ?_
  refine go_iinc (pc' := 36) cx 1 dX6_layAside_33 rfl rfl (ltn rfl) [(1, .int 1), (0, .ref (E.2.1 88))] rfl rfl ?_
  refine go_goto cx 2 dX6_layAside_36 rfl ?_
  refine go_iload_n (pc' := 3) cx dX6_layAside_2 rfl rfl ?_
  refine go_iconst (pc' := 4) cx 4 dX6_layAside_3 rfl rfl ?_
  refine go_icmp_ge (pc' := 7) cx 39 dX6_layAside_4 rfl rfl (fun hh => absurd hh (by decide)) (fun _ => ?_)
  refine go_aload_n (pc' := 8) cx dX6_layAside_7 rfl rfl ?_
  refine go_getr (pc' := 11) cx 103 fX6_59 dX6_layAside_8 kq88 (ltn rfl) (ltn rfl) rfl rfl rfl ?_
  refine go_iload_n (pc' := 12) cx dX6_layAside_11 rfl rfl ?_
  refine go_aload_n (pc' := 13) cx dX6_layAside_12 rfl rfl ?_
  refine go_getr (pc' := 16) cx 92 fX6_23 dX6_layAside_13 kq88 (ltn rfl) (ltn rfl) rfl rfl rfl ?_
  refine go_iload_n (pc' := 17) cx dX6_layAside_16 rfl rfl ?_
  refine go_iald (pc' := 18) cx (g 92 1) dX6_layAside_17 kq92 (ltn rfl) (vpi (k := 1) (a := 2) (ltn rfl) rfl rfl) ((congrArg ((up2 (up2 g 103 0 (g 92 0)) 103 4 (g 93 0)) 92) (cli (k := 1) (a := 2) (ltn rfl) rfl)).trans ((up2_n (up2 g 103 0 (g 92 0)) (g 93 0) (Or.inl (Nat.ne_of_beq_eq_false rfl))).trans (up2_n g (g 92 0) (Or.inl (Nat.ne_of_beq_eq_false rfl))))) rfl ?_
  refine go_iastk (pc' := 19) cx 1 dX6_layAside_18 kq103 (ltn rfl) (vpi (k := 1) (a := 2) (ltn rfl) rfl rfl) (cli (k := 1) (a := 2) (ltn rfl) rfl) rfl ?_
  refine go_aload_n (pc' := 20) cx dX6_layAside_19 rfl rfl ?_
  refine go_getr (pc' := 23) cx 103 fX6_59 dX6_layAside_20 kq88 (ltn rfl) (ltn rfl) rfl rfl rfl ?_
  refine go_iconst (pc' := 24) cx 4 dX6_layAside_23 rfl rfl ?_
  refine go_iload_n (pc' := 25) cx dX6_layAside_24 rfl rfl ?_
  refine go_iadd (pc' := 26) cx dX6_layAside_25 rfl ?_
  refine go_val (w := .int 5) (congrArg Value.int (by decide)) ?_
  refine go_aload_n (pc' := 27) cx dX6_layAside_26 rfl rfl ?_
  refine go_getr (pc' := 30) cx 93 fX6_26 dX6_layAside_27 kq88 (ltn rfl) (ltn rfl) rfl rfl rfl ?_
  refine go_iload_n (pc' := 31) cx dX6_layAside_30 rfl rfl ?_
  refine go_iald (pc' := 32) cx (g 93 1) dX6_layAside_31 kq93 (ltn rfl) (vpi (k := 1) (a := 2) (ltn rfl) rfl rfl) ((congrArg ((up2 (up2 (up2 g 103 0 (g 92 0)) 103 4 (g 93 0)) 103 1 (g 92 1)) 93) (cli (k := 1) (a := 2) (ltn rfl) rfl)).trans ((up2_n (up2 (up2 g 103 0 (g 92 0)) 103 4 (g 93 0)) (g 92 1) (Or.inl (Nat.ne_of_beq_eq_false rfl))).trans ((up2_n (up2 g 103 0 (g 92 0)) (g 93 0) (Or.inl (Nat.ne_of_beq_eq_false rfl))).trans (up2_n g (g 92 0) (Or.inl (Nat.ne_of_beq_eq_false rfl)))))) rfl ?_
  refine go_iastk (pc' := 33) cx 5 dX6_layAside_32 kq103 (ltn rfl) (vpi (k := 5) (a := 6) (ltn rfl) rfl rfl) (cli (k := 5) (a := 6) (ltn rfl) rfl) rfl ?_
  refine go_iinc (pc' := 36) cx 2 dX6_layAside_33 rfl rfl (ltn rfl) [(1, .int 2), (0, .ref (E.2.1 88))] rfl rfl ?_
  refine go_goto cx 2 dX6_layAside_36 rfl ?_
  refine go_iload_n (pc' := 3) cx dX6_layAside_2 rfl rfl ?_
  refine go_iconst (pc' := 4) cx 4 dX6_layAside_3 rfl rfl ?_
  refine go_icmp_ge (pc' := 7) cx 39 dX6_layAside_4 rfl rfl (fun hh => absurd hh (by decide)) (fun _ => ?_)
  refine go_aload_n (pc' := 8) cx dX6_layAside_7 rfl rfl ?_
  refine go_getr (pc' := 11) cx 103 fX6_59 dX6_layAside_8 kq88 (ltn rfl) (ltn rfl) rfl rfl rfl ?_
  refine go_iload_n (pc' := 12) cx dX6_layAside_11 rfl rfl ?_
  refine go_aload_n (pc' := 13) cx dX6_layAside_12 rfl rfl ?_
  refine go_getr (pc' := 16) cx 92 fX6_23 dX6_layAside_13 kq88 (ltn rfl) (ltn rfl) rfl rfl rfl ?_
  refine go_iload_n (pc' := 17) cx dX6_layAside_16 rfl rfl ?_
  refine go_iald (pc' := 18) cx (g 92 2) dX6_layAside_17 kq92 (ltn rfl) (vpi (k := 2) (a := 3) (ltn rfl) rfl rfl) ((congrArg ((up2 (up2 (up2 (up2 g 103 0 (g 92 0)) 103 4 (g 93 0)) 103 1 (g 92 1)) 103 5 (g 93 1)) 92) (cli (k := 2) (a := 3) (ltn rfl) rfl)).trans ((up2_n (up2 (up2 (up2 g 103 0 (g 92 0)) 103 4 (g 93 0)) 103 1 (g 92 1)) (g 93 1) (Or.inl (Nat.ne_of_beq_eq_false rfl))).trans ((up2_n (up2 (up2 g 103 0 (g 92 0)) 103 4 (g 93 0)) (g 92 1) (Or.inl (Nat.ne_of_beq_eq_false rfl))).trans ((up2_n (up2 g 103 0 (g 92 0)) (g 93 0) (Or.inl (Nat.ne_of_beq_eq_false rfl))).trans (up2_n g (g 92 0) (Or.inl (Nat.ne_of_beq_eq_false rfl))))))) rfl ?_
  refine go_iastk (pc' := 19) cx 2 dX6_layAside_18 kq103 (ltn rfl) (vpi (k := 2) (a := 3) (ltn rfl) rfl rfl) (cli (k := 2) (a := 3) (ltn rfl) rfl) rfl ?_
  refine go_aload_n (pc' := 20) cx dX6_layAside_19 rfl rfl ?_
  refine go_getr (pc' := 23) cx 103 fX6_59 dX6_layAside_20 kq88 (ltn rfl) (ltn rfl) rfl rfl rfl ?_
  refine go_iconst (pc' := 24) cx 4 dX6_layAside_23 rfl rfl ?_
  refine go_iload_n (pc' := 25) cx dX6_layAside_24 rfl rfl ?_
  refine go_iadd (pc' := 26) cx dX6_layAside_25 rfl ?_
  refine go_val (w := .int 6) (congrArg Value.int (by decide)) ?_
  refine go_aload_n (pc' := 27) cx dX6_layAside_26 rfl rfl ?_
  refine go_getr (pc' := 30) cx 93 fX6_26 dX6_layAside_27 kq88 (ltn rfl) (ltn rfl) rfl rfl rfl ?_
  refine go_iload_n (pc' := 31) cx dX6_layAside_30 rfl rfl ?_
  refine go_iald (pc' := 32) cx (g 93 2) dX6_layAside_31 kq93 (ltn rfl) (vpi (k := 2) (a := 3) (ltn rfl) rfl rfl) ((congrArg ((up2 (up2 (up2 (up2 (up2 g 103 0 (g 92 0)) 103 4 (g 93 0)) 103 1 (g 92 1)) 103 5 (g 93 1)) 103 2 (g 92 2)) 93) (cli (k := 2) (a := 3) (ltn rfl) rfl)).trans ((up2_n (up2 (up2 (up2 (up2 g 103 0 (g 92 0)) 103 4 (g 93 0)) 103 1 (g 92 1)) 103 5 (g 93 1)) (g 92 2) (Or.inl (Nat.ne_of_beq_eq_false rfl))).trans ((up2_n (up2 (up2 (up2 g 103 0 (g 92 0)) 103 4 (g 93 0)) 103 1 (g 92 1)) (g 93 1) (Or.inl (Nat.ne_of_beq_eq_false rfl))).trans ((up2_n (up2 (up2 g 103 0 (g 92 0)) 103 4 (g 93 0)) (g 92 1) (Or.inl (Nat.ne_of_beq_eq_false rfl))).trans ((up2_n (up2 g 103 0 (g 92 0)) (g 93 0) (Or.inl (Nat.ne_of_beq_eq_false rfl))).trans (up2_n g (g 92 0) (Or.inl (Nat.ne_of_beq_eq_false rfl)))))))) rfl ?_
  refine go_iastk (pc' := 33) cx 6 dX6_layAside_32 kq103 (ltn rfl) (vpi (k := 6) (a := 7) (ltn rfl) rfl rfl) (cli (k := 6) (a := 7) (ltn rfl) rfl) rfl ?_
  refine go_iinc (pc' := 36) cx 3 dX6_layAside_33 rfl rfl (ltn rfl) [(1, .int 3), (0, .ref (E.2.1 88))] rfl rfl ?_
  refine go_goto cx 2 dX6_layAside_36 rfl ?_
  refine go_iload_n (pc' := 3) cx dX6_layAside_2 rfl rfl ?_
  refine go_iconst (pc' := 4) cx 4 dX6_layAside_3 rfl rfl ?_
  refine go_icmp_ge (pc' := 7) cx 39 dX6_layAside_4 rfl rfl (fun hh => absurd hh (by decide)) (fun _ => ?_)
  refine go_aload_n (pc' := 8) cx dX6_layAside_7 rfl rfl ?_
  refine go_getr (pc' := 11) cx 103 fX6_59 dX6_layAside_8 kq88 (ltn rfl) (ltn rfl) rfl rfl rfl ?_
  refine go_iload_n (pc' := 12) cx dX6_layAside_11 rfl rfl ?_
  refine go_aload_n (pc' := 13) cx dX6_layAside_12 rfl rfl ?_
  refine go_getr (pc' := 16) cx 92 fX6_23 dX6_layAside_13 kq88 (ltn rfl) (ltn rfl) rfl rfl rfl ?_
  refine go_iload_n (pc' := 17) cx dX6_layAside_16 rfl rfl ?_
  refine go_iald (pc' := 18) cx (g 92 3) dX6_layAside_17 kq92 (ltn rfl) (vpi (k := 3) (a := 4) (ltn rfl) rfl rfl) ((congrArg ((up2 (up2 (up2 (up2 (up2 (up2 g 103 0 (g 92 0)) 103 4 (g 93 0)) 103 1 (g 92 1)) 103 5 (g 93 1)) 103 2 (g 92 2)) 103 6 (g 93 2)) 92) (cli (k := 3) (a := 4) (ltn rfl) rfl)).trans ((up2_n (up2 (up2 (up2 (up2 (up2 g 103 0 (g 92 0)) 103 4 (g 93 0)) 103 1 (g 92 1)) 103 5 (g 93 1)) 103 2 (g 92 2)) (g 93 2) (Or.inl (Nat.ne_of_beq_eq_false rfl))).trans ((up2_n (up2 (up2 (up2 (up2 g 103 0 (g 92 0)) 103 4 (g 93 0)) 103 1 (g 92 1)) 103 5 (g 93 1)) (g 92 2) (Or.inl (Nat.ne_of_beq_eq_false rfl))).trans ((up2_n (up2 (up2 (up2 g 103 0 (g 92 0)) 103 4 (g 93 0)) 103 1 (g 92 1)) (g 93 1) (Or.inl (Nat.ne_of_beq_eq_false rfl))).trans ((up2_n (up2 (up2 g 103 0 (g 92 0)) 103 4 (g 93 0)) (g 92 1) (Or.inl (Nat.ne_of_beq_eq_false rfl))).trans ((up2_n (up2 g 103 0 (g 92 0)) (g 93 0) (Or.inl (Nat.ne_of_beq_eq_false rfl))).trans (up2_n g (g 92 0) (Or.inl (Nat.ne_of_beq_eq_false rfl))))))))) rfl ?_
  refine go_iastk (pc' := 19) cx 3 dX6_layAside_18 kq103 (ltn rfl) (vpi (k := 3) (a := 4) (ltn rfl) rfl rfl) (cli (k := 3) (a := 4) (ltn rfl) rfl) rfl ?_
  refine go_aload_n (pc' := 20) cx dX6_layAside_19 rfl rfl ?_
  refine go_getr (pc' := 23) cx 103 fX6_59 dX6_layAside_20 kq88 (ltn rfl) (ltn rfl) rfl rfl rfl ?_
  refine go_iconst (pc' := 24) cx 4 dX6_layAside_23 rfl rfl ?_
  refine go_iload_n (pc' := 25) cx dX6_layAside_24 rfl rfl ?_
  refine go_iadd (pc' := 26) cx dX6_layAside_25 rfl ?_
  refine go_val (w := .int 7) (congrArg Value.int (by decide)) ?_
  refine go_aload_n (pc' := 27) cx dX6_layAside_26 rfl rfl ?_
  refine go_getr (pc' := 30) cx 93 fX6_26 dX6_layAside_27 kq88 (ltn rfl) (ltn rfl) rfl rfl rfl ?_
  refine go_iload_n (pc' := 31) cx dX6_layAside_30 rfl rfl ?_
  refine go_iald (pc' := 32) cx (g 93 3) dX6_layAside_31 kq93 (ltn rfl) (vpi (k := 3) (a := 4) (ltn rfl) rfl rfl) ((congrArg ((up2 (up2 (up2 (up2 (up2 (up2 (up2 g 103 0 (g 92 0)) 103 4 (g 93 0)) 103 1 (g 92 1)) 103 5 (g 93 1)) 103 2 (g 92 2)) 103 6 (g 93 2)) 103 3 (g 92 3)) 93) (cli (k := 3) (a := 4) (ltn rfl) rfl)).trans ((up2_n (up2 (up2 (up2 (up2 (up2 (up2 g 103 0 (g 92 0)) 103 4 (g 93 0)) 103 1 (g 92 1)) 103 5 (g 93 1)) 103 2 (g 92 2)) 103 6 (g 93 2)) (g 92 3) (Or.inl (Nat.ne_of_beq_eq_false rfl))).trans ((up2_n (up2 (up2 (up2 (up2 (up2 g 103 0 (g 92 0)) 103 4 (g 93 0)) 103 1 (g 92 1)) 103 5 (g 93 1)) 103 2 (g 92 2)) (g 93 2) (Or.inl (Nat.ne_of_beq_eq_false rfl))).trans ((up2_n (up2 (up2 (up2 (up2 g 103 0 (g 92 0)) 103 4 (g 93 0)) 103 1 (g 92 1)) 103 5 (g 93 1)) (g 92 2) (Or.inl (Nat.ne_of_beq_eq_false rfl))).trans ((up2_n (up2 (up2 (up2 g 103 0 (g 92 0)) 103 4 (g 93 0)) 103 1 (g 92 1)) (g 93 1) (Or.inl (Nat.ne_of_beq_eq_false rfl))).trans ((up2_n (up2 (up2 g 103 0 (g 92 0)) 103 4 (g 93 0)) (g 92 1) (Or.inl (Nat.ne_of_beq_eq_false rfl))).trans ((up2_n (up2 g 103 0 (g 92 0)) (g 93 0) (Or.inl (Nat.ne_of_beq_eq_false rfl))).trans (up2_n g (g 92 0) (Or.inl (Nat.ne_of_beq_eq_false rfl)))))))))) rfl ?_
  refine go_iastk (pc' := 33) cx 7 dX6_layAside_32 kq103 (ltn rfl) (vpi (k := 7) (a := 8) (ltn rfl) rfl rfl) (cli (k := 7) (a := 8) (ltn rfl) rfl) rfl ?_
  refine go_iinc (pc' := 36) cx 4 dX6_layAside_33 rfl rfl (ltn rfl) [(1, .int 4), (0, .ref (E.2.1 88))] rfl rfl ?_
  refine go_goto cx 2 dX6_layAside_36 rfl ?_
  refine go_iload_n (pc' := 3) cx dX6_layAside_2 rfl rfl ?_
  refine go_iconst (pc' := 4) cx 4 dX6_layAside_3 rfl rfl ?_
  refine go_icmp_ge (pc' := 7) cx 39 dX6_layAside_4 rfl rfl (fun _ => ?_) (fun hh => absurd hh (by decide))
  refine go_aload_n (pc' := 40) cx dX6_layAside_39 rfl rfl ?_
  refine go_iconst (pc' := 41) cx 0 dX6_layAside_40 rfl rfl ?_
  refine go_puti (pc' := 44) cx fX6_399 dX6_layAside_41 kq88 (ltn rfl) (ltn rfl) rfl rfl rfl rfl ?_
  refine go_vret cx rfl dX6_layAside_44 ?_
  refine ZV.mk ⟨?_, ?_, ?_⟩
  · intro i k q
    rw [up2_n _ _ (by omega), up2_n _ _ (by omega), up2_n _ _ (by omega), up2_n _ _ (by omega), up2_n _ _ (by omega), up2_n _ _ (by omega), up2_n _ _ (by omega), up2_n _ _ (by omega), up2_n _ _ (by omega)]
  · intro p hp
    rcases (show p = 0 ∨ p = 1 ∨ p = 2 ∨ p = 3 by omega) with rfl | rfl | rfl | rfl <;> exact ⟨rfl, rfl⟩
  · rfl

set_option maxHeartbeats 1000000 in
set_option maxRecDepth 20000 in
theorem c_X6_takeBack (l : Launch) (E : Ev) {g : IG} {o : Option Nat} {z : Int64}  : Ct l E 115 yX6_takeBack cX6_takeBack 2 none 1 [.ref (E.2.1 88)] g (RFo o) z (ZV (RFo o) z (fun g1 => (∀ i k, ¬ ((i = 92 ∨ i = 93) ∧ k < 4) → g1 i k = g i k) ∧ ∀ p, p < 4 → g1 92 p = g 103 p ∧ g1 93 p = g 103 (4 + p))) := by
  refine Ct.of (lv0 := [(0, .ref (E.2.1 88))]) (by decide) (Nat.le_of_ble_eq_true rfl) rfl ?_
  intro p e s m below meth c cx
  refine go_iconst (pc' := 1) cx 0 dX6_takeBack_0 rfl rfl ?_
  refine go_istore_n (pc' := 2) cx dX6_takeBack_1 (ltn rfl) [(1, .int 0), (0, .ref (E.2.1 88))] rfl rfl ?_
  refine go_iload_n (pc' := 3) cx dX6_takeBack_2 rfl rfl ?_
  refine go_iconst (pc' := 4) cx 4 dX6_takeBack_3 rfl rfl ?_
  refine go_icmp_ge (pc' := 7) cx 39 dX6_takeBack_4 rfl rfl (fun hh => absurd hh (by decide)) (fun _ => ?_)
  refine go_aload_n (pc' := 8) cx dX6_takeBack_7 rfl rfl ?_
  refine go_getr (pc' := 11) cx 92 fX6_23 dX6_takeBack_8 kq88 (ltn rfl) (ltn rfl) rfl rfl rfl ?_
  refine go_iload_n (pc' := 12) cx dX6_takeBack_11 rfl rfl ?_
  refine go_aload_n (pc' := 13) cx dX6_takeBack_12 rfl rfl ?_
  refine go_getr (pc' := 16) cx 103 fX6_59 dX6_takeBack_13 kq88 (ltn rfl) (ltn rfl) rfl rfl rfl ?_
  refine go_iload_n (pc' := 17) cx dX6_takeBack_16 rfl rfl ?_
  refine go_iald (pc' := 18) cx (g 103 0) dX6_takeBack_17 kq103 (ltn rfl) (vpi (k := 0) (a := 1) (ltn rfl) rfl rfl) (congrArg (g 103) (cli (k := 0) (a := 1) (ltn rfl) rfl)) rfl ?_
  refine go_iastk (pc' := 19) cx 0 dX6_takeBack_18 kq92 (ltn rfl) (vpi (k := 0) (a := 1) (ltn rfl) rfl rfl) (cli (k := 0) (a := 1) (ltn rfl) rfl) rfl ?_
  refine go_aload_n (pc' := 20) cx dX6_takeBack_19 rfl rfl ?_
  refine go_getr (pc' := 23) cx 93 fX6_26 dX6_takeBack_20 kq88 (ltn rfl) (ltn rfl) rfl rfl rfl ?_
  refine go_iload_n (pc' := 24) cx dX6_takeBack_23 rfl rfl ?_
  refine go_aload_n (pc' := 25) cx dX6_takeBack_24 rfl rfl ?_
  refine go_getr (pc' := 28) cx 103 fX6_59 dX6_takeBack_25 kq88 (ltn rfl) (ltn rfl) rfl rfl rfl ?_
  refine go_iconst (pc' := 29) cx 4 dX6_takeBack_28 rfl rfl ?_
  refine go_iload_n (pc' := 30) cx dX6_takeBack_29 rfl rfl ?_
  refine go_iadd (pc' := 31) cx dX6_takeBack_30 rfl ?_
  refine go_val (w := .int 4) (congrArg Value.int (by decide)) ?_
  refine go_iald (pc' := 32) cx (g 103 4) dX6_takeBack_31 kq103 (ltn rfl) (vpi (k := 4) (a := 5) (ltn rfl) rfl rfl) ((congrArg ((up2 g 92 0 (g 103 0)) 103) (cli (k := 4) (a := 5) (ltn rfl) rfl)).trans (up2_n g (g 103 0) (Or.inl (Nat.ne_of_beq_eq_false rfl)))) rfl ?_
  refine go_iastk (pc' := 33) cx 0 dX6_takeBack_32 kq93 (ltn rfl) (vpi (k := 0) (a := 1) (ltn rfl) rfl rfl) (cli (k := 0) (a := 1) (ltn rfl) rfl) rfl ?_
  refine go_iinc (pc' := 36) cx 1 dX6_takeBack_33 rfl rfl (ltn rfl) [(1, .int 1), (0, .ref (E.2.1 88))] rfl rfl ?_
  refine go_goto cx 2 dX6_takeBack_36 rfl ?_
  refine go_iload_n (pc' := 3) cx dX6_takeBack_2 rfl rfl ?_
  refine go_iconst (pc' := 4) cx 4 dX6_takeBack_3 rfl rfl ?_
  refine go_icmp_ge (pc' := 7) cx 39 dX6_takeBack_4 rfl rfl (fun hh => absurd hh (by decide)) (fun _ => ?_)
  refine go_aload_n (pc' := 8) cx dX6_takeBack_7 rfl rfl ?_
  refine go_getr (pc' := 11) cx 92 fX6_23 dX6_takeBack_8 kq88 (ltn rfl) (ltn rfl) rfl rfl rfl ?_
  refine go_iload_n (pc' := 12) cx dX6_takeBack_11 rfl rfl ?_
  refine go_aload_n (pc' := 13) cx dX6_takeBack_12 rfl rfl ?_
  refine go_getr (pc' := 16) cx 103 fX6_59 dX6_takeBack_13 kq88 (ltn rfl) (ltn rfl) rfl rfl rfl ?_
  refine go_iload_n (pc' := 17) cx dX6_takeBack_16 rfl rfl ?_
  refine go_iald (pc' := 18) cx (g 103 1) dX6_takeBack_17 kq103 (ltn rfl) (vpi (k := 1) (a := 2) (ltn rfl) rfl rfl) ((congrArg ((up2 (up2 g 92 0 (g 103 0)) 93 0 (g 103 4)) 103) (cli (k := 1) (a := 2) (ltn rfl) rfl)).trans ((up2_n (up2 g 92 0 (g 103 0)) (g 103 4) (Or.inl (Nat.ne_of_beq_eq_false rfl))).trans (up2_n g (g 103 0) (Or.inl (Nat.ne_of_beq_eq_false rfl))))) rfl ?_
  refine go_iastk (pc' := 19) cx 1 dX6_takeBack_18 kq92 (ltn rfl) (vpi (k := 1) (a := 2) (ltn rfl) rfl rfl) (cli (k := 1) (a := 2) (ltn rfl) rfl) rfl ?_
  refine go_aload_n (pc' := 20) cx dX6_takeBack_19 rfl rfl ?_
  refine go_getr (pc' := 23) cx 93 fX6_26 dX6_takeBack_20 kq88 (ltn rfl) (ltn rfl) rfl rfl rfl ?_
  refine go_iload_n (pc' := 24) cx dX6_takeBack_23 rfl rfl ?_
  refine go_aload_n (pc' := 25) cx dX6_takeBack_24 rfl rfl ?_
  refine go_getr (pc' := 28) cx 103 fX6_59 dX6_takeBack_25 kq88 (ltn rfl) (ltn rfl) rfl rfl rfl ?_
  refine go_iconst (pc' := 29) cx 4 dX6_takeBack_28 rfl rfl ?_
  refine go_iload_n (pc' := 30) cx dX6_takeBack_29 rfl rfl ?_
  refine go_iadd (pc' := 31) cx dX6_takeBack_30 rfl ?_
  refine go_val (w := .int 5) (congrArg Value.int (by decide)) ?_
  refine go_iald (pc' := 32) cx (g 103 5) dX6_takeBack_31 kq103 (ltn rfl) (vpi (k := 5) (a := 6) (ltn rfl) rfl rfl) ((congrArg ((up2 (up2 (up2 g 92 0 (g 103 0)) 93 0 (g 103 4)) 92 1 (g 103 1)) 103) (cli (k := 5) (a := 6) (ltn rfl) rfl)).trans ((up2_n (up2 (up2 g 92 0 (g 103 0)) 93 0 (g 103 4)) (g 103 1) (Or.inl (Nat.ne_of_beq_eq_false rfl))).trans ((up2_n (up2 g 92 0 (g 103 0)) (g 103 4) (Or.inl (Nat.ne_of_beq_eq_false rfl))).trans (up2_n g (g 103 0) (Or.inl (Nat.ne_of_beq_eq_false rfl)))))) rfl ?_
  refine go_iastk (pc' := 33) cx 1 dX6_takeBack_32 kq93 (ltn rfl) (vpi (k := 1) (a := 2) (ltn rfl) rfl rfl) (cli (k := 1) (a := 2) (ltn rfl) rfl) rfl ?_
  refine go_iinc (pc' := 36) cx 2 dX6_takeBack_33 rfl rfl (ltn rfl) [(1, .int 2), (0, .ref (E.2.1 88))] rfl rfl ?_
  refine go_goto cx 2 dX6_takeBack_36 rfl ?_
  refine go_iload_n (pc' := 3) cx dX6_takeBack_2 rfl rfl ?_
  refine go_iconst (pc' := 4) cx 4 dX6_takeBack_3 rfl rfl ?_
  refine go_icmp_ge (pc' := 7) cx 39 dX6_takeBack_4 rfl rfl (fun hh => absurd hh (by decide)) (fun _ => ?_)
  refine go_aload_n (pc' := 8) cx dX6_takeBack_7 rfl rfl ?_
  refine go_getr (pc' := 11) cx 92 fX6_23 dX6_takeBack_8 kq88 (ltn rfl) (ltn rfl) rfl rfl rfl ?_
  refine go_iload_n (pc' := 12) cx dX6_takeBack_11 rfl rfl ?_
  refine go_aload_n (pc' := 13) cx dX6_takeBack_12 rfl rfl ?_
  refine go_getr (pc' := 16) cx 103 fX6_59 dX6_takeBack_13 kq88 (ltn rfl) (ltn rfl) rfl rfl rfl ?_
  refine go_iload_n (pc' := 17) cx dX6_takeBack_16 rfl rfl ?_
  refine go_iald (pc' := 18) cx (g 103 2) dX6_takeBack_17 kq103 (ltn rfl) (vpi (k := 2) (a := 3) (ltn rfl) rfl rfl) ((congrArg ((up2 (up2 (up2 (up2 g 92 0 (g 103 0)) 93 0 (g 103 4)) 92 1 (g 103 1)) 93 1 (g 103 5)) 103) (cli (k := 2) (a := 3) (ltn rfl) rfl)).trans ((up2_n (up2 (up2 (up2 g 92 0 (g 103 0)) 93 0 (g 103 4)) 92 1 (g 103 1)) (g 103 5) (Or.inl (Nat.ne_of_beq_eq_false rfl))).trans ((up2_n (up2 (up2 g 92 0 (g 103 0)) 93 0 (g 103 4)) (g 103 1) (Or.inl (Nat.ne_of_beq_eq_false rfl))).trans ((up2_n (up2 g 92 0 (g 103 0)) (g 103 4) (Or.inl (Nat.ne_of_beq_eq_false rfl))).trans (up2_n g (g 103 0) (Or.inl (Nat.ne_of_beq_eq_false rfl))))))) rfl ?_
  refine go_iastk (pc' := 19) cx 2 dX6_takeBack_18 kq92 (ltn rfl) (vpi (k := 2) (a := 3) (ltn rfl) rfl rfl) (cli (k := 2) (a := 3) (ltn rfl) rfl) rfl ?_
  refine go_aload_n (pc' := 20) cx dX6_takeBack_19 rfl rfl ?_
  refine go_getr (pc' := 23) cx 93 fX6_26 dX6_takeBack_20 kq88 (ltn rfl) (ltn rfl) rfl rfl rfl ?_
  refine go_iload_n (pc' := 24) cx dX6_takeBack_23 rfl rfl ?_
  refine go_aload_n (pc' := 25) cx dX6_takeBack_24 rfl rfl ?_
  refine go_getr (pc' := 28) cx 103 fX6_59 dX6_takeBack_25 kq88 (ltn rfl) (ltn rfl) rfl rfl rfl ?_
  refine go_iconst (pc' := 29) cx 4 dX6_takeBack_28 rfl rfl ?_
  refine go_iload_n (pc' := 30) cx dX6_takeBack_29 rfl rfl ?_
  refine go_iadd (pc' := 31) cx dX6_takeBack_30 rfl ?_
  refine go_val (w := .int 6) (congrArg Value.int (by decide)) ?_
  refine go_iald (pc' := 32) cx (g 103 6) dX6_takeBack_31 kq103 (ltn rfl) (vpi (k := 6) (a := 7) (ltn rfl) rfl rfl) ((congrArg ((up2 (up2 (up2 (up2 (up2 g 92 0 (g 103 0)) 93 0 (g 103 4)) 92 1 (g 103 1)) 93 1 (g 103 5)) 92 2 (g 103 2)) 103) (cli (k := 6) (a := 7) (ltn rfl) rfl)).trans ((up2_n (up2 (up2 (up2 (up2 g 92 0 (g 103 0)) 93 0 (g 103 4)) 92 1 (g 103 1)) 93 1 (g 103 5)) (g 103 2) (Or.inl (Nat.ne_of_beq_eq_false rfl))).trans ((up2_n (up2 (up2 (up2 g 92 0 (g 103 0)) 93 0 (g 103 4)) 92 1 (g 103 1)) (g 103 5) (Or.inl (Nat.ne_of_beq_eq_false rfl))).trans ((up2_n (up2 (up2 g 92 0 (g 103 0)) 93 0 (g 103 4)) (g 103 1) (Or.inl (Nat.ne_of_beq_eq_false rfl))).trans ((up2_n (up2 g 92 0 (g 103 0)) (g 103 4) (Or.inl (Nat.ne_of_beq_eq_false rfl))).trans (up2_n g (g 103 0) (Or.inl (Nat.ne_of_beq_eq_false rfl)))))))) rfl ?_
  refine go_iastk (pc' := 33) cx 2 dX6_takeBack_32 kq93 (ltn rfl) (vpi (k := 2) (a := 3) (ltn rfl) rfl rfl) (cli (k := 2) (a := 3) (ltn rfl) rfl) rfl ?_
  refine go_iinc (pc' := 36) cx 3 dX6_takeBack_33 rfl rfl (ltn rfl) [(1, .int 3), (0, .ref (E.2.1 88))] rfl rfl ?_
  refine go_goto cx 2 dX6_takeBack_36 rfl ?_
  refine go_iload_n (pc' := 3) cx dX6_takeBack_2 rfl rfl ?_
  refine go_iconst (pc' := 4) cx 4 dX6_takeBack_3 rfl rfl ?_
  refine go_icmp_ge (pc' := 7) cx 39 dX6_takeBack_4 rfl rfl (fun hh => absurd hh (by decide)) (fun _ => ?_)
  refine go_aload_n (pc' := 8) cx dX6_takeBack_7 rfl rfl ?_
  refine go_getr (pc' := 11) cx 92 fX6_23 dX6_takeBack_8 kq88 (ltn rfl) (ltn rfl) rfl rfl rfl ?_
  refine go_iload_n (pc' := 12) cx dX6_takeBack_11 rfl rfl ?_
  refine go_aload_n (pc' := 13) cx dX6_takeBack_12 rfl rfl ?_
  refine go_getr (pc' := 16) cx 103 fX6_59 dX6_takeBack_13 kq88 (ltn rfl) (ltn rfl) rfl rfl rfl ?_
  refine go_iload_n (pc' := 17) cx dX6_takeBack_16 rfl rfl ?_
  refine go_iald (pc' := 18) cx (g 103 3) dX6_takeBack_17 kq103 (ltn rfl) (vpi (k := 3) (a := 4) (ltn rfl) rfl rfl) ((congrArg ((up2 (up2 (up2 (up2 (up2 (up2 g 92 0 (g 103 0)) 93 0 (g 103 4)) 92 1 (g 103 1)) 93 1 (g 103 5)) 92 2 (g 103 2)) 93 2 (g 103 6)) 103) (cli (k := 3) (a := 4) (ltn rfl) rfl)).trans ((up2_n (up2 (up2 (up2 (up2 (up2 g 92 0 (g 103 0)) 93 0 (g 103 4)) 92 1 (g 103 1)) 93 1 (g 103 5)) 92 2 (g 103 2)) (g 103 6) (Or.inl (Nat.ne_of_beq_eq_false rfl))).trans ((up2_n (up2 (up2 (up2 (up2 g 92 0 (g 103 0)) 93 0 (g 103 4)) 92 1 (g 103 1)) 93 1 (g 103 5)) (g 103 2) (Or.inl (Nat.ne_of_beq_eq_false rfl))).trans ((up2_n (up2 (up2 (up2 g 92 0 (g 103 0)) 93 0 (g 103 4)) 92 1 (g 103 1)) (g 103 5) (Or.inl (Nat.ne_of_beq_eq_false rfl))).trans ((up2_n (up2 (up2 g 92 0 (g 103 0)) 93 0 (g 103 4)) (g 103 1) (Or.inl (Nat.ne_of_beq_eq_false rfl))).trans ((up2_n (up2 g 92 0 (g 103 0)) (g 103 4) (Or.inl (Nat.ne_of_beq_eq_false rfl))).trans (up2_n g (g 103 0) (Or.inl (Nat.ne_of_beq_eq_false rfl))))))))) rfl ?_
  refine go_iastk (pc' := 19) cx 3 dX6_takeBack_18 kq92 (ltn rfl) (vpi (k := 3) (a := 4) (ltn rfl) rfl rfl) (cli (k := 3) (a := 4) (ltn rfl) rfl) rfl ?_
  refine go_aload_n (pc' := 20) cx dX6_takeBack_19 rfl rfl ?_
  refine go_getr (pc' := 23) cx 93 fX6_26 dX6_takeBack_20 kq88 (ltn rfl) (ltn rfl) rfl rfl rfl ?_
  refine go_iload_n (pc' := 24) cx dX6_takeBack_23 rfl rfl ?_
  refine go_aload_n (pc' := 25) cx dX6_takeBack_24 rfl rfl ?_
  refine go_getr (pc' := 28) cx 103 fX6_59 dX6_takeBack_25 kq88 (ltn rfl) (ltn rfl) rfl rfl rfl ?_
  refine go_iconst (pc' := 29) cx 4 dX6_takeBack_28 rfl rfl ?_
  refine go_iload_n (pc' := 30) cx dX6_takeBack_29 rfl rfl ?_
  refine go_iadd (pc' := 31) cx dX6_takeBack_30 rfl ?_
  refine go_val (w := .int 7) (congrArg Value.int (by decide)) ?_
  refine go_iald (pc' := 32) cx (g 103 7) dX6_takeBack_31 kq103 (ltn rfl) (vpi (k := 7) (a := 8) (ltn rfl) rfl rfl) ((congrArg ((up2 (up2 (up2 (up2 (up2 (up2 (up2 g 92 0 (g 103 0)) 93 0 (g 103 4)) 92 1 (g 103 1)) 93 1 (g 103 5)) 92 2 (g 103 2)) 93 2 (g 103 6)) 92 3 (g 103 3)) 103) (cli (k := 7) (a := 8) (ltn rfl) rfl)).trans ((up2_n (up2 (up2 (up2 (up2 (up2 (up2 g 92 0 (g 103 0)) 93 0 (g 103 4)) 92 1 (g 103 1)) 93 1 (g 103 5)) 92 2 (g 103 2)) 93 2 (g 103 6)) (g 103 3) (Or.inl (Nat.ne_of_beq_eq_false rfl))).trans ((up2_n (up2 (up2 (up2 (up2 (up2 g 92 0 (g 103 0)) 93 0 (g 103 4)) 92 1 (g 103 1)) 93 1 (g 103 5)) 92 2 (g 103 2)) (g 103 6) (Or.inl (Nat.ne_of_beq_eq_false rfl))).trans ((up2_n (up2 (up2 (up2 (up2 g 92 0 (g 103 0)) 93 0 (g 103 4)) 92 1 (g 103 1)) 93 1 (g 103 5)) (g 103 2) (Or.inl (Nat.ne_of_beq_eq_false rfl))).trans ((up2_n (up2 (up2 (up2 g 92 0 (g 103 0)) 93 0 (g 103 4)) 92 1 (g 103 1)) (g 103 5) (Or.inl (Nat.ne_of_beq_eq_false rfl))).trans ((up2_n (up2 (up2 g 92 0 (g 103 0)) 93 0 (g 103 4)) (g 103 1) (Or.inl (Nat.ne_of_beq_eq_false rfl))).trans ((up2_n (up2 g 92 0 (g 103 0)) (g 103 4) (Or.inl (Nat.ne_of_beq_eq_false rfl))).trans (up2_n g (g 103 0) (Or.inl (Nat.ne_of_beq_eq_false rfl)))))))))) rfl ?_
  refine go_iastk (pc' := 33) cx 3 dX6_takeBack_32 kq93 (ltn rfl) (vpi (k := 3) (a := 4) (ltn rfl) rfl rfl) (cli (k := 3) (a := 4) (ltn rfl) rfl) rfl ?_
  refine go_iinc (pc' := 36) cx 4 dX6_takeBack_33 rfl rfl (ltn rfl) [(1, .int 4), (0, .ref (E.2.1 88))] rfl rfl ?_
  refine go_goto cx 2 dX6_takeBack_36 rfl ?_
  refine go_iload_n (pc' := 3) cx dX6_takeBack_2 rfl rfl ?_
  refine go_iconst (pc' := 4) cx 4 dX6_takeBack_3 rfl rfl ?_
  refine go_icmp_ge (pc' := 7) cx 39 dX6_takeBack_4 rfl rfl (fun _ => ?_) (fun hh => absurd hh (by decide))
  refine go_vret cx rfl dX6_takeBack_39 ?_
  refine ZV.mk ⟨?_, ?_⟩
  · intro i k q
    rw [up2_n _ _ (by omega), up2_n _ _ (by omega), up2_n _ _ (by omega), up2_n _ _ (by omega), up2_n _ _ (by omega), up2_n _ _ (by omega), up2_n _ _ (by omega), up2_n _ _ (by omega)]
  · intro p hp
    rcases (show p = 0 ∨ p = 1 ∨ p = 2 ∨ p = 3 by omega) with rfl | rfl | rfl | rfl <;> exact ⟨rfl, rfl⟩
