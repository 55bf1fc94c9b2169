/-! THE REFERENCE: a course -/
theorem inX_inI {n : Nat} (hn : n < 1000) (x : Int32) : inX 0 (nI n - 1) x = inI (nI n) x := by
  unfold inX inI
  by_cases h0 : x < 0
  · rw [if_pos h0, if_pos h0]
  · rw [if_neg h0, if_neg h0]
    obtain ⟨j, hj, rfl⟩ := nI_of h0
    cases n with
    | zero =>
      rw [if_pos (show nI 0 - 1 < nI j from Int32.lt_of_lt_of_le (by decide) (nI_pos' hj)), if_pos (show nI 0 ≤ nI j from nI_pos' hj)]
    | succ k =>
      rw [nI_pred]
      by_cases h : k < j
      · rw [if_pos ((nI_ltI (by omega) hj).mpr h), if_pos ((nI_leI (by omega) hj).mpr (by omega))]
      · rw [if_neg (fun q => h ((nI_ltI (by omega) hj).mp q)), if_neg (fun q => h ((nI_leI (by omega) hj).mp q))]
theorem inX_4 (x : Int32) : inX 0 3 x = inI 4 x := inX_inI (n := 4) (by omega) x
/-- the reference's salon -/
def XM (g : IG) (hn vn ru tc : Nat) (CS : CSt) : Prop := (hn ≤ 5 ∧ vn ≤ 8) ∧ g 88 15 = nI hn ∧ g 88 19 = nI vn ∧ Ln (g 92) ∧ HdS (svM g) hn vn ∧ MX g tc ru CS
/-- but for what any asking of the reference may write -/
def FrK (g0 g : IG) : Prop := ∀ i k, ¬ (i = 102 ∨ i = 103 ∨ i = 104 ∨ i = 105 ∨ (i = 88 ∧ (20 ≤ k ∧ k ≤ 37 ∨ k = 39))) → g i k = g0 i k
theorem FrK.rf {g : IG} : FrK g g := fun _ _ _ => rfl
theorem FrK.tr {g0 g g1 : IG} (h : FrK g0 g) (h1 : FrK g g1) : FrK g0 g1 := fun i k q => (h1 i k q).trans (h i k q)
theorem FrS.fk {g0 g : IG} (h : FrS g0 g) : FrK g0 g := fun i k q => h i k (by omega)
theorem FrK.c {g0 g : IG} (h : FrK g0 g) {i : Nat} (h1 : ¬ (102 ≤ i ∧ i ≤ 105)) (h2 : i ≠ 88) : g i = g0 i := funext fun k => h i k (by omega)
theorem FrK.sv {g0 g : IG} (h : FrK g0 g) : svM g = svM g0 := by
  funext w
  unfold svM
  rw [h.c (i := 92) (by omega) (by omega), h.c (i := 93) (by omega) (by omega), h.c (i := 94) (by omega) (by omega), h.c (i := 95) (by omega) (by omega), h.c (i := 96) (by omega) (by omega), h.c (i := 97) (by omega) (by omega), h.c (i := 98) (by omega) (by omega), h.c (i := 99) (by omega) (by omega), h.c (i := 100) (by omega) (by omega), h.c (i := 101) (by omega) (by omega), h 88 10 (by omega)]
theorem MX.fk {g g1 : IG} {tc ru : Nat} {CS : CSt} (h : MX g tc ru CS) (hF : FrK g g1) (hS : SdI g1 tc CS) : MX g1 tc ru CS :=
  ⟨h.1, h.2.1, (hF 88 4 (by omega)).trans h.2.2.1, (hF 88 3 (by omega)).trans h.2.2.2.1, fun t ht => (h.2.2.2.2.1 t ht).fr (hF.c (by omega) (by omega)) (hF.c (by omega) (by omega)), hS⟩
theorem XM.fk {g g1 : IG} {hn vn ru tc : Nat} {CS : CSt} (h : XM g hn vn ru tc CS) (hF : FrK g g1) (hS : SdI g1 tc CS) : XM g1 hn vn ru tc CS :=
  ⟨h.1, (hF 88 15 (by omega)).trans h.2.1, (hF 88 19 (by omega)).trans h.2.2.1, by rw [hF.c (by omega) (by omega)]; exact h.2.2.2.1, by rw [hF.sv]; exact h.2.2.2.2.1, h.2.2.2.2.2.fk hF hS⟩
/-- but for the lengths too -/
def FrD (g0 g : IG) : Prop := ∀ i k, ¬ ((i = 92 ∨ i = 93) ∧ k < 4 ∨ i = 102 ∨ i = 103 ∨ i = 104 ∨ i = 105 ∨ (i = 88 ∧ (20 ≤ k ∧ k ≤ 37 ∨ k = 39))) → g i k = g0 i k
theorem FrD.tr {g0 g g1 : IG} (h : FrD g0 g) (h1 : FrD g g1) : FrD g0 g1 := fun i k q => (h1 i k q).trans (h i k q)
theorem FrC.fd {g0 g : IG} (h : FrC g0 g) : FrD g0 g := fun i k q => h i k (by omega)
theorem FrK.fd {g0 g : IG} (h : FrK g0 g) : FrD g0 g := fun i k q => h i k (by omega)
theorem FrD.c {g0 g : IG} (h : FrD g0 g) {i : Nat} (h1 : ¬ (102 ≤ i ∧ i ≤ 105)) (h2 : i ≠ 88) (h3 : i ≠ 92) (h4 : i ≠ 93) : g i = g0 i := funext fun k => h i k (by omega)
theorem FrD.up {g0 g : IG} {i k : Nat} {v : Int32} (h : FrD g0 g) (hi : ((i = 92 ∨ i = 93) ∧ k < 4) ∨ i = 103 ∨ i = 104 ∨ i = 105 ∨ (i = 88 ∧ k = 39)) : FrD g0 (up2 g i k v) := fun a b q => by
  rw [up2_n _ _ (by omega)]
  exact h a b q
theorem MX.fd {g g1 : IG} {tc ru : Nat} {CS : CSt} (h : MX g tc ru CS) (hF : FrD g g1) (hS : SdI g1 tc CS) : MX g1 tc ru CS :=
  ⟨h.1, h.2.1, (hF 88 4 (by omega)).trans h.2.2.1, (hF 88 3 (by omega)).trans h.2.2.2.1, fun t ht => (h.2.2.2.2.1 t ht).fr (hF.c (by omega) (by omega) (by omega) (by omega)) (hF.c (by omega) (by omega) (by omega) (by omega)), hS⟩
theorem FrD.rv {g G : IG} (h : FrD g G) (v : Nat) : Rv (svM G) (svM g) v := by
  have e : ∀ w, 2 ≤ w → svM G w = svM g w := by
    intro w h1
    unfold svM
    rw [h.c (i := 94) (by omega) (by omega) (by omega) (by omega), h.c (i := 95) (by omega) (by omega) (by omega) (by omega), h.c (i := 96) (by omega) (by omega) (by omega) (by omega), h.c (i := 97) (by omega) (by omega) (by omega) (by omega), h.c (i := 98) (by omega) (by omega) (by omega) (by omega), h.c (i := 99) (by omega) (by omega) (by omega) (by omega), h.c (i := 100) (by omega) (by omega) (by omega) (by omega), h.c (i := 101) (by omega) (by omega) (by omega) (by omega), h 88 10 (by omega)]
    rw [if_neg (show ¬ w = 0 by omega), if_neg (show ¬ w = 1 by omega), if_neg (show ¬ w = 0 by omega), if_neg (show ¬ w = 1 by omega)]
  refine ⟨by rw [e 2 (by omega)]; exact E4.rf, by rw [e 3 (by omega)], by rw [e 7 (by omega)], by rw [e 8 (by omega)], by rw [e 9 (by omega)], fun w hw => by rw [e w (by omega)]⟩
/-- what lies aside -/
def AsD (g G : IG) : Prop := ∀ p, p < 4 → G 103 p = g 92 p ∧ G 103 (4 + p) = g 93 p
theorem AsD.fr {g G G1 : IG} (h : AsD g G) (e : G1 103 = G 103) : AsD g G1 := by
  unfold AsD
  rw [e]
  exact h
/-- a course taken back leaves the salon as it was -/
theorem FrD.k {g G G1 : IG} (h : FrD g G) (hA : AsD g G) (ho : ∀ i k, ¬ ((i = 92 ∨ i = 93) ∧ k < 4) → G1 i k = G i k) (h2 : ∀ p, p < 4 → G1 92 p = G 103 p ∧ G1 93 p = G 103 (4 + p)) : FrK g G1 := by
  intro i k q
  by_cases h9 : (i = 92 ∨ i = 93) ∧ k < 4
  · obtain ⟨rfl | rfl, hk⟩ := h9
    · exact (h2 k hk).1.trans (hA k hk).1
    · exact (h2 k hk).2.trans (hA k hk).2
  · rw [ho i k h9]
    exact h i k (by omega)
/-- what a course leaves behind it -/
def CWm (M : TM) (a : Sv) (G : IG) (n : Nat) : Prop := ∀ v, v < n → E4 (fun p => G 104 (4 * v + p)) (crs M a (v + 1)).1 ∧ G 105 v = OFs M a v
def CIm (M : TM) (a : Sv) (g G : IG) (n : Nat) : Prop := FrD g G ∧ AsD g G ∧ E4 (G 92) (crs M a n).1 ∧ E4 (G 93) (crs M a n).2 ∧ CWm M a G n ∧ G 88 39 = sumI (CTs M a) n ∧ Ln (G 92)
theorem E4.ln {L L' : Nat → Int32} (h : E4 L L') (hL : Ln L) : Ln L' := fun p hp => by
  rw [← h p hp]
  exact hL p hp
theorem inX_z (lo hi x : Int32) : inX lo hi x = 0 ∨ inX lo hi x = 1 := by
  unfold inX
  split
  · exact Or.inl rfl
  · split
    · exact Or.inl rfl
    · exact Or.inr rfl
theorem CWm.fr {M : TM} {a : Sv} {G G1 : IG} {n : Nat} (h : CWm M a G n) (h1 : G1 104 = G 104) (h2 : G1 105 = G 105) : CWm M a G1 n := by
  unfold CWm
  rw [h1, h2]
  exact h
/-- a visit more -/
theorem CIm_step {M : TM} {g G G1 GA G2 : IG} {v : Nat} {x : Int32} (h : CIm M (svM g) g G v) (f1 : FrC G G1) (r1 : G1 92 = stL M (svM G) v (G 92) (G 93)) (e1 : E4 (G1 93) (G1 92)) (y1 : G1 88 39 = G 88 39 + ctA M (svM G) v (G 92) (G 93)) (n1 : Ln (G1 92))
    (hA : ∀ i k, i ≠ 104 → GA i k = G1 i k) (hA1 : ∀ k, k < 4 * v → GA 104 k = G1 104 k) (hA2 : ∀ p, p < 4 → GA 104 (4 * v + p) = G1 92 p) (hFA : FrD g GA) (x2 : x = ofA M (svM GA) (GA 92) (GA 93)) (f2 : FrS GA G2) : x = OFs M (svM g) v ∧ CIm M (svM g) g (up2 G2 105 v x) (v + 1) := by
  obtain ⟨hF, hA0, h92, h93, hC, hc, hn⟩ := h
  have hL1 : E4 (G1 92) (crs M (svM g) (v + 1)).1 := by
    rw [r1, crs_s1]
    exact stL_E4 (hF.rv v) h92 h93
  have hL2 : E4 (G1 93) (crs M (svM g) (v + 1)).2 := by
    rw [crs_s2]
    exact e1.tr hL1
  have a92 : GA 92 = G1 92 := funext fun k => hA 92 k (by omega)
  have a93 : GA 93 = G1 93 := funext fun k => hA 93 k (by omega)
  have hx : x = OFs M (svM g) v := by
    rw [x2]
    exact ofA_E4 (hFA.rv v).1 (by rw [a92]; exact hL1) (by rw [a93]; exact hL2)
  have g92 : up2 G2 105 v x 92 = G1 92 := by rw [up2_rn _ _ _ (by omega), f2.c (by omega) (by omega), a92]
  have g93 : up2 G2 105 v x 93 = G1 93 := by rw [up2_rn _ _ _ (by omega), f2.c (by omega) (by omega), a93]
  have e104 : up2 G2 105 v x 104 = GA 104 := by rw [up2_rn _ _ _ (by omega), f2.c (by omega) (by omega)]
  have c39 : up2 G2 105 v x 88 39 = sumI (CTs M (svM g)) (v + 1) := by
    rw [up2_n _ _ (Or.inl (by omega)), f2 88 39 (by omega), hA 88 39 (by omega), y1, hc, ctA_E4 (hF.rv v) h92 h93]
    rfl
  refine ⟨hx, (hFA.tr f2.fk.fd).up (by omega), hA0.fr ?_, ?_, ?_, ?_, c39, ?_⟩
  · rw [up2_rn _ _ _ (by omega), f2.c (by omega) (by omega), show GA 103 = G1 103 from funext fun k => hA 103 k (by omega)]
    exact f1.c (by omega) (by omega) (by omega) (by omega)
  · rw [g92]
    exact hL1
  · rw [g93]
    exact hL2
  · intro u hu
    by_cases e : u = v
    · subst e
      refine ⟨fun p hp => ?_, ?_⟩
      · show up2 G2 105 u x 104 (4 * u + p) = _
        rw [e104, hA2 p hp]
        exact hL1 p hp
      · rw [up2_s]
        exact hx
    · obtain ⟨c1, c2⟩ := hC u (by omega)
      refine ⟨fun p hp => ?_, ?_⟩
      · show up2 G2 105 v x 104 (4 * u + p) = _
        rw [e104, hA1 _ (by omega), f1.c (by omega) (by omega) (by omega) (by omega)]
        exact c1 p hp
      · rw [up2_n _ _ (Or.inr e), f2.c (by omega) (by omega), hA 105 u (by omega), f1.c (by omega) (by omega) (by omega) (by omega)]
        exact c2
  · rw [g92]
    exact n1

set_option maxHeartbeats 1000000 in
set_option maxRecDepth 20000 in
theorem c_X6_isVisit (l : Launch) (E : Ev) {g : IG} {o : Option Nat} {z : Int64} {vn : Nat} (hvn : g 88 19 = nI vn) (hb : vn < 1000) (x1 : Int32) : Ct l E 115 yX6_isVisit cX6_isVisit 2 (some .boolean) 2 [.ref (E.2.1 88), .int x1] g (RFo o) z (Zi (RFo o) z (inI (nI vn) x1) g) := by
  refine Ct.of (lv0 := [(0, .ref (E.2.1 88)), (1, .int x1)]) (by decide) (Nat.le_of_ble_eq_true rfl) rfl ?_
  intro p e s m below meth c cx
  refine go_iload_n (pc' := 1) cx dX6_isVisit_0 rfl rfl ?_
  refine go_i2l (pc' := 2) cx dX6_isVisit_1 rfl ?_
  refine go_lconst (pc' := 3) cx 0 dX6_isVisit_2 rfl rfl ?_
  refine go_val (w := .long (((0 : Int32)).toInt64)) (congrArg Value.long (by decide)) ?_
  refine go_aload_n (pc' := 4) cx dX6_isVisit_3 rfl rfl ?_
  refine go_geti (pc' := 7) cx (nI vn) fX6_115 dX6_isVisit_4 kq88 (ltn rfl) (ltn rfl) rfl hvn rfl ?_
  refine go_iconst (pc' := 8) cx 1 dX6_isVisit_7 rfl rfl ?_
  refine go_isub (pc' := 9) cx dX6_isVisit_8 rfl ?_
  refine go_i2l (pc' := 10) cx dX6_isVisit_9 rfl ?_
  refine go_cSi (pc' := 13) cx (c_X6_in l E (g := g) x1 (0 : Int32) ((nI vn) - 1)) mX6_in lX6_108 dX6_isVisit_10 rfl rfl rfl (ltn rfl) (Nat.le_of_ble_eq_true rfl) (Nat.le_of_ble_eq_true rfl) rfl ?_
  refine go_zret cx (inX_z _ _ _) rfl dX6_isVisit_13 ?_
  exact Zi.mk (inX_inI hb x1) rfl

set_option maxHeartbeats 1000000 in
set_option maxRecDepth 20000 in
theorem c_X6_isHand (l : Launch) (E : Ev) {g : IG} {o : Option Nat} {z : Int64} {hn : Nat} (hhn : g 88 15 = nI hn) (hb : hn < 1000) (x1 : Int32) : Ct l E 115 yX6_isHand cX6_isHand 2 (some .boolean) 2 [.ref (E.2.1 88), .int x1] g (RFo o) z (Zi (RFo o) z (inI (nI hn) x1) g) := by
  refine Ct.of (lv0 := [(0, .ref (E.2.1 88)), (1, .int x1)]) (by decide) (Nat.le_of_ble_eq_true rfl) rfl ?_
  intro p e s m below meth c cx
  refine go_iload_n (pc' := 1) cx dX6_isHand_0 rfl rfl ?_
  refine go_i2l (pc' := 2) cx dX6_isHand_1 rfl ?_
  refine go_lconst (pc' := 3) cx 0 dX6_isHand_2 rfl rfl ?_
  refine go_val (w := .long (((0 : Int32)).toInt64)) (congrArg Value.long (by decide)) ?_
  refine go_aload_n (pc' := 4) cx dX6_isHand_3 rfl rfl ?_
  refine go_geti (pc' := 7) cx (nI hn) fX6_112 dX6_isHand_4 kq88 (ltn rfl) (ltn rfl) rfl hhn rfl ?_
  refine go_iconst (pc' := 8) cx 1 dX6_isHand_7 rfl rfl ?_
  refine go_isub (pc' := 9) cx dX6_isHand_8 rfl ?_
  refine go_i2l (pc' := 10) cx dX6_isHand_9 rfl ?_
  refine go_cSi (pc' := 13) cx (c_X6_in l E (g := g) x1 (0 : Int32) ((nI hn) - 1)) mX6_in lX6_108 dX6_isHand_10 rfl rfl rfl (ltn rfl) (Nat.le_of_ble_eq_true rfl) (Nat.le_of_ble_eq_true rfl) rfl ?_
  refine go_zret cx (inX_z _ _ _) rfl dX6_isHand_13 ?_
  exact Zi.mk (inX_inI hb x1) rfl

set_option maxHeartbeats 1000000 in
set_option maxRecDepth 20000 in
theorem c_X6_isPlace (l : Launch) (E : Ev) {g : IG} {o : Option Nat} {z : Int64} (x1 : Int32) : Ct l E 115 yX6_isPlace cX6_isPlace 1 (some .boolean) 2 [.int x1] g (RFo o) z (Zi (RFo o) z (inI 4 x1) g) := by
  refine Ct.of (lv0 := [(0, .int x1)]) (by decide) (Nat.le_of_ble_eq_true rfl) rfl ?_
  intro p e s m below meth c cx
  refine go_iload_n (pc' := 1) cx dX6_isPlace_0 rfl rfl ?_
  refine go_i2l (pc' := 2) cx dX6_isPlace_1 rfl ?_
  refine go_lconst (pc' := 3) cx 0 dX6_isPlace_2 rfl rfl ?_
  refine go_val (w := .long (((0 : Int32)).toInt64)) (congrArg Value.long (by decide)) ?_
  refine go_ldc2 (pc' := 6) cx 3 kX6_106 dX6_isPlace_3 rfl ?_
  refine go_val (w := .long (((3 : Int32)).toInt64)) (congrArg Value.long (by decide)) ?_
  refine go_cSi (pc' := 9) cx (c_X6_in l E (g := g) x1 (0 : Int32) (3 : Int32)) mX6_in lX6_108 dX6_isPlace_6 rfl rfl rfl (ltn rfl) (Nat.le_of_ble_eq_true rfl) (Nat.le_of_ble_eq_true rfl) rfl ?_
  refine go_zret cx (inX_z _ _ _) rfl dX6_isPlace_9 ?_
  exact Zi.mk (inX_4 x1) rfl

set_option maxHeartbeats 1000000 in
set_option maxRecDepth 20000 in
theorem c_X6_offNow (l : Launch) (E : Ev) {g : IG} {o : Option Nat} {z : Int64} {tc ru : Nat} {CS : CSt} (hX : MX g tc ru CS)  : Ct l E 115 yX6_offNow cX6_offNow 3 (some .int) 46 [.ref (E.2.1 88)] g (RFo o) z (ZIz (RFo o) (fun x g1 z1 => x = ofA (TMx CS ru) (svM g) (g 92) (g 93) ∧ FrS g g1 ∧ SdI g1 tc CS)) := by
  refine Ct.of (lv0 := [(0, .ref (E.2.1 88))]) (by decide) (Nat.le_of_ble_eq_true rfl) rfl ?_
  intro p e s m below meth c cx
  refine go_iconst (pc' := 1) cx 0 dX6_offNow_0 rfl rfl ?_
  refine go_istore_n (pc' := 2) cx dX6_offNow_1 (ltn rfl) [(1, .int 0), (0, .ref (E.2.1 88))] rfl rfl ?_
  refine go_iconst (pc' := 3) cx 0 dX6_offNow_2 rfl rfl ?_
  refine go_istore_n (pc' := 4) cx dX6_offNow_3 (ltn rfl) [(2, .int 0), (1, .int 0), (0, .ref (E.2.1 88))] rfl rfl ?_
  refine go_iload_n (pc' := 5) cx dX6_offNow_4 rfl rfl ?_
  refine go_iconst (pc' := 6) cx 4 dX6_offNow_5 rfl rfl ?_
  refine go_icmp_ge (pc' := 9) cx 43 dX6_offNow_6 rfl rfl (fun hh => absurd hh (by decide)) (fun _ => ?_)
  refine go_iload_n (pc' := 10) cx dX6_offNow_9 rfl rfl ?_
  refine go_aload_n (pc' := 11) cx dX6_offNow_10 rfl rfl ?_
  refine go_getr (pc' := 14) cx 92 fX6_23 dX6_offNow_11 kq88 (ltn rfl) (ltn rfl) rfl rfl rfl ?_
  refine go_iload_n (pc' := 15) cx dX6_offNow_14 rfl rfl ?_
  refine go_iald (pc' := 16) cx (g 92 0) dX6_offNow_15 kq92 (ltn rfl) (vpi (k := 0) (a := 1) (ltn rfl) rfl rfl) (congrArg (g 92) (cli (k := 0) (a := 1) (ltn rfl) rfl)) rfl ?_
  refine go_aload_n (pc' := 17) cx dX6_offNow_16 rfl rfl ?_
  refine go_getr (pc' := 20) cx 94 fX6_29 dX6_offNow_17 kq88 (ltn rfl) (ltn rfl) rfl rfl rfl ?_
  refine go_iload_n (pc' := 21) cx dX6_offNow_20 rfl rfl ?_
  refine go_iald (pc' := 22) cx (g 94 0) dX6_offNow_21 kq94 (ltn rfl) (vpi (k := 0) (a := 1) (ltn rfl) rfl rfl) (congrArg (g 94) (cli (k := 0) (a := 1) (ltn rfl) rfl)) rfl ?_
  refine go_isub (pc' := 23) cx dX6_offNow_22 rfl ?_
  refine go_cSi (pc' := 26) cx (c_X6_plain l E (g := g) ((g 92 0) - (g 94 0))) mX6_plain lX6_392 dX6_offNow_23 rfl rfl rfl (ltn rfl) (Nat.le_of_ble_eq_true rfl) (Nat.le_of_ble_eq_true rfl) rfl ?_
  refine go_aload_n (pc' := 27) cx dX6_offNow_26 rfl rfl ?_
  refine go_iconst (pc' := 28) cx 2 dX6_offNow_27 rfl rfl ?_
  refine go_iload_n (pc' := 29) cx dX6_offNow_28 rfl rfl ?_
  refine go_iconst (pc' := 30) cx 0 dX6_offNow_29 rfl rfl ?_
  refine go_iconst (pc' := 31) cx 0 dX6_offNow_30 rfl rfl ?_
  refine go_cVIz (pc' := 34) cx (c_X6_says l E (g := g) (hX.fr FrS.rf hX.2.2.2.2.2) (wh := 2) (pl := 0) (by omega) (by omega) 0 0) mX6_says lX6_395 dX6_offNow_31 kq88 (ltn rfl) (ltn rfl) rfl rfl rfl rfl (ltn rfl) (Nat.le_of_ble_eq_true rfl) (Nat.le_of_ble_eq_true rfl) rfl (fun xo0 Go0 zo0 ho0 => ?_)
  obtain ⟨eo0, hFo0, hSo0⟩ := ho0
  have hTo0 : FrS g Go0 := hFo0
  have ko0 : xo0 = TMx CS ru 2 (nmV (g 92 0) (g 93 0) (g 94 0) 0 (nI 0) 0) := by
    rw [eo0]
    rfl
  refine go_imul (pc' := 35) cx dX6_offNow_34 rfl ?_
  refine go_iadd (pc' := 36) cx dX6_offNow_35 rfl ?_
  refine go_istore_n (pc' := 37) cx dX6_offNow_36 (ltn rfl) [(1, .int (0 + ((plnF ((g 92 0) - (g 94 0))) * xo0))), (2, .int 0), (0, .ref (E.2.1 88))] rfl rfl ?_
  refine go_iinc (pc' := 40) cx 1 dX6_offNow_37 rfl rfl (ltn rfl) [(2, .int 1), (1, .int (0 + ((plnF ((g 92 0) - (g 94 0))) * xo0))), (0, .ref (E.2.1 88))] rfl rfl ?_
  refine go_goto cx 4 dX6_offNow_40 rfl ?_
  refine go_iload_n (pc' := 5) cx dX6_offNow_4 rfl rfl ?_
  refine go_iconst (pc' := 6) cx 4 dX6_offNow_5 rfl rfl ?_
  refine go_icmp_ge (pc' := 9) cx 43 dX6_offNow_6 rfl rfl (fun hh => absurd hh (by decide)) (fun _ => ?_)
  refine go_iload_n (pc' := 10) cx dX6_offNow_9 rfl rfl ?_
  refine go_aload_n (pc' := 11) cx dX6_offNow_10 rfl rfl ?_
  refine go_getr (pc' := 14) cx 92 fX6_23 dX6_offNow_11 kq88 (ltn rfl) (ltn rfl) rfl rfl rfl ?_
  refine go_iload_n (pc' := 15) cx dX6_offNow_14 rfl rfl ?_
  refine go_iald (pc' := 16) cx (g 92 1) dX6_offNow_15 kq92 (ltn rfl) (vpi (k := 1) (a := 2) (ltn rfl) rfl rfl) ((congrArg (Go0 92) (cli (k := 1) (a := 2) (ltn rfl) rfl)).trans (hTo0 92 1 (by omega))) rfl ?_
  refine go_aload_n (pc' := 17) cx dX6_offNow_16 rfl rfl ?_
  refine go_getr (pc' := 20) cx 94 fX6_29 dX6_offNow_17 kq88 (ltn rfl) (ltn rfl) rfl rfl rfl ?_
  refine go_iload_n (pc' := 21) cx dX6_offNow_20 rfl rfl ?_
  refine go_iald (pc' := 22) cx (g 94 1) dX6_offNow_21 kq94 (ltn rfl) (vpi (k := 1) (a := 2) (ltn rfl) rfl rfl) ((congrArg (Go0 94) (cli (k := 1) (a := 2) (ltn rfl) rfl)).trans (hTo0 94 1 (by omega))) rfl ?_
  refine go_isub (pc' := 23) cx dX6_offNow_22 rfl ?_
  refine go_cSi (pc' := 26) cx (c_X6_plain l E (g := Go0) ((g 92 1) - (g 94 1))) mX6_plain lX6_392 dX6_offNow_23 rfl rfl rfl (ltn rfl) (Nat.le_of_ble_eq_true rfl) (Nat.le_of_ble_eq_true rfl) rfl ?_
  refine go_aload_n (pc' := 27) cx dX6_offNow_26 rfl rfl ?_
  refine go_iconst (pc' := 28) cx 2 dX6_offNow_27 rfl rfl ?_
  refine go_iload_n (pc' := 29) cx dX6_offNow_28 rfl rfl ?_
  refine go_iconst (pc' := 30) cx 0 dX6_offNow_29 rfl rfl ?_
  refine go_iconst (pc' := 31) cx 0 dX6_offNow_30 rfl rfl ?_
  refine go_cVIz (pc' := 34) cx (c_X6_says l E (g := Go0) (hX.fr hTo0 hSo0) (wh := 2) (pl := 1) (by omega) (by omega) 0 0) mX6_says lX6_395 dX6_offNow_31 kq88 (ltn rfl) (ltn rfl) rfl rfl rfl rfl (ltn rfl) (Nat.le_of_ble_eq_true rfl) (Nat.le_of_ble_eq_true rfl) rfl (fun xo1 Go1 zo1 ho1 => ?_)
  obtain ⟨eo1, hFo1, hSo1⟩ := ho1
  have hTo1 : FrS g Go1 := hTo0.tr hFo1
  have ko1 : xo1 = TMx CS ru 2 (nmV (g 92 1) (g 93 1) (g 94 1) 0 (nI 1) 0) := by
    rw [eo1, hTo0 92 1 (by omega), hTo0 93 1 (by omega), hTo0 94 1 (by omega)]
    rfl
  refine go_imul (pc' := 35) cx dX6_offNow_34 rfl ?_
  refine go_iadd (pc' := 36) cx dX6_offNow_35 rfl ?_
  refine go_istore_n (pc' := 37) cx dX6_offNow_36 (ltn rfl) [(1, .int ((0 + ((plnF ((g 92 0) - (g 94 0))) * xo0)) + ((plnF ((g 92 1) - (g 94 1))) * xo1))), (2, .int 1), (0, .ref (E.2.1 88))] rfl rfl ?_
  refine go_iinc (pc' := 40) cx 2 dX6_offNow_37 rfl rfl (ltn rfl) [(2, .int 2), (1, .int ((0 + ((plnF ((g 92 0) - (g 94 0))) * xo0)) + ((plnF ((g 92 1) - (g 94 1))) * xo1))), (0, .ref (E.2.1 88))] rfl rfl ?_
  refine go_goto cx 4 dX6_offNow_40 rfl ?_
  refine go_iload_n (pc' := 5) cx dX6_offNow_4 rfl rfl ?_
  refine go_iconst (pc' := 6) cx 4 dX6_offNow_5 rfl rfl ?_
  refine go_icmp_ge (pc' := 9) cx 43 dX6_offNow_6 rfl rfl (fun hh => absurd hh (by decide)) (fun _ => ?_)
  refine go_iload_n (pc' := 10) cx dX6_offNow_9 rfl rfl ?_
  refine go_aload_n (pc' := 11) cx dX6_offNow_10 rfl rfl ?_
  refine go_getr (pc' := 14) cx 92 fX6_23 dX6_offNow_11 kq88 (ltn rfl) (ltn rfl) rfl rfl rfl ?_
  refine go_iload_n (pc' := 15) cx dX6_offNow_14 rfl rfl ?_
  refine go_iald (pc' := 16) cx (g 92 2) dX6_offNow_15 kq92 (ltn rfl) (vpi (k := 2) (a := 3) (ltn rfl) rfl rfl) ((congrArg (Go1 92) (cli (k := 2) (a := 3) (ltn rfl) rfl)).trans (hTo1 92 2 (by omega))) rfl ?_
  refine go_aload_n (pc' := 17) cx dX6_offNow_16 rfl rfl ?_
  refine go_getr (pc' := 20) cx 94 fX6_29 dX6_offNow_17 kq88 (ltn rfl) (ltn rfl) rfl rfl rfl ?_
  refine go_iload_n (pc' := 21) cx dX6_offNow_20 rfl rfl ?_
  refine go_iald (pc' := 22) cx (g 94 2) dX6_offNow_21 kq94 (ltn rfl) (vpi (k := 2) (a := 3) (ltn rfl) rfl rfl) ((congrArg (Go1 94) (cli (k := 2) (a := 3) (ltn rfl) rfl)).trans (hTo1 94 2 (by omega))) rfl ?_
  refine go_isub (pc' := 23) cx dX6_offNow_22 rfl ?_
  refine go_cSi (pc' := 26) cx (c_X6_plain l E (g := Go1) ((g 92 2) - (g 94 2))) mX6_plain lX6_392 dX6_offNow_23 rfl rfl rfl (ltn rfl) (Nat.le_of_ble_eq_true rfl) (Nat.le_of_ble_eq_true rfl) rfl ?_
  refine go_aload_n (pc' := 27) cx dX6_offNow_26 rfl rfl ?_
  refine go_iconst (pc' := 28) cx 2 dX6_offNow_27 rfl rfl ?_
  refine go_iload_n (pc' := 29) cx dX6_offNow_28 rfl rfl ?_
  refine go_iconst (pc' := 30) cx 0 dX6_offNow_29 rfl rfl ?_
  refine go_iconst (pc' := 31) cx 0 dX6_offNow_30 rfl rfl ?_
  refine go_cVIz (pc' := 34) cx (c_X6_says l E (g := Go1) (hX.fr hTo1 hSo1) (wh := 2) (pl := 2) (by omega) (by omega) 0 0) mX6_says lX6_395 dX6_offNow_31 kq88 (ltn rfl) (ltn rfl) rfl rfl rfl rfl (ltn rfl) (Nat.le_of_ble_eq_true rfl) (Nat.le_of_ble_eq_true rfl) rfl (fun xo2 Go2 zo2 ho2 => ?_)
  obtain ⟨eo2, hFo2, hSo2⟩ := ho2
  have hTo2 : FrS g Go2 := hTo1.tr hFo2
  have ko2 : xo2 = TMx CS ru 2 (nmV (g 92 2) (g 93 2) (g 94 2) 0 (nI 2) 0) := by
    rw [eo2, hTo1 92 2 (by omega), hTo1 93 2 (by omega), hTo1 94 2 (by omega)]
    rfl
  refine go_imul (pc' := 35) cx dX6_offNow_34 rfl ?_
  refine go_iadd (pc' := 36) cx dX6_offNow_35 rfl ?_
  refine go_istore_n (pc' := 37) cx dX6_offNow_36 (ltn rfl) [(1, .int (((0 + ((plnF ((g 92 0) - (g 94 0))) * xo0)) + ((plnF ((g 92 1) - (g 94 1))) * xo1)) + ((plnF ((g 92 2) - (g 94 2))) * xo2))), (2, .int 2), (0, .ref (E.2.1 88))] rfl rfl ?_
  refine go_iinc (pc' := 40) cx 3 dX6_offNow_37 rfl rfl (ltn rfl) [(2, .int 3), (1, .int (((0 + ((plnF ((g 92 0) - (g 94 0))) * xo0)) + ((plnF ((g 92 1) - (g 94 1))) * xo1)) + ((plnF ((g 92 2) - (g 94 2))) * xo2))), (0, .ref (E.2.1 88))] rfl rfl ?_
  refine go_goto cx 4 dX6_offNow_40 rfl ?_
  refine go_iload_n (pc' := 5) cx dX6_offNow_4 rfl rfl ?_
  refine go_iconst (pc' := 6) cx 4 dX6_offNow_5 rfl rfl ?_
  refine go_icmp_ge (pc' := 9) cx 43 dX6_offNow_6 rfl rfl (fun hh => absurd hh (by decide)) (fun _ => ?_)
  refine go_iload_n (pc' := 10) cx dX6_offNow_9 rfl rfl ?_
  refine go_aload_n (pc' := 11) cx dX6_offNow_10 rfl rfl ?_
  refine go_getr (pc' := 14) cx 92 fX6_23 dX6_offNow_11 kq88 (ltn rfl) (ltn rfl) rfl rfl rfl ?_
  refine go_iload_n (pc' := 15) cx dX6_offNow_14 rfl rfl ?_
  refine go_iald (pc' := 16) cx (g 92 3) dX6_offNow_15 kq92 (ltn rfl) (vpi (k := 3) (a := 4) (ltn rfl) rfl rfl) ((congrArg (Go2 92) (cli (k := 3) (a := 4) (ltn rfl) rfl)).trans (hTo2 92 3 (by omega))) rfl ?_
  refine go_aload_n (pc' := 17) cx dX6_offNow_16 rfl rfl ?_
  refine go_getr (pc' := 20) cx 94 fX6_29 dX6_offNow_17 kq88 (ltn rfl) (ltn rfl) rfl rfl rfl ?_
  refine go_iload_n (pc' := 21) cx dX6_offNow_20 rfl rfl ?_
  refine go_iald (pc' := 22) cx (g 94 3) dX6_offNow_21 kq94 (ltn rfl) (vpi (k := 3) (a := 4) (ltn rfl) rfl rfl) ((congrArg (Go2 94) (cli (k := 3) (a := 4) (ltn rfl) rfl)).trans (hTo2 94 3 (by omega))) rfl ?_
  refine go_isub (pc' := 23) cx dX6_offNow_22 rfl ?_
  refine go_cSi (pc' := 26) cx (c_X6_plain l E (g := Go2) ((g 92 3) - (g 94 3))) mX6_plain lX6_392 dX6_offNow_23 rfl rfl rfl (ltn rfl) (Nat.le_of_ble_eq_true rfl) (Nat.le_of_ble_eq_true rfl) rfl ?_
  refine go_aload_n (pc' := 27) cx dX6_offNow_26 rfl rfl ?_
  refine go_iconst (pc' := 28) cx 2 dX6_offNow_27 rfl rfl ?_
  refine go_iload_n (pc' := 29) cx dX6_offNow_28 rfl rfl ?_
  refine go_iconst (pc' := 30) cx 0 dX6_offNow_29 rfl rfl ?_
  refine go_iconst (pc' := 31) cx 0 dX6_offNow_30 rfl rfl ?_
  refine go_cVIz (pc' := 34) cx (c_X6_says l E (g := Go2) (hX.fr hTo2 hSo2) (wh := 2) (pl := 3) (by omega) (by omega) 0 0) mX6_says lX6_395 dX6_offNow_31 kq88 (ltn rfl) (ltn rfl) rfl rfl rfl rfl (ltn rfl) (Nat.le_of_ble_eq_true rfl) (Nat.le_of_ble_eq_true rfl) rfl (fun xo3 Go3 zo3 ho3 => ?_)
  obtain ⟨eo3, hFo3, hSo3⟩ := ho3
  have hTo3 : FrS g Go3 := hTo2.tr hFo3
  have ko3 : xo3 = TMx CS ru 2 (nmV (g 92 3) (g 93 3) (g 94 3) 0 (nI 3) 0) := by
    rw [eo3, hTo2 92 3 (by omega), hTo2 93 3 (by omega), hTo2 94 3 (by omega)]
    rfl
  refine go_imul (pc' := 35) cx dX6_offNow_34 rfl ?_
  refine go_iadd (pc' := 36) cx dX6_offNow_35 rfl ?_
  refine go_istore_n (pc' := 37) cx dX6_offNow_36 (ltn rfl) [(1, .int ((((0 + ((plnF ((g 92 0) - (g 94 0))) * xo0)) + ((plnF ((g 92 1) - (g 94 1))) * xo1)) + ((plnF ((g 92 2) - (g 94 2))) * xo2)) + ((plnF ((g 92 3) - (g 94 3))) * xo3))), (2, .int 3), (0, .ref (E.2.1 88))] rfl rfl ?_
  refine go_iinc (pc' := 40) cx 4 dX6_offNow_37 rfl rfl (ltn rfl) [(2, .int 4), (1, .int ((((0 + ((plnF ((g 92 0) - (g 94 0))) * xo0)) + ((plnF ((g 92 1) - (g 94 1))) * xo1)) + ((plnF ((g 92 2) - (g 94 2))) * xo2)) + ((plnF ((g 92 3) - (g 94 3))) * xo3))), (0, .ref (E.2.1 88))] rfl rfl ?_
  refine go_goto cx 4 dX6_offNow_40 rfl ?_
  refine go_iload_n (pc' := 5) cx dX6_offNow_4 rfl rfl ?_
  refine go_iconst (pc' := 6) cx 4 dX6_offNow_5 rfl rfl ?_
  refine go_icmp_ge (pc' := 9) cx 43 dX6_offNow_6 rfl rfl (fun _ => ?_) (fun hh => absurd hh (by decide))
  refine go_iload_n (pc' := 44) cx dX6_offNow_43 rfl rfl ?_
  refine go_iret cx rfl dX6_offNow_44 ?_
  refine ZIz.mk ⟨?_, hTo3, hSo3⟩
  unfold ofA
  simp only [offS]
  rw [ko0, ko1, ko2, ko3]
  simp only [pl_ab]
  rfl

set_option maxHeartbeats 1000000 in
set_option maxRecDepth 20000 in
theorem c_X6_layAside (l : Launch) (E : Ev) {g : IG} {o : Option Nat} {z : Int64}  : Ct l E 115 yX6_layAside cX6_layAside 2 none 1 [.ref (E.2.1 88)] g (RFo o) z (ZV (RFo o) z (fun g1 => (∀ i k, ¬ (i = 103 ∨ (i = 88 ∧ k = 39)) → g1 i k = g i k) ∧ AsD g g1 ∧ g1 88 39 = 0)) := by
  refine Ct.of (lv0 := [(0, .ref (E.2.1 88))]) (by decide) (Nat.le_of_ble_eq_true rfl) rfl ?_
  intro p e s m below meth c cx
  refine go_iconst (pc' := 1) cx 0 dX6_layAside_0 rfl rfl ?_
  refine go_istore_n (pc' := 2) cx dX6_layAside_1 (ltn rfl) [(1, .int 0), (0, .ref (E.2.1 88))] rfl rfl ?_
  refine go_iload_n (pc' := 3) cx dX6_layAside_2 rfl rfl ?_
  refine go_iconst (pc' := 4) cx 4 dX6_layAside_3 rfl rfl ?_
  refine go_icmp_ge (pc' := 7) cx 39 dX6_layAside_4 rfl rfl (fun hh => absurd hh (by decide)) (fun _ => ?_)
  refine go_aload_n (pc' := 8) cx dX6_layAside_7 rfl rfl ?_
  refine go_getr (pc' := 11) cx 103 fX6_59 dX6_layAside_8 kq88 (ltn rfl) (ltn rfl) rfl rfl rfl ?_
  refine go_iload_n (pc' := 12) cx dX6_layAside_11 rfl rfl ?_
  refine go_aload_n (pc' := 13) cx dX6_layAside_12 rfl rfl ?_
  refine go_getr (pc' := 16) cx 92 fX6_23 dX6_layAside_13 kq88 (ltn rfl) (ltn rfl) rfl rfl rfl ?_
  refine go_iload_n (pc' := 17) cx dX6_layAside_16 rfl rfl ?_
  refine go_iald (pc' := 18) cx (g 92 0) dX6_layAside_17 kq92 (ltn rfl) (vpi (k := 0) (a := 1) (ltn rfl) rfl rfl) (congrArg (g 92) (cli (k := 0) (a := 1) (ltn rfl) rfl)) rfl ?_
  refine go_iastk (pc' := 19) cx 0 dX6_layAside_18 kq103 (ltn rfl) (vpi (k := 0) (a := 1) (ltn rfl) rfl rfl) (cli (k := 0) (a := 1) (ltn rfl) rfl) rfl ?_
  refine go_aload_n (pc' := 20) cx dX6_layAside_19 rfl rfl ?_
  refine go_getr (pc' := 23) cx 103 fX6_59 dX6_layAside_20 kq88 (ltn rfl) (ltn rfl) rfl rfl rfl ?_
  refine go_iconst (pc' := 24) cx 4 dX6_layAside_23 rfl rfl ?_
  refine go_iload_n (pc' := 25) cx dX6_layAside_24 rfl rfl ?_
  refine go_iadd (pc' := 26) cx dX6_layAside_25 rfl ?_
  refine go_val (w := .int 4) (congrArg Value.int (by decide)) ?_
  refine go_aload_n (pc' := 27) cx dX6_layAside_26 rfl rfl ?_
  refine go_getr (pc' := 30) cx 93 fX6_26 dX6_layAside_27 kq88 (ltn rfl) (ltn rfl) rfl rfl rfl ?_
  refine go_iload_n (pc' := 31) cx dX6_layAside_30 rfl rfl ?_
  refine go_iald (pc' := 32) cx (g 93 0) dX6_layAside_31 kq93 (ltn rfl) (vpi (k := 0) (a := 1) (ltn rfl) rfl rfl) ((congrArg ((up2 g 103 0 (g 92 0)) 93) (cli (k := 0) (a := 1) (ltn rfl) rfl)).trans (up2_n g (g 92 0) (Or.inl (Nat.ne_of_beq_eq_false rfl)))) rfl ?_
  refine go_iastk (pc' := 33) cx 4 dX6_layAside_32 kq103 (ltn rfl) (vpi (k := 4) (a := 5) (ltn rfl) rfl rfl) (cli (k := 4) (a := 5) (ltn rfl) rfl) rfl ?_
  refine go_iinc (pc' := 36) cx 1 dX6_layAside_33 rfl rfl (ltn rfl) [(1, .int 1), (0, .ref (E.2.1 88))] rfl rfl ?_
  refine go_goto cx 2 dX6_layAside_36 rfl ?_
  refine go_iload_n (pc' := 3) cx dX6_layAside_2 rfl rfl ?_
  refine go_iconst (pc' := 4) cx 4 dX6_layAside_3 rfl rfl ?_
  refine go_icmp_ge (pc' := 7) cx 39 dX6_layAside_4 rfl rfl (fun hh => absurd hh (by decide)) (fun _ => ?_)
  refine go_aload_n (pc' := 8) cx dX6_layAside_7 rfl rfl ?_
  refine go_getr (pc' := 11) cx 103 fX6_59 dX6_layAside_8 kq88 (ltn rfl) (ltn rfl) rfl rfl rfl ?_
  refine go_iload_n (pc' := 12) cx dX6_layAside_11 rfl rfl ?_
  refine go_aload_n (pc' := 13) cx dX6_layAside_12 rfl rfl ?_
  refine go_getr (pc' := 16) cx 92 fX6_23 dX6_layAside_13 kq88 (ltn rfl) (ltn rfl) rfl rfl rfl ?_
  refine go_iload_n (pc' := 17) cx dX6_layAside_16 rfl rfl ?_
  refine go_iald (pc' := 18) cx (g 92 1) dX6_layAside_17 kq92 (ltn rfl) (vpi (k := 1) (a := 2) (ltn rfl) rfl rfl) ((congrArg ((up2 (up2 g 103 0 (g 92 0)) 103 4 (g 93 0)) 92) (cli (k := 1) (a := 2) (ltn rfl) rfl)).trans ((up2_n (up2 g 103 0 (g 92 0)) (g 93 0) (Or.inl (Nat.ne_of_beq_eq_false rfl))).trans (up2_n g (g 92 0) (Or.inl (Nat.ne_of_beq_eq_false rfl))))) rfl ?_
  refine go_iastk (pc' := 19) cx 1 dX6_layAside_18 kq103 (ltn rfl) (vpi (k := 1) (a := 2) (ltn rfl) rfl rfl) (cli (k := 1) (a := 2) (ltn rfl) rfl) rfl ?_
  refine go_aload_n (pc' := 20) cx dX6_layAside_19 rfl rfl ?_
  refine go_getr (pc' := 23) cx 103 fX6_59 dX6_layAside_20 kq88 (ltn rfl) (ltn rfl) rfl rfl rfl ?_
  refine go_iconst (pc' := 24) cx 4 dX6_layAside_23 rfl rfl ?_
  refine go_iload_n (pc' := 25) cx dX6_layAside_24 rfl rfl ?_
  refine go_iadd (pc' := 26) cx dX6_layAside_25 rfl ?_
  refine go_val (w := .int 5) (congrArg Value.int (by decide)) ?_
  refine go_aload_n (pc' := 27) cx dX6_layAside_26 rfl rfl ?_
  refine go_getr (pc' := 30) cx 93 fX6_26 dX6_layAside_27 kq88 (ltn rfl) (ltn rfl) rfl rfl rfl ?_
  refine go_iload_n (pc' := 31) cx dX6_layAside_30 rfl rfl ?_
  refine go_iald (pc' := 32) cx (g 93 1) dX6_layAside_31 kq93 (ltn rfl) (vpi (k := 1) (a := 2) (ltn rfl) rfl rfl) ((congrArg ((up2 (up2 (up2 g 103 0 (g 92 0)) 103 4 (g 93 0)) 103 1 (g 92 1)) 93) (cli (k := 1) (a := 2) (ltn rfl) rfl)).trans ((up2_n (up2 (up2 g 103 0 (g 92 0)) 103 4 (g 93 0)) (g 92 1) (Or.inl (Nat.ne_of_beq_eq_false rfl))).trans ((up2_n (up2 g 103 0 (g 92 0)) (g 93 0) (Or.inl (Nat.ne_of_beq_eq_false rfl))).trans (up2_n g (g 92 0) (Or.inl (Nat.ne_of_beq_eq_false rfl)))))) rfl ?_
  refine go_iastk (pc' := 33) cx 5 dX6_layAside_32 kq103 (ltn rfl) (vpi (k := 5) (a := 6) (ltn rfl) rfl rfl) (cli (k := 5) (a := 6) (ltn rfl) rfl) rfl ?_
  refine go_iinc (pc' := 36) cx 2 dX6_layAside_33 rfl rfl (ltn rfl) [(1, .int 2), (0, .ref (E.2.1 88))] rfl rfl ?_
  refine go_goto cx 2 dX6_layAside_36 rfl ?_
  refine go_iload_n (pc' := 3) cx dX6_layAside_2 rfl rfl ?_
  refine go_iconst (pc' := 4) cx 4 dX6_layAside_3 rfl rfl ?_
  refine go_icmp_ge (pc' := 7) cx 39 dX6_layAside_4 rfl rfl (fun hh => absurd hh (by decide)) (fun _ => ?_)
  refine go_aload_n (pc' := 8) cx dX6_layAside_7 rfl rfl ?_
  refine go_getr (pc' := 11) cx 103 fX6_59 dX6_layAside_8 kq88 (ltn rfl) (ltn rfl) rfl rfl rfl ?_
  refine go_iload_n (pc' := 12) cx dX6_layAside_11 rfl rfl ?_
  refine go_aload_n (pc' := 13) cx dX6_layAside_12 rfl rfl ?_
  refine go_getr (pc' := 16) cx 92 fX6_23 dX6_layAside_13 kq88 (ltn rfl) (ltn rfl) rfl rfl rfl ?_
  refine go_iload_n (pc' := 17) cx dX6_layAside_16 rfl rfl ?_
  refine go_iald (pc' := 18) cx (g 92 2) dX6_layAside_17 kq92 (ltn rfl) (vpi (k := 2) (a := 3) (ltn rfl) rfl rfl) ((congrArg ((up2 (up2 (up2 (up2 g 103 0 (g 92 0)) 103 4 (g 93 0)) 103 1 (g 92 1)) 103 5 (g 93 1)) 92) (cli (k := 2) (a := 3) (ltn rfl) rfl)).trans ((up2_n (up2 (up2 (up2 g 103 0 (g 92 0)) 103 4 (g 93 0)) 103 1 (g 92 1)) (g 93 1) (Or.inl (Nat.ne_of_beq_eq_false rfl))).trans ((up2_n (up2 (up2 g 103 0 (g 92 0)) 103 4 (g 93 0)) (g 92 1) (Or.inl (Nat.ne_of_beq_eq_false rfl))).trans ((up2_n (up2 g 103 0 (g 92 0)) (g 93 0) (Or.inl (Nat.ne_of_beq_eq_false rfl))).trans (up2_n g (g 92 0) (Or.inl (Nat.ne_of_beq_eq_false rfl))))))) rfl ?_
  refine go_iastk (pc' := 19) cx 2 dX6_layAside_18 kq103 (ltn rfl) (vpi (k := 2) (a := 3) (ltn rfl) rfl rfl) (cli (k := 2) (a := 3) (ltn rfl) rfl) rfl ?_
  refine go_aload_n (pc' := 20) cx dX6_layAside_19 rfl rfl ?_
  refine go_getr (pc' := 23) cx 103 fX6_59 dX6_layAside_20 kq88 (ltn rfl) (ltn rfl) rfl rfl rfl ?_
  refine go_iconst (pc' := 24) cx 4 dX6_layAside_23 rfl rfl ?_
  refine go_iload_n (pc' := 25) cx dX6_layAside_24 rfl rfl ?_
  refine go_iadd (pc' := 26) cx dX6_layAside_25 rfl ?_
  refine go_val (w := .int 6) (congrArg Value.int (by decide)) ?_
  refine go_aload_n (pc' := 27) cx dX6_layAside_26 rfl rfl ?_
  refine go_getr (pc' := 30) cx 93 fX6_26 dX6_layAside_27 kq88 (ltn rfl) (ltn rfl) rfl rfl rfl ?_
  refine go_iload_n (pc' := 31) cx dX6_layAside_30 rfl rfl ?_
  refine go_iald (pc' := 32) cx (g 93 2) dX6_layAside_31 kq93 (ltn rfl) (vpi (k := 2) (a := 3) (ltn rfl) rfl rfl) ((congrArg ((up2 (up2 (up2 (up2 (up2 g 103 0 (g 92 0)) 103 4 (g 93 0)) 103 1 (g 92 1)) 103 5 (g 93 1)) 103 2 (g 92 2)) 93) (cli (k := 2) (a := 3) (ltn rfl) rfl)).trans ((up2_n (up2 (up2 (up2 (up2 g 103 0 (g 92 0)) 103 4 (g 93 0)) 103 1 (g 92 1)) 103 5 (g 93 1)) (g 92 2) (Or.inl (Nat.ne_of_beq_eq_false rfl))).trans ((up2_n (up2 (up2 (up2 g 103 0 (g 92 0)) 103 4 (g 93 0)) 103 1 (g 92 1)) (g 93 1) (Or.inl (Nat.ne_of_beq_eq_false rfl))).trans ((up2_n (up2 (up2 g 103 0 (g 92 0)) 103 4 (g 93 0)) (g 92 1) (Or.inl (Nat.ne_of_beq_eq_false rfl))).trans ((up2_n (up2 g 103 0 (g 92 0)) (g 93 0) (Or.inl (Nat.ne_of_beq_eq_false rfl))).trans (up2_n g (g 92 0) (Or.inl (Nat.ne_of_beq_eq_false rfl)))))))) rfl ?_
  refine go_iastk (pc' := 33) cx 6 dX6_layAside_32 kq103 (ltn rfl) (vpi (k := 6) (a := 7) (ltn rfl) rfl rfl) (cli (k := 6) (a := 7) (ltn rfl) rfl) rfl ?_
  refine go_iinc (pc' := 36) cx 3 dX6_layAside_33 rfl rfl (ltn rfl) [(1, .int 3), (0, .ref (E.2.1 88))] rfl rfl ?_
  refine go_goto cx 2 dX6_layAside_36 rfl ?_
  refine go_iload_n (pc' := 3) cx dX6_layAside_2 rfl rfl ?_
  refine go_iconst (pc' := 4) cx 4 dX6_layAside_3 rfl rfl ?_
  refine go_icmp_ge (pc' := 7) cx 39 dX6_layAside_4 rfl rfl (fun hh => absurd hh (by decide)) (fun _ => ?_)
  refine go_aload_n (pc' := 8) cx dX6_layAside_7 rfl rfl ?_
  refine go_getr (pc' := 11) cx 103 fX6_59 dX6_layAside_8 kq88 (ltn rfl) (ltn rfl) rfl rfl rfl ?_
  refine go_iload_n (pc' := 12) cx dX6_layAside_11 rfl rfl ?_
  refine go_aload_n (pc' := 13) cx dX6_layAside_12 rfl rfl ?_
  refine go_getr (pc' := 16) cx 92 fX6_23 dX6_layAside_13 kq88 (ltn rfl) (ltn rfl) rfl rfl rfl ?_
  refine go_iload_n (pc' := 17) cx dX6_layAside_16 rfl rfl ?_
  refine go_iald (pc' := 18) cx (g 92 3) dX6_layAside_17 kq92 (ltn rfl) (vpi (k := 3) (a := 4) (ltn rfl) rfl rfl) ((congrArg ((up2 (up2 (up2 (up2 (up2 (up2 g 103 0 (g 92 0)) 103 4 (g 93 0)) 103 1 (g 92 1)) 103 5 (g 93 1)) 103 2 (g 92 2)) 103 6 (g 93 2)) 92) (cli (k := 3) (a := 4) (ltn rfl) rfl)).trans ((up2_n (up2 (up2 (up2 (up2 (up2 g 103 0 (g 92 0)) 103 4 (g 93 0)) 103 1 (g 92 1)) 103 5 (g 93 1)) 103 2 (g 92 2)) (g 93 2) (Or.inl (Nat.ne_of_beq_eq_false rfl))).trans ((up2_n (up2 (up2 (up2 (up2 g 103 0 (g 92 0)) 103 4 (g 93 0)) 103 1 (g 92 1)) 103 5 (g 93 1)) (g 92 2) (Or.inl (Nat.ne_of_beq_eq_false rfl))).trans ((up2_n (up2 (up2 (up2 g 103 0 (g 92 0)) 103 4 (g 93 0)) 103 1 (g 92 1)) (g 93 1) (Or.inl (Nat.ne_of_beq_eq_false rfl))).trans ((up2_n (up2 (up2 g 103 0 (g 92 0)) 103 4 (g 93 0)) (g 92 1) (Or.inl (Nat.ne_of_beq_eq_false rfl))).trans ((up2_n (up2 g 103 0 (g 92 0)) (g 93 0) (Or.inl (Nat.ne_of_beq_eq_false rfl))).trans (up2_n g (g 92 0) (Or.inl (Nat.ne_of_beq_eq_false rfl))))))))) rfl ?_
  refine go_iastk (pc' := 19) cx 3 dX6_layAside_18 kq103 (ltn rfl) (vpi (k := 3) (a := 4) (ltn rfl) rfl rfl) (cli (k := 3) (a := 4) (ltn rfl) rfl) rfl ?_
  refine go_aload_n (pc' := 20) cx dX6_layAside_19 rfl rfl ?_
  refine go_getr (pc' := 23) cx 103 fX6_59 dX6_layAside_20 kq88 (ltn rfl) (ltn rfl) rfl rfl rfl ?_
  refine go_iconst (pc' := 24) cx 4 dX6_layAside_23 rfl rfl ?_
  refine go_iload_n (pc' := 25) cx dX6_layAside_24 rfl rfl ?_
  refine go_iadd (pc' := 26) cx dX6_layAside_25 rfl ?_
  refine go_val (w := .int 7) (congrArg Value.int (by decide)) ?_
  refine go_aload_n (pc' := 27) cx dX6_layAside_26 rfl rfl ?_
  refine go_getr (pc' := 30) cx 93 fX6_26 dX6_layAside_27 kq88 (ltn rfl) (ltn rfl) rfl rfl rfl ?_
  refine go_iload_n (pc' := 31) cx dX6_layAside_30 rfl rfl ?_
  refine go_iald (pc' := 32) cx (g 93 3) dX6_layAside_31 kq93 (ltn rfl) (vpi (k := 3) (a := 4) (ltn rfl) rfl rfl) ((congrArg ((up2 (up2 (up2 (up2 (up2 (up2 (up2 g 103 0 (g 92 0)) 103 4 (g 93 0)) 103 1 (g 92 1)) 103 5 (g 93 1)) 103 2 (g 92 2)) 103 6 (g 93 2)) 103 3 (g 92 3)) 93) (cli (k := 3) (a := 4) (ltn rfl) rfl)).trans ((up2_n (up2 (up2 (up2 (up2 (up2 (up2 g 103 0 (g 92 0)) 103 4 (g 93 0)) 103 1 (g 92 1)) 103 5 (g 93 1)) 103 2 (g 92 2)) 103 6 (g 93 2)) (g 92 3) (Or.inl (Nat.ne_of_beq_eq_false rfl))).trans ((up2_n (up2 (up2 (up2 (up2 (up2 g 103 0 (g 92 0)) 103 4 (g 93 0)) 103 1 (g 92 1)) 103 5 (g 93 1)) 103 2 (g 92 2)) (g 93 2) (Or.inl (Nat.ne_of_beq_eq_false rfl))).trans ((up2_n (up2 (up2 (up2 (up2 g 103 0 (g 92 0)) 103 4 (g 93 0)) 103 1 (g 92 1)) 103 5 (g 93 1)) (g 92 2) (Or.inl (Nat.ne_of_beq_eq_false rfl))).trans ((up2_n (up2 (up2 (up2 g 103 0 (g 92 0)) 103 4 (g 93 0)) 103 1 (g 92 1)) (g 93 1) (Or.inl (Nat.ne_of_beq_eq_false rfl))).trans ((up2_n (up2 (up2 g 103 0 (g 92 0)) 103 4 (g 93 0)) (g 92 1) (Or.inl (Nat.ne_of_beq_eq_false rfl))).trans ((up2_n (up2 g 103 0 (g 92 0)) (g 93 0) (Or.inl (Nat.ne_of_beq_eq_false rfl))).trans (up2_n g (g 92 0) (Or.inl (Nat.ne_of_beq_eq_false rfl)))))))))) rfl ?_
  refine go_iastk (pc' := 33) cx 7 dX6_layAside_32 kq103 (ltn rfl) (vpi (k := 7) (a := 8) (ltn rfl) rfl rfl) (cli (k := 7) (a := 8) (ltn rfl) rfl) rfl ?_
  refine go_iinc (pc' := 36) cx 4 dX6_layAside_33 rfl rfl (ltn rfl) [(1, .int 4), (0, .ref (E.2.1 88))] rfl rfl ?_
  refine go_goto cx 2 dX6_layAside_36 rfl ?_
  refine go_iload_n (pc' := 3) cx dX6_layAside_2 rfl rfl ?_
  refine go_iconst (pc' := 4) cx 4 dX6_layAside_3 rfl rfl ?_
  refine go_icmp_ge (pc' := 7) cx 39 dX6_layAside_4 rfl rfl (fun _ => ?_) (fun hh => absurd hh (by decide))
  refine go_aload_n (pc' := 40) cx dX6_layAside_39 rfl rfl ?_
  refine go_iconst (pc' := 41) cx 0 dX6_layAside_40 rfl rfl ?_
  refine go_puti (pc' := 44) cx fX6_399 dX6_layAside_41 kq88 (ltn rfl) (ltn rfl) rfl rfl rfl rfl ?_
  refine go_vret cx rfl dX6_layAside_44 ?_
  refine ZV.mk ⟨?_, ?_, ?_⟩
  · intro i k q
    rw [up2_n _ _ (by omega), up2_n _ _ (by omega), up2_n _ _ (by omega), up2_n _ _ (by omega), up2_n _ _ (by omega), up2_n _ _ (by omega), up2_n _ _ (by omega), up2_n _ _ (by omega), up2_n _ _ (by omega)]
  · intro p hp
    rcases (show p = 0 ∨ p = 1 ∨ p = 2 ∨ p = 3 by omega) with rfl | rfl | rfl | rfl <;> exact ⟨rfl, rfl⟩
  · rfl

set_option maxHeartbeats 1000000 in
set_option maxRecDepth 20000 in
theorem c_X6_takeBack (l : Launch) (E : Ev) {g : IG} {o : Option Nat} {z : Int64}  : Ct l E 115 yX6_takeBack cX6_takeBack 2 none 1 [.ref (E.2.1 88)] g (RFo o) z (ZV (RFo o) z (fun g1 => (∀ i k, ¬ ((i = 92 ∨ i = 93) ∧ k < 4) → g1 i k = g i k) ∧ ∀ p, p < 4 → g1 92 p = g 103 p ∧ g1 93 p = g 103 (4 + p))) := by
  refine Ct.of (lv0 := [(0, .ref (E.2.1 88))]) (by decide) (Nat.le_of_ble_eq_true rfl) rfl ?_
  intro p e s m below meth c cx
  refine go_iconst (pc' := 1) cx 0 dX6_takeBack_0 rfl rfl ?_
  refine go_istore_n (pc' := 2) cx dX6_takeBack_1 (ltn rfl) [(1, .int 0), (0, .ref (E.2.1 88))] rfl rfl ?_
  refine go_iload_n (pc' := 3) cx dX6_takeBack_2 rfl rfl ?_
  refine go_iconst (pc' := 4) cx 4 dX6_takeBack_3 rfl rfl ?_
  refine go_icmp_ge (pc' := 7) cx 39 dX6_takeBack_4 rfl rfl (fun hh => absurd hh (by decide)) (fun _ => ?_)
  refine go_aload_n (pc' := 8) cx dX6_takeBack_7 rfl rfl ?_
  refine go_getr (pc' := 11) cx 92 fX6_23 dX6_takeBack_8 kq88 (ltn rfl) (ltn rfl) rfl rfl rfl ?_
  refine go_iload_n (pc' := 12) cx dX6_takeBack_11 rfl rfl ?_
  refine go_aload_n (pc' := 13) cx dX6_takeBack_12 rfl rfl ?_
  refine go_getr (pc' := 16) cx 103 fX6_59 dX6_takeBack_13 kq88 (ltn rfl) (ltn rfl) rfl rfl rfl ?_
  refine go_iload_n (pc' := 17) cx dX6_takeBack_16 rfl rfl ?_
  refine go_iald (pc' := 18) cx (g 103 0) dX6_takeBack_17 kq103 (ltn rfl) (vpi (k := 0) (a := 1) (ltn rfl) rfl rfl) (congrArg (g 103) (cli (k := 0) (a := 1) (ltn rfl) rfl)) rfl ?_
  refine go_iastk (pc' := 19) cx 0 dX6_takeBack_18 kq92 (ltn rfl) (vpi (k := 0) (a := 1) (ltn rfl) rfl rfl) (cli (k := 0) (a := 1) (ltn rfl) rfl) rfl ?_
  refine go_aload_n (pc' := 20) cx dX6_takeBack_19 rfl rfl ?_
  refine go_getr (pc' := 23) cx 93 fX6_26 dX6_takeBack_20 kq88 (ltn rfl) (ltn rfl) rfl rfl rfl ?_
  refine go_iload_n (pc' := 24) cx dX6_takeBack_23 rfl rfl ?_
  refine go_aload_n (pc' := 25) cx dX6_takeBack_24 rfl rfl ?_
  refine go_getr (pc' := 28) cx 103 fX6_59 dX6_takeBack_25 kq88 (ltn rfl) (ltn rfl) rfl rfl rfl ?_
  refine go_iconst (pc' := 29) cx 4 dX6_takeBack_28 rfl rfl ?_
  refine go_iload_n (pc' := 30) cx dX6_takeBack_29 rfl rfl ?_
  refine go_iadd (pc' := 31) cx dX6_takeBack_30 rfl ?_
  refine go_val (w := .int 4) (congrArg Value.int (by decide)) ?_
  refine go_iald (pc' := 32) cx (g 103 4) dX6_takeBack_31 kq103 (ltn rfl) (vpi (k := 4) (a := 5) (ltn rfl) rfl rfl) ((congrArg ((up2 g 92 0 (g 103 0)) 103) (cli (k := 4) (a := 5) (ltn rfl) rfl)).trans (up2_n g (g 103 0) (Or.inl (Nat.ne_of_beq_eq_false rfl)))) rfl ?_
  refine go_iastk (pc' := 33) cx 0 dX6_takeBack_32 kq93 (ltn rfl) (vpi (k := 0) (a := 1) (ltn rfl) rfl rfl) (cli (k := 0) (a := 1) (ltn rfl) rfl) rfl ?_
  refine go_iinc (pc' := 36) cx 1 dX6_takeBack_33 rfl rfl (ltn rfl) [(1, .int 1), (0, .ref (E.2.1 88))] rfl rfl ?_
  refine go_goto cx 2 dX6_takeBack_36 rfl ?_
  refine go_iload_n (pc' := 3) cx dX6_takeBack_2 rfl rfl ?_
  refine go_iconst (pc' := 4) cx 4 dX6_takeBack_3 rfl rfl ?_
  refine go_icmp_ge (pc' := 7) cx 39 dX6_takeBack_4 rfl rfl (fun hh => absurd hh (by decide)) (fun _ => ?_)
  refine go_aload_n (pc' := 8) cx dX6_takeBack_7 rfl rfl ?_
  refine go_getr (pc' := 11) cx 92 fX6_23 dX6_takeBack_8 kq88 (ltn rfl) (ltn rfl) rfl rfl rfl ?_
  refine go_iload_n (pc' := 12) cx dX6_takeBack_11 rfl rfl ?_
  refine go_aload_n (pc' := 13) cx dX6_takeBack_12 rfl rfl ?_
  refine go_getr (pc' := 16) cx 103 fX6_59 dX6_takeBack_13 kq88 (ltn rfl) (ltn rfl) rfl rfl rfl ?_
  refine go_iload_n (pc' := 17) cx dX6_takeBack_16 rfl rfl ?_
  refine go_iald (pc' := 18) cx (g 103 1) dX6_takeBack_17 kq103 (ltn rfl) (vpi (k := 1) (a := 2) (ltn rfl) rfl rfl) ((congrArg ((up2 (up2 g 92 0 (g 103 0)) 93 0 (g 103 4)) 103) (cli (k := 1) (a := 2) (ltn rfl) rfl)).trans ((up2_n (up2 g 92 0 (g 103 0)) (g 103 4) (Or.inl (Nat.ne_of_beq_eq_false rfl))).trans (up2_n g (g 103 0) (Or.inl (Nat.ne_of_beq_eq_false rfl))))) rfl ?_
  refine go_iastk (pc' := 19) cx 1 dX6_takeBack_18 kq92 (ltn rfl) (vpi (k := 1) (a := 2) (ltn rfl) rfl rfl) (cli (k := 1) (a := 2) (ltn rfl) rfl) rfl ?_
  refine go_aload_n (pc' := 20) cx dX6_takeBack_19 rfl rfl ?_
  refine go_getr (pc' := 23) cx 93 fX6_26 dX6_takeBack_20 kq88 (ltn rfl) (ltn rfl) rfl rfl rfl ?_
  refine go_iload_n (pc' := 24) cx dX6_takeBack_23 rfl rfl ?_
  refine go_aload_n (pc' := 25) cx dX6_takeBack_24 rfl rfl ?_
  refine go_getr (pc' := 28) cx 103 fX6_59 dX6_takeBack_25 kq88 (ltn rfl) (ltn rfl) rfl rfl rfl ?_
  refine go_iconst (pc' := 29) cx 4 dX6_takeBack_28 rfl rfl ?_
  refine go_iload_n (pc' := 30) cx dX6_takeBack_29 rfl rfl ?_
  refine go_iadd (pc' := 31) cx dX6_takeBack_30 rfl ?_
  refine go_val (w := .int 5) (congrArg Value.int (by decide)) ?_
  refine go_iald (pc' := 32) cx (g 103 5) dX6_takeBack_31 kq103 (ltn rfl) (vpi (k := 5) (a := 6) (ltn rfl) rfl rfl) ((congrArg ((up2 (up2 (up2 g 92 0 (g 103 0)) 93 0 (g 103 4)) 92 1 (g 103 1)) 103) (cli (k := 5) (a := 6) (ltn rfl) rfl)).trans ((up2_n (up2 (up2 g 92 0 (g 103 0)) 93 0 (g 103 4)) (g 103 1) (Or.inl (Nat.ne_of_beq_eq_false rfl))).trans ((up2_n (up2 g 92 0 (g 103 0)) (g 103 4) (Or.inl (Nat.ne_of_beq_eq_false rfl))).trans (up2_n g (g 103 0) (Or.inl (Nat.ne_of_beq_eq_false rfl)))))) rfl ?_
  refine go_iastk (pc' := 33) cx 1 dX6_takeBack_32 kq93 (ltn rfl) (vpi (k := 1) (a := 2) (ltn rfl) rfl rfl) (cli (k := 1) (a := 2) (ltn rfl) rfl) rfl ?_
  refine go_iinc (pc' := 36) cx 2 dX6_takeBack_33 rfl rfl (ltn rfl) [(1, .int 2), (0, .ref (E.2.1 88))] rfl rfl ?_
  refine go_goto cx 2 dX6_takeBack_36 rfl ?_
  refine go_iload_n (pc' := 3) cx dX6_takeBack_2 rfl rfl ?_
  refine go_iconst (pc' := 4) cx 4 dX6_takeBack_3 rfl rfl ?_
  refine go_icmp_ge (pc' := 7) cx 39 dX6_takeBack_4 rfl rfl (fun hh => absurd hh (by decide)) (fun _ => ?_)
  refine go_aload_n (pc' := 8) cx dX6_takeBack_7 rfl rfl ?_
  refine go_getr (pc' := 11) cx 92 fX6_23 dX6_takeBack_8 kq88 (ltn rfl) (ltn rfl) rfl rfl rfl ?_
  refine go_iload_n (pc' := 12) cx dX6_takeBack_11 rfl rfl ?_
  refine go_aload_n (pc' := 13) cx dX6_takeBack_12 rfl rfl ?_
  refine go_getr (pc' := 16) cx 103 fX6_59 dX6_takeBack_13 kq88 (ltn rfl) (ltn rfl) rfl rfl rfl ?_
  refine go_iload_n (pc' := 17) cx dX6_takeBack_16 rfl rfl ?_
  refine go_iald (pc' := 18) cx (g 103 2) dX6_takeBack_17 kq103 (ltn rfl) (vpi (k := 2) (a := 3) (ltn rfl) rfl rfl) ((congrArg ((up2 (up2 (up2 (up2 g 92 0 (g 103 0)) 93 0 (g 103 4)) 92 1 (g 103 1)) 93 1 (g 103 5)) 103) (cli (k := 2) (a := 3) (ltn rfl) rfl)).trans ((up2_n (up2 (up2 (up2 g 92 0 (g 103 0)) 93 0 (g 103 4)) 92 1 (g 103 1)) (g 103 5) (Or.inl (Nat.ne_of_beq_eq_false rfl))).trans ((up2_n (up2 (up2 g 92 0 (g 103 0)) 93 0 (g 103 4)) (g 103 1) (Or.inl (Nat.ne_of_beq_eq_false rfl))).trans ((up2_n (up2 g 92 0 (g 103 0)) (g 103 4) (Or.inl (Nat.ne_of_beq_eq_false rfl))).trans (up2_n g (g 103 0) (Or.inl (Nat.ne_of_beq_eq_false rfl))))))) rfl ?_
  refine go_iastk (pc' := 19) cx 2 dX6_takeBack_18 kq92 (ltn rfl) (vpi (k := 2) (a := 3) (ltn rfl) rfl rfl) (cli (k := 2) (a := 3) (ltn rfl) rfl) rfl ?_
  refine go_aload_n (pc' := 20) cx dX6_takeBack_19 rfl rfl ?_
  refine go_getr (pc' := 23) cx 93 fX6_26 dX6_takeBack_20 kq88 (ltn rfl) (ltn rfl) rfl rfl rfl ?_
  refine go_iload_n (pc' := 24) cx dX6_takeBack_23 rfl rfl ?_
  refine go_aload_n (pc' := 25) cx dX6_takeBack_24 rfl rfl ?_
  refine go_getr (pc' := 28) cx 103 fX6_59 dX6_takeBack_25 kq88 (ltn rfl) (ltn rfl) rfl rfl rfl ?_
  refine go_iconst (pc' := 29) cx 4 dX6_takeBack_28 rfl rfl ?_
  refine go_iload_n (pc' := 30) cx dX6_takeBack_29 rfl rfl ?_
  refine go_iadd (pc' := 31) cx dX6_takeBack_30 rfl ?_
  refine go_val (w := .int 6) (congrArg Value.int (by decide)) ?_
  refine go_iald (pc' := 32) cx (g 103 6) dX6_takeBack_31 kq103 (ltn rfl) (vpi (k := 6) (a := 7) (ltn rfl) rfl rfl) ((congrArg ((up2 (up2 (up2 (up2 (up2 g 92 0 (g 103 0)) 93 0 (g 103 4)) 92 1 (g 103 1)) 93 1 (g 103 5)) 92 2 (g 103 2)) 103) (cli (k := 6) (a := 7) (ltn rfl) rfl)).trans ((up2_n (up2 (up2 (up2 (up2 g 92 0 (g 103 0)) 93 0 (g 103 4)) 92 1 (g 103 1)) 93 1 (g 103 5)) (g 103 2) (Or.inl (Nat.ne_of_beq_eq_false rfl))).trans ((up2_n (up2 (up2 (up2 g 92 0 (g 103 0)) 93 0 (g 103 4)) 92 1 (g 103 1)) (g 103 5) (Or.inl (Nat.ne_of_beq_eq_false rfl))).trans ((up2_n (up2 (up2 g 92 0 (g 103 0)) 93 0 (g 103 4)) (g 103 1) (Or.inl (Nat.ne_of_beq_eq_false rfl))).trans ((up2_n (up2 g 92 0 (g 103 0)) (g 103 4) (Or.inl (Nat.ne_of_beq_eq_false rfl))).trans (up2_n g (g 103 0) (Or.inl (Nat.ne_of_beq_eq_false rfl)))))))) rfl ?_
  refine go_iastk (pc' := 33) cx 2 dX6_takeBack_32 kq93 (ltn rfl) (vpi (k := 2) (a := 3) (ltn rfl) rfl rfl) (cli (k := 2) (a := 3) (ltn rfl) rfl) rfl ?_
  refine go_iinc (pc' := 36) cx 3 dX6_takeBack_33 rfl rfl (ltn rfl) [(1, .int 3), (0, .ref (E.2.1 88))] rfl rfl ?_
  refine go_goto cx 2 dX6_takeBack_36 rfl ?_
  refine go_iload_n (pc' := 3) cx dX6_takeBack_2 rfl rfl ?_
  refine go_iconst (pc' := 4) cx 4 dX6_takeBack_3 rfl rfl ?_
  refine go_icmp_ge (pc' := 7) cx 39 dX6_takeBack_4 rfl rfl (fun hh => absurd hh (by decide)) (fun _ => ?_)
  refine go_aload_n (pc' := 8) cx dX6_takeBack_7 rfl rfl ?_
  refine go_getr (pc' := 11) cx 92 fX6_23 dX6_takeBack_8 kq88 (ltn rfl) (ltn rfl) rfl rfl rfl ?_
  refine go_iload_n (pc' := 12) cx dX6_takeBack_11 rfl rfl ?_
  refine go_aload_n (pc' := 13) cx dX6_takeBack_12 rfl rfl ?_
  refine go_getr (pc' := 16) cx 103 fX6_59 dX6_takeBack_13 kq88 (ltn rfl) (ltn rfl) rfl rfl rfl ?_
  refine go_iload_n (pc' := 17) cx dX6_takeBack_16 rfl rfl ?_
  refine go_iald (pc' := 18) cx (g 103 3) dX6_takeBack_17 kq103 (ltn rfl) (vpi (k := 3) (a := 4) (ltn rfl) rfl rfl) ((congrArg ((up2 (up2 (up2 (up2 (up2 (up2 g 92 0 (g 103 0)) 93 0 (g 103 4)) 92 1 (g 103 1)) 93 1 (g 103 5)) 92 2 (g 103 2)) 93 2 (g 103 6)) 103) (cli (k := 3) (a := 4) (ltn rfl) rfl)).trans ((up2_n (up2 (up2 (up2 (up2 (up2 g 92 0 (g 103 0)) 93 0 (g 103 4)) 92 1 (g 103 1)) 93 1 (g 103 5)) 92 2 (g 103 2)) (g 103 6) (Or.inl (Nat.ne_of_beq_eq_false rfl))).trans ((up2_n (up2 (up2 (up2 (up2 g 92 0 (g 103 0)) 93 0 (g 103 4)) 92 1 (g 103 1)) 93 1 (g 103 5)) (g 103 2) (Or.inl (Nat.ne_of_beq_eq_false rfl))).trans ((up2_n (up2 (up2 (up2 g 92 0 (g 103 0)) 93 0 (g 103 4)) 92 1 (g 103 1)) (g 103 5) (Or.inl (Nat.ne_of_beq_eq_false rfl))).trans ((up2_n (up2 (up2 g 92 0 (g 103 0)) 93 0 (g 103 4)) (g 103 1) (Or.inl (Nat.ne_of_beq_eq_false rfl))).trans ((up2_n (up2 g 92 0 (g 103 0)) (g 103 4) (Or.inl (Nat.ne_of_beq_eq_false rfl))).trans (up2_n g (g 103 0) (Or.inl (Nat.ne_of_beq_eq_false rfl))))))))) rfl ?_
  refine go_iastk (pc' := 19) cx 3 dX6_takeBack_18 kq92 (ltn rfl) (vpi (k := 3) (a := 4) (ltn rfl) rfl rfl) (cli (k := 3) (a := 4) (ltn rfl) rfl) rfl ?_
  refine go_aload_n (pc' := 20) cx dX6_takeBack_19 rfl rfl ?_
  refine go_getr (pc' := 23) cx 93 fX6_26 dX6_takeBack_20 kq88 (ltn rfl) (ltn rfl) rfl rfl rfl ?_
  refine go_iload_n (pc' := 24) cx dX6_takeBack_23 rfl rfl ?_
  refine go_aload_n (pc' := 25) cx dX6_takeBack_24 rfl rfl ?_
  refine go_getr (pc' := 28) cx 103 fX6_59 dX6_takeBack_25 kq88 (ltn rfl) (ltn rfl) rfl rfl rfl ?_
  refine go_iconst (pc' := 29) cx 4 dX6_takeBack_28 rfl rfl ?_
  refine go_iload_n (pc' := 30) cx dX6_takeBack_29 rfl rfl ?_
  refine go_iadd (pc' := 31) cx dX6_takeBack_30 rfl ?_
  refine go_val (w := .int 7) (congrArg Value.int (by decide)) ?_
  refine go_iald (pc' := 32) cx (g 103 7) dX6_takeBack_31 kq103 (ltn rfl) (vpi (k := 7) (a := 8) (ltn rfl) rfl rfl) ((congrArg ((up2 (up2 (up2 (up2 (up2 (up2 (up2 g 92 0 (g 103 0)) 93 0 (g 103 4)) 92 1 (g 103 1)) 93 1 (g 103 5)) 92 2 (g 103 2)) 93 2 (g 103 6)) 92 3 (g 103 3)) 103) (cli (k := 7) (a := 8) (ltn rfl) rfl)).trans ((up2_n (up2 (up2 (up2 (up2 (up2 (up2 g 92 0 (g 103 0)) 93 0 (g 103 4)) 92 1 (g 103 1)) 93 1 (g 103 5)) 92 2 (g 103 2)) 93 2 (g 103 6)) (g 103 3) (Or.inl (Nat.ne_of_beq_eq_false rfl))).trans ((up2_n (up2 (up2 (up2 (up2 (up2 g 92 0 (g 103 0)) 93 0 (g 103 4)) 92 1 (g 103 1)) 93 1 (g 103 5)) 92 2 (g 103 2)) (g 103 6) (Or.inl (Nat.ne_of_beq_eq_false rfl))).trans ((up2_n (up2 (up2 (up2 (up2 g 92 0 (g 103 0)) 93 0 (g 103 4)) 92 1 (g 103 1)) 93 1 (g 103 5)) (g 103 2) (Or.inl (Nat.ne_of_beq_eq_false rfl))).trans ((up2_n (up2 (up2 (up2 g 92 0 (g 103 0)) 93 0 (g 103 4)) 92 1 (g 103 1)) (g 103 5) (Or.inl (Nat.ne_of_beq_eq_false rfl))).trans ((up2_n (up2 (up2 g 92 0 (g 103 0)) 93 0 (g 103 4)) (g 103 1) (Or.inl (Nat.ne_of_beq_eq_false rfl))).trans ((up2_n (up2 g 92 0 (g 103 0)) (g 103 4) (Or.inl (Nat.ne_of_beq_eq_false rfl))).trans (up2_n g (g 103 0) (Or.inl (Nat.ne_of_beq_eq_false rfl)))))))))) rfl ?_
  refine go_iastk (pc' := 33) cx 3 dX6_takeBack_32 kq93 (ltn rfl) (vpi (k := 3) (a := 4) (ltn rfl) rfl rfl) (cli (k := 3) (a := 4) (ltn rfl) rfl) rfl ?_
  refine go_iinc (pc' := 36) cx 4 dX6_takeBack_33 rfl rfl (ltn rfl) [(1, .int 4), (0, .ref (E.2.1 88))] rfl rfl ?_
  refine go_goto cx 2 dX6_takeBack_36 rfl ?_
  refine go_iload_n (pc' := 3) cx dX6_takeBack_2 rfl rfl ?_
  refine go_iconst (pc' := 4) cx 4 dX6_takeBack_3 rfl rfl ?_
  refine go_icmp_ge (pc' := 7) cx 39 dX6_takeBack_4 rfl rfl (fun _ => ?_) (fun hh => absurd hh (by decide))
  refine go_vret cx rfl dX6_takeBack_39 ?_
  refine ZV.mk ⟨?_, ?_⟩
  · intro i k q
    rw [up2_n _ _ (by omega), up2_n _ _ (by omega), up2_n _ _ (by omega), up2_n _ _ (by omega), up2_n _ _ (by omega), up2_n _ _ (by omega), up2_n _ _ (by omega), up2_n _ _ (by omega)]
  · intro p hp
    rcases (show p = 0 ∨ p = 1 ∨ p = 2 ∨ p = 3 by omega) with rfl | rfl | rfl | rfl <;> exact ⟨rfl, rfl⟩

set_option maxHeartbeats 1000000 in
set_option maxRecDepth 20000 in
theorem crM_loop {l : Launch} {E : Ev} {Z : ZT} {o : Option Nat} {p : Program} {e : Env} {s : State} {m : MethodId} {args : Array Value} {below : List Frame} {meth : Method} {c : Code} {g : IG} {hn vn ru tc : Nat} {CS : CSt} (hX : XM g hn vn ru tc CS)  (cx : Cx p s m args meth c E 115 cX6_courses 4 yX6_courses.cls (some .int)) : ∀ (k v : Nat) (G : IG) (z : Int64) (sum : Int32), v + k = vn → CIm (TMx CS ru) (svM g) g G v → SdI G tc CS → sum = sumI (OFs (TMx CS ru) (svM g)) v → (∀ (G9 : IG) (z9 : Int64), FrK g G9 → CWm (TMx CS ru) (svM g) G9 vn → G9 88 39 = sumI (CTs (TMx CS ru) (svM g)) vn → SdI G9 tc CS → Z (some (.int (BDs (TMx CS ru) (svM g) vn))) G9 (RFo o) z9) → Go p l e (rmd 48) s m args below meth c E 115 4 Z G (RFo o) z 8 [(2, .int (nI v)), (0, .ref (E.2.1 88)), (1, .int sum)] [] := by
  intro k
  induction k with
  | zero =>
    intro v G z sum hk hI hS hs hZ
    have hv : v = vn := by omega
    subst hv
    obtain ⟨hF, hA, h92, h93, hC, hc, hn⟩ := id hI
    have hb := hX.1
    refine go_iload_n (pc' := 9) cx dX6_courses_8 rfl rfl ?_
    refine go_aload_n (pc' := 10) cx dX6_courses_9 rfl rfl ?_
    refine go_geti (pc' := 13) cx (nI v) fX6_115 dX6_courses_10 kq88 (ltn rfl) (ltn rfl) rfl ((hF 88 19 (by omega)).trans hX.2.2.1) rfl ?_
    refine go_icmp_ge (pc' := 16) cx 75 dX6_courses_13 rfl rfl (fun _ => ?_) (fun hh9 => absurd (Int32.le_refl _) hh9)
    refine go_aload_n (pc' := 76) cx dX6_courses_75 rfl rfl ?_
    refine go_cVV (pc' := 79) cx (c_X6_takeBack l E (g := G)) mX6_takeBack lX6_418 dX6_courses_76 kq88 (ltn rfl) (ltn rfl) rfl rfl rfl rfl (ltn rfl) (Nat.le_of_ble_eq_true rfl) (Nat.le_of_ble_eq_true rfl) rfl (fun GT hT => ?_)
    obtain ⟨t1, t2⟩ := hT
    refine go_iload_n (pc' := 80) cx dX6_courses_79 rfl rfl ?_
    refine go_iret cx rfl dX6_courses_80 ?_
    have h9 := hZ GT z (hF.k hA t1 t2) (hC.fr (funext fun k => t1 104 k (by omega)) (funext fun k => t1 105 k (by omega))) ((t1 88 39 (by omega)).trans hc) (hS.fr (funext fun k => t1 102 k (by omega)))
    rw [hs]
    exact h9
  | succ k ih =>
    intro v G z sum hk hI hS hs hZ
    obtain ⟨hF, hA, h92, h93, hC, hc, hn⟩ := id hI
    have hb := hX.1
    obtain ⟨h, hh, hgh⟩ := hX.2.2.2.2.1 v (by omega)
    have hgG : G 99 v = nI h := (hF 99 v (by omega)).trans hgh
    refine go_iload_n (pc' := 9) cx dX6_courses_8 rfl rfl ?_
    refine go_aload_n (pc' := 10) cx dX6_courses_9 rfl rfl ?_
    refine go_geti (pc' := 13) cx (nI vn) fX6_115 dX6_courses_10 kq88 (ltn rfl) (ltn rfl) rfl ((hF 88 19 (by omega)).trans hX.2.2.1) rfl ?_
    refine go_icmp_ge (pc' := 16) cx 75 dX6_courses_13 rfl rfl (fun hh9 => absurd ((nI_leI (a := vn) (b := v) (by omega) (by omega)).mp hh9) (by omega)) (fun _ => ?_)
    refine go_aload_n (pc' := 17) cx dX6_courses_16 rfl rfl ?_
    refine go_iload_n (pc' := 18) cx dX6_courses_17 rfl rfl ?_
    refine go_cVVz (pc' := 21) cx (c_X6_goesTo l E (g := G) (hX.2.2.2.2.2.fd hF hS) hn (v := v) (h := h) (by omega) (by omega) hgG) mX6_goesTo lX6_411 dX6_courses_18 kq88 (ltn rfl) (ltn rfl) rfl rfl rfl rfl (ltn rfl) (Nat.le_of_ble_eq_true rfl) (Nat.le_of_ble_eq_true rfl) rfl (fun G1 z1 h1 => ?_)
    obtain ⟨f1, r1, e1, y1, s1, n1⟩ := h1
    refine go_iconst (pc' := 22) cx 0 dX6_courses_21 rfl rfl ?_
    refine go_istore_n (pc' := 23) cx dX6_courses_22 (ltn rfl) [(3, .int 0), (2, .int (nI v)), (0, .ref (E.2.1 88)), (1, .int sum)] rfl rfl ?_
    refine go_iload_n (pc' := 24) cx dX6_courses_23 rfl rfl ?_
    refine go_iconst (pc' := 25) cx 4 dX6_courses_24 rfl rfl ?_
    refine go_icmp_ge (pc' := 28) cx 50 dX6_courses_25 rfl rfl (fun hh => absurd hh (by decide)) (fun _ => ?_)
    refine go_aload_n (pc' := 29) cx dX6_courses_28 rfl rfl ?_
    refine go_getr (pc' := 32) cx 104 fX6_62 dX6_courses_29 kq88 (ltn rfl) (ltn rfl) rfl rfl rfl ?_
    refine go_iconst (pc' := 33) cx 4 dX6_courses_32 rfl rfl ?_
    refine go_iload_n (pc' := 34) cx dX6_courses_33 rfl rfl ?_
    refine go_imul (pc' := 35) cx dX6_courses_34 rfl ?_
    refine go_val (w := .int (nI (4 * v))) (congrArg Value.int (pk_mul 4 v)) ?_
    refine go_iload_n (pc' := 36) cx dX6_courses_35 rfl rfl ?_
    refine go_iadd (pc' := 37) cx dX6_courses_36 rfl ?_
    refine go_val (w := .int (nI ((4 * v) + 0))) (congrArg Value.int (nI_add (4 * v) 0)) ?_
    refine go_aload_n (pc' := 38) cx dX6_courses_37 rfl rfl ?_
    refine go_getr (pc' := 41) cx 92 fX6_23 dX6_courses_38 kq88 (ltn rfl) (ltn rfl) rfl rfl rfl ?_
    refine go_iload_n (pc' := 42) cx dX6_courses_41 rfl rfl ?_
    refine go_iald (pc' := 43) cx (G1 92 0) dX6_courses_42 kq92 (ltn rfl) (vpi (k := 0) (a := 1) (ltn rfl) rfl rfl) (congrArg (G1 92) (cli (k := 0) (a := 1) (ltn rfl) rfl)) rfl ?_
    refine go_iastk (pc' := 44) cx ((4 * v) + 0) dX6_courses_43 kq104 (ltn rfl) (vpi (k := ((4 * v) + 0)) (a := 32) (by omega) rfl rfl) (cli (k := ((4 * v) + 0)) (a := 32) (by omega) rfl) rfl ?_
    refine go_iinc (pc' := 47) cx 1 dX6_courses_44 rfl rfl (ltn rfl) [(3, .int 1), (2, .int (nI v)), (0, .ref (E.2.1 88)), (1, .int sum)] rfl rfl ?_
    refine go_goto cx 23 dX6_courses_47 rfl ?_
    refine go_iload_n (pc' := 24) cx dX6_courses_23 rfl rfl ?_
    refine go_iconst (pc' := 25) cx 4 dX6_courses_24 rfl rfl ?_
    refine go_icmp_ge (pc' := 28) cx 50 dX6_courses_25 rfl rfl (fun hh => absurd hh (by decide)) (fun _ => ?_)
    refine go_aload_n (pc' := 29) cx dX6_courses_28 rfl rfl ?_
    refine go_getr (pc' := 32) cx 104 fX6_62 dX6_courses_29 kq88 (ltn rfl) (ltn rfl) rfl rfl rfl ?_
    refine go_iconst (pc' := 33) cx 4 dX6_courses_32 rfl rfl ?_
    refine go_iload_n (pc' := 34) cx dX6_courses_33 rfl rfl ?_
    refine go_imul (pc' := 35) cx dX6_courses_34 rfl ?_
    refine go_val (w := .int (nI (4 * v))) (congrArg Value.int (pk_mul 4 v)) ?_
    refine go_iload_n (pc' := 36) cx dX6_courses_35 rfl rfl ?_
    refine go_iadd (pc' := 37) cx dX6_courses_36 rfl ?_
    refine go_val (w := .int (nI ((4 * v) + 1))) (congrArg Value.int (nI_add (4 * v) 1)) ?_
    refine go_aload_n (pc' := 38) cx dX6_courses_37 rfl rfl ?_
    refine go_getr (pc' := 41) cx 92 fX6_23 dX6_courses_38 kq88 (ltn rfl) (ltn rfl) rfl rfl rfl ?_
    refine go_iload_n (pc' := 42) cx dX6_courses_41 rfl rfl ?_
    refine go_iald (pc' := 43) cx (G1 92 1) dX6_courses_42 kq92 (ltn rfl) (vpi (k := 1) (a := 2) (ltn rfl) rfl rfl) ((congrArg ((up2 G1 104 ((4 * v) + 0) (G1 92 0)) 92) (cli (k := 1) (a := 2) (ltn rfl) rfl)).trans (up2_n G1 (G1 92 0) (Or.inl (Nat.ne_of_beq_eq_false rfl)))) rfl ?_
    refine go_iastk (pc' := 44) cx ((4 * v) + 1) dX6_courses_43 kq104 (ltn rfl) (vpi (k := ((4 * v) + 1)) (a := 32) (by omega) rfl rfl) (cli (k := ((4 * v) + 1)) (a := 32) (by omega) rfl) rfl ?_
    refine go_iinc (pc' := 47) cx 2 dX6_courses_44 rfl rfl (ltn rfl) [(3, .int 2), (2, .int (nI v)), (0, .ref (E.2.1 88)), (1, .int sum)] rfl rfl ?_
    refine go_goto cx 23 dX6_courses_47 rfl ?_
    refine go_iload_n (pc' := 24) cx dX6_courses_23 rfl rfl ?_
    refine go_iconst (pc' := 25) cx 4 dX6_courses_24 rfl rfl ?_
    refine go_icmp_ge (pc' := 28) cx 50 dX6_courses_25 rfl rfl (fun hh => absurd hh (by decide)) (fun _ => ?_)
    refine go_aload_n (pc' := 29) cx dX6_courses_28 rfl rfl ?_
    refine go_getr (pc' := 32) cx 104 fX6_62 dX6_courses_29 kq88 (ltn rfl) (ltn rfl) rfl rfl rfl ?_
    refine go_iconst (pc' := 33) cx 4 dX6_courses_32 rfl rfl ?_
    refine go_iload_n (pc' := 34) cx dX6_courses_33 rfl rfl ?_
    refine go_imul (pc' := 35) cx dX6_courses_34 rfl ?_
    refine go_val (w := .int (nI (4 * v))) (congrArg Value.int (pk_mul 4 v)) ?_
    refine go_iload_n (pc' := 36) cx dX6_courses_35 rfl rfl ?_
    refine go_iadd (pc' := 37) cx dX6_courses_36 rfl ?_
    refine go_val (w := .int (nI ((4 * v) + 2))) (congrArg Value.int (nI_add (4 * v) 2)) ?_
    refine go_aload_n (pc' := 38) cx dX6_courses_37 rfl rfl ?_
    refine go_getr (pc' := 41) cx 92 fX6_23 dX6_courses_38 kq88 (ltn rfl) (ltn rfl) rfl rfl rfl ?_
    refine go_iload_n (pc' := 42) cx dX6_courses_41 rfl rfl ?_
    refine go_iald (pc' := 43) cx (G1 92 2) dX6_courses_42 kq92 (ltn rfl) (vpi (k := 2) (a := 3) (ltn rfl) rfl rfl) ((congrArg ((up2 (up2 G1 104 ((4 * v) + 0) (G1 92 0)) 104 ((4 * v) + 1) (G1 92 1)) 92) (cli (k := 2) (a := 3) (ltn rfl) rfl)).trans ((up2_n (up2 G1 104 ((4 * v) + 0) (G1 92 0)) (G1 92 1) (Or.inl (Nat.ne_of_beq_eq_false rfl))).trans (up2_n G1 (G1 92 0) (Or.inl (Nat.ne_of_beq_eq_false rfl))))) rfl ?_
    refine go_iastk (pc' := 44) cx ((4 * v) + 2) dX6_courses_43 kq104 (ltn rfl) (vpi (k := ((4 * v) + 2)) (a := 32) (by omega) rfl rfl) (cli (k := ((4 * v) + 2)) (a := 32) (by omega) rfl) rfl ?_
    refine go_iinc (pc' := 47) cx 3 dX6_courses_44 rfl rfl (ltn rfl) [(3, .int 3), (2, .int (nI v)), (0, .ref (E.2.1 88)), (1, .int sum)] rfl rfl ?_
    refine go_goto cx 23 dX6_courses_47 rfl ?_
    refine go_iload_n (pc' := 24) cx dX6_courses_23 rfl rfl ?_
    refine go_iconst (pc' := 25) cx 4 dX6_courses_24 rfl rfl ?_
    refine go_icmp_ge (pc' := 28) cx 50 dX6_courses_25 rfl rfl (fun hh => absurd hh (by decide)) (fun _ => ?_)
    refine go_aload_n (pc' := 29) cx dX6_courses_28 rfl rfl ?_
    refine go_getr (pc' := 32) cx 104 fX6_62 dX6_courses_29 kq88 (ltn rfl) (ltn rfl) rfl rfl rfl ?_
    refine go_iconst (pc' := 33) cx 4 dX6_courses_32 rfl rfl ?_
    refine go_iload_n (pc' := 34) cx dX6_courses_33 rfl rfl ?_
    refine go_imul (pc' := 35) cx dX6_courses_34 rfl ?_
    refine go_val (w := .int (nI (4 * v))) (congrArg Value.int (pk_mul 4 v)) ?_
    refine go_iload_n (pc' := 36) cx dX6_courses_35 rfl rfl ?_
    refine go_iadd (pc' := 37) cx dX6_courses_36 rfl ?_
    refine go_val (w := .int (nI ((4 * v) + 3))) (congrArg Value.int (nI_add (4 * v) 3)) ?_
    refine go_aload_n (pc' := 38) cx dX6_courses_37 rfl rfl ?_
    refine go_getr (pc' := 41) cx 92 fX6_23 dX6_courses_38 kq88 (ltn rfl) (ltn rfl) rfl rfl rfl ?_
    refine go_iload_n (pc' := 42) cx dX6_courses_41 rfl rfl ?_
    refine go_iald (pc' := 43) cx (G1 92 3) dX6_courses_42 kq92 (ltn rfl) (vpi (k := 3) (a := 4) (ltn rfl) rfl rfl) ((congrArg ((up2 (up2 (up2 G1 104 ((4 * v) + 0) (G1 92 0)) 104 ((4 * v) + 1) (G1 92 1)) 104 ((4 * v) + 2) (G1 92 2)) 92) (cli (k := 3) (a := 4) (ltn rfl) rfl)).trans ((up2_n (up2 (up2 G1 104 ((4 * v) + 0) (G1 92 0)) 104 ((4 * v) + 1) (G1 92 1)) (G1 92 2) (Or.inl (Nat.ne_of_beq_eq_false rfl))).trans ((up2_n (up2 G1 104 ((4 * v) + 0) (G1 92 0)) (G1 92 1) (Or.inl (Nat.ne_of_beq_eq_false rfl))).trans (up2_n G1 (G1 92 0) (Or.inl (Nat.ne_of_beq_eq_false rfl)))))) rfl ?_
    refine go_iastk (pc' := 44) cx ((4 * v) + 3) dX6_courses_43 kq104 (ltn rfl) (vpi (k := ((4 * v) + 3)) (a := 32) (by omega) rfl rfl) (cli (k := ((4 * v) + 3)) (a := 32) (by omega) rfl) rfl ?_
    refine go_iinc (pc' := 47) cx 4 dX6_courses_44 rfl rfl (ltn rfl) [(3, .int 4), (2, .int (nI v)), (0, .ref (E.2.1 88)), (1, .int sum)] rfl rfl ?_
    refine go_goto cx 23 dX6_courses_47 rfl ?_
    refine go_iload_n (pc' := 24) cx dX6_courses_23 rfl rfl ?_
    refine go_iconst (pc' := 25) cx 4 dX6_courses_24 rfl rfl ?_
    refine go_icmp_ge (pc' := 28) cx 50 dX6_courses_25 rfl rfl (fun _ => ?_) (fun hh => absurd hh (by decide))
    refine go_aload_n (pc' := 51) cx dX6_courses_50 rfl rfl ?_
    refine go_getr (pc' := 54) cx 105 fX6_65 dX6_courses_51 kq88 (ltn rfl) (ltn rfl) rfl rfl rfl ?_
    refine go_iload_n (pc' := 55) cx dX6_courses_54 rfl rfl ?_
    refine go_aload_n (pc' := 56) cx dX6_courses_55 rfl rfl ?_
    obtain ⟨GA, hGA⟩ : ∃ y : IG, y = (up2 (up2 (up2 (up2 G1 104 ((4 * v) + 0) (G1 92 0)) 104 ((4 * v) + 1) (G1 92 1)) 104 ((4 * v) + 2) (G1 92 2)) 104 ((4 * v) + 3) (G1 92 3)) := ⟨_, rfl⟩
    refine go_g hGA.symm ?_
    have hA9 : ∀ i k, i ≠ 104 → GA i k = G1 i k := fun i k q => by
      rw [hGA, up2_n _ _ (Or.inl q), up2_n _ _ (Or.inl q), up2_n _ _ (Or.inl q), up2_n _ _ (Or.inl q)]
    have hA1 : ∀ k, k < 4 * v → GA 104 k = G1 104 k := fun k q => by
      rw [hGA, up2_n _ _ (Or.inr (by omega)), up2_n _ _ (Or.inr (by omega)), up2_n _ _ (Or.inr (by omega)), up2_n _ _ (Or.inr (by omega))]
    have hA2 : ∀ p, p < 4 → GA 104 (4 * v + p) = G1 92 p := fun p hp => by
      rw [hGA]
      rcases (show p = 0 ∨ p = 1 ∨ p = 2 ∨ p = 3 by omega) with rfl | rfl | rfl | rfl
      · rw [up2_n _ _ (Or.inr (by omega)), up2_n _ _ (Or.inr (by omega)), up2_n _ _ (Or.inr (by omega))]
        exact up2_s _ _ _ _
      · rw [up2_n _ _ (Or.inr (by omega)), up2_n _ _ (Or.inr (by omega))]
        exact up2_s _ _ _ _
      · rw [up2_n _ _ (Or.inr (by omega))]
        exact up2_s _ _ _ _
      · exact up2_s _ _ _ _
    have hFA : FrD g GA := by
      rw [hGA]
      exact ((((hF.tr f1.fd).up (by omega)).up (by omega)).up (by omega)).up (by omega)
    have hSA : SdI GA tc CS := s1.fr (funext fun k => hA9 102 k (by omega))
    refine go_cVIz (pc' := 59) cx (c_X6_offNow l E (g := GA) (hX.2.2.2.2.2.fd hFA hSA)) mX6_offNow lX6_415 dX6_courses_56 kq88 (ltn rfl) (ltn rfl) rfl rfl rfl rfl (ltn rfl) (Nat.le_of_ble_eq_true rfl) (Nat.le_of_ble_eq_true rfl) rfl (fun x2 G2 z2 h2 => ?_)
    obtain ⟨e2, f2, s2⟩ := h2
    obtain ⟨hx2, hI2⟩ := CIm_step hI f1 r1 e1 y1 n1 hA9 hA1 hA2 hFA e2 f2
    refine go_iastk (pc' := 60) cx v dX6_courses_59 kq105 (ltn rfl) (vpi (k := v) (a := 8) (by omega) rfl rfl) (cli (k := v) (a := 8) (by omega) rfl) rfl ?_
    refine go_iload_n (pc' := 61) cx dX6_courses_60 rfl rfl ?_
    refine go_aload_n (pc' := 62) cx dX6_courses_61 rfl rfl ?_
    refine go_getr (pc' := 65) cx 105 fX6_65 dX6_courses_62 kq88 (ltn rfl) (ltn rfl) rfl rfl rfl ?_
    refine go_iload_n (pc' := 66) cx dX6_courses_65 rfl rfl ?_
    refine go_iald (pc' := 67) cx x2 dX6_courses_66 kq105 (ltn rfl) (vpi (k := v) (a := 8) (by omega) rfl rfl) ((congrArg ((up2 G2 105 v x2) 105) (cli (k := v) (a := 8) (by omega) rfl)).trans (up2_s G2 105 v x2)) rfl ?_
    refine go_iadd (pc' := 68) cx dX6_courses_67 rfl ?_
    refine go_istore_n (pc' := 69) cx dX6_courses_68 (ltn rfl) [(1, .int (sum + x2)), (3, .int 4), (2, .int (nI v)), (0, .ref (E.2.1 88))] rfl rfl ?_
    refine go_iinc (pc' := 72) cx (nI (v + 1)) dX6_courses_69 rfl (nI_1 v) (ltn rfl) [(2, .int (nI (v + 1))), (1, .int (sum + x2)), (3, .int 4), (0, .ref (E.2.1 88))] rfl rfl ?_
    refine go_goto cx 8 dX6_courses_72 rfl ?_
    refine go_sub [0, 3, 1] [(2, .int (nI (v + 1))), (0, .ref (E.2.1 88)), (1, .int (sum + x2))] rfl ?_
    exact ih (v + 1) (up2 G2 105 v x2) z2 _ (by omega) hI2 (s2.fr (up2_rn _ _ _ (by omega))) (by rw [hs, hx2]; rfl) hZ

set_option maxHeartbeats 1000000 in
set_option maxRecDepth 20000 in
theorem c_X6_courses (l : Launch) (E : Ev) {g : IG} {o : Option Nat} {z : Int64} {hn vn ru tc : Nat} {CS : CSt} (hX : XM g hn vn ru tc CS)  : Ct l E 115 yX6_courses cX6_courses 4 (some .int) 48 [.ref (E.2.1 88)] g (RFo o) z (ZIz (RFo o) (fun x g1 z1 => x = BDs (TMx CS ru) (svM g) vn ∧ FrK g g1 ∧ CWm (TMx CS ru) (svM g) g1 vn ∧ g1 88 39 = sumI (CTs (TMx CS ru) (svM g)) vn ∧ SdI g1 tc CS)) := by
  refine Ct.of (lv0 := [(0, .ref (E.2.1 88))]) (by decide) (Nat.le_of_ble_eq_true rfl) rfl ?_
  intro p e s m below meth c cx
  refine go_iconst (pc' := 1) cx 0 dX6_courses_0 rfl rfl ?_
  refine go_istore_n (pc' := 2) cx dX6_courses_1 (ltn rfl) [(1, .int 0), (0, .ref (E.2.1 88))] rfl rfl ?_
  refine go_aload_n (pc' := 3) cx dX6_courses_2 rfl rfl ?_
  refine go_cVV (pc' := 6) cx (c_X6_layAside l E (g := g)) mX6_layAside lX6_408 dX6_courses_3 kq88 (ltn rfl) (ltn rfl) rfl rfl rfl rfl (ltn rfl) (Nat.le_of_ble_eq_true rfl) (Nat.le_of_ble_eq_true rfl) rfl (fun GL hL => ?_)
  obtain ⟨a1, a2, a3⟩ := hL
  refine go_iconst (pc' := 7) cx 0 dX6_courses_6 rfl rfl ?_
  refine go_istore_n (pc' := 8) cx dX6_courses_7 (ltn rfl) [(2, .int 0), (1, .int 0), (0, .ref (E.2.1 88))] rfl rfl ?_
  refine go_sub [0, 2, 1] [(2, .int 0), (0, .ref (E.2.1 88)), (1, .int 0)] rfl ?_
  have hFL : FrD g GL := fun i k q => a1 i k (by omega)
  have r92 : GL 92 = g 92 := funext fun k => a1 92 k (by omega)
  have r93 : GL 93 = g 93 := funext fun k => a1 93 k (by omega)
  exact crM_loop hX cx vn 0 GL z 0 (by omega) ⟨hFL, a2, by rw [r92]; exact E4.rf, by rw [r93]; exact E4.rf, fun v hv => absurd hv (Nat.not_lt_zero v), a3, by rw [r92]; exact hX.2.2.2.1⟩ (hX.2.2.2.2.2.2.2.2.2.2.fr (funext fun k => a1 102 k (by omega))) rfl (fun G9 z9 q1 q2 q3 q4 => ZIz.mk ⟨rfl, q1, q2, q3, q4⟩)
