/-! THE REFERENCE: what it asks of other salons -/
theorem fos_in (x : Int32) : inX 0 1 x = fosI x := by
  unfold inX fosI
  by_cases h0 : x < 0
  · rw [if_pos h0, if_neg (fun q => absurd (show x < 0 from h0) (by rw [q]; decide)), if_neg (fun q => absurd (show x < 0 from h0) (by rw [q]; decide))]
  · rw [if_neg h0]
    obtain ⟨j, hj, rfl⟩ := nI_of h0
    by_cases e0 : j = 0
    · subst e0; decide
    · by_cases e1 : j = 1
      · subst e1; decide
      · rw [if_pos (show (1 : Int32) < nI j from (nI_ltI (a := 1) (by omega) hj).mpr (by omega)), if_neg (show ¬ nI j = 0 from fun q => e0 ((nI_eq (b := 0) hj (by omega)).mp q)), if_neg (show ¬ nI j = 1 from fun q => e1 ((nI_eq (b := 1) hj (by omega)).mp q))]
/-- but for a row of the visits and what any asking may write -/
def FrW (w : Nat) (g0 g : IG) : Prop := ∀ i k, ¬ (i = w ∧ k < 8 ∨ (102 ≤ i ∧ i ≤ 107) ∨ (i = 88 ∧ (20 ≤ k ∧ k ≤ 37 ∨ k = 39))) → g i k = g0 i k
theorem FrW.tr {w : Nat} {g0 g g1 : IG} (h : FrW w g0 g) (h1 : FrW w g g1) : FrW w g0 g1 := fun i k q => (h1 i k q).trans (h i k q)
theorem FrK.fw {w : Nat} {g0 g : IG} (h : FrK g0 g) : FrW w g0 g := fun i k q => h i k (by omega)
theorem FrW.up {w : Nat} {g0 g : IG} {k : Nat} {v : Int32} (h : FrW w g0 g) (hk : k < 8) : FrW w g0 (up2 g w k v) := fun a b q => by
  rw [up2_n _ _ (by omega)]
  exact h a b q
theorem FrW.sv {j : Nat} (hj : j = 7 ∨ j = 8 ∨ j = 9) {g G : IG} (h : FrW (92 + j) g G) : ∀ i k, i ≠ j → svM G i k = svM g i k := by
  intro i k hi
  rcases hj with rfl | rfl | rfl
  · by_cases h0 : i = 0
    · subst h0
      exact h 92 k (by omega)
    by_cases h1 : i = 1
    · subst h1
      exact h 93 k (by omega)
    by_cases h2 : i = 2
    · subst h2
      exact h 94 k (by omega)
    by_cases h3 : i = 3
    · subst h3
      exact h 88 10 (by omega)
    by_cases h4 : i = 4
    · subst h4
      exact h 96 k (by omega)
    by_cases h5 : i = 5
    · subst h5
      exact h 97 k (by omega)
    by_cases h6 : i = 6
    · subst h6
      exact h 98 k (by omega)
    by_cases h7 : i = 7
    · exact absurd h7 hi
    by_cases h8 : i = 8
    · subst h8
      exact h 100 k (by omega)
    by_cases h9 : i = 9
    · subst h9
      exact h 101 k (by omega)
    have e : ∀ y : IG, svM y i = y 95 := fun y => by
      unfold svM
      rw [if_neg h0, if_neg h1, if_neg h2, if_neg h3, if_neg h4, if_neg h5, if_neg h6, if_neg h7, if_neg h8, if_neg h9]
    rw [e, e]
    exact h 95 k (by omega)
  · by_cases h0 : i = 0
    · subst h0
      exact h 92 k (by omega)
    by_cases h1 : i = 1
    · subst h1
      exact h 93 k (by omega)
    by_cases h2 : i = 2
    · subst h2
      exact h 94 k (by omega)
    by_cases h3 : i = 3
    · subst h3
      exact h 88 10 (by omega)
    by_cases h4 : i = 4
    · subst h4
      exact h 96 k (by omega)
    by_cases h5 : i = 5
    · subst h5
      exact h 97 k (by omega)
    by_cases h6 : i = 6
    · subst h6
      exact h 98 k (by omega)
    by_cases h7 : i = 7
    · subst h7
      exact h 99 k (by omega)
    by_cases h8 : i = 8
    · exact absurd h8 hi
    by_cases h9 : i = 9
    · subst h9
      exact h 101 k (by omega)
    have e : ∀ y : IG, svM y i = y 95 := fun y => by
      unfold svM
      rw [if_neg h0, if_neg h1, if_neg h2, if_neg h3, if_neg h4, if_neg h5, if_neg h6, if_neg h7, if_neg h8, if_neg h9]
    rw [e, e]
    exact h 95 k (by omega)
  · by_cases h0 : i = 0
    · subst h0
      exact h 92 k (by omega)
    by_cases h1 : i = 1
    · subst h1
      exact h 93 k (by omega)
    by_cases h2 : i = 2
    · subst h2
      exact h 94 k (by omega)
    by_cases h3 : i = 3
    · subst h3
      exact h 88 10 (by omega)
    by_cases h4 : i = 4
    · subst h4
      exact h 96 k (by omega)
    by_cases h5 : i = 5
    · subst h5
      exact h 97 k (by omega)
    by_cases h6 : i = 6
    · subst h6
      exact h 98 k (by omega)
    by_cases h7 : i = 7
    · subst h7
      exact h 99 k (by omega)
    by_cases h8 : i = 8
    · subst h8
      exact h 100 k (by omega)
    by_cases h9 : i = 9
    · exact absurd h9 hi
    have e : ∀ y : IG, svM y i = y 95 := fun y => by
      unfold svM
      rw [if_neg h0, if_neg h1, if_neg h2, if_neg h3, if_neg h4, if_neg h5, if_neg h6, if_neg h7, if_neg h8, if_neg h9]
    rw [e, e]
    exact h 95 k (by omega)
theorem FrW.c {w : Nat} {g0 g : IG} (h : FrW w g0 g) {i : Nat} (h1 : ¬ (102 ≤ i ∧ i ≤ 107)) (h2 : i ≠ 88) (h3 : i ≠ w) : g i = g0 i := funext fun k => h i k (by omega)
theorem XM.fw {j : Nat} (hj : j = 7 ∨ j = 8 ∨ j = 9) {g g1 : IG} {hn vn ru tc : Nat} {CS : CSt} (h : XM g hn vn ru tc CS) (hF : FrW (92 + j) g g1) (hS : SdI g1 tc CS) (hH : HdS (svM g1) hn vn) : XM g1 hn vn ru tc CS :=
  ⟨h.1, (hF 88 15 (by omega)).trans h.2.1, (hF 88 19 (by omega)).trans h.2.2.1, by rw [hF.c (by omega) (by omega) (by omega)]; exact h.2.2.2.1, hH, h.2.2.2.2.2.1, h.2.2.2.2.2.2.1, (hF 88 4 (by omega)).trans h.2.2.2.2.2.2.2.1, (hF 88 3 (by omega)).trans h.2.2.2.2.2.2.2.2.1, fun t ht => (h.2.2.2.2.2.2.2.2.2.1 t ht).fr (hF.c (by omega) (by omega) (by omega)) (hF.c (by omega) (by omega) (by omega)), hS⟩
theorem reqW {j : Nat} (hj : j = 7 ∨ j = 8 ∨ j = 9) {g G : IG} {b : Sv} {hn vn : Nat} (hF : FrW (92 + j) g G) (hb : ∀ i k, i ≠ j → b i k = svM g i k) (hr : ∀ k, k < vn → svM G j k = b j k) : Req (svM G) b hn vn := by
  have e : ∀ i k, i ≠ j → svM G i k = b i k := fun i k q => (hF.sv hj i k q).trans (hb i k q).symm
  refine ⟨fun p _ => e _ _ (by omega), fun p _ => e _ _ (by omega), fun p _ => e _ _ (by omega), e _ _ (by omega), fun i k hi _ => e _ _ (by omega), fun i k hi hk => ?_⟩
  by_cases q : i = j
  · rw [q]
    exact hr k hk
  · exact e _ _ q
/-- but for what any asking may write, the kept rows too -/
def FrJ (g0 g : IG) : Prop := ∀ i k, ¬ ((102 ≤ i ∧ i ≤ 107) ∨ (i = 88 ∧ (20 ≤ k ∧ k ≤ 37 ∨ k = 39))) → g i k = g0 i k
theorem FrJ.rf {g : IG} : FrJ g g := fun _ _ _ => rfl
theorem FrJ.tr {g0 g g1 : IG} (h : FrJ g0 g) (h1 : FrJ g g1) : FrJ g0 g1 := fun i k q => (h1 i k q).trans (h i k q)
theorem FrK.j {g0 g : IG} (h : FrK g0 g) : FrJ g0 g := fun i k q => h i k (by omega)
def KpS (g G : IG) : Prop := ∀ k, k < 8 → G 106 k = g 101 k ∧ G 107 k = g 99 k
theorem KpS.fr {g G G1 : IG} (h : KpS g G) (h1 : G1 106 = G 106) (h2 : G1 107 = G 107) : KpS g G1 := by
  unfold KpS
  rw [h1, h2]
  exact h
/-- laid back -/
theorem FrW.j {w : Nat} (hw : w = 99 ∨ w = 101) {g G G1 : IG} (h : FrW w g G) (hK : KpS g G) (ho : ∀ i k, ¬ ((i = 99 ∨ i = 101) ∧ k < 8) → G1 i k = G i k) (h2 : ∀ k, k < 8 → G1 101 k = G 106 k ∧ G1 99 k = G 107 k) : FrJ g G1 := by
  intro i k q
  by_cases h9 : (i = 99 ∨ i = 101) ∧ k < 8
  · obtain ⟨rfl | rfl, hk⟩ := h9
    · exact (h2 k hk).2.trans (hK k hk).2
    · exact (h2 k hk).1.trans (hK k hk).1
  · rw [ho i k h9]
    exact h i k (by omega)
theorem mns_sn {f : Nat → Int32} {n : Nat} (h : mns f n = none) : mns f (n + 1) = some n := by
  show (match mns f n with | none => some n | some w => if f n < f w then some n else some w) = some n
  rw [h]
theorem mns_ss {f : Nat → Int32} {n w : Nat} (h : mns f n = some w) : mns f (n + 1) = if f n < f w then some n else some w := by
  show (match mns f n with | none => some n | some w => if f n < f w then some n else some w) = _
  rw [h]

set_option maxHeartbeats 1000000 in
set_option maxRecDepth 20000 in
theorem c_X6_keeps (l : Launch) (E : Ev) {g : IG} {o : Option Nat} {z : Int64}  : Ct l E 115 yX6_keeps cX6_keeps 2 none 1 [.ref (E.2.1 88)] g (RFo o) z (ZV (RFo o) z (fun g1 => (∀ i k, ¬ (i = 106 ∨ i = 107) → g1 i k = g i k) ∧ KpS g g1)) := by
  refine Ct.of (lv0 := [(0, .ref (E.2.1 88))]) (by decide) (Nat.le_of_ble_eq_true rfl) rfl ?_
  intro p e s m below meth c cx
  refine go_iconst (pc' := 1) cx 0 dX6_keeps_0 rfl rfl ?_
  refine go_istore_n (pc' := 2) cx dX6_keeps_1 (ltn rfl) [(1, .int 0), (0, .ref (E.2.1 88))] rfl rfl ?_
  refine go_iload_n (pc' := 3) cx dX6_keeps_2 rfl rfl ?_
  refine go_bipush (pc' := 5) cx 8 dX6_keeps_3 rfl rfl ?_
  refine go_icmp_ge (pc' := 8) cx 38 dX6_keeps_5 rfl rfl (fun hh => absurd hh (by decide)) (fun _ => ?_)
  refine go_aload_n (pc' := 9) cx dX6_keeps_8 rfl rfl ?_
  refine go_getr (pc' := 12) cx 106 fX6_68 dX6_keeps_9 kq88 (ltn rfl) (ltn rfl) rfl rfl rfl ?_
  refine go_iload_n (pc' := 13) cx dX6_keeps_12 rfl rfl ?_
  refine go_aload_n (pc' := 14) cx dX6_keeps_13 rfl rfl ?_
  refine go_getr (pc' := 17) cx 101 fX6_53 dX6_keeps_14 kq88 (ltn rfl) (ltn rfl) rfl rfl rfl ?_
  refine go_iload_n (pc' := 18) cx dX6_keeps_17 rfl rfl ?_
  refine go_iald (pc' := 19) cx (g 101 0) dX6_keeps_18 kq101 (ltn rfl) (vpi (k := 0) (a := 1) (ltn rfl) rfl rfl) (congrArg (g 101) (cli (k := 0) (a := 1) (ltn rfl) rfl)) rfl ?_
  refine go_iastk (pc' := 20) cx 0 dX6_keeps_19 kq106 (ltn rfl) (vpi (k := 0) (a := 1) (ltn rfl) rfl rfl) (cli (k := 0) (a := 1) (ltn rfl) rfl) rfl ?_
  refine go_aload_n (pc' := 21) cx dX6_keeps_20 rfl rfl ?_
  refine go_getr (pc' := 24) cx 107 fX6_71 dX6_keeps_21 kq88 (ltn rfl) (ltn rfl) rfl rfl rfl ?_
  refine go_iload_n (pc' := 25) cx dX6_keeps_24 rfl rfl ?_
  refine go_aload_n (pc' := 26) cx dX6_keeps_25 rfl rfl ?_
  refine go_getr (pc' := 29) cx 99 fX6_47 dX6_keeps_26 kq88 (ltn rfl) (ltn rfl) rfl rfl rfl ?_
  refine go_iload_n (pc' := 30) cx dX6_keeps_29 rfl rfl ?_
  refine go_iald (pc' := 31) cx (g 99 0) dX6_keeps_30 kq99 (ltn rfl) (vpi (k := 0) (a := 1) (ltn rfl) rfl rfl) ((congrArg ((up2 g 106 0 (g 101 0)) 99) (cli (k := 0) (a := 1) (ltn rfl) rfl)).trans (up2_n g (g 101 0) (Or.inl (Nat.ne_of_beq_eq_false rfl)))) rfl ?_
  refine go_iastk (pc' := 32) cx 0 dX6_keeps_31 kq107 (ltn rfl) (vpi (k := 0) (a := 1) (ltn rfl) rfl rfl) (cli (k := 0) (a := 1) (ltn rfl) rfl) rfl ?_
  refine go_iinc (pc' := 35) cx 1 dX6_keeps_32 rfl rfl (ltn rfl) [(1, .int 1), (0, .ref (E.2.1 88))] rfl rfl ?_
  refine go_goto cx 2 dX6_keeps_35 rfl ?_
  refine go_iload_n (pc' := 3) cx dX6_keeps_2 rfl rfl ?_
  refine go_bipush (pc' := 5) cx 8 dX6_keeps_3 rfl rfl ?_
  refine go_icmp_ge (pc' := 8) cx 38 dX6_keeps_5 rfl rfl (fun hh => absurd hh (by decide)) (fun _ => ?_)
  refine go_aload_n (pc' := 9) cx dX6_keeps_8 rfl rfl ?_
  refine go_getr (pc' := 12) cx 106 fX6_68 dX6_keeps_9 kq88 (ltn rfl) (ltn rfl) rfl rfl rfl ?_
  refine go_iload_n (pc' := 13) cx dX6_keeps_12 rfl rfl ?_
  refine go_aload_n (pc' := 14) cx dX6_keeps_13 rfl rfl ?_
  refine go_getr (pc' := 17) cx 101 fX6_53 dX6_keeps_14 kq88 (ltn rfl) (ltn rfl) rfl rfl rfl ?_
  refine go_iload_n (pc' := 18) cx dX6_keeps_17 rfl rfl ?_
  refine go_iald (pc' := 19) cx (g 101 1) dX6_keeps_18 kq101 (ltn rfl) (vpi (k := 1) (a := 2) (ltn rfl) rfl rfl) ((congrArg ((up2 (up2 g 106 0 (g 101 0)) 107 0 (g 99 0)) 101) (cli (k := 1) (a := 2) (ltn rfl) rfl)).trans ((up2_n (up2 g 106 0 (g 101 0)) (g 99 0) (Or.inl (Nat.ne_of_beq_eq_false rfl))).trans (up2_n g (g 101 0) (Or.inl (Nat.ne_of_beq_eq_false rfl))))) rfl ?_
  refine go_iastk (pc' := 20) cx 1 dX6_keeps_19 kq106 (ltn rfl) (vpi (k := 1) (a := 2) (ltn rfl) rfl rfl) (cli (k := 1) (a := 2) (ltn rfl) rfl) rfl ?_
  refine go_aload_n (pc' := 21) cx dX6_keeps_20 rfl rfl ?_
  refine go_getr (pc' := 24) cx 107 fX6_71 dX6_keeps_21 kq88 (ltn rfl) (ltn rfl) rfl rfl rfl ?_
  refine go_iload_n (pc' := 25) cx dX6_keeps_24 rfl rfl ?_
  refine go_aload_n (pc' := 26) cx dX6_keeps_25 rfl rfl ?_
  refine go_getr (pc' := 29) cx 99 fX6_47 dX6_keeps_26 kq88 (ltn rfl) (ltn rfl) rfl rfl rfl ?_
  refine go_iload_n (pc' := 30) cx dX6_keeps_29 rfl rfl ?_
  refine go_iald (pc' := 31) cx (g 99 1) dX6_keeps_30 kq99 (ltn rfl) (vpi (k := 1) (a := 2) (ltn rfl) rfl rfl) ((congrArg ((up2 (up2 (up2 g 106 0 (g 101 0)) 107 0 (g 99 0)) 106 1 (g 101 1)) 99) (cli (k := 1) (a := 2) (ltn rfl) rfl)).trans ((up2_n (up2 (up2 g 106 0 (g 101 0)) 107 0 (g 99 0)) (g 101 1) (Or.inl (Nat.ne_of_beq_eq_false rfl))).trans ((up2_n (up2 g 106 0 (g 101 0)) (g 99 0) (Or.inl (Nat.ne_of_beq_eq_false rfl))).trans (up2_n g (g 101 0) (Or.inl (Nat.ne_of_beq_eq_false rfl)))))) rfl ?_
  refine go_iastk (pc' := 32) cx 1 dX6_keeps_31 kq107 (ltn rfl) (vpi (k := 1) (a := 2) (ltn rfl) rfl rfl) (cli (k := 1) (a := 2) (ltn rfl) rfl) rfl ?_
  refine go_iinc (pc' := 35) cx 2 dX6_keeps_32 rfl rfl (ltn rfl) [(1, .int 2), (0, .ref (E.2.1 88))] rfl rfl ?_
  refine go_goto cx 2 dX6_keeps_35 rfl ?_
  refine go_iload_n (pc' := 3) cx dX6_keeps_2 rfl rfl ?_
  refine go_bipush (pc' := 5) cx 8 dX6_keeps_3 rfl rfl ?_
  refine go_icmp_ge (pc' := 8) cx 38 dX6_keeps_5 rfl rfl (fun hh => absurd hh (by decide)) (fun _ => ?_)
  refine go_aload_n (pc' := 9) cx dX6_keeps_8 rfl rfl ?_
  refine go_getr (pc' := 12) cx 106 fX6_68 dX6_keeps_9 kq88 (ltn rfl) (ltn rfl) rfl rfl rfl ?_
  refine go_iload_n (pc' := 13) cx dX6_keeps_12 rfl rfl ?_
  refine go_aload_n (pc' := 14) cx dX6_keeps_13 rfl rfl ?_
  refine go_getr (pc' := 17) cx 101 fX6_53 dX6_keeps_14 kq88 (ltn rfl) (ltn rfl) rfl rfl rfl ?_
  refine go_iload_n (pc' := 18) cx dX6_keeps_17 rfl rfl ?_
  refine go_iald (pc' := 19) cx (g 101 2) dX6_keeps_18 kq101 (ltn rfl) (vpi (k := 2) (a := 3) (ltn rfl) rfl rfl) ((congrArg ((up2 (up2 (up2 (up2 g 106 0 (g 101 0)) 107 0 (g 99 0)) 106 1 (g 101 1)) 107 1 (g 99 1)) 101) (cli (k := 2) (a := 3) (ltn rfl) rfl)).trans ((up2_n (up2 (up2 (up2 g 106 0 (g 101 0)) 107 0 (g 99 0)) 106 1 (g 101 1)) (g 99 1) (Or.inl (Nat.ne_of_beq_eq_false rfl))).trans ((up2_n (up2 (up2 g 106 0 (g 101 0)) 107 0 (g 99 0)) (g 101 1) (Or.inl (Nat.ne_of_beq_eq_false rfl))).trans ((up2_n (up2 g 106 0 (g 101 0)) (g 99 0) (Or.inl (Nat.ne_of_beq_eq_false rfl))).trans (up2_n g (g 101 0) (Or.inl (Nat.ne_of_beq_eq_false rfl))))))) rfl ?_
  refine go_iastk (pc' := 20) cx 2 dX6_keeps_19 kq106 (ltn rfl) (vpi (k := 2) (a := 3) (ltn rfl) rfl rfl) (cli (k := 2) (a := 3) (ltn rfl) rfl) rfl ?_
  refine go_aload_n (pc' := 21) cx dX6_keeps_20 rfl rfl ?_
  refine go_getr (pc' := 24) cx 107 fX6_71 dX6_keeps_21 kq88 (ltn rfl) (ltn rfl) rfl rfl rfl ?_
  refine go_iload_n (pc' := 25) cx dX6_keeps_24 rfl rfl ?_
  refine go_aload_n (pc' := 26) cx dX6_keeps_25 rfl rfl ?_
  refine go_getr (pc' := 29) cx 99 fX6_47 dX6_keeps_26 kq88 (ltn rfl) (ltn rfl) rfl rfl rfl ?_
  refine go_iload_n (pc' := 30) cx dX6_keeps_29 rfl rfl ?_
  refine go_iald (pc' := 31) cx (g 99 2) dX6_keeps_30 kq99 (ltn rfl) (vpi (k := 2) (a := 3) (ltn rfl) rfl rfl) ((congrArg ((up2 (up2 (up2 (up2 (up2 g 106 0 (g 101 0)) 107 0 (g 99 0)) 106 1 (g 101 1)) 107 1 (g 99 1)) 106 2 (g 101 2)) 99) (cli (k := 2) (a := 3) (ltn rfl) rfl)).trans ((up2_n (up2 (up2 (up2 (up2 g 106 0 (g 101 0)) 107 0 (g 99 0)) 106 1 (g 101 1)) 107 1 (g 99 1)) (g 101 2) (Or.inl (Nat.ne_of_beq_eq_false rfl))).trans ((up2_n (up2 (up2 (up2 g 106 0 (g 101 0)) 107 0 (g 99 0)) 106 1 (g 101 1)) (g 99 1) (Or.inl (Nat.ne_of_beq_eq_false rfl))).trans ((up2_n (up2 (up2 g 106 0 (g 101 0)) 107 0 (g 99 0)) (g 101 1) (Or.inl (Nat.ne_of_beq_eq_false rfl))).trans ((up2_n (up2 g 106 0 (g 101 0)) (g 99 0) (Or.inl (Nat.ne_of_beq_eq_false rfl))).trans (up2_n g (g 101 0) (Or.inl (Nat.ne_of_beq_eq_false rfl)))))))) rfl ?_
  refine go_iastk (pc' := 32) cx 2 dX6_keeps_31 kq107 (ltn rfl) (vpi (k := 2) (a := 3) (ltn rfl) rfl rfl) (cli (k := 2) (a := 3) (ltn rfl) rfl) rfl ?_
  refine go_iinc (pc' := 35) cx 3 dX6_keeps_32 rfl rfl (ltn rfl) [(1, .int 3), (0, .ref (E.2.1 88))] rfl rfl ?_
  refine go_goto cx 2 dX6_keeps_35 rfl ?_
  refine go_iload_n (pc' := 3) cx dX6_keeps_2 rfl rfl ?_
  refine go_bipush (pc' := 5) cx 8 dX6_keeps_3 rfl rfl ?_
  refine go_icmp_ge (pc' := 8) cx 38 dX6_keeps_5 rfl rfl (fun hh => absurd hh (by decide)) (fun _ => ?_)
  refine go_aload_n (pc' := 9) cx dX6_keeps_8 rfl rfl ?_
  refine go_getr (pc' := 12) cx 106 fX6_68 dX6_keeps_9 kq88 (ltn rfl) (ltn rfl) rfl rfl rfl ?_
  refine go_iload_n (pc' := 13) cx dX6_keeps_12 rfl rfl ?_
  refine go_aload_n (pc' := 14) cx dX6_keeps_13 rfl rfl ?_
  refine go_getr (pc' := 17) cx 101 fX6_53 dX6_keeps_14 kq88 (ltn rfl) (ltn rfl) rfl rfl rfl ?_
  refine go_iload_n (pc' := 18) cx dX6_keeps_17 rfl rfl ?_
  refine go_iald (pc' := 19) cx (g 101 3) dX6_keeps_18 kq101 (ltn rfl) (vpi (k := 3) (a := 4) (ltn rfl) rfl rfl) ((congrArg ((up2 (up2 (up2 (up2 (up2 (up2 g 106 0 (g 101 0)) 107 0 (g 99 0)) 106 1 (g 101 1)) 107 1 (g 99 1)) 106 2 (g 101 2)) 107 2 (g 99 2)) 101) (cli (k := 3) (a := 4) (ltn rfl) rfl)).trans ((up2_n (up2 (up2 (up2 (up2 (up2 g 106 0 (g 101 0)) 107 0 (g 99 0)) 106 1 (g 101 1)) 107 1 (g 99 1)) 106 2 (g 101 2)) (g 99 2) (Or.inl (Nat.ne_of_beq_eq_false rfl))).trans ((up2_n (up2 (up2 (up2 (up2 g 106 0 (g 101 0)) 107 0 (g 99 0)) 106 1 (g 101 1)) 107 1 (g 99 1)) (g 101 2) (Or.inl (Nat.ne_of_beq_eq_false rfl))).trans ((up2_n (up2 (up2 (up2 g 106 0 (g 101 0)) 107 0 (g 99 0)) 106 1 (g 101 1)) (g 99 1) (Or.inl (Nat.ne_of_beq_eq_false rfl))).trans ((up2_n (up2 (up2 g 106 0 (g 101 0)) 107 0 (g 99 0)) (g 101 1) (Or.inl (Nat.ne_of_beq_eq_false rfl))).trans ((up2_n (up2 g 106 0 (g 101 0)) (g 99 0) (Or.inl (Nat.ne_of_beq_eq_false rfl))).trans (up2_n g (g 101 0) (Or.inl (Nat.ne_of_beq_eq_false rfl))))))))) rfl ?_
  refine go_iastk (pc' := 20) cx 3 dX6_keeps_19 kq106 (ltn rfl) (vpi (k := 3) (a := 4) (ltn rfl) rfl rfl) (cli (k := 3) (a := 4) (ltn rfl) rfl) rfl ?_
  refine go_aload_n (pc' := 21) cx dX6_keeps_20 rfl rfl ?_
  refine go_getr (pc' := 24) cx 107 fX6_71 dX6_keeps_21 kq88 (ltn rfl) (ltn rfl) rfl rfl rfl ?_
  refine go_iload_n (pc' := 25) cx dX6_keeps_24 rfl rfl ?_
  refine go_aload_n (pc' := 26) cx dX6_keeps_25 rfl rfl ?_
  refine go_getr (pc' := 29) cx 99 fX6_47 dX6_keeps_26 kq88 (ltn rfl) (ltn rfl) rfl rfl rfl ?_
  refine go_iload_n (pc' := 30) cx dX6_keeps_29 rfl rfl ?_
  refine go_iald (pc' := 31) cx (g 99 3) dX6_keeps_30 kq99 (ltn rfl) (vpi (k := 3) (a := 4) (ltn rfl) rfl rfl) ((congrArg ((up2 (up2 (up2 (up2 (up2 (up2 (up2 g 106 0 (g 101 0)) 107 0 (g 99 0)) 106 1 (g 101 1)) 107 1 (g 99 1)) 106 2 (g 101 2)) 107 2 (g 99 2)) 106 3 (g 101 3)) 99) (cli (k := 3) (a := 4) (ltn rfl) rfl)).trans ((up2_n (up2 (up2 (up2 (up2 (up2 (up2 g 106 0 (g 101 0)) 107 0 (g 99 0)) 106 1 (g 101 1)) 107 1 (g 99 1)) 106 2 (g 101 2)) 107 2 (g 99 2)) (g 101 3) (Or.inl (Nat.ne_of_beq_eq_false rfl))).trans ((up2_n (up2 (up2 (up2 (up2 (up2 g 106 0 (g 101 0)) 107 0 (g 99 0)) 106 1 (g 101 1)) 107 1 (g 99 1)) 106 2 (g 101 2)) (g 99 2) (Or.inl (Nat.ne_of_beq_eq_false rfl))).trans ((up2_n (up2 (up2 (up2 (up2 g 106 0 (g 101 0)) 107 0 (g 99 0)) 106 1 (g 101 1)) 107 1 (g 99 1)) (g 101 2) (Or.inl (Nat.ne_of_beq_eq_false rfl))).trans ((up2_n (up2 (up2 (up2 g 106 0 (g 101 0)) 107 0 (g 99 0)) 106 1 (g 101 1)) (g 99 1) (Or.inl (Nat.ne_of_beq_eq_false rfl))).trans ((up2_n (up2 (up2 g 106 0 (g 101 0)) 107 0 (g 99 0)) (g 101 1) (Or.inl (Nat.ne_of_beq_eq_false rfl))).trans ((up2_n (up2 g 106 0 (g 101 0)) (g 99 0) (Or.inl (Nat.ne_of_beq_eq_false rfl))).trans (up2_n g (g 101 0) (Or.inl (Nat.ne_of_beq_eq_false rfl)))))))))) rfl ?_
  refine go_iastk (pc' := 32) cx 3 dX6_keeps_31 kq107 (ltn rfl) (vpi (k := 3) (a := 4) (ltn rfl) rfl rfl) (cli (k := 3) (a := 4) (ltn rfl) rfl) rfl ?_
  refine go_iinc (pc' := 35) cx 4 dX6_keeps_32 rfl rfl (ltn rfl) [(1, .int 4), (0, .ref (E.2.1 88))] rfl rfl ?_
  refine go_goto cx 2 dX6_keeps_35 rfl ?_
  refine go_iload_n (pc' := 3) cx dX6_keeps_2 rfl rfl ?_
  refine go_bipush (pc' := 5) cx 8 dX6_keeps_3 rfl rfl ?_
  refine go_icmp_ge (pc' := 8) cx 38 dX6_keeps_5 rfl rfl (fun hh => absurd hh (by decide)) (fun _ => ?_)
  refine go_aload_n (pc' := 9) cx dX6_keeps_8 rfl rfl ?_
  refine go_getr (pc' := 12) cx 106 fX6_68 dX6_keeps_9 kq88 (ltn rfl) (ltn rfl) rfl rfl rfl ?_
  refine go_iload_n (pc' := 13) cx dX6_keeps_12 rfl rfl ?_
  refine go_aload_n (pc' := 14) cx dX6_keeps_13 rfl rfl ?_
  refine go_getr (pc' := 17) cx 101 fX6_53 dX6_keeps_14 kq88 (ltn rfl) (ltn rfl) rfl rfl rfl ?_
  refine go_iload_n (pc' := 18) cx dX6_keeps_17 rfl rfl ?_
  refine go_iald (pc' := 19) cx (g 101 4) dX6_keeps_18 kq101 (ltn rfl) (vpi (k := 4) (a := 5) (ltn rfl) rfl rfl) ((congrArg ((up2 (up2 (up2 (up2 (up2 (up2 (up2 (up2 g 106 0 (g 101 0)) 107 0 (g 99 0)) 106 1 (g 101 1)) 107 1 (g 99 1)) 106 2 (g 101 2)) 107 2 (g 99 2)) 106 3 (g 101 3)) 107 3 (g 99 3)) 101) (cli (k := 4) (a := 5) (ltn rfl) rfl)).trans ((up2_n (up2 (up2 (up2 (up2 (up2 (up2 (up2 g 106 0 (g 101 0)) 107 0 (g 99 0)) 106 1 (g 101 1)) 107 1 (g 99 1)) 106 2 (g 101 2)) 107 2 (g 99 2)) 106 3 (g 101 3)) (g 99 3) (Or.inl (Nat.ne_of_beq_eq_false rfl))).trans ((up2_n (up2 (up2 (up2 (up2 (up2 (up2 g 106 0 (g 101 0)) 107 0 (g 99 0)) 106 1 (g 101 1)) 107 1 (g 99 1)) 106 2 (g 101 2)) 107 2 (g 99 2)) (g 101 3) (Or.inl (Nat.ne_of_beq_eq_false rfl))).trans ((up2_n (up2 (up2 (up2 (up2 (up2 g 106 0 (g 101 0)) 107 0 (g 99 0)) 106 1 (g 101 1)) 107 1 (g 99 1)) 106 2 (g 101 2)) (g 99 2) (Or.inl (Nat.ne_of_beq_eq_false rfl))).trans ((up2_n (up2 (up2 (up2 (up2 g 106 0 (g 101 0)) 107 0 (g 99 0)) 106 1 (g 101 1)) 107 1 (g 99 1)) (g 101 2) (Or.inl (Nat.ne_of_beq_eq_false rfl))).trans ((up2_n (up2 (up2 (up2 g 106 0 (g 101 0)) 107 0 (g 99 0)) 106 1 (g 101 1)) (g 99 1) (Or.inl (Nat.ne_of_beq_eq_false rfl))).trans ((up2_n (up2 (up2 g 106 0 (g 101 0)) 107 0 (g 99 0)) (g 101 1) (Or.inl (Nat.ne_of_beq_eq_false rfl))).trans ((up2_n (up2 g 106 0 (g 101 0)) (g 99 0) (Or.inl (Nat.ne_of_beq_eq_false rfl))).trans (up2_n g (g 101 0) (Or.inl (Nat.ne_of_beq_eq_false rfl))))))))))) rfl ?_
  refine go_iastk (pc' := 20) cx 4 dX6_keeps_19 kq106 (ltn rfl) (vpi (k := 4) (a := 5) (ltn rfl) rfl rfl) (cli (k := 4) (a := 5) (ltn rfl) rfl) rfl ?_
  refine go_aload_n (pc' := 21) cx dX6_keeps_20 rfl rfl ?_
  refine go_getr (pc' := 24) cx 107 fX6_71 dX6_keeps_21 kq88 (ltn rfl) (ltn rfl) rfl rfl rfl ?_
  refine go_iload_n (pc' := 25) cx dX6_keeps_24 rfl rfl ?_
  refine go_aload_n (pc' := 26) cx dX6_keeps_25 rfl rfl ?_
  refine go_getr (pc' := 29) cx 99 fX6_47 dX6_keeps_26 kq88 (ltn rfl) (ltn rfl) rfl rfl rfl ?_
  refine go_iload_n (pc' := 30) cx dX6_keeps_29 rfl rfl ?_
  refine go_iald (pc' := 31) cx (g 99 4) dX6_keeps_30 kq99 (ltn rfl) (vpi (k := 4) (a := 5) (ltn rfl) rfl rfl) ((congrArg ((up2 (up2 (up2 (up2 (up2 (up2 (up2 (up2 (up2 g 106 0 (g 101 0)) 107 0 (g 99 0)) 106 1 (g 101 1)) 107 1 (g 99 1)) 106 2 (g 101 2)) 107 2 (g 99 2)) 106 3 (g 101 3)) 107 3 (g 99 3)) 106 4 (g 101 4)) 99) (cli (k := 4) (a := 5) (ltn rfl) rfl)).trans ((up2_n (up2 (up2 (up2 (up2 (up2 (up2 (up2 (up2 g 106 0 (g 101 0)) 107 0 (g 99 0)) 106 1 (g 101 1)) 107 1 (g 99 1)) 106 2 (g 101 2)) 107 2 (g 99 2)) 106 3 (g 101 3)) 107 3 (g 99 3)) (g 101 4) (Or.inl (Nat.ne_of_beq_eq_false rfl))).trans ((up2_n (up2 (up2 (up2 (up2 (up2 (up2 (up2 g 106 0 (g 101 0)) 107 0 (g 99 0)) 106 1 (g 101 1)) 107 1 (g 99 1)) 106 2 (g 101 2)) 107 2 (g 99 2)) 106 3 (g 101 3)) (g 99 3) (Or.inl (Nat.ne_of_beq_eq_false rfl))).trans ((up2_n (up2 (up2 (up2 (up2 (up2 (up2 g 106 0 (g 101 0)) 107 0 (g 99 0)) 106 1 (g 101 1)) 107 1 (g 99 1)) 106 2 (g 101 2)) 107 2 (g 99 2)) (g 101 3) (Or.inl (Nat.ne_of_beq_eq_false rfl))).trans ((up2_n (up2 (up2 (up2 (up2 (up2 g 106 0 (g 101 0)) 107 0 (g 99 0)) 106 1 (g 101 1)) 107 1 (g 99 1)) 106 2 (g 101 2)) (g 99 2) (Or.inl (Nat.ne_of_beq_eq_false rfl))).trans ((up2_n (up2 (up2 (up2 (up2 g 106 0 (g 101 0)) 107 0 (g 99 0)) 106 1 (g 101 1)) 107 1 (g 99 1)) (g 101 2) (Or.inl (Nat.ne_of_beq_eq_false rfl))).trans ((up2_n (up2 (up2 (up2 g 106 0 (g 101 0)) 107 0 (g 99 0)) 106 1 (g 101 1)) (g 99 1) (Or.inl (Nat.ne_of_beq_eq_false rfl))).trans ((up2_n (up2 (up2 g 106 0 (g 101 0)) 107 0 (g 99 0)) (g 101 1) (Or.inl (Nat.ne_of_beq_eq_false rfl))).trans ((up2_n (up2 g 106 0 (g 101 0)) (g 99 0) (Or.inl (Nat.ne_of_beq_eq_false rfl))).trans (up2_n g (g 101 0) (Or.inl (Nat.ne_of_beq_eq_false rfl)))))))))))) rfl ?_
  refine go_iastk (pc' := 32) cx 4 dX6_keeps_31 kq107 (ltn rfl) (vpi (k := 4) (a := 5) (ltn rfl) rfl rfl) (cli (k := 4) (a := 5) (ltn rfl) rfl) rfl ?_
  refine go_iinc (pc' := 35) cx 5 dX6_keeps_32 rfl rfl (ltn rfl) [(1, .int 5), (0, .ref (E.2.1 88))] rfl rfl ?_
  refine go_goto cx 2 dX6_keeps_35 rfl ?_
  refine go_iload_n (pc' := 3) cx dX6_keeps_2 rfl rfl ?_
  refine go_bipush (pc' := 5) cx 8 dX6_keeps_3 rfl rfl ?_
  refine go_icmp_ge (pc' := 8) cx 38 dX6_keeps_5 rfl rfl (fun hh => absurd hh (by decide)) (fun _ => ?_)
  refine go_aload_n (pc' := 9) cx dX6_keeps_8 rfl rfl ?_
  refine go_getr (pc' := 12) cx 106 fX6_68 dX6_keeps_9 kq88 (ltn rfl) (ltn rfl) rfl rfl rfl ?_
  refine go_iload_n (pc' := 13) cx dX6_keeps_12 rfl rfl ?_
  refine go_aload_n (pc' := 14) cx dX6_keeps_13 rfl rfl ?_
  refine go_getr (pc' := 17) cx 101 fX6_53 dX6_keeps_14 kq88 (ltn rfl) (ltn rfl) rfl rfl rfl ?_
  refine go_iload_n (pc' := 18) cx dX6_keeps_17 rfl rfl ?_
  refine go_iald (pc' := 19) cx (g 101 5) dX6_keeps_18 kq101 (ltn rfl) (vpi (k := 5) (a := 6) (ltn rfl) rfl rfl) ((congrArg ((up2 (up2 (up2 (up2 (up2 (up2 (up2 (up2 (up2 (up2 g 106 0 (g 101 0)) 107 0 (g 99 0)) 106 1 (g 101 1)) 107 1 (g 99 1)) 106 2 (g 101 2)) 107 2 (g 99 2)) 106 3 (g 101 3)) 107 3 (g 99 3)) 106 4 (g 101 4)) 107 4 (g 99 4)) 101) (cli (k := 5) (a := 6) (ltn rfl) rfl)).trans ((up2_n (up2 (up2 (up2 (up2 (up2 (up2 (up2 (up2 (up2 g 106 0 (g 101 0)) 107 0 (g 99 0)) 106 1 (g 101 1)) 107 1 (g 99 1)) 106 2 (g 101 2)) 107 2 (g 99 2)) 106 3 (g 101 3)) 107 3 (g 99 3)) 106 4 (g 101 4)) (g 99 4) (Or.inl (Nat.ne_of_beq_eq_false rfl))).trans ((up2_n (up2 (up2 (up2 (up2 (up2 (up2 (up2 (up2 g 106 0 (g 101 0)) 107 0 (g 99 0)) 106 1 (g 101 1)) 107 1 (g 99 1)) 106 2 (g 101 2)) 107 2 (g 99 2)) 106 3 (g 101 3)) 107 3 (g 99 3)) (g 101 4) (Or.inl (Nat.ne_of_beq_eq_false rfl))).trans ((up2_n (up2 (up2 (up2 (up2 (up2 (up2 (up2 g 106 0 (g 101 0)) 107 0 (g 99 0)) 106 1 (g 101 1)) 107 1 (g 99 1)) 106 2 (g 101 2)) 107 2 (g 99 2)) 106 3 (g 101 3)) (g 99 3) (Or.inl (Nat.ne_of_beq_eq_false rfl))).trans ((up2_n (up2 (up2 (up2 (up2 (up2 (up2 g 106 0 (g 101 0)) 107 0 (g 99 0)) 106 1 (g 101 1)) 107 1 (g 99 1)) 106 2 (g 101 2)) 107 2 (g 99 2)) (g 101 3) (Or.inl (Nat.ne_of_beq_eq_false rfl))).trans ((up2_n (up2 (up2 (up2 (up2 (up2 g 106 0 (g 101 0)) 107 0 (g 99 0)) 106 1 (g 101 1)) 107 1 (g 99 1)) 106 2 (g 101 2)) (g 99 2) (Or.inl (Nat.ne_of_beq_eq_false rfl))).trans ((up2_n (up2 (up2 (up2 (up2 g 106 0 (g 101 0)) 107 0 (g 99 0)) 106 1 (g 101 1)) 107 1 (g 99 1)) (g 101 2) (Or.inl (Nat.ne_of_beq_eq_false rfl))).trans ((up2_n (up2 (up2 (up2 g 106 0 (g 101 0)) 107 0 (g 99 0)) 106 1 (g 101 1)) (g 99 1) (Or.inl (Nat.ne_of_beq_eq_false rfl))).trans ((up2_n (up2 (up2 g 106 0 (g 101 0)) 107 0 (g 99 0)) (g 101 1) (Or.inl (Nat.ne_of_beq_eq_false rfl))).trans ((up2_n (up2 g 106 0 (g 101 0)) (g 99 0) (Or.inl (Nat.ne_of_beq_eq_false rfl))).trans (up2_n g (g 101 0) (Or.inl (Nat.ne_of_beq_eq_false rfl))))))))))))) rfl ?_
  refine go_iastk (pc' := 20) cx 5 dX6_keeps_19 kq106 (ltn rfl) (vpi (k := 5) (a := 6) (ltn rfl) rfl rfl) (cli (k := 5) (a := 6) (ltn rfl) rfl) rfl ?_
  refine go_aload_n (pc' := 21) cx dX6_keeps_20 rfl rfl ?_
  refine go_getr (pc' := 24) cx 107 fX6_71 dX6_keeps_21 kq88 (ltn rfl) (ltn rfl) rfl rfl rfl ?_
  refine go_iload_n (pc' := 25) cx dX6_keeps_24 rfl rfl ?_
  refine go_aload_n (pc' := 26) cx dX6_keeps_25 rfl rfl ?_
  refine go_getr (pc' := 29) cx 99 fX6_47 dX6_keeps_26 kq88 (ltn rfl) (ltn rfl) rfl rfl rfl ?_
  refine go_iload_n (pc' := 30) cx dX6_keeps_29 rfl rfl ?_
  refine go_iald (pc' := 31) cx (g 99 5) dX6_keeps_30 kq99 (ltn rfl) (vpi (k := 5) (a := 6) (ltn rfl) rfl rfl) ((congrArg ((up2 (up2 (up2 (up2 (up2 (up2 (up2 (up2 (up2 (up2 (up2 g 106 0 (g 101 0)) 107 0 (g 99 0)) 106 1 (g 101 1)) 107 1 (g 99 1)) 106 2 (g 101 2)) 107 2 (g 99 2)) 106 3 (g 101 3)) 107 3 (g 99 3)) 106 4 (g 101 4)) 107 4 (g 99 4)) 106 5 (g 101 5)) 99) (cli (k := 5) (a := 6) (ltn rfl) rfl)).trans ((up2_n (up2 (up2 (up2 (up2 (up2 (up2 (up2 (up2 (up2 (up2 g 106 0 (g 101 0)) 107 0 (g 99 0)) 106 1 (g 101 1)) 107 1 (g 99 1)) 106 2 (g 101 2)) 107 2 (g 99 2)) 106 3 (g 101 3)) 107 3 (g 99 3)) 106 4 (g 101 4)) 107 4 (g 99 4)) (g 101 5) (Or.inl (Nat.ne_of_beq_eq_false rfl))).trans ((up2_n (up2 (up2 (up2 (up2 (up2 (up2 (up2 (up2 (up2 g 106 0 (g 101 0)) 107 0 (g 99 0)) 106 1 (g 101 1)) 107 1 (g 99 1)) 106 2 (g 101 2)) 107 2 (g 99 2)) 106 3 (g 101 3)) 107 3 (g 99 3)) 106 4 (g 101 4)) (g 99 4) (Or.inl (Nat.ne_of_beq_eq_false rfl))).trans ((up2_n (up2 (up2 (up2 (up2 (up2 (up2 (up2 (up2 g 106 0 (g 101 0)) 107 0 (g 99 0)) 106 1 (g 101 1)) 107 1 (g 99 1)) 106 2 (g 101 2)) 107 2 (g 99 2)) 106 3 (g 101 3)) 107 3 (g 99 3)) (g 101 4) (Or.inl (Nat.ne_of_beq_eq_false rfl))).trans ((up2_n (up2 (up2 (up2 (up2 (up2 (up2 (up2 g 106 0 (g 101 0)) 107 0 (g 99 0)) 106 1 (g 101 1)) 107 1 (g 99 1)) 106 2 (g 101 2)) 107 2 (g 99 2)) 106 3 (g 101 3)) (g 99 3) (Or.inl (Nat.ne_of_beq_eq_false rfl))).trans ((up2_n (up2 (up2 (up2 (up2 (up2 (up2 g 106 0 (g 101 0)) 107 0 (g 99 0)) 106 1 (g 101 1)) 107 1 (g 99 1)) 106 2 (g 101 2)) 107 2 (g 99 2)) (g 101 3) (Or.inl (Nat.ne_of_beq_eq_false rfl))).trans ((up2_n (up2 (up2 (up2 (up2 (up2 g 106 0 (g 101 0)) 107 0 (g 99 0)) 106 1 (g 101 1)) 107 1 (g 99 1)) 106 2 (g 101 2)) (g 99 2) (Or.inl (Nat.ne_of_beq_eq_false rfl))).trans ((up2_n (up2 (up2 (up2 (up2 g 106 0 (g 101 0)) 107 0 (g 99 0)) 106 1 (g 101 1)) 107 1 (g 99 1)) (g 101 2) (Or.inl (Nat.ne_of_beq_eq_false rfl))).trans ((up2_n (up2 (up2 (up2 g 106 0 (g 101 0)) 107 0 (g 99 0)) 106 1 (g 101 1)) (g 99 1) (Or.inl (Nat.ne_of_beq_eq_false rfl))).trans ((up2_n (up2 (up2 g 106 0 (g 101 0)) 107 0 (g 99 0)) (g 101 1) (Or.inl (Nat.ne_of_beq_eq_false rfl))).trans ((up2_n (up2 g 106 0 (g 101 0)) (g 99 0) (Or.inl (Nat.ne_of_beq_eq_false rfl))).trans (up2_n g (g 101 0) (Or.inl (Nat.ne_of_beq_eq_false rfl)))))))))))))) rfl ?_
  refine go_iastk (pc' := 32) cx 5 dX6_keeps_31 kq107 (ltn rfl) (vpi (k := 5) (a := 6) (ltn rfl) rfl rfl) (cli (k := 5) (a := 6) (ltn rfl) rfl) rfl ?_
  refine go_iinc (pc' := 35) cx 6 dX6_keeps_32 rfl rfl (ltn rfl) [(1, .int 6), (0, .ref (E.2.1 88))] rfl rfl ?_
  refine go_goto cx 2 dX6_keeps_35 rfl ?_
  refine go_iload_n (pc' := 3) cx dX6_keeps_2 rfl rfl ?_
  refine go_bipush (pc' := 5) cx 8 dX6_keeps_3 rfl rfl ?_
  refine go_icmp_ge (pc' := 8) cx 38 dX6_keeps_5 rfl rfl (fun hh => absurd hh (by decide)) (fun _ => ?_)
  refine go_aload_n (pc' := 9) cx dX6_keeps_8 rfl rfl ?_
  refine go_getr (pc' := 12) cx 106 fX6_68 dX6_keeps_9 kq88 (ltn rfl) (ltn rfl) rfl rfl rfl ?_
  refine go_iload_n (pc' := 13) cx dX6_keeps_12 rfl rfl ?_
  refine go_aload_n (pc' := 14) cx dX6_keeps_13 rfl rfl ?_
  refine go_getr (pc' := 17) cx 101 fX6_53 dX6_keeps_14 kq88 (ltn rfl) (ltn rfl) rfl rfl rfl ?_
  refine go_iload_n (pc' := 18) cx dX6_keeps_17 rfl rfl ?_
  refine go_iald (pc' := 19) cx (g 101 6) dX6_keeps_18 kq101 (ltn rfl) (vpi (k := 6) (a := 7) (ltn rfl) rfl rfl) ((congrArg ((up2 (up2 (up2 (up2 (up2 (up2 (up2 (up2 (up2 (up2 (up2 (up2 g 106 0 (g 101 0)) 107 0 (g 99 0)) 106 1 (g 101 1)) 107 1 (g 99 1)) 106 2 (g 101 2)) 107 2 (g 99 2)) 106 3 (g 101 3)) 107 3 (g 99 3)) 106 4 (g 101 4)) 107 4 (g 99 4)) 106 5 (g 101 5)) 107 5 (g 99 5)) 101) (cli (k := 6) (a := 7) (ltn rfl) rfl)).trans ((up2_n (up2 (up2 (up2 (up2 (up2 (up2 (up2 (up2 (up2 (up2 (up2 g 106 0 (g 101 0)) 107 0 (g 99 0)) 106 1 (g 101 1)) 107 1 (g 99 1)) 106 2 (g 101 2)) 107 2 (g 99 2)) 106 3 (g 101 3)) 107 3 (g 99 3)) 106 4 (g 101 4)) 107 4 (g 99 4)) 106 5 (g 101 5)) (g 99 5) (Or.inl (Nat.ne_of_beq_eq_false rfl))).trans ((up2_n (up2 (up2 (up2 (up2 (up2 (up2 (up2 (up2 (up2 (up2 g 106 0 (g 101 0)) 107 0 (g 99 0)) 106 1 (g 101 1)) 107 1 (g 99 1)) 106 2 (g 101 2)) 107 2 (g 99 2)) 106 3 (g 101 3)) 107 3 (g 99 3)) 106 4 (g 101 4)) 107 4 (g 99 4)) (g 101 5) (Or.inl (Nat.ne_of_beq_eq_false rfl))).trans ((up2_n (up2 (up2 (up2 (up2 (up2 (up2 (up2 (up2 (up2 g 106 0 (g 101 0)) 107 0 (g 99 0)) 106 1 (g 101 1)) 107 1 (g 99 1)) 106 2 (g 101 2)) 107 2 (g 99 2)) 106 3 (g 101 3)) 107 3 (g 99 3)) 106 4 (g 101 4)) (g 99 4) (Or.inl (Nat.ne_of_beq_eq_false rfl))).trans ((up2_n (up2 (up2 (up2 (up2 (up2 (up2 (up2 (up2 g 106 0 (g 101 0)) 107 0 (g 99 0)) 106 1 (g 101 1)) 107 1 (g 99 1)) 106 2 (g 101 2)) 107 2 (g 99 2)) 106 3 (g 101 3)) 107 3 (g 99 3)) (g 101 4) (Or.inl (Nat.ne_of_beq_eq_false rfl))).trans ((up2_n (up2 (up2 (up2 (up2 (up2 (up2 (up2 g 106 0 (g 101 0)) 107 0 (g 99 0)) 106 1 (g 101 1)) 107 1 (g 99 1)) 106 2 (g 101 2)) 107 2 (g 99 2)) 106 3 (g 101 3)) (g 99 3) (Or.inl (Nat.ne_of_beq_eq_false rfl))).trans ((up2_n (up2 (up2 (up2 (up2 (up2 (up2 g 106 0 (g 101 0)) 107 0 (g 99 0)) 106 1 (g 101 1)) 107 1 (g 99 1)) 106 2 (g 101 2)) 107 2 (g 99 2)) (g 101 3) (Or.inl (Nat.ne_of_beq_eq_false rfl))).trans ((up2_n (up2 (up2 (up2 (up2 (up2 g 106 0 (g 101 0)) 107 0 (g 99 0)) 106 1 (g 101 1)) 107 1 (g 99 1)) 106 2 (g 101 2)) (g 99 2) (Or.inl (Nat.ne_of_beq_eq_false rfl))).trans ((up2_n (up2 (up2 (up2 (up2 g 106 0 (g 101 0)) 107 0 (g 99 0)) 106 1 (g 101 1)) 107 1 (g 99 1)) (g 101 2) (Or.inl (Nat.ne_of_beq_eq_false rfl))).trans ((up2_n (up2 (up2 (up2 g 106 0 (g 101 0)) 107 0 (g 99 0)) 106 1 (g 101 1)) (g 99 1) (Or.inl (Nat.ne_of_beq_eq_false rfl))).trans ((up2_n (up2 (up2 g 106 0 (g 101 0)) 107 0 (g 99 0)) (g 101 1) (Or.inl (Nat.ne_of_beq_eq_false rfl))).trans ((up2_n (up2 g 106 0 (g 101 0)) (g 99 0) (Or.inl (Nat.ne_of_beq_eq_false rfl))).trans (up2_n g (g 101 0) (Or.inl (Nat.ne_of_beq_eq_false rfl))))))))))))))) rfl ?_
  refine go_iastk (pc' := 20) cx 6 dX6_keeps_19 kq106 (ltn rfl) (vpi (k := 6) (a := 7) (ltn rfl) rfl rfl) (cli (k := 6) (a := 7) (ltn rfl) rfl) rfl ?_
  refine go_aload_n (pc' := 21) cx dX6_keeps_20 rfl rfl ?_
  refine go_getr (pc' := 24) cx 107 fX6_71 dX6_keeps_21 kq88 (ltn rfl) (ltn rfl) rfl rfl rfl ?_
  refine go_iload_n (pc' := 25) cx dX6_keeps_24 rfl rfl ?_
  refine go_aload_n (pc' := 26) cx dX6_keeps_25 rfl rfl ?_
  refine go_getr (pc' := 29) cx 99 fX6_47 dX6_keeps_26 kq88 (ltn rfl) (ltn rfl) rfl rfl rfl ?_
  refine go_iload_n (pc' := 30) cx dX6_keeps_29 rfl rfl ?_
  refine go_iald (pc' := 31) cx (g 99 6) dX6_keeps_30 kq99 (ltn rfl) (vpi (k := 6) (a := 7) (ltn rfl) rfl rfl) ((congrArg ((up2 (up2 (up2 (up2 (up2 (up2 (up2 (up2 (up2 (up2 (up2 (up2 (up2 g 106 0 (g 101 0)) 107 0 (g 99 0)) 106 1 (g 101 1)) 107 1 (g 99 1)) 106 2 (g 101 2)) 107 2 (g 99 2)) 106 3 (g 101 3)) 107 3 (g 99 3)) 106 4 (g 101 4)) 107 4 (g 99 4)) 106 5 (g 101 5)) 107 5 (g 99 5)) 106 6 (g 101 6)) 99) (cli (k := 6) (a := 7) (ltn rfl) rfl)).trans ((up2_n (up2 (up2 (up2 (up2 (up2 (up2 (up2 (up2 (up2 (up2 (up2 (up2 g 106 0 (g 101 0)) 107 0 (g 99 0)) 106 1 (g 101 1)) 107 1 (g 99 1)) 106 2 (g 101 2)) 107 2 (g 99 2)) 106 3 (g 101 3)) 107 3 (g 99 3)) 106 4 (g 101 4)) 107 4 (g 99 4)) 106 5 (g 101 5)) 107 5 (g 99 5)) (g 101 6) (Or.inl (Nat.ne_of_beq_eq_false rfl))).trans ((up2_n (up2 (up2 (up2 (up2 (up2 (up2 (up2 (up2 (up2 (up2 (up2 g 106 0 (g 101 0)) 107 0 (g 99 0)) 106 1 (g 101 1)) 107 1 (g 99 1)) 106 2 (g 101 2)) 107 2 (g 99 2)) 106 3 (g 101 3)) 107 3 (g 99 3)) 106 4 (g 101 4)) 107 4 (g 99 4)) 106 5 (g 101 5)) (g 99 5) (Or.inl (Nat.ne_of_beq_eq_false rfl))).trans ((up2_n (up2 (up2 (up2 (up2 (up2 (up2 (up2 (up2 (up2 (up2 g 106 0 (g 101 0)) 107 0 (g 99 0)) 106 1 (g 101 1)) 107 1 (g 99 1)) 106 2 (g 101 2)) 107 2 (g 99 2)) 106 3 (g 101 3)) 107 3 (g 99 3)) 106 4 (g 101 4)) 107 4 (g 99 4)) (g 101 5) (Or.inl (Nat.ne_of_beq_eq_false rfl))).trans ((up2_n (up2 (up2 (up2 (up2 (up2 (up2 (up2 (up2 (up2 g 106 0 (g 101 0)) 107 0 (g 99 0)) 106 1 (g 101 1)) 107 1 (g 99 1)) 106 2 (g 101 2)) 107 2 (g 99 2)) 106 3 (g 101 3)) 107 3 (g 99 3)) 106 4 (g 101 4)) (g 99 4) (Or.inl (Nat.ne_of_beq_eq_false rfl))).trans ((up2_n (up2 (up2 (up2 (up2 (up2 (up2 (up2 (up2 g 106 0 (g 101 0)) 107 0 (g 99 0)) 106 1 (g 101 1)) 107 1 (g 99 1)) 106 2 (g 101 2)) 107 2 (g 99 2)) 106 3 (g 101 3)) 107 3 (g 99 3)) (g 101 4) (Or.inl (Nat.ne_of_beq_eq_false rfl))).trans ((up2_n (up2 (up2 (up2 (up2 (up2 (up2 (up2 g 106 0 (g 101 0)) 107 0 (g 99 0)) 106 1 (g 101 1)) 107 1 (g 99 1)) 106 2 (g 101 2)) 107 2 (g 99 2)) 106 3 (g 101 3)) (g 99 3) (Or.inl (Nat.ne_of_beq_eq_false rfl))).trans ((up2_n (up2 (up2 (up2 (up2 (up2 (up2 g 106 0 (g 101 0)) 107 0 (g 99 0)) 106 1 (g 101 1)) 107 1 (g 99 1)) 106 2 (g 101 2)) 107 2 (g 99 2)) (g 101 3) (Or.inl (Nat.ne_of_beq_eq_false rfl))).trans ((up2_n (up2 (up2 (up2 (up2 (up2 g 106 0 (g 101 0)) 107 0 (g 99 0)) 106 1 (g 101 1)) 107 1 (g 99 1)) 106 2 (g 101 2)) (g 99 2) (Or.inl (Nat.ne_of_beq_eq_false rfl))).trans ((up2_n (up2 (up2 (up2 (up2 g 106 0 (g 101 0)) 107 0 (g 99 0)) 106 1 (g 101 1)) 107 1 (g 99 1)) (g 101 2) (Or.inl (Nat.ne_of_beq_eq_false rfl))).trans ((up2_n (up2 (up2 (up2 g 106 0 (g 101 0)) 107 0 (g 99 0)) 106 1 (g 101 1)) (g 99 1) (Or.inl (Nat.ne_of_beq_eq_false rfl))).trans ((up2_n (up2 (up2 g 106 0 (g 101 0)) 107 0 (g 99 0)) (g 101 1) (Or.inl (Nat.ne_of_beq_eq_false rfl))).trans ((up2_n (up2 g 106 0 (g 101 0)) (g 99 0) (Or.inl (Nat.ne_of_beq_eq_false rfl))).trans (up2_n g (g 101 0) (Or.inl (Nat.ne_of_beq_eq_false rfl)))))))))))))))) rfl ?_
  refine go_iastk (pc' := 32) cx 6 dX6_keeps_31 kq107 (ltn rfl) (vpi (k := 6) (a := 7) (ltn rfl) rfl rfl) (cli (k := 6) (a := 7) (ltn rfl) rfl) rfl ?_
  refine go_iinc (pc' := 35) cx 7 dX6_keeps_32 rfl rfl (ltn rfl) [(1, .int 7), (0, .ref (E.2.1 88))] rfl rfl ?_
  refine go_goto cx 2 dX6_keeps_35 rfl ?_
  refine go_iload_n (pc' := 3) cx dX6_keeps_2 rfl rfl ?_
  refine go_bipush (pc' := 5) cx 8 dX6_keeps_3 rfl rfl ?_
  refine go_icmp_ge (pc' := 8) cx 38 dX6_keeps_5 rfl rfl (fun hh => absurd hh (by decide)) (fun _ => ?_)
  refine go_aload_n (pc' := 9) cx dX6_keeps_8 rfl rfl ?_
  refine go_getr (pc' := 12) cx 106 fX6_68 dX6_keeps_9 kq88 (ltn rfl) (ltn rfl) rfl rfl rfl ?_
  refine go_iload_n (pc' := 13) cx dX6_keeps_12 rfl rfl ?_
  refine go_aload_n (pc' := 14) cx dX6_keeps_13 rfl rfl ?_
  refine go_getr (pc' := 17) cx 101 fX6_53 dX6_keeps_14 kq88 (ltn rfl) (ltn rfl) rfl rfl rfl ?_
  refine go_iload_n (pc' := 18) cx dX6_keeps_17 rfl rfl ?_
  refine go_iald (pc' := 19) cx (g 101 7) dX6_keeps_18 kq101 (ltn rfl) (vpi (k := 7) (a := 8) (ltn rfl) rfl rfl) ((congrArg ((up2 (up2 (up2 (up2 (up2 (up2 (up2 (up2 (up2 (up2 (up2 (up2 (up2 (up2 g 106 0 (g 101 0)) 107 0 (g 99 0)) 106 1 (g 101 1)) 107 1 (g 99 1)) 106 2 (g 101 2)) 107 2 (g 99 2)) 106 3 (g 101 3)) 107 3 (g 99 3)) 106 4 (g 101 4)) 107 4 (g 99 4)) 106 5 (g 101 5)) 107 5 (g 99 5)) 106 6 (g 101 6)) 107 6 (g 99 6)) 101) (cli (k := 7) (a := 8) (ltn rfl) rfl)).trans ((up2_n (up2 (up2 (up2 (up2 (up2 (up2 (up2 (up2 (up2 (up2 (up2 (up2 (up2 g 106 0 (g 101 0)) 107 0 (g 99 0)) 106 1 (g 101 1)) 107 1 (g 99 1)) 106 2 (g 101 2)) 107 2 (g 99 2)) 106 3 (g 101 3)) 107 3 (g 99 3)) 106 4 (g 101 4)) 107 4 (g 99 4)) 106 5 (g 101 5)) 107 5 (g 99 5)) 106 6 (g 101 6)) (g 99 6) (Or.inl (Nat.ne_of_beq_eq_false rfl))).trans ((up2_n (up2 (up2 (up2 (up2 (up2 (up2 (up2 (up2 (up2 (up2 (up2 (up2 g 106 0 (g 101 0)) 107 0 (g 99 0)) 106 1 (g 101 1)) 107 1 (g 99 1)) 106 2 (g 101 2)) 107 2 (g 99 2)) 106 3 (g 101 3)) 107 3 (g 99 3)) 106 4 (g 101 4)) 107 4 (g 99 4)) 106 5 (g 101 5)) 107 5 (g 99 5)) (g 101 6) (Or.inl (Nat.ne_of_beq_eq_false rfl))).trans ((up2_n (up2 (up2 (up2 (up2 (up2 (up2 (up2 (up2 (up2 (up2 (up2 g 106 0 (g 101 0)) 107 0 (g 99 0)) 106 1 (g 101 1)) 107 1 (g 99 1)) 106 2 (g 101 2)) 107 2 (g 99 2)) 106 3 (g 101 3)) 107 3 (g 99 3)) 106 4 (g 101 4)) 107 4 (g 99 4)) 106 5 (g 101 5)) (g 99 5) (Or.inl (Nat.ne_of_beq_eq_false rfl))).trans ((up2_n (up2 (up2 (up2 (up2 (up2 (up2 (up2 (up2 (up2 (up2 g 106 0 (g 101 0)) 107 0 (g 99 0)) 106 1 (g 101 1)) 107 1 (g 99 1)) 106 2 (g 101 2)) 107 2 (g 99 2)) 106 3 (g 101 3)) 107 3 (g 99 3)) 106 4 (g 101 4)) 107 4 (g 99 4)) (g 101 5) (Or.inl (Nat.ne_of_beq_eq_false rfl))).trans ((up2_n (up2 (up2 (up2 (up2 (up2 (up2 (up2 (up2 (up2 g 106 0 (g 101 0)) 107 0 (g 99 0)) 106 1 (g 101 1)) 107 1 (g 99 1)) 106 2 (g 101 2)) 107 2 (g 99 2)) 106 3 (g 101 3)) 107 3 (g 99 3)) 106 4 (g 101 4)) (g 99 4) (Or.inl (Nat.ne_of_beq_eq_false rfl))).trans ((up2_n (up2 (up2 (up2 (up2 (up2 (up2 (up2 (up2 g 106 0 (g 101 0)) 107 0 (g 99 0)) 106 1 (g 101 1)) 107 1 (g 99 1)) 106 2 (g 101 2)) 107 2 (g 99 2)) 106 3 (g 101 3)) 107 3 (g 99 3)) (g 101 4) (Or.inl (Nat.ne_of_beq_eq_false rfl))).trans ((up2_n (up2 (up2 (up2 (up2 (up2 (up2 (up2 g 106 0 (g 101 0)) 107 0 (g 99 0)) 106 1 (g 101 1)) 107 1 (g 99 1)) 106 2 (g 101 2)) 107 2 (g 99 2)) 106 3 (g 101 3)) (g 99 3) (Or.inl (Nat.ne_of_beq_eq_false rfl))).trans ((up2_n (up2 (up2 (up2 (up2 (up2 (up2 g 106 0 (g 101 0)) 107 0 (g 99 0)) 106 1 (g 101 1)) 107 1 (g 99 1)) 106 2 (g 101 2)) 107 2 (g 99 2)) (g 101 3) (Or.inl (Nat.ne_of_beq_eq_false rfl))).trans ((up2_n (up2 (up2 (up2 (up2 (up2 g 106 0 (g 101 0)) 107 0 (g 99 0)) 106 1 (g 101 1)) 107 1 (g 99 1)) 106 2 (g 101 2)) (g 99 2) (Or.inl (Nat.ne_of_beq_eq_false rfl))).trans ((up2_n (up2 (up2 (up2 (up2 g 106 0 (g 101 0)) 107 0 (g 99 0)) 106 1 (g 101 1)) 107 1 (g 99 1)) (g 101 2) (Or.inl (Nat.ne_of_beq_eq_false rfl))).trans ((up2_n (up2 (up2 (up2 g 106 0 (g 101 0)) 107 0 (g 99 0)) 106 1 (g 101 1)) (g 99 1) (Or.inl (Nat.ne_of_beq_eq_false rfl))).trans ((up2_n (up2 (up2 g 106 0 (g 101 0)) 107 0 (g 99 0)) (g 101 1) (Or.inl (Nat.ne_of_beq_eq_false rfl))).trans ((up2_n (up2 g 106 0 (g 101 0)) (g 99 0) (Or.inl (Nat.ne_of_beq_eq_false rfl))).trans (up2_n g (g 101 0) (Or.inl (Nat.ne_of_beq_eq_false rfl))))))))))))))))) rfl ?_
  refine go_iastk (pc' := 20) cx 7 dX6_keeps_19 kq106 (ltn rfl) (vpi (k := 7) (a := 8) (ltn rfl) rfl rfl) (cli (k := 7) (a := 8) (ltn rfl) rfl) rfl ?_
  refine go_aload_n (pc' := 21) cx dX6_keeps_20 rfl rfl ?_
  refine go_getr (pc' := 24) cx 107 fX6_71 dX6_keeps_21 kq88 (ltn rfl) (ltn rfl) rfl rfl rfl ?_
  refine go_iload_n (pc' := 25) cx dX6_keeps_24 rfl rfl ?_
  refine go_aload_n (pc' := 26) cx dX6_keeps_25 rfl rfl ?_
  refine go_getr (pc' := 29) cx 99 fX6_47 dX6_keeps_26 kq88 (ltn rfl) (ltn rfl) rfl rfl rfl ?_
  refine go_iload_n (pc' := 30) cx dX6_keeps_29 rfl rfl ?_
  refine go_iald (pc' := 31) cx (g 99 7) dX6_keeps_30 kq99 (ltn rfl) (vpi (k := 7) (a := 8) (ltn rfl) rfl rfl) ((congrArg ((up2 (up2 (up2 (up2 (up2 (up2 (up2 (up2 (up2 (up2 (up2 (up2 (up2 (up2 (up2 g 106 0 (g 101 0)) 107 0 (g 99 0)) 106 1 (g 101 1)) 107 1 (g 99 1)) 106 2 (g 101 2)) 107 2 (g 99 2)) 106 3 (g 101 3)) 107 3 (g 99 3)) 106 4 (g 101 4)) 107 4 (g 99 4)) 106 5 (g 101 5)) 107 5 (g 99 5)) 106 6 (g 101 6)) 107 6 (g 99 6)) 106 7 (g 101 7)) 99) (cli (k := 7) (a := 8) (ltn rfl) rfl)).trans ((up2_n (up2 (up2 (up2 (up2 (up2 (up2 (up2 (up2 (up2 (up2 (up2 (up2 (up2 (up2 g 106 0 (g 101 0)) 107 0 (g 99 0)) 106 1 (g 101 1)) 107 1 (g 99 1)) 106 2 (g 101 2)) 107 2 (g 99 2)) 106 3 (g 101 3)) 107 3 (g 99 3)) 106 4 (g 101 4)) 107 4 (g 99 4)) 106 5 (g 101 5)) 107 5 (g 99 5)) 106 6 (g 101 6)) 107 6 (g 99 6)) (g 101 7) (Or.inl (Nat.ne_of_beq_eq_false rfl))).trans ((up2_n (up2 (up2 (up2 (up2 (up2 (up2 (up2 (up2 (up2 (up2 (up2 (up2 (up2 g 106 0 (g 101 0)) 107 0 (g 99 0)) 106 1 (g 101 1)) 107 1 (g 99 1)) 106 2 (g 101 2)) 107 2 (g 99 2)) 106 3 (g 101 3)) 107 3 (g 99 3)) 106 4 (g 101 4)) 107 4 (g 99 4)) 106 5 (g 101 5)) 107 5 (g 99 5)) 106 6 (g 101 6)) (g 99 6) (Or.inl (Nat.ne_of_beq_eq_false rfl))).trans ((up2_n (up2 (up2 (up2 (up2 (up2 (up2 (up2 (up2 (up2 (up2 (up2 (up2 g 106 0 (g 101 0)) 107 0 (g 99 0)) 106 1 (g 101 1)) 107 1 (g 99 1)) 106 2 (g 101 2)) 107 2 (g 99 2)) 106 3 (g 101 3)) 107 3 (g 99 3)) 106 4 (g 101 4)) 107 4 (g 99 4)) 106 5 (g 101 5)) 107 5 (g 99 5)) (g 101 6) (Or.inl (Nat.ne_of_beq_eq_false rfl))).trans ((up2_n (up2 (up2 (up2 (up2 (up2 (up2 (up2 (up2 (up2 (up2 (up2 g 106 0 (g 101 0)) 107 0 (g 99 0)) 106 1 (g 101 1)) 107 1 (g 99 1)) 106 2 (g 101 2)) 107 2 (g 99 2)) 106 3 (g 101 3)) 107 3 (g 99 3)) 106 4 (g 101 4)) 107 4 (g 99 4)) 106 5 (g 101 5)) (g 99 5) (Or.inl (Nat.ne_of_beq_eq_false rfl))).trans ((up2_n (up2 (up2 (up2 (up2 (up2 (up2 (up2 (up2 (up2 (up2 g 106 0 (g 101 0)) 107 0 (g 99 0)) 106 1 (g 101 1)) 107 1 (g 99 1)) 106 2 (g 101 2)) 107 2 (g 99 2)) 106 3 (g 101 3)) 107 3 (g 99 3)) 106 4 (g 101 4)) 107 4 (g 99 4)) (g 101 5) (Or.inl (Nat.ne_of_beq_eq_false rfl))).trans ((up2_n (up2 (up2 (up2 (up2 (up2 (up2 (up2 (up2 (up2 g 106 0 (g 101 0)) 107 0 (g 99 0)) 106 1 (g 101 1)) 107 1 (g 99 1)) 106 2 (g 101 2)) 107 2 (g 99 2)) 106 3 (g 101 3)) 107 3 (g 99 3)) 106 4 (g 101 4)) (g 99 4) (Or.inl (Nat.ne_of_beq_eq_false rfl))).trans ((up2_n (up2 (up2 (up2 (up2 (up2 (up2 (up2 (up2 g 106 0 (g 101 0)) 107 0 (g 99 0)) 106 1 (g 101 1)) 107 1 (g 99 1)) 106 2 (g 101 2)) 107 2 (g 99 2)) 106 3 (g 101 3)) 107 3 (g 99 3)) (g 101 4) (Or.inl (Nat.ne_of_beq_eq_false rfl))).trans ((up2_n (up2 (up2 (up2 (up2 (up2 (up2 (up2 g 106 0 (g 101 0)) 107 0 (g 99 0)) 106 1 (g 101 1)) 107 1 (g 99 1)) 106 2 (g 101 2)) 107 2 (g 99 2)) 106 3 (g 101 3)) (g 99 3) (Or.inl (Nat.ne_of_beq_eq_false rfl))).trans ((up2_n (up2 (up2 (up2 (up2 (up2 (up2 g 106 0 (g 101 0)) 107 0 (g 99 0)) 106 1 (g 101 1)) 107 1 (g 99 1)) 106 2 (g 101 2)) 107 2 (g 99 2)) (g 101 3) (Or.inl (Nat.ne_of_beq_eq_false rfl))).trans ((up2_n (up2 (up2 (up2 (up2 (up2 g 106 0 (g 101 0)) 107 0 (g 99 0)) 106 1 (g 101 1)) 107 1 (g 99 1)) 106 2 (g 101 2)) (g 99 2) (Or.inl (Nat.ne_of_beq_eq_false rfl))).trans ((up2_n (up2 (up2 (up2 (up2 g 106 0 (g 101 0)) 107 0 (g 99 0)) 106 1 (g 101 1)) 107 1 (g 99 1)) (g 101 2) (Or.inl (Nat.ne_of_beq_eq_false rfl))).trans ((up2_n (up2 (up2 (up2 g 106 0 (g 101 0)) 107 0 (g 99 0)) 106 1 (g 101 1)) (g 99 1) (Or.inl (Nat.ne_of_beq_eq_false rfl))).trans ((up2_n (up2 (up2 g 106 0 (g 101 0)) 107 0 (g 99 0)) (g 101 1) (Or.inl (Nat.ne_of_beq_eq_false rfl))).trans ((up2_n (up2 g 106 0 (g 101 0)) (g 99 0) (Or.inl (Nat.ne_of_beq_eq_false rfl))).trans (up2_n g (g 101 0) (Or.inl (Nat.ne_of_beq_eq_false rfl)))))))))))))))))) rfl ?_
  refine go_iastk (pc' := 32) cx 7 dX6_keeps_31 kq107 (ltn rfl) (vpi (k := 7) (a := 8) (ltn rfl) rfl rfl) (cli (k := 7) (a := 8) (ltn rfl) rfl) rfl ?_
  refine go_iinc (pc' := 35) cx 8 dX6_keeps_32 rfl rfl (ltn rfl) [(1, .int 8), (0, .ref (E.2.1 88))] rfl rfl ?_
  refine go_goto cx 2 dX6_keeps_35 rfl ?_
  refine go_iload_n (pc' := 3) cx dX6_keeps_2 rfl rfl ?_
  refine go_bipush (pc' := 5) cx 8 dX6_keeps_3 rfl rfl ?_
  refine go_icmp_ge (pc' := 8) cx 38 dX6_keeps_5 rfl rfl (fun _ => ?_) (fun hh => absurd hh (by decide))
  refine go_vret cx rfl dX6_keeps_38 ?_
  refine ZV.mk ⟨?_, ?_⟩
  · intro i k q
    rw [up2_n _ _ (by omega), up2_n _ _ (by omega), up2_n _ _ (by omega), up2_n _ _ (by omega), up2_n _ _ (by omega), up2_n _ _ (by omega), up2_n _ _ (by omega), up2_n _ _ (by omega), up2_n _ _ (by omega), up2_n _ _ (by omega), up2_n _ _ (by omega), up2_n _ _ (by omega), up2_n _ _ (by omega), up2_n _ _ (by omega), up2_n _ _ (by omega), up2_n _ _ (by omega)]
  · intro k hk
    rcases (show k = 0 ∨ k = 1 ∨ k = 2 ∨ k = 3 ∨ k = 4 ∨ k = 5 ∨ k = 6 ∨ k = 7 by omega) with rfl | rfl | rfl | rfl | rfl | rfl | rfl | rfl <;> exact ⟨rfl, rfl⟩

set_option maxHeartbeats 1000000 in
set_option maxRecDepth 20000 in
theorem c_X6_laysBack (l : Launch) (E : Ev) {g : IG} {o : Option Nat} {z : Int64}  : Ct l E 115 yX6_laysBack cX6_laysBack 2 none 1 [.ref (E.2.1 88)] g (RFo o) z (ZV (RFo o) z (fun g1 => (∀ i k, ¬ ((i = 99 ∨ i = 101) ∧ k < 8) → g1 i k = g i k) ∧ ∀ k, k < 8 → g1 101 k = g 106 k ∧ g1 99 k = g 107 k)) := by
  refine Ct.of (lv0 := [(0, .ref (E.2.1 88))]) (by decide) (Nat.le_of_ble_eq_true rfl) rfl ?_
  intro p e s m below meth c cx
  refine go_iconst (pc' := 1) cx 0 dX6_laysBack_0 rfl rfl ?_
  refine go_istore_n (pc' := 2) cx dX6_laysBack_1 (ltn rfl) [(1, .int 0), (0, .ref (E.2.1 88))] rfl rfl ?_
  refine go_iload_n (pc' := 3) cx dX6_laysBack_2 rfl rfl ?_
  refine go_bipush (pc' := 5) cx 8 dX6_laysBack_3 rfl rfl ?_
  refine go_icmp_ge (pc' := 8) cx 38 dX6_laysBack_5 rfl rfl (fun hh => absurd hh (by decide)) (fun _ => ?_)
  refine go_aload_n (pc' := 9) cx dX6_laysBack_8 rfl rfl ?_
  refine go_getr (pc' := 12) cx 101 fX6_53 dX6_laysBack_9 kq88 (ltn rfl) (ltn rfl) rfl rfl rfl ?_
  refine go_iload_n (pc' := 13) cx dX6_laysBack_12 rfl rfl ?_
  refine go_aload_n (pc' := 14) cx dX6_laysBack_13 rfl rfl ?_
  refine go_getr (pc' := 17) cx 106 fX6_68 dX6_laysBack_14 kq88 (ltn rfl) (ltn rfl) rfl rfl rfl ?_
  refine go_iload_n (pc' := 18) cx dX6_laysBack_17 rfl rfl ?_
  refine go_iald (pc' := 19) cx (g 106 0) dX6_laysBack_18 kq106 (ltn rfl) (vpi (k := 0) (a := 1) (ltn rfl) rfl rfl) (congrArg (g 106) (cli (k := 0) (a := 1) (ltn rfl) rfl)) rfl ?_
  refine go_iastk (pc' := 20) cx 0 dX6_laysBack_19 kq101 (ltn rfl) (vpi (k := 0) (a := 1) (ltn rfl) rfl rfl) (cli (k := 0) (a := 1) (ltn rfl) rfl) rfl ?_
  refine go_aload_n (pc' := 21) cx dX6_laysBack_20 rfl rfl ?_
  refine go_getr (pc' := 24) cx 99 fX6_47 dX6_laysBack_21 kq88 (ltn rfl) (ltn rfl) rfl rfl rfl ?_
  refine go_iload_n (pc' := 25) cx dX6_laysBack_24 rfl rfl ?_
  refine go_aload_n (pc' := 26) cx dX6_laysBack_25 rfl rfl ?_
  refine go_getr (pc' := 29) cx 107 fX6_71 dX6_laysBack_26 kq88 (ltn rfl) (ltn rfl) rfl rfl rfl ?_
  refine go_iload_n (pc' := 30) cx dX6_laysBack_29 rfl rfl ?_
  refine go_iald (pc' := 31) cx (g 107 0) dX6_laysBack_30 kq107 (ltn rfl) (vpi (k := 0) (a := 1) (ltn rfl) rfl rfl) ((congrArg ((up2 g 101 0 (g 106 0)) 107) (cli (k := 0) (a := 1) (ltn rfl) rfl)).trans (up2_n g (g 106 0) (Or.inl (Nat.ne_of_beq_eq_false rfl)))) rfl ?_
  refine go_iastk (pc' := 32) cx 0 dX6_laysBack_31 kq99 (ltn rfl) (vpi (k := 0) (a := 1) (ltn rfl) rfl rfl) (cli (k := 0) (a := 1) (ltn rfl) rfl) rfl ?_
  refine go_iinc (pc' := 35) cx 1 dX6_laysBack_32 rfl rfl (ltn rfl) [(1, .int 1), (0, .ref (E.2.1 88))] rfl rfl ?_
  refine go_goto cx 2 dX6_laysBack_35 rfl ?_
  refine go_iload_n (pc' := 3) cx dX6_laysBack_2 rfl rfl ?_
  refine go_bipush (pc' := 5) cx 8 dX6_laysBack_3 rfl rfl ?_
  refine go_icmp_ge (pc' := 8) cx 38 dX6_laysBack_5 rfl rfl (fun hh => absurd hh (by decide)) (fun _ => ?_)
  refine go_aload_n (pc' := 9) cx dX6_laysBack_8 rfl rfl ?_
  refine go_getr (pc' := 12) cx 101 fX6_53 dX6_laysBack_9 kq88 (ltn rfl) (ltn rfl) rfl rfl rfl ?_
  refine go_iload_n (pc' := 13) cx dX6_laysBack_12 rfl rfl ?_
  refine go_aload_n (pc' := 14) cx dX6_laysBack_13 rfl rfl ?_
  refine go_getr (pc' := 17) cx 106 fX6_68 dX6_laysBack_14 kq88 (ltn rfl) (ltn rfl) rfl rfl rfl ?_
  refine go_iload_n (pc' := 18) cx dX6_laysBack_17 rfl rfl ?_
  refine go_iald (pc' := 19) cx (g 106 1) dX6_laysBack_18 kq106 (ltn rfl) (vpi (k := 1) (a := 2) (ltn rfl) rfl rfl) ((congrArg ((up2 (up2 g 101 0 (g 106 0)) 99 0 (g 107 0)) 106) (cli (k := 1) (a := 2) (ltn rfl) rfl)).trans ((up2_n (up2 g 101 0 (g 106 0)) (g 107 0) (Or.inl (Nat.ne_of_beq_eq_false rfl))).trans (up2_n g (g 106 0) (Or.inl (Nat.ne_of_beq_eq_false rfl))))) rfl ?_
  refine go_iastk (pc' := 20) cx 1 dX6_laysBack_19 kq101 (ltn rfl) (vpi (k := 1) (a := 2) (ltn rfl) rfl rfl) (cli (k := 1) (a := 2) (ltn rfl) rfl) rfl ?_
  refine go_aload_n (pc' := 21) cx dX6_laysBack_20 rfl rfl ?_
  refine go_getr (pc' := 24) cx 99 fX6_47 dX6_laysBack_21 kq88 (ltn rfl) (ltn rfl) rfl rfl rfl ?_
  refine go_iload_n (pc' := 25) cx dX6_laysBack_24 rfl rfl ?_
  refine go_aload_n (pc' := 26) cx dX6_laysBack_25 rfl rfl ?_
  refine go_getr (pc' := 29) cx 107 fX6_71 dX6_laysBack_26 kq88 (ltn rfl) (ltn rfl) rfl rfl rfl ?_
  refine go_iload_n (pc' := 30) cx dX6_laysBack_29 rfl rfl ?_
  refine go_iald (pc' := 31) cx (g 107 1) dX6_laysBack_30 kq107 (ltn rfl) (vpi (k := 1) (a := 2) (ltn rfl) rfl rfl) ((congrArg ((up2 (up2 (up2 g 101 0 (g 106 0)) 99 0 (g 107 0)) 101 1 (g 106 1)) 107) (cli (k := 1) (a := 2) (ltn rfl) rfl)).trans ((up2_n (up2 (up2 g 101 0 (g 106 0)) 99 0 (g 107 0)) (g 106 1) (Or.inl (Nat.ne_of_beq_eq_false rfl))).trans ((up2_n (up2 g 101 0 (g 106 0)) (g 107 0) (Or.inl (Nat.ne_of_beq_eq_false rfl))).trans (up2_n g (g 106 0) (Or.inl (Nat.ne_of_beq_eq_false rfl)))))) rfl ?_
  refine go_iastk (pc' := 32) cx 1 dX6_laysBack_31 kq99 (ltn rfl) (vpi (k := 1) (a := 2) (ltn rfl) rfl rfl) (cli (k := 1) (a := 2) (ltn rfl) rfl) rfl ?_
  refine go_iinc (pc' := 35) cx 2 dX6_laysBack_32 rfl rfl (ltn rfl) [(1, .int 2), (0, .ref (E.2.1 88))] rfl rfl ?_
  refine go_goto cx 2 dX6_laysBack_35 rfl ?_
  refine go_iload_n (pc' := 3) cx dX6_laysBack_2 rfl rfl ?_
  refine go_bipush (pc' := 5) cx 8 dX6_laysBack_3 rfl rfl ?_
  refine go_icmp_ge (pc' := 8) cx 38 dX6_laysBack_5 rfl rfl (fun hh => absurd hh (by decide)) (fun _ => ?_)
  refine go_aload_n (pc' := 9) cx dX6_laysBack_8 rfl rfl ?_
  refine go_getr (pc' := 12) cx 101 fX6_53 dX6_laysBack_9 kq88 (ltn rfl) (ltn rfl) rfl rfl rfl ?_
  refine go_iload_n (pc' := 13) cx dX6_laysBack_12 rfl rfl ?_
  refine go_aload_n (pc' := 14) cx dX6_laysBack_13 rfl rfl ?_
  refine go_getr (pc' := 17) cx 106 fX6_68 dX6_laysBack_14 kq88 (ltn rfl) (ltn rfl) rfl rfl rfl ?_
  refine go_iload_n (pc' := 18) cx dX6_laysBack_17 rfl rfl ?_
  refine go_iald (pc' := 19) cx (g 106 2) dX6_laysBack_18 kq106 (ltn rfl) (vpi (k := 2) (a := 3) (ltn rfl) rfl rfl) ((congrArg ((up2 (up2 (up2 (up2 g 101 0 (g 106 0)) 99 0 (g 107 0)) 101 1 (g 106 1)) 99 1 (g 107 1)) 106) (cli (k := 2) (a := 3) (ltn rfl) rfl)).trans ((up2_n (up2 (up2 (up2 g 101 0 (g 106 0)) 99 0 (g 107 0)) 101 1 (g 106 1)) (g 107 1) (Or.inl (Nat.ne_of_beq_eq_false rfl))).trans ((up2_n (up2 (up2 g 101 0 (g 106 0)) 99 0 (g 107 0)) (g 106 1) (Or.inl (Nat.ne_of_beq_eq_false rfl))).trans ((up2_n (up2 g 101 0 (g 106 0)) (g 107 0) (Or.inl (Nat.ne_of_beq_eq_false rfl))).trans (up2_n g (g 106 0) (Or.inl (Nat.ne_of_beq_eq_false rfl))))))) rfl ?_
  refine go_iastk (pc' := 20) cx 2 dX6_laysBack_19 kq101 (ltn rfl) (vpi (k := 2) (a := 3) (ltn rfl) rfl rfl) (cli (k := 2) (a := 3) (ltn rfl) rfl) rfl ?_
  refine go_aload_n (pc' := 21) cx dX6_laysBack_20 rfl rfl ?_
  refine go_getr (pc' := 24) cx 99 fX6_47 dX6_laysBack_21 kq88 (ltn rfl) (ltn rfl) rfl rfl rfl ?_
  refine go_iload_n (pc' := 25) cx dX6_laysBack_24 rfl rfl ?_
  refine go_aload_n (pc' := 26) cx dX6_laysBack_25 rfl rfl ?_
  refine go_getr (pc' := 29) cx 107 fX6_71 dX6_laysBack_26 kq88 (ltn rfl) (ltn rfl) rfl rfl rfl ?_
  refine go_iload_n (pc' := 30) cx dX6_laysBack_29 rfl rfl ?_
  refine go_iald (pc' := 31) cx (g 107 2) dX6_laysBack_30 kq107 (ltn rfl) (vpi (k := 2) (a := 3) (ltn rfl) rfl rfl) ((congrArg ((up2 (up2 (up2 (up2 (up2 g 101 0 (g 106 0)) 99 0 (g 107 0)) 101 1 (g 106 1)) 99 1 (g 107 1)) 101 2 (g 106 2)) 107) (cli (k := 2) (a := 3) (ltn rfl) rfl)).trans ((up2_n (up2 (up2 (up2 (up2 g 101 0 (g 106 0)) 99 0 (g 107 0)) 101 1 (g 106 1)) 99 1 (g 107 1)) (g 106 2) (Or.inl (Nat.ne_of_beq_eq_false rfl))).trans ((up2_n (up2 (up2 (up2 g 101 0 (g 106 0)) 99 0 (g 107 0)) 101 1 (g 106 1)) (g 107 1) (Or.inl (Nat.ne_of_beq_eq_false rfl))).trans ((up2_n (up2 (up2 g 101 0 (g 106 0)) 99 0 (g 107 0)) (g 106 1) (Or.inl (Nat.ne_of_beq_eq_false rfl))).trans ((up2_n (up2 g 101 0 (g 106 0)) (g 107 0) (Or.inl (Nat.ne_of_beq_eq_false rfl))).trans (up2_n g (g 106 0) (Or.inl (Nat.ne_of_beq_eq_false rfl)))))))) rfl ?_
  refine go_iastk (pc' := 32) cx 2 dX6_laysBack_31 kq99 (ltn rfl) (vpi (k := 2) (a := 3) (ltn rfl) rfl rfl) (cli (k := 2) (a := 3) (ltn rfl) rfl) rfl ?_
  refine go_iinc (pc' := 35) cx 3 dX6_laysBack_32 rfl rfl (ltn rfl) [(1, .int 3), (0, .ref (E.2.1 88))] rfl rfl ?_
  refine go_goto cx 2 dX6_laysBack_35 rfl ?_
  refine go_iload_n (pc' := 3) cx dX6_laysBack_2 rfl rfl ?_
  refine go_bipush (pc' := 5) cx 8 dX6_laysBack_3 rfl rfl ?_
  refine go_icmp_ge (pc' := 8) cx 38 dX6_laysBack_5 rfl rfl (fun hh => absurd hh (by decide)) (fun _ => ?_)
  refine go_aload_n (pc' := 9) cx dX6_laysBack_8 rfl rfl ?_
  refine go_getr (pc' := 12) cx 101 fX6_53 dX6_laysBack_9 kq88 (ltn rfl) (ltn rfl) rfl rfl rfl ?_
  refine go_iload_n (pc' := 13) cx dX6_laysBack_12 rfl rfl ?_
  refine go_aload_n (pc' := 14) cx dX6_laysBack_13 rfl rfl ?_
  refine go_getr (pc' := 17) cx 106 fX6_68 dX6_laysBack_14 kq88 (ltn rfl) (ltn rfl) rfl rfl rfl ?_
  refine go_iload_n (pc' := 18) cx dX6_laysBack_17 rfl rfl ?_
  refine go_iald (pc' := 19) cx (g 106 3) dX6_laysBack_18 kq106 (ltn rfl) (vpi (k := 3) (a := 4) (ltn rfl) rfl rfl) ((congrArg ((up2 (up2 (up2 (up2 (up2 (up2 g 101 0 (g 106 0)) 99 0 (g 107 0)) 101 1 (g 106 1)) 99 1 (g 107 1)) 101 2 (g 106 2)) 99 2 (g 107 2)) 106) (cli (k := 3) (a := 4) (ltn rfl) rfl)).trans ((up2_n (up2 (up2 (up2 (up2 (up2 g 101 0 (g 106 0)) 99 0 (g 107 0)) 101 1 (g 106 1)) 99 1 (g 107 1)) 101 2 (g 106 2)) (g 107 2) (Or.inl (Nat.ne_of_beq_eq_false rfl))).trans ((up2_n (up2 (up2 (up2 (up2 g 101 0 (g 106 0)) 99 0 (g 107 0)) 101 1 (g 106 1)) 99 1 (g 107 1)) (g 106 2) (Or.inl (Nat.ne_of_beq_eq_false rfl))).trans ((up2_n (up2 (up2 (up2 g 101 0 (g 106 0)) 99 0 (g 107 0)) 101 1 (g 106 1)) (g 107 1) (Or.inl (Nat.ne_of_beq_eq_false rfl))).trans ((up2_n (up2 (up2 g 101 0 (g 106 0)) 99 0 (g 107 0)) (g 106 1) (Or.inl (Nat.ne_of_beq_eq_false rfl))).trans ((up2_n (up2 g 101 0 (g 106 0)) (g 107 0) (Or.inl (Nat.ne_of_beq_eq_false rfl))).trans (up2_n g (g 106 0) (Or.inl (Nat.ne_of_beq_eq_false rfl))))))))) rfl ?_
  refine go_iastk (pc' := 20) cx 3 dX6_laysBack_19 kq101 (ltn rfl) (vpi (k := 3) (a := 4) (ltn rfl) rfl rfl) (cli (k := 3) (a := 4) (ltn rfl) rfl) rfl ?_
  refine go_aload_n (pc' := 21) cx dX6_laysBack_20 rfl rfl ?_
  refine go_getr (pc' := 24) cx 99 fX6_47 dX6_laysBack_21 kq88 (ltn rfl) (ltn rfl) rfl rfl rfl ?_
  refine go_iload_n (pc' := 25) cx dX6_laysBack_24 rfl rfl ?_
  refine go_aload_n (pc' := 26) cx dX6_laysBack_25 rfl rfl ?_
  refine go_getr (pc' := 29) cx 107 fX6_71 dX6_laysBack_26 kq88 (ltn rfl) (ltn rfl) rfl rfl rfl ?_
  refine go_iload_n (pc' := 30) cx dX6_laysBack_29 rfl rfl ?_
  refine go_iald (pc' := 31) cx (g 107 3) dX6_laysBack_30 kq107 (ltn rfl) (vpi (k := 3) (a := 4) (ltn rfl) rfl rfl) ((congrArg ((up2 (up2 (up2 (up2 (up2 (up2 (up2 g 101 0 (g 106 0)) 99 0 (g 107 0)) 101 1 (g 106 1)) 99 1 (g 107 1)) 101 2 (g 106 2)) 99 2 (g 107 2)) 101 3 (g 106 3)) 107) (cli (k := 3) (a := 4) (ltn rfl) rfl)).trans ((up2_n (up2 (up2 (up2 (up2 (up2 (up2 g 101 0 (g 106 0)) 99 0 (g 107 0)) 101 1 (g 106 1)) 99 1 (g 107 1)) 101 2 (g 106 2)) 99 2 (g 107 2)) (g 106 3) (Or.inl (Nat.ne_of_beq_eq_false rfl))).trans ((up2_n (up2 (up2 (up2 (up2 (up2 g 101 0 (g 106 0)) 99 0 (g 107 0)) 101 1 (g 106 1)) 99 1 (g 107 1)) 101 2 (g 106 2)) (g 107 2) (Or.inl (Nat.ne_of_beq_eq_false rfl))).trans ((up2_n (up2 (up2 (up2 (up2 g 101 0 (g 106 0)) 99 0 (g 107 0)) 101 1 (g 106 1)) 99 1 (g 107 1)) (g 106 2) (Or.inl (Nat.ne_of_beq_eq_false rfl))).trans ((up2_n (up2 (up2 (up2 g 101 0 (g 106 0)) 99 0 (g 107 0)) 101 1 (g 106 1)) (g 107 1) (Or.inl (Nat.ne_of_beq_eq_false rfl))).trans ((up2_n (up2 (up2 g 101 0 (g 106 0)) 99 0 (g 107 0)) (g 106 1) (Or.inl (Nat.ne_of_beq_eq_false rfl))).trans ((up2_n (up2 g 101 0 (g 106 0)) (g 107 0) (Or.inl (Nat.ne_of_beq_eq_false rfl))).trans (up2_n g (g 106 0) (Or.inl (Nat.ne_of_beq_eq_false rfl)))))))))) rfl ?_
  refine go_iastk (pc' := 32) cx 3 dX6_laysBack_31 kq99 (ltn rfl) (vpi (k := 3) (a := 4) (ltn rfl) rfl rfl) (cli (k := 3) (a := 4) (ltn rfl) rfl) rfl ?_
  refine go_iinc (pc' := 35) cx 4 dX6_laysBack_32 rfl rfl (ltn rfl) [(1, .int 4), (0, .ref (E.2.1 88))] rfl rfl ?_
  refine go_goto cx 2 dX6_laysBack_35 rfl ?_
  refine go_iload_n (pc' := 3) cx dX6_laysBack_2 rfl rfl ?_
  refine go_bipush (pc' := 5) cx 8 dX6_laysBack_3 rfl rfl ?_
  refine go_icmp_ge (pc' := 8) cx 38 dX6_laysBack_5 rfl rfl (fun hh => absurd hh (by decide)) (fun _ => ?_)
  refine go_aload_n (pc' := 9) cx dX6_laysBack_8 rfl rfl ?_
  refine go_getr (pc' := 12) cx 101 fX6_53 dX6_laysBack_9 kq88 (ltn rfl) (ltn rfl) rfl rfl rfl ?_
  refine go_iload_n (pc' := 13) cx dX6_laysBack_12 rfl rfl ?_
  refine go_aload_n (pc' := 14) cx dX6_laysBack_13 rfl rfl ?_
  refine go_getr (pc' := 17) cx 106 fX6_68 dX6_laysBack_14 kq88 (ltn rfl) (ltn rfl) rfl rfl rfl ?_
  refine go_iload_n (pc' := 18) cx dX6_laysBack_17 rfl rfl ?_
  refine go_iald (pc' := 19) cx (g 106 4) dX6_laysBack_18 kq106 (ltn rfl) (vpi (k := 4) (a := 5) (ltn rfl) rfl rfl) ((congrArg ((up2 (up2 (up2 (up2 (up2 (up2 (up2 (up2 g 101 0 (g 106 0)) 99 0 (g 107 0)) 101 1 (g 106 1)) 99 1 (g 107 1)) 101 2 (g 106 2)) 99 2 (g 107 2)) 101 3 (g 106 3)) 99 3 (g 107 3)) 106) (cli (k := 4) (a := 5) (ltn rfl) rfl)).trans ((up2_n (up2 (up2 (up2 (up2 (up2 (up2 (up2 g 101 0 (g 106 0)) 99 0 (g 107 0)) 101 1 (g 106 1)) 99 1 (g 107 1)) 101 2 (g 106 2)) 99 2 (g 107 2)) 101 3 (g 106 3)) (g 107 3) (Or.inl (Nat.ne_of_beq_eq_false rfl))).trans ((up2_n (up2 (up2 (up2 (up2 (up2 (up2 g 101 0 (g 106 0)) 99 0 (g 107 0)) 101 1 (g 106 1)) 99 1 (g 107 1)) 101 2 (g 106 2)) 99 2 (g 107 2)) (g 106 3) (Or.inl (Nat.ne_of_beq_eq_false rfl))).trans ((up2_n (up2 (up2 (up2 (up2 (up2 g 101 0 (g 106 0)) 99 0 (g 107 0)) 101 1 (g 106 1)) 99 1 (g 107 1)) 101 2 (g 106 2)) (g 107 2) (Or.inl (Nat.ne_of_beq_eq_false rfl))).trans ((up2_n (up2 (up2 (up2 (up2 g 101 0 (g 106 0)) 99 0 (g 107 0)) 101 1 (g 106 1)) 99 1 (g 107 1)) (g 106 2) (Or.inl (Nat.ne_of_beq_eq_false rfl))).trans ((up2_n (up2 (up2 (up2 g 101 0 (g 106 0)) 99 0 (g 107 0)) 101 1 (g 106 1)) (g 107 1) (Or.inl (Nat.ne_of_beq_eq_false rfl))).trans ((up2_n (up2 (up2 g 101 0 (g 106 0)) 99 0 (g 107 0)) (g 106 1) (Or.inl (Nat.ne_of_beq_eq_false rfl))).trans ((up2_n (up2 g 101 0 (g 106 0)) (g 107 0) (Or.inl (Nat.ne_of_beq_eq_false rfl))).trans (up2_n g (g 106 0) (Or.inl (Nat.ne_of_beq_eq_false rfl))))))))))) rfl ?_
  refine go_iastk (pc' := 20) cx 4 dX6_laysBack_19 kq101 (ltn rfl) (vpi (k := 4) (a := 5) (ltn rfl) rfl rfl) (cli (k := 4) (a := 5) (ltn rfl) rfl) rfl ?_
  refine go_aload_n (pc' := 21) cx dX6_laysBack_20 rfl rfl ?_
  refine go_getr (pc' := 24) cx 99 fX6_47 dX6_laysBack_21 kq88 (ltn rfl) (ltn rfl) rfl rfl rfl ?_
  refine go_iload_n (pc' := 25) cx dX6_laysBack_24 rfl rfl ?_
  refine go_aload_n (pc' := 26) cx dX6_laysBack_25 rfl rfl ?_
  refine go_getr (pc' := 29) cx 107 fX6_71 dX6_laysBack_26 kq88 (ltn rfl) (ltn rfl) rfl rfl rfl ?_
  refine go_iload_n (pc' := 30) cx dX6_laysBack_29 rfl rfl ?_
  refine go_iald (pc' := 31) cx (g 107 4) dX6_laysBack_30 kq107 (ltn rfl) (vpi (k := 4) (a := 5) (ltn rfl) rfl rfl) ((congrArg ((up2 (up2 (up2 (up2 (up2 (up2 (up2 (up2 (up2 g 101 0 (g 106 0)) 99 0 (g 107 0)) 101 1 (g 106 1)) 99 1 (g 107 1)) 101 2 (g 106 2)) 99 2 (g 107 2)) 101 3 (g 106 3)) 99 3 (g 107 3)) 101 4 (g 106 4)) 107) (cli (k := 4) (a := 5) (ltn rfl) rfl)).trans ((up2_n (up2 (up2 (up2 (up2 (up2 (up2 (up2 (up2 g 101 0 (g 106 0)) 99 0 (g 107 0)) 101 1 (g 106 1)) 99 1 (g 107 1)) 101 2 (g 106 2)) 99 2 (g 107 2)) 101 3 (g 106 3)) 99 3 (g 107 3)) (g 106 4) (Or.inl (Nat.ne_of_beq_eq_false rfl))).trans ((up2_n (up2 (up2 (up2 (up2 (up2 (up2 (up2 g 101 0 (g 106 0)) 99 0 (g 107 0)) 101 1 (g 106 1)) 99 1 (g 107 1)) 101 2 (g 106 2)) 99 2 (g 107 2)) 101 3 (g 106 3)) (g 107 3) (Or.inl (Nat.ne_of_beq_eq_false rfl))).trans ((up2_n (up2 (up2 (up2 (up2 (up2 (up2 g 101 0 (g 106 0)) 99 0 (g 107 0)) 101 1 (g 106 1)) 99 1 (g 107 1)) 101 2 (g 106 2)) 99 2 (g 107 2)) (g 106 3) (Or.inl (Nat.ne_of_beq_eq_false rfl))).trans ((up2_n (up2 (up2 (up2 (up2 (up2 g 101 0 (g 106 0)) 99 0 (g 107 0)) 101 1 (g 106 1)) 99 1 (g 107 1)) 101 2 (g 106 2)) (g 107 2) (Or.inl (Nat.ne_of_beq_eq_false rfl))).trans ((up2_n (up2 (up2 (up2 (up2 g 101 0 (g 106 0)) 99 0 (g 107 0)) 101 1 (g 106 1)) 99 1 (g 107 1)) (g 106 2) (Or.inl (Nat.ne_of_beq_eq_false rfl))).trans ((up2_n (up2 (up2 (up2 g 101 0 (g 106 0)) 99 0 (g 107 0)) 101 1 (g 106 1)) (g 107 1) (Or.inl (Nat.ne_of_beq_eq_false rfl))).trans ((up2_n (up2 (up2 g 101 0 (g 106 0)) 99 0 (g 107 0)) (g 106 1) (Or.inl (Nat.ne_of_beq_eq_false rfl))).trans ((up2_n (up2 g 101 0 (g 106 0)) (g 107 0) (Or.inl (Nat.ne_of_beq_eq_false rfl))).trans (up2_n g (g 106 0) (Or.inl (Nat.ne_of_beq_eq_false rfl)))))))))))) rfl ?_
  refine go_iastk (pc' := 32) cx 4 dX6_laysBack_31 kq99 (ltn rfl) (vpi (k := 4) (a := 5) (ltn rfl) rfl rfl) (cli (k := 4) (a := 5) (ltn rfl) rfl) rfl ?_
  refine go_iinc (pc' := 35) cx 5 dX6_laysBack_32 rfl rfl (ltn rfl) [(1, .int 5), (0, .ref (E.2.1 88))] rfl rfl ?_
  refine go_goto cx 2 dX6_laysBack_35 rfl ?_
  refine go_iload_n (pc' := 3) cx dX6_laysBack_2 rfl rfl ?_
  refine go_bipush (pc' := 5) cx 8 dX6_laysBack_3 rfl rfl ?_
  refine go_icmp_ge (pc' := 8) cx 38 dX6_laysBack_5 rfl rfl (fun hh => absurd hh (by decide)) (fun _ => ?_)
  refine go_aload_n (pc' := 9) cx dX6_laysBack_8 rfl rfl ?_
  refine go_getr (pc' := 12) cx 101 fX6_53 dX6_laysBack_9 kq88 (ltn rfl) (ltn rfl) rfl rfl rfl ?_
  refine go_iload_n (pc' := 13) cx dX6_laysBack_12 rfl rfl ?_
  refine go_aload_n (pc' := 14) cx dX6_laysBack_13 rfl rfl ?_
  refine go_getr (pc' := 17) cx 106 fX6_68 dX6_laysBack_14 kq88 (ltn rfl) (ltn rfl) rfl rfl rfl ?_
  refine go_iload_n (pc' := 18) cx dX6_laysBack_17 rfl rfl ?_
  refine go_iald (pc' := 19) cx (g 106 5) dX6_laysBack_18 kq106 (ltn rfl) (vpi (k := 5) (a := 6) (ltn rfl) rfl rfl) ((congrArg ((up2 (up2 (up2 (up2 (up2 (up2 (up2 (up2 (up2 (up2 g 101 0 (g 106 0)) 99 0 (g 107 0)) 101 1 (g 106 1)) 99 1 (g 107 1)) 101 2 (g 106 2)) 99 2 (g 107 2)) 101 3 (g 106 3)) 99 3 (g 107 3)) 101 4 (g 106 4)) 99 4 (g 107 4)) 106) (cli (k := 5) (a := 6) (ltn rfl) rfl)).trans ((up2_n (up2 (up2 (up2 (up2 (up2 (up2 (up2 (up2 (up2 g 101 0 (g 106 0)) 99 0 (g 107 0)) 101 1 (g 106 1)) 99 1 (g 107 1)) 101 2 (g 106 2)) 99 2 (g 107 2)) 101 3 (g 106 3)) 99 3 (g 107 3)) 101 4 (g 106 4)) (g 107 4) (Or.inl (Nat.ne_of_beq_eq_false rfl))).trans ((up2_n (up2 (up2 (up2 (up2 (up2 (up2 (up2 (up2 g 101 0 (g 106 0)) 99 0 (g 107 0)) 101 1 (g 106 1)) 99 1 (g 107 1)) 101 2 (g 106 2)) 99 2 (g 107 2)) 101 3 (g 106 3)) 99 3 (g 107 3)) (g 106 4) (Or.inl (Nat.ne_of_beq_eq_false rfl))).trans ((up2_n (up2 (up2 (up2 (up2 (up2 (up2 (up2 g 101 0 (g 106 0)) 99 0 (g 107 0)) 101 1 (g 106 1)) 99 1 (g 107 1)) 101 2 (g 106 2)) 99 2 (g 107 2)) 101 3 (g 106 3)) (g 107 3) (Or.inl (Nat.ne_of_beq_eq_false rfl))).trans ((up2_n (up2 (up2 (up2 (up2 (up2 (up2 g 101 0 (g 106 0)) 99 0 (g 107 0)) 101 1 (g 106 1)) 99 1 (g 107 1)) 101 2 (g 106 2)) 99 2 (g 107 2)) (g 106 3) (Or.inl (Nat.ne_of_beq_eq_false rfl))).trans ((up2_n (up2 (up2 (up2 (up2 (up2 g 101 0 (g 106 0)) 99 0 (g 107 0)) 101 1 (g 106 1)) 99 1 (g 107 1)) 101 2 (g 106 2)) (g 107 2) (Or.inl (Nat.ne_of_beq_eq_false rfl))).trans ((up2_n (up2 (up2 (up2 (up2 g 101 0 (g 106 0)) 99 0 (g 107 0)) 101 1 (g 106 1)) 99 1 (g 107 1)) (g 106 2) (Or.inl (Nat.ne_of_beq_eq_false rfl))).trans ((up2_n (up2 (up2 (up2 g 101 0 (g 106 0)) 99 0 (g 107 0)) 101 1 (g 106 1)) (g 107 1) (Or.inl (Nat.ne_of_beq_eq_false rfl))).trans ((up2_n (up2 (up2 g 101 0 (g 106 0)) 99 0 (g 107 0)) (g 106 1) (Or.inl (Nat.ne_of_beq_eq_false rfl))).trans ((up2_n (up2 g 101 0 (g 106 0)) (g 107 0) (Or.inl (Nat.ne_of_beq_eq_false rfl))).trans (up2_n g (g 106 0) (Or.inl (Nat.ne_of_beq_eq_false rfl))))))))))))) rfl ?_
  refine go_iastk (pc' := 20) cx 5 dX6_laysBack_19 kq101 (ltn rfl) (vpi (k := 5) (a := 6) (ltn rfl) rfl rfl) (cli (k := 5) (a := 6) (ltn rfl) rfl) rfl ?_
  refine go_aload_n (pc' := 21) cx dX6_laysBack_20 rfl rfl ?_
  refine go_getr (pc' := 24) cx 99 fX6_47 dX6_laysBack_21 kq88 (ltn rfl) (ltn rfl) rfl rfl rfl ?_
  refine go_iload_n (pc' := 25) cx dX6_laysBack_24 rfl rfl ?_
  refine go_aload_n (pc' := 26) cx dX6_laysBack_25 rfl rfl ?_
  refine go_getr (pc' := 29) cx 107 fX6_71 dX6_laysBack_26 kq88 (ltn rfl) (ltn rfl) rfl rfl rfl ?_
  refine go_iload_n (pc' := 30) cx dX6_laysBack_29 rfl rfl ?_
  refine go_iald (pc' := 31) cx (g 107 5) dX6_laysBack_30 kq107 (ltn rfl) (vpi (k := 5) (a := 6) (ltn rfl) rfl rfl) ((congrArg ((up2 (up2 (up2 (up2 (up2 (up2 (up2 (up2 (up2 (up2 (up2 g 101 0 (g 106 0)) 99 0 (g 107 0)) 101 1 (g 106 1)) 99 1 (g 107 1)) 101 2 (g 106 2)) 99 2 (g 107 2)) 101 3 (g 106 3)) 99 3 (g 107 3)) 101 4 (g 106 4)) 99 4 (g 107 4)) 101 5 (g 106 5)) 107) (cli (k := 5) (a := 6) (ltn rfl) rfl)).trans ((up2_n (up2 (up2 (up2 (up2 (up2 (up2 (up2 (up2 (up2 (up2 g 101 0 (g 106 0)) 99 0 (g 107 0)) 101 1 (g 106 1)) 99 1 (g 107 1)) 101 2 (g 106 2)) 99 2 (g 107 2)) 101 3 (g 106 3)) 99 3 (g 107 3)) 101 4 (g 106 4)) 99 4 (g 107 4)) (g 106 5) (Or.inl (Nat.ne_of_beq_eq_false rfl))).trans ((up2_n (up2 (up2 (up2 (up2 (up2 (up2 (up2 (up2 (up2 g 101 0 (g 106 0)) 99 0 (g 107 0)) 101 1 (g 106 1)) 99 1 (g 107 1)) 101 2 (g 106 2)) 99 2 (g 107 2)) 101 3 (g 106 3)) 99 3 (g 107 3)) 101 4 (g 106 4)) (g 107 4) (Or.inl (Nat.ne_of_beq_eq_false rfl))).trans ((up2_n (up2 (up2 (up2 (up2 (up2 (up2 (up2 (up2 g 101 0 (g 106 0)) 99 0 (g 107 0)) 101 1 (g 106 1)) 99 1 (g 107 1)) 101 2 (g 106 2)) 99 2 (g 107 2)) 101 3 (g 106 3)) 99 3 (g 107 3)) (g 106 4) (Or.inl (Nat.ne_of_beq_eq_false rfl))).trans ((up2_n (up2 (up2 (up2 (up2 (up2 (up2 (up2 g 101 0 (g 106 0)) 99 0 (g 107 0)) 101 1 (g 106 1)) 99 1 (g 107 1)) 101 2 (g 106 2)) 99 2 (g 107 2)) 101 3 (g 106 3)) (g 107 3) (Or.inl (Nat.ne_of_beq_eq_false rfl))).trans ((up2_n (up2 (up2 (up2 (up2 (up2 (up2 g 101 0 (g 106 0)) 99 0 (g 107 0)) 101 1 (g 106 1)) 99 1 (g 107 1)) 101 2 (g 106 2)) 99 2 (g 107 2)) (g 106 3) (Or.inl (Nat.ne_of_beq_eq_false rfl))).trans ((up2_n (up2 (up2 (up2 (up2 (up2 g 101 0 (g 106 0)) 99 0 (g 107 0)) 101 1 (g 106 1)) 99 1 (g 107 1)) 101 2 (g 106 2)) (g 107 2) (Or.inl (Nat.ne_of_beq_eq_false rfl))).trans ((up2_n (up2 (up2 (up2 (up2 g 101 0 (g 106 0)) 99 0 (g 107 0)) 101 1 (g 106 1)) 99 1 (g 107 1)) (g 106 2) (Or.inl (Nat.ne_of_beq_eq_false rfl))).trans ((up2_n (up2 (up2 (up2 g 101 0 (g 106 0)) 99 0 (g 107 0)) 101 1 (g 106 1)) (g 107 1) (Or.inl (Nat.ne_of_beq_eq_false rfl))).trans ((up2_n (up2 (up2 g 101 0 (g 106 0)) 99 0 (g 107 0)) (g 106 1) (Or.inl (Nat.ne_of_beq_eq_false rfl))).trans ((up2_n (up2 g 101 0 (g 106 0)) (g 107 0) (Or.inl (Nat.ne_of_beq_eq_false rfl))).trans (up2_n g (g 106 0) (Or.inl (Nat.ne_of_beq_eq_false rfl)))))))))))))) rfl ?_
  refine go_iastk (pc' := 32) cx 5 dX6_laysBack_31 kq99 (ltn rfl) (vpi (k := 5) (a := 6) (ltn rfl) rfl rfl) (cli (k := 5) (a := 6) (ltn rfl) rfl) rfl ?_
  refine go_iinc (pc' := 35) cx 6 dX6_laysBack_32 rfl rfl (ltn rfl) [(1, .int 6), (0, .ref (E.2.1 88))] rfl rfl ?_
  refine go_goto cx 2 dX6_laysBack_35 rfl ?_
  refine go_iload_n (pc' := 3) cx dX6_laysBack_2 rfl rfl ?_
  refine go_bipush (pc' := 5) cx 8 dX6_laysBack_3 rfl rfl ?_
  refine go_icmp_ge (pc' := 8) cx 38 dX6_laysBack_5 rfl rfl (fun hh => absurd hh (by decide)) (fun _ => ?_)
  refine go_aload_n (pc' := 9) cx dX6_laysBack_8 rfl rfl ?_
  refine go_getr (pc' := 12) cx 101 fX6_53 dX6_laysBack_9 kq88 (ltn rfl) (ltn rfl) rfl rfl rfl ?_
  refine go_iload_n (pc' := 13) cx dX6_laysBack_12 rfl rfl ?_
  refine go_aload_n (pc' := 14) cx dX6_laysBack_13 rfl rfl ?_
  refine go_getr (pc' := 17) cx 106 fX6_68 dX6_laysBack_14 kq88 (ltn rfl) (ltn rfl) rfl rfl rfl ?_
  refine go_iload_n (pc' := 18) cx dX6_laysBack_17 rfl rfl ?_
  refine go_iald (pc' := 19) cx (g 106 6) dX6_laysBack_18 kq106 (ltn rfl) (vpi (k := 6) (a := 7) (ltn rfl) rfl rfl) ((congrArg ((up2 (up2 (up2 (up2 (up2 (up2 (up2 (up2 (up2 (up2 (up2 (up2 g 101 0 (g 106 0)) 99 0 (g 107 0)) 101 1 (g 106 1)) 99 1 (g 107 1)) 101 2 (g 106 2)) 99 2 (g 107 2)) 101 3 (g 106 3)) 99 3 (g 107 3)) 101 4 (g 106 4)) 99 4 (g 107 4)) 101 5 (g 106 5)) 99 5 (g 107 5)) 106) (cli (k := 6) (a := 7) (ltn rfl) rfl)).trans ((up2_n (up2 (up2 (up2 (up2 (up2 (up2 (up2 (up2 (up2 (up2 (up2 g 101 0 (g 106 0)) 99 0 (g 107 0)) 101 1 (g 106 1)) 99 1 (g 107 1)) 101 2 (g 106 2)) 99 2 (g 107 2)) 101 3 (g 106 3)) 99 3 (g 107 3)) 101 4 (g 106 4)) 99 4 (g 107 4)) 101 5 (g 106 5)) (g 107 5) (Or.inl (Nat.ne_of_beq_eq_false rfl))).trans ((up2_n (up2 (up2 (up2 (up2 (up2 (up2 (up2 (up2 (up2 (up2 g 101 0 (g 106 0)) 99 0 (g 107 0)) 101 1 (g 106 1)) 99 1 (g 107 1)) 101 2 (g 106 2)) 99 2 (g 107 2)) 101 3 (g 106 3)) 99 3 (g 107 3)) 101 4 (g 106 4)) 99 4 (g 107 4)) (g 106 5) (Or.inl (Nat.ne_of_beq_eq_false rfl))).trans ((up2_n (up2 (up2 (up2 (up2 (up2 (up2 (up2 (up2 (up2 g 101 0 (g 106 0)) 99 0 (g 107 0)) 101 1 (g 106 1)) 99 1 (g 107 1)) 101 2 (g 106 2)) 99 2 (g 107 2)) 101 3 (g 106 3)) 99 3 (g 107 3)) 101 4 (g 106 4)) (g 107 4) (Or.inl (Nat.ne_of_beq_eq_false rfl))).trans ((up2_n (up2 (up2 (up2 (up2 (up2 (up2 (up2 (up2 g 101 0 (g 106 0)) 99 0 (g 107 0)) 101 1 (g 106 1)) 99 1 (g 107 1)) 101 2 (g 106 2)) 99 2 (g 107 2)) 101 3 (g 106 3)) 99 3 (g 107 3)) (g 106 4) (Or.inl (Nat.ne_of_beq_eq_false rfl))).trans ((up2_n (up2 (up2 (up2 (up2 (up2 (up2 (up2 g 101 0 (g 106 0)) 99 0 (g 107 0)) 101 1 (g 106 1)) 99 1 (g 107 1)) 101 2 (g 106 2)) 99 2 (g 107 2)) 101 3 (g 106 3)) (g 107 3) (Or.inl (Nat.ne_of_beq_eq_false rfl))).trans ((up2_n (up2 (up2 (up2 (up2 (up2 (up2 g 101 0 (g 106 0)) 99 0 (g 107 0)) 101 1 (g 106 1)) 99 1 (g 107 1)) 101 2 (g 106 2)) 99 2 (g 107 2)) (g 106 3) (Or.inl (Nat.ne_of_beq_eq_false rfl))).trans ((up2_n (up2 (up2 (up2 (up2 (up2 g 101 0 (g 106 0)) 99 0 (g 107 0)) 101 1 (g 106 1)) 99 1 (g 107 1)) 101 2 (g 106 2)) (g 107 2) (Or.inl (Nat.ne_of_beq_eq_false rfl))).trans ((up2_n (up2 (up2 (up2 (up2 g 101 0 (g 106 0)) 99 0 (g 107 0)) 101 1 (g 106 1)) 99 1 (g 107 1)) (g 106 2) (Or.inl (Nat.ne_of_beq_eq_false rfl))).trans ((up2_n (up2 (up2 (up2 g 101 0 (g 106 0)) 99 0 (g 107 0)) 101 1 (g 106 1)) (g 107 1) (Or.inl (Nat.ne_of_beq_eq_false rfl))).trans ((up2_n (up2 (up2 g 101 0 (g 106 0)) 99 0 (g 107 0)) (g 106 1) (Or.inl (Nat.ne_of_beq_eq_false rfl))).trans ((up2_n (up2 g 101 0 (g 106 0)) (g 107 0) (Or.inl (Nat.ne_of_beq_eq_false rfl))).trans (up2_n g (g 106 0) (Or.inl (Nat.ne_of_beq_eq_false rfl))))))))))))))) rfl ?_
  refine go_iastk (pc' := 20) cx 6 dX6_laysBack_19 kq101 (ltn rfl) (vpi (k := 6) (a := 7) (ltn rfl) rfl rfl) (cli (k := 6) (a := 7) (ltn rfl) rfl) rfl ?_
  refine go_aload_n (pc' := 21) cx dX6_laysBack_20 rfl rfl ?_
  refine go_getr (pc' := 24) cx 99 fX6_47 dX6_laysBack_21 kq88 (ltn rfl) (ltn rfl) rfl rfl rfl ?_
  refine go_iload_n (pc' := 25) cx dX6_laysBack_24 rfl rfl ?_
  refine go_aload_n (pc' := 26) cx dX6_laysBack_25 rfl rfl ?_
  refine go_getr (pc' := 29) cx 107 fX6_71 dX6_laysBack_26 kq88 (ltn rfl) (ltn rfl) rfl rfl rfl ?_
  refine go_iload_n (pc' := 30) cx dX6_laysBack_29 rfl rfl ?_
  refine go_iald (pc' := 31) cx (g 107 6) dX6_laysBack_30 kq107 (ltn rfl) (vpi (k := 6) (a := 7) (ltn rfl) rfl rfl) ((congrArg ((up2 (up2 (up2 (up2 (up2 (up2 (up2 (up2 (up2 (up2 (up2 (up2 (up2 g 101 0 (g 106 0)) 99 0 (g 107 0)) 101 1 (g 106 1)) 99 1 (g 107 1)) 101 2 (g 106 2)) 99 2 (g 107 2)) 101 3 (g 106 3)) 99 3 (g 107 3)) 101 4 (g 106 4)) 99 4 (g 107 4)) 101 5 (g 106 5)) 99 5 (g 107 5)) 101 6 (g 106 6)) 107) (cli (k := 6) (a := 7) (ltn rfl) rfl)).trans ((up2_n (up2 (up2 (up2 (up2 (up2 (up2 (up2 (up2 (up2 (up2 (up2 (up2 g 101 0 (g 106 0)) 99 0 (g 107 0)) 101 1 (g 106 1)) 99 1 (g 107 1)) 101 2 (g 106 2)) 99 2 (g 107 2)) 101 3 (g 106 3)) 99 3 (g 107 3)) 101 4 (g 106 4)) 99 4 (g 107 4)) 101 5 (g 106 5)) 99 5 (g 107 5)) (g 106 6) (Or.inl (Nat.ne_of_beq_eq_false rfl))).trans ((up2_n (up2 (up2 (up2 (up2 (up2 (up2 (up2 (up2 (up2 (up2 (up2 g 101 0 (g 106 0)) 99 0 (g 107 0)) 101 1 (g 106 1)) 99 1 (g 107 1)) 101 2 (g 106 2)) 99 2 (g 107 2)) 101 3 (g 106 3)) 99 3 (g 107 3)) 101 4 (g 106 4)) 99 4 (g 107 4)) 101 5 (g 106 5)) (g 107 5) (Or.inl (Nat.ne_of_beq_eq_false rfl))).trans ((up2_n (up2 (up2 (up2 (up2 (up2 (up2 (up2 (up2 (up2 (up2 g 101 0 (g 106 0)) 99 0 (g 107 0)) 101 1 (g 106 1)) 99 1 (g 107 1)) 101 2 (g 106 2)) 99 2 (g 107 2)) 101 3 (g 106 3)) 99 3 (g 107 3)) 101 4 (g 106 4)) 99 4 (g 107 4)) (g 106 5) (Or.inl (Nat.ne_of_beq_eq_false rfl))).trans ((up2_n (up2 (up2 (up2 (up2 (up2 (up2 (up2 (up2 (up2 g 101 0 (g 106 0)) 99 0 (g 107 0)) 101 1 (g 106 1)) 99 1 (g 107 1)) 101 2 (g 106 2)) 99 2 (g 107 2)) 101 3 (g 106 3)) 99 3 (g 107 3)) 101 4 (g 106 4)) (g 107 4) (Or.inl (Nat.ne_of_beq_eq_false rfl))).trans ((up2_n (up2 (up2 (up2 (up2 (up2 (up2 (up2 (up2 g 101 0 (g 106 0)) 99 0 (g 107 0)) 101 1 (g 106 1)) 99 1 (g 107 1)) 101 2 (g 106 2)) 99 2 (g 107 2)) 101 3 (g 106 3)) 99 3 (g 107 3)) (g 106 4) (Or.inl (Nat.ne_of_beq_eq_false rfl))).trans ((up2_n (up2 (up2 (up2 (up2 (up2 (up2 (up2 g 101 0 (g 106 0)) 99 0 (g 107 0)) 101 1 (g 106 1)) 99 1 (g 107 1)) 101 2 (g 106 2)) 99 2 (g 107 2)) 101 3 (g 106 3)) (g 107 3) (Or.inl (Nat.ne_of_beq_eq_false rfl))).trans ((up2_n (up2 (up2 (up2 (up2 (up2 (up2 g 101 0 (g 106 0)) 99 0 (g 107 0)) 101 1 (g 106 1)) 99 1 (g 107 1)) 101 2 (g 106 2)) 99 2 (g 107 2)) (g 106 3) (Or.inl (Nat.ne_of_beq_eq_false rfl))).trans ((up2_n (up2 (up2 (up2 (up2 (up2 g 101 0 (g 106 0)) 99 0 (g 107 0)) 101 1 (g 106 1)) 99 1 (g 107 1)) 101 2 (g 106 2)) (g 107 2) (Or.inl (Nat.ne_of_beq_eq_false rfl))).trans ((up2_n (up2 (up2 (up2 (up2 g 101 0 (g 106 0)) 99 0 (g 107 0)) 101 1 (g 106 1)) 99 1 (g 107 1)) (g 106 2) (Or.inl (Nat.ne_of_beq_eq_false rfl))).trans ((up2_n (up2 (up2 (up2 g 101 0 (g 106 0)) 99 0 (g 107 0)) 101 1 (g 106 1)) (g 107 1) (Or.inl (Nat.ne_of_beq_eq_false rfl))).trans ((up2_n (up2 (up2 g 101 0 (g 106 0)) 99 0 (g 107 0)) (g 106 1) (Or.inl (Nat.ne_of_beq_eq_false rfl))).trans ((up2_n (up2 g 101 0 (g 106 0)) (g 107 0) (Or.inl (Nat.ne_of_beq_eq_false rfl))).trans (up2_n g (g 106 0) (Or.inl (Nat.ne_of_beq_eq_false rfl)))))))))))))))) rfl ?_
  refine go_iastk (pc' := 32) cx 6 dX6_laysBack_31 kq99 (ltn rfl) (vpi (k := 6) (a := 7) (ltn rfl) rfl rfl) (cli (k := 6) (a := 7) (ltn rfl) rfl) rfl ?_
  refine go_iinc (pc' := 35) cx 7 dX6_laysBack_32 rfl rfl (ltn rfl) [(1, .int 7), (0, .ref (E.2.1 88))] rfl rfl ?_
  refine go_goto cx 2 dX6_laysBack_35 rfl ?_
  refine go_iload_n (pc' := 3) cx dX6_laysBack_2 rfl rfl ?_
  refine go_bipush (pc' := 5) cx 8 dX6_laysBack_3 rfl rfl ?_
  refine go_icmp_ge (pc' := 8) cx 38 dX6_laysBack_5 rfl rfl (fun hh => absurd hh (by decide)) (fun _ => ?_)
  refine go_aload_n (pc' := 9) cx dX6_laysBack_8 rfl rfl ?_
  refine go_getr (pc' := 12) cx 101 fX6_53 dX6_laysBack_9 kq88 (ltn rfl) (ltn rfl) rfl rfl rfl ?_
  refine go_iload_n (pc' := 13) cx dX6_laysBack_12 rfl rfl ?_
  refine go_aload_n (pc' := 14) cx dX6_laysBack_13 rfl rfl ?_
  refine go_getr (pc' := 17) cx 106 fX6_68 dX6_laysBack_14 kq88 (ltn rfl) (ltn rfl) rfl rfl rfl ?_
  refine go_iload_n (pc' := 18) cx dX6_laysBack_17 rfl rfl ?_
  refine go_iald (pc' := 19) cx (g 106 7) dX6_laysBack_18 kq106 (ltn rfl) (vpi (k := 7) (a := 8) (ltn rfl) rfl rfl) ((congrArg ((up2 (up2 (up2 (up2 (up2 (up2 (up2 (up2 (up2 (up2 (up2 (up2 (up2 (up2 g 101 0 (g 106 0)) 99 0 (g 107 0)) 101 1 (g 106 1)) 99 1 (g 107 1)) 101 2 (g 106 2)) 99 2 (g 107 2)) 101 3 (g 106 3)) 99 3 (g 107 3)) 101 4 (g 106 4)) 99 4 (g 107 4)) 101 5 (g 106 5)) 99 5 (g 107 5)) 101 6 (g 106 6)) 99 6 (g 107 6)) 106) (cli (k := 7) (a := 8) (ltn rfl) rfl)).trans ((up2_n (up2 (up2 (up2 (up2 (up2 (up2 (up2 (up2 (up2 (up2 (up2 (up2 (up2 g 101 0 (g 106 0)) 99 0 (g 107 0)) 101 1 (g 106 1)) 99 1 (g 107 1)) 101 2 (g 106 2)) 99 2 (g 107 2)) 101 3 (g 106 3)) 99 3 (g 107 3)) 101 4 (g 106 4)) 99 4 (g 107 4)) 101 5 (g 106 5)) 99 5 (g 107 5)) 101 6 (g 106 6)) (g 107 6) (Or.inl (Nat.ne_of_beq_eq_false rfl))).trans ((up2_n (up2 (up2 (up2 (up2 (up2 (up2 (up2 (up2 (up2 (up2 (up2 (up2 g 101 0 (g 106 0)) 99 0 (g 107 0)) 101 1 (g 106 1)) 99 1 (g 107 1)) 101 2 (g 106 2)) 99 2 (g 107 2)) 101 3 (g 106 3)) 99 3 (g 107 3)) 101 4 (g 106 4)) 99 4 (g 107 4)) 101 5 (g 106 5)) 99 5 (g 107 5)) (g 106 6) (Or.inl (Nat.ne_of_beq_eq_false rfl))).trans ((up2_n (up2 (up2 (up2 (up2 (up2 (up2 (up2 (up2 (up2 (up2 (up2 g 101 0 (g 106 0)) 99 0 (g 107 0)) 101 1 (g 106 1)) 99 1 (g 107 1)) 101 2 (g 106 2)) 99 2 (g 107 2)) 101 3 (g 106 3)) 99 3 (g 107 3)) 101 4 (g 106 4)) 99 4 (g 107 4)) 101 5 (g 106 5)) (g 107 5) (Or.inl (Nat.ne_of_beq_eq_false rfl))).trans ((up2_n (up2 (up2 (up2 (up2 (up2 (up2 (up2 (up2 (up2 (up2 g 101 0 (g 106 0)) 99 0 (g 107 0)) 101 1 (g 106 1)) 99 1 (g 107 1)) 101 2 (g 106 2)) 99 2 (g 107 2)) 101 3 (g 106 3)) 99 3 (g 107 3)) 101 4 (g 106 4)) 99 4 (g 107 4)) (g 106 5) (Or.inl (Nat.ne_of_beq_eq_false rfl))).trans ((up2_n (up2 (up2 (up2 (up2 (up2 (up2 (up2 (up2 (up2 g 101 0 (g 106 0)) 99 0 (g 107 0)) 101 1 (g 106 1)) 99 1 (g 107 1)) 101 2 (g 106 2)) 99 2 (g 107 2)) 101 3 (g 106 3)) 99 3 (g 107 3)) 101 4 (g 106 4)) (g 107 4) (Or.inl (Nat.ne_of_beq_eq_false rfl))).trans ((up2_n (up2 (up2 (up2 (up2 (up2 (up2 (up2 (up2 g 101 0 (g 106 0)) 99 0 (g 107 0)) 101 1 (g 106 1)) 99 1 (g 107 1)) 101 2 (g 106 2)) 99 2 (g 107 2)) 101 3 (g 106 3)) 99 3 (g 107 3)) (g 106 4) (Or.inl (Nat.ne_of_beq_eq_false rfl))).trans ((up2_n (up2 (up2 (up2 (up2 (up2 (up2 (up2 g 101 0 (g 106 0)) 99 0 (g 107 0)) 101 1 (g 106 1)) 99 1 (g 107 1)) 101 2 (g 106 2)) 99 2 (g 107 2)) 101 3 (g 106 3)) (g 107 3) (Or.inl (Nat.ne_of_beq_eq_false rfl))).trans ((up2_n (up2 (up2 (up2 (up2 (up2 (up2 g 101 0 (g 106 0)) 99 0 (g 107 0)) 101 1 (g 106 1)) 99 1 (g 107 1)) 101 2 (g 106 2)) 99 2 (g 107 2)) (g 106 3) (Or.inl (Nat.ne_of_beq_eq_false rfl))).trans ((up2_n (up2 (up2 (up2 (up2 (up2 g 101 0 (g 106 0)) 99 0 (g 107 0)) 101 1 (g 106 1)) 99 1 (g 107 1)) 101 2 (g 106 2)) (g 107 2) (Or.inl (Nat.ne_of_beq_eq_false rfl))).trans ((up2_n (up2 (up2 (up2 (up2 g 101 0 (g 106 0)) 99 0 (g 107 0)) 101 1 (g 106 1)) 99 1 (g 107 1)) (g 106 2) (Or.inl (Nat.ne_of_beq_eq_false rfl))).trans ((up2_n (up2 (up2 (up2 g 101 0 (g 106 0)) 99 0 (g 107 0)) 101 1 (g 106 1)) (g 107 1) (Or.inl (Nat.ne_of_beq_eq_false rfl))).trans ((up2_n (up2 (up2 g 101 0 (g 106 0)) 99 0 (g 107 0)) (g 106 1) (Or.inl (Nat.ne_of_beq_eq_false rfl))).trans ((up2_n (up2 g 101 0 (g 106 0)) (g 107 0) (Or.inl (Nat.ne_of_beq_eq_false rfl))).trans (up2_n g (g 106 0) (Or.inl (Nat.ne_of_beq_eq_false rfl))))))))))))))))) rfl ?_
  refine go_iastk (pc' := 20) cx 7 dX6_laysBack_19 kq101 (ltn rfl) (vpi (k := 7) (a := 8) (ltn rfl) rfl rfl) (cli (k := 7) (a := 8) (ltn rfl) rfl) rfl ?_
  refine go_aload_n (pc' := 21) cx dX6_laysBack_20 rfl rfl ?_
  refine go_getr (pc' := 24) cx 99 fX6_47 dX6_laysBack_21 kq88 (ltn rfl) (ltn rfl) rfl rfl rfl ?_
  refine go_iload_n (pc' := 25) cx dX6_laysBack_24 rfl rfl ?_
  refine go_aload_n (pc' := 26) cx dX6_laysBack_25 rfl rfl ?_
  refine go_getr (pc' := 29) cx 107 fX6_71 dX6_laysBack_26 kq88 (ltn rfl) (ltn rfl) rfl rfl rfl ?_
  refine go_iload_n (pc' := 30) cx dX6_laysBack_29 rfl rfl ?_
  refine go_iald (pc' := 31) cx (g 107 7) dX6_laysBack_30 kq107 (ltn rfl) (vpi (k := 7) (a := 8) (ltn rfl) rfl rfl) ((congrArg ((up2 (up2 (up2 (up2 (up2 (up2 (up2 (up2 (up2 (up2 (up2 (up2 (up2 (up2 (up2 g 101 0 (g 106 0)) 99 0 (g 107 0)) 101 1 (g 106 1)) 99 1 (g 107 1)) 101 2 (g 106 2)) 99 2 (g 107 2)) 101 3 (g 106 3)) 99 3 (g 107 3)) 101 4 (g 106 4)) 99 4 (g 107 4)) 101 5 (g 106 5)) 99 5 (g 107 5)) 101 6 (g 106 6)) 99 6 (g 107 6)) 101 7 (g 106 7)) 107) (cli (k := 7) (a := 8) (ltn rfl) rfl)).trans ((up2_n (up2 (up2 (up2 (up2 (up2 (up2 (up2 (up2 (up2 (up2 (up2 (up2 (up2 (up2 g 101 0 (g 106 0)) 99 0 (g 107 0)) 101 1 (g 106 1)) 99 1 (g 107 1)) 101 2 (g 106 2)) 99 2 (g 107 2)) 101 3 (g 106 3)) 99 3 (g 107 3)) 101 4 (g 106 4)) 99 4 (g 107 4)) 101 5 (g 106 5)) 99 5 (g 107 5)) 101 6 (g 106 6)) 99 6 (g 107 6)) (g 106 7) (Or.inl (Nat.ne_of_beq_eq_false rfl))).trans ((up2_n (up2 (up2 (up2 (up2 (up2 (up2 (up2 (up2 (up2 (up2 (up2 (up2 (up2 g 101 0 (g 106 0)) 99 0 (g 107 0)) 101 1 (g 106 1)) 99 1 (g 107 1)) 101 2 (g 106 2)) 99 2 (g 107 2)) 101 3 (g 106 3)) 99 3 (g 107 3)) 101 4 (g 106 4)) 99 4 (g 107 4)) 101 5 (g 106 5)) 99 5 (g 107 5)) 101 6 (g 106 6)) (g 107 6) (Or.inl (Nat.ne_of_beq_eq_false rfl))).trans ((up2_n (up2 (up2 (up2 (up2 (up2 (up2 (up2 (up2 (up2 (up2 (up2 (up2 g 101 0 (g 106 0)) 99 0 (g 107 0)) 101 1 (g 106 1)) 99 1 (g 107 1)) 101 2 (g 106 2)) 99 2 (g 107 2)) 101 3 (g 106 3)) 99 3 (g 107 3)) 101 4 (g 106 4)) 99 4 (g 107 4)) 101 5 (g 106 5)) 99 5 (g 107 5)) (g 106 6) (Or.inl (Nat.ne_of_beq_eq_false rfl))).trans ((up2_n (up2 (up2 (up2 (up2 (up2 (up2 (up2 (up2 (up2 (up2 (up2 g 101 0 (g 106 0)) 99 0 (g 107 0)) 101 1 (g 106 1)) 99 1 (g 107 1)) 101 2 (g 106 2)) 99 2 (g 107 2)) 101 3 (g 106 3)) 99 3 (g 107 3)) 101 4 (g 106 4)) 99 4 (g 107 4)) 101 5 (g 106 5)) (g 107 5) (Or.inl (Nat.ne_of_beq_eq_false rfl))).trans ((up2_n (up2 (up2 (up2 (up2 (up2 (up2 (up2 (up2 (up2 (up2 g 101 0 (g 106 0)) 99 0 (g 107 0)) 101 1 (g 106 1)) 99 1 (g 107 1)) 101 2 (g 106 2)) 99 2 (g 107 2)) 101 3 (g 106 3)) 99 3 (g 107 3)) 101 4 (g 106 4)) 99 4 (g 107 4)) (g 106 5) (Or.inl (Nat.ne_of_beq_eq_false rfl))).trans ((up2_n (up2 (up2 (up2 (up2 (up2 (up2 (up2 (up2 (up2 g 101 0 (g 106 0)) 99 0 (g 107 0)) 101 1 (g 106 1)) 99 1 (g 107 1)) 101 2 (g 106 2)) 99 2 (g 107 2)) 101 3 (g 106 3)) 99 3 (g 107 3)) 101 4 (g 106 4)) (g 107 4) (Or.inl (Nat.ne_of_beq_eq_false rfl))).trans ((up2_n (up2 (up2 (up2 (up2 (up2 (up2 (up2 (up2 g 101 0 (g 106 0)) 99 0 (g 107 0)) 101 1 (g 106 1)) 99 1 (g 107 1)) 101 2 (g 106 2)) 99 2 (g 107 2)) 101 3 (g 106 3)) 99 3 (g 107 3)) (g 106 4) (Or.inl (Nat.ne_of_beq_eq_false rfl))).trans ((up2_n (up2 (up2 (up2 (up2 (up2 (up2 (up2 g 101 0 (g 106 0)) 99 0 (g 107 0)) 101 1 (g 106 1)) 99 1 (g 107 1)) 101 2 (g 106 2)) 99 2 (g 107 2)) 101 3 (g 106 3)) (g 107 3) (Or.inl (Nat.ne_of_beq_eq_false rfl))).trans ((up2_n (up2 (up2 (up2 (up2 (up2 (up2 g 101 0 (g 106 0)) 99 0 (g 107 0)) 101 1 (g 106 1)) 99 1 (g 107 1)) 101 2 (g 106 2)) 99 2 (g 107 2)) (g 106 3) (Or.inl (Nat.ne_of_beq_eq_false rfl))).trans ((up2_n (up2 (up2 (up2 (up2 (up2 g 101 0 (g 106 0)) 99 0 (g 107 0)) 101 1 (g 106 1)) 99 1 (g 107 1)) 101 2 (g 106 2)) (g 107 2) (Or.inl (Nat.ne_of_beq_eq_false rfl))).trans ((up2_n (up2 (up2 (up2 (up2 g 101 0 (g 106 0)) 99 0 (g 107 0)) 101 1 (g 106 1)) 99 1 (g 107 1)) (g 106 2) (Or.inl (Nat.ne_of_beq_eq_false rfl))).trans ((up2_n (up2 (up2 (up2 g 101 0 (g 106 0)) 99 0 (g 107 0)) 101 1 (g 106 1)) (g 107 1) (Or.inl (Nat.ne_of_beq_eq_false rfl))).trans ((up2_n (up2 (up2 g 101 0 (g 106 0)) 99 0 (g 107 0)) (g 106 1) (Or.inl (Nat.ne_of_beq_eq_false rfl))).trans ((up2_n (up2 g 101 0 (g 106 0)) (g 107 0) (Or.inl (Nat.ne_of_beq_eq_false rfl))).trans (up2_n g (g 106 0) (Or.inl (Nat.ne_of_beq_eq_false rfl)))))))))))))))))) rfl ?_
  refine go_iastk (pc' := 32) cx 7 dX6_laysBack_31 kq99 (ltn rfl) (vpi (k := 7) (a := 8) (ltn rfl) rfl rfl) (cli (k := 7) (a := 8) (ltn rfl) rfl) rfl ?_
  refine go_iinc (pc' := 35) cx 8 dX6_laysBack_32 rfl rfl (ltn rfl) [(1, .int 8), (0, .ref (E.2.1 88))] rfl rfl ?_
  refine go_goto cx 2 dX6_laysBack_35 rfl ?_
  refine go_iload_n (pc' := 3) cx dX6_laysBack_2 rfl rfl ?_
  refine go_bipush (pc' := 5) cx 8 dX6_laysBack_3 rfl rfl ?_
  refine go_icmp_ge (pc' := 8) cx 38 dX6_laysBack_5 rfl rfl (fun _ => ?_) (fun hh => absurd hh (by decide))
  refine go_vret cx rfl dX6_laysBack_38 ?_
  refine ZV.mk ⟨?_, ?_⟩
  · intro i k q
    rw [up2_n _ _ (by omega), up2_n _ _ (by omega), up2_n _ _ (by omega), up2_n _ _ (by omega), up2_n _ _ (by omega), up2_n _ _ (by omega), up2_n _ _ (by omega), up2_n _ _ (by omega), up2_n _ _ (by omega), up2_n _ _ (by omega), up2_n _ _ (by omega), up2_n _ _ (by omega), up2_n _ _ (by omega), up2_n _ _ (by omega), up2_n _ _ (by omega), up2_n _ _ (by omega)]
  · intro k hk
    rcases (show k = 0 ∨ k = 1 ∨ k = 2 ∨ k = 3 ∨ k = 4 ∨ k = 5 ∨ k = 6 ∨ k = 7 by omega) with rfl | rfl | rfl | rfl | rfl | rfl | rfl | rfl <;> exact ⟨rfl, rfl⟩

set_option maxHeartbeats 1000000 in
set_option maxRecDepth 20000 in
theorem whom_fill {l : Launch} {E : Ev} {Z : ZT} {o : Option Nat} {p : Program} {e : Env} {s : State} {m : MethodId} {args : Array Value} {below : List Frame} {meth : Method} {c : Code} {z : Int64} {vn : Nat} {h : Nat} {x1 b1 b2 : Int32} (hv8 : vn ≤ 8) (cx : Cx p s m args meth c E 115 cX6_whom 6 yX6_whom.cls (some .int)) : ∀ (k u : Nat) (G : IG), u + k = vn → G 88 19 = nI vn → (∀ q, q < u → G 99 q = nI h) → (∀ (G9 : IG), (∀ i q, ¬ (i = 99 ∧ q < 8) → G9 i q = G i q) → (∀ q, q < vn → G9 99 q = nI h) → Go p l e (rmd 49) s m args below meth c E 115 6 Z G9 (RFo o) z 60 [(5, .int (nI vn)), (4, .int (nI h)), (0, .ref (E.2.1 88)), (1, .int x1), (2, .int b1), (3, .int b2)] []) → Go p l e (rmd 49) s m args below meth c E 115 6 Z G (RFo o) z 36 [(5, .int (nI u)), (4, .int (nI h)), (0, .ref (E.2.1 88)), (1, .int x1), (2, .int b1), (3, .int b2)] [] := by
  intro k
  induction k with
  | zero =>
    intro u G hk h19 hq kk
    have hu : u = vn := by omega
    subst hu
    refine go_iload (pc' := 38) cx dX6_whom_36 rfl rfl ?_
    refine go_aload_n (pc' := 39) cx dX6_whom_38 rfl rfl ?_
    refine go_geti (pc' := 42) cx (nI u) fX6_115 dX6_whom_39 kq88 (ltn rfl) (ltn rfl) rfl h19 rfl ?_
    refine go_icmp_ge (pc' := 45) cx 60 dX6_whom_42 rfl rfl (fun _ => ?_) (fun hh9 => absurd (Int32.le_refl _) hh9)
    exact kk G (fun _ _ _ => rfl) hq
  | succ k ih =>
    intro u G hk h19 hq kk
    refine go_iload (pc' := 38) cx dX6_whom_36 rfl rfl ?_
    refine go_aload_n (pc' := 39) cx dX6_whom_38 rfl rfl ?_
    refine go_geti (pc' := 42) cx (nI vn) fX6_115 dX6_whom_39 kq88 (ltn rfl) (ltn rfl) rfl h19 rfl ?_
    refine go_icmp_ge (pc' := 45) cx 60 dX6_whom_42 rfl rfl (fun hh9 => absurd ((nI_leI (a := vn) (b := u) (by omega) (by omega)).mp hh9) (by omega)) (fun _ => ?_)
    refine go_aload_n (pc' := 46) cx dX6_whom_45 rfl rfl ?_
    refine go_getr (pc' := 49) cx 99 fX6_47 dX6_whom_46 kq88 (ltn rfl) (ltn rfl) rfl rfl rfl ?_
    refine go_iload (pc' := 51) cx dX6_whom_49 rfl rfl ?_
    refine go_iload (pc' := 53) cx dX6_whom_51 rfl rfl ?_
    refine go_iastk (pc' := 54) cx u dX6_whom_53 kq99 (ltn rfl) (vpi (k := u) (a := 8) (by omega) rfl rfl) (cli (k := u) (a := 8) (by omega) rfl) rfl ?_
    refine go_iinc (pc' := 57) cx (nI (u + 1)) dX6_whom_54 rfl (nI_1 u) (ltn rfl) [(5, .int (nI (u + 1))), (4, .int (nI h)), (0, .ref (E.2.1 88)), (1, .int x1), (2, .int b1), (3, .int b2)] rfl rfl ?_
    refine go_goto cx 36 dX6_whom_57 rfl ?_
    exact ih (u + 1) (up2 G 99 u (nI h)) (by omega) ((up2_n _ _ (Or.inl (by omega))).trans h19) (fun q hq9 => by
      by_cases e : q = u
      · rw [e, up2_s]
      · rw [up2_n _ _ (Or.inr e)]
        exact hq q (by omega)) (fun G9 a b => kk G9 (fun i q h9 => (a i q h9).trans (up2_n _ _ (by omega))) b)

set_option maxHeartbeats 1000000 in
set_option maxRecDepth 20000 in
theorem whom_loopM {l : Launch} {E : Ev} {Z : ZT} {o : Option Nat} {p : Program} {e : Env} {s : State} {m : MethodId} {args : Array Value} {below : List Frame} {meth : Method} {c : Code} {g : IG} {hn vn ru tc : Nat} {CS : CSt} (hX : XM g hn vn ru tc CS) {x1 : Int32} (cx : Cx p s m args meth c E 115 cX6_whom 6 yX6_whom.cls (some .int)) : ∀ (k h : Nat) (G : IG) (z : Int64), h + k = hn → FrW (92 + 7) g G → KpS g G → SdI G tc CS → (∀ (G9 : IG) (z9 : Int64), FrJ g G9 → SdI G9 tc CS → Z (some (.int (if x1 = 0 then oi (mns (whE (TMx CS ru) (svM g) vn) hn) else ov (whE (TMx CS ru) (svM g) vn) (mns (whE (TMx CS ru) (svM g) vn) hn)))) G9 (RFo o) z9) → Go p l e (rmd 49) s m args below meth c E 115 6 Z G (RFo o) z 24 [(4, .int (nI h)), (0, .ref (E.2.1 88)), (1, .int x1), (2, .int (oi (mns (whE (TMx CS ru) (svM g) vn) h))), (3, .int (ov (whE (TMx CS ru) (svM g) vn) (mns (whE (TMx CS ru) (svM g) vn) h)))] [] := by
  intro k
  have hb := hX.1
  induction k with
  | zero =>
    intro h G z hk hF hK hS hZ
    have hh : h = hn := by omega
    subst hh
    have h15 : G 88 15 = nI h := (hF 88 15 (by omega)).trans hX.2.1
    refine go_iload (pc' := 26) cx dX6_whom_24 rfl rfl ?_
    refine go_aload_n (pc' := 27) cx dX6_whom_26 rfl rfl ?_
    refine go_geti (pc' := 30) cx (nI h) fX6_112 dX6_whom_27 kq88 (ltn rfl) (ltn rfl) rfl h15 rfl ?_
    refine go_icmp_ge (pc' := 33) cx 89 dX6_whom_30 rfl rfl (fun _ => ?_) (fun hh9 => absurd (Int32.le_refl _) hh9)
    refine go_aload_n (pc' := 90) cx dX6_whom_89 rfl rfl ?_
    refine go_cVV (pc' := 93) cx (c_X6_laysBack l E (g := G)) mX6_laysBack lX6_429 dX6_whom_90 kq88 (ltn rfl) (ltn rfl) rfl rfl rfl rfl (ltn rfl) (Nat.le_of_ble_eq_true rfl) (Nat.le_of_ble_eq_true rfl) rfl (fun GT hT => ?_)
    obtain ⟨t1, t2⟩ := hT
    refine go_iload_n (pc' := 94) cx dX6_whom_93 rfl rfl ?_
    refine go_if_ne (pc' := 97) cx 101 dX6_whom_94 rfl rfl (fun c94 => ?_) (fun c94 => ?_)
    · refine go_iload_n (pc' := 102) cx dX6_whom_101 rfl rfl ?_
      refine go_iret cx rfl dX6_whom_102 ?_
      have h9 := hZ GT z (hF.j (Or.inl rfl) hK t1 t2) (hS.fr (funext fun k => t1 102 k (by omega)))
      first | (rw [if_pos c94] at h9; exact h9) | (rw [if_neg c94] at h9; exact h9)
    · refine go_iload_n (pc' := 98) cx dX6_whom_97 rfl rfl ?_
      refine go_goto cx 102 dX6_whom_98 rfl ?_
      refine go_iret cx rfl dX6_whom_102 ?_
      have h9 := hZ GT z (hF.j (Or.inl rfl) hK t1 t2) (hS.fr (funext fun k => t1 102 k (by omega)))
      first | (rw [if_pos c94] at h9; exact h9) | (rw [if_neg c94] at h9; exact h9)
  | succ k ih =>
    intro h G z hk hF hK hS hZ
    have h15 : G 88 15 = nI hn := (hF 88 15 (by omega)).trans hX.2.1
    have h19 : G 88 19 = nI vn := (hF 88 19 (by omega)).trans hX.2.2.1
    cases hq : mns (whE (TMx CS ru) (svM g) vn) h with
    | none =>
      refine go_sub [0, 1, 2, 3, 4] [(4, .int (nI h)), (0, .ref (E.2.1 88)), (1, .int x1), (2, .int (-1)), (3, .int (-1))] rfl ?_
      refine go_iload (pc' := 26) cx dX6_whom_24 rfl rfl ?_
      refine go_aload_n (pc' := 27) cx dX6_whom_26 rfl rfl ?_
      refine go_geti (pc' := 30) cx (nI hn) fX6_112 dX6_whom_27 kq88 (ltn rfl) (ltn rfl) rfl h15 rfl ?_
      refine go_icmp_ge (pc' := 33) cx 89 dX6_whom_30 rfl rfl (fun hh9 => absurd ((nI_leI (a := hn) (b := h) (by omega) (by omega)).mp hh9) (by omega)) (fun _ => ?_)
      refine go_iconst (pc' := 34) cx 0 dX6_whom_33 rfl rfl ?_
      refine go_istore (pc' := 36) cx dX6_whom_34 (ltn rfl) [(5, .int 0), (4, .int (nI h)), (0, .ref (E.2.1 88)), (1, .int x1), (2, .int (-1)), (3, .int (-1))] rfl rfl ?_
      refine whom_fill (by omega) cx vn 0 G (by omega) h19 (fun q hq9 => absurd hq9 (Nat.not_lt_zero q)) (fun GI a9 b9 => ?_)
      have hFI : FrW (92 + 7) g GI := hF.tr (fun i q h9 => a9 i q (by omega))
      have hKI : KpS g GI := hK.fr (funext fun q => a9 106 q (by omega)) (funext fun q => a9 107 q (by omega))
      have hRI : Req (svM GI) (filS (svM g) 7 (nI h) vn) hn vn := reqW (Or.inl rfl) hFI (fun i k9 q => by rw [filS_r, if_neg (fun q9 => q q9.1)]) (fun k9 h9 => by rw [filS_r, if_pos ⟨rfl, h9⟩]; exact b9 k9 h9)
      have hHI : HdS (svM GI) hn vn := hRI.sy.hds (filS_hd hX.2.2.2.2.1 (fun _ => ⟨h, by omega, rfl⟩) vn)
      have hXI : XM GI hn vn ru tc CS := hX.fw (Or.inl rfl) hFI (hS.fr (funext fun q => a9 102 q (by omega))) hHI
      have hE9 : BDs (TMx CS ru) (svM GI) vn = (whE (TMx CS ru) (svM g) vn) h := hRI.bd hHI (by omega)
      refine go_aload_n (pc' := 61) cx dX6_whom_60 rfl rfl ?_
      refine go_cVIz (pc' := 64) cx (c_X6_courses l E (g := GI) hXI) mX6_courses lX6_421 dX6_whom_61 kq88 (ltn rfl) (ltn rfl) rfl rfl rfl rfl (ltn rfl) (Nat.le_of_ble_eq_true rfl) (Nat.le_of_ble_eq_true rfl) rfl (fun xc GC zc hc => ?_)
      obtain ⟨ec, fc, -, -, sc⟩ := hc
      rw [hE9] at ec
      refine go_istore (pc' := 66) cx dX6_whom_64 (ltn rfl) [(5, .int xc), (4, .int (nI h)), (0, .ref (E.2.1 88)), (1, .int x1), (2, .int (-1)), (3, .int (-1))] rfl rfl ?_
      refine go_iload_n (pc' := 67) cx dX6_whom_66 rfl rfl ?_
      refine go_iconst (pc' := 68) cx (-1) dX6_whom_67 rfl rfl ?_
      refine go_icmp_eq (pc' := 71) cx 77 dX6_whom_68 rfl rfl (fun _ => ?_) (fun hh9 => absurd rfl hh9)
      refine go_iload (pc' := 79) cx dX6_whom_77 rfl rfl ?_
      refine go_istore_n (pc' := 80) cx dX6_whom_79 (ltn rfl) [(2, .int (nI h)), (5, .int xc), (4, .int (nI h)), (0, .ref (E.2.1 88)), (1, .int x1), (3, .int (-1))] rfl rfl ?_
      refine go_iload (pc' := 82) cx dX6_whom_80 rfl rfl ?_
      refine go_istore_n (pc' := 83) cx dX6_whom_82 (ltn rfl) [(3, .int xc), (2, .int (nI h)), (5, .int xc), (4, .int (nI h)), (0, .ref (E.2.1 88)), (1, .int x1)] rfl rfl ?_
      refine go_iinc (pc' := 86) cx (nI (h + 1)) dX6_whom_83 rfl (nI_1 h) (ltn rfl) [(4, .int (nI (h + 1))), (3, .int xc), (2, .int (nI h)), (5, .int xc), (0, .ref (E.2.1 88)), (1, .int x1)] rfl rfl ?_
      refine go_goto cx 24 dX6_whom_86 rfl ?_
      refine go_sub [0, 4, 5, 2, 1] [(4, .int (nI (h + 1))), (0, .ref (E.2.1 88)), (1, .int x1), (2, .int (nI h)), (3, .int xc)] rfl ?_
      have e9 : mns (whE (TMx CS ru) (svM g) vn) (h + 1) = some h := mns_sn hq
      refine go_sub [0, 1, 2, 3, 4] [(4, .int (nI (h + 1))), (0, .ref (E.2.1 88)), (1, .int x1), (2, .int (oi (mns (whE (TMx CS ru) (svM g) vn) (h + 1)))), (3, .int (ov (whE (TMx CS ru) (svM g) vn) (mns (whE (TMx CS ru) (svM g) vn) (h + 1))))] (by rw [e9]; rw [ec]; rfl) ?_
      exact ih (h + 1) GC zc (by omega) (hFI.tr fc.fw) (hKI.fr (fc.c (by omega) (by omega)) (fc.c (by omega) (by omega))) sc hZ
    | some w =>
      have hw := mns_lt hq
      refine go_sub [0, 1, 2, 3, 4] [(4, .int (nI h)), (0, .ref (E.2.1 88)), (1, .int x1), (2, .int (nI w)), (3, .int ((whE (TMx CS ru) (svM g) vn) w))] rfl ?_
      refine go_iload (pc' := 26) cx dX6_whom_24 rfl rfl ?_
      refine go_aload_n (pc' := 27) cx dX6_whom_26 rfl rfl ?_
      refine go_geti (pc' := 30) cx (nI hn) fX6_112 dX6_whom_27 kq88 (ltn rfl) (ltn rfl) rfl h15 rfl ?_
      refine go_icmp_ge (pc' := 33) cx 89 dX6_whom_30 rfl rfl (fun hh9 => absurd ((nI_leI (a := hn) (b := h) (by omega) (by omega)).mp hh9) (by omega)) (fun _ => ?_)
      refine go_iconst (pc' := 34) cx 0 dX6_whom_33 rfl rfl ?_
      refine go_istore (pc' := 36) cx dX6_whom_34 (ltn rfl) [(5, .int 0), (4, .int (nI h)), (0, .ref (E.2.1 88)), (1, .int x1), (2, .int (nI w)), (3, .int ((whE (TMx CS ru) (svM g) vn) w))] rfl rfl ?_
      refine whom_fill (by omega) cx vn 0 G (by omega) h19 (fun q hq9 => absurd hq9 (Nat.not_lt_zero q)) (fun GI a9 b9 => ?_)
      have hFI : FrW (92 + 7) g GI := hF.tr (fun i q h9 => a9 i q (by omega))
      have hKI : KpS g GI := hK.fr (funext fun q => a9 106 q (by omega)) (funext fun q => a9 107 q (by omega))
      have hRI : Req (svM GI) (filS (svM g) 7 (nI h) vn) hn vn := reqW (Or.inl rfl) hFI (fun i k9 q => by rw [filS_r, if_neg (fun q9 => q q9.1)]) (fun k9 h9 => by rw [filS_r, if_pos ⟨rfl, h9⟩]; exact b9 k9 h9)
      have hHI : HdS (svM GI) hn vn := hRI.sy.hds (filS_hd hX.2.2.2.2.1 (fun _ => ⟨h, by omega, rfl⟩) vn)
      have hXI : XM GI hn vn ru tc CS := hX.fw (Or.inl rfl) hFI (hS.fr (funext fun q => a9 102 q (by omega))) hHI
      have hE9 : BDs (TMx CS ru) (svM GI) vn = (whE (TMx CS ru) (svM g) vn) h := hRI.bd hHI (by omega)
      refine go_aload_n (pc' := 61) cx dX6_whom_60 rfl rfl ?_
      refine go_cVIz (pc' := 64) cx (c_X6_courses l E (g := GI) hXI) mX6_courses lX6_421 dX6_whom_61 kq88 (ltn rfl) (ltn rfl) rfl rfl rfl rfl (ltn rfl) (Nat.le_of_ble_eq_true rfl) (Nat.le_of_ble_eq_true rfl) rfl (fun xc GC zc hc => ?_)
      obtain ⟨ec, fc, -, -, sc⟩ := hc
      rw [hE9] at ec
      refine go_istore (pc' := 66) cx dX6_whom_64 (ltn rfl) [(5, .int xc), (4, .int (nI h)), (0, .ref (E.2.1 88)), (1, .int x1), (2, .int (nI w)), (3, .int ((whE (TMx CS ru) (svM g) vn) w))] rfl rfl ?_
      refine go_iload_n (pc' := 67) cx dX6_whom_66 rfl rfl ?_
      refine go_iconst (pc' := 68) cx (-1) dX6_whom_67 rfl rfl ?_
      refine go_icmp_eq (pc' := 71) cx 77 dX6_whom_68 rfl rfl (fun hh9 => absurd hh9 (nI_nm (by omega))) (fun _ => ?_)
      refine go_iload (pc' := 73) cx dX6_whom_71 rfl rfl ?_
      refine go_iload_n (pc' := 74) cx dX6_whom_73 rfl rfl ?_
      refine go_icmp_ge (pc' := 77) cx 83 dX6_whom_74 rfl rfl (fun c74 => ?_) (fun c74 => ?_)
      · have c74n := Int32.not_lt.mpr c74
        refine go_iinc (pc' := 86) cx (nI (h + 1)) dX6_whom_83 rfl (nI_1 h) (ltn rfl) [(4, .int (nI (h + 1))), (5, .int xc), (0, .ref (E.2.1 88)), (1, .int x1), (2, .int (nI w)), (3, .int ((whE (TMx CS ru) (svM g) vn) w))] rfl rfl ?_
        refine go_goto cx 24 dX6_whom_86 rfl ?_
        refine go_sub [0, 2, 3, 4, 5] [(4, .int (nI (h + 1))), (0, .ref (E.2.1 88)), (1, .int x1), (2, .int (nI w)), (3, .int ((whE (TMx CS ru) (svM g) vn) w))] rfl ?_
        have e9 : mns (whE (TMx CS ru) (svM g) vn) (h + 1) = some w := (mns_ss hq).trans (if_neg (by rw [← ec]; exact Int32.not_lt.mpr c74))
        refine go_sub [0, 1, 2, 3, 4] [(4, .int (nI (h + 1))), (0, .ref (E.2.1 88)), (1, .int x1), (2, .int (oi (mns (whE (TMx CS ru) (svM g) vn) (h + 1)))), (3, .int (ov (whE (TMx CS ru) (svM g) vn) (mns (whE (TMx CS ru) (svM g) vn) (h + 1))))] (by rw [e9]; rfl) ?_
        exact ih (h + 1) GC zc (by omega) (hFI.tr fc.fw) (hKI.fr (fc.c (by omega) (by omega)) (fc.c (by omega) (by omega))) sc hZ
      · have c74n := Int32.not_le.mp c74
        refine go_iload (pc' := 79) cx dX6_whom_77 rfl rfl ?_
        refine go_istore_n (pc' := 80) cx dX6_whom_79 (ltn rfl) [(2, .int (nI h)), (5, .int xc), (4, .int (nI h)), (0, .ref (E.2.1 88)), (1, .int x1), (3, .int ((whE (TMx CS ru) (svM g) vn) w))] rfl rfl ?_
        refine go_iload (pc' := 82) cx dX6_whom_80 rfl rfl ?_
        refine go_istore_n (pc' := 83) cx dX6_whom_82 (ltn rfl) [(3, .int xc), (2, .int (nI h)), (5, .int xc), (4, .int (nI h)), (0, .ref (E.2.1 88)), (1, .int x1)] rfl rfl ?_
        refine go_iinc (pc' := 86) cx (nI (h + 1)) dX6_whom_83 rfl (nI_1 h) (ltn rfl) [(4, .int (nI (h + 1))), (3, .int xc), (2, .int (nI h)), (5, .int xc), (0, .ref (E.2.1 88)), (1, .int x1)] rfl rfl ?_
        refine go_goto cx 24 dX6_whom_86 rfl ?_
        refine go_sub [0, 4, 5, 2, 1] [(4, .int (nI (h + 1))), (0, .ref (E.2.1 88)), (1, .int x1), (2, .int (nI h)), (3, .int xc)] rfl ?_
        have e9 : mns (whE (TMx CS ru) (svM g) vn) (h + 1) = some h := (mns_ss hq).trans (if_pos (by rw [← ec]; exact Int32.not_le.mp c74))
        refine go_sub [0, 1, 2, 3, 4] [(4, .int (nI (h + 1))), (0, .ref (E.2.1 88)), (1, .int x1), (2, .int (oi (mns (whE (TMx CS ru) (svM g) vn) (h + 1)))), (3, .int (ov (whE (TMx CS ru) (svM g) vn) (mns (whE (TMx CS ru) (svM g) vn) (h + 1))))] (by rw [e9]; rw [ec]; rfl) ?_
        exact ih (h + 1) GC zc (by omega) (hFI.tr fc.fw) (hKI.fr (fc.c (by omega) (by omega)) (fc.c (by omega) (by omega))) sc hZ

set_option maxHeartbeats 1000000 in
set_option maxRecDepth 20000 in
theorem c_X6_whom (l : Launch) (E : Ev) {g : IG} {o : Option Nat} {z : Int64} {hn vn ru tc : Nat} {CS : CSt} (hX : XM g hn vn ru tc CS) (x1 : Int32) : Ct l E 115 yX6_whom cX6_whom 6 (some .int) 49 [.ref (E.2.1 88), .int x1] g (RFo o) z (ZIz (RFo o) (fun x g1 z1 => x = whomF (TMx CS ru) (svM g) hn vn x1 ∧ FrJ g g1 ∧ SdI g1 tc CS)) := by
  refine Ct.of (lv0 := [(0, .ref (E.2.1 88)), (1, .int x1)]) (by decide) (Nat.le_of_ble_eq_true rfl) rfl ?_
  intro p e s m below meth c cx
  have hb := hX.1
  have hS0 := hX.2.2.2.2.2.2.2.2.2.2
  refine go_iload_n (pc' := 1) cx dX6_whom_0 rfl rfl ?_
  refine go_i2l (pc' := 2) cx dX6_whom_1 rfl ?_
  refine go_lconst (pc' := 3) cx 0 dX6_whom_2 rfl rfl ?_
  refine go_val (w := .long (((0 : Int32)).toInt64)) (congrArg Value.long (by decide)) ?_
  refine go_lconst (pc' := 4) cx 1 dX6_whom_3 rfl rfl ?_
  refine go_val (w := .long (((1 : Int32)).toInt64)) (congrArg Value.long (by decide)) ?_
  refine go_cSi (pc' := 7) cx (c_X6_in l E (g := g) x1 (0 : Int32) (1 : Int32)) mX6_in lX6_108 dX6_whom_4 rfl rfl rfl (ltn rfl) (Nat.le_of_ble_eq_true rfl) (Nat.le_of_ble_eq_true rfl) rfl ?_
  refine go_if_ne (pc' := 10) cx 13 dX6_whom_7 rfl rfl (fun c7 => ?_) (fun c7 => ?_)
  · refine go_aload_n (pc' := 14) cx dX6_whom_13 rfl rfl ?_
    refine go_cVV (pc' := 17) cx (c_X6_keeps l E (g := g)) mX6_keeps lX6_426 dX6_whom_14 kq88 (ltn rfl) (ltn rfl) rfl rfl rfl rfl (ltn rfl) (Nat.le_of_ble_eq_true rfl) (Nat.le_of_ble_eq_true rfl) rfl (fun GK hK => ?_)
    obtain ⟨k1, k2⟩ := hK
    refine go_iconst (pc' := 18) cx (-1) dX6_whom_17 rfl rfl ?_
    refine go_istore_n (pc' := 19) cx dX6_whom_18 (ltn rfl) [(2, .int (-1)), (0, .ref (E.2.1 88)), (1, .int x1)] rfl rfl ?_
    refine go_iconst (pc' := 20) cx (-1) dX6_whom_19 rfl rfl ?_
    refine go_istore_n (pc' := 21) cx dX6_whom_20 (ltn rfl) [(3, .int (-1)), (2, .int (-1)), (0, .ref (E.2.1 88)), (1, .int x1)] rfl rfl ?_
    refine go_iconst (pc' := 22) cx 0 dX6_whom_21 rfl rfl ?_
    refine go_istore (pc' := 24) cx dX6_whom_22 (ltn rfl) [(4, .int 0), (3, .int (-1)), (2, .int (-1)), (0, .ref (E.2.1 88)), (1, .int x1)] rfl rfl ?_
    refine go_sub [0, 3, 4, 2, 1] [(4, .int 0), (0, .ref (E.2.1 88)), (1, .int x1), (2, .int (-1)), (3, .int (-1))] rfl ?_
    refine whom_loopM hX cx hn 0 GK z (by omega) (fun i k q => k1 i k (by omega)) k2 (hS0.fr (funext fun k => k1 102 k (by omega))) (fun G9 z9 f9 s9 => ZIz.mk ⟨?_, f9, s9⟩)
    unfold whomF
    rw [if_neg (show ¬ fosI x1 = 0 from by rw [← fos_in]; exact c7)]
  · refine go_bipush (pc' := 12) cx (-2) dX6_whom_10 rfl rfl ?_
    refine go_iret cx rfl dX6_whom_12 ?_
    exact ZIz.mk ⟨by
      unfold whomF
      rw [if_pos (show fosI x1 = 0 from by rw [← fos_in]; exact c7)], FrJ.rf, hS0⟩
