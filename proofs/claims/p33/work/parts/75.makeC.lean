/-! THE MAKER OF THE CLASS -/
def Z0 : IG := fun _ _ => 0
def N0 : RG := fun _ _ => none
/-- what the class is when it is made -/
def CG (g : IG) : Prop := g 0 1 = 1 ∧ g 0 5 = 0 ∧ g 2 1 = 0 ∧ TxM g 0 (M0) ∧ (∀ t, t < 4 → g (29 + 2 * t) 1 = -1 ∧ g (29 + 2 * t) 2 = 0) ∧ g 37 2 = 0 ∧ g 37 3 = 0 ∧ g 37 4 = 0 ∧ (∀ p, p < 4 → g 39 p = 40 ∧ g 40 p = 40 ∧ g 41 p = 40) ∧ g 42 0 = -1
def upL : List (Nat × Nat × Nat) → RG
  | [] => N0
  | q :: L => up2r (upL L) q.1 q.2.1 (some q.2.2)
theorem upL_big {k : Nat} (hk : 12 ≤ k) : ∀ (L : List (Nat × Nat × Nat)), L.all (fun q => q.2.1 < 12) = true → ∀ i, upL L i k = none
  | [], _, _ => rfl
  | q :: L, h, i => by
    rw [List.all_cons, Bool.and_eq_true] at h
    have h1 : q.2.1 < 12 := of_decide_eq_true h.1
    exact (up2r_o (Or.inr (by omega))).trans (upL_big hk L h.2 i)
/-- all references of the class, as they are laid -/
def lstR : List (Nat × Nat × Nat) := [(0, 6, 63), (63, 1, 64), (63, 0, 37), (63, 4, 87), (63, 3, 86), (63, 2, 77), (77, 7, 85), (77, 6, 84), (77, 5, 83), (77, 4, 82), (77, 3, 81), (77, 2, 80), (77, 1, 79), (77, 0, 78), (64, 0, 1), (64, 1, 65), (65, 10, 76), (65, 9, 75), (65, 8, 74), (65, 7, 73), (65, 6, 72), (65, 5, 71), (65, 4, 70), (65, 3, 69), (65, 2, 68), (65, 1, 67), (65, 0, 66), (0, 4, 50), (50, 0, 1), (50, 1, 51), (51, 10, 62), (51, 9, 61), (51, 8, 60), (51, 7, 59), (51, 6, 58), (51, 5, 57), (51, 4, 56), (51, 3, 55), (51, 2, 54), (51, 1, 53), (51, 0, 52), (0, 3, 37), (37, 0, 1), (37, 1, 38), (38, 10, 49), (38, 9, 48), (38, 8, 47), (38, 7, 46), (38, 6, 45), (38, 5, 44), (38, 4, 43), (38, 3, 42), (38, 2, 41), (38, 1, 40), (38, 0, 39), (2, 6, 5), (4, 3, 35), (35, 0, 36), (4, 2, 33), (33, 0, 34), (4, 1, 31), (31, 0, 32), (4, 0, 29), (29, 0, 30), (1, 5, 25), (25, 2, 28), (25, 1, 27), (25, 0, 26), (1, 4, 21), (21, 2, 24), (21, 1, 23), (21, 0, 22), (1, 3, 17), (17, 2, 20), (17, 1, 19), (17, 0, 18), (1, 2, 13), (13, 2, 16), (13, 1, 15), (13, 0, 14), (1, 1, 9), (9, 2, 12), (9, 1, 11), (9, 0, 10), (1, 0, 5), (5, 2, 8), (5, 1, 7), (5, 0, 6), (0, 7, 4), (0, 2, 2), (2, 0, 3), (0, 0, 1)]
theorem lstR_ok : ∀ i, i < 88 → ∀ j, upL lstR i j = RFo (some 5) i j := by
  intro i hi j
  by_cases hj : j < 12
  · have h : ∀ i, i < 88 → ∀ j, j < 12 → upL lstR i j = RFo (some 5) i j := by decide +kernel
    exact h i hi j hj
  · rw [upL_big (by omega) lstR (by decide +kernel)]
    have h2 : ∀ i, i < 88 → (rtl.getD i []).length ≤ 12 := by decide +kernel
    unfold RFo RT
    rw [if_neg (by omega), List.getD_eq_getElem?_getD (l := rtl.getD i []), List.getElem?_eq_none (by have := h2 i hi; omega)]
    rfl
set_option maxHeartbeats 4000000 in
set_option maxRecDepth 40000 in
theorem init_app {p : Program} {l : Launch} {e : Env} {R : Room} {s : State} {m : MethodId} {args : Array Value} {below : List Frame} {meth : Method} {c : Code} {E : Ev} {Q : State → Prop} {g : IG} {r : RG} (hRR : (2 + 1 ≤ R.frames ∧ 8 + (1 + 11) + 80 * 2 ≤ R.locals) ∧ (4 + 1 ≤ R.frames ∧ 8 + (2 + 11) + 80 * 4 ≤ R.locals) ∧ (1 + 1 ≤ R.frames ∧ 8 + (2 + 11) + 80 * 1 ≤ R.locals) ∧ 36 ≤ R.cells ∧ 1591 ≤ R.slots) (h02 : r 0 2 = some 2) (h20 : r 2 0 = some 3) (cx : Cx p s m args meth c E 88 cX5_init 2 yX5_init.cls none) : ∀ (k i : Nat) (G : IG), i + k = 37 → G 2 1 = nI i → (∀ q, q < i → G 3 q = bT q) → (∀ a b, ¬ ((a = 2 ∧ b = 1) ∨ a = 3) → G a b = g a b) → (∀ G9 : IG, G9 2 1 = nI 37 → (∀ q, q < 37 → G9 3 q = bT q) → (∀ a b, ¬ ((a = 2 ∧ b = 1) ∨ a = 3) → G9 a b = g a b) → GoK p l e R s m args below meth c E 37 2 36 1591 Q G9 r 0 126 [(1, .int (nI 37)), (0, .ref (E.2.1 0))] []) → GoK p l e R s m args below meth c E 37 2 36 1591 Q G r 0 97 [(1, .int (nI i)), (0, .ref (E.2.1 0))] [] := by
  intro k
  induction k with
  | zero =>
    intro i G hk hG1 hG3 hGo kk
    have hi : i = 37 := by omega
    subst hi
    refine gk_iload_n (pc' := 98) cx dX5_init_97 rfl rfl ?_
    refine gk_ldcs (pc' := 100) cx (i := 0) rfl dX5_init_98 rfl ?_
    refine gk_callVs (pc' := 103) cx (Nat.le_of_ble_eq_true rfl) (c_J0_length l E (i := 0) (by decide)) mJ0_length_8abf5 lX5_40 dX5_init_100 (by decide) rfl rfl rfl hRR.1 (Nat.le_of_ble_eq_true rfl) rfl hRR.2.2.2 ?_
    refine gk_val (w := .int (nI 37)) (congrArg Value.int rfl) ?_
    refine gk_icmp_ge (pc' := 106) cx 126 dX5_init_103 rfl rfl (fun _ => ?_) (fun hh9 => absurd (Int32.le_refl _) hh9)
    exact kk G hG1 hG3 hGo
  | succ k ih =>
    intro i G hk hG1 hG3 hGo kk
    refine gk_iload_n (pc' := 98) cx dX5_init_97 rfl rfl ?_
    refine gk_ldcs (pc' := 100) cx (i := 0) rfl dX5_init_98 rfl ?_
    refine gk_callVs (pc' := 103) cx (Nat.le_of_ble_eq_true rfl) (c_J0_length l E (i := 0) (by decide)) mJ0_length_8abf5 lX5_40 dX5_init_100 (by decide) rfl rfl rfl hRR.1 (Nat.le_of_ble_eq_true rfl) rfl hRR.2.2.2 ?_
    refine gk_val (w := .int (nI 37)) (congrArg Value.int rfl) ?_
    refine gk_icmp_ge (pc' := 106) cx 126 dX5_init_103 rfl rfl (fun hh9 => absurd ((nI_leI (a := 37) (b := i) (by omega) (by omega)).mp hh9) (by omega)) (fun _ => ?_)
    refine gk_aload_n (pc' := 107) cx dX5_init_106 rfl rfl ?_
    refine gk_getr (pc' := 110) cx 2 fX5_22 dX5_init_107 kq0 (ltn rfl) (ltn rfl) rfl h02 rfl ?_
    refine gk_ldcs (pc' := 112) cx (i := 0) rfl dX5_init_110 rfl ?_
    refine gk_iload_n (pc' := 113) cx dX5_init_112 rfl rfl ?_
    refine gk_callVs (pc' := 116) cx (Nat.le_of_ble_eq_true rfl) (c_J0_charAt l E (i := 0) (j := i) (by decide) (show i < 37 by omega)) mJ0_charAt_5068e lX5_46 dX5_init_113 (by decide) rfl rfl rfl hRR.2.1 (Nat.le_of_ble_eq_true rfl) rfl hRR.2.2.2 ?_
    refine gk_cVi (pc' := 119) cx (Nat.le_of_ble_eq_true rfl) (c_X0_append l E (Nat.le_of_ble_eq_true rfl) h20 (sz := i) (by omega) hG1 ((byS.getD 0 []).getD i 0)) mX0_append lX5_50 dX5_init_116 kq2 (ltn rfl) (ltn rfl) rfl rfl rfl hRR.2.2.1 (Nat.le_of_ble_eq_true rfl) rfl hRR.2.2.2 ?_
    refine gk_pop (pc' := 120) cx rfl dX5_init_119 rfl ?_
    refine gk_iinc (pc' := 123) cx (nI (i + 1)) dX5_init_120 rfl (nI_1 i) (ltn rfl) [(1, .int (nI (i + 1))), (0, .ref (E.2.1 0))] rfl rfl ?_
    refine gk_goto cx 97 dX5_init_123 rfl ?_
    rw [if_pos (show i < 160 by omega)]
    refine ih (i + 1) _ (by omega) (up2_s _ _ _ _) (fun q hq => ?_) (fun a b h9 => ?_) kk
    · rw [up2_n _ _ (by omega)]
      by_cases e : q = i
      · rw [e, up2_s]
        rfl
      · rw [up2_n _ _ (Or.inr e)]
        exact hG3 q (by omega)
    · rw [up2_n _ _ (by omega), up2_n _ _ (by omega)]
      exact hGo a b h9

set_option maxHeartbeats 4000000 in
set_option maxRecDepth 40000 in
theorem n_X5 (l : Launch) (E : Ev) (hE : Sq E)  : CtN l E 1 87 1964 yX5_init cX5_init 2 47 [.ref (E.2.1 0)] Z0 N0 0 (fun v g1 r1 z1 => v = none ∧ z1 = 0 ∧ (CG g1 ∧ (∀ i, 88 ≤ i → ∀ j, g1 i j = 0) ∧ (∀ i, 88 ≤ i → ∀ j, r1 i j = none) ∧ ∀ i, i < 88 → ∀ j, r1 i j = RFo (some 5) i j)) := by
  refine CtN.of (lv0 := [(0, .ref (E.2.1 0))]) (by decide) rfl (Nat.le_of_ble_eq_true rfl) rfl ?_
  intro p e s m below meth c cx hin hsz hKx
  have hg0 : ∀ i, 1 ≤ i → ∀ j, Z0 i j = 0 := fun _ _ _ => rfl
  have hr0 : ∀ i, 1 ≤ i → ∀ j, N0 i j = none := fun _ _ _ => rfl
  refine gk_aload_n (pc' := 1) cx dX5_init_0 rfl rfl ?_
  refine gk_obj (pc' := 4) cx loX5_1 obw dX5_init_1 (Nat.le_of_ble_eq_true rfl) (Nat.le_of_ble_eq_true rfl) (Nat.le_of_ble_eq_true rfl) rfl ?_
  refine gk_aload_n (pc' := 5) cx dX5_init_4 rfl rfl ?_
  refine gk_bipush (pc' := 7) cx 6 dX5_init_5 rfl rfl ?_
  refine gk_newq (pc' := 10) cx hE (by omega) (fun h9 => absurd h9 (by decide)) (ltn rfl) kq1 (Nat.le_of_ble_eq_true rfl) rfl ckX5_9 hKx.1 dX5_init_7 (by decide) (by decide) (Nat.le_of_ble_eq_true rfl) (Nat.le_of_ble_eq_true rfl) (Nat.le_of_ble_eq_true rfl) (hr0 _ (by omega)) rfl ?_
  refine gk_putF (pc' := 13) (ty := .array (.object "AsLastTime$Text")) cx hin fX5_11 dX5_init_10 kq0 (ltn rfl) (ltn rfl) rfl rfl rfl (by decide +kernel) ⟨rfl, rfl⟩ rfl ?_
  obtain ⟨r1, er1⟩ : ∃ y : RG, y = (up2r N0 0 0 (some 1)) := ⟨_, rfl⟩
  refine gk_r er1.symm ?_
  have hr1 : ∀ i, 2 ≤ i → ∀ j, r1 i j = none := fun i9 h9 j9 => (congrFun (congrFun er1 i9) j9).trans ((up2r_o (by omega)).trans (hr0 i9 (by omega) j9))
  have q1_0_0 : r1 0 0 = some 1 := by rw [er1]; rfl
  refine gk_aload_n (pc' := 14) cx dX5_init_13 rfl rfl ?_
  refine gk_iconst (pc' := 15) cx 1 dX5_init_14 rfl rfl ?_
  refine gk_puti (pc' := 18) cx fX5_15 dX5_init_15 kq0 (ltn rfl) (ltn rfl) rfl rfl rfl rfl ?_
  obtain ⟨g2, eg2⟩ : ∃ y : IG, y = (up2 Z0 0 1 1) := ⟨_, rfl⟩
  refine gk_g eg2.symm ?_
  have hg2 : ∀ i, 2 ≤ i → ∀ j, g2 i j = 0 := fun i9 h9 j9 => (congrFun (congrFun eg2 i9) j9).trans ((up2_n _ _ (by omega)).trans (hg0 i9 (by omega) j9))
  have p2_0_1 : g2 0 1 = 1 := (congrFun (congrFun eg2 0) 1).trans (up2_s _ _ _ _)
  refine gk_aload_n (pc' := 19) cx dX5_init_18 rfl rfl ?_
  refine gk_new (pc' := 22) cx hE (by omega) (fun h9 => absurd h9 (by decide)) (ltn rfl) nwX5_19 kq2 (ltn rfl) dX5_init_19 (Nat.le_of_ble_eq_true rfl) (Nat.le_of_ble_eq_true rfl) (hg2 _ (by omega)) (hr1 _ (by omega)) rfl rfl ?_
  refine gk_dup (pc' := 23) cx rfl dX5_init_22 rfl ?_
  refine gk_ctor (pc' := 26) cx hE hKx (by omega) (fun h9 => absurd h9 (by decide)) (n_X0 l E hE (fun i9 h9 => hg2 i9 (by omega)) (fun i9 h9 => hr1 i9 (by omega)) (hg2 2 (by omega) 1)) mi0 lX5_21 dX5_init_23 rfl rfl ⟨(Nat.le_of_ble_eq_true rfl), (Nat.le_of_ble_eq_true rfl)⟩ (Nat.le_of_ble_eq_true rfl) rfl ⟨(Nat.le_of_ble_eq_true rfl), (Nat.le_of_ble_eq_true rfl)⟩ rfl rfl rfl (fun g3 r3 h3 => ?_)
  obtain ⟨eg3, er3⟩ := h3
  refine gk_g eg3 ?_
  have p3_2_1 : g2 2 1 = 0 := hg2 2 (by omega) 1
  have hr3 : ∀ i, 4 ≤ i → ∀ j, r3 i j = none := fun i9 h9 j9 => (congrFun (congrFun er3 i9) j9).trans ((up2r_o (by omega)).trans (hr1 i9 (by omega) j9))
  have q3_0_0 : r3 0 0 = some 1 := (congrFun (congrFun er3 0) 0).trans ((up2r_o (by decide)).trans q1_0_0)
  have q3_2_0 : r3 2 0 = some 3 := by rw [er3]; rfl
  refine gk_putF (pc' := 29) (ty := .object "AsLastTime$Reader") cx hin fX5_22 dX5_init_26 kq0 (ltn rfl) (ltn rfl) rfl rfl rfl (by decide +kernel) ⟨rfl, rfl⟩ rfl ?_
  obtain ⟨r4, er4⟩ : ∃ y : RG, y = (up2r r3 0 2 (some 2)) := ⟨_, rfl⟩
  refine gk_r er4.symm ?_
  have hr4 : ∀ i, 4 ≤ i → ∀ j, r4 i j = none := fun i9 h9 j9 => (congrFun (congrFun er4 i9) j9).trans ((up2r_o (by omega)).trans (hr3 i9 (by omega) j9))
  have q4_0_0 : r4 0 0 = some 1 := (congrFun (congrFun er4 0) 0).trans ((up2r_o (by decide)).trans q3_0_0)
  have q4_2_0 : r4 2 0 = some 3 := (congrFun (congrFun er4 2) 0).trans ((up2r_o (by decide)).trans q3_2_0)
  have q4_0_2 : r4 0 2 = some 2 := by rw [er4]; rfl
  refine gk_aload_n (pc' := 30) cx dX5_init_29 rfl rfl ?_
  refine gk_iconst (pc' := 31) cx 0 dX5_init_30 rfl rfl ?_
  refine gk_putz (pc' := 34) cx fX5_26 dX5_init_31 kq0 (ltn rfl) (ltn rfl) rfl rfl rfl (Or.inl rfl) rfl ?_
  obtain ⟨g5, eg5⟩ : ∃ y : IG, y = (up2 g2 0 5 0) := ⟨_, rfl⟩
  refine gk_g eg5.symm ?_
  have hg5 : ∀ i, 4 ≤ i → ∀ j, g5 i j = 0 := fun i9 h9 j9 => (congrFun (congrFun eg5 i9) j9).trans ((up2_n _ _ (by omega)).trans (hg2 i9 (by omega) j9))
  have p5_0_1 : g5 0 1 = 1 := (congrFun (congrFun eg5 0) 1).trans ((up2_n _ _ (by decide)).trans p2_0_1)
  have p5_2_1 : g5 2 1 = 0 := (congrFun (congrFun eg5 2) 1).trans ((up2_n _ _ (by decide)).trans p3_2_1)
  have p5_0_5 : g5 0 5 = 0 := (congrFun (congrFun eg5 0) 5).trans (up2_s _ _ _ _)
  refine gk_aload_n (pc' := 35) cx dX5_init_34 rfl rfl ?_
  refine gk_iconst (pc' := 36) cx 4 dX5_init_35 rfl rfl ?_
  refine gk_newq (pc' := 39) cx hE (by omega) (fun h9 => absurd h9 (by decide)) (ltn rfl) kq4 (Nat.le_of_ble_eq_true rfl) rfl ckX5_30 hKx.2.1 dX5_init_36 (by decide) (by decide) (Nat.le_of_ble_eq_true rfl) (Nat.le_of_ble_eq_true rfl) (Nat.le_of_ble_eq_true rfl) (hr4 _ (by omega)) rfl ?_
  refine gk_putF (pc' := 42) (ty := .array (.object "AsLastTime$Sheet")) cx hin fX5_32 dX5_init_39 kq0 (ltn rfl) (ltn rfl) rfl rfl rfl (by decide +kernel) ⟨rfl, rfl⟩ rfl ?_
  obtain ⟨r6, er6⟩ : ∃ y : RG, y = (up2r r4 0 7 (some 4)) := ⟨_, rfl⟩
  refine gk_r er6.symm ?_
  have hr6 : ∀ i, 5 ≤ i → ∀ j, r6 i j = none := fun i9 h9 j9 => (congrFun (congrFun er6 i9) j9).trans ((up2r_o (by omega)).trans (hr4 i9 (by omega) j9))
  have q6_0_0 : r6 0 0 = some 1 := (congrFun (congrFun er6 0) 0).trans ((up2r_o (by decide)).trans q4_0_0)
  have q6_2_0 : r6 2 0 = some 3 := (congrFun (congrFun er6 2) 0).trans ((up2r_o (by decide)).trans q4_2_0)
  have q6_0_2 : r6 0 2 = some 2 := (congrFun (congrFun er6 0) 2).trans ((up2r_o (by decide)).trans q4_0_2)
  have q6_0_7 : r6 0 7 = some 4 := by rw [er6]; rfl
  refine gk_iconst (pc' := 43) cx 0 dX5_init_42 rfl rfl ?_
  refine gk_istore_n (pc' := 44) cx dX5_init_43 (ltn rfl) [(1, .int 0), (0, .ref (E.2.1 0))] rfl rfl ?_
  refine gk_iload_n (pc' := 45) cx dX5_init_44 rfl rfl ?_
  refine gk_bipush (pc' := 47) cx 6 dX5_init_45 rfl rfl ?_
  refine gk_icmp_ge (pc' := 50) cx 69 dX5_init_47 rfl rfl (fun hh => absurd hh (by decide)) (fun _ => ?_)
  refine gk_aload_n (pc' := 51) cx dX5_init_50 rfl rfl ?_
  refine gk_getr (pc' := 54) cx 1 fX5_11 dX5_init_51 kq0 (ltn rfl) (ltn rfl) rfl q6_0_0 rfl ?_
  refine gk_iload_n (pc' := 55) cx dX5_init_54 rfl rfl ?_
  refine gk_new (pc' := 58) cx hE (by omega) (fun h9 => absurd h9 (by decide)) (ltn rfl) nwX5_9 kq5 (ltn rfl) dX5_init_55 (Nat.le_of_ble_eq_true rfl) (Nat.le_of_ble_eq_true rfl) (hg5 _ (by omega)) (hr6 _ (by omega)) rfl rfl ?_
  refine gk_dup (pc' := 59) cx rfl dX5_init_58 rfl ?_
  refine gk_ctorN (pc' := 62) cx hE hKx (by omega) (fun h9 => absurd h9 (by decide)) (n_X3_0 l E hE (fun i9 h9 => hg5 i9 (by omega)) (fun i9 h9 => hr6 i9 (by omega)) (hg5 5 (by omega) 3)) mi3 hKx.2.2.1 dX5_init_59 rfl rfl ⟨(Nat.le_of_ble_eq_true rfl), (Nat.le_of_ble_eq_true rfl)⟩ (Nat.le_of_ble_eq_true rfl) rfl ⟨(Nat.le_of_ble_eq_true rfl), (Nat.le_of_ble_eq_true rfl)⟩ rfl rfl rfl (fun g7 r7 h7 => ?_)
  obtain ⟨eg7, er7⟩ := h7
  refine gk_g eg7 ?_
  have hr7 : ∀ i, 9 ≤ i → ∀ j, r7 i j = none := fun i9 h9 j9 => (congrFun (congrFun er7 i9) j9).trans ((up2r_o (by omega)).trans ((up2r_o (by omega)).trans ((up2r_o (by omega)).trans (hr6 i9 (by omega) j9))))
  have q7_0_0 : r7 0 0 = some 1 := (congrFun (congrFun er7 0) 0).trans ((up2r_o (by decide)).trans ((up2r_o (by decide)).trans ((up2r_o (by decide)).trans q6_0_0)))
  have q7_2_0 : r7 2 0 = some 3 := (congrFun (congrFun er7 2) 0).trans ((up2r_o (by decide)).trans ((up2r_o (by decide)).trans ((up2r_o (by decide)).trans q6_2_0)))
  have q7_0_2 : r7 0 2 = some 2 := (congrFun (congrFun er7 0) 2).trans ((up2r_o (by decide)).trans ((up2r_o (by decide)).trans ((up2r_o (by decide)).trans q6_0_2)))
  have q7_0_7 : r7 0 7 = some 4 := (congrFun (congrFun er7 0) 7).trans ((up2r_o (by decide)).trans ((up2r_o (by decide)).trans ((up2r_o (by decide)).trans q6_0_7)))
  have q7_5_0 : r7 5 0 = some 6 := by rw [er7]; rfl
  have q7_5_1 : r7 5 1 = some 7 := by rw [er7]; rfl
  refine gk_aast (pc' := 63) (q := (RX3, TX3, 4)) cx 0 dX5_init_62 kq1 (Nat.le_of_ble_eq_true rfl) (ltn rfl) kq5 (ltn rfl) (ltn rfl) rfl rfl (vpi (k := 0) (a := 1) (ltn rfl) rfl rfl) (cli (k := 0) (a := 1) (ltn rfl) rfl) rfl ?_
  obtain ⟨r8, er8⟩ : ∃ y : RG, y = (up2r r7 1 0 (some 5)) := ⟨_, rfl⟩
  refine gk_r er8.symm ?_
  have hr8 : ∀ i, 9 ≤ i → ∀ j, r8 i j = none := fun i9 h9 j9 => (congrFun (congrFun er8 i9) j9).trans ((up2r_o (by omega)).trans (hr7 i9 (by omega) j9))
  have q8_0_0 : r8 0 0 = some 1 := (congrFun (congrFun er8 0) 0).trans ((up2r_o (by decide)).trans q7_0_0)
  have q8_2_0 : r8 2 0 = some 3 := (congrFun (congrFun er8 2) 0).trans ((up2r_o (by decide)).trans q7_2_0)
  have q8_0_2 : r8 0 2 = some 2 := (congrFun (congrFun er8 0) 2).trans ((up2r_o (by decide)).trans q7_0_2)
  have q8_0_7 : r8 0 7 = some 4 := (congrFun (congrFun er8 0) 7).trans ((up2r_o (by decide)).trans q7_0_7)
  have q8_5_0 : r8 5 0 = some 6 := (congrFun (congrFun er8 5) 0).trans ((up2r_o (by decide)).trans q7_5_0)
  have q8_5_1 : r8 5 1 = some 7 := (congrFun (congrFun er8 5) 1).trans ((up2r_o (by decide)).trans q7_5_1)
  have q8_1_0 : r8 1 0 = some 5 := by rw [er8]; rfl
  refine gk_iinc (pc' := 66) cx 1 dX5_init_63 rfl rfl (ltn rfl) [(1, .int 1), (0, .ref (E.2.1 0))] rfl rfl ?_
  refine gk_goto cx 44 dX5_init_66 rfl ?_
  refine gk_iload_n (pc' := 45) cx dX5_init_44 rfl rfl ?_
  refine gk_bipush (pc' := 47) cx 6 dX5_init_45 rfl rfl ?_
  refine gk_icmp_ge (pc' := 50) cx 69 dX5_init_47 rfl rfl (fun hh => absurd hh (by decide)) (fun _ => ?_)
  refine gk_aload_n (pc' := 51) cx dX5_init_50 rfl rfl ?_
  refine gk_getr (pc' := 54) cx 1 fX5_11 dX5_init_51 kq0 (ltn rfl) (ltn rfl) rfl q8_0_0 rfl ?_
  refine gk_iload_n (pc' := 55) cx dX5_init_54 rfl rfl ?_
  refine gk_new (pc' := 58) cx hE (by omega) (fun h9 => absurd h9 (by decide)) (ltn rfl) nwX5_9 kq9 (ltn rfl) dX5_init_55 (Nat.le_of_ble_eq_true rfl) (Nat.le_of_ble_eq_true rfl) (hg5 _ (by omega)) (hr8 _ (by omega)) rfl rfl ?_
  refine gk_dup (pc' := 59) cx rfl dX5_init_58 rfl ?_
  refine gk_ctorN (pc' := 62) cx hE hKx (by omega) (fun h9 => absurd h9 (by decide)) (n_X3_1 l E hE (fun i9 h9 => hg5 i9 (by omega)) (fun i9 h9 => hr8 i9 (by omega)) (hg5 9 (by omega) 3)) mi3 hKx.2.2.1 dX5_init_59 rfl rfl ⟨(Nat.le_of_ble_eq_true rfl), (Nat.le_of_ble_eq_true rfl)⟩ (Nat.le_of_ble_eq_true rfl) rfl ⟨(Nat.le_of_ble_eq_true rfl), (Nat.le_of_ble_eq_true rfl)⟩ rfl rfl rfl (fun g9 r9 h9 => ?_)
  obtain ⟨eg9, er9⟩ := h9
  refine gk_g eg9 ?_
  have hr9 : ∀ i, 13 ≤ i → ∀ j, r9 i j = none := fun i9 h9 j9 => (congrFun (congrFun er9 i9) j9).trans ((up2r_o (by omega)).trans ((up2r_o (by omega)).trans ((up2r_o (by omega)).trans (hr8 i9 (by omega) j9))))
  have q9_0_0 : r9 0 0 = some 1 := (congrFun (congrFun er9 0) 0).trans ((up2r_o (by decide)).trans ((up2r_o (by decide)).trans ((up2r_o (by decide)).trans q8_0_0)))
  have q9_2_0 : r9 2 0 = some 3 := (congrFun (congrFun er9 2) 0).trans ((up2r_o (by decide)).trans ((up2r_o (by decide)).trans ((up2r_o (by decide)).trans q8_2_0)))
  have q9_0_2 : r9 0 2 = some 2 := (congrFun (congrFun er9 0) 2).trans ((up2r_o (by decide)).trans ((up2r_o (by decide)).trans ((up2r_o (by decide)).trans q8_0_2)))
  have q9_0_7 : r9 0 7 = some 4 := (congrFun (congrFun er9 0) 7).trans ((up2r_o (by decide)).trans ((up2r_o (by decide)).trans ((up2r_o (by decide)).trans q8_0_7)))
  have q9_5_0 : r9 5 0 = some 6 := (congrFun (congrFun er9 5) 0).trans ((up2r_o (by decide)).trans ((up2r_o (by decide)).trans ((up2r_o (by decide)).trans q8_5_0)))
  have q9_5_1 : r9 5 1 = some 7 := (congrFun (congrFun er9 5) 1).trans ((up2r_o (by decide)).trans ((up2r_o (by decide)).trans ((up2r_o (by decide)).trans q8_5_1)))
  have q9_1_0 : r9 1 0 = some 5 := (congrFun (congrFun er9 1) 0).trans ((up2r_o (by decide)).trans ((up2r_o (by decide)).trans ((up2r_o (by decide)).trans q8_1_0)))
  refine gk_aast (pc' := 63) (q := (RX3, TX3, 4)) cx 1 dX5_init_62 kq1 (Nat.le_of_ble_eq_true rfl) (ltn rfl) kq9 (ltn rfl) (ltn rfl) rfl rfl (vpi (k := 1) (a := 2) (ltn rfl) rfl rfl) (cli (k := 1) (a := 2) (ltn rfl) rfl) rfl ?_
  obtain ⟨r10, er10⟩ : ∃ y : RG, y = (up2r r9 1 1 (some 9)) := ⟨_, rfl⟩
  refine gk_r er10.symm ?_
  have hr10 : ∀ i, 13 ≤ i → ∀ j, r10 i j = none := fun i9 h9 j9 => (congrFun (congrFun er10 i9) j9).trans ((up2r_o (by omega)).trans (hr9 i9 (by omega) j9))
  have q10_0_0 : r10 0 0 = some 1 := (congrFun (congrFun er10 0) 0).trans ((up2r_o (by decide)).trans q9_0_0)
  have q10_2_0 : r10 2 0 = some 3 := (congrFun (congrFun er10 2) 0).trans ((up2r_o (by decide)).trans q9_2_0)
  have q10_0_2 : r10 0 2 = some 2 := (congrFun (congrFun er10 0) 2).trans ((up2r_o (by decide)).trans q9_0_2)
  have q10_0_7 : r10 0 7 = some 4 := (congrFun (congrFun er10 0) 7).trans ((up2r_o (by decide)).trans q9_0_7)
  have q10_5_0 : r10 5 0 = some 6 := (congrFun (congrFun er10 5) 0).trans ((up2r_o (by decide)).trans q9_5_0)
  have q10_5_1 : r10 5 1 = some 7 := (congrFun (congrFun er10 5) 1).trans ((up2r_o (by decide)).trans q9_5_1)
  have q10_1_0 : r10 1 0 = some 5 := (congrFun (congrFun er10 1) 0).trans ((up2r_o (by decide)).trans q9_1_0)
  refine gk_iinc (pc' := 66) cx 2 dX5_init_63 rfl rfl (ltn rfl) [(1, .int 2), (0, .ref (E.2.1 0))] rfl rfl ?_
  refine gk_goto cx 44 dX5_init_66 rfl ?_
  refine gk_iload_n (pc' := 45) cx dX5_init_44 rfl rfl ?_
  refine gk_bipush (pc' := 47) cx 6 dX5_init_45 rfl rfl ?_
  refine gk_icmp_ge (pc' := 50) cx 69 dX5_init_47 rfl rfl (fun hh => absurd hh (by decide)) (fun _ => ?_)
  refine gk_aload_n (pc' := 51) cx dX5_init_50 rfl rfl ?_
  refine gk_getr (pc' := 54) cx 1 fX5_11 dX5_init_51 kq0 (ltn rfl) (ltn rfl) rfl q10_0_0 rfl ?_
  refine gk_iload_n (pc' := 55) cx dX5_init_54 rfl rfl ?_
  refine gk_new (pc' := 58) cx hE (by omega) (fun h9 => absurd h9 (by decide)) (ltn rfl) nwX5_9 kq13 (ltn rfl) dX5_init_55 (Nat.le_of_ble_eq_true rfl) (Nat.le_of_ble_eq_true rfl) (hg5 _ (by omega)) (hr10 _ (by omega)) rfl rfl ?_
  refine gk_dup (pc' := 59) cx rfl dX5_init_58 rfl ?_
  refine gk_ctorN (pc' := 62) cx hE hKx (by omega) (fun h9 => absurd h9 (by decide)) (n_X3_2 l E hE (fun i9 h9 => hg5 i9 (by omega)) (fun i9 h9 => hr10 i9 (by omega)) (hg5 13 (by omega) 3)) mi3 hKx.2.2.1 dX5_init_59 rfl rfl ⟨(Nat.le_of_ble_eq_true rfl), (Nat.le_of_ble_eq_true rfl)⟩ (Nat.le_of_ble_eq_true rfl) rfl ⟨(Nat.le_of_ble_eq_true rfl), (Nat.le_of_ble_eq_true rfl)⟩ rfl rfl rfl (fun g11 r11 h11 => ?_)
  obtain ⟨eg11, er11⟩ := h11
  refine gk_g eg11 ?_
  have hr11 : ∀ i, 17 ≤ i → ∀ j, r11 i j = none := fun i9 h9 j9 => (congrFun (congrFun er11 i9) j9).trans ((up2r_o (by omega)).trans ((up2r_o (by omega)).trans ((up2r_o (by omega)).trans (hr10 i9 (by omega) j9))))
  have q11_0_0 : r11 0 0 = some 1 := (congrFun (congrFun er11 0) 0).trans ((up2r_o (by decide)).trans ((up2r_o (by decide)).trans ((up2r_o (by decide)).trans q10_0_0)))
  have q11_2_0 : r11 2 0 = some 3 := (congrFun (congrFun er11 2) 0).trans ((up2r_o (by decide)).trans ((up2r_o (by decide)).trans ((up2r_o (by decide)).trans q10_2_0)))
  have q11_0_2 : r11 0 2 = some 2 := (congrFun (congrFun er11 0) 2).trans ((up2r_o (by decide)).trans ((up2r_o (by decide)).trans ((up2r_o (by decide)).trans q10_0_2)))
  have q11_0_7 : r11 0 7 = some 4 := (congrFun (congrFun er11 0) 7).trans ((up2r_o (by decide)).trans ((up2r_o (by decide)).trans ((up2r_o (by decide)).trans q10_0_7)))
  have q11_5_0 : r11 5 0 = some 6 := (congrFun (congrFun er11 5) 0).trans ((up2r_o (by decide)).trans ((up2r_o (by decide)).trans ((up2r_o (by decide)).trans q10_5_0)))
  have q11_5_1 : r11 5 1 = some 7 := (congrFun (congrFun er11 5) 1).trans ((up2r_o (by decide)).trans ((up2r_o (by decide)).trans ((up2r_o (by decide)).trans q10_5_1)))
  have q11_1_0 : r11 1 0 = some 5 := (congrFun (congrFun er11 1) 0).trans ((up2r_o (by decide)).trans ((up2r_o (by decide)).trans ((up2r_o (by decide)).trans q10_1_0)))
  refine gk_aast (pc' := 63) (q := (RX3, TX3, 4)) cx 2 dX5_init_62 kq1 (Nat.le_of_ble_eq_true rfl) (ltn rfl) kq13 (ltn rfl) (ltn rfl) rfl rfl (vpi (k := 2) (a := 3) (ltn rfl) rfl rfl) (cli (k := 2) (a := 3) (ltn rfl) rfl) rfl ?_
  obtain ⟨r12, er12⟩ : ∃ y : RG, y = (up2r r11 1 2 (some 13)) := ⟨_, rfl⟩
  refine gk_r er12.symm ?_
  have hr12 : ∀ i, 17 ≤ i → ∀ j, r12 i j = none := fun i9 h9 j9 => (congrFun (congrFun er12 i9) j9).trans ((up2r_o (by omega)).trans (hr11 i9 (by omega) j9))
  have q12_0_0 : r12 0 0 = some 1 := (congrFun (congrFun er12 0) 0).trans ((up2r_o (by decide)).trans q11_0_0)
  have q12_2_0 : r12 2 0 = some 3 := (congrFun (congrFun er12 2) 0).trans ((up2r_o (by decide)).trans q11_2_0)
  have q12_0_2 : r12 0 2 = some 2 := (congrFun (congrFun er12 0) 2).trans ((up2r_o (by decide)).trans q11_0_2)
  have q12_0_7 : r12 0 7 = some 4 := (congrFun (congrFun er12 0) 7).trans ((up2r_o (by decide)).trans q11_0_7)
  have q12_5_0 : r12 5 0 = some 6 := (congrFun (congrFun er12 5) 0).trans ((up2r_o (by decide)).trans q11_5_0)
  have q12_5_1 : r12 5 1 = some 7 := (congrFun (congrFun er12 5) 1).trans ((up2r_o (by decide)).trans q11_5_1)
  have q12_1_0 : r12 1 0 = some 5 := (congrFun (congrFun er12 1) 0).trans ((up2r_o (by decide)).trans q11_1_0)
  refine gk_iinc (pc' := 66) cx 3 dX5_init_63 rfl rfl (ltn rfl) [(1, .int 3), (0, .ref (E.2.1 0))] rfl rfl ?_
  refine gk_goto cx 44 dX5_init_66 rfl ?_
  refine gk_iload_n (pc' := 45) cx dX5_init_44 rfl rfl ?_
  refine gk_bipush (pc' := 47) cx 6 dX5_init_45 rfl rfl ?_
  refine gk_icmp_ge (pc' := 50) cx 69 dX5_init_47 rfl rfl (fun hh => absurd hh (by decide)) (fun _ => ?_)
  refine gk_aload_n (pc' := 51) cx dX5_init_50 rfl rfl ?_
  refine gk_getr (pc' := 54) cx 1 fX5_11 dX5_init_51 kq0 (ltn rfl) (ltn rfl) rfl q12_0_0 rfl ?_
  refine gk_iload_n (pc' := 55) cx dX5_init_54 rfl rfl ?_
  refine gk_new (pc' := 58) cx hE (by omega) (fun h9 => absurd h9 (by decide)) (ltn rfl) nwX5_9 kq17 (ltn rfl) dX5_init_55 (Nat.le_of_ble_eq_true rfl) (Nat.le_of_ble_eq_true rfl) (hg5 _ (by omega)) (hr12 _ (by omega)) rfl rfl ?_
  refine gk_dup (pc' := 59) cx rfl dX5_init_58 rfl ?_
  refine gk_ctorN (pc' := 62) cx hE hKx (by omega) (fun h9 => absurd h9 (by decide)) (n_X3_3 l E hE (fun i9 h9 => hg5 i9 (by omega)) (fun i9 h9 => hr12 i9 (by omega)) (hg5 17 (by omega) 3)) mi3 hKx.2.2.1 dX5_init_59 rfl rfl ⟨(Nat.le_of_ble_eq_true rfl), (Nat.le_of_ble_eq_true rfl)⟩ (Nat.le_of_ble_eq_true rfl) rfl ⟨(Nat.le_of_ble_eq_true rfl), (Nat.le_of_ble_eq_true rfl)⟩ rfl rfl rfl (fun g13 r13 h13 => ?_)
  obtain ⟨eg13, er13⟩ := h13
  refine gk_g eg13 ?_
  have hr13 : ∀ i, 21 ≤ i → ∀ j, r13 i j = none := fun i9 h9 j9 => (congrFun (congrFun er13 i9) j9).trans ((up2r_o (by omega)).trans ((up2r_o (by omega)).trans ((up2r_o (by omega)).trans (hr12 i9 (by omega) j9))))
  have q13_0_0 : r13 0 0 = some 1 := (congrFun (congrFun er13 0) 0).trans ((up2r_o (by decide)).trans ((up2r_o (by decide)).trans ((up2r_o (by decide)).trans q12_0_0)))
  have q13_2_0 : r13 2 0 = some 3 := (congrFun (congrFun er13 2) 0).trans ((up2r_o (by decide)).trans ((up2r_o (by decide)).trans ((up2r_o (by decide)).trans q12_2_0)))
  have q13_0_2 : r13 0 2 = some 2 := (congrFun (congrFun er13 0) 2).trans ((up2r_o (by decide)).trans ((up2r_o (by decide)).trans ((up2r_o (by decide)).trans q12_0_2)))
  have q13_0_7 : r13 0 7 = some 4 := (congrFun (congrFun er13 0) 7).trans ((up2r_o (by decide)).trans ((up2r_o (by decide)).trans ((up2r_o (by decide)).trans q12_0_7)))
  have q13_5_0 : r13 5 0 = some 6 := (congrFun (congrFun er13 5) 0).trans ((up2r_o (by decide)).trans ((up2r_o (by decide)).trans ((up2r_o (by decide)).trans q12_5_0)))
  have q13_5_1 : r13 5 1 = some 7 := (congrFun (congrFun er13 5) 1).trans ((up2r_o (by decide)).trans ((up2r_o (by decide)).trans ((up2r_o (by decide)).trans q12_5_1)))
  have q13_1_0 : r13 1 0 = some 5 := (congrFun (congrFun er13 1) 0).trans ((up2r_o (by decide)).trans ((up2r_o (by decide)).trans ((up2r_o (by decide)).trans q12_1_0)))
  refine gk_aast (pc' := 63) (q := (RX3, TX3, 4)) cx 3 dX5_init_62 kq1 (Nat.le_of_ble_eq_true rfl) (ltn rfl) kq17 (ltn rfl) (ltn rfl) rfl rfl (vpi (k := 3) (a := 4) (ltn rfl) rfl rfl) (cli (k := 3) (a := 4) (ltn rfl) rfl) rfl ?_
  obtain ⟨r14, er14⟩ : ∃ y : RG, y = (up2r r13 1 3 (some 17)) := ⟨_, rfl⟩
  refine gk_r er14.symm ?_
  have hr14 : ∀ i, 21 ≤ i → ∀ j, r14 i j = none := fun i9 h9 j9 => (congrFun (congrFun er14 i9) j9).trans ((up2r_o (by omega)).trans (hr13 i9 (by omega) j9))
  have q14_0_0 : r14 0 0 = some 1 := (congrFun (congrFun er14 0) 0).trans ((up2r_o (by decide)).trans q13_0_0)
  have q14_2_0 : r14 2 0 = some 3 := (congrFun (congrFun er14 2) 0).trans ((up2r_o (by decide)).trans q13_2_0)
  have q14_0_2 : r14 0 2 = some 2 := (congrFun (congrFun er14 0) 2).trans ((up2r_o (by decide)).trans q13_0_2)
  have q14_0_7 : r14 0 7 = some 4 := (congrFun (congrFun er14 0) 7).trans ((up2r_o (by decide)).trans q13_0_7)
  have q14_5_0 : r14 5 0 = some 6 := (congrFun (congrFun er14 5) 0).trans ((up2r_o (by decide)).trans q13_5_0)
  have q14_5_1 : r14 5 1 = some 7 := (congrFun (congrFun er14 5) 1).trans ((up2r_o (by decide)).trans q13_5_1)
  have q14_1_0 : r14 1 0 = some 5 := (congrFun (congrFun er14 1) 0).trans ((up2r_o (by decide)).trans q13_1_0)
  refine gk_iinc (pc' := 66) cx 4 dX5_init_63 rfl rfl (ltn rfl) [(1, .int 4), (0, .ref (E.2.1 0))] rfl rfl ?_
  refine gk_goto cx 44 dX5_init_66 rfl ?_
  refine gk_iload_n (pc' := 45) cx dX5_init_44 rfl rfl ?_
  refine gk_bipush (pc' := 47) cx 6 dX5_init_45 rfl rfl ?_
  refine gk_icmp_ge (pc' := 50) cx 69 dX5_init_47 rfl rfl (fun hh => absurd hh (by decide)) (fun _ => ?_)
  refine gk_aload_n (pc' := 51) cx dX5_init_50 rfl rfl ?_
  refine gk_getr (pc' := 54) cx 1 fX5_11 dX5_init_51 kq0 (ltn rfl) (ltn rfl) rfl q14_0_0 rfl ?_
  refine gk_iload_n (pc' := 55) cx dX5_init_54 rfl rfl ?_
  refine gk_new (pc' := 58) cx hE (by omega) (fun h9 => absurd h9 (by decide)) (ltn rfl) nwX5_9 kq21 (ltn rfl) dX5_init_55 (Nat.le_of_ble_eq_true rfl) (Nat.le_of_ble_eq_true rfl) (hg5 _ (by omega)) (hr14 _ (by omega)) rfl rfl ?_
  refine gk_dup (pc' := 59) cx rfl dX5_init_58 rfl ?_
  refine gk_ctorN (pc' := 62) cx hE hKx (by omega) (fun h9 => absurd h9 (by decide)) (n_X3_4 l E hE (fun i9 h9 => hg5 i9 (by omega)) (fun i9 h9 => hr14 i9 (by omega)) (hg5 21 (by omega) 3)) mi3 hKx.2.2.1 dX5_init_59 rfl rfl ⟨(Nat.le_of_ble_eq_true rfl), (Nat.le_of_ble_eq_true rfl)⟩ (Nat.le_of_ble_eq_true rfl) rfl ⟨(Nat.le_of_ble_eq_true rfl), (Nat.le_of_ble_eq_true rfl)⟩ rfl rfl rfl (fun g15 r15 h15 => ?_)
  obtain ⟨eg15, er15⟩ := h15
  refine gk_g eg15 ?_
  have hr15 : ∀ i, 25 ≤ i → ∀ j, r15 i j = none := fun i9 h9 j9 => (congrFun (congrFun er15 i9) j9).trans ((up2r_o (by omega)).trans ((up2r_o (by omega)).trans ((up2r_o (by omega)).trans (hr14 i9 (by omega) j9))))
  have q15_0_0 : r15 0 0 = some 1 := (congrFun (congrFun er15 0) 0).trans ((up2r_o (by decide)).trans ((up2r_o (by decide)).trans ((up2r_o (by decide)).trans q14_0_0)))
  have q15_2_0 : r15 2 0 = some 3 := (congrFun (congrFun er15 2) 0).trans ((up2r_o (by decide)).trans ((up2r_o (by decide)).trans ((up2r_o (by decide)).trans q14_2_0)))
  have q15_0_2 : r15 0 2 = some 2 := (congrFun (congrFun er15 0) 2).trans ((up2r_o (by decide)).trans ((up2r_o (by decide)).trans ((up2r_o (by decide)).trans q14_0_2)))
  have q15_0_7 : r15 0 7 = some 4 := (congrFun (congrFun er15 0) 7).trans ((up2r_o (by decide)).trans ((up2r_o (by decide)).trans ((up2r_o (by decide)).trans q14_0_7)))
  have q15_5_0 : r15 5 0 = some 6 := (congrFun (congrFun er15 5) 0).trans ((up2r_o (by decide)).trans ((up2r_o (by decide)).trans ((up2r_o (by decide)).trans q14_5_0)))
  have q15_5_1 : r15 5 1 = some 7 := (congrFun (congrFun er15 5) 1).trans ((up2r_o (by decide)).trans ((up2r_o (by decide)).trans ((up2r_o (by decide)).trans q14_5_1)))
  have q15_1_0 : r15 1 0 = some 5 := (congrFun (congrFun er15 1) 0).trans ((up2r_o (by decide)).trans ((up2r_o (by decide)).trans ((up2r_o (by decide)).trans q14_1_0)))
  refine gk_aast (pc' := 63) (q := (RX3, TX3, 4)) cx 4 dX5_init_62 kq1 (Nat.le_of_ble_eq_true rfl) (ltn rfl) kq21 (ltn rfl) (ltn rfl) rfl rfl (vpi (k := 4) (a := 5) (ltn rfl) rfl rfl) (cli (k := 4) (a := 5) (ltn rfl) rfl) rfl ?_
  obtain ⟨r16, er16⟩ : ∃ y : RG, y = (up2r r15 1 4 (some 21)) := ⟨_, rfl⟩
  refine gk_r er16.symm ?_
  have hr16 : ∀ i, 25 ≤ i → ∀ j, r16 i j = none := fun i9 h9 j9 => (congrFun (congrFun er16 i9) j9).trans ((up2r_o (by omega)).trans (hr15 i9 (by omega) j9))
  have q16_0_0 : r16 0 0 = some 1 := (congrFun (congrFun er16 0) 0).trans ((up2r_o (by decide)).trans q15_0_0)
  have q16_2_0 : r16 2 0 = some 3 := (congrFun (congrFun er16 2) 0).trans ((up2r_o (by decide)).trans q15_2_0)
  have q16_0_2 : r16 0 2 = some 2 := (congrFun (congrFun er16 0) 2).trans ((up2r_o (by decide)).trans q15_0_2)
  have q16_0_7 : r16 0 7 = some 4 := (congrFun (congrFun er16 0) 7).trans ((up2r_o (by decide)).trans q15_0_7)
  have q16_5_0 : r16 5 0 = some 6 := (congrFun (congrFun er16 5) 0).trans ((up2r_o (by decide)).trans q15_5_0)
  have q16_5_1 : r16 5 1 = some 7 := (congrFun (congrFun er16 5) 1).trans ((up2r_o (by decide)).trans q15_5_1)
  have q16_1_0 : r16 1 0 = some 5 := (congrFun (congrFun er16 1) 0).trans ((up2r_o (by decide)).trans q15_1_0)
  refine gk_iinc (pc' := 66) cx 5 dX5_init_63 rfl rfl (ltn rfl) [(1, .int 5), (0, .ref (E.2.1 0))] rfl rfl ?_
  refine gk_goto cx 44 dX5_init_66 rfl ?_
  refine gk_iload_n (pc' := 45) cx dX5_init_44 rfl rfl ?_
  refine gk_bipush (pc' := 47) cx 6 dX5_init_45 rfl rfl ?_
  refine gk_icmp_ge (pc' := 50) cx 69 dX5_init_47 rfl rfl (fun hh => absurd hh (by decide)) (fun _ => ?_)
  refine gk_aload_n (pc' := 51) cx dX5_init_50 rfl rfl ?_
  refine gk_getr (pc' := 54) cx 1 fX5_11 dX5_init_51 kq0 (ltn rfl) (ltn rfl) rfl q16_0_0 rfl ?_
  refine gk_iload_n (pc' := 55) cx dX5_init_54 rfl rfl ?_
  refine gk_new (pc' := 58) cx hE (by omega) (fun h9 => absurd h9 (by decide)) (ltn rfl) nwX5_9 kq25 (ltn rfl) dX5_init_55 (Nat.le_of_ble_eq_true rfl) (Nat.le_of_ble_eq_true rfl) (hg5 _ (by omega)) (hr16 _ (by omega)) rfl rfl ?_
  refine gk_dup (pc' := 59) cx rfl dX5_init_58 rfl ?_
  refine gk_ctorN (pc' := 62) cx hE hKx (by omega) (fun h9 => absurd h9 (by decide)) (n_X3_5 l E hE (fun i9 h9 => hg5 i9 (by omega)) (fun i9 h9 => hr16 i9 (by omega)) (hg5 25 (by omega) 3)) mi3 hKx.2.2.1 dX5_init_59 rfl rfl ⟨(Nat.le_of_ble_eq_true rfl), (Nat.le_of_ble_eq_true rfl)⟩ (Nat.le_of_ble_eq_true rfl) rfl ⟨(Nat.le_of_ble_eq_true rfl), (Nat.le_of_ble_eq_true rfl)⟩ rfl rfl rfl (fun g17 r17 h17 => ?_)
  obtain ⟨eg17, er17⟩ := h17
  refine gk_g eg17 ?_
  have hr17 : ∀ i, 29 ≤ i → ∀ j, r17 i j = none := fun i9 h9 j9 => (congrFun (congrFun er17 i9) j9).trans ((up2r_o (by omega)).trans ((up2r_o (by omega)).trans ((up2r_o (by omega)).trans (hr16 i9 (by omega) j9))))
  have q17_0_0 : r17 0 0 = some 1 := (congrFun (congrFun er17 0) 0).trans ((up2r_o (by decide)).trans ((up2r_o (by decide)).trans ((up2r_o (by decide)).trans q16_0_0)))
  have q17_2_0 : r17 2 0 = some 3 := (congrFun (congrFun er17 2) 0).trans ((up2r_o (by decide)).trans ((up2r_o (by decide)).trans ((up2r_o (by decide)).trans q16_2_0)))
  have q17_0_2 : r17 0 2 = some 2 := (congrFun (congrFun er17 0) 2).trans ((up2r_o (by decide)).trans ((up2r_o (by decide)).trans ((up2r_o (by decide)).trans q16_0_2)))
  have q17_0_7 : r17 0 7 = some 4 := (congrFun (congrFun er17 0) 7).trans ((up2r_o (by decide)).trans ((up2r_o (by decide)).trans ((up2r_o (by decide)).trans q16_0_7)))
  have q17_5_0 : r17 5 0 = some 6 := (congrFun (congrFun er17 5) 0).trans ((up2r_o (by decide)).trans ((up2r_o (by decide)).trans ((up2r_o (by decide)).trans q16_5_0)))
  have q17_5_1 : r17 5 1 = some 7 := (congrFun (congrFun er17 5) 1).trans ((up2r_o (by decide)).trans ((up2r_o (by decide)).trans ((up2r_o (by decide)).trans q16_5_1)))
  have q17_1_0 : r17 1 0 = some 5 := (congrFun (congrFun er17 1) 0).trans ((up2r_o (by decide)).trans ((up2r_o (by decide)).trans ((up2r_o (by decide)).trans q16_1_0)))
  refine gk_aast (pc' := 63) (q := (RX3, TX3, 4)) cx 5 dX5_init_62 kq1 (Nat.le_of_ble_eq_true rfl) (ltn rfl) kq25 (ltn rfl) (ltn rfl) rfl rfl (vpi (k := 5) (a := 6) (ltn rfl) rfl rfl) (cli (k := 5) (a := 6) (ltn rfl) rfl) rfl ?_
  obtain ⟨r18, er18⟩ : ∃ y : RG, y = (up2r r17 1 5 (some 25)) := ⟨_, rfl⟩
  refine gk_r er18.symm ?_
  have hr18 : ∀ i, 29 ≤ i → ∀ j, r18 i j = none := fun i9 h9 j9 => (congrFun (congrFun er18 i9) j9).trans ((up2r_o (by omega)).trans (hr17 i9 (by omega) j9))
  have q18_0_0 : r18 0 0 = some 1 := (congrFun (congrFun er18 0) 0).trans ((up2r_o (by decide)).trans q17_0_0)
  have q18_2_0 : r18 2 0 = some 3 := (congrFun (congrFun er18 2) 0).trans ((up2r_o (by decide)).trans q17_2_0)
  have q18_0_2 : r18 0 2 = some 2 := (congrFun (congrFun er18 0) 2).trans ((up2r_o (by decide)).trans q17_0_2)
  have q18_0_7 : r18 0 7 = some 4 := (congrFun (congrFun er18 0) 7).trans ((up2r_o (by decide)).trans q17_0_7)
  have q18_5_0 : r18 5 0 = some 6 := (congrFun (congrFun er18 5) 0).trans ((up2r_o (by decide)).trans q17_5_0)
  have q18_5_1 : r18 5 1 = some 7 := (congrFun (congrFun er18 5) 1).trans ((up2r_o (by decide)).trans q17_5_1)
  have q18_1_0 : r18 1 0 = some 5 := (congrFun (congrFun er18 1) 0).trans ((up2r_o (by decide)).trans q17_1_0)
  refine gk_iinc (pc' := 66) cx 6 dX5_init_63 rfl rfl (ltn rfl) [(1, .int 6), (0, .ref (E.2.1 0))] rfl rfl ?_
  refine gk_goto cx 44 dX5_init_66 rfl ?_
  refine gk_iload_n (pc' := 45) cx dX5_init_44 rfl rfl ?_
  refine gk_bipush (pc' := 47) cx 6 dX5_init_45 rfl rfl ?_
  refine gk_icmp_ge (pc' := 50) cx 69 dX5_init_47 rfl rfl (fun _ => ?_) (fun hh => absurd hh (by decide))
  refine gk_iconst (pc' := 70) cx 0 dX5_init_69 rfl rfl ?_
  refine gk_istore_n (pc' := 71) cx dX5_init_70 (ltn rfl) [(1, .int 0), (0, .ref (E.2.1 0))] rfl rfl ?_
  refine gk_iload_n (pc' := 72) cx dX5_init_71 rfl rfl ?_
  refine gk_iconst (pc' := 73) cx 4 dX5_init_72 rfl rfl ?_
  refine gk_icmp_ge (pc' := 76) cx 95 dX5_init_73 rfl rfl (fun hh => absurd hh (by decide)) (fun _ => ?_)
  refine gk_aload_n (pc' := 77) cx dX5_init_76 rfl rfl ?_
  refine gk_getr (pc' := 80) cx 4 fX5_32 dX5_init_77 kq0 (ltn rfl) (ltn rfl) rfl q18_0_7 rfl ?_
  refine gk_iload_n (pc' := 81) cx dX5_init_80 rfl rfl ?_
  refine gk_new (pc' := 84) cx hE (by omega) (fun h9 => absurd h9 (by decide)) (ltn rfl) nwX5_30 kq29 (ltn rfl) dX5_init_81 (Nat.le_of_ble_eq_true rfl) (Nat.le_of_ble_eq_true rfl) (hg5 _ (by omega)) (hr18 _ (by omega)) rfl rfl ?_
  refine gk_dup (pc' := 85) cx rfl dX5_init_84 rfl ?_
  refine gk_ctorN (pc' := 88) cx hE hKx (by omega) (fun h9 => absurd h9 (by decide)) (n_X2_0 l E hE (fun i9 h9 => hg5 i9 (by omega)) (fun i9 h9 => hr18 i9 (by omega)) (hg5 29 (by omega) 2)) mi2 hKx.2.2.2.1 dX5_init_85 rfl rfl ⟨(Nat.le_of_ble_eq_true rfl), (Nat.le_of_ble_eq_true rfl)⟩ (Nat.le_of_ble_eq_true rfl) rfl ⟨(Nat.le_of_ble_eq_true rfl), (Nat.le_of_ble_eq_true rfl)⟩ rfl rfl rfl (fun g19 r19 h19 => ?_)
  obtain ⟨eg19, er19⟩ := h19
  have hg19 : ∀ i, 31 ≤ i → ∀ j, g19 i j = 0 := fun i9 h9 j9 => (congrFun (congrFun eg19 i9) j9).trans ((up2_n _ _ (by omega)).trans (hg5 i9 (by omega) j9))
  have p19_0_1 : g19 0 1 = 1 := (congrFun (congrFun eg19 0) 1).trans ((up2_n _ _ (by decide)).trans p5_0_1)
  have p19_2_1 : g19 2 1 = 0 := (congrFun (congrFun eg19 2) 1).trans ((up2_n _ _ (by decide)).trans p5_2_1)
  have p19_0_5 : g19 0 5 = 0 := (congrFun (congrFun eg19 0) 5).trans ((up2_n _ _ (by decide)).trans p5_0_5)
  have p19_29_1 : g19 29 1 = (-1) := (congrFun (congrFun eg19 29) 1).trans (up2_s _ _ _ _)
  have p19_29_2 : g19 29 2 = 0 := (congrFun (congrFun eg19 29) 2).trans ((up2_n _ _ (by decide)).trans (hg5 29 (by omega) 2))
  have hr19 : ∀ i, 31 ≤ i → ∀ j, r19 i j = none := fun i9 h9 j9 => (congrFun (congrFun er19 i9) j9).trans ((up2r_o (by omega)).trans (hr18 i9 (by omega) j9))
  have q19_0_0 : r19 0 0 = some 1 := (congrFun (congrFun er19 0) 0).trans ((up2r_o (by decide)).trans q18_0_0)
  have q19_2_0 : r19 2 0 = some 3 := (congrFun (congrFun er19 2) 0).trans ((up2r_o (by decide)).trans q18_2_0)
  have q19_0_2 : r19 0 2 = some 2 := (congrFun (congrFun er19 0) 2).trans ((up2r_o (by decide)).trans q18_0_2)
  have q19_0_7 : r19 0 7 = some 4 := (congrFun (congrFun er19 0) 7).trans ((up2r_o (by decide)).trans q18_0_7)
  have q19_5_0 : r19 5 0 = some 6 := (congrFun (congrFun er19 5) 0).trans ((up2r_o (by decide)).trans q18_5_0)
  have q19_5_1 : r19 5 1 = some 7 := (congrFun (congrFun er19 5) 1).trans ((up2r_o (by decide)).trans q18_5_1)
  have q19_1_0 : r19 1 0 = some 5 := (congrFun (congrFun er19 1) 0).trans ((up2r_o (by decide)).trans q18_1_0)
  refine gk_aast (pc' := 89) (q := (RX2, TX2, 3)) cx 0 dX5_init_88 kq4 (Nat.le_of_ble_eq_true rfl) (ltn rfl) kq29 (ltn rfl) (ltn rfl) rfl rfl (vpi (k := 0) (a := 1) (ltn rfl) rfl rfl) (cli (k := 0) (a := 1) (ltn rfl) rfl) rfl ?_
  obtain ⟨r20, er20⟩ : ∃ y : RG, y = (up2r r19 4 0 (some 29)) := ⟨_, rfl⟩
  refine gk_r er20.symm ?_
  have hr20 : ∀ i, 31 ≤ i → ∀ j, r20 i j = none := fun i9 h9 j9 => (congrFun (congrFun er20 i9) j9).trans ((up2r_o (by omega)).trans (hr19 i9 (by omega) j9))
  have q20_0_0 : r20 0 0 = some 1 := (congrFun (congrFun er20 0) 0).trans ((up2r_o (by decide)).trans q19_0_0)
  have q20_2_0 : r20 2 0 = some 3 := (congrFun (congrFun er20 2) 0).trans ((up2r_o (by decide)).trans q19_2_0)
  have q20_0_2 : r20 0 2 = some 2 := (congrFun (congrFun er20 0) 2).trans ((up2r_o (by decide)).trans q19_0_2)
  have q20_0_7 : r20 0 7 = some 4 := (congrFun (congrFun er20 0) 7).trans ((up2r_o (by decide)).trans q19_0_7)
  have q20_5_0 : r20 5 0 = some 6 := (congrFun (congrFun er20 5) 0).trans ((up2r_o (by decide)).trans q19_5_0)
  have q20_5_1 : r20 5 1 = some 7 := (congrFun (congrFun er20 5) 1).trans ((up2r_o (by decide)).trans q19_5_1)
  have q20_1_0 : r20 1 0 = some 5 := (congrFun (congrFun er20 1) 0).trans ((up2r_o (by decide)).trans q19_1_0)
  refine gk_iinc (pc' := 92) cx 1 dX5_init_89 rfl rfl (ltn rfl) [(1, .int 1), (0, .ref (E.2.1 0))] rfl rfl ?_
  refine gk_goto cx 71 dX5_init_92 rfl ?_
  refine gk_iload_n (pc' := 72) cx dX5_init_71 rfl rfl ?_
  refine gk_iconst (pc' := 73) cx 4 dX5_init_72 rfl rfl ?_
  refine gk_icmp_ge (pc' := 76) cx 95 dX5_init_73 rfl rfl (fun hh => absurd hh (by decide)) (fun _ => ?_)
  refine gk_aload_n (pc' := 77) cx dX5_init_76 rfl rfl ?_
  refine gk_getr (pc' := 80) cx 4 fX5_32 dX5_init_77 kq0 (ltn rfl) (ltn rfl) rfl q20_0_7 rfl ?_
  refine gk_iload_n (pc' := 81) cx dX5_init_80 rfl rfl ?_
  refine gk_new (pc' := 84) cx hE (by omega) (fun h9 => absurd h9 (by decide)) (ltn rfl) nwX5_30 kq31 (ltn rfl) dX5_init_81 (Nat.le_of_ble_eq_true rfl) (Nat.le_of_ble_eq_true rfl) (hg19 _ (by omega)) (hr20 _ (by omega)) rfl rfl ?_
  refine gk_dup (pc' := 85) cx rfl dX5_init_84 rfl ?_
  refine gk_ctorN (pc' := 88) cx hE hKx (by omega) (fun h9 => absurd h9 (by decide)) (n_X2_1 l E hE (fun i9 h9 => hg19 i9 (by omega)) (fun i9 h9 => hr20 i9 (by omega)) (hg19 31 (by omega) 2)) mi2 hKx.2.2.2.1 dX5_init_85 rfl rfl ⟨(Nat.le_of_ble_eq_true rfl), (Nat.le_of_ble_eq_true rfl)⟩ (Nat.le_of_ble_eq_true rfl) rfl ⟨(Nat.le_of_ble_eq_true rfl), (Nat.le_of_ble_eq_true rfl)⟩ rfl rfl rfl (fun g21 r21 h21 => ?_)
  obtain ⟨eg21, er21⟩ := h21
  have hg21 : ∀ i, 33 ≤ i → ∀ j, g21 i j = 0 := fun i9 h9 j9 => (congrFun (congrFun eg21 i9) j9).trans ((up2_n _ _ (by omega)).trans (hg19 i9 (by omega) j9))
  have p21_0_1 : g21 0 1 = 1 := (congrFun (congrFun eg21 0) 1).trans ((up2_n _ _ (by decide)).trans p19_0_1)
  have p21_2_1 : g21 2 1 = 0 := (congrFun (congrFun eg21 2) 1).trans ((up2_n _ _ (by decide)).trans p19_2_1)
  have p21_0_5 : g21 0 5 = 0 := (congrFun (congrFun eg21 0) 5).trans ((up2_n _ _ (by decide)).trans p19_0_5)
  have p21_29_1 : g21 29 1 = (-1) := (congrFun (congrFun eg21 29) 1).trans ((up2_n _ _ (by decide)).trans p19_29_1)
  have p21_29_2 : g21 29 2 = 0 := (congrFun (congrFun eg21 29) 2).trans ((up2_n _ _ (by decide)).trans p19_29_2)
  have p21_31_1 : g21 31 1 = (-1) := (congrFun (congrFun eg21 31) 1).trans (up2_s _ _ _ _)
  have p21_31_2 : g21 31 2 = 0 := (congrFun (congrFun eg21 31) 2).trans ((up2_n _ _ (by decide)).trans (hg19 31 (by omega) 2))
  have hr21 : ∀ i, 33 ≤ i → ∀ j, r21 i j = none := fun i9 h9 j9 => (congrFun (congrFun er21 i9) j9).trans ((up2r_o (by omega)).trans (hr20 i9 (by omega) j9))
  have q21_0_0 : r21 0 0 = some 1 := (congrFun (congrFun er21 0) 0).trans ((up2r_o (by decide)).trans q20_0_0)
  have q21_2_0 : r21 2 0 = some 3 := (congrFun (congrFun er21 2) 0).trans ((up2r_o (by decide)).trans q20_2_0)
  have q21_0_2 : r21 0 2 = some 2 := (congrFun (congrFun er21 0) 2).trans ((up2r_o (by decide)).trans q20_0_2)
  have q21_0_7 : r21 0 7 = some 4 := (congrFun (congrFun er21 0) 7).trans ((up2r_o (by decide)).trans q20_0_7)
  have q21_5_0 : r21 5 0 = some 6 := (congrFun (congrFun er21 5) 0).trans ((up2r_o (by decide)).trans q20_5_0)
  have q21_5_1 : r21 5 1 = some 7 := (congrFun (congrFun er21 5) 1).trans ((up2r_o (by decide)).trans q20_5_1)
  have q21_1_0 : r21 1 0 = some 5 := (congrFun (congrFun er21 1) 0).trans ((up2r_o (by decide)).trans q20_1_0)
  refine gk_aast (pc' := 89) (q := (RX2, TX2, 3)) cx 1 dX5_init_88 kq4 (Nat.le_of_ble_eq_true rfl) (ltn rfl) kq31 (ltn rfl) (ltn rfl) rfl rfl (vpi (k := 1) (a := 2) (ltn rfl) rfl rfl) (cli (k := 1) (a := 2) (ltn rfl) rfl) rfl ?_
  obtain ⟨r22, er22⟩ : ∃ y : RG, y = (up2r r21 4 1 (some 31)) := ⟨_, rfl⟩
  refine gk_r er22.symm ?_
  have hr22 : ∀ i, 33 ≤ i → ∀ j, r22 i j = none := fun i9 h9 j9 => (congrFun (congrFun er22 i9) j9).trans ((up2r_o (by omega)).trans (hr21 i9 (by omega) j9))
  have q22_0_0 : r22 0 0 = some 1 := (congrFun (congrFun er22 0) 0).trans ((up2r_o (by decide)).trans q21_0_0)
  have q22_2_0 : r22 2 0 = some 3 := (congrFun (congrFun er22 2) 0).trans ((up2r_o (by decide)).trans q21_2_0)
  have q22_0_2 : r22 0 2 = some 2 := (congrFun (congrFun er22 0) 2).trans ((up2r_o (by decide)).trans q21_0_2)
  have q22_0_7 : r22 0 7 = some 4 := (congrFun (congrFun er22 0) 7).trans ((up2r_o (by decide)).trans q21_0_7)
  have q22_5_0 : r22 5 0 = some 6 := (congrFun (congrFun er22 5) 0).trans ((up2r_o (by decide)).trans q21_5_0)
  have q22_5_1 : r22 5 1 = some 7 := (congrFun (congrFun er22 5) 1).trans ((up2r_o (by decide)).trans q21_5_1)
  have q22_1_0 : r22 1 0 = some 5 := (congrFun (congrFun er22 1) 0).trans ((up2r_o (by decide)).trans q21_1_0)
  refine gk_iinc (pc' := 92) cx 2 dX5_init_89 rfl rfl (ltn rfl) [(1, .int 2), (0, .ref (E.2.1 0))] rfl rfl ?_
  refine gk_goto cx 71 dX5_init_92 rfl ?_
  refine gk_iload_n (pc' := 72) cx dX5_init_71 rfl rfl ?_
  refine gk_iconst (pc' := 73) cx 4 dX5_init_72 rfl rfl ?_
  refine gk_icmp_ge (pc' := 76) cx 95 dX5_init_73 rfl rfl (fun hh => absurd hh (by decide)) (fun _ => ?_)
  refine gk_aload_n (pc' := 77) cx dX5_init_76 rfl rfl ?_
  refine gk_getr (pc' := 80) cx 4 fX5_32 dX5_init_77 kq0 (ltn rfl) (ltn rfl) rfl q22_0_7 rfl ?_
  refine gk_iload_n (pc' := 81) cx dX5_init_80 rfl rfl ?_
  refine gk_new (pc' := 84) cx hE (by omega) (fun h9 => absurd h9 (by decide)) (ltn rfl) nwX5_30 kq33 (ltn rfl) dX5_init_81 (Nat.le_of_ble_eq_true rfl) (Nat.le_of_ble_eq_true rfl) (hg21 _ (by omega)) (hr22 _ (by omega)) rfl rfl ?_
  refine gk_dup (pc' := 85) cx rfl dX5_init_84 rfl ?_
  refine gk_ctorN (pc' := 88) cx hE hKx (by omega) (fun h9 => absurd h9 (by decide)) (n_X2_2 l E hE (fun i9 h9 => hg21 i9 (by omega)) (fun i9 h9 => hr22 i9 (by omega)) (hg21 33 (by omega) 2)) mi2 hKx.2.2.2.1 dX5_init_85 rfl rfl ⟨(Nat.le_of_ble_eq_true rfl), (Nat.le_of_ble_eq_true rfl)⟩ (Nat.le_of_ble_eq_true rfl) rfl ⟨(Nat.le_of_ble_eq_true rfl), (Nat.le_of_ble_eq_true rfl)⟩ rfl rfl rfl (fun g23 r23 h23 => ?_)
  obtain ⟨eg23, er23⟩ := h23
  have hg23 : ∀ i, 35 ≤ i → ∀ j, g23 i j = 0 := fun i9 h9 j9 => (congrFun (congrFun eg23 i9) j9).trans ((up2_n _ _ (by omega)).trans (hg21 i9 (by omega) j9))
  have p23_0_1 : g23 0 1 = 1 := (congrFun (congrFun eg23 0) 1).trans ((up2_n _ _ (by decide)).trans p21_0_1)
  have p23_2_1 : g23 2 1 = 0 := (congrFun (congrFun eg23 2) 1).trans ((up2_n _ _ (by decide)).trans p21_2_1)
  have p23_0_5 : g23 0 5 = 0 := (congrFun (congrFun eg23 0) 5).trans ((up2_n _ _ (by decide)).trans p21_0_5)
  have p23_29_1 : g23 29 1 = (-1) := (congrFun (congrFun eg23 29) 1).trans ((up2_n _ _ (by decide)).trans p21_29_1)
  have p23_29_2 : g23 29 2 = 0 := (congrFun (congrFun eg23 29) 2).trans ((up2_n _ _ (by decide)).trans p21_29_2)
  have p23_31_1 : g23 31 1 = (-1) := (congrFun (congrFun eg23 31) 1).trans ((up2_n _ _ (by decide)).trans p21_31_1)
  have p23_31_2 : g23 31 2 = 0 := (congrFun (congrFun eg23 31) 2).trans ((up2_n _ _ (by decide)).trans p21_31_2)
  have p23_33_1 : g23 33 1 = (-1) := (congrFun (congrFun eg23 33) 1).trans (up2_s _ _ _ _)
  have p23_33_2 : g23 33 2 = 0 := (congrFun (congrFun eg23 33) 2).trans ((up2_n _ _ (by decide)).trans (hg21 33 (by omega) 2))
  have hr23 : ∀ i, 35 ≤ i → ∀ j, r23 i j = none := fun i9 h9 j9 => (congrFun (congrFun er23 i9) j9).trans ((up2r_o (by omega)).trans (hr22 i9 (by omega) j9))
  have q23_0_0 : r23 0 0 = some 1 := (congrFun (congrFun er23 0) 0).trans ((up2r_o (by decide)).trans q22_0_0)
  have q23_2_0 : r23 2 0 = some 3 := (congrFun (congrFun er23 2) 0).trans ((up2r_o (by decide)).trans q22_2_0)
  have q23_0_2 : r23 0 2 = some 2 := (congrFun (congrFun er23 0) 2).trans ((up2r_o (by decide)).trans q22_0_2)
  have q23_0_7 : r23 0 7 = some 4 := (congrFun (congrFun er23 0) 7).trans ((up2r_o (by decide)).trans q22_0_7)
  have q23_5_0 : r23 5 0 = some 6 := (congrFun (congrFun er23 5) 0).trans ((up2r_o (by decide)).trans q22_5_0)
  have q23_5_1 : r23 5 1 = some 7 := (congrFun (congrFun er23 5) 1).trans ((up2r_o (by decide)).trans q22_5_1)
  have q23_1_0 : r23 1 0 = some 5 := (congrFun (congrFun er23 1) 0).trans ((up2r_o (by decide)).trans q22_1_0)
  refine gk_aast (pc' := 89) (q := (RX2, TX2, 3)) cx 2 dX5_init_88 kq4 (Nat.le_of_ble_eq_true rfl) (ltn rfl) kq33 (ltn rfl) (ltn rfl) rfl rfl (vpi (k := 2) (a := 3) (ltn rfl) rfl rfl) (cli (k := 2) (a := 3) (ltn rfl) rfl) rfl ?_
  obtain ⟨r24, er24⟩ : ∃ y : RG, y = (up2r r23 4 2 (some 33)) := ⟨_, rfl⟩
  refine gk_r er24.symm ?_
  have hr24 : ∀ i, 35 ≤ i → ∀ j, r24 i j = none := fun i9 h9 j9 => (congrFun (congrFun er24 i9) j9).trans ((up2r_o (by omega)).trans (hr23 i9 (by omega) j9))
  have q24_0_0 : r24 0 0 = some 1 := (congrFun (congrFun er24 0) 0).trans ((up2r_o (by decide)).trans q23_0_0)
  have q24_2_0 : r24 2 0 = some 3 := (congrFun (congrFun er24 2) 0).trans ((up2r_o (by decide)).trans q23_2_0)
  have q24_0_2 : r24 0 2 = some 2 := (congrFun (congrFun er24 0) 2).trans ((up2r_o (by decide)).trans q23_0_2)
  have q24_0_7 : r24 0 7 = some 4 := (congrFun (congrFun er24 0) 7).trans ((up2r_o (by decide)).trans q23_0_7)
  have q24_5_0 : r24 5 0 = some 6 := (congrFun (congrFun er24 5) 0).trans ((up2r_o (by decide)).trans q23_5_0)
  have q24_5_1 : r24 5 1 = some 7 := (congrFun (congrFun er24 5) 1).trans ((up2r_o (by decide)).trans q23_5_1)
  have q24_1_0 : r24 1 0 = some 5 := (congrFun (congrFun er24 1) 0).trans ((up2r_o (by decide)).trans q23_1_0)
  refine gk_iinc (pc' := 92) cx 3 dX5_init_89 rfl rfl (ltn rfl) [(1, .int 3), (0, .ref (E.2.1 0))] rfl rfl ?_
  refine gk_goto cx 71 dX5_init_92 rfl ?_
  refine gk_iload_n (pc' := 72) cx dX5_init_71 rfl rfl ?_
  refine gk_iconst (pc' := 73) cx 4 dX5_init_72 rfl rfl ?_
  refine gk_icmp_ge (pc' := 76) cx 95 dX5_init_73 rfl rfl (fun hh => absurd hh (by decide)) (fun _ => ?_)
  refine gk_aload_n (pc' := 77) cx dX5_init_76 rfl rfl ?_
  refine gk_getr (pc' := 80) cx 4 fX5_32 dX5_init_77 kq0 (ltn rfl) (ltn rfl) rfl q24_0_7 rfl ?_
  refine gk_iload_n (pc' := 81) cx dX5_init_80 rfl rfl ?_
  refine gk_new (pc' := 84) cx hE (by omega) (fun h9 => absurd h9 (by decide)) (ltn rfl) nwX5_30 kq35 (ltn rfl) dX5_init_81 (Nat.le_of_ble_eq_true rfl) (Nat.le_of_ble_eq_true rfl) (hg23 _ (by omega)) (hr24 _ (by omega)) rfl rfl ?_
  refine gk_dup (pc' := 85) cx rfl dX5_init_84 rfl ?_
  refine gk_ctorN (pc' := 88) cx hE hKx (by omega) (fun h9 => absurd h9 (by decide)) (n_X2_3 l E hE (fun i9 h9 => hg23 i9 (by omega)) (fun i9 h9 => hr24 i9 (by omega)) (hg23 35 (by omega) 2)) mi2 hKx.2.2.2.1 dX5_init_85 rfl rfl ⟨(Nat.le_of_ble_eq_true rfl), (Nat.le_of_ble_eq_true rfl)⟩ (Nat.le_of_ble_eq_true rfl) rfl ⟨(Nat.le_of_ble_eq_true rfl), (Nat.le_of_ble_eq_true rfl)⟩ rfl rfl rfl (fun g25 r25 h25 => ?_)
  obtain ⟨eg25, er25⟩ := h25
  have hg25 : ∀ i, 37 ≤ i → ∀ j, g25 i j = 0 := fun i9 h9 j9 => (congrFun (congrFun eg25 i9) j9).trans ((up2_n _ _ (by omega)).trans (hg23 i9 (by omega) j9))
  have p25_0_1 : g25 0 1 = 1 := (congrFun (congrFun eg25 0) 1).trans ((up2_n _ _ (by decide)).trans p23_0_1)
  have p25_2_1 : g25 2 1 = 0 := (congrFun (congrFun eg25 2) 1).trans ((up2_n _ _ (by decide)).trans p23_2_1)
  have p25_0_5 : g25 0 5 = 0 := (congrFun (congrFun eg25 0) 5).trans ((up2_n _ _ (by decide)).trans p23_0_5)
  have p25_29_1 : g25 29 1 = (-1) := (congrFun (congrFun eg25 29) 1).trans ((up2_n _ _ (by decide)).trans p23_29_1)
  have p25_29_2 : g25 29 2 = 0 := (congrFun (congrFun eg25 29) 2).trans ((up2_n _ _ (by decide)).trans p23_29_2)
  have p25_31_1 : g25 31 1 = (-1) := (congrFun (congrFun eg25 31) 1).trans ((up2_n _ _ (by decide)).trans p23_31_1)
  have p25_31_2 : g25 31 2 = 0 := (congrFun (congrFun eg25 31) 2).trans ((up2_n _ _ (by decide)).trans p23_31_2)
  have p25_33_1 : g25 33 1 = (-1) := (congrFun (congrFun eg25 33) 1).trans ((up2_n _ _ (by decide)).trans p23_33_1)
  have p25_33_2 : g25 33 2 = 0 := (congrFun (congrFun eg25 33) 2).trans ((up2_n _ _ (by decide)).trans p23_33_2)
  have p25_35_1 : g25 35 1 = (-1) := (congrFun (congrFun eg25 35) 1).trans (up2_s _ _ _ _)
  have p25_35_2 : g25 35 2 = 0 := (congrFun (congrFun eg25 35) 2).trans ((up2_n _ _ (by decide)).trans (hg23 35 (by omega) 2))
  have hr25 : ∀ i, 37 ≤ i → ∀ j, r25 i j = none := fun i9 h9 j9 => (congrFun (congrFun er25 i9) j9).trans ((up2r_o (by omega)).trans (hr24 i9 (by omega) j9))
  have q25_0_0 : r25 0 0 = some 1 := (congrFun (congrFun er25 0) 0).trans ((up2r_o (by decide)).trans q24_0_0)
  have q25_2_0 : r25 2 0 = some 3 := (congrFun (congrFun er25 2) 0).trans ((up2r_o (by decide)).trans q24_2_0)
  have q25_0_2 : r25 0 2 = some 2 := (congrFun (congrFun er25 0) 2).trans ((up2r_o (by decide)).trans q24_0_2)
  have q25_0_7 : r25 0 7 = some 4 := (congrFun (congrFun er25 0) 7).trans ((up2r_o (by decide)).trans q24_0_7)
  have q25_5_0 : r25 5 0 = some 6 := (congrFun (congrFun er25 5) 0).trans ((up2r_o (by decide)).trans q24_5_0)
  have q25_5_1 : r25 5 1 = some 7 := (congrFun (congrFun er25 5) 1).trans ((up2r_o (by decide)).trans q24_5_1)
  have q25_1_0 : r25 1 0 = some 5 := (congrFun (congrFun er25 1) 0).trans ((up2r_o (by decide)).trans q24_1_0)
  refine gk_aast (pc' := 89) (q := (RX2, TX2, 3)) cx 3 dX5_init_88 kq4 (Nat.le_of_ble_eq_true rfl) (ltn rfl) kq35 (ltn rfl) (ltn rfl) rfl rfl (vpi (k := 3) (a := 4) (ltn rfl) rfl rfl) (cli (k := 3) (a := 4) (ltn rfl) rfl) rfl ?_
  obtain ⟨r26, er26⟩ : ∃ y : RG, y = (up2r r25 4 3 (some 35)) := ⟨_, rfl⟩
  refine gk_r er26.symm ?_
  have hr26 : ∀ i, 37 ≤ i → ∀ j, r26 i j = none := fun i9 h9 j9 => (congrFun (congrFun er26 i9) j9).trans ((up2r_o (by omega)).trans (hr25 i9 (by omega) j9))
  have q26_0_0 : r26 0 0 = some 1 := (congrFun (congrFun er26 0) 0).trans ((up2r_o (by decide)).trans q25_0_0)
  have q26_2_0 : r26 2 0 = some 3 := (congrFun (congrFun er26 2) 0).trans ((up2r_o (by decide)).trans q25_2_0)
  have q26_0_2 : r26 0 2 = some 2 := (congrFun (congrFun er26 0) 2).trans ((up2r_o (by decide)).trans q25_0_2)
  have q26_0_7 : r26 0 7 = some 4 := (congrFun (congrFun er26 0) 7).trans ((up2r_o (by decide)).trans q25_0_7)
  have q26_5_0 : r26 5 0 = some 6 := (congrFun (congrFun er26 5) 0).trans ((up2r_o (by decide)).trans q25_5_0)
  have q26_5_1 : r26 5 1 = some 7 := (congrFun (congrFun er26 5) 1).trans ((up2r_o (by decide)).trans q25_5_1)
  have q26_1_0 : r26 1 0 = some 5 := (congrFun (congrFun er26 1) 0).trans ((up2r_o (by decide)).trans q25_1_0)
  refine gk_iinc (pc' := 92) cx 4 dX5_init_89 rfl rfl (ltn rfl) [(1, .int 4), (0, .ref (E.2.1 0))] rfl rfl ?_
  refine gk_goto cx 71 dX5_init_92 rfl ?_
  refine gk_iload_n (pc' := 72) cx dX5_init_71 rfl rfl ?_
  refine gk_iconst (pc' := 73) cx 4 dX5_init_72 rfl rfl ?_
  refine gk_icmp_ge (pc' := 76) cx 95 dX5_init_73 rfl rfl (fun _ => ?_) (fun hh => absurd hh (by decide))
  refine gk_iconst (pc' := 96) cx 0 dX5_init_95 rfl rfl ?_
  refine gk_istore_n (pc' := 97) cx dX5_init_96 (ltn rfl) [(1, .int 0), (0, .ref (E.2.1 0))] rfl rfl ?_
  refine gk_sub [0, 1] [(1, .int (nI 0)), (0, .ref (E.2.1 0))] rfl ?_
  refine gk_w (k1 := 37) (c1 := 36) (s1 := 1591) rfl rfl rfl ?_
  refine init_app (g := g25) ⟨⟨(Nat.le_of_ble_eq_true rfl), (Nat.le_of_ble_eq_true rfl)⟩, ⟨(Nat.le_of_ble_eq_true rfl), (Nat.le_of_ble_eq_true rfl)⟩, ⟨(Nat.le_of_ble_eq_true rfl), (Nat.le_of_ble_eq_true rfl)⟩, (Nat.le_of_ble_eq_true rfl), (Nat.le_of_ble_eq_true rfl)⟩ q26_0_2 q26_2_0 cx 37 0 g25 (by omega) (p25_2_1.trans rfl) (fun q9 h9 => absurd h9 (Nat.not_lt_zero q9)) (fun _ _ _ => rfl) (fun g27 b27 y27 o27 => ?_)
  have hg27 : ∀ i, 37 ≤ i → ∀ j, g27 i j = 0 := fun i9 h9 j9 => (o27 i9 j9 (by omega)).trans (hg25 i9 (by omega) j9)
  have p27_0_1 : g27 0 1 = 1 := (o27 0 1 (by omega)).trans p25_0_1
  have p27_0_5 : g27 0 5 = 0 := (o27 0 5 (by omega)).trans p25_0_5
  have p27_29_1 : g27 29 1 = (-1) := (o27 29 1 (by omega)).trans p25_29_1
  have p27_29_2 : g27 29 2 = 0 := (o27 29 2 (by omega)).trans p25_29_2
  have p27_31_1 : g27 31 1 = (-1) := (o27 31 1 (by omega)).trans p25_31_1
  have p27_31_2 : g27 31 2 = 0 := (o27 31 2 (by omega)).trans p25_31_2
  have p27_33_1 : g27 33 1 = (-1) := (o27 33 1 (by omega)).trans p25_33_1
  have p27_33_2 : g27 33 2 = 0 := (o27 33 2 (by omega)).trans p25_33_2
  have p27_35_1 : g27 35 1 = (-1) := (o27 35 1 (by omega)).trans p25_35_1
  have p27_35_2 : g27 35 2 = 0 := (o27 35 2 (by omega)).trans p25_35_2
  refine gk_aload_n (pc' := 127) cx dX5_init_126 rfl rfl ?_
  refine gk_getr (pc' := 130) cx 2 fX5_22 dX5_init_127 kq0 (ltn rfl) (ltn rfl) rfl q26_0_2 rfl ?_
  refine gk_aload_n (pc' := 131) cx dX5_init_130 rfl rfl ?_
  refine gk_getr (pc' := 134) cx 1 fX5_11 dX5_init_131 kq0 (ltn rfl) (ltn rfl) rfl q26_0_0 rfl ?_
  refine gk_iconst (pc' := 135) cx 0 dX5_init_134 rfl rfl ?_
  refine gk_aaldk (pc' := 136) cx 0 5 dX5_init_135 kq1 (Nat.le_of_ble_eq_true rfl) (ltn rfl) (ltn rfl) (vpi (k := 0) (a := 1) (ltn rfl) rfl rfl) (cli (k := 0) (a := 1) (ltn rfl) rfl) q26_1_0 rfl ?_
  refine gk_cVi (pc' := 139) cx (Nat.le_of_ble_eq_true rfl) (c_X0_read l E (Nat.le_of_ble_eq_true rfl) (t := 0) (sz := 37) (by omega) (by omega) ⟨q26_2_0, q26_5_0, q26_5_1⟩ b27) mX0_read lX5_54 dX5_init_136 kq2 (ltn rfl) (ltn rfl) rfl rfl rfl ⟨(Nat.le_of_ble_eq_true rfl), (Nat.le_of_ble_eq_true rfl)⟩ (Nat.le_of_ble_eq_true rfl) rfl ⟨(Nat.le_of_ble_eq_true rfl), (Nat.le_of_ble_eq_true rfl)⟩ ?_
  obtain ⟨g28, eg28⟩ : ∃ y : IG, y = rdG g27 0 37 := ⟨_, rfl⟩
  refine gk_g eg28.symm ?_
  have w28 : ∀ i j, ¬ ((i = 2 ∧ 2 ≤ j ∧ j ≤ 5) ∨ i = 5 ∨ i = 6 ∨ i = 7) → g28 i j = g27 i j := fun i9 j9 h9 => (congrFun (congrFun eg28 i9) j9).trans (rdG_fr (t := 0) (by omega) (by omega))
  have hg28 : ∀ i, 37 ≤ i → ∀ j, g28 i j = 0 := fun i9 h9 j9 => (w28 i9 j9 (by omega)).trans (hg27 i9 h9 j9)
  have p28_0_1 : g28 0 1 = 1 := (w28 0 1 (by omega)).trans p27_0_1
  have p28_0_5 : g28 0 5 = 0 := (w28 0 5 (by omega)).trans p27_0_5
  have p28_29_1 : g28 29 1 = (-1) := (w28 29 1 (by omega)).trans p27_29_1
  have p28_29_2 : g28 29 2 = 0 := (w28 29 2 (by omega)).trans p27_29_2
  have p28_31_1 : g28 31 1 = (-1) := (w28 31 1 (by omega)).trans p27_31_1
  have p28_31_2 : g28 31 2 = 0 := (w28 31 2 (by omega)).trans p27_31_2
  have p28_33_1 : g28 33 1 = (-1) := (w28 33 1 (by omega)).trans p27_33_1
  have p28_33_2 : g28 33 2 = 0 := (w28 33 2 (by omega)).trans p27_33_2
  have p28_35_1 : g28 35 1 = (-1) := (w28 35 1 (by omega)).trans p27_35_1
  have p28_35_2 : g28 35 2 = 0 := (w28 35 2 (by omega)).trans p27_35_2
  have x28 : TxM g28 0 (M0) := by
    rw [eg28]
    exact TxM_0 y27
  obtain ⟨r29, er29⟩ : ∃ y : RG, y = (up2r r26 2 6 (some 5)) := ⟨_, rfl⟩
  refine gk_r er29.symm ?_
  have hr29 : ∀ i, 37 ≤ i → ∀ j, r29 i j = none := fun i9 h9 j9 => (congrFun (congrFun er29 i9) j9).trans ((up2r_o (by omega)).trans (hr26 i9 (by omega) j9))
  have q29_0_0 : r29 0 0 = some 1 := (congrFun (congrFun er29 0) 0).trans ((up2r_o (by decide)).trans q26_0_0)
  have q29_2_0 : r29 2 0 = some 3 := (congrFun (congrFun er29 2) 0).trans ((up2r_o (by decide)).trans q26_2_0)
  have q29_0_2 : r29 0 2 = some 2 := (congrFun (congrFun er29 0) 2).trans ((up2r_o (by decide)).trans q26_0_2)
  have q29_0_7 : r29 0 7 = some 4 := (congrFun (congrFun er29 0) 7).trans ((up2r_o (by decide)).trans q26_0_7)
  have q29_5_0 : r29 5 0 = some 6 := (congrFun (congrFun er29 5) 0).trans ((up2r_o (by decide)).trans q26_5_0)
  have q29_5_1 : r29 5 1 = some 7 := (congrFun (congrFun er29 5) 1).trans ((up2r_o (by decide)).trans q26_5_1)
  have q29_1_0 : r29 1 0 = some 5 := (congrFun (congrFun er29 1) 0).trans ((up2r_o (by decide)).trans q26_1_0)
  refine gk_pop (pc' := 140) cx rfl dX5_init_139 rfl ?_
  refine gk_aload_n (pc' := 141) cx dX5_init_140 rfl rfl ?_
  refine gk_getr (pc' := 144) cx 2 fX5_22 dX5_init_141 kq0 (ltn rfl) (ltn rfl) rfl q29_0_2 rfl ?_
  refine gk_cVu (pc' := 147) cx (Nat.le_of_ble_eq_true rfl) (c_X0_empty l E (Nat.le_of_ble_eq_true rfl)) mX0_empty lX5_58 dX5_init_144 kq2 (ltn rfl) (ltn rfl) rfl rfl rfl ⟨(Nat.le_of_ble_eq_true rfl), (Nat.le_of_ble_eq_true rfl)⟩ (Nat.le_of_ble_eq_true rfl) rfl ⟨(Nat.le_of_ble_eq_true rfl), (Nat.le_of_ble_eq_true rfl)⟩ ?_
  obtain ⟨g30, eg30⟩ : ∃ y : IG, y = (up2 g28 2 1 0) := ⟨_, rfl⟩
  refine gk_g eg30.symm ?_
  have hg30 : ∀ i, 37 ≤ i → ∀ j, g30 i j = 0 := fun i9 h9 j9 => (congrFun (congrFun eg30 i9) j9).trans ((up2_n _ _ (by omega)).trans (hg28 i9 (by omega) j9))
  have p30_0_1 : g30 0 1 = 1 := (congrFun (congrFun eg30 0) 1).trans ((up2_n _ _ (by decide)).trans p28_0_1)
  have p30_0_5 : g30 0 5 = 0 := (congrFun (congrFun eg30 0) 5).trans ((up2_n _ _ (by decide)).trans p28_0_5)
  have p30_29_1 : g30 29 1 = (-1) := (congrFun (congrFun eg30 29) 1).trans ((up2_n _ _ (by decide)).trans p28_29_1)
  have p30_29_2 : g30 29 2 = 0 := (congrFun (congrFun eg30 29) 2).trans ((up2_n _ _ (by decide)).trans p28_29_2)
  have p30_31_1 : g30 31 1 = (-1) := (congrFun (congrFun eg30 31) 1).trans ((up2_n _ _ (by decide)).trans p28_31_1)
  have p30_31_2 : g30 31 2 = 0 := (congrFun (congrFun eg30 31) 2).trans ((up2_n _ _ (by decide)).trans p28_31_2)
  have p30_33_1 : g30 33 1 = (-1) := (congrFun (congrFun eg30 33) 1).trans ((up2_n _ _ (by decide)).trans p28_33_1)
  have p30_33_2 : g30 33 2 = 0 := (congrFun (congrFun eg30 33) 2).trans ((up2_n _ _ (by decide)).trans p28_33_2)
  have p30_35_1 : g30 35 1 = (-1) := (congrFun (congrFun eg30 35) 1).trans ((up2_n _ _ (by decide)).trans p28_35_1)
  have p30_35_2 : g30 35 2 = 0 := (congrFun (congrFun eg30 35) 2).trans ((up2_n _ _ (by decide)).trans p28_35_2)
  have p30_2_1 : g30 2 1 = 0 := (congrFun (congrFun eg30 2) 1).trans (up2_s _ _ _ _)
  have x30 : TxM g30 0 (M0) := x28.up (funext fun q => (congrFun (congrFun eg30 _) q).trans (up2_n _ _ (by omega))) (funext fun q => (congrFun (congrFun eg30 _) q).trans (up2_n _ _ (by omega)))
  refine gk_aload_n (pc' := 148) cx dX5_init_147 rfl rfl ?_
  refine gk_new (pc' := 151) cx hE (by omega) (fun h9 => absurd h9 (by decide)) (ltn rfl) nwX5_61 kq37 (ltn rfl) dX5_init_148 (Nat.le_of_ble_eq_true rfl) (Nat.le_of_ble_eq_true rfl) (hg30 _ (by omega)) (hr29 _ (by omega)) rfl rfl ?_
  refine gk_dup (pc' := 152) cx rfl dX5_init_151 rfl ?_
  refine gk_aload_n (pc' := 153) cx dX5_init_152 rfl rfl ?_
  refine gk_getr (pc' := 156) cx 1 fX5_11 dX5_init_153 kq0 (ltn rfl) (ltn rfl) rfl q29_0_0 rfl ?_
  refine gk_ctor (pc' := 159) cx hE hKx (by omega) (fun h9 => absurd h9 (by decide)) (n_X1_37 l E hE (fun i9 h9 => hg30 i9 (by omega)) (fun i9 h9 => hr29 i9 (by omega))) mi1 lX5_63 dX5_init_156 rfl rfl ⟨(Nat.le_of_ble_eq_true rfl), (Nat.le_of_ble_eq_true rfl)⟩ (Nat.le_of_ble_eq_true rfl) rfl ⟨(Nat.le_of_ble_eq_true rfl), (Nat.le_of_ble_eq_true rfl)⟩ rfl rfl rfl (fun g31 r31 h31 => ?_)
  obtain ⟨s31, m31, u31, v31, w31, o31, er31⟩ := h31
  have hg31 : ∀ i, 50 ≤ i → ∀ j, g31 i j = 0 := fun i9 h9 j9 => (o31 i9 j9 (by omega)).trans (hg30 i9 (by omega) j9)
  have p31_0_1 : g31 0 1 = 1 := (o31 0 1 (by omega)).trans p30_0_1
  have p31_0_5 : g31 0 5 = 0 := (o31 0 5 (by omega)).trans p30_0_5
  have p31_29_1 : g31 29 1 = (-1) := (o31 29 1 (by omega)).trans p30_29_1
  have p31_29_2 : g31 29 2 = 0 := (o31 29 2 (by omega)).trans p30_29_2
  have p31_31_1 : g31 31 1 = (-1) := (o31 31 1 (by omega)).trans p30_31_1
  have p31_31_2 : g31 31 2 = 0 := (o31 31 2 (by omega)).trans p30_31_2
  have p31_33_1 : g31 33 1 = (-1) := (o31 33 1 (by omega)).trans p30_33_1
  have p31_33_2 : g31 33 2 = 0 := (o31 33 2 (by omega)).trans p30_33_2
  have p31_35_1 : g31 35 1 = (-1) := (o31 35 1 (by omega)).trans p30_35_1
  have p31_35_2 : g31 35 2 = 0 := (o31 35 2 (by omega)).trans p30_35_2
  have p31_2_1 : g31 2 1 = 0 := (o31 2 1 (by omega)).trans p30_2_1
  have x31 : TxM g31 0 (M0) := x30.up (funext fun q => o31 _ q (by omega)) (funext fun q => o31 _ q (by omega))
  have hr31 : ∀ i, 50 ≤ i → ∀ j, r31 i j = none := fun i9 h9 j9 => (congrFun (congrFun er31 i9) j9).trans ((up2r_o (by omega)).trans ((up2r_o (by omega)).trans ((mnr_r 11 i9 j9).trans ((if_neg (by omega)).trans (hr29 i9 (by omega) j9)))))
  have q31_0_0 : r31 0 0 = some 1 := (congrFun (congrFun er31 0) 0).trans ((up2r_o (by decide)).trans ((up2r_o (by decide)).trans ((mnr_r 11 0 0).trans ((if_neg (by omega)).trans q29_0_0))))
  have q31_2_0 : r31 2 0 = some 3 := (congrFun (congrFun er31 2) 0).trans ((up2r_o (by decide)).trans ((up2r_o (by decide)).trans ((mnr_r 11 2 0).trans ((if_neg (by omega)).trans q29_2_0))))
  have q31_0_2 : r31 0 2 = some 2 := (congrFun (congrFun er31 0) 2).trans ((up2r_o (by decide)).trans ((up2r_o (by decide)).trans ((mnr_r 11 0 2).trans ((if_neg (by omega)).trans q29_0_2))))
  have q31_0_7 : r31 0 7 = some 4 := (congrFun (congrFun er31 0) 7).trans ((up2r_o (by decide)).trans ((up2r_o (by decide)).trans ((mnr_r 11 0 7).trans ((if_neg (by omega)).trans q29_0_7))))
  have q31_5_0 : r31 5 0 = some 6 := (congrFun (congrFun er31 5) 0).trans ((up2r_o (by decide)).trans ((up2r_o (by decide)).trans ((mnr_r 11 5 0).trans ((if_neg (by omega)).trans q29_5_0))))
  have q31_5_1 : r31 5 1 = some 7 := (congrFun (congrFun er31 5) 1).trans ((up2r_o (by decide)).trans ((up2r_o (by decide)).trans ((mnr_r 11 5 1).trans ((if_neg (by omega)).trans q29_5_1))))
  have q31_1_0 : r31 1 0 = some 5 := (congrFun (congrFun er31 1) 0).trans ((up2r_o (by decide)).trans ((up2r_o (by decide)).trans ((mnr_r 11 1 0).trans ((if_neg (by omega)).trans q29_1_0))))
  refine gk_putF (pc' := 162) (ty := .object "AsLastTime$Salon") cx hin fX5_66 dX5_init_159 kq0 (ltn rfl) (ltn rfl) rfl rfl rfl (by decide +kernel) ⟨rfl, rfl⟩ rfl ?_
  obtain ⟨r32, er32⟩ : ∃ y : RG, y = (up2r r31 0 3 (some 37)) := ⟨_, rfl⟩
  refine gk_r er32.symm ?_
  have hr32 : ∀ i, 50 ≤ i → ∀ j, r32 i j = none := fun i9 h9 j9 => (congrFun (congrFun er32 i9) j9).trans ((up2r_o (by omega)).trans (hr31 i9 (by omega) j9))
  have q32_0_0 : r32 0 0 = some 1 := (congrFun (congrFun er32 0) 0).trans ((up2r_o (by decide)).trans q31_0_0)
  have q32_2_0 : r32 2 0 = some 3 := (congrFun (congrFun er32 2) 0).trans ((up2r_o (by decide)).trans q31_2_0)
  have q32_0_2 : r32 0 2 = some 2 := (congrFun (congrFun er32 0) 2).trans ((up2r_o (by decide)).trans q31_0_2)
  have q32_0_7 : r32 0 7 = some 4 := (congrFun (congrFun er32 0) 7).trans ((up2r_o (by decide)).trans q31_0_7)
  have q32_5_0 : r32 5 0 = some 6 := (congrFun (congrFun er32 5) 0).trans ((up2r_o (by decide)).trans q31_5_0)
  have q32_5_1 : r32 5 1 = some 7 := (congrFun (congrFun er32 5) 1).trans ((up2r_o (by decide)).trans q31_5_1)
  have q32_1_0 : r32 1 0 = some 5 := (congrFun (congrFun er32 1) 0).trans ((up2r_o (by decide)).trans q31_1_0)
  have q32_0_3 : r32 0 3 = some 37 := by rw [er32]; rfl
  refine gk_aload_n (pc' := 163) cx dX5_init_162 rfl rfl ?_
  refine gk_new (pc' := 166) cx hE (by omega) (fun h9 => absurd h9 (by decide)) (ltn rfl) nwX5_61 kq50 (ltn rfl) dX5_init_163 (Nat.le_of_ble_eq_true rfl) (Nat.le_of_ble_eq_true rfl) (hg31 _ (by omega)) (hr32 _ (by omega)) rfl rfl ?_
  refine gk_dup (pc' := 167) cx rfl dX5_init_166 rfl ?_
  refine gk_aload_n (pc' := 168) cx dX5_init_167 rfl rfl ?_
  refine gk_getr (pc' := 171) cx 1 fX5_11 dX5_init_168 kq0 (ltn rfl) (ltn rfl) rfl q32_0_0 rfl ?_
  refine gk_ctor (pc' := 174) cx hE hKx (by omega) (fun h9 => absurd h9 (by decide)) (n_X1_50 l E hE (fun i9 h9 => hg31 i9 (by omega)) (fun i9 h9 => hr32 i9 (by omega))) mi1 lX5_63 dX5_init_171 rfl rfl ⟨(Nat.le_of_ble_eq_true rfl), (Nat.le_of_ble_eq_true rfl)⟩ (Nat.le_of_ble_eq_true rfl) rfl ⟨(Nat.le_of_ble_eq_true rfl), (Nat.le_of_ble_eq_true rfl)⟩ rfl rfl rfl (fun g33 r33 h33 => ?_)
  obtain ⟨s33, m33, u33, v33, w33, o33, er33⟩ := h33
  have hg33 : ∀ i, 63 ≤ i → ∀ j, g33 i j = 0 := fun i9 h9 j9 => (o33 i9 j9 (by omega)).trans (hg31 i9 (by omega) j9)
  have p33_0_1 : g33 0 1 = 1 := (o33 0 1 (by omega)).trans p31_0_1
  have p33_0_5 : g33 0 5 = 0 := (o33 0 5 (by omega)).trans p31_0_5
  have p33_29_1 : g33 29 1 = (-1) := (o33 29 1 (by omega)).trans p31_29_1
  have p33_29_2 : g33 29 2 = 0 := (o33 29 2 (by omega)).trans p31_29_2
  have p33_31_1 : g33 31 1 = (-1) := (o33 31 1 (by omega)).trans p31_31_1
  have p33_31_2 : g33 31 2 = 0 := (o33 31 2 (by omega)).trans p31_31_2
  have p33_33_1 : g33 33 1 = (-1) := (o33 33 1 (by omega)).trans p31_33_1
  have p33_33_2 : g33 33 2 = 0 := (o33 33 2 (by omega)).trans p31_33_2
  have p33_35_1 : g33 35 1 = (-1) := (o33 35 1 (by omega)).trans p31_35_1
  have p33_35_2 : g33 35 2 = 0 := (o33 35 2 (by omega)).trans p31_35_2
  have p33_2_1 : g33 2 1 = 0 := (o33 2 1 (by omega)).trans p31_2_1
  have p33_37_2 : g33 37 2 = 0 := (o33 37 2 (by omega)).trans u31
  have p33_37_3 : g33 37 3 = 0 := (o33 37 3 (by omega)).trans v31
  have p33_37_4 : g33 37 4 = 0 := (o33 37 4 (by omega)).trans w31
  have p33_42_0 : g33 42 0 = (-1) := (o33 42 0 (by omega)).trans m31
  have t33 : ∀ p, p < 4 → g33 39 p = 40 ∧ g33 40 p = 40 ∧ g33 41 p = 40 := fun p hp => ⟨(o33 39 p (by omega)).trans (s31 p hp).1, (o33 40 p (by omega)).trans (s31 p hp).2.1, (o33 41 p (by omega)).trans (s31 p hp).2.2⟩
  have x33 : TxM g33 0 (M0) := x31.up (funext fun q => o33 _ q (by omega)) (funext fun q => o33 _ q (by omega))
  have hr33 : ∀ i, 63 ≤ i → ∀ j, r33 i j = none := fun i9 h9 j9 => (congrFun (congrFun er33 i9) j9).trans ((up2r_o (by omega)).trans ((up2r_o (by omega)).trans ((mnr_r 11 i9 j9).trans ((if_neg (by omega)).trans (hr32 i9 (by omega) j9)))))
  have q33_0_0 : r33 0 0 = some 1 := (congrFun (congrFun er33 0) 0).trans ((up2r_o (by decide)).trans ((up2r_o (by decide)).trans ((mnr_r 11 0 0).trans ((if_neg (by omega)).trans q32_0_0))))
  have q33_2_0 : r33 2 0 = some 3 := (congrFun (congrFun er33 2) 0).trans ((up2r_o (by decide)).trans ((up2r_o (by decide)).trans ((mnr_r 11 2 0).trans ((if_neg (by omega)).trans q32_2_0))))
  have q33_0_2 : r33 0 2 = some 2 := (congrFun (congrFun er33 0) 2).trans ((up2r_o (by decide)).trans ((up2r_o (by decide)).trans ((mnr_r 11 0 2).trans ((if_neg (by omega)).trans q32_0_2))))
  have q33_0_7 : r33 0 7 = some 4 := (congrFun (congrFun er33 0) 7).trans ((up2r_o (by decide)).trans ((up2r_o (by decide)).trans ((mnr_r 11 0 7).trans ((if_neg (by omega)).trans q32_0_7))))
  have q33_5_0 : r33 5 0 = some 6 := (congrFun (congrFun er33 5) 0).trans ((up2r_o (by decide)).trans ((up2r_o (by decide)).trans ((mnr_r 11 5 0).trans ((if_neg (by omega)).trans q32_5_0))))
  have q33_5_1 : r33 5 1 = some 7 := (congrFun (congrFun er33 5) 1).trans ((up2r_o (by decide)).trans ((up2r_o (by decide)).trans ((mnr_r 11 5 1).trans ((if_neg (by omega)).trans q32_5_1))))
  have q33_1_0 : r33 1 0 = some 5 := (congrFun (congrFun er33 1) 0).trans ((up2r_o (by decide)).trans ((up2r_o (by decide)).trans ((mnr_r 11 1 0).trans ((if_neg (by omega)).trans q32_1_0))))
  have q33_0_3 : r33 0 3 = some 37 := (congrFun (congrFun er33 0) 3).trans ((up2r_o (by decide)).trans ((up2r_o (by decide)).trans ((mnr_r 11 0 3).trans ((if_neg (by omega)).trans q32_0_3))))
  refine gk_putF (pc' := 177) (ty := .object "AsLastTime$Salon") cx hin fX5_70 dX5_init_174 kq0 (ltn rfl) (ltn rfl) rfl rfl rfl (by decide +kernel) ⟨rfl, rfl⟩ rfl ?_
  obtain ⟨r34, er34⟩ : ∃ y : RG, y = (up2r r33 0 4 (some 50)) := ⟨_, rfl⟩
  refine gk_r er34.symm ?_
  have hr34 : ∀ i, 63 ≤ i → ∀ j, r34 i j = none := fun i9 h9 j9 => (congrFun (congrFun er34 i9) j9).trans ((up2r_o (by omega)).trans (hr33 i9 (by omega) j9))
  have q34_0_0 : r34 0 0 = some 1 := (congrFun (congrFun er34 0) 0).trans ((up2r_o (by decide)).trans q33_0_0)
  have q34_2_0 : r34 2 0 = some 3 := (congrFun (congrFun er34 2) 0).trans ((up2r_o (by decide)).trans q33_2_0)
  have q34_0_2 : r34 0 2 = some 2 := (congrFun (congrFun er34 0) 2).trans ((up2r_o (by decide)).trans q33_0_2)
  have q34_0_7 : r34 0 7 = some 4 := (congrFun (congrFun er34 0) 7).trans ((up2r_o (by decide)).trans q33_0_7)
  have q34_5_0 : r34 5 0 = some 6 := (congrFun (congrFun er34 5) 0).trans ((up2r_o (by decide)).trans q33_5_0)
  have q34_5_1 : r34 5 1 = some 7 := (congrFun (congrFun er34 5) 1).trans ((up2r_o (by decide)).trans q33_5_1)
  have q34_1_0 : r34 1 0 = some 5 := (congrFun (congrFun er34 1) 0).trans ((up2r_o (by decide)).trans q33_1_0)
  have q34_0_3 : r34 0 3 = some 37 := (congrFun (congrFun er34 0) 3).trans ((up2r_o (by decide)).trans q33_0_3)
  refine gk_aload_n (pc' := 178) cx dX5_init_177 rfl rfl ?_
  refine gk_new (pc' := 181) cx hE (by omega) (fun h9 => absurd h9 (by decide)) (ltn rfl) nwX5_73 kq63 (ltn rfl) dX5_init_178 (Nat.le_of_ble_eq_true rfl) (Nat.le_of_ble_eq_true rfl) (hg33 _ (by omega)) (hr34 _ (by omega)) rfl rfl ?_
  refine gk_dup (pc' := 182) cx rfl dX5_init_181 rfl ?_
  refine gk_aload_n (pc' := 183) cx dX5_init_182 rfl rfl ?_
  refine gk_getr (pc' := 186) cx 37 fX5_66 dX5_init_183 kq0 (ltn rfl) (ltn rfl) rfl q34_0_3 rfl ?_
  refine gk_new (pc' := 189) cx hE (by omega) (fun h9 => absurd h9 (by decide)) (ltn rfl) nwX5_61 kq64 (ltn rfl) dX5_init_186 (Nat.le_of_ble_eq_true rfl) (Nat.le_of_ble_eq_true rfl) (hg33 _ (by omega)) (hr34 _ (by omega)) rfl rfl ?_
  refine gk_dup (pc' := 190) cx rfl dX5_init_189 rfl ?_
  refine gk_aload_n (pc' := 191) cx dX5_init_190 rfl rfl ?_
  refine gk_getr (pc' := 194) cx 1 fX5_11 dX5_init_191 kq0 (ltn rfl) (ltn rfl) rfl q34_0_0 rfl ?_
  refine gk_ctor (pc' := 197) cx hE hKx (by omega) (fun h9 => absurd h9 (by decide)) (n_X1_64 l E hE (fun i9 h9 => hg33 i9 (by omega)) (fun i9 h9 => hr34 i9 (by omega))) mi1 lX5_63 dX5_init_194 rfl rfl ⟨(Nat.le_of_ble_eq_true rfl), (Nat.le_of_ble_eq_true rfl)⟩ (Nat.le_of_ble_eq_true rfl) rfl ⟨(Nat.le_of_ble_eq_true rfl), (Nat.le_of_ble_eq_true rfl)⟩ rfl rfl rfl (fun g35 r35 h35 => ?_)
  obtain ⟨s35, m35, u35, v35, w35, o35, er35⟩ := h35
  have hg35 : ∀ i, 77 ≤ i → ∀ j, g35 i j = 0 := fun i9 h9 j9 => (o35 i9 j9 (by omega)).trans (hg33 i9 (by omega) j9)
  have p35_0_1 : g35 0 1 = 1 := (o35 0 1 (by omega)).trans p33_0_1
  have p35_0_5 : g35 0 5 = 0 := (o35 0 5 (by omega)).trans p33_0_5
  have p35_29_1 : g35 29 1 = (-1) := (o35 29 1 (by omega)).trans p33_29_1
  have p35_29_2 : g35 29 2 = 0 := (o35 29 2 (by omega)).trans p33_29_2
  have p35_31_1 : g35 31 1 = (-1) := (o35 31 1 (by omega)).trans p33_31_1
  have p35_31_2 : g35 31 2 = 0 := (o35 31 2 (by omega)).trans p33_31_2
  have p35_33_1 : g35 33 1 = (-1) := (o35 33 1 (by omega)).trans p33_33_1
  have p35_33_2 : g35 33 2 = 0 := (o35 33 2 (by omega)).trans p33_33_2
  have p35_35_1 : g35 35 1 = (-1) := (o35 35 1 (by omega)).trans p33_35_1
  have p35_35_2 : g35 35 2 = 0 := (o35 35 2 (by omega)).trans p33_35_2
  have p35_2_1 : g35 2 1 = 0 := (o35 2 1 (by omega)).trans p33_2_1
  have p35_37_2 : g35 37 2 = 0 := (o35 37 2 (by omega)).trans p33_37_2
  have p35_37_3 : g35 37 3 = 0 := (o35 37 3 (by omega)).trans p33_37_3
  have p35_37_4 : g35 37 4 = 0 := (o35 37 4 (by omega)).trans p33_37_4
  have p35_42_0 : g35 42 0 = (-1) := (o35 42 0 (by omega)).trans p33_42_0
  have t35 : ∀ p, p < 4 → g35 39 p = 40 ∧ g35 40 p = 40 ∧ g35 41 p = 40 := fun p hp => ⟨(o35 39 p (by omega)).trans (t33 p hp).1, (o35 40 p (by omega)).trans (t33 p hp).2.1, (o35 41 p (by omega)).trans (t33 p hp).2.2⟩
  have x35 : TxM g35 0 (M0) := x33.up (funext fun q => o35 _ q (by omega)) (funext fun q => o35 _ q (by omega))
  have hr35 : ∀ i, 77 ≤ i → ∀ j, r35 i j = none := fun i9 h9 j9 => (congrFun (congrFun er35 i9) j9).trans ((up2r_o (by omega)).trans ((up2r_o (by omega)).trans ((mnr_r 11 i9 j9).trans ((if_neg (by omega)).trans (hr34 i9 (by omega) j9)))))
  have q35_0_0 : r35 0 0 = some 1 := (congrFun (congrFun er35 0) 0).trans ((up2r_o (by decide)).trans ((up2r_o (by decide)).trans ((mnr_r 11 0 0).trans ((if_neg (by omega)).trans q34_0_0))))
  have q35_2_0 : r35 2 0 = some 3 := (congrFun (congrFun er35 2) 0).trans ((up2r_o (by decide)).trans ((up2r_o (by decide)).trans ((mnr_r 11 2 0).trans ((if_neg (by omega)).trans q34_2_0))))
  have q35_0_2 : r35 0 2 = some 2 := (congrFun (congrFun er35 0) 2).trans ((up2r_o (by decide)).trans ((up2r_o (by decide)).trans ((mnr_r 11 0 2).trans ((if_neg (by omega)).trans q34_0_2))))
  have q35_0_7 : r35 0 7 = some 4 := (congrFun (congrFun er35 0) 7).trans ((up2r_o (by decide)).trans ((up2r_o (by decide)).trans ((mnr_r 11 0 7).trans ((if_neg (by omega)).trans q34_0_7))))
  have q35_5_0 : r35 5 0 = some 6 := (congrFun (congrFun er35 5) 0).trans ((up2r_o (by decide)).trans ((up2r_o (by decide)).trans ((mnr_r 11 5 0).trans ((if_neg (by omega)).trans q34_5_0))))
  have q35_5_1 : r35 5 1 = some 7 := (congrFun (congrFun er35 5) 1).trans ((up2r_o (by decide)).trans ((up2r_o (by decide)).trans ((mnr_r 11 5 1).trans ((if_neg (by omega)).trans q34_5_1))))
  have q35_1_0 : r35 1 0 = some 5 := (congrFun (congrFun er35 1) 0).trans ((up2r_o (by decide)).trans ((up2r_o (by decide)).trans ((mnr_r 11 1 0).trans ((if_neg (by omega)).trans q34_1_0))))
  have q35_0_3 : r35 0 3 = some 37 := (congrFun (congrFun er35 0) 3).trans ((up2r_o (by decide)).trans ((up2r_o (by decide)).trans ((mnr_r 11 0 3).trans ((if_neg (by omega)).trans q34_0_3))))
  refine gk_ctor (pc' := 200) cx hE hKx (by omega) (fun h9 => absurd h9 (by decide)) (n_X4 l E hE (fun i9 h9 => hg35 i9 (by omega)) (fun i9 h9 => hr35 i9 (by omega))) mi4 lX5_75 dX5_init_197 rfl rfl ⟨(Nat.le_of_ble_eq_true rfl), (Nat.le_of_ble_eq_true rfl)⟩ (Nat.le_of_ble_eq_true rfl) rfl ⟨(Nat.le_of_ble_eq_true rfl), (Nat.le_of_ble_eq_true rfl)⟩ rfl rfl rfl (fun g36 r36 h36 => ?_)
  obtain ⟨eg36, er36⟩ := h36
  refine gk_g eg36 ?_
  have hr36 : ∀ i, 88 ≤ i → ∀ j, r36 i j = none := fun i9 h9 j9 => (congrFun (congrFun er36 i9) j9).trans ((up2r_o (by omega)).trans ((up2r_o (by omega)).trans ((up2r_o (by omega)).trans ((up2r_o (by omega)).trans ((up2r_o (by omega)).trans ((mnr_r 8 i9 j9).trans ((if_neg (by omega)).trans (hr35 i9 (by omega) j9))))))))
  have q36_0_0 : r36 0 0 = some 1 := (congrFun (congrFun er36 0) 0).trans ((up2r_o (by decide)).trans ((up2r_o (by decide)).trans ((up2r_o (by decide)).trans ((up2r_o (by decide)).trans ((up2r_o (by decide)).trans ((mnr_r 8 0 0).trans ((if_neg (by omega)).trans q35_0_0)))))))
  have q36_2_0 : r36 2 0 = some 3 := (congrFun (congrFun er36 2) 0).trans ((up2r_o (by decide)).trans ((up2r_o (by decide)).trans ((up2r_o (by decide)).trans ((up2r_o (by decide)).trans ((up2r_o (by decide)).trans ((mnr_r 8 2 0).trans ((if_neg (by omega)).trans q35_2_0)))))))
  have q36_0_2 : r36 0 2 = some 2 := (congrFun (congrFun er36 0) 2).trans ((up2r_o (by decide)).trans ((up2r_o (by decide)).trans ((up2r_o (by decide)).trans ((up2r_o (by decide)).trans ((up2r_o (by decide)).trans ((mnr_r 8 0 2).trans ((if_neg (by omega)).trans q35_0_2)))))))
  have q36_0_7 : r36 0 7 = some 4 := (congrFun (congrFun er36 0) 7).trans ((up2r_o (by decide)).trans ((up2r_o (by decide)).trans ((up2r_o (by decide)).trans ((up2r_o (by decide)).trans ((up2r_o (by decide)).trans ((mnr_r 8 0 7).trans ((if_neg (by omega)).trans q35_0_7)))))))
  have q36_5_0 : r36 5 0 = some 6 := (congrFun (congrFun er36 5) 0).trans ((up2r_o (by decide)).trans ((up2r_o (by decide)).trans ((up2r_o (by decide)).trans ((up2r_o (by decide)).trans ((up2r_o (by decide)).trans ((mnr_r 8 5 0).trans ((if_neg (by omega)).trans q35_5_0)))))))
  have q36_5_1 : r36 5 1 = some 7 := (congrFun (congrFun er36 5) 1).trans ((up2r_o (by decide)).trans ((up2r_o (by decide)).trans ((up2r_o (by decide)).trans ((up2r_o (by decide)).trans ((up2r_o (by decide)).trans ((mnr_r 8 5 1).trans ((if_neg (by omega)).trans q35_5_1)))))))
  have q36_1_0 : r36 1 0 = some 5 := (congrFun (congrFun er36 1) 0).trans ((up2r_o (by decide)).trans ((up2r_o (by decide)).trans ((up2r_o (by decide)).trans ((up2r_o (by decide)).trans ((up2r_o (by decide)).trans ((mnr_r 8 1 0).trans ((if_neg (by omega)).trans q35_1_0)))))))
  have q36_0_3 : r36 0 3 = some 37 := (congrFun (congrFun er36 0) 3).trans ((up2r_o (by decide)).trans ((up2r_o (by decide)).trans ((up2r_o (by decide)).trans ((up2r_o (by decide)).trans ((up2r_o (by decide)).trans ((mnr_r 8 0 3).trans ((if_neg (by omega)).trans q35_0_3)))))))
  refine gk_putF (pc' := 203) (ty := .object "AsLastTime$Thought") cx hin fX5_78 dX5_init_200 kq0 (ltn rfl) (ltn rfl) rfl rfl rfl (by decide +kernel) ⟨rfl, rfl⟩ rfl ?_
  obtain ⟨r37, er37⟩ : ∃ y : RG, y = (up2r r36 0 6 (some 63)) := ⟨_, rfl⟩
  refine gk_r er37.symm ?_
  have hr37 : ∀ i, 88 ≤ i → ∀ j, r37 i j = none := fun i9 h9 j9 => (congrFun (congrFun er37 i9) j9).trans ((up2r_o (by omega)).trans (hr36 i9 (by omega) j9))
  have q37_0_0 : r37 0 0 = some 1 := (congrFun (congrFun er37 0) 0).trans ((up2r_o (by decide)).trans q36_0_0)
  have q37_2_0 : r37 2 0 = some 3 := (congrFun (congrFun er37 2) 0).trans ((up2r_o (by decide)).trans q36_2_0)
  have q37_0_2 : r37 0 2 = some 2 := (congrFun (congrFun er37 0) 2).trans ((up2r_o (by decide)).trans q36_0_2)
  have q37_0_7 : r37 0 7 = some 4 := (congrFun (congrFun er37 0) 7).trans ((up2r_o (by decide)).trans q36_0_7)
  have q37_5_0 : r37 5 0 = some 6 := (congrFun (congrFun er37 5) 0).trans ((up2r_o (by decide)).trans q36_5_0)
  have q37_5_1 : r37 5 1 = some 7 := (congrFun (congrFun er37 5) 1).trans ((up2r_o (by decide)).trans q36_5_1)
  have q37_1_0 : r37 1 0 = some 5 := (congrFun (congrFun er37 1) 0).trans ((up2r_o (by decide)).trans q36_1_0)
  have q37_0_3 : r37 0 3 = some 37 := (congrFun (congrFun er37 0) 3).trans ((up2r_o (by decide)).trans q36_0_3)
  refine gk_vret cx rfl dX5_init_203 rfl ?_
  refine ⟨rfl, rfl, ⟨p35_0_1, p35_0_5, p35_2_1, x35, ?_, p35_37_2, p35_37_3, p35_37_4, t35, p35_42_0⟩, fun i9 h9 => hg35 i9 (by omega), fun i9 h9 => hr37 i9 (by omega), ?_⟩
  · intro t ht
    rcases (show t = 0 ∨ t = 1 ∨ t = 2 ∨ t = 3 by omega) with rfl | rfl | rfl | rfl
    · exact ⟨p35_29_1, p35_29_2⟩
    · exact ⟨p35_31_1, p35_31_2⟩
    · exact ⟨p35_33_1, p35_33_2⟩
    · exact ⟨p35_35_1, p35_35_2⟩
  · intro i hi j
    rw [show r37 = upL lstR from by rw [er37, er36, er35, er34, er33, er32, er31, er29, er26, er25, er24, er23, er22, er21, er20, er19, er18, er17, er16, er15, er14, er13, er12, er11, er10, er9, er8, er7, er6, er4, er3, er1]; rfl]
    exact lstR_ok i hi j

