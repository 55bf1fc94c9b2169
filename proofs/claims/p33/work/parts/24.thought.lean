/-! THOUGHT: a course -/
theorem s37 : Sal 37 := Or.inl rfl
theorem s50 : Sal 50 := Or.inr (Or.inl rfl)
theorem s64 : Sal 64 := Or.inr (Or.inr rfl)
theorem bh_k' : ∀ v, v < 8 → kd (78 + v) = (10, 4) ∧ RT 77 v = some (78 + v) := by decide +kernel
theorem bh_k {v : Nat} (h : v < 8) : kd (78 + v) = (10, 4) := (bh_k' v h).1
theorem bh_r {v : Nat} {o : Option Nat} (h : v < 8) : RFo o 77 v = some (78 + v) := by
  unfold RFo
  rw [if_neg (by omega)]
  exact (bh_k' v h).2
theorem ct_und {M : TM} {G : IG} {v h : Nat} (hg : G 73 v = nI h) (hh : h < 8) : 0 + nI (und1 M G 64 v h).1 + nI (und2 M G 64 v h).1 = ctA M (svC G 64) v (G 66) (G 67) := by
  have e : hdA (svC G 64) v = h := by
    unfold hdA
    show (G 73 v).toNatClampNeg = h
    rw [hg]
    exact nI_clamp (by omega)
  rw [und1_v, und2_v]
  unfold ctA
  rw [e]
theorem st_und {M : TM} {G : IG} {v h : Nat} (hg : G 73 v = nI h) (hh : h < 8) : (und2 M G 64 v h).2 = stL M (svC G 64) v (G 66) (G 67) := by
  have e : hdA (svC G 64) v = h := by
    unfold hdA
    show (G 73 v).toNatClampNeg = h
    rw [hg]
    exact nI_clamp (by omega)
  rw [und2_v]
  unfold stL
  rw [e]
theorem of_off {M : TM} {G : IG} {so : Nat} : offS (G (so + 2 + 0)) (G (so + 2 + 2)) (fun q => M 2 (nmV (G (so + 2 + 0) q) (G (so + 2 + 1) q) (G (so + 2 + 2) q) 0 (nI q) 0)) 4 = ofA M (svC G so) (G (so + 2 + 0)) (G (so + 2 + 1)) := rfl
theorem wkD_c {M : TM} {a : Sv} {G G' : IG} {v : Nat} (h : wkD M a G v) (h1 : G' (78 + v) = G (78 + v)) (h2 : G' 86 = G 86) (h3 : G' 87 = G 87) : wkD M a G' v := by
  unfold wkD at *
  rw [h1, h2, h3]
  exact h
/-- what a walk needs to know of the Thought's salon -/
def wkP (g : IG) (vn ru : Nat) (M : TM) : Prop := vn ≤ 8 ∧ ru < 6 ∧ g 64 3 = nI vn ∧ g 64 4 = nI ru ∧ TxM g ru M ∧ ∀ v, v < vn → ∃ h, h < 8 ∧ g 73 v = nI h
theorem wk0 {M : TM} {g : IG} : wkI M (aW g) g (up2 (up2 (up2 (up2 (up2 (up2 (up2 (up2 g 66 0 (g 39 0)) 67 0 (g 40 0)) 66 1 (g 39 1)) 67 1 (g 40 1)) 66 2 (g 39 2)) 67 2 (g 40 2)) 66 3 (g 39 3)) 67 3 (g 40 3)) 0 := by
  have s6 : wkS 66 := Or.inl rfl
  have s7 : wkS 67 := Or.inr (Or.inl rfl)
  refine ⟨((((((((Fr.rf.up2 s6).up2 s7).up2 s6).up2 s7).up2 s6).up2 s7).up2 s6).up2 s7), fun u hu => absurd hu (Nat.not_lt_zero u), ?_, ?_⟩
  · simp only [crs]
    intro p hp
    show _ = g 39 p
    rcases (show p = 0 ∨ p = 1 ∨ p = 2 ∨ p = 3 by omega) with rfl | rfl | rfl | rfl <;> rfl
  · simp only [crs]
    intro p hp
    show _ = g 40 p
    rcases (show p = 0 ∨ p = 1 ∨ p = 2 ∨ p = 3 by omega) with rfl | rfl | rfl | rfl <;> rfl
theorem wk1 {M : TM} {g : IG} {f : Nat} (hf : f < 8) (hD : ∀ u, u < f + 1 → wkD M (aW g) g u) : wkI M (aW g) g (up2 (up2 (up2 (up2 (up2 (up2 (up2 (up2 g 66 0 (g (78 + f) 0)) 67 0 (g (78 + f) 0)) 66 1 (g (78 + f) 1)) 67 1 (g (78 + f) 1)) 66 2 (g (78 + f) 2)) 67 2 (g (78 + f) 2)) 66 3 (g (78 + f) 3)) 67 3 (g (78 + f) 3)) (f + 1) := by
  have s6 : wkS 66 := Or.inl rfl
  have s7 : wkS 67 := Or.inr (Or.inl rfl)
  have hL := (hD f (Nat.lt_succ_self f)).1
  have e : ∀ i, i ≠ 66 → i ≠ 67 → (up2 (up2 (up2 (up2 (up2 (up2 (up2 (up2 g 66 0 (g (78 + f) 0)) 67 0 (g (78 + f) 0)) 66 1 (g (78 + f) 1)) 67 1 (g (78 + f) 1)) 66 2 (g (78 + f) 2)) 67 2 (g (78 + f) 2)) 66 3 (g (78 + f) 3)) 67 3 (g (78 + f) 3)) i = g i := by
    intro i h1 h2
    funext b
    rw [up2_n _ _ (Or.inl h2), up2_n _ _ (Or.inl h1), up2_n _ _ (Or.inl h2), up2_n _ _ (Or.inl h1), up2_n _ _ (Or.inl h2), up2_n _ _ (Or.inl h1), up2_n _ _ (Or.inl h2), up2_n _ _ (Or.inl h1)]
  refine ⟨((((((((Fr.rf.up2 s6).up2 s7).up2 s6).up2 s7).up2 s6).up2 s7).up2 s6).up2 s7), fun u hu => wkD_c (hD u hu) (e _ (by omega) (by omega)) (e _ (by omega) (by omega)) (e _ (by omega) (by omega)), ?_, ?_⟩
  · intro p hp
    rw [← hL p hp]
    rcases (show p = 0 ∨ p = 1 ∨ p = 2 ∨ p = 3 by omega) with rfl | rfl | rfl | rfl <;> rfl
  · rw [crs_s2]
    intro p hp
    rw [← hL p hp]
    rcases (show p = 0 ∨ p = 1 ∨ p = 2 ∨ p = 3 by omega) with rfl | rfl | rfl | rfl <;> rfl
def sumI (f : Nat → Int32) : Nat → Int32
  | 0 => 0
  | n + 1 => sumI f n + f n
theorem sumI_c {f f' : Nat → Int32} : ∀ n, (∀ k, k < n → f k = f' k) → sumI f n = sumI f' n
  | 0, _ => rfl
  | n + 1, h => by
    unfold sumI
    rw [sumI_c n (fun k hk => h k (by omega)), h n (by omega)]

set_option maxHeartbeats 4000000 in
set_option maxRecDepth 20000 in
theorem become_loop {l : Launch} {E : Ev} {Z : ZT} {o : Option Nat} {z : Int64} {p : Program} {e : Env} {s : State} {m : MethodId} {args : Array Value} {below : List Frame} {meth : Method} {c : Code} {so ot : Nat} (hs : Sal so) (ho : Sal ot) (hne : so ≠ ot) {g : IG} (cx : Cx p s m args meth c E 88 cX1_become 3 yX1_become.cls none) : ∀ (j k : Nat), k + j = 11 → (Go p l e (rmd 1) s m args below meth c E 88 3 Z (bcm g so ot 11) (RFo o) z 33 [(0, .ref (E.2.1 so)), (1, .ref (E.2.1 ot))] []) → Go p l e (rmd 1) s m args below meth c E 88 3 Z (bcm g so ot k) (RFo o) z 2 [(2, .int (nI k)), (0, .ref (E.2.1 so)), (1, .ref (E.2.1 ot))] [] := by
  have hso : so = 37 ∨ so = 50 ∨ so = 64 := hs
  have hoo : ot = 37 ∨ ot = 50 ∨ ot = 64 := ho
  intro j
  induction j with
  | zero =>
    intro k hk kk
    have hq : k = 11 := by omega
    subst hq
    refine go_iload_n (pc' := 3) cx dX1_become_2 rfl rfl ?_
    refine go_bipush (pc' := 5) cx 11 dX1_become_3 rfl rfl ?_
    refine go_icmp_ge (pc' := 8) cx 33 dX1_become_5 rfl rfl (fun _ => ?_) (fun hh => absurd hh (by decide))
    refine go_sub [1, 2] [(0, .ref (E.2.1 so)), (1, .ref (E.2.1 ot))] rfl ?_
    exact kk
  | succ j ih =>
    intro k hk kk
    refine go_iload_n (pc' := 3) cx dX1_become_2 rfl rfl ?_
    refine go_bipush (pc' := 5) cx 11 dX1_become_3 rfl rfl ?_
    refine go_icmp_ge (pc' := 8) cx 33 dX1_become_5 rfl rfl (fun hh => absurd ((nI_leI (a := 11) (b := k) (by omega) (by omega)).mp hh) (by omega)) (fun _ => ?_)
    refine go_aload_n (pc' := 9) cx dX1_become_8 rfl rfl ?_
    refine go_getr (pc' := 12) cx (ot + 1) fX1_11 dX1_become_9 (sal_k0 ho) (sal_l0 ho) (ltn rfl) rfl (sal_r1 ho) rfl ?_
    refine go_iload_n (pc' := 13) cx dX1_become_12 rfl rfl ?_
    refine go_aaldk (pc' := 14) cx k (ot + 2 + k) dX1_become_13 (sal_k1 ho) (Nat.le_of_ble_eq_true rfl) (ltn rfl) (sal_l1 ho) (vpi (k := k) (a := 11) (by omega) rfl rfl) (cli (k := k) (a := 11) (by omega) rfl) (sal_rr ho (by omega)) rfl ?_
    refine go_iconst (pc' := 15) cx 0 dX1_become_14 rfl rfl ?_
    refine go_aload_n (pc' := 16) cx dX1_become_15 rfl rfl ?_
    refine go_getr (pc' := 19) cx (so + 1) fX1_11 dX1_become_16 (sal_k0 hs) (sal_l0 hs) (ltn rfl) rfl (sal_r1 hs) rfl ?_
    refine go_iload_n (pc' := 20) cx dX1_become_19 rfl rfl ?_
    refine go_aaldk (pc' := 21) cx k (so + 2 + k) dX1_become_20 (sal_k1 hs) (Nat.le_of_ble_eq_true rfl) (ltn rfl) (sal_l1 hs) (vpi (k := k) (a := 11) (by omega) rfl rfl) (cli (k := k) (a := 11) (by omega) rfl) (sal_rr hs (by omega)) rfl ?_
    refine go_iconst (pc' := 22) cx 0 dX1_become_21 rfl rfl ?_
    refine go_bipush (pc' := 24) cx 8 dX1_become_22 rfl rfl ?_
    refine go_acopy (pc' := 27) cx 0 0 8 lX1_30 dX1_become_24 (sal_kr ho (by omega)) (sal_kr hs (by omega)) (sal_lr ho (by omega)) (sal_lr hs (by omega)) (by decide) (by decide) (by decide) (by decide) (by decide) (by decide) (by omega) (by omega) (ltn rfl) (Nat.le_of_ble_eq_true rfl) rfl ?_
    refine go_iinc (pc' := 30) cx (nI (k + 1)) dX1_become_27 rfl (nI_1 k) (ltn rfl) [(2, .int (nI (k + 1))), (0, .ref (E.2.1 so)), (1, .ref (E.2.1 ot))] rfl rfl ?_
    refine go_goto cx 2 dX1_become_30 rfl ?_
    refine go_g (bcm_s hs ho hne (by omega)) ?_
    exact ih (k + 1) (by omega) kk

theorem bcm_o {g : IG} {so ot : Nat} (ho : Sal ot) (k : Nat) (hs : Sal so := by assumption) : bcm g so ot 11 ot k = g ot k := by
  have hso : so = 37 ∨ so = 50 ∨ so = 64 := hs
  have hoo : ot = 37 ∨ ot = 50 ∨ ot = 64 := ho
  unfold bcm
  rw [if_neg (by omega)]

set_option maxHeartbeats 4000000 in
set_option maxRecDepth 20000 in
theorem c_X1_become (l : Launch) (E : Ev) {g : IG} {o : Option Nat} {z : Int64} {so ot : Nat} (hs : Sal so) (ho : Sal ot) (hne : so ≠ ot) : Ct l E 88 yX1_become cX1_become 3 none 1 [.ref (E.2.1 so), .ref (E.2.1 ot)] g (RFo o) z (Zu (RFo o) z (bcF g so ot)) := by
  refine Ct.of (lv0 := [(0, .ref (E.2.1 so)), (1, .ref (E.2.1 ot))]) (by decide) (Nat.le_of_ble_eq_true rfl) rfl ?_
  intro p e s m below meth c cx
  have hso : so = 37 ∨ so = 50 ∨ so = 64 := hs
  have hoo : ot = 37 ∨ ot = 50 ∨ ot = 64 := ho
  refine go_iconst (pc' := 1) cx 0 dX1_become_0 rfl rfl ?_
  refine go_istore_n (pc' := 2) cx dX1_become_1 (ltn rfl) [(2, .int 0), (0, .ref (E.2.1 so)), (1, .ref (E.2.1 ot))] rfl rfl ?_
  refine go_g (bcm_0 g so ot).symm ?_
  refine become_loop hs ho hne cx 11 0 rfl ?_
  refine go_aload_n (pc' := 34) cx dX1_become_33 rfl rfl ?_
  refine go_aload_n (pc' := 35) cx dX1_become_34 rfl rfl ?_
  refine go_geti (pc' := 38) cx (g ot 2) fX1_16 dX1_become_35 (sal_k0 ho) (sal_l0 ho) (ltn rfl) rfl (bcm_o ho 2) rfl ?_
  refine go_puti (pc' := 41) cx fX1_16 dX1_become_38 (sal_k0 hs) (sal_l0 hs) (ltn rfl) rfl rfl rfl rfl ?_
  refine go_aload_n (pc' := 42) cx dX1_become_41 rfl rfl ?_
  refine go_aload_n (pc' := 43) cx dX1_become_42 rfl rfl ?_
  refine go_geti (pc' := 46) cx (g ot 3) fX1_20 dX1_become_43 (sal_k0 ho) (sal_l0 ho) (ltn rfl) rfl ((up2_n _ _ (Or.inl (Ne.symm hne))).trans (bcm_o ho 3)) rfl ?_
  refine go_puti (pc' := 49) cx fX1_20 dX1_become_46 (sal_k0 hs) (sal_l0 hs) (ltn rfl) rfl rfl rfl rfl ?_
  refine go_aload_n (pc' := 50) cx dX1_become_49 rfl rfl ?_
  refine go_aload_n (pc' := 51) cx dX1_become_50 rfl rfl ?_
  refine go_geti (pc' := 54) cx (g ot 4) fX1_23 dX1_become_51 (sal_k0 ho) (sal_l0 ho) (ltn rfl) rfl ((up2_n _ _ (Or.inl (Ne.symm hne))).trans ((up2_n _ _ (Or.inl (Ne.symm hne))).trans (bcm_o ho 4))) rfl ?_
  refine go_puti (pc' := 57) cx fX1_23 dX1_become_54 (sal_k0 hs) (sal_l0 hs) (ltn rfl) rfl rfl rfl rfl ?_
  refine go_vret cx rfl dX1_become_57 ?_
  exact Zu.mk rfl

set_option maxHeartbeats 4000000 in
set_option maxRecDepth 20000 in
theorem c_X4_begin (l : Launch) (E : Ev) {g : IG} {o : Option Nat} {z : Int64}  : Ct l E 88 yX4_begin cX4_begin 1 none 2 [.ref (E.2.1 63)] g (RFo o) z (Zu (RFo o) z (bcF g 64 37)) := by
  refine Ct.of (lv0 := [(0, .ref (E.2.1 63))]) (by decide) (Nat.le_of_ble_eq_true rfl) rfl ?_
  intro p e s m below meth c cx
  refine go_aload_n (pc' := 1) cx dX4_begin_0 rfl rfl ?_
  refine go_getr (pc' := 4) cx 64 fX4_27 dX4_begin_1 kq63 (ltn rfl) (ltn rfl) rfl rfl rfl ?_
  refine go_aload_n (pc' := 5) cx dX4_begin_4 rfl rfl ?_
  refine go_getr (pc' := 8) cx 37 fX4_23 dX4_begin_5 kq63 (ltn rfl) (ltn rfl) rfl rfl rfl ?_
  refine go_cVu (pc' := 11) cx (c_X1_become l E (g := g) (so := 64) (ot := 37) s64 s37 (by decide)) mX1_become lX4_30 dX4_begin_8 kq64 (ltn rfl) (ltn rfl) rfl rfl rfl rfl (ltn rfl) (Nat.le_of_ble_eq_true rfl) (Nat.le_of_ble_eq_true rfl) rfl ?_
  refine go_vret cx rfl dX4_begin_11 ?_
  exact Zu.mk rfl

set_option maxHeartbeats 4000000 in
set_option maxRecDepth 20000 in
theorem walk_loop {l : Launch} {E : Ev} {Z : ZT} {o : Option Nat} {z : Int64} {p : Program} {e : Env} {s : State} {m : MethodId} {args : Array Value} {below : List Frame} {meth : Method} {c : Code} {vn ru : Nat} {M : TM} {g : IG} (hP : wkP g vn ru M) (cx : Cx p s m args meth c E 88 cX4_walk 3 yX4_walk.cls none) : ∀ (k v : Nat) (G : IG), v + k = vn → wkI M (aW g) g G v → (∀ G2, wkI M (aW g) g G2 vn → Go p l e (rmd 5) s m args below meth c E 88 3 Z G2 (RFo o) z 158 [] []) → Go p l e (rmd 5) s m args below meth c E 88 3 Z G (RFo o) z 93 [(2, .int (nI v)), (0, .ref (E.2.1 63))] [] := by
  have hvn8 := hP.1
  have hru6 := hP.2.1
  intro k
  induction k with
  | zero =>
    intro v G hk hI kk
    have hq : v = vn := by omega
    subst hq
    refine go_iload_n (pc' := 94) cx dX4_walk_93 rfl rfl ?_
    refine go_aload_n (pc' := 95) cx dX4_walk_94 rfl rfl ?_
    refine go_getr (pc' := 98) cx 64 fX4_27 dX4_walk_95 kq63 (ltn rfl) (ltn rfl) rfl rfl rfl ?_
    refine go_geti (pc' := 101) cx (nI v) fX4_46 dX4_walk_98 kq64 (ltn rfl) (ltn rfl) rfl ((congrFun (hI.1 64 (by unfold wkS; omega)) 3).trans hP.2.2.1) rfl ?_
    refine go_icmp_ge (pc' := 104) cx 158 dX4_walk_101 rfl rfl (fun _ => ?_) (fun hh => absurd ((nI_leI (a := v) (b := v) (by omega) (by omega)).mpr (by omega)) hh)
    refine go_sub [] [] rfl ?_
    exact kk G hI
  | succ k ih =>
    intro v G hk hI kk
    refine go_iload_n (pc' := 94) cx dX4_walk_93 rfl rfl ?_
    refine go_aload_n (pc' := 95) cx dX4_walk_94 rfl rfl ?_
    refine go_getr (pc' := 98) cx 64 fX4_27 dX4_walk_95 kq63 (ltn rfl) (ltn rfl) rfl rfl rfl ?_
    refine go_geti (pc' := 101) cx (nI vn) fX4_46 dX4_walk_98 kq64 (ltn rfl) (ltn rfl) rfl ((congrFun (hI.1 64 (by unfold wkS; omega)) 3).trans hP.2.2.1) rfl ?_
    refine go_icmp_ge (pc' := 104) cx 158 dX4_walk_101 rfl rfl (fun hh => absurd ((nI_leI (a := vn) (b := v) (by omega) (by omega)).mp hh) (by omega)) (fun _ => ?_)
    refine go_aload_n (pc' := 105) cx dX4_walk_104 rfl rfl ?_
    refine go_getr (pc' := 108) cx 87 fX4_20 dX4_walk_105 kq63 (ltn rfl) (ltn rfl) rfl rfl rfl ?_
    refine go_iload_n (pc' := 109) cx dX4_walk_108 rfl rfl ?_
    refine go_aload_n (pc' := 110) cx dX4_walk_109 rfl rfl ?_
    refine go_getr (pc' := 113) cx 64 fX4_27 dX4_walk_110 kq63 (ltn rfl) (ltn rfl) rfl rfl rfl ?_
    refine go_iload_n (pc' := 114) cx dX4_walk_113 rfl rfl ?_
    obtain ⟨h, hh, hgh⟩ := hP.2.2.2.2.2 v (by omega)
    have hF := hI.1
    have hgh2 : G 73 v = nI h := (congrFun (hF 73 (by unfold wkS; omega)) v).trans hgh
    have hgr : G 64 4 = nI ru := (congrFun (hF 64 (by unfold wkS; omega)) 4).trans hP.2.2.2.1
    have hT := hP.2.2.2.2.1.up (g' := G) (hF _ (by unfold wkS; omega)) (hF _ (by unfold wkS; omega))
    refine go_cVI (pc' := 117) cx (c_X1_undergo l E (g := G) (so := 64) (ru := ru) (v := v) (h := h) (M := M) s64 hP.2.1 (by omega) hh hT hgr hgh2) mX1_undergo lX4_50 dX4_walk_114 kq64 (ltn rfl) (ltn rfl) rfl rfl rfl rfl (ltn rfl) (Nat.le_of_ble_eq_true rfl) (Nat.le_of_ble_eq_true rfl) rfl (fun x G1 hx => ?_)
    obtain ⟨hxe, f1, hG1⟩ := hx
    rw [ct_und hgh2 hh] at hxe
    rw [st_und hgh2 hh] at hG1
    refine go_iastk (pc' := 118) cx v dX4_walk_117 kq87 (ltn rfl) (vpi (k := v) (a := 8) (by omega) rfl rfl) (cli (k := v) (a := 8) (by omega) rfl) rfl ?_
    refine go_aload_n (pc' := 119) cx dX4_walk_118 rfl rfl ?_
    refine go_getr (pc' := 122) cx 86 fX4_16 dX4_walk_119 kq63 (ltn rfl) (ltn rfl) rfl rfl rfl ?_
    refine go_iload_n (pc' := 123) cx dX4_walk_122 rfl rfl ?_
    refine go_aload_n (pc' := 124) cx dX4_walk_123 rfl rfl ?_
    refine go_getr (pc' := 127) cx 64 fX4_27 dX4_walk_124 kq63 (ltn rfl) (ltn rfl) rfl rfl rfl ?_
    have hF2 : Fr wkS g (up2 G1 87 v x) := by
      rw [hG1]
      exact (((hF.upw (Or.inl rfl)).upw (by unfold wkS; omega)).upw (Or.inr (Or.inl rfl))).up2 (by unfold wkS; omega)
    have hgr2 : (up2 G1 87 v x) 64 4 = nI ru := (congrFun (hF2 64 (by unfold wkS; omega)) 4).trans hP.2.2.2.1
    have hT2 := hP.2.2.2.2.1.up (g' := (up2 G1 87 v x)) (hF2 _ (by unfold wkS; omega)) (hF2 _ (by unfold wkS; omega))
    refine go_cVI (pc' := 130) cx (c_X1_off l E (g := (up2 G1 87 v x)) (so := 64) (ru := ru) (M := M) s64 hP.2.1 hT2 hgr2) mX1_off lX4_54 dX4_walk_127 kq64 (ltn rfl) (ltn rfl) rfl rfl rfl rfl (ltn rfl) (Nat.le_of_ble_eq_true rfl) (Nat.le_of_ble_eq_true rfl) rfl (fun x2 G2 hx2 => ?_)
    obtain ⟨hx2e, f2, hG2⟩ := hx2
    rw [of_off] at hx2e
    refine go_iastk (pc' := 131) cx v dX4_walk_130 kq86 (ltn rfl) (vpi (k := v) (a := 8) (by omega) rfl rfl) (cli (k := v) (a := 8) (by omega) rfl) rfl ?_
    refine go_aload_n (pc' := 132) cx dX4_walk_131 rfl rfl ?_
    refine go_getr (pc' := 135) cx 64 fX4_27 dX4_walk_132 kq63 (ltn rfl) (ltn rfl) rfl rfl rfl ?_
    refine go_getr (pc' := 138) cx 65 fX4_43 dX4_walk_135 kq64 (ltn rfl) (ltn rfl) rfl rfl rfl ?_
    refine go_iconst (pc' := 139) cx 0 dX4_walk_138 rfl rfl ?_
    refine go_aaldk (pc' := 140) cx 0 66 dX4_walk_139 kq65 (Nat.le_of_ble_eq_true rfl) (ltn rfl) (ltn rfl) (vpi (k := 0) (a := 1) (ltn rfl) rfl rfl) (cli (k := 0) (a := 1) (ltn rfl) rfl) rfl rfl ?_
    refine go_iconst (pc' := 141) cx 0 dX4_walk_140 rfl rfl ?_
    refine go_aload_n (pc' := 142) cx dX4_walk_141 rfl rfl ?_
    refine go_getr (pc' := 145) cx 77 fX4_11 dX4_walk_142 kq63 (ltn rfl) (ltn rfl) rfl rfl rfl ?_
    refine go_iload_n (pc' := 146) cx dX4_walk_145 rfl rfl ?_
    refine go_aaldk (pc' := 147) cx v (78 + v) dX4_walk_146 kq77 (Nat.le_of_ble_eq_true rfl) (ltn rfl) (ltn rfl) (vpi (k := v) (a := 8) (by omega) rfl rfl) (cli (k := v) (a := 8) (by omega) rfl) (bh_r (by omega)) rfl ?_
    refine go_iconst (pc' := 148) cx 0 dX4_walk_147 rfl rfl ?_
    refine go_iconst (pc' := 149) cx 4 dX4_walk_148 rfl rfl ?_
    refine go_acopy (pc' := 152) cx 0 0 4 lX4_57 dX4_walk_149 kq66 (bh_k (by omega)) (ltn rfl) (by omega) (by decide) (by decide) (by decide) (by decide) (by decide) (by decide) (by omega) (by omega) (ltn rfl) (Nat.le_of_ble_eq_true rfl) rfl ?_
    refine go_iinc (pc' := 155) cx (nI (v + 1)) dX4_walk_152 rfl (nI_1 v) (ltn rfl) [(2, .int (nI (v + 1))), (0, .ref (E.2.1 63))] rfl rfl ?_
    refine go_goto cx 93 dX4_walk_155 rfl ?_
    exact ih (v + 1) _ (by omega) (wk_step (by omega) hP.2.1 hI hxe hG1 hx2e (congrArg (fun q => up2 q 86 v x2) hG2)) kk

set_option maxHeartbeats 4000000 in
set_option maxRecDepth 20000 in
theorem c_X4_walk0 (l : Launch) (E : Ev) {g : IG} {o : Option Nat} {z : Int64} {vn ru : Nat} {M : TM} (hP : wkP g vn ru M) : Ct l E 88 yX4_walk cX4_walk 3 none 5 [.ref (E.2.1 63), .int 0] g (RFo o) z (ZV (RFo o) z (fun g1 => wkI M (aW g) g g1 vn)) := by
  refine Ct.of (lv0 := [(0, .ref (E.2.1 63)), (1, .int 0)]) (by decide) (Nat.le_of_ble_eq_true rfl) rfl ?_
  intro p e s m below meth c cx
  refine go_iconst (pc' := 1) cx 0 dX4_walk_0 rfl rfl ?_
  refine go_istore_n (pc' := 2) cx dX4_walk_1 (ltn rfl) [(2, .int 0), (0, .ref (E.2.1 63)), (1, .int 0)] rfl rfl ?_
  refine go_iload_n (pc' := 3) cx dX4_walk_2 rfl rfl ?_
  refine go_iconst (pc' := 4) cx 4 dX4_walk_3 rfl rfl ?_
  refine go_icmp_ge (pc' := 7) cx 91 dX4_walk_4 rfl rfl (fun hh => absurd hh (by decide)) (fun _ => ?_)
  refine go_aload_n (pc' := 8) cx dX4_walk_7 rfl rfl ?_
  refine go_getr (pc' := 11) cx 64 fX4_27 dX4_walk_8 kq63 (ltn rfl) (ltn rfl) rfl rfl rfl ?_
  refine go_getr (pc' := 14) cx 65 fX4_43 dX4_walk_11 kq64 (ltn rfl) (ltn rfl) rfl rfl rfl ?_
  refine go_iconst (pc' := 15) cx 0 dX4_walk_14 rfl rfl ?_
  refine go_aaldk (pc' := 16) cx 0 66 dX4_walk_15 kq65 (Nat.le_of_ble_eq_true rfl) (ltn rfl) (ltn rfl) (vpi (k := 0) (a := 1) (ltn rfl) rfl rfl) (cli (k := 0) (a := 1) (ltn rfl) rfl) rfl rfl ?_
  refine go_iload_n (pc' := 17) cx dX4_walk_16 rfl rfl ?_
  refine go_iload_n (pc' := 18) cx dX4_walk_17 rfl rfl ?_
  refine go_if_le (pc' := 21) cx 34 dX4_walk_18 rfl rfl (fun _ => ?_) (fun hh => absurd hh (by decide))
  refine go_aload_n (pc' := 35) cx dX4_walk_34 rfl rfl ?_
  refine go_getr (pc' := 38) cx 37 fX4_23 dX4_walk_35 kq63 (ltn rfl) (ltn rfl) rfl rfl rfl ?_
  refine go_getr (pc' := 41) cx 38 fX4_43 dX4_walk_38 kq37 (ltn rfl) (ltn rfl) rfl rfl rfl ?_
  refine go_iconst (pc' := 42) cx 0 dX4_walk_41 rfl rfl ?_
  refine go_aaldk (pc' := 43) cx 0 39 dX4_walk_42 kq38 (Nat.le_of_ble_eq_true rfl) (ltn rfl) (ltn rfl) (vpi (k := 0) (a := 1) (ltn rfl) rfl rfl) (cli (k := 0) (a := 1) (ltn rfl) rfl) rfl rfl ?_
  refine go_iload_n (pc' := 44) cx dX4_walk_43 rfl rfl ?_
  refine go_iald (pc' := 45) cx (g 39 0) dX4_walk_44 kq39 (ltn rfl) (vpi (k := 0) (a := 1) (ltn rfl) rfl rfl) (congrArg (g 39) (cli (k := 0) (a := 1) (ltn rfl) rfl)) rfl ?_
  refine go_iastk (pc' := 46) cx 0 dX4_walk_45 kq66 (ltn rfl) (vpi (k := 0) (a := 1) (ltn rfl) rfl rfl) (cli (k := 0) (a := 1) (ltn rfl) rfl) rfl ?_
  refine go_aload_n (pc' := 47) cx dX4_walk_46 rfl rfl ?_
  refine go_getr (pc' := 50) cx 64 fX4_27 dX4_walk_47 kq63 (ltn rfl) (ltn rfl) rfl rfl rfl ?_
  refine go_getr (pc' := 53) cx 65 fX4_43 dX4_walk_50 kq64 (ltn rfl) (ltn rfl) rfl rfl rfl ?_
  refine go_iconst (pc' := 54) cx 1 dX4_walk_53 rfl rfl ?_
  refine go_aaldk (pc' := 55) cx 1 67 dX4_walk_54 kq65 (Nat.le_of_ble_eq_true rfl) (ltn rfl) (ltn rfl) (vpi (k := 1) (a := 2) (ltn rfl) rfl rfl) (cli (k := 1) (a := 2) (ltn rfl) rfl) rfl rfl ?_
  refine go_iload_n (pc' := 56) cx dX4_walk_55 rfl rfl ?_
  refine go_iload_n (pc' := 57) cx dX4_walk_56 rfl rfl ?_
  refine go_if_le (pc' := 60) cx 73 dX4_walk_57 rfl rfl (fun _ => ?_) (fun hh => absurd hh (by decide))
  refine go_aload_n (pc' := 74) cx dX4_walk_73 rfl rfl ?_
  refine go_getr (pc' := 77) cx 37 fX4_23 dX4_walk_74 kq63 (ltn rfl) (ltn rfl) rfl rfl rfl ?_
  refine go_getr (pc' := 80) cx 38 fX4_43 dX4_walk_77 kq37 (ltn rfl) (ltn rfl) rfl rfl rfl ?_
  refine go_iconst (pc' := 81) cx 1 dX4_walk_80 rfl rfl ?_
  refine go_aaldk (pc' := 82) cx 1 40 dX4_walk_81 kq38 (Nat.le_of_ble_eq_true rfl) (ltn rfl) (ltn rfl) (vpi (k := 1) (a := 2) (ltn rfl) rfl rfl) (cli (k := 1) (a := 2) (ltn rfl) rfl) rfl rfl ?_
  refine go_iload_n (pc' := 83) cx dX4_walk_82 rfl rfl ?_
  refine go_iald (pc' := 84) cx (g 40 0) dX4_walk_83 kq40 (ltn rfl) (vpi (k := 0) (a := 1) (ltn rfl) rfl rfl) ((congrArg ((up2 g 66 0 (g 39 0)) 40) (cli (k := 0) (a := 1) (ltn rfl) rfl)).trans (up2_n g (g 39 0) (Or.inl (Nat.ne_of_beq_eq_false rfl)))) rfl ?_
  refine go_iastk (pc' := 85) cx 0 dX4_walk_84 kq67 (ltn rfl) (vpi (k := 0) (a := 1) (ltn rfl) rfl rfl) (cli (k := 0) (a := 1) (ltn rfl) rfl) rfl ?_
  refine go_iinc (pc' := 88) cx 1 dX4_walk_85 rfl rfl (ltn rfl) [(2, .int 1), (0, .ref (E.2.1 63)), (1, .int 0)] rfl rfl ?_
  refine go_goto cx 2 dX4_walk_88 rfl ?_
  refine go_iload_n (pc' := 3) cx dX4_walk_2 rfl rfl ?_
  refine go_iconst (pc' := 4) cx 4 dX4_walk_3 rfl rfl ?_
  refine go_icmp_ge (pc' := 7) cx 91 dX4_walk_4 rfl rfl (fun hh => absurd hh (by decide)) (fun _ => ?_)
  refine go_aload_n (pc' := 8) cx dX4_walk_7 rfl rfl ?_
  refine go_getr (pc' := 11) cx 64 fX4_27 dX4_walk_8 kq63 (ltn rfl) (ltn rfl) rfl rfl rfl ?_
  refine go_getr (pc' := 14) cx 65 fX4_43 dX4_walk_11 kq64 (ltn rfl) (ltn rfl) rfl rfl rfl ?_
  refine go_iconst (pc' := 15) cx 0 dX4_walk_14 rfl rfl ?_
  refine go_aaldk (pc' := 16) cx 0 66 dX4_walk_15 kq65 (Nat.le_of_ble_eq_true rfl) (ltn rfl) (ltn rfl) (vpi (k := 0) (a := 1) (ltn rfl) rfl rfl) (cli (k := 0) (a := 1) (ltn rfl) rfl) rfl rfl ?_
  refine go_iload_n (pc' := 17) cx dX4_walk_16 rfl rfl ?_
  refine go_iload_n (pc' := 18) cx dX4_walk_17 rfl rfl ?_
  refine go_if_le (pc' := 21) cx 34 dX4_walk_18 rfl rfl (fun _ => ?_) (fun hh => absurd hh (by decide))
  refine go_aload_n (pc' := 35) cx dX4_walk_34 rfl rfl ?_
  refine go_getr (pc' := 38) cx 37 fX4_23 dX4_walk_35 kq63 (ltn rfl) (ltn rfl) rfl rfl rfl ?_
  refine go_getr (pc' := 41) cx 38 fX4_43 dX4_walk_38 kq37 (ltn rfl) (ltn rfl) rfl rfl rfl ?_
  refine go_iconst (pc' := 42) cx 0 dX4_walk_41 rfl rfl ?_
  refine go_aaldk (pc' := 43) cx 0 39 dX4_walk_42 kq38 (Nat.le_of_ble_eq_true rfl) (ltn rfl) (ltn rfl) (vpi (k := 0) (a := 1) (ltn rfl) rfl rfl) (cli (k := 0) (a := 1) (ltn rfl) rfl) rfl rfl ?_
  refine go_iload_n (pc' := 44) cx dX4_walk_43 rfl rfl ?_
  refine go_iald (pc' := 45) cx (g 39 1) dX4_walk_44 kq39 (ltn rfl) (vpi (k := 1) (a := 2) (ltn rfl) rfl rfl) ((congrArg ((up2 (up2 g 66 0 (g 39 0)) 67 0 (g 40 0)) 39) (cli (k := 1) (a := 2) (ltn rfl) rfl)).trans ((up2_n (up2 g 66 0 (g 39 0)) (g 40 0) (Or.inl (Nat.ne_of_beq_eq_false rfl))).trans (up2_n g (g 39 0) (Or.inl (Nat.ne_of_beq_eq_false rfl))))) rfl ?_
  refine go_iastk (pc' := 46) cx 1 dX4_walk_45 kq66 (ltn rfl) (vpi (k := 1) (a := 2) (ltn rfl) rfl rfl) (cli (k := 1) (a := 2) (ltn rfl) rfl) rfl ?_
  refine go_aload_n (pc' := 47) cx dX4_walk_46 rfl rfl ?_
  refine go_getr (pc' := 50) cx 64 fX4_27 dX4_walk_47 kq63 (ltn rfl) (ltn rfl) rfl rfl rfl ?_
  refine go_getr (pc' := 53) cx 65 fX4_43 dX4_walk_50 kq64 (ltn rfl) (ltn rfl) rfl rfl rfl ?_
  refine go_iconst (pc' := 54) cx 1 dX4_walk_53 rfl rfl ?_
  refine go_aaldk (pc' := 55) cx 1 67 dX4_walk_54 kq65 (Nat.le_of_ble_eq_true rfl) (ltn rfl) (ltn rfl) (vpi (k := 1) (a := 2) (ltn rfl) rfl rfl) (cli (k := 1) (a := 2) (ltn rfl) rfl) rfl rfl ?_
  refine go_iload_n (pc' := 56) cx dX4_walk_55 rfl rfl ?_
  refine go_iload_n (pc' := 57) cx dX4_walk_56 rfl rfl ?_
  refine go_if_le (pc' := 60) cx 73 dX4_walk_57 rfl rfl (fun _ => ?_) (fun hh => absurd hh (by decide))
  refine go_aload_n (pc' := 74) cx dX4_walk_73 rfl rfl ?_
  refine go_getr (pc' := 77) cx 37 fX4_23 dX4_walk_74 kq63 (ltn rfl) (ltn rfl) rfl rfl rfl ?_
  refine go_getr (pc' := 80) cx 38 fX4_43 dX4_walk_77 kq37 (ltn rfl) (ltn rfl) rfl rfl rfl ?_
  refine go_iconst (pc' := 81) cx 1 dX4_walk_80 rfl rfl ?_
  refine go_aaldk (pc' := 82) cx 1 40 dX4_walk_81 kq38 (Nat.le_of_ble_eq_true rfl) (ltn rfl) (ltn rfl) (vpi (k := 1) (a := 2) (ltn rfl) rfl rfl) (cli (k := 1) (a := 2) (ltn rfl) rfl) rfl rfl ?_
  refine go_iload_n (pc' := 83) cx dX4_walk_82 rfl rfl ?_
  refine go_iald (pc' := 84) cx (g 40 1) dX4_walk_83 kq40 (ltn rfl) (vpi (k := 1) (a := 2) (ltn rfl) rfl rfl) ((congrArg ((up2 (up2 (up2 g 66 0 (g 39 0)) 67 0 (g 40 0)) 66 1 (g 39 1)) 40) (cli (k := 1) (a := 2) (ltn rfl) rfl)).trans ((up2_n (up2 (up2 g 66 0 (g 39 0)) 67 0 (g 40 0)) (g 39 1) (Or.inl (Nat.ne_of_beq_eq_false rfl))).trans ((up2_n (up2 g 66 0 (g 39 0)) (g 40 0) (Or.inl (Nat.ne_of_beq_eq_false rfl))).trans (up2_n g (g 39 0) (Or.inl (Nat.ne_of_beq_eq_false rfl)))))) rfl ?_
  refine go_iastk (pc' := 85) cx 1 dX4_walk_84 kq67 (ltn rfl) (vpi (k := 1) (a := 2) (ltn rfl) rfl rfl) (cli (k := 1) (a := 2) (ltn rfl) rfl) rfl ?_
  refine go_iinc (pc' := 88) cx 2 dX4_walk_85 rfl rfl (ltn rfl) [(2, .int 2), (0, .ref (E.2.1 63)), (1, .int 0)] rfl rfl ?_
  refine go_goto cx 2 dX4_walk_88 rfl ?_
  refine go_iload_n (pc' := 3) cx dX4_walk_2 rfl rfl ?_
  refine go_iconst (pc' := 4) cx 4 dX4_walk_3 rfl rfl ?_
  refine go_icmp_ge (pc' := 7) cx 91 dX4_walk_4 rfl rfl (fun hh => absurd hh (by decide)) (fun _ => ?_)
  refine go_aload_n (pc' := 8) cx dX4_walk_7 rfl rfl ?_
  refine go_getr (pc' := 11) cx 64 fX4_27 dX4_walk_8 kq63 (ltn rfl) (ltn rfl) rfl rfl rfl ?_
  refine go_getr (pc' := 14) cx 65 fX4_43 dX4_walk_11 kq64 (ltn rfl) (ltn rfl) rfl rfl rfl ?_
  refine go_iconst (pc' := 15) cx 0 dX4_walk_14 rfl rfl ?_
  refine go_aaldk (pc' := 16) cx 0 66 dX4_walk_15 kq65 (Nat.le_of_ble_eq_true rfl) (ltn rfl) (ltn rfl) (vpi (k := 0) (a := 1) (ltn rfl) rfl rfl) (cli (k := 0) (a := 1) (ltn rfl) rfl) rfl rfl ?_
  refine go_iload_n (pc' := 17) cx dX4_walk_16 rfl rfl ?_
  refine go_iload_n (pc' := 18) cx dX4_walk_17 rfl rfl ?_
  refine go_if_le (pc' := 21) cx 34 dX4_walk_18 rfl rfl (fun _ => ?_) (fun hh => absurd hh (by decide))
  refine go_aload_n (pc' := 35) cx dX4_walk_34 rfl rfl ?_
  refine go_getr (pc' := 38) cx 37 fX4_23 dX4_walk_35 kq63 (ltn rfl) (ltn rfl) rfl rfl rfl ?_
  refine go_getr (pc' := 41) cx 38 fX4_43 dX4_walk_38 kq37 (ltn rfl) (ltn rfl) rfl rfl rfl ?_
  refine go_iconst (pc' := 42) cx 0 dX4_walk_41 rfl rfl ?_
  refine go_aaldk (pc' := 43) cx 0 39 dX4_walk_42 kq38 (Nat.le_of_ble_eq_true rfl) (ltn rfl) (ltn rfl) (vpi (k := 0) (a := 1) (ltn rfl) rfl rfl) (cli (k := 0) (a := 1) (ltn rfl) rfl) rfl rfl ?_
  refine go_iload_n (pc' := 44) cx dX4_walk_43 rfl rfl ?_
  refine go_iald (pc' := 45) cx (g 39 2) dX4_walk_44 kq39 (ltn rfl) (vpi (k := 2) (a := 3) (ltn rfl) rfl rfl) ((congrArg ((up2 (up2 (up2 (up2 g 66 0 (g 39 0)) 67 0 (g 40 0)) 66 1 (g 39 1)) 67 1 (g 40 1)) 39) (cli (k := 2) (a := 3) (ltn rfl) rfl)).trans ((up2_n (up2 (up2 (up2 g 66 0 (g 39 0)) 67 0 (g 40 0)) 66 1 (g 39 1)) (g 40 1) (Or.inl (Nat.ne_of_beq_eq_false rfl))).trans ((up2_n (up2 (up2 g 66 0 (g 39 0)) 67 0 (g 40 0)) (g 39 1) (Or.inl (Nat.ne_of_beq_eq_false rfl))).trans ((up2_n (up2 g 66 0 (g 39 0)) (g 40 0) (Or.inl (Nat.ne_of_beq_eq_false rfl))).trans (up2_n g (g 39 0) (Or.inl (Nat.ne_of_beq_eq_false rfl))))))) rfl ?_
  refine go_iastk (pc' := 46) cx 2 dX4_walk_45 kq66 (ltn rfl) (vpi (k := 2) (a := 3) (ltn rfl) rfl rfl) (cli (k := 2) (a := 3) (ltn rfl) rfl) rfl ?_
  refine go_aload_n (pc' := 47) cx dX4_walk_46 rfl rfl ?_
  refine go_getr (pc' := 50) cx 64 fX4_27 dX4_walk_47 kq63 (ltn rfl) (ltn rfl) rfl rfl rfl ?_
  refine go_getr (pc' := 53) cx 65 fX4_43 dX4_walk_50 kq64 (ltn rfl) (ltn rfl) rfl rfl rfl ?_
  refine go_iconst (pc' := 54) cx 1 dX4_walk_53 rfl rfl ?_
  refine go_aaldk (pc' := 55) cx 1 67 dX4_walk_54 kq65 (Nat.le_of_ble_eq_true rfl) (ltn rfl) (ltn rfl) (vpi (k := 1) (a := 2) (ltn rfl) rfl rfl) (cli (k := 1) (a := 2) (ltn rfl) rfl) rfl rfl ?_
  refine go_iload_n (pc' := 56) cx dX4_walk_55 rfl rfl ?_
  refine go_iload_n (pc' := 57) cx dX4_walk_56 rfl rfl ?_
  refine go_if_le (pc' := 60) cx 73 dX4_walk_57 rfl rfl (fun _ => ?_) (fun hh => absurd hh (by decide))
  refine go_aload_n (pc' := 74) cx dX4_walk_73 rfl rfl ?_
  refine go_getr (pc' := 77) cx 37 fX4_23 dX4_walk_74 kq63 (ltn rfl) (ltn rfl) rfl rfl rfl ?_
  refine go_getr (pc' := 80) cx 38 fX4_43 dX4_walk_77 kq37 (ltn rfl) (ltn rfl) rfl rfl rfl ?_
  refine go_iconst (pc' := 81) cx 1 dX4_walk_80 rfl rfl ?_
  refine go_aaldk (pc' := 82) cx 1 40 dX4_walk_81 kq38 (Nat.le_of_ble_eq_true rfl) (ltn rfl) (ltn rfl) (vpi (k := 1) (a := 2) (ltn rfl) rfl rfl) (cli (k := 1) (a := 2) (ltn rfl) rfl) rfl rfl ?_
  refine go_iload_n (pc' := 83) cx dX4_walk_82 rfl rfl ?_
  refine go_iald (pc' := 84) cx (g 40 2) dX4_walk_83 kq40 (ltn rfl) (vpi (k := 2) (a := 3) (ltn rfl) rfl rfl) ((congrArg ((up2 (up2 (up2 (up2 (up2 g 66 0 (g 39 0)) 67 0 (g 40 0)) 66 1 (g 39 1)) 67 1 (g 40 1)) 66 2 (g 39 2)) 40) (cli (k := 2) (a := 3) (ltn rfl) rfl)).trans ((up2_n (up2 (up2 (up2 (up2 g 66 0 (g 39 0)) 67 0 (g 40 0)) 66 1 (g 39 1)) 67 1 (g 40 1)) (g 39 2) (Or.inl (Nat.ne_of_beq_eq_false rfl))).trans ((up2_n (up2 (up2 (up2 g 66 0 (g 39 0)) 67 0 (g 40 0)) 66 1 (g 39 1)) (g 40 1) (Or.inl (Nat.ne_of_beq_eq_false rfl))).trans ((up2_n (up2 (up2 g 66 0 (g 39 0)) 67 0 (g 40 0)) (g 39 1) (Or.inl (Nat.ne_of_beq_eq_false rfl))).trans ((up2_n (up2 g 66 0 (g 39 0)) (g 40 0) (Or.inl (Nat.ne_of_beq_eq_false rfl))).trans (up2_n g (g 39 0) (Or.inl (Nat.ne_of_beq_eq_false rfl)))))))) rfl ?_
  refine go_iastk (pc' := 85) cx 2 dX4_walk_84 kq67 (ltn rfl) (vpi (k := 2) (a := 3) (ltn rfl) rfl rfl) (cli (k := 2) (a := 3) (ltn rfl) rfl) rfl ?_
  refine go_iinc (pc' := 88) cx 3 dX4_walk_85 rfl rfl (ltn rfl) [(2, .int 3), (0, .ref (E.2.1 63)), (1, .int 0)] rfl rfl ?_
  refine go_goto cx 2 dX4_walk_88 rfl ?_
  refine go_iload_n (pc' := 3) cx dX4_walk_2 rfl rfl ?_
  refine go_iconst (pc' := 4) cx 4 dX4_walk_3 rfl rfl ?_
  refine go_icmp_ge (pc' := 7) cx 91 dX4_walk_4 rfl rfl (fun hh => absurd hh (by decide)) (fun _ => ?_)
  refine go_aload_n (pc' := 8) cx dX4_walk_7 rfl rfl ?_
  refine go_getr (pc' := 11) cx 64 fX4_27 dX4_walk_8 kq63 (ltn rfl) (ltn rfl) rfl rfl rfl ?_
  refine go_getr (pc' := 14) cx 65 fX4_43 dX4_walk_11 kq64 (ltn rfl) (ltn rfl) rfl rfl rfl ?_
  refine go_iconst (pc' := 15) cx 0 dX4_walk_14 rfl rfl ?_
  refine go_aaldk (pc' := 16) cx 0 66 dX4_walk_15 kq65 (Nat.le_of_ble_eq_true rfl) (ltn rfl) (ltn rfl) (vpi (k := 0) (a := 1) (ltn rfl) rfl rfl) (cli (k := 0) (a := 1) (ltn rfl) rfl) rfl rfl ?_
  refine go_iload_n (pc' := 17) cx dX4_walk_16 rfl rfl ?_
  refine go_iload_n (pc' := 18) cx dX4_walk_17 rfl rfl ?_
  refine go_if_le (pc' := 21) cx 34 dX4_walk_18 rfl rfl (fun _ => ?_) (fun hh => absurd hh (by decide))
  refine go_aload_n (pc' := 35) cx dX4_walk_34 rfl rfl ?_
  refine go_getr (pc' := 38) cx 37 fX4_23 dX4_walk_35 kq63 (ltn rfl) (ltn rfl) rfl rfl rfl ?_
  refine go_getr (pc' := 41) cx 38 fX4_43 dX4_walk_38 kq37 (ltn rfl) (ltn rfl) rfl rfl rfl ?_
  refine go_iconst (pc' := 42) cx 0 dX4_walk_41 rfl rfl ?_
  refine go_aaldk (pc' := 43) cx 0 39 dX4_walk_42 kq38 (Nat.le_of_ble_eq_true rfl) (ltn rfl) (ltn rfl) (vpi (k := 0) (a := 1) (ltn rfl) rfl rfl) (cli (k := 0) (a := 1) (ltn rfl) rfl) rfl rfl ?_
  refine go_iload_n (pc' := 44) cx dX4_walk_43 rfl rfl ?_
  refine go_iald (pc' := 45) cx (g 39 3) dX4_walk_44 kq39 (ltn rfl) (vpi (k := 3) (a := 4) (ltn rfl) rfl rfl) ((congrArg ((up2 (up2 (up2 (up2 (up2 (up2 g 66 0 (g 39 0)) 67 0 (g 40 0)) 66 1 (g 39 1)) 67 1 (g 40 1)) 66 2 (g 39 2)) 67 2 (g 40 2)) 39) (cli (k := 3) (a := 4) (ltn rfl) rfl)).trans ((up2_n (up2 (up2 (up2 (up2 (up2 g 66 0 (g 39 0)) 67 0 (g 40 0)) 66 1 (g 39 1)) 67 1 (g 40 1)) 66 2 (g 39 2)) (g 40 2) (Or.inl (Nat.ne_of_beq_eq_false rfl))).trans ((up2_n (up2 (up2 (up2 (up2 g 66 0 (g 39 0)) 67 0 (g 40 0)) 66 1 (g 39 1)) 67 1 (g 40 1)) (g 39 2) (Or.inl (Nat.ne_of_beq_eq_false rfl))).trans ((up2_n (up2 (up2 (up2 g 66 0 (g 39 0)) 67 0 (g 40 0)) 66 1 (g 39 1)) (g 40 1) (Or.inl (Nat.ne_of_beq_eq_false rfl))).trans ((up2_n (up2 (up2 g 66 0 (g 39 0)) 67 0 (g 40 0)) (g 39 1) (Or.inl (Nat.ne_of_beq_eq_false rfl))).trans ((up2_n (up2 g 66 0 (g 39 0)) (g 40 0) (Or.inl (Nat.ne_of_beq_eq_false rfl))).trans (up2_n g (g 39 0) (Or.inl (Nat.ne_of_beq_eq_false rfl))))))))) rfl ?_
  refine go_iastk (pc' := 46) cx 3 dX4_walk_45 kq66 (ltn rfl) (vpi (k := 3) (a := 4) (ltn rfl) rfl rfl) (cli (k := 3) (a := 4) (ltn rfl) rfl) rfl ?_
  refine go_aload_n (pc' := 47) cx dX4_walk_46 rfl rfl ?_
  refine go_getr (pc' := 50) cx 64 fX4_27 dX4_walk_47 kq63 (ltn rfl) (ltn rfl) rfl rfl rfl ?_
  refine go_getr (pc' := 53) cx 65 fX4_43 dX4_walk_50 kq64 (ltn rfl) (ltn rfl) rfl rfl rfl ?_
  refine go_iconst (pc' := 54) cx 1 dX4_walk_53 rfl rfl ?_
  refine go_aaldk (pc' := 55) cx 1 67 dX4_walk_54 kq65 (Nat.le_of_ble_eq_true rfl) (ltn rfl) (ltn rfl) (vpi (k := 1) (a := 2) (ltn rfl) rfl rfl) (cli (k := 1) (a := 2) (ltn rfl) rfl) rfl rfl ?_
  refine go_iload_n (pc' := 56) cx dX4_walk_55 rfl rfl ?_
  refine go_iload_n (pc' := 57) cx dX4_walk_56 rfl rfl ?_
  refine go_if_le (pc' := 60) cx 73 dX4_walk_57 rfl rfl (fun _ => ?_) (fun hh => absurd hh (by decide))
  refine go_aload_n (pc' := 74) cx dX4_walk_73 rfl rfl ?_
  refine go_getr (pc' := 77) cx 37 fX4_23 dX4_walk_74 kq63 (ltn rfl) (ltn rfl) rfl rfl rfl ?_
  refine go_getr (pc' := 80) cx 38 fX4_43 dX4_walk_77 kq37 (ltn rfl) (ltn rfl) rfl rfl rfl ?_
  refine go_iconst (pc' := 81) cx 1 dX4_walk_80 rfl rfl ?_
  refine go_aaldk (pc' := 82) cx 1 40 dX4_walk_81 kq38 (Nat.le_of_ble_eq_true rfl) (ltn rfl) (ltn rfl) (vpi (k := 1) (a := 2) (ltn rfl) rfl rfl) (cli (k := 1) (a := 2) (ltn rfl) rfl) rfl rfl ?_
  refine go_iload_n (pc' := 83) cx dX4_walk_82 rfl rfl ?_
  refine go_iald (pc' := 84) cx (g 40 3) dX4_walk_83 kq40 (ltn rfl) (vpi (k := 3) (a := 4) (ltn rfl) rfl rfl) ((congrArg ((up2 (up2 (up2 (up2 (up2 (up2 (up2 g 66 0 (g 39 0)) 67 0 (g 40 0)) 66 1 (g 39 1)) 67 1 (g 40 1)) 66 2 (g 39 2)) 67 2 (g 40 2)) 66 3 (g 39 3)) 40) (cli (k := 3) (a := 4) (ltn rfl) rfl)).trans ((up2_n (up2 (up2 (up2 (up2 (up2 (up2 g 66 0 (g 39 0)) 67 0 (g 40 0)) 66 1 (g 39 1)) 67 1 (g 40 1)) 66 2 (g 39 2)) 67 2 (g 40 2)) (g 39 3) (Or.inl (Nat.ne_of_beq_eq_false rfl))).trans ((up2_n (up2 (up2 (up2 (up2 (up2 g 66 0 (g 39 0)) 67 0 (g 40 0)) 66 1 (g 39 1)) 67 1 (g 40 1)) 66 2 (g 39 2)) (g 40 2) (Or.inl (Nat.ne_of_beq_eq_false rfl))).trans ((up2_n (up2 (up2 (up2 (up2 g 66 0 (g 39 0)) 67 0 (g 40 0)) 66 1 (g 39 1)) 67 1 (g 40 1)) (g 39 2) (Or.inl (Nat.ne_of_beq_eq_false rfl))).trans ((up2_n (up2 (up2 (up2 g 66 0 (g 39 0)) 67 0 (g 40 0)) 66 1 (g 39 1)) (g 40 1) (Or.inl (Nat.ne_of_beq_eq_false rfl))).trans ((up2_n (up2 (up2 g 66 0 (g 39 0)) 67 0 (g 40 0)) (g 39 1) (Or.inl (Nat.ne_of_beq_eq_false rfl))).trans ((up2_n (up2 g 66 0 (g 39 0)) (g 40 0) (Or.inl (Nat.ne_of_beq_eq_false rfl))).trans (up2_n g (g 39 0) (Or.inl (Nat.ne_of_beq_eq_false rfl)))))))))) rfl ?_
  refine go_iastk (pc' := 85) cx 3 dX4_walk_84 kq67 (ltn rfl) (vpi (k := 3) (a := 4) (ltn rfl) rfl rfl) (cli (k := 3) (a := 4) (ltn rfl) rfl) rfl ?_
  refine go_iinc (pc' := 88) cx 4 dX4_walk_85 rfl rfl (ltn rfl) [(2, .int 4), (0, .ref (E.2.1 63)), (1, .int 0)] rfl rfl ?_
  refine go_goto cx 2 dX4_walk_88 rfl ?_
  refine go_iload_n (pc' := 3) cx dX4_walk_2 rfl rfl ?_
  refine go_iconst (pc' := 4) cx 4 dX4_walk_3 rfl rfl ?_
  refine go_icmp_ge (pc' := 7) cx 91 dX4_walk_4 rfl rfl (fun _ => ?_) (fun hh => absurd hh (by decide))
  refine go_iload_n (pc' := 92) cx dX4_walk_91 rfl rfl ?_
  refine go_istore_n (pc' := 93) cx dX4_walk_92 (ltn rfl) [(2, .int 0), (0, .ref (E.2.1 63)), (1, .int 0)] rfl rfl ?_
  refine go_sub [0, 1] [(2, .int 0), (0, .ref (E.2.1 63))] rfl ?_
  refine walk_loop hP cx vn 0 _ (Nat.zero_add vn) wk0 (fun G2 hI2 => ?_)
  refine go_vret cx rfl dX4_walk_158 ?_
  exact ZV.mk hI2

set_option maxHeartbeats 4000000 in
set_option maxRecDepth 20000 in
theorem c_X4_walk1 (l : Launch) (E : Ev) {g : IG} {o : Option Nat} {z : Int64} {vn ru : Nat} {M : TM} {f : Nat} (hP : wkP g vn ru M) (hf : f + 1 ≤ vn) (hD : ∀ u, u < f + 1 → wkD M (aW g) g u) : Ct l E 88 yX4_walk cX4_walk 3 none 5 [.ref (E.2.1 63), .int (nI (f + 1))] g (RFo o) z (ZV (RFo o) z (fun g1 => wkI M (aW g) g g1 vn)) := by
  refine Ct.of (lv0 := [(0, .ref (E.2.1 63)), (1, .int (nI (f + 1)))]) (by decide) (Nat.le_of_ble_eq_true rfl) rfl ?_
  intro p e s m below meth c cx
  have hvn8 := hP.1
  refine go_iconst (pc' := 1) cx 0 dX4_walk_0 rfl rfl ?_
  refine go_istore_n (pc' := 2) cx dX4_walk_1 (ltn rfl) [(2, .int 0), (0, .ref (E.2.1 63)), (1, .int (nI (f + 1)))] rfl rfl ?_
  refine go_iload_n (pc' := 3) cx dX4_walk_2 rfl rfl ?_
  refine go_iconst (pc' := 4) cx 4 dX4_walk_3 rfl rfl ?_
  refine go_icmp_ge (pc' := 7) cx 91 dX4_walk_4 rfl rfl (fun hh => absurd hh (by decide)) (fun _ => ?_)
  refine go_aload_n (pc' := 8) cx dX4_walk_7 rfl rfl ?_
  refine go_getr (pc' := 11) cx 64 fX4_27 dX4_walk_8 kq63 (ltn rfl) (ltn rfl) rfl rfl rfl ?_
  refine go_getr (pc' := 14) cx 65 fX4_43 dX4_walk_11 kq64 (ltn rfl) (ltn rfl) rfl rfl rfl ?_
  refine go_iconst (pc' := 15) cx 0 dX4_walk_14 rfl rfl ?_
  refine go_aaldk (pc' := 16) cx 0 66 dX4_walk_15 kq65 (Nat.le_of_ble_eq_true rfl) (ltn rfl) (ltn rfl) (vpi (k := 0) (a := 1) (ltn rfl) rfl rfl) (cli (k := 0) (a := 1) (ltn rfl) rfl) rfl rfl ?_
  refine go_iload_n (pc' := 17) cx dX4_walk_16 rfl rfl ?_
  refine go_iload_n (pc' := 18) cx dX4_walk_17 rfl rfl ?_
  refine go_if_le (pc' := 21) cx 34 dX4_walk_18 rfl rfl (fun hh => absurd ((nI_leI (a := f + 1) (b := 0) (by omega) (by omega)).mp hh) (by omega)) (fun _ => ?_)
  refine go_aload_n (pc' := 22) cx dX4_walk_21 rfl rfl ?_
  refine go_getr (pc' := 25) cx 77 fX4_11 dX4_walk_22 kq63 (ltn rfl) (ltn rfl) rfl rfl rfl ?_
  refine go_iload_n (pc' := 26) cx dX4_walk_25 rfl rfl ?_
  refine go_iconst (pc' := 27) cx 1 dX4_walk_26 rfl rfl ?_
  refine go_isub (pc' := 28) cx dX4_walk_27 rfl ?_
  refine go_val (w := .int (nI f)) (congrArg Value.int (nI_pred f)) ?_
  refine go_aaldk (pc' := 29) cx f (78 + f) dX4_walk_28 kq77 (Nat.le_of_ble_eq_true rfl) (ltn rfl) (ltn rfl) (vpi (k := f) (a := 8) (by omega) rfl rfl) (cli (k := f) (a := 8) (by omega) rfl) (bh_r (by omega)) rfl ?_
  refine go_iload_n (pc' := 30) cx dX4_walk_29 rfl rfl ?_
  refine go_iald (pc' := 31) cx (g (78 + f) 0) dX4_walk_30 (bh_k (by omega)) (by omega) (vpi (k := 0) (a := 1) (ltn rfl) rfl rfl) (congrArg (g (78 + f)) (cli (k := 0) (a := 1) (ltn rfl) rfl)) rfl ?_
  refine go_goto cx 45 dX4_walk_31 rfl ?_
  refine go_iastk (pc' := 46) cx 0 dX4_walk_45 kq66 (ltn rfl) (vpi (k := 0) (a := 1) (ltn rfl) rfl rfl) (cli (k := 0) (a := 1) (ltn rfl) rfl) rfl ?_
  refine go_aload_n (pc' := 47) cx dX4_walk_46 rfl rfl ?_
  refine go_getr (pc' := 50) cx 64 fX4_27 dX4_walk_47 kq63 (ltn rfl) (ltn rfl) rfl rfl rfl ?_
  refine go_getr (pc' := 53) cx 65 fX4_43 dX4_walk_50 kq64 (ltn rfl) (ltn rfl) rfl rfl rfl ?_
  refine go_iconst (pc' := 54) cx 1 dX4_walk_53 rfl rfl ?_
  refine go_aaldk (pc' := 55) cx 1 67 dX4_walk_54 kq65 (Nat.le_of_ble_eq_true rfl) (ltn rfl) (ltn rfl) (vpi (k := 1) (a := 2) (ltn rfl) rfl rfl) (cli (k := 1) (a := 2) (ltn rfl) rfl) rfl rfl ?_
  refine go_iload_n (pc' := 56) cx dX4_walk_55 rfl rfl ?_
  refine go_iload_n (pc' := 57) cx dX4_walk_56 rfl rfl ?_
  refine go_if_le (pc' := 60) cx 73 dX4_walk_57 rfl rfl (fun hh => absurd ((nI_leI (a := f + 1) (b := 0) (by omega) (by omega)).mp hh) (by omega)) (fun _ => ?_)
  refine go_aload_n (pc' := 61) cx dX4_walk_60 rfl rfl ?_
  refine go_getr (pc' := 64) cx 77 fX4_11 dX4_walk_61 kq63 (ltn rfl) (ltn rfl) rfl rfl rfl ?_
  refine go_iload_n (pc' := 65) cx dX4_walk_64 rfl rfl ?_
  refine go_iconst (pc' := 66) cx 1 dX4_walk_65 rfl rfl ?_
  refine go_isub (pc' := 67) cx dX4_walk_66 rfl ?_
  refine go_val (w := .int (nI f)) (congrArg Value.int (nI_pred f)) ?_
  refine go_aaldk (pc' := 68) cx f (78 + f) dX4_walk_67 kq77 (Nat.le_of_ble_eq_true rfl) (ltn rfl) (ltn rfl) (vpi (k := f) (a := 8) (by omega) rfl rfl) (cli (k := f) (a := 8) (by omega) rfl) (bh_r (by omega)) rfl ?_
  refine go_iload_n (pc' := 69) cx dX4_walk_68 rfl rfl ?_
  refine go_iald (pc' := 70) cx (g (78 + f) 0) dX4_walk_69 (bh_k (by omega)) (by omega) (vpi (k := 0) (a := 1) (ltn rfl) rfl rfl) ((congrArg ((up2 g 66 0 (g (78 + f) 0)) (78 + f)) (cli (k := 0) (a := 1) (ltn rfl) rfl)).trans (up2_n g (g (78 + f) 0) (Or.inl (by omega)))) rfl ?_
  refine go_goto cx 84 dX4_walk_70 rfl ?_
  refine go_iastk (pc' := 85) cx 0 dX4_walk_84 kq67 (ltn rfl) (vpi (k := 0) (a := 1) (ltn rfl) rfl rfl) (cli (k := 0) (a := 1) (ltn rfl) rfl) rfl ?_
  refine go_iinc (pc' := 88) cx 1 dX4_walk_85 rfl rfl (ltn rfl) [(2, .int 1), (0, .ref (E.2.1 63)), (1, .int (nI (f + 1)))] rfl rfl ?_
  refine go_goto cx 2 dX4_walk_88 rfl ?_
  refine go_iload_n (pc' := 3) cx dX4_walk_2 rfl rfl ?_
  refine go_iconst (pc' := 4) cx 4 dX4_walk_3 rfl rfl ?_
  refine go_icmp_ge (pc' := 7) cx 91 dX4_walk_4 rfl rfl (fun hh => absurd hh (by decide)) (fun _ => ?_)
  refine go_aload_n (pc' := 8) cx dX4_walk_7 rfl rfl ?_
  refine go_getr (pc' := 11) cx 64 fX4_27 dX4_walk_8 kq63 (ltn rfl) (ltn rfl) rfl rfl rfl ?_
  refine go_getr (pc' := 14) cx 65 fX4_43 dX4_walk_11 kq64 (ltn rfl) (ltn rfl) rfl rfl rfl ?_
  refine go_iconst (pc' := 15) cx 0 dX4_walk_14 rfl rfl ?_
  refine go_aaldk (pc' := 16) cx 0 66 dX4_walk_15 kq65 (Nat.le_of_ble_eq_true rfl) (ltn rfl) (ltn rfl) (vpi (k := 0) (a := 1) (ltn rfl) rfl rfl) (cli (k := 0) (a := 1) (ltn rfl) rfl) rfl rfl ?_
  refine go_iload_n (pc' := 17) cx dX4_walk_16 rfl rfl ?_
  refine go_iload_n (pc' := 18) cx dX4_walk_17 rfl rfl ?_
  refine go_if_le (pc' := 21) cx 34 dX4_walk_18 rfl rfl (fun hh => absurd ((nI_leI (a := f + 1) (b := 0) (by omega) (by omega)).mp hh) (by omega)) (fun _ => ?_)
  refine go_aload_n (pc' := 22) cx dX4_walk_21 rfl rfl ?_
  refine go_getr (pc' := 25) cx 77 fX4_11 dX4_walk_22 kq63 (ltn rfl) (ltn rfl) rfl rfl rfl ?_
  refine go_iload_n (pc' := 26) cx dX4_walk_25 rfl rfl ?_
  refine go_iconst (pc' := 27) cx 1 dX4_walk_26 rfl rfl ?_
  refine go_isub (pc' := 28) cx dX4_walk_27 rfl ?_
  refine go_val (w := .int (nI f)) (congrArg Value.int (nI_pred f)) ?_
  refine go_aaldk (pc' := 29) cx f (78 + f) dX4_walk_28 kq77 (Nat.le_of_ble_eq_true rfl) (ltn rfl) (ltn rfl) (vpi (k := f) (a := 8) (by omega) rfl rfl) (cli (k := f) (a := 8) (by omega) rfl) (bh_r (by omega)) rfl ?_
  refine go_iload_n (pc' := 30) cx dX4_walk_29 rfl rfl ?_
  refine go_iald (pc' := 31) cx (g (78 + f) 1) dX4_walk_30 (bh_k (by omega)) (by omega) (vpi (k := 1) (a := 2) (ltn rfl) rfl rfl) ((congrArg ((up2 (up2 g 66 0 (g (78 + f) 0)) 67 0 (g (78 + f) 0)) (78 + f)) (cli (k := 1) (a := 2) (ltn rfl) rfl)).trans ((up2_n (up2 g 66 0 (g (78 + f) 0)) (g (78 + f) 0) (Or.inl (by omega))).trans (up2_n g (g (78 + f) 0) (Or.inl (by omega))))) rfl ?_
  refine go_goto cx 45 dX4_walk_31 rfl ?_
  refine go_iastk (pc' := 46) cx 1 dX4_walk_45 kq66 (ltn rfl) (vpi (k := 1) (a := 2) (ltn rfl) rfl rfl) (cli (k := 1) (a := 2) (ltn rfl) rfl) rfl ?_
  refine go_aload_n (pc' := 47) cx dX4_walk_46 rfl rfl ?_
  refine go_getr (pc' := 50) cx 64 fX4_27 dX4_walk_47 kq63 (ltn rfl) (ltn rfl) rfl rfl rfl ?_
  refine go_getr (pc' := 53) cx 65 fX4_43 dX4_walk_50 kq64 (ltn rfl) (ltn rfl) rfl rfl rfl ?_
  refine go_iconst (pc' := 54) cx 1 dX4_walk_53 rfl rfl ?_
  refine go_aaldk (pc' := 55) cx 1 67 dX4_walk_54 kq65 (Nat.le_of_ble_eq_true rfl) (ltn rfl) (ltn rfl) (vpi (k := 1) (a := 2) (ltn rfl) rfl rfl) (cli (k := 1) (a := 2) (ltn rfl) rfl) rfl rfl ?_
  refine go_iload_n (pc' := 56) cx dX4_walk_55 rfl rfl ?_
  refine go_iload_n (pc' := 57) cx dX4_walk_56 rfl rfl ?_
  refine go_if_le (pc' := 60) cx 73 dX4_walk_57 rfl rfl (fun hh => absurd ((nI_leI (a := f + 1) (b := 0) (by omega) (by omega)).mp hh) (by omega)) (fun _ => ?_)
  refine go_aload_n (pc' := 61) cx dX4_walk_60 rfl rfl ?_
  refine go_getr (pc' := 64) cx 77 fX4_11 dX4_walk_61 kq63 (ltn rfl) (ltn rfl) rfl rfl rfl ?_
  refine go_iload_n (pc' := 65) cx dX4_walk_64 rfl rfl ?_
  refine go_iconst (pc' := 66) cx 1 dX4_walk_65 rfl rfl ?_
  refine go_isub (pc' := 67) cx dX4_walk_66 rfl ?_
  refine go_val (w := .int (nI f)) (congrArg Value.int (nI_pred f)) ?_
  refine go_aaldk (pc' := 68) cx f (78 + f) dX4_walk_67 kq77 (Nat.le_of_ble_eq_true rfl) (ltn rfl) (ltn rfl) (vpi (k := f) (a := 8) (by omega) rfl rfl) (cli (k := f) (a := 8) (by omega) rfl) (bh_r (by omega)) rfl ?_
  refine go_iload_n (pc' := 69) cx dX4_walk_68 rfl rfl ?_
  refine go_iald (pc' := 70) cx (g (78 + f) 1) dX4_walk_69 (bh_k (by omega)) (by omega) (vpi (k := 1) (a := 2) (ltn rfl) rfl rfl) ((congrArg ((up2 (up2 (up2 g 66 0 (g (78 + f) 0)) 67 0 (g (78 + f) 0)) 66 1 (g (78 + f) 1)) (78 + f)) (cli (k := 1) (a := 2) (ltn rfl) rfl)).trans ((up2_n (up2 (up2 g 66 0 (g (78 + f) 0)) 67 0 (g (78 + f) 0)) (g (78 + f) 1) (Or.inl (by omega))).trans ((up2_n (up2 g 66 0 (g (78 + f) 0)) (g (78 + f) 0) (Or.inl (by omega))).trans (up2_n g (g (78 + f) 0) (Or.inl (by omega)))))) rfl ?_
  refine go_goto cx 84 dX4_walk_70 rfl ?_
  refine go_iastk (pc' := 85) cx 1 dX4_walk_84 kq67 (ltn rfl) (vpi (k := 1) (a := 2) (ltn rfl) rfl rfl) (cli (k := 1) (a := 2) (ltn rfl) rfl) rfl ?_
  refine go_iinc (pc' := 88) cx 2 dX4_walk_85 rfl rfl (ltn rfl) [(2, .int 2), (0, .ref (E.2.1 63)), (1, .int (nI (f + 1)))] rfl rfl ?_
  refine go_goto cx 2 dX4_walk_88 rfl ?_
  refine go_iload_n (pc' := 3) cx dX4_walk_2 rfl rfl ?_
  refine go_iconst (pc' := 4) cx 4 dX4_walk_3 rfl rfl ?_
  refine go_icmp_ge (pc' := 7) cx 91 dX4_walk_4 rfl rfl (fun hh => absurd hh (by decide)) (fun _ => ?_)
  refine go_aload_n (pc' := 8) cx dX4_walk_7 rfl rfl ?_
  refine go_getr (pc' := 11) cx 64 fX4_27 dX4_walk_8 kq63 (ltn rfl) (ltn rfl) rfl rfl rfl ?_
  refine go_getr (pc' := 14) cx 65 fX4_43 dX4_walk_11 kq64 (ltn rfl) (ltn rfl) rfl rfl rfl ?_
  refine go_iconst (pc' := 15) cx 0 dX4_walk_14 rfl rfl ?_
  refine go_aaldk (pc' := 16) cx 0 66 dX4_walk_15 kq65 (Nat.le_of_ble_eq_true rfl) (ltn rfl) (ltn rfl) (vpi (k := 0) (a := 1) (ltn rfl) rfl rfl) (cli (k := 0) (a := 1) (ltn rfl) rfl) rfl rfl ?_
  refine go_iload_n (pc' := 17) cx dX4_walk_16 rfl rfl ?_
  refine go_iload_n (pc' := 18) cx dX4_walk_17 rfl rfl ?_
  refine go_if_le (pc' := 21) cx 34 dX4_walk_18 rfl rfl (fun hh => absurd ((nI_leI (a := f + 1) (b := 0) (by omega) (by omega)).mp hh) (by omega)) (fun _ => ?_)
  refine go_aload_n (pc' := 22) cx dX4_walk_21 rfl rfl ?_
  refine go_getr (pc' := 25) cx 77 fX4_11 dX4_walk_22 kq63 (ltn rfl) (ltn rfl) rfl rfl rfl ?_
  refine go_iload_n (pc' := 26) cx dX4_walk_25 rfl rfl ?_
  refine go_iconst (pc' := 27) cx 1 dX4_walk_26 rfl rfl ?_
  refine go_isub (pc' := 28) cx dX4_walk_27 rfl ?_
  refine go_val (w := .int (nI f)) (congrArg Value.int (nI_pred f)) ?_
  refine go_aaldk (pc' := 29) cx f (78 + f) dX4_walk_28 kq77 (Nat.le_of_ble_eq_true rfl) (ltn rfl) (ltn rfl) (vpi (k := f) (a := 8) (by omega) rfl rfl) (cli (k := f) (a := 8) (by omega) rfl) (bh_r (by omega)) rfl ?_
  refine go_iload_n (pc' := 30) cx dX4_walk_29 rfl rfl ?_
  refine go_iald (pc' := 31) cx (g (78 + f) 2) dX4_walk_30 (bh_k (by omega)) (by omega) (vpi (k := 2) (a := 3) (ltn rfl) rfl rfl) ((congrArg ((up2 (up2 (up2 (up2 g 66 0 (g (78 + f) 0)) 67 0 (g (78 + f) 0)) 66 1 (g (78 + f) 1)) 67 1 (g (78 + f) 1)) (78 + f)) (cli (k := 2) (a := 3) (ltn rfl) rfl)).trans ((up2_n (up2 (up2 (up2 g 66 0 (g (78 + f) 0)) 67 0 (g (78 + f) 0)) 66 1 (g (78 + f) 1)) (g (78 + f) 1) (Or.inl (by omega))).trans ((up2_n (up2 (up2 g 66 0 (g (78 + f) 0)) 67 0 (g (78 + f) 0)) (g (78 + f) 1) (Or.inl (by omega))).trans ((up2_n (up2 g 66 0 (g (78 + f) 0)) (g (78 + f) 0) (Or.inl (by omega))).trans (up2_n g (g (78 + f) 0) (Or.inl (by omega))))))) rfl ?_
  refine go_goto cx 45 dX4_walk_31 rfl ?_
  refine go_iastk (pc' := 46) cx 2 dX4_walk_45 kq66 (ltn rfl) (vpi (k := 2) (a := 3) (ltn rfl) rfl rfl) (cli (k := 2) (a := 3) (ltn rfl) rfl) rfl ?_
  refine go_aload_n (pc' := 47) cx dX4_walk_46 rfl rfl ?_
  refine go_getr (pc' := 50) cx 64 fX4_27 dX4_walk_47 kq63 (ltn rfl) (ltn rfl) rfl rfl rfl ?_
  refine go_getr (pc' := 53) cx 65 fX4_43 dX4_walk_50 kq64 (ltn rfl) (ltn rfl) rfl rfl rfl ?_
  refine go_iconst (pc' := 54) cx 1 dX4_walk_53 rfl rfl ?_
  refine go_aaldk (pc' := 55) cx 1 67 dX4_walk_54 kq65 (Nat.le_of_ble_eq_true rfl) (ltn rfl) (ltn rfl) (vpi (k := 1) (a := 2) (ltn rfl) rfl rfl) (cli (k := 1) (a := 2) (ltn rfl) rfl) rfl rfl ?_
  refine go_iload_n (pc' := 56) cx dX4_walk_55 rfl rfl ?_
  refine go_iload_n (pc' := 57) cx dX4_walk_56 rfl rfl ?_
  refine go_if_le (pc' := 60) cx 73 dX4_walk_57 rfl rfl (fun hh => absurd ((nI_leI (a := f + 1) (b := 0) (by omega) (by omega)).mp hh) (by omega)) (fun _ => ?_)
  refine go_aload_n (pc' := 61) cx dX4_walk_60 rfl rfl ?_
  refine go_getr (pc' := 64) cx 77 fX4_11 dX4_walk_61 kq63 (ltn rfl) (ltn rfl) rfl rfl rfl ?_
  refine go_iload_n (pc' := 65) cx dX4_walk_64 rfl rfl ?_
  refine go_iconst (pc' := 66) cx 1 dX4_walk_65 rfl rfl ?_
  refine go_isub (pc' := 67) cx dX4_walk_66 rfl ?_
  refine go_val (w := .int (nI f)) (congrArg Value.int (nI_pred f)) ?_
  refine go_aaldk (pc' := 68) cx f (78 + f) dX4_walk_67 kq77 (Nat.le_of_ble_eq_true rfl) (ltn rfl) (ltn rfl) (vpi (k := f) (a := 8) (by omega) rfl rfl) (cli (k := f) (a := 8) (by omega) rfl) (bh_r (by omega)) rfl ?_
  refine go_iload_n (pc' := 69) cx dX4_walk_68 rfl rfl ?_
  refine go_iald (pc' := 70) cx (g (78 + f) 2) dX4_walk_69 (bh_k (by omega)) (by omega) (vpi (k := 2) (a := 3) (ltn rfl) rfl rfl) ((congrArg ((up2 (up2 (up2 (up2 (up2 g 66 0 (g (78 + f) 0)) 67 0 (g (78 + f) 0)) 66 1 (g (78 + f) 1)) 67 1 (g (78 + f) 1)) 66 2 (g (78 + f) 2)) (78 + f)) (cli (k := 2) (a := 3) (ltn rfl) rfl)).trans ((up2_n (up2 (up2 (up2 (up2 g 66 0 (g (78 + f) 0)) 67 0 (g (78 + f) 0)) 66 1 (g (78 + f) 1)) 67 1 (g (78 + f) 1)) (g (78 + f) 2) (Or.inl (by omega))).trans ((up2_n (up2 (up2 (up2 g 66 0 (g (78 + f) 0)) 67 0 (g (78 + f) 0)) 66 1 (g (78 + f) 1)) (g (78 + f) 1) (Or.inl (by omega))).trans ((up2_n (up2 (up2 g 66 0 (g (78 + f) 0)) 67 0 (g (78 + f) 0)) (g (78 + f) 1) (Or.inl (by omega))).trans ((up2_n (up2 g 66 0 (g (78 + f) 0)) (g (78 + f) 0) (Or.inl (by omega))).trans (up2_n g (g (78 + f) 0) (Or.inl (by omega)))))))) rfl ?_
  refine go_goto cx 84 dX4_walk_70 rfl ?_
  refine go_iastk (pc' := 85) cx 2 dX4_walk_84 kq67 (ltn rfl) (vpi (k := 2) (a := 3) (ltn rfl) rfl rfl) (cli (k := 2) (a := 3) (ltn rfl) rfl) rfl ?_
  refine go_iinc (pc' := 88) cx 3 dX4_walk_85 rfl rfl (ltn rfl) [(2, .int 3), (0, .ref (E.2.1 63)), (1, .int (nI (f + 1)))] rfl rfl ?_
  refine go_goto cx 2 dX4_walk_88 rfl ?_
  refine go_iload_n (pc' := 3) cx dX4_walk_2 rfl rfl ?_
  refine go_iconst (pc' := 4) cx 4 dX4_walk_3 rfl rfl ?_
  refine go_icmp_ge (pc' := 7) cx 91 dX4_walk_4 rfl rfl (fun hh => absurd hh (by decide)) (fun _ => ?_)
  refine go_aload_n (pc' := 8) cx dX4_walk_7 rfl rfl ?_
  refine go_getr (pc' := 11) cx 64 fX4_27 dX4_walk_8 kq63 (ltn rfl) (ltn rfl) rfl rfl rfl ?_
  refine go_getr (pc' := 14) cx 65 fX4_43 dX4_walk_11 kq64 (ltn rfl) (ltn rfl) rfl rfl rfl ?_
  refine go_iconst (pc' := 15) cx 0 dX4_walk_14 rfl rfl ?_
  refine go_aaldk (pc' := 16) cx 0 66 dX4_walk_15 kq65 (Nat.le_of_ble_eq_true rfl) (ltn rfl) (ltn rfl) (vpi (k := 0) (a := 1) (ltn rfl) rfl rfl) (cli (k := 0) (a := 1) (ltn rfl) rfl) rfl rfl ?_
  refine go_iload_n (pc' := 17) cx dX4_walk_16 rfl rfl ?_
  refine go_iload_n (pc' := 18) cx dX4_walk_17 rfl rfl ?_
  refine go_if_le (pc' := 21) cx 34 dX4_walk_18 rfl rfl (fun hh => absurd ((nI_leI (a := f + 1) (b := 0) (by omega) (by omega)).mp hh) (by omega)) (fun _ => ?_)
  refine go_aload_n (pc' := 22) cx dX4_walk_21 rfl rfl ?_
  refine go_getr (pc' := 25) cx 77 fX4_11 dX4_walk_22 kq63 (ltn rfl) (ltn rfl) rfl rfl rfl ?_
  refine go_iload_n (pc' := 26) cx dX4_walk_25 rfl rfl ?_
  refine go_iconst (pc' := 27) cx 1 dX4_walk_26 rfl rfl ?_
  refine go_isub (pc' := 28) cx dX4_walk_27 rfl ?_
  refine go_val (w := .int (nI f)) (congrArg Value.int (nI_pred f)) ?_
  refine go_aaldk (pc' := 29) cx f (78 + f) dX4_walk_28 kq77 (Nat.le_of_ble_eq_true rfl) (ltn rfl) (ltn rfl) (vpi (k := f) (a := 8) (by omega) rfl rfl) (cli (k := f) (a := 8) (by omega) rfl) (bh_r (by omega)) rfl ?_
  refine go_iload_n (pc' := 30) cx dX4_walk_29 rfl rfl ?_
  refine go_iald (pc' := 31) cx (g (78 + f) 3) dX4_walk_30 (bh_k (by omega)) (by omega) (vpi (k := 3) (a := 4) (ltn rfl) rfl rfl) ((congrArg ((up2 (up2 (up2 (up2 (up2 (up2 g 66 0 (g (78 + f) 0)) 67 0 (g (78 + f) 0)) 66 1 (g (78 + f) 1)) 67 1 (g (78 + f) 1)) 66 2 (g (78 + f) 2)) 67 2 (g (78 + f) 2)) (78 + f)) (cli (k := 3) (a := 4) (ltn rfl) rfl)).trans ((up2_n (up2 (up2 (up2 (up2 (up2 g 66 0 (g (78 + f) 0)) 67 0 (g (78 + f) 0)) 66 1 (g (78 + f) 1)) 67 1 (g (78 + f) 1)) 66 2 (g (78 + f) 2)) (g (78 + f) 2) (Or.inl (by omega))).trans ((up2_n (up2 (up2 (up2 (up2 g 66 0 (g (78 + f) 0)) 67 0 (g (78 + f) 0)) 66 1 (g (78 + f) 1)) 67 1 (g (78 + f) 1)) (g (78 + f) 2) (Or.inl (by omega))).trans ((up2_n (up2 (up2 (up2 g 66 0 (g (78 + f) 0)) 67 0 (g (78 + f) 0)) 66 1 (g (78 + f) 1)) (g (78 + f) 1) (Or.inl (by omega))).trans ((up2_n (up2 (up2 g 66 0 (g (78 + f) 0)) 67 0 (g (78 + f) 0)) (g (78 + f) 1) (Or.inl (by omega))).trans ((up2_n (up2 g 66 0 (g (78 + f) 0)) (g (78 + f) 0) (Or.inl (by omega))).trans (up2_n g (g (78 + f) 0) (Or.inl (by omega))))))))) rfl ?_
  refine go_goto cx 45 dX4_walk_31 rfl ?_
  refine go_iastk (pc' := 46) cx 3 dX4_walk_45 kq66 (ltn rfl) (vpi (k := 3) (a := 4) (ltn rfl) rfl rfl) (cli (k := 3) (a := 4) (ltn rfl) rfl) rfl ?_
  refine go_aload_n (pc' := 47) cx dX4_walk_46 rfl rfl ?_
  refine go_getr (pc' := 50) cx 64 fX4_27 dX4_walk_47 kq63 (ltn rfl) (ltn rfl) rfl rfl rfl ?_
  refine go_getr (pc' := 53) cx 65 fX4_43 dX4_walk_50 kq64 (ltn rfl) (ltn rfl) rfl rfl rfl ?_
  refine go_iconst (pc' := 54) cx 1 dX4_walk_53 rfl rfl ?_
  refine go_aaldk (pc' := 55) cx 1 67 dX4_walk_54 kq65 (Nat.le_of_ble_eq_true rfl) (ltn rfl) (ltn rfl) (vpi (k := 1) (a := 2) (ltn rfl) rfl rfl) (cli (k := 1) (a := 2) (ltn rfl) rfl) rfl rfl ?_
  refine go_iload_n (pc' := 56) cx dX4_walk_55 rfl rfl ?_
  refine go_iload_n (pc' := 57) cx dX4_walk_56 rfl rfl ?_
  refine go_if_le (pc' := 60) cx 73 dX4_walk_57 rfl rfl (fun hh => absurd ((nI_leI (a := f + 1) (b := 0) (by omega) (by omega)).mp hh) (by omega)) (fun _ => ?_)
  refine go_aload_n (pc' := 61) cx dX4_walk_60 rfl rfl ?_
  refine go_getr (pc' := 64) cx 77 fX4_11 dX4_walk_61 kq63 (ltn rfl) (ltn rfl) rfl rfl rfl ?_
  refine go_iload_n (pc' := 65) cx dX4_walk_64 rfl rfl ?_
  refine go_iconst (pc' := 66) cx 1 dX4_walk_65 rfl rfl ?_
  refine go_isub (pc' := 67) cx dX4_walk_66 rfl ?_
  refine go_val (w := .int (nI f)) (congrArg Value.int (nI_pred f)) ?_
  refine go_aaldk (pc' := 68) cx f (78 + f) dX4_walk_67 kq77 (Nat.le_of_ble_eq_true rfl) (ltn rfl) (ltn rfl) (vpi (k := f) (a := 8) (by omega) rfl rfl) (cli (k := f) (a := 8) (by omega) rfl) (bh_r (by omega)) rfl ?_
  refine go_iload_n (pc' := 69) cx dX4_walk_68 rfl rfl ?_
  refine go_iald (pc' := 70) cx (g (78 + f) 3) dX4_walk_69 (bh_k (by omega)) (by omega) (vpi (k := 3) (a := 4) (ltn rfl) rfl rfl) ((congrArg ((up2 (up2 (up2 (up2 (up2 (up2 (up2 g 66 0 (g (78 + f) 0)) 67 0 (g (78 + f) 0)) 66 1 (g (78 + f) 1)) 67 1 (g (78 + f) 1)) 66 2 (g (78 + f) 2)) 67 2 (g (78 + f) 2)) 66 3 (g (78 + f) 3)) (78 + f)) (cli (k := 3) (a := 4) (ltn rfl) rfl)).trans ((up2_n (up2 (up2 (up2 (up2 (up2 (up2 g 66 0 (g (78 + f) 0)) 67 0 (g (78 + f) 0)) 66 1 (g (78 + f) 1)) 67 1 (g (78 + f) 1)) 66 2 (g (78 + f) 2)) 67 2 (g (78 + f) 2)) (g (78 + f) 3) (Or.inl (by omega))).trans ((up2_n (up2 (up2 (up2 (up2 (up2 g 66 0 (g (78 + f) 0)) 67 0 (g (78 + f) 0)) 66 1 (g (78 + f) 1)) 67 1 (g (78 + f) 1)) 66 2 (g (78 + f) 2)) (g (78 + f) 2) (Or.inl (by omega))).trans ((up2_n (up2 (up2 (up2 (up2 g 66 0 (g (78 + f) 0)) 67 0 (g (78 + f) 0)) 66 1 (g (78 + f) 1)) 67 1 (g (78 + f) 1)) (g (78 + f) 2) (Or.inl (by omega))).trans ((up2_n (up2 (up2 (up2 g 66 0 (g (78 + f) 0)) 67 0 (g (78 + f) 0)) 66 1 (g (78 + f) 1)) (g (78 + f) 1) (Or.inl (by omega))).trans ((up2_n (up2 (up2 g 66 0 (g (78 + f) 0)) 67 0 (g (78 + f) 0)) (g (78 + f) 1) (Or.inl (by omega))).trans ((up2_n (up2 g 66 0 (g (78 + f) 0)) (g (78 + f) 0) (Or.inl (by omega))).trans (up2_n g (g (78 + f) 0) (Or.inl (by omega)))))))))) rfl ?_
  refine go_goto cx 84 dX4_walk_70 rfl ?_
  refine go_iastk (pc' := 85) cx 3 dX4_walk_84 kq67 (ltn rfl) (vpi (k := 3) (a := 4) (ltn rfl) rfl rfl) (cli (k := 3) (a := 4) (ltn rfl) rfl) rfl ?_
  refine go_iinc (pc' := 88) cx 4 dX4_walk_85 rfl rfl (ltn rfl) [(2, .int 4), (0, .ref (E.2.1 63)), (1, .int (nI (f + 1)))] rfl rfl ?_
  refine go_goto cx 2 dX4_walk_88 rfl ?_
  refine go_iload_n (pc' := 3) cx dX4_walk_2 rfl rfl ?_
  refine go_iconst (pc' := 4) cx 4 dX4_walk_3 rfl rfl ?_
  refine go_icmp_ge (pc' := 7) cx 91 dX4_walk_4 rfl rfl (fun _ => ?_) (fun hh => absurd hh (by decide))
  refine go_iload_n (pc' := 92) cx dX4_walk_91 rfl rfl ?_
  refine go_istore_n (pc' := 93) cx dX4_walk_92 (ltn rfl) [(2, .int (nI (f + 1))), (0, .ref (E.2.1 63)), (1, .int (nI (f + 1)))] rfl rfl ?_
  refine go_sub [0, 1] [(2, .int (nI (f + 1))), (0, .ref (E.2.1 63))] rfl ?_
  refine walk_loop hP cx (vn - (f + 1)) (f + 1) _ (by omega) (wk1 (by omega) hD) (fun G2 hI2 => ?_)
  refine go_vret cx rfl dX4_walk_158 ?_
  exact ZV.mk hI2
