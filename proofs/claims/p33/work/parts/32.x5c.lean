/-! THE CLASS: what would be best, hands that are drawn -/
theorem mns_0 {f : Nat → Int32} {n : Nat} (h : mns f n = none) : mns f (n + 1) = some n := by
  unfold mns
  rw [h]
theorem mns_l {f : Nat → Int32} {n w : Nat} (h : mns f n = some w) (h2 : f n < f w) : mns f (n + 1) = some n := by
  unfold mns
  rw [h]
  exact if_pos h2
theorem mns_g {f : Nat → Int32} {n w : Nat} (h : mns f n = some w) (h2 : ¬ f n < f w) : mns f (n + 1) = some w := by
  unfold mns
  rw [h]
  exact if_neg h2
theorem CWp.up {M : TM} {a : Sv} {hn vn : Nat} {G G1 : IG} {n : Nat} (h : CWp M a G n) {w k : Nat} {x : Int32} (hd : HdS a hn vn) (hh : hn ≤ 5) (hnv : n ≤ vn) (hw : w = 8 ∨ w = 9) (hk : n ≤ k) (h1 : ∀ i, i ≠ 64 + 2 + w → G1 i = G i) : CWp M (up2 a w k x) G1 n := by
  intro v hv
  have e : ∀ w' k', k' < n → up2 a w k x w' k' = a w' k' := fun w' k' q => up2_n _ _ (Or.inr (by omega))
  have e2 : ∀ w', w' ≠ w → up2 a w k x w' = a w' := fun w' q => funext fun b => up2_n _ _ (Or.inl q)
  have hR : ∀ u, u < n → Rv a (up2 a w k x) u := fun u hu => by
    refine ⟨by rw [e2 2 (by omega)]; exact E4.rf, by rw [e2 3 (by omega)], by rw [e2 7 (by omega)], (e 8 u hu).symm, (e 9 u hu).symm, fun w' hw' => by rw [e2 w' (by omega)]⟩
  have hC := fun u hu => crs_E4 (M := M) (a := a) (b := up2 a w k x) (n := n) (by rw [e2 0 (by omega)]; exact E4.rf) (by rw [e2 1 (by omega)]; exact E4.rf) hR u hu
  obtain ⟨d1, d2, d3⟩ := h v hv
  rw [h1 _ (by omega), h1 _ (by omega), h1 _ (by omega)]
  refine ⟨d1.tr (hC (v + 1) (by omega)).1, d2.trans ?_, d3.trans ?_⟩
  · exact ofA_E4 (by rw [e2 2 (by omega)]; exact E4.rf) (hC (v + 1) (by omega)).1 (hC (v + 1) (by omega)).2
  · exact ctA_E4 (hR v hv) (hC v (by omega)).1 (hC v (by omega)).2
theorem CWp.le {M : TM} {a : Sv} {G : IG} {n m : Nat} (h : CWp M a G n) (hm : m ≤ n) : CWp M a G m := fun v hv => h v (by omega)
theorem c_walkvT (l : Launch) (E : Ev) {G : IG} {o : Option Nat} {z : Int64} {a : Sv} {hn vn ru : Nat} {M : TM} (hB : XB hn vn ru) (hT : TxM G ru M) (hH : TH a hn vn ru G) {f : Nat} (hf : f ≤ vn) (hD : CWp M a G f) : Ct l E 88 yX4_walk cX4_walk 3 none 5 [.ref (E.2.1 63), .int (nI f)] G (RFo o) z (ZV (RFo o) z (fun G1 => Fr wkS G G1 ∧ CW M a G1 vn)) := by
  cases f with
  | zero => exact c_walk0T l E hB hT hH
  | succ f => exact c_walk1T l E hB hT hH hf hD
/-- of one visit the weeks -/
def weE (M : TM) (a : Sv) (vn v w : Nat) : Int32 := BDs M (up2 a 8 v (nI w)) vn
def whenF (M : TM) (a : Sv) (vn : Nat) (x1 x2 : Int32) : Int32 :=
  if inI (nI vn) x1 = 0 then -2 else if fosI x2 = 0 then -2 else if x2 = 0 then oi (mns (weE M a vn (clI x1)) 21) else ov (weE M a vn (clI x1)) (mns (weE M a vn (clI x1)) 21)
theorem up8_req {a b : Sv} {hn vn w v : Nat} {x : Int32} (h : ∀ i k, ¬ (i = w ∧ k = v) → a i k = b i k) : Req (up2 a w v x) (up2 b w v x) hn vn := by
  have e : ∀ i k, up2 a w v x i k = up2 b w v x i k := fun i k => by
    unfold up2
    by_cases h1 : i = w
    · by_cases h2 : k = v
      · rw [if_pos h1, if_pos h2, if_pos h1, if_pos h2]
      · rw [if_pos h1, if_neg h2, if_pos h1, if_neg h2]
        exact h i k (by omega)
    · rw [if_neg h1, if_neg h1]
      exact h i k (by omega)
  exact ⟨fun p _ => e _ _, fun p _ => e _ _, fun p _ => e _ _, e _ _, fun i k _ _ => e _ _, fun i k _ _ => e _ _⟩
/-- in n seeds: how often it is no worse than now -/
def chN (M : TM) (a : Sv) (hn vn : Nat) (z : Int32) : Nat → Nat
  | 0 => 0
  | k + 1 => if BDs M (drS a (z + nI k) hn vn) vn ≤ BDs M a vn then chN M a hn vn z k + 1 else chN M a hn vn z k
theorem chN_le {M : TM} {a : Sv} {hn vn : Nat} {z : Int32} : ∀ n, chN M a hn vn z n ≤ n
  | 0 => Nat.le_refl _
  | n + 1 => by
    have ih := chN_le (M := M) (a := a) (hn := hn) (vn := vn) (z := z) n
    unfold chN
    split <;> omega
def chanceF (M : TM) (a : Sv) (hn vn : Nat) (x1 x2 x3 : Int32) : Int64 :=
  if x2 < 1 then -4611686018427387904 else if 20 < x2 then -4611686018427387904 else if fosI x3 = 0 then -4611686018427387904 else if hn = 0 then -4611686018427387904
  else if x3 = 0 then (nI (chN M a hn vn x1 (clI x2) / cdF (chN M a hn vn x1 (clI x2)) (clI x2) (clI x2))).toInt64 else (nI (clI x2 / cdF (chN M a hn vn x1 (clI x2)) (clI x2) (clI x2))).toInt64
theorem cdF_pos {a b : Nat} : ∀ d, 0 < cdF a b d
  | 0 => Nat.one_pos
  | d + 1 => by
    have ih := cdF_pos (a := a) (b := b) d
    unfold cdF
    split
    · omega
    · split
      · split
        · omega
        · exact ih
      · exact ih
theorem cdF_le {a b : Nat} : ∀ d, cdF a b d ≤ d + 1
  | 0 => Nat.le_refl _
  | d + 1 => by
    have ih := cdF_le (a := a) (b := b) d
    unfold cdF
    split
    · omega
    · split
      · split
        · omega
        · omega
      · omega

set_option maxHeartbeats 1000000 in
set_option maxRecDepth 20000 in
theorem mark_loop {l : Launch} {E : Ev} {Z : ZT} {g : IG} {o : Option Nat} {z : Int64} {p : Program} {e : Env} {s : State} {m : MethodId} {args : Array Value} {below : List Frame} {meth : Method} {c : Code} {hn vn ru tc : Nat} {M : Nat → TM} (hX : XP g hn vn ru tc M) {a0 : Sv} (y1 : Int32) (cx : Cx p s m args meth c E 88 cX5_marked 3 yX5_marked.cls (some .int)) : ∀ (k v : Nat) (G : IG), v + k = vn → Fr scr g G → TH (filS a0 9 3 v) hn vn ru G → (∀ G', Fr scr g G' → TH (filS a0 9 3 vn) hn vn ru G' → Go p l e (rmd 8) s m args below meth c E 88 3 Z G' (RFo o) z 66 [(0, .ref (E.2.1 0)), (1, .int y1)] []) → Go p l e (rmd 8) s m args below meth c E 88 3 Z G (RFo o) z 35 [(2, .int (nI v)), (0, .ref (E.2.1 0)), (1, .int y1)] [] := by
  obtain ⟨hhn5, hvn8, hruc, htc6⟩ := id hX.1
  intro k
  induction k with
  | zero =>
    intro v G hk hF hH kk
    have hq : v = vn := by omega
    subst hq
    refine go_iload_n (pc' := 36) cx dX5_marked_35 rfl rfl ?_
    refine go_aload_n (pc' := 37) cx dX5_marked_36 rfl rfl ?_
    refine go_getr (pc' := 40) cx 37 fX5_66 dX5_marked_37 kq0 (ltn rfl) (ltn rfl) rfl rfl rfl ?_
    refine go_geti (pc' := 43) cx (nI v) fX5_143 dX5_marked_40 kq37 (ltn rfl) (ltn rfl) rfl ((congrFun (hF 37 (by unfold scr; omega)) 3).trans hX.2.2.1) rfl ?_
    refine go_icmp_ge (pc' := 46) cx 66 dX5_marked_43 rfl rfl (fun _ => ?_) (fun hh => absurd ((nI_leI (a := v) (b := v) (by omega) (by omega)).mpr (Nat.le_refl _)) hh)
    refine go_sub [1, 2] [(0, .ref (E.2.1 0)), (1, .int y1)] rfl ?_
    exact kk G hF hH
  | succ k ih =>
    intro v G hk hF hH kk
    refine go_iload_n (pc' := 36) cx dX5_marked_35 rfl rfl ?_
    refine go_aload_n (pc' := 37) cx dX5_marked_36 rfl rfl ?_
    refine go_getr (pc' := 40) cx 37 fX5_66 dX5_marked_37 kq0 (ltn rfl) (ltn rfl) rfl rfl rfl ?_
    refine go_geti (pc' := 43) cx (nI vn) fX5_143 dX5_marked_40 kq37 (ltn rfl) (ltn rfl) rfl ((congrFun (hF 37 (by unfold scr; omega)) 3).trans hX.2.2.1) rfl ?_
    refine go_icmp_ge (pc' := 46) cx 66 dX5_marked_43 rfl rfl (fun hh => absurd ((nI_leI (a := vn) (b := v) (by omega) (by omega)).mp hh) (by omega)) (fun _ => ?_)
    refine go_aload_n (pc' := 47) cx dX5_marked_46 rfl rfl ?_
    refine go_getr (pc' := 50) cx 63 fX5_78 dX5_marked_47 kq0 (ltn rfl) (ltn rfl) rfl rfl rfl ?_
    refine go_getr (pc' := 53) cx 64 fX5_114 dX5_marked_50 kq63 (ltn rfl) (ltn rfl) rfl rfl rfl ?_
    refine go_bipush (pc' := 55) cx 9 dX5_marked_53 rfl rfl ?_
    refine go_iload_n (pc' := 56) cx dX5_marked_55 rfl rfl ?_
    refine go_iconst (pc' := 57) cx 3 dX5_marked_56 rfl rfl ?_
    refine go_cVV (pc' := 60) cx (c_writeT l E (G := G) hF hH (w := 9) (k := v) (by omega) (by omega) (by omega) (nI v) (fun _ => rfl) (by omega) 3 ((hH).2.2.2.2.up v 3 (by omega))) mX1_write lX5_92 dX5_marked_57 kq64 (ltn rfl) (ltn rfl) rfl rfl rfl rfl (ltn rfl) (Nat.le_of_ble_eq_true rfl) (Nat.le_of_ble_eq_true rfl) rfl (fun G_1 hG_1 => ?_)
    refine go_iinc (pc' := 63) cx (nI (v + 1)) dX5_marked_60 rfl (nI_1 v) (ltn rfl) [(2, .int (nI (v + 1))), (0, .ref (E.2.1 0)), (1, .int y1)] rfl rfl ?_
    refine go_goto cx 35 dX5_marked_63 rfl ?_
    exact ih (v + 1) G_1 (by omega) hG_1.1 (hG_1.2.1) kk

set_option maxHeartbeats 1000000 in
set_option maxRecDepth 20000 in
theorem c_X5_marked (l : Launch) (E : Ev) {g : IG} {o : Option Nat} {z : Int64} {hn vn ru tc : Nat} {M : Nat → TM} (hX : XP g hn vn ru tc M)  : Ct l E 88 yX5_marked cX5_marked 3 (some .int) 8 [.ref (E.2.1 0)] g (RFo o) z (ZI (RFo o) z (fun x g1 => x = markF (M ru) (svC g 37) vn ∧ Fr scr g g1)) := by
  refine Ct.of (lv0 := [(0, .ref (E.2.1 0))]) (by decide) (Nat.le_of_ble_eq_true rfl) rfl ?_
  intro p e s m below meth c cx
  obtain ⟨hhn5, hvn8, hruc, htc6⟩ := id hX.1
  refine go_aload_n (pc' := 1) cx dX5_marked_0 rfl rfl ?_
  refine go_cVI (pc' := 4) cx (c_X5_badnessNow l E (G := g) hX Fr.rf) mX5_badnessNow lX5_159 dX5_marked_1 kq0 (ltn rfl) (ltn rfl) rfl rfl rfl rfl (ltn rfl) (Nat.le_of_ble_eq_true rfl) (Nat.le_of_ble_eq_true rfl) rfl (fun y_2 G_1 hG_1 => ?_)
  have ey_2 := hG_1.1
  subst ey_2
  refine go_istore_n (pc' := 5) cx dX5_marked_4 (ltn rfl) [(1, .int (BDs (M ru) (svC g 37) vn)), (0, .ref (E.2.1 0))] rfl rfl ?_
  refine go_aload_n (pc' := 6) cx dX5_marked_5 rfl rfl ?_
  refine go_getr (pc' := 9) cx 63 fX5_78 dX5_marked_6 kq0 (ltn rfl) (ltn rfl) rfl rfl rfl ?_
  refine go_cVV (pc' := 12) cx (c_beginT l E (G := G_1) hX hG_1.2) mX4_begin lX5_111 dX5_marked_9 kq63 (ltn rfl) (ltn rfl) rfl rfl rfl rfl (ltn rfl) (Nat.le_of_ble_eq_true rfl) (Nat.le_of_ble_eq_true rfl) rfl (fun G_3 hG_3 => ?_)
  refine go_aload_n (pc' := 13) cx dX5_marked_12 rfl rfl ?_
  refine go_getr (pc' := 16) cx 63 fX5_78 dX5_marked_13 kq0 (ltn rfl) (ltn rfl) rfl rfl rfl ?_
  refine go_getr (pc' := 19) cx 64 fX5_114 dX5_marked_16 kq63 (ltn rfl) (ltn rfl) rfl rfl rfl ?_
  refine go_iconst (pc' := 20) cx 3 dX5_marked_19 rfl rfl ?_
  refine go_iconst (pc' := 21) cx 0 dX5_marked_20 rfl rfl ?_
  refine go_aload_n (pc' := 22) cx dX5_marked_21 rfl rfl ?_
  refine go_getr (pc' := 25) cx 37 fX5_66 dX5_marked_22 kq0 (ltn rfl) (ltn rfl) rfl rfl rfl ?_
  refine go_iconst (pc' := 26) cx 2 dX5_marked_25 rfl rfl ?_
  refine go_iconst (pc' := 27) cx 0 dX5_marked_26 rfl rfl ?_
  refine go_cVi (pc' := 30) cx (c_readT l E (G := G_3) hG_3.1 (w := 2) (q := 0) (by omega) (by omega) (by omega)) mX1_read lX5_89 dX5_marked_27 kq37 (ltn rfl) (ltn rfl) rfl rfl rfl rfl (ltn rfl) (Nat.le_of_ble_eq_true rfl) (Nat.le_of_ble_eq_true rfl) rfl ?_
  refine go_cVV (pc' := 33) cx (c_writeT l E (G := G_3) hG_3.1 hG_3.2 (w := 3) (k := 0) (by omega) (by omega) (by omega) 0 (fun q => absurd rfl q) (by omega) (svC g 37 2 0) ((hG_3.2).2.2.2.2.up 0 (svC g 37 2 0) (by omega))) mX1_write lX5_92 dX5_marked_30 kq64 (ltn rfl) (ltn rfl) rfl rfl rfl rfl (ltn rfl) (Nat.le_of_ble_eq_true rfl) (Nat.le_of_ble_eq_true rfl) rfl (fun G_4 hG_4 => ?_)
  refine go_iconst (pc' := 34) cx 0 dX5_marked_33 rfl rfl ?_
  refine go_istore_n (pc' := 35) cx dX5_marked_34 (ltn rfl) [(2, .int 0), (1, .int (BDs (M ru) (svC g 37) vn)), (0, .ref (E.2.1 0))] rfl rfl ?_
  refine go_sub [0, 2, 1] [(2, .int 0), (0, .ref (E.2.1 0)), (1, .int (BDs (M ru) (svC g 37) vn))] rfl ?_
  refine mark_loop hX (a0 := (up2 (svC g 37) 3 0 (svC g 37 2 0))) _ cx vn 0 G_4 (Nat.zero_add vn) hG_4.1 hG_4.2.1 (fun G hF hH => ?_)
  refine go_aload_n (pc' := 67) cx dX5_marked_66 rfl rfl ?_
  refine go_getr (pc' := 70) cx 63 fX5_78 dX5_marked_67 kq0 (ltn rfl) (ltn rfl) rfl rfl rfl ?_
  refine go_iconst (pc' := 71) cx 0 dX5_marked_70 rfl rfl ?_
  have hTG_51 := hX.tx hF hX.1.2.2.1
  refine go_cVV (pc' := 74) cx (c_walk0T l E (G := G) hX.b hTG_51 hH) mX4_walk lX5_149 dX5_marked_71 kq63 (ltn rfl) (ltn rfl) rfl rfl rfl rfl (ltn rfl) (Nat.le_of_ble_eq_true rfl) (Nat.le_of_ble_eq_true rfl) rfl (fun G_51 hG_51 => ?_)
  have hG_51f := (hF).tr (hG_51.1.mono (fun _ => wk_scr))
  have hG_51t := (hH).wk hG_51.1
  have hG_51c := hG_51.2
  refine go_aload_n (pc' := 75) cx dX5_marked_74 rfl rfl ?_
  refine go_getr (pc' := 78) cx 63 fX5_78 dX5_marked_75 kq0 (ltn rfl) (ltn rfl) rfl rfl rfl ?_
  refine go_cVi (pc' := 81) cx (c_badT l E (G := G_51) hX.b hG_51t (hG_51c).1) mX4_badness lX5_134 dX5_marked_78 kq63 (ltn rfl) (ltn rfl) rfl rfl rfl rfl (ltn rfl) (Nat.le_of_ble_eq_true rfl) (Nat.le_of_ble_eq_true rfl) rfl ?_
  refine go_iload_n (pc' := 82) cx dX5_marked_81 rfl rfl ?_
  refine go_isub (pc' := 83) cx dX5_marked_82 rfl ?_
  refine go_iret cx rfl dX5_marked_83 ?_
  exact ZI.mk ⟨rfl, hG_51f⟩

set_option maxHeartbeats 1000000 in
set_option maxRecDepth 20000 in
theorem whom_in {l : Launch} {E : Ev} {Z : ZT} {g : IG} {o : Option Nat} {z : Int64} {p : Program} {e : Env} {s : State} {m : MethodId} {args : Array Value} {below : List Frame} {meth : Method} {c : Code} {hn vn ru tc : Nat} {M : Nat → TM} (hX : XP g hn vn ru tc M) {a0 : Sv} {h : Nat} (hh : h < hn) (b1 l1 x1 : Int32) (cx : Cx p s m args meth c E 88 cX5_whom 6 yX5_whom.cls (some .int)) : ∀ (k v : Nat) (G : IG), v + k = vn → Fr scr g G → TH (filS a0 7 (nI h) v) hn vn ru G → (∀ G', Fr scr g G' → TH (filS a0 7 (nI h) vn) hn vn ru G' → Go p l e (rmd 7) s m args below meth c E 88 6 Z G' (RFo o) z 73 [(4, .int (nI h)), (3, .int b1), (2, .int l1), (0, .ref (E.2.1 0)), (1, .int x1)] []) → Go p l e (rmd 7) s m args below meth c E 88 6 Z G (RFo o) z 39 [(5, .int (nI v)), (4, .int (nI h)), (3, .int b1), (2, .int l1), (0, .ref (E.2.1 0)), (1, .int x1)] [] := by
  obtain ⟨hhn5, hvn8, hruc, htc6⟩ := id hX.1
  intro k
  induction k with
  | zero =>
    intro v G hk hF hH kk
    have hq : v = vn := by omega
    subst hq
    refine go_iload (pc' := 41) cx dX5_whom_39 rfl rfl ?_
    refine go_aload_n (pc' := 42) cx dX5_whom_41 rfl rfl ?_
    refine go_getr (pc' := 45) cx 37 fX5_66 dX5_whom_42 kq0 (ltn rfl) (ltn rfl) rfl rfl rfl ?_
    refine go_geti (pc' := 48) cx (nI v) fX5_143 dX5_whom_45 kq37 (ltn rfl) (ltn rfl) rfl ((congrFun (hF 37 (by unfold scr; omega)) 3).trans hX.2.2.1) rfl ?_
    refine go_icmp_ge (pc' := 51) cx 73 dX5_whom_48 rfl rfl (fun _ => ?_) (fun hh => absurd ((nI_leI (a := v) (b := v) (by omega) (by omega)).mpr (Nat.le_refl _)) hh)
    refine go_sub [1, 2, 3, 4, 5] [(4, .int (nI h)), (3, .int b1), (2, .int l1), (0, .ref (E.2.1 0)), (1, .int x1)] rfl ?_
    exact kk G hF hH
  | succ k ih =>
    intro v G hk hF hH kk
    refine go_iload (pc' := 41) cx dX5_whom_39 rfl rfl ?_
    refine go_aload_n (pc' := 42) cx dX5_whom_41 rfl rfl ?_
    refine go_getr (pc' := 45) cx 37 fX5_66 dX5_whom_42 kq0 (ltn rfl) (ltn rfl) rfl rfl rfl ?_
    refine go_geti (pc' := 48) cx (nI vn) fX5_143 dX5_whom_45 kq37 (ltn rfl) (ltn rfl) rfl ((congrFun (hF 37 (by unfold scr; omega)) 3).trans hX.2.2.1) rfl ?_
    refine go_icmp_ge (pc' := 51) cx 73 dX5_whom_48 rfl rfl (fun hh => absurd ((nI_leI (a := vn) (b := v) (by omega) (by omega)).mp hh) (by omega)) (fun _ => ?_)
    refine go_aload_n (pc' := 52) cx dX5_whom_51 rfl rfl ?_
    refine go_getr (pc' := 55) cx 63 fX5_78 dX5_whom_52 kq0 (ltn rfl) (ltn rfl) rfl rfl rfl ?_
    refine go_getr (pc' := 58) cx 64 fX5_114 dX5_whom_55 kq63 (ltn rfl) (ltn rfl) rfl rfl rfl ?_
    refine go_bipush (pc' := 60) cx 7 dX5_whom_58 rfl rfl ?_
    refine go_iload (pc' := 62) cx dX5_whom_60 rfl rfl ?_
    refine go_iload (pc' := 64) cx dX5_whom_62 rfl rfl ?_
    refine go_cVV (pc' := 67) cx (c_writeT l E (G := G) hF hH (w := 7) (k := v) (by omega) (by omega) (by omega) (nI v) (fun _ => rfl) (by omega) (nI h) ((hH).2.2.2.2.up7 v hh)) mX1_write lX5_92 dX5_whom_64 kq64 (ltn rfl) (ltn rfl) rfl rfl rfl rfl (ltn rfl) (Nat.le_of_ble_eq_true rfl) (Nat.le_of_ble_eq_true rfl) rfl (fun G_1 hG_1 => ?_)
    refine go_iinc (pc' := 70) cx (nI (v + 1)) dX5_whom_67 rfl (nI_1 v) (ltn rfl) [(5, .int (nI (v + 1))), (4, .int (nI h)), (3, .int b1), (2, .int l1), (0, .ref (E.2.1 0)), (1, .int x1)] rfl rfl ?_
    refine go_goto cx 39 dX5_whom_70 rfl ?_
    exact ih (v + 1) G_1 (by omega) hG_1.1 (hG_1.2.1) kk

set_option maxHeartbeats 1000000 in
set_option maxRecDepth 20000 in
theorem whom_loop {l : Launch} {E : Ev} {Z : ZT} {g : IG} {o : Option Nat} {z : Int64} {p : Program} {e : Env} {s : State} {m : MethodId} {args : Array Value} {below : List Frame} {meth : Method} {c : Code} {hn vn ru tc : Nat} {M : Nat → TM} (hX : XP g hn vn ru tc M) (x1 : Int32) (cx : Cx p s m args meth c E 88 cX5_whom 6 yX5_whom.cls (some .int)) : ∀ (k h : Nat) (G : IG), h + k = hn → Fr scr g G → (∃ a0, TH a0 hn vn ru G ∧ ∀ i k, i ≠ 7 → a0 i k = svC g 37 i k) → (∀ G', Fr scr g G' → Go p l e (rmd 7) s m args below meth c E 88 6 Z G' (RFo o) z 113 [(3, .int (oi (mns (whE (M ru) (svC g 37) vn) hn))), (2, .int (ov (whE (M ru) (svC g 37) vn) (mns (whE (M ru) (svC g 37) vn) hn))), (0, .ref (E.2.1 0)), (1, .int x1)] []) → Go p l e (rmd 7) s m args below meth c E 88 6 Z G (RFo o) z 24 [(4, .int (nI h)), (3, .int (oi (mns (whE (M ru) (svC g 37) vn) h))), (2, .int (ov (whE (M ru) (svC g 37) vn) (mns (whE (M ru) (svC g 37) vn) h))), (0, .ref (E.2.1 0)), (1, .int x1)] [] := by
  obtain ⟨hhn5, hvn8, hruc, htc6⟩ := id hX.1
  intro k
  induction k with
  | zero =>
    intro h G hk hF hH kk
    have hq : h = hn := by omega
    subst hq
    obtain ⟨a0, hH, ha0⟩ := hH
    refine go_iload (pc' := 26) cx dX5_whom_24 rfl rfl ?_
    refine go_aload_n (pc' := 27) cx dX5_whom_26 rfl rfl ?_
    refine go_getr (pc' := 30) cx 37 fX5_66 dX5_whom_27 kq0 (ltn rfl) (ltn rfl) rfl rfl rfl ?_
    refine go_geti (pc' := 33) cx (nI h) fX5_96 dX5_whom_30 kq37 (ltn rfl) (ltn rfl) rfl ((congrFun (hF 37 (by unfold scr; omega)) 2).trans hX.2.1) rfl ?_
    refine go_icmp_ge (pc' := 36) cx 113 dX5_whom_33 rfl rfl (fun _ => ?_) (fun hh => absurd ((nI_leI (a := h) (b := h) (by omega) (by omega)).mpr (Nat.le_refl _)) hh)
    refine go_sub [1, 2, 3, 4] [(3, .int (oi (mns (whE (M ru) (svC g 37) vn) h))), (2, .int (ov (whE (M ru) (svC g 37) vn) (mns (whE (M ru) (svC g 37) vn) h))), (0, .ref (E.2.1 0)), (1, .int x1)] rfl ?_
    exact kk G hF
  | succ k ih =>
    intro h G hk hF hH kk
    obtain ⟨a0, hH, ha0⟩ := hH
    cases hq : mns (whE (M ru) (svC g 37) vn) h with
    | none =>
      refine go_iload (pc' := 26) cx dX5_whom_24 rfl rfl ?_
      refine go_aload_n (pc' := 27) cx dX5_whom_26 rfl rfl ?_
      refine go_getr (pc' := 30) cx 37 fX5_66 dX5_whom_27 kq0 (ltn rfl) (ltn rfl) rfl rfl rfl ?_
      refine go_geti (pc' := 33) cx (nI hn) fX5_96 dX5_whom_30 kq37 (ltn rfl) (ltn rfl) rfl ((congrFun (hF 37 (by unfold scr; omega)) 2).trans hX.2.1) rfl ?_
      refine go_icmp_ge (pc' := 36) cx 113 dX5_whom_33 rfl rfl (fun hh => absurd ((nI_leI (a := hn) (b := h) (by omega) (by omega)).mp hh) (by omega)) (fun _ => ?_)
      refine go_iconst (pc' := 37) cx 0 dX5_whom_36 rfl rfl ?_
      refine go_istore (pc' := 39) cx dX5_whom_37 (ltn rfl) [(5, .int 0), (4, .int (nI h)), (3, .int (-1)), (2, .int (-1)), (0, .ref (E.2.1 0)), (1, .int x1)] rfl rfl ?_
      refine whom_in hX (a0 := a0) (h := h) (by omega) _ _ _ cx vn 0 G (Nat.zero_add vn) hF hH (fun G9 hF9 hH9 => ?_)
      have hb9 : BDs (M ru) (filS a0 7 (nI h) vn) vn = (whE (M ru) (svC g 37) vn) h := (filS_req (hn := hn) (Or.inl rfl) ha0).bd hH9.2.2.2.2 hhn5
      refine go_aload_n (pc' := 74) cx dX5_whom_73 rfl rfl ?_
      refine go_getr (pc' := 77) cx 63 fX5_78 dX5_whom_74 kq0 (ltn rfl) (ltn rfl) rfl rfl rfl ?_
      refine go_iconst (pc' := 78) cx 0 dX5_whom_77 rfl rfl ?_
      have hTG_51 := hX.tx hF9 hX.1.2.2.1
      refine go_cVV (pc' := 81) cx (c_walk0T l E (G := G9) hX.b hTG_51 hH9) mX4_walk lX5_149 dX5_whom_78 kq63 (ltn rfl) (ltn rfl) rfl rfl rfl rfl (ltn rfl) (Nat.le_of_ble_eq_true rfl) (Nat.le_of_ble_eq_true rfl) rfl (fun G_51 hG_51 => ?_)
      have hG_51f := (hF9).tr (hG_51.1.mono (fun _ => wk_scr))
      have hG_51t := (hH9).wk hG_51.1
      have hG_51c := hG_51.2
      refine go_aload_n (pc' := 82) cx dX5_whom_81 rfl rfl ?_
      refine go_getr (pc' := 85) cx 63 fX5_78 dX5_whom_82 kq0 (ltn rfl) (ltn rfl) rfl rfl rfl ?_
      refine go_cVi (pc' := 88) cx (hb9 ▸ (c_badT l E (G := G_51) hX.b hG_51t (hG_51c).1)) mX4_badness lX5_134 dX5_whom_85 kq63 (ltn rfl) (ltn rfl) rfl rfl rfl rfl (ltn rfl) (Nat.le_of_ble_eq_true rfl) (Nat.le_of_ble_eq_true rfl) rfl ?_
      refine go_istore (pc' := 90) cx dX5_whom_88 (ltn rfl) [(5, .int ((whE (M ru) (svC g 37) vn) h)), (4, .int (nI h)), (3, .int (-1)), (2, .int (-1)), (0, .ref (E.2.1 0)), (1, .int x1)] rfl rfl ?_
      refine go_iload_n (pc' := 91) cx dX5_whom_90 rfl rfl ?_
      refine go_iconst (pc' := 92) cx (-1) dX5_whom_91 rfl rfl ?_
      refine go_icmp_eq (pc' := 95) cx 101 dX5_whom_92 rfl rfl (fun _ => ?_) (fun hh => absurd rfl hh)
      refine go_iload (pc' := 103) cx dX5_whom_101 rfl rfl ?_
      refine go_istore_n (pc' := 104) cx dX5_whom_103 (ltn rfl) [(2, .int ((whE (M ru) (svC g 37) vn) h)), (5, .int ((whE (M ru) (svC g 37) vn) h)), (4, .int (nI h)), (3, .int (-1)), (0, .ref (E.2.1 0)), (1, .int x1)] rfl rfl ?_
      refine go_iload (pc' := 106) cx dX5_whom_104 rfl rfl ?_
      refine go_istore_n (pc' := 107) cx dX5_whom_106 (ltn rfl) [(3, .int (nI h)), (2, .int ((whE (M ru) (svC g 37) vn) h)), (5, .int ((whE (M ru) (svC g 37) vn) h)), (4, .int (nI h)), (0, .ref (E.2.1 0)), (1, .int x1)] rfl rfl ?_
      refine go_iinc (pc' := 110) cx (nI (h + 1)) dX5_whom_107 rfl (nI_1 h) (ltn rfl) [(4, .int (nI (h + 1))), (3, .int (nI h)), (2, .int ((whE (M ru) (svC g 37) vn) h)), (5, .int ((whE (M ru) (svC g 37) vn) h)), (0, .ref (E.2.1 0)), (1, .int x1)] rfl rfl ?_
      refine go_goto cx 24 dX5_whom_110 rfl ?_
      refine go_sub [0, 1, 2, 4, 5] [(4, .int (nI (h + 1))), (3, .int (nI h)), (2, .int ((whE (M ru) (svC g 37) vn) h)), (0, .ref (E.2.1 0)), (1, .int x1)] rfl ?_
      have hq2 : mns (whE (M ru) (svC g 37) vn) (h + 1) = some h := mns_0 hq
      have h9 := ih (h + 1) G_51 (by omega) hG_51f ⟨_, hG_51t, fun i k hi => (filS_r vn i k).trans ((if_neg (fun q => hi q.1)).trans (ha0 i k hi))⟩ kk
      rw [hq2] at h9
      exact h9
    | some w =>
      have hw := mns_lt hq
      refine go_iload (pc' := 26) cx dX5_whom_24 rfl rfl ?_
      refine go_aload_n (pc' := 27) cx dX5_whom_26 rfl rfl ?_
      refine go_getr (pc' := 30) cx 37 fX5_66 dX5_whom_27 kq0 (ltn rfl) (ltn rfl) rfl rfl rfl ?_
      refine go_geti (pc' := 33) cx (nI hn) fX5_96 dX5_whom_30 kq37 (ltn rfl) (ltn rfl) rfl ((congrFun (hF 37 (by unfold scr; omega)) 2).trans hX.2.1) rfl ?_
      refine go_icmp_ge (pc' := 36) cx 113 dX5_whom_33 rfl rfl (fun hh => absurd ((nI_leI (a := hn) (b := h) (by omega) (by omega)).mp hh) (by omega)) (fun _ => ?_)
      refine go_iconst (pc' := 37) cx 0 dX5_whom_36 rfl rfl ?_
      refine go_istore (pc' := 39) cx dX5_whom_37 (ltn rfl) [(5, .int 0), (4, .int (nI h)), (3, .int (nI w)), (2, .int ((whE (M ru) (svC g 37) vn) w)), (0, .ref (E.2.1 0)), (1, .int x1)] rfl rfl ?_
      refine whom_in hX (a0 := a0) (h := h) (by omega) _ _ _ cx vn 0 G (Nat.zero_add vn) hF hH (fun G9 hF9 hH9 => ?_)
      have hb9 : BDs (M ru) (filS a0 7 (nI h) vn) vn = (whE (M ru) (svC g 37) vn) h := (filS_req (hn := hn) (Or.inl rfl) ha0).bd hH9.2.2.2.2 hhn5
      refine go_aload_n (pc' := 74) cx dX5_whom_73 rfl rfl ?_
      refine go_getr (pc' := 77) cx 63 fX5_78 dX5_whom_74 kq0 (ltn rfl) (ltn rfl) rfl rfl rfl ?_
      refine go_iconst (pc' := 78) cx 0 dX5_whom_77 rfl rfl ?_
      have hTG_51 := hX.tx hF9 hX.1.2.2.1
      refine go_cVV (pc' := 81) cx (c_walk0T l E (G := G9) hX.b hTG_51 hH9) mX4_walk lX5_149 dX5_whom_78 kq63 (ltn rfl) (ltn rfl) rfl rfl rfl rfl (ltn rfl) (Nat.le_of_ble_eq_true rfl) (Nat.le_of_ble_eq_true rfl) rfl (fun G_51 hG_51 => ?_)
      have hG_51f := (hF9).tr (hG_51.1.mono (fun _ => wk_scr))
      have hG_51t := (hH9).wk hG_51.1
      have hG_51c := hG_51.2
      refine go_aload_n (pc' := 82) cx dX5_whom_81 rfl rfl ?_
      refine go_getr (pc' := 85) cx 63 fX5_78 dX5_whom_82 kq0 (ltn rfl) (ltn rfl) rfl rfl rfl ?_
      refine go_cVi (pc' := 88) cx (hb9 ▸ (c_badT l E (G := G_51) hX.b hG_51t (hG_51c).1)) mX4_badness lX5_134 dX5_whom_85 kq63 (ltn rfl) (ltn rfl) rfl rfl rfl rfl (ltn rfl) (Nat.le_of_ble_eq_true rfl) (Nat.le_of_ble_eq_true rfl) rfl ?_
      refine go_istore (pc' := 90) cx dX5_whom_88 (ltn rfl) [(5, .int ((whE (M ru) (svC g 37) vn) h)), (4, .int (nI h)), (3, .int (nI w)), (2, .int ((whE (M ru) (svC g 37) vn) w)), (0, .ref (E.2.1 0)), (1, .int x1)] rfl rfl ?_
      refine go_iload_n (pc' := 91) cx dX5_whom_90 rfl rfl ?_
      refine go_iconst (pc' := 92) cx (-1) dX5_whom_91 rfl rfl ?_
      refine go_icmp_eq (pc' := 95) cx 101 dX5_whom_92 rfl rfl (fun hh => absurd hh (nI_ne_m1 (by omega))) (fun _ => ?_)
      refine go_iload (pc' := 97) cx dX5_whom_95 rfl rfl ?_
      refine go_iload_n (pc' := 98) cx dX5_whom_97 rfl rfl ?_
      refine go_icmp_ge (pc' := 101) cx 107 dX5_whom_98 rfl rfl (fun c98 => ?_) (fun c98 => ?_)
      · have c98n := Int32.not_lt.mpr c98
        refine go_iinc (pc' := 110) cx (nI (h + 1)) dX5_whom_107 rfl (nI_1 h) (ltn rfl) [(4, .int (nI (h + 1))), (5, .int ((whE (M ru) (svC g 37) vn) h)), (3, .int (nI w)), (2, .int ((whE (M ru) (svC g 37) vn) w)), (0, .ref (E.2.1 0)), (1, .int x1)] rfl rfl ?_
        refine go_goto cx 24 dX5_whom_110 rfl ?_
        refine go_sub [0, 2, 3, 4, 5] [(4, .int (nI (h + 1))), (3, .int (nI w)), (2, .int ((whE (M ru) (svC g 37) vn) w)), (0, .ref (E.2.1 0)), (1, .int x1)] rfl ?_
        have hq2 : mns (whE (M ru) (svC g 37) vn) (h + 1) = some w := mns_g hq (Int32.not_lt.mpr c98)
        have h9 := ih (h + 1) G_51 (by omega) hG_51f ⟨_, hG_51t, fun i k hi => (filS_r vn i k).trans ((if_neg (fun q => hi q.1)).trans (ha0 i k hi))⟩ kk
        rw [hq2] at h9
        exact h9
      · have c98n := Int32.not_le.mp c98
        refine go_iload (pc' := 103) cx dX5_whom_101 rfl rfl ?_
        refine go_istore_n (pc' := 104) cx dX5_whom_103 (ltn rfl) [(2, .int ((whE (M ru) (svC g 37) vn) h)), (5, .int ((whE (M ru) (svC g 37) vn) h)), (4, .int (nI h)), (3, .int (nI w)), (0, .ref (E.2.1 0)), (1, .int x1)] rfl rfl ?_
        refine go_iload (pc' := 106) cx dX5_whom_104 rfl rfl ?_
        refine go_istore_n (pc' := 107) cx dX5_whom_106 (ltn rfl) [(3, .int (nI h)), (2, .int ((whE (M ru) (svC g 37) vn) h)), (5, .int ((whE (M ru) (svC g 37) vn) h)), (4, .int (nI h)), (0, .ref (E.2.1 0)), (1, .int x1)] rfl rfl ?_
        refine go_iinc (pc' := 110) cx (nI (h + 1)) dX5_whom_107 rfl (nI_1 h) (ltn rfl) [(4, .int (nI (h + 1))), (3, .int (nI h)), (2, .int ((whE (M ru) (svC g 37) vn) h)), (5, .int ((whE (M ru) (svC g 37) vn) h)), (0, .ref (E.2.1 0)), (1, .int x1)] rfl rfl ?_
        refine go_goto cx 24 dX5_whom_110 rfl ?_
        refine go_sub [0, 1, 2, 4, 5] [(4, .int (nI (h + 1))), (3, .int (nI h)), (2, .int ((whE (M ru) (svC g 37) vn) h)), (0, .ref (E.2.1 0)), (1, .int x1)] rfl ?_
        have hq2 : mns (whE (M ru) (svC g 37) vn) (h + 1) = some h := mns_l hq (Int32.not_le.mp c98)
        have h9 := ih (h + 1) G_51 (by omega) hG_51f ⟨_, hG_51t, fun i k hi => (filS_r vn i k).trans ((if_neg (fun q => hi q.1)).trans (ha0 i k hi))⟩ kk
        rw [hq2] at h9
        exact h9

set_option maxHeartbeats 1000000 in
set_option maxRecDepth 20000 in
theorem c_X5_whom (l : Launch) (E : Ev) {g : IG} {o : Option Nat} {z : Int64} {hn vn ru tc : Nat} {M : Nat → TM} (hX : XP g hn vn ru tc M) (x1 : Int32) : Ct l E 88 yX5_whom cX5_whom 6 (some .int) 7 [.ref (E.2.1 0), .int x1] g (RFo o) z (ZI (RFo o) z (fun x g1 => x = whomF (M ru) (svC g 37) hn vn x1 ∧ Fr scr g g1)) := by
  refine Ct.of (lv0 := [(0, .ref (E.2.1 0)), (1, .int x1)]) (by decide) (Nat.le_of_ble_eq_true rfl) rfl ?_
  intro p e s m below meth c cx
  obtain ⟨hhn5, hvn8, hruc, htc6⟩ := id hX.1
  refine go_iload_n (pc' := 1) cx dX5_whom_0 rfl rfl ?_
  refine go_cSi (pc' := 4) cx (c_X5_isFirstOrSecond l E (g := g) x1) mX5_isFirstOrSecond lX5_146 dX5_whom_1 rfl rfl rfl (ltn rfl) (Nat.le_of_ble_eq_true rfl) (Nat.le_of_ble_eq_true rfl) rfl ?_
  refine go_if_ne (pc' := 7) cx 10 dX5_whom_4 rfl rfl (fun c4 => ?_) (fun c4 => ?_)
  · refine go_iconst (pc' := 11) cx (-1) dX5_whom_10 rfl rfl ?_
    refine go_istore_n (pc' := 12) cx dX5_whom_11 (ltn rfl) [(2, .int (-1)), (0, .ref (E.2.1 0)), (1, .int x1)] rfl rfl ?_
    refine go_iconst (pc' := 13) cx (-1) dX5_whom_12 rfl rfl ?_
    refine go_istore_n (pc' := 14) cx dX5_whom_13 (ltn rfl) [(3, .int (-1)), (2, .int (-1)), (0, .ref (E.2.1 0)), (1, .int x1)] rfl rfl ?_
    refine go_aload_n (pc' := 15) cx dX5_whom_14 rfl rfl ?_
    refine go_getr (pc' := 18) cx 63 fX5_78 dX5_whom_15 kq0 (ltn rfl) (ltn rfl) rfl rfl rfl ?_
    refine go_cVV (pc' := 21) cx (c_beginT l E (G := g) hX Fr.rf) mX4_begin lX5_111 dX5_whom_18 kq63 (ltn rfl) (ltn rfl) rfl rfl rfl rfl (ltn rfl) (Nat.le_of_ble_eq_true rfl) (Nat.le_of_ble_eq_true rfl) rfl (fun G_1 hG_1 => ?_)
    refine go_iconst (pc' := 22) cx 0 dX5_whom_21 rfl rfl ?_
    refine go_istore (pc' := 24) cx dX5_whom_22 (ltn rfl) [(4, .int 0), (3, .int (-1)), (2, .int (-1)), (0, .ref (E.2.1 0)), (1, .int x1)] rfl rfl ?_
    refine whom_loop hX x1 cx hn 0 G_1 (Nat.zero_add hn) hG_1.1 ⟨_, hG_1.2, fun _ _ _ => rfl⟩ (fun G hF => ?_)
    refine go_iload_n (pc' := 114) cx dX5_whom_113 rfl rfl ?_
    refine go_if_ne (pc' := 117) cx 121 dX5_whom_114 rfl rfl (fun c114 => ?_) (fun c114 => ?_)
    · refine go_iload_n (pc' := 122) cx dX5_whom_121 rfl rfl ?_
      refine go_iret cx rfl dX5_whom_122 ?_
      exact ZI.mk ⟨by unfold whomF; rw [if_neg c4]; first | rw [if_pos c114] | rw [if_neg c114], hF⟩
    · refine go_iload_n (pc' := 118) cx dX5_whom_117 rfl rfl ?_
      refine go_goto cx 122 dX5_whom_118 rfl ?_
      refine go_iret cx rfl dX5_whom_122 ?_
      exact ZI.mk ⟨by unfold whomF; rw [if_neg c4]; first | rw [if_pos c114] | rw [if_neg c114], hF⟩
  · refine go_bipush (pc' := 9) cx (-2) dX5_whom_7 rfl rfl ?_
    refine go_iret cx rfl dX5_whom_9 ?_
    exact ZI.mk ⟨by first | (simp only [whomF, c4, if_true, if_false]; done) | (simp [whomF, c4, if_true, if_false]; done), Fr.rf⟩

theorem nI_ne_m20 {v : Nat} (h : v < 100) : nI v ≠ -1 := by
  have : ∀ v, v < 100 → nI v ≠ -1 := by decide +kernel
  exact this v h
