/-! THE CLASS: what would be best, hands that are drawn -/
theorem mns_0 {f : Nat → Int32} {n : Nat} (h : mns f n = none) : mns f (n + 1) = some n := by
  unfold mns
  rw [h]
theorem mns_l {f : Nat → Int32} {n w : Nat} (h : mns f n = some w) (h2 : f n < f w) : mns f (n + 1) = some n := by
  unfold mns
  rw [h]
  exact if_pos h2
theorem mns_g {f : Nat → Int32} {n w : Nat} (h : mns f n = some w) (h2 : ¬ f n < f w) : mns f (n + 1) = some w := by
  unfold mns
  rw [h]
  exact if_neg h2
theorem CWp.up {M : TM} {a : Sv} {hn vn : Nat} {G G1 : IG} {n : Nat} (h : CWp M a G n) {w k : Nat} {x : Int32} (hd : HdS a hn vn) (hh : hn ≤ 5) (hnv : n ≤ vn) (hw : w = 8 ∨ w = 9) (hk : n ≤ k) (h1 : ∀ i, i ≠ 64 + 2 + w → G1 i = G i) : CWp M (up2 a w k x) G1 n := by
  intro v hv
  have e : ∀ w' k', k' < n → up2 a w k x w' k' = a w' k' := fun w' k' q => up2_n _ _ (Or.inr (by omega))
  have e2 : ∀ w', w' ≠ w → up2 a w k x w' = a w' := fun w' q => funext fun b => up2_n _ _ (Or.inl q)
  have hR : ∀ u, u < n → Rv a (up2 a w k x) u := fun u hu => by
    refine ⟨by rw [e2 2 (by omega)]; exact E4.rf, by rw [e2 3 (by omega)], by rw [e2 7 (by omega)], (e 8 u hu).symm, (e 9 u hu).symm, fun w' hw' => by rw [e2 w' (by omega)]⟩
  have hC := fun u hu => crs_E4 (M := M) (a := a) (b := up2 a w k x) (n := n) (by rw [e2 0 (by omega)]; exact E4.rf) (by rw [e2 1 (by omega)]; exact E4.rf) hR u hu
  obtain ⟨d1, d2, d3⟩ := h v hv
  rw [h1 _ (by omega), h1 _ (by omega), h1 _ (by omega)]
  refine ⟨d1.tr (hC (v + 1) (by omega)).1, d2.trans ?_, d3.trans ?_⟩
  · exact ofA_E4 (by rw [e2 2 (by omega)]; exact E4.rf) (hC (v + 1) (by omega)).1 (hC (v + 1) (by omega)).2
  · exact ctA_E4 (hR v hv) (hC v (by omega)).1 (hC v (by omega)).2
theorem CWp.le {M : TM} {a : Sv} {G : IG} {n m : Nat} (h : CWp M a G n) (hm : m ≤ n) : CWp M a G m := fun v hv => h v (by omega)
theorem c_walkvT (l : Launch) (E : Ev) {G : IG} {o : Option Nat} {z : Int64} {a : Sv} {hn vn ru : Nat} {M : TM} (hB : XB hn vn ru) (hT : TxM G ru M) (hH : TH a hn vn ru G) {f : Nat} (hf : f ≤ vn) (hD : CWp M a G f) : Ct l E 115 yX4_walk cX4_walk 3 none 5 [.ref (E.2.1 63), .int (nI f)] G (RFo o) z (ZV (RFo o) z (fun G1 => Fr wkS G G1 ∧ CW M a G1 vn)) := by
  cases f with
  | zero => exact c_walk0T l E hB hT hH
  | succ f => exact c_walk1T l E hB hT hH hf hD
/-- of one visit the weeks -/
def weE (M : TM) (a : Sv) (vn v w : Nat) : Int32 := BDs M (up2 a 8 v (nI w)) vn
def whenF (M : TM) (a : Sv) (vn : Nat) (x1 x2 : Int32) : Int32 :=
  if inI (nI vn) x1 = 0 then -2 else if fosI x2 = 0 then -2 else if x2 = 0 then oi (mns (weE M a vn (clI x1)) 21) else ov (weE M a vn (clI x1)) (mns (weE M a vn (clI x1)) 21)
theorem up8_req {a b : Sv} {hn vn w v : Nat} {x : Int32} (h : ∀ i k, ¬ (i = w ∧ k = v) → a i k = b i k) : Req (up2 a w v x) (up2 b w v x) hn vn := by
  have e : ∀ i k, up2 a w v x i k = up2 b w v x i k := fun i k => by
    unfold up2
    by_cases h1 : i = w
    · by_cases h2 : k = v
      · rw [if_pos h1, if_pos h2, if_pos h1, if_pos h2]
      · rw [if_pos h1, if_neg h2, if_pos h1, if_neg h2]
        exact h i k (by omega)
    · rw [if_neg h1, if_neg h1]
      exact h i k (by omega)
  exact ⟨fun p _ => e _ _, fun p _ => e _ _, fun p _ => e _ _, e _ _, fun i k _ _ => e _ _, fun i k _ _ => e _ _⟩
/-- in n seeds: how often it is no worse than now -/
def chN (M : TM) (a : Sv) (hn vn : Nat) (z : Int32) : Nat → Nat
  | 0 => 0
  | k + 1 => if BDs M (drS a (z + nI k) hn vn) vn ≤ BDs M a vn then chN M a hn vn z k + 1 else chN M a hn vn z k
theorem chN_le {M : TM} {a : Sv} {hn vn : Nat} {z : Int32} : ∀ n, chN M a hn vn z n ≤ n
  | 0 => Nat.le_refl _
  | n + 1 => by
    have ih := chN_le (M := M) (a := a) (hn := hn) (vn := vn) (z := z) n
    unfold chN
    split <;> omega
def chanceF (M : TM) (a : Sv) (hn vn : Nat) (x1 x2 x3 : Int32) : Int64 :=
  if x2 < 1 then -4611686018427387904 else if 20 < x2 then -4611686018427387904 else if fosI x3 = 0 then -4611686018427387904 else if hn = 0 then -4611686018427387904
  else if x3 = 0 then (nI (chN M a hn vn x1 (clI x2) / cdF (chN M a hn vn x1 (clI x2)) (clI x2) (clI x2))).toInt64 else (nI (clI x2 / cdF (chN M a hn vn x1 (clI x2)) (clI x2) (clI x2))).toInt64
theorem cdF_pos {a b : Nat} : ∀ d, 0 < cdF a b d
  | 0 => Nat.one_pos
  | d + 1 => by
    have ih := cdF_pos (a := a) (b := b) d
    unfold cdF
    split
    · omega
    · split
      · split
        · omega
        · exact ih
      · exact ih
theorem cdF_le {a b : Nat} : ∀ d, cdF a b d ≤ d + 1
  | 0 => Nat.le_refl _
  | d + 1 => by
    have ih := cdF_le (a := a) (b := b) d
    unfold cdF
    split
    · omega
    · split
      · split
        · omega
        · omega
      · omega

set_option maxHeartbeats 1000000 in
set_option maxRecDepth 20000 in
theorem mark_loop {l : Launch} {E : Ev} {Z : ZT} {g : IG} {o : Option Nat} {z : Int64} {p : Program} {e : Env} {s : State} {m : MethodId} {args : Array Value} {below : List Frame} {meth : Method} {c : Code} {hn vn ru tc : Nat} {M : Nat → TM} (hX : XP g hn vn ru tc M) {a0 : Sv} (y1 : Int32) (cx : Cx p s m args meth c E 115 cX5_marked 3 yX5_marked.cls (some .int)) : ∀ (k v : Nat) (G : IG), v + k = vn → Fr scr g G → TH (filS a0 9 3 v) hn vn ru G → (∀ G', Fr scr g G' → TH (filS a0 9 3 vn) hn vn ru G' → Go p l e (rmd 8) s m args below meth c E 115 3 Z G' (RFo o) z 66 [(0, .ref (E.2.1 0)), (1, .int y1)] []) → Go p l e (rmd 8) s m args below meth c E 115 3 Z G (RFo o) z 35 [(2, .int (nI v)), (0, .ref (E.2.1 0)), (1, .int y1)] [] := by
  obtain ⟨hhn5, hvn8, hruc, htc6⟩ := id hX.1
  intro k
  induction k with
  | zero =>
    intro v G hk hF hH kk
    have hq : v = vn := by omega
    subst hq
    refine go_iload_n (pc' := 36) cx dX5_marked_35 rfl rfl ?_
    refine go_aload_n (pc' := 37) cx dX5_marked_36 rfl rfl ?_
    refine go_getr (pc' := 40) cx 37 fX5_66 dX5_marked_37 kq0 (ltn rfl) (ltn rfl) rfl rfl rfl ?_
    refine go_geti (pc' := 43) cx (nI v) fX5_143 dX5_marked_40 kq37 (ltn rfl) (ltn rfl) rfl ((congrFun (hF 37 (by unfold scr; omega)) 3).trans hX.2.2.1) rfl ?_
    refine go_icmp_ge (pc' := 46) cx 66 dX5_marked_43 rfl rfl (fun _ => ?_) (fun hh => absurd ((nI_leI (a := v) (b := v) (by omega) (by omega)).mpr (Nat.le_refl _)) hh)
    refine go_sub [1, 2] [(0, .ref (E.2.1 0)), (1, .int y1)] rfl ?_
    exact kk G hF hH
  | succ k ih =>
    intro v G hk hF hH kk
    refine go_iload_n (pc' := 36) cx dX5_marked_35 rfl rfl ?_
    refine go_aload_n (pc' := 37) cx dX5_marked_36 rfl rfl ?_
    refine go_getr (pc' := 40) cx 37 fX5_66 dX5_marked_37 kq0 (ltn rfl) (ltn rfl) rfl rfl rfl ?_
    refine go_geti (pc' := 43) cx (nI vn) fX5_143 dX5_marked_40 kq37 (ltn rfl) (ltn rfl) rfl ((congrFun (hF 37 (by unfold scr; omega)) 3).trans hX.2.2.1) rfl ?_
    refine go_icmp_ge (pc' := 46) cx 66 dX5_marked_43 rfl rfl (fun hh => absurd ((nI_leI (a := vn) (b := v) (by omega) (by omega)).mp hh) (by omega)) (fun _ => ?_)
    refine go_aload_n (pc' := 47) cx dX5_marked_46 rfl rfl ?_
    refine go_getr (pc' := 50) cx 63 fX5_78 dX5_marked_47 kq0 (ltn rfl) (ltn rfl) rfl rfl rfl ?_
    refine go_getr (pc' := 53) cx 64 fX5_114 dX5_marked_50 kq63 (ltn rfl) (ltn rfl) rfl rfl rfl ?_
    refine go_bipush (pc' := 55) cx 9 dX5_marked_53 rfl rfl ?_
    refine go_iload_n (pc' := 56) cx dX5_marked_55 rfl rfl ?_
    refine go_iconst (pc' := 57) cx 3 dX5_marked_56 rfl rfl ?_
    refine go_cVV (pc' := 60) cx (c_writeT l E (G := G) hF hH (w := 9) (k := v) (by omega) (by omega) (by omega) (nI v) (fun _ => rfl) (by omega) 3 ((hH).2.2.2.2.up v 3 (by omega))) mX1_write lX5_92 dX5_marked_57 kq64 (ltn rfl) (ltn rfl) rfl rfl rfl rfl (ltn rfl) (Nat.le_of_ble_eq_true rfl) (Nat.le_of_ble_eq_true rfl) rfl (fun G_1 hG_1 => ?_)
    refine go_iinc (pc' := 63) cx (nI (v + 1)) dX5_marked_60 rfl (nI_1 v) (ltn rfl) [(2, .int (nI (v + 1))), (0, .ref (E.2.1 0)), (1, .int y1)] rfl rfl ?_
    refine go_goto cx 35 dX5_marked_63 rfl ?_
    exact ih (v + 1) G_1 (by omega) hG_1.1 (hG_1.2.1) kk

set_option maxHeartbeats 1000000 in
set_option maxRecDepth 20000 in
theorem c_X5_marked (l : Launch) (E : Ev) {g : IG} {o : Option Nat} {z : Int64} {hn vn ru tc : Nat} {M : Nat → TM} (hX : XP g hn vn ru tc M)  : Ct l E 115 yX5_marked cX5_marked 3 (some .int) 8 [.ref (E.2.1 0)] g (RFo o) z (ZI (RFo o) z (fun x g1 => x = markF (M ru) (svC g 37) vn ∧ Fr scr g g1)) := by
  refine Ct.of (lv0 := [(0, .ref (E.2.1 0))]) (by decide) (Nat.le_of_ble_eq_true rfl) rfl ?_
  intro p e s m below meth c cx
  obtain ⟨hhn5, hvn8, hruc, htc6⟩ := id hX.1
  refine go_aload_n (pc' := 1) cx dX5_marked_0 rfl rfl ?_
  refine go_cVI (pc' := 4) cx (c_X5_badnessNow l E (G := g) hX Fr.rf) mX5_badnessNow lX5_159 dX5_marked_1 kq0 (ltn rfl) (ltn rfl) rfl rfl rfl rfl (ltn rfl) (Nat.le_of_ble_eq_true rfl) (Nat.le_of_ble_eq_true rfl) rfl (fun y_2 G_1 hG_1 => ?_)
  have ey_2 := hG_1.1
  subst ey_2
  refine go_istore_n (pc' := 5) cx dX5_marked_4 (ltn rfl) [(1, .int (BDs (M ru) (svC g 37) vn)), (0, .ref (E.2.1 0))] rfl rfl ?_
  refine go_aload_n (pc' := 6) cx dX5_marked_5 rfl rfl ?_
  refine go_getr (pc' := 9) cx 63 fX5_78 dX5_marked_6 kq0 (ltn rfl) (ltn rfl) rfl rfl rfl ?_
  refine go_cVV (pc' := 12) cx (c_beginT l E (G := G_1) hX hG_1.2) mX4_begin lX5_111 dX5_marked_9 kq63 (ltn rfl) (ltn rfl) rfl rfl rfl rfl (ltn rfl) (Nat.le_of_ble_eq_true rfl) (Nat.le_of_ble_eq_true rfl) rfl (fun G_3 hG_3 => ?_)
  refine go_aload_n (pc' := 13) cx dX5_marked_12 rfl rfl ?_
  refine go_getr (pc' := 16) cx 63 fX5_78 dX5_marked_13 kq0 (ltn rfl) (ltn rfl) rfl rfl rfl ?_
  refine go_getr (pc' := 19) cx 64 fX5_114 dX5_marked_16 kq63 (ltn rfl) (ltn rfl) rfl rfl rfl ?_
  refine go_iconst (pc' := 20) cx 3 dX5_marked_19 rfl rfl ?_
  refine go_iconst (pc' := 21) cx 0 dX5_marked_20 rfl rfl ?_
  refine go_aload_n (pc' := 22) cx dX5_marked_21 rfl rfl ?_
  refine go_getr (pc' := 25) cx 37 fX5_66 dX5_marked_22 kq0 (ltn rfl) (ltn rfl) rfl rfl rfl ?_
  refine go_iconst (pc' := 26) cx 2 dX5_marked_25 rfl rfl ?_
  refine go_iconst (pc' := 27) cx 0 dX5_marked_26 rfl rfl ?_
  refine go_cVi (pc' := 30) cx (c_readT l E (G := G_3) hG_3.1 (w := 2) (q := 0) (by omega) (by omega) (by omega)) mX1_read lX5_89 dX5_marked_27 kq37 (ltn rfl) (ltn rfl) rfl rfl rfl rfl (ltn rfl) (Nat.le_of_ble_eq_true rfl) (Nat.le_of_ble_eq_true rfl) rfl ?_
  refine go_cVV (pc' := 33) cx (c_writeT l E (G := G_3) hG_3.1 hG_3.2 (w := 3) (k := 0) (by omega) (by omega) (by omega) 0 (fun q => absurd rfl q) (by omega) (svC g 37 2 0) ((hG_3.2).2.2.2.2.up 0 (svC g 37 2 0) (by omega))) mX1_write lX5_92 dX5_marked_30 kq64 (ltn rfl) (ltn rfl) rfl rfl rfl rfl (ltn rfl) (Nat.le_of_ble_eq_true rfl) (Nat.le_of_ble_eq_true rfl) rfl (fun G_4 hG_4 => ?_)
  refine go_iconst (pc' := 34) cx 0 dX5_marked_33 rfl rfl ?_
  refine go_istore_n (pc' := 35) cx dX5_marked_34 (ltn rfl) [(2, .int 0), (1, .int (BDs (M ru) (svC g 37) vn)), (0, .ref (E.2.1 0))] rfl rfl ?_
  refine go_sub [0, 2, 1] [(2, .int 0), (0, .ref (E.2.1 0)), (1, .int (BDs (M ru) (svC g 37) vn))] rfl ?_
  refine mark_loop hX (a0 := (up2 (svC g 37) 3 0 (svC g 37 2 0))) _ cx vn 0 G_4 (Nat.zero_add vn) hG_4.1 hG_4.2.1 (fun G hF hH => ?_)
  refine go_aload_n (pc' := 67) cx dX5_marked_66 rfl rfl ?_
  refine go_getr (pc' := 70) cx 63 fX5_78 dX5_marked_67 kq0 (ltn rfl) (ltn rfl) rfl rfl rfl ?_
  refine go_iconst (pc' := 71) cx 0 dX5_marked_70 rfl rfl ?_
  have hTG_51 := hX.tx hF hX.1.2.2.1
  refine go_cVV (pc' := 74) cx (c_walk0T l E (G := G) hX.b hTG_51 hH) mX4_walk lX5_149 dX5_marked_71 kq63 (ltn rfl) (ltn rfl) rfl rfl rfl rfl (ltn rfl) (Nat.le_of_ble_eq_true rfl) (Nat.le_of_ble_eq_true rfl) rfl (fun G_51 hG_51 => ?_)
  have hG_51f := (hF).tr (hG_51.1.mono (fun _ => wk_scr))
  have hG_51t := (hH).wk hG_51.1
  have hG_51c := hG_51.2
  refine go_aload_n (pc' := 75) cx dX5_marked_74 rfl rfl ?_
  refine go_getr (pc' := 78) cx 63 fX5_78 dX5_marked_75 kq0 (ltn rfl) (ltn rfl) rfl rfl rfl ?_
  refine go_cVi (pc' := 81) cx (c_badT l E (G := G_51) hX.b hG_51t (hG_51c).1) mX4_badness lX5_134 dX5_marked_78 kq63 (ltn rfl) (ltn rfl) rfl rfl rfl rfl (ltn rfl) (Nat.le_of_ble_eq_true rfl) (Nat.le_of_ble_eq_true rfl) rfl ?_
  refine go_iload_n (pc' := 82) cx dX5_marked_81 rfl rfl ?_
  refine go_isub (pc' := 83) cx dX5_marked_82 rfl ?_
  refine go_iret cx rfl dX5_marked_83 ?_
  exact ZI.mk ⟨rfl, hG_51f⟩

set_option maxHeartbeats 1000000 in
set_option maxRecDepth 20000 in
theorem whom_in {l : Launch} {E : Ev} {Z : ZT} {g : IG} {o : Option Nat} {z : Int64} {p : Program} {e : Env} {s : State} {m : MethodId} {args : Array Value} {below : List Frame} {meth : Method} {c : Code} {hn vn ru tc : Nat} {M : Nat → TM} (hX : XP g hn vn ru tc M) {a0 : Sv} {h : Nat} (hh : h < hn) (b1 l1 x1 : Int32) (cx : Cx p s m args meth c E 115 cX5_whom 6 yX5_whom.cls (some .int)) : ∀ (k v : Nat) (G : IG), v + k = vn → Fr scr g G → TH (filS a0 7 (nI h) v) hn vn ru G → (∀ G', Fr scr g G' → TH (filS a0 7 (nI h) vn) hn vn ru G' → Go p l e (rmd 7) s m args below meth c E 115 6 Z G' (RFo o) z 73 [(4, .int (nI h)), (3, .int b1), (2, .int l1), (0, .ref (E.2.1 0)), (1, .int x1)] []) → Go p l e (rmd 7) s m args below meth c E 115 6 Z G (RFo o) z 39 [(5, .int (nI v)), (4, .int (nI h)), (3, .int b1), (2, .int l1), (0, .ref (E.2.1 0)), (1, .int x1)] [] := by
  obtain ⟨hhn5, hvn8, hruc, htc6⟩ := id hX.1
  intro k
  induction k with
  | zero =>
    intro v G hk hF hH kk
    have hq : v = vn := by omega
    subst hq
    refine go_iload (pc' := 41) cx dX5_whom_39 rfl rfl ?_
    refine go_aload_n (pc' := 42) cx dX5_whom_41 rfl rfl ?_
    refine go_getr (pc' := 45) cx 37 fX5_66 dX5_whom_42 kq0 (ltn rfl) (ltn rfl) rfl rfl rfl ?_
    refine go_geti (pc' := 48) cx (nI v) fX5_143 dX5_whom_45 kq37 (ltn rfl) (ltn rfl) rfl ((congrFun (hF 37 (by unfold scr; omega)) 3).trans hX.2.2.1) rfl ?_
    refine go_icmp_ge (pc' := 51) cx 73 dX5_whom_48 rfl rfl (fun _ => ?_) (fun hh => absurd ((nI_leI (a := v) (b := v) (by omega) (by omega)).mpr (Nat.le_refl _)) hh)
    refine go_sub [1, 2, 3, 4, 5] [(4, .int (nI h)), (3, .int b1), (2, .int l1), (0, .ref (E.2.1 0)), (1, .int x1)] rfl ?_
    exact kk G hF hH
  | succ k ih =>
    intro v G hk hF hH kk
    refine go_iload (pc' := 41) cx dX5_whom_39 rfl rfl ?_
    refine go_aload_n (pc' := 42) cx dX5_whom_41 rfl rfl ?_
    refine go_getr (pc' := 45) cx 37 fX5_66 dX5_whom_42 kq0 (ltn rfl) (ltn rfl) rfl rfl rfl ?_
    refine go_geti (pc' := 48) cx (nI vn) fX5_143 dX5_whom_45 kq37 (ltn rfl) (ltn rfl) rfl ((congrFun (hF 37 (by unfold scr; omega)) 3).trans hX.2.2.1) rfl ?_
    refine go_icmp_ge (pc' := 51) cx 73 dX5_whom_48 rfl rfl (fun hh => absurd ((nI_leI (a := vn) (b := v) (by omega) (by omega)).mp hh) (by omega)) (fun _ => ?_)
    refine go_aload_n (pc' := 52) cx dX5_whom_51 rfl rfl ?_
    refine go_getr (pc' := 55) cx 63 fX5_78 dX5_whom_52 kq0 (ltn rfl) (ltn rfl) rfl rfl rfl ?_
    refine go_getr (pc' := 58) cx 64 fX5_114 dX5_whom_55 kq63 (ltn rfl) (ltn rfl) rfl rfl rfl ?_
    refine go_bipush (pc' := 60) cx 7 dX5_whom_58 rfl rfl ?_
    refine go_iload (pc' := 62) cx dX5_whom_60 rfl rfl ?_
    refine go_iload (pc' := 64) cx dX5_whom_62 rfl rfl ?_
    refine go_cVV (pc' := 67) cx (c_writeT l E (G := G) hF hH (w := 7) (k := v) (by omega) (by omega) (by omega) (nI v) (fun _ => rfl) (by omega) (nI h) ((hH).2.2.2.2.up7 v hh)) mX1_write lX5_92 dX5_whom_64 kq64 (ltn rfl) (ltn rfl) rfl rfl rfl rfl (ltn rfl) (Nat.le_of_ble_eq_true rfl) (Nat.le_of_ble_eq_true rfl) rfl (fun G_1 hG_1 => ?_)
    refine go_iinc (pc' := 70) cx (nI (v + 1)) dX5_whom_67 rfl (nI_1 v) (ltn rfl) [(5, .int (nI (v + 1))), (4, .int (nI h)), (3, .int b1), (2, .int l1), (0, .ref (E.2.1 0)), (1, .int x1)] rfl rfl ?_
    refine go_goto cx 39 dX5_whom_70 rfl ?_
    exact ih (v + 1) G_1 (by omega) hG_1.1 (hG_1.2.1) kk

set_option maxHeartbeats 1000000 in
set_option maxRecDepth 20000 in
theorem whom_loop {l : Launch} {E : Ev} {Z : ZT} {g : IG} {o : Option Nat} {z : Int64} {p : Program} {e : Env} {s : State} {m : MethodId} {args : Array Value} {below : List Frame} {meth : Method} {c : Code} {hn vn ru tc : Nat} {M : Nat → TM} (hX : XP g hn vn ru tc M) (x1 : Int32) (cx : Cx p s m args meth c E 115 cX5_whom 6 yX5_whom.cls (some .int)) : ∀ (k h : Nat) (G : IG), h + k = hn → Fr scr g G → (∃ a0, TH a0 hn vn ru G ∧ ∀ i k, i ≠ 7 → a0 i k = svC g 37 i k) → (∀ G', Fr scr g G' → Go p l e (rmd 7) s m args below meth c E 115 6 Z G' (RFo o) z 113 [(3, .int (oi (mns (whE (M ru) (svC g 37) vn) hn))), (2, .int (ov (whE (M ru) (svC g 37) vn) (mns (whE (M ru) (svC g 37) vn) hn))), (0, .ref (E.2.1 0)), (1, .int x1)] []) → Go p l e (rmd 7) s m args below meth c E 115 6 Z G (RFo o) z 24 [(4, .int (nI h)), (3, .int (oi (mns (whE (M ru) (svC g 37) vn) h))), (2, .int (ov (whE (M ru) (svC g 37) vn) (mns (whE (M ru) (svC g 37) vn) h))), (0, .ref (E.2.1 0)), (1, .int x1)] [] := by
  obtain ⟨hhn5, hvn8, hruc, htc6⟩ := id hX.1
  intro k
  induction k with
  | zero =>
    intro h G hk hF hH kk
    have hq : h = hn := by omega
    subst hq
    obtain ⟨a0, hH, ha0⟩ := hH
    refine go_iload (pc' := 26) cx dX5_whom_24 rfl rfl ?_
    refine go_aload_n (pc' := 27) cx dX5_whom_26 rfl rfl ?_
    refine go_getr (pc' := 30) cx 37 fX5_66 dX5_whom_27 kq0 (ltn rfl) (ltn rfl) rfl rfl rfl ?_
    refine go_geti (pc' := 33) cx (nI h) fX5_96 dX5_whom_30 kq37 (ltn rfl) (ltn rfl) rfl ((congrFun (hF 37 (by unfold scr; omega)) 2).trans hX.2.1) rfl ?_
    refine go_icmp_ge (pc' := 36) cx 113 dX5_whom_33 rfl rfl (fun _ => ?_) (fun hh => absurd ((nI_leI (a := h) (b := h) (by omega) (by omega)).mpr (Nat.le_refl _)) hh)
    refine go_sub [1, 2, 3, 4] [(3, .int (oi (mns (whE (M ru) (svC g 37) vn) h))), (2, .int (ov (whE (M ru) (svC g 37) vn) (mns (whE (M ru) (svC g 37) vn) h))), (0, .ref (E.2.1 0)), (1, .int x1)] rfl ?_
    exact kk G hF
  | succ k ih =>
    intro h G hk hF hH kk
    obtain ⟨a0, hH, ha0⟩ := hH
    cases hq : mns (whE (M ru) (svC g 37) vn) h with
    | none =>
      refine go_iload (pc' := 26) cx dX5_whom_24 rfl rfl ?_
      refine go_aload_n (pc' := 27) cx dX5_whom_26 rfl rfl ?_
      refine go_getr (pc' := 30) cx 37 fX5_66 dX5_whom_27 kq0 (ltn rfl) (ltn rfl) rfl rfl rfl ?_
      refine go_geti (pc' := 33) cx (nI hn) fX5_96 dX5_whom_30 kq37 (ltn rfl) (ltn rfl) rfl ((congrFun (hF 37 (by unfold scr; omega)) 2).trans hX.2.1) rfl ?_
      refine go_icmp_ge (pc' := 36) cx 113 dX5_whom_33 rfl rfl (fun hh => absurd ((nI_leI (a := hn) (b := h) (by omega) (by omega)).mp hh) (by omega)) (fun _ => ?_)
      refine go_iconst (pc' := 37) cx 0 dX5_whom_36 rfl rfl ?_
      refine go_istore (pc' := 39) cx dX5_whom_37 (ltn rfl) [(5, .int 0), (4, .int (nI h)), (3, .int (-1)), (2, .int (-1)), (0, .ref (E.2.1 0)), (1, .int x1)] rfl rfl ?_
      refine whom_in hX (a0 := a0) (h := h) (by omega) _ _ _ cx vn 0 G (Nat.zero_add vn) hF hH (fun G9 hF9 hH9 => ?_)
      have hb9 : BDs (M ru) (filS a0 7 (nI h) vn) vn = (whE (M ru) (svC g 37) vn) h := (filS_req (hn := hn) (Or.inl rfl) ha0).bd hH9.2.2.2.2 hhn5
      refine go_aload_n (pc' := 74) cx dX5_whom_73 rfl rfl ?_
      refine go_getr (pc' := 77) cx 63 fX5_78 dX5_whom_74 kq0 (ltn rfl) (ltn rfl) rfl rfl rfl ?_
      refine go_iconst (pc' := 78) cx 0 dX5_whom_77 rfl rfl ?_
      have hTG_51 := hX.tx hF9 hX.1.2.2.1
      refine go_cVV (pc' := 81) cx (c_walk0T l E (G := G9) hX.b hTG_51 hH9) mX4_walk lX5_149 dX5_whom_78 kq63 (ltn rfl) (ltn rfl) rfl rfl rfl rfl (ltn rfl) (Nat.le_of_ble_eq_true rfl) (Nat.le_of_ble_eq_true rfl) rfl (fun G_51 hG_51 => ?_)
      have hG_51f := (hF9).tr (hG_51.1.mono (fun _ => wk_scr))
      have hG_51t := (hH9).wk hG_51.1
      have hG_51c := hG_51.2
      refine go_aload_n (pc' := 82) cx dX5_whom_81 rfl rfl ?_
      refine go_getr (pc' := 85) cx 63 fX5_78 dX5_whom_82 kq0 (ltn rfl) (ltn rfl) rfl rfl rfl ?_
      refine go_cVi (pc' := 88) cx (hb9 ▸ (c_badT l E (G := G_51) hX.b hG_51t (hG_51c).1)) mX4_badness lX5_134 dX5_whom_85 kq63 (ltn rfl) (ltn rfl) rfl rfl rfl rfl (ltn rfl) (Nat.le_of_ble_eq_true rfl) (Nat.le_of_ble_eq_true rfl) rfl ?_
      refine go_istore (pc' := 90) cx dX5_whom_88 (ltn rfl) [(5, .int ((whE (M ru) (svC g 37) vn) h)), (4, .int (nI h)), (3, .int (-1)), (2, .int (-1)), (0, .ref (E.2.1 0)), (1, .int x1)] rfl rfl ?_
      refine go_iload_n (pc' := 91) cx dX5_whom_90 rfl rfl ?_
      refine go_iconst (pc' := 92) cx (-1) dX5_whom_91 rfl rfl ?_
      refine go_icmp_eq (pc' := 95) cx 101 dX5_whom_92 rfl rfl (fun _ => ?_) (fun hh => absurd rfl hh)
      refine go_iload (pc' := 103) cx dX5_whom_101 rfl rfl ?_
      refine go_istore_n (pc' := 104) cx dX5_whom_103 (ltn rfl) [(2, .int ((whE (M ru) (svC g 37) vn) h)), (5, .int ((whE (M ru) (svC g 37) vn) h)), (4, .int (nI h)), (3, .int (-1)), (0, .ref (E.2.1 0)), (1, .int x1)] rfl rfl ?_
      refine go_iload (pc' := 106) cx dX5_whom_104 rfl rfl ?_
      refine go_istore_n (pc' := 107) cx dX5_whom_106 (ltn rfl) [(3, .int (nI h)), (2, .int ((whE (M ru) (svC g 37) vn) h)), (5, .int ((whE (M ru) (svC g 37) vn) h)), (4, .int (nI h)), (0, .ref (E.2.1 0)), (1, .int x1)] rfl rfl ?_
      refine go_iinc (pc' := 110) cx (nI (h + 1)) dX5_whom_107 rfl (nI_1 h) (ltn rfl) [(4, .int (nI (h + 1))), (3, .int (nI h)), (2, .int ((whE (M ru) (svC g 37) vn) h)), (5, .int ((whE (M ru) (svC g 37) vn) h)), (0, .ref (E.2.1 0)), (1, .int x1)] rfl rfl ?_
      refine go_goto cx 24 dX5_whom_110 rfl ?_
      refine go_sub [0, 1, 2, 4, 5] [(4, .int (nI (h + 1))), (3, .int (nI h)), (2, .int ((whE (M ru) (svC g 37) vn) h)), (0, .ref (E.2.1 0)), (1, .int x1)] rfl ?_
      have hq2 : mns (whE (M ru) (svC g 37) vn) (h + 1) = some h := mns_0 hq
      have h9 := ih (h + 1) G_51 (by omega) hG_51f ⟨_, hG_51t, fun i k hi => (filS_r vn i k).trans ((if_neg (fun q => hi q.1)).trans (ha0 i k hi))⟩ kk
      rw [hq2] at h9
      exact h9
    | some w =>
      have hw := mns_lt hq
      refine go_iload (pc' := 26) cx dX5_whom_24 rfl rfl ?_
      refine go_aload_n (pc' := 27) cx dX5_whom_26 rfl rfl ?_
      refine go_getr (pc' := 30) cx 37 fX5_66 dX5_whom_27 kq0 (ltn rfl) (ltn rfl) rfl rfl rfl ?_
      refine go_geti (pc' := 33) cx (nI hn) fX5_96 dX5_whom_30 kq37 (ltn rfl) (ltn rfl) rfl ((congrFun (hF 37 (by unfold scr; omega)) 2).trans hX.2.1) rfl ?_
      refine go_icmp_ge (pc' := 36) cx 113 dX5_whom_33 rfl rfl (fun hh => absurd ((nI_leI (a := hn) (b := h) (by omega) (by omega)).mp hh) (by omega)) (fun _ => ?_)
      refine go_iconst (pc' := 37) cx 0 dX5_whom_36 rfl rfl ?_
      refine go_istore (pc' := 39) cx dX5_whom_37 (ltn rfl) [(5, .int 0), (4, .int (nI h)), (3, .int (nI w)), (2, .int ((whE (M ru) (svC g 37) vn) w)), (0, .ref (E.2.1 0)), (1, .int x1)] rfl rfl ?_
      refine whom_in hX (a0 := a0) (h := h) (by omega) _ _ _ cx vn 0 G (Nat.zero_add vn) hF hH (fun G9 hF9 hH9 => ?_)
      have hb9 : BDs (M ru) (filS a0 7 (nI h) vn) vn = (whE (M ru) (svC g 37) vn) h := (filS_req (hn := hn) (Or.inl rfl) ha0).bd hH9.2.2.2.2 hhn5
      refine go_aload_n (pc' := 74) cx dX5_whom_73 rfl rfl ?_
      refine go_getr (pc' := 77) cx 63 fX5_78 dX5_whom_74 kq0 (ltn rfl) (ltn rfl) rfl rfl rfl ?_
      refine go_iconst (pc' := 78) cx 0 dX5_whom_77 rfl rfl ?_
      have hTG_51 := hX.tx hF9 hX.1.2.2.1
      refine go_cVV (pc' := 81) cx (c_walk0T l E (G := G9) hX.b hTG_51 hH9) mX4_walk lX5_149 dX5_whom_78 kq63 (ltn rfl) (ltn rfl) rfl rfl rfl rfl (ltn rfl) (Nat.le_of_ble_eq_true rfl) (Nat.le_of_ble_eq_true rfl) rfl (fun G_51 hG_51 => ?_)
      have hG_51f := (hF9).tr (hG_51.1.mono (fun _ => wk_scr))
      have hG_51t := (hH9).wk hG_51.1
      have hG_51c := hG_51.2
      refine go_aload_n (pc' := 82) cx dX5_whom_81 rfl rfl ?_
      refine go_getr (pc' := 85) cx 63 fX5_78 dX5_whom_82 kq0 (ltn rfl) (ltn rfl) rfl rfl rfl ?_
      refine go_cVi (pc' := 88) cx (hb9 ▸ (c_badT l E (G := G_51) hX.b hG_51t (hG_51c).1)) mX4_badness lX5_134 dX5_whom_85 kq63 (ltn rfl) (ltn rfl) rfl rfl rfl rfl (ltn rfl) (Nat.le_of_ble_eq_true rfl) (Nat.le_of_ble_eq_true rfl) rfl ?_
      refine go_istore (pc' := 90) cx dX5_whom_88 (ltn rfl) [(5, .int ((whE (M ru) (svC g 37) vn) h)), (4, .int (nI h)), (3, .int (nI w)), (2, .int ((whE (M ru) (svC g 37) vn) w)), (0, .ref (E.2.1 0)), (1, .int x1)] rfl rfl ?_
      refine go_iload_n (pc' := 91) cx dX5_whom_90 rfl rfl ?_
      refine go_iconst (pc' := 92) cx (-1) dX5_whom_91 rfl rfl ?_
      refine go_icmp_eq (pc' := 95) cx 101 dX5_whom_92 rfl rfl (fun hh => absurd hh (nI_ne_m1 (by omega))) (fun _ => ?_)
      refine go_iload (pc' := 97) cx dX5_whom_95 rfl rfl ?_
      refine go_iload_n (pc' := 98) cx dX5_whom_97 rfl rfl ?_
      refine go_icmp_ge (pc' := 101) cx 107 dX5_whom_98 rfl rfl (fun c98 => ?_) (fun c98 => ?_)
      · have c98n := Int32.not_lt.mpr c98
        refine go_iinc (pc' := 110) cx (nI (h + 1)) dX5_whom_107 rfl (nI_1 h) (ltn rfl) [(4, .int (nI (h + 1))), (5, .int ((whE (M ru) (svC g 37) vn) h)), (3, .int (nI w)), (2, .int ((whE (M ru) (svC g 37) vn) w)), (0, .ref (E.2.1 0)), (1, .int x1)] rfl rfl ?_
        refine go_goto cx 24 dX5_whom_110 rfl ?_
        refine go_sub [0, 2, 3, 4, 5] [(4, .int (nI (h + 1))), (3, .int (nI w)), (2, .int ((whE (M ru) (svC g 37) vn) w)), (0, .ref (E.2.1 0)), (1, .int x1)] rfl ?_
        have hq2 : mns (whE (M ru) (svC g 37) vn) (h + 1) = some w := mns_g hq (Int32.not_lt.mpr c98)
        have h9 := ih (h + 1) G_51 (by omega) hG_51f ⟨_, hG_51t, fun i k hi => (filS_r vn i k).trans ((if_neg (fun q => hi q.1)).trans (ha0 i k hi))⟩ kk
        rw [hq2] at h9
        exact h9
      · have c98n := Int32.not_le.mp c98
        refine go_iload (pc' := 103) cx dX5_whom_101 rfl rfl ?_
        refine go_istore_n (pc' := 104) cx dX5_whom_103 (ltn rfl) [(2, .int ((whE (M ru) (svC g 37) vn) h)), (5, .int ((whE (M ru) (svC g 37) vn) h)), (4, .int (nI h)), (3, .int (nI w)), (0, .ref (E.2.1 0)), (1, .int x1)] rfl rfl ?_
        refine go_iload (pc' := 106) cx dX5_whom_104 rfl rfl ?_
        refine go_istore_n (pc' := 107) cx dX5_whom_106 (ltn rfl) [(3, .int (nI h)), (2, .int ((whE (M ru) (svC g 37) vn) h)), (5, .int ((whE (M ru) (svC g 37) vn) h)), (4, .int (nI h)), (0, .ref (E.2.1 0)), (1, .int x1)] rfl rfl ?_
        refine go_iinc (pc' := 110) cx (nI (h + 1)) dX5_whom_107 rfl (nI_1 h) (ltn rfl) [(4, .int (nI (h + 1))), (3, .int (nI h)), (2, .int ((whE (M ru) (svC g 37) vn) h)), (5, .int ((whE (M ru) (svC g 37) vn) h)), (0, .ref (E.2.1 0)), (1, .int x1)] rfl rfl ?_
        refine go_goto cx 24 dX5_whom_110 rfl ?_
        refine go_sub [0, 1, 2, 4, 5] [(4, .int (nI (h + 1))), (3, .int (nI h)), (2, .int ((whE (M ru) (svC g 37) vn) h)), (0, .ref (E.2.1 0)), (1, .int x1)] rfl ?_
        have hq2 : mns (whE (M ru) (svC g 37) vn) (h + 1) = some h := mns_l hq (Int32.not_le.mp c98)
        have h9 := ih (h + 1) G_51 (by omega) hG_51f ⟨_, hG_51t, fun i k hi => (filS_r vn i k).trans ((if_neg (fun q => hi q.1)).trans (ha0 i k hi))⟩ kk
        rw [hq2] at h9
        exact h9

set_option maxHeartbeats 1000000 in
set_option maxRecDepth 20000 in
theorem c_X5_whom (l : Launch) (E : Ev) {g : IG} {o : Option Nat} {z : Int64} {hn vn ru tc : Nat} {M : Nat → TM} (hX : XP g hn vn ru tc M) (x1 : Int32) : Ct l E 115 yX5_whom cX5_whom 6 (some .int) 7 [.ref (E.2.1 0), .int x1] g (RFo o) z (ZI (RFo o) z (fun x g1 => x = whomF (M ru) (svC g 37) hn vn x1 ∧ Fr scr g g1)) := by
  refine Ct.of (lv0 := [(0, .ref (E.2.1 0)), (1, .int x1)]) (by decide) (Nat.le_of_ble_eq_true rfl) rfl ?_
  intro p e s m below meth c cx
  obtain ⟨hhn5, hvn8, hruc, htc6⟩ := id hX.1
  refine go_iload_n (pc' := 1) cx dX5_whom_0 rfl rfl ?_
  refine go_cSi (pc' := 4) cx (c_X5_isFirstOrSecond l E (g := g) x1) mX5_isFirstOrSecond lX5_146 dX5_whom_1 rfl rfl rfl (ltn rfl) (Nat.le_of_ble_eq_true rfl) (Nat.le_of_ble_eq_true rfl) rfl ?_
  refine go_if_ne (pc' := 7) cx 10 dX5_whom_4 rfl rfl (fun c4 => ?_) (fun c4 => ?_)
  · refine go_iconst (pc' := 11) cx (-1) dX5_whom_10 rfl rfl ?_
    refine go_istore_n (pc' := 12) cx dX5_whom_11 (ltn rfl) [(2, .int (-1)), (0, .ref (E.2.1 0)), (1, .int x1)] rfl rfl ?_
    refine go_iconst (pc' := 13) cx (-1) dX5_whom_12 rfl rfl ?_
    refine go_istore_n (pc' := 14) cx dX5_whom_13 (ltn rfl) [(3, .int (-1)), (2, .int (-1)), (0, .ref (E.2.1 0)), (1, .int x1)] rfl rfl ?_
    refine go_aload_n (pc' := 15) cx dX5_whom_14 rfl rfl ?_
    refine go_getr (pc' := 18) cx 63 fX5_78 dX5_whom_15 kq0 (ltn rfl) (ltn rfl) rfl rfl rfl ?_
    refine go_cVV (pc' := 21) cx (c_beginT l E (G := g) hX Fr.rf) mX4_begin lX5_111 dX5_whom_18 kq63 (ltn rfl) (ltn rfl) rfl rfl rfl rfl (ltn rfl) (Nat.le_of_ble_eq_true rfl) (Nat.le_of_ble_eq_true rfl) rfl (fun G_1 hG_1 => ?_)
    refine go_iconst (pc' := 22) cx 0 dX5_whom_21 rfl rfl ?_
    refine go_istore (pc' := 24) cx dX5_whom_22 (ltn rfl) [(4, .int 0), (3, .int (-1)), (2, .int (-1)), (0, .ref (E.2.1 0)), (1, .int x1)] rfl rfl ?_
    refine whom_loop hX x1 cx hn 0 G_1 (Nat.zero_add hn) hG_1.1 ⟨_, hG_1.2, fun _ _ _ => rfl⟩ (fun G hF => ?_)
    refine go_iload_n (pc' := 114) cx dX5_whom_113 rfl rfl ?_
    refine go_if_ne (pc' := 117) cx 121 dX5_whom_114 rfl rfl (fun c114 => ?_) (fun c114 => ?_)
    · refine go_iload_n (pc' := 122) cx dX5_whom_121 rfl rfl ?_
      refine go_iret cx rfl dX5_whom_122 ?_
      exact ZI.mk ⟨by unfold whomF; rw [if_neg c4]; first | rw [if_pos c114] | rw [if_neg c114], hF⟩
    · refine go_iload_n (pc' := 118) cx dX5_whom_117 rfl rfl ?_
      refine go_goto cx 122 dX5_whom_118 rfl ?_
      refine go_iret cx rfl dX5_whom_122 ?_
      exact ZI.mk ⟨by unfold whomF; rw [if_neg c4]; first | rw [if_pos c114] | rw [if_neg c114], hF⟩
  · refine go_bipush (pc' := 9) cx (-2) dX5_whom_7 rfl rfl ?_
    refine go_iret cx rfl dX5_whom_9 ?_
    exact ZI.mk ⟨by first | (simp only [whomF, c4, if_true, if_false]; done) | (simp [whomF, c4, if_true, if_false]; done), Fr.rf⟩

theorem nI_ne_m20 {v : Nat} (h : v < 100) : nI v ≠ -1 := by
  have : ∀ v, v < 100 → nI v ≠ -1 := by decide +kernel
  exact this v h

set_option maxHeartbeats 1000000 in
set_option maxRecDepth 20000 in
theorem when_loop {l : Launch} {E : Ev} {Z : ZT} {g : IG} {o : Option Nat} {z : Int64} {p : Program} {e : Env} {s : State} {m : MethodId} {args : Array Value} {below : List Frame} {meth : Method} {c : Code} {hn vn ru tc : Nat} {M : Nat → TM} (hX : XP g hn vn ru tc M) {v : Nat} (hv : v < vn) (x2 : Int32) (cx : Cx p s m args meth c E 115 cX5_when 7 yX5_when.cls (some .int)) : ∀ (k w : Nat) (G : IG), w + k = 21 → Fr scr g G → (∃ a0, TH a0 hn vn ru G ∧ (∀ i k, ¬ (i = 8 ∧ k = v) → a0 i k = svC g 37 i k) ∧ (w ≠ 0 → CWp (M ru) a0 G v)) → (∀ G', Fr scr g G' → Go p l e (rmd 7) s m args below meth c E 115 7 Z G' (RFo o) z 106 [(4, .int (oi (mns (weE (M ru) (svC g 37) vn v) 21))), (3, .int (ov (weE (M ru) (svC g 37) vn v) (mns (weE (M ru) (svC g 37) vn v) 21))), (0, .ref (E.2.1 0)), (1, .int (nI v)), (2, .int x2)] []) → Go p l e (rmd 7) s m args below meth c E 115 7 Z G (RFo o) z 33 [(5, .int (nI w)), (4, .int (oi (mns (weE (M ru) (svC g 37) vn v) w))), (3, .int (ov (weE (M ru) (svC g 37) vn v) (mns (weE (M ru) (svC g 37) vn v) w))), (0, .ref (E.2.1 0)), (1, .int (nI v)), (2, .int x2)] [] := by
  obtain ⟨hhn5, hvn8, hruc, htc6⟩ := id hX.1
  intro k
  induction k with
  | zero =>
    intro w G hk hF hH kk
    have hq : w = 21 := by omega
    subst hq
    refine go_iload (pc' := 35) cx dX5_when_33 rfl rfl ?_
    refine go_bipush (pc' := 37) cx 20 dX5_when_35 rfl rfl ?_
    refine go_icmp_gt (pc' := 40) cx 106 dX5_when_37 rfl rfl (fun _ => ?_) (fun hh => absurd hh (by decide))
    refine go_sub [1, 2, 3, 4, 5] [(4, .int (oi (mns (weE (M ru) (svC g 37) vn v) 21))), (3, .int (ov (weE (M ru) (svC g 37) vn v) (mns (weE (M ru) (svC g 37) vn v) 21))), (0, .ref (E.2.1 0)), (1, .int (nI v)), (2, .int x2)] rfl ?_
    exact kk G hF
  | succ k ih =>
    intro w G hk hF hH kk
    obtain ⟨a0, hH, ha0, hcw⟩ := hH
    cases hq : mns (weE (M ru) (svC g 37) vn v) w with
    | none =>
      refine go_iload (pc' := 35) cx dX5_when_33 rfl rfl ?_
      refine go_bipush (pc' := 37) cx 20 dX5_when_35 rfl rfl ?_
      refine go_icmp_gt (pc' := 40) cx 106 dX5_when_37 rfl rfl (fun hh => absurd ((nI_ltI (a := 20) (b := w) (by omega) (by omega)).mp hh) (by omega)) (fun _ => ?_)
      refine go_aload_n (pc' := 41) cx dX5_when_40 rfl rfl ?_
      refine go_getr (pc' := 44) cx 63 fX5_78 dX5_when_41 kq0 (ltn rfl) (ltn rfl) rfl rfl rfl ?_
      refine go_getr (pc' := 47) cx 64 fX5_114 dX5_when_44 kq63 (ltn rfl) (ltn rfl) rfl rfl rfl ?_
      refine go_bipush (pc' := 49) cx 8 dX5_when_47 rfl rfl ?_
      refine go_iload_n (pc' := 50) cx dX5_when_49 rfl rfl ?_
      refine go_iload (pc' := 52) cx dX5_when_50 rfl rfl ?_
      refine go_cVV (pc' := 55) cx (c_writeT l E (G := G) hF hH (w := 8) (k := v) (by omega) (by omega) (by omega) (nI v) (fun _ => rfl) (by omega) (nI w) ((hH).2.2.2.2.up v (nI w) (by omega))) mX1_write lX5_92 dX5_when_52 kq64 (ltn rfl) (ltn rfl) rfl rfl rfl rfl (ltn rfl) (Nat.le_of_ble_eq_true rfl) (Nat.le_of_ble_eq_true rfl) rfl (fun G_1 hG_1 => ?_)
      have hcG_1 : w ≠ 0 → CWp (M ru) (up2 a0 8 v (nI w)) G_1 v := fun q => (hcw q).up hH.2.2.2.2 hhn5 (by omega) (Or.inl rfl) (Nat.le_refl v) hG_1.2.2
      have hb9 : BDs (M ru) (up2 a0 8 v (nI w)) vn = (weE (M ru) (svC g 37) vn v) w := (up8_req (hn := hn) ha0).bd hG_1.2.1.2.2.2.2 hhn5
      refine go_aload_n (pc' := 56) cx dX5_when_55 rfl rfl ?_
      refine go_getr (pc' := 59) cx 63 fX5_78 dX5_when_56 kq0 (ltn rfl) (ltn rfl) rfl rfl rfl ?_
      refine go_iload (pc' := 61) cx dX5_when_59 rfl rfl ?_
      refine go_if_ne (pc' := 64) cx 68 dX5_when_61 rfl rfl (fun c61 => ?_) (fun c61 => ?_)
      · have c61 : ¬ w = 0 := fun q9 => c61 ((nI_eq (a := w) (b := 0) (by omega) (by omega)).mpr q9)
        refine go_iload_n (pc' := 69) cx dX5_when_68 rfl rfl ?_
        have hTG_2 := hX.tx hG_1.1 hX.1.2.2.1
        refine go_cVV (pc' := 72) cx (c_walkvT l E (G := G_1) hX.b hTG_2 hG_1.2.1 (f := v) (by omega) (hcG_1 c61)) mX4_walk lX5_149 dX5_when_69 kq63 (ltn rfl) (ltn rfl) rfl rfl rfl rfl (ltn rfl) (Nat.le_of_ble_eq_true rfl) (Nat.le_of_ble_eq_true rfl) rfl (fun G_2 hG_2 => ?_)
        have hG_2f := (hG_1.1).tr (hG_2.1.mono (fun _ => wk_scr))
        have hG_2t := (hG_1.2.1).wk hG_2.1
        have hG_2c := hG_2.2
        refine go_aload_n (pc' := 73) cx dX5_when_72 rfl rfl ?_
        refine go_getr (pc' := 76) cx 63 fX5_78 dX5_when_73 kq0 (ltn rfl) (ltn rfl) rfl rfl rfl ?_
        refine go_cVi (pc' := 79) cx (hb9 ▸ (c_badT l E (G := G_2) hX.b hG_2t (hG_2c).1)) mX4_badness lX5_134 dX5_when_76 kq63 (ltn rfl) (ltn rfl) rfl rfl rfl rfl (ltn rfl) (Nat.le_of_ble_eq_true rfl) (Nat.le_of_ble_eq_true rfl) rfl ?_
        refine go_istore (pc' := 81) cx dX5_when_79 (ltn rfl) [(6, .int ((weE (M ru) (svC g 37) vn v) w)), (5, .int (nI w)), (4, .int (-1)), (3, .int (-1)), (0, .ref (E.2.1 0)), (1, .int (nI v)), (2, .int x2)] rfl rfl ?_
        refine go_iload (pc' := 83) cx dX5_when_81 rfl rfl ?_
        refine go_iconst (pc' := 84) cx (-1) dX5_when_83 rfl rfl ?_
        refine go_icmp_eq (pc' := 87) cx 93 dX5_when_84 rfl rfl (fun _ => ?_) (fun hh => absurd rfl hh)
        refine go_iload (pc' := 95) cx dX5_when_93 rfl rfl ?_
        refine go_istore_n (pc' := 96) cx dX5_when_95 (ltn rfl) [(3, .int ((weE (M ru) (svC g 37) vn v) w)), (6, .int ((weE (M ru) (svC g 37) vn v) w)), (5, .int (nI w)), (4, .int (-1)), (0, .ref (E.2.1 0)), (1, .int (nI v)), (2, .int x2)] rfl rfl ?_
        refine go_iload (pc' := 98) cx dX5_when_96 rfl rfl ?_
        refine go_istore (pc' := 100) cx dX5_when_98 (ltn rfl) [(4, .int (nI w)), (3, .int ((weE (M ru) (svC g 37) vn v) w)), (6, .int ((weE (M ru) (svC g 37) vn v) w)), (5, .int (nI w)), (0, .ref (E.2.1 0)), (1, .int (nI v)), (2, .int x2)] rfl rfl ?_
        refine go_iinc (pc' := 103) cx (nI (w + 1)) dX5_when_100 rfl (nI_1 w) (ltn rfl) [(5, .int (nI (w + 1))), (4, .int (nI w)), (3, .int ((weE (M ru) (svC g 37) vn v) w)), (6, .int ((weE (M ru) (svC g 37) vn v) w)), (0, .ref (E.2.1 0)), (1, .int (nI v)), (2, .int x2)] rfl rfl ?_
        refine go_goto cx 33 dX5_when_103 rfl ?_
        refine go_sub [0, 1, 2, 4, 5, 6] [(5, .int (nI (w + 1))), (4, .int (nI w)), (3, .int ((weE (M ru) (svC g 37) vn v) w)), (0, .ref (E.2.1 0)), (1, .int (nI v)), (2, .int x2)] rfl ?_
        have hq2 : mns (weE (M ru) (svC g 37) vn v) (w + 1) = some w := mns_0 hq
        have h9 := ih (w + 1) G_2 (by omega) hG_2f ⟨_, hG_2t, fun i k hi => (up2_n _ _ (by omega)).trans (ha0 i k hi), fun _ => (hG_2c).1.le (by omega)⟩ kk
        rw [hq2] at h9
        exact h9
      · have c61 := (nI_eq (a := w) (b := 0) (by omega) (by omega)).mp c61
        refine go_iconst (pc' := 65) cx 0 dX5_when_64 rfl rfl ?_
        refine go_goto cx 69 dX5_when_65 rfl ?_
        have hTG_3 := hX.tx hG_1.1 hX.1.2.2.1
        refine go_cVV (pc' := 72) cx (c_walk0T l E (G := G_1) hX.b hTG_3 hG_1.2.1) mX4_walk lX5_149 dX5_when_69 kq63 (ltn rfl) (ltn rfl) rfl rfl rfl rfl (ltn rfl) (Nat.le_of_ble_eq_true rfl) (Nat.le_of_ble_eq_true rfl) rfl (fun G_3 hG_3 => ?_)
        have hG_3f := (hG_1.1).tr (hG_3.1.mono (fun _ => wk_scr))
        have hG_3t := (hG_1.2.1).wk hG_3.1
        have hG_3c := hG_3.2
        refine go_aload_n (pc' := 73) cx dX5_when_72 rfl rfl ?_
        refine go_getr (pc' := 76) cx 63 fX5_78 dX5_when_73 kq0 (ltn rfl) (ltn rfl) rfl rfl rfl ?_
        refine go_cVi (pc' := 79) cx (hb9 ▸ (c_badT l E (G := G_3) hX.b hG_3t (hG_3c).1)) mX4_badness lX5_134 dX5_when_76 kq63 (ltn rfl) (ltn rfl) rfl rfl rfl rfl (ltn rfl) (Nat.le_of_ble_eq_true rfl) (Nat.le_of_ble_eq_true rfl) rfl ?_
        refine go_istore (pc' := 81) cx dX5_when_79 (ltn rfl) [(6, .int ((weE (M ru) (svC g 37) vn v) w)), (5, .int (nI w)), (4, .int (-1)), (3, .int (-1)), (0, .ref (E.2.1 0)), (1, .int (nI v)), (2, .int x2)] rfl rfl ?_
        refine go_iload (pc' := 83) cx dX5_when_81 rfl rfl ?_
        refine go_iconst (pc' := 84) cx (-1) dX5_when_83 rfl rfl ?_
        refine go_icmp_eq (pc' := 87) cx 93 dX5_when_84 rfl rfl (fun _ => ?_) (fun hh => absurd rfl hh)
        refine go_iload (pc' := 95) cx dX5_when_93 rfl rfl ?_
        refine go_istore_n (pc' := 96) cx dX5_when_95 (ltn rfl) [(3, .int ((weE (M ru) (svC g 37) vn v) w)), (6, .int ((weE (M ru) (svC g 37) vn v) w)), (5, .int (nI w)), (4, .int (-1)), (0, .ref (E.2.1 0)), (1, .int (nI v)), (2, .int x2)] rfl rfl ?_
        refine go_iload (pc' := 98) cx dX5_when_96 rfl rfl ?_
        refine go_istore (pc' := 100) cx dX5_when_98 (ltn rfl) [(4, .int (nI w)), (3, .int ((weE (M ru) (svC g 37) vn v) w)), (6, .int ((weE (M ru) (svC g 37) vn v) w)), (5, .int (nI w)), (0, .ref (E.2.1 0)), (1, .int (nI v)), (2, .int x2)] rfl rfl ?_
        refine go_iinc (pc' := 103) cx (nI (w + 1)) dX5_when_100 rfl (nI_1 w) (ltn rfl) [(5, .int (nI (w + 1))), (4, .int (nI w)), (3, .int ((weE (M ru) (svC g 37) vn v) w)), (6, .int ((weE (M ru) (svC g 37) vn v) w)), (0, .ref (E.2.1 0)), (1, .int (nI v)), (2, .int x2)] rfl rfl ?_
        refine go_goto cx 33 dX5_when_103 rfl ?_
        refine go_sub [0, 1, 2, 4, 5, 6] [(5, .int (nI (w + 1))), (4, .int (nI w)), (3, .int ((weE (M ru) (svC g 37) vn v) w)), (0, .ref (E.2.1 0)), (1, .int (nI v)), (2, .int x2)] rfl ?_
        have hq2 : mns (weE (M ru) (svC g 37) vn v) (w + 1) = some w := mns_0 hq
        have h9 := ih (w + 1) G_3 (by omega) hG_3f ⟨_, hG_3t, fun i k hi => (up2_n _ _ (by omega)).trans (ha0 i k hi), fun _ => (hG_3c).1.le (by omega)⟩ kk
        rw [hq2] at h9
        exact h9
    | some b =>
      have hb := mns_lt hq
      refine go_iload (pc' := 35) cx dX5_when_33 rfl rfl ?_
      refine go_bipush (pc' := 37) cx 20 dX5_when_35 rfl rfl ?_
      refine go_icmp_gt (pc' := 40) cx 106 dX5_when_37 rfl rfl (fun hh => absurd ((nI_ltI (a := 20) (b := w) (by omega) (by omega)).mp hh) (by omega)) (fun _ => ?_)
      refine go_aload_n (pc' := 41) cx dX5_when_40 rfl rfl ?_
      refine go_getr (pc' := 44) cx 63 fX5_78 dX5_when_41 kq0 (ltn rfl) (ltn rfl) rfl rfl rfl ?_
      refine go_getr (pc' := 47) cx 64 fX5_114 dX5_when_44 kq63 (ltn rfl) (ltn rfl) rfl rfl rfl ?_
      refine go_bipush (pc' := 49) cx 8 dX5_when_47 rfl rfl ?_
      refine go_iload_n (pc' := 50) cx dX5_when_49 rfl rfl ?_
      refine go_iload (pc' := 52) cx dX5_when_50 rfl rfl ?_
      refine go_cVV (pc' := 55) cx (c_writeT l E (G := G) hF hH (w := 8) (k := v) (by omega) (by omega) (by omega) (nI v) (fun _ => rfl) (by omega) (nI w) ((hH).2.2.2.2.up v (nI w) (by omega))) mX1_write lX5_92 dX5_when_52 kq64 (ltn rfl) (ltn rfl) rfl rfl rfl rfl (ltn rfl) (Nat.le_of_ble_eq_true rfl) (Nat.le_of_ble_eq_true rfl) rfl (fun G_1 hG_1 => ?_)
      have hcG_1 : w ≠ 0 → CWp (M ru) (up2 a0 8 v (nI w)) G_1 v := fun q => (hcw q).up hH.2.2.2.2 hhn5 (by omega) (Or.inl rfl) (Nat.le_refl v) hG_1.2.2
      have hb9 : BDs (M ru) (up2 a0 8 v (nI w)) vn = (weE (M ru) (svC g 37) vn v) w := (up8_req (hn := hn) ha0).bd hG_1.2.1.2.2.2.2 hhn5
      refine go_aload_n (pc' := 56) cx dX5_when_55 rfl rfl ?_
      refine go_getr (pc' := 59) cx 63 fX5_78 dX5_when_56 kq0 (ltn rfl) (ltn rfl) rfl rfl rfl ?_
      refine go_iload (pc' := 61) cx dX5_when_59 rfl rfl ?_
      refine go_if_ne (pc' := 64) cx 68 dX5_when_61 rfl rfl (fun c61 => ?_) (fun c61 => ?_)
      · have c61 : ¬ w = 0 := fun q9 => c61 ((nI_eq (a := w) (b := 0) (by omega) (by omega)).mpr q9)
        refine go_iload_n (pc' := 69) cx dX5_when_68 rfl rfl ?_
        have hTG_2 := hX.tx hG_1.1 hX.1.2.2.1
        refine go_cVV (pc' := 72) cx (c_walkvT l E (G := G_1) hX.b hTG_2 hG_1.2.1 (f := v) (by omega) (hcG_1 c61)) mX4_walk lX5_149 dX5_when_69 kq63 (ltn rfl) (ltn rfl) rfl rfl rfl rfl (ltn rfl) (Nat.le_of_ble_eq_true rfl) (Nat.le_of_ble_eq_true rfl) rfl (fun G_2 hG_2 => ?_)
        have hG_2f := (hG_1.1).tr (hG_2.1.mono (fun _ => wk_scr))
        have hG_2t := (hG_1.2.1).wk hG_2.1
        have hG_2c := hG_2.2
        refine go_aload_n (pc' := 73) cx dX5_when_72 rfl rfl ?_
        refine go_getr (pc' := 76) cx 63 fX5_78 dX5_when_73 kq0 (ltn rfl) (ltn rfl) rfl rfl rfl ?_
        refine go_cVi (pc' := 79) cx (hb9 ▸ (c_badT l E (G := G_2) hX.b hG_2t (hG_2c).1)) mX4_badness lX5_134 dX5_when_76 kq63 (ltn rfl) (ltn rfl) rfl rfl rfl rfl (ltn rfl) (Nat.le_of_ble_eq_true rfl) (Nat.le_of_ble_eq_true rfl) rfl ?_
        refine go_istore (pc' := 81) cx dX5_when_79 (ltn rfl) [(6, .int ((weE (M ru) (svC g 37) vn v) w)), (5, .int (nI w)), (4, .int (nI b)), (3, .int ((weE (M ru) (svC g 37) vn v) b)), (0, .ref (E.2.1 0)), (1, .int (nI v)), (2, .int x2)] rfl rfl ?_
        refine go_iload (pc' := 83) cx dX5_when_81 rfl rfl ?_
        refine go_iconst (pc' := 84) cx (-1) dX5_when_83 rfl rfl ?_
        refine go_icmp_eq (pc' := 87) cx 93 dX5_when_84 rfl rfl (fun hh => absurd hh (nI_ne_m20 (by omega))) (fun _ => ?_)
        refine go_iload (pc' := 89) cx dX5_when_87 rfl rfl ?_
        refine go_iload_n (pc' := 90) cx dX5_when_89 rfl rfl ?_
        refine go_icmp_ge (pc' := 93) cx 100 dX5_when_90 rfl rfl (fun c90 => ?_) (fun c90 => ?_)
        · have c90n := Int32.not_lt.mpr c90
          refine go_iinc (pc' := 103) cx (nI (w + 1)) dX5_when_100 rfl (nI_1 w) (ltn rfl) [(5, .int (nI (w + 1))), (6, .int ((weE (M ru) (svC g 37) vn v) w)), (4, .int (nI b)), (3, .int ((weE (M ru) (svC g 37) vn v) b)), (0, .ref (E.2.1 0)), (1, .int (nI v)), (2, .int x2)] rfl rfl ?_
          refine go_goto cx 33 dX5_when_103 rfl ?_
          refine go_sub [0, 2, 3, 4, 5, 6] [(5, .int (nI (w + 1))), (4, .int (nI b)), (3, .int ((weE (M ru) (svC g 37) vn v) b)), (0, .ref (E.2.1 0)), (1, .int (nI v)), (2, .int x2)] rfl ?_
          have hq2 : mns (weE (M ru) (svC g 37) vn v) (w + 1) = some b := mns_g hq (Int32.not_lt.mpr c90)
          have h9 := ih (w + 1) G_2 (by omega) hG_2f ⟨_, hG_2t, fun i k hi => (up2_n _ _ (by omega)).trans (ha0 i k hi), fun _ => (hG_2c).1.le (by omega)⟩ kk
          rw [hq2] at h9
          exact h9
        · have c90n := Int32.not_le.mp c90
          refine go_iload (pc' := 95) cx dX5_when_93 rfl rfl ?_
          refine go_istore_n (pc' := 96) cx dX5_when_95 (ltn rfl) [(3, .int ((weE (M ru) (svC g 37) vn v) w)), (6, .int ((weE (M ru) (svC g 37) vn v) w)), (5, .int (nI w)), (4, .int (nI b)), (0, .ref (E.2.1 0)), (1, .int (nI v)), (2, .int x2)] rfl rfl ?_
          refine go_iload (pc' := 98) cx dX5_when_96 rfl rfl ?_
          refine go_istore (pc' := 100) cx dX5_when_98 (ltn rfl) [(4, .int (nI w)), (3, .int ((weE (M ru) (svC g 37) vn v) w)), (6, .int ((weE (M ru) (svC g 37) vn v) w)), (5, .int (nI w)), (0, .ref (E.2.1 0)), (1, .int (nI v)), (2, .int x2)] rfl rfl ?_
          refine go_iinc (pc' := 103) cx (nI (w + 1)) dX5_when_100 rfl (nI_1 w) (ltn rfl) [(5, .int (nI (w + 1))), (4, .int (nI w)), (3, .int ((weE (M ru) (svC g 37) vn v) w)), (6, .int ((weE (M ru) (svC g 37) vn v) w)), (0, .ref (E.2.1 0)), (1, .int (nI v)), (2, .int x2)] rfl rfl ?_
          refine go_goto cx 33 dX5_when_103 rfl ?_
          refine go_sub [0, 1, 2, 4, 5, 6] [(5, .int (nI (w + 1))), (4, .int (nI w)), (3, .int ((weE (M ru) (svC g 37) vn v) w)), (0, .ref (E.2.1 0)), (1, .int (nI v)), (2, .int x2)] rfl ?_
          have hq2 : mns (weE (M ru) (svC g 37) vn v) (w + 1) = some w := mns_l hq (Int32.not_le.mp c90)
          have h9 := ih (w + 1) G_2 (by omega) hG_2f ⟨_, hG_2t, fun i k hi => (up2_n _ _ (by omega)).trans (ha0 i k hi), fun _ => (hG_2c).1.le (by omega)⟩ kk
          rw [hq2] at h9
          exact h9
      · have c61 := (nI_eq (a := w) (b := 0) (by omega) (by omega)).mp c61
        refine go_iconst (pc' := 65) cx 0 dX5_when_64 rfl rfl ?_
        refine go_goto cx 69 dX5_when_65 rfl ?_
        have hTG_3 := hX.tx hG_1.1 hX.1.2.2.1
        refine go_cVV (pc' := 72) cx (c_walk0T l E (G := G_1) hX.b hTG_3 hG_1.2.1) mX4_walk lX5_149 dX5_when_69 kq63 (ltn rfl) (ltn rfl) rfl rfl rfl rfl (ltn rfl) (Nat.le_of_ble_eq_true rfl) (Nat.le_of_ble_eq_true rfl) rfl (fun G_3 hG_3 => ?_)
        have hG_3f := (hG_1.1).tr (hG_3.1.mono (fun _ => wk_scr))
        have hG_3t := (hG_1.2.1).wk hG_3.1
        have hG_3c := hG_3.2
        refine go_aload_n (pc' := 73) cx dX5_when_72 rfl rfl ?_
        refine go_getr (pc' := 76) cx 63 fX5_78 dX5_when_73 kq0 (ltn rfl) (ltn rfl) rfl rfl rfl ?_
        refine go_cVi (pc' := 79) cx (hb9 ▸ (c_badT l E (G := G_3) hX.b hG_3t (hG_3c).1)) mX4_badness lX5_134 dX5_when_76 kq63 (ltn rfl) (ltn rfl) rfl rfl rfl rfl (ltn rfl) (Nat.le_of_ble_eq_true rfl) (Nat.le_of_ble_eq_true rfl) rfl ?_
        refine go_istore (pc' := 81) cx dX5_when_79 (ltn rfl) [(6, .int ((weE (M ru) (svC g 37) vn v) w)), (5, .int (nI w)), (4, .int (nI b)), (3, .int ((weE (M ru) (svC g 37) vn v) b)), (0, .ref (E.2.1 0)), (1, .int (nI v)), (2, .int x2)] rfl rfl ?_
        refine go_iload (pc' := 83) cx dX5_when_81 rfl rfl ?_
        refine go_iconst (pc' := 84) cx (-1) dX5_when_83 rfl rfl ?_
        refine go_icmp_eq (pc' := 87) cx 93 dX5_when_84 rfl rfl (fun hh => absurd hh (nI_ne_m20 (by omega))) (fun _ => ?_)
        refine go_iload (pc' := 89) cx dX5_when_87 rfl rfl ?_
        refine go_iload_n (pc' := 90) cx dX5_when_89 rfl rfl ?_
        refine go_icmp_ge (pc' := 93) cx 100 dX5_when_90 rfl rfl (fun c90 => ?_) (fun c90 => ?_)
        · have c90n := Int32.not_lt.mpr c90
          refine go_iinc (pc' := 103) cx (nI (w + 1)) dX5_when_100 rfl (nI_1 w) (ltn rfl) [(5, .int (nI (w + 1))), (6, .int ((weE (M ru) (svC g 37) vn v) w)), (4, .int (nI b)), (3, .int ((weE (M ru) (svC g 37) vn v) b)), (0, .ref (E.2.1 0)), (1, .int (nI v)), (2, .int x2)] rfl rfl ?_
          refine go_goto cx 33 dX5_when_103 rfl ?_
          refine go_sub [0, 2, 3, 4, 5, 6] [(5, .int (nI (w + 1))), (4, .int (nI b)), (3, .int ((weE (M ru) (svC g 37) vn v) b)), (0, .ref (E.2.1 0)), (1, .int (nI v)), (2, .int x2)] rfl ?_
          have hq2 : mns (weE (M ru) (svC g 37) vn v) (w + 1) = some b := mns_g hq (Int32.not_lt.mpr c90)
          have h9 := ih (w + 1) G_3 (by omega) hG_3f ⟨_, hG_3t, fun i k hi => (up2_n _ _ (by omega)).trans (ha0 i k hi), fun _ => (hG_3c).1.le (by omega)⟩ kk
          rw [hq2] at h9
          exact h9
        · have c90n := Int32.not_le.mp c90
          refine go_iload (pc' := 95) cx dX5_when_93 rfl rfl ?_
          refine go_istore_n (pc' := 96) cx dX5_when_95 (ltn rfl) [(3, .int ((weE (M ru) (svC g 37) vn v) w)), (6, .int ((weE (M ru) (svC g 37) vn v) w)), (5, .int (nI w)), (4, .int (nI b)), (0, .ref (E.2.1 0)), (1, .int (nI v)), (2, .int x2)] rfl rfl ?_
          refine go_iload (pc' := 98) cx dX5_when_96 rfl rfl ?_
          refine go_istore (pc' := 100) cx dX5_when_98 (ltn rfl) [(4, .int (nI w)), (3, .int ((weE (M ru) (svC g 37) vn v) w)), (6, .int ((weE (M ru) (svC g 37) vn v) w)), (5, .int (nI w)), (0, .ref (E.2.1 0)), (1, .int (nI v)), (2, .int x2)] rfl rfl ?_
          refine go_iinc (pc' := 103) cx (nI (w + 1)) dX5_when_100 rfl (nI_1 w) (ltn rfl) [(5, .int (nI (w + 1))), (4, .int (nI w)), (3, .int ((weE (M ru) (svC g 37) vn v) w)), (6, .int ((weE (M ru) (svC g 37) vn v) w)), (0, .ref (E.2.1 0)), (1, .int (nI v)), (2, .int x2)] rfl rfl ?_
          refine go_goto cx 33 dX5_when_103 rfl ?_
          refine go_sub [0, 1, 2, 4, 5, 6] [(5, .int (nI (w + 1))), (4, .int (nI w)), (3, .int ((weE (M ru) (svC g 37) vn v) w)), (0, .ref (E.2.1 0)), (1, .int (nI v)), (2, .int x2)] rfl ?_
          have hq2 : mns (weE (M ru) (svC g 37) vn v) (w + 1) = some w := mns_l hq (Int32.not_le.mp c90)
          have h9 := ih (w + 1) G_3 (by omega) hG_3f ⟨_, hG_3t, fun i k hi => (up2_n _ _ (by omega)).trans (ha0 i k hi), fun _ => (hG_3c).1.le (by omega)⟩ kk
          rw [hq2] at h9
          exact h9

set_option maxHeartbeats 1000000 in
set_option maxRecDepth 20000 in
theorem c_X5_when (l : Launch) (E : Ev) {g : IG} {o : Option Nat} {z : Int64} {hn vn ru tc : Nat} {M : Nat → TM} (hX : XP g hn vn ru tc M) (x1 x2 : Int32) : Ct l E 115 yX5_when cX5_when 7 (some .int) 7 [.ref (E.2.1 0), .int x1, .int x2] g (RFo o) z (ZI (RFo o) z (fun x g1 => x = whenF (M ru) (svC g 37) vn x1 x2 ∧ Fr scr g g1)) := by
  refine Ct.of (lv0 := [(0, .ref (E.2.1 0)), (1, .int x1), (2, .int x2)]) (by decide) (Nat.le_of_ble_eq_true rfl) rfl ?_
  intro p e s m below meth c cx
  obtain ⟨hhn5, hvn8, hruc, htc6⟩ := id hX.1
  refine go_aload_n (pc' := 1) cx dX5_when_0 rfl rfl ?_
  refine go_iload_n (pc' := 2) cx dX5_when_1 rfl rfl ?_
  refine go_cVi (pc' := 5) cx (c_isVisitT l E (g := g) hX.2.2.1 x1) mX5_isVisit lX5_108 dX5_when_2 kq0 (ltn rfl) (ltn rfl) rfl rfl rfl rfl (ltn rfl) (Nat.le_of_ble_eq_true rfl) (Nat.le_of_ble_eq_true rfl) rfl ?_
  refine go_if_eq (pc' := 8) cx 15 dX5_when_5 rfl rfl (fun c5 => ?_) (fun c5 => ?_)
  · refine go_bipush (pc' := 17) cx (-2) dX5_when_15 rfl rfl ?_
    refine go_iret cx rfl dX5_when_17 ?_
    exact ZI.mk ⟨by first | (simp only [whenF, c5, if_true, if_false]; done) | (simp [whenF, c5, if_true, if_false]; done), Fr.rf⟩
  · refine go_iload_n (pc' := 9) cx dX5_when_8 rfl rfl ?_
    refine go_cSi (pc' := 12) cx (c_X5_isFirstOrSecond l E (g := g) x2) mX5_isFirstOrSecond lX5_146 dX5_when_9 rfl rfl rfl (ltn rfl) (Nat.le_of_ble_eq_true rfl) (Nat.le_of_ble_eq_true rfl) rfl ?_
    refine go_if_ne (pc' := 15) cx 18 dX5_when_12 rfl rfl (fun c12 => ?_) (fun c12 => ?_)
    · obtain ⟨v, hv, ev⟩ := in_ok (k := vn) (by omega) c5
      subst ev
      have clv := clI_n (k := v) (by omega)
      refine go_iconst (pc' := 19) cx (-1) dX5_when_18 rfl rfl ?_
      refine go_istore_n (pc' := 20) cx dX5_when_19 (ltn rfl) [(3, .int (-1)), (0, .ref (E.2.1 0)), (1, .int (nI v)), (2, .int x2)] rfl rfl ?_
      refine go_iconst (pc' := 21) cx (-1) dX5_when_20 rfl rfl ?_
      refine go_istore (pc' := 23) cx dX5_when_21 (ltn rfl) [(4, .int (-1)), (3, .int (-1)), (0, .ref (E.2.1 0)), (1, .int (nI v)), (2, .int x2)] rfl rfl ?_
      refine go_aload_n (pc' := 24) cx dX5_when_23 rfl rfl ?_
      refine go_getr (pc' := 27) cx 63 fX5_78 dX5_when_24 kq0 (ltn rfl) (ltn rfl) rfl rfl rfl ?_
      refine go_cVV (pc' := 30) cx (c_beginT l E (G := g) hX Fr.rf) mX4_begin lX5_111 dX5_when_27 kq63 (ltn rfl) (ltn rfl) rfl rfl rfl rfl (ltn rfl) (Nat.le_of_ble_eq_true rfl) (Nat.le_of_ble_eq_true rfl) rfl (fun G_1 hG_1 => ?_)
      refine go_iconst (pc' := 31) cx 0 dX5_when_30 rfl rfl ?_
      refine go_istore (pc' := 33) cx dX5_when_31 (ltn rfl) [(5, .int 0), (4, .int (-1)), (3, .int (-1)), (0, .ref (E.2.1 0)), (1, .int (nI v)), (2, .int x2)] rfl rfl ?_
      refine when_loop hX (v := v) hv x2 cx 21 0 G_1 (Nat.zero_add 21) hG_1.1 ⟨_, hG_1.2, fun _ _ _ => rfl, fun q => absurd rfl q⟩ (fun G hF => ?_)
      refine go_iload_n (pc' := 107) cx dX5_when_106 rfl rfl ?_
      refine go_if_ne (pc' := 110) cx 115 dX5_when_107 rfl rfl (fun c107 => ?_) (fun c107 => ?_)
      · refine go_iload_n (pc' := 116) cx dX5_when_115 rfl rfl ?_
        refine go_iret cx rfl dX5_when_116 ?_
        exact ZI.mk ⟨by unfold whenF; rw [clv, if_neg c5, if_neg c12]; first | rw [if_pos c107] | rw [if_neg c107], hF⟩
      · refine go_iload (pc' := 112) cx dX5_when_110 rfl rfl ?_
        refine go_goto cx 116 dX5_when_112 rfl ?_
        refine go_iret cx rfl dX5_when_116 ?_
        exact ZI.mk ⟨by unfold whenF; rw [clv, if_neg c5, if_neg c12]; first | rw [if_pos c107] | rw [if_neg c107], hF⟩
    · refine go_bipush (pc' := 17) cx (-2) dX5_when_15 rfl rfl ?_
      refine go_iret cx rfl dX5_when_17 ?_
      exact ZI.mk ⟨by first | (simp only [whenF, c5, c12, if_true, if_false]; done) | (simp [whenF, c5, c12, if_true, if_false]; done), Fr.rf⟩

set_option maxHeartbeats 1000000 in
set_option maxRecDepth 20000 in
theorem drawn_loop {l : Launch} {E : Ev} {Z : ZT} {g : IG} {o : Option Nat} {z : Int64} {p : Program} {e : Env} {s : State} {m : MethodId} {args : Array Value} {below : List Frame} {meth : Method} {c : Code} {hn vn ru tc : Nat} {M : Nat → TM} (hX : XP g hn vn ru tc M) (h0 : 0 < hn) (x1 : Int32) (cx : Cx p s m args meth c E 115 cX5_badnessDrawn 4 yX5_badnessDrawn.cls (some .int)) : ∀ (k v : Nat) (G : IG), v + k = vn → Fr scr g G → TH (drS (svC g 37) x1 hn v) hn vn ru G → (∀ G', Fr scr g G' → TH (drS (svC g 37) x1 hn vn) hn vn ru G' → Go p l e (rmd 6) s m args below meth c E 115 4 Z G' (RFo o) z 74 [(0, .ref (E.2.1 0))] []) → Go p l e (rmd 6) s m args below meth c E 115 4 Z G (RFo o) z 23 [(3, .int (nI v)), (2, .int (drZ x1 v)), (0, .ref (E.2.1 0)), (1, .int x1)] [] := by
  obtain ⟨hhn5, hvn8, hruc, htc6⟩ := id hX.1
  intro k
  induction k with
  | zero =>
    intro v G hk hF hH kk
    have hq : v = vn := by omega
    subst hq
    refine go_iload_n (pc' := 24) cx dX5_badnessDrawn_23 rfl rfl ?_
    refine go_aload_n (pc' := 25) cx dX5_badnessDrawn_24 rfl rfl ?_
    refine go_getr (pc' := 28) cx 37 fX5_66 dX5_badnessDrawn_25 kq0 (ltn rfl) (ltn rfl) rfl rfl rfl ?_
    refine go_geti (pc' := 31) cx (nI v) fX5_143 dX5_badnessDrawn_28 kq37 (ltn rfl) (ltn rfl) rfl ((congrFun (hF 37 (by unfold scr; omega)) 3).trans hX.2.2.1) rfl ?_
    refine go_icmp_ge (pc' := 34) cx 74 dX5_badnessDrawn_31 rfl rfl (fun _ => ?_) (fun hh => absurd ((nI_leI (a := v) (b := v) (by omega) (by omega)).mpr (Nat.le_refl _)) hh)
    refine go_sub [2] [(0, .ref (E.2.1 0))] rfl ?_
    exact kk G hF hH
  | succ k ih =>
    intro v G hk hF hH kk
    refine go_iload_n (pc' := 24) cx dX5_badnessDrawn_23 rfl rfl ?_
    refine go_aload_n (pc' := 25) cx dX5_badnessDrawn_24 rfl rfl ?_
    refine go_getr (pc' := 28) cx 37 fX5_66 dX5_badnessDrawn_25 kq0 (ltn rfl) (ltn rfl) rfl rfl rfl ?_
    refine go_geti (pc' := 31) cx (nI vn) fX5_143 dX5_badnessDrawn_28 kq37 (ltn rfl) (ltn rfl) rfl ((congrFun (hF 37 (by unfold scr; omega)) 3).trans hX.2.2.1) rfl ?_
    refine go_icmp_ge (pc' := 34) cx 74 dX5_badnessDrawn_31 rfl rfl (fun hh => absurd ((nI_leI (a := vn) (b := v) (by omega) (by omega)).mp hh) (by omega)) (fun _ => ?_)
    refine go_iload_n (pc' := 35) cx dX5_badnessDrawn_34 rfl rfl ?_
    refine go_ldc (pc' := 37) cx 1103515245 kX5_230 dX5_badnessDrawn_35 rfl ?_
    refine go_imul (pc' := 38) cx dX5_badnessDrawn_37 rfl ?_
    refine go_sipush (pc' := 41) cx 12345 dX5_badnessDrawn_38 rfl rfl ?_
    refine go_iadd (pc' := 42) cx dX5_badnessDrawn_41 rfl ?_
    refine go_istore_n (pc' := 43) cx dX5_badnessDrawn_42 (ltn rfl) [(2, .int (((drZ x1 v) * 1103515245) + 12345)), (3, .int (nI v)), (0, .ref (E.2.1 0)), (1, .int x1)] rfl rfl ?_
    refine go_aload_n (pc' := 44) cx dX5_badnessDrawn_43 rfl rfl ?_
    refine go_getr (pc' := 47) cx 63 fX5_78 dX5_badnessDrawn_44 kq0 (ltn rfl) (ltn rfl) rfl rfl rfl ?_
    refine go_getr (pc' := 50) cx 64 fX5_114 dX5_badnessDrawn_47 kq63 (ltn rfl) (ltn rfl) rfl rfl rfl ?_
    refine go_bipush (pc' := 52) cx 7 dX5_badnessDrawn_50 rfl rfl ?_
    refine go_iload_n (pc' := 53) cx dX5_badnessDrawn_52 rfl rfl ?_
    refine go_iload_n (pc' := 54) cx dX5_badnessDrawn_53 rfl rfl ?_
    refine go_bipush (pc' := 56) cx 9 dX5_badnessDrawn_54 rfl rfl ?_
    refine go_iushr (pc' := 57) cx dX5_badnessDrawn_56 rfl ?_
    refine go_aload_n (pc' := 58) cx dX5_badnessDrawn_57 rfl rfl ?_
    refine go_getr (pc' := 61) cx 37 fX5_66 dX5_badnessDrawn_58 kq0 (ltn rfl) (ltn rfl) rfl rfl rfl ?_
    refine go_geti (pc' := 64) cx (nI hn) fX5_96 dX5_badnessDrawn_61 kq37 (ltn rfl) (ltn rfl) rfl ((congrFun (hF 37 (by unfold scr; omega)) 2).trans hX.2.1) rfl ?_
    refine go_irem (pc' := 65) cx (nI_ne0 h0 (by omega)) dX5_badnessDrawn_64 rfl ?_
    refine go_cVV (pc' := 68) cx (c_writeT l E (G := G) hF hH (w := 7) (k := v) (by omega) (by omega) (by omega) (nI v) (fun _ => rfl) (by omega) ((((((drZ x1 v) * 1103515245) + 12345).toUInt32 >>> ((9 : Int32).toUInt32 &&& Int32.toUInt32 31)).toInt32) - (((((drZ x1 v) * 1103515245) + 12345).toUInt32 >>> ((9 : Int32).toUInt32 &&& Int32.toUInt32 31)).toInt32) / (nI hn) * (nI hn)) (drS_hd hX.2.2.2.2.2.2 (z := x1) h0 hhn5 (v + 1))) mX1_write lX5_92 dX5_badnessDrawn_65 kq64 (ltn rfl) (ltn rfl) rfl rfl rfl rfl (ltn rfl) (Nat.le_of_ble_eq_true rfl) (Nat.le_of_ble_eq_true rfl) rfl (fun G_1 hG_1 => ?_)
    refine go_iinc (pc' := 71) cx (nI (v + 1)) dX5_badnessDrawn_68 rfl (nI_1 v) (ltn rfl) [(3, .int (nI (v + 1))), (2, .int (((drZ x1 v) * 1103515245) + 12345)), (0, .ref (E.2.1 0)), (1, .int x1)] rfl rfl ?_
    refine go_goto cx 23 dX5_badnessDrawn_71 rfl ?_
    refine go_sub [0, 1, 2, 3] [(3, .int (nI (v + 1))), (2, .int (drZ x1 (v + 1))), (0, .ref (E.2.1 0)), (1, .int x1)] rfl ?_
    exact ih (v + 1) G_1 (by omega) hG_1.1 (hG_1.2.1) kk

set_option maxHeartbeats 1000000 in
set_option maxRecDepth 20000 in
theorem c_X5_badnessDrawn (l : Launch) (E : Ev) {g G : IG} {o : Option Nat} {z : Int64} {hn vn ru tc : Nat} {M : Nat → TM} (hX : XP g hn vn ru tc M) (h0 : 0 < hn) (hF : Fr scr g G) (x1 : Int32) : Ct l E 115 yX5_badnessDrawn cX5_badnessDrawn 4 (some .int) 6 [.ref (E.2.1 0), .int x1] G (RFo o) z (ZI (RFo o) z (fun x g1 => x = BDs (M ru) (drS (svC g 37) x1 hn vn) vn ∧ Fr scr g g1)) := by
  refine Ct.of (lv0 := [(0, .ref (E.2.1 0)), (1, .int x1)]) (by decide) (Nat.le_of_ble_eq_true rfl) rfl ?_
  intro p e s m below meth c cx
  obtain ⟨hhn5, hvn8, hruc, htc6⟩ := id hX.1
  refine go_aload_n (pc' := 1) cx dX5_badnessDrawn_0 rfl rfl ?_
  refine go_getr (pc' := 4) cx 37 fX5_66 dX5_badnessDrawn_1 kq0 (ltn rfl) (ltn rfl) rfl rfl rfl ?_
  refine go_geti (pc' := 7) cx (nI hn) fX5_96 dX5_badnessDrawn_4 kq37 (ltn rfl) (ltn rfl) rfl ((congrFun (hF 37 (by unfold scr; omega)) 2).trans hX.2.1) rfl ?_
  refine go_if_ne (pc' := 10) cx 12 dX5_badnessDrawn_7 rfl rfl (fun _ => ?_) (fun hh => absurd hh (nI_ne0 h0 (by omega)))
  refine go_iload_n (pc' := 13) cx dX5_badnessDrawn_12 rfl rfl ?_
  refine go_istore_n (pc' := 14) cx dX5_badnessDrawn_13 (ltn rfl) [(2, .int x1), (0, .ref (E.2.1 0)), (1, .int x1)] rfl rfl ?_
  refine go_aload_n (pc' := 15) cx dX5_badnessDrawn_14 rfl rfl ?_
  refine go_getr (pc' := 18) cx 63 fX5_78 dX5_badnessDrawn_15 kq0 (ltn rfl) (ltn rfl) rfl rfl rfl ?_
  refine go_cVV (pc' := 21) cx (c_beginT l E (G := G) hX hF) mX4_begin lX5_111 dX5_badnessDrawn_18 kq63 (ltn rfl) (ltn rfl) rfl rfl rfl rfl (ltn rfl) (Nat.le_of_ble_eq_true rfl) (Nat.le_of_ble_eq_true rfl) rfl (fun G_1 hG_1 => ?_)
  refine go_iconst (pc' := 22) cx 0 dX5_badnessDrawn_21 rfl rfl ?_
  refine go_istore_n (pc' := 23) cx dX5_badnessDrawn_22 (ltn rfl) [(3, .int 0), (2, .int x1), (0, .ref (E.2.1 0)), (1, .int x1)] rfl rfl ?_
  refine drawn_loop hX h0 x1 cx vn 0 G_1 (Nat.zero_add vn) hG_1.1 hG_1.2 (fun G hF hH => ?_)
  refine go_aload_n (pc' := 75) cx dX5_badnessDrawn_74 rfl rfl ?_
  refine go_getr (pc' := 78) cx 63 fX5_78 dX5_badnessDrawn_75 kq0 (ltn rfl) (ltn rfl) rfl rfl rfl ?_
  refine go_iconst (pc' := 79) cx 0 dX5_badnessDrawn_78 rfl rfl ?_
  have hTG_51 := hX.tx hF hX.1.2.2.1
  refine go_cVV (pc' := 82) cx (c_walk0T l E (G := G) hX.b hTG_51 hH) mX4_walk lX5_149 dX5_badnessDrawn_79 kq63 (ltn rfl) (ltn rfl) rfl rfl rfl rfl (ltn rfl) (Nat.le_of_ble_eq_true rfl) (Nat.le_of_ble_eq_true rfl) rfl (fun G_51 hG_51 => ?_)
  have hG_51f := (hF).tr (hG_51.1.mono (fun _ => wk_scr))
  have hG_51t := (hH).wk hG_51.1
  have hG_51c := hG_51.2
  refine go_aload_n (pc' := 83) cx dX5_badnessDrawn_82 rfl rfl ?_
  refine go_getr (pc' := 86) cx 63 fX5_78 dX5_badnessDrawn_83 kq0 (ltn rfl) (ltn rfl) rfl rfl rfl ?_
  refine go_cVi (pc' := 89) cx (c_badT l E (G := G_51) hX.b hG_51t (hG_51c).1) mX4_badness lX5_134 dX5_badnessDrawn_86 kq63 (ltn rfl) (ltn rfl) rfl rfl rfl rfl (ltn rfl) (Nat.le_of_ble_eq_true rfl) (Nat.le_of_ble_eq_true rfl) rfl ?_
  refine go_iret cx rfl dX5_badnessDrawn_89 ?_
  exact ZI.mk ⟨rfl, hG_51f⟩

set_option maxHeartbeats 1000000 in
set_option maxRecDepth 20000 in
theorem c_X5_drawn (l : Launch) (E : Ev) {g : IG} {o : Option Nat} {z : Int64} {hn vn ru tc : Nat} {M : Nat → TM} (hX : XP g hn vn ru tc M) (x1 : Int32) : Ct l E 115 yX5_drawn cX5_drawn 2 (some .int) 7 [.ref (E.2.1 0), .int x1] g (RFo o) z (ZI (RFo o) z (fun x g1 => x = drawF (M ru) (svC g 37) hn vn x1 ∧ Fr scr g g1)) := by
  refine Ct.of (lv0 := [(0, .ref (E.2.1 0)), (1, .int x1)]) (by decide) (Nat.le_of_ble_eq_true rfl) rfl ?_
  intro p e s m below meth c cx
  obtain ⟨hhn5, hvn8, hruc, htc6⟩ := id hX.1
  refine go_aload_n (pc' := 1) cx dX5_drawn_0 rfl rfl ?_
  refine go_getr (pc' := 4) cx 37 fX5_66 dX5_drawn_1 kq0 (ltn rfl) (ltn rfl) rfl rfl rfl ?_
  refine go_geti (pc' := 7) cx (nI hn) fX5_96 dX5_drawn_4 kq37 (ltn rfl) (ltn rfl) rfl hX.2.1 rfl ?_
  refine go_if_ne (pc' := 10) cx 14 dX5_drawn_7 rfl rfl (fun c7 => ?_) (fun c7 => ?_)
  · have c7 : ¬ hn = 0 := fun q9 => c7 ((nI_eq (a := hn) (b := 0) (by omega) (by omega)).mpr q9)
    have h0 : 0 < hn := Nat.pos_of_ne_zero c7
    refine go_aload_n (pc' := 15) cx dX5_drawn_14 rfl rfl ?_
    refine go_iload_n (pc' := 16) cx dX5_drawn_15 rfl rfl ?_
    refine go_cVI (pc' := 19) cx (c_X5_badnessDrawn l E (G := g) hX h0 Fr.rf x1) mX5_badnessDrawn lX5_193 dX5_drawn_16 kq0 (ltn rfl) (ltn rfl) rfl rfl rfl rfl (ltn rfl) (Nat.le_of_ble_eq_true rfl) (Nat.le_of_ble_eq_true rfl) rfl (fun y_2 G_1 hG_1 => ?_)
    have ey_2 := hG_1.1
    subst ey_2
    refine go_iret cx rfl dX5_drawn_19 ?_
    exact ZI.mk ⟨by unfold drawF; first | rw [if_pos c7] | rw [if_neg c7], hG_1.2⟩
  · have c7 := (nI_eq (a := hn) (b := 0) (by omega) (by omega)).mp c7
    refine go_iconst (pc' := 11) cx (-1) dX5_drawn_10 rfl rfl ?_
    refine go_goto cx 19 dX5_drawn_11 rfl ?_
    refine go_iret cx rfl dX5_drawn_19 ?_
    exact ZI.mk ⟨by unfold drawF; first | rw [if_pos c7] | rw [if_neg c7], Fr.rf⟩
