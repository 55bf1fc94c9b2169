/-! THE CLASS: what needs a course, as functions of a salon -/
def clI (x : Int32) : Nat := x.toNatClampNeg
theorem clI_n {k : Nat} (h : k < 2 ^ 31) : clI (nI k) = k := nI_clamp h
theorem inI_1 {k v : Nat} (h : v < k) (hk : k < 2 ^ 31) : inI (nI k) (nI v) = 1 := by
  unfold inI
  rw [if_neg (nI_pos (by omega)), if_neg (nI_ge h hk)]
theorem inI_1' {k v : Nat} (h : v < k) (hk : k < 2 ^ 31) : ¬ inI (nI k) (nI v) = 0 := by
  rw [inI_1 h hk]
  decide
def onceF (M : TM) (a : Sv) (vn : Nat) (x1 x2 : Int32) : Int32 :=
  if inI (nI vn) x1 = 0 then -2 else if x2 < 0 then -2 else if 5 < x2 then -2
  else if x2 < 4 then stL M a (clI x1) (a 0) (a 1) (clI x2) else if x2 = 4 then ctA M a (clI x1) (a 0) (a 1) else ofA M a (stL M a (clI x1) (a 0) (a 1)) (stL M a (clI x1) (a 0) (a 1))
def goF (M : TM) (a : Sv) (vn : Nat) (x1 : Int32) : Int32 :=
  if inI (nI vn) x1 = 0 then -2 else ofA M a (stL M a (clI x1) (a 0) (a 1)) (stL M a (clI x1) (a 0) (a 1))
def courseF (M : TM) (a : Sv) (vn : Nat) (x1 x2 : Int32) : Int32 := if inI (nI vn) x1 = 0 then -2 else if inI 4 x2 = 0 then -2 else (crs M a (clI x1 + 1)).1 (clI x2)
def badF (M : TM) (a : Sv) (vn : Nat) (x : Int32) : Int32 := if x < 0 then -2 else if 3 < x then -2 else if x = 0 then BDs M a vn else if x = 1 then sumI (CTs M a) vn else if x = 2 then ofA M a (crs M a vn).1 (crs M a vn).2 else oi (wrs (OFs M a) vn)
def driftF (M : TM) (a : Sv) (vn : Nat) (x : Int32) : Int32 := if inI 4 x = 0 then -1000 else (crs M a vn).1 (clI x) - a 2 (clI x)
def agn (f : Nat → Int32) : Nat → Int32 → Int32
  | 0, b => b
  | v + 1, b => if f v = 0 then b else agn f v (nI v)
def againF (M : TM) (a : Sv) (vn : Nat) (x : Int32) : Int32 := if x < 0 then -2 else if 199 < x then -2 else agn (fun v => isN (crs M a (v + 1)).1 (a 2) x) vn (-1)
theorem agn_c {f f' : Nat → Int32} : ∀ n b, (∀ k, k < n → f k = f' k) → agn f n b = agn f' n b
  | 0, _, _ => rfl
  | n + 1, b, h => by
    unfold agn
    rw [h n (by omega), agn_c n (nI n) (fun k hk => h k (by omega))]
theorem wrs_c {f f' : Nat → Int32} : ∀ n, (∀ k, k < n → f k = f' k) → wrs f n = wrs f' n
  | 0, _ => rfl
  | n + 1, h => by
    have ih := wrs_c n (fun k hk => h k (by omega))
    unfold wrs
    rw [ih]
    cases hq : wrs f' n with
    | none => rfl
    | some w =>
      dsimp only
      rw [h n (by omega), h w (by have := wrs_lt hq; omega)]
theorem isN_E4 {L L' W W' : Nat → Int32} {x : Int32} (h : E4 L L') (hW : E4 W W') : isN L W x = isN L' W' x := by
  unfold isN
  rw [h 0 (by omega), h 1 (by omega), h 2 (by omega), h 3 (by omega), hW 0 (by omega), hW 1 (by omega), hW 2 (by omega), hW 3 (by omega)]
theorem foF_c {f f' h h' : Nat → Int32} : ∀ k v, (∀ j, v ≤ j → j < v + k → f j = f' j ∧ h j = h' j) → foF f h v k = foF f' h' v k
  | 0, _, _ => rfl
  | k + 1, v, q => by
    unfold foF
    rw [(q v (Nat.le_refl _) (by omega)).1, (q v (Nat.le_refl _) (by omega)).2, foF_c k (v + 1) (fun j h1 h2 => q j (by omega) (by omega))]
/-- and the lengths of now -/
def scX (i : Nat) : Prop := scr i ∨ i = 39 ∨ i = 40
theorem svC_fr {g G : IG} (h : Fr scr g G) (w k : Nat) : svC G 37 w k = svC g 37 w k := by
  unfold svC
  split
  · rw [h _ (by unfold scr; omega)]
  · rw [h 37 (by unfold scr; omega)]
theorem bc_req {g : IG} {hn vn ru tc : Nat} {M : Nat → TM} (hX : XP g hn vn ru tc M) : Req (svC (bcF g 64 37) 64) (svC g 37) hn vn := by
  have hs : ∀ w k, w < 11 → k < 8 → svC (bcF g 64 37) 64 w k = svC g 37 w k := fun w k hw hk => bcF_sv s64 hk (Or.inl hw)
  exact ⟨fun p hp => hs 0 p (by omega) (by omega), fun p hp => hs 1 p (by omega) (by omega), fun p hp => hs 2 p (by omega) (by omega), hs 3 0 (by omega) (by omega), fun w k hw hk => hs w k (by omega) (by have := hX.1; omega), fun w k hw hk => hs w k (by omega) (by have := hX.1; omega)⟩
theorem und_st {M : TM} {G : IG} {so v h : Nat} (hg : G (so + 2 + 7) v = nI h) (hh : h < 8) : (und2 M G so v h).2 = stL M (svC G so) v (G (so + 2 + 0)) (G (so + 2 + 1)) ∧ 0 + nI (und1 M G so v h).1 + nI (und2 M G so v h).1 = ctA M (svC G so) v (G (so + 2 + 0)) (G (so + 2 + 1)) := by
  have e : hdA (svC G so) v = h := by
    unfold hdA
    show (G (so + 2 + 7) v).toNatClampNeg = h
    rw [hg]
    exact nI_clamp (by omega)
  rw [und1_v, und2_v]
  unfold stL ctA
  rw [e]
  exact ⟨rfl, rfl⟩
theorem und_eq {M : TM} {G : IG} {so : Nat} {a : Sv} {hn vn v : Nat} (hh : hn ≤ 5) (hR : Req (svC G so) a hn vn) (hd : HdS a hn vn) (hv : v < vn) : E4 (stL M (svC G so) v (G (so + 2 + 0)) (G (so + 2 + 1))) (stL M a v (a 0) (a 1)) ∧ ctA M (svC G so) v (G (so + 2 + 0)) (G (so + 2 + 1)) = ctA M a v (a 0) (a 1) :=
  ⟨stL_E4 (hR.rv (hR.sy.hds hd) hh hv) hR.1 hR.2.1, ctA_E4 (hR.rv (hR.sy.hds hd) hh hv) hR.1 hR.2.1⟩
/-- a row's first n places anew -/
def filS (a : Sv) (w : Nat) (x : Int32) : Nat → Sv
  | 0 => a
  | v + 1 => up2 (filS a w x v) w v x
theorem filS_r {a : Sv} {w : Nat} {x : Int32} : ∀ n i k, filS a w x n i k = if i = w ∧ k < n then x else a i k
  | 0, i, k => by
    rw [if_neg (by omega)]
    rfl
  | n + 1, i, k => by
    unfold filS up2
    rw [filS_r n i k]
    by_cases h1 : i = w
    · rw [if_pos h1]
      by_cases h2 : k = n
      · rw [if_pos h2, if_pos ⟨h1, by omega⟩]
      · rw [if_neg h2]
        by_cases h3 : k < n
        · rw [if_pos ⟨h1, h3⟩, if_pos ⟨h1, by omega⟩]
        · rw [if_neg (by omega), if_neg (by omega)]
    · rw [if_neg h1, if_neg (by omega), if_neg (by omega)]
theorem filS_hd {a : Sv} {hn vn : Nat} (h : HdS a hn vn) {w : Nat} {x : Int32} (hx : w = 7 → ∃ j, j < hn ∧ x = nI j) (n : Nat) : HdS (filS a w x n) hn vn := fun v hv => by
  rw [filS_r]
  by_cases q : 7 = w ∧ v < n
  · rw [if_pos q]
    obtain ⟨j, h1, h2⟩ := hx q.1.symm
    exact ⟨j, h1, h2⟩
  · rw [if_neg q]
    exact h v hv
theorem filS_req {a b : Sv} {hn vn : Nat} {w : Nat} {x : Int32} (hw : w = 7 ∨ w = 8 ∨ w = 9) (h : ∀ i k, i ≠ w → a i k = b i k) : Req (filS a w x vn) (filS b w x vn) hn vn := by
  have e : ∀ i k, i ≠ w → filS a w x vn i k = filS b w x vn i k := fun i k hi => by
    rw [filS_r, filS_r, if_neg (by omega), if_neg (by omega)]
    exact h i k hi
  refine ⟨fun p _ => e _ _ (by omega), fun p _ => e _ _ (by omega), fun p _ => e _ _ (by omega), e _ _ (by omega), fun i k hi _ => e _ _ (by omega), fun i k hi hk => ?_⟩
  by_cases q : i = w
  · rw [filS_r, filS_r, if_pos ⟨q, hk⟩, if_pos ⟨q, hk⟩]
  · exact e _ _ q
/-- the first of the least -/
def mns (f : Nat → Int32) : Nat → Option Nat
  | 0 => none
  | n + 1 => match mns f n with
    | none => some n
    | some w => if f n < f w then some n else some w
def ov (f : Nat → Int32) : Option Nat → Int32
  | none => -1
  | some w => f w
theorem mns_lt {f : Nat → Int32} : ∀ {n w : Nat}, mns f n = some w → w < n
  | 0, _, h => by cases h
  | n + 1, w, h => by
    unfold mns at h
    cases hq : mns f n with
    | none =>
      rw [hq] at h
      cases h
      exact Nat.lt_succ_self _
    | some u =>
      rw [hq] at h
      have hu := mns_lt hq
      dsimp only at h
      split at h
      · cases h
        exact Nat.lt_succ_self _
      · cases h
        omega
theorem mns_c {f f' : Nat → Int32} : ∀ n, (∀ k, k < n → f k = f' k) → mns f n = mns f' n
  | 0, _ => rfl
  | n + 1, h => by
    have ih := mns_c n (fun k hk => h k (by omega))
    unfold mns
    rw [ih]
    cases hq : mns f' n with
    | none => rfl
    | some w =>
      dsimp only
      rw [h n (by omega), h w (by have := mns_lt hq; omega)]
def whE (M : TM) (a : Sv) (vn h : Nat) : Int32 := BDs M (filS a 7 (nI h) vn) vn
def whomF (M : TM) (a : Sv) (hn vn : Nat) (x : Int32) : Int32 :=
  if fosI x = 0 then -2 else if x = 0 then oi (mns (whE M a vn) hn) else ov (whE M a vn) (mns (whE M a vn) hn)
def markF (M : TM) (a : Sv) (vn : Nat) : Int32 := BDs M (filS (up2 a 3 0 (a 2 0)) 9 3 vn) vn - BDs M a vn
/-- hands that are drawn -/
def drZ (z : Int32) : Nat → Int32
  | 0 => z
  | v + 1 => drZ z v * 1103515245 + 12345
def drH (z : Int32) (hn v : Nat) : Int32 := (((drZ z (v + 1)).toUInt32 >>> ((9 : Int32).toUInt32 &&& Int32.toUInt32 31)).toInt32) - (((drZ z (v + 1)).toUInt32 >>> ((9 : Int32).toUInt32 &&& Int32.toUInt32 31)).toInt32) / nI hn * nI hn
def drS (a : Sv) (z : Int32) (hn : Nat) : Nat → Sv
  | 0 => a
  | v + 1 => up2 (drS a z hn v) 7 v (drH z hn v)
theorem drH_lt {z : Int32} {hn v : Nat} (h0 : 0 < hn) (h5 : hn ≤ 5) : ∃ j, j < hn ∧ drH z hn v = nI j := by
  have h1 := pk_ushr (drZ z (v + 1)) 9 9 (by decide)
  have h2 : ∃ q : Nat, q < 2 ^ 31 ∧ (((drZ z (v + 1)).toUInt32 >>> ((9 : Int32).toUInt32 &&& Int32.toUInt32 31)).toInt32) = nI q := by
    refine ⟨(drZ z (v + 1)).toBitVec.toNat / 2 ^ 9, ?_, ?_⟩
    · have := (drZ z (v + 1)).toBitVec.isLt
      omega
    · apply Int32.toBitVec_inj.mp
      apply BitVec.eq_of_toNat_eq
      rw [h1, pk_tn (by have := (drZ z (v + 1)).toBitVec.isLt; omega)]
  obtain ⟨q, hq, e⟩ := h2
  unfold drH
  rw [e, pk_rem hq h0 (by omega)]
  exact ⟨q % hn, Nat.mod_lt _ h0, rfl⟩
theorem drS_hd {a : Sv} {hn vn : Nat} (h : HdS a hn vn) {z : Int32} (h0 : 0 < hn) (h5 : hn ≤ 5) : ∀ n, HdS (drS a z hn n) hn vn
  | 0 => h
  | n + 1 => by
    obtain ⟨j, h1, h2⟩ := drH_lt (z := z) (v := n) h0 h5
    unfold drS
    rw [h2]
    exact (drS_hd h h0 h5 n).up7 n h1
theorem drS_req {a b : Sv} {hn vn : Nat} (h : Req a b hn vn) (z : Int32) : ∀ n, Req (drS a z hn n) (drS b z hn n) hn vn
  | 0 => h
  | n + 1 => (drS_req h z n).up 7 n _
def drawF (M : TM) (a : Sv) (hn vn : Nat) (z : Int32) : Int32 := if hn = 0 then -1 else BDs M (drS a z hn vn) vn

theorem c_isVisitT (l : Launch) (E : Ev) {g : IG} {o : Option Nat} {z : Int64} {vn : Nat} (h : g 37 3 = nI vn) (x1 : Int32) : Ct l E 88 yX5_isVisit cX5_isVisit 2 (some .boolean) 1 [.ref (E.2.1 0), .int x1] g (RFo o) z (Zi (RFo o) z (inI (nI vn) x1) g) := by
  have := c_X5_isVisit l E (g := g) (o := o) (z := z) x1
  rw [h] at this
  exact this
theorem c_writeT (l : Launch) (E : Ev) {g G : IG} {o : Option Nat} {z : Int64} {a : Sv} {hn vn ru w k : Nat} (hF : Fr scr g G) (hH : TH a hn vn ru G) (h2 : 2 ≤ w) (hw : w < 11) (hk : k < 8) (q1 : Int32) (hq : w ≠ 3 → q1 = nI k) (h3 : w = 3 → k = 0) (x : Int32) (hd : HdS (up2 a w k x) hn vn) : Ct l E 88 yX1_write cX1_write 4 none 1 [.ref (E.2.1 64), .int (nI w), .int q1, .int x] G (RFo o) z (ZV (RFo o) z (fun G1 => Fr scr g G1 ∧ TH (up2 a w k x) hn vn ru G1 ∧ ∀ i, i ≠ 64 + 2 + w → G1 i = G i)) := by
  refine (c_X1_write l E (g := G) (o := o) (z := z) s64 hw hk q1 hq x).wk ?_
  rintro _ _ _ _ ⟨rfl, rfl, rfl, rfl⟩
  have e : (if w = 3 then 0 else k) = k := by
    by_cases q : w = 3
    · rw [if_pos q, h3 q]
    · rw [if_neg q]
  rw [e]
  exact ⟨⟨rfl, hF.up2 (by unfold scr; omega), hH.up k x h2 hw hd, fun i hi => funext fun b => up2_n _ _ (Or.inl hi)⟩, rfl, rfl⟩

set_option maxHeartbeats 1000000 in
set_option maxRecDepth 20000 in
theorem c_X4_walkAsNow (l : Launch) (E : Ev) {g G : IG} {o : Option Nat} {z : Int64} {hn vn ru tc : Nat} {M : Nat → TM} (hX : XP g hn vn ru tc M) (hF : Fr scr g G)  : Ct l E 88 yX4_walkAsNow cX4_walkAsNow 1 none 6 [.ref (E.2.1 63)] G (RFo o) z (ZV (RFo o) z (fun G1 => Fr scr g G1 ∧ TH (svC g 37) hn vn ru G1 ∧ CW (M ru) (svC g 37) G1 vn)) := by
  refine Ct.of (lv0 := [(0, .ref (E.2.1 63))]) (by decide) (Nat.le_of_ble_eq_true rfl) rfl ?_
  intro p e s m below meth c cx
  refine go_aload_n (pc' := 1) cx dX4_walkAsNow_0 rfl rfl ?_
  refine go_cVV (pc' := 4) cx (c_beginT l E (G := G) hX hF) mX4_begin lX4_36 dX4_walkAsNow_1 kq63 (ltn rfl) (ltn rfl) rfl rfl rfl rfl (ltn rfl) (Nat.le_of_ble_eq_true rfl) (Nat.le_of_ble_eq_true rfl) rfl (fun G_1 hG_1 => ?_)
  refine go_aload_n (pc' := 5) cx dX4_walkAsNow_4 rfl rfl ?_
  refine go_iconst (pc' := 6) cx 0 dX4_walkAsNow_5 rfl rfl ?_
  have hTG_2 := hX.tx hG_1.1 hX.1.2.2.1
  refine go_cVV (pc' := 9) cx (c_walk0T l E (G := G_1) hX.b hTG_2 hG_1.2) mX4_walk lX4_39 dX4_walkAsNow_6 kq63 (ltn rfl) (ltn rfl) rfl rfl rfl rfl (ltn rfl) (Nat.le_of_ble_eq_true rfl) (Nat.le_of_ble_eq_true rfl) rfl (fun G_2 hG_2 => ?_)
  have hG_2f := (hG_1.1).tr (hG_2.1.mono (fun _ => wk_scr))
  have hG_2t := (hG_1.2).wk hG_2.1
  have hG_2c := hG_2.2
  refine go_vret cx rfl dX4_walkAsNow_9 ?_
  exact ZV.mk ⟨hG_2f, hG_2t, hG_2c⟩

set_option maxHeartbeats 1000000 in
set_option maxRecDepth 20000 in
theorem c_X5_badnessNow (l : Launch) (E : Ev) {g G : IG} {o : Option Nat} {z : Int64} {hn vn ru tc : Nat} {M : Nat → TM} (hX : XP g hn vn ru tc M) (hF : Fr scr g G)  : Ct l E 88 yX5_badnessNow cX5_badnessNow 1 (some .int) 7 [.ref (E.2.1 0)] G (RFo o) z (ZI (RFo o) z (fun x g1 => x = BDs (M ru) (svC g 37) vn ∧ Fr scr g g1)) := by
  refine Ct.of (lv0 := [(0, .ref (E.2.1 0))]) (by decide) (Nat.le_of_ble_eq_true rfl) rfl ?_
  intro p e s m below meth c cx
  refine go_aload_n (pc' := 1) cx dX5_badnessNow_0 rfl rfl ?_
  refine go_getr (pc' := 4) cx 63 fX5_78 dX5_badnessNow_1 kq0 (ltn rfl) (ltn rfl) rfl rfl rfl ?_
  refine go_cVV (pc' := 7) cx (c_X4_walkAsNow l E (G := G) hX hF) mX4_walkAsNow lX5_127 dX5_badnessNow_4 kq63 (ltn rfl) (ltn rfl) rfl rfl rfl rfl (ltn rfl) (Nat.le_of_ble_eq_true rfl) (Nat.le_of_ble_eq_true rfl) rfl (fun G_1 hG_1 => ?_)
  refine go_aload_n (pc' := 8) cx dX5_badnessNow_7 rfl rfl ?_
  refine go_getr (pc' := 11) cx 63 fX5_78 dX5_badnessNow_8 kq0 (ltn rfl) (ltn rfl) rfl rfl rfl ?_
  refine go_cVi (pc' := 14) cx (c_badT l E (G := G_1) hX.b hG_1.2.1 (hG_1.2.2).1) mX4_badness lX5_134 dX5_badnessNow_11 kq63 (ltn rfl) (ltn rfl) rfl rfl rfl rfl (ltn rfl) (Nat.le_of_ble_eq_true rfl) (Nat.le_of_ble_eq_true rfl) rfl ?_
  refine go_iret cx rfl dX5_badnessNow_14 ?_
  exact ZI.mk ⟨rfl, hG_1.1⟩

set_option maxHeartbeats 1000000 in
set_option maxRecDepth 20000 in
theorem c_X5_course (l : Launch) (E : Ev) {g : IG} {o : Option Nat} {z : Int64} {hn vn ru tc : Nat} {M : Nat → TM} (hX : XP g hn vn ru tc M) (x1 x2 : Int32) : Ct l E 88 yX5_course cX5_course 3 (some .int) 8 [.ref (E.2.1 0), .int x1, .int x2] g (RFo o) z (ZI (RFo o) z (fun x g1 => x = courseF (M ru) (svC g 37) vn x1 x2 ∧ Fr scr g g1)) := by
  refine Ct.of (lv0 := [(0, .ref (E.2.1 0)), (1, .int x1), (2, .int x2)]) (by decide) (Nat.le_of_ble_eq_true rfl) rfl ?_
  intro p e s m below meth c cx
  obtain ⟨hhn5, hvn8, hruc, htc6⟩ := id hX.1
  refine go_aload_n (pc' := 1) cx dX5_course_0 rfl rfl ?_
  refine go_iload_n (pc' := 2) cx dX5_course_1 rfl rfl ?_
  refine go_cVi (pc' := 5) cx (c_isVisitT l E (g := g) hX.2.2.1 x1) mX5_isVisit lX5_108 dX5_course_2 kq0 (ltn rfl) (ltn rfl) rfl rfl rfl rfl (ltn rfl) (Nat.le_of_ble_eq_true rfl) (Nat.le_of_ble_eq_true rfl) rfl ?_
  refine go_if_eq (pc' := 8) cx 15 dX5_course_5 rfl rfl (fun c5 => ?_) (fun c5 => ?_)
  · refine go_bipush (pc' := 17) cx (-2) dX5_course_15 rfl rfl ?_
    refine go_iret cx rfl dX5_course_17 ?_
    exact ZI.mk ⟨by simp only [courseF, c5, if_true, if_false], Fr.rf⟩
  · refine go_iload_n (pc' := 9) cx dX5_course_8 rfl rfl ?_
    refine go_cSi (pc' := 12) cx (c_X5_isPlace l E (g := g) x2) mX5_isPlace lX5_124 dX5_course_9 rfl rfl rfl (ltn rfl) (Nat.le_of_ble_eq_true rfl) (Nat.le_of_ble_eq_true rfl) rfl ?_
    refine go_if_ne (pc' := 15) cx 18 dX5_course_12 rfl rfl (fun c12 => ?_) (fun c12 => ?_)
    · obtain ⟨v, hv, ev⟩ := in_ok (k := vn) (by omega) c5
      subst ev
      have clv := clI_n (k := v) (by omega)
      obtain ⟨pl, hpl, epl⟩ := in_ok (k := 4) (by omega) c12
      subst epl
      have clpl := clI_n (k := pl) (by omega)
      refine go_aload_n (pc' := 19) cx dX5_course_18 rfl rfl ?_
      refine go_getr (pc' := 22) cx 63 fX5_78 dX5_course_19 kq0 (ltn rfl) (ltn rfl) rfl rfl rfl ?_
      refine go_cVV (pc' := 25) cx (c_X4_walkAsNow l E (G := g) hX Fr.rf) mX4_walkAsNow lX5_127 dX5_course_22 kq63 (ltn rfl) (ltn rfl) rfl rfl rfl rfl (ltn rfl) (Nat.le_of_ble_eq_true rfl) (Nat.le_of_ble_eq_true rfl) rfl (fun G_1 hG_1 => ?_)
      refine go_aload_n (pc' := 26) cx dX5_course_25 rfl rfl ?_
      refine go_getr (pc' := 29) cx 63 fX5_78 dX5_course_26 kq0 (ltn rfl) (ltn rfl) rfl rfl rfl ?_
      refine go_getr (pc' := 32) cx 77 fX5_130 dX5_course_29 kq63 (ltn rfl) (ltn rfl) rfl rfl rfl ?_
      refine go_iload_n (pc' := 33) cx dX5_course_32 rfl rfl ?_
      refine go_aaldk (pc' := 34) cx v (78 + v) dX5_course_33 kq77 (Nat.le_of_ble_eq_true rfl) (ltn rfl) (ltn rfl) (vpi (k := v) (a := 8) (by omega) rfl rfl) (cli (k := v) (a := 8) (by omega) rfl) (bh_r (by omega)) rfl ?_
      refine go_iload_n (pc' := 35) cx dX5_course_34 rfl rfl ?_
      refine go_iald (pc' := 36) cx (G_1 (78 + v) pl) dX5_course_35 (bh_k (by omega)) (by omega) (vpi (k := pl) (a := 4) hpl rfl rfl) (congrArg (G_1 (78 + v)) (cli (k := pl) (a := 4) hpl rfl)) rfl ?_
      refine go_iret cx rfl dX5_course_36 ?_
      exact ZI.mk ⟨by simp only [courseF, c5, c12, if_false, clv, clpl]; exact ((hG_1.2.2).1 v hv).1 pl hpl, hG_1.1⟩
    · refine go_bipush (pc' := 17) cx (-2) dX5_course_15 rfl rfl ?_
      refine go_iret cx rfl dX5_course_17 ?_
      exact ZI.mk ⟨by simp only [courseF, c5, c12, if_true, if_false], Fr.rf⟩

set_option maxHeartbeats 1000000 in
set_option maxRecDepth 20000 in
theorem c_X5_once (l : Launch) (E : Ev) {g : IG} {o : Option Nat} {z : Int64} {hn vn ru tc : Nat} {M : Nat → TM} (hX : XP g hn vn ru tc M) (x1 x2 : Int32) : Ct l E 88 yX5_once cX5_once 4 (some .int) 5 [.ref (E.2.1 0), .int x1, .int x2] g (RFo o) z (ZI (RFo o) z (fun x g1 => x = onceF (M ru) (svC g 37) vn x1 x2 ∧ Fr scr g g1)) := by
  refine Ct.of (lv0 := [(0, .ref (E.2.1 0)), (1, .int x1), (2, .int x2)]) (by decide) (Nat.le_of_ble_eq_true rfl) rfl ?_
  intro p e s m below meth c cx
  obtain ⟨hhn5, hvn8, hruc, htc6⟩ := id hX.1
  refine go_aload_n (pc' := 1) cx dX5_once_0 rfl rfl ?_
  refine go_iload_n (pc' := 2) cx dX5_once_1 rfl rfl ?_
  refine go_cVi (pc' := 5) cx (c_isVisitT l E (g := g) hX.2.2.1 x1) mX5_isVisit lX5_108 dX5_once_2 kq0 (ltn rfl) (ltn rfl) rfl rfl rfl rfl (ltn rfl) (Nat.le_of_ble_eq_true rfl) (Nat.le_of_ble_eq_true rfl) rfl ?_
  refine go_if_eq (pc' := 8) cx 17 dX5_once_5 rfl rfl (fun c5 => ?_) (fun c5 => ?_)
  · refine go_bipush (pc' := 19) cx (-2) dX5_once_17 rfl rfl ?_
    refine go_iret cx rfl dX5_once_19 ?_
    exact ZI.mk ⟨by simp only [onceF, c5, if_true, if_false], Fr.rf⟩
  · refine go_iload_n (pc' := 9) cx dX5_once_8 rfl rfl ?_
    refine go_if_lt (pc' := 12) cx 17 dX5_once_9 rfl rfl (fun c9 => ?_) (fun c9 => ?_)
    · have c9n := Int32.not_le.mpr c9
      refine go_bipush (pc' := 19) cx (-2) dX5_once_17 rfl rfl ?_
      refine go_iret cx rfl dX5_once_19 ?_
      exact ZI.mk ⟨by simp only [onceF, c5, c9, c9n, if_true, if_false], Fr.rf⟩
    · have c9n := Int32.not_lt.mp c9
      refine go_iload_n (pc' := 13) cx dX5_once_12 rfl rfl ?_
      refine go_iconst (pc' := 14) cx 5 dX5_once_13 rfl rfl ?_
      refine go_icmp_le (pc' := 17) cx 20 dX5_once_14 rfl rfl (fun c14 => ?_) (fun c14 => ?_)
      · have c14n := Int32.not_lt.mpr c14
        obtain ⟨v, hv, ev⟩ := in_ok (k := vn) (by omega) c5
        subst ev
        have clv := clI_n (k := v) (by omega)
        refine go_aload_n (pc' := 21) cx dX5_once_20 rfl rfl ?_
        refine go_getr (pc' := 24) cx 63 fX5_78 dX5_once_21 kq0 (ltn rfl) (ltn rfl) rfl rfl rfl ?_
        refine go_cVu (pc' := 27) cx (c_X4_begin l E (g := g)) mX4_begin lX5_111 dX5_once_24 kq63 (ltn rfl) (ltn rfl) rfl rfl rfl rfl (ltn rfl) (Nat.le_of_ble_eq_true rfl) (Nat.le_of_ble_eq_true rfl) rfl ?_
        refine go_aload_n (pc' := 28) cx dX5_once_27 rfl rfl ?_
        refine go_getr (pc' := 31) cx 63 fX5_78 dX5_once_28 kq0 (ltn rfl) (ltn rfl) rfl rfl rfl ?_
        refine go_getr (pc' := 34) cx 64 fX5_114 dX5_once_31 kq63 (ltn rfl) (ltn rfl) rfl rfl rfl ?_
        refine go_iload_n (pc' := 35) cx dX5_once_34 rfl rfl ?_
        obtain ⟨h, hh, hgh0⟩ := hX.2.2.2.2.2.2 v hv
        have hgh : (bcF g 64 37) 73 v = nI h := (bcF_row (w := 7) s64 (by omega) (by omega)).trans hgh0
        have hT := hX.tx (bcF_fr (g := g)) hruc
        have hgr : (bcF g 64 37) 64 4 = nI ru := (bcF_int (k := 2) (by omega)).trans hX.2.2.2.1
        have hRq := bc_req hX
        refine go_cVI (pc' := 38) cx (c_X1_undergo l E (g := (bcF g 64 37)) (so := 64) (ru := ru) (v := v) (h := h) (M := M ru) s64 (by omega) (by omega) (by omega) hT hgr hgh) mX1_undergo lX5_117 dX5_once_35 kq64 (ltn rfl) (ltn rfl) rfl rfl rfl rfl (ltn rfl) (Nat.le_of_ble_eq_true rfl) (Nat.le_of_ble_eq_true rfl) rfl (fun x G1 hx => ?_)
        obtain ⟨hxe, f1, hG1⟩ := hx
        obtain ⟨us, uc⟩ := und_st (M := M ru) (so := 64) hgh (by omega)
        rw [uc] at hxe
        rw [us] at hG1
        obtain ⟨ul, uk⟩ := und_eq (M := M ru) hhn5 hRq hX.2.2.2.2.2.2 hv
        have hxe := hxe.trans uk
        generalize hL : stL (M ru) (svC (bcF g 64 37) 64) v ((bcF g 64 37) (64 + 2 + 0)) ((bcF g 64 37) (64 + 2 + 1)) = L at hG1 ul
        refine go_istore_n (pc' := 39) cx dX5_once_38 (ltn rfl) [(3, .int x), (0, .ref (E.2.1 0)), (1, .int (nI v)), (2, .int x2)] rfl rfl ?_
        refine go_iload_n (pc' := 40) cx dX5_once_39 rfl rfl ?_
        refine go_iconst (pc' := 41) cx 4 dX5_once_40 rfl rfl ?_
        refine go_icmp_ge (pc' := 44) cx 57 dX5_once_41 rfl rfl (fun c41 => ?_) (fun c41 => ?_)
        · have c41n := Int32.not_lt.mpr c41
          refine go_iload_n (pc' := 58) cx dX5_once_57 rfl rfl ?_
          refine go_iconst (pc' := 59) cx 4 dX5_once_58 rfl rfl ?_
          refine go_icmp_ne (pc' := 62) cx 66 dX5_once_59 rfl rfl (fun c59 => ?_) (fun c59 => ?_)
          · refine go_aload_n (pc' := 67) cx dX5_once_66 rfl rfl ?_
            refine go_getr (pc' := 70) cx 63 fX5_78 dX5_once_67 kq0 (ltn rfl) (ltn rfl) rfl rfl rfl ?_
            refine go_getr (pc' := 73) cx 64 fX5_114 dX5_once_70 kq63 (ltn rfl) (ltn rfl) rfl rfl rfl ?_
            have e66 : G1 66 = L := by
              rw [hG1, upw_rn _ _ (by omega), upw_rn _ _ (by omega), upw_rs]
            have e67 : E4 (G1 67) L := by
              rw [hG1, upw_rs]
              exact cpy4 _ _
            have hF1 : Fr scr g G1 := by
              rw [hG1]
              exact (((bcF_fr : Fr scr g (bcF g 64 37)).upw (by unfold scr; omega)).upw (by unfold scr; omega)).upw (by unfold scr; omega)
            have hT1 := hT.up (g' := G1) (by rw [hG1, upw_rn _ _ (by omega), upw_rn _ _ (by omega), upw_rn _ _ (by omega)]) (by rw [hG1, upw_rn _ _ (by omega), upw_rn _ _ (by omega), upw_rn _ _ (by omega)])
            have hgr1 : G1 64 4 = nI ru := by
              rw [hG1, upw_rn _ _ (by omega), upw_rn _ _ (by omega), upw_rn _ _ (by omega)]
              exact hgr
            have hw1 : E4 (svC G1 64 2) (svC g 37 2) := by
              intro p hp
              refine Eq.trans ?_ (hRq.2.2.1 p hp)
              show G1 68 p = (bcF g 64 37) 68 p
              rw [hG1, upw_rn _ _ (by omega), upw_rn _ _ (by omega), upw_rn _ _ (by omega)]
            refine go_cVI (pc' := 76) cx (c_X1_off l E (g := G1) (so := 64) (ru := ru) (M := M ru) s64 (by omega) hT1 hgr1) mX1_off lX5_121 dX5_once_73 kq64 (ltn rfl) (ltn rfl) rfl rfl rfl rfl (ltn rfl) (Nat.le_of_ble_eq_true rfl) (Nat.le_of_ble_eq_true rfl) rfl (fun y G2 hy => ?_)
            obtain ⟨hye, f2, hG2⟩ := hy
            rw [of_off] at hye
            have hF2 : Fr scr g G2 := by
              rw [hG2]
              exact hF1.upw (by unfold scr; omega)
            have hye := hye.trans (ofA_E4 (M := M ru) (L' := stL (M ru) (svC g 37) v (svC g 37 0) (svC g 37 1)) (A' := stL (M ru) (svC g 37) v (svC g 37 0) (svC g 37 1)) hw1 (by rw [show G1 (64 + 2 + 0) = L from e66]; exact ul) (show E4 (G1 (64 + 2 + 1)) _ from e67.tr ul))
            refine go_iret cx rfl dX5_once_76 ?_
            exact ZI.mk ⟨by rw [hye]; simp only [onceF, c5, c9, c9n, c14, c14n, c41, c41n, c59, clv, if_true, if_false], hF2⟩
          · refine go_iload_n (pc' := 63) cx dX5_once_62 rfl rfl ?_
            refine go_goto cx 76 dX5_once_63 rfl ?_
            refine go_iret cx rfl dX5_once_76 ?_
            have e66 : G1 66 = L := by
              rw [hG1, upw_rn _ _ (by omega), upw_rn _ _ (by omega), upw_rs]
            have e67 : E4 (G1 67) L := by
              rw [hG1, upw_rs]
              exact cpy4 _ _
            have hF1 : Fr scr g G1 := by
              rw [hG1]
              exact (((bcF_fr : Fr scr g (bcF g 64 37)).upw (by unfold scr; omega)).upw (by unfold scr; omega)).upw (by unfold scr; omega)
            have hT1 := hT.up (g' := G1) (by rw [hG1, upw_rn _ _ (by omega), upw_rn _ _ (by omega), upw_rn _ _ (by omega)]) (by rw [hG1, upw_rn _ _ (by omega), upw_rn _ _ (by omega), upw_rn _ _ (by omega)])
            have hgr1 : G1 64 4 = nI ru := by
              rw [hG1, upw_rn _ _ (by omega), upw_rn _ _ (by omega), upw_rn _ _ (by omega)]
              exact hgr
            have hw1 : E4 (svC G1 64 2) (svC g 37 2) := by
              intro p hp
              refine Eq.trans ?_ (hRq.2.2.1 p hp)
              show G1 68 p = (bcF g 64 37) 68 p
              rw [hG1, upw_rn _ _ (by omega), upw_rn _ _ (by omega), upw_rn _ _ (by omega)]
            exact ZI.mk ⟨by rw [hxe]; subst c59; simp only [onceF, c5, clv, if_true, if_false]; rfl, hF1⟩
        · have c41n := Int32.not_le.mp c41
          have e66 : G1 66 = L := by
            rw [hG1, upw_rn _ _ (by omega), upw_rn _ _ (by omega), upw_rs]
          have e67 : E4 (G1 67) L := by
            rw [hG1, upw_rs]
            exact cpy4 _ _
          have hF1 : Fr scr g G1 := by
            rw [hG1]
            exact (((bcF_fr : Fr scr g (bcF g 64 37)).upw (by unfold scr; omega)).upw (by unfold scr; omega)).upw (by unfold scr; omega)
          have hT1 := hT.up (g' := G1) (by rw [hG1, upw_rn _ _ (by omega), upw_rn _ _ (by omega), upw_rn _ _ (by omega)]) (by rw [hG1, upw_rn _ _ (by omega), upw_rn _ _ (by omega), upw_rn _ _ (by omega)])
          have hgr1 : G1 64 4 = nI ru := by
            rw [hG1, upw_rn _ _ (by omega), upw_rn _ _ (by omega), upw_rn _ _ (by omega)]
            exact hgr
          have hw1 : E4 (svC G1 64 2) (svC g 37 2) := by
            intro p hp
            refine Eq.trans ?_ (hRq.2.2.1 p hp)
            show G1 68 p = (bcF g 64 37) 68 p
            rw [hG1, upw_rn _ _ (by omega), upw_rn _ _ (by omega), upw_rn _ _ (by omega)]
          obtain ⟨pl, hpl, epl⟩ : ∃ pl, pl < 4 ∧ x2 = nI pl := by
            rcases pk_ix x2 (n := 4) (by decide) with q | q | q
            · exact absurd q c9
            · exact absurd (show (4 : Int32) ≤ x2 from q) c41
            · exact q
          subst epl
          have clpl := clI_n (k := pl) (by omega)
          refine go_aload_n (pc' := 45) cx dX5_once_44 rfl rfl ?_
          refine go_getr (pc' := 48) cx 63 fX5_78 dX5_once_45 kq0 (ltn rfl) (ltn rfl) rfl rfl rfl ?_
          refine go_getr (pc' := 51) cx 64 fX5_114 dX5_once_48 kq63 (ltn rfl) (ltn rfl) rfl rfl rfl ?_
          refine go_iconst (pc' := 52) cx 0 dX5_once_51 rfl rfl ?_
          refine go_iload_n (pc' := 53) cx dX5_once_52 rfl rfl ?_
          refine go_cVi (pc' := 56) cx (c_X1_readL l E (g := G1) s64 (w := 0) (q := pl) (ltn rfl) (by omega) (by decide)) mX1_read lX5_89 dX5_once_53 kq64 (ltn rfl) (ltn rfl) rfl rfl rfl rfl (ltn rfl) (Nat.le_of_ble_eq_true rfl) (Nat.le_of_ble_eq_true rfl) rfl ?_
          refine go_iret cx rfl dX5_once_56 ?_
          refine ZI.mk ⟨?_, hF1⟩
          rw [e66]
          simp only [onceF, c5, c9, c9n, c14, c14n, c41, c41n, clv, clpl, if_true, if_false]
          exact ul pl (by omega)
      · have c14n := Int32.not_le.mp c14
        refine go_bipush (pc' := 19) cx (-2) dX5_once_17 rfl rfl ?_
        refine go_iret cx rfl dX5_once_19 ?_
        exact ZI.mk ⟨by simp only [onceF, c5, c9, c9n, c14, c14n, if_true, if_false], Fr.rf⟩

theorem c_offT (l : Launch) (E : Ev) {g G : IG} {o : Option Nat} {z : Int64} {a : Sv} {hn vn ru : Nat} {M : TM} (hB : XB hn vn ru) (hF : Fr scr g G) (hT : TxM G ru M) (hH : TH a hn vn ru G) (hC : CW M a G vn) : Ct l E 88 yX1_off cX1_off 4 (some .int) 3 [.ref (E.2.1 64)] G (RFo o) z (ZI (RFo o) z (fun x G1 => x = ofA M a (crs M a vn).1 (crs M a vn).2 ∧ Fr scr g G1)) := by
  refine (c_X1_off l E (so := 64) s64 hB.2.2 hT hH.2.2.1).wk ?_
  rintro _ _ _ _ ⟨⟨x, rfl, hx, f, rfl⟩, rfl, rfl⟩
  rw [of_off] at hx
  exact ⟨⟨x, rfl, hx.trans (ofA_E4 hH.2.2.2.1.2.2.1 hC.2.1 hC.2.2), hF.upw (by unfold scr; have := hB.2.2; omega)⟩, rfl, rfl⟩
theorem c_worstT (l : Launch) (E : Ev) {G : IG} {o : Option Nat} {z : Int64} {a : Sv} {hn vn ru : Nat} {M : TM} (hB : XB hn vn ru) (hH : TH a hn vn ru G) (hC : CWp M a G vn) : Ct l E 88 yX4_worst cX4_worst 3 (some .int) 1 [.ref (E.2.1 63)] G (RFo o) z (Zi (RFo o) z (oi (wrs (OFs M a) vn)) G) := by
  refine (c_X4_worst l E hB.2.1 hH.2.1).wk ?_
  rintro _ _ _ _ ⟨rfl, rfl, rfl, rfl⟩
  exact Zi.mk (by rw [wrs_c vn (fun k hk => (hC k hk).2.1)]) rfl
theorem c_cutsT (l : Launch) (E : Ev) {G : IG} {o : Option Nat} {z : Int64} {a : Sv} {hn vn ru : Nat} {M : TM} (hB : XB hn vn ru) (hH : TH a hn vn ru G) (hC : CWp M a G vn) : Ct l E 88 yX4_allCuts cX4_allCuts 3 (some .int) 1 [.ref (E.2.1 63)] G (RFo o) z (Zi (RFo o) z (sumI (CTs M a) vn) G) := by
  refine (c_X4_allCuts l E hB.2.1 hH.2.1).wk ?_
  rintro _ _ _ _ ⟨rfl, rfl, rfl, rfl⟩
  exact Zi.mk (sumI_c vn (fun k hk => (hC k hk).2.2)) rfl
theorem c_readT (l : Launch) (E : Ev) {g G : IG} {o : Option Nat} {z : Int64} (hF : Fr scr g G) {w q : Nat} (hw : w < 11) (hq : q < 8) (h3 : w ≠ 3) : Ct l E 88 yX1_read cX1_read 3 (some .int) 1 [.ref (E.2.1 37), .int (nI w), .int (nI q)] G (RFo o) z (Zi (RFo o) z (svC g 37 w q) G) := by
  refine (c_X1_readL l E (g := G) (o := o) (z := z) s37 hw hq h3).wk ?_
  rintro _ _ _ _ ⟨rfl, rfl, rfl, rfl⟩
  refine Zi.mk ?_ rfl
  rw [← svC_fr hF]
  unfold svC
  rw [if_pos hw]

set_option maxHeartbeats 1000000 in
set_option maxRecDepth 20000 in
theorem c_X5_bad (l : Launch) (E : Ev) {g : IG} {o : Option Nat} {z : Int64} {hn vn ru tc : Nat} {M : Nat → TM} (hX : XP g hn vn ru tc M) (x1 : Int32) : Ct l E 88 yX5_bad cX5_bad 2 (some .int) 8 [.ref (E.2.1 0), .int x1] g (RFo o) z (ZI (RFo o) z (fun x g1 => x = badF (M ru) (svC g 37) vn x1 ∧ Fr scr g g1)) := by
  refine Ct.of (lv0 := [(0, .ref (E.2.1 0)), (1, .int x1)]) (by decide) (Nat.le_of_ble_eq_true rfl) rfl ?_
  intro p e s m below meth c cx
  obtain ⟨hhn5, hvn8, hruc, htc6⟩ := id hX.1
  refine go_iload_n (pc' := 1) cx dX5_bad_0 rfl rfl ?_
  refine go_if_lt (pc' := 4) cx 9 dX5_bad_1 rfl rfl (fun c1 => ?_) (fun c1 => ?_)
  · have c1n := Int32.not_le.mpr c1
    refine go_bipush (pc' := 11) cx (-2) dX5_bad_9 rfl rfl ?_
    refine go_iret cx rfl dX5_bad_11 ?_
    exact ZI.mk ⟨by first | (simp only [badF, c1, c1n, if_true, if_false]; done) | (simp [badF, c1, c1n, if_true, if_false]; done), Fr.rf⟩
  · have c1n := Int32.not_lt.mp c1
    refine go_iload_n (pc' := 5) cx dX5_bad_4 rfl rfl ?_
    refine go_iconst (pc' := 6) cx 3 dX5_bad_5 rfl rfl ?_
    refine go_icmp_le (pc' := 9) cx 12 dX5_bad_6 rfl rfl (fun c6 => ?_) (fun c6 => ?_)
    · have c6n := Int32.not_lt.mpr c6
      refine go_aload_n (pc' := 13) cx dX5_bad_12 rfl rfl ?_
      refine go_getr (pc' := 16) cx 63 fX5_78 dX5_bad_13 kq0 (ltn rfl) (ltn rfl) rfl rfl rfl ?_
      refine go_cVV (pc' := 19) cx (c_X4_walkAsNow l E (G := g) hX Fr.rf) mX4_walkAsNow lX5_127 dX5_bad_16 kq63 (ltn rfl) (ltn rfl) rfl rfl rfl rfl (ltn rfl) (Nat.le_of_ble_eq_true rfl) (Nat.le_of_ble_eq_true rfl) rfl (fun G_1 hG_1 => ?_)
      refine go_iload_n (pc' := 20) cx dX5_bad_19 rfl rfl ?_
      by_cases c20 : x1 = 0
      · refine go_tabIn cx 48 dX5_bad_20 (by rw [c20]; decide) (by rw [c20]; decide) (by rw [c20]; rfl) rfl ?_
        refine go_aload_n (pc' := 49) cx dX5_bad_48 rfl rfl ?_
        refine go_getr (pc' := 52) cx 63 fX5_78 dX5_bad_49 kq0 (ltn rfl) (ltn rfl) rfl rfl rfl ?_
        refine go_cVi (pc' := 55) cx (c_badT l E (G := G_1) hX.b hG_1.2.1 (hG_1.2.2).1) mX4_badness lX5_134 dX5_bad_52 kq63 (ltn rfl) (ltn rfl) rfl rfl rfl rfl (ltn rfl) (Nat.le_of_ble_eq_true rfl) (Nat.le_of_ble_eq_true rfl) rfl ?_
        refine go_iret cx rfl dX5_bad_55 ?_
        exact ZI.mk ⟨by first | (simp only [badF, c1, c1n, c6, c6n, c20, if_true, if_false]; done) | (simp [badF, c1, c1n, c6, c6n, c20, if_true, if_false]; done), hG_1.1⟩
      have n20_0 := c20
      by_cases c20 : x1 = 1
      · refine go_tabIn cx 56 dX5_bad_20 (by rw [c20]; decide) (by rw [c20]; decide) (by rw [c20]; rfl) rfl ?_
        refine go_aload_n (pc' := 57) cx dX5_bad_56 rfl rfl ?_
        refine go_getr (pc' := 60) cx 63 fX5_78 dX5_bad_57 kq0 (ltn rfl) (ltn rfl) rfl rfl rfl ?_
        refine go_cVi (pc' := 63) cx (c_cutsT l E (G := G_1) hX.b hG_1.2.1 (hG_1.2.2).1) mX4_allCuts lX5_137 dX5_bad_60 kq63 (ltn rfl) (ltn rfl) rfl rfl rfl rfl (ltn rfl) (Nat.le_of_ble_eq_true rfl) (Nat.le_of_ble_eq_true rfl) rfl ?_
        refine go_iret cx rfl dX5_bad_63 ?_
        exact ZI.mk ⟨by first | (simp only [badF, c1, c1n, c6, c6n, n20_0, c20, if_true, if_false]; done) | (simp [badF, c1, c1n, c6, c6n, n20_0, c20, if_true, if_false]; done), hG_1.1⟩
      have n20_1 := c20
      by_cases c20 : x1 = 2
      · refine go_tabIn cx 64 dX5_bad_20 (by rw [c20]; decide) (by rw [c20]; decide) (by rw [c20]; rfl) rfl ?_
        refine go_aload_n (pc' := 65) cx dX5_bad_64 rfl rfl ?_
        refine go_getr (pc' := 68) cx 63 fX5_78 dX5_bad_65 kq0 (ltn rfl) (ltn rfl) rfl rfl rfl ?_
        refine go_getr (pc' := 71) cx 64 fX5_114 dX5_bad_68 kq63 (ltn rfl) (ltn rfl) rfl rfl rfl ?_
        have hTG_2 := hX.tx hG_1.1 hruc
        refine go_cVI (pc' := 74) cx (c_offT l E (G := G_1) hX.b hG_1.1 hTG_2 hG_1.2.1 hG_1.2.2) mX1_off lX5_121 dX5_bad_71 kq64 (ltn rfl) (ltn rfl) rfl rfl rfl rfl (ltn rfl) (Nat.le_of_ble_eq_true rfl) (Nat.le_of_ble_eq_true rfl) rfl (fun y_3 G_2 hG_2 => ?_)
        have ey_3 := hG_2.1
        subst ey_3
        refine go_iret cx rfl dX5_bad_74 ?_
        exact ZI.mk ⟨by first | (simp only [badF, c1, c1n, c6, c6n, n20_0, n20_1, c20, if_true, if_false]; done) | (simp [badF, c1, c1n, c6, c6n, n20_0, n20_1, c20, if_true, if_false]; done), hG_2.2⟩
      have n20_2 := c20
      refine go_tabD cx 75 dX5_bad_20 ?_ rfl ?_
      · by_cases q1 : x1.toInt < 0
        · exact Or.inl (Or.inl q1)
        by_cases q2 : 2 < x1.toInt
        · exact Or.inl (Or.inr q2)
        refine Or.inr ⟨q1, q2, ?_⟩
        rcases (show x1.toInt = 0 ∨ x1.toInt = 1 ∨ x1.toInt = 2 by omega) with q3 | q3 | q3
        · exact absurd (Int32.toInt_inj.mp (q3.trans (by decide))) n20_0
        · exact absurd (Int32.toInt_inj.mp (q3.trans (by decide))) n20_1
        · exact absurd (Int32.toInt_inj.mp (q3.trans (by decide))) n20_2
      refine go_aload_n (pc' := 76) cx dX5_bad_75 rfl rfl ?_
      refine go_getr (pc' := 79) cx 63 fX5_78 dX5_bad_76 kq0 (ltn rfl) (ltn rfl) rfl rfl rfl ?_
      refine go_cVi (pc' := 82) cx (c_worstT l E (G := G_1) hX.b hG_1.2.1 (hG_1.2.2).1) mX4_worst lX5_140 dX5_bad_79 kq63 (ltn rfl) (ltn rfl) rfl rfl rfl rfl (ltn rfl) (Nat.le_of_ble_eq_true rfl) (Nat.le_of_ble_eq_true rfl) rfl ?_
      refine go_iret cx rfl dX5_bad_82 ?_
      exact ZI.mk ⟨by first | (simp only [badF, c1, c1n, c6, c6n, n20_0, n20_1, n20_2, if_true, if_false]; done) | (simp [badF, c1, c1n, c6, c6n, n20_0, n20_1, n20_2, if_true, if_false]; done), hG_1.1⟩
    · have c6n := Int32.not_le.mp c6
      refine go_bipush (pc' := 11) cx (-2) dX5_bad_9 rfl rfl ?_
      refine go_iret cx rfl dX5_bad_11 ?_
      exact ZI.mk ⟨by first | (simp only [badF, c1, c1n, c6, c6n, if_true, if_false]; done) | (simp [badF, c1, c1n, c6, c6n, if_true, if_false]; done), Fr.rf⟩

set_option maxHeartbeats 1000000 in
set_option maxRecDepth 20000 in
theorem c_X5_drift (l : Launch) (E : Ev) {g : IG} {o : Option Nat} {z : Int64} {hn vn ru tc : Nat} {M : Nat → TM} (hX : XP g hn vn ru tc M) (x1 : Int32) : Ct l E 88 yX5_drift cX5_drift 2 (some .int) 8 [.ref (E.2.1 0), .int x1] g (RFo o) z (ZI (RFo o) z (fun x g1 => x = driftF (M ru) (svC g 37) vn x1 ∧ Fr scr g g1)) := by
  refine Ct.of (lv0 := [(0, .ref (E.2.1 0)), (1, .int x1)]) (by decide) (Nat.le_of_ble_eq_true rfl) rfl ?_
  intro p e s m below meth c cx
  obtain ⟨hhn5, hvn8, hruc, htc6⟩ := id hX.1
  refine go_iload_n (pc' := 1) cx dX5_drift_0 rfl rfl ?_
  refine go_cSi (pc' := 4) cx (c_X5_isPlace l E (g := g) x1) mX5_isPlace lX5_124 dX5_drift_1 rfl rfl rfl (ltn rfl) (Nat.le_of_ble_eq_true rfl) (Nat.le_of_ble_eq_true rfl) rfl ?_
  refine go_if_ne (pc' := 7) cx 11 dX5_drift_4 rfl rfl (fun c4 => ?_) (fun c4 => ?_)
  · obtain ⟨pl, hpl, epl⟩ := in_ok (k := 4) (by omega) c4
    subst epl
    have clpl := clI_n (k := pl) (by omega)
    refine go_aload_n (pc' := 12) cx dX5_drift_11 rfl rfl ?_
    refine go_getr (pc' := 15) cx 63 fX5_78 dX5_drift_12 kq0 (ltn rfl) (ltn rfl) rfl rfl rfl ?_
    refine go_cVV (pc' := 18) cx (c_X4_walkAsNow l E (G := g) hX Fr.rf) mX4_walkAsNow lX5_127 dX5_drift_15 kq63 (ltn rfl) (ltn rfl) rfl rfl rfl rfl (ltn rfl) (Nat.le_of_ble_eq_true rfl) (Nat.le_of_ble_eq_true rfl) rfl (fun G_1 hG_1 => ?_)
    refine go_aload_n (pc' := 19) cx dX5_drift_18 rfl rfl ?_
    refine go_getr (pc' := 22) cx 63 fX5_78 dX5_drift_19 kq0 (ltn rfl) (ltn rfl) rfl rfl rfl ?_
    refine go_getr (pc' := 25) cx 64 fX5_114 dX5_drift_22 kq63 (ltn rfl) (ltn rfl) rfl rfl rfl ?_
    refine go_iconst (pc' := 26) cx 0 dX5_drift_25 rfl rfl ?_
    refine go_iload_n (pc' := 27) cx dX5_drift_26 rfl rfl ?_
    refine go_cVi (pc' := 30) cx (c_X1_readL l E (g := G_1) s64 (w := 0) (q := pl) (ltn rfl) (by omega) (by decide)) mX1_read lX5_89 dX5_drift_27 kq64 (ltn rfl) (ltn rfl) rfl rfl rfl rfl (ltn rfl) (Nat.le_of_ble_eq_true rfl) (Nat.le_of_ble_eq_true rfl) rfl ?_
    refine go_aload_n (pc' := 31) cx dX5_drift_30 rfl rfl ?_
    refine go_getr (pc' := 34) cx 37 fX5_66 dX5_drift_31 kq0 (ltn rfl) (ltn rfl) rfl rfl rfl ?_
    refine go_iconst (pc' := 35) cx 2 dX5_drift_34 rfl rfl ?_
    refine go_iload_n (pc' := 36) cx dX5_drift_35 rfl rfl ?_
    refine go_cVi (pc' := 39) cx (c_readT l E (G := G_1) hG_1.1 (w := 2) (q := pl) (by omega) (by omega) (by omega)) mX1_read lX5_89 dX5_drift_36 kq37 (ltn rfl) (ltn rfl) rfl rfl rfl rfl (ltn rfl) (Nat.le_of_ble_eq_true rfl) (Nat.le_of_ble_eq_true rfl) rfl ?_
    refine go_isub (pc' := 40) cx dX5_drift_39 rfl ?_
    refine go_iret cx rfl dX5_drift_40 ?_
    exact ZI.mk ⟨by simp only [driftF, c4, clpl, if_false]; rw [show G_1 (64 + 2 + 0) pl = (crs (M ru) (svC g 37) vn).1 pl from hG_1.2.2.2.1 pl hpl], hG_1.1⟩
  · refine go_sipush (pc' := 10) cx (-1000) dX5_drift_7 rfl rfl ?_
    refine go_iret cx rfl dX5_drift_10 ?_
    exact ZI.mk ⟨by simp only [driftF, c4, if_true], Fr.rf⟩

theorem c_nearT (l : Launch) (E : Ev) {G : IG} {o : Option Nat} {z : Int64} {a : Sv} {hn vn ru v : Nat} {M : TM} (hB : XB hn vn ru) (hH : TH a hn vn ru G) (hC : CWp M a G vn) (hv : v < vn) (near : Int32) : Ct l E 88 yX4_isNear cX4_isNear 4 (some .boolean) 1 [.ref (E.2.1 63), .int (nI v), .int near] G (RFo o) z (Zi (RFo o) z (isN (crs M a (v + 1)).1 (a 2) near) G) := by
  refine (c_X4_isNear l E (by have := hB.2.1; omega) near).wk ?_
  rintro _ _ _ _ ⟨rfl, rfl, rfl, rfl⟩
  exact Zi.mk (isN_E4 (hC v hv).1 (show E4 (svC _ 64 2) (a 2) from hH.2.2.2.1.2.2.1)) rfl

set_option maxHeartbeats 1000000 in
set_option maxRecDepth 20000 in
theorem again_loop {l : Launch} {E : Ev} {Z : ZT} {g : IG} {o : Option Nat} {z : Int64} {p : Program} {e : Env} {s : State} {m : MethodId} {args : Array Value} {below : List Frame} {meth : Method} {c : Code} {hn vn ru tc : Nat} {M : Nat → TM} (hX : XP g hn vn ru tc M) {G : IG} (hF : Fr scr g G) (hH : TH (svC g 37) hn vn ru G) (hC : CWp (M ru) (svC g 37) G vn) (x1 : Int32) (cx : Cx p s m args meth c E 88 cX5_again 4 yX5_again.cls (some .int)) : ∀ (v : Nat) (b : Int32), v ≤ vn → Z (some (.int (agn (fun v => isN (crs (M ru) (svC g 37) (v + 1)).1 (svC g 37 2) x1) v b))) G (RFo o) z → Go p l e (rmd 7) s m args below meth c E 88 4 Z G (RFo o) z 33 [(3, .int (nI v - 1)), (2, .int b), (0, .ref (E.2.1 0)), (1, .int x1)] [] := by
  obtain ⟨hhn5, hvn8, hruc, htc6⟩ := id hX.1
  intro v
  induction v with
  | zero =>
    intro b hv hZ
    refine go_iload_n (pc' := 34) cx dX5_again_33 rfl rfl ?_
    refine go_if_lt (pc' := 37) cx 57 dX5_again_34 rfl rfl (fun _ => ?_) (fun hh => absurd (by decide) hh)
    refine go_iload_n (pc' := 58) cx dX5_again_57 rfl rfl ?_
    refine go_iret cx rfl dX5_again_58 ?_
    exact hZ
  | succ v ih =>
    intro b hv hZ
    rw [nI_pred]
    refine go_iload_n (pc' := 34) cx dX5_again_33 rfl rfl ?_
    refine go_if_lt (pc' := 37) cx 57 dX5_again_34 rfl rfl (fun hh => absurd hh (nI_pos (by omega))) (fun _ => ?_)
    refine go_aload_n (pc' := 38) cx dX5_again_37 rfl rfl ?_
    refine go_getr (pc' := 41) cx 63 fX5_78 dX5_again_38 kq0 (ltn rfl) (ltn rfl) rfl rfl rfl ?_
    refine go_iload_n (pc' := 42) cx dX5_again_41 rfl rfl ?_
    refine go_iload_n (pc' := 43) cx dX5_again_42 rfl rfl ?_
    refine go_cVi (pc' := 46) cx (c_nearT l E (G := G) hX.b hH hC (v := v) (by omega) x1) mX4_isNear lX5_162 dX5_again_43 kq63 (ltn rfl) (ltn rfl) rfl rfl rfl rfl (ltn rfl) (Nat.le_of_ble_eq_true rfl) (Nat.le_of_ble_eq_true rfl) rfl ?_
    refine go_if_eq (pc' := 49) cx 57 dX5_again_46 rfl rfl (fun c46 => ?_) (fun c46 => ?_)
    · refine go_iload_n (pc' := 58) cx dX5_again_57 rfl rfl ?_
      refine go_iret cx rfl dX5_again_58 ?_
      have h9 : agn (fun v => isN (crs (M ru) (svC g 37) (v + 1)).1 (svC g 37 2) x1) (v + 1) b = b := if_pos c46
      rw [h9] at hZ
      exact hZ
    · refine go_iload_n (pc' := 50) cx dX5_again_49 rfl rfl ?_
      refine go_istore_n (pc' := 51) cx dX5_again_50 (ltn rfl) [(2, .int (nI v)), (3, .int (nI v)), (0, .ref (E.2.1 0)), (1, .int x1)] rfl rfl ?_
      refine go_iinc (pc' := 54) cx (nI v - 1) dX5_again_51 rfl (m1_sub _) (ltn rfl) [(3, .int (nI v - 1)), (2, .int (nI v)), (0, .ref (E.2.1 0)), (1, .int x1)] rfl rfl ?_
      refine go_goto cx 33 dX5_again_54 rfl ?_
      refine ih (nI v) (by omega) ?_
      have h9 : agn (fun v => isN (crs (M ru) (svC g 37) (v + 1)).1 (svC g 37 2) x1) (v + 1) b = agn (fun v => isN (crs (M ru) (svC g 37) (v + 1)).1 (svC g 37 2) x1) v (nI v) := if_neg c46
      rw [h9] at hZ
      exact hZ

set_option maxHeartbeats 1000000 in
set_option maxRecDepth 20000 in
theorem c_X5_again (l : Launch) (E : Ev) {g : IG} {o : Option Nat} {z : Int64} {hn vn ru tc : Nat} {M : Nat → TM} (hX : XP g hn vn ru tc M) (x1 : Int32) : Ct l E 88 yX5_again cX5_again 4 (some .int) 7 [.ref (E.2.1 0), .int x1] g (RFo o) z (ZI (RFo o) z (fun x g1 => x = againF (M ru) (svC g 37) vn x1 ∧ Fr scr g g1)) := by
  refine Ct.of (lv0 := [(0, .ref (E.2.1 0)), (1, .int x1)]) (by decide) (Nat.le_of_ble_eq_true rfl) rfl ?_
  intro p e s m below meth c cx
  obtain ⟨hhn5, hvn8, hruc, htc6⟩ := id hX.1
  refine go_iload_n (pc' := 1) cx dX5_again_0 rfl rfl ?_
  refine go_if_lt (pc' := 4) cx 11 dX5_again_1 rfl rfl (fun c1 => ?_) (fun c1 => ?_)
  · have c1n := Int32.not_le.mpr c1
    refine go_bipush (pc' := 13) cx (-2) dX5_again_11 rfl rfl ?_
    refine go_iret cx rfl dX5_again_13 ?_
    exact ZI.mk ⟨by first | (simp only [againF, c1, c1n, if_true, if_false]; done) | (simp [againF, c1, c1n, if_true, if_false]; done), Fr.rf⟩
  · have c1n := Int32.not_lt.mp c1
    refine go_iload_n (pc' := 5) cx dX5_again_4 rfl rfl ?_
    refine go_sipush (pc' := 8) cx 199 dX5_again_5 rfl rfl ?_
    refine go_icmp_le (pc' := 11) cx 14 dX5_again_8 rfl rfl (fun c8 => ?_) (fun c8 => ?_)
    · have c8n := Int32.not_lt.mpr c8
      refine go_aload_n (pc' := 15) cx dX5_again_14 rfl rfl ?_
      refine go_getr (pc' := 18) cx 63 fX5_78 dX5_again_15 kq0 (ltn rfl) (ltn rfl) rfl rfl rfl ?_
      refine go_cVV (pc' := 21) cx (c_X4_walkAsNow l E (G := g) hX Fr.rf) mX4_walkAsNow lX5_127 dX5_again_18 kq63 (ltn rfl) (ltn rfl) rfl rfl rfl rfl (ltn rfl) (Nat.le_of_ble_eq_true rfl) (Nat.le_of_ble_eq_true rfl) rfl (fun G_1 hG_1 => ?_)
      refine go_iconst (pc' := 22) cx (-1) dX5_again_21 rfl rfl ?_
      refine go_istore_n (pc' := 23) cx dX5_again_22 (ltn rfl) [(2, .int (-1)), (0, .ref (E.2.1 0)), (1, .int x1)] rfl rfl ?_
      refine go_aload_n (pc' := 24) cx dX5_again_23 rfl rfl ?_
      refine go_getr (pc' := 27) cx 37 fX5_66 dX5_again_24 kq0 (ltn rfl) (ltn rfl) rfl rfl rfl ?_
      refine go_geti (pc' := 30) cx (nI vn) fX5_143 dX5_again_27 kq37 (ltn rfl) (ltn rfl) rfl ((congrFun (hG_1.1 37 (by unfold scr; omega)) 3).trans hX.2.2.1) rfl ?_
      refine go_iconst (pc' := 31) cx 1 dX5_again_30 rfl rfl ?_
      refine go_isub (pc' := 32) cx dX5_again_31 rfl ?_
      refine go_istore_n (pc' := 33) cx dX5_again_32 (ltn rfl) [(3, .int ((nI vn) - 1)), (2, .int (-1)), (0, .ref (E.2.1 0)), (1, .int x1)] rfl rfl ?_
      refine again_loop hX hG_1.1 hG_1.2.1 (hG_1.2.2).1 x1 cx vn (-1) (Nat.le_refl _) (ZI.mk ⟨?_, hG_1.1⟩)
      simp only [againF, c1, c1n, c8, c8n, if_false]
    · have c8n := Int32.not_le.mp c8
      refine go_bipush (pc' := 13) cx (-2) dX5_again_11 rfl rfl ?_
      refine go_iret cx rfl dX5_again_13 ?_
      exact ZI.mk ⟨by first | (simp only [againF, c1, c1n, c8, c8n, if_true, if_false]; done) | (simp [againF, c1, c1n, c8, c8n, if_true, if_false]; done), Fr.rf⟩
