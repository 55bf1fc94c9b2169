/-! A COURSE, as the class's calls have it -/
theorem Ct.wk {l : Launch} {E : Ev} {n : Nat} {y : MethodName} {cc : ByteArray} {nL : Nat} {ret : Option FieldType} {d : Nat} {av : List Value} {g : IG} {r : RG} {z : Int64} {Z Z' : ZT} (h : Ct l E n y cc nL ret d av g r z Z) (hZ : ∀ v g1 r1 z1, Z v g1 r1 z1 → Z' v g1 r1 z1) : Ct l E n y cc nL ret d av g r z Z' := by
  intro p e ha hc hk s m args below hf hpre hP hT
  obtain ⟨k, o, h1, h2, h3, ⟨⟨v, g1, r1, z1, e1, e2, e3⟩, hF⟩, hL⟩ := h p e ha hc hk s m args below hf hpre hP hT
  exact ⟨k, o, h1, h2, h3, ⟨⟨v, g1, r1, z1, e1, hZ _ _ _ _ e2, e3⟩, hF⟩, hL⟩
def OFs (M : TM) (a : Sv) (v : Nat) : Int32 := ofA M a (crs M a (v + 1)).1 (crs M a (v + 1)).2
def CTs (M : TM) (a : Sv) (v : Nat) : Int32 := ctA M a v (crs M a v).1 (crs M a v).2
def BDs (M : TM) (a : Sv) (vn : Nat) : Int32 := sumI (OFs M a) vn
/-- what of two salons can be seen is the same -/
def Req (a b : Sv) (hn vn : Nat) : Prop := E4 (a 0) (b 0) ∧ E4 (a 1) (b 1) ∧ E4 (a 2) (b 2) ∧ a 3 0 = b 3 0 ∧ (∀ w k, (w = 4 ∨ w = 5 ∨ w = 6 ∨ w = 10) → k < hn → a w k = b w k) ∧ (∀ w k, (w = 7 ∨ w = 8 ∨ w = 9) → k < vn → a w k = b w k)
def HdS (a : Sv) (hn vn : Nat) : Prop := ∀ v, v < vn → ∃ h, h < hn ∧ a 7 v = nI h
theorem Req.rf {a : Sv} {hn vn : Nat} : Req a a hn vn := ⟨E4.rf, E4.rf, E4.rf, rfl, fun _ _ _ _ => rfl, fun _ _ _ _ => rfl⟩
theorem Req.sy {a b : Sv} {hn vn : Nat} (h : Req a b hn vn) : Req b a hn vn := ⟨h.1.sy, h.2.1.sy, h.2.2.1.sy, h.2.2.2.1.symm, fun w k h1 h2 => (h.2.2.2.2.1 w k h1 h2).symm, fun w k h1 h2 => (h.2.2.2.2.2 w k h1 h2).symm⟩
theorem Req.tr {a b c : Sv} {hn vn : Nat} (h : Req a b hn vn) (g : Req b c hn vn) : Req a c hn vn := ⟨h.1.tr g.1, h.2.1.tr g.2.1, h.2.2.1.tr g.2.2.1, h.2.2.2.1.trans g.2.2.2.1, fun w k h1 h2 => (h.2.2.2.2.1 w k h1 h2).trans (g.2.2.2.2.1 w k h1 h2), fun w k h1 h2 => (h.2.2.2.2.2 w k h1 h2).trans (g.2.2.2.2.2 w k h1 h2)⟩
theorem Req.hds {a b : Sv} {hn vn : Nat} (h : Req a b hn vn) (hd : HdS a hn vn) : HdS b hn vn := fun v hv => by
  obtain ⟨k, h1, h2⟩ := hd v hv
  exact ⟨k, h1, by rw [← h.2.2.2.2.2 7 v (by omega) hv]; exact h2⟩
theorem hdA_of {a : Sv} {v k : Nat} (h : a 7 v = nI k) (hk : k < 2 ^ 31) : hdA a v = k := by
  unfold hdA
  rw [h]
  exact nI_clamp hk
theorem Req.rv {a b : Sv} {hn vn : Nat} (h : Req a b hn vn) (hd : HdS a hn vn) (hh : hn ≤ 5) {v : Nat} (hv : v < vn) : Rv a b v := by
  obtain ⟨k, h1, h2⟩ := hd v hv
  refine ⟨h.2.2.1, h.2.2.2.1, h.2.2.2.2.2 7 v (by omega) hv, h.2.2.2.2.2 8 v (by omega) hv, h.2.2.2.2.2 9 v (by omega) hv, fun w hw => ?_⟩
  rw [hdA_of h2 (by omega)]
  exact h.2.2.2.2.1 w k hw h1
theorem Req.crs {M : TM} {a b : Sv} {hn vn : Nat} (h : Req a b hn vn) (hd : HdS a hn vn) (hh : hn ≤ 5) {v : Nat} (hv : v ≤ vn) : E4 (crs M a v).1 (crs M b v).1 ∧ E4 (crs M a v).2 (crs M b v).2 :=
  crs_E4 h.1 h.2.1 (fun _ hv => h.rv hd hh hv) v hv
theorem Req.of {M : TM} {a b : Sv} {hn vn : Nat} (h : Req a b hn vn) (hd : HdS a hn vn) (hh : hn ≤ 5) {v : Nat} (hv : v < vn) : OFs M a v = OFs M b v :=
  ofA_E4 h.2.2.1 (h.crs hd hh (by omega)).1 (h.crs hd hh (by omega)).2
theorem Req.ct {M : TM} {a b : Sv} {hn vn : Nat} (h : Req a b hn vn) (hd : HdS a hn vn) (hh : hn ≤ 5) {v : Nat} (hv : v < vn) : CTs M a v = CTs M b v :=
  ctA_E4 (h.rv hd hh hv) (h.crs hd hh (by omega)).1 (h.crs hd hh (by omega)).2
theorem Req.bd {M : TM} {a b : Sv} {hn vn : Nat} (h : Req a b hn vn) (hd : HdS a hn vn) (hh : hn ≤ 5) : BDs M a vn = BDs M b vn :=
  sumI_c vn (fun _ hk => h.of hd hh hk)
/-- one entry anew, in both -/
theorem Req.up {a b : Sv} {hn vn : Nat} (h : Req a b hn vn) (w k : Nat) (x : Int32) : Req (up2 a w k x) (up2 b w k x) hn vn := by
  have q : ∀ w' k', a w' k' = b w' k' → up2 a w k x w' k' = up2 b w k x w' k' := by
    intro w' k' e
    unfold up2
    split
    · split
      · rfl
      · exact e
    · exact e
  exact ⟨fun p hp => q _ _ (h.1 p hp), fun p hp => q _ _ (h.2.1 p hp), fun p hp => q _ _ (h.2.2.1 p hp), q _ _ h.2.2.2.1, fun w' k' h1 h2 => q _ _ (h.2.2.2.2.1 w' k' h1 h2), fun w' k' h1 h2 => q _ _ (h.2.2.2.2.2 w' k' h1 h2)⟩
theorem HdS.up {a : Sv} {hn vn : Nat} (h : HdS a hn vn) {w : Nat} (k : Nat) (x : Int32) (hw : w ≠ 7) : HdS (up2 a w k x) hn vn := fun v hv => by
  obtain ⟨j, h1, h2⟩ := h v hv
  exact ⟨j, h1, (up2_n _ _ (Or.inl (Ne.symm hw))).trans h2⟩
theorem HdS.up7 {a : Sv} {hn vn : Nat} (h : HdS a hn vn) (k : Nat) {j : Nat} (hj : j < hn) : HdS (up2 a 7 k (nI j)) hn vn := fun v hv => by
  by_cases e : v = k
  · subst e
    exact ⟨j, hj, up2_s _ _ _ _⟩
  · obtain ⟨i, h1, h2⟩ := h v hv
    exact ⟨i, h1, (up2_n _ _ (Or.inr e)).trans h2⟩
/-- the cells that the thought uses -/
def scr (i : Nat) : Prop := (64 ≤ i ∧ i ≤ 87) ∨ (i < 29 ∧ 8 ≤ i ∧ i % 4 = 0)
theorem wk_scr {i : Nat} (h : wkS i) : scr i := by
  unfold wkS at h
  unfold scr
  omega
/-- the Thought's salon is as one thinks it -/
def TH (a : Sv) (hn vn ru : Nat) (G : IG) : Prop := G 64 2 = nI hn ∧ G 64 3 = nI vn ∧ G 64 4 = nI ru ∧ Req (aW G) a hn vn ∧ HdS a hn vn
def CWp (M : TM) (a : Sv) (G : IG) (n : Nat) : Prop := ∀ v, v < n → E4 (G (78 + v)) (crs M a (v + 1)).1 ∧ G 86 v = OFs M a v ∧ G 87 v = CTs M a v
def CW (M : TM) (a : Sv) (G : IG) (n : Nat) : Prop := CWp M a G n ∧ E4 (G 66) (crs M a n).1 ∧ E4 (G 67) (crs M a n).2
theorem aW_wk {G G1 : IG} (h : Fr wkS G G1) : aW G1 = aW G := by
  funext w k
  unfold aW
  split
  · rw [h 39 (by unfold wkS; omega)]
  · split
    · rw [h 40 (by unfold wkS; omega)]
    · unfold svC
      split
      · rename_i h0 h1 h2
        rw [h (64 + 2 + w) (by unfold wkS; omega)]
      · rw [h 64 (by unfold wkS; omega)]
theorem TH.wk {a : Sv} {hn vn ru : Nat} {G G1 : IG} (h : TH a hn vn ru G) (hF : Fr wkS G G1) : TH a hn vn ru G1 := by
  unfold TH at *
  rw [hF 64 (by unfold wkS; omega), aW_wk hF]
  exact h
theorem aW_up {G : IG} {w k : Nat} {x : Int32} (h1 : 2 ≤ w) (h2 : w < 11) : aW (up2 G (64 + 2 + w) k x) = up2 (aW G) w k x := by
  funext i j
  unfold aW svC
  by_cases e0 : i = 0
  · subst e0
    simp only [if_true]
    rw [up2_n _ _ (Or.inl (by omega)), up2_n _ _ (Or.inl (by omega))]
    rfl
  · by_cases e1 : i = 1
    · subst e1
      rw [up2_n _ _ (Or.inl (by omega))]
      simp only [if_neg e0, if_true]
      exact up2_n _ _ (Or.inl (by omega))
    · rw [if_neg e0, if_neg e1]
      unfold up2
      by_cases ei : i = w
      · subst ei
        rw [if_pos h2]
        simp only [if_true, if_neg e0, if_neg e1, if_pos h2]
      · rw [if_neg ei]
        simp only [if_neg e0, if_neg e1]
        split
        · rw [if_neg (by omega)]
        · rw [if_neg (by omega)]
theorem TH.up {a : Sv} {hn vn ru : Nat} {G : IG} (h : TH a hn vn ru G) {w : Nat} (k : Nat) (x : Int32) (h1 : 2 ≤ w) (h2 : w < 11) (hd : HdS (up2 a w k x) hn vn) : TH (up2 a w k x) hn vn ru (up2 G (64 + 2 + w) k x) := by
  obtain ⟨e0, e1, e2, e3, -⟩ := h
  refine ⟨(up2_n _ _ (Or.inl (by omega))).trans e0, (up2_n _ _ (Or.inl (by omega))).trans e1, (up2_n _ _ (Or.inl (by omega))).trans e2, ?_, hd⟩
  rw [aW_up h1 h2]
  exact e3.up w k x
/-- the sizes -/
def XB (hn vn ru : Nat) : Prop := hn ≤ 5 ∧ vn ≤ 8 ∧ ru < 6
theorem TH.wkP {a : Sv} {hn vn ru : Nat} {M : TM} {G : IG} (hB : XB hn vn ru) (hT : TxM G ru M) (h : TH a hn vn ru G) : wkP G vn ru M := by
  obtain ⟨e0, e1, e2, e3, e4⟩ := h
  refine ⟨hB.2.1, hB.2.2, e1, e2, hT, fun v hv => ?_⟩
  obtain ⟨k, h1, h2⟩ := e4 v hv
  exact ⟨k, by have := hB.1; omega, (e3.2.2.2.2.2 7 v (by omega) hv).trans h2⟩
theorem wkD_cw {M : TM} {a : Sv} {hn vn ru : Nat} {G G1 : IG} (hh : hn ≤ 5) (h : TH a hn vn ru G) {v : Nat} (hv : v < vn) (hD : wkD M (aW G) G1 v) : E4 (G1 (78 + v)) (crs M a (v + 1)).1 ∧ G1 86 v = OFs M a v ∧ G1 87 v = CTs M a v := by
  have hd : HdS (aW G) hn vn := h.2.2.2.1.sy.hds h.2.2.2.2
  exact ⟨hD.1.tr (h.2.2.2.1.crs hd hh (by omega)).1, hD.2.1.trans (h.2.2.2.1.of hd hh hv), hD.2.2.trans (h.2.2.2.1.ct hd hh hv)⟩
theorem cw_wkD {M : TM} {a : Sv} {hn vn ru : Nat} {G G1 : IG} (hh : hn ≤ 5) (h : TH a hn vn ru G) {v : Nat} (hv : v < vn) (hD : E4 (G1 (78 + v)) (crs M a (v + 1)).1 ∧ G1 86 v = OFs M a v ∧ G1 87 v = CTs M a v) : wkD M (aW G) G1 v := by
  have hd : HdS (aW G) hn vn := h.2.2.2.1.sy.hds h.2.2.2.2
  exact ⟨hD.1.tr (h.2.2.2.1.crs hd hh (by omega)).1.sy, hD.2.1.trans (h.2.2.2.1.of hd hh hv).symm, hD.2.2.trans (h.2.2.2.1.ct hd hh hv).symm⟩
theorem wkI_cw {M : TM} {a : Sv} {hn vn ru : Nat} {G G1 : IG} (hh : hn ≤ 5) (h : TH a hn vn ru G) (hI : wkI M (aW G) G G1 vn) : CW M a G1 vn := by
  have hd : HdS (aW G) hn vn := h.2.2.2.1.sy.hds h.2.2.2.2
  exact ⟨fun v hv => wkD_cw hh h hv (hI.2.1 v hv), hI.2.2.1.tr (h.2.2.2.1.crs hd hh (Nat.le_refl _)).1, hI.2.2.2.tr (h.2.2.2.1.crs hd hh (Nat.le_refl _)).2⟩
theorem CWp.bd {M : TM} {a : Sv} {G : IG} {n : Nat} (h : CWp M a G n) : sumI (G 86) n = BDs M a n := sumI_c n (fun k hk => (h k hk).2.1)
/-- a start: what the class holds -/
def XP (g : IG) (hn vn ru tc : Nat) (M : Nat → TM) : Prop := (hn ≤ 5 ∧ vn ≤ 8 ∧ ru < tc ∧ tc ≤ 6) ∧ g 37 2 = nI hn ∧ g 37 3 = nI vn ∧ g 37 4 = nI ru ∧ g 0 1 = nI tc ∧ (∀ t, t < tc → TxM g t (M t)) ∧ HdS (svC g 37) hn vn
theorem XP.b {g : IG} {hn vn ru tc : Nat} {M : Nat → TM} (h : XP g hn vn ru tc M) : XB hn vn ru := ⟨h.1.1, h.1.2.1, by have := h.1; omega⟩
theorem XP.tx {g G : IG} {hn vn ru tc : Nat} {M : Nat → TM} (h : XP g hn vn ru tc M) (hF : Fr scr g G) {t : Nat} (ht : t < tc) : TxM G t (M t) :=
  (h.2.2.2.2.2.1 t ht).up (hF _ (by unfold scr; have := h.1; omega)) (hF _ (by unfold scr; have := h.1; omega))
theorem XP.fr {g G : IG} {hn vn ru tc : Nat} {M : Nat → TM} (h : XP g hn vn ru tc M) (hF : Fr scr g G) : XP G hn vn ru tc M := by
  obtain ⟨h0, h1, h2, h3, h4, h5, h6⟩ := h
  have e37 := hF 37 (by unfold scr; omega)
  refine ⟨h0, by rw [e37]; exact h1, by rw [e37]; exact h2, by rw [e37]; exact h3, by rw [hF 0 (by unfold scr; omega)]; exact h4, fun t ht => (h5 t ht).up (hF _ (by unfold scr; omega)) (hF _ (by unfold scr; omega)), fun v hv => ?_⟩
  obtain ⟨k, a, b⟩ := h6 v hv
  refine ⟨k, a, ?_⟩
  have e : svC G 37 7 v = svC g 37 7 v := congrFun (hF 46 (by unfold scr; omega)) v
  rw [e]
  exact b
theorem bcF_fr {g : IG} : Fr scr g (bcF g 64 37) := fun i hi => bcF_out (by unfold scr at hi; omega)
theorem bcF_TH {g : IG} {hn vn ru tc : Nat} {M : Nat → TM} (h : XP g hn vn ru tc M) : TH (svC g 37) hn vn ru (bcF g 64 37) := by
  have e39 := bcF_fr (g := g) 39 (by unfold scr; omega)
  have e40 := bcF_fr (g := g) 40 (by unfold scr; omega)
  have hs : ∀ w k, w < 11 → k < 8 → 2 ≤ w → aW (bcF g 64 37) w k = svC g 37 w k := by
    intro w k hw hk h2
    unfold aW
    rw [if_neg (by omega), if_neg (by omega)]
    exact bcF_sv s64 hk (Or.inl hw)
  refine ⟨(bcF_int (k := 0) (by omega)).trans h.2.1, (bcF_int (k := 1) (by omega)).trans h.2.2.1, (bcF_int (k := 2) (by omega)).trans h.2.2.2.1, ⟨?_, ?_, ?_, ?_, ?_, ?_⟩, h.2.2.2.2.2.2⟩
  · intro p hp
    show bcF g 64 37 39 p = g 39 p
    rw [e39]
  · intro p hp
    show bcF g 64 37 40 p = g 40 p
    rw [e40]
  · exact fun p hp => hs 2 p (by omega) (by omega) (by omega)
  · exact hs 3 0 (by omega) (by omega) (by omega)
  · exact fun w k hw hk => hs w k (by omega) (by have := h.1; omega) (by omega)
  · exact fun w k hw hk => hs w k (by omega) (by have := h.1; omega) (by omega)
section CRS
variable {g G : IG} {o : Option Nat} {z : Int64}
theorem c_beginT (l : Launch) (E : Ev) {hn vn ru tc : Nat} {M : Nat → TM} (hX : XP g hn vn ru tc M) (hF : Fr scr g G) : Ct l E 88 yX4_begin cX4_begin 1 none 2 [.ref (E.2.1 63)] G (RFo o) z (ZV (RFo o) z (fun G1 => Fr scr g G1 ∧ TH (svC g 37) hn vn ru G1)) := by
  refine (c_X4_begin l E (g := G) (o := o) (z := z)).wk ?_
  rintro _ _ _ _ ⟨rfl, rfl, rfl, rfl⟩
  have hX2 := hX.fr hF
  have h2 := bcF_TH hX2
  have e : Req (svC G 37) (svC g 37) hn vn := by
    have q : ∀ w k, svC G 37 w k = svC g 37 w k := by
      intro w k
      unfold svC
      split
      · rw [hF _ (by unfold scr; omega)]
      · rw [hF 37 (by unfold scr; omega)]
    exact ⟨fun p _ => q _ _, fun p _ => q _ _, fun p _ => q _ _, q _ _, fun w k _ _ => q _ _, fun w k _ _ => q _ _⟩
  exact ⟨⟨rfl, hF.tr bcF_fr, h2.1, h2.2.1, h2.2.2.1, h2.2.2.2.1.tr e, e.hds h2.2.2.2.2⟩, rfl, rfl⟩
theorem c_walk0T (l : Launch) (E : Ev) {a : Sv} {hn vn ru : Nat} {M : TM} (hB : XB hn vn ru) (hT : TxM G ru M) (hH : TH a hn vn ru G) : Ct l E 88 yX4_walk cX4_walk 3 none 5 [.ref (E.2.1 63), .int 0] G (RFo o) z (ZV (RFo o) z (fun G1 => Fr wkS G G1 ∧ CW M a G1 vn)) := by
  refine (c_X4_walk0 l E (hH.wkP hB hT)).wk ?_
  rintro _ _ _ _ ⟨⟨rfl, h⟩, rfl, rfl⟩
  exact ⟨⟨rfl, h.1, wkI_cw hB.1 hH h⟩, rfl, rfl⟩
theorem c_walk1T (l : Launch) (E : Ev) {a : Sv} {hn vn ru : Nat} {M : TM} (hB : XB hn vn ru) (hT : TxM G ru M) (hH : TH a hn vn ru G) {f : Nat} (hf : f + 1 ≤ vn) (hD : CWp M a G (f + 1)) : Ct l E 88 yX4_walk cX4_walk 3 none 5 [.ref (E.2.1 63), .int (nI (f + 1))] G (RFo o) z (ZV (RFo o) z (fun G1 => Fr wkS G G1 ∧ CW M a G1 vn)) := by
  refine (c_X4_walk1 l E (hH.wkP hB hT) hf (fun u hu => cw_wkD hB.1 hH (by omega) (hD u hu))).wk ?_
  rintro _ _ _ _ ⟨⟨rfl, h⟩, rfl, rfl⟩
  exact ⟨⟨rfl, h.1, wkI_cw hB.1 hH h⟩, rfl, rfl⟩
theorem c_badT (l : Launch) (E : Ev) {a : Sv} {hn vn ru : Nat} {M : TM} (hB : XB hn vn ru) (hH : TH a hn vn ru G) (hD : CWp M a G vn) : Ct l E 88 yX4_badness cX4_badness 3 (some .int) 1 [.ref (E.2.1 63)] G (RFo o) z (Zi (RFo o) z (BDs M a vn) G) := by
  refine (c_X4_badness l E hB.2.1 hH.2.1).wk ?_
  rintro _ _ _ _ ⟨rfl, rfl, rfl, rfl⟩
  exact Zi.mk hD.bd rfl
end CRS
