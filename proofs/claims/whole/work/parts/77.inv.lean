/-! WHAT STAYS TRUE BETWEEN THE CALLS -/
def Rl (hn vn w k : Nat) : Prop := (w < 3 ∧ k < 4) ∨ (w = 3 ∧ k = 0) ∨ ((w = 4 ∨ w = 5 ∨ w = 6 ∨ w = 10) ∧ k < hn) ∨ ((w = 7 ∨ w = 8 ∨ w = 9) ∧ k < vn)
theorem Rl.lt {hn vn w k : Nat} (h : Rl hn vn w k) : w < 11 := by
  unfold Rl at h
  omega
/-- two salons that agree -/
def SQ (a b : Sv) (hn vn : Nat) : Prop := (∀ w k, Rl hn vn w k → a w k = b w k) ∧ HdS b hn vn ∧ Ln (b 0) ∧ ∀ h, h < hn → ∃ k, k < 6 ∧ b 10 h = nI k
theorem SQ.req {a b : Sv} {hn vn : Nat} (h : SQ a b hn vn) : Req a b hn vn :=
  ⟨fun p hp => h.1 0 p (by unfold Rl; omega), fun p hp => h.1 1 p (by unfold Rl; omega), fun p hp => h.1 2 p (by unfold Rl; omega), h.1 3 0 (by unfold Rl; omega), fun w k h1 h2 => h.1 w k (by unfold Rl; omega), fun w k h1 h2 => h.1 w k (by unfold Rl; omega)⟩
theorem SQ.cg {a b a' b' : Sv} {hn vn : Nat} (h : SQ a b hn vn) (ha : ∀ w k, Rl hn vn w k → a' w k = a w k) (hb : ∀ w k, Rl hn vn w k → b' w k = b w k) : SQ a' b' hn vn := by
  refine ⟨fun w k q => (ha w k q).trans ((h.1 w k q).trans (hb w k q).symm), fun v hv => ?_, fun p hp => ?_, fun x hx => ?_⟩
  · obtain ⟨j, hj, e⟩ := h.2.1 v hv
    exact ⟨j, hj, (hb 7 v (by unfold Rl; omega)).trans e⟩
  · obtain ⟨j, hj, e⟩ := h.2.2.1 p hp
    exact ⟨j, hj, (hb 0 p (by unfold Rl; omega)).trans e⟩
  · obtain ⟨j, hj, e⟩ := h.2.2.2 x hx
    exact ⟨j, hj, (hb 10 x (by unfold Rl; omega)).trans e⟩
theorem svC_l {g : IG} {so w k : Nat} (h : w < 11) : svC g so w k = g (so + 2 + w) k := if_pos h
theorem svM_cg {b b' : IG} (h : ∀ i k, (92 ≤ i ∧ i ≤ 101) ∨ (i = 88 ∧ k = 10) → b' i k = b i k) (w k : Nat) : svM b' w k = svM b w k := by
  by_cases h1 : w < 10
  · by_cases h3 : w = 3
    · subst h3
      exact h 88 10 (by omega)
    · rw [svM_o h1 h3, svM_o h1 h3]
      exact h _ _ (by omega)
  · rw [svM_10 (by omega), svM_10 (by omega)]
    exact h _ _ (by omega)
/-- the reference's kept salon -/
def svK (b : IG) : Sv := fun w k => if w < 3 then b 108 (4 * w + k) else if w = 3 then b 88 50 else if w < 7 then b 109 (5 * (w - 4) + k) else if w < 10 then b 110 (8 * (w - 7) + k) else b 95 k
theorem svK_cg {b b' : IG} {w k : Nat} (h : ∀ i k, (108 ≤ i ∧ i ≤ 110) ∨ (i = 88 ∧ k = 50) → b' i k = b i k) (h2 : 10 ≤ w → b' 95 k = b 95 k) : svK b' w k = svK b w k := by
  unfold svK
  by_cases h1 : w < 3
  · rw [if_pos h1, if_pos h1, h _ _ (by omega)]
  rw [if_neg h1, if_neg h1]
  by_cases h3 : w = 3
  · rw [if_pos h3, if_pos h3, h _ _ (by omega)]
  rw [if_neg h3, if_neg h3]
  by_cases h4 : w < 7
  · rw [if_pos h4, if_pos h4, h _ _ (by omega)]
  rw [if_neg h4, if_neg h4]
  by_cases h5 : w < 10
  · rw [if_pos h5, if_pos h5, h _ _ (by omega)]
  rw [if_neg h5, if_neg h5, h2 (by omega)]
def SAL (a b : IG) (hn vn ru : Nat) : Prop := (hn ≤ 5 ∧ vn ≤ 8) ∧ (a 37 2 = nI hn ∧ a 37 3 = nI vn ∧ a 37 4 = nI ru) ∧ (b 88 15 = nI hn ∧ b 88 19 = nI vn ∧ b 88 4 = nI ru) ∧ SQ (svC a 37) (svM b) hn vn
theorem SAL.fr {a b a' b' : IG} {hn vn ru : Nat} (h : SAL a b hn vn ru) (ha : ∀ i k, ((i = 37 ∧ 2 ≤ k ∧ k ≤ 4) ∨ (39 ≤ i ∧ i ≤ 49)) → a' i k = a i k) (hb : ∀ i k, ((i = 88 ∧ (k = 4 ∨ k = 10 ∨ k = 15 ∨ k = 19)) ∨ (92 ≤ i ∧ i ≤ 101)) → b' i k = b i k) : SAL a' b' hn vn ru := by
  obtain ⟨h0, ⟨h1, h2, h3⟩, ⟨h4, h5, h6⟩, h7⟩ := h
  refine ⟨h0, ⟨(ha _ _ (by omega)).trans h1, (ha _ _ (by omega)).trans h2, (ha _ _ (by omega)).trans h3⟩, ⟨(hb _ _ (by omega)).trans h4, (hb _ _ (by omega)).trans h5, (hb _ _ (by omega)).trans h6⟩, h7.cg (fun w k q => ?_) (fun w k q => svM_cg (fun i k q => hb i k (by omega)) w k)⟩
  have := q.lt
  rw [svC_l this, svC_l this]
  exact ha _ _ (by omega)
def TXT (a b : IG) (tc : Nat) (CS : CSt) : Prop := (0 < tc ∧ tc ≤ 6) ∧ a 0 1 = nI tc ∧ b 88 3 = nI tc ∧ (∀ t, t < tc → TxM a t (TMx CS t)) ∧ (∀ t, t < tc → TtI b t (CS t)) ∧ SdI b tc CS
theorem TtI.cg {g g' : IG} {t : Nat} {cs : Nat → List Int32} (h : TtI g t cs) (h1 : ∀ i, i < 160 → g' 89 (160 * t + i) = g 89 (160 * t + i)) (h2 : g' 90 t = g 90 t) : TtI g' t cs := by
  obtain ⟨sz, s1, s2, s3, s4⟩ := h
  refine ⟨sz, s1, h2.trans s2, fun i hi => by rw [h1 i (by omega)]; exact s3 i hi, RdOK_cg (fun i hi => ?_) s4⟩
  exact (h1 i (by omega)).symm
theorem TXT.fr {a b a' b' : IG} {tc : Nat} {CS : CSt} (h : TXT a b tc CS) (ha : ∀ i k, ((i = 0 ∧ k = 1) ∨ (6 ≤ i ∧ i ≤ 27 ∧ (i % 4 = 2 ∨ i % 4 = 3))) → a' i k = a i k) (hb : ∀ i k, ((i = 88 ∧ k = 3) ∨ i = 89 ∨ i = 90) → b' i k = b i k) (hS : SdI b' tc CS) : TXT a' b' tc CS := by
  obtain ⟨h0, h1, h2, h3, h4, h5⟩ := h
  exact ⟨h0, (ha _ _ (by omega)).trans h1, (hb _ _ (by omega)).trans h2, fun t ht => (h3 t ht).up (funext fun k => ha _ _ (by omega)) (funext fun k => ha _ _ (by omega)), fun t ht => (h4 t ht).cg (fun i _ => hb _ _ (by omega)) (hb _ _ (by omega)), hS⟩
def TAP (a b : IG) : Prop := ∃ sz, sz ≤ 160 ∧ a 2 1 = nI sz ∧ b 88 6 = nI sz ∧ ∀ i, i < sz → a 3 i = b 91 i ∧ ¬ b 91 i < 0
theorem TAP.fr {a b a' b' : IG} (h : TAP a b) (ha : ∀ i k, ((i = 2 ∧ k = 1) ∨ i = 3) → a' i k = a i k) (hb : ∀ i k, ((i = 88 ∧ k = 6) ∨ i = 91) → b' i k = b i k) : TAP a' b' := by
  obtain ⟨sz, s1, s2, s3, s4⟩ := h
  exact ⟨sz, s1, (ha _ _ (by omega)).trans s2, (hb _ _ (by omega)).trans s3, fun i hi => by rw [ha 3 i (by omega), hb 91 i (by omega)]; exact s4 i hi⟩
def SH1 (a b : IG) (t : Nat) : Prop := ∃ sz, sz ≤ 40 ∧ a (29 + 2 * t) 2 = nI sz ∧ ((a (29 + 2 * t) 1 = -1 ∧ b 111 t = 0) ∨ (¬ a (29 + 2 * t) 1 = -1 ∧ ¬ b 111 t = 0 ∧ b 112 t = a (29 + 2 * t) 1 ∧ b 113 t = nI sz ∧ ∀ i, i < sz → a (29 + 2 * t + 1) i = b 114 (40 * t + i)))
theorem SH1.fr {a b a' b' : IG} {t : Nat} (h : SH1 a b t) (ha : ∀ k, a' (29 + 2 * t) k = a (29 + 2 * t) k ∧ a' (29 + 2 * t + 1) k = a (29 + 2 * t + 1) k) (hb : b' 111 t = b 111 t ∧ b' 112 t = b 112 t ∧ b' 113 t = b 113 t ∧ ∀ i, i < 40 → b' 114 (40 * t + i) = b 114 (40 * t + i)) : SH1 a' b' t := by
  obtain ⟨sz, s1, s2, s3⟩ := h
  refine ⟨sz, s1, (ha 2).1.trans s2, ?_⟩
  rw [(ha 1).1, hb.1, hb.2.1, hb.2.2.1]
  rcases s3 with s3 | ⟨s3, s4, s5, s6, s7⟩
  · exact Or.inl s3
  · exact Or.inr ⟨s3, s4, s5, s6, fun i hi => by rw [(ha i).2, hb.2.2.2 i (by omega)]; exact s7 i hi⟩
def KEP (a b : IG) (hn tc : Nat) : Prop := (a 0 5 = 0 ∧ b 88 48 = -1) ∨ (¬ a 0 5 = 0 ∧ ∃ hk vk rk, hk ≤ hn ∧ hk ≤ 5 ∧ vk ≤ 8 ∧ rk < tc ∧ (a 50 2 = nI hk ∧ a 50 3 = nI vk ∧ a 50 4 = nI rk) ∧ (b 88 48 = nI vk ∧ b 88 49 = nI hk ∧ b 88 51 = nI rk) ∧ SQ (svC a 50) (svK b) hk vk)
theorem KEP.fr {a b a' b' : IG} {hn tc hn' tc' : Nat} (h : KEP a b hn tc) (hh : hn ≤ hn') (ht : tc ≤ tc') (ha : ∀ i k, ((i = 0 ∧ k = 5) ∨ (i = 50 ∧ 2 ≤ k ∧ k ≤ 4) ∨ (52 ≤ i ∧ i ≤ 62)) → a' i k = a i k) (hb : ∀ i k, ((i = 88 ∧ 48 ≤ k ∧ k ≤ 51) ∨ (108 ≤ i ∧ i ≤ 110) ∨ (i = 95 ∧ k < hn)) → b' i k = b i k) : KEP a' b' hn' tc' := by
  rcases h with ⟨h1, h2⟩ | ⟨h1, hk, vk, rk, k1, k2, k3, k4, ⟨k5, k6, k7⟩, ⟨k8, k9, k10⟩, k11⟩
  · exact Or.inl ⟨(ha _ _ (by omega)).trans h1, (hb _ _ (by omega)).trans h2⟩
  · refine Or.inr ⟨by rw [ha _ _ (by omega)]; exact h1, hk, vk, rk, by omega, k2, k3, by omega, ⟨(ha _ _ (by omega)).trans k5, (ha _ _ (by omega)).trans k6, (ha _ _ (by omega)).trans k7⟩, ⟨(hb _ _ (by omega)).trans k8, (hb _ _ (by omega)).trans k9, (hb _ _ (by omega)).trans k10⟩, k11.cg (fun w k q => ?_) (fun w k q => svK_cg (fun i k q => hb i k (by omega)) (fun hw => hb _ _ (by unfold Rl at q; omega)))⟩
    have := q.lt
    rw [svC_l this, svC_l this]
    exact ha _ _ (by omega)
/-- what is true before and after each call -/
def Inv (a b : IG) (hn vn ru tc : Nat) (CS : CSt) : Prop := ru < tc ∧ SAL a b hn vn ru ∧ TXT a b tc CS ∧ TAP a b ∧ (∀ t, t < 4 → SH1 a b t) ∧ KEP a b hn tc
def InvE (g : IG) : Prop := ∃ hn vn ru tc CS, Inv g g hn vn ru tc CS
theorem Inv.q {a b a' b' : IG} {hn vn ru tc : Nat} {CS : CSt} (h : Inv a b hn vn ru tc CS) (ha : ∀ i, i < 88 → ¬ scr i → ∀ k, a' i k = a i k) (hb : ∀ i k, 88 ≤ i → ¬ ((102 ≤ i ∧ i ≤ 107) ∨ (i = 88 ∧ (20 ≤ k ∧ k ≤ 37 ∨ k = 39))) → b' i k = b i k) (hS : SdI b' tc CS) : Inv a' b' hn vn ru tc CS := by
  obtain ⟨h0, h1, h2, h3, h4, h5⟩ := h
  have ha2 : ∀ i, i < 88 → ¬ scr i → ∀ k, a' i k = a i k := ha
  refine ⟨h0, h1.fr (fun i k q => ha i (by omega) (by unfold scr; omega) k) (fun i k q => hb i k (by omega) (by omega)), h2.fr (fun i k q => ha i (by omega) (by unfold scr; omega) k) (fun i k q => hb i k (by omega) (by omega)) hS, h3.fr (fun i k q => ha i (by omega) (by unfold scr; omega) k) (fun i k q => hb i k (by omega) (by omega)), fun t ht => (h4 t ht).fr (fun k => ⟨ha _ (by omega) (by unfold scr; omega) k, ha _ (by omega) (by unfold scr; omega) k⟩) ⟨hb _ _ (by omega) (by omega), hb _ _ (by omega) (by omega), hb _ _ (by omega) (by omega), fun i _ => hb _ _ (by omega) (by omega)⟩, h5.fr (Nat.le_refl _) (Nat.le_refl _) (fun i k q => ha i (by omega) (by unfold scr; omega) k) (fun i k q => hb i k (by omega) (by omega))⟩
theorem Inv.sd {a b : IG} {hn vn ru tc : Nat} {CS : CSt} (h : Inv a b hn vn ru tc CS) : SdI b tc CS := h.2.2.1.2.2.2.2.2
/-- the class was asked: the reference's cells are as before -/
theorem Inv.cq {a b b' : IG} {hn vn ru tc : Nat} {CS : CSt} (h : Inv a b hn vn ru tc CS) (hb : ∀ i, 88 ≤ i → b' i = b i) : Inv a b' hn vn ru tc CS :=
  h.q (fun _ _ _ _ => rfl) (fun i k hi _ => by rw [hb i hi]) (h.sd.fr (hb 102 (by omega)))
theorem Fr.c88 {g g1 : IG} (h : Fr scr g g1) : ∀ i, 88 ≤ i → g1 i = g i := fun i hi => h i (by unfold scr; omega)
theorem Inv.query {g g1 g2 : IG} {hn vn ru tc : Nat} {CS : CSt} (h : Inv g g hn vn ru tc CS) (h1 : Fr scr g g1) (h2 : FrJ g1 g2) (h3 : SdI g2 tc CS) : Inv g2 g2 hn vn ru tc CS :=
  h.q (fun i hi hs k => (h2 i k (by omega)).trans (congrFun (h1 i hs) k)) (fun i k hi hn => (h2 i k hn).trans (congrFun (h1.c88 i hi) k)) h3
theorem Inv.rq {a b : IG} {hn vn ru tc : Nat} {CS : CSt} (h : Inv a b hn vn ru tc CS) : Req (svC a 37) (svM b) hn vn := h.2.1.2.2.2.req
theorem Inv.hdM {a b : IG} {hn vn ru tc : Nat} {CS : CSt} (h : Inv a b hn vn ru tc CS) : HdS (svM b) hn vn := h.2.1.2.2.2.2.1
theorem Inv.hd {a b : IG} {hn vn ru tc : Nat} {CS : CSt} (h : Inv a b hn vn ru tc CS) : HdS (svC a 37) hn vn := h.rq.sy.hds h.hdM
theorem Inv.xp {a b : IG} {hn vn ru tc : Nat} {CS : CSt} (h : Inv a b hn vn ru tc CS) : XP a hn vn ru tc (TMx CS) :=
  ⟨⟨h.2.1.1.1, h.2.1.1.2, h.1, h.2.2.1.1.2⟩, h.2.1.2.1.1, h.2.1.2.1.2.1, h.2.1.2.1.2.2, h.2.2.1.2.1, h.2.2.1.2.2.2.1, h.hd⟩
theorem Inv.xm {a b : IG} {hn vn ru tc : Nat} {CS : CSt} (h : Inv a b hn vn ru tc CS) : XM b hn vn ru tc CS :=
  ⟨h.2.1.1, h.2.1.2.2.1.1, h.2.1.2.2.1.2.1, h.2.1.2.2.2.2.2.1, h.hdM, h.1, h.2.2.1.1.2, h.2.1.2.2.1.2.2, h.2.2.1.2.2.1, h.2.2.1.2.2.2.2.1, h.sd⟩
theorem Inv.shx {a b : IG} {hn vn ru tc : Nat} {CS : CSt} (h : Inv a b hn vn ru tc CS) : ShX a := fun t ht => by
  obtain ⟨sz, s1, s2, -⟩ := h.2.2.2.2.1 t ht
  exact ⟨sz, s1, s2⟩
theorem Inv.shm {a b : IG} {hn vn ru tc : Nat} {CS : CSt} (h : Inv a b hn vn ru tc CS) : ShMX b := fun t ht hq => by
  obtain ⟨sz, s1, s2, s3 | s3⟩ := h.2.2.2.2.1 t ht
  · exact absurd s3.2 hq
  · exact ⟨sz, s1, s3.2.2.2.1⟩
theorem Inv.she {a b : IG} {hn vn ru tc : Nat} {CS : CSt} (h : Inv a b hn vn ru tc CS) : ∀ t, t < 4 → ShE (shF a t) (shM b t) := fun t ht => by
  obtain ⟨sz, s1, s2, s3 | ⟨s3, s4, s5, s6, s7⟩⟩ := h.2.2.2.2.1 t ht
  · exact Or.inl ⟨s3.1, if_pos s3.2⟩
  · refine Or.inr ⟨s3, ?_, ?_, fun i hi => ?_⟩
    · show ¬ (if b 111 t = 0 then (-1 : Int32) else 0) = -1
      rw [if_neg s4]
      decide
    · show clI (a (29 + 2 * t) 2) = clI (b 113 t)
      rw [s2, s6]
    · refine s7 i ?_
      have hi2 : i < clI (a (29 + 2 * t) 2) := hi
      rw [s2, clI_n (by omega)] at hi2
      exact hi2
theorem st_once {g g1 : IG} {hn vn ru tc : Nat} {CS : CSt} (h : Inv g g hn vn ru tc CS) (x1 x2 : Int32) {x : Int32} (e1 : x = onceF (TMx CS ru) (svC g 37) vn x1 x2 ∧ Fr scr g g1) : XM g1 hn vn ru tc CS ∧ ∀ (y : Int32) (g2 : IG), (y = onceF (TMx CS ru) (svM g1) vn x1 x2 ∧ FrK g1 g2 ∧ SdI g2 tc CS) → x = y ∧ InvE g2 := by
  have h1 := h.cq e1.2.c88
  exact ⟨h1.xm, fun y g2 e2 => ⟨e1.1.trans ((rq_once h1.rq h.hd h.2.1.1.1 h.2.1.1.2 x1 x2).trans e2.1.symm), hn, vn, ru, tc, CS, h.query e1.2 e2.2.1.j e2.2.2⟩⟩
theorem st_course {g g1 : IG} {hn vn ru tc : Nat} {CS : CSt} (h : Inv g g hn vn ru tc CS) (x1 x2 : Int32) {x : Int32} (e1 : x = courseF (TMx CS ru) (svC g 37) vn x1 x2 ∧ Fr scr g g1) : XM g1 hn vn ru tc CS ∧ ∀ (y : Int32) (g2 : IG), (y = courseF (TMx CS ru) (svM g1) vn x1 x2 ∧ FrK g1 g2 ∧ SdI g2 tc CS) → x = y ∧ InvE g2 := by
  have h1 := h.cq e1.2.c88
  exact ⟨h1.xm, fun y g2 e2 => ⟨e1.1.trans ((rq_course h1.rq h.hd h.2.1.1.1 h.2.1.1.2 x1 x2).trans e2.1.symm), hn, vn, ru, tc, CS, h.query e1.2 e2.2.1.j e2.2.2⟩⟩
theorem st_bad {g g1 : IG} {hn vn ru tc : Nat} {CS : CSt} (h : Inv g g hn vn ru tc CS) (x1 : Int32) {x : Int32} (e1 : x = badF (TMx CS ru) (svC g 37) vn x1 ∧ Fr scr g g1) : XM g1 hn vn ru tc CS ∧ ∀ (y : Int32) (g2 : IG), (y = badF (TMx CS ru) (svM g1) vn x1 ∧ FrK g1 g2 ∧ SdI g2 tc CS) → x = y ∧ InvE g2 := by
  have h1 := h.cq e1.2.c88
  exact ⟨h1.xm, fun y g2 e2 => ⟨e1.1.trans ((rq_bad h1.rq h.hd h.2.1.1.1 x1).trans e2.1.symm), hn, vn, ru, tc, CS, h.query e1.2 e2.2.1.j e2.2.2⟩⟩
theorem st_drift {g g1 : IG} {hn vn ru tc : Nat} {CS : CSt} (h : Inv g g hn vn ru tc CS) (x1 : Int32) {x : Int32} (e1 : x = driftF (TMx CS ru) (svC g 37) vn x1 ∧ Fr scr g g1) : XM g1 hn vn ru tc CS ∧ ∀ (y : Int32) (g2 : IG), (y = driftF (TMx CS ru) (svM g1) vn x1 ∧ FrK g1 g2 ∧ SdI g2 tc CS) → x = y ∧ InvE g2 := by
  have h1 := h.cq e1.2.c88
  exact ⟨h1.xm, fun y g2 e2 => ⟨e1.1.trans ((rq_drift h1.rq h.hd h.2.1.1.1 x1).trans e2.1.symm), hn, vn, ru, tc, CS, h.query e1.2 e2.2.1.j e2.2.2⟩⟩
theorem st_again {g g1 : IG} {hn vn ru tc : Nat} {CS : CSt} (h : Inv g g hn vn ru tc CS) (x1 : Int32) {x : Int32} (e1 : x = againF (TMx CS ru) (svC g 37) vn x1 ∧ Fr scr g g1) : XM g1 hn vn ru tc CS ∧ ∀ (y : Int32) (g2 : IG), (y = againF (TMx CS ru) (svM g1) vn x1 ∧ FrK g1 g2 ∧ SdI g2 tc CS) → x = y ∧ InvE g2 := by
  have h1 := h.cq e1.2.c88
  exact ⟨h1.xm, fun y g2 e2 => ⟨e1.1.trans ((rq_again h1.rq h.hd h.2.1.1.1 x1).trans e2.1.symm), hn, vn, ru, tc, CS, h.query e1.2 e2.2.1.j e2.2.2⟩⟩
theorem st_marked {g g1 : IG} {hn vn ru tc : Nat} {CS : CSt} (h : Inv g g hn vn ru tc CS) {x : Int32} (e1 : x = markF (TMx CS ru) (svC g 37) vn ∧ Fr scr g g1) : XM g1 hn vn ru tc CS ∧ ∀ (y : Int32) (g2 : IG), (y = markF (TMx CS ru) (svM g1) vn ∧ FrJ g1 g2 ∧ SdI g2 tc CS) → x = y ∧ InvE g2 := by
  have h1 := h.cq e1.2.c88
  exact ⟨h1.xm, fun y g2 e2 => ⟨e1.1.trans ((rq_mark h1.rq h.hd h.2.1.1.1).trans e2.1.symm), hn, vn, ru, tc, CS, h.query e1.2 e2.2.1 e2.2.2⟩⟩
theorem st_whom {g g1 : IG} {hn vn ru tc : Nat} {CS : CSt} (h : Inv g g hn vn ru tc CS) (x1 : Int32) {x : Int32} (e1 : x = whomF (TMx CS ru) (svC g 37) hn vn x1 ∧ Fr scr g g1) : XM g1 hn vn ru tc CS ∧ ∀ (y : Int32) (g2 : IG), (y = whomF (TMx CS ru) (svM g1) hn vn x1 ∧ FrJ g1 g2 ∧ SdI g2 tc CS) → x = y ∧ InvE g2 := by
  have h1 := h.cq e1.2.c88
  exact ⟨h1.xm, fun y g2 e2 => ⟨e1.1.trans ((rq_whom h1.rq h.hd h.2.1.1.1 x1).trans e2.1.symm), hn, vn, ru, tc, CS, h.query e1.2 e2.2.1 e2.2.2⟩⟩
theorem st_when {g g1 : IG} {hn vn ru tc : Nat} {CS : CSt} (h : Inv g g hn vn ru tc CS) (x1 x2 : Int32) {x : Int32} (e1 : x = whenF (TMx CS ru) (svC g 37) vn x1 x2 ∧ Fr scr g g1) : XM g1 hn vn ru tc CS ∧ ∀ (y : Int32) (g2 : IG), (y = whenF (TMx CS ru) (svM g1) vn x1 x2 ∧ FrJ g1 g2 ∧ SdI g2 tc CS) → x = y ∧ InvE g2 := by
  have h1 := h.cq e1.2.c88
  exact ⟨h1.xm, fun y g2 e2 => ⟨e1.1.trans ((rq_when h1.rq h.hd h.2.1.1.1 x1 x2).trans e2.1.symm), hn, vn, ru, tc, CS, h.query e1.2 e2.2.1 e2.2.2⟩⟩
theorem st_drawn {g g1 : IG} {hn vn ru tc : Nat} {CS : CSt} (h : Inv g g hn vn ru tc CS) (x1 : Int32) {x : Int32} (e1 : x = drawF (TMx CS ru) (svC g 37) hn vn x1 ∧ Fr scr g g1) : XM g1 hn vn ru tc CS ∧ ∀ (y : Int32) (g2 : IG), (y = drawF (TMx CS ru) (svM g1) hn vn x1 ∧ FrJ g1 g2 ∧ SdI g2 tc CS) → x = y ∧ InvE g2 := by
  have h1 := h.cq e1.2.c88
  exact ⟨h1.xm, fun y g2 e2 => ⟨e1.1.trans ((rq_draw h1.rq h.hd h.2.1.1.1 x1).trans e2.1.symm), hn, vn, ru, tc, CS, h.query e1.2 e2.2.1 e2.2.2⟩⟩
theorem st_chance {g g1 : IG} {hn vn ru tc : Nat} {CS : CSt} (h : Inv g g hn vn ru tc CS) (x1 x2 x3 : Int32) {x : Int64} (e1 : x = chanceF (TMx CS ru) (svC g 37) hn vn x1 x2 x3 ∧ Fr scr g g1) : XM g1 hn vn ru tc CS ∧ ∀ (y : Int64) (g2 : IG), (y = chanceF (TMx CS ru) (svM g1) hn vn x1 x2 x3 ∧ FrJ g1 g2 ∧ SdI g2 tc CS) → x = y ∧ InvE g2 := by
  have h1 := h.cq e1.2.c88
  exact ⟨h1.xm, fun y g2 e2 => ⟨e1.1.trans ((rq_chance h1.rq h.hd h.2.1.1.1 x1 x2 x3).trans e2.1.symm), hn, vn, ru, tc, CS, h.query e1.2 e2.2.1 e2.2.2⟩⟩
theorem st_say {g g1 : IG} {hn vn ru tc : Nat} {CS : CSt} (h : Inv g g hn vn ru tc CS) (x1 x2 : Int32) {x : Int32} (e1 : x = sayF (TMx CS ru) (svC g 37) vn x1 x2 ∧ Fr scr g g1) : XM g1 hn vn ru tc CS ∧ ∀ (y : Int32) (g2 : IG), (y = sayF (TMx CS ru) (svM g1) vn x1 x2 ∧ FrJ g1 g2 ∧ SdI g2 tc CS) → x = y ∧ InvE g2 := by
  have h1 := h.cq e1.2.c88
  exact ⟨h1.xm, fun y g2 e2 => ⟨e1.1.trans ((rq_say h1.rq h.hd h.2.1.1.1 x1 x2).trans e2.1.symm), hn, vn, ru, tc, CS, h.query e1.2 e2.2.1 e2.2.2⟩⟩
theorem st_pictures {g g1 : IG} {hn vn ru tc : Nat} {CS : CSt} (h : Inv g g hn vn ru tc CS) (x1 x2 : Int32) {x : Int32} (e1 : x = pictX (TMx CS ru) (svC g 37) vn (shF g) x1 x2 ∧ Fr scr g g1) : (XM g1 hn vn ru tc CS ∧ ShMX g1) ∧ ∀ (y : Int32) (g2 : IG), (y = pictX (TMx CS ru) (svM g1) vn (shM g1) x1 x2 ∧ FrK g1 g2 ∧ SdI g2 tc CS) → x = y ∧ InvE g2 := by
  have h1 := h.cq e1.2.c88
  exact ⟨⟨h1.xm, h1.shm⟩, fun y g2 e2 => ⟨e1.1.trans ((rq_pict h1.rq h.hd h.2.1.1.1 h1.she x1 x2).trans e2.1.symm), hn, vn, ru, tc, CS, h.query e1.2 e2.2.1.j e2.2.2⟩⟩
theorem st_seen {g g1 : IG} {hn vn ru tc : Nat} {CS : CSt} (h : Inv g g hn vn ru tc CS) (x1 x2 x4 : Int32) {k : Nat} (hk : k < 6) {x : Int32} (e1 : x = seenF (TMx CS) ru (svC g 37) hn vn tc (shF g) k x1 x2 x4 ∧ Fr scr g g1) : (XM g1 hn vn ru tc CS ∧ ShMX g1) ∧ ∀ (y : Int32) (g2 : IG), (y = seenF (TMx CS) ru (svM g1) hn vn tc (shM g1) k x1 x2 x4 ∧ FrK g1 g2 ∧ SdI g2 tc CS) → x = y ∧ InvE g2 := by
  have h1 := h.cq e1.2.c88
  exact ⟨⟨h1.xm, h1.shm⟩, fun y g2 e2 => ⟨e1.1.trans ((rq_seen h1.rq h.hd h.2.1.1.1 h1.she hk x1 x2 x4).trans e2.1.symm), hn, vn, ru, tc, CS, h.query e1.2 e2.2.1.j e2.2.2⟩⟩
