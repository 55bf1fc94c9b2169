/-! THE MODEL: a salon as rows of numbers; a visit, a course, by the kit's functions alone -/
abbrev Sv : Type := Nat → Nat → Int32
abbrev TM : Type := Nat → (Int32 → Int32) → Int32
def svC (g : IG) (so : Nat) : Sv := fun w k => if w < 11 then g (so + 2 + w) k else g so (2 + k)
def evBA (M : TM) (a : Sv) (A : Nat → Int32) (v pl : Nat) : (Nat → Int32) → Int32 := fun L => M 1 (evW L A (a 2) (a 8 v) (a 7 v) pl)
def lfA (a : Sv) (v h : Nat) (A : Nat → Int32) (pl : Nat) (len : Int32) : Int32 := leftV (a 10 h) len (meansV (a 5 h) (A pl) (a 6 h) (a 10 h) (a 4 h) (nI pl)) (a 9 v) (a 3 0)
def G1A (M : TM) (a : Sv) (v h : Nat) (L A : Nat → Int32) (p : Nat) : Int32 := lfA a v h A p (mn 199 (L p + M 0 (evW L A (a 2) (a 8 v) (a 7 v) p)))
def v1A (M : TM) (a : Sv) (v h : Nat) (L A : Nat → Int32) : Nat × (Nat → Int32) := evn (evBA M a A v 0) 0 30 (growS L (G1A M a v h L A) 4)
def v2A (M : TM) (a : Sv) (v h : Nat) (L A : Nat → Int32) : Nat × (Nat → Int32) := evn (evBA M a A v 2) 2 30 (v1A M a v h L A).2
theorem und1_v {M : TM} {g : IG} {so v h : Nat} : und1 M g so v h = v1A M (svC g so) v h (g (so + 2 + 0)) (g (so + 2 + 1)) := rfl
theorem und2_v {M : TM} {g : IG} {so v h : Nat} : und2 M g so v h = v2A M (svC g so) v h (g (so + 2 + 0)) (g (so + 2 + 1)) := rfl
def hdA (a : Sv) (v : Nat) : Nat := (a 7 v).toNatClampNeg
def stL (M : TM) (a : Sv) (v : Nat) (L A : Nat → Int32) : Nat → Int32 := (v2A M a v (hdA a v) L A).2
def ctA (M : TM) (a : Sv) (v : Nat) (L A : Nat → Int32) : Int32 := 0 + nI (v1A M a v (hdA a v) L A).1 + nI (v2A M a v (hdA a v) L A).1
def ofA (M : TM) (a : Sv) (L A : Nat → Int32) : Int32 := offS L (a 2) (fun q => M 2 (nmV (L q) (A q) (a 2 q) 0 (nI q) 0)) 4
def crs (M : TM) (a : Sv) : Nat → (Nat → Int32) × (Nat → Int32)
  | 0 => (a 0, a 1)
  | v + 1 => (stL M a v (crs M a v).1 (crs M a v).2, stL M a v (crs M a v).1 (crs M a v).2)
theorem crs_s1 (M : TM) (a : Sv) (v : Nat) : (crs M a (v + 1)).1 = stL M a v (crs M a v).1 (crs M a v).2 := by simp only [crs]
theorem crs_s2 (M : TM) (a : Sv) (v : Nat) : (crs M a (v + 1)).2 = (crs M a (v + 1)).1 := by simp only [crs]
def E4 (L L' : Nat → Int32) : Prop := ∀ p, p < 4 → L p = L' p
theorem E4.rf {L : Nat → Int32} : E4 L L := fun _ _ => rfl
theorem E4.sy {L L' : Nat → Int32} (h : E4 L L') : E4 L' L := fun p hp => (h p hp).symm
theorem E4.tr {L L' L2 : Nat → Int32} (h : E4 L L') (h2 : E4 L' L2) : E4 L L2 := fun p hp => (h p hp).trans (h2 p hp)
/-- what of two salons a visit sees is the same -/
def Rv (a b : Sv) (v : Nat) : Prop := E4 (a 2) (b 2) ∧ a 3 0 = b 3 0 ∧ a 7 v = b 7 v ∧ a 8 v = b 8 v ∧ a 9 v = b 9 v ∧ ∀ w, (w = 4 ∨ w = 5 ∨ w = 6 ∨ w = 10) → a w (hdA a v) = b w (hdA a v)
theorem evs_E4 {L L' : Nat → Int32} {pl : Nat} (h : E4 L L') (hp : pl < 3) : E4 (evs L pl) (evs L' pl) := by
  intro p hp4
  unfold evs
  rw [h pl (by omega), h (pl + 1) (by omega)]
  split <;> (unfold upd; split; rfl; exact h p hp4)
theorem evn_E4 {B B' : (Nat → Int32) → Int32} {pl : Nat} (hp : pl < 3) (hB : ∀ L L', E4 L L' → B L = B' L') : ∀ (k : Nat) (L L' : Nat → Int32), E4 L L' → (evn B pl k L).1 = (evn B' pl k L').1 ∧ E4 (evn B pl k L).2 (evn B' pl k L').2
  | 0, _, _, h => ⟨rfl, h⟩
  | k + 1, L, L', h => by
    have ih := evn_E4 hp hB k _ _ (evs_E4 h hp)
    unfold evn
    rw [hB L L' h, h pl (by omega), h (pl + 1) (by omega)]
    split
    · exact ⟨congrArg (· + 1) ih.1, ih.2⟩
    · exact ⟨rfl, h⟩
theorem evW_E4 {L L' A A' W W' : Nat → Int32} {wk hd : Int32} {p : Nat} (hp : p < 4) (h : E4 L L') (hA : E4 A A') (hW : E4 W W') : evW L A W wk hd p = evW L' A' W' wk hd p := by
  unfold evW
  rw [h p hp, hA p hp, hW p hp]
theorem G1A_E4 {M : TM} {a b : Sv} {v : Nat} {L L' A A' : Nat → Int32} (hab : Rv a b v) (h : E4 L L') (hA : E4 A A') {p : Nat} (hp : p < 4) : G1A M a v (hdA a v) L A p = G1A M b v (hdA a v) L' A' p := by
  obtain ⟨h2, h3, h7, h8, h9, hw⟩ := hab
  unfold G1A lfA
  rw [evW_E4 hp h hA h2, h p hp, hA p hp, h3, h7, h8, h9, hw 4 (by omega), hw 5 (by omega), hw 6 (by omega), hw 10 (by omega)]
theorem v1A_E4 {M : TM} {a b : Sv} {v : Nat} {L L' A A' : Nat → Int32} (hab : Rv a b v) (h : E4 L L') (hA : E4 A A') : (v1A M a v (hdA a v) L A).1 = (v1A M b v (hdA a v) L' A').1 ∧ E4 (v1A M a v (hdA a v) L A).2 (v1A M b v (hdA a v) L' A').2 := by
  unfold v1A
  refine evn_E4 (by omega) (fun K K' hK => ?_) 30 _ _ (fun p hp => ?_)
  · unfold evBA
    rw [evW_E4 (by omega) hK hA hab.1, hab.2.2.1, hab.2.2.2.1]
  · unfold growS
    rw [if_pos hp, if_pos hp]
    exact G1A_E4 hab h hA hp
theorem v2A_E4 {M : TM} {a b : Sv} {v : Nat} {L L' A A' : Nat → Int32} (hab : Rv a b v) (h : E4 L L') (hA : E4 A A') : (v2A M a v (hdA a v) L A).1 = (v2A M b v (hdA a v) L' A').1 ∧ E4 (v2A M a v (hdA a v) L A).2 (v2A M b v (hdA a v) L' A').2 := by
  unfold v2A
  refine evn_E4 (by omega) (fun K K' hK => ?_) 30 _ _ (v1A_E4 hab h hA).2
  unfold evBA
  rw [evW_E4 (by omega) hK hA hab.1, hab.2.2.1, hab.2.2.2.1]
theorem Rv.hd {a b : Sv} {v : Nat} (h : Rv a b v) : hdA b v = hdA a v := by unfold hdA; rw [h.2.2.1]
theorem stL_E4 {M : TM} {a b : Sv} {v : Nat} {L L' A A' : Nat → Int32} (hab : Rv a b v) (h : E4 L L') (hA : E4 A A') : E4 (stL M a v L A) (stL M b v L' A') := by
  unfold stL
  rw [hab.hd]
  exact (v2A_E4 hab h hA).2
theorem ctA_E4 {M : TM} {a b : Sv} {v : Nat} {L L' A A' : Nat → Int32} (hab : Rv a b v) (h : E4 L L') (hA : E4 A A') : ctA M a v L A = ctA M b v L' A' := by
  unfold ctA
  rw [hab.hd, (v1A_E4 hab h hA).1, (v2A_E4 hab h hA).1]
theorem offS_E4 {L L' W W' D D' : Nat → Int32} (h : E4 L L') (hW : E4 W W') (hD : E4 D D') : ∀ k, k ≤ 4 → offS L W D k = offS L' W' D' k
  | 0, _ => rfl
  | k + 1, hk => by
    unfold offS
    rw [offS_E4 h hW hD k (by omega), h k (by omega), hW k (by omega), hD k (by omega)]
theorem ofA_E4 {M : TM} {a b : Sv} {L L' A A' : Nat → Int32} (h2 : E4 (a 2) (b 2)) (h : E4 L L') (hA : E4 A A') : ofA M a L A = ofA M b L' A' := by
  unfold ofA
  refine offS_E4 h h2 (fun q hq => ?_) 4 (Nat.le_refl 4)
  show M 2 _ = M 2 _
  rw [h q hq, hA q hq, h2 q hq]
theorem crs_E4 {M : TM} {a b : Sv} {n : Nat} (h0 : E4 (a 0) (b 0)) (h1 : E4 (a 1) (b 1)) (hab : ∀ v, v < n → Rv a b v) : ∀ v, v ≤ n → E4 (crs M a v).1 (crs M b v).1 ∧ E4 (crs M a v).2 (crs M b v).2
  | 0, _ => by
    simp only [crs]
    exact ⟨h0, h1⟩
  | v + 1, hv => by
    have ih := crs_E4 (M := M) h0 h1 hab v (by omega)
    have h9 := stL_E4 (M := M) (hab v (by omega)) ih.1 ih.2
    rw [crs_s2, crs_s2, crs_s1, crs_s1]
    exact ⟨h9, h9⟩
theorem cpy4 (L A : Nat → Int32) : E4 (va_cpy L A 0 0 4) L := fun p hp => by
  rw [pk_cpy_in (by omega) (by omega)]
  congr 1
  omega
/-- copied rows -/
def bcm (g : IG) (so ot k : Nat) : IG := fun i j => if so + 2 ≤ i ∧ i < so + 2 + k ∧ j < 8 then g (ot + 2 + (i - (so + 2))) j else g i j
theorem bcm_0 (g : IG) (so ot : Nat) : bcm g so ot 0 = g := funext fun i => funext fun j => if_neg (by omega)
theorem bcm_s {g : IG} {so ot k : Nat} (hs : Sal so) (ho : Sal ot) (hne : so ≠ ot) (hk : k < 11) : upw (bcm g so ot k) (so + 2 + k) (va_cpy (bcm g so ot k (ot + 2 + k)) (bcm g so ot k (so + 2 + k)) 0 0 8) = bcm g so ot (k + 1) := by
  have hso : so = 37 ∨ so = 50 ∨ so = 64 := hs
  have hoo : ot = 37 ∨ ot = 50 ∨ ot = 64 := ho
  funext i j
  unfold upw
  by_cases hi : i = so + 2 + k
  · subst hi
    rw [if_pos rfl]
    by_cases hj : j < 8
    · rw [pk_cpy_in (by omega) (by omega)]
      unfold bcm
      rw [if_neg (by omega), if_pos ⟨by omega, by omega, hj⟩]
      congr 1
      · congr 1
        omega
      · omega
    · rw [pk_cpy_out (by omega)]
      unfold bcm
      rw [if_neg (by omega), if_neg (by omega)]
  · rw [if_neg hi]
    unfold bcm
    by_cases h : so + 2 ≤ i ∧ i < so + 2 + k ∧ j < 8
    · rw [if_pos h, if_pos ⟨h.1, by omega, h.2.2⟩]
    · rw [if_neg h, if_neg (by omega)]
def bcF (g : IG) (so ot : Nat) : IG := up2 (up2 (up2 (bcm g so ot 11) so 2 (g ot 2)) so 3 (g ot 3)) so 4 (g ot 4)
theorem bcF_row {g : IG} {so ot w k : Nat} (hs : Sal so) (hw : w < 11) (hk : k < 8) : bcF g so ot (so + 2 + w) k = g (ot + 2 + w) k := by
  have hso : so = 37 ∨ so = 50 ∨ so = 64 := hs
  unfold bcF
  rw [up2_n _ _ (Or.inl (by omega)), up2_n _ _ (Or.inl (by omega)), up2_n _ _ (Or.inl (by omega))]
  unfold bcm
  rw [if_pos ⟨by omega, by omega, hk⟩]
  congr 1
  congr 1
  omega
theorem bcF_int {g : IG} {so ot k : Nat} (hk : k < 3) : bcF g so ot so (2 + k) = g ot (2 + k) := by
  unfold bcF
  rcases (show k = 0 ∨ k = 1 ∨ k = 2 by omega) with rfl | rfl | rfl
  · rw [up2_n _ _ (Or.inr (by omega)), up2_n _ _ (Or.inr (by omega)), up2_s]
  · rw [up2_n _ _ (Or.inr (by omega)), up2_s]
  · rw [up2_s]
theorem bcF_out {g : IG} {so ot i : Nat} (h : i < so ∨ so + 13 ≤ i) : bcF g so ot i = g i := by
  funext j
  unfold bcF
  rw [up2_n _ _ (Or.inl (by omega)), up2_n _ _ (Or.inl (by omega)), up2_n _ _ (Or.inl (by omega))]
  unfold bcm
  rw [if_neg (by omega)]
theorem bcF_sv {g : IG} {so ot w k : Nat} (hs : Sal so) (hk : k < 8) (hw : w < 11 ∨ k < 3) : svC (bcF g so ot) so w k = svC g ot w k := by
  unfold svC
  by_cases h : w < 11
  · rw [if_pos h, if_pos h]
    exact bcF_row hs h hk
  · rw [if_neg h, if_neg h]
    exact bcF_int (by omega)
/-- the cells that a course may write: of the Thought's salon the lengths, its rows, the stacks -/
def wkS (i : Nat) : Prop := i = 66 ∨ i = 67 ∨ (78 ≤ i ∧ i ≤ 87) ∨ (i < 29 ∧ 8 ≤ i ∧ i % 4 = 0)
def Fr (S : Nat → Prop) (g g' : IG) : Prop := ∀ i, ¬ S i → g' i = g i
theorem Fr.rf {S : Nat → Prop} {g : IG} : Fr S g g := fun _ _ => rfl
theorem Fr.tr {S : Nat → Prop} {g g1 g2 : IG} (h : Fr S g g1) (h2 : Fr S g1 g2) : Fr S g g2 := fun i hi => (h2 i hi).trans (h i hi)
theorem Fr.mono {S S' : Nat → Prop} {g g1 : IG} (h : Fr S g g1) (hS : ∀ i, S i → S' i) : Fr S' g g1 := fun i hi => h i (fun q => hi (hS i q))
theorem Fr.up2 {S : Nat → Prop} {g g1 : IG} (h : Fr S g g1) {i k : Nat} {v : Int32} (hi : S i) : Fr S g (up2 g1 i k v) := fun j hj => by
  have : j ≠ i := fun e => hj (e ▸ hi)
  rw [← h j hj]
  funext b
  exact up2_n _ _ (Or.inl this)
theorem Fr.upw {S : Nat → Prop} {g g1 : IG} (h : Fr S g g1) {i : Nat} {f : Nat → Int32} (hi : S i) : Fr S g (upw g1 i f) := fun j hj => by
  have : j ≠ i := fun e => hj (e ▸ hi)
  rw [← h j hj]
  exact upw_rn _ _ this
/-- the salon whose course is walked: the Thought's, from the lengths of now -/
def aW (g : IG) : Sv := fun w => if w = 0 then g 39 else if w = 1 then g 40 else svC g 64 w
def wkD (M : TM) (a : Sv) (G : IG) (v : Nat) : Prop := E4 (G (78 + v)) (crs M a (v + 1)).1 ∧ G 86 v = ofA M a (crs M a (v + 1)).1 (crs M a (v + 1)).2 ∧ G 87 v = ctA M a v (crs M a v).1 (crs M a v).2
def wkI (M : TM) (a : Sv) (g G : IG) (v : Nat) : Prop := Fr wkS g G ∧ (∀ u, u < v → wkD M a G u) ∧ E4 (G 66) (crs M a v).1 ∧ E4 (G 67) (crs M a v).2
theorem aW_Rv {g G : IG} (h : Fr wkS g G) (v : Nat) : Rv (svC G 64) (aW g) v := by
  have e : ∀ w, 2 ≤ w → w < 11 → svC G 64 w = aW g w := by
    intro w h1 h2
    have e1 : aW g w = svC g 64 w := by
      unfold aW
      rw [if_neg (by omega), if_neg (by omega)]
    rw [e1]
    funext k
    unfold svC
    rw [if_pos h2, if_pos h2, h (64 + 2 + w) (by unfold wkS; omega)]
  refine ⟨by rw [e 2 (by omega) (by omega)]; exact E4.rf, by rw [e 3 (by omega) (by omega)], by rw [e 7 (by omega) (by omega)], by rw [e 8 (by omega) (by omega)], by rw [e 9 (by omega) (by omega)], fun w hw => by rw [e w (by omega) (by omega)]⟩
/-- one visit more -/
theorem wk_step {M : TM} {g G : IG} {v ru : Nat} {f f' : Nat → Int32} {x x2 : Int32} {G1 G3 : IG} (hv : v < 8) (hru : ru < 6) (hI : wkI M (aW g) g G v) (hx : x = ctA M (svC G 64) v (G 66) (G 67)) (hG1 : G1 = upw (upw (upw G 66 (stL M (svC G 64) v (G 66) (G 67))) (5 + 4 * ru + 3) f) 67 (va_cpy (stL M (svC G 64) v (G 66) (G 67)) (G 67) 0 0 4))
    (hx2 : x2 = ofA M (svC (up2 G1 87 v x) 64) (up2 G1 87 v x 66) (up2 G1 87 v x 67)) (hG3 : G3 = up2 (upw (up2 G1 87 v x) (5 + 4 * ru + 3) f') 86 v x2) : wkI M (aW g) g (upw G3 (78 + v) (va_cpy (G3 66) (G3 (78 + v)) 0 0 4)) (v + 1) := by
  obtain ⟨hF, hD, h66, h67⟩ := hI
  have sX : wkS (5 + 4 * ru + 3) := by unfold wkS; omega
  have s66 : wkS 66 := by unfold wkS; omega
  have s67 : wkS 67 := by unfold wkS; omega
  have s87 : wkS 87 := by unfold wkS; omega
  have s86 : wkS 86 := by unfold wkS; omega
  have s78 : wkS (78 + v) := by unfold wkS; omega
  have hab := aW_Rv hF v
  have hc0 : x = ctA M (aW g) v (crs M (aW g) v).1 (crs M (aW g) v).2 := hx.trans (ctA_E4 hab h66 h67)
  have hL := stL_E4 (M := M) hab h66 h67
  rw [← crs_s1] at hL
  unfold wkI wkD
  rw [crs_s2]
  have e12 := crs_s2 M (aW g) v
  generalize stL M (svC G 64) v (G 66) (G 67) = S at hG1 hL
  generalize hC1 : (crs M (aW g) (v + 1)).1 = C1 at hL e12 ⊢
  clear hx
  have hF1 : Fr wkS g G1 := by rw [hG1]; exact ((hF.upw s66).upw sX).upw s67
  have hF2 : Fr wkS g (up2 G1 87 v x) := hF1.up2 s87
  have hF3 : Fr wkS g G3 := by rw [hG3]; exact (hF2.upw sX).up2 s86
  have e66 : G1 66 = S := by
    rw [hG1, upw_rn _ _ (by omega), upw_rn _ _ (by omega), upw_rs]
  have e67 : E4 (G1 67) C1 := by
    rw [hG1, upw_rs]
    exact (cpy4 _ _).tr hL
  have u66 : up2 G1 87 v x 66 = G1 66 := funext fun b => up2_n _ _ (Or.inl (by omega))
  have u67 : up2 G1 87 v x 67 = G1 67 := funext fun b => up2_n _ _ (Or.inl (by omega))
  have g66 : G3 66 = G1 66 := by
    rw [hG3]
    funext b
    rw [up2_n _ _ (Or.inl (by omega)), upw_n _ _ _ (by omega), u66]
  have g67 : G3 67 = G1 67 := by
    rw [hG3]
    funext b
    rw [up2_n _ _ (Or.inl (by omega)), upw_n _ _ _ (by omega), u67]
  have ho : x2 = ofA M (aW g) C1 C1 := by
    rw [hx2]
    exact ofA_E4 (aW_Rv hF2 v).1 (by rw [u66, e66]; exact hL) (by rw [u67]; exact e67)
  refine ⟨hF3.upw s78, fun u hu => ?_, ?_, ?_⟩
  · by_cases huv : u = v
    · subst huv
      rw [e12, hC1]
      refine ⟨?_, ?_, ?_⟩
      · rw [upw_rs, g66, e66]
        exact (cpy4 _ _).tr hL
      · rw [upw_n _ _ _ (by omega), hG3, up2_s]
        exact ho
      · rw [upw_n _ _ _ (by omega), hG3, up2_n _ _ (Or.inl (by omega)), upw_n _ _ _ (by omega), up2_s]
        exact hc0
    · obtain ⟨d1, d2, d3⟩ := hD u (by omega)
      have r1 : ∀ i, 78 ≤ i → i ≤ 85 → i ≠ 78 + v → (upw G3 (78 + v) (va_cpy (G3 66) (G3 (78 + v)) 0 0 4)) i = G i := by
        intro i h1 h2 h3
        rw [upw_rn _ _ h3, hG3]
        funext b
        rw [up2_n _ _ (Or.inl (by omega)), upw_n _ _ _ (by omega), up2_n _ _ (Or.inl (by omega)), hG1, upw_n _ _ _ (by omega), upw_n _ _ _ (by omega), upw_n _ _ _ (by omega)]
      refine ⟨by rw [r1 (78 + u) (by omega) (by omega) (by omega)]; exact d1, ?_, ?_⟩
      · rw [upw_n _ _ _ (by omega), hG3, up2_n _ _ (Or.inr huv), upw_n _ _ _ (by omega), up2_n _ _ (Or.inl (by omega)), hG1, upw_n _ _ _ (by omega), upw_n _ _ _ (by omega), upw_n _ _ _ (by omega)]
        exact d2
      · rw [upw_n _ _ _ (by omega), hG3, up2_n _ _ (Or.inl (by omega)), upw_n _ _ _ (by omega), up2_n _ _ (Or.inr huv), hG1, upw_n _ _ _ (by omega), upw_n _ _ _ (by omega), upw_n _ _ _ (by omega)]
        exact d3
  · rw [upw_rn _ _ (by omega), g66, e66]
    exact hL
  · rw [upw_rn _ _ (by omega), g67]
    exact e67
