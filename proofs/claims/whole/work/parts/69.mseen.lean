/-! THE REFERENCE: what is seen -/
/-- but for one int and what any asking may write -/
def FrN (ci ck : Nat) (g0 g : IG) : Prop := ∀ i k, ¬ ((i = ci ∧ k = ck) ∨ (102 ≤ i ∧ i ≤ 105) ∨ (i = 88 ∧ (20 ≤ k ∧ k ≤ 37 ∨ k = 39))) → g i k = g0 i k
theorem FrN.rf {ci ck : Nat} {g : IG} : FrN ci ck g g := fun _ _ _ => rfl
theorem FrN.step {ci ck : Nat} {g0 G G1 : IG} {x : Int32} (h : FrN ci ck g0 G) (h1 : FrK (up2 G ci ck x) G1) : FrN ci ck g0 G1 := fun i k q => by
  rw [h1 i k (by omega), up2_n _ _ (by omega)]
  exact h i k q
theorem FrN.back {ci ck : Nat} {g0 G : IG} (h : FrN ci ck g0 G) : FrK g0 (up2 G ci ck (g0 ci ck)) := fun i k q => by
  by_cases e : i = ci ∧ k = ck
  · obtain ⟨rfl, rfl⟩ := e
    rw [up2_s]
  · rw [up2_n _ _ (by omega)]
    exact h i k (by omega)
theorem FrN.c {ci ck : Nat} {g0 g : IG} {x : Int32} (h : FrN ci ck g0 g) {i : Nat} (h1 : ¬ (102 ≤ i ∧ i ≤ 105)) (h2 : i ≠ 88) (h3 : i ≠ ci) : up2 g ci ck x i = g0 i := funext fun k => by
  rw [up2_n _ _ (by omega)]
  exact h i k (by omega)
theorem svM_10 {g : IG} {a : Nat} (h : 10 ≤ a) : svM g a = g 95 := by
  unfold svM
  rw [if_neg (by omega), if_neg (by omega), if_neg (by omega), if_neg (by omega), if_neg (by omega), if_neg (by omega), if_neg (by omega), if_neg (by omega), if_neg (by omega), if_neg (by omega)]
theorem svM_o {g : IG} {a : Nat} (h : a < 10) (h3 : a ≠ 3) : svM g a = g (92 + a) := by
  rcases (show a = 0 ∨ a = 1 ∨ a = 2 ∨ a = 4 ∨ a = 5 ∨ a = 6 ∨ a = 7 ∨ a = 8 ∨ a = 9 by omega) with rfl | rfl | rfl | rfl | rfl | rfl | rfl | rfl | rfl <;> rfl
theorem FrN.sv {w q : Nat} (hw : w = 4 ∨ w = 5 ∨ w = 7 ∨ w = 8 ∨ w = 9) {g G : IG} (h : FrN (92 + w) q g G) (x : Int32) : svM (up2 G (92 + w) q x) = up2 (svM g) w q x := by
  funext a b
  have hw3 : w ≠ 3 := by omega
  by_cases e : a = w
  · subst e
    rw [svM_o (by omega) hw3]
    by_cases hb : b = q
    · subst hb
      rw [up2_s, up2_s]
    · rw [up2_n _ _ (Or.inr hb), up2_n _ _ (Or.inr hb), svM_o (by omega) hw3]
      exact h (92 + a) b (by omega)
  · rw [up2_n _ _ (Or.inl e)]
    by_cases h3 : a = 3
    · subst h3
      show up2 G (92 + w) q x 88 10 = g 88 10
      rw [up2_n _ _ (by omega)]
      exact h 88 10 (by omega)
    by_cases h10 : a < 10
    · rw [svM_o h10 h3, svM_o h10 h3, up2_n _ _ (by omega)]
      exact h (92 + a) b (by omega)
    · rw [svM_10 (by omega), svM_10 (by omega), up2_n _ _ (by omega)]
      exact h 95 b (by omega)
theorem XM.fn {w q : Nat} (hw : w = 4 ∨ w = 5 ∨ w = 7 ∨ w = 8 ∨ w = 9) {g G : IG} {hn vn ru tc : Nat} {CS : CSt} (h : XM g hn vn ru tc CS) (hF : FrN (92 + w) q g G) (hS : SdI G tc CS) (x : Int32) (hx : w = 7 → ∃ y, y < hn ∧ x = nI y) : XM (up2 G (92 + w) q x) hn vn ru tc CS := by
  refine ⟨h.1, ?_, ?_, ?_, ?_, h.2.2.2.2.2.1, h.2.2.2.2.2.2.1, ?_, ?_, fun t ht => (h.2.2.2.2.2.2.2.2.2.1 t ht).fr (hF.c (by omega) (by omega) (by omega)) (hF.c (by omega) (by omega) (by omega)), hS.fr (funext fun k => up2_n _ _ (by omega))⟩
  · rw [up2_n _ _ (by omega), hF 88 15 (by omega)]
    exact h.2.1
  · rw [up2_n _ _ (by omega), hF 88 19 (by omega)]
    exact h.2.2.1
  · rw [hF.c (by omega) (by omega) (by omega)]
    exact h.2.2.2.1
  · rw [hF.sv hw]
    intro v hv
    by_cases e : 7 = w ∧ v = q
    · obtain ⟨rfl, rfl⟩ := e
      rw [up2_s]
      exact hx rfl
    · rw [up2_n _ _ (by omega)]
      exact h.2.2.2.2.1 v hv
  · rw [up2_n _ _ (by omega), hF 88 4 (by omega)]
    exact h.2.2.2.2.2.2.2.1
  · rw [up2_n _ _ (by omega), hF 88 3 (by omega)]
    exact h.2.2.2.2.2.2.2.2.1
theorem FrN.sv5 {g G : IG} (h : FrN 88 4 g G) (x : Int32) : svM (up2 G 88 4 x) = svM g := by
  funext a b
  by_cases h3 : a = 3
  · subst h3
    show up2 G 88 4 x 88 10 = g 88 10
    rw [up2_n _ _ (by omega)]
    exact h 88 10 (by omega)
  by_cases h10 : a < 10
  · rw [svM_o h10 h3, svM_o h10 h3, up2_n _ _ (by omega)]
    exact h (92 + a) b (by omega)
  · rw [svM_10 (by omega), svM_10 (by omega), up2_n _ _ (by omega)]
    exact h 95 b (by omega)
theorem XM.fn5 {g G : IG} {hn vn ru tc v : Nat} {CS : CSt} (h : XM g hn vn ru tc CS) (hF : FrN 88 4 g G) (hS : SdI G tc CS) (hv : v < tc) : XM (up2 G 88 4 (nI v)) hn vn v tc CS := by
  refine ⟨h.1, ?_, ?_, ?_, ?_, hv, h.2.2.2.2.2.2.1, up2_s _ _ _ _, ?_, fun t ht => (h.2.2.2.2.2.2.2.2.2.1 t ht).fr (hF.c (by omega) (by omega) (by omega)) (hF.c (by omega) (by omega) (by omega)), hS.fr (funext fun k => up2_n _ _ (by omega))⟩
  · rw [up2_n _ _ (by omega), hF 88 15 (by omega)]
    exact h.2.1
  · rw [up2_n _ _ (by omega), hF 88 19 (by omega)]
    exact h.2.2.1
  · rw [hF.c (by omega) (by omega) (by omega)]
    exact h.2.2.2.1
  · rw [hF.sv5]
    exact h.2.2.2.2.1
  · rw [up2_n _ _ (by omega), hF 88 3 (by omega)]
    exact h.2.2.2.2.2.2.2.2.1
theorem bt_1 {f : Nat → Int32} {k : Nat} (h : f k = -1) : btF f k ||| (1 <<< (nI k &&& 31)) = btF f (k + 1) := by rw [btF_s, if_pos h]
theorem bt_0 {f : Nat → Int32} {k : Nat} (h : ¬ f k = -1) : btF f k ||| (0 <<< (nI k &&& 31)) = btF f (k + 1) := by
  rw [btF_s, if_neg h]
  apply Int32.toBitVec_inj.mp
  simp
theorem seenF_b1 {M : Nat → TM} {ru : Nat} {a : Sv} {hn vn tc : Nat} {sh : Nat → Int32 × Nat × (Nat → Int32)} {k : Nat} {x1 x2 x4 : Int32} (h : inI 4 x1 = 0 ∨ inI 4 x2 = 0) : seenF M ru a hn vn tc sh k x1 x2 x4 = -2 := if_pos h
theorem seenF_b2 {M : Nat → TM} {ru : Nat} {a : Sv} {hn vn tc : Nat} {sh : Nat → Int32 × Nat × (Nat → Int32)} {k t pl : Nat} {x4 : Int32} (ht : t < 4) (hpl : pl < 4) (hk : k < 5) (h : inI (nI (sCn hn vn k)) x4 = 0) : seenF M ru a hn vn tc sh k (nI t) (nI pl) x4 = -2 := by
  unfold seenF
  rw [if_neg (show ¬ (inI 4 (nI t) = 0 ∨ inI 4 (nI pl) = 0) from fun q => q.elim (inI_1' (k := 4) ht (by omega)) (inI_1' (k := 4) hpl (by omega))), if_pos ⟨hk, h⟩]
theorem seenF_p {M : Nat → TM} {ru : Nat} {a : Sv} {hn vn tc : Nat} {sh : Nat → Int32 × Nat × (Nat → Int32)} {k t pl sz : Nat} {x4 : Int32} (ht : t < 4) (hpl : pl < 4) (h : k < 5 → ¬ inI (nI (sCn hn vn k)) x4 = 0) (h2 : (sh t).2.1 = sz) : seenF M ru a hn vn tc sh k (nI t) (nI pl) x4 = if prF (sh t).1 sz vn = 0 then (if k = 5 then ttF M a (sh t).2.2 pl sz tc else vsF (M ru) a (sh t).2.2 pl sz (sWn k) (clI x4) (mostN hn (sWn k))) else prF (sh t).1 sz vn := by
  unfold seenF
  rw [if_neg (show ¬ (inI 4 (nI t) = 0 ∨ inI 4 (nI pl) = 0) from fun q => q.elim (inI_1' (k := 4) ht (by omega)) (inI_1' (k := 4) hpl (by omega))), if_neg (fun q => h q.1 q.2), clI_n (k := t) (by omega), clI_n (k := pl) (by omega), h2]
theorem prF_1 {so : Int32} {sz vn : Nat} (h : so = -1) : prF so sz vn = -11 := if_pos h
theorem prF_2 {so : Int32} {sz vn : Nat} (h : ¬ so = -1) (h2 : ¬ sz ≤ vn) : prF so sz vn = -2 := by unfold prF; rw [if_neg h, if_neg h2]
theorem prF_0 {so : Int32} {sz vn : Nat} (h : ¬ so = -1) (h2 : sz ≤ vn) : prF so sz vn = 0 := by unfold prF; rw [if_neg h, if_pos h2]

set_option maxHeartbeats 1000000 in
set_option maxRecDepth 20000 in
theorem seen_loopM0 {l : Launch} {E : Ev} {Z : ZT} {o : Option Nat} {p : Program} {e : Env} {s : State} {m : MethodId} {args : Array Value} {below : List Frame} {meth : Method} {c : Code} {g : IG} {hn vn ru tc : Nat} {CS : CSt} (hX : XM g hn vn ru tc CS) {t pl sz n9 : Nat} (ht : t < 4) (hpl : pl < 4) (hsz : sz ≤ vn) (h113 : g 113 t = nI sz) (xw : Int32) {q : Nat} (hq : q < 8) (hm : n9 ≤ hn) (cx : Cx p s m args meth c E 115 cX6_seen 10 yX6_seen.cls (some .int)) : ∀ (j v : Nat) (G : IG) (z : Int64), v + j = n9 → FrN 99 q g G → SdI G tc CS → (∀ (G9 : IG) (z9 : Int64), FrN 99 q g G9 → SdI G9 tc CS → Go p l e (rmd 50) s m args below meth c E 115 10 Z G9 (RFo o) z9 272 [(9, .int (nI n9)), (8, .int (btF (fun v => fotF (TMx CS ru) (up2 (svM g) 7 q (nI v)) (fun k9 => g 114 (40 * t + k9)) pl sz) n9)), (0, .ref (E.2.1 88)), (1, .int (nI t)), (2, .int (nI pl)), (3, .int 0), (4, .int (nI q)), (5, .int 7), (6, .int (nI n9)), (7, .int xw)] []) → Go p l e (rmd 50) s m args below meth c E 115 10 Z G (RFo o) z 212 [(9, .int (nI v)), (8, .int (btF (fun v => fotF (TMx CS ru) (up2 (svM g) 7 q (nI v)) (fun k9 => g 114 (40 * t + k9)) pl sz) v)), (0, .ref (E.2.1 88)), (1, .int (nI t)), (2, .int (nI pl)), (3, .int 0), (4, .int (nI q)), (5, .int 7), (6, .int (nI n9)), (7, .int xw)] [] := by
  have hb := hX.1
  have htc6 := hX.2.2.2.2.2.2.1
  intro j
  induction j with
  | zero =>
    intro v G z hk hF hS kk
    have hv : v = n9 := by omega
    subst hv
    refine go_iload (pc' := 214) cx dX6_seen_212 rfl rfl ?_
    refine go_iload (pc' := 216) cx dX6_seen_214 rfl rfl ?_
    refine go_icmp_ge (pc' := 219) cx 272 dX6_seen_216 rfl rfl (fun _ => ?_) (fun hh9 => absurd (Int32.le_refl _) hh9)
    exact kk G z hF hS
  | succ j ih =>
    intro v G z hk hF hS kk
    refine go_iload (pc' := 214) cx dX6_seen_212 rfl rfl ?_
    refine go_iload (pc' := 216) cx dX6_seen_214 rfl rfl ?_
    refine go_icmp_ge (pc' := 219) cx 272 dX6_seen_216 rfl rfl (fun hh9 => absurd ((nI_leI (a := n9) (b := v) (by omega) (by omega)).mp hh9) (by omega)) (fun _ => ?_)
    refine go_iload_n (pc' := 220) cx dX6_seen_219 rfl rfl ?_
    refine go_iconst (pc' := 221) cx 5 dX6_seen_220 rfl rfl ?_
    refine go_icmp_ne (pc' := 224) cx 233 dX6_seen_221 rfl rfl (fun _ => ?_) (fun hh => absurd hh (by decide))
    refine go_aload_n (pc' := 234) cx dX6_seen_233 rfl rfl ?_
    refine go_iload (pc' := 236) cx dX6_seen_234 rfl rfl ?_
    refine go_iload (pc' := 238) cx dX6_seen_236 rfl rfl ?_
    refine go_iload (pc' := 240) cx dX6_seen_238 rfl rfl ?_
    refine go_cVu (pc' := 243) cx (c_X6_lays7 l E (g := G) hq (nI v)) mX6_lays lX6_140 dX6_seen_240 kq88 (ltn rfl) (ltn rfl) rfl rfl rfl rfl (ltn rfl) (Nat.le_of_ble_eq_true rfl) (Nat.le_of_ble_eq_true rfl) rfl ?_
    refine go_iload (pc' := 245) cx dX6_seen_243 rfl rfl ?_
    refine go_aload_n (pc' := 246) cx dX6_seen_245 rfl rfl ?_
    refine go_iload_n (pc' := 247) cx dX6_seen_246 rfl rfl ?_
    refine go_iload_n (pc' := 248) cx dX6_seen_247 rfl rfl ?_
    have hXn : XM (up2 G 99 q (nI v)) hn vn ru tc CS := XM.fn (w := 7) (q := q) (by omega) hX hF hS (nI v) (fun _ => ⟨v, by omega, rfl⟩)
    have esv : svM (up2 G 99 q (nI v)) = up2 (svM g) 7 q (nI v) := FrN.sv (w := 7) (q := q) (by omega) hF (nI v)
    have e114 : (up2 G 99 q (nI v)) 114 = g 114 := hF.c (by omega) (by omega) (by omega)
    refine go_cVIz (pc' := 251) cx (c_X6_unlikeAt l E (g := (up2 G 99 q (nI v))) hXn (t := t) (pl := pl) (sz := sz) ht hpl hsz ((congrFun (hF.c (x := nI v) (by omega) (by omega) (by omega) : (up2 G 99 q (nI v)) 113 = g 113) t).trans h113)) mX6_unlikeAt lX6_438 dX6_seen_248 kq88 (ltn rfl) (ltn rfl) rfl rfl rfl rfl (ltn rfl) (Nat.le_of_ble_eq_true rfl) (Nat.le_of_ble_eq_true rfl) rfl (fun xu GU zu hu => ?_)
    obtain ⟨eu, fu, su⟩ := hu
    have ef : (fun v => fotF (TMx CS ru) (up2 (svM g) 7 q (nI v)) (fun k9 => g 114 (40 * t + k9)) pl sz) v = xu := by
      rw [eu, esv, e114]
    have hF2 : FrN 99 q g GU := hF.step fu
    refine go_iconst (pc' := 252) cx (-1) dX6_seen_251 rfl rfl ?_
    refine go_icmp_ne (pc' := 255) cx 259 dX6_seen_252 rfl rfl (fun c252 => ?_) (fun c252 => ?_)
    · refine go_iconst (pc' := 260) cx 0 dX6_seen_259 rfl rfl ?_
      refine go_iload (pc' := 262) cx dX6_seen_260 rfl rfl ?_
      refine go_ishl (pc' := 263) cx dX6_seen_262 rfl ?_
      refine go_ior (pc' := 264) cx dX6_seen_263 rfl ?_
      refine go_val (w := .int (btF (fun v => fotF (TMx CS ru) (up2 (svM g) 7 q (nI v)) (fun k9 => g 114 (40 * t + k9)) pl sz) (v + 1))) (congrArg Value.int (bt_0 (f := (fun v => fotF (TMx CS ru) (up2 (svM g) 7 q (nI v)) (fun k9 => g 114 (40 * t + k9)) pl sz)) (k := v) (fun q9 => c252 (ef.symm.trans q9)))) ?_
      refine go_istore (pc' := 266) cx dX6_seen_264 (ltn rfl) [(8, .int (btF (fun v => fotF (TMx CS ru) (up2 (svM g) 7 q (nI v)) (fun k9 => g 114 (40 * t + k9)) pl sz) (v + 1))), (9, .int (nI v)), (0, .ref (E.2.1 88)), (1, .int (nI t)), (2, .int (nI pl)), (3, .int 0), (4, .int (nI q)), (5, .int 7), (6, .int (nI n9)), (7, .int xw)] rfl rfl ?_
      refine go_iinc (pc' := 269) cx (nI (v + 1)) dX6_seen_266 rfl (nI_1 v) (ltn rfl) [(9, .int (nI (v + 1))), (8, .int (btF (fun v => fotF (TMx CS ru) (up2 (svM g) 7 q (nI v)) (fun k9 => g 114 (40 * t + k9)) pl sz) (v + 1))), (0, .ref (E.2.1 88)), (1, .int (nI t)), (2, .int (nI pl)), (3, .int 0), (4, .int (nI q)), (5, .int 7), (6, .int (nI n9)), (7, .int xw)] rfl rfl ?_
      refine go_goto cx 212 dX6_seen_269 rfl ?_
      exact ih (v + 1) GU zu (by omega) hF2 su kk
    · refine go_iconst (pc' := 256) cx 1 dX6_seen_255 rfl rfl ?_
      refine go_goto cx 260 dX6_seen_256 rfl ?_
      refine go_iload (pc' := 262) cx dX6_seen_260 rfl rfl ?_
      refine go_ishl (pc' := 263) cx dX6_seen_262 rfl ?_
      refine go_ior (pc' := 264) cx dX6_seen_263 rfl ?_
      refine go_val (w := .int (btF (fun v => fotF (TMx CS ru) (up2 (svM g) 7 q (nI v)) (fun k9 => g 114 (40 * t + k9)) pl sz) (v + 1))) (congrArg Value.int (bt_1 (f := (fun v => fotF (TMx CS ru) (up2 (svM g) 7 q (nI v)) (fun k9 => g 114 (40 * t + k9)) pl sz)) (k := v) (ef.trans c252))) ?_
      refine go_istore (pc' := 266) cx dX6_seen_264 (ltn rfl) [(8, .int (btF (fun v => fotF (TMx CS ru) (up2 (svM g) 7 q (nI v)) (fun k9 => g 114 (40 * t + k9)) pl sz) (v + 1))), (9, .int (nI v)), (0, .ref (E.2.1 88)), (1, .int (nI t)), (2, .int (nI pl)), (3, .int 0), (4, .int (nI q)), (5, .int 7), (6, .int (nI n9)), (7, .int xw)] rfl rfl ?_
      refine go_iinc (pc' := 269) cx (nI (v + 1)) dX6_seen_266 rfl (nI_1 v) (ltn rfl) [(9, .int (nI (v + 1))), (8, .int (btF (fun v => fotF (TMx CS ru) (up2 (svM g) 7 q (nI v)) (fun k9 => g 114 (40 * t + k9)) pl sz) (v + 1))), (0, .ref (E.2.1 88)), (1, .int (nI t)), (2, .int (nI pl)), (3, .int 0), (4, .int (nI q)), (5, .int 7), (6, .int (nI n9)), (7, .int xw)] rfl rfl ?_
      refine go_goto cx 212 dX6_seen_269 rfl ?_
      exact ih (v + 1) GU zu (by omega) hF2 su kk

set_option maxHeartbeats 1000000 in
set_option maxRecDepth 20000 in
theorem c_X6_seen_0 (l : Launch) (E : Ev) {g : IG} {o : Option Nat} {z : Int64} {hn vn ru tc : Nat} {CS : CSt} (hX : XM g hn vn ru tc CS) (hSh : ShMX g) (x1 x2 x4 : Int32) : Ct l E 115 yX6_seen cX6_seen 10 (some .int) 50 [.ref (E.2.1 88), .int x1, .int x2, .int 0, .int x4] g (RFo o) z (ZIz (RFo o) (fun x g1 z1 => x = seenF (TMx CS) ru (svM g) hn vn tc (shM g) 0 x1 x2 x4 ∧ FrK g g1 ∧ SdI g1 tc CS)) := by
  refine Ct.of (lv0 := [(0, .ref (E.2.1 88)), (1, .int x1), (2, .int x2), (3, .int 0), (4, .int x4)]) (by decide) (Nat.le_of_ble_eq_true rfl) rfl ?_
  intro p e s m below meth c cx
  have hb := hX.1
  have hS0 := hX.2.2.2.2.2.2.2.2.2.2
  have htc6 := hX.2.2.2.2.2.2.1
  refine go_iload_n (pc' := 1) cx dX6_seen_0 rfl rfl ?_
  refine go_cSi (pc' := 4) cx (c_X6_isSheet l E (g := g) x1) mX6_isSheet lX6_435 dX6_seen_1 rfl rfl rfl (ltn rfl) (Nat.le_of_ble_eq_true rfl) (Nat.le_of_ble_eq_true rfl) rfl ?_
  refine go_if_eq (pc' := 7) cx 63 dX6_seen_4 rfl rfl (fun c4 => ?_) (fun c4 => ?_)
  · refine go_bipush (pc' := 65) cx (-2) dX6_seen_63 rfl rfl ?_
    refine go_iret cx rfl dX6_seen_65 ?_
    exact ZIz.mk ⟨(seenF_b1 (k := 0) (Or.inl c4)).symm, FrK.rf, hS0⟩
  · refine go_iload_n (pc' := 8) cx dX6_seen_7 rfl rfl ?_
    refine go_cSi (pc' := 11) cx (c_X6_isPlace l E (g := g) x2) mX6_isPlace lX6_118 dX6_seen_8 rfl rfl rfl (ltn rfl) (Nat.le_of_ble_eq_true rfl) (Nat.le_of_ble_eq_true rfl) rfl ?_
    refine go_if_eq (pc' := 14) cx 63 dX6_seen_11 rfl rfl (fun c11 => ?_) (fun c11 => ?_)
    · refine go_bipush (pc' := 65) cx (-2) dX6_seen_63 rfl rfl ?_
      refine go_iret cx rfl dX6_seen_65 ?_
      exact ZIz.mk ⟨(seenF_b1 (k := 0) (Or.inr c11)).symm, FrK.rf, hS0⟩
    · refine go_iload_n (pc' := 15) cx dX6_seen_14 rfl rfl ?_
      refine go_i2l (pc' := 16) cx dX6_seen_15 rfl ?_
      refine go_lconst (pc' := 17) cx 0 dX6_seen_16 rfl rfl ?_
      refine go_val (w := .long (((0 : Int32)).toInt64)) (congrArg Value.long (by decide)) ?_
      refine go_ldc2 (pc' := 20) cx 5 kX6_144 dX6_seen_17 rfl ?_
      refine go_val (w := .long (((5 : Int32)).toInt64)) (congrArg Value.long (by decide)) ?_
      refine go_cSi (pc' := 23) cx (c_X6_in l E (g := g) (0 : Int32) (0 : Int32) (5 : Int32)) mX6_in lX6_108 dX6_seen_20 rfl rfl rfl (ltn rfl) (Nat.le_of_ble_eq_true rfl) (Nat.le_of_ble_eq_true rfl) rfl ?_
      refine go_if_eq (pc' := 26) cx 63 dX6_seen_23 rfl rfl (fun hh9 => absurd hh9 (by decide)) (fun _ => ?_)
      refine go_iload_n (pc' := 27) cx dX6_seen_26 rfl rfl ?_
      refine go_iconst (pc' := 28) cx 3 dX6_seen_27 rfl rfl ?_
      refine go_icmp_ge (pc' := 31) cx 40 dX6_seen_28 rfl rfl (fun hh => absurd hh (by decide)) (fun _ => ?_)
      refine go_aload_n (pc' := 32) cx dX6_seen_31 rfl rfl ?_
      refine go_iload (pc' := 34) cx dX6_seen_32 rfl rfl ?_
      refine go_cVi (pc' := 37) cx (c_X6_isVisit l E (g := g) (vn := vn) hX.2.2.1 (by omega) x4) mX6_isVisit lX6_125 dX6_seen_34 kq88 (ltn rfl) (ltn rfl) rfl rfl rfl rfl (ltn rfl) (Nat.le_of_ble_eq_true rfl) (Nat.le_of_ble_eq_true rfl) rfl ?_
      refine go_if_eq (pc' := 40) cx 63 dX6_seen_37 rfl rfl (fun c37 => ?_) (fun c37 => ?_)
      · refine go_bipush (pc' := 65) cx (-2) dX6_seen_63 rfl rfl ?_
        refine go_iret cx rfl dX6_seen_65 ?_
        obtain ⟨t, ht, et⟩ := in_ok (k := 4) (by omega) c4
        subst et
        obtain ⟨pl, hpl, epl⟩ := in_ok (k := 4) (by omega) c11
        subst epl
        exact ZIz.mk ⟨(seenF_b2 (M := TMx CS) (ru := ru) (a := svM g) (hn := hn) (vn := vn) (tc := tc) (sh := shM g) (k := 0) ht hpl (by omega) (show inI (nI (sCn hn vn 0)) x4 = 0 from c37)).symm, FrK.rf, hS0⟩
      · refine go_iload_n (pc' := 41) cx dX6_seen_40 rfl rfl ?_
        refine go_i2l (pc' := 42) cx dX6_seen_41 rfl ?_
        refine go_ldc2 (pc' := 45) cx 3 kX6_106 dX6_seen_42 rfl ?_
        refine go_val (w := .long (((3 : Int32)).toInt64)) (congrArg Value.long (by decide)) ?_
        refine go_ldc2 (pc' := 48) cx 4 kX6_424 dX6_seen_45 rfl ?_
        refine go_val (w := .long (((4 : Int32)).toInt64)) (congrArg Value.long (by decide)) ?_
        refine go_cSi (pc' := 51) cx (c_X6_in l E (g := g) (0 : Int32) (3 : Int32) (4 : Int32)) mX6_in lX6_108 dX6_seen_48 rfl rfl rfl (ltn rfl) (Nat.le_of_ble_eq_true rfl) (Nat.le_of_ble_eq_true rfl) rfl ?_
        refine go_if_eq (pc' := 54) cx 66 dX6_seen_51 rfl rfl (fun _ => ?_) (fun hh9 => absurd (by decide) hh9)
        obtain ⟨t, ht, et⟩ := in_ok (k := 4) (by omega) c4
        subst et
        have clt := clI_n (k := t) (by omega)
        obtain ⟨pl, hpl, epl⟩ := in_ok (k := 4) (by omega) c11
        subst epl
        have clpl := clI_n (k := pl) (by omega)
        obtain ⟨q, hq, eq⟩ := in_ok (k := vn) (by omega) c37
        subst eq
        have clq := clI_n (k := q) (by omega)
        refine go_aload_n (pc' := 67) cx dX6_seen_66 rfl rfl ?_
        refine go_getr (pc' := 70) cx 111 fX6_86 dX6_seen_67 kq88 (ltn rfl) (ltn rfl) rfl rfl rfl ?_
        refine go_iload_n (pc' := 71) cx dX6_seen_70 rfl rfl ?_
        refine go_zald (pc' := 72) cx (g 111 t) dX6_seen_71 kq111 (ltn rfl) (vpi (k := t) (a := 4) ht rfl rfl) (congrArg (g 111) (cli (k := t) (a := 4) ht rfl)) rfl ?_
        refine go_if_ne (pc' := 75) cx 78 dX6_seen_72 rfl rfl (fun c72 => ?_) (fun c72 => ?_)
        · obtain ⟨sz, hsz, h113⟩ := hSh t ht c72
          refine go_aload_n (pc' := 79) cx dX6_seen_78 rfl rfl ?_
          refine go_getr (pc' := 82) cx 113 fX6_93 dX6_seen_79 kq88 (ltn rfl) (ltn rfl) rfl rfl rfl ?_
          refine go_iload_n (pc' := 83) cx dX6_seen_82 rfl rfl ?_
          refine go_iald (pc' := 84) cx (nI sz) dX6_seen_83 kq113 (ltn rfl) (vpi (k := t) (a := 4) ht rfl rfl) ((congrArg (g 113) (cli (k := t) (a := 4) ht rfl)).trans h113) rfl ?_
          refine go_aload_n (pc' := 85) cx dX6_seen_84 rfl rfl ?_
          refine go_geti (pc' := 88) cx (nI vn) fX6_115 dX6_seen_85 kq88 (ltn rfl) (ltn rfl) rfl hX.2.2.1 rfl ?_
          refine go_icmp_le (pc' := 91) cx 94 dX6_seen_88 rfl rfl (fun c88 => ?_) (fun c88 => ?_)
          · have c88n := Int32.not_lt.mpr c88
            have hsv : sz ≤ vn := (nI_leI (by omega) (by omega)).mp c88
            refine go_iload_n (pc' := 95) cx dX6_seen_94 rfl rfl ?_
            refine go_if_ne (pc' := 98) cx 103 dX6_seen_95 rfl rfl (fun hh => absurd hh (by decide)) (fun _ => ?_)
            refine go_bipush (pc' := 100) cx 7 dX6_seen_98 rfl rfl ?_
            refine go_goto cx 126 dX6_seen_100 rfl ?_
            refine go_istore (pc' := 128) cx dX6_seen_126 (ltn rfl) [(5, .int 7), (0, .ref (E.2.1 88)), (1, .int (nI t)), (2, .int (nI pl)), (3, .int 0), (4, .int (nI q))] rfl rfl ?_
            refine go_iload_n (pc' := 129) cx dX6_seen_128 rfl rfl ?_
            refine go_if_ne (pc' := 132) cx 139 dX6_seen_129 rfl rfl (fun hh => absurd hh (by decide)) (fun _ => ?_)
            refine go_aload_n (pc' := 133) cx dX6_seen_132 rfl rfl ?_
            refine go_geti (pc' := 136) cx (nI hn) fX6_112 dX6_seen_133 kq88 (ltn rfl) (ltn rfl) rfl hX.2.1 rfl ?_
            refine go_goto cx 182 dX6_seen_136 rfl ?_
            refine go_istore (pc' := 184) cx dX6_seen_182 (ltn rfl) [(6, .int (nI hn)), (5, .int 7), (0, .ref (E.2.1 88)), (1, .int (nI t)), (2, .int (nI pl)), (3, .int 0), (4, .int (nI q))] rfl rfl ?_
            refine go_iload_n (pc' := 185) cx dX6_seen_184 rfl rfl ?_
            refine go_iconst (pc' := 186) cx 5 dX6_seen_185 rfl rfl ?_
            refine go_icmp_ne (pc' := 189) cx 196 dX6_seen_186 rfl rfl (fun _ => ?_) (fun hh => absurd hh (by decide))
            refine go_aload_n (pc' := 197) cx dX6_seen_196 rfl rfl ?_
            refine go_iload (pc' := 199) cx dX6_seen_197 rfl rfl ?_
            refine go_iload (pc' := 201) cx dX6_seen_199 rfl rfl ?_
            refine go_cVI (pc' := 204) cx (c_X6_told l E (g := g) hb.1 hb.2 hX.2.1 hX.2.2.1 (nI q) 7) mX6_told lX6_136 dX6_seen_201 kq88 (ltn rfl) (ltn rfl) rfl rfl rfl rfl (ltn rfl) (Nat.le_of_ble_eq_true rfl) (Nat.le_of_ble_eq_true rfl) rfl (fun xt gt htl => ?_)
            obtain ⟨eg, htl⟩ := htl
            subst eg
            have ex : xt = gt 99 q := by
              rcases htl with ⟨-, h9 | h9⟩ | ⟨w8, q8, h1, h2, h3, h4, -, h5⟩
              · exact absurd h9 (by decide)
              · exact absurd h9 (show ¬ inI (nI vn) (nI q) = 0 from c37)
              · have e8 : w8 = 7 := ((nI_eq (a := 7) (b := w8) (by omega) (by omega)).mp h3).symm
                subst e8
                rw [h5]
                rw [(nI_eq (a := q) (b := q8) (by omega) (by omega)).mp (h4 (by omega))]
                rfl
            refine go_istore (pc' := 206) cx dX6_seen_204 (ltn rfl) [(7, .int xt), (6, .int (nI hn)), (5, .int 7), (0, .ref (E.2.1 88)), (1, .int (nI t)), (2, .int (nI pl)), (3, .int 0), (4, .int (nI q))] rfl rfl ?_
            refine go_iconst (pc' := 207) cx 0 dX6_seen_206 rfl rfl ?_
            refine go_istore (pc' := 209) cx dX6_seen_207 (ltn rfl) [(8, .int 0), (7, .int xt), (6, .int (nI hn)), (5, .int 7), (0, .ref (E.2.1 88)), (1, .int (nI t)), (2, .int (nI pl)), (3, .int 0), (4, .int (nI q))] rfl rfl ?_
            refine go_iconst (pc' := 210) cx 0 dX6_seen_209 rfl rfl ?_
            refine go_istore (pc' := 212) cx dX6_seen_210 (ltn rfl) [(9, .int 0), (8, .int 0), (7, .int xt), (6, .int (nI hn)), (5, .int 7), (0, .ref (E.2.1 88)), (1, .int (nI t)), (2, .int (nI pl)), (3, .int 0), (4, .int (nI q))] rfl rfl ?_
            refine go_sub [0, 1, 5, 6, 7, 8, 9, 4, 3, 2] [(9, .int (nI 0)), (8, .int (btF (fun v => fotF (TMx CS ru) (up2 (svM gt) 7 q (nI v)) (fun k9 => gt 114 (40 * t + k9)) pl sz) 0)), (0, .ref (E.2.1 88)), (1, .int (nI t)), (2, .int (nI pl)), (3, .int 0), (4, .int (nI q)), (5, .int 7), (6, .int (nI hn)), (7, .int xt)] rfl ?_
            refine seen_loopM0 (g := gt) hX ht hpl hsv h113 xt (by omega) (Nat.le_refl _) cx hn 0 gt z (by omega) FrN.rf hS0 (fun G9 z9 f9 s9 => ?_)
            refine go_iload_n (pc' := 273) cx dX6_seen_272 rfl rfl ?_
            refine go_iconst (pc' := 274) cx 5 dX6_seen_273 rfl rfl ?_
            refine go_icmp_ne (pc' := 277) cx 286 dX6_seen_274 rfl rfl (fun _ => ?_) (fun hh => absurd hh (by decide))
            refine go_aload_n (pc' := 287) cx dX6_seen_286 rfl rfl ?_
            refine go_iload (pc' := 289) cx dX6_seen_287 rfl rfl ?_
            refine go_iload (pc' := 291) cx dX6_seen_289 rfl rfl ?_
            refine go_iload (pc' := 293) cx dX6_seen_291 rfl rfl ?_
            refine go_cVu (pc' := 296) cx (c_X6_lays7 l E (g := G9) (by omega) xt) mX6_lays lX6_140 dX6_seen_293 kq88 (ltn rfl) (ltn rfl) rfl rfl rfl rfl (ltn rfl) (Nat.le_of_ble_eq_true rfl) (Nat.le_of_ble_eq_true rfl) rfl ?_
            refine go_iload (pc' := 298) cx dX6_seen_296 rfl rfl ?_
            refine go_iret cx rfl dX6_seen_298 ?_
            exact ZIz.mk ⟨by
              rw [seenF_p (M := TMx CS) (ru := ru) (a := svM gt) (hn := hn) (vn := vn) (tc := tc) (sh := shM gt) (k := 0) ht hpl (fun _ => (show ¬ inI (nI (sCn hn vn 0)) (nI q) = 0 from c37)) (shM_n h113 hsz), if_pos (prF_0 (shM_1 c72) hsv), if_neg (by omega), clq]
              rfl, by rw [ex]; exact f9.back, s9.fr (funext fun k9 => up2_n _ _ (by omega))⟩
          · have c88n := Int32.not_le.mp c88
            refine go_bipush (pc' := 93) cx (-2) dX6_seen_91 rfl rfl ?_
            refine go_iret cx rfl dX6_seen_93 ?_
            exact ZIz.mk ⟨by
              rw [seenF_p (M := TMx CS) (ru := ru) (a := svM g) (hn := hn) (vn := vn) (tc := tc) (sh := shM g) (k := 0) ht hpl (fun _ => (show ¬ inI (nI (sCn hn vn 0)) (nI q) = 0 from c37)) (shM_n h113 hsz), prF_2 (shM_1 c72) (fun q9 => c88 ((nI_leI (by omega) (by omega)).mpr q9))]
              rfl, FrK.rf, hS0⟩
        · refine go_bipush (pc' := 77) cx (-11) dX6_seen_75 rfl rfl ?_
          refine go_iret cx rfl dX6_seen_77 ?_
          exact ZIz.mk ⟨by
            rw [seenF_p (M := TMx CS) (ru := ru) (a := svM g) (hn := hn) (vn := vn) (tc := tc) (sh := shM g) (k := 0) ht hpl (fun _ => (show ¬ inI (nI (sCn hn vn 0)) (nI q) = 0 from c37)) rfl, prF_1 (shM_0 c72)]
            rfl, FrK.rf, hS0⟩

set_option maxHeartbeats 1000000 in
set_option maxRecDepth 20000 in
theorem seen_loopM1 {l : Launch} {E : Ev} {Z : ZT} {o : Option Nat} {p : Program} {e : Env} {s : State} {m : MethodId} {args : Array Value} {below : List Frame} {meth : Method} {c : Code} {g : IG} {hn vn ru tc : Nat} {CS : CSt} (hX : XM g hn vn ru tc CS) {t pl sz n9 : Nat} (ht : t < 4) (hpl : pl < 4) (hsz : sz ≤ vn) (h113 : g 113 t = nI sz) (xw : Int32) {q : Nat} (hq : q < 8) (hm : n9 ≤ 21) (cx : Cx p s m args meth c E 115 cX6_seen 10 yX6_seen.cls (some .int)) : ∀ (j v : Nat) (G : IG) (z : Int64), v + j = n9 → FrN 101 q g G → SdI G tc CS → (∀ (G9 : IG) (z9 : Int64), FrN 101 q g G9 → SdI G9 tc CS → Go p l e (rmd 50) s m args below meth c E 115 10 Z G9 (RFo o) z9 272 [(9, .int (nI n9)), (8, .int (btF (fun v => fotF (TMx CS ru) (up2 (svM g) 9 q (nI v)) (fun k9 => g 114 (40 * t + k9)) pl sz) n9)), (0, .ref (E.2.1 88)), (1, .int (nI t)), (2, .int (nI pl)), (3, .int 1), (4, .int (nI q)), (5, .int 9), (6, .int (nI n9)), (7, .int xw)] []) → Go p l e (rmd 50) s m args below meth c E 115 10 Z G (RFo o) z 212 [(9, .int (nI v)), (8, .int (btF (fun v => fotF (TMx CS ru) (up2 (svM g) 9 q (nI v)) (fun k9 => g 114 (40 * t + k9)) pl sz) v)), (0, .ref (E.2.1 88)), (1, .int (nI t)), (2, .int (nI pl)), (3, .int 1), (4, .int (nI q)), (5, .int 9), (6, .int (nI n9)), (7, .int xw)] [] := by
  have hb := hX.1
  have htc6 := hX.2.2.2.2.2.2.1
  intro j
  induction j with
  | zero =>
    intro v G z hk hF hS kk
    have hv : v = n9 := by omega
    subst hv
    refine go_iload (pc' := 214) cx dX6_seen_212 rfl rfl ?_
    refine go_iload (pc' := 216) cx dX6_seen_214 rfl rfl ?_
    refine go_icmp_ge (pc' := 219) cx 272 dX6_seen_216 rfl rfl (fun _ => ?_) (fun hh9 => absurd (Int32.le_refl _) hh9)
    exact kk G z hF hS
  | succ j ih =>
    intro v G z hk hF hS kk
    refine go_iload (pc' := 214) cx dX6_seen_212 rfl rfl ?_
    refine go_iload (pc' := 216) cx dX6_seen_214 rfl rfl ?_
    refine go_icmp_ge (pc' := 219) cx 272 dX6_seen_216 rfl rfl (fun hh9 => absurd ((nI_leI (a := n9) (b := v) (by omega) (by omega)).mp hh9) (by omega)) (fun _ => ?_)
    refine go_iload_n (pc' := 220) cx dX6_seen_219 rfl rfl ?_
    refine go_iconst (pc' := 221) cx 5 dX6_seen_220 rfl rfl ?_
    refine go_icmp_ne (pc' := 224) cx 233 dX6_seen_221 rfl rfl (fun _ => ?_) (fun hh => absurd hh (by decide))
    refine go_aload_n (pc' := 234) cx dX6_seen_233 rfl rfl ?_
    refine go_iload (pc' := 236) cx dX6_seen_234 rfl rfl ?_
    refine go_iload (pc' := 238) cx dX6_seen_236 rfl rfl ?_
    refine go_iload (pc' := 240) cx dX6_seen_238 rfl rfl ?_
    refine go_cVu (pc' := 243) cx (c_X6_lays9 l E (g := G) hq (nI v)) mX6_lays lX6_140 dX6_seen_240 kq88 (ltn rfl) (ltn rfl) rfl rfl rfl rfl (ltn rfl) (Nat.le_of_ble_eq_true rfl) (Nat.le_of_ble_eq_true rfl) rfl ?_
    refine go_iload (pc' := 245) cx dX6_seen_243 rfl rfl ?_
    refine go_aload_n (pc' := 246) cx dX6_seen_245 rfl rfl ?_
    refine go_iload_n (pc' := 247) cx dX6_seen_246 rfl rfl ?_
    refine go_iload_n (pc' := 248) cx dX6_seen_247 rfl rfl ?_
    have hXn : XM (up2 G 101 q (nI v)) hn vn ru tc CS := XM.fn (w := 9) (q := q) (by omega) hX hF hS (nI v) (fun h9 => absurd h9 (by decide))
    have esv : svM (up2 G 101 q (nI v)) = up2 (svM g) 9 q (nI v) := FrN.sv (w := 9) (q := q) (by omega) hF (nI v)
    have e114 : (up2 G 101 q (nI v)) 114 = g 114 := hF.c (by omega) (by omega) (by omega)
    refine go_cVIz (pc' := 251) cx (c_X6_unlikeAt l E (g := (up2 G 101 q (nI v))) hXn (t := t) (pl := pl) (sz := sz) ht hpl hsz ((congrFun (hF.c (x := nI v) (by omega) (by omega) (by omega) : (up2 G 101 q (nI v)) 113 = g 113) t).trans h113)) mX6_unlikeAt lX6_438 dX6_seen_248 kq88 (ltn rfl) (ltn rfl) rfl rfl rfl rfl (ltn rfl) (Nat.le_of_ble_eq_true rfl) (Nat.le_of_ble_eq_true rfl) rfl (fun xu GU zu hu => ?_)
    obtain ⟨eu, fu, su⟩ := hu
    have ef : (fun v => fotF (TMx CS ru) (up2 (svM g) 9 q (nI v)) (fun k9 => g 114 (40 * t + k9)) pl sz) v = xu := by
      rw [eu, esv, e114]
    have hF2 : FrN 101 q g GU := hF.step fu
    refine go_iconst (pc' := 252) cx (-1) dX6_seen_251 rfl rfl ?_
    refine go_icmp_ne (pc' := 255) cx 259 dX6_seen_252 rfl rfl (fun c252 => ?_) (fun c252 => ?_)
    · refine go_iconst (pc' := 260) cx 0 dX6_seen_259 rfl rfl ?_
      refine go_iload (pc' := 262) cx dX6_seen_260 rfl rfl ?_
      refine go_ishl (pc' := 263) cx dX6_seen_262 rfl ?_
      refine go_ior (pc' := 264) cx dX6_seen_263 rfl ?_
      refine go_val (w := .int (btF (fun v => fotF (TMx CS ru) (up2 (svM g) 9 q (nI v)) (fun k9 => g 114 (40 * t + k9)) pl sz) (v + 1))) (congrArg Value.int (bt_0 (f := (fun v => fotF (TMx CS ru) (up2 (svM g) 9 q (nI v)) (fun k9 => g 114 (40 * t + k9)) pl sz)) (k := v) (fun q9 => c252 (ef.symm.trans q9)))) ?_
      refine go_istore (pc' := 266) cx dX6_seen_264 (ltn rfl) [(8, .int (btF (fun v => fotF (TMx CS ru) (up2 (svM g) 9 q (nI v)) (fun k9 => g 114 (40 * t + k9)) pl sz) (v + 1))), (9, .int (nI v)), (0, .ref (E.2.1 88)), (1, .int (nI t)), (2, .int (nI pl)), (3, .int 1), (4, .int (nI q)), (5, .int 9), (6, .int (nI n9)), (7, .int xw)] rfl rfl ?_
      refine go_iinc (pc' := 269) cx (nI (v + 1)) dX6_seen_266 rfl (nI_1 v) (ltn rfl) [(9, .int (nI (v + 1))), (8, .int (btF (fun v => fotF (TMx CS ru) (up2 (svM g) 9 q (nI v)) (fun k9 => g 114 (40 * t + k9)) pl sz) (v + 1))), (0, .ref (E.2.1 88)), (1, .int (nI t)), (2, .int (nI pl)), (3, .int 1), (4, .int (nI q)), (5, .int 9), (6, .int (nI n9)), (7, .int xw)] rfl rfl ?_
      refine go_goto cx 212 dX6_seen_269 rfl ?_
      exact ih (v + 1) GU zu (by omega) hF2 su kk
    · refine go_iconst (pc' := 256) cx 1 dX6_seen_255 rfl rfl ?_
      refine go_goto cx 260 dX6_seen_256 rfl ?_
      refine go_iload (pc' := 262) cx dX6_seen_260 rfl rfl ?_
      refine go_ishl (pc' := 263) cx dX6_seen_262 rfl ?_
      refine go_ior (pc' := 264) cx dX6_seen_263 rfl ?_
      refine go_val (w := .int (btF (fun v => fotF (TMx CS ru) (up2 (svM g) 9 q (nI v)) (fun k9 => g 114 (40 * t + k9)) pl sz) (v + 1))) (congrArg Value.int (bt_1 (f := (fun v => fotF (TMx CS ru) (up2 (svM g) 9 q (nI v)) (fun k9 => g 114 (40 * t + k9)) pl sz)) (k := v) (ef.trans c252))) ?_
      refine go_istore (pc' := 266) cx dX6_seen_264 (ltn rfl) [(8, .int (btF (fun v => fotF (TMx CS ru) (up2 (svM g) 9 q (nI v)) (fun k9 => g 114 (40 * t + k9)) pl sz) (v + 1))), (9, .int (nI v)), (0, .ref (E.2.1 88)), (1, .int (nI t)), (2, .int (nI pl)), (3, .int 1), (4, .int (nI q)), (5, .int 9), (6, .int (nI n9)), (7, .int xw)] rfl rfl ?_
      refine go_iinc (pc' := 269) cx (nI (v + 1)) dX6_seen_266 rfl (nI_1 v) (ltn rfl) [(9, .int (nI (v + 1))), (8, .int (btF (fun v => fotF (TMx CS ru) (up2 (svM g) 9 q (nI v)) (fun k9 => g 114 (40 * t + k9)) pl sz) (v + 1))), (0, .ref (E.2.1 88)), (1, .int (nI t)), (2, .int (nI pl)), (3, .int 1), (4, .int (nI q)), (5, .int 9), (6, .int (nI n9)), (7, .int xw)] rfl rfl ?_
      refine go_goto cx 212 dX6_seen_269 rfl ?_
      exact ih (v + 1) GU zu (by omega) hF2 su kk

set_option maxHeartbeats 1000000 in
set_option maxRecDepth 20000 in
theorem c_X6_seen_1 (l : Launch) (E : Ev) {g : IG} {o : Option Nat} {z : Int64} {hn vn ru tc : Nat} {CS : CSt} (hX : XM g hn vn ru tc CS) (hSh : ShMX g) (x1 x2 x4 : Int32) : Ct l E 115 yX6_seen cX6_seen 10 (some .int) 50 [.ref (E.2.1 88), .int x1, .int x2, .int 1, .int x4] g (RFo o) z (ZIz (RFo o) (fun x g1 z1 => x = seenF (TMx CS) ru (svM g) hn vn tc (shM g) 1 x1 x2 x4 ∧ FrK g g1 ∧ SdI g1 tc CS)) := by
  refine Ct.of (lv0 := [(0, .ref (E.2.1 88)), (1, .int x1), (2, .int x2), (3, .int 1), (4, .int x4)]) (by decide) (Nat.le_of_ble_eq_true rfl) rfl ?_
  intro p e s m below meth c cx
  have hb := hX.1
  have hS0 := hX.2.2.2.2.2.2.2.2.2.2
  have htc6 := hX.2.2.2.2.2.2.1
  refine go_iload_n (pc' := 1) cx dX6_seen_0 rfl rfl ?_
  refine go_cSi (pc' := 4) cx (c_X6_isSheet l E (g := g) x1) mX6_isSheet lX6_435 dX6_seen_1 rfl rfl rfl (ltn rfl) (Nat.le_of_ble_eq_true rfl) (Nat.le_of_ble_eq_true rfl) rfl ?_
  refine go_if_eq (pc' := 7) cx 63 dX6_seen_4 rfl rfl (fun c4 => ?_) (fun c4 => ?_)
  · refine go_bipush (pc' := 65) cx (-2) dX6_seen_63 rfl rfl ?_
    refine go_iret cx rfl dX6_seen_65 ?_
    exact ZIz.mk ⟨(seenF_b1 (k := 1) (Or.inl c4)).symm, FrK.rf, hS0⟩
  · refine go_iload_n (pc' := 8) cx dX6_seen_7 rfl rfl ?_
    refine go_cSi (pc' := 11) cx (c_X6_isPlace l E (g := g) x2) mX6_isPlace lX6_118 dX6_seen_8 rfl rfl rfl (ltn rfl) (Nat.le_of_ble_eq_true rfl) (Nat.le_of_ble_eq_true rfl) rfl ?_
    refine go_if_eq (pc' := 14) cx 63 dX6_seen_11 rfl rfl (fun c11 => ?_) (fun c11 => ?_)
    · refine go_bipush (pc' := 65) cx (-2) dX6_seen_63 rfl rfl ?_
      refine go_iret cx rfl dX6_seen_65 ?_
      exact ZIz.mk ⟨(seenF_b1 (k := 1) (Or.inr c11)).symm, FrK.rf, hS0⟩
    · refine go_iload_n (pc' := 15) cx dX6_seen_14 rfl rfl ?_
      refine go_i2l (pc' := 16) cx dX6_seen_15 rfl ?_
      refine go_lconst (pc' := 17) cx 0 dX6_seen_16 rfl rfl ?_
      refine go_val (w := .long (((0 : Int32)).toInt64)) (congrArg Value.long (by decide)) ?_
      refine go_ldc2 (pc' := 20) cx 5 kX6_144 dX6_seen_17 rfl ?_
      refine go_val (w := .long (((5 : Int32)).toInt64)) (congrArg Value.long (by decide)) ?_
      refine go_cSi (pc' := 23) cx (c_X6_in l E (g := g) (1 : Int32) (0 : Int32) (5 : Int32)) mX6_in lX6_108 dX6_seen_20 rfl rfl rfl (ltn rfl) (Nat.le_of_ble_eq_true rfl) (Nat.le_of_ble_eq_true rfl) rfl ?_
      refine go_if_eq (pc' := 26) cx 63 dX6_seen_23 rfl rfl (fun hh9 => absurd hh9 (by decide)) (fun _ => ?_)
      refine go_iload_n (pc' := 27) cx dX6_seen_26 rfl rfl ?_
      refine go_iconst (pc' := 28) cx 3 dX6_seen_27 rfl rfl ?_
      refine go_icmp_ge (pc' := 31) cx 40 dX6_seen_28 rfl rfl (fun hh => absurd hh (by decide)) (fun _ => ?_)
      refine go_aload_n (pc' := 32) cx dX6_seen_31 rfl rfl ?_
      refine go_iload (pc' := 34) cx dX6_seen_32 rfl rfl ?_
      refine go_cVi (pc' := 37) cx (c_X6_isVisit l E (g := g) (vn := vn) hX.2.2.1 (by omega) x4) mX6_isVisit lX6_125 dX6_seen_34 kq88 (ltn rfl) (ltn rfl) rfl rfl rfl rfl (ltn rfl) (Nat.le_of_ble_eq_true rfl) (Nat.le_of_ble_eq_true rfl) rfl ?_
      refine go_if_eq (pc' := 40) cx 63 dX6_seen_37 rfl rfl (fun c37 => ?_) (fun c37 => ?_)
      · refine go_bipush (pc' := 65) cx (-2) dX6_seen_63 rfl rfl ?_
        refine go_iret cx rfl dX6_seen_65 ?_
        obtain ⟨t, ht, et⟩ := in_ok (k := 4) (by omega) c4
        subst et
        obtain ⟨pl, hpl, epl⟩ := in_ok (k := 4) (by omega) c11
        subst epl
        exact ZIz.mk ⟨(seenF_b2 (M := TMx CS) (ru := ru) (a := svM g) (hn := hn) (vn := vn) (tc := tc) (sh := shM g) (k := 1) ht hpl (by omega) (show inI (nI (sCn hn vn 1)) x4 = 0 from c37)).symm, FrK.rf, hS0⟩
      · refine go_iload_n (pc' := 41) cx dX6_seen_40 rfl rfl ?_
        refine go_i2l (pc' := 42) cx dX6_seen_41 rfl ?_
        refine go_ldc2 (pc' := 45) cx 3 kX6_106 dX6_seen_42 rfl ?_
        refine go_val (w := .long (((3 : Int32)).toInt64)) (congrArg Value.long (by decide)) ?_
        refine go_ldc2 (pc' := 48) cx 4 kX6_424 dX6_seen_45 rfl ?_
        refine go_val (w := .long (((4 : Int32)).toInt64)) (congrArg Value.long (by decide)) ?_
        refine go_cSi (pc' := 51) cx (c_X6_in l E (g := g) (1 : Int32) (3 : Int32) (4 : Int32)) mX6_in lX6_108 dX6_seen_48 rfl rfl rfl (ltn rfl) (Nat.le_of_ble_eq_true rfl) (Nat.le_of_ble_eq_true rfl) rfl ?_
        refine go_if_eq (pc' := 54) cx 66 dX6_seen_51 rfl rfl (fun _ => ?_) (fun hh9 => absurd (by decide) hh9)
        obtain ⟨t, ht, et⟩ := in_ok (k := 4) (by omega) c4
        subst et
        have clt := clI_n (k := t) (by omega)
        obtain ⟨pl, hpl, epl⟩ := in_ok (k := 4) (by omega) c11
        subst epl
        have clpl := clI_n (k := pl) (by omega)
        obtain ⟨q, hq, eq⟩ := in_ok (k := vn) (by omega) c37
        subst eq
        have clq := clI_n (k := q) (by omega)
        refine go_aload_n (pc' := 67) cx dX6_seen_66 rfl rfl ?_
        refine go_getr (pc' := 70) cx 111 fX6_86 dX6_seen_67 kq88 (ltn rfl) (ltn rfl) rfl rfl rfl ?_
        refine go_iload_n (pc' := 71) cx dX6_seen_70 rfl rfl ?_
        refine go_zald (pc' := 72) cx (g 111 t) dX6_seen_71 kq111 (ltn rfl) (vpi (k := t) (a := 4) ht rfl rfl) (congrArg (g 111) (cli (k := t) (a := 4) ht rfl)) rfl ?_
        refine go_if_ne (pc' := 75) cx 78 dX6_seen_72 rfl rfl (fun c72 => ?_) (fun c72 => ?_)
        · obtain ⟨sz, hsz, h113⟩ := hSh t ht c72
          refine go_aload_n (pc' := 79) cx dX6_seen_78 rfl rfl ?_
          refine go_getr (pc' := 82) cx 113 fX6_93 dX6_seen_79 kq88 (ltn rfl) (ltn rfl) rfl rfl rfl ?_
          refine go_iload_n (pc' := 83) cx dX6_seen_82 rfl rfl ?_
          refine go_iald (pc' := 84) cx (nI sz) dX6_seen_83 kq113 (ltn rfl) (vpi (k := t) (a := 4) ht rfl rfl) ((congrArg (g 113) (cli (k := t) (a := 4) ht rfl)).trans h113) rfl ?_
          refine go_aload_n (pc' := 85) cx dX6_seen_84 rfl rfl ?_
          refine go_geti (pc' := 88) cx (nI vn) fX6_115 dX6_seen_85 kq88 (ltn rfl) (ltn rfl) rfl hX.2.2.1 rfl ?_
          refine go_icmp_le (pc' := 91) cx 94 dX6_seen_88 rfl rfl (fun c88 => ?_) (fun c88 => ?_)
          · have c88n := Int32.not_lt.mpr c88
            have hsv : sz ≤ vn := (nI_leI (by omega) (by omega)).mp c88
            refine go_iload_n (pc' := 95) cx dX6_seen_94 rfl rfl ?_
            refine go_if_ne (pc' := 98) cx 103 dX6_seen_95 rfl rfl (fun _ => ?_) (fun hh => absurd hh (by decide))
            refine go_iload_n (pc' := 104) cx dX6_seen_103 rfl rfl ?_
            refine go_iconst (pc' := 105) cx 1 dX6_seen_104 rfl rfl ?_
            refine go_icmp_ne (pc' := 108) cx 113 dX6_seen_105 rfl rfl (fun hh => absurd hh (by decide)) (fun _ => ?_)
            refine go_bipush (pc' := 110) cx 9 dX6_seen_108 rfl rfl ?_
            refine go_goto cx 126 dX6_seen_110 rfl ?_
            refine go_istore (pc' := 128) cx dX6_seen_126 (ltn rfl) [(5, .int 9), (0, .ref (E.2.1 88)), (1, .int (nI t)), (2, .int (nI pl)), (3, .int 1), (4, .int (nI q))] rfl rfl ?_
            refine go_iload_n (pc' := 129) cx dX6_seen_128 rfl rfl ?_
            refine go_if_ne (pc' := 132) cx 139 dX6_seen_129 rfl rfl (fun _ => ?_) (fun hh => absurd hh (by decide))
            refine go_iload_n (pc' := 140) cx dX6_seen_139 rfl rfl ?_
            refine go_iconst (pc' := 141) cx 1 dX6_seen_140 rfl rfl ?_
            refine go_icmp_ne (pc' := 144) cx 148 dX6_seen_141 rfl rfl (fun hh => absurd hh (by decide)) (fun _ => ?_)
            refine go_iconst (pc' := 145) cx 4 dX6_seen_144 rfl rfl ?_
            refine go_goto cx 182 dX6_seen_145 rfl ?_
            refine go_istore (pc' := 184) cx dX6_seen_182 (ltn rfl) [(6, .int 4), (5, .int 9), (0, .ref (E.2.1 88)), (1, .int (nI t)), (2, .int (nI pl)), (3, .int 1), (4, .int (nI q))] rfl rfl ?_
            refine go_iload_n (pc' := 185) cx dX6_seen_184 rfl rfl ?_
            refine go_iconst (pc' := 186) cx 5 dX6_seen_185 rfl rfl ?_
            refine go_icmp_ne (pc' := 189) cx 196 dX6_seen_186 rfl rfl (fun _ => ?_) (fun hh => absurd hh (by decide))
            refine go_aload_n (pc' := 197) cx dX6_seen_196 rfl rfl ?_
            refine go_iload (pc' := 199) cx dX6_seen_197 rfl rfl ?_
            refine go_iload (pc' := 201) cx dX6_seen_199 rfl rfl ?_
            refine go_cVI (pc' := 204) cx (c_X6_told l E (g := g) hb.1 hb.2 hX.2.1 hX.2.2.1 (nI q) 9) mX6_told lX6_136 dX6_seen_201 kq88 (ltn rfl) (ltn rfl) rfl rfl rfl rfl (ltn rfl) (Nat.le_of_ble_eq_true rfl) (Nat.le_of_ble_eq_true rfl) rfl (fun xt gt htl => ?_)
            obtain ⟨eg, htl⟩ := htl
            subst eg
            have ex : xt = gt 101 q := by
              rcases htl with ⟨-, h9 | h9⟩ | ⟨w8, q8, h1, h2, h3, h4, -, h5⟩
              · exact absurd h9 (by decide)
              · exact absurd h9 (show ¬ inI (nI vn) (nI q) = 0 from c37)
              · have e8 : w8 = 9 := ((nI_eq (a := 9) (b := w8) (by omega) (by omega)).mp h3).symm
                subst e8
                rw [h5]
                rw [(nI_eq (a := q) (b := q8) (by omega) (by omega)).mp (h4 (by omega))]
                rfl
            refine go_istore (pc' := 206) cx dX6_seen_204 (ltn rfl) [(7, .int xt), (6, .int 4), (5, .int 9), (0, .ref (E.2.1 88)), (1, .int (nI t)), (2, .int (nI pl)), (3, .int 1), (4, .int (nI q))] rfl rfl ?_
            refine go_iconst (pc' := 207) cx 0 dX6_seen_206 rfl rfl ?_
            refine go_istore (pc' := 209) cx dX6_seen_207 (ltn rfl) [(8, .int 0), (7, .int xt), (6, .int 4), (5, .int 9), (0, .ref (E.2.1 88)), (1, .int (nI t)), (2, .int (nI pl)), (3, .int 1), (4, .int (nI q))] rfl rfl ?_
            refine go_iconst (pc' := 210) cx 0 dX6_seen_209 rfl rfl ?_
            refine go_istore (pc' := 212) cx dX6_seen_210 (ltn rfl) [(9, .int 0), (8, .int 0), (7, .int xt), (6, .int 4), (5, .int 9), (0, .ref (E.2.1 88)), (1, .int (nI t)), (2, .int (nI pl)), (3, .int 1), (4, .int (nI q))] rfl rfl ?_
            refine go_sub [0, 1, 5, 6, 7, 8, 9, 4, 3, 2] [(9, .int (nI 0)), (8, .int (btF (fun v => fotF (TMx CS ru) (up2 (svM gt) 9 q (nI v)) (fun k9 => gt 114 (40 * t + k9)) pl sz) 0)), (0, .ref (E.2.1 88)), (1, .int (nI t)), (2, .int (nI pl)), (3, .int 1), (4, .int (nI q)), (5, .int 9), (6, .int (nI 4)), (7, .int xt)] rfl ?_
            refine seen_loopM1 (g := gt) hX ht hpl hsv h113 xt (by omega) (by omega) cx 4 0 gt z (by omega) FrN.rf hS0 (fun G9 z9 f9 s9 => ?_)
            refine go_iload_n (pc' := 273) cx dX6_seen_272 rfl rfl ?_
            refine go_iconst (pc' := 274) cx 5 dX6_seen_273 rfl rfl ?_
            refine go_icmp_ne (pc' := 277) cx 286 dX6_seen_274 rfl rfl (fun _ => ?_) (fun hh => absurd hh (by decide))
            refine go_aload_n (pc' := 287) cx dX6_seen_286 rfl rfl ?_
            refine go_iload (pc' := 289) cx dX6_seen_287 rfl rfl ?_
            refine go_iload (pc' := 291) cx dX6_seen_289 rfl rfl ?_
            refine go_iload (pc' := 293) cx dX6_seen_291 rfl rfl ?_
            refine go_cVu (pc' := 296) cx (c_X6_lays9 l E (g := G9) (by omega) xt) mX6_lays lX6_140 dX6_seen_293 kq88 (ltn rfl) (ltn rfl) rfl rfl rfl rfl (ltn rfl) (Nat.le_of_ble_eq_true rfl) (Nat.le_of_ble_eq_true rfl) rfl ?_
            refine go_iload (pc' := 298) cx dX6_seen_296 rfl rfl ?_
            refine go_iret cx rfl dX6_seen_298 ?_
            exact ZIz.mk ⟨by
              rw [seenF_p (M := TMx CS) (ru := ru) (a := svM gt) (hn := hn) (vn := vn) (tc := tc) (sh := shM gt) (k := 1) ht hpl (fun _ => (show ¬ inI (nI (sCn hn vn 1)) (nI q) = 0 from c37)) (shM_n h113 hsz), if_pos (prF_0 (shM_1 c72) hsv), if_neg (by omega), clq]
              rfl, by rw [ex]; exact f9.back, s9.fr (funext fun k9 => up2_n _ _ (by omega))⟩
          · have c88n := Int32.not_le.mp c88
            refine go_bipush (pc' := 93) cx (-2) dX6_seen_91 rfl rfl ?_
            refine go_iret cx rfl dX6_seen_93 ?_
            exact ZIz.mk ⟨by
              rw [seenF_p (M := TMx CS) (ru := ru) (a := svM g) (hn := hn) (vn := vn) (tc := tc) (sh := shM g) (k := 1) ht hpl (fun _ => (show ¬ inI (nI (sCn hn vn 1)) (nI q) = 0 from c37)) (shM_n h113 hsz), prF_2 (shM_1 c72) (fun q9 => c88 ((nI_leI (by omega) (by omega)).mpr q9))]
              rfl, FrK.rf, hS0⟩
        · refine go_bipush (pc' := 77) cx (-11) dX6_seen_75 rfl rfl ?_
          refine go_iret cx rfl dX6_seen_77 ?_
          exact ZIz.mk ⟨by
            rw [seenF_p (M := TMx CS) (ru := ru) (a := svM g) (hn := hn) (vn := vn) (tc := tc) (sh := shM g) (k := 1) ht hpl (fun _ => (show ¬ inI (nI (sCn hn vn 1)) (nI q) = 0 from c37)) rfl, prF_1 (shM_0 c72)]
            rfl, FrK.rf, hS0⟩

set_option maxHeartbeats 1000000 in
set_option maxRecDepth 20000 in
theorem seen_loopM2 {l : Launch} {E : Ev} {Z : ZT} {o : Option Nat} {p : Program} {e : Env} {s : State} {m : MethodId} {args : Array Value} {below : List Frame} {meth : Method} {c : Code} {g : IG} {hn vn ru tc : Nat} {CS : CSt} (hX : XM g hn vn ru tc CS) {t pl sz n9 : Nat} (ht : t < 4) (hpl : pl < 4) (hsz : sz ≤ vn) (h113 : g 113 t = nI sz) (xw : Int32) {q : Nat} (hq : q < 8) (hm : n9 ≤ 21) (cx : Cx p s m args meth c E 115 cX6_seen 10 yX6_seen.cls (some .int)) : ∀ (j v : Nat) (G : IG) (z : Int64), v + j = n9 → FrN 100 q g G → SdI G tc CS → (∀ (G9 : IG) (z9 : Int64), FrN 100 q g G9 → SdI G9 tc CS → Go p l e (rmd 50) s m args below meth c E 115 10 Z G9 (RFo o) z9 272 [(9, .int (nI n9)), (8, .int (btF (fun v => fotF (TMx CS ru) (up2 (svM g) 8 q (nI v)) (fun k9 => g 114 (40 * t + k9)) pl sz) n9)), (0, .ref (E.2.1 88)), (1, .int (nI t)), (2, .int (nI pl)), (3, .int 2), (4, .int (nI q)), (5, .int 8), (6, .int (nI n9)), (7, .int xw)] []) → Go p l e (rmd 50) s m args below meth c E 115 10 Z G (RFo o) z 212 [(9, .int (nI v)), (8, .int (btF (fun v => fotF (TMx CS ru) (up2 (svM g) 8 q (nI v)) (fun k9 => g 114 (40 * t + k9)) pl sz) v)), (0, .ref (E.2.1 88)), (1, .int (nI t)), (2, .int (nI pl)), (3, .int 2), (4, .int (nI q)), (5, .int 8), (6, .int (nI n9)), (7, .int xw)] [] := by
  have hb := hX.1
  have htc6 := hX.2.2.2.2.2.2.1
  intro j
  induction j with
  | zero =>
    intro v G z hk hF hS kk
    have hv : v = n9 := by omega
    subst hv
    refine go_iload (pc' := 214) cx dX6_seen_212 rfl rfl ?_
    refine go_iload (pc' := 216) cx dX6_seen_214 rfl rfl ?_
    refine go_icmp_ge (pc' := 219) cx 272 dX6_seen_216 rfl rfl (fun _ => ?_) (fun hh9 => absurd (Int32.le_refl _) hh9)
    exact kk G z hF hS
  | succ j ih =>
    intro v G z hk hF hS kk
    refine go_iload (pc' := 214) cx dX6_seen_212 rfl rfl ?_
    refine go_iload (pc' := 216) cx dX6_seen_214 rfl rfl ?_
    refine go_icmp_ge (pc' := 219) cx 272 dX6_seen_216 rfl rfl (fun hh9 => absurd ((nI_leI (a := n9) (b := v) (by omega) (by omega)).mp hh9) (by omega)) (fun _ => ?_)
    refine go_iload_n (pc' := 220) cx dX6_seen_219 rfl rfl ?_
    refine go_iconst (pc' := 221) cx 5 dX6_seen_220 rfl rfl ?_
    refine go_icmp_ne (pc' := 224) cx 233 dX6_seen_221 rfl rfl (fun _ => ?_) (fun hh => absurd hh (by decide))
    refine go_aload_n (pc' := 234) cx dX6_seen_233 rfl rfl ?_
    refine go_iload (pc' := 236) cx dX6_seen_234 rfl rfl ?_
    refine go_iload (pc' := 238) cx dX6_seen_236 rfl rfl ?_
    refine go_iload (pc' := 240) cx dX6_seen_238 rfl rfl ?_
    refine go_cVu (pc' := 243) cx (c_X6_lays8 l E (g := G) hq (nI v)) mX6_lays lX6_140 dX6_seen_240 kq88 (ltn rfl) (ltn rfl) rfl rfl rfl rfl (ltn rfl) (Nat.le_of_ble_eq_true rfl) (Nat.le_of_ble_eq_true rfl) rfl ?_
    refine go_iload (pc' := 245) cx dX6_seen_243 rfl rfl ?_
    refine go_aload_n (pc' := 246) cx dX6_seen_245 rfl rfl ?_
    refine go_iload_n (pc' := 247) cx dX6_seen_246 rfl rfl ?_
    refine go_iload_n (pc' := 248) cx dX6_seen_247 rfl rfl ?_
    have hXn : XM (up2 G 100 q (nI v)) hn vn ru tc CS := XM.fn (w := 8) (q := q) (by omega) hX hF hS (nI v) (fun h9 => absurd h9 (by decide))
    have esv : svM (up2 G 100 q (nI v)) = up2 (svM g) 8 q (nI v) := FrN.sv (w := 8) (q := q) (by omega) hF (nI v)
    have e114 : (up2 G 100 q (nI v)) 114 = g 114 := hF.c (by omega) (by omega) (by omega)
    refine go_cVIz (pc' := 251) cx (c_X6_unlikeAt l E (g := (up2 G 100 q (nI v))) hXn (t := t) (pl := pl) (sz := sz) ht hpl hsz ((congrFun (hF.c (x := nI v) (by omega) (by omega) (by omega) : (up2 G 100 q (nI v)) 113 = g 113) t).trans h113)) mX6_unlikeAt lX6_438 dX6_seen_248 kq88 (ltn rfl) (ltn rfl) rfl rfl rfl rfl (ltn rfl) (Nat.le_of_ble_eq_true rfl) (Nat.le_of_ble_eq_true rfl) rfl (fun xu GU zu hu => ?_)
    obtain ⟨eu, fu, su⟩ := hu
    have ef : (fun v => fotF (TMx CS ru) (up2 (svM g) 8 q (nI v)) (fun k9 => g 114 (40 * t + k9)) pl sz) v = xu := by
      rw [eu, esv, e114]
    have hF2 : FrN 100 q g GU := hF.step fu
    refine go_iconst (pc' := 252) cx (-1) dX6_seen_251 rfl rfl ?_
    refine go_icmp_ne (pc' := 255) cx 259 dX6_seen_252 rfl rfl (fun c252 => ?_) (fun c252 => ?_)
    · refine go_iconst (pc' := 260) cx 0 dX6_seen_259 rfl rfl ?_
      refine go_iload (pc' := 262) cx dX6_seen_260 rfl rfl ?_
      refine go_ishl (pc' := 263) cx dX6_seen_262 rfl ?_
      refine go_ior (pc' := 264) cx dX6_seen_263 rfl ?_
      refine go_val (w := .int (btF (fun v => fotF (TMx CS ru) (up2 (svM g) 8 q (nI v)) (fun k9 => g 114 (40 * t + k9)) pl sz) (v + 1))) (congrArg Value.int (bt_0 (f := (fun v => fotF (TMx CS ru) (up2 (svM g) 8 q (nI v)) (fun k9 => g 114 (40 * t + k9)) pl sz)) (k := v) (fun q9 => c252 (ef.symm.trans q9)))) ?_
      refine go_istore (pc' := 266) cx dX6_seen_264 (ltn rfl) [(8, .int (btF (fun v => fotF (TMx CS ru) (up2 (svM g) 8 q (nI v)) (fun k9 => g 114 (40 * t + k9)) pl sz) (v + 1))), (9, .int (nI v)), (0, .ref (E.2.1 88)), (1, .int (nI t)), (2, .int (nI pl)), (3, .int 2), (4, .int (nI q)), (5, .int 8), (6, .int (nI n9)), (7, .int xw)] rfl rfl ?_
      refine go_iinc (pc' := 269) cx (nI (v + 1)) dX6_seen_266 rfl (nI_1 v) (ltn rfl) [(9, .int (nI (v + 1))), (8, .int (btF (fun v => fotF (TMx CS ru) (up2 (svM g) 8 q (nI v)) (fun k9 => g 114 (40 * t + k9)) pl sz) (v + 1))), (0, .ref (E.2.1 88)), (1, .int (nI t)), (2, .int (nI pl)), (3, .int 2), (4, .int (nI q)), (5, .int 8), (6, .int (nI n9)), (7, .int xw)] rfl rfl ?_
      refine go_goto cx 212 dX6_seen_269 rfl ?_
      exact ih (v + 1) GU zu (by omega) hF2 su kk
    · refine go_iconst (pc' := 256) cx 1 dX6_seen_255 rfl rfl ?_
      refine go_goto cx 260 dX6_seen_256 rfl ?_
      refine go_iload (pc' := 262) cx dX6_seen_260 rfl rfl ?_
      refine go_ishl (pc' := 263) cx dX6_seen_262 rfl ?_
      refine go_ior (pc' := 264) cx dX6_seen_263 rfl ?_
      refine go_val (w := .int (btF (fun v => fotF (TMx CS ru) (up2 (svM g) 8 q (nI v)) (fun k9 => g 114 (40 * t + k9)) pl sz) (v + 1))) (congrArg Value.int (bt_1 (f := (fun v => fotF (TMx CS ru) (up2 (svM g) 8 q (nI v)) (fun k9 => g 114 (40 * t + k9)) pl sz)) (k := v) (ef.trans c252))) ?_
      refine go_istore (pc' := 266) cx dX6_seen_264 (ltn rfl) [(8, .int (btF (fun v => fotF (TMx CS ru) (up2 (svM g) 8 q (nI v)) (fun k9 => g 114 (40 * t + k9)) pl sz) (v + 1))), (9, .int (nI v)), (0, .ref (E.2.1 88)), (1, .int (nI t)), (2, .int (nI pl)), (3, .int 2), (4, .int (nI q)), (5, .int 8), (6, .int (nI n9)), (7, .int xw)] rfl rfl ?_
      refine go_iinc (pc' := 269) cx (nI (v + 1)) dX6_seen_266 rfl (nI_1 v) (ltn rfl) [(9, .int (nI (v + 1))), (8, .int (btF (fun v => fotF (TMx CS ru) (up2 (svM g) 8 q (nI v)) (fun k9 => g 114 (40 * t + k9)) pl sz) (v + 1))), (0, .ref (E.2.1 88)), (1, .int (nI t)), (2, .int (nI pl)), (3, .int 2), (4, .int (nI q)), (5, .int 8), (6, .int (nI n9)), (7, .int xw)] rfl rfl ?_
      refine go_goto cx 212 dX6_seen_269 rfl ?_
      exact ih (v + 1) GU zu (by omega) hF2 su kk

set_option maxHeartbeats 1000000 in
set_option maxRecDepth 20000 in
theorem c_X6_seen_2 (l : Launch) (E : Ev) {g : IG} {o : Option Nat} {z : Int64} {hn vn ru tc : Nat} {CS : CSt} (hX : XM g hn vn ru tc CS) (hSh : ShMX g) (x1 x2 x4 : Int32) : Ct l E 115 yX6_seen cX6_seen 10 (some .int) 50 [.ref (E.2.1 88), .int x1, .int x2, .int 2, .int x4] g (RFo o) z (ZIz (RFo o) (fun x g1 z1 => x = seenF (TMx CS) ru (svM g) hn vn tc (shM g) 2 x1 x2 x4 ∧ FrK g g1 ∧ SdI g1 tc CS)) := by
  refine Ct.of (lv0 := [(0, .ref (E.2.1 88)), (1, .int x1), (2, .int x2), (3, .int 2), (4, .int x4)]) (by decide) (Nat.le_of_ble_eq_true rfl) rfl ?_
  intro p e s m below meth c cx
  have hb := hX.1
  have hS0 := hX.2.2.2.2.2.2.2.2.2.2
  have htc6 := hX.2.2.2.2.2.2.1
  refine go_iload_n (pc' := 1) cx dX6_seen_0 rfl rfl ?_
  refine go_cSi (pc' := 4) cx (c_X6_isSheet l E (g := g) x1) mX6_isSheet lX6_435 dX6_seen_1 rfl rfl rfl (ltn rfl) (Nat.le_of_ble_eq_true rfl) (Nat.le_of_ble_eq_true rfl) rfl ?_
  refine go_if_eq (pc' := 7) cx 63 dX6_seen_4 rfl rfl (fun c4 => ?_) (fun c4 => ?_)
  · refine go_bipush (pc' := 65) cx (-2) dX6_seen_63 rfl rfl ?_
    refine go_iret cx rfl dX6_seen_65 ?_
    exact ZIz.mk ⟨(seenF_b1 (k := 2) (Or.inl c4)).symm, FrK.rf, hS0⟩
  · refine go_iload_n (pc' := 8) cx dX6_seen_7 rfl rfl ?_
    refine go_cSi (pc' := 11) cx (c_X6_isPlace l E (g := g) x2) mX6_isPlace lX6_118 dX6_seen_8 rfl rfl rfl (ltn rfl) (Nat.le_of_ble_eq_true rfl) (Nat.le_of_ble_eq_true rfl) rfl ?_
    refine go_if_eq (pc' := 14) cx 63 dX6_seen_11 rfl rfl (fun c11 => ?_) (fun c11 => ?_)
    · refine go_bipush (pc' := 65) cx (-2) dX6_seen_63 rfl rfl ?_
      refine go_iret cx rfl dX6_seen_65 ?_
      exact ZIz.mk ⟨(seenF_b1 (k := 2) (Or.inr c11)).symm, FrK.rf, hS0⟩
    · refine go_iload_n (pc' := 15) cx dX6_seen_14 rfl rfl ?_
      refine go_i2l (pc' := 16) cx dX6_seen_15 rfl ?_
      refine go_lconst (pc' := 17) cx 0 dX6_seen_16 rfl rfl ?_
      refine go_val (w := .long (((0 : Int32)).toInt64)) (congrArg Value.long (by decide)) ?_
      refine go_ldc2 (pc' := 20) cx 5 kX6_144 dX6_seen_17 rfl ?_
      refine go_val (w := .long (((5 : Int32)).toInt64)) (congrArg Value.long (by decide)) ?_
      refine go_cSi (pc' := 23) cx (c_X6_in l E (g := g) (2 : Int32) (0 : Int32) (5 : Int32)) mX6_in lX6_108 dX6_seen_20 rfl rfl rfl (ltn rfl) (Nat.le_of_ble_eq_true rfl) (Nat.le_of_ble_eq_true rfl) rfl ?_
      refine go_if_eq (pc' := 26) cx 63 dX6_seen_23 rfl rfl (fun hh9 => absurd hh9 (by decide)) (fun _ => ?_)
      refine go_iload_n (pc' := 27) cx dX6_seen_26 rfl rfl ?_
      refine go_iconst (pc' := 28) cx 3 dX6_seen_27 rfl rfl ?_
      refine go_icmp_ge (pc' := 31) cx 40 dX6_seen_28 rfl rfl (fun hh => absurd hh (by decide)) (fun _ => ?_)
      refine go_aload_n (pc' := 32) cx dX6_seen_31 rfl rfl ?_
      refine go_iload (pc' := 34) cx dX6_seen_32 rfl rfl ?_
      refine go_cVi (pc' := 37) cx (c_X6_isVisit l E (g := g) (vn := vn) hX.2.2.1 (by omega) x4) mX6_isVisit lX6_125 dX6_seen_34 kq88 (ltn rfl) (ltn rfl) rfl rfl rfl rfl (ltn rfl) (Nat.le_of_ble_eq_true rfl) (Nat.le_of_ble_eq_true rfl) rfl ?_
      refine go_if_eq (pc' := 40) cx 63 dX6_seen_37 rfl rfl (fun c37 => ?_) (fun c37 => ?_)
      · refine go_bipush (pc' := 65) cx (-2) dX6_seen_63 rfl rfl ?_
        refine go_iret cx rfl dX6_seen_65 ?_
        obtain ⟨t, ht, et⟩ := in_ok (k := 4) (by omega) c4
        subst et
        obtain ⟨pl, hpl, epl⟩ := in_ok (k := 4) (by omega) c11
        subst epl
        exact ZIz.mk ⟨(seenF_b2 (M := TMx CS) (ru := ru) (a := svM g) (hn := hn) (vn := vn) (tc := tc) (sh := shM g) (k := 2) ht hpl (by omega) (show inI (nI (sCn hn vn 2)) x4 = 0 from c37)).symm, FrK.rf, hS0⟩
      · refine go_iload_n (pc' := 41) cx dX6_seen_40 rfl rfl ?_
        refine go_i2l (pc' := 42) cx dX6_seen_41 rfl ?_
        refine go_ldc2 (pc' := 45) cx 3 kX6_106 dX6_seen_42 rfl ?_
        refine go_val (w := .long (((3 : Int32)).toInt64)) (congrArg Value.long (by decide)) ?_
        refine go_ldc2 (pc' := 48) cx 4 kX6_424 dX6_seen_45 rfl ?_
        refine go_val (w := .long (((4 : Int32)).toInt64)) (congrArg Value.long (by decide)) ?_
        refine go_cSi (pc' := 51) cx (c_X6_in l E (g := g) (2 : Int32) (3 : Int32) (4 : Int32)) mX6_in lX6_108 dX6_seen_48 rfl rfl rfl (ltn rfl) (Nat.le_of_ble_eq_true rfl) (Nat.le_of_ble_eq_true rfl) rfl ?_
        refine go_if_eq (pc' := 54) cx 66 dX6_seen_51 rfl rfl (fun _ => ?_) (fun hh9 => absurd (by decide) hh9)
        obtain ⟨t, ht, et⟩ := in_ok (k := 4) (by omega) c4
        subst et
        have clt := clI_n (k := t) (by omega)
        obtain ⟨pl, hpl, epl⟩ := in_ok (k := 4) (by omega) c11
        subst epl
        have clpl := clI_n (k := pl) (by omega)
        obtain ⟨q, hq, eq⟩ := in_ok (k := vn) (by omega) c37
        subst eq
        have clq := clI_n (k := q) (by omega)
        refine go_aload_n (pc' := 67) cx dX6_seen_66 rfl rfl ?_
        refine go_getr (pc' := 70) cx 111 fX6_86 dX6_seen_67 kq88 (ltn rfl) (ltn rfl) rfl rfl rfl ?_
        refine go_iload_n (pc' := 71) cx dX6_seen_70 rfl rfl ?_
        refine go_zald (pc' := 72) cx (g 111 t) dX6_seen_71 kq111 (ltn rfl) (vpi (k := t) (a := 4) ht rfl rfl) (congrArg (g 111) (cli (k := t) (a := 4) ht rfl)) rfl ?_
        refine go_if_ne (pc' := 75) cx 78 dX6_seen_72 rfl rfl (fun c72 => ?_) (fun c72 => ?_)
        · obtain ⟨sz, hsz, h113⟩ := hSh t ht c72
          refine go_aload_n (pc' := 79) cx dX6_seen_78 rfl rfl ?_
          refine go_getr (pc' := 82) cx 113 fX6_93 dX6_seen_79 kq88 (ltn rfl) (ltn rfl) rfl rfl rfl ?_
          refine go_iload_n (pc' := 83) cx dX6_seen_82 rfl rfl ?_
          refine go_iald (pc' := 84) cx (nI sz) dX6_seen_83 kq113 (ltn rfl) (vpi (k := t) (a := 4) ht rfl rfl) ((congrArg (g 113) (cli (k := t) (a := 4) ht rfl)).trans h113) rfl ?_
          refine go_aload_n (pc' := 85) cx dX6_seen_84 rfl rfl ?_
          refine go_geti (pc' := 88) cx (nI vn) fX6_115 dX6_seen_85 kq88 (ltn rfl) (ltn rfl) rfl hX.2.2.1 rfl ?_
          refine go_icmp_le (pc' := 91) cx 94 dX6_seen_88 rfl rfl (fun c88 => ?_) (fun c88 => ?_)
          · have c88n := Int32.not_lt.mpr c88
            have hsv : sz ≤ vn := (nI_leI (by omega) (by omega)).mp c88
            refine go_iload_n (pc' := 95) cx dX6_seen_94 rfl rfl ?_
            refine go_if_ne (pc' := 98) cx 103 dX6_seen_95 rfl rfl (fun _ => ?_) (fun hh => absurd hh (by decide))
            refine go_iload_n (pc' := 104) cx dX6_seen_103 rfl rfl ?_
            refine go_iconst (pc' := 105) cx 1 dX6_seen_104 rfl rfl ?_
            refine go_icmp_ne (pc' := 108) cx 113 dX6_seen_105 rfl rfl (fun _ => ?_) (fun hh => absurd hh (by decide))
            refine go_iload_n (pc' := 114) cx dX6_seen_113 rfl rfl ?_
            refine go_iconst (pc' := 115) cx 2 dX6_seen_114 rfl rfl ?_
            refine go_icmp_ne (pc' := 118) cx 123 dX6_seen_115 rfl rfl (fun hh => absurd hh (by decide)) (fun _ => ?_)
            refine go_bipush (pc' := 120) cx 8 dX6_seen_118 rfl rfl ?_
            refine go_goto cx 126 dX6_seen_120 rfl ?_
            refine go_istore (pc' := 128) cx dX6_seen_126 (ltn rfl) [(5, .int 8), (0, .ref (E.2.1 88)), (1, .int (nI t)), (2, .int (nI pl)), (3, .int 2), (4, .int (nI q))] rfl rfl ?_
            refine go_iload_n (pc' := 129) cx dX6_seen_128 rfl rfl ?_
            refine go_if_ne (pc' := 132) cx 139 dX6_seen_129 rfl rfl (fun _ => ?_) (fun hh => absurd hh (by decide))
            refine go_iload_n (pc' := 140) cx dX6_seen_139 rfl rfl ?_
            refine go_iconst (pc' := 141) cx 1 dX6_seen_140 rfl rfl ?_
            refine go_icmp_ne (pc' := 144) cx 148 dX6_seen_141 rfl rfl (fun _ => ?_) (fun hh => absurd hh (by decide))
            refine go_iload_n (pc' := 149) cx dX6_seen_148 rfl rfl ?_
            refine go_iconst (pc' := 150) cx 2 dX6_seen_149 rfl rfl ?_
            refine go_icmp_ne (pc' := 153) cx 158 dX6_seen_150 rfl rfl (fun hh => absurd hh (by decide)) (fun _ => ?_)
            refine go_bipush (pc' := 155) cx 21 dX6_seen_153 rfl rfl ?_
            refine go_goto cx 182 dX6_seen_155 rfl ?_
            refine go_istore (pc' := 184) cx dX6_seen_182 (ltn rfl) [(6, .int 21), (5, .int 8), (0, .ref (E.2.1 88)), (1, .int (nI t)), (2, .int (nI pl)), (3, .int 2), (4, .int (nI q))] rfl rfl ?_
            refine go_iload_n (pc' := 185) cx dX6_seen_184 rfl rfl ?_
            refine go_iconst (pc' := 186) cx 5 dX6_seen_185 rfl rfl ?_
            refine go_icmp_ne (pc' := 189) cx 196 dX6_seen_186 rfl rfl (fun _ => ?_) (fun hh => absurd hh (by decide))
            refine go_aload_n (pc' := 197) cx dX6_seen_196 rfl rfl ?_
            refine go_iload (pc' := 199) cx dX6_seen_197 rfl rfl ?_
            refine go_iload (pc' := 201) cx dX6_seen_199 rfl rfl ?_
            refine go_cVI (pc' := 204) cx (c_X6_told l E (g := g) hb.1 hb.2 hX.2.1 hX.2.2.1 (nI q) 8) mX6_told lX6_136 dX6_seen_201 kq88 (ltn rfl) (ltn rfl) rfl rfl rfl rfl (ltn rfl) (Nat.le_of_ble_eq_true rfl) (Nat.le_of_ble_eq_true rfl) rfl (fun xt gt htl => ?_)
            obtain ⟨eg, htl⟩ := htl
            subst eg
            have ex : xt = gt 100 q := by
              rcases htl with ⟨-, h9 | h9⟩ | ⟨w8, q8, h1, h2, h3, h4, -, h5⟩
              · exact absurd h9 (by decide)
              · exact absurd h9 (show ¬ inI (nI vn) (nI q) = 0 from c37)
              · have e8 : w8 = 8 := ((nI_eq (a := 8) (b := w8) (by omega) (by omega)).mp h3).symm
                subst e8
                rw [h5]
                rw [(nI_eq (a := q) (b := q8) (by omega) (by omega)).mp (h4 (by omega))]
                rfl
            refine go_istore (pc' := 206) cx dX6_seen_204 (ltn rfl) [(7, .int xt), (6, .int 21), (5, .int 8), (0, .ref (E.2.1 88)), (1, .int (nI t)), (2, .int (nI pl)), (3, .int 2), (4, .int (nI q))] rfl rfl ?_
            refine go_iconst (pc' := 207) cx 0 dX6_seen_206 rfl rfl ?_
            refine go_istore (pc' := 209) cx dX6_seen_207 (ltn rfl) [(8, .int 0), (7, .int xt), (6, .int 21), (5, .int 8), (0, .ref (E.2.1 88)), (1, .int (nI t)), (2, .int (nI pl)), (3, .int 2), (4, .int (nI q))] rfl rfl ?_
            refine go_iconst (pc' := 210) cx 0 dX6_seen_209 rfl rfl ?_
            refine go_istore (pc' := 212) cx dX6_seen_210 (ltn rfl) [(9, .int 0), (8, .int 0), (7, .int xt), (6, .int 21), (5, .int 8), (0, .ref (E.2.1 88)), (1, .int (nI t)), (2, .int (nI pl)), (3, .int 2), (4, .int (nI q))] rfl rfl ?_
            refine go_sub [0, 1, 5, 6, 7, 8, 9, 4, 3, 2] [(9, .int (nI 0)), (8, .int (btF (fun v => fotF (TMx CS ru) (up2 (svM gt) 8 q (nI v)) (fun k9 => gt 114 (40 * t + k9)) pl sz) 0)), (0, .ref (E.2.1 88)), (1, .int (nI t)), (2, .int (nI pl)), (3, .int 2), (4, .int (nI q)), (5, .int 8), (6, .int (nI 21)), (7, .int xt)] rfl ?_
            refine seen_loopM2 (g := gt) hX ht hpl hsv h113 xt (by omega) (by omega) cx 21 0 gt z (by omega) FrN.rf hS0 (fun G9 z9 f9 s9 => ?_)
            refine go_iload_n (pc' := 273) cx dX6_seen_272 rfl rfl ?_
            refine go_iconst (pc' := 274) cx 5 dX6_seen_273 rfl rfl ?_
            refine go_icmp_ne (pc' := 277) cx 286 dX6_seen_274 rfl rfl (fun _ => ?_) (fun hh => absurd hh (by decide))
            refine go_aload_n (pc' := 287) cx dX6_seen_286 rfl rfl ?_
            refine go_iload (pc' := 289) cx dX6_seen_287 rfl rfl ?_
            refine go_iload (pc' := 291) cx dX6_seen_289 rfl rfl ?_
            refine go_iload (pc' := 293) cx dX6_seen_291 rfl rfl ?_
            refine go_cVu (pc' := 296) cx (c_X6_lays8 l E (g := G9) (by omega) xt) mX6_lays lX6_140 dX6_seen_293 kq88 (ltn rfl) (ltn rfl) rfl rfl rfl rfl (ltn rfl) (Nat.le_of_ble_eq_true rfl) (Nat.le_of_ble_eq_true rfl) rfl ?_
            refine go_iload (pc' := 298) cx dX6_seen_296 rfl rfl ?_
            refine go_iret cx rfl dX6_seen_298 ?_
            exact ZIz.mk ⟨by
              rw [seenF_p (M := TMx CS) (ru := ru) (a := svM gt) (hn := hn) (vn := vn) (tc := tc) (sh := shM gt) (k := 2) ht hpl (fun _ => (show ¬ inI (nI (sCn hn vn 2)) (nI q) = 0 from c37)) (shM_n h113 hsz), if_pos (prF_0 (shM_1 c72) hsv), if_neg (by omega), clq]
              rfl, by rw [ex]; exact f9.back, s9.fr (funext fun k9 => up2_n _ _ (by omega))⟩
          · have c88n := Int32.not_le.mp c88
            refine go_bipush (pc' := 93) cx (-2) dX6_seen_91 rfl rfl ?_
            refine go_iret cx rfl dX6_seen_93 ?_
            exact ZIz.mk ⟨by
              rw [seenF_p (M := TMx CS) (ru := ru) (a := svM g) (hn := hn) (vn := vn) (tc := tc) (sh := shM g) (k := 2) ht hpl (fun _ => (show ¬ inI (nI (sCn hn vn 2)) (nI q) = 0 from c37)) (shM_n h113 hsz), prF_2 (shM_1 c72) (fun q9 => c88 ((nI_leI (by omega) (by omega)).mpr q9))]
              rfl, FrK.rf, hS0⟩
        · refine go_bipush (pc' := 77) cx (-11) dX6_seen_75 rfl rfl ?_
          refine go_iret cx rfl dX6_seen_77 ?_
          exact ZIz.mk ⟨by
            rw [seenF_p (M := TMx CS) (ru := ru) (a := svM g) (hn := hn) (vn := vn) (tc := tc) (sh := shM g) (k := 2) ht hpl (fun _ => (show ¬ inI (nI (sCn hn vn 2)) (nI q) = 0 from c37)) rfl, prF_1 (shM_0 c72)]
            rfl, FrK.rf, hS0⟩

set_option maxHeartbeats 1000000 in
set_option maxRecDepth 20000 in
theorem seen_loopM3 {l : Launch} {E : Ev} {Z : ZT} {o : Option Nat} {p : Program} {e : Env} {s : State} {m : MethodId} {args : Array Value} {below : List Frame} {meth : Method} {c : Code} {g : IG} {hn vn ru tc : Nat} {CS : CSt} (hX : XM g hn vn ru tc CS) {t pl sz n9 : Nat} (ht : t < 4) (hpl : pl < 4) (hsz : sz ≤ vn) (h113 : g 113 t = nI sz) (xw : Int32) {q : Nat} (hq : q < 5) (hm : n9 ≤ 21) (cx : Cx p s m args meth c E 115 cX6_seen 10 yX6_seen.cls (some .int)) : ∀ (j v : Nat) (G : IG) (z : Int64), v + j = n9 → FrN 96 q g G → SdI G tc CS → (∀ (G9 : IG) (z9 : Int64), FrN 96 q g G9 → SdI G9 tc CS → Go p l e (rmd 50) s m args below meth c E 115 10 Z G9 (RFo o) z9 272 [(9, .int (nI n9)), (8, .int (btF (fun v => fotF (TMx CS ru) (up2 (svM g) 4 q (nI v)) (fun k9 => g 114 (40 * t + k9)) pl sz) n9)), (0, .ref (E.2.1 88)), (1, .int (nI t)), (2, .int (nI pl)), (3, .int 3), (4, .int (nI q)), (5, .int 4), (6, .int (nI n9)), (7, .int xw)] []) → Go p l e (rmd 50) s m args below meth c E 115 10 Z G (RFo o) z 212 [(9, .int (nI v)), (8, .int (btF (fun v => fotF (TMx CS ru) (up2 (svM g) 4 q (nI v)) (fun k9 => g 114 (40 * t + k9)) pl sz) v)), (0, .ref (E.2.1 88)), (1, .int (nI t)), (2, .int (nI pl)), (3, .int 3), (4, .int (nI q)), (5, .int 4), (6, .int (nI n9)), (7, .int xw)] [] := by
  have hb := hX.1
  have htc6 := hX.2.2.2.2.2.2.1
  intro j
  induction j with
  | zero =>
    intro v G z hk hF hS kk
    have hv : v = n9 := by omega
    subst hv
    refine go_iload (pc' := 214) cx dX6_seen_212 rfl rfl ?_
    refine go_iload (pc' := 216) cx dX6_seen_214 rfl rfl ?_
    refine go_icmp_ge (pc' := 219) cx 272 dX6_seen_216 rfl rfl (fun _ => ?_) (fun hh9 => absurd (Int32.le_refl _) hh9)
    exact kk G z hF hS
  | succ j ih =>
    intro v G z hk hF hS kk
    refine go_iload (pc' := 214) cx dX6_seen_212 rfl rfl ?_
    refine go_iload (pc' := 216) cx dX6_seen_214 rfl rfl ?_
    refine go_icmp_ge (pc' := 219) cx 272 dX6_seen_216 rfl rfl (fun hh9 => absurd ((nI_leI (a := n9) (b := v) (by omega) (by omega)).mp hh9) (by omega)) (fun _ => ?_)
    refine go_iload_n (pc' := 220) cx dX6_seen_219 rfl rfl ?_
    refine go_iconst (pc' := 221) cx 5 dX6_seen_220 rfl rfl ?_
    refine go_icmp_ne (pc' := 224) cx 233 dX6_seen_221 rfl rfl (fun _ => ?_) (fun hh => absurd hh (by decide))
    refine go_aload_n (pc' := 234) cx dX6_seen_233 rfl rfl ?_
    refine go_iload (pc' := 236) cx dX6_seen_234 rfl rfl ?_
    refine go_iload (pc' := 238) cx dX6_seen_236 rfl rfl ?_
    refine go_iload (pc' := 240) cx dX6_seen_238 rfl rfl ?_
    refine go_cVu (pc' := 243) cx (c_X6_lays4 l E (g := G) hq (nI v)) mX6_lays lX6_140 dX6_seen_240 kq88 (ltn rfl) (ltn rfl) rfl rfl rfl rfl (ltn rfl) (Nat.le_of_ble_eq_true rfl) (Nat.le_of_ble_eq_true rfl) rfl ?_
    refine go_iload (pc' := 245) cx dX6_seen_243 rfl rfl ?_
    refine go_aload_n (pc' := 246) cx dX6_seen_245 rfl rfl ?_
    refine go_iload_n (pc' := 247) cx dX6_seen_246 rfl rfl ?_
    refine go_iload_n (pc' := 248) cx dX6_seen_247 rfl rfl ?_
    have hXn : XM (up2 G 96 q (nI v)) hn vn ru tc CS := XM.fn (w := 4) (q := q) (by omega) hX hF hS (nI v) (fun h9 => absurd h9 (by decide))
    have esv : svM (up2 G 96 q (nI v)) = up2 (svM g) 4 q (nI v) := FrN.sv (w := 4) (q := q) (by omega) hF (nI v)
    have e114 : (up2 G 96 q (nI v)) 114 = g 114 := hF.c (by omega) (by omega) (by omega)
    refine go_cVIz (pc' := 251) cx (c_X6_unlikeAt l E (g := (up2 G 96 q (nI v))) hXn (t := t) (pl := pl) (sz := sz) ht hpl hsz ((congrFun (hF.c (x := nI v) (by omega) (by omega) (by omega) : (up2 G 96 q (nI v)) 113 = g 113) t).trans h113)) mX6_unlikeAt lX6_438 dX6_seen_248 kq88 (ltn rfl) (ltn rfl) rfl rfl rfl rfl (ltn rfl) (Nat.le_of_ble_eq_true rfl) (Nat.le_of_ble_eq_true rfl) rfl (fun xu GU zu hu => ?_)
    obtain ⟨eu, fu, su⟩ := hu
    have ef : (fun v => fotF (TMx CS ru) (up2 (svM g) 4 q (nI v)) (fun k9 => g 114 (40 * t + k9)) pl sz) v = xu := by
      rw [eu, esv, e114]
    have hF2 : FrN 96 q g GU := hF.step fu
    refine go_iconst (pc' := 252) cx (-1) dX6_seen_251 rfl rfl ?_
    refine go_icmp_ne (pc' := 255) cx 259 dX6_seen_252 rfl rfl (fun c252 => ?_) (fun c252 => ?_)
    · refine go_iconst (pc' := 260) cx 0 dX6_seen_259 rfl rfl ?_
      refine go_iload (pc' := 262) cx dX6_seen_260 rfl rfl ?_
      refine go_ishl (pc' := 263) cx dX6_seen_262 rfl ?_
      refine go_ior (pc' := 264) cx dX6_seen_263 rfl ?_
      refine go_val (w := .int (btF (fun v => fotF (TMx CS ru) (up2 (svM g) 4 q (nI v)) (fun k9 => g 114 (40 * t + k9)) pl sz) (v + 1))) (congrArg Value.int (bt_0 (f := (fun v => fotF (TMx CS ru) (up2 (svM g) 4 q (nI v)) (fun k9 => g 114 (40 * t + k9)) pl sz)) (k := v) (fun q9 => c252 (ef.symm.trans q9)))) ?_
      refine go_istore (pc' := 266) cx dX6_seen_264 (ltn rfl) [(8, .int (btF (fun v => fotF (TMx CS ru) (up2 (svM g) 4 q (nI v)) (fun k9 => g 114 (40 * t + k9)) pl sz) (v + 1))), (9, .int (nI v)), (0, .ref (E.2.1 88)), (1, .int (nI t)), (2, .int (nI pl)), (3, .int 3), (4, .int (nI q)), (5, .int 4), (6, .int (nI n9)), (7, .int xw)] rfl rfl ?_
      refine go_iinc (pc' := 269) cx (nI (v + 1)) dX6_seen_266 rfl (nI_1 v) (ltn rfl) [(9, .int (nI (v + 1))), (8, .int (btF (fun v => fotF (TMx CS ru) (up2 (svM g) 4 q (nI v)) (fun k9 => g 114 (40 * t + k9)) pl sz) (v + 1))), (0, .ref (E.2.1 88)), (1, .int (nI t)), (2, .int (nI pl)), (3, .int 3), (4, .int (nI q)), (5, .int 4), (6, .int (nI n9)), (7, .int xw)] rfl rfl ?_
      refine go_goto cx 212 dX6_seen_269 rfl ?_
      exact ih (v + 1) GU zu (by omega) hF2 su kk
    · refine go_iconst (pc' := 256) cx 1 dX6_seen_255 rfl rfl ?_
      refine go_goto cx 260 dX6_seen_256 rfl ?_
      refine go_iload (pc' := 262) cx dX6_seen_260 rfl rfl ?_
      refine go_ishl (pc' := 263) cx dX6_seen_262 rfl ?_
      refine go_ior (pc' := 264) cx dX6_seen_263 rfl ?_
      refine go_val (w := .int (btF (fun v => fotF (TMx CS ru) (up2 (svM g) 4 q (nI v)) (fun k9 => g 114 (40 * t + k9)) pl sz) (v + 1))) (congrArg Value.int (bt_1 (f := (fun v => fotF (TMx CS ru) (up2 (svM g) 4 q (nI v)) (fun k9 => g 114 (40 * t + k9)) pl sz)) (k := v) (ef.trans c252))) ?_
      refine go_istore (pc' := 266) cx dX6_seen_264 (ltn rfl) [(8, .int (btF (fun v => fotF (TMx CS ru) (up2 (svM g) 4 q (nI v)) (fun k9 => g 114 (40 * t + k9)) pl sz) (v + 1))), (9, .int (nI v)), (0, .ref (E.2.1 88)), (1, .int (nI t)), (2, .int (nI pl)), (3, .int 3), (4, .int (nI q)), (5, .int 4), (6, .int (nI n9)), (7, .int xw)] rfl rfl ?_
      refine go_iinc (pc' := 269) cx (nI (v + 1)) dX6_seen_266 rfl (nI_1 v) (ltn rfl) [(9, .int (nI (v + 1))), (8, .int (btF (fun v => fotF (TMx CS ru) (up2 (svM g) 4 q (nI v)) (fun k9 => g 114 (40 * t + k9)) pl sz) (v + 1))), (0, .ref (E.2.1 88)), (1, .int (nI t)), (2, .int (nI pl)), (3, .int 3), (4, .int (nI q)), (5, .int 4), (6, .int (nI n9)), (7, .int xw)] rfl rfl ?_
      refine go_goto cx 212 dX6_seen_269 rfl ?_
      exact ih (v + 1) GU zu (by omega) hF2 su kk

set_option maxHeartbeats 1000000 in
set_option maxRecDepth 20000 in
theorem c_X6_seen_3 (l : Launch) (E : Ev) {g : IG} {o : Option Nat} {z : Int64} {hn vn ru tc : Nat} {CS : CSt} (hX : XM g hn vn ru tc CS) (hSh : ShMX g) (x1 x2 x4 : Int32) : Ct l E 115 yX6_seen cX6_seen 10 (some .int) 50 [.ref (E.2.1 88), .int x1, .int x2, .int 3, .int x4] g (RFo o) z (ZIz (RFo o) (fun x g1 z1 => x = seenF (TMx CS) ru (svM g) hn vn tc (shM g) 3 x1 x2 x4 ∧ FrK g g1 ∧ SdI g1 tc CS)) := by
  refine Ct.of (lv0 := [(0, .ref (E.2.1 88)), (1, .int x1), (2, .int x2), (3, .int 3), (4, .int x4)]) (by decide) (Nat.le_of_ble_eq_true rfl) rfl ?_
  intro p e s m below meth c cx
  have hb := hX.1
  have hS0 := hX.2.2.2.2.2.2.2.2.2.2
  have htc6 := hX.2.2.2.2.2.2.1
  refine go_iload_n (pc' := 1) cx dX6_seen_0 rfl rfl ?_
  refine go_cSi (pc' := 4) cx (c_X6_isSheet l E (g := g) x1) mX6_isSheet lX6_435 dX6_seen_1 rfl rfl rfl (ltn rfl) (Nat.le_of_ble_eq_true rfl) (Nat.le_of_ble_eq_true rfl) rfl ?_
  refine go_if_eq (pc' := 7) cx 63 dX6_seen_4 rfl rfl (fun c4 => ?_) (fun c4 => ?_)
  · refine go_bipush (pc' := 65) cx (-2) dX6_seen_63 rfl rfl ?_
    refine go_iret cx rfl dX6_seen_65 ?_
    exact ZIz.mk ⟨(seenF_b1 (k := 3) (Or.inl c4)).symm, FrK.rf, hS0⟩
  · refine go_iload_n (pc' := 8) cx dX6_seen_7 rfl rfl ?_
    refine go_cSi (pc' := 11) cx (c_X6_isPlace l E (g := g) x2) mX6_isPlace lX6_118 dX6_seen_8 rfl rfl rfl (ltn rfl) (Nat.le_of_ble_eq_true rfl) (Nat.le_of_ble_eq_true rfl) rfl ?_
    refine go_if_eq (pc' := 14) cx 63 dX6_seen_11 rfl rfl (fun c11 => ?_) (fun c11 => ?_)
    · refine go_bipush (pc' := 65) cx (-2) dX6_seen_63 rfl rfl ?_
      refine go_iret cx rfl dX6_seen_65 ?_
      exact ZIz.mk ⟨(seenF_b1 (k := 3) (Or.inr c11)).symm, FrK.rf, hS0⟩
    · refine go_iload_n (pc' := 15) cx dX6_seen_14 rfl rfl ?_
      refine go_i2l (pc' := 16) cx dX6_seen_15 rfl ?_
      refine go_lconst (pc' := 17) cx 0 dX6_seen_16 rfl rfl ?_
      refine go_val (w := .long (((0 : Int32)).toInt64)) (congrArg Value.long (by decide)) ?_
      refine go_ldc2 (pc' := 20) cx 5 kX6_144 dX6_seen_17 rfl ?_
      refine go_val (w := .long (((5 : Int32)).toInt64)) (congrArg Value.long (by decide)) ?_
      refine go_cSi (pc' := 23) cx (c_X6_in l E (g := g) (3 : Int32) (0 : Int32) (5 : Int32)) mX6_in lX6_108 dX6_seen_20 rfl rfl rfl (ltn rfl) (Nat.le_of_ble_eq_true rfl) (Nat.le_of_ble_eq_true rfl) rfl ?_
      refine go_if_eq (pc' := 26) cx 63 dX6_seen_23 rfl rfl (fun hh9 => absurd hh9 (by decide)) (fun _ => ?_)
      refine go_iload_n (pc' := 27) cx dX6_seen_26 rfl rfl ?_
      refine go_iconst (pc' := 28) cx 3 dX6_seen_27 rfl rfl ?_
      refine go_icmp_ge (pc' := 31) cx 40 dX6_seen_28 rfl rfl (fun _ => ?_) (fun hh => absurd hh (by decide))
      refine go_iload_n (pc' := 41) cx dX6_seen_40 rfl rfl ?_
      refine go_i2l (pc' := 42) cx dX6_seen_41 rfl ?_
      refine go_ldc2 (pc' := 45) cx 3 kX6_106 dX6_seen_42 rfl ?_
      refine go_val (w := .long (((3 : Int32)).toInt64)) (congrArg Value.long (by decide)) ?_
      refine go_ldc2 (pc' := 48) cx 4 kX6_424 dX6_seen_45 rfl ?_
      refine go_val (w := .long (((4 : Int32)).toInt64)) (congrArg Value.long (by decide)) ?_
      refine go_cSi (pc' := 51) cx (c_X6_in l E (g := g) (3 : Int32) (3 : Int32) (4 : Int32)) mX6_in lX6_108 dX6_seen_48 rfl rfl rfl (ltn rfl) (Nat.le_of_ble_eq_true rfl) (Nat.le_of_ble_eq_true rfl) rfl ?_
      refine go_if_eq (pc' := 54) cx 66 dX6_seen_51 rfl rfl (fun hh9 => absurd hh9 (by decide)) (fun _ => ?_)
      refine go_aload_n (pc' := 55) cx dX6_seen_54 rfl rfl ?_
      refine go_iload (pc' := 57) cx dX6_seen_55 rfl rfl ?_
      refine go_cVi (pc' := 60) cx (c_X6_isHand l E (g := g) (hn := hn) hX.2.1 (by omega) x4) mX6_isHand lX6_122 dX6_seen_57 kq88 (ltn rfl) (ltn rfl) rfl rfl rfl rfl (ltn rfl) (Nat.le_of_ble_eq_true rfl) (Nat.le_of_ble_eq_true rfl) rfl ?_
      refine go_if_ne (pc' := 63) cx 66 dX6_seen_60 rfl rfl (fun c60 => ?_) (fun c60 => ?_)
      · obtain ⟨t, ht, et⟩ := in_ok (k := 4) (by omega) c4
        subst et
        have clt := clI_n (k := t) (by omega)
        obtain ⟨pl, hpl, epl⟩ := in_ok (k := 4) (by omega) c11
        subst epl
        have clpl := clI_n (k := pl) (by omega)
        obtain ⟨q, hq, eq⟩ := in_ok (k := hn) (by omega) c60
        subst eq
        have clq := clI_n (k := q) (by omega)
        refine go_aload_n (pc' := 67) cx dX6_seen_66 rfl rfl ?_
        refine go_getr (pc' := 70) cx 111 fX6_86 dX6_seen_67 kq88 (ltn rfl) (ltn rfl) rfl rfl rfl ?_
        refine go_iload_n (pc' := 71) cx dX6_seen_70 rfl rfl ?_
        refine go_zald (pc' := 72) cx (g 111 t) dX6_seen_71 kq111 (ltn rfl) (vpi (k := t) (a := 4) ht rfl rfl) (congrArg (g 111) (cli (k := t) (a := 4) ht rfl)) rfl ?_
        refine go_if_ne (pc' := 75) cx 78 dX6_seen_72 rfl rfl (fun c72 => ?_) (fun c72 => ?_)
        · obtain ⟨sz, hsz, h113⟩ := hSh t ht c72
          refine go_aload_n (pc' := 79) cx dX6_seen_78 rfl rfl ?_
          refine go_getr (pc' := 82) cx 113 fX6_93 dX6_seen_79 kq88 (ltn rfl) (ltn rfl) rfl rfl rfl ?_
          refine go_iload_n (pc' := 83) cx dX6_seen_82 rfl rfl ?_
          refine go_iald (pc' := 84) cx (nI sz) dX6_seen_83 kq113 (ltn rfl) (vpi (k := t) (a := 4) ht rfl rfl) ((congrArg (g 113) (cli (k := t) (a := 4) ht rfl)).trans h113) rfl ?_
          refine go_aload_n (pc' := 85) cx dX6_seen_84 rfl rfl ?_
          refine go_geti (pc' := 88) cx (nI vn) fX6_115 dX6_seen_85 kq88 (ltn rfl) (ltn rfl) rfl hX.2.2.1 rfl ?_
          refine go_icmp_le (pc' := 91) cx 94 dX6_seen_88 rfl rfl (fun c88 => ?_) (fun c88 => ?_)
          · have c88n := Int32.not_lt.mpr c88
            have hsv : sz ≤ vn := (nI_leI (by omega) (by omega)).mp c88
            refine go_iload_n (pc' := 95) cx dX6_seen_94 rfl rfl ?_
            refine go_if_ne (pc' := 98) cx 103 dX6_seen_95 rfl rfl (fun _ => ?_) (fun hh => absurd hh (by decide))
            refine go_iload_n (pc' := 104) cx dX6_seen_103 rfl rfl ?_
            refine go_iconst (pc' := 105) cx 1 dX6_seen_104 rfl rfl ?_
            refine go_icmp_ne (pc' := 108) cx 113 dX6_seen_105 rfl rfl (fun _ => ?_) (fun hh => absurd hh (by decide))
            refine go_iload_n (pc' := 114) cx dX6_seen_113 rfl rfl ?_
            refine go_iconst (pc' := 115) cx 2 dX6_seen_114 rfl rfl ?_
            refine go_icmp_ne (pc' := 118) cx 123 dX6_seen_115 rfl rfl (fun _ => ?_) (fun hh => absurd hh (by decide))
            refine go_iload_n (pc' := 124) cx dX6_seen_123 rfl rfl ?_
            refine go_iconst (pc' := 125) cx 1 dX6_seen_124 rfl rfl ?_
            refine go_iadd (pc' := 126) cx dX6_seen_125 rfl ?_
            refine go_val (w := .int 4) (congrArg Value.int (by decide)) ?_
            refine go_istore (pc' := 128) cx dX6_seen_126 (ltn rfl) [(5, .int 4), (0, .ref (E.2.1 88)), (1, .int (nI t)), (2, .int (nI pl)), (3, .int 3), (4, .int (nI q))] rfl rfl ?_
            refine go_iload_n (pc' := 129) cx dX6_seen_128 rfl rfl ?_
            refine go_if_ne (pc' := 132) cx 139 dX6_seen_129 rfl rfl (fun _ => ?_) (fun hh => absurd hh (by decide))
            refine go_iload_n (pc' := 140) cx dX6_seen_139 rfl rfl ?_
            refine go_iconst (pc' := 141) cx 1 dX6_seen_140 rfl rfl ?_
            refine go_icmp_ne (pc' := 144) cx 148 dX6_seen_141 rfl rfl (fun _ => ?_) (fun hh => absurd hh (by decide))
            refine go_iload_n (pc' := 149) cx dX6_seen_148 rfl rfl ?_
            refine go_iconst (pc' := 150) cx 2 dX6_seen_149 rfl rfl ?_
            refine go_icmp_ne (pc' := 153) cx 158 dX6_seen_150 rfl rfl (fun _ => ?_) (fun hh => absurd hh (by decide))
            refine go_iload_n (pc' := 159) cx dX6_seen_158 rfl rfl ?_
            refine go_iconst (pc' := 160) cx 3 dX6_seen_159 rfl rfl ?_
            refine go_icmp_ne (pc' := 163) cx 168 dX6_seen_160 rfl rfl (fun hh => absurd hh (by decide)) (fun _ => ?_)
            refine go_bipush (pc' := 165) cx 10 dX6_seen_163 rfl rfl ?_
            refine go_goto cx 182 dX6_seen_165 rfl ?_
            refine go_istore (pc' := 184) cx dX6_seen_182 (ltn rfl) [(6, .int 10), (5, .int 4), (0, .ref (E.2.1 88)), (1, .int (nI t)), (2, .int (nI pl)), (3, .int 3), (4, .int (nI q))] rfl rfl ?_
            refine go_iload_n (pc' := 185) cx dX6_seen_184 rfl rfl ?_
            refine go_iconst (pc' := 186) cx 5 dX6_seen_185 rfl rfl ?_
            refine go_icmp_ne (pc' := 189) cx 196 dX6_seen_186 rfl rfl (fun _ => ?_) (fun hh => absurd hh (by decide))
            refine go_aload_n (pc' := 197) cx dX6_seen_196 rfl rfl ?_
            refine go_iload (pc' := 199) cx dX6_seen_197 rfl rfl ?_
            refine go_iload (pc' := 201) cx dX6_seen_199 rfl rfl ?_
            refine go_cVI (pc' := 204) cx (c_X6_told l E (g := g) hb.1 hb.2 hX.2.1 hX.2.2.1 (nI q) 4) mX6_told lX6_136 dX6_seen_201 kq88 (ltn rfl) (ltn rfl) rfl rfl rfl rfl (ltn rfl) (Nat.le_of_ble_eq_true rfl) (Nat.le_of_ble_eq_true rfl) rfl (fun xt gt htl => ?_)
            obtain ⟨eg, htl⟩ := htl
            subst eg
            have ex : xt = gt 96 q := by
              rcases htl with ⟨-, h9 | h9⟩ | ⟨w8, q8, h1, h2, h3, h4, -, h5⟩
              · exact absurd h9 (by decide)
              · exact absurd h9 (show ¬ inI (nI hn) (nI q) = 0 from c60)
              · have e8 : w8 = 4 := ((nI_eq (a := 4) (b := w8) (by omega) (by omega)).mp h3).symm
                subst e8
                rw [h5]
                rw [(nI_eq (a := q) (b := q8) (by omega) (by omega)).mp (h4 (by omega))]
                rfl
            refine go_istore (pc' := 206) cx dX6_seen_204 (ltn rfl) [(7, .int xt), (6, .int 10), (5, .int 4), (0, .ref (E.2.1 88)), (1, .int (nI t)), (2, .int (nI pl)), (3, .int 3), (4, .int (nI q))] rfl rfl ?_
            refine go_iconst (pc' := 207) cx 0 dX6_seen_206 rfl rfl ?_
            refine go_istore (pc' := 209) cx dX6_seen_207 (ltn rfl) [(8, .int 0), (7, .int xt), (6, .int 10), (5, .int 4), (0, .ref (E.2.1 88)), (1, .int (nI t)), (2, .int (nI pl)), (3, .int 3), (4, .int (nI q))] rfl rfl ?_
            refine go_iconst (pc' := 210) cx 0 dX6_seen_209 rfl rfl ?_
            refine go_istore (pc' := 212) cx dX6_seen_210 (ltn rfl) [(9, .int 0), (8, .int 0), (7, .int xt), (6, .int 10), (5, .int 4), (0, .ref (E.2.1 88)), (1, .int (nI t)), (2, .int (nI pl)), (3, .int 3), (4, .int (nI q))] rfl rfl ?_
            refine go_sub [0, 1, 5, 6, 7, 8, 9, 4, 3, 2] [(9, .int (nI 0)), (8, .int (btF (fun v => fotF (TMx CS ru) (up2 (svM gt) 4 q (nI v)) (fun k9 => gt 114 (40 * t + k9)) pl sz) 0)), (0, .ref (E.2.1 88)), (1, .int (nI t)), (2, .int (nI pl)), (3, .int 3), (4, .int (nI q)), (5, .int 4), (6, .int (nI 10)), (7, .int xt)] rfl ?_
            refine seen_loopM3 (g := gt) hX ht hpl hsv h113 xt (by omega) (by omega) cx 10 0 gt z (by omega) FrN.rf hS0 (fun G9 z9 f9 s9 => ?_)
            refine go_iload_n (pc' := 273) cx dX6_seen_272 rfl rfl ?_
            refine go_iconst (pc' := 274) cx 5 dX6_seen_273 rfl rfl ?_
            refine go_icmp_ne (pc' := 277) cx 286 dX6_seen_274 rfl rfl (fun _ => ?_) (fun hh => absurd hh (by decide))
            refine go_aload_n (pc' := 287) cx dX6_seen_286 rfl rfl ?_
            refine go_iload (pc' := 289) cx dX6_seen_287 rfl rfl ?_
            refine go_iload (pc' := 291) cx dX6_seen_289 rfl rfl ?_
            refine go_iload (pc' := 293) cx dX6_seen_291 rfl rfl ?_
            refine go_cVu (pc' := 296) cx (c_X6_lays4 l E (g := G9) (by omega) xt) mX6_lays lX6_140 dX6_seen_293 kq88 (ltn rfl) (ltn rfl) rfl rfl rfl rfl (ltn rfl) (Nat.le_of_ble_eq_true rfl) (Nat.le_of_ble_eq_true rfl) rfl ?_
            refine go_iload (pc' := 298) cx dX6_seen_296 rfl rfl ?_
            refine go_iret cx rfl dX6_seen_298 ?_
            exact ZIz.mk ⟨by
              rw [seenF_p (M := TMx CS) (ru := ru) (a := svM gt) (hn := hn) (vn := vn) (tc := tc) (sh := shM gt) (k := 3) ht hpl (fun _ => (show ¬ inI (nI (sCn hn vn 3)) (nI q) = 0 from c60)) (shM_n h113 hsz), if_pos (prF_0 (shM_1 c72) hsv), if_neg (by omega), clq]
              rfl, by rw [ex]; exact f9.back, s9.fr (funext fun k9 => up2_n _ _ (by omega))⟩
          · have c88n := Int32.not_le.mp c88
            refine go_bipush (pc' := 93) cx (-2) dX6_seen_91 rfl rfl ?_
            refine go_iret cx rfl dX6_seen_93 ?_
            exact ZIz.mk ⟨by
              rw [seenF_p (M := TMx CS) (ru := ru) (a := svM g) (hn := hn) (vn := vn) (tc := tc) (sh := shM g) (k := 3) ht hpl (fun _ => (show ¬ inI (nI (sCn hn vn 3)) (nI q) = 0 from c60)) (shM_n h113 hsz), prF_2 (shM_1 c72) (fun q9 => c88 ((nI_leI (by omega) (by omega)).mpr q9))]
              rfl, FrK.rf, hS0⟩
        · refine go_bipush (pc' := 77) cx (-11) dX6_seen_75 rfl rfl ?_
          refine go_iret cx rfl dX6_seen_77 ?_
          exact ZIz.mk ⟨by
            rw [seenF_p (M := TMx CS) (ru := ru) (a := svM g) (hn := hn) (vn := vn) (tc := tc) (sh := shM g) (k := 3) ht hpl (fun _ => (show ¬ inI (nI (sCn hn vn 3)) (nI q) = 0 from c60)) rfl, prF_1 (shM_0 c72)]
            rfl, FrK.rf, hS0⟩
      · refine go_bipush (pc' := 65) cx (-2) dX6_seen_63 rfl rfl ?_
        refine go_iret cx rfl dX6_seen_65 ?_
        obtain ⟨t, ht, et⟩ := in_ok (k := 4) (by omega) c4
        subst et
        obtain ⟨pl, hpl, epl⟩ := in_ok (k := 4) (by omega) c11
        subst epl
        exact ZIz.mk ⟨(seenF_b2 (M := TMx CS) (ru := ru) (a := svM g) (hn := hn) (vn := vn) (tc := tc) (sh := shM g) (k := 3) ht hpl (by omega) (show inI (nI (sCn hn vn 3)) x4 = 0 from c60)).symm, FrK.rf, hS0⟩

set_option maxHeartbeats 1000000 in
set_option maxRecDepth 20000 in
theorem seen_loopM4 {l : Launch} {E : Ev} {Z : ZT} {o : Option Nat} {p : Program} {e : Env} {s : State} {m : MethodId} {args : Array Value} {below : List Frame} {meth : Method} {c : Code} {g : IG} {hn vn ru tc : Nat} {CS : CSt} (hX : XM g hn vn ru tc CS) {t pl sz n9 : Nat} (ht : t < 4) (hpl : pl < 4) (hsz : sz ≤ vn) (h113 : g 113 t = nI sz) (xw : Int32) {q : Nat} (hq : q < 5) (hm : n9 ≤ 21) (cx : Cx p s m args meth c E 115 cX6_seen 10 yX6_seen.cls (some .int)) : ∀ (j v : Nat) (G : IG) (z : Int64), v + j = n9 → FrN 97 q g G → SdI G tc CS → (∀ (G9 : IG) (z9 : Int64), FrN 97 q g G9 → SdI G9 tc CS → Go p l e (rmd 50) s m args below meth c E 115 10 Z G9 (RFo o) z9 272 [(9, .int (nI n9)), (8, .int (btF (fun v => fotF (TMx CS ru) (up2 (svM g) 5 q (nI v)) (fun k9 => g 114 (40 * t + k9)) pl sz) n9)), (0, .ref (E.2.1 88)), (1, .int (nI t)), (2, .int (nI pl)), (3, .int 4), (4, .int (nI q)), (5, .int 5), (6, .int (nI n9)), (7, .int xw)] []) → Go p l e (rmd 50) s m args below meth c E 115 10 Z G (RFo o) z 212 [(9, .int (nI v)), (8, .int (btF (fun v => fotF (TMx CS ru) (up2 (svM g) 5 q (nI v)) (fun k9 => g 114 (40 * t + k9)) pl sz) v)), (0, .ref (E.2.1 88)), (1, .int (nI t)), (2, .int (nI pl)), (3, .int 4), (4, .int (nI q)), (5, .int 5), (6, .int (nI n9)), (7, .int xw)] [] := by
  have hb := hX.1
  have htc6 := hX.2.2.2.2.2.2.1
  intro j
  induction j with
  | zero =>
    intro v G z hk hF hS kk
    have hv : v = n9 := by omega
    subst hv
    refine go_iload (pc' := 214) cx dX6_seen_212 rfl rfl ?_
    refine go_iload (pc' := 216) cx dX6_seen_214 rfl rfl ?_
    refine go_icmp_ge (pc' := 219) cx 272 dX6_seen_216 rfl rfl (fun _ => ?_) (fun hh9 => absurd (Int32.le_refl _) hh9)
    exact kk G z hF hS
  | succ j ih =>
    intro v G z hk hF hS kk
    refine go_iload (pc' := 214) cx dX6_seen_212 rfl rfl ?_
    refine go_iload (pc' := 216) cx dX6_seen_214 rfl rfl ?_
    refine go_icmp_ge (pc' := 219) cx 272 dX6_seen_216 rfl rfl (fun hh9 => absurd ((nI_leI (a := n9) (b := v) (by omega) (by omega)).mp hh9) (by omega)) (fun _ => ?_)
    refine go_iload_n (pc' := 220) cx dX6_seen_219 rfl rfl ?_
    refine go_iconst (pc' := 221) cx 5 dX6_seen_220 rfl rfl ?_
    refine go_icmp_ne (pc' := 224) cx 233 dX6_seen_221 rfl rfl (fun _ => ?_) (fun hh => absurd hh (by decide))
    refine go_aload_n (pc' := 234) cx dX6_seen_233 rfl rfl ?_
    refine go_iload (pc' := 236) cx dX6_seen_234 rfl rfl ?_
    refine go_iload (pc' := 238) cx dX6_seen_236 rfl rfl ?_
    refine go_iload (pc' := 240) cx dX6_seen_238 rfl rfl ?_
    refine go_cVu (pc' := 243) cx (c_X6_lays5 l E (g := G) hq (nI v)) mX6_lays lX6_140 dX6_seen_240 kq88 (ltn rfl) (ltn rfl) rfl rfl rfl rfl (ltn rfl) (Nat.le_of_ble_eq_true rfl) (Nat.le_of_ble_eq_true rfl) rfl ?_
    refine go_iload (pc' := 245) cx dX6_seen_243 rfl rfl ?_
    refine go_aload_n (pc' := 246) cx dX6_seen_245 rfl rfl ?_
    refine go_iload_n (pc' := 247) cx dX6_seen_246 rfl rfl ?_
    refine go_iload_n (pc' := 248) cx dX6_seen_247 rfl rfl ?_
    have hXn : XM (up2 G 97 q (nI v)) hn vn ru tc CS := XM.fn (w := 5) (q := q) (by omega) hX hF hS (nI v) (fun h9 => absurd h9 (by decide))
    have esv : svM (up2 G 97 q (nI v)) = up2 (svM g) 5 q (nI v) := FrN.sv (w := 5) (q := q) (by omega) hF (nI v)
    have e114 : (up2 G 97 q (nI v)) 114 = g 114 := hF.c (by omega) (by omega) (by omega)
    refine go_cVIz (pc' := 251) cx (c_X6_unlikeAt l E (g := (up2 G 97 q (nI v))) hXn (t := t) (pl := pl) (sz := sz) ht hpl hsz ((congrFun (hF.c (x := nI v) (by omega) (by omega) (by omega) : (up2 G 97 q (nI v)) 113 = g 113) t).trans h113)) mX6_unlikeAt lX6_438 dX6_seen_248 kq88 (ltn rfl) (ltn rfl) rfl rfl rfl rfl (ltn rfl) (Nat.le_of_ble_eq_true rfl) (Nat.le_of_ble_eq_true rfl) rfl (fun xu GU zu hu => ?_)
    obtain ⟨eu, fu, su⟩ := hu
    have ef : (fun v => fotF (TMx CS ru) (up2 (svM g) 5 q (nI v)) (fun k9 => g 114 (40 * t + k9)) pl sz) v = xu := by
      rw [eu, esv, e114]
    have hF2 : FrN 97 q g GU := hF.step fu
    refine go_iconst (pc' := 252) cx (-1) dX6_seen_251 rfl rfl ?_
    refine go_icmp_ne (pc' := 255) cx 259 dX6_seen_252 rfl rfl (fun c252 => ?_) (fun c252 => ?_)
    · refine go_iconst (pc' := 260) cx 0 dX6_seen_259 rfl rfl ?_
      refine go_iload (pc' := 262) cx dX6_seen_260 rfl rfl ?_
      refine go_ishl (pc' := 263) cx dX6_seen_262 rfl ?_
      refine go_ior (pc' := 264) cx dX6_seen_263 rfl ?_
      refine go_val (w := .int (btF (fun v => fotF (TMx CS ru) (up2 (svM g) 5 q (nI v)) (fun k9 => g 114 (40 * t + k9)) pl sz) (v + 1))) (congrArg Value.int (bt_0 (f := (fun v => fotF (TMx CS ru) (up2 (svM g) 5 q (nI v)) (fun k9 => g 114 (40 * t + k9)) pl sz)) (k := v) (fun q9 => c252 (ef.symm.trans q9)))) ?_
      refine go_istore (pc' := 266) cx dX6_seen_264 (ltn rfl) [(8, .int (btF (fun v => fotF (TMx CS ru) (up2 (svM g) 5 q (nI v)) (fun k9 => g 114 (40 * t + k9)) pl sz) (v + 1))), (9, .int (nI v)), (0, .ref (E.2.1 88)), (1, .int (nI t)), (2, .int (nI pl)), (3, .int 4), (4, .int (nI q)), (5, .int 5), (6, .int (nI n9)), (7, .int xw)] rfl rfl ?_
      refine go_iinc (pc' := 269) cx (nI (v + 1)) dX6_seen_266 rfl (nI_1 v) (ltn rfl) [(9, .int (nI (v + 1))), (8, .int (btF (fun v => fotF (TMx CS ru) (up2 (svM g) 5 q (nI v)) (fun k9 => g 114 (40 * t + k9)) pl sz) (v + 1))), (0, .ref (E.2.1 88)), (1, .int (nI t)), (2, .int (nI pl)), (3, .int 4), (4, .int (nI q)), (5, .int 5), (6, .int (nI n9)), (7, .int xw)] rfl rfl ?_
      refine go_goto cx 212 dX6_seen_269 rfl ?_
      exact ih (v + 1) GU zu (by omega) hF2 su kk
    · refine go_iconst (pc' := 256) cx 1 dX6_seen_255 rfl rfl ?_
      refine go_goto cx 260 dX6_seen_256 rfl ?_
      refine go_iload (pc' := 262) cx dX6_seen_260 rfl rfl ?_
      refine go_ishl (pc' := 263) cx dX6_seen_262 rfl ?_
      refine go_ior (pc' := 264) cx dX6_seen_263 rfl ?_
      refine go_val (w := .int (btF (fun v => fotF (TMx CS ru) (up2 (svM g) 5 q (nI v)) (fun k9 => g 114 (40 * t + k9)) pl sz) (v + 1))) (congrArg Value.int (bt_1 (f := (fun v => fotF (TMx CS ru) (up2 (svM g) 5 q (nI v)) (fun k9 => g 114 (40 * t + k9)) pl sz)) (k := v) (ef.trans c252))) ?_
      refine go_istore (pc' := 266) cx dX6_seen_264 (ltn rfl) [(8, .int (btF (fun v => fotF (TMx CS ru) (up2 (svM g) 5 q (nI v)) (fun k9 => g 114 (40 * t + k9)) pl sz) (v + 1))), (9, .int (nI v)), (0, .ref (E.2.1 88)), (1, .int (nI t)), (2, .int (nI pl)), (3, .int 4), (4, .int (nI q)), (5, .int 5), (6, .int (nI n9)), (7, .int xw)] rfl rfl ?_
      refine go_iinc (pc' := 269) cx (nI (v + 1)) dX6_seen_266 rfl (nI_1 v) (ltn rfl) [(9, .int (nI (v + 1))), (8, .int (btF (fun v => fotF (TMx CS ru) (up2 (svM g) 5 q (nI v)) (fun k9 => g 114 (40 * t + k9)) pl sz) (v + 1))), (0, .ref (E.2.1 88)), (1, .int (nI t)), (2, .int (nI pl)), (3, .int 4), (4, .int (nI q)), (5, .int 5), (6, .int (nI n9)), (7, .int xw)] rfl rfl ?_
      refine go_goto cx 212 dX6_seen_269 rfl ?_
      exact ih (v + 1) GU zu (by omega) hF2 su kk

set_option maxHeartbeats 1000000 in
set_option maxRecDepth 20000 in
theorem c_X6_seen_4 (l : Launch) (E : Ev) {g : IG} {o : Option Nat} {z : Int64} {hn vn ru tc : Nat} {CS : CSt} (hX : XM g hn vn ru tc CS) (hSh : ShMX g) (x1 x2 x4 : Int32) : Ct l E 115 yX6_seen cX6_seen 10 (some .int) 50 [.ref (E.2.1 88), .int x1, .int x2, .int 4, .int x4] g (RFo o) z (ZIz (RFo o) (fun x g1 z1 => x = seenF (TMx CS) ru (svM g) hn vn tc (shM g) 4 x1 x2 x4 ∧ FrK g g1 ∧ SdI g1 tc CS)) := by
  refine Ct.of (lv0 := [(0, .ref (E.2.1 88)), (1, .int x1), (2, .int x2), (3, .int 4), (4, .int x4)]) (by decide) (Nat.le_of_ble_eq_true rfl) rfl ?_
  intro p e s m below meth c cx
  have hb := hX.1
  have hS0 := hX.2.2.2.2.2.2.2.2.2.2
  have htc6 := hX.2.2.2.2.2.2.1
  refine go_iload_n (pc' := 1) cx dX6_seen_0 rfl rfl ?_
  refine go_cSi (pc' := 4) cx (c_X6_isSheet l E (g := g) x1) mX6_isSheet lX6_435 dX6_seen_1 rfl rfl rfl (ltn rfl) (Nat.le_of_ble_eq_true rfl) (Nat.le_of_ble_eq_true rfl) rfl ?_
  refine go_if_eq (pc' := 7) cx 63 dX6_seen_4 rfl rfl (fun c4 => ?_) (fun c4 => ?_)
  · refine go_bipush (pc' := 65) cx (-2) dX6_seen_63 rfl rfl ?_
    refine go_iret cx rfl dX6_seen_65 ?_
    exact ZIz.mk ⟨(seenF_b1 (k := 4) (Or.inl c4)).symm, FrK.rf, hS0⟩
  · refine go_iload_n (pc' := 8) cx dX6_seen_7 rfl rfl ?_
    refine go_cSi (pc' := 11) cx (c_X6_isPlace l E (g := g) x2) mX6_isPlace lX6_118 dX6_seen_8 rfl rfl rfl (ltn rfl) (Nat.le_of_ble_eq_true rfl) (Nat.le_of_ble_eq_true rfl) rfl ?_
    refine go_if_eq (pc' := 14) cx 63 dX6_seen_11 rfl rfl (fun c11 => ?_) (fun c11 => ?_)
    · refine go_bipush (pc' := 65) cx (-2) dX6_seen_63 rfl rfl ?_
      refine go_iret cx rfl dX6_seen_65 ?_
      exact ZIz.mk ⟨(seenF_b1 (k := 4) (Or.inr c11)).symm, FrK.rf, hS0⟩
    · refine go_iload_n (pc' := 15) cx dX6_seen_14 rfl rfl ?_
      refine go_i2l (pc' := 16) cx dX6_seen_15 rfl ?_
      refine go_lconst (pc' := 17) cx 0 dX6_seen_16 rfl rfl ?_
      refine go_val (w := .long (((0 : Int32)).toInt64)) (congrArg Value.long (by decide)) ?_
      refine go_ldc2 (pc' := 20) cx 5 kX6_144 dX6_seen_17 rfl ?_
      refine go_val (w := .long (((5 : Int32)).toInt64)) (congrArg Value.long (by decide)) ?_
      refine go_cSi (pc' := 23) cx (c_X6_in l E (g := g) (4 : Int32) (0 : Int32) (5 : Int32)) mX6_in lX6_108 dX6_seen_20 rfl rfl rfl (ltn rfl) (Nat.le_of_ble_eq_true rfl) (Nat.le_of_ble_eq_true rfl) rfl ?_
      refine go_if_eq (pc' := 26) cx 63 dX6_seen_23 rfl rfl (fun hh9 => absurd hh9 (by decide)) (fun _ => ?_)
      refine go_iload_n (pc' := 27) cx dX6_seen_26 rfl rfl ?_
      refine go_iconst (pc' := 28) cx 3 dX6_seen_27 rfl rfl ?_
      refine go_icmp_ge (pc' := 31) cx 40 dX6_seen_28 rfl rfl (fun _ => ?_) (fun hh => absurd hh (by decide))
      refine go_iload_n (pc' := 41) cx dX6_seen_40 rfl rfl ?_
      refine go_i2l (pc' := 42) cx dX6_seen_41 rfl ?_
      refine go_ldc2 (pc' := 45) cx 3 kX6_106 dX6_seen_42 rfl ?_
      refine go_val (w := .long (((3 : Int32)).toInt64)) (congrArg Value.long (by decide)) ?_
      refine go_ldc2 (pc' := 48) cx 4 kX6_424 dX6_seen_45 rfl ?_
      refine go_val (w := .long (((4 : Int32)).toInt64)) (congrArg Value.long (by decide)) ?_
      refine go_cSi (pc' := 51) cx (c_X6_in l E (g := g) (4 : Int32) (3 : Int32) (4 : Int32)) mX6_in lX6_108 dX6_seen_48 rfl rfl rfl (ltn rfl) (Nat.le_of_ble_eq_true rfl) (Nat.le_of_ble_eq_true rfl) rfl ?_
      refine go_if_eq (pc' := 54) cx 66 dX6_seen_51 rfl rfl (fun hh9 => absurd hh9 (by decide)) (fun _ => ?_)
      refine go_aload_n (pc' := 55) cx dX6_seen_54 rfl rfl ?_
      refine go_iload (pc' := 57) cx dX6_seen_55 rfl rfl ?_
      refine go_cVi (pc' := 60) cx (c_X6_isHand l E (g := g) (hn := hn) hX.2.1 (by omega) x4) mX6_isHand lX6_122 dX6_seen_57 kq88 (ltn rfl) (ltn rfl) rfl rfl rfl rfl (ltn rfl) (Nat.le_of_ble_eq_true rfl) (Nat.le_of_ble_eq_true rfl) rfl ?_
      refine go_if_ne (pc' := 63) cx 66 dX6_seen_60 rfl rfl (fun c60 => ?_) (fun c60 => ?_)
      · obtain ⟨t, ht, et⟩ := in_ok (k := 4) (by omega) c4
        subst et
        have clt := clI_n (k := t) (by omega)
        obtain ⟨pl, hpl, epl⟩ := in_ok (k := 4) (by omega) c11
        subst epl
        have clpl := clI_n (k := pl) (by omega)
        obtain ⟨q, hq, eq⟩ := in_ok (k := hn) (by omega) c60
        subst eq
        have clq := clI_n (k := q) (by omega)
        refine go_aload_n (pc' := 67) cx dX6_seen_66 rfl rfl ?_
        refine go_getr (pc' := 70) cx 111 fX6_86 dX6_seen_67 kq88 (ltn rfl) (ltn rfl) rfl rfl rfl ?_
        refine go_iload_n (pc' := 71) cx dX6_seen_70 rfl rfl ?_
        refine go_zald (pc' := 72) cx (g 111 t) dX6_seen_71 kq111 (ltn rfl) (vpi (k := t) (a := 4) ht rfl rfl) (congrArg (g 111) (cli (k := t) (a := 4) ht rfl)) rfl ?_
        refine go_if_ne (pc' := 75) cx 78 dX6_seen_72 rfl rfl (fun c72 => ?_) (fun c72 => ?_)
        · obtain ⟨sz, hsz, h113⟩ := hSh t ht c72
          refine go_aload_n (pc' := 79) cx dX6_seen_78 rfl rfl ?_
          refine go_getr (pc' := 82) cx 113 fX6_93 dX6_seen_79 kq88 (ltn rfl) (ltn rfl) rfl rfl rfl ?_
          refine go_iload_n (pc' := 83) cx dX6_seen_82 rfl rfl ?_
          refine go_iald (pc' := 84) cx (nI sz) dX6_seen_83 kq113 (ltn rfl) (vpi (k := t) (a := 4) ht rfl rfl) ((congrArg (g 113) (cli (k := t) (a := 4) ht rfl)).trans h113) rfl ?_
          refine go_aload_n (pc' := 85) cx dX6_seen_84 rfl rfl ?_
          refine go_geti (pc' := 88) cx (nI vn) fX6_115 dX6_seen_85 kq88 (ltn rfl) (ltn rfl) rfl hX.2.2.1 rfl ?_
          refine go_icmp_le (pc' := 91) cx 94 dX6_seen_88 rfl rfl (fun c88 => ?_) (fun c88 => ?_)
          · have c88n := Int32.not_lt.mpr c88
            have hsv : sz ≤ vn := (nI_leI (by omega) (by omega)).mp c88
            refine go_iload_n (pc' := 95) cx dX6_seen_94 rfl rfl ?_
            refine go_if_ne (pc' := 98) cx 103 dX6_seen_95 rfl rfl (fun _ => ?_) (fun hh => absurd hh (by decide))
            refine go_iload_n (pc' := 104) cx dX6_seen_103 rfl rfl ?_
            refine go_iconst (pc' := 105) cx 1 dX6_seen_104 rfl rfl ?_
            refine go_icmp_ne (pc' := 108) cx 113 dX6_seen_105 rfl rfl (fun _ => ?_) (fun hh => absurd hh (by decide))
            refine go_iload_n (pc' := 114) cx dX6_seen_113 rfl rfl ?_
            refine go_iconst (pc' := 115) cx 2 dX6_seen_114 rfl rfl ?_
            refine go_icmp_ne (pc' := 118) cx 123 dX6_seen_115 rfl rfl (fun _ => ?_) (fun hh => absurd hh (by decide))
            refine go_iload_n (pc' := 124) cx dX6_seen_123 rfl rfl ?_
            refine go_iconst (pc' := 125) cx 1 dX6_seen_124 rfl rfl ?_
            refine go_iadd (pc' := 126) cx dX6_seen_125 rfl ?_
            refine go_val (w := .int 5) (congrArg Value.int (by decide)) ?_
            refine go_istore (pc' := 128) cx dX6_seen_126 (ltn rfl) [(5, .int 5), (0, .ref (E.2.1 88)), (1, .int (nI t)), (2, .int (nI pl)), (3, .int 4), (4, .int (nI q))] rfl rfl ?_
            refine go_iload_n (pc' := 129) cx dX6_seen_128 rfl rfl ?_
            refine go_if_ne (pc' := 132) cx 139 dX6_seen_129 rfl rfl (fun _ => ?_) (fun hh => absurd hh (by decide))
            refine go_iload_n (pc' := 140) cx dX6_seen_139 rfl rfl ?_
            refine go_iconst (pc' := 141) cx 1 dX6_seen_140 rfl rfl ?_
            refine go_icmp_ne (pc' := 144) cx 148 dX6_seen_141 rfl rfl (fun _ => ?_) (fun hh => absurd hh (by decide))
            refine go_iload_n (pc' := 149) cx dX6_seen_148 rfl rfl ?_
            refine go_iconst (pc' := 150) cx 2 dX6_seen_149 rfl rfl ?_
            refine go_icmp_ne (pc' := 153) cx 158 dX6_seen_150 rfl rfl (fun _ => ?_) (fun hh => absurd hh (by decide))
            refine go_iload_n (pc' := 159) cx dX6_seen_158 rfl rfl ?_
            refine go_iconst (pc' := 160) cx 3 dX6_seen_159 rfl rfl ?_
            refine go_icmp_ne (pc' := 163) cx 168 dX6_seen_160 rfl rfl (fun _ => ?_) (fun hh => absurd hh (by decide))
            refine go_iload_n (pc' := 169) cx dX6_seen_168 rfl rfl ?_
            refine go_iconst (pc' := 170) cx 4 dX6_seen_169 rfl rfl ?_
            refine go_icmp_ne (pc' := 173) cx 178 dX6_seen_170 rfl rfl (fun hh => absurd hh (by decide)) (fun _ => ?_)
            refine go_bipush (pc' := 175) cx 11 dX6_seen_173 rfl rfl ?_
            refine go_goto cx 182 dX6_seen_175 rfl ?_
            refine go_istore (pc' := 184) cx dX6_seen_182 (ltn rfl) [(6, .int 11), (5, .int 5), (0, .ref (E.2.1 88)), (1, .int (nI t)), (2, .int (nI pl)), (3, .int 4), (4, .int (nI q))] rfl rfl ?_
            refine go_iload_n (pc' := 185) cx dX6_seen_184 rfl rfl ?_
            refine go_iconst (pc' := 186) cx 5 dX6_seen_185 rfl rfl ?_
            refine go_icmp_ne (pc' := 189) cx 196 dX6_seen_186 rfl rfl (fun _ => ?_) (fun hh => absurd hh (by decide))
            refine go_aload_n (pc' := 197) cx dX6_seen_196 rfl rfl ?_
            refine go_iload (pc' := 199) cx dX6_seen_197 rfl rfl ?_
            refine go_iload (pc' := 201) cx dX6_seen_199 rfl rfl ?_
            refine go_cVI (pc' := 204) cx (c_X6_told l E (g := g) hb.1 hb.2 hX.2.1 hX.2.2.1 (nI q) 5) mX6_told lX6_136 dX6_seen_201 kq88 (ltn rfl) (ltn rfl) rfl rfl rfl rfl (ltn rfl) (Nat.le_of_ble_eq_true rfl) (Nat.le_of_ble_eq_true rfl) rfl (fun xt gt htl => ?_)
            obtain ⟨eg, htl⟩ := htl
            subst eg
            have ex : xt = gt 97 q := by
              rcases htl with ⟨-, h9 | h9⟩ | ⟨w8, q8, h1, h2, h3, h4, -, h5⟩
              · exact absurd h9 (by decide)
              · exact absurd h9 (show ¬ inI (nI hn) (nI q) = 0 from c60)
              · have e8 : w8 = 5 := ((nI_eq (a := 5) (b := w8) (by omega) (by omega)).mp h3).symm
                subst e8
                rw [h5]
                rw [(nI_eq (a := q) (b := q8) (by omega) (by omega)).mp (h4 (by omega))]
                rfl
            refine go_istore (pc' := 206) cx dX6_seen_204 (ltn rfl) [(7, .int xt), (6, .int 11), (5, .int 5), (0, .ref (E.2.1 88)), (1, .int (nI t)), (2, .int (nI pl)), (3, .int 4), (4, .int (nI q))] rfl rfl ?_
            refine go_iconst (pc' := 207) cx 0 dX6_seen_206 rfl rfl ?_
            refine go_istore (pc' := 209) cx dX6_seen_207 (ltn rfl) [(8, .int 0), (7, .int xt), (6, .int 11), (5, .int 5), (0, .ref (E.2.1 88)), (1, .int (nI t)), (2, .int (nI pl)), (3, .int 4), (4, .int (nI q))] rfl rfl ?_
            refine go_iconst (pc' := 210) cx 0 dX6_seen_209 rfl rfl ?_
            refine go_istore (pc' := 212) cx dX6_seen_210 (ltn rfl) [(9, .int 0), (8, .int 0), (7, .int xt), (6, .int 11), (5, .int 5), (0, .ref (E.2.1 88)), (1, .int (nI t)), (2, .int (nI pl)), (3, .int 4), (4, .int (nI q))] rfl rfl ?_
            refine go_sub [0, 1, 5, 6, 7, 8, 9, 4, 3, 2] [(9, .int (nI 0)), (8, .int (btF (fun v => fotF (TMx CS ru) (up2 (svM gt) 5 q (nI v)) (fun k9 => gt 114 (40 * t + k9)) pl sz) 0)), (0, .ref (E.2.1 88)), (1, .int (nI t)), (2, .int (nI pl)), (3, .int 4), (4, .int (nI q)), (5, .int 5), (6, .int (nI 11)), (7, .int xt)] rfl ?_
            refine seen_loopM4 (g := gt) hX ht hpl hsv h113 xt (by omega) (by omega) cx 11 0 gt z (by omega) FrN.rf hS0 (fun G9 z9 f9 s9 => ?_)
            refine go_iload_n (pc' := 273) cx dX6_seen_272 rfl rfl ?_
            refine go_iconst (pc' := 274) cx 5 dX6_seen_273 rfl rfl ?_
            refine go_icmp_ne (pc' := 277) cx 286 dX6_seen_274 rfl rfl (fun _ => ?_) (fun hh => absurd hh (by decide))
            refine go_aload_n (pc' := 287) cx dX6_seen_286 rfl rfl ?_
            refine go_iload (pc' := 289) cx dX6_seen_287 rfl rfl ?_
            refine go_iload (pc' := 291) cx dX6_seen_289 rfl rfl ?_
            refine go_iload (pc' := 293) cx dX6_seen_291 rfl rfl ?_
            refine go_cVu (pc' := 296) cx (c_X6_lays5 l E (g := G9) (by omega) xt) mX6_lays lX6_140 dX6_seen_293 kq88 (ltn rfl) (ltn rfl) rfl rfl rfl rfl (ltn rfl) (Nat.le_of_ble_eq_true rfl) (Nat.le_of_ble_eq_true rfl) rfl ?_
            refine go_iload (pc' := 298) cx dX6_seen_296 rfl rfl ?_
            refine go_iret cx rfl dX6_seen_298 ?_
            exact ZIz.mk ⟨by
              rw [seenF_p (M := TMx CS) (ru := ru) (a := svM gt) (hn := hn) (vn := vn) (tc := tc) (sh := shM gt) (k := 4) ht hpl (fun _ => (show ¬ inI (nI (sCn hn vn 4)) (nI q) = 0 from c60)) (shM_n h113 hsz), if_pos (prF_0 (shM_1 c72) hsv), if_neg (by omega), clq]
              rfl, by rw [ex]; exact f9.back, s9.fr (funext fun k9 => up2_n _ _ (by omega))⟩
          · have c88n := Int32.not_le.mp c88
            refine go_bipush (pc' := 93) cx (-2) dX6_seen_91 rfl rfl ?_
            refine go_iret cx rfl dX6_seen_93 ?_
            exact ZIz.mk ⟨by
              rw [seenF_p (M := TMx CS) (ru := ru) (a := svM g) (hn := hn) (vn := vn) (tc := tc) (sh := shM g) (k := 4) ht hpl (fun _ => (show ¬ inI (nI (sCn hn vn 4)) (nI q) = 0 from c60)) (shM_n h113 hsz), prF_2 (shM_1 c72) (fun q9 => c88 ((nI_leI (by omega) (by omega)).mpr q9))]
              rfl, FrK.rf, hS0⟩
        · refine go_bipush (pc' := 77) cx (-11) dX6_seen_75 rfl rfl ?_
          refine go_iret cx rfl dX6_seen_77 ?_
          exact ZIz.mk ⟨by
            rw [seenF_p (M := TMx CS) (ru := ru) (a := svM g) (hn := hn) (vn := vn) (tc := tc) (sh := shM g) (k := 4) ht hpl (fun _ => (show ¬ inI (nI (sCn hn vn 4)) (nI q) = 0 from c60)) rfl, prF_1 (shM_0 c72)]
            rfl, FrK.rf, hS0⟩
      · refine go_bipush (pc' := 65) cx (-2) dX6_seen_63 rfl rfl ?_
        refine go_iret cx rfl dX6_seen_65 ?_
        obtain ⟨t, ht, et⟩ := in_ok (k := 4) (by omega) c4
        subst et
        obtain ⟨pl, hpl, epl⟩ := in_ok (k := 4) (by omega) c11
        subst epl
        exact ZIz.mk ⟨(seenF_b2 (M := TMx CS) (ru := ru) (a := svM g) (hn := hn) (vn := vn) (tc := tc) (sh := shM g) (k := 4) ht hpl (by omega) (show inI (nI (sCn hn vn 4)) x4 = 0 from c60)).symm, FrK.rf, hS0⟩

set_option maxHeartbeats 1000000 in
set_option maxRecDepth 20000 in
theorem seen_loopM5 {l : Launch} {E : Ev} {Z : ZT} {o : Option Nat} {p : Program} {e : Env} {s : State} {m : MethodId} {args : Array Value} {below : List Frame} {meth : Method} {c : Code} {g : IG} {hn vn ru tc : Nat} {CS : CSt} (hX : XM g hn vn ru tc CS) {t pl sz n9 : Nat} (ht : t < 4) (hpl : pl < 4) (hsz : sz ≤ vn) (h113 : g 113 t = nI sz) (xw : Int32) (x4 : Int32) (hm : n9 ≤ tc) (cx : Cx p s m args meth c E 115 cX6_seen 10 yX6_seen.cls (some .int)) : ∀ (j v : Nat) (G : IG) (z : Int64), v + j = n9 → FrN 88 4 g G → SdI G tc CS → (∀ (G9 : IG) (z9 : Int64), FrN 88 4 g G9 → SdI G9 tc CS → Go p l e (rmd 50) s m args below meth c E 115 10 Z G9 (RFo o) z9 272 [(9, .int (nI n9)), (8, .int (btF (fun v => fotF (TMx CS v) (svM g) (fun k9 => g 114 (40 * t + k9)) pl sz) n9)), (0, .ref (E.2.1 88)), (1, .int (nI t)), (2, .int (nI pl)), (3, .int 5), (4, .int x4), (5, .int 6), (6, .int (nI n9)), (7, .int xw)] []) → Go p l e (rmd 50) s m args below meth c E 115 10 Z G (RFo o) z 212 [(9, .int (nI v)), (8, .int (btF (fun v => fotF (TMx CS v) (svM g) (fun k9 => g 114 (40 * t + k9)) pl sz) v)), (0, .ref (E.2.1 88)), (1, .int (nI t)), (2, .int (nI pl)), (3, .int 5), (4, .int x4), (5, .int 6), (6, .int (nI n9)), (7, .int xw)] [] := by
  have hb := hX.1
  have htc6 := hX.2.2.2.2.2.2.1
  intro j
  induction j with
  | zero =>
    intro v G z hk hF hS kk
    have hv : v = n9 := by omega
    subst hv
    refine go_iload (pc' := 214) cx dX6_seen_212 rfl rfl ?_
    refine go_iload (pc' := 216) cx dX6_seen_214 rfl rfl ?_
    refine go_icmp_ge (pc' := 219) cx 272 dX6_seen_216 rfl rfl (fun _ => ?_) (fun hh9 => absurd (Int32.le_refl _) hh9)
    exact kk G z hF hS
  | succ j ih =>
    intro v G z hk hF hS kk
    refine go_iload (pc' := 214) cx dX6_seen_212 rfl rfl ?_
    refine go_iload (pc' := 216) cx dX6_seen_214 rfl rfl ?_
    refine go_icmp_ge (pc' := 219) cx 272 dX6_seen_216 rfl rfl (fun hh9 => absurd ((nI_leI (a := n9) (b := v) (by omega) (by omega)).mp hh9) (by omega)) (fun _ => ?_)
    refine go_iload_n (pc' := 220) cx dX6_seen_219 rfl rfl ?_
    refine go_iconst (pc' := 221) cx 5 dX6_seen_220 rfl rfl ?_
    refine go_icmp_ne (pc' := 224) cx 233 dX6_seen_221 rfl rfl (fun hh => absurd hh (by decide)) (fun _ => ?_)
    refine go_aload_n (pc' := 225) cx dX6_seen_224 rfl rfl ?_
    refine go_iload (pc' := 227) cx dX6_seen_225 rfl rfl ?_
    refine go_puti (pc' := 230) cx fX6_367 dX6_seen_227 kq88 (ltn rfl) (ltn rfl) rfl rfl rfl rfl ?_
    refine go_goto cx 243 dX6_seen_230 rfl ?_
    refine go_iload (pc' := 245) cx dX6_seen_243 rfl rfl ?_
    refine go_aload_n (pc' := 246) cx dX6_seen_245 rfl rfl ?_
    refine go_iload_n (pc' := 247) cx dX6_seen_246 rfl rfl ?_
    refine go_iload_n (pc' := 248) cx dX6_seen_247 rfl rfl ?_
    have hXn : XM (up2 G 88 4 (nI v)) hn vn v tc CS := XM.fn5 hX hF hS (by omega)
    have esv : svM (up2 G 88 4 (nI v)) = svM g := FrN.sv5 hF (nI v)
    have e114 : (up2 G 88 4 (nI v)) 114 = g 114 := hF.c (by omega) (by omega) (by omega)
    refine go_cVIz (pc' := 251) cx (c_X6_unlikeAt l E (g := (up2 G 88 4 (nI v))) hXn (t := t) (pl := pl) (sz := sz) ht hpl hsz ((congrFun (hF.c (x := nI v) (by omega) (by omega) (by omega) : (up2 G 88 4 (nI v)) 113 = g 113) t).trans h113)) mX6_unlikeAt lX6_438 dX6_seen_248 kq88 (ltn rfl) (ltn rfl) rfl rfl rfl rfl (ltn rfl) (Nat.le_of_ble_eq_true rfl) (Nat.le_of_ble_eq_true rfl) rfl (fun xu GU zu hu => ?_)
    obtain ⟨eu, fu, su⟩ := hu
    have ef : (fun v => fotF (TMx CS v) (svM g) (fun k9 => g 114 (40 * t + k9)) pl sz) v = xu := by
      rw [eu, esv, e114]
    have hF2 : FrN 88 4 g GU := hF.step fu
    refine go_iconst (pc' := 252) cx (-1) dX6_seen_251 rfl rfl ?_
    refine go_icmp_ne (pc' := 255) cx 259 dX6_seen_252 rfl rfl (fun c252 => ?_) (fun c252 => ?_)
    · refine go_iconst (pc' := 260) cx 0 dX6_seen_259 rfl rfl ?_
      refine go_iload (pc' := 262) cx dX6_seen_260 rfl rfl ?_
      refine go_ishl (pc' := 263) cx dX6_seen_262 rfl ?_
      refine go_ior (pc' := 264) cx dX6_seen_263 rfl ?_
      refine go_val (w := .int (btF (fun v => fotF (TMx CS v) (svM g) (fun k9 => g 114 (40 * t + k9)) pl sz) (v + 1))) (congrArg Value.int (bt_0 (f := (fun v => fotF (TMx CS v) (svM g) (fun k9 => g 114 (40 * t + k9)) pl sz)) (k := v) (fun q9 => c252 (ef.symm.trans q9)))) ?_
      refine go_istore (pc' := 266) cx dX6_seen_264 (ltn rfl) [(8, .int (btF (fun v => fotF (TMx CS v) (svM g) (fun k9 => g 114 (40 * t + k9)) pl sz) (v + 1))), (9, .int (nI v)), (0, .ref (E.2.1 88)), (1, .int (nI t)), (2, .int (nI pl)), (3, .int 5), (4, .int x4), (5, .int 6), (6, .int (nI n9)), (7, .int xw)] rfl rfl ?_
      refine go_iinc (pc' := 269) cx (nI (v + 1)) dX6_seen_266 rfl (nI_1 v) (ltn rfl) [(9, .int (nI (v + 1))), (8, .int (btF (fun v => fotF (TMx CS v) (svM g) (fun k9 => g 114 (40 * t + k9)) pl sz) (v + 1))), (0, .ref (E.2.1 88)), (1, .int (nI t)), (2, .int (nI pl)), (3, .int 5), (4, .int x4), (5, .int 6), (6, .int (nI n9)), (7, .int xw)] rfl rfl ?_
      refine go_goto cx 212 dX6_seen_269 rfl ?_
      exact ih (v + 1) GU zu (by omega) hF2 su kk
    · refine go_iconst (pc' := 256) cx 1 dX6_seen_255 rfl rfl ?_
      refine go_goto cx 260 dX6_seen_256 rfl ?_
      refine go_iload (pc' := 262) cx dX6_seen_260 rfl rfl ?_
      refine go_ishl (pc' := 263) cx dX6_seen_262 rfl ?_
      refine go_ior (pc' := 264) cx dX6_seen_263 rfl ?_
      refine go_val (w := .int (btF (fun v => fotF (TMx CS v) (svM g) (fun k9 => g 114 (40 * t + k9)) pl sz) (v + 1))) (congrArg Value.int (bt_1 (f := (fun v => fotF (TMx CS v) (svM g) (fun k9 => g 114 (40 * t + k9)) pl sz)) (k := v) (ef.trans c252))) ?_
      refine go_istore (pc' := 266) cx dX6_seen_264 (ltn rfl) [(8, .int (btF (fun v => fotF (TMx CS v) (svM g) (fun k9 => g 114 (40 * t + k9)) pl sz) (v + 1))), (9, .int (nI v)), (0, .ref (E.2.1 88)), (1, .int (nI t)), (2, .int (nI pl)), (3, .int 5), (4, .int x4), (5, .int 6), (6, .int (nI n9)), (7, .int xw)] rfl rfl ?_
      refine go_iinc (pc' := 269) cx (nI (v + 1)) dX6_seen_266 rfl (nI_1 v) (ltn rfl) [(9, .int (nI (v + 1))), (8, .int (btF (fun v => fotF (TMx CS v) (svM g) (fun k9 => g 114 (40 * t + k9)) pl sz) (v + 1))), (0, .ref (E.2.1 88)), (1, .int (nI t)), (2, .int (nI pl)), (3, .int 5), (4, .int x4), (5, .int 6), (6, .int (nI n9)), (7, .int xw)] rfl rfl ?_
      refine go_goto cx 212 dX6_seen_269 rfl ?_
      exact ih (v + 1) GU zu (by omega) hF2 su kk

set_option maxHeartbeats 1000000 in
set_option maxRecDepth 20000 in
theorem c_X6_seen_5 (l : Launch) (E : Ev) {g : IG} {o : Option Nat} {z : Int64} {hn vn ru tc : Nat} {CS : CSt} (hX : XM g hn vn ru tc CS) (hSh : ShMX g) (x1 x2 x4 : Int32) : Ct l E 115 yX6_seen cX6_seen 10 (some .int) 50 [.ref (E.2.1 88), .int x1, .int x2, .int 5, .int x4] g (RFo o) z (ZIz (RFo o) (fun x g1 z1 => x = seenF (TMx CS) ru (svM g) hn vn tc (shM g) 5 x1 x2 x4 ∧ FrK g g1 ∧ SdI g1 tc CS)) := by
  refine Ct.of (lv0 := [(0, .ref (E.2.1 88)), (1, .int x1), (2, .int x2), (3, .int 5), (4, .int x4)]) (by decide) (Nat.le_of_ble_eq_true rfl) rfl ?_
  intro p e s m below meth c cx
  have hb := hX.1
  have hS0 := hX.2.2.2.2.2.2.2.2.2.2
  have htc6 := hX.2.2.2.2.2.2.1
  refine go_iload_n (pc' := 1) cx dX6_seen_0 rfl rfl ?_
  refine go_cSi (pc' := 4) cx (c_X6_isSheet l E (g := g) x1) mX6_isSheet lX6_435 dX6_seen_1 rfl rfl rfl (ltn rfl) (Nat.le_of_ble_eq_true rfl) (Nat.le_of_ble_eq_true rfl) rfl ?_
  refine go_if_eq (pc' := 7) cx 63 dX6_seen_4 rfl rfl (fun c4 => ?_) (fun c4 => ?_)
  · refine go_bipush (pc' := 65) cx (-2) dX6_seen_63 rfl rfl ?_
    refine go_iret cx rfl dX6_seen_65 ?_
    exact ZIz.mk ⟨(seenF_b1 (k := 5) (Or.inl c4)).symm, FrK.rf, hS0⟩
  · refine go_iload_n (pc' := 8) cx dX6_seen_7 rfl rfl ?_
    refine go_cSi (pc' := 11) cx (c_X6_isPlace l E (g := g) x2) mX6_isPlace lX6_118 dX6_seen_8 rfl rfl rfl (ltn rfl) (Nat.le_of_ble_eq_true rfl) (Nat.le_of_ble_eq_true rfl) rfl ?_
    refine go_if_eq (pc' := 14) cx 63 dX6_seen_11 rfl rfl (fun c11 => ?_) (fun c11 => ?_)
    · refine go_bipush (pc' := 65) cx (-2) dX6_seen_63 rfl rfl ?_
      refine go_iret cx rfl dX6_seen_65 ?_
      exact ZIz.mk ⟨(seenF_b1 (k := 5) (Or.inr c11)).symm, FrK.rf, hS0⟩
    · refine go_iload_n (pc' := 15) cx dX6_seen_14 rfl rfl ?_
      refine go_i2l (pc' := 16) cx dX6_seen_15 rfl ?_
      refine go_lconst (pc' := 17) cx 0 dX6_seen_16 rfl rfl ?_
      refine go_val (w := .long (((0 : Int32)).toInt64)) (congrArg Value.long (by decide)) ?_
      refine go_ldc2 (pc' := 20) cx 5 kX6_144 dX6_seen_17 rfl ?_
      refine go_val (w := .long (((5 : Int32)).toInt64)) (congrArg Value.long (by decide)) ?_
      refine go_cSi (pc' := 23) cx (c_X6_in l E (g := g) (5 : Int32) (0 : Int32) (5 : Int32)) mX6_in lX6_108 dX6_seen_20 rfl rfl rfl (ltn rfl) (Nat.le_of_ble_eq_true rfl) (Nat.le_of_ble_eq_true rfl) rfl ?_
      refine go_if_eq (pc' := 26) cx 63 dX6_seen_23 rfl rfl (fun hh9 => absurd hh9 (by decide)) (fun _ => ?_)
      refine go_iload_n (pc' := 27) cx dX6_seen_26 rfl rfl ?_
      refine go_iconst (pc' := 28) cx 3 dX6_seen_27 rfl rfl ?_
      refine go_icmp_ge (pc' := 31) cx 40 dX6_seen_28 rfl rfl (fun _ => ?_) (fun hh => absurd hh (by decide))
      refine go_iload_n (pc' := 41) cx dX6_seen_40 rfl rfl ?_
      refine go_i2l (pc' := 42) cx dX6_seen_41 rfl ?_
      refine go_ldc2 (pc' := 45) cx 3 kX6_106 dX6_seen_42 rfl ?_
      refine go_val (w := .long (((3 : Int32)).toInt64)) (congrArg Value.long (by decide)) ?_
      refine go_ldc2 (pc' := 48) cx 4 kX6_424 dX6_seen_45 rfl ?_
      refine go_val (w := .long (((4 : Int32)).toInt64)) (congrArg Value.long (by decide)) ?_
      refine go_cSi (pc' := 51) cx (c_X6_in l E (g := g) (5 : Int32) (3 : Int32) (4 : Int32)) mX6_in lX6_108 dX6_seen_48 rfl rfl rfl (ltn rfl) (Nat.le_of_ble_eq_true rfl) (Nat.le_of_ble_eq_true rfl) rfl ?_
      refine go_if_eq (pc' := 54) cx 66 dX6_seen_51 rfl rfl (fun _ => ?_) (fun hh9 => absurd (by decide) hh9)
      obtain ⟨t, ht, et⟩ := in_ok (k := 4) (by omega) c4
      subst et
      have clt := clI_n (k := t) (by omega)
      obtain ⟨pl, hpl, epl⟩ := in_ok (k := 4) (by omega) c11
      subst epl
      have clpl := clI_n (k := pl) (by omega)
      refine go_aload_n (pc' := 67) cx dX6_seen_66 rfl rfl ?_
      refine go_getr (pc' := 70) cx 111 fX6_86 dX6_seen_67 kq88 (ltn rfl) (ltn rfl) rfl rfl rfl ?_
      refine go_iload_n (pc' := 71) cx dX6_seen_70 rfl rfl ?_
      refine go_zald (pc' := 72) cx (g 111 t) dX6_seen_71 kq111 (ltn rfl) (vpi (k := t) (a := 4) ht rfl rfl) (congrArg (g 111) (cli (k := t) (a := 4) ht rfl)) rfl ?_
      refine go_if_ne (pc' := 75) cx 78 dX6_seen_72 rfl rfl (fun c72 => ?_) (fun c72 => ?_)
      · obtain ⟨sz, hsz, h113⟩ := hSh t ht c72
        refine go_aload_n (pc' := 79) cx dX6_seen_78 rfl rfl ?_
        refine go_getr (pc' := 82) cx 113 fX6_93 dX6_seen_79 kq88 (ltn rfl) (ltn rfl) rfl rfl rfl ?_
        refine go_iload_n (pc' := 83) cx dX6_seen_82 rfl rfl ?_
        refine go_iald (pc' := 84) cx (nI sz) dX6_seen_83 kq113 (ltn rfl) (vpi (k := t) (a := 4) ht rfl rfl) ((congrArg (g 113) (cli (k := t) (a := 4) ht rfl)).trans h113) rfl ?_
        refine go_aload_n (pc' := 85) cx dX6_seen_84 rfl rfl ?_
        refine go_geti (pc' := 88) cx (nI vn) fX6_115 dX6_seen_85 kq88 (ltn rfl) (ltn rfl) rfl hX.2.2.1 rfl ?_
        refine go_icmp_le (pc' := 91) cx 94 dX6_seen_88 rfl rfl (fun c88 => ?_) (fun c88 => ?_)
        · have c88n := Int32.not_lt.mpr c88
          have hsv : sz ≤ vn := (nI_leI (by omega) (by omega)).mp c88
          refine go_iload_n (pc' := 95) cx dX6_seen_94 rfl rfl ?_
          refine go_if_ne (pc' := 98) cx 103 dX6_seen_95 rfl rfl (fun _ => ?_) (fun hh => absurd hh (by decide))
          refine go_iload_n (pc' := 104) cx dX6_seen_103 rfl rfl ?_
          refine go_iconst (pc' := 105) cx 1 dX6_seen_104 rfl rfl ?_
          refine go_icmp_ne (pc' := 108) cx 113 dX6_seen_105 rfl rfl (fun _ => ?_) (fun hh => absurd hh (by decide))
          refine go_iload_n (pc' := 114) cx dX6_seen_113 rfl rfl ?_
          refine go_iconst (pc' := 115) cx 2 dX6_seen_114 rfl rfl ?_
          refine go_icmp_ne (pc' := 118) cx 123 dX6_seen_115 rfl rfl (fun _ => ?_) (fun hh => absurd hh (by decide))
          refine go_iload_n (pc' := 124) cx dX6_seen_123 rfl rfl ?_
          refine go_iconst (pc' := 125) cx 1 dX6_seen_124 rfl rfl ?_
          refine go_iadd (pc' := 126) cx dX6_seen_125 rfl ?_
          refine go_val (w := .int 6) (congrArg Value.int (by decide)) ?_
          refine go_istore (pc' := 128) cx dX6_seen_126 (ltn rfl) [(5, .int 6), (0, .ref (E.2.1 88)), (1, .int (nI t)), (2, .int (nI pl)), (3, .int 5), (4, .int x4)] rfl rfl ?_
          refine go_iload_n (pc' := 129) cx dX6_seen_128 rfl rfl ?_
          refine go_if_ne (pc' := 132) cx 139 dX6_seen_129 rfl rfl (fun _ => ?_) (fun hh => absurd hh (by decide))
          refine go_iload_n (pc' := 140) cx dX6_seen_139 rfl rfl ?_
          refine go_iconst (pc' := 141) cx 1 dX6_seen_140 rfl rfl ?_
          refine go_icmp_ne (pc' := 144) cx 148 dX6_seen_141 rfl rfl (fun _ => ?_) (fun hh => absurd hh (by decide))
          refine go_iload_n (pc' := 149) cx dX6_seen_148 rfl rfl ?_
          refine go_iconst (pc' := 150) cx 2 dX6_seen_149 rfl rfl ?_
          refine go_icmp_ne (pc' := 153) cx 158 dX6_seen_150 rfl rfl (fun _ => ?_) (fun hh => absurd hh (by decide))
          refine go_iload_n (pc' := 159) cx dX6_seen_158 rfl rfl ?_
          refine go_iconst (pc' := 160) cx 3 dX6_seen_159 rfl rfl ?_
          refine go_icmp_ne (pc' := 163) cx 168 dX6_seen_160 rfl rfl (fun _ => ?_) (fun hh => absurd hh (by decide))
          refine go_iload_n (pc' := 169) cx dX6_seen_168 rfl rfl ?_
          refine go_iconst (pc' := 170) cx 4 dX6_seen_169 rfl rfl ?_
          refine go_icmp_ne (pc' := 173) cx 178 dX6_seen_170 rfl rfl (fun _ => ?_) (fun hh => absurd hh (by decide))
          refine go_aload_n (pc' := 179) cx dX6_seen_178 rfl rfl ?_
          refine go_geti (pc' := 182) cx (nI tc) fX6_103 dX6_seen_179 kq88 (ltn rfl) (ltn rfl) rfl hX.2.2.2.2.2.2.2.2.1 rfl ?_
          refine go_istore (pc' := 184) cx dX6_seen_182 (ltn rfl) [(6, .int (nI tc)), (5, .int 6), (0, .ref (E.2.1 88)), (1, .int (nI t)), (2, .int (nI pl)), (3, .int 5), (4, .int x4)] rfl rfl ?_
          refine go_iload_n (pc' := 185) cx dX6_seen_184 rfl rfl ?_
          refine go_iconst (pc' := 186) cx 5 dX6_seen_185 rfl rfl ?_
          refine go_icmp_ne (pc' := 189) cx 196 dX6_seen_186 rfl rfl (fun hh => absurd hh (by decide)) (fun _ => ?_)
          refine go_aload_n (pc' := 190) cx dX6_seen_189 rfl rfl ?_
          refine go_geti (pc' := 193) cx (nI ru) fX6_367 dX6_seen_190 kq88 (ltn rfl) (ltn rfl) rfl hX.2.2.2.2.2.2.2.1 rfl ?_
          refine go_goto cx 204 dX6_seen_193 rfl ?_
          refine go_istore (pc' := 206) cx dX6_seen_204 (ltn rfl) [(7, .int (nI ru)), (6, .int (nI tc)), (5, .int 6), (0, .ref (E.2.1 88)), (1, .int (nI t)), (2, .int (nI pl)), (3, .int 5), (4, .int x4)] rfl rfl ?_
          refine go_iconst (pc' := 207) cx 0 dX6_seen_206 rfl rfl ?_
          refine go_istore (pc' := 209) cx dX6_seen_207 (ltn rfl) [(8, .int 0), (7, .int (nI ru)), (6, .int (nI tc)), (5, .int 6), (0, .ref (E.2.1 88)), (1, .int (nI t)), (2, .int (nI pl)), (3, .int 5), (4, .int x4)] rfl rfl ?_
          refine go_iconst (pc' := 210) cx 0 dX6_seen_209 rfl rfl ?_
          refine go_istore (pc' := 212) cx dX6_seen_210 (ltn rfl) [(9, .int 0), (8, .int 0), (7, .int (nI ru)), (6, .int (nI tc)), (5, .int 6), (0, .ref (E.2.1 88)), (1, .int (nI t)), (2, .int (nI pl)), (3, .int 5), (4, .int x4)] rfl rfl ?_
          refine go_sub [0, 1, 5, 6, 7, 8, 9, 4, 3, 2] [(9, .int (nI 0)), (8, .int (btF (fun v => fotF (TMx CS v) (svM g) (fun k9 => g 114 (40 * t + k9)) pl sz) 0)), (0, .ref (E.2.1 88)), (1, .int (nI t)), (2, .int (nI pl)), (3, .int 5), (4, .int x4), (5, .int 6), (6, .int (nI tc)), (7, .int (nI ru))] rfl ?_
          refine seen_loopM5 (g := g) hX ht hpl hsv h113 (nI ru) x4 (Nat.le_refl _) cx tc 0 g z (by omega) FrN.rf hS0 (fun G9 z9 f9 s9 => ?_)
          refine go_iload_n (pc' := 273) cx dX6_seen_272 rfl rfl ?_
          refine go_iconst (pc' := 274) cx 5 dX6_seen_273 rfl rfl ?_
          refine go_icmp_ne (pc' := 277) cx 286 dX6_seen_274 rfl rfl (fun hh => absurd hh (by decide)) (fun _ => ?_)
          refine go_aload_n (pc' := 278) cx dX6_seen_277 rfl rfl ?_
          refine go_iload (pc' := 280) cx dX6_seen_278 rfl rfl ?_
          refine go_puti (pc' := 283) cx fX6_367 dX6_seen_280 kq88 (ltn rfl) (ltn rfl) rfl rfl rfl rfl ?_
          refine go_goto cx 296 dX6_seen_283 rfl ?_
          refine go_iload (pc' := 298) cx dX6_seen_296 rfl rfl ?_
          refine go_iret cx rfl dX6_seen_298 ?_
          exact ZIz.mk ⟨by
            rw [seenF_p (M := TMx CS) (ru := ru) (a := svM g) (hn := hn) (vn := vn) (tc := tc) (sh := shM g) (k := 5) ht hpl (fun h9 => absurd h9 (by omega)) (shM_n h113 hsz), if_pos (prF_0 (shM_1 c72) hsv), if_pos rfl]
            rfl, by rw [← hX.2.2.2.2.2.2.2.1]; exact f9.back, s9.fr (funext fun k9 => up2_n _ _ (by omega))⟩
        · have c88n := Int32.not_le.mp c88
          refine go_bipush (pc' := 93) cx (-2) dX6_seen_91 rfl rfl ?_
          refine go_iret cx rfl dX6_seen_93 ?_
          exact ZIz.mk ⟨by
            rw [seenF_p (M := TMx CS) (ru := ru) (a := svM g) (hn := hn) (vn := vn) (tc := tc) (sh := shM g) (k := 5) ht hpl (fun h9 => absurd h9 (by omega)) (shM_n h113 hsz), prF_2 (shM_1 c72) (fun q9 => c88 ((nI_leI (by omega) (by omega)).mpr q9))]
            rfl, FrK.rf, hS0⟩
      · refine go_bipush (pc' := 77) cx (-11) dX6_seen_75 rfl rfl ?_
        refine go_iret cx rfl dX6_seen_77 ?_
        exact ZIz.mk ⟨by
          rw [seenF_p (M := TMx CS) (ru := ru) (a := svM g) (hn := hn) (vn := vn) (tc := tc) (sh := shM g) (k := 5) ht hpl (fun h9 => absurd h9 (by omega)) rfl, prF_1 (shM_0 c72)]
          rfl, FrK.rf, hS0⟩

set_option maxHeartbeats 1000000 in
set_option maxRecDepth 20000 in
theorem c_X6_seen_n (l : Launch) (E : Ev) {g : IG} {o : Option Nat} {z : Int64} {hn vn ru tc : Nat} {CS : CSt} (hX : XM g hn vn ru tc CS) (x1 x2 x3 x4 : Int32) (h3 : inX 0 5 x3 = 0) : Ct l E 115 yX6_seen cX6_seen 10 (some .int) 50 [.ref (E.2.1 88), .int x1, .int x2, .int x3, .int x4] g (RFo o) z (Zi (RFo o) z (-2) g) := by
  refine Ct.of (lv0 := [(0, .ref (E.2.1 88)), (1, .int x1), (2, .int x2), (3, .int x3), (4, .int x4)]) (by decide) (Nat.le_of_ble_eq_true rfl) rfl ?_
  intro p e s m below meth c cx
  refine go_iload_n (pc' := 1) cx dX6_seen_0 rfl rfl ?_
  refine go_cSi (pc' := 4) cx (c_X6_isSheet l E (g := g) x1) mX6_isSheet lX6_435 dX6_seen_1 rfl rfl rfl (ltn rfl) (Nat.le_of_ble_eq_true rfl) (Nat.le_of_ble_eq_true rfl) rfl ?_
  refine go_if_eq (pc' := 7) cx 63 dX6_seen_4 rfl rfl (fun c4 => ?_) (fun c4 => ?_)
  · refine go_bipush (pc' := 65) cx (-2) dX6_seen_63 rfl rfl ?_
    refine go_iret cx rfl dX6_seen_65 ?_
    exact Zi.mk rfl rfl
  · refine go_iload_n (pc' := 8) cx dX6_seen_7 rfl rfl ?_
    refine go_cSi (pc' := 11) cx (c_X6_isPlace l E (g := g) x2) mX6_isPlace lX6_118 dX6_seen_8 rfl rfl rfl (ltn rfl) (Nat.le_of_ble_eq_true rfl) (Nat.le_of_ble_eq_true rfl) rfl ?_
    refine go_if_eq (pc' := 14) cx 63 dX6_seen_11 rfl rfl (fun c11 => ?_) (fun c11 => ?_)
    · refine go_bipush (pc' := 65) cx (-2) dX6_seen_63 rfl rfl ?_
      refine go_iret cx rfl dX6_seen_65 ?_
      exact Zi.mk rfl rfl
    · refine go_iload_n (pc' := 15) cx dX6_seen_14 rfl rfl ?_
      refine go_i2l (pc' := 16) cx dX6_seen_15 rfl ?_
      refine go_lconst (pc' := 17) cx 0 dX6_seen_16 rfl rfl ?_
      refine go_val (w := .long (((0 : Int32)).toInt64)) (congrArg Value.long (by decide)) ?_
      refine go_ldc2 (pc' := 20) cx 5 kX6_144 dX6_seen_17 rfl ?_
      refine go_val (w := .long (((5 : Int32)).toInt64)) (congrArg Value.long (by decide)) ?_
      refine go_cSi (pc' := 23) cx (c_X6_in l E (g := g) x3 (0 : Int32) (5 : Int32)) mX6_in lX6_108 dX6_seen_20 rfl rfl rfl (ltn rfl) (Nat.le_of_ble_eq_true rfl) (Nat.le_of_ble_eq_true rfl) rfl ?_
      refine go_if_eq (pc' := 26) cx 63 dX6_seen_23 rfl rfl (fun _ => ?_) (fun hh9 => absurd h3 hh9)
      refine go_bipush (pc' := 65) cx (-2) dX6_seen_63 rfl rfl ?_
      refine go_iret cx rfl dX6_seen_65 ?_
      exact Zi.mk rfl rfl
