/-! THE REFERENCE: what it reads, level by level, beside what is read -/
theorem one_of {p : Prop} [Decidable p] (h : ¬ (if p then (1 : Int32) else 0) = 0) : p := Classical.byContradiction fun q => h (if_neg q)
theorem zero_of {p : Prop} [Decidable p] (h : (if p then (1 : Int32) else 0) = 0) : ¬ p := fun q => by
  rw [if_pos q] at h
  exact absurd h (by decide)
def McC (l : Launch) (E : Ev) (o : Option Nat) (g0 : IG) (fr sz : Nat) (R : Nat → Int32) (K : Nat) (y : MethodName) (cc : ByteArray) (nL d : Nat) (F : PF) (D : Nat) : Prop :=
  ∀ (S : PS) (g : IG) (z : Int64), MdS g0 fr sz R K S g z → Ct l E 115 y cc nL (some .int) d [.ref (E.2.1 88)] g (RFo o) z (ZIz (RFo o) (fun x g1 z1 => MdS g0 fr sz R K (F S).1 g1 z1 ∧ ((F S).1.2.2.2 = -1 → GC (evM g0) D (F S).2 x)))
theorem MdS.en {g0 : IG} {fr sz : Nat} {R : Nat → Int32} {K : Nat} {S : PS} {g : IG} {z : Int64} (h : MdS g0 fr sz R K S g z) (hu : S.2.2.2 = -1) (hs : sz ≤ S.2.1) : S.2.2.1 = 10021 := by
  rw [(h.tk hu).1]
  exact tk_0 (kd_end hs).1
theorem MdS.lt {g0 : IG} {fr sz : Nat} {R : Nat → Int32} {K : Nat} {S : PS} {g : IG} {z : Int64} (h : MdS g0 fr sz R K S g z) (hu : S.2.2.2 = -1) (ht : ¬ S.2.2.1 = 10021) : S.2.1 < sz := Nat.not_le.mp fun q => ht (h.en hu q)
theorem lp_app {cs ds es : List Int32} {t : Int32} : cs ++ (ds ++ t :: es) = (cs ++ ds ++ [t]) ++ es := by simp [List.append_assoc]
theorem jn_te {v w : Int32} : jnV 10017 v w = v * w := rfl
theorem jn_pl {v w : Int32} : jnV 10015 v w = v + w := rfl
theorem jn_mi {v w : Int32} : jnV 10016 v w = v - w := rfl

theorem c_isSign_40 (l : Launch) (E : Ev) {g0 g : IG} {o : Option Nat} {z : Int64} {fr sz K : Nat} {R : Nat → Int32} {S : PS} (hC : MCx g0 fr sz R) (hM : MdS g0 fr sz R K S g z)  : Ct l E 115 yX6_isSign cX6_isSign 2 (some .boolean) 1 [.ref (E.2.1 88), .int 40] g (RFo o) z (Zi (RFo o) z (if S.2.2.1 = 10012 then 1 else 0) g) := c_X6_isSign l E hC hM (c1 := 40) (by unfold isSg; simp)
theorem c_isSignF_40 (l : Launch) (E : Ev) {g0 g : IG} {o : Option Nat} {z : Int64} {fr sz K : Nat} {R : Nat → Int32} {S : PS} (hC : MCx g0 fr sz R) (hM : MdS g0 fr sz R K S g z)  (hf : S.2.2.1 = 10022) : Ct l E 115 yX6_isSign cX6_isSign 2 (some .boolean) 1 [.ref (E.2.1 88), .int 40] g (RFo o) z (Zi (RFo o) z 0 g) := by
  have h := c_isSign_40 l E (o := o) hC hM
  rw [hf, if_neg (by decide)] at h
  exact h
theorem c_isSign_41 (l : Launch) (E : Ev) {g0 g : IG} {o : Option Nat} {z : Int64} {fr sz K : Nat} {R : Nat → Int32} {S : PS} (hC : MCx g0 fr sz R) (hM : MdS g0 fr sz R K S g z)  : Ct l E 115 yX6_isSign cX6_isSign 2 (some .boolean) 1 [.ref (E.2.1 88), .int 41] g (RFo o) z (Zi (RFo o) z (if S.2.2.1 = 10013 then 1 else 0) g) := c_X6_isSign l E hC hM (c1 := 41) (by unfold isSg; simp)
theorem c_isSignF_41 (l : Launch) (E : Ev) {g0 g : IG} {o : Option Nat} {z : Int64} {fr sz K : Nat} {R : Nat → Int32} {S : PS} (hC : MCx g0 fr sz R) (hM : MdS g0 fr sz R K S g z)  (hf : S.2.2.1 = 10022) : Ct l E 115 yX6_isSign cX6_isSign 2 (some .boolean) 1 [.ref (E.2.1 88), .int 41] g (RFo o) z (Zi (RFo o) z 0 g) := by
  have h := c_isSign_41 l E (o := o) hC hM
  rw [hf, if_neg (by decide)] at h
  exact h
theorem c_isSign_59 (l : Launch) (E : Ev) {g0 g : IG} {o : Option Nat} {z : Int64} {fr sz K : Nat} {R : Nat → Int32} {S : PS} (hC : MCx g0 fr sz R) (hM : MdS g0 fr sz R K S g z)  : Ct l E 115 yX6_isSign cX6_isSign 2 (some .boolean) 1 [.ref (E.2.1 88), .int 59] g (RFo o) z (Zi (RFo o) z (if S.2.2.1 = 10014 then 1 else 0) g) := c_X6_isSign l E hC hM (c1 := 59) (by unfold isSg; simp)
theorem c_isSignF_59 (l : Launch) (E : Ev) {g0 g : IG} {o : Option Nat} {z : Int64} {fr sz K : Nat} {R : Nat → Int32} {S : PS} (hC : MCx g0 fr sz R) (hM : MdS g0 fr sz R K S g z)  (hf : S.2.2.1 = 10022) : Ct l E 115 yX6_isSign cX6_isSign 2 (some .boolean) 1 [.ref (E.2.1 88), .int 59] g (RFo o) z (Zi (RFo o) z 0 g) := by
  have h := c_isSign_59 l E (o := o) hC hM
  rw [hf, if_neg (by decide)] at h
  exact h
theorem c_isSign_43 (l : Launch) (E : Ev) {g0 g : IG} {o : Option Nat} {z : Int64} {fr sz K : Nat} {R : Nat → Int32} {S : PS} (hC : MCx g0 fr sz R) (hM : MdS g0 fr sz R K S g z)  : Ct l E 115 yX6_isSign cX6_isSign 2 (some .boolean) 1 [.ref (E.2.1 88), .int 43] g (RFo o) z (Zi (RFo o) z (if S.2.2.1 = 10015 then 1 else 0) g) := c_X6_isSign l E hC hM (c1 := 43) (by unfold isSg; simp)
theorem c_isSignF_43 (l : Launch) (E : Ev) {g0 g : IG} {o : Option Nat} {z : Int64} {fr sz K : Nat} {R : Nat → Int32} {S : PS} (hC : MCx g0 fr sz R) (hM : MdS g0 fr sz R K S g z)  (hf : S.2.2.1 = 10022) : Ct l E 115 yX6_isSign cX6_isSign 2 (some .boolean) 1 [.ref (E.2.1 88), .int 43] g (RFo o) z (Zi (RFo o) z 0 g) := by
  have h := c_isSign_43 l E (o := o) hC hM
  rw [hf, if_neg (by decide)] at h
  exact h
theorem c_isSign_45 (l : Launch) (E : Ev) {g0 g : IG} {o : Option Nat} {z : Int64} {fr sz K : Nat} {R : Nat → Int32} {S : PS} (hC : MCx g0 fr sz R) (hM : MdS g0 fr sz R K S g z)  : Ct l E 115 yX6_isSign cX6_isSign 2 (some .boolean) 1 [.ref (E.2.1 88), .int 45] g (RFo o) z (Zi (RFo o) z (if S.2.2.1 = 10016 then 1 else 0) g) := c_X6_isSign l E hC hM (c1 := 45) (by unfold isSg; simp)
theorem c_isSignF_45 (l : Launch) (E : Ev) {g0 g : IG} {o : Option Nat} {z : Int64} {fr sz K : Nat} {R : Nat → Int32} {S : PS} (hC : MCx g0 fr sz R) (hM : MdS g0 fr sz R K S g z)  (hf : S.2.2.1 = 10022) : Ct l E 115 yX6_isSign cX6_isSign 2 (some .boolean) 1 [.ref (E.2.1 88), .int 45] g (RFo o) z (Zi (RFo o) z 0 g) := by
  have h := c_isSign_45 l E (o := o) hC hM
  rw [hf, if_neg (by decide)] at h
  exact h
theorem c_isSign_42 (l : Launch) (E : Ev) {g0 g : IG} {o : Option Nat} {z : Int64} {fr sz K : Nat} {R : Nat → Int32} {S : PS} (hC : MCx g0 fr sz R) (hM : MdS g0 fr sz R K S g z)  : Ct l E 115 yX6_isSign cX6_isSign 2 (some .boolean) 1 [.ref (E.2.1 88), .int 42] g (RFo o) z (Zi (RFo o) z (if S.2.2.1 = 10017 then 1 else 0) g) := c_X6_isSign l E hC hM (c1 := 42) (by unfold isSg; simp)
theorem c_isSignF_42 (l : Launch) (E : Ev) {g0 g : IG} {o : Option Nat} {z : Int64} {fr sz K : Nat} {R : Nat → Int32} {S : PS} (hC : MCx g0 fr sz R) (hM : MdS g0 fr sz R K S g z)  (hf : S.2.2.1 = 10022) : Ct l E 115 yX6_isSign cX6_isSign 2 (some .boolean) 1 [.ref (E.2.1 88), .int 42] g (RFo o) z (Zi (RFo o) z 0 g) := by
  have h := c_isSign_42 l E (o := o) hC hM
  rw [hf, if_neg (by decide)] at h
  exact h
theorem c_isSign_60 (l : Launch) (E : Ev) {g0 g : IG} {o : Option Nat} {z : Int64} {fr sz K : Nat} {R : Nat → Int32} {S : PS} (hC : MCx g0 fr sz R) (hM : MdS g0 fr sz R K S g z)  : Ct l E 115 yX6_isSign cX6_isSign 2 (some .boolean) 1 [.ref (E.2.1 88), .int 60] g (RFo o) z (Zi (RFo o) z (if S.2.2.1 = 10018 then 1 else 0) g) := c_X6_isSign l E hC hM (c1 := 60) (by unfold isSg; simp)
theorem c_isSignF_60 (l : Launch) (E : Ev) {g0 g : IG} {o : Option Nat} {z : Int64} {fr sz K : Nat} {R : Nat → Int32} {S : PS} (hC : MCx g0 fr sz R) (hM : MdS g0 fr sz R K S g z)  (hf : S.2.2.1 = 10022) : Ct l E 115 yX6_isSign cX6_isSign 2 (some .boolean) 1 [.ref (E.2.1 88), .int 60] g (RFo o) z (Zi (RFo o) z 0 g) := by
  have h := c_isSign_60 l E (o := o) hC hM
  rw [hf, if_neg (by decide)] at h
  exact h
theorem c_isSign_61 (l : Launch) (E : Ev) {g0 g : IG} {o : Option Nat} {z : Int64} {fr sz K : Nat} {R : Nat → Int32} {S : PS} (hC : MCx g0 fr sz R) (hM : MdS g0 fr sz R K S g z)  : Ct l E 115 yX6_isSign cX6_isSign 2 (some .boolean) 1 [.ref (E.2.1 88), .int 61] g (RFo o) z (Zi (RFo o) z (if S.2.2.1 = 10019 then 1 else 0) g) := c_X6_isSign l E hC hM (c1 := 61) (by unfold isSg; simp)
theorem c_isSignF_61 (l : Launch) (E : Ev) {g0 g : IG} {o : Option Nat} {z : Int64} {fr sz K : Nat} {R : Nat → Int32} {S : PS} (hC : MCx g0 fr sz R) (hM : MdS g0 fr sz R K S g z)  (hf : S.2.2.1 = 10022) : Ct l E 115 yX6_isSign cX6_isSign 2 (some .boolean) 1 [.ref (E.2.1 88), .int 61] g (RFo o) z (Zi (RFo o) z 0 g) := by
  have h := c_isSign_61 l E (o := o) hC hM
  rw [hf, if_neg (by decide)] at h
  exact h
set_option maxHeartbeats 1000000 in
set_option maxRecDepth 20000 in
theorem term0_loop {l : Launch} {E : Ev} {Z : ZT} {g0 : IG} {o : Option Nat} {p : Program} {e : Env} {s : State} {m : MethodId} {args : Array Value} {below : List Frame} {meth : Method} {c : Code} {fr sz : Nat} {R : Nat → Int32} (hC : MCx g0 fr sz R) {F : PF} (hP : Pp (mT R fr) sz F) {D d : Nat} (hd : 4 ≤ d) (hC1 : McC l E o g0 fr sz R 0 yX6_atom0 cX6_atom0 2 d F D)  (cx : Cx p s m args meth c E 115 cX6_term0 2 yX6_term0.cls (some .int)) : ∀ (k : Nat) (S : PS) (cs : List Int32) (v : Int32) (g : IG) (z : Int64), MdS g0 fr sz R 0 S g z → (S.2.2.2 = -1 → sz ≤ S.2.1 + k) → (S.2.2.2 = -1 → GC (evM g0) (D + 1) cs v) → (∀ x g1 z1, MdS g0 fr sz R 0 (lpF (advS (mT R fr) sz) pTe F k S).1 g1 z1 → ((lpF (advS (mT R fr) sz) pTe F k S).1.2.2.2 = -1 → GC (evM g0) (D + 1) (cs ++ (lpF (advS (mT R fr) sz) pTe F k S).2) x) → Go p l e (rmd (d + 1)) s m args below meth c E 115 2 Z g1 (RFo o) z1 28 [(1, .int x), (0, .ref (E.2.1 88))] []) → Go p l e (rmd (d + 1)) s m args below meth c E 115 2 Z g (RFo o) z 5 [(1, .int v), (0, .ref (E.2.1 88))] [] := by
  intro k
  induction k with
  | zero =>
    intro S cs v g z hM hs hv kk
    refine go_aload_n (pc' := 6) cx dX6_term0_5 rfl rfl ?_
    refine go_bipush (pc' := 8) cx 42 dX6_term0_6 rfl rfl ?_
    refine go_cVi (pc' := 11) cx (c_isSign_42 l E hC hM) mX6_isSign lX6_231 dX6_term0_8 kq88 (ltn rfl) (ltn rfl) rfl rfl rfl rfl (by omega) (Nat.le_of_ble_eq_true rfl) (Nat.le_of_ble_eq_true rfl) rfl ?_
    refine go_if_eq (pc' := 14) cx 28 dX6_term0_11 rfl rfl (fun c11 => ?_) (fun c11 => ?_)
    · have h9 : lpF (advS (mT R fr) sz) pTe F 0 S = (S, []) := rfl
      rw [h9] at kk
      exact kk v g z hM (fun q => by rw [show cs ++ ([] : List Int32) = cs from List.append_nil cs]; exact hv q)
    · have t9 : S.2.2.1 = 10017 := one_of c11
      have u9 := hM.2.2.1.un (by rw [t9]; decide)
      exact absurd ((hM.en u9 (hs u9)).symm.trans t9) (by decide)
  | succ k ih =>
    intro S cs v g z hM hs hv kk
    refine go_aload_n (pc' := 6) cx dX6_term0_5 rfl rfl ?_
    refine go_bipush (pc' := 8) cx 42 dX6_term0_6 rfl rfl ?_
    refine go_cVi (pc' := 11) cx (c_isSign_42 l E hC hM) mX6_isSign lX6_231 dX6_term0_8 kq88 (ltn rfl) (ltn rfl) rfl rfl rfl rfl (by omega) (Nat.le_of_ble_eq_true rfl) (Nat.le_of_ble_eq_true rfl) rfl ?_
    refine go_if_eq (pc' := 14) cx 28 dX6_term0_11 rfl rfl (fun c11 => ?_) (fun c11 => ?_)
    · have h9 : lpF (advS (mT R fr) sz) pTe F (k + 1) S = (S, []) := if_neg (show ¬ pTe S.2.2.1 = true from by unfold pTe; simp only [beq_iff_eq]; exact zero_of c11)
      rw [h9] at kk
      exact kk v g z hM (fun q => by rw [show cs ++ ([] : List Int32) = cs from List.append_nil cs]; exact hv q)
    · have tc11 : S.2.2.1 = 10017 := one_of c11
      have utc11 := hM.2.2.1.un (by rw [tc11]; decide)
      refine go_aload_n (pc' := 15) cx dX6_term0_14 rfl rfl ?_
      have aG_1 := adv_W hM.2.2.1 utc11
      refine go_cVVz (pc' := 18) cx (c_nextM l E hC hM utc11 (by rw [tc11]; decide)) mX6_next lX6_206 dX6_term0_15 kq88 (ltn rfl) (ltn rfl) rfl rfl rfl rfl (by omega) (Nat.le_of_ble_eq_true rfl) (Nat.le_of_ble_eq_true rfl) rfl (fun G_1 z_2 mG_1 => ?_)
      refine go_iload_n (pc' := 19) cx dX6_term0_18 rfl rfl ?_
      refine go_aload_n (pc' := 20) cx dX6_term0_19 rfl rfl ?_
      refine go_cVIz (pc' := 23) cx (hC1 (advS (mT R fr) sz S) G_1 z_2 mG_1) mX6_atom0 lX6_336 dX6_term0_20 kq88 (ltn rfl) (ltn rfl) rfl rfl rfl rfl (by omega) (Nat.le_of_ble_eq_true rfl) (Nat.le_of_ble_eq_true rfl) rfl (fun w_5 G_3 z_4 hG_3 => ?_)
      obtain ⟨mG_3, vG_3⟩ := hG_3
      refine go_imul (pc' := 24) cx dX6_term0_23 rfl ?_
      refine go_istore_n (pc' := 25) cx dX6_term0_24 (ltn rfl) [(1, .int (v * w_5)), (0, .ref (E.2.1 88))] rfl rfl ?_
      refine go_goto cx 5 dX6_term0_25 rfl ?_
      have h9 : lpF (advS (mT R fr) sz) pTe F (k + 1) S = ((lpF (advS (mT R fr) sz) pTe F k (F ((advS (mT R fr) sz) S)).1).1, (F ((advS (mT R fr) sz) S)).2 ++ S.2.2.1 :: (lpF (advS (mT R fr) sz) pTe F k (F ((advS (mT R fr) sz) S)).1).2) := if_pos (by rw [tc11]; rfl)
      rw [h9, tc11] at kk
      have p9 := hP _ aG_1.1
      refine ih (F ((advS (mT R fr) sz) S)).1 (cs ++ (F ((advS (mT R fr) sz) S)).2 ++ [10017]) (v * w_5) G_3 z_4 mG_3 (fun q9 => ?_) (fun q9 => ?_) (fun x g1 z1 h1 h2 => kk x g1 z1 h1 (fun q9 => by rw [lp_app]; exact h2 q9))
      · have := hM.lt utc11 (by rw [tc11]; decide)
        have := aG_1.2.2.1 this
        have := p9.2.1
        have := hs utc11
        omega
      · have g9 := GC_bin (c := 10017) (D := D + 1) (hv utc11) (vG_3 q9) (Nat.le_refl _) (Nat.le_refl _) (by decide) (by decide) (by decide)
        rw [jn_te] at g9
        exact g9

set_option maxHeartbeats 1000000 in
set_option maxRecDepth 20000 in
theorem c_X6_term0 (l : Launch) (E : Ev) {g0 : IG} {o : Option Nat} {fr sz : Nat} {R : Nat → Int32} (hC : MCx g0 fr sz R) {F : PF} (hP : Pp (mT R fr) sz F) {D d : Nat} (hd : 4 ≤ d) (hC1 : McC l E o g0 fr sz R 0 yX6_atom0 cX6_atom0 2 d F D)  : McC l E o g0 fr sz R 0 yX6_term0 cX6_term0 2 (d + 1) (lvF (advS (mT R fr) sz) pTe F) (D + 1) := by
  intro S g z hM
  refine Ct.of (lv0 := [(0, .ref (E.2.1 88))]) (by decide) (Nat.le_of_ble_eq_true rfl) rfl ?_
  intro p e s m below meth c cx
  obtain ⟨hfr, hsz, h26, h27, h89, hT0⟩ := id hC
  refine go_aload_n (pc' := 1) cx dX6_term0_0 rfl rfl ?_
  refine go_cVIz (pc' := 4) cx (hC1 S g z hM) mX6_atom0 lX6_336 dX6_term0_1 kq88 (ltn rfl) (ltn rfl) rfl rfl rfl rfl (by omega) (Nat.le_of_ble_eq_true rfl) (Nat.le_of_ble_eq_true rfl) rfl (fun w_3 G_1 z_2 hG_1 => ?_)
  obtain ⟨mG_1, vG_1⟩ := hG_1
  refine go_istore_n (pc' := 5) cx dX6_term0_4 (ltn rfl) [(1, .int w_3), (0, .ref (E.2.1 88))] rfl rfl ?_
  have p9 := hP S hM.2.2.1
  refine term0_loop hC hP hd hC1 cx 160 (F S).1 (F S).2 w_3 G_1 z_2 mG_1 (fun _ => by omega) (fun q9 => (vG_1 q9).mono (Nat.le_succ D)) (fun x g1 z1 h1 h2 => ?_)
  refine go_iload_n (pc' := 29) cx dX6_term0_28 rfl rfl ?_
  refine go_iret cx rfl dX6_term0_29 ?_
  exact ZIz.mk ⟨h1, h2⟩

theorem wth_10015 {g0 : IG} {fr sz : Nat} {R : Nat → Int32} {K : Nat} {S : PS} {g : IG} {z : Int64} (h : MdS g0 fr sz R K S g z) (hu : S.2.2.2 = -1) (ht : S.2.2.1 = 10015) : z = ((43 : Int32)).toInt64 := by
  have q := (sg_iff (c := 43) (by unfold isSg; simp)).mp ((h.tk hu).1.symm.trans ht)
  rw [(h.un hu).2.2.2.2.2 q.1, q.2]
theorem wth_10016 {g0 : IG} {fr sz : Nat} {R : Nat → Int32} {K : Nat} {S : PS} {g : IG} {z : Int64} (h : MdS g0 fr sz R K S g z) (hu : S.2.2.2 = -1) (ht : S.2.2.1 = 10016) : z = ((45 : Int32)).toInt64 := by
  have q := (sg_iff (c := 45) (by unfold isSg; simp)).mp ((h.tk hu).1.symm.trans ht)
  rw [(h.un hu).2.2.2.2.2 q.1, q.2]
theorem wth_10018 {g0 : IG} {fr sz : Nat} {R : Nat → Int32} {K : Nat} {S : PS} {g : IG} {z : Int64} (h : MdS g0 fr sz R K S g z) (hu : S.2.2.2 = -1) (ht : S.2.2.1 = 10018) : z = ((60 : Int32)).toInt64 := by
  have q := (sg_iff (c := 60) (by unfold isSg; simp)).mp ((h.tk hu).1.symm.trans ht)
  rw [(h.un hu).2.2.2.2.2 q.1, q.2]
theorem wth_10019 {g0 : IG} {fr sz : Nat} {R : Nat → Int32} {K : Nat} {S : PS} {g : IG} {z : Int64} (h : MdS g0 fr sz R K S g z) (hu : S.2.2.2 = -1) (ht : S.2.2.1 = 10019) : z = ((61 : Int32)).toInt64 := by
  have q := (sg_iff (c := 61) (by unfold isSg; simp)).mp ((h.tk hu).1.symm.trans ht)
  rw [(h.un hu).2.2.2.2.2 q.1, q.2]

set_option maxHeartbeats 1000000 in
set_option maxRecDepth 20000 in
theorem added0_loop {l : Launch} {E : Ev} {Z : ZT} {g0 : IG} {o : Option Nat} {p : Program} {e : Env} {s : State} {m : MethodId} {args : Array Value} {below : List Frame} {meth : Method} {c : Code} {fr sz : Nat} {R : Nat → Int32} (hC : MCx g0 fr sz R) {F : PF} (hP : Pp (mT R fr) sz F) {D d : Nat} (hd : 4 ≤ d) (hC1 : McC l E o g0 fr sz R 0 yX6_term0 cX6_term0 2 d F D)  (cx : Cx p s m args meth c E 115 cX6_added0 4 yX6_added0.cls (some .int)) : ∀ (k : Nat) (S : PS) (cs : List Int32) (v : Int32) (g : IG) (z : Int64), MdS g0 fr sz R 0 S g z → (S.2.2.2 = -1 → sz ≤ S.2.1 + k) → (S.2.2.2 = -1 → GC (evM g0) (D + 1) cs v) → (∀ x g1 z1, MdS g0 fr sz R 0 (lpF (advS (mT R fr) sz) pSu F k S).1 g1 z1 → ((lpF (advS (mT R fr) sz) pSu F k S).1.2.2.2 = -1 → GC (evM g0) (D + 1) (cs ++ (lpF (advS (mT R fr) sz) pSu F k S).2) x) → Go p l e (rmd (d + 1)) s m args below meth c E 115 4 Z g1 (RFo o) z1 66 [(1, .int x), (0, .ref (E.2.1 88))] []) → Go p l e (rmd (d + 1)) s m args below meth c E 115 4 Z g (RFo o) z 5 [(1, .int v), (0, .ref (E.2.1 88))] [] := by
  intro k
  induction k with
  | zero =>
    intro S cs v g z hM hs hv kk
    refine go_aload_n (pc' := 6) cx dX6_added0_5 rfl rfl ?_
    refine go_bipush (pc' := 8) cx 43 dX6_added0_6 rfl rfl ?_
    refine go_cVi (pc' := 11) cx (c_isSign_43 l E hC hM) mX6_isSign lX6_231 dX6_added0_8 kq88 (ltn rfl) (ltn rfl) rfl rfl rfl rfl (by omega) (Nat.le_of_ble_eq_true rfl) (Nat.le_of_ble_eq_true rfl) rfl ?_
    refine go_if_ne (pc' := 14) cx 23 dX6_added0_11 rfl rfl (fun c11 => ?_) (fun c11 => ?_)
    · have t9 : S.2.2.1 = 10015 := one_of c11
      have u9 := hM.2.2.1.un (by rw [t9]; decide)
      exact absurd ((hM.en u9 (hs u9)).symm.trans t9) (by decide)
    · refine go_aload_n (pc' := 15) cx dX6_added0_14 rfl rfl ?_
      refine go_bipush (pc' := 17) cx 45 dX6_added0_15 rfl rfl ?_
      refine go_cVi (pc' := 20) cx (c_isSign_45 l E hC hM) mX6_isSign lX6_231 dX6_added0_17 kq88 (ltn rfl) (ltn rfl) rfl rfl rfl rfl (by omega) (Nat.le_of_ble_eq_true rfl) (Nat.le_of_ble_eq_true rfl) rfl ?_
      refine go_if_eq (pc' := 23) cx 66 dX6_added0_20 rfl rfl (fun c20 => ?_) (fun c20 => ?_)
      · have h9 : lpF (advS (mT R fr) sz) pSu F 0 S = (S, []) := rfl
        rw [h9] at kk
        exact kk v g z hM (fun q => by rw [show cs ++ ([] : List Int32) = cs from List.append_nil cs]; exact hv q)
      · have t9 : S.2.2.1 = 10016 := one_of c20
        have u9 := hM.2.2.1.un (by rw [t9]; decide)
        exact absurd ((hM.en u9 (hs u9)).symm.trans t9) (by decide)
  | succ k ih =>
    intro S cs v g z hM hs hv kk
    refine go_aload_n (pc' := 6) cx dX6_added0_5 rfl rfl ?_
    refine go_bipush (pc' := 8) cx 43 dX6_added0_6 rfl rfl ?_
    refine go_cVi (pc' := 11) cx (c_isSign_43 l E hC hM) mX6_isSign lX6_231 dX6_added0_8 kq88 (ltn rfl) (ltn rfl) rfl rfl rfl rfl (by omega) (Nat.le_of_ble_eq_true rfl) (Nat.le_of_ble_eq_true rfl) rfl ?_
    refine go_if_ne (pc' := 14) cx 23 dX6_added0_11 rfl rfl (fun c11 => ?_) (fun c11 => ?_)
    · have tc11 : S.2.2.1 = 10015 := one_of c11
      have utc11 := hM.2.2.1.un (by rw [tc11]; decide)
      refine go_aload_n (pc' := 24) cx dX6_added0_23 rfl rfl ?_
      refine go_getl (N := 56) (pc' := 27) cx fX6_186 dX6_added0_24 (ltn rfl) rfl ?_
      refine go_ldc2 (pc' := 30) cx 43 kX6_248 dX6_added0_27 rfl ?_
      refine go_val (w := .long (((43 : Int32)).toInt64)) (congrArg Value.long (by decide)) ?_
      refine go_lcmp (pc' := 31) cx dX6_added0_30 rfl ?_
      refine go_if_ne (pc' := 34) cx 38 dX6_added0_31 rfl rfl (fun hh => absurd hh (by rw [wth_10015 hM utc11 tc11]; decide)) (fun _ => ?_)
      refine go_iconst (pc' := 35) cx 1 dX6_added0_34 rfl rfl ?_
      refine go_goto cx 39 dX6_added0_35 rfl ?_
      refine go_istore_n (pc' := 40) cx dX6_added0_39 (ltn rfl) [(2, .int 1), (1, .int v), (0, .ref (E.2.1 88))] rfl rfl ?_
      refine go_aload_n (pc' := 41) cx dX6_added0_40 rfl rfl ?_
      have aG_1 := adv_W hM.2.2.1 utc11
      refine go_cVVz (pc' := 44) cx (c_nextM l E hC hM utc11 (by rw [tc11]; decide)) mX6_next lX6_206 dX6_added0_41 kq88 (ltn rfl) (ltn rfl) rfl rfl rfl rfl (by omega) (Nat.le_of_ble_eq_true rfl) (Nat.le_of_ble_eq_true rfl) rfl (fun G_1 z_2 mG_1 => ?_)
      refine go_aload_n (pc' := 45) cx dX6_added0_44 rfl rfl ?_
      refine go_cVIz (pc' := 48) cx (hC1 (advS (mT R fr) sz S) G_1 z_2 mG_1) mX6_term0 lX6_339 dX6_added0_45 kq88 (ltn rfl) (ltn rfl) rfl rfl rfl rfl (by omega) (Nat.le_of_ble_eq_true rfl) (Nat.le_of_ble_eq_true rfl) rfl (fun w_5 G_3 z_4 hG_3 => ?_)
      obtain ⟨mG_3, vG_3⟩ := hG_3
      refine go_istore_n (pc' := 49) cx dX6_added0_48 (ltn rfl) [(3, .int w_5), (2, .int 1), (1, .int v), (0, .ref (E.2.1 88))] rfl rfl ?_
      refine go_iload_n (pc' := 50) cx dX6_added0_49 rfl rfl ?_
      refine go_if_eq (pc' := 53) cx 59 dX6_added0_50 rfl rfl (fun hh => absurd hh (by decide)) (fun _ => ?_)
      refine go_iload_n (pc' := 54) cx dX6_added0_53 rfl rfl ?_
      refine go_iload_n (pc' := 55) cx dX6_added0_54 rfl rfl ?_
      refine go_iadd (pc' := 56) cx dX6_added0_55 rfl ?_
      refine go_goto cx 62 dX6_added0_56 rfl ?_
      refine go_istore_n (pc' := 63) cx dX6_added0_62 (ltn rfl) [(1, .int (v + w_5)), (3, .int w_5), (2, .int 1), (0, .ref (E.2.1 88))] rfl rfl ?_
      refine go_goto cx 5 dX6_added0_63 rfl ?_
      refine go_sub [0, 3] [(1, .int (v + w_5)), (0, .ref (E.2.1 88))] rfl ?_
      have h9 : lpF (advS (mT R fr) sz) pSu F (k + 1) S = ((lpF (advS (mT R fr) sz) pSu F k (F ((advS (mT R fr) sz) S)).1).1, (F ((advS (mT R fr) sz) S)).2 ++ S.2.2.1 :: (lpF (advS (mT R fr) sz) pSu F k (F ((advS (mT R fr) sz) S)).1).2) := if_pos (by rw [tc11]; rfl)
      rw [h9, tc11] at kk
      have p9 := hP _ aG_1.1
      refine ih (F ((advS (mT R fr) sz) S)).1 (cs ++ (F ((advS (mT R fr) sz) S)).2 ++ [10015]) (v + w_5) G_3 z_4 mG_3 (fun q9 => ?_) (fun q9 => ?_) (fun x g1 z1 h1 h2 => kk x g1 z1 h1 (fun q9 => by rw [lp_app]; exact h2 q9))
      · have := hM.lt utc11 (by rw [tc11]; decide)
        have := aG_1.2.2.1 this
        have := p9.2.1
        have := hs utc11
        omega
      · have g9 := GC_bin (c := 10015) (D := D + 1) (hv utc11) (vG_3 q9) (Nat.le_refl _) (Nat.le_refl _) (by decide) (by decide) (by decide)
        rw [jn_pl] at g9
        exact g9
    · refine go_aload_n (pc' := 15) cx dX6_added0_14 rfl rfl ?_
      refine go_bipush (pc' := 17) cx 45 dX6_added0_15 rfl rfl ?_
      refine go_cVi (pc' := 20) cx (c_isSign_45 l E hC hM) mX6_isSign lX6_231 dX6_added0_17 kq88 (ltn rfl) (ltn rfl) rfl rfl rfl rfl (by omega) (Nat.le_of_ble_eq_true rfl) (Nat.le_of_ble_eq_true rfl) rfl ?_
      refine go_if_eq (pc' := 23) cx 66 dX6_added0_20 rfl rfl (fun c20 => ?_) (fun c20 => ?_)
      · have h9 : lpF (advS (mT R fr) sz) pSu F (k + 1) S = (S, []) := if_neg (show ¬ pSu S.2.2.1 = true from by unfold pSu; simp only [Bool.or_eq_true, beq_iff_eq]; exact fun q => q.elim (zero_of c11) (zero_of c20))
        rw [h9] at kk
        exact kk v g z hM (fun q => by rw [show cs ++ ([] : List Int32) = cs from List.append_nil cs]; exact hv q)
      · have tc20 : S.2.2.1 = 10016 := one_of c20
        have utc20 := hM.2.2.1.un (by rw [tc20]; decide)
        refine go_aload_n (pc' := 24) cx dX6_added0_23 rfl rfl ?_
        refine go_getl (N := 56) (pc' := 27) cx fX6_186 dX6_added0_24 (ltn rfl) rfl ?_
        refine go_ldc2 (pc' := 30) cx 43 kX6_248 dX6_added0_27 rfl ?_
        refine go_val (w := .long (((43 : Int32)).toInt64)) (congrArg Value.long (by decide)) ?_
        refine go_lcmp (pc' := 31) cx dX6_added0_30 rfl ?_
        refine go_if_ne (pc' := 34) cx 38 dX6_added0_31 rfl rfl (fun _ => ?_) (fun hh => absurd hh (by rw [wth_10016 hM utc20 tc20]; decide))
        refine go_iconst (pc' := 39) cx 0 dX6_added0_38 rfl rfl ?_
        refine go_istore_n (pc' := 40) cx dX6_added0_39 (ltn rfl) [(2, .int 0), (1, .int v), (0, .ref (E.2.1 88))] rfl rfl ?_
        refine go_aload_n (pc' := 41) cx dX6_added0_40 rfl rfl ?_
        have aG_6 := adv_W hM.2.2.1 utc20
        refine go_cVVz (pc' := 44) cx (c_nextM l E hC hM utc20 (by rw [tc20]; decide)) mX6_next lX6_206 dX6_added0_41 kq88 (ltn rfl) (ltn rfl) rfl rfl rfl rfl (by omega) (Nat.le_of_ble_eq_true rfl) (Nat.le_of_ble_eq_true rfl) rfl (fun G_6 z_7 mG_6 => ?_)
        refine go_aload_n (pc' := 45) cx dX6_added0_44 rfl rfl ?_
        refine go_cVIz (pc' := 48) cx (hC1 (advS (mT R fr) sz S) G_6 z_7 mG_6) mX6_term0 lX6_339 dX6_added0_45 kq88 (ltn rfl) (ltn rfl) rfl rfl rfl rfl (by omega) (Nat.le_of_ble_eq_true rfl) (Nat.le_of_ble_eq_true rfl) rfl (fun w_10 G_8 z_9 hG_8 => ?_)
        obtain ⟨mG_8, vG_8⟩ := hG_8
        refine go_istore_n (pc' := 49) cx dX6_added0_48 (ltn rfl) [(3, .int w_10), (2, .int 0), (1, .int v), (0, .ref (E.2.1 88))] rfl rfl ?_
        refine go_iload_n (pc' := 50) cx dX6_added0_49 rfl rfl ?_
        refine go_if_eq (pc' := 53) cx 59 dX6_added0_50 rfl rfl (fun _ => ?_) (fun hh => absurd hh (by decide))
        refine go_iload_n (pc' := 60) cx dX6_added0_59 rfl rfl ?_
        refine go_iload_n (pc' := 61) cx dX6_added0_60 rfl rfl ?_
        refine go_isub (pc' := 62) cx dX6_added0_61 rfl ?_
        refine go_istore_n (pc' := 63) cx dX6_added0_62 (ltn rfl) [(1, .int (v - w_10)), (3, .int w_10), (2, .int 0), (0, .ref (E.2.1 88))] rfl rfl ?_
        refine go_goto cx 5 dX6_added0_63 rfl ?_
        refine go_sub [0, 3] [(1, .int (v - w_10)), (0, .ref (E.2.1 88))] rfl ?_
        have h9 : lpF (advS (mT R fr) sz) pSu F (k + 1) S = ((lpF (advS (mT R fr) sz) pSu F k (F ((advS (mT R fr) sz) S)).1).1, (F ((advS (mT R fr) sz) S)).2 ++ S.2.2.1 :: (lpF (advS (mT R fr) sz) pSu F k (F ((advS (mT R fr) sz) S)).1).2) := if_pos (by rw [tc20]; rfl)
        rw [h9, tc20] at kk
        have p9 := hP _ aG_6.1
        refine ih (F ((advS (mT R fr) sz) S)).1 (cs ++ (F ((advS (mT R fr) sz) S)).2 ++ [10016]) (v - w_10) G_8 z_9 mG_8 (fun q9 => ?_) (fun q9 => ?_) (fun x g1 z1 h1 h2 => kk x g1 z1 h1 (fun q9 => by rw [lp_app]; exact h2 q9))
        · have := hM.lt utc20 (by rw [tc20]; decide)
          have := aG_6.2.2.1 this
          have := p9.2.1
          have := hs utc20
          omega
        · have g9 := GC_bin (c := 10016) (D := D + 1) (hv utc20) (vG_8 q9) (Nat.le_refl _) (Nat.le_refl _) (by decide) (by decide) (by decide)
          rw [jn_mi] at g9
          exact g9

set_option maxHeartbeats 1000000 in
set_option maxRecDepth 20000 in
theorem c_X6_added0 (l : Launch) (E : Ev) {g0 : IG} {o : Option Nat} {fr sz : Nat} {R : Nat → Int32} (hC : MCx g0 fr sz R) {F : PF} (hP : Pp (mT R fr) sz F) {D d : Nat} (hd : 4 ≤ d) (hC1 : McC l E o g0 fr sz R 0 yX6_term0 cX6_term0 2 d F D)  : McC l E o g0 fr sz R 0 yX6_added0 cX6_added0 4 (d + 1) (lvF (advS (mT R fr) sz) pSu F) (D + 1) := by
  intro S g z hM
  refine Ct.of (lv0 := [(0, .ref (E.2.1 88))]) (by decide) (Nat.le_of_ble_eq_true rfl) rfl ?_
  intro p e s m below meth c cx
  obtain ⟨hfr, hsz, h26, h27, h89, hT0⟩ := id hC
  refine go_aload_n (pc' := 1) cx dX6_added0_0 rfl rfl ?_
  refine go_cVIz (pc' := 4) cx (hC1 S g z hM) mX6_term0 lX6_339 dX6_added0_1 kq88 (ltn rfl) (ltn rfl) rfl rfl rfl rfl (by omega) (Nat.le_of_ble_eq_true rfl) (Nat.le_of_ble_eq_true rfl) rfl (fun w_3 G_1 z_2 hG_1 => ?_)
  obtain ⟨mG_1, vG_1⟩ := hG_1
  refine go_istore_n (pc' := 5) cx dX6_added0_4 (ltn rfl) [(1, .int w_3), (0, .ref (E.2.1 88))] rfl rfl ?_
  have p9 := hP S hM.2.2.1
  refine added0_loop hC hP hd hC1 cx 160 (F S).1 (F S).2 w_3 G_1 z_2 mG_1 (fun _ => by omega) (fun q9 => (vG_1 q9).mono (Nat.le_succ D)) (fun x g1 z1 h1 h2 => ?_)
  refine go_iload_n (pc' := 67) cx dX6_added0_66 rfl rfl ?_
  refine go_iret cx rfl dX6_added0_67 ?_
  exact ZIz.mk ⟨h1, h2⟩

set_option maxHeartbeats 1000000 in
set_option maxRecDepth 20000 in
theorem both0_loop {l : Launch} {E : Ev} {Z : ZT} {g0 : IG} {o : Option Nat} {p : Program} {e : Env} {s : State} {m : MethodId} {args : Array Value} {below : List Frame} {meth : Method} {c : Code} {fr sz : Nat} {R : Nat → Int32} (hC : MCx g0 fr sz R) {F : PF} (hP : Pp (mT R fr) sz F) {D d : Nat} (hd : 4 ≤ d) (hC1 : McC l E o g0 fr sz R 0 yX6_not0 cX6_not0 4 d F D)  (cx : Cx p s m args meth c E 115 cX6_both0 3 yX6_both0.cls (some .int)) : ∀ (k : Nat) (S : PS) (cs : List Int32) (v : Int32) (g : IG) (z : Int64), MdS g0 fr sz R 0 S g z → (S.2.2.2 = -1 → sz ≤ S.2.1 + k) → (S.2.2.2 = -1 → GC (evM g0) (D + 1) cs v) → (∀ x g1 z1, MdS g0 fr sz R 0 (lpF (advS (mT R fr) sz) pAn F k S).1 g1 z1 → ((lpF (advS (mT R fr) sz) pAn F k S).1.2.2.2 = -1 → GC (evM g0) (D + 1) (cs ++ (lpF (advS (mT R fr) sz) pAn F k S).2) x) → Go p l e (rmd (d + 1)) s m args below meth c E 115 3 Z g1 (RFo o) z1 49 [(1, .int x), (0, .ref (E.2.1 88))] []) → Go p l e (rmd (d + 1)) s m args below meth c E 115 3 Z g (RFo o) z 5 [(1, .int v), (0, .ref (E.2.1 88))] [] := by
  intro k
  induction k with
  | zero =>
    intro S cs v g z hM hs hv kk
    refine go_aload_n (pc' := 6) cx dX6_both0_5 rfl rfl ?_
    refine go_bipush (pc' := 8) cx 97 dX6_both0_6 rfl rfl ?_
    refine go_bipush (pc' := 10) cx 110 dX6_both0_8 rfl rfl ?_
    refine go_bipush (pc' := 12) cx 100 dX6_both0_10 rfl rfl ?_
    refine go_iconst (pc' := 13) cx 0 dX6_both0_12 rfl rfl ?_
    refine go_iconst (pc' := 14) cx 0 dX6_both0_13 rfl rfl ?_
    refine go_iconst (pc' := 15) cx 0 dX6_both0_14 rfl rfl ?_
    refine go_iconst (pc' := 16) cx 0 dX6_both0_15 rfl rfl ?_
    refine go_iconst (pc' := 17) cx 0 dX6_both0_16 rfl rfl ?_
    refine go_cVi (pc' := 20) cx (c_isWord_10 l E hC hM) mX6_isWord lX6_209 dX6_both0_17 kq88 (ltn rfl) (ltn rfl) rfl rfl rfl rfl (by omega) (Nat.le_of_ble_eq_true rfl) (Nat.le_of_ble_eq_true rfl) rfl ?_
    refine go_if_eq (pc' := 23) cx 49 dX6_both0_20 rfl rfl (fun c20 => ?_) (fun c20 => ?_)
    · have h9 : lpF (advS (mT R fr) sz) pAn F 0 S = (S, []) := rfl
      rw [h9] at kk
      exact kk v g z hM (fun q => by rw [show cs ++ ([] : List Int32) = cs from List.append_nil cs]; exact hv q)
    · have t9 : S.2.2.1 = 10010 := one_of c20
      have u9 := hM.2.2.1.un (by rw [t9]; decide)
      exact absurd ((hM.en u9 (hs u9)).symm.trans t9) (by decide)
  | succ k ih =>
    intro S cs v g z hM hs hv kk
    refine go_aload_n (pc' := 6) cx dX6_both0_5 rfl rfl ?_
    refine go_bipush (pc' := 8) cx 97 dX6_both0_6 rfl rfl ?_
    refine go_bipush (pc' := 10) cx 110 dX6_both0_8 rfl rfl ?_
    refine go_bipush (pc' := 12) cx 100 dX6_both0_10 rfl rfl ?_
    refine go_iconst (pc' := 13) cx 0 dX6_both0_12 rfl rfl ?_
    refine go_iconst (pc' := 14) cx 0 dX6_both0_13 rfl rfl ?_
    refine go_iconst (pc' := 15) cx 0 dX6_both0_14 rfl rfl ?_
    refine go_iconst (pc' := 16) cx 0 dX6_both0_15 rfl rfl ?_
    refine go_iconst (pc' := 17) cx 0 dX6_both0_16 rfl rfl ?_
    refine go_cVi (pc' := 20) cx (c_isWord_10 l E hC hM) mX6_isWord lX6_209 dX6_both0_17 kq88 (ltn rfl) (ltn rfl) rfl rfl rfl rfl (by omega) (Nat.le_of_ble_eq_true rfl) (Nat.le_of_ble_eq_true rfl) rfl ?_
    refine go_if_eq (pc' := 23) cx 49 dX6_both0_20 rfl rfl (fun c20 => ?_) (fun c20 => ?_)
    · have h9 : lpF (advS (mT R fr) sz) pAn F (k + 1) S = (S, []) := if_neg (show ¬ pAn S.2.2.1 = true from by unfold pAn; simp only [beq_iff_eq]; exact zero_of c20)
      rw [h9] at kk
      exact kk v g z hM (fun q => by rw [show cs ++ ([] : List Int32) = cs from List.append_nil cs]; exact hv q)
    · have tc20 : S.2.2.1 = 10010 := one_of c20
      have utc20 := hM.2.2.1.un (by rw [tc20]; decide)
      refine go_aload_n (pc' := 24) cx dX6_both0_23 rfl rfl ?_
      have aG_1 := adv_W hM.2.2.1 utc20
      refine go_cVVz (pc' := 27) cx (c_nextM l E hC hM utc20 (by rw [tc20]; decide)) mX6_next lX6_206 dX6_both0_24 kq88 (ltn rfl) (ltn rfl) rfl rfl rfl rfl (by omega) (Nat.le_of_ble_eq_true rfl) (Nat.le_of_ble_eq_true rfl) rfl (fun G_1 z_2 mG_1 => ?_)
      refine go_aload_n (pc' := 28) cx dX6_both0_27 rfl rfl ?_
      refine go_cVIz (pc' := 31) cx (hC1 (advS (mT R fr) sz S) G_1 z_2 mG_1) mX6_not0 lX6_345 dX6_both0_28 kq88 (ltn rfl) (ltn rfl) rfl rfl rfl rfl (by omega) (Nat.le_of_ble_eq_true rfl) (Nat.le_of_ble_eq_true rfl) rfl (fun w_5 G_3 z_4 hG_3 => ?_)
      obtain ⟨mG_3, vG_3⟩ := hG_3
      refine go_istore_n (pc' := 32) cx dX6_both0_31 (ltn rfl) [(2, .int w_5), (1, .int v), (0, .ref (E.2.1 88))] rfl rfl ?_
      refine go_iload_n (pc' := 33) cx dX6_both0_32 rfl rfl ?_
      refine go_if_eq (pc' := 36) cx 44 dX6_both0_33 rfl rfl (fun c33 => ?_) (fun c33 => ?_)
      · refine go_iconst (pc' := 45) cx 0 dX6_both0_44 rfl rfl ?_
        refine go_istore_n (pc' := 46) cx dX6_both0_45 (ltn rfl) [(1, .int 0), (2, .int w_5), (0, .ref (E.2.1 88))] rfl rfl ?_
        refine go_goto cx 5 dX6_both0_46 rfl ?_
        refine go_sub [0, 2] [(1, .int 0), (0, .ref (E.2.1 88))] rfl ?_
        have h9 : lpF (advS (mT R fr) sz) pAn F (k + 1) S = ((lpF (advS (mT R fr) sz) pAn F k (F ((advS (mT R fr) sz) S)).1).1, (F ((advS (mT R fr) sz) S)).2 ++ S.2.2.1 :: (lpF (advS (mT R fr) sz) pAn F k (F ((advS (mT R fr) sz) S)).1).2) := if_pos (by rw [tc20]; rfl)
        rw [h9, tc20] at kk
        have p9 := hP _ aG_1.1
        refine ih (F ((advS (mT R fr) sz) S)).1 (cs ++ (F ((advS (mT R fr) sz) S)).2 ++ [10010]) 0 G_3 z_4 mG_3 (fun q9 => ?_) (fun q9 => ?_) (fun x g1 z1 h1 h2 => kk x g1 z1 h1 (fun q9 => by rw [lp_app]; exact h2 q9))
        · have := hM.lt utc20 (by rw [tc20]; decide)
          have := aG_1.2.2.1 this
          have := p9.2.1
          have := hs utc20
          omega
        · have g9 := GC_bin (c := 10010) (D := D + 1) (hv utc20) (vG_3 q9) (Nat.le_refl _) (Nat.le_refl _) (by decide) (by decide) (by decide)
          have e9 : jnV 10010 v w_5 = 0 := by
            unfold jnV
            simp [c33]
          rw [e9] at g9
          exact g9
      · refine go_iload_n (pc' := 37) cx dX6_both0_36 rfl rfl ?_
        refine go_if_eq (pc' := 40) cx 44 dX6_both0_37 rfl rfl (fun c37 => ?_) (fun c37 => ?_)
        · refine go_iconst (pc' := 45) cx 0 dX6_both0_44 rfl rfl ?_
          refine go_istore_n (pc' := 46) cx dX6_both0_45 (ltn rfl) [(1, .int 0), (2, .int w_5), (0, .ref (E.2.1 88))] rfl rfl ?_
          refine go_goto cx 5 dX6_both0_46 rfl ?_
          refine go_sub [0, 2] [(1, .int 0), (0, .ref (E.2.1 88))] rfl ?_
          have h9 : lpF (advS (mT R fr) sz) pAn F (k + 1) S = ((lpF (advS (mT R fr) sz) pAn F k (F ((advS (mT R fr) sz) S)).1).1, (F ((advS (mT R fr) sz) S)).2 ++ S.2.2.1 :: (lpF (advS (mT R fr) sz) pAn F k (F ((advS (mT R fr) sz) S)).1).2) := if_pos (by rw [tc20]; rfl)
          rw [h9, tc20] at kk
          have p9 := hP _ aG_1.1
          refine ih (F ((advS (mT R fr) sz) S)).1 (cs ++ (F ((advS (mT R fr) sz) S)).2 ++ [10010]) 0 G_3 z_4 mG_3 (fun q9 => ?_) (fun q9 => ?_) (fun x g1 z1 h1 h2 => kk x g1 z1 h1 (fun q9 => by rw [lp_app]; exact h2 q9))
          · have := hM.lt utc20 (by rw [tc20]; decide)
            have := aG_1.2.2.1 this
            have := p9.2.1
            have := hs utc20
            omega
          · have g9 := GC_bin (c := 10010) (D := D + 1) (hv utc20) (vG_3 q9) (Nat.le_refl _) (Nat.le_refl _) (by decide) (by decide) (by decide)
            have e9 : jnV 10010 v w_5 = 0 := by
              unfold jnV
              simp [c33, c37]
            rw [e9] at g9
            exact g9
        · refine go_iconst (pc' := 41) cx 1 dX6_both0_40 rfl rfl ?_
          refine go_goto cx 45 dX6_both0_41 rfl ?_
          refine go_istore_n (pc' := 46) cx dX6_both0_45 (ltn rfl) [(1, .int 1), (2, .int w_5), (0, .ref (E.2.1 88))] rfl rfl ?_
          refine go_goto cx 5 dX6_both0_46 rfl ?_
          refine go_sub [0, 2] [(1, .int 1), (0, .ref (E.2.1 88))] rfl ?_
          have h9 : lpF (advS (mT R fr) sz) pAn F (k + 1) S = ((lpF (advS (mT R fr) sz) pAn F k (F ((advS (mT R fr) sz) S)).1).1, (F ((advS (mT R fr) sz) S)).2 ++ S.2.2.1 :: (lpF (advS (mT R fr) sz) pAn F k (F ((advS (mT R fr) sz) S)).1).2) := if_pos (by rw [tc20]; rfl)
          rw [h9, tc20] at kk
          have p9 := hP _ aG_1.1
          refine ih (F ((advS (mT R fr) sz) S)).1 (cs ++ (F ((advS (mT R fr) sz) S)).2 ++ [10010]) 1 G_3 z_4 mG_3 (fun q9 => ?_) (fun q9 => ?_) (fun x g1 z1 h1 h2 => kk x g1 z1 h1 (fun q9 => by rw [lp_app]; exact h2 q9))
          · have := hM.lt utc20 (by rw [tc20]; decide)
            have := aG_1.2.2.1 this
            have := p9.2.1
            have := hs utc20
            omega
          · have g9 := GC_bin (c := 10010) (D := D + 1) (hv utc20) (vG_3 q9) (Nat.le_refl _) (Nat.le_refl _) (by decide) (by decide) (by decide)
            have e9 : jnV 10010 v w_5 = 1 := by
              unfold jnV
              simp [c33, c37]
            rw [e9] at g9
            exact g9

set_option maxHeartbeats 1000000 in
set_option maxRecDepth 20000 in
theorem c_X6_both0 (l : Launch) (E : Ev) {g0 : IG} {o : Option Nat} {fr sz : Nat} {R : Nat → Int32} (hC : MCx g0 fr sz R) {F : PF} (hP : Pp (mT R fr) sz F) {D d : Nat} (hd : 4 ≤ d) (hC1 : McC l E o g0 fr sz R 0 yX6_not0 cX6_not0 4 d F D)  : McC l E o g0 fr sz R 0 yX6_both0 cX6_both0 3 (d + 1) (lvF (advS (mT R fr) sz) pAn F) (D + 1) := by
  intro S g z hM
  refine Ct.of (lv0 := [(0, .ref (E.2.1 88))]) (by decide) (Nat.le_of_ble_eq_true rfl) rfl ?_
  intro p e s m below meth c cx
  obtain ⟨hfr, hsz, h26, h27, h89, hT0⟩ := id hC
  refine go_aload_n (pc' := 1) cx dX6_both0_0 rfl rfl ?_
  refine go_cVIz (pc' := 4) cx (hC1 S g z hM) mX6_not0 lX6_345 dX6_both0_1 kq88 (ltn rfl) (ltn rfl) rfl rfl rfl rfl (by omega) (Nat.le_of_ble_eq_true rfl) (Nat.le_of_ble_eq_true rfl) rfl (fun w_3 G_1 z_2 hG_1 => ?_)
  obtain ⟨mG_1, vG_1⟩ := hG_1
  refine go_istore_n (pc' := 5) cx dX6_both0_4 (ltn rfl) [(1, .int w_3), (0, .ref (E.2.1 88))] rfl rfl ?_
  have p9 := hP S hM.2.2.1
  refine both0_loop hC hP hd hC1 cx 160 (F S).1 (F S).2 w_3 G_1 z_2 mG_1 (fun _ => by omega) (fun q9 => (vG_1 q9).mono (Nat.le_succ D)) (fun x g1 z1 h1 h2 => ?_)
  refine go_iload_n (pc' := 50) cx dX6_both0_49 rfl rfl ?_
  refine go_iret cx rfl dX6_both0_50 ?_
  exact ZIz.mk ⟨h1, h2⟩

set_option maxHeartbeats 1000000 in
set_option maxRecDepth 20000 in
theorem either0_loop {l : Launch} {E : Ev} {Z : ZT} {g0 : IG} {o : Option Nat} {p : Program} {e : Env} {s : State} {m : MethodId} {args : Array Value} {below : List Frame} {meth : Method} {c : Code} {fr sz : Nat} {R : Nat → Int32} (hC : MCx g0 fr sz R) {F : PF} (hP : Pp (mT R fr) sz F) {D d : Nat} (hd : 4 ≤ d) (hC1 : McC l E o g0 fr sz R 0 yX6_both0 cX6_both0 3 d F D)  (cx : Cx p s m args meth c E 115 cX6_either0 3 yX6_either0.cls (some .int)) : ∀ (k : Nat) (S : PS) (cs : List Int32) (v : Int32) (g : IG) (z : Int64), MdS g0 fr sz R 0 S g z → (S.2.2.2 = -1 → sz ≤ S.2.1 + k) → (S.2.2.2 = -1 → GC (evM g0) (D + 1) cs v) → (∀ x g1 z1, MdS g0 fr sz R 0 (lpF (advS (mT R fr) sz) pOr F k S).1 g1 z1 → ((lpF (advS (mT R fr) sz) pOr F k S).1.2.2.2 = -1 → GC (evM g0) (D + 1) (cs ++ (lpF (advS (mT R fr) sz) pOr F k S).2) x) → Go p l e (rmd (d + 1)) s m args below meth c E 115 3 Z g1 (RFo o) z1 48 [(1, .int x), (0, .ref (E.2.1 88))] []) → Go p l e (rmd (d + 1)) s m args below meth c E 115 3 Z g (RFo o) z 5 [(1, .int v), (0, .ref (E.2.1 88))] [] := by
  intro k
  induction k with
  | zero =>
    intro S cs v g z hM hs hv kk
    refine go_aload_n (pc' := 6) cx dX6_either0_5 rfl rfl ?_
    refine go_bipush (pc' := 8) cx 111 dX6_either0_6 rfl rfl ?_
    refine go_bipush (pc' := 10) cx 114 dX6_either0_8 rfl rfl ?_
    refine go_iconst (pc' := 11) cx 0 dX6_either0_10 rfl rfl ?_
    refine go_iconst (pc' := 12) cx 0 dX6_either0_11 rfl rfl ?_
    refine go_iconst (pc' := 13) cx 0 dX6_either0_12 rfl rfl ?_
    refine go_iconst (pc' := 14) cx 0 dX6_either0_13 rfl rfl ?_
    refine go_iconst (pc' := 15) cx 0 dX6_either0_14 rfl rfl ?_
    refine go_iconst (pc' := 16) cx 0 dX6_either0_15 rfl rfl ?_
    refine go_cVi (pc' := 19) cx (c_isWord_9 l E hC hM) mX6_isWord lX6_209 dX6_either0_16 kq88 (ltn rfl) (ltn rfl) rfl rfl rfl rfl (by omega) (Nat.le_of_ble_eq_true rfl) (Nat.le_of_ble_eq_true rfl) rfl ?_
    refine go_if_eq (pc' := 22) cx 48 dX6_either0_19 rfl rfl (fun c19 => ?_) (fun c19 => ?_)
    · have h9 : lpF (advS (mT R fr) sz) pOr F 0 S = (S, []) := rfl
      rw [h9] at kk
      exact kk v g z hM (fun q => by rw [show cs ++ ([] : List Int32) = cs from List.append_nil cs]; exact hv q)
    · have t9 : S.2.2.1 = 10009 := one_of c19
      have u9 := hM.2.2.1.un (by rw [t9]; decide)
      exact absurd ((hM.en u9 (hs u9)).symm.trans t9) (by decide)
  | succ k ih =>
    intro S cs v g z hM hs hv kk
    refine go_aload_n (pc' := 6) cx dX6_either0_5 rfl rfl ?_
    refine go_bipush (pc' := 8) cx 111 dX6_either0_6 rfl rfl ?_
    refine go_bipush (pc' := 10) cx 114 dX6_either0_8 rfl rfl ?_
    refine go_iconst (pc' := 11) cx 0 dX6_either0_10 rfl rfl ?_
    refine go_iconst (pc' := 12) cx 0 dX6_either0_11 rfl rfl ?_
    refine go_iconst (pc' := 13) cx 0 dX6_either0_12 rfl rfl ?_
    refine go_iconst (pc' := 14) cx 0 dX6_either0_13 rfl rfl ?_
    refine go_iconst (pc' := 15) cx 0 dX6_either0_14 rfl rfl ?_
    refine go_iconst (pc' := 16) cx 0 dX6_either0_15 rfl rfl ?_
    refine go_cVi (pc' := 19) cx (c_isWord_9 l E hC hM) mX6_isWord lX6_209 dX6_either0_16 kq88 (ltn rfl) (ltn rfl) rfl rfl rfl rfl (by omega) (Nat.le_of_ble_eq_true rfl) (Nat.le_of_ble_eq_true rfl) rfl ?_
    refine go_if_eq (pc' := 22) cx 48 dX6_either0_19 rfl rfl (fun c19 => ?_) (fun c19 => ?_)
    · have h9 : lpF (advS (mT R fr) sz) pOr F (k + 1) S = (S, []) := if_neg (show ¬ pOr S.2.2.1 = true from by unfold pOr; simp only [beq_iff_eq]; exact zero_of c19)
      rw [h9] at kk
      exact kk v g z hM (fun q => by rw [show cs ++ ([] : List Int32) = cs from List.append_nil cs]; exact hv q)
    · have tc19 : S.2.2.1 = 10009 := one_of c19
      have utc19 := hM.2.2.1.un (by rw [tc19]; decide)
      refine go_aload_n (pc' := 23) cx dX6_either0_22 rfl rfl ?_
      have aG_1 := adv_W hM.2.2.1 utc19
      refine go_cVVz (pc' := 26) cx (c_nextM l E hC hM utc19 (by rw [tc19]; decide)) mX6_next lX6_206 dX6_either0_23 kq88 (ltn rfl) (ltn rfl) rfl rfl rfl rfl (by omega) (Nat.le_of_ble_eq_true rfl) (Nat.le_of_ble_eq_true rfl) rfl (fun G_1 z_2 mG_1 => ?_)
      refine go_aload_n (pc' := 27) cx dX6_either0_26 rfl rfl ?_
      refine go_cVIz (pc' := 30) cx (hC1 (advS (mT R fr) sz S) G_1 z_2 mG_1) mX6_both0 lX6_348 dX6_either0_27 kq88 (ltn rfl) (ltn rfl) rfl rfl rfl rfl (by omega) (Nat.le_of_ble_eq_true rfl) (Nat.le_of_ble_eq_true rfl) rfl (fun w_5 G_3 z_4 hG_3 => ?_)
      obtain ⟨mG_3, vG_3⟩ := hG_3
      refine go_istore_n (pc' := 31) cx dX6_either0_30 (ltn rfl) [(2, .int w_5), (1, .int v), (0, .ref (E.2.1 88))] rfl rfl ?_
      refine go_iload_n (pc' := 32) cx dX6_either0_31 rfl rfl ?_
      refine go_if_ne (pc' := 35) cx 39 dX6_either0_32 rfl rfl (fun c32 => ?_) (fun c32 => ?_)
      · refine go_iconst (pc' := 40) cx 1 dX6_either0_39 rfl rfl ?_
        refine go_goto cx 44 dX6_either0_40 rfl ?_
        refine go_istore_n (pc' := 45) cx dX6_either0_44 (ltn rfl) [(1, .int 1), (2, .int w_5), (0, .ref (E.2.1 88))] rfl rfl ?_
        refine go_goto cx 5 dX6_either0_45 rfl ?_
        refine go_sub [0, 2] [(1, .int 1), (0, .ref (E.2.1 88))] rfl ?_
        have h9 : lpF (advS (mT R fr) sz) pOr F (k + 1) S = ((lpF (advS (mT R fr) sz) pOr F k (F ((advS (mT R fr) sz) S)).1).1, (F ((advS (mT R fr) sz) S)).2 ++ S.2.2.1 :: (lpF (advS (mT R fr) sz) pOr F k (F ((advS (mT R fr) sz) S)).1).2) := if_pos (by rw [tc19]; rfl)
        rw [h9, tc19] at kk
        have p9 := hP _ aG_1.1
        refine ih (F ((advS (mT R fr) sz) S)).1 (cs ++ (F ((advS (mT R fr) sz) S)).2 ++ [10009]) 1 G_3 z_4 mG_3 (fun q9 => ?_) (fun q9 => ?_) (fun x g1 z1 h1 h2 => kk x g1 z1 h1 (fun q9 => by rw [lp_app]; exact h2 q9))
        · have := hM.lt utc19 (by rw [tc19]; decide)
          have := aG_1.2.2.1 this
          have := p9.2.1
          have := hs utc19
          omega
        · have g9 := GC_bin (c := 10009) (D := D + 1) (hv utc19) (vG_3 q9) (Nat.le_refl _) (Nat.le_refl _) (by decide) (by decide) (by decide)
          have e9 : jnV 10009 v w_5 = 1 := by
            unfold jnV
            simp [c32]
          rw [e9] at g9
          exact g9
      · refine go_iload_n (pc' := 36) cx dX6_either0_35 rfl rfl ?_
        refine go_if_eq (pc' := 39) cx 43 dX6_either0_36 rfl rfl (fun c36 => ?_) (fun c36 => ?_)
        · refine go_iconst (pc' := 44) cx 0 dX6_either0_43 rfl rfl ?_
          refine go_istore_n (pc' := 45) cx dX6_either0_44 (ltn rfl) [(1, .int 0), (2, .int w_5), (0, .ref (E.2.1 88))] rfl rfl ?_
          refine go_goto cx 5 dX6_either0_45 rfl ?_
          refine go_sub [0, 2] [(1, .int 0), (0, .ref (E.2.1 88))] rfl ?_
          have h9 : lpF (advS (mT R fr) sz) pOr F (k + 1) S = ((lpF (advS (mT R fr) sz) pOr F k (F ((advS (mT R fr) sz) S)).1).1, (F ((advS (mT R fr) sz) S)).2 ++ S.2.2.1 :: (lpF (advS (mT R fr) sz) pOr F k (F ((advS (mT R fr) sz) S)).1).2) := if_pos (by rw [tc19]; rfl)
          rw [h9, tc19] at kk
          have p9 := hP _ aG_1.1
          refine ih (F ((advS (mT R fr) sz) S)).1 (cs ++ (F ((advS (mT R fr) sz) S)).2 ++ [10009]) 0 G_3 z_4 mG_3 (fun q9 => ?_) (fun q9 => ?_) (fun x g1 z1 h1 h2 => kk x g1 z1 h1 (fun q9 => by rw [lp_app]; exact h2 q9))
          · have := hM.lt utc19 (by rw [tc19]; decide)
            have := aG_1.2.2.1 this
            have := p9.2.1
            have := hs utc19
            omega
          · have g9 := GC_bin (c := 10009) (D := D + 1) (hv utc19) (vG_3 q9) (Nat.le_refl _) (Nat.le_refl _) (by decide) (by decide) (by decide)
            have e9 : jnV 10009 v w_5 = 0 := by
              unfold jnV
              simp [c32, c36]
            rw [e9] at g9
            exact g9
        · refine go_iconst (pc' := 40) cx 1 dX6_either0_39 rfl rfl ?_
          refine go_goto cx 44 dX6_either0_40 rfl ?_
          refine go_istore_n (pc' := 45) cx dX6_either0_44 (ltn rfl) [(1, .int 1), (2, .int w_5), (0, .ref (E.2.1 88))] rfl rfl ?_
          refine go_goto cx 5 dX6_either0_45 rfl ?_
          refine go_sub [0, 2] [(1, .int 1), (0, .ref (E.2.1 88))] rfl ?_
          have h9 : lpF (advS (mT R fr) sz) pOr F (k + 1) S = ((lpF (advS (mT R fr) sz) pOr F k (F ((advS (mT R fr) sz) S)).1).1, (F ((advS (mT R fr) sz) S)).2 ++ S.2.2.1 :: (lpF (advS (mT R fr) sz) pOr F k (F ((advS (mT R fr) sz) S)).1).2) := if_pos (by rw [tc19]; rfl)
          rw [h9, tc19] at kk
          have p9 := hP _ aG_1.1
          refine ih (F ((advS (mT R fr) sz) S)).1 (cs ++ (F ((advS (mT R fr) sz) S)).2 ++ [10009]) 1 G_3 z_4 mG_3 (fun q9 => ?_) (fun q9 => ?_) (fun x g1 z1 h1 h2 => kk x g1 z1 h1 (fun q9 => by rw [lp_app]; exact h2 q9))
          · have := hM.lt utc19 (by rw [tc19]; decide)
            have := aG_1.2.2.1 this
            have := p9.2.1
            have := hs utc19
            omega
          · have g9 := GC_bin (c := 10009) (D := D + 1) (hv utc19) (vG_3 q9) (Nat.le_refl _) (Nat.le_refl _) (by decide) (by decide) (by decide)
            have e9 : jnV 10009 v w_5 = 1 := by
              unfold jnV
              simp [c32, c36]
            rw [e9] at g9
            exact g9

set_option maxHeartbeats 1000000 in
set_option maxRecDepth 20000 in
theorem c_X6_either0 (l : Launch) (E : Ev) {g0 : IG} {o : Option Nat} {fr sz : Nat} {R : Nat → Int32} (hC : MCx g0 fr sz R) {F : PF} (hP : Pp (mT R fr) sz F) {D d : Nat} (hd : 4 ≤ d) (hC1 : McC l E o g0 fr sz R 0 yX6_both0 cX6_both0 3 d F D)  : McC l E o g0 fr sz R 0 yX6_either0 cX6_either0 3 (d + 1) (lvF (advS (mT R fr) sz) pOr F) (D + 1) := by
  intro S g z hM
  refine Ct.of (lv0 := [(0, .ref (E.2.1 88))]) (by decide) (Nat.le_of_ble_eq_true rfl) rfl ?_
  intro p e s m below meth c cx
  obtain ⟨hfr, hsz, h26, h27, h89, hT0⟩ := id hC
  refine go_aload_n (pc' := 1) cx dX6_either0_0 rfl rfl ?_
  refine go_cVIz (pc' := 4) cx (hC1 S g z hM) mX6_both0 lX6_348 dX6_either0_1 kq88 (ltn rfl) (ltn rfl) rfl rfl rfl rfl (by omega) (Nat.le_of_ble_eq_true rfl) (Nat.le_of_ble_eq_true rfl) rfl (fun w_3 G_1 z_2 hG_1 => ?_)
  obtain ⟨mG_1, vG_1⟩ := hG_1
  refine go_istore_n (pc' := 5) cx dX6_either0_4 (ltn rfl) [(1, .int w_3), (0, .ref (E.2.1 88))] rfl rfl ?_
  have p9 := hP S hM.2.2.1
  refine either0_loop hC hP hd hC1 cx 160 (F S).1 (F S).2 w_3 G_1 z_2 mG_1 (fun _ => by omega) (fun q9 => (vG_1 q9).mono (Nat.le_succ D)) (fun x g1 z1 h1 h2 => ?_)
  refine go_iload_n (pc' := 49) cx dX6_either0_48 rfl rfl ?_
  refine go_iret cx rfl dX6_either0_49 ?_
  exact ZIz.mk ⟨h1, h2⟩

set_option maxHeartbeats 1000000 in
set_option maxRecDepth 20000 in
theorem term1_loop {l : Launch} {E : Ev} {Z : ZT} {g0 : IG} {o : Option Nat} {p : Program} {e : Env} {s : State} {m : MethodId} {args : Array Value} {below : List Frame} {meth : Method} {c : Code} {fr sz : Nat} {R : Nat → Int32} (hC : MCx g0 fr sz R) {F : PF} (hP : Pp (mT R fr) sz F) {D d : Nat} (hd : 4 ≤ d) (hC1 : McC l E o g0 fr sz R 1 yX6_atom1 cX6_atom1 2 d F D)  (cx : Cx p s m args meth c E 115 cX6_term1 2 yX6_term1.cls (some .int)) : ∀ (k : Nat) (S : PS) (cs : List Int32) (v : Int32) (g : IG) (z : Int64), MdS g0 fr sz R 1 S g z → (S.2.2.2 = -1 → sz ≤ S.2.1 + k) → (S.2.2.2 = -1 → GC (evM g0) (D + 1) cs v) → (∀ x g1 z1, MdS g0 fr sz R 1 (lpF (advS (mT R fr) sz) pTe F k S).1 g1 z1 → ((lpF (advS (mT R fr) sz) pTe F k S).1.2.2.2 = -1 → GC (evM g0) (D + 1) (cs ++ (lpF (advS (mT R fr) sz) pTe F k S).2) x) → Go p l e (rmd (d + 1)) s m args below meth c E 115 2 Z g1 (RFo o) z1 28 [(1, .int x), (0, .ref (E.2.1 88))] []) → Go p l e (rmd (d + 1)) s m args below meth c E 115 2 Z g (RFo o) z 5 [(1, .int v), (0, .ref (E.2.1 88))] [] := by
  intro k
  induction k with
  | zero =>
    intro S cs v g z hM hs hv kk
    refine go_aload_n (pc' := 6) cx dX6_term1_5 rfl rfl ?_
    refine go_bipush (pc' := 8) cx 42 dX6_term1_6 rfl rfl ?_
    refine go_cVi (pc' := 11) cx (c_isSign_42 l E hC hM) mX6_isSign lX6_231 dX6_term1_8 kq88 (ltn rfl) (ltn rfl) rfl rfl rfl rfl (by omega) (Nat.le_of_ble_eq_true rfl) (Nat.le_of_ble_eq_true rfl) rfl ?_
    refine go_if_eq (pc' := 14) cx 28 dX6_term1_11 rfl rfl (fun c11 => ?_) (fun c11 => ?_)
    · have h9 : lpF (advS (mT R fr) sz) pTe F 0 S = (S, []) := rfl
      rw [h9] at kk
      exact kk v g z hM (fun q => by rw [show cs ++ ([] : List Int32) = cs from List.append_nil cs]; exact hv q)
    · have t9 : S.2.2.1 = 10017 := one_of c11
      have u9 := hM.2.2.1.un (by rw [t9]; decide)
      exact absurd ((hM.en u9 (hs u9)).symm.trans t9) (by decide)
  | succ k ih =>
    intro S cs v g z hM hs hv kk
    refine go_aload_n (pc' := 6) cx dX6_term1_5 rfl rfl ?_
    refine go_bipush (pc' := 8) cx 42 dX6_term1_6 rfl rfl ?_
    refine go_cVi (pc' := 11) cx (c_isSign_42 l E hC hM) mX6_isSign lX6_231 dX6_term1_8 kq88 (ltn rfl) (ltn rfl) rfl rfl rfl rfl (by omega) (Nat.le_of_ble_eq_true rfl) (Nat.le_of_ble_eq_true rfl) rfl ?_
    refine go_if_eq (pc' := 14) cx 28 dX6_term1_11 rfl rfl (fun c11 => ?_) (fun c11 => ?_)
    · have h9 : lpF (advS (mT R fr) sz) pTe F (k + 1) S = (S, []) := if_neg (show ¬ pTe S.2.2.1 = true from by unfold pTe; simp only [beq_iff_eq]; exact zero_of c11)
      rw [h9] at kk
      exact kk v g z hM (fun q => by rw [show cs ++ ([] : List Int32) = cs from List.append_nil cs]; exact hv q)
    · have tc11 : S.2.2.1 = 10017 := one_of c11
      have utc11 := hM.2.2.1.un (by rw [tc11]; decide)
      refine go_aload_n (pc' := 15) cx dX6_term1_14 rfl rfl ?_
      have aG_1 := adv_W hM.2.2.1 utc11
      refine go_cVVz (pc' := 18) cx (c_nextM l E hC hM utc11 (by rw [tc11]; decide)) mX6_next lX6_206 dX6_term1_15 kq88 (ltn rfl) (ltn rfl) rfl rfl rfl rfl (by omega) (Nat.le_of_ble_eq_true rfl) (Nat.le_of_ble_eq_true rfl) rfl (fun G_1 z_2 mG_1 => ?_)
      refine go_iload_n (pc' := 19) cx dX6_term1_18 rfl rfl ?_
      refine go_aload_n (pc' := 20) cx dX6_term1_19 rfl rfl ?_
      refine go_cVIz (pc' := 23) cx (hC1 (advS (mT R fr) sz S) G_1 z_2 mG_1) mX6_atom1 lX6_318 dX6_term1_20 kq88 (ltn rfl) (ltn rfl) rfl rfl rfl rfl (by omega) (Nat.le_of_ble_eq_true rfl) (Nat.le_of_ble_eq_true rfl) rfl (fun w_5 G_3 z_4 hG_3 => ?_)
      obtain ⟨mG_3, vG_3⟩ := hG_3
      refine go_imul (pc' := 24) cx dX6_term1_23 rfl ?_
      refine go_istore_n (pc' := 25) cx dX6_term1_24 (ltn rfl) [(1, .int (v * w_5)), (0, .ref (E.2.1 88))] rfl rfl ?_
      refine go_goto cx 5 dX6_term1_25 rfl ?_
      have h9 : lpF (advS (mT R fr) sz) pTe F (k + 1) S = ((lpF (advS (mT R fr) sz) pTe F k (F ((advS (mT R fr) sz) S)).1).1, (F ((advS (mT R fr) sz) S)).2 ++ S.2.2.1 :: (lpF (advS (mT R fr) sz) pTe F k (F ((advS (mT R fr) sz) S)).1).2) := if_pos (by rw [tc11]; rfl)
      rw [h9, tc11] at kk
      have p9 := hP _ aG_1.1
      refine ih (F ((advS (mT R fr) sz) S)).1 (cs ++ (F ((advS (mT R fr) sz) S)).2 ++ [10017]) (v * w_5) G_3 z_4 mG_3 (fun q9 => ?_) (fun q9 => ?_) (fun x g1 z1 h1 h2 => kk x g1 z1 h1 (fun q9 => by rw [lp_app]; exact h2 q9))
      · have := hM.lt utc11 (by rw [tc11]; decide)
        have := aG_1.2.2.1 this
        have := p9.2.1
        have := hs utc11
        omega
      · have g9 := GC_bin (c := 10017) (D := D + 1) (hv utc11) (vG_3 q9) (Nat.le_refl _) (Nat.le_refl _) (by decide) (by decide) (by decide)
        rw [jn_te] at g9
        exact g9

set_option maxHeartbeats 1000000 in
set_option maxRecDepth 20000 in
theorem c_X6_term1 (l : Launch) (E : Ev) {g0 : IG} {o : Option Nat} {fr sz : Nat} {R : Nat → Int32} (hC : MCx g0 fr sz R) {F : PF} (hP : Pp (mT R fr) sz F) {D d : Nat} (hd : 4 ≤ d) (hC1 : McC l E o g0 fr sz R 1 yX6_atom1 cX6_atom1 2 d F D)  : McC l E o g0 fr sz R 1 yX6_term1 cX6_term1 2 (d + 1) (lvF (advS (mT R fr) sz) pTe F) (D + 1) := by
  intro S g z hM
  refine Ct.of (lv0 := [(0, .ref (E.2.1 88))]) (by decide) (Nat.le_of_ble_eq_true rfl) rfl ?_
  intro p e s m below meth c cx
  obtain ⟨hfr, hsz, h26, h27, h89, hT0⟩ := id hC
  refine go_aload_n (pc' := 1) cx dX6_term1_0 rfl rfl ?_
  refine go_cVIz (pc' := 4) cx (hC1 S g z hM) mX6_atom1 lX6_318 dX6_term1_1 kq88 (ltn rfl) (ltn rfl) rfl rfl rfl rfl (by omega) (Nat.le_of_ble_eq_true rfl) (Nat.le_of_ble_eq_true rfl) rfl (fun w_3 G_1 z_2 hG_1 => ?_)
  obtain ⟨mG_1, vG_1⟩ := hG_1
  refine go_istore_n (pc' := 5) cx dX6_term1_4 (ltn rfl) [(1, .int w_3), (0, .ref (E.2.1 88))] rfl rfl ?_
  have p9 := hP S hM.2.2.1
  refine term1_loop hC hP hd hC1 cx 160 (F S).1 (F S).2 w_3 G_1 z_2 mG_1 (fun _ => by omega) (fun q9 => (vG_1 q9).mono (Nat.le_succ D)) (fun x g1 z1 h1 h2 => ?_)
  refine go_iload_n (pc' := 29) cx dX6_term1_28 rfl rfl ?_
  refine go_iret cx rfl dX6_term1_29 ?_
  exact ZIz.mk ⟨h1, h2⟩

set_option maxHeartbeats 1000000 in
set_option maxRecDepth 20000 in
theorem added1_loop {l : Launch} {E : Ev} {Z : ZT} {g0 : IG} {o : Option Nat} {p : Program} {e : Env} {s : State} {m : MethodId} {args : Array Value} {below : List Frame} {meth : Method} {c : Code} {fr sz : Nat} {R : Nat → Int32} (hC : MCx g0 fr sz R) {F : PF} (hP : Pp (mT R fr) sz F) {D d : Nat} (hd : 4 ≤ d) (hC1 : McC l E o g0 fr sz R 1 yX6_term1 cX6_term1 2 d F D)  (cx : Cx p s m args meth c E 115 cX6_added1 4 yX6_added1.cls (some .int)) : ∀ (k : Nat) (S : PS) (cs : List Int32) (v : Int32) (g : IG) (z : Int64), MdS g0 fr sz R 1 S g z → (S.2.2.2 = -1 → sz ≤ S.2.1 + k) → (S.2.2.2 = -1 → GC (evM g0) (D + 1) cs v) → (∀ x g1 z1, MdS g0 fr sz R 1 (lpF (advS (mT R fr) sz) pSu F k S).1 g1 z1 → ((lpF (advS (mT R fr) sz) pSu F k S).1.2.2.2 = -1 → GC (evM g0) (D + 1) (cs ++ (lpF (advS (mT R fr) sz) pSu F k S).2) x) → Go p l e (rmd (d + 1)) s m args below meth c E 115 4 Z g1 (RFo o) z1 66 [(1, .int x), (0, .ref (E.2.1 88))] []) → Go p l e (rmd (d + 1)) s m args below meth c E 115 4 Z g (RFo o) z 5 [(1, .int v), (0, .ref (E.2.1 88))] [] := by
  intro k
  induction k with
  | zero =>
    intro S cs v g z hM hs hv kk
    refine go_aload_n (pc' := 6) cx dX6_added1_5 rfl rfl ?_
    refine go_bipush (pc' := 8) cx 43 dX6_added1_6 rfl rfl ?_
    refine go_cVi (pc' := 11) cx (c_isSign_43 l E hC hM) mX6_isSign lX6_231 dX6_added1_8 kq88 (ltn rfl) (ltn rfl) rfl rfl rfl rfl (by omega) (Nat.le_of_ble_eq_true rfl) (Nat.le_of_ble_eq_true rfl) rfl ?_
    refine go_if_ne (pc' := 14) cx 23 dX6_added1_11 rfl rfl (fun c11 => ?_) (fun c11 => ?_)
    · have t9 : S.2.2.1 = 10015 := one_of c11
      have u9 := hM.2.2.1.un (by rw [t9]; decide)
      exact absurd ((hM.en u9 (hs u9)).symm.trans t9) (by decide)
    · refine go_aload_n (pc' := 15) cx dX6_added1_14 rfl rfl ?_
      refine go_bipush (pc' := 17) cx 45 dX6_added1_15 rfl rfl ?_
      refine go_cVi (pc' := 20) cx (c_isSign_45 l E hC hM) mX6_isSign lX6_231 dX6_added1_17 kq88 (ltn rfl) (ltn rfl) rfl rfl rfl rfl (by omega) (Nat.le_of_ble_eq_true rfl) (Nat.le_of_ble_eq_true rfl) rfl ?_
      refine go_if_eq (pc' := 23) cx 66 dX6_added1_20 rfl rfl (fun c20 => ?_) (fun c20 => ?_)
      · have h9 : lpF (advS (mT R fr) sz) pSu F 0 S = (S, []) := rfl
        rw [h9] at kk
        exact kk v g z hM (fun q => by rw [show cs ++ ([] : List Int32) = cs from List.append_nil cs]; exact hv q)
      · have t9 : S.2.2.1 = 10016 := one_of c20
        have u9 := hM.2.2.1.un (by rw [t9]; decide)
        exact absurd ((hM.en u9 (hs u9)).symm.trans t9) (by decide)
  | succ k ih =>
    intro S cs v g z hM hs hv kk
    refine go_aload_n (pc' := 6) cx dX6_added1_5 rfl rfl ?_
    refine go_bipush (pc' := 8) cx 43 dX6_added1_6 rfl rfl ?_
    refine go_cVi (pc' := 11) cx (c_isSign_43 l E hC hM) mX6_isSign lX6_231 dX6_added1_8 kq88 (ltn rfl) (ltn rfl) rfl rfl rfl rfl (by omega) (Nat.le_of_ble_eq_true rfl) (Nat.le_of_ble_eq_true rfl) rfl ?_
    refine go_if_ne (pc' := 14) cx 23 dX6_added1_11 rfl rfl (fun c11 => ?_) (fun c11 => ?_)
    · have tc11 : S.2.2.1 = 10015 := one_of c11
      have utc11 := hM.2.2.1.un (by rw [tc11]; decide)
      refine go_aload_n (pc' := 24) cx dX6_added1_23 rfl rfl ?_
      refine go_getl (N := 56) (pc' := 27) cx fX6_186 dX6_added1_24 (ltn rfl) rfl ?_
      refine go_ldc2 (pc' := 30) cx 43 kX6_248 dX6_added1_27 rfl ?_
      refine go_val (w := .long (((43 : Int32)).toInt64)) (congrArg Value.long (by decide)) ?_
      refine go_lcmp (pc' := 31) cx dX6_added1_30 rfl ?_
      refine go_if_ne (pc' := 34) cx 38 dX6_added1_31 rfl rfl (fun hh => absurd hh (by rw [wth_10015 hM utc11 tc11]; decide)) (fun _ => ?_)
      refine go_iconst (pc' := 35) cx 1 dX6_added1_34 rfl rfl ?_
      refine go_goto cx 39 dX6_added1_35 rfl ?_
      refine go_istore_n (pc' := 40) cx dX6_added1_39 (ltn rfl) [(2, .int 1), (1, .int v), (0, .ref (E.2.1 88))] rfl rfl ?_
      refine go_aload_n (pc' := 41) cx dX6_added1_40 rfl rfl ?_
      have aG_1 := adv_W hM.2.2.1 utc11
      refine go_cVVz (pc' := 44) cx (c_nextM l E hC hM utc11 (by rw [tc11]; decide)) mX6_next lX6_206 dX6_added1_41 kq88 (ltn rfl) (ltn rfl) rfl rfl rfl rfl (by omega) (Nat.le_of_ble_eq_true rfl) (Nat.le_of_ble_eq_true rfl) rfl (fun G_1 z_2 mG_1 => ?_)
      refine go_aload_n (pc' := 45) cx dX6_added1_44 rfl rfl ?_
      refine go_cVIz (pc' := 48) cx (hC1 (advS (mT R fr) sz S) G_1 z_2 mG_1) mX6_term1 lX6_321 dX6_added1_45 kq88 (ltn rfl) (ltn rfl) rfl rfl rfl rfl (by omega) (Nat.le_of_ble_eq_true rfl) (Nat.le_of_ble_eq_true rfl) rfl (fun w_5 G_3 z_4 hG_3 => ?_)
      obtain ⟨mG_3, vG_3⟩ := hG_3
      refine go_istore_n (pc' := 49) cx dX6_added1_48 (ltn rfl) [(3, .int w_5), (2, .int 1), (1, .int v), (0, .ref (E.2.1 88))] rfl rfl ?_
      refine go_iload_n (pc' := 50) cx dX6_added1_49 rfl rfl ?_
      refine go_if_eq (pc' := 53) cx 59 dX6_added1_50 rfl rfl (fun hh => absurd hh (by decide)) (fun _ => ?_)
      refine go_iload_n (pc' := 54) cx dX6_added1_53 rfl rfl ?_
      refine go_iload_n (pc' := 55) cx dX6_added1_54 rfl rfl ?_
      refine go_iadd (pc' := 56) cx dX6_added1_55 rfl ?_
      refine go_goto cx 62 dX6_added1_56 rfl ?_
      refine go_istore_n (pc' := 63) cx dX6_added1_62 (ltn rfl) [(1, .int (v + w_5)), (3, .int w_5), (2, .int 1), (0, .ref (E.2.1 88))] rfl rfl ?_
      refine go_goto cx 5 dX6_added1_63 rfl ?_
      refine go_sub [0, 3] [(1, .int (v + w_5)), (0, .ref (E.2.1 88))] rfl ?_
      have h9 : lpF (advS (mT R fr) sz) pSu F (k + 1) S = ((lpF (advS (mT R fr) sz) pSu F k (F ((advS (mT R fr) sz) S)).1).1, (F ((advS (mT R fr) sz) S)).2 ++ S.2.2.1 :: (lpF (advS (mT R fr) sz) pSu F k (F ((advS (mT R fr) sz) S)).1).2) := if_pos (by rw [tc11]; rfl)
      rw [h9, tc11] at kk
      have p9 := hP _ aG_1.1
      refine ih (F ((advS (mT R fr) sz) S)).1 (cs ++ (F ((advS (mT R fr) sz) S)).2 ++ [10015]) (v + w_5) G_3 z_4 mG_3 (fun q9 => ?_) (fun q9 => ?_) (fun x g1 z1 h1 h2 => kk x g1 z1 h1 (fun q9 => by rw [lp_app]; exact h2 q9))
      · have := hM.lt utc11 (by rw [tc11]; decide)
        have := aG_1.2.2.1 this
        have := p9.2.1
        have := hs utc11
        omega
      · have g9 := GC_bin (c := 10015) (D := D + 1) (hv utc11) (vG_3 q9) (Nat.le_refl _) (Nat.le_refl _) (by decide) (by decide) (by decide)
        rw [jn_pl] at g9
        exact g9
    · refine go_aload_n (pc' := 15) cx dX6_added1_14 rfl rfl ?_
      refine go_bipush (pc' := 17) cx 45 dX6_added1_15 rfl rfl ?_
      refine go_cVi (pc' := 20) cx (c_isSign_45 l E hC hM) mX6_isSign lX6_231 dX6_added1_17 kq88 (ltn rfl) (ltn rfl) rfl rfl rfl rfl (by omega) (Nat.le_of_ble_eq_true rfl) (Nat.le_of_ble_eq_true rfl) rfl ?_
      refine go_if_eq (pc' := 23) cx 66 dX6_added1_20 rfl rfl (fun c20 => ?_) (fun c20 => ?_)
      · have h9 : lpF (advS (mT R fr) sz) pSu F (k + 1) S = (S, []) := if_neg (show ¬ pSu S.2.2.1 = true from by unfold pSu; simp only [Bool.or_eq_true, beq_iff_eq]; exact fun q => q.elim (zero_of c11) (zero_of c20))
        rw [h9] at kk
        exact kk v g z hM (fun q => by rw [show cs ++ ([] : List Int32) = cs from List.append_nil cs]; exact hv q)
      · have tc20 : S.2.2.1 = 10016 := one_of c20
        have utc20 := hM.2.2.1.un (by rw [tc20]; decide)
        refine go_aload_n (pc' := 24) cx dX6_added1_23 rfl rfl ?_
        refine go_getl (N := 56) (pc' := 27) cx fX6_186 dX6_added1_24 (ltn rfl) rfl ?_
        refine go_ldc2 (pc' := 30) cx 43 kX6_248 dX6_added1_27 rfl ?_
        refine go_val (w := .long (((43 : Int32)).toInt64)) (congrArg Value.long (by decide)) ?_
        refine go_lcmp (pc' := 31) cx dX6_added1_30 rfl ?_
        refine go_if_ne (pc' := 34) cx 38 dX6_added1_31 rfl rfl (fun _ => ?_) (fun hh => absurd hh (by rw [wth_10016 hM utc20 tc20]; decide))
        refine go_iconst (pc' := 39) cx 0 dX6_added1_38 rfl rfl ?_
        refine go_istore_n (pc' := 40) cx dX6_added1_39 (ltn rfl) [(2, .int 0), (1, .int v), (0, .ref (E.2.1 88))] rfl rfl ?_
        refine go_aload_n (pc' := 41) cx dX6_added1_40 rfl rfl ?_
        have aG_6 := adv_W hM.2.2.1 utc20
        refine go_cVVz (pc' := 44) cx (c_nextM l E hC hM utc20 (by rw [tc20]; decide)) mX6_next lX6_206 dX6_added1_41 kq88 (ltn rfl) (ltn rfl) rfl rfl rfl rfl (by omega) (Nat.le_of_ble_eq_true rfl) (Nat.le_of_ble_eq_true rfl) rfl (fun G_6 z_7 mG_6 => ?_)
        refine go_aload_n (pc' := 45) cx dX6_added1_44 rfl rfl ?_
        refine go_cVIz (pc' := 48) cx (hC1 (advS (mT R fr) sz S) G_6 z_7 mG_6) mX6_term1 lX6_321 dX6_added1_45 kq88 (ltn rfl) (ltn rfl) rfl rfl rfl rfl (by omega) (Nat.le_of_ble_eq_true rfl) (Nat.le_of_ble_eq_true rfl) rfl (fun w_10 G_8 z_9 hG_8 => ?_)
        obtain ⟨mG_8, vG_8⟩ := hG_8
        refine go_istore_n (pc' := 49) cx dX6_added1_48 (ltn rfl) [(3, .int w_10), (2, .int 0), (1, .int v), (0, .ref (E.2.1 88))] rfl rfl ?_
        refine go_iload_n (pc' := 50) cx dX6_added1_49 rfl rfl ?_
        refine go_if_eq (pc' := 53) cx 59 dX6_added1_50 rfl rfl (fun _ => ?_) (fun hh => absurd hh (by decide))
        refine go_iload_n (pc' := 60) cx dX6_added1_59 rfl rfl ?_
        refine go_iload_n (pc' := 61) cx dX6_added1_60 rfl rfl ?_
        refine go_isub (pc' := 62) cx dX6_added1_61 rfl ?_
        refine go_istore_n (pc' := 63) cx dX6_added1_62 (ltn rfl) [(1, .int (v - w_10)), (3, .int w_10), (2, .int 0), (0, .ref (E.2.1 88))] rfl rfl ?_
        refine go_goto cx 5 dX6_added1_63 rfl ?_
        refine go_sub [0, 3] [(1, .int (v - w_10)), (0, .ref (E.2.1 88))] rfl ?_
        have h9 : lpF (advS (mT R fr) sz) pSu F (k + 1) S = ((lpF (advS (mT R fr) sz) pSu F k (F ((advS (mT R fr) sz) S)).1).1, (F ((advS (mT R fr) sz) S)).2 ++ S.2.2.1 :: (lpF (advS (mT R fr) sz) pSu F k (F ((advS (mT R fr) sz) S)).1).2) := if_pos (by rw [tc20]; rfl)
        rw [h9, tc20] at kk
        have p9 := hP _ aG_6.1
        refine ih (F ((advS (mT R fr) sz) S)).1 (cs ++ (F ((advS (mT R fr) sz) S)).2 ++ [10016]) (v - w_10) G_8 z_9 mG_8 (fun q9 => ?_) (fun q9 => ?_) (fun x g1 z1 h1 h2 => kk x g1 z1 h1 (fun q9 => by rw [lp_app]; exact h2 q9))
        · have := hM.lt utc20 (by rw [tc20]; decide)
          have := aG_6.2.2.1 this
          have := p9.2.1
          have := hs utc20
          omega
        · have g9 := GC_bin (c := 10016) (D := D + 1) (hv utc20) (vG_8 q9) (Nat.le_refl _) (Nat.le_refl _) (by decide) (by decide) (by decide)
          rw [jn_mi] at g9
          exact g9

set_option maxHeartbeats 1000000 in
set_option maxRecDepth 20000 in
theorem c_X6_added1 (l : Launch) (E : Ev) {g0 : IG} {o : Option Nat} {fr sz : Nat} {R : Nat → Int32} (hC : MCx g0 fr sz R) {F : PF} (hP : Pp (mT R fr) sz F) {D d : Nat} (hd : 4 ≤ d) (hC1 : McC l E o g0 fr sz R 1 yX6_term1 cX6_term1 2 d F D)  : McC l E o g0 fr sz R 1 yX6_added1 cX6_added1 4 (d + 1) (lvF (advS (mT R fr) sz) pSu F) (D + 1) := by
  intro S g z hM
  refine Ct.of (lv0 := [(0, .ref (E.2.1 88))]) (by decide) (Nat.le_of_ble_eq_true rfl) rfl ?_
  intro p e s m below meth c cx
  obtain ⟨hfr, hsz, h26, h27, h89, hT0⟩ := id hC
  refine go_aload_n (pc' := 1) cx dX6_added1_0 rfl rfl ?_
  refine go_cVIz (pc' := 4) cx (hC1 S g z hM) mX6_term1 lX6_321 dX6_added1_1 kq88 (ltn rfl) (ltn rfl) rfl rfl rfl rfl (by omega) (Nat.le_of_ble_eq_true rfl) (Nat.le_of_ble_eq_true rfl) rfl (fun w_3 G_1 z_2 hG_1 => ?_)
  obtain ⟨mG_1, vG_1⟩ := hG_1
  refine go_istore_n (pc' := 5) cx dX6_added1_4 (ltn rfl) [(1, .int w_3), (0, .ref (E.2.1 88))] rfl rfl ?_
  have p9 := hP S hM.2.2.1
  refine added1_loop hC hP hd hC1 cx 160 (F S).1 (F S).2 w_3 G_1 z_2 mG_1 (fun _ => by omega) (fun q9 => (vG_1 q9).mono (Nat.le_succ D)) (fun x g1 z1 h1 h2 => ?_)
  refine go_iload_n (pc' := 67) cx dX6_added1_66 rfl rfl ?_
  refine go_iret cx rfl dX6_added1_67 ?_
  exact ZIz.mk ⟨h1, h2⟩

set_option maxHeartbeats 1000000 in
set_option maxRecDepth 20000 in
theorem both1_loop {l : Launch} {E : Ev} {Z : ZT} {g0 : IG} {o : Option Nat} {p : Program} {e : Env} {s : State} {m : MethodId} {args : Array Value} {below : List Frame} {meth : Method} {c : Code} {fr sz : Nat} {R : Nat → Int32} (hC : MCx g0 fr sz R) {F : PF} (hP : Pp (mT R fr) sz F) {D d : Nat} (hd : 4 ≤ d) (hC1 : McC l E o g0 fr sz R 1 yX6_not1 cX6_not1 4 d F D)  (cx : Cx p s m args meth c E 115 cX6_both1 3 yX6_both1.cls (some .int)) : ∀ (k : Nat) (S : PS) (cs : List Int32) (v : Int32) (g : IG) (z : Int64), MdS g0 fr sz R 1 S g z → (S.2.2.2 = -1 → sz ≤ S.2.1 + k) → (S.2.2.2 = -1 → GC (evM g0) (D + 1) cs v) → (∀ x g1 z1, MdS g0 fr sz R 1 (lpF (advS (mT R fr) sz) pAn F k S).1 g1 z1 → ((lpF (advS (mT R fr) sz) pAn F k S).1.2.2.2 = -1 → GC (evM g0) (D + 1) (cs ++ (lpF (advS (mT R fr) sz) pAn F k S).2) x) → Go p l e (rmd (d + 1)) s m args below meth c E 115 3 Z g1 (RFo o) z1 49 [(1, .int x), (0, .ref (E.2.1 88))] []) → Go p l e (rmd (d + 1)) s m args below meth c E 115 3 Z g (RFo o) z 5 [(1, .int v), (0, .ref (E.2.1 88))] [] := by
  intro k
  induction k with
  | zero =>
    intro S cs v g z hM hs hv kk
    refine go_aload_n (pc' := 6) cx dX6_both1_5 rfl rfl ?_
    refine go_bipush (pc' := 8) cx 97 dX6_both1_6 rfl rfl ?_
    refine go_bipush (pc' := 10) cx 110 dX6_both1_8 rfl rfl ?_
    refine go_bipush (pc' := 12) cx 100 dX6_both1_10 rfl rfl ?_
    refine go_iconst (pc' := 13) cx 0 dX6_both1_12 rfl rfl ?_
    refine go_iconst (pc' := 14) cx 0 dX6_both1_13 rfl rfl ?_
    refine go_iconst (pc' := 15) cx 0 dX6_both1_14 rfl rfl ?_
    refine go_iconst (pc' := 16) cx 0 dX6_both1_15 rfl rfl ?_
    refine go_iconst (pc' := 17) cx 0 dX6_both1_16 rfl rfl ?_
    refine go_cVi (pc' := 20) cx (c_isWord_10 l E hC hM) mX6_isWord lX6_209 dX6_both1_17 kq88 (ltn rfl) (ltn rfl) rfl rfl rfl rfl (by omega) (Nat.le_of_ble_eq_true rfl) (Nat.le_of_ble_eq_true rfl) rfl ?_
    refine go_if_eq (pc' := 23) cx 49 dX6_both1_20 rfl rfl (fun c20 => ?_) (fun c20 => ?_)
    · have h9 : lpF (advS (mT R fr) sz) pAn F 0 S = (S, []) := rfl
      rw [h9] at kk
      exact kk v g z hM (fun q => by rw [show cs ++ ([] : List Int32) = cs from List.append_nil cs]; exact hv q)
    · have t9 : S.2.2.1 = 10010 := one_of c20
      have u9 := hM.2.2.1.un (by rw [t9]; decide)
      exact absurd ((hM.en u9 (hs u9)).symm.trans t9) (by decide)
  | succ k ih =>
    intro S cs v g z hM hs hv kk
    refine go_aload_n (pc' := 6) cx dX6_both1_5 rfl rfl ?_
    refine go_bipush (pc' := 8) cx 97 dX6_both1_6 rfl rfl ?_
    refine go_bipush (pc' := 10) cx 110 dX6_both1_8 rfl rfl ?_
    refine go_bipush (pc' := 12) cx 100 dX6_both1_10 rfl rfl ?_
    refine go_iconst (pc' := 13) cx 0 dX6_both1_12 rfl rfl ?_
    refine go_iconst (pc' := 14) cx 0 dX6_both1_13 rfl rfl ?_
    refine go_iconst (pc' := 15) cx 0 dX6_both1_14 rfl rfl ?_
    refine go_iconst (pc' := 16) cx 0 dX6_both1_15 rfl rfl ?_
    refine go_iconst (pc' := 17) cx 0 dX6_both1_16 rfl rfl ?_
    refine go_cVi (pc' := 20) cx (c_isWord_10 l E hC hM) mX6_isWord lX6_209 dX6_both1_17 kq88 (ltn rfl) (ltn rfl) rfl rfl rfl rfl (by omega) (Nat.le_of_ble_eq_true rfl) (Nat.le_of_ble_eq_true rfl) rfl ?_
    refine go_if_eq (pc' := 23) cx 49 dX6_both1_20 rfl rfl (fun c20 => ?_) (fun c20 => ?_)
    · have h9 : lpF (advS (mT R fr) sz) pAn F (k + 1) S = (S, []) := if_neg (show ¬ pAn S.2.2.1 = true from by unfold pAn; simp only [beq_iff_eq]; exact zero_of c20)
      rw [h9] at kk
      exact kk v g z hM (fun q => by rw [show cs ++ ([] : List Int32) = cs from List.append_nil cs]; exact hv q)
    · have tc20 : S.2.2.1 = 10010 := one_of c20
      have utc20 := hM.2.2.1.un (by rw [tc20]; decide)
      refine go_aload_n (pc' := 24) cx dX6_both1_23 rfl rfl ?_
      have aG_1 := adv_W hM.2.2.1 utc20
      refine go_cVVz (pc' := 27) cx (c_nextM l E hC hM utc20 (by rw [tc20]; decide)) mX6_next lX6_206 dX6_both1_24 kq88 (ltn rfl) (ltn rfl) rfl rfl rfl rfl (by omega) (Nat.le_of_ble_eq_true rfl) (Nat.le_of_ble_eq_true rfl) rfl (fun G_1 z_2 mG_1 => ?_)
      refine go_aload_n (pc' := 28) cx dX6_both1_27 rfl rfl ?_
      refine go_cVIz (pc' := 31) cx (hC1 (advS (mT R fr) sz S) G_1 z_2 mG_1) mX6_not1 lX6_327 dX6_both1_28 kq88 (ltn rfl) (ltn rfl) rfl rfl rfl rfl (by omega) (Nat.le_of_ble_eq_true rfl) (Nat.le_of_ble_eq_true rfl) rfl (fun w_5 G_3 z_4 hG_3 => ?_)
      obtain ⟨mG_3, vG_3⟩ := hG_3
      refine go_istore_n (pc' := 32) cx dX6_both1_31 (ltn rfl) [(2, .int w_5), (1, .int v), (0, .ref (E.2.1 88))] rfl rfl ?_
      refine go_iload_n (pc' := 33) cx dX6_both1_32 rfl rfl ?_
      refine go_if_eq (pc' := 36) cx 44 dX6_both1_33 rfl rfl (fun c33 => ?_) (fun c33 => ?_)
      · refine go_iconst (pc' := 45) cx 0 dX6_both1_44 rfl rfl ?_
        refine go_istore_n (pc' := 46) cx dX6_both1_45 (ltn rfl) [(1, .int 0), (2, .int w_5), (0, .ref (E.2.1 88))] rfl rfl ?_
        refine go_goto cx 5 dX6_both1_46 rfl ?_
        refine go_sub [0, 2] [(1, .int 0), (0, .ref (E.2.1 88))] rfl ?_
        have h9 : lpF (advS (mT R fr) sz) pAn F (k + 1) S = ((lpF (advS (mT R fr) sz) pAn F k (F ((advS (mT R fr) sz) S)).1).1, (F ((advS (mT R fr) sz) S)).2 ++ S.2.2.1 :: (lpF (advS (mT R fr) sz) pAn F k (F ((advS (mT R fr) sz) S)).1).2) := if_pos (by rw [tc20]; rfl)
        rw [h9, tc20] at kk
        have p9 := hP _ aG_1.1
        refine ih (F ((advS (mT R fr) sz) S)).1 (cs ++ (F ((advS (mT R fr) sz) S)).2 ++ [10010]) 0 G_3 z_4 mG_3 (fun q9 => ?_) (fun q9 => ?_) (fun x g1 z1 h1 h2 => kk x g1 z1 h1 (fun q9 => by rw [lp_app]; exact h2 q9))
        · have := hM.lt utc20 (by rw [tc20]; decide)
          have := aG_1.2.2.1 this
          have := p9.2.1
          have := hs utc20
          omega
        · have g9 := GC_bin (c := 10010) (D := D + 1) (hv utc20) (vG_3 q9) (Nat.le_refl _) (Nat.le_refl _) (by decide) (by decide) (by decide)
          have e9 : jnV 10010 v w_5 = 0 := by
            unfold jnV
            simp [c33]
          rw [e9] at g9
          exact g9
      · refine go_iload_n (pc' := 37) cx dX6_both1_36 rfl rfl ?_
        refine go_if_eq (pc' := 40) cx 44 dX6_both1_37 rfl rfl (fun c37 => ?_) (fun c37 => ?_)
        · refine go_iconst (pc' := 45) cx 0 dX6_both1_44 rfl rfl ?_
          refine go_istore_n (pc' := 46) cx dX6_both1_45 (ltn rfl) [(1, .int 0), (2, .int w_5), (0, .ref (E.2.1 88))] rfl rfl ?_
          refine go_goto cx 5 dX6_both1_46 rfl ?_
          refine go_sub [0, 2] [(1, .int 0), (0, .ref (E.2.1 88))] rfl ?_
          have h9 : lpF (advS (mT R fr) sz) pAn F (k + 1) S = ((lpF (advS (mT R fr) sz) pAn F k (F ((advS (mT R fr) sz) S)).1).1, (F ((advS (mT R fr) sz) S)).2 ++ S.2.2.1 :: (lpF (advS (mT R fr) sz) pAn F k (F ((advS (mT R fr) sz) S)).1).2) := if_pos (by rw [tc20]; rfl)
          rw [h9, tc20] at kk
          have p9 := hP _ aG_1.1
          refine ih (F ((advS (mT R fr) sz) S)).1 (cs ++ (F ((advS (mT R fr) sz) S)).2 ++ [10010]) 0 G_3 z_4 mG_3 (fun q9 => ?_) (fun q9 => ?_) (fun x g1 z1 h1 h2 => kk x g1 z1 h1 (fun q9 => by rw [lp_app]; exact h2 q9))
          · have := hM.lt utc20 (by rw [tc20]; decide)
            have := aG_1.2.2.1 this
            have := p9.2.1
            have := hs utc20
            omega
          · have g9 := GC_bin (c := 10010) (D := D + 1) (hv utc20) (vG_3 q9) (Nat.le_refl _) (Nat.le_refl _) (by decide) (by decide) (by decide)
            have e9 : jnV 10010 v w_5 = 0 := by
              unfold jnV
              simp [c33, c37]
            rw [e9] at g9
            exact g9
        · refine go_iconst (pc' := 41) cx 1 dX6_both1_40 rfl rfl ?_
          refine go_goto cx 45 dX6_both1_41 rfl ?_
          refine go_istore_n (pc' := 46) cx dX6_both1_45 (ltn rfl) [(1, .int 1), (2, .int w_5), (0, .ref (E.2.1 88))] rfl rfl ?_
          refine go_goto cx 5 dX6_both1_46 rfl ?_
          refine go_sub [0, 2] [(1, .int 1), (0, .ref (E.2.1 88))] rfl ?_
          have h9 : lpF (advS (mT R fr) sz) pAn F (k + 1) S = ((lpF (advS (mT R fr) sz) pAn F k (F ((advS (mT R fr) sz) S)).1).1, (F ((advS (mT R fr) sz) S)).2 ++ S.2.2.1 :: (lpF (advS (mT R fr) sz) pAn F k (F ((advS (mT R fr) sz) S)).1).2) := if_pos (by rw [tc20]; rfl)
          rw [h9, tc20] at kk
          have p9 := hP _ aG_1.1
          refine ih (F ((advS (mT R fr) sz) S)).1 (cs ++ (F ((advS (mT R fr) sz) S)).2 ++ [10010]) 1 G_3 z_4 mG_3 (fun q9 => ?_) (fun q9 => ?_) (fun x g1 z1 h1 h2 => kk x g1 z1 h1 (fun q9 => by rw [lp_app]; exact h2 q9))
          · have := hM.lt utc20 (by rw [tc20]; decide)
            have := aG_1.2.2.1 this
            have := p9.2.1
            have := hs utc20
            omega
          · have g9 := GC_bin (c := 10010) (D := D + 1) (hv utc20) (vG_3 q9) (Nat.le_refl _) (Nat.le_refl _) (by decide) (by decide) (by decide)
            have e9 : jnV 10010 v w_5 = 1 := by
              unfold jnV
              simp [c33, c37]
            rw [e9] at g9
            exact g9

set_option maxHeartbeats 1000000 in
set_option maxRecDepth 20000 in
theorem c_X6_both1 (l : Launch) (E : Ev) {g0 : IG} {o : Option Nat} {fr sz : Nat} {R : Nat → Int32} (hC : MCx g0 fr sz R) {F : PF} (hP : Pp (mT R fr) sz F) {D d : Nat} (hd : 4 ≤ d) (hC1 : McC l E o g0 fr sz R 1 yX6_not1 cX6_not1 4 d F D)  : McC l E o g0 fr sz R 1 yX6_both1 cX6_both1 3 (d + 1) (lvF (advS (mT R fr) sz) pAn F) (D + 1) := by
  intro S g z hM
  refine Ct.of (lv0 := [(0, .ref (E.2.1 88))]) (by decide) (Nat.le_of_ble_eq_true rfl) rfl ?_
  intro p e s m below meth c cx
  obtain ⟨hfr, hsz, h26, h27, h89, hT0⟩ := id hC
  refine go_aload_n (pc' := 1) cx dX6_both1_0 rfl rfl ?_
  refine go_cVIz (pc' := 4) cx (hC1 S g z hM) mX6_not1 lX6_327 dX6_both1_1 kq88 (ltn rfl) (ltn rfl) rfl rfl rfl rfl (by omega) (Nat.le_of_ble_eq_true rfl) (Nat.le_of_ble_eq_true rfl) rfl (fun w_3 G_1 z_2 hG_1 => ?_)
  obtain ⟨mG_1, vG_1⟩ := hG_1
  refine go_istore_n (pc' := 5) cx dX6_both1_4 (ltn rfl) [(1, .int w_3), (0, .ref (E.2.1 88))] rfl rfl ?_
  have p9 := hP S hM.2.2.1
  refine both1_loop hC hP hd hC1 cx 160 (F S).1 (F S).2 w_3 G_1 z_2 mG_1 (fun _ => by omega) (fun q9 => (vG_1 q9).mono (Nat.le_succ D)) (fun x g1 z1 h1 h2 => ?_)
  refine go_iload_n (pc' := 50) cx dX6_both1_49 rfl rfl ?_
  refine go_iret cx rfl dX6_both1_50 ?_
  exact ZIz.mk ⟨h1, h2⟩

set_option maxHeartbeats 1000000 in
set_option maxRecDepth 20000 in
theorem either1_loop {l : Launch} {E : Ev} {Z : ZT} {g0 : IG} {o : Option Nat} {p : Program} {e : Env} {s : State} {m : MethodId} {args : Array Value} {below : List Frame} {meth : Method} {c : Code} {fr sz : Nat} {R : Nat → Int32} (hC : MCx g0 fr sz R) {F : PF} (hP : Pp (mT R fr) sz F) {D d : Nat} (hd : 4 ≤ d) (hC1 : McC l E o g0 fr sz R 1 yX6_both1 cX6_both1 3 d F D)  (cx : Cx p s m args meth c E 115 cX6_either1 3 yX6_either1.cls (some .int)) : ∀ (k : Nat) (S : PS) (cs : List Int32) (v : Int32) (g : IG) (z : Int64), MdS g0 fr sz R 1 S g z → (S.2.2.2 = -1 → sz ≤ S.2.1 + k) → (S.2.2.2 = -1 → GC (evM g0) (D + 1) cs v) → (∀ x g1 z1, MdS g0 fr sz R 1 (lpF (advS (mT R fr) sz) pOr F k S).1 g1 z1 → ((lpF (advS (mT R fr) sz) pOr F k S).1.2.2.2 = -1 → GC (evM g0) (D + 1) (cs ++ (lpF (advS (mT R fr) sz) pOr F k S).2) x) → Go p l e (rmd (d + 1)) s m args below meth c E 115 3 Z g1 (RFo o) z1 48 [(1, .int x), (0, .ref (E.2.1 88))] []) → Go p l e (rmd (d + 1)) s m args below meth c E 115 3 Z g (RFo o) z 5 [(1, .int v), (0, .ref (E.2.1 88))] [] := by
  intro k
  induction k with
  | zero =>
    intro S cs v g z hM hs hv kk
    refine go_aload_n (pc' := 6) cx dX6_either1_5 rfl rfl ?_
    refine go_bipush (pc' := 8) cx 111 dX6_either1_6 rfl rfl ?_
    refine go_bipush (pc' := 10) cx 114 dX6_either1_8 rfl rfl ?_
    refine go_iconst (pc' := 11) cx 0 dX6_either1_10 rfl rfl ?_
    refine go_iconst (pc' := 12) cx 0 dX6_either1_11 rfl rfl ?_
    refine go_iconst (pc' := 13) cx 0 dX6_either1_12 rfl rfl ?_
    refine go_iconst (pc' := 14) cx 0 dX6_either1_13 rfl rfl ?_
    refine go_iconst (pc' := 15) cx 0 dX6_either1_14 rfl rfl ?_
    refine go_iconst (pc' := 16) cx 0 dX6_either1_15 rfl rfl ?_
    refine go_cVi (pc' := 19) cx (c_isWord_9 l E hC hM) mX6_isWord lX6_209 dX6_either1_16 kq88 (ltn rfl) (ltn rfl) rfl rfl rfl rfl (by omega) (Nat.le_of_ble_eq_true rfl) (Nat.le_of_ble_eq_true rfl) rfl ?_
    refine go_if_eq (pc' := 22) cx 48 dX6_either1_19 rfl rfl (fun c19 => ?_) (fun c19 => ?_)
    · have h9 : lpF (advS (mT R fr) sz) pOr F 0 S = (S, []) := rfl
      rw [h9] at kk
      exact kk v g z hM (fun q => by rw [show cs ++ ([] : List Int32) = cs from List.append_nil cs]; exact hv q)
    · have t9 : S.2.2.1 = 10009 := one_of c19
      have u9 := hM.2.2.1.un (by rw [t9]; decide)
      exact absurd ((hM.en u9 (hs u9)).symm.trans t9) (by decide)
  | succ k ih =>
    intro S cs v g z hM hs hv kk
    refine go_aload_n (pc' := 6) cx dX6_either1_5 rfl rfl ?_
    refine go_bipush (pc' := 8) cx 111 dX6_either1_6 rfl rfl ?_
    refine go_bipush (pc' := 10) cx 114 dX6_either1_8 rfl rfl ?_
    refine go_iconst (pc' := 11) cx 0 dX6_either1_10 rfl rfl ?_
    refine go_iconst (pc' := 12) cx 0 dX6_either1_11 rfl rfl ?_
    refine go_iconst (pc' := 13) cx 0 dX6_either1_12 rfl rfl ?_
    refine go_iconst (pc' := 14) cx 0 dX6_either1_13 rfl rfl ?_
    refine go_iconst (pc' := 15) cx 0 dX6_either1_14 rfl rfl ?_
    refine go_iconst (pc' := 16) cx 0 dX6_either1_15 rfl rfl ?_
    refine go_cVi (pc' := 19) cx (c_isWord_9 l E hC hM) mX6_isWord lX6_209 dX6_either1_16 kq88 (ltn rfl) (ltn rfl) rfl rfl rfl rfl (by omega) (Nat.le_of_ble_eq_true rfl) (Nat.le_of_ble_eq_true rfl) rfl ?_
    refine go_if_eq (pc' := 22) cx 48 dX6_either1_19 rfl rfl (fun c19 => ?_) (fun c19 => ?_)
    · have h9 : lpF (advS (mT R fr) sz) pOr F (k + 1) S = (S, []) := if_neg (show ¬ pOr S.2.2.1 = true from by unfold pOr; simp only [beq_iff_eq]; exact zero_of c19)
      rw [h9] at kk
      exact kk v g z hM (fun q => by rw [show cs ++ ([] : List Int32) = cs from List.append_nil cs]; exact hv q)
    · have tc19 : S.2.2.1 = 10009 := one_of c19
      have utc19 := hM.2.2.1.un (by rw [tc19]; decide)
      refine go_aload_n (pc' := 23) cx dX6_either1_22 rfl rfl ?_
      have aG_1 := adv_W hM.2.2.1 utc19
      refine go_cVVz (pc' := 26) cx (c_nextM l E hC hM utc19 (by rw [tc19]; decide)) mX6_next lX6_206 dX6_either1_23 kq88 (ltn rfl) (ltn rfl) rfl rfl rfl rfl (by omega) (Nat.le_of_ble_eq_true rfl) (Nat.le_of_ble_eq_true rfl) rfl (fun G_1 z_2 mG_1 => ?_)
      refine go_aload_n (pc' := 27) cx dX6_either1_26 rfl rfl ?_
      refine go_cVIz (pc' := 30) cx (hC1 (advS (mT R fr) sz S) G_1 z_2 mG_1) mX6_both1 lX6_330 dX6_either1_27 kq88 (ltn rfl) (ltn rfl) rfl rfl rfl rfl (by omega) (Nat.le_of_ble_eq_true rfl) (Nat.le_of_ble_eq_true rfl) rfl (fun w_5 G_3 z_4 hG_3 => ?_)
      obtain ⟨mG_3, vG_3⟩ := hG_3
      refine go_istore_n (pc' := 31) cx dX6_either1_30 (ltn rfl) [(2, .int w_5), (1, .int v), (0, .ref (E.2.1 88))] rfl rfl ?_
      refine go_iload_n (pc' := 32) cx dX6_either1_31 rfl rfl ?_
      refine go_if_ne (pc' := 35) cx 39 dX6_either1_32 rfl rfl (fun c32 => ?_) (fun c32 => ?_)
      · refine go_iconst (pc' := 40) cx 1 dX6_either1_39 rfl rfl ?_
        refine go_goto cx 44 dX6_either1_40 rfl ?_
        refine go_istore_n (pc' := 45) cx dX6_either1_44 (ltn rfl) [(1, .int 1), (2, .int w_5), (0, .ref (E.2.1 88))] rfl rfl ?_
        refine go_goto cx 5 dX6_either1_45 rfl ?_
        refine go_sub [0, 2] [(1, .int 1), (0, .ref (E.2.1 88))] rfl ?_
        have h9 : lpF (advS (mT R fr) sz) pOr F (k + 1) S = ((lpF (advS (mT R fr) sz) pOr F k (F ((advS (mT R fr) sz) S)).1).1, (F ((advS (mT R fr) sz) S)).2 ++ S.2.2.1 :: (lpF (advS (mT R fr) sz) pOr F k (F ((advS (mT R fr) sz) S)).1).2) := if_pos (by rw [tc19]; rfl)
        rw [h9, tc19] at kk
        have p9 := hP _ aG_1.1
        refine ih (F ((advS (mT R fr) sz) S)).1 (cs ++ (F ((advS (mT R fr) sz) S)).2 ++ [10009]) 1 G_3 z_4 mG_3 (fun q9 => ?_) (fun q9 => ?_) (fun x g1 z1 h1 h2 => kk x g1 z1 h1 (fun q9 => by rw [lp_app]; exact h2 q9))
        · have := hM.lt utc19 (by rw [tc19]; decide)
          have := aG_1.2.2.1 this
          have := p9.2.1
          have := hs utc19
          omega
        · have g9 := GC_bin (c := 10009) (D := D + 1) (hv utc19) (vG_3 q9) (Nat.le_refl _) (Nat.le_refl _) (by decide) (by decide) (by decide)
          have e9 : jnV 10009 v w_5 = 1 := by
            unfold jnV
            simp [c32]
          rw [e9] at g9
          exact g9
      · refine go_iload_n (pc' := 36) cx dX6_either1_35 rfl rfl ?_
        refine go_if_eq (pc' := 39) cx 43 dX6_either1_36 rfl rfl (fun c36 => ?_) (fun c36 => ?_)
        · refine go_iconst (pc' := 44) cx 0 dX6_either1_43 rfl rfl ?_
          refine go_istore_n (pc' := 45) cx dX6_either1_44 (ltn rfl) [(1, .int 0), (2, .int w_5), (0, .ref (E.2.1 88))] rfl rfl ?_
          refine go_goto cx 5 dX6_either1_45 rfl ?_
          refine go_sub [0, 2] [(1, .int 0), (0, .ref (E.2.1 88))] rfl ?_
          have h9 : lpF (advS (mT R fr) sz) pOr F (k + 1) S = ((lpF (advS (mT R fr) sz) pOr F k (F ((advS (mT R fr) sz) S)).1).1, (F ((advS (mT R fr) sz) S)).2 ++ S.2.2.1 :: (lpF (advS (mT R fr) sz) pOr F k (F ((advS (mT R fr) sz) S)).1).2) := if_pos (by rw [tc19]; rfl)
          rw [h9, tc19] at kk
          have p9 := hP _ aG_1.1
          refine ih (F ((advS (mT R fr) sz) S)).1 (cs ++ (F ((advS (mT R fr) sz) S)).2 ++ [10009]) 0 G_3 z_4 mG_3 (fun q9 => ?_) (fun q9 => ?_) (fun x g1 z1 h1 h2 => kk x g1 z1 h1 (fun q9 => by rw [lp_app]; exact h2 q9))
          · have := hM.lt utc19 (by rw [tc19]; decide)
            have := aG_1.2.2.1 this
            have := p9.2.1
            have := hs utc19
            omega
          · have g9 := GC_bin (c := 10009) (D := D + 1) (hv utc19) (vG_3 q9) (Nat.le_refl _) (Nat.le_refl _) (by decide) (by decide) (by decide)
            have e9 : jnV 10009 v w_5 = 0 := by
              unfold jnV
              simp [c32, c36]
            rw [e9] at g9
            exact g9
        · refine go_iconst (pc' := 40) cx 1 dX6_either1_39 rfl rfl ?_
          refine go_goto cx 44 dX6_either1_40 rfl ?_
          refine go_istore_n (pc' := 45) cx dX6_either1_44 (ltn rfl) [(1, .int 1), (2, .int w_5), (0, .ref (E.2.1 88))] rfl rfl ?_
          refine go_goto cx 5 dX6_either1_45 rfl ?_
          refine go_sub [0, 2] [(1, .int 1), (0, .ref (E.2.1 88))] rfl ?_
          have h9 : lpF (advS (mT R fr) sz) pOr F (k + 1) S = ((lpF (advS (mT R fr) sz) pOr F k (F ((advS (mT R fr) sz) S)).1).1, (F ((advS (mT R fr) sz) S)).2 ++ S.2.2.1 :: (lpF (advS (mT R fr) sz) pOr F k (F ((advS (mT R fr) sz) S)).1).2) := if_pos (by rw [tc19]; rfl)
          rw [h9, tc19] at kk
          have p9 := hP _ aG_1.1
          refine ih (F ((advS (mT R fr) sz) S)).1 (cs ++ (F ((advS (mT R fr) sz) S)).2 ++ [10009]) 1 G_3 z_4 mG_3 (fun q9 => ?_) (fun q9 => ?_) (fun x g1 z1 h1 h2 => kk x g1 z1 h1 (fun q9 => by rw [lp_app]; exact h2 q9))
          · have := hM.lt utc19 (by rw [tc19]; decide)
            have := aG_1.2.2.1 this
            have := p9.2.1
            have := hs utc19
            omega
          · have g9 := GC_bin (c := 10009) (D := D + 1) (hv utc19) (vG_3 q9) (Nat.le_refl _) (Nat.le_refl _) (by decide) (by decide) (by decide)
            have e9 : jnV 10009 v w_5 = 1 := by
              unfold jnV
              simp [c32, c36]
            rw [e9] at g9
            exact g9

set_option maxHeartbeats 1000000 in
set_option maxRecDepth 20000 in
theorem c_X6_either1 (l : Launch) (E : Ev) {g0 : IG} {o : Option Nat} {fr sz : Nat} {R : Nat → Int32} (hC : MCx g0 fr sz R) {F : PF} (hP : Pp (mT R fr) sz F) {D d : Nat} (hd : 4 ≤ d) (hC1 : McC l E o g0 fr sz R 1 yX6_both1 cX6_both1 3 d F D)  : McC l E o g0 fr sz R 1 yX6_either1 cX6_either1 3 (d + 1) (lvF (advS (mT R fr) sz) pOr F) (D + 1) := by
  intro S g z hM
  refine Ct.of (lv0 := [(0, .ref (E.2.1 88))]) (by decide) (Nat.le_of_ble_eq_true rfl) rfl ?_
  intro p e s m below meth c cx
  obtain ⟨hfr, hsz, h26, h27, h89, hT0⟩ := id hC
  refine go_aload_n (pc' := 1) cx dX6_either1_0 rfl rfl ?_
  refine go_cVIz (pc' := 4) cx (hC1 S g z hM) mX6_both1 lX6_330 dX6_either1_1 kq88 (ltn rfl) (ltn rfl) rfl rfl rfl rfl (by omega) (Nat.le_of_ble_eq_true rfl) (Nat.le_of_ble_eq_true rfl) rfl (fun w_3 G_1 z_2 hG_1 => ?_)
  obtain ⟨mG_1, vG_1⟩ := hG_1
  refine go_istore_n (pc' := 5) cx dX6_either1_4 (ltn rfl) [(1, .int w_3), (0, .ref (E.2.1 88))] rfl rfl ?_
  have p9 := hP S hM.2.2.1
  refine either1_loop hC hP hd hC1 cx 160 (F S).1 (F S).2 w_3 G_1 z_2 mG_1 (fun _ => by omega) (fun q9 => (vG_1 q9).mono (Nat.le_succ D)) (fun x g1 z1 h1 h2 => ?_)
  refine go_iload_n (pc' := 49) cx dX6_either1_48 rfl rfl ?_
  refine go_iret cx rfl dX6_either1_49 ?_
  exact ZIz.mk ⟨h1, h2⟩

set_option maxHeartbeats 1000000 in
set_option maxRecDepth 20000 in
theorem term2_loop {l : Launch} {E : Ev} {Z : ZT} {g0 : IG} {o : Option Nat} {p : Program} {e : Env} {s : State} {m : MethodId} {args : Array Value} {below : List Frame} {meth : Method} {c : Code} {fr sz : Nat} {R : Nat → Int32} (hC : MCx g0 fr sz R) {F : PF} (hP : Pp (mT R fr) sz F) {D d : Nat} (hd : 4 ≤ d) (hC1 : McC l E o g0 fr sz R 2 yX6_atom2 cX6_atom2 2 d F D)  (cx : Cx p s m args meth c E 115 cX6_term2 2 yX6_term2.cls (some .int)) : ∀ (k : Nat) (S : PS) (cs : List Int32) (v : Int32) (g : IG) (z : Int64), MdS g0 fr sz R 2 S g z → (S.2.2.2 = -1 → sz ≤ S.2.1 + k) → (S.2.2.2 = -1 → GC (evM g0) (D + 1) cs v) → (∀ x g1 z1, MdS g0 fr sz R 2 (lpF (advS (mT R fr) sz) pTe F k S).1 g1 z1 → ((lpF (advS (mT R fr) sz) pTe F k S).1.2.2.2 = -1 → GC (evM g0) (D + 1) (cs ++ (lpF (advS (mT R fr) sz) pTe F k S).2) x) → Go p l e (rmd (d + 1)) s m args below meth c E 115 2 Z g1 (RFo o) z1 28 [(1, .int x), (0, .ref (E.2.1 88))] []) → Go p l e (rmd (d + 1)) s m args below meth c E 115 2 Z g (RFo o) z 5 [(1, .int v), (0, .ref (E.2.1 88))] [] := by
  intro k
  induction k with
  | zero =>
    intro S cs v g z hM hs hv kk
    refine go_aload_n (pc' := 6) cx dX6_term2_5 rfl rfl ?_
    refine go_bipush (pc' := 8) cx 42 dX6_term2_6 rfl rfl ?_
    refine go_cVi (pc' := 11) cx (c_isSign_42 l E hC hM) mX6_isSign lX6_231 dX6_term2_8 kq88 (ltn rfl) (ltn rfl) rfl rfl rfl rfl (by omega) (Nat.le_of_ble_eq_true rfl) (Nat.le_of_ble_eq_true rfl) rfl ?_
    refine go_if_eq (pc' := 14) cx 28 dX6_term2_11 rfl rfl (fun c11 => ?_) (fun c11 => ?_)
    · have h9 : lpF (advS (mT R fr) sz) pTe F 0 S = (S, []) := rfl
      rw [h9] at kk
      exact kk v g z hM (fun q => by rw [show cs ++ ([] : List Int32) = cs from List.append_nil cs]; exact hv q)
    · have t9 : S.2.2.1 = 10017 := one_of c11
      have u9 := hM.2.2.1.un (by rw [t9]; decide)
      exact absurd ((hM.en u9 (hs u9)).symm.trans t9) (by decide)
  | succ k ih =>
    intro S cs v g z hM hs hv kk
    refine go_aload_n (pc' := 6) cx dX6_term2_5 rfl rfl ?_
    refine go_bipush (pc' := 8) cx 42 dX6_term2_6 rfl rfl ?_
    refine go_cVi (pc' := 11) cx (c_isSign_42 l E hC hM) mX6_isSign lX6_231 dX6_term2_8 kq88 (ltn rfl) (ltn rfl) rfl rfl rfl rfl (by omega) (Nat.le_of_ble_eq_true rfl) (Nat.le_of_ble_eq_true rfl) rfl ?_
    refine go_if_eq (pc' := 14) cx 28 dX6_term2_11 rfl rfl (fun c11 => ?_) (fun c11 => ?_)
    · have h9 : lpF (advS (mT R fr) sz) pTe F (k + 1) S = (S, []) := if_neg (show ¬ pTe S.2.2.1 = true from by unfold pTe; simp only [beq_iff_eq]; exact zero_of c11)
      rw [h9] at kk
      exact kk v g z hM (fun q => by rw [show cs ++ ([] : List Int32) = cs from List.append_nil cs]; exact hv q)
    · have tc11 : S.2.2.1 = 10017 := one_of c11
      have utc11 := hM.2.2.1.un (by rw [tc11]; decide)
      refine go_aload_n (pc' := 15) cx dX6_term2_14 rfl rfl ?_
      have aG_1 := adv_W hM.2.2.1 utc11
      refine go_cVVz (pc' := 18) cx (c_nextM l E hC hM utc11 (by rw [tc11]; decide)) mX6_next lX6_206 dX6_term2_15 kq88 (ltn rfl) (ltn rfl) rfl rfl rfl rfl (by omega) (Nat.le_of_ble_eq_true rfl) (Nat.le_of_ble_eq_true rfl) rfl (fun G_1 z_2 mG_1 => ?_)
      refine go_iload_n (pc' := 19) cx dX6_term2_18 rfl rfl ?_
      refine go_aload_n (pc' := 20) cx dX6_term2_19 rfl rfl ?_
      refine go_cVIz (pc' := 23) cx (hC1 (advS (mT R fr) sz S) G_1 z_2 mG_1) mX6_atom2 lX6_300 dX6_term2_20 kq88 (ltn rfl) (ltn rfl) rfl rfl rfl rfl (by omega) (Nat.le_of_ble_eq_true rfl) (Nat.le_of_ble_eq_true rfl) rfl (fun w_5 G_3 z_4 hG_3 => ?_)
      obtain ⟨mG_3, vG_3⟩ := hG_3
      refine go_imul (pc' := 24) cx dX6_term2_23 rfl ?_
      refine go_istore_n (pc' := 25) cx dX6_term2_24 (ltn rfl) [(1, .int (v * w_5)), (0, .ref (E.2.1 88))] rfl rfl ?_
      refine go_goto cx 5 dX6_term2_25 rfl ?_
      have h9 : lpF (advS (mT R fr) sz) pTe F (k + 1) S = ((lpF (advS (mT R fr) sz) pTe F k (F ((advS (mT R fr) sz) S)).1).1, (F ((advS (mT R fr) sz) S)).2 ++ S.2.2.1 :: (lpF (advS (mT R fr) sz) pTe F k (F ((advS (mT R fr) sz) S)).1).2) := if_pos (by rw [tc11]; rfl)
      rw [h9, tc11] at kk
      have p9 := hP _ aG_1.1
      refine ih (F ((advS (mT R fr) sz) S)).1 (cs ++ (F ((advS (mT R fr) sz) S)).2 ++ [10017]) (v * w_5) G_3 z_4 mG_3 (fun q9 => ?_) (fun q9 => ?_) (fun x g1 z1 h1 h2 => kk x g1 z1 h1 (fun q9 => by rw [lp_app]; exact h2 q9))
      · have := hM.lt utc11 (by rw [tc11]; decide)
        have := aG_1.2.2.1 this
        have := p9.2.1
        have := hs utc11
        omega
      · have g9 := GC_bin (c := 10017) (D := D + 1) (hv utc11) (vG_3 q9) (Nat.le_refl _) (Nat.le_refl _) (by decide) (by decide) (by decide)
        rw [jn_te] at g9
        exact g9

set_option maxHeartbeats 1000000 in
set_option maxRecDepth 20000 in
theorem c_X6_term2 (l : Launch) (E : Ev) {g0 : IG} {o : Option Nat} {fr sz : Nat} {R : Nat → Int32} (hC : MCx g0 fr sz R) {F : PF} (hP : Pp (mT R fr) sz F) {D d : Nat} (hd : 4 ≤ d) (hC1 : McC l E o g0 fr sz R 2 yX6_atom2 cX6_atom2 2 d F D)  : McC l E o g0 fr sz R 2 yX6_term2 cX6_term2 2 (d + 1) (lvF (advS (mT R fr) sz) pTe F) (D + 1) := by
  intro S g z hM
  refine Ct.of (lv0 := [(0, .ref (E.2.1 88))]) (by decide) (Nat.le_of_ble_eq_true rfl) rfl ?_
  intro p e s m below meth c cx
  obtain ⟨hfr, hsz, h26, h27, h89, hT0⟩ := id hC
  refine go_aload_n (pc' := 1) cx dX6_term2_0 rfl rfl ?_
  refine go_cVIz (pc' := 4) cx (hC1 S g z hM) mX6_atom2 lX6_300 dX6_term2_1 kq88 (ltn rfl) (ltn rfl) rfl rfl rfl rfl (by omega) (Nat.le_of_ble_eq_true rfl) (Nat.le_of_ble_eq_true rfl) rfl (fun w_3 G_1 z_2 hG_1 => ?_)
  obtain ⟨mG_1, vG_1⟩ := hG_1
  refine go_istore_n (pc' := 5) cx dX6_term2_4 (ltn rfl) [(1, .int w_3), (0, .ref (E.2.1 88))] rfl rfl ?_
  have p9 := hP S hM.2.2.1
  refine term2_loop hC hP hd hC1 cx 160 (F S).1 (F S).2 w_3 G_1 z_2 mG_1 (fun _ => by omega) (fun q9 => (vG_1 q9).mono (Nat.le_succ D)) (fun x g1 z1 h1 h2 => ?_)
  refine go_iload_n (pc' := 29) cx dX6_term2_28 rfl rfl ?_
  refine go_iret cx rfl dX6_term2_29 ?_
  exact ZIz.mk ⟨h1, h2⟩

set_option maxHeartbeats 1000000 in
set_option maxRecDepth 20000 in
theorem added2_loop {l : Launch} {E : Ev} {Z : ZT} {g0 : IG} {o : Option Nat} {p : Program} {e : Env} {s : State} {m : MethodId} {args : Array Value} {below : List Frame} {meth : Method} {c : Code} {fr sz : Nat} {R : Nat → Int32} (hC : MCx g0 fr sz R) {F : PF} (hP : Pp (mT R fr) sz F) {D d : Nat} (hd : 4 ≤ d) (hC1 : McC l E o g0 fr sz R 2 yX6_term2 cX6_term2 2 d F D)  (cx : Cx p s m args meth c E 115 cX6_added2 4 yX6_added2.cls (some .int)) : ∀ (k : Nat) (S : PS) (cs : List Int32) (v : Int32) (g : IG) (z : Int64), MdS g0 fr sz R 2 S g z → (S.2.2.2 = -1 → sz ≤ S.2.1 + k) → (S.2.2.2 = -1 → GC (evM g0) (D + 1) cs v) → (∀ x g1 z1, MdS g0 fr sz R 2 (lpF (advS (mT R fr) sz) pSu F k S).1 g1 z1 → ((lpF (advS (mT R fr) sz) pSu F k S).1.2.2.2 = -1 → GC (evM g0) (D + 1) (cs ++ (lpF (advS (mT R fr) sz) pSu F k S).2) x) → Go p l e (rmd (d + 1)) s m args below meth c E 115 4 Z g1 (RFo o) z1 66 [(1, .int x), (0, .ref (E.2.1 88))] []) → Go p l e (rmd (d + 1)) s m args below meth c E 115 4 Z g (RFo o) z 5 [(1, .int v), (0, .ref (E.2.1 88))] [] := by
  intro k
  induction k with
  | zero =>
    intro S cs v g z hM hs hv kk
    refine go_aload_n (pc' := 6) cx dX6_added2_5 rfl rfl ?_
    refine go_bipush (pc' := 8) cx 43 dX6_added2_6 rfl rfl ?_
    refine go_cVi (pc' := 11) cx (c_isSign_43 l E hC hM) mX6_isSign lX6_231 dX6_added2_8 kq88 (ltn rfl) (ltn rfl) rfl rfl rfl rfl (by omega) (Nat.le_of_ble_eq_true rfl) (Nat.le_of_ble_eq_true rfl) rfl ?_
    refine go_if_ne (pc' := 14) cx 23 dX6_added2_11 rfl rfl (fun c11 => ?_) (fun c11 => ?_)
    · have t9 : S.2.2.1 = 10015 := one_of c11
      have u9 := hM.2.2.1.un (by rw [t9]; decide)
      exact absurd ((hM.en u9 (hs u9)).symm.trans t9) (by decide)
    · refine go_aload_n (pc' := 15) cx dX6_added2_14 rfl rfl ?_
      refine go_bipush (pc' := 17) cx 45 dX6_added2_15 rfl rfl ?_
      refine go_cVi (pc' := 20) cx (c_isSign_45 l E hC hM) mX6_isSign lX6_231 dX6_added2_17 kq88 (ltn rfl) (ltn rfl) rfl rfl rfl rfl (by omega) (Nat.le_of_ble_eq_true rfl) (Nat.le_of_ble_eq_true rfl) rfl ?_
      refine go_if_eq (pc' := 23) cx 66 dX6_added2_20 rfl rfl (fun c20 => ?_) (fun c20 => ?_)
      · have h9 : lpF (advS (mT R fr) sz) pSu F 0 S = (S, []) := rfl
        rw [h9] at kk
        exact kk v g z hM (fun q => by rw [show cs ++ ([] : List Int32) = cs from List.append_nil cs]; exact hv q)
      · have t9 : S.2.2.1 = 10016 := one_of c20
        have u9 := hM.2.2.1.un (by rw [t9]; decide)
        exact absurd ((hM.en u9 (hs u9)).symm.trans t9) (by decide)
  | succ k ih =>
    intro S cs v g z hM hs hv kk
    refine go_aload_n (pc' := 6) cx dX6_added2_5 rfl rfl ?_
    refine go_bipush (pc' := 8) cx 43 dX6_added2_6 rfl rfl ?_
    refine go_cVi (pc' := 11) cx (c_isSign_43 l E hC hM) mX6_isSign lX6_231 dX6_added2_8 kq88 (ltn rfl) (ltn rfl) rfl rfl rfl rfl (by omega) (Nat.le_of_ble_eq_true rfl) (Nat.le_of_ble_eq_true rfl) rfl ?_
    refine go_if_ne (pc' := 14) cx 23 dX6_added2_11 rfl rfl (fun c11 => ?_) (fun c11 => ?_)
    · have tc11 : S.2.2.1 = 10015 := one_of c11
      have utc11 := hM.2.2.1.un (by rw [tc11]; decide)
      refine go_aload_n (pc' := 24) cx dX6_added2_23 rfl rfl ?_
      refine go_getl (N := 56) (pc' := 27) cx fX6_186 dX6_added2_24 (ltn rfl) rfl ?_
      refine go_ldc2 (pc' := 30) cx 43 kX6_248 dX6_added2_27 rfl ?_
      refine go_val (w := .long (((43 : Int32)).toInt64)) (congrArg Value.long (by decide)) ?_
      refine go_lcmp (pc' := 31) cx dX6_added2_30 rfl ?_
      refine go_if_ne (pc' := 34) cx 38 dX6_added2_31 rfl rfl (fun hh => absurd hh (by rw [wth_10015 hM utc11 tc11]; decide)) (fun _ => ?_)
      refine go_iconst (pc' := 35) cx 1 dX6_added2_34 rfl rfl ?_
      refine go_goto cx 39 dX6_added2_35 rfl ?_
      refine go_istore_n (pc' := 40) cx dX6_added2_39 (ltn rfl) [(2, .int 1), (1, .int v), (0, .ref (E.2.1 88))] rfl rfl ?_
      refine go_aload_n (pc' := 41) cx dX6_added2_40 rfl rfl ?_
      have aG_1 := adv_W hM.2.2.1 utc11
      refine go_cVVz (pc' := 44) cx (c_nextM l E hC hM utc11 (by rw [tc11]; decide)) mX6_next lX6_206 dX6_added2_41 kq88 (ltn rfl) (ltn rfl) rfl rfl rfl rfl (by omega) (Nat.le_of_ble_eq_true rfl) (Nat.le_of_ble_eq_true rfl) rfl (fun G_1 z_2 mG_1 => ?_)
      refine go_aload_n (pc' := 45) cx dX6_added2_44 rfl rfl ?_
      refine go_cVIz (pc' := 48) cx (hC1 (advS (mT R fr) sz S) G_1 z_2 mG_1) mX6_term2 lX6_303 dX6_added2_45 kq88 (ltn rfl) (ltn rfl) rfl rfl rfl rfl (by omega) (Nat.le_of_ble_eq_true rfl) (Nat.le_of_ble_eq_true rfl) rfl (fun w_5 G_3 z_4 hG_3 => ?_)
      obtain ⟨mG_3, vG_3⟩ := hG_3
      refine go_istore_n (pc' := 49) cx dX6_added2_48 (ltn rfl) [(3, .int w_5), (2, .int 1), (1, .int v), (0, .ref (E.2.1 88))] rfl rfl ?_
      refine go_iload_n (pc' := 50) cx dX6_added2_49 rfl rfl ?_
      refine go_if_eq (pc' := 53) cx 59 dX6_added2_50 rfl rfl (fun hh => absurd hh (by decide)) (fun _ => ?_)
      refine go_iload_n (pc' := 54) cx dX6_added2_53 rfl rfl ?_
      refine go_iload_n (pc' := 55) cx dX6_added2_54 rfl rfl ?_
      refine go_iadd (pc' := 56) cx dX6_added2_55 rfl ?_
      refine go_goto cx 62 dX6_added2_56 rfl ?_
      refine go_istore_n (pc' := 63) cx dX6_added2_62 (ltn rfl) [(1, .int (v + w_5)), (3, .int w_5), (2, .int 1), (0, .ref (E.2.1 88))] rfl rfl ?_
      refine go_goto cx 5 dX6_added2_63 rfl ?_
      refine go_sub [0, 3] [(1, .int (v + w_5)), (0, .ref (E.2.1 88))] rfl ?_
      have h9 : lpF (advS (mT R fr) sz) pSu F (k + 1) S = ((lpF (advS (mT R fr) sz) pSu F k (F ((advS (mT R fr) sz) S)).1).1, (F ((advS (mT R fr) sz) S)).2 ++ S.2.2.1 :: (lpF (advS (mT R fr) sz) pSu F k (F ((advS (mT R fr) sz) S)).1).2) := if_pos (by rw [tc11]; rfl)
      rw [h9, tc11] at kk
      have p9 := hP _ aG_1.1
      refine ih (F ((advS (mT R fr) sz) S)).1 (cs ++ (F ((advS (mT R fr) sz) S)).2 ++ [10015]) (v + w_5) G_3 z_4 mG_3 (fun q9 => ?_) (fun q9 => ?_) (fun x g1 z1 h1 h2 => kk x g1 z1 h1 (fun q9 => by rw [lp_app]; exact h2 q9))
      · have := hM.lt utc11 (by rw [tc11]; decide)
        have := aG_1.2.2.1 this
        have := p9.2.1
        have := hs utc11
        omega
      · have g9 := GC_bin (c := 10015) (D := D + 1) (hv utc11) (vG_3 q9) (Nat.le_refl _) (Nat.le_refl _) (by decide) (by decide) (by decide)
        rw [jn_pl] at g9
        exact g9
    · refine go_aload_n (pc' := 15) cx dX6_added2_14 rfl rfl ?_
      refine go_bipush (pc' := 17) cx 45 dX6_added2_15 rfl rfl ?_
      refine go_cVi (pc' := 20) cx (c_isSign_45 l E hC hM) mX6_isSign lX6_231 dX6_added2_17 kq88 (ltn rfl) (ltn rfl) rfl rfl rfl rfl (by omega) (Nat.le_of_ble_eq_true rfl) (Nat.le_of_ble_eq_true rfl) rfl ?_
      refine go_if_eq (pc' := 23) cx 66 dX6_added2_20 rfl rfl (fun c20 => ?_) (fun c20 => ?_)
      · have h9 : lpF (advS (mT R fr) sz) pSu F (k + 1) S = (S, []) := if_neg (show ¬ pSu S.2.2.1 = true from by unfold pSu; simp only [Bool.or_eq_true, beq_iff_eq]; exact fun q => q.elim (zero_of c11) (zero_of c20))
        rw [h9] at kk
        exact kk v g z hM (fun q => by rw [show cs ++ ([] : List Int32) = cs from List.append_nil cs]; exact hv q)
      · have tc20 : S.2.2.1 = 10016 := one_of c20
        have utc20 := hM.2.2.1.un (by rw [tc20]; decide)
        refine go_aload_n (pc' := 24) cx dX6_added2_23 rfl rfl ?_
        refine go_getl (N := 56) (pc' := 27) cx fX6_186 dX6_added2_24 (ltn rfl) rfl ?_
        refine go_ldc2 (pc' := 30) cx 43 kX6_248 dX6_added2_27 rfl ?_
        refine go_val (w := .long (((43 : Int32)).toInt64)) (congrArg Value.long (by decide)) ?_
        refine go_lcmp (pc' := 31) cx dX6_added2_30 rfl ?_
        refine go_if_ne (pc' := 34) cx 38 dX6_added2_31 rfl rfl (fun _ => ?_) (fun hh => absurd hh (by rw [wth_10016 hM utc20 tc20]; decide))
        refine go_iconst (pc' := 39) cx 0 dX6_added2_38 rfl rfl ?_
        refine go_istore_n (pc' := 40) cx dX6_added2_39 (ltn rfl) [(2, .int 0), (1, .int v), (0, .ref (E.2.1 88))] rfl rfl ?_
        refine go_aload_n (pc' := 41) cx dX6_added2_40 rfl rfl ?_
        have aG_6 := adv_W hM.2.2.1 utc20
        refine go_cVVz (pc' := 44) cx (c_nextM l E hC hM utc20 (by rw [tc20]; decide)) mX6_next lX6_206 dX6_added2_41 kq88 (ltn rfl) (ltn rfl) rfl rfl rfl rfl (by omega) (Nat.le_of_ble_eq_true rfl) (Nat.le_of_ble_eq_true rfl) rfl (fun G_6 z_7 mG_6 => ?_)
        refine go_aload_n (pc' := 45) cx dX6_added2_44 rfl rfl ?_
        refine go_cVIz (pc' := 48) cx (hC1 (advS (mT R fr) sz S) G_6 z_7 mG_6) mX6_term2 lX6_303 dX6_added2_45 kq88 (ltn rfl) (ltn rfl) rfl rfl rfl rfl (by omega) (Nat.le_of_ble_eq_true rfl) (Nat.le_of_ble_eq_true rfl) rfl (fun w_10 G_8 z_9 hG_8 => ?_)
        obtain ⟨mG_8, vG_8⟩ := hG_8
        refine go_istore_n (pc' := 49) cx dX6_added2_48 (ltn rfl) [(3, .int w_10), (2, .int 0), (1, .int v), (0, .ref (E.2.1 88))] rfl rfl ?_
        refine go_iload_n (pc' := 50) cx dX6_added2_49 rfl rfl ?_
        refine go_if_eq (pc' := 53) cx 59 dX6_added2_50 rfl rfl (fun _ => ?_) (fun hh => absurd hh (by decide))
        refine go_iload_n (pc' := 60) cx dX6_added2_59 rfl rfl ?_
        refine go_iload_n (pc' := 61) cx dX6_added2_60 rfl rfl ?_
        refine go_isub (pc' := 62) cx dX6_added2_61 rfl ?_
        refine go_istore_n (pc' := 63) cx dX6_added2_62 (ltn rfl) [(1, .int (v - w_10)), (3, .int w_10), (2, .int 0), (0, .ref (E.2.1 88))] rfl rfl ?_
        refine go_goto cx 5 dX6_added2_63 rfl ?_
        refine go_sub [0, 3] [(1, .int (v - w_10)), (0, .ref (E.2.1 88))] rfl ?_
        have h9 : lpF (advS (mT R fr) sz) pSu F (k + 1) S = ((lpF (advS (mT R fr) sz) pSu F k (F ((advS (mT R fr) sz) S)).1).1, (F ((advS (mT R fr) sz) S)).2 ++ S.2.2.1 :: (lpF (advS (mT R fr) sz) pSu F k (F ((advS (mT R fr) sz) S)).1).2) := if_pos (by rw [tc20]; rfl)
        rw [h9, tc20] at kk
        have p9 := hP _ aG_6.1
        refine ih (F ((advS (mT R fr) sz) S)).1 (cs ++ (F ((advS (mT R fr) sz) S)).2 ++ [10016]) (v - w_10) G_8 z_9 mG_8 (fun q9 => ?_) (fun q9 => ?_) (fun x g1 z1 h1 h2 => kk x g1 z1 h1 (fun q9 => by rw [lp_app]; exact h2 q9))
        · have := hM.lt utc20 (by rw [tc20]; decide)
          have := aG_6.2.2.1 this
          have := p9.2.1
          have := hs utc20
          omega
        · have g9 := GC_bin (c := 10016) (D := D + 1) (hv utc20) (vG_8 q9) (Nat.le_refl _) (Nat.le_refl _) (by decide) (by decide) (by decide)
          rw [jn_mi] at g9
          exact g9

set_option maxHeartbeats 1000000 in
set_option maxRecDepth 20000 in
theorem c_X6_added2 (l : Launch) (E : Ev) {g0 : IG} {o : Option Nat} {fr sz : Nat} {R : Nat → Int32} (hC : MCx g0 fr sz R) {F : PF} (hP : Pp (mT R fr) sz F) {D d : Nat} (hd : 4 ≤ d) (hC1 : McC l E o g0 fr sz R 2 yX6_term2 cX6_term2 2 d F D)  : McC l E o g0 fr sz R 2 yX6_added2 cX6_added2 4 (d + 1) (lvF (advS (mT R fr) sz) pSu F) (D + 1) := by
  intro S g z hM
  refine Ct.of (lv0 := [(0, .ref (E.2.1 88))]) (by decide) (Nat.le_of_ble_eq_true rfl) rfl ?_
  intro p e s m below meth c cx
  obtain ⟨hfr, hsz, h26, h27, h89, hT0⟩ := id hC
  refine go_aload_n (pc' := 1) cx dX6_added2_0 rfl rfl ?_
  refine go_cVIz (pc' := 4) cx (hC1 S g z hM) mX6_term2 lX6_303 dX6_added2_1 kq88 (ltn rfl) (ltn rfl) rfl rfl rfl rfl (by omega) (Nat.le_of_ble_eq_true rfl) (Nat.le_of_ble_eq_true rfl) rfl (fun w_3 G_1 z_2 hG_1 => ?_)
  obtain ⟨mG_1, vG_1⟩ := hG_1
  refine go_istore_n (pc' := 5) cx dX6_added2_4 (ltn rfl) [(1, .int w_3), (0, .ref (E.2.1 88))] rfl rfl ?_
  have p9 := hP S hM.2.2.1
  refine added2_loop hC hP hd hC1 cx 160 (F S).1 (F S).2 w_3 G_1 z_2 mG_1 (fun _ => by omega) (fun q9 => (vG_1 q9).mono (Nat.le_succ D)) (fun x g1 z1 h1 h2 => ?_)
  refine go_iload_n (pc' := 67) cx dX6_added2_66 rfl rfl ?_
  refine go_iret cx rfl dX6_added2_67 ?_
  exact ZIz.mk ⟨h1, h2⟩

set_option maxHeartbeats 1000000 in
set_option maxRecDepth 20000 in
theorem both2_loop {l : Launch} {E : Ev} {Z : ZT} {g0 : IG} {o : Option Nat} {p : Program} {e : Env} {s : State} {m : MethodId} {args : Array Value} {below : List Frame} {meth : Method} {c : Code} {fr sz : Nat} {R : Nat → Int32} (hC : MCx g0 fr sz R) {F : PF} (hP : Pp (mT R fr) sz F) {D d : Nat} (hd : 4 ≤ d) (hC1 : McC l E o g0 fr sz R 2 yX6_not2 cX6_not2 4 d F D)  (cx : Cx p s m args meth c E 115 cX6_both2 3 yX6_both2.cls (some .int)) : ∀ (k : Nat) (S : PS) (cs : List Int32) (v : Int32) (g : IG) (z : Int64), MdS g0 fr sz R 2 S g z → (S.2.2.2 = -1 → sz ≤ S.2.1 + k) → (S.2.2.2 = -1 → GC (evM g0) (D + 1) cs v) → (∀ x g1 z1, MdS g0 fr sz R 2 (lpF (advS (mT R fr) sz) pAn F k S).1 g1 z1 → ((lpF (advS (mT R fr) sz) pAn F k S).1.2.2.2 = -1 → GC (evM g0) (D + 1) (cs ++ (lpF (advS (mT R fr) sz) pAn F k S).2) x) → Go p l e (rmd (d + 1)) s m args below meth c E 115 3 Z g1 (RFo o) z1 49 [(1, .int x), (0, .ref (E.2.1 88))] []) → Go p l e (rmd (d + 1)) s m args below meth c E 115 3 Z g (RFo o) z 5 [(1, .int v), (0, .ref (E.2.1 88))] [] := by
  intro k
  induction k with
  | zero =>
    intro S cs v g z hM hs hv kk
    refine go_aload_n (pc' := 6) cx dX6_both2_5 rfl rfl ?_
    refine go_bipush (pc' := 8) cx 97 dX6_both2_6 rfl rfl ?_
    refine go_bipush (pc' := 10) cx 110 dX6_both2_8 rfl rfl ?_
    refine go_bipush (pc' := 12) cx 100 dX6_both2_10 rfl rfl ?_
    refine go_iconst (pc' := 13) cx 0 dX6_both2_12 rfl rfl ?_
    refine go_iconst (pc' := 14) cx 0 dX6_both2_13 rfl rfl ?_
    refine go_iconst (pc' := 15) cx 0 dX6_both2_14 rfl rfl ?_
    refine go_iconst (pc' := 16) cx 0 dX6_both2_15 rfl rfl ?_
    refine go_iconst (pc' := 17) cx 0 dX6_both2_16 rfl rfl ?_
    refine go_cVi (pc' := 20) cx (c_isWord_10 l E hC hM) mX6_isWord lX6_209 dX6_both2_17 kq88 (ltn rfl) (ltn rfl) rfl rfl rfl rfl (by omega) (Nat.le_of_ble_eq_true rfl) (Nat.le_of_ble_eq_true rfl) rfl ?_
    refine go_if_eq (pc' := 23) cx 49 dX6_both2_20 rfl rfl (fun c20 => ?_) (fun c20 => ?_)
    · have h9 : lpF (advS (mT R fr) sz) pAn F 0 S = (S, []) := rfl
      rw [h9] at kk
      exact kk v g z hM (fun q => by rw [show cs ++ ([] : List Int32) = cs from List.append_nil cs]; exact hv q)
    · have t9 : S.2.2.1 = 10010 := one_of c20
      have u9 := hM.2.2.1.un (by rw [t9]; decide)
      exact absurd ((hM.en u9 (hs u9)).symm.trans t9) (by decide)
  | succ k ih =>
    intro S cs v g z hM hs hv kk
    refine go_aload_n (pc' := 6) cx dX6_both2_5 rfl rfl ?_
    refine go_bipush (pc' := 8) cx 97 dX6_both2_6 rfl rfl ?_
    refine go_bipush (pc' := 10) cx 110 dX6_both2_8 rfl rfl ?_
    refine go_bipush (pc' := 12) cx 100 dX6_both2_10 rfl rfl ?_
    refine go_iconst (pc' := 13) cx 0 dX6_both2_12 rfl rfl ?_
    refine go_iconst (pc' := 14) cx 0 dX6_both2_13 rfl rfl ?_
    refine go_iconst (pc' := 15) cx 0 dX6_both2_14 rfl rfl ?_
    refine go_iconst (pc' := 16) cx 0 dX6_both2_15 rfl rfl ?_
    refine go_iconst (pc' := 17) cx 0 dX6_both2_16 rfl rfl ?_
    refine go_cVi (pc' := 20) cx (c_isWord_10 l E hC hM) mX6_isWord lX6_209 dX6_both2_17 kq88 (ltn rfl) (ltn rfl) rfl rfl rfl rfl (by omega) (Nat.le_of_ble_eq_true rfl) (Nat.le_of_ble_eq_true rfl) rfl ?_
    refine go_if_eq (pc' := 23) cx 49 dX6_both2_20 rfl rfl (fun c20 => ?_) (fun c20 => ?_)
    · have h9 : lpF (advS (mT R fr) sz) pAn F (k + 1) S = (S, []) := if_neg (show ¬ pAn S.2.2.1 = true from by unfold pAn; simp only [beq_iff_eq]; exact zero_of c20)
      rw [h9] at kk
      exact kk v g z hM (fun q => by rw [show cs ++ ([] : List Int32) = cs from List.append_nil cs]; exact hv q)
    · have tc20 : S.2.2.1 = 10010 := one_of c20
      have utc20 := hM.2.2.1.un (by rw [tc20]; decide)
      refine go_aload_n (pc' := 24) cx dX6_both2_23 rfl rfl ?_
      have aG_1 := adv_W hM.2.2.1 utc20
      refine go_cVVz (pc' := 27) cx (c_nextM l E hC hM utc20 (by rw [tc20]; decide)) mX6_next lX6_206 dX6_both2_24 kq88 (ltn rfl) (ltn rfl) rfl rfl rfl rfl (by omega) (Nat.le_of_ble_eq_true rfl) (Nat.le_of_ble_eq_true rfl) rfl (fun G_1 z_2 mG_1 => ?_)
      refine go_aload_n (pc' := 28) cx dX6_both2_27 rfl rfl ?_
      refine go_cVIz (pc' := 31) cx (hC1 (advS (mT R fr) sz S) G_1 z_2 mG_1) mX6_not2 lX6_309 dX6_both2_28 kq88 (ltn rfl) (ltn rfl) rfl rfl rfl rfl (by omega) (Nat.le_of_ble_eq_true rfl) (Nat.le_of_ble_eq_true rfl) rfl (fun w_5 G_3 z_4 hG_3 => ?_)
      obtain ⟨mG_3, vG_3⟩ := hG_3
      refine go_istore_n (pc' := 32) cx dX6_both2_31 (ltn rfl) [(2, .int w_5), (1, .int v), (0, .ref (E.2.1 88))] rfl rfl ?_
      refine go_iload_n (pc' := 33) cx dX6_both2_32 rfl rfl ?_
      refine go_if_eq (pc' := 36) cx 44 dX6_both2_33 rfl rfl (fun c33 => ?_) (fun c33 => ?_)
      · refine go_iconst (pc' := 45) cx 0 dX6_both2_44 rfl rfl ?_
        refine go_istore_n (pc' := 46) cx dX6_both2_45 (ltn rfl) [(1, .int 0), (2, .int w_5), (0, .ref (E.2.1 88))] rfl rfl ?_
        refine go_goto cx 5 dX6_both2_46 rfl ?_
        refine go_sub [0, 2] [(1, .int 0), (0, .ref (E.2.1 88))] rfl ?_
        have h9 : lpF (advS (mT R fr) sz) pAn F (k + 1) S = ((lpF (advS (mT R fr) sz) pAn F k (F ((advS (mT R fr) sz) S)).1).1, (F ((advS (mT R fr) sz) S)).2 ++ S.2.2.1 :: (lpF (advS (mT R fr) sz) pAn F k (F ((advS (mT R fr) sz) S)).1).2) := if_pos (by rw [tc20]; rfl)
        rw [h9, tc20] at kk
        have p9 := hP _ aG_1.1
        refine ih (F ((advS (mT R fr) sz) S)).1 (cs ++ (F ((advS (mT R fr) sz) S)).2 ++ [10010]) 0 G_3 z_4 mG_3 (fun q9 => ?_) (fun q9 => ?_) (fun x g1 z1 h1 h2 => kk x g1 z1 h1 (fun q9 => by rw [lp_app]; exact h2 q9))
        · have := hM.lt utc20 (by rw [tc20]; decide)
          have := aG_1.2.2.1 this
          have := p9.2.1
          have := hs utc20
          omega
        · have g9 := GC_bin (c := 10010) (D := D + 1) (hv utc20) (vG_3 q9) (Nat.le_refl _) (Nat.le_refl _) (by decide) (by decide) (by decide)
          have e9 : jnV 10010 v w_5 = 0 := by
            unfold jnV
            simp [c33]
          rw [e9] at g9
          exact g9
      · refine go_iload_n (pc' := 37) cx dX6_both2_36 rfl rfl ?_
        refine go_if_eq (pc' := 40) cx 44 dX6_both2_37 rfl rfl (fun c37 => ?_) (fun c37 => ?_)
        · refine go_iconst (pc' := 45) cx 0 dX6_both2_44 rfl rfl ?_
          refine go_istore_n (pc' := 46) cx dX6_both2_45 (ltn rfl) [(1, .int 0), (2, .int w_5), (0, .ref (E.2.1 88))] rfl rfl ?_
          refine go_goto cx 5 dX6_both2_46 rfl ?_
          refine go_sub [0, 2] [(1, .int 0), (0, .ref (E.2.1 88))] rfl ?_
          have h9 : lpF (advS (mT R fr) sz) pAn F (k + 1) S = ((lpF (advS (mT R fr) sz) pAn F k (F ((advS (mT R fr) sz) S)).1).1, (F ((advS (mT R fr) sz) S)).2 ++ S.2.2.1 :: (lpF (advS (mT R fr) sz) pAn F k (F ((advS (mT R fr) sz) S)).1).2) := if_pos (by rw [tc20]; rfl)
          rw [h9, tc20] at kk
          have p9 := hP _ aG_1.1
          refine ih (F ((advS (mT R fr) sz) S)).1 (cs ++ (F ((advS (mT R fr) sz) S)).2 ++ [10010]) 0 G_3 z_4 mG_3 (fun q9 => ?_) (fun q9 => ?_) (fun x g1 z1 h1 h2 => kk x g1 z1 h1 (fun q9 => by rw [lp_app]; exact h2 q9))
          · have := hM.lt utc20 (by rw [tc20]; decide)
            have := aG_1.2.2.1 this
            have := p9.2.1
            have := hs utc20
            omega
          · have g9 := GC_bin (c := 10010) (D := D + 1) (hv utc20) (vG_3 q9) (Nat.le_refl _) (Nat.le_refl _) (by decide) (by decide) (by decide)
            have e9 : jnV 10010 v w_5 = 0 := by
              unfold jnV
              simp [c33, c37]
            rw [e9] at g9
            exact g9
        · refine go_iconst (pc' := 41) cx 1 dX6_both2_40 rfl rfl ?_
          refine go_goto cx 45 dX6_both2_41 rfl ?_
          refine go_istore_n (pc' := 46) cx dX6_both2_45 (ltn rfl) [(1, .int 1), (2, .int w_5), (0, .ref (E.2.1 88))] rfl rfl ?_
          refine go_goto cx 5 dX6_both2_46 rfl ?_
          refine go_sub [0, 2] [(1, .int 1), (0, .ref (E.2.1 88))] rfl ?_
          have h9 : lpF (advS (mT R fr) sz) pAn F (k + 1) S = ((lpF (advS (mT R fr) sz) pAn F k (F ((advS (mT R fr) sz) S)).1).1, (F ((advS (mT R fr) sz) S)).2 ++ S.2.2.1 :: (lpF (advS (mT R fr) sz) pAn F k (F ((advS (mT R fr) sz) S)).1).2) := if_pos (by rw [tc20]; rfl)
          rw [h9, tc20] at kk
          have p9 := hP _ aG_1.1
          refine ih (F ((advS (mT R fr) sz) S)).1 (cs ++ (F ((advS (mT R fr) sz) S)).2 ++ [10010]) 1 G_3 z_4 mG_3 (fun q9 => ?_) (fun q9 => ?_) (fun x g1 z1 h1 h2 => kk x g1 z1 h1 (fun q9 => by rw [lp_app]; exact h2 q9))
          · have := hM.lt utc20 (by rw [tc20]; decide)
            have := aG_1.2.2.1 this
            have := p9.2.1
            have := hs utc20
            omega
          · have g9 := GC_bin (c := 10010) (D := D + 1) (hv utc20) (vG_3 q9) (Nat.le_refl _) (Nat.le_refl _) (by decide) (by decide) (by decide)
            have e9 : jnV 10010 v w_5 = 1 := by
              unfold jnV
              simp [c33, c37]
            rw [e9] at g9
            exact g9

set_option maxHeartbeats 1000000 in
set_option maxRecDepth 20000 in
theorem c_X6_both2 (l : Launch) (E : Ev) {g0 : IG} {o : Option Nat} {fr sz : Nat} {R : Nat → Int32} (hC : MCx g0 fr sz R) {F : PF} (hP : Pp (mT R fr) sz F) {D d : Nat} (hd : 4 ≤ d) (hC1 : McC l E o g0 fr sz R 2 yX6_not2 cX6_not2 4 d F D)  : McC l E o g0 fr sz R 2 yX6_both2 cX6_both2 3 (d + 1) (lvF (advS (mT R fr) sz) pAn F) (D + 1) := by
  intro S g z hM
  refine Ct.of (lv0 := [(0, .ref (E.2.1 88))]) (by decide) (Nat.le_of_ble_eq_true rfl) rfl ?_
  intro p e s m below meth c cx
  obtain ⟨hfr, hsz, h26, h27, h89, hT0⟩ := id hC
  refine go_aload_n (pc' := 1) cx dX6_both2_0 rfl rfl ?_
  refine go_cVIz (pc' := 4) cx (hC1 S g z hM) mX6_not2 lX6_309 dX6_both2_1 kq88 (ltn rfl) (ltn rfl) rfl rfl rfl rfl (by omega) (Nat.le_of_ble_eq_true rfl) (Nat.le_of_ble_eq_true rfl) rfl (fun w_3 G_1 z_2 hG_1 => ?_)
  obtain ⟨mG_1, vG_1⟩ := hG_1
  refine go_istore_n (pc' := 5) cx dX6_both2_4 (ltn rfl) [(1, .int w_3), (0, .ref (E.2.1 88))] rfl rfl ?_
  have p9 := hP S hM.2.2.1
  refine both2_loop hC hP hd hC1 cx 160 (F S).1 (F S).2 w_3 G_1 z_2 mG_1 (fun _ => by omega) (fun q9 => (vG_1 q9).mono (Nat.le_succ D)) (fun x g1 z1 h1 h2 => ?_)
  refine go_iload_n (pc' := 50) cx dX6_both2_49 rfl rfl ?_
  refine go_iret cx rfl dX6_both2_50 ?_
  exact ZIz.mk ⟨h1, h2⟩

set_option maxHeartbeats 1000000 in
set_option maxRecDepth 20000 in
theorem either2_loop {l : Launch} {E : Ev} {Z : ZT} {g0 : IG} {o : Option Nat} {p : Program} {e : Env} {s : State} {m : MethodId} {args : Array Value} {below : List Frame} {meth : Method} {c : Code} {fr sz : Nat} {R : Nat → Int32} (hC : MCx g0 fr sz R) {F : PF} (hP : Pp (mT R fr) sz F) {D d : Nat} (hd : 4 ≤ d) (hC1 : McC l E o g0 fr sz R 2 yX6_both2 cX6_both2 3 d F D)  (cx : Cx p s m args meth c E 115 cX6_either2 3 yX6_either2.cls (some .int)) : ∀ (k : Nat) (S : PS) (cs : List Int32) (v : Int32) (g : IG) (z : Int64), MdS g0 fr sz R 2 S g z → (S.2.2.2 = -1 → sz ≤ S.2.1 + k) → (S.2.2.2 = -1 → GC (evM g0) (D + 1) cs v) → (∀ x g1 z1, MdS g0 fr sz R 2 (lpF (advS (mT R fr) sz) pOr F k S).1 g1 z1 → ((lpF (advS (mT R fr) sz) pOr F k S).1.2.2.2 = -1 → GC (evM g0) (D + 1) (cs ++ (lpF (advS (mT R fr) sz) pOr F k S).2) x) → Go p l e (rmd (d + 1)) s m args below meth c E 115 3 Z g1 (RFo o) z1 48 [(1, .int x), (0, .ref (E.2.1 88))] []) → Go p l e (rmd (d + 1)) s m args below meth c E 115 3 Z g (RFo o) z 5 [(1, .int v), (0, .ref (E.2.1 88))] [] := by
  intro k
  induction k with
  | zero =>
    intro S cs v g z hM hs hv kk
    refine go_aload_n (pc' := 6) cx dX6_either2_5 rfl rfl ?_
    refine go_bipush (pc' := 8) cx 111 dX6_either2_6 rfl rfl ?_
    refine go_bipush (pc' := 10) cx 114 dX6_either2_8 rfl rfl ?_
    refine go_iconst (pc' := 11) cx 0 dX6_either2_10 rfl rfl ?_
    refine go_iconst (pc' := 12) cx 0 dX6_either2_11 rfl rfl ?_
    refine go_iconst (pc' := 13) cx 0 dX6_either2_12 rfl rfl ?_
    refine go_iconst (pc' := 14) cx 0 dX6_either2_13 rfl rfl ?_
    refine go_iconst (pc' := 15) cx 0 dX6_either2_14 rfl rfl ?_
    refine go_iconst (pc' := 16) cx 0 dX6_either2_15 rfl rfl ?_
    refine go_cVi (pc' := 19) cx (c_isWord_9 l E hC hM) mX6_isWord lX6_209 dX6_either2_16 kq88 (ltn rfl) (ltn rfl) rfl rfl rfl rfl (by omega) (Nat.le_of_ble_eq_true rfl) (Nat.le_of_ble_eq_true rfl) rfl ?_
    refine go_if_eq (pc' := 22) cx 48 dX6_either2_19 rfl rfl (fun c19 => ?_) (fun c19 => ?_)
    · have h9 : lpF (advS (mT R fr) sz) pOr F 0 S = (S, []) := rfl
      rw [h9] at kk
      exact kk v g z hM (fun q => by rw [show cs ++ ([] : List Int32) = cs from List.append_nil cs]; exact hv q)
    · have t9 : S.2.2.1 = 10009 := one_of c19
      have u9 := hM.2.2.1.un (by rw [t9]; decide)
      exact absurd ((hM.en u9 (hs u9)).symm.trans t9) (by decide)
  | succ k ih =>
    intro S cs v g z hM hs hv kk
    refine go_aload_n (pc' := 6) cx dX6_either2_5 rfl rfl ?_
    refine go_bipush (pc' := 8) cx 111 dX6_either2_6 rfl rfl ?_
    refine go_bipush (pc' := 10) cx 114 dX6_either2_8 rfl rfl ?_
    refine go_iconst (pc' := 11) cx 0 dX6_either2_10 rfl rfl ?_
    refine go_iconst (pc' := 12) cx 0 dX6_either2_11 rfl rfl ?_
    refine go_iconst (pc' := 13) cx 0 dX6_either2_12 rfl rfl ?_
    refine go_iconst (pc' := 14) cx 0 dX6_either2_13 rfl rfl ?_
    refine go_iconst (pc' := 15) cx 0 dX6_either2_14 rfl rfl ?_
    refine go_iconst (pc' := 16) cx 0 dX6_either2_15 rfl rfl ?_
    refine go_cVi (pc' := 19) cx (c_isWord_9 l E hC hM) mX6_isWord lX6_209 dX6_either2_16 kq88 (ltn rfl) (ltn rfl) rfl rfl rfl rfl (by omega) (Nat.le_of_ble_eq_true rfl) (Nat.le_of_ble_eq_true rfl) rfl ?_
    refine go_if_eq (pc' := 22) cx 48 dX6_either2_19 rfl rfl (fun c19 => ?_) (fun c19 => ?_)
    · have h9 : lpF (advS (mT R fr) sz) pOr F (k + 1) S = (S, []) := if_neg (show ¬ pOr S.2.2.1 = true from by unfold pOr; simp only [beq_iff_eq]; exact zero_of c19)
      rw [h9] at kk
      exact kk v g z hM (fun q => by rw [show cs ++ ([] : List Int32) = cs from List.append_nil cs]; exact hv q)
    · have tc19 : S.2.2.1 = 10009 := one_of c19
      have utc19 := hM.2.2.1.un (by rw [tc19]; decide)
      refine go_aload_n (pc' := 23) cx dX6_either2_22 rfl rfl ?_
      have aG_1 := adv_W hM.2.2.1 utc19
      refine go_cVVz (pc' := 26) cx (c_nextM l E hC hM utc19 (by rw [tc19]; decide)) mX6_next lX6_206 dX6_either2_23 kq88 (ltn rfl) (ltn rfl) rfl rfl rfl rfl (by omega) (Nat.le_of_ble_eq_true rfl) (Nat.le_of_ble_eq_true rfl) rfl (fun G_1 z_2 mG_1 => ?_)
      refine go_aload_n (pc' := 27) cx dX6_either2_26 rfl rfl ?_
      refine go_cVIz (pc' := 30) cx (hC1 (advS (mT R fr) sz S) G_1 z_2 mG_1) mX6_both2 lX6_312 dX6_either2_27 kq88 (ltn rfl) (ltn rfl) rfl rfl rfl rfl (by omega) (Nat.le_of_ble_eq_true rfl) (Nat.le_of_ble_eq_true rfl) rfl (fun w_5 G_3 z_4 hG_3 => ?_)
      obtain ⟨mG_3, vG_3⟩ := hG_3
      refine go_istore_n (pc' := 31) cx dX6_either2_30 (ltn rfl) [(2, .int w_5), (1, .int v), (0, .ref (E.2.1 88))] rfl rfl ?_
      refine go_iload_n (pc' := 32) cx dX6_either2_31 rfl rfl ?_
      refine go_if_ne (pc' := 35) cx 39 dX6_either2_32 rfl rfl (fun c32 => ?_) (fun c32 => ?_)
      · refine go_iconst (pc' := 40) cx 1 dX6_either2_39 rfl rfl ?_
        refine go_goto cx 44 dX6_either2_40 rfl ?_
        refine go_istore_n (pc' := 45) cx dX6_either2_44 (ltn rfl) [(1, .int 1), (2, .int w_5), (0, .ref (E.2.1 88))] rfl rfl ?_
        refine go_goto cx 5 dX6_either2_45 rfl ?_
        refine go_sub [0, 2] [(1, .int 1), (0, .ref (E.2.1 88))] rfl ?_
        have h9 : lpF (advS (mT R fr) sz) pOr F (k + 1) S = ((lpF (advS (mT R fr) sz) pOr F k (F ((advS (mT R fr) sz) S)).1).1, (F ((advS (mT R fr) sz) S)).2 ++ S.2.2.1 :: (lpF (advS (mT R fr) sz) pOr F k (F ((advS (mT R fr) sz) S)).1).2) := if_pos (by rw [tc19]; rfl)
        rw [h9, tc19] at kk
        have p9 := hP _ aG_1.1
        refine ih (F ((advS (mT R fr) sz) S)).1 (cs ++ (F ((advS (mT R fr) sz) S)).2 ++ [10009]) 1 G_3 z_4 mG_3 (fun q9 => ?_) (fun q9 => ?_) (fun x g1 z1 h1 h2 => kk x g1 z1 h1 (fun q9 => by rw [lp_app]; exact h2 q9))
        · have := hM.lt utc19 (by rw [tc19]; decide)
          have := aG_1.2.2.1 this
          have := p9.2.1
          have := hs utc19
          omega
        · have g9 := GC_bin (c := 10009) (D := D + 1) (hv utc19) (vG_3 q9) (Nat.le_refl _) (Nat.le_refl _) (by decide) (by decide) (by decide)
          have e9 : jnV 10009 v w_5 = 1 := by
            unfold jnV
            simp [c32]
          rw [e9] at g9
          exact g9
      · refine go_iload_n (pc' := 36) cx dX6_either2_35 rfl rfl ?_
        refine go_if_eq (pc' := 39) cx 43 dX6_either2_36 rfl rfl (fun c36 => ?_) (fun c36 => ?_)
        · refine go_iconst (pc' := 44) cx 0 dX6_either2_43 rfl rfl ?_
          refine go_istore_n (pc' := 45) cx dX6_either2_44 (ltn rfl) [(1, .int 0), (2, .int w_5), (0, .ref (E.2.1 88))] rfl rfl ?_
          refine go_goto cx 5 dX6_either2_45 rfl ?_
          refine go_sub [0, 2] [(1, .int 0), (0, .ref (E.2.1 88))] rfl ?_
          have h9 : lpF (advS (mT R fr) sz) pOr F (k + 1) S = ((lpF (advS (mT R fr) sz) pOr F k (F ((advS (mT R fr) sz) S)).1).1, (F ((advS (mT R fr) sz) S)).2 ++ S.2.2.1 :: (lpF (advS (mT R fr) sz) pOr F k (F ((advS (mT R fr) sz) S)).1).2) := if_pos (by rw [tc19]; rfl)
          rw [h9, tc19] at kk
          have p9 := hP _ aG_1.1
          refine ih (F ((advS (mT R fr) sz) S)).1 (cs ++ (F ((advS (mT R fr) sz) S)).2 ++ [10009]) 0 G_3 z_4 mG_3 (fun q9 => ?_) (fun q9 => ?_) (fun x g1 z1 h1 h2 => kk x g1 z1 h1 (fun q9 => by rw [lp_app]; exact h2 q9))
          · have := hM.lt utc19 (by rw [tc19]; decide)
            have := aG_1.2.2.1 this
            have := p9.2.1
            have := hs utc19
            omega
          · have g9 := GC_bin (c := 10009) (D := D + 1) (hv utc19) (vG_3 q9) (Nat.le_refl _) (Nat.le_refl _) (by decide) (by decide) (by decide)
            have e9 : jnV 10009 v w_5 = 0 := by
              unfold jnV
              simp [c32, c36]
            rw [e9] at g9
            exact g9
        · refine go_iconst (pc' := 40) cx 1 dX6_either2_39 rfl rfl ?_
          refine go_goto cx 44 dX6_either2_40 rfl ?_
          refine go_istore_n (pc' := 45) cx dX6_either2_44 (ltn rfl) [(1, .int 1), (2, .int w_5), (0, .ref (E.2.1 88))] rfl rfl ?_
          refine go_goto cx 5 dX6_either2_45 rfl ?_
          refine go_sub [0, 2] [(1, .int 1), (0, .ref (E.2.1 88))] rfl ?_
          have h9 : lpF (advS (mT R fr) sz) pOr F (k + 1) S = ((lpF (advS (mT R fr) sz) pOr F k (F ((advS (mT R fr) sz) S)).1).1, (F ((advS (mT R fr) sz) S)).2 ++ S.2.2.1 :: (lpF (advS (mT R fr) sz) pOr F k (F ((advS (mT R fr) sz) S)).1).2) := if_pos (by rw [tc19]; rfl)
          rw [h9, tc19] at kk
          have p9 := hP _ aG_1.1
          refine ih (F ((advS (mT R fr) sz) S)).1 (cs ++ (F ((advS (mT R fr) sz) S)).2 ++ [10009]) 1 G_3 z_4 mG_3 (fun q9 => ?_) (fun q9 => ?_) (fun x g1 z1 h1 h2 => kk x g1 z1 h1 (fun q9 => by rw [lp_app]; exact h2 q9))
          · have := hM.lt utc19 (by rw [tc19]; decide)
            have := aG_1.2.2.1 this
            have := p9.2.1
            have := hs utc19
            omega
          · have g9 := GC_bin (c := 10009) (D := D + 1) (hv utc19) (vG_3 q9) (Nat.le_refl _) (Nat.le_refl _) (by decide) (by decide) (by decide)
            have e9 : jnV 10009 v w_5 = 1 := by
              unfold jnV
              simp [c32, c36]
            rw [e9] at g9
            exact g9

set_option maxHeartbeats 1000000 in
set_option maxRecDepth 20000 in
theorem c_X6_either2 (l : Launch) (E : Ev) {g0 : IG} {o : Option Nat} {fr sz : Nat} {R : Nat → Int32} (hC : MCx g0 fr sz R) {F : PF} (hP : Pp (mT R fr) sz F) {D d : Nat} (hd : 4 ≤ d) (hC1 : McC l E o g0 fr sz R 2 yX6_both2 cX6_both2 3 d F D)  : McC l E o g0 fr sz R 2 yX6_either2 cX6_either2 3 (d + 1) (lvF (advS (mT R fr) sz) pOr F) (D + 1) := by
  intro S g z hM
  refine Ct.of (lv0 := [(0, .ref (E.2.1 88))]) (by decide) (Nat.le_of_ble_eq_true rfl) rfl ?_
  intro p e s m below meth c cx
  obtain ⟨hfr, hsz, h26, h27, h89, hT0⟩ := id hC
  refine go_aload_n (pc' := 1) cx dX6_either2_0 rfl rfl ?_
  refine go_cVIz (pc' := 4) cx (hC1 S g z hM) mX6_both2 lX6_312 dX6_either2_1 kq88 (ltn rfl) (ltn rfl) rfl rfl rfl rfl (by omega) (Nat.le_of_ble_eq_true rfl) (Nat.le_of_ble_eq_true rfl) rfl (fun w_3 G_1 z_2 hG_1 => ?_)
  obtain ⟨mG_1, vG_1⟩ := hG_1
  refine go_istore_n (pc' := 5) cx dX6_either2_4 (ltn rfl) [(1, .int w_3), (0, .ref (E.2.1 88))] rfl rfl ?_
  have p9 := hP S hM.2.2.1
  refine either2_loop hC hP hd hC1 cx 160 (F S).1 (F S).2 w_3 G_1 z_2 mG_1 (fun _ => by omega) (fun q9 => (vG_1 q9).mono (Nat.le_succ D)) (fun x g1 z1 h1 h2 => ?_)
  refine go_iload_n (pc' := 49) cx dX6_either2_48 rfl rfl ?_
  refine go_iret cx rfl dX6_either2_49 ?_
  exact ZIz.mk ⟨h1, h2⟩

set_option maxHeartbeats 1000000 in
set_option maxRecDepth 20000 in
theorem term3_loop {l : Launch} {E : Ev} {Z : ZT} {g0 : IG} {o : Option Nat} {p : Program} {e : Env} {s : State} {m : MethodId} {args : Array Value} {below : List Frame} {meth : Method} {c : Code} {fr sz : Nat} {R : Nat → Int32} (hC : MCx g0 fr sz R) {F : PF} (hP : Pp (mT R fr) sz F) {D d : Nat} (hd : 4 ≤ d) (hC1 : McC l E o g0 fr sz R 3 yX6_atom3 cX6_atom3 2 d F D)  (cx : Cx p s m args meth c E 115 cX6_term3 2 yX6_term3.cls (some .int)) : ∀ (k : Nat) (S : PS) (cs : List Int32) (v : Int32) (g : IG) (z : Int64), MdS g0 fr sz R 3 S g z → (S.2.2.2 = -1 → sz ≤ S.2.1 + k) → (S.2.2.2 = -1 → GC (evM g0) (D + 1) cs v) → (∀ x g1 z1, MdS g0 fr sz R 3 (lpF (advS (mT R fr) sz) pTe F k S).1 g1 z1 → ((lpF (advS (mT R fr) sz) pTe F k S).1.2.2.2 = -1 → GC (evM g0) (D + 1) (cs ++ (lpF (advS (mT R fr) sz) pTe F k S).2) x) → Go p l e (rmd (d + 1)) s m args below meth c E 115 2 Z g1 (RFo o) z1 28 [(1, .int x), (0, .ref (E.2.1 88))] []) → Go p l e (rmd (d + 1)) s m args below meth c E 115 2 Z g (RFo o) z 5 [(1, .int v), (0, .ref (E.2.1 88))] [] := by
  intro k
  induction k with
  | zero =>
    intro S cs v g z hM hs hv kk
    refine go_aload_n (pc' := 6) cx dX6_term3_5 rfl rfl ?_
    refine go_bipush (pc' := 8) cx 42 dX6_term3_6 rfl rfl ?_
    refine go_cVi (pc' := 11) cx (c_isSign_42 l E hC hM) mX6_isSign lX6_231 dX6_term3_8 kq88 (ltn rfl) (ltn rfl) rfl rfl rfl rfl (by omega) (Nat.le_of_ble_eq_true rfl) (Nat.le_of_ble_eq_true rfl) rfl ?_
    refine go_if_eq (pc' := 14) cx 28 dX6_term3_11 rfl rfl (fun c11 => ?_) (fun c11 => ?_)
    · have h9 : lpF (advS (mT R fr) sz) pTe F 0 S = (S, []) := rfl
      rw [h9] at kk
      exact kk v g z hM (fun q => by rw [show cs ++ ([] : List Int32) = cs from List.append_nil cs]; exact hv q)
    · have t9 : S.2.2.1 = 10017 := one_of c11
      have u9 := hM.2.2.1.un (by rw [t9]; decide)
      exact absurd ((hM.en u9 (hs u9)).symm.trans t9) (by decide)
  | succ k ih =>
    intro S cs v g z hM hs hv kk
    refine go_aload_n (pc' := 6) cx dX6_term3_5 rfl rfl ?_
    refine go_bipush (pc' := 8) cx 42 dX6_term3_6 rfl rfl ?_
    refine go_cVi (pc' := 11) cx (c_isSign_42 l E hC hM) mX6_isSign lX6_231 dX6_term3_8 kq88 (ltn rfl) (ltn rfl) rfl rfl rfl rfl (by omega) (Nat.le_of_ble_eq_true rfl) (Nat.le_of_ble_eq_true rfl) rfl ?_
    refine go_if_eq (pc' := 14) cx 28 dX6_term3_11 rfl rfl (fun c11 => ?_) (fun c11 => ?_)
    · have h9 : lpF (advS (mT R fr) sz) pTe F (k + 1) S = (S, []) := if_neg (show ¬ pTe S.2.2.1 = true from by unfold pTe; simp only [beq_iff_eq]; exact zero_of c11)
      rw [h9] at kk
      exact kk v g z hM (fun q => by rw [show cs ++ ([] : List Int32) = cs from List.append_nil cs]; exact hv q)
    · have tc11 : S.2.2.1 = 10017 := one_of c11
      have utc11 := hM.2.2.1.un (by rw [tc11]; decide)
      refine go_aload_n (pc' := 15) cx dX6_term3_14 rfl rfl ?_
      have aG_1 := adv_W hM.2.2.1 utc11
      refine go_cVVz (pc' := 18) cx (c_nextM l E hC hM utc11 (by rw [tc11]; decide)) mX6_next lX6_206 dX6_term3_15 kq88 (ltn rfl) (ltn rfl) rfl rfl rfl rfl (by omega) (Nat.le_of_ble_eq_true rfl) (Nat.le_of_ble_eq_true rfl) rfl (fun G_1 z_2 mG_1 => ?_)
      refine go_iload_n (pc' := 19) cx dX6_term3_18 rfl rfl ?_
      refine go_aload_n (pc' := 20) cx dX6_term3_19 rfl rfl ?_
      refine go_cVIz (pc' := 23) cx (hC1 (advS (mT R fr) sz S) G_1 z_2 mG_1) mX6_atom3 lX6_282 dX6_term3_20 kq88 (ltn rfl) (ltn rfl) rfl rfl rfl rfl (by omega) (Nat.le_of_ble_eq_true rfl) (Nat.le_of_ble_eq_true rfl) rfl (fun w_5 G_3 z_4 hG_3 => ?_)
      obtain ⟨mG_3, vG_3⟩ := hG_3
      refine go_imul (pc' := 24) cx dX6_term3_23 rfl ?_
      refine go_istore_n (pc' := 25) cx dX6_term3_24 (ltn rfl) [(1, .int (v * w_5)), (0, .ref (E.2.1 88))] rfl rfl ?_
      refine go_goto cx 5 dX6_term3_25 rfl ?_
      have h9 : lpF (advS (mT R fr) sz) pTe F (k + 1) S = ((lpF (advS (mT R fr) sz) pTe F k (F ((advS (mT R fr) sz) S)).1).1, (F ((advS (mT R fr) sz) S)).2 ++ S.2.2.1 :: (lpF (advS (mT R fr) sz) pTe F k (F ((advS (mT R fr) sz) S)).1).2) := if_pos (by rw [tc11]; rfl)
      rw [h9, tc11] at kk
      have p9 := hP _ aG_1.1
      refine ih (F ((advS (mT R fr) sz) S)).1 (cs ++ (F ((advS (mT R fr) sz) S)).2 ++ [10017]) (v * w_5) G_3 z_4 mG_3 (fun q9 => ?_) (fun q9 => ?_) (fun x g1 z1 h1 h2 => kk x g1 z1 h1 (fun q9 => by rw [lp_app]; exact h2 q9))
      · have := hM.lt utc11 (by rw [tc11]; decide)
        have := aG_1.2.2.1 this
        have := p9.2.1
        have := hs utc11
        omega
      · have g9 := GC_bin (c := 10017) (D := D + 1) (hv utc11) (vG_3 q9) (Nat.le_refl _) (Nat.le_refl _) (by decide) (by decide) (by decide)
        rw [jn_te] at g9
        exact g9

set_option maxHeartbeats 1000000 in
set_option maxRecDepth 20000 in
theorem c_X6_term3 (l : Launch) (E : Ev) {g0 : IG} {o : Option Nat} {fr sz : Nat} {R : Nat → Int32} (hC : MCx g0 fr sz R) {F : PF} (hP : Pp (mT R fr) sz F) {D d : Nat} (hd : 4 ≤ d) (hC1 : McC l E o g0 fr sz R 3 yX6_atom3 cX6_atom3 2 d F D)  : McC l E o g0 fr sz R 3 yX6_term3 cX6_term3 2 (d + 1) (lvF (advS (mT R fr) sz) pTe F) (D + 1) := by
  intro S g z hM
  refine Ct.of (lv0 := [(0, .ref (E.2.1 88))]) (by decide) (Nat.le_of_ble_eq_true rfl) rfl ?_
  intro p e s m below meth c cx
  obtain ⟨hfr, hsz, h26, h27, h89, hT0⟩ := id hC
  refine go_aload_n (pc' := 1) cx dX6_term3_0 rfl rfl ?_
  refine go_cVIz (pc' := 4) cx (hC1 S g z hM) mX6_atom3 lX6_282 dX6_term3_1 kq88 (ltn rfl) (ltn rfl) rfl rfl rfl rfl (by omega) (Nat.le_of_ble_eq_true rfl) (Nat.le_of_ble_eq_true rfl) rfl (fun w_3 G_1 z_2 hG_1 => ?_)
  obtain ⟨mG_1, vG_1⟩ := hG_1
  refine go_istore_n (pc' := 5) cx dX6_term3_4 (ltn rfl) [(1, .int w_3), (0, .ref (E.2.1 88))] rfl rfl ?_
  have p9 := hP S hM.2.2.1
  refine term3_loop hC hP hd hC1 cx 160 (F S).1 (F S).2 w_3 G_1 z_2 mG_1 (fun _ => by omega) (fun q9 => (vG_1 q9).mono (Nat.le_succ D)) (fun x g1 z1 h1 h2 => ?_)
  refine go_iload_n (pc' := 29) cx dX6_term3_28 rfl rfl ?_
  refine go_iret cx rfl dX6_term3_29 ?_
  exact ZIz.mk ⟨h1, h2⟩

set_option maxHeartbeats 1000000 in
set_option maxRecDepth 20000 in
theorem added3_loop {l : Launch} {E : Ev} {Z : ZT} {g0 : IG} {o : Option Nat} {p : Program} {e : Env} {s : State} {m : MethodId} {args : Array Value} {below : List Frame} {meth : Method} {c : Code} {fr sz : Nat} {R : Nat → Int32} (hC : MCx g0 fr sz R) {F : PF} (hP : Pp (mT R fr) sz F) {D d : Nat} (hd : 4 ≤ d) (hC1 : McC l E o g0 fr sz R 3 yX6_term3 cX6_term3 2 d F D)  (cx : Cx p s m args meth c E 115 cX6_added3 4 yX6_added3.cls (some .int)) : ∀ (k : Nat) (S : PS) (cs : List Int32) (v : Int32) (g : IG) (z : Int64), MdS g0 fr sz R 3 S g z → (S.2.2.2 = -1 → sz ≤ S.2.1 + k) → (S.2.2.2 = -1 → GC (evM g0) (D + 1) cs v) → (∀ x g1 z1, MdS g0 fr sz R 3 (lpF (advS (mT R fr) sz) pSu F k S).1 g1 z1 → ((lpF (advS (mT R fr) sz) pSu F k S).1.2.2.2 = -1 → GC (evM g0) (D + 1) (cs ++ (lpF (advS (mT R fr) sz) pSu F k S).2) x) → Go p l e (rmd (d + 1)) s m args below meth c E 115 4 Z g1 (RFo o) z1 66 [(1, .int x), (0, .ref (E.2.1 88))] []) → Go p l e (rmd (d + 1)) s m args below meth c E 115 4 Z g (RFo o) z 5 [(1, .int v), (0, .ref (E.2.1 88))] [] := by
  intro k
  induction k with
  | zero =>
    intro S cs v g z hM hs hv kk
    refine go_aload_n (pc' := 6) cx dX6_added3_5 rfl rfl ?_
    refine go_bipush (pc' := 8) cx 43 dX6_added3_6 rfl rfl ?_
    refine go_cVi (pc' := 11) cx (c_isSign_43 l E hC hM) mX6_isSign lX6_231 dX6_added3_8 kq88 (ltn rfl) (ltn rfl) rfl rfl rfl rfl (by omega) (Nat.le_of_ble_eq_true rfl) (Nat.le_of_ble_eq_true rfl) rfl ?_
    refine go_if_ne (pc' := 14) cx 23 dX6_added3_11 rfl rfl (fun c11 => ?_) (fun c11 => ?_)
    · have t9 : S.2.2.1 = 10015 := one_of c11
      have u9 := hM.2.2.1.un (by rw [t9]; decide)
      exact absurd ((hM.en u9 (hs u9)).symm.trans t9) (by decide)
    · refine go_aload_n (pc' := 15) cx dX6_added3_14 rfl rfl ?_
      refine go_bipush (pc' := 17) cx 45 dX6_added3_15 rfl rfl ?_
      refine go_cVi (pc' := 20) cx (c_isSign_45 l E hC hM) mX6_isSign lX6_231 dX6_added3_17 kq88 (ltn rfl) (ltn rfl) rfl rfl rfl rfl (by omega) (Nat.le_of_ble_eq_true rfl) (Nat.le_of_ble_eq_true rfl) rfl ?_
      refine go_if_eq (pc' := 23) cx 66 dX6_added3_20 rfl rfl (fun c20 => ?_) (fun c20 => ?_)
      · have h9 : lpF (advS (mT R fr) sz) pSu F 0 S = (S, []) := rfl
        rw [h9] at kk
        exact kk v g z hM (fun q => by rw [show cs ++ ([] : List Int32) = cs from List.append_nil cs]; exact hv q)
      · have t9 : S.2.2.1 = 10016 := one_of c20
        have u9 := hM.2.2.1.un (by rw [t9]; decide)
        exact absurd ((hM.en u9 (hs u9)).symm.trans t9) (by decide)
  | succ k ih =>
    intro S cs v g z hM hs hv kk
    refine go_aload_n (pc' := 6) cx dX6_added3_5 rfl rfl ?_
    refine go_bipush (pc' := 8) cx 43 dX6_added3_6 rfl rfl ?_
    refine go_cVi (pc' := 11) cx (c_isSign_43 l E hC hM) mX6_isSign lX6_231 dX6_added3_8 kq88 (ltn rfl) (ltn rfl) rfl rfl rfl rfl (by omega) (Nat.le_of_ble_eq_true rfl) (Nat.le_of_ble_eq_true rfl) rfl ?_
    refine go_if_ne (pc' := 14) cx 23 dX6_added3_11 rfl rfl (fun c11 => ?_) (fun c11 => ?_)
    · have tc11 : S.2.2.1 = 10015 := one_of c11
      have utc11 := hM.2.2.1.un (by rw [tc11]; decide)
      refine go_aload_n (pc' := 24) cx dX6_added3_23 rfl rfl ?_
      refine go_getl (N := 56) (pc' := 27) cx fX6_186 dX6_added3_24 (ltn rfl) rfl ?_
      refine go_ldc2 (pc' := 30) cx 43 kX6_248 dX6_added3_27 rfl ?_
      refine go_val (w := .long (((43 : Int32)).toInt64)) (congrArg Value.long (by decide)) ?_
      refine go_lcmp (pc' := 31) cx dX6_added3_30 rfl ?_
      refine go_if_ne (pc' := 34) cx 38 dX6_added3_31 rfl rfl (fun hh => absurd hh (by rw [wth_10015 hM utc11 tc11]; decide)) (fun _ => ?_)
      refine go_iconst (pc' := 35) cx 1 dX6_added3_34 rfl rfl ?_
      refine go_goto cx 39 dX6_added3_35 rfl ?_
      refine go_istore_n (pc' := 40) cx dX6_added3_39 (ltn rfl) [(2, .int 1), (1, .int v), (0, .ref (E.2.1 88))] rfl rfl ?_
      refine go_aload_n (pc' := 41) cx dX6_added3_40 rfl rfl ?_
      have aG_1 := adv_W hM.2.2.1 utc11
      refine go_cVVz (pc' := 44) cx (c_nextM l E hC hM utc11 (by rw [tc11]; decide)) mX6_next lX6_206 dX6_added3_41 kq88 (ltn rfl) (ltn rfl) rfl rfl rfl rfl (by omega) (Nat.le_of_ble_eq_true rfl) (Nat.le_of_ble_eq_true rfl) rfl (fun G_1 z_2 mG_1 => ?_)
      refine go_aload_n (pc' := 45) cx dX6_added3_44 rfl rfl ?_
      refine go_cVIz (pc' := 48) cx (hC1 (advS (mT R fr) sz S) G_1 z_2 mG_1) mX6_term3 lX6_285 dX6_added3_45 kq88 (ltn rfl) (ltn rfl) rfl rfl rfl rfl (by omega) (Nat.le_of_ble_eq_true rfl) (Nat.le_of_ble_eq_true rfl) rfl (fun w_5 G_3 z_4 hG_3 => ?_)
      obtain ⟨mG_3, vG_3⟩ := hG_3
      refine go_istore_n (pc' := 49) cx dX6_added3_48 (ltn rfl) [(3, .int w_5), (2, .int 1), (1, .int v), (0, .ref (E.2.1 88))] rfl rfl ?_
      refine go_iload_n (pc' := 50) cx dX6_added3_49 rfl rfl ?_
      refine go_if_eq (pc' := 53) cx 59 dX6_added3_50 rfl rfl (fun hh => absurd hh (by decide)) (fun _ => ?_)
      refine go_iload_n (pc' := 54) cx dX6_added3_53 rfl rfl ?_
      refine go_iload_n (pc' := 55) cx dX6_added3_54 rfl rfl ?_
      refine go_iadd (pc' := 56) cx dX6_added3_55 rfl ?_
      refine go_goto cx 62 dX6_added3_56 rfl ?_
      refine go_istore_n (pc' := 63) cx dX6_added3_62 (ltn rfl) [(1, .int (v + w_5)), (3, .int w_5), (2, .int 1), (0, .ref (E.2.1 88))] rfl rfl ?_
      refine go_goto cx 5 dX6_added3_63 rfl ?_
      refine go_sub [0, 3] [(1, .int (v + w_5)), (0, .ref (E.2.1 88))] rfl ?_
      have h9 : lpF (advS (mT R fr) sz) pSu F (k + 1) S = ((lpF (advS (mT R fr) sz) pSu F k (F ((advS (mT R fr) sz) S)).1).1, (F ((advS (mT R fr) sz) S)).2 ++ S.2.2.1 :: (lpF (advS (mT R fr) sz) pSu F k (F ((advS (mT R fr) sz) S)).1).2) := if_pos (by rw [tc11]; rfl)
      rw [h9, tc11] at kk
      have p9 := hP _ aG_1.1
      refine ih (F ((advS (mT R fr) sz) S)).1 (cs ++ (F ((advS (mT R fr) sz) S)).2 ++ [10015]) (v + w_5) G_3 z_4 mG_3 (fun q9 => ?_) (fun q9 => ?_) (fun x g1 z1 h1 h2 => kk x g1 z1 h1 (fun q9 => by rw [lp_app]; exact h2 q9))
      · have := hM.lt utc11 (by rw [tc11]; decide)
        have := aG_1.2.2.1 this
        have := p9.2.1
        have := hs utc11
        omega
      · have g9 := GC_bin (c := 10015) (D := D + 1) (hv utc11) (vG_3 q9) (Nat.le_refl _) (Nat.le_refl _) (by decide) (by decide) (by decide)
        rw [jn_pl] at g9
        exact g9
    · refine go_aload_n (pc' := 15) cx dX6_added3_14 rfl rfl ?_
      refine go_bipush (pc' := 17) cx 45 dX6_added3_15 rfl rfl ?_
      refine go_cVi (pc' := 20) cx (c_isSign_45 l E hC hM) mX6_isSign lX6_231 dX6_added3_17 kq88 (ltn rfl) (ltn rfl) rfl rfl rfl rfl (by omega) (Nat.le_of_ble_eq_true rfl) (Nat.le_of_ble_eq_true rfl) rfl ?_
      refine go_if_eq (pc' := 23) cx 66 dX6_added3_20 rfl rfl (fun c20 => ?_) (fun c20 => ?_)
      · have h9 : lpF (advS (mT R fr) sz) pSu F (k + 1) S = (S, []) := if_neg (show ¬ pSu S.2.2.1 = true from by unfold pSu; simp only [Bool.or_eq_true, beq_iff_eq]; exact fun q => q.elim (zero_of c11) (zero_of c20))
        rw [h9] at kk
        exact kk v g z hM (fun q => by rw [show cs ++ ([] : List Int32) = cs from List.append_nil cs]; exact hv q)
      · have tc20 : S.2.2.1 = 10016 := one_of c20
        have utc20 := hM.2.2.1.un (by rw [tc20]; decide)
        refine go_aload_n (pc' := 24) cx dX6_added3_23 rfl rfl ?_
        refine go_getl (N := 56) (pc' := 27) cx fX6_186 dX6_added3_24 (ltn rfl) rfl ?_
        refine go_ldc2 (pc' := 30) cx 43 kX6_248 dX6_added3_27 rfl ?_
        refine go_val (w := .long (((43 : Int32)).toInt64)) (congrArg Value.long (by decide)) ?_
        refine go_lcmp (pc' := 31) cx dX6_added3_30 rfl ?_
        refine go_if_ne (pc' := 34) cx 38 dX6_added3_31 rfl rfl (fun _ => ?_) (fun hh => absurd hh (by rw [wth_10016 hM utc20 tc20]; decide))
        refine go_iconst (pc' := 39) cx 0 dX6_added3_38 rfl rfl ?_
        refine go_istore_n (pc' := 40) cx dX6_added3_39 (ltn rfl) [(2, .int 0), (1, .int v), (0, .ref (E.2.1 88))] rfl rfl ?_
        refine go_aload_n (pc' := 41) cx dX6_added3_40 rfl rfl ?_
        have aG_6 := adv_W hM.2.2.1 utc20
        refine go_cVVz (pc' := 44) cx (c_nextM l E hC hM utc20 (by rw [tc20]; decide)) mX6_next lX6_206 dX6_added3_41 kq88 (ltn rfl) (ltn rfl) rfl rfl rfl rfl (by omega) (Nat.le_of_ble_eq_true rfl) (Nat.le_of_ble_eq_true rfl) rfl (fun G_6 z_7 mG_6 => ?_)
        refine go_aload_n (pc' := 45) cx dX6_added3_44 rfl rfl ?_
        refine go_cVIz (pc' := 48) cx (hC1 (advS (mT R fr) sz S) G_6 z_7 mG_6) mX6_term3 lX6_285 dX6_added3_45 kq88 (ltn rfl) (ltn rfl) rfl rfl rfl rfl (by omega) (Nat.le_of_ble_eq_true rfl) (Nat.le_of_ble_eq_true rfl) rfl (fun w_10 G_8 z_9 hG_8 => ?_)
        obtain ⟨mG_8, vG_8⟩ := hG_8
        refine go_istore_n (pc' := 49) cx dX6_added3_48 (ltn rfl) [(3, .int w_10), (2, .int 0), (1, .int v), (0, .ref (E.2.1 88))] rfl rfl ?_
        refine go_iload_n (pc' := 50) cx dX6_added3_49 rfl rfl ?_
        refine go_if_eq (pc' := 53) cx 59 dX6_added3_50 rfl rfl (fun _ => ?_) (fun hh => absurd hh (by decide))
        refine go_iload_n (pc' := 60) cx dX6_added3_59 rfl rfl ?_
        refine go_iload_n (pc' := 61) cx dX6_added3_60 rfl rfl ?_
        refine go_isub (pc' := 62) cx dX6_added3_61 rfl ?_
        refine go_istore_n (pc' := 63) cx dX6_added3_62 (ltn rfl) [(1, .int (v - w_10)), (3, .int w_10), (2, .int 0), (0, .ref (E.2.1 88))] rfl rfl ?_
        refine go_goto cx 5 dX6_added3_63 rfl ?_
        refine go_sub [0, 3] [(1, .int (v - w_10)), (0, .ref (E.2.1 88))] rfl ?_
        have h9 : lpF (advS (mT R fr) sz) pSu F (k + 1) S = ((lpF (advS (mT R fr) sz) pSu F k (F ((advS (mT R fr) sz) S)).1).1, (F ((advS (mT R fr) sz) S)).2 ++ S.2.2.1 :: (lpF (advS (mT R fr) sz) pSu F k (F ((advS (mT R fr) sz) S)).1).2) := if_pos (by rw [tc20]; rfl)
        rw [h9, tc20] at kk
        have p9 := hP _ aG_6.1
        refine ih (F ((advS (mT R fr) sz) S)).1 (cs ++ (F ((advS (mT R fr) sz) S)).2 ++ [10016]) (v - w_10) G_8 z_9 mG_8 (fun q9 => ?_) (fun q9 => ?_) (fun x g1 z1 h1 h2 => kk x g1 z1 h1 (fun q9 => by rw [lp_app]; exact h2 q9))
        · have := hM.lt utc20 (by rw [tc20]; decide)
          have := aG_6.2.2.1 this
          have := p9.2.1
          have := hs utc20
          omega
        · have g9 := GC_bin (c := 10016) (D := D + 1) (hv utc20) (vG_8 q9) (Nat.le_refl _) (Nat.le_refl _) (by decide) (by decide) (by decide)
          rw [jn_mi] at g9
          exact g9

set_option maxHeartbeats 1000000 in
set_option maxRecDepth 20000 in
theorem c_X6_added3 (l : Launch) (E : Ev) {g0 : IG} {o : Option Nat} {fr sz : Nat} {R : Nat → Int32} (hC : MCx g0 fr sz R) {F : PF} (hP : Pp (mT R fr) sz F) {D d : Nat} (hd : 4 ≤ d) (hC1 : McC l E o g0 fr sz R 3 yX6_term3 cX6_term3 2 d F D)  : McC l E o g0 fr sz R 3 yX6_added3 cX6_added3 4 (d + 1) (lvF (advS (mT R fr) sz) pSu F) (D + 1) := by
  intro S g z hM
  refine Ct.of (lv0 := [(0, .ref (E.2.1 88))]) (by decide) (Nat.le_of_ble_eq_true rfl) rfl ?_
  intro p e s m below meth c cx
  obtain ⟨hfr, hsz, h26, h27, h89, hT0⟩ := id hC
  refine go_aload_n (pc' := 1) cx dX6_added3_0 rfl rfl ?_
  refine go_cVIz (pc' := 4) cx (hC1 S g z hM) mX6_term3 lX6_285 dX6_added3_1 kq88 (ltn rfl) (ltn rfl) rfl rfl rfl rfl (by omega) (Nat.le_of_ble_eq_true rfl) (Nat.le_of_ble_eq_true rfl) rfl (fun w_3 G_1 z_2 hG_1 => ?_)
  obtain ⟨mG_1, vG_1⟩ := hG_1
  refine go_istore_n (pc' := 5) cx dX6_added3_4 (ltn rfl) [(1, .int w_3), (0, .ref (E.2.1 88))] rfl rfl ?_
  have p9 := hP S hM.2.2.1
  refine added3_loop hC hP hd hC1 cx 160 (F S).1 (F S).2 w_3 G_1 z_2 mG_1 (fun _ => by omega) (fun q9 => (vG_1 q9).mono (Nat.le_succ D)) (fun x g1 z1 h1 h2 => ?_)
  refine go_iload_n (pc' := 67) cx dX6_added3_66 rfl rfl ?_
  refine go_iret cx rfl dX6_added3_67 ?_
  exact ZIz.mk ⟨h1, h2⟩

set_option maxHeartbeats 1000000 in
set_option maxRecDepth 20000 in
theorem both3_loop {l : Launch} {E : Ev} {Z : ZT} {g0 : IG} {o : Option Nat} {p : Program} {e : Env} {s : State} {m : MethodId} {args : Array Value} {below : List Frame} {meth : Method} {c : Code} {fr sz : Nat} {R : Nat → Int32} (hC : MCx g0 fr sz R) {F : PF} (hP : Pp (mT R fr) sz F) {D d : Nat} (hd : 4 ≤ d) (hC1 : McC l E o g0 fr sz R 3 yX6_not3 cX6_not3 4 d F D)  (cx : Cx p s m args meth c E 115 cX6_both3 3 yX6_both3.cls (some .int)) : ∀ (k : Nat) (S : PS) (cs : List Int32) (v : Int32) (g : IG) (z : Int64), MdS g0 fr sz R 3 S g z → (S.2.2.2 = -1 → sz ≤ S.2.1 + k) → (S.2.2.2 = -1 → GC (evM g0) (D + 1) cs v) → (∀ x g1 z1, MdS g0 fr sz R 3 (lpF (advS (mT R fr) sz) pAn F k S).1 g1 z1 → ((lpF (advS (mT R fr) sz) pAn F k S).1.2.2.2 = -1 → GC (evM g0) (D + 1) (cs ++ (lpF (advS (mT R fr) sz) pAn F k S).2) x) → Go p l e (rmd (d + 1)) s m args below meth c E 115 3 Z g1 (RFo o) z1 49 [(1, .int x), (0, .ref (E.2.1 88))] []) → Go p l e (rmd (d + 1)) s m args below meth c E 115 3 Z g (RFo o) z 5 [(1, .int v), (0, .ref (E.2.1 88))] [] := by
  intro k
  induction k with
  | zero =>
    intro S cs v g z hM hs hv kk
    refine go_aload_n (pc' := 6) cx dX6_both3_5 rfl rfl ?_
    refine go_bipush (pc' := 8) cx 97 dX6_both3_6 rfl rfl ?_
    refine go_bipush (pc' := 10) cx 110 dX6_both3_8 rfl rfl ?_
    refine go_bipush (pc' := 12) cx 100 dX6_both3_10 rfl rfl ?_
    refine go_iconst (pc' := 13) cx 0 dX6_both3_12 rfl rfl ?_
    refine go_iconst (pc' := 14) cx 0 dX6_both3_13 rfl rfl ?_
    refine go_iconst (pc' := 15) cx 0 dX6_both3_14 rfl rfl ?_
    refine go_iconst (pc' := 16) cx 0 dX6_both3_15 rfl rfl ?_
    refine go_iconst (pc' := 17) cx 0 dX6_both3_16 rfl rfl ?_
    refine go_cVi (pc' := 20) cx (c_isWord_10 l E hC hM) mX6_isWord lX6_209 dX6_both3_17 kq88 (ltn rfl) (ltn rfl) rfl rfl rfl rfl (by omega) (Nat.le_of_ble_eq_true rfl) (Nat.le_of_ble_eq_true rfl) rfl ?_
    refine go_if_eq (pc' := 23) cx 49 dX6_both3_20 rfl rfl (fun c20 => ?_) (fun c20 => ?_)
    · have h9 : lpF (advS (mT R fr) sz) pAn F 0 S = (S, []) := rfl
      rw [h9] at kk
      exact kk v g z hM (fun q => by rw [show cs ++ ([] : List Int32) = cs from List.append_nil cs]; exact hv q)
    · have t9 : S.2.2.1 = 10010 := one_of c20
      have u9 := hM.2.2.1.un (by rw [t9]; decide)
      exact absurd ((hM.en u9 (hs u9)).symm.trans t9) (by decide)
  | succ k ih =>
    intro S cs v g z hM hs hv kk
    refine go_aload_n (pc' := 6) cx dX6_both3_5 rfl rfl ?_
    refine go_bipush (pc' := 8) cx 97 dX6_both3_6 rfl rfl ?_
    refine go_bipush (pc' := 10) cx 110 dX6_both3_8 rfl rfl ?_
    refine go_bipush (pc' := 12) cx 100 dX6_both3_10 rfl rfl ?_
    refine go_iconst (pc' := 13) cx 0 dX6_both3_12 rfl rfl ?_
    refine go_iconst (pc' := 14) cx 0 dX6_both3_13 rfl rfl ?_
    refine go_iconst (pc' := 15) cx 0 dX6_both3_14 rfl rfl ?_
    refine go_iconst (pc' := 16) cx 0 dX6_both3_15 rfl rfl ?_
    refine go_iconst (pc' := 17) cx 0 dX6_both3_16 rfl rfl ?_
    refine go_cVi (pc' := 20) cx (c_isWord_10 l E hC hM) mX6_isWord lX6_209 dX6_both3_17 kq88 (ltn rfl) (ltn rfl) rfl rfl rfl rfl (by omega) (Nat.le_of_ble_eq_true rfl) (Nat.le_of_ble_eq_true rfl) rfl ?_
    refine go_if_eq (pc' := 23) cx 49 dX6_both3_20 rfl rfl (fun c20 => ?_) (fun c20 => ?_)
    · have h9 : lpF (advS (mT R fr) sz) pAn F (k + 1) S = (S, []) := if_neg (show ¬ pAn S.2.2.1 = true from by unfold pAn; simp only [beq_iff_eq]; exact zero_of c20)
      rw [h9] at kk
      exact kk v g z hM (fun q => by rw [show cs ++ ([] : List Int32) = cs from List.append_nil cs]; exact hv q)
    · have tc20 : S.2.2.1 = 10010 := one_of c20
      have utc20 := hM.2.2.1.un (by rw [tc20]; decide)
      refine go_aload_n (pc' := 24) cx dX6_both3_23 rfl rfl ?_
      have aG_1 := adv_W hM.2.2.1 utc20
      refine go_cVVz (pc' := 27) cx (c_nextM l E hC hM utc20 (by rw [tc20]; decide)) mX6_next lX6_206 dX6_both3_24 kq88 (ltn rfl) (ltn rfl) rfl rfl rfl rfl (by omega) (Nat.le_of_ble_eq_true rfl) (Nat.le_of_ble_eq_true rfl) rfl (fun G_1 z_2 mG_1 => ?_)
      refine go_aload_n (pc' := 28) cx dX6_both3_27 rfl rfl ?_
      refine go_cVIz (pc' := 31) cx (hC1 (advS (mT R fr) sz S) G_1 z_2 mG_1) mX6_not3 lX6_291 dX6_both3_28 kq88 (ltn rfl) (ltn rfl) rfl rfl rfl rfl (by omega) (Nat.le_of_ble_eq_true rfl) (Nat.le_of_ble_eq_true rfl) rfl (fun w_5 G_3 z_4 hG_3 => ?_)
      obtain ⟨mG_3, vG_3⟩ := hG_3
      refine go_istore_n (pc' := 32) cx dX6_both3_31 (ltn rfl) [(2, .int w_5), (1, .int v), (0, .ref (E.2.1 88))] rfl rfl ?_
      refine go_iload_n (pc' := 33) cx dX6_both3_32 rfl rfl ?_
      refine go_if_eq (pc' := 36) cx 44 dX6_both3_33 rfl rfl (fun c33 => ?_) (fun c33 => ?_)
      · refine go_iconst (pc' := 45) cx 0 dX6_both3_44 rfl rfl ?_
        refine go_istore_n (pc' := 46) cx dX6_both3_45 (ltn rfl) [(1, .int 0), (2, .int w_5), (0, .ref (E.2.1 88))] rfl rfl ?_
        refine go_goto cx 5 dX6_both3_46 rfl ?_
        refine go_sub [0, 2] [(1, .int 0), (0, .ref (E.2.1 88))] rfl ?_
        have h9 : lpF (advS (mT R fr) sz) pAn F (k + 1) S = ((lpF (advS (mT R fr) sz) pAn F k (F ((advS (mT R fr) sz) S)).1).1, (F ((advS (mT R fr) sz) S)).2 ++ S.2.2.1 :: (lpF (advS (mT R fr) sz) pAn F k (F ((advS (mT R fr) sz) S)).1).2) := if_pos (by rw [tc20]; rfl)
        rw [h9, tc20] at kk
        have p9 := hP _ aG_1.1
        refine ih (F ((advS (mT R fr) sz) S)).1 (cs ++ (F ((advS (mT R fr) sz) S)).2 ++ [10010]) 0 G_3 z_4 mG_3 (fun q9 => ?_) (fun q9 => ?_) (fun x g1 z1 h1 h2 => kk x g1 z1 h1 (fun q9 => by rw [lp_app]; exact h2 q9))
        · have := hM.lt utc20 (by rw [tc20]; decide)
          have := aG_1.2.2.1 this
          have := p9.2.1
          have := hs utc20
          omega
        · have g9 := GC_bin (c := 10010) (D := D + 1) (hv utc20) (vG_3 q9) (Nat.le_refl _) (Nat.le_refl _) (by decide) (by decide) (by decide)
          have e9 : jnV 10010 v w_5 = 0 := by
            unfold jnV
            simp [c33]
          rw [e9] at g9
          exact g9
      · refine go_iload_n (pc' := 37) cx dX6_both3_36 rfl rfl ?_
        refine go_if_eq (pc' := 40) cx 44 dX6_both3_37 rfl rfl (fun c37 => ?_) (fun c37 => ?_)
        · refine go_iconst (pc' := 45) cx 0 dX6_both3_44 rfl rfl ?_
          refine go_istore_n (pc' := 46) cx dX6_both3_45 (ltn rfl) [(1, .int 0), (2, .int w_5), (0, .ref (E.2.1 88))] rfl rfl ?_
          refine go_goto cx 5 dX6_both3_46 rfl ?_
          refine go_sub [0, 2] [(1, .int 0), (0, .ref (E.2.1 88))] rfl ?_
          have h9 : lpF (advS (mT R fr) sz) pAn F (k + 1) S = ((lpF (advS (mT R fr) sz) pAn F k (F ((advS (mT R fr) sz) S)).1).1, (F ((advS (mT R fr) sz) S)).2 ++ S.2.2.1 :: (lpF (advS (mT R fr) sz) pAn F k (F ((advS (mT R fr) sz) S)).1).2) := if_pos (by rw [tc20]; rfl)
          rw [h9, tc20] at kk
          have p9 := hP _ aG_1.1
          refine ih (F ((advS (mT R fr) sz) S)).1 (cs ++ (F ((advS (mT R fr) sz) S)).2 ++ [10010]) 0 G_3 z_4 mG_3 (fun q9 => ?_) (fun q9 => ?_) (fun x g1 z1 h1 h2 => kk x g1 z1 h1 (fun q9 => by rw [lp_app]; exact h2 q9))
          · have := hM.lt utc20 (by rw [tc20]; decide)
            have := aG_1.2.2.1 this
            have := p9.2.1
            have := hs utc20
            omega
          · have g9 := GC_bin (c := 10010) (D := D + 1) (hv utc20) (vG_3 q9) (Nat.le_refl _) (Nat.le_refl _) (by decide) (by decide) (by decide)
            have e9 : jnV 10010 v w_5 = 0 := by
              unfold jnV
              simp [c33, c37]
            rw [e9] at g9
            exact g9
        · refine go_iconst (pc' := 41) cx 1 dX6_both3_40 rfl rfl ?_
          refine go_goto cx 45 dX6_both3_41 rfl ?_
          refine go_istore_n (pc' := 46) cx dX6_both3_45 (ltn rfl) [(1, .int 1), (2, .int w_5), (0, .ref (E.2.1 88))] rfl rfl ?_
          refine go_goto cx 5 dX6_both3_46 rfl ?_
          refine go_sub [0, 2] [(1, .int 1), (0, .ref (E.2.1 88))] rfl ?_
          have h9 : lpF (advS (mT R fr) sz) pAn F (k + 1) S = ((lpF (advS (mT R fr) sz) pAn F k (F ((advS (mT R fr) sz) S)).1).1, (F ((advS (mT R fr) sz) S)).2 ++ S.2.2.1 :: (lpF (advS (mT R fr) sz) pAn F k (F ((advS (mT R fr) sz) S)).1).2) := if_pos (by rw [tc20]; rfl)
          rw [h9, tc20] at kk
          have p9 := hP _ aG_1.1
          refine ih (F ((advS (mT R fr) sz) S)).1 (cs ++ (F ((advS (mT R fr) sz) S)).2 ++ [10010]) 1 G_3 z_4 mG_3 (fun q9 => ?_) (fun q9 => ?_) (fun x g1 z1 h1 h2 => kk x g1 z1 h1 (fun q9 => by rw [lp_app]; exact h2 q9))
          · have := hM.lt utc20 (by rw [tc20]; decide)
            have := aG_1.2.2.1 this
            have := p9.2.1
            have := hs utc20
            omega
          · have g9 := GC_bin (c := 10010) (D := D + 1) (hv utc20) (vG_3 q9) (Nat.le_refl _) (Nat.le_refl _) (by decide) (by decide) (by decide)
            have e9 : jnV 10010 v w_5 = 1 := by
              unfold jnV
              simp [c33, c37]
            rw [e9] at g9
            exact g9

set_option maxHeartbeats 1000000 in
set_option maxRecDepth 20000 in
theorem c_X6_both3 (l : Launch) (E : Ev) {g0 : IG} {o : Option Nat} {fr sz : Nat} {R : Nat → Int32} (hC : MCx g0 fr sz R) {F : PF} (hP : Pp (mT R fr) sz F) {D d : Nat} (hd : 4 ≤ d) (hC1 : McC l E o g0 fr sz R 3 yX6_not3 cX6_not3 4 d F D)  : McC l E o g0 fr sz R 3 yX6_both3 cX6_both3 3 (d + 1) (lvF (advS (mT R fr) sz) pAn F) (D + 1) := by
  intro S g z hM
  refine Ct.of (lv0 := [(0, .ref (E.2.1 88))]) (by decide) (Nat.le_of_ble_eq_true rfl) rfl ?_
  intro p e s m below meth c cx
  obtain ⟨hfr, hsz, h26, h27, h89, hT0⟩ := id hC
  refine go_aload_n (pc' := 1) cx dX6_both3_0 rfl rfl ?_
  refine go_cVIz (pc' := 4) cx (hC1 S g z hM) mX6_not3 lX6_291 dX6_both3_1 kq88 (ltn rfl) (ltn rfl) rfl rfl rfl rfl (by omega) (Nat.le_of_ble_eq_true rfl) (Nat.le_of_ble_eq_true rfl) rfl (fun w_3 G_1 z_2 hG_1 => ?_)
  obtain ⟨mG_1, vG_1⟩ := hG_1
  refine go_istore_n (pc' := 5) cx dX6_both3_4 (ltn rfl) [(1, .int w_3), (0, .ref (E.2.1 88))] rfl rfl ?_
  have p9 := hP S hM.2.2.1
  refine both3_loop hC hP hd hC1 cx 160 (F S).1 (F S).2 w_3 G_1 z_2 mG_1 (fun _ => by omega) (fun q9 => (vG_1 q9).mono (Nat.le_succ D)) (fun x g1 z1 h1 h2 => ?_)
  refine go_iload_n (pc' := 50) cx dX6_both3_49 rfl rfl ?_
  refine go_iret cx rfl dX6_both3_50 ?_
  exact ZIz.mk ⟨h1, h2⟩

set_option maxHeartbeats 1000000 in
set_option maxRecDepth 20000 in
theorem either3_loop {l : Launch} {E : Ev} {Z : ZT} {g0 : IG} {o : Option Nat} {p : Program} {e : Env} {s : State} {m : MethodId} {args : Array Value} {below : List Frame} {meth : Method} {c : Code} {fr sz : Nat} {R : Nat → Int32} (hC : MCx g0 fr sz R) {F : PF} (hP : Pp (mT R fr) sz F) {D d : Nat} (hd : 4 ≤ d) (hC1 : McC l E o g0 fr sz R 3 yX6_both3 cX6_both3 3 d F D)  (cx : Cx p s m args meth c E 115 cX6_either3 3 yX6_either3.cls (some .int)) : ∀ (k : Nat) (S : PS) (cs : List Int32) (v : Int32) (g : IG) (z : Int64), MdS g0 fr sz R 3 S g z → (S.2.2.2 = -1 → sz ≤ S.2.1 + k) → (S.2.2.2 = -1 → GC (evM g0) (D + 1) cs v) → (∀ x g1 z1, MdS g0 fr sz R 3 (lpF (advS (mT R fr) sz) pOr F k S).1 g1 z1 → ((lpF (advS (mT R fr) sz) pOr F k S).1.2.2.2 = -1 → GC (evM g0) (D + 1) (cs ++ (lpF (advS (mT R fr) sz) pOr F k S).2) x) → Go p l e (rmd (d + 1)) s m args below meth c E 115 3 Z g1 (RFo o) z1 48 [(1, .int x), (0, .ref (E.2.1 88))] []) → Go p l e (rmd (d + 1)) s m args below meth c E 115 3 Z g (RFo o) z 5 [(1, .int v), (0, .ref (E.2.1 88))] [] := by
  intro k
  induction k with
  | zero =>
    intro S cs v g z hM hs hv kk
    refine go_aload_n (pc' := 6) cx dX6_either3_5 rfl rfl ?_
    refine go_bipush (pc' := 8) cx 111 dX6_either3_6 rfl rfl ?_
    refine go_bipush (pc' := 10) cx 114 dX6_either3_8 rfl rfl ?_
    refine go_iconst (pc' := 11) cx 0 dX6_either3_10 rfl rfl ?_
    refine go_iconst (pc' := 12) cx 0 dX6_either3_11 rfl rfl ?_
    refine go_iconst (pc' := 13) cx 0 dX6_either3_12 rfl rfl ?_
    refine go_iconst (pc' := 14) cx 0 dX6_either3_13 rfl rfl ?_
    refine go_iconst (pc' := 15) cx 0 dX6_either3_14 rfl rfl ?_
    refine go_iconst (pc' := 16) cx 0 dX6_either3_15 rfl rfl ?_
    refine go_cVi (pc' := 19) cx (c_isWord_9 l E hC hM) mX6_isWord lX6_209 dX6_either3_16 kq88 (ltn rfl) (ltn rfl) rfl rfl rfl rfl (by omega) (Nat.le_of_ble_eq_true rfl) (Nat.le_of_ble_eq_true rfl) rfl ?_
    refine go_if_eq (pc' := 22) cx 48 dX6_either3_19 rfl rfl (fun c19 => ?_) (fun c19 => ?_)
    · have h9 : lpF (advS (mT R fr) sz) pOr F 0 S = (S, []) := rfl
      rw [h9] at kk
      exact kk v g z hM (fun q => by rw [show cs ++ ([] : List Int32) = cs from List.append_nil cs]; exact hv q)
    · have t9 : S.2.2.1 = 10009 := one_of c19
      have u9 := hM.2.2.1.un (by rw [t9]; decide)
      exact absurd ((hM.en u9 (hs u9)).symm.trans t9) (by decide)
  | succ k ih =>
    intro S cs v g z hM hs hv kk
    refine go_aload_n (pc' := 6) cx dX6_either3_5 rfl rfl ?_
    refine go_bipush (pc' := 8) cx 111 dX6_either3_6 rfl rfl ?_
    refine go_bipush (pc' := 10) cx 114 dX6_either3_8 rfl rfl ?_
    refine go_iconst (pc' := 11) cx 0 dX6_either3_10 rfl rfl ?_
    refine go_iconst (pc' := 12) cx 0 dX6_either3_11 rfl rfl ?_
    refine go_iconst (pc' := 13) cx 0 dX6_either3_12 rfl rfl ?_
    refine go_iconst (pc' := 14) cx 0 dX6_either3_13 rfl rfl ?_
    refine go_iconst (pc' := 15) cx 0 dX6_either3_14 rfl rfl ?_
    refine go_iconst (pc' := 16) cx 0 dX6_either3_15 rfl rfl ?_
    refine go_cVi (pc' := 19) cx (c_isWord_9 l E hC hM) mX6_isWord lX6_209 dX6_either3_16 kq88 (ltn rfl) (ltn rfl) rfl rfl rfl rfl (by omega) (Nat.le_of_ble_eq_true rfl) (Nat.le_of_ble_eq_true rfl) rfl ?_
    refine go_if_eq (pc' := 22) cx 48 dX6_either3_19 rfl rfl (fun c19 => ?_) (fun c19 => ?_)
    · have h9 : lpF (advS (mT R fr) sz) pOr F (k + 1) S = (S, []) := if_neg (show ¬ pOr S.2.2.1 = true from by unfold pOr; simp only [beq_iff_eq]; exact zero_of c19)
      rw [h9] at kk
      exact kk v g z hM (fun q => by rw [show cs ++ ([] : List Int32) = cs from List.append_nil cs]; exact hv q)
    · have tc19 : S.2.2.1 = 10009 := one_of c19
      have utc19 := hM.2.2.1.un (by rw [tc19]; decide)
      refine go_aload_n (pc' := 23) cx dX6_either3_22 rfl rfl ?_
      have aG_1 := adv_W hM.2.2.1 utc19
      refine go_cVVz (pc' := 26) cx (c_nextM l E hC hM utc19 (by rw [tc19]; decide)) mX6_next lX6_206 dX6_either3_23 kq88 (ltn rfl) (ltn rfl) rfl rfl rfl rfl (by omega) (Nat.le_of_ble_eq_true rfl) (Nat.le_of_ble_eq_true rfl) rfl (fun G_1 z_2 mG_1 => ?_)
      refine go_aload_n (pc' := 27) cx dX6_either3_26 rfl rfl ?_
      refine go_cVIz (pc' := 30) cx (hC1 (advS (mT R fr) sz S) G_1 z_2 mG_1) mX6_both3 lX6_294 dX6_either3_27 kq88 (ltn rfl) (ltn rfl) rfl rfl rfl rfl (by omega) (Nat.le_of_ble_eq_true rfl) (Nat.le_of_ble_eq_true rfl) rfl (fun w_5 G_3 z_4 hG_3 => ?_)
      obtain ⟨mG_3, vG_3⟩ := hG_3
      refine go_istore_n (pc' := 31) cx dX6_either3_30 (ltn rfl) [(2, .int w_5), (1, .int v), (0, .ref (E.2.1 88))] rfl rfl ?_
      refine go_iload_n (pc' := 32) cx dX6_either3_31 rfl rfl ?_
      refine go_if_ne (pc' := 35) cx 39 dX6_either3_32 rfl rfl (fun c32 => ?_) (fun c32 => ?_)
      · refine go_iconst (pc' := 40) cx 1 dX6_either3_39 rfl rfl ?_
        refine go_goto cx 44 dX6_either3_40 rfl ?_
        refine go_istore_n (pc' := 45) cx dX6_either3_44 (ltn rfl) [(1, .int 1), (2, .int w_5), (0, .ref (E.2.1 88))] rfl rfl ?_
        refine go_goto cx 5 dX6_either3_45 rfl ?_
        refine go_sub [0, 2] [(1, .int 1), (0, .ref (E.2.1 88))] rfl ?_
        have h9 : lpF (advS (mT R fr) sz) pOr F (k + 1) S = ((lpF (advS (mT R fr) sz) pOr F k (F ((advS (mT R fr) sz) S)).1).1, (F ((advS (mT R fr) sz) S)).2 ++ S.2.2.1 :: (lpF (advS (mT R fr) sz) pOr F k (F ((advS (mT R fr) sz) S)).1).2) := if_pos (by rw [tc19]; rfl)
        rw [h9, tc19] at kk
        have p9 := hP _ aG_1.1
        refine ih (F ((advS (mT R fr) sz) S)).1 (cs ++ (F ((advS (mT R fr) sz) S)).2 ++ [10009]) 1 G_3 z_4 mG_3 (fun q9 => ?_) (fun q9 => ?_) (fun x g1 z1 h1 h2 => kk x g1 z1 h1 (fun q9 => by rw [lp_app]; exact h2 q9))
        · have := hM.lt utc19 (by rw [tc19]; decide)
          have := aG_1.2.2.1 this
          have := p9.2.1
          have := hs utc19
          omega
        · have g9 := GC_bin (c := 10009) (D := D + 1) (hv utc19) (vG_3 q9) (Nat.le_refl _) (Nat.le_refl _) (by decide) (by decide) (by decide)
          have e9 : jnV 10009 v w_5 = 1 := by
            unfold jnV
            simp [c32]
          rw [e9] at g9
          exact g9
      · refine go_iload_n (pc' := 36) cx dX6_either3_35 rfl rfl ?_
        refine go_if_eq (pc' := 39) cx 43 dX6_either3_36 rfl rfl (fun c36 => ?_) (fun c36 => ?_)
        · refine go_iconst (pc' := 44) cx 0 dX6_either3_43 rfl rfl ?_
          refine go_istore_n (pc' := 45) cx dX6_either3_44 (ltn rfl) [(1, .int 0), (2, .int w_5), (0, .ref (E.2.1 88))] rfl rfl ?_
          refine go_goto cx 5 dX6_either3_45 rfl ?_
          refine go_sub [0, 2] [(1, .int 0), (0, .ref (E.2.1 88))] rfl ?_
          have h9 : lpF (advS (mT R fr) sz) pOr F (k + 1) S = ((lpF (advS (mT R fr) sz) pOr F k (F ((advS (mT R fr) sz) S)).1).1, (F ((advS (mT R fr) sz) S)).2 ++ S.2.2.1 :: (lpF (advS (mT R fr) sz) pOr F k (F ((advS (mT R fr) sz) S)).1).2) := if_pos (by rw [tc19]; rfl)
          rw [h9, tc19] at kk
          have p9 := hP _ aG_1.1
          refine ih (F ((advS (mT R fr) sz) S)).1 (cs ++ (F ((advS (mT R fr) sz) S)).2 ++ [10009]) 0 G_3 z_4 mG_3 (fun q9 => ?_) (fun q9 => ?_) (fun x g1 z1 h1 h2 => kk x g1 z1 h1 (fun q9 => by rw [lp_app]; exact h2 q9))
          · have := hM.lt utc19 (by rw [tc19]; decide)
            have := aG_1.2.2.1 this
            have := p9.2.1
            have := hs utc19
            omega
          · have g9 := GC_bin (c := 10009) (D := D + 1) (hv utc19) (vG_3 q9) (Nat.le_refl _) (Nat.le_refl _) (by decide) (by decide) (by decide)
            have e9 : jnV 10009 v w_5 = 0 := by
              unfold jnV
              simp [c32, c36]
            rw [e9] at g9
            exact g9
        · refine go_iconst (pc' := 40) cx 1 dX6_either3_39 rfl rfl ?_
          refine go_goto cx 44 dX6_either3_40 rfl ?_
          refine go_istore_n (pc' := 45) cx dX6_either3_44 (ltn rfl) [(1, .int 1), (2, .int w_5), (0, .ref (E.2.1 88))] rfl rfl ?_
          refine go_goto cx 5 dX6_either3_45 rfl ?_
          refine go_sub [0, 2] [(1, .int 1), (0, .ref (E.2.1 88))] rfl ?_
          have h9 : lpF (advS (mT R fr) sz) pOr F (k + 1) S = ((lpF (advS (mT R fr) sz) pOr F k (F ((advS (mT R fr) sz) S)).1).1, (F ((advS (mT R fr) sz) S)).2 ++ S.2.2.1 :: (lpF (advS (mT R fr) sz) pOr F k (F ((advS (mT R fr) sz) S)).1).2) := if_pos (by rw [tc19]; rfl)
          rw [h9, tc19] at kk
          have p9 := hP _ aG_1.1
          refine ih (F ((advS (mT R fr) sz) S)).1 (cs ++ (F ((advS (mT R fr) sz) S)).2 ++ [10009]) 1 G_3 z_4 mG_3 (fun q9 => ?_) (fun q9 => ?_) (fun x g1 z1 h1 h2 => kk x g1 z1 h1 (fun q9 => by rw [lp_app]; exact h2 q9))
          · have := hM.lt utc19 (by rw [tc19]; decide)
            have := aG_1.2.2.1 this
            have := p9.2.1
            have := hs utc19
            omega
          · have g9 := GC_bin (c := 10009) (D := D + 1) (hv utc19) (vG_3 q9) (Nat.le_refl _) (Nat.le_refl _) (by decide) (by decide) (by decide)
            have e9 : jnV 10009 v w_5 = 1 := by
              unfold jnV
              simp [c32, c36]
            rw [e9] at g9
            exact g9

set_option maxHeartbeats 1000000 in
set_option maxRecDepth 20000 in
theorem c_X6_either3 (l : Launch) (E : Ev) {g0 : IG} {o : Option Nat} {fr sz : Nat} {R : Nat → Int32} (hC : MCx g0 fr sz R) {F : PF} (hP : Pp (mT R fr) sz F) {D d : Nat} (hd : 4 ≤ d) (hC1 : McC l E o g0 fr sz R 3 yX6_both3 cX6_both3 3 d F D)  : McC l E o g0 fr sz R 3 yX6_either3 cX6_either3 3 (d + 1) (lvF (advS (mT R fr) sz) pOr F) (D + 1) := by
  intro S g z hM
  refine Ct.of (lv0 := [(0, .ref (E.2.1 88))]) (by decide) (Nat.le_of_ble_eq_true rfl) rfl ?_
  intro p e s m below meth c cx
  obtain ⟨hfr, hsz, h26, h27, h89, hT0⟩ := id hC
  refine go_aload_n (pc' := 1) cx dX6_either3_0 rfl rfl ?_
  refine go_cVIz (pc' := 4) cx (hC1 S g z hM) mX6_both3 lX6_294 dX6_either3_1 kq88 (ltn rfl) (ltn rfl) rfl rfl rfl rfl (by omega) (Nat.le_of_ble_eq_true rfl) (Nat.le_of_ble_eq_true rfl) rfl (fun w_3 G_1 z_2 hG_1 => ?_)
  obtain ⟨mG_1, vG_1⟩ := hG_1
  refine go_istore_n (pc' := 5) cx dX6_either3_4 (ltn rfl) [(1, .int w_3), (0, .ref (E.2.1 88))] rfl rfl ?_
  have p9 := hP S hM.2.2.1
  refine either3_loop hC hP hd hC1 cx 160 (F S).1 (F S).2 w_3 G_1 z_2 mG_1 (fun _ => by omega) (fun q9 => (vG_1 q9).mono (Nat.le_succ D)) (fun x g1 z1 h1 h2 => ?_)
  refine go_iload_n (pc' := 49) cx dX6_either3_48 rfl rfl ?_
  refine go_iret cx rfl dX6_either3_49 ?_
  exact ZIz.mk ⟨h1, h2⟩

set_option maxHeartbeats 1000000 in
set_option maxRecDepth 20000 in
theorem term4_loop {l : Launch} {E : Ev} {Z : ZT} {g0 : IG} {o : Option Nat} {p : Program} {e : Env} {s : State} {m : MethodId} {args : Array Value} {below : List Frame} {meth : Method} {c : Code} {fr sz : Nat} {R : Nat → Int32} (hC : MCx g0 fr sz R) {F : PF} (hP : Pp (mT R fr) sz F) {D d : Nat} (hd : 4 ≤ d) (hC1 : McC l E o g0 fr sz R 4 yX6_atom4 cX6_atom4 2 d F D)  (cx : Cx p s m args meth c E 115 cX6_term4 2 yX6_term4.cls (some .int)) : ∀ (k : Nat) (S : PS) (cs : List Int32) (v : Int32) (g : IG) (z : Int64), MdS g0 fr sz R 4 S g z → (S.2.2.2 = -1 → sz ≤ S.2.1 + k) → (S.2.2.2 = -1 → GC (evM g0) (D + 1) cs v) → (∀ x g1 z1, MdS g0 fr sz R 4 (lpF (advS (mT R fr) sz) pTe F k S).1 g1 z1 → ((lpF (advS (mT R fr) sz) pTe F k S).1.2.2.2 = -1 → GC (evM g0) (D + 1) (cs ++ (lpF (advS (mT R fr) sz) pTe F k S).2) x) → Go p l e (rmd (d + 1)) s m args below meth c E 115 2 Z g1 (RFo o) z1 28 [(1, .int x), (0, .ref (E.2.1 88))] []) → Go p l e (rmd (d + 1)) s m args below meth c E 115 2 Z g (RFo o) z 5 [(1, .int v), (0, .ref (E.2.1 88))] [] := by
  intro k
  induction k with
  | zero =>
    intro S cs v g z hM hs hv kk
    refine go_aload_n (pc' := 6) cx dX6_term4_5 rfl rfl ?_
    refine go_bipush (pc' := 8) cx 42 dX6_term4_6 rfl rfl ?_
    refine go_cVi (pc' := 11) cx (c_isSign_42 l E hC hM) mX6_isSign lX6_231 dX6_term4_8 kq88 (ltn rfl) (ltn rfl) rfl rfl rfl rfl (by omega) (Nat.le_of_ble_eq_true rfl) (Nat.le_of_ble_eq_true rfl) rfl ?_
    refine go_if_eq (pc' := 14) cx 28 dX6_term4_11 rfl rfl (fun c11 => ?_) (fun c11 => ?_)
    · have h9 : lpF (advS (mT R fr) sz) pTe F 0 S = (S, []) := rfl
      rw [h9] at kk
      exact kk v g z hM (fun q => by rw [show cs ++ ([] : List Int32) = cs from List.append_nil cs]; exact hv q)
    · have t9 : S.2.2.1 = 10017 := one_of c11
      have u9 := hM.2.2.1.un (by rw [t9]; decide)
      exact absurd ((hM.en u9 (hs u9)).symm.trans t9) (by decide)
  | succ k ih =>
    intro S cs v g z hM hs hv kk
    refine go_aload_n (pc' := 6) cx dX6_term4_5 rfl rfl ?_
    refine go_bipush (pc' := 8) cx 42 dX6_term4_6 rfl rfl ?_
    refine go_cVi (pc' := 11) cx (c_isSign_42 l E hC hM) mX6_isSign lX6_231 dX6_term4_8 kq88 (ltn rfl) (ltn rfl) rfl rfl rfl rfl (by omega) (Nat.le_of_ble_eq_true rfl) (Nat.le_of_ble_eq_true rfl) rfl ?_
    refine go_if_eq (pc' := 14) cx 28 dX6_term4_11 rfl rfl (fun c11 => ?_) (fun c11 => ?_)
    · have h9 : lpF (advS (mT R fr) sz) pTe F (k + 1) S = (S, []) := if_neg (show ¬ pTe S.2.2.1 = true from by unfold pTe; simp only [beq_iff_eq]; exact zero_of c11)
      rw [h9] at kk
      exact kk v g z hM (fun q => by rw [show cs ++ ([] : List Int32) = cs from List.append_nil cs]; exact hv q)
    · have tc11 : S.2.2.1 = 10017 := one_of c11
      have utc11 := hM.2.2.1.un (by rw [tc11]; decide)
      refine go_aload_n (pc' := 15) cx dX6_term4_14 rfl rfl ?_
      have aG_1 := adv_W hM.2.2.1 utc11
      refine go_cVVz (pc' := 18) cx (c_nextM l E hC hM utc11 (by rw [tc11]; decide)) mX6_next lX6_206 dX6_term4_15 kq88 (ltn rfl) (ltn rfl) rfl rfl rfl rfl (by omega) (Nat.le_of_ble_eq_true rfl) (Nat.le_of_ble_eq_true rfl) rfl (fun G_1 z_2 mG_1 => ?_)
      refine go_iload_n (pc' := 19) cx dX6_term4_18 rfl rfl ?_
      refine go_aload_n (pc' := 20) cx dX6_term4_19 rfl rfl ?_
      refine go_cVIz (pc' := 23) cx (hC1 (advS (mT R fr) sz S) G_1 z_2 mG_1) mX6_atom4 lX6_264 dX6_term4_20 kq88 (ltn rfl) (ltn rfl) rfl rfl rfl rfl (by omega) (Nat.le_of_ble_eq_true rfl) (Nat.le_of_ble_eq_true rfl) rfl (fun w_5 G_3 z_4 hG_3 => ?_)
      obtain ⟨mG_3, vG_3⟩ := hG_3
      refine go_imul (pc' := 24) cx dX6_term4_23 rfl ?_
      refine go_istore_n (pc' := 25) cx dX6_term4_24 (ltn rfl) [(1, .int (v * w_5)), (0, .ref (E.2.1 88))] rfl rfl ?_
      refine go_goto cx 5 dX6_term4_25 rfl ?_
      have h9 : lpF (advS (mT R fr) sz) pTe F (k + 1) S = ((lpF (advS (mT R fr) sz) pTe F k (F ((advS (mT R fr) sz) S)).1).1, (F ((advS (mT R fr) sz) S)).2 ++ S.2.2.1 :: (lpF (advS (mT R fr) sz) pTe F k (F ((advS (mT R fr) sz) S)).1).2) := if_pos (by rw [tc11]; rfl)
      rw [h9, tc11] at kk
      have p9 := hP _ aG_1.1
      refine ih (F ((advS (mT R fr) sz) S)).1 (cs ++ (F ((advS (mT R fr) sz) S)).2 ++ [10017]) (v * w_5) G_3 z_4 mG_3 (fun q9 => ?_) (fun q9 => ?_) (fun x g1 z1 h1 h2 => kk x g1 z1 h1 (fun q9 => by rw [lp_app]; exact h2 q9))
      · have := hM.lt utc11 (by rw [tc11]; decide)
        have := aG_1.2.2.1 this
        have := p9.2.1
        have := hs utc11
        omega
      · have g9 := GC_bin (c := 10017) (D := D + 1) (hv utc11) (vG_3 q9) (Nat.le_refl _) (Nat.le_refl _) (by decide) (by decide) (by decide)
        rw [jn_te] at g9
        exact g9

set_option maxHeartbeats 1000000 in
set_option maxRecDepth 20000 in
theorem c_X6_term4 (l : Launch) (E : Ev) {g0 : IG} {o : Option Nat} {fr sz : Nat} {R : Nat → Int32} (hC : MCx g0 fr sz R) {F : PF} (hP : Pp (mT R fr) sz F) {D d : Nat} (hd : 4 ≤ d) (hC1 : McC l E o g0 fr sz R 4 yX6_atom4 cX6_atom4 2 d F D)  : McC l E o g0 fr sz R 4 yX6_term4 cX6_term4 2 (d + 1) (lvF (advS (mT R fr) sz) pTe F) (D + 1) := by
  intro S g z hM
  refine Ct.of (lv0 := [(0, .ref (E.2.1 88))]) (by decide) (Nat.le_of_ble_eq_true rfl) rfl ?_
  intro p e s m below meth c cx
  obtain ⟨hfr, hsz, h26, h27, h89, hT0⟩ := id hC
  refine go_aload_n (pc' := 1) cx dX6_term4_0 rfl rfl ?_
  refine go_cVIz (pc' := 4) cx (hC1 S g z hM) mX6_atom4 lX6_264 dX6_term4_1 kq88 (ltn rfl) (ltn rfl) rfl rfl rfl rfl (by omega) (Nat.le_of_ble_eq_true rfl) (Nat.le_of_ble_eq_true rfl) rfl (fun w_3 G_1 z_2 hG_1 => ?_)
  obtain ⟨mG_1, vG_1⟩ := hG_1
  refine go_istore_n (pc' := 5) cx dX6_term4_4 (ltn rfl) [(1, .int w_3), (0, .ref (E.2.1 88))] rfl rfl ?_
  have p9 := hP S hM.2.2.1
  refine term4_loop hC hP hd hC1 cx 160 (F S).1 (F S).2 w_3 G_1 z_2 mG_1 (fun _ => by omega) (fun q9 => (vG_1 q9).mono (Nat.le_succ D)) (fun x g1 z1 h1 h2 => ?_)
  refine go_iload_n (pc' := 29) cx dX6_term4_28 rfl rfl ?_
  refine go_iret cx rfl dX6_term4_29 ?_
  exact ZIz.mk ⟨h1, h2⟩

set_option maxHeartbeats 1000000 in
set_option maxRecDepth 20000 in
theorem added4_loop {l : Launch} {E : Ev} {Z : ZT} {g0 : IG} {o : Option Nat} {p : Program} {e : Env} {s : State} {m : MethodId} {args : Array Value} {below : List Frame} {meth : Method} {c : Code} {fr sz : Nat} {R : Nat → Int32} (hC : MCx g0 fr sz R) {F : PF} (hP : Pp (mT R fr) sz F) {D d : Nat} (hd : 4 ≤ d) (hC1 : McC l E o g0 fr sz R 4 yX6_term4 cX6_term4 2 d F D)  (cx : Cx p s m args meth c E 115 cX6_added4 4 yX6_added4.cls (some .int)) : ∀ (k : Nat) (S : PS) (cs : List Int32) (v : Int32) (g : IG) (z : Int64), MdS g0 fr sz R 4 S g z → (S.2.2.2 = -1 → sz ≤ S.2.1 + k) → (S.2.2.2 = -1 → GC (evM g0) (D + 1) cs v) → (∀ x g1 z1, MdS g0 fr sz R 4 (lpF (advS (mT R fr) sz) pSu F k S).1 g1 z1 → ((lpF (advS (mT R fr) sz) pSu F k S).1.2.2.2 = -1 → GC (evM g0) (D + 1) (cs ++ (lpF (advS (mT R fr) sz) pSu F k S).2) x) → Go p l e (rmd (d + 1)) s m args below meth c E 115 4 Z g1 (RFo o) z1 66 [(1, .int x), (0, .ref (E.2.1 88))] []) → Go p l e (rmd (d + 1)) s m args below meth c E 115 4 Z g (RFo o) z 5 [(1, .int v), (0, .ref (E.2.1 88))] [] := by
  intro k
  induction k with
  | zero =>
    intro S cs v g z hM hs hv kk
    refine go_aload_n (pc' := 6) cx dX6_added4_5 rfl rfl ?_
    refine go_bipush (pc' := 8) cx 43 dX6_added4_6 rfl rfl ?_
    refine go_cVi (pc' := 11) cx (c_isSign_43 l E hC hM) mX6_isSign lX6_231 dX6_added4_8 kq88 (ltn rfl) (ltn rfl) rfl rfl rfl rfl (by omega) (Nat.le_of_ble_eq_true rfl) (Nat.le_of_ble_eq_true rfl) rfl ?_
    refine go_if_ne (pc' := 14) cx 23 dX6_added4_11 rfl rfl (fun c11 => ?_) (fun c11 => ?_)
    · have t9 : S.2.2.1 = 10015 := one_of c11
      have u9 := hM.2.2.1.un (by rw [t9]; decide)
      exact absurd ((hM.en u9 (hs u9)).symm.trans t9) (by decide)
    · refine go_aload_n (pc' := 15) cx dX6_added4_14 rfl rfl ?_
      refine go_bipush (pc' := 17) cx 45 dX6_added4_15 rfl rfl ?_
      refine go_cVi (pc' := 20) cx (c_isSign_45 l E hC hM) mX6_isSign lX6_231 dX6_added4_17 kq88 (ltn rfl) (ltn rfl) rfl rfl rfl rfl (by omega) (Nat.le_of_ble_eq_true rfl) (Nat.le_of_ble_eq_true rfl) rfl ?_
      refine go_if_eq (pc' := 23) cx 66 dX6_added4_20 rfl rfl (fun c20 => ?_) (fun c20 => ?_)
      · have h9 : lpF (advS (mT R fr) sz) pSu F 0 S = (S, []) := rfl
        rw [h9] at kk
        exact kk v g z hM (fun q => by rw [show cs ++ ([] : List Int32) = cs from List.append_nil cs]; exact hv q)
      · have t9 : S.2.2.1 = 10016 := one_of c20
        have u9 := hM.2.2.1.un (by rw [t9]; decide)
        exact absurd ((hM.en u9 (hs u9)).symm.trans t9) (by decide)
  | succ k ih =>
    intro S cs v g z hM hs hv kk
    refine go_aload_n (pc' := 6) cx dX6_added4_5 rfl rfl ?_
    refine go_bipush (pc' := 8) cx 43 dX6_added4_6 rfl rfl ?_
    refine go_cVi (pc' := 11) cx (c_isSign_43 l E hC hM) mX6_isSign lX6_231 dX6_added4_8 kq88 (ltn rfl) (ltn rfl) rfl rfl rfl rfl (by omega) (Nat.le_of_ble_eq_true rfl) (Nat.le_of_ble_eq_true rfl) rfl ?_
    refine go_if_ne (pc' := 14) cx 23 dX6_added4_11 rfl rfl (fun c11 => ?_) (fun c11 => ?_)
    · have tc11 : S.2.2.1 = 10015 := one_of c11
      have utc11 := hM.2.2.1.un (by rw [tc11]; decide)
      refine go_aload_n (pc' := 24) cx dX6_added4_23 rfl rfl ?_
      refine go_getl (N := 56) (pc' := 27) cx fX6_186 dX6_added4_24 (ltn rfl) rfl ?_
      refine go_ldc2 (pc' := 30) cx 43 kX6_248 dX6_added4_27 rfl ?_
      refine go_val (w := .long (((43 : Int32)).toInt64)) (congrArg Value.long (by decide)) ?_
      refine go_lcmp (pc' := 31) cx dX6_added4_30 rfl ?_
      refine go_if_ne (pc' := 34) cx 38 dX6_added4_31 rfl rfl (fun hh => absurd hh (by rw [wth_10015 hM utc11 tc11]; decide)) (fun _ => ?_)
      refine go_iconst (pc' := 35) cx 1 dX6_added4_34 rfl rfl ?_
      refine go_goto cx 39 dX6_added4_35 rfl ?_
      refine go_istore_n (pc' := 40) cx dX6_added4_39 (ltn rfl) [(2, .int 1), (1, .int v), (0, .ref (E.2.1 88))] rfl rfl ?_
      refine go_aload_n (pc' := 41) cx dX6_added4_40 rfl rfl ?_
      have aG_1 := adv_W hM.2.2.1 utc11
      refine go_cVVz (pc' := 44) cx (c_nextM l E hC hM utc11 (by rw [tc11]; decide)) mX6_next lX6_206 dX6_added4_41 kq88 (ltn rfl) (ltn rfl) rfl rfl rfl rfl (by omega) (Nat.le_of_ble_eq_true rfl) (Nat.le_of_ble_eq_true rfl) rfl (fun G_1 z_2 mG_1 => ?_)
      refine go_aload_n (pc' := 45) cx dX6_added4_44 rfl rfl ?_
      refine go_cVIz (pc' := 48) cx (hC1 (advS (mT R fr) sz S) G_1 z_2 mG_1) mX6_term4 lX6_267 dX6_added4_45 kq88 (ltn rfl) (ltn rfl) rfl rfl rfl rfl (by omega) (Nat.le_of_ble_eq_true rfl) (Nat.le_of_ble_eq_true rfl) rfl (fun w_5 G_3 z_4 hG_3 => ?_)
      obtain ⟨mG_3, vG_3⟩ := hG_3
      refine go_istore_n (pc' := 49) cx dX6_added4_48 (ltn rfl) [(3, .int w_5), (2, .int 1), (1, .int v), (0, .ref (E.2.1 88))] rfl rfl ?_
      refine go_iload_n (pc' := 50) cx dX6_added4_49 rfl rfl ?_
      refine go_if_eq (pc' := 53) cx 59 dX6_added4_50 rfl rfl (fun hh => absurd hh (by decide)) (fun _ => ?_)
      refine go_iload_n (pc' := 54) cx dX6_added4_53 rfl rfl ?_
      refine go_iload_n (pc' := 55) cx dX6_added4_54 rfl rfl ?_
      refine go_iadd (pc' := 56) cx dX6_added4_55 rfl ?_
      refine go_goto cx 62 dX6_added4_56 rfl ?_
      refine go_istore_n (pc' := 63) cx dX6_added4_62 (ltn rfl) [(1, .int (v + w_5)), (3, .int w_5), (2, .int 1), (0, .ref (E.2.1 88))] rfl rfl ?_
      refine go_goto cx 5 dX6_added4_63 rfl ?_
      refine go_sub [0, 3] [(1, .int (v + w_5)), (0, .ref (E.2.1 88))] rfl ?_
      have h9 : lpF (advS (mT R fr) sz) pSu F (k + 1) S = ((lpF (advS (mT R fr) sz) pSu F k (F ((advS (mT R fr) sz) S)).1).1, (F ((advS (mT R fr) sz) S)).2 ++ S.2.2.1 :: (lpF (advS (mT R fr) sz) pSu F k (F ((advS (mT R fr) sz) S)).1).2) := if_pos (by rw [tc11]; rfl)
      rw [h9, tc11] at kk
      have p9 := hP _ aG_1.1
      refine ih (F ((advS (mT R fr) sz) S)).1 (cs ++ (F ((advS (mT R fr) sz) S)).2 ++ [10015]) (v + w_5) G_3 z_4 mG_3 (fun q9 => ?_) (fun q9 => ?_) (fun x g1 z1 h1 h2 => kk x g1 z1 h1 (fun q9 => by rw [lp_app]; exact h2 q9))
      · have := hM.lt utc11 (by rw [tc11]; decide)
        have := aG_1.2.2.1 this
        have := p9.2.1
        have := hs utc11
        omega
      · have g9 := GC_bin (c := 10015) (D := D + 1) (hv utc11) (vG_3 q9) (Nat.le_refl _) (Nat.le_refl _) (by decide) (by decide) (by decide)
        rw [jn_pl] at g9
        exact g9
    · refine go_aload_n (pc' := 15) cx dX6_added4_14 rfl rfl ?_
      refine go_bipush (pc' := 17) cx 45 dX6_added4_15 rfl rfl ?_
      refine go_cVi (pc' := 20) cx (c_isSign_45 l E hC hM) mX6_isSign lX6_231 dX6_added4_17 kq88 (ltn rfl) (ltn rfl) rfl rfl rfl rfl (by omega) (Nat.le_of_ble_eq_true rfl) (Nat.le_of_ble_eq_true rfl) rfl ?_
      refine go_if_eq (pc' := 23) cx 66 dX6_added4_20 rfl rfl (fun c20 => ?_) (fun c20 => ?_)
      · have h9 : lpF (advS (mT R fr) sz) pSu F (k + 1) S = (S, []) := if_neg (show ¬ pSu S.2.2.1 = true from by unfold pSu; simp only [Bool.or_eq_true, beq_iff_eq]; exact fun q => q.elim (zero_of c11) (zero_of c20))
        rw [h9] at kk
        exact kk v g z hM (fun q => by rw [show cs ++ ([] : List Int32) = cs from List.append_nil cs]; exact hv q)
      · have tc20 : S.2.2.1 = 10016 := one_of c20
        have utc20 := hM.2.2.1.un (by rw [tc20]; decide)
        refine go_aload_n (pc' := 24) cx dX6_added4_23 rfl rfl ?_
        refine go_getl (N := 56) (pc' := 27) cx fX6_186 dX6_added4_24 (ltn rfl) rfl ?_
        refine go_ldc2 (pc' := 30) cx 43 kX6_248 dX6_added4_27 rfl ?_
        refine go_val (w := .long (((43 : Int32)).toInt64)) (congrArg Value.long (by decide)) ?_
        refine go_lcmp (pc' := 31) cx dX6_added4_30 rfl ?_
        refine go_if_ne (pc' := 34) cx 38 dX6_added4_31 rfl rfl (fun _ => ?_) (fun hh => absurd hh (by rw [wth_10016 hM utc20 tc20]; decide))
        refine go_iconst (pc' := 39) cx 0 dX6_added4_38 rfl rfl ?_
        refine go_istore_n (pc' := 40) cx dX6_added4_39 (ltn rfl) [(2, .int 0), (1, .int v), (0, .ref (E.2.1 88))] rfl rfl ?_
        refine go_aload_n (pc' := 41) cx dX6_added4_40 rfl rfl ?_
        have aG_6 := adv_W hM.2.2.1 utc20
        refine go_cVVz (pc' := 44) cx (c_nextM l E hC hM utc20 (by rw [tc20]; decide)) mX6_next lX6_206 dX6_added4_41 kq88 (ltn rfl) (ltn rfl) rfl rfl rfl rfl (by omega) (Nat.le_of_ble_eq_true rfl) (Nat.le_of_ble_eq_true rfl) rfl (fun G_6 z_7 mG_6 => ?_)
        refine go_aload_n (pc' := 45) cx dX6_added4_44 rfl rfl ?_
        refine go_cVIz (pc' := 48) cx (hC1 (advS (mT R fr) sz S) G_6 z_7 mG_6) mX6_term4 lX6_267 dX6_added4_45 kq88 (ltn rfl) (ltn rfl) rfl rfl rfl rfl (by omega) (Nat.le_of_ble_eq_true rfl) (Nat.le_of_ble_eq_true rfl) rfl (fun w_10 G_8 z_9 hG_8 => ?_)
        obtain ⟨mG_8, vG_8⟩ := hG_8
        refine go_istore_n (pc' := 49) cx dX6_added4_48 (ltn rfl) [(3, .int w_10), (2, .int 0), (1, .int v), (0, .ref (E.2.1 88))] rfl rfl ?_
        refine go_iload_n (pc' := 50) cx dX6_added4_49 rfl rfl ?_
        refine go_if_eq (pc' := 53) cx 59 dX6_added4_50 rfl rfl (fun _ => ?_) (fun hh => absurd hh (by decide))
        refine go_iload_n (pc' := 60) cx dX6_added4_59 rfl rfl ?_
        refine go_iload_n (pc' := 61) cx dX6_added4_60 rfl rfl ?_
        refine go_isub (pc' := 62) cx dX6_added4_61 rfl ?_
        refine go_istore_n (pc' := 63) cx dX6_added4_62 (ltn rfl) [(1, .int (v - w_10)), (3, .int w_10), (2, .int 0), (0, .ref (E.2.1 88))] rfl rfl ?_
        refine go_goto cx 5 dX6_added4_63 rfl ?_
        refine go_sub [0, 3] [(1, .int (v - w_10)), (0, .ref (E.2.1 88))] rfl ?_
        have h9 : lpF (advS (mT R fr) sz) pSu F (k + 1) S = ((lpF (advS (mT R fr) sz) pSu F k (F ((advS (mT R fr) sz) S)).1).1, (F ((advS (mT R fr) sz) S)).2 ++ S.2.2.1 :: (lpF (advS (mT R fr) sz) pSu F k (F ((advS (mT R fr) sz) S)).1).2) := if_pos (by rw [tc20]; rfl)
        rw [h9, tc20] at kk
        have p9 := hP _ aG_6.1
        refine ih (F ((advS (mT R fr) sz) S)).1 (cs ++ (F ((advS (mT R fr) sz) S)).2 ++ [10016]) (v - w_10) G_8 z_9 mG_8 (fun q9 => ?_) (fun q9 => ?_) (fun x g1 z1 h1 h2 => kk x g1 z1 h1 (fun q9 => by rw [lp_app]; exact h2 q9))
        · have := hM.lt utc20 (by rw [tc20]; decide)
          have := aG_6.2.2.1 this
          have := p9.2.1
          have := hs utc20
          omega
        · have g9 := GC_bin (c := 10016) (D := D + 1) (hv utc20) (vG_8 q9) (Nat.le_refl _) (Nat.le_refl _) (by decide) (by decide) (by decide)
          rw [jn_mi] at g9
          exact g9

set_option maxHeartbeats 1000000 in
set_option maxRecDepth 20000 in
theorem c_X6_added4 (l : Launch) (E : Ev) {g0 : IG} {o : Option Nat} {fr sz : Nat} {R : Nat → Int32} (hC : MCx g0 fr sz R) {F : PF} (hP : Pp (mT R fr) sz F) {D d : Nat} (hd : 4 ≤ d) (hC1 : McC l E o g0 fr sz R 4 yX6_term4 cX6_term4 2 d F D)  : McC l E o g0 fr sz R 4 yX6_added4 cX6_added4 4 (d + 1) (lvF (advS (mT R fr) sz) pSu F) (D + 1) := by
  intro S g z hM
  refine Ct.of (lv0 := [(0, .ref (E.2.1 88))]) (by decide) (Nat.le_of_ble_eq_true rfl) rfl ?_
  intro p e s m below meth c cx
  obtain ⟨hfr, hsz, h26, h27, h89, hT0⟩ := id hC
  refine go_aload_n (pc' := 1) cx dX6_added4_0 rfl rfl ?_
  refine go_cVIz (pc' := 4) cx (hC1 S g z hM) mX6_term4 lX6_267 dX6_added4_1 kq88 (ltn rfl) (ltn rfl) rfl rfl rfl rfl (by omega) (Nat.le_of_ble_eq_true rfl) (Nat.le_of_ble_eq_true rfl) rfl (fun w_3 G_1 z_2 hG_1 => ?_)
  obtain ⟨mG_1, vG_1⟩ := hG_1
  refine go_istore_n (pc' := 5) cx dX6_added4_4 (ltn rfl) [(1, .int w_3), (0, .ref (E.2.1 88))] rfl rfl ?_
  have p9 := hP S hM.2.2.1
  refine added4_loop hC hP hd hC1 cx 160 (F S).1 (F S).2 w_3 G_1 z_2 mG_1 (fun _ => by omega) (fun q9 => (vG_1 q9).mono (Nat.le_succ D)) (fun x g1 z1 h1 h2 => ?_)
  refine go_iload_n (pc' := 67) cx dX6_added4_66 rfl rfl ?_
  refine go_iret cx rfl dX6_added4_67 ?_
  exact ZIz.mk ⟨h1, h2⟩

set_option maxHeartbeats 1000000 in
set_option maxRecDepth 20000 in
theorem both4_loop {l : Launch} {E : Ev} {Z : ZT} {g0 : IG} {o : Option Nat} {p : Program} {e : Env} {s : State} {m : MethodId} {args : Array Value} {below : List Frame} {meth : Method} {c : Code} {fr sz : Nat} {R : Nat → Int32} (hC : MCx g0 fr sz R) {F : PF} (hP : Pp (mT R fr) sz F) {D d : Nat} (hd : 4 ≤ d) (hC1 : McC l E o g0 fr sz R 4 yX6_not4 cX6_not4 4 d F D)  (cx : Cx p s m args meth c E 115 cX6_both4 3 yX6_both4.cls (some .int)) : ∀ (k : Nat) (S : PS) (cs : List Int32) (v : Int32) (g : IG) (z : Int64), MdS g0 fr sz R 4 S g z → (S.2.2.2 = -1 → sz ≤ S.2.1 + k) → (S.2.2.2 = -1 → GC (evM g0) (D + 1) cs v) → (∀ x g1 z1, MdS g0 fr sz R 4 (lpF (advS (mT R fr) sz) pAn F k S).1 g1 z1 → ((lpF (advS (mT R fr) sz) pAn F k S).1.2.2.2 = -1 → GC (evM g0) (D + 1) (cs ++ (lpF (advS (mT R fr) sz) pAn F k S).2) x) → Go p l e (rmd (d + 1)) s m args below meth c E 115 3 Z g1 (RFo o) z1 49 [(1, .int x), (0, .ref (E.2.1 88))] []) → Go p l e (rmd (d + 1)) s m args below meth c E 115 3 Z g (RFo o) z 5 [(1, .int v), (0, .ref (E.2.1 88))] [] := by
  intro k
  induction k with
  | zero =>
    intro S cs v g z hM hs hv kk
    refine go_aload_n (pc' := 6) cx dX6_both4_5 rfl rfl ?_
    refine go_bipush (pc' := 8) cx 97 dX6_both4_6 rfl rfl ?_
    refine go_bipush (pc' := 10) cx 110 dX6_both4_8 rfl rfl ?_
    refine go_bipush (pc' := 12) cx 100 dX6_both4_10 rfl rfl ?_
    refine go_iconst (pc' := 13) cx 0 dX6_both4_12 rfl rfl ?_
    refine go_iconst (pc' := 14) cx 0 dX6_both4_13 rfl rfl ?_
    refine go_iconst (pc' := 15) cx 0 dX6_both4_14 rfl rfl ?_
    refine go_iconst (pc' := 16) cx 0 dX6_both4_15 rfl rfl ?_
    refine go_iconst (pc' := 17) cx 0 dX6_both4_16 rfl rfl ?_
    refine go_cVi (pc' := 20) cx (c_isWord_10 l E hC hM) mX6_isWord lX6_209 dX6_both4_17 kq88 (ltn rfl) (ltn rfl) rfl rfl rfl rfl (by omega) (Nat.le_of_ble_eq_true rfl) (Nat.le_of_ble_eq_true rfl) rfl ?_
    refine go_if_eq (pc' := 23) cx 49 dX6_both4_20 rfl rfl (fun c20 => ?_) (fun c20 => ?_)
    · have h9 : lpF (advS (mT R fr) sz) pAn F 0 S = (S, []) := rfl
      rw [h9] at kk
      exact kk v g z hM (fun q => by rw [show cs ++ ([] : List Int32) = cs from List.append_nil cs]; exact hv q)
    · have t9 : S.2.2.1 = 10010 := one_of c20
      have u9 := hM.2.2.1.un (by rw [t9]; decide)
      exact absurd ((hM.en u9 (hs u9)).symm.trans t9) (by decide)
  | succ k ih =>
    intro S cs v g z hM hs hv kk
    refine go_aload_n (pc' := 6) cx dX6_both4_5 rfl rfl ?_
    refine go_bipush (pc' := 8) cx 97 dX6_both4_6 rfl rfl ?_
    refine go_bipush (pc' := 10) cx 110 dX6_both4_8 rfl rfl ?_
    refine go_bipush (pc' := 12) cx 100 dX6_both4_10 rfl rfl ?_
    refine go_iconst (pc' := 13) cx 0 dX6_both4_12 rfl rfl ?_
    refine go_iconst (pc' := 14) cx 0 dX6_both4_13 rfl rfl ?_
    refine go_iconst (pc' := 15) cx 0 dX6_both4_14 rfl rfl ?_
    refine go_iconst (pc' := 16) cx 0 dX6_both4_15 rfl rfl ?_
    refine go_iconst (pc' := 17) cx 0 dX6_both4_16 rfl rfl ?_
    refine go_cVi (pc' := 20) cx (c_isWord_10 l E hC hM) mX6_isWord lX6_209 dX6_both4_17 kq88 (ltn rfl) (ltn rfl) rfl rfl rfl rfl (by omega) (Nat.le_of_ble_eq_true rfl) (Nat.le_of_ble_eq_true rfl) rfl ?_
    refine go_if_eq (pc' := 23) cx 49 dX6_both4_20 rfl rfl (fun c20 => ?_) (fun c20 => ?_)
    · have h9 : lpF (advS (mT R fr) sz) pAn F (k + 1) S = (S, []) := if_neg (show ¬ pAn S.2.2.1 = true from by unfold pAn; simp only [beq_iff_eq]; exact zero_of c20)
      rw [h9] at kk
      exact kk v g z hM (fun q => by rw [show cs ++ ([] : List Int32) = cs from List.append_nil cs]; exact hv q)
    · have tc20 : S.2.2.1 = 10010 := one_of c20
      have utc20 := hM.2.2.1.un (by rw [tc20]; decide)
      refine go_aload_n (pc' := 24) cx dX6_both4_23 rfl rfl ?_
      have aG_1 := adv_W hM.2.2.1 utc20
      refine go_cVVz (pc' := 27) cx (c_nextM l E hC hM utc20 (by rw [tc20]; decide)) mX6_next lX6_206 dX6_both4_24 kq88 (ltn rfl) (ltn rfl) rfl rfl rfl rfl (by omega) (Nat.le_of_ble_eq_true rfl) (Nat.le_of_ble_eq_true rfl) rfl (fun G_1 z_2 mG_1 => ?_)
      refine go_aload_n (pc' := 28) cx dX6_both4_27 rfl rfl ?_
      refine go_cVIz (pc' := 31) cx (hC1 (advS (mT R fr) sz S) G_1 z_2 mG_1) mX6_not4 lX6_273 dX6_both4_28 kq88 (ltn rfl) (ltn rfl) rfl rfl rfl rfl (by omega) (Nat.le_of_ble_eq_true rfl) (Nat.le_of_ble_eq_true rfl) rfl (fun w_5 G_3 z_4 hG_3 => ?_)
      obtain ⟨mG_3, vG_3⟩ := hG_3
      refine go_istore_n (pc' := 32) cx dX6_both4_31 (ltn rfl) [(2, .int w_5), (1, .int v), (0, .ref (E.2.1 88))] rfl rfl ?_
      refine go_iload_n (pc' := 33) cx dX6_both4_32 rfl rfl ?_
      refine go_if_eq (pc' := 36) cx 44 dX6_both4_33 rfl rfl (fun c33 => ?_) (fun c33 => ?_)
      · refine go_iconst (pc' := 45) cx 0 dX6_both4_44 rfl rfl ?_
        refine go_istore_n (pc' := 46) cx dX6_both4_45 (ltn rfl) [(1, .int 0), (2, .int w_5), (0, .ref (E.2.1 88))] rfl rfl ?_
        refine go_goto cx 5 dX6_both4_46 rfl ?_
        refine go_sub [0, 2] [(1, .int 0), (0, .ref (E.2.1 88))] rfl ?_
        have h9 : lpF (advS (mT R fr) sz) pAn F (k + 1) S = ((lpF (advS (mT R fr) sz) pAn F k (F ((advS (mT R fr) sz) S)).1).1, (F ((advS (mT R fr) sz) S)).2 ++ S.2.2.1 :: (lpF (advS (mT R fr) sz) pAn F k (F ((advS (mT R fr) sz) S)).1).2) := if_pos (by rw [tc20]; rfl)
        rw [h9, tc20] at kk
        have p9 := hP _ aG_1.1
        refine ih (F ((advS (mT R fr) sz) S)).1 (cs ++ (F ((advS (mT R fr) sz) S)).2 ++ [10010]) 0 G_3 z_4 mG_3 (fun q9 => ?_) (fun q9 => ?_) (fun x g1 z1 h1 h2 => kk x g1 z1 h1 (fun q9 => by rw [lp_app]; exact h2 q9))
        · have := hM.lt utc20 (by rw [tc20]; decide)
          have := aG_1.2.2.1 this
          have := p9.2.1
          have := hs utc20
          omega
        · have g9 := GC_bin (c := 10010) (D := D + 1) (hv utc20) (vG_3 q9) (Nat.le_refl _) (Nat.le_refl _) (by decide) (by decide) (by decide)
          have e9 : jnV 10010 v w_5 = 0 := by
            unfold jnV
            simp [c33]
          rw [e9] at g9
          exact g9
      · refine go_iload_n (pc' := 37) cx dX6_both4_36 rfl rfl ?_
        refine go_if_eq (pc' := 40) cx 44 dX6_both4_37 rfl rfl (fun c37 => ?_) (fun c37 => ?_)
        · refine go_iconst (pc' := 45) cx 0 dX6_both4_44 rfl rfl ?_
          refine go_istore_n (pc' := 46) cx dX6_both4_45 (ltn rfl) [(1, .int 0), (2, .int w_5), (0, .ref (E.2.1 88))] rfl rfl ?_
          refine go_goto cx 5 dX6_both4_46 rfl ?_
          refine go_sub [0, 2] [(1, .int 0), (0, .ref (E.2.1 88))] rfl ?_
          have h9 : lpF (advS (mT R fr) sz) pAn F (k + 1) S = ((lpF (advS (mT R fr) sz) pAn F k (F ((advS (mT R fr) sz) S)).1).1, (F ((advS (mT R fr) sz) S)).2 ++ S.2.2.1 :: (lpF (advS (mT R fr) sz) pAn F k (F ((advS (mT R fr) sz) S)).1).2) := if_pos (by rw [tc20]; rfl)
          rw [h9, tc20] at kk
          have p9 := hP _ aG_1.1
          refine ih (F ((advS (mT R fr) sz) S)).1 (cs ++ (F ((advS (mT R fr) sz) S)).2 ++ [10010]) 0 G_3 z_4 mG_3 (fun q9 => ?_) (fun q9 => ?_) (fun x g1 z1 h1 h2 => kk x g1 z1 h1 (fun q9 => by rw [lp_app]; exact h2 q9))
          · have := hM.lt utc20 (by rw [tc20]; decide)
            have := aG_1.2.2.1 this
            have := p9.2.1
            have := hs utc20
            omega
          · have g9 := GC_bin (c := 10010) (D := D + 1) (hv utc20) (vG_3 q9) (Nat.le_refl _) (Nat.le_refl _) (by decide) (by decide) (by decide)
            have e9 : jnV 10010 v w_5 = 0 := by
              unfold jnV
              simp [c33, c37]
            rw [e9] at g9
            exact g9
        · refine go_iconst (pc' := 41) cx 1 dX6_both4_40 rfl rfl ?_
          refine go_goto cx 45 dX6_both4_41 rfl ?_
          refine go_istore_n (pc' := 46) cx dX6_both4_45 (ltn rfl) [(1, .int 1), (2, .int w_5), (0, .ref (E.2.1 88))] rfl rfl ?_
          refine go_goto cx 5 dX6_both4_46 rfl ?_
          refine go_sub [0, 2] [(1, .int 1), (0, .ref (E.2.1 88))] rfl ?_
          have h9 : lpF (advS (mT R fr) sz) pAn F (k + 1) S = ((lpF (advS (mT R fr) sz) pAn F k (F ((advS (mT R fr) sz) S)).1).1, (F ((advS (mT R fr) sz) S)).2 ++ S.2.2.1 :: (lpF (advS (mT R fr) sz) pAn F k (F ((advS (mT R fr) sz) S)).1).2) := if_pos (by rw [tc20]; rfl)
          rw [h9, tc20] at kk
          have p9 := hP _ aG_1.1
          refine ih (F ((advS (mT R fr) sz) S)).1 (cs ++ (F ((advS (mT R fr) sz) S)).2 ++ [10010]) 1 G_3 z_4 mG_3 (fun q9 => ?_) (fun q9 => ?_) (fun x g1 z1 h1 h2 => kk x g1 z1 h1 (fun q9 => by rw [lp_app]; exact h2 q9))
          · have := hM.lt utc20 (by rw [tc20]; decide)
            have := aG_1.2.2.1 this
            have := p9.2.1
            have := hs utc20
            omega
          · have g9 := GC_bin (c := 10010) (D := D + 1) (hv utc20) (vG_3 q9) (Nat.le_refl _) (Nat.le_refl _) (by decide) (by decide) (by decide)
            have e9 : jnV 10010 v w_5 = 1 := by
              unfold jnV
              simp [c33, c37]
            rw [e9] at g9
            exact g9

set_option maxHeartbeats 1000000 in
set_option maxRecDepth 20000 in
theorem c_X6_both4 (l : Launch) (E : Ev) {g0 : IG} {o : Option Nat} {fr sz : Nat} {R : Nat → Int32} (hC : MCx g0 fr sz R) {F : PF} (hP : Pp (mT R fr) sz F) {D d : Nat} (hd : 4 ≤ d) (hC1 : McC l E o g0 fr sz R 4 yX6_not4 cX6_not4 4 d F D)  : McC l E o g0 fr sz R 4 yX6_both4 cX6_both4 3 (d + 1) (lvF (advS (mT R fr) sz) pAn F) (D + 1) := by
  intro S g z hM
  refine Ct.of (lv0 := [(0, .ref (E.2.1 88))]) (by decide) (Nat.le_of_ble_eq_true rfl) rfl ?_
  intro p e s m below meth c cx
  obtain ⟨hfr, hsz, h26, h27, h89, hT0⟩ := id hC
  refine go_aload_n (pc' := 1) cx dX6_both4_0 rfl rfl ?_
  refine go_cVIz (pc' := 4) cx (hC1 S g z hM) mX6_not4 lX6_273 dX6_both4_1 kq88 (ltn rfl) (ltn rfl) rfl rfl rfl rfl (by omega) (Nat.le_of_ble_eq_true rfl) (Nat.le_of_ble_eq_true rfl) rfl (fun w_3 G_1 z_2 hG_1 => ?_)
  obtain ⟨mG_1, vG_1⟩ := hG_1
  refine go_istore_n (pc' := 5) cx dX6_both4_4 (ltn rfl) [(1, .int w_3), (0, .ref (E.2.1 88))] rfl rfl ?_
  have p9 := hP S hM.2.2.1
  refine both4_loop hC hP hd hC1 cx 160 (F S).1 (F S).2 w_3 G_1 z_2 mG_1 (fun _ => by omega) (fun q9 => (vG_1 q9).mono (Nat.le_succ D)) (fun x g1 z1 h1 h2 => ?_)
  refine go_iload_n (pc' := 50) cx dX6_both4_49 rfl rfl ?_
  refine go_iret cx rfl dX6_both4_50 ?_
  exact ZIz.mk ⟨h1, h2⟩

set_option maxHeartbeats 1000000 in
set_option maxRecDepth 20000 in
theorem either4_loop {l : Launch} {E : Ev} {Z : ZT} {g0 : IG} {o : Option Nat} {p : Program} {e : Env} {s : State} {m : MethodId} {args : Array Value} {below : List Frame} {meth : Method} {c : Code} {fr sz : Nat} {R : Nat → Int32} (hC : MCx g0 fr sz R) {F : PF} (hP : Pp (mT R fr) sz F) {D d : Nat} (hd : 4 ≤ d) (hC1 : McC l E o g0 fr sz R 4 yX6_both4 cX6_both4 3 d F D)  (cx : Cx p s m args meth c E 115 cX6_either4 3 yX6_either4.cls (some .int)) : ∀ (k : Nat) (S : PS) (cs : List Int32) (v : Int32) (g : IG) (z : Int64), MdS g0 fr sz R 4 S g z → (S.2.2.2 = -1 → sz ≤ S.2.1 + k) → (S.2.2.2 = -1 → GC (evM g0) (D + 1) cs v) → (∀ x g1 z1, MdS g0 fr sz R 4 (lpF (advS (mT R fr) sz) pOr F k S).1 g1 z1 → ((lpF (advS (mT R fr) sz) pOr F k S).1.2.2.2 = -1 → GC (evM g0) (D + 1) (cs ++ (lpF (advS (mT R fr) sz) pOr F k S).2) x) → Go p l e (rmd (d + 1)) s m args below meth c E 115 3 Z g1 (RFo o) z1 48 [(1, .int x), (0, .ref (E.2.1 88))] []) → Go p l e (rmd (d + 1)) s m args below meth c E 115 3 Z g (RFo o) z 5 [(1, .int v), (0, .ref (E.2.1 88))] [] := by
  intro k
  induction k with
  | zero =>
    intro S cs v g z hM hs hv kk
    refine go_aload_n (pc' := 6) cx dX6_either4_5 rfl rfl ?_
    refine go_bipush (pc' := 8) cx 111 dX6_either4_6 rfl rfl ?_
    refine go_bipush (pc' := 10) cx 114 dX6_either4_8 rfl rfl ?_
    refine go_iconst (pc' := 11) cx 0 dX6_either4_10 rfl rfl ?_
    refine go_iconst (pc' := 12) cx 0 dX6_either4_11 rfl rfl ?_
    refine go_iconst (pc' := 13) cx 0 dX6_either4_12 rfl rfl ?_
    refine go_iconst (pc' := 14) cx 0 dX6_either4_13 rfl rfl ?_
    refine go_iconst (pc' := 15) cx 0 dX6_either4_14 rfl rfl ?_
    refine go_iconst (pc' := 16) cx 0 dX6_either4_15 rfl rfl ?_
    refine go_cVi (pc' := 19) cx (c_isWord_9 l E hC hM) mX6_isWord lX6_209 dX6_either4_16 kq88 (ltn rfl) (ltn rfl) rfl rfl rfl rfl (by omega) (Nat.le_of_ble_eq_true rfl) (Nat.le_of_ble_eq_true rfl) rfl ?_
    refine go_if_eq (pc' := 22) cx 48 dX6_either4_19 rfl rfl (fun c19 => ?_) (fun c19 => ?_)
    · have h9 : lpF (advS (mT R fr) sz) pOr F 0 S = (S, []) := rfl
      rw [h9] at kk
      exact kk v g z hM (fun q => by rw [show cs ++ ([] : List Int32) = cs from List.append_nil cs]; exact hv q)
    · have t9 : S.2.2.1 = 10009 := one_of c19
      have u9 := hM.2.2.1.un (by rw [t9]; decide)
      exact absurd ((hM.en u9 (hs u9)).symm.trans t9) (by decide)
  | succ k ih =>
    intro S cs v g z hM hs hv kk
    refine go_aload_n (pc' := 6) cx dX6_either4_5 rfl rfl ?_
    refine go_bipush (pc' := 8) cx 111 dX6_either4_6 rfl rfl ?_
    refine go_bipush (pc' := 10) cx 114 dX6_either4_8 rfl rfl ?_
    refine go_iconst (pc' := 11) cx 0 dX6_either4_10 rfl rfl ?_
    refine go_iconst (pc' := 12) cx 0 dX6_either4_11 rfl rfl ?_
    refine go_iconst (pc' := 13) cx 0 dX6_either4_12 rfl rfl ?_
    refine go_iconst (pc' := 14) cx 0 dX6_either4_13 rfl rfl ?_
    refine go_iconst (pc' := 15) cx 0 dX6_either4_14 rfl rfl ?_
    refine go_iconst (pc' := 16) cx 0 dX6_either4_15 rfl rfl ?_
    refine go_cVi (pc' := 19) cx (c_isWord_9 l E hC hM) mX6_isWord lX6_209 dX6_either4_16 kq88 (ltn rfl) (ltn rfl) rfl rfl rfl rfl (by omega) (Nat.le_of_ble_eq_true rfl) (Nat.le_of_ble_eq_true rfl) rfl ?_
    refine go_if_eq (pc' := 22) cx 48 dX6_either4_19 rfl rfl (fun c19 => ?_) (fun c19 => ?_)
    · have h9 : lpF (advS (mT R fr) sz) pOr F (k + 1) S = (S, []) := if_neg (show ¬ pOr S.2.2.1 = true from by unfold pOr; simp only [beq_iff_eq]; exact zero_of c19)
      rw [h9] at kk
      exact kk v g z hM (fun q => by rw [show cs ++ ([] : List Int32) = cs from List.append_nil cs]; exact hv q)
    · have tc19 : S.2.2.1 = 10009 := one_of c19
      have utc19 := hM.2.2.1.un (by rw [tc19]; decide)
      refine go_aload_n (pc' := 23) cx dX6_either4_22 rfl rfl ?_
      have aG_1 := adv_W hM.2.2.1 utc19
      refine go_cVVz (pc' := 26) cx (c_nextM l E hC hM utc19 (by rw [tc19]; decide)) mX6_next lX6_206 dX6_either4_23 kq88 (ltn rfl) (ltn rfl) rfl rfl rfl rfl (by omega) (Nat.le_of_ble_eq_true rfl) (Nat.le_of_ble_eq_true rfl) rfl (fun G_1 z_2 mG_1 => ?_)
      refine go_aload_n (pc' := 27) cx dX6_either4_26 rfl rfl ?_
      refine go_cVIz (pc' := 30) cx (hC1 (advS (mT R fr) sz S) G_1 z_2 mG_1) mX6_both4 lX6_276 dX6_either4_27 kq88 (ltn rfl) (ltn rfl) rfl rfl rfl rfl (by omega) (Nat.le_of_ble_eq_true rfl) (Nat.le_of_ble_eq_true rfl) rfl (fun w_5 G_3 z_4 hG_3 => ?_)
      obtain ⟨mG_3, vG_3⟩ := hG_3
      refine go_istore_n (pc' := 31) cx dX6_either4_30 (ltn rfl) [(2, .int w_5), (1, .int v), (0, .ref (E.2.1 88))] rfl rfl ?_
      refine go_iload_n (pc' := 32) cx dX6_either4_31 rfl rfl ?_
      refine go_if_ne (pc' := 35) cx 39 dX6_either4_32 rfl rfl (fun c32 => ?_) (fun c32 => ?_)
      · refine go_iconst (pc' := 40) cx 1 dX6_either4_39 rfl rfl ?_
        refine go_goto cx 44 dX6_either4_40 rfl ?_
        refine go_istore_n (pc' := 45) cx dX6_either4_44 (ltn rfl) [(1, .int 1), (2, .int w_5), (0, .ref (E.2.1 88))] rfl rfl ?_
        refine go_goto cx 5 dX6_either4_45 rfl ?_
        refine go_sub [0, 2] [(1, .int 1), (0, .ref (E.2.1 88))] rfl ?_
        have h9 : lpF (advS (mT R fr) sz) pOr F (k + 1) S = ((lpF (advS (mT R fr) sz) pOr F k (F ((advS (mT R fr) sz) S)).1).1, (F ((advS (mT R fr) sz) S)).2 ++ S.2.2.1 :: (lpF (advS (mT R fr) sz) pOr F k (F ((advS (mT R fr) sz) S)).1).2) := if_pos (by rw [tc19]; rfl)
        rw [h9, tc19] at kk
        have p9 := hP _ aG_1.1
        refine ih (F ((advS (mT R fr) sz) S)).1 (cs ++ (F ((advS (mT R fr) sz) S)).2 ++ [10009]) 1 G_3 z_4 mG_3 (fun q9 => ?_) (fun q9 => ?_) (fun x g1 z1 h1 h2 => kk x g1 z1 h1 (fun q9 => by rw [lp_app]; exact h2 q9))
        · have := hM.lt utc19 (by rw [tc19]; decide)
          have := aG_1.2.2.1 this
          have := p9.2.1
          have := hs utc19
          omega
        · have g9 := GC_bin (c := 10009) (D := D + 1) (hv utc19) (vG_3 q9) (Nat.le_refl _) (Nat.le_refl _) (by decide) (by decide) (by decide)
          have e9 : jnV 10009 v w_5 = 1 := by
            unfold jnV
            simp [c32]
          rw [e9] at g9
          exact g9
      · refine go_iload_n (pc' := 36) cx dX6_either4_35 rfl rfl ?_
        refine go_if_eq (pc' := 39) cx 43 dX6_either4_36 rfl rfl (fun c36 => ?_) (fun c36 => ?_)
        · refine go_iconst (pc' := 44) cx 0 dX6_either4_43 rfl rfl ?_
          refine go_istore_n (pc' := 45) cx dX6_either4_44 (ltn rfl) [(1, .int 0), (2, .int w_5), (0, .ref (E.2.1 88))] rfl rfl ?_
          refine go_goto cx 5 dX6_either4_45 rfl ?_
          refine go_sub [0, 2] [(1, .int 0), (0, .ref (E.2.1 88))] rfl ?_
          have h9 : lpF (advS (mT R fr) sz) pOr F (k + 1) S = ((lpF (advS (mT R fr) sz) pOr F k (F ((advS (mT R fr) sz) S)).1).1, (F ((advS (mT R fr) sz) S)).2 ++ S.2.2.1 :: (lpF (advS (mT R fr) sz) pOr F k (F ((advS (mT R fr) sz) S)).1).2) := if_pos (by rw [tc19]; rfl)
          rw [h9, tc19] at kk
          have p9 := hP _ aG_1.1
          refine ih (F ((advS (mT R fr) sz) S)).1 (cs ++ (F ((advS (mT R fr) sz) S)).2 ++ [10009]) 0 G_3 z_4 mG_3 (fun q9 => ?_) (fun q9 => ?_) (fun x g1 z1 h1 h2 => kk x g1 z1 h1 (fun q9 => by rw [lp_app]; exact h2 q9))
          · have := hM.lt utc19 (by rw [tc19]; decide)
            have := aG_1.2.2.1 this
            have := p9.2.1
            have := hs utc19
            omega
          · have g9 := GC_bin (c := 10009) (D := D + 1) (hv utc19) (vG_3 q9) (Nat.le_refl _) (Nat.le_refl _) (by decide) (by decide) (by decide)
            have e9 : jnV 10009 v w_5 = 0 := by
              unfold jnV
              simp [c32, c36]
            rw [e9] at g9
            exact g9
        · refine go_iconst (pc' := 40) cx 1 dX6_either4_39 rfl rfl ?_
          refine go_goto cx 44 dX6_either4_40 rfl ?_
          refine go_istore_n (pc' := 45) cx dX6_either4_44 (ltn rfl) [(1, .int 1), (2, .int w_5), (0, .ref (E.2.1 88))] rfl rfl ?_
          refine go_goto cx 5 dX6_either4_45 rfl ?_
          refine go_sub [0, 2] [(1, .int 1), (0, .ref (E.2.1 88))] rfl ?_
          have h9 : lpF (advS (mT R fr) sz) pOr F (k + 1) S = ((lpF (advS (mT R fr) sz) pOr F k (F ((advS (mT R fr) sz) S)).1).1, (F ((advS (mT R fr) sz) S)).2 ++ S.2.2.1 :: (lpF (advS (mT R fr) sz) pOr F k (F ((advS (mT R fr) sz) S)).1).2) := if_pos (by rw [tc19]; rfl)
          rw [h9, tc19] at kk
          have p9 := hP _ aG_1.1
          refine ih (F ((advS (mT R fr) sz) S)).1 (cs ++ (F ((advS (mT R fr) sz) S)).2 ++ [10009]) 1 G_3 z_4 mG_3 (fun q9 => ?_) (fun q9 => ?_) (fun x g1 z1 h1 h2 => kk x g1 z1 h1 (fun q9 => by rw [lp_app]; exact h2 q9))
          · have := hM.lt utc19 (by rw [tc19]; decide)
            have := aG_1.2.2.1 this
            have := p9.2.1
            have := hs utc19
            omega
          · have g9 := GC_bin (c := 10009) (D := D + 1) (hv utc19) (vG_3 q9) (Nat.le_refl _) (Nat.le_refl _) (by decide) (by decide) (by decide)
            have e9 : jnV 10009 v w_5 = 1 := by
              unfold jnV
              simp [c32, c36]
            rw [e9] at g9
            exact g9

set_option maxHeartbeats 1000000 in
set_option maxRecDepth 20000 in
theorem c_X6_either4 (l : Launch) (E : Ev) {g0 : IG} {o : Option Nat} {fr sz : Nat} {R : Nat → Int32} (hC : MCx g0 fr sz R) {F : PF} (hP : Pp (mT R fr) sz F) {D d : Nat} (hd : 4 ≤ d) (hC1 : McC l E o g0 fr sz R 4 yX6_both4 cX6_both4 3 d F D)  : McC l E o g0 fr sz R 4 yX6_either4 cX6_either4 3 (d + 1) (lvF (advS (mT R fr) sz) pOr F) (D + 1) := by
  intro S g z hM
  refine Ct.of (lv0 := [(0, .ref (E.2.1 88))]) (by decide) (Nat.le_of_ble_eq_true rfl) rfl ?_
  intro p e s m below meth c cx
  obtain ⟨hfr, hsz, h26, h27, h89, hT0⟩ := id hC
  refine go_aload_n (pc' := 1) cx dX6_either4_0 rfl rfl ?_
  refine go_cVIz (pc' := 4) cx (hC1 S g z hM) mX6_both4 lX6_276 dX6_either4_1 kq88 (ltn rfl) (ltn rfl) rfl rfl rfl rfl (by omega) (Nat.le_of_ble_eq_true rfl) (Nat.le_of_ble_eq_true rfl) rfl (fun w_3 G_1 z_2 hG_1 => ?_)
  obtain ⟨mG_1, vG_1⟩ := hG_1
  refine go_istore_n (pc' := 5) cx dX6_either4_4 (ltn rfl) [(1, .int w_3), (0, .ref (E.2.1 88))] rfl rfl ?_
  have p9 := hP S hM.2.2.1
  refine either4_loop hC hP hd hC1 cx 160 (F S).1 (F S).2 w_3 G_1 z_2 mG_1 (fun _ => by omega) (fun q9 => (vG_1 q9).mono (Nat.le_succ D)) (fun x g1 z1 h1 h2 => ?_)
  refine go_iload_n (pc' := 49) cx dX6_either4_48 rfl rfl ?_
  refine go_iret cx rfl dX6_either4_49 ?_
  exact ZIz.mk ⟨h1, h2⟩

set_option maxHeartbeats 1000000 in
set_option maxRecDepth 20000 in
theorem term5_loop {l : Launch} {E : Ev} {Z : ZT} {g0 : IG} {o : Option Nat} {p : Program} {e : Env} {s : State} {m : MethodId} {args : Array Value} {below : List Frame} {meth : Method} {c : Code} {fr sz : Nat} {R : Nat → Int32} (hC : MCx g0 fr sz R) {F : PF} (hP : Pp (mT R fr) sz F) {D d : Nat} (hd : 4 ≤ d) (hC1 : McC l E o g0 fr sz R 5 yX6_atom5 cX6_atom5 2 d F D)  (cx : Cx p s m args meth c E 115 cX6_term5 2 yX6_term5.cls (some .int)) : ∀ (k : Nat) (S : PS) (cs : List Int32) (v : Int32) (g : IG) (z : Int64), MdS g0 fr sz R 5 S g z → (S.2.2.2 = -1 → sz ≤ S.2.1 + k) → (S.2.2.2 = -1 → GC (evM g0) (D + 1) cs v) → (∀ x g1 z1, MdS g0 fr sz R 5 (lpF (advS (mT R fr) sz) pTe F k S).1 g1 z1 → ((lpF (advS (mT R fr) sz) pTe F k S).1.2.2.2 = -1 → GC (evM g0) (D + 1) (cs ++ (lpF (advS (mT R fr) sz) pTe F k S).2) x) → Go p l e (rmd (d + 1)) s m args below meth c E 115 2 Z g1 (RFo o) z1 28 [(1, .int x), (0, .ref (E.2.1 88))] []) → Go p l e (rmd (d + 1)) s m args below meth c E 115 2 Z g (RFo o) z 5 [(1, .int v), (0, .ref (E.2.1 88))] [] := by
  intro k
  induction k with
  | zero =>
    intro S cs v g z hM hs hv kk
    refine go_aload_n (pc' := 6) cx dX6_term5_5 rfl rfl ?_
    refine go_bipush (pc' := 8) cx 42 dX6_term5_6 rfl rfl ?_
    refine go_cVi (pc' := 11) cx (c_isSign_42 l E hC hM) mX6_isSign lX6_231 dX6_term5_8 kq88 (ltn rfl) (ltn rfl) rfl rfl rfl rfl (by omega) (Nat.le_of_ble_eq_true rfl) (Nat.le_of_ble_eq_true rfl) rfl ?_
    refine go_if_eq (pc' := 14) cx 28 dX6_term5_11 rfl rfl (fun c11 => ?_) (fun c11 => ?_)
    · have h9 : lpF (advS (mT R fr) sz) pTe F 0 S = (S, []) := rfl
      rw [h9] at kk
      exact kk v g z hM (fun q => by rw [show cs ++ ([] : List Int32) = cs from List.append_nil cs]; exact hv q)
    · have t9 : S.2.2.1 = 10017 := one_of c11
      have u9 := hM.2.2.1.un (by rw [t9]; decide)
      exact absurd ((hM.en u9 (hs u9)).symm.trans t9) (by decide)
  | succ k ih =>
    intro S cs v g z hM hs hv kk
    refine go_aload_n (pc' := 6) cx dX6_term5_5 rfl rfl ?_
    refine go_bipush (pc' := 8) cx 42 dX6_term5_6 rfl rfl ?_
    refine go_cVi (pc' := 11) cx (c_isSign_42 l E hC hM) mX6_isSign lX6_231 dX6_term5_8 kq88 (ltn rfl) (ltn rfl) rfl rfl rfl rfl (by omega) (Nat.le_of_ble_eq_true rfl) (Nat.le_of_ble_eq_true rfl) rfl ?_
    refine go_if_eq (pc' := 14) cx 28 dX6_term5_11 rfl rfl (fun c11 => ?_) (fun c11 => ?_)
    · have h9 : lpF (advS (mT R fr) sz) pTe F (k + 1) S = (S, []) := if_neg (show ¬ pTe S.2.2.1 = true from by unfold pTe; simp only [beq_iff_eq]; exact zero_of c11)
      rw [h9] at kk
      exact kk v g z hM (fun q => by rw [show cs ++ ([] : List Int32) = cs from List.append_nil cs]; exact hv q)
    · have tc11 : S.2.2.1 = 10017 := one_of c11
      have utc11 := hM.2.2.1.un (by rw [tc11]; decide)
      refine go_aload_n (pc' := 15) cx dX6_term5_14 rfl rfl ?_
      have aG_1 := adv_W hM.2.2.1 utc11
      refine go_cVVz (pc' := 18) cx (c_nextM l E hC hM utc11 (by rw [tc11]; decide)) mX6_next lX6_206 dX6_term5_15 kq88 (ltn rfl) (ltn rfl) rfl rfl rfl rfl (by omega) (Nat.le_of_ble_eq_true rfl) (Nat.le_of_ble_eq_true rfl) rfl (fun G_1 z_2 mG_1 => ?_)
      refine go_iload_n (pc' := 19) cx dX6_term5_18 rfl rfl ?_
      refine go_aload_n (pc' := 20) cx dX6_term5_19 rfl rfl ?_
      refine go_cVIz (pc' := 23) cx (hC1 (advS (mT R fr) sz S) G_1 z_2 mG_1) mX6_atom5 lX6_242 dX6_term5_20 kq88 (ltn rfl) (ltn rfl) rfl rfl rfl rfl (by omega) (Nat.le_of_ble_eq_true rfl) (Nat.le_of_ble_eq_true rfl) rfl (fun w_5 G_3 z_4 hG_3 => ?_)
      obtain ⟨mG_3, vG_3⟩ := hG_3
      refine go_imul (pc' := 24) cx dX6_term5_23 rfl ?_
      refine go_istore_n (pc' := 25) cx dX6_term5_24 (ltn rfl) [(1, .int (v * w_5)), (0, .ref (E.2.1 88))] rfl rfl ?_
      refine go_goto cx 5 dX6_term5_25 rfl ?_
      have h9 : lpF (advS (mT R fr) sz) pTe F (k + 1) S = ((lpF (advS (mT R fr) sz) pTe F k (F ((advS (mT R fr) sz) S)).1).1, (F ((advS (mT R fr) sz) S)).2 ++ S.2.2.1 :: (lpF (advS (mT R fr) sz) pTe F k (F ((advS (mT R fr) sz) S)).1).2) := if_pos (by rw [tc11]; rfl)
      rw [h9, tc11] at kk
      have p9 := hP _ aG_1.1
      refine ih (F ((advS (mT R fr) sz) S)).1 (cs ++ (F ((advS (mT R fr) sz) S)).2 ++ [10017]) (v * w_5) G_3 z_4 mG_3 (fun q9 => ?_) (fun q9 => ?_) (fun x g1 z1 h1 h2 => kk x g1 z1 h1 (fun q9 => by rw [lp_app]; exact h2 q9))
      · have := hM.lt utc11 (by rw [tc11]; decide)
        have := aG_1.2.2.1 this
        have := p9.2.1
        have := hs utc11
        omega
      · have g9 := GC_bin (c := 10017) (D := D + 1) (hv utc11) (vG_3 q9) (Nat.le_refl _) (Nat.le_refl _) (by decide) (by decide) (by decide)
        rw [jn_te] at g9
        exact g9

set_option maxHeartbeats 1000000 in
set_option maxRecDepth 20000 in
theorem c_X6_term5 (l : Launch) (E : Ev) {g0 : IG} {o : Option Nat} {fr sz : Nat} {R : Nat → Int32} (hC : MCx g0 fr sz R) {F : PF} (hP : Pp (mT R fr) sz F) {D d : Nat} (hd : 4 ≤ d) (hC1 : McC l E o g0 fr sz R 5 yX6_atom5 cX6_atom5 2 d F D)  : McC l E o g0 fr sz R 5 yX6_term5 cX6_term5 2 (d + 1) (lvF (advS (mT R fr) sz) pTe F) (D + 1) := by
  intro S g z hM
  refine Ct.of (lv0 := [(0, .ref (E.2.1 88))]) (by decide) (Nat.le_of_ble_eq_true rfl) rfl ?_
  intro p e s m below meth c cx
  obtain ⟨hfr, hsz, h26, h27, h89, hT0⟩ := id hC
  refine go_aload_n (pc' := 1) cx dX6_term5_0 rfl rfl ?_
  refine go_cVIz (pc' := 4) cx (hC1 S g z hM) mX6_atom5 lX6_242 dX6_term5_1 kq88 (ltn rfl) (ltn rfl) rfl rfl rfl rfl (by omega) (Nat.le_of_ble_eq_true rfl) (Nat.le_of_ble_eq_true rfl) rfl (fun w_3 G_1 z_2 hG_1 => ?_)
  obtain ⟨mG_1, vG_1⟩ := hG_1
  refine go_istore_n (pc' := 5) cx dX6_term5_4 (ltn rfl) [(1, .int w_3), (0, .ref (E.2.1 88))] rfl rfl ?_
  have p9 := hP S hM.2.2.1
  refine term5_loop hC hP hd hC1 cx 160 (F S).1 (F S).2 w_3 G_1 z_2 mG_1 (fun _ => by omega) (fun q9 => (vG_1 q9).mono (Nat.le_succ D)) (fun x g1 z1 h1 h2 => ?_)
  refine go_iload_n (pc' := 29) cx dX6_term5_28 rfl rfl ?_
  refine go_iret cx rfl dX6_term5_29 ?_
  exact ZIz.mk ⟨h1, h2⟩

set_option maxHeartbeats 1000000 in
set_option maxRecDepth 20000 in
theorem added5_loop {l : Launch} {E : Ev} {Z : ZT} {g0 : IG} {o : Option Nat} {p : Program} {e : Env} {s : State} {m : MethodId} {args : Array Value} {below : List Frame} {meth : Method} {c : Code} {fr sz : Nat} {R : Nat → Int32} (hC : MCx g0 fr sz R) {F : PF} (hP : Pp (mT R fr) sz F) {D d : Nat} (hd : 4 ≤ d) (hC1 : McC l E o g0 fr sz R 5 yX6_term5 cX6_term5 2 d F D)  (cx : Cx p s m args meth c E 115 cX6_added5 4 yX6_added5.cls (some .int)) : ∀ (k : Nat) (S : PS) (cs : List Int32) (v : Int32) (g : IG) (z : Int64), MdS g0 fr sz R 5 S g z → (S.2.2.2 = -1 → sz ≤ S.2.1 + k) → (S.2.2.2 = -1 → GC (evM g0) (D + 1) cs v) → (∀ x g1 z1, MdS g0 fr sz R 5 (lpF (advS (mT R fr) sz) pSu F k S).1 g1 z1 → ((lpF (advS (mT R fr) sz) pSu F k S).1.2.2.2 = -1 → GC (evM g0) (D + 1) (cs ++ (lpF (advS (mT R fr) sz) pSu F k S).2) x) → Go p l e (rmd (d + 1)) s m args below meth c E 115 4 Z g1 (RFo o) z1 66 [(1, .int x), (0, .ref (E.2.1 88))] []) → Go p l e (rmd (d + 1)) s m args below meth c E 115 4 Z g (RFo o) z 5 [(1, .int v), (0, .ref (E.2.1 88))] [] := by
  intro k
  induction k with
  | zero =>
    intro S cs v g z hM hs hv kk
    refine go_aload_n (pc' := 6) cx dX6_added5_5 rfl rfl ?_
    refine go_bipush (pc' := 8) cx 43 dX6_added5_6 rfl rfl ?_
    refine go_cVi (pc' := 11) cx (c_isSign_43 l E hC hM) mX6_isSign lX6_231 dX6_added5_8 kq88 (ltn rfl) (ltn rfl) rfl rfl rfl rfl (by omega) (Nat.le_of_ble_eq_true rfl) (Nat.le_of_ble_eq_true rfl) rfl ?_
    refine go_if_ne (pc' := 14) cx 23 dX6_added5_11 rfl rfl (fun c11 => ?_) (fun c11 => ?_)
    · have t9 : S.2.2.1 = 10015 := one_of c11
      have u9 := hM.2.2.1.un (by rw [t9]; decide)
      exact absurd ((hM.en u9 (hs u9)).symm.trans t9) (by decide)
    · refine go_aload_n (pc' := 15) cx dX6_added5_14 rfl rfl ?_
      refine go_bipush (pc' := 17) cx 45 dX6_added5_15 rfl rfl ?_
      refine go_cVi (pc' := 20) cx (c_isSign_45 l E hC hM) mX6_isSign lX6_231 dX6_added5_17 kq88 (ltn rfl) (ltn rfl) rfl rfl rfl rfl (by omega) (Nat.le_of_ble_eq_true rfl) (Nat.le_of_ble_eq_true rfl) rfl ?_
      refine go_if_eq (pc' := 23) cx 66 dX6_added5_20 rfl rfl (fun c20 => ?_) (fun c20 => ?_)
      · have h9 : lpF (advS (mT R fr) sz) pSu F 0 S = (S, []) := rfl
        rw [h9] at kk
        exact kk v g z hM (fun q => by rw [show cs ++ ([] : List Int32) = cs from List.append_nil cs]; exact hv q)
      · have t9 : S.2.2.1 = 10016 := one_of c20
        have u9 := hM.2.2.1.un (by rw [t9]; decide)
        exact absurd ((hM.en u9 (hs u9)).symm.trans t9) (by decide)
  | succ k ih =>
    intro S cs v g z hM hs hv kk
    refine go_aload_n (pc' := 6) cx dX6_added5_5 rfl rfl ?_
    refine go_bipush (pc' := 8) cx 43 dX6_added5_6 rfl rfl ?_
    refine go_cVi (pc' := 11) cx (c_isSign_43 l E hC hM) mX6_isSign lX6_231 dX6_added5_8 kq88 (ltn rfl) (ltn rfl) rfl rfl rfl rfl (by omega) (Nat.le_of_ble_eq_true rfl) (Nat.le_of_ble_eq_true rfl) rfl ?_
    refine go_if_ne (pc' := 14) cx 23 dX6_added5_11 rfl rfl (fun c11 => ?_) (fun c11 => ?_)
    · have tc11 : S.2.2.1 = 10015 := one_of c11
      have utc11 := hM.2.2.1.un (by rw [tc11]; decide)
      refine go_aload_n (pc' := 24) cx dX6_added5_23 rfl rfl ?_
      refine go_getl (N := 56) (pc' := 27) cx fX6_186 dX6_added5_24 (ltn rfl) rfl ?_
      refine go_ldc2 (pc' := 30) cx 43 kX6_248 dX6_added5_27 rfl ?_
      refine go_val (w := .long (((43 : Int32)).toInt64)) (congrArg Value.long (by decide)) ?_
      refine go_lcmp (pc' := 31) cx dX6_added5_30 rfl ?_
      refine go_if_ne (pc' := 34) cx 38 dX6_added5_31 rfl rfl (fun hh => absurd hh (by rw [wth_10015 hM utc11 tc11]; decide)) (fun _ => ?_)
      refine go_iconst (pc' := 35) cx 1 dX6_added5_34 rfl rfl ?_
      refine go_goto cx 39 dX6_added5_35 rfl ?_
      refine go_istore_n (pc' := 40) cx dX6_added5_39 (ltn rfl) [(2, .int 1), (1, .int v), (0, .ref (E.2.1 88))] rfl rfl ?_
      refine go_aload_n (pc' := 41) cx dX6_added5_40 rfl rfl ?_
      have aG_1 := adv_W hM.2.2.1 utc11
      refine go_cVVz (pc' := 44) cx (c_nextM l E hC hM utc11 (by rw [tc11]; decide)) mX6_next lX6_206 dX6_added5_41 kq88 (ltn rfl) (ltn rfl) rfl rfl rfl rfl (by omega) (Nat.le_of_ble_eq_true rfl) (Nat.le_of_ble_eq_true rfl) rfl (fun G_1 z_2 mG_1 => ?_)
      refine go_aload_n (pc' := 45) cx dX6_added5_44 rfl rfl ?_
      refine go_cVIz (pc' := 48) cx (hC1 (advS (mT R fr) sz S) G_1 z_2 mG_1) mX6_term5 lX6_245 dX6_added5_45 kq88 (ltn rfl) (ltn rfl) rfl rfl rfl rfl (by omega) (Nat.le_of_ble_eq_true rfl) (Nat.le_of_ble_eq_true rfl) rfl (fun w_5 G_3 z_4 hG_3 => ?_)
      obtain ⟨mG_3, vG_3⟩ := hG_3
      refine go_istore_n (pc' := 49) cx dX6_added5_48 (ltn rfl) [(3, .int w_5), (2, .int 1), (1, .int v), (0, .ref (E.2.1 88))] rfl rfl ?_
      refine go_iload_n (pc' := 50) cx dX6_added5_49 rfl rfl ?_
      refine go_if_eq (pc' := 53) cx 59 dX6_added5_50 rfl rfl (fun hh => absurd hh (by decide)) (fun _ => ?_)
      refine go_iload_n (pc' := 54) cx dX6_added5_53 rfl rfl ?_
      refine go_iload_n (pc' := 55) cx dX6_added5_54 rfl rfl ?_
      refine go_iadd (pc' := 56) cx dX6_added5_55 rfl ?_
      refine go_goto cx 62 dX6_added5_56 rfl ?_
      refine go_istore_n (pc' := 63) cx dX6_added5_62 (ltn rfl) [(1, .int (v + w_5)), (3, .int w_5), (2, .int 1), (0, .ref (E.2.1 88))] rfl rfl ?_
      refine go_goto cx 5 dX6_added5_63 rfl ?_
      refine go_sub [0, 3] [(1, .int (v + w_5)), (0, .ref (E.2.1 88))] rfl ?_
      have h9 : lpF (advS (mT R fr) sz) pSu F (k + 1) S = ((lpF (advS (mT R fr) sz) pSu F k (F ((advS (mT R fr) sz) S)).1).1, (F ((advS (mT R fr) sz) S)).2 ++ S.2.2.1 :: (lpF (advS (mT R fr) sz) pSu F k (F ((advS (mT R fr) sz) S)).1).2) := if_pos (by rw [tc11]; rfl)
      rw [h9, tc11] at kk
      have p9 := hP _ aG_1.1
      refine ih (F ((advS (mT R fr) sz) S)).1 (cs ++ (F ((advS (mT R fr) sz) S)).2 ++ [10015]) (v + w_5) G_3 z_4 mG_3 (fun q9 => ?_) (fun q9 => ?_) (fun x g1 z1 h1 h2 => kk x g1 z1 h1 (fun q9 => by rw [lp_app]; exact h2 q9))
      · have := hM.lt utc11 (by rw [tc11]; decide)
        have := aG_1.2.2.1 this
        have := p9.2.1
        have := hs utc11
        omega
      · have g9 := GC_bin (c := 10015) (D := D + 1) (hv utc11) (vG_3 q9) (Nat.le_refl _) (Nat.le_refl _) (by decide) (by decide) (by decide)
        rw [jn_pl] at g9
        exact g9
    · refine go_aload_n (pc' := 15) cx dX6_added5_14 rfl rfl ?_
      refine go_bipush (pc' := 17) cx 45 dX6_added5_15 rfl rfl ?_
      refine go_cVi (pc' := 20) cx (c_isSign_45 l E hC hM) mX6_isSign lX6_231 dX6_added5_17 kq88 (ltn rfl) (ltn rfl) rfl rfl rfl rfl (by omega) (Nat.le_of_ble_eq_true rfl) (Nat.le_of_ble_eq_true rfl) rfl ?_
      refine go_if_eq (pc' := 23) cx 66 dX6_added5_20 rfl rfl (fun c20 => ?_) (fun c20 => ?_)
      · have h9 : lpF (advS (mT R fr) sz) pSu F (k + 1) S = (S, []) := if_neg (show ¬ pSu S.2.2.1 = true from by unfold pSu; simp only [Bool.or_eq_true, beq_iff_eq]; exact fun q => q.elim (zero_of c11) (zero_of c20))
        rw [h9] at kk
        exact kk v g z hM (fun q => by rw [show cs ++ ([] : List Int32) = cs from List.append_nil cs]; exact hv q)
      · have tc20 : S.2.2.1 = 10016 := one_of c20
        have utc20 := hM.2.2.1.un (by rw [tc20]; decide)
        refine go_aload_n (pc' := 24) cx dX6_added5_23 rfl rfl ?_
        refine go_getl (N := 56) (pc' := 27) cx fX6_186 dX6_added5_24 (ltn rfl) rfl ?_
        refine go_ldc2 (pc' := 30) cx 43 kX6_248 dX6_added5_27 rfl ?_
        refine go_val (w := .long (((43 : Int32)).toInt64)) (congrArg Value.long (by decide)) ?_
        refine go_lcmp (pc' := 31) cx dX6_added5_30 rfl ?_
        refine go_if_ne (pc' := 34) cx 38 dX6_added5_31 rfl rfl (fun _ => ?_) (fun hh => absurd hh (by rw [wth_10016 hM utc20 tc20]; decide))
        refine go_iconst (pc' := 39) cx 0 dX6_added5_38 rfl rfl ?_
        refine go_istore_n (pc' := 40) cx dX6_added5_39 (ltn rfl) [(2, .int 0), (1, .int v), (0, .ref (E.2.1 88))] rfl rfl ?_
        refine go_aload_n (pc' := 41) cx dX6_added5_40 rfl rfl ?_
        have aG_6 := adv_W hM.2.2.1 utc20
        refine go_cVVz (pc' := 44) cx (c_nextM l E hC hM utc20 (by rw [tc20]; decide)) mX6_next lX6_206 dX6_added5_41 kq88 (ltn rfl) (ltn rfl) rfl rfl rfl rfl (by omega) (Nat.le_of_ble_eq_true rfl) (Nat.le_of_ble_eq_true rfl) rfl (fun G_6 z_7 mG_6 => ?_)
        refine go_aload_n (pc' := 45) cx dX6_added5_44 rfl rfl ?_
        refine go_cVIz (pc' := 48) cx (hC1 (advS (mT R fr) sz S) G_6 z_7 mG_6) mX6_term5 lX6_245 dX6_added5_45 kq88 (ltn rfl) (ltn rfl) rfl rfl rfl rfl (by omega) (Nat.le_of_ble_eq_true rfl) (Nat.le_of_ble_eq_true rfl) rfl (fun w_10 G_8 z_9 hG_8 => ?_)
        obtain ⟨mG_8, vG_8⟩ := hG_8
        refine go_istore_n (pc' := 49) cx dX6_added5_48 (ltn rfl) [(3, .int w_10), (2, .int 0), (1, .int v), (0, .ref (E.2.1 88))] rfl rfl ?_
        refine go_iload_n (pc' := 50) cx dX6_added5_49 rfl rfl ?_
        refine go_if_eq (pc' := 53) cx 59 dX6_added5_50 rfl rfl (fun _ => ?_) (fun hh => absurd hh (by decide))
        refine go_iload_n (pc' := 60) cx dX6_added5_59 rfl rfl ?_
        refine go_iload_n (pc' := 61) cx dX6_added5_60 rfl rfl ?_
        refine go_isub (pc' := 62) cx dX6_added5_61 rfl ?_
        refine go_istore_n (pc' := 63) cx dX6_added5_62 (ltn rfl) [(1, .int (v - w_10)), (3, .int w_10), (2, .int 0), (0, .ref (E.2.1 88))] rfl rfl ?_
        refine go_goto cx 5 dX6_added5_63 rfl ?_
        refine go_sub [0, 3] [(1, .int (v - w_10)), (0, .ref (E.2.1 88))] rfl ?_
        have h9 : lpF (advS (mT R fr) sz) pSu F (k + 1) S = ((lpF (advS (mT R fr) sz) pSu F k (F ((advS (mT R fr) sz) S)).1).1, (F ((advS (mT R fr) sz) S)).2 ++ S.2.2.1 :: (lpF (advS (mT R fr) sz) pSu F k (F ((advS (mT R fr) sz) S)).1).2) := if_pos (by rw [tc20]; rfl)
        rw [h9, tc20] at kk
        have p9 := hP _ aG_6.1
        refine ih (F ((advS (mT R fr) sz) S)).1 (cs ++ (F ((advS (mT R fr) sz) S)).2 ++ [10016]) (v - w_10) G_8 z_9 mG_8 (fun q9 => ?_) (fun q9 => ?_) (fun x g1 z1 h1 h2 => kk x g1 z1 h1 (fun q9 => by rw [lp_app]; exact h2 q9))
        · have := hM.lt utc20 (by rw [tc20]; decide)
          have := aG_6.2.2.1 this
          have := p9.2.1
          have := hs utc20
          omega
        · have g9 := GC_bin (c := 10016) (D := D + 1) (hv utc20) (vG_8 q9) (Nat.le_refl _) (Nat.le_refl _) (by decide) (by decide) (by decide)
          rw [jn_mi] at g9
          exact g9

set_option maxHeartbeats 1000000 in
set_option maxRecDepth 20000 in
theorem c_X6_added5 (l : Launch) (E : Ev) {g0 : IG} {o : Option Nat} {fr sz : Nat} {R : Nat → Int32} (hC : MCx g0 fr sz R) {F : PF} (hP : Pp (mT R fr) sz F) {D d : Nat} (hd : 4 ≤ d) (hC1 : McC l E o g0 fr sz R 5 yX6_term5 cX6_term5 2 d F D)  : McC l E o g0 fr sz R 5 yX6_added5 cX6_added5 4 (d + 1) (lvF (advS (mT R fr) sz) pSu F) (D + 1) := by
  intro S g z hM
  refine Ct.of (lv0 := [(0, .ref (E.2.1 88))]) (by decide) (Nat.le_of_ble_eq_true rfl) rfl ?_
  intro p e s m below meth c cx
  obtain ⟨hfr, hsz, h26, h27, h89, hT0⟩ := id hC
  refine go_aload_n (pc' := 1) cx dX6_added5_0 rfl rfl ?_
  refine go_cVIz (pc' := 4) cx (hC1 S g z hM) mX6_term5 lX6_245 dX6_added5_1 kq88 (ltn rfl) (ltn rfl) rfl rfl rfl rfl (by omega) (Nat.le_of_ble_eq_true rfl) (Nat.le_of_ble_eq_true rfl) rfl (fun w_3 G_1 z_2 hG_1 => ?_)
  obtain ⟨mG_1, vG_1⟩ := hG_1
  refine go_istore_n (pc' := 5) cx dX6_added5_4 (ltn rfl) [(1, .int w_3), (0, .ref (E.2.1 88))] rfl rfl ?_
  have p9 := hP S hM.2.2.1
  refine added5_loop hC hP hd hC1 cx 160 (F S).1 (F S).2 w_3 G_1 z_2 mG_1 (fun _ => by omega) (fun q9 => (vG_1 q9).mono (Nat.le_succ D)) (fun x g1 z1 h1 h2 => ?_)
  refine go_iload_n (pc' := 67) cx dX6_added5_66 rfl rfl ?_
  refine go_iret cx rfl dX6_added5_67 ?_
  exact ZIz.mk ⟨h1, h2⟩

set_option maxHeartbeats 1000000 in
set_option maxRecDepth 20000 in
theorem both5_loop {l : Launch} {E : Ev} {Z : ZT} {g0 : IG} {o : Option Nat} {p : Program} {e : Env} {s : State} {m : MethodId} {args : Array Value} {below : List Frame} {meth : Method} {c : Code} {fr sz : Nat} {R : Nat → Int32} (hC : MCx g0 fr sz R) {F : PF} (hP : Pp (mT R fr) sz F) {D d : Nat} (hd : 4 ≤ d) (hC1 : McC l E o g0 fr sz R 5 yX6_not5 cX6_not5 4 d F D)  (cx : Cx p s m args meth c E 115 cX6_both5 3 yX6_both5.cls (some .int)) : ∀ (k : Nat) (S : PS) (cs : List Int32) (v : Int32) (g : IG) (z : Int64), MdS g0 fr sz R 5 S g z → (S.2.2.2 = -1 → sz ≤ S.2.1 + k) → (S.2.2.2 = -1 → GC (evM g0) (D + 1) cs v) → (∀ x g1 z1, MdS g0 fr sz R 5 (lpF (advS (mT R fr) sz) pAn F k S).1 g1 z1 → ((lpF (advS (mT R fr) sz) pAn F k S).1.2.2.2 = -1 → GC (evM g0) (D + 1) (cs ++ (lpF (advS (mT R fr) sz) pAn F k S).2) x) → Go p l e (rmd (d + 1)) s m args below meth c E 115 3 Z g1 (RFo o) z1 49 [(1, .int x), (0, .ref (E.2.1 88))] []) → Go p l e (rmd (d + 1)) s m args below meth c E 115 3 Z g (RFo o) z 5 [(1, .int v), (0, .ref (E.2.1 88))] [] := by
  intro k
  induction k with
  | zero =>
    intro S cs v g z hM hs hv kk
    refine go_aload_n (pc' := 6) cx dX6_both5_5 rfl rfl ?_
    refine go_bipush (pc' := 8) cx 97 dX6_both5_6 rfl rfl ?_
    refine go_bipush (pc' := 10) cx 110 dX6_both5_8 rfl rfl ?_
    refine go_bipush (pc' := 12) cx 100 dX6_both5_10 rfl rfl ?_
    refine go_iconst (pc' := 13) cx 0 dX6_both5_12 rfl rfl ?_
    refine go_iconst (pc' := 14) cx 0 dX6_both5_13 rfl rfl ?_
    refine go_iconst (pc' := 15) cx 0 dX6_both5_14 rfl rfl ?_
    refine go_iconst (pc' := 16) cx 0 dX6_both5_15 rfl rfl ?_
    refine go_iconst (pc' := 17) cx 0 dX6_both5_16 rfl rfl ?_
    refine go_cVi (pc' := 20) cx (c_isWord_10 l E hC hM) mX6_isWord lX6_209 dX6_both5_17 kq88 (ltn rfl) (ltn rfl) rfl rfl rfl rfl (by omega) (Nat.le_of_ble_eq_true rfl) (Nat.le_of_ble_eq_true rfl) rfl ?_
    refine go_if_eq (pc' := 23) cx 49 dX6_both5_20 rfl rfl (fun c20 => ?_) (fun c20 => ?_)
    · have h9 : lpF (advS (mT R fr) sz) pAn F 0 S = (S, []) := rfl
      rw [h9] at kk
      exact kk v g z hM (fun q => by rw [show cs ++ ([] : List Int32) = cs from List.append_nil cs]; exact hv q)
    · have t9 : S.2.2.1 = 10010 := one_of c20
      have u9 := hM.2.2.1.un (by rw [t9]; decide)
      exact absurd ((hM.en u9 (hs u9)).symm.trans t9) (by decide)
  | succ k ih =>
    intro S cs v g z hM hs hv kk
    refine go_aload_n (pc' := 6) cx dX6_both5_5 rfl rfl ?_
    refine go_bipush (pc' := 8) cx 97 dX6_both5_6 rfl rfl ?_
    refine go_bipush (pc' := 10) cx 110 dX6_both5_8 rfl rfl ?_
    refine go_bipush (pc' := 12) cx 100 dX6_both5_10 rfl rfl ?_
    refine go_iconst (pc' := 13) cx 0 dX6_both5_12 rfl rfl ?_
    refine go_iconst (pc' := 14) cx 0 dX6_both5_13 rfl rfl ?_
    refine go_iconst (pc' := 15) cx 0 dX6_both5_14 rfl rfl ?_
    refine go_iconst (pc' := 16) cx 0 dX6_both5_15 rfl rfl ?_
    refine go_iconst (pc' := 17) cx 0 dX6_both5_16 rfl rfl ?_
    refine go_cVi (pc' := 20) cx (c_isWord_10 l E hC hM) mX6_isWord lX6_209 dX6_both5_17 kq88 (ltn rfl) (ltn rfl) rfl rfl rfl rfl (by omega) (Nat.le_of_ble_eq_true rfl) (Nat.le_of_ble_eq_true rfl) rfl ?_
    refine go_if_eq (pc' := 23) cx 49 dX6_both5_20 rfl rfl (fun c20 => ?_) (fun c20 => ?_)
    · have h9 : lpF (advS (mT R fr) sz) pAn F (k + 1) S = (S, []) := if_neg (show ¬ pAn S.2.2.1 = true from by unfold pAn; simp only [beq_iff_eq]; exact zero_of c20)
      rw [h9] at kk
      exact kk v g z hM (fun q => by rw [show cs ++ ([] : List Int32) = cs from List.append_nil cs]; exact hv q)
    · have tc20 : S.2.2.1 = 10010 := one_of c20
      have utc20 := hM.2.2.1.un (by rw [tc20]; decide)
      refine go_aload_n (pc' := 24) cx dX6_both5_23 rfl rfl ?_
      have aG_1 := adv_W hM.2.2.1 utc20
      refine go_cVVz (pc' := 27) cx (c_nextM l E hC hM utc20 (by rw [tc20]; decide)) mX6_next lX6_206 dX6_both5_24 kq88 (ltn rfl) (ltn rfl) rfl rfl rfl rfl (by omega) (Nat.le_of_ble_eq_true rfl) (Nat.le_of_ble_eq_true rfl) rfl (fun G_1 z_2 mG_1 => ?_)
      refine go_aload_n (pc' := 28) cx dX6_both5_27 rfl rfl ?_
      refine go_cVIz (pc' := 31) cx (hC1 (advS (mT R fr) sz S) G_1 z_2 mG_1) mX6_not5 lX6_255 dX6_both5_28 kq88 (ltn rfl) (ltn rfl) rfl rfl rfl rfl (by omega) (Nat.le_of_ble_eq_true rfl) (Nat.le_of_ble_eq_true rfl) rfl (fun w_5 G_3 z_4 hG_3 => ?_)
      obtain ⟨mG_3, vG_3⟩ := hG_3
      refine go_istore_n (pc' := 32) cx dX6_both5_31 (ltn rfl) [(2, .int w_5), (1, .int v), (0, .ref (E.2.1 88))] rfl rfl ?_
      refine go_iload_n (pc' := 33) cx dX6_both5_32 rfl rfl ?_
      refine go_if_eq (pc' := 36) cx 44 dX6_both5_33 rfl rfl (fun c33 => ?_) (fun c33 => ?_)
      · refine go_iconst (pc' := 45) cx 0 dX6_both5_44 rfl rfl ?_
        refine go_istore_n (pc' := 46) cx dX6_both5_45 (ltn rfl) [(1, .int 0), (2, .int w_5), (0, .ref (E.2.1 88))] rfl rfl ?_
        refine go_goto cx 5 dX6_both5_46 rfl ?_
        refine go_sub [0, 2] [(1, .int 0), (0, .ref (E.2.1 88))] rfl ?_
        have h9 : lpF (advS (mT R fr) sz) pAn F (k + 1) S = ((lpF (advS (mT R fr) sz) pAn F k (F ((advS (mT R fr) sz) S)).1).1, (F ((advS (mT R fr) sz) S)).2 ++ S.2.2.1 :: (lpF (advS (mT R fr) sz) pAn F k (F ((advS (mT R fr) sz) S)).1).2) := if_pos (by rw [tc20]; rfl)
        rw [h9, tc20] at kk
        have p9 := hP _ aG_1.1
        refine ih (F ((advS (mT R fr) sz) S)).1 (cs ++ (F ((advS (mT R fr) sz) S)).2 ++ [10010]) 0 G_3 z_4 mG_3 (fun q9 => ?_) (fun q9 => ?_) (fun x g1 z1 h1 h2 => kk x g1 z1 h1 (fun q9 => by rw [lp_app]; exact h2 q9))
        · have := hM.lt utc20 (by rw [tc20]; decide)
          have := aG_1.2.2.1 this
          have := p9.2.1
          have := hs utc20
          omega
        · have g9 := GC_bin (c := 10010) (D := D + 1) (hv utc20) (vG_3 q9) (Nat.le_refl _) (Nat.le_refl _) (by decide) (by decide) (by decide)
          have e9 : jnV 10010 v w_5 = 0 := by
            unfold jnV
            simp [c33]
          rw [e9] at g9
          exact g9
      · refine go_iload_n (pc' := 37) cx dX6_both5_36 rfl rfl ?_
        refine go_if_eq (pc' := 40) cx 44 dX6_both5_37 rfl rfl (fun c37 => ?_) (fun c37 => ?_)
        · refine go_iconst (pc' := 45) cx 0 dX6_both5_44 rfl rfl ?_
          refine go_istore_n (pc' := 46) cx dX6_both5_45 (ltn rfl) [(1, .int 0), (2, .int w_5), (0, .ref (E.2.1 88))] rfl rfl ?_
          refine go_goto cx 5 dX6_both5_46 rfl ?_
          refine go_sub [0, 2] [(1, .int 0), (0, .ref (E.2.1 88))] rfl ?_
          have h9 : lpF (advS (mT R fr) sz) pAn F (k + 1) S = ((lpF (advS (mT R fr) sz) pAn F k (F ((advS (mT R fr) sz) S)).1).1, (F ((advS (mT R fr) sz) S)).2 ++ S.2.2.1 :: (lpF (advS (mT R fr) sz) pAn F k (F ((advS (mT R fr) sz) S)).1).2) := if_pos (by rw [tc20]; rfl)
          rw [h9, tc20] at kk
          have p9 := hP _ aG_1.1
          refine ih (F ((advS (mT R fr) sz) S)).1 (cs ++ (F ((advS (mT R fr) sz) S)).2 ++ [10010]) 0 G_3 z_4 mG_3 (fun q9 => ?_) (fun q9 => ?_) (fun x g1 z1 h1 h2 => kk x g1 z1 h1 (fun q9 => by rw [lp_app]; exact h2 q9))
          · have := hM.lt utc20 (by rw [tc20]; decide)
            have := aG_1.2.2.1 this
            have := p9.2.1
            have := hs utc20
            omega
          · have g9 := GC_bin (c := 10010) (D := D + 1) (hv utc20) (vG_3 q9) (Nat.le_refl _) (Nat.le_refl _) (by decide) (by decide) (by decide)
            have e9 : jnV 10010 v w_5 = 0 := by
              unfold jnV
              simp [c33, c37]
            rw [e9] at g9
            exact g9
        · refine go_iconst (pc' := 41) cx 1 dX6_both5_40 rfl rfl ?_
          refine go_goto cx 45 dX6_both5_41 rfl ?_
          refine go_istore_n (pc' := 46) cx dX6_both5_45 (ltn rfl) [(1, .int 1), (2, .int w_5), (0, .ref (E.2.1 88))] rfl rfl ?_
          refine go_goto cx 5 dX6_both5_46 rfl ?_
          refine go_sub [0, 2] [(1, .int 1), (0, .ref (E.2.1 88))] rfl ?_
          have h9 : lpF (advS (mT R fr) sz) pAn F (k + 1) S = ((lpF (advS (mT R fr) sz) pAn F k (F ((advS (mT R fr) sz) S)).1).1, (F ((advS (mT R fr) sz) S)).2 ++ S.2.2.1 :: (lpF (advS (mT R fr) sz) pAn F k (F ((advS (mT R fr) sz) S)).1).2) := if_pos (by rw [tc20]; rfl)
          rw [h9, tc20] at kk
          have p9 := hP _ aG_1.1
          refine ih (F ((advS (mT R fr) sz) S)).1 (cs ++ (F ((advS (mT R fr) sz) S)).2 ++ [10010]) 1 G_3 z_4 mG_3 (fun q9 => ?_) (fun q9 => ?_) (fun x g1 z1 h1 h2 => kk x g1 z1 h1 (fun q9 => by rw [lp_app]; exact h2 q9))
          · have := hM.lt utc20 (by rw [tc20]; decide)
            have := aG_1.2.2.1 this
            have := p9.2.1
            have := hs utc20
            omega
          · have g9 := GC_bin (c := 10010) (D := D + 1) (hv utc20) (vG_3 q9) (Nat.le_refl _) (Nat.le_refl _) (by decide) (by decide) (by decide)
            have e9 : jnV 10010 v w_5 = 1 := by
              unfold jnV
              simp [c33, c37]
            rw [e9] at g9
            exact g9

set_option maxHeartbeats 1000000 in
set_option maxRecDepth 20000 in
theorem c_X6_both5 (l : Launch) (E : Ev) {g0 : IG} {o : Option Nat} {fr sz : Nat} {R : Nat → Int32} (hC : MCx g0 fr sz R) {F : PF} (hP : Pp (mT R fr) sz F) {D d : Nat} (hd : 4 ≤ d) (hC1 : McC l E o g0 fr sz R 5 yX6_not5 cX6_not5 4 d F D)  : McC l E o g0 fr sz R 5 yX6_both5 cX6_both5 3 (d + 1) (lvF (advS (mT R fr) sz) pAn F) (D + 1) := by
  intro S g z hM
  refine Ct.of (lv0 := [(0, .ref (E.2.1 88))]) (by decide) (Nat.le_of_ble_eq_true rfl) rfl ?_
  intro p e s m below meth c cx
  obtain ⟨hfr, hsz, h26, h27, h89, hT0⟩ := id hC
  refine go_aload_n (pc' := 1) cx dX6_both5_0 rfl rfl ?_
  refine go_cVIz (pc' := 4) cx (hC1 S g z hM) mX6_not5 lX6_255 dX6_both5_1 kq88 (ltn rfl) (ltn rfl) rfl rfl rfl rfl (by omega) (Nat.le_of_ble_eq_true rfl) (Nat.le_of_ble_eq_true rfl) rfl (fun w_3 G_1 z_2 hG_1 => ?_)
  obtain ⟨mG_1, vG_1⟩ := hG_1
  refine go_istore_n (pc' := 5) cx dX6_both5_4 (ltn rfl) [(1, .int w_3), (0, .ref (E.2.1 88))] rfl rfl ?_
  have p9 := hP S hM.2.2.1
  refine both5_loop hC hP hd hC1 cx 160 (F S).1 (F S).2 w_3 G_1 z_2 mG_1 (fun _ => by omega) (fun q9 => (vG_1 q9).mono (Nat.le_succ D)) (fun x g1 z1 h1 h2 => ?_)
  refine go_iload_n (pc' := 50) cx dX6_both5_49 rfl rfl ?_
  refine go_iret cx rfl dX6_both5_50 ?_
  exact ZIz.mk ⟨h1, h2⟩

set_option maxHeartbeats 1000000 in
set_option maxRecDepth 20000 in
theorem either5_loop {l : Launch} {E : Ev} {Z : ZT} {g0 : IG} {o : Option Nat} {p : Program} {e : Env} {s : State} {m : MethodId} {args : Array Value} {below : List Frame} {meth : Method} {c : Code} {fr sz : Nat} {R : Nat → Int32} (hC : MCx g0 fr sz R) {F : PF} (hP : Pp (mT R fr) sz F) {D d : Nat} (hd : 4 ≤ d) (hC1 : McC l E o g0 fr sz R 5 yX6_both5 cX6_both5 3 d F D)  (cx : Cx p s m args meth c E 115 cX6_either5 3 yX6_either5.cls (some .int)) : ∀ (k : Nat) (S : PS) (cs : List Int32) (v : Int32) (g : IG) (z : Int64), MdS g0 fr sz R 5 S g z → (S.2.2.2 = -1 → sz ≤ S.2.1 + k) → (S.2.2.2 = -1 → GC (evM g0) (D + 1) cs v) → (∀ x g1 z1, MdS g0 fr sz R 5 (lpF (advS (mT R fr) sz) pOr F k S).1 g1 z1 → ((lpF (advS (mT R fr) sz) pOr F k S).1.2.2.2 = -1 → GC (evM g0) (D + 1) (cs ++ (lpF (advS (mT R fr) sz) pOr F k S).2) x) → Go p l e (rmd (d + 1)) s m args below meth c E 115 3 Z g1 (RFo o) z1 48 [(1, .int x), (0, .ref (E.2.1 88))] []) → Go p l e (rmd (d + 1)) s m args below meth c E 115 3 Z g (RFo o) z 5 [(1, .int v), (0, .ref (E.2.1 88))] [] := by
  intro k
  induction k with
  | zero =>
    intro S cs v g z hM hs hv kk
    refine go_aload_n (pc' := 6) cx dX6_either5_5 rfl rfl ?_
    refine go_bipush (pc' := 8) cx 111 dX6_either5_6 rfl rfl ?_
    refine go_bipush (pc' := 10) cx 114 dX6_either5_8 rfl rfl ?_
    refine go_iconst (pc' := 11) cx 0 dX6_either5_10 rfl rfl ?_
    refine go_iconst (pc' := 12) cx 0 dX6_either5_11 rfl rfl ?_
    refine go_iconst (pc' := 13) cx 0 dX6_either5_12 rfl rfl ?_
    refine go_iconst (pc' := 14) cx 0 dX6_either5_13 rfl rfl ?_
    refine go_iconst (pc' := 15) cx 0 dX6_either5_14 rfl rfl ?_
    refine go_iconst (pc' := 16) cx 0 dX6_either5_15 rfl rfl ?_
    refine go_cVi (pc' := 19) cx (c_isWord_9 l E hC hM) mX6_isWord lX6_209 dX6_either5_16 kq88 (ltn rfl) (ltn rfl) rfl rfl rfl rfl (by omega) (Nat.le_of_ble_eq_true rfl) (Nat.le_of_ble_eq_true rfl) rfl ?_
    refine go_if_eq (pc' := 22) cx 48 dX6_either5_19 rfl rfl (fun c19 => ?_) (fun c19 => ?_)
    · have h9 : lpF (advS (mT R fr) sz) pOr F 0 S = (S, []) := rfl
      rw [h9] at kk
      exact kk v g z hM (fun q => by rw [show cs ++ ([] : List Int32) = cs from List.append_nil cs]; exact hv q)
    · have t9 : S.2.2.1 = 10009 := one_of c19
      have u9 := hM.2.2.1.un (by rw [t9]; decide)
      exact absurd ((hM.en u9 (hs u9)).symm.trans t9) (by decide)
  | succ k ih =>
    intro S cs v g z hM hs hv kk
    refine go_aload_n (pc' := 6) cx dX6_either5_5 rfl rfl ?_
    refine go_bipush (pc' := 8) cx 111 dX6_either5_6 rfl rfl ?_
    refine go_bipush (pc' := 10) cx 114 dX6_either5_8 rfl rfl ?_
    refine go_iconst (pc' := 11) cx 0 dX6_either5_10 rfl rfl ?_
    refine go_iconst (pc' := 12) cx 0 dX6_either5_11 rfl rfl ?_
    refine go_iconst (pc' := 13) cx 0 dX6_either5_12 rfl rfl ?_
    refine go_iconst (pc' := 14) cx 0 dX6_either5_13 rfl rfl ?_
    refine go_iconst (pc' := 15) cx 0 dX6_either5_14 rfl rfl ?_
    refine go_iconst (pc' := 16) cx 0 dX6_either5_15 rfl rfl ?_
    refine go_cVi (pc' := 19) cx (c_isWord_9 l E hC hM) mX6_isWord lX6_209 dX6_either5_16 kq88 (ltn rfl) (ltn rfl) rfl rfl rfl rfl (by omega) (Nat.le_of_ble_eq_true rfl) (Nat.le_of_ble_eq_true rfl) rfl ?_
    refine go_if_eq (pc' := 22) cx 48 dX6_either5_19 rfl rfl (fun c19 => ?_) (fun c19 => ?_)
    · have h9 : lpF (advS (mT R fr) sz) pOr F (k + 1) S = (S, []) := if_neg (show ¬ pOr S.2.2.1 = true from by unfold pOr; simp only [beq_iff_eq]; exact zero_of c19)
      rw [h9] at kk
      exact kk v g z hM (fun q => by rw [show cs ++ ([] : List Int32) = cs from List.append_nil cs]; exact hv q)
    · have tc19 : S.2.2.1 = 10009 := one_of c19
      have utc19 := hM.2.2.1.un (by rw [tc19]; decide)
      refine go_aload_n (pc' := 23) cx dX6_either5_22 rfl rfl ?_
      have aG_1 := adv_W hM.2.2.1 utc19
      refine go_cVVz (pc' := 26) cx (c_nextM l E hC hM utc19 (by rw [tc19]; decide)) mX6_next lX6_206 dX6_either5_23 kq88 (ltn rfl) (ltn rfl) rfl rfl rfl rfl (by omega) (Nat.le_of_ble_eq_true rfl) (Nat.le_of_ble_eq_true rfl) rfl (fun G_1 z_2 mG_1 => ?_)
      refine go_aload_n (pc' := 27) cx dX6_either5_26 rfl rfl ?_
      refine go_cVIz (pc' := 30) cx (hC1 (advS (mT R fr) sz S) G_1 z_2 mG_1) mX6_both5 lX6_258 dX6_either5_27 kq88 (ltn rfl) (ltn rfl) rfl rfl rfl rfl (by omega) (Nat.le_of_ble_eq_true rfl) (Nat.le_of_ble_eq_true rfl) rfl (fun w_5 G_3 z_4 hG_3 => ?_)
      obtain ⟨mG_3, vG_3⟩ := hG_3
      refine go_istore_n (pc' := 31) cx dX6_either5_30 (ltn rfl) [(2, .int w_5), (1, .int v), (0, .ref (E.2.1 88))] rfl rfl ?_
      refine go_iload_n (pc' := 32) cx dX6_either5_31 rfl rfl ?_
      refine go_if_ne (pc' := 35) cx 39 dX6_either5_32 rfl rfl (fun c32 => ?_) (fun c32 => ?_)
      · refine go_iconst (pc' := 40) cx 1 dX6_either5_39 rfl rfl ?_
        refine go_goto cx 44 dX6_either5_40 rfl ?_
        refine go_istore_n (pc' := 45) cx dX6_either5_44 (ltn rfl) [(1, .int 1), (2, .int w_5), (0, .ref (E.2.1 88))] rfl rfl ?_
        refine go_goto cx 5 dX6_either5_45 rfl ?_
        refine go_sub [0, 2] [(1, .int 1), (0, .ref (E.2.1 88))] rfl ?_
        have h9 : lpF (advS (mT R fr) sz) pOr F (k + 1) S = ((lpF (advS (mT R fr) sz) pOr F k (F ((advS (mT R fr) sz) S)).1).1, (F ((advS (mT R fr) sz) S)).2 ++ S.2.2.1 :: (lpF (advS (mT R fr) sz) pOr F k (F ((advS (mT R fr) sz) S)).1).2) := if_pos (by rw [tc19]; rfl)
        rw [h9, tc19] at kk
        have p9 := hP _ aG_1.1
        refine ih (F ((advS (mT R fr) sz) S)).1 (cs ++ (F ((advS (mT R fr) sz) S)).2 ++ [10009]) 1 G_3 z_4 mG_3 (fun q9 => ?_) (fun q9 => ?_) (fun x g1 z1 h1 h2 => kk x g1 z1 h1 (fun q9 => by rw [lp_app]; exact h2 q9))
        · have := hM.lt utc19 (by rw [tc19]; decide)
          have := aG_1.2.2.1 this
          have := p9.2.1
          have := hs utc19
          omega
        · have g9 := GC_bin (c := 10009) (D := D + 1) (hv utc19) (vG_3 q9) (Nat.le_refl _) (Nat.le_refl _) (by decide) (by decide) (by decide)
          have e9 : jnV 10009 v w_5 = 1 := by
            unfold jnV
            simp [c32]
          rw [e9] at g9
          exact g9
      · refine go_iload_n (pc' := 36) cx dX6_either5_35 rfl rfl ?_
        refine go_if_eq (pc' := 39) cx 43 dX6_either5_36 rfl rfl (fun c36 => ?_) (fun c36 => ?_)
        · refine go_iconst (pc' := 44) cx 0 dX6_either5_43 rfl rfl ?_
          refine go_istore_n (pc' := 45) cx dX6_either5_44 (ltn rfl) [(1, .int 0), (2, .int w_5), (0, .ref (E.2.1 88))] rfl rfl ?_
          refine go_goto cx 5 dX6_either5_45 rfl ?_
          refine go_sub [0, 2] [(1, .int 0), (0, .ref (E.2.1 88))] rfl ?_
          have h9 : lpF (advS (mT R fr) sz) pOr F (k + 1) S = ((lpF (advS (mT R fr) sz) pOr F k (F ((advS (mT R fr) sz) S)).1).1, (F ((advS (mT R fr) sz) S)).2 ++ S.2.2.1 :: (lpF (advS (mT R fr) sz) pOr F k (F ((advS (mT R fr) sz) S)).1).2) := if_pos (by rw [tc19]; rfl)
          rw [h9, tc19] at kk
          have p9 := hP _ aG_1.1
          refine ih (F ((advS (mT R fr) sz) S)).1 (cs ++ (F ((advS (mT R fr) sz) S)).2 ++ [10009]) 0 G_3 z_4 mG_3 (fun q9 => ?_) (fun q9 => ?_) (fun x g1 z1 h1 h2 => kk x g1 z1 h1 (fun q9 => by rw [lp_app]; exact h2 q9))
          · have := hM.lt utc19 (by rw [tc19]; decide)
            have := aG_1.2.2.1 this
            have := p9.2.1
            have := hs utc19
            omega
          · have g9 := GC_bin (c := 10009) (D := D + 1) (hv utc19) (vG_3 q9) (Nat.le_refl _) (Nat.le_refl _) (by decide) (by decide) (by decide)
            have e9 : jnV 10009 v w_5 = 0 := by
              unfold jnV
              simp [c32, c36]
            rw [e9] at g9
            exact g9
        · refine go_iconst (pc' := 40) cx 1 dX6_either5_39 rfl rfl ?_
          refine go_goto cx 44 dX6_either5_40 rfl ?_
          refine go_istore_n (pc' := 45) cx dX6_either5_44 (ltn rfl) [(1, .int 1), (2, .int w_5), (0, .ref (E.2.1 88))] rfl rfl ?_
          refine go_goto cx 5 dX6_either5_45 rfl ?_
          refine go_sub [0, 2] [(1, .int 1), (0, .ref (E.2.1 88))] rfl ?_
          have h9 : lpF (advS (mT R fr) sz) pOr F (k + 1) S = ((lpF (advS (mT R fr) sz) pOr F k (F ((advS (mT R fr) sz) S)).1).1, (F ((advS (mT R fr) sz) S)).2 ++ S.2.2.1 :: (lpF (advS (mT R fr) sz) pOr F k (F ((advS (mT R fr) sz) S)).1).2) := if_pos (by rw [tc19]; rfl)
          rw [h9, tc19] at kk
          have p9 := hP _ aG_1.1
          refine ih (F ((advS (mT R fr) sz) S)).1 (cs ++ (F ((advS (mT R fr) sz) S)).2 ++ [10009]) 1 G_3 z_4 mG_3 (fun q9 => ?_) (fun q9 => ?_) (fun x g1 z1 h1 h2 => kk x g1 z1 h1 (fun q9 => by rw [lp_app]; exact h2 q9))
          · have := hM.lt utc19 (by rw [tc19]; decide)
            have := aG_1.2.2.1 this
            have := p9.2.1
            have := hs utc19
            omega
          · have g9 := GC_bin (c := 10009) (D := D + 1) (hv utc19) (vG_3 q9) (Nat.le_refl _) (Nat.le_refl _) (by decide) (by decide) (by decide)
            have e9 : jnV 10009 v w_5 = 1 := by
              unfold jnV
              simp [c32, c36]
            rw [e9] at g9
            exact g9

set_option maxHeartbeats 1000000 in
set_option maxRecDepth 20000 in
theorem c_X6_either5 (l : Launch) (E : Ev) {g0 : IG} {o : Option Nat} {fr sz : Nat} {R : Nat → Int32} (hC : MCx g0 fr sz R) {F : PF} (hP : Pp (mT R fr) sz F) {D d : Nat} (hd : 4 ≤ d) (hC1 : McC l E o g0 fr sz R 5 yX6_both5 cX6_both5 3 d F D)  : McC l E o g0 fr sz R 5 yX6_either5 cX6_either5 3 (d + 1) (lvF (advS (mT R fr) sz) pOr F) (D + 1) := by
  intro S g z hM
  refine Ct.of (lv0 := [(0, .ref (E.2.1 88))]) (by decide) (Nat.le_of_ble_eq_true rfl) rfl ?_
  intro p e s m below meth c cx
  obtain ⟨hfr, hsz, h26, h27, h89, hT0⟩ := id hC
  refine go_aload_n (pc' := 1) cx dX6_either5_0 rfl rfl ?_
  refine go_cVIz (pc' := 4) cx (hC1 S g z hM) mX6_both5 lX6_258 dX6_either5_1 kq88 (ltn rfl) (ltn rfl) rfl rfl rfl rfl (by omega) (Nat.le_of_ble_eq_true rfl) (Nat.le_of_ble_eq_true rfl) rfl (fun w_3 G_1 z_2 hG_1 => ?_)
  obtain ⟨mG_1, vG_1⟩ := hG_1
  refine go_istore_n (pc' := 5) cx dX6_either5_4 (ltn rfl) [(1, .int w_3), (0, .ref (E.2.1 88))] rfl rfl ?_
  have p9 := hP S hM.2.2.1
  refine either5_loop hC hP hd hC1 cx 160 (F S).1 (F S).2 w_3 G_1 z_2 mG_1 (fun _ => by omega) (fun q9 => (vG_1 q9).mono (Nat.le_succ D)) (fun x g1 z1 h1 h2 => ?_)
  refine go_iload_n (pc' := 49) cx dX6_either5_48 rfl rfl ?_
  refine go_iret cx rfl dX6_either5_49 ?_
  exact ZIz.mk ⟨h1, h2⟩
