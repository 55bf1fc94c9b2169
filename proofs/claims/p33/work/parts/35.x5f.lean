/-! THE CLASS: pictures -/
/-- what sheets hold: of each its sort, its size, its row -/
def shF (g : IG) (t : Nat) : Int32 × Nat × (Nat → Int32) := (g (29 + 2 * t) 1, clI (g (29 + 2 * t) 2), g (29 + 2 * t + 1))
def pictX (M : TM) (a : Sv) (vn : Nat) (sh : Nat → Int32 × Nat × (Nat → Int32)) (x1 x2 : Int32) : Int32 :=
  if inI 4 x1 = 0 ∨ inI 4 x2 = 0 then -2 else pictF M a vn (sh (clI x1)).2.2 (sh (clI x1)).1 (sh (clI x1)).2.1 (clI x2)
theorem prF_le {so : Int32} {sz vn : Nat} (h : prF so sz vn = 0) : sz ≤ vn := by
  unfold prF at h
  by_cases h1 : so = -1
  · rw [if_pos h1] at h
    exact absurd h (by decide)
  · rw [if_neg h1] at h
    by_cases h2 : sz ≤ vn
    · exact h2
    · rw [if_neg h2] at h
      exact absurd h (by decide)
theorem mostN_le {hn w : Nat} (hh : hn ≤ 5) (hw : w = 4 ∨ w = 5 ∨ w = 7 ∨ w = 8 ∨ w = 9) : mostN hn w ≤ 21 := by
  unfold mostN
  rcases hw with rfl | rfl | rfl | rfl | rfl <;> simp <;> omega
theorem c_mostT (l : Launch) (E : Ev) {g G : IG} {o : Option Nat} {z : Int64} {hn vn ru tc w : Nat} {M : Nat → TM} (hX : XP g hn vn ru tc M) (hF : Fr scr g G) (hw : w = 4 ∨ w = 5 ∨ w = 7 ∨ w = 8 ∨ w = 9) : Ct l E 88 yX1_most cX1_most 2 (some .int) 1 [.ref (E.2.1 37), .int (nI w)] G (RFo o) z (Zi (RFo o) z (nI (mostN hn w) - 1) G) := by
  refine (c_X1_most l E s37 (nI w)).wk ?_
  rintro _ _ _ _ ⟨rfl, rfl, rfl, rfl⟩
  refine Zi.mk ?_ rfl
  have e := ((congrFun (hF 37 (by unfold scr; omega)) 2).trans hX.2.1)
  unfold most
  rcases hw with rfl | rfl | rfl | rfl | rfl
  · rw [if_pos (by decide)]
    show (9 : Int32) = nI 10 - 1
    decide
  · rw [if_neg (by decide), if_pos (by decide)]
    show (10 : Int32) = nI 11 - 1
    decide
  · rw [if_neg (by decide), if_neg (by decide), if_pos (by decide), e]
    rfl
  · rw [if_neg (by decide), if_neg (by decide), if_neg (by decide), if_pos (by decide)]
    show (20 : Int32) = nI 21 - 1
    decide
  · rw [if_neg (by decide), if_neg (by decide), if_neg (by decide), if_neg (by decide), if_pos (by decide)]
    show (3 : Int32) = nI 4 - 1
    decide
theorem lt_m1 {n : Nat} (h : n ≤ 21) : nI n - 1 < nI n := by
  have : ∀ n, n ≤ 21 → nI n - 1 < nI n := by decide +kernel
  exact this n h
theorem nlt_m1 {n v : Nat} (h : n ≤ 21) (hv : v < n) : ¬ nI n - 1 < nI v := by
  have : ∀ n, n ≤ 21 → ∀ v, v < n → ¬ nI n - 1 < nI v := by decide +kernel
  exact this n h v hv
theorem fot_req {M : TM} {a b : Sv} {hn vn pl sz : Nat} {row : Nat → Int32} (hpl : pl < 4) (h : Req a b hn vn) (hd : HdS a hn vn) (hh : hn ≤ 5) (hsz : sz ≤ vn) : fotF M a row pl sz = fotF M b row pl sz :=
  foF_c sz 0 (fun j _ hj => ⟨rfl, (h.crs hd hh (by omega)).1 pl hpl⟩)
theorem TH.rule {a : Sv} {hn vn ru : Nat} {G : IG} (h : TH a hn vn ru G) (t : Nat) : TH a hn vn t (up2 G 64 4 (nI t)) := by
  obtain ⟨e0, e1, e2, e3, e4⟩ := h
  refine ⟨(up2_n _ _ (Or.inr (by omega))).trans e0, (up2_n _ _ (Or.inr (by omega))).trans e1, up2_s _ _ _ _, ?_, e4⟩
  have q : ∀ w, w < 11 → aW (up2 G 64 4 (nI t)) w = aW G w := by
    intro w hw
    funext k
    unfold aW
    by_cases h0 : w = 0
    · rw [if_pos h0, if_pos h0]
      exact up2_n _ _ (Or.inl (by omega))
    by_cases h1 : w = 1
    · rw [if_neg h0, if_pos h1, if_neg h0, if_pos h1]
      exact up2_n _ _ (Or.inl (by omega))
    rw [if_neg h0, if_neg h1, if_neg h0, if_neg h1]
    unfold svC
    rw [if_pos hw, if_pos hw]
    exact up2_n _ _ (Or.inl (by omega))
  unfold Req
  rw [q 0 (by omega), q 1 (by omega), q 2 (by omega), q 3 (by omega)]
  exact ⟨e3.1, e3.2.1, e3.2.2.1, e3.2.2.2.1, fun w k hw hk => by rw [q w (by omega)]; exact e3.2.2.2.2.1 w k hw hk, fun w k hw hk => by rw [q w (by omega)]; exact e3.2.2.2.2.2 w k hw hk⟩

set_option maxHeartbeats 1000000 in
set_option maxRecDepth 20000 in
theorem c_X5_pictureRefusal (l : Launch) (E : Ev) {g : IG} {o : Option Nat} {z : Int64} {hn vn ru tc : Nat} {M : Nat → TM} (hX : XP g hn vn ru tc M) {t sz : Nat} (ht : t < 4) (hsz : sz ≤ 40) (h2 : g (29 + 2 * t) 2 = nI sz)  : Ct l E 88 yX5_pictureRefusal cX5_pictureRefusal 2 (some .int) 1 [.ref (E.2.1 0), .ref (E.2.1 (29 + 2 * t))] g (RFo o) z (Zi (RFo o) z (prF (g (29 + 2 * t) 1) sz vn) g) := by
  refine Ct.of (lv0 := [(0, .ref (E.2.1 0)), (1, .ref (E.2.1 (29 + 2 * t)))]) (by decide) (Nat.le_of_ble_eq_true rfl) rfl ?_
  intro p e s m below meth c cx
  obtain ⟨hhn5, hvn8, hruc, htc6⟩ := id hX.1
  refine go_aload_n (pc' := 1) cx dX5_pictureRefusal_0 rfl rfl ?_
  refine go_geti (pc' := 4) cx (g (29 + 2 * t) 1) fX5_208 dX5_pictureRefusal_1 (sh_k' _ ht).1 (by omega) (ltn rfl) rfl rfl rfl ?_
  refine go_iconst (pc' := 5) cx (-1) dX5_pictureRefusal_4 rfl rfl ?_
  refine go_icmp_ne (pc' := 8) cx 11 dX5_pictureRefusal_5 rfl rfl (fun c5 => ?_) (fun c5 => ?_)
  · refine go_aload_n (pc' := 12) cx dX5_pictureRefusal_11 rfl rfl ?_
    refine go_geti (pc' := 15) cx (nI sz) fX5_231 dX5_pictureRefusal_12 (sh_k' _ ht).1 (by omega) (ltn rfl) rfl h2 rfl ?_
    refine go_aload_n (pc' := 16) cx dX5_pictureRefusal_15 rfl rfl ?_
    refine go_getr (pc' := 19) cx 37 fX5_66 dX5_pictureRefusal_16 kq0 (ltn rfl) (ltn rfl) rfl rfl rfl ?_
    refine go_geti (pc' := 22) cx (nI vn) fX5_143 dX5_pictureRefusal_19 kq37 (ltn rfl) (ltn rfl) rfl hX.2.2.1 rfl ?_
    refine go_icmp_le (pc' := 25) cx 30 dX5_pictureRefusal_22 rfl rfl (fun c22 => ?_) (fun c22 => ?_)
    · have c22 := (nI_leI (a := sz) (b := vn) (by omega) (by omega)).mp c22
      refine go_iconst (pc' := 31) cx 0 dX5_pictureRefusal_30 rfl rfl ?_
      refine go_iret cx rfl dX5_pictureRefusal_31 ?_
      exact Zi.mk (by unfold prF; first | rw [if_pos c5] | rw [if_neg c5, if_pos c22] | rw [if_neg c5, if_neg c22]) rfl
    · have c22 : ¬ sz ≤ vn := fun q9 => c22 ((nI_leI (a := sz) (b := vn) (by omega) (by omega)).mpr q9)
      refine go_bipush (pc' := 27) cx (-2) dX5_pictureRefusal_25 rfl rfl ?_
      refine go_goto cx 31 dX5_pictureRefusal_27 rfl ?_
      refine go_iret cx rfl dX5_pictureRefusal_31 ?_
      exact Zi.mk (by unfold prF; first | rw [if_pos c5] | rw [if_neg c5, if_pos c22] | rw [if_neg c5, if_neg c22]) rfl
  · refine go_bipush (pc' := 10) cx (-11) dX5_pictureRefusal_8 rfl rfl ?_
    refine go_iret cx rfl dX5_pictureRefusal_10 ?_
    exact Zi.mk (by unfold prF; first | rw [if_pos c5] | rw [if_neg c5, if_pos c22] | rw [if_neg c5, if_neg c22]) rfl

set_option maxHeartbeats 1000000 in
set_option maxRecDepth 20000 in
theorem c_X5_pictures (l : Launch) (E : Ev) {g : IG} {o : Option Nat} {z : Int64} {hn vn ru tc : Nat} {M : Nat → TM} (hX : XP g hn vn ru tc M) (hS : ShX g) (x1 x2 : Int32) : Ct l E 88 yX5_pictures cX5_pictures 4 (some .int) 8 [.ref (E.2.1 0), .int x1, .int x2] g (RFo o) z (ZI (RFo o) z (fun x g1 => x = pictX (M ru) (svC g 37) vn (shF g) x1 x2 ∧ Fr scr g g1)) := by
  refine Ct.of (lv0 := [(0, .ref (E.2.1 0)), (1, .int x1), (2, .int x2)]) (by decide) (Nat.le_of_ble_eq_true rfl) rfl ?_
  intro p e s m below meth c cx
  obtain ⟨hhn5, hvn8, hruc, htc6⟩ := id hX.1
  refine go_iload_n (pc' := 1) cx dX5_pictures_0 rfl rfl ?_
  refine go_cSi (pc' := 4) cx (c_X5_isSheet l E (g := g) x1) mX5_isSheet lX5_165 dX5_pictures_1 rfl rfl rfl (ltn rfl) (Nat.le_of_ble_eq_true rfl) (Nat.le_of_ble_eq_true rfl) rfl ?_
  refine go_if_eq (pc' := 7) cx 14 dX5_pictures_4 rfl rfl (fun c4 => ?_) (fun c4 => ?_)
  · refine go_bipush (pc' := 16) cx (-2) dX5_pictures_14 rfl rfl ?_
    refine go_iret cx rfl dX5_pictures_16 ?_
    exact ZI.mk ⟨by first | (unfold pictX; rw [if_pos (Or.inl c4)]; done) | (unfold pictX; rw [if_pos (Or.inr c11)]; done), Fr.rf⟩
  · refine go_iload_n (pc' := 8) cx dX5_pictures_7 rfl rfl ?_
    refine go_cSi (pc' := 11) cx (c_X5_isPlace l E (g := g) x2) mX5_isPlace lX5_124 dX5_pictures_8 rfl rfl rfl (ltn rfl) (Nat.le_of_ble_eq_true rfl) (Nat.le_of_ble_eq_true rfl) rfl ?_
    refine go_if_ne (pc' := 14) cx 17 dX5_pictures_11 rfl rfl (fun c11 => ?_) (fun c11 => ?_)
    · obtain ⟨t, ht, et⟩ := in_ok (k := 4) (by omega) c4
      subst et
      obtain ⟨pl, hpl, epl⟩ := in_ok (k := 4) (by omega) c11
      subst epl
      have clt := clI_n (k := t) (by omega)
      have clpl := clI_n (k := pl) (by omega)
      obtain ⟨sz, hsz, h2⟩ := hS t ht
      refine go_aload_n (pc' := 18) cx dX5_pictures_17 rfl rfl ?_
      refine go_aload_n (pc' := 19) cx dX5_pictures_18 rfl rfl ?_
      refine go_getr (pc' := 22) cx 4 fX5_32 dX5_pictures_19 kq0 (ltn rfl) (ltn rfl) rfl rfl rfl ?_
      refine go_iload_n (pc' := 23) cx dX5_pictures_22 rfl rfl ?_
      refine go_aaldk (pc' := 24) cx t (29 + 2 * t) dX5_pictures_23 kq4 (Nat.le_of_ble_eq_true rfl) (ltn rfl) (ltn rfl) (vpi (k := t) (a := 4) ht rfl rfl) (cli (k := t) (a := 4) ht rfl) (sh_r ht).2 rfl ?_
      refine go_cVi (pc' := 27) cx (c_X5_pictureRefusal l E hX ht hsz h2) mX5_pictureRefusal lX5_168 dX5_pictures_24 kq0 (ltn rfl) (ltn rfl) rfl rfl rfl rfl (ltn rfl) (Nat.le_of_ble_eq_true rfl) (Nat.le_of_ble_eq_true rfl) rfl ?_
      refine go_istore_n (pc' := 28) cx dX5_pictures_27 (ltn rfl) [(3, .int (prF (g (29 + 2 * t) 1) sz vn)), (0, .ref (E.2.1 0)), (1, .int (nI t)), (2, .int (nI pl))] rfl rfl ?_
      refine go_iload_n (pc' := 29) cx dX5_pictures_28 rfl rfl ?_
      refine go_if_eq (pc' := 32) cx 34 dX5_pictures_29 rfl rfl (fun c29 => ?_) (fun c29 => ?_)
      · have hszv : sz ≤ vn := prF_le c29
        refine go_aload_n (pc' := 35) cx dX5_pictures_34 rfl rfl ?_
        refine go_getr (pc' := 38) cx 63 fX5_78 dX5_pictures_35 kq0 (ltn rfl) (ltn rfl) rfl rfl rfl ?_
        refine go_cVV (pc' := 41) cx (c_X4_walkAsNow l E (G := g) hX Fr.rf) mX4_walkAsNow lX5_127 dX5_pictures_38 kq63 (ltn rfl) (ltn rfl) rfl rfl rfl rfl (ltn rfl) (Nat.le_of_ble_eq_true rfl) (Nat.le_of_ble_eq_true rfl) rfl (fun G_1 hG_1 => ?_)
        refine go_aload_n (pc' := 42) cx dX5_pictures_41 rfl rfl ?_
        refine go_getr (pc' := 45) cx 63 fX5_78 dX5_pictures_42 kq0 (ltn rfl) (ltn rfl) rfl rfl rfl ?_
        refine go_aload_n (pc' := 46) cx dX5_pictures_45 rfl rfl ?_
        refine go_getr (pc' := 49) cx 4 fX5_32 dX5_pictures_46 kq0 (ltn rfl) (ltn rfl) rfl rfl rfl ?_
        refine go_iload_n (pc' := 50) cx dX5_pictures_49 rfl rfl ?_
        refine go_aaldk (pc' := 51) cx t (29 + 2 * t) dX5_pictures_50 kq4 (Nat.le_of_ble_eq_true rfl) (ltn rfl) (ltn rfl) (vpi (k := t) (a := 4) ht rfl rfl) (cli (k := t) (a := 4) ht rfl) (sh_r ht).2 rfl ?_
        refine go_iload_n (pc' := 52) cx dX5_pictures_51 rfl rfl ?_
        refine go_cVi (pc' := 55) cx (c_fotT l E (G := G_1) (row := (g (29 + 2 * t + 1))) hX.b (hG_1.2.2).1 ht (by omega) (pl := pl) (by omega) ((congrFun (hG_1.1 (29 + 2 * t) (by unfold scr; omega)) 2).trans h2) (hG_1.1 (29 + 2 * t + 1) (by unfold scr; omega))) mX4_firstOtherwise lX5_172 dX5_pictures_52 kq63 (ltn rfl) (ltn rfl) rfl rfl rfl rfl (ltn rfl) (Nat.le_of_ble_eq_true rfl) (Nat.le_of_ble_eq_true rfl) rfl ?_
        refine go_iret cx rfl dX5_pictures_55 ?_
        refine ZI.mk ⟨?_, hG_1.1⟩
        unfold pictX
        rw [if_neg (fun q => q.elim c4 c11), clt, clpl, show (shF g t).2.1 = sz from (congrArg clI h2).trans (clI_n (by omega))]
        show _ = pictF (M ru) (svC g 37) vn (g (29 + 2 * t + 1)) (g (29 + 2 * t) 1) sz pl
        unfold pictF
        rw [if_pos c29]
      · refine go_iload_n (pc' := 33) cx dX5_pictures_32 rfl rfl ?_
        refine go_iret cx rfl dX5_pictures_33 ?_
        refine ZI.mk ⟨?_, Fr.rf⟩
        unfold pictX
        rw [if_neg (fun q => q.elim c4 c11), clt, clpl, show (shF g t).2.1 = sz from (congrArg clI h2).trans (clI_n (by omega))]
        show _ = pictF (M ru) (svC g 37) vn (g (29 + 2 * t + 1)) (g (29 + 2 * t) 1) sz pl
        unfold pictF
        rw [if_neg c29]
    · refine go_bipush (pc' := 16) cx (-2) dX5_pictures_14 rfl rfl ?_
      refine go_iret cx rfl dX5_pictures_16 ?_
      exact ZI.mk ⟨by first | (unfold pictX; rw [if_pos (Or.inl c4)]; done) | (unfold pictX; rw [if_pos (Or.inr c11)]; done), Fr.rf⟩

set_option maxHeartbeats 1000000 in
set_option maxRecDepth 20000 in
theorem vals_loop {l : Launch} {E : Ev} {Z : ZT} {g : IG} {o : Option Nat} {z : Int64} {p : Program} {e : Env} {s : State} {m : MethodId} {args : Array Value} {below : List Frame} {meth : Method} {c : Code} {hn vn ru tc : Nat} {M : Nat → TM} (hX : XP g hn vn ru tc M) {t sz pl w of : Nat} (ht : t < 4) (hsz : sz ≤ 40) (h2 : g (29 + 2 * t) 2 = nI sz) (hszv : sz ≤ vn) (hpl : pl < 4) (hw : w = 4 ∨ w = 5 ∨ w = 7 ∨ w = 8 ∨ w = 9) (hof : of < 8)  (cx : Cx p s m args meth c E 88 cX5_valuesSeen 7 yX5_valuesSeen.cls (some .int)) : ∀ (k v : Nat) (G : IG), v + k = mostN hn w → Fr scr g G → (∃ a0, TH a0 hn vn ru G ∧ ∀ i k, ¬ (i = w ∧ k = of) → a0 i k = svC g 37 i k) → (∀ G', Fr scr g G' → Go p l e (rmd 6) s m args below meth c E 88 7 Z G' (RFo o) z 77 [(5, .int (btF (fun v => fotF (M ru) (up2 (svC g 37) w of (nI v)) (g (29 + 2 * t + 1)) pl sz) (mostN hn w)))] []) → Go p l e (rmd 6) s m args below meth c E 88 7 Z G (RFo o) z 13 [(6, .int (nI v)), (5, .int (btF (fun v => fotF (M ru) (up2 (svC g 37) w of (nI v)) (g (29 + 2 * t + 1)) pl sz) v)), (0, .ref (E.2.1 0)), (1, .ref (E.2.1 (29 + 2 * t))), (2, .int (nI pl)), (3, .int (nI w)), (4, .int (nI of))] [] := by
  obtain ⟨hhn5, hvn8, hruc, htc6⟩ := id hX.1
  have hm21 : mostN hn w ≤ 21 := mostN_le hhn5 hw
  intro k
  induction k with
  | zero =>
    intro v G hk hF hH kk
    have hq : v = mostN hn w := by omega
    subst hq
    refine go_iload (pc' := 15) cx dX5_valuesSeen_13 rfl rfl ?_
    refine go_aload_n (pc' := 16) cx dX5_valuesSeen_15 rfl rfl ?_
    refine go_getr (pc' := 19) cx 37 fX5_66 dX5_valuesSeen_16 kq0 (ltn rfl) (ltn rfl) rfl rfl rfl ?_
    refine go_iload_n (pc' := 20) cx dX5_valuesSeen_19 rfl rfl ?_
    refine go_cVi (pc' := 23) cx (c_mostT l E (G := G) hX hF hw) mX1_most lX5_232 dX5_valuesSeen_20 kq37 (ltn rfl) (ltn rfl) rfl rfl rfl rfl (ltn rfl) (Nat.le_of_ble_eq_true rfl) (Nat.le_of_ble_eq_true rfl) rfl ?_
    refine go_icmp_gt (pc' := 26) cx 77 dX5_valuesSeen_23 rfl rfl (fun _ => ?_) (fun hh => absurd (lt_m1 (by omega)) hh)
    refine go_sub [1] [(5, .int (btF (fun v => fotF (M ru) (up2 (svC g 37) w of (nI v)) (g (29 + 2 * t + 1)) pl sz) (mostN hn w)))] rfl ?_
    exact kk G hF
  | succ k ih =>
    intro v G hk hF hH kk
    obtain ⟨a0, hH, ha0⟩ := hH
    refine go_iload (pc' := 15) cx dX5_valuesSeen_13 rfl rfl ?_
    refine go_aload_n (pc' := 16) cx dX5_valuesSeen_15 rfl rfl ?_
    refine go_getr (pc' := 19) cx 37 fX5_66 dX5_valuesSeen_16 kq0 (ltn rfl) (ltn rfl) rfl rfl rfl ?_
    refine go_iload_n (pc' := 20) cx dX5_valuesSeen_19 rfl rfl ?_
    refine go_cVi (pc' := 23) cx (c_mostT l E (G := G) hX hF hw) mX1_most lX5_232 dX5_valuesSeen_20 kq37 (ltn rfl) (ltn rfl) rfl rfl rfl rfl (ltn rfl) (Nat.le_of_ble_eq_true rfl) (Nat.le_of_ble_eq_true rfl) rfl ?_
    refine go_icmp_gt (pc' := 26) cx 77 dX5_valuesSeen_23 rfl rfl (fun hh => absurd hh (nlt_m1 (by omega) (by omega))) (fun _ => ?_)
    refine go_aload_n (pc' := 27) cx dX5_valuesSeen_26 rfl rfl ?_
    refine go_getr (pc' := 30) cx 63 fX5_78 dX5_valuesSeen_27 kq0 (ltn rfl) (ltn rfl) rfl rfl rfl ?_
    refine go_getr (pc' := 33) cx 64 fX5_114 dX5_valuesSeen_30 kq63 (ltn rfl) (ltn rfl) rfl rfl rfl ?_
    refine go_iload_n (pc' := 34) cx dX5_valuesSeen_33 rfl rfl ?_
    refine go_iload (pc' := 36) cx dX5_valuesSeen_34 rfl rfl ?_
    refine go_iload (pc' := 38) cx dX5_valuesSeen_36 rfl rfl ?_
    have hdv : HdS (up2 a0 w of (nI v)) hn vn := by
      by_cases q : w = 7
      · subst q
        exact hH.2.2.2.2.up7 of (show v < hn by have : mostN hn 7 = hn := rfl
                                                omega)
      · exact hH.2.2.2.2.up of (nI v) q
    refine go_cVV (pc' := 41) cx (c_writeT l E (G := G) hF hH (w := w) (k := of) (by omega) (by omega) hof (nI of) (fun _ => rfl) (by omega) (nI v) hdv) mX1_write lX5_92 dX5_valuesSeen_38 kq64 (ltn rfl) (ltn rfl) rfl rfl rfl rfl (ltn rfl) (Nat.le_of_ble_eq_true rfl) (Nat.le_of_ble_eq_true rfl) rfl (fun G_1 hG_1 => ?_)
    have hb9 := fot_req (M := M ru) (row := (g (29 + 2 * t + 1))) (pl := pl) hpl (up8_req (hn := hn) (vn := vn) (x := nI v) ha0) hG_1.2.1.2.2.2.2 hhn5 hszv
    refine go_aload_n (pc' := 42) cx dX5_valuesSeen_41 rfl rfl ?_
    refine go_getr (pc' := 45) cx 63 fX5_78 dX5_valuesSeen_42 kq0 (ltn rfl) (ltn rfl) rfl rfl rfl ?_
    refine go_iconst (pc' := 46) cx 0 dX5_valuesSeen_45 rfl rfl ?_
    have hTG_2 := hX.tx hG_1.1 hX.1.2.2.1
    refine go_cVV (pc' := 49) cx (c_walk0T l E (G := G_1) hX.b hTG_2 hG_1.2.1) mX4_walk lX5_149 dX5_valuesSeen_46 kq63 (ltn rfl) (ltn rfl) rfl rfl rfl rfl (ltn rfl) (Nat.le_of_ble_eq_true rfl) (Nat.le_of_ble_eq_true rfl) rfl (fun G_2 hG_2 => ?_)
    have hG_2f := (hG_1.1).tr (hG_2.1.mono (fun _ => wk_scr))
    have hG_2t := (hG_1.2.1).wk hG_2.1
    have hG_2c := hG_2.2
    refine go_aload_n (pc' := 50) cx dX5_valuesSeen_49 rfl rfl ?_
    refine go_getr (pc' := 53) cx 63 fX5_78 dX5_valuesSeen_50 kq0 (ltn rfl) (ltn rfl) rfl rfl rfl ?_
    refine go_aload_n (pc' := 54) cx dX5_valuesSeen_53 rfl rfl ?_
    refine go_iload_n (pc' := 55) cx dX5_valuesSeen_54 rfl rfl ?_
    refine go_cVi (pc' := 58) cx (hb9 ▸ (c_fotT l E (G := G_2) (row := (g (29 + 2 * t + 1))) hX.b (hG_2c).1 ht (by omega) (pl := pl) (by omega) ((congrFun (hG_2f (29 + 2 * t) (by unfold scr; omega)) 2).trans h2) (hG_2f (29 + 2 * t + 1) (by unfold scr; omega)))) mX4_firstOtherwise lX5_172 dX5_valuesSeen_55 kq63 (ltn rfl) (ltn rfl) rfl rfl rfl rfl (ltn rfl) (Nat.le_of_ble_eq_true rfl) (Nat.le_of_ble_eq_true rfl) rfl ?_
    refine go_iconst (pc' := 59) cx (-1) dX5_valuesSeen_58 rfl rfl ?_
    refine go_icmp_ne (pc' := 62) cx 71 dX5_valuesSeen_59 rfl rfl (fun c59 => ?_) (fun c59 => ?_)
    · refine go_iinc (pc' := 74) cx (nI (v + 1)) dX5_valuesSeen_71 rfl (nI_1 v) (ltn rfl) [(6, .int (nI (v + 1))), (5, .int (btF (fun v => fotF (M ru) (up2 (svC g 37) w of (nI v)) (g (29 + 2 * t + 1)) pl sz) v)), (0, .ref (E.2.1 0)), (1, .ref (E.2.1 (29 + 2 * t))), (2, .int (nI pl)), (3, .int (nI w)), (4, .int (nI of))] rfl rfl ?_
      refine go_goto cx 13 dX5_valuesSeen_74 rfl ?_
      refine go_sub [0, 1, 2, 3, 4, 5, 6] [(6, .int (nI (v + 1))), (5, .int (btF (fun v => fotF (M ru) (up2 (svC g 37) w of (nI v)) (g (29 + 2 * t + 1)) pl sz) v)), (0, .ref (E.2.1 0)), (1, .ref (E.2.1 (29 + 2 * t))), (2, .int (nI pl)), (3, .int (nI w)), (4, .int (nI of))] rfl ?_
      have h9 := ih (v + 1) G_2 (by omega) hG_2f ⟨_, hG_2t, fun i k hi => (up2_n _ _ (by omega)).trans (ha0 i k hi)⟩ kk
      rw [btF_s] at h9
      first | (rw [if_pos c59] at h9; exact h9) | (rw [if_neg c59] at h9; exact h9)
    · refine go_iload (pc' := 64) cx dX5_valuesSeen_62 rfl rfl ?_
      refine go_iconst (pc' := 65) cx 1 dX5_valuesSeen_64 rfl rfl ?_
      refine go_iload (pc' := 67) cx dX5_valuesSeen_65 rfl rfl ?_
      refine go_ishl (pc' := 68) cx dX5_valuesSeen_67 rfl ?_
      refine go_ior (pc' := 69) cx dX5_valuesSeen_68 rfl ?_
      refine go_istore (pc' := 71) cx dX5_valuesSeen_69 (ltn rfl) [(5, .int ((btF (fun v => fotF (M ru) (up2 (svC g 37) w of (nI v)) (g (29 + 2 * t + 1)) pl sz) v) ||| (1 <<< (nI v &&& 31)))), (6, .int (nI v)), (0, .ref (E.2.1 0)), (1, .ref (E.2.1 (29 + 2 * t))), (2, .int (nI pl)), (3, .int (nI w)), (4, .int (nI of))] rfl rfl ?_
      refine go_iinc (pc' := 74) cx (nI (v + 1)) dX5_valuesSeen_71 rfl (nI_1 v) (ltn rfl) [(6, .int (nI (v + 1))), (5, .int ((btF (fun v => fotF (M ru) (up2 (svC g 37) w of (nI v)) (g (29 + 2 * t + 1)) pl sz) v) ||| (1 <<< (nI v &&& 31)))), (0, .ref (E.2.1 0)), (1, .ref (E.2.1 (29 + 2 * t))), (2, .int (nI pl)), (3, .int (nI w)), (4, .int (nI of))] rfl rfl ?_
      refine go_goto cx 13 dX5_valuesSeen_74 rfl ?_
      refine go_sub [0, 1, 2, 3, 4, 5, 6] [(6, .int (nI (v + 1))), (5, .int ((btF (fun v => fotF (M ru) (up2 (svC g 37) w of (nI v)) (g (29 + 2 * t + 1)) pl sz) v) ||| (1 <<< (nI v &&& 31)))), (0, .ref (E.2.1 0)), (1, .ref (E.2.1 (29 + 2 * t))), (2, .int (nI pl)), (3, .int (nI w)), (4, .int (nI of))] rfl ?_
      have h9 := ih (v + 1) G_2 (by omega) hG_2f ⟨_, hG_2t, fun i k hi => (up2_n _ _ (by omega)).trans (ha0 i k hi)⟩ kk
      rw [btF_s] at h9
      first | (rw [if_pos c59] at h9; exact h9) | (rw [if_neg c59] at h9; exact h9)

set_option maxHeartbeats 1000000 in
set_option maxRecDepth 20000 in
theorem c_X5_valuesSeen (l : Launch) (E : Ev) {g : IG} {o : Option Nat} {z : Int64} {hn vn ru tc : Nat} {M : Nat → TM} (hX : XP g hn vn ru tc M) {t sz pl w of : Nat} (ht : t < 4) (hsz : sz ≤ 40) (h2 : g (29 + 2 * t) 2 = nI sz) (hszv : sz ≤ vn) (hpl : pl < 4) (hw : w = 4 ∨ w = 5 ∨ w = 7 ∨ w = 8 ∨ w = 9) (hof : of < 8)  : Ct l E 88 yX5_valuesSeen cX5_valuesSeen 7 (some .int) 6 [.ref (E.2.1 0), .ref (E.2.1 (29 + 2 * t)), .int (nI pl), .int (nI w), .int (nI of)] g (RFo o) z (ZI (RFo o) z (fun x g1 => x = vsF (M ru) (svC g 37) (g (29 + 2 * t + 1)) pl sz w of (mostN hn w) ∧ Fr scr g g1)) := by
  refine Ct.of (lv0 := [(0, .ref (E.2.1 0)), (1, .ref (E.2.1 (29 + 2 * t))), (2, .int (nI pl)), (3, .int (nI w)), (4, .int (nI of))]) (by decide) (Nat.le_of_ble_eq_true rfl) rfl ?_
  intro p e s m below meth c cx
  obtain ⟨hhn5, hvn8, hruc, htc6⟩ := id hX.1
  refine go_iconst (pc' := 1) cx 0 dX5_valuesSeen_0 rfl rfl ?_
  refine go_istore (pc' := 3) cx dX5_valuesSeen_1 (ltn rfl) [(5, .int 0), (0, .ref (E.2.1 0)), (1, .ref (E.2.1 (29 + 2 * t))), (2, .int (nI pl)), (3, .int (nI w)), (4, .int (nI of))] rfl rfl ?_
  refine go_aload_n (pc' := 4) cx dX5_valuesSeen_3 rfl rfl ?_
  refine go_getr (pc' := 7) cx 63 fX5_78 dX5_valuesSeen_4 kq0 (ltn rfl) (ltn rfl) rfl rfl rfl ?_
  refine go_cVV (pc' := 10) cx (c_beginT l E (G := g) hX Fr.rf) mX4_begin lX5_111 dX5_valuesSeen_7 kq63 (ltn rfl) (ltn rfl) rfl rfl rfl rfl (ltn rfl) (Nat.le_of_ble_eq_true rfl) (Nat.le_of_ble_eq_true rfl) rfl (fun G_1 hG_1 => ?_)
  refine go_iconst (pc' := 11) cx 0 dX5_valuesSeen_10 rfl rfl ?_
  refine go_istore (pc' := 13) cx dX5_valuesSeen_11 (ltn rfl) [(6, .int 0), (5, .int 0), (0, .ref (E.2.1 0)), (1, .ref (E.2.1 (29 + 2 * t))), (2, .int (nI pl)), (3, .int (nI w)), (4, .int (nI of))] rfl rfl ?_
  refine vals_loop hX ht hsz h2 hszv hpl hw hof cx (mostN hn w) 0 G_1 (Nat.zero_add _) hG_1.1 ⟨_, hG_1.2, fun _ _ _ => rfl⟩ (fun G hF => ?_)
  refine go_iload (pc' := 79) cx dX5_valuesSeen_77 rfl rfl ?_
  refine go_iret cx rfl dX5_valuesSeen_79 ?_
  exact ZI.mk ⟨rfl, hF⟩

set_option maxHeartbeats 1000000 in
set_option maxRecDepth 20000 in
theorem texts_loop {l : Launch} {E : Ev} {Z : ZT} {g : IG} {o : Option Nat} {z : Int64} {p : Program} {e : Env} {s : State} {m : MethodId} {args : Array Value} {below : List Frame} {meth : Method} {c : Code} {hn vn ru tc : Nat} {M : Nat → TM} (hX : XP g hn vn ru tc M) {t sz pl : Nat} (ht : t < 4) (hsz : sz ≤ 40) (h2 : g (29 + 2 * t) 2 = nI sz) (hszv : sz ≤ vn) (hpl : pl < 4)  (cx : Cx p s m args meth c E 88 cX5_textsSeen 5 yX5_textsSeen.cls (some .int)) : ∀ (k v : Nat) (G : IG), v + k = tc → Fr scr g G → (∃ r0, TH (svC g 37) hn vn r0 G) → (∀ G', Fr scr g G' → Go p l e (rmd 6) s m args below meth c E 88 5 Z G' (RFo o) z 67 [(3, .int (btF (fun t1 => fotF (M t1) (svC g 37) (g (29 + 2 * t + 1)) pl sz) tc))] []) → Go p l e (rmd 6) s m args below meth c E 88 5 Z G (RFo o) z 12 [(4, .int (nI v)), (3, .int (btF (fun t1 => fotF (M t1) (svC g 37) (g (29 + 2 * t + 1)) pl sz) v)), (0, .ref (E.2.1 0)), (1, .ref (E.2.1 (29 + 2 * t))), (2, .int (nI pl))] [] := by
  obtain ⟨hhn5, hvn8, hruc, htc6⟩ := id hX.1
  intro k
  induction k with
  | zero =>
    intro v G hk hF hH kk
    have hq : v = tc := by omega
    subst hq
    refine go_iload (pc' := 14) cx dX5_textsSeen_12 rfl rfl ?_
    refine go_aload_n (pc' := 15) cx dX5_textsSeen_14 rfl rfl ?_
    refine go_geti (pc' := 18) cx (nI v) fX5_15 dX5_textsSeen_15 kq0 (ltn rfl) (ltn rfl) rfl ((congrFun (hF 0 (by unfold scr; omega)) 1).trans hX.2.2.2.2.1) rfl ?_
    refine go_icmp_ge (pc' := 21) cx 67 dX5_textsSeen_18 rfl rfl (fun _ => ?_) (fun hh => absurd ((nI_leI (a := v) (b := v) (by omega) (by omega)).mpr (Nat.le_refl _)) hh)
    refine go_sub [1] [(3, .int (btF (fun t1 => fotF (M t1) (svC g 37) (g (29 + 2 * t + 1)) pl sz) v))] rfl ?_
    exact kk G hF
  | succ k ih =>
    intro v G hk hF hH kk
    obtain ⟨r0, hH⟩ := hH
    refine go_iload (pc' := 14) cx dX5_textsSeen_12 rfl rfl ?_
    refine go_aload_n (pc' := 15) cx dX5_textsSeen_14 rfl rfl ?_
    refine go_geti (pc' := 18) cx (nI tc) fX5_15 dX5_textsSeen_15 kq0 (ltn rfl) (ltn rfl) rfl ((congrFun (hF 0 (by unfold scr; omega)) 1).trans hX.2.2.2.2.1) rfl ?_
    refine go_icmp_ge (pc' := 21) cx 67 dX5_textsSeen_18 rfl rfl (fun hh => absurd ((nI_leI (a := tc) (b := v) (by omega) (by omega)).mp hh) (by omega)) (fun _ => ?_)
    refine go_aload_n (pc' := 22) cx dX5_textsSeen_21 rfl rfl ?_
    refine go_getr (pc' := 25) cx 63 fX5_78 dX5_textsSeen_22 kq0 (ltn rfl) (ltn rfl) rfl rfl rfl ?_
    refine go_getr (pc' := 28) cx 64 fX5_114 dX5_textsSeen_25 kq63 (ltn rfl) (ltn rfl) rfl rfl rfl ?_
    refine go_iload (pc' := 30) cx dX5_textsSeen_28 rfl rfl ?_
    refine go_puti (pc' := 33) cx fX5_105 dX5_textsSeen_30 kq64 (ltn rfl) (ltn rfl) rfl rfl rfl rfl ?_
    obtain ⟨G_1, eG_1⟩ : ∃ y : IG, y = (up2 G 64 4 (nI v)) := ⟨_, rfl⟩
    refine go_g eG_1.symm ?_
    have fG_1 : Fr scr g G_1 := by
      rw [eG_1]
      exact hF.up2 (by unfold scr; omega)
    have tG_1 : TH (svC g 37) hn vn v G_1 := by
      rw [eG_1]
      exact hH.rule v
    refine go_aload_n (pc' := 34) cx dX5_textsSeen_33 rfl rfl ?_
    refine go_getr (pc' := 37) cx 63 fX5_78 dX5_textsSeen_34 kq0 (ltn rfl) (ltn rfl) rfl rfl rfl ?_
    refine go_iconst (pc' := 38) cx 0 dX5_textsSeen_37 rfl rfl ?_
    have hTG_2 := hX.tx fG_1 (show v < tc by omega)
    refine go_cVV (pc' := 41) cx (c_walk0T l E (G := G_1) (show XB hn vn v from ⟨hX.1.1, hX.1.2.1, by omega⟩) hTG_2 tG_1) mX4_walk lX5_149 dX5_textsSeen_38 kq63 (ltn rfl) (ltn rfl) rfl rfl rfl rfl (ltn rfl) (Nat.le_of_ble_eq_true rfl) (Nat.le_of_ble_eq_true rfl) rfl (fun G_2 hG_2 => ?_)
    have hG_2f := (fG_1).tr (hG_2.1.mono (fun _ => wk_scr))
    have hG_2t := (tG_1).wk hG_2.1
    have hG_2c := hG_2.2
    refine go_aload_n (pc' := 42) cx dX5_textsSeen_41 rfl rfl ?_
    refine go_getr (pc' := 45) cx 63 fX5_78 dX5_textsSeen_42 kq0 (ltn rfl) (ltn rfl) rfl rfl rfl ?_
    refine go_aload_n (pc' := 46) cx dX5_textsSeen_45 rfl rfl ?_
    refine go_iload_n (pc' := 47) cx dX5_textsSeen_46 rfl rfl ?_
    refine go_cVi (pc' := 50) cx (c_fotT l E (G := G_2) (row := (g (29 + 2 * t + 1))) (show XB hn vn v from ⟨hX.1.1, hX.1.2.1, by omega⟩) (hG_2c).1 ht (by omega) (pl := pl) (by omega) ((congrFun (hG_2f (29 + 2 * t) (by unfold scr; omega)) 2).trans h2) (hG_2f (29 + 2 * t + 1) (by unfold scr; omega))) mX4_firstOtherwise lX5_172 dX5_textsSeen_47 kq63 (ltn rfl) (ltn rfl) rfl rfl rfl rfl (ltn rfl) (Nat.le_of_ble_eq_true rfl) (Nat.le_of_ble_eq_true rfl) rfl ?_
    refine go_iconst (pc' := 51) cx (-1) dX5_textsSeen_50 rfl rfl ?_
    refine go_icmp_ne (pc' := 54) cx 61 dX5_textsSeen_51 rfl rfl (fun c51 => ?_) (fun c51 => ?_)
    · refine go_iinc (pc' := 64) cx (nI (v + 1)) dX5_textsSeen_61 rfl (nI_1 v) (ltn rfl) [(4, .int (nI (v + 1))), (3, .int (btF (fun t1 => fotF (M t1) (svC g 37) (g (29 + 2 * t + 1)) pl sz) v)), (0, .ref (E.2.1 0)), (1, .ref (E.2.1 (29 + 2 * t))), (2, .int (nI pl))] rfl rfl ?_
      refine go_goto cx 12 dX5_textsSeen_64 rfl ?_
      refine go_sub [0, 1, 2, 3, 4] [(4, .int (nI (v + 1))), (3, .int (btF (fun t1 => fotF (M t1) (svC g 37) (g (29 + 2 * t + 1)) pl sz) v)), (0, .ref (E.2.1 0)), (1, .ref (E.2.1 (29 + 2 * t))), (2, .int (nI pl))] rfl ?_
      have h9 := ih (v + 1) G_2 (by omega) hG_2f ⟨_, hG_2t⟩ kk
      rw [btF_s] at h9
      first | (rw [if_pos c51] at h9; exact h9) | (rw [if_neg c51] at h9; exact h9)
    · refine go_iload_n (pc' := 55) cx dX5_textsSeen_54 rfl rfl ?_
      refine go_iconst (pc' := 56) cx 1 dX5_textsSeen_55 rfl rfl ?_
      refine go_iload (pc' := 58) cx dX5_textsSeen_56 rfl rfl ?_
      refine go_ishl (pc' := 59) cx dX5_textsSeen_58 rfl ?_
      refine go_ior (pc' := 60) cx dX5_textsSeen_59 rfl ?_
      refine go_istore_n (pc' := 61) cx dX5_textsSeen_60 (ltn rfl) [(3, .int ((btF (fun t1 => fotF (M t1) (svC g 37) (g (29 + 2 * t + 1)) pl sz) v) ||| (1 <<< (nI v &&& 31)))), (4, .int (nI v)), (0, .ref (E.2.1 0)), (1, .ref (E.2.1 (29 + 2 * t))), (2, .int (nI pl))] rfl rfl ?_
      refine go_iinc (pc' := 64) cx (nI (v + 1)) dX5_textsSeen_61 rfl (nI_1 v) (ltn rfl) [(4, .int (nI (v + 1))), (3, .int ((btF (fun t1 => fotF (M t1) (svC g 37) (g (29 + 2 * t + 1)) pl sz) v) ||| (1 <<< (nI v &&& 31)))), (0, .ref (E.2.1 0)), (1, .ref (E.2.1 (29 + 2 * t))), (2, .int (nI pl))] rfl rfl ?_
      refine go_goto cx 12 dX5_textsSeen_64 rfl ?_
      refine go_sub [0, 1, 2, 3, 4] [(4, .int (nI (v + 1))), (3, .int ((btF (fun t1 => fotF (M t1) (svC g 37) (g (29 + 2 * t + 1)) pl sz) v) ||| (1 <<< (nI v &&& 31)))), (0, .ref (E.2.1 0)), (1, .ref (E.2.1 (29 + 2 * t))), (2, .int (nI pl))] rfl ?_
      have h9 := ih (v + 1) G_2 (by omega) hG_2f ⟨_, hG_2t⟩ kk
      rw [btF_s] at h9
      first | (rw [if_pos c51] at h9; exact h9) | (rw [if_neg c51] at h9; exact h9)

set_option maxHeartbeats 1000000 in
set_option maxRecDepth 20000 in
theorem c_X5_textsSeen (l : Launch) (E : Ev) {g : IG} {o : Option Nat} {z : Int64} {hn vn ru tc : Nat} {M : Nat → TM} (hX : XP g hn vn ru tc M) {t sz pl : Nat} (ht : t < 4) (hsz : sz ≤ 40) (h2 : g (29 + 2 * t) 2 = nI sz) (hszv : sz ≤ vn) (hpl : pl < 4)  : Ct l E 88 yX5_textsSeen cX5_textsSeen 5 (some .int) 6 [.ref (E.2.1 0), .ref (E.2.1 (29 + 2 * t)), .int (nI pl)] g (RFo o) z (ZI (RFo o) z (fun x g1 => x = ttF M (svC g 37) (g (29 + 2 * t + 1)) pl sz tc ∧ Fr scr g g1)) := by
  refine Ct.of (lv0 := [(0, .ref (E.2.1 0)), (1, .ref (E.2.1 (29 + 2 * t))), (2, .int (nI pl))]) (by decide) (Nat.le_of_ble_eq_true rfl) rfl ?_
  intro p e s m below meth c cx
  obtain ⟨hhn5, hvn8, hruc, htc6⟩ := id hX.1
  refine go_iconst (pc' := 1) cx 0 dX5_textsSeen_0 rfl rfl ?_
  refine go_istore_n (pc' := 2) cx dX5_textsSeen_1 (ltn rfl) [(3, .int 0), (0, .ref (E.2.1 0)), (1, .ref (E.2.1 (29 + 2 * t))), (2, .int (nI pl))] rfl rfl ?_
  refine go_aload_n (pc' := 3) cx dX5_textsSeen_2 rfl rfl ?_
  refine go_getr (pc' := 6) cx 63 fX5_78 dX5_textsSeen_3 kq0 (ltn rfl) (ltn rfl) rfl rfl rfl ?_
  refine go_cVV (pc' := 9) cx (c_beginT l E (G := g) hX Fr.rf) mX4_begin lX5_111 dX5_textsSeen_6 kq63 (ltn rfl) (ltn rfl) rfl rfl rfl rfl (ltn rfl) (Nat.le_of_ble_eq_true rfl) (Nat.le_of_ble_eq_true rfl) rfl (fun G_1 hG_1 => ?_)
  refine go_iconst (pc' := 10) cx 0 dX5_textsSeen_9 rfl rfl ?_
  refine go_istore (pc' := 12) cx dX5_textsSeen_10 (ltn rfl) [(4, .int 0), (3, .int 0), (0, .ref (E.2.1 0)), (1, .ref (E.2.1 (29 + 2 * t))), (2, .int (nI pl))] rfl rfl ?_
  refine texts_loop hX ht hsz h2 hszv hpl cx tc 0 G_1 (Nat.zero_add _) hG_1.1 ⟨_, hG_1.2⟩ (fun G hF => ?_)
  refine go_iload_n (pc' := 68) cx dX5_textsSeen_67 rfl rfl ?_
  refine go_iret cx rfl dX5_textsSeen_68 ?_
  exact ZI.mk ⟨rfl, hF⟩
