/-! THE CLASS: what is seen, films, the host -/
def sWn (k : Nat) : Nat := if k = 0 then 7 else if k = 1 then 9 else if k = 2 then 8 else if k = 3 then 4 else 5
def sCn (hn vn k : Nat) : Nat := if k < 3 then vn else hn
def seenF (M : Nat → TM) (ru : Nat) (a : Sv) (hn vn tc : Nat) (sh : Nat → Int32 × Nat × (Nat → Int32)) (k : Nat) (x1 x2 x4 : Int32) : Int32 :=
  if inI 4 x1 = 0 ∨ inI 4 x2 = 0 then -2 else if k < 5 ∧ inI (nI (sCn hn vn k)) x4 = 0 then -2
  else if prF (sh (clI x1)).1 (sh (clI x1)).2.1 vn = 0 then (if k = 5 then ttF M a (sh (clI x1)).2.2 (clI x2) (sh (clI x1)).2.1 tc else vsF (M ru) a (sh (clI x1)).2.2 (clI x2) (sh (clI x1)).2.1 (sWn k) (clI x4) (mostN hn (sWn k)))
  else prF (sh (clI x1)).1 (sh (clI x1)).2.1 vn
theorem names_w {g : IG} {w : Nat} {x n : Int32} (hw : w = 7 ∨ w = 8 ∨ w = 9 ∨ w = 4 ∨ w = 5 ∨ w = 10) (e : howMany g 37 (nI w) = n) : namesI g 37 (nI w) x = inI n x := by
  unfold namesI inI
  have h1 : ¬ nI w < 0 := by rcases hw with rfl | rfl | rfl | rfl | rfl | rfl <;> decide
  have h2 : ¬ (11 : Int32) ≤ nI w := by rcases hw with rfl | rfl | rfl | rfl | rfl | rfl <;> decide
  have h3 : ¬ nI w = 3 := by rcases hw with rfl | rfl | rfl | rfl | rfl | rfl <;> decide
  rw [if_neg h1, if_neg h2, if_neg h3, e]
theorem names_v {g : IG} {w : Nat} {x : Int32} {vn : Nat} (hw : w = 7 ∨ w = 8 ∨ w = 9) (h : g 37 3 = nI vn) : namesI g 37 (nI w) x = inI (nI vn) x := by
  refine names_w (by omega) ?_
  rcases hw with rfl | rfl | rfl <;> exact h
theorem names_h {g : IG} {w : Nat} {x : Int32} {hn : Nat} (hw : w = 4 ∨ w = 5 ∨ w = 10) (h : g 37 2 = nI hn) : namesI g 37 (nI w) x = inI (nI hn) x := by
  refine names_w (by omega) ?_
  rcases hw with rfl | rfl | rfl <;> exact h
theorem c_namesT (l : Launch) (E : Ev) {g : IG} {o : Option Nat} {z : Int64} {hn vn k : Nat} (hk : k < 5) (h2 : g 37 2 = nI hn) (h3 : g 37 3 = nI vn) (x : Int32) : Ct l E 88 yX1_names cX1_names 3 (some .boolean) 2 [.ref (E.2.1 37), .int (nI (sWn k)), .int x] g (RFo o) z (Zi (RFo o) z (inI (nI (sCn hn vn k)) x) g) := by
  refine (c_X1_names l E s37 (nI (sWn k)) x).wk ?_
  rintro _ _ _ _ ⟨rfl, rfl, rfl, rfl⟩
  refine Zi.mk ?_ rfl
  rcases (show k = 0 ∨ k = 1 ∨ k = 2 ∨ k = 3 ∨ k = 4 by omega) with rfl | rfl | rfl | rfl | rfl
  · exact names_v (w := 7) (by omega) h3
  · exact names_v (w := 9) (by omega) h3
  · exact names_v (w := 8) (by omega) h3
  · exact names_h (w := 4) (by omega) h2
  · exact names_h (w := 5) (by omega) h2
theorem c_namesK (l : Launch) (E : Ev) {g : IG} {o : Option Nat} {z : Int64} {hn : Nat} (h2 : g 37 2 = nI hn) (x : Int32) : Ct l E 88 yX1_names cX1_names 3 (some .boolean) 2 [.ref (E.2.1 37), .int 10, .int x] g (RFo o) z (Zi (RFo o) z (inI (nI hn) x) g) := by
  refine (c_X1_names l E s37 10 x).wk ?_
  rintro _ _ _ _ ⟨rfl, rfl, rfl, rfl⟩
  exact Zi.mk (names_h (w := 10) (by omega) h2) rfl
theorem fits_k {g : IG} {x : Int32} : fitsI g 37 10 x = inI 6 x := by
  have e1 : most g 37 10 = 5 := rfl
  unfold fitsI inI
  rw [if_neg (show ¬ (10 : Int32) = 3 by decide), e1]
  by_cases h : x < 0
  · rw [if_pos h, if_pos h]
  · rw [if_neg h, if_neg h]
    have e : (5 : Int32) < x ↔ (6 : Int32) ≤ x := by
      rw [Int32.lt_iff_toInt_lt, Int32.le_iff_toInt_le]
      have e5 : (5 : Int32).toInt = 5 := by decide
      have e6 : (6 : Int32).toInt = 6 := by decide
      omega
    by_cases q : (5 : Int32) < x
    · rw [if_pos q, if_pos (e.mp q)]
    · rw [if_neg q, if_neg (fun r => q (e.mpr r))]
theorem c_fitsK (l : Launch) (E : Ev) {g : IG} {o : Option Nat} {z : Int64} (x : Int32) : Ct l E 88 yX1_fits cX1_fits 3 (some .boolean) 2 [.ref (E.2.1 37), .int 10, .int x] g (RFo o) z (Zi (RFo o) z (inI 6 x) g) := by
  refine (c_X1_fits l E s37 10 x).wk ?_
  rintro _ _ _ _ ⟨rfl, rfl, rfl, rfl⟩
  exact Zi.mk fits_k rfl
def scS (t i : Nat) : Prop := scr i ∨ i = 29 + 2 * t ∨ i = 29 + 2 * t + 1
/-- a film: a sheet's row becomes a place's lengths -/
def flmR (f : Nat → Int32) (n : Nat) : Nat → Int32 := fun j => if j < n then f j else 0
theorem flm_s {f : Nat → Int32} {n : Nat} (R : Nat → Int32) (h : ∀ j, j < 40 → R j = flmR f n j) : ∀ j, j < 40 → upd R n (f n) j = flmR f (n + 1) j := by
  intro j hj
  unfold upd flmR
  by_cases h1 : j = n
  · rw [if_pos h1, if_pos (by omega), h1]
  · rw [if_neg h1, h j hj]
    unfold flmR
    by_cases h2 : j < n
    · rw [if_pos h2, if_pos (by omega)]
    · rw [if_neg h2, if_neg (by omega)]
def takF (hn : Nat) (kd nm : Nat → Int32) (x1 x2 : Int32) : Int32 := if inI 6 x2 = 0 then -2 else if inI (nI hn) x1 = 0 then -11 else if undV (kd (clI x1)) x2 = 0 then -13 else nm (clI x1)
/-- visits by a sheet -/
def nvN (g : IG) (vn : Nat) (hd wt : Int32) : Nat := if (nvX g vn hd wt).1 < 0 then vn else vn + 1
/-- a new visit: refused, or it comes -/
theorem nvX_cases {g : IG} {vn : Nat} {hd wt : Int32} : (∃ c : Int32, c < 0 ∧ nvX g vn hd wt = (c, g)) ∨ (vn < 8 ∧ nvX g vn hd wt = (nI vn, up2 (up2 (up2 (up2 g 37 3 (nI (vn + 1))) 46 vn hd) 47 vn (wt / 10)) 48 vn (wt - wt / 10 * 10))) := by
  unfold nvX
  by_cases h1 : fitsI g 37 7 hd = 0
  · exact Or.inl ⟨-2, by decide, if_pos h1⟩
  rw [if_neg h1]
  by_cases h2 : fitsI g 37 8 (wt / 10) = 0
  · exact Or.inl ⟨-2, by decide, if_pos h2⟩
  rw [if_neg h2]
  by_cases h3 : fitsI g 37 9 (wt - wt / 10 * 10) = 0
  · exact Or.inl ⟨-2, by decide, if_pos h3⟩
  rw [if_neg h3]
  by_cases h4 : vn < 8
  · exact Or.inr ⟨h4, if_pos h4⟩
  · exact Or.inl ⟨-4, by decide, if_neg h4⟩
theorem nvX_vn {g : IG} {vn : Nat} {hd wt : Int32} (hv : vn ≤ 8) (h3 : g 37 3 = nI vn) : nvN g vn hd wt ≤ 8 ∧ (nvX g vn hd wt).2 37 3 = nI (nvN g vn hd wt) := by
  unfold nvN
  rcases nvX_cases (g := g) (vn := vn) (hd := hd) (wt := wt) with ⟨c, hc, e⟩ | ⟨h4, e⟩
  · rw [e, if_pos hc]
    exact ⟨hv, h3⟩
  · rw [e, if_neg (nI_pos (by omega))]
    refine ⟨by omega, ?_⟩
    dsimp only
    rw [up2_n _ _ (Or.inl (by omega)), up2_n _ _ (Or.inl (by omega)), up2_n _ _ (Or.inl (by omega)), up2_s]
theorem nvX_fr {g : IG} {vn : Nat} {hd wt : Int32} {i : Nat} (h : i ≠ 37 ∧ i ≠ 46 ∧ i ≠ 47 ∧ i ≠ 48) : (nvX g vn hd wt).2 i = g i := by
  rcases nvX_cases (g := g) (vn := vn) (hd := hd) (wt := wt) with ⟨c, hc, e⟩ | ⟨h4, e⟩
  · rw [e]
  · rw [e]
    funext b
    dsimp only
    rw [up2_n _ _ (Or.inl h.2.2.2), up2_n _ _ (Or.inl h.2.2.1), up2_n _ _ (Or.inl h.2.1), up2_n _ _ (Or.inl h.1)]
/-- n visits out of a row, two by two: what is answered, the ints then -/
def vsL (row : Nat → Int32) (sz : Nat) (fr : Int32) : Nat → Nat → Int32 → IG → Nat → Int32 × IG
  | 0, _, ca, g, _ => (ca, g)
  | n + 1, k, ca, g, vn => if hasR (nI sz) (fr + 2 * nI k) 2 = 0 then (-12, g)
    else vsL row sz fr n (k + 1) (if (nvX g vn (row (clI (fr + 2 * nI k))) (row (clI (fr + 2 * nI k) + 1))).1 < 0 then ca else ca + 1) (nvX g vn (row (clI (fr + 2 * nI k))) (row (clI (fr + 2 * nI k) + 1))).2 (nvN g vn (row (clI (fr + 2 * nI k))) (row (clI (fr + 2 * nI k) + 1)))

set_option maxHeartbeats 1000000 in
set_option maxRecDepth 20000 in
theorem c_X5_rowSeen_0 (l : Launch) (E : Ev) {g : IG} {o : Option Nat} {z : Int64}  : Ct l E 88 yX5_rowSeen cX5_rowSeen 1 (some .int) 1 [.int 0] g (RFo o) z (Zi (RFo o) z 7 g) := by
  refine Ct.of (lv0 := [(0, .int 0)]) (by decide) (Nat.le_of_ble_eq_true rfl) rfl ?_
  intro p e s m below meth c cx
  refine go_iload_n (pc' := 1) cx dX5_rowSeen_0 rfl rfl ?_
  refine go_tabIn cx 32 dX5_rowSeen_1 (by decide) (by decide) rfl rfl ?_
  refine go_bipush (pc' := 34) cx 7 dX5_rowSeen_32 rfl rfl ?_
  refine go_iret cx rfl dX5_rowSeen_34 ?_
  exact Zi.mk rfl rfl

set_option maxHeartbeats 1000000 in
set_option maxRecDepth 20000 in
theorem c_X5_rowSeen_1 (l : Launch) (E : Ev) {g : IG} {o : Option Nat} {z : Int64}  : Ct l E 88 yX5_rowSeen cX5_rowSeen 1 (some .int) 1 [.int 1] g (RFo o) z (Zi (RFo o) z 9 g) := by
  refine Ct.of (lv0 := [(0, .int 1)]) (by decide) (Nat.le_of_ble_eq_true rfl) rfl ?_
  intro p e s m below meth c cx
  refine go_iload_n (pc' := 1) cx dX5_rowSeen_0 rfl rfl ?_
  refine go_tabIn cx 35 dX5_rowSeen_1 (by decide) (by decide) rfl rfl ?_
  refine go_bipush (pc' := 37) cx 9 dX5_rowSeen_35 rfl rfl ?_
  refine go_iret cx rfl dX5_rowSeen_37 ?_
  exact Zi.mk rfl rfl

set_option maxHeartbeats 1000000 in
set_option maxRecDepth 20000 in
theorem c_X5_rowSeen_2 (l : Launch) (E : Ev) {g : IG} {o : Option Nat} {z : Int64}  : Ct l E 88 yX5_rowSeen cX5_rowSeen 1 (some .int) 1 [.int 2] g (RFo o) z (Zi (RFo o) z 8 g) := by
  refine Ct.of (lv0 := [(0, .int 2)]) (by decide) (Nat.le_of_ble_eq_true rfl) rfl ?_
  intro p e s m below meth c cx
  refine go_iload_n (pc' := 1) cx dX5_rowSeen_0 rfl rfl ?_
  refine go_tabIn cx 38 dX5_rowSeen_1 (by decide) (by decide) rfl rfl ?_
  refine go_bipush (pc' := 40) cx 8 dX5_rowSeen_38 rfl rfl ?_
  refine go_iret cx rfl dX5_rowSeen_40 ?_
  exact Zi.mk rfl rfl

set_option maxHeartbeats 1000000 in
set_option maxRecDepth 20000 in
theorem c_X5_rowSeen_3 (l : Launch) (E : Ev) {g : IG} {o : Option Nat} {z : Int64}  : Ct l E 88 yX5_rowSeen cX5_rowSeen 1 (some .int) 1 [.int 3] g (RFo o) z (Zi (RFo o) z 4 g) := by
  refine Ct.of (lv0 := [(0, .int 3)]) (by decide) (Nat.le_of_ble_eq_true rfl) rfl ?_
  intro p e s m below meth c cx
  refine go_iload_n (pc' := 1) cx dX5_rowSeen_0 rfl rfl ?_
  refine go_tabIn cx 41 dX5_rowSeen_1 (by decide) (by decide) rfl rfl ?_
  refine go_iconst (pc' := 42) cx 4 dX5_rowSeen_41 rfl rfl ?_
  refine go_iret cx rfl dX5_rowSeen_42 ?_
  exact Zi.mk rfl rfl

set_option maxHeartbeats 1000000 in
set_option maxRecDepth 20000 in
theorem c_X5_rowSeen_4 (l : Launch) (E : Ev) {g : IG} {o : Option Nat} {z : Int64}  : Ct l E 88 yX5_rowSeen cX5_rowSeen 1 (some .int) 1 [.int 4] g (RFo o) z (Zi (RFo o) z 5 g) := by
  refine Ct.of (lv0 := [(0, .int 4)]) (by decide) (Nat.le_of_ble_eq_true rfl) rfl ?_
  intro p e s m below meth c cx
  refine go_iload_n (pc' := 1) cx dX5_rowSeen_0 rfl rfl ?_
  refine go_tabOut cx 43 dX5_rowSeen_1 (by decide) rfl ?_
  refine go_iconst (pc' := 44) cx 5 dX5_rowSeen_43 rfl rfl ?_
  refine go_iret cx rfl dX5_rowSeen_44 ?_
  exact Zi.mk rfl rfl

set_option maxHeartbeats 1000000 in
set_option maxRecDepth 20000 in
theorem c_X5_seen_0 (l : Launch) (E : Ev) {g : IG} {o : Option Nat} {z : Int64} {hn vn ru tc : Nat} {M : Nat → TM} (hX : XP g hn vn ru tc M) (hS : ShX g) (x1 x2 x4 : Int32) : Ct l E 88 yX5_seen cX5_seen 6 (some .int) 8 [.ref (E.2.1 0), .int x1, .int x2, .int 0, .int x4] g (RFo o) z (ZI (RFo o) z (fun x g1 => x = seenF M ru (svC g 37) hn vn tc (shF g) 0 x1 x2 x4 ∧ Fr scr g g1)) := by
  refine Ct.of (lv0 := [(0, .ref (E.2.1 0)), (1, .int x1), (2, .int x2), (3, .int 0), (4, .int x4)]) (by decide) (Nat.le_of_ble_eq_true rfl) rfl ?_
  intro p e s m below meth c cx
  obtain ⟨hhn5, hvn8, hruc, htc6⟩ := id hX.1
  refine go_iload_n (pc' := 1) cx dX5_seen_0 rfl rfl ?_
  refine go_cSi (pc' := 4) cx (c_X5_isSheet l E (g := g) x1) mX5_isSheet lX5_165 dX5_seen_1 rfl rfl rfl (ltn rfl) (Nat.le_of_ble_eq_true rfl) (Nat.le_of_ble_eq_true rfl) rfl ?_
  refine go_if_eq (pc' := 7) cx 23 dX5_seen_4 rfl rfl (fun c4 => ?_) (fun c4 => ?_)
  · refine go_bipush (pc' := 25) cx (-2) dX5_seen_23 rfl rfl ?_
    refine go_iret cx rfl dX5_seen_25 ?_
    refine ZI.mk ⟨?_, Fr.rf⟩
    unfold seenF
    first | rw [if_pos (Or.inl c4)] | rw [if_pos (Or.inr c11)]
  · refine go_iload_n (pc' := 8) cx dX5_seen_7 rfl rfl ?_
    refine go_cSi (pc' := 11) cx (c_X5_isPlace l E (g := g) x2) mX5_isPlace lX5_124 dX5_seen_8 rfl rfl rfl (ltn rfl) (Nat.le_of_ble_eq_true rfl) (Nat.le_of_ble_eq_true rfl) rfl ?_
    refine go_if_eq (pc' := 14) cx 23 dX5_seen_11 rfl rfl (fun c11 => ?_) (fun c11 => ?_)
    · refine go_bipush (pc' := 25) cx (-2) dX5_seen_23 rfl rfl ?_
      refine go_iret cx rfl dX5_seen_25 ?_
      refine ZI.mk ⟨?_, Fr.rf⟩
      unfold seenF
      first | rw [if_pos (Or.inl c4)] | rw [if_pos (Or.inr c11)]
    · refine go_iload_n (pc' := 15) cx dX5_seen_14 rfl rfl ?_
      refine go_if_lt (pc' := 18) cx 23 dX5_seen_15 rfl rfl (fun hh => absurd hh (by decide)) (fun _ => ?_)
      refine go_iload_n (pc' := 19) cx dX5_seen_18 rfl rfl ?_
      refine go_iconst (pc' := 20) cx 5 dX5_seen_19 rfl rfl ?_
      refine go_icmp_le (pc' := 23) cx 26 dX5_seen_20 rfl rfl (fun _ => ?_) (fun hh => absurd hh (by decide))
      obtain ⟨t, ht, et⟩ := in_ok (k := 4) (by omega) c4
      subst et
      obtain ⟨pl, hpl, epl⟩ := in_ok (k := 4) (by omega) c11
      subst epl
      have clt := clI_n (k := t) (by omega)
      have clpl := clI_n (k := pl) (by omega)
      obtain ⟨sz, hsz, h2⟩ := hS t ht
      refine go_iload_n (pc' := 27) cx dX5_seen_26 rfl rfl ?_
      refine go_iconst (pc' := 28) cx 5 dX5_seen_27 rfl rfl ?_
      refine go_icmp_ge (pc' := 31) cx 50 dX5_seen_28 rfl rfl (fun hh => absurd hh (by decide)) (fun _ => ?_)
      refine go_aload_n (pc' := 32) cx dX5_seen_31 rfl rfl ?_
      refine go_getr (pc' := 35) cx 37 fX5_66 dX5_seen_32 kq0 (ltn rfl) (ltn rfl) rfl rfl rfl ?_
      refine go_iload_n (pc' := 36) cx dX5_seen_35 rfl rfl ?_
      refine go_cSi (pc' := 39) cx (c_X5_rowSeen_0 l E (g := g)) mX5_rowSeen lX5_176 dX5_seen_36 rfl rfl rfl (ltn rfl) (Nat.le_of_ble_eq_true rfl) (Nat.le_of_ble_eq_true rfl) rfl ?_
      refine go_iload (pc' := 41) cx dX5_seen_39 rfl rfl ?_
      refine go_cVi (pc' := 44) cx (c_namesT l E (g := g) (k := 0) (by omega) hX.2.1 hX.2.2.1 x4) mX1_names lX5_82 dX5_seen_41 kq37 (ltn rfl) (ltn rfl) rfl rfl rfl rfl (ltn rfl) (Nat.le_of_ble_eq_true rfl) (Nat.le_of_ble_eq_true rfl) rfl ?_
      refine go_if_ne (pc' := 47) cx 50 dX5_seen_44 rfl rfl (fun c44 => ?_) (fun c44 => ?_)
      · obtain ⟨of, hof, eof⟩ := in_ok (k := sCn hn vn 0) (by unfold sCn; simp; omega) c44
        subst eof
        have hof8 : of < 8 := by
          have : sCn hn vn 0 = vn := rfl
          omega
        have clof := clI_n (k := of) (by omega)
        refine go_aload_n (pc' := 51) cx dX5_seen_50 rfl rfl ?_
        refine go_aload_n (pc' := 52) cx dX5_seen_51 rfl rfl ?_
        refine go_getr (pc' := 55) cx 4 fX5_32 dX5_seen_52 kq0 (ltn rfl) (ltn rfl) rfl rfl rfl ?_
        refine go_iload_n (pc' := 56) cx dX5_seen_55 rfl rfl ?_
        refine go_aaldk (pc' := 57) cx t (29 + 2 * t) dX5_seen_56 kq4 (Nat.le_of_ble_eq_true rfl) (ltn rfl) (ltn rfl) (vpi (k := t) (a := 4) ht rfl rfl) (cli (k := t) (a := 4) ht rfl) (sh_r ht).2 rfl ?_
        refine go_cVi (pc' := 60) cx (c_X5_pictureRefusal l E hX ht hsz h2) mX5_pictureRefusal lX5_168 dX5_seen_57 kq0 (ltn rfl) (ltn rfl) rfl rfl rfl rfl (ltn rfl) (Nat.le_of_ble_eq_true rfl) (Nat.le_of_ble_eq_true rfl) rfl ?_
        refine go_istore (pc' := 62) cx dX5_seen_60 (ltn rfl) [(5, .int (prF (g (29 + 2 * t) 1) sz vn)), (0, .ref (E.2.1 0)), (1, .int (nI t)), (2, .int (nI pl)), (3, .int 0), (4, .int (nI of))] rfl rfl ?_
        refine go_iload (pc' := 64) cx dX5_seen_62 rfl rfl ?_
        refine go_if_eq (pc' := 67) cx 70 dX5_seen_64 rfl rfl (fun c64 => ?_) (fun c64 => ?_)
        · have hszv : sz ≤ vn := prF_le c64
          refine go_iload_n (pc' := 71) cx dX5_seen_70 rfl rfl ?_
          refine go_iconst (pc' := 72) cx 5 dX5_seen_71 rfl rfl ?_
          refine go_icmp_ne (pc' := 75) cx 87 dX5_seen_72 rfl rfl (fun _ => ?_) (fun hh => absurd hh (by decide))
          refine go_aload_n (pc' := 88) cx dX5_seen_87 rfl rfl ?_
          refine go_aload_n (pc' := 89) cx dX5_seen_88 rfl rfl ?_
          refine go_getr (pc' := 92) cx 4 fX5_32 dX5_seen_89 kq0 (ltn rfl) (ltn rfl) rfl rfl rfl ?_
          refine go_iload_n (pc' := 93) cx dX5_seen_92 rfl rfl ?_
          refine go_aaldk (pc' := 94) cx t (29 + 2 * t) dX5_seen_93 kq4 (Nat.le_of_ble_eq_true rfl) (ltn rfl) (ltn rfl) (vpi (k := t) (a := 4) ht rfl rfl) (cli (k := t) (a := 4) ht rfl) (sh_r ht).2 rfl ?_
          refine go_iload_n (pc' := 95) cx dX5_seen_94 rfl rfl ?_
          refine go_iload_n (pc' := 96) cx dX5_seen_95 rfl rfl ?_
          refine go_cSi (pc' := 99) cx (c_X5_rowSeen_0 l E (g := g)) mX5_rowSeen lX5_176 dX5_seen_96 rfl rfl rfl (ltn rfl) (Nat.le_of_ble_eq_true rfl) (Nat.le_of_ble_eq_true rfl) rfl ?_
          refine go_iload (pc' := 101) cx dX5_seen_99 rfl rfl ?_
          refine go_cVI (pc' := 104) cx (c_X5_valuesSeen l E hX ht hsz h2 hszv hpl (w := 7) (by omega) hof8) mX5_valuesSeen lX5_182 dX5_seen_101 kq0 (ltn rfl) (ltn rfl) rfl rfl rfl rfl (ltn rfl) (Nat.le_of_ble_eq_true rfl) (Nat.le_of_ble_eq_true rfl) rfl (fun y_2 G_1 hG_1 => ?_)
          have ey_2 := hG_1.1
          subst ey_2
          refine go_iret cx rfl dX5_seen_104 ?_
          refine ZI.mk ⟨?_, hG_1.2⟩
          show _ = seenF M ru (svC g 37) hn vn tc (shF g) 0 (nI t) (nI pl) (nI of)
          unfold seenF
          rw [if_neg (fun q => q.elim c4 c11), clt, clpl, show (shF g t).2.1 = sz from (congrArg clI h2).trans (clI_n (by omega))]
          rw [if_neg (fun q => c44 q.2)]
          rw [if_pos (show prF (shF g t).1 sz vn = 0 from c64)]
          rw [if_neg (by omega), clof]
          rfl
        · refine go_iload (pc' := 69) cx dX5_seen_67 rfl rfl ?_
          refine go_iret cx rfl dX5_seen_69 ?_
          refine ZI.mk ⟨?_, Fr.rf⟩
          show _ = seenF M ru (svC g 37) hn vn tc (shF g) 0 (nI t) (nI pl) (nI of)
          unfold seenF
          rw [if_neg (fun q => q.elim c4 c11), clt, clpl, show (shF g t).2.1 = sz from (congrArg clI h2).trans (clI_n (by omega))]
          rw [if_neg (fun q => c44 q.2)]
          show prF (g (29 + 2 * t) 1) sz vn = if prF (g (29 + 2 * t) 1) sz vn = 0 then _ else prF (g (29 + 2 * t) 1) sz vn
          rw [if_neg c64]
      · refine go_bipush (pc' := 49) cx (-2) dX5_seen_47 rfl rfl ?_
        refine go_iret cx rfl dX5_seen_49 ?_
        refine ZI.mk ⟨?_, Fr.rf⟩
        unfold seenF
        rw [if_neg (fun q => q.elim c4 c11), if_pos ⟨by omega, c44⟩]

set_option maxHeartbeats 1000000 in
set_option maxRecDepth 20000 in
theorem c_X5_seen_1 (l : Launch) (E : Ev) {g : IG} {o : Option Nat} {z : Int64} {hn vn ru tc : Nat} {M : Nat → TM} (hX : XP g hn vn ru tc M) (hS : ShX g) (x1 x2 x4 : Int32) : Ct l E 88 yX5_seen cX5_seen 6 (some .int) 8 [.ref (E.2.1 0), .int x1, .int x2, .int 1, .int x4] g (RFo o) z (ZI (RFo o) z (fun x g1 => x = seenF M ru (svC g 37) hn vn tc (shF g) 1 x1 x2 x4 ∧ Fr scr g g1)) := by
  refine Ct.of (lv0 := [(0, .ref (E.2.1 0)), (1, .int x1), (2, .int x2), (3, .int 1), (4, .int x4)]) (by decide) (Nat.le_of_ble_eq_true rfl) rfl ?_
  intro p e s m below meth c cx
  obtain ⟨hhn5, hvn8, hruc, htc6⟩ := id hX.1
  refine go_iload_n (pc' := 1) cx dX5_seen_0 rfl rfl ?_
  refine go_cSi (pc' := 4) cx (c_X5_isSheet l E (g := g) x1) mX5_isSheet lX5_165 dX5_seen_1 rfl rfl rfl (ltn rfl) (Nat.le_of_ble_eq_true rfl) (Nat.le_of_ble_eq_true rfl) rfl ?_
  refine go_if_eq (pc' := 7) cx 23 dX5_seen_4 rfl rfl (fun c4 => ?_) (fun c4 => ?_)
  · refine go_bipush (pc' := 25) cx (-2) dX5_seen_23 rfl rfl ?_
    refine go_iret cx rfl dX5_seen_25 ?_
    refine ZI.mk ⟨?_, Fr.rf⟩
    unfold seenF
    first | rw [if_pos (Or.inl c4)] | rw [if_pos (Or.inr c11)]
  · refine go_iload_n (pc' := 8) cx dX5_seen_7 rfl rfl ?_
    refine go_cSi (pc' := 11) cx (c_X5_isPlace l E (g := g) x2) mX5_isPlace lX5_124 dX5_seen_8 rfl rfl rfl (ltn rfl) (Nat.le_of_ble_eq_true rfl) (Nat.le_of_ble_eq_true rfl) rfl ?_
    refine go_if_eq (pc' := 14) cx 23 dX5_seen_11 rfl rfl (fun c11 => ?_) (fun c11 => ?_)
    · refine go_bipush (pc' := 25) cx (-2) dX5_seen_23 rfl rfl ?_
      refine go_iret cx rfl dX5_seen_25 ?_
      refine ZI.mk ⟨?_, Fr.rf⟩
      unfold seenF
      first | rw [if_pos (Or.inl c4)] | rw [if_pos (Or.inr c11)]
    · refine go_iload_n (pc' := 15) cx dX5_seen_14 rfl rfl ?_
      refine go_if_lt (pc' := 18) cx 23 dX5_seen_15 rfl rfl (fun hh => absurd hh (by decide)) (fun _ => ?_)
      refine go_iload_n (pc' := 19) cx dX5_seen_18 rfl rfl ?_
      refine go_iconst (pc' := 20) cx 5 dX5_seen_19 rfl rfl ?_
      refine go_icmp_le (pc' := 23) cx 26 dX5_seen_20 rfl rfl (fun _ => ?_) (fun hh => absurd hh (by decide))
      obtain ⟨t, ht, et⟩ := in_ok (k := 4) (by omega) c4
      subst et
      obtain ⟨pl, hpl, epl⟩ := in_ok (k := 4) (by omega) c11
      subst epl
      have clt := clI_n (k := t) (by omega)
      have clpl := clI_n (k := pl) (by omega)
      obtain ⟨sz, hsz, h2⟩ := hS t ht
      refine go_iload_n (pc' := 27) cx dX5_seen_26 rfl rfl ?_
      refine go_iconst (pc' := 28) cx 5 dX5_seen_27 rfl rfl ?_
      refine go_icmp_ge (pc' := 31) cx 50 dX5_seen_28 rfl rfl (fun hh => absurd hh (by decide)) (fun _ => ?_)
      refine go_aload_n (pc' := 32) cx dX5_seen_31 rfl rfl ?_
      refine go_getr (pc' := 35) cx 37 fX5_66 dX5_seen_32 kq0 (ltn rfl) (ltn rfl) rfl rfl rfl ?_
      refine go_iload_n (pc' := 36) cx dX5_seen_35 rfl rfl ?_
      refine go_cSi (pc' := 39) cx (c_X5_rowSeen_1 l E (g := g)) mX5_rowSeen lX5_176 dX5_seen_36 rfl rfl rfl (ltn rfl) (Nat.le_of_ble_eq_true rfl) (Nat.le_of_ble_eq_true rfl) rfl ?_
      refine go_iload (pc' := 41) cx dX5_seen_39 rfl rfl ?_
      refine go_cVi (pc' := 44) cx (c_namesT l E (g := g) (k := 1) (by omega) hX.2.1 hX.2.2.1 x4) mX1_names lX5_82 dX5_seen_41 kq37 (ltn rfl) (ltn rfl) rfl rfl rfl rfl (ltn rfl) (Nat.le_of_ble_eq_true rfl) (Nat.le_of_ble_eq_true rfl) rfl ?_
      refine go_if_ne (pc' := 47) cx 50 dX5_seen_44 rfl rfl (fun c44 => ?_) (fun c44 => ?_)
      · obtain ⟨of, hof, eof⟩ := in_ok (k := sCn hn vn 1) (by unfold sCn; simp; omega) c44
        subst eof
        have hof8 : of < 8 := by
          have : sCn hn vn 1 = vn := rfl
          omega
        have clof := clI_n (k := of) (by omega)
        refine go_aload_n (pc' := 51) cx dX5_seen_50 rfl rfl ?_
        refine go_aload_n (pc' := 52) cx dX5_seen_51 rfl rfl ?_
        refine go_getr (pc' := 55) cx 4 fX5_32 dX5_seen_52 kq0 (ltn rfl) (ltn rfl) rfl rfl rfl ?_
        refine go_iload_n (pc' := 56) cx dX5_seen_55 rfl rfl ?_
        refine go_aaldk (pc' := 57) cx t (29 + 2 * t) dX5_seen_56 kq4 (Nat.le_of_ble_eq_true rfl) (ltn rfl) (ltn rfl) (vpi (k := t) (a := 4) ht rfl rfl) (cli (k := t) (a := 4) ht rfl) (sh_r ht).2 rfl ?_
        refine go_cVi (pc' := 60) cx (c_X5_pictureRefusal l E hX ht hsz h2) mX5_pictureRefusal lX5_168 dX5_seen_57 kq0 (ltn rfl) (ltn rfl) rfl rfl rfl rfl (ltn rfl) (Nat.le_of_ble_eq_true rfl) (Nat.le_of_ble_eq_true rfl) rfl ?_
        refine go_istore (pc' := 62) cx dX5_seen_60 (ltn rfl) [(5, .int (prF (g (29 + 2 * t) 1) sz vn)), (0, .ref (E.2.1 0)), (1, .int (nI t)), (2, .int (nI pl)), (3, .int 1), (4, .int (nI of))] rfl rfl ?_
        refine go_iload (pc' := 64) cx dX5_seen_62 rfl rfl ?_
        refine go_if_eq (pc' := 67) cx 70 dX5_seen_64 rfl rfl (fun c64 => ?_) (fun c64 => ?_)
        · have hszv : sz ≤ vn := prF_le c64
          refine go_iload_n (pc' := 71) cx dX5_seen_70 rfl rfl ?_
          refine go_iconst (pc' := 72) cx 5 dX5_seen_71 rfl rfl ?_
          refine go_icmp_ne (pc' := 75) cx 87 dX5_seen_72 rfl rfl (fun _ => ?_) (fun hh => absurd hh (by decide))
          refine go_aload_n (pc' := 88) cx dX5_seen_87 rfl rfl ?_
          refine go_aload_n (pc' := 89) cx dX5_seen_88 rfl rfl ?_
          refine go_getr (pc' := 92) cx 4 fX5_32 dX5_seen_89 kq0 (ltn rfl) (ltn rfl) rfl rfl rfl ?_
          refine go_iload_n (pc' := 93) cx dX5_seen_92 rfl rfl ?_
          refine go_aaldk (pc' := 94) cx t (29 + 2 * t) dX5_seen_93 kq4 (Nat.le_of_ble_eq_true rfl) (ltn rfl) (ltn rfl) (vpi (k := t) (a := 4) ht rfl rfl) (cli (k := t) (a := 4) ht rfl) (sh_r ht).2 rfl ?_
          refine go_iload_n (pc' := 95) cx dX5_seen_94 rfl rfl ?_
          refine go_iload_n (pc' := 96) cx dX5_seen_95 rfl rfl ?_
          refine go_cSi (pc' := 99) cx (c_X5_rowSeen_1 l E (g := g)) mX5_rowSeen lX5_176 dX5_seen_96 rfl rfl rfl (ltn rfl) (Nat.le_of_ble_eq_true rfl) (Nat.le_of_ble_eq_true rfl) rfl ?_
          refine go_iload (pc' := 101) cx dX5_seen_99 rfl rfl ?_
          refine go_cVI (pc' := 104) cx (c_X5_valuesSeen l E hX ht hsz h2 hszv hpl (w := 9) (by omega) hof8) mX5_valuesSeen lX5_182 dX5_seen_101 kq0 (ltn rfl) (ltn rfl) rfl rfl rfl rfl (ltn rfl) (Nat.le_of_ble_eq_true rfl) (Nat.le_of_ble_eq_true rfl) rfl (fun y_2 G_1 hG_1 => ?_)
          have ey_2 := hG_1.1
          subst ey_2
          refine go_iret cx rfl dX5_seen_104 ?_
          refine ZI.mk ⟨?_, hG_1.2⟩
          show _ = seenF M ru (svC g 37) hn vn tc (shF g) 1 (nI t) (nI pl) (nI of)
          unfold seenF
          rw [if_neg (fun q => q.elim c4 c11), clt, clpl, show (shF g t).2.1 = sz from (congrArg clI h2).trans (clI_n (by omega))]
          rw [if_neg (fun q => c44 q.2)]
          rw [if_pos (show prF (shF g t).1 sz vn = 0 from c64)]
          rw [if_neg (by omega), clof]
          rfl
        · refine go_iload (pc' := 69) cx dX5_seen_67 rfl rfl ?_
          refine go_iret cx rfl dX5_seen_69 ?_
          refine ZI.mk ⟨?_, Fr.rf⟩
          show _ = seenF M ru (svC g 37) hn vn tc (shF g) 1 (nI t) (nI pl) (nI of)
          unfold seenF
          rw [if_neg (fun q => q.elim c4 c11), clt, clpl, show (shF g t).2.1 = sz from (congrArg clI h2).trans (clI_n (by omega))]
          rw [if_neg (fun q => c44 q.2)]
          show prF (g (29 + 2 * t) 1) sz vn = if prF (g (29 + 2 * t) 1) sz vn = 0 then _ else prF (g (29 + 2 * t) 1) sz vn
          rw [if_neg c64]
      · refine go_bipush (pc' := 49) cx (-2) dX5_seen_47 rfl rfl ?_
        refine go_iret cx rfl dX5_seen_49 ?_
        refine ZI.mk ⟨?_, Fr.rf⟩
        unfold seenF
        rw [if_neg (fun q => q.elim c4 c11), if_pos ⟨by omega, c44⟩]

set_option maxHeartbeats 1000000 in
set_option maxRecDepth 20000 in
theorem c_X5_seen_2 (l : Launch) (E : Ev) {g : IG} {o : Option Nat} {z : Int64} {hn vn ru tc : Nat} {M : Nat → TM} (hX : XP g hn vn ru tc M) (hS : ShX g) (x1 x2 x4 : Int32) : Ct l E 88 yX5_seen cX5_seen 6 (some .int) 8 [.ref (E.2.1 0), .int x1, .int x2, .int 2, .int x4] g (RFo o) z (ZI (RFo o) z (fun x g1 => x = seenF M ru (svC g 37) hn vn tc (shF g) 2 x1 x2 x4 ∧ Fr scr g g1)) := by
  refine Ct.of (lv0 := [(0, .ref (E.2.1 0)), (1, .int x1), (2, .int x2), (3, .int 2), (4, .int x4)]) (by decide) (Nat.le_of_ble_eq_true rfl) rfl ?_
  intro p e s m below meth c cx
  obtain ⟨hhn5, hvn8, hruc, htc6⟩ := id hX.1
  refine go_iload_n (pc' := 1) cx dX5_seen_0 rfl rfl ?_
  refine go_cSi (pc' := 4) cx (c_X5_isSheet l E (g := g) x1) mX5_isSheet lX5_165 dX5_seen_1 rfl rfl rfl (ltn rfl) (Nat.le_of_ble_eq_true rfl) (Nat.le_of_ble_eq_true rfl) rfl ?_
  refine go_if_eq (pc' := 7) cx 23 dX5_seen_4 rfl rfl (fun c4 => ?_) (fun c4 => ?_)
  · refine go_bipush (pc' := 25) cx (-2) dX5_seen_23 rfl rfl ?_
    refine go_iret cx rfl dX5_seen_25 ?_
    refine ZI.mk ⟨?_, Fr.rf⟩
    unfold seenF
    first | rw [if_pos (Or.inl c4)] | rw [if_pos (Or.inr c11)]
  · refine go_iload_n (pc' := 8) cx dX5_seen_7 rfl rfl ?_
    refine go_cSi (pc' := 11) cx (c_X5_isPlace l E (g := g) x2) mX5_isPlace lX5_124 dX5_seen_8 rfl rfl rfl (ltn rfl) (Nat.le_of_ble_eq_true rfl) (Nat.le_of_ble_eq_true rfl) rfl ?_
    refine go_if_eq (pc' := 14) cx 23 dX5_seen_11 rfl rfl (fun c11 => ?_) (fun c11 => ?_)
    · refine go_bipush (pc' := 25) cx (-2) dX5_seen_23 rfl rfl ?_
      refine go_iret cx rfl dX5_seen_25 ?_
      refine ZI.mk ⟨?_, Fr.rf⟩
      unfold seenF
      first | rw [if_pos (Or.inl c4)] | rw [if_pos (Or.inr c11)]
    · refine go_iload_n (pc' := 15) cx dX5_seen_14 rfl rfl ?_
      refine go_if_lt (pc' := 18) cx 23 dX5_seen_15 rfl rfl (fun hh => absurd hh (by decide)) (fun _ => ?_)
      refine go_iload_n (pc' := 19) cx dX5_seen_18 rfl rfl ?_
      refine go_iconst (pc' := 20) cx 5 dX5_seen_19 rfl rfl ?_
      refine go_icmp_le (pc' := 23) cx 26 dX5_seen_20 rfl rfl (fun _ => ?_) (fun hh => absurd hh (by decide))
      obtain ⟨t, ht, et⟩ := in_ok (k := 4) (by omega) c4
      subst et
      obtain ⟨pl, hpl, epl⟩ := in_ok (k := 4) (by omega) c11
      subst epl
      have clt := clI_n (k := t) (by omega)
      have clpl := clI_n (k := pl) (by omega)
      obtain ⟨sz, hsz, h2⟩ := hS t ht
      refine go_iload_n (pc' := 27) cx dX5_seen_26 rfl rfl ?_
      refine go_iconst (pc' := 28) cx 5 dX5_seen_27 rfl rfl ?_
      refine go_icmp_ge (pc' := 31) cx 50 dX5_seen_28 rfl rfl (fun hh => absurd hh (by decide)) (fun _ => ?_)
      refine go_aload_n (pc' := 32) cx dX5_seen_31 rfl rfl ?_
      refine go_getr (pc' := 35) cx 37 fX5_66 dX5_seen_32 kq0 (ltn rfl) (ltn rfl) rfl rfl rfl ?_
      refine go_iload_n (pc' := 36) cx dX5_seen_35 rfl rfl ?_
      refine go_cSi (pc' := 39) cx (c_X5_rowSeen_2 l E (g := g)) mX5_rowSeen lX5_176 dX5_seen_36 rfl rfl rfl (ltn rfl) (Nat.le_of_ble_eq_true rfl) (Nat.le_of_ble_eq_true rfl) rfl ?_
      refine go_iload (pc' := 41) cx dX5_seen_39 rfl rfl ?_
      refine go_cVi (pc' := 44) cx (c_namesT l E (g := g) (k := 2) (by omega) hX.2.1 hX.2.2.1 x4) mX1_names lX5_82 dX5_seen_41 kq37 (ltn rfl) (ltn rfl) rfl rfl rfl rfl (ltn rfl) (Nat.le_of_ble_eq_true rfl) (Nat.le_of_ble_eq_true rfl) rfl ?_
      refine go_if_ne (pc' := 47) cx 50 dX5_seen_44 rfl rfl (fun c44 => ?_) (fun c44 => ?_)
      · obtain ⟨of, hof, eof⟩ := in_ok (k := sCn hn vn 2) (by unfold sCn; simp; omega) c44
        subst eof
        have hof8 : of < 8 := by
          have : sCn hn vn 2 = vn := rfl
          omega
        have clof := clI_n (k := of) (by omega)
        refine go_aload_n (pc' := 51) cx dX5_seen_50 rfl rfl ?_
        refine go_aload_n (pc' := 52) cx dX5_seen_51 rfl rfl ?_
        refine go_getr (pc' := 55) cx 4 fX5_32 dX5_seen_52 kq0 (ltn rfl) (ltn rfl) rfl rfl rfl ?_
        refine go_iload_n (pc' := 56) cx dX5_seen_55 rfl rfl ?_
        refine go_aaldk (pc' := 57) cx t (29 + 2 * t) dX5_seen_56 kq4 (Nat.le_of_ble_eq_true rfl) (ltn rfl) (ltn rfl) (vpi (k := t) (a := 4) ht rfl rfl) (cli (k := t) (a := 4) ht rfl) (sh_r ht).2 rfl ?_
        refine go_cVi (pc' := 60) cx (c_X5_pictureRefusal l E hX ht hsz h2) mX5_pictureRefusal lX5_168 dX5_seen_57 kq0 (ltn rfl) (ltn rfl) rfl rfl rfl rfl (ltn rfl) (Nat.le_of_ble_eq_true rfl) (Nat.le_of_ble_eq_true rfl) rfl ?_
        refine go_istore (pc' := 62) cx dX5_seen_60 (ltn rfl) [(5, .int (prF (g (29 + 2 * t) 1) sz vn)), (0, .ref (E.2.1 0)), (1, .int (nI t)), (2, .int (nI pl)), (3, .int 2), (4, .int (nI of))] rfl rfl ?_
        refine go_iload (pc' := 64) cx dX5_seen_62 rfl rfl ?_
        refine go_if_eq (pc' := 67) cx 70 dX5_seen_64 rfl rfl (fun c64 => ?_) (fun c64 => ?_)
        · have hszv : sz ≤ vn := prF_le c64
          refine go_iload_n (pc' := 71) cx dX5_seen_70 rfl rfl ?_
          refine go_iconst (pc' := 72) cx 5 dX5_seen_71 rfl rfl ?_
          refine go_icmp_ne (pc' := 75) cx 87 dX5_seen_72 rfl rfl (fun _ => ?_) (fun hh => absurd hh (by decide))
          refine go_aload_n (pc' := 88) cx dX5_seen_87 rfl rfl ?_
          refine go_aload_n (pc' := 89) cx dX5_seen_88 rfl rfl ?_
          refine go_getr (pc' := 92) cx 4 fX5_32 dX5_seen_89 kq0 (ltn rfl) (ltn rfl) rfl rfl rfl ?_
          refine go_iload_n (pc' := 93) cx dX5_seen_92 rfl rfl ?_
          refine go_aaldk (pc' := 94) cx t (29 + 2 * t) dX5_seen_93 kq4 (Nat.le_of_ble_eq_true rfl) (ltn rfl) (ltn rfl) (vpi (k := t) (a := 4) ht rfl rfl) (cli (k := t) (a := 4) ht rfl) (sh_r ht).2 rfl ?_
          refine go_iload_n (pc' := 95) cx dX5_seen_94 rfl rfl ?_
          refine go_iload_n (pc' := 96) cx dX5_seen_95 rfl rfl ?_
          refine go_cSi (pc' := 99) cx (c_X5_rowSeen_2 l E (g := g)) mX5_rowSeen lX5_176 dX5_seen_96 rfl rfl rfl (ltn rfl) (Nat.le_of_ble_eq_true rfl) (Nat.le_of_ble_eq_true rfl) rfl ?_
          refine go_iload (pc' := 101) cx dX5_seen_99 rfl rfl ?_
          refine go_cVI (pc' := 104) cx (c_X5_valuesSeen l E hX ht hsz h2 hszv hpl (w := 8) (by omega) hof8) mX5_valuesSeen lX5_182 dX5_seen_101 kq0 (ltn rfl) (ltn rfl) rfl rfl rfl rfl (ltn rfl) (Nat.le_of_ble_eq_true rfl) (Nat.le_of_ble_eq_true rfl) rfl (fun y_2 G_1 hG_1 => ?_)
          have ey_2 := hG_1.1
          subst ey_2
          refine go_iret cx rfl dX5_seen_104 ?_
          refine ZI.mk ⟨?_, hG_1.2⟩
          show _ = seenF M ru (svC g 37) hn vn tc (shF g) 2 (nI t) (nI pl) (nI of)
          unfold seenF
          rw [if_neg (fun q => q.elim c4 c11), clt, clpl, show (shF g t).2.1 = sz from (congrArg clI h2).trans (clI_n (by omega))]
          rw [if_neg (fun q => c44 q.2)]
          rw [if_pos (show prF (shF g t).1 sz vn = 0 from c64)]
          rw [if_neg (by omega), clof]
          rfl
        · refine go_iload (pc' := 69) cx dX5_seen_67 rfl rfl ?_
          refine go_iret cx rfl dX5_seen_69 ?_
          refine ZI.mk ⟨?_, Fr.rf⟩
          show _ = seenF M ru (svC g 37) hn vn tc (shF g) 2 (nI t) (nI pl) (nI of)
          unfold seenF
          rw [if_neg (fun q => q.elim c4 c11), clt, clpl, show (shF g t).2.1 = sz from (congrArg clI h2).trans (clI_n (by omega))]
          rw [if_neg (fun q => c44 q.2)]
          show prF (g (29 + 2 * t) 1) sz vn = if prF (g (29 + 2 * t) 1) sz vn = 0 then _ else prF (g (29 + 2 * t) 1) sz vn
          rw [if_neg c64]
      · refine go_bipush (pc' := 49) cx (-2) dX5_seen_47 rfl rfl ?_
        refine go_iret cx rfl dX5_seen_49 ?_
        refine ZI.mk ⟨?_, Fr.rf⟩
        unfold seenF
        rw [if_neg (fun q => q.elim c4 c11), if_pos ⟨by omega, c44⟩]

set_option maxHeartbeats 1000000 in
set_option maxRecDepth 20000 in
theorem c_X5_seen_3 (l : Launch) (E : Ev) {g : IG} {o : Option Nat} {z : Int64} {hn vn ru tc : Nat} {M : Nat → TM} (hX : XP g hn vn ru tc M) (hS : ShX g) (x1 x2 x4 : Int32) : Ct l E 88 yX5_seen cX5_seen 6 (some .int) 8 [.ref (E.2.1 0), .int x1, .int x2, .int 3, .int x4] g (RFo o) z (ZI (RFo o) z (fun x g1 => x = seenF M ru (svC g 37) hn vn tc (shF g) 3 x1 x2 x4 ∧ Fr scr g g1)) := by
  refine Ct.of (lv0 := [(0, .ref (E.2.1 0)), (1, .int x1), (2, .int x2), (3, .int 3), (4, .int x4)]) (by decide) (Nat.le_of_ble_eq_true rfl) rfl ?_
  intro p e s m below meth c cx
  obtain ⟨hhn5, hvn8, hruc, htc6⟩ := id hX.1
  refine go_iload_n (pc' := 1) cx dX5_seen_0 rfl rfl ?_
  refine go_cSi (pc' := 4) cx (c_X5_isSheet l E (g := g) x1) mX5_isSheet lX5_165 dX5_seen_1 rfl rfl rfl (ltn rfl) (Nat.le_of_ble_eq_true rfl) (Nat.le_of_ble_eq_true rfl) rfl ?_
  refine go_if_eq (pc' := 7) cx 23 dX5_seen_4 rfl rfl (fun c4 => ?_) (fun c4 => ?_)
  · refine go_bipush (pc' := 25) cx (-2) dX5_seen_23 rfl rfl ?_
    refine go_iret cx rfl dX5_seen_25 ?_
    refine ZI.mk ⟨?_, Fr.rf⟩
    unfold seenF
    first | rw [if_pos (Or.inl c4)] | rw [if_pos (Or.inr c11)]
  · refine go_iload_n (pc' := 8) cx dX5_seen_7 rfl rfl ?_
    refine go_cSi (pc' := 11) cx (c_X5_isPlace l E (g := g) x2) mX5_isPlace lX5_124 dX5_seen_8 rfl rfl rfl (ltn rfl) (Nat.le_of_ble_eq_true rfl) (Nat.le_of_ble_eq_true rfl) rfl ?_
    refine go_if_eq (pc' := 14) cx 23 dX5_seen_11 rfl rfl (fun c11 => ?_) (fun c11 => ?_)
    · refine go_bipush (pc' := 25) cx (-2) dX5_seen_23 rfl rfl ?_
      refine go_iret cx rfl dX5_seen_25 ?_
      refine ZI.mk ⟨?_, Fr.rf⟩
      unfold seenF
      first | rw [if_pos (Or.inl c4)] | rw [if_pos (Or.inr c11)]
    · refine go_iload_n (pc' := 15) cx dX5_seen_14 rfl rfl ?_
      refine go_if_lt (pc' := 18) cx 23 dX5_seen_15 rfl rfl (fun hh => absurd hh (by decide)) (fun _ => ?_)
      refine go_iload_n (pc' := 19) cx dX5_seen_18 rfl rfl ?_
      refine go_iconst (pc' := 20) cx 5 dX5_seen_19 rfl rfl ?_
      refine go_icmp_le (pc' := 23) cx 26 dX5_seen_20 rfl rfl (fun _ => ?_) (fun hh => absurd hh (by decide))
      obtain ⟨t, ht, et⟩ := in_ok (k := 4) (by omega) c4
      subst et
      obtain ⟨pl, hpl, epl⟩ := in_ok (k := 4) (by omega) c11
      subst epl
      have clt := clI_n (k := t) (by omega)
      have clpl := clI_n (k := pl) (by omega)
      obtain ⟨sz, hsz, h2⟩ := hS t ht
      refine go_iload_n (pc' := 27) cx dX5_seen_26 rfl rfl ?_
      refine go_iconst (pc' := 28) cx 5 dX5_seen_27 rfl rfl ?_
      refine go_icmp_ge (pc' := 31) cx 50 dX5_seen_28 rfl rfl (fun hh => absurd hh (by decide)) (fun _ => ?_)
      refine go_aload_n (pc' := 32) cx dX5_seen_31 rfl rfl ?_
      refine go_getr (pc' := 35) cx 37 fX5_66 dX5_seen_32 kq0 (ltn rfl) (ltn rfl) rfl rfl rfl ?_
      refine go_iload_n (pc' := 36) cx dX5_seen_35 rfl rfl ?_
      refine go_cSi (pc' := 39) cx (c_X5_rowSeen_3 l E (g := g)) mX5_rowSeen lX5_176 dX5_seen_36 rfl rfl rfl (ltn rfl) (Nat.le_of_ble_eq_true rfl) (Nat.le_of_ble_eq_true rfl) rfl ?_
      refine go_iload (pc' := 41) cx dX5_seen_39 rfl rfl ?_
      refine go_cVi (pc' := 44) cx (c_namesT l E (g := g) (k := 3) (by omega) hX.2.1 hX.2.2.1 x4) mX1_names lX5_82 dX5_seen_41 kq37 (ltn rfl) (ltn rfl) rfl rfl rfl rfl (ltn rfl) (Nat.le_of_ble_eq_true rfl) (Nat.le_of_ble_eq_true rfl) rfl ?_
      refine go_if_ne (pc' := 47) cx 50 dX5_seen_44 rfl rfl (fun c44 => ?_) (fun c44 => ?_)
      · obtain ⟨of, hof, eof⟩ := in_ok (k := sCn hn vn 3) (by unfold sCn; simp; omega) c44
        subst eof
        have hof8 : of < 8 := by
          have : sCn hn vn 3 = hn := rfl
          omega
        have clof := clI_n (k := of) (by omega)
        refine go_aload_n (pc' := 51) cx dX5_seen_50 rfl rfl ?_
        refine go_aload_n (pc' := 52) cx dX5_seen_51 rfl rfl ?_
        refine go_getr (pc' := 55) cx 4 fX5_32 dX5_seen_52 kq0 (ltn rfl) (ltn rfl) rfl rfl rfl ?_
        refine go_iload_n (pc' := 56) cx dX5_seen_55 rfl rfl ?_
        refine go_aaldk (pc' := 57) cx t (29 + 2 * t) dX5_seen_56 kq4 (Nat.le_of_ble_eq_true rfl) (ltn rfl) (ltn rfl) (vpi (k := t) (a := 4) ht rfl rfl) (cli (k := t) (a := 4) ht rfl) (sh_r ht).2 rfl ?_
        refine go_cVi (pc' := 60) cx (c_X5_pictureRefusal l E hX ht hsz h2) mX5_pictureRefusal lX5_168 dX5_seen_57 kq0 (ltn rfl) (ltn rfl) rfl rfl rfl rfl (ltn rfl) (Nat.le_of_ble_eq_true rfl) (Nat.le_of_ble_eq_true rfl) rfl ?_
        refine go_istore (pc' := 62) cx dX5_seen_60 (ltn rfl) [(5, .int (prF (g (29 + 2 * t) 1) sz vn)), (0, .ref (E.2.1 0)), (1, .int (nI t)), (2, .int (nI pl)), (3, .int 3), (4, .int (nI of))] rfl rfl ?_
        refine go_iload (pc' := 64) cx dX5_seen_62 rfl rfl ?_
        refine go_if_eq (pc' := 67) cx 70 dX5_seen_64 rfl rfl (fun c64 => ?_) (fun c64 => ?_)
        · have hszv : sz ≤ vn := prF_le c64
          refine go_iload_n (pc' := 71) cx dX5_seen_70 rfl rfl ?_
          refine go_iconst (pc' := 72) cx 5 dX5_seen_71 rfl rfl ?_
          refine go_icmp_ne (pc' := 75) cx 87 dX5_seen_72 rfl rfl (fun _ => ?_) (fun hh => absurd hh (by decide))
          refine go_aload_n (pc' := 88) cx dX5_seen_87 rfl rfl ?_
          refine go_aload_n (pc' := 89) cx dX5_seen_88 rfl rfl ?_
          refine go_getr (pc' := 92) cx 4 fX5_32 dX5_seen_89 kq0 (ltn rfl) (ltn rfl) rfl rfl rfl ?_
          refine go_iload_n (pc' := 93) cx dX5_seen_92 rfl rfl ?_
          refine go_aaldk (pc' := 94) cx t (29 + 2 * t) dX5_seen_93 kq4 (Nat.le_of_ble_eq_true rfl) (ltn rfl) (ltn rfl) (vpi (k := t) (a := 4) ht rfl rfl) (cli (k := t) (a := 4) ht rfl) (sh_r ht).2 rfl ?_
          refine go_iload_n (pc' := 95) cx dX5_seen_94 rfl rfl ?_
          refine go_iload_n (pc' := 96) cx dX5_seen_95 rfl rfl ?_
          refine go_cSi (pc' := 99) cx (c_X5_rowSeen_3 l E (g := g)) mX5_rowSeen lX5_176 dX5_seen_96 rfl rfl rfl (ltn rfl) (Nat.le_of_ble_eq_true rfl) (Nat.le_of_ble_eq_true rfl) rfl ?_
          refine go_iload (pc' := 101) cx dX5_seen_99 rfl rfl ?_
          refine go_cVI (pc' := 104) cx (c_X5_valuesSeen l E hX ht hsz h2 hszv hpl (w := 4) (by omega) hof8) mX5_valuesSeen lX5_182 dX5_seen_101 kq0 (ltn rfl) (ltn rfl) rfl rfl rfl rfl (ltn rfl) (Nat.le_of_ble_eq_true rfl) (Nat.le_of_ble_eq_true rfl) rfl (fun y_2 G_1 hG_1 => ?_)
          have ey_2 := hG_1.1
          subst ey_2
          refine go_iret cx rfl dX5_seen_104 ?_
          refine ZI.mk ⟨?_, hG_1.2⟩
          show _ = seenF M ru (svC g 37) hn vn tc (shF g) 3 (nI t) (nI pl) (nI of)
          unfold seenF
          rw [if_neg (fun q => q.elim c4 c11), clt, clpl, show (shF g t).2.1 = sz from (congrArg clI h2).trans (clI_n (by omega))]
          rw [if_neg (fun q => c44 q.2)]
          rw [if_pos (show prF (shF g t).1 sz vn = 0 from c64)]
          rw [if_neg (by omega), clof]
          rfl
        · refine go_iload (pc' := 69) cx dX5_seen_67 rfl rfl ?_
          refine go_iret cx rfl dX5_seen_69 ?_
          refine ZI.mk ⟨?_, Fr.rf⟩
          show _ = seenF M ru (svC g 37) hn vn tc (shF g) 3 (nI t) (nI pl) (nI of)
          unfold seenF
          rw [if_neg (fun q => q.elim c4 c11), clt, clpl, show (shF g t).2.1 = sz from (congrArg clI h2).trans (clI_n (by omega))]
          rw [if_neg (fun q => c44 q.2)]
          show prF (g (29 + 2 * t) 1) sz vn = if prF (g (29 + 2 * t) 1) sz vn = 0 then _ else prF (g (29 + 2 * t) 1) sz vn
          rw [if_neg c64]
      · refine go_bipush (pc' := 49) cx (-2) dX5_seen_47 rfl rfl ?_
        refine go_iret cx rfl dX5_seen_49 ?_
        refine ZI.mk ⟨?_, Fr.rf⟩
        unfold seenF
        rw [if_neg (fun q => q.elim c4 c11), if_pos ⟨by omega, c44⟩]

set_option maxHeartbeats 1000000 in
set_option maxRecDepth 20000 in
theorem c_X5_seen_4 (l : Launch) (E : Ev) {g : IG} {o : Option Nat} {z : Int64} {hn vn ru tc : Nat} {M : Nat → TM} (hX : XP g hn vn ru tc M) (hS : ShX g) (x1 x2 x4 : Int32) : Ct l E 88 yX5_seen cX5_seen 6 (some .int) 8 [.ref (E.2.1 0), .int x1, .int x2, .int 4, .int x4] g (RFo o) z (ZI (RFo o) z (fun x g1 => x = seenF M ru (svC g 37) hn vn tc (shF g) 4 x1 x2 x4 ∧ Fr scr g g1)) := by
  refine Ct.of (lv0 := [(0, .ref (E.2.1 0)), (1, .int x1), (2, .int x2), (3, .int 4), (4, .int x4)]) (by decide) (Nat.le_of_ble_eq_true rfl) rfl ?_
  intro p e s m below meth c cx
  obtain ⟨hhn5, hvn8, hruc, htc6⟩ := id hX.1
  refine go_iload_n (pc' := 1) cx dX5_seen_0 rfl rfl ?_
  refine go_cSi (pc' := 4) cx (c_X5_isSheet l E (g := g) x1) mX5_isSheet lX5_165 dX5_seen_1 rfl rfl rfl (ltn rfl) (Nat.le_of_ble_eq_true rfl) (Nat.le_of_ble_eq_true rfl) rfl ?_
  refine go_if_eq (pc' := 7) cx 23 dX5_seen_4 rfl rfl (fun c4 => ?_) (fun c4 => ?_)
  · refine go_bipush (pc' := 25) cx (-2) dX5_seen_23 rfl rfl ?_
    refine go_iret cx rfl dX5_seen_25 ?_
    refine ZI.mk ⟨?_, Fr.rf⟩
    unfold seenF
    first | rw [if_pos (Or.inl c4)] | rw [if_pos (Or.inr c11)]
  · refine go_iload_n (pc' := 8) cx dX5_seen_7 rfl rfl ?_
    refine go_cSi (pc' := 11) cx (c_X5_isPlace l E (g := g) x2) mX5_isPlace lX5_124 dX5_seen_8 rfl rfl rfl (ltn rfl) (Nat.le_of_ble_eq_true rfl) (Nat.le_of_ble_eq_true rfl) rfl ?_
    refine go_if_eq (pc' := 14) cx 23 dX5_seen_11 rfl rfl (fun c11 => ?_) (fun c11 => ?_)
    · refine go_bipush (pc' := 25) cx (-2) dX5_seen_23 rfl rfl ?_
      refine go_iret cx rfl dX5_seen_25 ?_
      refine ZI.mk ⟨?_, Fr.rf⟩
      unfold seenF
      first | rw [if_pos (Or.inl c4)] | rw [if_pos (Or.inr c11)]
    · refine go_iload_n (pc' := 15) cx dX5_seen_14 rfl rfl ?_
      refine go_if_lt (pc' := 18) cx 23 dX5_seen_15 rfl rfl (fun hh => absurd hh (by decide)) (fun _ => ?_)
      refine go_iload_n (pc' := 19) cx dX5_seen_18 rfl rfl ?_
      refine go_iconst (pc' := 20) cx 5 dX5_seen_19 rfl rfl ?_
      refine go_icmp_le (pc' := 23) cx 26 dX5_seen_20 rfl rfl (fun _ => ?_) (fun hh => absurd hh (by decide))
      obtain ⟨t, ht, et⟩ := in_ok (k := 4) (by omega) c4
      subst et
      obtain ⟨pl, hpl, epl⟩ := in_ok (k := 4) (by omega) c11
      subst epl
      have clt := clI_n (k := t) (by omega)
      have clpl := clI_n (k := pl) (by omega)
      obtain ⟨sz, hsz, h2⟩ := hS t ht
      refine go_iload_n (pc' := 27) cx dX5_seen_26 rfl rfl ?_
      refine go_iconst (pc' := 28) cx 5 dX5_seen_27 rfl rfl ?_
      refine go_icmp_ge (pc' := 31) cx 50 dX5_seen_28 rfl rfl (fun hh => absurd hh (by decide)) (fun _ => ?_)
      refine go_aload_n (pc' := 32) cx dX5_seen_31 rfl rfl ?_
      refine go_getr (pc' := 35) cx 37 fX5_66 dX5_seen_32 kq0 (ltn rfl) (ltn rfl) rfl rfl rfl ?_
      refine go_iload_n (pc' := 36) cx dX5_seen_35 rfl rfl ?_
      refine go_cSi (pc' := 39) cx (c_X5_rowSeen_4 l E (g := g)) mX5_rowSeen lX5_176 dX5_seen_36 rfl rfl rfl (ltn rfl) (Nat.le_of_ble_eq_true rfl) (Nat.le_of_ble_eq_true rfl) rfl ?_
      refine go_iload (pc' := 41) cx dX5_seen_39 rfl rfl ?_
      refine go_cVi (pc' := 44) cx (c_namesT l E (g := g) (k := 4) (by omega) hX.2.1 hX.2.2.1 x4) mX1_names lX5_82 dX5_seen_41 kq37 (ltn rfl) (ltn rfl) rfl rfl rfl rfl (ltn rfl) (Nat.le_of_ble_eq_true rfl) (Nat.le_of_ble_eq_true rfl) rfl ?_
      refine go_if_ne (pc' := 47) cx 50 dX5_seen_44 rfl rfl (fun c44 => ?_) (fun c44 => ?_)
      · obtain ⟨of, hof, eof⟩ := in_ok (k := sCn hn vn 4) (by unfold sCn; simp; omega) c44
        subst eof
        have hof8 : of < 8 := by
          have : sCn hn vn 4 = hn := rfl
          omega
        have clof := clI_n (k := of) (by omega)
        refine go_aload_n (pc' := 51) cx dX5_seen_50 rfl rfl ?_
        refine go_aload_n (pc' := 52) cx dX5_seen_51 rfl rfl ?_
        refine go_getr (pc' := 55) cx 4 fX5_32 dX5_seen_52 kq0 (ltn rfl) (ltn rfl) rfl rfl rfl ?_
        refine go_iload_n (pc' := 56) cx dX5_seen_55 rfl rfl ?_
        refine go_aaldk (pc' := 57) cx t (29 + 2 * t) dX5_seen_56 kq4 (Nat.le_of_ble_eq_true rfl) (ltn rfl) (ltn rfl) (vpi (k := t) (a := 4) ht rfl rfl) (cli (k := t) (a := 4) ht rfl) (sh_r ht).2 rfl ?_
        refine go_cVi (pc' := 60) cx (c_X5_pictureRefusal l E hX ht hsz h2) mX5_pictureRefusal lX5_168 dX5_seen_57 kq0 (ltn rfl) (ltn rfl) rfl rfl rfl rfl (ltn rfl) (Nat.le_of_ble_eq_true rfl) (Nat.le_of_ble_eq_true rfl) rfl ?_
        refine go_istore (pc' := 62) cx dX5_seen_60 (ltn rfl) [(5, .int (prF (g (29 + 2 * t) 1) sz vn)), (0, .ref (E.2.1 0)), (1, .int (nI t)), (2, .int (nI pl)), (3, .int 4), (4, .int (nI of))] rfl rfl ?_
        refine go_iload (pc' := 64) cx dX5_seen_62 rfl rfl ?_
        refine go_if_eq (pc' := 67) cx 70 dX5_seen_64 rfl rfl (fun c64 => ?_) (fun c64 => ?_)
        · have hszv : sz ≤ vn := prF_le c64
          refine go_iload_n (pc' := 71) cx dX5_seen_70 rfl rfl ?_
          refine go_iconst (pc' := 72) cx 5 dX5_seen_71 rfl rfl ?_
          refine go_icmp_ne (pc' := 75) cx 87 dX5_seen_72 rfl rfl (fun _ => ?_) (fun hh => absurd hh (by decide))
          refine go_aload_n (pc' := 88) cx dX5_seen_87 rfl rfl ?_
          refine go_aload_n (pc' := 89) cx dX5_seen_88 rfl rfl ?_
          refine go_getr (pc' := 92) cx 4 fX5_32 dX5_seen_89 kq0 (ltn rfl) (ltn rfl) rfl rfl rfl ?_
          refine go_iload_n (pc' := 93) cx dX5_seen_92 rfl rfl ?_
          refine go_aaldk (pc' := 94) cx t (29 + 2 * t) dX5_seen_93 kq4 (Nat.le_of_ble_eq_true rfl) (ltn rfl) (ltn rfl) (vpi (k := t) (a := 4) ht rfl rfl) (cli (k := t) (a := 4) ht rfl) (sh_r ht).2 rfl ?_
          refine go_iload_n (pc' := 95) cx dX5_seen_94 rfl rfl ?_
          refine go_iload_n (pc' := 96) cx dX5_seen_95 rfl rfl ?_
          refine go_cSi (pc' := 99) cx (c_X5_rowSeen_4 l E (g := g)) mX5_rowSeen lX5_176 dX5_seen_96 rfl rfl rfl (ltn rfl) (Nat.le_of_ble_eq_true rfl) (Nat.le_of_ble_eq_true rfl) rfl ?_
          refine go_iload (pc' := 101) cx dX5_seen_99 rfl rfl ?_
          refine go_cVI (pc' := 104) cx (c_X5_valuesSeen l E hX ht hsz h2 hszv hpl (w := 5) (by omega) hof8) mX5_valuesSeen lX5_182 dX5_seen_101 kq0 (ltn rfl) (ltn rfl) rfl rfl rfl rfl (ltn rfl) (Nat.le_of_ble_eq_true rfl) (Nat.le_of_ble_eq_true rfl) rfl (fun y_2 G_1 hG_1 => ?_)
          have ey_2 := hG_1.1
          subst ey_2
          refine go_iret cx rfl dX5_seen_104 ?_
          refine ZI.mk ⟨?_, hG_1.2⟩
          show _ = seenF M ru (svC g 37) hn vn tc (shF g) 4 (nI t) (nI pl) (nI of)
          unfold seenF
          rw [if_neg (fun q => q.elim c4 c11), clt, clpl, show (shF g t).2.1 = sz from (congrArg clI h2).trans (clI_n (by omega))]
          rw [if_neg (fun q => c44 q.2)]
          rw [if_pos (show prF (shF g t).1 sz vn = 0 from c64)]
          rw [if_neg (by omega), clof]
          rfl
        · refine go_iload (pc' := 69) cx dX5_seen_67 rfl rfl ?_
          refine go_iret cx rfl dX5_seen_69 ?_
          refine ZI.mk ⟨?_, Fr.rf⟩
          show _ = seenF M ru (svC g 37) hn vn tc (shF g) 4 (nI t) (nI pl) (nI of)
          unfold seenF
          rw [if_neg (fun q => q.elim c4 c11), clt, clpl, show (shF g t).2.1 = sz from (congrArg clI h2).trans (clI_n (by omega))]
          rw [if_neg (fun q => c44 q.2)]
          show prF (g (29 + 2 * t) 1) sz vn = if prF (g (29 + 2 * t) 1) sz vn = 0 then _ else prF (g (29 + 2 * t) 1) sz vn
          rw [if_neg c64]
      · refine go_bipush (pc' := 49) cx (-2) dX5_seen_47 rfl rfl ?_
        refine go_iret cx rfl dX5_seen_49 ?_
        refine ZI.mk ⟨?_, Fr.rf⟩
        unfold seenF
        rw [if_neg (fun q => q.elim c4 c11), if_pos ⟨by omega, c44⟩]

set_option maxHeartbeats 1000000 in
set_option maxRecDepth 20000 in
theorem c_X5_seen_5 (l : Launch) (E : Ev) {g : IG} {o : Option Nat} {z : Int64} {hn vn ru tc : Nat} {M : Nat → TM} (hX : XP g hn vn ru tc M) (hS : ShX g) (x1 x2 x4 : Int32) : Ct l E 88 yX5_seen cX5_seen 6 (some .int) 8 [.ref (E.2.1 0), .int x1, .int x2, .int 5, .int x4] g (RFo o) z (ZI (RFo o) z (fun x g1 => x = seenF M ru (svC g 37) hn vn tc (shF g) 5 x1 x2 x4 ∧ Fr scr g g1)) := by
  refine Ct.of (lv0 := [(0, .ref (E.2.1 0)), (1, .int x1), (2, .int x2), (3, .int 5), (4, .int x4)]) (by decide) (Nat.le_of_ble_eq_true rfl) rfl ?_
  intro p e s m below meth c cx
  obtain ⟨hhn5, hvn8, hruc, htc6⟩ := id hX.1
  refine go_iload_n (pc' := 1) cx dX5_seen_0 rfl rfl ?_
  refine go_cSi (pc' := 4) cx (c_X5_isSheet l E (g := g) x1) mX5_isSheet lX5_165 dX5_seen_1 rfl rfl rfl (ltn rfl) (Nat.le_of_ble_eq_true rfl) (Nat.le_of_ble_eq_true rfl) rfl ?_
  refine go_if_eq (pc' := 7) cx 23 dX5_seen_4 rfl rfl (fun c4 => ?_) (fun c4 => ?_)
  · refine go_bipush (pc' := 25) cx (-2) dX5_seen_23 rfl rfl ?_
    refine go_iret cx rfl dX5_seen_25 ?_
    refine ZI.mk ⟨?_, Fr.rf⟩
    unfold seenF
    first | rw [if_pos (Or.inl c4)] | rw [if_pos (Or.inr c11)]
  · refine go_iload_n (pc' := 8) cx dX5_seen_7 rfl rfl ?_
    refine go_cSi (pc' := 11) cx (c_X5_isPlace l E (g := g) x2) mX5_isPlace lX5_124 dX5_seen_8 rfl rfl rfl (ltn rfl) (Nat.le_of_ble_eq_true rfl) (Nat.le_of_ble_eq_true rfl) rfl ?_
    refine go_if_eq (pc' := 14) cx 23 dX5_seen_11 rfl rfl (fun c11 => ?_) (fun c11 => ?_)
    · refine go_bipush (pc' := 25) cx (-2) dX5_seen_23 rfl rfl ?_
      refine go_iret cx rfl dX5_seen_25 ?_
      refine ZI.mk ⟨?_, Fr.rf⟩
      unfold seenF
      first | rw [if_pos (Or.inl c4)] | rw [if_pos (Or.inr c11)]
    · refine go_iload_n (pc' := 15) cx dX5_seen_14 rfl rfl ?_
      refine go_if_lt (pc' := 18) cx 23 dX5_seen_15 rfl rfl (fun hh => absurd hh (by decide)) (fun _ => ?_)
      refine go_iload_n (pc' := 19) cx dX5_seen_18 rfl rfl ?_
      refine go_iconst (pc' := 20) cx 5 dX5_seen_19 rfl rfl ?_
      refine go_icmp_le (pc' := 23) cx 26 dX5_seen_20 rfl rfl (fun _ => ?_) (fun hh => absurd hh (by decide))
      obtain ⟨t, ht, et⟩ := in_ok (k := 4) (by omega) c4
      subst et
      obtain ⟨pl, hpl, epl⟩ := in_ok (k := 4) (by omega) c11
      subst epl
      have clt := clI_n (k := t) (by omega)
      have clpl := clI_n (k := pl) (by omega)
      obtain ⟨sz, hsz, h2⟩ := hS t ht
      refine go_iload_n (pc' := 27) cx dX5_seen_26 rfl rfl ?_
      refine go_iconst (pc' := 28) cx 5 dX5_seen_27 rfl rfl ?_
      refine go_icmp_ge (pc' := 31) cx 50 dX5_seen_28 rfl rfl (fun _ => ?_) (fun hh => absurd hh (by decide))
      refine go_aload_n (pc' := 51) cx dX5_seen_50 rfl rfl ?_
      refine go_aload_n (pc' := 52) cx dX5_seen_51 rfl rfl ?_
      refine go_getr (pc' := 55) cx 4 fX5_32 dX5_seen_52 kq0 (ltn rfl) (ltn rfl) rfl rfl rfl ?_
      refine go_iload_n (pc' := 56) cx dX5_seen_55 rfl rfl ?_
      refine go_aaldk (pc' := 57) cx t (29 + 2 * t) dX5_seen_56 kq4 (Nat.le_of_ble_eq_true rfl) (ltn rfl) (ltn rfl) (vpi (k := t) (a := 4) ht rfl rfl) (cli (k := t) (a := 4) ht rfl) (sh_r ht).2 rfl ?_
      refine go_cVi (pc' := 60) cx (c_X5_pictureRefusal l E hX ht hsz h2) mX5_pictureRefusal lX5_168 dX5_seen_57 kq0 (ltn rfl) (ltn rfl) rfl rfl rfl rfl (ltn rfl) (Nat.le_of_ble_eq_true rfl) (Nat.le_of_ble_eq_true rfl) rfl ?_
      refine go_istore (pc' := 62) cx dX5_seen_60 (ltn rfl) [(5, .int (prF (g (29 + 2 * t) 1) sz vn)), (0, .ref (E.2.1 0)), (1, .int (nI t)), (2, .int (nI pl)), (3, .int 5), (4, .int x4)] rfl rfl ?_
      refine go_iload (pc' := 64) cx dX5_seen_62 rfl rfl ?_
      refine go_if_eq (pc' := 67) cx 70 dX5_seen_64 rfl rfl (fun c64 => ?_) (fun c64 => ?_)
      · have hszv : sz ≤ vn := prF_le c64
        refine go_iload_n (pc' := 71) cx dX5_seen_70 rfl rfl ?_
        refine go_iconst (pc' := 72) cx 5 dX5_seen_71 rfl rfl ?_
        refine go_icmp_ne (pc' := 75) cx 87 dX5_seen_72 rfl rfl (fun hh => absurd hh (by decide)) (fun _ => ?_)
        refine go_aload_n (pc' := 76) cx dX5_seen_75 rfl rfl ?_
        refine go_aload_n (pc' := 77) cx dX5_seen_76 rfl rfl ?_
        refine go_getr (pc' := 80) cx 4 fX5_32 dX5_seen_77 kq0 (ltn rfl) (ltn rfl) rfl rfl rfl ?_
        refine go_iload_n (pc' := 81) cx dX5_seen_80 rfl rfl ?_
        refine go_aaldk (pc' := 82) cx t (29 + 2 * t) dX5_seen_81 kq4 (Nat.le_of_ble_eq_true rfl) (ltn rfl) (ltn rfl) (vpi (k := t) (a := 4) ht rfl rfl) (cli (k := t) (a := 4) ht rfl) (sh_r ht).2 rfl ?_
        refine go_iload_n (pc' := 83) cx dX5_seen_82 rfl rfl ?_
        refine go_cVI (pc' := 86) cx (c_X5_textsSeen l E hX ht hsz h2 hszv hpl) mX5_textsSeen lX5_179 dX5_seen_83 kq0 (ltn rfl) (ltn rfl) rfl rfl rfl rfl (ltn rfl) (Nat.le_of_ble_eq_true rfl) (Nat.le_of_ble_eq_true rfl) rfl (fun y_2 G_1 hG_1 => ?_)
        have ey_2 := hG_1.1
        subst ey_2
        refine go_iret cx rfl dX5_seen_86 ?_
        refine ZI.mk ⟨?_, hG_1.2⟩
        show _ = seenF M ru (svC g 37) hn vn tc (shF g) 5 (nI t) (nI pl) x4
        unfold seenF
        rw [if_neg (fun q => q.elim c4 c11), clt, clpl, show (shF g t).2.1 = sz from (congrArg clI h2).trans (clI_n (by omega))]
        rw [if_neg (fun q => absurd q.1 (by omega))]
        rw [if_pos (show prF (shF g t).1 sz vn = 0 from c64)]
        rw [if_pos rfl]
        rfl
      · refine go_iload (pc' := 69) cx dX5_seen_67 rfl rfl ?_
        refine go_iret cx rfl dX5_seen_69 ?_
        refine ZI.mk ⟨?_, Fr.rf⟩
        show _ = seenF M ru (svC g 37) hn vn tc (shF g) 5 (nI t) (nI pl) x4
        unfold seenF
        rw [if_neg (fun q => q.elim c4 c11), clt, clpl, show (shF g t).2.1 = sz from (congrArg clI h2).trans (clI_n (by omega))]
        rw [if_neg (fun q => absurd q.1 (by omega))]
        show prF (g (29 + 2 * t) 1) sz vn = if prF (g (29 + 2 * t) 1) sz vn = 0 then _ else prF (g (29 + 2 * t) 1) sz vn
        rw [if_neg c64]

set_option maxHeartbeats 1000000 in
set_option maxRecDepth 20000 in
theorem c_X5_seen_n (l : Launch) (E : Ev) {g : IG} {o : Option Nat} {z : Int64} {hn vn ru tc : Nat} {M : Nat → TM} (hX : XP g hn vn ru tc M) (x1 x2 x3 x4 : Int32) (h3 : x3 < 0 ∨ 5 < x3) : Ct l E 88 yX5_seen cX5_seen 6 (some .int) 8 [.ref (E.2.1 0), .int x1, .int x2, .int x3, .int x4] g (RFo o) z (Zi (RFo o) z (-2) g) := by
  refine Ct.of (lv0 := [(0, .ref (E.2.1 0)), (1, .int x1), (2, .int x2), (3, .int x3), (4, .int x4)]) (by decide) (Nat.le_of_ble_eq_true rfl) rfl ?_
  intro p e s m below meth c cx
  obtain ⟨hhn5, hvn8, hruc, htc6⟩ := id hX.1
  refine go_iload_n (pc' := 1) cx dX5_seen_0 rfl rfl ?_
  refine go_cSi (pc' := 4) cx (c_X5_isSheet l E (g := g) x1) mX5_isSheet lX5_165 dX5_seen_1 rfl rfl rfl (ltn rfl) (Nat.le_of_ble_eq_true rfl) (Nat.le_of_ble_eq_true rfl) rfl ?_
  refine go_if_eq (pc' := 7) cx 23 dX5_seen_4 rfl rfl (fun c4 => ?_) (fun c4 => ?_)
  · refine go_bipush (pc' := 25) cx (-2) dX5_seen_23 rfl rfl ?_
    refine go_iret cx rfl dX5_seen_25 ?_
    exact Zi.mk rfl rfl
  · refine go_iload_n (pc' := 8) cx dX5_seen_7 rfl rfl ?_
    refine go_cSi (pc' := 11) cx (c_X5_isPlace l E (g := g) x2) mX5_isPlace lX5_124 dX5_seen_8 rfl rfl rfl (ltn rfl) (Nat.le_of_ble_eq_true rfl) (Nat.le_of_ble_eq_true rfl) rfl ?_
    refine go_if_eq (pc' := 14) cx 23 dX5_seen_11 rfl rfl (fun c11 => ?_) (fun c11 => ?_)
    · refine go_bipush (pc' := 25) cx (-2) dX5_seen_23 rfl rfl ?_
      refine go_iret cx rfl dX5_seen_25 ?_
      exact Zi.mk rfl rfl
    · refine go_iload_n (pc' := 15) cx dX5_seen_14 rfl rfl ?_
      refine go_if_lt (pc' := 18) cx 23 dX5_seen_15 rfl rfl (fun c15 => ?_) (fun c15 => ?_)
      · have c15n := Int32.not_le.mpr c15
        refine go_bipush (pc' := 25) cx (-2) dX5_seen_23 rfl rfl ?_
        refine go_iret cx rfl dX5_seen_25 ?_
        exact Zi.mk rfl rfl
      · have c15n := Int32.not_lt.mp c15
        refine go_iload_n (pc' := 19) cx dX5_seen_18 rfl rfl ?_
        refine go_iconst (pc' := 20) cx 5 dX5_seen_19 rfl rfl ?_
        refine go_icmp_le (pc' := 23) cx 26 dX5_seen_20 rfl rfl (fun c20 => ?_) (fun c20 => ?_)
        · have c20n := Int32.not_lt.mpr c20
          exact absurd h3 (fun q => q.elim c15 (Int32.not_lt.mpr c20))
        · have c20n := Int32.not_le.mp c20
          refine go_bipush (pc' := 25) cx (-2) dX5_seen_23 rfl rfl ?_
          refine go_iret cx rfl dX5_seen_25 ?_
          exact Zi.mk rfl rfl

theorem up2_o {g : IG} {i k j : Nat} {v : Int32} (h : j ≠ i) : up2 g i k v j = g j := funext fun b => up2_n _ _ (Or.inl h)

set_option maxHeartbeats 1000000 in
set_option maxRecDepth 20000 in
theorem film_loop {l : Launch} {E : Ev} {Z : ZT} {g : IG} {o : Option Nat} {z : Int64} {p : Program} {e : Env} {s : State} {m : MethodId} {args : Array Value} {below : List Frame} {meth : Method} {c : Code} {hn vn ru tc : Nat} {M : Nat → TM} (hX : XP g hn vn ru tc M) {t pl n : Nat} (ht : t < 4) (hpl : pl < 4) (hn8 : n ≤ vn) (cx : Cx p s m args meth c E 88 cX5_film 5 yX5_film.cls (some .int)) : ∀ (k v : Nat) (G : IG), v + k = n → (Fr (scS t) g G ∧ G (29 + 2 * t) 1 = 1 ∧ G (29 + 2 * t) 2 = nI n ∧ (∀ j, j < 40 → G (29 + 2 * t + 1) j = flmR (fun v => cvS 1 ((crs (M ru) (svC g 37) (v + 1)).1 pl)) v j)) → CWp (M ru) (svC g 37) G vn → (∀ G, (Fr (scS t) g G ∧ G (29 + 2 * t) 1 = 1 ∧ G (29 + 2 * t) 2 = nI n ∧ (∀ j, j < 40 → G (29 + 2 * t + 1) j = flmR (fun v => cvS 1 ((crs (M ru) (svC g 37) (v + 1)).1 pl)) n j)) → Go p l e (rmd 8) s m args below meth c E 88 5 Z G (RFo o) z 89 [(3, .int (nI n))] []) → Go p l e (rmd 8) s m args below meth c E 88 5 Z G (RFo o) z 53 [(4, .int (nI v)), (0, .ref (E.2.1 0)), (1, .int (nI t)), (2, .int (nI pl)), (3, .int (nI n))] [] := by
  obtain ⟨hhn5, hvn8, hruc, htc6⟩ := id hX.1
  intro k
  induction k with
  | zero =>
    intro v G hk hG hC kk
    have hq : v = n := by omega
    subst hq
    refine go_iload (pc' := 55) cx dX5_film_53 rfl rfl ?_
    refine go_iload_n (pc' := 56) cx dX5_film_55 rfl rfl ?_
    refine go_icmp_ge (pc' := 59) cx 89 dX5_film_56 rfl rfl (fun _ => ?_) (fun hh => absurd ((nI_leI (a := v) (b := v) (by omega) (by omega)).mpr (Nat.le_refl _)) hh)
    refine go_sub [4] [(3, .int (nI v))] rfl ?_
    exact kk G hG
  | succ k ih =>
    intro v G hk hG hC kk
    refine go_iload (pc' := 55) cx dX5_film_53 rfl rfl ?_
    refine go_iload_n (pc' := 56) cx dX5_film_55 rfl rfl ?_
    refine go_icmp_ge (pc' := 59) cx 89 dX5_film_56 rfl rfl (fun hh => absurd ((nI_leI (a := n) (b := v) (by omega) (by omega)).mp hh) (by omega)) (fun _ => ?_)
    refine go_aload_n (pc' := 60) cx dX5_film_59 rfl rfl ?_
    refine go_getr (pc' := 63) cx 4 fX5_32 dX5_film_60 kq0 (ltn rfl) (ltn rfl) rfl rfl rfl ?_
    refine go_iload_n (pc' := 64) cx dX5_film_63 rfl rfl ?_
    refine go_aaldk (pc' := 65) cx t (29 + 2 * t) dX5_film_64 kq4 (Nat.le_of_ble_eq_true rfl) (ltn rfl) (ltn rfl) (vpi (k := t) (a := 4) ht rfl rfl) (cli (k := t) (a := 4) ht rfl) (sh_r ht).2 rfl ?_
    refine go_iload (pc' := 67) cx dX5_film_65 rfl rfl ?_
    refine go_aload_n (pc' := 68) cx dX5_film_67 rfl rfl ?_
    refine go_getr (pc' := 71) cx 63 fX5_78 dX5_film_68 kq0 (ltn rfl) (ltn rfl) rfl rfl rfl ?_
    refine go_getr (pc' := 74) cx 77 fX5_130 dX5_film_71 kq63 (ltn rfl) (ltn rfl) rfl rfl rfl ?_
    refine go_iload (pc' := 76) cx dX5_film_74 rfl rfl ?_
    refine go_aaldk (pc' := 77) cx v (78 + v) dX5_film_76 kq77 (Nat.le_of_ble_eq_true rfl) (ltn rfl) (ltn rfl) (vpi (k := v) (a := 8) (by omega) rfl rfl) (cli (k := v) (a := 8) (by omega) rfl) (bh_r (by omega)) rfl ?_
    refine go_iload_n (pc' := 78) cx dX5_film_77 rfl rfl ?_
    refine go_iald (pc' := 79) cx (G (78 + v) pl) dX5_film_78 (bh_k (by omega)) (by omega) (vpi (k := pl) (a := 4) hpl rfl rfl) (congrArg (G (78 + v)) (cli (k := pl) (a := 4) hpl rfl)) rfl ?_
    refine go_cVi (pc' := 82) cx (c_X2_put l E (g := G) ht (sz := n) (q := v) (by omega) (by omega) (G (78 + v) pl) hG.2.2.1) mX2_put lX5_190 dX5_film_79 (sh_k' _ ht).1 (ltn rfl) (by omega) rfl rfl rfl rfl (ltn rfl) (Nat.le_of_ble_eq_true rfl) (Nat.le_of_ble_eq_true rfl) rfl ?_
    refine go_pop (pc' := 83) cx rfl dX5_film_82 rfl ?_
    refine go_iinc (pc' := 86) cx (nI (v + 1)) dX5_film_83 rfl (nI_1 v) (ltn rfl) [(4, .int (nI (v + 1))), (0, .ref (E.2.1 0)), (1, .int (nI t)), (2, .int (nI pl)), (3, .int (nI n))] rfl rfl ?_
    refine go_goto cx 53 dX5_film_86 rfl ?_
    rw [hG.2.1]
    refine ih (v + 1) _ (by omega) ⟨hG.1.up2 (by unfold scS; omega), (up2_n _ _ (Or.inl (by omega))).trans hG.2.1, (up2_n _ _ (Or.inl (by omega))).trans hG.2.2.1, ?_⟩ ?_ kk
    · have q := flm_s (f := (fun v => cvS 1 ((crs (M ru) (svC g 37) (v + 1)).1 pl))) (n := v) _ hG.2.2.2
      intro j hj
      have q2 := q j hj
      rw [← q2]
      show up2 G (29 + 2 * t + 1) v (cvS 1 (G (78 + v) pl)) (29 + 2 * t + 1) j = upd (G (29 + 2 * t + 1)) v (cvS 1 ((crs (M ru) (svC g 37) (v + 1)).1 pl)) j
      rw [(hC v (by omega)).1 pl hpl]
      unfold up2 upd
      rw [if_pos rfl]
    · exact fun u hu => by
        have q := hC u hu
        rw [up2_o (by omega), up2_o (by omega), up2_o (by omega)]
        exact q

set_option maxHeartbeats 1000000 in
set_option maxRecDepth 20000 in
theorem c_X5_film (l : Launch) (E : Ev) {g : IG} {o : Option Nat} {z : Int64} {hn vn ru tc : Nat} {M : Nat → TM} (hX : XP g hn vn ru tc M) (x1 x2 x3 : Int32) : Ct l E 88 yX5_film cX5_film 5 (some .int) 8 [.ref (E.2.1 0), .int x1, .int x2, .int x3] g (RFo o) z (ZI (RFo o) z (fun x g1 => ((inI 4 x1 = 0 ∨ inI 4 x2 = 0 ∨ x3 < 0 ∨ nI vn < x3) ∧ x = -2 ∧ g1 = g) ∨ ∃ t pl n, t < 4 ∧ pl < 4 ∧ n ≤ vn ∧ x1 = nI t ∧ x2 = nI pl ∧ x3 = nI n ∧ x = nI n ∧ (Fr (scS t) g g1 ∧ g1 (29 + 2 * t) 1 = 1 ∧ g1 (29 + 2 * t) 2 = nI n ∧ (∀ j, j < 40 → g1 (29 + 2 * t + 1) j = flmR (fun v => cvS 1 ((crs (M ru) (svC g 37) (v + 1)).1 pl)) n j)))) := by
  refine Ct.of (lv0 := [(0, .ref (E.2.1 0)), (1, .int x1), (2, .int x2), (3, .int x3)]) (by decide) (Nat.le_of_ble_eq_true rfl) rfl ?_
  intro p e s m below meth c cx
  obtain ⟨hhn5, hvn8, hruc, htc6⟩ := id hX.1
  refine go_iload_n (pc' := 1) cx dX5_film_0 rfl rfl ?_
  refine go_cSi (pc' := 4) cx (c_X5_isSheet l E (g := g) x1) mX5_isSheet lX5_165 dX5_film_1 rfl rfl rfl (ltn rfl) (Nat.le_of_ble_eq_true rfl) (Nat.le_of_ble_eq_true rfl) rfl ?_
  refine go_if_eq (pc' := 7) cx 29 dX5_film_4 rfl rfl (fun c4 => ?_) (fun c4 => ?_)
  · refine go_bipush (pc' := 31) cx (-2) dX5_film_29 rfl rfl ?_
    refine go_iret cx rfl dX5_film_31 ?_
    exact ZI.mk (Or.inl ⟨Or.inl c4, rfl, rfl⟩)
  · refine go_iload_n (pc' := 8) cx dX5_film_7 rfl rfl ?_
    refine go_cSi (pc' := 11) cx (c_X5_isPlace l E (g := g) x2) mX5_isPlace lX5_124 dX5_film_8 rfl rfl rfl (ltn rfl) (Nat.le_of_ble_eq_true rfl) (Nat.le_of_ble_eq_true rfl) rfl ?_
    refine go_if_eq (pc' := 14) cx 29 dX5_film_11 rfl rfl (fun c11 => ?_) (fun c11 => ?_)
    · refine go_bipush (pc' := 31) cx (-2) dX5_film_29 rfl rfl ?_
      refine go_iret cx rfl dX5_film_31 ?_
      exact ZI.mk (Or.inl ⟨Or.inr (Or.inl c11), rfl, rfl⟩)
    · refine go_iload_n (pc' := 15) cx dX5_film_14 rfl rfl ?_
      refine go_if_lt (pc' := 18) cx 29 dX5_film_15 rfl rfl (fun c15 => ?_) (fun c15 => ?_)
      · have c15n := Int32.not_le.mpr c15
        refine go_bipush (pc' := 31) cx (-2) dX5_film_29 rfl rfl ?_
        refine go_iret cx rfl dX5_film_31 ?_
        exact ZI.mk (Or.inl ⟨Or.inr (Or.inr (Or.inl c15)), rfl, rfl⟩)
      · have c15n := Int32.not_lt.mp c15
        refine go_iload_n (pc' := 19) cx dX5_film_18 rfl rfl ?_
        refine go_aload_n (pc' := 20) cx dX5_film_19 rfl rfl ?_
        refine go_getr (pc' := 23) cx 37 fX5_66 dX5_film_20 kq0 (ltn rfl) (ltn rfl) rfl rfl rfl ?_
        refine go_geti (pc' := 26) cx (nI vn) fX5_143 dX5_film_23 kq37 (ltn rfl) (ltn rfl) rfl hX.2.2.1 rfl ?_
        refine go_icmp_le (pc' := 29) cx 32 dX5_film_26 rfl rfl (fun c26 => ?_) (fun c26 => ?_)
        · have c26n := Int32.not_lt.mpr c26
          obtain ⟨t, ht, et⟩ := in_ok (k := 4) (by omega) c4
          subst et
          obtain ⟨pl, hpl, epl⟩ := in_ok (k := 4) (by omega) c11
          subst epl
          obtain ⟨n, hn1, en⟩ := nI_of c15
          subst en
          have hn8 : n ≤ vn := (nI_leI (by omega) (by omega)).mp c26
          refine go_aload_n (pc' := 33) cx dX5_film_32 rfl rfl ?_
          refine go_getr (pc' := 36) cx 63 fX5_78 dX5_film_33 kq0 (ltn rfl) (ltn rfl) rfl rfl rfl ?_
          refine go_cVV (pc' := 39) cx (c_X4_walkAsNow l E (G := g) hX Fr.rf) mX4_walkAsNow lX5_127 dX5_film_36 kq63 (ltn rfl) (ltn rfl) rfl rfl rfl rfl (ltn rfl) (Nat.le_of_ble_eq_true rfl) (Nat.le_of_ble_eq_true rfl) rfl (fun G_1 hG_1 => ?_)
          refine go_aload_n (pc' := 40) cx dX5_film_39 rfl rfl ?_
          refine go_getr (pc' := 43) cx 4 fX5_32 dX5_film_40 kq0 (ltn rfl) (ltn rfl) rfl rfl rfl ?_
          refine go_iload_n (pc' := 44) cx dX5_film_43 rfl rfl ?_
          refine go_aaldk (pc' := 45) cx t (29 + 2 * t) dX5_film_44 kq4 (Nat.le_of_ble_eq_true rfl) (ltn rfl) (ltn rfl) (vpi (k := t) (a := 4) ht rfl rfl) (cli (k := t) (a := 4) ht rfl) (sh_r ht).2 rfl ?_
          refine go_iconst (pc' := 46) cx 1 dX5_film_45 rfl rfl ?_
          refine go_iload_n (pc' := 47) cx dX5_film_46 rfl rfl ?_
          refine go_cVu (pc' := 50) cx (c_X2_renew l E (g := G_1) ht 1 (nI n)) mX2_renew lX5_186 dX5_film_47 (sh_k' _ ht).1 (ltn rfl) (by omega) rfl rfl rfl rfl (ltn rfl) (Nat.le_of_ble_eq_true rfl) (Nat.le_of_ble_eq_true rfl) rfl ?_
          refine go_iconst (pc' := 51) cx 0 dX5_film_50 rfl rfl ?_
          refine go_istore (pc' := 53) cx dX5_film_51 (ltn rfl) [(4, .int 0), (0, .ref (E.2.1 0)), (1, .int (nI t)), (2, .int (nI pl)), (3, .int (nI n))] rfl rfl ?_
          refine film_loop hX ht hpl hn8 cx n 0 _ (Nat.zero_add n) ⟨?_, ?_, ?_, ?_⟩ ?_ (fun G hG => ?_)
          · exact Fr.upw (S := scS t) (Fr.up2 (S := scS t) (Fr.up2 (S := scS t) ((hG_1.1).mono (fun i hi => Or.inl hi)) (Or.inr (Or.inl rfl))) (Or.inr (Or.inl rfl))) (Or.inr (Or.inr rfl))
          · rw [upw_n _ _ _ (by omega), up2_n _ _ (Or.inr (by omega)), up2_s]
          · rw [upw_n _ _ _ (by omega), up2_s]
          · intro j hj
            rw [upw_s]
            unfold zrow flmR
            rw [if_pos hj, if_neg (by omega)]
          · intro u hu
            have q := (hG_1.2.2).1 u hu
            rw [upw_rn _ _ (by omega), upw_rn _ _ (by omega), upw_rn _ _ (by omega), up2_o (by omega), up2_o (by omega), up2_o (by omega), up2_o (by omega), up2_o (by omega), up2_o (by omega)]
            exact q
          refine go_iload_n (pc' := 90) cx dX5_film_89 rfl rfl ?_
          refine go_iret cx rfl dX5_film_90 ?_
          exact ZI.mk (Or.inr ⟨t, pl, n, ht, hpl, hn8, rfl, rfl, rfl, rfl, hG⟩)
        · have c26n := Int32.not_le.mp c26
          refine go_bipush (pc' := 31) cx (-2) dX5_film_29 rfl rfl ?_
          refine go_iret cx rfl dX5_film_31 ?_
          exact ZI.mk (Or.inl ⟨Or.inr (Or.inr (Or.inr (Int32.not_le.mp c26))), rfl, rfl⟩)
