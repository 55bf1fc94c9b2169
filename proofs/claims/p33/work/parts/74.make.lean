/-! THE MAKERS -/
theorem up2r_o {g : RG} {i k a b : Nat} {v : Option Nat} (h : a ≠ i ∨ b ≠ k) : up2r g i k v a b = g a b := by
  unfold up2r
  rcases h with h | h
  · rw [if_neg h]
  · by_cases ha : a = i
    · rw [if_pos ha, if_neg h]
    · rw [if_neg ha]
theorem gk_r {p : Program} {l : Launch} {e : Env} {R : Room} {s : State} {m : MethodId} {args : Array Value} {below : List Frame} {meth : Method} {c : Code} {E : Ev} {k0 nL cells slots : Nat} {Q : State → Prop} {g : IG} {r r' : RG} {z : Int64} {pc : Nat} {lv : LV} {st : List Value} (h : r = r') (kk : GoK p l e R s m args below meth c E k0 nL cells slots Q g r' z pc lv st) : GoK p l e R s m args below meth c E k0 nL cells slots Q g r z pc lv st := h ▸ kk
theorem gk_w {p : Program} {l : Launch} {e : Env} {R : Room} {s : State} {m : MethodId} {args : Array Value} {below : List Frame} {meth : Method} {c : Code} {E : Ev} {k0 k1 nL cells slots c1 s1 : Nat} {Q : State → Prop} {g : IG} {r : RG} {z : Int64} {pc : Nat} {lv : LV} {st : List Value} (hk : k0 = k1) (hc : cells = c1) (hs : slots = s1) (kk : GoK p l e R s m args below meth c E k1 nL c1 s1 Q g r z pc lv st) : GoK p l e R s m args below meth c E k0 nL cells slots Q g r z pc lv st := by
  subst hk
  subst hc
  subst hs
  exact kk
theorem up2_id {g : IG} {i k : Nat} {v : Int32} (h : g i k = v) : up2 g i k v = g := by
  funext a b
  unfold up2
  by_cases h1 : a = i
  · by_cases h2 : b = k
    · rw [if_pos h1, if_pos h2, h1, h2, h]
    · rw [if_pos h1, if_neg h2]
  · rw [if_neg h1]
theorem gk_cVi {p : Program} {l : Launch} {e : Env} {R : Room} {s : State} {m : MethodId} {args : Array Value} {below : List Frame} {meth : Method} {c : Code} {E : Ev} {k0 nL cells slots : Nat} {Q : State → Prop} {cc : ByteArray} {own : String} {ret : Option FieldType} {g : IG} {r : RG} {z : Int64} {pc pc' : Nat} {lv : LV} {st : List Value} (cx : Cx p s m args meth c E 88 cc nL own ret) {y : MethodName} {bytes : ByteArray} {maxL : Nat} {rt : Option FieldType} {np d idx i ci N : Nat} {As st0 : List Value} {x : Int32} {g1 : IG} {r1 : RG} {z1 : Int64} (hk5 : k0 ≤ 88) (hM : Ct l E k0 y bytes maxL rt d (.ref (E.2.1 i) :: As) g r z (Zi r1 z1 x g1)) (hw : MWv y bytes maxL rt np) (hl : ML own idx y) (hdg : decode cc pc = .ok (.invokevirtual idx, 3))
    (hk : kd i = (ci, N)) (hc : ci < 7) (hi : i < k0) (hcl : (clx[ci]?).map (·.1) = some y.cls) (hn : As.length = np) (hst : st0 = As.reverse ++ .ref (E.2.1 i) :: st) (hR : d + 1 ≤ R.frames ∧ 8 + (maxL + 11) + 80 * d ≤ R.locals) (hsz : (st.map fun v => v.category).sum ≤ 8) (hp : pc + 3 = pc') (hcs : cells ≤ R.cells ∧ slots ≤ R.slots)
    (kk : GoK p l e R s m args below meth c E k0 nL cells slots Q g1 r1 z1 pc' lv (.int x :: st)) : GoK p l e R s m args below meth c E k0 nL cells slots Q g r z pc lv st0 := by
  refine gk_callV cx hk5 hM hw hl hdg hk hc hi hcl hn hst hR hsz hp ?_ hcs
  rintro _ _ _ _ ⟨rfl, rfl, rfl, rfl⟩
  exact kk
theorem gk_cVu {p : Program} {l : Launch} {e : Env} {R : Room} {s : State} {m : MethodId} {args : Array Value} {below : List Frame} {meth : Method} {c : Code} {E : Ev} {k0 nL cells slots : Nat} {Q : State → Prop} {cc : ByteArray} {own : String} {ret : Option FieldType} {g : IG} {r : RG} {z : Int64} {pc pc' : Nat} {lv : LV} {st : List Value} (cx : Cx p s m args meth c E 88 cc nL own ret) {y : MethodName} {bytes : ByteArray} {maxL : Nat} {rt : Option FieldType} {np d idx i ci N : Nat} {As st0 : List Value} {g1 : IG} {r1 : RG} {z1 : Int64} (hk5 : k0 ≤ 88) (hM : Ct l E k0 y bytes maxL rt d (.ref (E.2.1 i) :: As) g r z (Zu r1 z1 g1)) (hw : MWv y bytes maxL rt np) (hl : ML own idx y) (hdg : decode cc pc = .ok (.invokevirtual idx, 3))
    (hk : kd i = (ci, N)) (hc : ci < 7) (hi : i < k0) (hcl : (clx[ci]?).map (·.1) = some y.cls) (hn : As.length = np) (hst : st0 = As.reverse ++ .ref (E.2.1 i) :: st) (hR : d + 1 ≤ R.frames ∧ 8 + (maxL + 11) + 80 * d ≤ R.locals) (hsz : (st.map fun v => v.category).sum ≤ 8) (hp : pc + 3 = pc') (hcs : cells ≤ R.cells ∧ slots ≤ R.slots)
    (kk : GoK p l e R s m args below meth c E k0 nL cells slots Q g1 r1 z1 pc' lv st) : GoK p l e R s m args below meth c E k0 nL cells slots Q g r z pc lv st0 := by
  refine gk_callV cx hk5 hM hw hl hdg hk hc hi hcl hn hst hR hsz hp ?_ hcs
  rintro _ _ _ _ ⟨rfl, rfl, rfl, rfl⟩
  exact kk
theorem gk_cVI {p : Program} {l : Launch} {e : Env} {R : Room} {s : State} {m : MethodId} {args : Array Value} {below : List Frame} {meth : Method} {c : Code} {E : Ev} {k0 nL cells slots : Nat} {Q : State → Prop} {cc : ByteArray} {own : String} {ret : Option FieldType} {g : IG} {r : RG} {z : Int64} {pc pc' : Nat} {lv : LV} {st : List Value} (cx : Cx p s m args meth c E 88 cc nL own ret) {y : MethodName} {bytes : ByteArray} {maxL : Nat} {rt : Option FieldType} {np d idx i ci N : Nat} {As st0 : List Value} {F : Int32 → IG → Prop} {r1 : RG} {z1 : Int64} (hk5 : k0 ≤ 88) (hM : Ct l E k0 y bytes maxL rt d (.ref (E.2.1 i) :: As) g r z (ZI r1 z1 F)) (hw : MWv y bytes maxL rt np) (hl : ML own idx y) (hdg : decode cc pc = .ok (.invokevirtual idx, 3))
    (hk : kd i = (ci, N)) (hc : ci < 7) (hi : i < k0) (hcl : (clx[ci]?).map (·.1) = some y.cls) (hn : As.length = np) (hst : st0 = As.reverse ++ .ref (E.2.1 i) :: st) (hR : d + 1 ≤ R.frames ∧ 8 + (maxL + 11) + 80 * d ≤ R.locals) (hsz : (st.map fun v => v.category).sum ≤ 8) (hp : pc + 3 = pc') (hcs : cells ≤ R.cells ∧ slots ≤ R.slots)
    (kk : ∀ x g1, F x g1 → GoK p l e R s m args below meth c E k0 nL cells slots Q g1 r1 z1 pc' lv (.int x :: st)) : GoK p l e R s m args below meth c E k0 nL cells slots Q g r z pc lv st0 := by
  refine gk_callV cx hk5 hM hw hl hdg hk hc hi hcl hn hst hR hsz hp ?_ hcs
  rintro _ _ _ _ ⟨⟨x, rfl, h⟩, rfl, rfl⟩
  exact kk x _ h
theorem gk_cVIz {p : Program} {l : Launch} {e : Env} {R : Room} {s : State} {m : MethodId} {args : Array Value} {below : List Frame} {meth : Method} {c : Code} {E : Ev} {k0 nL cells slots : Nat} {Q : State → Prop} {cc : ByteArray} {own : String} {ret : Option FieldType} {g : IG} {r : RG} {z : Int64} {pc pc' : Nat} {lv : LV} {st : List Value} (cx : Cx p s m args meth c E 88 cc nL own ret) {y : MethodName} {bytes : ByteArray} {maxL : Nat} {rt : Option FieldType} {np d idx i ci N : Nat} {As st0 : List Value} {F : Int32 → IG → Int64 → Prop} {r1 : RG} (hk5 : k0 ≤ 88) (hM : Ct l E k0 y bytes maxL rt d (.ref (E.2.1 i) :: As) g r z (ZIz r1 F)) (hw : MWv y bytes maxL rt np) (hl : ML own idx y) (hdg : decode cc pc = .ok (.invokevirtual idx, 3))
    (hk : kd i = (ci, N)) (hc : ci < 7) (hi : i < k0) (hcl : (clx[ci]?).map (·.1) = some y.cls) (hn : As.length = np) (hst : st0 = As.reverse ++ .ref (E.2.1 i) :: st) (hR : d + 1 ≤ R.frames ∧ 8 + (maxL + 11) + 80 * d ≤ R.locals) (hsz : (st.map fun v => v.category).sum ≤ 8) (hp : pc + 3 = pc') (hcs : cells ≤ R.cells ∧ slots ≤ R.slots)
    (kk : ∀ x g1 z1, F x g1 z1 → GoK p l e R s m args below meth c E k0 nL cells slots Q g1 r1 z1 pc' lv (.int x :: st)) : GoK p l e R s m args below meth c E k0 nL cells slots Q g r z pc lv st0 := by
  refine gk_callV cx hk5 hM hw hl hdg hk hc hi hcl hn hst hR hsz hp ?_ hcs
  rintro _ _ _ _ ⟨⟨x, rfl, h⟩, rfl⟩
  exact kk x _ _ h
theorem gk_cVL {p : Program} {l : Launch} {e : Env} {R : Room} {s : State} {m : MethodId} {args : Array Value} {below : List Frame} {meth : Method} {c : Code} {E : Ev} {k0 nL cells slots : Nat} {Q : State → Prop} {cc : ByteArray} {own : String} {ret : Option FieldType} {g : IG} {r : RG} {z : Int64} {pc pc' : Nat} {lv : LV} {st : List Value} (cx : Cx p s m args meth c E 88 cc nL own ret) {y : MethodName} {bytes : ByteArray} {maxL : Nat} {rt : Option FieldType} {np d idx i ci N : Nat} {As st0 : List Value} {F : Int64 → IG → Prop} {r1 : RG} {z1 : Int64} (hk5 : k0 ≤ 88) (hM : Ct l E k0 y bytes maxL rt d (.ref (E.2.1 i) :: As) g r z (ZL r1 z1 F)) (hw : MWv y bytes maxL rt np) (hl : ML own idx y) (hdg : decode cc pc = .ok (.invokevirtual idx, 3))
    (hk : kd i = (ci, N)) (hc : ci < 7) (hi : i < k0) (hcl : (clx[ci]?).map (·.1) = some y.cls) (hn : As.length = np) (hst : st0 = As.reverse ++ .ref (E.2.1 i) :: st) (hR : d + 1 ≤ R.frames ∧ 8 + (maxL + 11) + 80 * d ≤ R.locals) (hsz : (st.map fun v => v.category).sum ≤ 8) (hp : pc + 3 = pc') (hcs : cells ≤ R.cells ∧ slots ≤ R.slots)
    (kk : ∀ x g1, F x g1 → GoK p l e R s m args below meth c E k0 nL cells slots Q g1 r1 z1 pc' lv (.long x :: st)) : GoK p l e R s m args below meth c E k0 nL cells slots Q g r z pc lv st0 := by
  refine gk_callV cx hk5 hM hw hl hdg hk hc hi hcl hn hst hR hsz hp ?_ hcs
  rintro _ _ _ _ ⟨⟨x, rfl, h⟩, rfl, rfl⟩
  exact kk x _ h
set_option maxHeartbeats 4000000 in
set_option maxRecDepth 40000 in
theorem n_X3_0 (l : Launch) (E : Ev) (hE : Sq E) {g : IG} {r : RG} (hg : ∀ i, 6 ≤ i → ∀ j, g i j = 0) (hr : ∀ i, 6 ≤ i → ∀ j, r i j = none) (h3 : g 5 3 = 0) : CtN l E 6 3 203 yX3_init cX3_init 1 1 [.ref (E.2.1 5)] g r 0 (fun v g1 r1 z1 => v = none ∧ z1 = 0 ∧ (g1 = g ∧ r1 = up2r (up2r (up2r r 5 0 (some 6)) 5 1 (some 7)) 5 2 (some 8))) := by
  refine CtN.of (lv0 := [(0, .ref (E.2.1 5))]) (by decide) rfl (Nat.le_of_ble_eq_true rfl) rfl ?_
  intro p e s m below meth c cx hin hsz hKx
  refine gk_aload_n (pc' := 1) cx dX3_init_0 rfl rfl ?_
  refine gk_obj (pc' := 4) cx loX3_3 obw dX3_init_1 (Nat.le_of_ble_eq_true rfl) (Nat.le_of_ble_eq_true rfl) (Nat.le_of_ble_eq_true rfl) rfl ?_
  refine gk_aload_n (pc' := 5) cx dX3_init_4 rfl rfl ?_
  refine gk_sipush (pc' := 8) cx 160 dX3_init_5 rfl rfl ?_
  refine gk_newi (pc' := 10) cx hE (by omega) (fun h9 => absurd h9 (by decide)) (ltn rfl) kq6 ac_int dX3_init_8 (by decide) (by decide) (Nat.le_of_ble_eq_true rfl) (Nat.le_of_ble_eq_true rfl) (Nat.le_of_ble_eq_true rfl) (hg _ (by omega)) rfl ?_
  refine gk_putF (pc' := 13) (ty := .array .int) cx hin fX3_9 dX3_init_10 kq5 (ltn rfl) (ltn rfl) rfl rfl rfl (by decide +kernel) ⟨rfl, rfl⟩ rfl ?_
  refine gk_aload_n (pc' := 14) cx dX3_init_13 rfl rfl ?_
  refine gk_iconst (pc' := 15) cx 3 dX3_init_14 rfl rfl ?_
  refine gk_newi (pc' := 17) cx hE (by omega) (fun h9 => absurd h9 (by decide)) (ltn rfl) kq7 ac_int dX3_init_15 (by decide) (by decide) (Nat.le_of_ble_eq_true rfl) (Nat.le_of_ble_eq_true rfl) (Nat.le_of_ble_eq_true rfl) (hg _ (by omega)) rfl ?_
  refine gk_putF (pc' := 20) (ty := .array .int) cx hin fX3_15 dX3_init_17 kq5 (ltn rfl) (ltn rfl) rfl rfl rfl (by decide +kernel) ⟨rfl, rfl⟩ rfl ?_
  refine gk_aload_n (pc' := 21) cx dX3_init_20 rfl rfl ?_
  refine gk_bipush (pc' := 23) cx 40 dX3_init_21 rfl rfl ?_
  refine gk_newi (pc' := 25) cx hE (by omega) (fun h9 => absurd h9 (by decide)) (ltn rfl) kq8 ac_int dX3_init_23 (by decide) (by decide) (Nat.le_of_ble_eq_true rfl) (Nat.le_of_ble_eq_true rfl) (Nat.le_of_ble_eq_true rfl) (hg _ (by omega)) rfl ?_
  refine gk_putF (pc' := 28) (ty := .array .int) cx hin fX3_18 dX3_init_25 kq5 (ltn rfl) (ltn rfl) rfl rfl rfl (by decide +kernel) ⟨rfl, rfl⟩ rfl ?_
  refine gk_aload_n (pc' := 29) cx dX3_init_28 rfl rfl ?_
  refine gk_iconst (pc' := 30) cx 0 dX3_init_29 rfl rfl ?_
  refine gk_puti (pc' := 33) cx fX3_21 dX3_init_30 kq5 (ltn rfl) (ltn rfl) rfl rfl rfl rfl ?_
  refine gk_vret cx rfl dX3_init_33 rfl ?_
  exact ⟨rfl, rfl, up2_id h3, rfl⟩

set_option maxHeartbeats 4000000 in
set_option maxRecDepth 40000 in
theorem n_X3_1 (l : Launch) (E : Ev) (hE : Sq E) {g : IG} {r : RG} (hg : ∀ i, 10 ≤ i → ∀ j, g i j = 0) (hr : ∀ i, 10 ≤ i → ∀ j, r i j = none) (h3 : g 9 3 = 0) : CtN l E 10 3 203 yX3_init cX3_init 1 1 [.ref (E.2.1 9)] g r 0 (fun v g1 r1 z1 => v = none ∧ z1 = 0 ∧ (g1 = g ∧ r1 = up2r (up2r (up2r r 9 0 (some 10)) 9 1 (some 11)) 9 2 (some 12))) := by
  refine CtN.of (lv0 := [(0, .ref (E.2.1 9))]) (by decide) rfl (Nat.le_of_ble_eq_true rfl) rfl ?_
  intro p e s m below meth c cx hin hsz hKx
  refine gk_aload_n (pc' := 1) cx dX3_init_0 rfl rfl ?_
  refine gk_obj (pc' := 4) cx loX3_3 obw dX3_init_1 (Nat.le_of_ble_eq_true rfl) (Nat.le_of_ble_eq_true rfl) (Nat.le_of_ble_eq_true rfl) rfl ?_
  refine gk_aload_n (pc' := 5) cx dX3_init_4 rfl rfl ?_
  refine gk_sipush (pc' := 8) cx 160 dX3_init_5 rfl rfl ?_
  refine gk_newi (pc' := 10) cx hE (by omega) (fun h9 => absurd h9 (by decide)) (ltn rfl) kq10 ac_int dX3_init_8 (by decide) (by decide) (Nat.le_of_ble_eq_true rfl) (Nat.le_of_ble_eq_true rfl) (Nat.le_of_ble_eq_true rfl) (hg _ (by omega)) rfl ?_
  refine gk_putF (pc' := 13) (ty := .array .int) cx hin fX3_9 dX3_init_10 kq9 (ltn rfl) (ltn rfl) rfl rfl rfl (by decide +kernel) ⟨rfl, rfl⟩ rfl ?_
  refine gk_aload_n (pc' := 14) cx dX3_init_13 rfl rfl ?_
  refine gk_iconst (pc' := 15) cx 3 dX3_init_14 rfl rfl ?_
  refine gk_newi (pc' := 17) cx hE (by omega) (fun h9 => absurd h9 (by decide)) (ltn rfl) kq11 ac_int dX3_init_15 (by decide) (by decide) (Nat.le_of_ble_eq_true rfl) (Nat.le_of_ble_eq_true rfl) (Nat.le_of_ble_eq_true rfl) (hg _ (by omega)) rfl ?_
  refine gk_putF (pc' := 20) (ty := .array .int) cx hin fX3_15 dX3_init_17 kq9 (ltn rfl) (ltn rfl) rfl rfl rfl (by decide +kernel) ⟨rfl, rfl⟩ rfl ?_
  refine gk_aload_n (pc' := 21) cx dX3_init_20 rfl rfl ?_
  refine gk_bipush (pc' := 23) cx 40 dX3_init_21 rfl rfl ?_
  refine gk_newi (pc' := 25) cx hE (by omega) (fun h9 => absurd h9 (by decide)) (ltn rfl) kq12 ac_int dX3_init_23 (by decide) (by decide) (Nat.le_of_ble_eq_true rfl) (Nat.le_of_ble_eq_true rfl) (Nat.le_of_ble_eq_true rfl) (hg _ (by omega)) rfl ?_
  refine gk_putF (pc' := 28) (ty := .array .int) cx hin fX3_18 dX3_init_25 kq9 (ltn rfl) (ltn rfl) rfl rfl rfl (by decide +kernel) ⟨rfl, rfl⟩ rfl ?_
  refine gk_aload_n (pc' := 29) cx dX3_init_28 rfl rfl ?_
  refine gk_iconst (pc' := 30) cx 0 dX3_init_29 rfl rfl ?_
  refine gk_puti (pc' := 33) cx fX3_21 dX3_init_30 kq9 (ltn rfl) (ltn rfl) rfl rfl rfl rfl ?_
  refine gk_vret cx rfl dX3_init_33 rfl ?_
  exact ⟨rfl, rfl, up2_id h3, rfl⟩

set_option maxHeartbeats 4000000 in
set_option maxRecDepth 40000 in
theorem n_X3_2 (l : Launch) (E : Ev) (hE : Sq E) {g : IG} {r : RG} (hg : ∀ i, 14 ≤ i → ∀ j, g i j = 0) (hr : ∀ i, 14 ≤ i → ∀ j, r i j = none) (h3 : g 13 3 = 0) : CtN l E 14 3 203 yX3_init cX3_init 1 1 [.ref (E.2.1 13)] g r 0 (fun v g1 r1 z1 => v = none ∧ z1 = 0 ∧ (g1 = g ∧ r1 = up2r (up2r (up2r r 13 0 (some 14)) 13 1 (some 15)) 13 2 (some 16))) := by
  refine CtN.of (lv0 := [(0, .ref (E.2.1 13))]) (by decide) rfl (Nat.le_of_ble_eq_true rfl) rfl ?_
  intro p e s m below meth c cx hin hsz hKx
  refine gk_aload_n (pc' := 1) cx dX3_init_0 rfl rfl ?_
  refine gk_obj (pc' := 4) cx loX3_3 obw dX3_init_1 (Nat.le_of_ble_eq_true rfl) (Nat.le_of_ble_eq_true rfl) (Nat.le_of_ble_eq_true rfl) rfl ?_
  refine gk_aload_n (pc' := 5) cx dX3_init_4 rfl rfl ?_
  refine gk_sipush (pc' := 8) cx 160 dX3_init_5 rfl rfl ?_
  refine gk_newi (pc' := 10) cx hE (by omega) (fun h9 => absurd h9 (by decide)) (ltn rfl) kq14 ac_int dX3_init_8 (by decide) (by decide) (Nat.le_of_ble_eq_true rfl) (Nat.le_of_ble_eq_true rfl) (Nat.le_of_ble_eq_true rfl) (hg _ (by omega)) rfl ?_
  refine gk_putF (pc' := 13) (ty := .array .int) cx hin fX3_9 dX3_init_10 kq13 (ltn rfl) (ltn rfl) rfl rfl rfl (by decide +kernel) ⟨rfl, rfl⟩ rfl ?_
  refine gk_aload_n (pc' := 14) cx dX3_init_13 rfl rfl ?_
  refine gk_iconst (pc' := 15) cx 3 dX3_init_14 rfl rfl ?_
  refine gk_newi (pc' := 17) cx hE (by omega) (fun h9 => absurd h9 (by decide)) (ltn rfl) kq15 ac_int dX3_init_15 (by decide) (by decide) (Nat.le_of_ble_eq_true rfl) (Nat.le_of_ble_eq_true rfl) (Nat.le_of_ble_eq_true rfl) (hg _ (by omega)) rfl ?_
  refine gk_putF (pc' := 20) (ty := .array .int) cx hin fX3_15 dX3_init_17 kq13 (ltn rfl) (ltn rfl) rfl rfl rfl (by decide +kernel) ⟨rfl, rfl⟩ rfl ?_
  refine gk_aload_n (pc' := 21) cx dX3_init_20 rfl rfl ?_
  refine gk_bipush (pc' := 23) cx 40 dX3_init_21 rfl rfl ?_
  refine gk_newi (pc' := 25) cx hE (by omega) (fun h9 => absurd h9 (by decide)) (ltn rfl) kq16 ac_int dX3_init_23 (by decide) (by decide) (Nat.le_of_ble_eq_true rfl) (Nat.le_of_ble_eq_true rfl) (Nat.le_of_ble_eq_true rfl) (hg _ (by omega)) rfl ?_
  refine gk_putF (pc' := 28) (ty := .array .int) cx hin fX3_18 dX3_init_25 kq13 (ltn rfl) (ltn rfl) rfl rfl rfl (by decide +kernel) ⟨rfl, rfl⟩ rfl ?_
  refine gk_aload_n (pc' := 29) cx dX3_init_28 rfl rfl ?_
  refine gk_iconst (pc' := 30) cx 0 dX3_init_29 rfl rfl ?_
  refine gk_puti (pc' := 33) cx fX3_21 dX3_init_30 kq13 (ltn rfl) (ltn rfl) rfl rfl rfl rfl ?_
  refine gk_vret cx rfl dX3_init_33 rfl ?_
  exact ⟨rfl, rfl, up2_id h3, rfl⟩

set_option maxHeartbeats 4000000 in
set_option maxRecDepth 40000 in
theorem n_X3_3 (l : Launch) (E : Ev) (hE : Sq E) {g : IG} {r : RG} (hg : ∀ i, 18 ≤ i → ∀ j, g i j = 0) (hr : ∀ i, 18 ≤ i → ∀ j, r i j = none) (h3 : g 17 3 = 0) : CtN l E 18 3 203 yX3_init cX3_init 1 1 [.ref (E.2.1 17)] g r 0 (fun v g1 r1 z1 => v = none ∧ z1 = 0 ∧ (g1 = g ∧ r1 = up2r (up2r (up2r r 17 0 (some 18)) 17 1 (some 19)) 17 2 (some 20))) := by
  refine CtN.of (lv0 := [(0, .ref (E.2.1 17))]) (by decide) rfl (Nat.le_of_ble_eq_true rfl) rfl ?_
  intro p e s m below meth c cx hin hsz hKx
  refine gk_aload_n (pc' := 1) cx dX3_init_0 rfl rfl ?_
  refine gk_obj (pc' := 4) cx loX3_3 obw dX3_init_1 (Nat.le_of_ble_eq_true rfl) (Nat.le_of_ble_eq_true rfl) (Nat.le_of_ble_eq_true rfl) rfl ?_
  refine gk_aload_n (pc' := 5) cx dX3_init_4 rfl rfl ?_
  refine gk_sipush (pc' := 8) cx 160 dX3_init_5 rfl rfl ?_
  refine gk_newi (pc' := 10) cx hE (by omega) (fun h9 => absurd h9 (by decide)) (ltn rfl) kq18 ac_int dX3_init_8 (by decide) (by decide) (Nat.le_of_ble_eq_true rfl) (Nat.le_of_ble_eq_true rfl) (Nat.le_of_ble_eq_true rfl) (hg _ (by omega)) rfl ?_
  refine gk_putF (pc' := 13) (ty := .array .int) cx hin fX3_9 dX3_init_10 kq17 (ltn rfl) (ltn rfl) rfl rfl rfl (by decide +kernel) ⟨rfl, rfl⟩ rfl ?_
  refine gk_aload_n (pc' := 14) cx dX3_init_13 rfl rfl ?_
  refine gk_iconst (pc' := 15) cx 3 dX3_init_14 rfl rfl ?_
  refine gk_newi (pc' := 17) cx hE (by omega) (fun h9 => absurd h9 (by decide)) (ltn rfl) kq19 ac_int dX3_init_15 (by decide) (by decide) (Nat.le_of_ble_eq_true rfl) (Nat.le_of_ble_eq_true rfl) (Nat.le_of_ble_eq_true rfl) (hg _ (by omega)) rfl ?_
  refine gk_putF (pc' := 20) (ty := .array .int) cx hin fX3_15 dX3_init_17 kq17 (ltn rfl) (ltn rfl) rfl rfl rfl (by decide +kernel) ⟨rfl, rfl⟩ rfl ?_
  refine gk_aload_n (pc' := 21) cx dX3_init_20 rfl rfl ?_
  refine gk_bipush (pc' := 23) cx 40 dX3_init_21 rfl rfl ?_
  refine gk_newi (pc' := 25) cx hE (by omega) (fun h9 => absurd h9 (by decide)) (ltn rfl) kq20 ac_int dX3_init_23 (by decide) (by decide) (Nat.le_of_ble_eq_true rfl) (Nat.le_of_ble_eq_true rfl) (Nat.le_of_ble_eq_true rfl) (hg _ (by omega)) rfl ?_
  refine gk_putF (pc' := 28) (ty := .array .int) cx hin fX3_18 dX3_init_25 kq17 (ltn rfl) (ltn rfl) rfl rfl rfl (by decide +kernel) ⟨rfl, rfl⟩ rfl ?_
  refine gk_aload_n (pc' := 29) cx dX3_init_28 rfl rfl ?_
  refine gk_iconst (pc' := 30) cx 0 dX3_init_29 rfl rfl ?_
  refine gk_puti (pc' := 33) cx fX3_21 dX3_init_30 kq17 (ltn rfl) (ltn rfl) rfl rfl rfl rfl ?_
  refine gk_vret cx rfl dX3_init_33 rfl ?_
  exact ⟨rfl, rfl, up2_id h3, rfl⟩

set_option maxHeartbeats 4000000 in
set_option maxRecDepth 40000 in
theorem n_X3_4 (l : Launch) (E : Ev) (hE : Sq E) {g : IG} {r : RG} (hg : ∀ i, 22 ≤ i → ∀ j, g i j = 0) (hr : ∀ i, 22 ≤ i → ∀ j, r i j = none) (h3 : g 21 3 = 0) : CtN l E 22 3 203 yX3_init cX3_init 1 1 [.ref (E.2.1 21)] g r 0 (fun v g1 r1 z1 => v = none ∧ z1 = 0 ∧ (g1 = g ∧ r1 = up2r (up2r (up2r r 21 0 (some 22)) 21 1 (some 23)) 21 2 (some 24))) := by
  refine CtN.of (lv0 := [(0, .ref (E.2.1 21))]) (by decide) rfl (Nat.le_of_ble_eq_true rfl) rfl ?_
  intro p e s m below meth c cx hin hsz hKx
  refine gk_aload_n (pc' := 1) cx dX3_init_0 rfl rfl ?_
  refine gk_obj (pc' := 4) cx loX3_3 obw dX3_init_1 (Nat.le_of_ble_eq_true rfl) (Nat.le_of_ble_eq_true rfl) (Nat.le_of_ble_eq_true rfl) rfl ?_
  refine gk_aload_n (pc' := 5) cx dX3_init_4 rfl rfl ?_
  refine gk_sipush (pc' := 8) cx 160 dX3_init_5 rfl rfl ?_
  refine gk_newi (pc' := 10) cx hE (by omega) (fun h9 => absurd h9 (by decide)) (ltn rfl) kq22 ac_int dX3_init_8 (by decide) (by decide) (Nat.le_of_ble_eq_true rfl) (Nat.le_of_ble_eq_true rfl) (Nat.le_of_ble_eq_true rfl) (hg _ (by omega)) rfl ?_
  refine gk_putF (pc' := 13) (ty := .array .int) cx hin fX3_9 dX3_init_10 kq21 (ltn rfl) (ltn rfl) rfl rfl rfl (by decide +kernel) ⟨rfl, rfl⟩ rfl ?_
  refine gk_aload_n (pc' := 14) cx dX3_init_13 rfl rfl ?_
  refine gk_iconst (pc' := 15) cx 3 dX3_init_14 rfl rfl ?_
  refine gk_newi (pc' := 17) cx hE (by omega) (fun h9 => absurd h9 (by decide)) (ltn rfl) kq23 ac_int dX3_init_15 (by decide) (by decide) (Nat.le_of_ble_eq_true rfl) (Nat.le_of_ble_eq_true rfl) (Nat.le_of_ble_eq_true rfl) (hg _ (by omega)) rfl ?_
  refine gk_putF (pc' := 20) (ty := .array .int) cx hin fX3_15 dX3_init_17 kq21 (ltn rfl) (ltn rfl) rfl rfl rfl (by decide +kernel) ⟨rfl, rfl⟩ rfl ?_
  refine gk_aload_n (pc' := 21) cx dX3_init_20 rfl rfl ?_
  refine gk_bipush (pc' := 23) cx 40 dX3_init_21 rfl rfl ?_
  refine gk_newi (pc' := 25) cx hE (by omega) (fun h9 => absurd h9 (by decide)) (ltn rfl) kq24 ac_int dX3_init_23 (by decide) (by decide) (Nat.le_of_ble_eq_true rfl) (Nat.le_of_ble_eq_true rfl) (Nat.le_of_ble_eq_true rfl) (hg _ (by omega)) rfl ?_
  refine gk_putF (pc' := 28) (ty := .array .int) cx hin fX3_18 dX3_init_25 kq21 (ltn rfl) (ltn rfl) rfl rfl rfl (by decide +kernel) ⟨rfl, rfl⟩ rfl ?_
  refine gk_aload_n (pc' := 29) cx dX3_init_28 rfl rfl ?_
  refine gk_iconst (pc' := 30) cx 0 dX3_init_29 rfl rfl ?_
  refine gk_puti (pc' := 33) cx fX3_21 dX3_init_30 kq21 (ltn rfl) (ltn rfl) rfl rfl rfl rfl ?_
  refine gk_vret cx rfl dX3_init_33 rfl ?_
  exact ⟨rfl, rfl, up2_id h3, rfl⟩

set_option maxHeartbeats 4000000 in
set_option maxRecDepth 40000 in
theorem n_X3_5 (l : Launch) (E : Ev) (hE : Sq E) {g : IG} {r : RG} (hg : ∀ i, 26 ≤ i → ∀ j, g i j = 0) (hr : ∀ i, 26 ≤ i → ∀ j, r i j = none) (h3 : g 25 3 = 0) : CtN l E 26 3 203 yX3_init cX3_init 1 1 [.ref (E.2.1 25)] g r 0 (fun v g1 r1 z1 => v = none ∧ z1 = 0 ∧ (g1 = g ∧ r1 = up2r (up2r (up2r r 25 0 (some 26)) 25 1 (some 27)) 25 2 (some 28))) := by
  refine CtN.of (lv0 := [(0, .ref (E.2.1 25))]) (by decide) rfl (Nat.le_of_ble_eq_true rfl) rfl ?_
  intro p e s m below meth c cx hin hsz hKx
  refine gk_aload_n (pc' := 1) cx dX3_init_0 rfl rfl ?_
  refine gk_obj (pc' := 4) cx loX3_3 obw dX3_init_1 (Nat.le_of_ble_eq_true rfl) (Nat.le_of_ble_eq_true rfl) (Nat.le_of_ble_eq_true rfl) rfl ?_
  refine gk_aload_n (pc' := 5) cx dX3_init_4 rfl rfl ?_
  refine gk_sipush (pc' := 8) cx 160 dX3_init_5 rfl rfl ?_
  refine gk_newi (pc' := 10) cx hE (by omega) (fun h9 => absurd h9 (by decide)) (ltn rfl) kq26 ac_int dX3_init_8 (by decide) (by decide) (Nat.le_of_ble_eq_true rfl) (Nat.le_of_ble_eq_true rfl) (Nat.le_of_ble_eq_true rfl) (hg _ (by omega)) rfl ?_
  refine gk_putF (pc' := 13) (ty := .array .int) cx hin fX3_9 dX3_init_10 kq25 (ltn rfl) (ltn rfl) rfl rfl rfl (by decide +kernel) ⟨rfl, rfl⟩ rfl ?_
  refine gk_aload_n (pc' := 14) cx dX3_init_13 rfl rfl ?_
  refine gk_iconst (pc' := 15) cx 3 dX3_init_14 rfl rfl ?_
  refine gk_newi (pc' := 17) cx hE (by omega) (fun h9 => absurd h9 (by decide)) (ltn rfl) kq27 ac_int dX3_init_15 (by decide) (by decide) (Nat.le_of_ble_eq_true rfl) (Nat.le_of_ble_eq_true rfl) (Nat.le_of_ble_eq_true rfl) (hg _ (by omega)) rfl ?_
  refine gk_putF (pc' := 20) (ty := .array .int) cx hin fX3_15 dX3_init_17 kq25 (ltn rfl) (ltn rfl) rfl rfl rfl (by decide +kernel) ⟨rfl, rfl⟩ rfl ?_
  refine gk_aload_n (pc' := 21) cx dX3_init_20 rfl rfl ?_
  refine gk_bipush (pc' := 23) cx 40 dX3_init_21 rfl rfl ?_
  refine gk_newi (pc' := 25) cx hE (by omega) (fun h9 => absurd h9 (by decide)) (ltn rfl) kq28 ac_int dX3_init_23 (by decide) (by decide) (Nat.le_of_ble_eq_true rfl) (Nat.le_of_ble_eq_true rfl) (Nat.le_of_ble_eq_true rfl) (hg _ (by omega)) rfl ?_
  refine gk_putF (pc' := 28) (ty := .array .int) cx hin fX3_18 dX3_init_25 kq25 (ltn rfl) (ltn rfl) rfl rfl rfl (by decide +kernel) ⟨rfl, rfl⟩ rfl ?_
  refine gk_aload_n (pc' := 29) cx dX3_init_28 rfl rfl ?_
  refine gk_iconst (pc' := 30) cx 0 dX3_init_29 rfl rfl ?_
  refine gk_puti (pc' := 33) cx fX3_21 dX3_init_30 kq25 (ltn rfl) (ltn rfl) rfl rfl rfl rfl ?_
  refine gk_vret cx rfl dX3_init_33 rfl ?_
  exact ⟨rfl, rfl, up2_id h3, rfl⟩

set_option maxHeartbeats 4000000 in
set_option maxRecDepth 40000 in
theorem n_X2_0 (l : Launch) (E : Ev) (hE : Sq E) {g : IG} {r : RG} (hg : ∀ i, 30 ≤ i → ∀ j, g i j = 0) (hr : ∀ i, 30 ≤ i → ∀ j, r i j = none) (h3 : g 29 2 = 0) : CtN l E 30 1 40 yX2_init cX2_init 1 1 [.ref (E.2.1 29)] g r 0 (fun v g1 r1 z1 => v = none ∧ z1 = 0 ∧ (g1 = up2 g 29 1 (-1) ∧ r1 = up2r r 29 0 (some 30))) := by
  refine CtN.of (lv0 := [(0, .ref (E.2.1 29))]) (by decide) rfl (Nat.le_of_ble_eq_true rfl) rfl ?_
  intro p e s m below meth c cx hin hsz hKx
  refine gk_aload_n (pc' := 1) cx dX2_init_0 rfl rfl ?_
  refine gk_obj (pc' := 4) cx loX2_3 obw dX2_init_1 (Nat.le_of_ble_eq_true rfl) (Nat.le_of_ble_eq_true rfl) (Nat.le_of_ble_eq_true rfl) rfl ?_
  refine gk_aload_n (pc' := 5) cx dX2_init_4 rfl rfl ?_
  refine gk_bipush (pc' := 7) cx 40 dX2_init_5 rfl rfl ?_
  refine gk_newi (pc' := 9) cx hE (by omega) (fun h9 => absurd h9 (by decide)) (ltn rfl) kq30 ac_int dX2_init_7 (by decide) (by decide) (Nat.le_of_ble_eq_true rfl) (Nat.le_of_ble_eq_true rfl) (Nat.le_of_ble_eq_true rfl) (hg _ (by omega)) rfl ?_
  refine gk_putF (pc' := 12) (ty := .array .int) cx hin fX2_9 dX2_init_9 kq29 (ltn rfl) (ltn rfl) rfl rfl rfl (by decide +kernel) ⟨rfl, rfl⟩ rfl ?_
  refine gk_aload_n (pc' := 13) cx dX2_init_12 rfl rfl ?_
  refine gk_iconst (pc' := 14) cx (-1) dX2_init_13 rfl rfl ?_
  refine gk_puti (pc' := 17) cx fX2_15 dX2_init_14 kq29 (ltn rfl) (ltn rfl) rfl rfl rfl rfl ?_
  refine gk_aload_n (pc' := 18) cx dX2_init_17 rfl rfl ?_
  refine gk_iconst (pc' := 19) cx 0 dX2_init_18 rfl rfl ?_
  refine gk_puti (pc' := 22) cx fX2_19 dX2_init_19 kq29 (ltn rfl) (ltn rfl) rfl rfl rfl rfl ?_
  refine gk_vret cx rfl dX2_init_22 rfl ?_
  exact ⟨rfl, rfl, up2_id ((up2_n _ _ (Or.inr (by decide))).trans h3), rfl⟩

set_option maxHeartbeats 4000000 in
set_option maxRecDepth 40000 in
theorem n_X2_1 (l : Launch) (E : Ev) (hE : Sq E) {g : IG} {r : RG} (hg : ∀ i, 32 ≤ i → ∀ j, g i j = 0) (hr : ∀ i, 32 ≤ i → ∀ j, r i j = none) (h3 : g 31 2 = 0) : CtN l E 32 1 40 yX2_init cX2_init 1 1 [.ref (E.2.1 31)] g r 0 (fun v g1 r1 z1 => v = none ∧ z1 = 0 ∧ (g1 = up2 g 31 1 (-1) ∧ r1 = up2r r 31 0 (some 32))) := by
  refine CtN.of (lv0 := [(0, .ref (E.2.1 31))]) (by decide) rfl (Nat.le_of_ble_eq_true rfl) rfl ?_
  intro p e s m below meth c cx hin hsz hKx
  refine gk_aload_n (pc' := 1) cx dX2_init_0 rfl rfl ?_
  refine gk_obj (pc' := 4) cx loX2_3 obw dX2_init_1 (Nat.le_of_ble_eq_true rfl) (Nat.le_of_ble_eq_true rfl) (Nat.le_of_ble_eq_true rfl) rfl ?_
  refine gk_aload_n (pc' := 5) cx dX2_init_4 rfl rfl ?_
  refine gk_bipush (pc' := 7) cx 40 dX2_init_5 rfl rfl ?_
  refine gk_newi (pc' := 9) cx hE (by omega) (fun h9 => absurd h9 (by decide)) (ltn rfl) kq32 ac_int dX2_init_7 (by decide) (by decide) (Nat.le_of_ble_eq_true rfl) (Nat.le_of_ble_eq_true rfl) (Nat.le_of_ble_eq_true rfl) (hg _ (by omega)) rfl ?_
  refine gk_putF (pc' := 12) (ty := .array .int) cx hin fX2_9 dX2_init_9 kq31 (ltn rfl) (ltn rfl) rfl rfl rfl (by decide +kernel) ⟨rfl, rfl⟩ rfl ?_
  refine gk_aload_n (pc' := 13) cx dX2_init_12 rfl rfl ?_
  refine gk_iconst (pc' := 14) cx (-1) dX2_init_13 rfl rfl ?_
  refine gk_puti (pc' := 17) cx fX2_15 dX2_init_14 kq31 (ltn rfl) (ltn rfl) rfl rfl rfl rfl ?_
  refine gk_aload_n (pc' := 18) cx dX2_init_17 rfl rfl ?_
  refine gk_iconst (pc' := 19) cx 0 dX2_init_18 rfl rfl ?_
  refine gk_puti (pc' := 22) cx fX2_19 dX2_init_19 kq31 (ltn rfl) (ltn rfl) rfl rfl rfl rfl ?_
  refine gk_vret cx rfl dX2_init_22 rfl ?_
  exact ⟨rfl, rfl, up2_id ((up2_n _ _ (Or.inr (by decide))).trans h3), rfl⟩

set_option maxHeartbeats 4000000 in
set_option maxRecDepth 40000 in
theorem n_X2_2 (l : Launch) (E : Ev) (hE : Sq E) {g : IG} {r : RG} (hg : ∀ i, 34 ≤ i → ∀ j, g i j = 0) (hr : ∀ i, 34 ≤ i → ∀ j, r i j = none) (h3 : g 33 2 = 0) : CtN l E 34 1 40 yX2_init cX2_init 1 1 [.ref (E.2.1 33)] g r 0 (fun v g1 r1 z1 => v = none ∧ z1 = 0 ∧ (g1 = up2 g 33 1 (-1) ∧ r1 = up2r r 33 0 (some 34))) := by
  refine CtN.of (lv0 := [(0, .ref (E.2.1 33))]) (by decide) rfl (Nat.le_of_ble_eq_true rfl) rfl ?_
  intro p e s m below meth c cx hin hsz hKx
  refine gk_aload_n (pc' := 1) cx dX2_init_0 rfl rfl ?_
  refine gk_obj (pc' := 4) cx loX2_3 obw dX2_init_1 (Nat.le_of_ble_eq_true rfl) (Nat.le_of_ble_eq_true rfl) (Nat.le_of_ble_eq_true rfl) rfl ?_
  refine gk_aload_n (pc' := 5) cx dX2_init_4 rfl rfl ?_
  refine gk_bipush (pc' := 7) cx 40 dX2_init_5 rfl rfl ?_
  refine gk_newi (pc' := 9) cx hE (by omega) (fun h9 => absurd h9 (by decide)) (ltn rfl) kq34 ac_int dX2_init_7 (by decide) (by decide) (Nat.le_of_ble_eq_true rfl) (Nat.le_of_ble_eq_true rfl) (Nat.le_of_ble_eq_true rfl) (hg _ (by omega)) rfl ?_
  refine gk_putF (pc' := 12) (ty := .array .int) cx hin fX2_9 dX2_init_9 kq33 (ltn rfl) (ltn rfl) rfl rfl rfl (by decide +kernel) ⟨rfl, rfl⟩ rfl ?_
  refine gk_aload_n (pc' := 13) cx dX2_init_12 rfl rfl ?_
  refine gk_iconst (pc' := 14) cx (-1) dX2_init_13 rfl rfl ?_
  refine gk_puti (pc' := 17) cx fX2_15 dX2_init_14 kq33 (ltn rfl) (ltn rfl) rfl rfl rfl rfl ?_
  refine gk_aload_n (pc' := 18) cx dX2_init_17 rfl rfl ?_
  refine gk_iconst (pc' := 19) cx 0 dX2_init_18 rfl rfl ?_
  refine gk_puti (pc' := 22) cx fX2_19 dX2_init_19 kq33 (ltn rfl) (ltn rfl) rfl rfl rfl rfl ?_
  refine gk_vret cx rfl dX2_init_22 rfl ?_
  exact ⟨rfl, rfl, up2_id ((up2_n _ _ (Or.inr (by decide))).trans h3), rfl⟩

set_option maxHeartbeats 4000000 in
set_option maxRecDepth 40000 in
theorem n_X2_3 (l : Launch) (E : Ev) (hE : Sq E) {g : IG} {r : RG} (hg : ∀ i, 36 ≤ i → ∀ j, g i j = 0) (hr : ∀ i, 36 ≤ i → ∀ j, r i j = none) (h3 : g 35 2 = 0) : CtN l E 36 1 40 yX2_init cX2_init 1 1 [.ref (E.2.1 35)] g r 0 (fun v g1 r1 z1 => v = none ∧ z1 = 0 ∧ (g1 = up2 g 35 1 (-1) ∧ r1 = up2r r 35 0 (some 36))) := by
  refine CtN.of (lv0 := [(0, .ref (E.2.1 35))]) (by decide) rfl (Nat.le_of_ble_eq_true rfl) rfl ?_
  intro p e s m below meth c cx hin hsz hKx
  refine gk_aload_n (pc' := 1) cx dX2_init_0 rfl rfl ?_
  refine gk_obj (pc' := 4) cx loX2_3 obw dX2_init_1 (Nat.le_of_ble_eq_true rfl) (Nat.le_of_ble_eq_true rfl) (Nat.le_of_ble_eq_true rfl) rfl ?_
  refine gk_aload_n (pc' := 5) cx dX2_init_4 rfl rfl ?_
  refine gk_bipush (pc' := 7) cx 40 dX2_init_5 rfl rfl ?_
  refine gk_newi (pc' := 9) cx hE (by omega) (fun h9 => absurd h9 (by decide)) (ltn rfl) kq36 ac_int dX2_init_7 (by decide) (by decide) (Nat.le_of_ble_eq_true rfl) (Nat.le_of_ble_eq_true rfl) (Nat.le_of_ble_eq_true rfl) (hg _ (by omega)) rfl ?_
  refine gk_putF (pc' := 12) (ty := .array .int) cx hin fX2_9 dX2_init_9 kq35 (ltn rfl) (ltn rfl) rfl rfl rfl (by decide +kernel) ⟨rfl, rfl⟩ rfl ?_
  refine gk_aload_n (pc' := 13) cx dX2_init_12 rfl rfl ?_
  refine gk_iconst (pc' := 14) cx (-1) dX2_init_13 rfl rfl ?_
  refine gk_puti (pc' := 17) cx fX2_15 dX2_init_14 kq35 (ltn rfl) (ltn rfl) rfl rfl rfl rfl ?_
  refine gk_aload_n (pc' := 18) cx dX2_init_17 rfl rfl ?_
  refine gk_iconst (pc' := 19) cx 0 dX2_init_18 rfl rfl ?_
  refine gk_puti (pc' := 22) cx fX2_19 dX2_init_19 kq35 (ltn rfl) (ltn rfl) rfl rfl rfl rfl ?_
  refine gk_vret cx rfl dX2_init_22 rfl ?_
  exact ⟨rfl, rfl, up2_id ((up2_n _ _ (Or.inr (by decide))).trans h3), rfl⟩

set_option maxHeartbeats 4000000 in
set_option maxRecDepth 40000 in
theorem n_X0 (l : Launch) (E : Ev) (hE : Sq E) {g : IG} {r : RG} (hg : ∀ i, 3 ≤ i → ∀ j, g i j = 0) (hr : ∀ i, 3 ≤ i → ∀ j, r i j = none) (h3 : g 2 1 = 0) : CtN l E 3 1 160 yX0_init cX0_init 1 1 [.ref (E.2.1 2)] g r 0 (fun v g1 r1 z1 => v = none ∧ z1 = 0 ∧ (g1 = g ∧ r1 = up2r r 2 0 (some 3))) := by
  refine CtN.of (lv0 := [(0, .ref (E.2.1 2))]) (by decide) rfl (Nat.le_of_ble_eq_true rfl) rfl ?_
  intro p e s m below meth c cx hin hsz hKx
  refine gk_aload_n (pc' := 1) cx dX0_init_0 rfl rfl ?_
  refine gk_obj (pc' := 4) cx loX0_3 obw dX0_init_1 (Nat.le_of_ble_eq_true rfl) (Nat.le_of_ble_eq_true rfl) (Nat.le_of_ble_eq_true rfl) rfl ?_
  refine gk_aload_n (pc' := 5) cx dX0_init_4 rfl rfl ?_
  refine gk_sipush (pc' := 8) cx 160 dX0_init_5 rfl rfl ?_
  refine gk_newi (pc' := 10) cx hE (by omega) (fun h9 => absurd h9 (by decide)) (ltn rfl) kq3 ac_int dX0_init_8 (by decide) (by decide) (Nat.le_of_ble_eq_true rfl) (Nat.le_of_ble_eq_true rfl) (Nat.le_of_ble_eq_true rfl) (hg _ (by omega)) rfl ?_
  refine gk_putF (pc' := 13) (ty := .array .int) cx hin fX0_9 dX0_init_10 kq2 (ltn rfl) (ltn rfl) rfl rfl rfl (by decide +kernel) ⟨rfl, rfl⟩ rfl ?_
  refine gk_aload_n (pc' := 14) cx dX0_init_13 rfl rfl ?_
  refine gk_iconst (pc' := 15) cx 0 dX0_init_14 rfl rfl ?_
  refine gk_puti (pc' := 18) cx fX0_15 dX0_init_15 kq2 (ltn rfl) (ltn rfl) rfl rfl rfl rfl ?_
  refine gk_vret cx rfl dX0_init_18 rfl ?_
  exact ⟨rfl, rfl, up2_id h3, rfl⟩

set_option maxHeartbeats 4000000 in
set_option maxRecDepth 40000 in
theorem n_X1_37 (l : Launch) (E : Ev) (hE : Sq E) {g : IG} {r : RG} (hg : ∀ i, 38 ≤ i → ∀ j, g i j = 0) (hr : ∀ i, 38 ≤ i → ∀ j, r i j = none) : CtN l E 38 12 99 yX1_init cX1_init 3 1 [.ref (E.2.1 37), .ref (E.2.1 1)] g r 0 (fun v g1 r1 z1 => v = none ∧ z1 = 0 ∧ ((∀ p, p < 4 → g1 39 p = 40 ∧ g1 40 p = 40 ∧ g1 41 p = 40) ∧ g1 42 0 = -1 ∧ g1 37 2 = 0 ∧ g1 37 3 = 0 ∧ g1 37 4 = 0 ∧ (∀ i j, ¬ (((39 ≤ i ∧ i ≤ 41) ∧ j < 4) ∨ (i = 42 ∧ j = 0) ∨ (i = 37 ∧ 2 ≤ j ∧ j ≤ 4)) → g1 i j = g i j) ∧ r1 = up2r (up2r (mnr r 38 11) 37 1 (some 38)) 37 0 (some 1))) := by
  refine CtN.of (lv0 := [(0, .ref (E.2.1 37)), (1, .ref (E.2.1 1))]) (by decide) rfl (Nat.le_of_ble_eq_true rfl) rfl ?_
  intro p e s m below meth c cx hin hsz hKx
  refine gk_aload_n (pc' := 1) cx dX1_init_0 rfl rfl ?_
  refine gk_obj (pc' := 4) cx loX1_3 obw dX1_init_1 (Nat.le_of_ble_eq_true rfl) (Nat.le_of_ble_eq_true rfl) (Nat.le_of_ble_eq_true rfl) rfl ?_
  refine gk_aload_n (pc' := 5) cx dX1_init_4 rfl rfl ?_
  refine gk_bipush (pc' := 7) cx 11 dX1_init_5 rfl rfl ?_
  refine gk_bipush (pc' := 9) cx 8 dX1_init_7 rfl rfl ?_
  refine gk_mnew (pc' := 13) (N := 11) (M := 8) cx hE hKx (by omega) (fun h9 => absurd h9 (by decide)) (ltn rfl) kq38 (by decide +kernel) ckX1_9 dX1_init_9 (by decide) (by decide) (by decide) (by decide) ⟨(Nat.le_of_ble_eq_true rfl), (Nat.le_of_ble_eq_true rfl)⟩ (Nat.le_of_ble_eq_true rfl) (Nat.le_of_ble_eq_true rfl) (fun i9 h9 j9 => hg _ (by omega) j9) (hr _ (by omega)) rfl rfl rfl rfl ?_
  refine gk_putF (pc' := 16) (ty := .array (.array .int)) cx hin fX1_11 dX1_init_13 kq37 (ltn rfl) (ltn rfl) rfl rfl rfl (by decide +kernel) ⟨rfl, rfl⟩ rfl ?_
  refine gk_aload_n (pc' := 17) cx dX1_init_16 rfl rfl ?_
  refine gk_iconst (pc' := 18) cx 0 dX1_init_17 rfl rfl ?_
  refine gk_puti (pc' := 21) cx fX1_16 dX1_init_18 kq37 (ltn rfl) (ltn rfl) rfl rfl rfl rfl ?_
  refine gk_aload_n (pc' := 22) cx dX1_init_21 rfl rfl ?_
  refine gk_iconst (pc' := 23) cx 0 dX1_init_22 rfl rfl ?_
  refine gk_puti (pc' := 26) cx fX1_20 dX1_init_23 kq37 (ltn rfl) (ltn rfl) rfl rfl rfl rfl ?_
  refine gk_aload_n (pc' := 27) cx dX1_init_26 rfl rfl ?_
  refine gk_iconst (pc' := 28) cx 0 dX1_init_27 rfl rfl ?_
  refine gk_puti (pc' := 31) cx fX1_23 dX1_init_28 kq37 (ltn rfl) (ltn rfl) rfl rfl rfl rfl ?_
  refine gk_aload_n (pc' := 32) cx dX1_init_31 rfl rfl ?_
  refine gk_aload_n (pc' := 33) cx dX1_init_32 rfl rfl ?_
  refine gk_putF (pc' := 36) (ty := .array (.object "AsLastTime$Text")) cx hin fX1_26 dX1_init_33 kq37 (ltn rfl) (ltn rfl) rfl rfl rfl (by decide +kernel) ⟨rfl, rfl⟩ rfl ?_
  refine gk_iconst (pc' := 37) cx 0 dX1_init_36 rfl rfl ?_
  refine gk_istore_n (pc' := 38) cx dX1_init_37 (ltn rfl) [(2, .int 0), (0, .ref (E.2.1 37)), (1, .ref (E.2.1 1))] rfl rfl ?_
  refine gk_iload_n (pc' := 39) cx dX1_init_38 rfl rfl ?_
  refine gk_iconst (pc' := 40) cx 4 dX1_init_39 rfl rfl ?_
  refine gk_icmp_ge (pc' := 43) cx 79 dX1_init_40 rfl rfl (fun hh => absurd hh (by decide)) (fun _ => ?_)
  refine gk_aload_n (pc' := 44) cx dX1_init_43 rfl rfl ?_
  refine gk_getr (pc' := 47) cx 38 fX1_11 dX1_init_44 kq37 (ltn rfl) (ltn rfl) rfl rfl rfl ?_
  refine gk_iconst (pc' := 48) cx 0 dX1_init_47 rfl rfl ?_
  refine gk_aaldk (pc' := 49) cx 0 39 dX1_init_48 kq38 (Nat.le_of_ble_eq_true rfl) (ltn rfl) (ltn rfl) (vpi (k := 0) (a := 1) (ltn rfl) rfl rfl) (cli (k := 0) (a := 1) (ltn rfl) rfl) ((up2r_o (by decide)).trans ((up2r_o (by decide)).trans ((mnr_r 11 38 0).trans (if_pos ⟨rfl, by decide⟩)))) rfl ?_
  refine gk_iload_n (pc' := 50) cx dX1_init_49 rfl rfl ?_
  refine gk_bipush (pc' := 52) cx 40 dX1_init_50 rfl rfl ?_
  refine gk_iastk (pc' := 53) cx 0 dX1_init_52 kq39 (ltn rfl) (vpi (k := 0) (a := 1) (ltn rfl) rfl rfl) (cli (k := 0) (a := 1) (ltn rfl) rfl) rfl ?_
  refine gk_aload_n (pc' := 54) cx dX1_init_53 rfl rfl ?_
  refine gk_getr (pc' := 57) cx 38 fX1_11 dX1_init_54 kq37 (ltn rfl) (ltn rfl) rfl rfl rfl ?_
  refine gk_iconst (pc' := 58) cx 1 dX1_init_57 rfl rfl ?_
  refine gk_aaldk (pc' := 59) cx 1 40 dX1_init_58 kq38 (Nat.le_of_ble_eq_true rfl) (ltn rfl) (ltn rfl) (vpi (k := 1) (a := 2) (ltn rfl) rfl rfl) (cli (k := 1) (a := 2) (ltn rfl) rfl) ((up2r_o (by decide)).trans ((up2r_o (by decide)).trans ((mnr_r 11 38 1).trans (if_pos ⟨rfl, by decide⟩)))) rfl ?_
  refine gk_iload_n (pc' := 60) cx dX1_init_59 rfl rfl ?_
  refine gk_bipush (pc' := 62) cx 40 dX1_init_60 rfl rfl ?_
  refine gk_iastk (pc' := 63) cx 0 dX1_init_62 kq40 (ltn rfl) (vpi (k := 0) (a := 1) (ltn rfl) rfl rfl) (cli (k := 0) (a := 1) (ltn rfl) rfl) rfl ?_
  refine gk_aload_n (pc' := 64) cx dX1_init_63 rfl rfl ?_
  refine gk_getr (pc' := 67) cx 38 fX1_11 dX1_init_64 kq37 (ltn rfl) (ltn rfl) rfl rfl rfl ?_
  refine gk_iconst (pc' := 68) cx 2 dX1_init_67 rfl rfl ?_
  refine gk_aaldk (pc' := 69) cx 2 41 dX1_init_68 kq38 (Nat.le_of_ble_eq_true rfl) (ltn rfl) (ltn rfl) (vpi (k := 2) (a := 3) (ltn rfl) rfl rfl) (cli (k := 2) (a := 3) (ltn rfl) rfl) ((up2r_o (by decide)).trans ((up2r_o (by decide)).trans ((mnr_r 11 38 2).trans (if_pos ⟨rfl, by decide⟩)))) rfl ?_
  refine gk_iload_n (pc' := 70) cx dX1_init_69 rfl rfl ?_
  refine gk_bipush (pc' := 72) cx 40 dX1_init_70 rfl rfl ?_
  refine gk_iastk (pc' := 73) cx 0 dX1_init_72 kq41 (ltn rfl) (vpi (k := 0) (a := 1) (ltn rfl) rfl rfl) (cli (k := 0) (a := 1) (ltn rfl) rfl) rfl ?_
  refine gk_iinc (pc' := 76) cx 1 dX1_init_73 rfl rfl (ltn rfl) [(2, .int 1), (0, .ref (E.2.1 37)), (1, .ref (E.2.1 1))] rfl rfl ?_
  refine gk_goto cx 38 dX1_init_76 rfl ?_
  refine gk_iload_n (pc' := 39) cx dX1_init_38 rfl rfl ?_
  refine gk_iconst (pc' := 40) cx 4 dX1_init_39 rfl rfl ?_
  refine gk_icmp_ge (pc' := 43) cx 79 dX1_init_40 rfl rfl (fun hh => absurd hh (by decide)) (fun _ => ?_)
  refine gk_aload_n (pc' := 44) cx dX1_init_43 rfl rfl ?_
  refine gk_getr (pc' := 47) cx 38 fX1_11 dX1_init_44 kq37 (ltn rfl) (ltn rfl) rfl rfl rfl ?_
  refine gk_iconst (pc' := 48) cx 0 dX1_init_47 rfl rfl ?_
  refine gk_aaldk (pc' := 49) cx 0 39 dX1_init_48 kq38 (Nat.le_of_ble_eq_true rfl) (ltn rfl) (ltn rfl) (vpi (k := 0) (a := 1) (ltn rfl) rfl rfl) (cli (k := 0) (a := 1) (ltn rfl) rfl) ((up2r_o (by decide)).trans ((up2r_o (by decide)).trans ((mnr_r 11 38 0).trans (if_pos ⟨rfl, by decide⟩)))) rfl ?_
  refine gk_iload_n (pc' := 50) cx dX1_init_49 rfl rfl ?_
  refine gk_bipush (pc' := 52) cx 40 dX1_init_50 rfl rfl ?_
  refine gk_iastk (pc' := 53) cx 1 dX1_init_52 kq39 (ltn rfl) (vpi (k := 1) (a := 2) (ltn rfl) rfl rfl) (cli (k := 1) (a := 2) (ltn rfl) rfl) rfl ?_
  refine gk_aload_n (pc' := 54) cx dX1_init_53 rfl rfl ?_
  refine gk_getr (pc' := 57) cx 38 fX1_11 dX1_init_54 kq37 (ltn rfl) (ltn rfl) rfl rfl rfl ?_
  refine gk_iconst (pc' := 58) cx 1 dX1_init_57 rfl rfl ?_
  refine gk_aaldk (pc' := 59) cx 1 40 dX1_init_58 kq38 (Nat.le_of_ble_eq_true rfl) (ltn rfl) (ltn rfl) (vpi (k := 1) (a := 2) (ltn rfl) rfl rfl) (cli (k := 1) (a := 2) (ltn rfl) rfl) ((up2r_o (by decide)).trans ((up2r_o (by decide)).trans ((mnr_r 11 38 1).trans (if_pos ⟨rfl, by decide⟩)))) rfl ?_
  refine gk_iload_n (pc' := 60) cx dX1_init_59 rfl rfl ?_
  refine gk_bipush (pc' := 62) cx 40 dX1_init_60 rfl rfl ?_
  refine gk_iastk (pc' := 63) cx 1 dX1_init_62 kq40 (ltn rfl) (vpi (k := 1) (a := 2) (ltn rfl) rfl rfl) (cli (k := 1) (a := 2) (ltn rfl) rfl) rfl ?_
  refine gk_aload_n (pc' := 64) cx dX1_init_63 rfl rfl ?_
  refine gk_getr (pc' := 67) cx 38 fX1_11 dX1_init_64 kq37 (ltn rfl) (ltn rfl) rfl rfl rfl ?_
  refine gk_iconst (pc' := 68) cx 2 dX1_init_67 rfl rfl ?_
  refine gk_aaldk (pc' := 69) cx 2 41 dX1_init_68 kq38 (Nat.le_of_ble_eq_true rfl) (ltn rfl) (ltn rfl) (vpi (k := 2) (a := 3) (ltn rfl) rfl rfl) (cli (k := 2) (a := 3) (ltn rfl) rfl) ((up2r_o (by decide)).trans ((up2r_o (by decide)).trans ((mnr_r 11 38 2).trans (if_pos ⟨rfl, by decide⟩)))) rfl ?_
  refine gk_iload_n (pc' := 70) cx dX1_init_69 rfl rfl ?_
  refine gk_bipush (pc' := 72) cx 40 dX1_init_70 rfl rfl ?_
  refine gk_iastk (pc' := 73) cx 1 dX1_init_72 kq41 (ltn rfl) (vpi (k := 1) (a := 2) (ltn rfl) rfl rfl) (cli (k := 1) (a := 2) (ltn rfl) rfl) rfl ?_
  refine gk_iinc (pc' := 76) cx 2 dX1_init_73 rfl rfl (ltn rfl) [(2, .int 2), (0, .ref (E.2.1 37)), (1, .ref (E.2.1 1))] rfl rfl ?_
  refine gk_goto cx 38 dX1_init_76 rfl ?_
  refine gk_iload_n (pc' := 39) cx dX1_init_38 rfl rfl ?_
  refine gk_iconst (pc' := 40) cx 4 dX1_init_39 rfl rfl ?_
  refine gk_icmp_ge (pc' := 43) cx 79 dX1_init_40 rfl rfl (fun hh => absurd hh (by decide)) (fun _ => ?_)
  refine gk_aload_n (pc' := 44) cx dX1_init_43 rfl rfl ?_
  refine gk_getr (pc' := 47) cx 38 fX1_11 dX1_init_44 kq37 (ltn rfl) (ltn rfl) rfl rfl rfl ?_
  refine gk_iconst (pc' := 48) cx 0 dX1_init_47 rfl rfl ?_
  refine gk_aaldk (pc' := 49) cx 0 39 dX1_init_48 kq38 (Nat.le_of_ble_eq_true rfl) (ltn rfl) (ltn rfl) (vpi (k := 0) (a := 1) (ltn rfl) rfl rfl) (cli (k := 0) (a := 1) (ltn rfl) rfl) ((up2r_o (by decide)).trans ((up2r_o (by decide)).trans ((mnr_r 11 38 0).trans (if_pos ⟨rfl, by decide⟩)))) rfl ?_
  refine gk_iload_n (pc' := 50) cx dX1_init_49 rfl rfl ?_
  refine gk_bipush (pc' := 52) cx 40 dX1_init_50 rfl rfl ?_
  refine gk_iastk (pc' := 53) cx 2 dX1_init_52 kq39 (ltn rfl) (vpi (k := 2) (a := 3) (ltn rfl) rfl rfl) (cli (k := 2) (a := 3) (ltn rfl) rfl) rfl ?_
  refine gk_aload_n (pc' := 54) cx dX1_init_53 rfl rfl ?_
  refine gk_getr (pc' := 57) cx 38 fX1_11 dX1_init_54 kq37 (ltn rfl) (ltn rfl) rfl rfl rfl ?_
  refine gk_iconst (pc' := 58) cx 1 dX1_init_57 rfl rfl ?_
  refine gk_aaldk (pc' := 59) cx 1 40 dX1_init_58 kq38 (Nat.le_of_ble_eq_true rfl) (ltn rfl) (ltn rfl) (vpi (k := 1) (a := 2) (ltn rfl) rfl rfl) (cli (k := 1) (a := 2) (ltn rfl) rfl) ((up2r_o (by decide)).trans ((up2r_o (by decide)).trans ((mnr_r 11 38 1).trans (if_pos ⟨rfl, by decide⟩)))) rfl ?_
  refine gk_iload_n (pc' := 60) cx dX1_init_59 rfl rfl ?_
  refine gk_bipush (pc' := 62) cx 40 dX1_init_60 rfl rfl ?_
  refine gk_iastk (pc' := 63) cx 2 dX1_init_62 kq40 (ltn rfl) (vpi (k := 2) (a := 3) (ltn rfl) rfl rfl) (cli (k := 2) (a := 3) (ltn rfl) rfl) rfl ?_
  refine gk_aload_n (pc' := 64) cx dX1_init_63 rfl rfl ?_
  refine gk_getr (pc' := 67) cx 38 fX1_11 dX1_init_64 kq37 (ltn rfl) (ltn rfl) rfl rfl rfl ?_
  refine gk_iconst (pc' := 68) cx 2 dX1_init_67 rfl rfl ?_
  refine gk_aaldk (pc' := 69) cx 2 41 dX1_init_68 kq38 (Nat.le_of_ble_eq_true rfl) (ltn rfl) (ltn rfl) (vpi (k := 2) (a := 3) (ltn rfl) rfl rfl) (cli (k := 2) (a := 3) (ltn rfl) rfl) ((up2r_o (by decide)).trans ((up2r_o (by decide)).trans ((mnr_r 11 38 2).trans (if_pos ⟨rfl, by decide⟩)))) rfl ?_
  refine gk_iload_n (pc' := 70) cx dX1_init_69 rfl rfl ?_
  refine gk_bipush (pc' := 72) cx 40 dX1_init_70 rfl rfl ?_
  refine gk_iastk (pc' := 73) cx 2 dX1_init_72 kq41 (ltn rfl) (vpi (k := 2) (a := 3) (ltn rfl) rfl rfl) (cli (k := 2) (a := 3) (ltn rfl) rfl) rfl ?_
  refine gk_iinc (pc' := 76) cx 3 dX1_init_73 rfl rfl (ltn rfl) [(2, .int 3), (0, .ref (E.2.1 37)), (1, .ref (E.2.1 1))] rfl rfl ?_
  refine gk_goto cx 38 dX1_init_76 rfl ?_
  refine gk_iload_n (pc' := 39) cx dX1_init_38 rfl rfl ?_
  refine gk_iconst (pc' := 40) cx 4 dX1_init_39 rfl rfl ?_
  refine gk_icmp_ge (pc' := 43) cx 79 dX1_init_40 rfl rfl (fun hh => absurd hh (by decide)) (fun _ => ?_)
  refine gk_aload_n (pc' := 44) cx dX1_init_43 rfl rfl ?_
  refine gk_getr (pc' := 47) cx 38 fX1_11 dX1_init_44 kq37 (ltn rfl) (ltn rfl) rfl rfl rfl ?_
  refine gk_iconst (pc' := 48) cx 0 dX1_init_47 rfl rfl ?_
  refine gk_aaldk (pc' := 49) cx 0 39 dX1_init_48 kq38 (Nat.le_of_ble_eq_true rfl) (ltn rfl) (ltn rfl) (vpi (k := 0) (a := 1) (ltn rfl) rfl rfl) (cli (k := 0) (a := 1) (ltn rfl) rfl) ((up2r_o (by decide)).trans ((up2r_o (by decide)).trans ((mnr_r 11 38 0).trans (if_pos ⟨rfl, by decide⟩)))) rfl ?_
  refine gk_iload_n (pc' := 50) cx dX1_init_49 rfl rfl ?_
  refine gk_bipush (pc' := 52) cx 40 dX1_init_50 rfl rfl ?_
  refine gk_iastk (pc' := 53) cx 3 dX1_init_52 kq39 (ltn rfl) (vpi (k := 3) (a := 4) (ltn rfl) rfl rfl) (cli (k := 3) (a := 4) (ltn rfl) rfl) rfl ?_
  refine gk_aload_n (pc' := 54) cx dX1_init_53 rfl rfl ?_
  refine gk_getr (pc' := 57) cx 38 fX1_11 dX1_init_54 kq37 (ltn rfl) (ltn rfl) rfl rfl rfl ?_
  refine gk_iconst (pc' := 58) cx 1 dX1_init_57 rfl rfl ?_
  refine gk_aaldk (pc' := 59) cx 1 40 dX1_init_58 kq38 (Nat.le_of_ble_eq_true rfl) (ltn rfl) (ltn rfl) (vpi (k := 1) (a := 2) (ltn rfl) rfl rfl) (cli (k := 1) (a := 2) (ltn rfl) rfl) ((up2r_o (by decide)).trans ((up2r_o (by decide)).trans ((mnr_r 11 38 1).trans (if_pos ⟨rfl, by decide⟩)))) rfl ?_
  refine gk_iload_n (pc' := 60) cx dX1_init_59 rfl rfl ?_
  refine gk_bipush (pc' := 62) cx 40 dX1_init_60 rfl rfl ?_
  refine gk_iastk (pc' := 63) cx 3 dX1_init_62 kq40 (ltn rfl) (vpi (k := 3) (a := 4) (ltn rfl) rfl rfl) (cli (k := 3) (a := 4) (ltn rfl) rfl) rfl ?_
  refine gk_aload_n (pc' := 64) cx dX1_init_63 rfl rfl ?_
  refine gk_getr (pc' := 67) cx 38 fX1_11 dX1_init_64 kq37 (ltn rfl) (ltn rfl) rfl rfl rfl ?_
  refine gk_iconst (pc' := 68) cx 2 dX1_init_67 rfl rfl ?_
  refine gk_aaldk (pc' := 69) cx 2 41 dX1_init_68 kq38 (Nat.le_of_ble_eq_true rfl) (ltn rfl) (ltn rfl) (vpi (k := 2) (a := 3) (ltn rfl) rfl rfl) (cli (k := 2) (a := 3) (ltn rfl) rfl) ((up2r_o (by decide)).trans ((up2r_o (by decide)).trans ((mnr_r 11 38 2).trans (if_pos ⟨rfl, by decide⟩)))) rfl ?_
  refine gk_iload_n (pc' := 70) cx dX1_init_69 rfl rfl ?_
  refine gk_bipush (pc' := 72) cx 40 dX1_init_70 rfl rfl ?_
  refine gk_iastk (pc' := 73) cx 3 dX1_init_72 kq41 (ltn rfl) (vpi (k := 3) (a := 4) (ltn rfl) rfl rfl) (cli (k := 3) (a := 4) (ltn rfl) rfl) rfl ?_
  refine gk_iinc (pc' := 76) cx 4 dX1_init_73 rfl rfl (ltn rfl) [(2, .int 4), (0, .ref (E.2.1 37)), (1, .ref (E.2.1 1))] rfl rfl ?_
  refine gk_goto cx 38 dX1_init_76 rfl ?_
  refine gk_iload_n (pc' := 39) cx dX1_init_38 rfl rfl ?_
  refine gk_iconst (pc' := 40) cx 4 dX1_init_39 rfl rfl ?_
  refine gk_icmp_ge (pc' := 43) cx 79 dX1_init_40 rfl rfl (fun _ => ?_) (fun hh => absurd hh (by decide))
  refine gk_aload_n (pc' := 80) cx dX1_init_79 rfl rfl ?_
  refine gk_getr (pc' := 83) cx 38 fX1_11 dX1_init_80 kq37 (ltn rfl) (ltn rfl) rfl rfl rfl ?_
  refine gk_iconst (pc' := 84) cx 3 dX1_init_83 rfl rfl ?_
  refine gk_aaldk (pc' := 85) cx 3 42 dX1_init_84 kq38 (Nat.le_of_ble_eq_true rfl) (ltn rfl) (ltn rfl) (vpi (k := 3) (a := 4) (ltn rfl) rfl rfl) (cli (k := 3) (a := 4) (ltn rfl) rfl) ((up2r_o (by decide)).trans ((up2r_o (by decide)).trans ((mnr_r 11 38 3).trans (if_pos ⟨rfl, by decide⟩)))) rfl ?_
  refine gk_iconst (pc' := 86) cx 0 dX1_init_85 rfl rfl ?_
  refine gk_iconst (pc' := 87) cx (-1) dX1_init_86 rfl rfl ?_
  refine gk_iastk (pc' := 88) cx 0 dX1_init_87 kq42 (ltn rfl) (vpi (k := 0) (a := 1) (ltn rfl) rfl rfl) (cli (k := 0) (a := 1) (ltn rfl) rfl) rfl ?_
  refine gk_vret cx rfl dX1_init_88 rfl ?_
  refine ⟨rfl, rfl, ?_, rfl, rfl, rfl, rfl, ?_, rfl⟩
  · intro p hp
    rcases (show p = 0 ∨ p = 1 ∨ p = 2 ∨ p = 3 by omega) with rfl | rfl | rfl | rfl <;> exact ⟨rfl, rfl, rfl⟩
  · intro i j q
    rw [up2_n _ _ (by omega), up2_n _ _ (by omega), up2_n _ _ (by omega), up2_n _ _ (by omega), up2_n _ _ (by omega), up2_n _ _ (by omega), up2_n _ _ (by omega), up2_n _ _ (by omega), up2_n _ _ (by omega), up2_n _ _ (by omega), up2_n _ _ (by omega), up2_n _ _ (by omega), up2_n _ _ (by omega), up2_n _ _ (by omega), up2_n _ _ (by omega), up2_n _ _ (by omega)]

set_option maxHeartbeats 4000000 in
set_option maxRecDepth 40000 in
theorem n_X1_50 (l : Launch) (E : Ev) (hE : Sq E) {g : IG} {r : RG} (hg : ∀ i, 51 ≤ i → ∀ j, g i j = 0) (hr : ∀ i, 51 ≤ i → ∀ j, r i j = none) : CtN l E 51 12 99 yX1_init cX1_init 3 1 [.ref (E.2.1 50), .ref (E.2.1 1)] g r 0 (fun v g1 r1 z1 => v = none ∧ z1 = 0 ∧ ((∀ p, p < 4 → g1 52 p = 40 ∧ g1 53 p = 40 ∧ g1 54 p = 40) ∧ g1 55 0 = -1 ∧ g1 50 2 = 0 ∧ g1 50 3 = 0 ∧ g1 50 4 = 0 ∧ (∀ i j, ¬ (((52 ≤ i ∧ i ≤ 54) ∧ j < 4) ∨ (i = 55 ∧ j = 0) ∨ (i = 50 ∧ 2 ≤ j ∧ j ≤ 4)) → g1 i j = g i j) ∧ r1 = up2r (up2r (mnr r 51 11) 50 1 (some 51)) 50 0 (some 1))) := by
  refine CtN.of (lv0 := [(0, .ref (E.2.1 50)), (1, .ref (E.2.1 1))]) (by decide) rfl (Nat.le_of_ble_eq_true rfl) rfl ?_
  intro p e s m below meth c cx hin hsz hKx
  refine gk_aload_n (pc' := 1) cx dX1_init_0 rfl rfl ?_
  refine gk_obj (pc' := 4) cx loX1_3 obw dX1_init_1 (Nat.le_of_ble_eq_true rfl) (Nat.le_of_ble_eq_true rfl) (Nat.le_of_ble_eq_true rfl) rfl ?_
  refine gk_aload_n (pc' := 5) cx dX1_init_4 rfl rfl ?_
  refine gk_bipush (pc' := 7) cx 11 dX1_init_5 rfl rfl ?_
  refine gk_bipush (pc' := 9) cx 8 dX1_init_7 rfl rfl ?_
  refine gk_mnew (pc' := 13) (N := 11) (M := 8) cx hE hKx (by omega) (fun h9 => absurd h9 (by decide)) (ltn rfl) kq51 (by decide +kernel) ckX1_9 dX1_init_9 (by decide) (by decide) (by decide) (by decide) ⟨(Nat.le_of_ble_eq_true rfl), (Nat.le_of_ble_eq_true rfl)⟩ (Nat.le_of_ble_eq_true rfl) (Nat.le_of_ble_eq_true rfl) (fun i9 h9 j9 => hg _ (by omega) j9) (hr _ (by omega)) rfl rfl rfl rfl ?_
  refine gk_putF (pc' := 16) (ty := .array (.array .int)) cx hin fX1_11 dX1_init_13 kq50 (ltn rfl) (ltn rfl) rfl rfl rfl (by decide +kernel) ⟨rfl, rfl⟩ rfl ?_
  refine gk_aload_n (pc' := 17) cx dX1_init_16 rfl rfl ?_
  refine gk_iconst (pc' := 18) cx 0 dX1_init_17 rfl rfl ?_
  refine gk_puti (pc' := 21) cx fX1_16 dX1_init_18 kq50 (ltn rfl) (ltn rfl) rfl rfl rfl rfl ?_
  refine gk_aload_n (pc' := 22) cx dX1_init_21 rfl rfl ?_
  refine gk_iconst (pc' := 23) cx 0 dX1_init_22 rfl rfl ?_
  refine gk_puti (pc' := 26) cx fX1_20 dX1_init_23 kq50 (ltn rfl) (ltn rfl) rfl rfl rfl rfl ?_
  refine gk_aload_n (pc' := 27) cx dX1_init_26 rfl rfl ?_
  refine gk_iconst (pc' := 28) cx 0 dX1_init_27 rfl rfl ?_
  refine gk_puti (pc' := 31) cx fX1_23 dX1_init_28 kq50 (ltn rfl) (ltn rfl) rfl rfl rfl rfl ?_
  refine gk_aload_n (pc' := 32) cx dX1_init_31 rfl rfl ?_
  refine gk_aload_n (pc' := 33) cx dX1_init_32 rfl rfl ?_
  refine gk_putF (pc' := 36) (ty := .array (.object "AsLastTime$Text")) cx hin fX1_26 dX1_init_33 kq50 (ltn rfl) (ltn rfl) rfl rfl rfl (by decide +kernel) ⟨rfl, rfl⟩ rfl ?_
  refine gk_iconst (pc' := 37) cx 0 dX1_init_36 rfl rfl ?_
  refine gk_istore_n (pc' := 38) cx dX1_init_37 (ltn rfl) [(2, .int 0), (0, .ref (E.2.1 50)), (1, .ref (E.2.1 1))] rfl rfl ?_
  refine gk_iload_n (pc' := 39) cx dX1_init_38 rfl rfl ?_
  refine gk_iconst (pc' := 40) cx 4 dX1_init_39 rfl rfl ?_
  refine gk_icmp_ge (pc' := 43) cx 79 dX1_init_40 rfl rfl (fun hh => absurd hh (by decide)) (fun _ => ?_)
  refine gk_aload_n (pc' := 44) cx dX1_init_43 rfl rfl ?_
  refine gk_getr (pc' := 47) cx 51 fX1_11 dX1_init_44 kq50 (ltn rfl) (ltn rfl) rfl rfl rfl ?_
  refine gk_iconst (pc' := 48) cx 0 dX1_init_47 rfl rfl ?_
  refine gk_aaldk (pc' := 49) cx 0 52 dX1_init_48 kq51 (Nat.le_of_ble_eq_true rfl) (ltn rfl) (ltn rfl) (vpi (k := 0) (a := 1) (ltn rfl) rfl rfl) (cli (k := 0) (a := 1) (ltn rfl) rfl) ((up2r_o (by decide)).trans ((up2r_o (by decide)).trans ((mnr_r 11 51 0).trans (if_pos ⟨rfl, by decide⟩)))) rfl ?_
  refine gk_iload_n (pc' := 50) cx dX1_init_49 rfl rfl ?_
  refine gk_bipush (pc' := 52) cx 40 dX1_init_50 rfl rfl ?_
  refine gk_iastk (pc' := 53) cx 0 dX1_init_52 kq52 (ltn rfl) (vpi (k := 0) (a := 1) (ltn rfl) rfl rfl) (cli (k := 0) (a := 1) (ltn rfl) rfl) rfl ?_
  refine gk_aload_n (pc' := 54) cx dX1_init_53 rfl rfl ?_
  refine gk_getr (pc' := 57) cx 51 fX1_11 dX1_init_54 kq50 (ltn rfl) (ltn rfl) rfl rfl rfl ?_
  refine gk_iconst (pc' := 58) cx 1 dX1_init_57 rfl rfl ?_
  refine gk_aaldk (pc' := 59) cx 1 53 dX1_init_58 kq51 (Nat.le_of_ble_eq_true rfl) (ltn rfl) (ltn rfl) (vpi (k := 1) (a := 2) (ltn rfl) rfl rfl) (cli (k := 1) (a := 2) (ltn rfl) rfl) ((up2r_o (by decide)).trans ((up2r_o (by decide)).trans ((mnr_r 11 51 1).trans (if_pos ⟨rfl, by decide⟩)))) rfl ?_
  refine gk_iload_n (pc' := 60) cx dX1_init_59 rfl rfl ?_
  refine gk_bipush (pc' := 62) cx 40 dX1_init_60 rfl rfl ?_
  refine gk_iastk (pc' := 63) cx 0 dX1_init_62 kq53 (ltn rfl) (vpi (k := 0) (a := 1) (ltn rfl) rfl rfl) (cli (k := 0) (a := 1) (ltn rfl) rfl) rfl ?_
  refine gk_aload_n (pc' := 64) cx dX1_init_63 rfl rfl ?_
  refine gk_getr (pc' := 67) cx 51 fX1_11 dX1_init_64 kq50 (ltn rfl) (ltn rfl) rfl rfl rfl ?_
  refine gk_iconst (pc' := 68) cx 2 dX1_init_67 rfl rfl ?_
  refine gk_aaldk (pc' := 69) cx 2 54 dX1_init_68 kq51 (Nat.le_of_ble_eq_true rfl) (ltn rfl) (ltn rfl) (vpi (k := 2) (a := 3) (ltn rfl) rfl rfl) (cli (k := 2) (a := 3) (ltn rfl) rfl) ((up2r_o (by decide)).trans ((up2r_o (by decide)).trans ((mnr_r 11 51 2).trans (if_pos ⟨rfl, by decide⟩)))) rfl ?_
  refine gk_iload_n (pc' := 70) cx dX1_init_69 rfl rfl ?_
  refine gk_bipush (pc' := 72) cx 40 dX1_init_70 rfl rfl ?_
  refine gk_iastk (pc' := 73) cx 0 dX1_init_72 kq54 (ltn rfl) (vpi (k := 0) (a := 1) (ltn rfl) rfl rfl) (cli (k := 0) (a := 1) (ltn rfl) rfl) rfl ?_
  refine gk_iinc (pc' := 76) cx 1 dX1_init_73 rfl rfl (ltn rfl) [(2, .int 1), (0, .ref (E.2.1 50)), (1, .ref (E.2.1 1))] rfl rfl ?_
  refine gk_goto cx 38 dX1_init_76 rfl ?_
  refine gk_iload_n (pc' := 39) cx dX1_init_38 rfl rfl ?_
  refine gk_iconst (pc' := 40) cx 4 dX1_init_39 rfl rfl ?_
  refine gk_icmp_ge (pc' := 43) cx 79 dX1_init_40 rfl rfl (fun hh => absurd hh (by decide)) (fun _ => ?_)
  refine gk_aload_n (pc' := 44) cx dX1_init_43 rfl rfl ?_
  refine gk_getr (pc' := 47) cx 51 fX1_11 dX1_init_44 kq50 (ltn rfl) (ltn rfl) rfl rfl rfl ?_
  refine gk_iconst (pc' := 48) cx 0 dX1_init_47 rfl rfl ?_
  refine gk_aaldk (pc' := 49) cx 0 52 dX1_init_48 kq51 (Nat.le_of_ble_eq_true rfl) (ltn rfl) (ltn rfl) (vpi (k := 0) (a := 1) (ltn rfl) rfl rfl) (cli (k := 0) (a := 1) (ltn rfl) rfl) ((up2r_o (by decide)).trans ((up2r_o (by decide)).trans ((mnr_r 11 51 0).trans (if_pos ⟨rfl, by decide⟩)))) rfl ?_
  refine gk_iload_n (pc' := 50) cx dX1_init_49 rfl rfl ?_
  refine gk_bipush (pc' := 52) cx 40 dX1_init_50 rfl rfl ?_
  refine gk_iastk (pc' := 53) cx 1 dX1_init_52 kq52 (ltn rfl) (vpi (k := 1) (a := 2) (ltn rfl) rfl rfl) (cli (k := 1) (a := 2) (ltn rfl) rfl) rfl ?_
  refine gk_aload_n (pc' := 54) cx dX1_init_53 rfl rfl ?_
  refine gk_getr (pc' := 57) cx 51 fX1_11 dX1_init_54 kq50 (ltn rfl) (ltn rfl) rfl rfl rfl ?_
  refine gk_iconst (pc' := 58) cx 1 dX1_init_57 rfl rfl ?_
  refine gk_aaldk (pc' := 59) cx 1 53 dX1_init_58 kq51 (Nat.le_of_ble_eq_true rfl) (ltn rfl) (ltn rfl) (vpi (k := 1) (a := 2) (ltn rfl) rfl rfl) (cli (k := 1) (a := 2) (ltn rfl) rfl) ((up2r_o (by decide)).trans ((up2r_o (by decide)).trans ((mnr_r 11 51 1).trans (if_pos ⟨rfl, by decide⟩)))) rfl ?_
  refine gk_iload_n (pc' := 60) cx dX1_init_59 rfl rfl ?_
  refine gk_bipush (pc' := 62) cx 40 dX1_init_60 rfl rfl ?_
  refine gk_iastk (pc' := 63) cx 1 dX1_init_62 kq53 (ltn rfl) (vpi (k := 1) (a := 2) (ltn rfl) rfl rfl) (cli (k := 1) (a := 2) (ltn rfl) rfl) rfl ?_
  refine gk_aload_n (pc' := 64) cx dX1_init_63 rfl rfl ?_
  refine gk_getr (pc' := 67) cx 51 fX1_11 dX1_init_64 kq50 (ltn rfl) (ltn rfl) rfl rfl rfl ?_
  refine gk_iconst (pc' := 68) cx 2 dX1_init_67 rfl rfl ?_
  refine gk_aaldk (pc' := 69) cx 2 54 dX1_init_68 kq51 (Nat.le_of_ble_eq_true rfl) (ltn rfl) (ltn rfl) (vpi (k := 2) (a := 3) (ltn rfl) rfl rfl) (cli (k := 2) (a := 3) (ltn rfl) rfl) ((up2r_o (by decide)).trans ((up2r_o (by decide)).trans ((mnr_r 11 51 2).trans (if_pos ⟨rfl, by decide⟩)))) rfl ?_
  refine gk_iload_n (pc' := 70) cx dX1_init_69 rfl rfl ?_
  refine gk_bipush (pc' := 72) cx 40 dX1_init_70 rfl rfl ?_
  refine gk_iastk (pc' := 73) cx 1 dX1_init_72 kq54 (ltn rfl) (vpi (k := 1) (a := 2) (ltn rfl) rfl rfl) (cli (k := 1) (a := 2) (ltn rfl) rfl) rfl ?_
  refine gk_iinc (pc' := 76) cx 2 dX1_init_73 rfl rfl (ltn rfl) [(2, .int 2), (0, .ref (E.2.1 50)), (1, .ref (E.2.1 1))] rfl rfl ?_
  refine gk_goto cx 38 dX1_init_76 rfl ?_
  refine gk_iload_n (pc' := 39) cx dX1_init_38 rfl rfl ?_
  refine gk_iconst (pc' := 40) cx 4 dX1_init_39 rfl rfl ?_
  refine gk_icmp_ge (pc' := 43) cx 79 dX1_init_40 rfl rfl (fun hh => absurd hh (by decide)) (fun _ => ?_)
  refine gk_aload_n (pc' := 44) cx dX1_init_43 rfl rfl ?_
  refine gk_getr (pc' := 47) cx 51 fX1_11 dX1_init_44 kq50 (ltn rfl) (ltn rfl) rfl rfl rfl ?_
  refine gk_iconst (pc' := 48) cx 0 dX1_init_47 rfl rfl ?_
  refine gk_aaldk (pc' := 49) cx 0 52 dX1_init_48 kq51 (Nat.le_of_ble_eq_true rfl) (ltn rfl) (ltn rfl) (vpi (k := 0) (a := 1) (ltn rfl) rfl rfl) (cli (k := 0) (a := 1) (ltn rfl) rfl) ((up2r_o (by decide)).trans ((up2r_o (by decide)).trans ((mnr_r 11 51 0).trans (if_pos ⟨rfl, by decide⟩)))) rfl ?_
  refine gk_iload_n (pc' := 50) cx dX1_init_49 rfl rfl ?_
  refine gk_bipush (pc' := 52) cx 40 dX1_init_50 rfl rfl ?_
  refine gk_iastk (pc' := 53) cx 2 dX1_init_52 kq52 (ltn rfl) (vpi (k := 2) (a := 3) (ltn rfl) rfl rfl) (cli (k := 2) (a := 3) (ltn rfl) rfl) rfl ?_
  refine gk_aload_n (pc' := 54) cx dX1_init_53 rfl rfl ?_
  refine gk_getr (pc' := 57) cx 51 fX1_11 dX1_init_54 kq50 (ltn rfl) (ltn rfl) rfl rfl rfl ?_
  refine gk_iconst (pc' := 58) cx 1 dX1_init_57 rfl rfl ?_
  refine gk_aaldk (pc' := 59) cx 1 53 dX1_init_58 kq51 (Nat.le_of_ble_eq_true rfl) (ltn rfl) (ltn rfl) (vpi (k := 1) (a := 2) (ltn rfl) rfl rfl) (cli (k := 1) (a := 2) (ltn rfl) rfl) ((up2r_o (by decide)).trans ((up2r_o (by decide)).trans ((mnr_r 11 51 1).trans (if_pos ⟨rfl, by decide⟩)))) rfl ?_
  refine gk_iload_n (pc' := 60) cx dX1_init_59 rfl rfl ?_
  refine gk_bipush (pc' := 62) cx 40 dX1_init_60 rfl rfl ?_
  refine gk_iastk (pc' := 63) cx 2 dX1_init_62 kq53 (ltn rfl) (vpi (k := 2) (a := 3) (ltn rfl) rfl rfl) (cli (k := 2) (a := 3) (ltn rfl) rfl) rfl ?_
  refine gk_aload_n (pc' := 64) cx dX1_init_63 rfl rfl ?_
  refine gk_getr (pc' := 67) cx 51 fX1_11 dX1_init_64 kq50 (ltn rfl) (ltn rfl) rfl rfl rfl ?_
  refine gk_iconst (pc' := 68) cx 2 dX1_init_67 rfl rfl ?_
  refine gk_aaldk (pc' := 69) cx 2 54 dX1_init_68 kq51 (Nat.le_of_ble_eq_true rfl) (ltn rfl) (ltn rfl) (vpi (k := 2) (a := 3) (ltn rfl) rfl rfl) (cli (k := 2) (a := 3) (ltn rfl) rfl) ((up2r_o (by decide)).trans ((up2r_o (by decide)).trans ((mnr_r 11 51 2).trans (if_pos ⟨rfl, by decide⟩)))) rfl ?_
  refine gk_iload_n (pc' := 70) cx dX1_init_69 rfl rfl ?_
  refine gk_bipush (pc' := 72) cx 40 dX1_init_70 rfl rfl ?_
  refine gk_iastk (pc' := 73) cx 2 dX1_init_72 kq54 (ltn rfl) (vpi (k := 2) (a := 3) (ltn rfl) rfl rfl) (cli (k := 2) (a := 3) (ltn rfl) rfl) rfl ?_
  refine gk_iinc (pc' := 76) cx 3 dX1_init_73 rfl rfl (ltn rfl) [(2, .int 3), (0, .ref (E.2.1 50)), (1, .ref (E.2.1 1))] rfl rfl ?_
  refine gk_goto cx 38 dX1_init_76 rfl ?_
  refine gk_iload_n (pc' := 39) cx dX1_init_38 rfl rfl ?_
  refine gk_iconst (pc' := 40) cx 4 dX1_init_39 rfl rfl ?_
  refine gk_icmp_ge (pc' := 43) cx 79 dX1_init_40 rfl rfl (fun hh => absurd hh (by decide)) (fun _ => ?_)
  refine gk_aload_n (pc' := 44) cx dX1_init_43 rfl rfl ?_
  refine gk_getr (pc' := 47) cx 51 fX1_11 dX1_init_44 kq50 (ltn rfl) (ltn rfl) rfl rfl rfl ?_
  refine gk_iconst (pc' := 48) cx 0 dX1_init_47 rfl rfl ?_
  refine gk_aaldk (pc' := 49) cx 0 52 dX1_init_48 kq51 (Nat.le_of_ble_eq_true rfl) (ltn rfl) (ltn rfl) (vpi (k := 0) (a := 1) (ltn rfl) rfl rfl) (cli (k := 0) (a := 1) (ltn rfl) rfl) ((up2r_o (by decide)).trans ((up2r_o (by decide)).trans ((mnr_r 11 51 0).trans (if_pos ⟨rfl, by decide⟩)))) rfl ?_
  refine gk_iload_n (pc' := 50) cx dX1_init_49 rfl rfl ?_
  refine gk_bipush (pc' := 52) cx 40 dX1_init_50 rfl rfl ?_
  refine gk_iastk (pc' := 53) cx 3 dX1_init_52 kq52 (ltn rfl) (vpi (k := 3) (a := 4) (ltn rfl) rfl rfl) (cli (k := 3) (a := 4) (ltn rfl) rfl) rfl ?_
  refine gk_aload_n (pc' := 54) cx dX1_init_53 rfl rfl ?_
  refine gk_getr (pc' := 57) cx 51 fX1_11 dX1_init_54 kq50 (ltn rfl) (ltn rfl) rfl rfl rfl ?_
  refine gk_iconst (pc' := 58) cx 1 dX1_init_57 rfl rfl ?_
  refine gk_aaldk (pc' := 59) cx 1 53 dX1_init_58 kq51 (Nat.le_of_ble_eq_true rfl) (ltn rfl) (ltn rfl) (vpi (k := 1) (a := 2) (ltn rfl) rfl rfl) (cli (k := 1) (a := 2) (ltn rfl) rfl) ((up2r_o (by decide)).trans ((up2r_o (by decide)).trans ((mnr_r 11 51 1).trans (if_pos ⟨rfl, by decide⟩)))) rfl ?_
  refine gk_iload_n (pc' := 60) cx dX1_init_59 rfl rfl ?_
  refine gk_bipush (pc' := 62) cx 40 dX1_init_60 rfl rfl ?_
  refine gk_iastk (pc' := 63) cx 3 dX1_init_62 kq53 (ltn rfl) (vpi (k := 3) (a := 4) (ltn rfl) rfl rfl) (cli (k := 3) (a := 4) (ltn rfl) rfl) rfl ?_
  refine gk_aload_n (pc' := 64) cx dX1_init_63 rfl rfl ?_
  refine gk_getr (pc' := 67) cx 51 fX1_11 dX1_init_64 kq50 (ltn rfl) (ltn rfl) rfl rfl rfl ?_
  refine gk_iconst (pc' := 68) cx 2 dX1_init_67 rfl rfl ?_
  refine gk_aaldk (pc' := 69) cx 2 54 dX1_init_68 kq51 (Nat.le_of_ble_eq_true rfl) (ltn rfl) (ltn rfl) (vpi (k := 2) (a := 3) (ltn rfl) rfl rfl) (cli (k := 2) (a := 3) (ltn rfl) rfl) ((up2r_o (by decide)).trans ((up2r_o (by decide)).trans ((mnr_r 11 51 2).trans (if_pos ⟨rfl, by decide⟩)))) rfl ?_
  refine gk_iload_n (pc' := 70) cx dX1_init_69 rfl rfl ?_
  refine gk_bipush (pc' := 72) cx 40 dX1_init_70 rfl rfl ?_
  refine gk_iastk (pc' := 73) cx 3 dX1_init_72 kq54 (ltn rfl) (vpi (k := 3) (a := 4) (ltn rfl) rfl rfl) (cli (k := 3) (a := 4) (ltn rfl) rfl) rfl ?_
  refine gk_iinc (pc' := 76) cx 4 dX1_init_73 rfl rfl (ltn rfl) [(2, .int 4), (0, .ref (E.2.1 50)), (1, .ref (E.2.1 1))] rfl rfl ?_
  refine gk_goto cx 38 dX1_init_76 rfl ?_
  refine gk_iload_n (pc' := 39) cx dX1_init_38 rfl rfl ?_
  refine gk_iconst (pc' := 40) cx 4 dX1_init_39 rfl rfl ?_
  refine gk_icmp_ge (pc' := 43) cx 79 dX1_init_40 rfl rfl (fun _ => ?_) (fun hh => absurd hh (by decide))
  refine gk_aload_n (pc' := 80) cx dX1_init_79 rfl rfl ?_
  refine gk_getr (pc' := 83) cx 51 fX1_11 dX1_init_80 kq50 (ltn rfl) (ltn rfl) rfl rfl rfl ?_
  refine gk_iconst (pc' := 84) cx 3 dX1_init_83 rfl rfl ?_
  refine gk_aaldk (pc' := 85) cx 3 55 dX1_init_84 kq51 (Nat.le_of_ble_eq_true rfl) (ltn rfl) (ltn rfl) (vpi (k := 3) (a := 4) (ltn rfl) rfl rfl) (cli (k := 3) (a := 4) (ltn rfl) rfl) ((up2r_o (by decide)).trans ((up2r_o (by decide)).trans ((mnr_r 11 51 3).trans (if_pos ⟨rfl, by decide⟩)))) rfl ?_
  refine gk_iconst (pc' := 86) cx 0 dX1_init_85 rfl rfl ?_
  refine gk_iconst (pc' := 87) cx (-1) dX1_init_86 rfl rfl ?_
  refine gk_iastk (pc' := 88) cx 0 dX1_init_87 kq55 (ltn rfl) (vpi (k := 0) (a := 1) (ltn rfl) rfl rfl) (cli (k := 0) (a := 1) (ltn rfl) rfl) rfl ?_
  refine gk_vret cx rfl dX1_init_88 rfl ?_
  refine ⟨rfl, rfl, ?_, rfl, rfl, rfl, rfl, ?_, rfl⟩
  · intro p hp
    rcases (show p = 0 ∨ p = 1 ∨ p = 2 ∨ p = 3 by omega) with rfl | rfl | rfl | rfl <;> exact ⟨rfl, rfl, rfl⟩
  · intro i j q
    rw [up2_n _ _ (by omega), up2_n _ _ (by omega), up2_n _ _ (by omega), up2_n _ _ (by omega), up2_n _ _ (by omega), up2_n _ _ (by omega), up2_n _ _ (by omega), up2_n _ _ (by omega), up2_n _ _ (by omega), up2_n _ _ (by omega), up2_n _ _ (by omega), up2_n _ _ (by omega), up2_n _ _ (by omega), up2_n _ _ (by omega), up2_n _ _ (by omega), up2_n _ _ (by omega)]

set_option maxHeartbeats 4000000 in
set_option maxRecDepth 40000 in
theorem n_X1_64 (l : Launch) (E : Ev) (hE : Sq E) {g : IG} {r : RG} (hg : ∀ i, 65 ≤ i → ∀ j, g i j = 0) (hr : ∀ i, 65 ≤ i → ∀ j, r i j = none) : CtN l E 65 12 99 yX1_init cX1_init 3 1 [.ref (E.2.1 64), .ref (E.2.1 1)] g r 0 (fun v g1 r1 z1 => v = none ∧ z1 = 0 ∧ ((∀ p, p < 4 → g1 66 p = 40 ∧ g1 67 p = 40 ∧ g1 68 p = 40) ∧ g1 69 0 = -1 ∧ g1 64 2 = 0 ∧ g1 64 3 = 0 ∧ g1 64 4 = 0 ∧ (∀ i j, ¬ (((66 ≤ i ∧ i ≤ 68) ∧ j < 4) ∨ (i = 69 ∧ j = 0) ∨ (i = 64 ∧ 2 ≤ j ∧ j ≤ 4)) → g1 i j = g i j) ∧ r1 = up2r (up2r (mnr r 65 11) 64 1 (some 65)) 64 0 (some 1))) := by
  refine CtN.of (lv0 := [(0, .ref (E.2.1 64)), (1, .ref (E.2.1 1))]) (by decide) rfl (Nat.le_of_ble_eq_true rfl) rfl ?_
  intro p e s m below meth c cx hin hsz hKx
  refine gk_aload_n (pc' := 1) cx dX1_init_0 rfl rfl ?_
  refine gk_obj (pc' := 4) cx loX1_3 obw dX1_init_1 (Nat.le_of_ble_eq_true rfl) (Nat.le_of_ble_eq_true rfl) (Nat.le_of_ble_eq_true rfl) rfl ?_
  refine gk_aload_n (pc' := 5) cx dX1_init_4 rfl rfl ?_
  refine gk_bipush (pc' := 7) cx 11 dX1_init_5 rfl rfl ?_
  refine gk_bipush (pc' := 9) cx 8 dX1_init_7 rfl rfl ?_
  refine gk_mnew (pc' := 13) (N := 11) (M := 8) cx hE hKx (by omega) (fun h9 => absurd h9 (by decide)) (ltn rfl) kq65 (by decide +kernel) ckX1_9 dX1_init_9 (by decide) (by decide) (by decide) (by decide) ⟨(Nat.le_of_ble_eq_true rfl), (Nat.le_of_ble_eq_true rfl)⟩ (Nat.le_of_ble_eq_true rfl) (Nat.le_of_ble_eq_true rfl) (fun i9 h9 j9 => hg _ (by omega) j9) (hr _ (by omega)) rfl rfl rfl rfl ?_
  refine gk_putF (pc' := 16) (ty := .array (.array .int)) cx hin fX1_11 dX1_init_13 kq64 (ltn rfl) (ltn rfl) rfl rfl rfl (by decide +kernel) ⟨rfl, rfl⟩ rfl ?_
  refine gk_aload_n (pc' := 17) cx dX1_init_16 rfl rfl ?_
  refine gk_iconst (pc' := 18) cx 0 dX1_init_17 rfl rfl ?_
  refine gk_puti (pc' := 21) cx fX1_16 dX1_init_18 kq64 (ltn rfl) (ltn rfl) rfl rfl rfl rfl ?_
  refine gk_aload_n (pc' := 22) cx dX1_init_21 rfl rfl ?_
  refine gk_iconst (pc' := 23) cx 0 dX1_init_22 rfl rfl ?_
  refine gk_puti (pc' := 26) cx fX1_20 dX1_init_23 kq64 (ltn rfl) (ltn rfl) rfl rfl rfl rfl ?_
  refine gk_aload_n (pc' := 27) cx dX1_init_26 rfl rfl ?_
  refine gk_iconst (pc' := 28) cx 0 dX1_init_27 rfl rfl ?_
  refine gk_puti (pc' := 31) cx fX1_23 dX1_init_28 kq64 (ltn rfl) (ltn rfl) rfl rfl rfl rfl ?_
  refine gk_aload_n (pc' := 32) cx dX1_init_31 rfl rfl ?_
  refine gk_aload_n (pc' := 33) cx dX1_init_32 rfl rfl ?_
  refine gk_putF (pc' := 36) (ty := .array (.object "AsLastTime$Text")) cx hin fX1_26 dX1_init_33 kq64 (ltn rfl) (ltn rfl) rfl rfl rfl (by decide +kernel) ⟨rfl, rfl⟩ rfl ?_
  refine gk_iconst (pc' := 37) cx 0 dX1_init_36 rfl rfl ?_
  refine gk_istore_n (pc' := 38) cx dX1_init_37 (ltn rfl) [(2, .int 0), (0, .ref (E.2.1 64)), (1, .ref (E.2.1 1))] rfl rfl ?_
  refine gk_iload_n (pc' := 39) cx dX1_init_38 rfl rfl ?_
  refine gk_iconst (pc' := 40) cx 4 dX1_init_39 rfl rfl ?_
  refine gk_icmp_ge (pc' := 43) cx 79 dX1_init_40 rfl rfl (fun hh => absurd hh (by decide)) (fun _ => ?_)
  refine gk_aload_n (pc' := 44) cx dX1_init_43 rfl rfl ?_
  refine gk_getr (pc' := 47) cx 65 fX1_11 dX1_init_44 kq64 (ltn rfl) (ltn rfl) rfl rfl rfl ?_
  refine gk_iconst (pc' := 48) cx 0 dX1_init_47 rfl rfl ?_
  refine gk_aaldk (pc' := 49) cx 0 66 dX1_init_48 kq65 (Nat.le_of_ble_eq_true rfl) (ltn rfl) (ltn rfl) (vpi (k := 0) (a := 1) (ltn rfl) rfl rfl) (cli (k := 0) (a := 1) (ltn rfl) rfl) ((up2r_o (by decide)).trans ((up2r_o (by decide)).trans ((mnr_r 11 65 0).trans (if_pos ⟨rfl, by decide⟩)))) rfl ?_
  refine gk_iload_n (pc' := 50) cx dX1_init_49 rfl rfl ?_
  refine gk_bipush (pc' := 52) cx 40 dX1_init_50 rfl rfl ?_
  refine gk_iastk (pc' := 53) cx 0 dX1_init_52 kq66 (ltn rfl) (vpi (k := 0) (a := 1) (ltn rfl) rfl rfl) (cli (k := 0) (a := 1) (ltn rfl) rfl) rfl ?_
  refine gk_aload_n (pc' := 54) cx dX1_init_53 rfl rfl ?_
  refine gk_getr (pc' := 57) cx 65 fX1_11 dX1_init_54 kq64 (ltn rfl) (ltn rfl) rfl rfl rfl ?_
  refine gk_iconst (pc' := 58) cx 1 dX1_init_57 rfl rfl ?_
  refine gk_aaldk (pc' := 59) cx 1 67 dX1_init_58 kq65 (Nat.le_of_ble_eq_true rfl) (ltn rfl) (ltn rfl) (vpi (k := 1) (a := 2) (ltn rfl) rfl rfl) (cli (k := 1) (a := 2) (ltn rfl) rfl) ((up2r_o (by decide)).trans ((up2r_o (by decide)).trans ((mnr_r 11 65 1).trans (if_pos ⟨rfl, by decide⟩)))) rfl ?_
  refine gk_iload_n (pc' := 60) cx dX1_init_59 rfl rfl ?_
  refine gk_bipush (pc' := 62) cx 40 dX1_init_60 rfl rfl ?_
  refine gk_iastk (pc' := 63) cx 0 dX1_init_62 kq67 (ltn rfl) (vpi (k := 0) (a := 1) (ltn rfl) rfl rfl) (cli (k := 0) (a := 1) (ltn rfl) rfl) rfl ?_
  refine gk_aload_n (pc' := 64) cx dX1_init_63 rfl rfl ?_
  refine gk_getr (pc' := 67) cx 65 fX1_11 dX1_init_64 kq64 (ltn rfl) (ltn rfl) rfl rfl rfl ?_
  refine gk_iconst (pc' := 68) cx 2 dX1_init_67 rfl rfl ?_
  refine gk_aaldk (pc' := 69) cx 2 68 dX1_init_68 kq65 (Nat.le_of_ble_eq_true rfl) (ltn rfl) (ltn rfl) (vpi (k := 2) (a := 3) (ltn rfl) rfl rfl) (cli (k := 2) (a := 3) (ltn rfl) rfl) ((up2r_o (by decide)).trans ((up2r_o (by decide)).trans ((mnr_r 11 65 2).trans (if_pos ⟨rfl, by decide⟩)))) rfl ?_
  refine gk_iload_n (pc' := 70) cx dX1_init_69 rfl rfl ?_
  refine gk_bipush (pc' := 72) cx 40 dX1_init_70 rfl rfl ?_
  refine gk_iastk (pc' := 73) cx 0 dX1_init_72 kq68 (ltn rfl) (vpi (k := 0) (a := 1) (ltn rfl) rfl rfl) (cli (k := 0) (a := 1) (ltn rfl) rfl) rfl ?_
  refine gk_iinc (pc' := 76) cx 1 dX1_init_73 rfl rfl (ltn rfl) [(2, .int 1), (0, .ref (E.2.1 64)), (1, .ref (E.2.1 1))] rfl rfl ?_
  refine gk_goto cx 38 dX1_init_76 rfl ?_
  refine gk_iload_n (pc' := 39) cx dX1_init_38 rfl rfl ?_
  refine gk_iconst (pc' := 40) cx 4 dX1_init_39 rfl rfl ?_
  refine gk_icmp_ge (pc' := 43) cx 79 dX1_init_40 rfl rfl (fun hh => absurd hh (by decide)) (fun _ => ?_)
  refine gk_aload_n (pc' := 44) cx dX1_init_43 rfl rfl ?_
  refine gk_getr (pc' := 47) cx 65 fX1_11 dX1_init_44 kq64 (ltn rfl) (ltn rfl) rfl rfl rfl ?_
  refine gk_iconst (pc' := 48) cx 0 dX1_init_47 rfl rfl ?_
  refine gk_aaldk (pc' := 49) cx 0 66 dX1_init_48 kq65 (Nat.le_of_ble_eq_true rfl) (ltn rfl) (ltn rfl) (vpi (k := 0) (a := 1) (ltn rfl) rfl rfl) (cli (k := 0) (a := 1) (ltn rfl) rfl) ((up2r_o (by decide)).trans ((up2r_o (by decide)).trans ((mnr_r 11 65 0).trans (if_pos ⟨rfl, by decide⟩)))) rfl ?_
  refine gk_iload_n (pc' := 50) cx dX1_init_49 rfl rfl ?_
  refine gk_bipush (pc' := 52) cx 40 dX1_init_50 rfl rfl ?_
  refine gk_iastk (pc' := 53) cx 1 dX1_init_52 kq66 (ltn rfl) (vpi (k := 1) (a := 2) (ltn rfl) rfl rfl) (cli (k := 1) (a := 2) (ltn rfl) rfl) rfl ?_
  refine gk_aload_n (pc' := 54) cx dX1_init_53 rfl rfl ?_
  refine gk_getr (pc' := 57) cx 65 fX1_11 dX1_init_54 kq64 (ltn rfl) (ltn rfl) rfl rfl rfl ?_
  refine gk_iconst (pc' := 58) cx 1 dX1_init_57 rfl rfl ?_
  refine gk_aaldk (pc' := 59) cx 1 67 dX1_init_58 kq65 (Nat.le_of_ble_eq_true rfl) (ltn rfl) (ltn rfl) (vpi (k := 1) (a := 2) (ltn rfl) rfl rfl) (cli (k := 1) (a := 2) (ltn rfl) rfl) ((up2r_o (by decide)).trans ((up2r_o (by decide)).trans ((mnr_r 11 65 1).trans (if_pos ⟨rfl, by decide⟩)))) rfl ?_
  refine gk_iload_n (pc' := 60) cx dX1_init_59 rfl rfl ?_
  refine gk_bipush (pc' := 62) cx 40 dX1_init_60 rfl rfl ?_
  refine gk_iastk (pc' := 63) cx 1 dX1_init_62 kq67 (ltn rfl) (vpi (k := 1) (a := 2) (ltn rfl) rfl rfl) (cli (k := 1) (a := 2) (ltn rfl) rfl) rfl ?_
  refine gk_aload_n (pc' := 64) cx dX1_init_63 rfl rfl ?_
  refine gk_getr (pc' := 67) cx 65 fX1_11 dX1_init_64 kq64 (ltn rfl) (ltn rfl) rfl rfl rfl ?_
  refine gk_iconst (pc' := 68) cx 2 dX1_init_67 rfl rfl ?_
  refine gk_aaldk (pc' := 69) cx 2 68 dX1_init_68 kq65 (Nat.le_of_ble_eq_true rfl) (ltn rfl) (ltn rfl) (vpi (k := 2) (a := 3) (ltn rfl) rfl rfl) (cli (k := 2) (a := 3) (ltn rfl) rfl) ((up2r_o (by decide)).trans ((up2r_o (by decide)).trans ((mnr_r 11 65 2).trans (if_pos ⟨rfl, by decide⟩)))) rfl ?_
  refine gk_iload_n (pc' := 70) cx dX1_init_69 rfl rfl ?_
  refine gk_bipush (pc' := 72) cx 40 dX1_init_70 rfl rfl ?_
  refine gk_iastk (pc' := 73) cx 1 dX1_init_72 kq68 (ltn rfl) (vpi (k := 1) (a := 2) (ltn rfl) rfl rfl) (cli (k := 1) (a := 2) (ltn rfl) rfl) rfl ?_
  refine gk_iinc (pc' := 76) cx 2 dX1_init_73 rfl rfl (ltn rfl) [(2, .int 2), (0, .ref (E.2.1 64)), (1, .ref (E.2.1 1))] rfl rfl ?_
  refine gk_goto cx 38 dX1_init_76 rfl ?_
  refine gk_iload_n (pc' := 39) cx dX1_init_38 rfl rfl ?_
  refine gk_iconst (pc' := 40) cx 4 dX1_init_39 rfl rfl ?_
  refine gk_icmp_ge (pc' := 43) cx 79 dX1_init_40 rfl rfl (fun hh => absurd hh (by decide)) (fun _ => ?_)
  refine gk_aload_n (pc' := 44) cx dX1_init_43 rfl rfl ?_
  refine gk_getr (pc' := 47) cx 65 fX1_11 dX1_init_44 kq64 (ltn rfl) (ltn rfl) rfl rfl rfl ?_
  refine gk_iconst (pc' := 48) cx 0 dX1_init_47 rfl rfl ?_
  refine gk_aaldk (pc' := 49) cx 0 66 dX1_init_48 kq65 (Nat.le_of_ble_eq_true rfl) (ltn rfl) (ltn rfl) (vpi (k := 0) (a := 1) (ltn rfl) rfl rfl) (cli (k := 0) (a := 1) (ltn rfl) rfl) ((up2r_o (by decide)).trans ((up2r_o (by decide)).trans ((mnr_r 11 65 0).trans (if_pos ⟨rfl, by decide⟩)))) rfl ?_
  refine gk_iload_n (pc' := 50) cx dX1_init_49 rfl rfl ?_
  refine gk_bipush (pc' := 52) cx 40 dX1_init_50 rfl rfl ?_
  refine gk_iastk (pc' := 53) cx 2 dX1_init_52 kq66 (ltn rfl) (vpi (k := 2) (a := 3) (ltn rfl) rfl rfl) (cli (k := 2) (a := 3) (ltn rfl) rfl) rfl ?_
  refine gk_aload_n (pc' := 54) cx dX1_init_53 rfl rfl ?_
  refine gk_getr (pc' := 57) cx 65 fX1_11 dX1_init_54 kq64 (ltn rfl) (ltn rfl) rfl rfl rfl ?_
  refine gk_iconst (pc' := 58) cx 1 dX1_init_57 rfl rfl ?_
  refine gk_aaldk (pc' := 59) cx 1 67 dX1_init_58 kq65 (Nat.le_of_ble_eq_true rfl) (ltn rfl) (ltn rfl) (vpi (k := 1) (a := 2) (ltn rfl) rfl rfl) (cli (k := 1) (a := 2) (ltn rfl) rfl) ((up2r_o (by decide)).trans ((up2r_o (by decide)).trans ((mnr_r 11 65 1).trans (if_pos ⟨rfl, by decide⟩)))) rfl ?_
  refine gk_iload_n (pc' := 60) cx dX1_init_59 rfl rfl ?_
  refine gk_bipush (pc' := 62) cx 40 dX1_init_60 rfl rfl ?_
  refine gk_iastk (pc' := 63) cx 2 dX1_init_62 kq67 (ltn rfl) (vpi (k := 2) (a := 3) (ltn rfl) rfl rfl) (cli (k := 2) (a := 3) (ltn rfl) rfl) rfl ?_
  refine gk_aload_n (pc' := 64) cx dX1_init_63 rfl rfl ?_
  refine gk_getr (pc' := 67) cx 65 fX1_11 dX1_init_64 kq64 (ltn rfl) (ltn rfl) rfl rfl rfl ?_
  refine gk_iconst (pc' := 68) cx 2 dX1_init_67 rfl rfl ?_
  refine gk_aaldk (pc' := 69) cx 2 68 dX1_init_68 kq65 (Nat.le_of_ble_eq_true rfl) (ltn rfl) (ltn rfl) (vpi (k := 2) (a := 3) (ltn rfl) rfl rfl) (cli (k := 2) (a := 3) (ltn rfl) rfl) ((up2r_o (by decide)).trans ((up2r_o (by decide)).trans ((mnr_r 11 65 2).trans (if_pos ⟨rfl, by decide⟩)))) rfl ?_
  refine gk_iload_n (pc' := 70) cx dX1_init_69 rfl rfl ?_
  refine gk_bipush (pc' := 72) cx 40 dX1_init_70 rfl rfl ?_
  refine gk_iastk (pc' := 73) cx 2 dX1_init_72 kq68 (ltn rfl) (vpi (k := 2) (a := 3) (ltn rfl) rfl rfl) (cli (k := 2) (a := 3) (ltn rfl) rfl) rfl ?_
  refine gk_iinc (pc' := 76) cx 3 dX1_init_73 rfl rfl (ltn rfl) [(2, .int 3), (0, .ref (E.2.1 64)), (1, .ref (E.2.1 1))] rfl rfl ?_
  refine gk_goto cx 38 dX1_init_76 rfl ?_
  refine gk_iload_n (pc' := 39) cx dX1_init_38 rfl rfl ?_
  refine gk_iconst (pc' := 40) cx 4 dX1_init_39 rfl rfl ?_
  refine gk_icmp_ge (pc' := 43) cx 79 dX1_init_40 rfl rfl (fun hh => absurd hh (by decide)) (fun _ => ?_)
  refine gk_aload_n (pc' := 44) cx dX1_init_43 rfl rfl ?_
  refine gk_getr (pc' := 47) cx 65 fX1_11 dX1_init_44 kq64 (ltn rfl) (ltn rfl) rfl rfl rfl ?_
  refine gk_iconst (pc' := 48) cx 0 dX1_init_47 rfl rfl ?_
  refine gk_aaldk (pc' := 49) cx 0 66 dX1_init_48 kq65 (Nat.le_of_ble_eq_true rfl) (ltn rfl) (ltn rfl) (vpi (k := 0) (a := 1) (ltn rfl) rfl rfl) (cli (k := 0) (a := 1) (ltn rfl) rfl) ((up2r_o (by decide)).trans ((up2r_o (by decide)).trans ((mnr_r 11 65 0).trans (if_pos ⟨rfl, by decide⟩)))) rfl ?_
  refine gk_iload_n (pc' := 50) cx dX1_init_49 rfl rfl ?_
  refine gk_bipush (pc' := 52) cx 40 dX1_init_50 rfl rfl ?_
  refine gk_iastk (pc' := 53) cx 3 dX1_init_52 kq66 (ltn rfl) (vpi (k := 3) (a := 4) (ltn rfl) rfl rfl) (cli (k := 3) (a := 4) (ltn rfl) rfl) rfl ?_
  refine gk_aload_n (pc' := 54) cx dX1_init_53 rfl rfl ?_
  refine gk_getr (pc' := 57) cx 65 fX1_11 dX1_init_54 kq64 (ltn rfl) (ltn rfl) rfl rfl rfl ?_
  refine gk_iconst (pc' := 58) cx 1 dX1_init_57 rfl rfl ?_
  refine gk_aaldk (pc' := 59) cx 1 67 dX1_init_58 kq65 (Nat.le_of_ble_eq_true rfl) (ltn rfl) (ltn rfl) (vpi (k := 1) (a := 2) (ltn rfl) rfl rfl) (cli (k := 1) (a := 2) (ltn rfl) rfl) ((up2r_o (by decide)).trans ((up2r_o (by decide)).trans ((mnr_r 11 65 1).trans (if_pos ⟨rfl, by decide⟩)))) rfl ?_
  refine gk_iload_n (pc' := 60) cx dX1_init_59 rfl rfl ?_
  refine gk_bipush (pc' := 62) cx 40 dX1_init_60 rfl rfl ?_
  refine gk_iastk (pc' := 63) cx 3 dX1_init_62 kq67 (ltn rfl) (vpi (k := 3) (a := 4) (ltn rfl) rfl rfl) (cli (k := 3) (a := 4) (ltn rfl) rfl) rfl ?_
  refine gk_aload_n (pc' := 64) cx dX1_init_63 rfl rfl ?_
  refine gk_getr (pc' := 67) cx 65 fX1_11 dX1_init_64 kq64 (ltn rfl) (ltn rfl) rfl rfl rfl ?_
  refine gk_iconst (pc' := 68) cx 2 dX1_init_67 rfl rfl ?_
  refine gk_aaldk (pc' := 69) cx 2 68 dX1_init_68 kq65 (Nat.le_of_ble_eq_true rfl) (ltn rfl) (ltn rfl) (vpi (k := 2) (a := 3) (ltn rfl) rfl rfl) (cli (k := 2) (a := 3) (ltn rfl) rfl) ((up2r_o (by decide)).trans ((up2r_o (by decide)).trans ((mnr_r 11 65 2).trans (if_pos ⟨rfl, by decide⟩)))) rfl ?_
  refine gk_iload_n (pc' := 70) cx dX1_init_69 rfl rfl ?_
  refine gk_bipush (pc' := 72) cx 40 dX1_init_70 rfl rfl ?_
  refine gk_iastk (pc' := 73) cx 3 dX1_init_72 kq68 (ltn rfl) (vpi (k := 3) (a := 4) (ltn rfl) rfl rfl) (cli (k := 3) (a := 4) (ltn rfl) rfl) rfl ?_
  refine gk_iinc (pc' := 76) cx 4 dX1_init_73 rfl rfl (ltn rfl) [(2, .int 4), (0, .ref (E.2.1 64)), (1, .ref (E.2.1 1))] rfl rfl ?_
  refine gk_goto cx 38 dX1_init_76 rfl ?_
  refine gk_iload_n (pc' := 39) cx dX1_init_38 rfl rfl ?_
  refine gk_iconst (pc' := 40) cx 4 dX1_init_39 rfl rfl ?_
  refine gk_icmp_ge (pc' := 43) cx 79 dX1_init_40 rfl rfl (fun _ => ?_) (fun hh => absurd hh (by decide))
  refine gk_aload_n (pc' := 80) cx dX1_init_79 rfl rfl ?_
  refine gk_getr (pc' := 83) cx 65 fX1_11 dX1_init_80 kq64 (ltn rfl) (ltn rfl) rfl rfl rfl ?_
  refine gk_iconst (pc' := 84) cx 3 dX1_init_83 rfl rfl ?_
  refine gk_aaldk (pc' := 85) cx 3 69 dX1_init_84 kq65 (Nat.le_of_ble_eq_true rfl) (ltn rfl) (ltn rfl) (vpi (k := 3) (a := 4) (ltn rfl) rfl rfl) (cli (k := 3) (a := 4) (ltn rfl) rfl) ((up2r_o (by decide)).trans ((up2r_o (by decide)).trans ((mnr_r 11 65 3).trans (if_pos ⟨rfl, by decide⟩)))) rfl ?_
  refine gk_iconst (pc' := 86) cx 0 dX1_init_85 rfl rfl ?_
  refine gk_iconst (pc' := 87) cx (-1) dX1_init_86 rfl rfl ?_
  refine gk_iastk (pc' := 88) cx 0 dX1_init_87 kq69 (ltn rfl) (vpi (k := 0) (a := 1) (ltn rfl) rfl rfl) (cli (k := 0) (a := 1) (ltn rfl) rfl) rfl ?_
  refine gk_vret cx rfl dX1_init_88 rfl ?_
  refine ⟨rfl, rfl, ?_, rfl, rfl, rfl, rfl, ?_, rfl⟩
  · intro p hp
    rcases (show p = 0 ∨ p = 1 ∨ p = 2 ∨ p = 3 by omega) with rfl | rfl | rfl | rfl <;> exact ⟨rfl, rfl, rfl⟩
  · intro i j q
    rw [up2_n _ _ (by omega), up2_n _ _ (by omega), up2_n _ _ (by omega), up2_n _ _ (by omega), up2_n _ _ (by omega), up2_n _ _ (by omega), up2_n _ _ (by omega), up2_n _ _ (by omega), up2_n _ _ (by omega), up2_n _ _ (by omega), up2_n _ _ (by omega), up2_n _ _ (by omega), up2_n _ _ (by omega), up2_n _ _ (by omega), up2_n _ _ (by omega), up2_n _ _ (by omega)]

set_option maxHeartbeats 4000000 in
set_option maxRecDepth 40000 in
theorem n_X4 (l : Launch) (E : Ev) (hE : Sq E) {g : IG} {r : RG} (hg : ∀ i, 77 ≤ i → ∀ j, g i j = 0) (hr : ∀ i, 77 ≤ i → ∀ j, r i j = none) : CtN l E 77 11 56 yX4_init cX4_init 3 1 [.ref (E.2.1 63), .ref (E.2.1 37), .ref (E.2.1 64)] g r 0 (fun v g1 r1 z1 => v = none ∧ z1 = 0 ∧ (g1 = g ∧ r1 = up2r (up2r (up2r (up2r (up2r (mnr r 77 8) 63 2 (some 77)) 63 3 (some 86)) 63 4 (some 87)) 63 0 (some 37)) 63 1 (some 64))) := by
  refine CtN.of (lv0 := [(0, .ref (E.2.1 63)), (1, .ref (E.2.1 37)), (2, .ref (E.2.1 64))]) (by decide) rfl (Nat.le_of_ble_eq_true rfl) rfl ?_
  intro p e s m below meth c cx hin hsz hKx
  refine gk_aload_n (pc' := 1) cx dX4_init_0 rfl rfl ?_
  refine gk_obj (pc' := 4) cx loX4_3 obw dX4_init_1 (Nat.le_of_ble_eq_true rfl) (Nat.le_of_ble_eq_true rfl) (Nat.le_of_ble_eq_true rfl) rfl ?_
  refine gk_aload_n (pc' := 5) cx dX4_init_4 rfl rfl ?_
  refine gk_bipush (pc' := 7) cx 8 dX4_init_5 rfl rfl ?_
  refine gk_iconst (pc' := 8) cx 4 dX4_init_7 rfl rfl ?_
  refine gk_mnew (pc' := 12) (N := 8) (M := 4) cx hE hKx (by omega) (fun h9 => absurd h9 (by decide)) (ltn rfl) kq77 (by decide +kernel) ckX4_9 dX4_init_8 (by decide) (by decide) (by decide) (by decide) ⟨(Nat.le_of_ble_eq_true rfl), (Nat.le_of_ble_eq_true rfl)⟩ (Nat.le_of_ble_eq_true rfl) (Nat.le_of_ble_eq_true rfl) (fun i9 h9 j9 => hg _ (by omega) j9) (hr _ (by omega)) rfl rfl rfl rfl ?_
  refine gk_putF (pc' := 15) (ty := .array (.array .int)) cx hin fX4_11 dX4_init_12 kq63 (ltn rfl) (ltn rfl) rfl rfl rfl (by decide +kernel) ⟨rfl, rfl⟩ rfl ?_
  refine gk_aload_n (pc' := 16) cx dX4_init_15 rfl rfl ?_
  refine gk_bipush (pc' := 18) cx 8 dX4_init_16 rfl rfl ?_
  refine gk_newi (pc' := 20) cx hE (by omega) (fun h9 => absurd h9 (by decide)) (ltn rfl) kq86 ac_int dX4_init_18 (by decide) (by decide) (Nat.le_of_ble_eq_true rfl) (Nat.le_of_ble_eq_true rfl) (Nat.le_of_ble_eq_true rfl) (hg _ (by omega)) rfl ?_
  refine gk_putF (pc' := 23) (ty := .array .int) cx hin fX4_16 dX4_init_20 kq63 (ltn rfl) (ltn rfl) rfl rfl rfl (by decide +kernel) ⟨rfl, rfl⟩ rfl ?_
  refine gk_aload_n (pc' := 24) cx dX4_init_23 rfl rfl ?_
  refine gk_bipush (pc' := 26) cx 8 dX4_init_24 rfl rfl ?_
  refine gk_newi (pc' := 28) cx hE (by omega) (fun h9 => absurd h9 (by decide)) (ltn rfl) kq87 ac_int dX4_init_26 (by decide) (by decide) (Nat.le_of_ble_eq_true rfl) (Nat.le_of_ble_eq_true rfl) (Nat.le_of_ble_eq_true rfl) (hg _ (by omega)) rfl ?_
  refine gk_putF (pc' := 31) (ty := .array .int) cx hin fX4_20 dX4_init_28 kq63 (ltn rfl) (ltn rfl) rfl rfl rfl (by decide +kernel) ⟨rfl, rfl⟩ rfl ?_
  refine gk_aload_n (pc' := 32) cx dX4_init_31 rfl rfl ?_
  refine gk_aload_n (pc' := 33) cx dX4_init_32 rfl rfl ?_
  refine gk_putF (pc' := 36) (ty := .object "AsLastTime$Salon") cx hin fX4_23 dX4_init_33 kq63 (ltn rfl) (ltn rfl) rfl rfl rfl (by decide +kernel) ⟨rfl, rfl⟩ rfl ?_
  refine gk_aload_n (pc' := 37) cx dX4_init_36 rfl rfl ?_
  refine gk_aload_n (pc' := 38) cx dX4_init_37 rfl rfl ?_
  refine gk_putF (pc' := 41) (ty := .object "AsLastTime$Salon") cx hin fX4_27 dX4_init_38 kq63 (ltn rfl) (ltn rfl) rfl rfl rfl (by decide +kernel) ⟨rfl, rfl⟩ rfl ?_
  refine gk_vret cx rfl dX4_init_41 rfl ?_
  exact ⟨rfl, rfl, rfl, rfl⟩

