/-! the forms of a contract's end -/
def Zi (r : RG) (z : Int64) (x : Int32) (g : IG) : ZT := fun v g1 r1 z1 => v = some (.int x) ∧ g1 = g ∧ r1 = r ∧ z1 = z
def Zu (r : RG) (z : Int64) (g : IG) : ZT := fun v g1 r1 z1 => v = none ∧ g1 = g ∧ r1 = r ∧ z1 = z
def ZI (r : RG) (z : Int64) (P : Int32 → IG → Prop) : ZT := fun v g1 r1 z1 => (∃ x, v = some (.int x) ∧ P x g1) ∧ r1 = r ∧ z1 = z
def ZV (r : RG) (z : Int64) (P : IG → Prop) : ZT := fun v g1 r1 z1 => (v = none ∧ P g1) ∧ r1 = r ∧ z1 = z
def ZIz (r : RG) (P : Int32 → IG → Int64 → Prop) : ZT := fun v g1 r1 z1 => (∃ x, v = some (.int x) ∧ P x g1 z1) ∧ r1 = r
def ZVz (r : RG) (P : IG → Int64 → Prop) : ZT := fun v g1 r1 z1 => (v = none ∧ P g1 z1) ∧ r1 = r
theorem Zi.mk {r : RG} {z : Int64} {x y : Int32} {g g' : IG} (h : y = x) (hg : g' = g) : Zi r z x g (some (.int y)) g' r z := ⟨by rw [h], hg, rfl, rfl⟩
theorem Zu.mk {r : RG} {z : Int64} {g g' : IG} (hg : g' = g) : Zu r z g none g' r z := ⟨rfl, hg, rfl, rfl⟩
theorem ZI.mk {r : RG} {z : Int64} {P : Int32 → IG → Prop} {x : Int32} {g : IG} (h : P x g) : ZI r z P (some (.int x)) g r z := ⟨⟨x, rfl, h⟩, rfl, rfl⟩
theorem ZV.mk {r : RG} {z : Int64} {P : IG → Prop} {g : IG} (h : P g) : ZV r z P none g r z := ⟨⟨rfl, h⟩, rfl, rfl⟩
theorem ZIz.mk {r : RG} {P : Int32 → IG → Int64 → Prop} {x : Int32} {g : IG} {z : Int64} (h : P x g z) : ZIz r P (some (.int x)) g r z := ⟨⟨x, rfl, h⟩, rfl⟩
theorem ZVz.mk {r : RG} {P : IG → Int64 → Prop} {g : IG} {z : Int64} (h : P g z) : ZVz r P none g r z := ⟨⟨rfl, h⟩, rfl⟩
/-! places: a counter, a written number -/
theorem vpi {k a N : Nat} (h : k < a) (h2 : Nat.ble a N = true) (h3 : Nat.ble N 2147483647 = true) : vp_in (nI k) N :=
  vp_in_nI (Nat.lt_of_lt_of_le h (Nat.le_of_ble_eq_true h2)) (Nat.lt_of_le_of_lt (Nat.le_of_ble_eq_true h3) (by decide))
theorem cli {k a : Nat} (h : k < a) (h2 : Nat.ble a 2147483647 = true) : (nI k).toNatClampNeg = k :=
  nI_clamp (Nat.lt_trans h (Nat.lt_of_le_of_lt (Nat.le_of_ble_eq_true h2) (by decide)))
theorem ltn {a b : Nat} (h : Nat.ble (a + 1) b = true) : a < b := Nat.le_of_ble_eq_true h
theorem mac : Cond.native arraycopyName ∈ lwg ∧ Cond.static arraycopyName ∈ lwg ∧ Cond.initialized "java/lang/System" ∈ lwg := ⟨lwg_in 393 (by decide +kernel) (by decide +kernel), lwg_in 392 (by decide +kernel) (by decide +kernel), lwg_in 33 (by decide +kernel) (by decide +kernel)⟩
theorem lX1_30 : ML RX1 30 arraycopyName := lwg_in 391 (by decide +kernel) (by decide +kernel)
theorem lX4_57 : ML RX4 57 arraycopyName := lwg_in 456 (by decide +kernel) (by decide +kernel)
theorem mm_max : Cond.static Lib.Math.max.name ∈ lwg ∧ Cond.initialized "java/lang/Math" ∈ lwg ∧ Cond.code Lib.Math.max.name Lib.Math.max.code 2 (some .int) ∈ lwg := ⟨lwg_in 412 (by decide +kernel) (by decide +kernel), lwg_in 34 (by decide +kernel) (by decide +kernel), lwg_in 413 (by decide +kernel) (by decide +kernel)⟩
theorem mm_min : Cond.static Lib.Math.min.name ∈ lwg ∧ Cond.initialized "java/lang/Math" ∈ lwg ∧ Cond.code Lib.Math.min.name Lib.Math.min.code 2 (some .int) ∈ lwg := ⟨lwg_in 409 (by decide +kernel) (by decide +kernel), lwg_in 34 (by decide +kernel) (by decide +kernel), lwg_in 410 (by decide +kernel) (by decide +kernel)⟩
theorem mm_abs : Cond.static Lib.Math.abs.name ∈ lwg ∧ Cond.initialized "java/lang/Math" ∈ lwg ∧ Cond.code Lib.Math.abs.name Lib.Math.abs.code 1 (some .int) ∈ lwg := ⟨lwg_in 432 (by decide +kernel) (by decide +kernel), lwg_in 34 (by decide +kernel) (by decide +kernel), lwg_in 433 (by decide +kernel) (by decide +kernel)⟩
theorem kq0 : kd 0 = (5, 8) := rfl
theorem kq1 : kd 1 = (13, 6) := rfl
theorem kq2 : kd 2 = (0, 7) := rfl
theorem kq3 : kd 3 = (10, 160) := rfl
theorem kq4 : kd 4 = (14, 4) := rfl
theorem kq5 : kd 5 = (3, 4) := rfl
theorem kq6 : kd 6 = (10, 160) := rfl
theorem kq7 : kd 7 = (10, 3) := rfl
theorem kq8 : kd 8 = (10, 40) := rfl
theorem kq9 : kd 9 = (3, 4) := rfl
theorem kq10 : kd 10 = (10, 160) := rfl
theorem kq11 : kd 11 = (10, 3) := rfl
theorem kq12 : kd 12 = (10, 40) := rfl
theorem kq13 : kd 13 = (3, 4) := rfl
theorem kq14 : kd 14 = (10, 160) := rfl
theorem kq15 : kd 15 = (10, 3) := rfl
theorem kq16 : kd 16 = (10, 40) := rfl
theorem kq17 : kd 17 = (3, 4) := rfl
theorem kq18 : kd 18 = (10, 160) := rfl
theorem kq19 : kd 19 = (10, 3) := rfl
theorem kq20 : kd 20 = (10, 40) := rfl
theorem kq21 : kd 21 = (3, 4) := rfl
theorem kq22 : kd 22 = (10, 160) := rfl
theorem kq23 : kd 23 = (10, 3) := rfl
theorem kq24 : kd 24 = (10, 40) := rfl
theorem kq25 : kd 25 = (3, 4) := rfl
theorem kq26 : kd 26 = (10, 160) := rfl
theorem kq27 : kd 27 = (10, 3) := rfl
theorem kq28 : kd 28 = (10, 40) := rfl
theorem kq29 : kd 29 = (2, 3) := rfl
theorem kq30 : kd 30 = (10, 40) := rfl
theorem kq31 : kd 31 = (2, 3) := rfl
theorem kq32 : kd 32 = (10, 40) := rfl
theorem kq33 : kd 33 = (2, 3) := rfl
theorem kq34 : kd 34 = (10, 40) := rfl
theorem kq35 : kd 35 = (2, 3) := rfl
theorem kq36 : kd 36 = (10, 40) := rfl
theorem kq37 : kd 37 = (1, 5) := rfl
theorem kq38 : kd 38 = (12, 11) := rfl
theorem kq39 : kd 39 = (10, 8) := rfl
theorem kq40 : kd 40 = (10, 8) := rfl
theorem kq41 : kd 41 = (10, 8) := rfl
theorem kq42 : kd 42 = (10, 8) := rfl
theorem kq43 : kd 43 = (10, 8) := rfl
theorem kq44 : kd 44 = (10, 8) := rfl
theorem kq45 : kd 45 = (10, 8) := rfl
theorem kq46 : kd 46 = (10, 8) := rfl
theorem kq47 : kd 47 = (10, 8) := rfl
theorem kq48 : kd 48 = (10, 8) := rfl
theorem kq49 : kd 49 = (10, 8) := rfl
theorem kq50 : kd 50 = (1, 5) := rfl
theorem kq51 : kd 51 = (12, 11) := rfl
theorem kq52 : kd 52 = (10, 8) := rfl
theorem kq53 : kd 53 = (10, 8) := rfl
theorem kq54 : kd 54 = (10, 8) := rfl
theorem kq55 : kd 55 = (10, 8) := rfl
theorem kq56 : kd 56 = (10, 8) := rfl
theorem kq57 : kd 57 = (10, 8) := rfl
theorem kq58 : kd 58 = (10, 8) := rfl
theorem kq59 : kd 59 = (10, 8) := rfl
theorem kq60 : kd 60 = (10, 8) := rfl
theorem kq61 : kd 61 = (10, 8) := rfl
theorem kq62 : kd 62 = (10, 8) := rfl
theorem kq63 : kd 63 = (4, 5) := rfl
theorem kq64 : kd 64 = (1, 5) := rfl
theorem kq65 : kd 65 = (12, 11) := rfl
theorem kq66 : kd 66 = (10, 8) := rfl
theorem kq67 : kd 67 = (10, 8) := rfl
theorem kq68 : kd 68 = (10, 8) := rfl
theorem kq69 : kd 69 = (10, 8) := rfl
theorem kq70 : kd 70 = (10, 8) := rfl
theorem kq71 : kd 71 = (10, 8) := rfl
theorem kq72 : kd 72 = (10, 8) := rfl
theorem kq73 : kd 73 = (10, 8) := rfl
theorem kq74 : kd 74 = (10, 8) := rfl
theorem kq75 : kd 75 = (10, 8) := rfl
theorem kq76 : kd 76 = (10, 8) := rfl
theorem kq77 : kd 77 = (12, 8) := rfl
theorem kq78 : kd 78 = (10, 4) := rfl
theorem kq79 : kd 79 = (10, 4) := rfl
theorem kq80 : kd 80 = (10, 4) := rfl
theorem kq81 : kd 81 = (10, 4) := rfl
theorem kq82 : kd 82 = (10, 4) := rfl
theorem kq83 : kd 83 = (10, 4) := rfl
theorem kq84 : kd 84 = (10, 4) := rfl
theorem kq85 : kd 85 = (10, 4) := rfl
theorem kq86 : kd 86 = (10, 8) := rfl
theorem kq87 : kd 87 = (10, 8) := rfl
section GOZ
variable {p : Program} {l : Launch} {e : Env} {R : Room} {s : State} {m : MethodId} {args : Array Value} {below : List Frame} {meth : Method} {c : Code} {E : Ev} {n nL : Nat} {cc : ByteArray} {own : String} {ret : Option FieldType} {Z : ZT} {g : IG} {r : RG} {z : Int64} {pc pc' : Nat} {lv : LV} {st : List Value}
theorem go_cVi (cx : Cx p s m args meth c E n cc nL own ret) {y : MethodName} {bytes : ByteArray} {maxL : Nat} {rt : Option FieldType} {np d d0 idx i ci N : Nat} {As st0 : List Value} {x : Int32} {g1 : IG} {r1 : RG} {z1 : Int64} (hM : Ct l E n y bytes maxL rt d (.ref (E.2.1 i) :: As) g r z (Zi r1 z1 x g1)) (hw : MWv y bytes maxL rt np) (hl : ML own idx y) (hdg : decode cc pc = .ok (.invokevirtual idx, 3))
    (hk : kd i = (ci, N)) (hc : ci < 7) (hi : i < n) (hcl : (clx[ci]?).map (·.1) = some y.cls) (hn : As.length = np) (hst : st0 = As.reverse ++ .ref (E.2.1 i) :: st) (hR : R = rmd d0) (hdd : d < d0) (hm : maxL ≤ 60) (hsz : (st.map fun v => v.category).sum ≤ 8) (hp : pc + 3 = pc')
    (kk : Go p l e R s m args below meth c E n nL Z g1 r1 z1 pc' lv (.int x :: st)) : Go p l e R s m args below meth c E n nL Z g r z pc lv st0 := by
  refine go_callV cx hM hw hl hdg hk hc hi hcl hn hst hR hdd hm hsz hp ?_
  rintro _ _ _ _ ⟨rfl, rfl, rfl, rfl⟩
  exact kk
theorem go_cSi (cx : Cx p s m args meth c E n cc nL own ret) {y : MethodName} {bytes : ByteArray} {maxL : Nat} {rt : Option FieldType} {np d d0 idx : Nat} {As st0 : List Value} {x : Int32} {g1 : IG} {r1 : RG} {z1 : Int64} (hM : Ct l E n y bytes maxL rt d As g r z (Zi r1 z1 x g1)) (hw : MWs y bytes maxL rt np) (hl : ML own idx y) (hdg : decode cc pc = .ok (.invokestatic idx, 3))
    (hn : As.length = np) (hst : st0 = As.reverse ++ st) (hR : R = rmd d0) (hdd : d < d0) (hm : maxL ≤ 60) (hsz : (st.map fun v => v.category).sum ≤ 8) (hp : pc + 3 = pc')
    (kk : Go p l e R s m args below meth c E n nL Z g1 r1 z1 pc' lv (.int x :: st)) : Go p l e R s m args below meth c E n nL Z g r z pc lv st0 := by
  refine go_callS cx hM hw hl hdg hn hst hR hdd hm hsz hp ?_
  rintro _ _ _ _ ⟨rfl, rfl, rfl, rfl⟩
  exact kk
theorem go_cVu (cx : Cx p s m args meth c E n cc nL own ret) {y : MethodName} {bytes : ByteArray} {maxL : Nat} {rt : Option FieldType} {np d d0 idx i ci N : Nat} {As st0 : List Value} {g1 : IG} {r1 : RG} {z1 : Int64} (hM : Ct l E n y bytes maxL rt d (.ref (E.2.1 i) :: As) g r z (Zu r1 z1 g1)) (hw : MWv y bytes maxL rt np) (hl : ML own idx y) (hdg : decode cc pc = .ok (.invokevirtual idx, 3))
    (hk : kd i = (ci, N)) (hc : ci < 7) (hi : i < n) (hcl : (clx[ci]?).map (·.1) = some y.cls) (hn : As.length = np) (hst : st0 = As.reverse ++ .ref (E.2.1 i) :: st) (hR : R = rmd d0) (hdd : d < d0) (hm : maxL ≤ 60) (hsz : (st.map fun v => v.category).sum ≤ 8) (hp : pc + 3 = pc')
    (kk : Go p l e R s m args below meth c E n nL Z g1 r1 z1 pc' lv st) : Go p l e R s m args below meth c E n nL Z g r z pc lv st0 := by
  refine go_callV cx hM hw hl hdg hk hc hi hcl hn hst hR hdd hm hsz hp ?_
  rintro _ _ _ _ ⟨rfl, rfl, rfl, rfl⟩
  exact kk
theorem go_cSu (cx : Cx p s m args meth c E n cc nL own ret) {y : MethodName} {bytes : ByteArray} {maxL : Nat} {rt : Option FieldType} {np d d0 idx : Nat} {As st0 : List Value} {g1 : IG} {r1 : RG} {z1 : Int64} (hM : Ct l E n y bytes maxL rt d As g r z (Zu r1 z1 g1)) (hw : MWs y bytes maxL rt np) (hl : ML own idx y) (hdg : decode cc pc = .ok (.invokestatic idx, 3))
    (hn : As.length = np) (hst : st0 = As.reverse ++ st) (hR : R = rmd d0) (hdd : d < d0) (hm : maxL ≤ 60) (hsz : (st.map fun v => v.category).sum ≤ 8) (hp : pc + 3 = pc')
    (kk : Go p l e R s m args below meth c E n nL Z g1 r1 z1 pc' lv st) : Go p l e R s m args below meth c E n nL Z g r z pc lv st0 := by
  refine go_callS cx hM hw hl hdg hn hst hR hdd hm hsz hp ?_
  rintro _ _ _ _ ⟨rfl, rfl, rfl, rfl⟩
  exact kk
theorem go_cVI (cx : Cx p s m args meth c E n cc nL own ret) {y : MethodName} {bytes : ByteArray} {maxL : Nat} {rt : Option FieldType} {np d d0 idx i ci N : Nat} {As st0 : List Value} {P : Int32 → IG → Prop} {r1 : RG} {z1 : Int64} (hM : Ct l E n y bytes maxL rt d (.ref (E.2.1 i) :: As) g r z (ZI r1 z1 P)) (hw : MWv y bytes maxL rt np) (hl : ML own idx y) (hdg : decode cc pc = .ok (.invokevirtual idx, 3))
    (hk : kd i = (ci, N)) (hc : ci < 7) (hi : i < n) (hcl : (clx[ci]?).map (·.1) = some y.cls) (hn : As.length = np) (hst : st0 = As.reverse ++ .ref (E.2.1 i) :: st) (hR : R = rmd d0) (hdd : d < d0) (hm : maxL ≤ 60) (hsz : (st.map fun v => v.category).sum ≤ 8) (hp : pc + 3 = pc')
    (kk : ∀ x g1, P x g1 → Go p l e R s m args below meth c E n nL Z g1 r1 z1 pc' lv (.int x :: st)) : Go p l e R s m args below meth c E n nL Z g r z pc lv st0 := by
  refine go_callV cx hM hw hl hdg hk hc hi hcl hn hst hR hdd hm hsz hp ?_
  rintro _ g1 _ _ ⟨⟨x, rfl, h⟩, rfl, rfl⟩
  exact kk x g1 h
theorem go_cSI (cx : Cx p s m args meth c E n cc nL own ret) {y : MethodName} {bytes : ByteArray} {maxL : Nat} {rt : Option FieldType} {np d d0 idx : Nat} {As st0 : List Value} {P : Int32 → IG → Prop} {r1 : RG} {z1 : Int64} (hM : Ct l E n y bytes maxL rt d As g r z (ZI r1 z1 P)) (hw : MWs y bytes maxL rt np) (hl : ML own idx y) (hdg : decode cc pc = .ok (.invokestatic idx, 3))
    (hn : As.length = np) (hst : st0 = As.reverse ++ st) (hR : R = rmd d0) (hdd : d < d0) (hm : maxL ≤ 60) (hsz : (st.map fun v => v.category).sum ≤ 8) (hp : pc + 3 = pc')
    (kk : ∀ x g1, P x g1 → Go p l e R s m args below meth c E n nL Z g1 r1 z1 pc' lv (.int x :: st)) : Go p l e R s m args below meth c E n nL Z g r z pc lv st0 := by
  refine go_callS cx hM hw hl hdg hn hst hR hdd hm hsz hp ?_
  rintro _ g1 _ _ ⟨⟨x, rfl, h⟩, rfl, rfl⟩
  exact kk x g1 h
theorem go_cVV (cx : Cx p s m args meth c E n cc nL own ret) {y : MethodName} {bytes : ByteArray} {maxL : Nat} {rt : Option FieldType} {np d d0 idx i ci N : Nat} {As st0 : List Value} {P : IG → Prop} {r1 : RG} {z1 : Int64} (hM : Ct l E n y bytes maxL rt d (.ref (E.2.1 i) :: As) g r z (ZV r1 z1 P)) (hw : MWv y bytes maxL rt np) (hl : ML own idx y) (hdg : decode cc pc = .ok (.invokevirtual idx, 3))
    (hk : kd i = (ci, N)) (hc : ci < 7) (hi : i < n) (hcl : (clx[ci]?).map (·.1) = some y.cls) (hn : As.length = np) (hst : st0 = As.reverse ++ .ref (E.2.1 i) :: st) (hR : R = rmd d0) (hdd : d < d0) (hm : maxL ≤ 60) (hsz : (st.map fun v => v.category).sum ≤ 8) (hp : pc + 3 = pc')
    (kk : ∀ g1, P g1 → Go p l e R s m args below meth c E n nL Z g1 r1 z1 pc' lv st) : Go p l e R s m args below meth c E n nL Z g r z pc lv st0 := by
  refine go_callV cx hM hw hl hdg hk hc hi hcl hn hst hR hdd hm hsz hp ?_
  rintro _ g1 _ _ ⟨⟨rfl, h⟩, rfl, rfl⟩
  exact kk g1 h
theorem go_cSV (cx : Cx p s m args meth c E n cc nL own ret) {y : MethodName} {bytes : ByteArray} {maxL : Nat} {rt : Option FieldType} {np d d0 idx : Nat} {As st0 : List Value} {P : IG → Prop} {r1 : RG} {z1 : Int64} (hM : Ct l E n y bytes maxL rt d As g r z (ZV r1 z1 P)) (hw : MWs y bytes maxL rt np) (hl : ML own idx y) (hdg : decode cc pc = .ok (.invokestatic idx, 3))
    (hn : As.length = np) (hst : st0 = As.reverse ++ st) (hR : R = rmd d0) (hdd : d < d0) (hm : maxL ≤ 60) (hsz : (st.map fun v => v.category).sum ≤ 8) (hp : pc + 3 = pc')
    (kk : ∀ g1, P g1 → Go p l e R s m args below meth c E n nL Z g1 r1 z1 pc' lv st) : Go p l e R s m args below meth c E n nL Z g r z pc lv st0 := by
  refine go_callS cx hM hw hl hdg hn hst hR hdd hm hsz hp ?_
  rintro _ g1 _ _ ⟨⟨rfl, h⟩, rfl, rfl⟩
  exact kk g1 h
theorem go_cVIz (cx : Cx p s m args meth c E n cc nL own ret) {y : MethodName} {bytes : ByteArray} {maxL : Nat} {rt : Option FieldType} {np d d0 idx i ci N : Nat} {As st0 : List Value} {P : Int32 → IG → Int64 → Prop} {r1 : RG} (hM : Ct l E n y bytes maxL rt d (.ref (E.2.1 i) :: As) g r z (ZIz r1 P)) (hw : MWv y bytes maxL rt np) (hl : ML own idx y) (hdg : decode cc pc = .ok (.invokevirtual idx, 3))
    (hk : kd i = (ci, N)) (hc : ci < 7) (hi : i < n) (hcl : (clx[ci]?).map (·.1) = some y.cls) (hn : As.length = np) (hst : st0 = As.reverse ++ .ref (E.2.1 i) :: st) (hR : R = rmd d0) (hdd : d < d0) (hm : maxL ≤ 60) (hsz : (st.map fun v => v.category).sum ≤ 8) (hp : pc + 3 = pc')
    (kk : ∀ x g1 z1, P x g1 z1 → Go p l e R s m args below meth c E n nL Z g1 r1 z1 pc' lv (.int x :: st)) : Go p l e R s m args below meth c E n nL Z g r z pc lv st0 := by
  refine go_callV cx hM hw hl hdg hk hc hi hcl hn hst hR hdd hm hsz hp ?_
  rintro _ g1 _ z1 ⟨⟨x, rfl, h⟩, rfl⟩
  exact kk x g1 z1 h
theorem go_cSIz (cx : Cx p s m args meth c E n cc nL own ret) {y : MethodName} {bytes : ByteArray} {maxL : Nat} {rt : Option FieldType} {np d d0 idx : Nat} {As st0 : List Value} {P : Int32 → IG → Int64 → Prop} {r1 : RG} (hM : Ct l E n y bytes maxL rt d As g r z (ZIz r1 P)) (hw : MWs y bytes maxL rt np) (hl : ML own idx y) (hdg : decode cc pc = .ok (.invokestatic idx, 3))
    (hn : As.length = np) (hst : st0 = As.reverse ++ st) (hR : R = rmd d0) (hdd : d < d0) (hm : maxL ≤ 60) (hsz : (st.map fun v => v.category).sum ≤ 8) (hp : pc + 3 = pc')
    (kk : ∀ x g1 z1, P x g1 z1 → Go p l e R s m args below meth c E n nL Z g1 r1 z1 pc' lv (.int x :: st)) : Go p l e R s m args below meth c E n nL Z g r z pc lv st0 := by
  refine go_callS cx hM hw hl hdg hn hst hR hdd hm hsz hp ?_
  rintro _ g1 _ z1 ⟨⟨x, rfl, h⟩, rfl⟩
  exact kk x g1 z1 h
theorem go_cVVz (cx : Cx p s m args meth c E n cc nL own ret) {y : MethodName} {bytes : ByteArray} {maxL : Nat} {rt : Option FieldType} {np d d0 idx i ci N : Nat} {As st0 : List Value} {P : IG → Int64 → Prop} {r1 : RG} (hM : Ct l E n y bytes maxL rt d (.ref (E.2.1 i) :: As) g r z (ZVz r1 P)) (hw : MWv y bytes maxL rt np) (hl : ML own idx y) (hdg : decode cc pc = .ok (.invokevirtual idx, 3))
    (hk : kd i = (ci, N)) (hc : ci < 7) (hi : i < n) (hcl : (clx[ci]?).map (·.1) = some y.cls) (hn : As.length = np) (hst : st0 = As.reverse ++ .ref (E.2.1 i) :: st) (hR : R = rmd d0) (hdd : d < d0) (hm : maxL ≤ 60) (hsz : (st.map fun v => v.category).sum ≤ 8) (hp : pc + 3 = pc')
    (kk : ∀ g1 z1, P g1 z1 → Go p l e R s m args below meth c E n nL Z g1 r1 z1 pc' lv st) : Go p l e R s m args below meth c E n nL Z g r z pc lv st0 := by
  refine go_callV cx hM hw hl hdg hk hc hi hcl hn hst hR hdd hm hsz hp ?_
  rintro _ g1 _ z1 ⟨⟨rfl, h⟩, rfl⟩
  exact kk g1 z1 h
theorem go_cSVz (cx : Cx p s m args meth c E n cc nL own ret) {y : MethodName} {bytes : ByteArray} {maxL : Nat} {rt : Option FieldType} {np d d0 idx : Nat} {As st0 : List Value} {P : IG → Int64 → Prop} {r1 : RG} (hM : Ct l E n y bytes maxL rt d As g r z (ZVz r1 P)) (hw : MWs y bytes maxL rt np) (hl : ML own idx y) (hdg : decode cc pc = .ok (.invokestatic idx, 3))
    (hn : As.length = np) (hst : st0 = As.reverse ++ st) (hR : R = rmd d0) (hdd : d < d0) (hm : maxL ≤ 60) (hsz : (st.map fun v => v.category).sum ≤ 8) (hp : pc + 3 = pc')
    (kk : ∀ g1 z1, P g1 z1 → Go p l e R s m args below meth c E n nL Z g1 r1 z1 pc' lv st) : Go p l e R s m args below meth c E n nL Z g r z pc lv st0 := by
  refine go_callS cx hM hw hl hdg hn hst hR hdd hm hsz hp ?_
  rintro _ g1 _ z1 ⟨⟨rfl, h⟩, rfl⟩
  exact kk g1 z1 h
theorem go_mmax (cx : Cx p s m args meth c E n cc nL own ret) {x y : Int32} {idx d0 : Nat} (hl : ML own idx Lib.Math.max.name) (hdg : decode cc pc = .ok (.invokestatic idx, 3)) (hR : R = rmd d0) (hd0 : 0 < d0) (hsz : (st.map fun v => v.category).sum ≤ 8) (hp : pc + 3 = pc')
    (kk : Go p l e R s m args below meth c E n nL Z g r z pc' lv (.int (if x < y then y else x) :: st)) : Go p l e R s m args below meth c E n nL Z g r z pc lv (.int y :: .int x :: st) := by
  subst hp
  subst hR
  obtain ⟨⟨hx, hb, hml, hown, hts⟩, -⟩ := cx
  intro H locs ls a b h
  exact va_mmax (R := rmd d0) hx hb (hml.trans h.1.symm) hown (hts _ hl) (hts _ mm_max.1) (hts _ mm_max.2.1) (hts _ mm_max.2.2) hd0 (by show _ + 13 ≤ 80 * d0; omega) (Nat.zero_le _) (Nat.zero_le _) hdg (kk H locs ls a b h)
theorem go_mmin (cx : Cx p s m args meth c E n cc nL own ret) {x y : Int32} {idx d0 : Nat} (hl : ML own idx Lib.Math.min.name) (hdg : decode cc pc = .ok (.invokestatic idx, 3)) (hR : R = rmd d0) (hd0 : 0 < d0) (hsz : (st.map fun v => v.category).sum ≤ 8) (hp : pc + 3 = pc')
    (kk : Go p l e R s m args below meth c E n nL Z g r z pc' lv (.int (if y < x then y else x) :: st)) : Go p l e R s m args below meth c E n nL Z g r z pc lv (.int y :: .int x :: st) := by
  subst hp
  subst hR
  obtain ⟨⟨hx, hb, hml, hown, hts⟩, -⟩ := cx
  intro H locs ls a b h
  exact va_mmin (R := rmd d0) hx hb (hml.trans h.1.symm) hown (hts _ hl) (hts _ mm_min.1) (hts _ mm_min.2.1) (hts _ mm_min.2.2) hd0 (by show _ + 13 ≤ 80 * d0; omega) (Nat.zero_le _) (Nat.zero_le _) hdg (kk H locs ls a b h)
theorem go_mabs (cx : Cx p s m args meth c E n cc nL own ret) {x : Int32} {idx d0 : Nat} (hl : ML own idx Lib.Math.abs.name) (hdg : decode cc pc = .ok (.invokestatic idx, 3)) (hR : R = rmd d0) (hd0 : 0 < d0) (hsz : (st.map fun v => v.category).sum ≤ 8) (hp : pc + 3 = pc')
    (kk : Go p l e R s m args below meth c E n nL Z g r z pc' lv (.int (if 0 ≤ x then x else 0 - x) :: st)) : Go p l e R s m args below meth c E n nL Z g r z pc lv (.int x :: st) := by
  subst hp
  subst hR
  obtain ⟨⟨hx, hb, hml, hown, hts⟩, -⟩ := cx
  intro H locs ls a b h
  exact va_mabs (R := rmd d0) hx hb (hml.trans h.1.symm) hown (hts _ hl) (hts _ mm_abs.1) (hts _ mm_abs.2.1) (hts _ mm_abs.2.2) hd0 (by show _ + 13 ≤ 80 * d0; omega) (Nat.zero_le _) (Nat.zero_le _) hdg (kk H locs ls a b h)
end GOZ
theorem vpx {x : Int32} {a N : Nat} (h : vp_in x a) (h2 : a = N) : vp_in x N := h2 ▸ h
section GOK
variable {p : Program} {l : Launch} {e : Env} {R : Room} {s : State} {m : MethodId} {args : Array Value} {below : List Frame} {meth : Method} {c : Code} {E : Ev} {n nL : Nat} {cc : ByteArray} {own : String} {ret : Option FieldType} {Z : ZT} {g : IG} {r : RG} {z : Int64} {pc pc' : Nat} {lv : LV} {st : List Value}
theorem go_iastk (cx : Cx p s m args meth c E n cc nL own ret) {i N : Nat} {j v : Int32} (k : Nat) (hdg : decode cc pc = .ok (.iastore, 1)) (hk : kd i = (10, N)) (hi : i < n) (hj : vp_in j N) (hjk : j.toNatClampNeg = k) (hp : pc + 1 = pc')
    (kk : Go p l e R s m args below meth c E n nL Z (up2 g i k v) r z pc' lv st) : Go p l e R s m args below meth c E n nL Z g r z pc lv (.int v :: .int j :: .ref (E.2.1 i) :: st) := by
  subst hjk
  exact go_iast cx hdg hk hi hj hp kk
theorem go_aaldk (cx : Cx p s m args meth c E n cc nL own ret) {i N ci : Nat} {j : Int32} (k y : Nat) (hdg : decode cc pc = .ok (.aaload, 1)) (hk : kd i = (ci, N)) (hc : 12 ≤ ci) (hc2 : ci < 15) (hi : i < n) (hj : vp_in j N) (hjk : j.toNatClampNeg = k) (hv : r i k = some y) (hp : pc + 1 = pc')
    (kk : Go p l e R s m args below meth c E n nL Z g r z pc' lv (.ref (E.2.1 y) :: st)) : Go p l e R s m args below meth c E n nL Z g r z pc lv (.int j :: .ref (E.2.1 i) :: st) := by
  subst hjk
  exact go_aald cx y hdg hk hc hc2 hi hj hv hp kk
theorem go_alen (cx : Cx p s m args meth c E n cc nL own ret) {i N : Nat} (v : Int32) {ci : Nat} (hdg : decode cc pc = .ok (.arraylength, 1)) (hk : kd i = (ci, N)) (hc : ci = 10) (hi : i < n) (hv : Int32.ofNat N = v) (hp : pc + 1 = pc')
    (kk : Go p l e R s m args below meth c E n nL Z g r z pc' lv (.int v :: st)) : Go p l e R s m args below meth c E n nL Z g r z pc lv (.ref (E.2.1 i) :: st) := by
  subst hp
  subst hc
  intro H locs ls a b h
  exact va_alen (x := (N, .inl (g i))) cx.1.1 cx.1.2.1 cx.2.2.2.1.1 a.1 i 0 (by rw [wsl_at hi, cnt_i hk (by decide) (by decide)]) rfl hv hdg (kk H locs ls a b h)
theorem go_acopy (cx : Cx p s m args meth c E n cc nL own ret) {idx i j N M : Nat} {sp dp k : Int32} (sp' dp' k' : Nat) (hl : ML own idx arraycopyName) (hdg : decode cc pc = .ok (.invokestatic idx, 3)) (hki : kd i = (10, N)) (hkj : kd j = (10, M)) (hi : i < n) (hj : j < n) (h1 : ¬ sp < 0) (h2 : ¬ dp < 0) (h3 : ¬ k < 0) (e1 : sp.toNatClampNeg = sp') (e2 : dp.toNatClampNeg = dp') (e3 : k.toNatClampNeg = k') (h4 : sp' + k' ≤ N) (h5 : dp' + k' ≤ M)
    (hframes : 1 ≤ R.frames) (hlocals : (st.map fun v => v.category).sum + (nativeFrameWords "java/lang/System" "arraycopy" 5 + 11) ≤ R.locals) (hp : pc + 3 = pc')
    (kk : Go p l e R s m args below meth c E n nL Z (upw g j (va_cpy (g i) (g j) sp' dp' k')) r z pc' lv st) : Go p l e R s m args below meth c E n nL Z g r z pc lv (.int k :: .int dp :: .ref (E.2.1 j) :: .int sp :: .ref (E.2.1 i) :: st) := by
  subst hp
  subst e1
  subst e2
  subst e3
  have hcx := cx
  obtain ⟨⟨hx, hb, hml, hown, hts⟩, -⟩ := cx
  intro H locs ls a b h
  refine va_copyi (ty := .int) (f := g i) (g := g j) hx hb (hml.trans h.1.symm) hown (hts _ hl) (hts _ mac.1) (hts _ mac.2.1) (hts _ mac.2.2) hcx.2.2.2.1.1 a.1 a.2 b i j 0 0 (by rw [wsl_at hi, cnt_i hki (by decide) (by decide)]) (by rw [wsl_at hj, cnt_i hkj (by decide) (by decide)]) rfl rfl rfl h1 h2 h3 h4 h5 (fun _ _ => rfl) hframes hlocals hdg (fun H1 locs1 hP hD hS => ?_)
  rw [wsl_cpy _ hj hkj (by decide) (by decide)] at hP hD
  exact kk H1 locs1 ls ⟨hP, hD⟩ hS h
theorem go_sub (ks : List Nat) (lv' : LV) (hl : lv_pick lv ks = lv') (kk : Go p l e R s m args below meth c E n nL Z g r z pc lv' st) : Go p l e R s m args below meth c E n nL Z g r z pc lv st :=
  fun H locs ls a b h => kk H locs ls a b (lv_sub h ks hl)
theorem upw_s (g : IG) (i : Nat) (f : Nat → Int32) (k : Nat) : upw g i f i k = f k := if_pos rfl
theorem upw_n (g : IG) {i j : Nat} (f : Nat → Int32) (k : Nat) (h : j ≠ i) : upw g i f j k = g j k := if_neg h
theorem upw_up (g : IG) (i : Nat) (f : Nat → Int32) (k : Nat) (v : Int32) : up2 (upw g i f) i k v = upw g i (upd f k v) := by
  funext a b
  unfold up2 upw upd
  by_cases ha : a = i
  · rw [if_pos ha, if_pos ha, if_pos ha]
  · rw [if_neg ha, if_neg ha, if_neg ha]
theorem upw_id (g : IG) (i : Nat) : upw g i (g i) = g := by
  funext a b
  unfold upw
  by_cases ha : a = i
  · rw [if_pos ha, ha]
  · rw [if_neg ha]
theorem upw_upw (g : IG) (i : Nat) (f f' : Nat → Int32) : upw (upw g i f) i f' = upw g i f' := by
  funext a b
  unfold upw
  by_cases ha : a = i
  · rw [if_pos ha, if_pos ha]
  · rw [if_neg ha, if_neg ha, if_neg ha]
theorem upw2_up (g : IG) {a b : Nat} (L f : Nat → Int32) (k : Nat) (v : Int32) (h : a ≠ b) : up2 (upw (upw g a L) b f) a k v = upw (upw g a (upd L k v)) b f := by
  funext i j
  unfold up2 upw upd
  by_cases ha : i = a
  · subst ha
    rw [if_pos rfl, if_neg h, if_pos rfl, if_neg h, if_pos rfl]
  · rw [if_neg ha, if_neg ha, if_neg ha]
theorem upw_rs (g : IG) (i : Nat) (f : Nat → Int32) : upw g i f i = f := funext fun _ => if_pos rfl
theorem upw_rn (g : IG) {i j : Nat} (f : Nat → Int32) (h : j ≠ i) : upw g i f j = g j := funext fun _ => if_neg h
theorem upw_4 (g : IG) {a b : Nat} (L f L' f' : Nat → Int32) (h : a ≠ b) : upw (upw (upw (upw g a L) b f) a L') b f' = upw (upw g a L') b f' := by
  funext i j
  unfold upw
  by_cases ha : i = a
  · subst ha
    rw [if_neg h, if_pos rfl, if_neg h, if_pos rfl]
  · by_cases hb : i = b
    · rw [if_pos hb, if_pos hb]
    · rw [if_neg hb, if_neg ha, if_neg hb, if_neg ha, if_neg hb, if_neg ha]
theorem go_tabD (cx : Cx p s m args meth c E n cc nL own ret) {dflt lo hi : Int} {offs : Array Int} {len : Nat} {x : Int32} (tgt : Nat) (hdg : decode cc pc = .ok (.tableswitch dflt lo hi offs, len)) (h : (x.toInt < lo ∨ hi < x.toInt) ∨ (¬ x.toInt < lo ∧ ¬ hi < x.toInt ∧ offs[(x.toInt - lo).toNat]? = some dflt)) (ht : (pc : Int) + dflt = (tgt : Int))
    (kk : Go p l e R s m args below meth c E n nL Z g r z tgt lv st) : Go p l e R s m args below meth c E n nL Z g r z pc lv (.int x :: st) := by
  rcases h with h | ⟨h1, h2, h3⟩
  · exact go_tabOut cx tgt hdg h ht kk
  · exact go_tabIn cx tgt hdg h1 h2 h3 ht kk
end GOK
