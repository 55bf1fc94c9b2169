theorem w_cmp : Cond.fieldLink RJ0 38 "java/lang/String" "COMPACT_STRINGS" "Z" ∈ lwg := lwg_in 124 (by decide +kernel) (by decide +kernel)
theorem w_sio : Cond.fieldLink RJ0 1053 "jdk/internal/util/Preconditions" "SIOOBE_FORMATTER" "Ljava/util/function/BiFunction;" ∈ lwg := lwg_in 140 (by decide +kernel) (by decide +kernel)
theorem w_val : Cond.fieldLink RJ0 9 "java/lang/String" "value" "[B" ∈ lwg := lwg_in 553 (by decide +kernel) (by decide +kernel)
theorem w_cod : Cond.fieldLink RJ0 15 "java/lang/String" "coder" "B" ∈ lwg := lwg_in 554 (by decide +kernel) (by decide +kernel)

def Zr (r : RG) (z : Int64) (a : Nat) (g : IG) : ZT := fun v g1 r1 z1 => v = some (.ref a) ∧ g1 = g ∧ r1 = r ∧ z1 = z
theorem Zr.mk {r : RG} {z : Int64} {a b : Nat} {g g' : IG} (h : b = a) (hg : g' = g) : Zr r z a g (some (.ref b)) g' r z := ⟨by rw [h], hg, rfl, rfl⟩
theorem go_cSr {p : Program} {l : Launch} {e : Env} {R : Room} {s : State} {m : MethodId} {args : Array Value} {below : List Frame} {meth : Method} {c : Code} {E : Ev} {n nL : Nat} {cc : ByteArray} {own : String} {ret : Option FieldType} {Z : ZT} {g : IG} {r : RG} {z : Int64} {pc pc' : Nat} {lv : LV} {st : List Value} (cx : Cx p s m args meth c E n cc nL own ret) {y : MethodName} {bytes : ByteArray} {maxL : Nat} {rt : Option FieldType} {np d d0 idx : Nat} {As st0 : List Value} {x : Nat} {g1 : IG} {r1 : RG} {z1 : Int64} (hM : Ct l E n y bytes maxL rt d As g r z (Zr r1 z1 x g1)) (hw : MWs y bytes maxL rt np) (hl : ML own idx y) (hdg : decode cc pc = .ok (.invokestatic idx, 3))
    (hn : As.length = np) (hst : st0 = As.reverse ++ st) (hR : R = rmd d0) (hdd : d < d0) (hm : maxL ≤ 60) (hsz : (st.map fun v => v.category).sum ≤ 8) (hp : pc + 3 = pc')
    (kk : Go p l e R s m args below meth c E n nL Z g1 r1 z1 pc' lv (.ref x :: st)) : Go p l e R s m args below meth c E n nL Z g r z pc lv st0 := by
  refine go_callS cx hM hw hl hdg hn hst hR hdd hm hsz hp ?_
  rintro _ _ _ _ ⟨rfl, rfl, rfl, rfl⟩
  exact kk

/-! STRINGS: what stands outside the world -/
section GOS
variable {p : Program} {l : Launch} {e : Env} {R : Room} {s : State} {m : MethodId} {args : Array Value} {below : List Frame} {meth : Method} {c : Code} {E : Ev} {n nL : Nat} {cc : ByteArray} {own : String} {ret : Option FieldType} {Z : ZT} {g : IG} {r : RG} {z : Int64} {pc pc' : Nat} {lv : LV} {st : List Value}
theorem go_ishr (cx : Cx p s m args meth c E n cc nL own ret) {x y : Int32} (w : Int32) (hdg : decode cc pc = .ok (.ishr, 1)) (hw : x >>> (y &&& 31) = w) (hp : pc + 1 = pc')
    (kk : Go p l e R s m args below meth c E n nL Z g r z pc' lv (.int w :: st)) : Go p l e R s m args below meth c E n nL Z g r z pc lv (.int y :: .int x :: st) := by
  subst hp
  subst hw
  exact fun H locs ls a b h => lv_ishr cx.1.1 cx.1.2.1 hdg (kk H locs ls a b h)
theorem go_i2c (cx : Cx p s m args meth c E n cc nL own ret) {x : Int32} (v : Int32) (hdg : decode cc pc = .ok (.i2c, 1)) (hv : (x.toUInt32 % 65536).toInt32 = v) (hp : pc + 1 = pc')
    (kk : Go p l e R s m args below meth c E n nL Z g r z pc' lv (.int v :: st)) : Go p l e R s m args below meth c E n nL Z g r z pc lv (.int x :: st) := by
  subst hp
  exact fun H locs ls a b h => lv_i2c cx.1.1 cx.1.2.1 hdg hv (kk H locs ls a b h)
theorem go_ldcs (cx : Cx p s m args meth c E n cc nL own ret) {i idx : Nat} {tx : String} (hq : owS[i]? = some (own, idx, tx)) (hdg : decode cc pc = .ok (.ldc idx, 2)) (hp : pc + 2 = pc')
    (kk : Go p l e R s m args below meth c E n nL Z g r z pc' lv (.ref (E.2.2.2.1 i) :: st)) : Go p l e R s m args below meth c E n nL Z g r z pc lv st := by
  subst hp
  exact fun H locs ls a b h => va_ldcS cx.1.1 cx.1.2.1 cx.1.2.2.2.1 (cx.2.2.2.1.2 i _ hq) hdg (kk H locs ls a b h)
theorem go_comp (cx : Cx p s m args meth c E n cc nL RJ0 ret) (hdg : decode cc pc = .ok (.getstatic 38, 3)) (hp : pc + 3 = pc')
    (kk : Go p l e R s m args below meth c E n nL Z g r z pc' lv (.int 1 :: st)) : Go p l e R s m args below meth c E n nL Z g r z pc lv st := by
  subst hp
  exact fun H locs ls a b h => va_gets cx.1.1 cx.1.2.1 cx.2.2.2.2.1 b cx.1.2.2.2.1 (cx.1.2.2.2.2 _ w_cmp) (fun _ h9 => h9) hdg (kk H locs ls a b h)
theorem go_siob (cx : Cx p s m args meth c E n cc nL RJ0 ret) (hdg : decode cc pc = .ok (.getstatic 1053, 3)) (hp : pc + 3 = pc')
    (k0 : Go p l e R s m args below meth c E n nL Z g r z pc' lv (.null :: st)) (k1 : ∀ t, Go p l e R s m args below meth c E n nL Z g r z pc' lv (.ref t :: st)) : Go p l e R s m args below meth c E n nL Z g r z pc lv st := by
  subst hp
  intro H locs ls a b h
  rcases cx.2.2.2.2.2.1 with q | ⟨t, q⟩
  · exact va_gets cx.1.1 cx.1.2.1 q b cx.1.2.2.2.1 (cx.1.2.2.2.2 _ w_sio) (fun _ h9 => h9) hdg (k0 H locs ls a b h)
  · exact va_gets cx.1.1 cx.1.2.1 q b cx.1.2.2.2.1 (cx.1.2.2.2.2 _ w_sio) (fun _ h9 => h9) hdg (k1 t H locs ls a b h)
theorem go_sval (cx : Cx p s m args meth c E n cc nL RJ0 ret) {i : Nat} (hi : i < 13) (hdg : decode cc pc = .ok (.getfield 9, 3)) (hp : pc + 3 = pc')
    (kk : Go p l e R s m args below meth c E n nL Z g r z pc' lv (.ref (E.2.2.2.2.1 i) :: st)) : Go p l e R s m args below meth c E n nL Z g r z pc lv (.ref (E.2.2.2.1 i) :: st) := by
  subst hp
  exact fun H locs ls a b h => vk_getf cx.1.1 cx.1.2.1 (cx.2.2.2.2.2.2.2.2.1 i hi).2.2.1 b cx.1.2.2.2.1 (cx.1.2.2.2.2 _ w_val) (fun _ h9 => h9) hdg (kk H locs ls a b h)
theorem go_scod (cx : Cx p s m args meth c E n cc nL RJ0 ret) {i : Nat} (hi : i < 13) (hdg : decode cc pc = .ok (.getfield 15, 3)) (hp : pc + 3 = pc')
    (kk : Go p l e R s m args below meth c E n nL Z g r z pc' lv (.int 0 :: st)) : Go p l e R s m args below meth c E n nL Z g r z pc lv (.ref (E.2.2.2.1 i) :: st) := by
  subst hp
  exact fun H locs ls a b h => vk_getf cx.1.1 cx.1.2.1 (cx.2.2.2.2.2.2.2.2.1 i hi).2.1 b cx.1.2.2.2.1 (cx.1.2.2.2.2 _ w_cod) (fun _ h9 => h9) hdg (kk H locs ls a b h)
theorem go_slen (cx : Cx p s m args meth c E n cc nL own ret) {i : Nat} (hi : i < 13) (v : Int32) (hdg : decode cc pc = .ok (.arraylength, 1)) (hv : nI (lnS.getD i 0) = v) (hp : pc + 1 = pc')
    (kk : Go p l e R s m args below meth c E n nL Z g r z pc' lv (.int v :: st)) : Go p l e R s m args below meth c E n nL Z g r z pc lv (.ref (E.2.2.2.2.1 i) :: st) := by
  subst hp
  exact fun H locs ls a b h => va_tlen cx.1.1 cx.1.2.1 (cx.2.2.2.2.2.2.2.2.1 i hi).2.2.2 b hv hdg (kk H locs ls a b h)
theorem go_sbal (cx : Cx p s m args meth c E n cc nL own ret) {i : Nat} (hi : i < 13) {j : Int32} (v : Int32) (hdg : decode cc pc = .ok (.baload, 1)) (hj : vp_in j (lnS.getD i 0)) (hv : (byS.getD i []).getD j.toNatClampNeg 0 = v) (hp : pc + 1 = pc')
    (kk : Go p l e R s m args below meth c E n nL Z g r z pc' lv (.int v :: st)) : Go p l e R s m args below meth c E n nL Z g r z pc lv (.int j :: .ref (E.2.2.2.2.1 i) :: st) := by
  subst hp
  exact fun H locs ls a b h => va_tb cx.1.1 cx.1.2.1 (cx.2.2.2.2.2.2.2.2.1 i hi).2.2.2 b hj (v := .int v) (congrArg Value.int hv) hdg (kk H locs ls a b h)
theorem go_callVs (cx : Cx p s m args meth c E n cc nL own ret) {y : MethodName} {bytes : ByteArray} {maxL : Nat} {rt : Option FieldType} {np d d0 idx i : Nat} {As st0 : List Value} {x : Int32} {g1 : IG} {r1 : RG} {z1 : Int64} (hM : Ct l E n y bytes maxL rt d (.ref (E.2.2.2.1 i) :: As) g r z (Zi r1 z1 x g1)) (hw : MWv y bytes maxL rt np) (hl : ML own idx y) (hdg : decode cc pc = .ok (.invokevirtual idx, 3))
    (hi : i < 13) (hcl : y.cls = "java/lang/String") (hn : As.length = np) (hst : st0 = As.reverse ++ .ref (E.2.2.2.1 i) :: st) (hR : R = rmd d0) (hdd : d < d0) (hm : maxL ≤ 60) (hsz : (st.map fun v => v.category).sum ≤ 8) (hp : pc + 3 = pc')
    (kk : Go p l e R s m args below meth c E n nL Z g1 r1 z1 pc' lv (.int x :: st)) : Go p l e R s m args below meth c E n nL Z g r z pc lv st0 := by
  subst hp
  intro H locs ls a b h
  have hcx := cx
  obtain ⟨⟨hx, hb, hml, hown, hts⟩, hr, hlk, hK, hX⟩ := cx
  have hcw : CallW R s args own y.cls idx y bytes maxL rt (wsA y bytes maxL rt) (rmd d) 0 0 np := ⟨callB_go hts hw.2.2.1 hw.2.2.2.1 hl hw.2.2.2.2 hR hdd hm, hts _ hw.1, hts _ hw.2.1⟩
  refine go_back hcx b h (va_runV (As := As) (rest := st) (b := E.2.2.2.1 i) (C := y.cls) ⟨hx, hb, hml, hown, hts⟩ hM hcw ⟨Pz_blind, ?_, go_pre hcx a b _⟩ rfl hn h.1 hst (lv_room hsz) hdg ⟨Nat.zero_le _, Nat.zero_le _⟩) (fun v g1' r1' z1' hZ => ?_)
  · rw [hcl]
    exact vk_recv hX.2.2.2.2 hi b
  · obtain ⟨rfl, rfl, rfl, rfl⟩ := hZ
    exact kk
end GOS
theorem str_ok : ∀ i, i < 13 → (lnS.getD i 0 ≤ 37 ∧ ∀ j, j < lnS.getD i 0 → ((((byS.getD i []).getD j 0) &&& 255).toUInt32 % 65536).toInt32 = (byS.getD i []).getD j 0 ∧ narrow .char (.int ((byS.getD i []).getD j 0)) = .int ((byS.getD i []).getD j 0)) := by
  intro i hi
  have h1 : ∀ i, i < 13 → lnS.getD i 0 ≤ 37 := by decide +kernel
  have h2 : ∀ i, i < 13 → ∀ j, j < 37 → ((((byS.getD i []).getD j 0) &&& 255).toUInt32 % 65536).toInt32 = (byS.getD i []).getD j 0 := by decide +kernel
  have h3 : ∀ i, i < 13 → ∀ j, j < 37 → narrow .char (.int ((byS.getD i []).getD j 0)) = .int ((byS.getD i []).getD j 0) := by decide +kernel
  exact ⟨h1 i hi, fun j hj => ⟨h2 i hi j (Nat.lt_of_lt_of_le hj (h1 i hi)), h3 i hi j (Nat.lt_of_lt_of_le hj (h1 i hi))⟩⟩
theorem shr_0 (x : Int32) : x >>> ((0 : Int32) &&& 31) = x := by
  apply Int32.toInt_inj.mp
  rw [show ((0 : Int32) &&& 31) = 0 by decide]
  simp

set_option maxHeartbeats 4000000 in
set_option maxRecDepth 20000 in
theorem c_J0_coder (l : Launch) (E : Ev) {n : Nat} {g : IG} {r : RG} {z : Int64} {i : Nat} (hi : i < 13) : Ct l E n yJ0_coder_7d493 cJ0_coder_7d493 1 (some .byte) 1 [.ref (E.2.2.2.1 i)] g r z (Zi r z 0 g) := by
  refine Ct.of (lv0 := [(0, .ref (E.2.2.2.1 i))]) (by decide) (Nat.le_of_ble_eq_true rfl) rfl ?_
  intro p e s m below meth c cx
  refine go_comp (pc' := 3) cx dJ0_coder_7d493_0 rfl ?_
  refine go_if_eq (pc' := 6) cx 13 dJ0_coder_7d493_3 rfl rfl (fun hh => absurd hh (by decide)) (fun _ => ?_)
  refine go_aload_n (pc' := 7) cx dJ0_coder_7d493_6 rfl rfl ?_
  refine go_scod (pc' := 10) cx hi dJ0_coder_7d493_7 rfl ?_
  refine go_goto cx 14 dJ0_coder_7d493_10 rfl ?_
  refine go_bret cx rfl rfl dJ0_coder_7d493_14 ?_
  exact Zi.mk rfl rfl

set_option maxHeartbeats 4000000 in
set_option maxRecDepth 20000 in
theorem c_J0_isLatin1 (l : Launch) (E : Ev) {n : Nat} {g : IG} {r : RG} {z : Int64} {i : Nat} (hi : i < 13) : Ct l E n yJ0_isLatin1_aae02 cJ0_isLatin1_aae02 1 (some .boolean) 1 [.ref (E.2.2.2.1 i)] g r z (Zi r z 1 g) := by
  refine Ct.of (lv0 := [(0, .ref (E.2.2.2.1 i))]) (by decide) (Nat.le_of_ble_eq_true rfl) rfl ?_
  intro p e s m below meth c cx
  refine go_comp (pc' := 3) cx dJ0_isLatin1_aae02_0 rfl ?_
  refine go_if_eq (pc' := 6) cx 17 dJ0_isLatin1_aae02_3 rfl rfl (fun hh => absurd hh (by decide)) (fun _ => ?_)
  refine go_aload_n (pc' := 7) cx dJ0_isLatin1_aae02_6 rfl rfl ?_
  refine go_scod (pc' := 10) cx hi dJ0_isLatin1_aae02_7 rfl ?_
  refine go_if_ne (pc' := 13) cx 17 dJ0_isLatin1_aae02_10 rfl rfl (fun hh => absurd hh (by decide)) (fun _ => ?_)
  refine go_iconst (pc' := 14) cx 1 dJ0_isLatin1_aae02_13 rfl rfl ?_
  refine go_goto cx 18 dJ0_isLatin1_aae02_14 rfl ?_
  refine go_zret cx (Or.inr rfl) rfl dJ0_isLatin1_aae02_18 ?_
  exact Zi.mk rfl rfl

set_option maxHeartbeats 4000000 in
set_option maxRecDepth 20000 in
theorem c_J0_length (l : Launch) (E : Ev) {n : Nat} {g : IG} {r : RG} {z : Int64} {i : Nat} (hi : i < 13) : Ct l E n yJ0_length_8abf5 cJ0_length_8abf5 1 (some .int) 2 [.ref (E.2.2.2.1 i)] g r z (Zi r z (nI (lnS.getD i 0)) g) := by
  refine Ct.of (lv0 := [(0, .ref (E.2.2.2.1 i))]) (by decide) (Nat.le_of_ble_eq_true rfl) rfl ?_
  intro p e s m below meth c cx
  refine go_aload_n (pc' := 1) cx dJ0_length_8abf5_0 rfl rfl ?_
  refine go_sval (pc' := 4) cx hi dJ0_length_8abf5_1 rfl ?_
  refine go_slen (pc' := 5) cx hi (nI (lnS.getD i 0)) dJ0_length_8abf5_4 rfl rfl ?_
  refine go_aload_n (pc' := 6) cx dJ0_length_8abf5_5 rfl rfl ?_
  refine go_callVs (pc' := 9) cx (c_J0_coder l E (g := g) hi) mJ0_coder_7d493 lJ0_335 dJ0_length_8abf5_6 hi rfl rfl rfl rfl (ltn rfl) (Nat.le_of_ble_eq_true rfl) (Nat.le_of_ble_eq_true rfl) rfl ?_
  refine go_ishr (pc' := 10) cx (nI (lnS.getD i 0)) dJ0_length_8abf5_9 (shr_0 _) rfl ?_
  refine go_iret cx rfl dJ0_length_8abf5_10 ?_
  exact Zi.mk rfl rfl

set_option maxHeartbeats 4000000 in
set_option maxRecDepth 20000 in
theorem c_J3_checkIndex_n (l : Launch) (E : Ev) {n : Nat} {g : IG} {r : RG} {z : Int64} {j N : Nat} (hj : j < N) (hN : N < 2 ^ 31) : Ct l E n yJ3_checkIndex_8e157 cJ3_checkIndex_8e157 3 (some .int) 1 [.int (nI j), .int (nI N), .null] g r z (Zi r z (nI j) g) := by
  refine Ct.of (lv0 := [(0, .int (nI j)), (1, .int (nI N)), (2, .null)]) (by decide) (Nat.le_of_ble_eq_true rfl) rfl ?_
  intro p e s m below meth c cx
  refine go_iload_n (pc' := 1) cx dJ3_checkIndex_8e157_0 rfl rfl ?_
  refine go_if_lt (pc' := 4) cx 9 dJ3_checkIndex_8e157_1 rfl rfl (fun hh => absurd hh (nI_pos (by omega))) (fun _ => ?_)
  refine go_iload_n (pc' := 5) cx dJ3_checkIndex_8e157_4 rfl rfl ?_
  refine go_iload_n (pc' := 6) cx dJ3_checkIndex_8e157_5 rfl rfl ?_
  refine go_icmp_lt (pc' := 9) cx 16 dJ3_checkIndex_8e157_6 rfl rfl (fun _ => ?_) (fun hh => absurd ((nI_ltI (a := j) (b := N) (by omega) (by omega)).mpr hj) hh)
  refine go_iload_n (pc' := 17) cx dJ3_checkIndex_8e157_16 rfl rfl ?_
  refine go_iret cx rfl dJ3_checkIndex_8e157_17 ?_
  exact Zi.mk rfl rfl

set_option maxHeartbeats 4000000 in
set_option maxRecDepth 20000 in
theorem c_J3_checkIndex_r (l : Launch) (E : Ev) {n : Nat} {g : IG} {r : RG} {z : Int64} {j N : Nat} (hj : j < N) (hN : N < 2 ^ 31) (t : Nat) : Ct l E n yJ3_checkIndex_8e157 cJ3_checkIndex_8e157 3 (some .int) 1 [.int (nI j), .int (nI N), .ref t] g r z (Zi r z (nI j) g) := by
  refine Ct.of (lv0 := [(0, .int (nI j)), (1, .int (nI N)), (2, .ref t)]) (by decide) (Nat.le_of_ble_eq_true rfl) rfl ?_
  intro p e s m below meth c cx
  refine go_iload_n (pc' := 1) cx dJ3_checkIndex_8e157_0 rfl rfl ?_
  refine go_if_lt (pc' := 4) cx 9 dJ3_checkIndex_8e157_1 rfl rfl (fun hh => absurd hh (nI_pos (by omega))) (fun _ => ?_)
  refine go_iload_n (pc' := 5) cx dJ3_checkIndex_8e157_4 rfl rfl ?_
  refine go_iload_n (pc' := 6) cx dJ3_checkIndex_8e157_5 rfl rfl ?_
  refine go_icmp_lt (pc' := 9) cx 16 dJ3_checkIndex_8e157_6 rfl rfl (fun _ => ?_) (fun hh => absurd ((nI_ltI (a := j) (b := N) (by omega) (by omega)).mpr hj) hh)
  refine go_iload_n (pc' := 17) cx dJ3_checkIndex_8e157_16 rfl rfl ?_
  refine go_iret cx rfl dJ3_checkIndex_8e157_17 ?_
  exact Zi.mk rfl rfl

set_option maxHeartbeats 4000000 in
set_option maxRecDepth 20000 in
theorem c_J0_checkIndex (l : Launch) (E : Ev) {n : Nat} {g : IG} {r : RG} {z : Int64} {j N : Nat} (hj : j < N) (hN : N < 2 ^ 31) : Ct l E n yJ0_checkIndex_df160 cJ0_checkIndex_df160 2 none 2 [.int (nI j), .int (nI N)] g r z (Zu r z g) := by
  refine Ct.of (lv0 := [(0, .int (nI j)), (1, .int (nI N))]) (by decide) (Nat.le_of_ble_eq_true rfl) rfl ?_
  intro p e s m below meth c cx
  refine go_iload_n (pc' := 1) cx dJ0_checkIndex_df160_0 rfl rfl ?_
  refine go_iload_n (pc' := 2) cx dJ0_checkIndex_df160_1 rfl rfl ?_
  refine go_siob (pc' := 5) cx dJ0_checkIndex_df160_2 rfl ?_ (fun t9 => ?_)
  · refine go_cSi (pc' := 8) cx (c_J3_checkIndex_n l E (g := g) hj hN) mJ3_checkIndex_8e157 lJ0_1059 dJ0_checkIndex_df160_5 rfl rfl rfl (ltn rfl) (Nat.le_of_ble_eq_true rfl) (Nat.le_of_ble_eq_true rfl) rfl ?_
    refine go_pop (pc' := 9) cx rfl dJ0_checkIndex_df160_8 rfl ?_
    refine go_vret cx rfl dJ0_checkIndex_df160_9 ?_
    exact Zu.mk rfl
  · refine go_cSi (pc' := 8) cx (c_J3_checkIndex_r l E (g := g) hj hN t9) mJ3_checkIndex_8e157 lJ0_1059 dJ0_checkIndex_df160_5 rfl rfl rfl (ltn rfl) (Nat.le_of_ble_eq_true rfl) (Nat.le_of_ble_eq_true rfl) rfl ?_
    refine go_pop (pc' := 9) cx rfl dJ0_checkIndex_df160_8 rfl ?_
    refine go_vret cx rfl dJ0_checkIndex_df160_9 ?_
    exact Zu.mk rfl

set_option maxHeartbeats 4000000 in
set_option maxRecDepth 20000 in
theorem c_J1_charAt (l : Launch) (E : Ev) {n : Nat} {g : IG} {r : RG} {z : Int64} {i j : Nat} (hi : i < 13) (hj : j < lnS.getD i 0) : Ct l E n yJ1_charAt_3b067 cJ1_charAt_3b067 2 (some .char) 3 [.ref (E.2.2.2.2.1 i), .int (nI j)] g r z (Zi r z ((byS.getD i []).getD j 0) g) := by
  refine Ct.of (lv0 := [(0, .ref (E.2.2.2.2.1 i)), (1, .int (nI j))]) (by decide) (Nat.le_of_ble_eq_true rfl) rfl ?_
  intro p e s m below meth c cx
  have hL : lnS.getD i 0 < 2 ^ 31 := by
    have := (str_ok i hi).1
    omega
  refine go_iload_n (pc' := 1) cx dJ1_charAt_3b067_0 rfl rfl ?_
  refine go_aload_n (pc' := 2) cx dJ1_charAt_3b067_1 rfl rfl ?_
  refine go_slen (pc' := 3) cx hi (nI (lnS.getD i 0)) dJ1_charAt_3b067_2 rfl rfl ?_
  refine go_cSu (pc' := 6) cx (c_J0_checkIndex l E (g := g) hj hL) mJ0_checkIndex_df160 lJ1_9 dJ1_charAt_3b067_3 rfl rfl rfl (ltn rfl) (Nat.le_of_ble_eq_true rfl) (Nat.le_of_ble_eq_true rfl) rfl ?_
  refine go_aload_n (pc' := 7) cx dJ1_charAt_3b067_6 rfl rfl ?_
  refine go_iload_n (pc' := 8) cx dJ1_charAt_3b067_7 rfl rfl ?_
  refine go_sbal (pc' := 9) cx hi ((byS.getD i []).getD j 0) dJ1_charAt_3b067_8 (vp_in_nI hj hL) (congrArg (fun q => (byS.getD i []).getD q 0) (nI_clamp (by omega))) rfl ?_
  refine go_sipush (pc' := 12) cx 255 dJ1_charAt_3b067_9 rfl rfl ?_
  refine go_iand (pc' := 13) cx dJ1_charAt_3b067_12 rfl ?_
  refine go_i2c (pc' := 14) cx ((byS.getD i []).getD j 0) dJ1_charAt_3b067_13 ((str_ok i hi).2 j hj).1 rfl ?_
  refine go_cret cx ((str_ok i hi).2 j hj).2 rfl dJ1_charAt_3b067_14 ?_
  exact Zi.mk rfl rfl

set_option maxHeartbeats 4000000 in
set_option maxRecDepth 20000 in
theorem c_J0_charAt (l : Launch) (E : Ev) {n : Nat} {g : IG} {r : RG} {z : Int64} {i j : Nat} (hi : i < 13) (hj : j < lnS.getD i 0) : Ct l E n yJ0_charAt_5068e cJ0_charAt_5068e 2 (some .char) 4 [.ref (E.2.2.2.1 i), .int (nI j)] g r z (Zi r z ((byS.getD i []).getD j 0) g) := by
  refine Ct.of (lv0 := [(0, .ref (E.2.2.2.1 i)), (1, .int (nI j))]) (by decide) (Nat.le_of_ble_eq_true rfl) rfl ?_
  intro p e s m below meth c cx
  refine go_aload_n (pc' := 1) cx dJ0_charAt_5068e_0 rfl rfl ?_
  refine go_callVs (pc' := 4) cx (c_J0_isLatin1 l E (g := g) hi) mJ0_isLatin1_aae02 lJ0_492 dJ0_charAt_5068e_1 hi rfl rfl rfl rfl (ltn rfl) (Nat.le_of_ble_eq_true rfl) (Nat.le_of_ble_eq_true rfl) rfl ?_
  refine go_if_eq (pc' := 7) cx 16 dJ0_charAt_5068e_4 rfl rfl (fun hh => absurd hh (by decide)) (fun _ => ?_)
  refine go_aload_n (pc' := 8) cx dJ0_charAt_5068e_7 rfl rfl ?_
  refine go_sval (pc' := 11) cx hi dJ0_charAt_5068e_8 rfl ?_
  refine go_iload_n (pc' := 12) cx dJ0_charAt_5068e_11 rfl rfl ?_
  refine go_cSi (pc' := 15) cx (c_J1_charAt l E (g := g) hi hj) mJ1_charAt_3b067 lJ0_495 dJ0_charAt_5068e_12 rfl rfl rfl (ltn rfl) (Nat.le_of_ble_eq_true rfl) (Nat.le_of_ble_eq_true rfl) rfl ?_
  refine go_cret cx ((str_ok i hi).2 j hj).2 rfl dJ0_charAt_5068e_15 ?_
  exact Zi.mk rfl rfl
