/-! THE WALK over the world: Go at a pc, with locals, stack and the world's functions; rows as the kit's, but shorter -/
/-- what a method knows while it runs -/
def Cx (p : Program) (s : State) (m : MethodId) (args : Array Value) (meth : Method) (c : Code) (E : Ev) (n : Nat) (cc : ByteArray) (nL : Nat) (own : String) (ret : Option FieldType) : Prop :=
  CallFix p m c cc nL s args lwg own ∧ meth.sig.returnType = ret ∧ meth.locks = false ∧ Kn E s ∧ Xt E (Ad E n) s s.heap
def Go (p : Program) (l : Launch) (e : Env) (R : Room) (s : State) (m : MethodId) (args : Array Value) (below : List Frame) (meth : Method) (c : Code) (E : Ev) (n nL : Nat) (Z : ZT) (g : IG) (r : RG) (z : Int64) (pc : Nat) (lv : LV) (st : List Value) : Prop :=
  ∀ (H : Heap) (locs : List Loc) (ls : Array Slot), Wd E (Ad E n) n g r z H → va_S (Ad E n) s.heap H locs → lv_has ls nL lv → W p l e R s m args below meth c H locs 0 0 (MQ below (Qz E n Z) args s 0 0 (Ad E n)) (F0 m pc ls st)
def FL (own : String) (idx ci k : Nat) : Prop := ∃ (C : String) (T : u_T) (N : Nat) (ty : Nat → FieldType), clx[ci]? = some (C, T, N) ∧ k < N ∧ Cond.fieldLink own idx C (T k).2.1 (T k).2.2.1 ∈ lwg ∧ (T k).1 = C ∧ (∀ w ∈ u_ws C T N, w ∈ lwg) ∧ (∀ k, k < N → parseFieldDescriptor (T k).2.2.1 = some (ty k)) ∧ (∀ a, a < N → ∀ b, b < N → a ≠ b → (T a).2.1 ≠ (T b).2.1)
def fin (ci k : Nat) : Bool := match clx[ci]? with
  | some q => (q.2.1 k).2.2.2
  | none => true
def dsc (ci k : Nat) : String := match clx[ci]? with
  | some q => (q.2.1 k).2.2.1
  | none => ""
theorem pfd_I : parseFieldDescriptor "I" = some .int := by decide +kernel
theorem pfd_J : parseFieldDescriptor "J" = some .long := by decide +kernel
theorem pfd_Z : parseFieldDescriptor "Z" = some .boolean := by decide +kernel
theorem clx_N : ∀ i ci N, kd i = (ci, N) → ci < 7 → (clx[ci]?).map (·.2.2) = some N := by
  have h : ∀ i, i < 88 → (kd i).1 < 7 → (clx[(kd i).1]?).map (·.2.2) = some (kd i).2 := by decide +kernel
  have hl : kdl.length = 88 := by decide +kernel
  intro i ci N hk hc
  by_cases hi : i < 88
  · have := h i hi (by rw [hk]; exact hc)
    rw [hk] at this
    exact this
  · have e : kd i = (99, 0) := by
      unfold kd
      rw [List.getD_eq_getElem?_getD, List.getElem?_eq_none (by omega)]
      rfl
    rw [e] at hk
    cases hk
    omega
theorem fits_of_z {v : Int32} (h : v = 0 ∨ v = 1) : fits .boolean (.int v) = true := by
  rcases h with rfl | rfl <;> rfl
theorem nar_of_z {v : Int32} (h : v = 0 ∨ v = 1) : narrow .boolean (.int v) = .int v := by
  rcases h with rfl | rfl <;> rfl
section GO
variable {p : Program} {l : Launch} {e : Env} {R : Room} {s : State} {m : MethodId} {args : Array Value} {below : List Frame} {meth : Method} {c : Code} {E : Ev} {n nL : Nat} {cc : ByteArray} {own : String} {ret : Option FieldType} {Z : ZT} {g : IG} {r : RG} {z : Int64} {pc pc' : Nat} {lv : LV} {st : List Value}
theorem lv_lk {ls : Array Slot} {i : Nat} {v : Value} (h : lv_has ls nL lv) (hl : lv.lookup i = some v) : ls[i]? = some (.val v) := by
  refine h.2.2 (i, v) ?_
  induction lv with
  | nil => cases hl
  | cons q t ih =>
    obtain ⟨a, b⟩ := q
    rw [List.lookup_cons] at hl
    by_cases ha : i == a
    · rw [ha] at hl
      cases hl
      rw [eq_of_beq ha]
      exact List.mem_cons_self
    · rw [Bool.not_eq_true] at ha
      rw [ha] at hl
      exact List.mem_cons_of_mem _ (ih ⟨h.1, h.2.1, fun q hq => h.2.2 q (List.mem_cons_of_mem _ hq)⟩ hl)
theorem go_iconst (cx : Cx p s m args meth c E n cc nL own ret) {k : Int} (v : Int32) (hdg : decode cc pc = .ok (.iconst k, 1)) (hv : Int32.ofInt k = v) (hp : pc + 1 = pc')
    (kk : Go p l e R s m args below meth c E n nL Z g r z pc' lv (.int v :: st)) : Go p l e R s m args below meth c E n nL Z g r z pc lv st := by
  subst hp
  exact fun H locs ls a b h => lv_iconst cx.1.1 cx.1.2.1 hdg hv (kk H locs ls a b h)
theorem go_bipush (cx : Cx p s m args meth c E n cc nL own ret) {k : Int} (v : Int32) (hdg : decode cc pc = .ok (.bipush k, 2)) (hv : (Int8.ofInt k).toInt32 = v) (hp : pc + 2 = pc')
    (kk : Go p l e R s m args below meth c E n nL Z g r z pc' lv (.int v :: st)) : Go p l e R s m args below meth c E n nL Z g r z pc lv st := by
  subst hp
  exact fun H locs ls a b h => lv_bipush cx.1.1 cx.1.2.1 hdg hv (kk H locs ls a b h)
theorem go_sipush (cx : Cx p s m args meth c E n cc nL own ret) {k : Int} (v : Int32) (hdg : decode cc pc = .ok (.sipush k, 3)) (hv : (Int16.ofInt k).toInt32 = v) (hp : pc + 3 = pc')
    (kk : Go p l e R s m args below meth c E n nL Z g r z pc' lv (.int v :: st)) : Go p l e R s m args below meth c E n nL Z g r z pc lv st := by
  subst hp
  exact fun H locs ls a b h => lv_sipush cx.1.1 cx.1.2.1 hdg hv (kk H locs ls a b h)
theorem go_lconst (cx : Cx p s m args meth c E n cc nL own ret) {k : Fin 2} (v : Int64) (hdg : decode cc pc = .ok (.lconst k, 1)) (hv : Int64.ofNat (k : Nat) = v) (hp : pc + 1 = pc')
    (kk : Go p l e R s m args below meth c E n nL Z g r z pc' lv (.long v :: st)) : Go p l e R s m args below meth c E n nL Z g r z pc lv st := by
  subst hp
  exact fun H locs ls a b h => lv_lconst cx.1.1 cx.1.2.1 hdg hv (kk H locs ls a b h)
theorem go_iload_n (cx : Cx p s m args meth c E n cc nL own ret) {k : Fin 4} {x : Int32} (hdg : decode cc pc = .ok (.iload_n k, 1)) (hl : lv.lookup (k : Nat) = some (.int x)) (hp : pc + 1 = pc')
    (kk : Go p l e R s m args below meth c E n nL Z g r z pc' lv (.int x :: st)) : Go p l e R s m args below meth c E n nL Z g r z pc lv st := by
  subst hp
  exact fun H locs ls a b h => lv_iload_n cx.1.1 cx.1.2.1 hdg rfl (lv_lk h hl) (kk H locs ls a b h)
theorem go_iload (cx : Cx p s m args meth c E n cc nL own ret) {k : Nat} {x : Int32} (hdg : decode cc pc = .ok (.iload k, 2)) (hl : lv.lookup k = some (.int x)) (hp : pc + 2 = pc')
    (kk : Go p l e R s m args below meth c E n nL Z g r z pc' lv (.int x :: st)) : Go p l e R s m args below meth c E n nL Z g r z pc lv st := by
  subst hp
  exact fun H locs ls a b h => lv_iload cx.1.1 cx.1.2.1 hdg (lv_lk h hl) (kk H locs ls a b h)
theorem go_lload_n (cx : Cx p s m args meth c E n cc nL own ret) {k : Fin 4} {x : Int64} (hdg : decode cc pc = .ok (.lload_n k, 1)) (hl : lv.lookup (k : Nat) = some (.long x)) (hp : pc + 1 = pc')
    (kk : Go p l e R s m args below meth c E n nL Z g r z pc' lv (.long x :: st)) : Go p l e R s m args below meth c E n nL Z g r z pc lv st := by
  subst hp
  exact fun H locs ls a b h => lv_lload_n cx.1.1 cx.1.2.1 hdg rfl (lv_lk h hl) (kk H locs ls a b h)
theorem go_lload (cx : Cx p s m args meth c E n cc nL own ret) {k : Nat} {x : Int64} (hdg : decode cc pc = .ok (.lload k, 2)) (hl : lv.lookup k = some (.long x)) (hp : pc + 2 = pc')
    (kk : Go p l e R s m args below meth c E n nL Z g r z pc' lv (.long x :: st)) : Go p l e R s m args below meth c E n nL Z g r z pc lv st := by
  subst hp
  exact fun H locs ls a b h => lv_lload cx.1.1 cx.1.2.1 hdg (lv_lk h hl) (kk H locs ls a b h)
theorem go_aload_n (cx : Cx p s m args meth c E n cc nL own ret) {k : Fin 4} {x : Nat} (hdg : decode cc pc = .ok (.aload_n k, 1)) (hl : lv.lookup (k : Nat) = some (.ref x)) (hp : pc + 1 = pc')
    (kk : Go p l e R s m args below meth c E n nL Z g r z pc' lv (.ref x :: st)) : Go p l e R s m args below meth c E n nL Z g r z pc lv st := by
  subst hp
  exact fun H locs ls a b h => lv_aload_n cx.1.1 cx.1.2.1 hdg rfl (lv_lk h hl) (kk H locs ls a b h)
theorem go_aload (cx : Cx p s m args meth c E n cc nL own ret) {k : Nat} {x : Nat} (hdg : decode cc pc = .ok (.aload k, 2)) (hl : lv.lookup k = some (.ref x)) (hp : pc + 2 = pc')
    (kk : Go p l e R s m args below meth c E n nL Z g r z pc' lv (.ref x :: st)) : Go p l e R s m args below meth c E n nL Z g r z pc lv st := by
  subst hp
  exact fun H locs ls a b h => lv_aload cx.1.1 cx.1.2.1 hdg (lv_lk h hl) (kk H locs ls a b h)
/-- the listed locals behind a store of one slot -/
def lvs (lv : LV) (i : Nat) (v : Value) : LV := (i, v) :: lv.filter (fun q => !(q.1 == i) && !(q.1 + 1 == i && q.2.category == 2))
def lvs2 (lv : LV) (i : Nat) (v : Value) : LV := (i, v) :: lv.filter (fun q => !(q.1 == i) && (!(q.1 == i + 1) && !(q.1 + 1 == i && q.2.category == 2)))
theorem go_istore_n (cx : Cx p s m args meth c E n cc nL own ret) {k : Fin 4} {x : Int32} (hdg : decode cc pc = .ok (.istore_n k, 1)) (hn : (k : Nat) < nL) (lv' : LV) (hl : lvs lv (k : Nat) (.int x) = lv') (hp : pc + 1 = pc')
    (kk : Go p l e R s m args below meth c E n nL Z g r z pc' lv' st) : Go p l e R s m args below meth c E n nL Z g r z pc lv (.int x :: st) := by
  subst hp
  exact fun H locs ls a b h => lv_istore_n cx.1.1 cx.1.2.1 hdg rfl h hn hl (fun ls' h' => kk H locs ls' a b h')
theorem go_istore (cx : Cx p s m args meth c E n cc nL own ret) {k : Nat} {x : Int32} (hdg : decode cc pc = .ok (.istore k, 2)) (hn : k < nL) (lv' : LV) (hl : lvs lv k (.int x) = lv') (hp : pc + 2 = pc')
    (kk : Go p l e R s m args below meth c E n nL Z g r z pc' lv' st) : Go p l e R s m args below meth c E n nL Z g r z pc lv (.int x :: st) := by
  subst hp
  exact fun H locs ls a b h => lv_istore cx.1.1 cx.1.2.1 hdg h hn hl (fun ls' h' => kk H locs ls' a b h')
theorem go_astore_n (cx : Cx p s m args meth c E n cc nL own ret) {k : Fin 4} {x : Nat} (hdg : decode cc pc = .ok (.astore_n k, 1)) (hn : (k : Nat) < nL) (lv' : LV) (hl : lvs lv (k : Nat) (.ref x) = lv') (hp : pc + 1 = pc')
    (kk : Go p l e R s m args below meth c E n nL Z g r z pc' lv' st) : Go p l e R s m args below meth c E n nL Z g r z pc lv (.ref x :: st) := by
  subst hp
  exact fun H locs ls a b h => lv_astore_n cx.1.1 cx.1.2.1 hdg rfl h hn hl (fun ls' h' => kk H locs ls' a b h')
theorem go_astore (cx : Cx p s m args meth c E n cc nL own ret) {k : Nat} {x : Nat} (hdg : decode cc pc = .ok (.astore k, 2)) (hn : k < nL) (lv' : LV) (hl : lvs lv k (.ref x) = lv') (hp : pc + 2 = pc')
    (kk : Go p l e R s m args below meth c E n nL Z g r z pc' lv' st) : Go p l e R s m args below meth c E n nL Z g r z pc lv (.ref x :: st) := by
  subst hp
  exact fun H locs ls a b h => lv_astore cx.1.1 cx.1.2.1 hdg h hn hl (fun ls' h' => kk H locs ls' a b h')
theorem go_lstore_n (cx : Cx p s m args meth c E n cc nL own ret) {k : Fin 4} {x : Int64} (hdg : decode cc pc = .ok (.lstore_n k, 1)) (hn : (k : Nat) + 1 < nL) (lv' : LV) (hl : lvs2 lv (k : Nat) (.long x) = lv') (hp : pc + 1 = pc')
    (kk : Go p l e R s m args below meth c E n nL Z g r z pc' lv' st) : Go p l e R s m args below meth c E n nL Z g r z pc lv (.long x :: st) := by
  subst hp
  exact fun H locs ls a b h => lv_lstore_n cx.1.1 cx.1.2.1 hdg rfl h hn hl (fun ls' h' => kk H locs ls' a b h')
theorem go_lstore (cx : Cx p s m args meth c E n cc nL own ret) {k : Nat} {x : Int64} (hdg : decode cc pc = .ok (.lstore k, 2)) (hn : k + 1 < nL) (lv' : LV) (hl : lvs2 lv k (.long x) = lv') (hp : pc + 2 = pc')
    (kk : Go p l e R s m args below meth c E n nL Z g r z pc' lv' st) : Go p l e R s m args below meth c E n nL Z g r z pc lv (.long x :: st) := by
  subst hp
  exact fun H locs ls a b h => lv_lstore cx.1.1 cx.1.2.1 hdg h hn hl (fun ls' h' => kk H locs ls' a b h')
theorem lk_at {i : Nat} {v : Value} (hl : lv.lookup i = some v) : ∃ q : Nat, lv[q]? = some (i, v) := by
  induction lv with
  | nil => cases hl
  | cons q t ih =>
    obtain ⟨a, b⟩ := q
    rw [List.lookup_cons] at hl
    by_cases ha : i == a
    · rw [ha] at hl
      cases hl
      exact ⟨0, by rw [eq_of_beq ha]; rfl⟩
    · rw [Bool.not_eq_true] at ha
      rw [ha] at hl
      obtain ⟨q, hq⟩ := ih hl
      exact ⟨q + 1, hq⟩
theorem go_iadd (cx : Cx p s m args meth c E n cc nL own ret) {x y : Int32} (hdg : decode cc pc = .ok (.iadd, 1)) (hp : pc + 1 = pc')
    (kk : Go p l e R s m args below meth c E n nL Z g r z pc' lv (.int (x + y) :: st)) : Go p l e R s m args below meth c E n nL Z g r z pc lv (.int y :: .int x :: st) := by
  subst hp
  exact fun H locs ls a b h => lv_iadd cx.1.1 cx.1.2.1 hdg (kk H locs ls a b h)
theorem go_isub (cx : Cx p s m args meth c E n cc nL own ret) {x y : Int32} (hdg : decode cc pc = .ok (.isub, 1)) (hp : pc + 1 = pc')
    (kk : Go p l e R s m args below meth c E n nL Z g r z pc' lv (.int (x - y) :: st)) : Go p l e R s m args below meth c E n nL Z g r z pc lv (.int y :: .int x :: st) := by
  subst hp
  exact fun H locs ls a b h => lv_isub cx.1.1 cx.1.2.1 hdg (kk H locs ls a b h)
theorem go_imul (cx : Cx p s m args meth c E n cc nL own ret) {x y : Int32} (hdg : decode cc pc = .ok (.imul, 1)) (hp : pc + 1 = pc')
    (kk : Go p l e R s m args below meth c E n nL Z g r z pc' lv (.int (x * y) :: st)) : Go p l e R s m args below meth c E n nL Z g r z pc lv (.int y :: .int x :: st) := by
  subst hp
  exact fun H locs ls a b h => lv_imul cx.1.1 cx.1.2.1 hdg (kk H locs ls a b h)
theorem go_iand (cx : Cx p s m args meth c E n cc nL own ret) {x y : Int32} (hdg : decode cc pc = .ok (.iand, 1)) (hp : pc + 1 = pc')
    (kk : Go p l e R s m args below meth c E n nL Z g r z pc' lv (.int (x &&& y) :: st)) : Go p l e R s m args below meth c E n nL Z g r z pc lv (.int y :: .int x :: st) := by
  subst hp
  exact fun H locs ls a b h => lv_iand cx.1.1 cx.1.2.1 hdg (kk H locs ls a b h)
theorem go_ior (cx : Cx p s m args meth c E n cc nL own ret) {x y : Int32} (hdg : decode cc pc = .ok (.ior, 1)) (hp : pc + 1 = pc')
    (kk : Go p l e R s m args below meth c E n nL Z g r z pc' lv (.int (x ||| y) :: st)) : Go p l e R s m args below meth c E n nL Z g r z pc lv (.int y :: .int x :: st) := by
  subst hp
  exact fun H locs ls a b h => lv_ior cx.1.1 cx.1.2.1 hdg (kk H locs ls a b h)
theorem go_ixor (cx : Cx p s m args meth c E n cc nL own ret) {x y : Int32} (hdg : decode cc pc = .ok (.ixor, 1)) (hp : pc + 1 = pc')
    (kk : Go p l e R s m args below meth c E n nL Z g r z pc' lv (.int (x ^^^ y) :: st)) : Go p l e R s m args below meth c E n nL Z g r z pc lv (.int y :: .int x :: st) := by
  subst hp
  exact fun H locs ls a b h => lv_ixor cx.1.1 cx.1.2.1 hdg (kk H locs ls a b h)
theorem go_ineg (cx : Cx p s m args meth c E n cc nL own ret) {x : Int32} (hdg : decode cc pc = .ok (.ineg, 1)) (hp : pc + 1 = pc')
    (kk : Go p l e R s m args below meth c E n nL Z g r z pc' lv (.int (-x) :: st)) : Go p l e R s m args below meth c E n nL Z g r z pc lv (.int x :: st) := by
  subst hp
  exact fun H locs ls a b h => lv_ineg cx.1.1 cx.1.2.1 hdg (kk H locs ls a b h)
theorem go_ishl (cx : Cx p s m args meth c E n cc nL own ret) {x y : Int32} (hdg : decode cc pc = .ok (.ishl, 1)) (hp : pc + 1 = pc')
    (kk : Go p l e R s m args below meth c E n nL Z g r z pc' lv (.int (x <<< (y &&& 31)) :: st)) : Go p l e R s m args below meth c E n nL Z g r z pc lv (.int y :: .int x :: st) := by
  subst hp
  exact fun H locs ls a b h => lv_ishl cx.1.1 cx.1.2.1 hdg (kk H locs ls a b h)
theorem go_iushr (cx : Cx p s m args meth c E n cc nL own ret) {x y : Int32} (hdg : decode cc pc = .ok (.iushr, 1)) (hp : pc + 1 = pc')
    (kk : Go p l e R s m args below meth c E n nL Z g r z pc' lv (.int ((x.toUInt32 >>> (y.toUInt32 &&& Int32.toUInt32 31)).toInt32) :: st)) : Go p l e R s m args below meth c E n nL Z g r z pc lv (.int y :: .int x :: st) := by
  subst hp
  exact fun H locs ls a b h => lv_iushr cx.1.1 cx.1.2.1 hdg rfl (kk H locs ls a b h)
theorem go_idiv (cx : Cx p s m args meth c E n cc nL own ret) {x y : Int32} (hne : ¬ y = 0) (hdg : decode cc pc = .ok (.idiv, 1)) (hp : pc + 1 = pc')
    (kk : Go p l e R s m args below meth c E n nL Z g r z pc' lv (.int (x / y) :: st)) : Go p l e R s m args below meth c E n nL Z g r z pc lv (.int y :: .int x :: st) := by
  subst hp
  exact fun H locs ls a b h => lv_idiv cx.1.1 cx.1.2.1 hdg hne (kk H locs ls a b h)
theorem go_irem (cx : Cx p s m args meth c E n cc nL own ret) {x y : Int32} (hne : ¬ y = 0) (hdg : decode cc pc = .ok (.irem, 1)) (hp : pc + 1 = pc')
    (kk : Go p l e R s m args below meth c E n nL Z g r z pc' lv (.int (x - x / y * y) :: st)) : Go p l e R s m args below meth c E n nL Z g r z pc lv (.int y :: .int x :: st) := by
  subst hp
  exact fun H locs ls a b h => lv_irem cx.1.1 cx.1.2.1 hdg hne (kk H locs ls a b h)
theorem go_ladd (cx : Cx p s m args meth c E n cc nL own ret) {x y : Int64} (hdg : decode cc pc = .ok (.ladd, 1)) (hp : pc + 1 = pc')
    (kk : Go p l e R s m args below meth c E n nL Z g r z pc' lv (.long (x + y) :: st)) : Go p l e R s m args below meth c E n nL Z g r z pc lv (.long y :: .long x :: st) := by
  subst hp
  exact fun H locs ls a b h => lv_ladd cx.1.1 cx.1.2.1 hdg (kk H locs ls a b h)
theorem go_lsub (cx : Cx p s m args meth c E n cc nL own ret) {x y : Int64} (hdg : decode cc pc = .ok (.lsub, 1)) (hp : pc + 1 = pc')
    (kk : Go p l e R s m args below meth c E n nL Z g r z pc' lv (.long (x - y) :: st)) : Go p l e R s m args below meth c E n nL Z g r z pc lv (.long y :: .long x :: st) := by
  subst hp
  exact fun H locs ls a b h => lv_lsub cx.1.1 cx.1.2.1 hdg (kk H locs ls a b h)
theorem go_lmul (cx : Cx p s m args meth c E n cc nL own ret) {x y : Int64} (hdg : decode cc pc = .ok (.lmul, 1)) (hp : pc + 1 = pc')
    (kk : Go p l e R s m args below meth c E n nL Z g r z pc' lv (.long (x * y) :: st)) : Go p l e R s m args below meth c E n nL Z g r z pc lv (.long y :: .long x :: st) := by
  subst hp
  exact fun H locs ls a b h => lv_lmul cx.1.1 cx.1.2.1 hdg (kk H locs ls a b h)
theorem go_ldiv (cx : Cx p s m args meth c E n cc nL own ret) {x y : Int64} (hne : ¬ y = 0) (hdg : decode cc pc = .ok (.ldiv, 1)) (hp : pc + 1 = pc')
    (kk : Go p l e R s m args below meth c E n nL Z g r z pc' lv (.long (x / y) :: st)) : Go p l e R s m args below meth c E n nL Z g r z pc lv (.long y :: .long x :: st) := by
  subst hp
  exact fun H locs ls a b h => lv_ldiv cx.1.1 cx.1.2.1 hdg hne (kk H locs ls a b h)
theorem go_lrem (cx : Cx p s m args meth c E n cc nL own ret) {x y : Int64} (hne : ¬ y = 0) (hdg : decode cc pc = .ok (.lrem, 1)) (hp : pc + 1 = pc')
    (kk : Go p l e R s m args below meth c E n nL Z g r z pc' lv (.long (x - x / y * y) :: st)) : Go p l e R s m args below meth c E n nL Z g r z pc lv (.long y :: .long x :: st) := by
  subst hp
  exact fun H locs ls a b h => lv_lrem cx.1.1 cx.1.2.1 hdg hne (kk H locs ls a b h)
theorem go_i2l (cx : Cx p s m args meth c E n cc nL own ret) {x : Int32} (hdg : decode cc pc = .ok (.i2l, 1)) (hp : pc + 1 = pc')
    (kk : Go p l e R s m args below meth c E n nL Z g r z pc' lv (.long x.toInt64 :: st)) : Go p l e R s m args below meth c E n nL Z g r z pc lv (.int x :: st) := by
  subst hp
  exact fun H locs ls a b h => lv_i2l cx.1.1 cx.1.2.1 hdg rfl (kk H locs ls a b h)
theorem go_l2i (cx : Cx p s m args meth c E n cc nL own ret) {x : Int64} (hdg : decode cc pc = .ok (.l2i, 1)) (hp : pc + 1 = pc')
    (kk : Go p l e R s m args below meth c E n nL Z g r z pc' lv (.int x.toInt32 :: st)) : Go p l e R s m args below meth c E n nL Z g r z pc lv (.long x :: st) := by
  subst hp
  exact fun H locs ls a b h => lv_l2i cx.1.1 cx.1.2.1 hdg rfl (kk H locs ls a b h)
theorem go_i2b (cx : Cx p s m args meth c E n cc nL own ret) {x : Int32} (hdg : decode cc pc = .ok (.i2b, 1)) (hp : pc + 1 = pc')
    (kk : Go p l e R s m args below meth c E n nL Z g r z pc' lv (.int x.toInt8.toInt32 :: st)) : Go p l e R s m args below meth c E n nL Z g r z pc lv (.int x :: st) := by
  subst hp
  exact fun H locs ls a b h => lv_i2b cx.1.1 cx.1.2.1 hdg rfl (kk H locs ls a b h)
theorem go_i2s (cx : Cx p s m args meth c E n cc nL own ret) {x : Int32} (hdg : decode cc pc = .ok (.i2s, 1)) (hp : pc + 1 = pc')
    (kk : Go p l e R s m args below meth c E n nL Z g r z pc' lv (.int x.toInt16.toInt32 :: st)) : Go p l e R s m args below meth c E n nL Z g r z pc lv (.int x :: st) := by
  subst hp
  exact fun H locs ls a b h => lv_i2s cx.1.1 cx.1.2.1 hdg rfl (kk H locs ls a b h)
theorem go_lcmp (cx : Cx p s m args meth c E n cc nL own ret) {x y : Int64} (hdg : decode cc pc = .ok (.lcmp, 1)) (hp : pc + 1 = pc')
    (kk : Go p l e R s m args below meth c E n nL Z g r z pc' lv (.int (lg_cmp x y) :: st)) : Go p l e R s m args below meth c E n nL Z g r z pc lv (.long y :: .long x :: st) := by
  subst hp
  exact fun H locs ls a b h => W.lcmp cx.1.1 cx.1.2.1 hdg (kk H locs ls a b h)
theorem go_dup (cx : Cx p s m args meth c E n cc nL own ret) {v : Value} (hv : v.category = 1) (hdg : decode cc pc = .ok (.dup, 1)) (hp : pc + 1 = pc')
    (kk : Go p l e R s m args below meth c E n nL Z g r z pc' lv (v :: v :: st)) : Go p l e R s m args below meth c E n nL Z g r z pc lv (v :: st) := by
  subst hp
  exact fun H locs ls a b h => lv_dup cx.1.1 cx.1.2.1 hdg hv (kk H locs ls a b h)
theorem go_pop (cx : Cx p s m args meth c E n cc nL own ret) {v : Value} (hv : v.category = 1) (hdg : decode cc pc = .ok (.pop, 1)) (hp : pc + 1 = pc')
    (kk : Go p l e R s m args below meth c E n nL Z g r z pc' lv (st)) : Go p l e R s m args below meth c E n nL Z g r z pc lv (v :: st) := by
  subst hp
  exact fun H locs ls a b h => lv_pop cx.1.1 cx.1.2.1 hdg hv (kk H locs ls a b h)
theorem go_dup2 (cx : Cx p s m args meth c E n cc nL own ret) {v w : Value} (hv : v.category = 1) (hw : w.category = 1) (hdg : decode cc pc = .ok (.dup2, 1)) (hp : pc + 1 = pc')
    (kk : Go p l e R s m args below meth c E n nL Z g r z pc' lv (v :: w :: v :: w :: st)) : Go p l e R s m args below meth c E n nL Z g r z pc lv (v :: w :: st) := by
  subst hp
  exact fun H locs ls a b h => lv_dup2_11 cx.1.1 cx.1.2.1 hdg hv hw (kk H locs ls a b h)
theorem go_dup_x2 (cx : Cx p s m args meth c E n cc nL own ret) {v w u : Value} (hv : v.category = 1) (hw : w.category = 1) (hu : u.category = 1) (hdg : decode cc pc = .ok (.dup_x2, 1)) (hp : pc + 1 = pc')
    (kk : Go p l e R s m args below meth c E n nL Z g r z pc' lv (v :: w :: u :: v :: st)) : Go p l e R s m args below meth c E n nL Z g r z pc lv (v :: w :: u :: st) := by
  subst hp
  exact fun H locs ls a b h => lv_dup_x2 cx.1.1 cx.1.2.1 hdg hv hw hu (kk H locs ls a b h)
theorem go_dup_x1 (cx : Cx p s m args meth c E n cc nL own ret) {v w : Value} (hv : v.category = 1) (hw : w.category = 1) (hdg : decode cc pc = .ok (.dup_x1, 1)) (hp : pc + 1 = pc')
    (kk : Go p l e R s m args below meth c E n nL Z g r z pc' lv (v :: w :: v :: st)) : Go p l e R s m args below meth c E n nL Z g r z pc lv (v :: w :: st) := by
  subst hp
  exact fun H locs ls a b h => lv_dup_x1 cx.1.1 cx.1.2.1 hdg hv hw (kk H locs ls a b h)
theorem go_ldc (cx : Cx p s m args meth c E n cc nL own ret) {index : Nat} (v : Int32) (hw : Cond.constant own index v ∈ lwg) (hdg : decode cc pc = .ok (.ldc index, 2)) (hp : pc + 2 = pc')
    (kk : Go p l e R s m args below meth c E n nL Z g r z pc' lv (.int v :: st)) : Go p l e R s m args below meth c E n nL Z g r z pc lv (st) := by
  subst hp
  exact fun H locs ls a b h => lv_ldc cx.1.1 cx.1.2.1 cx.1.2.2.2.1 (cx.1.2.2.2.2 _ hw) hdg (kk H locs ls a b h)
theorem go_ldcw (cx : Cx p s m args meth c E n cc nL own ret) {index : Nat} (v : Int32) (hw : Cond.constant own index v ∈ lwg) (hdg : decode cc pc = .ok (.ldc_w index, 3)) (hp : pc + 3 = pc')
    (kk : Go p l e R s m args below meth c E n nL Z g r z pc' lv (.int v :: st)) : Go p l e R s m args below meth c E n nL Z g r z pc lv (st) := by
  subst hp
  exact fun H locs ls a b h => lv_ldcw cx.1.1 cx.1.2.1 cx.1.2.2.2.1 (cx.1.2.2.2.2 _ hw) hdg (kk H locs ls a b h)
theorem go_ldc2 (cx : Cx p s m args meth c E n cc nL own ret) {index : Nat} (v : Int64) (hw : Cond.constantLong own index v ∈ lwg) (hdg : decode cc pc = .ok (.ldc2_w index, 3)) (hp : pc + 3 = pc')
    (kk : Go p l e R s m args below meth c E n nL Z g r z pc' lv (.long v :: st)) : Go p l e R s m args below meth c E n nL Z g r z pc lv (st) := by
  subst hp
  exact fun H locs ls a b h => lv_ldc2 cx.1.1 cx.1.2.1 cx.1.2.2.2.1 (cx.1.2.2.2.2 _ hw) hdg (kk H locs ls a b h)
theorem go_iinc (cx : Cx p s m args meth c E n cc nL own ret) {k : Nat} {d : Int} {x : Int32} (v : Int32) (hdg : decode cc pc = .ok (.iinc k d, 3)) (hl : lv.lookup k = some (.int x)) (hv : x + Int32.ofInt d = v) (hn : k < nL) (lv' : LV) (hl' : lvs lv k (.int v) = lv') (hp : pc + 3 = pc')
    (kk : Go p l e R s m args below meth c E n nL Z g r z pc' lv' st) : Go p l e R s m args below meth c E n nL Z g r z pc lv st := by
  subst hp
  intro H locs ls a b h
  obtain ⟨q, hq⟩ := lk_at hl
  exact lv_iinc cx.1.1 cx.1.2.1 hdg h hq hv hn hl' (fun ls' h' => kk H locs ls' a b h')
theorem go_if_eq (cx : Cx p s m args meth c E n cc nL own ret) {x : Int32} {off : Int} (tgt : Nat) (hdg : decode cc pc = .ok (.ifCond .eq off, 3)) (ht : (pc : Int) + off = (tgt : Int)) (hp : pc + 3 = pc')
    (kt : x = 0 → Go p l e R s m args below meth c E n nL Z g r z tgt lv st) (kf : ¬ x = 0 → Go p l e R s m args below meth c E n nL Z g r z pc' lv st) : Go p l e R s m args below meth c E n nL Z g r z pc lv (.int x :: st) := by
  subst hp
  exact fun H locs ls a b h => lv_if_eq cx.1.1 cx.1.2.1 hdg ht (fun q => kt q H locs ls a b h) (fun q => kf q H locs ls a b h)
theorem go_if_ne (cx : Cx p s m args meth c E n cc nL own ret) {x : Int32} {off : Int} (tgt : Nat) (hdg : decode cc pc = .ok (.ifCond .ne off, 3)) (ht : (pc : Int) + off = (tgt : Int)) (hp : pc + 3 = pc')
    (kt : ¬ x = 0 → Go p l e R s m args below meth c E n nL Z g r z tgt lv st) (kf : x = 0 → Go p l e R s m args below meth c E n nL Z g r z pc' lv st) : Go p l e R s m args below meth c E n nL Z g r z pc lv (.int x :: st) := by
  subst hp
  exact fun H locs ls a b h => lv_if_ne cx.1.1 cx.1.2.1 hdg ht (fun q => kt q H locs ls a b h) (fun q => kf q H locs ls a b h)
theorem go_if_lt (cx : Cx p s m args meth c E n cc nL own ret) {x : Int32} {off : Int} (tgt : Nat) (hdg : decode cc pc = .ok (.ifCond .lt off, 3)) (ht : (pc : Int) + off = (tgt : Int)) (hp : pc + 3 = pc')
    (kt : x < 0 → Go p l e R s m args below meth c E n nL Z g r z tgt lv st) (kf : ¬ x < 0 → Go p l e R s m args below meth c E n nL Z g r z pc' lv st) : Go p l e R s m args below meth c E n nL Z g r z pc lv (.int x :: st) := by
  subst hp
  exact fun H locs ls a b h => lv_if_lt cx.1.1 cx.1.2.1 hdg ht (fun q => kt q H locs ls a b h) (fun q => kf q H locs ls a b h)
theorem go_if_ge (cx : Cx p s m args meth c E n cc nL own ret) {x : Int32} {off : Int} (tgt : Nat) (hdg : decode cc pc = .ok (.ifCond .ge off, 3)) (ht : (pc : Int) + off = (tgt : Int)) (hp : pc + 3 = pc')
    (kt : 0 ≤ x → Go p l e R s m args below meth c E n nL Z g r z tgt lv st) (kf : ¬ 0 ≤ x → Go p l e R s m args below meth c E n nL Z g r z pc' lv st) : Go p l e R s m args below meth c E n nL Z g r z pc lv (.int x :: st) := by
  subst hp
  exact fun H locs ls a b h => lv_if_ge cx.1.1 cx.1.2.1 hdg ht (fun q => kt q H locs ls a b h) (fun q => kf q H locs ls a b h)
theorem go_if_gt (cx : Cx p s m args meth c E n cc nL own ret) {x : Int32} {off : Int} (tgt : Nat) (hdg : decode cc pc = .ok (.ifCond .gt off, 3)) (ht : (pc : Int) + off = (tgt : Int)) (hp : pc + 3 = pc')
    (kt : 0 < x → Go p l e R s m args below meth c E n nL Z g r z tgt lv st) (kf : ¬ 0 < x → Go p l e R s m args below meth c E n nL Z g r z pc' lv st) : Go p l e R s m args below meth c E n nL Z g r z pc lv (.int x :: st) := by
  subst hp
  exact fun H locs ls a b h => lv_if_gt cx.1.1 cx.1.2.1 hdg ht (fun q => kt q H locs ls a b h) (fun q => kf q H locs ls a b h)
theorem go_if_le (cx : Cx p s m args meth c E n cc nL own ret) {x : Int32} {off : Int} (tgt : Nat) (hdg : decode cc pc = .ok (.ifCond .le off, 3)) (ht : (pc : Int) + off = (tgt : Int)) (hp : pc + 3 = pc')
    (kt : x ≤ 0 → Go p l e R s m args below meth c E n nL Z g r z tgt lv st) (kf : ¬ x ≤ 0 → Go p l e R s m args below meth c E n nL Z g r z pc' lv st) : Go p l e R s m args below meth c E n nL Z g r z pc lv (.int x :: st) := by
  subst hp
  exact fun H locs ls a b h => lv_if_le cx.1.1 cx.1.2.1 hdg ht (fun q => kt q H locs ls a b h) (fun q => kf q H locs ls a b h)
theorem go_icmp_eq (cx : Cx p s m args meth c E n cc nL own ret) {x y : Int32} {off : Int} (tgt : Nat) (hdg : decode cc pc = .ok (.if_icmp .eq off, 3)) (ht : (pc : Int) + off = (tgt : Int)) (hp : pc + 3 = pc')
    (kt : x = y → Go p l e R s m args below meth c E n nL Z g r z tgt lv st) (kf : ¬ x = y → Go p l e R s m args below meth c E n nL Z g r z pc' lv st) : Go p l e R s m args below meth c E n nL Z g r z pc lv (.int y :: .int x :: st) := by
  subst hp
  exact fun H locs ls a b h => lv_icmp_eq cx.1.1 cx.1.2.1 hdg ht (fun q => kt q H locs ls a b h) (fun q => kf q H locs ls a b h)
theorem go_icmp_ne (cx : Cx p s m args meth c E n cc nL own ret) {x y : Int32} {off : Int} (tgt : Nat) (hdg : decode cc pc = .ok (.if_icmp .ne off, 3)) (ht : (pc : Int) + off = (tgt : Int)) (hp : pc + 3 = pc')
    (kt : ¬ x = y → Go p l e R s m args below meth c E n nL Z g r z tgt lv st) (kf : x = y → Go p l e R s m args below meth c E n nL Z g r z pc' lv st) : Go p l e R s m args below meth c E n nL Z g r z pc lv (.int y :: .int x :: st) := by
  subst hp
  exact fun H locs ls a b h => lv_icmp_ne cx.1.1 cx.1.2.1 hdg ht (fun q => kt q H locs ls a b h) (fun q => kf q H locs ls a b h)
theorem go_icmp_lt (cx : Cx p s m args meth c E n cc nL own ret) {x y : Int32} {off : Int} (tgt : Nat) (hdg : decode cc pc = .ok (.if_icmp .lt off, 3)) (ht : (pc : Int) + off = (tgt : Int)) (hp : pc + 3 = pc')
    (kt : x < y → Go p l e R s m args below meth c E n nL Z g r z tgt lv st) (kf : ¬ x < y → Go p l e R s m args below meth c E n nL Z g r z pc' lv st) : Go p l e R s m args below meth c E n nL Z g r z pc lv (.int y :: .int x :: st) := by
  subst hp
  exact fun H locs ls a b h => lv_icmp_lt cx.1.1 cx.1.2.1 hdg ht (fun q => kt q H locs ls a b h) (fun q => kf q H locs ls a b h)
theorem go_icmp_ge (cx : Cx p s m args meth c E n cc nL own ret) {x y : Int32} {off : Int} (tgt : Nat) (hdg : decode cc pc = .ok (.if_icmp .ge off, 3)) (ht : (pc : Int) + off = (tgt : Int)) (hp : pc + 3 = pc')
    (kt : y ≤ x → Go p l e R s m args below meth c E n nL Z g r z tgt lv st) (kf : ¬ y ≤ x → Go p l e R s m args below meth c E n nL Z g r z pc' lv st) : Go p l e R s m args below meth c E n nL Z g r z pc lv (.int y :: .int x :: st) := by
  subst hp
  exact fun H locs ls a b h => lv_icmp_ge cx.1.1 cx.1.2.1 hdg ht (fun q => kt q H locs ls a b h) (fun q => kf q H locs ls a b h)
theorem go_icmp_gt (cx : Cx p s m args meth c E n cc nL own ret) {x y : Int32} {off : Int} (tgt : Nat) (hdg : decode cc pc = .ok (.if_icmp .gt off, 3)) (ht : (pc : Int) + off = (tgt : Int)) (hp : pc + 3 = pc')
    (kt : y < x → Go p l e R s m args below meth c E n nL Z g r z tgt lv st) (kf : ¬ y < x → Go p l e R s m args below meth c E n nL Z g r z pc' lv st) : Go p l e R s m args below meth c E n nL Z g r z pc lv (.int y :: .int x :: st) := by
  subst hp
  exact fun H locs ls a b h => lv_icmp_gt cx.1.1 cx.1.2.1 hdg ht (fun q => kt q H locs ls a b h) (fun q => kf q H locs ls a b h)
theorem go_icmp_le (cx : Cx p s m args meth c E n cc nL own ret) {x y : Int32} {off : Int} (tgt : Nat) (hdg : decode cc pc = .ok (.if_icmp .le off, 3)) (ht : (pc : Int) + off = (tgt : Int)) (hp : pc + 3 = pc')
    (kt : x ≤ y → Go p l e R s m args below meth c E n nL Z g r z tgt lv st) (kf : ¬ x ≤ y → Go p l e R s m args below meth c E n nL Z g r z pc' lv st) : Go p l e R s m args below meth c E n nL Z g r z pc lv (.int y :: .int x :: st) := by
  subst hp
  exact fun H locs ls a b h => lv_icmp_le cx.1.1 cx.1.2.1 hdg ht (fun q => kt q H locs ls a b h) (fun q => kf q H locs ls a b h)
theorem go_goto (cx : Cx p s m args meth c E n cc nL own ret) {off : Int} (tgt : Nat) (hdg : decode cc pc = .ok (.goto off, 3)) (ht : (pc : Int) + off = (tgt : Int))
    (kk : Go p l e R s m args below meth c E n nL Z g r z tgt lv st) : Go p l e R s m args below meth c E n nL Z g r z pc lv st := fun H locs ls a b h => lv_goto cx.1.1 cx.1.2.1 hdg ht (kk H locs ls a b h)
theorem go_tabIn (cx : Cx p s m args meth c E n cc nL own ret) {dflt lo hi : Int} {offs : Array Int} {len : Nat} {x : Int32} {off : Int} (tgt : Nat) (hdg : decode cc pc = .ok (.tableswitch dflt lo hi offs, len)) (h1 : ¬ x.toInt < lo) (h2 : ¬ hi < x.toInt) (ho : offs[(x.toInt - lo).toNat]? = some off) (ht : (pc : Int) + off = (tgt : Int))
    (kk : Go p l e R s m args below meth c E n nL Z g r z tgt lv st) : Go p l e R s m args below meth c E n nL Z g r z pc lv (.int x :: st) := fun H locs ls a b h => lv_tableIn cx.1.1 cx.1.2.1 hdg h1 h2 ho ht (kk H locs ls a b h)
theorem go_tabOut (cx : Cx p s m args meth c E n cc nL own ret) {dflt lo hi : Int} {offs : Array Int} {len : Nat} {x : Int32} (tgt : Nat) (hdg : decode cc pc = .ok (.tableswitch dflt lo hi offs, len)) (h : x.toInt < lo ∨ hi < x.toInt) (ht : (pc : Int) + dflt = (tgt : Int))
    (kk : Go p l e R s m args below meth c E n nL Z g r z tgt lv st) : Go p l e R s m args below meth c E n nL Z g r z pc lv (.int x :: st) := fun H locs ls a b h9 => lv_tableOut cx.1.1 cx.1.2.1 hdg h ht (kk H locs ls a b h9)
theorem go_look (cx : Cx p s m args meth c E n cc nL own ret) {dflt : Int} {ps : Array (Int × Int)} {len : Nat} {x : Int32} {off : Int} (tgt : Nat) (hdg : decode cc pc = .ok (.lookupswitch dflt ps, len)) (hq : (ps.toList.zip (ps.toList.drop 1)).all (fun (a, next) => a.1 < next.1) = true) (ho : Op.lookupswitch.offset ps.toList dflt x.toInt = off) (ht : (pc : Int) + off = (tgt : Int))
    (kk : Go p l e R s m args below meth c E n nL Z g r z tgt lv st) : Go p l e R s m args below meth c E n nL Z g r z pc lv (.int x :: st) := fun H locs ls a b h9 => lv_lookup cx.1.1 cx.1.2.1 hdg hq ho ht (kk H locs ls a b h9)
theorem go_name {x : Int32} (kk : ∀ y : Int32, y = x → Go p l e R s m args below meth c E n nL Z g r z pc lv (.int y :: st)) : Go p l e R s m args below meth c E n nL Z g r z pc lv (.int x :: st) := kk x rfl
theorem go_val {v w : Value} (h : v = w) (kk : Go p l e R s m args below meth c E n nL Z g r z pc lv (w :: st)) : Go p l e R s m args below meth c E n nL Z g r z pc lv (v :: st) := h ▸ kk
theorem go_g {g' : IG} (h : g = g') (kk : Go p l e R s m args below meth c E n nL Z g' r z pc lv st) : Go p l e R s m args below meth c E n nL Z g r z pc lv st := h ▸ kk
theorem go_geti (cx : Cx p s m args meth c E n cc nL own ret) {idx ci k i N : Nat} (v : Int32) (hf : FL own idx ci k) (hdg : decode cc pc = .ok (.getfield idx, 3)) (hk : kd i = (ci, N)) (hi : i < n) (hc : ci < 7) (ht : ftc ci k = 0) (hv : g i k = v) (hp : pc + 3 = pc')
    (kk : Go p l e R s m args below meth c E n nL Z g r z pc' lv (.int v :: st)) : Go p l e R s m args below meth c E n nL Z g r z pc lv (.ref (E.2.1 i) :: st) := by
  subst hp
  intro H locs ls a b h
  obtain ⟨C, T, N', ty, q1, q2, q3, q4, q5, q6, q7⟩ := hf
  obtain ⟨⟨hx, hb, hml, hown, hts⟩, hr, hlk, hK, hX⟩ := cx
  have hN : N' = N := by
    have := clx_N i ci N hk hc
    rw [q1] at this
    exact Option.some.inj this
  subst hN
  exact va_get (ci := ci) (C := C) (T := T) (N := N') (k := k) (v := .int v) hx hb hts q5 hown hK.1 a.1 i (by rw [wsl_at hi, cnt_o hk hc]) q1 q2 (hts _ q3) (fun x hx => by rw [q4] at hx; exact hx) (by rw [fls_at q2, ht, ← hv]; rfl) hdg (kk H locs ls a b h)
theorem go_getr (cx : Cx p s m args meth c E n cc nL own ret) {idx ci k i N : Nat} (y : Nat) (hf : FL own idx ci k) (hdg : decode cc pc = .ok (.getfield idx, 3)) (hk : kd i = (ci, N)) (hi : i < n) (hc : ci < 7) (ht : ftc ci k = 1) (hv : r i k = some y) (hp : pc + 3 = pc')
    (kk : Go p l e R s m args below meth c E n nL Z g r z pc' lv (.ref (E.2.1 y) :: st)) : Go p l e R s m args below meth c E n nL Z g r z pc lv (.ref (E.2.1 i) :: st) := by
  subst hp
  intro H locs ls a b h
  obtain ⟨C, T, N', ty, q1, q2, q3, q4, q5, q6, q7⟩ := hf
  obtain ⟨⟨hx, hb, hml, hown, hts⟩, hr, hlk, hK, hX⟩ := cx
  have hN : N' = N := by
    have := clx_N i ci N hk hc
    rw [q1] at this
    exact Option.some.inj this
  subst hN
  exact va_get (ci := ci) (C := C) (T := T) (N := N') (k := k) (v := .ref (E.2.1 y)) hx hb hts q5 hown hK.1 a.1 i (by rw [wsl_at hi, cnt_o hk hc]) q1 q2 (hts _ q3) (fun x hx => by rw [q4] at hx; exact hx) (by rw [fls_at q2, ht]; show some (va_rf ((r i k).map E.2.1)) = _; rw [hv]; rfl) hdg (kk H locs ls a b h)
theorem go_puti (cx : Cx p s m args meth c E n cc nL own ret) {idx ci k i N : Nat} {v : Int32} (hf : FL own idx ci k) (hdg : decode cc pc = .ok (.putfield idx, 3)) (hk : kd i = (ci, N)) (hi : i < n) (hc : ci < 7) (ht : ftc ci k = 0) (hn : fin ci k = false) (hd : dsc ci k = "I") (hp : pc + 3 = pc')
    (kk : Go p l e R s m args below meth c E n nL Z (up2 g i k v) r z pc' lv st) : Go p l e R s m args below meth c E n nL Z g r z pc lv (.int v :: .ref (E.2.1 i) :: st) := by
  subst hp
  intro H locs ls a b h
  obtain ⟨C, T, N', ty, q1, q2, q3, q4, q5, q6, q7⟩ := hf
  obtain ⟨⟨hx, hb, hml, hown, hts⟩, hr, hlk, hK, hX⟩ := cx
  have hN : N' = N := by
    have := clx_N i ci N hk hc
    rw [q1] at this
    exact Option.some.inj this
  subst hN
  have hfin : (T k).2.2.2 = false := by
    unfold fin at hn
    rw [q1] at hn
    exact hn
  have hdsc : parseFieldDescriptor (T k).2.2.1 = some .int := by
    unfold dsc at hd
    rw [q1] at hd
    rw [show (T k).2.2.1 = "I" from hd]
    exact pfd_I
  refine va_put (ci := ci) (C := C) (T := T) (N := N') (k := k) (v := .int v) (ty := .int) hx hb hts q5 ty q6 q7 hown hK.1 a.1 a.2 b i (by rw [wsl_at hi, cnt_o hk hc]) q1 q2 (hts _ q3) (fun x hx => by rw [q4] at hx; exact hx) hfin hdsc rfl (rfl) (by rw [fls_len]; exact q2) hdg (fun H1 locs1 hP hD hS => ?_)
  rw [wsl_puti v hi hk hc q2 ht] at hP hD
  exact kk H1 locs1 ls ⟨hP, hD⟩ hS h
theorem go_putz (cx : Cx p s m args meth c E n cc nL own ret) {idx ci k i N : Nat} {v : Int32} (hf : FL own idx ci k) (hdg : decode cc pc = .ok (.putfield idx, 3)) (hk : kd i = (ci, N)) (hi : i < n) (hc : ci < 7) (ht : ftc ci k = 0) (hn : fin ci k = false) (hd : dsc ci k = "Z") (hz : v = 0 ∨ v = 1) (hp : pc + 3 = pc')
    (kk : Go p l e R s m args below meth c E n nL Z (up2 g i k v) r z pc' lv st) : Go p l e R s m args below meth c E n nL Z g r z pc lv (.int v :: .ref (E.2.1 i) :: st) := by
  subst hp
  intro H locs ls a b h
  obtain ⟨C, T, N', ty, q1, q2, q3, q4, q5, q6, q7⟩ := hf
  obtain ⟨⟨hx, hb, hml, hown, hts⟩, hr, hlk, hK, hX⟩ := cx
  have hN : N' = N := by
    have := clx_N i ci N hk hc
    rw [q1] at this
    exact Option.some.inj this
  subst hN
  have hfin : (T k).2.2.2 = false := by
    unfold fin at hn
    rw [q1] at hn
    exact hn
  have hdsc : parseFieldDescriptor (T k).2.2.1 = some .boolean := by
    unfold dsc at hd
    rw [q1] at hd
    rw [show (T k).2.2.1 = "Z" from hd]
    exact pfd_Z
  refine va_put (ci := ci) (C := C) (T := T) (N := N') (k := k) (v := .int v) (ty := .boolean) hx hb hts q5 ty q6 q7 hown hK.1 a.1 a.2 b i (by rw [wsl_at hi, cnt_o hk hc]) q1 q2 (hts _ q3) (fun x hx => by rw [q4] at hx; exact hx) hfin hdsc (nar_of_z hz) (fits_of_z hz) (by rw [fls_len]; exact q2) hdg (fun H1 locs1 hP hD hS => ?_)
  rw [wsl_puti v hi hk hc q2 ht] at hP hD
  exact kk H1 locs1 ls ⟨hP, hD⟩ hS h
theorem go_iald (cx : Cx p s m args meth c E n cc nL own ret) {i N : Nat} {j : Int32} (v : Int32) (hdg : decode cc pc = .ok (.iaload, 1)) (hk : kd i = (10, N)) (hi : i < n) (hj : vp_in j N) (hv : g i j.toNatClampNeg = v) (hp : pc + 1 = pc')
    (kk : Go p l e R s m args below meth c E n nL Z g r z pc' lv (.int v :: st)) : Go p l e R s m args below meth c E n nL Z g r z pc lv (.int j :: .ref (E.2.1 i) :: st) := by
  subst hp
  subst hv
  intro H locs ls a b h
  exact va_iald (f := g i) (n := N) cx.1.1 cx.1.2.1 cx.2.2.2.1.1 a.1 i 0 (by rw [wsl_at hi, cnt_i hk (by decide) (by decide)]) rfl hj hdg (kk H locs ls a b h)
theorem go_iast (cx : Cx p s m args meth c E n cc nL own ret) {i N : Nat} {j v : Int32} (hdg : decode cc pc = .ok (.iastore, 1)) (hk : kd i = (10, N)) (hi : i < n) (hj : vp_in j N) (hp : pc + 1 = pc')
    (kk : Go p l e R s m args below meth c E n nL Z (up2 g i j.toNatClampNeg v) r z pc' lv st) : Go p l e R s m args below meth c E n nL Z g r z pc lv (.int v :: .int j :: .ref (E.2.1 i) :: st) := by
  subst hp
  intro H locs ls a b h
  refine va_iast (f := g i) (n := N) cx.1.1 cx.1.2.1 cx.2.2.2.1.1 a.1 a.2 b i 0 (by rw [wsl_at hi, cnt_i hk (by decide) (by decide)]) rfl hj hdg (fun H1 locs1 hP hD hS => ?_)
  rw [wsl_asti v hi hk (by decide) (by decide)] at hP hD
  exact kk H1 locs1 ls ⟨hP, hD⟩ hS h
theorem go_aald (cx : Cx p s m args meth c E n cc nL own ret) {i N ci : Nat} {j : Int32} (y : Nat) (hdg : decode cc pc = .ok (.aaload, 1)) (hk : kd i = (ci, N)) (hc : 12 ≤ ci) (hc2 : ci < 15) (hi : i < n) (hj : vp_in j N) (hv : r i j.toNatClampNeg = some y) (hp : pc + 1 = pc')
    (kk : Go p l e R s m args below meth c E n nL Z g r z pc' lv (.ref (E.2.1 y) :: st)) : Go p l e R s m args below meth c E n nL Z g r z pc lv (.int j :: .ref (E.2.1 i) :: st) := by
  subst hp
  intro H locs ls a b h
  have hlt : j.toNatClampNeg < N := Nat.not_le.mp fun q => hj (Or.inr q)
  have ha : (wsl E n g r z)[i]? = some (E.2.1 i, .inl (E.2.2.1 ci, N, .inr (.inr (.inr (.inr (fun k => (r i k).map E.2.1)))))) := by rw [wsl_at hi, cnt_r hk (by omega) (by omega)]
  have hK := cx.2.2.2.1.1
  obtain ⟨ty, hty, hrf⟩ : ∃ ty : FieldType, (tyx E)[ci - 10]? = some (E.2.2.1 ci, ty) ∧ ty.isReference = true := by
    rcases (show ci = 12 ∨ ci = 13 ∨ ci = 14 by omega) with rfl | rfl | rfl
    · exact ⟨_, rfl, rfl⟩
    · exact ⟨_, rfl, rfl⟩
    · exact ⟨_, rfl, rfl⟩
  exact W.aald (v := .ref (E.2.1 y)) (ty := ty) cx.1.1 cx.1.2.1 (a.1 i _ ha) ((hK.2 _ _ hty).1 N (fun k => va_rf ((r i k).map E.2.1))) hrf (fun q => by cases q) (by show ¬ (j < 0 ∨ (arrV _ _ _).slots.size ≤ _); rw [arrV_size]; exact hj) (by show (arrV _ _ _).slots[_]? = _; rw [arrV_read _ _ hlt]; show some (va_rf ((r i j.toNatClampNeg).map E.2.1)) = _; rw [hv]; rfl) rfl rfl hdg (kk H locs ls a b h)
theorem go_iret (cx : Cx p s m args meth c E n cc nL own ret) {v : Int32} (hret : ret = some .int) (hdg : decode cc pc = .ok (.ireturn, 1)) (hz : Z (some (.int v)) g r z) : Go p l e R s m args below meth c E n nL Z g r z pc lv [.int v] := by
  intro H locs ls a b h
  exact W.iret (v := v) cx.1.1 cx.1.2.1 (cx.2.1.trans hret) (fun t ht hW => ⟨⟨(some (.int v)), g, r, z, rfl, hz, by rw [ht]; exact a⟩, b.F ht⟩) b.2.2 hdg cx.2.2.1
theorem go_zret (cx : Cx p s m args meth c E n cc nL own ret) {v : Int32} (hn : v = 0 ∨ v = 1) (hret : ret = some .boolean) (hdg : decode cc pc = .ok (.ireturn, 1)) (hz : Z (some (.int v)) g r z) : Go p l e R s m args below meth c E n nL Z g r z pc lv [.int v] := by
  intro H locs ls a b h
  exact W.zret (v := v) cx.1.1 cx.1.2.1 (cx.2.1.trans hret) (nar_of_z hn) (fun t ht hW => ⟨⟨(some (.int v)), g, r, z, rfl, hz, by rw [ht]; exact a⟩, b.F ht⟩) b.2.2 hdg cx.2.2.1
theorem go_cret (cx : Cx p s m args meth c E n cc nL own ret) {v : Int32} (hn : narrow .char (.int v) = .int v) (hret : ret = some .char) (hdg : decode cc pc = .ok (.ireturn, 1)) (hz : Z (some (.int v)) g r z) : Go p l e R s m args below meth c E n nL Z g r z pc lv [.int v] := by
  intro H locs ls a b h
  exact W.zret (v := v) cx.1.1 cx.1.2.1 (cx.2.1.trans hret) hn (fun t ht hW => ⟨⟨(some (.int v)), g, r, z, rfl, hz, by rw [ht]; exact a⟩, b.F ht⟩) b.2.2 hdg cx.2.2.1
theorem go_bret (cx : Cx p s m args meth c E n cc nL own ret) {v : Int32} (hn : narrow .byte (.int v) = .int v) (hret : ret = some .byte) (hdg : decode cc pc = .ok (.ireturn, 1)) (hz : Z (some (.int v)) g r z) : Go p l e R s m args below meth c E n nL Z g r z pc lv [.int v] := by
  intro H locs ls a b h
  exact W.zret (v := v) cx.1.1 cx.1.2.1 (cx.2.1.trans hret) hn (fun t ht hW => ⟨⟨(some (.int v)), g, r, z, rfl, hz, by rw [ht]; exact a⟩, b.F ht⟩) b.2.2 hdg cx.2.2.1
theorem go_lret (cx : Cx p s m args meth c E n cc nL own ret) {v : Int64} (hret : ret = some .long) (hdg : decode cc pc = .ok (.lreturn, 1)) (hz : Z (some (.long v)) g r z) : Go p l e R s m args below meth c E n nL Z g r z pc lv [.long v] := by
  intro H locs ls a b h
  exact W.lret (v := v) cx.1.1 cx.1.2.1 (cx.2.1.trans hret) (fun t ht hW => ⟨⟨(some (.long v)), g, r, z, rfl, hz, by rw [ht]; exact a⟩, b.F ht⟩) b.2.2 hdg cx.2.2.1
theorem go_vret (cx : Cx p s m args meth c E n cc nL own ret) (hret : ret = none) (hdg : decode cc pc = .ok (.return_, 1)) (hz : Z none g r z) : Go p l e R s m args below meth c E n nL Z g r z pc lv [] := by
  intro H locs ls a b h
  exact W.vret cx.1.1 cx.1.2.1 (cx.2.1.trans hret) (fun t ht hW => ⟨⟨none, g, r, z, rfl, hz, by rw [ht]; exact a⟩, b.F ht⟩) b.2.2 hdg cx.2.2.1
theorem go_aret (cx : Cx p s m args meth c E n cc nL own ret) {v : Nat} {rt : FieldType} (hrt : (∃ n, rt = .object n) ∨ ∃ t, rt = .array t) (hret : ret = some rt) (hdg : decode cc pc = .ok (.areturn, 1)) (hz : Z (some (.ref v)) g r z) : Go p l e R s m args below meth c E n nL Z g r z pc lv [.ref v] := by
  intro H locs ls a b h
  exact W.aret (v := .ref v) (rt := rt) cx.1.1 cx.1.2.1 (cx.2.1.trans hret) hrt (Or.inr ⟨_, rfl⟩) (fun t ht hW => ⟨⟨(some (.ref v)), g, r, z, rfl, hz, by rw [ht]; exact a⟩, b.F ht⟩) b.2.2 hdg cx.2.2.1
end GO
/-- what the tables say of a method: instance, static, constructor -/
def MWv (y : MethodName) (cc : ByteArray) (nL : Nat) (ret : Option FieldType) (np : Nat) : Prop := Cond.instanceMethod y ∈ lwg ∧ Cond.selects y.cls y y ∈ lwg ∧ Cond.initialized y.cls ∈ lwg ∧ Cond.code y cc nL ret ∈ lwg ∧ (y.cls ≠ "java/lang/invoke/MethodHandle" ∧ y.cls ≠ "java/lang/invoke/VarHandle" ∧ (parseMethodDescriptor y.desc).map (fun d => d.parameters.length) = some np)
def MWs (y : MethodName) (cc : ByteArray) (nL : Nat) (ret : Option FieldType) (np : Nat) : Prop := Cond.static y ∈ lwg ∧ Cond.initialized y.cls ∈ lwg ∧ Cond.code y cc nL ret ∈ lwg ∧ (y.cls ≠ "java/lang/invoke/MethodHandle" ∧ y.cls ≠ "java/lang/invoke/VarHandle" ∧ (parseMethodDescriptor y.desc).map (fun d => d.parameters.length) = some np)
def ML (own : String) (idx : Nat) (y : MethodName) : Prop := Cond.methodLink own idx y ∈ lwg
theorem wsA_good {y : MethodName} {cc : ByteArray} {nL : Nat} {ret : Option FieldType} (h : Cond.code y cc nL ret ∈ lwg) : GoodIn lwg (wsA y cc nL ret) := by
  intro w hw
  have hm : w ∈ lwg := by
    rcases List.mem_cons.mp hw with rfl | h1
    · exact h
    · exact h1
  exact ⟨hm, good_of_word (List.mem_filter.mp hm).2⟩
theorem callB_go {R : Room} {s : State} {args : Array Value} {own : String} {idx : Nat} {y : MethodName} {bytes : ByteArray} {maxL : Nat} {ret : Option FieldType} {np d d0 : Nat} (hts : ∀ w ∈ lwg, w.before args s = true) (hini : Cond.initialized y.cls ∈ lwg) (hc : Cond.code y bytes maxL ret ∈ lwg) (hl : ML own idx y)
    (hd : y.cls ≠ "java/lang/invoke/MethodHandle" ∧ y.cls ≠ "java/lang/invoke/VarHandle" ∧ (parseMethodDescriptor y.desc).map (fun d => d.parameters.length) = some np) (hR : R = rmd d0) (hdd : d < d0) (hm : maxL ≤ 60) : CallB R s args own idx y bytes maxL ret (wsA y bytes maxL ret) (rmd d) 0 0 np := by
  refine callB_of (ws' := lwg) np hts (wsA_good hc) rfl rfl rfl (hts _ hini) (hts _ hl) hd ?_
  subst hR
  refine ⟨hdd, ?_⟩
  show 8 + (maxL + 11) + 80 * d ≤ 80 * d0
  omega
theorem Pz_blind {E : Ev} {n : Nat} {g : IG} {r : RG} {z : Int64} {av : List Value} : FrameBlind (Pz E n g r z av) := by
  intro a U g' mk h
  obtain ⟨h1, ⟨hK, hX⟩, h2, h3⟩ := h
  refine ⟨h1, ⟨hK.moved (u := U) (U := U.calling g' mk a) (Vm.Alike.refl U.vm), fun i q hq => vk_R.same (u := U) rfl (hX i q hq)⟩, ?_, h3⟩
  exact h2.moved (u := U) (U := U.calling g' mk a) (Vm.Alike.refl U.vm)
section GOC
variable {p : Program} {l : Launch} {e : Env} {R : Room} {s : State} {m : MethodId} {args : Array Value} {below : List Frame} {meth : Method} {c : Code} {E : Ev} {n nL : Nat} {cc : ByteArray} {own : String} {ret : Option FieldType} {Z : ZT} {g : IG} {r : RG} {z : Int64} {pc pc' : Nat} {lv : LV} {st : List Value}
/-- behind a call -/
theorem go_back {Z1 : ZT} {st0 : List Value} {a1 : Array Value} {H : Heap} {locs : List Loc} {ls : Array Slot} (cx : Cx p s m args meth c E n cc nL own ret) (hS : va_S (Ad E n) s.heap H locs) (hl : lv_has ls nL lv)
    (hr : va_Run p l e R s m args below meth c H locs 0 0 0 0 (F0 m pc ls st0) st (Qz E n Z1 a1) (Ad E n))
    (kk : ∀ v g1 r1 z1, Z1 v g1 r1 z1 → Go p l e R s m args below meth c E n nL Z g1 r1 z1 (pc + 3) lv (v.toList ++ st)) : W p l e R s m args below meth c H locs 0 0 (MQ below (Qz E n Z) args s 0 0 (Ad E n)) (F0 m pc ls st0) := by
  intro T hT X
  obtain ⟨v, st₀, t, T', L, h0, X', hL, e1, e2, ⟨⟨v', g1, r1, z1, hv, hZ, hW⟩, hz, hk⟩, stp⟩ := hr T hT X
  cases hv
  rw [h0] at hz hk
  obtain ⟨t2, a1, b1⟩ := kk v g1 r1 z1 hZ T'.heap (locs ++ L) ls (by rw [e1]; exact hW)
    ⟨Nat.le_trans hS.1 (by rw [e1]; exact hz), fun q h1 h2 => by rw [e1, hk q (Nat.lt_of_lt_of_le h1 hS.1) h2]; exact hS.2.1 q h1 h2, fun q hq => by
      rcases List.mem_append.mp hq with h | h
      · exact hS.2.2 q h
      · exact hL q h⟩ hl T' rfl X'
  exact ⟨t2, stp t2 a1, b1⟩
theorem go_pre {H : Heap} {locs : List Loc} (cx : Cx p s m args meth c E n cc nL own ret) (hW : Wd E (Ad E n) n g r z H) (hS : va_S (Ad E n) s.heap H locs) (av : List Value) : ∀ U : State, U.heap = H → s.WarmedH U.vm → Pz E n g r z av av.toArray U := by
  intro U hU hV
  refine ⟨rfl, cx.2.2.2.1.warm hV, ?_, by rw [hU]; exact hW⟩
  rw [hU]
  exact (cx.2.2.2.2.kept hS.2.1).moved hV.alike
theorem go_callV (cx : Cx p s m args meth c E n cc nL own ret) {y : MethodName} {bytes : ByteArray} {maxL : Nat} {rt : Option FieldType} {np d d0 idx i ci N : Nat} {As st0 : List Value} {Z1 : ZT} (hM : Ct l E n y bytes maxL rt d (.ref (E.2.1 i) :: As) g r z Z1) (hw : MWv y bytes maxL rt np) (hl : ML own idx y) (hdg : decode cc pc = .ok (.invokevirtual idx, 3))
    (hk : kd i = (ci, N)) (hc : ci < 7) (hi : i < n) (hcl : (clx[ci]?).map (·.1) = some y.cls) (hn : As.length = np) (hst : st0 = As.reverse ++ .ref (E.2.1 i) :: st) (hR : R = rmd d0) (hdd : d < d0) (hm : maxL ≤ 60) (hsz : (st.map fun v => v.category).sum ≤ 8) (hp : pc + 3 = pc')
    (kk : ∀ v g1 r1 z1, Z1 v g1 r1 z1 → Go p l e R s m args below meth c E n nL Z g1 r1 z1 pc' lv (v.toList ++ st)) : Go p l e R s m args below meth c E n nL Z g r z pc lv st0 := by
  subst hp
  intro H locs ls a b h
  have hcx := cx
  obtain ⟨⟨hx, hb, hml, hown, hts⟩, hr, hlk, hK, hX⟩ := cx
  obtain ⟨q, hq, hq1⟩ : ∃ q, clx[ci]? = some q ∧ q.1 = y.cls := by
    cases hq : clx[ci]? with
    | none => rw [hq] at hcl; cases hcl
    | some q => rw [hq] at hcl; exact ⟨q, rfl, Option.some.inj hcl⟩
  have hcw : CallW R s args own y.cls idx y bytes maxL rt (wsA y bytes maxL rt) (rmd d) 0 0 np := ⟨callB_go hts hw.2.2.1 hw.2.2.2.1 hl hw.2.2.2.2 hR hdd hm, hts _ hw.1, hts _ hw.2.1⟩
  refine go_back hcx b h (va_runV (As := As) (rest := st) (b := E.2.1 i) (C := y.cls) ⟨hx, hb, hml, hown, hts⟩ hM hcw ⟨Pz_blind, ?_, go_pre hcx a b _⟩ rfl hn h.1 hst (lv_room hsz) hdg ⟨Nat.zero_le _, Nat.zero_le _⟩) kk
  have := va_recv hK.1 a.1 hq (by rw [wsl_at hi, cnt_o hk hc])
  rw [hq1] at this
  exact this
theorem go_callS (cx : Cx p s m args meth c E n cc nL own ret) {y : MethodName} {bytes : ByteArray} {maxL : Nat} {rt : Option FieldType} {np d d0 idx : Nat} {As st0 : List Value} {Z1 : ZT} (hM : Ct l E n y bytes maxL rt d As g r z Z1) (hw : MWs y bytes maxL rt np) (hl : ML own idx y) (hdg : decode cc pc = .ok (.invokestatic idx, 3))
    (hn : As.length = np) (hst : st0 = As.reverse ++ st) (hR : R = rmd d0) (hdd : d < d0) (hm : maxL ≤ 60) (hsz : (st.map fun v => v.category).sum ≤ 8) (hp : pc + 3 = pc')
    (kk : ∀ v g1 r1 z1, Z1 v g1 r1 z1 → Go p l e R s m args below meth c E n nL Z g1 r1 z1 pc' lv (v.toList ++ st)) : Go p l e R s m args below meth c E n nL Z g r z pc lv st0 := by
  subst hp
  intro H locs ls a b h
  have hcx := cx
  obtain ⟨⟨hx, hb, hml, hown, hts⟩, hr, hlk, hK, hX⟩ := cx
  exact go_back hcx b h (va_runS (As := As) (rest := st) ⟨hx, hb, hml, hown, hts⟩ hM ⟨callB_go hts hw.2.1 hw.2.2.1 hl hw.2.2.2 hR hdd hm, hts _ hw.1⟩ ⟨Pz_blind, go_pre hcx a b _⟩ rfl hn h.1 hst (lv_room hsz) hdg ⟨Nat.zero_le _, Nat.zero_le _⟩) kk
/-- from the entry -/
theorem Ct.of {y : MethodName} {cc : ByteArray} {nL : Nat} {ret : Option FieldType} {d : Nat} {av : List Value} {lv0 : LV} (hy : plainName y.cls = true) (hlen : (lg_sl av).length ≤ nL) (hlv : lv_args 0 av = lv0)
    (body : ∀ (p : Program) (e : Env) (s : State) (m : MethodId) (below : List Frame) (meth : Method) (c : Code), Cx p s m av.toArray meth c E n cc nL y.cls ret → Go p l e (rmd d) s m av.toArray below meth c E n nL Z g r z 0 lv0 []) : Ct l E n y cc nL ret d av g r z Z := by
  refine Met.ofW (cc := cc) (maxL := nL) (ret := ret) hy rfl ?_
  intro p e s m args below meth c s₁ B hml hv
  obtain ⟨rfl, hK, hX, hW⟩ := hv
  have hts := atoms_spec (ws := wsA y cc nL ret) B.pre
  have cx : Cx p s m av.toArray meth c E n cc nL y.cls ret := ⟨⟨B.exec, B.bytes, hml, findClass_of_methodNamed B.named, fun w hw => hts w (List.mem_cons_of_mem _ hw)⟩, B.returns, B.notSynchronized, hK, hX⟩
  rw [lg_entry_eq]
  exact body p e s m below meth c cx s.heap [] _ hW va_S.rf (hlv ▸ lv_entry av hlen)
end GOC
