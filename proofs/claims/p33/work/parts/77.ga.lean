/-! THE LAW'S WALK: the world is the newest object's; A: all that was made since the start -/
def CxA (A : Nat → Prop) (p : Program) (s : State) (m : MethodId) (args : Array Value) (meth : Method) (c : Code) (E : Ev) (cc : ByteArray) (nL : Nat) (own : String) (ret : Option FieldType) : Prop :=
  CallFix p m c cc nL s args lwg own ∧ meth.sig.returnType = ret ∧ meth.locks = false ∧ Kn E s ∧ Xt E A s s.heap
def GoA (A : Nat → Prop) (p : Program) (l : Launch) (e : Env) (R : Room) (s : State) (m : MethodId) (args : Array Value) (below : List Frame) (meth : Method) (c : Code) (E : Ev) (k0 nL cells slots : Nat) (Q : State → Prop) (g : IG) (r : RG) (z : Int64) (pc : Nat) (lv : LV) (st : List Value) : Prop :=
  ∀ (H : Heap) (locs : List Loc) (ls : Array Slot), Wd E (Ad E 88) k0 g r z H → va_S A s.heap H locs → lv_has ls nL lv → W p l e R s m args below meth c H locs cells slots Q (F0 m pc ls st)
theorem Wd0 {E : Ev} {A : Nat → Prop} {g : IG} {r : RG} {z : Int64} {H : Heap} : Wd E A 0 g r z H := ⟨fun k q h => by simp [wsl] at h, fun i j p q h => by simp [wsl] at h, fun k q h => by simp [wsl] at h⟩
theorem va_X.lt {b L : Nat} {xs : Nat → Int32} {U : State} {H : Heap} (h : va_X b L xs U H) : b < H.size := by
  obtain ⟨scr, h1, -⟩ := h
  exact (Array.getElem?_eq_some_iff.mp h1).1
section GA
variable {A : Nat → Prop} {p : Program} {l : Launch} {e : Env} {R : Room} {s : State} {m : MethodId} {args : Array Value} {below : List Frame} {meth : Method} {c : Code} {E : Ev} {k0 nL cells slots : Nat} {Q : State → Prop} {cc : ByteArray} {own : String} {ret : Option FieldType} {g : IG} {r : RG} {z : Int64} {pc pc' : Nat} {lv : LV} {st : List Value}
theorem ga_iconst (cx : CxA A p s m args meth c E cc nL own ret) {k : Int} (v : Int32) (hdg : decode cc pc = .ok (.iconst k, 1)) (hv : Int32.ofInt k = v) (hp : pc + 1 = pc')
    (kk : GoA A p l e R s m args below meth c E k0 nL cells slots Q g r z pc' lv (.int v :: st)) : GoA A p l e R s m args below meth c E k0 nL cells slots Q g r z pc lv st := by
  subst hp
  exact fun H locs ls a b h => lv_iconst cx.1.1 cx.1.2.1 hdg hv (kk H locs ls a b h)
theorem ga_bipush (cx : CxA A p s m args meth c E cc nL own ret) {k : Int} (v : Int32) (hdg : decode cc pc = .ok (.bipush k, 2)) (hv : (Int8.ofInt k).toInt32 = v) (hp : pc + 2 = pc')
    (kk : GoA A p l e R s m args below meth c E k0 nL cells slots Q g r z pc' lv (.int v :: st)) : GoA A p l e R s m args below meth c E k0 nL cells slots Q g r z pc lv st := by
  subst hp
  exact fun H locs ls a b h => lv_bipush cx.1.1 cx.1.2.1 hdg hv (kk H locs ls a b h)
theorem ga_sipush (cx : CxA A p s m args meth c E cc nL own ret) {k : Int} (v : Int32) (hdg : decode cc pc = .ok (.sipush k, 3)) (hv : (Int16.ofInt k).toInt32 = v) (hp : pc + 3 = pc')
    (kk : GoA A p l e R s m args below meth c E k0 nL cells slots Q g r z pc' lv (.int v :: st)) : GoA A p l e R s m args below meth c E k0 nL cells slots Q g r z pc lv st := by
  subst hp
  exact fun H locs ls a b h => lv_sipush cx.1.1 cx.1.2.1 hdg hv (kk H locs ls a b h)
theorem ga_iload_n (cx : CxA A p s m args meth c E cc nL own ret) {k : Fin 4} {x : Int32} (hdg : decode cc pc = .ok (.iload_n k, 1)) (hl : lv.lookup (k : Nat) = some (.int x)) (hp : pc + 1 = pc')
    (kk : GoA A p l e R s m args below meth c E k0 nL cells slots Q g r z pc' lv (.int x :: st)) : GoA A p l e R s m args below meth c E k0 nL cells slots Q g r z pc lv st := by
  subst hp
  exact fun H locs ls a b h => lv_iload_n cx.1.1 cx.1.2.1 hdg rfl (lv_lk h hl) (kk H locs ls a b h)
theorem ga_iload (cx : CxA A p s m args meth c E cc nL own ret) {k : Nat} {x : Int32} (hdg : decode cc pc = .ok (.iload k, 2)) (hl : lv.lookup k = some (.int x)) (hp : pc + 2 = pc')
    (kk : GoA A p l e R s m args below meth c E k0 nL cells slots Q g r z pc' lv (.int x :: st)) : GoA A p l e R s m args below meth c E k0 nL cells slots Q g r z pc lv st := by
  subst hp
  exact fun H locs ls a b h => lv_iload cx.1.1 cx.1.2.1 hdg (lv_lk h hl) (kk H locs ls a b h)
theorem ga_aload_n (cx : CxA A p s m args meth c E cc nL own ret) {k : Fin 4} {x : Nat} (hdg : decode cc pc = .ok (.aload_n k, 1)) (hl : lv.lookup (k : Nat) = some (.ref x)) (hp : pc + 1 = pc')
    (kk : GoA A p l e R s m args below meth c E k0 nL cells slots Q g r z pc' lv (.ref x :: st)) : GoA A p l e R s m args below meth c E k0 nL cells slots Q g r z pc lv st := by
  subst hp
  exact fun H locs ls a b h => lv_aload_n cx.1.1 cx.1.2.1 hdg rfl (lv_lk h hl) (kk H locs ls a b h)
theorem ga_aload (cx : CxA A p s m args meth c E cc nL own ret) {k : Nat} {x : Nat} (hdg : decode cc pc = .ok (.aload k, 2)) (hl : lv.lookup k = some (.ref x)) (hp : pc + 2 = pc')
    (kk : GoA A p l e R s m args below meth c E k0 nL cells slots Q g r z pc' lv (.ref x :: st)) : GoA A p l e R s m args below meth c E k0 nL cells slots Q g r z pc lv st := by
  subst hp
  exact fun H locs ls a b h => lv_aload cx.1.1 cx.1.2.1 hdg (lv_lk h hl) (kk H locs ls a b h)
theorem ga_istore_n (cx : CxA A p s m args meth c E cc nL own ret) {k : Fin 4} {x : Int32} (hdg : decode cc pc = .ok (.istore_n k, 1)) (hn : (k : Nat) < nL) (lv' : LV) (hl : lvs lv (k : Nat) (.int x) = lv') (hp : pc + 1 = pc')
    (kk : GoA A p l e R s m args below meth c E k0 nL cells slots Q g r z pc' lv' st) : GoA A p l e R s m args below meth c E k0 nL cells slots Q g r z pc lv (.int x :: st) := by
  subst hp
  exact fun H locs ls a b h => lv_istore_n cx.1.1 cx.1.2.1 hdg rfl h hn hl (fun ls' h' => kk H locs ls' a b h')
theorem ga_istore (cx : CxA A p s m args meth c E cc nL own ret) {k : Nat} {x : Int32} (hdg : decode cc pc = .ok (.istore k, 2)) (hn : k < nL) (lv' : LV) (hl : lvs lv k (.int x) = lv') (hp : pc + 2 = pc')
    (kk : GoA A p l e R s m args below meth c E k0 nL cells slots Q g r z pc' lv' st) : GoA A p l e R s m args below meth c E k0 nL cells slots Q g r z pc lv (.int x :: st) := by
  subst hp
  exact fun H locs ls a b h => lv_istore cx.1.1 cx.1.2.1 hdg h hn hl (fun ls' h' => kk H locs ls' a b h')
theorem ga_astore_n (cx : CxA A p s m args meth c E cc nL own ret) {k : Fin 4} {x : Nat} (hdg : decode cc pc = .ok (.astore_n k, 1)) (hn : (k : Nat) < nL) (lv' : LV) (hl : lvs lv (k : Nat) (.ref x) = lv') (hp : pc + 1 = pc')
    (kk : GoA A p l e R s m args below meth c E k0 nL cells slots Q g r z pc' lv' st) : GoA A p l e R s m args below meth c E k0 nL cells slots Q g r z pc lv (.ref x :: st) := by
  subst hp
  exact fun H locs ls a b h => lv_astore_n cx.1.1 cx.1.2.1 hdg rfl h hn hl (fun ls' h' => kk H locs ls' a b h')
theorem ga_astore (cx : CxA A p s m args meth c E cc nL own ret) {k : Nat} {x : Nat} (hdg : decode cc pc = .ok (.astore k, 2)) (hn : k < nL) (lv' : LV) (hl : lvs lv k (.ref x) = lv') (hp : pc + 2 = pc')
    (kk : GoA A p l e R s m args below meth c E k0 nL cells slots Q g r z pc' lv' st) : GoA A p l e R s m args below meth c E k0 nL cells slots Q g r z pc lv (.ref x :: st) := by
  subst hp
  exact fun H locs ls a b h => lv_astore cx.1.1 cx.1.2.1 hdg h hn hl (fun ls' h' => kk H locs ls' a b h')
theorem ga_iadd (cx : CxA A p s m args meth c E cc nL own ret) {x y : Int32} (hdg : decode cc pc = .ok (.iadd, 1)) (hp : pc + 1 = pc')
    (kk : GoA A p l e R s m args below meth c E k0 nL cells slots Q g r z pc' lv (.int (x + y) :: st)) : GoA A p l e R s m args below meth c E k0 nL cells slots Q g r z pc lv (.int y :: .int x :: st) := by
  subst hp
  exact fun H locs ls a b h => lv_iadd cx.1.1 cx.1.2.1 hdg (kk H locs ls a b h)
theorem ga_isub (cx : CxA A p s m args meth c E cc nL own ret) {x y : Int32} (hdg : decode cc pc = .ok (.isub, 1)) (hp : pc + 1 = pc')
    (kk : GoA A p l e R s m args below meth c E k0 nL cells slots Q g r z pc' lv (.int (x - y) :: st)) : GoA A p l e R s m args below meth c E k0 nL cells slots Q g r z pc lv (.int y :: .int x :: st) := by
  subst hp
  exact fun H locs ls a b h => lv_isub cx.1.1 cx.1.2.1 hdg (kk H locs ls a b h)
theorem ga_imul (cx : CxA A p s m args meth c E cc nL own ret) {x y : Int32} (hdg : decode cc pc = .ok (.imul, 1)) (hp : pc + 1 = pc')
    (kk : GoA A p l e R s m args below meth c E k0 nL cells slots Q g r z pc' lv (.int (x * y) :: st)) : GoA A p l e R s m args below meth c E k0 nL cells slots Q g r z pc lv (.int y :: .int x :: st) := by
  subst hp
  exact fun H locs ls a b h => lv_imul cx.1.1 cx.1.2.1 hdg (kk H locs ls a b h)
theorem ga_ineg (cx : CxA A p s m args meth c E cc nL own ret) {x : Int32} (hdg : decode cc pc = .ok (.ineg, 1)) (hp : pc + 1 = pc')
    (kk : GoA A p l e R s m args below meth c E k0 nL cells slots Q g r z pc' lv (.int (-x) :: st)) : GoA A p l e R s m args below meth c E k0 nL cells slots Q g r z pc lv (.int x :: st) := by
  subst hp
  exact fun H locs ls a b h => lv_ineg cx.1.1 cx.1.2.1 hdg (kk H locs ls a b h)
theorem ga_iand (cx : CxA A p s m args meth c E cc nL own ret) {x y : Int32} (hdg : decode cc pc = .ok (.iand, 1)) (hp : pc + 1 = pc')
    (kk : GoA A p l e R s m args below meth c E k0 nL cells slots Q g r z pc' lv (.int (x &&& y) :: st)) : GoA A p l e R s m args below meth c E k0 nL cells slots Q g r z pc lv (.int y :: .int x :: st) := by
  subst hp
  exact fun H locs ls a b h => lv_iand cx.1.1 cx.1.2.1 hdg (kk H locs ls a b h)
theorem ga_idiv (cx : CxA A p s m args meth c E cc nL own ret) {x y : Int32} (hne : ¬ y = 0) (hdg : decode cc pc = .ok (.idiv, 1)) (hp : pc + 1 = pc')
    (kk : GoA A p l e R s m args below meth c E k0 nL cells slots Q g r z pc' lv (.int (x / y) :: st)) : GoA A p l e R s m args below meth c E k0 nL cells slots Q g r z pc lv (.int y :: .int x :: st) := by
  subst hp
  exact fun H locs ls a b h => lv_idiv cx.1.1 cx.1.2.1 hdg hne (kk H locs ls a b h)
theorem ga_irem (cx : CxA A p s m args meth c E cc nL own ret) {x y : Int32} (hne : ¬ y = 0) (hdg : decode cc pc = .ok (.irem, 1)) (hp : pc + 1 = pc')
    (kk : GoA A p l e R s m args below meth c E k0 nL cells slots Q g r z pc' lv (.int (x - x / y * y) :: st)) : GoA A p l e R s m args below meth c E k0 nL cells slots Q g r z pc lv (.int y :: .int x :: st) := by
  subst hp
  exact fun H locs ls a b h => lv_irem cx.1.1 cx.1.2.1 hdg hne (kk H locs ls a b h)
theorem ga_iushr (cx : CxA A p s m args meth c E cc nL own ret) {x y : Int32} (hdg : decode cc pc = .ok (.iushr, 1)) (hp : pc + 1 = pc')
    (kk : GoA A p l e R s m args below meth c E k0 nL cells slots Q g r z pc' lv (.int ((x.toUInt32 >>> (y.toUInt32 &&& Int32.toUInt32 31)).toInt32) :: st)) : GoA A p l e R s m args below meth c E k0 nL cells slots Q g r z pc lv (.int y :: .int x :: st) := by
  subst hp
  exact fun H locs ls a b h => lv_iushr cx.1.1 cx.1.2.1 hdg rfl (kk H locs ls a b h)
theorem ga_ishr (cx : CxA A p s m args meth c E cc nL own ret) {x y : Int32} (w : Int32) (hdg : decode cc pc = .ok (.ishr, 1)) (hw : x >>> (y &&& 31) = w) (hp : pc + 1 = pc')
    (kk : GoA A p l e R s m args below meth c E k0 nL cells slots Q g r z pc' lv (.int w :: st)) : GoA A p l e R s m args below meth c E k0 nL cells slots Q g r z pc lv (.int y :: .int x :: st) := by
  subst hp
  subst hw
  exact fun H locs ls a b h => lv_ishr cx.1.1 cx.1.2.1 hdg (kk H locs ls a b h)
theorem ga_dup (cx : CxA A p s m args meth c E cc nL own ret) {v : Value} (hv : v.category = 1) (hdg : decode cc pc = .ok (.dup, 1)) (hp : pc + 1 = pc')
    (kk : GoA A p l e R s m args below meth c E k0 nL cells slots Q g r z pc' lv (v :: v :: st)) : GoA A p l e R s m args below meth c E k0 nL cells slots Q g r z pc lv (v :: st) := by
  subst hp
  exact fun H locs ls a b h => lv_dup cx.1.1 cx.1.2.1 hdg hv (kk H locs ls a b h)
theorem ga_pop (cx : CxA A p s m args meth c E cc nL own ret) {v : Value} (hv : v.category = 1) (hdg : decode cc pc = .ok (.pop, 1)) (hp : pc + 1 = pc')
    (kk : GoA A p l e R s m args below meth c E k0 nL cells slots Q g r z pc' lv (st)) : GoA A p l e R s m args below meth c E k0 nL cells slots Q g r z pc lv (v :: st) := by
  subst hp
  exact fun H locs ls a b h => lv_pop cx.1.1 cx.1.2.1 hdg hv (kk H locs ls a b h)
theorem ga_iinc (cx : CxA A p s m args meth c E cc nL own ret) {k : Nat} {d : Int} {x : Int32} (v : Int32) (hdg : decode cc pc = .ok (.iinc k d, 3)) (hl : lv.lookup k = some (.int x)) (hv : x + Int32.ofInt d = v) (hn : k < nL) (lv' : LV) (hl' : lvs lv k (.int v) = lv') (hp : pc + 3 = pc')
    (kk : GoA A p l e R s m args below meth c E k0 nL cells slots Q g r z pc' lv' st) : GoA A p l e R s m args below meth c E k0 nL cells slots Q g r z pc lv st := by
  subst hp
  intro H locs ls a b h
  obtain ⟨q, hq⟩ := lk_at hl
  exact lv_iinc cx.1.1 cx.1.2.1 hdg h hq hv hn hl' (fun ls' h' => kk H locs ls' a b h')
theorem ga_if_eq (cx : CxA A p s m args meth c E cc nL own ret) {x : Int32} {off : Int} (tgt : Nat) (hdg : decode cc pc = .ok (.ifCond .eq off, 3)) (ht : (pc : Int) + off = (tgt : Int)) (hp : pc + 3 = pc')
    (kt : x = 0 → GoA A p l e R s m args below meth c E k0 nL cells slots Q g r z tgt lv st) (kf : ¬ x = 0 → GoA A p l e R s m args below meth c E k0 nL cells slots Q g r z pc' lv st) : GoA A p l e R s m args below meth c E k0 nL cells slots Q g r z pc lv (.int x :: st) := by
  subst hp
  exact fun H locs ls a b h => lv_if_eq cx.1.1 cx.1.2.1 hdg ht (fun q => kt q H locs ls a b h) (fun q => kf q H locs ls a b h)
theorem ga_if_ne (cx : CxA A p s m args meth c E cc nL own ret) {x : Int32} {off : Int} (tgt : Nat) (hdg : decode cc pc = .ok (.ifCond .ne off, 3)) (ht : (pc : Int) + off = (tgt : Int)) (hp : pc + 3 = pc')
    (kt : ¬ x = 0 → GoA A p l e R s m args below meth c E k0 nL cells slots Q g r z tgt lv st) (kf : x = 0 → GoA A p l e R s m args below meth c E k0 nL cells slots Q g r z pc' lv st) : GoA A p l e R s m args below meth c E k0 nL cells slots Q g r z pc lv (.int x :: st) := by
  subst hp
  exact fun H locs ls a b h => lv_if_ne cx.1.1 cx.1.2.1 hdg ht (fun q => kt q H locs ls a b h) (fun q => kf q H locs ls a b h)
theorem ga_icmp_eq (cx : CxA A p s m args meth c E cc nL own ret) {x y : Int32} {off : Int} (tgt : Nat) (hdg : decode cc pc = .ok (.if_icmp .eq off, 3)) (ht : (pc : Int) + off = (tgt : Int)) (hp : pc + 3 = pc')
    (kt : x = y → GoA A p l e R s m args below meth c E k0 nL cells slots Q g r z tgt lv st) (kf : ¬ x = y → GoA A p l e R s m args below meth c E k0 nL cells slots Q g r z pc' lv st) : GoA A p l e R s m args below meth c E k0 nL cells slots Q g r z pc lv (.int y :: .int x :: st) := by
  subst hp
  exact fun H locs ls a b h => lv_icmp_eq cx.1.1 cx.1.2.1 hdg ht (fun q => kt q H locs ls a b h) (fun q => kf q H locs ls a b h)
theorem ga_icmp_ne (cx : CxA A p s m args meth c E cc nL own ret) {x y : Int32} {off : Int} (tgt : Nat) (hdg : decode cc pc = .ok (.if_icmp .ne off, 3)) (ht : (pc : Int) + off = (tgt : Int)) (hp : pc + 3 = pc')
    (kt : ¬ x = y → GoA A p l e R s m args below meth c E k0 nL cells slots Q g r z tgt lv st) (kf : x = y → GoA A p l e R s m args below meth c E k0 nL cells slots Q g r z pc' lv st) : GoA A p l e R s m args below meth c E k0 nL cells slots Q g r z pc lv (.int y :: .int x :: st) := by
  subst hp
  exact fun H locs ls a b h => lv_icmp_ne cx.1.1 cx.1.2.1 hdg ht (fun q => kt q H locs ls a b h) (fun q => kf q H locs ls a b h)
theorem ga_icmp_ge (cx : CxA A p s m args meth c E cc nL own ret) {x y : Int32} {off : Int} (tgt : Nat) (hdg : decode cc pc = .ok (.if_icmp .ge off, 3)) (ht : (pc : Int) + off = (tgt : Int)) (hp : pc + 3 = pc')
    (kt : y ≤ x → GoA A p l e R s m args below meth c E k0 nL cells slots Q g r z tgt lv st) (kf : ¬ y ≤ x → GoA A p l e R s m args below meth c E k0 nL cells slots Q g r z pc' lv st) : GoA A p l e R s m args below meth c E k0 nL cells slots Q g r z pc lv (.int y :: .int x :: st) := by
  subst hp
  exact fun H locs ls a b h => lv_icmp_ge cx.1.1 cx.1.2.1 hdg ht (fun q => kt q H locs ls a b h) (fun q => kf q H locs ls a b h)
theorem ga_icmp_gt (cx : CxA A p s m args meth c E cc nL own ret) {x y : Int32} {off : Int} (tgt : Nat) (hdg : decode cc pc = .ok (.if_icmp .gt off, 3)) (ht : (pc : Int) + off = (tgt : Int)) (hp : pc + 3 = pc')
    (kt : y < x → GoA A p l e R s m args below meth c E k0 nL cells slots Q g r z tgt lv st) (kf : ¬ y < x → GoA A p l e R s m args below meth c E k0 nL cells slots Q g r z pc' lv st) : GoA A p l e R s m args below meth c E k0 nL cells slots Q g r z pc lv (.int y :: .int x :: st) := by
  subst hp
  exact fun H locs ls a b h => lv_icmp_gt cx.1.1 cx.1.2.1 hdg ht (fun q => kt q H locs ls a b h) (fun q => kf q H locs ls a b h)
theorem ga_goto (cx : CxA A p s m args meth c E cc nL own ret) {off : Int} (tgt : Nat) (hdg : decode cc pc = .ok (.goto off, 3)) (ht : (pc : Int) + off = (tgt : Int))
    (kk : GoA A p l e R s m args below meth c E k0 nL cells slots Q g r z tgt lv st) : GoA A p l e R s m args below meth c E k0 nL cells slots Q g r z pc lv st := fun H locs ls a b h => lv_goto cx.1.1 cx.1.2.1 hdg ht (kk H locs ls a b h)
theorem ga_name {x : Int32} (kk : ∀ y : Int32, y = x → GoA A p l e R s m args below meth c E k0 nL cells slots Q g r z pc lv (.int y :: st)) : GoA A p l e R s m args below meth c E k0 nL cells slots Q g r z pc lv (.int x :: st) := kk x rfl
theorem ga_val {v w : Value} (h : v = w) (kk : GoA A p l e R s m args below meth c E k0 nL cells slots Q g r z pc lv (w :: st)) : GoA A p l e R s m args below meth c E k0 nL cells slots Q g r z pc lv (v :: st) := h ▸ kk
theorem ga_g {g' : IG} (h : g = g') (kk : GoA A p l e R s m args below meth c E k0 nL cells slots Q g' r z pc lv st) : GoA A p l e R s m args below meth c E k0 nL cells slots Q g r z pc lv st := h ▸ kk
theorem ga_slen (cx : CxA A p s m args meth c E cc nL own ret) {b L : Nat} {xs : Nat → Int32} (hX : va_X b L xs s s.heap) (hbl : b < s.heap.size) (hbA : ¬ A b) (hdg : decode cc pc = .ok (.arraylength, 1)) (hp : pc + 1 = pc')
    (kk : GoA A p l e R s m args below meth c E k0 nL cells slots Q g r z pc' lv (.int (nI L) :: st)) : GoA A p l e R s m args below meth c E k0 nL cells slots Q g r z pc lv (.ref b :: st) := by
  subst hp
  exact fun H locs ls a b9 h => va_slen cx.1.1 cx.1.2.1 hX hbl hbA b9 hdg (kk H locs ls a b9 h)
theorem ga_sld (cx : CxA A p s m args meth c E cc nL own ret) {b L : Nat} {xs : Nat → Int32} (hX : va_X b L xs s s.heap) (hbl : b < s.heap.size) (hbA : ¬ A b) (hL : L ≤ 3072) {k : Nat} (hk : k < L) (hdg : decode cc pc = .ok (.iaload, 1)) (hp : pc + 1 = pc')
    (kk : GoA A p l e R s m args below meth c E k0 nL cells slots Q g r z pc' lv (.int (xs k) :: st)) : GoA A p l e R s m args below meth c E k0 nL cells slots Q g r z pc lv (.int (nI k) :: .ref b :: st) := by
  subst hp
  intro H locs ls a b9 h
  refine va_sld cx.1.1 cx.1.2.1 hX hbl hbA b9 (vp_in_nI hk (by omega)) hdg ?_
  rw [nI_clamp (by omega)]
  exact kk H locs ls a b9 h
/-- fewer locals -/
theorem ga_lv {lv' : LV} (h : lv'.all (fun q => lv.contains q) = true ∨ ∀ q ∈ lv', q ∈ lv) (kk : GoA A p l e R s m args below meth c E k0 nL cells slots Q g r z pc lv' st) : GoA A p l e R s m args below meth c E k0 nL cells slots Q g r z pc lv st := by
  intro H locs ls a b h9
  refine kk H locs ls a b ⟨h9.1, h9.2.1, fun q hq => h9.2.2 q ?_⟩
  rcases h with h | h
  · exact List.contains_iff_mem.mp (List.all_eq_true.mp h q hq)
  · exact h q hq
theorem ga_w {k1 c1 s1 : Nat} (hk : k0 = k1) (hc : cells = c1) (hs : slots = s1) (kk : GoA A p l e R s m args below meth c E k1 nL c1 s1 Q g r z pc lv st) : GoA A p l e R s m args below meth c E k0 nL cells slots Q g r z pc lv st := by
  subst hk
  subst hc
  subst hs
  exact kk
theorem ga_r {r' : RG} (h : r = r') (kk : GoA A p l e R s m args below meth c E k0 nL cells slots Q g r' z pc lv st) : GoA A p l e R s m args below meth c E k0 nL cells slots Q g r z pc lv st := h ▸ kk
theorem ga_mmax (cx : CxA A p s m args meth c E cc nL own ret) {x y : Int32} {idx : Nat} (hl : ML own idx Lib.Math.max.name) (hdg : decode cc pc = .ok (.invokestatic idx, 3)) (hR : 1 ≤ R.frames ∧ 100 ≤ R.locals) (hcs : cells ≤ R.cells ∧ slots ≤ R.slots) (hsz : (st.map fun v => v.category).sum ≤ 8) (hp : pc + 3 = pc')
    (kk : GoA A p l e R s m args below meth c E k0 nL cells slots Q g r z pc' lv (.int (if x < y then y else x) :: st)) : GoA A p l e R s m args below meth c E k0 nL cells slots Q g r z pc lv (.int y :: .int x :: st) := by
  subst hp
  obtain ⟨⟨hx, hb, hml, hown, hts⟩, -⟩ := cx
  intro H locs ls a b h
  exact va_mmax hx hb (hml.trans h.1.symm) hown (hts _ hl) (hts _ mm_max.1) (hts _ mm_max.2.1) (hts _ mm_max.2.2) hR.1 (by omega) hcs.1 hcs.2 hdg (kk H locs ls a b h)
theorem ga_mmin (cx : CxA A p s m args meth c E cc nL own ret) {x y : Int32} {idx : Nat} (hl : ML own idx Lib.Math.min.name) (hdg : decode cc pc = .ok (.invokestatic idx, 3)) (hR : 1 ≤ R.frames ∧ 100 ≤ R.locals) (hcs : cells ≤ R.cells ∧ slots ≤ R.slots) (hsz : (st.map fun v => v.category).sum ≤ 8) (hp : pc + 3 = pc')
    (kk : GoA A p l e R s m args below meth c E k0 nL cells slots Q g r z pc' lv (.int (if y < x then y else x) :: st)) : GoA A p l e R s m args below meth c E k0 nL cells slots Q g r z pc lv (.int y :: .int x :: st) := by
  subst hp
  obtain ⟨⟨hx, hb, hml, hown, hts⟩, -⟩ := cx
  intro H locs ls a b h
  exact va_mmin hx hb (hml.trans h.1.symm) hown (hts _ hl) (hts _ mm_min.1) (hts _ mm_min.2.1) (hts _ mm_min.2.2) hR.1 (by omega) hcs.1 hcs.2 hdg (kk H locs ls a b h)
theorem ga_back {Z1 : ZT} {st0 : List Value} {a1 : Array Value} {H : Heap} {locs : List Loc} {ls : Array Slot} (hA : ∀ q, Ad E 88 q → A q) (hk : k0 ≤ 88) (hS : va_S A s.heap H locs) (hl : lv_has ls nL lv)
    (hr : va_Run p l e R s m args below meth c H locs cells slots 0 0 (F0 m pc ls st0) st (Qz E k0 Z1 a1) (Ad E k0))
    (kk : ∀ v g1 r1 z1, Z1 v g1 r1 z1 → GoA A p l e R s m args below meth c E k0 nL cells slots Q g1 r1 z1 (pc + 3) lv (v.toList ++ st)) : W p l e R s m args below meth c H locs cells slots Q (F0 m pc ls st0) := by
  intro T hT X
  obtain ⟨v, st₀, t, T', L, h0, X', hL, e1, e2, ⟨⟨v', g1, r1, z1, hv, hZ, hW⟩, hz, hq⟩, stp⟩ := hr T hT X
  cases hv
  rw [h0] at hz hq
  obtain ⟨t2, a1, b1⟩ := kk v g1 r1 z1 hZ T'.heap (locs ++ L) ls (by rw [e1]; exact hW.up (fun q => Ad.up hk))
    ⟨Nat.le_trans hS.1 (by rw [e1]; exact hz), fun q h1 h2 => by rw [e1, hq q (Nat.lt_of_lt_of_le h1 hS.1) (fun h3 => h2 (hA q (Ad.up hk h3)))]; exact hS.2.1 q h1 h2, fun q hq => by
      rcases List.mem_append.mp hq with h | h
      · exact hS.2.2 q h
      · exact hA _ (Ad.up hk (hL q h))⟩ hl T' rfl X'
  exact ⟨t2, stp t2 a1, b1⟩
theorem ga_pre {H : Heap} {locs : List Loc} (cx : CxA A p s m args meth c E cc nL own ret) (hA : ∀ q, Ad E 88 q → A q) (hk : k0 ≤ 88) (hW : Wd E (Ad E 88) k0 g r z H) (hS : va_S A s.heap H locs) (av : List Value) : ∀ U : State, U.heap = H → s.WarmedH U.vm → Pz E k0 g r z av av.toArray U := by
  intro U hU hV
  refine ⟨rfl, cx.2.2.2.1.warm hV, ?_, by rw [hU]; exact hW.to⟩
  rw [hU]
  exact ((cx.2.2.2.2.kept hS.2.1).moved hV.alike).narrow (fun q h => hA q (Ad.up hk h))
theorem ga_callV (cx : CxA A p s m args meth c E cc nL own ret) (hA : ∀ q, Ad E 88 q → A q) {y : MethodName} {bytes : ByteArray} {maxL : Nat} {rt : Option FieldType} {np d idx i ci N : Nat} {As st0 : List Value} {Z1 : ZT} (hk5 : k0 ≤ 88) (hM : Ct l E k0 y bytes maxL rt d (.ref (E.2.1 i) :: As) g r z Z1) (hw : MWv y bytes maxL rt np) (hl : ML own idx y) (hdg : decode cc pc = .ok (.invokevirtual idx, 3))
    (hk : kd i = (ci, N)) (hc : ci < 7) (hi : i < k0) (hcl : (clx[ci]?).map (·.1) = some y.cls) (hn : As.length = np) (hst : st0 = As.reverse ++ .ref (E.2.1 i) :: st) (hR : d + 1 ≤ R.frames ∧ 8 + (maxL + 11) + 80 * d ≤ R.locals) (hsz : (st.map fun v => v.category).sum ≤ 8) (hp : pc + 3 = pc')
    (kk : ∀ v g1 r1 z1, Z1 v g1 r1 z1 → GoA A p l e R s m args below meth c E k0 nL cells slots Q g1 r1 z1 pc' lv (v.toList ++ st)) (hcs : cells ≤ R.cells ∧ slots ≤ R.slots) : GoA A p l e R s m args below meth c E k0 nL cells slots Q g r z pc lv st0 := by
  subst hp
  intro H locs ls a b h
  have hcx := cx
  obtain ⟨⟨hx, hb, hml, hown, hts⟩, hr, hlk, hK, hX⟩ := cx
  obtain ⟨q, hq, hq1⟩ : ∃ q, clx[ci]? = some q ∧ q.1 = y.cls := by
    cases hq : clx[ci]? with
    | none => rw [hq] at hcl; cases hcl
    | some q => rw [hq] at hcl; exact ⟨q, rfl, Option.some.inj hcl⟩
  have hcw : CallW R s args own y.cls idx y bytes maxL rt (wsA y bytes maxL rt) (rmd d) 0 0 np := ⟨gk_mk (rm := rmd d) hts hw.2.2.1 hw.2.2.2.1 hl hw.2.2.2.2 hR, hts _ hw.1, hts _ hw.2.1⟩
  refine ga_back hA hk5 b h (va_runV (As := As) (rest := st) (b := E.2.1 i) (C := y.cls) ⟨hx, hb, hml, hown, hts⟩ hM hcw ⟨Pz_blind, ?_, ga_pre hcx hA hk5 a b _⟩ rfl hn h.1 hst (lv_room hsz) hdg hcs) kk
  have := va_recv hK.1 a.1 hq (by rw [wsl_at hi, cnt_o hk hc])
  rw [hq1] at this
  exact this
theorem ga_cVi (cx : CxA A p s m args meth c E cc nL own ret) (hA : ∀ q, Ad E 88 q → A q) {y : MethodName} {bytes : ByteArray} {maxL : Nat} {rt : Option FieldType} {np d idx i ci N : Nat} {As st0 : List Value} {x : Int32} {g1 : IG} {r1 : RG} {z1 : Int64} (hk5 : k0 ≤ 88) (hM : Ct l E k0 y bytes maxL rt d (.ref (E.2.1 i) :: As) g r z (Zi r1 z1 x g1)) (hw : MWv y bytes maxL rt np) (hl : ML own idx y) (hdg : decode cc pc = .ok (.invokevirtual idx, 3))
    (hk : kd i = (ci, N)) (hc : ci < 7) (hi : i < k0) (hcl : (clx[ci]?).map (·.1) = some y.cls) (hn : As.length = np) (hst : st0 = As.reverse ++ .ref (E.2.1 i) :: st) (hR : d + 1 ≤ R.frames ∧ 8 + (maxL + 11) + 80 * d ≤ R.locals) (hsz : (st.map fun v => v.category).sum ≤ 8) (hp : pc + 3 = pc') (hcs : cells ≤ R.cells ∧ slots ≤ R.slots)
    (kk : GoA A p l e R s m args below meth c E k0 nL cells slots Q g1 r1 z1 pc' lv (.int x :: st)) : GoA A p l e R s m args below meth c E k0 nL cells slots Q g r z pc lv st0 := by
  refine ga_callV cx hA hk5 hM hw hl hdg hk hc hi hcl hn hst hR hsz hp ?_ hcs
  rintro _ _ _ _ ⟨rfl, rfl, rfl, rfl⟩
  exact kk
theorem ga_cVI (cx : CxA A p s m args meth c E cc nL own ret) (hA : ∀ q, Ad E 88 q → A q) {y : MethodName} {bytes : ByteArray} {maxL : Nat} {rt : Option FieldType} {np d idx i ci N : Nat} {As st0 : List Value} {F : Int32 → IG → Prop} {r1 : RG} {z1 : Int64} (hk5 : k0 ≤ 88) (hM : Ct l E k0 y bytes maxL rt d (.ref (E.2.1 i) :: As) g r z (ZI r1 z1 F)) (hw : MWv y bytes maxL rt np) (hl : ML own idx y) (hdg : decode cc pc = .ok (.invokevirtual idx, 3))
    (hk : kd i = (ci, N)) (hc : ci < 7) (hi : i < k0) (hcl : (clx[ci]?).map (·.1) = some y.cls) (hn : As.length = np) (hst : st0 = As.reverse ++ .ref (E.2.1 i) :: st) (hR : d + 1 ≤ R.frames ∧ 8 + (maxL + 11) + 80 * d ≤ R.locals) (hsz : (st.map fun v => v.category).sum ≤ 8) (hp : pc + 3 = pc') (hcs : cells ≤ R.cells ∧ slots ≤ R.slots)
    (kk : ∀ x g1, F x g1 → GoA A p l e R s m args below meth c E k0 nL cells slots Q g1 r1 z1 pc' lv (.int x :: st)) : GoA A p l e R s m args below meth c E k0 nL cells slots Q g r z pc lv st0 := by
  refine ga_callV cx hA hk5 hM hw hl hdg hk hc hi hcl hn hst hR hsz hp ?_ hcs
  rintro _ _ _ _ ⟨⟨x, rfl, h⟩, rfl, rfl⟩
  exact kk x _ h
/-- a new object: the world begins anew -/
theorem ga_new0 {E' : Ev} (cx : CxA A p s m args meth c E' cc nL own ret) (hs0 : ∀ (H : Heap) (locs : List Loc), Wd E (Ad E 88) k0 g r z H → va_S A s.heap H locs → H.size ≤ s.heap.size + cells → E'.2.1 0 = H.size) {idx ci N : Nat} (hf : NW own idx ci) (hkd : kd 0 = (ci, N)) (hc : ci < 7) (hdg : decode cc pc = .ok (.new idx, 3)) (hcells : cells + 1 ≤ R.cells) (hslots : slots + N ≤ R.slots) (hp : pc + 3 = pc')
    (kk : GoA A p l e R s m args below meth c E' 1 nL (cells + 1) (slots + N) Q Z0 N0 0 pc' lv (.ref (E'.2.1 0) :: st)) : GoA A p l e R s m args below meth c E k0 nL cells slots Q g r z pc lv st := by
  subst hp
  intro H locs ls a b h
  refine W_size (fun hz => ?_)
  have hs := hs0 H locs a b hz
  obtain ⟨C, T, N', ty, q1, q2, q3, q4, q5, q6, q7⟩ := hf
  obtain ⟨⟨hx, hb, hml, hown, hts⟩, hr9, hlk, hK, hX⟩ := cx
  have hN : N' = N := by
    have := clx_N 0 ci N hkd hc
    rw [q1] at this
    exact Option.some.inj this
  subst hN
  have hKn := hK.1.1 ci _ q1
  refine W.newcK hx hb hown (hts _ q2) (hts _ q3) (hts _ q4) rfl hdg hcells hslots hKn.2.1 hs.symm fun H1 kC hkC e1 z1 o1 => ?_
  refine kk H1 locs ls ((Wd0 (E := E') (A := Ad E' 88) (g := Z0) (r := N0) (z := 0) (H := H)).grow ⟨0, by decide, rfl⟩ hs (fun q hq => o1 q (by rw [hs]; exact hq)) ?_) ⟨by have := b.1; omega, fun x h1 h2 => (o1 x (by have := b.1; omega)).trans (b.2.1 x h1 h2), b.2.2⟩ h
  rw [cnt_o hkd hc]
  refine ⟨_, q1, (u_born ty hts q5 hKn hkC e1 q6).to (fun j hj => ?_)⟩
  show defaultValue (ty j) = (fls E' Z0 N0 0 0 ci N').getD j .null
  rw [List.getD_eq_getElem?_getD, fls_at hj]
  show defaultValue (ty j) = fvl E' Z0 N0 0 0 j (ftc ci j)
  rcases q7 j hj with ⟨u, v⟩ | ⟨u, v⟩ | ⟨u, v⟩
  · rw [u, v]
    rfl
  · rw [u, v]
    rfl
  · rw [u, v]
    rfl
theorem ga_backN {Z1 : ZT} {mc ms : Nat} {st0 : List Value} {a1 : Array Value} {H : Heap} {locs : List Loc} {ls : Array Slot} (hA : ∀ q, Ad E 88 q → A q) (hS : va_S A s.heap H locs) (hl : lv_has ls nL lv)
    (hr : va_Run p l e R s m args below meth c H locs cells slots mc ms (F0 m pc ls st0) st (QzN E (k0 + mc) Z1 a1) (Ad E 88))
    (kk : ∀ v g1 r1 z1, Z1 v g1 r1 z1 → GoA A p l e R s m args below meth c E (k0 + mc) nL (cells + mc) (slots + ms) Q g1 r1 z1 (pc + 3) lv (v.toList ++ st)) : W p l e R s m args below meth c H locs cells slots Q (F0 m pc ls st0) := by
  intro T hT X
  obtain ⟨v, st₀, t, T', L, h0, X', hL, e1, e2, ⟨⟨v', g1, r1, z1, hv, hZ, hW⟩, hz, hq⟩, stp⟩ := hr T hT X
  cases hv
  rw [h0] at hz hq
  obtain ⟨t2, a1, b1⟩ := kk v g1 r1 z1 hZ T'.heap (locs ++ L) ls (by rw [e1]; exact hW)
    ⟨Nat.le_trans hS.1 (by rw [e1]; exact hz), fun q h1 h2 => by rw [e1, hq q (Nat.lt_of_lt_of_le h1 hS.1) (fun h3 => h2 (hA q h3))]; exact hS.2.1 q h1 h2, fun q hq => by
      rcases List.mem_append.mp hq with h | h
      · exact hS.2.2 q h
      · exact hA _ (hL q h)⟩ hl T' rfl X'
  exact ⟨t2, stp t2 a1, b1⟩
theorem ga_preN {H : Heap} {locs : List Loc} (cx : CxA A p s m args meth c E cc nL own ret) (hA : ∀ q, Ad E 88 q → A q) (hKx : Kx E s) (hW : Wd E (Ad E 88) k0 g r z H) (hS : va_S A s.heap H locs) (hsz : H.size = E.2.1 0 + k0) (av : List Value) : ∀ U : State, U.heap = H → s.WarmedH U.vm → PzN E k0 g r z av av.toArray U := by
  intro U hU hV
  refine ⟨rfl, cx.2.2.2.1.warm hV, ?_, by rw [hU]; exact hW, by rw [hU]; exact hsz, hKx.warm hV⟩
  rw [hU]
  exact ((cx.2.2.2.2.kept hS.2.1).moved hV.alike).narrow hA
theorem ga_ctor (cx : CxA A p s m args meth c E cc nL own ret) (hA : ∀ q, Ad E 88 q → A q) {y : MethodName} {bytes : ByteArray} {maxL : Nat} {np d mc ms idx i : Nat} {As st0 : List Value} {P : IG → RG → Prop} {k1 c1 s1 : Nat} (hE : Sq E) (hKx : Kx E s) (hcz : s.heap.size + cells = E.2.1 0 + k0) (h0 : k0 = 0 → cells = 0) (hM : CtN l E k0 mc ms y bytes maxL d (.ref (E.2.1 i) :: As) g r z (fun v g1 r1 z1 => v = none ∧ z1 = z ∧ P g1 r1)) (hw : MWi y bytes maxL np) (hl : ML own idx y) (hdg : decode cc pc = .ok (.invokespecial idx, 3))
    (hn : As.length = np) (hst : st0 = As.reverse ++ .ref (E.2.1 i) :: st) (hR : d + 1 ≤ R.frames ∧ 8 + (maxL + 11) + 80 * d ≤ R.locals) (hsz : (st.map fun v => v.category).sum ≤ 8) (hp : pc + 3 = pc') (hcs : cells + mc ≤ R.cells ∧ slots + ms ≤ R.slots) (hk1 : k0 + mc = k1) (hc1 : cells + mc = c1) (hs1 : slots + ms = s1)
    (kk : ∀ g1 r1, P g1 r1 → GoA A p l e R s m args below meth c E k1 nL c1 s1 Q g1 r1 z pc' lv st) : GoA A p l e R s m args below meth c E k0 nL cells slots Q g r z pc lv st0 := by
  subst hp
  subst hk1
  subst hc1
  subst hs1
  intro H locs ls a b h
  refine W_size (fun hz => ?_)
  have hs := gk_sz hE a b hz hcz h0
  have hcx := cx
  obtain ⟨⟨hx, hb, hml, hown, hts⟩, hr, hlk, hK, hX⟩ := cx
  have hcw : CallB R s args own idx y bytes maxL none (wsA y bytes maxL none) (rmK d mc ms) mc ms np := gk_mk (rm := rmK d mc ms) hts hw.2.1 hw.2.2.1 hl hw.2.2.2.2 hR
  refine ga_backN hA b h (va_runI (As := As) (rest := st) (b := E.2.1 i) ⟨hx, hb, hml, hown, hts⟩ hM ⟨hcw, hw.2.2.2.1, hts _ hw.1⟩ ⟨PzN_blind, ga_preN hcx hA hKx a b (hs.symm.trans (hE k0)) _⟩ rfl hn h.1 hst (lv_room hsz) hdg hcs) ?_
  rintro _ g1 r1 _ ⟨rfl, rfl, hP⟩
  exact kk g1 r1 hP
end GA
/-! THE LAW'S OWN HELPERS: they read the script alone -/
def PzX (E : Ev) (b L : Nat) (xs : Nat → Int32) (av : List Value) : Array Value → State → Prop := va_Pc av (fun U => Kn E U ∧ Xt E (fun _ => False) U U.heap ∧ va_X b L xs U U.heap)
def QzX (F : Int32 → Prop) : Array Value → State → Outcome → State → Prop := fun _ st oc t => (∃ x, oc = .returned (some (.int x)) ∧ F x) ∧ va_F (fun _ => False) st t
def CtX (l : Launch) (E : Ev) (b L : Nat) (xs : Nat → Int32) (y : MethodName) (cc : ByteArray) (nL d : Nat) (av : List Value) (F : Int32 → Prop) : Prop :=
  Met l y (wsA y cc nL (some .int)) (rmd d) (PzX E b L xs av) (QzX F) 0 0 (fun _ => False)
theorem PzX_blind {E : Ev} {b L : Nat} {xs : Nat → Int32} {av : List Value} : FrameBlind (PzX E b L xs av) := by
  intro a U g' mk h
  obtain ⟨h1, ⟨hK, hX⟩, h2, h3⟩ := h
  refine ⟨h1, ⟨hK.moved (u := U) (U := U.calling g' mk a) (Vm.Alike.refl U.vm), fun i q hq => vk_R.same (u := U) rfl (hX i q hq)⟩, ?_, ?_⟩
  · exact h2.moved (u := U) (U := U.calling g' mk a) (Vm.Alike.refl U.vm)
  · exact h3.moved (u := U) (U := U.calling g' mk a) (Vm.Alike.refl U.vm)
theorem CtX.of {l : Launch} {E : Ev} {b L : Nat} {xs : Nat → Int32} {y : MethodName} {cc : ByteArray} {nL d : Nat} {av : List Value} {lv0 : LV} {F : Int32 → Prop} (hy : plainName y.cls = true) (hlen : (lg_sl av).length ≤ nL) (hlv : lv_args 0 av = lv0)
    (body : ∀ (p : Program) (e : Env) (s : State) (m : MethodId) (below : List Frame) (meth : Method) (c : Code), CxA (fun _ => False) p s m av.toArray meth c E cc nL y.cls (some .int) → va_X b L xs s s.heap → b < s.heap.size → GoA (fun _ => False) p l e (rmd d) s m av.toArray below meth c E 0 nL 0 0 (MQ below (QzX F) av.toArray s 0 0 (fun _ => False)) Z0 N0 0 0 lv0 []) : CtX l E b L xs y cc nL d av F := by
  refine Met.ofW (cc := cc) (maxL := nL) (ret := some .int) hy rfl ?_
  intro p e s m args below meth c s₁ B hml hv
  obtain ⟨rfl, hK, hXt, hX⟩ := hv
  have hts := atoms_spec (ws := wsA y cc nL (some .int)) B.pre
  have cx : CxA (fun _ => False) p s m av.toArray meth c E cc nL y.cls (some .int) := ⟨⟨B.exec, B.bytes, hml, findClass_of_methodNamed B.named, fun w hw => hts w (List.mem_cons_of_mem _ hw)⟩, B.returns, B.notSynchronized, hK, hXt⟩
  rw [lg_entry_eq]
  exact body p e s m below meth c cx hX hX.lt s.heap [] _ Wd0 va_S.rf (hlv ▸ lv_entry av hlen)
section GAX
variable {A : Nat → Prop} {p : Program} {l : Launch} {e : Env} {R : Room} {s : State} {m : MethodId} {args : Array Value} {below : List Frame} {meth : Method} {c : Code} {E : Ev} {k0 nL cells slots : Nat} {Q : State → Prop} {cc : ByteArray} {own : String} {ret : Option FieldType} {g : IG} {r : RG} {z : Int64} {pc pc' : Nat} {lv : LV} {st : List Value}
theorem ga_xret {F : Int32 → Prop} {v : Int32} (cx : CxA (fun _ => False) p s m args meth c E cc nL own (some .int)) (hdg : decode cc pc = .ok (.ireturn, 1)) (hF : F v) : GoA (fun _ => False) p l e R s m args below meth c E k0 nL cells slots (MQ below (QzX F) args s cells slots (fun _ => False)) g r z pc lv [.int v] := by
  intro H locs ls a b h
  exact W.iret (v := v) cx.1.1 cx.1.2.1 cx.2.1 (fun t ht hW => ⟨⟨v, rfl, hF⟩, b.F ht⟩) b.2.2 hdg cx.2.2.1
theorem ga_callX (cx : CxA A p s m args meth c E cc nL own ret) {b L : Nat} {xs : Nat → Int32} (hX : va_X b L xs s s.heap) (hbl : b < s.heap.size) (hbA : ¬ A b) {y : MethodName} {bytes : ByteArray} {maxL : Nat} {np d idx : Nat} {As st0 : List Value} {F : Int32 → Prop} (hM : CtX l E b L xs y bytes maxL d As F) (hw : MWs y bytes maxL (some .int) np) (hl : ML own idx y) (hdg : decode cc pc = .ok (.invokestatic idx, 3))
    (hn : As.length = np) (hst : st0 = As.reverse ++ st) (hR : d + 1 ≤ R.frames ∧ 8 + (maxL + 11) + 80 * d ≤ R.locals) (hsz : (st.map fun v => v.category).sum ≤ 8) (hp : pc + 3 = pc') (hcs : cells ≤ R.cells ∧ slots ≤ R.slots)
    (kk : ∀ x, F x → GoA A p l e R s m args below meth c E k0 nL cells slots Q g r z pc' lv (.int x :: st)) : GoA A p l e R s m args below meth c E k0 nL cells slots Q g r z pc lv st0 := by
  subst hp
  intro H locs ls a b9 h
  have hcx := cx
  obtain ⟨⟨hx, hb, hml, hown, hts⟩, hr, hlk, hK, hXt⟩ := cx
  have hp : ∀ U : State, U.heap = H → s.WarmedH U.vm → PzX E b L xs As As.toArray U := by
    intro U hU hV
    refine ⟨rfl, hK.warm hV, ?_, ?_⟩
    · rw [hU]
      exact ((hXt.kept b9.2.1).moved hV.alike).narrow (fun q h => h.elim)
    · rw [hU]
      exact (hX.kept (b9.2.1 b hbl hbA)).moved hV.alike
  have hrun := va_runS (As := As) (rest := st) (H := H) (locs := locs) (cells := cells) (slots := slots) (below := below) (R := R) (e := e) (l := l) (meth := meth) (g := F0 m pc ls st0) ⟨hx, hb, hml, hown, hts⟩ hM ⟨gk_mk (rm := rmd d) hts hw.2.1 hw.2.2.1 hl hw.2.2.2 hR, hts _ hw.1⟩ ⟨PzX_blind, hp⟩ rfl hn h.1 hst (lv_room hsz) hdg hcs
  intro T hT X
  obtain ⟨v, st₀, t, T', L', h0, X', hL, e1, e2, ⟨⟨x, hv, hF⟩, hz, hq⟩, stp⟩ := hrun T hT X
  cases hv
  rw [h0] at hz hq
  have hq2 : ∀ q, q < H.size → T'.heap[q]? = H[q]? := fun q h1 => by rw [e1]; exact hq q h1 (fun f => f)
  obtain ⟨t2, a1, b1⟩ := kk x hF T'.heap (locs ++ L') ls ⟨a.1.kept (fun i q9 hx9 => hq2 q9.1 (a.1 i q9 hx9).lt), a.2⟩
    ⟨Nat.le_trans b9.1 (by rw [e1]; exact hz), fun q h1 h2 => (hq2 q (Nat.lt_of_lt_of_le h1 b9.1)).trans (b9.2.1 q h1 h2), fun q hq => by
      rcases List.mem_append.mp hq with h | h
      · exact b9.2.2 q h
      · exact (hL q h).elim⟩ h T' rfl X'
  exact ⟨t2, stp t2 a1, b1⟩
end GAX
set_option maxHeartbeats 4000000 in
set_option maxRecDepth 20000 in
theorem c_cell (l : Launch) (E : Ev) {b L kn : Nat} {xs : Nat → Int32} (hL : L ≤ 3072) (hk : kn < 1000) : CtX l E b L xs yL_cell cL_cell 2 0 [.ref b, .int (nI kn)] (fun _ => True) := by
  refine CtX.of (lv0 := [(0, .ref b), (1, .int (nI kn))]) (by decide) (Nat.le_of_ble_eq_true rfl) rfl ?_
  intro p e s m below meth c cx hX hbl
  refine ga_iload_n (pc' := 1) cx dL_cell_0 rfl rfl ?_
  refine ga_aload_n (pc' := 2) cx dL_cell_1 rfl rfl ?_
  refine ga_slen (pc' := 3) cx hX hbl (fun f => f) dL_cell_2 rfl ?_
  refine ga_icmp_ge (pc' := 6) cx 12 dL_cell_3 rfl rfl (fun _ => ?_) (fun hh => ?_)
  · refine ga_sipush (pc' := 15) cx 7919 dL_cell_12 rfl rfl ?_
    refine ga_iload_n (pc' := 16) cx dL_cell_15 rfl rfl ?_
    refine ga_imul (pc' := 17) cx dL_cell_16 rfl ?_
    refine ga_bipush (pc' := 19) cx 12 dL_cell_17 rfl rfl ?_
    refine ga_iadd (pc' := 20) cx dL_cell_19 rfl ?_
    exact ga_xret cx dL_cell_20 trivial
  · have hlt : kn < L := by
      refine Nat.lt_of_not_le (fun q => hh ?_)
      exact nI_le q (by omega)
    refine ga_aload_n (pc' := 7) cx dL_cell_6 rfl rfl ?_
    refine ga_iload_n (pc' := 8) cx dL_cell_7 rfl rfl ?_
    refine ga_sld (pc' := 9) cx hX hbl (fun f => f) hL hlt dL_cell_8 rfl ?_
    refine ga_goto cx 20 dL_cell_9 rfl ?_
    exact ga_xret cx dL_cell_20 trivial
theorem us3 (x : Int32) : ∃ j, j < 2 ^ 29 ∧ (x.toUInt32 >>> ((3 : Int32).toUInt32 &&& Int32.toUInt32 31)).toInt32 = nI j := by
  have h := pk_ushr x 3 3 (by decide)
  have hx : x.toBitVec.toNat < 2 ^ 32 := x.toBitVec.isLt
  refine ⟨x.toBitVec.toNat / 2 ^ 3, by omega, ?_⟩
  refine Int32.toBitVec_inj.mp (BitVec.eq_of_toNat_eq ?_)
  rw [h, pk_tn (by omega)]
set_option maxHeartbeats 4000000 in
set_option maxRecDepth 20000 in
theorem c_some (l : Launch) (E : Ev) {b L kn N : Nat} {xs : Nat → Int32} (hL : L ≤ 3072) (hk : kn < 1000) (h0 : 0 < N) (hN : N < 1000) : CtX l E b L xs yL_some cL_some 3 1 [.ref b, .int (nI kn), .int (nI N)] (fun x => ∃ j, j < N ∧ x = nI j) := by
  refine CtX.of (lv0 := [(0, .ref b), (1, .int (nI kn)), (2, .int (nI N))]) (by decide) (Nat.le_of_ble_eq_true rfl) rfl ?_
  intro p e s m below meth c cx hX hbl
  refine ga_aload_n (pc' := 1) cx dL_some_0 rfl rfl ?_
  refine ga_iload_n (pc' := 2) cx dL_some_1 rfl rfl ?_
  refine ga_callX (pc' := 5) cx hX hbl (fun f => f) (c_cell l E (xs := xs) hL hk) mL_cell lL_7 dL_some_2 rfl rfl ⟨(Nat.le_of_ble_eq_true rfl), (Nat.le_of_ble_eq_true rfl)⟩ (Nat.le_of_ble_eq_true rfl) rfl ⟨Nat.le_refl _, Nat.le_refl _⟩ (fun x _ => ?_)
  refine ga_iconst (pc' := 6) cx 3 dL_some_5 rfl rfl ?_
  refine ga_iushr (pc' := 7) cx dL_some_6 rfl ?_
  obtain ⟨j, hj, ej⟩ := us3 x
  refine ga_val (w := .int (nI j)) (congrArg Value.int ej) ?_
  refine ga_iload_n (pc' := 8) cx dL_some_7 rfl rfl ?_
  refine ga_irem (pc' := 9) cx (nI_ne0 h0 (by omega)) dL_some_8 rfl ?_
  refine ga_val (w := .int (nI (j % N))) (congrArg Value.int (pk_rem (by omega) h0 (by omega))) ?_
  exact ga_xret cx dL_some_9 ⟨j % N, Nat.mod_lt _ h0, rfl⟩
