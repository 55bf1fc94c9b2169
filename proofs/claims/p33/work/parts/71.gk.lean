/-! CONSTRUCTORS AND THE LAW: a walk whose world grows; cells come one behind the other -/
def GoK (p : Program) (l : Launch) (e : Env) (R : Room) (s : State) (m : MethodId) (args : Array Value) (below : List Frame) (meth : Method) (c : Code) (E : Ev) (k0 nL cells slots : Nat) (Q : State → Prop) (g : IG) (r : RG) (z : Int64) (pc : Nat) (lv : LV) (st : List Value) : Prop :=
  ∀ (H : Heap) (locs : List Loc) (ls : Array Slot), Wd E (Ad E 88) k0 g r z H → va_S (Ad E 88) s.heap H locs → lv_has ls nL lv → W p l e R s m args below meth c H locs cells slots Q (F0 m pc ls st)
/-- the cells lie one behind the other -/
def Sq (E : Ev) : Prop := ∀ i, E.2.1 i = E.2.1 0 + i
theorem W_size {p : Program} {l : Launch} {e : Env} {R : Room} {s : State} {m : MethodId} {args : Array Value} {below : List Frame} {meth : Method} {c : Code} {H : Heap} {locs : List Loc} {cells slots : Nat} {Q : State → Prop} {g : JFrame} (kk : H.size ≤ s.heap.size + cells → W p l e R s m args below meth c H locs cells slots Q g) : W p l e R s m args below meth c H locs cells slots Q g :=
  fun T hT X => kk (by rw [← hT]; exact X.heapSize) T hT X
theorem wsl_succ {E : Ev} {n : Nat} {g : IG} {r : RG} {z : Int64} : wsl E (n + 1) g r z = wsl E n g r z ++ [(E.2.1 n, cnt E g r z n)] := by
  unfold wsl
  rw [List.range_succ, List.map_append]
  rfl
theorem Wd.grow {E : Ev} {A : Nat → Prop} {k : Nat} {g : IG} {r : RG} {z : Int64} {H H1 : Heap} (hW : Wd E A k g r z H) (hA : A (E.2.1 k)) (he : E.2.1 k = H.size) (ho : ∀ q, q < H.size → H1[q]? = H[q]?) (hat : va_at E.1 clx (E.2.1 k, cnt E g r z k) H1) : Wd E A (k + 1) g r z H1 := by
  unfold Wd
  rw [wsl_succ]
  refine ⟨(hW.1.kept (fun i x hx => ho x.1 (hW.1 i x hx).lt)).app (fun i x hx => ?_), hW.2.push hW.1 he hA⟩
  have hz : i < 1 := (List.getElem?_eq_some_iff.mp hx).1
  rw [show i = 0 by omega] at hx
  cases hx
  exact hat
theorem Wd.size {E : Ev} {A : Nat → Prop} {k : Nat} {g : IG} {r : RG} {z : Int64} {H : Heap} (hE : Sq E) (hW : Wd E A (k + 1) g r z H) : E.2.1 0 + k < H.size := by
  have h := (hW.1 k _ (wsl_at (Nat.lt_succ_self k))).lt
  rw [← hE k]
  exact h
theorem gk_sz {E : Ev} {A B : Nat → Prop} {k cells : Nat} {g : IG} {r : RG} {z : Int64} {s : State} {H : Heap} {locs : List Loc} (hE : Sq E) (a : Wd E A k g r z H) (b : va_S B s.heap H locs) (hz : H.size ≤ s.heap.size + cells) (hc : s.heap.size + cells = E.2.1 0 + k) (h0 : k = 0 → cells = 0) : E.2.1 k = H.size := by
  rw [hE k]
  cases k with
  | zero =>
    have := h0 rfl
    have := b.1
    omega
  | succ k =>
    have := Wd.size hE a
    omega
theorem Wd.up {E : Ev} {A B : Nat → Prop} {k : Nat} {g : IG} {r : RG} {z : Int64} {H : Heap} (h : Wd E A k g r z H) (hAB : ∀ q, A q → B q) : Wd E B k g r z H := ⟨h.1, h.2.1, fun i q hi => hAB _ (h.2.2 i q hi)⟩
theorem Ad.up {E : Ev} {k n : Nat} (h : k ≤ n) {q : Nat} (hq : Ad E k q) : Ad E n q := by
  obtain ⟨i, hi, e⟩ := hq
  exact ⟨i, by omega, e⟩
section GK
variable {p : Program} {l : Launch} {e : Env} {R : Room} {s : State} {m : MethodId} {args : Array Value} {below : List Frame} {meth : Method} {c : Code} {E : Ev} {k0 nL cells slots : Nat} {Q : State → Prop} {cc : ByteArray} {own : String} {ret : Option FieldType} {g : IG} {r : RG} {z : Int64} {pc pc' : Nat} {lv : LV} {st : List Value}
theorem gk_iconst (cx : Cx p s m args meth c E 88 cc nL own ret) {k : Int} (v : Int32) (hdg : decode cc pc = .ok (.iconst k, 1)) (hv : Int32.ofInt k = v) (hp : pc + 1 = pc')
    (kk : GoK p l e R s m args below meth c E k0 nL cells slots Q g r z pc' lv (.int v :: st)) : GoK p l e R s m args below meth c E k0 nL cells slots Q g r z pc lv st := by
  subst hp
  exact fun H locs ls a b h => lv_iconst cx.1.1 cx.1.2.1 hdg hv (kk H locs ls a b h)
theorem gk_bipush (cx : Cx p s m args meth c E 88 cc nL own ret) {k : Int} (v : Int32) (hdg : decode cc pc = .ok (.bipush k, 2)) (hv : (Int8.ofInt k).toInt32 = v) (hp : pc + 2 = pc')
    (kk : GoK p l e R s m args below meth c E k0 nL cells slots Q g r z pc' lv (.int v :: st)) : GoK p l e R s m args below meth c E k0 nL cells slots Q g r z pc lv st := by
  subst hp
  exact fun H locs ls a b h => lv_bipush cx.1.1 cx.1.2.1 hdg hv (kk H locs ls a b h)
theorem gk_sipush (cx : Cx p s m args meth c E 88 cc nL own ret) {k : Int} (v : Int32) (hdg : decode cc pc = .ok (.sipush k, 3)) (hv : (Int16.ofInt k).toInt32 = v) (hp : pc + 3 = pc')
    (kk : GoK p l e R s m args below meth c E k0 nL cells slots Q g r z pc' lv (.int v :: st)) : GoK p l e R s m args below meth c E k0 nL cells slots Q g r z pc lv st := by
  subst hp
  exact fun H locs ls a b h => lv_sipush cx.1.1 cx.1.2.1 hdg hv (kk H locs ls a b h)
theorem gk_iload_n (cx : Cx p s m args meth c E 88 cc nL own ret) {k : Fin 4} {x : Int32} (hdg : decode cc pc = .ok (.iload_n k, 1)) (hl : lv.lookup (k : Nat) = some (.int x)) (hp : pc + 1 = pc')
    (kk : GoK p l e R s m args below meth c E k0 nL cells slots Q g r z pc' lv (.int x :: st)) : GoK p l e R s m args below meth c E k0 nL cells slots Q g r z pc lv st := by
  subst hp
  exact fun H locs ls a b h => lv_iload_n cx.1.1 cx.1.2.1 hdg rfl (lv_lk h hl) (kk H locs ls a b h)
theorem gk_iload (cx : Cx p s m args meth c E 88 cc nL own ret) {k : Nat} {x : Int32} (hdg : decode cc pc = .ok (.iload k, 2)) (hl : lv.lookup k = some (.int x)) (hp : pc + 2 = pc')
    (kk : GoK p l e R s m args below meth c E k0 nL cells slots Q g r z pc' lv (.int x :: st)) : GoK p l e R s m args below meth c E k0 nL cells slots Q g r z pc lv st := by
  subst hp
  exact fun H locs ls a b h => lv_iload cx.1.1 cx.1.2.1 hdg (lv_lk h hl) (kk H locs ls a b h)
theorem gk_aload_n (cx : Cx p s m args meth c E 88 cc nL own ret) {k : Fin 4} {x : Nat} (hdg : decode cc pc = .ok (.aload_n k, 1)) (hl : lv.lookup (k : Nat) = some (.ref x)) (hp : pc + 1 = pc')
    (kk : GoK p l e R s m args below meth c E k0 nL cells slots Q g r z pc' lv (.ref x :: st)) : GoK p l e R s m args below meth c E k0 nL cells slots Q g r z pc lv st := by
  subst hp
  exact fun H locs ls a b h => lv_aload_n cx.1.1 cx.1.2.1 hdg rfl (lv_lk h hl) (kk H locs ls a b h)
theorem gk_aload (cx : Cx p s m args meth c E 88 cc nL own ret) {k : Nat} {x : Nat} (hdg : decode cc pc = .ok (.aload k, 2)) (hl : lv.lookup k = some (.ref x)) (hp : pc + 2 = pc')
    (kk : GoK p l e R s m args below meth c E k0 nL cells slots Q g r z pc' lv (.ref x :: st)) : GoK p l e R s m args below meth c E k0 nL cells slots Q g r z pc lv st := by
  subst hp
  exact fun H locs ls a b h => lv_aload cx.1.1 cx.1.2.1 hdg (lv_lk h hl) (kk H locs ls a b h)
theorem gk_istore_n (cx : Cx p s m args meth c E 88 cc nL own ret) {k : Fin 4} {x : Int32} (hdg : decode cc pc = .ok (.istore_n k, 1)) (hn : (k : Nat) < nL) (lv' : LV) (hl : lvs lv (k : Nat) (.int x) = lv') (hp : pc + 1 = pc')
    (kk : GoK p l e R s m args below meth c E k0 nL cells slots Q g r z pc' lv' st) : GoK p l e R s m args below meth c E k0 nL cells slots Q g r z pc lv (.int x :: st) := by
  subst hp
  exact fun H locs ls a b h => lv_istore_n cx.1.1 cx.1.2.1 hdg rfl h hn hl (fun ls' h' => kk H locs ls' a b h')
theorem gk_istore (cx : Cx p s m args meth c E 88 cc nL own ret) {k : Nat} {x : Int32} (hdg : decode cc pc = .ok (.istore k, 2)) (hn : k < nL) (lv' : LV) (hl : lvs lv k (.int x) = lv') (hp : pc + 2 = pc')
    (kk : GoK p l e R s m args below meth c E k0 nL cells slots Q g r z pc' lv' st) : GoK p l e R s m args below meth c E k0 nL cells slots Q g r z pc lv (.int x :: st) := by
  subst hp
  exact fun H locs ls a b h => lv_istore cx.1.1 cx.1.2.1 hdg h hn hl (fun ls' h' => kk H locs ls' a b h')
theorem gk_astore_n (cx : Cx p s m args meth c E 88 cc nL own ret) {k : Fin 4} {x : Nat} (hdg : decode cc pc = .ok (.astore_n k, 1)) (hn : (k : Nat) < nL) (lv' : LV) (hl : lvs lv (k : Nat) (.ref x) = lv') (hp : pc + 1 = pc')
    (kk : GoK p l e R s m args below meth c E k0 nL cells slots Q g r z pc' lv' st) : GoK p l e R s m args below meth c E k0 nL cells slots Q g r z pc lv (.ref x :: st) := by
  subst hp
  exact fun H locs ls a b h => lv_astore_n cx.1.1 cx.1.2.1 hdg rfl h hn hl (fun ls' h' => kk H locs ls' a b h')
theorem gk_iadd (cx : Cx p s m args meth c E 88 cc nL own ret) {x y : Int32} (hdg : decode cc pc = .ok (.iadd, 1)) (hp : pc + 1 = pc')
    (kk : GoK p l e R s m args below meth c E k0 nL cells slots Q g r z pc' lv (.int (x + y) :: st)) : GoK p l e R s m args below meth c E k0 nL cells slots Q g r z pc lv (.int y :: .int x :: st) := by
  subst hp
  exact fun H locs ls a b h => lv_iadd cx.1.1 cx.1.2.1 hdg (kk H locs ls a b h)
theorem gk_isub (cx : Cx p s m args meth c E 88 cc nL own ret) {x y : Int32} (hdg : decode cc pc = .ok (.isub, 1)) (hp : pc + 1 = pc')
    (kk : GoK p l e R s m args below meth c E k0 nL cells slots Q g r z pc' lv (.int (x - y) :: st)) : GoK p l e R s m args below meth c E k0 nL cells slots Q g r z pc lv (.int y :: .int x :: st) := by
  subst hp
  exact fun H locs ls a b h => lv_isub cx.1.1 cx.1.2.1 hdg (kk H locs ls a b h)
theorem gk_iand (cx : Cx p s m args meth c E 88 cc nL own ret) {x y : Int32} (hdg : decode cc pc = .ok (.iand, 1)) (hp : pc + 1 = pc')
    (kk : GoK p l e R s m args below meth c E k0 nL cells slots Q g r z pc' lv (.int (x &&& y) :: st)) : GoK p l e R s m args below meth c E k0 nL cells slots Q g r z pc lv (.int y :: .int x :: st) := by
  subst hp
  exact fun H locs ls a b h => lv_iand cx.1.1 cx.1.2.1 hdg (kk H locs ls a b h)
theorem gk_dup (cx : Cx p s m args meth c E 88 cc nL own ret) {v : Value} (hv : v.category = 1) (hdg : decode cc pc = .ok (.dup, 1)) (hp : pc + 1 = pc')
    (kk : GoK p l e R s m args below meth c E k0 nL cells slots Q g r z pc' lv (v :: v :: st)) : GoK p l e R s m args below meth c E k0 nL cells slots Q g r z pc lv (v :: st) := by
  subst hp
  exact fun H locs ls a b h => lv_dup cx.1.1 cx.1.2.1 hdg hv (kk H locs ls a b h)
theorem gk_pop (cx : Cx p s m args meth c E 88 cc nL own ret) {v : Value} (hv : v.category = 1) (hdg : decode cc pc = .ok (.pop, 1)) (hp : pc + 1 = pc')
    (kk : GoK p l e R s m args below meth c E k0 nL cells slots Q g r z pc' lv (st)) : GoK p l e R s m args below meth c E k0 nL cells slots Q g r z pc lv (v :: st) := by
  subst hp
  exact fun H locs ls a b h => lv_pop cx.1.1 cx.1.2.1 hdg hv (kk H locs ls a b h)
theorem gk_iinc (cx : Cx p s m args meth c E 88 cc nL own ret) {k : Nat} {d : Int} {x : Int32} (v : Int32) (hdg : decode cc pc = .ok (.iinc k d, 3)) (hl : lv.lookup k = some (.int x)) (hv : x + Int32.ofInt d = v) (hn : k < nL) (lv' : LV) (hl' : lvs lv k (.int v) = lv') (hp : pc + 3 = pc')
    (kk : GoK p l e R s m args below meth c E k0 nL cells slots Q g r z pc' lv' st) : GoK p l e R s m args below meth c E k0 nL cells slots Q g r z pc lv st := by
  subst hp
  intro H locs ls a b h
  obtain ⟨q, hq⟩ := lk_at hl
  exact lv_iinc cx.1.1 cx.1.2.1 hdg h hq hv hn hl' (fun ls' h' => kk H locs ls' a b h')
theorem gk_if_eq (cx : Cx p s m args meth c E 88 cc nL own ret) {x : Int32} {off : Int} (tgt : Nat) (hdg : decode cc pc = .ok (.ifCond .eq off, 3)) (ht : (pc : Int) + off = (tgt : Int)) (hp : pc + 3 = pc')
    (kt : x = 0 → GoK p l e R s m args below meth c E k0 nL cells slots Q g r z tgt lv st) (kf : ¬ x = 0 → GoK p l e R s m args below meth c E k0 nL cells slots Q g r z pc' lv st) : GoK p l e R s m args below meth c E k0 nL cells slots Q g r z pc lv (.int x :: st) := by
  subst hp
  exact fun H locs ls a b h => lv_if_eq cx.1.1 cx.1.2.1 hdg ht (fun q => kt q H locs ls a b h) (fun q => kf q H locs ls a b h)
theorem gk_if_ne (cx : Cx p s m args meth c E 88 cc nL own ret) {x : Int32} {off : Int} (tgt : Nat) (hdg : decode cc pc = .ok (.ifCond .ne off, 3)) (ht : (pc : Int) + off = (tgt : Int)) (hp : pc + 3 = pc')
    (kt : ¬ x = 0 → GoK p l e R s m args below meth c E k0 nL cells slots Q g r z tgt lv st) (kf : x = 0 → GoK p l e R s m args below meth c E k0 nL cells slots Q g r z pc' lv st) : GoK p l e R s m args below meth c E k0 nL cells slots Q g r z pc lv (.int x :: st) := by
  subst hp
  exact fun H locs ls a b h => lv_if_ne cx.1.1 cx.1.2.1 hdg ht (fun q => kt q H locs ls a b h) (fun q => kf q H locs ls a b h)
theorem gk_icmp_eq (cx : Cx p s m args meth c E 88 cc nL own ret) {x y : Int32} {off : Int} (tgt : Nat) (hdg : decode cc pc = .ok (.if_icmp .eq off, 3)) (ht : (pc : Int) + off = (tgt : Int)) (hp : pc + 3 = pc')
    (kt : x = y → GoK p l e R s m args below meth c E k0 nL cells slots Q g r z tgt lv st) (kf : ¬ x = y → GoK p l e R s m args below meth c E k0 nL cells slots Q g r z pc' lv st) : GoK p l e R s m args below meth c E k0 nL cells slots Q g r z pc lv (.int y :: .int x :: st) := by
  subst hp
  exact fun H locs ls a b h => lv_icmp_eq cx.1.1 cx.1.2.1 hdg ht (fun q => kt q H locs ls a b h) (fun q => kf q H locs ls a b h)
theorem gk_icmp_ne (cx : Cx p s m args meth c E 88 cc nL own ret) {x y : Int32} {off : Int} (tgt : Nat) (hdg : decode cc pc = .ok (.if_icmp .ne off, 3)) (ht : (pc : Int) + off = (tgt : Int)) (hp : pc + 3 = pc')
    (kt : ¬ x = y → GoK p l e R s m args below meth c E k0 nL cells slots Q g r z tgt lv st) (kf : x = y → GoK p l e R s m args below meth c E k0 nL cells slots Q g r z pc' lv st) : GoK p l e R s m args below meth c E k0 nL cells slots Q g r z pc lv (.int y :: .int x :: st) := by
  subst hp
  exact fun H locs ls a b h => lv_icmp_ne cx.1.1 cx.1.2.1 hdg ht (fun q => kt q H locs ls a b h) (fun q => kf q H locs ls a b h)
theorem gk_icmp_ge (cx : Cx p s m args meth c E 88 cc nL own ret) {x y : Int32} {off : Int} (tgt : Nat) (hdg : decode cc pc = .ok (.if_icmp .ge off, 3)) (ht : (pc : Int) + off = (tgt : Int)) (hp : pc + 3 = pc')
    (kt : y ≤ x → GoK p l e R s m args below meth c E k0 nL cells slots Q g r z tgt lv st) (kf : ¬ y ≤ x → GoK p l e R s m args below meth c E k0 nL cells slots Q g r z pc' lv st) : GoK p l e R s m args below meth c E k0 nL cells slots Q g r z pc lv (.int y :: .int x :: st) := by
  subst hp
  exact fun H locs ls a b h => lv_icmp_ge cx.1.1 cx.1.2.1 hdg ht (fun q => kt q H locs ls a b h) (fun q => kf q H locs ls a b h)
theorem gk_icmp_gt (cx : Cx p s m args meth c E 88 cc nL own ret) {x y : Int32} {off : Int} (tgt : Nat) (hdg : decode cc pc = .ok (.if_icmp .gt off, 3)) (ht : (pc : Int) + off = (tgt : Int)) (hp : pc + 3 = pc')
    (kt : y < x → GoK p l e R s m args below meth c E k0 nL cells slots Q g r z tgt lv st) (kf : ¬ y < x → GoK p l e R s m args below meth c E k0 nL cells slots Q g r z pc' lv st) : GoK p l e R s m args below meth c E k0 nL cells slots Q g r z pc lv (.int y :: .int x :: st) := by
  subst hp
  exact fun H locs ls a b h => lv_icmp_gt cx.1.1 cx.1.2.1 hdg ht (fun q => kt q H locs ls a b h) (fun q => kf q H locs ls a b h)
theorem gk_goto (cx : Cx p s m args meth c E 88 cc nL own ret) {off : Int} (tgt : Nat) (hdg : decode cc pc = .ok (.goto off, 3)) (ht : (pc : Int) + off = (tgt : Int))
    (kk : GoK p l e R s m args below meth c E k0 nL cells slots Q g r z tgt lv st) : GoK p l e R s m args below meth c E k0 nL cells slots Q g r z pc lv st := fun H locs ls a b h => lv_goto cx.1.1 cx.1.2.1 hdg ht (kk H locs ls a b h)
theorem gk_tabIn (cx : Cx p s m args meth c E 88 cc nL own ret) {dflt lo hi : Int} {offs : Array Int} {len : Nat} {x : Int32} {off : Int} (tgt : Nat) (hdg : decode cc pc = .ok (.tableswitch dflt lo hi offs, len)) (h1 : ¬ x.toInt < lo) (h2 : ¬ hi < x.toInt) (ho : offs[(x.toInt - lo).toNat]? = some off) (ht : (pc : Int) + off = (tgt : Int))
    (kk : GoK p l e R s m args below meth c E k0 nL cells slots Q g r z tgt lv st) : GoK p l e R s m args below meth c E k0 nL cells slots Q g r z pc lv (.int x :: st) := fun H locs ls a b h => lv_tableIn cx.1.1 cx.1.2.1 hdg h1 h2 ho ht (kk H locs ls a b h)
theorem gk_tabOut (cx : Cx p s m args meth c E 88 cc nL own ret) {dflt lo hi : Int} {offs : Array Int} {len : Nat} {x : Int32} (tgt : Nat) (hdg : decode cc pc = .ok (.tableswitch dflt lo hi offs, len)) (h : x.toInt < lo ∨ hi < x.toInt) (ht : (pc : Int) + dflt = (tgt : Int))
    (kk : GoK p l e R s m args below meth c E k0 nL cells slots Q g r z tgt lv st) : GoK p l e R s m args below meth c E k0 nL cells slots Q g r z pc lv (.int x :: st) := fun H locs ls a b h9 => lv_tableOut cx.1.1 cx.1.2.1 hdg h ht (kk H locs ls a b h9)
theorem gk_name {x : Int32} (kk : ∀ y : Int32, y = x → GoK p l e R s m args below meth c E k0 nL cells slots Q g r z pc lv (.int y :: st)) : GoK p l e R s m args below meth c E k0 nL cells slots Q g r z pc lv (.int x :: st) := kk x rfl
theorem gk_val {v w : Value} (h : v = w) (kk : GoK p l e R s m args below meth c E k0 nL cells slots Q g r z pc lv (w :: st)) : GoK p l e R s m args below meth c E k0 nL cells slots Q g r z pc lv (v :: st) := h ▸ kk
theorem gk_g {g' : IG} (h : g = g') (kk : GoK p l e R s m args below meth c E k0 nL cells slots Q g' r z pc lv st) : GoK p l e R s m args below meth c E k0 nL cells slots Q g r z pc lv st := h ▸ kk
theorem gk_geti (cx : Cx p s m args meth c E 88 cc nL own ret) {idx ci k i N : Nat} (v : Int32) (hf : FL own idx ci k) (hdg : decode cc pc = .ok (.getfield idx, 3)) (hk : kd i = (ci, N)) (hi : i < k0) (hc : ci < 7) (ht : ftc ci k = 0) (hv : g i k = v) (hp : pc + 3 = pc')
    (kk : GoK p l e R s m args below meth c E k0 nL cells slots Q g r z pc' lv (.int v :: st)) : GoK p l e R s m args below meth c E k0 nL cells slots Q g r z pc lv (.ref (E.2.1 i) :: st) := by
  subst hp
  intro H locs ls a b h
  obtain ⟨C, T, N', ty, q1, q2, q3, q4, q5, q6, q7⟩ := hf
  obtain ⟨⟨hx, hb, hml, hown, hts⟩, hr, hlk, hK, hX⟩ := cx
  have hN : N' = N := by
    have := clx_N i ci N hk hc
    rw [q1] at this
    exact Option.some.inj this
  subst hN
  exact va_get (ci := ci) (C := C) (T := T) (N := N') (k := k) (v := .int v) hx hb hts q5 hown hK.1 a.1 i (by rw [wsl_at hi, cnt_o hk hc]) q1 q2 (hts _ q3) (fun x hx => by rw [q4] at hx; exact hx) (by rw [fls_at q2, ht, ← hv]; rfl) hdg (kk H locs ls a b h)
theorem gk_getr (cx : Cx p s m args meth c E 88 cc nL own ret) {idx ci k i N : Nat} (y : Nat) (hf : FL own idx ci k) (hdg : decode cc pc = .ok (.getfield idx, 3)) (hk : kd i = (ci, N)) (hi : i < k0) (hc : ci < 7) (ht : ftc ci k = 1) (hv : r i k = some y) (hp : pc + 3 = pc')
    (kk : GoK p l e R s m args below meth c E k0 nL cells slots Q g r z pc' lv (.ref (E.2.1 y) :: st)) : GoK p l e R s m args below meth c E k0 nL cells slots Q g r z pc lv (.ref (E.2.1 i) :: st) := by
  subst hp
  intro H locs ls a b h
  obtain ⟨C, T, N', ty, q1, q2, q3, q4, q5, q6, q7⟩ := hf
  obtain ⟨⟨hx, hb, hml, hown, hts⟩, hr, hlk, hK, hX⟩ := cx
  have hN : N' = N := by
    have := clx_N i ci N hk hc
    rw [q1] at this
    exact Option.some.inj this
  subst hN
  exact va_get (ci := ci) (C := C) (T := T) (N := N') (k := k) (v := .ref (E.2.1 y)) hx hb hts q5 hown hK.1 a.1 i (by rw [wsl_at hi, cnt_o hk hc]) q1 q2 (hts _ q3) (fun x hx => by rw [q4] at hx; exact hx) (by rw [fls_at q2, ht]; show some (va_rf ((r i k).map E.2.1)) = _; rw [hv]; rfl) hdg (kk H locs ls a b h)
theorem gk_puti (cx : Cx p s m args meth c E 88 cc nL own ret) {idx ci k i N : Nat} {v : Int32} (hf : FL own idx ci k) (hdg : decode cc pc = .ok (.putfield idx, 3)) (hk : kd i = (ci, N)) (hi : i < k0) (hc : ci < 7) (ht : ftc ci k = 0) (hn : fin ci k = false) (hd : dsc ci k = "I") (hp : pc + 3 = pc')
    (kk : GoK p l e R s m args below meth c E k0 nL cells slots Q (up2 g i k v) r z pc' lv st) : GoK p l e R s m args below meth c E k0 nL cells slots Q g r z pc lv (.int v :: .ref (E.2.1 i) :: st) := by
  subst hp
  intro H locs ls a b h
  obtain ⟨C, T, N', ty, q1, q2, q3, q4, q5, q6, q7⟩ := hf
  obtain ⟨⟨hx, hb, hml, hown, hts⟩, hr, hlk, hK, hX⟩ := cx
  have hN : N' = N := by
    have := clx_N i ci N hk hc
    rw [q1] at this
    exact Option.some.inj this
  subst hN
  have hfin : (T k).2.2.2 = false := by
    unfold fin at hn
    rw [q1] at hn
    exact hn
  have hdsc : parseFieldDescriptor (T k).2.2.1 = some .int := by
    unfold dsc at hd
    rw [q1] at hd
    rw [show (T k).2.2.1 = "I" from hd]
    exact pfd_I
  refine va_put (ci := ci) (C := C) (T := T) (N := N') (k := k) (v := .int v) (ty := .int) hx hb hts q5 ty q6 q7 hown hK.1 a.1 a.2 b i (by rw [wsl_at hi, cnt_o hk hc]) q1 q2 (hts _ q3) (fun x hx => by rw [q4] at hx; exact hx) hfin hdsc rfl (rfl) (by rw [fls_len]; exact q2) hdg (fun H1 locs1 hP hD hS => ?_)
  rw [wsl_puti v hi hk hc q2 ht] at hP hD
  exact kk H1 locs1 ls ⟨hP, hD⟩ hS h
theorem gk_putz (cx : Cx p s m args meth c E 88 cc nL own ret) {idx ci k i N : Nat} {v : Int32} (hf : FL own idx ci k) (hdg : decode cc pc = .ok (.putfield idx, 3)) (hk : kd i = (ci, N)) (hi : i < k0) (hc : ci < 7) (ht : ftc ci k = 0) (hn : fin ci k = false) (hd : dsc ci k = "Z") (hz : v = 0 ∨ v = 1) (hp : pc + 3 = pc')
    (kk : GoK p l e R s m args below meth c E k0 nL cells slots Q (up2 g i k v) r z pc' lv st) : GoK p l e R s m args below meth c E k0 nL cells slots Q g r z pc lv (.int v :: .ref (E.2.1 i) :: st) := by
  subst hp
  intro H locs ls a b h
  obtain ⟨C, T, N', ty, q1, q2, q3, q4, q5, q6, q7⟩ := hf
  obtain ⟨⟨hx, hb, hml, hown, hts⟩, hr, hlk, hK, hX⟩ := cx
  have hN : N' = N := by
    have := clx_N i ci N hk hc
    rw [q1] at this
    exact Option.some.inj this
  subst hN
  have hfin : (T k).2.2.2 = false := by
    unfold fin at hn
    rw [q1] at hn
    exact hn
  have hdsc : parseFieldDescriptor (T k).2.2.1 = some .boolean := by
    unfold dsc at hd
    rw [q1] at hd
    rw [show (T k).2.2.1 = "Z" from hd]
    exact pfd_Z
  refine va_put (ci := ci) (C := C) (T := T) (N := N') (k := k) (v := .int v) (ty := .boolean) hx hb hts q5 ty q6 q7 hown hK.1 a.1 a.2 b i (by rw [wsl_at hi, cnt_o hk hc]) q1 q2 (hts _ q3) (fun x hx => by rw [q4] at hx; exact hx) hfin hdsc (nar_of_z hz) (fits_of_z hz) (by rw [fls_len]; exact q2) hdg (fun H1 locs1 hP hD hS => ?_)
  rw [wsl_puti v hi hk hc q2 ht] at hP hD
  exact kk H1 locs1 ls ⟨hP, hD⟩ hS h
theorem gk_iast (cx : Cx p s m args meth c E 88 cc nL own ret) {i N : Nat} {j v : Int32} (hdg : decode cc pc = .ok (.iastore, 1)) (hk : kd i = (10, N)) (hi : i < k0) (hj : vp_in j N) (hp : pc + 1 = pc')
    (kk : GoK p l e R s m args below meth c E k0 nL cells slots Q (up2 g i j.toNatClampNeg v) r z pc' lv st) : GoK p l e R s m args below meth c E k0 nL cells slots Q g r z pc lv (.int v :: .int j :: .ref (E.2.1 i) :: st) := by
  subst hp
  intro H locs ls a b h
  refine va_iast (f := g i) (n := N) cx.1.1 cx.1.2.1 cx.2.2.2.1.1 a.1 a.2 b i 0 (by rw [wsl_at hi, cnt_i hk (by decide) (by decide)]) rfl hj hdg (fun H1 locs1 hP hD hS => ?_)
  rw [wsl_asti v hi hk (by decide) (by decide)] at hP hD
  exact kk H1 locs1 ls ⟨hP, hD⟩ hS h
theorem gk_iastk (cx : Cx p s m args meth c E 88 cc nL own ret) {i N : Nat} {j v : Int32} (k : Nat) (hdg : decode cc pc = .ok (.iastore, 1)) (hk : kd i = (10, N)) (hi : i < k0) (hj : vp_in j N) (hjk : j.toNatClampNeg = k) (hp : pc + 1 = pc')
    (kk : GoK p l e R s m args below meth c E k0 nL cells slots Q (up2 g i k v) r z pc' lv st) : GoK p l e R s m args below meth c E k0 nL cells slots Q g r z pc lv (.int v :: .int j :: .ref (E.2.1 i) :: st) := by
  subst hjk
  exact gk_iast cx hdg hk hi hj hp kk
theorem gk_aald (cx : Cx p s m args meth c E 88 cc nL own ret) {i N ci : Nat} {j : Int32} (y : Nat) (hdg : decode cc pc = .ok (.aaload, 1)) (hk : kd i = (ci, N)) (hc : 12 ≤ ci) (hc2 : ci < 15) (hi : i < k0) (hj : vp_in j N) (hv : r i j.toNatClampNeg = some y) (hp : pc + 1 = pc')
    (kk : GoK p l e R s m args below meth c E k0 nL cells slots Q g r z pc' lv (.ref (E.2.1 y) :: st)) : GoK p l e R s m args below meth c E k0 nL cells slots Q g r z pc lv (.int j :: .ref (E.2.1 i) :: st) := by
  subst hp
  intro H locs ls a b h
  have hlt : j.toNatClampNeg < N := Nat.not_le.mp fun q => hj (Or.inr q)
  have ha : (wsl E k0 g r z)[i]? = some (E.2.1 i, .inl (E.2.2.1 ci, N, .inr (.inr (.inr (.inr (fun k => (r i k).map E.2.1)))))) := by rw [wsl_at hi, cnt_r hk (by omega) (by omega)]
  have hK := cx.2.2.2.1.1
  obtain ⟨ty, hty, hrf⟩ : ∃ ty : FieldType, (tyx E)[ci - 10]? = some (E.2.2.1 ci, ty) ∧ ty.isReference = true := by
    rcases (show ci = 12 ∨ ci = 13 ∨ ci = 14 by omega) with rfl | rfl | rfl
    · exact ⟨_, rfl, rfl⟩
    · exact ⟨_, rfl, rfl⟩
    · exact ⟨_, rfl, rfl⟩
  exact W.aald (v := .ref (E.2.1 y)) (ty := ty) cx.1.1 cx.1.2.1 (a.1 i _ ha) ((hK.2 _ _ hty).1 N (fun k => va_rf ((r i k).map E.2.1))) hrf (fun q => by cases q) (by show ¬ (j < 0 ∨ (arrV _ _ _).slots.size ≤ _); rw [arrV_size]; exact hj) (by show (arrV _ _ _).slots[_]? = _; rw [arrV_read _ _ hlt]; show some (va_rf ((r i j.toNatClampNeg).map E.2.1)) = _; rw [hv]; rfl) rfl rfl hdg (kk H locs ls a b h)
theorem gk_aaldk (cx : Cx p s m args meth c E 88 cc nL own ret) {i N ci : Nat} {j : Int32} (k y : Nat) (hdg : decode cc pc = .ok (.aaload, 1)) (hk : kd i = (ci, N)) (hc : 12 ≤ ci) (hc2 : ci < 15) (hi : i < k0) (hj : vp_in j N) (hjk : j.toNatClampNeg = k) (hv : r i k = some y) (hp : pc + 1 = pc')
    (kk : GoK p l e R s m args below meth c E k0 nL cells slots Q g r z pc' lv (.ref (E.2.1 y) :: st)) : GoK p l e R s m args below meth c E k0 nL cells slots Q g r z pc lv (.int j :: .ref (E.2.1 i) :: st) := by
  subst hjk
  exact gk_aald cx y hdg hk hc hc2 hi hj hv hp kk
theorem gk_sub (ks : List Nat) (lv' : LV) (hl : lv_pick lv ks = lv') (kk : GoK p l e R s m args below meth c E k0 nL cells slots Q g r z pc lv' st) : GoK p l e R s m args below meth c E k0 nL cells slots Q g r z pc lv st :=
  fun H locs ls a b h => kk H locs ls a b (lv_sub h ks hl)
theorem gk_ldcs (cx : Cx p s m args meth c E 88 cc nL own ret) {i idx : Nat} {tx : String} (hq : owS[i]? = some (own, idx, tx)) (hdg : decode cc pc = .ok (.ldc idx, 2)) (hp : pc + 2 = pc')
    (kk : GoK p l e R s m args below meth c E k0 nL cells slots Q g r z pc' lv (.ref (E.2.2.2.1 i) :: st)) : GoK p l e R s m args below meth c E k0 nL cells slots Q g r z pc lv st := by
  subst hp
  exact fun H locs ls a b h => va_ldcS cx.1.1 cx.1.2.1 cx.1.2.2.2.1 (cx.2.2.2.1.2 i _ hq) hdg (kk H locs ls a b h)
theorem gk_lcmp (cx : Cx p s m args meth c E 88 cc nL own ret) {x y : Int64} (hdg : decode cc pc = .ok (.lcmp, 1)) (hp : pc + 1 = pc')
    (kk : GoK p l e R s m args below meth c E k0 nL cells slots Q g r z pc' lv (.int (lg_cmp x y) :: st)) : GoK p l e R s m args below meth c E k0 nL cells slots Q g r z pc lv (.long y :: .long x :: st) := by
  subst hp
  exact fun H locs ls a b h => W.lcmp cx.1.1 cx.1.2.1 hdg (kk H locs ls a b h)
theorem gk_tabD (cx : Cx p s m args meth c E 88 cc nL own ret) {dflt lo hi : Int} {offs : Array Int} {len : Nat} {x : Int32} (tgt : Nat) (hdg : decode cc pc = .ok (.tableswitch dflt lo hi offs, len)) (h : (x.toInt < lo ∨ hi < x.toInt) ∨ (¬ x.toInt < lo ∧ ¬ hi < x.toInt ∧ offs[(x.toInt - lo).toNat]? = some dflt)) (ht : (pc : Int) + dflt = (tgt : Int))
    (kk : GoK p l e R s m args below meth c E k0 nL cells slots Q g r z tgt lv st) : GoK p l e R s m args below meth c E k0 nL cells slots Q g r z pc lv (.int x :: st) := by
  rcases h with h | ⟨h1, h2, h3⟩
  · exact gk_tabOut cx tgt hdg h ht kk
  · exact gk_tabIn cx tgt hdg h1 h2 h3 ht kk
/-- what the tables say of a class that an instruction makes -/
def NW (own : String) (idx ci : Nat) : Prop := ∃ (C : String) (T : u_T) (N : Nat) (ty : Nat → FieldType), clx[ci]? = some (C, T, N) ∧ Cond.classLink own idx C ∈ lwg ∧ Cond.instantiable C N ∈ lwg ∧ Cond.initialized C ∈ lwg ∧ (∀ w ∈ u_ws C T N, w ∈ lwg) ∧ (∀ k, k < N → parseFieldDescriptor (T k).2.2.1 = some (ty k)) ∧ ∀ k, k < N → (ftc ci k = 0 ∧ defaultValue (ty k) = .int 0) ∨ (ftc ci k = 1 ∧ defaultValue (ty k) = .null) ∨ (ftc ci k = 2 ∧ defaultValue (ty k) = .long 0)
theorem gk_new (cx : Cx p s m args meth c E 88 cc nL own ret) {idx ci N : Nat} (hE : Sq E) (hcz : s.heap.size + cells = E.2.1 0 + k0) (h0 : k0 = 0 → cells = 0) (hk : k0 < 88) (hf : NW own idx ci) (hkd : kd k0 = (ci, N)) (hc : ci < 7) (hdg : decode cc pc = .ok (.new idx, 3)) (hcells : cells + 1 ≤ R.cells) (hslots : slots + N ≤ R.slots) (hg : ∀ j, g k0 j = 0) (hr : ∀ j, r k0 j = none) (hz0 : z = 0) (hp : pc + 3 = pc')
    (kk : GoK p l e R s m args below meth c E (k0 + 1) nL (cells + 1) (slots + N) Q g r z pc' lv (.ref (E.2.1 k0) :: st)) : GoK p l e R s m args below meth c E k0 nL cells slots Q g r z pc lv st := by
  subst hp
  intro H locs ls a b h
  refine W_size (fun hz => ?_)
  have hs := gk_sz hE a b hz hcz h0
  obtain ⟨C, T, N', ty, q1, q2, q3, q4, q5, q6, q7⟩ := hf
  obtain ⟨⟨hx, hb, hml, hown, hts⟩, hr9, hlk, hK, hX⟩ := cx
  have hN : N' = N := by
    have := clx_N k0 ci N hkd hc
    rw [q1] at this
    exact Option.some.inj this
  subst hN
  have hKn := hK.1.1 ci _ q1
  refine W.newcK hx hb hown (hts _ q2) (hts _ q3) (hts _ q4) rfl hdg hcells hslots hKn.2.1 hs.symm fun H1 kC hkC e1 z1 o1 => ?_
  refine kk H1 locs ls (a.grow ⟨k0, hk, rfl⟩ hs (fun q hq => o1 q (by rw [hs]; exact hq)) ?_) ⟨by have := b.1; omega, fun x h1 h2 => (o1 x (by have := b.1; omega)).trans (b.2.1 x h1 h2), b.2.2⟩ h
  rw [cnt_o hkd hc]
  refine ⟨_, q1, (u_born ty hts q5 hKn hkC e1 q6).to (fun j hj => ?_)⟩
  show defaultValue (ty j) = (fls E g r z k0 ci N').getD j .null
  rw [List.getD_eq_getElem?_getD, fls_at hj]
  show defaultValue (ty j) = fvl E g r z k0 j (ftc ci j)
  rcases q7 j hj with ⟨u, v⟩ | ⟨u, v⟩ | ⟨u, v⟩
  · rw [u, v]
    show Value.int 0 = .int (g k0 j)
    rw [hg]
  · rw [u, v]
    show Value.null = va_rf ((r k0 j).map E.2.1)
    rw [hr]
    rfl
  · rw [u, v]
    show Value.long 0 = .long z
    rw [hz0]
theorem gk_newi (cx : Cx p s m args meth c E 88 cc nL own ret) {n : Int32} {N : Nat} (hE : Sq E) (hcz : s.heap.size + cells = E.2.1 0 + k0) (h0 : k0 = 0 → cells = 0) (hk : k0 < 88) (hkd : kd k0 = (10, N)) (hw : Cond.arrayClass .int ∈ lwg) (hdg : decode cc pc = .ok (.newarray .int, 2)) (hn : ¬ n < 0) (hN : n.toNatClampNeg = N) (hby : N ≤ 100000) (hcells : cells + 1 ≤ R.cells) (hslots : slots + N ≤ R.slots) (hg : ∀ j, g k0 j = 0) (hp : pc + 2 = pc')
    (kk : GoK p l e R s m args below meth c E (k0 + 1) nL (cells + 1) (slots + N) Q g r z pc' lv (.ref (E.2.1 k0) :: st)) : GoK p l e R s m args below meth c E k0 nL cells slots Q g r z pc lv (.int n :: st) := by
  subst hp
  intro H locs ls a b h
  refine W_size (fun hz => ?_)
  have hs := gk_sz hE a b hz hcz h0
  obtain ⟨⟨hx, hb, hml, hown, hts⟩, hr9, hlk, hK, hX⟩ := cx
  refine va_newaK (atype := .int) hx hb (hts _ hw) rfl hdg rfl hn hN (by show N * 4 ≤ _; omega) hcells hslots hs.symm fun H1 cA e1 z1 o1 hAr hNm => ?_
  have eA : E.2.2.1 10 = cA := Option.some.inj ((va_nm_int (hK.1.2 0 _ rfl).2).symm.trans hNm)
  refine kk H1 locs ls (a.grow ⟨k0, hk, rfl⟩ hs (fun q hq => o1 q (by rw [hs]; exact hq)) ?_) ⟨by have := b.1; omega, fun x h1 h2 => (o1 x (by have := b.1; omega)).trans (b.2.1 x h1 h2), b.2.2⟩ h
  rw [cnt_i hkd (by decide) (by decide), eA, show g k0 = fun _ => 0 from funext hg]
  exact e1
theorem gk_newq (cx : Cx p s m args meth c E 88 cc nL own ret) {n : Int32} {N ci idx : Nat} {C : String} (hE : Sq E) (hcz : s.heap.size + cells = E.2.1 0 + k0) (h0 : k0 = 0 → cells = 0) (hk : k0 < 88) (hkd : kd k0 = (ci, N)) (hci : 12 ≤ ci) (ht : (tyx E)[ci - 10]? = some (E.2.2.1 ci, .object C)) (hw1 : Cond.classLink own idx C ∈ lwg) (hw2 : va_AO C s) (hdg : decode cc pc = .ok (.anewarray idx, 3)) (hn : ¬ n < 0) (hN : n.toNatClampNeg = N) (hby : N ≤ 100000) (hcells : cells + 1 ≤ R.cells) (hslots : slots + N ≤ R.slots) (hr : ∀ j, r k0 j = none) (hp : pc + 3 = pc')
    (kk : GoK p l e R s m args below meth c E (k0 + 1) nL (cells + 1) (slots + N) Q g r z pc' lv (.ref (E.2.1 k0) :: st)) : GoK p l e R s m args below meth c E k0 nL cells slots Q g r z pc lv (.int n :: st) := by
  subst hp
  subst hN
  intro H locs ls a b h
  refine W_size (fun hz => ?_)
  have hs := gk_sz hE a b hz hcz h0
  obtain ⟨⟨hx, hb, hml, hown, hts⟩, hr9, hlk, hK, hX⟩ := cx
  refine W.anew hx hb hown (hts _ hw1) (va_AO.use hw2) rfl hdg rfl hn (by omega) hcells hslots fun cA kA comp f1 f2 f3 f4 => ?_
  generalize hH1 : H.push ({ cls := cA, slots := Array.replicate n.toNatClampNeg .null, vm := .none } : Cell) = H1
  have z1 : H1.size = H.size + 1 := by rw [← hH1, Array.size_push]
  have e1 : H1[H.size]? = some (arrV cA n.toNatClampNeg (fun _ => .null)) := by rw [← hH1, Array.getElem?_push_size, ← arrV_new]
  have o1 : ∀ q : Nat, q < H.size → H1[q]? = H[q]? := fun q hq => by rw [← hH1, Array.getElem?_push, if_neg (Nat.ne_of_lt hq)]
  have eA : E.2.2.1 ci = cA := by
    obtain ⟨kA', comp', g1, g2, g3, g4⟩ := (hK.1.2 _ _ ht).2
    exact Option.some.inj (g4.symm.trans f1)
  have w := kk H1 locs ls (a.grow ⟨k0, hk, rfl⟩ hs o1 ?_) ⟨by have := b.1; omega, fun x h1 h2 => (o1 x (by have := b.1; omega)).trans (b.2.1 x h1 h2), b.2.2⟩ h
  · rw [hs] at w
    exact w
  · rw [cnt_r hkd (by omega) (by omega), eA, show (fun k => (r k0 k).map E.2.1) = fun _ => none from funext fun j => by rw [hr]; rfl, hs]
    exact e1
/-- a reference into a row of references -/
theorem gk_aast (cx : Cx p s m args meth c E 88 cc nL own ret) {i N ci cj M x : Nat} {j : Int32} {q : vw_C} (k : Nat) (hdg : decode cc pc = .ok (.aastore, 1)) (hk : kd i = (ci, N)) (hci : 12 ≤ ci) (hi : i < k0) (hkx : kd x = (cj, M)) (hcj : cj < 7) (hx : x < k0) (hq : clx[cj]? = some q) (ht : (tyx E)[ci - 10]? = some (E.2.2.1 ci, .object q.1)) (hj : vp_in j N) (hjk : j.toNatClampNeg = k) (hp : pc + 1 = pc')
    (kk : GoK p l e R s m args below meth c E k0 nL cells slots Q g (up2r r i k (some x)) z pc' lv st) : GoK p l e R s m args below meth c E k0 nL cells slots Q g r z pc lv (.ref (E.2.1 x) :: .int j :: .ref (E.2.1 i) :: st) := by
  subst hp
  subst hjk
  intro H locs ls a b h
  refine va_astq cx.1.1 cx.1.2.1 cx.2.2.2.1.1 a.1 a.2 b i (ci - 10) x cj (by rw [wsl_at hi, cnt_r hk (by omega) (by omega)]) ht (by rw [wsl_at hx, cnt_o hkx hcj]) hq hj hdg (fun H1 locs1 hP hD hS => ?_)
  rw [wsl_astr hi hk (by omega)] at hP hD
  exact kk H1 locs1 ls ⟨hP, hD⟩ hS h
/-- a final reference -/
theorem gk_putF (cx : Cx p s m args meth c E 88 cc nL own ret) {idx ci k i N x : Nat} {ty : FieldType} (hin : meth.name = "<init>") (hf : FL own idx ci k) (hdg : decode cc pc = .ok (.putfield idx, 3)) (hk : kd i = (ci, N)) (hi : i < k0) (hc : ci < 7) (ht : ftc ci k = 1) (hn : fin ci k = true) (ho : (clx[ci]?).map (fun q => (q.2.1 k).1) = some own) (hd : parseFieldDescriptor (dsc ci k) = some ty) (hty : narrow ty (.ref (E.2.1 x)) = .ref (E.2.1 x) ∧ fits ty (.ref (E.2.1 x)) = true) (hp : pc + 3 = pc')
    (kk : GoK p l e R s m args below meth c E k0 nL cells slots Q g (up2r r i k (some x)) z pc' lv st) : GoK p l e R s m args below meth c E k0 nL cells slots Q g r z pc lv (.ref (E.2.1 x) :: .ref (E.2.1 i) :: st) := by
  subst hp
  intro H locs ls a b h
  obtain ⟨C, T, N', ty0, q1, q2, q3, q4, q5, q6, q7⟩ := hf
  obtain ⟨⟨hx, hb, hml, hown, hts⟩, hr, hlk, hK, hX⟩ := cx
  have hN : N' = N := by
    have := clx_N i ci N hk hc
    rw [q1] at this
    exact Option.some.inj this
  subst hN
  have hfin : (T k).2.2.2 = true := by
    unfold fin at hn
    rw [q1] at hn
    exact hn
  have hdsc : parseFieldDescriptor (T k).2.2.1 = some ty := by
    unfold dsc at hd
    rw [q1] at hd
    exact hd
  have hdec : (T k).1 = own := by
    rw [q1] at ho
    exact Option.some.inj ho
  refine va_putF (ci := ci) (C := C) (T := T) (N := N') (v := .ref (E.2.1 x)) (ty := ty) hx hb hts q5 ty0 q6 q7 hown hK.1 a.1 a.2 b i (by rw [wsl_at hi, cnt_o hk hc]) q1 k q2 (hts _ q3) (fun x hx => by rw [q4] at hx; exact hx) hfin hin hdec hdsc hty.1 hty.2 (by rw [fls_len]; exact q2) hdg (fun H1 locs1 hP hD hS => ?_)
  rw [wsl_putr hi hk hc q2 ht] at hP hD
  exact kk H1 locs1 ls ⟨hP, hD⟩ hS h
theorem gk_obj (cx : Cx p s m args meth c E 88 cc nL own ret) {idx a0 : Nat} (hl : Cond.methodLink own idx Lib.objectInit ∈ lwg) (hw : Cond.instanceMethod Lib.objectInit ∈ lwg ∧ Cond.code Lib.objectInit ⟨#[0xb1]⟩ 1 none ∈ lwg) (hdg : decode cc pc = .ok (.invokespecial idx, 3)) (hfr : 1 ≤ R.frames) (hlo : 20 ≤ R.locals) (hsz : (st.map fun v => v.category).sum ≤ 8) (hp : pc + 3 = pc')
    (kk : GoK p l e R s m args below meth c E k0 nL cells slots Q g r z pc' lv st) : GoK p l e R s m args below meth c E k0 nL cells slots Q g r z pc lv (.ref a0 :: st) := by
  subst hp
  intro H locs ls a b h
  have h9 := lv_room (m := m) (pc := pc) (ls := ls) (rest := .ref a0 :: st) hsz
  exact W.objInit cx.1.1 cx.1.2.1 cx.1.2.2.2.1 (cx.1.2.2.2.2 _ hl) (cx.1.2.2.2.2 _ hw.1) (cx.1.2.2.2.2 _ hw.2) rfl (by rw [cx.1.2.2.1]; exact h.1) rfl hdg hfr (by omega) (kk H locs ls a b h)
theorem gk_mk {R : Room} {own : String} {idx : Nat} {y : MethodName} {bytes : ByteArray} {maxL : Nat} {rt : Option FieldType} {np : Nat} {rm : Room} (hts : ∀ w ∈ lwg, w.before args s = true) (hini : Cond.initialized y.cls ∈ lwg) (hc : Cond.code y bytes maxL rt ∈ lwg) (hl : ML own idx y)
    (hd : y.cls ≠ "java/lang/invoke/MethodHandle" ∧ y.cls ≠ "java/lang/invoke/VarHandle" ∧ (parseMethodDescriptor y.desc).map (fun d => d.parameters.length) = some np) (hR : rm.frames + 1 ≤ R.frames ∧ 8 + (maxL + 11) + rm.locals ≤ R.locals) : CallB R s args own idx y bytes maxL rt (wsA y bytes maxL rt) rm rm.cells rm.slots np :=
  callB_of (ws' := lwg) np hts (wsA_good hc) rfl rfl rfl (hts _ hini) (hts _ hl) hd hR
theorem gk_back {Z1 : ZT} {st0 : List Value} {a1 : Array Value} {H : Heap} {locs : List Loc} {ls : Array Slot} (hk : k0 ≤ 88) (hS : va_S (Ad E 88) s.heap H locs) (hl : lv_has ls nL lv)
    (hr : va_Run p l e R s m args below meth c H locs cells slots 0 0 (F0 m pc ls st0) st (Qz E k0 Z1 a1) (Ad E k0))
    (kk : ∀ v g1 r1 z1, Z1 v g1 r1 z1 → GoK p l e R s m args below meth c E k0 nL cells slots Q g1 r1 z1 (pc + 3) lv (v.toList ++ st)) : W p l e R s m args below meth c H locs cells slots Q (F0 m pc ls st0) := by
  intro T hT X
  obtain ⟨v, st₀, t, T', L, h0, X', hL, e1, e2, ⟨⟨v', g1, r1, z1, hv, hZ, hW⟩, hz, hq⟩, stp⟩ := hr T hT X
  cases hv
  rw [h0] at hz hq
  obtain ⟨t2, a1, b1⟩ := kk v g1 r1 z1 hZ T'.heap (locs ++ L) ls (by rw [e1]; exact hW.up (fun q => Ad.up hk))
    ⟨Nat.le_trans hS.1 (by rw [e1]; exact hz), fun q h1 h2 => by rw [e1, hq q (Nat.lt_of_lt_of_le h1 hS.1) (fun h3 => h2 (Ad.up hk h3))]; exact hS.2.1 q h1 h2, fun q hq => by
      rcases List.mem_append.mp hq with h | h
      · exact hS.2.2 q h
      · exact Ad.up hk (hL q h)⟩ hl T' rfl X'
  exact ⟨t2, stp t2 a1, b1⟩
theorem gk_pre {H : Heap} {locs : List Loc} (cx : Cx p s m args meth c E 88 cc nL own ret) (hk : k0 ≤ 88) (hW : Wd E (Ad E 88) k0 g r z H) (hS : va_S (Ad E 88) s.heap H locs) (av : List Value) : ∀ U : State, U.heap = H → s.WarmedH U.vm → Pz E k0 g r z av av.toArray U := by
  intro U hU hV
  refine ⟨rfl, cx.2.2.2.1.warm hV, ?_, by rw [hU]; exact hW.to⟩
  rw [hU]
  exact ((cx.2.2.2.2.kept hS.2.1).moved hV.alike).narrow (fun q => Ad.up hk)
theorem gk_callV (cx : Cx p s m args meth c E 88 cc nL own ret) {y : MethodName} {bytes : ByteArray} {maxL : Nat} {rt : Option FieldType} {np d idx i ci N : Nat} {As st0 : List Value} {Z1 : ZT} (hk5 : k0 ≤ 88) (hM : Ct l E k0 y bytes maxL rt d (.ref (E.2.1 i) :: As) g r z Z1) (hw : MWv y bytes maxL rt np) (hl : ML own idx y) (hdg : decode cc pc = .ok (.invokevirtual idx, 3))
    (hk : kd i = (ci, N)) (hc : ci < 7) (hi : i < k0) (hcl : (clx[ci]?).map (·.1) = some y.cls) (hn : As.length = np) (hst : st0 = As.reverse ++ .ref (E.2.1 i) :: st) (hR : d + 1 ≤ R.frames ∧ 8 + (maxL + 11) + 80 * d ≤ R.locals) (hsz : (st.map fun v => v.category).sum ≤ 8) (hp : pc + 3 = pc')
    (kk : ∀ v g1 r1 z1, Z1 v g1 r1 z1 → GoK p l e R s m args below meth c E k0 nL cells slots Q g1 r1 z1 pc' lv (v.toList ++ st)) (hcs : cells ≤ R.cells ∧ slots ≤ R.slots) : GoK p l e R s m args below meth c E k0 nL cells slots Q g r z pc lv st0 := by
  subst hp
  intro H locs ls a b h
  have hcx := cx
  obtain ⟨⟨hx, hb, hml, hown, hts⟩, hr, hlk, hK, hX⟩ := cx
  obtain ⟨q, hq, hq1⟩ : ∃ q, clx[ci]? = some q ∧ q.1 = y.cls := by
    cases hq : clx[ci]? with
    | none => rw [hq] at hcl; cases hcl
    | some q => rw [hq] at hcl; exact ⟨q, rfl, Option.some.inj hcl⟩
  have hcw : CallW R s args own y.cls idx y bytes maxL rt (wsA y bytes maxL rt) (rmd d) 0 0 np := ⟨gk_mk (rm := rmd d) hts hw.2.2.1 hw.2.2.2.1 hl hw.2.2.2.2 hR, hts _ hw.1, hts _ hw.2.1⟩
  refine gk_back hk5 b h (va_runV (As := As) (rest := st) (b := E.2.1 i) (C := y.cls) ⟨hx, hb, hml, hown, hts⟩ hM hcw ⟨Pz_blind, ?_, gk_pre hcx hk5 a b _⟩ rfl hn h.1 hst (lv_room hsz) hdg hcs) kk
  have := va_recv hK.1 a.1 hq (by rw [wsl_at hi, cnt_o hk hc])
  rw [hq1] at this
  exact this
theorem gk_callVs (cx : Cx p s m args meth c E 88 cc nL own ret) {y : MethodName} {bytes : ByteArray} {maxL : Nat} {rt : Option FieldType} {np d idx i : Nat} {As st0 : List Value} {x : Int32} {g1 : IG} {r1 : RG} {z1 : Int64} (hk5 : k0 ≤ 88) (hM : Ct l E k0 y bytes maxL rt d (.ref (E.2.2.2.1 i) :: As) g r z (Zi r1 z1 x g1)) (hw : MWv y bytes maxL rt np) (hl : ML own idx y) (hdg : decode cc pc = .ok (.invokevirtual idx, 3))
    (hi : i < 13) (hcl : y.cls = "java/lang/String") (hn : As.length = np) (hst : st0 = As.reverse ++ .ref (E.2.2.2.1 i) :: st) (hR : d + 1 ≤ R.frames ∧ 8 + (maxL + 11) + 80 * d ≤ R.locals) (hsz : (st.map fun v => v.category).sum ≤ 8) (hp : pc + 3 = pc') (hcs : cells ≤ R.cells ∧ slots ≤ R.slots)
    (kk : GoK p l e R s m args below meth c E k0 nL cells slots Q g1 r1 z1 pc' lv (.int x :: st)) : GoK p l e R s m args below meth c E k0 nL cells slots Q g r z pc lv st0 := by
  subst hp
  intro H locs ls a b h
  have hcx := cx
  obtain ⟨⟨hx, hb, hml, hown, hts⟩, hr, hlk, hK, hX⟩ := cx
  have hcw : CallW R s args own y.cls idx y bytes maxL rt (wsA y bytes maxL rt) (rmd d) 0 0 np := ⟨gk_mk (rm := rmd d) hts hw.2.2.1 hw.2.2.2.1 hl hw.2.2.2.2 hR, hts _ hw.1, hts _ hw.2.1⟩
  refine gk_back hk5 b h (va_runV (As := As) (rest := st) (b := E.2.2.2.1 i) (C := y.cls) ⟨hx, hb, hml, hown, hts⟩ hM hcw ⟨Pz_blind, ?_, gk_pre hcx hk5 a b _⟩ rfl hn h.1 hst (lv_room hsz) hdg hcs) (fun v g1' r1' z1' hZ => ?_)
  · rw [hcl]
    exact vk_recv hX.2.2.2.2 hi b
  · obtain ⟨rfl, rfl, rfl, rfl⟩ := hZ
    exact kk
end GK
/-- a constructor's contract: from k cells to k1 -/
def rmK (d c sl : Nat) : Room := { frames := d, cells := c, slots := sl, locals := 80 * d }
/-- what else of the tables the makers need: rows of rows, nest mates -/
def Kx (E : Ev) (U : State) : Prop := va_AO "AsLastTime$Text" U ∧ va_AO "AsLastTime$Sheet" U ∧ va_Nw (.methodLinkNest RX5 36 yX3_init "AsLastTime") U ∧ va_Nw (.methodLinkNest RX5 37 yX2_init "AsLastTime") U ∧ ∃ kA : Class, U.vm.classes[E.2.2.1 12]? = some kA ∧ kA.kind = .array (E.2.2.1 10) (.array .int)
theorem Kx.moved {E : Ev} {u U : State} (hvm : u.vm.Alike U.vm) (h4 : va_Nw (.methodLinkNest RX5 36 yX3_init "AsLastTime") U) (h5 : va_Nw (.methodLinkNest RX5 37 yX2_init "AsLastTime") U) (h : Kx E u) : Kx E U := by
  obtain ⟨h1, h2, -, -, kA, h6, h7⟩ := h
  obtain ⟨k', hk', he⟩ := hvm.2.2 _ _ h6
  exact ⟨h1.moved hvm, h2.moved hvm, h4, h5, k', hk', by rw [he]; exact h7⟩
theorem Kx.warm {E : Ev} {s U : State} (hW : s.WarmedH U.vm) (h : Kx E s) : Kx E U := h.moved hW.alike (va_Nw.warmM hW h.2.2.1) (va_Nw.warmM hW h.2.2.2.1)
def PzN (E : Ev) (k : Nat) (g : IG) (r : RG) (z : Int64) (av : List Value) : Array Value → State → Prop := va_Pc av (fun U => Kn E U ∧ Xt E (Ad E 88) U U.heap ∧ Wd E (Ad E 88) k g r z U.heap ∧ U.heap.size = E.2.1 0 + k ∧ Kx E U)
def QzN (E : Ev) (k : Nat) (Z : ZT) : Array Value → State → Outcome → State → Prop := fun _ st oc t => (∃ v g r z, oc = .returned v ∧ Z v g r z ∧ Wd E (Ad E 88) k g r z t.heap) ∧ va_F (Ad E 88) st t
def CtN (l : Launch) (E : Ev) (k mc ms : Nat) (y : MethodName) (cc : ByteArray) (nL : Nat) (d : Nat) (av : List Value) (g : IG) (r : RG) (z : Int64) (Z : ZT) : Prop :=
  Met l y (wsA y cc nL none) (rmK d mc ms) (PzN E k g r z av) (QzN E (k + mc) Z) mc ms (Ad E 88)
theorem PzN_blind {E : Ev} {n : Nat} {g : IG} {r : RG} {z : Int64} {av : List Value} : FrameBlind (PzN E n g r z av) := by
  intro a U g' mk h
  obtain ⟨h1, ⟨hK, hX⟩, h2, h3, h4, h5⟩ := h
  refine ⟨h1, ⟨hK.moved (u := U) (U := U.calling g' mk a) (Vm.Alike.refl U.vm), fun i q hq => vk_R.same (u := U) rfl (hX i q hq)⟩, ?_, h3, h4, h5.moved (u := U) (U := U.calling g' mk a) (Vm.Alike.refl U.vm) (va_Nw.same (u := U) rfl rfl h5.2.2.1) (va_Nw.same (u := U) rfl rfl h5.2.2.2.1)⟩
  exact h2.moved (u := U) (U := U.calling g' mk a) (Vm.Alike.refl U.vm)
section GKC
variable {p : Program} {l : Launch} {e : Env} {R : Room} {s : State} {m : MethodId} {args : Array Value} {below : List Frame} {meth : Method} {c : Code} {E : Ev} {k0 nL cells slots : Nat} {Q : State → Prop} {cc : ByteArray} {own : String} {ret : Option FieldType} {g : IG} {r : RG} {z : Int64} {pc pc' : Nat} {lv : LV} {st : List Value}
theorem CtN.of {y : MethodName} {mc ms : Nat} {d : Nat} {av : List Value} {lv0 : LV} {Z : ZT} (hy : plainName y.cls = true) (hyn : y.name = "<init>") (hlen : (lg_sl av).length ≤ nL) (hlv : lv_args 0 av = lv0)
    (body : ∀ (p : Program) (e : Env) (s : State) (m : MethodId) (below : List Frame) (meth : Method) (c : Code), Cx p s m av.toArray meth c E 88 cc nL y.cls none → meth.name = "<init>" → s.heap.size = E.2.1 0 + k0 → Kx E s → GoK p l e (rmK d mc ms) s m av.toArray below meth c E k0 nL 0 0 (MQ below (QzN E (k0 + mc) Z) av.toArray s mc ms (Ad E 88)) g r z 0 lv0 []) : CtN l E k0 mc ms y cc nL d av g r z Z := by
  refine Met.ofW (cc := cc) (maxL := nL) (ret := none) hy rfl ?_
  intro p e s m args below meth c s₁ B hml hv
  obtain ⟨rfl, hK, hX, hW, hs, hKx⟩ := hv
  have hts := atoms_spec (ws := wsA y cc nL none) B.pre
  have cx : Cx p s m av.toArray meth c E 88 cc nL y.cls none := ⟨⟨B.exec, B.bytes, hml, findClass_of_methodNamed B.named, fun w hw => hts w (List.mem_cons_of_mem _ hw)⟩, B.returns, B.notSynchronized, hK, hX⟩
  rw [lg_entry_eq]
  exact body p e s m below meth c cx (((name_of_methodNamed B.named B.method).1).trans hyn) hs hKx s.heap [] _ hW va_S.rf (hlv ▸ lv_entry av hlen)
theorem gk_vret {Z : ZT} {k1 : Nat} (cx : Cx p s m args meth c E 88 cc nL own ret) (hret : ret = none) (hdg : decode cc pc = .ok (.return_, 1)) (hk : k0 = k1) (hz : Z none g r z) : GoK p l e R s m args below meth c E k0 nL cells slots (MQ below (QzN E k1 Z) args s cells slots (Ad E 88)) g r z pc lv [] := by
  subst hk
  intro H locs ls a b h
  exact W.vret cx.1.1 cx.1.2.1 (cx.2.1.trans hret) (fun t ht hW => ⟨⟨none, g, r, z, rfl, hz, by rw [ht]; exact a⟩, b.F ht⟩) b.2.2 hdg cx.2.2.1
theorem gk_backN {Z1 : ZT} {mc ms : Nat} {st0 : List Value} {a1 : Array Value} {H : Heap} {locs : List Loc} {ls : Array Slot} (hS : va_S (Ad E 88) s.heap H locs) (hl : lv_has ls nL lv)
    (hr : va_Run p l e R s m args below meth c H locs cells slots mc ms (F0 m pc ls st0) st (QzN E (k0 + mc) Z1 a1) (Ad E 88))
    (kk : ∀ v g1 r1 z1, Z1 v g1 r1 z1 → GoK p l e R s m args below meth c E (k0 + mc) nL (cells + mc) (slots + ms) Q g1 r1 z1 (pc + 3) lv (v.toList ++ st)) : W p l e R s m args below meth c H locs cells slots Q (F0 m pc ls st0) := by
  intro T hT X
  obtain ⟨v, st₀, t, T', L, h0, X', hL, e1, e2, ⟨⟨v', g1, r1, z1, hv, hZ, hW⟩, hz, hq⟩, stp⟩ := hr T hT X
  cases hv
  rw [h0] at hz hq
  obtain ⟨t2, a1, b1⟩ := kk v g1 r1 z1 hZ T'.heap (locs ++ L) ls (by rw [e1]; exact hW)
    ⟨Nat.le_trans hS.1 (by rw [e1]; exact hz), fun q h1 h2 => by rw [e1, hq q (Nat.lt_of_lt_of_le h1 hS.1) h2]; exact hS.2.1 q h1 h2, fun q hq => by
      rcases List.mem_append.mp hq with h | h
      · exact hS.2.2 q h
      · exact hL q h⟩ hl T' rfl X'
  exact ⟨t2, stp t2 a1, b1⟩
theorem gk_preN {H : Heap} {locs : List Loc} (cx : Cx p s m args meth c E 88 cc nL own ret) (hKx : Kx E s) (hW : Wd E (Ad E 88) k0 g r z H) (hS : va_S (Ad E 88) s.heap H locs) (hsz : H.size = E.2.1 0 + k0) (av : List Value) : ∀ U : State, U.heap = H → s.WarmedH U.vm → PzN E k0 g r z av av.toArray U := by
  intro U hU hV
  refine ⟨rfl, cx.2.2.2.1.warm hV, ?_, by rw [hU]; exact hW, by rw [hU]; exact hsz, hKx.warm hV⟩
  rw [hU]
  exact (cx.2.2.2.2.kept hS.2.1).moved hV.alike
/-- what the tables say of a constructor -/
def MWi (y : MethodName) (cc : ByteArray) (nL np : Nat) : Prop := Cond.instanceMethod y ∈ lwg ∧ Cond.initialized y.cls ∈ lwg ∧ Cond.code y cc nL none ∈ lwg ∧ y.name = "<init>" ∧ (y.cls ≠ "java/lang/invoke/MethodHandle" ∧ y.cls ≠ "java/lang/invoke/VarHandle" ∧ (parseMethodDescriptor y.desc).map (fun d => d.parameters.length) = some np)
theorem gk_ctor (cx : Cx p s m args meth c E 88 cc nL own ret) {y : MethodName} {bytes : ByteArray} {maxL : Nat} {np d mc ms idx i : Nat} {As st0 : List Value} {P : IG → RG → Prop} {k1 c1 s1 : Nat} (hE : Sq E) (hKx : Kx E s) (hcz : s.heap.size + cells = E.2.1 0 + k0) (h0 : k0 = 0 → cells = 0) (hM : CtN l E k0 mc ms y bytes maxL d (.ref (E.2.1 i) :: As) g r z (fun v g1 r1 z1 => v = none ∧ z1 = z ∧ P g1 r1)) (hw : MWi y bytes maxL np) (hl : ML own idx y) (hdg : decode cc pc = .ok (.invokespecial idx, 3))
    (hn : As.length = np) (hst : st0 = As.reverse ++ .ref (E.2.1 i) :: st) (hR : d + 1 ≤ R.frames ∧ 8 + (maxL + 11) + 80 * d ≤ R.locals) (hsz : (st.map fun v => v.category).sum ≤ 8) (hp : pc + 3 = pc') (hcs : cells + mc ≤ R.cells ∧ slots + ms ≤ R.slots) (hk1 : k0 + mc = k1) (hc1 : cells + mc = c1) (hs1 : slots + ms = s1)
    (kk : ∀ g1 r1, P g1 r1 → GoK p l e R s m args below meth c E k1 nL c1 s1 Q g1 r1 z pc' lv st) : GoK p l e R s m args below meth c E k0 nL cells slots Q g r z pc lv st0 := by
  subst hp
  subst hk1
  subst hc1
  subst hs1
  intro H locs ls a b h
  refine W_size (fun hz => ?_)
  have hs := gk_sz hE a b hz hcz h0
  have hcx := cx
  obtain ⟨⟨hx, hb, hml, hown, hts⟩, hr, hlk, hK, hX⟩ := cx
  have hcw : CallB R s args own idx y bytes maxL none (wsA y bytes maxL none) (rmK d mc ms) mc ms np := gk_mk (rm := rmK d mc ms) hts hw.2.1 hw.2.2.1 hl hw.2.2.2.2 hR
  refine gk_backN b h (va_runI (As := As) (rest := st) (b := E.2.1 i) ⟨hx, hb, hml, hown, hts⟩ hM ⟨hcw, hw.2.2.2.1, hts _ hw.1⟩ ⟨PzN_blind, gk_preN hcx hKx a b (hs.symm.trans (hE k0)) _⟩ rfl hn h.1 hst (lv_room hsz) hdg hcs) ?_
  rintro _ g1 r1 _ ⟨rfl, rfl, hP⟩
  exact kk g1 r1 hP
theorem gk_ctorN (cx : Cx p s m args meth c E 88 cc nL own ret) {y : MethodName} {host : String} {bytes : ByteArray} {maxL : Nat} {np d mc ms idx i : Nat} {As st0 : List Value} {P : IG → RG → Prop} {k1 c1 s1 : Nat} (hE : Sq E) (hKx : Kx E s) (hcz : s.heap.size + cells = E.2.1 0 + k0) (h0 : k0 = 0 → cells = 0) (hM : CtN l E k0 mc ms y bytes maxL d (.ref (E.2.1 i) :: As) g r z (fun v g1 r1 z1 => v = none ∧ z1 = z ∧ P g1 r1)) (hw : MWi y bytes maxL np) (hl : va_Nw (.methodLinkNest own idx y host) s) (hdg : decode cc pc = .ok (.invokespecial idx, 3))
    (hn : As.length = np) (hst : st0 = As.reverse ++ .ref (E.2.1 i) :: st) (hR : d + 1 ≤ R.frames ∧ 8 + (maxL + 11) + 80 * d ≤ R.locals) (hsz : (st.map fun v => v.category).sum ≤ 8) (hp : pc + 3 = pc') (hcs : cells + mc ≤ R.cells ∧ slots + ms ≤ R.slots) (hk1 : k0 + mc = k1) (hc1 : cells + mc = c1) (hs1 : slots + ms = s1)
    (kk : ∀ g1 r1, P g1 r1 → GoK p l e R s m args below meth c E k1 nL c1 s1 Q g1 r1 z pc' lv st) : GoK p l e R s m args below meth c E k0 nL cells slots Q g r z pc lv st0 := by
  subst hp
  subst hk1
  subst hc1
  subst hs1
  intro H locs ls a b h
  refine W_size (fun hz => ?_)
  have hs := gk_sz hE a b hz hcz h0
  have hcx := cx
  obtain ⟨⟨hx, hb, hml, hown, hts⟩, hr, hlk, hK, hX⟩ := cx
  have hcw : va_CN R s args own idx y host bytes maxL none (wsA y bytes maxL none) (rmK d mc ms) mc ms np := va_cnB (ws' := lwg) np hts (wsA_good hw.2.2.1) rfl rfl rfl hl (hts _ hw.2.1) hw.2.2.2.2 hR
  refine gk_backN b h (va_runIN (As := As) (rest := st) (b := E.2.1 i) ⟨hx, hb, hml, hown, hts⟩ hM ⟨hcw, hw.2.2.2.1, hts _ hw.1⟩ ⟨PzN_blind, gk_preN hcx hKx a b (hs.symm.trans (hE k0)) _⟩ rfl hn h.1 hst (lv_room hsz) hdg hcs) ?_
  rintro _ g1 r1 _ ⟨rfl, rfl, hP⟩
  exact kk g1 r1 hP
end GKC
theorem mi0 : MWi yX0_init cX0_init 1 0 := ⟨lwg_in 48 (by decide +kernel) (by decide +kernel), lwg_in 24 (by decide +kernel) (by decide +kernel), lwg_in 49 (by decide +kernel) (by decide +kernel), rfl, by decide +kernel⟩
theorem mi1 : MWi yX1_init cX1_init 3 1 := ⟨lwg_in 257 (by decide +kernel) (by decide +kernel), lwg_in 31 (by decide +kernel) (by decide +kernel), lwg_in 258 (by decide +kernel) (by decide +kernel), rfl, by decide +kernel⟩
theorem mi2 : MWi yX2_init cX2_init 1 0 := ⟨lwg_in 98 (by decide +kernel) (by decide +kernel), lwg_in 26 (by decide +kernel) (by decide +kernel), lwg_in 99 (by decide +kernel) (by decide +kernel), rfl, by decide +kernel⟩
theorem mi3 : MWi yX3_init cX3_init 1 0 := ⟨lwg_in 78 (by decide +kernel) (by decide +kernel), lwg_in 25 (by decide +kernel) (by decide +kernel), lwg_in 79 (by decide +kernel) (by decide +kernel), rfl, by decide +kernel⟩
theorem mi4 : MWi yX4_init cX4_init 3 2 := ⟨lwg_in 288 (by decide +kernel) (by decide +kernel), lwg_in 32 (by decide +kernel) (by decide +kernel), lwg_in 289 (by decide +kernel) (by decide +kernel), rfl, by decide +kernel⟩
theorem mi5 : MWi yX5_init cX5_init 2 0 := ⟨lwg_in 38 (by decide +kernel) (by decide +kernel), lwg_in 23 (by decide +kernel) (by decide +kernel), lwg_in 39 (by decide +kernel) (by decide +kernel), rfl, by decide +kernel⟩
theorem nwL_17 : NW RL 17 5 := by
  refine ⟨RX5, TX5, 8, tyX5, rfl, lwg_in 35 (by decide +kernel) (by decide +kernel), lwg_in 36 (by decide +kernel) (by decide +kernel), lwg_in 23 (by decide +kernel) (by decide +kernel), iX5, by decide +kernel, fun k hk => ?_⟩
  rcases (show k = 0 ∨ k = 1 ∨ k = 2 ∨ k = 3 ∨ k = 4 ∨ k = 5 ∨ k = 6 ∨ k = 7 by omega) with rfl | rfl | rfl | rfl | rfl | rfl | rfl | rfl
  · exact Or.inr (Or.inl ⟨rfl, rfl⟩)
  · exact Or.inl ⟨rfl, rfl⟩
  · exact Or.inr (Or.inl ⟨rfl, rfl⟩)
  · exact Or.inr (Or.inl ⟨rfl, rfl⟩)
  · exact Or.inr (Or.inl ⟨rfl, rfl⟩)
  · exact Or.inl ⟨rfl, rfl⟩
  · exact Or.inr (Or.inl ⟨rfl, rfl⟩)
  · exact Or.inr (Or.inl ⟨rfl, rfl⟩)
theorem ckL_17 : Cond.classLink RL 17 "AsLastTime" ∈ lwg := lwg_in 35 (by decide +kernel) (by decide +kernel)
theorem loX5_1 : Cond.methodLink RX5 1 Lib.objectInit ∈ lwg := lwg_in 40 (by decide +kernel) (by decide +kernel)
theorem nwX5_9 : NW RX5 9 3 := by
  refine ⟨RX3, TX3, 4, tyX3, rfl, lwg_in 43 (by decide +kernel) (by decide +kernel), lwg_in 76 (by decide +kernel) (by decide +kernel), lwg_in 25 (by decide +kernel) (by decide +kernel), iX3, by decide +kernel, fun k hk => ?_⟩
  rcases (show k = 0 ∨ k = 1 ∨ k = 2 ∨ k = 3 by omega) with rfl | rfl | rfl | rfl
  · exact Or.inr (Or.inl ⟨rfl, rfl⟩)
  · exact Or.inr (Or.inl ⟨rfl, rfl⟩)
  · exact Or.inr (Or.inl ⟨rfl, rfl⟩)
  · exact Or.inl ⟨rfl, rfl⟩
theorem ckX5_9 : Cond.classLink RX5 9 "AsLastTime$Text" ∈ lwg := lwg_in 43 (by decide +kernel) (by decide +kernel)
-- 44 (Jvm.ClassFile.FieldType.object "AsLastTime$Text")
theorem nwX5_19 : NW RX5 19 0 := by
  refine ⟨RX0, TX0, 7, tyX0, rfl, lwg_in 45 (by decide +kernel) (by decide +kernel), lwg_in 46 (by decide +kernel) (by decide +kernel), lwg_in 24 (by decide +kernel) (by decide +kernel), iX0, by decide +kernel, fun k hk => ?_⟩
  rcases (show k = 0 ∨ k = 1 ∨ k = 2 ∨ k = 3 ∨ k = 4 ∨ k = 5 ∨ k = 6 by omega) with rfl | rfl | rfl | rfl | rfl | rfl | rfl
  · exact Or.inr (Or.inl ⟨rfl, rfl⟩)
  · exact Or.inl ⟨rfl, rfl⟩
  · exact Or.inl ⟨rfl, rfl⟩
  · exact Or.inl ⟨rfl, rfl⟩
  · exact Or.inl ⟨rfl, rfl⟩
  · exact Or.inl ⟨rfl, rfl⟩
  · exact Or.inr (Or.inl ⟨rfl, rfl⟩)
theorem ckX5_19 : Cond.classLink RX5 19 "AsLastTime$Reader" ∈ lwg := lwg_in 45 (by decide +kernel) (by decide +kernel)
theorem loX0_3 : Cond.methodLink RX0 3 Lib.objectInit ∈ lwg := lwg_in 50 (by decide +kernel) (by decide +kernel)
theorem ac_int : Cond.arrayClass .int ∈ lwg := lwg_in 73 (by decide +kernel) (by decide +kernel)
theorem nwX5_30 : NW RX5 30 2 := by
  refine ⟨RX2, TX2, 3, tyX2, rfl, lwg_in 74 (by decide +kernel) (by decide +kernel), lwg_in 96 (by decide +kernel) (by decide +kernel), lwg_in 26 (by decide +kernel) (by decide +kernel), iX2, by decide +kernel, fun k hk => ?_⟩
  rcases (show k = 0 ∨ k = 1 ∨ k = 2 by omega) with rfl | rfl | rfl
  · exact Or.inr (Or.inl ⟨rfl, rfl⟩)
  · exact Or.inl ⟨rfl, rfl⟩
  · exact Or.inl ⟨rfl, rfl⟩
theorem ckX5_30 : Cond.classLink RX5 30 "AsLastTime$Sheet" ∈ lwg := lwg_in 74 (by decide +kernel) (by decide +kernel)
-- 75 (Jvm.ClassFile.FieldType.object "AsLastTime$Sheet")
theorem loX3_3 : Cond.methodLink RX3 3 Lib.objectInit ∈ lwg := lwg_in 80 (by decide +kernel) (by decide +kernel)
theorem loX2_3 : Cond.methodLink RX2 3 Lib.objectInit ∈ lwg := lwg_in 100 (by decide +kernel) (by decide +kernel)
theorem nwX5_61 : NW RX5 61 1 := by
  refine ⟨RX1, TX1, 5, tyX1, rfl, lwg_in 254 (by decide +kernel) (by decide +kernel), lwg_in 255 (by decide +kernel) (by decide +kernel), lwg_in 31 (by decide +kernel) (by decide +kernel), iX1, by decide +kernel, fun k hk => ?_⟩
  rcases (show k = 0 ∨ k = 1 ∨ k = 2 ∨ k = 3 ∨ k = 4 by omega) with rfl | rfl | rfl | rfl | rfl
  · exact Or.inr (Or.inl ⟨rfl, rfl⟩)
  · exact Or.inr (Or.inl ⟨rfl, rfl⟩)
  · exact Or.inl ⟨rfl, rfl⟩
  · exact Or.inl ⟨rfl, rfl⟩
  · exact Or.inl ⟨rfl, rfl⟩
theorem ckX5_61 : Cond.classLink RX5 61 "AsLastTime$Salon" ∈ lwg := lwg_in 254 (by decide +kernel) (by decide +kernel)
theorem loX1_3 : Cond.methodLink RX1 3 Lib.objectInit ∈ lwg := lwg_in 259 (by decide +kernel) (by decide +kernel)
theorem ckX1_9 : Cond.classLink RX1 9 "[[I" ∈ lwg := lwg_in 260 (by decide +kernel) (by decide +kernel)
-- 261 (Jvm.ClassFile.FieldType.array Jvm.ClassFile.FieldType.int)
theorem ac_byte : Cond.arrayClass .byte ∈ lwg := lwg_in 284 (by decide +kernel) (by decide +kernel)
theorem nwX5_73 : NW RX5 73 4 := by
  refine ⟨RX4, TX4, 5, tyX4, rfl, lwg_in 285 (by decide +kernel) (by decide +kernel), lwg_in 286 (by decide +kernel) (by decide +kernel), lwg_in 32 (by decide +kernel) (by decide +kernel), iX4, by decide +kernel, fun k hk => ?_⟩
  rcases (show k = 0 ∨ k = 1 ∨ k = 2 ∨ k = 3 ∨ k = 4 by omega) with rfl | rfl | rfl | rfl | rfl
  · exact Or.inr (Or.inl ⟨rfl, rfl⟩)
  · exact Or.inr (Or.inl ⟨rfl, rfl⟩)
  · exact Or.inr (Or.inl ⟨rfl, rfl⟩)
  · exact Or.inr (Or.inl ⟨rfl, rfl⟩)
  · exact Or.inr (Or.inl ⟨rfl, rfl⟩)
theorem ckX5_73 : Cond.classLink RX5 73 "AsLastTime$Thought" ∈ lwg := lwg_in 285 (by decide +kernel) (by decide +kernel)
theorem loX4_3 : Cond.methodLink RX4 3 Lib.objectInit ∈ lwg := lwg_in 290 (by decide +kernel) (by decide +kernel)
theorem ckX4_9 : Cond.classLink RX4 9 "[[I" ∈ lwg := lwg_in 291 (by decide +kernel) (by decide +kernel)
theorem obw : Cond.instanceMethod Lib.objectInit ∈ lwg ∧ Cond.code Lib.objectInit ⟨#[0xb1]⟩ 1 none ∈ lwg := ⟨lwg_in 41 (by decide +kernel) (by decide +kernel), lwg_in 42 (by decide +kernel) (by decide +kernel)⟩
