/-! ROWS OF ROWS: what the machine does at a multianewarray of two dimensions -/
def mqO (cA : ClassId) (N h0 i : Nat) : Cell := arrV cA N (fun j => if j < i then .ref (h0 + 1 + j) else .null)
def mqI (cI : ClassId) (M : Nat) : Cell := arrV cI M (fun _ => .int 0)
/-- the state when i of N rows are made -/
def mqS (s : State) (cA cI : ClassId) (N M : Nat) : Nat → State
  | 0 => s.pushCell (mqO cA N s.heap.size 0)
  | i + 1 => ((mqS s cA cI N M i).pushCell (mqI cI M)).setCell s.heap.size (mqO cA N s.heap.size (i + 1))
theorem mqO_set (cA : ClassId) (N h0 i : Nat) : (mqO cA N h0 i).setSlot i (.ref (h0 + 1 + i)) = mqO cA N h0 (i + 1) := by
  unfold mqO
  rw [arrV_store]
  refine congrArg (arrV cA N) (funext fun j => ?_)
  show (if j = i then Value.ref (h0 + 1 + i) else if j < i then Value.ref (h0 + 1 + j) else Value.null) = if j < i + 1 then Value.ref (h0 + 1 + j) else Value.null
  by_cases e : j = i
  · rw [if_pos e, if_pos (by omega), e]
  · rw [if_neg e]
    by_cases h : j < i
    · rw [if_pos h, if_pos (by omega)]
    · rw [if_neg h, if_neg (by omega)]
theorem mqS_size (s : State) (cA cI : ClassId) (N M : Nat) : ∀ i, (mqS s cA cI N M i).heap.size = s.heap.size + 1 + i
  | 0 => by
    show (s.heap.push _).size = _
    rw [Array.size_push]
  | i + 1 => by
    show (((mqS s cA cI N M i).heap.push _).setIfInBounds _ _).size = _
    rw [Array.size_setIfInBounds, Array.size_push, mqS_size s cA cI N M i]
    omega
theorem mqS_vm (s : State) (cA cI : ClassId) (N M : Nat) : ∀ i, (mqS s cA cI N M i).vm = s.vm
  | 0 => rfl
  | i + 1 => mqS_vm s cA cI N M i
theorem mqS_top (s : State) (f : JFrame) (cA cI : ClassId) (N M : Nat) : ∀ i, mqS (s.setTop f) cA cI N M i = (mqS s cA cI N M i).setTop f
  | 0 => rfl
  | i + 1 => by
    show ((mqS (s.setTop f) cA cI N M i).pushCell _).setCell _ _ = _
    rw [mqS_top s f cA cI N M i]
    rfl
theorem mqS_heap (s : State) (cA cI : ClassId) (N M : Nat) : ∀ i, (∀ q, q < s.heap.size → (mqS s cA cI N M i).heap[q]? = s.heap[q]?) ∧ (mqS s cA cI N M i).heap[s.heap.size]? = some (mqO cA N s.heap.size i) ∧ ∀ j, j < i → (mqS s cA cI N M i).heap[s.heap.size + 1 + j]? = some (mqI cI M)
  | 0 => by
    refine ⟨fun q hq => ?_, ?_, fun j hj => absurd hj (Nat.not_lt_zero j)⟩
    · show (s.heap.push _)[q]? = _
      rw [Array.getElem?_push, if_neg (by omega)]
    · show (s.heap.push _)[s.heap.size]? = _
      rw [Array.getElem?_push, if_pos rfl]
  | i + 1 => by
    obtain ⟨h1, h2, h3⟩ := mqS_heap s cA cI N M i
    have hz := mqS_size s cA cI N M i
    have e : ∀ q : Nat, (mqS s cA cI N M (i + 1)).heap[q]? = (((mqS s cA cI N M i).heap.push (mqI cI M)).setIfInBounds s.heap.size (mqO cA N s.heap.size (i + 1)))[q]? := fun q => rfl
    refine ⟨fun q hq => ?_, ?_, fun j hj => ?_⟩
    · rw [e, Array.getElem?_setIfInBounds, if_neg (by omega), Array.getElem?_push, if_neg (by omega)]
      exact h1 q hq
    · rw [e, Array.getElem?_setIfInBounds, if_pos rfl, if_pos (by rw [Array.size_push]; omega)]
    · rw [e, Array.getElem?_setIfInBounds, if_neg (by omega), Array.getElem?_push]
      by_cases hq : s.heap.size + 1 + j = (mqS s cA cI N M i).heap.size
      · rw [if_pos hq]
      · rw [if_neg hq]
        exact h3 j (by omega)
theorem mqS_used (s : State) (cA cI : ClassId) (N M : Nat) : ∀ i, (mqS s cA cI N M i).slotsUsed = s.slotsUsed + N + i * M
  | 0 => by
    show s.slotsUsed + (mqO cA N s.heap.size 0).slots.size = _
    unfold mqO
    rw [arrV_size]
    omega
  | i + 1 => by
    show (mqS s cA cI N M i).slotsUsed + (mqI cI M).slots.size = _
    unfold mqI
    rw [arrV_size, mqS_used s cA cI N M i, Nat.succ_mul]
    omega
theorem mq_stand {p : Program} {l : Launch} {e : Env} {R : Room} {s : State} {m : MethodId} {args : Array Value} {below : List Frame} {meth : Method} {c : Code} {T : State} {locs : List Loc} {cells slots : Nat} (X : Stand p l e R s m args below meth c T locs cells slots) (cA cI : ClassId) (N M : Nat) :
    ∀ i, ∃ L : List Loc, (∀ q ∈ L, q.base = T.heap.size) ∧ Stand p l e R s m args below meth c (mqS T cA cI N M i) (locs ++ L) (cells + 1 + i) (slots + N + i * M)
  | 0 => by
    refine ⟨[], fun q hq => absurd hq List.not_mem_nil, ?_⟩
    have h := X.pushed (mqO cA N T.heap.size 0)
    rw [show (mqO cA N T.heap.size 0).slots.size = N from arrV_size _ _ _] at h
    rw [List.append_nil, Nat.zero_mul]
    exact h
  | i + 1 => by
    obtain ⟨L, hL, Xi⟩ := mq_stand X cA cI N M i
    have hz := mqS_size T cA cI N M i
    have h2 := (mqS_heap T cA cI N M i).2.1
    have hcell : ((mqS T cA cI N M i).pushCell (mqI cI M)).heap[T.heap.size]? = some (mqO cA N T.heap.size i) := by
      show ((mqS T cA cI N M i).heap.push _)[T.heap.size]? = _
      rw [Array.getElem?_push, if_neg (by omega)]
      exact h2
    have h := (Xi.pushed (mqI cI M)).stored hcell i (.ref (T.heap.size + 1 + i))
    rw [mqO_set, show (mqI cI M).slots.size = M from arrV_size _ _ _] at h
    refine ⟨L ++ [⟨T.heap.size, i⟩], fun q hq => ?_, ?_⟩
    · rcases List.mem_append.mp hq with q1 | q1
      · exact hL q q1
      · rw [List.mem_singleton.mp q1]
    · rw [← List.append_assoc, show slots + N + (i + 1) * M = slots + N + i * M + M by rw [Nat.succ_mul]; omega]
      exact h
section MQW
variable {F : CtlPost} {e : Env} {d : Bool} {acts : List Action} {s : State}
theorem mq_new {c comp : ClassId} {k : Class} {type : FieldType} {len : Nat} {init : Value} (hk : s.vm.classes[c]? = some k) (hkind : k.kind = .array comp type)
    (hl : ¬ len > e.platform.arrayLengthLimit) (hh : ¬ len * componentBytes type > e.platform.maxHeapBytes) (hfit : fits type init = true) (hdef : init.isDefault = true) {Q : Addr → Pre}
    (h1 : s.heap.size < e.platform.maxCells) (h2 : s.slotsUsed + len ≤ e.platform.maxSlots)
    (hq : Q s.heap.size d acts (s.pushCell (arrV c len (fun _ => init)))) : wp (Jvm.newArray c len init) Q F e d acts s := by
  have hfits : ∀ i v, (Array.replicate len init)[i]? = some v → s.fitsSlot c .none i v = true := by
    intro i v hv
    rw [Array.getElem?_replicate] at hv
    split at hv
    · cases hv
      simp [State.fitsSlot, State.slotType?, hk, hkind, hfit]
    · cases hv
  have hda : allocActs (Array.replicate len init) s.heap.size acts = acts := by
    have hall : ((Array.replicate len init).all (·.isDefault)) = true := by
      rw [Array.all_replicate]
      split <;> simp [hdef]
    unfold allocActs
    rw [if_pos hall]
  rw [← arrV_new] at hq
  simp only [Jvm.newArray, Jvm.arrayFits, wp_bind', Jvm.W.ask, Jvm.W.ite, hl, if_false, wp_pure', Jvm.W.theClass, hk, hkind, hh, Jvm.W.alloc, Jvm.W.stop, Option.some.injEq, exists_eq_left', Array.size_replicate, hda]
  rw [if_neg (by omega)]
  exact ⟨h1, h2, hfits, hq⟩
theorem mq_make {cA cI cc : ClassId} {kA kI : Class} {n m : Int32} (hk : s.vm.classes[cA]? = some kA) (hkind : kA.kind = .array cI (.array .int)) (hkI : s.vm.classes[cI]? = some kI) (hkindI : kI.kind = .array cc .int) (hn : ¬ n < 0) (hm : ¬ m < 0) {N M : Nat} (eN : n.toNatClampNeg = N) (eM : m.toNatClampNeg = M)
    (hl1 : ¬ N > e.platform.arrayLengthLimit) (hh1 : ¬ N * componentBytes (.array .int) > e.platform.maxHeapBytes) (hl2 : ¬ M > e.platform.arrayLengthLimit) (hh2 : ¬ M * componentBytes .int > e.platform.maxHeapBytes)
    (hc : s.heap.size + 1 + N ≤ e.platform.maxCells) (hs : s.slotsUsed + N + N * M ≤ e.platform.maxSlots) {Q : Addr → Pre} (hq : ∀ d' acts', Q s.heap.size d' acts' (mqS s cA cI N M N)) :
    wp (multianewarray.make cA [n, m]) Q F e d acts s := by
  subst eN
  subst eM
  rw [multianewarray.make]
  simp only [wp_bind', Jvm.W.ite, hn, if_false, wp_pure', Jvm.W.theClass, hk, hkind, Option.some.injEq, exists_eq_left']
  refine mq_new (init := .null) hk hkind hl1 hh1 rfl rfl (by omega) (by have := Nat.zero_le (n.toNatClampNeg * m.toNatClampNeg); omega) ?_
  rw [show ([m].find? (· < 0)) = none by simp [hm]]
  rw [ite_self, wp_bind', Std.Legacy.Range.forIn_eq_forIn_range']
  rw [show ([:n.toNatClampNeg] : Std.Legacy.Range).size = n.toNatClampNeg by simp [Std.Legacy.Range.size]]
  show wp (forIn (List.range' 0 n.toNatClampNeg 1) PUnit.unit _) _ F e d acts _
  refine wp_forIn_inv (fun rest s' => ∃ i, i + rest.length = n.toNatClampNeg ∧ rest = List.range' i rest.length ∧ s' = mqS s cA cI n.toNatClampNeg m.toNatClampNeg i) _ _ ⟨0, by simp, by simp, ?_⟩ ?_ ?_
  · show s.pushCell _ = s.pushCell _
    rfl
  · rintro x rest s' d' acts' Q' ⟨i, hi, hl, rfl⟩ hnext
    rw [List.length_cons] at hi hl
    rw [List.range'_succ] at hl
    obtain ⟨rfl, hrest⟩ := List.cons.inj hl
    have hz := mqS_size s cA cI n.toNatClampNeg m.toNatClampNeg x
    have hu := mqS_used s cA cI n.toNatClampNeg m.toNatClampNeg x
    have hv := mqS_vm s cA cI n.toNatClampNeg m.toNatClampNeg x
    have h2 := (mqS_heap s cA cI n.toNatClampNeg m.toNatClampNeg x).2.1
    have hmul : x * m.toNatClampNeg + m.toNatClampNeg ≤ n.toNatClampNeg * m.toNatClampNeg := by
      have := Nat.mul_le_mul_right m.toNatClampNeg (show x + 1 ≤ n.toNatClampNeg by omega)
      rw [Nat.succ_mul] at this
      exact this
    simp only [wp_bind']
    rw [multianewarray.make]
    simp only [wp_bind', Jvm.W.ite, hm, if_false, wp_pure', Jvm.W.theClass, hv, hkI, hkindI, Option.some.injEq, exists_eq_left']
    refine mq_new (init := .int 0) (by rw [hv]; exact hkI) hkindI hl2 hh2 rfl rfl (by omega) (by omega) ?_
    simp only [wp_bind', Jvm.W.writeLoc, wp_pure']
    refine ⟨mqO cA n.toNatClampNeg s.heap.size x, ?_, (by show VmData.none ≠ VmData.unknown; intro q; cases q), ?_, ?_, hnext _ _ _ ⟨x + 1, by omega, hrest, ?_⟩⟩
    · show ((mqS s cA cI n.toNatClampNeg m.toNatClampNeg x).heap.push _)[s.heap.size]? = _
      rw [Array.getElem?_push, if_neg (by omega)]
      exact h2
    · show x < (arrV _ _ _).slots.size
      rw [arrV_size]
      omega
    · show State.fitsSlot _ cA .none x _ = true
      simp [State.fitsSlot, State.slotType?, hv, hk, hkind, fits]
    · rw [hz, mqO_set]
      rfl
  · rintro s' d' acts' ⟨i, hi, hl, rfl⟩
    have hiN : i = n.toNatClampNeg := by
      simpa using hi
    subst hiN
    simp only [wp_pure']
    exact hq _ _
end MQW
/-- references of a row of rows -/
def mnr (r : RG) (a : Nat) : Nat → RG
  | 0 => r
  | n + 1 => up2r (mnr r a n) a n (some (a + 1 + n))
theorem mnr_r {r : RG} {a : Nat} : ∀ N i k, mnr r a N i k = if i = a ∧ k < N then some (a + 1 + k) else r i k
  | 0, i, k => (if_neg (by omega)).symm
  | N + 1, i, k => by
    show (if i = a then (if k = N then some (a + 1 + N) else mnr r a N i k) else mnr r a N i k) = _
    rw [mnr_r N i k]
    by_cases h1 : i = a
    · by_cases h2 : k = N
      · rw [if_pos h1, if_pos h2, if_pos ⟨h1, by omega⟩, h2]
      · rw [if_pos h1, if_neg h2]
        by_cases h3 : k < N
        · rw [if_pos ⟨h1, h3⟩, if_pos ⟨h1, by omega⟩]
        · rw [if_neg (by omega), if_neg (by omega)]
    · rw [if_neg h1, if_neg (by omega), if_neg (by omega)]
/-- the world grows by n cells whose contents are there -/
theorem Wd.growN {E : Ev} {A : Nat → Prop} {k : Nat} {g : IG} {r : RG} {z : Int64} {H H1 : Heap} (hW : Wd E A k g r z H) (hE : Sq E) (he : E.2.1 k = H.size) (ho : ∀ q, q < H.size → H1[q]? = H[q]?) (n : Nat) (hA : ∀ i, i < n → A (E.2.1 (k + i))) (hat : ∀ i, i < n → va_at E.1 clx (E.2.1 (k + i), cnt E g r z (k + i)) H1) : Wd E A (k + n) g r z H1 := by
  have hin : ∀ (i : Nat) (x : Nat × va_E), (wsl E k g r z)[i]? = some x → x.1 < E.2.1 0 + k := fun i x hx => by
    have h1 := (hW.1 i x hx).lt
    rw [← he, hE k] at h1
    exact h1
  induction n with
  | zero => exact ⟨hW.1.kept (fun i x hx => ho x.1 (hW.1 i x hx).lt), hW.2⟩
  | succ n ih =>
    obtain ⟨h1, h2, h3⟩ := ih (fun i hi => hA i (by omega)) (fun i hi => hat i (by omega))
    unfold Wd
    rw [← Nat.add_assoc, wsl_succ]
    refine ⟨h1.app (fun i x hx => ?_), fun i j x y hx hy e => ?_, fun i x hx => ?_⟩
    · have hz : i < 1 := (List.getElem?_eq_some_iff.mp hx).1
      rw [show i = 0 by omega] at hx
      cases hx
      exact hat n (by omega)
    · rw [← wsl_succ] at hx hy
      have hi := wsl_in hx
      have hj := wsl_in hy
      rw [wsl_at hi] at hx
      rw [wsl_at hj] at hy
      cases hx
      cases hy
      have e2 : E.2.1 i = E.2.1 j := e
      rw [hE i, hE j] at e2
      omega
    · rw [← wsl_succ] at hx
      have hi := wsl_in hx
      rw [wsl_at hi] at hx
      cases hx
      show A (E.2.1 i)
      by_cases hk : i < k + n
      · exact h3 i _ (wsl_at hk)
      · rw [show i = k + n by omega]
        exact hA n (by omega)
section GKM
variable {p : Program} {l : Launch} {e : Env} {R : Room} {s : State} {m : MethodId} {args : Array Value} {below : List Frame} {meth : Method} {c : Code} {E : Ev} {k0 nL cells slots : Nat} {Q : State → Prop} {cc : ByteArray} {own : String} {ret : Option FieldType} {g : IG} {r : RG} {z : Int64} {pc pc' : Nat} {lv : LV} {st : List Value}
theorem gk_mnew (cx : Cx p s m args meth c E 88 cc nL own ret) {idx N M : Nat} {n k : Int32} (hE : Sq E) (hKx : Kx E s) (hcz : s.heap.size + cells = E.2.1 0 + k0) (h0 : k0 = 0 → cells = 0) (hk : k0 + N < 88) (hkd : kd k0 = (12, N)) (hki : ∀ j, j < N → kd (k0 + 1 + j) = (10, M)) (hw : Cond.classLink own idx "[[I" ∈ lwg) (hdg : decode cc pc = .ok (.multianewarray idx 2, 4)) (hn : ¬ n < 0) (eN : n.toNatClampNeg = N) (hm : ¬ k < 0) (eM : k.toNatClampNeg = M) (hby : N ≤ 1000 ∧ M ≤ 1000) (hcells : cells + 1 + N ≤ R.cells) (hslots : slots + N + N * M ≤ R.slots) (hg : ∀ i, i < N → ∀ j, g (k0 + 1 + i) j = 0) (hr : ∀ j, r k0 j = none) (hp : pc + 4 = pc') {k1 c1 s1 : Nat} (hk1 : k0 + 1 + N = k1) (hc1 : cells + 1 + N = c1) (hs1 : slots + N + N * M = s1)
    (kk : GoK p l e R s m args below meth c E k1 nL c1 s1 Q g (mnr r k0 N) z pc' lv (.ref (E.2.1 k0) :: st)) : GoK p l e R s m args below meth c E k0 nL cells slots Q g r z pc lv (.int k :: .int n :: st) := by
  subst hp
  subst hk1
  subst hc1
  subst hs1
  intro H locs ls a b h
  refine W_size (fun hz => ?_)
  have hs := gk_sz hE a b hz hcz h0
  obtain ⟨⟨hx, hb, hml, hown, hts⟩, hr9, hlk, hK, hX⟩ := cx
  subst hb
  intro T hT X
  have hpl : e.platform.magicAccessors = ({} : Platform).magicAccessors := by rw [X.admits.platform]
  obtain ⟨-, -, -, -, kA, hkA, hkindA⟩ := hKx
  obtain ⟨-, kI, hkI, cc0, hkindI⟩ := (hK.1.2 0 _ rfl).1 0 (fun _ => .null)
  have hnm : s.vm.findClass "[[I" = some (E.2.2.1 12) := (hK.1.2 2 _ rfl).2
  obtain ⟨c0, hfc0, hcl⟩ := Cond.classLink_spec hown (hts _ hw) e.platform hpl
  cases hnm.symm.trans hfc0
  obtain ⟨hg1, hwarm, hready⟩ := State.classEntry (e := e) X.warmed hcl
  generalize T.vm.noted m.cls idx (.cls (E.2.2.1 12)) = vm₁ at hg1 hwarm hready
  have hal : s.vm.Alike vm₁ := hwarm.alike
  obtain ⟨kA1, hkA1, heA⟩ := hal.2.2 _ _ hkA
  obtain ⟨kI1, hkI1, heI⟩ := hal.2.2 _ _ hkI
  have X1 := X.noted hwarm
  obtain ⟨hr1, hr2⟩ := X.roomAbove (a := 1 + N) (b := N + N * M) (by omega) (by omega)
  obtain ⟨L, hL, X2⟩ := mq_stand X1 (E.2.2.1 12) (E.2.2.1 10) N M N
  have hsz : (T.setVm vm₁).heap.size = H.size := by
    show T.heap.size = _
    rw [hT]
  obtain ⟨o1, o2, o3⟩ := mqS_heap (T.setVm vm₁) (E.2.2.1 12) (E.2.2.1 10) N M N
  rw [hsz] at o1 o2 o3
  have hzz := mqS_size (T.setVm vm₁) (E.2.2.1 12) (E.2.2.1 10) N M N
  rw [hsz] at hzz
  have hoH : ∀ q, q < H.size → (mqS (T.setVm vm₁) (E.2.2.1 12) (E.2.2.1 10) N M N).heap[q]? = H[q]? := fun q hq => (o1 q hq).trans (by
    show T.heap[q]? = _
    rw [hT])
  generalize hU : mqS (T.setVm vm₁) (E.2.2.1 12) (E.2.2.1 10) N M N = U at X2 o1 o2 o3 hzz hoH
  have hW2 : Wd E (Ad E 88) (k0 + (1 + N)) g (mnr r k0 N) z U.heap := by
    refine Wd.growN (H := H) ⟨?_, ?_⟩ hE hs hoH (1 + N) (fun i hi => ⟨k0 + i, by omega, rfl⟩) (fun i hi => ?_)
    · intro i x hx
      have hi := wsl_in hx
      rw [wsl_at hi] at hx
      cases hx
      have := a.1 i _ (wsl_at hi)
      rw [cnt_g (g := g) (r := r) (fun _ => rfl) (fun q => by rw [mnr_r, if_neg (by omega)])]
      exact this
    · refine ⟨fun i j x y hx hy he => ?_, fun i x hx => ?_⟩
      · have hi := wsl_in hx
        have hj := wsl_in hy
        rw [wsl_at hi] at hx
        rw [wsl_at hj] at hy
        cases hx
        cases hy
        exact a.2.1 i j _ _ (wsl_at hi) (wsl_at hj) he
      · have hi := wsl_in hx
        rw [wsl_at hi] at hx
        cases hx
        have h7 := a.2.2 i (E.2.1 i, cnt E g r z i) (wsl_at hi)
        exact h7
    · cases i with
      | zero =>
        show va_at E.1 clx (E.2.1 k0, cnt E g (mnr r k0 N) z k0) U.heap
        rw [cnt_r hkd (by decide) (by decide)]
        show U.heap[E.2.1 k0]? = some (arrV (E.2.2.1 12) N (fun j => va_rf ((mnr r k0 N k0 j).map E.2.1)))
        rw [hs, o2]
        unfold mqO
        refine congrArg (fun f => some (arrV (E.2.2.1 12) N f)) (funext fun j => ?_)
        rw [mnr_r]
        by_cases hj : j < N
        · rw [if_pos hj, if_pos ⟨rfl, hj⟩]
          show Value.ref (H.size + 1 + j) = .ref (E.2.1 (k0 + 1 + j))
          rw [show E.2.1 (k0 + 1 + j) = H.size + 1 + j by rw [hE (k0 + 1 + j), ← hs, hE k0]; omega]
        · rw [if_neg hj, if_neg (by omega), hr]
          rfl
      | succ i =>
        rw [show k0 + (i + 1) = k0 + 1 + i by omega, cnt_i (hki i (by omega)) (by decide) (by decide), show g (k0 + 1 + i) = fun _ => 0 from funext (hg i (by omega))]
        show U.heap[E.2.1 (k0 + 1 + i)]? = some (arrV (E.2.2.1 10) M (fun _ => .int 0))
        have he : E.2.1 (k0 + 1 + i) = H.size + 1 + i := by
          rw [hE (k0 + 1 + i), ← hs, hE k0]
          omega
        rw [he]
        exact o3 i (by omega)
  have hS2 : va_S (Ad E 88) s.heap U.heap (locs ++ L) := by
    refine ⟨by have := b.1; omega, fun q h1 h2 => (hoH q (by have := b.1; omega)).trans (b.2.1 q h1 h2), fun q hq => ?_⟩
    rcases List.mem_append.mp hq with q1 | q1
    · exact b.2.2 q q1
    · rw [hL q q1, hsz, ← hs]
      exact ⟨k0, by omega, rfl⟩
  obtain ⟨t, a1, b1⟩ := kk U.heap (locs ++ L) ls (by rw [show k0 + 1 + N = k0 + (1 + N) by omega]; exact hW2) hS2 h U rfl X2
  refine ⟨t, ?_, b1⟩
  have hl1 : ¬ N > e.platform.arrayLengthLimit := by rw [Launch.admits_arrayLengthLimit X.admits]; omega
  have hh1 : ¬ N * componentBytes (.array .int) > e.platform.maxHeapBytes := by
    rw [Launch.admits_maxHeapBytes X.admits]
    show ¬ N * 4 > 536870912
    omega
  have hl2 : ¬ M > e.platform.arrayLengthLimit := by rw [Launch.admits_arrayLengthLimit X.admits]; omega
  have hh2 : ¬ M * componentBytes .int > e.platform.maxHeapBytes := by
    rw [Launch.admits_maxHeapBytes X.admits]
    show ¬ M * 4 > 536870912
    omega
  jvm_step X.here [hx, hdg]
  simp only [multianewarray.sem, wp_bind', Jvm.W.resolveClassAt_links (State.method?_setTop (F0 m pc ls (.int k :: .int n :: st)) X.here.top) hg1]
  rw [Jvm.W.popN, if_neg (by decide)]
  refine ⟨F0 m pc ls (.int k :: .int n :: st), State.topJava?_setTop' (s := T.setVm vm₁) _ X.here.top, [.int n, .int k], st, rfl, rfl, ?_⟩
  simp only [List.mapM_cons, List.mapM_nil, wp_bind', wp_pure']
  refine mq_make (kA := kA1) (kI := kI1) (cI := E.2.2.1 10) (cc := cc0) hkA1 (by rw [heA]; exact hkindA) hkI1 (by rw [heI]; exact hkindI) hn hm eN eM hl1 hh1 hl2 hh2 (by show T.heap.size + 1 + _ ≤ _; omega) (by show T.slotsUsed + _ + _ ≤ _; omega) (fun d' acts' => ?_)
  rw [show ((T.setTop (F0 m pc ls (.int k :: .int n :: st))).setVm vm₁).setTop { F0 m pc ls (.int k :: .int n :: st) with stack := st } = (T.setVm vm₁).setTop { F0 m pc ls (.int k :: .int n :: st) with stack := st } from by
    show ((T.setVm vm₁).setTop _).setTop _ = _
    rw [State.setTop_setTop], mqS_top, hU]
  simp only [wp_bind', Jvm.W.mark, Jvm.W.pushRef, State.topJava?_setTop' _ X2.here.top, Option.some.injEq, exists_eq_left', State.setTop_setTop, State.heap_setTop]
  intro acts
  simp [jvm, X2.here.top]
  rw [hs, ← hsz] at a1
  exact a1
end GKM
