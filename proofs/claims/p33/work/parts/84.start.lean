/-! THE BEGINNING: WHAT THE START GIVES -/
theorem u_of {s : State} {a : Array Value} (hts : ∀ w ∈ lwg, w.before a s = true) {own : String} {idx ci : Nat} (h : NW own idx ci) : ∃ (cC : ClassId) (iS : Nat → Nat), ∀ q : vw_C, clx[ci]? = some q → u_Kn s q.1 q.2.1 q.2.2 cC iS := by
  obtain ⟨C, T, N, ty, q1, q2, q3, q4, q5, q6, q7⟩ := h
  obtain ⟨cC, iS, hK⟩ := u_known (C := C) (T := T) (N := N) (n := N) hts q5 (hts _ q3)
  refine ⟨cC, iS, fun q hq => ?_⟩
  cases q1.symm.trans hq
  exact hK
def tmS (i : Nat) : Term := match owS[i]? with
  | some q => .string q.1 q.2.1
  | none => .string "" 0
def gvn : List Cond := flatC (Jvm.Cond.and given_1 narrow_1)
theorem sS_ex : ∀ i, i < 13 → Cond.exactly (tmS i) "java/lang/String" ∈ gvn := by decide +kernel
theorem sS_co : ∀ i, i < 13 → Cond.eq (.field (tmS i) "java/lang/String" "coder" "B") (.int 0) ∈ gvn := by decide +kernel
theorem sS_ar : ∀ i, i < 13 → Cond.arrayOf (.field (tmS i) "java/lang/String" "value" "[B") .byte ∈ gvn := by decide +kernel
theorem sS_le : ∀ i, i < 13 → Cond.eq (.length (.field (tmS i) "java/lang/String" "value" "[B")) (.int (Int32.ofNat (lnS.getD i 0))) ∈ gvn := by decide +kernel
theorem sS_el : ∀ i, i < 13 → ∀ j, j < lnS.getD i 0 → Cond.eq (.elem (.field (tmS i) "java/lang/String" "value" "[B") (.int (Int32.ofNat j))) (.int ((byS.getD i []).getD j 0)) ∈ gvn := by decide +kernel
def neT : List (List Nat) := [[0, 72, 81, 91, 103, 116, 129, 144, 160, 177, 192, 209, 227], [0, 0, 82, 92, 104, 117, 130, 145, 161, 178, 193, 210, 228], [0, 0, 0, 93, 105, 118, 131, 146, 162, 179, 194, 211, 229], [0, 0, 0, 0, 106, 119, 132, 147, 163, 180, 195, 212, 230], [0, 0, 0, 0, 0, 120, 133, 148, 164, 181, 196, 213, 231], [0, 0, 0, 0, 0, 0, 134, 149, 165, 182, 197, 214, 232], [0, 0, 0, 0, 0, 0, 0, 150, 166, 183, 198, 215, 233], [0, 0, 0, 0, 0, 0, 0, 0, 167, 184, 199, 216, 234], [0, 0, 0, 0, 0, 0, 0, 0, 0, 185, 200, 217, 235], [0, 0, 0, 0, 0, 0, 0, 0, 0, 0, 201, 218, 236], [0, 0, 0, 0, 0, 0, 0, 0, 0, 0, 0, 219, 237], [0, 0, 0, 0, 0, 0, 0, 0, 0, 0, 0, 0, 238], [0, 0, 0, 0, 0, 0, 0, 0, 0, 0, 0, 0, 0]]
theorem sS_n1 : ∀ i, i < 13 → ∀ j, j < 13 → i < j → gvn[(neT.getD i []).getD j 0]? = some (Cond.not (Cond.eq (tmS i) (tmS j))) := by decide +kernel
theorem sS_ne {i j : Nat} (hi : i < 13) (hj : j < 13) (h : i ≠ j) : Cond.not (Cond.eq (tmS i) (tmS j)) ∈ gvn ∨ Cond.not (Cond.eq (tmS j) (tmS i)) ∈ gvn := by
  rcases Nat.lt_or_gt_of_ne h with h | h
  · exact Or.inl (List.mem_of_getElem? (sS_n1 i hi j hj h))
  · exact Or.inr (List.mem_of_getElem? (sS_n1 j hj i hi h))
theorem tys_of {E : Ev} {s : State} (h0 : ArrOfT s (E.2.2.1 10) .int ∧ va_RA s (E.2.2.1 10) .int) (h1 : ArrOfT s (E.2.2.1 11) .int ∧ va_RA s (E.2.2.1 11) .int) (h2 : ArrOfT s (E.2.2.1 12) (.array .int) ∧ va_RA s (E.2.2.1 12) (.array .int)) (h3 : ArrOfT s (E.2.2.1 13) (.object RX3) ∧ va_RA s (E.2.2.1 13) (.object RX3)) (h4 : ArrOfT s (E.2.2.1 14) (.object RX2) ∧ va_RA s (E.2.2.1 14) (.object RX2)) : ∀ (k : Nat) (q : ClassId × FieldType), (tyx E)[k]? = some q → ArrOfT s q.1 q.2 ∧ va_RA s q.1 q.2
  | 0, q, hk => by
    cases hk
    exact h0
  | 1, q, hk => by
    cases hk
    exact h1
  | 2, q, hk => by
    cases hk
    exact h2
  | 3, q, hk => by
    cases hk
    exact h3
  | 4, q, hk => by
    cases hk
    exact h4
  | k + 5, q, hk => absurd (List.getElem?_eq_some_iff.mp hk).1 (by show ¬ k + 5 < 5; omega)
theorem sS_ln : ∀ i, i < 13 → lnS.getD i 0 < 2 ^ 31 := by decide +kernel
theorem sR_in : ∀ i, i < 13 → ∀ q, owS[i]? = some q → Cond.stringRef q.1 q.2.1 q.2.2 ∈ lw_tbl := by
  have h : ∀ i, i < 13 → (match owS[i]? with
    | some q => decide (Cond.stringRef q.1 q.2.1 q.2.2 ∈ lw_tbl)
    | none => true) = true := by decide +kernel
  intro i hi q hq
  have := h i hi
  rw [hq] at this
  exact of_decide_eq_true this
/-- the word on rows of rows of ints, read out of the tables -/
theorem ao_ii {A : Array Value} {s : State} (h : (Cond.arrayOver (.array .int)).before A s = true) : ∃ comp c k, s.vm.findClass (FieldType.array .int).toString = some comp ∧ s.vm.classes[c]? = some k ∧ k.kind = .array comp (.array .int) ∧ s.vm.findClass ("[" ++ (FieldType.array .int).toString) = some c := by
  simp only [Cond.before, Cond.holds, Cond.value, beq_iff_eq] at h
  rcases e1 : s.vm.findClass (FieldType.array .int).toString with _ | comp
  · simp [e1] at h
  · simp only [e1, Option.bind_some, Option.bind_eq_some_iff, Option.map_eq_some_iff] at h
    obtain ⟨c, hi, k, hk, hb⟩ := h
    have hp := (Array.findIdx?_eq_some_iff_getElem.mp hi).2.1
    rw [(Array.getElem?_eq_some_iff.mp hk).2] at hp
    rcases e2 : k.kind with _ | _ | ⟨q, ty⟩ | _
    all_goals first
      | (rw [e2] at hb hp; simp at hb hp; exact ⟨comp, c, k, rfl, hk, by rw [e2, hp, hb.1], hb.2⟩)
      | (rw [e2] at hb; simp at hb)
set_option maxHeartbeats 2000000 in
theorem whole_start {p : Program} {e : Env} {s : State} {m : MethodId} {below : List Frame} {meth : Method} {c : Code} (l : Launch) (hflags : l.flags = flags0) {b L : Nat} {xs : Nat → Int32} (hL : L ≤ 260) (C0 : lw_At p s m meth c b L xs) : W p l e room_1 s m #[Value.ref b] below meth c s.heap [] 0 0 (lw_Z below #[Value.ref b] s) (entryFrame m ([Value.ref b] : List Value).toArray 14) := by
  obtain ⟨hx, hb, hr, hml, hown, hts, hX, hbl, hlocks, hgv⟩ := C0
  have hq : ∀ w ∈ gvn, w.before #[Value.ref b] s = true := flat_of_before _ hgv
  have htg : ∀ w ∈ lwg, w.before #[Value.ref b] s = true := fun w hw => hts w (List.mem_filter.mp hw).1
  have hA : ∀ a : Nat, a < s.heap.size → ¬ (fun q : Nat => s.heap.size ≤ q) a := fun a h1 h2 => absurd h1 (Nat.not_lt.mpr h2)
  -- classes
  obtain ⟨D, hD⟩ : ∃ D : va_G, ∀ (k : Nat) (q : vw_C), clx[k]? = some q → u_Kn s q.1 q.2.1 q.2.2 (D.1 k) (D.2 k) := by
    have h : ∀ k : Nat, ∃ (cC : ClassId) (iS : Nat → Nat), ∀ q : vw_C, clx[k]? = some q → u_Kn s q.1 q.2.1 q.2.2 cC iS := fun k => match k with
      | 0 => u_of htg nwX5_19
      | 1 => u_of htg nwX5_61
      | 2 => u_of htg nwX5_30
      | 3 => u_of htg nwX5_9
      | 4 => u_of htg nwX5_73
      | 5 => u_of htg nwL_17
      | k + 6 => by
        obtain ⟨cC, iS, -⟩ := u_of htg nwL_17
        exact ⟨cC, iS, fun q hq => absurd (List.getElem?_eq_some_iff.mp hq).1 (by show ¬ k + 6 < 6; omega)⟩
    exact ⟨(fun k => (h k).choose, fun k => (h k).choose_spec.choose), fun k q hk => (h k).choose_spec.choose_spec q hk⟩
  -- classes of rows
  obtain ⟨cI, kI, mI, i1, i2, i3⟩ := Cond.arrayClass_spec (hts (.arrayClass .int) (by decide +kernel))
  obtain ⟨mA, cA, kA, a1, a2, a3, a4⟩ := ao_ii (hts (.arrayOver (.array .int)) (by decide +kernel))
  have hAT := hts (.arrayOver (.object "AsLastTime$Text")) (by decide +kernel)
  have hAS := hts (.arrayOver (.object "AsLastTime$Sheet")) (by decide +kernel)
  obtain ⟨mT, cT, kT, t1, -, t3, t4, t5⟩ := Cond.arrayOver_spec hAT
  obtain ⟨mS, cS, kS, s1, -, s3, s4, s5⟩ := Cond.arrayOver_spec hAS
  have hmA : mA = cI := Option.some.inj (a1.symm.trans i1)
  -- strings and statics
  obtain ⟨adK, adV, hS, hSt⟩ := vk_Sof (tm := tmS) (len := lnS) (byt := byS) (N := 13) sS_ln (fun i hi => hq _ (sS_ex i hi)) (fun i hi => hq _ (sS_co i hi)) (fun i hi => hq _ (sS_ar i hi)) (fun i hi => hq _ (sS_le i hi)) (fun i hi j hj => hq _ (sS_el i hi j hj)) (fun i j hi hj hij => (sS_ne hi hj hij).imp (hq _) (hq _)) hA
  let arr : Nat → ClassId := fun k => if k = 12 then cA else if k = 13 then cT else if k = 14 then cS else cI
  let E : Ev := (D, fun i => s.heap.size + i, arr, adK, adV, 0)
  have hK : va_K E.1 clx (tyx E) s := ⟨hD, tys_of (E := E) ⟨fun n z => ⟨(fun k h => by cases h), kI, i2, mI, i3⟩, i1⟩ ⟨fun n z => ⟨(fun k h => by cases h), kI, i2, mI, i3⟩, i1⟩ ⟨fun n z => ⟨(fun k h => by cases h), kA, a2, mA, a3⟩, a4⟩ ⟨fun n z => ⟨(fun k h => by cases h), kT, t3, mT, t4⟩, kT, mT, t3, t4, t1, t5⟩ ⟨fun n z => ⟨(fun k h => by cases h), kS, s3, mS, s4⟩, kS, mS, s3, s4, s1, s5⟩⟩
  have hXr : Xr E s := fun i q hi => by
    have hi13 : i < 13 := (List.getElem?_eq_some_iff.mp hi).1
    have h2 := hSt i hi13
    unfold tmS at h2
    rw [hi] at h2
    exact vk_R.of (hts _ (sR_in i hi13 q hi)) h2
  have hXt : Xt E (fun q : Nat => s.heap.size ≤ q) s s.heap :=
    ⟨va_Zof (hts _ (by decide +kernel)) (hts _ (by decide +kernel)) (va_eqi (hq _ (by decide +kernel))) hA, va_Zqof (hts _ (by decide +kernel)) (hts _ (by decide +kernel)) (hq _ (by decide +kernel)) hA, trivial, trivial, hS⟩
  have cx : ∀ j, CxA (fun q : Nat => s.heap.size ≤ q) p s m #[Value.ref b] meth c (WJ E s.heap.size j) cL_law 14 RL ret := fun j => ⟨⟨hx, hb, hml, hown, htg⟩, hr, hlocks, ⟨hK, hXr⟩, hXt⟩
  have hKx : Kx E s := ⟨va_AO.of hAT, va_AO.of hAS, va_Nw.of rfl (hts _ (by decide +kernel)), va_Nw.of rfl (hts _ (by decide +kernel)), kA, a2, by rw [a3, hmA]; rfl⟩
  exact law_go cx (fun j => hKx) (fun q h => h) (fun q h => h) hX hbl (Nat.not_le.mpr hbl) (Nat.le_trans hL (by decide))
