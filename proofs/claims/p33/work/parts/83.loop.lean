/-! THE LAW'S LOOP -/
set_option maxHeartbeats 4000000 in
set_option maxRecDepth 20000 in
theorem law_t {A : Nat → Prop} {p : Program} {l : Launch} {e : Env} {s : State} {m : MethodId} {below : List Frame} {meth : Method} {c : Code} {b L : Nat} {xs : Nat → Int32} {rt0 : Option FieldType} {Eo E1 E2 : Ev} {k0 co so t : Nat} {g : IG} {r : RG} (cxo : CxA A p s m #[Value.ref b] meth c Eo cL_law 14 RL rt0) (cx1 : CxA A p s m #[Value.ref b] meth c E1 cL_law 14 RL rt0) (cx2 : CxA A p s m #[Value.ref b] meth c E2 cL_law 14 RL rt0) (hA1 : ∀ q, Ad E1 88 q → A q) (hA2 : ∀ q, Ad E2 88 q → A q) (hX : va_X b L xs s s.heap) (hbl : b < s.heap.size) (hbA : ¬ A b) (hL : L ≤ 3072) (hs0 : ∀ (H : Heap) (locs : List Loc), Wd Eo (Ad Eo 88) k0 g r 0 H → va_S A s.heap H locs → H.size ≤ s.heap.size + co → E1.2.1 0 = H.size) (hc1 : s.heap.size + co = E1.2.1 0) (hc2 : s.heap.size + (co + 88) = E2.2.1 0) (hE1 : Sq E1) (hE2 : Sq E2) (hK1 : Kx E1 s) (hK2 : Kx E2 s) (hcs : co + 176 ≤ room_1.cells ∧ so + 3944 ≤ room_1.slots) (ht : t < 4) (kk : ∀ g' : IG, GoA A p l e room_1 s m #[Value.ref b] below meth c E2 88 14 (co + 88 + 88) (so + 1972 + 1972) (lw_Z below #[Value.ref b] s) g' (RFo (some 5)) 0 2 [(1, .int (nI (t + 1))), (0, .ref b)] []) : GoA A p l e room_1 s m #[Value.ref b] below meth c Eo k0 14 co so (lw_Z below #[Value.ref b] s) g r 0 7 [(1, .int (nI t)), (0, .ref b)] [] := by
  have hcs1 : co + 88 ≤ room_1.cells ∧ so + 1972 ≤ room_1.slots := ⟨by omega, by omega⟩
  have hcs2 : co + 88 + 88 ≤ room_1.cells ∧ so + 1972 + 1972 ≤ room_1.slots := ⟨by omega, by omega⟩
  refine law_a cxo cx1 hA1 hX hbl hbA hL hcs1 hs0 hc1 hE1 hK1 ht (fun len nn g1 hl hn hCG => ?_)
  refine law_b cx1 hA1 hX hbl hbA hL hcs1 (by omega) (fun g2 hB2 hi2 => ?_) 4 0 g1 (by omega) (Bs.new hCG) (fun i j _ _ h => absurd h (by omega))
  refine law_c cx1 hA1 hX hbl hbA hL hcs1 ht hl hB2 hi2 (fun wish g3 hwi hB3 hf3 => ?_)
  refine law_d cx1 hA1 hX hbl hbA hL hcs1 (by omega) (fun g4 hB4 hf4 => ?_) nn 0 g3 (by omega) hB3 hf3
  refine law_e cx1 hA1 hX hbl hbA hL hcs1 ht (by omega) hB4 hf4 (fun g5 hB5 hf5 => ?_)
  refine law_f cx1 hA1 hX hbl hbA hL hcs1 (by omega) (fun g6 hB6 hf6 => ?_) nn 0 g5 (by omega) hB5 hf5
  refine law_g cx1 hA1 hX hbl hbA hL hcs1 ht hwi hB6 hf6 (fun sh g7 hsh hB7 hf7 => ?_)
  refine law_h cx1 hA1 hX hbl hbA hL hcs1 (by omega) (fun g8 hB8 hf8 => ?_) nn 0 g7 (by omega) hB7 hf7
  refine law_i cx1 hA1 hX hbl hbA hL hcs1 (by omega) (fun g9 hB9 hf9 => ?_) nn 0 g8 (by omega) hB8 hf8
  refine law_j cx1 hA1 hX hbl hbA hL hcs1 ht (by omega) (by omega) hwi hB9 hf9 (fun w g10 hw => ?_)
  refine law_k cx2 hA2 hX hbl hbA hL hcs2 (fun H locs a b hz => ?_) hc2 hE2 hK2 hw hwi (fun g11 hB11 hf11 h9 => ?_)
  · have h88 := gk_sz (k := 88) (cells := co + 88) hE1 a b hz (by omega) (fun h => absurd h (by decide))
    rw [hE1 88] at h88
    omega
  refine law_l cx2 hA2 hX hbl hbA hL hcs2 (fun g12 hB12 hf12 => ?_) 4 0 g11 (by omega) hB11 ⟨hf11, h9⟩
  refine law_m cx2 hA2 hX hbl hbA hL hcs2 ht (fun want hwa => ?_)
  refine law_n cx2 hA2 hX hbl hbA hL hcs2 hwa (fun g13 hB13 hf13 => ?_) 4 0 g12 (by omega) hB12 ⟨hf12, fun j hj => absurd hj (by omega)⟩
  exact law_o cx2 hA2 hX hbl hbA hL hcs2 hwa hB13 hf13 kk
theorem ga_lret {A : Nat → Prop} {p : Program} {l : Launch} {e : Env} {s : State} {m : MethodId} {below : List Frame} {meth : Method} {c : Code} {E : Ev} {b k0 : Nat} {cells slots : Nat} {own : String} {g : IG} {r : RG} {z : Int64} {pc : Nat} {lv : LV} (cx : CxA A p s m #[Value.ref b] meth c E code 14 own ret) (hA0 : ∀ q, A q → s.heap.size ≤ q) (hc : cells ≤ 600000) (hs : slots ≤ 7302250) (hdg : decode code pc = .ok (.ireturn, 1)) : GoA A p l e room_1 s m #[Value.ref b] below meth c E k0 14 cells slots (lw_Z below #[Value.ref b] s) g r z pc lv [.int 1] := by
  intro H locs ls a b9 h
  refine va_forget (fun q hq => hA0 _ (b9.2.2 q hq)) (W.widen (k := 600000) (n := 7302250) hc hs ?_)
  exact lw_ret cx.1.1 cx.1.2.1 cx.2.1 cx.2.2.1 hdg
/-- the j-th object's world: they lie one behind the other -/
def WJ (E : Ev) (a j : Nat) : Ev := (E.1, fun i => a + 88 * j + i, E.2.2)
theorem WJ_sq {E : Ev} {a j : Nat} : Sq (WJ E a j) := fun i => by
  show a + 88 * j + i = a + 88 * j + 0 + i
  omega
theorem WJ_0 {E : Ev} {a j : Nat} : (WJ E a j).2.1 0 = a + 88 * j := rfl
theorem WJ_ad {E : Ev} {a j q : Nat} (h : Ad (WJ E a j) 88 q) : a ≤ q := by
  obtain ⟨i, -, e⟩ := h
  have e2 : q = a + 88 * j + i := e
  omega
set_option maxHeartbeats 4000000 in
set_option maxRecDepth 20000 in
theorem law_hd {A : Nat → Prop} {p : Program} {l : Launch} {e : Env} {s : State} {m : MethodId} {below : List Frame} {meth : Method} {c : Code} {b L : Nat} {xs : Nat → Int32} {E : Ev} (cx : ∀ j, CxA A p s m #[Value.ref b] meth c (WJ E s.heap.size j) cL_law 14 RL ret) (hK : ∀ j, Kx (WJ E s.heap.size j) s) (hA1 : ∀ q, s.heap.size ≤ q → A q) (hA0 : ∀ q, A q → s.heap.size ≤ q) (hX : va_X b L xs s s.heap) (hbl : b < s.heap.size) (hbA : ¬ A b) (hL : L ≤ 3072) : ∀ (n t : Nat) (g : IG), t + n = 4 → 0 < t → GoA A p l e room_1 s m #[Value.ref b] below meth c (WJ E s.heap.size (2 * t - 1)) 88 14 (176 * t) (3944 * t) (lw_Z below #[Value.ref b] s) g (RFo (some 5)) 0 2 [(1, .int (nI t)), (0, .ref b)] []
  | 0, t, g, hn, h0 => by
    obtain rfl : t = 4 := by omega
    refine ga_iload_n (pc' := 3) (cx (2 * 4 - 1)) dL_law_2 rfl rfl ?_
    refine ga_iconst (pc' := 4) (cx (2 * 4 - 1)) (nI 4) dL_law_3 rfl rfl ?_
    refine ga_icmp_ge (pc' := 7) (cx (2 * 4 - 1)) 811 dL_law_4 rfl rfl (fun _ => ?_) (fun hh => absurd (nI_le (a := 4) (b := 4) (by omega) (by omega)) hh)
    refine ga_iconst (pc' := 812) (cx (2 * 4 - 1)) 1 dL_law_811 rfl rfl ?_
    exact ga_lret (cx (2 * 4 - 1)) hA0 (by omega) (by omega) dL_law_812
  | n + 1, t, g, hn, h0 => by
    refine ga_iload_n (pc' := 3) (cx (2 * t - 1)) dL_law_2 rfl rfl ?_
    refine ga_iconst (pc' := 4) (cx (2 * t - 1)) (nI 4) dL_law_3 rfl rfl ?_
    refine ga_icmp_ge (pc' := 7) (cx (2 * t - 1)) 811 dL_law_4 rfl rfl (fun hh => absurd hh (nI_ge (a := t) (b := 4) (by omega) (by omega))) (fun _ => ?_)
    have ih := fun g' => law_hd (l := l) (e := e) (below := below) cx hK hA1 hA0 hX hbl hbA hL n (t + 1) g' (by omega) (by omega)
    rw [show 2 * (t + 1) - 1 = 2 * t + 1 by omega] at ih
    refine law_t (cx (2 * t - 1)) (cx (2 * t)) (cx (2 * t + 1)) (fun q h => hA1 q (WJ_ad h)) (fun q h => hA1 q (WJ_ad h)) hX hbl hbA hL (fun H locs a b hz => ?_) ?_ ?_ WJ_sq WJ_sq (hK _) (hK _) ⟨?_, ?_⟩ (by omega) (fun g' => ga_w (k1 := 88) (c1 := 176 * (t + 1)) (s1 := 3944 * (t + 1)) rfl (by omega) (by omega) (ih g'))
    · have h88 := gk_sz (k := 88) (cells := 176 * t) WJ_sq a b hz (by rw [WJ_0]; omega) (fun h => absurd h (by decide))
      have h9 : s.heap.size + 88 * (2 * t - 1) + 88 = H.size := h88
      rw [WJ_0]
      omega
    · rw [WJ_0]
      omega
    · rw [WJ_0]
      omega
    · have : room_1.cells = 600000 := rfl
      omega
    · have : room_1.slots = 7302250 := rfl
      omega
set_option maxHeartbeats 4000000 in
set_option maxRecDepth 20000 in
theorem law_go {A : Nat → Prop} {p : Program} {l : Launch} {e : Env} {s : State} {m : MethodId} {below : List Frame} {meth : Method} {c : Code} {b L : Nat} {xs : Nat → Int32} {E : Ev} (cx : ∀ j, CxA A p s m #[Value.ref b] meth c (WJ E s.heap.size j) cL_law 14 RL ret) (hK : ∀ j, Kx (WJ E s.heap.size j) s) (hA1 : ∀ q, s.heap.size ≤ q → A q) (hA0 : ∀ q, A q → s.heap.size ≤ q) (hX : va_X b L xs s s.heap) (hbl : b < s.heap.size) (hbA : ¬ A b) (hL : L ≤ 3072) : W p l e room_1 s m #[Value.ref b] below meth c s.heap [] 0 0 (lw_Z below #[Value.ref b] s) (entryFrame m ([Value.ref b] : List Value).toArray 14) := by
  have K : GoA A p l e room_1 s m #[Value.ref b] below meth c (WJ E s.heap.size (0)) 0 14 0 0 (lw_Z below #[Value.ref b] s) Z0 N0 0 0 [(0, .ref b)] [] := by
    refine ga_iconst (pc' := 1) (cx 0) (nI 0) dL_law_0 rfl rfl ?_
    refine ga_istore_n (pc' := 2) (cx 0) dL_law_1 (ltn rfl) [(1, .int (nI 0)), (0, .ref b)] rfl rfl ?_
    refine ga_iload_n (pc' := 3) (cx 0) dL_law_2 rfl rfl ?_
    refine ga_iconst (pc' := 4) (cx 0) (nI 4) dL_law_3 rfl rfl ?_
    refine ga_icmp_ge (pc' := 7) (cx 0) 811 dL_law_4 rfl rfl (fun hh => absurd hh (nI_ge (a := 0) (b := 4) (by omega) (by omega))) (fun _ => ?_)
    refine law_t (cx 0) (cx 0) (cx 1) (fun q h => hA1 q (WJ_ad h)) (fun q h => hA1 q (WJ_ad h)) hX hbl hbA hL (fun H locs a b hz => ?_) ?_ ?_ WJ_sq WJ_sq (hK _) (hK _) ⟨?_, ?_⟩ (by omega) (fun g' => ga_w (k1 := 88) (c1 := 176 * 1) (s1 := 3944 * 1) rfl rfl rfl (law_hd cx hK hA1 hA0 hX hbl hbA hL 3 1 g' (by omega) (by omega)))
    · rw [WJ_0]
      have := b.1
      omega
    · show s.heap.size + 0 = s.heap.size + 88 * 0 + 0
      omega
    · show s.heap.size + (0 + 88) = s.heap.size + 88 * 1 + 0
      omega
    · exact (Nat.le_of_ble_eq_true rfl)
    · exact (Nat.le_of_ble_eq_true rfl)
  rw [lg_entry_eq]
  exact K s.heap [] _ Wd0 va_S.rf (lv_entry [.ref b] (Nat.le_of_ble_eq_true rfl))
