/-! THE LAW, WALKED -/
theorem ga_lvp {A : Nat → Prop} {p : Program} {l : Launch} {e : Env} {R : Room} {s : State} {m : MethodId} {args : Array Value} {below : List Frame} {meth : Method} {c : Code} {E : Ev} {k0 nL cells slots : Nat} {Q : State → Prop} {g : IG} {r : RG} {z : Int64} {pc : Nat} {lv : LV} {st : List Value} (ps : List Nat) {lv' : LV} (h : ps.filterMap (fun i => lv[i]?) = lv') (kk : GoA A p l e R s m args below meth c E k0 nL cells slots Q g r z pc lv' st) : GoA A p l e R s m args below meth c E k0 nL cells slots Q g r z pc lv st := by
  refine ga_lv (Or.inr (fun q hq => ?_)) kk
  rw [← h] at hq
  obtain ⟨i, -, hi⟩ := List.mem_filterMap.mp hq
  exact List.mem_of_getElem? hi
set_option maxHeartbeats 4000000 in
set_option maxRecDepth 20000 in
theorem law_b1 {A : Nat → Prop} {p : Program} {l : Launch} {e : Env} {s : State} {m : MethodId} {below : List Frame} {meth : Method} {c : Code} {E : Ev} {b L : Nat} {xs : Nat → Int32} {rt0 : Option FieldType} {cells slots : Nat} (cx : CxA A p s m #[Value.ref b] meth c E cL_law 14 RL rt0) (hA : ∀ q, Ad E 88 q → A q) (hX : va_X b L xs s s.heap) (hbl : b < s.heap.size) (hbA : ¬ A b) (hL : L ≤ 3072) (hcs : cells ≤ room_1.cells ∧ slots ≤ room_1.slots) {len nn t pI : Nat} (hp : pI < 4) (hlen : len ≤ 199) (kk : ∀ g' : IG, Bs g' 0 0 → (∀ i j : Nat, i < 3 → j < 4 → j < pI + 1 → svC g' 37 i j = nI len) → GoA A p l e room_1 s m #[Value.ref b] below meth c E 88 14 cells slots (lw_Z below #[Value.ref b] s) g' (RFo (some 5)) 0 75 [(6, .int (nI 3)), (5, .int (nI pI)), (4, .ref (E.2.1 0)), (3, .int (nI nn)), (2, .int (nI len)), (1, .int (nI t)), (0, .ref b)] []) : ∀ (n k : Nat) (g : IG), k + n = 3 → Bs g 0 0 → (∀ i j : Nat, i < 3 → j < 4 → (j < pI ∨ (j = pI ∧ i < k)) → svC g 37 i j = nI len) → GoA A p l e room_1 s m #[Value.ref b] below meth c E 88 14 cells slots (lw_Z below #[Value.ref b] s) g (RFo (some 5)) 0 52 [(6, .int (nI k)), (5, .int (nI pI)), (4, .ref (E.2.1 0)), (3, .int (nI nn)), (2, .int (nI len)), (1, .int (nI t)), (0, .ref b)] []
  | 0, k, g, hk, hB, hi => by
    obtain rfl : k = 3 := by omega
    refine ga_iload (pc' := 54) cx dL_law_52 rfl rfl ?_
    refine ga_iconst (pc' := 55) cx (nI 3) dL_law_54 rfl rfl ?_
    refine ga_icmp_ge (pc' := 58) cx 75 dL_law_55 rfl rfl (fun _ => ?_) (fun hh => absurd (nI_le (a := 3) (b := 3) (by omega) (by omega)) hh)
    exact kk g hB (fun i j a1 a2 a3 => hi i j a1 a2 (by omega))
  | n + 1, k, g, hk, hB, hi => by
    refine ga_iload (pc' := 54) cx dL_law_52 rfl rfl ?_
    refine ga_iconst (pc' := 55) cx (nI 3) dL_law_54 rfl rfl ?_
    refine ga_icmp_ge (pc' := 58) cx 75 dL_law_55 rfl rfl (fun hh => absurd hh (nI_ge (a := k) (b := 3) (by omega) (by omega))) (fun _ => ?_)
    refine ga_aload (pc' := 60) cx dL_law_58 rfl rfl ?_
    refine ga_iload (pc' := 62) cx dL_law_60 rfl rfl ?_
    refine ga_iload (pc' := 64) cx dL_law_62 rfl rfl ?_
    refine ga_iload_n (pc' := 65) cx dL_law_64 rfl rfl ?_
    refine ga_cVI (pc' := 68) cx hA (Nat.le_refl 88) (k_setp l E (w := k) (q := pI) (x := len) hB (by omega) hp hlen) mX5_set lL_20 dL_law_65 kq0 (ltn rfl) (ltn rfl) rfl rfl rfl ⟨(Nat.le_of_ble_eq_true rfl), (Nat.le_of_ble_eq_true rfl)⟩ (Nat.le_of_ble_eq_true rfl) rfl hcs (fun x1 g1 h1 => ?_)
    obtain rfl := h1
    obtain ⟨hB2, e2⟩ := hB.set (w := k) (k := pI) (v := nI len) (by omega) (by omega)
    have hi2 : ∀ i j : Nat, i < 3 → j < 4 → (j < pI ∨ (j = pI ∧ i < k + 1)) → svC (up2 g (39 + k) pI (nI len)) 37 i j = nI len := by
      intro i j a1 a2 a3
      rw [e2]
      by_cases q : i = k ∧ j = pI
      · rw [q.1, q.2, up2_s]
      · rw [up2_n _ _ (by omega)]
        exact hi i j a1 a2 (by omega)
    refine ga_pop (pc' := 69) cx rfl dL_law_68 rfl ?_
    refine ga_iinc (pc' := 72) cx (nI (k + 1)) dL_law_69 rfl (nI_add k 1) (ltn rfl) [(6, .int (nI (k + 1))), (5, .int (nI pI)), (4, .ref (E.2.1 0)), (3, .int (nI nn)), (2, .int (nI len)), (1, .int (nI t)), (0, .ref b)] rfl rfl ?_
    refine ga_goto cx 52 dL_law_72 rfl ?_
    exact law_b1 cx hA hX hbl hbA hL hcs hp hlen kk n (k + 1) _ (by omega) hB2 hi2
set_option maxHeartbeats 4000000 in
set_option maxRecDepth 20000 in
theorem law_b {A : Nat → Prop} {p : Program} {l : Launch} {e : Env} {s : State} {m : MethodId} {below : List Frame} {meth : Method} {c : Code} {E : Ev} {b L : Nat} {xs : Nat → Int32} {rt0 : Option FieldType} {cells slots : Nat} (cx : CxA A p s m #[Value.ref b] meth c E cL_law 14 RL rt0) (hA : ∀ q, Ad E 88 q → A q) (hX : va_X b L xs s s.heap) (hbl : b < s.heap.size) (hbA : ¬ A b) (hL : L ≤ 3072) (hcs : cells ≤ room_1.cells ∧ slots ≤ room_1.slots) {len nn t : Nat} (hlen : len ≤ 199) (kk : ∀ g' : IG, Bs g' 0 0 → (∀ i j : Nat, i < 3 → j < 4 → True → svC g' 37 i j = nI len) → GoA A p l e room_1 s m #[Value.ref b] below meth c E 88 14 cells slots (lw_Z below #[Value.ref b] s) g' (RFo (some 5)) 0 81 [(4, .ref (E.2.1 0)), (3, .int (nI nn)), (2, .int (nI len)), (1, .int (nI t)), (0, .ref b)] []) : ∀ (n pI : Nat) (g : IG), pI + n = 4 → Bs g 0 0 → (∀ i j : Nat, i < 3 → j < 4 → j < pI → svC g 37 i j = nI len) → GoA A p l e room_1 s m #[Value.ref b] below meth c E 88 14 cells slots (lw_Z below #[Value.ref b] s) g (RFo (some 5)) 0 43 [(5, .int (nI pI)), (4, .ref (E.2.1 0)), (3, .int (nI nn)), (2, .int (nI len)), (1, .int (nI t)), (0, .ref b)] []
  | 0, pI, g, hk, hB, hi => by
    obtain rfl : pI = 4 := by omega
    refine ga_iload (pc' := 45) cx dL_law_43 rfl rfl ?_
    refine ga_iconst (pc' := 46) cx (nI 4) dL_law_45 rfl rfl ?_
    refine ga_icmp_ge (pc' := 49) cx 81 dL_law_46 rfl rfl (fun _ => ?_) (fun hh => absurd (nI_le (a := 4) (b := 4) (by omega) (by omega)) hh)
    refine ga_lvp [1, 2, 3, 4, 5] (lv' := [(4, .ref (E.2.1 0)), (3, .int (nI nn)), (2, .int (nI len)), (1, .int (nI t)), (0, .ref b)]) rfl ?_
    exact kk g hB (fun i j a1 a2 _ => hi i j a1 a2 (by omega))
  | n + 1, pI, g, hk, hB, hi => by
    refine ga_iload (pc' := 45) cx dL_law_43 rfl rfl ?_
    refine ga_iconst (pc' := 46) cx (nI 4) dL_law_45 rfl rfl ?_
    refine ga_icmp_ge (pc' := 49) cx 81 dL_law_46 rfl rfl (fun hh => absurd hh (nI_ge (a := pI) (b := 4) (by omega) (by omega))) (fun _ => ?_)
    refine ga_iconst (pc' := 50) cx (nI 0) dL_law_49 rfl rfl ?_
    refine ga_istore (pc' := 52) cx dL_law_50 (ltn rfl) [(6, .int (nI 0)), (5, .int (nI pI)), (4, .ref (E.2.1 0)), (3, .int (nI nn)), (2, .int (nI len)), (1, .int (nI t)), (0, .ref b)] rfl rfl ?_
    refine law_b1 cx hA hX hbl hbA hL hcs (len := len) (nn := nn) (t := t) (pI := pI) (by omega) hlen (fun g' hB' hi' => ?_) 3 0 g (by omega) hB (fun i j a1 a2 a3 => hi i j a1 a2 (by omega))
    refine ga_iinc (pc' := 78) cx (nI (pI + 1)) dL_law_75 rfl (nI_add pI 1) (ltn rfl) [(5, .int (nI (pI + 1))), (6, .int (nI 3)), (4, .ref (E.2.1 0)), (3, .int (nI nn)), (2, .int (nI len)), (1, .int (nI t)), (0, .ref b)] rfl rfl ?_
    refine ga_goto cx 43 dL_law_78 rfl ?_
    refine ga_lvp [0, 2, 3, 4, 5, 6] (lv' := [(5, .int (nI (pI + 1))), (4, .ref (E.2.1 0)), (3, .int (nI nn)), (2, .int (nI len)), (1, .int (nI t)), (0, .ref b)]) rfl ?_
    exact law_b cx hA hX hbl hbA hL hcs hlen kk n (pI + 1) g' (by omega) hB' (fun i j a1 a2 a3 => hi' i j a1 a2 a3)
set_option maxHeartbeats 4000000 in
set_option maxRecDepth 20000 in
theorem law_c {A : Nat → Prop} {p : Program} {l : Launch} {e : Env} {s : State} {m : MethodId} {below : List Frame} {meth : Method} {c : Code} {E : Ev} {b L : Nat} {xs : Nat → Int32} {rt0 : Option FieldType} {cells slots : Nat} (cx : CxA A p s m #[Value.ref b] meth c E cL_law 14 RL rt0) (hA : ∀ q, Ad E 88 q → A q) (hX : va_X b L xs s s.heap) (hbl : b < s.heap.size) (hbA : ¬ A b) (hL : L ≤ 3072) (hcs : cells ≤ room_1.cells ∧ slots ≤ room_1.slots) {len nn t : Nat} (ht : t < 4) (hl : 50 ≤ len ∧ len < 150) {g : IG} (hB : Bs g 0 0) (hi0 : (∀ i j : Nat, i < 3 → j < 4 → True → svC g 37 i j = nI len)) (kk : ∀ (wish : Nat) (g' : IG), wish ≤ 199 → Bs g' 1 0 → F1 (svC g' 37) 0 len 0 0 0 → GoA A p l e room_1 s m #[Value.ref b] below meth c E 88 14 cells slots (lw_Z below #[Value.ref b] s) g' (RFo (some 5)) 0 112 [(6, .int (nI 0)), (5, .int (nI wish)), (4, .ref (E.2.1 0)), (3, .int (nI nn)), (2, .int (nI len)), (1, .int (nI t)), (0, .ref b)] []) : GoA A p l e room_1 s m #[Value.ref b] below meth c E 88 14 cells slots (lw_Z below #[Value.ref b] s) g (RFo (some 5)) 0 81 [(4, .ref (E.2.1 0)), (3, .int (nI nn)), (2, .int (nI len)), (1, .int (nI t)), (0, .ref b)] [] := by
  have hi : ∀ i j : Nat, i < 3 → j < 4 → svC g 37 i j = nI len := fun i j a1 a2 => hi0 i j a1 a2 trivial
  refine ga_aload_n (pc' := 82) cx dL_law_81 rfl rfl ?_
  refine ga_bipush (pc' := 84) cx (nI 20) dL_law_82 rfl rfl ?_
  refine ga_iload_n (pc' := 85) cx dL_law_84 rfl rfl ?_
  refine ga_iadd (pc' := 86) cx dL_law_85 rfl ?_
  refine ga_val (w := .int (nI (20 + t))) (congrArg Value.int (nI_add 20 t)) ?_
  refine ga_sipush (pc' := 89) cx (nI 200) dL_law_86 rfl rfl ?_
  refine ga_callX (pc' := 92) cx hX hbl hbA (c_some l E (xs := xs) (kn := (20 + t)) (N := 200) hL (by omega) (by omega) (by omega)) mL_some lL_13 dL_law_89 rfl rfl ⟨(Nat.le_of_ble_eq_true rfl), (Nat.le_of_ble_eq_true rfl)⟩ (Nat.le_of_ble_eq_true rfl) rfl hcs (fun x9 hx9 => ?_)
  obtain ⟨wish, hwish, rfl⟩ := hx9
  refine ga_istore (pc' := 94) cx dL_law_92 (ltn rfl) [(5, .int (nI wish)), (4, .ref (E.2.1 0)), (3, .int (nI nn)), (2, .int (nI len)), (1, .int (nI t)), (0, .ref b)] rfl rfl ?_
  refine ga_aload (pc' := 96) cx dL_law_94 rfl rfl ?_
  refine ga_iconst (pc' := 97) cx (nI 0) dL_law_96 rfl rfl ?_
  refine ga_bipush (pc' := 99) cx (nI 10) dL_law_97 rfl rfl ?_
  refine ga_iload (pc' := 101) cx dL_law_99 rfl rfl ?_
  refine ga_cVi (pc' := 104) cx hA (Nat.le_refl 88) (k_hand l E (ki := 0) (num := 0) (sh := 10) (wi := wish) hB (by omega) (by omega) (by omega) (by omega) (by omega) rfl) mX5_hand lL_24 dL_law_101 kq0 (ltn rfl) (ltn rfl) rfl rfl rfl ⟨(Nat.le_of_ble_eq_true rfl), (Nat.le_of_ble_eq_true rfl)⟩ (Nat.le_of_ble_eq_true rfl) rfl hcs ?_
  have hB1 := hB.hand (ki := 0) (num := 0) (sh := 10) (wi := wish) (by omega)
  have hf1 := F1.start (wi := wish) hl hi
  refine ga_if_eq (pc' := 107) cx 109 dL_law_104 rfl rfl (fun _ => ?_) (fun hh => absurd rfl hh)
  refine ga_iconst (pc' := 110) cx (nI 0) dL_law_109 rfl rfl ?_
  refine ga_istore (pc' := 112) cx dL_law_110 (ltn rfl) [(6, .int (nI 0)), (5, .int (nI wish)), (4, .ref (E.2.1 0)), (3, .int (nI nn)), (2, .int (nI len)), (1, .int (nI t)), (0, .ref b)] rfl rfl ?_
  exact kk wish _ (by omega) hB1 hf1
set_option maxHeartbeats 4000000 in
set_option maxRecDepth 20000 in
theorem law_d {A : Nat → Prop} {p : Program} {l : Launch} {e : Env} {s : State} {m : MethodId} {below : List Frame} {meth : Method} {c : Code} {E : Ev} {b L : Nat} {xs : Nat → Int32} {rt0 : Option FieldType} {cells slots : Nat} (cx : CxA A p s m #[Value.ref b] meth c E cL_law 14 RL rt0) (hA : ∀ q, Ad E 88 q → A q) (hX : va_X b L xs s s.heap) (hbl : b < s.heap.size) (hbA : ¬ A b) (hL : L ≤ 3072) (hcs : cells ≤ room_1.cells ∧ slots ≤ room_1.slots) {len nn t wish : Nat} (hn : nn ≤ 8) (kk : ∀ g' : IG, Bs g' 1 nn → F1 (svC g' 37) nn len 0 0 0 → GoA A p l e room_1 s m #[Value.ref b] below meth c E 88 14 cells slots (lw_Z below #[Value.ref b] s) g' (RFo (some 5)) 0 151 [(5, .int (nI wish)), (4, .ref (E.2.1 0)), (3, .int (nI nn)), (2, .int (nI len)), (1, .int (nI t)), (0, .ref b)] []) : ∀ (n k : Nat) (g : IG), k + n = nn → Bs g 1 k → F1 (svC g 37) k len 0 0 0 → GoA A p l e room_1 s m #[Value.ref b] below meth c E 88 14 cells slots (lw_Z below #[Value.ref b] s) g (RFo (some 5)) 0 112 [(6, .int (nI k)), (5, .int (nI wish)), (4, .ref (E.2.1 0)), (3, .int (nI nn)), (2, .int (nI len)), (1, .int (nI t)), (0, .ref b)] []
  | 0, k, g, hk, hB, hf => by
    have hk2 : nn = k := by omega
    subst hk2
    refine ga_iload (pc' := 114) cx dL_law_112 rfl rfl ?_
    refine ga_iload_n (pc' := 115) cx dL_law_114 rfl rfl ?_
    refine ga_icmp_ge (pc' := 118) cx 151 dL_law_115 rfl rfl (fun _ => ?_) (fun hh => absurd (nI_le (a := nn) (b := nn) (by omega) (by omega)) hh)
    refine ga_lvp [1, 2, 3, 4, 5, 6] (lv' := [(5, .int (nI wish)), (4, .ref (E.2.1 0)), (3, .int (nI nn)), (2, .int (nI len)), (1, .int (nI t)), (0, .ref b)]) rfl ?_
    exact kk g hB hf
  | n + 1, k, g, hk, hB, hf => by
    refine ga_iload (pc' := 114) cx dL_law_112 rfl rfl ?_
    refine ga_iload_n (pc' := 115) cx dL_law_114 rfl rfl ?_
    refine ga_icmp_ge (pc' := 118) cx 151 dL_law_115 rfl rfl (fun hh => absurd hh (nI_ge (a := k) (b := nn) (by omega) (by omega))) (fun _ => ?_)
    refine ga_aload (pc' := 120) cx dL_law_118 rfl rfl ?_
    refine ga_iconst (pc' := 121) cx (nI 0) dL_law_120 rfl rfl ?_
    refine ga_bipush (pc' := 123) cx (nI 10) dL_law_121 rfl rfl ?_
    refine ga_aload_n (pc' := 124) cx dL_law_123 rfl rfl ?_
    refine ga_bipush (pc' := 126) cx (nI 30) dL_law_124 rfl rfl ?_
    refine ga_iload (pc' := 128) cx dL_law_126 rfl rfl ?_
    refine ga_iadd (pc' := 129) cx dL_law_128 rfl ?_
    refine ga_val (w := .int (nI (30 + k))) (congrArg Value.int (nI_add 30 k)) ?_
    refine ga_bipush (pc' := 131) cx (nI 21) dL_law_129 rfl rfl ?_
    refine ga_callX (pc' := 134) cx hX hbl hbA (c_some l E (xs := xs) (kn := (30 + k)) (N := 21) hL (by omega) (by omega) (by omega)) mL_some lL_13 dL_law_131 rfl rfl ⟨(Nat.le_of_ble_eq_true rfl), (Nat.le_of_ble_eq_true rfl)⟩ (Nat.le_of_ble_eq_true rfl) rfl hcs (fun x9 hx9 => ?_)
    obtain ⟨wk, hwk, rfl⟩ := hx9
    refine ga_imul (pc' := 135) cx dL_law_134 rfl ?_
    refine ga_val (w := .int (nI (10 * wk))) (congrArg Value.int (pk_mul 10 wk)) ?_
    refine ga_cVi (pc' := 138) cx hA (Nat.le_refl 88) (k_visit l E (h := 0) (w := wk) hB (by omega) (by omega) (by omega) rfl) mX5_visit lL_27 dL_law_135 kq0 (ltn rfl) (ltn rfl) rfl rfl rfl ⟨(Nat.le_of_ble_eq_true rfl), (Nat.le_of_ble_eq_true rfl)⟩ (Nat.le_of_ble_eq_true rfl) rfl hcs ?_
    have hB2 := hB.visit (h := 0) (w := wk) (by omega) (by omega)
    have hf2 := hf.visit (w := wk) (by omega) (by omega)
    refine ga_iload (pc' := 140) cx dL_law_138 rfl rfl ?_
    refine ga_icmp_eq (pc' := 143) cx 145 dL_law_140 rfl rfl (fun _ => ?_) (fun hh => absurd rfl hh)
    refine ga_iinc (pc' := 148) cx (nI (k + 1)) dL_law_145 rfl (nI_add k 1) (ltn rfl) [(6, .int (nI (k + 1))), (5, .int (nI wish)), (4, .ref (E.2.1 0)), (3, .int (nI nn)), (2, .int (nI len)), (1, .int (nI t)), (0, .ref b)] rfl rfl ?_
    refine ga_goto cx 112 dL_law_148 rfl ?_
    exact law_d cx hA hX hbl hbA hL hcs hn kk n (k + 1) _ (by omega) hB2 hf2
set_option maxHeartbeats 4000000 in
set_option maxRecDepth 20000 in
theorem law_e {A : Nat → Prop} {p : Program} {l : Launch} {e : Env} {s : State} {m : MethodId} {below : List Frame} {meth : Method} {c : Code} {E : Ev} {b L : Nat} {xs : Nat → Int32} {rt0 : Option FieldType} {cells slots : Nat} (cx : CxA A p s m #[Value.ref b] meth c E cL_law 14 RL rt0) (hA : ∀ q, Ad E 88 q → A q) (hX : va_X b L xs s s.heap) (hbl : b < s.heap.size) (hbA : ¬ A b) (hL : L ≤ 3072) (hcs : cells ≤ room_1.cells ∧ slots ≤ room_1.slots) {len nn t wish : Nat} (ht : t < 4) (hn1 : 0 < nn) {g : IG} (hB : Bs g 1 nn) (hf : F1 (svC g 37) nn len 0 0 0) (kk : ∀ g' : IG, Bs g' 1 nn → F1 (svC g' 37) nn len 0 0 0 → GoA A p l e room_1 s m #[Value.ref b] below meth c E 88 14 cells slots (lw_Z below #[Value.ref b] s) g' (RFo (some 5)) 0 209 [(6, .int (nI 0)), (5, .int (nI wish)), (4, .ref (E.2.1 0)), (3, .int (nI nn)), (2, .int (nI len)), (1, .int (nI t)), (0, .ref b)] []) : GoA A p l e room_1 s m #[Value.ref b] below meth c E 88 14 cells slots (lw_Z below #[Value.ref b] s) g (RFo (some 5)) 0 151 [(5, .int (nI wish)), (4, .ref (E.2.1 0)), (3, .int (nI nn)), (2, .int (nI len)), (1, .int (nI t)), (0, .ref b)] [] := by
  refine ga_aload (pc' := 153) cx dL_law_151 rfl rfl ?_
  refine ga_iconst (pc' := 154) cx (nI 0) dL_law_153 rfl rfl ?_
  refine ga_cVI (pc' := 157) cx hA (Nat.le_refl 88) (c_X5_bad l E hB.1 (nI 0)) mX5_bad lL_31 dL_law_154 kq0 (ltn rfl) (ltn rfl) rfl rfl rfl ⟨(Nat.le_of_ble_eq_true rfl), (Nat.le_of_ble_eq_true rfl)⟩ (Nat.le_of_ble_eq_true rfl) rfl hcs (fun x1 g1 h1 => ?_)
  obtain ⟨ex1, hFx1⟩ := h1
  have vx1 : x1 = 0 := ex1.trans (hf.bad0.trans (by rw [sN_0]; rfl))
  replace ⟨hB, hf⟩ := hB.qp (P := fun a => F1 a nn len 0 0 0) hf hFx1
  refine ga_if_ne (pc' := 160) cx 204 dL_law_157 rfl rfl (fun hh => absurd vx1 hh) (fun _ => ?_)
  refine ga_aload (pc' := 162) cx dL_law_160 rfl rfl ?_
  refine ga_iconst (pc' := 163) cx (nI 1) dL_law_162 rfl rfl ?_
  refine ga_cVI (pc' := 166) cx hA (Nat.le_refl 88) (c_X5_bad l E hB.1 (nI 1)) mX5_bad lL_31 dL_law_163 kq0 (ltn rfl) (ltn rfl) rfl rfl rfl ⟨(Nat.le_of_ble_eq_true rfl), (Nat.le_of_ble_eq_true rfl)⟩ (Nat.le_of_ble_eq_true rfl) rfl hcs (fun x2 g2 h2 => ?_)
  obtain ⟨ex2, hFx2⟩ := h2
  have vx2 : x2 = 0 := ex2.trans (hf.bad1)
  replace ⟨hB, hf⟩ := hB.qp (P := fun a => F1 a nn len 0 0 0) hf hFx2
  refine ga_if_ne (pc' := 169) cx 204 dL_law_166 rfl rfl (fun hh => absurd vx2 hh) (fun _ => ?_)
  refine ga_aload (pc' := 171) cx dL_law_169 rfl rfl ?_
  refine ga_iconst (pc' := 172) cx (nI 0) dL_law_171 rfl rfl ?_
  refine ga_cVI (pc' := 175) cx hA (Nat.le_refl 88) (c_X5_again l E hB.1 (nI 0)) mX5_again lL_35 dL_law_172 kq0 (ltn rfl) (ltn rfl) rfl rfl rfl ⟨(Nat.le_of_ble_eq_true rfl), (Nat.le_of_ble_eq_true rfl)⟩ (Nat.le_of_ble_eq_true rfl) rfl hcs (fun x3 g3 h3 => ?_)
  obtain ⟨ex3, hFx3⟩ := h3
  have vx3 : x3 = 0 := ex3.trans ((hf.again hn1).trans (if_pos rfl))
  replace ⟨hB, hf⟩ := hB.qp (P := fun a => F1 a nn len 0 0 0) hf hFx3
  refine ga_if_ne (pc' := 178) cx 204 dL_law_175 rfl rfl (fun hh => absurd vx3 hh) (fun _ => ?_)
  refine ga_aload (pc' := 180) cx dL_law_178 rfl rfl ?_
  refine ga_iload_n (pc' := 181) cx dL_law_180 rfl rfl ?_
  refine ga_cVI (pc' := 184) cx hA (Nat.le_refl 88) (c_X5_drift l E hB.1 (nI t)) mX5_drift lL_38 dL_law_181 kq0 (ltn rfl) (ltn rfl) rfl rfl rfl ⟨(Nat.le_of_ble_eq_true rfl), (Nat.le_of_ble_eq_true rfl)⟩ (Nat.le_of_ble_eq_true rfl) rfl hcs (fun x4 g4 h4 => ?_)
  obtain ⟨ex4, hFx4⟩ := h4
  have vx4 : x4 = 0 := ex4.trans ((hf.drift ht).trans (by rw [show nI 0 = (0 : Int32) from rfl, Int32.neg_zero, Int32.zero_mul]))
  replace ⟨hB, hf⟩ := hB.qp (P := fun a => F1 a nn len 0 0 0) hf hFx4
  refine ga_if_ne (pc' := 187) cx 204 dL_law_184 rfl rfl (fun hh => absurd vx4 hh) (fun _ => ?_)
  refine ga_aload (pc' := 189) cx dL_law_187 rfl rfl ?_
  refine ga_iconst (pc' := 190) cx (nI 1) dL_law_189 rfl rfl ?_
  refine ga_cVI (pc' := 193) cx hA (Nat.le_refl 88) (c_X5_whom l E hB.1 (nI 1)) mX5_whom lL_41 dL_law_190 kq0 (ltn rfl) (ltn rfl) rfl rfl rfl ⟨(Nat.le_of_ble_eq_true rfl), (Nat.le_of_ble_eq_true rfl)⟩ (Nat.le_of_ble_eq_true rfl) rfl hcs (fun x5 g5 h5 => ?_)
  obtain ⟨ex5, hFx5⟩ := h5
  have vx5 : x5 = 0 := ex5.trans (whom_1 hf)
  replace ⟨hB, hf⟩ := hB.qp (P := fun a => F1 a nn len 0 0 0) hf hFx5
  refine ga_if_ne (pc' := 196) cx 204 dL_law_193 rfl rfl (fun hh => absurd vx5 hh) (fun _ => ?_)
  refine ga_aload (pc' := 198) cx dL_law_196 rfl rfl ?_
  refine ga_cVI (pc' := 201) cx hA (Nat.le_refl 88) (c_X5_marked l E hB.1) mX5_marked lL_44 dL_law_198 kq0 (ltn rfl) (ltn rfl) rfl rfl rfl ⟨(Nat.le_of_ble_eq_true rfl), (Nat.le_of_ble_eq_true rfl)⟩ (Nat.le_of_ble_eq_true rfl) rfl hcs (fun x6 g6 h6 => ?_)
  obtain ⟨ex6, hFx6⟩ := h6
  have vx6 : x6 = 0 := ex6.trans (hf.mark)
  replace ⟨hB, hf⟩ := hB.qp (P := fun a => F1 a nn len 0 0 0) hf hFx6
  refine ga_if_eq (pc' := 204) cx 206 dL_law_201 rfl rfl (fun _ => ?_) (fun hh => absurd vx6 hh)
  refine ga_iconst (pc' := 207) cx (nI 0) dL_law_206 rfl rfl ?_
  refine ga_istore (pc' := 209) cx dL_law_207 (ltn rfl) [(6, .int (nI 0)), (5, .int (nI wish)), (4, .ref (E.2.1 0)), (3, .int (nI nn)), (2, .int (nI len)), (1, .int (nI t)), (0, .ref b)] rfl rfl ?_
  exact kk g6 hB hf
set_option maxHeartbeats 4000000 in
set_option maxRecDepth 20000 in
theorem law_f1 {A : Nat → Prop} {p : Program} {l : Launch} {e : Env} {s : State} {m : MethodId} {below : List Frame} {meth : Method} {c : Code} {E : Ev} {b L : Nat} {xs : Nat → Int32} {rt0 : Option FieldType} {cells slots : Nat} (cx : CxA A p s m #[Value.ref b] meth c E cL_law 14 RL rt0) (hA : ∀ q, Ad E 88 q → A q) (hX : va_X b L xs s s.heap) (hbl : b < s.heap.size) (hbA : ¬ A b) (hL : L ≤ 3072) (hcs : cells ≤ room_1.cells ∧ slots ≤ room_1.slots) {len nn t wish k : Nat} (hk : k < nn) (kk : ∀ g' : IG, Bs g' 1 nn → F1 (svC g' 37) nn len 0 0 0 → GoA A p l e room_1 s m #[Value.ref b] below meth c E 88 14 cells slots (lw_Z below #[Value.ref b] s) g' (RFo (some 5)) 0 245 [(7, .int (nI 4)), (6, .int (nI k)), (5, .int (nI wish)), (4, .ref (E.2.1 0)), (3, .int (nI nn)), (2, .int (nI len)), (1, .int (nI t)), (0, .ref b)] []) : ∀ (n pI : Nat) (g : IG), pI + n = 4 → Bs g 1 nn → F1 (svC g 37) nn len 0 0 0 → GoA A p l e room_1 s m #[Value.ref b] below meth c E 88 14 cells slots (lw_Z below #[Value.ref b] s) g (RFo (some 5)) 0 218 [(7, .int (nI pI)), (6, .int (nI k)), (5, .int (nI wish)), (4, .ref (E.2.1 0)), (3, .int (nI nn)), (2, .int (nI len)), (1, .int (nI t)), (0, .ref b)] []
  | 0, pI, g, hp4, hB, hf => by
    obtain rfl : pI = 4 := by omega
    refine ga_iload (pc' := 220) cx dL_law_218 rfl rfl ?_
    refine ga_iconst (pc' := 221) cx (nI 4) dL_law_220 rfl rfl ?_
    refine ga_icmp_ge (pc' := 224) cx 245 dL_law_221 rfl rfl (fun _ => ?_) (fun hh => absurd (nI_le (a := 4) (b := 4) (by omega) (by omega)) hh)
    exact kk g hB hf
  | n + 1, pI, g, hp4, hB, hf => by
    have hp : pI < 4 := by omega
    refine ga_iload (pc' := 220) cx dL_law_218 rfl rfl ?_
    refine ga_iconst (pc' := 221) cx (nI 4) dL_law_220 rfl rfl ?_
    refine ga_icmp_ge (pc' := 224) cx 245 dL_law_221 rfl rfl (fun hh => absurd hh (nI_ge (a := pI) (b := 4) (by omega) (by omega))) (fun _ => ?_)
    refine ga_aload (pc' := 226) cx dL_law_224 rfl rfl ?_
    refine ga_iload (pc' := 228) cx dL_law_226 rfl rfl ?_
    refine ga_iload (pc' := 230) cx dL_law_228 rfl rfl ?_
    refine ga_cVI (pc' := 233) cx hA (Nat.le_refl 88) (c_X5_course l E hB.1 (nI k) (nI pI)) mX5_course lL_48 dL_law_230 kq0 (ltn rfl) (ltn rfl) rfl rfl rfl ⟨(Nat.le_of_ble_eq_true rfl), (Nat.le_of_ble_eq_true rfl)⟩ (Nat.le_of_ble_eq_true rfl) rfl hcs (fun x1 g1 h1 => ?_)
    obtain ⟨ex1, hFx1⟩ := h1
    have vx1 : x1 = nI len := ex1.trans ((hf.course hk hp).trans (by rw [Nat.zero_mul]; rfl))
    obtain ⟨hB2, hf2⟩ := hB.qp (P := fun a => F1 a nn len 0 0 0) hf hFx1
    refine ga_iload_n (pc' := 234) cx dL_law_233 rfl rfl ?_
    refine ga_icmp_eq (pc' := 237) cx 239 dL_law_234 rfl rfl (fun _ => ?_) (fun hh => absurd vx1 hh)
    refine ga_iinc (pc' := 242) cx (nI (pI + 1)) dL_law_239 rfl (nI_add pI 1) (ltn rfl) [(7, .int (nI (pI + 1))), (6, .int (nI k)), (5, .int (nI wish)), (4, .ref (E.2.1 0)), (3, .int (nI nn)), (2, .int (nI len)), (1, .int (nI t)), (0, .ref b)] rfl rfl ?_
    refine ga_goto cx 218 dL_law_242 rfl ?_
    exact law_f1 cx hA hX hbl hbA hL hcs hk kk n (pI + 1) _ (by omega) hB2 hf2
set_option maxHeartbeats 4000000 in
set_option maxRecDepth 20000 in
theorem law_f {A : Nat → Prop} {p : Program} {l : Launch} {e : Env} {s : State} {m : MethodId} {below : List Frame} {meth : Method} {c : Code} {E : Ev} {b L : Nat} {xs : Nat → Int32} {rt0 : Option FieldType} {cells slots : Nat} (cx : CxA A p s m #[Value.ref b] meth c E cL_law 14 RL rt0) (hA : ∀ q, Ad E 88 q → A q) (hX : va_X b L xs s s.heap) (hbl : b < s.heap.size) (hbA : ¬ A b) (hL : L ≤ 3072) (hcs : cells ≤ room_1.cells ∧ slots ≤ room_1.slots) {len nn t wish : Nat} (hn : nn ≤ 8) (kk : ∀ g' : IG, Bs g' 1 nn → F1 (svC g' 37) nn len 0 0 0 → GoA A p l e room_1 s m #[Value.ref b] below meth c E 88 14 cells slots (lw_Z below #[Value.ref b] s) g' (RFo (some 5)) 0 251 [(5, .int (nI wish)), (4, .ref (E.2.1 0)), (3, .int (nI nn)), (2, .int (nI len)), (1, .int (nI t)), (0, .ref b)] []) : ∀ (n k : Nat) (g : IG), k + n = nn → Bs g 1 nn → F1 (svC g 37) nn len 0 0 0 → GoA A p l e room_1 s m #[Value.ref b] below meth c E 88 14 cells slots (lw_Z below #[Value.ref b] s) g (RFo (some 5)) 0 209 [(6, .int (nI k)), (5, .int (nI wish)), (4, .ref (E.2.1 0)), (3, .int (nI nn)), (2, .int (nI len)), (1, .int (nI t)), (0, .ref b)] []
  | 0, k, g, hk, hB, hf => by
    have hk2 : nn = k := by omega
    subst hk2
    refine ga_iload (pc' := 211) cx dL_law_209 rfl rfl ?_
    refine ga_iload_n (pc' := 212) cx dL_law_211 rfl rfl ?_
    refine ga_icmp_ge (pc' := 215) cx 251 dL_law_212 rfl rfl (fun _ => ?_) (fun hh => absurd (nI_le (a := nn) (b := nn) (by omega) (by omega)) hh)
    refine ga_lvp [1, 2, 3, 4, 5, 6] (lv' := [(5, .int (nI wish)), (4, .ref (E.2.1 0)), (3, .int (nI nn)), (2, .int (nI len)), (1, .int (nI t)), (0, .ref b)]) rfl ?_
    exact kk g hB hf
  | n + 1, k, g, hk, hB, hf => by
    refine ga_iload (pc' := 211) cx dL_law_209 rfl rfl ?_
    refine ga_iload_n (pc' := 212) cx dL_law_211 rfl rfl ?_
    refine ga_icmp_ge (pc' := 215) cx 251 dL_law_212 rfl rfl (fun hh => absurd hh (nI_ge (a := k) (b := nn) (by omega) (by omega))) (fun _ => ?_)
    refine ga_iconst (pc' := 216) cx (nI 0) dL_law_215 rfl rfl ?_
    refine ga_istore (pc' := 218) cx dL_law_216 (ltn rfl) [(7, .int (nI 0)), (6, .int (nI k)), (5, .int (nI wish)), (4, .ref (E.2.1 0)), (3, .int (nI nn)), (2, .int (nI len)), (1, .int (nI t)), (0, .ref b)] rfl rfl ?_
    refine law_f1 cx hA hX hbl hbA hL hcs (len := len) (nn := nn) (t := t) (wish := wish) (k := k) (by omega) (fun g' hB' hf' => ?_) 4 0 g (by omega) hB hf
    refine ga_iinc (pc' := 248) cx (nI (k + 1)) dL_law_245 rfl (nI_add k 1) (ltn rfl) [(6, .int (nI (k + 1))), (7, .int (nI 4)), (5, .int (nI wish)), (4, .ref (E.2.1 0)), (3, .int (nI nn)), (2, .int (nI len)), (1, .int (nI t)), (0, .ref b)] rfl rfl ?_
    refine ga_goto cx 209 dL_law_248 rfl ?_
    refine ga_lvp [0, 2, 3, 4, 5, 6, 7] (lv' := [(6, .int (nI (k + 1))), (5, .int (nI wish)), (4, .ref (E.2.1 0)), (3, .int (nI nn)), (2, .int (nI len)), (1, .int (nI t)), (0, .ref b)]) rfl ?_
    exact law_f cx hA hX hbl hbA hL hcs hn kk n (k + 1) g' (by omega) hB' hf'
set_option maxHeartbeats 4000000 in
set_option maxRecDepth 20000 in
theorem law_g {A : Nat → Prop} {p : Program} {l : Launch} {e : Env} {s : State} {m : MethodId} {below : List Frame} {meth : Method} {c : Code} {E : Ev} {b L : Nat} {xs : Nat → Int32} {rt0 : Option FieldType} {cells slots : Nat} (cx : CxA A p s m #[Value.ref b] meth c E cL_law 14 RL rt0) (hA : ∀ q, Ad E 88 q → A q) (hX : va_X b L xs s s.heap) (hbl : b < s.heap.size) (hbA : ¬ A b) (hL : L ≤ 3072) (hcs : cells ≤ room_1.cells ∧ slots ≤ room_1.slots) {len nn t wish : Nat} (ht : t < 4) (hwi : wish ≤ 199) {g : IG} (hB : Bs g 1 nn) (hf : F1 (svC g 37) nn len 0 0 0) (kk : ∀ (sh : Nat) (g' : IG), sh ≤ 5 → Bs g' 2 nn → FG (svC g' 37) nn len sh 0 → GoA A p l e room_1 s m #[Value.ref b] below meth c E 88 14 cells slots (lw_Z below #[Value.ref b] s) g' (RFo (some 5)) 0 288 [(7, .int (nI 0)), (6, .int (nI sh)), (5, .int (nI wish)), (4, .ref (E.2.1 0)), (3, .int (nI nn)), (2, .int (nI len)), (1, .int (nI t)), (0, .ref b)] []) : GoA A p l e room_1 s m #[Value.ref b] below meth c E 88 14 cells slots (lw_Z below #[Value.ref b] s) g (RFo (some 5)) 0 251 [(5, .int (nI wish)), (4, .ref (E.2.1 0)), (3, .int (nI nn)), (2, .int (nI len)), (1, .int (nI t)), (0, .ref b)] [] := by
  refine ga_aload_n (pc' := 252) cx dL_law_251 rfl rfl ?_
  refine ga_bipush (pc' := 254) cx (nI 40) dL_law_252 rfl rfl ?_
  refine ga_iload_n (pc' := 255) cx dL_law_254 rfl rfl ?_
  refine ga_iadd (pc' := 256) cx dL_law_255 rfl ?_
  refine ga_val (w := .int (nI (40 + t))) (congrArg Value.int (nI_add 40 t)) ?_
  refine ga_bipush (pc' := 258) cx (nI 6) dL_law_256 rfl rfl ?_
  refine ga_callX (pc' := 261) cx hX hbl hbA (c_some l E (xs := xs) (kn := (40 + t)) (N := 6) hL (by omega) (by omega) (by omega)) mL_some lL_13 dL_law_258 rfl rfl ⟨(Nat.le_of_ble_eq_true rfl), (Nat.le_of_ble_eq_true rfl)⟩ (Nat.le_of_ble_eq_true rfl) rfl hcs (fun x9 hx9 => ?_)
  obtain ⟨sh, hsh, rfl⟩ := hx9
  refine ga_istore (pc' := 263) cx dL_law_261 (ltn rfl) [(6, .int (nI sh)), (5, .int (nI wish)), (4, .ref (E.2.1 0)), (3, .int (nI nn)), (2, .int (nI len)), (1, .int (nI t)), (0, .ref b)] rfl rfl ?_
  refine ga_aload (pc' := 265) cx dL_law_263 rfl rfl ?_
  refine ga_iconst (pc' := 266) cx (nI 1) dL_law_265 rfl rfl ?_
  refine ga_bipush (pc' := 268) cx (nI 100) dL_law_266 rfl rfl ?_
  refine ga_iload (pc' := 270) cx dL_law_268 rfl rfl ?_
  refine ga_imul (pc' := 271) cx dL_law_270 rfl ?_
  refine ga_val (w := .int (nI (100 * sh))) (congrArg Value.int (pk_mul 100 sh)) ?_
  refine ga_bipush (pc' := 273) cx (nI 10) dL_law_271 rfl rfl ?_
  refine ga_iadd (pc' := 274) cx dL_law_273 rfl ?_
  refine ga_val (w := .int (nI ((100 * sh) + 10))) (congrArg Value.int (nI_add (100 * sh) 10)) ?_
  refine ga_iload (pc' := 276) cx dL_law_274 rfl rfl ?_
  refine ga_cVi (pc' := 279) cx hA (Nat.le_refl 88) (k_hand l E (ki := 1) (num := sh) (sh := 10) (wi := wish) hB (by omega) (by omega) (by omega) (by omega) hwi rfl) mX5_hand lL_24 dL_law_276 kq0 (ltn rfl) (ltn rfl) rfl rfl rfl ⟨(Nat.le_of_ble_eq_true rfl), (Nat.le_of_ble_eq_true rfl)⟩ (Nat.le_of_ble_eq_true rfl) rfl hcs ?_
  have hB1 := hB.hand (ki := 1) (num := sh) (sh := 10) (wi := wish) (by omega)
  have hf1 := FG.start (sh := sh) (wi := wish) hf (by omega)
  refine ga_iconst (pc' := 280) cx (nI 1) dL_law_279 rfl rfl ?_
  refine ga_icmp_eq (pc' := 283) cx 285 dL_law_280 rfl rfl (fun _ => ?_) (fun hh => absurd rfl hh)
  refine ga_iconst (pc' := 286) cx (nI 0) dL_law_285 rfl rfl ?_
  refine ga_istore (pc' := 288) cx dL_law_286 (ltn rfl) [(7, .int (nI 0)), (6, .int (nI sh)), (5, .int (nI wish)), (4, .ref (E.2.1 0)), (3, .int (nI nn)), (2, .int (nI len)), (1, .int (nI t)), (0, .ref b)] rfl rfl ?_
  exact kk sh _ (by omega) hB1 hf1
set_option maxHeartbeats 4000000 in
set_option maxRecDepth 20000 in
theorem law_h {A : Nat → Prop} {p : Program} {l : Launch} {e : Env} {s : State} {m : MethodId} {below : List Frame} {meth : Method} {c : Code} {E : Ev} {b L : Nat} {xs : Nat → Int32} {rt0 : Option FieldType} {cells slots : Nat} (cx : CxA A p s m #[Value.ref b] meth c E cL_law 14 RL rt0) (hA : ∀ q, Ad E 88 q → A q) (hX : va_X b L xs s s.heap) (hbl : b < s.heap.size) (hbA : ¬ A b) (hL : L ≤ 3072) (hcs : cells ≤ room_1.cells ∧ slots ≤ room_1.slots) {len nn t wish sh : Nat} (hn : nn ≤ 8) (kk : ∀ g' : IG, Bs g' 2 nn → FE (svC g' 37) nn len sh → GoA A p l e room_1 s m #[Value.ref b] below meth c E 88 14 cells slots (lw_Z below #[Value.ref b] s) g' (RFo (some 5)) 0 314 [(7, .int (nI 0)), (6, .int (nI sh)), (5, .int (nI wish)), (4, .ref (E.2.1 0)), (3, .int (nI nn)), (2, .int (nI len)), (1, .int (nI t)), (0, .ref b)] []) : ∀ (n k : Nat) (g : IG), k + n = nn → Bs g 2 nn → FG (svC g 37) nn len sh k → GoA A p l e room_1 s m #[Value.ref b] below meth c E 88 14 cells slots (lw_Z below #[Value.ref b] s) g (RFo (some 5)) 0 288 [(7, .int (nI k)), (6, .int (nI sh)), (5, .int (nI wish)), (4, .ref (E.2.1 0)), (3, .int (nI nn)), (2, .int (nI len)), (1, .int (nI t)), (0, .ref b)] []
  | 0, k, g, hk, hB, hf => by
    have hk2 : nn = k := by omega
    subst hk2
    refine ga_iload (pc' := 290) cx dL_law_288 rfl rfl ?_
    refine ga_iload_n (pc' := 291) cx dL_law_290 rfl rfl ?_
    refine ga_icmp_ge (pc' := 294) cx 311 dL_law_291 rfl rfl (fun _ => ?_) (fun hh => absurd (nI_le (a := nn) (b := nn) (by omega) (by omega)) hh)
    refine ga_iconst (pc' := 312) cx (nI 0) dL_law_311 rfl rfl ?_
    refine ga_istore (pc' := 314) cx dL_law_312 (ltn rfl) [(7, .int (nI 0)), (6, .int (nI sh)), (5, .int (nI wish)), (4, .ref (E.2.1 0)), (3, .int (nI nn)), (2, .int (nI len)), (1, .int (nI t)), (0, .ref b)] rfl rfl ?_
    exact kk g hB hf.fin
  | n + 1, k, g, hk, hB, hf => by
    refine ga_iload (pc' := 290) cx dL_law_288 rfl rfl ?_
    refine ga_iload_n (pc' := 291) cx dL_law_290 rfl rfl ?_
    refine ga_icmp_ge (pc' := 294) cx 311 dL_law_291 rfl rfl (fun hh => absurd hh (nI_ge (a := k) (b := nn) (by omega) (by omega))) (fun _ => ?_)
    refine ga_aload (pc' := 296) cx dL_law_294 rfl rfl ?_
    refine ga_bipush (pc' := 298) cx (nI 7) dL_law_296 rfl rfl ?_
    refine ga_iload (pc' := 300) cx dL_law_298 rfl rfl ?_
    refine ga_iconst (pc' := 301) cx (nI 1) dL_law_300 rfl rfl ?_
    refine ga_cVI (pc' := 304) cx hA (Nat.le_refl 88) (k_seth l E (q := k) hB (by omega)) mX5_set lL_20 dL_law_301 kq0 (ltn rfl) (ltn rfl) rfl rfl rfl ⟨(Nat.le_of_ble_eq_true rfl), (Nat.le_of_ble_eq_true rfl)⟩ (Nat.le_of_ble_eq_true rfl) rfl hcs (fun x1 g1 h1 => ?_)
    obtain rfl := h1
    obtain ⟨hB2, e2⟩ := hB.set (w := 7) (k := k) (v := nI 1) (by omega) (fun _ => ⟨1, by omega, rfl⟩)
    have hf2 : FG (svC (up2 g 46 k (nI 1)) 37) nn len sh (k + 1) := by
      rw [show svC (up2 g 46 k (nI 1)) 37 = up2 (svC g 37) 7 k (nI 1) from e2]
      exact hf.set
    refine ga_pop (pc' := 305) cx rfl dL_law_304 rfl ?_
    refine ga_iinc (pc' := 308) cx (nI (k + 1)) dL_law_305 rfl (nI_add k 1) (ltn rfl) [(7, .int (nI (k + 1))), (6, .int (nI sh)), (5, .int (nI wish)), (4, .ref (E.2.1 0)), (3, .int (nI nn)), (2, .int (nI len)), (1, .int (nI t)), (0, .ref b)] rfl rfl ?_
    refine ga_goto cx 288 dL_law_308 rfl ?_
    exact law_h cx hA hX hbl hbA hL hcs hn kk n (k + 1) _ (by omega) hB2 hf2
set_option maxHeartbeats 4000000 in
set_option maxRecDepth 20000 in
theorem law_i {A : Nat → Prop} {p : Program} {l : Launch} {e : Env} {s : State} {m : MethodId} {below : List Frame} {meth : Method} {c : Code} {E : Ev} {b L : Nat} {xs : Nat → Int32} {rt0 : Option FieldType} {cells slots : Nat} (cx : CxA A p s m #[Value.ref b] meth c E cL_law 14 RL rt0) (hA : ∀ q, Ad E 88 q → A q) (hX : va_X b L xs s s.heap) (hbl : b < s.heap.size) (hbA : ¬ A b) (hL : L ≤ 3072) (hcs : cells ≤ room_1.cells ∧ slots ≤ room_1.slots) {len nn t wish sh : Nat} (hn : nn ≤ 8) (kk : ∀ g' : IG, Bs g' 2 nn → FE (svC g' 37) nn len sh → GoA A p l e room_1 s m #[Value.ref b] below meth c E 88 14 cells slots (lw_Z below #[Value.ref b] s) g' (RFo (some 5)) 0 348 [(6, .int (nI sh)), (5, .int (nI wish)), (4, .ref (E.2.1 0)), (3, .int (nI nn)), (2, .int (nI len)), (1, .int (nI t)), (0, .ref b)] []) : ∀ (n k : Nat) (g : IG), k + n = nn → Bs g 2 nn → FE (svC g 37) nn len sh → GoA A p l e room_1 s m #[Value.ref b] below meth c E 88 14 cells slots (lw_Z below #[Value.ref b] s) g (RFo (some 5)) 0 314 [(7, .int (nI k)), (6, .int (nI sh)), (5, .int (nI wish)), (4, .ref (E.2.1 0)), (3, .int (nI nn)), (2, .int (nI len)), (1, .int (nI t)), (0, .ref b)] []
  | 0, k, g, hk, hB, hf => by
    have hk2 : nn = k := by omega
    subst hk2
    refine ga_iload (pc' := 316) cx dL_law_314 rfl rfl ?_
    refine ga_iload_n (pc' := 317) cx dL_law_316 rfl rfl ?_
    refine ga_icmp_ge (pc' := 320) cx 348 dL_law_317 rfl rfl (fun _ => ?_) (fun hh => absurd (nI_le (a := nn) (b := nn) (by omega) (by omega)) hh)
    refine ga_lvp [1, 2, 3, 4, 5, 6, 7] (lv' := [(6, .int (nI sh)), (5, .int (nI wish)), (4, .ref (E.2.1 0)), (3, .int (nI nn)), (2, .int (nI len)), (1, .int (nI t)), (0, .ref b)]) rfl ?_
    exact kk g hB hf
  | n + 1, k, g, hk, hB, hf => by
    refine ga_iload (pc' := 316) cx dL_law_314 rfl rfl ?_
    refine ga_iload_n (pc' := 317) cx dL_law_316 rfl rfl ?_
    refine ga_icmp_ge (pc' := 320) cx 348 dL_law_317 rfl rfl (fun hh => absurd hh (nI_ge (a := k) (b := nn) (by omega) (by omega))) (fun _ => ?_)
    refine ga_aload (pc' := 322) cx dL_law_320 rfl rfl ?_
    refine ga_iload (pc' := 324) cx dL_law_322 rfl rfl ?_
    refine ga_iconst (pc' := 325) cx (nI 3) dL_law_324 rfl rfl ?_
    refine ga_cVI (pc' := 328) cx hA (Nat.le_refl 88) (c_X5_course l E hB.1 (nI k) (nI 3)) mX5_course lL_48 dL_law_325 kq0 (ltn rfl) (ltn rfl) rfl rfl rfl ⟨(Nat.le_of_ble_eq_true rfl), (Nat.le_of_ble_eq_true rfl)⟩ (Nat.le_of_ble_eq_true rfl) rfl hcs (fun x1 g1 h1 => ?_)
    obtain ⟨ex1, hFx1⟩ := h1
    have vx1 : x1 = nI (len - sh * (k + 1)) := ex1.trans (hf.1.course (p := 3) (by omega) (by omega))
    obtain ⟨hB2, hf2⟩ := hB.qp (P := fun a => FE a nn len sh) hf hFx1
    have hle : sh * (k + 1) ≤ len := by
      have a1 := F1.sv (s := sh) (v := k + 1) (n := nn) hf.2.2.2 (by omega) hn
      have a2 := hf.1.1.1
      omega
    refine ga_iload_n (pc' := 329) cx dL_law_328 rfl rfl ?_
    refine ga_iload (pc' := 331) cx dL_law_329 rfl rfl ?_
    refine ga_iload (pc' := 333) cx dL_law_331 rfl rfl ?_
    refine ga_iconst (pc' := 334) cx (nI 1) dL_law_333 rfl rfl ?_
    refine ga_iadd (pc' := 335) cx dL_law_334 rfl ?_
    refine ga_val (w := .int (nI (k + 1))) (congrArg Value.int (nI_add k 1)) ?_
    refine ga_imul (pc' := 336) cx dL_law_335 rfl ?_
    refine ga_val (w := .int (nI (sh * (k + 1)))) (congrArg Value.int (pk_mul sh (k + 1))) ?_
    refine ga_isub (pc' := 337) cx dL_law_336 rfl ?_
    refine ga_val (w := .int (nI (len - sh * (k + 1)))) (congrArg Value.int (pk_sub hle)) ?_
    refine ga_icmp_eq (pc' := 340) cx 342 dL_law_337 rfl rfl (fun _ => ?_) (fun hh => absurd vx1 hh)
    refine ga_iinc (pc' := 345) cx (nI (k + 1)) dL_law_342 rfl (nI_add k 1) (ltn rfl) [(7, .int (nI (k + 1))), (6, .int (nI sh)), (5, .int (nI wish)), (4, .ref (E.2.1 0)), (3, .int (nI nn)), (2, .int (nI len)), (1, .int (nI t)), (0, .ref b)] rfl rfl ?_
    refine ga_goto cx 314 dL_law_345 rfl ?_
    exact law_i cx hA hX hbl hbA hL hcs hn kk n (k + 1) _ (by omega) hB2 hf2
set_option maxHeartbeats 4000000 in
set_option maxRecDepth 20000 in
theorem law_j {A : Nat → Prop} {p : Program} {l : Launch} {e : Env} {s : State} {m : MethodId} {below : List Frame} {meth : Method} {c : Code} {E : Ev} {b L : Nat} {xs : Nat → Int32} {rt0 : Option FieldType} {cells slots : Nat} (cx : CxA A p s m #[Value.ref b] meth c E cL_law 14 RL rt0) (hA : ∀ q, Ad E 88 q → A q) (hX : va_X b L xs s s.heap) (hbl : b < s.heap.size) (hbA : ¬ A b) (hL : L ≤ 3072) (hcs : cells ≤ room_1.cells ∧ slots ≤ room_1.slots) {len nn t wish sh : Nat} (ht : t < 4) (hn : nn ≤ 8) (hn1 : 0 < nn) (hwi : wish ≤ 199) {g : IG} (hB : Bs g 2 nn) (hf : FE (svC g 37) nn len sh) (kk : ∀ (w : Nat) (g' : IG), w ≤ 20 → GoA A p l e room_1 s m #[Value.ref b] below meth c E 88 14 cells slots (lw_Z below #[Value.ref b] s) g' (RFo (some 5)) 0 440 [(7, .int (nI w)), (5, .int (nI wish)), (1, .int (nI t)), (0, .ref b)] []) : GoA A p l e room_1 s m #[Value.ref b] below meth c E 88 14 cells slots (lw_Z below #[Value.ref b] s) g (RFo (some 5)) 0 348 [(6, .int (nI sh)), (5, .int (nI wish)), (4, .ref (E.2.1 0)), (3, .int (nI nn)), (2, .int (nI len)), (1, .int (nI t)), (0, .ref b)] [] := by
  refine ga_aload (pc' := 350) cx dL_law_348 rfl rfl ?_
  refine ga_iconst (pc' := 351) cx (nI 0) dL_law_350 rfl rfl ?_
  refine ga_cVI (pc' := 354) cx hA (Nat.le_refl 88) (c_X5_drift l E hB.1 (nI 0)) mX5_drift lL_38 dL_law_351 kq0 (ltn rfl) (ltn rfl) rfl rfl rfl ⟨(Nat.le_of_ble_eq_true rfl), (Nat.le_of_ble_eq_true rfl)⟩ (Nat.le_of_ble_eq_true rfl) rfl hcs (fun x1 g1 h1 => ?_)
  obtain ⟨ex1, hFx1⟩ := h1
  have vx1 : x1 = -(nI sh) * nI nn := ex1.trans (hf.1.drift (p := 0) (by omega))
  replace ⟨hB, hf⟩ := hB.qp (P := fun a => FE a nn len sh) hf hFx1
  refine ga_iload (pc' := 356) cx dL_law_354 rfl rfl ?_
  refine ga_ineg (pc' := 357) cx dL_law_356 rfl ?_
  refine ga_iload_n (pc' := 358) cx dL_law_357 rfl rfl ?_
  refine ga_imul (pc' := 359) cx dL_law_358 rfl ?_
  refine ga_icmp_ne (pc' := 362) cx 411 dL_law_359 rfl rfl (fun hh => absurd vx1 hh) (fun _ => ?_)
  refine ga_aload (pc' := 364) cx dL_law_362 rfl rfl ?_
  refine ga_iconst (pc' := 365) cx (nI 0) dL_law_364 rfl rfl ?_
  refine ga_cVI (pc' := 368) cx hA (Nat.le_refl 88) (c_X5_bad l E hB.1 (nI 0)) mX5_bad lL_31 dL_law_365 kq0 (ltn rfl) (ltn rfl) rfl rfl rfl ⟨(Nat.le_of_ble_eq_true rfl), (Nat.le_of_ble_eq_true rfl)⟩ (Nat.le_of_ble_eq_true rfl) rfl hcs (fun x2 g2 h2 => ?_)
  obtain ⟨ex2, hFx2⟩ := h2
  have vx2 : x2 = nI (sN sh nn) := ex2.trans (hf.1.bad0)
  replace ⟨hB, hf⟩ := hB.qp (P := fun a => FE a nn len sh) hf hFx2
  refine ga_iconst (pc' := 369) cx (nI 4) dL_law_368 rfl rfl ?_
  refine ga_iload (pc' := 371) cx dL_law_369 rfl rfl ?_
  refine ga_imul (pc' := 372) cx dL_law_371 rfl ?_
  refine ga_val (w := .int (nI (4 * sh))) (congrArg Value.int (pk_mul 4 sh)) ?_
  refine ga_iload_n (pc' := 373) cx dL_law_372 rfl rfl ?_
  refine ga_imul (pc' := 374) cx dL_law_373 rfl ?_
  refine ga_val (w := .int (nI ((4 * sh) * nn))) (congrArg Value.int (pk_mul (4 * sh) nn)) ?_
  refine ga_iload_n (pc' := 375) cx dL_law_374 rfl rfl ?_
  refine ga_iconst (pc' := 376) cx (nI 1) dL_law_375 rfl rfl ?_
  refine ga_iadd (pc' := 377) cx dL_law_376 rfl ?_
  refine ga_val (w := .int (nI (nn + 1))) (congrArg Value.int (nI_add nn 1)) ?_
  refine ga_imul (pc' := 378) cx dL_law_377 rfl ?_
  refine ga_val (w := .int (nI (((4 * sh) * nn) * (nn + 1)))) (congrArg Value.int (pk_mul ((4 * sh) * nn) (nn + 1))) ?_
  refine ga_iconst (pc' := 379) cx (nI 2) dL_law_378 rfl rfl ?_
  refine ga_idiv (pc' := 380) cx (by decide) dL_law_379 rfl ?_
  refine ga_val (w := .int (nI (sN sh nn))) (congrArg Value.int (sN_law2 sh (by have := hf.2.2.2; omega) nn (by omega))) ?_
  refine ga_icmp_ne (pc' := 383) cx 411 dL_law_380 rfl rfl (fun hh => absurd vx2 hh) (fun _ => ?_)
  refine ga_aload (pc' := 385) cx dL_law_383 rfl rfl ?_
  refine ga_iconst (pc' := 386) cx (nI 0) dL_law_385 rfl rfl ?_
  refine ga_cVI (pc' := 389) cx hA (Nat.le_refl 88) (c_X5_whom l E hB.1 (nI 0)) mX5_whom lL_41 dL_law_386 kq0 (ltn rfl) (ltn rfl) rfl rfl rfl ⟨(Nat.le_of_ble_eq_true rfl), (Nat.le_of_ble_eq_true rfl)⟩ (Nat.le_of_ble_eq_true rfl) rfl hcs (fun x3 g3 h3 => ?_)
  obtain ⟨ex3, hFx3⟩ := h3
  have vx3 : x3 = 0 := ex3.trans (hf.whom)
  replace ⟨hB, hf⟩ := hB.qp (P := fun a => FE a nn len sh) hf hFx3
  refine ga_if_ne (pc' := 392) cx 411 dL_law_389 rfl rfl (fun hh => absurd vx3 hh) (fun _ => ?_)
  refine ga_aload (pc' := 394) cx dL_law_392 rfl rfl ?_
  refine ga_iconst (pc' := 395) cx (nI 0) dL_law_394 rfl rfl ?_
  refine ga_cVI (pc' := 398) cx hA (Nat.le_refl 88) (c_X5_again l E hB.1 (nI 0)) mX5_again lL_35 dL_law_395 kq0 (ltn rfl) (ltn rfl) rfl rfl rfl ⟨(Nat.le_of_ble_eq_true rfl), (Nat.le_of_ble_eq_true rfl)⟩ (Nat.le_of_ble_eq_true rfl) rfl hcs (fun x4 g4 h4 => ?_)
  obtain ⟨ex4, hFx4⟩ := h4
  have vx4 : x4 = if sh = 0 then 0 else -1 := ex4.trans (hf.1.again hn1)
  replace ⟨hB, hf⟩ := hB.qp (P := fun a => FE a nn len sh) hf hFx4
  refine ga_iload (pc' := 400) cx dL_law_398 rfl rfl ?_
  have K : GoA A p l e room_1 s m #[Value.ref b] below meth c E 88 14 cells slots (lw_Z below #[Value.ref b] s) g4 (RFo (some 5)) 0 413 [(6, .int (nI sh)), (5, .int (nI wish)), (4, .ref (E.2.1 0)), (3, .int (nI nn)), (2, .int (nI len)), (1, .int (nI t)), (0, .ref b)] [] := by
    refine ga_aload (pc' := 415) cx dL_law_413 rfl rfl ?_
    refine ga_iconst (pc' := 416) cx (nI 0) dL_law_415 rfl rfl ?_
    refine ga_iconst (pc' := 417) cx (nI 0) dL_law_416 rfl rfl ?_
    refine ga_iload (pc' := 419) cx dL_law_417 rfl rfl ?_
    refine ga_cVi (pc' := 422) cx hA (Nat.le_refl 88) (k_hand l E (ki := 0) (num := 0) (sh := 0) (wi := wish) hB (by omega) (by omega) (by omega) (by omega) hwi rfl) mX5_hand lL_24 dL_law_419 kq0 (ltn rfl) (ltn rfl) rfl rfl rfl ⟨(Nat.le_of_ble_eq_true rfl), (Nat.le_of_ble_eq_true rfl)⟩ (Nat.le_of_ble_eq_true rfl) rfl hcs ?_
    have hB1 := hB.hand (ki := 0) (num := 0) (sh := 0) (wi := wish) (by omega)
    refine ga_iconst (pc' := 423) cx (nI 2) dL_law_422 rfl rfl ?_
    refine ga_icmp_eq (pc' := 426) cx 428 dL_law_423 rfl rfl (fun _ => ?_) (fun hh => absurd rfl hh)
    refine ga_aload_n (pc' := 429) cx dL_law_428 rfl rfl ?_
    refine ga_bipush (pc' := 431) cx (nI 50) dL_law_429 rfl rfl ?_
    refine ga_iload_n (pc' := 432) cx dL_law_431 rfl rfl ?_
    refine ga_iadd (pc' := 433) cx dL_law_432 rfl ?_
    refine ga_val (w := .int (nI (50 + t))) (congrArg Value.int (nI_add 50 t)) ?_
    refine ga_bipush (pc' := 435) cx (nI 21) dL_law_433 rfl rfl ?_
    refine ga_callX (pc' := 438) cx hX hbl hbA (c_some l E (xs := xs) (kn := (50 + t)) (N := 21) hL (by omega) (by omega) (by omega)) mL_some lL_13 dL_law_435 rfl rfl ⟨(Nat.le_of_ble_eq_true rfl), (Nat.le_of_ble_eq_true rfl)⟩ (Nat.le_of_ble_eq_true rfl) rfl hcs (fun x9 hx9 => ?_)
    obtain ⟨w, hw, rfl⟩ := hx9
    refine ga_istore (pc' := 440) cx dL_law_438 (ltn rfl) [(7, .int (nI w)), (6, .int (nI sh)), (5, .int (nI wish)), (4, .ref (E.2.1 0)), (3, .int (nI nn)), (2, .int (nI len)), (1, .int (nI t)), (0, .ref b)] rfl rfl ?_
    refine ga_lvp [0, 2, 6, 7] (lv' := [(7, .int (nI w)), (5, .int (nI wish)), (1, .int (nI t)), (0, .ref b)]) rfl ?_
    exact kk w _ (by omega)
  refine ga_if_ne (pc' := 403) cx 407 dL_law_400 rfl rfl (fun hh => ?_) (fun hh => ?_)
  ·
    refine ga_iconst (pc' := 408) cx (-1) dL_law_407 rfl rfl ?_
    refine ga_icmp_eq (pc' := 411) cx 413 dL_law_408 rfl rfl (fun _ => ?_) (fun hh9 => absurd (vx4.trans (if_neg (fun q => hh (by rw [q]; rfl)))) hh9)
    exact K
  ·
    refine ga_iconst (pc' := 404) cx (nI 0) dL_law_403 rfl rfl ?_
    refine ga_goto cx 408 dL_law_404 rfl ?_
    refine ga_icmp_eq (pc' := 411) cx 413 dL_law_408 rfl rfl (fun _ => ?_) (fun hh9 => absurd (vx4.trans (if_pos (by have q1 := (nI_eq (a := sh) (b := 0) (by have := hf.2.2.2; omega) (by omega)).mp hh; exact q1))) hh9)
    exact K
