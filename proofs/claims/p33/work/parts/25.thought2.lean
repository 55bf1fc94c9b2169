def oi : Option Nat → Int32
  | none => -1
  | some w => nI w
def wrs (f : Nat → Int32) : Nat → Option Nat
  | 0 => none
  | n + 1 => match wrs f n with
    | none => some n
    | some w => if f n ≤ f w then some w else some n
theorem wrs_lt {f : Nat → Int32} : ∀ {n w : Nat}, wrs f n = some w → w < n
  | 0, _, h => by cases h
  | n + 1, w, h => by
    unfold wrs at h
    cases hq : wrs f n with
    | none =>
      rw [hq] at h
      cases h
      exact Nat.lt_succ_self _
    | some u =>
      rw [hq] at h
      have hu := wrs_lt hq
      dsimp only at h
      split at h
      · cases h
        omega
      · cases h
        exact Nat.lt_succ_self _
def isN (L W : Nat → Int32) (near : Int32) : Int32 := if ab (L 0 - W 0) ≤ near then (if ab (L 1 - W 1) ≤ near then (if ab (L 2 - W 2) ≤ near then (if ab (L 3 - W 3) ≤ near then 1 else 0) else 0) else 0) else 0
theorem m1_sub (x : Int32) : x + Int32.ofInt (-1) = x - 1 := by
  have h : Int32.ofInt (-1) = -1 := by decide
  rw [h, Int32.sub_eq_add_neg]
def foF (f h : Nat → Int32) : Nat → Nat → Int32
  | _, 0 => -1
  | v, k + 1 => if f v = h v then foF f h (v + 1) k else nI v
def wdI (W : Nat → Int32) : Nat → Int32
  | 0 => 0
  | n + 1 => 10 * wdI W n + W n
def nwF : (Nat → Int32) → Nat → Int32 × (Nat → Int32)
  | W, 0 => (-1, W)
  | W, n + 1 => if 3 ≤ W n then nwF (upd W n 0) n else (nI n, upd W n (W n + 1))
/-! SHEETS -/
theorem sh_k' : ∀ t, t < 4 → kd (29 + 2 * t) = (2, 3) ∧ kd (29 + 2 * t + 1) = (10, 40) ∧ RT (29 + 2 * t) 0 = some (29 + 2 * t + 1) ∧ RT 4 t = some (29 + 2 * t) := by decide +kernel
theorem sh_r {t : Nat} {o : Option Nat} (h : t < 4) : RFo o (29 + 2 * t) 0 = some (29 + 2 * t + 1) ∧ RFo o 4 t = some (29 + 2 * t) := by
  have := sh_k' t h
  unfold RFo
  rw [if_neg (by omega), if_neg (by omega)]
  exact this.2.2
def zrow (f : Nat → Int32) (k : Nat) : Nat → Int32 := fun j => if j < k then 0 else f j
theorem zrow_0 (f : Nat → Int32) : zrow f 0 = f := funext fun j => if_neg (Nat.not_lt_zero j)
theorem zrow_s (f : Nat → Int32) (k : Nat) : upd (zrow f k) k 0 = zrow f (k + 1) := by
  funext j
  unfold upd zrow
  by_cases h : j = k
  · subst h
    rw [if_pos rfl, if_pos (Nat.lt_succ_self _)]
  · rw [if_neg h]
    by_cases h2 : j < k
    · rw [if_pos h2, if_pos (by omega)]
    · rw [if_neg h2, if_neg (by omega)]
/-- what a sort keeps of a number -/
def cvS (sort v : Int32) : Int32 := if sort = 0 then v.toInt8.toInt32 else if sort = 1 then v.toInt16.toInt32 else v
def hasR (sz i n : Int32) : Int32 := if i < 0 then 0 else if n < 0 then 0 else if sz < i then 0 else if sz - i < n then 0 else 1

set_option maxHeartbeats 4000000 in
set_option maxRecDepth 20000 in
theorem badness_loop {l : Launch} {E : Ev} {Z : ZT} {o : Option Nat} {z : Int64} {p : Program} {e : Env} {s : State} {m : MethodId} {args : Array Value} {below : List Frame} {meth : Method} {c : Code} {vn : Nat} (hvn : vn ≤ 8) {g : IG} (h3 : g 64 3 = nI vn) (cx : Cx p s m args meth c E 88 cX4_badness 3 yX4_badness.cls (some .int)) : ∀ (k v : Nat), v + k = vn → (Go p l e (rmd 1) s m args below meth c E 88 3 Z g (RFo o) z 30 [(1, .int (sumI (g 86) vn))] []) → Go p l e (rmd 1) s m args below meth c E 88 3 Z g (RFo o) z 4 [(2, .int (nI v)), (1, .int (sumI (g 86) v)), (0, .ref (E.2.1 63))] [] := by
  intro k
  induction k with
  | zero =>
    intro v hk kk
    have hq : v = vn := by omega
    subst hq
    refine go_iload_n (pc' := 5) cx dX4_badness_4 rfl rfl ?_
    refine go_aload_n (pc' := 6) cx dX4_badness_5 rfl rfl ?_
    refine go_getr (pc' := 9) cx 64 fX4_27 dX4_badness_6 kq63 (ltn rfl) (ltn rfl) rfl rfl rfl ?_
    refine go_geti (pc' := 12) cx (nI v) fX4_46 dX4_badness_9 kq64 (ltn rfl) (ltn rfl) rfl h3 rfl ?_
    refine go_icmp_ge (pc' := 15) cx 30 dX4_badness_12 rfl rfl (fun _ => ?_) (fun hh => absurd ((nI_leI (a := v) (b := v) (by omega) (by omega)).mpr (Nat.le_refl v)) hh)
    refine go_sub [1] [(1, .int (sumI (g 86) v))] rfl ?_
    exact kk
  | succ k ih =>
    intro v hk kk
    refine go_iload_n (pc' := 5) cx dX4_badness_4 rfl rfl ?_
    refine go_aload_n (pc' := 6) cx dX4_badness_5 rfl rfl ?_
    refine go_getr (pc' := 9) cx 64 fX4_27 dX4_badness_6 kq63 (ltn rfl) (ltn rfl) rfl rfl rfl ?_
    refine go_geti (pc' := 12) cx (nI vn) fX4_46 dX4_badness_9 kq64 (ltn rfl) (ltn rfl) rfl h3 rfl ?_
    refine go_icmp_ge (pc' := 15) cx 30 dX4_badness_12 rfl rfl (fun hh => absurd ((nI_leI (a := vn) (b := v) (by omega) (by omega)).mp hh) (by omega)) (fun _ => ?_)
    refine go_iload_n (pc' := 16) cx dX4_badness_15 rfl rfl ?_
    refine go_aload_n (pc' := 17) cx dX4_badness_16 rfl rfl ?_
    refine go_getr (pc' := 20) cx 86 fX4_16 dX4_badness_17 kq63 (ltn rfl) (ltn rfl) rfl rfl rfl ?_
    refine go_iload_n (pc' := 21) cx dX4_badness_20 rfl rfl ?_
    refine go_iald (pc' := 22) cx (g 86 v) dX4_badness_21 kq86 (ltn rfl) (vpi (k := v) (a := 8) (by omega) rfl rfl) (congrArg (g 86) (cli (k := v) (a := 8) (by omega) rfl)) rfl ?_
    refine go_iadd (pc' := 23) cx dX4_badness_22 rfl ?_
    refine go_istore_n (pc' := 24) cx dX4_badness_23 (ltn rfl) [(1, .int ((sumI (g 86) v) + (g 86 v))), (2, .int (nI v)), (0, .ref (E.2.1 63))] rfl rfl ?_
    refine go_iinc (pc' := 27) cx (nI (v + 1)) dX4_badness_24 rfl (nI_1 v) (ltn rfl) [(2, .int (nI (v + 1))), (1, .int ((sumI (g 86) v) + (g 86 v))), (0, .ref (E.2.1 63))] rfl rfl ?_
    refine go_goto cx 4 dX4_badness_27 rfl ?_
    exact ih (v + 1) (by omega) kk

set_option maxHeartbeats 4000000 in
set_option maxRecDepth 20000 in
theorem c_X4_badness (l : Launch) (E : Ev) {g : IG} {o : Option Nat} {z : Int64} {vn : Nat} (hvn : vn ≤ 8) (h3 : g 64 3 = nI vn) : Ct l E 88 yX4_badness cX4_badness 3 (some .int) 1 [.ref (E.2.1 63)] g (RFo o) z (Zi (RFo o) z (sumI (g 86) vn) g) := by
  refine Ct.of (lv0 := [(0, .ref (E.2.1 63))]) (by decide) (Nat.le_of_ble_eq_true rfl) rfl ?_
  intro p e s m below meth c cx
  refine go_iconst (pc' := 1) cx 0 dX4_badness_0 rfl rfl ?_
  refine go_istore_n (pc' := 2) cx dX4_badness_1 (ltn rfl) [(1, .int 0), (0, .ref (E.2.1 63))] rfl rfl ?_
  refine go_iconst (pc' := 3) cx 0 dX4_badness_2 rfl rfl ?_
  refine go_istore_n (pc' := 4) cx dX4_badness_3 (ltn rfl) [(2, .int 0), (1, .int 0), (0, .ref (E.2.1 63))] rfl rfl ?_
  refine badness_loop hvn h3 cx vn 0 (Nat.zero_add vn) ?_
  refine go_iload_n (pc' := 31) cx dX4_badness_30 rfl rfl ?_
  refine go_iret cx rfl dX4_badness_31 ?_
  exact Zi.mk rfl rfl

set_option maxHeartbeats 4000000 in
set_option maxRecDepth 20000 in
theorem allCuts_loop {l : Launch} {E : Ev} {Z : ZT} {o : Option Nat} {z : Int64} {p : Program} {e : Env} {s : State} {m : MethodId} {args : Array Value} {below : List Frame} {meth : Method} {c : Code} {vn : Nat} (hvn : vn ≤ 8) {g : IG} (h3 : g 64 3 = nI vn) (cx : Cx p s m args meth c E 88 cX4_allCuts 3 yX4_allCuts.cls (some .int)) : ∀ (k v : Nat), v + k = vn → (Go p l e (rmd 1) s m args below meth c E 88 3 Z g (RFo o) z 30 [(1, .int (sumI (g 87) vn))] []) → Go p l e (rmd 1) s m args below meth c E 88 3 Z g (RFo o) z 4 [(2, .int (nI v)), (1, .int (sumI (g 87) v)), (0, .ref (E.2.1 63))] [] := by
  intro k
  induction k with
  | zero =>
    intro v hk kk
    have hq : v = vn := by omega
    subst hq
    refine go_iload_n (pc' := 5) cx dX4_allCuts_4 rfl rfl ?_
    refine go_aload_n (pc' := 6) cx dX4_allCuts_5 rfl rfl ?_
    refine go_getr (pc' := 9) cx 64 fX4_27 dX4_allCuts_6 kq63 (ltn rfl) (ltn rfl) rfl rfl rfl ?_
    refine go_geti (pc' := 12) cx (nI v) fX4_46 dX4_allCuts_9 kq64 (ltn rfl) (ltn rfl) rfl h3 rfl ?_
    refine go_icmp_ge (pc' := 15) cx 30 dX4_allCuts_12 rfl rfl (fun _ => ?_) (fun hh => absurd ((nI_leI (a := v) (b := v) (by omega) (by omega)).mpr (Nat.le_refl v)) hh)
    refine go_sub [1] [(1, .int (sumI (g 87) v))] rfl ?_
    exact kk
  | succ k ih =>
    intro v hk kk
    refine go_iload_n (pc' := 5) cx dX4_allCuts_4 rfl rfl ?_
    refine go_aload_n (pc' := 6) cx dX4_allCuts_5 rfl rfl ?_
    refine go_getr (pc' := 9) cx 64 fX4_27 dX4_allCuts_6 kq63 (ltn rfl) (ltn rfl) rfl rfl rfl ?_
    refine go_geti (pc' := 12) cx (nI vn) fX4_46 dX4_allCuts_9 kq64 (ltn rfl) (ltn rfl) rfl h3 rfl ?_
    refine go_icmp_ge (pc' := 15) cx 30 dX4_allCuts_12 rfl rfl (fun hh => absurd ((nI_leI (a := vn) (b := v) (by omega) (by omega)).mp hh) (by omega)) (fun _ => ?_)
    refine go_iload_n (pc' := 16) cx dX4_allCuts_15 rfl rfl ?_
    refine go_aload_n (pc' := 17) cx dX4_allCuts_16 rfl rfl ?_
    refine go_getr (pc' := 20) cx 87 fX4_20 dX4_allCuts_17 kq63 (ltn rfl) (ltn rfl) rfl rfl rfl ?_
    refine go_iload_n (pc' := 21) cx dX4_allCuts_20 rfl rfl ?_
    refine go_iald (pc' := 22) cx (g 87 v) dX4_allCuts_21 kq87 (ltn rfl) (vpi (k := v) (a := 8) (by omega) rfl rfl) (congrArg (g 87) (cli (k := v) (a := 8) (by omega) rfl)) rfl ?_
    refine go_iadd (pc' := 23) cx dX4_allCuts_22 rfl ?_
    refine go_istore_n (pc' := 24) cx dX4_allCuts_23 (ltn rfl) [(1, .int ((sumI (g 87) v) + (g 87 v))), (2, .int (nI v)), (0, .ref (E.2.1 63))] rfl rfl ?_
    refine go_iinc (pc' := 27) cx (nI (v + 1)) dX4_allCuts_24 rfl (nI_1 v) (ltn rfl) [(2, .int (nI (v + 1))), (1, .int ((sumI (g 87) v) + (g 87 v))), (0, .ref (E.2.1 63))] rfl rfl ?_
    refine go_goto cx 4 dX4_allCuts_27 rfl ?_
    exact ih (v + 1) (by omega) kk

set_option maxHeartbeats 4000000 in
set_option maxRecDepth 20000 in
theorem c_X4_allCuts (l : Launch) (E : Ev) {g : IG} {o : Option Nat} {z : Int64} {vn : Nat} (hvn : vn ≤ 8) (h3 : g 64 3 = nI vn) : Ct l E 88 yX4_allCuts cX4_allCuts 3 (some .int) 1 [.ref (E.2.1 63)] g (RFo o) z (Zi (RFo o) z (sumI (g 87) vn) g) := by
  refine Ct.of (lv0 := [(0, .ref (E.2.1 63))]) (by decide) (Nat.le_of_ble_eq_true rfl) rfl ?_
  intro p e s m below meth c cx
  refine go_iconst (pc' := 1) cx 0 dX4_allCuts_0 rfl rfl ?_
  refine go_istore_n (pc' := 2) cx dX4_allCuts_1 (ltn rfl) [(1, .int 0), (0, .ref (E.2.1 63))] rfl rfl ?_
  refine go_iconst (pc' := 3) cx 0 dX4_allCuts_2 rfl rfl ?_
  refine go_istore_n (pc' := 4) cx dX4_allCuts_3 (ltn rfl) [(2, .int 0), (1, .int 0), (0, .ref (E.2.1 63))] rfl rfl ?_
  refine allCuts_loop hvn h3 cx vn 0 (Nat.zero_add vn) ?_
  refine go_iload_n (pc' := 31) cx dX4_allCuts_30 rfl rfl ?_
  refine go_iret cx rfl dX4_allCuts_31 ?_
  exact Zi.mk rfl rfl

set_option maxHeartbeats 4000000 in
set_option maxRecDepth 20000 in
theorem worst_loop {l : Launch} {E : Ev} {Z : ZT} {o : Option Nat} {z : Int64} {p : Program} {e : Env} {s : State} {m : MethodId} {args : Array Value} {below : List Frame} {meth : Method} {c : Code} {vn : Nat} (hvn : vn ≤ 8) {g : IG} (h3 : g 64 3 = nI vn) (cx : Cx p s m args meth c E 88 cX4_worst 3 yX4_worst.cls (some .int)) : ∀ (k v : Nat), v + k = vn → (Go p l e (rmd 1) s m args below meth c E 88 3 Z g (RFo o) z 43 [(1, .int (oi (wrs (g 86) vn)))] []) → Go p l e (rmd 1) s m args below meth c E 88 3 Z g (RFo o) z 4 [(2, .int (nI v)), (1, .int (oi (wrs (g 86) v))), (0, .ref (E.2.1 63))] [] := by
  intro k
  induction k with
  | zero =>
    intro v hk kk
    have hq : v = vn := by omega
    subst hq
    refine go_iload_n (pc' := 5) cx dX4_worst_4 rfl rfl ?_
    refine go_aload_n (pc' := 6) cx dX4_worst_5 rfl rfl ?_
    refine go_getr (pc' := 9) cx 64 fX4_27 dX4_worst_6 kq63 (ltn rfl) (ltn rfl) rfl rfl rfl ?_
    refine go_geti (pc' := 12) cx (nI v) fX4_46 dX4_worst_9 kq64 (ltn rfl) (ltn rfl) rfl h3 rfl ?_
    refine go_icmp_ge (pc' := 15) cx 43 dX4_worst_12 rfl rfl (fun _ => ?_) (fun hh => absurd ((nI_leI (a := v) (b := v) (by omega) (by omega)).mpr (Nat.le_refl v)) hh)
    refine go_sub [1] [(1, .int (oi (wrs (g 86) v)))] rfl ?_
    exact kk
  | succ k ih =>
    intro v hk kk
    cases hq : wrs (g 86) v with
    | none =>
      refine go_iload_n (pc' := 5) cx dX4_worst_4 rfl rfl ?_
      refine go_aload_n (pc' := 6) cx dX4_worst_5 rfl rfl ?_
      refine go_getr (pc' := 9) cx 64 fX4_27 dX4_worst_6 kq63 (ltn rfl) (ltn rfl) rfl rfl rfl ?_
      refine go_geti (pc' := 12) cx (nI vn) fX4_46 dX4_worst_9 kq64 (ltn rfl) (ltn rfl) rfl h3 rfl ?_
      refine go_icmp_ge (pc' := 15) cx 43 dX4_worst_12 rfl rfl (fun hh => absurd ((nI_leI (a := vn) (b := v) (by omega) (by omega)).mp hh) (by omega)) (fun _ => ?_)
      refine go_iload_n (pc' := 16) cx dX4_worst_15 rfl rfl ?_
      refine go_iconst (pc' := 17) cx (-1) dX4_worst_16 rfl rfl ?_
      refine go_icmp_eq (pc' := 20) cx 35 dX4_worst_17 rfl rfl (fun _ => ?_) (fun hh => absurd rfl hh)
      refine go_iload_n (pc' := 36) cx dX4_worst_35 rfl rfl ?_
      refine go_istore_n (pc' := 37) cx dX4_worst_36 (ltn rfl) [(1, .int (nI v)), (2, .int (nI v)), (0, .ref (E.2.1 63))] rfl rfl ?_
      refine go_iinc (pc' := 40) cx (nI (v + 1)) dX4_worst_37 rfl (nI_1 v) (ltn rfl) [(2, .int (nI (v + 1))), (1, .int (nI v)), (0, .ref (E.2.1 63))] rfl rfl ?_
      refine go_goto cx 4 dX4_worst_40 rfl ?_
      have hq2 : wrs (g 86) (v + 1) = some v := (by unfold wrs; rw [hq])
      have h9 := ih (v + 1) (by omega) kk
      rw [hq2] at h9
      exact h9
    | some w =>
      have hw := wrs_lt hq
      refine go_iload_n (pc' := 5) cx dX4_worst_4 rfl rfl ?_
      refine go_aload_n (pc' := 6) cx dX4_worst_5 rfl rfl ?_
      refine go_getr (pc' := 9) cx 64 fX4_27 dX4_worst_6 kq63 (ltn rfl) (ltn rfl) rfl rfl rfl ?_
      refine go_geti (pc' := 12) cx (nI vn) fX4_46 dX4_worst_9 kq64 (ltn rfl) (ltn rfl) rfl h3 rfl ?_
      refine go_icmp_ge (pc' := 15) cx 43 dX4_worst_12 rfl rfl (fun hh => absurd ((nI_leI (a := vn) (b := v) (by omega) (by omega)).mp hh) (by omega)) (fun _ => ?_)
      refine go_iload_n (pc' := 16) cx dX4_worst_15 rfl rfl ?_
      refine go_iconst (pc' := 17) cx (-1) dX4_worst_16 rfl rfl ?_
      refine go_icmp_eq (pc' := 20) cx 35 dX4_worst_17 rfl rfl (fun hh => absurd hh (nI_ne_m1 (by omega))) (fun _ => ?_)
      refine go_aload_n (pc' := 21) cx dX4_worst_20 rfl rfl ?_
      refine go_getr (pc' := 24) cx 86 fX4_16 dX4_worst_21 kq63 (ltn rfl) (ltn rfl) rfl rfl rfl ?_
      refine go_iload_n (pc' := 25) cx dX4_worst_24 rfl rfl ?_
      refine go_iald (pc' := 26) cx (g 86 v) dX4_worst_25 kq86 (ltn rfl) (vpi (k := v) (a := 8) (by omega) rfl rfl) (congrArg (g 86) (cli (k := v) (a := 8) (by omega) rfl)) rfl ?_
      refine go_aload_n (pc' := 27) cx dX4_worst_26 rfl rfl ?_
      refine go_getr (pc' := 30) cx 86 fX4_16 dX4_worst_27 kq63 (ltn rfl) (ltn rfl) rfl rfl rfl ?_
      refine go_iload_n (pc' := 31) cx dX4_worst_30 rfl rfl ?_
      refine go_iald (pc' := 32) cx (g 86 w) dX4_worst_31 kq86 (ltn rfl) (vpi (k := w) (a := 8) (by omega) rfl rfl) (congrArg (g 86) (cli (k := w) (a := 8) (by omega) rfl)) rfl ?_
      refine go_icmp_le (pc' := 35) cx 37 dX4_worst_32 rfl rfl (fun c32 => ?_) (fun c32 => ?_)
      · refine go_iinc (pc' := 40) cx (nI (v + 1)) dX4_worst_37 rfl (nI_1 v) (ltn rfl) [(2, .int (nI (v + 1))), (1, .int (nI w)), (0, .ref (E.2.1 63))] rfl rfl ?_
        refine go_goto cx 4 dX4_worst_40 rfl ?_
        have hq2 : wrs (g 86) (v + 1) = some w := (by unfold wrs; rw [hq]; exact if_pos c32)
        have h9 := ih (v + 1) (by omega) kk
        rw [hq2] at h9
        exact h9
      · refine go_iload_n (pc' := 36) cx dX4_worst_35 rfl rfl ?_
        refine go_istore_n (pc' := 37) cx dX4_worst_36 (ltn rfl) [(1, .int (nI v)), (2, .int (nI v)), (0, .ref (E.2.1 63))] rfl rfl ?_
        refine go_iinc (pc' := 40) cx (nI (v + 1)) dX4_worst_37 rfl (nI_1 v) (ltn rfl) [(2, .int (nI (v + 1))), (1, .int (nI v)), (0, .ref (E.2.1 63))] rfl rfl ?_
        refine go_goto cx 4 dX4_worst_40 rfl ?_
        have hq2 : wrs (g 86) (v + 1) = some v := (by unfold wrs; rw [hq]; exact if_neg c32)
        have h9 := ih (v + 1) (by omega) kk
        rw [hq2] at h9
        exact h9

set_option maxHeartbeats 4000000 in
set_option maxRecDepth 20000 in
theorem c_X4_worst (l : Launch) (E : Ev) {g : IG} {o : Option Nat} {z : Int64} {vn : Nat} (hvn : vn ≤ 8) (h3 : g 64 3 = nI vn) : Ct l E 88 yX4_worst cX4_worst 3 (some .int) 1 [.ref (E.2.1 63)] g (RFo o) z (Zi (RFo o) z (oi (wrs (g 86) vn)) g) := by
  refine Ct.of (lv0 := [(0, .ref (E.2.1 63))]) (by decide) (Nat.le_of_ble_eq_true rfl) rfl ?_
  intro p e s m below meth c cx
  refine go_iconst (pc' := 1) cx (-1) dX4_worst_0 rfl rfl ?_
  refine go_istore_n (pc' := 2) cx dX4_worst_1 (ltn rfl) [(1, .int (-1)), (0, .ref (E.2.1 63))] rfl rfl ?_
  refine go_iconst (pc' := 3) cx 0 dX4_worst_2 rfl rfl ?_
  refine go_istore_n (pc' := 4) cx dX4_worst_3 (ltn rfl) [(2, .int 0), (1, .int (-1)), (0, .ref (E.2.1 63))] rfl rfl ?_
  refine worst_loop hvn h3 cx vn 0 (Nat.zero_add vn) ?_
  refine go_iload_n (pc' := 44) cx dX4_worst_43 rfl rfl ?_
  refine go_iret cx rfl dX4_worst_44 ?_
  exact Zi.mk rfl rfl

set_option maxHeartbeats 4000000 in
set_option maxRecDepth 20000 in
theorem c_X4_isNear (l : Launch) (E : Ev) {g : IG} {o : Option Nat} {z : Int64} {v : Nat} (hv : v < 8) (near : Int32) : Ct l E 88 yX4_isNear cX4_isNear 4 (some .boolean) 1 [.ref (E.2.1 63), .int (nI v), .int near] g (RFo o) z (Zi (RFo o) z (isN (g (78 + v)) (g 68) near) g) := by
  refine Ct.of (lv0 := [(0, .ref (E.2.1 63)), (1, .int (nI v)), (2, .int near)]) (by decide) (Nat.le_of_ble_eq_true rfl) rfl ?_
  intro p e s m below meth c cx
  refine go_iconst (pc' := 1) cx 0 dX4_isNear_0 rfl rfl ?_
  refine go_istore_n (pc' := 2) cx dX4_isNear_1 (ltn rfl) [(3, .int 0), (0, .ref (E.2.1 63)), (1, .int (nI v)), (2, .int near)] rfl rfl ?_
  refine go_iload_n (pc' := 3) cx dX4_isNear_2 rfl rfl ?_
  refine go_iconst (pc' := 4) cx 4 dX4_isNear_3 rfl rfl ?_
  refine go_icmp_ge (pc' := 7) cx 42 dX4_isNear_4 rfl rfl (fun hh => absurd hh (by decide)) (fun _ => ?_)
  refine go_aload_n (pc' := 8) cx dX4_isNear_7 rfl rfl ?_
  refine go_getr (pc' := 11) cx 77 fX4_11 dX4_isNear_8 kq63 (ltn rfl) (ltn rfl) rfl rfl rfl ?_
  refine go_iload_n (pc' := 12) cx dX4_isNear_11 rfl rfl ?_
  refine go_aaldk (pc' := 13) cx v (78 + v) dX4_isNear_12 kq77 (Nat.le_of_ble_eq_true rfl) (ltn rfl) (ltn rfl) (vpi (k := v) (a := 8) (by omega) rfl rfl) (cli (k := v) (a := 8) (by omega) rfl) (bh_r (by omega)) rfl ?_
  refine go_iload_n (pc' := 14) cx dX4_isNear_13 rfl rfl ?_
  refine go_iald (pc' := 15) cx (g (78 + v) 0) dX4_isNear_14 (bh_k (by omega)) (by omega) (vpi (k := 0) (a := 1) (ltn rfl) rfl rfl) (congrArg (g (78 + v)) (cli (k := 0) (a := 1) (ltn rfl) rfl)) rfl ?_
  refine go_aload_n (pc' := 16) cx dX4_isNear_15 rfl rfl ?_
  refine go_getr (pc' := 19) cx 64 fX4_27 dX4_isNear_16 kq63 (ltn rfl) (ltn rfl) rfl rfl rfl ?_
  refine go_getr (pc' := 22) cx 65 fX4_43 dX4_isNear_19 kq64 (ltn rfl) (ltn rfl) rfl rfl rfl ?_
  refine go_iconst (pc' := 23) cx 2 dX4_isNear_22 rfl rfl ?_
  refine go_aaldk (pc' := 24) cx 2 68 dX4_isNear_23 kq65 (Nat.le_of_ble_eq_true rfl) (ltn rfl) (ltn rfl) (vpi (k := 2) (a := 3) (ltn rfl) rfl rfl) (cli (k := 2) (a := 3) (ltn rfl) rfl) rfl rfl ?_
  refine go_iload_n (pc' := 25) cx dX4_isNear_24 rfl rfl ?_
  refine go_iald (pc' := 26) cx (g 68 0) dX4_isNear_25 kq68 (ltn rfl) (vpi (k := 0) (a := 1) (ltn rfl) rfl rfl) (congrArg (g 68) (cli (k := 0) (a := 1) (ltn rfl) rfl)) rfl ?_
  refine go_isub (pc' := 27) cx dX4_isNear_26 rfl ?_
  refine go_mabs (pc' := 30) cx lX4_63 dX4_isNear_27 rfl (ltn rfl) (Nat.le_of_ble_eq_true rfl) rfl ?_
  refine go_iload_n (pc' := 31) cx dX4_isNear_30 rfl rfl ?_
  refine go_icmp_le (pc' := 34) cx 36 dX4_isNear_31 rfl rfl (fun c31 => ?_) (fun c31 => ?_)
  · refine go_iinc (pc' := 39) cx 1 dX4_isNear_36 rfl rfl (ltn rfl) [(3, .int 1), (0, .ref (E.2.1 63)), (1, .int (nI v)), (2, .int near)] rfl rfl ?_
    refine go_goto cx 2 dX4_isNear_39 rfl ?_
    refine go_iload_n (pc' := 3) cx dX4_isNear_2 rfl rfl ?_
    refine go_iconst (pc' := 4) cx 4 dX4_isNear_3 rfl rfl ?_
    refine go_icmp_ge (pc' := 7) cx 42 dX4_isNear_4 rfl rfl (fun hh => absurd hh (by decide)) (fun _ => ?_)
    refine go_aload_n (pc' := 8) cx dX4_isNear_7 rfl rfl ?_
    refine go_getr (pc' := 11) cx 77 fX4_11 dX4_isNear_8 kq63 (ltn rfl) (ltn rfl) rfl rfl rfl ?_
    refine go_iload_n (pc' := 12) cx dX4_isNear_11 rfl rfl ?_
    refine go_aaldk (pc' := 13) cx v (78 + v) dX4_isNear_12 kq77 (Nat.le_of_ble_eq_true rfl) (ltn rfl) (ltn rfl) (vpi (k := v) (a := 8) (by omega) rfl rfl) (cli (k := v) (a := 8) (by omega) rfl) (bh_r (by omega)) rfl ?_
    refine go_iload_n (pc' := 14) cx dX4_isNear_13 rfl rfl ?_
    refine go_iald (pc' := 15) cx (g (78 + v) 1) dX4_isNear_14 (bh_k (by omega)) (by omega) (vpi (k := 1) (a := 2) (ltn rfl) rfl rfl) (congrArg (g (78 + v)) (cli (k := 1) (a := 2) (ltn rfl) rfl)) rfl ?_
    refine go_aload_n (pc' := 16) cx dX4_isNear_15 rfl rfl ?_
    refine go_getr (pc' := 19) cx 64 fX4_27 dX4_isNear_16 kq63 (ltn rfl) (ltn rfl) rfl rfl rfl ?_
    refine go_getr (pc' := 22) cx 65 fX4_43 dX4_isNear_19 kq64 (ltn rfl) (ltn rfl) rfl rfl rfl ?_
    refine go_iconst (pc' := 23) cx 2 dX4_isNear_22 rfl rfl ?_
    refine go_aaldk (pc' := 24) cx 2 68 dX4_isNear_23 kq65 (Nat.le_of_ble_eq_true rfl) (ltn rfl) (ltn rfl) (vpi (k := 2) (a := 3) (ltn rfl) rfl rfl) (cli (k := 2) (a := 3) (ltn rfl) rfl) rfl rfl ?_
    refine go_iload_n (pc' := 25) cx dX4_isNear_24 rfl rfl ?_
    refine go_iald (pc' := 26) cx (g 68 1) dX4_isNear_25 kq68 (ltn rfl) (vpi (k := 1) (a := 2) (ltn rfl) rfl rfl) (congrArg (g 68) (cli (k := 1) (a := 2) (ltn rfl) rfl)) rfl ?_
    refine go_isub (pc' := 27) cx dX4_isNear_26 rfl ?_
    refine go_mabs (pc' := 30) cx lX4_63 dX4_isNear_27 rfl (ltn rfl) (Nat.le_of_ble_eq_true rfl) rfl ?_
    refine go_iload_n (pc' := 31) cx dX4_isNear_30 rfl rfl ?_
    refine go_icmp_le (pc' := 34) cx 36 dX4_isNear_31 rfl rfl (fun c31_2 => ?_) (fun c31_2 => ?_)
    · refine go_iinc (pc' := 39) cx 2 dX4_isNear_36 rfl rfl (ltn rfl) [(3, .int 2), (0, .ref (E.2.1 63)), (1, .int (nI v)), (2, .int near)] rfl rfl ?_
      refine go_goto cx 2 dX4_isNear_39 rfl ?_
      refine go_iload_n (pc' := 3) cx dX4_isNear_2 rfl rfl ?_
      refine go_iconst (pc' := 4) cx 4 dX4_isNear_3 rfl rfl ?_
      refine go_icmp_ge (pc' := 7) cx 42 dX4_isNear_4 rfl rfl (fun hh => absurd hh (by decide)) (fun _ => ?_)
      refine go_aload_n (pc' := 8) cx dX4_isNear_7 rfl rfl ?_
      refine go_getr (pc' := 11) cx 77 fX4_11 dX4_isNear_8 kq63 (ltn rfl) (ltn rfl) rfl rfl rfl ?_
      refine go_iload_n (pc' := 12) cx dX4_isNear_11 rfl rfl ?_
      refine go_aaldk (pc' := 13) cx v (78 + v) dX4_isNear_12 kq77 (Nat.le_of_ble_eq_true rfl) (ltn rfl) (ltn rfl) (vpi (k := v) (a := 8) (by omega) rfl rfl) (cli (k := v) (a := 8) (by omega) rfl) (bh_r (by omega)) rfl ?_
      refine go_iload_n (pc' := 14) cx dX4_isNear_13 rfl rfl ?_
      refine go_iald (pc' := 15) cx (g (78 + v) 2) dX4_isNear_14 (bh_k (by omega)) (by omega) (vpi (k := 2) (a := 3) (ltn rfl) rfl rfl) (congrArg (g (78 + v)) (cli (k := 2) (a := 3) (ltn rfl) rfl)) rfl ?_
      refine go_aload_n (pc' := 16) cx dX4_isNear_15 rfl rfl ?_
      refine go_getr (pc' := 19) cx 64 fX4_27 dX4_isNear_16 kq63 (ltn rfl) (ltn rfl) rfl rfl rfl ?_
      refine go_getr (pc' := 22) cx 65 fX4_43 dX4_isNear_19 kq64 (ltn rfl) (ltn rfl) rfl rfl rfl ?_
      refine go_iconst (pc' := 23) cx 2 dX4_isNear_22 rfl rfl ?_
      refine go_aaldk (pc' := 24) cx 2 68 dX4_isNear_23 kq65 (Nat.le_of_ble_eq_true rfl) (ltn rfl) (ltn rfl) (vpi (k := 2) (a := 3) (ltn rfl) rfl rfl) (cli (k := 2) (a := 3) (ltn rfl) rfl) rfl rfl ?_
      refine go_iload_n (pc' := 25) cx dX4_isNear_24 rfl rfl ?_
      refine go_iald (pc' := 26) cx (g 68 2) dX4_isNear_25 kq68 (ltn rfl) (vpi (k := 2) (a := 3) (ltn rfl) rfl rfl) (congrArg (g 68) (cli (k := 2) (a := 3) (ltn rfl) rfl)) rfl ?_
      refine go_isub (pc' := 27) cx dX4_isNear_26 rfl ?_
      refine go_mabs (pc' := 30) cx lX4_63 dX4_isNear_27 rfl (ltn rfl) (Nat.le_of_ble_eq_true rfl) rfl ?_
      refine go_iload_n (pc' := 31) cx dX4_isNear_30 rfl rfl ?_
      refine go_icmp_le (pc' := 34) cx 36 dX4_isNear_31 rfl rfl (fun c31_3 => ?_) (fun c31_3 => ?_)
      · refine go_iinc (pc' := 39) cx 3 dX4_isNear_36 rfl rfl (ltn rfl) [(3, .int 3), (0, .ref (E.2.1 63)), (1, .int (nI v)), (2, .int near)] rfl rfl ?_
        refine go_goto cx 2 dX4_isNear_39 rfl ?_
        refine go_iload_n (pc' := 3) cx dX4_isNear_2 rfl rfl ?_
        refine go_iconst (pc' := 4) cx 4 dX4_isNear_3 rfl rfl ?_
        refine go_icmp_ge (pc' := 7) cx 42 dX4_isNear_4 rfl rfl (fun hh => absurd hh (by decide)) (fun _ => ?_)
        refine go_aload_n (pc' := 8) cx dX4_isNear_7 rfl rfl ?_
        refine go_getr (pc' := 11) cx 77 fX4_11 dX4_isNear_8 kq63 (ltn rfl) (ltn rfl) rfl rfl rfl ?_
        refine go_iload_n (pc' := 12) cx dX4_isNear_11 rfl rfl ?_
        refine go_aaldk (pc' := 13) cx v (78 + v) dX4_isNear_12 kq77 (Nat.le_of_ble_eq_true rfl) (ltn rfl) (ltn rfl) (vpi (k := v) (a := 8) (by omega) rfl rfl) (cli (k := v) (a := 8) (by omega) rfl) (bh_r (by omega)) rfl ?_
        refine go_iload_n (pc' := 14) cx dX4_isNear_13 rfl rfl ?_
        refine go_iald (pc' := 15) cx (g (78 + v) 3) dX4_isNear_14 (bh_k (by omega)) (by omega) (vpi (k := 3) (a := 4) (ltn rfl) rfl rfl) (congrArg (g (78 + v)) (cli (k := 3) (a := 4) (ltn rfl) rfl)) rfl ?_
        refine go_aload_n (pc' := 16) cx dX4_isNear_15 rfl rfl ?_
        refine go_getr (pc' := 19) cx 64 fX4_27 dX4_isNear_16 kq63 (ltn rfl) (ltn rfl) rfl rfl rfl ?_
        refine go_getr (pc' := 22) cx 65 fX4_43 dX4_isNear_19 kq64 (ltn rfl) (ltn rfl) rfl rfl rfl ?_
        refine go_iconst (pc' := 23) cx 2 dX4_isNear_22 rfl rfl ?_
        refine go_aaldk (pc' := 24) cx 2 68 dX4_isNear_23 kq65 (Nat.le_of_ble_eq_true rfl) (ltn rfl) (ltn rfl) (vpi (k := 2) (a := 3) (ltn rfl) rfl rfl) (cli (k := 2) (a := 3) (ltn rfl) rfl) rfl rfl ?_
        refine go_iload_n (pc' := 25) cx dX4_isNear_24 rfl rfl ?_
        refine go_iald (pc' := 26) cx (g 68 3) dX4_isNear_25 kq68 (ltn rfl) (vpi (k := 3) (a := 4) (ltn rfl) rfl rfl) (congrArg (g 68) (cli (k := 3) (a := 4) (ltn rfl) rfl)) rfl ?_
        refine go_isub (pc' := 27) cx dX4_isNear_26 rfl ?_
        refine go_mabs (pc' := 30) cx lX4_63 dX4_isNear_27 rfl (ltn rfl) (Nat.le_of_ble_eq_true rfl) rfl ?_
        refine go_iload_n (pc' := 31) cx dX4_isNear_30 rfl rfl ?_
        refine go_icmp_le (pc' := 34) cx 36 dX4_isNear_31 rfl rfl (fun c31_4 => ?_) (fun c31_4 => ?_)
        · refine go_iinc (pc' := 39) cx 4 dX4_isNear_36 rfl rfl (ltn rfl) [(3, .int 4), (0, .ref (E.2.1 63)), (1, .int (nI v)), (2, .int near)] rfl rfl ?_
          refine go_goto cx 2 dX4_isNear_39 rfl ?_
          refine go_iload_n (pc' := 3) cx dX4_isNear_2 rfl rfl ?_
          refine go_iconst (pc' := 4) cx 4 dX4_isNear_3 rfl rfl ?_
          refine go_icmp_ge (pc' := 7) cx 42 dX4_isNear_4 rfl rfl (fun _ => ?_) (fun hh => absurd hh (by decide))
          refine go_iconst (pc' := 43) cx 1 dX4_isNear_42 rfl rfl ?_
          refine go_zret cx (Or.inr rfl) rfl dX4_isNear_43 ?_
          exact Zi.mk (by simp only [isN, ab, c31, c31_2, c31_3, c31_4, if_true, if_false]) rfl
        · refine go_iconst (pc' := 35) cx 0 dX4_isNear_34 rfl rfl ?_
          refine go_zret cx (Or.inl rfl) rfl dX4_isNear_35 ?_
          exact Zi.mk (by simp only [isN, ab, c31, c31_2, c31_3, c31_4, if_true, if_false]) rfl
      · refine go_iconst (pc' := 35) cx 0 dX4_isNear_34 rfl rfl ?_
        refine go_zret cx (Or.inl rfl) rfl dX4_isNear_35 ?_
        exact Zi.mk (by simp only [isN, ab, c31, c31_2, c31_3, if_true, if_false]) rfl
    · refine go_iconst (pc' := 35) cx 0 dX4_isNear_34 rfl rfl ?_
      refine go_zret cx (Or.inl rfl) rfl dX4_isNear_35 ?_
      exact Zi.mk (by simp only [isN, ab, c31, c31_2, if_true, if_false]) rfl
  · refine go_iconst (pc' := 35) cx 0 dX4_isNear_34 rfl rfl ?_
    refine go_zret cx (Or.inl rfl) rfl dX4_isNear_35 ?_
    exact Zi.mk (by simp only [isN, ab, c31, if_true, if_false]) rfl

set_option maxHeartbeats 4000000 in
set_option maxRecDepth 20000 in
theorem fo_loop {l : Launch} {E : Ev} {Z : ZT} {o : Option Nat} {z : Int64} {p : Program} {e : Env} {s : State} {m : MethodId} {args : Array Value} {below : List Frame} {meth : Method} {c : Code} {t sz pl : Nat} (ht : t < 4) (hsz : sz ≤ 8) (hpl : pl < 4) {g : IG} (h2 : g (29 + 2 * t) 2 = nI sz) (cx : Cx p s m args meth c E 88 cX4_firstOtherwise 4 yX4_firstOtherwise.cls (some .int)) : ∀ (k v : Nat), v + k = sz → (Z (some (.int (foF (g (29 + 2 * t + 1)) (fun v => g (78 + v) pl) v k))) g (RFo o) z) → Go p l e (rmd 1) s m args below meth c E 88 4 Z g (RFo o) z 2 [(3, .int (nI v)), (0, .ref (E.2.1 63)), (1, .ref (E.2.1 (29 + 2 * t))), (2, .int (nI pl))] [] := by
  intro k
  induction k with
  | zero =>
    intro v hk hZ
    have hq : v = sz := by omega
    subst hq
    refine go_iload_n (pc' := 3) cx dX4_firstOtherwise_2 rfl rfl ?_
    refine go_aload_n (pc' := 4) cx dX4_firstOtherwise_3 rfl rfl ?_
    refine go_geti (pc' := 7) cx (nI v) fX4_68 dX4_firstOtherwise_4 (sh_k' _ ht).1 (by omega) (ltn rfl) rfl h2 rfl ?_
    refine go_icmp_ge (pc' := 10) cx 41 dX4_firstOtherwise_7 rfl rfl (fun _ => ?_) (fun hh => absurd ((nI_leI (a := v) (b := v) (by omega) (by omega)).mpr (Nat.le_refl v)) hh)
    refine go_iconst (pc' := 42) cx (-1) dX4_firstOtherwise_41 rfl rfl ?_
    refine go_iret cx rfl dX4_firstOtherwise_42 ?_
    exact hZ
  | succ k ih =>
    intro v hk hZ
    refine go_iload_n (pc' := 3) cx dX4_firstOtherwise_2 rfl rfl ?_
    refine go_aload_n (pc' := 4) cx dX4_firstOtherwise_3 rfl rfl ?_
    refine go_geti (pc' := 7) cx (nI sz) fX4_68 dX4_firstOtherwise_4 (sh_k' _ ht).1 (by omega) (ltn rfl) rfl h2 rfl ?_
    refine go_icmp_ge (pc' := 10) cx 41 dX4_firstOtherwise_7 rfl rfl (fun hh => absurd ((nI_leI (a := sz) (b := v) (by omega) (by omega)).mp hh) (by omega)) (fun _ => ?_)
    refine go_iload_n (pc' := 11) cx dX4_firstOtherwise_10 rfl rfl ?_
    refine go_bipush (pc' := 13) cx 8 dX4_firstOtherwise_11 rfl rfl ?_
    refine go_icmp_ge (pc' := 16) cx 41 dX4_firstOtherwise_13 rfl rfl (fun hh => absurd ((nI_leI (a := 8) (b := v) (by omega) (by omega)).mp hh) (by omega)) (fun _ => ?_)
    refine go_aload_n (pc' := 17) cx dX4_firstOtherwise_16 rfl rfl ?_
    refine go_getr (pc' := 20) cx (29 + 2 * t + 1) fX4_73 dX4_firstOtherwise_17 (sh_k' _ ht).1 (by omega) (ltn rfl) rfl (sh_r ht).1 rfl ?_
    refine go_iload_n (pc' := 21) cx dX4_firstOtherwise_20 rfl rfl ?_
    refine go_iald (pc' := 22) cx (g (29 + 2 * t + 1) v) dX4_firstOtherwise_21 (sh_k' _ ht).2.1 (by omega) (vpi (k := v) (a := 40) (by omega) rfl rfl) (congrArg (g (29 + 2 * t + 1)) (cli (k := v) (a := 40) (by omega) rfl)) rfl ?_
    refine go_aload_n (pc' := 23) cx dX4_firstOtherwise_22 rfl rfl ?_
    refine go_getr (pc' := 26) cx 77 fX4_11 dX4_firstOtherwise_23 kq63 (ltn rfl) (ltn rfl) rfl rfl rfl ?_
    refine go_iload_n (pc' := 27) cx dX4_firstOtherwise_26 rfl rfl ?_
    refine go_aaldk (pc' := 28) cx v (78 + v) dX4_firstOtherwise_27 kq77 (Nat.le_of_ble_eq_true rfl) (ltn rfl) (ltn rfl) (vpi (k := v) (a := 8) (by omega) rfl rfl) (cli (k := v) (a := 8) (by omega) rfl) (bh_r (by omega)) rfl ?_
    refine go_iload_n (pc' := 29) cx dX4_firstOtherwise_28 rfl rfl ?_
    refine go_iald (pc' := 30) cx (g (78 + v) pl) dX4_firstOtherwise_29 (bh_k (by omega)) (by omega) (vpi (k := pl) (a := 4) hpl rfl rfl) (congrArg (g (78 + v)) (cli (k := pl) (a := 4) hpl rfl)) rfl ?_
    refine go_icmp_eq (pc' := 33) cx 35 dX4_firstOtherwise_30 rfl rfl (fun c30 => ?_) (fun c30 => ?_)
    · refine go_iinc (pc' := 38) cx (nI (v + 1)) dX4_firstOtherwise_35 rfl (nI_1 v) (ltn rfl) [(3, .int (nI (v + 1))), (0, .ref (E.2.1 63)), (1, .ref (E.2.1 (29 + 2 * t))), (2, .int (nI pl))] rfl rfl ?_
      refine go_goto cx 2 dX4_firstOtherwise_38 rfl ?_
      refine ih (v + 1) (by omega) ?_
      have h9 : foF (g (29 + 2 * t + 1)) (fun v => g (78 + v) pl) v (k + 1) = foF (g (29 + 2 * t + 1)) (fun v => g (78 + v) pl) (v + 1) k := if_pos c30
      rw [h9] at hZ
      exact hZ
    · refine go_iload_n (pc' := 34) cx dX4_firstOtherwise_33 rfl rfl ?_
      refine go_iret cx rfl dX4_firstOtherwise_34 ?_
      have h9 : foF (g (29 + 2 * t + 1)) (fun v => g (78 + v) pl) v (k + 1) = nI v := if_neg c30
      rw [h9] at hZ
      exact hZ

set_option maxHeartbeats 4000000 in
set_option maxRecDepth 20000 in
theorem c_X4_firstOtherwise (l : Launch) (E : Ev) {g : IG} {o : Option Nat} {z : Int64} {t sz pl : Nat} (ht : t < 4) (hsz : sz ≤ 8) (hpl : pl < 4) (h2 : g (29 + 2 * t) 2 = nI sz) : Ct l E 88 yX4_firstOtherwise cX4_firstOtherwise 4 (some .int) 1 [.ref (E.2.1 63), .ref (E.2.1 (29 + 2 * t)), .int (nI pl)] g (RFo o) z (Zi (RFo o) z (foF (g (29 + 2 * t + 1)) (fun v => g (78 + v) pl) 0 sz) g) := by
  refine Ct.of (lv0 := [(0, .ref (E.2.1 63)), (1, .ref (E.2.1 (29 + 2 * t))), (2, .int (nI pl))]) (by decide) (Nat.le_of_ble_eq_true rfl) rfl ?_
  intro p e s m below meth c cx
  refine go_iconst (pc' := 1) cx 0 dX4_firstOtherwise_0 rfl rfl ?_
  refine go_istore_n (pc' := 2) cx dX4_firstOtherwise_1 (ltn rfl) [(3, .int 0), (0, .ref (E.2.1 63)), (1, .ref (E.2.1 (29 + 2 * t))), (2, .int (nI pl))] rfl rfl ?_
  exact fo_loop ht hsz hpl h2 cx sz 0 (Nat.zero_add sz) (Zi.mk rfl rfl)

set_option maxHeartbeats 4000000 in
set_option maxRecDepth 20000 in
theorem renew_loop {l : Launch} {E : Ev} {Z : ZT} {o : Option Nat} {z : Int64} {p : Program} {e : Env} {s : State} {m : MethodId} {args : Array Value} {below : List Frame} {meth : Method} {c : Code} {t : Nat} (ht : t < 4) {g : IG} {f : Nat → Int32} (cx : Cx p s m args meth c E 88 cX2_renew 4 yX2_renew.cls none) : ∀ (k q : Nat), q + k = 40 → (Z none (upw g (29 + 2 * t + 1) (zrow f 40)) (RFo o) z) → Go p l e (rmd 1) s m args below meth c E 88 4 Z (upw g (29 + 2 * t + 1) (zrow f q)) (RFo o) z 12 [(3, .int (nI q)), (0, .ref (E.2.1 (29 + 2 * t)))] [] := by
  intro k
  induction k with
  | zero =>
    intro q hk hZ
    have hq : q = 40 := by omega
    subst hq
    refine go_iload_n (pc' := 13) cx dX2_renew_12 rfl rfl ?_
    refine go_bipush (pc' := 15) cx 40 dX2_renew_13 rfl rfl ?_
    refine go_icmp_ge (pc' := 18) cx 31 dX2_renew_15 rfl rfl (fun _ => ?_) (fun hh => absurd hh (by decide))
    refine go_vret cx rfl dX2_renew_31 ?_
    exact hZ
  | succ k ih =>
    intro q hk hZ
    refine go_iload_n (pc' := 13) cx dX2_renew_12 rfl rfl ?_
    refine go_bipush (pc' := 15) cx 40 dX2_renew_13 rfl rfl ?_
    refine go_icmp_ge (pc' := 18) cx 31 dX2_renew_15 rfl rfl (fun hh => absurd ((nI_leI (a := 40) (b := q) (by omega) (by omega)).mp hh) (by omega)) (fun _ => ?_)
    refine go_aload_n (pc' := 19) cx dX2_renew_18 rfl rfl ?_
    refine go_getr (pc' := 22) cx (29 + 2 * t + 1) fX2_9 dX2_renew_19 (sh_k' _ ht).1 (by omega) (ltn rfl) rfl (sh_r ht).1 rfl ?_
    refine go_iload_n (pc' := 23) cx dX2_renew_22 rfl rfl ?_
    refine go_iconst (pc' := 24) cx 0 dX2_renew_23 rfl rfl ?_
    refine go_iastk (pc' := 25) cx q dX2_renew_24 (sh_k' _ ht).2.1 (by omega) (vpi (k := q) (a := 40) (by omega) rfl rfl) (cli (k := q) (a := 40) (by omega) rfl) rfl ?_
    refine go_g (upw_up g (29 + 2 * t + 1) (zrow f q) q 0) ?_
    refine go_iinc (pc' := 28) cx (nI (q + 1)) dX2_renew_25 rfl (nI_1 q) (ltn rfl) [(3, .int (nI (q + 1))), (0, .ref (E.2.1 (29 + 2 * t)))] rfl rfl ?_
    refine go_goto cx 12 dX2_renew_28 rfl ?_
    refine go_g (congrArg (upw g (29 + 2 * t + 1)) (zrow_s f q)) ?_
    exact ih (q + 1) (by omega) hZ

set_option maxHeartbeats 4000000 in
set_option maxRecDepth 20000 in
theorem c_X2_renew (l : Launch) (E : Ev) {g : IG} {o : Option Nat} {z : Int64} {t : Nat} (ht : t < 4) (so1 sz1 : Int32) : Ct l E 88 yX2_renew cX2_renew 4 none 1 [.ref (E.2.1 (29 + 2 * t)), .int so1, .int sz1] g (RFo o) z (Zu (RFo o) z (upw (up2 (up2 g (29 + 2 * t) 1 so1) (29 + 2 * t) 2 sz1) (29 + 2 * t + 1) (zrow (g (29 + 2 * t + 1)) 40))) := by
  refine Ct.of (lv0 := [(0, .ref (E.2.1 (29 + 2 * t))), (1, .int so1), (2, .int sz1)]) (by decide) (Nat.le_of_ble_eq_true rfl) rfl ?_
  intro p e s m below meth c cx
  refine go_aload_n (pc' := 1) cx dX2_renew_0 rfl rfl ?_
  refine go_iload_n (pc' := 2) cx dX2_renew_1 rfl rfl ?_
  refine go_puti (pc' := 5) cx fX2_15 dX2_renew_2 (sh_k' _ ht).1 (by omega) (ltn rfl) rfl rfl rfl rfl ?_
  refine go_aload_n (pc' := 6) cx dX2_renew_5 rfl rfl ?_
  refine go_iload_n (pc' := 7) cx dX2_renew_6 rfl rfl ?_
  refine go_puti (pc' := 10) cx fX2_19 dX2_renew_7 (sh_k' _ ht).1 (by omega) (ltn rfl) rfl rfl rfl rfl ?_
  refine go_iconst (pc' := 11) cx 0 dX2_renew_10 rfl rfl ?_
  refine go_istore_n (pc' := 12) cx dX2_renew_11 (ltn rfl) [(3, .int 0), (0, .ref (E.2.1 (29 + 2 * t))), (1, .int so1), (2, .int sz1)] rfl rfl ?_
  refine go_sub [0, 1] [(3, .int 0), (0, .ref (E.2.1 (29 + 2 * t)))] rfl ?_
  have e9 : (up2 (up2 g (29 + 2 * t) 1 so1) (29 + 2 * t) 2 sz1) (29 + 2 * t + 1) = g (29 + 2 * t + 1) := funext fun b => by rw [up2_n _ _ (Or.inl (by omega)), up2_n _ _ (Or.inl (by omega))]
  refine go_g (upw_id (up2 (up2 g (29 + 2 * t) 1 so1) (29 + 2 * t) 2 sz1) (29 + 2 * t + 1)).symm ?_
  rw [e9]
  refine go_g (congrArg (upw (up2 (up2 g (29 + 2 * t) 1 so1) (29 + 2 * t) 2 sz1) (29 + 2 * t + 1)) (zrow_0 _).symm) ?_
  exact renew_loop ht cx 40 0 rfl (Zu.mk rfl)

set_option maxHeartbeats 4000000 in
set_option maxRecDepth 20000 in
theorem c_X2_put (l : Launch) (E : Ev) {g : IG} {o : Option Nat} {z : Int64} {t : Nat} (ht : t < 4) {sz q : Nat} (hsz : sz ≤ 40) (hq : q < sz) (v1 : Int32) (h2 : g (29 + 2 * t) 2 = nI sz) : Ct l E 88 yX2_put cX2_put 3 (some .boolean) 1 [.ref (E.2.1 (29 + 2 * t)), .int (nI q), .int v1] g (RFo o) z (Zi (RFo o) z 1 (up2 g (29 + 2 * t + 1) q (cvS (g (29 + 2 * t) 1) v1))) := by
  refine Ct.of (lv0 := [(0, .ref (E.2.1 (29 + 2 * t))), (1, .int (nI q)), (2, .int v1)]) (by decide) (Nat.le_of_ble_eq_true rfl) rfl ?_
  intro p e s m below meth c cx
  refine go_iload_n (pc' := 1) cx dX2_put_0 rfl rfl ?_
  refine go_if_lt (pc' := 4) cx 12 dX2_put_1 rfl rfl (fun hh => absurd hh (nI_pos (by omega))) (fun _ => ?_)
  refine go_iload_n (pc' := 5) cx dX2_put_4 rfl rfl ?_
  refine go_aload_n (pc' := 6) cx dX2_put_5 rfl rfl ?_
  refine go_geti (pc' := 9) cx (nI sz) fX2_19 dX2_put_6 (sh_k' _ ht).1 (by omega) (ltn rfl) rfl h2 rfl ?_
  refine go_icmp_lt (pc' := 12) cx 14 dX2_put_9 rfl rfl (fun _ => ?_) (fun hh => absurd ((nI_ltI (a := q) (b := sz) (by omega) (by omega)).mpr hq) hh)
  refine go_aload_n (pc' := 15) cx dX2_put_14 rfl rfl ?_
  refine go_getr (pc' := 18) cx (29 + 2 * t + 1) fX2_9 dX2_put_15 (sh_k' _ ht).1 (by omega) (ltn rfl) rfl (sh_r ht).1 rfl ?_
  refine go_iload_n (pc' := 19) cx dX2_put_18 rfl rfl ?_
  refine go_aload_n (pc' := 20) cx dX2_put_19 rfl rfl ?_
  refine go_geti (pc' := 23) cx (g (29 + 2 * t) 1) fX2_15 dX2_put_20 (sh_k' _ ht).1 (by omega) (ltn rfl) rfl rfl rfl ?_
  refine go_if_ne (pc' := 26) cx 31 dX2_put_23 rfl rfl (fun c23 => ?_) (fun c23 => ?_)
  · refine go_aload_n (pc' := 32) cx dX2_put_31 rfl rfl ?_
    refine go_geti (pc' := 35) cx (g (29 + 2 * t) 1) fX2_15 dX2_put_32 (sh_k' _ ht).1 (by omega) (ltn rfl) rfl rfl rfl ?_
    refine go_iconst (pc' := 36) cx 1 dX2_put_35 rfl rfl ?_
    refine go_icmp_ne (pc' := 39) cx 44 dX2_put_36 rfl rfl (fun c36 => ?_) (fun c36 => ?_)
    · refine go_iload_n (pc' := 45) cx dX2_put_44 rfl rfl ?_
      refine go_iastk (pc' := 46) cx q dX2_put_45 (sh_k' _ ht).2.1 (by omega) (vpi (k := q) (a := 40) (by omega) rfl rfl) (cli (k := q) (a := 40) (by omega) rfl) rfl ?_
      refine go_iconst (pc' := 47) cx 1 dX2_put_46 rfl rfl ?_
      refine go_zret cx (Or.inr rfl) rfl dX2_put_47 ?_
      exact Zi.mk rfl (by simp [cvS, c23, c36])
    · refine go_iload_n (pc' := 40) cx dX2_put_39 rfl rfl ?_
      refine go_i2s (pc' := 41) cx dX2_put_40 rfl ?_
      refine go_goto cx 45 dX2_put_41 rfl ?_
      refine go_iastk (pc' := 46) cx q dX2_put_45 (sh_k' _ ht).2.1 (by omega) (vpi (k := q) (a := 40) (by omega) rfl rfl) (cli (k := q) (a := 40) (by omega) rfl) rfl ?_
      refine go_iconst (pc' := 47) cx 1 dX2_put_46 rfl rfl ?_
      refine go_zret cx (Or.inr rfl) rfl dX2_put_47 ?_
      exact Zi.mk rfl (by simp [cvS, c23, c36])
  · refine go_iload_n (pc' := 27) cx dX2_put_26 rfl rfl ?_
    refine go_i2b (pc' := 28) cx dX2_put_27 rfl ?_
    refine go_goto cx 45 dX2_put_28 rfl ?_
    refine go_iastk (pc' := 46) cx q dX2_put_45 (sh_k' _ ht).2.1 (by omega) (vpi (k := q) (a := 40) (by omega) rfl rfl) (cli (k := q) (a := 40) (by omega) rfl) rfl ?_
    refine go_iconst (pc' := 47) cx 1 dX2_put_46 rfl rfl ?_
    refine go_zret cx (Or.inr rfl) rfl dX2_put_47 ?_
    exact Zi.mk rfl (by simp [cvS, c23])

set_option maxHeartbeats 4000000 in
set_option maxRecDepth 20000 in
theorem c_X2_putN (l : Launch) (E : Ev) {g : IG} {o : Option Nat} {z : Int64} {t : Nat} (ht : t < 4) (i1 v1 : Int32) (hi : i1 < 0 ∨ ¬ i1 < g (29 + 2 * t) 2) : Ct l E 88 yX2_put cX2_put 3 (some .boolean) 1 [.ref (E.2.1 (29 + 2 * t)), .int i1, .int v1] g (RFo o) z (Zi (RFo o) z 0 g) := by
  refine Ct.of (lv0 := [(0, .ref (E.2.1 (29 + 2 * t))), (1, .int i1), (2, .int v1)]) (by decide) (Nat.le_of_ble_eq_true rfl) rfl ?_
  intro p e s m below meth c cx
  refine go_iload_n (pc' := 1) cx dX2_put_0 rfl rfl ?_
  refine go_if_lt (pc' := 4) cx 12 dX2_put_1 rfl rfl (fun c1 => ?_) (fun c1 => ?_)
  · refine go_iconst (pc' := 13) cx 0 dX2_put_12 rfl rfl ?_
    refine go_zret cx (Or.inl rfl) rfl dX2_put_13 ?_
    exact Zi.mk rfl rfl
  · refine go_iload_n (pc' := 5) cx dX2_put_4 rfl rfl ?_
    refine go_aload_n (pc' := 6) cx dX2_put_5 rfl rfl ?_
    refine go_geti (pc' := 9) cx (g (29 + 2 * t) 2) fX2_19 dX2_put_6 (sh_k' _ ht).1 (by omega) (ltn rfl) rfl rfl rfl ?_
    refine go_icmp_lt (pc' := 12) cx 14 dX2_put_9 rfl rfl (fun c9 => ?_) (fun c9 => ?_)
    · exact absurd hi (by simp only [c1, c9, not_true, or_self, not_false_iff])
    · refine go_iconst (pc' := 13) cx 0 dX2_put_12 rfl rfl ?_
      refine go_zret cx (Or.inl rfl) rfl dX2_put_13 ?_
      exact Zi.mk rfl rfl
