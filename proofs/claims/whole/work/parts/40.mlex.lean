/-! THE REFERENCE: its tokens -/
def inX (lo hi x : Int32) : Int32 := if x < lo then 0 else if hi < x then 0 else 1
theorem i64_lt {x y : Int32} : x.toInt64 < y.toInt64 ↔ x < y := by
  rw [Int64.lt_iff_toInt_lt, Int32.lt_iff_toInt_lt, Int32.toInt_toInt64, Int32.toInt_toInt64]
theorem i64_eq {x y : Int32} : x.toInt64 = y.toInt64 ↔ x = y := by
  rw [← Int64.toInt_inj, ← Int32.toInt_inj, Int32.toInt_toInt64, Int32.toInt_toInt64]
/-- but for what a reader of the reference writes, the ints are as they were -/
def Fr88 (g0 g : IG) : Prop := ∀ i k, ¬ (i = 88 ∧ (k = 28 ∨ k = 29 ∨ k = 30 ∨ k = 32 ∨ k = 33 ∨ k = 34)) → g i k = g0 i k
theorem Fr88.rf {g : IG} : Fr88 g g := fun _ _ _ => rfl
theorem Fr88.tr {g0 g g1 : IG} (h : Fr88 g0 g) (h1 : Fr88 g g1) : Fr88 g0 g1 := fun i k q => (h1 i k q).trans (h i k q)
theorem Fr88.up {g0 g : IG} {k : Nat} {v : Int32} (h : Fr88 g0 g) (hk : k = 28 ∨ k = 29 ∨ k = 30 ∨ k = 32 ∨ k = 33 ∨ k = 34) : Fr88 g0 (up2 g 88 k v) := fun i j q => by
  rw [up2_n _ _ (by omega)]
  exact h i j q
def mT (R : Nat → Int32) (fr : Nat) : Nat → Int32 := fun i => R (fr + i)
/-- behind a token -/
def NxP (T : Nat → Int32) (sz s : Nat) (G g1 : IG) (z1 : Int64) : Prop :=
  Fr88 G g1 ∧ g1 88 32 = G 88 32 ∧ g1 88 33 = G 88 33 ∧ g1 88 34 = G 88 34 ∧ g1 88 30 = nI s ∧ g1 88 29 = kdT T sz s ∧ (¬ kdT T sz s = 4 → g1 88 28 = nI (tokS T sz s (-1)).1) ∧ (kdT T sz s = 2 → z1 = (tokS T sz s (-1)).2.2.1.toInt64) ∧ (kdT T sz s = 3 → z1 = (T s).toInt64)
theorem here2 {g : IG} {v w : Int32} : up2 (up2 g 88 28 v) 88 28 w = up2 g 88 28 w := by
  funext i j
  unfold up2
  by_cases h : i = 88
  · by_cases hj : j = 28
    · simp [h, hj]
    · simp [h, hj]
  · simp [h]
theorem here_ex {g : IG} {a : Nat} (h : g 88 28 = nI a) : g = up2 g 88 28 (nI a) := by
  funext i j
  unfold up2
  by_cases hi : i = 88
  · rw [if_pos hi]
    by_cases hj : j = 28
    · rw [if_pos hj, hi, hj, h]
    · rw [if_neg hj]
  · rw [if_neg hi]

def witF (lo hi x : Int32) : Int32 := if x < lo then lo else if hi < x then hi else x
def plnF (x : Int32) : Int32 := if x < 0 then -x else x

set_option maxHeartbeats 1000000 in
set_option maxRecDepth 20000 in
theorem c_X6_in (l : Launch) (E : Ev) {g : IG} {o : Option Nat} {z : Int64} (x lo hi : Int32) : Ct l E 115 yX6_in cX6_in 6 (some .boolean) 1 [.long x.toInt64, .long lo.toInt64, .long hi.toInt64] g (RFo o) z (Zi (RFo o) z (inX lo hi x) g) := by
  refine Ct.of (lv0 := [(0, .long x.toInt64), (2, .long lo.toInt64), (4, .long hi.toInt64)]) (by decide) (Nat.le_of_ble_eq_true rfl) rfl ?_
  intro p e s m below meth c cx
  refine go_lload_n (pc' := 1) cx dX6_in_0 rfl rfl ?_
  refine go_lload_n (pc' := 2) cx dX6_in_1 rfl rfl ?_
  refine go_lcmp (pc' := 3) cx dX6_in_2 rfl ?_
  refine go_if_lt (pc' := 6) cx 17 dX6_in_3 rfl rfl (fun c3 => ?_) (fun c3 => ?_)
  · have c3n := Int32.not_le.mpr c3
    refine go_iconst (pc' := 18) cx 0 dX6_in_17 rfl rfl ?_
    refine go_zret cx (Or.inl rfl) rfl dX6_in_18 ?_
    exact Zi.mk (by unfold inX; rw [if_pos (i64_lt.mp ((lg_cmp_lt _ _).mp c3))]) rfl
  · have c3n := Int32.not_lt.mp c3
    refine go_lload_n (pc' := 7) cx dX6_in_6 rfl rfl ?_
    refine go_lload (pc' := 9) cx dX6_in_7 rfl rfl ?_
    refine go_lcmp (pc' := 10) cx dX6_in_9 rfl ?_
    refine go_if_gt (pc' := 13) cx 17 dX6_in_10 rfl rfl (fun c10 => ?_) (fun c10 => ?_)
    · have c10n := Int32.not_le.mpr c10
      refine go_iconst (pc' := 18) cx 0 dX6_in_17 rfl rfl ?_
      refine go_zret cx (Or.inl rfl) rfl dX6_in_18 ?_
      exact Zi.mk (by unfold inX; rw [if_neg (fun q => c3 ((lg_cmp_lt _ _).mpr (i64_lt.mpr q))), if_pos (i64_lt.mp ((lg_cmp_gt _ _).mp c10))]) rfl
    · have c10n := Int32.not_lt.mp c10
      refine go_iconst (pc' := 14) cx 1 dX6_in_13 rfl rfl ?_
      refine go_goto cx 18 dX6_in_14 rfl ?_
      refine go_zret cx (Or.inr rfl) rfl dX6_in_18 ?_
      exact Zi.mk (by unfold inX; rw [if_neg (fun q => c3 ((lg_cmp_lt _ _).mpr (i64_lt.mpr q))), if_neg (fun q => c10 ((lg_cmp_gt _ _).mpr (i64_lt.mpr q)))]) rfl

theorem c_X6_in_lt (l : Launch) (E : Ev) {g : IG} {o : Option Nat} {z : Int64} (x : Int32) : Ct l E 115 yX6_in cX6_in 6 (some .boolean) 1 [.long x.toInt64, .long ((97 : Int32)).toInt64, .long ((122 : Int32)).toInt64] g (RFo o) z (Zi (RFo o) z (isLt x) g) := c_X6_in l E x 97 122
theorem c_X6_in_dg (l : Launch) (E : Ev) {g : IG} {o : Option Nat} {z : Int64} (x : Int32) : Ct l E 115 yX6_in cX6_in 6 (some .boolean) 1 [.long x.toInt64, .long ((48 : Int32)).toInt64, .long ((57 : Int32)).toInt64] g (RFo o) z (Zi (RFo o) z (isDg x) g) := c_X6_in l E x 48 57

set_option maxHeartbeats 1000000 in
set_option maxRecDepth 20000 in
theorem c_X6_within (l : Launch) (E : Ev) {g : IG} {o : Option Nat} {z : Int64} (x lo hi : Int32) : Ct l E 115 yX6_within cX6_within 3 (some .int) 1 [.int x, .int lo, .int hi] g (RFo o) z (Zi (RFo o) z (witF lo hi x) g) := by
  refine Ct.of (lv0 := [(0, .int x), (1, .int lo), (2, .int hi)]) (by decide) (Nat.le_of_ble_eq_true rfl) rfl ?_
  intro p e s m below meth c cx
  refine go_iload_n (pc' := 1) cx dX6_within_0 rfl rfl ?_
  refine go_iload_n (pc' := 2) cx dX6_within_1 rfl rfl ?_
  refine go_icmp_ge (pc' := 5) cx 9 dX6_within_2 rfl rfl (fun c2 => ?_) (fun c2 => ?_)
  · have c2n := Int32.not_lt.mpr c2
    refine go_iload_n (pc' := 10) cx dX6_within_9 rfl rfl ?_
    refine go_iload_n (pc' := 11) cx dX6_within_10 rfl rfl ?_
    refine go_icmp_le (pc' := 14) cx 18 dX6_within_11 rfl rfl (fun c11 => ?_) (fun c11 => ?_)
    · have c11n := Int32.not_lt.mpr c11
      refine go_iload_n (pc' := 19) cx dX6_within_18 rfl rfl ?_
      refine go_iret cx rfl dX6_within_19 ?_
      exact Zi.mk (by first | (simp [witF, c2, c2n, c11, c11n]; done) | (simp_all [witF, c2, c2n, c11, c11n]; done)) rfl
    · have c11n := Int32.not_le.mp c11
      refine go_iload_n (pc' := 15) cx dX6_within_14 rfl rfl ?_
      refine go_goto cx 19 dX6_within_15 rfl ?_
      refine go_iret cx rfl dX6_within_19 ?_
      exact Zi.mk (by first | (simp [witF, c2, c2n, c11, c11n]; done) | (simp_all [witF, c2, c2n, c11, c11n]; done)) rfl
  · have c2n := Int32.not_le.mp c2
    refine go_iload_n (pc' := 6) cx dX6_within_5 rfl rfl ?_
    refine go_goto cx 19 dX6_within_6 rfl ?_
    refine go_iret cx rfl dX6_within_19 ?_
    exact Zi.mk (by first | (simp [witF, c2, c2n]; done) | (simp_all [witF, c2, c2n]; done)) rfl

set_option maxHeartbeats 1000000 in
set_option maxRecDepth 20000 in
theorem c_X6_plain (l : Launch) (E : Ev) {g : IG} {o : Option Nat} {z : Int64} (x : Int32) : Ct l E 115 yX6_plain cX6_plain 1 (some .int) 1 [.int x] g (RFo o) z (Zi (RFo o) z (plnF x) g) := by
  refine Ct.of (lv0 := [(0, .int x)]) (by decide) (Nat.le_of_ble_eq_true rfl) rfl ?_
  intro p e s m below meth c cx
  refine go_iload_n (pc' := 1) cx dX6_plain_0 rfl rfl ?_
  refine go_if_ge (pc' := 4) cx 9 dX6_plain_1 rfl rfl (fun c1 => ?_) (fun c1 => ?_)
  · have c1n := Int32.not_lt.mpr c1
    refine go_iload_n (pc' := 10) cx dX6_plain_9 rfl rfl ?_
    refine go_iret cx rfl dX6_plain_10 ?_
    exact Zi.mk (by first | (simp [plnF, c1, c1n]; done) | (simp_all [plnF, c1, c1n]; done)) rfl
  · have c1n := Int32.not_le.mp c1
    refine go_iload_n (pc' := 5) cx dX6_plain_4 rfl rfl ?_
    refine go_ineg (pc' := 6) cx dX6_plain_5 rfl ?_
    refine go_goto cx 10 dX6_plain_6 rfl ?_
    refine go_iret cx rfl dX6_plain_10 ?_
    exact Zi.mk (by first | (simp [plnF, c1, c1n]; done) | (simp_all [plnF, c1, c1n]; done)) rfl

set_option maxHeartbeats 1000000 in
set_option maxRecDepth 20000 in
theorem c_X6_byteAt_i (l : Launch) (E : Ev) {g : IG} {o : Option Nat} {z : Int64} {fr sz : Nat} {R : Nat → Int32} (hfr : fr ≤ 800) (hsz : sz ≤ 160) (h26 : g 88 26 = nI fr) (h27 : g 88 27 = nI sz) (h89 : g 89 = R) {i : Nat} (hi : i < sz) : Ct l E 115 yX6_byteAt cX6_byteAt 2 (some .int) 1 [.ref (E.2.1 88), .int (nI i)] g (RFo o) z (Zi (RFo o) z (R (fr + i)) g) := by
  refine Ct.of (lv0 := [(0, .ref (E.2.1 88)), (1, .int (nI i))]) (by decide) (Nat.le_of_ble_eq_true rfl) rfl ?_
  intro p e s m below meth c cx
  refine go_iload_n (pc' := 1) cx dX6_byteAt_0 rfl rfl ?_
  refine go_aload_n (pc' := 2) cx dX6_byteAt_1 rfl rfl ?_
  refine go_geti (pc' := 5) cx (nI sz) fX6_159 dX6_byteAt_2 kq88 (ltn rfl) (ltn rfl) rfl h27 rfl ?_
  refine go_icmp_ge (pc' := 8) cx 22 dX6_byteAt_5 rfl rfl (fun hh => absurd ((nI_leI (a := sz) (b := i) (by omega) (by omega)).mp hh) (by omega)) (fun _ => ?_)
  refine go_aload_n (pc' := 9) cx dX6_byteAt_8 rfl rfl ?_
  refine go_getr (pc' := 12) cx 89 fX6_13 dX6_byteAt_9 kq88 (ltn rfl) (ltn rfl) rfl rfl rfl ?_
  refine go_aload_n (pc' := 13) cx dX6_byteAt_12 rfl rfl ?_
  refine go_geti (pc' := 16) cx (nI fr) fX6_162 dX6_byteAt_13 kq88 (ltn rfl) (ltn rfl) rfl h26 rfl ?_
  refine go_iload_n (pc' := 17) cx dX6_byteAt_16 rfl rfl ?_
  refine go_iadd (pc' := 18) cx dX6_byteAt_17 rfl ?_
  refine go_val (w := .int (nI (fr + i))) (congrArg Value.int (nI_add fr i)) ?_
  refine go_iald (pc' := 19) cx (R (fr + i)) dX6_byteAt_18 kq89 (ltn rfl) (vpi (k := (fr + i)) (a := 960) (by omega) rfl rfl) ((congrArg (g 89) (cli (k := (fr + i)) (a := 960) (by omega) rfl)).trans (congrFun h89 (fr + i))) rfl ?_
  refine go_goto cx 23 dX6_byteAt_19 rfl ?_
  refine go_iret cx rfl dX6_byteAt_23 ?_
  exact Zi.mk rfl rfl

set_option maxHeartbeats 1000000 in
set_option maxRecDepth 20000 in
theorem c_X6_byteAt_o (l : Launch) (E : Ev) {g : IG} {o : Option Nat} {z : Int64} {fr sz : Nat} {R : Nat → Int32} (hfr : fr ≤ 800) (hsz : sz ≤ 160) (h26 : g 88 26 = nI fr) (h27 : g 88 27 = nI sz) (h89 : g 89 = R) {i : Nat} (hi : sz ≤ i) (hi2 : i < 2 ^ 31 := by omega) : Ct l E 115 yX6_byteAt cX6_byteAt 2 (some .int) 1 [.ref (E.2.1 88), .int (nI i)] g (RFo o) z (Zi (RFo o) z (-1) g) := by
  refine Ct.of (lv0 := [(0, .ref (E.2.1 88)), (1, .int (nI i))]) (by decide) (Nat.le_of_ble_eq_true rfl) rfl ?_
  intro p e s m below meth c cx
  refine go_iload_n (pc' := 1) cx dX6_byteAt_0 rfl rfl ?_
  refine go_aload_n (pc' := 2) cx dX6_byteAt_1 rfl rfl ?_
  refine go_geti (pc' := 5) cx (nI sz) fX6_159 dX6_byteAt_2 kq88 (ltn rfl) (ltn rfl) rfl h27 rfl ?_
  refine go_icmp_ge (pc' := 8) cx 22 dX6_byteAt_5 rfl rfl (fun _ => ?_) (fun hh => absurd ((nI_leI (a := sz) (b := i) (by omega) (by omega)).mpr hi) hh)
  refine go_iconst (pc' := 23) cx (-1) dX6_byteAt_22 rfl rfl ?_
  refine go_iret cx rfl dX6_byteAt_23 ?_
  exact Zi.mk rfl rfl

set_option maxHeartbeats 1000000 in
set_option maxRecDepth 20000 in
theorem nx_loop {l : Launch} {E : Ev} {Z : ZT} {G : IG} {o : Option Nat} {z : Int64} {p : Program} {e : Env} {s : State} {m : MethodId} {args : Array Value} {below : List Frame} {meth : Method} {c : Code} {fr sz : Nat} {R : Nat → Int32} (hfr : fr ≤ 800) (hsz : sz ≤ 160) (h26 : G 88 26 = nI fr) (h27 : G 88 27 = nI sz) (h89 : G 89 = R)  (cx : Cx p s m args meth c E 115 cX6_next 3 yX6_next.cls none) : ∀ (k a : Nat), a + k = sz → (Go p l e (rmd 3) s m args below meth c E 115 3 Z (up2 G 88 28 (nI (skB (mT R fr) k a))) (RFo o) z 39 [(0, .ref (E.2.1 88))] []) → Go p l e (rmd 3) s m args below meth c E 115 3 Z (up2 G 88 28 (nI a)) (RFo o) z 0 [(0, .ref (E.2.1 88))] [] := by
  intro k
  induction k with
  | zero =>
    intro a hk kk
    refine go_aload_n (pc' := 1) cx dX6_next_0 rfl rfl ?_
    refine go_aload_n (pc' := 2) cx dX6_next_1 rfl rfl ?_
    refine go_geti (pc' := 5) cx (nI a) fX6_165 dX6_next_2 kq88 (ltn rfl) (ltn rfl) rfl (up2_s G 88 28 (nI a)) rfl ?_
    refine go_cVi (pc' := 8) cx (c_X6_byteAt_o l E (g := (up2 G 88 28 (nI a))) (fr := fr) (sz := sz) (R := R) hfr hsz ((up2_n G (nI a) (Or.inr (Nat.ne_of_beq_eq_false rfl))).trans h26) ((up2_n G (nI a) (Or.inr (Nat.ne_of_beq_eq_false rfl))).trans h27) h89 (i := a) (by omega)) mX6_byteAt lX6_168 dX6_next_5 kq88 (ltn rfl) (ltn rfl) rfl rfl rfl rfl (ltn rfl) (Nat.le_of_ble_eq_true rfl) (Nat.le_of_ble_eq_true rfl) rfl ?_
    refine go_bipush (pc' := 10) cx 32 dX6_next_8 rfl rfl ?_
    refine go_icmp_eq (pc' := 13) cx 26 dX6_next_10 rfl rfl (fun hh => absurd hh (by decide)) (fun _ => ?_)
    refine go_aload_n (pc' := 14) cx dX6_next_13 rfl rfl ?_
    refine go_aload_n (pc' := 15) cx dX6_next_14 rfl rfl ?_
    refine go_geti (pc' := 18) cx (nI a) fX6_165 dX6_next_15 kq88 (ltn rfl) (ltn rfl) rfl (up2_s G 88 28 (nI a)) rfl ?_
    refine go_cVi (pc' := 21) cx (c_X6_byteAt_o l E (g := (up2 G 88 28 (nI a))) (fr := fr) (sz := sz) (R := R) hfr hsz ((up2_n G (nI a) (Or.inr (Nat.ne_of_beq_eq_false rfl))).trans h26) ((up2_n G (nI a) (Or.inr (Nat.ne_of_beq_eq_false rfl))).trans h27) h89 (i := a) (by omega)) mX6_byteAt lX6_168 dX6_next_18 kq88 (ltn rfl) (ltn rfl) rfl rfl rfl rfl (ltn rfl) (Nat.le_of_ble_eq_true rfl) (Nat.le_of_ble_eq_true rfl) rfl ?_
    refine go_bipush (pc' := 23) cx 10 dX6_next_21 rfl rfl ?_
    refine go_icmp_ne (pc' := 26) cx 39 dX6_next_23 rfl rfl (fun _ => ?_) (fun hh => absurd hh (by decide))
    exact kk
  | succ k ih =>
    intro a hk kk
    refine go_aload_n (pc' := 1) cx dX6_next_0 rfl rfl ?_
    refine go_aload_n (pc' := 2) cx dX6_next_1 rfl rfl ?_
    refine go_geti (pc' := 5) cx (nI a) fX6_165 dX6_next_2 kq88 (ltn rfl) (ltn rfl) rfl (up2_s G 88 28 (nI a)) rfl ?_
    refine go_cVi (pc' := 8) cx (c_X6_byteAt_i l E (g := (up2 G 88 28 (nI a))) (fr := fr) (sz := sz) (R := R) hfr hsz ((up2_n G (nI a) (Or.inr (Nat.ne_of_beq_eq_false rfl))).trans h26) ((up2_n G (nI a) (Or.inr (Nat.ne_of_beq_eq_false rfl))).trans h27) h89 (i := a) (by omega)) mX6_byteAt lX6_168 dX6_next_5 kq88 (ltn rfl) (ltn rfl) rfl rfl rfl rfl (ltn rfl) (Nat.le_of_ble_eq_true rfl) (Nat.le_of_ble_eq_true rfl) rfl ?_
    refine go_bipush (pc' := 10) cx 32 dX6_next_8 rfl rfl ?_
    refine go_icmp_eq (pc' := 13) cx 26 dX6_next_10 rfl rfl (fun c10 => ?_) (fun c10 => ?_)
    · refine go_aload_n (pc' := 27) cx dX6_next_26 rfl rfl ?_
      refine go_dup (pc' := 28) cx rfl dX6_next_27 rfl ?_
      refine go_geti (pc' := 31) cx (nI a) fX6_165 dX6_next_28 kq88 (ltn rfl) (ltn rfl) rfl (up2_s G 88 28 (nI a)) rfl ?_
      refine go_iconst (pc' := 32) cx 1 dX6_next_31 rfl rfl ?_
      refine go_iadd (pc' := 33) cx dX6_next_32 rfl ?_
      refine go_val (w := .int (nI (a + 1))) (congrArg Value.int (nI_add a 1)) ?_
      refine go_puti (pc' := 36) cx fX6_165 dX6_next_33 kq88 (ltn rfl) (ltn rfl) rfl rfl rfl rfl ?_
      refine go_g here2 ?_
      refine go_goto cx 0 dX6_next_36 rfl ?_
      have h9 : skB (mT R fr) (k + 1) a = skB (mT R fr) k (a + 1) := if_pos c10
      rw [h9] at kk
      exact ih (a + 1) (by omega) kk
    · refine go_aload_n (pc' := 14) cx dX6_next_13 rfl rfl ?_
      refine go_aload_n (pc' := 15) cx dX6_next_14 rfl rfl ?_
      refine go_geti (pc' := 18) cx (nI a) fX6_165 dX6_next_15 kq88 (ltn rfl) (ltn rfl) rfl (up2_s G 88 28 (nI a)) rfl ?_
      refine go_cVi (pc' := 21) cx (c_X6_byteAt_i l E (g := (up2 G 88 28 (nI a))) (fr := fr) (sz := sz) (R := R) hfr hsz ((up2_n G (nI a) (Or.inr (Nat.ne_of_beq_eq_false rfl))).trans h26) ((up2_n G (nI a) (Or.inr (Nat.ne_of_beq_eq_false rfl))).trans h27) h89 (i := a) (by omega)) mX6_byteAt lX6_168 dX6_next_18 kq88 (ltn rfl) (ltn rfl) rfl rfl rfl rfl (ltn rfl) (Nat.le_of_ble_eq_true rfl) (Nat.le_of_ble_eq_true rfl) rfl ?_
      refine go_bipush (pc' := 23) cx 10 dX6_next_21 rfl rfl ?_
      refine go_icmp_ne (pc' := 26) cx 39 dX6_next_23 rfl rfl (fun c23 => ?_) (fun c23 => ?_)
      · have h9 : skB (mT R fr) (k + 1) a = a := (if_neg c10).trans (if_neg c23)
        rw [h9] at kk
        exact kk
      · refine go_aload_n (pc' := 27) cx dX6_next_26 rfl rfl ?_
        refine go_dup (pc' := 28) cx rfl dX6_next_27 rfl ?_
        refine go_geti (pc' := 31) cx (nI a) fX6_165 dX6_next_28 kq88 (ltn rfl) (ltn rfl) rfl (up2_s G 88 28 (nI a)) rfl ?_
        refine go_iconst (pc' := 32) cx 1 dX6_next_31 rfl rfl ?_
        refine go_iadd (pc' := 33) cx dX6_next_32 rfl ?_
        refine go_val (w := .int (nI (a + 1))) (congrArg Value.int (nI_add a 1)) ?_
        refine go_puti (pc' := 36) cx fX6_165 dX6_next_33 kq88 (ltn rfl) (ltn rfl) rfl rfl rfl rfl ?_
        refine go_g here2 ?_
        refine go_goto cx 0 dX6_next_36 rfl ?_
        have h9 : skB (mT R fr) (k + 1) a = skB (mT R fr) k (a + 1) := (if_neg c10).trans (if_pos c23)
        rw [h9] at kk
        exact ih (a + 1) (by omega) kk

set_option maxHeartbeats 1000000 in
set_option maxRecDepth 20000 in
theorem lt_loop {l : Launch} {E : Ev} {Z : ZT} {G : IG} {o : Option Nat} {z : Int64} {p : Program} {e : Env} {s : State} {m : MethodId} {args : Array Value} {below : List Frame} {meth : Method} {c : Code} {fr sz : Nat} {R : Nat → Int32} (hfr : fr ≤ 800) (hsz : sz ≤ 160) (h26 : G 88 26 = nI fr) (h27 : G 88 27 = nI sz) (h89 : G 89 = R) (b1 : Int32) (cx : Cx p s m args meth c E 115 cX6_next 3 yX6_next.cls none) : ∀ (k a : Nat), a + k = sz → (Go p l e (rmd 3) s m args below meth c E 115 3 Z (up2 G 88 28 (nI (skL (mT R fr) k a))) (RFo o) z 321 [(0, .ref (E.2.1 88)), (1, .int b1)] []) → Go p l e (rmd 3) s m args below meth c E 115 3 Z (up2 G 88 28 (nI a)) (RFo o) z 100 [(0, .ref (E.2.1 88)), (1, .int b1)] [] := by
  intro k
  induction k with
  | zero =>
    intro a hk kk
    refine go_aload_n (pc' := 101) cx dX6_next_100 rfl rfl ?_
    refine go_aload_n (pc' := 102) cx dX6_next_101 rfl rfl ?_
    refine go_geti (pc' := 105) cx (nI a) fX6_165 dX6_next_102 kq88 (ltn rfl) (ltn rfl) rfl (up2_s G 88 28 (nI a)) rfl ?_
    refine go_cVi (pc' := 108) cx (c_X6_byteAt_o l E (g := (up2 G 88 28 (nI a))) (fr := fr) (sz := sz) (R := R) hfr hsz ((up2_n G (nI a) (Or.inr (Nat.ne_of_beq_eq_false rfl))).trans h26) ((up2_n G (nI a) (Or.inr (Nat.ne_of_beq_eq_false rfl))).trans h27) h89 (i := a) (by omega)) mX6_byteAt lX6_168 dX6_next_105 kq88 (ltn rfl) (ltn rfl) rfl rfl rfl rfl (ltn rfl) (Nat.le_of_ble_eq_true rfl) (Nat.le_of_ble_eq_true rfl) rfl ?_
    refine go_i2l (pc' := 109) cx dX6_next_108 rfl ?_
    refine go_ldc2 (pc' := 112) cx 97 kX6_178 dX6_next_109 rfl ?_
    refine go_val (w := .long (((97 : Int32)).toInt64)) (congrArg Value.long (by decide)) ?_
    refine go_ldc2 (pc' := 115) cx 122 kX6_180 dX6_next_112 rfl ?_
    refine go_val (w := .long (((122 : Int32)).toInt64)) (congrArg Value.long (by decide)) ?_
    refine go_cSi (pc' := 118) cx (c_X6_in_lt l E (g := (up2 G 88 28 (nI a))) (-1)) mX6_in lX6_108 dX6_next_115 rfl rfl rfl (ltn rfl) (Nat.le_of_ble_eq_true rfl) (Nat.le_of_ble_eq_true rfl) rfl ?_
    refine go_if_eq (pc' := 121) cx 321 dX6_next_118 rfl rfl (fun _ => ?_) (fun hh => absurd (by decide) hh)
    exact kk
  | succ k ih =>
    intro a hk kk
    refine go_aload_n (pc' := 101) cx dX6_next_100 rfl rfl ?_
    refine go_aload_n (pc' := 102) cx dX6_next_101 rfl rfl ?_
    refine go_geti (pc' := 105) cx (nI a) fX6_165 dX6_next_102 kq88 (ltn rfl) (ltn rfl) rfl (up2_s G 88 28 (nI a)) rfl ?_
    refine go_cVi (pc' := 108) cx (c_X6_byteAt_i l E (g := (up2 G 88 28 (nI a))) (fr := fr) (sz := sz) (R := R) hfr hsz ((up2_n G (nI a) (Or.inr (Nat.ne_of_beq_eq_false rfl))).trans h26) ((up2_n G (nI a) (Or.inr (Nat.ne_of_beq_eq_false rfl))).trans h27) h89 (i := a) (by omega)) mX6_byteAt lX6_168 dX6_next_105 kq88 (ltn rfl) (ltn rfl) rfl rfl rfl rfl (ltn rfl) (Nat.le_of_ble_eq_true rfl) (Nat.le_of_ble_eq_true rfl) rfl ?_
    refine go_i2l (pc' := 109) cx dX6_next_108 rfl ?_
    refine go_ldc2 (pc' := 112) cx 97 kX6_178 dX6_next_109 rfl ?_
    refine go_val (w := .long (((97 : Int32)).toInt64)) (congrArg Value.long (by decide)) ?_
    refine go_ldc2 (pc' := 115) cx 122 kX6_180 dX6_next_112 rfl ?_
    refine go_val (w := .long (((122 : Int32)).toInt64)) (congrArg Value.long (by decide)) ?_
    refine go_cSi (pc' := 118) cx (c_X6_in_lt l E (g := (up2 G 88 28 (nI a))) (R (fr + a))) mX6_in lX6_108 dX6_next_115 rfl rfl rfl (ltn rfl) (Nat.le_of_ble_eq_true rfl) (Nat.le_of_ble_eq_true rfl) rfl ?_
    refine go_if_eq (pc' := 121) cx 321 dX6_next_118 rfl rfl (fun c118 => ?_) (fun c118 => ?_)
    · have h9 : skL (mT R fr) (k + 1) a = a := if_pos c118
      rw [h9] at kk
      exact kk
    · refine go_aload_n (pc' := 122) cx dX6_next_121 rfl rfl ?_
      refine go_dup (pc' := 123) cx rfl dX6_next_122 rfl ?_
      refine go_geti (pc' := 126) cx (nI a) fX6_165 dX6_next_123 kq88 (ltn rfl) (ltn rfl) rfl (up2_s G 88 28 (nI a)) rfl ?_
      refine go_iconst (pc' := 127) cx 1 dX6_next_126 rfl rfl ?_
      refine go_iadd (pc' := 128) cx dX6_next_127 rfl ?_
      refine go_val (w := .int (nI (a + 1))) (congrArg Value.int (nI_add a 1)) ?_
      refine go_puti (pc' := 131) cx fX6_165 dX6_next_128 kq88 (ltn rfl) (ltn rfl) rfl rfl rfl rfl ?_
      refine go_g here2 ?_
      refine go_goto cx 100 dX6_next_131 rfl ?_
      have h9 : skL (mT R fr) (k + 1) a = skL (mT R fr) k (a + 1) := if_neg c118
      rw [h9] at kk
      exact ih (a + 1) (by omega) kk

theorem lm_step {w d : Nat} (hd : d ≤ 9) : ((10 : Int32)).toInt64 * lN w + (nI (48 + d)).toInt64 - ((48 : Int32)).toInt64 = lN (10 * w + d) := by
  rw [nI_l (by omega), show ((10 : Int32)).toInt64 = lN 10 by decide, show ((48 : Int32)).toInt64 = lN 48 by decide, lN_mul, lN_add, lN_sub (by omega), show 10 * w + (48 + d) - 48 = 10 * w + d by omega]

set_option maxHeartbeats 1000000 in
set_option maxRecDepth 20000 in
theorem dg_loop {l : Launch} {E : Ev} {Z : ZT} {G : IG} {o : Option Nat} {p : Program} {e : Env} {s : State} {m : MethodId} {args : Array Value} {below : List Frame} {meth : Method} {c : Code} {fr sz : Nat} {R : Nat → Int32} (hfr : fr ≤ 800) (hsz : sz ≤ 160) (h26 : G 88 26 = nI fr) (h27 : G 88 27 = nI sz) (h89 : G 89 = R) {s0 : Nat} (b1 : Int32) (cx : Cx p s m args meth c E 115 cX6_next 3 yX6_next.cls none) : ∀ (k a : Nat) (v : Int32) (z : Int64), a + k = sz → s0 ≤ a → (a - s0 ≤ 4 → ∃ w, w < 10 ^ (a - s0) ∧ v = nI w ∧ z = lN w) → (∀ z', ((nmF (mT R fr) k a v).1 - s0 ≤ 4 → z' = (nmF (mT R fr) k a v).2.toInt64) → Go p l e (rmd 3) s m args below meth c E 115 3 Z (up2 G 88 28 (nI ((nmF (mT R fr) k a v).1))) (RFo o) z' 235 [(2, .int (nI ((nmF (mT R fr) k a v).1 - s0))), (0, .ref (E.2.1 88)), (1, .int b1)] []) → Go p l e (rmd 3) s m args below meth c E 115 3 Z (up2 G 88 28 (nI a)) (RFo o) z 160 [(2, .int (nI (a - s0))), (0, .ref (E.2.1 88)), (1, .int b1)] [] := by
  intro k
  induction k with
  | zero =>
    intro a v z hk hs hz kk
    refine go_aload_n (pc' := 161) cx dX6_next_160 rfl rfl ?_
    refine go_aload_n (pc' := 162) cx dX6_next_161 rfl rfl ?_
    refine go_geti (pc' := 165) cx (nI a) fX6_165 dX6_next_162 kq88 (ltn rfl) (ltn rfl) rfl (up2_s G 88 28 (nI a)) rfl ?_
    refine go_cVi (pc' := 168) cx (c_X6_byteAt_o l E (g := (up2 G 88 28 (nI a))) (fr := fr) (sz := sz) (R := R) hfr hsz ((up2_n G (nI a) (Or.inr (Nat.ne_of_beq_eq_false rfl))).trans h26) ((up2_n G (nI a) (Or.inr (Nat.ne_of_beq_eq_false rfl))).trans h27) h89 (i := a) (by omega)) mX6_byteAt lX6_168 dX6_next_165 kq88 (ltn rfl) (ltn rfl) rfl rfl rfl rfl (ltn rfl) (Nat.le_of_ble_eq_true rfl) (Nat.le_of_ble_eq_true rfl) rfl ?_
    refine go_i2l (pc' := 169) cx dX6_next_168 rfl ?_
    refine go_ldc2 (pc' := 172) cx 48 kX6_182 dX6_next_169 rfl ?_
    refine go_val (w := .long (((48 : Int32)).toInt64)) (congrArg Value.long (by decide)) ?_
    refine go_ldc2 (pc' := 175) cx 57 kX6_184 dX6_next_172 rfl ?_
    refine go_val (w := .long (((57 : Int32)).toInt64)) (congrArg Value.long (by decide)) ?_
    refine go_cSi (pc' := 178) cx (c_X6_in_dg l E (g := (up2 G 88 28 (nI a))) (-1)) mX6_in lX6_108 dX6_next_175 rfl rfl rfl (ltn rfl) (Nat.le_of_ble_eq_true rfl) (Nat.le_of_ble_eq_true rfl) rfl ?_
    refine go_if_eq (pc' := 181) cx 235 dX6_next_178 rfl rfl (fun _ => ?_) (fun hh => absurd (by decide) hh)
    refine kk z (fun q => ?_)
    obtain ⟨w, hw, ew, ez⟩ := hz q
    show z = v.toInt64
    rw [ez, ew]
    exact (nI_l (by have : 10 ^ (a - s0) ≤ 10 ^ 4 := Nat.pow_le_pow_right (by omega) q
                    omega)).symm
  | succ k ih =>
    intro a v z hk hs hz kk
    refine go_aload_n (pc' := 161) cx dX6_next_160 rfl rfl ?_
    refine go_aload_n (pc' := 162) cx dX6_next_161 rfl rfl ?_
    refine go_geti (pc' := 165) cx (nI a) fX6_165 dX6_next_162 kq88 (ltn rfl) (ltn rfl) rfl (up2_s G 88 28 (nI a)) rfl ?_
    refine go_cVi (pc' := 168) cx (c_X6_byteAt_i l E (g := (up2 G 88 28 (nI a))) (fr := fr) (sz := sz) (R := R) hfr hsz ((up2_n G (nI a) (Or.inr (Nat.ne_of_beq_eq_false rfl))).trans h26) ((up2_n G (nI a) (Or.inr (Nat.ne_of_beq_eq_false rfl))).trans h27) h89 (i := a) (by omega)) mX6_byteAt lX6_168 dX6_next_165 kq88 (ltn rfl) (ltn rfl) rfl rfl rfl rfl (ltn rfl) (Nat.le_of_ble_eq_true rfl) (Nat.le_of_ble_eq_true rfl) rfl ?_
    refine go_i2l (pc' := 169) cx dX6_next_168 rfl ?_
    refine go_ldc2 (pc' := 172) cx 48 kX6_182 dX6_next_169 rfl ?_
    refine go_val (w := .long (((48 : Int32)).toInt64)) (congrArg Value.long (by decide)) ?_
    refine go_ldc2 (pc' := 175) cx 57 kX6_184 dX6_next_172 rfl ?_
    refine go_val (w := .long (((57 : Int32)).toInt64)) (congrArg Value.long (by decide)) ?_
    refine go_cSi (pc' := 178) cx (c_X6_in_dg l E (g := (up2 G 88 28 (nI a))) (R (fr + a))) mX6_in lX6_108 dX6_next_175 rfl rfl rfl (ltn rfl) (Nat.le_of_ble_eq_true rfl) (Nat.le_of_ble_eq_true rfl) rfl ?_
    refine go_if_eq (pc' := 181) cx 235 dX6_next_178 rfl rfl (fun c178 => ?_) (fun c178 => ?_)
    · have h9 : nmF (mT R fr) (k + 1) a v = (a, v) := if_pos c178
      rw [h9] at kk
      refine kk z (fun q => ?_)
      obtain ⟨w, hw, ew, ez⟩ := hz q
      show z = v.toInt64
      rw [ez, ew]
      exact (nI_l (by have : 10 ^ (a - s0) ≤ 10 ^ 4 := Nat.pow_le_pow_right (by omega) q
                      omega)).symm
    · refine go_aload_n (pc' := 182) cx dX6_next_181 rfl rfl ?_
      refine go_iload_n (pc' := 183) cx dX6_next_182 rfl rfl ?_
      refine go_iconst (pc' := 184) cx 4 dX6_next_183 rfl rfl ?_
      refine go_icmp_ge (pc' := 187) cx 212 dX6_next_184 rfl rfl (fun c184 => ?_) (fun c184 => ?_)
      · have c184 := (nI_leI (a := 4) (b := (a - s0)) (by omega) (by omega)).mp c184
        refine go_aload_n (pc' := 213) cx dX6_next_212 rfl rfl ?_
        refine go_getl (N := 56) (pc' := 216) cx fX6_186 dX6_next_213 (ltn rfl) rfl ?_
        refine go_putl (pc' := 219) cx fX6_186 dX6_next_216 (ltn rfl) (Nat.le_of_ble_eq_true rfl) rfl ?_
        refine go_iinc (pc' := 222) cx (nI ((a - s0) + 1)) dX6_next_219 rfl (nI_1 (a - s0)) (ltn rfl) [(2, .int (nI ((a - s0) + 1))), (0, .ref (E.2.1 88)), (1, .int b1)] rfl rfl ?_
        refine go_aload_n (pc' := 223) cx dX6_next_222 rfl rfl ?_
        refine go_dup (pc' := 224) cx rfl dX6_next_223 rfl ?_
        refine go_geti (pc' := 227) cx (nI a) fX6_165 dX6_next_224 kq88 (ltn rfl) (ltn rfl) rfl (up2_s G 88 28 (nI a)) rfl ?_
        refine go_iconst (pc' := 228) cx 1 dX6_next_227 rfl rfl ?_
        refine go_iadd (pc' := 229) cx dX6_next_228 rfl ?_
        refine go_val (w := .int (nI (a + 1))) (congrArg Value.int (nI_add a 1)) ?_
        refine go_puti (pc' := 232) cx fX6_165 dX6_next_229 kq88 (ltn rfl) (ltn rfl) rfl rfl rfl rfl ?_
        refine go_g here2 ?_
        refine go_goto cx 160 dX6_next_232 rfl ?_
        have h9 : nmF (mT R fr) (k + 1) a v = nmF (mT R fr) k (a + 1) (10 * v + R (fr + a) - 48) := if_neg c178
        rw [h9] at kk
        refine go_sub [0, 1, 2] [(2, .int (nI (a + 1 - s0))), (0, .ref (E.2.1 88)), (1, .int b1)] (by rw [show a + 1 - s0 = a - s0 + 1 by omega]; rfl) ?_
        obtain ⟨dd, hdd, edd⟩ := dg_ok c178
        refine ih (a + 1) _ _ (by omega) (by omega) (fun q => ?_) kk
        obtain ⟨w, hw, ew, ez⟩ := hz (by omega)
        refine ⟨10 * w + dd, by rw [show a + 1 - s0 = a - s0 + 1 by omega, Nat.pow_succ]; omega, ?_, ?_⟩
        · rw [ew, edd]
          exact nm_step
        · first | (exfalso; omega) | (rw [ez, edd]; exact lm_step (by omega))
      · have c184 : ¬ 4 ≤ (a - s0) := fun q9 => c184 ((nI_leI (a := 4) (b := (a - s0)) (by omega) (by omega)).mpr q9)
        refine go_ldc2 (pc' := 190) cx 10 kX6_152 dX6_next_187 rfl ?_
        refine go_val (w := .long (((10 : Int32)).toInt64)) (congrArg Value.long (by decide)) ?_
        refine go_aload_n (pc' := 191) cx dX6_next_190 rfl rfl ?_
        refine go_getl (N := 56) (pc' := 194) cx fX6_186 dX6_next_191 (ltn rfl) rfl ?_
        refine go_lmul (pc' := 195) cx dX6_next_194 rfl ?_
        refine go_aload_n (pc' := 196) cx dX6_next_195 rfl rfl ?_
        refine go_aload_n (pc' := 197) cx dX6_next_196 rfl rfl ?_
        refine go_geti (pc' := 200) cx (nI a) fX6_165 dX6_next_197 kq88 (ltn rfl) (ltn rfl) rfl (up2_s G 88 28 (nI a)) rfl ?_
        refine go_cVi (pc' := 203) cx (c_X6_byteAt_i l E (g := (up2 G 88 28 (nI a))) (fr := fr) (sz := sz) (R := R) hfr hsz ((up2_n G (nI a) (Or.inr (Nat.ne_of_beq_eq_false rfl))).trans h26) ((up2_n G (nI a) (Or.inr (Nat.ne_of_beq_eq_false rfl))).trans h27) h89 (i := a) (by omega)) mX6_byteAt lX6_168 dX6_next_200 kq88 (ltn rfl) (ltn rfl) rfl rfl rfl rfl (ltn rfl) (Nat.le_of_ble_eq_true rfl) (Nat.le_of_ble_eq_true rfl) rfl ?_
        refine go_i2l (pc' := 204) cx dX6_next_203 rfl ?_
        refine go_ladd (pc' := 205) cx dX6_next_204 rfl ?_
        refine go_ldc2 (pc' := 208) cx 48 kX6_182 dX6_next_205 rfl ?_
        refine go_val (w := .long (((48 : Int32)).toInt64)) (congrArg Value.long (by decide)) ?_
        refine go_lsub (pc' := 209) cx dX6_next_208 rfl ?_
        refine go_goto cx 216 dX6_next_209 rfl ?_
        refine go_putl (pc' := 219) cx fX6_186 dX6_next_216 (ltn rfl) (Nat.le_of_ble_eq_true rfl) rfl ?_
        refine go_iinc (pc' := 222) cx (nI ((a - s0) + 1)) dX6_next_219 rfl (nI_1 (a - s0)) (ltn rfl) [(2, .int (nI ((a - s0) + 1))), (0, .ref (E.2.1 88)), (1, .int b1)] rfl rfl ?_
        refine go_aload_n (pc' := 223) cx dX6_next_222 rfl rfl ?_
        refine go_dup (pc' := 224) cx rfl dX6_next_223 rfl ?_
        refine go_geti (pc' := 227) cx (nI a) fX6_165 dX6_next_224 kq88 (ltn rfl) (ltn rfl) rfl (up2_s G 88 28 (nI a)) rfl ?_
        refine go_iconst (pc' := 228) cx 1 dX6_next_227 rfl rfl ?_
        refine go_iadd (pc' := 229) cx dX6_next_228 rfl ?_
        refine go_val (w := .int (nI (a + 1))) (congrArg Value.int (nI_add a 1)) ?_
        refine go_puti (pc' := 232) cx fX6_165 dX6_next_229 kq88 (ltn rfl) (ltn rfl) rfl rfl rfl rfl ?_
        refine go_g here2 ?_
        refine go_goto cx 160 dX6_next_232 rfl ?_
        have h9 : nmF (mT R fr) (k + 1) a v = nmF (mT R fr) k (a + 1) (10 * v + R (fr + a) - 48) := if_neg c178
        rw [h9] at kk
        refine go_sub [0, 1, 2] [(2, .int (nI (a + 1 - s0))), (0, .ref (E.2.1 88)), (1, .int b1)] (by rw [show a + 1 - s0 = a - s0 + 1 by omega]; rfl) ?_
        obtain ⟨dd, hdd, edd⟩ := dg_ok c178
        refine ih (a + 1) _ _ (by omega) (by omega) (fun q => ?_) kk
        obtain ⟨w, hw, ew, ez⟩ := hz (by omega)
        refine ⟨10 * w + dd, by rw [show a + 1 - s0 = a - s0 + 1 by omega, Nat.pow_succ]; omega, ?_, ?_⟩
        · rw [ew, edd]
          exact nm_step
        · first | (exfalso; omega) | (rw [ez, edd]; exact lm_step (by omega))

/-- kinds, by what stands there -/
theorem kd_end {T : Nat → Int32} {sz s : Nat} (h : sz ≤ s) : kdT T sz s = 0 ∧ (tokS T sz s (-1)).1 = s := by
  unfold kdT tokS
  rw [if_pos h, if_pos h]
  exact ⟨rfl, rfl⟩
theorem kd_lt {T : Nat → Int32} {sz s : Nat} (h : s < sz) (h2 : ¬ isLt (T s) = 0) : kdT T sz s = 1 ∧ (tokS T sz s (-1)).1 = skL T (sz - s) s := by
  have hn : ¬ sz ≤ s := by omega
  unfold kdT tokS
  rw [if_neg hn, if_neg hn, if_neg h2, if_neg h2]
  exact ⟨rfl, rfl⟩
theorem kd_dg {T : Nat → Int32} {sz s : Nat} (h : s < sz) (h2 : isLt (T s) = 0) (h3 : ¬ isDg (T s) = 0) : kdT T sz s = (if (nmF T (sz - s) s 0).1 - s ≤ 4 then 2 else 4) ∧ (tokS T sz s (-1)).1 = (nmF T (sz - s) s 0).1 ∧ (tokS T sz s (-1)).2.2.1 = (if (nmF T (sz - s) s 0).1 - s ≤ 4 then (nmF T (sz - s) s 0).2 else 10022) := by
  have hn : ¬ sz ≤ s := by omega
  unfold kdT tokS
  rw [if_neg hn, if_neg hn, if_pos h2, if_pos h2, if_neg h3, if_neg h3]
  exact ⟨rfl, rfl, rfl⟩
theorem kd_sg {T : Nat → Int32} {sz s : Nat} (h : s < sz) (h2 : isLt (T s) = 0) (h3 : isDg (T s) = 0) : kdT T sz s = (if sgn (T s) = 10022 then 4 else 3) ∧ (tokS T sz s (-1)).1 = s + 1 := by
  have hn : ¬ sz ≤ s := by omega
  unfold kdT tokS
  rw [if_neg hn, if_neg hn, if_pos h2, if_pos h2, if_pos h3, if_pos h3]
  exact ⟨rfl, rfl⟩
theorem sgn_no {x : Int32} (h1 : ¬ x = 40) (h2 : ¬ x = 41) (h3 : ¬ x = 59) (h4 : ¬ x = 43) (h5 : ¬ x = 45) (h6 : ¬ x = 42) (h7 : ¬ x = 60) (h8 : ¬ x = 61) : sgn x = 10022 := by
  unfold sgn
  rw [if_neg h1, if_neg h2, if_neg h3, if_neg h4, if_neg h5, if_neg h6, if_neg h7, if_neg h8]

set_option maxHeartbeats 1000000 in
set_option maxRecDepth 20000 in
theorem c_X6_next (l : Launch) (E : Ev) {g : IG} {o : Option Nat} {z : Int64} {fr sz a : Nat} {R : Nat → Int32} (hfr : fr ≤ 800) (hsz : sz ≤ 160) (h26 : g 88 26 = nI fr) (h27 : g 88 27 = nI sz) (h89 : g 89 = R) (ha : a ≤ sz) (h28 : g 88 28 = nI a) (hT0 : ∀ i, i < sz → ¬ R (fr + i) < 0)  : Ct l E 115 yX6_next cX6_next 3 none 3 [.ref (E.2.1 88)] g (RFo o) z (ZVz (RFo o) (fun g1 z1 => NxP (mT R fr) sz (skB (mT R fr) (sz - a) a) g g1 z1)) := by
  refine Ct.of (lv0 := [(0, .ref (E.2.1 88))]) (by decide) (Nat.le_of_ble_eq_true rfl) rfl ?_
  intro p e s m below meth c cx
  refine go_g (here_ex h28) ?_
  refine nx_loop (R := R) (fr := fr) (sz := sz) hfr hsz h26 h27 h89 cx (sz - a) a (by omega) ?_
  have hsb := skB_le (T := mT R fr) (sz - a) a
  have hs0 : skB (mT R fr) (sz - a) a ≤ sz := by omega
  clear hsb
  generalize skB (mT R fr) (sz - a) a = s at hs0 ⊢
  by_cases hss : s < sz
  · refine go_aload_n (pc' := 40) cx dX6_next_39 rfl rfl ?_
    refine go_aload_n (pc' := 41) cx dX6_next_40 rfl rfl ?_
    refine go_geti (pc' := 44) cx (nI s) fX6_165 dX6_next_41 kq88 (ltn rfl) (ltn rfl) rfl (up2_s g 88 28 (nI s)) rfl ?_
    refine go_puti (pc' := 47) cx fX6_172 dX6_next_44 kq88 (ltn rfl) (ltn rfl) rfl rfl rfl rfl ?_
    refine go_aload_n (pc' := 48) cx dX6_next_47 rfl rfl ?_
    refine go_aload_n (pc' := 49) cx dX6_next_48 rfl rfl ?_
    refine go_geti (pc' := 52) cx (nI s) fX6_165 dX6_next_49 kq88 (ltn rfl) (ltn rfl) rfl ((up2_n (up2 g 88 28 (nI s)) (nI s) (Or.inr (Nat.ne_of_beq_eq_false rfl))).trans (up2_s g 88 28 (nI s))) rfl ?_
    refine go_cVi (pc' := 55) cx (c_X6_byteAt_i l E (g := (up2 (up2 g 88 28 (nI s)) 88 30 (nI s))) (fr := fr) (sz := sz) (R := R) hfr hsz ((up2_n (up2 g 88 28 (nI s)) (nI s) (Or.inr (Nat.ne_of_beq_eq_false rfl))).trans ((up2_n g (nI s) (Or.inr (Nat.ne_of_beq_eq_false rfl))).trans h26)) ((up2_n (up2 g 88 28 (nI s)) (nI s) (Or.inr (Nat.ne_of_beq_eq_false rfl))).trans ((up2_n g (nI s) (Or.inr (Nat.ne_of_beq_eq_false rfl))).trans h27)) h89 (i := s) (by omega)) mX6_byteAt lX6_168 dX6_next_52 kq88 (ltn rfl) (ltn rfl) rfl rfl rfl rfl (ltn rfl) (Nat.le_of_ble_eq_true rfl) (Nat.le_of_ble_eq_true rfl) rfl ?_
    refine go_istore_n (pc' := 56) cx dX6_next_55 (ltn rfl) [(1, .int (R (fr + s))), (0, .ref (E.2.1 88))] rfl rfl ?_
    refine go_aload_n (pc' := 57) cx dX6_next_56 rfl rfl ?_
    refine go_iconst (pc' := 58) cx 4 dX6_next_57 rfl rfl ?_
    refine go_puti (pc' := 61) cx fX6_175 dX6_next_58 kq88 (ltn rfl) (ltn rfl) rfl rfl rfl rfl ?_
    refine go_iload_n (pc' := 62) cx dX6_next_61 rfl rfl ?_
    refine go_if_ge (pc' := 65) cx 81 dX6_next_62 rfl rfl (fun _ => ?_) (fun hh => absurd (hT0 s hss) (fun q => hh (Int32.not_lt.mp q)))
    refine go_iload_n (pc' := 82) cx dX6_next_81 rfl rfl ?_
    refine go_i2l (pc' := 83) cx dX6_next_82 rfl ?_
    refine go_ldc2 (pc' := 86) cx 97 kX6_178 dX6_next_83 rfl ?_
    refine go_val (w := .long (((97 : Int32)).toInt64)) (congrArg Value.long (by decide)) ?_
    refine go_ldc2 (pc' := 89) cx 122 kX6_180 dX6_next_86 rfl ?_
    refine go_val (w := .long (((122 : Int32)).toInt64)) (congrArg Value.long (by decide)) ?_
    refine go_cSi (pc' := 92) cx (c_X6_in_lt l E (g := (up2 (up2 (up2 g 88 28 (nI s)) 88 30 (nI s)) 88 29 4)) (R (fr + s))) mX6_in lX6_108 dX6_next_89 rfl rfl rfl (ltn rfl) (Nat.le_of_ble_eq_true rfl) (Nat.le_of_ble_eq_true rfl) rfl ?_
    refine go_if_eq (pc' := 95) cx 134 dX6_next_92 rfl rfl (fun c92 => ?_) (fun c92 => ?_)
    · refine go_iload_n (pc' := 135) cx dX6_next_134 rfl rfl ?_
      refine go_i2l (pc' := 136) cx dX6_next_135 rfl ?_
      refine go_ldc2 (pc' := 139) cx 48 kX6_182 dX6_next_136 rfl ?_
      refine go_val (w := .long (((48 : Int32)).toInt64)) (congrArg Value.long (by decide)) ?_
      refine go_ldc2 (pc' := 142) cx 57 kX6_184 dX6_next_139 rfl ?_
      refine go_val (w := .long (((57 : Int32)).toInt64)) (congrArg Value.long (by decide)) ?_
      refine go_cSi (pc' := 145) cx (c_X6_in_dg l E (g := (up2 (up2 (up2 g 88 28 (nI s)) 88 30 (nI s)) 88 29 4)) (R (fr + s))) mX6_in lX6_108 dX6_next_142 rfl rfl rfl (ltn rfl) (Nat.le_of_ble_eq_true rfl) (Nat.le_of_ble_eq_true rfl) rfl ?_
      refine go_if_eq (pc' := 148) cx 252 dX6_next_145 rfl rfl (fun c145 => ?_) (fun c145 => ?_)
      · refine go_iload_n (pc' := 253) cx dX6_next_252 rfl rfl ?_
        refine go_bipush (pc' := 255) cx 40 dX6_next_253 rfl rfl ?_
        refine go_icmp_eq (pc' := 258) cx 300 dX6_next_255 rfl rfl (fun c255 => ?_) (fun c255 => ?_)
        · refine go_aload_n (pc' := 301) cx dX6_next_300 rfl rfl ?_
          refine go_iconst (pc' := 302) cx 3 dX6_next_301 rfl rfl ?_
          refine go_puti (pc' := 305) cx fX6_175 dX6_next_302 kq88 (ltn rfl) (ltn rfl) rfl rfl rfl rfl ?_
          refine go_aload_n (pc' := 306) cx dX6_next_305 rfl rfl ?_
          refine go_iload_n (pc' := 307) cx dX6_next_306 rfl rfl ?_
          refine go_i2l (pc' := 308) cx dX6_next_307 rfl ?_
          refine go_putl (pc' := 311) cx fX6_186 dX6_next_308 (ltn rfl) (Nat.le_of_ble_eq_true rfl) rfl ?_
          refine go_aload_n (pc' := 312) cx dX6_next_311 rfl rfl ?_
          refine go_dup (pc' := 313) cx rfl dX6_next_312 rfl ?_
          refine go_geti (pc' := 316) cx (nI s) fX6_165 dX6_next_313 kq88 (ltn rfl) (ltn rfl) rfl ((up2_n (up2 (up2 (up2 g 88 28 (nI s)) 88 30 (nI s)) 88 29 4) 3 (Or.inr (Nat.ne_of_beq_eq_false rfl))).trans ((up2_n (up2 (up2 g 88 28 (nI s)) 88 30 (nI s)) 4 (Or.inr (Nat.ne_of_beq_eq_false rfl))).trans ((up2_n (up2 g 88 28 (nI s)) (nI s) (Or.inr (Nat.ne_of_beq_eq_false rfl))).trans (up2_s g 88 28 (nI s))))) rfl ?_
          refine go_iconst (pc' := 317) cx 1 dX6_next_316 rfl rfl ?_
          refine go_iadd (pc' := 318) cx dX6_next_317 rfl ?_
          refine go_val (w := .int (nI (s + 1))) (congrArg Value.int (nI_add s 1)) ?_
          refine go_puti (pc' := 321) cx fX6_165 dX6_next_318 kq88 (ltn rfl) (ltn rfl) rfl rfl rfl rfl ?_
          refine go_vret cx rfl dX6_next_321 ?_
          obtain ⟨k1, k2⟩ := kd_sg (T := mT R fr) (sz := sz) (s := s) hss c92 c145
          rw [if_neg (show ¬ sgn (mT R fr s) = 10022 by show ¬ sgn (R (fr + s)) = 10022; rw [c255]; decide)] at k1
          exact ZVz.mk ⟨(by repeat (first | exact Fr88.rf | refine Fr88.up ?_ (by decide))), rfl, rfl, rfl, rfl, k1.symm, fun _ => congrArg nI k2.symm, fun q => absurd (k1.symm.trans q) (by decide), fun _ => rfl⟩
        · refine go_iload_n (pc' := 259) cx dX6_next_258 rfl rfl ?_
          refine go_bipush (pc' := 261) cx 41 dX6_next_259 rfl rfl ?_
          refine go_icmp_eq (pc' := 264) cx 300 dX6_next_261 rfl rfl (fun c261 => ?_) (fun c261 => ?_)
          · refine go_aload_n (pc' := 301) cx dX6_next_300 rfl rfl ?_
            refine go_iconst (pc' := 302) cx 3 dX6_next_301 rfl rfl ?_
            refine go_puti (pc' := 305) cx fX6_175 dX6_next_302 kq88 (ltn rfl) (ltn rfl) rfl rfl rfl rfl ?_
            refine go_aload_n (pc' := 306) cx dX6_next_305 rfl rfl ?_
            refine go_iload_n (pc' := 307) cx dX6_next_306 rfl rfl ?_
            refine go_i2l (pc' := 308) cx dX6_next_307 rfl ?_
            refine go_putl (pc' := 311) cx fX6_186 dX6_next_308 (ltn rfl) (Nat.le_of_ble_eq_true rfl) rfl ?_
            refine go_aload_n (pc' := 312) cx dX6_next_311 rfl rfl ?_
            refine go_dup (pc' := 313) cx rfl dX6_next_312 rfl ?_
            refine go_geti (pc' := 316) cx (nI s) fX6_165 dX6_next_313 kq88 (ltn rfl) (ltn rfl) rfl ((up2_n (up2 (up2 (up2 g 88 28 (nI s)) 88 30 (nI s)) 88 29 4) 3 (Or.inr (Nat.ne_of_beq_eq_false rfl))).trans ((up2_n (up2 (up2 g 88 28 (nI s)) 88 30 (nI s)) 4 (Or.inr (Nat.ne_of_beq_eq_false rfl))).trans ((up2_n (up2 g 88 28 (nI s)) (nI s) (Or.inr (Nat.ne_of_beq_eq_false rfl))).trans (up2_s g 88 28 (nI s))))) rfl ?_
            refine go_iconst (pc' := 317) cx 1 dX6_next_316 rfl rfl ?_
            refine go_iadd (pc' := 318) cx dX6_next_317 rfl ?_
            refine go_val (w := .int (nI (s + 1))) (congrArg Value.int (nI_add s 1)) ?_
            refine go_puti (pc' := 321) cx fX6_165 dX6_next_318 kq88 (ltn rfl) (ltn rfl) rfl rfl rfl rfl ?_
            refine go_vret cx rfl dX6_next_321 ?_
            obtain ⟨k1, k2⟩ := kd_sg (T := mT R fr) (sz := sz) (s := s) hss c92 c145
            rw [if_neg (show ¬ sgn (mT R fr s) = 10022 by show ¬ sgn (R (fr + s)) = 10022; rw [c261]; decide)] at k1
            exact ZVz.mk ⟨(by repeat (first | exact Fr88.rf | refine Fr88.up ?_ (by decide))), rfl, rfl, rfl, rfl, k1.symm, fun _ => congrArg nI k2.symm, fun q => absurd (k1.symm.trans q) (by decide), fun _ => rfl⟩
          · refine go_iload_n (pc' := 265) cx dX6_next_264 rfl rfl ?_
            refine go_bipush (pc' := 267) cx 59 dX6_next_265 rfl rfl ?_
            refine go_icmp_eq (pc' := 270) cx 300 dX6_next_267 rfl rfl (fun c267 => ?_) (fun c267 => ?_)
            · refine go_aload_n (pc' := 301) cx dX6_next_300 rfl rfl ?_
              refine go_iconst (pc' := 302) cx 3 dX6_next_301 rfl rfl ?_
              refine go_puti (pc' := 305) cx fX6_175 dX6_next_302 kq88 (ltn rfl) (ltn rfl) rfl rfl rfl rfl ?_
              refine go_aload_n (pc' := 306) cx dX6_next_305 rfl rfl ?_
              refine go_iload_n (pc' := 307) cx dX6_next_306 rfl rfl ?_
              refine go_i2l (pc' := 308) cx dX6_next_307 rfl ?_
              refine go_putl (pc' := 311) cx fX6_186 dX6_next_308 (ltn rfl) (Nat.le_of_ble_eq_true rfl) rfl ?_
              refine go_aload_n (pc' := 312) cx dX6_next_311 rfl rfl ?_
              refine go_dup (pc' := 313) cx rfl dX6_next_312 rfl ?_
              refine go_geti (pc' := 316) cx (nI s) fX6_165 dX6_next_313 kq88 (ltn rfl) (ltn rfl) rfl ((up2_n (up2 (up2 (up2 g 88 28 (nI s)) 88 30 (nI s)) 88 29 4) 3 (Or.inr (Nat.ne_of_beq_eq_false rfl))).trans ((up2_n (up2 (up2 g 88 28 (nI s)) 88 30 (nI s)) 4 (Or.inr (Nat.ne_of_beq_eq_false rfl))).trans ((up2_n (up2 g 88 28 (nI s)) (nI s) (Or.inr (Nat.ne_of_beq_eq_false rfl))).trans (up2_s g 88 28 (nI s))))) rfl ?_
              refine go_iconst (pc' := 317) cx 1 dX6_next_316 rfl rfl ?_
              refine go_iadd (pc' := 318) cx dX6_next_317 rfl ?_
              refine go_val (w := .int (nI (s + 1))) (congrArg Value.int (nI_add s 1)) ?_
              refine go_puti (pc' := 321) cx fX6_165 dX6_next_318 kq88 (ltn rfl) (ltn rfl) rfl rfl rfl rfl ?_
              refine go_vret cx rfl dX6_next_321 ?_
              obtain ⟨k1, k2⟩ := kd_sg (T := mT R fr) (sz := sz) (s := s) hss c92 c145
              rw [if_neg (show ¬ sgn (mT R fr s) = 10022 by show ¬ sgn (R (fr + s)) = 10022; rw [c267]; decide)] at k1
              exact ZVz.mk ⟨(by repeat (first | exact Fr88.rf | refine Fr88.up ?_ (by decide))), rfl, rfl, rfl, rfl, k1.symm, fun _ => congrArg nI k2.symm, fun q => absurd (k1.symm.trans q) (by decide), fun _ => rfl⟩
            · refine go_iload_n (pc' := 271) cx dX6_next_270 rfl rfl ?_
              refine go_bipush (pc' := 273) cx 43 dX6_next_271 rfl rfl ?_
              refine go_icmp_eq (pc' := 276) cx 300 dX6_next_273 rfl rfl (fun c273 => ?_) (fun c273 => ?_)
              · refine go_aload_n (pc' := 301) cx dX6_next_300 rfl rfl ?_
                refine go_iconst (pc' := 302) cx 3 dX6_next_301 rfl rfl ?_
                refine go_puti (pc' := 305) cx fX6_175 dX6_next_302 kq88 (ltn rfl) (ltn rfl) rfl rfl rfl rfl ?_
                refine go_aload_n (pc' := 306) cx dX6_next_305 rfl rfl ?_
                refine go_iload_n (pc' := 307) cx dX6_next_306 rfl rfl ?_
                refine go_i2l (pc' := 308) cx dX6_next_307 rfl ?_
                refine go_putl (pc' := 311) cx fX6_186 dX6_next_308 (ltn rfl) (Nat.le_of_ble_eq_true rfl) rfl ?_
                refine go_aload_n (pc' := 312) cx dX6_next_311 rfl rfl ?_
                refine go_dup (pc' := 313) cx rfl dX6_next_312 rfl ?_
                refine go_geti (pc' := 316) cx (nI s) fX6_165 dX6_next_313 kq88 (ltn rfl) (ltn rfl) rfl ((up2_n (up2 (up2 (up2 g 88 28 (nI s)) 88 30 (nI s)) 88 29 4) 3 (Or.inr (Nat.ne_of_beq_eq_false rfl))).trans ((up2_n (up2 (up2 g 88 28 (nI s)) 88 30 (nI s)) 4 (Or.inr (Nat.ne_of_beq_eq_false rfl))).trans ((up2_n (up2 g 88 28 (nI s)) (nI s) (Or.inr (Nat.ne_of_beq_eq_false rfl))).trans (up2_s g 88 28 (nI s))))) rfl ?_
                refine go_iconst (pc' := 317) cx 1 dX6_next_316 rfl rfl ?_
                refine go_iadd (pc' := 318) cx dX6_next_317 rfl ?_
                refine go_val (w := .int (nI (s + 1))) (congrArg Value.int (nI_add s 1)) ?_
                refine go_puti (pc' := 321) cx fX6_165 dX6_next_318 kq88 (ltn rfl) (ltn rfl) rfl rfl rfl rfl ?_
                refine go_vret cx rfl dX6_next_321 ?_
                obtain ⟨k1, k2⟩ := kd_sg (T := mT R fr) (sz := sz) (s := s) hss c92 c145
                rw [if_neg (show ¬ sgn (mT R fr s) = 10022 by show ¬ sgn (R (fr + s)) = 10022; rw [c273]; decide)] at k1
                exact ZVz.mk ⟨(by repeat (first | exact Fr88.rf | refine Fr88.up ?_ (by decide))), rfl, rfl, rfl, rfl, k1.symm, fun _ => congrArg nI k2.symm, fun q => absurd (k1.symm.trans q) (by decide), fun _ => rfl⟩
              · refine go_iload_n (pc' := 277) cx dX6_next_276 rfl rfl ?_
                refine go_bipush (pc' := 279) cx 45 dX6_next_277 rfl rfl ?_
                refine go_icmp_eq (pc' := 282) cx 300 dX6_next_279 rfl rfl (fun c279 => ?_) (fun c279 => ?_)
                · refine go_aload_n (pc' := 301) cx dX6_next_300 rfl rfl ?_
                  refine go_iconst (pc' := 302) cx 3 dX6_next_301 rfl rfl ?_
                  refine go_puti (pc' := 305) cx fX6_175 dX6_next_302 kq88 (ltn rfl) (ltn rfl) rfl rfl rfl rfl ?_
                  refine go_aload_n (pc' := 306) cx dX6_next_305 rfl rfl ?_
                  refine go_iload_n (pc' := 307) cx dX6_next_306 rfl rfl ?_
                  refine go_i2l (pc' := 308) cx dX6_next_307 rfl ?_
                  refine go_putl (pc' := 311) cx fX6_186 dX6_next_308 (ltn rfl) (Nat.le_of_ble_eq_true rfl) rfl ?_
                  refine go_aload_n (pc' := 312) cx dX6_next_311 rfl rfl ?_
                  refine go_dup (pc' := 313) cx rfl dX6_next_312 rfl ?_
                  refine go_geti (pc' := 316) cx (nI s) fX6_165 dX6_next_313 kq88 (ltn rfl) (ltn rfl) rfl ((up2_n (up2 (up2 (up2 g 88 28 (nI s)) 88 30 (nI s)) 88 29 4) 3 (Or.inr (Nat.ne_of_beq_eq_false rfl))).trans ((up2_n (up2 (up2 g 88 28 (nI s)) 88 30 (nI s)) 4 (Or.inr (Nat.ne_of_beq_eq_false rfl))).trans ((up2_n (up2 g 88 28 (nI s)) (nI s) (Or.inr (Nat.ne_of_beq_eq_false rfl))).trans (up2_s g 88 28 (nI s))))) rfl ?_
                  refine go_iconst (pc' := 317) cx 1 dX6_next_316 rfl rfl ?_
                  refine go_iadd (pc' := 318) cx dX6_next_317 rfl ?_
                  refine go_val (w := .int (nI (s + 1))) (congrArg Value.int (nI_add s 1)) ?_
                  refine go_puti (pc' := 321) cx fX6_165 dX6_next_318 kq88 (ltn rfl) (ltn rfl) rfl rfl rfl rfl ?_
                  refine go_vret cx rfl dX6_next_321 ?_
                  obtain ⟨k1, k2⟩ := kd_sg (T := mT R fr) (sz := sz) (s := s) hss c92 c145
                  rw [if_neg (show ¬ sgn (mT R fr s) = 10022 by show ¬ sgn (R (fr + s)) = 10022; rw [c279]; decide)] at k1
                  exact ZVz.mk ⟨(by repeat (first | exact Fr88.rf | refine Fr88.up ?_ (by decide))), rfl, rfl, rfl, rfl, k1.symm, fun _ => congrArg nI k2.symm, fun q => absurd (k1.symm.trans q) (by decide), fun _ => rfl⟩
                · refine go_iload_n (pc' := 283) cx dX6_next_282 rfl rfl ?_
                  refine go_bipush (pc' := 285) cx 42 dX6_next_283 rfl rfl ?_
                  refine go_icmp_eq (pc' := 288) cx 300 dX6_next_285 rfl rfl (fun c285 => ?_) (fun c285 => ?_)
                  · refine go_aload_n (pc' := 301) cx dX6_next_300 rfl rfl ?_
                    refine go_iconst (pc' := 302) cx 3 dX6_next_301 rfl rfl ?_
                    refine go_puti (pc' := 305) cx fX6_175 dX6_next_302 kq88 (ltn rfl) (ltn rfl) rfl rfl rfl rfl ?_
                    refine go_aload_n (pc' := 306) cx dX6_next_305 rfl rfl ?_
                    refine go_iload_n (pc' := 307) cx dX6_next_306 rfl rfl ?_
                    refine go_i2l (pc' := 308) cx dX6_next_307 rfl ?_
                    refine go_putl (pc' := 311) cx fX6_186 dX6_next_308 (ltn rfl) (Nat.le_of_ble_eq_true rfl) rfl ?_
                    refine go_aload_n (pc' := 312) cx dX6_next_311 rfl rfl ?_
                    refine go_dup (pc' := 313) cx rfl dX6_next_312 rfl ?_
                    refine go_geti (pc' := 316) cx (nI s) fX6_165 dX6_next_313 kq88 (ltn rfl) (ltn rfl) rfl ((up2_n (up2 (up2 (up2 g 88 28 (nI s)) 88 30 (nI s)) 88 29 4) 3 (Or.inr (Nat.ne_of_beq_eq_false rfl))).trans ((up2_n (up2 (up2 g 88 28 (nI s)) 88 30 (nI s)) 4 (Or.inr (Nat.ne_of_beq_eq_false rfl))).trans ((up2_n (up2 g 88 28 (nI s)) (nI s) (Or.inr (Nat.ne_of_beq_eq_false rfl))).trans (up2_s g 88 28 (nI s))))) rfl ?_
                    refine go_iconst (pc' := 317) cx 1 dX6_next_316 rfl rfl ?_
                    refine go_iadd (pc' := 318) cx dX6_next_317 rfl ?_
                    refine go_val (w := .int (nI (s + 1))) (congrArg Value.int (nI_add s 1)) ?_
                    refine go_puti (pc' := 321) cx fX6_165 dX6_next_318 kq88 (ltn rfl) (ltn rfl) rfl rfl rfl rfl ?_
                    refine go_vret cx rfl dX6_next_321 ?_
                    obtain ⟨k1, k2⟩ := kd_sg (T := mT R fr) (sz := sz) (s := s) hss c92 c145
                    rw [if_neg (show ¬ sgn (mT R fr s) = 10022 by show ¬ sgn (R (fr + s)) = 10022; rw [c285]; decide)] at k1
                    exact ZVz.mk ⟨(by repeat (first | exact Fr88.rf | refine Fr88.up ?_ (by decide))), rfl, rfl, rfl, rfl, k1.symm, fun _ => congrArg nI k2.symm, fun q => absurd (k1.symm.trans q) (by decide), fun _ => rfl⟩
                  · refine go_iload_n (pc' := 289) cx dX6_next_288 rfl rfl ?_
                    refine go_bipush (pc' := 291) cx 60 dX6_next_289 rfl rfl ?_
                    refine go_icmp_eq (pc' := 294) cx 300 dX6_next_291 rfl rfl (fun c291 => ?_) (fun c291 => ?_)
                    · refine go_aload_n (pc' := 301) cx dX6_next_300 rfl rfl ?_
                      refine go_iconst (pc' := 302) cx 3 dX6_next_301 rfl rfl ?_
                      refine go_puti (pc' := 305) cx fX6_175 dX6_next_302 kq88 (ltn rfl) (ltn rfl) rfl rfl rfl rfl ?_
                      refine go_aload_n (pc' := 306) cx dX6_next_305 rfl rfl ?_
                      refine go_iload_n (pc' := 307) cx dX6_next_306 rfl rfl ?_
                      refine go_i2l (pc' := 308) cx dX6_next_307 rfl ?_
                      refine go_putl (pc' := 311) cx fX6_186 dX6_next_308 (ltn rfl) (Nat.le_of_ble_eq_true rfl) rfl ?_
                      refine go_aload_n (pc' := 312) cx dX6_next_311 rfl rfl ?_
                      refine go_dup (pc' := 313) cx rfl dX6_next_312 rfl ?_
                      refine go_geti (pc' := 316) cx (nI s) fX6_165 dX6_next_313 kq88 (ltn rfl) (ltn rfl) rfl ((up2_n (up2 (up2 (up2 g 88 28 (nI s)) 88 30 (nI s)) 88 29 4) 3 (Or.inr (Nat.ne_of_beq_eq_false rfl))).trans ((up2_n (up2 (up2 g 88 28 (nI s)) 88 30 (nI s)) 4 (Or.inr (Nat.ne_of_beq_eq_false rfl))).trans ((up2_n (up2 g 88 28 (nI s)) (nI s) (Or.inr (Nat.ne_of_beq_eq_false rfl))).trans (up2_s g 88 28 (nI s))))) rfl ?_
                      refine go_iconst (pc' := 317) cx 1 dX6_next_316 rfl rfl ?_
                      refine go_iadd (pc' := 318) cx dX6_next_317 rfl ?_
                      refine go_val (w := .int (nI (s + 1))) (congrArg Value.int (nI_add s 1)) ?_
                      refine go_puti (pc' := 321) cx fX6_165 dX6_next_318 kq88 (ltn rfl) (ltn rfl) rfl rfl rfl rfl ?_
                      refine go_vret cx rfl dX6_next_321 ?_
                      obtain ⟨k1, k2⟩ := kd_sg (T := mT R fr) (sz := sz) (s := s) hss c92 c145
                      rw [if_neg (show ¬ sgn (mT R fr s) = 10022 by show ¬ sgn (R (fr + s)) = 10022; rw [c291]; decide)] at k1
                      exact ZVz.mk ⟨(by repeat (first | exact Fr88.rf | refine Fr88.up ?_ (by decide))), rfl, rfl, rfl, rfl, k1.symm, fun _ => congrArg nI k2.symm, fun q => absurd (k1.symm.trans q) (by decide), fun _ => rfl⟩
                    · refine go_iload_n (pc' := 295) cx dX6_next_294 rfl rfl ?_
                      refine go_bipush (pc' := 297) cx 61 dX6_next_295 rfl rfl ?_
                      refine go_icmp_ne (pc' := 300) cx 321 dX6_next_297 rfl rfl (fun c297 => ?_) (fun c297 => ?_)
                      · refine go_vret cx rfl dX6_next_321 ?_
                        obtain ⟨k1, k2⟩ := kd_sg (T := mT R fr) (sz := sz) (s := s) hss c92 c145
                        rw [if_pos (show sgn (mT R fr s) = 10022 from sgn_no c255 c261 c267 c273 c279 c285 c291 c297)] at k1
                        exact ZVz.mk ⟨(by repeat (first | exact Fr88.rf | refine Fr88.up ?_ (by decide))), rfl, rfl, rfl, rfl, k1.symm, fun q => absurd k1 q, fun q => absurd (k1.symm.trans q) (by decide), fun q => absurd (k1.symm.trans q) (by decide)⟩
                      · refine go_aload_n (pc' := 301) cx dX6_next_300 rfl rfl ?_
                        refine go_iconst (pc' := 302) cx 3 dX6_next_301 rfl rfl ?_
                        refine go_puti (pc' := 305) cx fX6_175 dX6_next_302 kq88 (ltn rfl) (ltn rfl) rfl rfl rfl rfl ?_
                        refine go_aload_n (pc' := 306) cx dX6_next_305 rfl rfl ?_
                        refine go_iload_n (pc' := 307) cx dX6_next_306 rfl rfl ?_
                        refine go_i2l (pc' := 308) cx dX6_next_307 rfl ?_
                        refine go_putl (pc' := 311) cx fX6_186 dX6_next_308 (ltn rfl) (Nat.le_of_ble_eq_true rfl) rfl ?_
                        refine go_aload_n (pc' := 312) cx dX6_next_311 rfl rfl ?_
                        refine go_dup (pc' := 313) cx rfl dX6_next_312 rfl ?_
                        refine go_geti (pc' := 316) cx (nI s) fX6_165 dX6_next_313 kq88 (ltn rfl) (ltn rfl) rfl ((up2_n (up2 (up2 (up2 g 88 28 (nI s)) 88 30 (nI s)) 88 29 4) 3 (Or.inr (Nat.ne_of_beq_eq_false rfl))).trans ((up2_n (up2 (up2 g 88 28 (nI s)) 88 30 (nI s)) 4 (Or.inr (Nat.ne_of_beq_eq_false rfl))).trans ((up2_n (up2 g 88 28 (nI s)) (nI s) (Or.inr (Nat.ne_of_beq_eq_false rfl))).trans (up2_s g 88 28 (nI s))))) rfl ?_
                        refine go_iconst (pc' := 317) cx 1 dX6_next_316 rfl rfl ?_
                        refine go_iadd (pc' := 318) cx dX6_next_317 rfl ?_
                        refine go_val (w := .int (nI (s + 1))) (congrArg Value.int (nI_add s 1)) ?_
                        refine go_puti (pc' := 321) cx fX6_165 dX6_next_318 kq88 (ltn rfl) (ltn rfl) rfl rfl rfl rfl ?_
                        refine go_vret cx rfl dX6_next_321 ?_
                        obtain ⟨k1, k2⟩ := kd_sg (T := mT R fr) (sz := sz) (s := s) hss c92 c145
                        rw [if_neg (show ¬ sgn (mT R fr s) = 10022 by show ¬ sgn (R (fr + s)) = 10022; rw [c297]; decide)] at k1
                        exact ZVz.mk ⟨(by repeat (first | exact Fr88.rf | refine Fr88.up ?_ (by decide))), rfl, rfl, rfl, rfl, k1.symm, fun _ => congrArg nI k2.symm, fun q => absurd (k1.symm.trans q) (by decide), fun _ => rfl⟩
      · refine go_aload_n (pc' := 149) cx dX6_next_148 rfl rfl ?_
        refine go_iconst (pc' := 150) cx 2 dX6_next_149 rfl rfl ?_
        refine go_puti (pc' := 153) cx fX6_175 dX6_next_150 kq88 (ltn rfl) (ltn rfl) rfl rfl rfl rfl ?_
        refine go_aload_n (pc' := 154) cx dX6_next_153 rfl rfl ?_
        refine go_lconst (pc' := 155) cx 0 dX6_next_154 rfl rfl ?_
        refine go_val (w := .long (((0 : Int32)).toInt64)) (congrArg Value.long (by decide)) ?_
        refine go_putl (pc' := 158) cx fX6_186 dX6_next_155 (ltn rfl) (Nat.le_of_ble_eq_true rfl) rfl ?_
        refine go_iconst (pc' := 159) cx 0 dX6_next_158 rfl rfl ?_
        refine go_istore_n (pc' := 160) cx dX6_next_159 (ltn rfl) [(2, .int 0), (1, .int (R (fr + s))), (0, .ref (E.2.1 88))] rfl rfl ?_
        refine go_sub [0, 2, 1] [(2, .int 0), (0, .ref (E.2.1 88)), (1, .int (R (fr + s)))] rfl ?_
        refine go_g (here_ex (g := (up2 (up2 (up2 (up2 g 88 28 (nI s)) 88 30 (nI s)) 88 29 4) 88 29 2)) (a := s) rfl) ?_
        obtain ⟨k1, k2, k3⟩ := kd_dg (T := mT R fr) (sz := sz) (s := s) hss c92 c145
        refine go_sub [0, 1, 2] [(2, .int (nI (s - s))), (0, .ref (E.2.1 88)), (1, .int (R (fr + s)))] (by rw [Nat.sub_self]; rfl) ?_
        refine dg_loop (G := (up2 (up2 (up2 (up2 g 88 28 (nI s)) 88 30 (nI s)) 88 29 4) 88 29 2)) (R := R) (fr := fr) (sz := sz) (s0 := s) hfr hsz h26 h27 h89 _ cx (sz - s) s 0 (((0 : Int32)).toInt64) (by omega) (Nat.le_refl s) (fun _ => ⟨0, Nat.pow_pos (by omega), rfl, by decide⟩) (fun z9 hz9 => ?_)
        have hnm := nmF_le (T := mT R fr) (sz - s) s 0
        generalize hQ : nmF (mT R fr) (sz - s) s 0 = Q at hz9 k1 k2 k3 hnm ⊢
        refine go_aload_n (pc' := 236) cx dX6_next_235 rfl rfl ?_
        refine go_iload_n (pc' := 237) cx dX6_next_236 rfl rfl ?_
        refine go_iconst (pc' := 238) cx 4 dX6_next_237 rfl rfl ?_
        refine go_icmp_le (pc' := 241) cx 245 dX6_next_238 rfl rfl (fun c238 => ?_) (fun c238 => ?_)
        · have c238 := (nI_leI (a := (Q.1 - s)) (b := 4) (by omega) (by omega)).mp c238
          refine go_iconst (pc' := 246) cx 2 dX6_next_245 rfl rfl ?_
          refine go_puti (pc' := 249) cx fX6_175 dX6_next_246 kq88 (ltn rfl) (ltn rfl) rfl rfl rfl rfl ?_
          refine go_goto cx 321 dX6_next_249 rfl ?_
          refine go_vret cx rfl dX6_next_321 ?_
          by_cases q4 : Q.1 - s ≤ 4
          · rw [if_pos q4] at k1 k3
            exact ZVz.mk ⟨(by repeat (first | exact Fr88.rf | refine Fr88.up ?_ (by decide))), rfl, rfl, rfl, rfl, (by first | exact k1.symm | (exfalso; omega)), fun _ => congrArg nI k2.symm, fun _ => by rw [k3]; exact hz9 q4, fun q => absurd (k1.symm.trans q) (by decide)⟩
          · rw [if_neg q4] at k1 k3
            exact ZVz.mk ⟨(by repeat (first | exact Fr88.rf | refine Fr88.up ?_ (by decide))), rfl, rfl, rfl, rfl, (by first | exact k1.symm | (exfalso; omega)), fun q => absurd k1 q, fun q => absurd (k1.symm.trans q) (by decide), fun q => absurd (k1.symm.trans q) (by decide)⟩
        · have c238 : ¬ (Q.1 - s) ≤ 4 := fun q9 => c238 ((nI_leI (a := (Q.1 - s)) (b := 4) (by omega) (by omega)).mpr q9)
          refine go_iconst (pc' := 242) cx 4 dX6_next_241 rfl rfl ?_
          refine go_goto cx 246 dX6_next_242 rfl ?_
          refine go_puti (pc' := 249) cx fX6_175 dX6_next_246 kq88 (ltn rfl) (ltn rfl) rfl rfl rfl rfl ?_
          refine go_goto cx 321 dX6_next_249 rfl ?_
          refine go_vret cx rfl dX6_next_321 ?_
          by_cases q4 : Q.1 - s ≤ 4
          · rw [if_pos q4] at k1 k3
            exact ZVz.mk ⟨(by repeat (first | exact Fr88.rf | refine Fr88.up ?_ (by decide))), rfl, rfl, rfl, rfl, (by first | exact k1.symm | (exfalso; omega)), fun _ => congrArg nI k2.symm, fun _ => by rw [k3]; exact hz9 q4, fun q => absurd (k1.symm.trans q) (by decide)⟩
          · rw [if_neg q4] at k1 k3
            exact ZVz.mk ⟨(by repeat (first | exact Fr88.rf | refine Fr88.up ?_ (by decide))), rfl, rfl, rfl, rfl, (by first | exact k1.symm | (exfalso; omega)), fun q => absurd k1 q, fun q => absurd (k1.symm.trans q) (by decide), fun q => absurd (k1.symm.trans q) (by decide)⟩
    · refine go_aload_n (pc' := 96) cx dX6_next_95 rfl rfl ?_
      refine go_iconst (pc' := 97) cx 1 dX6_next_96 rfl rfl ?_
      refine go_puti (pc' := 100) cx fX6_175 dX6_next_97 kq88 (ltn rfl) (ltn rfl) rfl rfl rfl rfl ?_
      refine go_sub [1, 0] [(0, .ref (E.2.1 88)), (1, .int (R (fr + s)))] rfl ?_
      refine go_g (here_ex (g := (up2 (up2 (up2 (up2 g 88 28 (nI s)) 88 30 (nI s)) 88 29 4) 88 29 1)) (a := s) rfl) ?_
      obtain ⟨k1, k2⟩ := kd_lt (T := mT R fr) (sz := sz) (s := s) hss c92
      refine lt_loop (G := (up2 (up2 (up2 (up2 g 88 28 (nI s)) 88 30 (nI s)) 88 29 4) 88 29 1)) (R := R) (fr := fr) (sz := sz) hfr hsz h26 h27 h89 _ cx (sz - s) s (by omega) ?_
      refine go_vret cx rfl dX6_next_321 ?_
      exact ZVz.mk ⟨(by repeat (first | exact Fr88.rf | refine Fr88.up ?_ (by decide))), rfl, rfl, rfl, rfl, k1.symm, fun _ => congrArg nI k2.symm, fun q => absurd (k1.symm.trans q) (by decide), fun q => absurd (k1.symm.trans q) (by decide)⟩
  · refine go_aload_n (pc' := 40) cx dX6_next_39 rfl rfl ?_
    refine go_aload_n (pc' := 41) cx dX6_next_40 rfl rfl ?_
    refine go_geti (pc' := 44) cx (nI s) fX6_165 dX6_next_41 kq88 (ltn rfl) (ltn rfl) rfl (up2_s g 88 28 (nI s)) rfl ?_
    refine go_puti (pc' := 47) cx fX6_172 dX6_next_44 kq88 (ltn rfl) (ltn rfl) rfl rfl rfl rfl ?_
    refine go_aload_n (pc' := 48) cx dX6_next_47 rfl rfl ?_
    refine go_aload_n (pc' := 49) cx dX6_next_48 rfl rfl ?_
    refine go_geti (pc' := 52) cx (nI s) fX6_165 dX6_next_49 kq88 (ltn rfl) (ltn rfl) rfl ((up2_n (up2 g 88 28 (nI s)) (nI s) (Or.inr (Nat.ne_of_beq_eq_false rfl))).trans (up2_s g 88 28 (nI s))) rfl ?_
    refine go_cVi (pc' := 55) cx (c_X6_byteAt_o l E (g := (up2 (up2 g 88 28 (nI s)) 88 30 (nI s))) (fr := fr) (sz := sz) (R := R) hfr hsz ((up2_n (up2 g 88 28 (nI s)) (nI s) (Or.inr (Nat.ne_of_beq_eq_false rfl))).trans ((up2_n g (nI s) (Or.inr (Nat.ne_of_beq_eq_false rfl))).trans h26)) ((up2_n (up2 g 88 28 (nI s)) (nI s) (Or.inr (Nat.ne_of_beq_eq_false rfl))).trans ((up2_n g (nI s) (Or.inr (Nat.ne_of_beq_eq_false rfl))).trans h27)) h89 (i := s) (by omega)) mX6_byteAt lX6_168 dX6_next_52 kq88 (ltn rfl) (ltn rfl) rfl rfl rfl rfl (ltn rfl) (Nat.le_of_ble_eq_true rfl) (Nat.le_of_ble_eq_true rfl) rfl ?_
    refine go_istore_n (pc' := 56) cx dX6_next_55 (ltn rfl) [(1, .int (-1)), (0, .ref (E.2.1 88))] rfl rfl ?_
    refine go_aload_n (pc' := 57) cx dX6_next_56 rfl rfl ?_
    refine go_iconst (pc' := 58) cx 4 dX6_next_57 rfl rfl ?_
    refine go_puti (pc' := 61) cx fX6_175 dX6_next_58 kq88 (ltn rfl) (ltn rfl) rfl rfl rfl rfl ?_
    refine go_iload_n (pc' := 62) cx dX6_next_61 rfl rfl ?_
    refine go_if_ge (pc' := 65) cx 81 dX6_next_62 rfl rfl (fun hh => absurd hh (by decide)) (fun _ => ?_)
    refine go_aload_n (pc' := 66) cx dX6_next_65 rfl rfl ?_
    refine go_iconst (pc' := 67) cx 0 dX6_next_66 rfl rfl ?_
    refine go_puti (pc' := 70) cx fX6_175 dX6_next_67 kq88 (ltn rfl) (ltn rfl) rfl rfl rfl rfl ?_
    refine go_aload_n (pc' := 71) cx dX6_next_70 rfl rfl ?_
    refine go_aload_n (pc' := 72) cx dX6_next_71 rfl rfl ?_
    refine go_geti (pc' := 75) cx (nI sz) fX6_159 dX6_next_72 kq88 (ltn rfl) (ltn rfl) rfl ((up2_n (up2 (up2 (up2 g 88 28 (nI s)) 88 30 (nI s)) 88 29 4) 0 (Or.inr (Nat.ne_of_beq_eq_false rfl))).trans ((up2_n (up2 (up2 g 88 28 (nI s)) 88 30 (nI s)) 4 (Or.inr (Nat.ne_of_beq_eq_false rfl))).trans ((up2_n (up2 g 88 28 (nI s)) (nI s) (Or.inr (Nat.ne_of_beq_eq_false rfl))).trans ((up2_n g (nI s) (Or.inr (Nat.ne_of_beq_eq_false rfl))).trans h27)))) rfl ?_
    refine go_puti (pc' := 78) cx fX6_172 dX6_next_75 kq88 (ltn rfl) (ltn rfl) rfl rfl rfl rfl ?_
    refine go_goto cx 321 dX6_next_78 rfl ?_
    refine go_vret cx rfl dX6_next_321 ?_
    obtain ⟨k1, k2⟩ := kd_end (T := mT R fr) (sz := sz) (s := s) (by omega)
    have e9 : s = sz := by omega
    subst e9
    exact ZVz.mk ⟨(by repeat (first | exact Fr88.rf | refine Fr88.up ?_ (by decide))), rfl, rfl, rfl, rfl, k1.symm, fun _ => congrArg nI k2.symm, fun q => absurd (k1.symm.trans q) (by decide), fun q => absurd (k1.symm.trans q) (by decide)⟩
