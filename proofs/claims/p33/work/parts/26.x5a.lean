/-! THE CLASS: what has no course in it -/
theorem c_X1_readL (l : Launch) (E : Ev) {g : IG} {o : Option Nat} {z : Int64} {so : Nat} (hs : Sal so) {w q : Nat} (hw : w < 11) (hq : q < 8) (h3 : w ≠ 3) : Ct l E 88 yX1_read cX1_read 3 (some .int) 1 [.ref (E.2.1 so), .int (nI w), .int (nI q)] g (RFo o) z (Zi (RFo o) z (g (so + 2 + w) q) g) := by
  have h := c_X1_read l E (g := g) (o := o) (z := z) hs hw hq (nI q) (fun _ => rfl)
  rw [if_neg h3] at h
  exact h
theorem c_X1_writeL (l : Launch) (E : Ev) {g : IG} {o : Option Nat} {z : Int64} {so : Nat} (hs : Sal so) {w q : Nat} (hw : w < 11) (hq : q < 8) (h3 : w ≠ 3) (v : Int32) : Ct l E 88 yX1_write cX1_write 4 none 1 [.ref (E.2.1 so), .int (nI w), .int (nI q), .int v] g (RFo o) z (Zu (RFo o) z (up2 g (so + 2 + w) q v)) := by
  have h := c_X1_write l E (g := g) (o := o) (z := z) hs hw hq (nI q) (fun _ => rfl) v
  rw [if_neg h3] at h
  exact h
theorem c_X1_writeM (l : Launch) (E : Ev) {g : IG} {o : Option Nat} {z : Int64} {so : Nat} (hs : Sal so) (q v : Int32) : Ct l E 88 yX1_write cX1_write 4 none 1 [.ref (E.2.1 so), .int 3, .int q, .int v] g (RFo o) z (Zu (RFo o) z (up2 g (so + 2 + 3) 0 v)) := by
  have h := c_X1_write l E (g := g) (o := o) (z := z) (w := 3) (q := 0) hs (by decide) (by decide) q (fun h => absurd rfl h) v
  rw [if_pos rfl] at h
  exact h
theorem names_ok {g : IG} {so hn vn : Nat} {w q : Int32} (h2 : g so 2 = nI hn) (h3 : g so 3 = nI vn) (hhn : hn ≤ 5) (hvn : vn ≤ 8) (h : ¬ namesI g so w q = 0) : ∃ w' q' : Nat, w' < 11 ∧ q' < 8 ∧ w = nI w' ∧ (w' ≠ 3 → q = nI q') := by
  unfold namesI at h
  rcases pk_ix w (n := 11) (by decide) with h1 | h1 | ⟨w', hw, rfl⟩
  · rw [if_pos h1] at h
    exact absurd rfl h
  · by_cases hw : w < 0
    · rw [if_pos hw] at h
      exact absurd rfl h
    · rw [if_neg hw, if_pos (show (11 : Int32) ≤ w from h1)] at h
      exact absurd rfl h
  · rw [if_neg (nI_pos (by omega)), if_neg (show ¬ (11 : Int32) ≤ nI w' from nI_ge (a := w') (b := 11) hw (by decide))] at h
    by_cases h33 : w' = 3
    · exact ⟨w', 0, hw, by decide, rfl, fun q => absurd h33 q⟩
    · have e3 : ¬ nI w' = 3 := fun e => h33 ((nI_eq (a := w') (b := 3) (by omega) (by decide)).mp e)
      rw [if_neg e3] at h
      have hc : ∃ c, c ≤ 8 ∧ howMany g so (nI w') = nI c := by
        unfold howMany
        rw [h2, h3]
        by_cases a0 : nI w' = 0
        · exact ⟨4, by decide, by rw [if_pos a0]; rfl⟩
        rw [if_neg a0]
        by_cases a1 : nI w' = 1
        · exact ⟨4, by decide, by rw [if_pos a1]; rfl⟩
        rw [if_neg a1]
        by_cases a2 : nI w' = 2
        · exact ⟨4, by decide, by rw [if_pos a2]; rfl⟩
        rw [if_neg a2]
        by_cases a7 : nI w' = 7
        · exact ⟨vn, hvn, by rw [if_pos a7]⟩
        rw [if_neg a7]
        by_cases a8 : nI w' = 8
        · exact ⟨vn, hvn, by rw [if_pos a8]⟩
        rw [if_neg a8]
        by_cases a9 : nI w' = 9
        · exact ⟨vn, hvn, by rw [if_pos a9]⟩
        rw [if_neg a9]
        exact ⟨hn, by omega, rfl⟩
      obtain ⟨c, hc8, hce⟩ := hc
      rw [hce] at h
      rcases pk_ix q (n := c) (by omega) with b1 | b1 | ⟨q', hq, rfl⟩
      · rw [if_pos b1] at h
        exact absurd rfl h
      · by_cases hq : q < 0
        · rw [if_pos hq] at h
          exact absurd rfl h
        · rw [if_neg hq, if_pos b1] at h
          exact absurd rfl h
      · exact ⟨w', q', hw, by omega, rfl, fun _ => rfl⟩
/-- small numbers: whether in 0 .. k - 1 -/
def inI (k x : Int32) : Int32 := if x < 0 then 0 else if k ≤ x then 0 else 1
theorem in_ok {x : Int32} {k : Nat} (hk : k < 2 ^ 31) (h : ¬ inI (nI k) x = 0) : ∃ j, j < k ∧ x = nI j := by
  unfold inI at h
  rcases pk_ix x (n := k) hk with h1 | h1 | h1
  · rw [if_pos h1] at h
    exact absurd rfl h
  · by_cases hw : x < 0
    · rw [if_pos hw] at h
      exact absurd rfl h
    · rw [if_neg hw, if_pos h1] at h
      exact absurd rfl h
  · exact h1
def fosI (x : Int32) : Int32 := if x = 0 then 1 else if x = 1 then 1 else 0
def nvX (g : IG) (vn : Nat) (hd wt : Int32) : Int32 × IG :=
  if fitsI g 37 7 hd = 0 then (-2, g) else if fitsI g 37 8 (wt / 10) = 0 then (-2, g) else if fitsI g 37 9 (wt - wt / 10 * 10) = 0 then (-2, g)
  else if vn < 8 then (nI vn, up2 (up2 (up2 (up2 g 37 3 (nI (vn + 1))) 46 vn hd) 47 vn (wt / 10)) 48 vn (wt - wt / 10 * 10)) else (-4, g)
def hdX (g : IG) (hn : Nat) (ki wt wi : Int32) : Int32 × IG :=
  if fitsI g 37 10 ki = 0 then (-2, g) else if fitsI g 37 4 (wt / 100) = 0 then (-2, g) else if fitsI g 37 5 (wt - wt / 100 * 100) = 0 then (-2, g) else if fitsI g 37 6 wi = 0 then (-2, g)
  else if hn < 5 then (nI hn, up2 (up2 (up2 (up2 (up2 g 37 2 (nI (hn + 1))) 49 hn ki) 43 hn (wt / 100)) 44 hn (wt - wt / 100 * 100)) 45 hn wi) else (-4, g)
def fdX (g : IG) (sz : Nat) (x : Int32) : Int32 × IG :=
  if x < 0 then (-2, g) else if 255 < x then (-2, g) else if sz < 160 then (nI (sz + 1), up2 (up2 g 3 sz x) 2 1 (nI (sz + 1))) else (-4, g)
def ltI (g : IG) : Int32 := 0 + g 39 0 + g 39 1 + g 39 2 + g 39 3
def cntX (g : IG) (w : Int32) : Int32 := if w = 0 then g 37 2 else if w = 1 then g 37 3 else if w = 2 then g 0 1 else if w = 3 then g 2 1 else if w = 4 then g 37 4 else if w = 5 then ltI g else -2
def rnG (g : IG) (t : Nat) (so1 sz1 : Int32) : IG := upw (up2 (up2 g (29 + 2 * t) 1 so1) (29 + 2 * t) 2 sz1) (29 + 2 * t + 1) (zrow (g (29 + 2 * t + 1)) 40)
def shX (g : IG) (t : Nat) (so1 n1 : Int32) : Int32 × IG :=
  if so1 < -1 then (-2, g) else if 2 < so1 then (-2, g) else if so1 = -1 then (1, rnG g t (-1) 0) else if 40 < n1 then (-2, g) else if 0 ≤ n1 then (1, rnG g t so1 n1) else (-14, g)
def undV (k x : Int32) : Int32 :=
  if k = 0 then (if 0 = x then 1 else 0) else if k = 1 then (if 1 = x then 1 else if 0 = x then 1 else 0) else if k = 2 then (if 2 = x then 1 else if 0 = x then 1 else 0)
  else if k = 3 then (if 3 = x then 1 else if 1 = x then 1 else if 0 = x then 1 else 0) else if k = 4 then (if 4 = x then 1 else if 2 = x then 1 else if 0 = x then 1 else 0) else (if 5 = x then 1 else if 0 = x then 1 else 0)
def cdF (a b : Nat) : Nat → Nat
  | 0 => 1
  | d + 1 => if d + 1 ≤ 1 then 1 else if a % (d + 1) = 0 then (if b % (d + 1) = 0 then d + 1 else cdF a b d) else cdF a b d

set_option maxHeartbeats 4000000 in
set_option maxRecDepth 20000 in
theorem c_X5_isVisit (l : Launch) (E : Ev) {g : IG} {o : Option Nat} {z : Int64} (x1 : Int32) : Ct l E 88 yX5_isVisit cX5_isVisit 2 (some .boolean) 1 [.ref (E.2.1 0), .int x1] g (RFo o) z (Zi (RFo o) z (inI (g 37 3) x1) g) := by
  refine Ct.of (lv0 := [(0, .ref (E.2.1 0)), (1, .int x1)]) (by decide) (Nat.le_of_ble_eq_true rfl) rfl ?_
  intro p e s m below meth c cx
  refine go_iload_n (pc' := 1) cx dX5_isVisit_0 rfl rfl ?_
  refine go_if_lt (pc' := 4) cx 19 dX5_isVisit_1 rfl rfl (fun c1 => ?_) (fun c1 => ?_)
  · have c1n := Int32.not_le.mpr c1
    refine go_iconst (pc' := 20) cx 0 dX5_isVisit_19 rfl rfl ?_
    refine go_zret cx (Or.inl rfl) rfl dX5_isVisit_20 ?_
    exact Zi.mk (by first | (simp only [inI, c1, c1n, if_true, if_false]; done) | (simp [inI, c1, c1n]; done)) rfl
  · have c1n := Int32.not_lt.mp c1
    refine go_iload_n (pc' := 5) cx dX5_isVisit_4 rfl rfl ?_
    refine go_aload_n (pc' := 6) cx dX5_isVisit_5 rfl rfl ?_
    refine go_getr (pc' := 9) cx 37 fX5_66 dX5_isVisit_6 kq0 (ltn rfl) (ltn rfl) rfl rfl rfl ?_
    refine go_geti (pc' := 12) cx (g 37 3) fX5_143 dX5_isVisit_9 kq37 (ltn rfl) (ltn rfl) rfl rfl rfl ?_
    refine go_icmp_ge (pc' := 15) cx 19 dX5_isVisit_12 rfl rfl (fun c12 => ?_) (fun c12 => ?_)
    · have c12n := Int32.not_lt.mpr c12
      refine go_iconst (pc' := 20) cx 0 dX5_isVisit_19 rfl rfl ?_
      refine go_zret cx (Or.inl rfl) rfl dX5_isVisit_20 ?_
      exact Zi.mk (by first | (simp only [inI, c1, c1n, c12, c12n, if_true, if_false]; done) | (simp [inI, c1, c1n, c12, c12n]; done)) rfl
    · have c12n := Int32.not_le.mp c12
      refine go_iconst (pc' := 16) cx 1 dX5_isVisit_15 rfl rfl ?_
      refine go_goto cx 20 dX5_isVisit_16 rfl ?_
      refine go_zret cx (Or.inr rfl) rfl dX5_isVisit_20 ?_
      exact Zi.mk (by first | (simp only [inI, c1, c1n, c12, c12n, if_true, if_false]; done) | (simp [inI, c1, c1n, c12, c12n]; done)) rfl

set_option maxHeartbeats 4000000 in
set_option maxRecDepth 20000 in
theorem c_X5_isPlace (l : Launch) (E : Ev) {g : IG} {o : Option Nat} {z : Int64} (x1 : Int32) : Ct l E 88 yX5_isPlace cX5_isPlace 1 (some .boolean) 1 [.int x1] g (RFo o) z (Zi (RFo o) z (inI 4 x1) g) := by
  refine Ct.of (lv0 := [(0, .int x1)]) (by decide) (Nat.le_of_ble_eq_true rfl) rfl ?_
  intro p e s m below meth c cx
  refine go_iload_n (pc' := 1) cx dX5_isPlace_0 rfl rfl ?_
  refine go_if_lt (pc' := 4) cx 13 dX5_isPlace_1 rfl rfl (fun c1 => ?_) (fun c1 => ?_)
  · have c1n := Int32.not_le.mpr c1
    refine go_iconst (pc' := 14) cx 0 dX5_isPlace_13 rfl rfl ?_
    refine go_zret cx (Or.inl rfl) rfl dX5_isPlace_14 ?_
    exact Zi.mk (by first | (simp only [inI, c1, c1n, if_true, if_false]; done) | (simp [inI, c1, c1n]; done)) rfl
  · have c1n := Int32.not_lt.mp c1
    refine go_iload_n (pc' := 5) cx dX5_isPlace_4 rfl rfl ?_
    refine go_iconst (pc' := 6) cx 4 dX5_isPlace_5 rfl rfl ?_
    refine go_icmp_ge (pc' := 9) cx 13 dX5_isPlace_6 rfl rfl (fun c6 => ?_) (fun c6 => ?_)
    · have c6n := Int32.not_lt.mpr c6
      refine go_iconst (pc' := 14) cx 0 dX5_isPlace_13 rfl rfl ?_
      refine go_zret cx (Or.inl rfl) rfl dX5_isPlace_14 ?_
      exact Zi.mk (by first | (simp only [inI, c1, c1n, c6, c6n, if_true, if_false]; done) | (simp [inI, c1, c1n, c6, c6n]; done)) rfl
    · have c6n := Int32.not_le.mp c6
      refine go_iconst (pc' := 10) cx 1 dX5_isPlace_9 rfl rfl ?_
      refine go_goto cx 14 dX5_isPlace_10 rfl ?_
      refine go_zret cx (Or.inr rfl) rfl dX5_isPlace_14 ?_
      exact Zi.mk (by first | (simp only [inI, c1, c1n, c6, c6n, if_true, if_false]; done) | (simp [inI, c1, c1n, c6, c6n]; done)) rfl

set_option maxHeartbeats 4000000 in
set_option maxRecDepth 20000 in
theorem c_X5_isSheet (l : Launch) (E : Ev) {g : IG} {o : Option Nat} {z : Int64} (x1 : Int32) : Ct l E 88 yX5_isSheet cX5_isSheet 1 (some .boolean) 1 [.int x1] g (RFo o) z (Zi (RFo o) z (inI 4 x1) g) := by
  refine Ct.of (lv0 := [(0, .int x1)]) (by decide) (Nat.le_of_ble_eq_true rfl) rfl ?_
  intro p e s m below meth c cx
  refine go_iload_n (pc' := 1) cx dX5_isSheet_0 rfl rfl ?_
  refine go_if_lt (pc' := 4) cx 13 dX5_isSheet_1 rfl rfl (fun c1 => ?_) (fun c1 => ?_)
  · have c1n := Int32.not_le.mpr c1
    refine go_iconst (pc' := 14) cx 0 dX5_isSheet_13 rfl rfl ?_
    refine go_zret cx (Or.inl rfl) rfl dX5_isSheet_14 ?_
    exact Zi.mk (by first | (simp only [inI, c1, c1n, if_true, if_false]; done) | (simp [inI, c1, c1n]; done)) rfl
  · have c1n := Int32.not_lt.mp c1
    refine go_iload_n (pc' := 5) cx dX5_isSheet_4 rfl rfl ?_
    refine go_iconst (pc' := 6) cx 4 dX5_isSheet_5 rfl rfl ?_
    refine go_icmp_ge (pc' := 9) cx 13 dX5_isSheet_6 rfl rfl (fun c6 => ?_) (fun c6 => ?_)
    · have c6n := Int32.not_lt.mpr c6
      refine go_iconst (pc' := 14) cx 0 dX5_isSheet_13 rfl rfl ?_
      refine go_zret cx (Or.inl rfl) rfl dX5_isSheet_14 ?_
      exact Zi.mk (by first | (simp only [inI, c1, c1n, c6, c6n, if_true, if_false]; done) | (simp [inI, c1, c1n, c6, c6n]; done)) rfl
    · have c6n := Int32.not_le.mp c6
      refine go_iconst (pc' := 10) cx 1 dX5_isSheet_9 rfl rfl ?_
      refine go_goto cx 14 dX5_isSheet_10 rfl ?_
      refine go_zret cx (Or.inr rfl) rfl dX5_isSheet_14 ?_
      exact Zi.mk (by first | (simp only [inI, c1, c1n, c6, c6n, if_true, if_false]; done) | (simp [inI, c1, c1n, c6, c6n]; done)) rfl

set_option maxHeartbeats 4000000 in
set_option maxRecDepth 20000 in
theorem c_X5_isFirstOrSecond (l : Launch) (E : Ev) {g : IG} {o : Option Nat} {z : Int64} (x1 : Int32) : Ct l E 88 yX5_isFirstOrSecond cX5_isFirstOrSecond 1 (some .boolean) 1 [.int x1] g (RFo o) z (Zi (RFo o) z (fosI x1) g) := by
  refine Ct.of (lv0 := [(0, .int x1)]) (by decide) (Nat.le_of_ble_eq_true rfl) rfl ?_
  intro p e s m below meth c cx
  refine go_iload_n (pc' := 1) cx dX5_isFirstOrSecond_0 rfl rfl ?_
  refine go_if_eq (pc' := 4) cx 9 dX5_isFirstOrSecond_1 rfl rfl (fun c1 => ?_) (fun c1 => ?_)
  · refine go_iconst (pc' := 10) cx 1 dX5_isFirstOrSecond_9 rfl rfl ?_
    refine go_goto cx 14 dX5_isFirstOrSecond_10 rfl ?_
    refine go_zret cx (Or.inr rfl) rfl dX5_isFirstOrSecond_14 ?_
    exact Zi.mk (by first | (simp only [fosI, c1, if_true, if_false]; done) | (simp [fosI, c1]; done)) rfl
  · refine go_iload_n (pc' := 5) cx dX5_isFirstOrSecond_4 rfl rfl ?_
    refine go_iconst (pc' := 6) cx 1 dX5_isFirstOrSecond_5 rfl rfl ?_
    refine go_icmp_ne (pc' := 9) cx 13 dX5_isFirstOrSecond_6 rfl rfl (fun c6 => ?_) (fun c6 => ?_)
    · refine go_iconst (pc' := 14) cx 0 dX5_isFirstOrSecond_13 rfl rfl ?_
      refine go_zret cx (Or.inl rfl) rfl dX5_isFirstOrSecond_14 ?_
      exact Zi.mk (by first | (simp only [fosI, c1, c6, if_true, if_false]; done) | (simp [fosI, c1, c6]; done)) rfl
    · refine go_iconst (pc' := 10) cx 1 dX5_isFirstOrSecond_9 rfl rfl ?_
      refine go_goto cx 14 dX5_isFirstOrSecond_10 rfl ?_
      refine go_zret cx (Or.inr rfl) rfl dX5_isFirstOrSecond_14 ?_
      exact Zi.mk (by first | (simp only [fosI, c1, c6, if_true, if_false]; done) | (simp [fosI, c1, c6]; done)) rfl

set_option maxHeartbeats 4000000 in
set_option maxRecDepth 20000 in
theorem c_X5_newVisit (l : Launch) (E : Ev) {g : IG} {o : Option Nat} {z : Int64} {vn : Nat} (hvn : vn ≤ 8) (h3 : g 37 3 = nI vn) (hd wt : Int32) : Ct l E 88 yX5_newVisit cX5_newVisit 4 (some .int) 3 [.ref (E.2.1 0), .int hd, .int wt] g (RFo o) z (Zi (RFo o) z (nvX g vn hd wt).1 (nvX g vn hd wt).2) := by
  refine Ct.of (lv0 := [(0, .ref (E.2.1 0)), (1, .int hd), (2, .int wt)]) (by decide) (Nat.le_of_ble_eq_true rfl) rfl ?_
  intro p e s m below meth c cx
  refine go_aload_n (pc' := 1) cx dX5_newVisit_0 rfl rfl ?_
  refine go_getr (pc' := 4) cx 37 fX5_66 dX5_newVisit_1 kq0 (ltn rfl) (ltn rfl) rfl rfl rfl ?_
  refine go_bipush (pc' := 6) cx 7 dX5_newVisit_4 rfl rfl ?_
  refine go_iload_n (pc' := 7) cx dX5_newVisit_6 rfl rfl ?_
  refine go_cVi (pc' := 10) cx (c_X1_fits l E (g := g) s37 7 hd) mX1_fits lX5_86 dX5_newVisit_7 kq37 (ltn rfl) (ltn rfl) rfl rfl rfl rfl (ltn rfl) (Nat.le_of_ble_eq_true rfl) (Nat.le_of_ble_eq_true rfl) rfl ?_
  refine go_if_eq (pc' := 13) cx 45 dX5_newVisit_10 rfl rfl (fun c10 => ?_) (fun c10 => ?_)
  · refine go_bipush (pc' := 47) cx (-2) dX5_newVisit_45 rfl rfl ?_
    refine go_iret cx rfl dX5_newVisit_47 ?_
    exact Zi.mk (by first | (simp only [nvX, c10, if_true, if_false, ite_true, ite_false, if_pos, if_neg, not_false_iff]; done) | (simp [nvX, c10]; done)) (by first | (simp only [nvX, c10, if_true, if_false, ite_true, ite_false, if_pos, if_neg, not_false_iff]; done) | (simp [nvX, c10]; done))
  · refine go_aload_n (pc' := 14) cx dX5_newVisit_13 rfl rfl ?_
    refine go_getr (pc' := 17) cx 37 fX5_66 dX5_newVisit_14 kq0 (ltn rfl) (ltn rfl) rfl rfl rfl ?_
    refine go_bipush (pc' := 19) cx 8 dX5_newVisit_17 rfl rfl ?_
    refine go_iload_n (pc' := 20) cx dX5_newVisit_19 rfl rfl ?_
    refine go_bipush (pc' := 22) cx 10 dX5_newVisit_20 rfl rfl ?_
    refine go_idiv (pc' := 23) cx (by decide) dX5_newVisit_22 rfl ?_
    refine go_cVi (pc' := 26) cx (c_X1_fits l E (g := g) s37 8 (wt / 10)) mX1_fits lX5_86 dX5_newVisit_23 kq37 (ltn rfl) (ltn rfl) rfl rfl rfl rfl (ltn rfl) (Nat.le_of_ble_eq_true rfl) (Nat.le_of_ble_eq_true rfl) rfl ?_
    refine go_if_eq (pc' := 29) cx 45 dX5_newVisit_26 rfl rfl (fun c26 => ?_) (fun c26 => ?_)
    · refine go_bipush (pc' := 47) cx (-2) dX5_newVisit_45 rfl rfl ?_
      refine go_iret cx rfl dX5_newVisit_47 ?_
      exact Zi.mk (by first | (simp only [nvX, c10, c26, if_true, if_false, ite_true, ite_false, if_pos, if_neg, not_false_iff]; done) | (simp [nvX, c10, c26]; done)) (by first | (simp only [nvX, c10, c26, if_true, if_false, ite_true, ite_false, if_pos, if_neg, not_false_iff]; done) | (simp [nvX, c10, c26]; done))
    · refine go_aload_n (pc' := 30) cx dX5_newVisit_29 rfl rfl ?_
      refine go_getr (pc' := 33) cx 37 fX5_66 dX5_newVisit_30 kq0 (ltn rfl) (ltn rfl) rfl rfl rfl ?_
      refine go_bipush (pc' := 35) cx 9 dX5_newVisit_33 rfl rfl ?_
      refine go_iload_n (pc' := 36) cx dX5_newVisit_35 rfl rfl ?_
      refine go_bipush (pc' := 38) cx 10 dX5_newVisit_36 rfl rfl ?_
      refine go_irem (pc' := 39) cx (by decide) dX5_newVisit_38 rfl ?_
      refine go_cVi (pc' := 42) cx (c_X1_fits l E (g := g) s37 9 (wt - wt / 10 * 10)) mX1_fits lX5_86 dX5_newVisit_39 kq37 (ltn rfl) (ltn rfl) rfl rfl rfl rfl (ltn rfl) (Nat.le_of_ble_eq_true rfl) (Nat.le_of_ble_eq_true rfl) rfl ?_
      refine go_if_ne (pc' := 45) cx 48 dX5_newVisit_42 rfl rfl (fun c42 => ?_) (fun c42 => ?_)
      · refine go_aload_n (pc' := 49) cx dX5_newVisit_48 rfl rfl ?_
        refine go_getr (pc' := 52) cx 37 fX5_66 dX5_newVisit_49 kq0 (ltn rfl) (ltn rfl) rfl rfl rfl ?_
        refine go_geti (pc' := 55) cx (nI vn) fX5_143 dX5_newVisit_52 kq37 (ltn rfl) (ltn rfl) rfl h3 rfl ?_
        refine go_bipush (pc' := 57) cx 8 dX5_newVisit_55 rfl rfl ?_
        refine go_icmp_lt (pc' := 60) cx 63 dX5_newVisit_57 rfl rfl (fun c57 => ?_) (fun c57 => ?_)
        · have c57 := (nI_ltI (a := vn) (b := 8) (by omega) (by omega)).mp c57
          refine go_aload_n (pc' := 64) cx dX5_newVisit_63 rfl rfl ?_
          refine go_getr (pc' := 67) cx 37 fX5_66 dX5_newVisit_64 kq0 (ltn rfl) (ltn rfl) rfl rfl rfl ?_
          refine go_geti (pc' := 70) cx (nI vn) fX5_143 dX5_newVisit_67 kq37 (ltn rfl) (ltn rfl) rfl h3 rfl ?_
          refine go_istore_n (pc' := 71) cx dX5_newVisit_70 (ltn rfl) [(3, .int (nI vn)), (0, .ref (E.2.1 0)), (1, .int hd), (2, .int wt)] rfl rfl ?_
          refine go_aload_n (pc' := 72) cx dX5_newVisit_71 rfl rfl ?_
          refine go_getr (pc' := 75) cx 37 fX5_66 dX5_newVisit_72 kq0 (ltn rfl) (ltn rfl) rfl rfl rfl ?_
          refine go_dup (pc' := 76) cx rfl dX5_newVisit_75 rfl ?_
          refine go_geti (pc' := 79) cx (nI vn) fX5_143 dX5_newVisit_76 kq37 (ltn rfl) (ltn rfl) rfl h3 rfl ?_
          refine go_iconst (pc' := 80) cx 1 dX5_newVisit_79 rfl rfl ?_
          refine go_iadd (pc' := 81) cx dX5_newVisit_80 rfl ?_
          refine go_val (w := .int (nI (vn + 1))) (congrArg Value.int (nI_add vn 1)) ?_
          refine go_puti (pc' := 84) cx fX5_143 dX5_newVisit_81 kq37 (ltn rfl) (ltn rfl) rfl rfl rfl rfl ?_
          refine go_aload_n (pc' := 85) cx dX5_newVisit_84 rfl rfl ?_
          refine go_getr (pc' := 88) cx 37 fX5_66 dX5_newVisit_85 kq0 (ltn rfl) (ltn rfl) rfl rfl rfl ?_
          refine go_bipush (pc' := 90) cx 7 dX5_newVisit_88 rfl rfl ?_
          refine go_iload_n (pc' := 91) cx dX5_newVisit_90 rfl rfl ?_
          refine go_iload_n (pc' := 92) cx dX5_newVisit_91 rfl rfl ?_
          refine go_cVu (pc' := 95) cx (c_X1_writeL l E (g := (up2 g 37 3 (nI (vn + 1)))) s37 (w := 7) (q := vn) (ltn rfl) (by omega) (by decide) hd) mX1_write lX5_92 dX5_newVisit_92 kq37 (ltn rfl) (ltn rfl) rfl rfl rfl rfl (ltn rfl) (Nat.le_of_ble_eq_true rfl) (Nat.le_of_ble_eq_true rfl) rfl ?_
          refine go_aload_n (pc' := 96) cx dX5_newVisit_95 rfl rfl ?_
          refine go_getr (pc' := 99) cx 37 fX5_66 dX5_newVisit_96 kq0 (ltn rfl) (ltn rfl) rfl rfl rfl ?_
          refine go_bipush (pc' := 101) cx 8 dX5_newVisit_99 rfl rfl ?_
          refine go_iload_n (pc' := 102) cx dX5_newVisit_101 rfl rfl ?_
          refine go_iload_n (pc' := 103) cx dX5_newVisit_102 rfl rfl ?_
          refine go_bipush (pc' := 105) cx 10 dX5_newVisit_103 rfl rfl ?_
          refine go_idiv (pc' := 106) cx (by decide) dX5_newVisit_105 rfl ?_
          refine go_cVu (pc' := 109) cx (c_X1_writeL l E (g := (up2 (up2 g 37 3 (nI (vn + 1))) 46 vn hd)) s37 (w := 8) (q := vn) (ltn rfl) (by omega) (by decide) (wt / 10)) mX1_write lX5_92 dX5_newVisit_106 kq37 (ltn rfl) (ltn rfl) rfl rfl rfl rfl (ltn rfl) (Nat.le_of_ble_eq_true rfl) (Nat.le_of_ble_eq_true rfl) rfl ?_
          refine go_aload_n (pc' := 110) cx dX5_newVisit_109 rfl rfl ?_
          refine go_getr (pc' := 113) cx 37 fX5_66 dX5_newVisit_110 kq0 (ltn rfl) (ltn rfl) rfl rfl rfl ?_
          refine go_bipush (pc' := 115) cx 9 dX5_newVisit_113 rfl rfl ?_
          refine go_iload_n (pc' := 116) cx dX5_newVisit_115 rfl rfl ?_
          refine go_iload_n (pc' := 117) cx dX5_newVisit_116 rfl rfl ?_
          refine go_bipush (pc' := 119) cx 10 dX5_newVisit_117 rfl rfl ?_
          refine go_irem (pc' := 120) cx (by decide) dX5_newVisit_119 rfl ?_
          refine go_cVu (pc' := 123) cx (c_X1_writeL l E (g := (up2 (up2 (up2 g 37 3 (nI (vn + 1))) 46 vn hd) 47 vn (wt / 10))) s37 (w := 9) (q := vn) (ltn rfl) (by omega) (by decide) (wt - wt / 10 * 10)) mX1_write lX5_92 dX5_newVisit_120 kq37 (ltn rfl) (ltn rfl) rfl rfl rfl rfl (ltn rfl) (Nat.le_of_ble_eq_true rfl) (Nat.le_of_ble_eq_true rfl) rfl ?_
          refine go_iload_n (pc' := 124) cx dX5_newVisit_123 rfl rfl ?_
          refine go_iret cx rfl dX5_newVisit_124 ?_
          exact Zi.mk (by first | (simp only [nvX, c10, c26, c42, c57, if_true, if_false, ite_true, ite_false, if_pos, if_neg, not_false_iff]; done) | (simp [nvX, c10, c26, c42, c57]; done)) (by first | (simp only [nvX, c10, c26, c42, c57, if_true, if_false, ite_true, ite_false, if_pos, if_neg, not_false_iff]; done) | (simp [nvX, c10, c26, c42, c57]; done))
        · have c57 : ¬ vn < 8 := fun q9 => c57 ((nI_ltI (a := vn) (b := 8) (by omega) (by omega)).mpr q9)
          refine go_bipush (pc' := 62) cx (-4) dX5_newVisit_60 rfl rfl ?_
          refine go_iret cx rfl dX5_newVisit_62 ?_
          exact Zi.mk (by first | (simp only [nvX, c10, c26, c42, c57, if_true, if_false, ite_true, ite_false, if_pos, if_neg, not_false_iff]; done) | (simp [nvX, c10, c26, c42, c57]; done)) (by first | (simp only [nvX, c10, c26, c42, c57, if_true, if_false, ite_true, ite_false, if_pos, if_neg, not_false_iff]; done) | (simp [nvX, c10, c26, c42, c57]; done))
      · refine go_bipush (pc' := 47) cx (-2) dX5_newVisit_45 rfl rfl ?_
        refine go_iret cx rfl dX5_newVisit_47 ?_
        exact Zi.mk (by first | (simp only [nvX, c10, c26, c42, if_true, if_false, ite_true, ite_false, if_pos, if_neg, not_false_iff]; done) | (simp [nvX, c10, c26, c42]; done)) (by first | (simp only [nvX, c10, c26, c42, if_true, if_false, ite_true, ite_false, if_pos, if_neg, not_false_iff]; done) | (simp [nvX, c10, c26, c42]; done))

set_option maxHeartbeats 4000000 in
set_option maxRecDepth 20000 in
theorem c_X5_visit (l : Launch) (E : Ev) {g : IG} {o : Option Nat} {z : Int64} {vn : Nat} (hvn : vn ≤ 8) (h3 : g 37 3 = nI vn) (hd wt : Int32) : Ct l E 88 yX5_visit cX5_visit 3 (some .int) 4 [.ref (E.2.1 0), .int hd, .int wt] g (RFo o) z (Zi (RFo o) z (nvX g vn hd wt).1 (nvX g vn hd wt).2) := by
  refine Ct.of (lv0 := [(0, .ref (E.2.1 0)), (1, .int hd), (2, .int wt)]) (by decide) (Nat.le_of_ble_eq_true rfl) rfl ?_
  intro p e s m below meth c cx
  refine go_aload_n (pc' := 1) cx dX5_visit_0 rfl rfl ?_
  refine go_iload_n (pc' := 2) cx dX5_visit_1 rfl rfl ?_
  refine go_iload_n (pc' := 3) cx dX5_visit_2 rfl rfl ?_
  refine go_cVi (pc' := 6) cx (c_X5_newVisit l E hvn h3 hd wt) mX5_newVisit lX5_99 dX5_visit_3 kq0 (ltn rfl) (ltn rfl) rfl rfl rfl rfl (ltn rfl) (Nat.le_of_ble_eq_true rfl) (Nat.le_of_ble_eq_true rfl) rfl ?_
  refine go_iret cx rfl dX5_visit_6 ?_
  exact Zi.mk rfl rfl

set_option maxHeartbeats 4000000 in
set_option maxRecDepth 20000 in
theorem c_X5_hand (l : Launch) (E : Ev) {g : IG} {o : Option Nat} {z : Int64} {hn : Nat} (hhn : hn ≤ 5) (h2 : g 37 2 = nI hn) (ki wt wi : Int32) : Ct l E 88 yX5_hand cX5_hand 5 (some .int) 3 [.ref (E.2.1 0), .int ki, .int wt, .int wi] g (RFo o) z (Zi (RFo o) z (hdX g hn ki wt wi).1 (hdX g hn ki wt wi).2) := by
  refine Ct.of (lv0 := [(0, .ref (E.2.1 0)), (1, .int ki), (2, .int wt), (3, .int wi)]) (by decide) (Nat.le_of_ble_eq_true rfl) rfl ?_
  intro p e s m below meth c cx
  refine go_aload_n (pc' := 1) cx dX5_hand_0 rfl rfl ?_
  refine go_getr (pc' := 4) cx 37 fX5_66 dX5_hand_1 kq0 (ltn rfl) (ltn rfl) rfl rfl rfl ?_
  refine go_bipush (pc' := 6) cx 10 dX5_hand_4 rfl rfl ?_
  refine go_iload_n (pc' := 7) cx dX5_hand_6 rfl rfl ?_
  refine go_cVi (pc' := 10) cx (c_X1_fits l E (g := g) s37 10 ki) mX1_fits lX5_86 dX5_hand_7 kq37 (ltn rfl) (ltn rfl) rfl rfl rfl rfl (ltn rfl) (Nat.le_of_ble_eq_true rfl) (Nat.le_of_ble_eq_true rfl) rfl ?_
  refine go_if_eq (pc' := 13) cx 56 dX5_hand_10 rfl rfl (fun c10 => ?_) (fun c10 => ?_)
  · refine go_bipush (pc' := 58) cx (-2) dX5_hand_56 rfl rfl ?_
    refine go_iret cx rfl dX5_hand_58 ?_
    exact Zi.mk (by first | (simp only [hdX, c10, if_true, if_false, ite_true, ite_false, if_pos, if_neg, not_false_iff]; done) | (simp [hdX, c10]; done)) (by first | (simp only [hdX, c10, if_true, if_false, ite_true, ite_false, if_pos, if_neg, not_false_iff]; done) | (simp [hdX, c10]; done))
  · refine go_aload_n (pc' := 14) cx dX5_hand_13 rfl rfl ?_
    refine go_getr (pc' := 17) cx 37 fX5_66 dX5_hand_14 kq0 (ltn rfl) (ltn rfl) rfl rfl rfl ?_
    refine go_iconst (pc' := 18) cx 4 dX5_hand_17 rfl rfl ?_
    refine go_iload_n (pc' := 19) cx dX5_hand_18 rfl rfl ?_
    refine go_bipush (pc' := 21) cx 100 dX5_hand_19 rfl rfl ?_
    refine go_idiv (pc' := 22) cx (by decide) dX5_hand_21 rfl ?_
    refine go_cVi (pc' := 25) cx (c_X1_fits l E (g := g) s37 4 (wt / 100)) mX1_fits lX5_86 dX5_hand_22 kq37 (ltn rfl) (ltn rfl) rfl rfl rfl rfl (ltn rfl) (Nat.le_of_ble_eq_true rfl) (Nat.le_of_ble_eq_true rfl) rfl ?_
    refine go_if_eq (pc' := 28) cx 56 dX5_hand_25 rfl rfl (fun c25 => ?_) (fun c25 => ?_)
    · refine go_bipush (pc' := 58) cx (-2) dX5_hand_56 rfl rfl ?_
      refine go_iret cx rfl dX5_hand_58 ?_
      exact Zi.mk (by first | (simp only [hdX, c10, c25, if_true, if_false, ite_true, ite_false, if_pos, if_neg, not_false_iff]; done) | (simp [hdX, c10, c25]; done)) (by first | (simp only [hdX, c10, c25, if_true, if_false, ite_true, ite_false, if_pos, if_neg, not_false_iff]; done) | (simp [hdX, c10, c25]; done))
    · refine go_aload_n (pc' := 29) cx dX5_hand_28 rfl rfl ?_
      refine go_getr (pc' := 32) cx 37 fX5_66 dX5_hand_29 kq0 (ltn rfl) (ltn rfl) rfl rfl rfl ?_
      refine go_iconst (pc' := 33) cx 5 dX5_hand_32 rfl rfl ?_
      refine go_iload_n (pc' := 34) cx dX5_hand_33 rfl rfl ?_
      refine go_bipush (pc' := 36) cx 100 dX5_hand_34 rfl rfl ?_
      refine go_irem (pc' := 37) cx (by decide) dX5_hand_36 rfl ?_
      refine go_cVi (pc' := 40) cx (c_X1_fits l E (g := g) s37 5 (wt - wt / 100 * 100)) mX1_fits lX5_86 dX5_hand_37 kq37 (ltn rfl) (ltn rfl) rfl rfl rfl rfl (ltn rfl) (Nat.le_of_ble_eq_true rfl) (Nat.le_of_ble_eq_true rfl) rfl ?_
      refine go_if_eq (pc' := 43) cx 56 dX5_hand_40 rfl rfl (fun c40 => ?_) (fun c40 => ?_)
      · refine go_bipush (pc' := 58) cx (-2) dX5_hand_56 rfl rfl ?_
        refine go_iret cx rfl dX5_hand_58 ?_
        exact Zi.mk (by first | (simp only [hdX, c10, c25, c40, if_true, if_false, ite_true, ite_false, if_pos, if_neg, not_false_iff]; done) | (simp [hdX, c10, c25, c40]; done)) (by first | (simp only [hdX, c10, c25, c40, if_true, if_false, ite_true, ite_false, if_pos, if_neg, not_false_iff]; done) | (simp [hdX, c10, c25, c40]; done))
      · refine go_aload_n (pc' := 44) cx dX5_hand_43 rfl rfl ?_
        refine go_getr (pc' := 47) cx 37 fX5_66 dX5_hand_44 kq0 (ltn rfl) (ltn rfl) rfl rfl rfl ?_
        refine go_bipush (pc' := 49) cx 6 dX5_hand_47 rfl rfl ?_
        refine go_iload_n (pc' := 50) cx dX5_hand_49 rfl rfl ?_
        refine go_cVi (pc' := 53) cx (c_X1_fits l E (g := g) s37 6 wi) mX1_fits lX5_86 dX5_hand_50 kq37 (ltn rfl) (ltn rfl) rfl rfl rfl rfl (ltn rfl) (Nat.le_of_ble_eq_true rfl) (Nat.le_of_ble_eq_true rfl) rfl ?_
        refine go_if_ne (pc' := 56) cx 59 dX5_hand_53 rfl rfl (fun c53 => ?_) (fun c53 => ?_)
        · refine go_aload_n (pc' := 60) cx dX5_hand_59 rfl rfl ?_
          refine go_getr (pc' := 63) cx 37 fX5_66 dX5_hand_60 kq0 (ltn rfl) (ltn rfl) rfl rfl rfl ?_
          refine go_geti (pc' := 66) cx (nI hn) fX5_96 dX5_hand_63 kq37 (ltn rfl) (ltn rfl) rfl h2 rfl ?_
          refine go_iconst (pc' := 67) cx 5 dX5_hand_66 rfl rfl ?_
          refine go_icmp_lt (pc' := 70) cx 73 dX5_hand_67 rfl rfl (fun c67 => ?_) (fun c67 => ?_)
          · have c67 := (nI_ltI (a := hn) (b := 5) (by omega) (by omega)).mp c67
            refine go_aload_n (pc' := 74) cx dX5_hand_73 rfl rfl ?_
            refine go_getr (pc' := 77) cx 37 fX5_66 dX5_hand_74 kq0 (ltn rfl) (ltn rfl) rfl rfl rfl ?_
            refine go_geti (pc' := 80) cx (nI hn) fX5_96 dX5_hand_77 kq37 (ltn rfl) (ltn rfl) rfl h2 rfl ?_
            refine go_istore (pc' := 82) cx dX5_hand_80 (ltn rfl) [(4, .int (nI hn)), (0, .ref (E.2.1 0)), (1, .int ki), (2, .int wt), (3, .int wi)] rfl rfl ?_
            refine go_aload_n (pc' := 83) cx dX5_hand_82 rfl rfl ?_
            refine go_getr (pc' := 86) cx 37 fX5_66 dX5_hand_83 kq0 (ltn rfl) (ltn rfl) rfl rfl rfl ?_
            refine go_dup (pc' := 87) cx rfl dX5_hand_86 rfl ?_
            refine go_geti (pc' := 90) cx (nI hn) fX5_96 dX5_hand_87 kq37 (ltn rfl) (ltn rfl) rfl h2 rfl ?_
            refine go_iconst (pc' := 91) cx 1 dX5_hand_90 rfl rfl ?_
            refine go_iadd (pc' := 92) cx dX5_hand_91 rfl ?_
            refine go_val (w := .int (nI (hn + 1))) (congrArg Value.int (nI_add hn 1)) ?_
            refine go_puti (pc' := 95) cx fX5_96 dX5_hand_92 kq37 (ltn rfl) (ltn rfl) rfl rfl rfl rfl ?_
            refine go_aload_n (pc' := 96) cx dX5_hand_95 rfl rfl ?_
            refine go_getr (pc' := 99) cx 37 fX5_66 dX5_hand_96 kq0 (ltn rfl) (ltn rfl) rfl rfl rfl ?_
            refine go_bipush (pc' := 101) cx 10 dX5_hand_99 rfl rfl ?_
            refine go_iload (pc' := 103) cx dX5_hand_101 rfl rfl ?_
            refine go_iload_n (pc' := 104) cx dX5_hand_103 rfl rfl ?_
            refine go_cVu (pc' := 107) cx (c_X1_writeL l E (g := (up2 g 37 2 (nI (hn + 1)))) s37 (w := 10) (q := hn) (ltn rfl) (by omega) (by decide) ki) mX1_write lX5_92 dX5_hand_104 kq37 (ltn rfl) (ltn rfl) rfl rfl rfl rfl (ltn rfl) (Nat.le_of_ble_eq_true rfl) (Nat.le_of_ble_eq_true rfl) rfl ?_
            refine go_aload_n (pc' := 108) cx dX5_hand_107 rfl rfl ?_
            refine go_getr (pc' := 111) cx 37 fX5_66 dX5_hand_108 kq0 (ltn rfl) (ltn rfl) rfl rfl rfl ?_
            refine go_iconst (pc' := 112) cx 4 dX5_hand_111 rfl rfl ?_
            refine go_iload (pc' := 114) cx dX5_hand_112 rfl rfl ?_
            refine go_iload_n (pc' := 115) cx dX5_hand_114 rfl rfl ?_
            refine go_bipush (pc' := 117) cx 100 dX5_hand_115 rfl rfl ?_
            refine go_idiv (pc' := 118) cx (by decide) dX5_hand_117 rfl ?_
            refine go_cVu (pc' := 121) cx (c_X1_writeL l E (g := (up2 (up2 g 37 2 (nI (hn + 1))) 49 hn ki)) s37 (w := 4) (q := hn) (ltn rfl) (by omega) (by decide) (wt / 100)) mX1_write lX5_92 dX5_hand_118 kq37 (ltn rfl) (ltn rfl) rfl rfl rfl rfl (ltn rfl) (Nat.le_of_ble_eq_true rfl) (Nat.le_of_ble_eq_true rfl) rfl ?_
            refine go_aload_n (pc' := 122) cx dX5_hand_121 rfl rfl ?_
            refine go_getr (pc' := 125) cx 37 fX5_66 dX5_hand_122 kq0 (ltn rfl) (ltn rfl) rfl rfl rfl ?_
            refine go_iconst (pc' := 126) cx 5 dX5_hand_125 rfl rfl ?_
            refine go_iload (pc' := 128) cx dX5_hand_126 rfl rfl ?_
            refine go_iload_n (pc' := 129) cx dX5_hand_128 rfl rfl ?_
            refine go_bipush (pc' := 131) cx 100 dX5_hand_129 rfl rfl ?_
            refine go_irem (pc' := 132) cx (by decide) dX5_hand_131 rfl ?_
            refine go_cVu (pc' := 135) cx (c_X1_writeL l E (g := (up2 (up2 (up2 g 37 2 (nI (hn + 1))) 49 hn ki) 43 hn (wt / 100))) s37 (w := 5) (q := hn) (ltn rfl) (by omega) (by decide) (wt - wt / 100 * 100)) mX1_write lX5_92 dX5_hand_132 kq37 (ltn rfl) (ltn rfl) rfl rfl rfl rfl (ltn rfl) (Nat.le_of_ble_eq_true rfl) (Nat.le_of_ble_eq_true rfl) rfl ?_
            refine go_aload_n (pc' := 136) cx dX5_hand_135 rfl rfl ?_
            refine go_getr (pc' := 139) cx 37 fX5_66 dX5_hand_136 kq0 (ltn rfl) (ltn rfl) rfl rfl rfl ?_
            refine go_bipush (pc' := 141) cx 6 dX5_hand_139 rfl rfl ?_
            refine go_iload (pc' := 143) cx dX5_hand_141 rfl rfl ?_
            refine go_iload_n (pc' := 144) cx dX5_hand_143 rfl rfl ?_
            refine go_cVu (pc' := 147) cx (c_X1_writeL l E (g := (up2 (up2 (up2 (up2 g 37 2 (nI (hn + 1))) 49 hn ki) 43 hn (wt / 100)) 44 hn (wt - wt / 100 * 100))) s37 (w := 6) (q := hn) (ltn rfl) (by omega) (by decide) wi) mX1_write lX5_92 dX5_hand_144 kq37 (ltn rfl) (ltn rfl) rfl rfl rfl rfl (ltn rfl) (Nat.le_of_ble_eq_true rfl) (Nat.le_of_ble_eq_true rfl) rfl ?_
            refine go_iload (pc' := 149) cx dX5_hand_147 rfl rfl ?_
            refine go_iret cx rfl dX5_hand_149 ?_
            exact Zi.mk (by first | (simp only [hdX, c10, c25, c40, c53, c67, if_true, if_false, ite_true, ite_false, if_pos, if_neg, not_false_iff]; done) | (simp [hdX, c10, c25, c40, c53, c67]; done)) (by first | (simp only [hdX, c10, c25, c40, c53, c67, if_true, if_false, ite_true, ite_false, if_pos, if_neg, not_false_iff]; done) | (simp [hdX, c10, c25, c40, c53, c67]; done))
          · have c67 : ¬ hn < 5 := fun q9 => c67 ((nI_ltI (a := hn) (b := 5) (by omega) (by omega)).mpr q9)
            refine go_bipush (pc' := 72) cx (-4) dX5_hand_70 rfl rfl ?_
            refine go_iret cx rfl dX5_hand_72 ?_
            exact Zi.mk (by first | (simp only [hdX, c10, c25, c40, c53, c67, if_true, if_false, ite_true, ite_false, if_pos, if_neg, not_false_iff]; done) | (simp [hdX, c10, c25, c40, c53, c67]; done)) (by first | (simp only [hdX, c10, c25, c40, c53, c67, if_true, if_false, ite_true, ite_false, if_pos, if_neg, not_false_iff]; done) | (simp [hdX, c10, c25, c40, c53, c67]; done))
        · refine go_bipush (pc' := 58) cx (-2) dX5_hand_56 rfl rfl ?_
          refine go_iret cx rfl dX5_hand_58 ?_
          exact Zi.mk (by first | (simp only [hdX, c10, c25, c40, c53, if_true, if_false, ite_true, ite_false, if_pos, if_neg, not_false_iff]; done) | (simp [hdX, c10, c25, c40, c53]; done)) (by first | (simp only [hdX, c10, c25, c40, c53, if_true, if_false, ite_true, ite_false, if_pos, if_neg, not_false_iff]; done) | (simp [hdX, c10, c25, c40, c53]; done))

set_option maxHeartbeats 4000000 in
set_option maxRecDepth 20000 in
theorem c_X5_set (l : Launch) (E : Ev) {g : IG} {o : Option Nat} {z : Int64} {hn vn : Nat} (hhn : hn ≤ 5) (hvn : vn ≤ 8) (h2 : g 37 2 = nI hn) (h3 : g 37 3 = nI vn) (w0 of v : Int32) : Ct l E 88 yX5_set cX5_set 5 (some .int) 3 [.ref (E.2.1 0), .int w0, .int of, .int v] g (RFo o) z (ZI (RFo o) z (fun x g1 => (x = -100 ∧ g1 = g ∧ (w0 = 10 ∨ namesI g 37 w0 of = 0 ∨ fitsI g 37 w0 v = 0)) ∨ ∃ w q : Nat, w < 11 ∧ q < 8 ∧ w0 = nI w ∧ (w ≠ 3 → of = nI q) ∧ ¬ w0 = 10 ∧ ¬ namesI g 37 w0 of = 0 ∧ ¬ fitsI g 37 w0 v = 0 ∧ x = g (37 + 2 + w) (if w = 3 then 0 else q) ∧ g1 = up2 g (37 + 2 + w) (if w = 3 then 0 else q) v)) := by
  refine Ct.of (lv0 := [(0, .ref (E.2.1 0)), (1, .int w0), (2, .int of), (3, .int v)]) (by decide) (Nat.le_of_ble_eq_true rfl) rfl ?_
  intro p e s m below meth c cx
  refine go_iload_n (pc' := 1) cx dX5_set_0 rfl rfl ?_
  refine go_bipush (pc' := 3) cx 10 dX5_set_1 rfl rfl ?_
  refine go_icmp_eq (pc' := 6) cx 30 dX5_set_3 rfl rfl (fun c3 => ?_) (fun c3 => ?_)
  · refine go_bipush (pc' := 32) cx (-100) dX5_set_30 rfl rfl ?_
    refine go_iret cx rfl dX5_set_32 ?_
    exact ZI.mk (Or.inl ⟨rfl, rfl, Or.inl c3⟩)
  · refine go_aload_n (pc' := 7) cx dX5_set_6 rfl rfl ?_
    refine go_getr (pc' := 10) cx 37 fX5_66 dX5_set_7 kq0 (ltn rfl) (ltn rfl) rfl rfl rfl ?_
    refine go_iload_n (pc' := 11) cx dX5_set_10 rfl rfl ?_
    refine go_iload_n (pc' := 12) cx dX5_set_11 rfl rfl ?_
    refine go_cVi (pc' := 15) cx (c_X1_names l E (g := g) s37 w0 of) mX1_names lX5_82 dX5_set_12 kq37 (ltn rfl) (ltn rfl) rfl rfl rfl rfl (ltn rfl) (Nat.le_of_ble_eq_true rfl) (Nat.le_of_ble_eq_true rfl) rfl ?_
    refine go_if_eq (pc' := 18) cx 30 dX5_set_15 rfl rfl (fun c15 => ?_) (fun c15 => ?_)
    · refine go_bipush (pc' := 32) cx (-100) dX5_set_30 rfl rfl ?_
      refine go_iret cx rfl dX5_set_32 ?_
      exact ZI.mk (Or.inl ⟨rfl, rfl, Or.inr (Or.inl c15)⟩)
    · refine go_aload_n (pc' := 19) cx dX5_set_18 rfl rfl ?_
      refine go_getr (pc' := 22) cx 37 fX5_66 dX5_set_19 kq0 (ltn rfl) (ltn rfl) rfl rfl rfl ?_
      refine go_iload_n (pc' := 23) cx dX5_set_22 rfl rfl ?_
      refine go_iload_n (pc' := 24) cx dX5_set_23 rfl rfl ?_
      refine go_cVi (pc' := 27) cx (c_X1_fits l E (g := g) s37 w0 v) mX1_fits lX5_86 dX5_set_24 kq37 (ltn rfl) (ltn rfl) rfl rfl rfl rfl (ltn rfl) (Nat.le_of_ble_eq_true rfl) (Nat.le_of_ble_eq_true rfl) rfl ?_
      refine go_if_ne (pc' := 30) cx 33 dX5_set_27 rfl rfl (fun c27 => ?_) (fun c27 => ?_)
      · obtain ⟨w, q, hw, hq, hwe, hof⟩ := names_ok h2 h3 hhn hvn c15
        subst hwe
        refine go_aload_n (pc' := 34) cx dX5_set_33 rfl rfl ?_
        refine go_getr (pc' := 37) cx 37 fX5_66 dX5_set_34 kq0 (ltn rfl) (ltn rfl) rfl rfl rfl ?_
        refine go_iload_n (pc' := 38) cx dX5_set_37 rfl rfl ?_
        refine go_iload_n (pc' := 39) cx dX5_set_38 rfl rfl ?_
        refine go_cVi (pc' := 42) cx (c_X1_read l E (g := g) s37 hw hq of hof) mX1_read lX5_89 dX5_set_39 kq37 (ltn rfl) (ltn rfl) rfl rfl rfl rfl (ltn rfl) (Nat.le_of_ble_eq_true rfl) (Nat.le_of_ble_eq_true rfl) rfl ?_
        refine go_name (fun x_1 ex_1 => ?_)
        refine go_istore (pc' := 44) cx dX5_set_42 (ltn rfl) [(4, .int x_1), (0, .ref (E.2.1 0)), (1, .int (nI w)), (2, .int of), (3, .int v)] rfl rfl ?_
        refine go_aload_n (pc' := 45) cx dX5_set_44 rfl rfl ?_
        refine go_getr (pc' := 48) cx 37 fX5_66 dX5_set_45 kq0 (ltn rfl) (ltn rfl) rfl rfl rfl ?_
        refine go_iload_n (pc' := 49) cx dX5_set_48 rfl rfl ?_
        refine go_iload_n (pc' := 50) cx dX5_set_49 rfl rfl ?_
        refine go_iload_n (pc' := 51) cx dX5_set_50 rfl rfl ?_
        refine go_cVu (pc' := 54) cx (c_X1_write l E (g := g) s37 hw hq of hof v) mX1_write lX5_92 dX5_set_51 kq37 (ltn rfl) (ltn rfl) rfl rfl rfl rfl (ltn rfl) (Nat.le_of_ble_eq_true rfl) (Nat.le_of_ble_eq_true rfl) rfl ?_
        refine go_iload (pc' := 56) cx dX5_set_54 rfl rfl ?_
        refine go_iret cx rfl dX5_set_56 ?_
        exact ZI.mk (Or.inr ⟨w, q, hw, hq, rfl, hof, c3, c15, c27, ex_1, rfl⟩)
      · refine go_bipush (pc' := 32) cx (-100) dX5_set_30 rfl rfl ?_
        refine go_iret cx rfl dX5_set_32 ?_
        exact ZI.mk (Or.inl ⟨rfl, rfl, Or.inr (Or.inr c27)⟩)

set_option maxHeartbeats 4000000 in
set_option maxRecDepth 20000 in
theorem c_X0_append (l : Launch) (E : Ev) {n : Nat} {g : IG} {r : RG} {z : Int64} (hn : 4 ≤ n) (hr : r 2 0 = some 3) {sz : Nat} (hsz : sz ≤ 160) (h1 : g 2 1 = nI sz) (x1 : Int32) : Ct l E n yX0_append cX0_append 2 (some .boolean) 1 [.ref (E.2.1 2), .int x1] g r z (Zi r z (if sz < 160 then 1 else 0) (if sz < 160 then up2 (up2 g 3 sz x1) 2 1 (nI (sz + 1)) else g)) := by
  refine Ct.of (lv0 := [(0, .ref (E.2.1 2)), (1, .int x1)]) (by decide) (Nat.le_of_ble_eq_true rfl) rfl ?_
  intro p e s m below meth c cx
  refine go_aload_n (pc' := 1) cx dX0_append_0 rfl rfl ?_
  refine go_geti (pc' := 4) cx (nI sz) fX0_15 dX0_append_1 kq2 (by omega) (ltn rfl) rfl h1 rfl ?_
  refine go_sipush (pc' := 7) cx 160 dX0_append_4 rfl rfl ?_
  refine go_icmp_lt (pc' := 10) cx 12 dX0_append_7 rfl rfl (fun c7 => ?_) (fun c7 => ?_)
  · have c7 := (nI_ltI (a := sz) (b := 160) (by omega) (by omega)).mp c7
    refine go_aload_n (pc' := 13) cx dX0_append_12 rfl rfl ?_
    refine go_getr (pc' := 16) cx 3 fX0_9 dX0_append_13 kq2 (by omega) (ltn rfl) rfl hr rfl ?_
    refine go_aload_n (pc' := 17) cx dX0_append_16 rfl rfl ?_
    refine go_geti (pc' := 20) cx (nI sz) fX0_15 dX0_append_17 kq2 (by omega) (ltn rfl) rfl h1 rfl ?_
    refine go_iload_n (pc' := 21) cx dX0_append_20 rfl rfl ?_
    refine go_iastk (pc' := 22) cx sz dX0_append_21 kq3 (by omega) (vpi (k := sz) (a := 160) (by omega) rfl rfl) (cli (k := sz) (a := 160) (by omega) rfl) rfl ?_
    refine go_aload_n (pc' := 23) cx dX0_append_22 rfl rfl ?_
    refine go_dup (pc' := 24) cx rfl dX0_append_23 rfl ?_
    refine go_geti (pc' := 27) cx (nI sz) fX0_15 dX0_append_24 kq2 (by omega) (ltn rfl) rfl ((up2_n g x1 (Or.inl (Nat.ne_of_beq_eq_false rfl))).trans h1) rfl ?_
    refine go_iconst (pc' := 28) cx 1 dX0_append_27 rfl rfl ?_
    refine go_iadd (pc' := 29) cx dX0_append_28 rfl ?_
    refine go_val (w := .int (nI (sz + 1))) (congrArg Value.int (nI_add sz 1)) ?_
    refine go_puti (pc' := 32) cx fX0_15 dX0_append_29 kq2 (by omega) (ltn rfl) rfl rfl rfl rfl ?_
    refine go_iconst (pc' := 33) cx 1 dX0_append_32 rfl rfl ?_
    refine go_zret cx (Or.inr rfl) rfl dX0_append_33 ?_
    exact Zi.mk (by first | (simp only [c7, if_true, if_false, ite_true, ite_false, if_pos, if_neg, not_false_iff]; done) | (simp [c7]; done)) (by first | (simp only [c7, if_true, if_false, ite_true, ite_false, if_pos, if_neg, not_false_iff]; done) | (simp [c7]; done))
  · have c7 : ¬ sz < 160 := fun q9 => c7 ((nI_ltI (a := sz) (b := 160) (by omega) (by omega)).mpr q9)
    refine go_iconst (pc' := 11) cx 0 dX0_append_10 rfl rfl ?_
    refine go_zret cx (Or.inl rfl) rfl dX0_append_11 ?_
    exact Zi.mk (by first | (simp only [c7, if_true, if_false, ite_true, ite_false, if_pos, if_neg, not_false_iff]; done) | (simp [c7]; done)) (by first | (simp only [c7, if_true, if_false, ite_true, ite_false, if_pos, if_neg, not_false_iff]; done) | (simp [c7]; done))

set_option maxHeartbeats 4000000 in
set_option maxRecDepth 20000 in
theorem c_X0_empty (l : Launch) (E : Ev) {n : Nat} {g : IG} {r : RG} {z : Int64} (hn : 4 ≤ n) : Ct l E n yX0_empty cX0_empty 1 none 1 [.ref (E.2.1 2)] g r z (Zu r z (up2 g 2 1 0)) := by
  refine Ct.of (lv0 := [(0, .ref (E.2.1 2))]) (by decide) (Nat.le_of_ble_eq_true rfl) rfl ?_
  intro p e s m below meth c cx
  refine go_aload_n (pc' := 1) cx dX0_empty_0 rfl rfl ?_
  refine go_iconst (pc' := 2) cx 0 dX0_empty_1 rfl rfl ?_
  refine go_puti (pc' := 5) cx fX0_15 dX0_empty_2 kq2 (by omega) (ltn rfl) rfl rfl rfl rfl ?_
  refine go_vret cx rfl dX0_empty_5 ?_
  exact Zu.mk rfl
