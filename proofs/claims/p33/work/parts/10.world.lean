def kdl : List (Nat × Nat) := [(5, 8), (13, 6), (0, 7), (10, 160), (14, 4), (3, 4), (10, 160), (10, 3), (10, 40), (3, 4), (10, 160), (10, 3), (10, 40), (3, 4), (10, 160), (10, 3), (10, 40), (3, 4), (10, 160), (10, 3), (10, 40), (3, 4), (10, 160), (10, 3), (10, 40), (3, 4), (10, 160), (10, 3), (10, 40), (2, 3), (10, 40), (2, 3), (10, 40), (2, 3), (10, 40), (2, 3), (10, 40), (1, 5), (12, 11), (10, 8), (10, 8), (10, 8), (10, 8), (10, 8), (10, 8), (10, 8), (10, 8), (10, 8), (10, 8), (10, 8), (1, 5), (12, 11), (10, 8), (10, 8), (10, 8), (10, 8), (10, 8), (10, 8), (10, 8), (10, 8), (10, 8), (10, 8), (10, 8), (4, 5), (1, 5), (12, 11), (10, 8), (10, 8), (10, 8), (10, 8), (10, 8), (10, 8), (10, 8), (10, 8), (10, 8), (10, 8), (10, 8), (12, 8), (10, 4), (10, 4), (10, 4), (10, 4), (10, 4), (10, 4), (10, 4), (10, 4), (10, 8), (10, 8)]
def ftl : List (List Nat) := [[1, 0, 0, 0, 0, 0, 1], [1, 1, 0, 0, 0], [1, 0, 0], [1, 1, 1, 0], [1, 1, 1, 1, 1], [1, 0, 1, 1, 1, 0, 1, 1]]
def rtl : List (List (Option Nat)) := [[some 1, none, some 2, some 37, some 50, none, some 63, some 4], [some 5, some 9, some 13, some 17, some 21, some 25], [some 3], [], [some 29, some 31, some 33, some 35], [some 6, some 7, some 8], [], [], [], [some 10, some 11, some 12], [], [], [], [some 14, some 15, some 16], [], [], [], [some 18, some 19, some 20], [], [], [], [some 22, some 23, some 24], [], [], [], [some 26, some 27, some 28], [], [], [], [some 30], [], [some 32], [], [some 34], [], [some 36], [], [some 1, some 38], [some 39, some 40, some 41, some 42, some 43, some 44, some 45, some 46, some 47, some 48, some 49], [], [], [], [], [], [], [], [], [], [], [], [some 1, some 51], [some 52, some 53, some 54, some 55, some 56, some 57, some 58, some 59, some 60, some 61, some 62], [], [], [], [], [], [], [], [], [], [], [], [some 37, some 64, some 77, some 86, some 87], [some 1, some 65], [some 66, some 67, some 68, some 69, some 70, some 71, some 72, some 73, some 74, some 75, some 76], [], [], [], [], [], [], [], [], [], [], [], [some 78, some 79, some 80, some 81, some 82, some 83, some 84, some 85], [], [], [], [], [], [], [], [], [], []]
/-! THE WORLD: every cell that class and reference make has a number; ints, references and the one long are functions of cell and place -/
/-- the words that every method is given: those of the tables that stay true -/
def lwg : List Cond := lw_tbl.filter goodWord
theorem lwg_in {w : Cond} (i : Nat) (h : lw_tbl[i]? = some w) (hg : goodWord w = true) : w ∈ lwg := List.mem_filter.mpr ⟨List.mem_of_getElem? h, hg⟩
abbrev IG : Type := Nat → Nat → Int32
abbrev RG : Type := Nat → Nat → Option Nat
abbrev LV : Type := List (Nat × Value)
abbrev ZT : Type := Option Value → IG → RG → Int64 → Prop
/-- classes and slots, addresses, array classes by kind, strings: objects, bytes; the static row -/
abbrev Ev : Type := va_G × (Nat → Nat) × (Nat → ClassId) × (Nat → Nat) × (Nat → Nat) × Nat
def clx : List vw_C := [(RX0, TX0, 7), (RX1, TX1, 5), (RX2, TX2, 3), (RX3, TX3, 4), (RX4, TX4, 5), (RX5, TX5, 8)]
def kd (i : Nat) : Nat × Nat := kdl.getD i (99, 0)
def ftc (c k : Nat) : Nat := (ftl.getD c []).getD k 0
def RT : RG := fun i k => (rtl.getD i []).getD k none
def RFo (o : Option Nat) : RG := fun i k => if i = 2 ∧ k = 6 then o else RT i k
def fvl (E : Ev) (g : IG) (r : RG) (z : Int64) (i k : Nat) : Nat → Value
  | 0 => .int (g i k)
  | 1 => va_rf ((r i k).map E.2.1)
  | _ => .long z
def fls (E : Ev) (g : IG) (r : RG) (z : Int64) (i c N : Nat) : List Value := (List.range N).map (fun k => fvl E g r z i k (ftc c k))
def cnt (E : Ev) (g : IG) (r : RG) (z : Int64) (i : Nat) : va_E :=
  if (kd i).1 < 7 then .inr ((kd i).1, fls E g r z i (kd i).1 (kd i).2)
  else if (kd i).1 < 12 then .inl (E.2.2.1 (kd i).1, (kd i).2, .inl (g i))
  else .inl (E.2.2.1 (kd i).1, (kd i).2, .inr (.inr (.inr (.inr (fun k => (r i k).map E.2.1)))))
def wsl (E : Ev) (n : Nat) (g : IG) (r : RG) (z : Int64) : va_W := (List.range n).map (fun i => (E.2.1 i, cnt E g r z i))
def tyx (E : Ev) : List (ClassId × FieldType) := [(E.2.2.1 10, .int), (E.2.2.1 11, .int), (E.2.2.1 12, .array .int), (E.2.2.1 13, .object RX3), (E.2.2.1 14, .object RX2)]
def up2 (g : IG) (i k : Nat) (v : Int32) : IG := fun a b => if a = i then (if b = k then v else g a b) else g a b
def up2r (g : RG) (i k : Nat) (v : Option Nat) : RG := fun a b => if a = i then (if b = k then v else g a b) else g a b
/-- a whole row anew -/
def upw (g : IG) (i : Nat) (f : Nat → Int32) : IG := fun a b => if a = i then f b else g a b
theorem up2_s (g : IG) (i k : Nat) (v : Int32) : up2 g i k v i k = v := by simp [up2]
theorem up2_n (g : IG) {i k a b : Nat} (v : Int32) (h : a ≠ i ∨ b ≠ k) : up2 g i k v a b = g a b := by
  unfold up2
  rcases h with h | h
  · rw [if_neg h]
  · by_cases ha : a = i
    · rw [if_pos ha, if_neg h]
    · rw [if_neg ha]
theorem wsl_at {E : Ev} {n : Nat} {g : IG} {r : RG} {z : Int64} {i : Nat} (h : i < n) : (wsl E n g r z)[i]? = some (E.2.1 i, cnt E g r z i) := by
  unfold wsl
  rw [List.getElem?_map, List.getElem?_range h]
  rfl
theorem wsl_in {E : Ev} {n : Nat} {g : IG} {r : RG} {z : Int64} {i : Nat} {q : Nat × va_E} (h : (wsl E n g r z)[i]? = some q) : i < n := by
  have := (List.getElem?_eq_some_iff.mp h).1
  simpa [wsl] using this
theorem cnt_o {E : Ev} {g : IG} {r : RG} {z : Int64} {i c N : Nat} (h : kd i = (c, N)) (hc : c < 7) : cnt E g r z i = .inr (c, fls E g r z i c N) := by
  unfold cnt
  rw [h, if_pos hc]
theorem cnt_i {E : Ev} {g : IG} {r : RG} {z : Int64} {i c N : Nat} (h : kd i = (c, N)) (h1 : ¬ c < 7) (h2 : c < 12) : cnt E g r z i = .inl (E.2.2.1 c, N, .inl (g i)) := by
  unfold cnt
  rw [h, if_neg h1, if_pos h2]
theorem cnt_r {E : Ev} {g : IG} {r : RG} {z : Int64} {i c N : Nat} (h : kd i = (c, N)) (h1 : ¬ c < 7) (h2 : ¬ c < 12) : cnt E g r z i = .inl (E.2.2.1 c, N, .inr (.inr (.inr (.inr (fun k => (r i k).map E.2.1))))) := by
  unfold cnt
  rw [h, if_neg h1, if_neg h2]
theorem fls_at {E : Ev} {g : IG} {r : RG} {z : Int64} {i c N k : Nat} (h : k < N) : (fls E g r z i c N)[k]? = some (fvl E g r z i k (ftc c k)) := by
  unfold fls
  rw [List.getElem?_map, List.getElem?_range h]
  rfl
theorem fls_len {E : Ev} {g : IG} {r : RG} {z : Int64} {i c N : Nat} : (fls E g r z i c N).length = N := by simp [fls]
/-- one cell of the world is written: the others' contents don't hear of it -/
theorem wsl_set {E : Ev} {n : Nat} {g g' : IG} {r r' : RG} {z z' : Int64} {i : Nat} {x : va_E} (h : i < n) (hx : cnt E g' r' z' i = x) (ho : ∀ j, j < n → j ≠ i → cnt E g' r' z' j = cnt E g r z j) : (wsl E n g r z).set i (E.2.1 i, x) = wsl E n g' r' z' := by
  apply List.ext_getElem?
  intro j
  by_cases hj : j < n
  · by_cases hji : j = i
    · subst hji
      rw [List.getElem?_set_self (by simpa [wsl] using h), wsl_at h, hx]
    · rw [List.getElem?_set_ne (Ne.symm hji), wsl_at hj, wsl_at hj, ho j hj hji]
  · rw [List.getElem?_eq_none (by simpa [wsl] using Nat.not_lt.mp hj), List.getElem?_eq_none (by simpa [wsl] using Nat.not_lt.mp hj)]
theorem cnt_g {E : Ev} {g g' : IG} {r r' : RG} {z : Int64} {j : Nat} (hg : ∀ k, g' j k = g j k) (hr : ∀ k, r' j k = r j k) : cnt E g' r' z j = cnt E g r z j := by
  have e1 : g' j = g j := funext hg
  have e2 : r' j = r j := funext hr
  unfold cnt fls
  rw [e1, e2]
  have e3 : ∀ t k, fvl E g' r' z j k t = fvl E g r z j k t := fun t k => by
    unfold fvl
    rw [e1, e2]
  simp only [e3]
theorem wsl_puti {E : Ev} {n : Nat} {g : IG} {r : RG} {z : Int64} {i c N k : Nat} (v : Int32) (h : i < n) (hk : kd i = (c, N)) (hc : c < 7) (hkN : k < N) (hf : ftc c k = 0) : (wsl E n g r z).set i (E.2.1 i, .inr (c, (fls E g r z i c N).set k (.int v))) = wsl E n (up2 g i k v) r z := by
  refine wsl_set h ?_ (fun j _ hj => cnt_g (fun b => up2_n g v (Or.inl hj)) (fun _ => rfl))
  rw [cnt_o hk hc]
  congr 2
  apply List.ext_getElem?
  intro j
  by_cases hj : j < N
  · rw [fls_at hj]
    by_cases hjk : j = k
    · subst hjk
      rw [List.getElem?_set_self (by rw [fls_len]; exact hj), hf]
      show some (Value.int (up2 g i j v i j)) = _
      rw [up2_s]
    · rw [List.getElem?_set_ne (Ne.symm hjk), fls_at hj]
      unfold fvl
      rw [up2_n g v (Or.inr hjk)]
  · rw [List.getElem?_eq_none (by rw [fls_len]; omega), List.getElem?_eq_none (by rw [List.length_set, fls_len]; omega)]
theorem wsl_putr {E : Ev} {n : Nat} {g : IG} {r : RG} {z : Int64} {i c N k y : Nat} (h : i < n) (hk : kd i = (c, N)) (hc : c < 7) (hkN : k < N) (hf : ftc c k = 1) : (wsl E n g r z).set i (E.2.1 i, .inr (c, (fls E g r z i c N).set k (.ref (E.2.1 y)))) = wsl E n g (up2r r i k (some y)) z := by
  refine wsl_set h ?_ (fun j _ hj => cnt_g (fun _ => rfl) (fun b => if_neg hj))
  rw [cnt_o hk hc]
  congr 2
  apply List.ext_getElem?
  intro j
  by_cases hj : j < N
  · rw [fls_at hj]
    by_cases hjk : j = k
    · subst hjk
      rw [List.getElem?_set_self (by rw [fls_len]; exact hj), hf]
      show some (va_rf ((up2r r i j (some y) i j).map E.2.1)) = _
      simp [up2r, va_rf]
    · rw [List.getElem?_set_ne (Ne.symm hjk), fls_at hj]
      unfold fvl up2r
      simp [hjk]
  · rw [List.getElem?_eq_none (by rw [fls_len]; omega), List.getElem?_eq_none (by rw [List.length_set, fls_len]; omega)]
theorem kd_long : ∀ i, i < 115 → i ≠ 88 → (kd i).1 ≠ 6 := by decide +kernel
theorem ft_le : ∀ c, c < 6 → ∀ k, k < 8 → ftc c k < 2 := by decide +kernel
theorem ft_le6 : ∀ k, k < 56 → k ≠ 31 → ftc 6 k < 2 := by decide +kernel
theorem kd_size : ∀ i, i < 115 → (kd i).1 < 6 → (kd i).2 ≤ 8 := by decide +kernel
theorem fvl_z {E : Ev} {g : IG} {r : RG} {z z' : Int64} {i k t : Nat} (h : t < 2) : fvl E g r z' i k t = fvl E g r z i k t := by
  match t, h with
  | 0, _ => rfl
  | 1, _ => rfl
theorem cnt_z {E : Ev} {g : IG} {r : RG} {z z' : Int64} {j : Nat} (hj : j < 115) (h : j ≠ 88) : cnt E g r z' j = cnt E g r z j := by
  by_cases h7 : (kd j).1 < 7
  · rw [cnt_o (Prod.eta _).symm h7, cnt_o (Prod.eta _).symm h7]
    have h6 := kd_long j hj h
    have h8 := kd_size j hj (by omega)
    congr 2
    unfold fls
    apply List.map_congr_left
    intro k hk
    exact fvl_z (ft_le (kd j).1 (by omega) k (by have := List.mem_range.mp hk; omega))
  · unfold cnt
    rw [if_neg h7, if_neg h7]
theorem wsl_asti {E : Ev} {n : Nat} {g : IG} {r : RG} {z : Int64} {i c N k : Nat} (v : Int32) (h : i < n) (hk : kd i = (c, N)) (h1 : ¬ c < 7) (h2 : c < 12) : (wsl E n g r z).set i (E.2.1 i, .inl (E.2.2.1 c, N, .inl (upd (g i) k v))) = wsl E n (up2 g i k v) r z := by
  refine wsl_set h ?_ (fun j _ hj => cnt_g (fun b => up2_n g v (Or.inl hj)) (fun _ => rfl))
  rw [cnt_i hk h1 h2]
  have e : up2 g i k v i = upd (g i) k v := funext fun b => by simp [up2, upd]
  rw [e]
theorem wsl_cpy {E : Ev} {n : Nat} {g : IG} {r : RG} {z : Int64} {i c N : Nat} (f : Nat → Int32) (h : i < n) (hk : kd i = (c, N)) (h1 : ¬ c < 7) (h2 : c < 12) : (wsl E n g r z).set i (E.2.1 i, .inl (E.2.2.1 c, N, .inl f)) = wsl E n (upw g i f) r z := by
  refine wsl_set h ?_ (fun j _ hj => cnt_g (fun b => if_neg hj) (fun _ => rfl))
  rw [cnt_i hk h1 h2]
  have e : upw g i f i = f := funext fun b => by simp [upw]
  rw [e]
theorem wsl_astr {E : Ev} {n : Nat} {g : IG} {r : RG} {z : Int64} {i c N k y : Nat} (h : i < n) (hk : kd i = (c, N)) (h2 : ¬ c < 12) : (wsl E n g r z).set i (E.2.1 i, .inl (E.2.2.1 c, N, .inr (.inr (.inr (.inr (va_up (fun b => (r i b).map E.2.1) k (some (E.2.1 y)))))))) = wsl E n g (up2r r i k (some y)) z := by
  refine wsl_set h ?_ (fun j _ hj => cnt_g (fun _ => rfl) (fun b => if_neg hj))
  rw [cnt_r hk (by omega) h2]
  refine congrArg (fun f => (Sum.inl (E.2.2.1 c, N, Sum.inr (Sum.inr (Sum.inr (Sum.inr f)))) : va_E)) (funext fun b => ?_)
  by_cases hb : b = k <;> simp [up2r, va_up, hb]
/-- the world of the first n cells; A: where they lie -/
def Wd (E : Ev) (A : Nat → Prop) (n : Nat) (g : IG) (r : RG) (z : Int64) (H : Heap) : Prop := va_P E.1 clx (wsl E n g r z) H ∧ va_D A (wsl E n g r z)
def Ad (E : Ev) (n : Nat) : Nat → Prop := fun q => ∃ i, i < n ∧ q = E.2.1 i
theorem Wd.ad {E : Ev} {A : Nat → Prop} {n : Nat} {g : IG} {r : RG} {z : Int64} {H : Heap} (h : Wd E A n g r z H) {i : Nat} (hi : i < n) : A (E.2.1 i) := h.2.2 i _ (wsl_at hi)
theorem Wd.inj {E : Ev} {A : Nat → Prop} {n : Nat} {g : IG} {r : RG} {z : Int64} {H : Heap} (h : Wd E A n g r z H) {i j : Nat} (hi : i < n) (hj : j < n) (e : E.2.1 i = E.2.1 j) : i = j := h.2.1 i j _ _ (wsl_at hi) (wsl_at hj) e
theorem Wd.to {E : Ev} {A : Nat → Prop} {n : Nat} {g : IG} {r : RG} {z : Int64} {H : Heap} (h : Wd E A n g r z H) : Wd E (Ad E n) n g r z H := by
  refine ⟨h.1, h.2.1, fun k q hk => ?_⟩
  have hkn := wsl_in hk
  rw [wsl_at hkn] at hk
  cases hk
  exact ⟨k, hkn, rfl⟩
theorem Wd.from {E : Ev} {A : Nat → Prop} {n : Nat} {g : IG} {r : RG} {z : Int64} {H : Heap} (h : Wd E (Ad E n) n g r z H) (hA : ∀ q, Ad E n q → A q) : Wd E A n g r z H := ⟨h.1, h.2.1, fun k q hk => hA _ (h.2.2 k q hk)⟩
-- what stands outside: the static row UNDER, the strings, the JDK's statics
def lnS : List Nat := [37, 6, 4, 4, 5, 5, 4, 5, 5, 5, 2, 3, 3]
def byS : List (List Int32) := [[103, 114, 111, 119, 115, 32, 119, 101, 101, 107, 115, 32, 42, 32, 50, 32, 59, 32, 101, 118, 101, 110, 115, 32, 49, 32, 59, 32, 109, 105, 110, 100, 115, 32, 49, 32, 59], [108, 101, 110, 103, 116, 104], [108, 97, 115, 116], [119, 97, 110, 116], [119, 101, 101, 107, 115], [112, 108, 97, 99, 101], [104, 97, 110, 100], [103, 114, 111, 119, 115], [101, 118, 101, 110, 115], [109, 105, 110, 100, 115], [111, 114], [97, 110, 100], [110, 111, 116]]
def owS : List (String × Nat × String) := [(RX5, 38, "grows weeks * 2 ; evens 1 ; minds 1 ;"), (RX0, 107, "length"), (RX0, 108, "last"), (RX0, 110, "want"), (RX0, 112, "weeks"), (RX0, 114, "place"), (RX0, 116, "hand"), (RX0, 118, "grows"), (RX0, 120, "evens"), (RX0, 122, "minds"), (RX0, 124, "or"), (RX0, 126, "and"), (RX0, 128, "not")]
def undL : List Int32 := [-1, 0, 0, 1, 2, 0]
def Xt (E : Ev) (A : Nat → Prop) (U : State) (H : Heap) : Prop :=
  va_Z "java/lang/String" "COMPACT_STRINGS" "Z" (.int 1) A U H ∧ va_Zq "jdk/internal/util/Preconditions" "SIOOBE_FORMATTER" "Ljava/util/function/BiFunction;" A U H ∧ True ∧ True ∧ vk_S 13 lnS byS E.2.2.2.1 E.2.2.2.2.1 A U H
def Xr (E : Ev) (U : State) : Prop := ∀ i q, owS[i]? = some q → vk_R q.1 q.2.1 q.2.2 (E.2.2.2.1 i) U
theorem Xt.moved {E : Ev} {A : Nat → Prop} {u U : State} {H : Heap} (hvm : u.vm.Alike U.vm) (h : Xt E A u H) : Xt E A U H := ⟨h.1.moved hvm, h.2.1.moved hvm, trivial, trivial, h.2.2.2.2.moved hvm⟩
theorem Xt.kept {E : Ev} {A : Nat → Prop} {U : State} {H H1 : Heap} (h : Xt E A U H) (hq : ∀ a : Nat, a < H.size → ¬ A a → H1[a]? = H[a]?) : Xt E A U H1 := ⟨h.1.kept hq, h.2.1.kept hq, trivial, trivial, h.2.2.2.2.kept hq⟩
theorem Xt.narrow {E : Ev} {A B : Nat → Prop} {U : State} {H : Heap} (h : Xt E A U H) (hAB : ∀ q, B q → A q) : Xt E B U H := ⟨h.1.narrow hAB, h.2.1.narrow hAB, trivial, trivial, h.2.2.2.2.narrow hAB⟩
/-- what a start state knows: classes, array classes, strings -/
def Kn (E : Ev) (U : State) : Prop := va_K E.1 clx (tyx E) U ∧ Xr E U
theorem Kn.warm {E : Ev} {s U : State} (hW : s.WarmedH U.vm) (h : Kn E s) : Kn E U := ⟨h.1.moved hW.alike, fun i q hq => (h.2 i q hq).warm hW⟩
/-- the room of a method d calls deep -/
def rmd (d : Nat) : Room := { frames := d, cells := 0, slots := 0, locals := 80 * d }
def Qz (E : Ev) (n : Nat) (Z : ZT) : Array Value → State → Outcome → State → Prop := fun _ st oc t => (∃ v g r z, oc = .returned v ∧ Z v g r z ∧ Wd E (Ad E n) n g r z t.heap) ∧ va_F (Ad E n) st t
def Pz (E : Ev) (n : Nat) (g : IG) (r : RG) (z : Int64) (av : List Value) : Array Value → State → Prop := va_Pc av (fun U => Kn E U ∧ Xt E (Ad E n) U U.heap ∧ Wd E (Ad E n) n g r z U.heap)
/-- the words that every method is given -/
def wsA (y : MethodName) (cc : ByteArray) (nL : Nat) (ret : Option FieldType) : List Cond := .code y cc nL ret :: lwg
/-- a method's contract -/
def Ct (l : Launch) (E : Ev) (n : Nat) (y : MethodName) (cc : ByteArray) (nL : Nat) (ret : Option FieldType) (d : Nat) (av : List Value) (g : IG) (r : RG) (z : Int64) (Z : ZT) : Prop :=
  Met l y (wsA y cc nL ret) (rmd d) (Pz E n g r z av) (Qz E n Z) 0 0 (Ad E n)
