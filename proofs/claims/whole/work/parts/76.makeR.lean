/-! THE MAKER OF THE REFERENCE -/
set_option maxHeartbeats 1000000 in
set_option maxRecDepth 20000 in
theorem c_X6_spell (l : Launch) (E : Ev) {g : IG} {r : RG} {z : Int64} {a : Nat} (ha : a ≤ 952) (h1 : r 88 1 = some 89) (b0 b1 b2 b3 b4 b5 b6 b7 : Int32) : Ct l E 115 yX6_spell cX6_spell 10 none 1 [.ref (E.2.1 88), .int (nI a), .int b0, .int b1, .int b2, .int b3, .int b4, .int b5, .int b6, .int b7] g r z (Zu r z (up2 (up2 (up2 (up2 (up2 (up2 (up2 (up2 g 89 a b0) 89 (a + 1) b1) 89 (a + 2) b2) 89 (a + 3) b3) 89 (a + 4) b4) 89 (a + 5) b5) 89 (a + 6) b6) 89 (a + 7) b7)) := by
  refine Ct.of (lv0 := [(0, .ref (E.2.1 88)), (1, .int (nI a)), (2, .int b0), (3, .int b1), (4, .int b2), (5, .int b3), (6, .int b4), (7, .int b5), (8, .int b6), (9, .int b7)]) (by decide) (Nat.le_of_ble_eq_true rfl) rfl ?_
  intro p e s m below meth c cx
  refine go_aload_n (pc' := 1) cx dX6_spell_0 rfl rfl ?_
  refine go_getr (pc' := 4) cx 89 fX6_13 dX6_spell_1 kq88 (ltn rfl) (ltn rfl) rfl h1 rfl ?_
  refine go_iload_n (pc' := 5) cx dX6_spell_4 rfl rfl ?_
  refine go_iload_n (pc' := 6) cx dX6_spell_5 rfl rfl ?_
  refine go_iastk (pc' := 7) cx a dX6_spell_6 kq89 (ltn rfl) (vpi (k := a) (a := 960) (by omega) rfl rfl) (cli (k := a) (a := 960) (by omega) rfl) rfl ?_
  refine go_aload_n (pc' := 8) cx dX6_spell_7 rfl rfl ?_
  refine go_getr (pc' := 11) cx 89 fX6_13 dX6_spell_8 kq88 (ltn rfl) (ltn rfl) rfl h1 rfl ?_
  refine go_iload_n (pc' := 12) cx dX6_spell_11 rfl rfl ?_
  refine go_iconst (pc' := 13) cx 1 dX6_spell_12 rfl rfl ?_
  refine go_iadd (pc' := 14) cx dX6_spell_13 rfl ?_
  refine go_val (w := .int (nI (a + 1))) (congrArg Value.int (nI_add a 1)) ?_
  refine go_iload_n (pc' := 15) cx dX6_spell_14 rfl rfl ?_
  refine go_iastk (pc' := 16) cx (a + 1) dX6_spell_15 kq89 (ltn rfl) (vpi (k := (a + 1)) (a := 960) (by omega) rfl rfl) (cli (k := (a + 1)) (a := 960) (by omega) rfl) rfl ?_
  refine go_aload_n (pc' := 17) cx dX6_spell_16 rfl rfl ?_
  refine go_getr (pc' := 20) cx 89 fX6_13 dX6_spell_17 kq88 (ltn rfl) (ltn rfl) rfl h1 rfl ?_
  refine go_iload_n (pc' := 21) cx dX6_spell_20 rfl rfl ?_
  refine go_iconst (pc' := 22) cx 2 dX6_spell_21 rfl rfl ?_
  refine go_iadd (pc' := 23) cx dX6_spell_22 rfl ?_
  refine go_val (w := .int (nI (a + 2))) (congrArg Value.int (nI_add a 2)) ?_
  refine go_iload (pc' := 25) cx dX6_spell_23 rfl rfl ?_
  refine go_iastk (pc' := 26) cx (a + 2) dX6_spell_25 kq89 (ltn rfl) (vpi (k := (a + 2)) (a := 960) (by omega) rfl rfl) (cli (k := (a + 2)) (a := 960) (by omega) rfl) rfl ?_
  refine go_aload_n (pc' := 27) cx dX6_spell_26 rfl rfl ?_
  refine go_getr (pc' := 30) cx 89 fX6_13 dX6_spell_27 kq88 (ltn rfl) (ltn rfl) rfl h1 rfl ?_
  refine go_iload_n (pc' := 31) cx dX6_spell_30 rfl rfl ?_
  refine go_iconst (pc' := 32) cx 3 dX6_spell_31 rfl rfl ?_
  refine go_iadd (pc' := 33) cx dX6_spell_32 rfl ?_
  refine go_val (w := .int (nI (a + 3))) (congrArg Value.int (nI_add a 3)) ?_
  refine go_iload (pc' := 35) cx dX6_spell_33 rfl rfl ?_
  refine go_iastk (pc' := 36) cx (a + 3) dX6_spell_35 kq89 (ltn rfl) (vpi (k := (a + 3)) (a := 960) (by omega) rfl rfl) (cli (k := (a + 3)) (a := 960) (by omega) rfl) rfl ?_
  refine go_aload_n (pc' := 37) cx dX6_spell_36 rfl rfl ?_
  refine go_getr (pc' := 40) cx 89 fX6_13 dX6_spell_37 kq88 (ltn rfl) (ltn rfl) rfl h1 rfl ?_
  refine go_iload_n (pc' := 41) cx dX6_spell_40 rfl rfl ?_
  refine go_iconst (pc' := 42) cx 4 dX6_spell_41 rfl rfl ?_
  refine go_iadd (pc' := 43) cx dX6_spell_42 rfl ?_
  refine go_val (w := .int (nI (a + 4))) (congrArg Value.int (nI_add a 4)) ?_
  refine go_iload (pc' := 45) cx dX6_spell_43 rfl rfl ?_
  refine go_iastk (pc' := 46) cx (a + 4) dX6_spell_45 kq89 (ltn rfl) (vpi (k := (a + 4)) (a := 960) (by omega) rfl rfl) (cli (k := (a + 4)) (a := 960) (by omega) rfl) rfl ?_
  refine go_aload_n (pc' := 47) cx dX6_spell_46 rfl rfl ?_
  refine go_getr (pc' := 50) cx 89 fX6_13 dX6_spell_47 kq88 (ltn rfl) (ltn rfl) rfl h1 rfl ?_
  refine go_iload_n (pc' := 51) cx dX6_spell_50 rfl rfl ?_
  refine go_iconst (pc' := 52) cx 5 dX6_spell_51 rfl rfl ?_
  refine go_iadd (pc' := 53) cx dX6_spell_52 rfl ?_
  refine go_val (w := .int (nI (a + 5))) (congrArg Value.int (nI_add a 5)) ?_
  refine go_iload (pc' := 55) cx dX6_spell_53 rfl rfl ?_
  refine go_iastk (pc' := 56) cx (a + 5) dX6_spell_55 kq89 (ltn rfl) (vpi (k := (a + 5)) (a := 960) (by omega) rfl rfl) (cli (k := (a + 5)) (a := 960) (by omega) rfl) rfl ?_
  refine go_aload_n (pc' := 57) cx dX6_spell_56 rfl rfl ?_
  refine go_getr (pc' := 60) cx 89 fX6_13 dX6_spell_57 kq88 (ltn rfl) (ltn rfl) rfl h1 rfl ?_
  refine go_iload_n (pc' := 61) cx dX6_spell_60 rfl rfl ?_
  refine go_bipush (pc' := 63) cx 6 dX6_spell_61 rfl rfl ?_
  refine go_iadd (pc' := 64) cx dX6_spell_63 rfl ?_
  refine go_val (w := .int (nI (a + 6))) (congrArg Value.int (nI_add a 6)) ?_
  refine go_iload (pc' := 66) cx dX6_spell_64 rfl rfl ?_
  refine go_iastk (pc' := 67) cx (a + 6) dX6_spell_66 kq89 (ltn rfl) (vpi (k := (a + 6)) (a := 960) (by omega) rfl rfl) (cli (k := (a + 6)) (a := 960) (by omega) rfl) rfl ?_
  refine go_aload_n (pc' := 68) cx dX6_spell_67 rfl rfl ?_
  refine go_getr (pc' := 71) cx 89 fX6_13 dX6_spell_68 kq88 (ltn rfl) (ltn rfl) rfl h1 rfl ?_
  refine go_iload_n (pc' := 72) cx dX6_spell_71 rfl rfl ?_
  refine go_bipush (pc' := 74) cx 7 dX6_spell_72 rfl rfl ?_
  refine go_iadd (pc' := 75) cx dX6_spell_74 rfl ?_
  refine go_val (w := .int (nI (a + 7))) (congrArg Value.int (nI_add a 7)) ?_
  refine go_iload (pc' := 77) cx dX6_spell_75 rfl rfl ?_
  refine go_iastk (pc' := 78) cx (a + 7) dX6_spell_77 kq89 (ltn rfl) (vpi (k := (a + 7)) (a := 960) (by omega) rfl rfl) (cli (k := (a + 7)) (a := 960) (by omega) rfl) rfl ?_
  refine go_vret cx rfl dX6_spell_78 ?_
  exact Zu.mk rfl

def b40 : Nat → Int32 := fun q => ([103, 114, 111, 119, 115, 32, 119, 101, 101, 107, 115, 32, 42, 32, 50, 32, 59, 32, 101, 118, 101, 110, 115, 32, 49, 32, 59, 32, 109, 105, 110, 100, 115, 32, 49, 32, 59, 32, 32, 32] : List Int32).getD q 0
set_option maxRecDepth 100000 in
theorem rdF_40 : rdF b40 40 = -1 := by decide +kernel
set_option maxRecDepth 100000 in
theorem csO_40 : csO b40 40 = CS0 0 := by
  funext k
  have h : ∀ k, k < 3 → csO b40 40 k = csO bT 37 k := by decide +kernel
  show csO b40 40 k = csO bT 37 k
  by_cases h3 : k < 3
  · exact h k h3
  · have h2 := h 2 (by decide)
    unfold csO at h2 ⊢
    rw [if_neg (by omega), if_neg (by omega)] at h2 ⊢
    rw [if_neg (by omega), if_neg (by omega)]
    exact h2
def upLr (r : RG) : List (Nat × Nat × Nat) → RG
  | [] => r
  | q :: L => up2r (upLr r L) q.1 q.2.1 (some q.2.2)
theorem up2r_cg {a b : RG} {i k x y : Nat} {v : Option Nat} (h : a x y = b x y) : up2r a i k v x y = up2r b i k v x y := by
  unfold up2r
  rw [h]
theorem upLr_n {r : RG} {x y : Nat} (h : r x y = none) : ∀ L, upLr r L x y = upL L x y
  | [] => h
  | q :: L => up2r_cg (upLr_n h L)
theorem upLr_o {r : RG} {x y : Nat} : ∀ (L : List (Nat × Nat × Nat)), L.all (fun q => q.1 == 88) = true → x ≠ 88 → upLr r L x y = r x y
  | [], _, _ => rfl
  | q :: L, h, hx => by
    rw [List.all_cons, Bool.and_eq_true] at h
    have h1 : q.1 = 88 := beq_iff_eq.mp h.1
    exact (up2r_o (Or.inl (by omega))).trans (upLr_o L h.2 hx)
theorem upL_56 {k : Nat} (hk : 56 ≤ k) : ∀ (L : List (Nat × Nat × Nat)), L.all (fun q => q.2.1 < 56) = true → ∀ i, upL L i k = none
  | [], _, _ => rfl
  | q :: L, h, i => by
    rw [List.all_cons, Bool.and_eq_true] at h
    have h1 : q.2.1 < 56 := of_decide_eq_true h.1
    exact (up2r_o (Or.inr (by omega))).trans (upL_56 hk L h.2 i)
/-- what the reference is when it is made -/
def JG (g : IG) : Prop := g 88 3 = 1 ∧ g 88 10 = -1 ∧ g 88 48 = -1 ∧ (∀ p, p < 4 → g 92 p = 40 ∧ g 93 p = 40 ∧ g 94 p = 40) ∧ TtI g 0 (CS0 0) ∧ ∀ i j, 88 ≤ i → ¬ ((i = 88 ∧ (j = 3 ∨ j = 10 ∨ j = 48)) ∨ (i = 89 ∧ j < 40) ∨ (i = 90 ∧ j = 0) ∨ (92 ≤ i ∧ i ≤ 94 ∧ j < 4)) → g i j = 0
def lst6 : List (Nat × Nat × Nat) := [(88, 55, 114), (88, 54, 113), (88, 53, 112), (88, 52, 111), (88, 47, 110), (88, 46, 109), (88, 45, 108), (88, 44, 107), (88, 43, 106), (88, 42, 105), (88, 41, 104), (88, 40, 103), (88, 38, 102), (88, 18, 101), (88, 17, 100), (88, 16, 99), (88, 14, 98), (88, 13, 97), (88, 12, 96), (88, 11, 95), (88, 9, 94), (88, 8, 93), (88, 7, 92), (88, 5, 91), (88, 2, 90), (88, 1, 89)]
theorem lst6_ok : ∀ i, 88 ≤ i → ∀ j, upL lst6 i j = RFo (some 5) i j := by
  intro i h8 j
  by_cases hi : i < 115
  · by_cases hj : j < 56
    · have h : ∀ i, i < 27 → ∀ j, j < 56 → upL lst6 (88 + i) j = RFo (some 5) (88 + i) j := by decide +kernel
      have := h (i - 88) (by omega) j hj
      rw [show 88 + (i - 88) = i by omega] at this
      exact this
    · rw [upL_56 (by omega) lst6 (by decide)]
      have h2 : ∀ i, i < 115 → (rtl.getD i []).length ≤ 56 := by decide +kernel
      unfold RFo RT
      rw [if_neg (by omega), List.getD_eq_getElem?_getD (l := rtl.getD i []), List.getElem?_eq_none (by have := h2 i hi; omega)]
      rfl
  · rw [← upLr_n (r := N0) rfl, upLr_o lst6 (by decide) (by omega)]
    have h2 : rtl.length = 115 := by decide +kernel
    unfold RFo RT
    rw [if_neg (by omega), List.getD_eq_getElem?_getD (l := rtl), List.getElem?_eq_none (by omega)]
    rfl
set_option maxHeartbeats 4000000 in
set_option maxRecDepth 40000 in
theorem n_X6 (l : Launch) (E : Ev) (hE : Sq E) {g : IG} {r : RG} (hg : ∀ i, 88 ≤ i → ∀ j, g i j = 0) (hr : ∀ i, 88 ≤ i → ∀ j, r i j = none) (hrr : ∀ i, i < 88 → ∀ j, r i j = RFo (some 5) i j) : CtN l E 89 26 23997 yX6_init cX6_init 2 2 [.ref (E.2.1 88)] g r 0 (fun v g1 r1 z1 => v = none ∧ z1 = 0 ∧ (JG g1 ∧ (∀ i, i < 88 → ∀ j, g1 i j = g i j) ∧ ∀ i j, r1 i j = RFo (some 5) i j)) := by
  refine CtN.of (lv0 := [(0, .ref (E.2.1 88))]) (by decide) rfl (Nat.le_of_ble_eq_true rfl) rfl ?_
  intro p e s m below meth c cx hin hsz hKx
  refine gk_aload_n (pc' := 1) cx dX6_init_0 rfl rfl ?_
  refine gk_obj (pc' := 4) cx loX6_7 obw dX6_init_1 (Nat.le_of_ble_eq_true rfl) (Nat.le_of_ble_eq_true rfl) (Nat.le_of_ble_eq_true rfl) rfl ?_
  refine gk_aload_n (pc' := 5) cx dX6_init_4 rfl rfl ?_
  refine gk_sipush (pc' := 8) cx 960 dX6_init_5 rfl rfl ?_
  refine gk_newi (pc' := 10) cx hE (by omega) (fun h9 => absurd h9 (by decide)) (ltn rfl) kq89 ac_int dX6_init_8 (by decide) (by decide) (Nat.le_of_ble_eq_true rfl) (Nat.le_of_ble_eq_true rfl) (Nat.le_of_ble_eq_true rfl) (fun j9 => hg 89 (by omega) j9) rfl ?_
  refine gk_putF (pc' := 13) (ty := .array .int) cx hin fX6_13 dX6_init_10 kq88 (ltn rfl) (ltn rfl) rfl rfl rfl (by decide +kernel) ⟨rfl, rfl⟩ rfl ?_
  refine gk_aload_n (pc' := 14) cx dX6_init_13 rfl rfl ?_
  refine gk_bipush (pc' := 16) cx 6 dX6_init_14 rfl rfl ?_
  refine gk_newi (pc' := 18) cx hE (by omega) (fun h9 => absurd h9 (by decide)) (ltn rfl) kq90 ac_int dX6_init_16 (by decide) (by decide) (Nat.le_of_ble_eq_true rfl) (Nat.le_of_ble_eq_true rfl) (Nat.le_of_ble_eq_true rfl) (fun j9 => hg 90 (by omega) j9) rfl ?_
  refine gk_putF (pc' := 21) (ty := .array .int) cx hin fX6_17 dX6_init_18 kq88 (ltn rfl) (ltn rfl) rfl rfl rfl (by decide +kernel) ⟨rfl, rfl⟩ rfl ?_
  refine gk_aload_n (pc' := 22) cx dX6_init_21 rfl rfl ?_
  refine gk_sipush (pc' := 25) cx 160 dX6_init_22 rfl rfl ?_
  refine gk_newi (pc' := 27) cx hE (by omega) (fun h9 => absurd h9 (by decide)) (ltn rfl) kq91 ac_int dX6_init_25 (by decide) (by decide) (Nat.le_of_ble_eq_true rfl) (Nat.le_of_ble_eq_true rfl) (Nat.le_of_ble_eq_true rfl) (fun j9 => hg 91 (by omega) j9) rfl ?_
  refine gk_putF (pc' := 30) (ty := .array .int) cx hin fX6_20 dX6_init_27 kq88 (ltn rfl) (ltn rfl) rfl rfl rfl (by decide +kernel) ⟨rfl, rfl⟩ rfl ?_
  refine gk_aload_n (pc' := 31) cx dX6_init_30 rfl rfl ?_
  refine gk_iconst (pc' := 32) cx 4 dX6_init_31 rfl rfl ?_
  refine gk_newi (pc' := 34) cx hE (by omega) (fun h9 => absurd h9 (by decide)) (ltn rfl) kq92 ac_int dX6_init_32 (by decide) (by decide) (Nat.le_of_ble_eq_true rfl) (Nat.le_of_ble_eq_true rfl) (Nat.le_of_ble_eq_true rfl) (fun j9 => hg 92 (by omega) j9) rfl ?_
  refine gk_putF (pc' := 37) (ty := .array .int) cx hin fX6_23 dX6_init_34 kq88 (ltn rfl) (ltn rfl) rfl rfl rfl (by decide +kernel) ⟨rfl, rfl⟩ rfl ?_
  refine gk_aload_n (pc' := 38) cx dX6_init_37 rfl rfl ?_
  refine gk_iconst (pc' := 39) cx 4 dX6_init_38 rfl rfl ?_
  refine gk_newi (pc' := 41) cx hE (by omega) (fun h9 => absurd h9 (by decide)) (ltn rfl) kq93 ac_int dX6_init_39 (by decide) (by decide) (Nat.le_of_ble_eq_true rfl) (Nat.le_of_ble_eq_true rfl) (Nat.le_of_ble_eq_true rfl) (fun j9 => hg 93 (by omega) j9) rfl ?_
  refine gk_putF (pc' := 44) (ty := .array .int) cx hin fX6_26 dX6_init_41 kq88 (ltn rfl) (ltn rfl) rfl rfl rfl (by decide +kernel) ⟨rfl, rfl⟩ rfl ?_
  refine gk_aload_n (pc' := 45) cx dX6_init_44 rfl rfl ?_
  refine gk_iconst (pc' := 46) cx 4 dX6_init_45 rfl rfl ?_
  refine gk_newi (pc' := 48) cx hE (by omega) (fun h9 => absurd h9 (by decide)) (ltn rfl) kq94 ac_int dX6_init_46 (by decide) (by decide) (Nat.le_of_ble_eq_true rfl) (Nat.le_of_ble_eq_true rfl) (Nat.le_of_ble_eq_true rfl) (fun j9 => hg 94 (by omega) j9) rfl ?_
  refine gk_putF (pc' := 51) (ty := .array .int) cx hin fX6_29 dX6_init_48 kq88 (ltn rfl) (ltn rfl) rfl rfl rfl (by decide +kernel) ⟨rfl, rfl⟩ rfl ?_
  refine gk_aload_n (pc' := 52) cx dX6_init_51 rfl rfl ?_
  refine gk_iconst (pc' := 53) cx (-1) dX6_init_52 rfl rfl ?_
  refine gk_puti (pc' := 56) cx fX6_32 dX6_init_53 kq88 (ltn rfl) (ltn rfl) rfl rfl rfl rfl ?_
  refine gk_aload_n (pc' := 57) cx dX6_init_56 rfl rfl ?_
  refine gk_iconst (pc' := 58) cx 5 dX6_init_57 rfl rfl ?_
  refine gk_newi (pc' := 60) cx hE (by omega) (fun h9 => absurd h9 (by decide)) (ltn rfl) kq95 ac_int dX6_init_58 (by decide) (by decide) (Nat.le_of_ble_eq_true rfl) (Nat.le_of_ble_eq_true rfl) (Nat.le_of_ble_eq_true rfl) (fun j9 => hg 95 (by omega) j9) rfl ?_
  refine gk_putF (pc' := 63) (ty := .array .int) cx hin fX6_35 dX6_init_60 kq88 (ltn rfl) (ltn rfl) rfl rfl rfl (by decide +kernel) ⟨rfl, rfl⟩ rfl ?_
  refine gk_aload_n (pc' := 64) cx dX6_init_63 rfl rfl ?_
  refine gk_iconst (pc' := 65) cx 5 dX6_init_64 rfl rfl ?_
  refine gk_newi (pc' := 67) cx hE (by omega) (fun h9 => absurd h9 (by decide)) (ltn rfl) kq96 ac_int dX6_init_65 (by decide) (by decide) (Nat.le_of_ble_eq_true rfl) (Nat.le_of_ble_eq_true rfl) (Nat.le_of_ble_eq_true rfl) (fun j9 => hg 96 (by omega) j9) rfl ?_
  refine gk_putF (pc' := 70) (ty := .array .int) cx hin fX6_38 dX6_init_67 kq88 (ltn rfl) (ltn rfl) rfl rfl rfl (by decide +kernel) ⟨rfl, rfl⟩ rfl ?_
  refine gk_aload_n (pc' := 71) cx dX6_init_70 rfl rfl ?_
  refine gk_iconst (pc' := 72) cx 5 dX6_init_71 rfl rfl ?_
  refine gk_newi (pc' := 74) cx hE (by omega) (fun h9 => absurd h9 (by decide)) (ltn rfl) kq97 ac_int dX6_init_72 (by decide) (by decide) (Nat.le_of_ble_eq_true rfl) (Nat.le_of_ble_eq_true rfl) (Nat.le_of_ble_eq_true rfl) (fun j9 => hg 97 (by omega) j9) rfl ?_
  refine gk_putF (pc' := 77) (ty := .array .int) cx hin fX6_41 dX6_init_74 kq88 (ltn rfl) (ltn rfl) rfl rfl rfl (by decide +kernel) ⟨rfl, rfl⟩ rfl ?_
  refine gk_aload_n (pc' := 78) cx dX6_init_77 rfl rfl ?_
  refine gk_iconst (pc' := 79) cx 5 dX6_init_78 rfl rfl ?_
  refine gk_newi (pc' := 81) cx hE (by omega) (fun h9 => absurd h9 (by decide)) (ltn rfl) kq98 ac_int dX6_init_79 (by decide) (by decide) (Nat.le_of_ble_eq_true rfl) (Nat.le_of_ble_eq_true rfl) (Nat.le_of_ble_eq_true rfl) (fun j9 => hg 98 (by omega) j9) rfl ?_
  refine gk_putF (pc' := 84) (ty := .array .int) cx hin fX6_44 dX6_init_81 kq88 (ltn rfl) (ltn rfl) rfl rfl rfl (by decide +kernel) ⟨rfl, rfl⟩ rfl ?_
  refine gk_aload_n (pc' := 85) cx dX6_init_84 rfl rfl ?_
  refine gk_bipush (pc' := 87) cx 8 dX6_init_85 rfl rfl ?_
  refine gk_newi (pc' := 89) cx hE (by omega) (fun h9 => absurd h9 (by decide)) (ltn rfl) kq99 ac_int dX6_init_87 (by decide) (by decide) (Nat.le_of_ble_eq_true rfl) (Nat.le_of_ble_eq_true rfl) (Nat.le_of_ble_eq_true rfl) (fun j9 => hg 99 (by omega) j9) rfl ?_
  refine gk_putF (pc' := 92) (ty := .array .int) cx hin fX6_47 dX6_init_89 kq88 (ltn rfl) (ltn rfl) rfl rfl rfl (by decide +kernel) ⟨rfl, rfl⟩ rfl ?_
  refine gk_aload_n (pc' := 93) cx dX6_init_92 rfl rfl ?_
  refine gk_bipush (pc' := 95) cx 8 dX6_init_93 rfl rfl ?_
  refine gk_newi (pc' := 97) cx hE (by omega) (fun h9 => absurd h9 (by decide)) (ltn rfl) kq100 ac_int dX6_init_95 (by decide) (by decide) (Nat.le_of_ble_eq_true rfl) (Nat.le_of_ble_eq_true rfl) (Nat.le_of_ble_eq_true rfl) (fun j9 => hg 100 (by omega) j9) rfl ?_
  refine gk_putF (pc' := 100) (ty := .array .int) cx hin fX6_50 dX6_init_97 kq88 (ltn rfl) (ltn rfl) rfl rfl rfl (by decide +kernel) ⟨rfl, rfl⟩ rfl ?_
  refine gk_aload_n (pc' := 101) cx dX6_init_100 rfl rfl ?_
  refine gk_bipush (pc' := 103) cx 8 dX6_init_101 rfl rfl ?_
  refine gk_newi (pc' := 105) cx hE (by omega) (fun h9 => absurd h9 (by decide)) (ltn rfl) kq101 ac_int dX6_init_103 (by decide) (by decide) (Nat.le_of_ble_eq_true rfl) (Nat.le_of_ble_eq_true rfl) (Nat.le_of_ble_eq_true rfl) (fun j9 => hg 101 (by omega) j9) rfl ?_
  refine gk_putF (pc' := 108) (ty := .array .int) cx hin fX6_53 dX6_init_105 kq88 (ltn rfl) (ltn rfl) rfl rfl rfl (by decide +kernel) ⟨rfl, rfl⟩ rfl ?_
  refine gk_aload_n (pc' := 109) cx dX6_init_108 rfl rfl ?_
  refine gk_sipush (pc' := 112) cx 22528 dX6_init_109 rfl rfl ?_
  refine gk_newi (pc' := 114) cx hE (by omega) (fun h9 => absurd h9 (by decide)) (ltn rfl) kq102 ac_int dX6_init_112 (by decide) (by decide) (Nat.le_of_ble_eq_true rfl) (Nat.le_of_ble_eq_true rfl) (Nat.le_of_ble_eq_true rfl) (fun j9 => hg 102 (by omega) j9) rfl ?_
  refine gk_putF (pc' := 117) (ty := .array .int) cx hin fX6_56 dX6_init_114 kq88 (ltn rfl) (ltn rfl) rfl rfl rfl (by decide +kernel) ⟨rfl, rfl⟩ rfl ?_
  refine gk_aload_n (pc' := 118) cx dX6_init_117 rfl rfl ?_
  refine gk_bipush (pc' := 120) cx 8 dX6_init_118 rfl rfl ?_
  refine gk_newi (pc' := 122) cx hE (by omega) (fun h9 => absurd h9 (by decide)) (ltn rfl) kq103 ac_int dX6_init_120 (by decide) (by decide) (Nat.le_of_ble_eq_true rfl) (Nat.le_of_ble_eq_true rfl) (Nat.le_of_ble_eq_true rfl) (fun j9 => hg 103 (by omega) j9) rfl ?_
  refine gk_putF (pc' := 125) (ty := .array .int) cx hin fX6_59 dX6_init_122 kq88 (ltn rfl) (ltn rfl) rfl rfl rfl (by decide +kernel) ⟨rfl, rfl⟩ rfl ?_
  refine gk_aload_n (pc' := 126) cx dX6_init_125 rfl rfl ?_
  refine gk_bipush (pc' := 128) cx 32 dX6_init_126 rfl rfl ?_
  refine gk_newi (pc' := 130) cx hE (by omega) (fun h9 => absurd h9 (by decide)) (ltn rfl) kq104 ac_int dX6_init_128 (by decide) (by decide) (Nat.le_of_ble_eq_true rfl) (Nat.le_of_ble_eq_true rfl) (Nat.le_of_ble_eq_true rfl) (fun j9 => hg 104 (by omega) j9) rfl ?_
  refine gk_putF (pc' := 133) (ty := .array .int) cx hin fX6_62 dX6_init_130 kq88 (ltn rfl) (ltn rfl) rfl rfl rfl (by decide +kernel) ⟨rfl, rfl⟩ rfl ?_
  refine gk_aload_n (pc' := 134) cx dX6_init_133 rfl rfl ?_
  refine gk_bipush (pc' := 136) cx 8 dX6_init_134 rfl rfl ?_
  refine gk_newi (pc' := 138) cx hE (by omega) (fun h9 => absurd h9 (by decide)) (ltn rfl) kq105 ac_int dX6_init_136 (by decide) (by decide) (Nat.le_of_ble_eq_true rfl) (Nat.le_of_ble_eq_true rfl) (Nat.le_of_ble_eq_true rfl) (fun j9 => hg 105 (by omega) j9) rfl ?_
  refine gk_putF (pc' := 141) (ty := .array .int) cx hin fX6_65 dX6_init_138 kq88 (ltn rfl) (ltn rfl) rfl rfl rfl (by decide +kernel) ⟨rfl, rfl⟩ rfl ?_
  refine gk_aload_n (pc' := 142) cx dX6_init_141 rfl rfl ?_
  refine gk_bipush (pc' := 144) cx 8 dX6_init_142 rfl rfl ?_
  refine gk_newi (pc' := 146) cx hE (by omega) (fun h9 => absurd h9 (by decide)) (ltn rfl) kq106 ac_int dX6_init_144 (by decide) (by decide) (Nat.le_of_ble_eq_true rfl) (Nat.le_of_ble_eq_true rfl) (Nat.le_of_ble_eq_true rfl) (fun j9 => hg 106 (by omega) j9) rfl ?_
  refine gk_putF (pc' := 149) (ty := .array .int) cx hin fX6_68 dX6_init_146 kq88 (ltn rfl) (ltn rfl) rfl rfl rfl (by decide +kernel) ⟨rfl, rfl⟩ rfl ?_
  refine gk_aload_n (pc' := 150) cx dX6_init_149 rfl rfl ?_
  refine gk_bipush (pc' := 152) cx 8 dX6_init_150 rfl rfl ?_
  refine gk_newi (pc' := 154) cx hE (by omega) (fun h9 => absurd h9 (by decide)) (ltn rfl) kq107 ac_int dX6_init_152 (by decide) (by decide) (Nat.le_of_ble_eq_true rfl) (Nat.le_of_ble_eq_true rfl) (Nat.le_of_ble_eq_true rfl) (fun j9 => hg 107 (by omega) j9) rfl ?_
  refine gk_putF (pc' := 157) (ty := .array .int) cx hin fX6_71 dX6_init_154 kq88 (ltn rfl) (ltn rfl) rfl rfl rfl (by decide +kernel) ⟨rfl, rfl⟩ rfl ?_
  refine gk_aload_n (pc' := 158) cx dX6_init_157 rfl rfl ?_
  refine gk_bipush (pc' := 160) cx 12 dX6_init_158 rfl rfl ?_
  refine gk_newi (pc' := 162) cx hE (by omega) (fun h9 => absurd h9 (by decide)) (ltn rfl) kq108 ac_int dX6_init_160 (by decide) (by decide) (Nat.le_of_ble_eq_true rfl) (Nat.le_of_ble_eq_true rfl) (Nat.le_of_ble_eq_true rfl) (fun j9 => hg 108 (by omega) j9) rfl ?_
  refine gk_putF (pc' := 165) (ty := .array .int) cx hin fX6_74 dX6_init_162 kq88 (ltn rfl) (ltn rfl) rfl rfl rfl (by decide +kernel) ⟨rfl, rfl⟩ rfl ?_
  refine gk_aload_n (pc' := 166) cx dX6_init_165 rfl rfl ?_
  refine gk_bipush (pc' := 168) cx 15 dX6_init_166 rfl rfl ?_
  refine gk_newi (pc' := 170) cx hE (by omega) (fun h9 => absurd h9 (by decide)) (ltn rfl) kq109 ac_int dX6_init_168 (by decide) (by decide) (Nat.le_of_ble_eq_true rfl) (Nat.le_of_ble_eq_true rfl) (Nat.le_of_ble_eq_true rfl) (fun j9 => hg 109 (by omega) j9) rfl ?_
  refine gk_putF (pc' := 173) (ty := .array .int) cx hin fX6_77 dX6_init_170 kq88 (ltn rfl) (ltn rfl) rfl rfl rfl (by decide +kernel) ⟨rfl, rfl⟩ rfl ?_
  refine gk_aload_n (pc' := 174) cx dX6_init_173 rfl rfl ?_
  refine gk_bipush (pc' := 176) cx 24 dX6_init_174 rfl rfl ?_
  refine gk_newi (pc' := 178) cx hE (by omega) (fun h9 => absurd h9 (by decide)) (ltn rfl) kq110 ac_int dX6_init_176 (by decide) (by decide) (Nat.le_of_ble_eq_true rfl) (Nat.le_of_ble_eq_true rfl) (Nat.le_of_ble_eq_true rfl) (fun j9 => hg 110 (by omega) j9) rfl ?_
  refine gk_putF (pc' := 181) (ty := .array .int) cx hin fX6_80 dX6_init_178 kq88 (ltn rfl) (ltn rfl) rfl rfl rfl (by decide +kernel) ⟨rfl, rfl⟩ rfl ?_
  refine gk_aload_n (pc' := 182) cx dX6_init_181 rfl rfl ?_
  refine gk_iconst (pc' := 183) cx (-1) dX6_init_182 rfl rfl ?_
  refine gk_puti (pc' := 186) cx fX6_83 dX6_init_183 kq88 (ltn rfl) (ltn rfl) rfl rfl rfl rfl ?_
  refine gk_aload_n (pc' := 187) cx dX6_init_186 rfl rfl ?_
  refine gk_iconst (pc' := 188) cx 4 dX6_init_187 rfl rfl ?_
  refine gk_newz (pc' := 190) cx hE (by omega) (fun h9 => absurd h9 (by decide)) (ltn rfl) kq111 ac_boolean dX6_init_188 (by decide) (by decide) (Nat.le_of_ble_eq_true rfl) (Nat.le_of_ble_eq_true rfl) (Nat.le_of_ble_eq_true rfl) (fun j9 => hg 111 (by omega) j9) rfl ?_
  refine gk_putF (pc' := 193) (ty := .array .boolean) cx hin fX6_86 dX6_init_190 kq88 (ltn rfl) (ltn rfl) rfl rfl rfl (by decide +kernel) ⟨rfl, rfl⟩ rfl ?_
  refine gk_aload_n (pc' := 194) cx dX6_init_193 rfl rfl ?_
  refine gk_iconst (pc' := 195) cx 4 dX6_init_194 rfl rfl ?_
  refine gk_newi (pc' := 197) cx hE (by omega) (fun h9 => absurd h9 (by decide)) (ltn rfl) kq112 ac_int dX6_init_195 (by decide) (by decide) (Nat.le_of_ble_eq_true rfl) (Nat.le_of_ble_eq_true rfl) (Nat.le_of_ble_eq_true rfl) (fun j9 => hg 112 (by omega) j9) rfl ?_
  refine gk_putF (pc' := 200) (ty := .array .int) cx hin fX6_90 dX6_init_197 kq88 (ltn rfl) (ltn rfl) rfl rfl rfl (by decide +kernel) ⟨rfl, rfl⟩ rfl ?_
  refine gk_aload_n (pc' := 201) cx dX6_init_200 rfl rfl ?_
  refine gk_iconst (pc' := 202) cx 4 dX6_init_201 rfl rfl ?_
  refine gk_newi (pc' := 204) cx hE (by omega) (fun h9 => absurd h9 (by decide)) (ltn rfl) kq113 ac_int dX6_init_202 (by decide) (by decide) (Nat.le_of_ble_eq_true rfl) (Nat.le_of_ble_eq_true rfl) (Nat.le_of_ble_eq_true rfl) (fun j9 => hg 113 (by omega) j9) rfl ?_
  refine gk_putF (pc' := 207) (ty := .array .int) cx hin fX6_93 dX6_init_204 kq88 (ltn rfl) (ltn rfl) rfl rfl rfl (by decide +kernel) ⟨rfl, rfl⟩ rfl ?_
  refine gk_aload_n (pc' := 208) cx dX6_init_207 rfl rfl ?_
  refine gk_sipush (pc' := 211) cx 160 dX6_init_208 rfl rfl ?_
  refine gk_newi (pc' := 213) cx hE (by omega) (fun h9 => absurd h9 (by decide)) (ltn rfl) kq114 ac_int dX6_init_211 (by decide) (by decide) (Nat.le_of_ble_eq_true rfl) (Nat.le_of_ble_eq_true rfl) (Nat.le_of_ble_eq_true rfl) (fun j9 => hg 114 (by omega) j9) rfl ?_
  refine gk_putF (pc' := 216) (ty := .array .int) cx hin fX6_96 dX6_init_213 kq88 (ltn rfl) (ltn rfl) rfl rfl rfl (by decide +kernel) ⟨rfl, rfl⟩ rfl ?_
  refine gk_iconst (pc' := 217) cx 0 dX6_init_216 rfl rfl ?_
  refine gk_istore_n (pc' := 218) cx dX6_init_217 (ltn rfl) [(1, .int 0), (0, .ref (E.2.1 88))] rfl rfl ?_
  refine gk_iload_n (pc' := 219) cx dX6_init_218 rfl rfl ?_
  refine gk_iconst (pc' := 220) cx 4 dX6_init_219 rfl rfl ?_
  refine gk_icmp_ge (pc' := 223) cx 253 dX6_init_220 rfl rfl (fun hh => absurd hh (by decide)) (fun _ => ?_)
  refine gk_aload_n (pc' := 224) cx dX6_init_223 rfl rfl ?_
  refine gk_getr (pc' := 227) cx 92 fX6_23 dX6_init_224 kq88 (ltn rfl) (ltn rfl) rfl rfl rfl ?_
  refine gk_iload_n (pc' := 228) cx dX6_init_227 rfl rfl ?_
  refine gk_bipush (pc' := 230) cx 40 dX6_init_228 rfl rfl ?_
  refine gk_iastk (pc' := 231) cx 0 dX6_init_230 kq92 (ltn rfl) (vpi (k := 0) (a := 1) (ltn rfl) rfl rfl) (cli (k := 0) (a := 1) (ltn rfl) rfl) rfl ?_
  refine gk_aload_n (pc' := 232) cx dX6_init_231 rfl rfl ?_
  refine gk_getr (pc' := 235) cx 93 fX6_26 dX6_init_232 kq88 (ltn rfl) (ltn rfl) rfl rfl rfl ?_
  refine gk_iload_n (pc' := 236) cx dX6_init_235 rfl rfl ?_
  refine gk_bipush (pc' := 238) cx 40 dX6_init_236 rfl rfl ?_
  refine gk_iastk (pc' := 239) cx 0 dX6_init_238 kq93 (ltn rfl) (vpi (k := 0) (a := 1) (ltn rfl) rfl rfl) (cli (k := 0) (a := 1) (ltn rfl) rfl) rfl ?_
  refine gk_aload_n (pc' := 240) cx dX6_init_239 rfl rfl ?_
  refine gk_getr (pc' := 243) cx 94 fX6_29 dX6_init_240 kq88 (ltn rfl) (ltn rfl) rfl rfl rfl ?_
  refine gk_iload_n (pc' := 244) cx dX6_init_243 rfl rfl ?_
  refine gk_bipush (pc' := 246) cx 40 dX6_init_244 rfl rfl ?_
  refine gk_iastk (pc' := 247) cx 0 dX6_init_246 kq94 (ltn rfl) (vpi (k := 0) (a := 1) (ltn rfl) rfl rfl) (cli (k := 0) (a := 1) (ltn rfl) rfl) rfl ?_
  refine gk_iinc (pc' := 250) cx 1 dX6_init_247 rfl rfl (ltn rfl) [(1, .int 1), (0, .ref (E.2.1 88))] rfl rfl ?_
  refine gk_goto cx 218 dX6_init_250 rfl ?_
  refine gk_iload_n (pc' := 219) cx dX6_init_218 rfl rfl ?_
  refine gk_iconst (pc' := 220) cx 4 dX6_init_219 rfl rfl ?_
  refine gk_icmp_ge (pc' := 223) cx 253 dX6_init_220 rfl rfl (fun hh => absurd hh (by decide)) (fun _ => ?_)
  refine gk_aload_n (pc' := 224) cx dX6_init_223 rfl rfl ?_
  refine gk_getr (pc' := 227) cx 92 fX6_23 dX6_init_224 kq88 (ltn rfl) (ltn rfl) rfl rfl rfl ?_
  refine gk_iload_n (pc' := 228) cx dX6_init_227 rfl rfl ?_
  refine gk_bipush (pc' := 230) cx 40 dX6_init_228 rfl rfl ?_
  refine gk_iastk (pc' := 231) cx 1 dX6_init_230 kq92 (ltn rfl) (vpi (k := 1) (a := 2) (ltn rfl) rfl rfl) (cli (k := 1) (a := 2) (ltn rfl) rfl) rfl ?_
  refine gk_aload_n (pc' := 232) cx dX6_init_231 rfl rfl ?_
  refine gk_getr (pc' := 235) cx 93 fX6_26 dX6_init_232 kq88 (ltn rfl) (ltn rfl) rfl rfl rfl ?_
  refine gk_iload_n (pc' := 236) cx dX6_init_235 rfl rfl ?_
  refine gk_bipush (pc' := 238) cx 40 dX6_init_236 rfl rfl ?_
  refine gk_iastk (pc' := 239) cx 1 dX6_init_238 kq93 (ltn rfl) (vpi (k := 1) (a := 2) (ltn rfl) rfl rfl) (cli (k := 1) (a := 2) (ltn rfl) rfl) rfl ?_
  refine gk_aload_n (pc' := 240) cx dX6_init_239 rfl rfl ?_
  refine gk_getr (pc' := 243) cx 94 fX6_29 dX6_init_240 kq88 (ltn rfl) (ltn rfl) rfl rfl rfl ?_
  refine gk_iload_n (pc' := 244) cx dX6_init_243 rfl rfl ?_
  refine gk_bipush (pc' := 246) cx 40 dX6_init_244 rfl rfl ?_
  refine gk_iastk (pc' := 247) cx 1 dX6_init_246 kq94 (ltn rfl) (vpi (k := 1) (a := 2) (ltn rfl) rfl rfl) (cli (k := 1) (a := 2) (ltn rfl) rfl) rfl ?_
  refine gk_iinc (pc' := 250) cx 2 dX6_init_247 rfl rfl (ltn rfl) [(1, .int 2), (0, .ref (E.2.1 88))] rfl rfl ?_
  refine gk_goto cx 218 dX6_init_250 rfl ?_
  refine gk_iload_n (pc' := 219) cx dX6_init_218 rfl rfl ?_
  refine gk_iconst (pc' := 220) cx 4 dX6_init_219 rfl rfl ?_
  refine gk_icmp_ge (pc' := 223) cx 253 dX6_init_220 rfl rfl (fun hh => absurd hh (by decide)) (fun _ => ?_)
  refine gk_aload_n (pc' := 224) cx dX6_init_223 rfl rfl ?_
  refine gk_getr (pc' := 227) cx 92 fX6_23 dX6_init_224 kq88 (ltn rfl) (ltn rfl) rfl rfl rfl ?_
  refine gk_iload_n (pc' := 228) cx dX6_init_227 rfl rfl ?_
  refine gk_bipush (pc' := 230) cx 40 dX6_init_228 rfl rfl ?_
  refine gk_iastk (pc' := 231) cx 2 dX6_init_230 kq92 (ltn rfl) (vpi (k := 2) (a := 3) (ltn rfl) rfl rfl) (cli (k := 2) (a := 3) (ltn rfl) rfl) rfl ?_
  refine gk_aload_n (pc' := 232) cx dX6_init_231 rfl rfl ?_
  refine gk_getr (pc' := 235) cx 93 fX6_26 dX6_init_232 kq88 (ltn rfl) (ltn rfl) rfl rfl rfl ?_
  refine gk_iload_n (pc' := 236) cx dX6_init_235 rfl rfl ?_
  refine gk_bipush (pc' := 238) cx 40 dX6_init_236 rfl rfl ?_
  refine gk_iastk (pc' := 239) cx 2 dX6_init_238 kq93 (ltn rfl) (vpi (k := 2) (a := 3) (ltn rfl) rfl rfl) (cli (k := 2) (a := 3) (ltn rfl) rfl) rfl ?_
  refine gk_aload_n (pc' := 240) cx dX6_init_239 rfl rfl ?_
  refine gk_getr (pc' := 243) cx 94 fX6_29 dX6_init_240 kq88 (ltn rfl) (ltn rfl) rfl rfl rfl ?_
  refine gk_iload_n (pc' := 244) cx dX6_init_243 rfl rfl ?_
  refine gk_bipush (pc' := 246) cx 40 dX6_init_244 rfl rfl ?_
  refine gk_iastk (pc' := 247) cx 2 dX6_init_246 kq94 (ltn rfl) (vpi (k := 2) (a := 3) (ltn rfl) rfl rfl) (cli (k := 2) (a := 3) (ltn rfl) rfl) rfl ?_
  refine gk_iinc (pc' := 250) cx 3 dX6_init_247 rfl rfl (ltn rfl) [(1, .int 3), (0, .ref (E.2.1 88))] rfl rfl ?_
  refine gk_goto cx 218 dX6_init_250 rfl ?_
  refine gk_iload_n (pc' := 219) cx dX6_init_218 rfl rfl ?_
  refine gk_iconst (pc' := 220) cx 4 dX6_init_219 rfl rfl ?_
  refine gk_icmp_ge (pc' := 223) cx 253 dX6_init_220 rfl rfl (fun hh => absurd hh (by decide)) (fun _ => ?_)
  refine gk_aload_n (pc' := 224) cx dX6_init_223 rfl rfl ?_
  refine gk_getr (pc' := 227) cx 92 fX6_23 dX6_init_224 kq88 (ltn rfl) (ltn rfl) rfl rfl rfl ?_
  refine gk_iload_n (pc' := 228) cx dX6_init_227 rfl rfl ?_
  refine gk_bipush (pc' := 230) cx 40 dX6_init_228 rfl rfl ?_
  refine gk_iastk (pc' := 231) cx 3 dX6_init_230 kq92 (ltn rfl) (vpi (k := 3) (a := 4) (ltn rfl) rfl rfl) (cli (k := 3) (a := 4) (ltn rfl) rfl) rfl ?_
  refine gk_aload_n (pc' := 232) cx dX6_init_231 rfl rfl ?_
  refine gk_getr (pc' := 235) cx 93 fX6_26 dX6_init_232 kq88 (ltn rfl) (ltn rfl) rfl rfl rfl ?_
  refine gk_iload_n (pc' := 236) cx dX6_init_235 rfl rfl ?_
  refine gk_bipush (pc' := 238) cx 40 dX6_init_236 rfl rfl ?_
  refine gk_iastk (pc' := 239) cx 3 dX6_init_238 kq93 (ltn rfl) (vpi (k := 3) (a := 4) (ltn rfl) rfl rfl) (cli (k := 3) (a := 4) (ltn rfl) rfl) rfl ?_
  refine gk_aload_n (pc' := 240) cx dX6_init_239 rfl rfl ?_
  refine gk_getr (pc' := 243) cx 94 fX6_29 dX6_init_240 kq88 (ltn rfl) (ltn rfl) rfl rfl rfl ?_
  refine gk_iload_n (pc' := 244) cx dX6_init_243 rfl rfl ?_
  refine gk_bipush (pc' := 246) cx 40 dX6_init_244 rfl rfl ?_
  refine gk_iastk (pc' := 247) cx 3 dX6_init_246 kq94 (ltn rfl) (vpi (k := 3) (a := 4) (ltn rfl) rfl rfl) (cli (k := 3) (a := 4) (ltn rfl) rfl) rfl ?_
  refine gk_iinc (pc' := 250) cx 4 dX6_init_247 rfl rfl (ltn rfl) [(1, .int 4), (0, .ref (E.2.1 88))] rfl rfl ?_
  refine gk_goto cx 218 dX6_init_250 rfl ?_
  refine gk_iload_n (pc' := 219) cx dX6_init_218 rfl rfl ?_
  refine gk_iconst (pc' := 220) cx 4 dX6_init_219 rfl rfl ?_
  refine gk_icmp_ge (pc' := 223) cx 253 dX6_init_220 rfl rfl (fun _ => ?_) (fun hh => absurd hh (by decide))
  refine gk_aload_n (pc' := 254) cx dX6_init_253 rfl rfl ?_
  refine gk_iconst (pc' := 255) cx 0 dX6_init_254 rfl rfl ?_
  refine gk_bipush (pc' := 257) cx 103 dX6_init_255 rfl rfl ?_
  refine gk_bipush (pc' := 259) cx 114 dX6_init_257 rfl rfl ?_
  refine gk_bipush (pc' := 261) cx 111 dX6_init_259 rfl rfl ?_
  refine gk_bipush (pc' := 263) cx 119 dX6_init_261 rfl rfl ?_
  refine gk_bipush (pc' := 265) cx 115 dX6_init_263 rfl rfl ?_
  refine gk_bipush (pc' := 267) cx 32 dX6_init_265 rfl rfl ?_
  refine gk_bipush (pc' := 269) cx 119 dX6_init_267 rfl rfl ?_
  refine gk_bipush (pc' := 271) cx 101 dX6_init_269 rfl rfl ?_
  refine gk_cVu (pc' := 274) cx (Nat.le_of_ble_eq_true rfl) (c_X6_spell l E (a := 0) (by omega) rfl 103 114 111 119 115 32 119 101) mX6_spell lX6_99 dX6_init_271 kq88 (ltn rfl) (ltn rfl) rfl rfl rfl ⟨(Nat.le_of_ble_eq_true rfl), (Nat.le_of_ble_eq_true rfl)⟩ (Nat.le_of_ble_eq_true rfl) rfl ⟨(Nat.le_of_ble_eq_true rfl), (Nat.le_of_ble_eq_true rfl)⟩ ?_
  refine gk_aload_n (pc' := 275) cx dX6_init_274 rfl rfl ?_
  refine gk_bipush (pc' := 277) cx 8 dX6_init_275 rfl rfl ?_
  refine gk_bipush (pc' := 279) cx 101 dX6_init_277 rfl rfl ?_
  refine gk_bipush (pc' := 281) cx 107 dX6_init_279 rfl rfl ?_
  refine gk_bipush (pc' := 283) cx 115 dX6_init_281 rfl rfl ?_
  refine gk_bipush (pc' := 285) cx 32 dX6_init_283 rfl rfl ?_
  refine gk_bipush (pc' := 287) cx 42 dX6_init_285 rfl rfl ?_
  refine gk_bipush (pc' := 289) cx 32 dX6_init_287 rfl rfl ?_
  refine gk_bipush (pc' := 291) cx 50 dX6_init_289 rfl rfl ?_
  refine gk_bipush (pc' := 293) cx 32 dX6_init_291 rfl rfl ?_
  refine gk_cVu (pc' := 296) cx (Nat.le_of_ble_eq_true rfl) (c_X6_spell l E (a := 8) (by omega) rfl 101 107 115 32 42 32 50 32) mX6_spell lX6_99 dX6_init_293 kq88 (ltn rfl) (ltn rfl) rfl rfl rfl ⟨(Nat.le_of_ble_eq_true rfl), (Nat.le_of_ble_eq_true rfl)⟩ (Nat.le_of_ble_eq_true rfl) rfl ⟨(Nat.le_of_ble_eq_true rfl), (Nat.le_of_ble_eq_true rfl)⟩ ?_
  refine gk_aload_n (pc' := 297) cx dX6_init_296 rfl rfl ?_
  refine gk_bipush (pc' := 299) cx 16 dX6_init_297 rfl rfl ?_
  refine gk_bipush (pc' := 301) cx 59 dX6_init_299 rfl rfl ?_
  refine gk_bipush (pc' := 303) cx 32 dX6_init_301 rfl rfl ?_
  refine gk_bipush (pc' := 305) cx 101 dX6_init_303 rfl rfl ?_
  refine gk_bipush (pc' := 307) cx 118 dX6_init_305 rfl rfl ?_
  refine gk_bipush (pc' := 309) cx 101 dX6_init_307 rfl rfl ?_
  refine gk_bipush (pc' := 311) cx 110 dX6_init_309 rfl rfl ?_
  refine gk_bipush (pc' := 313) cx 115 dX6_init_311 rfl rfl ?_
  refine gk_bipush (pc' := 315) cx 32 dX6_init_313 rfl rfl ?_
  refine gk_cVu (pc' := 318) cx (Nat.le_of_ble_eq_true rfl) (c_X6_spell l E (a := 16) (by omega) rfl 59 32 101 118 101 110 115 32) mX6_spell lX6_99 dX6_init_315 kq88 (ltn rfl) (ltn rfl) rfl rfl rfl ⟨(Nat.le_of_ble_eq_true rfl), (Nat.le_of_ble_eq_true rfl)⟩ (Nat.le_of_ble_eq_true rfl) rfl ⟨(Nat.le_of_ble_eq_true rfl), (Nat.le_of_ble_eq_true rfl)⟩ ?_
  refine gk_aload_n (pc' := 319) cx dX6_init_318 rfl rfl ?_
  refine gk_bipush (pc' := 321) cx 24 dX6_init_319 rfl rfl ?_
  refine gk_bipush (pc' := 323) cx 49 dX6_init_321 rfl rfl ?_
  refine gk_bipush (pc' := 325) cx 32 dX6_init_323 rfl rfl ?_
  refine gk_bipush (pc' := 327) cx 59 dX6_init_325 rfl rfl ?_
  refine gk_bipush (pc' := 329) cx 32 dX6_init_327 rfl rfl ?_
  refine gk_bipush (pc' := 331) cx 109 dX6_init_329 rfl rfl ?_
  refine gk_bipush (pc' := 333) cx 105 dX6_init_331 rfl rfl ?_
  refine gk_bipush (pc' := 335) cx 110 dX6_init_333 rfl rfl ?_
  refine gk_bipush (pc' := 337) cx 100 dX6_init_335 rfl rfl ?_
  refine gk_cVu (pc' := 340) cx (Nat.le_of_ble_eq_true rfl) (c_X6_spell l E (a := 24) (by omega) rfl 49 32 59 32 109 105 110 100) mX6_spell lX6_99 dX6_init_337 kq88 (ltn rfl) (ltn rfl) rfl rfl rfl ⟨(Nat.le_of_ble_eq_true rfl), (Nat.le_of_ble_eq_true rfl)⟩ (Nat.le_of_ble_eq_true rfl) rfl ⟨(Nat.le_of_ble_eq_true rfl), (Nat.le_of_ble_eq_true rfl)⟩ ?_
  refine gk_aload_n (pc' := 341) cx dX6_init_340 rfl rfl ?_
  refine gk_bipush (pc' := 343) cx 32 dX6_init_341 rfl rfl ?_
  refine gk_bipush (pc' := 345) cx 115 dX6_init_343 rfl rfl ?_
  refine gk_bipush (pc' := 347) cx 32 dX6_init_345 rfl rfl ?_
  refine gk_bipush (pc' := 349) cx 49 dX6_init_347 rfl rfl ?_
  refine gk_bipush (pc' := 351) cx 32 dX6_init_349 rfl rfl ?_
  refine gk_bipush (pc' := 353) cx 59 dX6_init_351 rfl rfl ?_
  refine gk_bipush (pc' := 355) cx 32 dX6_init_353 rfl rfl ?_
  refine gk_bipush (pc' := 357) cx 32 dX6_init_355 rfl rfl ?_
  refine gk_bipush (pc' := 359) cx 32 dX6_init_357 rfl rfl ?_
  refine gk_cVu (pc' := 362) cx (Nat.le_of_ble_eq_true rfl) (c_X6_spell l E (a := 32) (by omega) rfl 115 32 49 32 59 32 32 32) mX6_spell lX6_99 dX6_init_359 kq88 (ltn rfl) (ltn rfl) rfl rfl rfl ⟨(Nat.le_of_ble_eq_true rfl), (Nat.le_of_ble_eq_true rfl)⟩ (Nat.le_of_ble_eq_true rfl) rfl ⟨(Nat.le_of_ble_eq_true rfl), (Nat.le_of_ble_eq_true rfl)⟩ ?_
  refine gk_aload_n (pc' := 363) cx dX6_init_362 rfl rfl ?_
  refine gk_getr (pc' := 366) cx 90 fX6_17 dX6_init_363 kq88 (ltn rfl) (ltn rfl) rfl rfl rfl ?_
  refine gk_iconst (pc' := 367) cx 0 dX6_init_366 rfl rfl ?_
  refine gk_bipush (pc' := 369) cx 40 dX6_init_367 rfl rfl ?_
  refine gk_iastk (pc' := 370) cx 0 dX6_init_369 kq90 (ltn rfl) (vpi (k := 0) (a := 1) (ltn rfl) rfl rfl) (cli (k := 0) (a := 1) (ltn rfl) rfl) rfl ?_
  refine gk_aload_n (pc' := 371) cx dX6_init_370 rfl rfl ?_
  refine gk_iconst (pc' := 372) cx 1 dX6_init_371 rfl rfl ?_
  refine gk_puti (pc' := 375) cx fX6_103 dX6_init_372 kq88 (ltn rfl) (ltn rfl) rfl rfl rfl rfl ?_
  refine gk_vret cx rfl dX6_init_375 rfl ?_
  have hb : ∀ q, q < 40 → (up2 (up2 (up2 (up2 (up2 (up2 (up2 (up2 (up2 (up2 (up2 (up2 (up2 (up2 (up2 (up2 (up2 (up2 (up2 (up2 (up2 (up2 (up2 (up2 (up2 (up2 (up2 (up2 (up2 (up2 (up2 (up2 (up2 (up2 (up2 (up2 (up2 (up2 (up2 (up2 (up2 (up2 (up2 (up2 (up2 (up2 (up2 (up2 (up2 (up2 (up2 (up2 (up2 (up2 (up2 (up2 g 88 10 (-1)) 88 48 (-1)) 92 0 40) 93 0 40) 94 0 40) 92 1 40) 93 1 40) 94 1 40) 92 2 40) 93 2 40) 94 2 40) 92 3 40) 93 3 40) 94 3 40) 89 0 103) 89 1 114) 89 2 111) 89 3 119) 89 4 115) 89 5 32) 89 6 119) 89 7 101) 89 8 101) 89 9 107) 89 10 115) 89 11 32) 89 12 42) 89 13 32) 89 14 50) 89 15 32) 89 16 59) 89 17 32) 89 18 101) 89 19 118) 89 20 101) 89 21 110) 89 22 115) 89 23 32) 89 24 49) 89 25 32) 89 26 59) 89 27 32) 89 28 109) 89 29 105) 89 30 110) 89 31 100) 89 32 115) 89 33 32) 89 34 49) 89 35 32) 89 36 59) 89 37 32) 89 38 32) 89 39 32) 90 0 40) 88 3 1) 89 q = b40 q := fun q hq => match q, hq with
    | 0, _ => rfl
    | 1, _ => rfl
    | 2, _ => rfl
    | 3, _ => rfl
    | 4, _ => rfl
    | 5, _ => rfl
    | 6, _ => rfl
    | 7, _ => rfl
    | 8, _ => rfl
    | 9, _ => rfl
    | 10, _ => rfl
    | 11, _ => rfl
    | 12, _ => rfl
    | 13, _ => rfl
    | 14, _ => rfl
    | 15, _ => rfl
    | 16, _ => rfl
    | 17, _ => rfl
    | 18, _ => rfl
    | 19, _ => rfl
    | 20, _ => rfl
    | 21, _ => rfl
    | 22, _ => rfl
    | 23, _ => rfl
    | 24, _ => rfl
    | 25, _ => rfl
    | 26, _ => rfl
    | 27, _ => rfl
    | 28, _ => rfl
    | 29, _ => rfl
    | 30, _ => rfl
    | 31, _ => rfl
    | 32, _ => rfl
    | 33, _ => rfl
    | 34, _ => rfl
    | 35, _ => rfl
    | 36, _ => rfl
    | 37, _ => rfl
    | 38, _ => rfl
    | 39, _ => rfl
    | _ + 40, h => absurd h (by omega)
  refine ⟨rfl, rfl, ⟨rfl, rfl, rfl, ?_, ⟨40, by omega, rfl, ?_, ?_⟩, ?_⟩, fun i9 h9 j9 => ((up2_n _ _ (Or.inl (by omega))).trans ((up2_n _ _ (Or.inl (by omega))).trans ((up2_n _ _ (Or.inl (by omega))).trans ((up2_n _ _ (Or.inl (by omega))).trans ((up2_n _ _ (Or.inl (by omega))).trans ((up2_n _ _ (Or.inl (by omega))).trans ((up2_n _ _ (Or.inl (by omega))).trans ((up2_n _ _ (Or.inl (by omega))).trans ((up2_n _ _ (Or.inl (by omega))).trans ((up2_n _ _ (Or.inl (by omega))).trans ((up2_n _ _ (Or.inl (by omega))).trans ((up2_n _ _ (Or.inl (by omega))).trans ((up2_n _ _ (Or.inl (by omega))).trans ((up2_n _ _ (Or.inl (by omega))).trans ((up2_n _ _ (Or.inl (by omega))).trans ((up2_n _ _ (Or.inl (by omega))).trans ((up2_n _ _ (Or.inl (by omega))).trans ((up2_n _ _ (Or.inl (by omega))).trans ((up2_n _ _ (Or.inl (by omega))).trans ((up2_n _ _ (Or.inl (by omega))).trans ((up2_n _ _ (Or.inl (by omega))).trans ((up2_n _ _ (Or.inl (by omega))).trans ((up2_n _ _ (Or.inl (by omega))).trans ((up2_n _ _ (Or.inl (by omega))).trans ((up2_n _ _ (Or.inl (by omega))).trans ((up2_n _ _ (Or.inl (by omega))).trans ((up2_n _ _ (Or.inl (by omega))).trans ((up2_n _ _ (Or.inl (by omega))).trans ((up2_n _ _ (Or.inl (by omega))).trans ((up2_n _ _ (Or.inl (by omega))).trans ((up2_n _ _ (Or.inl (by omega))).trans ((up2_n _ _ (Or.inl (by omega))).trans ((up2_n _ _ (Or.inl (by omega))).trans ((up2_n _ _ (Or.inl (by omega))).trans ((up2_n _ _ (Or.inl (by omega))).trans ((up2_n _ _ (Or.inl (by omega))).trans ((up2_n _ _ (Or.inl (by omega))).trans ((up2_n _ _ (Or.inl (by omega))).trans ((up2_n _ _ (Or.inl (by omega))).trans ((up2_n _ _ (Or.inl (by omega))).trans ((up2_n _ _ (Or.inl (by omega))).trans ((up2_n _ _ (Or.inl (by omega))).trans ((up2_n _ _ (Or.inl (by omega))).trans ((up2_n _ _ (Or.inl (by omega))).trans ((up2_n _ _ (Or.inl (by omega))).trans ((up2_n _ _ (Or.inl (by omega))).trans ((up2_n _ _ (Or.inl (by omega))).trans ((up2_n _ _ (Or.inl (by omega))).trans ((up2_n _ _ (Or.inl (by omega))).trans ((up2_n _ _ (Or.inl (by omega))).trans ((up2_n _ _ (Or.inl (by omega))).trans ((up2_n _ _ (Or.inl (by omega))).trans ((up2_n _ _ (Or.inl (by omega))).trans ((up2_n _ _ (Or.inl (by omega))).trans ((up2_n _ _ (Or.inl (by omega))).trans ((up2_n _ _ (Or.inl (by omega))).trans rfl)))))))))))))))))))))))))))))))))))))))))))))))))))))))), ?_⟩
  · intro p hp
    rcases (show p = 0 ∨ p = 1 ∨ p = 2 ∨ p = 3 by omega) with rfl | rfl | rfl | rfl <;> exact ⟨rfl, rfl, rfl⟩
  · intro i hi
    rw [show 160 * 0 + i = i by omega, hb i hi]
    have hd : ∀ i, i < 40 → ¬ b40 i < 0 := by decide +kernel
    exact hd i hi
  · rw [← csO_40]
    refine RdOK_cg (T := b40) (fun i hi => ?_) (csO_ok rdF_40)
    exact (hb i hi).symm.trans (congrArg ((up2 (up2 (up2 (up2 (up2 (up2 (up2 (up2 (up2 (up2 (up2 (up2 (up2 (up2 (up2 (up2 (up2 (up2 (up2 (up2 (up2 (up2 (up2 (up2 (up2 (up2 (up2 (up2 (up2 (up2 (up2 (up2 (up2 (up2 (up2 (up2 (up2 (up2 (up2 (up2 (up2 (up2 (up2 (up2 (up2 (up2 (up2 (up2 (up2 (up2 (up2 (up2 (up2 (up2 (up2 (up2 g 88 10 (-1)) 88 48 (-1)) 92 0 40) 93 0 40) 94 0 40) 92 1 40) 93 1 40) 94 1 40) 92 2 40) 93 2 40) 94 2 40) 92 3 40) 93 3 40) 94 3 40) 89 0 103) 89 1 114) 89 2 111) 89 3 119) 89 4 115) 89 5 32) 89 6 119) 89 7 101) 89 8 101) 89 9 107) 89 10 115) 89 11 32) 89 12 42) 89 13 32) 89 14 50) 89 15 32) 89 16 59) 89 17 32) 89 18 101) 89 19 118) 89 20 101) 89 21 110) 89 22 115) 89 23 32) 89 24 49) 89 25 32) 89 26 59) 89 27 32) 89 28 109) 89 29 105) 89 30 110) 89 31 100) 89 32 115) 89 33 32) 89 34 49) 89 35 32) 89 36 59) 89 37 32) 89 38 32) 89 39 32) 90 0 40) 88 3 1) 89) (show i = 160 * 0 + i by omega))
  · intro i9 j9 h9 q9
    exact ((up2_n _ _ (by omega)).trans ((up2_n _ _ (by omega)).trans ((up2_n _ _ (by omega)).trans ((up2_n _ _ (by omega)).trans ((up2_n _ _ (by omega)).trans ((up2_n _ _ (by omega)).trans ((up2_n _ _ (by omega)).trans ((up2_n _ _ (by omega)).trans ((up2_n _ _ (by omega)).trans ((up2_n _ _ (by omega)).trans ((up2_n _ _ (by omega)).trans ((up2_n _ _ (by omega)).trans ((up2_n _ _ (by omega)).trans ((up2_n _ _ (by omega)).trans ((up2_n _ _ (by omega)).trans ((up2_n _ _ (by omega)).trans ((up2_n _ _ (by omega)).trans ((up2_n _ _ (by omega)).trans ((up2_n _ _ (by omega)).trans ((up2_n _ _ (by omega)).trans ((up2_n _ _ (by omega)).trans ((up2_n _ _ (by omega)).trans ((up2_n _ _ (by omega)).trans ((up2_n _ _ (by omega)).trans ((up2_n _ _ (by omega)).trans ((up2_n _ _ (by omega)).trans ((up2_n _ _ (by omega)).trans ((up2_n _ _ (by omega)).trans ((up2_n _ _ (by omega)).trans ((up2_n _ _ (by omega)).trans ((up2_n _ _ (by omega)).trans ((up2_n _ _ (by omega)).trans ((up2_n _ _ (by omega)).trans ((up2_n _ _ (by omega)).trans ((up2_n _ _ (by omega)).trans ((up2_n _ _ (by omega)).trans ((up2_n _ _ (by omega)).trans ((up2_n _ _ (by omega)).trans ((up2_n _ _ (by omega)).trans ((up2_n _ _ (by omega)).trans ((up2_n _ _ (by omega)).trans ((up2_n _ _ (by omega)).trans ((up2_n _ _ (by omega)).trans ((up2_n _ _ (by omega)).trans ((up2_n _ _ (by omega)).trans ((up2_n _ _ (by omega)).trans ((up2_n _ _ (by omega)).trans ((up2_n _ _ (by omega)).trans ((up2_n _ _ (by omega)).trans ((up2_n _ _ (by omega)).trans ((up2_n _ _ (by omega)).trans ((up2_n _ _ (by omega)).trans ((up2_n _ _ (by omega)).trans ((up2_n _ _ (by omega)).trans ((up2_n _ _ (by omega)).trans ((up2_n _ _ (by omega)).trans (hg i9 h9 j9)))))))))))))))))))))))))))))))))))))))))))))))))))))))))
  · intro i j
    show upLr r lst6 i j = _
    by_cases h8 : i < 88
    · exact (upLr_o lst6 (by decide) (by omega)).trans (hrr i h8 j)
    · exact (upLr_n (hr i (by omega) j) lst6).trans (lst6_ok i (by omega) j)

