/-! THE REFERENCE: a visit -/
def TMx (CS : CSt) (ru : Nat) : TM := fun k ev => clp (valF ev (CS ru k))
def svM (g : IG) : Sv := fun w => if w = 0 then g 92 else if w = 1 then g 93 else if w = 2 then g 94 else if w = 3 then (fun _ => g 88 10) else if w = 4 then g 96 else if w = 5 then g 97 else if w = 6 then g 98 else if w = 7 then g 99 else if w = 8 then g 100 else if w = 9 then g 101 else g 95
/-- lengths of 0 to 199 -/
def Ln (L : Nat → Int32) : Prop := ∀ p, p < 4 → ∃ n, n ≤ 199 ∧ L p = nI n
theorem clp_n (x : Int32) : ∃ m, m ≤ 99 ∧ clp x = nI m := by
  unfold clp
  by_cases h0 : 0 < (if x < 99 then x else 99)
  · rw [if_pos h0]
    refine nI_of2 (M := 99) (by decide) (fun q => absurd (Int32.lt_trans h0 q) (Int32.lt_irrefl)) ?_
    by_cases h : x < 99
    · rw [if_pos h]
      exact Int32.le_of_lt h
    · rw [if_neg h]
      exact Int32.le_refl _
  · rw [if_neg h0]
    exact ⟨0, by omega, rfl⟩
theorem pl_ab (x : Int32) : plnF x = ab x := by
  unfold plnF ab
  by_cases h : x < 0
  · rw [if_pos h, if_neg (Int32.not_le.mpr h)]
    simp
  · rw [if_neg h, if_pos (Int32.not_lt.mp h)]
theorem mx_n {j : Nat} (h : j < 2 ^ 31) : mx 0 (nI j) = nI j := by
  unfold mx
  by_cases h0 : (0 : Int32) < nI j
  · rw [if_pos h0]
  · rw [if_neg h0]
    by_cases e : j = 0
    · rw [e]; rfl
    · exact absurd ((nI_ltI (a := 0) (b := j) (by omega) h).mpr (by omega)) h0
theorem wit_mn {n m : Nat} (hn : n ≤ 199) (hm : m ≤ 99) : witF 0 199 (nI n + nI m) = mn 199 (nI n + nI m) ∧ ∃ k, k ≤ 199 ∧ mn 199 (nI n + nI m) = nI k := by
  rw [nI_add]
  have hk : n + m < 2 ^ 31 := by omega
  generalize n + m = k at hk
  unfold witF mn
  rw [if_neg (nI_pos hk)]
  by_cases h : k < 199
  · have h1 : nI k < 199 := (nI_ltI (b := 199) hk (by omega)).mpr h
    rw [if_pos h1, if_neg (fun q => absurd (Int32.lt_trans h1 q) (Int32.lt_irrefl))]
    exact ⟨rfl, k, by omega, rfl⟩
  · have h1 : ¬ nI k < 199 := fun q => h ((nI_ltI (b := 199) hk (by omega)).mp q)
    rw [if_neg h1]
    refine ⟨?_, 199, by omega, rfl⟩
    by_cases h2 : (199 : Int32) < nI k
    · rw [if_pos h2]
    · rw [if_neg h2]
      exact Int32.le_antisymm (Int32.not_lt.mp h2) (Int32.not_lt.mp h1)
/-- what is left of a length, as the reference has it -/
theorem mxmn {n : Nat} (hn : n ≤ 199) (e : Int32) : mx 0 (mn (nI n) e) = (if e < 0 then 0 else if e < nI n then e else nI n) ∧ ∃ m, m ≤ n ∧ mx 0 (mn (nI n) e) = nI m := by
  have hb : n < 2 ^ 31 := by omega
  by_cases h0 : e < 0
  · have h1 : e < nI n := Int32.lt_of_lt_of_le h0 (nI_pos' hb)
    have h2 : mx 0 (mn (nI n) e) = 0 := by
      unfold mx mn
      rw [if_pos h1, if_neg (fun q => absurd (Int32.lt_trans h0 q) (Int32.lt_irrefl))]
    rw [h2, if_pos h0]
    exact ⟨rfl, 0, by omega, rfl⟩
  · rw [if_neg h0]
    obtain ⟨j, hj, rfl⟩ := nI_of h0
    by_cases h : nI j < nI n
    · have h2 : mn (nI n) (nI j) = nI j := if_pos h
      rw [h2, if_pos h, mx_n hj]
      exact ⟨rfl, j, by have := (nI_ltI hj hb).mp h; omega, rfl⟩
    · have h2 : mn (nI n) (nI j) = nI n := if_neg h
      rw [h2, if_neg h, mx_n hb]
      exact ⟨rfl, n, Nat.le_refl n, rfl⟩
theorem dec_n {x : Int32} (hx : ∃ n, n ≤ 199 ∧ x = nI n) : mx 0 (x - 1) = (if x ≤ 0 then 0 else x - 1) ∧ ∃ n, n ≤ 199 ∧ mx 0 (x - 1) = nI n := by
  obtain ⟨n, hn, rfl⟩ := hx
  cases n with
  | zero => exact ⟨by decide, 0, by omega, by decide⟩
  | succ k =>
    rw [nI_pred, mx_n (by omega), if_neg (nI_nle (by omega) (by omega))]
    exact ⟨rfl, k, by omega, rfl⟩
theorem Ln.ev1 {L : Nat → Int32} {pl : Nat} (h : Ln L) (hp : pl < 3) : Ln (evs L pl) := by
  intro p hp4
  unfold evs
  split
  · unfold upd
    split
    · exact (dec_n (h (pl + 1) (by omega))).2
    · exact h p hp4
  · unfold upd
    split
    · exact (dec_n (h pl (by omega))).2
    · exact h p hp4
theorem Ln.ev30 {B : (Nat → Int32) → Int32} {pl : Nat} (hp : pl < 3) : ∀ (k : Nat) (L : Nat → Int32), Ln L → Ln (evn B pl k L).2
  | 0, _, h => h
  | k + 1, L, h => by
    unfold evn
    split
    · exact Ln.ev30 hp k _ (h.ev1 hp)
    · exact h
/-- one cut of a length, on a row -/
theorem evs_row {L : Nat → Int32} {pl k k2 : Nat} {x : Int32} {c : Prop} [Decidable c] (hc : L (pl + 1) < L pl ↔ c) (hk : k = if c then pl else pl + 1) (hk2 : k2 = if c then pl + 1 else pl) (hL : ∃ n, n ≤ 199 ∧ L k2 = nI n) (hx : x = if L k2 ≤ 0 then 0 else L k2 - 1) : upd L k x = evs L pl := by
  rw [hx, ← (dec_n hL).1, hk, hk2]
  unfold evs
  by_cases h : c
  · rw [if_pos h, if_pos h, if_pos (hc.mpr h)]
  · rw [if_neg h, if_neg h, if_neg (fun q => h (hc.mp q))]
/-- but for what a course of the reference writes -/
def FrC (g0 g : IG) : Prop := ∀ i k, ¬ ((i = 92 ∨ i = 93) ∧ k < 4 ∨ i = 102 ∨ (i = 88 ∧ (20 ≤ k ∧ k ≤ 37 ∨ k = 39))) → g i k = g0 i k
theorem FrC.rf {g : IG} : FrC g g := fun _ _ _ => rfl
theorem FrC.tr {g0 g g1 : IG} (h : FrC g0 g) (h1 : FrC g g1) : FrC g0 g1 := fun i k q => (h1 i k q).trans (h i k q)
theorem FrS.fc {g0 g : IG} (h : FrS g0 g) : FrC g0 g := fun i k q => h i k (by omega)
theorem FrC.up {g0 g : IG} {i k : Nat} {v : Int32} (h : FrC g0 g) (hi : (i = 92 ∨ i = 93) ∧ k < 4 ∨ (i = 88 ∧ k = 39)) : FrC g0 (up2 g i k v) := fun a b q => by
  rw [up2_n _ _ (by omega)]
  exact h a b q
theorem FrC.c {g0 g : IG} (h : FrC g0 g) {i : Nat} (h1 : i ≠ 102) (h2 : i ≠ 88) (h3 : i ≠ 92) (h4 : i ≠ 93) : g i = g0 i := funext fun k => h i k (by omega)
theorem MX.fc {g g1 : IG} {tc ru : Nat} {CS : CSt} (h : MX g tc ru CS) (hF : FrC g g1) (hS : SdI g1 tc CS) : MX g1 tc ru CS :=
  ⟨h.1, h.2.1, (hF 88 4 (by omega)).trans h.2.2.1, (hF 88 3 (by omega)).trans h.2.2.2.1, fun t ht => (h.2.2.2.2.1 t ht).fr (hF.c (by omega) (by omega) (by omega) (by omega)) (hF.c (by omega) (by omega) (by omega) (by omega)), hS⟩
theorem up2_row (g : IG) (i k : Nat) (v : Int32) : up2 g i k v i = upd (g i) k v := by
  funext b
  unfold up2 upd
  rw [if_pos rfl]
theorem up2_rn (g : IG) {i j : Nat} (k : Nat) (v : Int32) (h : j ≠ i) : up2 g i k v j = g j := by
  funext b
  unfold up2
  rw [if_neg h]
theorem m10 (x : Int32) : x + -10 = x - 10 := (Int32.sub_eq_add_neg (a := x) (b := 10)).symm

set_option maxHeartbeats 1000000 in
set_option maxRecDepth 20000 in
theorem c_X6_leaves (l : Launch) (E : Ev) {g : IG} {o : Option Nat} {z : Int64} {h : Nat} (hh : h < 5) (len e1 : Int32) : Ct l E 115 yX6_leaves cX6_leaves 6 (some .int) 1 [.ref (E.2.1 88), .int (nI h), .int len, .int e1] g (RFo o) z (Zi (RFo o) z (leavesV (g 95 h) len e1) g) := by
  refine Ct.of (lv0 := [(0, .ref (E.2.1 88)), (1, .int (nI h)), (2, .int len), (3, .int e1)]) (by decide) (Nat.le_of_ble_eq_true rfl) rfl ?_
  intro p e s m below meth c cx
  refine go_aload_n (pc' := 1) cx dX6_leaves_0 rfl rfl ?_
  refine go_getr (pc' := 4) cx 95 fX6_35 dX6_leaves_1 kq88 (ltn rfl) (ltn rfl) rfl rfl rfl ?_
  refine go_iload_n (pc' := 5) cx dX6_leaves_4 rfl rfl ?_
  refine go_iald (pc' := 6) cx (g 95 h) dX6_leaves_5 kq95 (ltn rfl) (vpi (k := h) (a := 5) hh rfl rfl) (congrArg (g 95) (cli (k := h) (a := 5) hh rfl)) rfl ?_
  refine go_istore (pc' := 8) cx dX6_leaves_6 (ltn rfl) [(4, .int (g 95 h)), (0, .ref (E.2.1 88)), (1, .int (nI h)), (2, .int len), (3, .int e1)] rfl rfl ?_
  refine go_iload_n (pc' := 9) cx dX6_leaves_8 rfl rfl ?_
  refine go_iload_n (pc' := 10) cx dX6_leaves_9 rfl rfl ?_
  refine go_iadd (pc' := 11) cx dX6_leaves_10 rfl ?_
  refine go_iconst (pc' := 12) cx 2 dX6_leaves_11 rfl rfl ?_
  refine go_idiv (pc' := 13) cx (by decide) dX6_leaves_12 rfl ?_
  refine go_istore (pc' := 15) cx dX6_leaves_13 (ltn rfl) [(5, .int ((len + e1) / 2)), (4, .int (g 95 h)), (0, .ref (E.2.1 88)), (1, .int (nI h)), (2, .int len), (3, .int e1)] rfl rfl ?_
  refine go_iload (pc' := 17) cx dX6_leaves_15 rfl rfl ?_
  refine go_iconst (pc' := 18) cx 2 dX6_leaves_17 rfl rfl ?_
  refine go_icmp_ne (pc' := 21) cx 26 dX6_leaves_18 rfl rfl (fun c18 => ?_) (fun c18 => ?_)
  · refine go_iload (pc' := 28) cx dX6_leaves_26 rfl rfl ?_
    refine go_iconst (pc' := 29) cx 4 dX6_leaves_28 rfl rfl ?_
    refine go_icmp_ne (pc' := 32) cx 41 dX6_leaves_29 rfl rfl (fun c29 => ?_) (fun c29 => ?_)
    · refine go_iload (pc' := 43) cx dX6_leaves_41 rfl rfl ?_
      refine go_iconst (pc' := 44) cx 5 dX6_leaves_43 rfl rfl ?_
      refine go_icmp_ne (pc' := 47) cx 55 dX6_leaves_44 rfl rfl (fun c44 => ?_) (fun c44 => ?_)
      · refine go_iload_n (pc' := 56) cx dX6_leaves_55 rfl rfl ?_
        refine go_iret cx rfl dX6_leaves_56 ?_
        exact Zi.mk (by first | (simp [leavesV, c18, c29, c44]; done) | (simp_all [leavesV]; done)) rfl
      · refine go_iload_n (pc' := 48) cx dX6_leaves_47 rfl rfl ?_
        refine go_iload_n (pc' := 49) cx dX6_leaves_48 rfl rfl ?_
        refine go_iconst (pc' := 50) cx 5 dX6_leaves_49 rfl rfl ?_
        refine go_irem (pc' := 51) cx (by decide) dX6_leaves_50 rfl ?_
        refine go_isub (pc' := 52) cx dX6_leaves_51 rfl ?_
        refine go_goto cx 56 dX6_leaves_52 rfl ?_
        refine go_iret cx rfl dX6_leaves_56 ?_
        exact Zi.mk (by first | (simp [leavesV, c18, c29, c44]; done) | (simp_all [leavesV]; done)) rfl
    · refine go_iload_n (pc' := 33) cx dX6_leaves_32 rfl rfl ?_
      refine go_iload (pc' := 35) cx dX6_leaves_33 rfl rfl ?_
      refine go_iadd (pc' := 36) cx dX6_leaves_35 rfl ?_
      refine go_iconst (pc' := 37) cx 2 dX6_leaves_36 rfl rfl ?_
      refine go_idiv (pc' := 38) cx (by decide) dX6_leaves_37 rfl ?_
      refine go_goto cx 56 dX6_leaves_38 rfl ?_
      refine go_iret cx rfl dX6_leaves_56 ?_
      exact Zi.mk (by first | (simp [leavesV, c18, c29]; done) | (simp_all [leavesV]; done)) rfl
  · refine go_iload (pc' := 23) cx dX6_leaves_21 rfl rfl ?_
    refine go_goto cx 56 dX6_leaves_23 rfl ?_
    refine go_iret cx rfl dX6_leaves_56 ?_
    exact Zi.mk (by first | (simp [leavesV, c18]; done) | (simp_all [leavesV]; done)) rfl

set_option maxHeartbeats 1000000 in
set_option maxRecDepth 20000 in
theorem c_X6_meansTo (l : Launch) (E : Ev) {g : IG} {o : Option Nat} {z : Int64} {h : Nat} (hh : h < 5) (pl rem : Int32) : Ct l E 115 yX6_meansTo cX6_meansTo 6 (some .int) 1 [.ref (E.2.1 88), .int (nI h), .int pl, .int rem] g (RFo o) z (Zi (RFo o) z (meansV (g 97 h) rem (g 98 h) (g 95 h) (g 96 h) pl) g) := by
  refine Ct.of (lv0 := [(0, .ref (E.2.1 88)), (1, .int (nI h)), (2, .int pl), (3, .int rem)]) (by decide) (Nat.le_of_ble_eq_true rfl) rfl ?_
  intro p e s m below meth c cx
  refine go_aload_n (pc' := 1) cx dX6_meansTo_0 rfl rfl ?_
  refine go_getr (pc' := 4) cx 95 fX6_35 dX6_meansTo_1 kq88 (ltn rfl) (ltn rfl) rfl rfl rfl ?_
  refine go_iload_n (pc' := 5) cx dX6_meansTo_4 rfl rfl ?_
  refine go_iald (pc' := 6) cx (g 95 h) dX6_meansTo_5 kq95 (ltn rfl) (vpi (k := h) (a := 5) hh rfl rfl) (congrArg (g 95) (cli (k := h) (a := 5) hh rfl)) rfl ?_
  refine go_istore (pc' := 8) cx dX6_meansTo_6 (ltn rfl) [(4, .int (g 95 h)), (0, .ref (E.2.1 88)), (1, .int (nI h)), (2, .int pl), (3, .int rem)] rfl rfl ?_
  refine go_aload_n (pc' := 9) cx dX6_meansTo_8 rfl rfl ?_
  refine go_getr (pc' := 12) cx 97 fX6_41 dX6_meansTo_9 kq88 (ltn rfl) (ltn rfl) rfl rfl rfl ?_
  refine go_iload_n (pc' := 13) cx dX6_meansTo_12 rfl rfl ?_
  refine go_iald (pc' := 14) cx (g 97 h) dX6_meansTo_13 kq97 (ltn rfl) (vpi (k := h) (a := 5) hh rfl rfl) (congrArg (g 97) (cli (k := h) (a := 5) hh rfl)) rfl ?_
  refine go_iload_n (pc' := 15) cx dX6_meansTo_14 rfl rfl ?_
  refine go_imul (pc' := 16) cx dX6_meansTo_15 rfl ?_
  refine go_bipush (pc' := 18) cx 10 dX6_meansTo_16 rfl rfl ?_
  refine go_aload_n (pc' := 19) cx dX6_meansTo_18 rfl rfl ?_
  refine go_getr (pc' := 22) cx 97 fX6_41 dX6_meansTo_19 kq88 (ltn rfl) (ltn rfl) rfl rfl rfl ?_
  refine go_iload_n (pc' := 23) cx dX6_meansTo_22 rfl rfl ?_
  refine go_iald (pc' := 24) cx (g 97 h) dX6_meansTo_23 kq97 (ltn rfl) (vpi (k := h) (a := 5) hh rfl rfl) (congrArg (g 97) (cli (k := h) (a := 5) hh rfl)) rfl ?_
  refine go_isub (pc' := 25) cx dX6_meansTo_24 rfl ?_
  refine go_aload_n (pc' := 26) cx dX6_meansTo_25 rfl rfl ?_
  refine go_getr (pc' := 29) cx 98 fX6_44 dX6_meansTo_26 kq88 (ltn rfl) (ltn rfl) rfl rfl rfl ?_
  refine go_iload_n (pc' := 30) cx dX6_meansTo_29 rfl rfl ?_
  refine go_iald (pc' := 31) cx (g 98 h) dX6_meansTo_30 kq98 (ltn rfl) (vpi (k := h) (a := 5) hh rfl rfl) (congrArg (g 98) (cli (k := h) (a := 5) hh rfl)) rfl ?_
  refine go_imul (pc' := 32) cx dX6_meansTo_31 rfl ?_
  refine go_iadd (pc' := 33) cx dX6_meansTo_32 rfl ?_
  refine go_bipush (pc' := 35) cx 10 dX6_meansTo_33 rfl rfl ?_
  refine go_idiv (pc' := 36) cx (by decide) dX6_meansTo_35 rfl ?_
  refine go_istore (pc' := 38) cx dX6_meansTo_36 (ltn rfl) [(5, .int ((((g 97 h) * rem) + ((10 - (g 97 h)) * (g 98 h))) / 10)), (4, .int (g 95 h)), (0, .ref (E.2.1 88)), (1, .int (nI h)), (2, .int pl), (3, .int rem)] rfl rfl ?_
  refine go_iload (pc' := 40) cx dX6_meansTo_38 rfl rfl ?_
  refine go_iconst (pc' := 41) cx 1 dX6_meansTo_40 rfl rfl ?_
  refine go_icmp_ne (pc' := 44) cx 56 dX6_meansTo_41 rfl rfl (fun c41 => ?_) (fun c41 => ?_)
  · refine go_iload (pc' := 58) cx dX6_meansTo_56 rfl rfl ?_
    refine go_iconst (pc' := 59) cx 3 dX6_meansTo_58 rfl rfl ?_
    refine go_icmp_ne (pc' := 62) cx 87 dX6_meansTo_59 rfl rfl (fun c59 => ?_) (fun c59 => ?_)
    · refine go_iload (pc' := 89) cx dX6_meansTo_87 rfl rfl ?_
      refine go_iret cx rfl dX6_meansTo_89 ?_
      exact Zi.mk (by first | (simp [meansV, c41, c59]; done) | (simp_all [meansV]; done)) rfl
    · refine go_iload (pc' := 64) cx dX6_meansTo_62 rfl rfl ?_
      refine go_aload_n (pc' := 65) cx dX6_meansTo_64 rfl rfl ?_
      refine go_getr (pc' := 68) cx 96 fX6_38 dX6_meansTo_65 kq88 (ltn rfl) (ltn rfl) rfl rfl rfl ?_
      refine go_iload_n (pc' := 69) cx dX6_meansTo_68 rfl rfl ?_
      refine go_iald (pc' := 70) cx (g 96 h) dX6_meansTo_69 kq96 (ltn rfl) (vpi (k := h) (a := 5) hh rfl rfl) (congrArg (g 96) (cli (k := h) (a := 5) hh rfl)) rfl ?_
      refine go_isub (pc' := 71) cx dX6_meansTo_70 rfl ?_
      refine go_iload_n (pc' := 72) cx dX6_meansTo_71 rfl rfl ?_
      refine go_iconst (pc' := 73) cx 2 dX6_meansTo_72 rfl rfl ?_
      refine go_irem (pc' := 74) cx (by decide) dX6_meansTo_73 rfl ?_
      refine go_iconst (pc' := 75) cx 1 dX6_meansTo_74 rfl rfl ?_
      refine go_icmp_ne (pc' := 78) cx 82 dX6_meansTo_75 rfl rfl (fun c75 => ?_) (fun c75 => ?_)
      · refine go_iconst (pc' := 83) cx 0 dX6_meansTo_82 rfl rfl ?_
        refine go_isub (pc' := 84) cx dX6_meansTo_83 rfl ?_
        refine go_goto cx 89 dX6_meansTo_84 rfl ?_
        refine go_iret cx rfl dX6_meansTo_89 ?_
        exact Zi.mk (by first | (simp [meansV, c41, c59, c75]; done) | (simp_all [meansV]; done)) rfl
      · refine go_iconst (pc' := 79) cx 3 dX6_meansTo_78 rfl rfl ?_
        refine go_goto cx 83 dX6_meansTo_79 rfl ?_
        refine go_isub (pc' := 84) cx dX6_meansTo_83 rfl ?_
        refine go_goto cx 89 dX6_meansTo_84 rfl ?_
        refine go_iret cx rfl dX6_meansTo_89 ?_
        exact Zi.mk (by first | (simp [meansV, c41, c59, c75]; done) | (simp_all [meansV]; done)) rfl
  · refine go_iload (pc' := 46) cx dX6_meansTo_44 rfl rfl ?_
    refine go_aload_n (pc' := 47) cx dX6_meansTo_46 rfl rfl ?_
    refine go_getr (pc' := 50) cx 96 fX6_38 dX6_meansTo_47 kq88 (ltn rfl) (ltn rfl) rfl rfl rfl ?_
    refine go_iload_n (pc' := 51) cx dX6_meansTo_50 rfl rfl ?_
    refine go_iald (pc' := 52) cx (g 96 h) dX6_meansTo_51 kq96 (ltn rfl) (vpi (k := h) (a := 5) hh rfl rfl) (congrArg (g 96) (cli (k := h) (a := 5) hh rfl)) rfl ?_
    refine go_isub (pc' := 53) cx dX6_meansTo_52 rfl ?_
    refine go_goto cx 89 dX6_meansTo_53 rfl ?_
    refine go_iret cx rfl dX6_meansTo_89 ?_
    exact Zi.mk (by first | (simp [meansV, c41]; done) | (simp_all [meansV]; done)) rfl

set_option maxHeartbeats 1000000 in
set_option maxRecDepth 20000 in
theorem c_X6_cutsAt (l : Launch) (E : Ev) {g : IG} {o : Option Nat} {z : Int64} {h pl : Nat} (hh : h < 5) (hpl : pl < 4) (wo : Int32) (hLp : ∃ n, n ≤ 199 ∧ g 92 pl = nI n) : Ct l E 115 yX6_cutsAt cX6_cutsAt 6 none 2 [.ref (E.2.1 88), .int (nI h), .int (nI pl), .int wo] g (RFo o) z (Zu (RFo o) z (up2 g 92 pl (leftV (g 95 h) (g 92 pl) (meansV (g 97 h) (g 93 pl) (g 98 h) (g 95 h) (g 96 h) (nI pl)) wo (g 88 10)))) := by
  refine Ct.of (lv0 := [(0, .ref (E.2.1 88)), (1, .int (nI h)), (2, .int (nI pl)), (3, .int wo)]) (by decide) (Nat.le_of_ble_eq_true rfl) rfl ?_
  intro p e s m below meth c cx
  refine go_aload_n (pc' := 1) cx dX6_cutsAt_0 rfl rfl ?_
  refine go_iload_n (pc' := 2) cx dX6_cutsAt_1 rfl rfl ?_
  refine go_iload_n (pc' := 3) cx dX6_cutsAt_2 rfl rfl ?_
  refine go_aload_n (pc' := 4) cx dX6_cutsAt_3 rfl rfl ?_
  refine go_getr (pc' := 7) cx 93 fX6_26 dX6_cutsAt_4 kq88 (ltn rfl) (ltn rfl) rfl rfl rfl ?_
  refine go_iload_n (pc' := 8) cx dX6_cutsAt_7 rfl rfl ?_
  refine go_iald (pc' := 9) cx (g 93 pl) dX6_cutsAt_8 kq93 (ltn rfl) (vpi (k := pl) (a := 4) hpl rfl rfl) (congrArg (g 93) (cli (k := pl) (a := 4) hpl rfl)) rfl ?_
  refine go_cVi (pc' := 12) cx (c_X6_meansTo l E (g := g) hh (nI pl) (g 93 pl)) mX6_meansTo lX6_386 dX6_cutsAt_9 kq88 (ltn rfl) (ltn rfl) rfl rfl rfl rfl (ltn rfl) (Nat.le_of_ble_eq_true rfl) (Nat.le_of_ble_eq_true rfl) rfl ?_
  refine go_istore (pc' := 14) cx dX6_cutsAt_12 (ltn rfl) [(4, .int (meansV (g 97 h) (g 93 pl) (g 98 h) (g 95 h) (g 96 h) (nI pl))), (0, .ref (E.2.1 88)), (1, .int (nI h)), (2, .int (nI pl)), (3, .int wo)] rfl rfl ?_
  refine go_iload_n (pc' := 15) cx dX6_cutsAt_14 rfl rfl ?_
  refine go_iconst (pc' := 16) cx 1 dX6_cutsAt_15 rfl rfl ?_
  refine go_icmp_ne (pc' := 19) cx 35 dX6_cutsAt_16 rfl rfl (fun c16 => ?_) (fun c16 => ?_)
  · refine go_iload_n (pc' := 36) cx dX6_cutsAt_35 rfl rfl ?_
    refine go_iconst (pc' := 37) cx 2 dX6_cutsAt_36 rfl rfl ?_
    refine go_icmp_ne (pc' := 40) cx 46 dX6_cutsAt_37 rfl rfl (fun c37 => ?_) (fun c37 => ?_)
    · refine go_iload_n (pc' := 47) cx dX6_cutsAt_46 rfl rfl ?_
      refine go_iconst (pc' := 48) cx 3 dX6_cutsAt_47 rfl rfl ?_
      refine go_icmp_ne (pc' := 51) cx 65 dX6_cutsAt_48 rfl rfl (fun c48 => ?_) (fun c48 => ?_)
      · refine go_aload_n (pc' := 66) cx dX6_cutsAt_65 rfl rfl ?_
        refine go_iload_n (pc' := 67) cx dX6_cutsAt_66 rfl rfl ?_
        refine go_aload_n (pc' := 68) cx dX6_cutsAt_67 rfl rfl ?_
        refine go_getr (pc' := 71) cx 92 fX6_23 dX6_cutsAt_68 kq88 (ltn rfl) (ltn rfl) rfl rfl rfl ?_
        refine go_iload_n (pc' := 72) cx dX6_cutsAt_71 rfl rfl ?_
        refine go_iald (pc' := 73) cx (g 92 pl) dX6_cutsAt_72 kq92 (ltn rfl) (vpi (k := pl) (a := 4) hpl rfl rfl) (congrArg (g 92) (cli (k := pl) (a := 4) hpl rfl)) rfl ?_
        refine go_iload (pc' := 75) cx dX6_cutsAt_73 rfl rfl ?_
        refine go_cVi (pc' := 78) cx (c_X6_leaves l E (g := g) hh (g 92 pl) (meansV (g 97 h) (g 93 pl) (g 98 h) (g 95 h) (g 96 h) (nI pl))) mX6_leaves lX6_389 dX6_cutsAt_75 kq88 (ltn rfl) (ltn rfl) rfl rfl rfl rfl (ltn rfl) (Nat.le_of_ble_eq_true rfl) (Nat.le_of_ble_eq_true rfl) rfl ?_
        refine go_istore (pc' := 80) cx dX6_cutsAt_78 (ltn rfl) [(5, .int (leavesV (g 95 h) (g 92 pl) (meansV (g 97 h) (g 93 pl) (g 98 h) (g 95 h) (g 96 h) (nI pl)))), (4, .int (meansV (g 97 h) (g 93 pl) (g 98 h) (g 95 h) (g 96 h) (nI pl))), (0, .ref (E.2.1 88)), (1, .int (nI h)), (2, .int (nI pl)), (3, .int wo)] rfl rfl ?_
        refine go_aload_n (pc' := 81) cx dX6_cutsAt_80 rfl rfl ?_
        refine go_getr (pc' := 84) cx 92 fX6_23 dX6_cutsAt_81 kq88 (ltn rfl) (ltn rfl) rfl rfl rfl ?_
        refine go_iload_n (pc' := 85) cx dX6_cutsAt_84 rfl rfl ?_
        refine go_iload (pc' := 87) cx dX6_cutsAt_85 rfl rfl ?_
        refine go_if_ge (pc' := 90) cx 94 dX6_cutsAt_87 rfl rfl (fun c87 => ?_) (fun c87 => ?_)
        · have c87n := Int32.not_lt.mpr c87
          refine go_iload (pc' := 96) cx dX6_cutsAt_94 rfl rfl ?_
          refine go_aload_n (pc' := 97) cx dX6_cutsAt_96 rfl rfl ?_
          refine go_getr (pc' := 100) cx 92 fX6_23 dX6_cutsAt_97 kq88 (ltn rfl) (ltn rfl) rfl rfl rfl ?_
          refine go_iload_n (pc' := 101) cx dX6_cutsAt_100 rfl rfl ?_
          refine go_iald (pc' := 102) cx (g 92 pl) dX6_cutsAt_101 kq92 (ltn rfl) (vpi (k := pl) (a := 4) hpl rfl rfl) (congrArg (g 92) (cli (k := pl) (a := 4) hpl rfl)) rfl ?_
          refine go_icmp_ge (pc' := 105) cx 110 dX6_cutsAt_102 rfl rfl (fun c102 => ?_) (fun c102 => ?_)
          · have c102n := Int32.not_lt.mpr c102
            refine go_aload_n (pc' := 111) cx dX6_cutsAt_110 rfl rfl ?_
            refine go_getr (pc' := 114) cx 92 fX6_23 dX6_cutsAt_111 kq88 (ltn rfl) (ltn rfl) rfl rfl rfl ?_
            refine go_iload_n (pc' := 115) cx dX6_cutsAt_114 rfl rfl ?_
            refine go_iald (pc' := 116) cx (g 92 pl) dX6_cutsAt_115 kq92 (ltn rfl) (vpi (k := pl) (a := 4) hpl rfl rfl) (congrArg (g 92) (cli (k := pl) (a := 4) hpl rfl)) rfl ?_
            refine go_iastk (pc' := 117) cx pl dX6_cutsAt_116 kq92 (ltn rfl) (vpi (k := pl) (a := 4) hpl rfl rfl) (cli (k := pl) (a := 4) hpl rfl) rfl ?_
            refine go_vret cx rfl dX6_cutsAt_117 ?_
            exact Zu.mk (by
              obtain ⟨n, hn, en⟩ := hLp
              have h9 := (mxmn hn (leavesV (g 95 h) (g 92 pl) (wantsV (g 92 pl) (meansV (g 97 h) (g 93 pl) (g 98 h) (g 95 h) (g 96 h) (nI pl)) wo (g 88 10)))).1
              rw [← en] at h9
              refine congrArg (up2 g 92 pl) ?_
              unfold leftV
              rw [h9]
              unfold wantsV
              first | (simp [c16, c37, c48, c87, c87n, c102, c102n]; done) | (simp_all [m10]; done) | (simp_all [m10]; rw [if_neg (Int32.not_lt.mpr c87)]; first | rw [if_neg (Int32.not_lt.mpr c102)] | rw [if_pos c102]) | (simp_all [m10]; exact fun q => absurd q (Int32.not_lt.mpr c87)))
          · have c102n := Int32.not_le.mp c102
            refine go_iload (pc' := 107) cx dX6_cutsAt_105 rfl rfl ?_
            refine go_goto cx 116 dX6_cutsAt_107 rfl ?_
            refine go_iastk (pc' := 117) cx pl dX6_cutsAt_116 kq92 (ltn rfl) (vpi (k := pl) (a := 4) hpl rfl rfl) (cli (k := pl) (a := 4) hpl rfl) rfl ?_
            refine go_vret cx rfl dX6_cutsAt_117 ?_
            exact Zu.mk (by
              obtain ⟨n, hn, en⟩ := hLp
              have h9 := (mxmn hn (leavesV (g 95 h) (g 92 pl) (wantsV (g 92 pl) (meansV (g 97 h) (g 93 pl) (g 98 h) (g 95 h) (g 96 h) (nI pl)) wo (g 88 10)))).1
              rw [← en] at h9
              refine congrArg (up2 g 92 pl) ?_
              unfold leftV
              rw [h9]
              unfold wantsV
              first | (simp [c16, c37, c48, c87, c87n, c102, c102n]; done) | (simp_all [m10]; done) | (simp_all [m10]; rw [if_neg (Int32.not_lt.mpr c87)]; first | rw [if_neg (Int32.not_lt.mpr c102)] | rw [if_pos c102]) | (simp_all [m10]; exact fun q => absurd q (Int32.not_lt.mpr c87)))
        · have c87n := Int32.not_le.mp c87
          refine go_iconst (pc' := 91) cx 0 dX6_cutsAt_90 rfl rfl ?_
          refine go_goto cx 116 dX6_cutsAt_91 rfl ?_
          refine go_iastk (pc' := 117) cx pl dX6_cutsAt_116 kq92 (ltn rfl) (vpi (k := pl) (a := 4) hpl rfl rfl) (cli (k := pl) (a := 4) hpl rfl) rfl ?_
          refine go_vret cx rfl dX6_cutsAt_117 ?_
          exact Zu.mk (by
            obtain ⟨n, hn, en⟩ := hLp
            have h9 := (mxmn hn (leavesV (g 95 h) (g 92 pl) (wantsV (g 92 pl) (meansV (g 97 h) (g 93 pl) (g 98 h) (g 95 h) (g 96 h) (nI pl)) wo (g 88 10)))).1
            rw [← en] at h9
            refine congrArg (up2 g 92 pl) ?_
            unfold leftV
            rw [h9]
            unfold wantsV
            first | (simp [c16, c37, c48, c87, c87n]; done) | (simp_all [m10]; done) | (simp_all [m10]; rw [if_neg (Int32.not_lt.mpr c87)]; first | rw [if_neg (Int32.not_lt.mpr c102)] | rw [if_pos c102]) | (simp_all [m10]; exact fun q => absurd q (Int32.not_lt.mpr c87)))
      · refine go_aload_n (pc' := 52) cx dX6_cutsAt_51 rfl rfl ?_
        refine go_geti (pc' := 55) cx (g 88 10) fX6_32 dX6_cutsAt_52 kq88 (ltn rfl) (ltn rfl) rfl rfl rfl ?_
        refine go_iconst (pc' := 56) cx (-1) dX6_cutsAt_55 rfl rfl ?_
        refine go_icmp_eq (pc' := 59) cx 65 dX6_cutsAt_56 rfl rfl (fun c56 => ?_) (fun c56 => ?_)
        · refine go_aload_n (pc' := 66) cx dX6_cutsAt_65 rfl rfl ?_
          refine go_iload_n (pc' := 67) cx dX6_cutsAt_66 rfl rfl ?_
          refine go_aload_n (pc' := 68) cx dX6_cutsAt_67 rfl rfl ?_
          refine go_getr (pc' := 71) cx 92 fX6_23 dX6_cutsAt_68 kq88 (ltn rfl) (ltn rfl) rfl rfl rfl ?_
          refine go_iload_n (pc' := 72) cx dX6_cutsAt_71 rfl rfl ?_
          refine go_iald (pc' := 73) cx (g 92 pl) dX6_cutsAt_72 kq92 (ltn rfl) (vpi (k := pl) (a := 4) hpl rfl rfl) (congrArg (g 92) (cli (k := pl) (a := 4) hpl rfl)) rfl ?_
          refine go_iload (pc' := 75) cx dX6_cutsAt_73 rfl rfl ?_
          refine go_cVi (pc' := 78) cx (c_X6_leaves l E (g := g) hh (g 92 pl) (meansV (g 97 h) (g 93 pl) (g 98 h) (g 95 h) (g 96 h) (nI pl))) mX6_leaves lX6_389 dX6_cutsAt_75 kq88 (ltn rfl) (ltn rfl) rfl rfl rfl rfl (ltn rfl) (Nat.le_of_ble_eq_true rfl) (Nat.le_of_ble_eq_true rfl) rfl ?_
          refine go_istore (pc' := 80) cx dX6_cutsAt_78 (ltn rfl) [(5, .int (leavesV (g 95 h) (g 92 pl) (meansV (g 97 h) (g 93 pl) (g 98 h) (g 95 h) (g 96 h) (nI pl)))), (4, .int (meansV (g 97 h) (g 93 pl) (g 98 h) (g 95 h) (g 96 h) (nI pl))), (0, .ref (E.2.1 88)), (1, .int (nI h)), (2, .int (nI pl)), (3, .int wo)] rfl rfl ?_
          refine go_aload_n (pc' := 81) cx dX6_cutsAt_80 rfl rfl ?_
          refine go_getr (pc' := 84) cx 92 fX6_23 dX6_cutsAt_81 kq88 (ltn rfl) (ltn rfl) rfl rfl rfl ?_
          refine go_iload_n (pc' := 85) cx dX6_cutsAt_84 rfl rfl ?_
          refine go_iload (pc' := 87) cx dX6_cutsAt_85 rfl rfl ?_
          refine go_if_ge (pc' := 90) cx 94 dX6_cutsAt_87 rfl rfl (fun c87 => ?_) (fun c87 => ?_)
          · have c87n := Int32.not_lt.mpr c87
            refine go_iload (pc' := 96) cx dX6_cutsAt_94 rfl rfl ?_
            refine go_aload_n (pc' := 97) cx dX6_cutsAt_96 rfl rfl ?_
            refine go_getr (pc' := 100) cx 92 fX6_23 dX6_cutsAt_97 kq88 (ltn rfl) (ltn rfl) rfl rfl rfl ?_
            refine go_iload_n (pc' := 101) cx dX6_cutsAt_100 rfl rfl ?_
            refine go_iald (pc' := 102) cx (g 92 pl) dX6_cutsAt_101 kq92 (ltn rfl) (vpi (k := pl) (a := 4) hpl rfl rfl) (congrArg (g 92) (cli (k := pl) (a := 4) hpl rfl)) rfl ?_
            refine go_icmp_ge (pc' := 105) cx 110 dX6_cutsAt_102 rfl rfl (fun c102 => ?_) (fun c102 => ?_)
            · have c102n := Int32.not_lt.mpr c102
              refine go_aload_n (pc' := 111) cx dX6_cutsAt_110 rfl rfl ?_
              refine go_getr (pc' := 114) cx 92 fX6_23 dX6_cutsAt_111 kq88 (ltn rfl) (ltn rfl) rfl rfl rfl ?_
              refine go_iload_n (pc' := 115) cx dX6_cutsAt_114 rfl rfl ?_
              refine go_iald (pc' := 116) cx (g 92 pl) dX6_cutsAt_115 kq92 (ltn rfl) (vpi (k := pl) (a := 4) hpl rfl rfl) (congrArg (g 92) (cli (k := pl) (a := 4) hpl rfl)) rfl ?_
              refine go_iastk (pc' := 117) cx pl dX6_cutsAt_116 kq92 (ltn rfl) (vpi (k := pl) (a := 4) hpl rfl rfl) (cli (k := pl) (a := 4) hpl rfl) rfl ?_
              refine go_vret cx rfl dX6_cutsAt_117 ?_
              exact Zu.mk (by
                obtain ⟨n, hn, en⟩ := hLp
                have h9 := (mxmn hn (leavesV (g 95 h) (g 92 pl) (wantsV (g 92 pl) (meansV (g 97 h) (g 93 pl) (g 98 h) (g 95 h) (g 96 h) (nI pl)) wo (g 88 10)))).1
                rw [← en] at h9
                refine congrArg (up2 g 92 pl) ?_
                unfold leftV
                rw [h9]
                unfold wantsV
                first | (simp [c16, c37, c48, c56, c87, c87n, c102, c102n]; done) | (simp_all [m10]; done) | (simp_all [m10]; rw [if_neg (Int32.not_lt.mpr c87)]; first | rw [if_neg (Int32.not_lt.mpr c102)] | rw [if_pos c102]) | (simp_all [m10]; exact fun q => absurd q (Int32.not_lt.mpr c87)))
            · have c102n := Int32.not_le.mp c102
              refine go_iload (pc' := 107) cx dX6_cutsAt_105 rfl rfl ?_
              refine go_goto cx 116 dX6_cutsAt_107 rfl ?_
              refine go_iastk (pc' := 117) cx pl dX6_cutsAt_116 kq92 (ltn rfl) (vpi (k := pl) (a := 4) hpl rfl rfl) (cli (k := pl) (a := 4) hpl rfl) rfl ?_
              refine go_vret cx rfl dX6_cutsAt_117 ?_
              exact Zu.mk (by
                obtain ⟨n, hn, en⟩ := hLp
                have h9 := (mxmn hn (leavesV (g 95 h) (g 92 pl) (wantsV (g 92 pl) (meansV (g 97 h) (g 93 pl) (g 98 h) (g 95 h) (g 96 h) (nI pl)) wo (g 88 10)))).1
                rw [← en] at h9
                refine congrArg (up2 g 92 pl) ?_
                unfold leftV
                rw [h9]
                unfold wantsV
                first | (simp [c16, c37, c48, c56, c87, c87n, c102, c102n]; done) | (simp_all [m10]; done) | (simp_all [m10]; rw [if_neg (Int32.not_lt.mpr c87)]; first | rw [if_neg (Int32.not_lt.mpr c102)] | rw [if_pos c102]) | (simp_all [m10]; exact fun q => absurd q (Int32.not_lt.mpr c87)))
          · have c87n := Int32.not_le.mp c87
            refine go_iconst (pc' := 91) cx 0 dX6_cutsAt_90 rfl rfl ?_
            refine go_goto cx 116 dX6_cutsAt_91 rfl ?_
            refine go_iastk (pc' := 117) cx pl dX6_cutsAt_116 kq92 (ltn rfl) (vpi (k := pl) (a := 4) hpl rfl rfl) (cli (k := pl) (a := 4) hpl rfl) rfl ?_
            refine go_vret cx rfl dX6_cutsAt_117 ?_
            exact Zu.mk (by
              obtain ⟨n, hn, en⟩ := hLp
              have h9 := (mxmn hn (leavesV (g 95 h) (g 92 pl) (wantsV (g 92 pl) (meansV (g 97 h) (g 93 pl) (g 98 h) (g 95 h) (g 96 h) (nI pl)) wo (g 88 10)))).1
              rw [← en] at h9
              refine congrArg (up2 g 92 pl) ?_
              unfold leftV
              rw [h9]
              unfold wantsV
              first | (simp [c16, c37, c48, c56, c87, c87n]; done) | (simp_all [m10]; done) | (simp_all [m10]; rw [if_neg (Int32.not_lt.mpr c87)]; first | rw [if_neg (Int32.not_lt.mpr c102)] | rw [if_pos c102]) | (simp_all [m10]; exact fun q => absurd q (Int32.not_lt.mpr c87)))
        · refine go_aload_n (pc' := 60) cx dX6_cutsAt_59 rfl rfl ?_
          refine go_geti (pc' := 63) cx (g 88 10) fX6_32 dX6_cutsAt_60 kq88 (ltn rfl) (ltn rfl) rfl rfl rfl ?_
          refine go_istore (pc' := 65) cx dX6_cutsAt_63 (ltn rfl) [(4, .int (g 88 10)), (0, .ref (E.2.1 88)), (1, .int (nI h)), (2, .int (nI pl)), (3, .int wo)] rfl rfl ?_
          refine go_aload_n (pc' := 66) cx dX6_cutsAt_65 rfl rfl ?_
          refine go_iload_n (pc' := 67) cx dX6_cutsAt_66 rfl rfl ?_
          refine go_aload_n (pc' := 68) cx dX6_cutsAt_67 rfl rfl ?_
          refine go_getr (pc' := 71) cx 92 fX6_23 dX6_cutsAt_68 kq88 (ltn rfl) (ltn rfl) rfl rfl rfl ?_
          refine go_iload_n (pc' := 72) cx dX6_cutsAt_71 rfl rfl ?_
          refine go_iald (pc' := 73) cx (g 92 pl) dX6_cutsAt_72 kq92 (ltn rfl) (vpi (k := pl) (a := 4) hpl rfl rfl) (congrArg (g 92) (cli (k := pl) (a := 4) hpl rfl)) rfl ?_
          refine go_iload (pc' := 75) cx dX6_cutsAt_73 rfl rfl ?_
          refine go_cVi (pc' := 78) cx (c_X6_leaves l E (g := g) hh (g 92 pl) (g 88 10)) mX6_leaves lX6_389 dX6_cutsAt_75 kq88 (ltn rfl) (ltn rfl) rfl rfl rfl rfl (ltn rfl) (Nat.le_of_ble_eq_true rfl) (Nat.le_of_ble_eq_true rfl) rfl ?_
          refine go_istore (pc' := 80) cx dX6_cutsAt_78 (ltn rfl) [(5, .int (leavesV (g 95 h) (g 92 pl) (g 88 10))), (4, .int (g 88 10)), (0, .ref (E.2.1 88)), (1, .int (nI h)), (2, .int (nI pl)), (3, .int wo)] rfl rfl ?_
          refine go_aload_n (pc' := 81) cx dX6_cutsAt_80 rfl rfl ?_
          refine go_getr (pc' := 84) cx 92 fX6_23 dX6_cutsAt_81 kq88 (ltn rfl) (ltn rfl) rfl rfl rfl ?_
          refine go_iload_n (pc' := 85) cx dX6_cutsAt_84 rfl rfl ?_
          refine go_iload (pc' := 87) cx dX6_cutsAt_85 rfl rfl ?_
          refine go_if_ge (pc' := 90) cx 94 dX6_cutsAt_87 rfl rfl (fun c87 => ?_) (fun c87 => ?_)
          · have c87n := Int32.not_lt.mpr c87
            refine go_iload (pc' := 96) cx dX6_cutsAt_94 rfl rfl ?_
            refine go_aload_n (pc' := 97) cx dX6_cutsAt_96 rfl rfl ?_
            refine go_getr (pc' := 100) cx 92 fX6_23 dX6_cutsAt_97 kq88 (ltn rfl) (ltn rfl) rfl rfl rfl ?_
            refine go_iload_n (pc' := 101) cx dX6_cutsAt_100 rfl rfl ?_
            refine go_iald (pc' := 102) cx (g 92 pl) dX6_cutsAt_101 kq92 (ltn rfl) (vpi (k := pl) (a := 4) hpl rfl rfl) (congrArg (g 92) (cli (k := pl) (a := 4) hpl rfl)) rfl ?_
            refine go_icmp_ge (pc' := 105) cx 110 dX6_cutsAt_102 rfl rfl (fun c102 => ?_) (fun c102 => ?_)
            · have c102n := Int32.not_lt.mpr c102
              refine go_aload_n (pc' := 111) cx dX6_cutsAt_110 rfl rfl ?_
              refine go_getr (pc' := 114) cx 92 fX6_23 dX6_cutsAt_111 kq88 (ltn rfl) (ltn rfl) rfl rfl rfl ?_
              refine go_iload_n (pc' := 115) cx dX6_cutsAt_114 rfl rfl ?_
              refine go_iald (pc' := 116) cx (g 92 pl) dX6_cutsAt_115 kq92 (ltn rfl) (vpi (k := pl) (a := 4) hpl rfl rfl) (congrArg (g 92) (cli (k := pl) (a := 4) hpl rfl)) rfl ?_
              refine go_iastk (pc' := 117) cx pl dX6_cutsAt_116 kq92 (ltn rfl) (vpi (k := pl) (a := 4) hpl rfl rfl) (cli (k := pl) (a := 4) hpl rfl) rfl ?_
              refine go_vret cx rfl dX6_cutsAt_117 ?_
              exact Zu.mk (by
                obtain ⟨n, hn, en⟩ := hLp
                have h9 := (mxmn hn (leavesV (g 95 h) (g 92 pl) (wantsV (g 92 pl) (meansV (g 97 h) (g 93 pl) (g 98 h) (g 95 h) (g 96 h) (nI pl)) wo (g 88 10)))).1
                rw [← en] at h9
                refine congrArg (up2 g 92 pl) ?_
                unfold leftV
                rw [h9]
                unfold wantsV
                first | (simp [c16, c37, c48, c56, c87, c87n, c102, c102n]; done) | (simp_all [m10]; done) | (simp_all [m10]; rw [if_neg (Int32.not_lt.mpr c87)]; first | rw [if_neg (Int32.not_lt.mpr c102)] | rw [if_pos c102]) | (simp_all [m10]; exact fun q => absurd q (Int32.not_lt.mpr c87)))
            · have c102n := Int32.not_le.mp c102
              refine go_iload (pc' := 107) cx dX6_cutsAt_105 rfl rfl ?_
              refine go_goto cx 116 dX6_cutsAt_107 rfl ?_
              refine go_iastk (pc' := 117) cx pl dX6_cutsAt_116 kq92 (ltn rfl) (vpi (k := pl) (a := 4) hpl rfl rfl) (cli (k := pl) (a := 4) hpl rfl) rfl ?_
              refine go_vret cx rfl dX6_cutsAt_117 ?_
              exact Zu.mk (by
                obtain ⟨n, hn, en⟩ := hLp
                have h9 := (mxmn hn (leavesV (g 95 h) (g 92 pl) (wantsV (g 92 pl) (meansV (g 97 h) (g 93 pl) (g 98 h) (g 95 h) (g 96 h) (nI pl)) wo (g 88 10)))).1
                rw [← en] at h9
                refine congrArg (up2 g 92 pl) ?_
                unfold leftV
                rw [h9]
                unfold wantsV
                first | (simp [c16, c37, c48, c56, c87, c87n, c102, c102n]; done) | (simp_all [m10]; done) | (simp_all [m10]; rw [if_neg (Int32.not_lt.mpr c87)]; first | rw [if_neg (Int32.not_lt.mpr c102)] | rw [if_pos c102]) | (simp_all [m10]; exact fun q => absurd q (Int32.not_lt.mpr c87)))
          · have c87n := Int32.not_le.mp c87
            refine go_iconst (pc' := 91) cx 0 dX6_cutsAt_90 rfl rfl ?_
            refine go_goto cx 116 dX6_cutsAt_91 rfl ?_
            refine go_iastk (pc' := 117) cx pl dX6_cutsAt_116 kq92 (ltn rfl) (vpi (k := pl) (a := 4) hpl rfl rfl) (cli (k := pl) (a := 4) hpl rfl) rfl ?_
            refine go_vret cx rfl dX6_cutsAt_117 ?_
            exact Zu.mk (by
              obtain ⟨n, hn, en⟩ := hLp
              have h9 := (mxmn hn (leavesV (g 95 h) (g 92 pl) (wantsV (g 92 pl) (meansV (g 97 h) (g 93 pl) (g 98 h) (g 95 h) (g 96 h) (nI pl)) wo (g 88 10)))).1
              rw [← en] at h9
              refine congrArg (up2 g 92 pl) ?_
              unfold leftV
              rw [h9]
              unfold wantsV
              first | (simp [c16, c37, c48, c56, c87, c87n]; done) | (simp_all [m10]; done) | (simp_all [m10]; rw [if_neg (Int32.not_lt.mpr c87)]; first | rw [if_neg (Int32.not_lt.mpr c102)] | rw [if_pos c102]) | (simp_all [m10]; exact fun q => absurd q (Int32.not_lt.mpr c87)))
    · obtain ⟨x_1, ex_1⟩ : ∃ y : Int32, y = meansV (g 97 h) (g 93 pl) (g 98 h) (g 95 h) (g 96 h) (nI pl) + Int32.ofInt (-10) := ⟨_, rfl⟩
      refine go_iinc (pc' := 43) cx x_1 dX6_cutsAt_40 rfl ex_1.symm (ltn rfl) [(4, .int x_1), (0, .ref (E.2.1 88)), (1, .int (nI h)), (2, .int (nI pl)), (3, .int wo)] rfl rfl ?_
      refine go_goto cx 65 dX6_cutsAt_43 rfl ?_
      refine go_aload_n (pc' := 66) cx dX6_cutsAt_65 rfl rfl ?_
      refine go_iload_n (pc' := 67) cx dX6_cutsAt_66 rfl rfl ?_
      refine go_aload_n (pc' := 68) cx dX6_cutsAt_67 rfl rfl ?_
      refine go_getr (pc' := 71) cx 92 fX6_23 dX6_cutsAt_68 kq88 (ltn rfl) (ltn rfl) rfl rfl rfl ?_
      refine go_iload_n (pc' := 72) cx dX6_cutsAt_71 rfl rfl ?_
      refine go_iald (pc' := 73) cx (g 92 pl) dX6_cutsAt_72 kq92 (ltn rfl) (vpi (k := pl) (a := 4) hpl rfl rfl) (congrArg (g 92) (cli (k := pl) (a := 4) hpl rfl)) rfl ?_
      refine go_iload (pc' := 75) cx dX6_cutsAt_73 rfl rfl ?_
      refine go_cVi (pc' := 78) cx (c_X6_leaves l E (g := g) hh (g 92 pl) x_1) mX6_leaves lX6_389 dX6_cutsAt_75 kq88 (ltn rfl) (ltn rfl) rfl rfl rfl rfl (ltn rfl) (Nat.le_of_ble_eq_true rfl) (Nat.le_of_ble_eq_true rfl) rfl ?_
      refine go_istore (pc' := 80) cx dX6_cutsAt_78 (ltn rfl) [(5, .int (leavesV (g 95 h) (g 92 pl) x_1)), (4, .int x_1), (0, .ref (E.2.1 88)), (1, .int (nI h)), (2, .int (nI pl)), (3, .int wo)] rfl rfl ?_
      refine go_aload_n (pc' := 81) cx dX6_cutsAt_80 rfl rfl ?_
      refine go_getr (pc' := 84) cx 92 fX6_23 dX6_cutsAt_81 kq88 (ltn rfl) (ltn rfl) rfl rfl rfl ?_
      refine go_iload_n (pc' := 85) cx dX6_cutsAt_84 rfl rfl ?_
      refine go_iload (pc' := 87) cx dX6_cutsAt_85 rfl rfl ?_
      refine go_if_ge (pc' := 90) cx 94 dX6_cutsAt_87 rfl rfl (fun c87 => ?_) (fun c87 => ?_)
      · have c87n := Int32.not_lt.mpr c87
        refine go_iload (pc' := 96) cx dX6_cutsAt_94 rfl rfl ?_
        refine go_aload_n (pc' := 97) cx dX6_cutsAt_96 rfl rfl ?_
        refine go_getr (pc' := 100) cx 92 fX6_23 dX6_cutsAt_97 kq88 (ltn rfl) (ltn rfl) rfl rfl rfl ?_
        refine go_iload_n (pc' := 101) cx dX6_cutsAt_100 rfl rfl ?_
        refine go_iald (pc' := 102) cx (g 92 pl) dX6_cutsAt_101 kq92 (ltn rfl) (vpi (k := pl) (a := 4) hpl rfl rfl) (congrArg (g 92) (cli (k := pl) (a := 4) hpl rfl)) rfl ?_
        refine go_icmp_ge (pc' := 105) cx 110 dX6_cutsAt_102 rfl rfl (fun c102 => ?_) (fun c102 => ?_)
        · have c102n := Int32.not_lt.mpr c102
          refine go_aload_n (pc' := 111) cx dX6_cutsAt_110 rfl rfl ?_
          refine go_getr (pc' := 114) cx 92 fX6_23 dX6_cutsAt_111 kq88 (ltn rfl) (ltn rfl) rfl rfl rfl ?_
          refine go_iload_n (pc' := 115) cx dX6_cutsAt_114 rfl rfl ?_
          refine go_iald (pc' := 116) cx (g 92 pl) dX6_cutsAt_115 kq92 (ltn rfl) (vpi (k := pl) (a := 4) hpl rfl rfl) (congrArg (g 92) (cli (k := pl) (a := 4) hpl rfl)) rfl ?_
          refine go_iastk (pc' := 117) cx pl dX6_cutsAt_116 kq92 (ltn rfl) (vpi (k := pl) (a := 4) hpl rfl rfl) (cli (k := pl) (a := 4) hpl rfl) rfl ?_
          refine go_vret cx rfl dX6_cutsAt_117 ?_
          exact Zu.mk (by
            obtain ⟨n, hn, en⟩ := hLp
            have h9 := (mxmn hn (leavesV (g 95 h) (g 92 pl) (wantsV (g 92 pl) (meansV (g 97 h) (g 93 pl) (g 98 h) (g 95 h) (g 96 h) (nI pl)) wo (g 88 10)))).1
            rw [← en] at h9
            refine congrArg (up2 g 92 pl) ?_
            unfold leftV
            rw [h9]
            unfold wantsV
            first | (simp [c16, c37, c87, c87n, c102, c102n]; done) | (simp_all [m10]; done) | (simp_all [m10]; rw [if_neg (Int32.not_lt.mpr c87)]; first | rw [if_neg (Int32.not_lt.mpr c102)] | rw [if_pos c102]) | (simp_all [m10]; exact fun q => absurd q (Int32.not_lt.mpr c87)))
        · have c102n := Int32.not_le.mp c102
          refine go_iload (pc' := 107) cx dX6_cutsAt_105 rfl rfl ?_
          refine go_goto cx 116 dX6_cutsAt_107 rfl ?_
          refine go_iastk (pc' := 117) cx pl dX6_cutsAt_116 kq92 (ltn rfl) (vpi (k := pl) (a := 4) hpl rfl rfl) (cli (k := pl) (a := 4) hpl rfl) rfl ?_
          refine go_vret cx rfl dX6_cutsAt_117 ?_
          exact Zu.mk (by
            obtain ⟨n, hn, en⟩ := hLp
            have h9 := (mxmn hn (leavesV (g 95 h) (g 92 pl) (wantsV (g 92 pl) (meansV (g 97 h) (g 93 pl) (g 98 h) (g 95 h) (g 96 h) (nI pl)) wo (g 88 10)))).1
            rw [← en] at h9
            refine congrArg (up2 g 92 pl) ?_
            unfold leftV
            rw [h9]
            unfold wantsV
            first | (simp [c16, c37, c87, c87n, c102, c102n]; done) | (simp_all [m10]; done) | (simp_all [m10]; rw [if_neg (Int32.not_lt.mpr c87)]; first | rw [if_neg (Int32.not_lt.mpr c102)] | rw [if_pos c102]) | (simp_all [m10]; exact fun q => absurd q (Int32.not_lt.mpr c87)))
      · have c87n := Int32.not_le.mp c87
        refine go_iconst (pc' := 91) cx 0 dX6_cutsAt_90 rfl rfl ?_
        refine go_goto cx 116 dX6_cutsAt_91 rfl ?_
        refine go_iastk (pc' := 117) cx pl dX6_cutsAt_116 kq92 (ltn rfl) (vpi (k := pl) (a := 4) hpl rfl rfl) (cli (k := pl) (a := 4) hpl rfl) rfl ?_
        refine go_vret cx rfl dX6_cutsAt_117 ?_
        exact Zu.mk (by
          obtain ⟨n, hn, en⟩ := hLp
          have h9 := (mxmn hn (leavesV (g 95 h) (g 92 pl) (wantsV (g 92 pl) (meansV (g 97 h) (g 93 pl) (g 98 h) (g 95 h) (g 96 h) (nI pl)) wo (g 88 10)))).1
          rw [← en] at h9
          refine congrArg (up2 g 92 pl) ?_
          unfold leftV
          rw [h9]
          unfold wantsV
          first | (simp [c16, c37, c87, c87n]; done) | (simp_all [m10]; done) | (simp_all [m10]; rw [if_neg (Int32.not_lt.mpr c87)]; first | rw [if_neg (Int32.not_lt.mpr c102)] | rw [if_pos c102]) | (simp_all [m10]; exact fun q => absurd q (Int32.not_lt.mpr c87)))
  · refine go_aload_n (pc' := 20) cx dX6_cutsAt_19 rfl rfl ?_
    refine go_getr (pc' := 23) cx 92 fX6_23 dX6_cutsAt_20 kq88 (ltn rfl) (ltn rfl) rfl rfl rfl ?_
    refine go_iload_n (pc' := 24) cx dX6_cutsAt_23 rfl rfl ?_
    refine go_iald (pc' := 25) cx (g 92 pl) dX6_cutsAt_24 kq92 (ltn rfl) (vpi (k := pl) (a := 4) hpl rfl rfl) (congrArg (g 92) (cli (k := pl) (a := 4) hpl rfl)) rfl ?_
    refine go_iload (pc' := 27) cx dX6_cutsAt_25 rfl rfl ?_
    refine go_iadd (pc' := 28) cx dX6_cutsAt_27 rfl ?_
    refine go_iconst (pc' := 29) cx 2 dX6_cutsAt_28 rfl rfl ?_
    refine go_idiv (pc' := 30) cx (by decide) dX6_cutsAt_29 rfl ?_
    refine go_istore (pc' := 32) cx dX6_cutsAt_30 (ltn rfl) [(4, .int (((g 92 pl) + (meansV (g 97 h) (g 93 pl) (g 98 h) (g 95 h) (g 96 h) (nI pl))) / 2)), (0, .ref (E.2.1 88)), (1, .int (nI h)), (2, .int (nI pl)), (3, .int wo)] rfl rfl ?_
    refine go_goto cx 65 dX6_cutsAt_32 rfl ?_
    refine go_aload_n (pc' := 66) cx dX6_cutsAt_65 rfl rfl ?_
    refine go_iload_n (pc' := 67) cx dX6_cutsAt_66 rfl rfl ?_
    refine go_aload_n (pc' := 68) cx dX6_cutsAt_67 rfl rfl ?_
    refine go_getr (pc' := 71) cx 92 fX6_23 dX6_cutsAt_68 kq88 (ltn rfl) (ltn rfl) rfl rfl rfl ?_
    refine go_iload_n (pc' := 72) cx dX6_cutsAt_71 rfl rfl ?_
    refine go_iald (pc' := 73) cx (g 92 pl) dX6_cutsAt_72 kq92 (ltn rfl) (vpi (k := pl) (a := 4) hpl rfl rfl) (congrArg (g 92) (cli (k := pl) (a := 4) hpl rfl)) rfl ?_
    refine go_iload (pc' := 75) cx dX6_cutsAt_73 rfl rfl ?_
    refine go_cVi (pc' := 78) cx (c_X6_leaves l E (g := g) hh (g 92 pl) (((g 92 pl) + (meansV (g 97 h) (g 93 pl) (g 98 h) (g 95 h) (g 96 h) (nI pl))) / 2)) mX6_leaves lX6_389 dX6_cutsAt_75 kq88 (ltn rfl) (ltn rfl) rfl rfl rfl rfl (ltn rfl) (Nat.le_of_ble_eq_true rfl) (Nat.le_of_ble_eq_true rfl) rfl ?_
    refine go_istore (pc' := 80) cx dX6_cutsAt_78 (ltn rfl) [(5, .int (leavesV (g 95 h) (g 92 pl) (((g 92 pl) + (meansV (g 97 h) (g 93 pl) (g 98 h) (g 95 h) (g 96 h) (nI pl))) / 2))), (4, .int (((g 92 pl) + (meansV (g 97 h) (g 93 pl) (g 98 h) (g 95 h) (g 96 h) (nI pl))) / 2)), (0, .ref (E.2.1 88)), (1, .int (nI h)), (2, .int (nI pl)), (3, .int wo)] rfl rfl ?_
    refine go_aload_n (pc' := 81) cx dX6_cutsAt_80 rfl rfl ?_
    refine go_getr (pc' := 84) cx 92 fX6_23 dX6_cutsAt_81 kq88 (ltn rfl) (ltn rfl) rfl rfl rfl ?_
    refine go_iload_n (pc' := 85) cx dX6_cutsAt_84 rfl rfl ?_
    refine go_iload (pc' := 87) cx dX6_cutsAt_85 rfl rfl ?_
    refine go_if_ge (pc' := 90) cx 94 dX6_cutsAt_87 rfl rfl (fun c87 => ?_) (fun c87 => ?_)
    · have c87n := Int32.not_lt.mpr c87
      refine go_iload (pc' := 96) cx dX6_cutsAt_94 rfl rfl ?_
      refine go_aload_n (pc' := 97) cx dX6_cutsAt_96 rfl rfl ?_
      refine go_getr (pc' := 100) cx 92 fX6_23 dX6_cutsAt_97 kq88 (ltn rfl) (ltn rfl) rfl rfl rfl ?_
      refine go_iload_n (pc' := 101) cx dX6_cutsAt_100 rfl rfl ?_
      refine go_iald (pc' := 102) cx (g 92 pl) dX6_cutsAt_101 kq92 (ltn rfl) (vpi (k := pl) (a := 4) hpl rfl rfl) (congrArg (g 92) (cli (k := pl) (a := 4) hpl rfl)) rfl ?_
      refine go_icmp_ge (pc' := 105) cx 110 dX6_cutsAt_102 rfl rfl (fun c102 => ?_) (fun c102 => ?_)
      · have c102n := Int32.not_lt.mpr c102
        refine go_aload_n (pc' := 111) cx dX6_cutsAt_110 rfl rfl ?_
        refine go_getr (pc' := 114) cx 92 fX6_23 dX6_cutsAt_111 kq88 (ltn rfl) (ltn rfl) rfl rfl rfl ?_
        refine go_iload_n (pc' := 115) cx dX6_cutsAt_114 rfl rfl ?_
        refine go_iald (pc' := 116) cx (g 92 pl) dX6_cutsAt_115 kq92 (ltn rfl) (vpi (k := pl) (a := 4) hpl rfl rfl) (congrArg (g 92) (cli (k := pl) (a := 4) hpl rfl)) rfl ?_
        refine go_iastk (pc' := 117) cx pl dX6_cutsAt_116 kq92 (ltn rfl) (vpi (k := pl) (a := 4) hpl rfl rfl) (cli (k := pl) (a := 4) hpl rfl) rfl ?_
        refine go_vret cx rfl dX6_cutsAt_117 ?_
        exact Zu.mk (by
          obtain ⟨n, hn, en⟩ := hLp
          have h9 := (mxmn hn (leavesV (g 95 h) (g 92 pl) (wantsV (g 92 pl) (meansV (g 97 h) (g 93 pl) (g 98 h) (g 95 h) (g 96 h) (nI pl)) wo (g 88 10)))).1
          rw [← en] at h9
          refine congrArg (up2 g 92 pl) ?_
          unfold leftV
          rw [h9]
          unfold wantsV
          first | (simp [c16, c87, c87n, c102, c102n]; done) | (simp_all [m10]; done) | (simp_all [m10]; rw [if_neg (Int32.not_lt.mpr c87)]; first | rw [if_neg (Int32.not_lt.mpr c102)] | rw [if_pos c102]) | (simp_all [m10]; exact fun q => absurd q (Int32.not_lt.mpr c87)))
      · have c102n := Int32.not_le.mp c102
        refine go_iload (pc' := 107) cx dX6_cutsAt_105 rfl rfl ?_
        refine go_goto cx 116 dX6_cutsAt_107 rfl ?_
        refine go_iastk (pc' := 117) cx pl dX6_cutsAt_116 kq92 (ltn rfl) (vpi (k := pl) (a := 4) hpl rfl rfl) (cli (k := pl) (a := 4) hpl rfl) rfl ?_
        refine go_vret cx rfl dX6_cutsAt_117 ?_
        exact Zu.mk (by
          obtain ⟨n, hn, en⟩ := hLp
          have h9 := (mxmn hn (leavesV (g 95 h) (g 92 pl) (wantsV (g 92 pl) (meansV (g 97 h) (g 93 pl) (g 98 h) (g 95 h) (g 96 h) (nI pl)) wo (g 88 10)))).1
          rw [← en] at h9
          refine congrArg (up2 g 92 pl) ?_
          unfold leftV
          rw [h9]
          unfold wantsV
          first | (simp [c16, c87, c87n, c102, c102n]; done) | (simp_all [m10]; done) | (simp_all [m10]; rw [if_neg (Int32.not_lt.mpr c87)]; first | rw [if_neg (Int32.not_lt.mpr c102)] | rw [if_pos c102]) | (simp_all [m10]; exact fun q => absurd q (Int32.not_lt.mpr c87)))
    · have c87n := Int32.not_le.mp c87
      refine go_iconst (pc' := 91) cx 0 dX6_cutsAt_90 rfl rfl ?_
      refine go_goto cx 116 dX6_cutsAt_91 rfl ?_
      refine go_iastk (pc' := 117) cx pl dX6_cutsAt_116 kq92 (ltn rfl) (vpi (k := pl) (a := 4) hpl rfl rfl) (cli (k := pl) (a := 4) hpl rfl) rfl ?_
      refine go_vret cx rfl dX6_cutsAt_117 ?_
      exact Zu.mk (by
        obtain ⟨n, hn, en⟩ := hLp
        have h9 := (mxmn hn (leavesV (g 95 h) (g 92 pl) (wantsV (g 92 pl) (meansV (g 97 h) (g 93 pl) (g 98 h) (g 95 h) (g 96 h) (nI pl)) wo (g 88 10)))).1
        rw [← en] at h9
        refine congrArg (up2 g 92 pl) ?_
        unfold leftV
        rw [h9]
        unfold wantsV
        first | (simp [c16, c87, c87n]; done) | (simp_all [m10]; done) | (simp_all [m10]; rw [if_neg (Int32.not_lt.mpr c87)]; first | rw [if_neg (Int32.not_lt.mpr c102)] | rw [if_pos c102]) | (simp_all [m10]; exact fun q => absurd q (Int32.not_lt.mpr c87)))

set_option maxHeartbeats 1000000 in
set_option maxRecDepth 20000 in
theorem evM_loop0 {l : Launch} {E : Ev} {Z : ZT} {o : Option Nat} {p : Program} {e : Env} {s : State} {m : MethodId} {args : Array Value} {below : List Frame} {meth : Method} {c : Code} {g : IG} {tc ru : Nat} {CS : CSt} (hX : MX g tc ru CS) (wk hd : Int32) (cx : Cx p s m args meth c E 115 cX6_evensOut 7 yX6_evensOut.cls none) : ∀ (k j : Nat) (Lf : Nat → Int32) (G : IG) (z : Int64), j + k = 30 → FrC g G → G 92 = Lf → G 93 = g 93 → G 88 39 = g 88 39 → SdI G tc CS → Ln Lf → (∀ (G9 : IG) (z9 : Int64), FrC g G9 → G9 92 = (evn (fun L => TMx CS ru 1 (evW L (g 93) (g 94) wk hd 0)) 0 k Lf).2 → G9 93 = g 93 → G9 88 39 = g 88 39 → SdI G9 tc CS → Z none (up2 G9 88 39 (G9 88 39 + nI (j + (evn (fun L => TMx CS ru 1 (evW L (g 93) (g 94) wk hd 0)) 0 k Lf).1))) (RFo o) z9) → Go p l e (rmd 46) s m args below meth c E 115 7 Z G (RFo o) z 3 [(4, .int (nI j)), (0, .ref (E.2.1 88)), (1, .int 0), (2, .int wk), (3, .int hd)] [] := by
  intro k
  induction k with
  | zero =>
    intro j Lf G z hk hF h92 h93 h39 hS hL hZ
    have hj : j = 30 := by omega
    subst hj
    refine go_iload (pc' := 5) cx dX6_evensOut_3 rfl rfl ?_
    refine go_bipush (pc' := 7) cx 30 dX6_evensOut_5 rfl rfl ?_
    refine go_icmp_ge (pc' := 10) cx 106 dX6_evensOut_7 rfl rfl (fun _ => ?_) (fun hh => absurd hh (by decide))
    refine go_aload_n (pc' := 107) cx dX6_evensOut_106 rfl rfl ?_
    refine go_dup (pc' := 108) cx rfl dX6_evensOut_107 rfl ?_
    refine go_geti (pc' := 111) cx (G 88 39) fX6_399 dX6_evensOut_108 kq88 (ltn rfl) (ltn rfl) rfl rfl rfl ?_
    refine go_iload (pc' := 113) cx dX6_evensOut_111 rfl rfl ?_
    refine go_iadd (pc' := 114) cx dX6_evensOut_113 rfl ?_
    refine go_puti (pc' := 117) cx fX6_399 dX6_evensOut_114 kq88 (ltn rfl) (ltn rfl) rfl rfl rfl rfl ?_
    refine go_vret cx rfl dX6_evensOut_117 ?_
    exact hZ G z hF h92 h93 h39 hS
  | succ k ih =>
    intro j Lf G z hk hF h92 h93 h39 hS hL hZ
    refine go_iload (pc' := 5) cx dX6_evensOut_3 rfl rfl ?_
    refine go_bipush (pc' := 7) cx 30 dX6_evensOut_5 rfl rfl ?_
    refine go_icmp_ge (pc' := 10) cx 106 dX6_evensOut_7 rfl rfl (fun hh => absurd ((nI_leI (a := 30) (b := j) (by omega) (by omega)).mp hh) (by omega)) (fun _ => ?_)
    refine go_aload_n (pc' := 11) cx dX6_evensOut_10 rfl rfl ?_
    refine go_getr (pc' := 14) cx 92 fX6_23 dX6_evensOut_11 kq88 (ltn rfl) (ltn rfl) rfl rfl rfl ?_
    refine go_iload_n (pc' := 15) cx dX6_evensOut_14 rfl rfl ?_
    refine go_iald (pc' := 16) cx (Lf 0) dX6_evensOut_15 kq92 (ltn rfl) (vpi (k := 0) (a := 1) (ltn rfl) rfl rfl) ((congrArg (G 92) (cli (k := 0) (a := 1) (ltn rfl) rfl)).trans (congrFun h92 0)) rfl ?_
    refine go_aload_n (pc' := 17) cx dX6_evensOut_16 rfl rfl ?_
    refine go_getr (pc' := 20) cx 92 fX6_23 dX6_evensOut_17 kq88 (ltn rfl) (ltn rfl) rfl rfl rfl ?_
    refine go_iload_n (pc' := 21) cx dX6_evensOut_20 rfl rfl ?_
    refine go_iconst (pc' := 22) cx 1 dX6_evensOut_21 rfl rfl ?_
    refine go_iadd (pc' := 23) cx dX6_evensOut_22 rfl ?_
    refine go_val (w := .int 1) (congrArg Value.int (by decide)) ?_
    refine go_iald (pc' := 24) cx (Lf 1) dX6_evensOut_23 kq92 (ltn rfl) (vpi (k := 1) (a := 2) (ltn rfl) rfl rfl) ((congrArg (G 92) (cli (k := 1) (a := 2) (ltn rfl) rfl)).trans (congrFun h92 1)) rfl ?_
    refine go_isub (pc' := 25) cx dX6_evensOut_24 rfl ?_
    refine go_cSi (pc' := 28) cx (c_X6_plain l E (g := G) ((Lf 0) - (Lf 1))) mX6_plain lX6_392 dX6_evensOut_25 rfl rfl rfl (ltn rfl) (Nat.le_of_ble_eq_true rfl) (Nat.le_of_ble_eq_true rfl) rfl ?_
    refine go_aload_n (pc' := 29) cx dX6_evensOut_28 rfl rfl ?_
    refine go_iconst (pc' := 30) cx 1 dX6_evensOut_29 rfl rfl ?_
    refine go_iload_n (pc' := 31) cx dX6_evensOut_30 rfl rfl ?_
    refine go_iload_n (pc' := 32) cx dX6_evensOut_31 rfl rfl ?_
    refine go_iload_n (pc' := 33) cx dX6_evensOut_32 rfl rfl ?_
    refine go_cVIz (pc' := 36) cx (c_X6_says l E (g := G) (hX.fc hF hS) (wh := 1) (pl := 0) (by omega) (by omega) wk hd) mX6_says lX6_395 dX6_evensOut_33 kq88 (ltn rfl) (ltn rfl) rfl rfl rfl rfl (ltn rfl) (Nat.le_of_ble_eq_true rfl) (Nat.le_of_ble_eq_true rfl) rfl (fun x3 G3 z3 h3 => ?_)
    obtain ⟨e3, hF3, hS3⟩ := h3
    have hx3 : x3 = (fun L => TMx CS ru 1 (evW L (g 93) (g 94) wk hd 0)) Lf := by
      rw [e3, h92, h93, hF.c (i := 94) (by omega) (by omega) (by omega) (by omega)]
      rfl
    refine go_icmp_le (pc' := 39) cx 106 dX6_evensOut_36 rfl rfl (fun c36 => ?_) (fun c36 => ?_)
    · have c36n := Int32.not_lt.mpr c36
      refine go_aload_n (pc' := 107) cx dX6_evensOut_106 rfl rfl ?_
      refine go_dup (pc' := 108) cx rfl dX6_evensOut_107 rfl ?_
      refine go_geti (pc' := 111) cx (G3 88 39) fX6_399 dX6_evensOut_108 kq88 (ltn rfl) (ltn rfl) rfl rfl rfl ?_
      refine go_iload (pc' := 113) cx dX6_evensOut_111 rfl rfl ?_
      refine go_iadd (pc' := 114) cx dX6_evensOut_113 rfl ?_
      refine go_puti (pc' := 117) cx fX6_399 dX6_evensOut_114 kq88 (ltn rfl) (ltn rfl) rfl rfl rfl rfl ?_
      refine go_vret cx rfl dX6_evensOut_117 ?_
      have hc : ¬ (fun L => TMx CS ru 1 (evW L (g 93) (g 94) wk hd 0)) Lf < ab (Lf 0 - Lf (0 + 1)) := by
        rw [← hx3, ← pl_ab]
        exact Int32.not_lt.mpr c36
      have q9 : evn (fun L => TMx CS ru 1 (evW L (g 93) (g 94) wk hd 0)) 0 (k + 1) Lf = (0, Lf) := if_neg hc
      have h9 := hZ G3 z3 (hF.tr hF3.fc) (by rw [q9]; exact (hF3.c (by omega) (by omega)).trans h92) ((hF3.c (by omega) (by omega)).trans h93) ((hF3 88 39 (by omega)).trans h39) hS3
      rw [q9] at h9
      exact h9
    · have c36n := Int32.not_le.mp c36
      refine go_aload_n (pc' := 40) cx dX6_evensOut_39 rfl rfl ?_
      refine go_getr (pc' := 43) cx 92 fX6_23 dX6_evensOut_40 kq88 (ltn rfl) (ltn rfl) rfl rfl rfl ?_
      refine go_iload_n (pc' := 44) cx dX6_evensOut_43 rfl rfl ?_
      refine go_iald (pc' := 45) cx (Lf 0) dX6_evensOut_44 kq92 (ltn rfl) (vpi (k := 0) (a := 1) (ltn rfl) rfl rfl) ((congrArg (G3 92) (cli (k := 0) (a := 1) (ltn rfl) rfl)).trans ((hF3 92 0 (by omega)).trans (congrFun h92 0))) rfl ?_
      refine go_aload_n (pc' := 46) cx dX6_evensOut_45 rfl rfl ?_
      refine go_getr (pc' := 49) cx 92 fX6_23 dX6_evensOut_46 kq88 (ltn rfl) (ltn rfl) rfl rfl rfl ?_
      refine go_iload_n (pc' := 50) cx dX6_evensOut_49 rfl rfl ?_
      refine go_iconst (pc' := 51) cx 1 dX6_evensOut_50 rfl rfl ?_
      refine go_iadd (pc' := 52) cx dX6_evensOut_51 rfl ?_
      refine go_val (w := .int 1) (congrArg Value.int (by decide)) ?_
      refine go_iald (pc' := 53) cx (Lf 1) dX6_evensOut_52 kq92 (ltn rfl) (vpi (k := 1) (a := 2) (ltn rfl) rfl rfl) ((congrArg (G3 92) (cli (k := 1) (a := 2) (ltn rfl) rfl)).trans ((hF3 92 1 (by omega)).trans (congrFun h92 1))) rfl ?_
      refine go_icmp_le (pc' := 56) cx 60 dX6_evensOut_53 rfl rfl (fun c53 => ?_) (fun c53 => ?_)
      · have c53n := Int32.not_lt.mpr c53
        refine go_iload_n (pc' := 61) cx dX6_evensOut_60 rfl rfl ?_
        refine go_iconst (pc' := 62) cx 1 dX6_evensOut_61 rfl rfl ?_
        refine go_iadd (pc' := 63) cx dX6_evensOut_62 rfl ?_
        refine go_val (w := .int 1) (congrArg Value.int (by decide)) ?_
        refine go_istore (pc' := 65) cx dX6_evensOut_63 (ltn rfl) [(5, .int 1), (4, .int (nI j)), (0, .ref (E.2.1 88)), (1, .int 0), (2, .int wk), (3, .int hd)] rfl rfl ?_
        refine go_aload_n (pc' := 66) cx dX6_evensOut_65 rfl rfl ?_
        refine go_getr (pc' := 69) cx 92 fX6_23 dX6_evensOut_66 kq88 (ltn rfl) (ltn rfl) rfl rfl rfl ?_
        refine go_iconst (pc' := 70) cx 2 dX6_evensOut_69 rfl rfl ?_
        refine go_iload_n (pc' := 71) cx dX6_evensOut_70 rfl rfl ?_
        refine go_imul (pc' := 72) cx dX6_evensOut_71 rfl ?_
        refine go_val (w := .int 0) (congrArg Value.int (by decide)) ?_
        refine go_iconst (pc' := 73) cx 1 dX6_evensOut_72 rfl rfl ?_
        refine go_iadd (pc' := 74) cx dX6_evensOut_73 rfl ?_
        refine go_val (w := .int 1) (congrArg Value.int (by decide)) ?_
        refine go_iload (pc' := 76) cx dX6_evensOut_74 rfl rfl ?_
        refine go_isub (pc' := 77) cx dX6_evensOut_76 rfl ?_
        refine go_val (w := .int 0) (congrArg Value.int (by decide)) ?_
        refine go_iald (pc' := 78) cx (Lf 0) dX6_evensOut_77 kq92 (ltn rfl) (vpi (k := 0) (a := 1) (ltn rfl) rfl rfl) ((congrArg (G3 92) (cli (k := 0) (a := 1) (ltn rfl) rfl)).trans ((hF3 92 0 (by omega)).trans (congrFun h92 0))) rfl ?_
        refine go_istore (pc' := 80) cx dX6_evensOut_78 (ltn rfl) [(6, .int (Lf 0)), (5, .int 1), (4, .int (nI j)), (0, .ref (E.2.1 88)), (1, .int 0), (2, .int wk), (3, .int hd)] rfl rfl ?_
        refine go_aload_n (pc' := 81) cx dX6_evensOut_80 rfl rfl ?_
        refine go_getr (pc' := 84) cx 92 fX6_23 dX6_evensOut_81 kq88 (ltn rfl) (ltn rfl) rfl rfl rfl ?_
        refine go_iload (pc' := 86) cx dX6_evensOut_84 rfl rfl ?_
        refine go_iload (pc' := 88) cx dX6_evensOut_86 rfl rfl ?_
        refine go_if_le (pc' := 91) cx 98 dX6_evensOut_88 rfl rfl (fun c88 => ?_) (fun c88 => ?_)
        · have c88n := Int32.not_lt.mpr c88
          refine go_iconst (pc' := 99) cx 0 dX6_evensOut_98 rfl rfl ?_
          refine go_iastk (pc' := 100) cx 1 dX6_evensOut_99 kq92 (ltn rfl) (vpi (k := 1) (a := 2) (ltn rfl) rfl rfl) (cli (k := 1) (a := 2) (ltn rfl) rfl) rfl ?_
          refine go_iinc (pc' := 103) cx (nI (j + 1)) dX6_evensOut_100 rfl (nI_1 j) (ltn rfl) [(4, .int (nI (j + 1))), (6, .int (Lf 0)), (5, .int 1), (0, .ref (E.2.1 88)), (1, .int 0), (2, .int wk), (3, .int hd)] rfl rfl ?_
          refine go_goto cx 3 dX6_evensOut_103 rfl ?_
          refine go_sub [0, 3, 4, 5, 6] [(4, .int (nI (j + 1))), (0, .ref (E.2.1 88)), (1, .int 0), (2, .int wk), (3, .int hd)] rfl ?_
          have hrow : (up2 G3 92 1 0) 92 = evs Lf 0 := by
            rw [up2_row, hF3.c (by omega) (by omega), h92]
            exact evs_row (c := False) (iff_of_false (Int32.not_lt.mpr c53) not_false) (by simp) (by simp) (hL 0 (by omega)) (by first | exact (if_pos c88).symm | exact (if_neg c88).symm)
          have hc : (fun L => TMx CS ru 1 (evW L (g 93) (g 94) wk hd 0)) Lf < ab (Lf 0 - Lf (0 + 1)) := by
            rw [← hx3, ← pl_ab]
            exact Int32.not_le.mp c36
          refine ih (j + 1) (evs Lf 0) (up2 G3 92 1 0) z3 (by omega) ((hF.tr hF3.fc).up (by omega)) hrow ((up2_rn _ _ _ (by omega)).trans ((hF3.c (by omega) (by omega)).trans h93)) ((up2_n _ _ (Or.inl (by omega))).trans ((hF3 88 39 (by omega)).trans h39)) (hS3.fr (up2_rn _ _ _ (by omega))) (hL.ev1 (by omega)) (fun G9 z9 f9 r9 l9 y9 s9 => ?_)
          have q9 : evn (fun L => TMx CS ru 1 (evW L (g 93) (g 94) wk hd 0)) 0 (k + 1) Lf = ((evn (fun L => TMx CS ru 1 (evW L (g 93) (g 94) wk hd 0)) 0 k (evs Lf 0)).1 + 1, (evn (fun L => TMx CS ru 1 (evW L (g 93) (g 94) wk hd 0)) 0 k (evs Lf 0)).2) := if_pos hc
          have h9 := hZ G9 z9 f9 (by rw [q9]; exact r9) l9 y9 s9
          rw [q9] at h9
          rw [show j + 1 + (evn (fun L => TMx CS ru 1 (evW L (g 93) (g 94) wk hd 0)) 0 k (evs Lf 0)).1 = j + ((evn (fun L => TMx CS ru 1 (evW L (g 93) (g 94) wk hd 0)) 0 k (evs Lf 0)).1 + 1) by omega]
          exact h9
        · have c88n := Int32.not_le.mp c88
          refine go_iload (pc' := 93) cx dX6_evensOut_91 rfl rfl ?_
          refine go_iconst (pc' := 94) cx 1 dX6_evensOut_93 rfl rfl ?_
          refine go_isub (pc' := 95) cx dX6_evensOut_94 rfl ?_
          refine go_goto cx 99 dX6_evensOut_95 rfl ?_
          refine go_iastk (pc' := 100) cx 1 dX6_evensOut_99 kq92 (ltn rfl) (vpi (k := 1) (a := 2) (ltn rfl) rfl rfl) (cli (k := 1) (a := 2) (ltn rfl) rfl) rfl ?_
          refine go_iinc (pc' := 103) cx (nI (j + 1)) dX6_evensOut_100 rfl (nI_1 j) (ltn rfl) [(4, .int (nI (j + 1))), (6, .int (Lf 0)), (5, .int 1), (0, .ref (E.2.1 88)), (1, .int 0), (2, .int wk), (3, .int hd)] rfl rfl ?_
          refine go_goto cx 3 dX6_evensOut_103 rfl ?_
          refine go_sub [0, 3, 4, 5, 6] [(4, .int (nI (j + 1))), (0, .ref (E.2.1 88)), (1, .int 0), (2, .int wk), (3, .int hd)] rfl ?_
          have hrow : (up2 G3 92 1 ((Lf 0) - 1)) 92 = evs Lf 0 := by
            rw [up2_row, hF3.c (by omega) (by omega), h92]
            exact evs_row (c := False) (iff_of_false (Int32.not_lt.mpr c53) not_false) (by simp) (by simp) (hL 0 (by omega)) (by first | exact (if_pos c88).symm | exact (if_neg c88).symm)
          have hc : (fun L => TMx CS ru 1 (evW L (g 93) (g 94) wk hd 0)) Lf < ab (Lf 0 - Lf (0 + 1)) := by
            rw [← hx3, ← pl_ab]
            exact Int32.not_le.mp c36
          refine ih (j + 1) (evs Lf 0) (up2 G3 92 1 ((Lf 0) - 1)) z3 (by omega) ((hF.tr hF3.fc).up (by omega)) hrow ((up2_rn _ _ _ (by omega)).trans ((hF3.c (by omega) (by omega)).trans h93)) ((up2_n _ _ (Or.inl (by omega))).trans ((hF3 88 39 (by omega)).trans h39)) (hS3.fr (up2_rn _ _ _ (by omega))) (hL.ev1 (by omega)) (fun G9 z9 f9 r9 l9 y9 s9 => ?_)
          have q9 : evn (fun L => TMx CS ru 1 (evW L (g 93) (g 94) wk hd 0)) 0 (k + 1) Lf = ((evn (fun L => TMx CS ru 1 (evW L (g 93) (g 94) wk hd 0)) 0 k (evs Lf 0)).1 + 1, (evn (fun L => TMx CS ru 1 (evW L (g 93) (g 94) wk hd 0)) 0 k (evs Lf 0)).2) := if_pos hc
          have h9 := hZ G9 z9 f9 (by rw [q9]; exact r9) l9 y9 s9
          rw [q9] at h9
          rw [show j + 1 + (evn (fun L => TMx CS ru 1 (evW L (g 93) (g 94) wk hd 0)) 0 k (evs Lf 0)).1 = j + ((evn (fun L => TMx CS ru 1 (evW L (g 93) (g 94) wk hd 0)) 0 k (evs Lf 0)).1 + 1) by omega]
          exact h9
      · have c53n := Int32.not_le.mp c53
        refine go_iload_n (pc' := 57) cx dX6_evensOut_56 rfl rfl ?_
        refine go_goto cx 63 dX6_evensOut_57 rfl ?_
        refine go_istore (pc' := 65) cx dX6_evensOut_63 (ltn rfl) [(5, .int 0), (4, .int (nI j)), (0, .ref (E.2.1 88)), (1, .int 0), (2, .int wk), (3, .int hd)] rfl rfl ?_
        refine go_aload_n (pc' := 66) cx dX6_evensOut_65 rfl rfl ?_
        refine go_getr (pc' := 69) cx 92 fX6_23 dX6_evensOut_66 kq88 (ltn rfl) (ltn rfl) rfl rfl rfl ?_
        refine go_iconst (pc' := 70) cx 2 dX6_evensOut_69 rfl rfl ?_
        refine go_iload_n (pc' := 71) cx dX6_evensOut_70 rfl rfl ?_
        refine go_imul (pc' := 72) cx dX6_evensOut_71 rfl ?_
        refine go_val (w := .int 0) (congrArg Value.int (by decide)) ?_
        refine go_iconst (pc' := 73) cx 1 dX6_evensOut_72 rfl rfl ?_
        refine go_iadd (pc' := 74) cx dX6_evensOut_73 rfl ?_
        refine go_val (w := .int 1) (congrArg Value.int (by decide)) ?_
        refine go_iload (pc' := 76) cx dX6_evensOut_74 rfl rfl ?_
        refine go_isub (pc' := 77) cx dX6_evensOut_76 rfl ?_
        refine go_val (w := .int 1) (congrArg Value.int (by decide)) ?_
        refine go_iald (pc' := 78) cx (Lf 1) dX6_evensOut_77 kq92 (ltn rfl) (vpi (k := 1) (a := 2) (ltn rfl) rfl rfl) ((congrArg (G3 92) (cli (k := 1) (a := 2) (ltn rfl) rfl)).trans ((hF3 92 1 (by omega)).trans (congrFun h92 1))) rfl ?_
        refine go_istore (pc' := 80) cx dX6_evensOut_78 (ltn rfl) [(6, .int (Lf 1)), (5, .int 0), (4, .int (nI j)), (0, .ref (E.2.1 88)), (1, .int 0), (2, .int wk), (3, .int hd)] rfl rfl ?_
        refine go_aload_n (pc' := 81) cx dX6_evensOut_80 rfl rfl ?_
        refine go_getr (pc' := 84) cx 92 fX6_23 dX6_evensOut_81 kq88 (ltn rfl) (ltn rfl) rfl rfl rfl ?_
        refine go_iload (pc' := 86) cx dX6_evensOut_84 rfl rfl ?_
        refine go_iload (pc' := 88) cx dX6_evensOut_86 rfl rfl ?_
        refine go_if_le (pc' := 91) cx 98 dX6_evensOut_88 rfl rfl (fun c88 => ?_) (fun c88 => ?_)
        · have c88n := Int32.not_lt.mpr c88
          refine go_iconst (pc' := 99) cx 0 dX6_evensOut_98 rfl rfl ?_
          refine go_iastk (pc' := 100) cx 0 dX6_evensOut_99 kq92 (ltn rfl) (vpi (k := 0) (a := 1) (ltn rfl) rfl rfl) (cli (k := 0) (a := 1) (ltn rfl) rfl) rfl ?_
          refine go_iinc (pc' := 103) cx (nI (j + 1)) dX6_evensOut_100 rfl (nI_1 j) (ltn rfl) [(4, .int (nI (j + 1))), (6, .int (Lf 1)), (5, .int 0), (0, .ref (E.2.1 88)), (1, .int 0), (2, .int wk), (3, .int hd)] rfl rfl ?_
          refine go_goto cx 3 dX6_evensOut_103 rfl ?_
          refine go_sub [0, 3, 4, 5, 6] [(4, .int (nI (j + 1))), (0, .ref (E.2.1 88)), (1, .int 0), (2, .int wk), (3, .int hd)] rfl ?_
          have hrow : (up2 G3 92 0 0) 92 = evs Lf 0 := by
            rw [up2_row, hF3.c (by omega) (by omega), h92]
            exact evs_row (c := True) (iff_of_true (Int32.not_le.mp c53) trivial) (by simp) (by simp) (hL 1 (by omega)) (by first | exact (if_pos c88).symm | exact (if_neg c88).symm)
          have hc : (fun L => TMx CS ru 1 (evW L (g 93) (g 94) wk hd 0)) Lf < ab (Lf 0 - Lf (0 + 1)) := by
            rw [← hx3, ← pl_ab]
            exact Int32.not_le.mp c36
          refine ih (j + 1) (evs Lf 0) (up2 G3 92 0 0) z3 (by omega) ((hF.tr hF3.fc).up (by omega)) hrow ((up2_rn _ _ _ (by omega)).trans ((hF3.c (by omega) (by omega)).trans h93)) ((up2_n _ _ (Or.inl (by omega))).trans ((hF3 88 39 (by omega)).trans h39)) (hS3.fr (up2_rn _ _ _ (by omega))) (hL.ev1 (by omega)) (fun G9 z9 f9 r9 l9 y9 s9 => ?_)
          have q9 : evn (fun L => TMx CS ru 1 (evW L (g 93) (g 94) wk hd 0)) 0 (k + 1) Lf = ((evn (fun L => TMx CS ru 1 (evW L (g 93) (g 94) wk hd 0)) 0 k (evs Lf 0)).1 + 1, (evn (fun L => TMx CS ru 1 (evW L (g 93) (g 94) wk hd 0)) 0 k (evs Lf 0)).2) := if_pos hc
          have h9 := hZ G9 z9 f9 (by rw [q9]; exact r9) l9 y9 s9
          rw [q9] at h9
          rw [show j + 1 + (evn (fun L => TMx CS ru 1 (evW L (g 93) (g 94) wk hd 0)) 0 k (evs Lf 0)).1 = j + ((evn (fun L => TMx CS ru 1 (evW L (g 93) (g 94) wk hd 0)) 0 k (evs Lf 0)).1 + 1) by omega]
          exact h9
        · have c88n := Int32.not_le.mp c88
          refine go_iload (pc' := 93) cx dX6_evensOut_91 rfl rfl ?_
          refine go_iconst (pc' := 94) cx 1 dX6_evensOut_93 rfl rfl ?_
          refine go_isub (pc' := 95) cx dX6_evensOut_94 rfl ?_
          refine go_goto cx 99 dX6_evensOut_95 rfl ?_
          refine go_iastk (pc' := 100) cx 0 dX6_evensOut_99 kq92 (ltn rfl) (vpi (k := 0) (a := 1) (ltn rfl) rfl rfl) (cli (k := 0) (a := 1) (ltn rfl) rfl) rfl ?_
          refine go_iinc (pc' := 103) cx (nI (j + 1)) dX6_evensOut_100 rfl (nI_1 j) (ltn rfl) [(4, .int (nI (j + 1))), (6, .int (Lf 1)), (5, .int 0), (0, .ref (E.2.1 88)), (1, .int 0), (2, .int wk), (3, .int hd)] rfl rfl ?_
          refine go_goto cx 3 dX6_evensOut_103 rfl ?_
          refine go_sub [0, 3, 4, 5, 6] [(4, .int (nI (j + 1))), (0, .ref (E.2.1 88)), (1, .int 0), (2, .int wk), (3, .int hd)] rfl ?_
          have hrow : (up2 G3 92 0 ((Lf 1) - 1)) 92 = evs Lf 0 := by
            rw [up2_row, hF3.c (by omega) (by omega), h92]
            exact evs_row (c := True) (iff_of_true (Int32.not_le.mp c53) trivial) (by simp) (by simp) (hL 1 (by omega)) (by first | exact (if_pos c88).symm | exact (if_neg c88).symm)
          have hc : (fun L => TMx CS ru 1 (evW L (g 93) (g 94) wk hd 0)) Lf < ab (Lf 0 - Lf (0 + 1)) := by
            rw [← hx3, ← pl_ab]
            exact Int32.not_le.mp c36
          refine ih (j + 1) (evs Lf 0) (up2 G3 92 0 ((Lf 1) - 1)) z3 (by omega) ((hF.tr hF3.fc).up (by omega)) hrow ((up2_rn _ _ _ (by omega)).trans ((hF3.c (by omega) (by omega)).trans h93)) ((up2_n _ _ (Or.inl (by omega))).trans ((hF3 88 39 (by omega)).trans h39)) (hS3.fr (up2_rn _ _ _ (by omega))) (hL.ev1 (by omega)) (fun G9 z9 f9 r9 l9 y9 s9 => ?_)
          have q9 : evn (fun L => TMx CS ru 1 (evW L (g 93) (g 94) wk hd 0)) 0 (k + 1) Lf = ((evn (fun L => TMx CS ru 1 (evW L (g 93) (g 94) wk hd 0)) 0 k (evs Lf 0)).1 + 1, (evn (fun L => TMx CS ru 1 (evW L (g 93) (g 94) wk hd 0)) 0 k (evs Lf 0)).2) := if_pos hc
          have h9 := hZ G9 z9 f9 (by rw [q9]; exact r9) l9 y9 s9
          rw [q9] at h9
          rw [show j + 1 + (evn (fun L => TMx CS ru 1 (evW L (g 93) (g 94) wk hd 0)) 0 k (evs Lf 0)).1 = j + ((evn (fun L => TMx CS ru 1 (evW L (g 93) (g 94) wk hd 0)) 0 k (evs Lf 0)).1 + 1) by omega]
          exact h9

set_option maxHeartbeats 1000000 in
set_option maxRecDepth 20000 in
theorem c_X6_evensOut0 (l : Launch) (E : Ev) {g : IG} {o : Option Nat} {z : Int64} {tc ru : Nat} {CS : CSt} (hX : MX g tc ru CS) (hL : Ln (g 92)) (wk hd : Int32) : Ct l E 115 yX6_evensOut cX6_evensOut 7 none 46 [.ref (E.2.1 88), .int 0, .int wk, .int hd] g (RFo o) z (ZVz (RFo o) (fun g1 z1 => FrC g g1 ∧ g1 92 = (evn (fun L => TMx CS ru 1 (evW L (g 93) (g 94) wk hd 0)) 0 30 (g 92)).2 ∧ g1 93 = g 93 ∧ g1 88 39 = g 88 39 + nI (evn (fun L => TMx CS ru 1 (evW L (g 93) (g 94) wk hd 0)) 0 30 (g 92)).1 ∧ SdI g1 tc CS)) := by
  refine Ct.of (lv0 := [(0, .ref (E.2.1 88)), (1, .int 0), (2, .int wk), (3, .int hd)]) (by decide) (Nat.le_of_ble_eq_true rfl) rfl ?_
  intro p e s m below meth c cx
  refine go_iconst (pc' := 1) cx 0 dX6_evensOut_0 rfl rfl ?_
  refine go_istore (pc' := 3) cx dX6_evensOut_1 (ltn rfl) [(4, .int 0), (0, .ref (E.2.1 88)), (1, .int 0), (2, .int wk), (3, .int hd)] rfl rfl ?_
  refine go_sub [0, 1, 2, 3, 4] [(4, .int (nI 0)), (0, .ref (E.2.1 88)), (1, .int 0), (2, .int wk), (3, .int hd)] rfl ?_
  exact evM_loop0 hX wk hd cx 30 0 (g 92) g z rfl FrC.rf rfl rfl rfl hX.2.2.2.2.2 hL (fun G9 z9 f9 r9 l9 y9 s9 => ZVz.mk ⟨f9.up (by omega), (up2_rn _ _ _ (by omega)).trans r9, (up2_rn _ _ _ (by omega)).trans l9, by rw [up2_s, Nat.zero_add, y9], s9.fr (up2_rn _ _ _ (by omega))⟩)

set_option maxHeartbeats 1000000 in
set_option maxRecDepth 20000 in
theorem evM_loop2 {l : Launch} {E : Ev} {Z : ZT} {o : Option Nat} {p : Program} {e : Env} {s : State} {m : MethodId} {args : Array Value} {below : List Frame} {meth : Method} {c : Code} {g : IG} {tc ru : Nat} {CS : CSt} (hX : MX g tc ru CS) (wk hd : Int32) (cx : Cx p s m args meth c E 115 cX6_evensOut 7 yX6_evensOut.cls none) : ∀ (k j : Nat) (Lf : Nat → Int32) (G : IG) (z : Int64), j + k = 30 → FrC g G → G 92 = Lf → G 93 = g 93 → G 88 39 = g 88 39 → SdI G tc CS → Ln Lf → (∀ (G9 : IG) (z9 : Int64), FrC g G9 → G9 92 = (evn (fun L => TMx CS ru 1 (evW L (g 93) (g 94) wk hd 2)) 2 k Lf).2 → G9 93 = g 93 → G9 88 39 = g 88 39 → SdI G9 tc CS → Z none (up2 G9 88 39 (G9 88 39 + nI (j + (evn (fun L => TMx CS ru 1 (evW L (g 93) (g 94) wk hd 2)) 2 k Lf).1))) (RFo o) z9) → Go p l e (rmd 46) s m args below meth c E 115 7 Z G (RFo o) z 3 [(4, .int (nI j)), (0, .ref (E.2.1 88)), (1, .int 2), (2, .int wk), (3, .int hd)] [] := by
  intro k
  induction k with
  | zero =>
    intro j Lf G z hk hF h92 h93 h39 hS hL hZ
    have hj : j = 30 := by omega
    subst hj
    refine go_iload (pc' := 5) cx dX6_evensOut_3 rfl rfl ?_
    refine go_bipush (pc' := 7) cx 30 dX6_evensOut_5 rfl rfl ?_
    refine go_icmp_ge (pc' := 10) cx 106 dX6_evensOut_7 rfl rfl (fun _ => ?_) (fun hh => absurd hh (by decide))
    refine go_aload_n (pc' := 107) cx dX6_evensOut_106 rfl rfl ?_
    refine go_dup (pc' := 108) cx rfl dX6_evensOut_107 rfl ?_
    refine go_geti (pc' := 111) cx (G 88 39) fX6_399 dX6_evensOut_108 kq88 (ltn rfl) (ltn rfl) rfl rfl rfl ?_
    refine go_iload (pc' := 113) cx dX6_evensOut_111 rfl rfl ?_
    refine go_iadd (pc' := 114) cx dX6_evensOut_113 rfl ?_
    refine go_puti (pc' := 117) cx fX6_399 dX6_evensOut_114 kq88 (ltn rfl) (ltn rfl) rfl rfl rfl rfl ?_
    refine go_vret cx rfl dX6_evensOut_117 ?_
    exact hZ G z hF h92 h93 h39 hS
  | succ k ih =>
    intro j Lf G z hk hF h92 h93 h39 hS hL hZ
    refine go_iload (pc' := 5) cx dX6_evensOut_3 rfl rfl ?_
    refine go_bipush (pc' := 7) cx 30 dX6_evensOut_5 rfl rfl ?_
    refine go_icmp_ge (pc' := 10) cx 106 dX6_evensOut_7 rfl rfl (fun hh => absurd ((nI_leI (a := 30) (b := j) (by omega) (by omega)).mp hh) (by omega)) (fun _ => ?_)
    refine go_aload_n (pc' := 11) cx dX6_evensOut_10 rfl rfl ?_
    refine go_getr (pc' := 14) cx 92 fX6_23 dX6_evensOut_11 kq88 (ltn rfl) (ltn rfl) rfl rfl rfl ?_
    refine go_iload_n (pc' := 15) cx dX6_evensOut_14 rfl rfl ?_
    refine go_iald (pc' := 16) cx (Lf 2) dX6_evensOut_15 kq92 (ltn rfl) (vpi (k := 2) (a := 3) (ltn rfl) rfl rfl) ((congrArg (G 92) (cli (k := 2) (a := 3) (ltn rfl) rfl)).trans (congrFun h92 2)) rfl ?_
    refine go_aload_n (pc' := 17) cx dX6_evensOut_16 rfl rfl ?_
    refine go_getr (pc' := 20) cx 92 fX6_23 dX6_evensOut_17 kq88 (ltn rfl) (ltn rfl) rfl rfl rfl ?_
    refine go_iload_n (pc' := 21) cx dX6_evensOut_20 rfl rfl ?_
    refine go_iconst (pc' := 22) cx 1 dX6_evensOut_21 rfl rfl ?_
    refine go_iadd (pc' := 23) cx dX6_evensOut_22 rfl ?_
    refine go_val (w := .int 3) (congrArg Value.int (by decide)) ?_
    refine go_iald (pc' := 24) cx (Lf 3) dX6_evensOut_23 kq92 (ltn rfl) (vpi (k := 3) (a := 4) (ltn rfl) rfl rfl) ((congrArg (G 92) (cli (k := 3) (a := 4) (ltn rfl) rfl)).trans (congrFun h92 3)) rfl ?_
    refine go_isub (pc' := 25) cx dX6_evensOut_24 rfl ?_
    refine go_cSi (pc' := 28) cx (c_X6_plain l E (g := G) ((Lf 2) - (Lf 3))) mX6_plain lX6_392 dX6_evensOut_25 rfl rfl rfl (ltn rfl) (Nat.le_of_ble_eq_true rfl) (Nat.le_of_ble_eq_true rfl) rfl ?_
    refine go_aload_n (pc' := 29) cx dX6_evensOut_28 rfl rfl ?_
    refine go_iconst (pc' := 30) cx 1 dX6_evensOut_29 rfl rfl ?_
    refine go_iload_n (pc' := 31) cx dX6_evensOut_30 rfl rfl ?_
    refine go_iload_n (pc' := 32) cx dX6_evensOut_31 rfl rfl ?_
    refine go_iload_n (pc' := 33) cx dX6_evensOut_32 rfl rfl ?_
    refine go_cVIz (pc' := 36) cx (c_X6_says l E (g := G) (hX.fc hF hS) (wh := 1) (pl := 2) (by omega) (by omega) wk hd) mX6_says lX6_395 dX6_evensOut_33 kq88 (ltn rfl) (ltn rfl) rfl rfl rfl rfl (ltn rfl) (Nat.le_of_ble_eq_true rfl) (Nat.le_of_ble_eq_true rfl) rfl (fun x3 G3 z3 h3 => ?_)
    obtain ⟨e3, hF3, hS3⟩ := h3
    have hx3 : x3 = (fun L => TMx CS ru 1 (evW L (g 93) (g 94) wk hd 2)) Lf := by
      rw [e3, h92, h93, hF.c (i := 94) (by omega) (by omega) (by omega) (by omega)]
      rfl
    refine go_icmp_le (pc' := 39) cx 106 dX6_evensOut_36 rfl rfl (fun c36 => ?_) (fun c36 => ?_)
    · have c36n := Int32.not_lt.mpr c36
      refine go_aload_n (pc' := 107) cx dX6_evensOut_106 rfl rfl ?_
      refine go_dup (pc' := 108) cx rfl dX6_evensOut_107 rfl ?_
      refine go_geti (pc' := 111) cx (G3 88 39) fX6_399 dX6_evensOut_108 kq88 (ltn rfl) (ltn rfl) rfl rfl rfl ?_
      refine go_iload (pc' := 113) cx dX6_evensOut_111 rfl rfl ?_
      refine go_iadd (pc' := 114) cx dX6_evensOut_113 rfl ?_
      refine go_puti (pc' := 117) cx fX6_399 dX6_evensOut_114 kq88 (ltn rfl) (ltn rfl) rfl rfl rfl rfl ?_
      refine go_vret cx rfl dX6_evensOut_117 ?_
      have hc : ¬ (fun L => TMx CS ru 1 (evW L (g 93) (g 94) wk hd 2)) Lf < ab (Lf 2 - Lf (2 + 1)) := by
        rw [← hx3, ← pl_ab]
        exact Int32.not_lt.mpr c36
      have q9 : evn (fun L => TMx CS ru 1 (evW L (g 93) (g 94) wk hd 2)) 2 (k + 1) Lf = (0, Lf) := if_neg hc
      have h9 := hZ G3 z3 (hF.tr hF3.fc) (by rw [q9]; exact (hF3.c (by omega) (by omega)).trans h92) ((hF3.c (by omega) (by omega)).trans h93) ((hF3 88 39 (by omega)).trans h39) hS3
      rw [q9] at h9
      exact h9
    · have c36n := Int32.not_le.mp c36
      refine go_aload_n (pc' := 40) cx dX6_evensOut_39 rfl rfl ?_
      refine go_getr (pc' := 43) cx 92 fX6_23 dX6_evensOut_40 kq88 (ltn rfl) (ltn rfl) rfl rfl rfl ?_
      refine go_iload_n (pc' := 44) cx dX6_evensOut_43 rfl rfl ?_
      refine go_iald (pc' := 45) cx (Lf 2) dX6_evensOut_44 kq92 (ltn rfl) (vpi (k := 2) (a := 3) (ltn rfl) rfl rfl) ((congrArg (G3 92) (cli (k := 2) (a := 3) (ltn rfl) rfl)).trans ((hF3 92 2 (by omega)).trans (congrFun h92 2))) rfl ?_
      refine go_aload_n (pc' := 46) cx dX6_evensOut_45 rfl rfl ?_
      refine go_getr (pc' := 49) cx 92 fX6_23 dX6_evensOut_46 kq88 (ltn rfl) (ltn rfl) rfl rfl rfl ?_
      refine go_iload_n (pc' := 50) cx dX6_evensOut_49 rfl rfl ?_
      refine go_iconst (pc' := 51) cx 1 dX6_evensOut_50 rfl rfl ?_
      refine go_iadd (pc' := 52) cx dX6_evensOut_51 rfl ?_
      refine go_val (w := .int 3) (congrArg Value.int (by decide)) ?_
      refine go_iald (pc' := 53) cx (Lf 3) dX6_evensOut_52 kq92 (ltn rfl) (vpi (k := 3) (a := 4) (ltn rfl) rfl rfl) ((congrArg (G3 92) (cli (k := 3) (a := 4) (ltn rfl) rfl)).trans ((hF3 92 3 (by omega)).trans (congrFun h92 3))) rfl ?_
      refine go_icmp_le (pc' := 56) cx 60 dX6_evensOut_53 rfl rfl (fun c53 => ?_) (fun c53 => ?_)
      · have c53n := Int32.not_lt.mpr c53
        refine go_iload_n (pc' := 61) cx dX6_evensOut_60 rfl rfl ?_
        refine go_iconst (pc' := 62) cx 1 dX6_evensOut_61 rfl rfl ?_
        refine go_iadd (pc' := 63) cx dX6_evensOut_62 rfl ?_
        refine go_val (w := .int 3) (congrArg Value.int (by decide)) ?_
        refine go_istore (pc' := 65) cx dX6_evensOut_63 (ltn rfl) [(5, .int 3), (4, .int (nI j)), (0, .ref (E.2.1 88)), (1, .int 2), (2, .int wk), (3, .int hd)] rfl rfl ?_
        refine go_aload_n (pc' := 66) cx dX6_evensOut_65 rfl rfl ?_
        refine go_getr (pc' := 69) cx 92 fX6_23 dX6_evensOut_66 kq88 (ltn rfl) (ltn rfl) rfl rfl rfl ?_
        refine go_iconst (pc' := 70) cx 2 dX6_evensOut_69 rfl rfl ?_
        refine go_iload_n (pc' := 71) cx dX6_evensOut_70 rfl rfl ?_
        refine go_imul (pc' := 72) cx dX6_evensOut_71 rfl ?_
        refine go_val (w := .int 4) (congrArg Value.int (by decide)) ?_
        refine go_iconst (pc' := 73) cx 1 dX6_evensOut_72 rfl rfl ?_
        refine go_iadd (pc' := 74) cx dX6_evensOut_73 rfl ?_
        refine go_val (w := .int 5) (congrArg Value.int (by decide)) ?_
        refine go_iload (pc' := 76) cx dX6_evensOut_74 rfl rfl ?_
        refine go_isub (pc' := 77) cx dX6_evensOut_76 rfl ?_
        refine go_val (w := .int 2) (congrArg Value.int (by decide)) ?_
        refine go_iald (pc' := 78) cx (Lf 2) dX6_evensOut_77 kq92 (ltn rfl) (vpi (k := 2) (a := 3) (ltn rfl) rfl rfl) ((congrArg (G3 92) (cli (k := 2) (a := 3) (ltn rfl) rfl)).trans ((hF3 92 2 (by omega)).trans (congrFun h92 2))) rfl ?_
        refine go_istore (pc' := 80) cx dX6_evensOut_78 (ltn rfl) [(6, .int (Lf 2)), (5, .int 3), (4, .int (nI j)), (0, .ref (E.2.1 88)), (1, .int 2), (2, .int wk), (3, .int hd)] rfl rfl ?_
        refine go_aload_n (pc' := 81) cx dX6_evensOut_80 rfl rfl ?_
        refine go_getr (pc' := 84) cx 92 fX6_23 dX6_evensOut_81 kq88 (ltn rfl) (ltn rfl) rfl rfl rfl ?_
        refine go_iload (pc' := 86) cx dX6_evensOut_84 rfl rfl ?_
        refine go_iload (pc' := 88) cx dX6_evensOut_86 rfl rfl ?_
        refine go_if_le (pc' := 91) cx 98 dX6_evensOut_88 rfl rfl (fun c88 => ?_) (fun c88 => ?_)
        · have c88n := Int32.not_lt.mpr c88
          refine go_iconst (pc' := 99) cx 0 dX6_evensOut_98 rfl rfl ?_
          refine go_iastk (pc' := 100) cx 3 dX6_evensOut_99 kq92 (ltn rfl) (vpi (k := 3) (a := 4) (ltn rfl) rfl rfl) (cli (k := 3) (a := 4) (ltn rfl) rfl) rfl ?_
          refine go_iinc (pc' := 103) cx (nI (j + 1)) dX6_evensOut_100 rfl (nI_1 j) (ltn rfl) [(4, .int (nI (j + 1))), (6, .int (Lf 2)), (5, .int 3), (0, .ref (E.2.1 88)), (1, .int 2), (2, .int wk), (3, .int hd)] rfl rfl ?_
          refine go_goto cx 3 dX6_evensOut_103 rfl ?_
          refine go_sub [0, 3, 4, 5, 6] [(4, .int (nI (j + 1))), (0, .ref (E.2.1 88)), (1, .int 2), (2, .int wk), (3, .int hd)] rfl ?_
          have hrow : (up2 G3 92 3 0) 92 = evs Lf 2 := by
            rw [up2_row, hF3.c (by omega) (by omega), h92]
            exact evs_row (c := False) (iff_of_false (Int32.not_lt.mpr c53) not_false) (by simp) (by simp) (hL 2 (by omega)) (by first | exact (if_pos c88).symm | exact (if_neg c88).symm)
          have hc : (fun L => TMx CS ru 1 (evW L (g 93) (g 94) wk hd 2)) Lf < ab (Lf 2 - Lf (2 + 1)) := by
            rw [← hx3, ← pl_ab]
            exact Int32.not_le.mp c36
          refine ih (j + 1) (evs Lf 2) (up2 G3 92 3 0) z3 (by omega) ((hF.tr hF3.fc).up (by omega)) hrow ((up2_rn _ _ _ (by omega)).trans ((hF3.c (by omega) (by omega)).trans h93)) ((up2_n _ _ (Or.inl (by omega))).trans ((hF3 88 39 (by omega)).trans h39)) (hS3.fr (up2_rn _ _ _ (by omega))) (hL.ev1 (by omega)) (fun G9 z9 f9 r9 l9 y9 s9 => ?_)
          have q9 : evn (fun L => TMx CS ru 1 (evW L (g 93) (g 94) wk hd 2)) 2 (k + 1) Lf = ((evn (fun L => TMx CS ru 1 (evW L (g 93) (g 94) wk hd 2)) 2 k (evs Lf 2)).1 + 1, (evn (fun L => TMx CS ru 1 (evW L (g 93) (g 94) wk hd 2)) 2 k (evs Lf 2)).2) := if_pos hc
          have h9 := hZ G9 z9 f9 (by rw [q9]; exact r9) l9 y9 s9
          rw [q9] at h9
          rw [show j + 1 + (evn (fun L => TMx CS ru 1 (evW L (g 93) (g 94) wk hd 2)) 2 k (evs Lf 2)).1 = j + ((evn (fun L => TMx CS ru 1 (evW L (g 93) (g 94) wk hd 2)) 2 k (evs Lf 2)).1 + 1) by omega]
          exact h9
        · have c88n := Int32.not_le.mp c88
          refine go_iload (pc' := 93) cx dX6_evensOut_91 rfl rfl ?_
          refine go_iconst (pc' := 94) cx 1 dX6_evensOut_93 rfl rfl ?_
          refine go_isub (pc' := 95) cx dX6_evensOut_94 rfl ?_
          refine go_goto cx 99 dX6_evensOut_95 rfl ?_
          refine go_iastk (pc' := 100) cx 3 dX6_evensOut_99 kq92 (ltn rfl) (vpi (k := 3) (a := 4) (ltn rfl) rfl rfl) (cli (k := 3) (a := 4) (ltn rfl) rfl) rfl ?_
          refine go_iinc (pc' := 103) cx (nI (j + 1)) dX6_evensOut_100 rfl (nI_1 j) (ltn rfl) [(4, .int (nI (j + 1))), (6, .int (Lf 2)), (5, .int 3), (0, .ref (E.2.1 88)), (1, .int 2), (2, .int wk), (3, .int hd)] rfl rfl ?_
          refine go_goto cx 3 dX6_evensOut_103 rfl ?_
          refine go_sub [0, 3, 4, 5, 6] [(4, .int (nI (j + 1))), (0, .ref (E.2.1 88)), (1, .int 2), (2, .int wk), (3, .int hd)] rfl ?_
          have hrow : (up2 G3 92 3 ((Lf 2) - 1)) 92 = evs Lf 2 := by
            rw [up2_row, hF3.c (by omega) (by omega), h92]
            exact evs_row (c := False) (iff_of_false (Int32.not_lt.mpr c53) not_false) (by simp) (by simp) (hL 2 (by omega)) (by first | exact (if_pos c88).symm | exact (if_neg c88).symm)
          have hc : (fun L => TMx CS ru 1 (evW L (g 93) (g 94) wk hd 2)) Lf < ab (Lf 2 - Lf (2 + 1)) := by
            rw [← hx3, ← pl_ab]
            exact Int32.not_le.mp c36
          refine ih (j + 1) (evs Lf 2) (up2 G3 92 3 ((Lf 2) - 1)) z3 (by omega) ((hF.tr hF3.fc).up (by omega)) hrow ((up2_rn _ _ _ (by omega)).trans ((hF3.c (by omega) (by omega)).trans h93)) ((up2_n _ _ (Or.inl (by omega))).trans ((hF3 88 39 (by omega)).trans h39)) (hS3.fr (up2_rn _ _ _ (by omega))) (hL.ev1 (by omega)) (fun G9 z9 f9 r9 l9 y9 s9 => ?_)
          have q9 : evn (fun L => TMx CS ru 1 (evW L (g 93) (g 94) wk hd 2)) 2 (k + 1) Lf = ((evn (fun L => TMx CS ru 1 (evW L (g 93) (g 94) wk hd 2)) 2 k (evs Lf 2)).1 + 1, (evn (fun L => TMx CS ru 1 (evW L (g 93) (g 94) wk hd 2)) 2 k (evs Lf 2)).2) := if_pos hc
          have h9 := hZ G9 z9 f9 (by rw [q9]; exact r9) l9 y9 s9
          rw [q9] at h9
          rw [show j + 1 + (evn (fun L => TMx CS ru 1 (evW L (g 93) (g 94) wk hd 2)) 2 k (evs Lf 2)).1 = j + ((evn (fun L => TMx CS ru 1 (evW L (g 93) (g 94) wk hd 2)) 2 k (evs Lf 2)).1 + 1) by omega]
          exact h9
      · have c53n := Int32.not_le.mp c53
        refine go_iload_n (pc' := 57) cx dX6_evensOut_56 rfl rfl ?_
        refine go_goto cx 63 dX6_evensOut_57 rfl ?_
        refine go_istore (pc' := 65) cx dX6_evensOut_63 (ltn rfl) [(5, .int 2), (4, .int (nI j)), (0, .ref (E.2.1 88)), (1, .int 2), (2, .int wk), (3, .int hd)] rfl rfl ?_
        refine go_aload_n (pc' := 66) cx dX6_evensOut_65 rfl rfl ?_
        refine go_getr (pc' := 69) cx 92 fX6_23 dX6_evensOut_66 kq88 (ltn rfl) (ltn rfl) rfl rfl rfl ?_
        refine go_iconst (pc' := 70) cx 2 dX6_evensOut_69 rfl rfl ?_
        refine go_iload_n (pc' := 71) cx dX6_evensOut_70 rfl rfl ?_
        refine go_imul (pc' := 72) cx dX6_evensOut_71 rfl ?_
        refine go_val (w := .int 4) (congrArg Value.int (by decide)) ?_
        refine go_iconst (pc' := 73) cx 1 dX6_evensOut_72 rfl rfl ?_
        refine go_iadd (pc' := 74) cx dX6_evensOut_73 rfl ?_
        refine go_val (w := .int 5) (congrArg Value.int (by decide)) ?_
        refine go_iload (pc' := 76) cx dX6_evensOut_74 rfl rfl ?_
        refine go_isub (pc' := 77) cx dX6_evensOut_76 rfl ?_
        refine go_val (w := .int 3) (congrArg Value.int (by decide)) ?_
        refine go_iald (pc' := 78) cx (Lf 3) dX6_evensOut_77 kq92 (ltn rfl) (vpi (k := 3) (a := 4) (ltn rfl) rfl rfl) ((congrArg (G3 92) (cli (k := 3) (a := 4) (ltn rfl) rfl)).trans ((hF3 92 3 (by omega)).trans (congrFun h92 3))) rfl ?_
        refine go_istore (pc' := 80) cx dX6_evensOut_78 (ltn rfl) [(6, .int (Lf 3)), (5, .int 2), (4, .int (nI j)), (0, .ref (E.2.1 88)), (1, .int 2), (2, .int wk), (3, .int hd)] rfl rfl ?_
        refine go_aload_n (pc' := 81) cx dX6_evensOut_80 rfl rfl ?_
        refine go_getr (pc' := 84) cx 92 fX6_23 dX6_evensOut_81 kq88 (ltn rfl) (ltn rfl) rfl rfl rfl ?_
        refine go_iload (pc' := 86) cx dX6_evensOut_84 rfl rfl ?_
        refine go_iload (pc' := 88) cx dX6_evensOut_86 rfl rfl ?_
        refine go_if_le (pc' := 91) cx 98 dX6_evensOut_88 rfl rfl (fun c88 => ?_) (fun c88 => ?_)
        · have c88n := Int32.not_lt.mpr c88
          refine go_iconst (pc' := 99) cx 0 dX6_evensOut_98 rfl rfl ?_
          refine go_iastk (pc' := 100) cx 2 dX6_evensOut_99 kq92 (ltn rfl) (vpi (k := 2) (a := 3) (ltn rfl) rfl rfl) (cli (k := 2) (a := 3) (ltn rfl) rfl) rfl ?_
          refine go_iinc (pc' := 103) cx (nI (j + 1)) dX6_evensOut_100 rfl (nI_1 j) (ltn rfl) [(4, .int (nI (j + 1))), (6, .int (Lf 3)), (5, .int 2), (0, .ref (E.2.1 88)), (1, .int 2), (2, .int wk), (3, .int hd)] rfl rfl ?_
          refine go_goto cx 3 dX6_evensOut_103 rfl ?_
          refine go_sub [0, 3, 4, 5, 6] [(4, .int (nI (j + 1))), (0, .ref (E.2.1 88)), (1, .int 2), (2, .int wk), (3, .int hd)] rfl ?_
          have hrow : (up2 G3 92 2 0) 92 = evs Lf 2 := by
            rw [up2_row, hF3.c (by omega) (by omega), h92]
            exact evs_row (c := True) (iff_of_true (Int32.not_le.mp c53) trivial) (by simp) (by simp) (hL 3 (by omega)) (by first | exact (if_pos c88).symm | exact (if_neg c88).symm)
          have hc : (fun L => TMx CS ru 1 (evW L (g 93) (g 94) wk hd 2)) Lf < ab (Lf 2 - Lf (2 + 1)) := by
            rw [← hx3, ← pl_ab]
            exact Int32.not_le.mp c36
          refine ih (j + 1) (evs Lf 2) (up2 G3 92 2 0) z3 (by omega) ((hF.tr hF3.fc).up (by omega)) hrow ((up2_rn _ _ _ (by omega)).trans ((hF3.c (by omega) (by omega)).trans h93)) ((up2_n _ _ (Or.inl (by omega))).trans ((hF3 88 39 (by omega)).trans h39)) (hS3.fr (up2_rn _ _ _ (by omega))) (hL.ev1 (by omega)) (fun G9 z9 f9 r9 l9 y9 s9 => ?_)
          have q9 : evn (fun L => TMx CS ru 1 (evW L (g 93) (g 94) wk hd 2)) 2 (k + 1) Lf = ((evn (fun L => TMx CS ru 1 (evW L (g 93) (g 94) wk hd 2)) 2 k (evs Lf 2)).1 + 1, (evn (fun L => TMx CS ru 1 (evW L (g 93) (g 94) wk hd 2)) 2 k (evs Lf 2)).2) := if_pos hc
          have h9 := hZ G9 z9 f9 (by rw [q9]; exact r9) l9 y9 s9
          rw [q9] at h9
          rw [show j + 1 + (evn (fun L => TMx CS ru 1 (evW L (g 93) (g 94) wk hd 2)) 2 k (evs Lf 2)).1 = j + ((evn (fun L => TMx CS ru 1 (evW L (g 93) (g 94) wk hd 2)) 2 k (evs Lf 2)).1 + 1) by omega]
          exact h9
        · have c88n := Int32.not_le.mp c88
          refine go_iload (pc' := 93) cx dX6_evensOut_91 rfl rfl ?_
          refine go_iconst (pc' := 94) cx 1 dX6_evensOut_93 rfl rfl ?_
          refine go_isub (pc' := 95) cx dX6_evensOut_94 rfl ?_
          refine go_goto cx 99 dX6_evensOut_95 rfl ?_
          refine go_iastk (pc' := 100) cx 2 dX6_evensOut_99 kq92 (ltn rfl) (vpi (k := 2) (a := 3) (ltn rfl) rfl rfl) (cli (k := 2) (a := 3) (ltn rfl) rfl) rfl ?_
          refine go_iinc (pc' := 103) cx (nI (j + 1)) dX6_evensOut_100 rfl (nI_1 j) (ltn rfl) [(4, .int (nI (j + 1))), (6, .int (Lf 3)), (5, .int 2), (0, .ref (E.2.1 88)), (1, .int 2), (2, .int wk), (3, .int hd)] rfl rfl ?_
          refine go_goto cx 3 dX6_evensOut_103 rfl ?_
          refine go_sub [0, 3, 4, 5, 6] [(4, .int (nI (j + 1))), (0, .ref (E.2.1 88)), (1, .int 2), (2, .int wk), (3, .int hd)] rfl ?_
          have hrow : (up2 G3 92 2 ((Lf 3) - 1)) 92 = evs Lf 2 := by
            rw [up2_row, hF3.c (by omega) (by omega), h92]
            exact evs_row (c := True) (iff_of_true (Int32.not_le.mp c53) trivial) (by simp) (by simp) (hL 3 (by omega)) (by first | exact (if_pos c88).symm | exact (if_neg c88).symm)
          have hc : (fun L => TMx CS ru 1 (evW L (g 93) (g 94) wk hd 2)) Lf < ab (Lf 2 - Lf (2 + 1)) := by
            rw [← hx3, ← pl_ab]
            exact Int32.not_le.mp c36
          refine ih (j + 1) (evs Lf 2) (up2 G3 92 2 ((Lf 3) - 1)) z3 (by omega) ((hF.tr hF3.fc).up (by omega)) hrow ((up2_rn _ _ _ (by omega)).trans ((hF3.c (by omega) (by omega)).trans h93)) ((up2_n _ _ (Or.inl (by omega))).trans ((hF3 88 39 (by omega)).trans h39)) (hS3.fr (up2_rn _ _ _ (by omega))) (hL.ev1 (by omega)) (fun G9 z9 f9 r9 l9 y9 s9 => ?_)
          have q9 : evn (fun L => TMx CS ru 1 (evW L (g 93) (g 94) wk hd 2)) 2 (k + 1) Lf = ((evn (fun L => TMx CS ru 1 (evW L (g 93) (g 94) wk hd 2)) 2 k (evs Lf 2)).1 + 1, (evn (fun L => TMx CS ru 1 (evW L (g 93) (g 94) wk hd 2)) 2 k (evs Lf 2)).2) := if_pos hc
          have h9 := hZ G9 z9 f9 (by rw [q9]; exact r9) l9 y9 s9
          rw [q9] at h9
          rw [show j + 1 + (evn (fun L => TMx CS ru 1 (evW L (g 93) (g 94) wk hd 2)) 2 k (evs Lf 2)).1 = j + ((evn (fun L => TMx CS ru 1 (evW L (g 93) (g 94) wk hd 2)) 2 k (evs Lf 2)).1 + 1) by omega]
          exact h9

set_option maxHeartbeats 1000000 in
set_option maxRecDepth 20000 in
theorem c_X6_evensOut2 (l : Launch) (E : Ev) {g : IG} {o : Option Nat} {z : Int64} {tc ru : Nat} {CS : CSt} (hX : MX g tc ru CS) (hL : Ln (g 92)) (wk hd : Int32) : Ct l E 115 yX6_evensOut cX6_evensOut 7 none 46 [.ref (E.2.1 88), .int 2, .int wk, .int hd] g (RFo o) z (ZVz (RFo o) (fun g1 z1 => FrC g g1 ∧ g1 92 = (evn (fun L => TMx CS ru 1 (evW L (g 93) (g 94) wk hd 2)) 2 30 (g 92)).2 ∧ g1 93 = g 93 ∧ g1 88 39 = g 88 39 + nI (evn (fun L => TMx CS ru 1 (evW L (g 93) (g 94) wk hd 2)) 2 30 (g 92)).1 ∧ SdI g1 tc CS)) := by
  refine Ct.of (lv0 := [(0, .ref (E.2.1 88)), (1, .int 2), (2, .int wk), (3, .int hd)]) (by decide) (Nat.le_of_ble_eq_true rfl) rfl ?_
  intro p e s m below meth c cx
  refine go_iconst (pc' := 1) cx 0 dX6_evensOut_0 rfl rfl ?_
  refine go_istore (pc' := 3) cx dX6_evensOut_1 (ltn rfl) [(4, .int 0), (0, .ref (E.2.1 88)), (1, .int 2), (2, .int wk), (3, .int hd)] rfl rfl ?_
  refine go_sub [0, 1, 2, 3, 4] [(4, .int (nI 0)), (0, .ref (E.2.1 88)), (1, .int 2), (2, .int wk), (3, .int hd)] rfl ?_
  exact evM_loop2 hX wk hd cx 30 0 (g 92) g z rfl FrC.rf rfl rfl rfl hX.2.2.2.2.2 hL (fun G9 z9 f9 r9 l9 y9 s9 => ZVz.mk ⟨f9.up (by omega), (up2_rn _ _ _ (by omega)).trans r9, (up2_rn _ _ _ (by omega)).trans l9, by rw [up2_s, Nat.zero_add, y9], s9.fr (up2_rn _ _ _ (by omega))⟩)

def GRW (CS : CSt) (ru : Nat) (g : IG) (v : Nat) : Nat → Int32 := fun p => mn 199 (g 92 p + TMx CS ru 0 (evW (g 92) (g 93) (g 94) (g 100 v) (g 99 v) p))
theorem TMx_n (CS : CSt) (ru k : Nat) (ev : Int32 → Int32) : ∃ m, m ≤ 99 ∧ TMx CS ru k ev = nI m := clp_n _
theorem GRW_n {CS : CSt} {ru : Nat} {g : IG} {v : Nat} (hL : Ln (g 92)) {p : Nat} (hp : p < 4) : (∃ n, n ≤ 199 ∧ GRW CS ru g v p = nI n) ∧ witF 0 199 (g 92 p + TMx CS ru 0 (evW (g 92) (g 93) (g 94) (g 100 v) (g 99 v) p)) = GRW CS ru g v p := by
  unfold GRW
  obtain ⟨n, hn, en⟩ := hL p hp
  obtain ⟨m, hm, em⟩ := TMx_n CS ru 0 (evW (g 92) (g 93) (g 94) (g 100 v) (g 99 v) p)
  rw [en, em]
  exact ⟨(wit_mn hn hm).2, (wit_mn hn hm).1⟩
theorem G1A_n {CS : CSt} {ru : Nat} {g : IG} {v h : Nat} (hL : Ln (g 92)) : Ln (growS (g 92) (G1A (TMx CS ru) (svM g) v h (g 92) (g 93)) 4) := by
  intro p hp
  obtain ⟨n, hn, en⟩ := (GRW_n (CS := CS) (ru := ru) (v := v) hL hp).1
  have e : growS (g 92) (G1A (TMx CS ru) (svM g) v h (g 92) (g 93)) 4 p = leftV (g 95 h) (GRW CS ru g v p) (meansV (g 97 h) (g 93 p) (g 98 h) (g 95 h) (g 96 h) (nI p)) (g 101 v) (g 88 10) := if_pos hp
  rw [e, en]
  obtain ⟨m, hm, em⟩ := (mxmn hn (leavesV (g 95 h) (nI n) (wantsV (nI n) (meansV (g 97 h) (g 93 p) (g 98 h) (g 95 h) (g 96 h) (nI p)) (g 101 v) (g 88 10)))).2
  exact ⟨m, by omega, em⟩
theorem grow2 (L R S : Nat → Int32) : growS (growS L R 4) S 4 = growS L S 4 := by
  funext j
  unfold growS
  by_cases h : j < 4
  · rw [if_pos h, if_pos h]
  · rw [if_neg h, if_neg h, if_neg h]
theorem growS_E4 (L S : Nat → Int32) : E4 (growS L S 4) S := fun p hp => if_pos hp

set_option maxHeartbeats 1000000 in
set_option maxRecDepth 20000 in
theorem gtA {l : Launch} {E : Ev} {Z : ZT} {o : Option Nat} {p : Program} {e : Env} {s : State} {m : MethodId} {args : Array Value} {below : List Frame} {meth : Method} {c : Code} {g : IG} {tc ru : Nat} {CS : CSt} (hX : MX g tc ru CS) (hL : Ln (g 92)) {v h : Nat} (hv : v < 8) (hh : h < 5) (hgh : g 99 v = nI h)  (cx : Cx p s m args meth c E 115 cX6_goesTo 5 yX6_goesTo.cls none) : ∀ (k q : Nat) (G : IG) (z : Int64), q + k = 4 → FrC g G → G 92 = growS (g 92) (GRW CS ru g v) q → G 93 = g 93 → G 88 39 = g 88 39 → SdI G tc CS → (∀ (G9 : IG) (z9 : Int64), FrC g G9 → G9 92 = growS (g 92) (GRW CS ru g v) 4 → G9 93 = g 93 → G9 88 39 = g 88 39 → SdI G9 tc CS → Go p l e (rmd 47) s m args below meth c E 115 5 Z G9 (RFo o) z9 60 [(4, .int 4), (0, .ref (E.2.1 88)), (1, .int (nI v)), (2, .int (nI h)), (3, .int (g 100 v))] []) → Go p l e (rmd 47) s m args below meth c E 115 5 Z G (RFo o) z 17 [(4, .int (nI q)), (0, .ref (E.2.1 88)), (1, .int (nI v)), (2, .int (nI h)), (3, .int (g 100 v))] [] := by
  intro k
  induction k with
  | zero =>
    intro q G z hk hF h92 h93 h39 hS kk
    have hq : q = 4 := by omega
    subst hq
    refine go_iload (pc' := 19) cx dX6_goesTo_17 rfl rfl ?_
    refine go_iconst (pc' := 20) cx 4 dX6_goesTo_19 rfl rfl ?_
    refine go_icmp_ge (pc' := 23) cx 60 dX6_goesTo_20 rfl rfl (fun _ => ?_) (fun hh => absurd hh (by decide))
    exact kk G z hF h92 h93 h39 hS
  | succ k ih =>
    intro q G z hk hF h92 h93 h39 hS kk
    refine go_iload (pc' := 19) cx dX6_goesTo_17 rfl rfl ?_
    refine go_iconst (pc' := 20) cx 4 dX6_goesTo_19 rfl rfl ?_
    refine go_icmp_ge (pc' := 23) cx 60 dX6_goesTo_20 rfl rfl (fun hh9 => absurd ((nI_leI (a := 4) (b := q) (by omega) (by omega)).mp hh9) (by omega)) (fun _ => ?_)
    refine go_aload_n (pc' := 24) cx dX6_goesTo_23 rfl rfl ?_
    refine go_getr (pc' := 27) cx 92 fX6_23 dX6_goesTo_24 kq88 (ltn rfl) (ltn rfl) rfl rfl rfl ?_
    refine go_iload (pc' := 29) cx dX6_goesTo_27 rfl rfl ?_
    refine go_aload_n (pc' := 30) cx dX6_goesTo_29 rfl rfl ?_
    refine go_getr (pc' := 33) cx 92 fX6_23 dX6_goesTo_30 kq88 (ltn rfl) (ltn rfl) rfl rfl rfl ?_
    refine go_iload (pc' := 35) cx dX6_goesTo_33 rfl rfl ?_
    refine go_iald (pc' := 36) cx (g 92 q) dX6_goesTo_35 kq92 (ltn rfl) (vpi (k := q) (a := 4) (by omega) rfl rfl) ((congrArg (G 92) (cli (k := q) (a := 4) (by omega) rfl)).trans ((congrFun h92 q).trans (growS_q _ _ _))) rfl ?_
    refine go_aload_n (pc' := 37) cx dX6_goesTo_36 rfl rfl ?_
    refine go_iconst (pc' := 38) cx 0 dX6_goesTo_37 rfl rfl ?_
    refine go_iload (pc' := 40) cx dX6_goesTo_38 rfl rfl ?_
    refine go_iload_n (pc' := 41) cx dX6_goesTo_40 rfl rfl ?_
    refine go_iload_n (pc' := 42) cx dX6_goesTo_41 rfl rfl ?_
    refine go_cVIz (pc' := 45) cx (c_X6_says l E (g := G) (hX.fc hF hS) (wh := 0) (pl := q) (by omega) (by omega) (g 100 v) (nI h)) mX6_says lX6_395 dX6_goesTo_42 kq88 (ltn rfl) (ltn rfl) rfl rfl rfl rfl (ltn rfl) (Nat.le_of_ble_eq_true rfl) (Nat.le_of_ble_eq_true rfl) rfl (fun x3 G3 z3 h3 => ?_)
    obtain ⟨e3, hF3, hS3⟩ := h3
    have hx3 : x3 = TMx CS ru 0 (evW (g 92) (g 93) (g 94) (g 100 v) (g 99 v) q) := by
      rw [e3]
      show TMx CS ru 0 (evW (G 92) (G 93) (G 94) (g 100 v) (nI h) q) = _
      rw [h93, hF.c (i := 94) (by omega) (by omega) (by omega) (by omega), hgh, h92]
      exact congrArg (TMx CS ru 0) (evW_c (growS_q _ _ _))
    refine go_iadd (pc' := 46) cx dX6_goesTo_45 rfl ?_
    refine go_iconst (pc' := 47) cx 0 dX6_goesTo_46 rfl rfl ?_
    refine go_sipush (pc' := 50) cx 199 dX6_goesTo_47 rfl rfl ?_
    refine go_cSi (pc' := 53) cx (c_X6_within l E (g := G3) ((g 92 q) + x3) 0 199) mX6_within lX6_382 dX6_goesTo_50 rfl rfl rfl (ltn rfl) (Nat.le_of_ble_eq_true rfl) (Nat.le_of_ble_eq_true rfl) rfl ?_
    refine go_iastk (pc' := 54) cx q dX6_goesTo_53 kq92 (ltn rfl) (vpi (k := q) (a := 4) (by omega) rfl rfl) (cli (k := q) (a := 4) (by omega) rfl) rfl ?_
    refine go_iinc (pc' := 57) cx (nI (q + 1)) dX6_goesTo_54 rfl (nI_1 q) (ltn rfl) [(4, .int (nI (q + 1))), (0, .ref (E.2.1 88)), (1, .int (nI v)), (2, .int (nI h)), (3, .int (g 100 v))] rfl rfl ?_
    refine go_goto cx 17 dX6_goesTo_57 rfl ?_
    have hv9 : witF 0 199 (g 92 q + x3) = (GRW CS ru g v) q := by
      rw [hx3]
      exact (GRW_n hL (by omega)).2
    have hrow : (up2 G3 92 q (witF 0 199 ((g 92 q) + x3))) 92 = growS (g 92) (GRW CS ru g v) (q + 1) := by
      rw [up2_row, hF3.c (by omega) (by omega), h92]
      refine Eq.trans (congrArg (upd _ q) ?_) (growS_s _ _ q)
      exact hv9
    exact ih (q + 1) (up2 G3 92 q (witF 0 199 ((g 92 q) + x3))) z3 (by omega) ((hF.tr hF3.fc).up (by omega)) hrow ((up2_rn _ _ _ (by omega)).trans ((hF3.c (by omega) (by omega)).trans h93)) ((up2_n _ _ (Or.inl (by omega))).trans ((hF3 88 39 (by omega)).trans h39)) (hS3.fr (up2_rn _ _ _ (by omega))) kk

set_option maxHeartbeats 1000000 in
set_option maxRecDepth 20000 in
theorem gtB {l : Launch} {E : Ev} {Z : ZT} {o : Option Nat} {p : Program} {e : Env} {s : State} {m : MethodId} {args : Array Value} {below : List Frame} {meth : Method} {c : Code} {g : IG} {tc ru : Nat} {CS : CSt} (hX : MX g tc ru CS) (hL : Ln (g 92)) {v h : Nat} (hv : v < 8) (hh : h < 5) (hgh : g 99 v = nI h)  (cx : Cx p s m args meth c E 115 cX6_goesTo 5 yX6_goesTo.cls none) : ∀ (k q : Nat) (G : IG) (z : Int64), q + k = 4 → FrC g G → G 92 = (growS (growS (g 92) (GRW CS ru g v) 4) (G1A (TMx CS ru) (svM g) v h (g 92) (g 93)) q) → G 93 = g 93 → G 88 39 = g 88 39 → SdI G tc CS → (∀ (G9 : IG) (z9 : Int64), FrC g G9 → G9 92 = (growS (growS (g 92) (GRW CS ru g v) 4) (G1A (TMx CS ru) (svM g) v h (g 92) (g 93)) 4) → G9 93 = g 93 → G9 88 39 = g 88 39 → SdI G9 tc CS → Go p l e (rmd 47) s m args below meth c E 115 5 Z G9 (RFo o) z9 88 [(4, .int 4), (0, .ref (E.2.1 88)), (1, .int (nI v)), (2, .int (nI h)), (3, .int (g 100 v))] []) → Go p l e (rmd 47) s m args below meth c E 115 5 Z G (RFo o) z 63 [(4, .int (nI q)), (0, .ref (E.2.1 88)), (1, .int (nI v)), (2, .int (nI h)), (3, .int (g 100 v))] [] := by
  intro k
  induction k with
  | zero =>
    intro q G z hk hF h92 h93 h39 hS kk
    have hq : q = 4 := by omega
    subst hq
    refine go_iload (pc' := 65) cx dX6_goesTo_63 rfl rfl ?_
    refine go_iconst (pc' := 66) cx 4 dX6_goesTo_65 rfl rfl ?_
    refine go_icmp_ge (pc' := 69) cx 88 dX6_goesTo_66 rfl rfl (fun _ => ?_) (fun hh => absurd hh (by decide))
    exact kk G z hF h92 h93 h39 hS
  | succ k ih =>
    intro q G z hk hF h92 h93 h39 hS kk
    refine go_iload (pc' := 65) cx dX6_goesTo_63 rfl rfl ?_
    refine go_iconst (pc' := 66) cx 4 dX6_goesTo_65 rfl rfl ?_
    refine go_icmp_ge (pc' := 69) cx 88 dX6_goesTo_66 rfl rfl (fun hh9 => absurd ((nI_leI (a := 4) (b := q) (by omega) (by omega)).mp hh9) (by omega)) (fun _ => ?_)
    refine go_aload_n (pc' := 70) cx dX6_goesTo_69 rfl rfl ?_
    refine go_iload_n (pc' := 71) cx dX6_goesTo_70 rfl rfl ?_
    refine go_iload (pc' := 73) cx dX6_goesTo_71 rfl rfl ?_
    refine go_aload_n (pc' := 74) cx dX6_goesTo_73 rfl rfl ?_
    refine go_getr (pc' := 77) cx 101 fX6_53 dX6_goesTo_74 kq88 (ltn rfl) (ltn rfl) rfl rfl rfl ?_
    refine go_iload_n (pc' := 78) cx dX6_goesTo_77 rfl rfl ?_
    refine go_iald (pc' := 79) cx (G 101 v) dX6_goesTo_78 kq101 (ltn rfl) (vpi (k := v) (a := 8) hv rfl rfl) (congrArg (G 101) (cli (k := v) (a := 8) hv rfl)) rfl ?_
    have hq9 : G 92 q = (GRW CS ru g v) q := by
      rw [h92, growS_q]
      exact if_pos (by omega)
    refine go_cVu (pc' := 82) cx (c_X6_cutsAt l E (g := G) hh (pl := q) (by omega) (G 101 v) (by rw [hq9]; exact (GRW_n hL (by omega)).1)) mX6_cutsAt lX6_402 dX6_goesTo_79 kq88 (ltn rfl) (ltn rfl) rfl rfl rfl rfl (ltn rfl) (Nat.le_of_ble_eq_true rfl) (Nat.le_of_ble_eq_true rfl) rfl ?_
    refine go_iinc (pc' := 85) cx (nI (q + 1)) dX6_goesTo_82 rfl (nI_1 q) (ltn rfl) [(4, .int (nI (q + 1))), (0, .ref (E.2.1 88)), (1, .int (nI v)), (2, .int (nI h)), (3, .int (g 100 v))] rfl rfl ?_
    refine go_goto cx 63 dX6_goesTo_85 rfl ?_
    have hv9 : leftV (G 95 h) (G 92 q) (meansV (G 97 h) (G 93 q) (G 98 h) (G 95 h) (G 96 h) (nI q)) (G 101 v) (G 88 10) = (G1A (TMx CS ru) (svM g) v h (g 92) (g 93)) q := by
      rw [hq9, hF.c (i := 95) (by omega) (by omega) (by omega) (by omega), hF.c (i := 97) (by omega) (by omega) (by omega) (by omega), hF.c (i := 98) (by omega) (by omega) (by omega) (by omega), hF.c (i := 96) (by omega) (by omega) (by omega) (by omega), hF.c (i := 101) (by omega) (by omega) (by omega) (by omega), h93, hF 88 10 (by omega)]
      rfl
    have hrow : (up2 G 92 q (leftV (G 95 h) (G 92 q) (meansV (G 97 h) (G 93 q) (G 98 h) (G 95 h) (G 96 h) (nI q)) (G 101 v) (G 88 10))) 92 = growS (growS (g 92) (GRW CS ru g v) 4) (G1A (TMx CS ru) (svM g) v h (g 92) (g 93)) (q + 1) := by
      rw [up2_row, hv9, h92]
      exact growS_s _ _ q
    exact ih (q + 1) (up2 G 92 q (leftV (G 95 h) (G 92 q) (meansV (G 97 h) (G 93 q) (G 98 h) (G 95 h) (G 96 h) (nI q)) (G 101 v) (G 88 10))) z (by omega) (hF.up (by omega)) hrow ((up2_rn _ _ _ (by omega)).trans h93) ((up2_n _ _ (Or.inl (by omega))).trans h39) (hS.fr (up2_rn _ _ _ (by omega))) kk

set_option maxHeartbeats 1000000 in
set_option maxRecDepth 20000 in
theorem gtC {l : Launch} {E : Ev} {Z : ZT} {o : Option Nat} {p : Program} {e : Env} {s : State} {m : MethodId} {args : Array Value} {below : List Frame} {meth : Method} {c : Code} {g : IG} {tc : Nat} {CS : CSt} {v h : Nat} {S A : Nat → Int32} {y : Int32} (hv : v < 8) (hh : h < 5)  (cx : Cx p s m args meth c E 115 cX6_goesTo 5 yX6_goesTo.cls none) : ∀ (k q : Nat) (G : IG) (z : Int64), q + k = 4 → FrC g G → G 92 = S → G 93 = growS A S q → G 88 39 = y → SdI G tc CS → (∀ (G9 : IG) (z9 : Int64), FrC g G9 → G9 92 = S → G9 93 = growS A S 4 → G9 88 39 = y → SdI G9 tc CS → Z none G9 (RFo o) z9) → Go p l e (rmd 47) s m args below meth c E 115 5 Z G (RFo o) z 105 [(4, .int (nI q)), (0, .ref (E.2.1 88)), (1, .int (nI v)), (2, .int (nI h)), (3, .int (g 100 v))] [] := by
  intro k
  induction k with
  | zero =>
    intro q G z hk hF h92 h93 h39 hS kk
    have hq : q = 4 := by omega
    subst hq
    refine go_iload (pc' := 107) cx dX6_goesTo_105 rfl rfl ?_
    refine go_iconst (pc' := 108) cx 4 dX6_goesTo_107 rfl rfl ?_
    refine go_icmp_ge (pc' := 111) cx 131 dX6_goesTo_108 rfl rfl (fun _ => ?_) (fun hh => absurd hh (by decide))
    refine go_vret cx rfl dX6_goesTo_131 ?_
    exact kk G z hF h92 h93 h39 hS
  | succ k ih =>
    intro q G z hk hF h92 h93 h39 hS kk
    refine go_iload (pc' := 107) cx dX6_goesTo_105 rfl rfl ?_
    refine go_iconst (pc' := 108) cx 4 dX6_goesTo_107 rfl rfl ?_
    refine go_icmp_ge (pc' := 111) cx 131 dX6_goesTo_108 rfl rfl (fun hh9 => absurd ((nI_leI (a := 4) (b := q) (by omega) (by omega)).mp hh9) (by omega)) (fun _ => ?_)
    refine go_aload_n (pc' := 112) cx dX6_goesTo_111 rfl rfl ?_
    refine go_getr (pc' := 115) cx 93 fX6_26 dX6_goesTo_112 kq88 (ltn rfl) (ltn rfl) rfl rfl rfl ?_
    refine go_iload (pc' := 117) cx dX6_goesTo_115 rfl rfl ?_
    refine go_aload_n (pc' := 118) cx dX6_goesTo_117 rfl rfl ?_
    refine go_getr (pc' := 121) cx 92 fX6_23 dX6_goesTo_118 kq88 (ltn rfl) (ltn rfl) rfl rfl rfl ?_
    refine go_iload (pc' := 123) cx dX6_goesTo_121 rfl rfl ?_
    refine go_iald (pc' := 124) cx (S q) dX6_goesTo_123 kq92 (ltn rfl) (vpi (k := q) (a := 4) (by omega) rfl rfl) ((congrArg (G 92) (cli (k := q) (a := 4) (by omega) rfl)).trans (congrFun h92 q)) rfl ?_
    refine go_iastk (pc' := 125) cx q dX6_goesTo_124 kq93 (ltn rfl) (vpi (k := q) (a := 4) (by omega) rfl rfl) (cli (k := q) (a := 4) (by omega) rfl) rfl ?_
    refine go_iinc (pc' := 128) cx (nI (q + 1)) dX6_goesTo_125 rfl (nI_1 q) (ltn rfl) [(4, .int (nI (q + 1))), (0, .ref (E.2.1 88)), (1, .int (nI v)), (2, .int (nI h)), (3, .int (g 100 v))] rfl rfl ?_
    refine go_goto cx 105 dX6_goesTo_128 rfl ?_
    exact ih (q + 1) (up2 G 93 q (S q)) z (by omega) (hF.up (by omega)) ((up2_rn _ _ _ (by omega)).trans h92) (by rw [up2_row, h93]; exact growS_s _ _ q) ((up2_n _ _ (Or.inl (by omega))).trans h39) (hS.fr (up2_rn _ _ _ (by omega))) kk

set_option maxHeartbeats 1000000 in
set_option maxRecDepth 20000 in
theorem c_X6_goesTo (l : Launch) (E : Ev) {g : IG} {o : Option Nat} {z : Int64} {tc ru : Nat} {CS : CSt} (hX : MX g tc ru CS) (hL : Ln (g 92)) {v h : Nat} (hv : v < 8) (hh : h < 5) (hgh : g 99 v = nI h)  : Ct l E 115 yX6_goesTo cX6_goesTo 5 none 47 [.ref (E.2.1 88), .int (nI v)] g (RFo o) z (ZVz (RFo o) (fun g1 z1 => FrC g g1 ∧ g1 92 = stL (TMx CS ru) (svM g) v (g 92) (g 93) ∧ E4 (g1 93) (g1 92) ∧ g1 88 39 = g 88 39 + ctA (TMx CS ru) (svM g) v (g 92) (g 93) ∧ SdI g1 tc CS ∧ Ln (g1 92))) := by
  refine Ct.of (lv0 := [(0, .ref (E.2.1 88)), (1, .int (nI v))]) (by decide) (Nat.le_of_ble_eq_true rfl) rfl ?_
  intro p e s m below meth c cx
  refine go_aload_n (pc' := 1) cx dX6_goesTo_0 rfl rfl ?_
  refine go_getr (pc' := 4) cx 99 fX6_47 dX6_goesTo_1 kq88 (ltn rfl) (ltn rfl) rfl rfl rfl ?_
  refine go_iload_n (pc' := 5) cx dX6_goesTo_4 rfl rfl ?_
  refine go_iald (pc' := 6) cx (nI h) dX6_goesTo_5 kq99 (ltn rfl) (vpi (k := v) (a := 8) hv rfl rfl) ((congrArg (g 99) (cli (k := v) (a := 8) hv rfl)).trans hgh) rfl ?_
  refine go_istore_n (pc' := 7) cx dX6_goesTo_6 (ltn rfl) [(2, .int (nI h)), (0, .ref (E.2.1 88)), (1, .int (nI v))] rfl rfl ?_
  refine go_aload_n (pc' := 8) cx dX6_goesTo_7 rfl rfl ?_
  refine go_getr (pc' := 11) cx 100 fX6_50 dX6_goesTo_8 kq88 (ltn rfl) (ltn rfl) rfl rfl rfl ?_
  refine go_iload_n (pc' := 12) cx dX6_goesTo_11 rfl rfl ?_
  refine go_iald (pc' := 13) cx (g 100 v) dX6_goesTo_12 kq100 (ltn rfl) (vpi (k := v) (a := 8) hv rfl rfl) (congrArg (g 100) (cli (k := v) (a := 8) hv rfl)) rfl ?_
  refine go_istore_n (pc' := 14) cx dX6_goesTo_13 (ltn rfl) [(3, .int (g 100 v)), (2, .int (nI h)), (0, .ref (E.2.1 88)), (1, .int (nI v))] rfl rfl ?_
  refine go_iconst (pc' := 15) cx 0 dX6_goesTo_14 rfl rfl ?_
  refine go_istore (pc' := 17) cx dX6_goesTo_15 (ltn rfl) [(4, .int 0), (3, .int (g 100 v)), (2, .int (nI h)), (0, .ref (E.2.1 88)), (1, .int (nI v))] rfl rfl ?_
  refine go_sub [0, 3, 4, 2, 1] [(4, .int 0), (0, .ref (E.2.1 88)), (1, .int (nI v)), (2, .int (nI h)), (3, .int (g 100 v))] rfl ?_
  refine gtA hX hL hv hh hgh cx 4 0 g z rfl FrC.rf (growS_0 _ _).symm rfl rfl hX.2.2.2.2.2 (fun G4 z4 f4 r4 l4 y4 s4 => ?_)
  refine go_iconst (pc' := 61) cx 0 dX6_goesTo_60 rfl rfl ?_
  refine go_istore (pc' := 63) cx dX6_goesTo_61 (ltn rfl) [(4, .int 0), (0, .ref (E.2.1 88)), (1, .int (nI v)), (2, .int (nI h)), (3, .int (g 100 v))] rfl rfl ?_
  refine gtB hX hL hv hh hgh cx 4 0 G4 z4 rfl f4 (r4.trans (growS_0 _ _).symm) l4 y4 s4 (fun G5 z5 f5 r5 l5 y5 s5 => ?_)
  rw [grow2] at r5
  have n5 : Ln (G5 92) := by
    rw [r5]
    exact G1A_n hL
  refine go_aload_n (pc' := 89) cx dX6_goesTo_88 rfl rfl ?_
  refine go_iconst (pc' := 90) cx 0 dX6_goesTo_89 rfl rfl ?_
  refine go_iload_n (pc' := 91) cx dX6_goesTo_90 rfl rfl ?_
  refine go_iload_n (pc' := 92) cx dX6_goesTo_91 rfl rfl ?_
  have hB5 : (fun L => TMx CS ru 1 (evW L (G5 93) (G5 94) (g 100 v) (nI h) 0)) = evBA (TMx CS ru) (svM g) (g 93) v 0 := by
    rw [l5, f5.c (i := 94) (by omega) (by omega) (by omega) (by omega), ← hgh]
    rfl
  refine go_cVVz (pc' := 95) cx (c_X6_evensOut0 l E (g := G5) (hX.fc f5 s5) n5 (g 100 v) (nI h)) mX6_evensOut lX6_405 dX6_goesTo_92 kq88 (ltn rfl) (ltn rfl) rfl rfl rfl rfl (ltn rfl) (Nat.le_of_ble_eq_true rfl) (Nat.le_of_ble_eq_true rfl) rfl (fun G6 z6 h6 => ?_)
  obtain ⟨f6, r6, l6, y6, s6⟩ := h6
  rw [hB5, r5] at r6 y6
  have r6 : G6 92 = (v1A (TMx CS ru) (svM g) v h (g 92) (g 93)).2 := r6
  have y6 : G6 88 39 = G5 88 39 + nI (v1A (TMx CS ru) (svM g) v h (g 92) (g 93)).1 := y6
  have n6 : Ln (G6 92) := by
    rw [r6]
    exact Ln.ev30 (by omega) 30 _ (G1A_n hL)
  refine go_aload_n (pc' := 96) cx dX6_goesTo_95 rfl rfl ?_
  refine go_iconst (pc' := 97) cx 2 dX6_goesTo_96 rfl rfl ?_
  refine go_iload_n (pc' := 98) cx dX6_goesTo_97 rfl rfl ?_
  refine go_iload_n (pc' := 99) cx dX6_goesTo_98 rfl rfl ?_
  have hB6 : (fun L => TMx CS ru 1 (evW L (G6 93) (G6 94) (g 100 v) (nI h) 2)) = evBA (TMx CS ru) (svM g) (g 93) v 2 := by
    rw [l6, l5, f6.c (i := 94) (by omega) (by omega) (by omega) (by omega), f5.c (i := 94) (by omega) (by omega) (by omega) (by omega), ← hgh]
    rfl
  refine go_cVVz (pc' := 102) cx (c_X6_evensOut2 l E (g := G6) (hX.fc (f5.tr f6) s6) n6 (g 100 v) (nI h)) mX6_evensOut lX6_405 dX6_goesTo_99 kq88 (ltn rfl) (ltn rfl) rfl rfl rfl rfl (ltn rfl) (Nat.le_of_ble_eq_true rfl) (Nat.le_of_ble_eq_true rfl) rfl (fun G7 z7 h7 => ?_)
  obtain ⟨f7, r7, l7, y7, s7⟩ := h7
  rw [hB6, r6] at r7 y7
  have r7 : G7 92 = (v2A (TMx CS ru) (svM g) v h (g 92) (g 93)).2 := r7
  have y7 : G7 88 39 = G6 88 39 + nI (v2A (TMx CS ru) (svM g) v h (g 92) (g 93)).1 := y7
  have n7 : Ln (G7 92) := by
    rw [r7]
    exact Ln.ev30 (by omega) 30 _ (by rw [← r6]; exact n6)
  refine go_iconst (pc' := 103) cx 0 dX6_goesTo_102 rfl rfl ?_
  refine go_istore (pc' := 105) cx dX6_goesTo_103 (ltn rfl) [(4, .int 0), (0, .ref (E.2.1 88)), (1, .int (nI v)), (2, .int (nI h)), (3, .int (g 100 v))] rfl rfl ?_
  have hst : (v2A (TMx CS ru) (svM g) v h (g 92) (g 93)).2 = stL (TMx CS ru) (svM g) v (g 92) (g 93) := by
    unfold stL
    rw [show hdA (svM g) v = h from (congrArg Int32.toNatClampNeg hgh).trans (cli hh rfl)]
  have hct : g 88 39 + nI (v1A (TMx CS ru) (svM g) v h (g 92) (g 93)).1 + nI (v2A (TMx CS ru) (svM g) v h (g 92) (g 93)).1 = g 88 39 + ctA (TMx CS ru) (svM g) v (g 92) (g 93) := by
    unfold ctA
    rw [show hdA (svM g) v = h from (congrArg Int32.toNatClampNeg hgh).trans (cli hh rfl), Int32.zero_add, Int32.add_assoc]
  refine gtC hv hh cx 4 0 G7 z7 rfl (f5.tr (f6.tr f7)) r7 ((l7.trans (l6.trans l5)).trans (growS_0 _ _).symm) (y7.trans (by rw [y6, y5])) s7 (fun G9 z9 f9 r9 l9 y9 s9 => ZVz.mk ⟨f9, r9.trans hst, ?_, y9.trans hct, s9, ?_⟩)
  · rw [l9, r9]
    exact growS_E4 _ _
  · rw [r9, ← r7]
    exact n7
