/-! THE REFERENCE: what is said of a text, kept for the same names -/
abbrev CSt : Type := Nat → Nat → List Int32
def RdOK (T : Nat → Int32) (sz : Nat) (cs : Nat → List Int32) : Prop :=
  (demS (advS T sz) 10021 (prQ (advS T sz) (lvl (advS T sz) 5).1 10008 (prQ (advS T sz) (lvl (advS T sz) 5).1 10007 (prQ (advS T sz) (lvl (advS T sz) 5).1 10006 (rd0 T sz)).1).1).1).2.2.2 = -1 ∧
  cs 0 = (prQ (advS T sz) (lvl (advS T sz) 5).1 10006 (rd0 T sz)).2 ∧ cs 1 = (prQ (advS T sz) (lvl (advS T sz) 5).1 10007 (prQ (advS T sz) (lvl (advS T sz) 5).1 10006 (rd0 T sz)).1).2 ∧ cs 2 = (prQ (advS T sz) (lvl (advS T sz) 5).1 10008 (prQ (advS T sz) (lvl (advS T sz) 5).1 10007 (prQ (advS T sz) (lvl (advS T sz) 5).1 10006 (rd0 T sz)).1).1).2
def TtI (g : IG) (t : Nat) (cs : Nat → List Int32) : Prop := ∃ sz, sz ≤ 160 ∧ g 90 t = nI sz ∧ (∀ i, i < sz → ¬ g 89 (160 * t + i) < 0) ∧ RdOK (mT (g 89) (160 * t)) sz cs
/-- six numbers in a row -/
def evR (f : Nat → Int32) (a : Nat) : Int32 → Int32 := nmV (f a) (f (a + 1)) (f (a + 2)) (f (a + 3)) (f (a + 4)) (f (a + 5))
def SdI (g : IG) (tc : Nat) (CS : CSt) : Prop := ∀ j, j < 2048 → g 102 (11 * j) = 1 → ∃ t, t < tc ∧ g 102 (11 * j + 1) = nI t ∧ ∀ k, k < 3 → g 102 (11 * j + 8 + k) = valF (evR (g 102) (11 * j + 2)) (CS t k)
def MX (g : IG) (tc ru : Nat) (CS : CSt) : Prop := ru < tc ∧ tc ≤ 6 ∧ g 88 4 = nI ru ∧ g 88 3 = nI tc ∧ (∀ t, t < tc → TtI g t (CS t)) ∧ SdI g tc CS
/-- but for what is said -/
def FrS (g0 g : IG) : Prop := ∀ i k, ¬ (i = 102 ∨ (i = 88 ∧ 20 ≤ k ∧ k ≤ 37)) → g i k = g0 i k
theorem FrS.rf {g : IG} : FrS g g := fun _ _ _ => rfl
theorem FrS.tr {g0 g g1 : IG} (h : FrS g0 g) (h1 : FrS g g1) : FrS g0 g1 := fun i k q => (h1 i k q).trans (h i k q)
theorem FrS.up {g0 g : IG} {k : Nat} {v : Int32} (h : FrS g0 g) (h1 : 20 ≤ k) (h2 : k ≤ 37) : FrS g0 (up2 g 88 k v) := fun i j q => by
  rw [up2_n _ _ (by omega)]
  exact h i j q
theorem FrS.up1 {g0 g : IG} {k : Nat} {v : Int32} (h : FrS g0 g) : FrS g0 (up2 g 102 k v) := fun i j q => by
  rw [up2_n _ _ (by omega)]
  exact h i j q
theorem FrR.s {g0 g : IG} (h : FrR g0 g) : FrS g0 g := fun i k q => h i k (by omega)
theorem FrS.c {g0 g : IG} (h : FrS g0 g) {i : Nat} (h1 : i ≠ 102) (h2 : i ≠ 88) : g i = g0 i := funext fun k => h i k (by omega)
theorem TtI.fr {g g1 : IG} {t : Nat} {cs : Nat → List Int32} (h : TtI g t cs) (h1 : g1 89 = g 89) (h2 : g1 90 = g 90) : TtI g1 t cs := by
  unfold TtI at *
  rw [h1, h2]
  exact h
theorem MX.fr {g g1 : IG} {tc ru : Nat} {CS : CSt} (h : MX g tc ru CS) (hF : FrS g g1) (hS : SdI g1 tc CS) : MX g1 tc ru CS :=
  ⟨h.1, h.2.1, (hF 88 4 (by omega)).trans h.2.2.1, (hF 88 3 (by omega)).trans h.2.2.2.1, fun t ht => (h.2.2.2.2.1 t ht).fr (hF.c (by omega) (by omega)) (hF.c (by omega) (by omega)), hS⟩
theorem SdI.fr {g g1 : IG} {tc : Nat} {CS : CSt} (h : SdI g tc CS) (h1 : g1 102 = g 102) : SdI g1 tc CS := by
  unfold SdI at *
  rw [h1]
  exact h
/-- what is kept of one asking -/
theorem SdI.put {g g1 : IG} {tc ru j : Nat} {CS : CSt} (h : SdI g tc CS) (hru : ru < tc) (ho : ∀ k, k < 11 * j ∨ 11 * j + 11 ≤ k → g1 102 k = g 102 k) (h1 : g1 102 (11 * j + 1) = nI ru) (hv : ∀ k, k < 3 → g1 102 (11 * j + 8 + k) = valF (evR (g1 102) (11 * j + 2)) (CS ru k)) : SdI g1 tc CS := by
  intro i hi hs
  by_cases e : i = j
  · subst e
    exact ⟨ru, hru, h1, hv⟩
  · have q : ∀ c, c < 11 → g1 102 (11 * i + c) = g 102 (11 * i + c) := fun c hc => ho _ (by omega)
    have q0 := q 0 (by omega)
    rw [Nat.add_zero] at q0
    rw [q0] at hs
    obtain ⟨t, ht, a, b⟩ := h i hi hs
    refine ⟨t, ht, (q 1 (by omega)).trans a, fun k hk => ?_⟩
    have e2 : evR (g1 102) (11 * i + 2) = evR (g 102) (11 * i + 2) := by
      unfold evR
      rw [show 11 * i + 2 + 1 = 11 * i + 3 by omega, show 11 * i + 2 + 2 = 11 * i + 4 by omega, show 11 * i + 2 + 3 = 11 * i + 5 by omega, show 11 * i + 2 + 4 = 11 * i + 6 by omega, show 11 * i + 2 + 5 = 11 * i + 7 by omega, q 2 (by omega), q 3 (by omega), q 4 (by omega), q 5 (by omega), q 6 (by omega), q 7 (by omega)]
    rw [e2, ← b k hk, show 11 * i + 8 + k = 11 * i + (8 + k) by omega]
    exact q (8 + k) (by omega)
theorem said_j (v : Int32) : ∃ j, j < 2048 ∧ 11 * ((v ^^^ (v.toUInt32 >>> ((15 : Int32).toUInt32 &&& Int32.toUInt32 31)).toInt32) &&& 2047) = nI (11 * j) := by
  obtain ⟨j, hj, e⟩ := pk_andE (v ^^^ (v.toUInt32 >>> ((15 : Int32).toUInt32 &&& Int32.toUInt32 31)).toInt32) (m := 2047) 11 (by decide)
  refine ⟨j, by omega, ?_⟩
  rw [e]
  exact pk_mul 11 j
theorem c_readT6 (l : Launch) (E : Ev) {g : IG} {o : Option Nat} {z : Int64} {t wh : Nat} {cs : Nat → List Int32} (ht : t < 6) (hwh : wh < 3) (hT : TtI g t cs) : Ct l E 115 yX6_read cX6_read 6 (some .int) 43 [.ref (E.2.1 88), .int (nI t), .int (nI wh)] g (RFo o) z (ZIz (RFo o) (fun x g1 z1 => FrR g g1 ∧ g1 88 35 = valF (evM g) (cs 0) ∧ g1 88 36 = valF (evM g) (cs 1) ∧ g1 88 37 = valF (evM g) (cs 2))) := by
  obtain ⟨sz, hsz, h90, hT0, hu, c0, c1, c2⟩ := hT
  have hC : MCx (gBn g (160 * t) sz) (160 * t) sz (g 89) := ⟨by omega, hsz, rfl, rfl, rfl, hT0⟩
  have hL := McL_0 l E (o := o) hC
  refine (c_X6_read l E (z := z) ht hwh rfl hsz h90 rfl hT0 (lvl_P hsz 5).1 hL.1).wk ?_
  rintro _ _ _ _ ⟨⟨x, rfl, hF, p, q, r, e1, e2, e3, -, hV⟩, rfl⟩
  refine ZIz.mk ⟨hF, ?_⟩
  rcases hV with ⟨-, -, v1, v2, v3⟩ | ⟨h, -, -⟩
  · rw [e1, e2, e3, c0, c1, c2]
    exact ⟨(v1.val (by omega)).symm, (v2.val (by omega)).symm, (v3.val (by omega)).symm⟩
  · exact absurd hu h

def sdV (g : IG) : Int32 := 31 * (31 * (31 * (31 * (31 * (31 * (g 88 4) + g 88 20) + g 88 21) + g 88 22) + g 88 23) + g 88 24) + g 88 25
def sdX (g : IG) : Int32 := 11 * ((sdV g ^^^ ((sdV g).toUInt32 >>> ((15 : Int32).toUInt32 &&& Int32.toUInt32 31)).toInt32) &&& 2047)
theorem sdX_j (g : IG) : ∃ j, j < 2048 ∧ sdX g = nI (11 * j) := said_j (sdV g)

set_option maxHeartbeats 1000000 in
set_option maxRecDepth 20000 in
theorem c_X6_saidAt (l : Launch) (E : Ev) {g : IG} {o : Option Nat} {z : Int64}  : Ct l E 115 yX6_saidAt cX6_saidAt 2 (some .int) 1 [.ref (E.2.1 88)] g (RFo o) z (Zi (RFo o) z (sdX g) g) := by
  refine Ct.of (lv0 := [(0, .ref (E.2.1 88))]) (by decide) (Nat.le_of_ble_eq_true rfl) rfl ?_
  intro p e s m below meth c cx
  refine go_aload_n (pc' := 1) cx dX6_saidAt_0 rfl rfl ?_
  refine go_geti (pc' := 4) cx (g 88 4) fX6_367 dX6_saidAt_1 kq88 (ltn rfl) (ltn rfl) rfl rfl rfl ?_
  refine go_istore_n (pc' := 5) cx dX6_saidAt_4 (ltn rfl) [(1, .int (g 88 4)), (0, .ref (E.2.1 88))] rfl rfl ?_
  refine go_bipush (pc' := 7) cx 31 dX6_saidAt_5 rfl rfl ?_
  refine go_iload_n (pc' := 8) cx dX6_saidAt_7 rfl rfl ?_
  refine go_imul (pc' := 9) cx dX6_saidAt_8 rfl ?_
  refine go_aload_n (pc' := 10) cx dX6_saidAt_9 rfl rfl ?_
  refine go_geti (pc' := 13) cx (g 88 20) fX6_213 dX6_saidAt_10 kq88 (ltn rfl) (ltn rfl) rfl rfl rfl ?_
  refine go_iadd (pc' := 14) cx dX6_saidAt_13 rfl ?_
  refine go_istore_n (pc' := 15) cx dX6_saidAt_14 (ltn rfl) [(1, .int ((31 * (g 88 4)) + (g 88 20))), (0, .ref (E.2.1 88))] rfl rfl ?_
  refine go_bipush (pc' := 17) cx 31 dX6_saidAt_15 rfl rfl ?_
  refine go_iload_n (pc' := 18) cx dX6_saidAt_17 rfl rfl ?_
  refine go_imul (pc' := 19) cx dX6_saidAt_18 rfl ?_
  refine go_aload_n (pc' := 20) cx dX6_saidAt_19 rfl rfl ?_
  refine go_geti (pc' := 23) cx (g 88 21) fX6_216 dX6_saidAt_20 kq88 (ltn rfl) (ltn rfl) rfl rfl rfl ?_
  refine go_iadd (pc' := 24) cx dX6_saidAt_23 rfl ?_
  refine go_istore_n (pc' := 25) cx dX6_saidAt_24 (ltn rfl) [(1, .int ((31 * ((31 * (g 88 4)) + (g 88 20))) + (g 88 21))), (0, .ref (E.2.1 88))] rfl rfl ?_
  refine go_bipush (pc' := 27) cx 31 dX6_saidAt_25 rfl rfl ?_
  refine go_iload_n (pc' := 28) cx dX6_saidAt_27 rfl rfl ?_
  refine go_imul (pc' := 29) cx dX6_saidAt_28 rfl ?_
  refine go_aload_n (pc' := 30) cx dX6_saidAt_29 rfl rfl ?_
  refine go_geti (pc' := 33) cx (g 88 22) fX6_219 dX6_saidAt_30 kq88 (ltn rfl) (ltn rfl) rfl rfl rfl ?_
  refine go_iadd (pc' := 34) cx dX6_saidAt_33 rfl ?_
  refine go_istore_n (pc' := 35) cx dX6_saidAt_34 (ltn rfl) [(1, .int ((31 * ((31 * ((31 * (g 88 4)) + (g 88 20))) + (g 88 21))) + (g 88 22))), (0, .ref (E.2.1 88))] rfl rfl ?_
  refine go_bipush (pc' := 37) cx 31 dX6_saidAt_35 rfl rfl ?_
  refine go_iload_n (pc' := 38) cx dX6_saidAt_37 rfl rfl ?_
  refine go_imul (pc' := 39) cx dX6_saidAt_38 rfl ?_
  refine go_aload_n (pc' := 40) cx dX6_saidAt_39 rfl rfl ?_
  refine go_geti (pc' := 43) cx (g 88 23) fX6_222 dX6_saidAt_40 kq88 (ltn rfl) (ltn rfl) rfl rfl rfl ?_
  refine go_iadd (pc' := 44) cx dX6_saidAt_43 rfl ?_
  refine go_istore_n (pc' := 45) cx dX6_saidAt_44 (ltn rfl) [(1, .int ((31 * ((31 * ((31 * ((31 * (g 88 4)) + (g 88 20))) + (g 88 21))) + (g 88 22))) + (g 88 23))), (0, .ref (E.2.1 88))] rfl rfl ?_
  refine go_bipush (pc' := 47) cx 31 dX6_saidAt_45 rfl rfl ?_
  refine go_iload_n (pc' := 48) cx dX6_saidAt_47 rfl rfl ?_
  refine go_imul (pc' := 49) cx dX6_saidAt_48 rfl ?_
  refine go_aload_n (pc' := 50) cx dX6_saidAt_49 rfl rfl ?_
  refine go_geti (pc' := 53) cx (g 88 24) fX6_225 dX6_saidAt_50 kq88 (ltn rfl) (ltn rfl) rfl rfl rfl ?_
  refine go_iadd (pc' := 54) cx dX6_saidAt_53 rfl ?_
  refine go_istore_n (pc' := 55) cx dX6_saidAt_54 (ltn rfl) [(1, .int ((31 * ((31 * ((31 * ((31 * ((31 * (g 88 4)) + (g 88 20))) + (g 88 21))) + (g 88 22))) + (g 88 23))) + (g 88 24))), (0, .ref (E.2.1 88))] rfl rfl ?_
  refine go_bipush (pc' := 57) cx 31 dX6_saidAt_55 rfl rfl ?_
  refine go_iload_n (pc' := 58) cx dX6_saidAt_57 rfl rfl ?_
  refine go_imul (pc' := 59) cx dX6_saidAt_58 rfl ?_
  refine go_aload_n (pc' := 60) cx dX6_saidAt_59 rfl rfl ?_
  refine go_geti (pc' := 63) cx (g 88 25) fX6_228 dX6_saidAt_60 kq88 (ltn rfl) (ltn rfl) rfl rfl rfl ?_
  refine go_iadd (pc' := 64) cx dX6_saidAt_63 rfl ?_
  refine go_istore_n (pc' := 65) cx dX6_saidAt_64 (ltn rfl) [(1, .int ((31 * ((31 * ((31 * ((31 * ((31 * ((31 * (g 88 4)) + (g 88 20))) + (g 88 21))) + (g 88 22))) + (g 88 23))) + (g 88 24))) + (g 88 25))), (0, .ref (E.2.1 88))] rfl rfl ?_
  refine go_bipush (pc' := 67) cx 11 dX6_saidAt_65 rfl rfl ?_
  refine go_iload_n (pc' := 68) cx dX6_saidAt_67 rfl rfl ?_
  refine go_iload_n (pc' := 69) cx dX6_saidAt_68 rfl rfl ?_
  refine go_bipush (pc' := 71) cx 15 dX6_saidAt_69 rfl rfl ?_
  refine go_iushr (pc' := 72) cx dX6_saidAt_71 rfl ?_
  refine go_ixor (pc' := 73) cx dX6_saidAt_72 rfl ?_
  refine go_sipush (pc' := 76) cx 2047 dX6_saidAt_73 rfl rfl ?_
  refine go_iand (pc' := 77) cx dX6_saidAt_76 rfl ?_
  refine go_imul (pc' := 78) cx dX6_saidAt_77 rfl ?_
  refine go_iret cx rfl dX6_saidAt_78 ?_
  exact Zi.mk rfl rfl

set_option maxHeartbeats 1000000 in
set_option maxRecDepth 20000 in
theorem c_X6_isSaid (l : Launch) (E : Ev) {g : IG} {o : Option Nat} {z : Int64} {j : Nat} (hj : j < 2048) : Ct l E 115 yX6_isSaid cX6_isSaid 2 (some .boolean) 1 [.ref (E.2.1 88), .int (nI (11 * j))] g (RFo o) z (Zi (RFo o) z (if g 102 (11 * j) = 1 ∧ g 102 (11 * j + 1) = g 88 4 ∧ g 102 (11 * j + 2) = g 88 20 ∧ g 102 (11 * j + 3) = g 88 21 ∧ g 102 (11 * j + 4) = g 88 22 ∧ g 102 (11 * j + 5) = g 88 23 ∧ g 102 (11 * j + 6) = g 88 24 ∧ g 102 (11 * j + 7) = g 88 25 then 1 else 0) g) := by
  refine Ct.of (lv0 := [(0, .ref (E.2.1 88)), (1, .int (nI (11 * j)))]) (by decide) (Nat.le_of_ble_eq_true rfl) rfl ?_
  intro p e s m below meth c cx
  refine go_aload_n (pc' := 1) cx dX6_isSaid_0 rfl rfl ?_
  refine go_getr (pc' := 4) cx 102 fX6_56 dX6_isSaid_1 kq88 (ltn rfl) (ltn rfl) rfl rfl rfl ?_
  refine go_iload_n (pc' := 5) cx dX6_isSaid_4 rfl rfl ?_
  refine go_iald (pc' := 6) cx (g 102 (11 * j)) dX6_isSaid_5 kq102 (ltn rfl) (vpi (k := (11 * j)) (a := 22528) (by omega) rfl rfl) (congrArg (g 102) (cli (k := (11 * j)) (a := 22528) (by omega) rfl)) rfl ?_
  refine go_iconst (pc' := 7) cx 1 dX6_isSaid_6 rfl rfl ?_
  refine go_icmp_ne (pc' := 10) cx 121 dX6_isSaid_7 rfl rfl (fun c7 => ?_) (fun c7 => ?_)
  · refine go_iconst (pc' := 122) cx 0 dX6_isSaid_121 rfl rfl ?_
    refine go_zret cx (Or.inl rfl) rfl dX6_isSaid_122 ?_
    exact Zi.mk (by rw [if_neg (fun q => c7 q.1)]) rfl
  · refine go_aload_n (pc' := 11) cx dX6_isSaid_10 rfl rfl ?_
    refine go_getr (pc' := 14) cx 102 fX6_56 dX6_isSaid_11 kq88 (ltn rfl) (ltn rfl) rfl rfl rfl ?_
    refine go_iload_n (pc' := 15) cx dX6_isSaid_14 rfl rfl ?_
    refine go_iconst (pc' := 16) cx 1 dX6_isSaid_15 rfl rfl ?_
    refine go_iadd (pc' := 17) cx dX6_isSaid_16 rfl ?_
    refine go_val (w := .int (nI ((11 * j) + 1))) (congrArg Value.int (nI_add (11 * j) 1)) ?_
    refine go_iald (pc' := 18) cx (g 102 ((11 * j) + 1)) dX6_isSaid_17 kq102 (ltn rfl) (vpi (k := ((11 * j) + 1)) (a := 22528) (by omega) rfl rfl) (congrArg (g 102) (cli (k := ((11 * j) + 1)) (a := 22528) (by omega) rfl)) rfl ?_
    refine go_aload_n (pc' := 19) cx dX6_isSaid_18 rfl rfl ?_
    refine go_geti (pc' := 22) cx (g 88 4) fX6_367 dX6_isSaid_19 kq88 (ltn rfl) (ltn rfl) rfl rfl rfl ?_
    refine go_icmp_ne (pc' := 25) cx 121 dX6_isSaid_22 rfl rfl (fun c22 => ?_) (fun c22 => ?_)
    · refine go_iconst (pc' := 122) cx 0 dX6_isSaid_121 rfl rfl ?_
      refine go_zret cx (Or.inl rfl) rfl dX6_isSaid_122 ?_
      exact Zi.mk (by rw [if_neg (fun q => c22 q.2.1)]) rfl
    · refine go_aload_n (pc' := 26) cx dX6_isSaid_25 rfl rfl ?_
      refine go_getr (pc' := 29) cx 102 fX6_56 dX6_isSaid_26 kq88 (ltn rfl) (ltn rfl) rfl rfl rfl ?_
      refine go_iload_n (pc' := 30) cx dX6_isSaid_29 rfl rfl ?_
      refine go_iconst (pc' := 31) cx 2 dX6_isSaid_30 rfl rfl ?_
      refine go_iadd (pc' := 32) cx dX6_isSaid_31 rfl ?_
      refine go_val (w := .int (nI ((11 * j) + 2))) (congrArg Value.int (nI_add (11 * j) 2)) ?_
      refine go_iald (pc' := 33) cx (g 102 ((11 * j) + 2)) dX6_isSaid_32 kq102 (ltn rfl) (vpi (k := ((11 * j) + 2)) (a := 22528) (by omega) rfl rfl) (congrArg (g 102) (cli (k := ((11 * j) + 2)) (a := 22528) (by omega) rfl)) rfl ?_
      refine go_aload_n (pc' := 34) cx dX6_isSaid_33 rfl rfl ?_
      refine go_geti (pc' := 37) cx (g 88 20) fX6_213 dX6_isSaid_34 kq88 (ltn rfl) (ltn rfl) rfl rfl rfl ?_
      refine go_icmp_ne (pc' := 40) cx 121 dX6_isSaid_37 rfl rfl (fun c37 => ?_) (fun c37 => ?_)
      · refine go_iconst (pc' := 122) cx 0 dX6_isSaid_121 rfl rfl ?_
        refine go_zret cx (Or.inl rfl) rfl dX6_isSaid_122 ?_
        exact Zi.mk (by rw [if_neg (fun q => c37 q.2.2.1)]) rfl
      · refine go_aload_n (pc' := 41) cx dX6_isSaid_40 rfl rfl ?_
        refine go_getr (pc' := 44) cx 102 fX6_56 dX6_isSaid_41 kq88 (ltn rfl) (ltn rfl) rfl rfl rfl ?_
        refine go_iload_n (pc' := 45) cx dX6_isSaid_44 rfl rfl ?_
        refine go_iconst (pc' := 46) cx 3 dX6_isSaid_45 rfl rfl ?_
        refine go_iadd (pc' := 47) cx dX6_isSaid_46 rfl ?_
        refine go_val (w := .int (nI ((11 * j) + 3))) (congrArg Value.int (nI_add (11 * j) 3)) ?_
        refine go_iald (pc' := 48) cx (g 102 ((11 * j) + 3)) dX6_isSaid_47 kq102 (ltn rfl) (vpi (k := ((11 * j) + 3)) (a := 22528) (by omega) rfl rfl) (congrArg (g 102) (cli (k := ((11 * j) + 3)) (a := 22528) (by omega) rfl)) rfl ?_
        refine go_aload_n (pc' := 49) cx dX6_isSaid_48 rfl rfl ?_
        refine go_geti (pc' := 52) cx (g 88 21) fX6_216 dX6_isSaid_49 kq88 (ltn rfl) (ltn rfl) rfl rfl rfl ?_
        refine go_icmp_ne (pc' := 55) cx 121 dX6_isSaid_52 rfl rfl (fun c52 => ?_) (fun c52 => ?_)
        · refine go_iconst (pc' := 122) cx 0 dX6_isSaid_121 rfl rfl ?_
          refine go_zret cx (Or.inl rfl) rfl dX6_isSaid_122 ?_
          exact Zi.mk (by rw [if_neg (fun q => c52 q.2.2.2.1)]) rfl
        · refine go_aload_n (pc' := 56) cx dX6_isSaid_55 rfl rfl ?_
          refine go_getr (pc' := 59) cx 102 fX6_56 dX6_isSaid_56 kq88 (ltn rfl) (ltn rfl) rfl rfl rfl ?_
          refine go_iload_n (pc' := 60) cx dX6_isSaid_59 rfl rfl ?_
          refine go_iconst (pc' := 61) cx 4 dX6_isSaid_60 rfl rfl ?_
          refine go_iadd (pc' := 62) cx dX6_isSaid_61 rfl ?_
          refine go_val (w := .int (nI ((11 * j) + 4))) (congrArg Value.int (nI_add (11 * j) 4)) ?_
          refine go_iald (pc' := 63) cx (g 102 ((11 * j) + 4)) dX6_isSaid_62 kq102 (ltn rfl) (vpi (k := ((11 * j) + 4)) (a := 22528) (by omega) rfl rfl) (congrArg (g 102) (cli (k := ((11 * j) + 4)) (a := 22528) (by omega) rfl)) rfl ?_
          refine go_aload_n (pc' := 64) cx dX6_isSaid_63 rfl rfl ?_
          refine go_geti (pc' := 67) cx (g 88 22) fX6_219 dX6_isSaid_64 kq88 (ltn rfl) (ltn rfl) rfl rfl rfl ?_
          refine go_icmp_ne (pc' := 70) cx 121 dX6_isSaid_67 rfl rfl (fun c67 => ?_) (fun c67 => ?_)
          · refine go_iconst (pc' := 122) cx 0 dX6_isSaid_121 rfl rfl ?_
            refine go_zret cx (Or.inl rfl) rfl dX6_isSaid_122 ?_
            exact Zi.mk (by rw [if_neg (fun q => c67 q.2.2.2.2.1)]) rfl
          · refine go_aload_n (pc' := 71) cx dX6_isSaid_70 rfl rfl ?_
            refine go_getr (pc' := 74) cx 102 fX6_56 dX6_isSaid_71 kq88 (ltn rfl) (ltn rfl) rfl rfl rfl ?_
            refine go_iload_n (pc' := 75) cx dX6_isSaid_74 rfl rfl ?_
            refine go_iconst (pc' := 76) cx 5 dX6_isSaid_75 rfl rfl ?_
            refine go_iadd (pc' := 77) cx dX6_isSaid_76 rfl ?_
            refine go_val (w := .int (nI ((11 * j) + 5))) (congrArg Value.int (nI_add (11 * j) 5)) ?_
            refine go_iald (pc' := 78) cx (g 102 ((11 * j) + 5)) dX6_isSaid_77 kq102 (ltn rfl) (vpi (k := ((11 * j) + 5)) (a := 22528) (by omega) rfl rfl) (congrArg (g 102) (cli (k := ((11 * j) + 5)) (a := 22528) (by omega) rfl)) rfl ?_
            refine go_aload_n (pc' := 79) cx dX6_isSaid_78 rfl rfl ?_
            refine go_geti (pc' := 82) cx (g 88 23) fX6_222 dX6_isSaid_79 kq88 (ltn rfl) (ltn rfl) rfl rfl rfl ?_
            refine go_icmp_ne (pc' := 85) cx 121 dX6_isSaid_82 rfl rfl (fun c82 => ?_) (fun c82 => ?_)
            · refine go_iconst (pc' := 122) cx 0 dX6_isSaid_121 rfl rfl ?_
              refine go_zret cx (Or.inl rfl) rfl dX6_isSaid_122 ?_
              exact Zi.mk (by rw [if_neg (fun q => c82 q.2.2.2.2.2.1)]) rfl
            · refine go_aload_n (pc' := 86) cx dX6_isSaid_85 rfl rfl ?_
              refine go_getr (pc' := 89) cx 102 fX6_56 dX6_isSaid_86 kq88 (ltn rfl) (ltn rfl) rfl rfl rfl ?_
              refine go_iload_n (pc' := 90) cx dX6_isSaid_89 rfl rfl ?_
              refine go_bipush (pc' := 92) cx 6 dX6_isSaid_90 rfl rfl ?_
              refine go_iadd (pc' := 93) cx dX6_isSaid_92 rfl ?_
              refine go_val (w := .int (nI ((11 * j) + 6))) (congrArg Value.int (nI_add (11 * j) 6)) ?_
              refine go_iald (pc' := 94) cx (g 102 ((11 * j) + 6)) dX6_isSaid_93 kq102 (ltn rfl) (vpi (k := ((11 * j) + 6)) (a := 22528) (by omega) rfl rfl) (congrArg (g 102) (cli (k := ((11 * j) + 6)) (a := 22528) (by omega) rfl)) rfl ?_
              refine go_aload_n (pc' := 95) cx dX6_isSaid_94 rfl rfl ?_
              refine go_geti (pc' := 98) cx (g 88 24) fX6_225 dX6_isSaid_95 kq88 (ltn rfl) (ltn rfl) rfl rfl rfl ?_
              refine go_icmp_ne (pc' := 101) cx 121 dX6_isSaid_98 rfl rfl (fun c98 => ?_) (fun c98 => ?_)
              · refine go_iconst (pc' := 122) cx 0 dX6_isSaid_121 rfl rfl ?_
                refine go_zret cx (Or.inl rfl) rfl dX6_isSaid_122 ?_
                exact Zi.mk (by rw [if_neg (fun q => c98 q.2.2.2.2.2.2.1)]) rfl
              · refine go_aload_n (pc' := 102) cx dX6_isSaid_101 rfl rfl ?_
                refine go_getr (pc' := 105) cx 102 fX6_56 dX6_isSaid_102 kq88 (ltn rfl) (ltn rfl) rfl rfl rfl ?_
                refine go_iload_n (pc' := 106) cx dX6_isSaid_105 rfl rfl ?_
                refine go_bipush (pc' := 108) cx 7 dX6_isSaid_106 rfl rfl ?_
                refine go_iadd (pc' := 109) cx dX6_isSaid_108 rfl ?_
                refine go_val (w := .int (nI ((11 * j) + 7))) (congrArg Value.int (nI_add (11 * j) 7)) ?_
                refine go_iald (pc' := 110) cx (g 102 ((11 * j) + 7)) dX6_isSaid_109 kq102 (ltn rfl) (vpi (k := ((11 * j) + 7)) (a := 22528) (by omega) rfl rfl) (congrArg (g 102) (cli (k := ((11 * j) + 7)) (a := 22528) (by omega) rfl)) rfl ?_
                refine go_aload_n (pc' := 111) cx dX6_isSaid_110 rfl rfl ?_
                refine go_geti (pc' := 114) cx (g 88 25) fX6_228 dX6_isSaid_111 kq88 (ltn rfl) (ltn rfl) rfl rfl rfl ?_
                refine go_icmp_ne (pc' := 117) cx 121 dX6_isSaid_114 rfl rfl (fun c114 => ?_) (fun c114 => ?_)
                · refine go_iconst (pc' := 122) cx 0 dX6_isSaid_121 rfl rfl ?_
                  refine go_zret cx (Or.inl rfl) rfl dX6_isSaid_122 ?_
                  exact Zi.mk (by rw [if_neg (fun q => c114 q.2.2.2.2.2.2.2)]) rfl
                · refine go_iconst (pc' := 118) cx 1 dX6_isSaid_117 rfl rfl ?_
                  refine go_goto cx 122 dX6_isSaid_118 rfl ?_
                  refine go_zret cx (Or.inr rfl) rfl dX6_isSaid_122 ?_
                  exact Zi.mk (by rw [if_pos ⟨c7, c22, c37, c52, c67, c82, c98, c114⟩]) rfl

set_option maxHeartbeats 1000000 in
set_option maxRecDepth 20000 in
theorem c_X6_saying (l : Launch) (E : Ev) {g : IG} {o : Option Nat} {z : Int64} {tc ru : Nat} {CS : CSt} (hX : MX g tc ru CS) {wh : Nat} (hwh : wh < 3) : Ct l E 115 yX6_saying cX6_saying 4 (some .int) 44 [.ref (E.2.1 88), .int (nI wh)] g (RFo o) z (ZIz (RFo o) (fun x g1 z1 => x = valF (evM g) (CS ru wh) ∧ FrS g g1 ∧ SdI g1 tc CS)) := by
  refine Ct.of (lv0 := [(0, .ref (E.2.1 88)), (1, .int (nI wh))]) (by decide) (Nat.le_of_ble_eq_true rfl) rfl ?_
  intro p e s m below meth c cx
  have hru6 : ru < 6 := by
    have := hX.1
    have := hX.2.1
    omega
  refine go_aload_n (pc' := 1) cx dX6_saying_0 rfl rfl ?_
  obtain ⟨j, hj, ej⟩ := sdX_j g
  refine go_cVi (pc' := 4) cx (by have h9 := c_X6_saidAt l E (g := g) (o := o) (z := z); rw [ej] at h9; exact h9) mX6_saidAt lX6_370 dX6_saying_1 kq88 (ltn rfl) (ltn rfl) rfl rfl rfl rfl (ltn rfl) (Nat.le_of_ble_eq_true rfl) (Nat.le_of_ble_eq_true rfl) rfl ?_
  refine go_istore_n (pc' := 5) cx dX6_saying_4 (ltn rfl) [(2, .int (nI (11 * j))), (0, .ref (E.2.1 88)), (1, .int (nI wh))] rfl rfl ?_
  refine go_aload_n (pc' := 6) cx dX6_saying_5 rfl rfl ?_
  refine go_iload_n (pc' := 7) cx dX6_saying_6 rfl rfl ?_
  refine go_cVi (pc' := 10) cx (c_X6_isSaid l E (g := g) hj) mX6_isSaid lX6_373 dX6_saying_7 kq88 (ltn rfl) (ltn rfl) rfl rfl rfl rfl (ltn rfl) (Nat.le_of_ble_eq_true rfl) (Nat.le_of_ble_eq_true rfl) rfl ?_
  refine go_if_ne (pc' := 13) cx 155 dX6_saying_10 rfl rfl (fun c10 => ?_) (fun c10 => ?_)
  · refine go_aload_n (pc' := 156) cx dX6_saying_155 rfl rfl ?_
    refine go_getr (pc' := 159) cx 102 fX6_56 dX6_saying_156 kq88 (ltn rfl) (ltn rfl) rfl rfl rfl ?_
    refine go_iload_n (pc' := 160) cx dX6_saying_159 rfl rfl ?_
    refine go_bipush (pc' := 162) cx 8 dX6_saying_160 rfl rfl ?_
    refine go_iadd (pc' := 163) cx dX6_saying_162 rfl ?_
    refine go_val (w := .int (nI ((11 * j) + 8))) (congrArg Value.int (nI_add (11 * j) 8)) ?_
    refine go_iload_n (pc' := 164) cx dX6_saying_163 rfl rfl ?_
    refine go_iadd (pc' := 165) cx dX6_saying_164 rfl ?_
    refine go_val (w := .int (nI (((11 * j) + 8) + wh))) (congrArg Value.int (nI_add ((11 * j) + 8) wh)) ?_
    refine go_iald (pc' := 166) cx (g 102 (((11 * j) + 8) + wh)) dX6_saying_165 kq102 (ltn rfl) (vpi (k := (((11 * j) + 8) + wh)) (a := 22528) (by omega) rfl rfl) (congrArg (g 102) (cli (k := (((11 * j) + 8) + wh)) (a := 22528) (by omega) rfl)) rfl ?_
    refine go_iret cx rfl dX6_saying_166 ?_
    obtain ⟨a0, a1, a2, a3, a4, a5, a6, a7⟩ := one_of c10
    obtain ⟨t, ht, b1, b2⟩ := hX.2.2.2.2.2 j hj a0
    have ht2 : t = ru := (nI_eq (by have := hX.2.1; omega) (by have := hX.1; have := hX.2.1; omega)).mp (b1.symm.trans (a1.trans hX.2.2.1))
    refine ZIz.mk ⟨?_, FrS.rf, hX.2.2.2.2.2⟩
    have b3 := b2 wh hwh
    rw [ht2] at b3
    refine b3.trans ?_
    unfold evR evM
    rw [show 11 * j + 2 + 1 = 11 * j + 3 by omega, show 11 * j + 2 + 2 = 11 * j + 4 by omega, show 11 * j + 2 + 3 = 11 * j + 5 by omega, show 11 * j + 2 + 4 = 11 * j + 6 by omega, show 11 * j + 2 + 5 = 11 * j + 7 by omega, a2, a3, a4, a5, a6, a7]
  · refine go_aload_n (pc' := 14) cx dX6_saying_13 rfl rfl ?_
    refine go_aload_n (pc' := 15) cx dX6_saying_14 rfl rfl ?_
    refine go_geti (pc' := 18) cx (nI ru) fX6_367 dX6_saying_15 kq88 (ltn rfl) (ltn rfl) rfl hX.2.2.1 rfl ?_
    refine go_iload_n (pc' := 19) cx dX6_saying_18 rfl rfl ?_
    refine go_cVIz (pc' := 22) cx (c_readT6 l E (g := g) (t := ru) (wh := wh) (by omega) hwh (hX.2.2.2.2.1 ru hX.1)) mX6_read lX6_376 dX6_saying_19 kq88 (ltn rfl) (ltn rfl) rfl rfl rfl rfl (ltn rfl) (Nat.le_of_ble_eq_true rfl) (Nat.le_of_ble_eq_true rfl) rfl (fun x2 G2 z2 h2 => ?_)
    obtain ⟨hF2, hp, hq, hr⟩ := h2
    refine go_istore_n (pc' := 23) cx dX6_saying_22 (ltn rfl) [(3, .int x2), (2, .int (nI (11 * j))), (0, .ref (E.2.1 88)), (1, .int (nI wh))] rfl rfl ?_
    refine go_aload_n (pc' := 24) cx dX6_saying_23 rfl rfl ?_
    refine go_getr (pc' := 27) cx 102 fX6_56 dX6_saying_24 kq88 (ltn rfl) (ltn rfl) rfl rfl rfl ?_
    refine go_iload_n (pc' := 28) cx dX6_saying_27 rfl rfl ?_
    refine go_iconst (pc' := 29) cx 1 dX6_saying_28 rfl rfl ?_
    refine go_iastk (pc' := 30) cx (11 * j) dX6_saying_29 kq102 (ltn rfl) (vpi (k := (11 * j)) (a := 22528) (by omega) rfl rfl) (cli (k := (11 * j)) (a := 22528) (by omega) rfl) rfl ?_
    refine go_aload_n (pc' := 31) cx dX6_saying_30 rfl rfl ?_
    refine go_getr (pc' := 34) cx 102 fX6_56 dX6_saying_31 kq88 (ltn rfl) (ltn rfl) rfl rfl rfl ?_
    refine go_iload_n (pc' := 35) cx dX6_saying_34 rfl rfl ?_
    refine go_iconst (pc' := 36) cx 1 dX6_saying_35 rfl rfl ?_
    refine go_iadd (pc' := 37) cx dX6_saying_36 rfl ?_
    refine go_val (w := .int (nI ((11 * j) + 1))) (congrArg Value.int (nI_add (11 * j) 1)) ?_
    refine go_aload_n (pc' := 38) cx dX6_saying_37 rfl rfl ?_
    refine go_geti (pc' := 41) cx (nI ru) fX6_367 dX6_saying_38 kq88 (ltn rfl) (ltn rfl) rfl ((up2_n G2 1 (Or.inl (Nat.ne_of_beq_eq_false rfl))).trans ((hF2 88 4 (by omega)).trans hX.2.2.1)) rfl ?_
    refine go_iastk (pc' := 42) cx ((11 * j) + 1) dX6_saying_41 kq102 (ltn rfl) (vpi (k := ((11 * j) + 1)) (a := 22528) (by omega) rfl rfl) (cli (k := ((11 * j) + 1)) (a := 22528) (by omega) rfl) rfl ?_
    refine go_aload_n (pc' := 43) cx dX6_saying_42 rfl rfl ?_
    refine go_getr (pc' := 46) cx 102 fX6_56 dX6_saying_43 kq88 (ltn rfl) (ltn rfl) rfl rfl rfl ?_
    refine go_iload_n (pc' := 47) cx dX6_saying_46 rfl rfl ?_
    refine go_iconst (pc' := 48) cx 2 dX6_saying_47 rfl rfl ?_
    refine go_iadd (pc' := 49) cx dX6_saying_48 rfl ?_
    refine go_val (w := .int (nI ((11 * j) + 2))) (congrArg Value.int (nI_add (11 * j) 2)) ?_
    refine go_aload_n (pc' := 50) cx dX6_saying_49 rfl rfl ?_
    refine go_geti (pc' := 53) cx (g 88 20) fX6_213 dX6_saying_50 kq88 (ltn rfl) (ltn rfl) rfl ((up2_n (up2 G2 102 (11 * j) 1) (nI ru) (Or.inl (Nat.ne_of_beq_eq_false rfl))).trans ((up2_n G2 1 (Or.inl (Nat.ne_of_beq_eq_false rfl))).trans (hF2 88 20 (by omega)))) rfl ?_
    refine go_iastk (pc' := 54) cx ((11 * j) + 2) dX6_saying_53 kq102 (ltn rfl) (vpi (k := ((11 * j) + 2)) (a := 22528) (by omega) rfl rfl) (cli (k := ((11 * j) + 2)) (a := 22528) (by omega) rfl) rfl ?_
    refine go_aload_n (pc' := 55) cx dX6_saying_54 rfl rfl ?_
    refine go_getr (pc' := 58) cx 102 fX6_56 dX6_saying_55 kq88 (ltn rfl) (ltn rfl) rfl rfl rfl ?_
    refine go_iload_n (pc' := 59) cx dX6_saying_58 rfl rfl ?_
    refine go_iconst (pc' := 60) cx 3 dX6_saying_59 rfl rfl ?_
    refine go_iadd (pc' := 61) cx dX6_saying_60 rfl ?_
    refine go_val (w := .int (nI ((11 * j) + 3))) (congrArg Value.int (nI_add (11 * j) 3)) ?_
    refine go_aload_n (pc' := 62) cx dX6_saying_61 rfl rfl ?_
    refine go_geti (pc' := 65) cx (g 88 21) fX6_216 dX6_saying_62 kq88 (ltn rfl) (ltn rfl) rfl ((up2_n (up2 (up2 G2 102 (11 * j) 1) 102 ((11 * j) + 1) (nI ru)) (g 88 20) (Or.inl (Nat.ne_of_beq_eq_false rfl))).trans ((up2_n (up2 G2 102 (11 * j) 1) (nI ru) (Or.inl (Nat.ne_of_beq_eq_false rfl))).trans ((up2_n G2 1 (Or.inl (Nat.ne_of_beq_eq_false rfl))).trans (hF2 88 21 (by omega))))) rfl ?_
    refine go_iastk (pc' := 66) cx ((11 * j) + 3) dX6_saying_65 kq102 (ltn rfl) (vpi (k := ((11 * j) + 3)) (a := 22528) (by omega) rfl rfl) (cli (k := ((11 * j) + 3)) (a := 22528) (by omega) rfl) rfl ?_
    refine go_aload_n (pc' := 67) cx dX6_saying_66 rfl rfl ?_
    refine go_getr (pc' := 70) cx 102 fX6_56 dX6_saying_67 kq88 (ltn rfl) (ltn rfl) rfl rfl rfl ?_
    refine go_iload_n (pc' := 71) cx dX6_saying_70 rfl rfl ?_
    refine go_iconst (pc' := 72) cx 4 dX6_saying_71 rfl rfl ?_
    refine go_iadd (pc' := 73) cx dX6_saying_72 rfl ?_
    refine go_val (w := .int (nI ((11 * j) + 4))) (congrArg Value.int (nI_add (11 * j) 4)) ?_
    refine go_aload_n (pc' := 74) cx dX6_saying_73 rfl rfl ?_
    refine go_geti (pc' := 77) cx (g 88 22) fX6_219 dX6_saying_74 kq88 (ltn rfl) (ltn rfl) rfl ((up2_n (up2 (up2 (up2 G2 102 (11 * j) 1) 102 ((11 * j) + 1) (nI ru)) 102 ((11 * j) + 2) (g 88 20)) (g 88 21) (Or.inl (Nat.ne_of_beq_eq_false rfl))).trans ((up2_n (up2 (up2 G2 102 (11 * j) 1) 102 ((11 * j) + 1) (nI ru)) (g 88 20) (Or.inl (Nat.ne_of_beq_eq_false rfl))).trans ((up2_n (up2 G2 102 (11 * j) 1) (nI ru) (Or.inl (Nat.ne_of_beq_eq_false rfl))).trans ((up2_n G2 1 (Or.inl (Nat.ne_of_beq_eq_false rfl))).trans (hF2 88 22 (by omega)))))) rfl ?_
    refine go_iastk (pc' := 78) cx ((11 * j) + 4) dX6_saying_77 kq102 (ltn rfl) (vpi (k := ((11 * j) + 4)) (a := 22528) (by omega) rfl rfl) (cli (k := ((11 * j) + 4)) (a := 22528) (by omega) rfl) rfl ?_
    refine go_aload_n (pc' := 79) cx dX6_saying_78 rfl rfl ?_
    refine go_getr (pc' := 82) cx 102 fX6_56 dX6_saying_79 kq88 (ltn rfl) (ltn rfl) rfl rfl rfl ?_
    refine go_iload_n (pc' := 83) cx dX6_saying_82 rfl rfl ?_
    refine go_iconst (pc' := 84) cx 5 dX6_saying_83 rfl rfl ?_
    refine go_iadd (pc' := 85) cx dX6_saying_84 rfl ?_
    refine go_val (w := .int (nI ((11 * j) + 5))) (congrArg Value.int (nI_add (11 * j) 5)) ?_
    refine go_aload_n (pc' := 86) cx dX6_saying_85 rfl rfl ?_
    refine go_geti (pc' := 89) cx (g 88 23) fX6_222 dX6_saying_86 kq88 (ltn rfl) (ltn rfl) rfl ((up2_n (up2 (up2 (up2 (up2 G2 102 (11 * j) 1) 102 ((11 * j) + 1) (nI ru)) 102 ((11 * j) + 2) (g 88 20)) 102 ((11 * j) + 3) (g 88 21)) (g 88 22) (Or.inl (Nat.ne_of_beq_eq_false rfl))).trans ((up2_n (up2 (up2 (up2 G2 102 (11 * j) 1) 102 ((11 * j) + 1) (nI ru)) 102 ((11 * j) + 2) (g 88 20)) (g 88 21) (Or.inl (Nat.ne_of_beq_eq_false rfl))).trans ((up2_n (up2 (up2 G2 102 (11 * j) 1) 102 ((11 * j) + 1) (nI ru)) (g 88 20) (Or.inl (Nat.ne_of_beq_eq_false rfl))).trans ((up2_n (up2 G2 102 (11 * j) 1) (nI ru) (Or.inl (Nat.ne_of_beq_eq_false rfl))).trans ((up2_n G2 1 (Or.inl (Nat.ne_of_beq_eq_false rfl))).trans (hF2 88 23 (by omega))))))) rfl ?_
    refine go_iastk (pc' := 90) cx ((11 * j) + 5) dX6_saying_89 kq102 (ltn rfl) (vpi (k := ((11 * j) + 5)) (a := 22528) (by omega) rfl rfl) (cli (k := ((11 * j) + 5)) (a := 22528) (by omega) rfl) rfl ?_
    refine go_aload_n (pc' := 91) cx dX6_saying_90 rfl rfl ?_
    refine go_getr (pc' := 94) cx 102 fX6_56 dX6_saying_91 kq88 (ltn rfl) (ltn rfl) rfl rfl rfl ?_
    refine go_iload_n (pc' := 95) cx dX6_saying_94 rfl rfl ?_
    refine go_bipush (pc' := 97) cx 6 dX6_saying_95 rfl rfl ?_
    refine go_iadd (pc' := 98) cx dX6_saying_97 rfl ?_
    refine go_val (w := .int (nI ((11 * j) + 6))) (congrArg Value.int (nI_add (11 * j) 6)) ?_
    refine go_aload_n (pc' := 99) cx dX6_saying_98 rfl rfl ?_
    refine go_geti (pc' := 102) cx (g 88 24) fX6_225 dX6_saying_99 kq88 (ltn rfl) (ltn rfl) rfl ((up2_n (up2 (up2 (up2 (up2 (up2 G2 102 (11 * j) 1) 102 ((11 * j) + 1) (nI ru)) 102 ((11 * j) + 2) (g 88 20)) 102 ((11 * j) + 3) (g 88 21)) 102 ((11 * j) + 4) (g 88 22)) (g 88 23) (Or.inl (Nat.ne_of_beq_eq_false rfl))).trans ((up2_n (up2 (up2 (up2 (up2 G2 102 (11 * j) 1) 102 ((11 * j) + 1) (nI ru)) 102 ((11 * j) + 2) (g 88 20)) 102 ((11 * j) + 3) (g 88 21)) (g 88 22) (Or.inl (Nat.ne_of_beq_eq_false rfl))).trans ((up2_n (up2 (up2 (up2 G2 102 (11 * j) 1) 102 ((11 * j) + 1) (nI ru)) 102 ((11 * j) + 2) (g 88 20)) (g 88 21) (Or.inl (Nat.ne_of_beq_eq_false rfl))).trans ((up2_n (up2 (up2 G2 102 (11 * j) 1) 102 ((11 * j) + 1) (nI ru)) (g 88 20) (Or.inl (Nat.ne_of_beq_eq_false rfl))).trans ((up2_n (up2 G2 102 (11 * j) 1) (nI ru) (Or.inl (Nat.ne_of_beq_eq_false rfl))).trans ((up2_n G2 1 (Or.inl (Nat.ne_of_beq_eq_false rfl))).trans (hF2 88 24 (by omega)))))))) rfl ?_
    refine go_iastk (pc' := 103) cx ((11 * j) + 6) dX6_saying_102 kq102 (ltn rfl) (vpi (k := ((11 * j) + 6)) (a := 22528) (by omega) rfl rfl) (cli (k := ((11 * j) + 6)) (a := 22528) (by omega) rfl) rfl ?_
    refine go_aload_n (pc' := 104) cx dX6_saying_103 rfl rfl ?_
    refine go_getr (pc' := 107) cx 102 fX6_56 dX6_saying_104 kq88 (ltn rfl) (ltn rfl) rfl rfl rfl ?_
    refine go_iload_n (pc' := 108) cx dX6_saying_107 rfl rfl ?_
    refine go_bipush (pc' := 110) cx 7 dX6_saying_108 rfl rfl ?_
    refine go_iadd (pc' := 111) cx dX6_saying_110 rfl ?_
    refine go_val (w := .int (nI ((11 * j) + 7))) (congrArg Value.int (nI_add (11 * j) 7)) ?_
    refine go_aload_n (pc' := 112) cx dX6_saying_111 rfl rfl ?_
    refine go_geti (pc' := 115) cx (g 88 25) fX6_228 dX6_saying_112 kq88 (ltn rfl) (ltn rfl) rfl ((up2_n (up2 (up2 (up2 (up2 (up2 (up2 G2 102 (11 * j) 1) 102 ((11 * j) + 1) (nI ru)) 102 ((11 * j) + 2) (g 88 20)) 102 ((11 * j) + 3) (g 88 21)) 102 ((11 * j) + 4) (g 88 22)) 102 ((11 * j) + 5) (g 88 23)) (g 88 24) (Or.inl (Nat.ne_of_beq_eq_false rfl))).trans ((up2_n (up2 (up2 (up2 (up2 (up2 G2 102 (11 * j) 1) 102 ((11 * j) + 1) (nI ru)) 102 ((11 * j) + 2) (g 88 20)) 102 ((11 * j) + 3) (g 88 21)) 102 ((11 * j) + 4) (g 88 22)) (g 88 23) (Or.inl (Nat.ne_of_beq_eq_false rfl))).trans ((up2_n (up2 (up2 (up2 (up2 G2 102 (11 * j) 1) 102 ((11 * j) + 1) (nI ru)) 102 ((11 * j) + 2) (g 88 20)) 102 ((11 * j) + 3) (g 88 21)) (g 88 22) (Or.inl (Nat.ne_of_beq_eq_false rfl))).trans ((up2_n (up2 (up2 (up2 G2 102 (11 * j) 1) 102 ((11 * j) + 1) (nI ru)) 102 ((11 * j) + 2) (g 88 20)) (g 88 21) (Or.inl (Nat.ne_of_beq_eq_false rfl))).trans ((up2_n (up2 (up2 G2 102 (11 * j) 1) 102 ((11 * j) + 1) (nI ru)) (g 88 20) (Or.inl (Nat.ne_of_beq_eq_false rfl))).trans ((up2_n (up2 G2 102 (11 * j) 1) (nI ru) (Or.inl (Nat.ne_of_beq_eq_false rfl))).trans ((up2_n G2 1 (Or.inl (Nat.ne_of_beq_eq_false rfl))).trans (hF2 88 25 (by omega))))))))) rfl ?_
    refine go_iastk (pc' := 116) cx ((11 * j) + 7) dX6_saying_115 kq102 (ltn rfl) (vpi (k := ((11 * j) + 7)) (a := 22528) (by omega) rfl rfl) (cli (k := ((11 * j) + 7)) (a := 22528) (by omega) rfl) rfl ?_
    refine go_aload_n (pc' := 117) cx dX6_saying_116 rfl rfl ?_
    refine go_getr (pc' := 120) cx 102 fX6_56 dX6_saying_117 kq88 (ltn rfl) (ltn rfl) rfl rfl rfl ?_
    refine go_iload_n (pc' := 121) cx dX6_saying_120 rfl rfl ?_
    refine go_bipush (pc' := 123) cx 8 dX6_saying_121 rfl rfl ?_
    refine go_iadd (pc' := 124) cx dX6_saying_123 rfl ?_
    refine go_val (w := .int (nI ((11 * j) + 8))) (congrArg Value.int (nI_add (11 * j) 8)) ?_
    refine go_aload_n (pc' := 125) cx dX6_saying_124 rfl rfl ?_
    refine go_geti (pc' := 128) cx (G2 88 35) fX6_358 dX6_saying_125 kq88 (ltn rfl) (ltn rfl) rfl ((up2_n (up2 (up2 (up2 (up2 (up2 (up2 (up2 G2 102 (11 * j) 1) 102 ((11 * j) + 1) (nI ru)) 102 ((11 * j) + 2) (g 88 20)) 102 ((11 * j) + 3) (g 88 21)) 102 ((11 * j) + 4) (g 88 22)) 102 ((11 * j) + 5) (g 88 23)) 102 ((11 * j) + 6) (g 88 24)) (g 88 25) (Or.inl (Nat.ne_of_beq_eq_false rfl))).trans ((up2_n (up2 (up2 (up2 (up2 (up2 (up2 G2 102 (11 * j) 1) 102 ((11 * j) + 1) (nI ru)) 102 ((11 * j) + 2) (g 88 20)) 102 ((11 * j) + 3) (g 88 21)) 102 ((11 * j) + 4) (g 88 22)) 102 ((11 * j) + 5) (g 88 23)) (g 88 24) (Or.inl (Nat.ne_of_beq_eq_false rfl))).trans ((up2_n (up2 (up2 (up2 (up2 (up2 G2 102 (11 * j) 1) 102 ((11 * j) + 1) (nI ru)) 102 ((11 * j) + 2) (g 88 20)) 102 ((11 * j) + 3) (g 88 21)) 102 ((11 * j) + 4) (g 88 22)) (g 88 23) (Or.inl (Nat.ne_of_beq_eq_false rfl))).trans ((up2_n (up2 (up2 (up2 (up2 G2 102 (11 * j) 1) 102 ((11 * j) + 1) (nI ru)) 102 ((11 * j) + 2) (g 88 20)) 102 ((11 * j) + 3) (g 88 21)) (g 88 22) (Or.inl (Nat.ne_of_beq_eq_false rfl))).trans ((up2_n (up2 (up2 (up2 G2 102 (11 * j) 1) 102 ((11 * j) + 1) (nI ru)) 102 ((11 * j) + 2) (g 88 20)) (g 88 21) (Or.inl (Nat.ne_of_beq_eq_false rfl))).trans ((up2_n (up2 (up2 G2 102 (11 * j) 1) 102 ((11 * j) + 1) (nI ru)) (g 88 20) (Or.inl (Nat.ne_of_beq_eq_false rfl))).trans ((up2_n (up2 G2 102 (11 * j) 1) (nI ru) (Or.inl (Nat.ne_of_beq_eq_false rfl))).trans (up2_n G2 1 (Or.inl (Nat.ne_of_beq_eq_false rfl)))))))))) rfl ?_
    refine go_iastk (pc' := 129) cx ((11 * j) + 8) dX6_saying_128 kq102 (ltn rfl) (vpi (k := ((11 * j) + 8)) (a := 22528) (by omega) rfl rfl) (cli (k := ((11 * j) + 8)) (a := 22528) (by omega) rfl) rfl ?_
    refine go_aload_n (pc' := 130) cx dX6_saying_129 rfl rfl ?_
    refine go_getr (pc' := 133) cx 102 fX6_56 dX6_saying_130 kq88 (ltn rfl) (ltn rfl) rfl rfl rfl ?_
    refine go_iload_n (pc' := 134) cx dX6_saying_133 rfl rfl ?_
    refine go_bipush (pc' := 136) cx 9 dX6_saying_134 rfl rfl ?_
    refine go_iadd (pc' := 137) cx dX6_saying_136 rfl ?_
    refine go_val (w := .int (nI ((11 * j) + 9))) (congrArg Value.int (nI_add (11 * j) 9)) ?_
    refine go_aload_n (pc' := 138) cx dX6_saying_137 rfl rfl ?_
    refine go_geti (pc' := 141) cx (G2 88 36) fX6_361 dX6_saying_138 kq88 (ltn rfl) (ltn rfl) rfl ((up2_n (up2 (up2 (up2 (up2 (up2 (up2 (up2 (up2 G2 102 (11 * j) 1) 102 ((11 * j) + 1) (nI ru)) 102 ((11 * j) + 2) (g 88 20)) 102 ((11 * j) + 3) (g 88 21)) 102 ((11 * j) + 4) (g 88 22)) 102 ((11 * j) + 5) (g 88 23)) 102 ((11 * j) + 6) (g 88 24)) 102 ((11 * j) + 7) (g 88 25)) (G2 88 35) (Or.inl (Nat.ne_of_beq_eq_false rfl))).trans ((up2_n (up2 (up2 (up2 (up2 (up2 (up2 (up2 G2 102 (11 * j) 1) 102 ((11 * j) + 1) (nI ru)) 102 ((11 * j) + 2) (g 88 20)) 102 ((11 * j) + 3) (g 88 21)) 102 ((11 * j) + 4) (g 88 22)) 102 ((11 * j) + 5) (g 88 23)) 102 ((11 * j) + 6) (g 88 24)) (g 88 25) (Or.inl (Nat.ne_of_beq_eq_false rfl))).trans ((up2_n (up2 (up2 (up2 (up2 (up2 (up2 G2 102 (11 * j) 1) 102 ((11 * j) + 1) (nI ru)) 102 ((11 * j) + 2) (g 88 20)) 102 ((11 * j) + 3) (g 88 21)) 102 ((11 * j) + 4) (g 88 22)) 102 ((11 * j) + 5) (g 88 23)) (g 88 24) (Or.inl (Nat.ne_of_beq_eq_false rfl))).trans ((up2_n (up2 (up2 (up2 (up2 (up2 G2 102 (11 * j) 1) 102 ((11 * j) + 1) (nI ru)) 102 ((11 * j) + 2) (g 88 20)) 102 ((11 * j) + 3) (g 88 21)) 102 ((11 * j) + 4) (g 88 22)) (g 88 23) (Or.inl (Nat.ne_of_beq_eq_false rfl))).trans ((up2_n (up2 (up2 (up2 (up2 G2 102 (11 * j) 1) 102 ((11 * j) + 1) (nI ru)) 102 ((11 * j) + 2) (g 88 20)) 102 ((11 * j) + 3) (g 88 21)) (g 88 22) (Or.inl (Nat.ne_of_beq_eq_false rfl))).trans ((up2_n (up2 (up2 (up2 G2 102 (11 * j) 1) 102 ((11 * j) + 1) (nI ru)) 102 ((11 * j) + 2) (g 88 20)) (g 88 21) (Or.inl (Nat.ne_of_beq_eq_false rfl))).trans ((up2_n (up2 (up2 G2 102 (11 * j) 1) 102 ((11 * j) + 1) (nI ru)) (g 88 20) (Or.inl (Nat.ne_of_beq_eq_false rfl))).trans ((up2_n (up2 G2 102 (11 * j) 1) (nI ru) (Or.inl (Nat.ne_of_beq_eq_false rfl))).trans (up2_n G2 1 (Or.inl (Nat.ne_of_beq_eq_false rfl))))))))))) rfl ?_
    refine go_iastk (pc' := 142) cx ((11 * j) + 9) dX6_saying_141 kq102 (ltn rfl) (vpi (k := ((11 * j) + 9)) (a := 22528) (by omega) rfl rfl) (cli (k := ((11 * j) + 9)) (a := 22528) (by omega) rfl) rfl ?_
    refine go_aload_n (pc' := 143) cx dX6_saying_142 rfl rfl ?_
    refine go_getr (pc' := 146) cx 102 fX6_56 dX6_saying_143 kq88 (ltn rfl) (ltn rfl) rfl rfl rfl ?_
    refine go_iload_n (pc' := 147) cx dX6_saying_146 rfl rfl ?_
    refine go_bipush (pc' := 149) cx 10 dX6_saying_147 rfl rfl ?_
    refine go_iadd (pc' := 150) cx dX6_saying_149 rfl ?_
    refine go_val (w := .int (nI ((11 * j) + 10))) (congrArg Value.int (nI_add (11 * j) 10)) ?_
    refine go_aload_n (pc' := 151) cx dX6_saying_150 rfl rfl ?_
    refine go_geti (pc' := 154) cx (G2 88 37) fX6_364 dX6_saying_151 kq88 (ltn rfl) (ltn rfl) rfl ((up2_n (up2 (up2 (up2 (up2 (up2 (up2 (up2 (up2 (up2 G2 102 (11 * j) 1) 102 ((11 * j) + 1) (nI ru)) 102 ((11 * j) + 2) (g 88 20)) 102 ((11 * j) + 3) (g 88 21)) 102 ((11 * j) + 4) (g 88 22)) 102 ((11 * j) + 5) (g 88 23)) 102 ((11 * j) + 6) (g 88 24)) 102 ((11 * j) + 7) (g 88 25)) 102 ((11 * j) + 8) (G2 88 35)) (G2 88 36) (Or.inl (Nat.ne_of_beq_eq_false rfl))).trans ((up2_n (up2 (up2 (up2 (up2 (up2 (up2 (up2 (up2 G2 102 (11 * j) 1) 102 ((11 * j) + 1) (nI ru)) 102 ((11 * j) + 2) (g 88 20)) 102 ((11 * j) + 3) (g 88 21)) 102 ((11 * j) + 4) (g 88 22)) 102 ((11 * j) + 5) (g 88 23)) 102 ((11 * j) + 6) (g 88 24)) 102 ((11 * j) + 7) (g 88 25)) (G2 88 35) (Or.inl (Nat.ne_of_beq_eq_false rfl))).trans ((up2_n (up2 (up2 (up2 (up2 (up2 (up2 (up2 G2 102 (11 * j) 1) 102 ((11 * j) + 1) (nI ru)) 102 ((11 * j) + 2) (g 88 20)) 102 ((11 * j) + 3) (g 88 21)) 102 ((11 * j) + 4) (g 88 22)) 102 ((11 * j) + 5) (g 88 23)) 102 ((11 * j) + 6) (g 88 24)) (g 88 25) (Or.inl (Nat.ne_of_beq_eq_false rfl))).trans ((up2_n (up2 (up2 (up2 (up2 (up2 (up2 G2 102 (11 * j) 1) 102 ((11 * j) + 1) (nI ru)) 102 ((11 * j) + 2) (g 88 20)) 102 ((11 * j) + 3) (g 88 21)) 102 ((11 * j) + 4) (g 88 22)) 102 ((11 * j) + 5) (g 88 23)) (g 88 24) (Or.inl (Nat.ne_of_beq_eq_false rfl))).trans ((up2_n (up2 (up2 (up2 (up2 (up2 G2 102 (11 * j) 1) 102 ((11 * j) + 1) (nI ru)) 102 ((11 * j) + 2) (g 88 20)) 102 ((11 * j) + 3) (g 88 21)) 102 ((11 * j) + 4) (g 88 22)) (g 88 23) (Or.inl (Nat.ne_of_beq_eq_false rfl))).trans ((up2_n (up2 (up2 (up2 (up2 G2 102 (11 * j) 1) 102 ((11 * j) + 1) (nI ru)) 102 ((11 * j) + 2) (g 88 20)) 102 ((11 * j) + 3) (g 88 21)) (g 88 22) (Or.inl (Nat.ne_of_beq_eq_false rfl))).trans ((up2_n (up2 (up2 (up2 G2 102 (11 * j) 1) 102 ((11 * j) + 1) (nI ru)) 102 ((11 * j) + 2) (g 88 20)) (g 88 21) (Or.inl (Nat.ne_of_beq_eq_false rfl))).trans ((up2_n (up2 (up2 G2 102 (11 * j) 1) 102 ((11 * j) + 1) (nI ru)) (g 88 20) (Or.inl (Nat.ne_of_beq_eq_false rfl))).trans ((up2_n (up2 G2 102 (11 * j) 1) (nI ru) (Or.inl (Nat.ne_of_beq_eq_false rfl))).trans (up2_n G2 1 (Or.inl (Nat.ne_of_beq_eq_false rfl)))))))))))) rfl ?_
    refine go_iastk (pc' := 155) cx ((11 * j) + 10) dX6_saying_154 kq102 (ltn rfl) (vpi (k := ((11 * j) + 10)) (a := 22528) (by omega) rfl rfl) (cli (k := ((11 * j) + 10)) (a := 22528) (by omega) rfl) rfl ?_
    obtain ⟨GF, hGF⟩ : ∃ y : IG, y = (up2 (up2 (up2 (up2 (up2 (up2 (up2 (up2 (up2 (up2 (up2 G2 102 (11 * j) 1) 102 ((11 * j) + 1) (nI ru)) 102 ((11 * j) + 2) (g 88 20)) 102 ((11 * j) + 3) (g 88 21)) 102 ((11 * j) + 4) (g 88 22)) 102 ((11 * j) + 5) (g 88 23)) 102 ((11 * j) + 6) (g 88 24)) 102 ((11 * j) + 7) (g 88 25)) 102 ((11 * j) + 8) (G2 88 35)) 102 ((11 * j) + 9) (G2 88 36)) 102 ((11 * j) + 10) (G2 88 37)) := ⟨_, rfl⟩
    refine go_g hGF.symm ?_
    have w8 : GF 102 (11 * j + 8) = valF (evM g) (CS ru 0) := by
      rw [hGF, up2_n _ _ (Or.inr (by omega)), up2_n _ _ (Or.inr (by omega)), up2_s]
      exact hp
    have w9 : GF 102 (11 * j + 9) = valF (evM g) (CS ru 1) := by
      rw [hGF, up2_n _ _ (Or.inr (by omega)), up2_s]
      exact hq
    have w10 : GF 102 (11 * j + 10) = valF (evM g) (CS ru 2) := by
      rw [hGF, up2_s]
      exact hr
    have v1 : GF 102 (11 * j + 1) = nI ru := by
      rw [hGF, up2_n _ _ (Or.inr (by omega)), up2_n _ _ (Or.inr (by omega)), up2_n _ _ (Or.inr (by omega)), up2_n _ _ (Or.inr (by omega)), up2_n _ _ (Or.inr (by omega)), up2_n _ _ (Or.inr (by omega)), up2_n _ _ (Or.inr (by omega)), up2_n _ _ (Or.inr (by omega)), up2_n _ _ (Or.inr (by omega)), up2_s]
    have v2 : GF 102 (11 * j + 2) = g 88 20 := by
      rw [hGF, up2_n _ _ (Or.inr (by omega)), up2_n _ _ (Or.inr (by omega)), up2_n _ _ (Or.inr (by omega)), up2_n _ _ (Or.inr (by omega)), up2_n _ _ (Or.inr (by omega)), up2_n _ _ (Or.inr (by omega)), up2_n _ _ (Or.inr (by omega)), up2_n _ _ (Or.inr (by omega)), up2_s]
    have v3 : GF 102 (11 * j + 3) = g 88 21 := by
      rw [hGF, up2_n _ _ (Or.inr (by omega)), up2_n _ _ (Or.inr (by omega)), up2_n _ _ (Or.inr (by omega)), up2_n _ _ (Or.inr (by omega)), up2_n _ _ (Or.inr (by omega)), up2_n _ _ (Or.inr (by omega)), up2_n _ _ (Or.inr (by omega)), up2_s]
    have v4 : GF 102 (11 * j + 4) = g 88 22 := by
      rw [hGF, up2_n _ _ (Or.inr (by omega)), up2_n _ _ (Or.inr (by omega)), up2_n _ _ (Or.inr (by omega)), up2_n _ _ (Or.inr (by omega)), up2_n _ _ (Or.inr (by omega)), up2_n _ _ (Or.inr (by omega)), up2_s]
    have v5 : GF 102 (11 * j + 5) = g 88 23 := by
      rw [hGF, up2_n _ _ (Or.inr (by omega)), up2_n _ _ (Or.inr (by omega)), up2_n _ _ (Or.inr (by omega)), up2_n _ _ (Or.inr (by omega)), up2_n _ _ (Or.inr (by omega)), up2_s]
    have v6 : GF 102 (11 * j + 6) = g 88 24 := by
      rw [hGF, up2_n _ _ (Or.inr (by omega)), up2_n _ _ (Or.inr (by omega)), up2_n _ _ (Or.inr (by omega)), up2_n _ _ (Or.inr (by omega)), up2_s]
    have v7 : GF 102 (11 * j + 7) = g 88 25 := by
      rw [hGF, up2_n _ _ (Or.inr (by omega)), up2_n _ _ (Or.inr (by omega)), up2_n _ _ (Or.inr (by omega)), up2_s]
    have wev : evR (GF 102) (11 * j + 2) = evM g := by
      unfold evR evM
      rw [show 11 * j + 2 + 1 = 11 * j + 3 by omega, show 11 * j + 2 + 2 = 11 * j + 4 by omega, show 11 * j + 2 + 3 = 11 * j + 5 by omega, show 11 * j + 2 + 4 = 11 * j + 6 by omega, show 11 * j + 2 + 5 = 11 * j + 7 by omega, v2, v3, v4, v5, v6, v7]
    have wo : ∀ k, k < 11 * j ∨ 11 * j + 11 ≤ k → GF 102 k = g 102 k := by
      intro k hk
      rw [hGF, up2_n _ _ (Or.inr (by omega)), up2_n _ _ (Or.inr (by omega)), up2_n _ _ (Or.inr (by omega)), up2_n _ _ (Or.inr (by omega)), up2_n _ _ (Or.inr (by omega)), up2_n _ _ (Or.inr (by omega)), up2_n _ _ (Or.inr (by omega)), up2_n _ _ (Or.inr (by omega)), up2_n _ _ (Or.inr (by omega)), up2_n _ _ (Or.inr (by omega)), up2_n _ _ (Or.inr (by omega))]
      exact hF2 102 k (by omega)
    have wk : ∀ k, k < 3 → GF 102 (11 * j + 8 + k) = valF (evM g) (CS ru k) := by
      intro k hk
      rcases (show k = 0 ∨ k = 1 ∨ k = 2 by omega) with rfl | rfl | rfl
      · exact w8
      · exact w9
      · exact w10
    have wF : FrS g GF := by
      rw [hGF]
      exact hF2.s.up1.up1.up1.up1.up1.up1.up1.up1.up1.up1.up1
    have wS : SdI GF tc CS := hX.2.2.2.2.2.put hX.1 wo v1 (fun k hk => by rw [wev]; exact wk k hk)
    refine go_aload_n (pc' := 156) cx dX6_saying_155 rfl rfl ?_
    refine go_getr (pc' := 159) cx 102 fX6_56 dX6_saying_156 kq88 (ltn rfl) (ltn rfl) rfl rfl rfl ?_
    refine go_iload_n (pc' := 160) cx dX6_saying_159 rfl rfl ?_
    refine go_bipush (pc' := 162) cx 8 dX6_saying_160 rfl rfl ?_
    refine go_iadd (pc' := 163) cx dX6_saying_162 rfl ?_
    refine go_val (w := .int (nI ((11 * j) + 8))) (congrArg Value.int (nI_add (11 * j) 8)) ?_
    refine go_iload_n (pc' := 164) cx dX6_saying_163 rfl rfl ?_
    refine go_iadd (pc' := 165) cx dX6_saying_164 rfl ?_
    refine go_val (w := .int (nI (((11 * j) + 8) + wh))) (congrArg Value.int (nI_add ((11 * j) + 8) wh)) ?_
    refine go_iald (pc' := 166) cx (GF 102 (((11 * j) + 8) + wh)) dX6_saying_165 kq102 (ltn rfl) (vpi (k := (((11 * j) + 8) + wh)) (a := 22528) (by omega) rfl rfl) (congrArg (GF 102) (cli (k := (((11 * j) + 8) + wh)) (a := 22528) (by omega) rfl)) rfl ?_
    refine go_iret cx rfl dX6_saying_166 ?_
    exact ZIz.mk ⟨wk wh hwh, wF, wS⟩

theorem wit_clp (x : Int32) : witF 0 99 x = clp x := by
  unfold witF clp
  by_cases h : x < 99
  · rw [if_pos h]
    by_cases h0 : x < 0
    · rw [if_pos h0, if_neg (fun q => absurd (Int32.lt_trans q h0) (by simp))]
    · rw [if_neg h0, if_neg (fun q => absurd (Int32.lt_trans q h) (by simp))]
      by_cases h1 : 0 < x
      · rw [if_pos h1]
      · rw [if_neg h1]
        exact Int32.le_antisymm (Int32.not_lt.mp h1) (Int32.not_lt.mp h0)
  · rw [if_neg h, if_pos (show (0 : Int32) < 99 by decide)]
    have h9 : ¬ x < 0 := fun q => h (Int32.lt_trans q (by decide))
    rw [if_neg h9]
    by_cases h1 : 99 < x
    · rw [if_pos h1]
    · rw [if_neg h1]
      exact Int32.le_antisymm (Int32.not_lt.mp h1) (Int32.not_lt.mp h)

set_option maxHeartbeats 1000000 in
set_option maxRecDepth 20000 in
theorem c_X6_says (l : Launch) (E : Ev) {g : IG} {o : Option Nat} {z : Int64} {tc ru : Nat} {CS : CSt} (hX : MX g tc ru CS) {wh pl : Nat} (hwh : wh < 3) (hpl : pl < 4) (wk hd : Int32) : Ct l E 115 yX6_says cX6_says 5 (some .int) 45 [.ref (E.2.1 88), .int (nI wh), .int (nI pl), .int wk, .int hd] g (RFo o) z (ZIz (RFo o) (fun x g1 z1 => x = clp (valF (nmV (g 92 pl) (g 93 pl) (g 94 pl) wk (nI pl) hd) (CS ru wh)) ∧ FrS g g1 ∧ SdI g1 tc CS)) := by
  refine Ct.of (lv0 := [(0, .ref (E.2.1 88)), (1, .int (nI wh)), (2, .int (nI pl)), (3, .int wk), (4, .int hd)]) (by decide) (Nat.le_of_ble_eq_true rfl) rfl ?_
  intro p e s m below meth c cx
  refine go_aload_n (pc' := 1) cx dX6_says_0 rfl rfl ?_
  refine go_aload_n (pc' := 2) cx dX6_says_1 rfl rfl ?_
  refine go_getr (pc' := 5) cx 92 fX6_23 dX6_says_2 kq88 (ltn rfl) (ltn rfl) rfl rfl rfl ?_
  refine go_iload_n (pc' := 6) cx dX6_says_5 rfl rfl ?_
  refine go_iald (pc' := 7) cx (g 92 pl) dX6_says_6 kq92 (ltn rfl) (vpi (k := pl) (a := 4) hpl rfl rfl) (congrArg (g 92) (cli (k := pl) (a := 4) hpl rfl)) rfl ?_
  refine go_puti (pc' := 10) cx fX6_213 dX6_says_7 kq88 (ltn rfl) (ltn rfl) rfl rfl rfl rfl ?_
  refine go_aload_n (pc' := 11) cx dX6_says_10 rfl rfl ?_
  refine go_aload_n (pc' := 12) cx dX6_says_11 rfl rfl ?_
  refine go_getr (pc' := 15) cx 93 fX6_26 dX6_says_12 kq88 (ltn rfl) (ltn rfl) rfl rfl rfl ?_
  refine go_iload_n (pc' := 16) cx dX6_says_15 rfl rfl ?_
  refine go_iald (pc' := 17) cx (g 93 pl) dX6_says_16 kq93 (ltn rfl) (vpi (k := pl) (a := 4) hpl rfl rfl) ((congrArg ((up2 g 88 20 (g 92 pl)) 93) (cli (k := pl) (a := 4) hpl rfl)).trans (up2_n g (g 92 pl) (Or.inl (Nat.ne_of_beq_eq_false rfl)))) rfl ?_
  refine go_puti (pc' := 20) cx fX6_216 dX6_says_17 kq88 (ltn rfl) (ltn rfl) rfl rfl rfl rfl ?_
  refine go_aload_n (pc' := 21) cx dX6_says_20 rfl rfl ?_
  refine go_aload_n (pc' := 22) cx dX6_says_21 rfl rfl ?_
  refine go_getr (pc' := 25) cx 94 fX6_29 dX6_says_22 kq88 (ltn rfl) (ltn rfl) rfl rfl rfl ?_
  refine go_iload_n (pc' := 26) cx dX6_says_25 rfl rfl ?_
  refine go_iald (pc' := 27) cx (g 94 pl) dX6_says_26 kq94 (ltn rfl) (vpi (k := pl) (a := 4) hpl rfl rfl) ((congrArg ((up2 (up2 g 88 20 (g 92 pl)) 88 21 (g 93 pl)) 94) (cli (k := pl) (a := 4) hpl rfl)).trans ((up2_n (up2 g 88 20 (g 92 pl)) (g 93 pl) (Or.inl (Nat.ne_of_beq_eq_false rfl))).trans (up2_n g (g 92 pl) (Or.inl (Nat.ne_of_beq_eq_false rfl))))) rfl ?_
  refine go_puti (pc' := 30) cx fX6_219 dX6_says_27 kq88 (ltn rfl) (ltn rfl) rfl rfl rfl rfl ?_
  refine go_aload_n (pc' := 31) cx dX6_says_30 rfl rfl ?_
  refine go_iload_n (pc' := 32) cx dX6_says_31 rfl rfl ?_
  refine go_puti (pc' := 35) cx fX6_222 dX6_says_32 kq88 (ltn rfl) (ltn rfl) rfl rfl rfl rfl ?_
  refine go_aload_n (pc' := 36) cx dX6_says_35 rfl rfl ?_
  refine go_iload_n (pc' := 37) cx dX6_says_36 rfl rfl ?_
  refine go_puti (pc' := 40) cx fX6_225 dX6_says_37 kq88 (ltn rfl) (ltn rfl) rfl rfl rfl rfl ?_
  refine go_aload_n (pc' := 41) cx dX6_says_40 rfl rfl ?_
  refine go_iload (pc' := 43) cx dX6_says_41 rfl rfl ?_
  refine go_puti (pc' := 46) cx fX6_228 dX6_says_43 kq88 (ltn rfl) (ltn rfl) rfl rfl rfl rfl ?_
  refine go_aload_n (pc' := 47) cx dX6_says_46 rfl rfl ?_
  refine go_iload_n (pc' := 48) cx dX6_says_47 rfl rfl ?_
  obtain ⟨GA, hGA⟩ : ∃ y : IG, y = (up2 (up2 (up2 (up2 (up2 (up2 g 88 20 (g 92 pl)) 88 21 (g 93 pl)) 88 22 (g 94 pl)) 88 23 wk) 88 24 (nI pl)) 88 25 hd) := ⟨_, rfl⟩
  refine go_g hGA.symm ?_
  have hFA : FrS g GA := by
    rw [hGA]
    exact (((((FrS.rf.up (by omega) (by omega)).up (by omega) (by omega)).up (by omega) (by omega)).up (by omega) (by omega)).up (by omega) (by omega)).up (by omega) (by omega)
  have hSA : SdI GA tc CS := hX.2.2.2.2.2.fr (by rw [hGA]; rfl)
  have hev : evM GA = nmV (g 92 pl) (g 93 pl) (g 94 pl) wk (nI pl) hd := by
    rw [hGA]
    rfl
  refine go_cVIz (pc' := 51) cx (c_X6_saying l E (g := GA) (hX.fr hFA hSA) hwh) mX6_saying lX6_379 dX6_says_48 kq88 (ltn rfl) (ltn rfl) rfl rfl rfl rfl (ltn rfl) (Nat.le_of_ble_eq_true rfl) (Nat.le_of_ble_eq_true rfl) rfl (fun x3 G3 z3 h3 => ?_)
  obtain ⟨e3, hF3, hS3⟩ := h3
  subst e3
  refine go_iconst (pc' := 52) cx 0 dX6_says_51 rfl rfl ?_
  refine go_bipush (pc' := 54) cx 99 dX6_says_52 rfl rfl ?_
  refine go_cSi (pc' := 57) cx (c_X6_within l E (g := G3) (valF (evM GA) (CS ru wh)) 0 99) mX6_within lX6_382 dX6_says_54 rfl rfl rfl (ltn rfl) (Nat.le_of_ble_eq_true rfl) (Nat.le_of_ble_eq_true rfl) rfl ?_
  refine go_iret cx rfl dX6_says_57 ?_
  exact ZIz.mk ⟨by rw [wit_clp, hev], hFA.tr hF3, hS3⟩
