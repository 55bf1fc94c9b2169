/-! THE REFERENCE: of weeks, of words -/
def ow (f : Nat → Int32) : Option Nat → Int32
  | none => 0
  | some w => f w
theorem mns_nn (f : Nat → Int32) (n : Nat) : ow f (mns f (n + 1)) = ov f (mns f (n + 1)) := by
  cases hq : mns f n with
  | none =>
    rw [mns_sn hq]
    rfl
  | some w =>
    rw [mns_ss hq]
    split <;> rfl

set_option maxHeartbeats 1000000 in
set_option maxRecDepth 20000 in
theorem when_loopM {l : Launch} {E : Ev} {Z : ZT} {o : Option Nat} {p : Program} {e : Env} {s : State} {m : MethodId} {args : Array Value} {below : List Frame} {meth : Method} {c : Code} {g : IG} {hn vn ru tc : Nat} {CS : CSt} (hX : XM g hn vn ru tc CS) {x2 : Int32} {v : Nat} (hv : v < vn) (cx : Cx p s m args meth c E 115 cX6_when 8 yX6_when.cls (some .int)) : ∀ (k w : Nat) (G : IG) (z : Int64), w + k = 21 → FrW (92 + 8) g G → (∀ k, k ≠ v → G 100 k = g 100 k) → SdI G tc CS → (∀ (G9 : IG) (z9 : Int64), FrJ g G9 → SdI G9 tc CS → Z (some (.int (if x2 = 0 then oi (mns (weE (TMx CS ru) (svM g) vn v) 21) else ow (weE (TMx CS ru) (svM g) vn v) (mns (weE (TMx CS ru) (svM g) vn v) 21)))) G9 (RFo o) z9) → Go p l e (rmd 49) s m args below meth c E 115 8 Z G (RFo o) z 37 [(6, .int (nI w)), (0, .ref (E.2.1 88)), (1, .int (nI v)), (2, .int x2), (3, .int (g 100 v)), (4, .int (oi (mns (weE (TMx CS ru) (svM g) vn v) w))), (5, .int (ow (weE (TMx CS ru) (svM g) vn v) (mns (weE (TMx CS ru) (svM g) vn v) w)))] [] := by
  intro k
  have hb := hX.1
  induction k with
  | zero =>
    intro w G z hk hF hW hS hZ
    have hw : w = 21 := by omega
    subst hw
    refine go_iload (pc' := 39) cx dX6_when_37 rfl rfl ?_
    refine go_bipush (pc' := 41) cx 20 dX6_when_39 rfl rfl ?_
    refine go_icmp_gt (pc' := 44) cx 85 dX6_when_41 rfl rfl (fun _ => ?_) (fun hh9 => absurd (by decide) hh9)
    refine go_aload_n (pc' := 86) cx dX6_when_85 rfl rfl ?_
    refine go_getr (pc' := 89) cx 100 fX6_50 dX6_when_86 kq88 (ltn rfl) (ltn rfl) rfl rfl rfl ?_
    refine go_iload_n (pc' := 90) cx dX6_when_89 rfl rfl ?_
    refine go_iload_n (pc' := 91) cx dX6_when_90 rfl rfl ?_
    refine go_iastk (pc' := 92) cx v dX6_when_91 kq100 (ltn rfl) (vpi (k := v) (a := 8) (by omega) rfl rfl) (cli (k := v) (a := 8) (by omega) rfl) rfl ?_
    refine go_iload_n (pc' := 93) cx dX6_when_92 rfl rfl ?_
    refine go_if_ne (pc' := 96) cx 101 dX6_when_93 rfl rfl (fun c93 => ?_) (fun c93 => ?_)
    · refine go_iload (pc' := 103) cx dX6_when_101 rfl rfl ?_
      refine go_iret cx rfl dX6_when_103 ?_
      have hJ : FrJ g (up2 G 100 v (g 100 v)) := by
        intro i k q
        by_cases h9 : i = 100 ∧ k = v
        · obtain ⟨rfl, rfl⟩ := h9
          exact up2_s _ _ _ _
        · rw [up2_n _ _ (by omega)]
          by_cases h8 : i = 100
          · subst h8
            exact hW k (fun e => h9 ⟨rfl, e⟩)
          · exact hF i k (by omega)
      have h9 := hZ _ z hJ (hS.fr (up2_rn _ _ _ (by omega)))
      first | (rw [if_pos c93] at h9; exact h9) | (rw [if_neg c93] at h9; exact h9)
    · refine go_iload (pc' := 98) cx dX6_when_96 rfl rfl ?_
      refine go_goto cx 103 dX6_when_98 rfl ?_
      refine go_iret cx rfl dX6_when_103 ?_
      have hJ : FrJ g (up2 G 100 v (g 100 v)) := by
        intro i k q
        by_cases h9 : i = 100 ∧ k = v
        · obtain ⟨rfl, rfl⟩ := h9
          exact up2_s _ _ _ _
        · rw [up2_n _ _ (by omega)]
          by_cases h8 : i = 100
          · subst h8
            exact hW k (fun e => h9 ⟨rfl, e⟩)
          · exact hF i k (by omega)
      have h9 := hZ _ z hJ (hS.fr (up2_rn _ _ _ (by omega)))
      first | (rw [if_pos c93] at h9; exact h9) | (rw [if_neg c93] at h9; exact h9)
  | succ k ih =>
    intro w G z hk hF hW hS hZ
    cases hq : mns (weE (TMx CS ru) (svM g) vn v) w with
    | none =>
      refine go_sub [0, 1, 2, 3, 4, 5, 6] [(6, .int (nI w)), (0, .ref (E.2.1 88)), (1, .int (nI v)), (2, .int x2), (3, .int (g 100 v)), (4, .int (-1)), (5, .int 0)] rfl ?_
      refine go_iload (pc' := 39) cx dX6_when_37 rfl rfl ?_
      refine go_bipush (pc' := 41) cx 20 dX6_when_39 rfl rfl ?_
      refine go_icmp_gt (pc' := 44) cx 85 dX6_when_41 rfl rfl (fun hh9 => absurd ((nI_ltI (a := 20) (b := w) (by omega) (by omega)).mp hh9) (by omega)) (fun _ => ?_)
      refine go_aload_n (pc' := 45) cx dX6_when_44 rfl rfl ?_
      refine go_getr (pc' := 48) cx 100 fX6_50 dX6_when_45 kq88 (ltn rfl) (ltn rfl) rfl rfl rfl ?_
      refine go_iload_n (pc' := 49) cx dX6_when_48 rfl rfl ?_
      refine go_iload (pc' := 51) cx dX6_when_49 rfl rfl ?_
      refine go_iastk (pc' := 52) cx v dX6_when_51 kq100 (ltn rfl) (vpi (k := v) (a := 8) (by omega) rfl rfl) (cli (k := v) (a := 8) (by omega) rfl) rfl ?_
      refine go_aload_n (pc' := 53) cx dX6_when_52 rfl rfl ?_
      obtain ⟨GI, hGI⟩ : ∃ y : IG, y = (up2 G 100 v (nI w)) := ⟨_, rfl⟩
      refine go_g hGI.symm ?_
      have aI : ∀ i q, ¬ (i = 100 ∧ q = v) → GI i q = G i q := fun i q h9 => by
        rw [hGI]
        exact up2_n _ _ (by omega)
      have hFI : FrW (92 + 8) g GI := by
        rw [hGI]
        exact hF.up (by omega)
      have hRI : Req (svM GI) (up2 (svM g) 8 v (nI w)) hn vn := reqW (j := 8) (Or.inr (Or.inl rfl)) hFI (fun i k9 q => up2_n _ _ (Or.inl q)) (fun k9 h9 => by
        show GI 100 k9 = _
        by_cases e : k9 = v
        · rw [e, hGI, up2_s, up2_s]
        · rw [aI 100 k9 (by omega), hW k9 e, up2_n _ _ (Or.inr e)]
          rfl)
      have hHI : HdS (svM GI) hn vn := by
        intro u hu
        obtain ⟨h, hh, e⟩ := hX.2.2.2.2.1 u hu
        exact ⟨h, hh, (hFI 99 u (by omega)).trans e⟩
      have hSI : SdI GI tc CS := hS.fr (funext fun q => aI 102 q (by omega))
      have hXI : XM GI hn vn ru tc CS := hX.fw (j := 8) (Or.inr (Or.inl rfl)) hFI hSI hHI
      have hE9 : BDs (TMx CS ru) (svM GI) vn = (weE (TMx CS ru) (svM g) vn v) w := hRI.bd hHI (by omega)
      refine go_cVIz (pc' := 56) cx (c_X6_courses l E (g := GI) hXI) mX6_courses lX6_421 dX6_when_53 kq88 (ltn rfl) (ltn rfl) rfl rfl rfl rfl (ltn rfl) (Nat.le_of_ble_eq_true rfl) (Nat.le_of_ble_eq_true rfl) rfl (fun xc GC zc hc => ?_)
      obtain ⟨ec, fc, -, -, sc⟩ := hc
      rw [hE9] at ec
      refine go_istore (pc' := 58) cx dX6_when_56 (ltn rfl) [(7, .int xc), (6, .int (nI w)), (0, .ref (E.2.1 88)), (1, .int (nI v)), (2, .int x2), (3, .int (g 100 v)), (4, .int (-1)), (5, .int 0)] rfl rfl ?_
      refine go_iload (pc' := 60) cx dX6_when_58 rfl rfl ?_
      refine go_iconst (pc' := 61) cx (-1) dX6_when_60 rfl rfl ?_
      refine go_icmp_eq (pc' := 64) cx 71 dX6_when_61 rfl rfl (fun _ => ?_) (fun hh9 => absurd rfl hh9)
      refine go_iload (pc' := 73) cx dX6_when_71 rfl rfl ?_
      refine go_istore (pc' := 75) cx dX6_when_73 (ltn rfl) [(4, .int (nI w)), (7, .int xc), (6, .int (nI w)), (0, .ref (E.2.1 88)), (1, .int (nI v)), (2, .int x2), (3, .int (g 100 v)), (5, .int 0)] rfl rfl ?_
      refine go_iload (pc' := 77) cx dX6_when_75 rfl rfl ?_
      refine go_istore (pc' := 79) cx dX6_when_77 (ltn rfl) [(5, .int xc), (4, .int (nI w)), (7, .int xc), (6, .int (nI w)), (0, .ref (E.2.1 88)), (1, .int (nI v)), (2, .int x2), (3, .int (g 100 v))] rfl rfl ?_
      refine go_iinc (pc' := 82) cx (nI (w + 1)) dX6_when_79 rfl (nI_1 w) (ltn rfl) [(6, .int (nI (w + 1))), (5, .int xc), (4, .int (nI w)), (7, .int xc), (0, .ref (E.2.1 88)), (1, .int (nI v)), (2, .int x2), (3, .int (g 100 v))] rfl rfl ?_
      refine go_goto cx 37 dX6_when_82 rfl ?_
      refine go_sub [0, 4, 5, 6, 7, 2, 1] [(6, .int (nI (w + 1))), (0, .ref (E.2.1 88)), (1, .int (nI v)), (2, .int x2), (3, .int (g 100 v)), (4, .int (nI w)), (5, .int xc)] rfl ?_
      have e9 : mns (weE (TMx CS ru) (svM g) vn v) (w + 1) = some w := mns_sn hq
      refine go_sub [0, 1, 2, 3, 4, 5, 6] [(6, .int (nI (w + 1))), (0, .ref (E.2.1 88)), (1, .int (nI v)), (2, .int x2), (3, .int (g 100 v)), (4, .int (oi (mns (weE (TMx CS ru) (svM g) vn v) (w + 1)))), (5, .int (ow (weE (TMx CS ru) (svM g) vn v) (mns (weE (TMx CS ru) (svM g) vn v) (w + 1))))] (by rw [e9]; rw [ec]; rfl) ?_
      exact ih (w + 1) GC zc (by omega) (hFI.tr fc.fw) (fun k9 q9 => (fc 100 k9 (by omega)).trans ((aI 100 k9 (by omega)).trans (hW k9 q9))) sc hZ
    | some b =>
      have hw := mns_lt hq
      refine go_sub [0, 1, 2, 3, 4, 5, 6] [(6, .int (nI w)), (0, .ref (E.2.1 88)), (1, .int (nI v)), (2, .int x2), (3, .int (g 100 v)), (4, .int (nI b)), (5, .int ((weE (TMx CS ru) (svM g) vn v) b))] rfl ?_
      refine go_iload (pc' := 39) cx dX6_when_37 rfl rfl ?_
      refine go_bipush (pc' := 41) cx 20 dX6_when_39 rfl rfl ?_
      refine go_icmp_gt (pc' := 44) cx 85 dX6_when_41 rfl rfl (fun hh9 => absurd ((nI_ltI (a := 20) (b := w) (by omega) (by omega)).mp hh9) (by omega)) (fun _ => ?_)
      refine go_aload_n (pc' := 45) cx dX6_when_44 rfl rfl ?_
      refine go_getr (pc' := 48) cx 100 fX6_50 dX6_when_45 kq88 (ltn rfl) (ltn rfl) rfl rfl rfl ?_
      refine go_iload_n (pc' := 49) cx dX6_when_48 rfl rfl ?_
      refine go_iload (pc' := 51) cx dX6_when_49 rfl rfl ?_
      refine go_iastk (pc' := 52) cx v dX6_when_51 kq100 (ltn rfl) (vpi (k := v) (a := 8) (by omega) rfl rfl) (cli (k := v) (a := 8) (by omega) rfl) rfl ?_
      refine go_aload_n (pc' := 53) cx dX6_when_52 rfl rfl ?_
      obtain ⟨GI, hGI⟩ : ∃ y : IG, y = (up2 G 100 v (nI w)) := ⟨_, rfl⟩
      refine go_g hGI.symm ?_
      have aI : ∀ i q, ¬ (i = 100 ∧ q = v) → GI i q = G i q := fun i q h9 => by
        rw [hGI]
        exact up2_n _ _ (by omega)
      have hFI : FrW (92 + 8) g GI := by
        rw [hGI]
        exact hF.up (by omega)
      have hRI : Req (svM GI) (up2 (svM g) 8 v (nI w)) hn vn := reqW (j := 8) (Or.inr (Or.inl rfl)) hFI (fun i k9 q => up2_n _ _ (Or.inl q)) (fun k9 h9 => by
        show GI 100 k9 = _
        by_cases e : k9 = v
        · rw [e, hGI, up2_s, up2_s]
        · rw [aI 100 k9 (by omega), hW k9 e, up2_n _ _ (Or.inr e)]
          rfl)
      have hHI : HdS (svM GI) hn vn := by
        intro u hu
        obtain ⟨h, hh, e⟩ := hX.2.2.2.2.1 u hu
        exact ⟨h, hh, (hFI 99 u (by omega)).trans e⟩
      have hSI : SdI GI tc CS := hS.fr (funext fun q => aI 102 q (by omega))
      have hXI : XM GI hn vn ru tc CS := hX.fw (j := 8) (Or.inr (Or.inl rfl)) hFI hSI hHI
      have hE9 : BDs (TMx CS ru) (svM GI) vn = (weE (TMx CS ru) (svM g) vn v) w := hRI.bd hHI (by omega)
      refine go_cVIz (pc' := 56) cx (c_X6_courses l E (g := GI) hXI) mX6_courses lX6_421 dX6_when_53 kq88 (ltn rfl) (ltn rfl) rfl rfl rfl rfl (ltn rfl) (Nat.le_of_ble_eq_true rfl) (Nat.le_of_ble_eq_true rfl) rfl (fun xc GC zc hc => ?_)
      obtain ⟨ec, fc, -, -, sc⟩ := hc
      rw [hE9] at ec
      refine go_istore (pc' := 58) cx dX6_when_56 (ltn rfl) [(7, .int xc), (6, .int (nI w)), (0, .ref (E.2.1 88)), (1, .int (nI v)), (2, .int x2), (3, .int (g 100 v)), (4, .int (nI b)), (5, .int ((weE (TMx CS ru) (svM g) vn v) b))] rfl rfl ?_
      refine go_iload (pc' := 60) cx dX6_when_58 rfl rfl ?_
      refine go_iconst (pc' := 61) cx (-1) dX6_when_60 rfl rfl ?_
      refine go_icmp_eq (pc' := 64) cx 71 dX6_when_61 rfl rfl (fun hh9 => absurd hh9 (nI_nm (by omega))) (fun _ => ?_)
      refine go_iload (pc' := 66) cx dX6_when_64 rfl rfl ?_
      refine go_iload (pc' := 68) cx dX6_when_66 rfl rfl ?_
      refine go_icmp_ge (pc' := 71) cx 79 dX6_when_68 rfl rfl (fun c68 => ?_) (fun c68 => ?_)
      · have c68n := Int32.not_lt.mpr c68
        refine go_iinc (pc' := 82) cx (nI (w + 1)) dX6_when_79 rfl (nI_1 w) (ltn rfl) [(6, .int (nI (w + 1))), (7, .int xc), (0, .ref (E.2.1 88)), (1, .int (nI v)), (2, .int x2), (3, .int (g 100 v)), (4, .int (nI b)), (5, .int ((weE (TMx CS ru) (svM g) vn v) b))] rfl rfl ?_
        refine go_goto cx 37 dX6_when_82 rfl ?_
        refine go_sub [0, 2, 3, 4, 5, 6, 7] [(6, .int (nI (w + 1))), (0, .ref (E.2.1 88)), (1, .int (nI v)), (2, .int x2), (3, .int (g 100 v)), (4, .int (nI b)), (5, .int ((weE (TMx CS ru) (svM g) vn v) b))] rfl ?_
        have e9 : mns (weE (TMx CS ru) (svM g) vn v) (w + 1) = some b := (mns_ss hq).trans (if_neg (by rw [← ec]; exact Int32.not_lt.mpr c68))
        refine go_sub [0, 1, 2, 3, 4, 5, 6] [(6, .int (nI (w + 1))), (0, .ref (E.2.1 88)), (1, .int (nI v)), (2, .int x2), (3, .int (g 100 v)), (4, .int (oi (mns (weE (TMx CS ru) (svM g) vn v) (w + 1)))), (5, .int (ow (weE (TMx CS ru) (svM g) vn v) (mns (weE (TMx CS ru) (svM g) vn v) (w + 1))))] (by rw [e9]; rfl) ?_
        exact ih (w + 1) GC zc (by omega) (hFI.tr fc.fw) (fun k9 q9 => (fc 100 k9 (by omega)).trans ((aI 100 k9 (by omega)).trans (hW k9 q9))) sc hZ
      · have c68n := Int32.not_le.mp c68
        refine go_iload (pc' := 73) cx dX6_when_71 rfl rfl ?_
        refine go_istore (pc' := 75) cx dX6_when_73 (ltn rfl) [(4, .int (nI w)), (7, .int xc), (6, .int (nI w)), (0, .ref (E.2.1 88)), (1, .int (nI v)), (2, .int x2), (3, .int (g 100 v)), (5, .int ((weE (TMx CS ru) (svM g) vn v) b))] rfl rfl ?_
        refine go_iload (pc' := 77) cx dX6_when_75 rfl rfl ?_
        refine go_istore (pc' := 79) cx dX6_when_77 (ltn rfl) [(5, .int xc), (4, .int (nI w)), (7, .int xc), (6, .int (nI w)), (0, .ref (E.2.1 88)), (1, .int (nI v)), (2, .int x2), (3, .int (g 100 v))] rfl rfl ?_
        refine go_iinc (pc' := 82) cx (nI (w + 1)) dX6_when_79 rfl (nI_1 w) (ltn rfl) [(6, .int (nI (w + 1))), (5, .int xc), (4, .int (nI w)), (7, .int xc), (0, .ref (E.2.1 88)), (1, .int (nI v)), (2, .int x2), (3, .int (g 100 v))] rfl rfl ?_
        refine go_goto cx 37 dX6_when_82 rfl ?_
        refine go_sub [0, 4, 5, 6, 7, 2, 1] [(6, .int (nI (w + 1))), (0, .ref (E.2.1 88)), (1, .int (nI v)), (2, .int x2), (3, .int (g 100 v)), (4, .int (nI w)), (5, .int xc)] rfl ?_
        have e9 : mns (weE (TMx CS ru) (svM g) vn v) (w + 1) = some w := (mns_ss hq).trans (if_pos (by rw [← ec]; exact Int32.not_le.mp c68))
        refine go_sub [0, 1, 2, 3, 4, 5, 6] [(6, .int (nI (w + 1))), (0, .ref (E.2.1 88)), (1, .int (nI v)), (2, .int x2), (3, .int (g 100 v)), (4, .int (oi (mns (weE (TMx CS ru) (svM g) vn v) (w + 1)))), (5, .int (ow (weE (TMx CS ru) (svM g) vn v) (mns (weE (TMx CS ru) (svM g) vn v) (w + 1))))] (by rw [e9]; rw [ec]; rfl) ?_
        exact ih (w + 1) GC zc (by omega) (hFI.tr fc.fw) (fun k9 q9 => (fc 100 k9 (by omega)).trans ((aI 100 k9 (by omega)).trans (hW k9 q9))) sc hZ

set_option maxHeartbeats 1000000 in
set_option maxRecDepth 20000 in
theorem c_X6_when (l : Launch) (E : Ev) {g : IG} {o : Option Nat} {z : Int64} {hn vn ru tc : Nat} {CS : CSt} (hX : XM g hn vn ru tc CS) (x1 x2 : Int32) : Ct l E 115 yX6_when cX6_when 8 (some .int) 49 [.ref (E.2.1 88), .int x1, .int x2] g (RFo o) z (ZIz (RFo o) (fun x g1 z1 => x = whenF (TMx CS ru) (svM g) vn x1 x2 ∧ FrJ g g1 ∧ SdI g1 tc CS)) := by
  refine Ct.of (lv0 := [(0, .ref (E.2.1 88)), (1, .int x1), (2, .int x2)]) (by decide) (Nat.le_of_ble_eq_true rfl) rfl ?_
  intro p e s m below meth c cx
  have hb := hX.1
  have hS0 := hX.2.2.2.2.2.2.2.2.2.2
  refine go_aload_n (pc' := 1) cx dX6_when_0 rfl rfl ?_
  refine go_iload_n (pc' := 2) cx dX6_when_1 rfl rfl ?_
  refine go_cVi (pc' := 5) cx (c_X6_isVisit l E (g := g) (vn := vn) hX.2.2.1 (by have := hX.1.2; omega) x1) mX6_isVisit lX6_125 dX6_when_2 kq88 (ltn rfl) (ltn rfl) rfl rfl rfl rfl (ltn rfl) (Nat.le_of_ble_eq_true rfl) (Nat.le_of_ble_eq_true rfl) rfl ?_
  refine go_if_eq (pc' := 8) cx 18 dX6_when_5 rfl rfl (fun c5 => ?_) (fun c5 => ?_)
  · refine go_bipush (pc' := 20) cx (-2) dX6_when_18 rfl rfl ?_
    refine go_iret cx rfl dX6_when_20 ?_
    exact ZIz.mk ⟨by
      unfold whenF
      rw [if_pos c5], FrJ.rf, hS0⟩
  · refine go_iload_n (pc' := 9) cx dX6_when_8 rfl rfl ?_
    refine go_i2l (pc' := 10) cx dX6_when_9 rfl ?_
    refine go_lconst (pc' := 11) cx 0 dX6_when_10 rfl rfl ?_
    refine go_val (w := .long (((0 : Int32)).toInt64)) (congrArg Value.long (by decide)) ?_
    refine go_lconst (pc' := 12) cx 1 dX6_when_11 rfl rfl ?_
    refine go_val (w := .long (((1 : Int32)).toInt64)) (congrArg Value.long (by decide)) ?_
    refine go_cSi (pc' := 15) cx (c_X6_in l E (g := g) x2 (0 : Int32) (1 : Int32)) mX6_in lX6_108 dX6_when_12 rfl rfl rfl (ltn rfl) (Nat.le_of_ble_eq_true rfl) (Nat.le_of_ble_eq_true rfl) rfl ?_
    refine go_if_ne (pc' := 18) cx 21 dX6_when_15 rfl rfl (fun c15 => ?_) (fun c15 => ?_)
    · obtain ⟨v, hv, ev⟩ := in_ok (k := vn) (by omega) c5
      subst ev
      have clv := clI_n (k := v) (by omega)
      refine go_aload_n (pc' := 22) cx dX6_when_21 rfl rfl ?_
      refine go_getr (pc' := 25) cx 100 fX6_50 dX6_when_22 kq88 (ltn rfl) (ltn rfl) rfl rfl rfl ?_
      refine go_iload_n (pc' := 26) cx dX6_when_25 rfl rfl ?_
      refine go_iald (pc' := 27) cx (g 100 v) dX6_when_26 kq100 (ltn rfl) (vpi (k := v) (a := 8) (by omega) rfl rfl) (congrArg (g 100) (cli (k := v) (a := 8) (by omega) rfl)) rfl ?_
      refine go_istore_n (pc' := 28) cx dX6_when_27 (ltn rfl) [(3, .int (g 100 v)), (0, .ref (E.2.1 88)), (1, .int (nI v)), (2, .int x2)] rfl rfl ?_
      refine go_iconst (pc' := 29) cx (-1) dX6_when_28 rfl rfl ?_
      refine go_istore (pc' := 31) cx dX6_when_29 (ltn rfl) [(4, .int (-1)), (3, .int (g 100 v)), (0, .ref (E.2.1 88)), (1, .int (nI v)), (2, .int x2)] rfl rfl ?_
      refine go_iconst (pc' := 32) cx 0 dX6_when_31 rfl rfl ?_
      refine go_istore (pc' := 34) cx dX6_when_32 (ltn rfl) [(5, .int 0), (4, .int (-1)), (3, .int (g 100 v)), (0, .ref (E.2.1 88)), (1, .int (nI v)), (2, .int x2)] rfl rfl ?_
      refine go_iconst (pc' := 35) cx 0 dX6_when_34 rfl rfl ?_
      refine go_istore (pc' := 37) cx dX6_when_35 (ltn rfl) [(6, .int 0), (5, .int 0), (4, .int (-1)), (3, .int (g 100 v)), (0, .ref (E.2.1 88)), (1, .int (nI v)), (2, .int x2)] rfl rfl ?_
      refine go_sub [0, 4, 5, 6, 3, 2, 1] [(6, .int 0), (0, .ref (E.2.1 88)), (1, .int (nI v)), (2, .int x2), (3, .int (g 100 v)), (4, .int (-1)), (5, .int 0)] rfl ?_
      refine when_loopM hX hv cx 21 0 g z (by omega) (fun i k q => rfl) (fun k q => rfl) hS0 (fun G9 z9 f9 s9 => ZIz.mk ⟨?_, f9, s9⟩)
      unfold whenF
      rw [if_neg c5, if_neg (show ¬ fosI x2 = 0 from by rw [← fos_in]; exact c15), clv, mns_nn]
    · refine go_bipush (pc' := 20) cx (-2) dX6_when_18 rfl rfl ?_
      refine go_iret cx rfl dX6_when_20 ?_
      exact ZIz.mk ⟨by
        unfold whenF
        rw [if_neg c5, if_pos (show fosI x2 = 0 from by rw [← fos_in]; exact c15)], FrJ.rf, hS0⟩
