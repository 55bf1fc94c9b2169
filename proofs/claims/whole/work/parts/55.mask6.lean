/-! THE REFERENCE: words that are said -/
def dcm : Nat → Nat → Nat
  | 0, _ => 0
  | n + 1, i => 10 * dcm n (i / 4) + i % 4
theorem wd_dcm : ∀ (n i : Nat), wdI (fun k => nI (dgt n i k)) n = nI (dcm n i)
  | 0, _ => rfl
  | n + 1, i => by
    show 10 * wdI (fun k => nI (dgt (n + 1) i k)) n + nI (dgt (n + 1) i n) = nI (10 * dcm n (i / 4) + i % 4)
    rw [wdI_c n (W' := fun k => nI (dgt n (i / 4) k)) (fun k hk => congrArg nI (dgt_up hk)), wd_dcm n (i / 4), dgt_last]
    exact (congrArg (· + nI (i % 4)) (pk_mul 10 (dcm n (i / 4)))).trans (nI_add _ _)
theorem odg_dc (n i : Nat) : odg n (some i) = nI (dcm n i) := wd_dcm n i
theorem dcm_lt : ∀ (n i : Nat), dcm n i < 10 ^ n
  | 0, _ => Nat.zero_lt_one
  | n + 1, i => by
    have := dcm_lt n (i / 4)
    show 10 * dcm n (i / 4) + i % 4 < 10 ^ (n + 1)
    rw [Nat.pow_succ]
    omega
theorem dcm_nm {n i : Nat} (h : n ≤ 4) : ¬ nI (dcm n i) = -1 := by
  have h1 : dcm n i < 10 ^ 4 := Nat.lt_of_lt_of_le (dcm_lt n i) (Nat.pow_le_pow_right (by decide) h)
  intro q
  exact absurd (show nI (dcm n i) < 0 by rw [q]; decide) (nI_pos (by omega))

set_option maxHeartbeats 1000000 in
set_option maxRecDepth 20000 in
theorem sayM_loop0 {l : Launch} {E : Ev} {Z : ZT} {o : Option Nat} {p : Program} {e : Env} {s : State} {m : MethodId} {args : Array Value} {below : List Frame} {meth : Method} {c : Code} {g : IG} {hn vn ru tc : Nat} {CS : CSt} (hX : XM g hn vn ru tc CS) {x2 : Int32} (cx : Cx p s m args meth c E 115 cX6_say 11 yX6_say.cls (some .int)) : ∀ (k i : Nat) (G : IG) (z : Int64), i + k = 1 → FrW (92 + 9) g G → KpS g G → (∀ k, 0 ≤ k → G 101 k = g 101 k) → SdI G tc CS → (∀ (G9 : IG) (z9 : Int64), FrJ g G9 → SdI G9 tc CS → Z (some (.int (if x2 = 0 then ow (sayE (TMx CS ru) (svM g) vn 0) (mns (sayE (TMx CS ru) (svM g) vn 0) 1) else odg 0 (mns (sayE (TMx CS ru) (svM g) vn 0) 1)))) G9 (RFo o) z9) → Go p l e (rmd 49) s m args below meth c E 115 11 Z G (RFo o) z 67 [(6, .int (nI i)), (0, .ref (E.2.1 88)), (1, .int 0), (2, .int x2), (3, .int 1), (4, .int (odg 0 (mns (sayE (TMx CS ru) (svM g) vn 0) i))), (5, .int (ow (sayE (TMx CS ru) (svM g) vn 0) (mns (sayE (TMx CS ru) (svM g) vn 0) i)))] [] := by
  intro k
  have hb := hX.1
  induction k with
  | zero =>
    intro i G z hk hF hK hW hS hZ
    have hi : i = 1 := by omega
    subst hi
    refine go_iload (pc' := 69) cx dX6_say_67 rfl rfl ?_
    refine go_iload_n (pc' := 70) cx dX6_say_69 rfl rfl ?_
    refine go_icmp_ge (pc' := 73) cx 171 dX6_say_70 rfl rfl (fun _ => ?_) (fun hh => absurd hh (by decide))
    refine go_aload_n (pc' := 172) cx dX6_say_171 rfl rfl ?_
    refine go_cVV (pc' := 175) cx (c_X6_laysBack l E (g := G)) mX6_laysBack lX6_429 dX6_say_172 kq88 (ltn rfl) (ltn rfl) rfl rfl rfl rfl (ltn rfl) (Nat.le_of_ble_eq_true rfl) (Nat.le_of_ble_eq_true rfl) rfl (fun GT hT => ?_)
    obtain ⟨t1, t2⟩ := hT
    refine go_iload_n (pc' := 176) cx dX6_say_175 rfl rfl ?_
    refine go_if_ne (pc' := 179) cx 184 dX6_say_176 rfl rfl (fun c176 => ?_) (fun c176 => ?_)
    · refine go_iload (pc' := 186) cx dX6_say_184 rfl rfl ?_
      refine go_iret cx rfl dX6_say_186 ?_
      have h9 := hZ GT z (hF.j (Or.inr rfl) hK t1 t2) (hS.fr (funext fun k => t1 102 k (by omega)))
      first | (rw [if_pos c176] at h9; exact h9) | (rw [if_neg c176] at h9; exact h9)
    · refine go_iload (pc' := 181) cx dX6_say_179 rfl rfl ?_
      refine go_goto cx 186 dX6_say_181 rfl ?_
      refine go_iret cx rfl dX6_say_186 ?_
      have h9 := hZ GT z (hF.j (Or.inr rfl) hK t1 t2) (hS.fr (funext fun k => t1 102 k (by omega)))
      first | (rw [if_pos c176] at h9; exact h9) | (rw [if_neg c176] at h9; exact h9)
  | succ k ih =>
    intro i G z hk hF hK hW hS hZ
    cases hq : mns (sayE (TMx CS ru) (svM g) vn 0) i with
    | none =>
      refine go_sub [0, 1, 2, 3, 4, 5, 6] [(6, .int (nI i)), (0, .ref (E.2.1 88)), (1, .int 0), (2, .int x2), (3, .int 1), (4, .int (-1)), (5, .int 0)] rfl ?_
      refine go_iload (pc' := 69) cx dX6_say_67 rfl rfl ?_
      refine go_iload_n (pc' := 70) cx dX6_say_69 rfl rfl ?_
      refine go_icmp_ge (pc' := 73) cx 171 dX6_say_70 rfl rfl (fun hh9 => absurd ((nI_leI (a := 1) (b := i) (by omega) (by omega)).mp hh9) (by omega)) (fun _ => ?_)
      refine go_iload (pc' := 75) cx dX6_say_73 rfl rfl ?_
      refine go_istore (pc' := 77) cx dX6_say_75 (ltn rfl) [(7, .int (nI i)), (6, .int (nI i)), (0, .ref (E.2.1 88)), (1, .int 0), (2, .int x2), (3, .int 1), (4, .int (-1)), (5, .int 0)] rfl rfl ?_
      refine go_iconst (pc' := 78) cx 0 dX6_say_77 rfl rfl ?_
      refine go_istore (pc' := 80) cx dX6_say_78 (ltn rfl) [(8, .int 0), (7, .int (nI i)), (6, .int (nI i)), (0, .ref (E.2.1 88)), (1, .int 0), (2, .int x2), (3, .int 1), (4, .int (-1)), (5, .int 0)] rfl rfl ?_
      refine go_iconst (pc' := 81) cx 1 dX6_say_80 rfl rfl ?_
      refine go_istore (pc' := 83) cx dX6_say_81 (ltn rfl) [(9, .int 1), (8, .int 0), (7, .int (nI i)), (6, .int (nI i)), (0, .ref (E.2.1 88)), (1, .int 0), (2, .int x2), (3, .int 1), (4, .int (-1)), (5, .int 0)] rfl rfl ?_
      refine go_iload_n (pc' := 84) cx dX6_say_83 rfl rfl ?_
      refine go_iconst (pc' := 85) cx 1 dX6_say_84 rfl rfl ?_
      refine go_isub (pc' := 86) cx dX6_say_85 rfl ?_
      refine go_val (w := .int (-1)) (congrArg Value.int (by decide)) ?_
      refine go_istore (pc' := 88) cx dX6_say_86 (ltn rfl) [(10, .int (-1)), (9, .int 1), (8, .int 0), (7, .int (nI i)), (6, .int (nI i)), (0, .ref (E.2.1 88)), (1, .int 0), (2, .int x2), (3, .int 1), (4, .int (-1)), (5, .int 0)] rfl rfl ?_
      refine go_iload (pc' := 90) cx dX6_say_88 rfl rfl ?_
      refine go_if_lt (pc' := 93) cx 138 dX6_say_90 rfl rfl (fun _ => ?_) (fun hh => absurd (by decide) hh)
      refine go_aload_n (pc' := 139) cx dX6_say_138 rfl rfl ?_
      obtain ⟨GI, hGI⟩ : ∃ y : IG, y = G := ⟨_, rfl⟩
      refine go_g hGI.symm ?_
      have aI : ∀ i9 q, ¬ (i9 = 101 ∧ q < 0) → GI i9 q = G i9 q := fun i9 q h9 => by
        rw [hGI]
      have hFI : FrW (92 + 9) g GI := by
        rw [hGI]
        exact hF
      have hRI : Req (svM GI) (sayS (svM g) 0 i) hn vn := reqW (j := 9) (Or.inr (Or.inr rfl)) hFI (fun i9 k9 q => if_neg (fun q9 => q q9.1)) (fun k9 h9 => by
        show GI 101 k9 = _
        by_cases e : k9 < 0
        · rw [show sayS (svM g) 0 i 9 k9 = nI (dgt 0 i k9) from if_pos ⟨rfl, e⟩]
          exact absurd e (Nat.not_lt_zero k9)
        · rw [show sayS (svM g) 0 i 9 k9 = svM g 9 k9 from if_neg (fun q9 => e q9.2), aI 101 k9 (by omega)]
          exact hW k9 (by omega))
      have hHI : HdS (svM GI) hn vn := by
        intro u hu
        obtain ⟨h, hh, e⟩ := hX.2.2.2.2.1 u hu
        exact ⟨h, hh, (hFI 99 u (by omega)).trans e⟩
      have hSI : SdI GI tc CS := hS.fr (funext fun q => aI 102 q (by omega))
      have hXI : XM GI hn vn ru tc CS := hX.fw (j := 9) (Or.inr (Or.inr rfl)) hFI hSI hHI
      have hE9 : BDs (TMx CS ru) (svM GI) vn = (sayE (TMx CS ru) (svM g) vn 0) i := hRI.bd hHI (by omega)
      refine go_cVIz (pc' := 142) cx (c_X6_courses l E (g := GI) hXI) mX6_courses lX6_421 dX6_say_139 kq88 (ltn rfl) (ltn rfl) rfl rfl rfl rfl (ltn rfl) (Nat.le_of_ble_eq_true rfl) (Nat.le_of_ble_eq_true rfl) rfl (fun xc GC zc hc => ?_)
      obtain ⟨ec, fc, -, -, sc⟩ := hc
      rw [hE9] at ec
      refine go_istore (pc' := 144) cx dX6_say_142 (ltn rfl) [(10, .int xc), (9, .int 1), (8, .int 0), (7, .int (nI i)), (6, .int (nI i)), (0, .ref (E.2.1 88)), (1, .int 0), (2, .int x2), (3, .int 1), (4, .int (-1)), (5, .int 0)] rfl rfl ?_
      refine go_iload (pc' := 146) cx dX6_say_144 rfl rfl ?_
      refine go_iconst (pc' := 147) cx (-1) dX6_say_146 rfl rfl ?_
      refine go_icmp_eq (pc' := 150) cx 157 dX6_say_147 rfl rfl (fun _ => ?_) (fun hh9 => absurd rfl hh9)
      refine go_iload (pc' := 159) cx dX6_say_157 rfl rfl ?_
      refine go_istore (pc' := 161) cx dX6_say_159 (ltn rfl) [(4, .int 0), (10, .int xc), (9, .int 1), (8, .int 0), (7, .int (nI i)), (6, .int (nI i)), (0, .ref (E.2.1 88)), (1, .int 0), (2, .int x2), (3, .int 1), (5, .int 0)] rfl rfl ?_
      refine go_iload (pc' := 163) cx dX6_say_161 rfl rfl ?_
      refine go_istore (pc' := 165) cx dX6_say_163 (ltn rfl) [(5, .int xc), (4, .int 0), (10, .int xc), (9, .int 1), (8, .int 0), (7, .int (nI i)), (6, .int (nI i)), (0, .ref (E.2.1 88)), (1, .int 0), (2, .int x2), (3, .int 1)] rfl rfl ?_
      refine go_iinc (pc' := 168) cx (nI (i + 1)) dX6_say_165 rfl (nI_1 i) (ltn rfl) [(6, .int (nI (i + 1))), (5, .int xc), (4, .int 0), (10, .int xc), (9, .int 1), (8, .int 0), (7, .int (nI i)), (0, .ref (E.2.1 88)), (1, .int 0), (2, .int x2), (3, .int 1)] rfl rfl ?_
      refine go_goto cx 67 dX6_say_168 rfl ?_
      refine go_sub [0, 7, 8, 9, 10, 2, 1] [(6, .int (nI (i + 1))), (0, .ref (E.2.1 88)), (1, .int 0), (2, .int x2), (3, .int 1), (4, .int 0), (5, .int xc)] rfl ?_
      have e9 : mns (sayE (TMx CS ru) (svM g) vn 0) (i + 1) = some i := mns_sn hq
      have e8 : 0 = nI (dcm 0 i) := rfl
      refine go_sub [0, 1, 2, 3, 4, 5, 6] [(6, .int (nI (i + 1))), (0, .ref (E.2.1 88)), (1, .int 0), (2, .int x2), (3, .int 1), (4, .int (odg 0 (mns (sayE (TMx CS ru) (svM g) vn 0) (i + 1)))), (5, .int (ow (sayE (TMx CS ru) (svM g) vn 0) (mns (sayE (TMx CS ru) (svM g) vn 0) (i + 1))))] (by rw [e9, odg_dc, ec]; rfl) ?_
      exact ih (i + 1) GC zc (by omega) (hFI.tr fc.fw) ((hK.fr (funext fun q => aI 106 q (by omega)) (funext fun q => aI 107 q (by omega))).fr (fc.c (by omega) (by omega)) (fc.c (by omega) (by omega))) (fun k9 q9 => (fc 101 k9 (by omega)).trans ((aI 101 k9 (by omega)).trans (hW k9 q9))) sc hZ
    | some b =>
      refine go_sub [0, 1, 2, 3, 4, 5, 6] [(6, .int (nI i)), (0, .ref (E.2.1 88)), (1, .int 0), (2, .int x2), (3, .int 1), (4, .int (nI (dcm 0 b))), (5, .int ((sayE (TMx CS ru) (svM g) vn 0) b))] (by rw [odg_dc]; rfl) ?_
      refine go_iload (pc' := 69) cx dX6_say_67 rfl rfl ?_
      refine go_iload_n (pc' := 70) cx dX6_say_69 rfl rfl ?_
      refine go_icmp_ge (pc' := 73) cx 171 dX6_say_70 rfl rfl (fun hh9 => absurd ((nI_leI (a := 1) (b := i) (by omega) (by omega)).mp hh9) (by omega)) (fun _ => ?_)
      refine go_iload (pc' := 75) cx dX6_say_73 rfl rfl ?_
      refine go_istore (pc' := 77) cx dX6_say_75 (ltn rfl) [(7, .int (nI i)), (6, .int (nI i)), (0, .ref (E.2.1 88)), (1, .int 0), (2, .int x2), (3, .int 1), (4, .int (nI (dcm 0 b))), (5, .int ((sayE (TMx CS ru) (svM g) vn 0) b))] rfl rfl ?_
      refine go_iconst (pc' := 78) cx 0 dX6_say_77 rfl rfl ?_
      refine go_istore (pc' := 80) cx dX6_say_78 (ltn rfl) [(8, .int 0), (7, .int (nI i)), (6, .int (nI i)), (0, .ref (E.2.1 88)), (1, .int 0), (2, .int x2), (3, .int 1), (4, .int (nI (dcm 0 b))), (5, .int ((sayE (TMx CS ru) (svM g) vn 0) b))] rfl rfl ?_
      refine go_iconst (pc' := 81) cx 1 dX6_say_80 rfl rfl ?_
      refine go_istore (pc' := 83) cx dX6_say_81 (ltn rfl) [(9, .int 1), (8, .int 0), (7, .int (nI i)), (6, .int (nI i)), (0, .ref (E.2.1 88)), (1, .int 0), (2, .int x2), (3, .int 1), (4, .int (nI (dcm 0 b))), (5, .int ((sayE (TMx CS ru) (svM g) vn 0) b))] rfl rfl ?_
      refine go_iload_n (pc' := 84) cx dX6_say_83 rfl rfl ?_
      refine go_iconst (pc' := 85) cx 1 dX6_say_84 rfl rfl ?_
      refine go_isub (pc' := 86) cx dX6_say_85 rfl ?_
      refine go_val (w := .int (-1)) (congrArg Value.int (by decide)) ?_
      refine go_istore (pc' := 88) cx dX6_say_86 (ltn rfl) [(10, .int (-1)), (9, .int 1), (8, .int 0), (7, .int (nI i)), (6, .int (nI i)), (0, .ref (E.2.1 88)), (1, .int 0), (2, .int x2), (3, .int 1), (4, .int (nI (dcm 0 b))), (5, .int ((sayE (TMx CS ru) (svM g) vn 0) b))] rfl rfl ?_
      refine go_iload (pc' := 90) cx dX6_say_88 rfl rfl ?_
      refine go_if_lt (pc' := 93) cx 138 dX6_say_90 rfl rfl (fun _ => ?_) (fun hh => absurd (by decide) hh)
      refine go_aload_n (pc' := 139) cx dX6_say_138 rfl rfl ?_
      obtain ⟨GI, hGI⟩ : ∃ y : IG, y = G := ⟨_, rfl⟩
      refine go_g hGI.symm ?_
      have aI : ∀ i9 q, ¬ (i9 = 101 ∧ q < 0) → GI i9 q = G i9 q := fun i9 q h9 => by
        rw [hGI]
      have hFI : FrW (92 + 9) g GI := by
        rw [hGI]
        exact hF
      have hRI : Req (svM GI) (sayS (svM g) 0 i) hn vn := reqW (j := 9) (Or.inr (Or.inr rfl)) hFI (fun i9 k9 q => if_neg (fun q9 => q q9.1)) (fun k9 h9 => by
        show GI 101 k9 = _
        by_cases e : k9 < 0
        · rw [show sayS (svM g) 0 i 9 k9 = nI (dgt 0 i k9) from if_pos ⟨rfl, e⟩]
          exact absurd e (Nat.not_lt_zero k9)
        · rw [show sayS (svM g) 0 i 9 k9 = svM g 9 k9 from if_neg (fun q9 => e q9.2), aI 101 k9 (by omega)]
          exact hW k9 (by omega))
      have hHI : HdS (svM GI) hn vn := by
        intro u hu
        obtain ⟨h, hh, e⟩ := hX.2.2.2.2.1 u hu
        exact ⟨h, hh, (hFI 99 u (by omega)).trans e⟩
      have hSI : SdI GI tc CS := hS.fr (funext fun q => aI 102 q (by omega))
      have hXI : XM GI hn vn ru tc CS := hX.fw (j := 9) (Or.inr (Or.inr rfl)) hFI hSI hHI
      have hE9 : BDs (TMx CS ru) (svM GI) vn = (sayE (TMx CS ru) (svM g) vn 0) i := hRI.bd hHI (by omega)
      refine go_cVIz (pc' := 142) cx (c_X6_courses l E (g := GI) hXI) mX6_courses lX6_421 dX6_say_139 kq88 (ltn rfl) (ltn rfl) rfl rfl rfl rfl (ltn rfl) (Nat.le_of_ble_eq_true rfl) (Nat.le_of_ble_eq_true rfl) rfl (fun xc GC zc hc => ?_)
      obtain ⟨ec, fc, -, -, sc⟩ := hc
      rw [hE9] at ec
      refine go_istore (pc' := 144) cx dX6_say_142 (ltn rfl) [(10, .int xc), (9, .int 1), (8, .int 0), (7, .int (nI i)), (6, .int (nI i)), (0, .ref (E.2.1 88)), (1, .int 0), (2, .int x2), (3, .int 1), (4, .int (nI (dcm 0 b))), (5, .int ((sayE (TMx CS ru) (svM g) vn 0) b))] rfl rfl ?_
      refine go_iload (pc' := 146) cx dX6_say_144 rfl rfl ?_
      refine go_iconst (pc' := 147) cx (-1) dX6_say_146 rfl rfl ?_
      refine go_icmp_eq (pc' := 150) cx 157 dX6_say_147 rfl rfl (fun hh9 => absurd hh9 (dcm_nm (by omega))) (fun _ => ?_)
      refine go_iload (pc' := 152) cx dX6_say_150 rfl rfl ?_
      refine go_iload (pc' := 154) cx dX6_say_152 rfl rfl ?_
      refine go_icmp_ge (pc' := 157) cx 165 dX6_say_154 rfl rfl (fun c154 => ?_) (fun c154 => ?_)
      · have c154n := Int32.not_lt.mpr c154
        refine go_iinc (pc' := 168) cx (nI (i + 1)) dX6_say_165 rfl (nI_1 i) (ltn rfl) [(6, .int (nI (i + 1))), (10, .int xc), (9, .int 1), (8, .int 0), (7, .int (nI i)), (0, .ref (E.2.1 88)), (1, .int 0), (2, .int x2), (3, .int 1), (4, .int (nI (dcm 0 b))), (5, .int ((sayE (TMx CS ru) (svM g) vn 0) b))] rfl rfl ?_
        refine go_goto cx 67 dX6_say_168 rfl ?_
        refine go_sub [0, 5, 6, 7, 8, 9, 10] [(6, .int (nI (i + 1))), (0, .ref (E.2.1 88)), (1, .int 0), (2, .int x2), (3, .int 1), (4, .int (nI (dcm 0 b))), (5, .int ((sayE (TMx CS ru) (svM g) vn 0) b))] rfl ?_
        have e9 : mns (sayE (TMx CS ru) (svM g) vn 0) (i + 1) = some b := (mns_ss hq).trans (if_neg (by rw [← ec]; exact Int32.not_lt.mpr c154))
        refine go_sub [0, 1, 2, 3, 4, 5, 6] [(6, .int (nI (i + 1))), (0, .ref (E.2.1 88)), (1, .int 0), (2, .int x2), (3, .int 1), (4, .int (odg 0 (mns (sayE (TMx CS ru) (svM g) vn 0) (i + 1)))), (5, .int (ow (sayE (TMx CS ru) (svM g) vn 0) (mns (sayE (TMx CS ru) (svM g) vn 0) (i + 1))))] (by rw [e9, odg_dc]; rfl) ?_
        exact ih (i + 1) GC zc (by omega) (hFI.tr fc.fw) ((hK.fr (funext fun q => aI 106 q (by omega)) (funext fun q => aI 107 q (by omega))).fr (fc.c (by omega) (by omega)) (fc.c (by omega) (by omega))) (fun k9 q9 => (fc 101 k9 (by omega)).trans ((aI 101 k9 (by omega)).trans (hW k9 q9))) sc hZ
      · have c154n := Int32.not_le.mp c154
        refine go_iload (pc' := 159) cx dX6_say_157 rfl rfl ?_
        refine go_istore (pc' := 161) cx dX6_say_159 (ltn rfl) [(4, .int 0), (10, .int xc), (9, .int 1), (8, .int 0), (7, .int (nI i)), (6, .int (nI i)), (0, .ref (E.2.1 88)), (1, .int 0), (2, .int x2), (3, .int 1), (5, .int ((sayE (TMx CS ru) (svM g) vn 0) b))] rfl rfl ?_
        refine go_iload (pc' := 163) cx dX6_say_161 rfl rfl ?_
        refine go_istore (pc' := 165) cx dX6_say_163 (ltn rfl) [(5, .int xc), (4, .int 0), (10, .int xc), (9, .int 1), (8, .int 0), (7, .int (nI i)), (6, .int (nI i)), (0, .ref (E.2.1 88)), (1, .int 0), (2, .int x2), (3, .int 1)] rfl rfl ?_
        refine go_iinc (pc' := 168) cx (nI (i + 1)) dX6_say_165 rfl (nI_1 i) (ltn rfl) [(6, .int (nI (i + 1))), (5, .int xc), (4, .int 0), (10, .int xc), (9, .int 1), (8, .int 0), (7, .int (nI i)), (0, .ref (E.2.1 88)), (1, .int 0), (2, .int x2), (3, .int 1)] rfl rfl ?_
        refine go_goto cx 67 dX6_say_168 rfl ?_
        refine go_sub [0, 7, 8, 9, 10, 2, 1] [(6, .int (nI (i + 1))), (0, .ref (E.2.1 88)), (1, .int 0), (2, .int x2), (3, .int 1), (4, .int 0), (5, .int xc)] rfl ?_
        have e9 : mns (sayE (TMx CS ru) (svM g) vn 0) (i + 1) = some i := (mns_ss hq).trans (if_pos (by rw [← ec]; exact Int32.not_le.mp c154))
        have e8 : 0 = nI (dcm 0 i) := rfl
        refine go_sub [0, 1, 2, 3, 4, 5, 6] [(6, .int (nI (i + 1))), (0, .ref (E.2.1 88)), (1, .int 0), (2, .int x2), (3, .int 1), (4, .int (odg 0 (mns (sayE (TMx CS ru) (svM g) vn 0) (i + 1)))), (5, .int (ow (sayE (TMx CS ru) (svM g) vn 0) (mns (sayE (TMx CS ru) (svM g) vn 0) (i + 1))))] (by rw [e9, odg_dc, ec]; rfl) ?_
        exact ih (i + 1) GC zc (by omega) (hFI.tr fc.fw) ((hK.fr (funext fun q => aI 106 q (by omega)) (funext fun q => aI 107 q (by omega))).fr (fc.c (by omega) (by omega)) (fc.c (by omega) (by omega))) (fun k9 q9 => (fc 101 k9 (by omega)).trans ((aI 101 k9 (by omega)).trans (hW k9 q9))) sc hZ

set_option maxHeartbeats 1000000 in
set_option maxRecDepth 20000 in
theorem sayM_loop1 {l : Launch} {E : Ev} {Z : ZT} {o : Option Nat} {p : Program} {e : Env} {s : State} {m : MethodId} {args : Array Value} {below : List Frame} {meth : Method} {c : Code} {g : IG} {hn vn ru tc : Nat} {CS : CSt} (hX : XM g hn vn ru tc CS) {x2 : Int32} (cx : Cx p s m args meth c E 115 cX6_say 11 yX6_say.cls (some .int)) : ∀ (k i : Nat) (G : IG) (z : Int64), i + k = 4 → FrW (92 + 9) g G → KpS g G → (∀ k, 1 ≤ k → G 101 k = g 101 k) → SdI G tc CS → (∀ (G9 : IG) (z9 : Int64), FrJ g G9 → SdI G9 tc CS → Z (some (.int (if x2 = 0 then ow (sayE (TMx CS ru) (svM g) vn 1) (mns (sayE (TMx CS ru) (svM g) vn 1) 4) else odg 1 (mns (sayE (TMx CS ru) (svM g) vn 1) 4)))) G9 (RFo o) z9) → Go p l e (rmd 49) s m args below meth c E 115 11 Z G (RFo o) z 67 [(6, .int (nI i)), (0, .ref (E.2.1 88)), (1, .int 1), (2, .int x2), (3, .int 4), (4, .int (odg 1 (mns (sayE (TMx CS ru) (svM g) vn 1) i))), (5, .int (ow (sayE (TMx CS ru) (svM g) vn 1) (mns (sayE (TMx CS ru) (svM g) vn 1) i)))] [] := by
  intro k
  have hb := hX.1
  induction k with
  | zero =>
    intro i G z hk hF hK hW hS hZ
    have hi : i = 4 := by omega
    subst hi
    refine go_iload (pc' := 69) cx dX6_say_67 rfl rfl ?_
    refine go_iload_n (pc' := 70) cx dX6_say_69 rfl rfl ?_
    refine go_icmp_ge (pc' := 73) cx 171 dX6_say_70 rfl rfl (fun _ => ?_) (fun hh => absurd hh (by decide))
    refine go_aload_n (pc' := 172) cx dX6_say_171 rfl rfl ?_
    refine go_cVV (pc' := 175) cx (c_X6_laysBack l E (g := G)) mX6_laysBack lX6_429 dX6_say_172 kq88 (ltn rfl) (ltn rfl) rfl rfl rfl rfl (ltn rfl) (Nat.le_of_ble_eq_true rfl) (Nat.le_of_ble_eq_true rfl) rfl (fun GT hT => ?_)
    obtain ⟨t1, t2⟩ := hT
    refine go_iload_n (pc' := 176) cx dX6_say_175 rfl rfl ?_
    refine go_if_ne (pc' := 179) cx 184 dX6_say_176 rfl rfl (fun c176 => ?_) (fun c176 => ?_)
    · refine go_iload (pc' := 186) cx dX6_say_184 rfl rfl ?_
      refine go_iret cx rfl dX6_say_186 ?_
      have h9 := hZ GT z (hF.j (Or.inr rfl) hK t1 t2) (hS.fr (funext fun k => t1 102 k (by omega)))
      first | (rw [if_pos c176] at h9; exact h9) | (rw [if_neg c176] at h9; exact h9)
    · refine go_iload (pc' := 181) cx dX6_say_179 rfl rfl ?_
      refine go_goto cx 186 dX6_say_181 rfl ?_
      refine go_iret cx rfl dX6_say_186 ?_
      have h9 := hZ GT z (hF.j (Or.inr rfl) hK t1 t2) (hS.fr (funext fun k => t1 102 k (by omega)))
      first | (rw [if_pos c176] at h9; exact h9) | (rw [if_neg c176] at h9; exact h9)
  | succ k ih =>
    intro i G z hk hF hK hW hS hZ
    cases hq : mns (sayE (TMx CS ru) (svM g) vn 1) i with
    | none =>
      refine go_sub [0, 1, 2, 3, 4, 5, 6] [(6, .int (nI i)), (0, .ref (E.2.1 88)), (1, .int 1), (2, .int x2), (3, .int 4), (4, .int (-1)), (5, .int 0)] rfl ?_
      refine go_iload (pc' := 69) cx dX6_say_67 rfl rfl ?_
      refine go_iload_n (pc' := 70) cx dX6_say_69 rfl rfl ?_
      refine go_icmp_ge (pc' := 73) cx 171 dX6_say_70 rfl rfl (fun hh9 => absurd ((nI_leI (a := 4) (b := i) (by omega) (by omega)).mp hh9) (by omega)) (fun _ => ?_)
      refine go_iload (pc' := 75) cx dX6_say_73 rfl rfl ?_
      refine go_istore (pc' := 77) cx dX6_say_75 (ltn rfl) [(7, .int (nI i)), (6, .int (nI i)), (0, .ref (E.2.1 88)), (1, .int 1), (2, .int x2), (3, .int 4), (4, .int (-1)), (5, .int 0)] rfl rfl ?_
      refine go_iconst (pc' := 78) cx 0 dX6_say_77 rfl rfl ?_
      refine go_istore (pc' := 80) cx dX6_say_78 (ltn rfl) [(8, .int 0), (7, .int (nI i)), (6, .int (nI i)), (0, .ref (E.2.1 88)), (1, .int 1), (2, .int x2), (3, .int 4), (4, .int (-1)), (5, .int 0)] rfl rfl ?_
      refine go_iconst (pc' := 81) cx 1 dX6_say_80 rfl rfl ?_
      refine go_istore (pc' := 83) cx dX6_say_81 (ltn rfl) [(9, .int 1), (8, .int 0), (7, .int (nI i)), (6, .int (nI i)), (0, .ref (E.2.1 88)), (1, .int 1), (2, .int x2), (3, .int 4), (4, .int (-1)), (5, .int 0)] rfl rfl ?_
      refine go_iload_n (pc' := 84) cx dX6_say_83 rfl rfl ?_
      refine go_iconst (pc' := 85) cx 1 dX6_say_84 rfl rfl ?_
      refine go_isub (pc' := 86) cx dX6_say_85 rfl ?_
      refine go_val (w := .int 0) (congrArg Value.int (by decide)) ?_
      refine go_istore (pc' := 88) cx dX6_say_86 (ltn rfl) [(10, .int 0), (9, .int 1), (8, .int 0), (7, .int (nI i)), (6, .int (nI i)), (0, .ref (E.2.1 88)), (1, .int 1), (2, .int x2), (3, .int 4), (4, .int (-1)), (5, .int 0)] rfl rfl ?_
      refine go_iload (pc' := 90) cx dX6_say_88 rfl rfl ?_
      refine go_if_lt (pc' := 93) cx 138 dX6_say_90 rfl rfl (fun hh => absurd hh (by decide)) (fun _ => ?_)
      refine go_aload_n (pc' := 94) cx dX6_say_93 rfl rfl ?_
      refine go_getr (pc' := 97) cx 101 fX6_53 dX6_say_94 kq88 (ltn rfl) (ltn rfl) rfl rfl rfl ?_
      refine go_iload (pc' := 99) cx dX6_say_97 rfl rfl ?_
      refine go_iload (pc' := 101) cx dX6_say_99 rfl rfl ?_
      refine go_iconst (pc' := 102) cx 4 dX6_say_101 rfl rfl ?_
      refine go_irem (pc' := 103) cx (by decide) dX6_say_102 rfl ?_
      refine go_val (w := .int (nI (i % 4))) (congrArg Value.int (pk_rem (a := i) (d := 4) (by omega) (by decide) (by decide))) ?_
      refine go_iastk (pc' := 104) cx 0 dX6_say_103 kq101 (ltn rfl) (vpi (k := 0) (a := 1) (ltn rfl) rfl rfl) (cli (k := 0) (a := 1) (ltn rfl) rfl) rfl ?_
      refine go_iload (pc' := 106) cx dX6_say_104 rfl rfl ?_
      refine go_iconst (pc' := 107) cx 4 dX6_say_106 rfl rfl ?_
      refine go_idiv (pc' := 108) cx (by decide) dX6_say_107 rfl ?_
      refine go_val (w := .int (nI (i / 4))) (congrArg Value.int (pk_div (a := i) (d := 4) (by omega) (by decide) (by decide))) ?_
      refine go_istore (pc' := 110) cx dX6_say_108 (ltn rfl) [(7, .int (nI (i / 4))), (10, .int 0), (9, .int 1), (8, .int 0), (6, .int (nI i)), (0, .ref (E.2.1 88)), (1, .int 1), (2, .int x2), (3, .int 4), (4, .int (-1)), (5, .int 0)] rfl rfl ?_
      refine go_iload (pc' := 112) cx dX6_say_110 rfl rfl ?_
      refine go_iload (pc' := 114) cx dX6_say_112 rfl rfl ?_
      refine go_aload_n (pc' := 115) cx dX6_say_114 rfl rfl ?_
      refine go_getr (pc' := 118) cx 101 fX6_53 dX6_say_115 kq88 (ltn rfl) (ltn rfl) rfl rfl rfl ?_
      refine go_iload (pc' := 120) cx dX6_say_118 rfl rfl ?_
      refine go_iald (pc' := 121) cx (nI (i % 4)) dX6_say_120 kq101 (ltn rfl) (vpi (k := 0) (a := 1) (ltn rfl) rfl rfl) ((congrArg ((up2 G 101 0 (nI (i % 4))) 101) (cli (k := 0) (a := 1) (ltn rfl) rfl)).trans (up2_s G 101 0 (nI (i % 4)))) rfl ?_
      refine go_imul (pc' := 122) cx dX6_say_121 rfl ?_
      refine go_val (w := .int (nI (1 * (i % 4)))) (congrArg Value.int (pk_mul 1 (i % 4))) ?_
      refine go_iadd (pc' := 123) cx dX6_say_122 rfl ?_
      refine go_val (w := .int (nI (0 + (1 * (i % 4))))) (congrArg Value.int (nI_add 0 (1 * (i % 4)))) ?_
      refine go_istore (pc' := 125) cx dX6_say_123 (ltn rfl) [(8, .int (nI (0 + (1 * (i % 4))))), (7, .int (nI (i / 4))), (10, .int 0), (9, .int 1), (6, .int (nI i)), (0, .ref (E.2.1 88)), (1, .int 1), (2, .int x2), (3, .int 4), (4, .int (-1)), (5, .int 0)] rfl rfl ?_
      refine go_iload (pc' := 127) cx dX6_say_125 rfl rfl ?_
      refine go_bipush (pc' := 129) cx 10 dX6_say_127 rfl rfl ?_
      refine go_imul (pc' := 130) cx dX6_say_129 rfl ?_
      refine go_val (w := .int 10) (congrArg Value.int (by decide)) ?_
      refine go_istore (pc' := 132) cx dX6_say_130 (ltn rfl) [(9, .int 10), (8, .int (nI (0 + (1 * (i % 4))))), (7, .int (nI (i / 4))), (10, .int 0), (6, .int (nI i)), (0, .ref (E.2.1 88)), (1, .int 1), (2, .int x2), (3, .int 4), (4, .int (-1)), (5, .int 0)] rfl rfl ?_
      refine go_iinc (pc' := 135) cx (-1) dX6_say_132 rfl (by decide) (ltn rfl) [(10, .int (-1)), (9, .int 10), (8, .int (nI (0 + (1 * (i % 4))))), (7, .int (nI (i / 4))), (6, .int (nI i)), (0, .ref (E.2.1 88)), (1, .int 1), (2, .int x2), (3, .int 4), (4, .int (-1)), (5, .int 0)] rfl rfl ?_
      refine go_goto cx 88 dX6_say_135 rfl ?_
      refine go_iload (pc' := 90) cx dX6_say_88 rfl rfl ?_
      refine go_if_lt (pc' := 93) cx 138 dX6_say_90 rfl rfl (fun _ => ?_) (fun hh => absurd (by decide) hh)
      refine go_aload_n (pc' := 139) cx dX6_say_138 rfl rfl ?_
      obtain ⟨GI, hGI⟩ : ∃ y : IG, y = (up2 G 101 0 (nI (i % 4))) := ⟨_, rfl⟩
      refine go_g hGI.symm ?_
      have aI : ∀ i9 q, ¬ (i9 = 101 ∧ q < 1) → GI i9 q = G i9 q := fun i9 q h9 => by
        rw [hGI, up2_n _ _ (by omega)]
      have hFI : FrW (92 + 9) g GI := by
        rw [hGI]
        exact (hF.up (by omega))
      have hRI : Req (svM GI) (sayS (svM g) 1 i) hn vn := reqW (j := 9) (Or.inr (Or.inr rfl)) hFI (fun i9 k9 q => if_neg (fun q9 => q q9.1)) (fun k9 h9 => by
        show GI 101 k9 = _
        by_cases e : k9 < 1
        · rw [show sayS (svM g) 1 i 9 k9 = nI (dgt 1 i k9) from if_pos ⟨rfl, e⟩]
          rcases (show k9 = 0 by omega) with rfl
          · rw [hGI, up2_s]
            refine congrArg nI ?_
            show i % 4 = i / 4 ^ 0 % 4
            omega
        · rw [show sayS (svM g) 1 i 9 k9 = svM g 9 k9 from if_neg (fun q9 => e q9.2), aI 101 k9 (by omega)]
          exact hW k9 (by omega))
      have hHI : HdS (svM GI) hn vn := by
        intro u hu
        obtain ⟨h, hh, e⟩ := hX.2.2.2.2.1 u hu
        exact ⟨h, hh, (hFI 99 u (by omega)).trans e⟩
      have hSI : SdI GI tc CS := hS.fr (funext fun q => aI 102 q (by omega))
      have hXI : XM GI hn vn ru tc CS := hX.fw (j := 9) (Or.inr (Or.inr rfl)) hFI hSI hHI
      have hE9 : BDs (TMx CS ru) (svM GI) vn = (sayE (TMx CS ru) (svM g) vn 1) i := hRI.bd hHI (by omega)
      refine go_cVIz (pc' := 142) cx (c_X6_courses l E (g := GI) hXI) mX6_courses lX6_421 dX6_say_139 kq88 (ltn rfl) (ltn rfl) rfl rfl rfl rfl (ltn rfl) (Nat.le_of_ble_eq_true rfl) (Nat.le_of_ble_eq_true rfl) rfl (fun xc GC zc hc => ?_)
      obtain ⟨ec, fc, -, -, sc⟩ := hc
      rw [hE9] at ec
      refine go_istore (pc' := 144) cx dX6_say_142 (ltn rfl) [(10, .int xc), (9, .int 10), (8, .int (nI (0 + (1 * (i % 4))))), (7, .int (nI (i / 4))), (6, .int (nI i)), (0, .ref (E.2.1 88)), (1, .int 1), (2, .int x2), (3, .int 4), (4, .int (-1)), (5, .int 0)] rfl rfl ?_
      refine go_iload (pc' := 146) cx dX6_say_144 rfl rfl ?_
      refine go_iconst (pc' := 147) cx (-1) dX6_say_146 rfl rfl ?_
      refine go_icmp_eq (pc' := 150) cx 157 dX6_say_147 rfl rfl (fun _ => ?_) (fun hh9 => absurd rfl hh9)
      refine go_iload (pc' := 159) cx dX6_say_157 rfl rfl ?_
      refine go_istore (pc' := 161) cx dX6_say_159 (ltn rfl) [(4, .int (nI (0 + (1 * (i % 4))))), (10, .int xc), (9, .int 10), (8, .int (nI (0 + (1 * (i % 4))))), (7, .int (nI (i / 4))), (6, .int (nI i)), (0, .ref (E.2.1 88)), (1, .int 1), (2, .int x2), (3, .int 4), (5, .int 0)] rfl rfl ?_
      refine go_iload (pc' := 163) cx dX6_say_161 rfl rfl ?_
      refine go_istore (pc' := 165) cx dX6_say_163 (ltn rfl) [(5, .int xc), (4, .int (nI (0 + (1 * (i % 4))))), (10, .int xc), (9, .int 10), (8, .int (nI (0 + (1 * (i % 4))))), (7, .int (nI (i / 4))), (6, .int (nI i)), (0, .ref (E.2.1 88)), (1, .int 1), (2, .int x2), (3, .int 4)] rfl rfl ?_
      refine go_iinc (pc' := 168) cx (nI (i + 1)) dX6_say_165 rfl (nI_1 i) (ltn rfl) [(6, .int (nI (i + 1))), (5, .int xc), (4, .int (nI (0 + (1 * (i % 4))))), (10, .int xc), (9, .int 10), (8, .int (nI (0 + (1 * (i % 4))))), (7, .int (nI (i / 4))), (0, .ref (E.2.1 88)), (1, .int 1), (2, .int x2), (3, .int 4)] rfl rfl ?_
      refine go_goto cx 67 dX6_say_168 rfl ?_
      refine go_sub [0, 7, 8, 9, 10, 2, 1] [(6, .int (nI (i + 1))), (0, .ref (E.2.1 88)), (1, .int 1), (2, .int x2), (3, .int 4), (4, .int (nI (0 + (1 * (i % 4))))), (5, .int xc)] rfl ?_
      have e9 : mns (sayE (TMx CS ru) (svM g) vn 1) (i + 1) = some i := mns_sn hq
      have e8 : nI (0 + (1 * (i % 4))) = nI (dcm 1 i) := congrArg nI (show (0 + (1 * (i % 4))) = dcm 1 i from by
        simp only [dcm]
        omega)
      refine go_sub [0, 1, 2, 3, 4, 5, 6] [(6, .int (nI (i + 1))), (0, .ref (E.2.1 88)), (1, .int 1), (2, .int x2), (3, .int 4), (4, .int (odg 1 (mns (sayE (TMx CS ru) (svM g) vn 1) (i + 1)))), (5, .int (ow (sayE (TMx CS ru) (svM g) vn 1) (mns (sayE (TMx CS ru) (svM g) vn 1) (i + 1))))] (by rw [e9, odg_dc, e8, ec]; rfl) ?_
      exact ih (i + 1) GC zc (by omega) (hFI.tr fc.fw) ((hK.fr (funext fun q => aI 106 q (by omega)) (funext fun q => aI 107 q (by omega))).fr (fc.c (by omega) (by omega)) (fc.c (by omega) (by omega))) (fun k9 q9 => (fc 101 k9 (by omega)).trans ((aI 101 k9 (by omega)).trans (hW k9 q9))) sc hZ
    | some b =>
      refine go_sub [0, 1, 2, 3, 4, 5, 6] [(6, .int (nI i)), (0, .ref (E.2.1 88)), (1, .int 1), (2, .int x2), (3, .int 4), (4, .int (nI (dcm 1 b))), (5, .int ((sayE (TMx CS ru) (svM g) vn 1) b))] (by rw [odg_dc]; rfl) ?_
      refine go_iload (pc' := 69) cx dX6_say_67 rfl rfl ?_
      refine go_iload_n (pc' := 70) cx dX6_say_69 rfl rfl ?_
      refine go_icmp_ge (pc' := 73) cx 171 dX6_say_70 rfl rfl (fun hh9 => absurd ((nI_leI (a := 4) (b := i) (by omega) (by omega)).mp hh9) (by omega)) (fun _ => ?_)
      refine go_iload (pc' := 75) cx dX6_say_73 rfl rfl ?_
      refine go_istore (pc' := 77) cx dX6_say_75 (ltn rfl) [(7, .int (nI i)), (6, .int (nI i)), (0, .ref (E.2.1 88)), (1, .int 1), (2, .int x2), (3, .int 4), (4, .int (nI (dcm 1 b))), (5, .int ((sayE (TMx CS ru) (svM g) vn 1) b))] rfl rfl ?_
      refine go_iconst (pc' := 78) cx 0 dX6_say_77 rfl rfl ?_
      refine go_istore (pc' := 80) cx dX6_say_78 (ltn rfl) [(8, .int 0), (7, .int (nI i)), (6, .int (nI i)), (0, .ref (E.2.1 88)), (1, .int 1), (2, .int x2), (3, .int 4), (4, .int (nI (dcm 1 b))), (5, .int ((sayE (TMx CS ru) (svM g) vn 1) b))] rfl rfl ?_
      refine go_iconst (pc' := 81) cx 1 dX6_say_80 rfl rfl ?_
      refine go_istore (pc' := 83) cx dX6_say_81 (ltn rfl) [(9, .int 1), (8, .int 0), (7, .int (nI i)), (6, .int (nI i)), (0, .ref (E.2.1 88)), (1, .int 1), (2, .int x2), (3, .int 4), (4, .int (nI (dcm 1 b))), (5, .int ((sayE (TMx CS ru) (svM g) vn 1) b))] rfl rfl ?_
      refine go_iload_n (pc' := 84) cx dX6_say_83 rfl rfl ?_
      refine go_iconst (pc' := 85) cx 1 dX6_say_84 rfl rfl ?_
      refine go_isub (pc' := 86) cx dX6_say_85 rfl ?_
      refine go_val (w := .int 0) (congrArg Value.int (by decide)) ?_
      refine go_istore (pc' := 88) cx dX6_say_86 (ltn rfl) [(10, .int 0), (9, .int 1), (8, .int 0), (7, .int (nI i)), (6, .int (nI i)), (0, .ref (E.2.1 88)), (1, .int 1), (2, .int x2), (3, .int 4), (4, .int (nI (dcm 1 b))), (5, .int ((sayE (TMx CS ru) (svM g) vn 1) b))] rfl rfl ?_
      refine go_iload (pc' := 90) cx dX6_say_88 rfl rfl ?_
      refine go_if_lt (pc' := 93) cx 138 dX6_say_90 rfl rfl (fun hh => absurd hh (by decide)) (fun _ => ?_)
      refine go_aload_n (pc' := 94) cx dX6_say_93 rfl rfl ?_
      refine go_getr (pc' := 97) cx 101 fX6_53 dX6_say_94 kq88 (ltn rfl) (ltn rfl) rfl rfl rfl ?_
      refine go_iload (pc' := 99) cx dX6_say_97 rfl rfl ?_
      refine go_iload (pc' := 101) cx dX6_say_99 rfl rfl ?_
      refine go_iconst (pc' := 102) cx 4 dX6_say_101 rfl rfl ?_
      refine go_irem (pc' := 103) cx (by decide) dX6_say_102 rfl ?_
      refine go_val (w := .int (nI (i % 4))) (congrArg Value.int (pk_rem (a := i) (d := 4) (by omega) (by decide) (by decide))) ?_
      refine go_iastk (pc' := 104) cx 0 dX6_say_103 kq101 (ltn rfl) (vpi (k := 0) (a := 1) (ltn rfl) rfl rfl) (cli (k := 0) (a := 1) (ltn rfl) rfl) rfl ?_
      refine go_iload (pc' := 106) cx dX6_say_104 rfl rfl ?_
      refine go_iconst (pc' := 107) cx 4 dX6_say_106 rfl rfl ?_
      refine go_idiv (pc' := 108) cx (by decide) dX6_say_107 rfl ?_
      refine go_val (w := .int (nI (i / 4))) (congrArg Value.int (pk_div (a := i) (d := 4) (by omega) (by decide) (by decide))) ?_
      refine go_istore (pc' := 110) cx dX6_say_108 (ltn rfl) [(7, .int (nI (i / 4))), (10, .int 0), (9, .int 1), (8, .int 0), (6, .int (nI i)), (0, .ref (E.2.1 88)), (1, .int 1), (2, .int x2), (3, .int 4), (4, .int (nI (dcm 1 b))), (5, .int ((sayE (TMx CS ru) (svM g) vn 1) b))] rfl rfl ?_
      refine go_iload (pc' := 112) cx dX6_say_110 rfl rfl ?_
      refine go_iload (pc' := 114) cx dX6_say_112 rfl rfl ?_
      refine go_aload_n (pc' := 115) cx dX6_say_114 rfl rfl ?_
      refine go_getr (pc' := 118) cx 101 fX6_53 dX6_say_115 kq88 (ltn rfl) (ltn rfl) rfl rfl rfl ?_
      refine go_iload (pc' := 120) cx dX6_say_118 rfl rfl ?_
      refine go_iald (pc' := 121) cx (nI (i % 4)) dX6_say_120 kq101 (ltn rfl) (vpi (k := 0) (a := 1) (ltn rfl) rfl rfl) ((congrArg ((up2 G 101 0 (nI (i % 4))) 101) (cli (k := 0) (a := 1) (ltn rfl) rfl)).trans (up2_s G 101 0 (nI (i % 4)))) rfl ?_
      refine go_imul (pc' := 122) cx dX6_say_121 rfl ?_
      refine go_val (w := .int (nI (1 * (i % 4)))) (congrArg Value.int (pk_mul 1 (i % 4))) ?_
      refine go_iadd (pc' := 123) cx dX6_say_122 rfl ?_
      refine go_val (w := .int (nI (0 + (1 * (i % 4))))) (congrArg Value.int (nI_add 0 (1 * (i % 4)))) ?_
      refine go_istore (pc' := 125) cx dX6_say_123 (ltn rfl) [(8, .int (nI (0 + (1 * (i % 4))))), (7, .int (nI (i / 4))), (10, .int 0), (9, .int 1), (6, .int (nI i)), (0, .ref (E.2.1 88)), (1, .int 1), (2, .int x2), (3, .int 4), (4, .int (nI (dcm 1 b))), (5, .int ((sayE (TMx CS ru) (svM g) vn 1) b))] rfl rfl ?_
      refine go_iload (pc' := 127) cx dX6_say_125 rfl rfl ?_
      refine go_bipush (pc' := 129) cx 10 dX6_say_127 rfl rfl ?_
      refine go_imul (pc' := 130) cx dX6_say_129 rfl ?_
      refine go_val (w := .int 10) (congrArg Value.int (by decide)) ?_
      refine go_istore (pc' := 132) cx dX6_say_130 (ltn rfl) [(9, .int 10), (8, .int (nI (0 + (1 * (i % 4))))), (7, .int (nI (i / 4))), (10, .int 0), (6, .int (nI i)), (0, .ref (E.2.1 88)), (1, .int 1), (2, .int x2), (3, .int 4), (4, .int (nI (dcm 1 b))), (5, .int ((sayE (TMx CS ru) (svM g) vn 1) b))] rfl rfl ?_
      refine go_iinc (pc' := 135) cx (-1) dX6_say_132 rfl (by decide) (ltn rfl) [(10, .int (-1)), (9, .int 10), (8, .int (nI (0 + (1 * (i % 4))))), (7, .int (nI (i / 4))), (6, .int (nI i)), (0, .ref (E.2.1 88)), (1, .int 1), (2, .int x2), (3, .int 4), (4, .int (nI (dcm 1 b))), (5, .int ((sayE (TMx CS ru) (svM g) vn 1) b))] rfl rfl ?_
      refine go_goto cx 88 dX6_say_135 rfl ?_
      refine go_iload (pc' := 90) cx dX6_say_88 rfl rfl ?_
      refine go_if_lt (pc' := 93) cx 138 dX6_say_90 rfl rfl (fun _ => ?_) (fun hh => absurd (by decide) hh)
      refine go_aload_n (pc' := 139) cx dX6_say_138 rfl rfl ?_
      obtain ⟨GI, hGI⟩ : ∃ y : IG, y = (up2 G 101 0 (nI (i % 4))) := ⟨_, rfl⟩
      refine go_g hGI.symm ?_
      have aI : ∀ i9 q, ¬ (i9 = 101 ∧ q < 1) → GI i9 q = G i9 q := fun i9 q h9 => by
        rw [hGI, up2_n _ _ (by omega)]
      have hFI : FrW (92 + 9) g GI := by
        rw [hGI]
        exact (hF.up (by omega))
      have hRI : Req (svM GI) (sayS (svM g) 1 i) hn vn := reqW (j := 9) (Or.inr (Or.inr rfl)) hFI (fun i9 k9 q => if_neg (fun q9 => q q9.1)) (fun k9 h9 => by
        show GI 101 k9 = _
        by_cases e : k9 < 1
        · rw [show sayS (svM g) 1 i 9 k9 = nI (dgt 1 i k9) from if_pos ⟨rfl, e⟩]
          rcases (show k9 = 0 by omega) with rfl
          · rw [hGI, up2_s]
            refine congrArg nI ?_
            show i % 4 = i / 4 ^ 0 % 4
            omega
        · rw [show sayS (svM g) 1 i 9 k9 = svM g 9 k9 from if_neg (fun q9 => e q9.2), aI 101 k9 (by omega)]
          exact hW k9 (by omega))
      have hHI : HdS (svM GI) hn vn := by
        intro u hu
        obtain ⟨h, hh, e⟩ := hX.2.2.2.2.1 u hu
        exact ⟨h, hh, (hFI 99 u (by omega)).trans e⟩
      have hSI : SdI GI tc CS := hS.fr (funext fun q => aI 102 q (by omega))
      have hXI : XM GI hn vn ru tc CS := hX.fw (j := 9) (Or.inr (Or.inr rfl)) hFI hSI hHI
      have hE9 : BDs (TMx CS ru) (svM GI) vn = (sayE (TMx CS ru) (svM g) vn 1) i := hRI.bd hHI (by omega)
      refine go_cVIz (pc' := 142) cx (c_X6_courses l E (g := GI) hXI) mX6_courses lX6_421 dX6_say_139 kq88 (ltn rfl) (ltn rfl) rfl rfl rfl rfl (ltn rfl) (Nat.le_of_ble_eq_true rfl) (Nat.le_of_ble_eq_true rfl) rfl (fun xc GC zc hc => ?_)
      obtain ⟨ec, fc, -, -, sc⟩ := hc
      rw [hE9] at ec
      refine go_istore (pc' := 144) cx dX6_say_142 (ltn rfl) [(10, .int xc), (9, .int 10), (8, .int (nI (0 + (1 * (i % 4))))), (7, .int (nI (i / 4))), (6, .int (nI i)), (0, .ref (E.2.1 88)), (1, .int 1), (2, .int x2), (3, .int 4), (4, .int (nI (dcm 1 b))), (5, .int ((sayE (TMx CS ru) (svM g) vn 1) b))] rfl rfl ?_
      refine go_iload (pc' := 146) cx dX6_say_144 rfl rfl ?_
      refine go_iconst (pc' := 147) cx (-1) dX6_say_146 rfl rfl ?_
      refine go_icmp_eq (pc' := 150) cx 157 dX6_say_147 rfl rfl (fun hh9 => absurd hh9 (dcm_nm (by omega))) (fun _ => ?_)
      refine go_iload (pc' := 152) cx dX6_say_150 rfl rfl ?_
      refine go_iload (pc' := 154) cx dX6_say_152 rfl rfl ?_
      refine go_icmp_ge (pc' := 157) cx 165 dX6_say_154 rfl rfl (fun c154 => ?_) (fun c154 => ?_)
      · have c154n := Int32.not_lt.mpr c154
        refine go_iinc (pc' := 168) cx (nI (i + 1)) dX6_say_165 rfl (nI_1 i) (ltn rfl) [(6, .int (nI (i + 1))), (10, .int xc), (9, .int 10), (8, .int (nI (0 + (1 * (i % 4))))), (7, .int (nI (i / 4))), (0, .ref (E.2.1 88)), (1, .int 1), (2, .int x2), (3, .int 4), (4, .int (nI (dcm 1 b))), (5, .int ((sayE (TMx CS ru) (svM g) vn 1) b))] rfl rfl ?_
        refine go_goto cx 67 dX6_say_168 rfl ?_
        refine go_sub [0, 5, 6, 7, 8, 9, 10] [(6, .int (nI (i + 1))), (0, .ref (E.2.1 88)), (1, .int 1), (2, .int x2), (3, .int 4), (4, .int (nI (dcm 1 b))), (5, .int ((sayE (TMx CS ru) (svM g) vn 1) b))] rfl ?_
        have e9 : mns (sayE (TMx CS ru) (svM g) vn 1) (i + 1) = some b := (mns_ss hq).trans (if_neg (by rw [← ec]; exact Int32.not_lt.mpr c154))
        refine go_sub [0, 1, 2, 3, 4, 5, 6] [(6, .int (nI (i + 1))), (0, .ref (E.2.1 88)), (1, .int 1), (2, .int x2), (3, .int 4), (4, .int (odg 1 (mns (sayE (TMx CS ru) (svM g) vn 1) (i + 1)))), (5, .int (ow (sayE (TMx CS ru) (svM g) vn 1) (mns (sayE (TMx CS ru) (svM g) vn 1) (i + 1))))] (by rw [e9, odg_dc]; rfl) ?_
        exact ih (i + 1) GC zc (by omega) (hFI.tr fc.fw) ((hK.fr (funext fun q => aI 106 q (by omega)) (funext fun q => aI 107 q (by omega))).fr (fc.c (by omega) (by omega)) (fc.c (by omega) (by omega))) (fun k9 q9 => (fc 101 k9 (by omega)).trans ((aI 101 k9 (by omega)).trans (hW k9 q9))) sc hZ
      · have c154n := Int32.not_le.mp c154
        refine go_iload (pc' := 159) cx dX6_say_157 rfl rfl ?_
        refine go_istore (pc' := 161) cx dX6_say_159 (ltn rfl) [(4, .int (nI (0 + (1 * (i % 4))))), (10, .int xc), (9, .int 10), (8, .int (nI (0 + (1 * (i % 4))))), (7, .int (nI (i / 4))), (6, .int (nI i)), (0, .ref (E.2.1 88)), (1, .int 1), (2, .int x2), (3, .int 4), (5, .int ((sayE (TMx CS ru) (svM g) vn 1) b))] rfl rfl ?_
        refine go_iload (pc' := 163) cx dX6_say_161 rfl rfl ?_
        refine go_istore (pc' := 165) cx dX6_say_163 (ltn rfl) [(5, .int xc), (4, .int (nI (0 + (1 * (i % 4))))), (10, .int xc), (9, .int 10), (8, .int (nI (0 + (1 * (i % 4))))), (7, .int (nI (i / 4))), (6, .int (nI i)), (0, .ref (E.2.1 88)), (1, .int 1), (2, .int x2), (3, .int 4)] rfl rfl ?_
        refine go_iinc (pc' := 168) cx (nI (i + 1)) dX6_say_165 rfl (nI_1 i) (ltn rfl) [(6, .int (nI (i + 1))), (5, .int xc), (4, .int (nI (0 + (1 * (i % 4))))), (10, .int xc), (9, .int 10), (8, .int (nI (0 + (1 * (i % 4))))), (7, .int (nI (i / 4))), (0, .ref (E.2.1 88)), (1, .int 1), (2, .int x2), (3, .int 4)] rfl rfl ?_
        refine go_goto cx 67 dX6_say_168 rfl ?_
        refine go_sub [0, 7, 8, 9, 10, 2, 1] [(6, .int (nI (i + 1))), (0, .ref (E.2.1 88)), (1, .int 1), (2, .int x2), (3, .int 4), (4, .int (nI (0 + (1 * (i % 4))))), (5, .int xc)] rfl ?_
        have e9 : mns (sayE (TMx CS ru) (svM g) vn 1) (i + 1) = some i := (mns_ss hq).trans (if_pos (by rw [← ec]; exact Int32.not_le.mp c154))
        have e8 : nI (0 + (1 * (i % 4))) = nI (dcm 1 i) := congrArg nI (show (0 + (1 * (i % 4))) = dcm 1 i from by
          simp only [dcm]
          omega)
        refine go_sub [0, 1, 2, 3, 4, 5, 6] [(6, .int (nI (i + 1))), (0, .ref (E.2.1 88)), (1, .int 1), (2, .int x2), (3, .int 4), (4, .int (odg 1 (mns (sayE (TMx CS ru) (svM g) vn 1) (i + 1)))), (5, .int (ow (sayE (TMx CS ru) (svM g) vn 1) (mns (sayE (TMx CS ru) (svM g) vn 1) (i + 1))))] (by rw [e9, odg_dc, e8, ec]; rfl) ?_
        exact ih (i + 1) GC zc (by omega) (hFI.tr fc.fw) ((hK.fr (funext fun q => aI 106 q (by omega)) (funext fun q => aI 107 q (by omega))).fr (fc.c (by omega) (by omega)) (fc.c (by omega) (by omega))) (fun k9 q9 => (fc 101 k9 (by omega)).trans ((aI 101 k9 (by omega)).trans (hW k9 q9))) sc hZ

set_option maxHeartbeats 1000000 in
set_option maxRecDepth 20000 in
theorem sayM_loop2 {l : Launch} {E : Ev} {Z : ZT} {o : Option Nat} {p : Program} {e : Env} {s : State} {m : MethodId} {args : Array Value} {below : List Frame} {meth : Method} {c : Code} {g : IG} {hn vn ru tc : Nat} {CS : CSt} (hX : XM g hn vn ru tc CS) {x2 : Int32} (cx : Cx p s m args meth c E 115 cX6_say 11 yX6_say.cls (some .int)) : ∀ (k i : Nat) (G : IG) (z : Int64), i + k = 16 → FrW (92 + 9) g G → KpS g G → (∀ k, 2 ≤ k → G 101 k = g 101 k) → SdI G tc CS → (∀ (G9 : IG) (z9 : Int64), FrJ g G9 → SdI G9 tc CS → Z (some (.int (if x2 = 0 then ow (sayE (TMx CS ru) (svM g) vn 2) (mns (sayE (TMx CS ru) (svM g) vn 2) 16) else odg 2 (mns (sayE (TMx CS ru) (svM g) vn 2) 16)))) G9 (RFo o) z9) → Go p l e (rmd 49) s m args below meth c E 115 11 Z G (RFo o) z 67 [(6, .int (nI i)), (0, .ref (E.2.1 88)), (1, .int 2), (2, .int x2), (3, .int 16), (4, .int (odg 2 (mns (sayE (TMx CS ru) (svM g) vn 2) i))), (5, .int (ow (sayE (TMx CS ru) (svM g) vn 2) (mns (sayE (TMx CS ru) (svM g) vn 2) i)))] [] := by
  intro k
  have hb := hX.1
  induction k with
  | zero =>
    intro i G z hk hF hK hW hS hZ
    have hi : i = 16 := by omega
    subst hi
    refine go_iload (pc' := 69) cx dX6_say_67 rfl rfl ?_
    refine go_iload_n (pc' := 70) cx dX6_say_69 rfl rfl ?_
    refine go_icmp_ge (pc' := 73) cx 171 dX6_say_70 rfl rfl (fun _ => ?_) (fun hh => absurd hh (by decide))
    refine go_aload_n (pc' := 172) cx dX6_say_171 rfl rfl ?_
    refine go_cVV (pc' := 175) cx (c_X6_laysBack l E (g := G)) mX6_laysBack lX6_429 dX6_say_172 kq88 (ltn rfl) (ltn rfl) rfl rfl rfl rfl (ltn rfl) (Nat.le_of_ble_eq_true rfl) (Nat.le_of_ble_eq_true rfl) rfl (fun GT hT => ?_)
    obtain ⟨t1, t2⟩ := hT
    refine go_iload_n (pc' := 176) cx dX6_say_175 rfl rfl ?_
    refine go_if_ne (pc' := 179) cx 184 dX6_say_176 rfl rfl (fun c176 => ?_) (fun c176 => ?_)
    · refine go_iload (pc' := 186) cx dX6_say_184 rfl rfl ?_
      refine go_iret cx rfl dX6_say_186 ?_
      have h9 := hZ GT z (hF.j (Or.inr rfl) hK t1 t2) (hS.fr (funext fun k => t1 102 k (by omega)))
      first | (rw [if_pos c176] at h9; exact h9) | (rw [if_neg c176] at h9; exact h9)
    · refine go_iload (pc' := 181) cx dX6_say_179 rfl rfl ?_
      refine go_goto cx 186 dX6_say_181 rfl ?_
      refine go_iret cx rfl dX6_say_186 ?_
      have h9 := hZ GT z (hF.j (Or.inr rfl) hK t1 t2) (hS.fr (funext fun k => t1 102 k (by omega)))
      first | (rw [if_pos c176] at h9; exact h9) | (rw [if_neg c176] at h9; exact h9)
  | succ k ih =>
    intro i G z hk hF hK hW hS hZ
    cases hq : mns (sayE (TMx CS ru) (svM g) vn 2) i with
    | none =>
      refine go_sub [0, 1, 2, 3, 4, 5, 6] [(6, .int (nI i)), (0, .ref (E.2.1 88)), (1, .int 2), (2, .int x2), (3, .int 16), (4, .int (-1)), (5, .int 0)] rfl ?_
      refine go_iload (pc' := 69) cx dX6_say_67 rfl rfl ?_
      refine go_iload_n (pc' := 70) cx dX6_say_69 rfl rfl ?_
      refine go_icmp_ge (pc' := 73) cx 171 dX6_say_70 rfl rfl (fun hh9 => absurd ((nI_leI (a := 16) (b := i) (by omega) (by omega)).mp hh9) (by omega)) (fun _ => ?_)
      refine go_iload (pc' := 75) cx dX6_say_73 rfl rfl ?_
      refine go_istore (pc' := 77) cx dX6_say_75 (ltn rfl) [(7, .int (nI i)), (6, .int (nI i)), (0, .ref (E.2.1 88)), (1, .int 2), (2, .int x2), (3, .int 16), (4, .int (-1)), (5, .int 0)] rfl rfl ?_
      refine go_iconst (pc' := 78) cx 0 dX6_say_77 rfl rfl ?_
      refine go_istore (pc' := 80) cx dX6_say_78 (ltn rfl) [(8, .int 0), (7, .int (nI i)), (6, .int (nI i)), (0, .ref (E.2.1 88)), (1, .int 2), (2, .int x2), (3, .int 16), (4, .int (-1)), (5, .int 0)] rfl rfl ?_
      refine go_iconst (pc' := 81) cx 1 dX6_say_80 rfl rfl ?_
      refine go_istore (pc' := 83) cx dX6_say_81 (ltn rfl) [(9, .int 1), (8, .int 0), (7, .int (nI i)), (6, .int (nI i)), (0, .ref (E.2.1 88)), (1, .int 2), (2, .int x2), (3, .int 16), (4, .int (-1)), (5, .int 0)] rfl rfl ?_
      refine go_iload_n (pc' := 84) cx dX6_say_83 rfl rfl ?_
      refine go_iconst (pc' := 85) cx 1 dX6_say_84 rfl rfl ?_
      refine go_isub (pc' := 86) cx dX6_say_85 rfl ?_
      refine go_val (w := .int 1) (congrArg Value.int (by decide)) ?_
      refine go_istore (pc' := 88) cx dX6_say_86 (ltn rfl) [(10, .int 1), (9, .int 1), (8, .int 0), (7, .int (nI i)), (6, .int (nI i)), (0, .ref (E.2.1 88)), (1, .int 2), (2, .int x2), (3, .int 16), (4, .int (-1)), (5, .int 0)] rfl rfl ?_
      refine go_iload (pc' := 90) cx dX6_say_88 rfl rfl ?_
      refine go_if_lt (pc' := 93) cx 138 dX6_say_90 rfl rfl (fun hh => absurd hh (by decide)) (fun _ => ?_)
      refine go_aload_n (pc' := 94) cx dX6_say_93 rfl rfl ?_
      refine go_getr (pc' := 97) cx 101 fX6_53 dX6_say_94 kq88 (ltn rfl) (ltn rfl) rfl rfl rfl ?_
      refine go_iload (pc' := 99) cx dX6_say_97 rfl rfl ?_
      refine go_iload (pc' := 101) cx dX6_say_99 rfl rfl ?_
      refine go_iconst (pc' := 102) cx 4 dX6_say_101 rfl rfl ?_
      refine go_irem (pc' := 103) cx (by decide) dX6_say_102 rfl ?_
      refine go_val (w := .int (nI (i % 4))) (congrArg Value.int (pk_rem (a := i) (d := 4) (by omega) (by decide) (by decide))) ?_
      refine go_iastk (pc' := 104) cx 1 dX6_say_103 kq101 (ltn rfl) (vpi (k := 1) (a := 2) (ltn rfl) rfl rfl) (cli (k := 1) (a := 2) (ltn rfl) rfl) rfl ?_
      refine go_iload (pc' := 106) cx dX6_say_104 rfl rfl ?_
      refine go_iconst (pc' := 107) cx 4 dX6_say_106 rfl rfl ?_
      refine go_idiv (pc' := 108) cx (by decide) dX6_say_107 rfl ?_
      refine go_val (w := .int (nI (i / 4))) (congrArg Value.int (pk_div (a := i) (d := 4) (by omega) (by decide) (by decide))) ?_
      refine go_istore (pc' := 110) cx dX6_say_108 (ltn rfl) [(7, .int (nI (i / 4))), (10, .int 1), (9, .int 1), (8, .int 0), (6, .int (nI i)), (0, .ref (E.2.1 88)), (1, .int 2), (2, .int x2), (3, .int 16), (4, .int (-1)), (5, .int 0)] rfl rfl ?_
      refine go_iload (pc' := 112) cx dX6_say_110 rfl rfl ?_
      refine go_iload (pc' := 114) cx dX6_say_112 rfl rfl ?_
      refine go_aload_n (pc' := 115) cx dX6_say_114 rfl rfl ?_
      refine go_getr (pc' := 118) cx 101 fX6_53 dX6_say_115 kq88 (ltn rfl) (ltn rfl) rfl rfl rfl ?_
      refine go_iload (pc' := 120) cx dX6_say_118 rfl rfl ?_
      refine go_iald (pc' := 121) cx (nI (i % 4)) dX6_say_120 kq101 (ltn rfl) (vpi (k := 1) (a := 2) (ltn rfl) rfl rfl) ((congrArg ((up2 G 101 1 (nI (i % 4))) 101) (cli (k := 1) (a := 2) (ltn rfl) rfl)).trans (up2_s G 101 1 (nI (i % 4)))) rfl ?_
      refine go_imul (pc' := 122) cx dX6_say_121 rfl ?_
      refine go_val (w := .int (nI (1 * (i % 4)))) (congrArg Value.int (pk_mul 1 (i % 4))) ?_
      refine go_iadd (pc' := 123) cx dX6_say_122 rfl ?_
      refine go_val (w := .int (nI (0 + (1 * (i % 4))))) (congrArg Value.int (nI_add 0 (1 * (i % 4)))) ?_
      refine go_istore (pc' := 125) cx dX6_say_123 (ltn rfl) [(8, .int (nI (0 + (1 * (i % 4))))), (7, .int (nI (i / 4))), (10, .int 1), (9, .int 1), (6, .int (nI i)), (0, .ref (E.2.1 88)), (1, .int 2), (2, .int x2), (3, .int 16), (4, .int (-1)), (5, .int 0)] rfl rfl ?_
      refine go_iload (pc' := 127) cx dX6_say_125 rfl rfl ?_
      refine go_bipush (pc' := 129) cx 10 dX6_say_127 rfl rfl ?_
      refine go_imul (pc' := 130) cx dX6_say_129 rfl ?_
      refine go_val (w := .int 10) (congrArg Value.int (by decide)) ?_
      refine go_istore (pc' := 132) cx dX6_say_130 (ltn rfl) [(9, .int 10), (8, .int (nI (0 + (1 * (i % 4))))), (7, .int (nI (i / 4))), (10, .int 1), (6, .int (nI i)), (0, .ref (E.2.1 88)), (1, .int 2), (2, .int x2), (3, .int 16), (4, .int (-1)), (5, .int 0)] rfl rfl ?_
      refine go_iinc (pc' := 135) cx 0 dX6_say_132 rfl (by decide) (ltn rfl) [(10, .int 0), (9, .int 10), (8, .int (nI (0 + (1 * (i % 4))))), (7, .int (nI (i / 4))), (6, .int (nI i)), (0, .ref (E.2.1 88)), (1, .int 2), (2, .int x2), (3, .int 16), (4, .int (-1)), (5, .int 0)] rfl rfl ?_
      refine go_goto cx 88 dX6_say_135 rfl ?_
      refine go_iload (pc' := 90) cx dX6_say_88 rfl rfl ?_
      refine go_if_lt (pc' := 93) cx 138 dX6_say_90 rfl rfl (fun hh => absurd hh (by decide)) (fun _ => ?_)
      refine go_aload_n (pc' := 94) cx dX6_say_93 rfl rfl ?_
      refine go_getr (pc' := 97) cx 101 fX6_53 dX6_say_94 kq88 (ltn rfl) (ltn rfl) rfl rfl rfl ?_
      refine go_iload (pc' := 99) cx dX6_say_97 rfl rfl ?_
      refine go_iload (pc' := 101) cx dX6_say_99 rfl rfl ?_
      refine go_iconst (pc' := 102) cx 4 dX6_say_101 rfl rfl ?_
      refine go_irem (pc' := 103) cx (by decide) dX6_say_102 rfl ?_
      refine go_val (w := .int (nI ((i / 4) % 4))) (congrArg Value.int (pk_rem (a := (i / 4)) (d := 4) (by omega) (by decide) (by decide))) ?_
      refine go_iastk (pc' := 104) cx 0 dX6_say_103 kq101 (ltn rfl) (vpi (k := 0) (a := 1) (ltn rfl) rfl rfl) (cli (k := 0) (a := 1) (ltn rfl) rfl) rfl ?_
      refine go_iload (pc' := 106) cx dX6_say_104 rfl rfl ?_
      refine go_iconst (pc' := 107) cx 4 dX6_say_106 rfl rfl ?_
      refine go_idiv (pc' := 108) cx (by decide) dX6_say_107 rfl ?_
      refine go_val (w := .int (nI ((i / 4) / 4))) (congrArg Value.int (pk_div (a := (i / 4)) (d := 4) (by omega) (by decide) (by decide))) ?_
      refine go_istore (pc' := 110) cx dX6_say_108 (ltn rfl) [(7, .int (nI ((i / 4) / 4))), (10, .int 0), (9, .int 10), (8, .int (nI (0 + (1 * (i % 4))))), (6, .int (nI i)), (0, .ref (E.2.1 88)), (1, .int 2), (2, .int x2), (3, .int 16), (4, .int (-1)), (5, .int 0)] rfl rfl ?_
      refine go_iload (pc' := 112) cx dX6_say_110 rfl rfl ?_
      refine go_iload (pc' := 114) cx dX6_say_112 rfl rfl ?_
      refine go_aload_n (pc' := 115) cx dX6_say_114 rfl rfl ?_
      refine go_getr (pc' := 118) cx 101 fX6_53 dX6_say_115 kq88 (ltn rfl) (ltn rfl) rfl rfl rfl ?_
      refine go_iload (pc' := 120) cx dX6_say_118 rfl rfl ?_
      refine go_iald (pc' := 121) cx (nI ((i / 4) % 4)) dX6_say_120 kq101 (ltn rfl) (vpi (k := 0) (a := 1) (ltn rfl) rfl rfl) ((congrArg ((up2 (up2 G 101 1 (nI (i % 4))) 101 0 (nI ((i / 4) % 4))) 101) (cli (k := 0) (a := 1) (ltn rfl) rfl)).trans (up2_s (up2 G 101 1 (nI (i % 4))) 101 0 (nI ((i / 4) % 4)))) rfl ?_
      refine go_imul (pc' := 122) cx dX6_say_121 rfl ?_
      refine go_val (w := .int (nI (10 * ((i / 4) % 4)))) (congrArg Value.int (pk_mul 10 ((i / 4) % 4))) ?_
      refine go_iadd (pc' := 123) cx dX6_say_122 rfl ?_
      refine go_val (w := .int (nI ((0 + (1 * (i % 4))) + (10 * ((i / 4) % 4))))) (congrArg Value.int (nI_add (0 + (1 * (i % 4))) (10 * ((i / 4) % 4)))) ?_
      refine go_istore (pc' := 125) cx dX6_say_123 (ltn rfl) [(8, .int (nI ((0 + (1 * (i % 4))) + (10 * ((i / 4) % 4))))), (7, .int (nI ((i / 4) / 4))), (10, .int 0), (9, .int 10), (6, .int (nI i)), (0, .ref (E.2.1 88)), (1, .int 2), (2, .int x2), (3, .int 16), (4, .int (-1)), (5, .int 0)] rfl rfl ?_
      refine go_iload (pc' := 127) cx dX6_say_125 rfl rfl ?_
      refine go_bipush (pc' := 129) cx 10 dX6_say_127 rfl rfl ?_
      refine go_imul (pc' := 130) cx dX6_say_129 rfl ?_
      refine go_val (w := .int 100) (congrArg Value.int (by decide)) ?_
      refine go_istore (pc' := 132) cx dX6_say_130 (ltn rfl) [(9, .int 100), (8, .int (nI ((0 + (1 * (i % 4))) + (10 * ((i / 4) % 4))))), (7, .int (nI ((i / 4) / 4))), (10, .int 0), (6, .int (nI i)), (0, .ref (E.2.1 88)), (1, .int 2), (2, .int x2), (3, .int 16), (4, .int (-1)), (5, .int 0)] rfl rfl ?_
      refine go_iinc (pc' := 135) cx (-1) dX6_say_132 rfl (by decide) (ltn rfl) [(10, .int (-1)), (9, .int 100), (8, .int (nI ((0 + (1 * (i % 4))) + (10 * ((i / 4) % 4))))), (7, .int (nI ((i / 4) / 4))), (6, .int (nI i)), (0, .ref (E.2.1 88)), (1, .int 2), (2, .int x2), (3, .int 16), (4, .int (-1)), (5, .int 0)] rfl rfl ?_
      refine go_goto cx 88 dX6_say_135 rfl ?_
      refine go_iload (pc' := 90) cx dX6_say_88 rfl rfl ?_
      refine go_if_lt (pc' := 93) cx 138 dX6_say_90 rfl rfl (fun _ => ?_) (fun hh => absurd (by decide) hh)
      refine go_aload_n (pc' := 139) cx dX6_say_138 rfl rfl ?_
      obtain ⟨GI, hGI⟩ : ∃ y : IG, y = (up2 (up2 G 101 1 (nI (i % 4))) 101 0 (nI ((i / 4) % 4))) := ⟨_, rfl⟩
      refine go_g hGI.symm ?_
      have aI : ∀ i9 q, ¬ (i9 = 101 ∧ q < 2) → GI i9 q = G i9 q := fun i9 q h9 => by
        rw [hGI, up2_n _ _ (by omega), up2_n _ _ (by omega)]
      have hFI : FrW (92 + 9) g GI := by
        rw [hGI]
        exact ((hF.up (by omega)).up (by omega))
      have hRI : Req (svM GI) (sayS (svM g) 2 i) hn vn := reqW (j := 9) (Or.inr (Or.inr rfl)) hFI (fun i9 k9 q => if_neg (fun q9 => q q9.1)) (fun k9 h9 => by
        show GI 101 k9 = _
        by_cases e : k9 < 2
        · rw [show sayS (svM g) 2 i 9 k9 = nI (dgt 2 i k9) from if_pos ⟨rfl, e⟩]
          rcases (show k9 = 0 ∨ k9 = 1 by omega) with rfl | rfl
          · rw [hGI, up2_s]
            refine congrArg nI ?_
            show i / 4 % 4 = i / 4 ^ 1 % 4
            omega
          · rw [hGI, up2_n _ _ (by omega), up2_s]
            refine congrArg nI ?_
            show i % 4 = i / 4 ^ 0 % 4
            omega
        · rw [show sayS (svM g) 2 i 9 k9 = svM g 9 k9 from if_neg (fun q9 => e q9.2), aI 101 k9 (by omega)]
          exact hW k9 (by omega))
      have hHI : HdS (svM GI) hn vn := by
        intro u hu
        obtain ⟨h, hh, e⟩ := hX.2.2.2.2.1 u hu
        exact ⟨h, hh, (hFI 99 u (by omega)).trans e⟩
      have hSI : SdI GI tc CS := hS.fr (funext fun q => aI 102 q (by omega))
      have hXI : XM GI hn vn ru tc CS := hX.fw (j := 9) (Or.inr (Or.inr rfl)) hFI hSI hHI
      have hE9 : BDs (TMx CS ru) (svM GI) vn = (sayE (TMx CS ru) (svM g) vn 2) i := hRI.bd hHI (by omega)
      refine go_cVIz (pc' := 142) cx (c_X6_courses l E (g := GI) hXI) mX6_courses lX6_421 dX6_say_139 kq88 (ltn rfl) (ltn rfl) rfl rfl rfl rfl (ltn rfl) (Nat.le_of_ble_eq_true rfl) (Nat.le_of_ble_eq_true rfl) rfl (fun xc GC zc hc => ?_)
      obtain ⟨ec, fc, -, -, sc⟩ := hc
      rw [hE9] at ec
      refine go_istore (pc' := 144) cx dX6_say_142 (ltn rfl) [(10, .int xc), (9, .int 100), (8, .int (nI ((0 + (1 * (i % 4))) + (10 * ((i / 4) % 4))))), (7, .int (nI ((i / 4) / 4))), (6, .int (nI i)), (0, .ref (E.2.1 88)), (1, .int 2), (2, .int x2), (3, .int 16), (4, .int (-1)), (5, .int 0)] rfl rfl ?_
      refine go_iload (pc' := 146) cx dX6_say_144 rfl rfl ?_
      refine go_iconst (pc' := 147) cx (-1) dX6_say_146 rfl rfl ?_
      refine go_icmp_eq (pc' := 150) cx 157 dX6_say_147 rfl rfl (fun _ => ?_) (fun hh9 => absurd rfl hh9)
      refine go_iload (pc' := 159) cx dX6_say_157 rfl rfl ?_
      refine go_istore (pc' := 161) cx dX6_say_159 (ltn rfl) [(4, .int (nI ((0 + (1 * (i % 4))) + (10 * ((i / 4) % 4))))), (10, .int xc), (9, .int 100), (8, .int (nI ((0 + (1 * (i % 4))) + (10 * ((i / 4) % 4))))), (7, .int (nI ((i / 4) / 4))), (6, .int (nI i)), (0, .ref (E.2.1 88)), (1, .int 2), (2, .int x2), (3, .int 16), (5, .int 0)] rfl rfl ?_
      refine go_iload (pc' := 163) cx dX6_say_161 rfl rfl ?_
      refine go_istore (pc' := 165) cx dX6_say_163 (ltn rfl) [(5, .int xc), (4, .int (nI ((0 + (1 * (i % 4))) + (10 * ((i / 4) % 4))))), (10, .int xc), (9, .int 100), (8, .int (nI ((0 + (1 * (i % 4))) + (10 * ((i / 4) % 4))))), (7, .int (nI ((i / 4) / 4))), (6, .int (nI i)), (0, .ref (E.2.1 88)), (1, .int 2), (2, .int x2), (3, .int 16)] rfl rfl ?_
      refine go_iinc (pc' := 168) cx (nI (i + 1)) dX6_say_165 rfl (nI_1 i) (ltn rfl) [(6, .int (nI (i + 1))), (5, .int xc), (4, .int (nI ((0 + (1 * (i % 4))) + (10 * ((i / 4) % 4))))), (10, .int xc), (9, .int 100), (8, .int (nI ((0 + (1 * (i % 4))) + (10 * ((i / 4) % 4))))), (7, .int (nI ((i / 4) / 4))), (0, .ref (E.2.1 88)), (1, .int 2), (2, .int x2), (3, .int 16)] rfl rfl ?_
      refine go_goto cx 67 dX6_say_168 rfl ?_
      refine go_sub [0, 7, 8, 9, 10, 2, 1] [(6, .int (nI (i + 1))), (0, .ref (E.2.1 88)), (1, .int 2), (2, .int x2), (3, .int 16), (4, .int (nI ((0 + (1 * (i % 4))) + (10 * ((i / 4) % 4))))), (5, .int xc)] rfl ?_
      have e9 : mns (sayE (TMx CS ru) (svM g) vn 2) (i + 1) = some i := mns_sn hq
      have e8 : nI ((0 + (1 * (i % 4))) + (10 * ((i / 4) % 4))) = nI (dcm 2 i) := congrArg nI (show ((0 + (1 * (i % 4))) + (10 * ((i / 4) % 4))) = dcm 2 i from by
        simp only [dcm]
        omega)
      refine go_sub [0, 1, 2, 3, 4, 5, 6] [(6, .int (nI (i + 1))), (0, .ref (E.2.1 88)), (1, .int 2), (2, .int x2), (3, .int 16), (4, .int (odg 2 (mns (sayE (TMx CS ru) (svM g) vn 2) (i + 1)))), (5, .int (ow (sayE (TMx CS ru) (svM g) vn 2) (mns (sayE (TMx CS ru) (svM g) vn 2) (i + 1))))] (by rw [e9, odg_dc, e8, ec]; rfl) ?_
      exact ih (i + 1) GC zc (by omega) (hFI.tr fc.fw) ((hK.fr (funext fun q => aI 106 q (by omega)) (funext fun q => aI 107 q (by omega))).fr (fc.c (by omega) (by omega)) (fc.c (by omega) (by omega))) (fun k9 q9 => (fc 101 k9 (by omega)).trans ((aI 101 k9 (by omega)).trans (hW k9 q9))) sc hZ
    | some b =>
      refine go_sub [0, 1, 2, 3, 4, 5, 6] [(6, .int (nI i)), (0, .ref (E.2.1 88)), (1, .int 2), (2, .int x2), (3, .int 16), (4, .int (nI (dcm 2 b))), (5, .int ((sayE (TMx CS ru) (svM g) vn 2) b))] (by rw [odg_dc]; rfl) ?_
      refine go_iload (pc' := 69) cx dX6_say_67 rfl rfl ?_
      refine go_iload_n (pc' := 70) cx dX6_say_69 rfl rfl ?_
      refine go_icmp_ge (pc' := 73) cx 171 dX6_say_70 rfl rfl (fun hh9 => absurd ((nI_leI (a := 16) (b := i) (by omega) (by omega)).mp hh9) (by omega)) (fun _ => ?_)
      refine go_iload (pc' := 75) cx dX6_say_73 rfl rfl ?_
      refine go_istore (pc' := 77) cx dX6_say_75 (ltn rfl) [(7, .int (nI i)), (6, .int (nI i)), (0, .ref (E.2.1 88)), (1, .int 2), (2, .int x2), (3, .int 16), (4, .int (nI (dcm 2 b))), (5, .int ((sayE (TMx CS ru) (svM g) vn 2) b))] rfl rfl ?_
      refine go_iconst (pc' := 78) cx 0 dX6_say_77 rfl rfl ?_
      refine go_istore (pc' := 80) cx dX6_say_78 (ltn rfl) [(8, .int 0), (7, .int (nI i)), (6, .int (nI i)), (0, .ref (E.2.1 88)), (1, .int 2), (2, .int x2), (3, .int 16), (4, .int (nI (dcm 2 b))), (5, .int ((sayE (TMx CS ru) (svM g) vn 2) b))] rfl rfl ?_
      refine go_iconst (pc' := 81) cx 1 dX6_say_80 rfl rfl ?_
      refine go_istore (pc' := 83) cx dX6_say_81 (ltn rfl) [(9, .int 1), (8, .int 0), (7, .int (nI i)), (6, .int (nI i)), (0, .ref (E.2.1 88)), (1, .int 2), (2, .int x2), (3, .int 16), (4, .int (nI (dcm 2 b))), (5, .int ((sayE (TMx CS ru) (svM g) vn 2) b))] rfl rfl ?_
      refine go_iload_n (pc' := 84) cx dX6_say_83 rfl rfl ?_
      refine go_iconst (pc' := 85) cx 1 dX6_say_84 rfl rfl ?_
      refine go_isub (pc' := 86) cx dX6_say_85 rfl ?_
      refine go_val (w := .int 1) (congrArg Value.int (by decide)) ?_
      refine go_istore (pc' := 88) cx dX6_say_86 (ltn rfl) [(10, .int 1), (9, .int 1), (8, .int 0), (7, .int (nI i)), (6, .int (nI i)), (0, .ref (E.2.1 88)), (1, .int 2), (2, .int x2), (3, .int 16), (4, .int (nI (dcm 2 b))), (5, .int ((sayE (TMx CS ru) (svM g) vn 2) b))] rfl rfl ?_
      refine go_iload (pc' := 90) cx dX6_say_88 rfl rfl ?_
      refine go_if_lt (pc' := 93) cx 138 dX6_say_90 rfl rfl (fun hh => absurd hh (by decide)) (fun _ => ?_)
      refine go_aload_n (pc' := 94) cx dX6_say_93 rfl rfl ?_
      refine go_getr (pc' := 97) cx 101 fX6_53 dX6_say_94 kq88 (ltn rfl) (ltn rfl) rfl rfl rfl ?_
      refine go_iload (pc' := 99) cx dX6_say_97 rfl rfl ?_
      refine go_iload (pc' := 101) cx dX6_say_99 rfl rfl ?_
      refine go_iconst (pc' := 102) cx 4 dX6_say_101 rfl rfl ?_
      refine go_irem (pc' := 103) cx (by decide) dX6_say_102 rfl ?_
      refine go_val (w := .int (nI (i % 4))) (congrArg Value.int (pk_rem (a := i) (d := 4) (by omega) (by decide) (by decide))) ?_
      refine go_iastk (pc' := 104) cx 1 dX6_say_103 kq101 (ltn rfl) (vpi (k := 1) (a := 2) (ltn rfl) rfl rfl) (cli (k := 1) (a := 2) (ltn rfl) rfl) rfl ?_
      refine go_iload (pc' := 106) cx dX6_say_104 rfl rfl ?_
      refine go_iconst (pc' := 107) cx 4 dX6_say_106 rfl rfl ?_
      refine go_idiv (pc' := 108) cx (by decide) dX6_say_107 rfl ?_
      refine go_val (w := .int (nI (i / 4))) (congrArg Value.int (pk_div (a := i) (d := 4) (by omega) (by decide) (by decide))) ?_
      refine go_istore (pc' := 110) cx dX6_say_108 (ltn rfl) [(7, .int (nI (i / 4))), (10, .int 1), (9, .int 1), (8, .int 0), (6, .int (nI i)), (0, .ref (E.2.1 88)), (1, .int 2), (2, .int x2), (3, .int 16), (4, .int (nI (dcm 2 b))), (5, .int ((sayE (TMx CS ru) (svM g) vn 2) b))] rfl rfl ?_
      refine go_iload (pc' := 112) cx dX6_say_110 rfl rfl ?_
      refine go_iload (pc' := 114) cx dX6_say_112 rfl rfl ?_
      refine go_aload_n (pc' := 115) cx dX6_say_114 rfl rfl ?_
      refine go_getr (pc' := 118) cx 101 fX6_53 dX6_say_115 kq88 (ltn rfl) (ltn rfl) rfl rfl rfl ?_
      refine go_iload (pc' := 120) cx dX6_say_118 rfl rfl ?_
      refine go_iald (pc' := 121) cx (nI (i % 4)) dX6_say_120 kq101 (ltn rfl) (vpi (k := 1) (a := 2) (ltn rfl) rfl rfl) ((congrArg ((up2 G 101 1 (nI (i % 4))) 101) (cli (k := 1) (a := 2) (ltn rfl) rfl)).trans (up2_s G 101 1 (nI (i % 4)))) rfl ?_
      refine go_imul (pc' := 122) cx dX6_say_121 rfl ?_
      refine go_val (w := .int (nI (1 * (i % 4)))) (congrArg Value.int (pk_mul 1 (i % 4))) ?_
      refine go_iadd (pc' := 123) cx dX6_say_122 rfl ?_
      refine go_val (w := .int (nI (0 + (1 * (i % 4))))) (congrArg Value.int (nI_add 0 (1 * (i % 4)))) ?_
      refine go_istore (pc' := 125) cx dX6_say_123 (ltn rfl) [(8, .int (nI (0 + (1 * (i % 4))))), (7, .int (nI (i / 4))), (10, .int 1), (9, .int 1), (6, .int (nI i)), (0, .ref (E.2.1 88)), (1, .int 2), (2, .int x2), (3, .int 16), (4, .int (nI (dcm 2 b))), (5, .int ((sayE (TMx CS ru) (svM g) vn 2) b))] rfl rfl ?_
      refine go_iload (pc' := 127) cx dX6_say_125 rfl rfl ?_
      refine go_bipush (pc' := 129) cx 10 dX6_say_127 rfl rfl ?_
      refine go_imul (pc' := 130) cx dX6_say_129 rfl ?_
      refine go_val (w := .int 10) (congrArg Value.int (by decide)) ?_
      refine go_istore (pc' := 132) cx dX6_say_130 (ltn rfl) [(9, .int 10), (8, .int (nI (0 + (1 * (i % 4))))), (7, .int (nI (i / 4))), (10, .int 1), (6, .int (nI i)), (0, .ref (E.2.1 88)), (1, .int 2), (2, .int x2), (3, .int 16), (4, .int (nI (dcm 2 b))), (5, .int ((sayE (TMx CS ru) (svM g) vn 2) b))] rfl rfl ?_
      refine go_iinc (pc' := 135) cx 0 dX6_say_132 rfl (by decide) (ltn rfl) [(10, .int 0), (9, .int 10), (8, .int (nI (0 + (1 * (i % 4))))), (7, .int (nI (i / 4))), (6, .int (nI i)), (0, .ref (E.2.1 88)), (1, .int 2), (2, .int x2), (3, .int 16), (4, .int (nI (dcm 2 b))), (5, .int ((sayE (TMx CS ru) (svM g) vn 2) b))] rfl rfl ?_
      refine go_goto cx 88 dX6_say_135 rfl ?_
      refine go_iload (pc' := 90) cx dX6_say_88 rfl rfl ?_
      refine go_if_lt (pc' := 93) cx 138 dX6_say_90 rfl rfl (fun hh => absurd hh (by decide)) (fun _ => ?_)
      refine go_aload_n (pc' := 94) cx dX6_say_93 rfl rfl ?_
      refine go_getr (pc' := 97) cx 101 fX6_53 dX6_say_94 kq88 (ltn rfl) (ltn rfl) rfl rfl rfl ?_
      refine go_iload (pc' := 99) cx dX6_say_97 rfl rfl ?_
      refine go_iload (pc' := 101) cx dX6_say_99 rfl rfl ?_
      refine go_iconst (pc' := 102) cx 4 dX6_say_101 rfl rfl ?_
      refine go_irem (pc' := 103) cx (by decide) dX6_say_102 rfl ?_
      refine go_val (w := .int (nI ((i / 4) % 4))) (congrArg Value.int (pk_rem (a := (i / 4)) (d := 4) (by omega) (by decide) (by decide))) ?_
      refine go_iastk (pc' := 104) cx 0 dX6_say_103 kq101 (ltn rfl) (vpi (k := 0) (a := 1) (ltn rfl) rfl rfl) (cli (k := 0) (a := 1) (ltn rfl) rfl) rfl ?_
      refine go_iload (pc' := 106) cx dX6_say_104 rfl rfl ?_
      refine go_iconst (pc' := 107) cx 4 dX6_say_106 rfl rfl ?_
      refine go_idiv (pc' := 108) cx (by decide) dX6_say_107 rfl ?_
      refine go_val (w := .int (nI ((i / 4) / 4))) (congrArg Value.int (pk_div (a := (i / 4)) (d := 4) (by omega) (by decide) (by decide))) ?_
      refine go_istore (pc' := 110) cx dX6_say_108 (ltn rfl) [(7, .int (nI ((i / 4) / 4))), (10, .int 0), (9, .int 10), (8, .int (nI (0 + (1 * (i % 4))))), (6, .int (nI i)), (0, .ref (E.2.1 88)), (1, .int 2), (2, .int x2), (3, .int 16), (4, .int (nI (dcm 2 b))), (5, .int ((sayE (TMx CS ru) (svM g) vn 2) b))] rfl rfl ?_
      refine go_iload (pc' := 112) cx dX6_say_110 rfl rfl ?_
      refine go_iload (pc' := 114) cx dX6_say_112 rfl rfl ?_
      refine go_aload_n (pc' := 115) cx dX6_say_114 rfl rfl ?_
      refine go_getr (pc' := 118) cx 101 fX6_53 dX6_say_115 kq88 (ltn rfl) (ltn rfl) rfl rfl rfl ?_
      refine go_iload (pc' := 120) cx dX6_say_118 rfl rfl ?_
      refine go_iald (pc' := 121) cx (nI ((i / 4) % 4)) dX6_say_120 kq101 (ltn rfl) (vpi (k := 0) (a := 1) (ltn rfl) rfl rfl) ((congrArg ((up2 (up2 G 101 1 (nI (i % 4))) 101 0 (nI ((i / 4) % 4))) 101) (cli (k := 0) (a := 1) (ltn rfl) rfl)).trans (up2_s (up2 G 101 1 (nI (i % 4))) 101 0 (nI ((i / 4) % 4)))) rfl ?_
      refine go_imul (pc' := 122) cx dX6_say_121 rfl ?_
      refine go_val (w := .int (nI (10 * ((i / 4) % 4)))) (congrArg Value.int (pk_mul 10 ((i / 4) % 4))) ?_
      refine go_iadd (pc' := 123) cx dX6_say_122 rfl ?_
      refine go_val (w := .int (nI ((0 + (1 * (i % 4))) + (10 * ((i / 4) % 4))))) (congrArg Value.int (nI_add (0 + (1 * (i % 4))) (10 * ((i / 4) % 4)))) ?_
      refine go_istore (pc' := 125) cx dX6_say_123 (ltn rfl) [(8, .int (nI ((0 + (1 * (i % 4))) + (10 * ((i / 4) % 4))))), (7, .int (nI ((i / 4) / 4))), (10, .int 0), (9, .int 10), (6, .int (nI i)), (0, .ref (E.2.1 88)), (1, .int 2), (2, .int x2), (3, .int 16), (4, .int (nI (dcm 2 b))), (5, .int ((sayE (TMx CS ru) (svM g) vn 2) b))] rfl rfl ?_
      refine go_iload (pc' := 127) cx dX6_say_125 rfl rfl ?_
      refine go_bipush (pc' := 129) cx 10 dX6_say_127 rfl rfl ?_
      refine go_imul (pc' := 130) cx dX6_say_129 rfl ?_
      refine go_val (w := .int 100) (congrArg Value.int (by decide)) ?_
      refine go_istore (pc' := 132) cx dX6_say_130 (ltn rfl) [(9, .int 100), (8, .int (nI ((0 + (1 * (i % 4))) + (10 * ((i / 4) % 4))))), (7, .int (nI ((i / 4) / 4))), (10, .int 0), (6, .int (nI i)), (0, .ref (E.2.1 88)), (1, .int 2), (2, .int x2), (3, .int 16), (4, .int (nI (dcm 2 b))), (5, .int ((sayE (TMx CS ru) (svM g) vn 2) b))] rfl rfl ?_
      refine go_iinc (pc' := 135) cx (-1) dX6_say_132 rfl (by decide) (ltn rfl) [(10, .int (-1)), (9, .int 100), (8, .int (nI ((0 + (1 * (i % 4))) + (10 * ((i / 4) % 4))))), (7, .int (nI ((i / 4) / 4))), (6, .int (nI i)), (0, .ref (E.2.1 88)), (1, .int 2), (2, .int x2), (3, .int 16), (4, .int (nI (dcm 2 b))), (5, .int ((sayE (TMx CS ru) (svM g) vn 2) b))] rfl rfl ?_
      refine go_goto cx 88 dX6_say_135 rfl ?_
      refine go_iload (pc' := 90) cx dX6_say_88 rfl rfl ?_
      refine go_if_lt (pc' := 93) cx 138 dX6_say_90 rfl rfl (fun _ => ?_) (fun hh => absurd (by decide) hh)
      refine go_aload_n (pc' := 139) cx dX6_say_138 rfl rfl ?_
      obtain ⟨GI, hGI⟩ : ∃ y : IG, y = (up2 (up2 G 101 1 (nI (i % 4))) 101 0 (nI ((i / 4) % 4))) := ⟨_, rfl⟩
      refine go_g hGI.symm ?_
      have aI : ∀ i9 q, ¬ (i9 = 101 ∧ q < 2) → GI i9 q = G i9 q := fun i9 q h9 => by
        rw [hGI, up2_n _ _ (by omega), up2_n _ _ (by omega)]
      have hFI : FrW (92 + 9) g GI := by
        rw [hGI]
        exact ((hF.up (by omega)).up (by omega))
      have hRI : Req (svM GI) (sayS (svM g) 2 i) hn vn := reqW (j := 9) (Or.inr (Or.inr rfl)) hFI (fun i9 k9 q => if_neg (fun q9 => q q9.1)) (fun k9 h9 => by
        show GI 101 k9 = _
        by_cases e : k9 < 2
        · rw [show sayS (svM g) 2 i 9 k9 = nI (dgt 2 i k9) from if_pos ⟨rfl, e⟩]
          rcases (show k9 = 0 ∨ k9 = 1 by omega) with rfl | rfl
          · rw [hGI, up2_s]
            refine congrArg nI ?_
            show i / 4 % 4 = i / 4 ^ 1 % 4
            omega
          · rw [hGI, up2_n _ _ (by omega), up2_s]
            refine congrArg nI ?_
            show i % 4 = i / 4 ^ 0 % 4
            omega
        · rw [show sayS (svM g) 2 i 9 k9 = svM g 9 k9 from if_neg (fun q9 => e q9.2), aI 101 k9 (by omega)]
          exact hW k9 (by omega))
      have hHI : HdS (svM GI) hn vn := by
        intro u hu
        obtain ⟨h, hh, e⟩ := hX.2.2.2.2.1 u hu
        exact ⟨h, hh, (hFI 99 u (by omega)).trans e⟩
      have hSI : SdI GI tc CS := hS.fr (funext fun q => aI 102 q (by omega))
      have hXI : XM GI hn vn ru tc CS := hX.fw (j := 9) (Or.inr (Or.inr rfl)) hFI hSI hHI
      have hE9 : BDs (TMx CS ru) (svM GI) vn = (sayE (TMx CS ru) (svM g) vn 2) i := hRI.bd hHI (by omega)
      refine go_cVIz (pc' := 142) cx (c_X6_courses l E (g := GI) hXI) mX6_courses lX6_421 dX6_say_139 kq88 (ltn rfl) (ltn rfl) rfl rfl rfl rfl (ltn rfl) (Nat.le_of_ble_eq_true rfl) (Nat.le_of_ble_eq_true rfl) rfl (fun xc GC zc hc => ?_)
      obtain ⟨ec, fc, -, -, sc⟩ := hc
      rw [hE9] at ec
      refine go_istore (pc' := 144) cx dX6_say_142 (ltn rfl) [(10, .int xc), (9, .int 100), (8, .int (nI ((0 + (1 * (i % 4))) + (10 * ((i / 4) % 4))))), (7, .int (nI ((i / 4) / 4))), (6, .int (nI i)), (0, .ref (E.2.1 88)), (1, .int 2), (2, .int x2), (3, .int 16), (4, .int (nI (dcm 2 b))), (5, .int ((sayE (TMx CS ru) (svM g) vn 2) b))] rfl rfl ?_
      refine go_iload (pc' := 146) cx dX6_say_144 rfl rfl ?_
      refine go_iconst (pc' := 147) cx (-1) dX6_say_146 rfl rfl ?_
      refine go_icmp_eq (pc' := 150) cx 157 dX6_say_147 rfl rfl (fun hh9 => absurd hh9 (dcm_nm (by omega))) (fun _ => ?_)
      refine go_iload (pc' := 152) cx dX6_say_150 rfl rfl ?_
      refine go_iload (pc' := 154) cx dX6_say_152 rfl rfl ?_
      refine go_icmp_ge (pc' := 157) cx 165 dX6_say_154 rfl rfl (fun c154 => ?_) (fun c154 => ?_)
      · have c154n := Int32.not_lt.mpr c154
        refine go_iinc (pc' := 168) cx (nI (i + 1)) dX6_say_165 rfl (nI_1 i) (ltn rfl) [(6, .int (nI (i + 1))), (10, .int xc), (9, .int 100), (8, .int (nI ((0 + (1 * (i % 4))) + (10 * ((i / 4) % 4))))), (7, .int (nI ((i / 4) / 4))), (0, .ref (E.2.1 88)), (1, .int 2), (2, .int x2), (3, .int 16), (4, .int (nI (dcm 2 b))), (5, .int ((sayE (TMx CS ru) (svM g) vn 2) b))] rfl rfl ?_
        refine go_goto cx 67 dX6_say_168 rfl ?_
        refine go_sub [0, 5, 6, 7, 8, 9, 10] [(6, .int (nI (i + 1))), (0, .ref (E.2.1 88)), (1, .int 2), (2, .int x2), (3, .int 16), (4, .int (nI (dcm 2 b))), (5, .int ((sayE (TMx CS ru) (svM g) vn 2) b))] rfl ?_
        have e9 : mns (sayE (TMx CS ru) (svM g) vn 2) (i + 1) = some b := (mns_ss hq).trans (if_neg (by rw [← ec]; exact Int32.not_lt.mpr c154))
        refine go_sub [0, 1, 2, 3, 4, 5, 6] [(6, .int (nI (i + 1))), (0, .ref (E.2.1 88)), (1, .int 2), (2, .int x2), (3, .int 16), (4, .int (odg 2 (mns (sayE (TMx CS ru) (svM g) vn 2) (i + 1)))), (5, .int (ow (sayE (TMx CS ru) (svM g) vn 2) (mns (sayE (TMx CS ru) (svM g) vn 2) (i + 1))))] (by rw [e9, odg_dc]; rfl) ?_
        exact ih (i + 1) GC zc (by omega) (hFI.tr fc.fw) ((hK.fr (funext fun q => aI 106 q (by omega)) (funext fun q => aI 107 q (by omega))).fr (fc.c (by omega) (by omega)) (fc.c (by omega) (by omega))) (fun k9 q9 => (fc 101 k9 (by omega)).trans ((aI 101 k9 (by omega)).trans (hW k9 q9))) sc hZ
      · have c154n := Int32.not_le.mp c154
        refine go_iload (pc' := 159) cx dX6_say_157 rfl rfl ?_
        refine go_istore (pc' := 161) cx dX6_say_159 (ltn rfl) [(4, .int (nI ((0 + (1 * (i % 4))) + (10 * ((i / 4) % 4))))), (10, .int xc), (9, .int 100), (8, .int (nI ((0 + (1 * (i % 4))) + (10 * ((i / 4) % 4))))), (7, .int (nI ((i / 4) / 4))), (6, .int (nI i)), (0, .ref (E.2.1 88)), (1, .int 2), (2, .int x2), (3, .int 16), (5, .int ((sayE (TMx CS ru) (svM g) vn 2) b))] rfl rfl ?_
        refine go_iload (pc' := 163) cx dX6_say_161 rfl rfl ?_
        refine go_istore (pc' := 165) cx dX6_say_163 (ltn rfl) [(5, .int xc), (4, .int (nI ((0 + (1 * (i % 4))) + (10 * ((i / 4) % 4))))), (10, .int xc), (9, .int 100), (8, .int (nI ((0 + (1 * (i % 4))) + (10 * ((i / 4) % 4))))), (7, .int (nI ((i / 4) / 4))), (6, .int (nI i)), (0, .ref (E.2.1 88)), (1, .int 2), (2, .int x2), (3, .int 16)] rfl rfl ?_
        refine go_iinc (pc' := 168) cx (nI (i + 1)) dX6_say_165 rfl (nI_1 i) (ltn rfl) [(6, .int (nI (i + 1))), (5, .int xc), (4, .int (nI ((0 + (1 * (i % 4))) + (10 * ((i / 4) % 4))))), (10, .int xc), (9, .int 100), (8, .int (nI ((0 + (1 * (i % 4))) + (10 * ((i / 4) % 4))))), (7, .int (nI ((i / 4) / 4))), (0, .ref (E.2.1 88)), (1, .int 2), (2, .int x2), (3, .int 16)] rfl rfl ?_
        refine go_goto cx 67 dX6_say_168 rfl ?_
        refine go_sub [0, 7, 8, 9, 10, 2, 1] [(6, .int (nI (i + 1))), (0, .ref (E.2.1 88)), (1, .int 2), (2, .int x2), (3, .int 16), (4, .int (nI ((0 + (1 * (i % 4))) + (10 * ((i / 4) % 4))))), (5, .int xc)] rfl ?_
        have e9 : mns (sayE (TMx CS ru) (svM g) vn 2) (i + 1) = some i := (mns_ss hq).trans (if_pos (by rw [← ec]; exact Int32.not_le.mp c154))
        have e8 : nI ((0 + (1 * (i % 4))) + (10 * ((i / 4) % 4))) = nI (dcm 2 i) := congrArg nI (show ((0 + (1 * (i % 4))) + (10 * ((i / 4) % 4))) = dcm 2 i from by
          simp only [dcm]
          omega)
        refine go_sub [0, 1, 2, 3, 4, 5, 6] [(6, .int (nI (i + 1))), (0, .ref (E.2.1 88)), (1, .int 2), (2, .int x2), (3, .int 16), (4, .int (odg 2 (mns (sayE (TMx CS ru) (svM g) vn 2) (i + 1)))), (5, .int (ow (sayE (TMx CS ru) (svM g) vn 2) (mns (sayE (TMx CS ru) (svM g) vn 2) (i + 1))))] (by rw [e9, odg_dc, e8, ec]; rfl) ?_
        exact ih (i + 1) GC zc (by omega) (hFI.tr fc.fw) ((hK.fr (funext fun q => aI 106 q (by omega)) (funext fun q => aI 107 q (by omega))).fr (fc.c (by omega) (by omega)) (fc.c (by omega) (by omega))) (fun k9 q9 => (fc 101 k9 (by omega)).trans ((aI 101 k9 (by omega)).trans (hW k9 q9))) sc hZ

set_option maxHeartbeats 1000000 in
set_option maxRecDepth 20000 in
theorem sayM_loop3 {l : Launch} {E : Ev} {Z : ZT} {o : Option Nat} {p : Program} {e : Env} {s : State} {m : MethodId} {args : Array Value} {below : List Frame} {meth : Method} {c : Code} {g : IG} {hn vn ru tc : Nat} {CS : CSt} (hX : XM g hn vn ru tc CS) {x2 : Int32} (cx : Cx p s m args meth c E 115 cX6_say 11 yX6_say.cls (some .int)) : ∀ (k i : Nat) (G : IG) (z : Int64), i + k = 64 → FrW (92 + 9) g G → KpS g G → (∀ k, 3 ≤ k → G 101 k = g 101 k) → SdI G tc CS → (∀ (G9 : IG) (z9 : Int64), FrJ g G9 → SdI G9 tc CS → Z (some (.int (if x2 = 0 then ow (sayE (TMx CS ru) (svM g) vn 3) (mns (sayE (TMx CS ru) (svM g) vn 3) 64) else odg 3 (mns (sayE (TMx CS ru) (svM g) vn 3) 64)))) G9 (RFo o) z9) → Go p l e (rmd 49) s m args below meth c E 115 11 Z G (RFo o) z 67 [(6, .int (nI i)), (0, .ref (E.2.1 88)), (1, .int 3), (2, .int x2), (3, .int 64), (4, .int (odg 3 (mns (sayE (TMx CS ru) (svM g) vn 3) i))), (5, .int (ow (sayE (TMx CS ru) (svM g) vn 3) (mns (sayE (TMx CS ru) (svM g) vn 3) i)))] [] := by
  intro k
  have hb := hX.1
  induction k with
  | zero =>
    intro i G z hk hF hK hW hS hZ
    have hi : i = 64 := by omega
    subst hi
    refine go_iload (pc' := 69) cx dX6_say_67 rfl rfl ?_
    refine go_iload_n (pc' := 70) cx dX6_say_69 rfl rfl ?_
    refine go_icmp_ge (pc' := 73) cx 171 dX6_say_70 rfl rfl (fun _ => ?_) (fun hh => absurd hh (by decide))
    refine go_aload_n (pc' := 172) cx dX6_say_171 rfl rfl ?_
    refine go_cVV (pc' := 175) cx (c_X6_laysBack l E (g := G)) mX6_laysBack lX6_429 dX6_say_172 kq88 (ltn rfl) (ltn rfl) rfl rfl rfl rfl (ltn rfl) (Nat.le_of_ble_eq_true rfl) (Nat.le_of_ble_eq_true rfl) rfl (fun GT hT => ?_)
    obtain ⟨t1, t2⟩ := hT
    refine go_iload_n (pc' := 176) cx dX6_say_175 rfl rfl ?_
    refine go_if_ne (pc' := 179) cx 184 dX6_say_176 rfl rfl (fun c176 => ?_) (fun c176 => ?_)
    · refine go_iload (pc' := 186) cx dX6_say_184 rfl rfl ?_
      refine go_iret cx rfl dX6_say_186 ?_
      have h9 := hZ GT z (hF.j (Or.inr rfl) hK t1 t2) (hS.fr (funext fun k => t1 102 k (by omega)))
      first | (rw [if_pos c176] at h9; exact h9) | (rw [if_neg c176] at h9; exact h9)
    · refine go_iload (pc' := 181) cx dX6_say_179 rfl rfl ?_
      refine go_goto cx 186 dX6_say_181 rfl ?_
      refine go_iret cx rfl dX6_say_186 ?_
      have h9 := hZ GT z (hF.j (Or.inr rfl) hK t1 t2) (hS.fr (funext fun k => t1 102 k (by omega)))
      first | (rw [if_pos c176] at h9; exact h9) | (rw [if_neg c176] at h9; exact h9)
  | succ k ih =>
    intro i G z hk hF hK hW hS hZ
    cases hq : mns (sayE (TMx CS ru) (svM g) vn 3) i with
    | none =>
      refine go_sub [0, 1, 2, 3, 4, 5, 6] [(6, .int (nI i)), (0, .ref (E.2.1 88)), (1, .int 3), (2, .int x2), (3, .int 64), (4, .int (-1)), (5, .int 0)] rfl ?_
      refine go_iload (pc' := 69) cx dX6_say_67 rfl rfl ?_
      refine go_iload_n (pc' := 70) cx dX6_say_69 rfl rfl ?_
      refine go_icmp_ge (pc' := 73) cx 171 dX6_say_70 rfl rfl (fun hh9 => absurd ((nI_leI (a := 64) (b := i) (by omega) (by omega)).mp hh9) (by omega)) (fun _ => ?_)
      refine go_iload (pc' := 75) cx dX6_say_73 rfl rfl ?_
      refine go_istore (pc' := 77) cx dX6_say_75 (ltn rfl) [(7, .int (nI i)), (6, .int (nI i)), (0, .ref (E.2.1 88)), (1, .int 3), (2, .int x2), (3, .int 64), (4, .int (-1)), (5, .int 0)] rfl rfl ?_
      refine go_iconst (pc' := 78) cx 0 dX6_say_77 rfl rfl ?_
      refine go_istore (pc' := 80) cx dX6_say_78 (ltn rfl) [(8, .int 0), (7, .int (nI i)), (6, .int (nI i)), (0, .ref (E.2.1 88)), (1, .int 3), (2, .int x2), (3, .int 64), (4, .int (-1)), (5, .int 0)] rfl rfl ?_
      refine go_iconst (pc' := 81) cx 1 dX6_say_80 rfl rfl ?_
      refine go_istore (pc' := 83) cx dX6_say_81 (ltn rfl) [(9, .int 1), (8, .int 0), (7, .int (nI i)), (6, .int (nI i)), (0, .ref (E.2.1 88)), (1, .int 3), (2, .int x2), (3, .int 64), (4, .int (-1)), (5, .int 0)] rfl rfl ?_
      refine go_iload_n (pc' := 84) cx dX6_say_83 rfl rfl ?_
      refine go_iconst (pc' := 85) cx 1 dX6_say_84 rfl rfl ?_
      refine go_isub (pc' := 86) cx dX6_say_85 rfl ?_
      refine go_val (w := .int 2) (congrArg Value.int (by decide)) ?_
      refine go_istore (pc' := 88) cx dX6_say_86 (ltn rfl) [(10, .int 2), (9, .int 1), (8, .int 0), (7, .int (nI i)), (6, .int (nI i)), (0, .ref (E.2.1 88)), (1, .int 3), (2, .int x2), (3, .int 64), (4, .int (-1)), (5, .int 0)] rfl rfl ?_
      refine go_iload (pc' := 90) cx dX6_say_88 rfl rfl ?_
      refine go_if_lt (pc' := 93) cx 138 dX6_say_90 rfl rfl (fun hh => absurd hh (by decide)) (fun _ => ?_)
      refine go_aload_n (pc' := 94) cx dX6_say_93 rfl rfl ?_
      refine go_getr (pc' := 97) cx 101 fX6_53 dX6_say_94 kq88 (ltn rfl) (ltn rfl) rfl rfl rfl ?_
      refine go_iload (pc' := 99) cx dX6_say_97 rfl rfl ?_
      refine go_iload (pc' := 101) cx dX6_say_99 rfl rfl ?_
      refine go_iconst (pc' := 102) cx 4 dX6_say_101 rfl rfl ?_
      refine go_irem (pc' := 103) cx (by decide) dX6_say_102 rfl ?_
      refine go_val (w := .int (nI (i % 4))) (congrArg Value.int (pk_rem (a := i) (d := 4) (by omega) (by decide) (by decide))) ?_
      refine go_iastk (pc' := 104) cx 2 dX6_say_103 kq101 (ltn rfl) (vpi (k := 2) (a := 3) (ltn rfl) rfl rfl) (cli (k := 2) (a := 3) (ltn rfl) rfl) rfl ?_
      refine go_iload (pc' := 106) cx dX6_say_104 rfl rfl ?_
      refine go_iconst (pc' := 107) cx 4 dX6_say_106 rfl rfl ?_
      refine go_idiv (pc' := 108) cx (by decide) dX6_say_107 rfl ?_
      refine go_val (w := .int (nI (i / 4))) (congrArg Value.int (pk_div (a := i) (d := 4) (by omega) (by decide) (by decide))) ?_
      refine go_istore (pc' := 110) cx dX6_say_108 (ltn rfl) [(7, .int (nI (i / 4))), (10, .int 2), (9, .int 1), (8, .int 0), (6, .int (nI i)), (0, .ref (E.2.1 88)), (1, .int 3), (2, .int x2), (3, .int 64), (4, .int (-1)), (5, .int 0)] rfl rfl ?_
      refine go_iload (pc' := 112) cx dX6_say_110 rfl rfl ?_
      refine go_iload (pc' := 114) cx dX6_say_112 rfl rfl ?_
      refine go_aload_n (pc' := 115) cx dX6_say_114 rfl rfl ?_
      refine go_getr (pc' := 118) cx 101 fX6_53 dX6_say_115 kq88 (ltn rfl) (ltn rfl) rfl rfl rfl ?_
      refine go_iload (pc' := 120) cx dX6_say_118 rfl rfl ?_
      refine go_iald (pc' := 121) cx (nI (i % 4)) dX6_say_120 kq101 (ltn rfl) (vpi (k := 2) (a := 3) (ltn rfl) rfl rfl) ((congrArg ((up2 G 101 2 (nI (i % 4))) 101) (cli (k := 2) (a := 3) (ltn rfl) rfl)).trans (up2_s G 101 2 (nI (i % 4)))) rfl ?_
      refine go_imul (pc' := 122) cx dX6_say_121 rfl ?_
      refine go_val (w := .int (nI (1 * (i % 4)))) (congrArg Value.int (pk_mul 1 (i % 4))) ?_
      refine go_iadd (pc' := 123) cx dX6_say_122 rfl ?_
      refine go_val (w := .int (nI (0 + (1 * (i % 4))))) (congrArg Value.int (nI_add 0 (1 * (i % 4)))) ?_
      refine go_istore (pc' := 125) cx dX6_say_123 (ltn rfl) [(8, .int (nI (0 + (1 * (i % 4))))), (7, .int (nI (i / 4))), (10, .int 2), (9, .int 1), (6, .int (nI i)), (0, .ref (E.2.1 88)), (1, .int 3), (2, .int x2), (3, .int 64), (4, .int (-1)), (5, .int 0)] rfl rfl ?_
      refine go_iload (pc' := 127) cx dX6_say_125 rfl rfl ?_
      refine go_bipush (pc' := 129) cx 10 dX6_say_127 rfl rfl ?_
      refine go_imul (pc' := 130) cx dX6_say_129 rfl ?_
      refine go_val (w := .int 10) (congrArg Value.int (by decide)) ?_
      refine go_istore (pc' := 132) cx dX6_say_130 (ltn rfl) [(9, .int 10), (8, .int (nI (0 + (1 * (i % 4))))), (7, .int (nI (i / 4))), (10, .int 2), (6, .int (nI i)), (0, .ref (E.2.1 88)), (1, .int 3), (2, .int x2), (3, .int 64), (4, .int (-1)), (5, .int 0)] rfl rfl ?_
      refine go_iinc (pc' := 135) cx 1 dX6_say_132 rfl (by decide) (ltn rfl) [(10, .int 1), (9, .int 10), (8, .int (nI (0 + (1 * (i % 4))))), (7, .int (nI (i / 4))), (6, .int (nI i)), (0, .ref (E.2.1 88)), (1, .int 3), (2, .int x2), (3, .int 64), (4, .int (-1)), (5, .int 0)] rfl rfl ?_
      refine go_goto cx 88 dX6_say_135 rfl ?_
      refine go_iload (pc' := 90) cx dX6_say_88 rfl rfl ?_
      refine go_if_lt (pc' := 93) cx 138 dX6_say_90 rfl rfl (fun hh => absurd hh (by decide)) (fun _ => ?_)
      refine go_aload_n (pc' := 94) cx dX6_say_93 rfl rfl ?_
      refine go_getr (pc' := 97) cx 101 fX6_53 dX6_say_94 kq88 (ltn rfl) (ltn rfl) rfl rfl rfl ?_
      refine go_iload (pc' := 99) cx dX6_say_97 rfl rfl ?_
      refine go_iload (pc' := 101) cx dX6_say_99 rfl rfl ?_
      refine go_iconst (pc' := 102) cx 4 dX6_say_101 rfl rfl ?_
      refine go_irem (pc' := 103) cx (by decide) dX6_say_102 rfl ?_
      refine go_val (w := .int (nI ((i / 4) % 4))) (congrArg Value.int (pk_rem (a := (i / 4)) (d := 4) (by omega) (by decide) (by decide))) ?_
      refine go_iastk (pc' := 104) cx 1 dX6_say_103 kq101 (ltn rfl) (vpi (k := 1) (a := 2) (ltn rfl) rfl rfl) (cli (k := 1) (a := 2) (ltn rfl) rfl) rfl ?_
      refine go_iload (pc' := 106) cx dX6_say_104 rfl rfl ?_
      refine go_iconst (pc' := 107) cx 4 dX6_say_106 rfl rfl ?_
      refine go_idiv (pc' := 108) cx (by decide) dX6_say_107 rfl ?_
      refine go_val (w := .int (nI ((i / 4) / 4))) (congrArg Value.int (pk_div (a := (i / 4)) (d := 4) (by omega) (by decide) (by decide))) ?_
      refine go_istore (pc' := 110) cx dX6_say_108 (ltn rfl) [(7, .int (nI ((i / 4) / 4))), (10, .int 1), (9, .int 10), (8, .int (nI (0 + (1 * (i % 4))))), (6, .int (nI i)), (0, .ref (E.2.1 88)), (1, .int 3), (2, .int x2), (3, .int 64), (4, .int (-1)), (5, .int 0)] rfl rfl ?_
      refine go_iload (pc' := 112) cx dX6_say_110 rfl rfl ?_
      refine go_iload (pc' := 114) cx dX6_say_112 rfl rfl ?_
      refine go_aload_n (pc' := 115) cx dX6_say_114 rfl rfl ?_
      refine go_getr (pc' := 118) cx 101 fX6_53 dX6_say_115 kq88 (ltn rfl) (ltn rfl) rfl rfl rfl ?_
      refine go_iload (pc' := 120) cx dX6_say_118 rfl rfl ?_
      refine go_iald (pc' := 121) cx (nI ((i / 4) % 4)) dX6_say_120 kq101 (ltn rfl) (vpi (k := 1) (a := 2) (ltn rfl) rfl rfl) ((congrArg ((up2 (up2 G 101 2 (nI (i % 4))) 101 1 (nI ((i / 4) % 4))) 101) (cli (k := 1) (a := 2) (ltn rfl) rfl)).trans (up2_s (up2 G 101 2 (nI (i % 4))) 101 1 (nI ((i / 4) % 4)))) rfl ?_
      refine go_imul (pc' := 122) cx dX6_say_121 rfl ?_
      refine go_val (w := .int (nI (10 * ((i / 4) % 4)))) (congrArg Value.int (pk_mul 10 ((i / 4) % 4))) ?_
      refine go_iadd (pc' := 123) cx dX6_say_122 rfl ?_
      refine go_val (w := .int (nI ((0 + (1 * (i % 4))) + (10 * ((i / 4) % 4))))) (congrArg Value.int (nI_add (0 + (1 * (i % 4))) (10 * ((i / 4) % 4)))) ?_
      refine go_istore (pc' := 125) cx dX6_say_123 (ltn rfl) [(8, .int (nI ((0 + (1 * (i % 4))) + (10 * ((i / 4) % 4))))), (7, .int (nI ((i / 4) / 4))), (10, .int 1), (9, .int 10), (6, .int (nI i)), (0, .ref (E.2.1 88)), (1, .int 3), (2, .int x2), (3, .int 64), (4, .int (-1)), (5, .int 0)] rfl rfl ?_
      refine go_iload (pc' := 127) cx dX6_say_125 rfl rfl ?_
      refine go_bipush (pc' := 129) cx 10 dX6_say_127 rfl rfl ?_
      refine go_imul (pc' := 130) cx dX6_say_129 rfl ?_
      refine go_val (w := .int 100) (congrArg Value.int (by decide)) ?_
      refine go_istore (pc' := 132) cx dX6_say_130 (ltn rfl) [(9, .int 100), (8, .int (nI ((0 + (1 * (i % 4))) + (10 * ((i / 4) % 4))))), (7, .int (nI ((i / 4) / 4))), (10, .int 1), (6, .int (nI i)), (0, .ref (E.2.1 88)), (1, .int 3), (2, .int x2), (3, .int 64), (4, .int (-1)), (5, .int 0)] rfl rfl ?_
      refine go_iinc (pc' := 135) cx 0 dX6_say_132 rfl (by decide) (ltn rfl) [(10, .int 0), (9, .int 100), (8, .int (nI ((0 + (1 * (i % 4))) + (10 * ((i / 4) % 4))))), (7, .int (nI ((i / 4) / 4))), (6, .int (nI i)), (0, .ref (E.2.1 88)), (1, .int 3), (2, .int x2), (3, .int 64), (4, .int (-1)), (5, .int 0)] rfl rfl ?_
      refine go_goto cx 88 dX6_say_135 rfl ?_
      refine go_iload (pc' := 90) cx dX6_say_88 rfl rfl ?_
      refine go_if_lt (pc' := 93) cx 138 dX6_say_90 rfl rfl (fun hh => absurd hh (by decide)) (fun _ => ?_)
      refine go_aload_n (pc' := 94) cx dX6_say_93 rfl rfl ?_
      refine go_getr (pc' := 97) cx 101 fX6_53 dX6_say_94 kq88 (ltn rfl) (ltn rfl) rfl rfl rfl ?_
      refine go_iload (pc' := 99) cx dX6_say_97 rfl rfl ?_
      refine go_iload (pc' := 101) cx dX6_say_99 rfl rfl ?_
      refine go_iconst (pc' := 102) cx 4 dX6_say_101 rfl rfl ?_
      refine go_irem (pc' := 103) cx (by decide) dX6_say_102 rfl ?_
      refine go_val (w := .int (nI (((i / 4) / 4) % 4))) (congrArg Value.int (pk_rem (a := ((i / 4) / 4)) (d := 4) (by omega) (by decide) (by decide))) ?_
      refine go_iastk (pc' := 104) cx 0 dX6_say_103 kq101 (ltn rfl) (vpi (k := 0) (a := 1) (ltn rfl) rfl rfl) (cli (k := 0) (a := 1) (ltn rfl) rfl) rfl ?_
      refine go_iload (pc' := 106) cx dX6_say_104 rfl rfl ?_
      refine go_iconst (pc' := 107) cx 4 dX6_say_106 rfl rfl ?_
      refine go_idiv (pc' := 108) cx (by decide) dX6_say_107 rfl ?_
      refine go_val (w := .int (nI (((i / 4) / 4) / 4))) (congrArg Value.int (pk_div (a := ((i / 4) / 4)) (d := 4) (by omega) (by decide) (by decide))) ?_
      refine go_istore (pc' := 110) cx dX6_say_108 (ltn rfl) [(7, .int (nI (((i / 4) / 4) / 4))), (10, .int 0), (9, .int 100), (8, .int (nI ((0 + (1 * (i % 4))) + (10 * ((i / 4) % 4))))), (6, .int (nI i)), (0, .ref (E.2.1 88)), (1, .int 3), (2, .int x2), (3, .int 64), (4, .int (-1)), (5, .int 0)] rfl rfl ?_
      refine go_iload (pc' := 112) cx dX6_say_110 rfl rfl ?_
      refine go_iload (pc' := 114) cx dX6_say_112 rfl rfl ?_
      refine go_aload_n (pc' := 115) cx dX6_say_114 rfl rfl ?_
      refine go_getr (pc' := 118) cx 101 fX6_53 dX6_say_115 kq88 (ltn rfl) (ltn rfl) rfl rfl rfl ?_
      refine go_iload (pc' := 120) cx dX6_say_118 rfl rfl ?_
      refine go_iald (pc' := 121) cx (nI (((i / 4) / 4) % 4)) dX6_say_120 kq101 (ltn rfl) (vpi (k := 0) (a := 1) (ltn rfl) rfl rfl) ((congrArg ((up2 (up2 (up2 G 101 2 (nI (i % 4))) 101 1 (nI ((i / 4) % 4))) 101 0 (nI (((i / 4) / 4) % 4))) 101) (cli (k := 0) (a := 1) (ltn rfl) rfl)).trans (up2_s (up2 (up2 G 101 2 (nI (i % 4))) 101 1 (nI ((i / 4) % 4))) 101 0 (nI (((i / 4) / 4) % 4)))) rfl ?_
      refine go_imul (pc' := 122) cx dX6_say_121 rfl ?_
      refine go_val (w := .int (nI (100 * (((i / 4) / 4) % 4)))) (congrArg Value.int (pk_mul 100 (((i / 4) / 4) % 4))) ?_
      refine go_iadd (pc' := 123) cx dX6_say_122 rfl ?_
      refine go_val (w := .int (nI (((0 + (1 * (i % 4))) + (10 * ((i / 4) % 4))) + (100 * (((i / 4) / 4) % 4))))) (congrArg Value.int (nI_add ((0 + (1 * (i % 4))) + (10 * ((i / 4) % 4))) (100 * (((i / 4) / 4) % 4)))) ?_
      refine go_istore (pc' := 125) cx dX6_say_123 (ltn rfl) [(8, .int (nI (((0 + (1 * (i % 4))) + (10 * ((i / 4) % 4))) + (100 * (((i / 4) / 4) % 4))))), (7, .int (nI (((i / 4) / 4) / 4))), (10, .int 0), (9, .int 100), (6, .int (nI i)), (0, .ref (E.2.1 88)), (1, .int 3), (2, .int x2), (3, .int 64), (4, .int (-1)), (5, .int 0)] rfl rfl ?_
      refine go_iload (pc' := 127) cx dX6_say_125 rfl rfl ?_
      refine go_bipush (pc' := 129) cx 10 dX6_say_127 rfl rfl ?_
      refine go_imul (pc' := 130) cx dX6_say_129 rfl ?_
      refine go_val (w := .int 1000) (congrArg Value.int (by decide)) ?_
      refine go_istore (pc' := 132) cx dX6_say_130 (ltn rfl) [(9, .int 1000), (8, .int (nI (((0 + (1 * (i % 4))) + (10 * ((i / 4) % 4))) + (100 * (((i / 4) / 4) % 4))))), (7, .int (nI (((i / 4) / 4) / 4))), (10, .int 0), (6, .int (nI i)), (0, .ref (E.2.1 88)), (1, .int 3), (2, .int x2), (3, .int 64), (4, .int (-1)), (5, .int 0)] rfl rfl ?_
      refine go_iinc (pc' := 135) cx (-1) dX6_say_132 rfl (by decide) (ltn rfl) [(10, .int (-1)), (9, .int 1000), (8, .int (nI (((0 + (1 * (i % 4))) + (10 * ((i / 4) % 4))) + (100 * (((i / 4) / 4) % 4))))), (7, .int (nI (((i / 4) / 4) / 4))), (6, .int (nI i)), (0, .ref (E.2.1 88)), (1, .int 3), (2, .int x2), (3, .int 64), (4, .int (-1)), (5, .int 0)] rfl rfl ?_
      refine go_goto cx 88 dX6_say_135 rfl ?_
      refine go_iload (pc' := 90) cx dX6_say_88 rfl rfl ?_
      refine go_if_lt (pc' := 93) cx 138 dX6_say_90 rfl rfl (fun _ => ?_) (fun hh => absurd (by decide) hh)
      refine go_aload_n (pc' := 139) cx dX6_say_138 rfl rfl ?_
      obtain ⟨GI, hGI⟩ : ∃ y : IG, y = (up2 (up2 (up2 G 101 2 (nI (i % 4))) 101 1 (nI ((i / 4) % 4))) 101 0 (nI (((i / 4) / 4) % 4))) := ⟨_, rfl⟩
      refine go_g hGI.symm ?_
      have aI : ∀ i9 q, ¬ (i9 = 101 ∧ q < 3) → GI i9 q = G i9 q := fun i9 q h9 => by
        rw [hGI, up2_n _ _ (by omega), up2_n _ _ (by omega), up2_n _ _ (by omega)]
      have hFI : FrW (92 + 9) g GI := by
        rw [hGI]
        exact (((hF.up (by omega)).up (by omega)).up (by omega))
      have hRI : Req (svM GI) (sayS (svM g) 3 i) hn vn := reqW (j := 9) (Or.inr (Or.inr rfl)) hFI (fun i9 k9 q => if_neg (fun q9 => q q9.1)) (fun k9 h9 => by
        show GI 101 k9 = _
        by_cases e : k9 < 3
        · rw [show sayS (svM g) 3 i 9 k9 = nI (dgt 3 i k9) from if_pos ⟨rfl, e⟩]
          rcases (show k9 = 0 ∨ k9 = 1 ∨ k9 = 2 by omega) with rfl | rfl | rfl
          · rw [hGI, up2_s]
            refine congrArg nI ?_
            show i / 4 / 4 % 4 = i / 4 ^ 2 % 4
            omega
          · rw [hGI, up2_n _ _ (by omega), up2_s]
            refine congrArg nI ?_
            show i / 4 % 4 = i / 4 ^ 1 % 4
            omega
          · rw [hGI, up2_n _ _ (by omega), up2_n _ _ (by omega), up2_s]
            refine congrArg nI ?_
            show i % 4 = i / 4 ^ 0 % 4
            omega
        · rw [show sayS (svM g) 3 i 9 k9 = svM g 9 k9 from if_neg (fun q9 => e q9.2), aI 101 k9 (by omega)]
          exact hW k9 (by omega))
      have hHI : HdS (svM GI) hn vn := by
        intro u hu
        obtain ⟨h, hh, e⟩ := hX.2.2.2.2.1 u hu
        exact ⟨h, hh, (hFI 99 u (by omega)).trans e⟩
      have hSI : SdI GI tc CS := hS.fr (funext fun q => aI 102 q (by omega))
      have hXI : XM GI hn vn ru tc CS := hX.fw (j := 9) (Or.inr (Or.inr rfl)) hFI hSI hHI
      have hE9 : BDs (TMx CS ru) (svM GI) vn = (sayE (TMx CS ru) (svM g) vn 3) i := hRI.bd hHI (by omega)
      refine go_cVIz (pc' := 142) cx (c_X6_courses l E (g := GI) hXI) mX6_courses lX6_421 dX6_say_139 kq88 (ltn rfl) (ltn rfl) rfl rfl rfl rfl (ltn rfl) (Nat.le_of_ble_eq_true rfl) (Nat.le_of_ble_eq_true rfl) rfl (fun xc GC zc hc => ?_)
      obtain ⟨ec, fc, -, -, sc⟩ := hc
      rw [hE9] at ec
      refine go_istore (pc' := 144) cx dX6_say_142 (ltn rfl) [(10, .int xc), (9, .int 1000), (8, .int (nI (((0 + (1 * (i % 4))) + (10 * ((i / 4) % 4))) + (100 * (((i / 4) / 4) % 4))))), (7, .int (nI (((i / 4) / 4) / 4))), (6, .int (nI i)), (0, .ref (E.2.1 88)), (1, .int 3), (2, .int x2), (3, .int 64), (4, .int (-1)), (5, .int 0)] rfl rfl ?_
      refine go_iload (pc' := 146) cx dX6_say_144 rfl rfl ?_
      refine go_iconst (pc' := 147) cx (-1) dX6_say_146 rfl rfl ?_
      refine go_icmp_eq (pc' := 150) cx 157 dX6_say_147 rfl rfl (fun _ => ?_) (fun hh9 => absurd rfl hh9)
      refine go_iload (pc' := 159) cx dX6_say_157 rfl rfl ?_
      refine go_istore (pc' := 161) cx dX6_say_159 (ltn rfl) [(4, .int (nI (((0 + (1 * (i % 4))) + (10 * ((i / 4) % 4))) + (100 * (((i / 4) / 4) % 4))))), (10, .int xc), (9, .int 1000), (8, .int (nI (((0 + (1 * (i % 4))) + (10 * ((i / 4) % 4))) + (100 * (((i / 4) / 4) % 4))))), (7, .int (nI (((i / 4) / 4) / 4))), (6, .int (nI i)), (0, .ref (E.2.1 88)), (1, .int 3), (2, .int x2), (3, .int 64), (5, .int 0)] rfl rfl ?_
      refine go_iload (pc' := 163) cx dX6_say_161 rfl rfl ?_
      refine go_istore (pc' := 165) cx dX6_say_163 (ltn rfl) [(5, .int xc), (4, .int (nI (((0 + (1 * (i % 4))) + (10 * ((i / 4) % 4))) + (100 * (((i / 4) / 4) % 4))))), (10, .int xc), (9, .int 1000), (8, .int (nI (((0 + (1 * (i % 4))) + (10 * ((i / 4) % 4))) + (100 * (((i / 4) / 4) % 4))))), (7, .int (nI (((i / 4) / 4) / 4))), (6, .int (nI i)), (0, .ref (E.2.1 88)), (1, .int 3), (2, .int x2), (3, .int 64)] rfl rfl ?_
      refine go_iinc (pc' := 168) cx (nI (i + 1)) dX6_say_165 rfl (nI_1 i) (ltn rfl) [(6, .int (nI (i + 1))), (5, .int xc), (4, .int (nI (((0 + (1 * (i % 4))) + (10 * ((i / 4) % 4))) + (100 * (((i / 4) / 4) % 4))))), (10, .int xc), (9, .int 1000), (8, .int (nI (((0 + (1 * (i % 4))) + (10 * ((i / 4) % 4))) + (100 * (((i / 4) / 4) % 4))))), (7, .int (nI (((i / 4) / 4) / 4))), (0, .ref (E.2.1 88)), (1, .int 3), (2, .int x2), (3, .int 64)] rfl rfl ?_
      refine go_goto cx 67 dX6_say_168 rfl ?_
      refine go_sub [0, 7, 8, 9, 10, 2, 1] [(6, .int (nI (i + 1))), (0, .ref (E.2.1 88)), (1, .int 3), (2, .int x2), (3, .int 64), (4, .int (nI (((0 + (1 * (i % 4))) + (10 * ((i / 4) % 4))) + (100 * (((i / 4) / 4) % 4))))), (5, .int xc)] rfl ?_
      have e9 : mns (sayE (TMx CS ru) (svM g) vn 3) (i + 1) = some i := mns_sn hq
      have e8 : nI (((0 + (1 * (i % 4))) + (10 * ((i / 4) % 4))) + (100 * (((i / 4) / 4) % 4))) = nI (dcm 3 i) := congrArg nI (show (((0 + (1 * (i % 4))) + (10 * ((i / 4) % 4))) + (100 * (((i / 4) / 4) % 4))) = dcm 3 i from by
        simp only [dcm]
        omega)
      refine go_sub [0, 1, 2, 3, 4, 5, 6] [(6, .int (nI (i + 1))), (0, .ref (E.2.1 88)), (1, .int 3), (2, .int x2), (3, .int 64), (4, .int (odg 3 (mns (sayE (TMx CS ru) (svM g) vn 3) (i + 1)))), (5, .int (ow (sayE (TMx CS ru) (svM g) vn 3) (mns (sayE (TMx CS ru) (svM g) vn 3) (i + 1))))] (by rw [e9, odg_dc, e8, ec]; rfl) ?_
      exact ih (i + 1) GC zc (by omega) (hFI.tr fc.fw) ((hK.fr (funext fun q => aI 106 q (by omega)) (funext fun q => aI 107 q (by omega))).fr (fc.c (by omega) (by omega)) (fc.c (by omega) (by omega))) (fun k9 q9 => (fc 101 k9 (by omega)).trans ((aI 101 k9 (by omega)).trans (hW k9 q9))) sc hZ
    | some b =>
      refine go_sub [0, 1, 2, 3, 4, 5, 6] [(6, .int (nI i)), (0, .ref (E.2.1 88)), (1, .int 3), (2, .int x2), (3, .int 64), (4, .int (nI (dcm 3 b))), (5, .int ((sayE (TMx CS ru) (svM g) vn 3) b))] (by rw [odg_dc]; rfl) ?_
      refine go_iload (pc' := 69) cx dX6_say_67 rfl rfl ?_
      refine go_iload_n (pc' := 70) cx dX6_say_69 rfl rfl ?_
      refine go_icmp_ge (pc' := 73) cx 171 dX6_say_70 rfl rfl (fun hh9 => absurd ((nI_leI (a := 64) (b := i) (by omega) (by omega)).mp hh9) (by omega)) (fun _ => ?_)
      refine go_iload (pc' := 75) cx dX6_say_73 rfl rfl ?_
      refine go_istore (pc' := 77) cx dX6_say_75 (ltn rfl) [(7, .int (nI i)), (6, .int (nI i)), (0, .ref (E.2.1 88)), (1, .int 3), (2, .int x2), (3, .int 64), (4, .int (nI (dcm 3 b))), (5, .int ((sayE (TMx CS ru) (svM g) vn 3) b))] rfl rfl ?_
      refine go_iconst (pc' := 78) cx 0 dX6_say_77 rfl rfl ?_
      refine go_istore (pc' := 80) cx dX6_say_78 (ltn rfl) [(8, .int 0), (7, .int (nI i)), (6, .int (nI i)), (0, .ref (E.2.1 88)), (1, .int 3), (2, .int x2), (3, .int 64), (4, .int (nI (dcm 3 b))), (5, .int ((sayE (TMx CS ru) (svM g) vn 3) b))] rfl rfl ?_
      refine go_iconst (pc' := 81) cx 1 dX6_say_80 rfl rfl ?_
      refine go_istore (pc' := 83) cx dX6_say_81 (ltn rfl) [(9, .int 1), (8, .int 0), (7, .int (nI i)), (6, .int (nI i)), (0, .ref (E.2.1 88)), (1, .int 3), (2, .int x2), (3, .int 64), (4, .int (nI (dcm 3 b))), (5, .int ((sayE (TMx CS ru) (svM g) vn 3) b))] rfl rfl ?_
      refine go_iload_n (pc' := 84) cx dX6_say_83 rfl rfl ?_
      refine go_iconst (pc' := 85) cx 1 dX6_say_84 rfl rfl ?_
      refine go_isub (pc' := 86) cx dX6_say_85 rfl ?_
      refine go_val (w := .int 2) (congrArg Value.int (by decide)) ?_
      refine go_istore (pc' := 88) cx dX6_say_86 (ltn rfl) [(10, .int 2), (9, .int 1), (8, .int 0), (7, .int (nI i)), (6, .int (nI i)), (0, .ref (E.2.1 88)), (1, .int 3), (2, .int x2), (3, .int 64), (4, .int (nI (dcm 3 b))), (5, .int ((sayE (TMx CS ru) (svM g) vn 3) b))] rfl rfl ?_
      refine go_iload (pc' := 90) cx dX6_say_88 rfl rfl ?_
      refine go_if_lt (pc' := 93) cx 138 dX6_say_90 rfl rfl (fun hh => absurd hh (by decide)) (fun _ => ?_)
      refine go_aload_n (pc' := 94) cx dX6_say_93 rfl rfl ?_
      refine go_getr (pc' := 97) cx 101 fX6_53 dX6_say_94 kq88 (ltn rfl) (ltn rfl) rfl rfl rfl ?_
      refine go_iload (pc' := 99) cx dX6_say_97 rfl rfl ?_
      refine go_iload (pc' := 101) cx dX6_say_99 rfl rfl ?_
      refine go_iconst (pc' := 102) cx 4 dX6_say_101 rfl rfl ?_
      refine go_irem (pc' := 103) cx (by decide) dX6_say_102 rfl ?_
      refine go_val (w := .int (nI (i % 4))) (congrArg Value.int (pk_rem (a := i) (d := 4) (by omega) (by decide) (by decide))) ?_
      refine go_iastk (pc' := 104) cx 2 dX6_say_103 kq101 (ltn rfl) (vpi (k := 2) (a := 3) (ltn rfl) rfl rfl) (cli (k := 2) (a := 3) (ltn rfl) rfl) rfl ?_
      refine go_iload (pc' := 106) cx dX6_say_104 rfl rfl ?_
      refine go_iconst (pc' := 107) cx 4 dX6_say_106 rfl rfl ?_
      refine go_idiv (pc' := 108) cx (by decide) dX6_say_107 rfl ?_
      refine go_val (w := .int (nI (i / 4))) (congrArg Value.int (pk_div (a := i) (d := 4) (by omega) (by decide) (by decide))) ?_
      refine go_istore (pc' := 110) cx dX6_say_108 (ltn rfl) [(7, .int (nI (i / 4))), (10, .int 2), (9, .int 1), (8, .int 0), (6, .int (nI i)), (0, .ref (E.2.1 88)), (1, .int 3), (2, .int x2), (3, .int 64), (4, .int (nI (dcm 3 b))), (5, .int ((sayE (TMx CS ru) (svM g) vn 3) b))] rfl rfl ?_
      refine go_iload (pc' := 112) cx dX6_say_110 rfl rfl ?_
      refine go_iload (pc' := 114) cx dX6_say_112 rfl rfl ?_
      refine go_aload_n (pc' := 115) cx dX6_say_114 rfl rfl ?_
      refine go_getr (pc' := 118) cx 101 fX6_53 dX6_say_115 kq88 (ltn rfl) (ltn rfl) rfl rfl rfl ?_
      refine go_iload (pc' := 120) cx dX6_say_118 rfl rfl ?_
      refine go_iald (pc' := 121) cx (nI (i % 4)) dX6_say_120 kq101 (ltn rfl) (vpi (k := 2) (a := 3) (ltn rfl) rfl rfl) ((congrArg ((up2 G 101 2 (nI (i % 4))) 101) (cli (k := 2) (a := 3) (ltn rfl) rfl)).trans (up2_s G 101 2 (nI (i % 4)))) rfl ?_
      refine go_imul (pc' := 122) cx dX6_say_121 rfl ?_
      refine go_val (w := .int (nI (1 * (i % 4)))) (congrArg Value.int (pk_mul 1 (i % 4))) ?_
      refine go_iadd (pc' := 123) cx dX6_say_122 rfl ?_
      refine go_val (w := .int (nI (0 + (1 * (i % 4))))) (congrArg Value.int (nI_add 0 (1 * (i % 4)))) ?_
      refine go_istore (pc' := 125) cx dX6_say_123 (ltn rfl) [(8, .int (nI (0 + (1 * (i % 4))))), (7, .int (nI (i / 4))), (10, .int 2), (9, .int 1), (6, .int (nI i)), (0, .ref (E.2.1 88)), (1, .int 3), (2, .int x2), (3, .int 64), (4, .int (nI (dcm 3 b))), (5, .int ((sayE (TMx CS ru) (svM g) vn 3) b))] rfl rfl ?_
      refine go_iload (pc' := 127) cx dX6_say_125 rfl rfl ?_
      refine go_bipush (pc' := 129) cx 10 dX6_say_127 rfl rfl ?_
      refine go_imul (pc' := 130) cx dX6_say_129 rfl ?_
      refine go_val (w := .int 10) (congrArg Value.int (by decide)) ?_
      refine go_istore (pc' := 132) cx dX6_say_130 (ltn rfl) [(9, .int 10), (8, .int (nI (0 + (1 * (i % 4))))), (7, .int (nI (i / 4))), (10, .int 2), (6, .int (nI i)), (0, .ref (E.2.1 88)), (1, .int 3), (2, .int x2), (3, .int 64), (4, .int (nI (dcm 3 b))), (5, .int ((sayE (TMx CS ru) (svM g) vn 3) b))] rfl rfl ?_
      refine go_iinc (pc' := 135) cx 1 dX6_say_132 rfl (by decide) (ltn rfl) [(10, .int 1), (9, .int 10), (8, .int (nI (0 + (1 * (i % 4))))), (7, .int (nI (i / 4))), (6, .int (nI i)), (0, .ref (E.2.1 88)), (1, .int 3), (2, .int x2), (3, .int 64), (4, .int (nI (dcm 3 b))), (5, .int ((sayE (TMx CS ru) (svM g) vn 3) b))] rfl rfl ?_
      refine go_goto cx 88 dX6_say_135 rfl ?_
      refine go_iload (pc' := 90) cx dX6_say_88 rfl rfl ?_
      refine go_if_lt (pc' := 93) cx 138 dX6_say_90 rfl rfl (fun hh => absurd hh (by decide)) (fun _ => ?_)
      refine go_aload_n (pc' := 94) cx dX6_say_93 rfl rfl ?_
      refine go_getr (pc' := 97) cx 101 fX6_53 dX6_say_94 kq88 (ltn rfl) (ltn rfl) rfl rfl rfl ?_
      refine go_iload (pc' := 99) cx dX6_say_97 rfl rfl ?_
      refine go_iload (pc' := 101) cx dX6_say_99 rfl rfl ?_
      refine go_iconst (pc' := 102) cx 4 dX6_say_101 rfl rfl ?_
      refine go_irem (pc' := 103) cx (by decide) dX6_say_102 rfl ?_
      refine go_val (w := .int (nI ((i / 4) % 4))) (congrArg Value.int (pk_rem (a := (i / 4)) (d := 4) (by omega) (by decide) (by decide))) ?_
      refine go_iastk (pc' := 104) cx 1 dX6_say_103 kq101 (ltn rfl) (vpi (k := 1) (a := 2) (ltn rfl) rfl rfl) (cli (k := 1) (a := 2) (ltn rfl) rfl) rfl ?_
      refine go_iload (pc' := 106) cx dX6_say_104 rfl rfl ?_
      refine go_iconst (pc' := 107) cx 4 dX6_say_106 rfl rfl ?_
      refine go_idiv (pc' := 108) cx (by decide) dX6_say_107 rfl ?_
      refine go_val (w := .int (nI ((i / 4) / 4))) (congrArg Value.int (pk_div (a := (i / 4)) (d := 4) (by omega) (by decide) (by decide))) ?_
      refine go_istore (pc' := 110) cx dX6_say_108 (ltn rfl) [(7, .int (nI ((i / 4) / 4))), (10, .int 1), (9, .int 10), (8, .int (nI (0 + (1 * (i % 4))))), (6, .int (nI i)), (0, .ref (E.2.1 88)), (1, .int 3), (2, .int x2), (3, .int 64), (4, .int (nI (dcm 3 b))), (5, .int ((sayE (TMx CS ru) (svM g) vn 3) b))] rfl rfl ?_
      refine go_iload (pc' := 112) cx dX6_say_110 rfl rfl ?_
      refine go_iload (pc' := 114) cx dX6_say_112 rfl rfl ?_
      refine go_aload_n (pc' := 115) cx dX6_say_114 rfl rfl ?_
      refine go_getr (pc' := 118) cx 101 fX6_53 dX6_say_115 kq88 (ltn rfl) (ltn rfl) rfl rfl rfl ?_
      refine go_iload (pc' := 120) cx dX6_say_118 rfl rfl ?_
      refine go_iald (pc' := 121) cx (nI ((i / 4) % 4)) dX6_say_120 kq101 (ltn rfl) (vpi (k := 1) (a := 2) (ltn rfl) rfl rfl) ((congrArg ((up2 (up2 G 101 2 (nI (i % 4))) 101 1 (nI ((i / 4) % 4))) 101) (cli (k := 1) (a := 2) (ltn rfl) rfl)).trans (up2_s (up2 G 101 2 (nI (i % 4))) 101 1 (nI ((i / 4) % 4)))) rfl ?_
      refine go_imul (pc' := 122) cx dX6_say_121 rfl ?_
      refine go_val (w := .int (nI (10 * ((i / 4) % 4)))) (congrArg Value.int (pk_mul 10 ((i / 4) % 4))) ?_
      refine go_iadd (pc' := 123) cx dX6_say_122 rfl ?_
      refine go_val (w := .int (nI ((0 + (1 * (i % 4))) + (10 * ((i / 4) % 4))))) (congrArg Value.int (nI_add (0 + (1 * (i % 4))) (10 * ((i / 4) % 4)))) ?_
      refine go_istore (pc' := 125) cx dX6_say_123 (ltn rfl) [(8, .int (nI ((0 + (1 * (i % 4))) + (10 * ((i / 4) % 4))))), (7, .int (nI ((i / 4) / 4))), (10, .int 1), (9, .int 10), (6, .int (nI i)), (0, .ref (E.2.1 88)), (1, .int 3), (2, .int x2), (3, .int 64), (4, .int (nI (dcm 3 b))), (5, .int ((sayE (TMx CS ru) (svM g) vn 3) b))] rfl rfl ?_
      refine go_iload (pc' := 127) cx dX6_say_125 rfl rfl ?_
      refine go_bipush (pc' := 129) cx 10 dX6_say_127 rfl rfl ?_
      refine go_imul (pc' := 130) cx dX6_say_129 rfl ?_
      refine go_val (w := .int 100) (congrArg Value.int (by decide)) ?_
      refine go_istore (pc' := 132) cx dX6_say_130 (ltn rfl) [(9, .int 100), (8, .int (nI ((0 + (1 * (i % 4))) + (10 * ((i / 4) % 4))))), (7, .int (nI ((i / 4) / 4))), (10, .int 1), (6, .int (nI i)), (0, .ref (E.2.1 88)), (1, .int 3), (2, .int x2), (3, .int 64), (4, .int (nI (dcm 3 b))), (5, .int ((sayE (TMx CS ru) (svM g) vn 3) b))] rfl rfl ?_
      refine go_iinc (pc' := 135) cx 0 dX6_say_132 rfl (by decide) (ltn rfl) [(10, .int 0), (9, .int 100), (8, .int (nI ((0 + (1 * (i % 4))) + (10 * ((i / 4) % 4))))), (7, .int (nI ((i / 4) / 4))), (6, .int (nI i)), (0, .ref (E.2.1 88)), (1, .int 3), (2, .int x2), (3, .int 64), (4, .int (nI (dcm 3 b))), (5, .int ((sayE (TMx CS ru) (svM g) vn 3) b))] rfl rfl ?_
      refine go_goto cx 88 dX6_say_135 rfl ?_
      refine go_iload (pc' := 90) cx dX6_say_88 rfl rfl ?_
      refine go_if_lt (pc' := 93) cx 138 dX6_say_90 rfl rfl (fun hh => absurd hh (by decide)) (fun _ => ?_)
      refine go_aload_n (pc' := 94) cx dX6_say_93 rfl rfl ?_
      refine go_getr (pc' := 97) cx 101 fX6_53 dX6_say_94 kq88 (ltn rfl) (ltn rfl) rfl rfl rfl ?_
      refine go_iload (pc' := 99) cx dX6_say_97 rfl rfl ?_
      refine go_iload (pc' := 101) cx dX6_say_99 rfl rfl ?_
      refine go_iconst (pc' := 102) cx 4 dX6_say_101 rfl rfl ?_
      refine go_irem (pc' := 103) cx (by decide) dX6_say_102 rfl ?_
      refine go_val (w := .int (nI (((i / 4) / 4) % 4))) (congrArg Value.int (pk_rem (a := ((i / 4) / 4)) (d := 4) (by omega) (by decide) (by decide))) ?_
      refine go_iastk (pc' := 104) cx 0 dX6_say_103 kq101 (ltn rfl) (vpi (k := 0) (a := 1) (ltn rfl) rfl rfl) (cli (k := 0) (a := 1) (ltn rfl) rfl) rfl ?_
      refine go_iload (pc' := 106) cx dX6_say_104 rfl rfl ?_
      refine go_iconst (pc' := 107) cx 4 dX6_say_106 rfl rfl ?_
      refine go_idiv (pc' := 108) cx (by decide) dX6_say_107 rfl ?_
      refine go_val (w := .int (nI (((i / 4) / 4) / 4))) (congrArg Value.int (pk_div (a := ((i / 4) / 4)) (d := 4) (by omega) (by decide) (by decide))) ?_
      refine go_istore (pc' := 110) cx dX6_say_108 (ltn rfl) [(7, .int (nI (((i / 4) / 4) / 4))), (10, .int 0), (9, .int 100), (8, .int (nI ((0 + (1 * (i % 4))) + (10 * ((i / 4) % 4))))), (6, .int (nI i)), (0, .ref (E.2.1 88)), (1, .int 3), (2, .int x2), (3, .int 64), (4, .int (nI (dcm 3 b))), (5, .int ((sayE (TMx CS ru) (svM g) vn 3) b))] rfl rfl ?_
      refine go_iload (pc' := 112) cx dX6_say_110 rfl rfl ?_
      refine go_iload (pc' := 114) cx dX6_say_112 rfl rfl ?_
      refine go_aload_n (pc' := 115) cx dX6_say_114 rfl rfl ?_
      refine go_getr (pc' := 118) cx 101 fX6_53 dX6_say_115 kq88 (ltn rfl) (ltn rfl) rfl rfl rfl ?_
      refine go_iload (pc' := 120) cx dX6_say_118 rfl rfl ?_
      refine go_iald (pc' := 121) cx (nI (((i / 4) / 4) % 4)) dX6_say_120 kq101 (ltn rfl) (vpi (k := 0) (a := 1) (ltn rfl) rfl rfl) ((congrArg ((up2 (up2 (up2 G 101 2 (nI (i % 4))) 101 1 (nI ((i / 4) % 4))) 101 0 (nI (((i / 4) / 4) % 4))) 101) (cli (k := 0) (a := 1) (ltn rfl) rfl)).trans (up2_s (up2 (up2 G 101 2 (nI (i % 4))) 101 1 (nI ((i / 4) % 4))) 101 0 (nI (((i / 4) / 4) % 4)))) rfl ?_
      refine go_imul (pc' := 122) cx dX6_say_121 rfl ?_
      refine go_val (w := .int (nI (100 * (((i / 4) / 4) % 4)))) (congrArg Value.int (pk_mul 100 (((i / 4) / 4) % 4))) ?_
      refine go_iadd (pc' := 123) cx dX6_say_122 rfl ?_
      refine go_val (w := .int (nI (((0 + (1 * (i % 4))) + (10 * ((i / 4) % 4))) + (100 * (((i / 4) / 4) % 4))))) (congrArg Value.int (nI_add ((0 + (1 * (i % 4))) + (10 * ((i / 4) % 4))) (100 * (((i / 4) / 4) % 4)))) ?_
      refine go_istore (pc' := 125) cx dX6_say_123 (ltn rfl) [(8, .int (nI (((0 + (1 * (i % 4))) + (10 * ((i / 4) % 4))) + (100 * (((i / 4) / 4) % 4))))), (7, .int (nI (((i / 4) / 4) / 4))), (10, .int 0), (9, .int 100), (6, .int (nI i)), (0, .ref (E.2.1 88)), (1, .int 3), (2, .int x2), (3, .int 64), (4, .int (nI (dcm 3 b))), (5, .int ((sayE (TMx CS ru) (svM g) vn 3) b))] rfl rfl ?_
      refine go_iload (pc' := 127) cx dX6_say_125 rfl rfl ?_
      refine go_bipush (pc' := 129) cx 10 dX6_say_127 rfl rfl ?_
      refine go_imul (pc' := 130) cx dX6_say_129 rfl ?_
      refine go_val (w := .int 1000) (congrArg Value.int (by decide)) ?_
      refine go_istore (pc' := 132) cx dX6_say_130 (ltn rfl) [(9, .int 1000), (8, .int (nI (((0 + (1 * (i % 4))) + (10 * ((i / 4) % 4))) + (100 * (((i / 4) / 4) % 4))))), (7, .int (nI (((i / 4) / 4) / 4))), (10, .int 0), (6, .int (nI i)), (0, .ref (E.2.1 88)), (1, .int 3), (2, .int x2), (3, .int 64), (4, .int (nI (dcm 3 b))), (5, .int ((sayE (TMx CS ru) (svM g) vn 3) b))] rfl rfl ?_
      refine go_iinc (pc' := 135) cx (-1) dX6_say_132 rfl (by decide) (ltn rfl) [(10, .int (-1)), (9, .int 1000), (8, .int (nI (((0 + (1 * (i % 4))) + (10 * ((i / 4) % 4))) + (100 * (((i / 4) / 4) % 4))))), (7, .int (nI (((i / 4) / 4) / 4))), (6, .int (nI i)), (0, .ref (E.2.1 88)), (1, .int 3), (2, .int x2), (3, .int 64), (4, .int (nI (dcm 3 b))), (5, .int ((sayE (TMx CS ru) (svM g) vn 3) b))] rfl rfl ?_
      refine go_goto cx 88 dX6_say_135 rfl ?_
      refine go_iload (pc' := 90) cx dX6_say_88 rfl rfl ?_
      refine go_if_lt (pc' := 93) cx 138 dX6_say_90 rfl rfl (fun _ => ?_) (fun hh => absurd (by decide) hh)
      refine go_aload_n (pc' := 139) cx dX6_say_138 rfl rfl ?_
      obtain ⟨GI, hGI⟩ : ∃ y : IG, y = (up2 (up2 (up2 G 101 2 (nI (i % 4))) 101 1 (nI ((i / 4) % 4))) 101 0 (nI (((i / 4) / 4) % 4))) := ⟨_, rfl⟩
      refine go_g hGI.symm ?_
      have aI : ∀ i9 q, ¬ (i9 = 101 ∧ q < 3) → GI i9 q = G i9 q := fun i9 q h9 => by
        rw [hGI, up2_n _ _ (by omega), up2_n _ _ (by omega), up2_n _ _ (by omega)]
      have hFI : FrW (92 + 9) g GI := by
        rw [hGI]
        exact (((hF.up (by omega)).up (by omega)).up (by omega))
      have hRI : Req (svM GI) (sayS (svM g) 3 i) hn vn := reqW (j := 9) (Or.inr (Or.inr rfl)) hFI (fun i9 k9 q => if_neg (fun q9 => q q9.1)) (fun k9 h9 => by
        show GI 101 k9 = _
        by_cases e : k9 < 3
        · rw [show sayS (svM g) 3 i 9 k9 = nI (dgt 3 i k9) from if_pos ⟨rfl, e⟩]
          rcases (show k9 = 0 ∨ k9 = 1 ∨ k9 = 2 by omega) with rfl | rfl | rfl
          · rw [hGI, up2_s]
            refine congrArg nI ?_
            show i / 4 / 4 % 4 = i / 4 ^ 2 % 4
            omega
          · rw [hGI, up2_n _ _ (by omega), up2_s]
            refine congrArg nI ?_
            show i / 4 % 4 = i / 4 ^ 1 % 4
            omega
          · rw [hGI, up2_n _ _ (by omega), up2_n _ _ (by omega), up2_s]
            refine congrArg nI ?_
            show i % 4 = i / 4 ^ 0 % 4
            omega
        · rw [show sayS (svM g) 3 i 9 k9 = svM g 9 k9 from if_neg (fun q9 => e q9.2), aI 101 k9 (by omega)]
          exact hW k9 (by omega))
      have hHI : HdS (svM GI) hn vn := by
        intro u hu
        obtain ⟨h, hh, e⟩ := hX.2.2.2.2.1 u hu
        exact ⟨h, hh, (hFI 99 u (by omega)).trans e⟩
      have hSI : SdI GI tc CS := hS.fr (funext fun q => aI 102 q (by omega))
      have hXI : XM GI hn vn ru tc CS := hX.fw (j := 9) (Or.inr (Or.inr rfl)) hFI hSI hHI
      have hE9 : BDs (TMx CS ru) (svM GI) vn = (sayE (TMx CS ru) (svM g) vn 3) i := hRI.bd hHI (by omega)
      refine go_cVIz (pc' := 142) cx (c_X6_courses l E (g := GI) hXI) mX6_courses lX6_421 dX6_say_139 kq88 (ltn rfl) (ltn rfl) rfl rfl rfl rfl (ltn rfl) (Nat.le_of_ble_eq_true rfl) (Nat.le_of_ble_eq_true rfl) rfl (fun xc GC zc hc => ?_)
      obtain ⟨ec, fc, -, -, sc⟩ := hc
      rw [hE9] at ec
      refine go_istore (pc' := 144) cx dX6_say_142 (ltn rfl) [(10, .int xc), (9, .int 1000), (8, .int (nI (((0 + (1 * (i % 4))) + (10 * ((i / 4) % 4))) + (100 * (((i / 4) / 4) % 4))))), (7, .int (nI (((i / 4) / 4) / 4))), (6, .int (nI i)), (0, .ref (E.2.1 88)), (1, .int 3), (2, .int x2), (3, .int 64), (4, .int (nI (dcm 3 b))), (5, .int ((sayE (TMx CS ru) (svM g) vn 3) b))] rfl rfl ?_
      refine go_iload (pc' := 146) cx dX6_say_144 rfl rfl ?_
      refine go_iconst (pc' := 147) cx (-1) dX6_say_146 rfl rfl ?_
      refine go_icmp_eq (pc' := 150) cx 157 dX6_say_147 rfl rfl (fun hh9 => absurd hh9 (dcm_nm (by omega))) (fun _ => ?_)
      refine go_iload (pc' := 152) cx dX6_say_150 rfl rfl ?_
      refine go_iload (pc' := 154) cx dX6_say_152 rfl rfl ?_
      refine go_icmp_ge (pc' := 157) cx 165 dX6_say_154 rfl rfl (fun c154 => ?_) (fun c154 => ?_)
      · have c154n := Int32.not_lt.mpr c154
        refine go_iinc (pc' := 168) cx (nI (i + 1)) dX6_say_165 rfl (nI_1 i) (ltn rfl) [(6, .int (nI (i + 1))), (10, .int xc), (9, .int 1000), (8, .int (nI (((0 + (1 * (i % 4))) + (10 * ((i / 4) % 4))) + (100 * (((i / 4) / 4) % 4))))), (7, .int (nI (((i / 4) / 4) / 4))), (0, .ref (E.2.1 88)), (1, .int 3), (2, .int x2), (3, .int 64), (4, .int (nI (dcm 3 b))), (5, .int ((sayE (TMx CS ru) (svM g) vn 3) b))] rfl rfl ?_
        refine go_goto cx 67 dX6_say_168 rfl ?_
        refine go_sub [0, 5, 6, 7, 8, 9, 10] [(6, .int (nI (i + 1))), (0, .ref (E.2.1 88)), (1, .int 3), (2, .int x2), (3, .int 64), (4, .int (nI (dcm 3 b))), (5, .int ((sayE (TMx CS ru) (svM g) vn 3) b))] rfl ?_
        have e9 : mns (sayE (TMx CS ru) (svM g) vn 3) (i + 1) = some b := (mns_ss hq).trans (if_neg (by rw [← ec]; exact Int32.not_lt.mpr c154))
        refine go_sub [0, 1, 2, 3, 4, 5, 6] [(6, .int (nI (i + 1))), (0, .ref (E.2.1 88)), (1, .int 3), (2, .int x2), (3, .int 64), (4, .int (odg 3 (mns (sayE (TMx CS ru) (svM g) vn 3) (i + 1)))), (5, .int (ow (sayE (TMx CS ru) (svM g) vn 3) (mns (sayE (TMx CS ru) (svM g) vn 3) (i + 1))))] (by rw [e9, odg_dc]; rfl) ?_
        exact ih (i + 1) GC zc (by omega) (hFI.tr fc.fw) ((hK.fr (funext fun q => aI 106 q (by omega)) (funext fun q => aI 107 q (by omega))).fr (fc.c (by omega) (by omega)) (fc.c (by omega) (by omega))) (fun k9 q9 => (fc 101 k9 (by omega)).trans ((aI 101 k9 (by omega)).trans (hW k9 q9))) sc hZ
      · have c154n := Int32.not_le.mp c154
        refine go_iload (pc' := 159) cx dX6_say_157 rfl rfl ?_
        refine go_istore (pc' := 161) cx dX6_say_159 (ltn rfl) [(4, .int (nI (((0 + (1 * (i % 4))) + (10 * ((i / 4) % 4))) + (100 * (((i / 4) / 4) % 4))))), (10, .int xc), (9, .int 1000), (8, .int (nI (((0 + (1 * (i % 4))) + (10 * ((i / 4) % 4))) + (100 * (((i / 4) / 4) % 4))))), (7, .int (nI (((i / 4) / 4) / 4))), (6, .int (nI i)), (0, .ref (E.2.1 88)), (1, .int 3), (2, .int x2), (3, .int 64), (5, .int ((sayE (TMx CS ru) (svM g) vn 3) b))] rfl rfl ?_
        refine go_iload (pc' := 163) cx dX6_say_161 rfl rfl ?_
        refine go_istore (pc' := 165) cx dX6_say_163 (ltn rfl) [(5, .int xc), (4, .int (nI (((0 + (1 * (i % 4))) + (10 * ((i / 4) % 4))) + (100 * (((i / 4) / 4) % 4))))), (10, .int xc), (9, .int 1000), (8, .int (nI (((0 + (1 * (i % 4))) + (10 * ((i / 4) % 4))) + (100 * (((i / 4) / 4) % 4))))), (7, .int (nI (((i / 4) / 4) / 4))), (6, .int (nI i)), (0, .ref (E.2.1 88)), (1, .int 3), (2, .int x2), (3, .int 64)] rfl rfl ?_
        refine go_iinc (pc' := 168) cx (nI (i + 1)) dX6_say_165 rfl (nI_1 i) (ltn rfl) [(6, .int (nI (i + 1))), (5, .int xc), (4, .int (nI (((0 + (1 * (i % 4))) + (10 * ((i / 4) % 4))) + (100 * (((i / 4) / 4) % 4))))), (10, .int xc), (9, .int 1000), (8, .int (nI (((0 + (1 * (i % 4))) + (10 * ((i / 4) % 4))) + (100 * (((i / 4) / 4) % 4))))), (7, .int (nI (((i / 4) / 4) / 4))), (0, .ref (E.2.1 88)), (1, .int 3), (2, .int x2), (3, .int 64)] rfl rfl ?_
        refine go_goto cx 67 dX6_say_168 rfl ?_
        refine go_sub [0, 7, 8, 9, 10, 2, 1] [(6, .int (nI (i + 1))), (0, .ref (E.2.1 88)), (1, .int 3), (2, .int x2), (3, .int 64), (4, .int (nI (((0 + (1 * (i % 4))) + (10 * ((i / 4) % 4))) + (100 * (((i / 4) / 4) % 4))))), (5, .int xc)] rfl ?_
        have e9 : mns (sayE (TMx CS ru) (svM g) vn 3) (i + 1) = some i := (mns_ss hq).trans (if_pos (by rw [← ec]; exact Int32.not_le.mp c154))
        have e8 : nI (((0 + (1 * (i % 4))) + (10 * ((i / 4) % 4))) + (100 * (((i / 4) / 4) % 4))) = nI (dcm 3 i) := congrArg nI (show (((0 + (1 * (i % 4))) + (10 * ((i / 4) % 4))) + (100 * (((i / 4) / 4) % 4))) = dcm 3 i from by
          simp only [dcm]
          omega)
        refine go_sub [0, 1, 2, 3, 4, 5, 6] [(6, .int (nI (i + 1))), (0, .ref (E.2.1 88)), (1, .int 3), (2, .int x2), (3, .int 64), (4, .int (odg 3 (mns (sayE (TMx CS ru) (svM g) vn 3) (i + 1)))), (5, .int (ow (sayE (TMx CS ru) (svM g) vn 3) (mns (sayE (TMx CS ru) (svM g) vn 3) (i + 1))))] (by rw [e9, odg_dc, e8, ec]; rfl) ?_
        exact ih (i + 1) GC zc (by omega) (hFI.tr fc.fw) ((hK.fr (funext fun q => aI 106 q (by omega)) (funext fun q => aI 107 q (by omega))).fr (fc.c (by omega) (by omega)) (fc.c (by omega) (by omega))) (fun k9 q9 => (fc 101 k9 (by omega)).trans ((aI 101 k9 (by omega)).trans (hW k9 q9))) sc hZ

set_option maxHeartbeats 1000000 in
set_option maxRecDepth 20000 in
theorem sayM_loop4 {l : Launch} {E : Ev} {Z : ZT} {o : Option Nat} {p : Program} {e : Env} {s : State} {m : MethodId} {args : Array Value} {below : List Frame} {meth : Method} {c : Code} {g : IG} {hn vn ru tc : Nat} {CS : CSt} (hX : XM g hn vn ru tc CS) {x2 : Int32} (cx : Cx p s m args meth c E 115 cX6_say 11 yX6_say.cls (some .int)) : ∀ (k i : Nat) (G : IG) (z : Int64), i + k = 256 → FrW (92 + 9) g G → KpS g G → (∀ k, 4 ≤ k → G 101 k = g 101 k) → SdI G tc CS → (∀ (G9 : IG) (z9 : Int64), FrJ g G9 → SdI G9 tc CS → Z (some (.int (if x2 = 0 then ow (sayE (TMx CS ru) (svM g) vn 4) (mns (sayE (TMx CS ru) (svM g) vn 4) 256) else odg 4 (mns (sayE (TMx CS ru) (svM g) vn 4) 256)))) G9 (RFo o) z9) → Go p l e (rmd 49) s m args below meth c E 115 11 Z G (RFo o) z 67 [(6, .int (nI i)), (0, .ref (E.2.1 88)), (1, .int 4), (2, .int x2), (3, .int 256), (4, .int (odg 4 (mns (sayE (TMx CS ru) (svM g) vn 4) i))), (5, .int (ow (sayE (TMx CS ru) (svM g) vn 4) (mns (sayE (TMx CS ru) (svM g) vn 4) i)))] [] := by
  intro k
  have hb := hX.1
  induction k with
  | zero =>
    intro i G z hk hF hK hW hS hZ
    have hi : i = 256 := by omega
    subst hi
    refine go_iload (pc' := 69) cx dX6_say_67 rfl rfl ?_
    refine go_iload_n (pc' := 70) cx dX6_say_69 rfl rfl ?_
    refine go_icmp_ge (pc' := 73) cx 171 dX6_say_70 rfl rfl (fun _ => ?_) (fun hh => absurd hh (by decide))
    refine go_aload_n (pc' := 172) cx dX6_say_171 rfl rfl ?_
    refine go_cVV (pc' := 175) cx (c_X6_laysBack l E (g := G)) mX6_laysBack lX6_429 dX6_say_172 kq88 (ltn rfl) (ltn rfl) rfl rfl rfl rfl (ltn rfl) (Nat.le_of_ble_eq_true rfl) (Nat.le_of_ble_eq_true rfl) rfl (fun GT hT => ?_)
    obtain ⟨t1, t2⟩ := hT
    refine go_iload_n (pc' := 176) cx dX6_say_175 rfl rfl ?_
    refine go_if_ne (pc' := 179) cx 184 dX6_say_176 rfl rfl (fun c176 => ?_) (fun c176 => ?_)
    · refine go_iload (pc' := 186) cx dX6_say_184 rfl rfl ?_
      refine go_iret cx rfl dX6_say_186 ?_
      have h9 := hZ GT z (hF.j (Or.inr rfl) hK t1 t2) (hS.fr (funext fun k => t1 102 k (by omega)))
      first | (rw [if_pos c176] at h9; exact h9) | (rw [if_neg c176] at h9; exact h9)
    · refine go_iload (pc' := 181) cx dX6_say_179 rfl rfl ?_
      refine go_goto cx 186 dX6_say_181 rfl ?_
      refine go_iret cx rfl dX6_say_186 ?_
      have h9 := hZ GT z (hF.j (Or.inr rfl) hK t1 t2) (hS.fr (funext fun k => t1 102 k (by omega)))
      first | (rw [if_pos c176] at h9; exact h9) | (rw [if_neg c176] at h9; exact h9)
  | succ k ih =>
    intro i G z hk hF hK hW hS hZ
    cases hq : mns (sayE (TMx CS ru) (svM g) vn 4) i with
    | none =>
      refine go_sub [0, 1, 2, 3, 4, 5, 6] [(6, .int (nI i)), (0, .ref (E.2.1 88)), (1, .int 4), (2, .int x2), (3, .int 256), (4, .int (-1)), (5, .int 0)] rfl ?_
      refine go_iload (pc' := 69) cx dX6_say_67 rfl rfl ?_
      refine go_iload_n (pc' := 70) cx dX6_say_69 rfl rfl ?_
      refine go_icmp_ge (pc' := 73) cx 171 dX6_say_70 rfl rfl (fun hh9 => absurd ((nI_leI (a := 256) (b := i) (by omega) (by omega)).mp hh9) (by omega)) (fun _ => ?_)
      refine go_iload (pc' := 75) cx dX6_say_73 rfl rfl ?_
      refine go_istore (pc' := 77) cx dX6_say_75 (ltn rfl) [(7, .int (nI i)), (6, .int (nI i)), (0, .ref (E.2.1 88)), (1, .int 4), (2, .int x2), (3, .int 256), (4, .int (-1)), (5, .int 0)] rfl rfl ?_
      refine go_iconst (pc' := 78) cx 0 dX6_say_77 rfl rfl ?_
      refine go_istore (pc' := 80) cx dX6_say_78 (ltn rfl) [(8, .int 0), (7, .int (nI i)), (6, .int (nI i)), (0, .ref (E.2.1 88)), (1, .int 4), (2, .int x2), (3, .int 256), (4, .int (-1)), (5, .int 0)] rfl rfl ?_
      refine go_iconst (pc' := 81) cx 1 dX6_say_80 rfl rfl ?_
      refine go_istore (pc' := 83) cx dX6_say_81 (ltn rfl) [(9, .int 1), (8, .int 0), (7, .int (nI i)), (6, .int (nI i)), (0, .ref (E.2.1 88)), (1, .int 4), (2, .int x2), (3, .int 256), (4, .int (-1)), (5, .int 0)] rfl rfl ?_
      refine go_iload_n (pc' := 84) cx dX6_say_83 rfl rfl ?_
      refine go_iconst (pc' := 85) cx 1 dX6_say_84 rfl rfl ?_
      refine go_isub (pc' := 86) cx dX6_say_85 rfl ?_
      refine go_val (w := .int 3) (congrArg Value.int (by decide)) ?_
      refine go_istore (pc' := 88) cx dX6_say_86 (ltn rfl) [(10, .int 3), (9, .int 1), (8, .int 0), (7, .int (nI i)), (6, .int (nI i)), (0, .ref (E.2.1 88)), (1, .int 4), (2, .int x2), (3, .int 256), (4, .int (-1)), (5, .int 0)] rfl rfl ?_
      refine go_iload (pc' := 90) cx dX6_say_88 rfl rfl ?_
      refine go_if_lt (pc' := 93) cx 138 dX6_say_90 rfl rfl (fun hh => absurd hh (by decide)) (fun _ => ?_)
      refine go_aload_n (pc' := 94) cx dX6_say_93 rfl rfl ?_
      refine go_getr (pc' := 97) cx 101 fX6_53 dX6_say_94 kq88 (ltn rfl) (ltn rfl) rfl rfl rfl ?_
      refine go_iload (pc' := 99) cx dX6_say_97 rfl rfl ?_
      refine go_iload (pc' := 101) cx dX6_say_99 rfl rfl ?_
      refine go_iconst (pc' := 102) cx 4 dX6_say_101 rfl rfl ?_
      refine go_irem (pc' := 103) cx (by decide) dX6_say_102 rfl ?_
      refine go_val (w := .int (nI (i % 4))) (congrArg Value.int (pk_rem (a := i) (d := 4) (by omega) (by decide) (by decide))) ?_
      refine go_iastk (pc' := 104) cx 3 dX6_say_103 kq101 (ltn rfl) (vpi (k := 3) (a := 4) (ltn rfl) rfl rfl) (cli (k := 3) (a := 4) (ltn rfl) rfl) rfl ?_
      refine go_iload (pc' := 106) cx dX6_say_104 rfl rfl ?_
      refine go_iconst (pc' := 107) cx 4 dX6_say_106 rfl rfl ?_
      refine go_idiv (pc' := 108) cx (by decide) dX6_say_107 rfl ?_
      refine go_val (w := .int (nI (i / 4))) (congrArg Value.int (pk_div (a := i) (d := 4) (by omega) (by decide) (by decide))) ?_
      refine go_istore (pc' := 110) cx dX6_say_108 (ltn rfl) [(7, .int (nI (i / 4))), (10, .int 3), (9, .int 1), (8, .int 0), (6, .int (nI i)), (0, .ref (E.2.1 88)), (1, .int 4), (2, .int x2), (3, .int 256), (4, .int (-1)), (5, .int 0)] rfl rfl ?_
      refine go_iload (pc' := 112) cx dX6_say_110 rfl rfl ?_
      refine go_iload (pc' := 114) cx dX6_say_112 rfl rfl ?_
      refine go_aload_n (pc' := 115) cx dX6_say_114 rfl rfl ?_
      refine go_getr (pc' := 118) cx 101 fX6_53 dX6_say_115 kq88 (ltn rfl) (ltn rfl) rfl rfl rfl ?_
      refine go_iload (pc' := 120) cx dX6_say_118 rfl rfl ?_
      refine go_iald (pc' := 121) cx (nI (i % 4)) dX6_say_120 kq101 (ltn rfl) (vpi (k := 3) (a := 4) (ltn rfl) rfl rfl) ((congrArg ((up2 G 101 3 (nI (i % 4))) 101) (cli (k := 3) (a := 4) (ltn rfl) rfl)).trans (up2_s G 101 3 (nI (i % 4)))) rfl ?_
      refine go_imul (pc' := 122) cx dX6_say_121 rfl ?_
      refine go_val (w := .int (nI (1 * (i % 4)))) (congrArg Value.int (pk_mul 1 (i % 4))) ?_
      refine go_iadd (pc' := 123) cx dX6_say_122 rfl ?_
      refine go_val (w := .int (nI (0 + (1 * (i % 4))))) (congrArg Value.int (nI_add 0 (1 * (i % 4)))) ?_
      refine go_istore (pc' := 125) cx dX6_say_123 (ltn rfl) [(8, .int (nI (0 + (1 * (i % 4))))), (7, .int (nI (i / 4))), (10, .int 3), (9, .int 1), (6, .int (nI i)), (0, .ref (E.2.1 88)), (1, .int 4), (2, .int x2), (3, .int 256), (4, .int (-1)), (5, .int 0)] rfl rfl ?_
      refine go_iload (pc' := 127) cx dX6_say_125 rfl rfl ?_
      refine go_bipush (pc' := 129) cx 10 dX6_say_127 rfl rfl ?_
      refine go_imul (pc' := 130) cx dX6_say_129 rfl ?_
      refine go_val (w := .int 10) (congrArg Value.int (by decide)) ?_
      refine go_istore (pc' := 132) cx dX6_say_130 (ltn rfl) [(9, .int 10), (8, .int (nI (0 + (1 * (i % 4))))), (7, .int (nI (i / 4))), (10, .int 3), (6, .int (nI i)), (0, .ref (E.2.1 88)), (1, .int 4), (2, .int x2), (3, .int 256), (4, .int (-1)), (5, .int 0)] rfl rfl ?_
      refine go_iinc (pc' := 135) cx 2 dX6_say_132 rfl (by decide) (ltn rfl) [(10, .int 2), (9, .int 10), (8, .int (nI (0 + (1 * (i % 4))))), (7, .int (nI (i / 4))), (6, .int (nI i)), (0, .ref (E.2.1 88)), (1, .int 4), (2, .int x2), (3, .int 256), (4, .int (-1)), (5, .int 0)] rfl rfl ?_
      refine go_goto cx 88 dX6_say_135 rfl ?_
      refine go_iload (pc' := 90) cx dX6_say_88 rfl rfl ?_
      refine go_if_lt (pc' := 93) cx 138 dX6_say_90 rfl rfl (fun hh => absurd hh (by decide)) (fun _ => ?_)
      refine go_aload_n (pc' := 94) cx dX6_say_93 rfl rfl ?_
      refine go_getr (pc' := 97) cx 101 fX6_53 dX6_say_94 kq88 (ltn rfl) (ltn rfl) rfl rfl rfl ?_
      refine go_iload (pc' := 99) cx dX6_say_97 rfl rfl ?_
      refine go_iload (pc' := 101) cx dX6_say_99 rfl rfl ?_
      refine go_iconst (pc' := 102) cx 4 dX6_say_101 rfl rfl ?_
      refine go_irem (pc' := 103) cx (by decide) dX6_say_102 rfl ?_
      refine go_val (w := .int (nI ((i / 4) % 4))) (congrArg Value.int (pk_rem (a := (i / 4)) (d := 4) (by omega) (by decide) (by decide))) ?_
      refine go_iastk (pc' := 104) cx 2 dX6_say_103 kq101 (ltn rfl) (vpi (k := 2) (a := 3) (ltn rfl) rfl rfl) (cli (k := 2) (a := 3) (ltn rfl) rfl) rfl ?_
      refine go_iload (pc' := 106) cx dX6_say_104 rfl rfl ?_
      refine go_iconst (pc' := 107) cx 4 dX6_say_106 rfl rfl ?_
      refine go_idiv (pc' := 108) cx (by decide) dX6_say_107 rfl ?_
      refine go_val (w := .int (nI ((i / 4) / 4))) (congrArg Value.int (pk_div (a := (i / 4)) (d := 4) (by omega) (by decide) (by decide))) ?_
      refine go_istore (pc' := 110) cx dX6_say_108 (ltn rfl) [(7, .int (nI ((i / 4) / 4))), (10, .int 2), (9, .int 10), (8, .int (nI (0 + (1 * (i % 4))))), (6, .int (nI i)), (0, .ref (E.2.1 88)), (1, .int 4), (2, .int x2), (3, .int 256), (4, .int (-1)), (5, .int 0)] rfl rfl ?_
      refine go_iload (pc' := 112) cx dX6_say_110 rfl rfl ?_
      refine go_iload (pc' := 114) cx dX6_say_112 rfl rfl ?_
      refine go_aload_n (pc' := 115) cx dX6_say_114 rfl rfl ?_
      refine go_getr (pc' := 118) cx 101 fX6_53 dX6_say_115 kq88 (ltn rfl) (ltn rfl) rfl rfl rfl ?_
      refine go_iload (pc' := 120) cx dX6_say_118 rfl rfl ?_
      refine go_iald (pc' := 121) cx (nI ((i / 4) % 4)) dX6_say_120 kq101 (ltn rfl) (vpi (k := 2) (a := 3) (ltn rfl) rfl rfl) ((congrArg ((up2 (up2 G 101 3 (nI (i % 4))) 101 2 (nI ((i / 4) % 4))) 101) (cli (k := 2) (a := 3) (ltn rfl) rfl)).trans (up2_s (up2 G 101 3 (nI (i % 4))) 101 2 (nI ((i / 4) % 4)))) rfl ?_
      refine go_imul (pc' := 122) cx dX6_say_121 rfl ?_
      refine go_val (w := .int (nI (10 * ((i / 4) % 4)))) (congrArg Value.int (pk_mul 10 ((i / 4) % 4))) ?_
      refine go_iadd (pc' := 123) cx dX6_say_122 rfl ?_
      refine go_val (w := .int (nI ((0 + (1 * (i % 4))) + (10 * ((i / 4) % 4))))) (congrArg Value.int (nI_add (0 + (1 * (i % 4))) (10 * ((i / 4) % 4)))) ?_
      refine go_istore (pc' := 125) cx dX6_say_123 (ltn rfl) [(8, .int (nI ((0 + (1 * (i % 4))) + (10 * ((i / 4) % 4))))), (7, .int (nI ((i / 4) / 4))), (10, .int 2), (9, .int 10), (6, .int (nI i)), (0, .ref (E.2.1 88)), (1, .int 4), (2, .int x2), (3, .int 256), (4, .int (-1)), (5, .int 0)] rfl rfl ?_
      refine go_iload (pc' := 127) cx dX6_say_125 rfl rfl ?_
      refine go_bipush (pc' := 129) cx 10 dX6_say_127 rfl rfl ?_
      refine go_imul (pc' := 130) cx dX6_say_129 rfl ?_
      refine go_val (w := .int 100) (congrArg Value.int (by decide)) ?_
      refine go_istore (pc' := 132) cx dX6_say_130 (ltn rfl) [(9, .int 100), (8, .int (nI ((0 + (1 * (i % 4))) + (10 * ((i / 4) % 4))))), (7, .int (nI ((i / 4) / 4))), (10, .int 2), (6, .int (nI i)), (0, .ref (E.2.1 88)), (1, .int 4), (2, .int x2), (3, .int 256), (4, .int (-1)), (5, .int 0)] rfl rfl ?_
      refine go_iinc (pc' := 135) cx 1 dX6_say_132 rfl (by decide) (ltn rfl) [(10, .int 1), (9, .int 100), (8, .int (nI ((0 + (1 * (i % 4))) + (10 * ((i / 4) % 4))))), (7, .int (nI ((i / 4) / 4))), (6, .int (nI i)), (0, .ref (E.2.1 88)), (1, .int 4), (2, .int x2), (3, .int 256), (4, .int (-1)), (5, .int 0)] rfl rfl ?_
      refine go_goto cx 88 dX6_say_135 rfl ?_
      refine go_iload (pc' := 90) cx dX6_say_88 rfl rfl ?_
      refine go_if_lt (pc' := 93) cx 138 dX6_say_90 rfl rfl (fun hh => absurd hh (by decide)) (fun _ => ?_)
      refine go_aload_n (pc' := 94) cx dX6_say_93 rfl rfl ?_
      refine go_getr (pc' := 97) cx 101 fX6_53 dX6_say_94 kq88 (ltn rfl) (ltn rfl) rfl rfl rfl ?_
      refine go_iload (pc' := 99) cx dX6_say_97 rfl rfl ?_
      refine go_iload (pc' := 101) cx dX6_say_99 rfl rfl ?_
      refine go_iconst (pc' := 102) cx 4 dX6_say_101 rfl rfl ?_
      refine go_irem (pc' := 103) cx (by decide) dX6_say_102 rfl ?_
      refine go_val (w := .int (nI (((i / 4) / 4) % 4))) (congrArg Value.int (pk_rem (a := ((i / 4) / 4)) (d := 4) (by omega) (by decide) (by decide))) ?_
      refine go_iastk (pc' := 104) cx 1 dX6_say_103 kq101 (ltn rfl) (vpi (k := 1) (a := 2) (ltn rfl) rfl rfl) (cli (k := 1) (a := 2) (ltn rfl) rfl) rfl ?_
      refine go_iload (pc' := 106) cx dX6_say_104 rfl rfl ?_
      refine go_iconst (pc' := 107) cx 4 dX6_say_106 rfl rfl ?_
      refine go_idiv (pc' := 108) cx (by decide) dX6_say_107 rfl ?_
      refine go_val (w := .int (nI (((i / 4) / 4) / 4))) (congrArg Value.int (pk_div (a := ((i / 4) / 4)) (d := 4) (by omega) (by decide) (by decide))) ?_
      refine go_istore (pc' := 110) cx dX6_say_108 (ltn rfl) [(7, .int (nI (((i / 4) / 4) / 4))), (10, .int 1), (9, .int 100), (8, .int (nI ((0 + (1 * (i % 4))) + (10 * ((i / 4) % 4))))), (6, .int (nI i)), (0, .ref (E.2.1 88)), (1, .int 4), (2, .int x2), (3, .int 256), (4, .int (-1)), (5, .int 0)] rfl rfl ?_
      refine go_iload (pc' := 112) cx dX6_say_110 rfl rfl ?_
      refine go_iload (pc' := 114) cx dX6_say_112 rfl rfl ?_
      refine go_aload_n (pc' := 115) cx dX6_say_114 rfl rfl ?_
      refine go_getr (pc' := 118) cx 101 fX6_53 dX6_say_115 kq88 (ltn rfl) (ltn rfl) rfl rfl rfl ?_
      refine go_iload (pc' := 120) cx dX6_say_118 rfl rfl ?_
      refine go_iald (pc' := 121) cx (nI (((i / 4) / 4) % 4)) dX6_say_120 kq101 (ltn rfl) (vpi (k := 1) (a := 2) (ltn rfl) rfl rfl) ((congrArg ((up2 (up2 (up2 G 101 3 (nI (i % 4))) 101 2 (nI ((i / 4) % 4))) 101 1 (nI (((i / 4) / 4) % 4))) 101) (cli (k := 1) (a := 2) (ltn rfl) rfl)).trans (up2_s (up2 (up2 G 101 3 (nI (i % 4))) 101 2 (nI ((i / 4) % 4))) 101 1 (nI (((i / 4) / 4) % 4)))) rfl ?_
      refine go_imul (pc' := 122) cx dX6_say_121 rfl ?_
      refine go_val (w := .int (nI (100 * (((i / 4) / 4) % 4)))) (congrArg Value.int (pk_mul 100 (((i / 4) / 4) % 4))) ?_
      refine go_iadd (pc' := 123) cx dX6_say_122 rfl ?_
      refine go_val (w := .int (nI (((0 + (1 * (i % 4))) + (10 * ((i / 4) % 4))) + (100 * (((i / 4) / 4) % 4))))) (congrArg Value.int (nI_add ((0 + (1 * (i % 4))) + (10 * ((i / 4) % 4))) (100 * (((i / 4) / 4) % 4)))) ?_
      refine go_istore (pc' := 125) cx dX6_say_123 (ltn rfl) [(8, .int (nI (((0 + (1 * (i % 4))) + (10 * ((i / 4) % 4))) + (100 * (((i / 4) / 4) % 4))))), (7, .int (nI (((i / 4) / 4) / 4))), (10, .int 1), (9, .int 100), (6, .int (nI i)), (0, .ref (E.2.1 88)), (1, .int 4), (2, .int x2), (3, .int 256), (4, .int (-1)), (5, .int 0)] rfl rfl ?_
      refine go_iload (pc' := 127) cx dX6_say_125 rfl rfl ?_
      refine go_bipush (pc' := 129) cx 10 dX6_say_127 rfl rfl ?_
      refine go_imul (pc' := 130) cx dX6_say_129 rfl ?_
      refine go_val (w := .int 1000) (congrArg Value.int (by decide)) ?_
      refine go_istore (pc' := 132) cx dX6_say_130 (ltn rfl) [(9, .int 1000), (8, .int (nI (((0 + (1 * (i % 4))) + (10 * ((i / 4) % 4))) + (100 * (((i / 4) / 4) % 4))))), (7, .int (nI (((i / 4) / 4) / 4))), (10, .int 1), (6, .int (nI i)), (0, .ref (E.2.1 88)), (1, .int 4), (2, .int x2), (3, .int 256), (4, .int (-1)), (5, .int 0)] rfl rfl ?_
      refine go_iinc (pc' := 135) cx 0 dX6_say_132 rfl (by decide) (ltn rfl) [(10, .int 0), (9, .int 1000), (8, .int (nI (((0 + (1 * (i % 4))) + (10 * ((i / 4) % 4))) + (100 * (((i / 4) / 4) % 4))))), (7, .int (nI (((i / 4) / 4) / 4))), (6, .int (nI i)), (0, .ref (E.2.1 88)), (1, .int 4), (2, .int x2), (3, .int 256), (4, .int (-1)), (5, .int 0)] rfl rfl ?_
      refine go_goto cx 88 dX6_say_135 rfl ?_
      refine go_iload (pc' := 90) cx dX6_say_88 rfl rfl ?_
      refine go_if_lt (pc' := 93) cx 138 dX6_say_90 rfl rfl (fun hh => absurd hh (by decide)) (fun _ => ?_)
      refine go_aload_n (pc' := 94) cx dX6_say_93 rfl rfl ?_
      refine go_getr (pc' := 97) cx 101 fX6_53 dX6_say_94 kq88 (ltn rfl) (ltn rfl) rfl rfl rfl ?_
      refine go_iload (pc' := 99) cx dX6_say_97 rfl rfl ?_
      refine go_iload (pc' := 101) cx dX6_say_99 rfl rfl ?_
      refine go_iconst (pc' := 102) cx 4 dX6_say_101 rfl rfl ?_
      refine go_irem (pc' := 103) cx (by decide) dX6_say_102 rfl ?_
      refine go_val (w := .int (nI ((((i / 4) / 4) / 4) % 4))) (congrArg Value.int (pk_rem (a := (((i / 4) / 4) / 4)) (d := 4) (by omega) (by decide) (by decide))) ?_
      refine go_iastk (pc' := 104) cx 0 dX6_say_103 kq101 (ltn rfl) (vpi (k := 0) (a := 1) (ltn rfl) rfl rfl) (cli (k := 0) (a := 1) (ltn rfl) rfl) rfl ?_
      refine go_iload (pc' := 106) cx dX6_say_104 rfl rfl ?_
      refine go_iconst (pc' := 107) cx 4 dX6_say_106 rfl rfl ?_
      refine go_idiv (pc' := 108) cx (by decide) dX6_say_107 rfl ?_
      refine go_val (w := .int (nI ((((i / 4) / 4) / 4) / 4))) (congrArg Value.int (pk_div (a := (((i / 4) / 4) / 4)) (d := 4) (by omega) (by decide) (by decide))) ?_
      refine go_istore (pc' := 110) cx dX6_say_108 (ltn rfl) [(7, .int (nI ((((i / 4) / 4) / 4) / 4))), (10, .int 0), (9, .int 1000), (8, .int (nI (((0 + (1 * (i % 4))) + (10 * ((i / 4) % 4))) + (100 * (((i / 4) / 4) % 4))))), (6, .int (nI i)), (0, .ref (E.2.1 88)), (1, .int 4), (2, .int x2), (3, .int 256), (4, .int (-1)), (5, .int 0)] rfl rfl ?_
      refine go_iload (pc' := 112) cx dX6_say_110 rfl rfl ?_
      refine go_iload (pc' := 114) cx dX6_say_112 rfl rfl ?_
      refine go_aload_n (pc' := 115) cx dX6_say_114 rfl rfl ?_
      refine go_getr (pc' := 118) cx 101 fX6_53 dX6_say_115 kq88 (ltn rfl) (ltn rfl) rfl rfl rfl ?_
      refine go_iload (pc' := 120) cx dX6_say_118 rfl rfl ?_
      refine go_iald (pc' := 121) cx (nI ((((i / 4) / 4) / 4) % 4)) dX6_say_120 kq101 (ltn rfl) (vpi (k := 0) (a := 1) (ltn rfl) rfl rfl) ((congrArg ((up2 (up2 (up2 (up2 G 101 3 (nI (i % 4))) 101 2 (nI ((i / 4) % 4))) 101 1 (nI (((i / 4) / 4) % 4))) 101 0 (nI ((((i / 4) / 4) / 4) % 4))) 101) (cli (k := 0) (a := 1) (ltn rfl) rfl)).trans (up2_s (up2 (up2 (up2 G 101 3 (nI (i % 4))) 101 2 (nI ((i / 4) % 4))) 101 1 (nI (((i / 4) / 4) % 4))) 101 0 (nI ((((i / 4) / 4) / 4) % 4)))) rfl ?_
      refine go_imul (pc' := 122) cx dX6_say_121 rfl ?_
      refine go_val (w := .int (nI (1000 * ((((i / 4) / 4) / 4) % 4)))) (congrArg Value.int (pk_mul 1000 ((((i / 4) / 4) / 4) % 4))) ?_
      refine go_iadd (pc' := 123) cx dX6_say_122 rfl ?_
      refine go_val (w := .int (nI ((((0 + (1 * (i % 4))) + (10 * ((i / 4) % 4))) + (100 * (((i / 4) / 4) % 4))) + (1000 * ((((i / 4) / 4) / 4) % 4))))) (congrArg Value.int (nI_add (((0 + (1 * (i % 4))) + (10 * ((i / 4) % 4))) + (100 * (((i / 4) / 4) % 4))) (1000 * ((((i / 4) / 4) / 4) % 4)))) ?_
      refine go_istore (pc' := 125) cx dX6_say_123 (ltn rfl) [(8, .int (nI ((((0 + (1 * (i % 4))) + (10 * ((i / 4) % 4))) + (100 * (((i / 4) / 4) % 4))) + (1000 * ((((i / 4) / 4) / 4) % 4))))), (7, .int (nI ((((i / 4) / 4) / 4) / 4))), (10, .int 0), (9, .int 1000), (6, .int (nI i)), (0, .ref (E.2.1 88)), (1, .int 4), (2, .int x2), (3, .int 256), (4, .int (-1)), (5, .int 0)] rfl rfl ?_
      refine go_iload (pc' := 127) cx dX6_say_125 rfl rfl ?_
      refine go_bipush (pc' := 129) cx 10 dX6_say_127 rfl rfl ?_
      refine go_imul (pc' := 130) cx dX6_say_129 rfl ?_
      refine go_val (w := .int 10000) (congrArg Value.int (by decide)) ?_
      refine go_istore (pc' := 132) cx dX6_say_130 (ltn rfl) [(9, .int 10000), (8, .int (nI ((((0 + (1 * (i % 4))) + (10 * ((i / 4) % 4))) + (100 * (((i / 4) / 4) % 4))) + (1000 * ((((i / 4) / 4) / 4) % 4))))), (7, .int (nI ((((i / 4) / 4) / 4) / 4))), (10, .int 0), (6, .int (nI i)), (0, .ref (E.2.1 88)), (1, .int 4), (2, .int x2), (3, .int 256), (4, .int (-1)), (5, .int 0)] rfl rfl ?_
      refine go_iinc (pc' := 135) cx (-1) dX6_say_132 rfl (by decide) (ltn rfl) [(10, .int (-1)), (9, .int 10000), (8, .int (nI ((((0 + (1 * (i % 4))) + (10 * ((i / 4) % 4))) + (100 * (((i / 4) / 4) % 4))) + (1000 * ((((i / 4) / 4) / 4) % 4))))), (7, .int (nI ((((i / 4) / 4) / 4) / 4))), (6, .int (nI i)), (0, .ref (E.2.1 88)), (1, .int 4), (2, .int x2), (3, .int 256), (4, .int (-1)), (5, .int 0)] rfl rfl ?_
      refine go_goto cx 88 dX6_say_135 rfl ?_
      refine go_iload (pc' := 90) cx dX6_say_88 rfl rfl ?_
      refine go_if_lt (pc' := 93) cx 138 dX6_say_90 rfl rfl (fun _ => ?_) (fun hh => absurd (by decide) hh)
      refine go_aload_n (pc' := 139) cx dX6_say_138 rfl rfl ?_
      obtain ⟨GI, hGI⟩ : ∃ y : IG, y = (up2 (up2 (up2 (up2 G 101 3 (nI (i % 4))) 101 2 (nI ((i / 4) % 4))) 101 1 (nI (((i / 4) / 4) % 4))) 101 0 (nI ((((i / 4) / 4) / 4) % 4))) := ⟨_, rfl⟩
      refine go_g hGI.symm ?_
      have aI : ∀ i9 q, ¬ (i9 = 101 ∧ q < 4) → GI i9 q = G i9 q := fun i9 q h9 => by
        rw [hGI, up2_n _ _ (by omega), up2_n _ _ (by omega), up2_n _ _ (by omega), up2_n _ _ (by omega)]
      have hFI : FrW (92 + 9) g GI := by
        rw [hGI]
        exact ((((hF.up (by omega)).up (by omega)).up (by omega)).up (by omega))
      have hRI : Req (svM GI) (sayS (svM g) 4 i) hn vn := reqW (j := 9) (Or.inr (Or.inr rfl)) hFI (fun i9 k9 q => if_neg (fun q9 => q q9.1)) (fun k9 h9 => by
        show GI 101 k9 = _
        by_cases e : k9 < 4
        · rw [show sayS (svM g) 4 i 9 k9 = nI (dgt 4 i k9) from if_pos ⟨rfl, e⟩]
          rcases (show k9 = 0 ∨ k9 = 1 ∨ k9 = 2 ∨ k9 = 3 by omega) with rfl | rfl | rfl | rfl
          · rw [hGI, up2_s]
            refine congrArg nI ?_
            show i / 4 / 4 / 4 % 4 = i / 4 ^ 3 % 4
            omega
          · rw [hGI, up2_n _ _ (by omega), up2_s]
            refine congrArg nI ?_
            show i / 4 / 4 % 4 = i / 4 ^ 2 % 4
            omega
          · rw [hGI, up2_n _ _ (by omega), up2_n _ _ (by omega), up2_s]
            refine congrArg nI ?_
            show i / 4 % 4 = i / 4 ^ 1 % 4
            omega
          · rw [hGI, up2_n _ _ (by omega), up2_n _ _ (by omega), up2_n _ _ (by omega), up2_s]
            refine congrArg nI ?_
            show i % 4 = i / 4 ^ 0 % 4
            omega
        · rw [show sayS (svM g) 4 i 9 k9 = svM g 9 k9 from if_neg (fun q9 => e q9.2), aI 101 k9 (by omega)]
          exact hW k9 (by omega))
      have hHI : HdS (svM GI) hn vn := by
        intro u hu
        obtain ⟨h, hh, e⟩ := hX.2.2.2.2.1 u hu
        exact ⟨h, hh, (hFI 99 u (by omega)).trans e⟩
      have hSI : SdI GI tc CS := hS.fr (funext fun q => aI 102 q (by omega))
      have hXI : XM GI hn vn ru tc CS := hX.fw (j := 9) (Or.inr (Or.inr rfl)) hFI hSI hHI
      have hE9 : BDs (TMx CS ru) (svM GI) vn = (sayE (TMx CS ru) (svM g) vn 4) i := hRI.bd hHI (by omega)
      refine go_cVIz (pc' := 142) cx (c_X6_courses l E (g := GI) hXI) mX6_courses lX6_421 dX6_say_139 kq88 (ltn rfl) (ltn rfl) rfl rfl rfl rfl (ltn rfl) (Nat.le_of_ble_eq_true rfl) (Nat.le_of_ble_eq_true rfl) rfl (fun xc GC zc hc => ?_)
      obtain ⟨ec, fc, -, -, sc⟩ := hc
      rw [hE9] at ec
      refine go_istore (pc' := 144) cx dX6_say_142 (ltn rfl) [(10, .int xc), (9, .int 10000), (8, .int (nI ((((0 + (1 * (i % 4))) + (10 * ((i / 4) % 4))) + (100 * (((i / 4) / 4) % 4))) + (1000 * ((((i / 4) / 4) / 4) % 4))))), (7, .int (nI ((((i / 4) / 4) / 4) / 4))), (6, .int (nI i)), (0, .ref (E.2.1 88)), (1, .int 4), (2, .int x2), (3, .int 256), (4, .int (-1)), (5, .int 0)] rfl rfl ?_
      refine go_iload (pc' := 146) cx dX6_say_144 rfl rfl ?_
      refine go_iconst (pc' := 147) cx (-1) dX6_say_146 rfl rfl ?_
      refine go_icmp_eq (pc' := 150) cx 157 dX6_say_147 rfl rfl (fun _ => ?_) (fun hh9 => absurd rfl hh9)
      refine go_iload (pc' := 159) cx dX6_say_157 rfl rfl ?_
      refine go_istore (pc' := 161) cx dX6_say_159 (ltn rfl) [(4, .int (nI ((((0 + (1 * (i % 4))) + (10 * ((i / 4) % 4))) + (100 * (((i / 4) / 4) % 4))) + (1000 * ((((i / 4) / 4) / 4) % 4))))), (10, .int xc), (9, .int 10000), (8, .int (nI ((((0 + (1 * (i % 4))) + (10 * ((i / 4) % 4))) + (100 * (((i / 4) / 4) % 4))) + (1000 * ((((i / 4) / 4) / 4) % 4))))), (7, .int (nI ((((i / 4) / 4) / 4) / 4))), (6, .int (nI i)), (0, .ref (E.2.1 88)), (1, .int 4), (2, .int x2), (3, .int 256), (5, .int 0)] rfl rfl ?_
      refine go_iload (pc' := 163) cx dX6_say_161 rfl rfl ?_
      refine go_istore (pc' := 165) cx dX6_say_163 (ltn rfl) [(5, .int xc), (4, .int (nI ((((0 + (1 * (i % 4))) + (10 * ((i / 4) % 4))) + (100 * (((i / 4) / 4) % 4))) + (1000 * ((((i / 4) / 4) / 4) % 4))))), (10, .int xc), (9, .int 10000), (8, .int (nI ((((0 + (1 * (i % 4))) + (10 * ((i / 4) % 4))) + (100 * (((i / 4) / 4) % 4))) + (1000 * ((((i / 4) / 4) / 4) % 4))))), (7, .int (nI ((((i / 4) / 4) / 4) / 4))), (6, .int (nI i)), (0, .ref (E.2.1 88)), (1, .int 4), (2, .int x2), (3, .int 256)] rfl rfl ?_
      refine go_iinc (pc' := 168) cx (nI (i + 1)) dX6_say_165 rfl (nI_1 i) (ltn rfl) [(6, .int (nI (i + 1))), (5, .int xc), (4, .int (nI ((((0 + (1 * (i % 4))) + (10 * ((i / 4) % 4))) + (100 * (((i / 4) / 4) % 4))) + (1000 * ((((i / 4) / 4) / 4) % 4))))), (10, .int xc), (9, .int 10000), (8, .int (nI ((((0 + (1 * (i % 4))) + (10 * ((i / 4) % 4))) + (100 * (((i / 4) / 4) % 4))) + (1000 * ((((i / 4) / 4) / 4) % 4))))), (7, .int (nI ((((i / 4) / 4) / 4) / 4))), (0, .ref (E.2.1 88)), (1, .int 4), (2, .int x2), (3, .int 256)] rfl rfl ?_
      refine go_goto cx 67 dX6_say_168 rfl ?_
      refine go_sub [0, 7, 8, 9, 10, 2, 1] [(6, .int (nI (i + 1))), (0, .ref (E.2.1 88)), (1, .int 4), (2, .int x2), (3, .int 256), (4, .int (nI ((((0 + (1 * (i % 4))) + (10 * ((i / 4) % 4))) + (100 * (((i / 4) / 4) % 4))) + (1000 * ((((i / 4) / 4) / 4) % 4))))), (5, .int xc)] rfl ?_
      have e9 : mns (sayE (TMx CS ru) (svM g) vn 4) (i + 1) = some i := mns_sn hq
      have e8 : nI ((((0 + (1 * (i % 4))) + (10 * ((i / 4) % 4))) + (100 * (((i / 4) / 4) % 4))) + (1000 * ((((i / 4) / 4) / 4) % 4))) = nI (dcm 4 i) := congrArg nI (show ((((0 + (1 * (i % 4))) + (10 * ((i / 4) % 4))) + (100 * (((i / 4) / 4) % 4))) + (1000 * ((((i / 4) / 4) / 4) % 4))) = dcm 4 i from by
        simp only [dcm]
        omega)
      refine go_sub [0, 1, 2, 3, 4, 5, 6] [(6, .int (nI (i + 1))), (0, .ref (E.2.1 88)), (1, .int 4), (2, .int x2), (3, .int 256), (4, .int (odg 4 (mns (sayE (TMx CS ru) (svM g) vn 4) (i + 1)))), (5, .int (ow (sayE (TMx CS ru) (svM g) vn 4) (mns (sayE (TMx CS ru) (svM g) vn 4) (i + 1))))] (by rw [e9, odg_dc, e8, ec]; rfl) ?_
      exact ih (i + 1) GC zc (by omega) (hFI.tr fc.fw) ((hK.fr (funext fun q => aI 106 q (by omega)) (funext fun q => aI 107 q (by omega))).fr (fc.c (by omega) (by omega)) (fc.c (by omega) (by omega))) (fun k9 q9 => (fc 101 k9 (by omega)).trans ((aI 101 k9 (by omega)).trans (hW k9 q9))) sc hZ
    | some b =>
      refine go_sub [0, 1, 2, 3, 4, 5, 6] [(6, .int (nI i)), (0, .ref (E.2.1 88)), (1, .int 4), (2, .int x2), (3, .int 256), (4, .int (nI (dcm 4 b))), (5, .int ((sayE (TMx CS ru) (svM g) vn 4) b))] (by rw [odg_dc]; rfl) ?_
      refine go_iload (pc' := 69) cx dX6_say_67 rfl rfl ?_
      refine go_iload_n (pc' := 70) cx dX6_say_69 rfl rfl ?_
      refine go_icmp_ge (pc' := 73) cx 171 dX6_say_70 rfl rfl (fun hh9 => absurd ((nI_leI (a := 256) (b := i) (by omega) (by omega)).mp hh9) (by omega)) (fun _ => ?_)
      refine go_iload (pc' := 75) cx dX6_say_73 rfl rfl ?_
      refine go_istore (pc' := 77) cx dX6_say_75 (ltn rfl) [(7, .int (nI i)), (6, .int (nI i)), (0, .ref (E.2.1 88)), (1, .int 4), (2, .int x2), (3, .int 256), (4, .int (nI (dcm 4 b))), (5, .int ((sayE (TMx CS ru) (svM g) vn 4) b))] rfl rfl ?_
      refine go_iconst (pc' := 78) cx 0 dX6_say_77 rfl rfl ?_
      refine go_istore (pc' := 80) cx dX6_say_78 (ltn rfl) [(8, .int 0), (7, .int (nI i)), (6, .int (nI i)), (0, .ref (E.2.1 88)), (1, .int 4), (2, .int x2), (3, .int 256), (4, .int (nI (dcm 4 b))), (5, .int ((sayE (TMx CS ru) (svM g) vn 4) b))] rfl rfl ?_
      refine go_iconst (pc' := 81) cx 1 dX6_say_80 rfl rfl ?_
      refine go_istore (pc' := 83) cx dX6_say_81 (ltn rfl) [(9, .int 1), (8, .int 0), (7, .int (nI i)), (6, .int (nI i)), (0, .ref (E.2.1 88)), (1, .int 4), (2, .int x2), (3, .int 256), (4, .int (nI (dcm 4 b))), (5, .int ((sayE (TMx CS ru) (svM g) vn 4) b))] rfl rfl ?_
      refine go_iload_n (pc' := 84) cx dX6_say_83 rfl rfl ?_
      refine go_iconst (pc' := 85) cx 1 dX6_say_84 rfl rfl ?_
      refine go_isub (pc' := 86) cx dX6_say_85 rfl ?_
      refine go_val (w := .int 3) (congrArg Value.int (by decide)) ?_
      refine go_istore (pc' := 88) cx dX6_say_86 (ltn rfl) [(10, .int 3), (9, .int 1), (8, .int 0), (7, .int (nI i)), (6, .int (nI i)), (0, .ref (E.2.1 88)), (1, .int 4), (2, .int x2), (3, .int 256), (4, .int (nI (dcm 4 b))), (5, .int ((sayE (TMx CS ru) (svM g) vn 4) b))] rfl rfl ?_
      refine go_iload (pc' := 90) cx dX6_say_88 rfl rfl ?_
      refine go_if_lt (pc' := 93) cx 138 dX6_say_90 rfl rfl (fun hh => absurd hh (by decide)) (fun _ => ?_)
      refine go_aload_n (pc' := 94) cx dX6_say_93 rfl rfl ?_
      refine go_getr (pc' := 97) cx 101 fX6_53 dX6_say_94 kq88 (ltn rfl) (ltn rfl) rfl rfl rfl ?_
      refine go_iload (pc' := 99) cx dX6_say_97 rfl rfl ?_
      refine go_iload (pc' := 101) cx dX6_say_99 rfl rfl ?_
      refine go_iconst (pc' := 102) cx 4 dX6_say_101 rfl rfl ?_
      refine go_irem (pc' := 103) cx (by decide) dX6_say_102 rfl ?_
      refine go_val (w := .int (nI (i % 4))) (congrArg Value.int (pk_rem (a := i) (d := 4) (by omega) (by decide) (by decide))) ?_
      refine go_iastk (pc' := 104) cx 3 dX6_say_103 kq101 (ltn rfl) (vpi (k := 3) (a := 4) (ltn rfl) rfl rfl) (cli (k := 3) (a := 4) (ltn rfl) rfl) rfl ?_
      refine go_iload (pc' := 106) cx dX6_say_104 rfl rfl ?_
      refine go_iconst (pc' := 107) cx 4 dX6_say_106 rfl rfl ?_
      refine go_idiv (pc' := 108) cx (by decide) dX6_say_107 rfl ?_
      refine go_val (w := .int (nI (i / 4))) (congrArg Value.int (pk_div (a := i) (d := 4) (by omega) (by decide) (by decide))) ?_
      refine go_istore (pc' := 110) cx dX6_say_108 (ltn rfl) [(7, .int (nI (i / 4))), (10, .int 3), (9, .int 1), (8, .int 0), (6, .int (nI i)), (0, .ref (E.2.1 88)), (1, .int 4), (2, .int x2), (3, .int 256), (4, .int (nI (dcm 4 b))), (5, .int ((sayE (TMx CS ru) (svM g) vn 4) b))] rfl rfl ?_
      refine go_iload (pc' := 112) cx dX6_say_110 rfl rfl ?_
      refine go_iload (pc' := 114) cx dX6_say_112 rfl rfl ?_
      refine go_aload_n (pc' := 115) cx dX6_say_114 rfl rfl ?_
      refine go_getr (pc' := 118) cx 101 fX6_53 dX6_say_115 kq88 (ltn rfl) (ltn rfl) rfl rfl rfl ?_
      refine go_iload (pc' := 120) cx dX6_say_118 rfl rfl ?_
      refine go_iald (pc' := 121) cx (nI (i % 4)) dX6_say_120 kq101 (ltn rfl) (vpi (k := 3) (a := 4) (ltn rfl) rfl rfl) ((congrArg ((up2 G 101 3 (nI (i % 4))) 101) (cli (k := 3) (a := 4) (ltn rfl) rfl)).trans (up2_s G 101 3 (nI (i % 4)))) rfl ?_
      refine go_imul (pc' := 122) cx dX6_say_121 rfl ?_
      refine go_val (w := .int (nI (1 * (i % 4)))) (congrArg Value.int (pk_mul 1 (i % 4))) ?_
      refine go_iadd (pc' := 123) cx dX6_say_122 rfl ?_
      refine go_val (w := .int (nI (0 + (1 * (i % 4))))) (congrArg Value.int (nI_add 0 (1 * (i % 4)))) ?_
      refine go_istore (pc' := 125) cx dX6_say_123 (ltn rfl) [(8, .int (nI (0 + (1 * (i % 4))))), (7, .int (nI (i / 4))), (10, .int 3), (9, .int 1), (6, .int (nI i)), (0, .ref (E.2.1 88)), (1, .int 4), (2, .int x2), (3, .int 256), (4, .int (nI (dcm 4 b))), (5, .int ((sayE (TMx CS ru) (svM g) vn 4) b))] rfl rfl ?_
      refine go_iload (pc' := 127) cx dX6_say_125 rfl rfl ?_
      refine go_bipush (pc' := 129) cx 10 dX6_say_127 rfl rfl ?_
      refine go_imul (pc' := 130) cx dX6_say_129 rfl ?_
      refine go_val (w := .int 10) (congrArg Value.int (by decide)) ?_
      refine go_istore (pc' := 132) cx dX6_say_130 (ltn rfl) [(9, .int 10), (8, .int (nI (0 + (1 * (i % 4))))), (7, .int (nI (i / 4))), (10, .int 3), (6, .int (nI i)), (0, .ref (E.2.1 88)), (1, .int 4), (2, .int x2), (3, .int 256), (4, .int (nI (dcm 4 b))), (5, .int ((sayE (TMx CS ru) (svM g) vn 4) b))] rfl rfl ?_
      refine go_iinc (pc' := 135) cx 2 dX6_say_132 rfl (by decide) (ltn rfl) [(10, .int 2), (9, .int 10), (8, .int (nI (0 + (1 * (i % 4))))), (7, .int (nI (i / 4))), (6, .int (nI i)), (0, .ref (E.2.1 88)), (1, .int 4), (2, .int x2), (3, .int 256), (4, .int (nI (dcm 4 b))), (5, .int ((sayE (TMx CS ru) (svM g) vn 4) b))] rfl rfl ?_
      refine go_goto cx 88 dX6_say_135 rfl ?_
      refine go_iload (pc' := 90) cx dX6_say_88 rfl rfl ?_
      refine go_if_lt (pc' := 93) cx 138 dX6_say_90 rfl rfl (fun hh => absurd hh (by decide)) (fun _ => ?_)
      refine go_aload_n (pc' := 94) cx dX6_say_93 rfl rfl ?_
      refine go_getr (pc' := 97) cx 101 fX6_53 dX6_say_94 kq88 (ltn rfl) (ltn rfl) rfl rfl rfl ?_
      refine go_iload (pc' := 99) cx dX6_say_97 rfl rfl ?_
      refine go_iload (pc' := 101) cx dX6_say_99 rfl rfl ?_
      refine go_iconst (pc' := 102) cx 4 dX6_say_101 rfl rfl ?_
      refine go_irem (pc' := 103) cx (by decide) dX6_say_102 rfl ?_
      refine go_val (w := .int (nI ((i / 4) % 4))) (congrArg Value.int (pk_rem (a := (i / 4)) (d := 4) (by omega) (by decide) (by decide))) ?_
      refine go_iastk (pc' := 104) cx 2 dX6_say_103 kq101 (ltn rfl) (vpi (k := 2) (a := 3) (ltn rfl) rfl rfl) (cli (k := 2) (a := 3) (ltn rfl) rfl) rfl ?_
      refine go_iload (pc' := 106) cx dX6_say_104 rfl rfl ?_
      refine go_iconst (pc' := 107) cx 4 dX6_say_106 rfl rfl ?_
      refine go_idiv (pc' := 108) cx (by decide) dX6_say_107 rfl ?_
      refine go_val (w := .int (nI ((i / 4) / 4))) (congrArg Value.int (pk_div (a := (i / 4)) (d := 4) (by omega) (by decide) (by decide))) ?_
      refine go_istore (pc' := 110) cx dX6_say_108 (ltn rfl) [(7, .int (nI ((i / 4) / 4))), (10, .int 2), (9, .int 10), (8, .int (nI (0 + (1 * (i % 4))))), (6, .int (nI i)), (0, .ref (E.2.1 88)), (1, .int 4), (2, .int x2), (3, .int 256), (4, .int (nI (dcm 4 b))), (5, .int ((sayE (TMx CS ru) (svM g) vn 4) b))] rfl rfl ?_
      refine go_iload (pc' := 112) cx dX6_say_110 rfl rfl ?_
      refine go_iload (pc' := 114) cx dX6_say_112 rfl rfl ?_
      refine go_aload_n (pc' := 115) cx dX6_say_114 rfl rfl ?_
      refine go_getr (pc' := 118) cx 101 fX6_53 dX6_say_115 kq88 (ltn rfl) (ltn rfl) rfl rfl rfl ?_
      refine go_iload (pc' := 120) cx dX6_say_118 rfl rfl ?_
      refine go_iald (pc' := 121) cx (nI ((i / 4) % 4)) dX6_say_120 kq101 (ltn rfl) (vpi (k := 2) (a := 3) (ltn rfl) rfl rfl) ((congrArg ((up2 (up2 G 101 3 (nI (i % 4))) 101 2 (nI ((i / 4) % 4))) 101) (cli (k := 2) (a := 3) (ltn rfl) rfl)).trans (up2_s (up2 G 101 3 (nI (i % 4))) 101 2 (nI ((i / 4) % 4)))) rfl ?_
      refine go_imul (pc' := 122) cx dX6_say_121 rfl ?_
      refine go_val (w := .int (nI (10 * ((i / 4) % 4)))) (congrArg Value.int (pk_mul 10 ((i / 4) % 4))) ?_
      refine go_iadd (pc' := 123) cx dX6_say_122 rfl ?_
      refine go_val (w := .int (nI ((0 + (1 * (i % 4))) + (10 * ((i / 4) % 4))))) (congrArg Value.int (nI_add (0 + (1 * (i % 4))) (10 * ((i / 4) % 4)))) ?_
      refine go_istore (pc' := 125) cx dX6_say_123 (ltn rfl) [(8, .int (nI ((0 + (1 * (i % 4))) + (10 * ((i / 4) % 4))))), (7, .int (nI ((i / 4) / 4))), (10, .int 2), (9, .int 10), (6, .int (nI i)), (0, .ref (E.2.1 88)), (1, .int 4), (2, .int x2), (3, .int 256), (4, .int (nI (dcm 4 b))), (5, .int ((sayE (TMx CS ru) (svM g) vn 4) b))] rfl rfl ?_
      refine go_iload (pc' := 127) cx dX6_say_125 rfl rfl ?_
      refine go_bipush (pc' := 129) cx 10 dX6_say_127 rfl rfl ?_
      refine go_imul (pc' := 130) cx dX6_say_129 rfl ?_
      refine go_val (w := .int 100) (congrArg Value.int (by decide)) ?_
      refine go_istore (pc' := 132) cx dX6_say_130 (ltn rfl) [(9, .int 100), (8, .int (nI ((0 + (1 * (i % 4))) + (10 * ((i / 4) % 4))))), (7, .int (nI ((i / 4) / 4))), (10, .int 2), (6, .int (nI i)), (0, .ref (E.2.1 88)), (1, .int 4), (2, .int x2), (3, .int 256), (4, .int (nI (dcm 4 b))), (5, .int ((sayE (TMx CS ru) (svM g) vn 4) b))] rfl rfl ?_
      refine go_iinc (pc' := 135) cx 1 dX6_say_132 rfl (by decide) (ltn rfl) [(10, .int 1), (9, .int 100), (8, .int (nI ((0 + (1 * (i % 4))) + (10 * ((i / 4) % 4))))), (7, .int (nI ((i / 4) / 4))), (6, .int (nI i)), (0, .ref (E.2.1 88)), (1, .int 4), (2, .int x2), (3, .int 256), (4, .int (nI (dcm 4 b))), (5, .int ((sayE (TMx CS ru) (svM g) vn 4) b))] rfl rfl ?_
      refine go_goto cx 88 dX6_say_135 rfl ?_
      refine go_iload (pc' := 90) cx dX6_say_88 rfl rfl ?_
      refine go_if_lt (pc' := 93) cx 138 dX6_say_90 rfl rfl (fun hh => absurd hh (by decide)) (fun _ => ?_)
      refine go_aload_n (pc' := 94) cx dX6_say_93 rfl rfl ?_
      refine go_getr (pc' := 97) cx 101 fX6_53 dX6_say_94 kq88 (ltn rfl) (ltn rfl) rfl rfl rfl ?_
      refine go_iload (pc' := 99) cx dX6_say_97 rfl rfl ?_
      refine go_iload (pc' := 101) cx dX6_say_99 rfl rfl ?_
      refine go_iconst (pc' := 102) cx 4 dX6_say_101 rfl rfl ?_
      refine go_irem (pc' := 103) cx (by decide) dX6_say_102 rfl ?_
      refine go_val (w := .int (nI (((i / 4) / 4) % 4))) (congrArg Value.int (pk_rem (a := ((i / 4) / 4)) (d := 4) (by omega) (by decide) (by decide))) ?_
      refine go_iastk (pc' := 104) cx 1 dX6_say_103 kq101 (ltn rfl) (vpi (k := 1) (a := 2) (ltn rfl) rfl rfl) (cli (k := 1) (a := 2) (ltn rfl) rfl) rfl ?_
      refine go_iload (pc' := 106) cx dX6_say_104 rfl rfl ?_
      refine go_iconst (pc' := 107) cx 4 dX6_say_106 rfl rfl ?_
      refine go_idiv (pc' := 108) cx (by decide) dX6_say_107 rfl ?_
      refine go_val (w := .int (nI (((i / 4) / 4) / 4))) (congrArg Value.int (pk_div (a := ((i / 4) / 4)) (d := 4) (by omega) (by decide) (by decide))) ?_
      refine go_istore (pc' := 110) cx dX6_say_108 (ltn rfl) [(7, .int (nI (((i / 4) / 4) / 4))), (10, .int 1), (9, .int 100), (8, .int (nI ((0 + (1 * (i % 4))) + (10 * ((i / 4) % 4))))), (6, .int (nI i)), (0, .ref (E.2.1 88)), (1, .int 4), (2, .int x2), (3, .int 256), (4, .int (nI (dcm 4 b))), (5, .int ((sayE (TMx CS ru) (svM g) vn 4) b))] rfl rfl ?_
      refine go_iload (pc' := 112) cx dX6_say_110 rfl rfl ?_
      refine go_iload (pc' := 114) cx dX6_say_112 rfl rfl ?_
      refine go_aload_n (pc' := 115) cx dX6_say_114 rfl rfl ?_
      refine go_getr (pc' := 118) cx 101 fX6_53 dX6_say_115 kq88 (ltn rfl) (ltn rfl) rfl rfl rfl ?_
      refine go_iload (pc' := 120) cx dX6_say_118 rfl rfl ?_
      refine go_iald (pc' := 121) cx (nI (((i / 4) / 4) % 4)) dX6_say_120 kq101 (ltn rfl) (vpi (k := 1) (a := 2) (ltn rfl) rfl rfl) ((congrArg ((up2 (up2 (up2 G 101 3 (nI (i % 4))) 101 2 (nI ((i / 4) % 4))) 101 1 (nI (((i / 4) / 4) % 4))) 101) (cli (k := 1) (a := 2) (ltn rfl) rfl)).trans (up2_s (up2 (up2 G 101 3 (nI (i % 4))) 101 2 (nI ((i / 4) % 4))) 101 1 (nI (((i / 4) / 4) % 4)))) rfl ?_
      refine go_imul (pc' := 122) cx dX6_say_121 rfl ?_
      refine go_val (w := .int (nI (100 * (((i / 4) / 4) % 4)))) (congrArg Value.int (pk_mul 100 (((i / 4) / 4) % 4))) ?_
      refine go_iadd (pc' := 123) cx dX6_say_122 rfl ?_
      refine go_val (w := .int (nI (((0 + (1 * (i % 4))) + (10 * ((i / 4) % 4))) + (100 * (((i / 4) / 4) % 4))))) (congrArg Value.int (nI_add ((0 + (1 * (i % 4))) + (10 * ((i / 4) % 4))) (100 * (((i / 4) / 4) % 4)))) ?_
      refine go_istore (pc' := 125) cx dX6_say_123 (ltn rfl) [(8, .int (nI (((0 + (1 * (i % 4))) + (10 * ((i / 4) % 4))) + (100 * (((i / 4) / 4) % 4))))), (7, .int (nI (((i / 4) / 4) / 4))), (10, .int 1), (9, .int 100), (6, .int (nI i)), (0, .ref (E.2.1 88)), (1, .int 4), (2, .int x2), (3, .int 256), (4, .int (nI (dcm 4 b))), (5, .int ((sayE (TMx CS ru) (svM g) vn 4) b))] rfl rfl ?_
      refine go_iload (pc' := 127) cx dX6_say_125 rfl rfl ?_
      refine go_bipush (pc' := 129) cx 10 dX6_say_127 rfl rfl ?_
      refine go_imul (pc' := 130) cx dX6_say_129 rfl ?_
      refine go_val (w := .int 1000) (congrArg Value.int (by decide)) ?_
      refine go_istore (pc' := 132) cx dX6_say_130 (ltn rfl) [(9, .int 1000), (8, .int (nI (((0 + (1 * (i % 4))) + (10 * ((i / 4) % 4))) + (100 * (((i / 4) / 4) % 4))))), (7, .int (nI (((i / 4) / 4) / 4))), (10, .int 1), (6, .int (nI i)), (0, .ref (E.2.1 88)), (1, .int 4), (2, .int x2), (3, .int 256), (4, .int (nI (dcm 4 b))), (5, .int ((sayE (TMx CS ru) (svM g) vn 4) b))] rfl rfl ?_
      refine go_iinc (pc' := 135) cx 0 dX6_say_132 rfl (by decide) (ltn rfl) [(10, .int 0), (9, .int 1000), (8, .int (nI (((0 + (1 * (i % 4))) + (10 * ((i / 4) % 4))) + (100 * (((i / 4) / 4) % 4))))), (7, .int (nI (((i / 4) / 4) / 4))), (6, .int (nI i)), (0, .ref (E.2.1 88)), (1, .int 4), (2, .int x2), (3, .int 256), (4, .int (nI (dcm 4 b))), (5, .int ((sayE (TMx CS ru) (svM g) vn 4) b))] rfl rfl ?_
      refine go_goto cx 88 dX6_say_135 rfl ?_
      refine go_iload (pc' := 90) cx dX6_say_88 rfl rfl ?_
      refine go_if_lt (pc' := 93) cx 138 dX6_say_90 rfl rfl (fun hh => absurd hh (by decide)) (fun _ => ?_)
      refine go_aload_n (pc' := 94) cx dX6_say_93 rfl rfl ?_
      refine go_getr (pc' := 97) cx 101 fX6_53 dX6_say_94 kq88 (ltn rfl) (ltn rfl) rfl rfl rfl ?_
      refine go_iload (pc' := 99) cx dX6_say_97 rfl rfl ?_
      refine go_iload (pc' := 101) cx dX6_say_99 rfl rfl ?_
      refine go_iconst (pc' := 102) cx 4 dX6_say_101 rfl rfl ?_
      refine go_irem (pc' := 103) cx (by decide) dX6_say_102 rfl ?_
      refine go_val (w := .int (nI ((((i / 4) / 4) / 4) % 4))) (congrArg Value.int (pk_rem (a := (((i / 4) / 4) / 4)) (d := 4) (by omega) (by decide) (by decide))) ?_
      refine go_iastk (pc' := 104) cx 0 dX6_say_103 kq101 (ltn rfl) (vpi (k := 0) (a := 1) (ltn rfl) rfl rfl) (cli (k := 0) (a := 1) (ltn rfl) rfl) rfl ?_
      refine go_iload (pc' := 106) cx dX6_say_104 rfl rfl ?_
      refine go_iconst (pc' := 107) cx 4 dX6_say_106 rfl rfl ?_
      refine go_idiv (pc' := 108) cx (by decide) dX6_say_107 rfl ?_
      refine go_val (w := .int (nI ((((i / 4) / 4) / 4) / 4))) (congrArg Value.int (pk_div (a := (((i / 4) / 4) / 4)) (d := 4) (by omega) (by decide) (by decide))) ?_
      refine go_istore (pc' := 110) cx dX6_say_108 (ltn rfl) [(7, .int (nI ((((i / 4) / 4) / 4) / 4))), (10, .int 0), (9, .int 1000), (8, .int (nI (((0 + (1 * (i % 4))) + (10 * ((i / 4) % 4))) + (100 * (((i / 4) / 4) % 4))))), (6, .int (nI i)), (0, .ref (E.2.1 88)), (1, .int 4), (2, .int x2), (3, .int 256), (4, .int (nI (dcm 4 b))), (5, .int ((sayE (TMx CS ru) (svM g) vn 4) b))] rfl rfl ?_
      refine go_iload (pc' := 112) cx dX6_say_110 rfl rfl ?_
      refine go_iload (pc' := 114) cx dX6_say_112 rfl rfl ?_
      refine go_aload_n (pc' := 115) cx dX6_say_114 rfl rfl ?_
      refine go_getr (pc' := 118) cx 101 fX6_53 dX6_say_115 kq88 (ltn rfl) (ltn rfl) rfl rfl rfl ?_
      refine go_iload (pc' := 120) cx dX6_say_118 rfl rfl ?_
      refine go_iald (pc' := 121) cx (nI ((((i / 4) / 4) / 4) % 4)) dX6_say_120 kq101 (ltn rfl) (vpi (k := 0) (a := 1) (ltn rfl) rfl rfl) ((congrArg ((up2 (up2 (up2 (up2 G 101 3 (nI (i % 4))) 101 2 (nI ((i / 4) % 4))) 101 1 (nI (((i / 4) / 4) % 4))) 101 0 (nI ((((i / 4) / 4) / 4) % 4))) 101) (cli (k := 0) (a := 1) (ltn rfl) rfl)).trans (up2_s (up2 (up2 (up2 G 101 3 (nI (i % 4))) 101 2 (nI ((i / 4) % 4))) 101 1 (nI (((i / 4) / 4) % 4))) 101 0 (nI ((((i / 4) / 4) / 4) % 4)))) rfl ?_
      refine go_imul (pc' := 122) cx dX6_say_121 rfl ?_
      refine go_val (w := .int (nI (1000 * ((((i / 4) / 4) / 4) % 4)))) (congrArg Value.int (pk_mul 1000 ((((i / 4) / 4) / 4) % 4))) ?_
      refine go_iadd (pc' := 123) cx dX6_say_122 rfl ?_
      refine go_val (w := .int (nI ((((0 + (1 * (i % 4))) + (10 * ((i / 4) % 4))) + (100 * (((i / 4) / 4) % 4))) + (1000 * ((((i / 4) / 4) / 4) % 4))))) (congrArg Value.int (nI_add (((0 + (1 * (i % 4))) + (10 * ((i / 4) % 4))) + (100 * (((i / 4) / 4) % 4))) (1000 * ((((i / 4) / 4) / 4) % 4)))) ?_
      refine go_istore (pc' := 125) cx dX6_say_123 (ltn rfl) [(8, .int (nI ((((0 + (1 * (i % 4))) + (10 * ((i / 4) % 4))) + (100 * (((i / 4) / 4) % 4))) + (1000 * ((((i / 4) / 4) / 4) % 4))))), (7, .int (nI ((((i / 4) / 4) / 4) / 4))), (10, .int 0), (9, .int 1000), (6, .int (nI i)), (0, .ref (E.2.1 88)), (1, .int 4), (2, .int x2), (3, .int 256), (4, .int (nI (dcm 4 b))), (5, .int ((sayE (TMx CS ru) (svM g) vn 4) b))] rfl rfl ?_
      refine go_iload (pc' := 127) cx dX6_say_125 rfl rfl ?_
      refine go_bipush (pc' := 129) cx 10 dX6_say_127 rfl rfl ?_
      refine go_imul (pc' := 130) cx dX6_say_129 rfl ?_
      refine go_val (w := .int 10000) (congrArg Value.int (by decide)) ?_
      refine go_istore (pc' := 132) cx dX6_say_130 (ltn rfl) [(9, .int 10000), (8, .int (nI ((((0 + (1 * (i % 4))) + (10 * ((i / 4) % 4))) + (100 * (((i / 4) / 4) % 4))) + (1000 * ((((i / 4) / 4) / 4) % 4))))), (7, .int (nI ((((i / 4) / 4) / 4) / 4))), (10, .int 0), (6, .int (nI i)), (0, .ref (E.2.1 88)), (1, .int 4), (2, .int x2), (3, .int 256), (4, .int (nI (dcm 4 b))), (5, .int ((sayE (TMx CS ru) (svM g) vn 4) b))] rfl rfl ?_
      refine go_iinc (pc' := 135) cx (-1) dX6_say_132 rfl (by decide) (ltn rfl) [(10, .int (-1)), (9, .int 10000), (8, .int (nI ((((0 + (1 * (i % 4))) + (10 * ((i / 4) % 4))) + (100 * (((i / 4) / 4) % 4))) + (1000 * ((((i / 4) / 4) / 4) % 4))))), (7, .int (nI ((((i / 4) / 4) / 4) / 4))), (6, .int (nI i)), (0, .ref (E.2.1 88)), (1, .int 4), (2, .int x2), (3, .int 256), (4, .int (nI (dcm 4 b))), (5, .int ((sayE (TMx CS ru) (svM g) vn 4) b))] rfl rfl ?_
      refine go_goto cx 88 dX6_say_135 rfl ?_
      refine go_iload (pc' := 90) cx dX6_say_88 rfl rfl ?_
      refine go_if_lt (pc' := 93) cx 138 dX6_say_90 rfl rfl (fun _ => ?_) (fun hh => absurd (by decide) hh)
      refine go_aload_n (pc' := 139) cx dX6_say_138 rfl rfl ?_
      obtain ⟨GI, hGI⟩ : ∃ y : IG, y = (up2 (up2 (up2 (up2 G 101 3 (nI (i % 4))) 101 2 (nI ((i / 4) % 4))) 101 1 (nI (((i / 4) / 4) % 4))) 101 0 (nI ((((i / 4) / 4) / 4) % 4))) := ⟨_, rfl⟩
      refine go_g hGI.symm ?_
      have aI : ∀ i9 q, ¬ (i9 = 101 ∧ q < 4) → GI i9 q = G i9 q := fun i9 q h9 => by
        rw [hGI, up2_n _ _ (by omega), up2_n _ _ (by omega), up2_n _ _ (by omega), up2_n _ _ (by omega)]
      have hFI : FrW (92 + 9) g GI := by
        rw [hGI]
        exact ((((hF.up (by omega)).up (by omega)).up (by omega)).up (by omega))
      have hRI : Req (svM GI) (sayS (svM g) 4 i) hn vn := reqW (j := 9) (Or.inr (Or.inr rfl)) hFI (fun i9 k9 q => if_neg (fun q9 => q q9.1)) (fun k9 h9 => by
        show GI 101 k9 = _
        by_cases e : k9 < 4
        · rw [show sayS (svM g) 4 i 9 k9 = nI (dgt 4 i k9) from if_pos ⟨rfl, e⟩]
          rcases (show k9 = 0 ∨ k9 = 1 ∨ k9 = 2 ∨ k9 = 3 by omega) with rfl | rfl | rfl | rfl
          · rw [hGI, up2_s]
            refine congrArg nI ?_
            show i / 4 / 4 / 4 % 4 = i / 4 ^ 3 % 4
            omega
          · rw [hGI, up2_n _ _ (by omega), up2_s]
            refine congrArg nI ?_
            show i / 4 / 4 % 4 = i / 4 ^ 2 % 4
            omega
          · rw [hGI, up2_n _ _ (by omega), up2_n _ _ (by omega), up2_s]
            refine congrArg nI ?_
            show i / 4 % 4 = i / 4 ^ 1 % 4
            omega
          · rw [hGI, up2_n _ _ (by omega), up2_n _ _ (by omega), up2_n _ _ (by omega), up2_s]
            refine congrArg nI ?_
            show i % 4 = i / 4 ^ 0 % 4
            omega
        · rw [show sayS (svM g) 4 i 9 k9 = svM g 9 k9 from if_neg (fun q9 => e q9.2), aI 101 k9 (by omega)]
          exact hW k9 (by omega))
      have hHI : HdS (svM GI) hn vn := by
        intro u hu
        obtain ⟨h, hh, e⟩ := hX.2.2.2.2.1 u hu
        exact ⟨h, hh, (hFI 99 u (by omega)).trans e⟩
      have hSI : SdI GI tc CS := hS.fr (funext fun q => aI 102 q (by omega))
      have hXI : XM GI hn vn ru tc CS := hX.fw (j := 9) (Or.inr (Or.inr rfl)) hFI hSI hHI
      have hE9 : BDs (TMx CS ru) (svM GI) vn = (sayE (TMx CS ru) (svM g) vn 4) i := hRI.bd hHI (by omega)
      refine go_cVIz (pc' := 142) cx (c_X6_courses l E (g := GI) hXI) mX6_courses lX6_421 dX6_say_139 kq88 (ltn rfl) (ltn rfl) rfl rfl rfl rfl (ltn rfl) (Nat.le_of_ble_eq_true rfl) (Nat.le_of_ble_eq_true rfl) rfl (fun xc GC zc hc => ?_)
      obtain ⟨ec, fc, -, -, sc⟩ := hc
      rw [hE9] at ec
      refine go_istore (pc' := 144) cx dX6_say_142 (ltn rfl) [(10, .int xc), (9, .int 10000), (8, .int (nI ((((0 + (1 * (i % 4))) + (10 * ((i / 4) % 4))) + (100 * (((i / 4) / 4) % 4))) + (1000 * ((((i / 4) / 4) / 4) % 4))))), (7, .int (nI ((((i / 4) / 4) / 4) / 4))), (6, .int (nI i)), (0, .ref (E.2.1 88)), (1, .int 4), (2, .int x2), (3, .int 256), (4, .int (nI (dcm 4 b))), (5, .int ((sayE (TMx CS ru) (svM g) vn 4) b))] rfl rfl ?_
      refine go_iload (pc' := 146) cx dX6_say_144 rfl rfl ?_
      refine go_iconst (pc' := 147) cx (-1) dX6_say_146 rfl rfl ?_
      refine go_icmp_eq (pc' := 150) cx 157 dX6_say_147 rfl rfl (fun hh9 => absurd hh9 (dcm_nm (by omega))) (fun _ => ?_)
      refine go_iload (pc' := 152) cx dX6_say_150 rfl rfl ?_
      refine go_iload (pc' := 154) cx dX6_say_152 rfl rfl ?_
      refine go_icmp_ge (pc' := 157) cx 165 dX6_say_154 rfl rfl (fun c154 => ?_) (fun c154 => ?_)
      · have c154n := Int32.not_lt.mpr c154
        refine go_iinc (pc' := 168) cx (nI (i + 1)) dX6_say_165 rfl (nI_1 i) (ltn rfl) [(6, .int (nI (i + 1))), (10, .int xc), (9, .int 10000), (8, .int (nI ((((0 + (1 * (i % 4))) + (10 * ((i / 4) % 4))) + (100 * (((i / 4) / 4) % 4))) + (1000 * ((((i / 4) / 4) / 4) % 4))))), (7, .int (nI ((((i / 4) / 4) / 4) / 4))), (0, .ref (E.2.1 88)), (1, .int 4), (2, .int x2), (3, .int 256), (4, .int (nI (dcm 4 b))), (5, .int ((sayE (TMx CS ru) (svM g) vn 4) b))] rfl rfl ?_
        refine go_goto cx 67 dX6_say_168 rfl ?_
        refine go_sub [0, 5, 6, 7, 8, 9, 10] [(6, .int (nI (i + 1))), (0, .ref (E.2.1 88)), (1, .int 4), (2, .int x2), (3, .int 256), (4, .int (nI (dcm 4 b))), (5, .int ((sayE (TMx CS ru) (svM g) vn 4) b))] rfl ?_
        have e9 : mns (sayE (TMx CS ru) (svM g) vn 4) (i + 1) = some b := (mns_ss hq).trans (if_neg (by rw [← ec]; exact Int32.not_lt.mpr c154))
        refine go_sub [0, 1, 2, 3, 4, 5, 6] [(6, .int (nI (i + 1))), (0, .ref (E.2.1 88)), (1, .int 4), (2, .int x2), (3, .int 256), (4, .int (odg 4 (mns (sayE (TMx CS ru) (svM g) vn 4) (i + 1)))), (5, .int (ow (sayE (TMx CS ru) (svM g) vn 4) (mns (sayE (TMx CS ru) (svM g) vn 4) (i + 1))))] (by rw [e9, odg_dc]; rfl) ?_
        exact ih (i + 1) GC zc (by omega) (hFI.tr fc.fw) ((hK.fr (funext fun q => aI 106 q (by omega)) (funext fun q => aI 107 q (by omega))).fr (fc.c (by omega) (by omega)) (fc.c (by omega) (by omega))) (fun k9 q9 => (fc 101 k9 (by omega)).trans ((aI 101 k9 (by omega)).trans (hW k9 q9))) sc hZ
      · have c154n := Int32.not_le.mp c154
        refine go_iload (pc' := 159) cx dX6_say_157 rfl rfl ?_
        refine go_istore (pc' := 161) cx dX6_say_159 (ltn rfl) [(4, .int (nI ((((0 + (1 * (i % 4))) + (10 * ((i / 4) % 4))) + (100 * (((i / 4) / 4) % 4))) + (1000 * ((((i / 4) / 4) / 4) % 4))))), (10, .int xc), (9, .int 10000), (8, .int (nI ((((0 + (1 * (i % 4))) + (10 * ((i / 4) % 4))) + (100 * (((i / 4) / 4) % 4))) + (1000 * ((((i / 4) / 4) / 4) % 4))))), (7, .int (nI ((((i / 4) / 4) / 4) / 4))), (6, .int (nI i)), (0, .ref (E.2.1 88)), (1, .int 4), (2, .int x2), (3, .int 256), (5, .int ((sayE (TMx CS ru) (svM g) vn 4) b))] rfl rfl ?_
        refine go_iload (pc' := 163) cx dX6_say_161 rfl rfl ?_
        refine go_istore (pc' := 165) cx dX6_say_163 (ltn rfl) [(5, .int xc), (4, .int (nI ((((0 + (1 * (i % 4))) + (10 * ((i / 4) % 4))) + (100 * (((i / 4) / 4) % 4))) + (1000 * ((((i / 4) / 4) / 4) % 4))))), (10, .int xc), (9, .int 10000), (8, .int (nI ((((0 + (1 * (i % 4))) + (10 * ((i / 4) % 4))) + (100 * (((i / 4) / 4) % 4))) + (1000 * ((((i / 4) / 4) / 4) % 4))))), (7, .int (nI ((((i / 4) / 4) / 4) / 4))), (6, .int (nI i)), (0, .ref (E.2.1 88)), (1, .int 4), (2, .int x2), (3, .int 256)] rfl rfl ?_
        refine go_iinc (pc' := 168) cx (nI (i + 1)) dX6_say_165 rfl (nI_1 i) (ltn rfl) [(6, .int (nI (i + 1))), (5, .int xc), (4, .int (nI ((((0 + (1 * (i % 4))) + (10 * ((i / 4) % 4))) + (100 * (((i / 4) / 4) % 4))) + (1000 * ((((i / 4) / 4) / 4) % 4))))), (10, .int xc), (9, .int 10000), (8, .int (nI ((((0 + (1 * (i % 4))) + (10 * ((i / 4) % 4))) + (100 * (((i / 4) / 4) % 4))) + (1000 * ((((i / 4) / 4) / 4) % 4))))), (7, .int (nI ((((i / 4) / 4) / 4) / 4))), (0, .ref (E.2.1 88)), (1, .int 4), (2, .int x2), (3, .int 256)] rfl rfl ?_
        refine go_goto cx 67 dX6_say_168 rfl ?_
        refine go_sub [0, 7, 8, 9, 10, 2, 1] [(6, .int (nI (i + 1))), (0, .ref (E.2.1 88)), (1, .int 4), (2, .int x2), (3, .int 256), (4, .int (nI ((((0 + (1 * (i % 4))) + (10 * ((i / 4) % 4))) + (100 * (((i / 4) / 4) % 4))) + (1000 * ((((i / 4) / 4) / 4) % 4))))), (5, .int xc)] rfl ?_
        have e9 : mns (sayE (TMx CS ru) (svM g) vn 4) (i + 1) = some i := (mns_ss hq).trans (if_pos (by rw [← ec]; exact Int32.not_le.mp c154))
        have e8 : nI ((((0 + (1 * (i % 4))) + (10 * ((i / 4) % 4))) + (100 * (((i / 4) / 4) % 4))) + (1000 * ((((i / 4) / 4) / 4) % 4))) = nI (dcm 4 i) := congrArg nI (show ((((0 + (1 * (i % 4))) + (10 * ((i / 4) % 4))) + (100 * (((i / 4) / 4) % 4))) + (1000 * ((((i / 4) / 4) / 4) % 4))) = dcm 4 i from by
          simp only [dcm]
          omega)
        refine go_sub [0, 1, 2, 3, 4, 5, 6] [(6, .int (nI (i + 1))), (0, .ref (E.2.1 88)), (1, .int 4), (2, .int x2), (3, .int 256), (4, .int (odg 4 (mns (sayE (TMx CS ru) (svM g) vn 4) (i + 1)))), (5, .int (ow (sayE (TMx CS ru) (svM g) vn 4) (mns (sayE (TMx CS ru) (svM g) vn 4) (i + 1))))] (by rw [e9, odg_dc, e8, ec]; rfl) ?_
        exact ih (i + 1) GC zc (by omega) (hFI.tr fc.fw) ((hK.fr (funext fun q => aI 106 q (by omega)) (funext fun q => aI 107 q (by omega))).fr (fc.c (by omega) (by omega)) (fc.c (by omega) (by omega))) (fun k9 q9 => (fc 101 k9 (by omega)).trans ((aI 101 k9 (by omega)).trans (hW k9 q9))) sc hZ

theorem say_n {x : Int32} (h : ¬ inX 0 4 x = 0) : x = nI 0 ∨ x = nI 1 ∨ x = nI 2 ∨ x = nI 3 ∨ x = nI 4 := by
  obtain ⟨h0, h4⟩ := inX_ng h
  obtain ⟨j, hj, rfl⟩ := nI_of h0
  have : ¬ 4 < j := fun q => h4 ((nI_ltI (a := 4) (by omega) hj).mpr q)
  rcases (show j = 0 ∨ j = 1 ∨ j = 2 ∨ j = 3 ∨ j = 4 by omega) with rfl | rfl | rfl | rfl | rfl
  · exact Or.inl rfl
  · exact Or.inr (Or.inl rfl)
  · exact Or.inr (Or.inr (Or.inl rfl))
  · exact Or.inr (Or.inr (Or.inr (Or.inl rfl)))
  · exact Or.inr (Or.inr (Or.inr (Or.inr rfl)))
theorem ow_ov (f : Nat → Int32) {n : Nat} (h : 0 < n) : ow f (mns f n) = ov f (mns f n) := by
  obtain ⟨m, rfl⟩ : ∃ m, n = m + 1 := ⟨n - 1, by omega⟩
  exact mns_nn f m

set_option maxHeartbeats 1000000 in
set_option maxRecDepth 20000 in
theorem c_X6_say (l : Launch) (E : Ev) {g : IG} {o : Option Nat} {z : Int64} {hn vn ru tc : Nat} {CS : CSt} (hX : XM g hn vn ru tc CS) (x1 x2 : Int32) : Ct l E 115 yX6_say cX6_say 11 (some .int) 49 [.ref (E.2.1 88), .int x1, .int x2] g (RFo o) z (ZIz (RFo o) (fun x g1 z1 => x = sayF (TMx CS ru) (svM g) vn x1 x2 ∧ FrJ g g1 ∧ SdI g1 tc CS)) := by
  refine Ct.of (lv0 := [(0, .ref (E.2.1 88)), (1, .int x1), (2, .int x2)]) (by decide) (Nat.le_of_ble_eq_true rfl) rfl ?_
  intro p e s m below meth c cx
  have hb := hX.1
  have hS0 := hX.2.2.2.2.2.2.2.2.2.2
  refine go_iload_n (pc' := 1) cx dX6_say_0 rfl rfl ?_
  refine go_i2l (pc' := 2) cx dX6_say_1 rfl ?_
  refine go_lconst (pc' := 3) cx 0 dX6_say_2 rfl rfl ?_
  refine go_val (w := .long (((0 : Int32)).toInt64)) (congrArg Value.long (by decide)) ?_
  refine go_ldc2 (pc' := 6) cx 4 kX6_424 dX6_say_3 rfl ?_
  refine go_val (w := .long (((4 : Int32)).toInt64)) (congrArg Value.long (by decide)) ?_
  refine go_cSi (pc' := 9) cx (c_X6_in l E (g := g) x1 (0 : Int32) (4 : Int32)) mX6_in lX6_108 dX6_say_6 rfl rfl rfl (ltn rfl) (Nat.le_of_ble_eq_true rfl) (Nat.le_of_ble_eq_true rfl) rfl ?_
  refine go_if_eq (pc' := 12) cx 30 dX6_say_9 rfl rfl (fun c9 => ?_) (fun c9 => ?_)
  · refine go_bipush (pc' := 32) cx (-2) dX6_say_30 rfl rfl ?_
    refine go_iret cx rfl dX6_say_32 ?_
    exact ZIz.mk ⟨by
      unfold sayF
      rcases inX_ps c9 with q | ⟨q, q2⟩
      · rw [if_pos q]
      · rw [if_neg q, if_pos q2], FrJ.rf, hS0⟩
  · refine go_iload_n (pc' := 13) cx dX6_say_12 rfl rfl ?_
    refine go_aload_n (pc' := 14) cx dX6_say_13 rfl rfl ?_
    refine go_geti (pc' := 17) cx (nI vn) fX6_115 dX6_say_14 kq88 (ltn rfl) (ltn rfl) rfl hX.2.2.1 rfl ?_
    refine go_icmp_gt (pc' := 20) cx 30 dX6_say_17 rfl rfl (fun c17 => ?_) (fun c17 => ?_)
    · have c17n := Int32.not_le.mpr c17
      refine go_bipush (pc' := 32) cx (-2) dX6_say_30 rfl rfl ?_
      refine go_iret cx rfl dX6_say_32 ?_
      exact ZIz.mk ⟨by
        unfold sayF
        obtain ⟨q1, q2⟩ := inX_ng c9
        rw [if_neg q1, if_neg q2, if_pos c17], FrJ.rf, hS0⟩
    · have c17n := Int32.not_lt.mp c17
      refine go_iload_n (pc' := 21) cx dX6_say_20 rfl rfl ?_
      refine go_i2l (pc' := 22) cx dX6_say_21 rfl ?_
      refine go_lconst (pc' := 23) cx 0 dX6_say_22 rfl rfl ?_
      refine go_val (w := .long (((0 : Int32)).toInt64)) (congrArg Value.long (by decide)) ?_
      refine go_lconst (pc' := 24) cx 1 dX6_say_23 rfl rfl ?_
      refine go_val (w := .long (((1 : Int32)).toInt64)) (congrArg Value.long (by decide)) ?_
      refine go_cSi (pc' := 27) cx (c_X6_in l E (g := g) x2 (0 : Int32) (1 : Int32)) mX6_in lX6_108 dX6_say_24 rfl rfl rfl (ltn rfl) (Nat.le_of_ble_eq_true rfl) (Nat.le_of_ble_eq_true rfl) rfl ?_
      refine go_if_ne (pc' := 30) cx 33 dX6_say_27 rfl rfl (fun c27 => ?_) (fun c27 => ?_)
      · rcases say_n c9 with rfl | rfl | rfl | rfl | rfl
        · refine go_aload_n (pc' := 34) cx dX6_say_33 rfl rfl ?_
          refine go_cVV (pc' := 37) cx (c_X6_keeps l E (g := g)) mX6_keeps lX6_426 dX6_say_34 kq88 (ltn rfl) (ltn rfl) rfl rfl rfl rfl (ltn rfl) (Nat.le_of_ble_eq_true rfl) (Nat.le_of_ble_eq_true rfl) rfl (fun GK hK => ?_)
          obtain ⟨k1, k2⟩ := hK
          refine go_iconst (pc' := 38) cx 1 dX6_say_37 rfl rfl ?_
          refine go_istore_n (pc' := 39) cx dX6_say_38 (ltn rfl) [(3, .int 1), (0, .ref (E.2.1 88)), (1, .int 0), (2, .int x2)] rfl rfl ?_
          refine go_iconst (pc' := 40) cx 0 dX6_say_39 rfl rfl ?_
          refine go_istore (pc' := 42) cx dX6_say_40 (ltn rfl) [(4, .int 0), (3, .int 1), (0, .ref (E.2.1 88)), (1, .int 0), (2, .int x2)] rfl rfl ?_
          refine go_iload (pc' := 44) cx dX6_say_42 rfl rfl ?_
          refine go_iload_n (pc' := 45) cx dX6_say_44 rfl rfl ?_
          refine go_icmp_ge (pc' := 48) cx 58 dX6_say_45 rfl rfl (fun _ => ?_) (fun hh => absurd hh (by decide))
          refine go_iconst (pc' := 59) cx (-1) dX6_say_58 rfl rfl ?_
          refine go_istore (pc' := 61) cx dX6_say_59 (ltn rfl) [(4, .int (-1)), (3, .int 1), (0, .ref (E.2.1 88)), (1, .int 0), (2, .int x2)] rfl rfl ?_
          refine go_iconst (pc' := 62) cx 0 dX6_say_61 rfl rfl ?_
          refine go_istore (pc' := 64) cx dX6_say_62 (ltn rfl) [(5, .int 0), (4, .int (-1)), (3, .int 1), (0, .ref (E.2.1 88)), (1, .int 0), (2, .int x2)] rfl rfl ?_
          refine go_iconst (pc' := 65) cx 0 dX6_say_64 rfl rfl ?_
          refine go_istore (pc' := 67) cx dX6_say_65 (ltn rfl) [(6, .int 0), (5, .int 0), (4, .int (-1)), (3, .int 1), (0, .ref (E.2.1 88)), (1, .int 0), (2, .int x2)] rfl rfl ?_
          refine go_sub [0, 4, 5, 6, 3, 2, 1] [(6, .int 0), (0, .ref (E.2.1 88)), (1, .int 0), (2, .int x2), (3, .int 1), (4, .int (-1)), (5, .int 0)] rfl ?_
          refine sayM_loop0 hX cx 1 0 GK z (by omega) (fun i k q => k1 i k (by omega)) k2 (fun k q => k1 101 k (by omega)) (hS0.fr (funext fun k => k1 102 k (by omega))) (fun G9 z9 f9 s9 => ZIz.mk ⟨?_, f9, s9⟩)
          unfold sayF
          rw [show clI (nI 0) = 0 from clI_n (k := 0) (by omega), if_neg (show ¬ nI 0 < 0 by decide), if_neg (show ¬ (4 : Int32) < nI 0 by decide), if_neg c17, if_neg (show ¬ fosI x2 = 0 from by rw [← fos_in]; exact c27), ow_ov _ (by decide), show (4 : Nat) ^ 0 = 1 from rfl]
        · refine go_aload_n (pc' := 34) cx dX6_say_33 rfl rfl ?_
          refine go_cVV (pc' := 37) cx (c_X6_keeps l E (g := g)) mX6_keeps lX6_426 dX6_say_34 kq88 (ltn rfl) (ltn rfl) rfl rfl rfl rfl (ltn rfl) (Nat.le_of_ble_eq_true rfl) (Nat.le_of_ble_eq_true rfl) rfl (fun GK hK => ?_)
          obtain ⟨k1, k2⟩ := hK
          refine go_iconst (pc' := 38) cx 1 dX6_say_37 rfl rfl ?_
          refine go_istore_n (pc' := 39) cx dX6_say_38 (ltn rfl) [(3, .int 1), (0, .ref (E.2.1 88)), (1, .int 1), (2, .int x2)] rfl rfl ?_
          refine go_iconst (pc' := 40) cx 0 dX6_say_39 rfl rfl ?_
          refine go_istore (pc' := 42) cx dX6_say_40 (ltn rfl) [(4, .int 0), (3, .int 1), (0, .ref (E.2.1 88)), (1, .int 1), (2, .int x2)] rfl rfl ?_
          refine go_iload (pc' := 44) cx dX6_say_42 rfl rfl ?_
          refine go_iload_n (pc' := 45) cx dX6_say_44 rfl rfl ?_
          refine go_icmp_ge (pc' := 48) cx 58 dX6_say_45 rfl rfl (fun hh => absurd hh (by decide)) (fun _ => ?_)
          refine go_iload_n (pc' := 49) cx dX6_say_48 rfl rfl ?_
          refine go_iconst (pc' := 50) cx 4 dX6_say_49 rfl rfl ?_
          refine go_imul (pc' := 51) cx dX6_say_50 rfl ?_
          refine go_val (w := .int 4) (congrArg Value.int (by decide)) ?_
          refine go_istore_n (pc' := 52) cx dX6_say_51 (ltn rfl) [(3, .int 4), (4, .int 0), (0, .ref (E.2.1 88)), (1, .int 1), (2, .int x2)] rfl rfl ?_
          refine go_iinc (pc' := 55) cx 1 dX6_say_52 rfl rfl (ltn rfl) [(4, .int 1), (3, .int 4), (0, .ref (E.2.1 88)), (1, .int 1), (2, .int x2)] rfl rfl ?_
          refine go_goto cx 42 dX6_say_55 rfl ?_
          refine go_iload (pc' := 44) cx dX6_say_42 rfl rfl ?_
          refine go_iload_n (pc' := 45) cx dX6_say_44 rfl rfl ?_
          refine go_icmp_ge (pc' := 48) cx 58 dX6_say_45 rfl rfl (fun _ => ?_) (fun hh => absurd hh (by decide))
          refine go_iconst (pc' := 59) cx (-1) dX6_say_58 rfl rfl ?_
          refine go_istore (pc' := 61) cx dX6_say_59 (ltn rfl) [(4, .int (-1)), (3, .int 4), (0, .ref (E.2.1 88)), (1, .int 1), (2, .int x2)] rfl rfl ?_
          refine go_iconst (pc' := 62) cx 0 dX6_say_61 rfl rfl ?_
          refine go_istore (pc' := 64) cx dX6_say_62 (ltn rfl) [(5, .int 0), (4, .int (-1)), (3, .int 4), (0, .ref (E.2.1 88)), (1, .int 1), (2, .int x2)] rfl rfl ?_
          refine go_iconst (pc' := 65) cx 0 dX6_say_64 rfl rfl ?_
          refine go_istore (pc' := 67) cx dX6_say_65 (ltn rfl) [(6, .int 0), (5, .int 0), (4, .int (-1)), (3, .int 4), (0, .ref (E.2.1 88)), (1, .int 1), (2, .int x2)] rfl rfl ?_
          refine go_sub [0, 4, 5, 6, 3, 2, 1] [(6, .int 0), (0, .ref (E.2.1 88)), (1, .int 1), (2, .int x2), (3, .int 4), (4, .int (-1)), (5, .int 0)] rfl ?_
          refine sayM_loop1 hX cx 4 0 GK z (by omega) (fun i k q => k1 i k (by omega)) k2 (fun k q => k1 101 k (by omega)) (hS0.fr (funext fun k => k1 102 k (by omega))) (fun G9 z9 f9 s9 => ZIz.mk ⟨?_, f9, s9⟩)
          unfold sayF
          rw [show clI (nI 1) = 1 from clI_n (k := 1) (by omega), if_neg (show ¬ nI 1 < 0 by decide), if_neg (show ¬ (4 : Int32) < nI 1 by decide), if_neg c17, if_neg (show ¬ fosI x2 = 0 from by rw [← fos_in]; exact c27), ow_ov _ (by decide), show (4 : Nat) ^ 1 = 4 from rfl]
        · refine go_aload_n (pc' := 34) cx dX6_say_33 rfl rfl ?_
          refine go_cVV (pc' := 37) cx (c_X6_keeps l E (g := g)) mX6_keeps lX6_426 dX6_say_34 kq88 (ltn rfl) (ltn rfl) rfl rfl rfl rfl (ltn rfl) (Nat.le_of_ble_eq_true rfl) (Nat.le_of_ble_eq_true rfl) rfl (fun GK hK => ?_)
          obtain ⟨k1, k2⟩ := hK
          refine go_iconst (pc' := 38) cx 1 dX6_say_37 rfl rfl ?_
          refine go_istore_n (pc' := 39) cx dX6_say_38 (ltn rfl) [(3, .int 1), (0, .ref (E.2.1 88)), (1, .int 2), (2, .int x2)] rfl rfl ?_
          refine go_iconst (pc' := 40) cx 0 dX6_say_39 rfl rfl ?_
          refine go_istore (pc' := 42) cx dX6_say_40 (ltn rfl) [(4, .int 0), (3, .int 1), (0, .ref (E.2.1 88)), (1, .int 2), (2, .int x2)] rfl rfl ?_
          refine go_iload (pc' := 44) cx dX6_say_42 rfl rfl ?_
          refine go_iload_n (pc' := 45) cx dX6_say_44 rfl rfl ?_
          refine go_icmp_ge (pc' := 48) cx 58 dX6_say_45 rfl rfl (fun hh => absurd hh (by decide)) (fun _ => ?_)
          refine go_iload_n (pc' := 49) cx dX6_say_48 rfl rfl ?_
          refine go_iconst (pc' := 50) cx 4 dX6_say_49 rfl rfl ?_
          refine go_imul (pc' := 51) cx dX6_say_50 rfl ?_
          refine go_val (w := .int 4) (congrArg Value.int (by decide)) ?_
          refine go_istore_n (pc' := 52) cx dX6_say_51 (ltn rfl) [(3, .int 4), (4, .int 0), (0, .ref (E.2.1 88)), (1, .int 2), (2, .int x2)] rfl rfl ?_
          refine go_iinc (pc' := 55) cx 1 dX6_say_52 rfl rfl (ltn rfl) [(4, .int 1), (3, .int 4), (0, .ref (E.2.1 88)), (1, .int 2), (2, .int x2)] rfl rfl ?_
          refine go_goto cx 42 dX6_say_55 rfl ?_
          refine go_iload (pc' := 44) cx dX6_say_42 rfl rfl ?_
          refine go_iload_n (pc' := 45) cx dX6_say_44 rfl rfl ?_
          refine go_icmp_ge (pc' := 48) cx 58 dX6_say_45 rfl rfl (fun hh => absurd hh (by decide)) (fun _ => ?_)
          refine go_iload_n (pc' := 49) cx dX6_say_48 rfl rfl ?_
          refine go_iconst (pc' := 50) cx 4 dX6_say_49 rfl rfl ?_
          refine go_imul (pc' := 51) cx dX6_say_50 rfl ?_
          refine go_val (w := .int 16) (congrArg Value.int (by decide)) ?_
          refine go_istore_n (pc' := 52) cx dX6_say_51 (ltn rfl) [(3, .int 16), (4, .int 1), (0, .ref (E.2.1 88)), (1, .int 2), (2, .int x2)] rfl rfl ?_
          refine go_iinc (pc' := 55) cx 2 dX6_say_52 rfl rfl (ltn rfl) [(4, .int 2), (3, .int 16), (0, .ref (E.2.1 88)), (1, .int 2), (2, .int x2)] rfl rfl ?_
          refine go_goto cx 42 dX6_say_55 rfl ?_
          refine go_iload (pc' := 44) cx dX6_say_42 rfl rfl ?_
          refine go_iload_n (pc' := 45) cx dX6_say_44 rfl rfl ?_
          refine go_icmp_ge (pc' := 48) cx 58 dX6_say_45 rfl rfl (fun _ => ?_) (fun hh => absurd hh (by decide))
          refine go_iconst (pc' := 59) cx (-1) dX6_say_58 rfl rfl ?_
          refine go_istore (pc' := 61) cx dX6_say_59 (ltn rfl) [(4, .int (-1)), (3, .int 16), (0, .ref (E.2.1 88)), (1, .int 2), (2, .int x2)] rfl rfl ?_
          refine go_iconst (pc' := 62) cx 0 dX6_say_61 rfl rfl ?_
          refine go_istore (pc' := 64) cx dX6_say_62 (ltn rfl) [(5, .int 0), (4, .int (-1)), (3, .int 16), (0, .ref (E.2.1 88)), (1, .int 2), (2, .int x2)] rfl rfl ?_
          refine go_iconst (pc' := 65) cx 0 dX6_say_64 rfl rfl ?_
          refine go_istore (pc' := 67) cx dX6_say_65 (ltn rfl) [(6, .int 0), (5, .int 0), (4, .int (-1)), (3, .int 16), (0, .ref (E.2.1 88)), (1, .int 2), (2, .int x2)] rfl rfl ?_
          refine go_sub [0, 4, 5, 6, 3, 2, 1] [(6, .int 0), (0, .ref (E.2.1 88)), (1, .int 2), (2, .int x2), (3, .int 16), (4, .int (-1)), (5, .int 0)] rfl ?_
          refine sayM_loop2 hX cx 16 0 GK z (by omega) (fun i k q => k1 i k (by omega)) k2 (fun k q => k1 101 k (by omega)) (hS0.fr (funext fun k => k1 102 k (by omega))) (fun G9 z9 f9 s9 => ZIz.mk ⟨?_, f9, s9⟩)
          unfold sayF
          rw [show clI (nI 2) = 2 from clI_n (k := 2) (by omega), if_neg (show ¬ nI 2 < 0 by decide), if_neg (show ¬ (4 : Int32) < nI 2 by decide), if_neg c17, if_neg (show ¬ fosI x2 = 0 from by rw [← fos_in]; exact c27), ow_ov _ (by decide), show (4 : Nat) ^ 2 = 16 from rfl]
        · refine go_aload_n (pc' := 34) cx dX6_say_33 rfl rfl ?_
          refine go_cVV (pc' := 37) cx (c_X6_keeps l E (g := g)) mX6_keeps lX6_426 dX6_say_34 kq88 (ltn rfl) (ltn rfl) rfl rfl rfl rfl (ltn rfl) (Nat.le_of_ble_eq_true rfl) (Nat.le_of_ble_eq_true rfl) rfl (fun GK hK => ?_)
          obtain ⟨k1, k2⟩ := hK
          refine go_iconst (pc' := 38) cx 1 dX6_say_37 rfl rfl ?_
          refine go_istore_n (pc' := 39) cx dX6_say_38 (ltn rfl) [(3, .int 1), (0, .ref (E.2.1 88)), (1, .int 3), (2, .int x2)] rfl rfl ?_
          refine go_iconst (pc' := 40) cx 0 dX6_say_39 rfl rfl ?_
          refine go_istore (pc' := 42) cx dX6_say_40 (ltn rfl) [(4, .int 0), (3, .int 1), (0, .ref (E.2.1 88)), (1, .int 3), (2, .int x2)] rfl rfl ?_
          refine go_iload (pc' := 44) cx dX6_say_42 rfl rfl ?_
          refine go_iload_n (pc' := 45) cx dX6_say_44 rfl rfl ?_
          refine go_icmp_ge (pc' := 48) cx 58 dX6_say_45 rfl rfl (fun hh => absurd hh (by decide)) (fun _ => ?_)
          refine go_iload_n (pc' := 49) cx dX6_say_48 rfl rfl ?_
          refine go_iconst (pc' := 50) cx 4 dX6_say_49 rfl rfl ?_
          refine go_imul (pc' := 51) cx dX6_say_50 rfl ?_
          refine go_val (w := .int 4) (congrArg Value.int (by decide)) ?_
          refine go_istore_n (pc' := 52) cx dX6_say_51 (ltn rfl) [(3, .int 4), (4, .int 0), (0, .ref (E.2.1 88)), (1, .int 3), (2, .int x2)] rfl rfl ?_
          refine go_iinc (pc' := 55) cx 1 dX6_say_52 rfl rfl (ltn rfl) [(4, .int 1), (3, .int 4), (0, .ref (E.2.1 88)), (1, .int 3), (2, .int x2)] rfl rfl ?_
          refine go_goto cx 42 dX6_say_55 rfl ?_
          refine go_iload (pc' := 44) cx dX6_say_42 rfl rfl ?_
          refine go_iload_n (pc' := 45) cx dX6_say_44 rfl rfl ?_
          refine go_icmp_ge (pc' := 48) cx 58 dX6_say_45 rfl rfl (fun hh => absurd hh (by decide)) (fun _ => ?_)
          refine go_iload_n (pc' := 49) cx dX6_say_48 rfl rfl ?_
          refine go_iconst (pc' := 50) cx 4 dX6_say_49 rfl rfl ?_
          refine go_imul (pc' := 51) cx dX6_say_50 rfl ?_
          refine go_val (w := .int 16) (congrArg Value.int (by decide)) ?_
          refine go_istore_n (pc' := 52) cx dX6_say_51 (ltn rfl) [(3, .int 16), (4, .int 1), (0, .ref (E.2.1 88)), (1, .int 3), (2, .int x2)] rfl rfl ?_
          refine go_iinc (pc' := 55) cx 2 dX6_say_52 rfl rfl (ltn rfl) [(4, .int 2), (3, .int 16), (0, .ref (E.2.1 88)), (1, .int 3), (2, .int x2)] rfl rfl ?_
          refine go_goto cx 42 dX6_say_55 rfl ?_
          refine go_iload (pc' := 44) cx dX6_say_42 rfl rfl ?_
          refine go_iload_n (pc' := 45) cx dX6_say_44 rfl rfl ?_
          refine go_icmp_ge (pc' := 48) cx 58 dX6_say_45 rfl rfl (fun hh => absurd hh (by decide)) (fun _ => ?_)
          refine go_iload_n (pc' := 49) cx dX6_say_48 rfl rfl ?_
          refine go_iconst (pc' := 50) cx 4 dX6_say_49 rfl rfl ?_
          refine go_imul (pc' := 51) cx dX6_say_50 rfl ?_
          refine go_val (w := .int 64) (congrArg Value.int (by decide)) ?_
          refine go_istore_n (pc' := 52) cx dX6_say_51 (ltn rfl) [(3, .int 64), (4, .int 2), (0, .ref (E.2.1 88)), (1, .int 3), (2, .int x2)] rfl rfl ?_
          refine go_iinc (pc' := 55) cx 3 dX6_say_52 rfl rfl (ltn rfl) [(4, .int 3), (3, .int 64), (0, .ref (E.2.1 88)), (1, .int 3), (2, .int x2)] rfl rfl ?_
          refine go_goto cx 42 dX6_say_55 rfl ?_
          refine go_iload (pc' := 44) cx dX6_say_42 rfl rfl ?_
          refine go_iload_n (pc' := 45) cx dX6_say_44 rfl rfl ?_
          refine go_icmp_ge (pc' := 48) cx 58 dX6_say_45 rfl rfl (fun _ => ?_) (fun hh => absurd hh (by decide))
          refine go_iconst (pc' := 59) cx (-1) dX6_say_58 rfl rfl ?_
          refine go_istore (pc' := 61) cx dX6_say_59 (ltn rfl) [(4, .int (-1)), (3, .int 64), (0, .ref (E.2.1 88)), (1, .int 3), (2, .int x2)] rfl rfl ?_
          refine go_iconst (pc' := 62) cx 0 dX6_say_61 rfl rfl ?_
          refine go_istore (pc' := 64) cx dX6_say_62 (ltn rfl) [(5, .int 0), (4, .int (-1)), (3, .int 64), (0, .ref (E.2.1 88)), (1, .int 3), (2, .int x2)] rfl rfl ?_
          refine go_iconst (pc' := 65) cx 0 dX6_say_64 rfl rfl ?_
          refine go_istore (pc' := 67) cx dX6_say_65 (ltn rfl) [(6, .int 0), (5, .int 0), (4, .int (-1)), (3, .int 64), (0, .ref (E.2.1 88)), (1, .int 3), (2, .int x2)] rfl rfl ?_
          refine go_sub [0, 4, 5, 6, 3, 2, 1] [(6, .int 0), (0, .ref (E.2.1 88)), (1, .int 3), (2, .int x2), (3, .int 64), (4, .int (-1)), (5, .int 0)] rfl ?_
          refine sayM_loop3 hX cx 64 0 GK z (by omega) (fun i k q => k1 i k (by omega)) k2 (fun k q => k1 101 k (by omega)) (hS0.fr (funext fun k => k1 102 k (by omega))) (fun G9 z9 f9 s9 => ZIz.mk ⟨?_, f9, s9⟩)
          unfold sayF
          rw [show clI (nI 3) = 3 from clI_n (k := 3) (by omega), if_neg (show ¬ nI 3 < 0 by decide), if_neg (show ¬ (4 : Int32) < nI 3 by decide), if_neg c17, if_neg (show ¬ fosI x2 = 0 from by rw [← fos_in]; exact c27), ow_ov _ (by decide), show (4 : Nat) ^ 3 = 64 from rfl]
        · refine go_aload_n (pc' := 34) cx dX6_say_33 rfl rfl ?_
          refine go_cVV (pc' := 37) cx (c_X6_keeps l E (g := g)) mX6_keeps lX6_426 dX6_say_34 kq88 (ltn rfl) (ltn rfl) rfl rfl rfl rfl (ltn rfl) (Nat.le_of_ble_eq_true rfl) (Nat.le_of_ble_eq_true rfl) rfl (fun GK hK => ?_)
          obtain ⟨k1, k2⟩ := hK
          refine go_iconst (pc' := 38) cx 1 dX6_say_37 rfl rfl ?_
          refine go_istore_n (pc' := 39) cx dX6_say_38 (ltn rfl) [(3, .int 1), (0, .ref (E.2.1 88)), (1, .int 4), (2, .int x2)] rfl rfl ?_
          refine go_iconst (pc' := 40) cx 0 dX6_say_39 rfl rfl ?_
          refine go_istore (pc' := 42) cx dX6_say_40 (ltn rfl) [(4, .int 0), (3, .int 1), (0, .ref (E.2.1 88)), (1, .int 4), (2, .int x2)] rfl rfl ?_
          refine go_iload (pc' := 44) cx dX6_say_42 rfl rfl ?_
          refine go_iload_n (pc' := 45) cx dX6_say_44 rfl rfl ?_
          refine go_icmp_ge (pc' := 48) cx 58 dX6_say_45 rfl rfl (fun hh => absurd hh (by decide)) (fun _ => ?_)
          refine go_iload_n (pc' := 49) cx dX6_say_48 rfl rfl ?_
          refine go_iconst (pc' := 50) cx 4 dX6_say_49 rfl rfl ?_
          refine go_imul (pc' := 51) cx dX6_say_50 rfl ?_
          refine go_val (w := .int 4) (congrArg Value.int (by decide)) ?_
          refine go_istore_n (pc' := 52) cx dX6_say_51 (ltn rfl) [(3, .int 4), (4, .int 0), (0, .ref (E.2.1 88)), (1, .int 4), (2, .int x2)] rfl rfl ?_
          refine go_iinc (pc' := 55) cx 1 dX6_say_52 rfl rfl (ltn rfl) [(4, .int 1), (3, .int 4), (0, .ref (E.2.1 88)), (1, .int 4), (2, .int x2)] rfl rfl ?_
          refine go_goto cx 42 dX6_say_55 rfl ?_
          refine go_iload (pc' := 44) cx dX6_say_42 rfl rfl ?_
          refine go_iload_n (pc' := 45) cx dX6_say_44 rfl rfl ?_
          refine go_icmp_ge (pc' := 48) cx 58 dX6_say_45 rfl rfl (fun hh => absurd hh (by decide)) (fun _ => ?_)
          refine go_iload_n (pc' := 49) cx dX6_say_48 rfl rfl ?_
          refine go_iconst (pc' := 50) cx 4 dX6_say_49 rfl rfl ?_
          refine go_imul (pc' := 51) cx dX6_say_50 rfl ?_
          refine go_val (w := .int 16) (congrArg Value.int (by decide)) ?_
          refine go_istore_n (pc' := 52) cx dX6_say_51 (ltn rfl) [(3, .int 16), (4, .int 1), (0, .ref (E.2.1 88)), (1, .int 4), (2, .int x2)] rfl rfl ?_
          refine go_iinc (pc' := 55) cx 2 dX6_say_52 rfl rfl (ltn rfl) [(4, .int 2), (3, .int 16), (0, .ref (E.2.1 88)), (1, .int 4), (2, .int x2)] rfl rfl ?_
          refine go_goto cx 42 dX6_say_55 rfl ?_
          refine go_iload (pc' := 44) cx dX6_say_42 rfl rfl ?_
          refine go_iload_n (pc' := 45) cx dX6_say_44 rfl rfl ?_
          refine go_icmp_ge (pc' := 48) cx 58 dX6_say_45 rfl rfl (fun hh => absurd hh (by decide)) (fun _ => ?_)
          refine go_iload_n (pc' := 49) cx dX6_say_48 rfl rfl ?_
          refine go_iconst (pc' := 50) cx 4 dX6_say_49 rfl rfl ?_
          refine go_imul (pc' := 51) cx dX6_say_50 rfl ?_
          refine go_val (w := .int 64) (congrArg Value.int (by decide)) ?_
          refine go_istore_n (pc' := 52) cx dX6_say_51 (ltn rfl) [(3, .int 64), (4, .int 2), (0, .ref (E.2.1 88)), (1, .int 4), (2, .int x2)] rfl rfl ?_
          refine go_iinc (pc' := 55) cx 3 dX6_say_52 rfl rfl (ltn rfl) [(4, .int 3), (3, .int 64), (0, .ref (E.2.1 88)), (1, .int 4), (2, .int x2)] rfl rfl ?_
          refine go_goto cx 42 dX6_say_55 rfl ?_
          refine go_iload (pc' := 44) cx dX6_say_42 rfl rfl ?_
          refine go_iload_n (pc' := 45) cx dX6_say_44 rfl rfl ?_
          refine go_icmp_ge (pc' := 48) cx 58 dX6_say_45 rfl rfl (fun hh => absurd hh (by decide)) (fun _ => ?_)
          refine go_iload_n (pc' := 49) cx dX6_say_48 rfl rfl ?_
          refine go_iconst (pc' := 50) cx 4 dX6_say_49 rfl rfl ?_
          refine go_imul (pc' := 51) cx dX6_say_50 rfl ?_
          refine go_val (w := .int 256) (congrArg Value.int (by decide)) ?_
          refine go_istore_n (pc' := 52) cx dX6_say_51 (ltn rfl) [(3, .int 256), (4, .int 3), (0, .ref (E.2.1 88)), (1, .int 4), (2, .int x2)] rfl rfl ?_
          refine go_iinc (pc' := 55) cx 4 dX6_say_52 rfl rfl (ltn rfl) [(4, .int 4), (3, .int 256), (0, .ref (E.2.1 88)), (1, .int 4), (2, .int x2)] rfl rfl ?_
          refine go_goto cx 42 dX6_say_55 rfl ?_
          refine go_iload (pc' := 44) cx dX6_say_42 rfl rfl ?_
          refine go_iload_n (pc' := 45) cx dX6_say_44 rfl rfl ?_
          refine go_icmp_ge (pc' := 48) cx 58 dX6_say_45 rfl rfl (fun _ => ?_) (fun hh => absurd hh (by decide))
          refine go_iconst (pc' := 59) cx (-1) dX6_say_58 rfl rfl ?_
          refine go_istore (pc' := 61) cx dX6_say_59 (ltn rfl) [(4, .int (-1)), (3, .int 256), (0, .ref (E.2.1 88)), (1, .int 4), (2, .int x2)] rfl rfl ?_
          refine go_iconst (pc' := 62) cx 0 dX6_say_61 rfl rfl ?_
          refine go_istore (pc' := 64) cx dX6_say_62 (ltn rfl) [(5, .int 0), (4, .int (-1)), (3, .int 256), (0, .ref (E.2.1 88)), (1, .int 4), (2, .int x2)] rfl rfl ?_
          refine go_iconst (pc' := 65) cx 0 dX6_say_64 rfl rfl ?_
          refine go_istore (pc' := 67) cx dX6_say_65 (ltn rfl) [(6, .int 0), (5, .int 0), (4, .int (-1)), (3, .int 256), (0, .ref (E.2.1 88)), (1, .int 4), (2, .int x2)] rfl rfl ?_
          refine go_sub [0, 4, 5, 6, 3, 2, 1] [(6, .int 0), (0, .ref (E.2.1 88)), (1, .int 4), (2, .int x2), (3, .int 256), (4, .int (-1)), (5, .int 0)] rfl ?_
          refine sayM_loop4 hX cx 256 0 GK z (by omega) (fun i k q => k1 i k (by omega)) k2 (fun k q => k1 101 k (by omega)) (hS0.fr (funext fun k => k1 102 k (by omega))) (fun G9 z9 f9 s9 => ZIz.mk ⟨?_, f9, s9⟩)
          unfold sayF
          rw [show clI (nI 4) = 4 from clI_n (k := 4) (by omega), if_neg (show ¬ nI 4 < 0 by decide), if_neg (show ¬ (4 : Int32) < nI 4 by decide), if_neg c17, if_neg (show ¬ fosI x2 = 0 from by rw [← fos_in]; exact c27), ow_ov _ (by decide), show (4 : Nat) ^ 4 = 256 from rfl]
      · refine go_bipush (pc' := 32) cx (-2) dX6_say_30 rfl rfl ?_
        refine go_iret cx rfl dX6_say_32 ?_
        exact ZIz.mk ⟨by
          unfold sayF
          obtain ⟨q1, q2⟩ := inX_ng c9
          rw [if_neg q1, if_neg q2, if_neg c17, if_pos (show fosI x2 = 0 from by rw [← fos_in]; exact c27)], FrJ.rf, hS0⟩
