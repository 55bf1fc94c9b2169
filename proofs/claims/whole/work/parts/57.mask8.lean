/-! THE REFERENCE: of chances -/
def ZLz (r : RG) (P : Int64 → IG → Int64 → Prop) : ZT := fun v g1 r1 z1 => (∃ x, v = some (.long x) ∧ P x g1 z1) ∧ r1 = r
theorem ZLz.mk {r : RG} {P : Int64 → IG → Int64 → Prop} {x : Int64} {g : IG} {z : Int64} (h : P x g z) : ZLz r P (some (.long x)) g r z := ⟨⟨x, rfl, h⟩, rfl⟩
theorem lN_div20 : ∀ a, a < 21 → ∀ b, b < 21 → ¬ b = 0 → lN a / lN b = lN (a / b) := by decide +kernel
theorem lN_rem20 {a b : Nat} (ha : a < 21) (hb : b < 21) (h0 : ¬ b = 0) : lN a - lN a / lN b * lN b = lN (a % b) := by
  have h1 : a / b * b ≤ a := Nat.div_mul_le_self a b
  rw [lN_div20 a ha b hb h0, lN_mul, lN_sub h1]
  refine congrArg lN ?_
  have := Nat.div_add_mod a b
  rw [Nat.mul_comm] at this
  omega
theorem cdF_gcd {a b : Nat} (hb : 0 < b) : ∀ d, Nat.gcd a b ≤ d → cdF a b d = Nat.gcd a b
  | 0, h => absurd (Nat.gcd_pos_of_pos_right a hb) (by omega)
  | d + 1, h => by
    have hg := Nat.gcd_pos_of_pos_right a hb
    rw [cdF_s]
    by_cases h1 : d + 1 ≤ 1
    · rw [if_pos h1]
      omega
    · rw [if_neg h1]
      by_cases h2 : a % (d + 1) = 0
      · rw [if_pos h2]
        by_cases h3 : b % (d + 1) = 0
        · rw [if_pos h3]
          have := Nat.le_of_dvd hg (Nat.dvd_gcd (Nat.dvd_of_mod_eq_zero h2) (Nat.dvd_of_mod_eq_zero h3))
          omega
        · rw [if_neg h3]
          refine cdF_gcd hb d ?_
          by_cases e : Nat.gcd a b = d + 1
          · exact absurd (Nat.mod_eq_zero_of_dvd (e ▸ Nat.gcd_dvd_right a b)) h3
          · omega
      · rw [if_neg h2]
        refine cdF_gcd hb d ?_
        by_cases e : Nat.gcd a b = d + 1
        · exact absurd (Nat.mod_eq_zero_of_dvd (e ▸ Nat.gcd_dvd_left b (m := a))) h2
        · omega
theorem lN_z {b : Nat} (hb : b < 21) : lN b = 0 ↔ b = 0 := lN_eq (b := 0) (by omega) (by omega)

set_option maxHeartbeats 1000000 in
set_option maxRecDepth 20000 in
theorem chg_loop {l : Launch} {E : Ev} {Z : ZT} {o : Option Nat} {p : Program} {e : Env} {s : State} {m : MethodId} {args : Array Value} {below : List Frame} {meth : Method} {c : Code} {G : IG} {z : Int64} {x1 x3 b1 : Int32} {n c9 : Nat} (hn21 : n < 21) (hc21 : c9 < 21) (cx : Cx p s m args meth c E 115 cX6_chance 13 yX6_chance.cls (some .long)) : ∀ (f b a : Nat), b < f → a < 21 → b < 21 → 0 < Nat.gcd a b → Nat.gcd a b < 21 → (∀ (w : Int64), (w = if x3 = 0 then lN (c9 / Nat.gcd a b) else lN (n / Nat.gcd a b)) → Z (some (.long w)) G (RFo o) z) → Go p l e (rmd 50) s m args below meth c E 115 13 Z G (RFo o) z 88 [(9, .long (lN b)), (7, .long (lN a)), (5, .long (lN c9)), (0, .ref (E.2.1 88)), (1, .int x1), (2, .int (nI n)), (3, .int x3), (4, .int b1)] [] := by
  intro f
  induction f with
  | zero =>
    intro b a hf
    exact absurd hf (Nat.not_lt_zero b)
  | succ f ih =>
    intro b a hf ha hb hg hg2 hZ
    by_cases hb0 : b = 0
    · subst hb0
      rw [Nat.gcd_zero_right] at hg hg2 hZ
      refine go_lload (pc' := 90) cx dX6_chance_88 rfl rfl ?_
      refine go_lconst (pc' := 91) cx 0 dX6_chance_90 rfl rfl ?_
      refine go_val (w := .long (((0 : Int32)).toInt64)) (congrArg Value.long (by decide)) ?_
      refine go_lcmp (pc' := 92) cx dX6_chance_91 rfl ?_
      refine go_if_eq (pc' := 95) cx 113 dX6_chance_92 rfl rfl (fun _ => ?_) (fun hh9 => absurd ((lg_cmp_eq _ _).mpr rfl) hh9)
      refine go_iload_n (pc' := 114) cx dX6_chance_113 rfl rfl ?_
      refine go_if_ne (pc' := 117) cx 125 dX6_chance_114 rfl rfl (fun c114 => ?_) (fun c114 => ?_)
      · refine go_iload_n (pc' := 126) cx dX6_chance_125 rfl rfl ?_
        refine go_i2l (pc' := 127) cx dX6_chance_126 rfl ?_
        refine go_val (w := .long (lN n)) (congrArg Value.long (nI_l (by omega))) ?_
        refine go_lload (pc' := 129) cx dX6_chance_127 rfl rfl ?_
        refine go_ldiv (pc' := 130) cx (fun q => absurd ((lN_z ha).mp q) (by omega)) dX6_chance_129 rfl ?_
        refine go_val (w := .long (lN (n / a))) (congrArg Value.long (lN_div20 _ (by omega) _ (by omega) (by omega))) ?_
        refine go_lret cx rfl dX6_chance_130 ?_
        exact hZ _ (by first | (rw [if_pos c114]; done) | (rw [if_neg c114]; done) | (rw [if_pos c114]; rfl) | (rw [if_neg c114]; rfl))
      · refine go_lload (pc' := 119) cx dX6_chance_117 rfl rfl ?_
        refine go_lload (pc' := 121) cx dX6_chance_119 rfl rfl ?_
        refine go_ldiv (pc' := 122) cx (fun q => absurd ((lN_z ha).mp q) (by omega)) dX6_chance_121 rfl ?_
        refine go_val (w := .long (lN (c9 / a))) (congrArg Value.long (lN_div20 _ (by omega) _ (by omega) (by omega))) ?_
        refine go_goto cx 130 dX6_chance_122 rfl ?_
        refine go_lret cx rfl dX6_chance_130 ?_
        exact hZ _ (by first | (rw [if_pos c114]; done) | (rw [if_neg c114]; done) | (rw [if_pos c114]; rfl) | (rw [if_neg c114]; rfl))
    · have hm : a % b < b := Nat.mod_lt _ (by omega)
      refine go_lload (pc' := 90) cx dX6_chance_88 rfl rfl ?_
      refine go_lconst (pc' := 91) cx 0 dX6_chance_90 rfl rfl ?_
      refine go_val (w := .long (((0 : Int32)).toInt64)) (congrArg Value.long (by decide)) ?_
      refine go_lcmp (pc' := 92) cx dX6_chance_91 rfl ?_
      refine go_if_eq (pc' := 95) cx 113 dX6_chance_92 rfl rfl (fun hh9 => absurd ((lN_z hb).mp ((lg_cmp_eq _ _).mp hh9)) hb0) (fun _ => ?_)
      refine go_lload (pc' := 97) cx dX6_chance_95 rfl rfl ?_
      refine go_lload (pc' := 99) cx dX6_chance_97 rfl rfl ?_
      refine go_lrem (pc' := 100) cx (fun q => hb0 ((lN_z hb).mp q)) dX6_chance_99 rfl ?_
      refine go_val (w := .long (lN (a % b))) (congrArg Value.long (lN_rem20 ha hb hb0)) ?_
      refine go_lstore (pc' := 102) cx dX6_chance_100 (ltn rfl) [(11, .long (lN (a % b))), (9, .long (lN b)), (7, .long (lN a)), (5, .long (lN c9)), (0, .ref (E.2.1 88)), (1, .int x1), (2, .int (nI n)), (3, .int x3), (4, .int b1)] rfl rfl ?_
      refine go_lload (pc' := 104) cx dX6_chance_102 rfl rfl ?_
      refine go_lstore (pc' := 106) cx dX6_chance_104 (ltn rfl) [(7, .long (lN b)), (11, .long (lN (a % b))), (9, .long (lN b)), (5, .long (lN c9)), (0, .ref (E.2.1 88)), (1, .int x1), (2, .int (nI n)), (3, .int x3), (4, .int b1)] rfl rfl ?_
      refine go_lload (pc' := 108) cx dX6_chance_106 rfl rfl ?_
      refine go_lstore (pc' := 110) cx dX6_chance_108 (ltn rfl) [(9, .long (lN (a % b))), (7, .long (lN b)), (11, .long (lN (a % b))), (5, .long (lN c9)), (0, .ref (E.2.1 88)), (1, .int x1), (2, .int (nI n)), (3, .int x3), (4, .int b1)] rfl rfl ?_
      refine go_goto cx 88 dX6_chance_110 rfl ?_
      refine go_sub [0, 1, 3, 4, 5, 6, 7, 8] [(9, .long (lN (a % b))), (7, .long (lN b)), (5, .long (lN c9)), (0, .ref (E.2.1 88)), (1, .int x1), (2, .int (nI n)), (3, .int x3), (4, .int b1)] rfl ?_
      have eg : Nat.gcd a b = Nat.gcd b (a % b) := by
        rw [Nat.gcd_comm a b, Nat.gcd_rec b a, Nat.gcd_comm]
      rw [eg] at hg hg2 hZ
      exact ih (a % b) b (by omega) hb (by omega) hg hg2 hZ

set_option maxHeartbeats 1000000 in
set_option maxRecDepth 20000 in
theorem chc_loop {l : Launch} {E : Ev} {Z : ZT} {o : Option Nat} {p : Program} {e : Env} {s : State} {m : MethodId} {args : Array Value} {below : List Frame} {meth : Method} {c : Code} {g : IG} {hn vn ru tc : Nat} {CS : CSt} (hX : XM g hn vn ru tc CS) {x1 x3 : Int32} {n : Nat} (h0 : 0 < hn) (hn0 : 0 < n) (hn21 : n < 21) (cx : Cx p s m args meth c E 115 cX6_chance 13 yX6_chance.cls (some .long)) : ∀ (k i : Nat) (G : IG) (z : Int64), i + k = n → FrJ g G → SdI G tc CS → (∀ (G9 : IG) (z9 : Int64), FrJ g G9 → SdI G9 tc CS → Z (some (.long (if x3 = 0 then lN ((chN (TMx CS ru) (svM g) hn vn x1 n) / Nat.gcd (chN (TMx CS ru) (svM g) hn vn x1 n) n) else lN (n / Nat.gcd (chN (TMx CS ru) (svM g) hn vn x1 n) n)))) G9 (RFo o) z9) → Go p l e (rmd 50) s m args below meth c E 115 13 Z G (RFo o) z 45 [(7, .int (nI i)), (5, .long (lN (chN (TMx CS ru) (svM g) hn vn x1 i))), (0, .ref (E.2.1 88)), (1, .int x1), (2, .int (nI n)), (3, .int x3), (4, .int (BDs (TMx CS ru) (svM g) vn))] [] := by
  intro k
  have hb := hX.1
  induction k with
  | zero =>
    intro i G z hk hF hS hZ
    have hi : i = n := by omega
    subst hi
    refine go_iload (pc' := 47) cx dX6_chance_45 rfl rfl ?_
    refine go_iload_n (pc' := 48) cx dX6_chance_47 rfl rfl ?_
    refine go_icmp_ge (pc' := 51) cx 80 dX6_chance_48 rfl rfl (fun _ => ?_) (fun hh9 => absurd (Int32.le_refl _) hh9)
    refine go_lload (pc' := 82) cx dX6_chance_80 rfl rfl ?_
    refine go_lstore (pc' := 84) cx dX6_chance_82 (ltn rfl) [(7, .long (lN (chN (TMx CS ru) (svM g) hn vn x1 i))), (5, .long (lN (chN (TMx CS ru) (svM g) hn vn x1 i))), (0, .ref (E.2.1 88)), (1, .int x1), (2, .int (nI i)), (3, .int x3), (4, .int (BDs (TMx CS ru) (svM g) vn))] rfl rfl ?_
    refine go_iload_n (pc' := 85) cx dX6_chance_84 rfl rfl ?_
    refine go_i2l (pc' := 86) cx dX6_chance_85 rfl ?_
    refine go_val (w := .long (lN i)) (congrArg Value.long (nI_l (by omega))) ?_
    refine go_lstore (pc' := 88) cx dX6_chance_86 (ltn rfl) [(9, .long (lN i)), (7, .long (lN (chN (TMx CS ru) (svM g) hn vn x1 i))), (5, .long (lN (chN (TMx CS ru) (svM g) hn vn x1 i))), (0, .ref (E.2.1 88)), (1, .int x1), (2, .int (nI i)), (3, .int x3), (4, .int (BDs (TMx CS ru) (svM g) vn))] rfl rfl ?_
    have hc := chN_le (M := (TMx CS ru)) (a := (svM g)) (hn := hn) (vn := vn) (z := x1) i
    have hg := Nat.gcd_pos_of_pos_right (chN (TMx CS ru) (svM g) hn vn x1 i) hn0
    have hg2 : Nat.gcd (chN (TMx CS ru) (svM g) hn vn x1 i) i ≤ i := Nat.le_of_dvd hn0 (Nat.gcd_dvd_right _ _)
    exact chg_loop hn21 (by omega) cx (i + 1) i (chN (TMx CS ru) (svM g) hn vn x1 i) (by omega) (by omega) hn21 hg (by omega) (fun w hw => by
      rw [hw]
      exact hZ G z hF hS)
  | succ k ih =>
    intro i G z hk hF hS hZ
    refine go_iload (pc' := 47) cx dX6_chance_45 rfl rfl ?_
    refine go_iload_n (pc' := 48) cx dX6_chance_47 rfl rfl ?_
    refine go_icmp_ge (pc' := 51) cx 80 dX6_chance_48 rfl rfl (fun hh9 => absurd ((nI_leI (a := n) (b := i) (by omega) (by omega)).mp hh9) (by omega)) (fun _ => ?_)
    refine go_lload (pc' := 53) cx dX6_chance_51 rfl rfl ?_
    refine go_aload_n (pc' := 54) cx dX6_chance_53 rfl rfl ?_
    refine go_iload_n (pc' := 55) cx dX6_chance_54 rfl rfl ?_
    refine go_iload (pc' := 57) cx dX6_chance_55 rfl rfl ?_
    refine go_iadd (pc' := 58) cx dX6_chance_57 rfl ?_
    refine go_cVIz (pc' := 61) cx (c_X6_draws l E (g := G) (hX.fj hF hS) h0 (x1 + nI i)) mX6_draws lX6_445 dX6_chance_58 kq88 (ltn rfl) (ltn rfl) rfl rfl rfl rfl (ltn rfl) (Nat.le_of_ble_eq_true rfl) (Nat.le_of_ble_eq_true rfl) rfl (fun xw GW zw hw => ?_)
    obtain ⟨ew, fw, sw⟩ := hw
    rw [hF.sv] at ew
    refine go_iload (pc' := 63) cx dX6_chance_61 rfl rfl ?_
    refine go_icmp_gt (pc' := 66) cx 70 dX6_chance_63 rfl rfl (fun c63 => ?_) (fun c63 => ?_)
    · have c63n := Int32.not_le.mpr c63
      refine go_lconst (pc' := 71) cx 0 dX6_chance_70 rfl rfl ?_
      refine go_val (w := .long (((0 : Int32)).toInt64)) (congrArg Value.long (by decide)) ?_
      refine go_ladd (pc' := 72) cx dX6_chance_71 rfl ?_
      have ec9 : (chN (TMx CS ru) (svM g) hn vn x1 (i + 1)) = (chN (TMx CS ru) (svM g) hn vn x1 i) := if_neg (by rw [← ew]; exact Int32.not_le.mpr c63)
      refine go_val (w := .long (lN (chN (TMx CS ru) (svM g) hn vn x1 (i + 1)))) (congrArg Value.long (by rw [ec9]; exact (congrArg (lN _ + ·) (show (0 : Int32).toInt64 = lN 0 by decide)).trans (lN_add _ 0))) ?_
      refine go_lstore (pc' := 74) cx dX6_chance_72 (ltn rfl) [(5, .long (lN (chN (TMx CS ru) (svM g) hn vn x1 (i + 1)))), (7, .int (nI i)), (0, .ref (E.2.1 88)), (1, .int x1), (2, .int (nI n)), (3, .int x3), (4, .int (BDs (TMx CS ru) (svM g) vn))] rfl rfl ?_
      refine go_iinc (pc' := 77) cx (nI (i + 1)) dX6_chance_74 rfl (nI_1 i) (ltn rfl) [(7, .int (nI (i + 1))), (5, .long (lN (chN (TMx CS ru) (svM g) hn vn x1 (i + 1)))), (0, .ref (E.2.1 88)), (1, .int x1), (2, .int (nI n)), (3, .int x3), (4, .int (BDs (TMx CS ru) (svM g) vn))] rfl rfl ?_
      refine go_goto cx 45 dX6_chance_77 rfl ?_
      exact ih (i + 1) GW zw (by omega) (hF.tr fw) sw hZ
    · have c63n := Int32.not_lt.mp c63
      refine go_lconst (pc' := 67) cx 1 dX6_chance_66 rfl rfl ?_
      refine go_val (w := .long (((1 : Int32)).toInt64)) (congrArg Value.long (by decide)) ?_
      refine go_goto cx 71 dX6_chance_67 rfl ?_
      refine go_ladd (pc' := 72) cx dX6_chance_71 rfl ?_
      have ec9 : (chN (TMx CS ru) (svM g) hn vn x1 (i + 1)) = (chN (TMx CS ru) (svM g) hn vn x1 i) + 1 := if_pos (by rw [← ew]; exact Int32.not_lt.mp c63)
      refine go_val (w := .long (lN (chN (TMx CS ru) (svM g) hn vn x1 (i + 1)))) (congrArg Value.long (by rw [ec9]; exact (congrArg (lN _ + ·) (show (1 : Int32).toInt64 = 1 by decide)).trans (lN_1 _))) ?_
      refine go_lstore (pc' := 74) cx dX6_chance_72 (ltn rfl) [(5, .long (lN (chN (TMx CS ru) (svM g) hn vn x1 (i + 1)))), (7, .int (nI i)), (0, .ref (E.2.1 88)), (1, .int x1), (2, .int (nI n)), (3, .int x3), (4, .int (BDs (TMx CS ru) (svM g) vn))] rfl rfl ?_
      refine go_iinc (pc' := 77) cx (nI (i + 1)) dX6_chance_74 rfl (nI_1 i) (ltn rfl) [(7, .int (nI (i + 1))), (5, .long (lN (chN (TMx CS ru) (svM g) hn vn x1 (i + 1)))), (0, .ref (E.2.1 88)), (1, .int x1), (2, .int (nI n)), (3, .int x3), (4, .int (BDs (TMx CS ru) (svM g) vn))] rfl rfl ?_
      refine go_goto cx 45 dX6_chance_77 rfl ?_
      exact ih (i + 1) GW zw (by omega) (hF.tr fw) sw hZ

set_option maxHeartbeats 1000000 in
set_option maxRecDepth 20000 in
theorem c_X6_chance (l : Launch) (E : Ev) {g : IG} {o : Option Nat} {z : Int64} {hn vn ru tc : Nat} {CS : CSt} (hX : XM g hn vn ru tc CS) (x1 x2 x3 : Int32) : Ct l E 115 yX6_chance cX6_chance 13 (some .long) 50 [.ref (E.2.1 88), .int x1, .int x2, .int x3] g (RFo o) z (ZLz (RFo o) (fun x g1 z1 => x = chanceF (TMx CS ru) (svM g) hn vn x1 x2 x3 ∧ FrJ g g1 ∧ SdI g1 tc CS)) := by
  refine Ct.of (lv0 := [(0, .ref (E.2.1 88)), (1, .int x1), (2, .int x2), (3, .int x3)]) (by decide) (Nat.le_of_ble_eq_true rfl) rfl ?_
  intro p e s m below meth c cx
  have hb := hX.1
  have hS0 := hX.2.2.2.2.2.2.2.2.2.2
  refine go_iload_n (pc' := 1) cx dX6_chance_0 rfl rfl ?_
  refine go_i2l (pc' := 2) cx dX6_chance_1 rfl ?_
  refine go_lconst (pc' := 3) cx 1 dX6_chance_2 rfl rfl ?_
  refine go_val (w := .long (((1 : Int32)).toInt64)) (congrArg Value.long (by decide)) ?_
  refine go_ldc2 (pc' := 6) cx 20 kX6_448 dX6_chance_3 rfl ?_
  refine go_val (w := .long (((20 : Int32)).toInt64)) (congrArg Value.long (by decide)) ?_
  refine go_cSi (pc' := 9) cx (c_X6_in l E (g := g) x2 (1 : Int32) (20 : Int32)) mX6_in lX6_108 dX6_chance_6 rfl rfl rfl (ltn rfl) (Nat.le_of_ble_eq_true rfl) (Nat.le_of_ble_eq_true rfl) rfl ?_
  refine go_if_eq (pc' := 12) cx 29 dX6_chance_9 rfl rfl (fun c9 => ?_) (fun c9 => ?_)
  · refine go_ldc2 (pc' := 32) cx (-4611686018427387904) kX6_450 dX6_chance_29 rfl ?_
    refine go_lret cx rfl dX6_chance_32 ?_
    exact ZLz.mk ⟨by
      unfold chanceF
      rcases inX_ps c9 with q | ⟨q, q2⟩
      · rw [if_pos q]
      · rw [if_neg q, if_pos q2], FrJ.rf, hS0⟩
  · refine go_iload_n (pc' := 13) cx dX6_chance_12 rfl rfl ?_
    refine go_i2l (pc' := 14) cx dX6_chance_13 rfl ?_
    refine go_lconst (pc' := 15) cx 0 dX6_chance_14 rfl rfl ?_
    refine go_val (w := .long (((0 : Int32)).toInt64)) (congrArg Value.long (by decide)) ?_
    refine go_lconst (pc' := 16) cx 1 dX6_chance_15 rfl rfl ?_
    refine go_val (w := .long (((1 : Int32)).toInt64)) (congrArg Value.long (by decide)) ?_
    refine go_cSi (pc' := 19) cx (c_X6_in l E (g := g) x3 (0 : Int32) (1 : Int32)) mX6_in lX6_108 dX6_chance_16 rfl rfl rfl (ltn rfl) (Nat.le_of_ble_eq_true rfl) (Nat.le_of_ble_eq_true rfl) rfl ?_
    refine go_if_eq (pc' := 22) cx 29 dX6_chance_19 rfl rfl (fun c19 => ?_) (fun c19 => ?_)
    · refine go_ldc2 (pc' := 32) cx (-4611686018427387904) kX6_450 dX6_chance_29 rfl ?_
      refine go_lret cx rfl dX6_chance_32 ?_
      exact ZLz.mk ⟨by
        unfold chanceF
        obtain ⟨q1, q2⟩ := inX_ng c9
        rw [if_neg q1, if_neg q2, if_pos (show fosI x3 = 0 from by rw [← fos_in]; exact c19)], FrJ.rf, hS0⟩
    · refine go_aload_n (pc' := 23) cx dX6_chance_22 rfl rfl ?_
      refine go_geti (pc' := 26) cx (nI hn) fX6_112 dX6_chance_23 kq88 (ltn rfl) (ltn rfl) rfl hX.2.1 rfl ?_
      refine go_if_ne (pc' := 29) cx 33 dX6_chance_26 rfl rfl (fun c26 => ?_) (fun c26 => ?_)
      · obtain ⟨q1, q2⟩ := inX_ng c9
        have h0 : 0 < hn := by
          rcases Nat.eq_zero_or_pos hn with q | q
          · exact absurd (by rw [q]; rfl) c26
          · exact q
        obtain ⟨n, hn0, hn21, en⟩ : ∃ n, 0 < n ∧ n < 21 ∧ x2 = nI n := by
          obtain ⟨j, hj, rfl⟩ := nI_of (x := x2) (fun q => q1 (Int32.lt_trans q (by decide)))
          have a1 : ¬ j < 1 := fun q => q1 ((nI_ltI (b := 1) hj (by omega)).mpr q)
          have a2 : ¬ 20 < j := fun q => q2 ((nI_ltI (a := 20) (by omega) hj).mpr q)
          exact ⟨j, by omega, by omega, rfl⟩
        subst en
        have cln := clI_n (k := n) (by omega)
        refine go_aload_n (pc' := 34) cx dX6_chance_33 rfl rfl ?_
        refine go_cVIz (pc' := 37) cx (c_X6_courses l E (g := g) hX) mX6_courses lX6_421 dX6_chance_34 kq88 (ltn rfl) (ltn rfl) rfl rfl rfl rfl (ltn rfl) (Nat.le_of_ble_eq_true rfl) (Nat.le_of_ble_eq_true rfl) rfl (fun xc GC zc hc => ?_)
        obtain ⟨ec, fc, -, -, sc⟩ := hc
        subst ec
        refine go_istore (pc' := 39) cx dX6_chance_37 (ltn rfl) [(4, .int (BDs (TMx CS ru) (svM g) vn)), (0, .ref (E.2.1 88)), (1, .int x1), (2, .int (nI n)), (3, .int x3)] rfl rfl ?_
        refine go_lconst (pc' := 40) cx 0 dX6_chance_39 rfl rfl ?_
        refine go_val (w := .long (((0 : Int32)).toInt64)) (congrArg Value.long (by decide)) ?_
        refine go_lstore (pc' := 42) cx dX6_chance_40 (ltn rfl) [(5, .long (((0 : Int32)).toInt64)), (4, .int (BDs (TMx CS ru) (svM g) vn)), (0, .ref (E.2.1 88)), (1, .int x1), (2, .int (nI n)), (3, .int x3)] rfl rfl ?_
        refine go_iconst (pc' := 43) cx 0 dX6_chance_42 rfl rfl ?_
        refine go_istore (pc' := 45) cx dX6_chance_43 (ltn rfl) [(7, .int 0), (5, .long (((0 : Int32)).toInt64)), (4, .int (BDs (TMx CS ru) (svM g) vn)), (0, .ref (E.2.1 88)), (1, .int x1), (2, .int (nI n)), (3, .int x3)] rfl rfl ?_
        refine go_sub [0, 1, 3, 4, 5, 6, 2] [(7, .int 0), (5, .long (((0 : Int32)).toInt64)), (0, .ref (E.2.1 88)), (1, .int x1), (2, .int (nI n)), (3, .int x3), (4, .int (BDs (TMx CS ru) (svM g) vn))] rfl ?_
        refine go_sub [0, 1, 2, 3, 4, 5, 6] [(7, .int (nI 0)), (5, .long (lN (chN (TMx CS ru) (svM g) hn vn x1 0))), (0, .ref (E.2.1 88)), (1, .int x1), (2, .int (nI n)), (3, .int x3), (4, .int (BDs (TMx CS ru) (svM g) vn))] rfl ?_
        refine chc_loop hX h0 hn0 hn21 cx n 0 GC zc (by omega) fc.j sc (fun G9 z9 f9 s9 => ZLz.mk ⟨?_, f9, s9⟩)
        have hc := chN_le (M := (TMx CS ru)) (a := (svM g)) (hn := hn) (vn := vn) (z := x1) n
        have hg := Nat.gcd_pos_of_pos_right (chN (TMx CS ru) (svM g) hn vn x1 n) hn0
        have hd1 := Nat.div_le_self (chN (TMx CS ru) (svM g) hn vn x1 n) (Nat.gcd (chN (TMx CS ru) (svM g) hn vn x1 n) n)
        have hd2 := Nat.div_le_self n (Nat.gcd (chN (TMx CS ru) (svM g) hn vn x1 n) n)
        unfold chanceF
        rw [if_neg q1, if_neg q2, if_neg (show ¬ fosI x3 = 0 from by rw [← fos_in]; exact c19), if_neg (show ¬ hn = 0 by omega), cln, cdF_gcd hn0 n (Nat.le_of_dvd hn0 (Nat.gcd_dvd_right _ _)), nI_l (by omega), nI_l (by omega)]
      · refine go_ldc2 (pc' := 32) cx (-4611686018427387904) kX6_450 dX6_chance_29 rfl ?_
        refine go_lret cx rfl dX6_chance_32 ?_
        exact ZLz.mk ⟨by
          unfold chanceF
          obtain ⟨q1, q2⟩ := inX_ng c9
          rw [if_neg q1, if_neg q2, if_neg (show ¬ fosI x3 = 0 from by rw [← fos_in]; exact c19), if_pos ((nI_eq (b := 0) (by omega) (by omega)).mp c26)], FrJ.rf, hS0⟩
