/-! THE REFERENCE: of marks, of drawn hands, of weeks -/
theorem FrJ.fw {w : Nat} {g0 g : IG} (h : FrJ g0 g) : FrW w g0 g := fun i k q => h i k (by omega)
theorem FrJ.c {g0 g : IG} (h : FrJ g0 g) {i : Nat} (h1 : ¬ (102 ≤ i ∧ i ≤ 107)) (h2 : i ≠ 88) : g i = g0 i := funext fun k => h i k (by omega)
theorem FrJ.sv {g0 g : IG} (h : FrJ g0 g) : svM g = svM g0 := by
  funext w
  unfold svM
  rw [h.c (i := 92) (by omega) (by omega), h.c (i := 93) (by omega) (by omega), h.c (i := 94) (by omega) (by omega), h.c (i := 95) (by omega) (by omega), h.c (i := 96) (by omega) (by omega), h.c (i := 97) (by omega) (by omega), h.c (i := 98) (by omega) (by omega), h.c (i := 99) (by omega) (by omega), h.c (i := 100) (by omega) (by omega), h.c (i := 101) (by omega) (by omega), h 88 10 (by omega)]
theorem XM.fj {g g1 : IG} {hn vn ru tc : Nat} {CS : CSt} (h : XM g hn vn ru tc CS) (hF : FrJ g g1) (hS : SdI g1 tc CS) : XM g1 hn vn ru tc CS :=
  h.fw (j := 7) (Or.inl rfl) hF.fw hS (by rw [hF.sv]; exact h.2.2.2.2.1)
theorem sv10 {g : IG} {m : Int32} {i : Nat} (h : i ≠ 3) : svM (up2 g 88 10 m) i = svM g i := by
  unfold svM
  rw [up2_rn _ _ _ (show 92 ≠ 88 by omega), up2_rn _ _ _ (show 93 ≠ 88 by omega), up2_rn _ _ _ (show 94 ≠ 88 by omega), up2_rn _ _ _ (show 95 ≠ 88 by omega), up2_rn _ _ _ (show 96 ≠ 88 by omega), up2_rn _ _ _ (show 97 ≠ 88 by omega), up2_rn _ _ _ (show 98 ≠ 88 by omega), up2_rn _ _ _ (show 99 ≠ 88 by omega), up2_rn _ _ _ (show 100 ≠ 88 by omega), up2_rn _ _ _ (show 101 ≠ 88 by omega), if_neg h, if_neg h]
theorem XM.mk10 {g : IG} {hn vn ru tc : Nat} {CS : CSt} (h : XM g hn vn ru tc CS) (m : Int32) : XM (up2 g 88 10 m) hn vn ru tc CS :=
  ⟨h.1, (up2_n _ _ (Or.inr (by omega))).trans h.2.1, (up2_n _ _ (Or.inr (by omega))).trans h.2.2.1, by rw [up2_rn _ _ _ (by omega)]; exact h.2.2.2.1, fun v hv => by rw [sv10 (by omega)]; exact h.2.2.2.2.1 v hv, h.2.2.2.2.2.1, h.2.2.2.2.2.2.1, (up2_n _ _ (Or.inr (by omega))).trans h.2.2.2.2.2.2.2.1, (up2_n _ _ (Or.inr (by omega))).trans h.2.2.2.2.2.2.2.2.1, fun t ht => (h.2.2.2.2.2.2.2.2.2.1 t ht).fr (up2_rn _ _ _ (by omega)) (up2_rn _ _ _ (by omega)), h.2.2.2.2.2.2.2.2.2.2.fr (up2_rn _ _ _ (by omega))⟩
theorem reqK {a b : Sv} {hn vn : Nat} (h : ∀ i k, (i ≠ 3 ∨ k = 0) → a i k = b i k) : Req a b hn vn :=
  ⟨fun p _ => h _ _ (by omega), fun p _ => h _ _ (by omega), fun p _ => h _ _ (by omega), h _ _ (by omega), fun i k hi _ => h _ _ (by omega), fun i k hi _ => h _ _ (by omega)⟩
theorem markR {g : IG} {m : Int32} {hn vn : Nat} : Req (filS (svM (up2 g 88 10 m)) 9 3 vn) (filS (up2 (svM g) 3 0 m) 9 3 vn) hn vn := by
  refine reqK (fun i k hi => ?_)
  rw [filS_r, filS_r]
  by_cases h : i = 9 ∧ k < vn
  · rw [if_pos h, if_pos h]
  · rw [if_neg h, if_neg h]
    by_cases h3 : i = 3
    · subst h3
      have hk : k = 0 := by omega
      subst hk
      exact (up2_s g 88 10 m).trans (up2_s (svM g) 3 0 m).symm
    · rw [sv10 h3, up2_n _ _ (Or.inl h3)]
theorem mark_back {g gb GT : IG} (h : FrJ gb GT) (hg : ∀ i k, ¬ (i = 106 ∨ i = 107) → ¬ (i = 88 ∧ (k = 10 ∨ (20 ≤ k ∧ k ≤ 37) ∨ k = 39)) → ¬ (102 ≤ i ∧ i ≤ 105) → gb i k = g i k) : FrJ g (up2 GT 88 10 (g 88 10)) := by
  intro i k q
  by_cases h9 : i = 88 ∧ k = 10
  · obtain ⟨rfl, rfl⟩ := h9
    exact up2_s _ _ _ _
  · rw [up2_n _ _ (by omega), h i k q]
    exact hg i k (by omega) (by omega) (by omega)
theorem drS_r {a : Sv} {z : Int32} {hn : Nat} : ∀ n i k, drS a z hn n i k = if i = 7 ∧ k < n then drH z hn k else a i k
  | 0, i, k => by rw [if_neg (by omega)]; rfl
  | n + 1, i, k => by
    show up2 (drS a z hn n) 7 n (drH z hn n) i k = _
    by_cases h : i = 7 ∧ k = n
    · obtain ⟨rfl, rfl⟩ := h
      rw [up2_s, if_pos ⟨rfl, Nat.lt_succ_self _⟩]
    · rw [up2_n _ _ (by omega), drS_r n i k]
      by_cases h2 : i = 7 ∧ k < n
      · rw [if_pos h2, if_pos ⟨h2.1, by omega⟩]
      · rw [if_neg h2, if_neg (by omega)]

set_option maxHeartbeats 1000000 in
set_option maxRecDepth 20000 in
theorem mark_fill {l : Launch} {E : Ev} {Z : ZT} {o : Option Nat} {p : Program} {e : Env} {s : State} {m : MethodId} {args : Array Value} {below : List Frame} {meth : Method} {c : Code} {z : Int64} {vn : Nat} {b1 b2 : Int32} (hv8 : vn ≤ 8) (cx : Cx p s m args meth c E 115 cX6_marked 4 yX6_marked.cls (some .int)) : ∀ (k u : Nat) (G : IG), u + k = vn → G 88 19 = nI vn → (∀ q, q < u → G 101 q = 3) → (∀ (G9 : IG), (∀ i q, ¬ (i = 101 ∧ q < 8) → G9 i q = G i q) → (∀ q, q < vn → G9 101 q = 3) → Go p l e (rmd 49) s m args below meth c E 115 4 Z G9 (RFo o) z 47 [(3, .int (nI vn)), (0, .ref (E.2.1 88)), (1, .int b1), (2, .int b2)] []) → Go p l e (rmd 49) s m args below meth c E 115 4 Z G (RFo o) z 26 [(3, .int (nI u)), (0, .ref (E.2.1 88)), (1, .int b1), (2, .int b2)] [] := by
  intro k
  induction k with
  | zero =>
    intro u G hk h19 hq kk
    have hu : u = vn := by omega
    subst hu
    refine go_iload_n (pc' := 27) cx dX6_marked_26 rfl rfl ?_
    refine go_aload_n (pc' := 28) cx dX6_marked_27 rfl rfl ?_
    refine go_geti (pc' := 31) cx (nI u) fX6_115 dX6_marked_28 kq88 (ltn rfl) (ltn rfl) rfl h19 rfl ?_
    refine go_icmp_ge (pc' := 34) cx 47 dX6_marked_31 rfl rfl (fun _ => ?_) (fun hh9 => absurd (Int32.le_refl _) hh9)
    exact kk G (fun _ _ _ => rfl) hq
  | succ k ih =>
    intro u G hk h19 hq kk
    refine go_iload_n (pc' := 27) cx dX6_marked_26 rfl rfl ?_
    refine go_aload_n (pc' := 28) cx dX6_marked_27 rfl rfl ?_
    refine go_geti (pc' := 31) cx (nI vn) fX6_115 dX6_marked_28 kq88 (ltn rfl) (ltn rfl) rfl h19 rfl ?_
    refine go_icmp_ge (pc' := 34) cx 47 dX6_marked_31 rfl rfl (fun hh9 => absurd ((nI_leI (a := vn) (b := u) (by omega) (by omega)).mp hh9) (by omega)) (fun _ => ?_)
    refine go_aload_n (pc' := 35) cx dX6_marked_34 rfl rfl ?_
    refine go_getr (pc' := 38) cx 101 fX6_53 dX6_marked_35 kq88 (ltn rfl) (ltn rfl) rfl rfl rfl ?_
    refine go_iload_n (pc' := 39) cx dX6_marked_38 rfl rfl ?_
    refine go_iconst (pc' := 40) cx 3 dX6_marked_39 rfl rfl ?_
    refine go_iastk (pc' := 41) cx u dX6_marked_40 kq101 (ltn rfl) (vpi (k := u) (a := 8) (by omega) rfl rfl) (cli (k := u) (a := 8) (by omega) rfl) rfl ?_
    refine go_iinc (pc' := 44) cx (nI (u + 1)) dX6_marked_41 rfl (nI_1 u) (ltn rfl) [(3, .int (nI (u + 1))), (0, .ref (E.2.1 88)), (1, .int b1), (2, .int b2)] rfl rfl ?_
    refine go_goto cx 26 dX6_marked_44 rfl ?_
    exact ih (u + 1) (up2 G 101 u 3) (by omega) ((up2_n _ _ (Or.inl (by omega))).trans h19) (fun q hq9 => by
      by_cases e : q = u
      · rw [e, up2_s]
      · rw [up2_n _ _ (Or.inr e)]
        exact hq q (by omega)) (fun G9 a b => kk G9 (fun i q h9 => (a i q h9).trans (up2_n _ _ (by omega))) b)

set_option maxHeartbeats 1000000 in
set_option maxRecDepth 20000 in
theorem c_X6_marked (l : Launch) (E : Ev) {g : IG} {o : Option Nat} {z : Int64} {hn vn ru tc : Nat} {CS : CSt} (hX : XM g hn vn ru tc CS)  : Ct l E 115 yX6_marked cX6_marked 4 (some .int) 49 [.ref (E.2.1 88)] g (RFo o) z (ZIz (RFo o) (fun x g1 z1 => x = markF (TMx CS ru) (svM g) vn ∧ FrJ g g1 ∧ SdI g1 tc CS)) := by
  refine Ct.of (lv0 := [(0, .ref (E.2.1 88))]) (by decide) (Nat.le_of_ble_eq_true rfl) rfl ?_
  intro p e s m below meth c cx
  have hb := hX.1
  have hS0 := hX.2.2.2.2.2.2.2.2.2.2
  refine go_aload_n (pc' := 1) cx dX6_marked_0 rfl rfl ?_
  refine go_cVIz (pc' := 4) cx (c_X6_courses l E (g := g) hX) mX6_courses lX6_421 dX6_marked_1 kq88 (ltn rfl) (ltn rfl) rfl rfl rfl rfl (ltn rfl) (Nat.le_of_ble_eq_true rfl) (Nat.le_of_ble_eq_true rfl) rfl (fun xc GC zc hc => ?_)
  obtain ⟨ec, fc, -, -, sc⟩ := hc
  refine go_istore_n (pc' := 5) cx dX6_marked_4 (ltn rfl) [(1, .int xc), (0, .ref (E.2.1 88))] rfl rfl ?_
  refine go_aload_n (pc' := 6) cx dX6_marked_5 rfl rfl ?_
  refine go_geti (pc' := 9) cx (g 88 10) fX6_32 dX6_marked_6 kq88 (ltn rfl) (ltn rfl) rfl (fc 88 10 (by omega)) rfl ?_
  refine go_istore_n (pc' := 10) cx dX6_marked_9 (ltn rfl) [(2, .int (g 88 10)), (1, .int xc), (0, .ref (E.2.1 88))] rfl rfl ?_
  refine go_aload_n (pc' := 11) cx dX6_marked_10 rfl rfl ?_
  refine go_cVV (pc' := 14) cx (c_X6_keeps l E (g := GC)) mX6_keeps lX6_426 dX6_marked_11 kq88 (ltn rfl) (ltn rfl) rfl rfl rfl rfl (ltn rfl) (Nat.le_of_ble_eq_true rfl) (Nat.le_of_ble_eq_true rfl) rfl (fun GK hK => ?_)
  obtain ⟨k1, k2⟩ := hK
  have hFK : FrJ g GK := fun i k q => (k1 i k (by omega)).trans (fc i k (by omega))
  have hKK : KpS g GK := fun k hk => ⟨(k2 k hk).1.trans (fc 101 k (by omega)), (k2 k hk).2.trans (fc 99 k (by omega))⟩
  have hSK : SdI GK tc CS := sc.fr (funext fun k => k1 102 k (by omega))
  refine go_aload_n (pc' := 15) cx dX6_marked_14 rfl rfl ?_
  refine go_aload_n (pc' := 16) cx dX6_marked_15 rfl rfl ?_
  refine go_getr (pc' := 19) cx 94 fX6_29 dX6_marked_16 kq88 (ltn rfl) (ltn rfl) rfl rfl rfl ?_
  refine go_iconst (pc' := 20) cx 0 dX6_marked_19 rfl rfl ?_
  refine go_iald (pc' := 21) cx (g 94 0) dX6_marked_20 kq94 (ltn rfl) (vpi (k := 0) (a := 1) (ltn rfl) rfl rfl) ((congrArg (GK 94) (cli (k := 0) (a := 1) (ltn rfl) rfl)).trans (hFK 94 0 (by omega))) rfl ?_
  refine go_puti (pc' := 24) cx fX6_32 dX6_marked_21 kq88 (ltn rfl) (ltn rfl) rfl rfl rfl rfl ?_
  refine go_iconst (pc' := 25) cx 0 dX6_marked_24 rfl rfl ?_
  refine go_istore_n (pc' := 26) cx dX6_marked_25 (ltn rfl) [(3, .int 0), (2, .int (g 88 10)), (1, .int xc), (0, .ref (E.2.1 88))] rfl rfl ?_
  refine go_sub [0, 3, 2, 1] [(3, .int 0), (0, .ref (E.2.1 88)), (1, .int xc), (2, .int (g 88 10))] rfl ?_
  have h19 : (up2 GK 88 10 (g 94 0)) 88 19 = nI vn := (up2_n _ _ (Or.inr (by omega))).trans ((hFK 88 19 (by omega)).trans hX.2.2.1)
  refine mark_fill (by omega) cx vn 0 (up2 GK 88 10 (g 94 0)) (by omega) h19 (fun q hq9 => absurd hq9 (Nat.not_lt_zero q)) (fun GI a9 b9 => ?_)
  have hFI : FrW (92 + 9) (up2 GK 88 10 (g 94 0)) GI := fun i q h9 => a9 i q (by omega)
  have hKb : KpS (up2 GK 88 10 (g 94 0)) (up2 GK 88 10 (g 94 0)) := fun k hk => ⟨(up2_n _ _ (Or.inl (by omega))).trans ((hKK k hk).1.trans (((up2_n _ _ (Or.inl (by omega))).trans (hFK 101 k (by omega))).symm)), (up2_n _ _ (Or.inl (by omega))).trans ((hKK k hk).2.trans (((up2_n _ _ (Or.inl (by omega))).trans (hFK 99 k (by omega))).symm))⟩
  have hKI : KpS (up2 GK 88 10 (g 94 0)) GI := hKb.fr (funext fun q => a9 106 q (by omega)) (funext fun q => a9 107 q (by omega))
  have hRI : Req (svM GI) (filS (svM (up2 GK 88 10 (g 94 0))) 9 3 vn) hn vn := reqW (j := 9) (Or.inr (Or.inr rfl)) hFI (fun i k9 q => by rw [filS_r, if_neg (fun q9 => q q9.1)]) (fun k9 h9 => by rw [filS_r, if_pos ⟨rfl, h9⟩]; exact b9 k9 h9)
  have hXb : XM (up2 GK 88 10 (g 94 0)) hn vn ru tc CS := (hX.fj hFK hSK).mk10 (g 94 0)
  have hHI : HdS (svM GI) hn vn := hRI.sy.hds (filS_hd hXb.2.2.2.2.1 (fun q => absurd q (by omega)) vn)
  have hXI : XM GI hn vn ru tc CS := hXb.fw (j := 9) (Or.inr (Or.inr rfl)) hFI ((hSK.fr (up2_rn _ _ _ (by omega))).fr (funext fun q => a9 102 q (by omega))) hHI
  refine go_aload_n (pc' := 48) cx dX6_marked_47 rfl rfl ?_
  refine go_cVIz (pc' := 51) cx (c_X6_courses l E (g := GI) hXI) mX6_courses lX6_421 dX6_marked_48 kq88 (ltn rfl) (ltn rfl) rfl rfl rfl rfl (ltn rfl) (Nat.le_of_ble_eq_true rfl) (Nat.le_of_ble_eq_true rfl) rfl (fun xd GD zd hd => ?_)
  obtain ⟨ed, fd, -, -, sd⟩ := hd
  refine go_istore_n (pc' := 52) cx dX6_marked_51 (ltn rfl) [(3, .int xd), (0, .ref (E.2.1 88)), (1, .int xc), (2, .int (g 88 10))] rfl rfl ?_
  refine go_aload_n (pc' := 53) cx dX6_marked_52 rfl rfl ?_
  refine go_cVV (pc' := 56) cx (c_X6_laysBack l E (g := GD)) mX6_laysBack lX6_429 dX6_marked_53 kq88 (ltn rfl) (ltn rfl) rfl rfl rfl rfl (ltn rfl) (Nat.le_of_ble_eq_true rfl) (Nat.le_of_ble_eq_true rfl) rfl (fun GT hT => ?_)
  obtain ⟨t1, t2⟩ := hT
  refine go_aload_n (pc' := 57) cx dX6_marked_56 rfl rfl ?_
  refine go_iload_n (pc' := 58) cx dX6_marked_57 rfl rfl ?_
  refine go_puti (pc' := 61) cx fX6_32 dX6_marked_58 kq88 (ltn rfl) (ltn rfl) rfl rfl rfl rfl ?_
  refine go_iload_n (pc' := 62) cx dX6_marked_61 rfl rfl ?_
  refine go_iload_n (pc' := 63) cx dX6_marked_62 rfl rfl ?_
  refine go_isub (pc' := 64) cx dX6_marked_63 rfl ?_
  refine go_iret cx rfl dX6_marked_64 ?_
  have hFD : FrJ (up2 GK 88 10 (g 94 0)) GT := FrW.j (w := 101) (Or.inr rfl) (hFI.tr fd.fw) (hKI.fr (fd.c (by omega) (by omega)) (fd.c (by omega) (by omega))) t1 t2
  refine ZIz.mk ⟨?_, ?_, (sd.fr (funext fun k => t1 102 k (by omega))).fr (up2_rn _ _ _ (by omega))⟩
  · rw [ed, ec, hRI.bd hHI (by omega), (markR (hn := hn)).bd (hRI.hds hHI) (by omega), hFK.sv]
    rfl
  · exact mark_back hFD (fun i k q1 q2 q3 => (up2_n _ _ (by omega)).trans (hFK i k (by omega)))

set_option maxHeartbeats 1000000 in
set_option maxRecDepth 20000 in
theorem draw_fill {l : Launch} {E : Ev} {Z : ZT} {o : Option Nat} {p : Program} {e : Env} {s : State} {m : MethodId} {args : Array Value} {below : List Frame} {meth : Method} {c : Code} {z : Int64} {hn vn : Nat} {x1 : Int32} (h0 : 0 < hn) (hn5 : hn ≤ 5) (hv8 : vn ≤ 8) (cx : Cx p s m args meth c E 115 cX6_draws 4 yX6_draws.cls (some .int)) : ∀ (k u : Nat) (G : IG), u + k = vn → G 88 19 = nI vn → G 88 15 = nI hn → (∀ q, q < u → G 99 q = drH x1 hn q) → (∀ (G9 : IG), (∀ i q, ¬ (i = 99 ∧ q < 8) → G9 i q = G i q) → (∀ q, q < vn → G9 99 q = drH x1 hn q) → Go p l e (rmd 49) s m args below meth c E 115 4 Z G9 (RFo o) z 47 [(3, .int (nI vn)), (0, .ref (E.2.1 88)), (1, .int x1), (2, .int (drZ x1 vn))] []) → Go p l e (rmd 49) s m args below meth c E 115 4 Z G (RFo o) z 8 [(3, .int (nI u)), (0, .ref (E.2.1 88)), (1, .int x1), (2, .int (drZ x1 u))] [] := by
  intro k
  induction k with
  | zero =>
    intro u G hk h19 h15 hq kk
    have hu : u = vn := by omega
    subst hu
    refine go_iload_n (pc' := 9) cx dX6_draws_8 rfl rfl ?_
    refine go_aload_n (pc' := 10) cx dX6_draws_9 rfl rfl ?_
    refine go_geti (pc' := 13) cx (nI u) fX6_115 dX6_draws_10 kq88 (ltn rfl) (ltn rfl) rfl h19 rfl ?_
    refine go_icmp_ge (pc' := 16) cx 47 dX6_draws_13 rfl rfl (fun _ => ?_) (fun hh9 => absurd (Int32.le_refl _) hh9)
    exact kk G (fun _ _ _ => rfl) hq
  | succ k ih =>
    intro u G hk h19 h15 hq kk
    refine go_iload_n (pc' := 9) cx dX6_draws_8 rfl rfl ?_
    refine go_aload_n (pc' := 10) cx dX6_draws_9 rfl rfl ?_
    refine go_geti (pc' := 13) cx (nI vn) fX6_115 dX6_draws_10 kq88 (ltn rfl) (ltn rfl) rfl h19 rfl ?_
    refine go_icmp_ge (pc' := 16) cx 47 dX6_draws_13 rfl rfl (fun hh9 => absurd ((nI_leI (a := vn) (b := u) (by omega) (by omega)).mp hh9) (by omega)) (fun _ => ?_)
    refine go_iload_n (pc' := 17) cx dX6_draws_16 rfl rfl ?_
    refine go_ldcw (pc' := 20) cx 1103515245 kX6_444 dX6_draws_17 rfl ?_
    refine go_imul (pc' := 21) cx dX6_draws_20 rfl ?_
    refine go_sipush (pc' := 24) cx 12345 dX6_draws_21 rfl rfl ?_
    refine go_iadd (pc' := 25) cx dX6_draws_24 rfl ?_
    refine go_istore_n (pc' := 26) cx dX6_draws_25 (ltn rfl) [(2, .int (((drZ x1 u) * 1103515245) + 12345)), (3, .int (nI u)), (0, .ref (E.2.1 88)), (1, .int x1)] rfl rfl ?_
    refine go_aload_n (pc' := 27) cx dX6_draws_26 rfl rfl ?_
    refine go_getr (pc' := 30) cx 99 fX6_47 dX6_draws_27 kq88 (ltn rfl) (ltn rfl) rfl rfl rfl ?_
    refine go_iload_n (pc' := 31) cx dX6_draws_30 rfl rfl ?_
    refine go_iload_n (pc' := 32) cx dX6_draws_31 rfl rfl ?_
    refine go_bipush (pc' := 34) cx 9 dX6_draws_32 rfl rfl ?_
    refine go_iushr (pc' := 35) cx dX6_draws_34 rfl ?_
    refine go_aload_n (pc' := 36) cx dX6_draws_35 rfl rfl ?_
    refine go_geti (pc' := 39) cx (nI hn) fX6_112 dX6_draws_36 kq88 (ltn rfl) (ltn rfl) rfl h15 rfl ?_
    refine go_irem (pc' := 40) cx (nI_ne0 h0 (by omega)) dX6_draws_39 rfl ?_
    refine go_iastk (pc' := 41) cx u dX6_draws_40 kq99 (ltn rfl) (vpi (k := u) (a := 8) (by omega) rfl rfl) (cli (k := u) (a := 8) (by omega) rfl) rfl ?_
    refine go_iinc (pc' := 44) cx (nI (u + 1)) dX6_draws_41 rfl (nI_1 u) (ltn rfl) [(3, .int (nI (u + 1))), (2, .int (((drZ x1 u) * 1103515245) + 12345)), (0, .ref (E.2.1 88)), (1, .int x1)] rfl rfl ?_
    refine go_goto cx 8 dX6_draws_44 rfl ?_
    refine go_sub [0, 2, 3, 1] [(3, .int (nI (u + 1))), (0, .ref (E.2.1 88)), (1, .int x1), (2, .int (((drZ x1 u) * 1103515245) + 12345))] rfl ?_
    refine go_sub [0, 1, 2, 3] [(3, .int (nI (u + 1))), (0, .ref (E.2.1 88)), (1, .int x1), (2, .int (drZ x1 (u + 1)))] rfl ?_
    exact ih (u + 1) (up2 G 99 u ((((((drZ x1 u) * 1103515245) + 12345).toUInt32 >>> ((9 : Int32).toUInt32 &&& Int32.toUInt32 31)).toInt32) - (((((drZ x1 u) * 1103515245) + 12345).toUInt32 >>> ((9 : Int32).toUInt32 &&& Int32.toUInt32 31)).toInt32) / (nI hn) * (nI hn))) (by omega) ((up2_n _ _ (Or.inl (by omega))).trans h19) ((up2_n _ _ (Or.inl (by omega))).trans h15) (fun q hq9 => by
      by_cases e : q = u
      · rw [e, up2_s]
        rfl
      · rw [up2_n _ _ (Or.inr e)]
        exact hq q (by omega)) (fun G9 a b => kk G9 (fun i q h9 => (a i q h9).trans (up2_n _ _ (by omega))) b)

set_option maxHeartbeats 1000000 in
set_option maxRecDepth 20000 in
theorem c_X6_draws (l : Launch) (E : Ev) {g : IG} {o : Option Nat} {z : Int64} {hn vn ru tc : Nat} {CS : CSt} (hX : XM g hn vn ru tc CS) (h0 : 0 < hn) (x1 : Int32) : Ct l E 115 yX6_draws cX6_draws 4 (some .int) 49 [.ref (E.2.1 88), .int x1] g (RFo o) z (ZIz (RFo o) (fun x g1 z1 => x = BDs (TMx CS ru) (drS (svM g) x1 hn vn) vn ∧ FrJ g g1 ∧ SdI g1 tc CS)) := by
  refine Ct.of (lv0 := [(0, .ref (E.2.1 88)), (1, .int x1)]) (by decide) (Nat.le_of_ble_eq_true rfl) rfl ?_
  intro p e s m below meth c cx
  have hb := hX.1
  have hS0 := hX.2.2.2.2.2.2.2.2.2.2
  refine go_aload_n (pc' := 1) cx dX6_draws_0 rfl rfl ?_
  refine go_cVV (pc' := 4) cx (c_X6_keeps l E (g := g)) mX6_keeps lX6_426 dX6_draws_1 kq88 (ltn rfl) (ltn rfl) rfl rfl rfl rfl (ltn rfl) (Nat.le_of_ble_eq_true rfl) (Nat.le_of_ble_eq_true rfl) rfl (fun GK hK => ?_)
  obtain ⟨k1, k2⟩ := hK
  refine go_iload_n (pc' := 5) cx dX6_draws_4 rfl rfl ?_
  refine go_istore_n (pc' := 6) cx dX6_draws_5 (ltn rfl) [(2, .int x1), (0, .ref (E.2.1 88)), (1, .int x1)] rfl rfl ?_
  refine go_iconst (pc' := 7) cx 0 dX6_draws_6 rfl rfl ?_
  refine go_istore_n (pc' := 8) cx dX6_draws_7 (ltn rfl) [(3, .int 0), (2, .int x1), (0, .ref (E.2.1 88)), (1, .int x1)] rfl rfl ?_
  refine go_sub [0, 2, 3, 1] [(3, .int 0), (0, .ref (E.2.1 88)), (1, .int x1), (2, .int x1)] rfl ?_
  have hFK : FrJ g GK := fun i k q => k1 i k (by omega)
  refine go_sub [0, 1, 2, 3] [(3, .int (nI 0)), (0, .ref (E.2.1 88)), (1, .int x1), (2, .int (drZ x1 0))] rfl ?_
  refine draw_fill h0 (by omega) (by omega) cx vn 0 GK (by omega) ((k1 88 19 (by omega)).trans hX.2.2.1) ((k1 88 15 (by omega)).trans hX.2.1) (fun q hq9 => absurd hq9 (Nat.not_lt_zero q)) (fun GI a9 b9 => ?_)
  have hFI : FrW (92 + 7) g GI := fun i q h9 => (a9 i q (by omega)).trans (k1 i q (by omega))
  have hKI : KpS g GI := k2.fr (funext fun q => a9 106 q (by omega)) (funext fun q => a9 107 q (by omega))
  have hRI : Req (svM GI) (drS (svM g) x1 hn vn) hn vn := reqW (j := 7) (Or.inl rfl) hFI (fun i k9 q => by rw [drS_r, if_neg (fun q9 => q q9.1)]) (fun k9 h9 => by rw [drS_r, if_pos ⟨rfl, h9⟩]; exact b9 k9 h9)
  have hHI : HdS (svM GI) hn vn := hRI.sy.hds (drS_hd hX.2.2.2.2.1 h0 (by omega) vn)
  have hXI : XM GI hn vn ru tc CS := hX.fw (j := 7) (Or.inl rfl) hFI (hS0.fr (funext fun q => (a9 102 q (by omega)).trans (k1 102 q (by omega)))) hHI
  refine go_aload_n (pc' := 48) cx dX6_draws_47 rfl rfl ?_
  refine go_cVIz (pc' := 51) cx (c_X6_courses l E (g := GI) hXI) mX6_courses lX6_421 dX6_draws_48 kq88 (ltn rfl) (ltn rfl) rfl rfl rfl rfl (ltn rfl) (Nat.le_of_ble_eq_true rfl) (Nat.le_of_ble_eq_true rfl) rfl (fun xd GD zd hd => ?_)
  obtain ⟨ed, fd, -, -, sd⟩ := hd
  refine go_istore_n (pc' := 52) cx dX6_draws_51 (ltn rfl) [(3, .int xd), (0, .ref (E.2.1 88)), (1, .int x1), (2, .int (drZ x1 vn))] rfl rfl ?_
  refine go_aload_n (pc' := 53) cx dX6_draws_52 rfl rfl ?_
  refine go_cVV (pc' := 56) cx (c_X6_laysBack l E (g := GD)) mX6_laysBack lX6_429 dX6_draws_53 kq88 (ltn rfl) (ltn rfl) rfl rfl rfl rfl (ltn rfl) (Nat.le_of_ble_eq_true rfl) (Nat.le_of_ble_eq_true rfl) rfl (fun GT hT => ?_)
  obtain ⟨t1, t2⟩ := hT
  refine go_iload_n (pc' := 57) cx dX6_draws_56 rfl rfl ?_
  refine go_iret cx rfl dX6_draws_57 ?_
  refine ZIz.mk ⟨?_, FrW.j (w := 99) (Or.inl rfl) (hFI.tr fd.fw) (hKI.fr (fd.c (by omega) (by omega)) (fd.c (by omega) (by omega))) t1 t2, sd.fr (funext fun k => t1 102 k (by omega))⟩
  rw [ed, hRI.bd hHI (by omega)]

set_option maxHeartbeats 1000000 in
set_option maxRecDepth 20000 in
theorem c_X6_drawn (l : Launch) (E : Ev) {g : IG} {o : Option Nat} {z : Int64} {hn vn ru tc : Nat} {CS : CSt} (hX : XM g hn vn ru tc CS) (x1 : Int32) : Ct l E 115 yX6_drawn cX6_drawn 2 (some .int) 50 [.ref (E.2.1 88), .int x1] g (RFo o) z (ZIz (RFo o) (fun x g1 z1 => x = drawF (TMx CS ru) (svM g) hn vn x1 ∧ FrJ g g1 ∧ SdI g1 tc CS)) := by
  refine Ct.of (lv0 := [(0, .ref (E.2.1 88)), (1, .int x1)]) (by decide) (Nat.le_of_ble_eq_true rfl) rfl ?_
  intro p e s m below meth c cx
  have hb := hX.1
  have hS0 := hX.2.2.2.2.2.2.2.2.2.2
  refine go_aload_n (pc' := 1) cx dX6_drawn_0 rfl rfl ?_
  refine go_geti (pc' := 4) cx (nI hn) fX6_112 dX6_drawn_1 kq88 (ltn rfl) (ltn rfl) rfl hX.2.1 rfl ?_
  refine go_if_ne (pc' := 7) cx 11 dX6_drawn_4 rfl rfl (fun c4 => ?_) (fun c4 => ?_)
  · refine go_aload_n (pc' := 12) cx dX6_drawn_11 rfl rfl ?_
    refine go_iload_n (pc' := 13) cx dX6_drawn_12 rfl rfl ?_
    refine go_cVIz (pc' := 16) cx (c_X6_draws l E (g := g) hX (by
      rcases Nat.eq_zero_or_pos hn with q | q
      · exact absurd (by rw [q]; rfl) c4
      · exact q) x1) mX6_draws lX6_445 dX6_drawn_13 kq88 (ltn rfl) (ltn rfl) rfl rfl rfl rfl (ltn rfl) (Nat.le_of_ble_eq_true rfl) (Nat.le_of_ble_eq_true rfl) rfl (fun xw GW zw hw => ?_)
    refine go_iret cx rfl dX6_drawn_16 ?_
    exact ZIz.mk ⟨by
      rw [hw.1]
      unfold drawF
      rw [if_neg (fun q => c4 (by rw [q]; rfl))], hw.2.1, hw.2.2⟩
  · refine go_iconst (pc' := 8) cx (-1) dX6_drawn_7 rfl rfl ?_
    refine go_goto cx 16 dX6_drawn_8 rfl ?_
    refine go_iret cx rfl dX6_drawn_16 ?_
    exact ZIz.mk ⟨by
      unfold drawF
      rw [if_pos ((nI_eq (b := 0) (by omega) (by omega)).mp c4)], FrJ.rf, hS0⟩
