/-! THE REFERENCE: what a sheet shows -/

set_option maxHeartbeats 1000000 in
set_option maxRecDepth 20000 in
theorem unl_loop {l : Launch} {E : Ev} {Z : ZT} {o : Option Nat} {p : Program} {e : Env} {s : State} {m : MethodId} {args : Array Value} {below : List Frame} {meth : Method} {c : Code} {G : IG} {z : Int64} {t pl sz : Nat} (ht : t < 4) (hpl : pl < 4) (hsz : sz ≤ 8) (h113 : G 113 t = nI sz) (cx : Cx p s m args meth c E 115 cX6_unlikeAt 4 yX6_unlikeAt.cls (some .int)) : ∀ (k u : Nat), u + k = sz → Z (some (.int (foF (fun k9 => G 114 (40 * t + k9)) (fun v9 => G 104 (4 * v9 + pl)) u k))) G (RFo o) z → Go p l e (rmd 49) s m args below meth c E 115 4 Z G (RFo o) z 7 [(3, .int (nI u)), (0, .ref (E.2.1 88)), (1, .int (nI t)), (2, .int (nI pl))] [] := by
  intro k
  induction k with
  | zero =>
    intro u hk hZ
    have hu : u = sz := by omega
    subst hu
    refine go_iload_n (pc' := 8) cx dX6_unlikeAt_7 rfl rfl ?_
    refine go_aload_n (pc' := 9) cx dX6_unlikeAt_8 rfl rfl ?_
    refine go_getr (pc' := 12) cx 113 fX6_93 dX6_unlikeAt_9 kq88 (ltn rfl) (ltn rfl) rfl rfl rfl ?_
    refine go_iload_n (pc' := 13) cx dX6_unlikeAt_12 rfl rfl ?_
    refine go_iald (pc' := 14) cx (nI u) dX6_unlikeAt_13 kq113 (ltn rfl) (vpi (k := t) (a := 4) ht rfl rfl) ((congrArg (G 113) (cli (k := t) (a := 4) ht rfl)).trans h113) rfl ?_
    refine go_icmp_ge (pc' := 17) cx 49 dX6_unlikeAt_14 rfl rfl (fun _ => ?_) (fun hh9 => absurd (Int32.le_refl _) hh9)
    refine go_iconst (pc' := 50) cx (-1) dX6_unlikeAt_49 rfl rfl ?_
    refine go_iret cx rfl dX6_unlikeAt_50 ?_
    exact hZ
  | succ k ih =>
    intro u hk hZ
    refine go_iload_n (pc' := 8) cx dX6_unlikeAt_7 rfl rfl ?_
    refine go_aload_n (pc' := 9) cx dX6_unlikeAt_8 rfl rfl ?_
    refine go_getr (pc' := 12) cx 113 fX6_93 dX6_unlikeAt_9 kq88 (ltn rfl) (ltn rfl) rfl rfl rfl ?_
    refine go_iload_n (pc' := 13) cx dX6_unlikeAt_12 rfl rfl ?_
    refine go_iald (pc' := 14) cx (nI sz) dX6_unlikeAt_13 kq113 (ltn rfl) (vpi (k := t) (a := 4) ht rfl rfl) ((congrArg (G 113) (cli (k := t) (a := 4) ht rfl)).trans h113) rfl ?_
    refine go_icmp_ge (pc' := 17) cx 49 dX6_unlikeAt_14 rfl rfl (fun hh9 => absurd ((nI_leI (a := sz) (b := u) (by omega) (by omega)).mp hh9) (by omega)) (fun _ => ?_)
    refine go_aload_n (pc' := 18) cx dX6_unlikeAt_17 rfl rfl ?_
    refine go_getr (pc' := 21) cx 104 fX6_62 dX6_unlikeAt_18 kq88 (ltn rfl) (ltn rfl) rfl rfl rfl ?_
    refine go_iconst (pc' := 22) cx 4 dX6_unlikeAt_21 rfl rfl ?_
    refine go_iload_n (pc' := 23) cx dX6_unlikeAt_22 rfl rfl ?_
    refine go_imul (pc' := 24) cx dX6_unlikeAt_23 rfl ?_
    refine go_val (w := .int (nI (4 * u))) (congrArg Value.int (pk_mul 4 u)) ?_
    refine go_iload_n (pc' := 25) cx dX6_unlikeAt_24 rfl rfl ?_
    refine go_iadd (pc' := 26) cx dX6_unlikeAt_25 rfl ?_
    refine go_val (w := .int (nI ((4 * u) + pl))) (congrArg Value.int (nI_add (4 * u) pl)) ?_
    refine go_iald (pc' := 27) cx (G 104 ((4 * u) + pl)) dX6_unlikeAt_26 kq104 (ltn rfl) (vpi (k := ((4 * u) + pl)) (a := 32) (by omega) rfl rfl) (congrArg (G 104) (cli (k := ((4 * u) + pl)) (a := 32) (by omega) rfl)) rfl ?_
    refine go_aload_n (pc' := 28) cx dX6_unlikeAt_27 rfl rfl ?_
    refine go_getr (pc' := 31) cx 114 fX6_96 dX6_unlikeAt_28 kq88 (ltn rfl) (ltn rfl) rfl rfl rfl ?_
    refine go_bipush (pc' := 33) cx 40 dX6_unlikeAt_31 rfl rfl ?_
    refine go_iload_n (pc' := 34) cx dX6_unlikeAt_33 rfl rfl ?_
    refine go_imul (pc' := 35) cx dX6_unlikeAt_34 rfl ?_
    refine go_val (w := .int (nI (40 * t))) (congrArg Value.int (pk_mul 40 t)) ?_
    refine go_iload_n (pc' := 36) cx dX6_unlikeAt_35 rfl rfl ?_
    refine go_iadd (pc' := 37) cx dX6_unlikeAt_36 rfl ?_
    refine go_val (w := .int (nI ((40 * t) + u))) (congrArg Value.int (nI_add (40 * t) u)) ?_
    refine go_iald (pc' := 38) cx (G 114 ((40 * t) + u)) dX6_unlikeAt_37 kq114 (ltn rfl) (vpi (k := ((40 * t) + u)) (a := 160) (by omega) rfl rfl) (congrArg (G 114) (cli (k := ((40 * t) + u)) (a := 160) (by omega) rfl)) rfl ?_
    refine go_icmp_eq (pc' := 41) cx 43 dX6_unlikeAt_38 rfl rfl (fun c38 => ?_) (fun c38 => ?_)
    · refine go_iinc (pc' := 46) cx (nI (u + 1)) dX6_unlikeAt_43 rfl (nI_1 u) (ltn rfl) [(3, .int (nI (u + 1))), (0, .ref (E.2.1 88)), (1, .int (nI t)), (2, .int (nI pl))] rfl rfl ?_
      refine go_goto cx 7 dX6_unlikeAt_46 rfl ?_
      rw [show foF (fun k9 => G 114 (40 * t + k9)) (fun v9 => G 104 (4 * v9 + pl)) u (k + 1) = foF (fun k9 => G 114 (40 * t + k9)) (fun v9 => G 104 (4 * v9 + pl)) (u + 1) k from if_pos c38.symm] at hZ
      exact ih (u + 1) (by omega) hZ
    · refine go_iload_n (pc' := 42) cx dX6_unlikeAt_41 rfl rfl ?_
      refine go_iret cx rfl dX6_unlikeAt_42 ?_
      rw [show foF (fun k9 => G 114 (40 * t + k9)) (fun v9 => G 104 (4 * v9 + pl)) u (k + 1) = nI u from if_neg (fun q => c38 q.symm)] at hZ
      exact hZ

set_option maxHeartbeats 1000000 in
set_option maxRecDepth 20000 in
theorem c_X6_unlikeAt (l : Launch) (E : Ev) {g : IG} {o : Option Nat} {z : Int64} {hn vn ru tc : Nat} {CS : CSt} (hX : XM g hn vn ru tc CS) {t pl sz : Nat} (ht : t < 4) (hpl : pl < 4) (hsz : sz ≤ vn) (h113 : g 113 t = nI sz) : Ct l E 115 yX6_unlikeAt cX6_unlikeAt 4 (some .int) 49 [.ref (E.2.1 88), .int (nI t), .int (nI pl)] g (RFo o) z (ZIz (RFo o) (fun x g1 z1 => x = (fotF (TMx CS ru) (svM g) (fun k9 => g 114 (40 * t + k9)) pl sz) ∧ FrK g g1 ∧ SdI g1 tc CS)) := by
  refine Ct.of (lv0 := [(0, .ref (E.2.1 88)), (1, .int (nI t)), (2, .int (nI pl))]) (by decide) (Nat.le_of_ble_eq_true rfl) rfl ?_
  intro p e s m below meth c cx
  have hb := hX.1
  have hS0 := hX.2.2.2.2.2.2.2.2.2.2
  refine go_aload_n (pc' := 1) cx dX6_unlikeAt_0 rfl rfl ?_
  refine go_cVIz (pc' := 4) cx (c_X6_courses l E (g := g) hX) mX6_courses lX6_421 dX6_unlikeAt_1 kq88 (ltn rfl) (ltn rfl) rfl rfl rfl rfl (ltn rfl) (Nat.le_of_ble_eq_true rfl) (Nat.le_of_ble_eq_true rfl) rfl (fun xc GC zc hc => ?_)
  obtain ⟨ec, fc, cw, y39, sc⟩ := hc
  refine go_pop (pc' := 5) cx rfl dX6_unlikeAt_4 rfl ?_
  refine go_iconst (pc' := 6) cx 0 dX6_unlikeAt_5 rfl rfl ?_
  refine go_istore_n (pc' := 7) cx dX6_unlikeAt_6 (ltn rfl) [(3, .int 0), (0, .ref (E.2.1 88)), (1, .int (nI t)), (2, .int (nI pl))] rfl rfl ?_
  refine unl_loop ht hpl (by omega) ((fc 113 t (by omega)).trans h113) cx sz 0 (by omega) (ZIz.mk ⟨?_, fc, sc⟩)
  unfold fotF
  rw [show GC 114 = g 114 from fc.c (by omega) (by omega)]
  exact foF_c sz 0 (fun j _ hj => ⟨rfl, cw.at (by omega) hpl⟩)

set_option maxHeartbeats 1000000 in
set_option maxRecDepth 20000 in
theorem c_X6_isSheet (l : Launch) (E : Ev) {g : IG} {o : Option Nat} {z : Int64} (x1 : Int32) : Ct l E 115 yX6_isSheet cX6_isSheet 1 (some .boolean) 2 [.int x1] g (RFo o) z (Zi (RFo o) z (inI 4 x1) g) := by
  refine Ct.of (lv0 := [(0, .int x1)]) (by decide) (Nat.le_of_ble_eq_true rfl) rfl ?_
  intro p e s m below meth c cx
  refine go_iload_n (pc' := 1) cx dX6_isSheet_0 rfl rfl ?_
  refine go_i2l (pc' := 2) cx dX6_isSheet_1 rfl ?_
  refine go_lconst (pc' := 3) cx 0 dX6_isSheet_2 rfl rfl ?_
  refine go_val (w := .long (((0 : Int32)).toInt64)) (congrArg Value.long (by decide)) ?_
  refine go_ldc2 (pc' := 6) cx 3 kX6_106 dX6_isSheet_3 rfl ?_
  refine go_val (w := .long (((3 : Int32)).toInt64)) (congrArg Value.long (by decide)) ?_
  refine go_cSi (pc' := 9) cx (c_X6_in l E (g := g) x1 (0 : Int32) (3 : Int32)) mX6_in lX6_108 dX6_isSheet_6 rfl rfl rfl (ltn rfl) (Nat.le_of_ble_eq_true rfl) (Nat.le_of_ble_eq_true rfl) rfl ?_
  refine go_zret cx (inX_z _ _ _) rfl dX6_isSheet_9 ?_
  exact Zi.mk (inX_4 x1) rfl
