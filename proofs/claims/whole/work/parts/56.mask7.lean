/-! THE REFERENCE: what a sheet shows -/
def shM (g : IG) (t : Nat) : Int32 × Nat × (Nat → Int32) := (if g 111 t = 0 then -1 else 0, clI (g 113 t), fun k => g 114 (40 * t + k))
def ShMX (g : IG) : Prop := ∀ t, t < 4 → ¬ g 111 t = 0 → ∃ sz, sz ≤ 40 ∧ g 113 t = nI sz
theorem pictX_ok {M : TM} {a : Sv} {vn t pl sz : Nat} {sh : Nat → Int32 × Nat × (Nat → Int32)} (ht : t < 4) (hpl : pl < 4) (h2 : (sh t).2.1 = sz) : pictX M a vn sh (nI t) (nI pl) = pictF M a vn (sh t).2.2 (sh t).1 sz pl := by
  unfold pictX
  rw [if_neg (show ¬ (inI 4 (nI t) = 0 ∨ inI 4 (nI pl) = 0) from fun q => q.elim (inI_1' (k := 4) ht (by omega)) (inI_1' (k := 4) hpl (by omega))), clI_n (k := t) (by omega), clI_n (k := pl) (by omega), h2]
theorem shM_n {g : IG} {t sz : Nat} (h : g 113 t = nI sz) (hsz : sz ≤ 40) : (shM g t).2.1 = sz := by
  show clI (g 113 t) = sz
  rw [h, clI_n (by omega)]
theorem shM_0 {g : IG} {t : Nat} (h : g 111 t = 0) : (shM g t).1 = -1 := if_pos h
theorem shM_1 {g : IG} {t : Nat} (h : ¬ g 111 t = 0) : ¬ (shM g t).1 = -1 := by
  rw [show (shM g t).1 = 0 from if_neg h]
  decide

set_option maxHeartbeats 1000000 in
set_option maxRecDepth 20000 in
theorem unl_loop {l : Launch} {E : Ev} {Z : ZT} {o : Option Nat} {p : Program} {e : Env} {s : State} {m : MethodId} {args : Array Value} {below : List Frame} {meth : Method} {c : Code} {G : IG} {z : Int64} {t pl sz : Nat} (ht : t < 4) (hpl : pl < 4) (hsz : sz ≤ 8) (h113 : G 113 t = nI sz) (cx : Cx p s m args meth c E 115 cX6_unlikeAt 4 yX6_unlikeAt.cls (some .int)) : ∀ (k u : Nat), u + k = sz → Z (some (.int (foF (fun k9 => G 114 (40 * t + k9)) (fun v9 => G 104 (4 * v9 + pl)) u k))) G (RFo o) z → Go p l e (rmd 49) s m args below meth c E 115 4 Z G (RFo o) z 7 [(3, .int (nI u)), (0, .ref (E.2.1 88)), (1, .int (nI t)), (2, .int (nI pl))] [] := by
  intro k
  induction k with
  | zero =>
    intro u hk hZ
    have hu : u = sz := by omega
    subst hu
    refine go_iload_n (pc' := 8) cx dX6_unlikeAt_7 rfl rfl ?_
    refine go_aload_n (pc' := 9) cx dX6_unlikeAt_8 rfl rfl ?_
    refine go_getr (pc' := 12) cx 113 fX6_93 dX6_unlikeAt_9 kq88 (ltn rfl) (ltn rfl) rfl rfl rfl ?_
    refine go_iload_n (pc' := 13) cx dX6_unlikeAt_12 rfl rfl ?_
    refine go_iald (pc' := 14) cx (nI u) dX6_unlikeAt_13 kq113 (ltn rfl) (vpi (k := t) (a := 4) ht rfl rfl) ((congrArg (G 113) (cli (k := t) (a := 4) ht rfl)).trans h113) rfl ?_
    refine go_icmp_ge (pc' := 17) cx 49 dX6_unlikeAt_14 rfl rfl (fun _ => ?_) (fun hh9 => absurd (Int32.le_refl _) hh9)
    refine go_iconst (pc' := 50) cx (-1) dX6_unlikeAt_49 rfl rfl ?_
    refine go_iret cx rfl dX6_unlikeAt_50 ?_
    exact hZ
  | succ k ih =>
    intro u hk hZ
    refine go_iload_n (pc' := 8) cx dX6_unlikeAt_7 rfl rfl ?_
    refine go_aload_n (pc' := 9) cx dX6_unlikeAt_8 rfl rfl ?_
    refine go_getr (pc' := 12) cx 113 fX6_93 dX6_unlikeAt_9 kq88 (ltn rfl) (ltn rfl) rfl rfl rfl ?_
    refine go_iload_n (pc' := 13) cx dX6_unlikeAt_12 rfl rfl ?_
    refine go_iald (pc' := 14) cx (nI sz) dX6_unlikeAt_13 kq113 (ltn rfl) (vpi (k := t) (a := 4) ht rfl rfl) ((congrArg (G 113) (cli (k := t) (a := 4) ht rfl)).trans h113) rfl ?_
    refine go_icmp_ge (pc' := 17) cx 49 dX6_unlikeAt_14 rfl rfl (fun hh9 => absurd ((nI_leI (a := sz) (b := u) (by omega) (by omega)).mp hh9) (by omega)) (fun _ => ?_)
    refine go_aload_n (pc' := 18) cx dX6_unlikeAt_17 rfl rfl ?_
    refine go_getr (pc' := 21) cx 104 fX6_62 dX6_unlikeAt_18 kq88 (ltn rfl) (ltn rfl) rfl rfl rfl ?_
    refine go_iconst (pc' := 22) cx 4 dX6_unlikeAt_21 rfl rfl ?_
    refine go_iload_n (pc' := 23) cx dX6_unlikeAt_22 rfl rfl ?_
    refine go_imul (pc' := 24) cx dX6_unlikeAt_23 rfl ?_
    refine go_val (w := .int (nI (4 * u))) (congrArg Value.int (pk_mul 4 u)) ?_
    refine go_iload_n (pc' := 25) cx dX6_unlikeAt_24 rfl rfl ?_
    refine go_iadd (pc' := 26) cx dX6_unlikeAt_25 rfl ?_
    refine go_val (w := .int (nI ((4 * u) + pl))) (congrArg Value.int (nI_add (4 * u) pl)) ?_
    refine go_iald (pc' := 27) cx (G 104 ((4 * u) + pl)) dX6_unlikeAt_26 kq104 (ltn rfl) (vpi (k := ((4 * u) + pl)) (a := 32) (by omega) rfl rfl) (congrArg (G 104) (cli (k := ((4 * u) + pl)) (a := 32) (by omega) rfl)) rfl ?_
    refine go_aload_n (pc' := 28) cx dX6_unlikeAt_27 rfl rfl ?_
    refine go_getr (pc' := 31) cx 114 fX6_96 dX6_unlikeAt_28 kq88 (ltn rfl) (ltn rfl) rfl rfl rfl ?_
    refine go_bipush (pc' := 33) cx 40 dX6_unlikeAt_31 rfl rfl ?_
    refine go_iload_n (pc' := 34) cx dX6_unlikeAt_33 rfl rfl ?_
    refine go_imul (pc' := 35) cx dX6_unlikeAt_34 rfl ?_
    refine go_val (w := .int (nI (40 * t))) (congrArg Value.int (pk_mul 40 t)) ?_
    refine go_iload_n (pc' := 36) cx dX6_unlikeAt_35 rfl rfl ?_
    refine go_iadd (pc' := 37) cx dX6_unlikeAt_36 rfl ?_
    refine go_val (w := .int (nI ((40 * t) + u))) (congrArg Value.int (nI_add (40 * t) u)) ?_
    refine go_iald (pc' := 38) cx (G 114 ((40 * t) + u)) dX6_unlikeAt_37 kq114 (ltn rfl) (vpi (k := ((40 * t) + u)) (a := 160) (by omega) rfl rfl) (congrArg (G 114) (cli (k := ((40 * t) + u)) (a := 160) (by omega) rfl)) rfl ?_
    refine go_icmp_eq (pc' := 41) cx 43 dX6_unlikeAt_38 rfl rfl (fun c38 => ?_) (fun c38 => ?_)
    · refine go_iinc (pc' := 46) cx (nI (u + 1)) dX6_unlikeAt_43 rfl (nI_1 u) (ltn rfl) [(3, .int (nI (u + 1))), (0, .ref (E.2.1 88)), (1, .int (nI t)), (2, .int (nI pl))] rfl rfl ?_
      refine go_goto cx 7 dX6_unlikeAt_46 rfl ?_
      rw [show foF (fun k9 => G 114 (40 * t + k9)) (fun v9 => G 104 (4 * v9 + pl)) u (k + 1) = foF (fun k9 => G 114 (40 * t + k9)) (fun v9 => G 104 (4 * v9 + pl)) (u + 1) k from if_pos c38.symm] at hZ
      exact ih (u + 1) (by omega) hZ
    · refine go_iload_n (pc' := 42) cx dX6_unlikeAt_41 rfl rfl ?_
      refine go_iret cx rfl dX6_unlikeAt_42 ?_
      rw [show foF (fun k9 => G 114 (40 * t + k9)) (fun v9 => G 104 (4 * v9 + pl)) u (k + 1) = nI u from if_neg (fun q => c38 q.symm)] at hZ
      exact hZ

set_option maxHeartbeats 1000000 in
set_option maxRecDepth 20000 in
theorem c_X6_unlikeAt (l : Launch) (E : Ev) {g : IG} {o : Option Nat} {z : Int64} {hn vn ru tc : Nat} {CS : CSt} (hX : XM g hn vn ru tc CS) {t pl sz : Nat} (ht : t < 4) (hpl : pl < 4) (hsz : sz ≤ vn) (h113 : g 113 t = nI sz) : Ct l E 115 yX6_unlikeAt cX6_unlikeAt 4 (some .int) 49 [.ref (E.2.1 88), .int (nI t), .int (nI pl)] g (RFo o) z (ZIz (RFo o) (fun x g1 z1 => x = (fotF (TMx CS ru) (svM g) (fun k9 => g 114 (40 * t + k9)) pl sz) ∧ FrK g g1 ∧ SdI g1 tc CS)) := by
  refine Ct.of (lv0 := [(0, .ref (E.2.1 88)), (1, .int (nI t)), (2, .int (nI pl))]) (by decide) (Nat.le_of_ble_eq_true rfl) rfl ?_
  intro p e s m below meth c cx
  have hb := hX.1
  have hS0 := hX.2.2.2.2.2.2.2.2.2.2
  refine go_aload_n (pc' := 1) cx dX6_unlikeAt_0 rfl rfl ?_
  refine go_cVIz (pc' := 4) cx (c_X6_courses l E (g := g) hX) mX6_courses lX6_421 dX6_unlikeAt_1 kq88 (ltn rfl) (ltn rfl) rfl rfl rfl rfl (ltn rfl) (Nat.le_of_ble_eq_true rfl) (Nat.le_of_ble_eq_true rfl) rfl (fun xc GC zc hc => ?_)
  obtain ⟨ec, fc, cw, y39, sc⟩ := hc
  refine go_pop (pc' := 5) cx rfl dX6_unlikeAt_4 rfl ?_
  refine go_iconst (pc' := 6) cx 0 dX6_unlikeAt_5 rfl rfl ?_
  refine go_istore_n (pc' := 7) cx dX6_unlikeAt_6 (ltn rfl) [(3, .int 0), (0, .ref (E.2.1 88)), (1, .int (nI t)), (2, .int (nI pl))] rfl rfl ?_
  refine unl_loop ht hpl (by omega) ((fc 113 t (by omega)).trans h113) cx sz 0 (by omega) (ZIz.mk ⟨?_, fc, sc⟩)
  unfold fotF
  rw [show GC 114 = g 114 from fc.c (by omega) (by omega)]
  exact foF_c sz 0 (fun j _ hj => ⟨rfl, cw.at (by omega) hpl⟩)

set_option maxHeartbeats 1000000 in
set_option maxRecDepth 20000 in
theorem c_X6_isSheet (l : Launch) (E : Ev) {g : IG} {o : Option Nat} {z : Int64} (x1 : Int32) : Ct l E 115 yX6_isSheet cX6_isSheet 1 (some .boolean) 2 [.int x1] g (RFo o) z (Zi (RFo o) z (inI 4 x1) g) := by
  refine Ct.of (lv0 := [(0, .int x1)]) (by decide) (Nat.le_of_ble_eq_true rfl) rfl ?_
  intro p e s m below meth c cx
  refine go_iload_n (pc' := 1) cx dX6_isSheet_0 rfl rfl ?_
  refine go_i2l (pc' := 2) cx dX6_isSheet_1 rfl ?_
  refine go_lconst (pc' := 3) cx 0 dX6_isSheet_2 rfl rfl ?_
  refine go_val (w := .long (((0 : Int32)).toInt64)) (congrArg Value.long (by decide)) ?_
  refine go_ldc2 (pc' := 6) cx 3 kX6_106 dX6_isSheet_3 rfl ?_
  refine go_val (w := .long (((3 : Int32)).toInt64)) (congrArg Value.long (by decide)) ?_
  refine go_cSi (pc' := 9) cx (c_X6_in l E (g := g) x1 (0 : Int32) (3 : Int32)) mX6_in lX6_108 dX6_isSheet_6 rfl rfl rfl (ltn rfl) (Nat.le_of_ble_eq_true rfl) (Nat.le_of_ble_eq_true rfl) rfl ?_
  refine go_zret cx (inX_z _ _ _) rfl dX6_isSheet_9 ?_
  exact Zi.mk (inX_4 x1) rfl

set_option maxHeartbeats 1000000 in
set_option maxRecDepth 20000 in
theorem c_X6_pictures (l : Launch) (E : Ev) {g : IG} {o : Option Nat} {z : Int64} {hn vn ru tc : Nat} {CS : CSt} (hX : XM g hn vn ru tc CS) (hSh : ShMX g) (x1 x2 : Int32) : Ct l E 115 yX6_pictures cX6_pictures 3 (some .int) 50 [.ref (E.2.1 88), .int x1, .int x2] g (RFo o) z (ZIz (RFo o) (fun x g1 z1 => x = pictX (TMx CS ru) (svM g) vn (shM g) x1 x2 ∧ FrK g g1 ∧ SdI g1 tc CS)) := by
  refine Ct.of (lv0 := [(0, .ref (E.2.1 88)), (1, .int x1), (2, .int x2)]) (by decide) (Nat.le_of_ble_eq_true rfl) rfl ?_
  intro p e s m below meth c cx
  have hb := hX.1
  have hS0 := hX.2.2.2.2.2.2.2.2.2.2
  refine go_iload_n (pc' := 1) cx dX6_pictures_0 rfl rfl ?_
  refine go_cSi (pc' := 4) cx (c_X6_isSheet l E (g := g) x1) mX6_isSheet lX6_435 dX6_pictures_1 rfl rfl rfl (ltn rfl) (Nat.le_of_ble_eq_true rfl) (Nat.le_of_ble_eq_true rfl) rfl ?_
  refine go_if_eq (pc' := 7) cx 14 dX6_pictures_4 rfl rfl (fun c4 => ?_) (fun c4 => ?_)
  · refine go_bipush (pc' := 16) cx (-2) dX6_pictures_14 rfl rfl ?_
    refine go_iret cx rfl dX6_pictures_16 ?_
    exact ZIz.mk ⟨by
      unfold pictX
      rw [if_pos (Or.inl c4)], FrK.rf, hS0⟩
  · refine go_iload_n (pc' := 8) cx dX6_pictures_7 rfl rfl ?_
    refine go_cSi (pc' := 11) cx (c_X6_isPlace l E (g := g) x2) mX6_isPlace lX6_118 dX6_pictures_8 rfl rfl rfl (ltn rfl) (Nat.le_of_ble_eq_true rfl) (Nat.le_of_ble_eq_true rfl) rfl ?_
    refine go_if_ne (pc' := 14) cx 17 dX6_pictures_11 rfl rfl (fun c11 => ?_) (fun c11 => ?_)
    · obtain ⟨t, ht, et⟩ := in_ok (k := 4) (by omega) c4
      subst et
      have clt := clI_n (k := t) (by omega)
      obtain ⟨pl, hpl, epl⟩ := in_ok (k := 4) (by omega) c11
      subst epl
      have clpl := clI_n (k := pl) (by omega)
      refine go_aload_n (pc' := 18) cx dX6_pictures_17 rfl rfl ?_
      refine go_getr (pc' := 21) cx 111 fX6_86 dX6_pictures_18 kq88 (ltn rfl) (ltn rfl) rfl rfl rfl ?_
      refine go_iload_n (pc' := 22) cx dX6_pictures_21 rfl rfl ?_
      refine go_zald (pc' := 23) cx (g 111 t) dX6_pictures_22 kq111 (ltn rfl) (vpi (k := t) (a := 4) ht rfl rfl) (congrArg (g 111) (cli (k := t) (a := 4) ht rfl)) rfl ?_
      refine go_if_ne (pc' := 26) cx 29 dX6_pictures_23 rfl rfl (fun c23 => ?_) (fun c23 => ?_)
      · obtain ⟨sz, hsz, h113⟩ := hSh t ht c23
        refine go_aload_n (pc' := 30) cx dX6_pictures_29 rfl rfl ?_
        refine go_getr (pc' := 33) cx 113 fX6_93 dX6_pictures_30 kq88 (ltn rfl) (ltn rfl) rfl rfl rfl ?_
        refine go_iload_n (pc' := 34) cx dX6_pictures_33 rfl rfl ?_
        refine go_iald (pc' := 35) cx (nI sz) dX6_pictures_34 kq113 (ltn rfl) (vpi (k := t) (a := 4) ht rfl rfl) ((congrArg (g 113) (cli (k := t) (a := 4) ht rfl)).trans h113) rfl ?_
        refine go_aload_n (pc' := 36) cx dX6_pictures_35 rfl rfl ?_
        refine go_geti (pc' := 39) cx (nI vn) fX6_115 dX6_pictures_36 kq88 (ltn rfl) (ltn rfl) rfl hX.2.2.1 rfl ?_
        refine go_icmp_le (pc' := 42) cx 47 dX6_pictures_39 rfl rfl (fun c39 => ?_) (fun c39 => ?_)
        · have c39n := Int32.not_lt.mpr c39
          refine go_aload_n (pc' := 48) cx dX6_pictures_47 rfl rfl ?_
          refine go_iload_n (pc' := 49) cx dX6_pictures_48 rfl rfl ?_
          refine go_iload_n (pc' := 50) cx dX6_pictures_49 rfl rfl ?_
          refine go_cVIz (pc' := 53) cx (c_X6_unlikeAt l E (g := g) hX (sz := sz) ht hpl ((nI_leI (by omega) (by omega)).mp c39) h113) mX6_unlikeAt lX6_438 dX6_pictures_50 kq88 (ltn rfl) (ltn rfl) rfl rfl rfl rfl (ltn rfl) (Nat.le_of_ble_eq_true rfl) (Nat.le_of_ble_eq_true rfl) rfl (fun xu GU zu hu => ?_)
          obtain ⟨eu, fu, su⟩ := hu
          refine go_iret cx rfl dX6_pictures_53 ?_
          exact ZIz.mk ⟨by
            rw [eu, pictX_ok ht hpl (shM_n h113 hsz)]
            unfold pictF prF
            rw [if_neg (shM_1 c23), if_pos ((nI_leI (by omega) (by omega)).mp c39), if_pos rfl]
            rfl, fu, su⟩
        · have c39n := Int32.not_le.mp c39
          refine go_bipush (pc' := 44) cx (-2) dX6_pictures_42 rfl rfl ?_
          refine go_goto cx 53 dX6_pictures_44 rfl ?_
          refine go_iret cx rfl dX6_pictures_53 ?_
          exact ZIz.mk ⟨by
            rw [pictX_ok ht hpl (shM_n h113 hsz)]
            unfold pictF prF
            rw [if_neg (shM_1 c23), if_neg (fun q => c39 ((nI_leI (by omega) (by omega)).mpr q))]
            rfl, FrK.rf, hS0⟩
      · refine go_bipush (pc' := 28) cx (-11) dX6_pictures_26 rfl rfl ?_
        refine go_iret cx rfl dX6_pictures_28 ?_
        exact ZIz.mk ⟨by
          rw [pictX_ok (sh := shM g) ht hpl rfl]
          unfold pictF prF
          rw [if_pos (shM_0 c23)]
          rfl, FrK.rf, hS0⟩
    · refine go_bipush (pc' := 16) cx (-2) dX6_pictures_14 rfl rfl ?_
      refine go_iret cx rfl dX6_pictures_16 ?_
      exact ZIz.mk ⟨by
        unfold pictX
        rw [if_pos (Or.inr c11)], FrK.rf, hS0⟩
