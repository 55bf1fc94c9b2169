/-! THE SECOND OBJECT; an object is made -/
set_option maxHeartbeats 4000000 in
set_option maxRecDepth 20000 in
theorem law_a {A : Nat → Prop} {p : Program} {l : Launch} {e : Env} {s : State} {m : MethodId} {below : List Frame} {meth : Method} {c : Code} {E : Ev} {b L : Nat} {xs : Nat → Int32} {rt0 : Option FieldType} {co so : Nat} {Eo : Ev} {k0 t : Nat} {g : IG} {r : RG} (cxo : CxA A p s m #[Value.ref b] meth c Eo cL_law 14 RL rt0) (cx : CxA A p s m #[Value.ref b] meth c E cL_law 14 RL rt0) (hA : ∀ q, Ad E 88 q → A q) (hX : va_X b L xs s s.heap) (hbl : b < s.heap.size) (hbA : ¬ A b) (hL : L ≤ 3072) (hcs : co + 88 ≤ room_1.cells ∧ so + 1972 ≤ room_1.slots) (hs0 : ∀ (H : Heap) (locs : List Loc), Wd Eo (Ad Eo 88) k0 g r 0 H → va_S A s.heap H locs → H.size ≤ s.heap.size + co → E.2.1 0 = H.size) (hcz : s.heap.size + co = E.2.1 0) (hE : Sq E) (hKx : Kx E s) (ht : t < 4) (kk : ∀ (len nn : Nat) (g1 : IG), (50 ≤ len ∧ len < 150) → (1 ≤ nn ∧ nn ≤ 8) → CG g1 → GoA A p l e room_1 s m #[Value.ref b] below meth c E 88 14 (co + 88) (so + 1972) (lw_Z below #[Value.ref b] s) g1 (RFo (some 5)) 0 43 [(5, .int (nI 0)), (4, .ref (E.2.1 0)), (3, .int (nI nn)), (2, .int (nI len)), (1, .int (nI t)), (0, .ref b)] []) : GoA A p l e room_1 s m #[Value.ref b] below meth c Eo k0 14 co so (lw_Z below #[Value.ref b] s) g r 0 7 [(1, .int (nI t)), (0, .ref b)] [] := by
  have hcs0 : co ≤ room_1.cells ∧ so ≤ room_1.slots := ⟨by omega, by omega⟩
  refine ga_bipush (pc' := 9) cxo (nI 50) dL_law_7 rfl rfl ?_
  refine ga_aload_n (pc' := 10) cxo dL_law_9 rfl rfl ?_
  refine ga_iload_n (pc' := 11) cxo dL_law_10 rfl rfl ?_
  refine ga_bipush (pc' := 13) cxo (nI 100) dL_law_11 rfl rfl ?_
  refine ga_callX (pc' := 16) cxo hX hbl hbA (c_some l Eo (xs := xs) (kn := t) (N := 100) hL (by omega) (by omega) (by omega)) mL_some lL_13 dL_law_13 rfl rfl ⟨(Nat.le_of_ble_eq_true rfl), (Nat.le_of_ble_eq_true rfl)⟩ (Nat.le_of_ble_eq_true rfl) rfl hcs0 (fun x9 hx9 => ?_)
  obtain ⟨jl, hjl, rfl⟩ := hx9
  refine ga_iadd (pc' := 17) cxo dL_law_16 rfl ?_
  refine ga_val (w := .int (nI (50 + jl))) (congrArg Value.int (nI_add 50 jl)) ?_
  refine ga_istore_n (pc' := 18) cxo dL_law_17 (ltn rfl) [(2, .int (nI (50 + jl))), (1, .int (nI t)), (0, .ref b)] rfl rfl ?_
  refine ga_iconst (pc' := 19) cxo (nI 1) dL_law_18 rfl rfl ?_
  refine ga_aload_n (pc' := 20) cxo dL_law_19 rfl rfl ?_
  refine ga_bipush (pc' := 22) cxo (nI 10) dL_law_20 rfl rfl ?_
  refine ga_iload_n (pc' := 23) cxo dL_law_22 rfl rfl ?_
  refine ga_iadd (pc' := 24) cxo dL_law_23 rfl ?_
  refine ga_val (w := .int (nI (10 + t))) (congrArg Value.int (nI_add 10 t)) ?_
  refine ga_bipush (pc' := 26) cxo (nI 8) dL_law_24 rfl rfl ?_
  refine ga_callX (pc' := 29) cxo hX hbl hbA (c_some l Eo (xs := xs) (kn := (10 + t)) (N := 8) hL (by omega) (by omega) (by omega)) mL_some lL_13 dL_law_26 rfl rfl ⟨(Nat.le_of_ble_eq_true rfl), (Nat.le_of_ble_eq_true rfl)⟩ (Nat.le_of_ble_eq_true rfl) rfl hcs0 (fun x9 hx9 => ?_)
  obtain ⟨jn, hjn, rfl⟩ := hx9
  refine ga_iadd (pc' := 30) cxo dL_law_29 rfl ?_
  refine ga_val (w := .int (nI (1 + jn))) (congrArg Value.int (nI_add 1 jn)) ?_
  refine ga_istore_n (pc' := 31) cxo dL_law_30 (ltn rfl) [(3, .int (nI (1 + jn))), (2, .int (nI (50 + jl))), (1, .int (nI t)), (0, .ref b)] rfl rfl ?_
  refine ga_new0 (E' := E) (pc' := 34) cx hs0 nwL_17 kq0 (ltn rfl) dL_law_31 (by omega) (by omega) rfl ?_
  refine ga_dup (pc' := 35) cx rfl dL_law_34 rfl ?_
  refine ga_ctor (pc' := 38) cx hA hE hKx (by omega) (fun h9 => absurd h9 (by decide)) (n_X5 l E hE) mi5 lL_19 dL_law_35 rfl rfl ⟨(Nat.le_of_ble_eq_true rfl), (Nat.le_of_ble_eq_true rfl)⟩ (Nat.le_of_ble_eq_true rfl) rfl ⟨by omega, by omega⟩ rfl rfl rfl (fun g1 r1 h1 => ?_)
  obtain ⟨hCG, hz1, hn1, hR1⟩ := h1
  refine ga_r (r' := RFo (some 5)) (rf_new hn1 hR1) ?_
  refine ga_w (k1 := 88) (c1 := co + 88) (s1 := so + 1972) rfl (by omega) (by omega) ?_
  have hB := Bs.new hCG
  refine ga_astore (pc' := 40) cx dL_law_38 (ltn rfl) [(4, .ref (E.2.1 0)), (3, .int (nI (1 + jn))), (2, .int (nI (50 + jl))), (1, .int (nI t)), (0, .ref b)] rfl rfl ?_
  refine ga_iconst (pc' := 41) cx (nI 0) dL_law_40 rfl rfl ?_
  refine ga_istore (pc' := 43) cx dL_law_41 (ltn rfl) [(5, .int (nI 0)), (4, .ref (E.2.1 0)), (3, .int (nI (1 + jn))), (2, .int (nI (50 + jl))), (1, .int (nI t)), (0, .ref b)] rfl rfl ?_
  exact kk (50 + jl) (1 + jn) g1 ⟨by omega, by omega⟩ ⟨by omega, by omega⟩ hCG
set_option maxHeartbeats 4000000 in
set_option maxRecDepth 20000 in
theorem law_k {A : Nat → Prop} {p : Program} {l : Launch} {e : Env} {s : State} {m : MethodId} {below : List Frame} {meth : Method} {c : Code} {E : Ev} {b L : Nat} {xs : Nat → Int32} {rt0 : Option FieldType} {co so : Nat} {Eo : Ev} {k0 t wish w : Nat} {g : IG} {r : RG} (cx : CxA A p s m #[Value.ref b] meth c E cL_law 14 RL rt0) (hA : ∀ q, Ad E 88 q → A q) (hX : va_X b L xs s s.heap) (hbl : b < s.heap.size) (hbA : ¬ A b) (hL : L ≤ 3072) (hcs : co + 88 ≤ room_1.cells ∧ so + 1972 ≤ room_1.slots) (hs0 : ∀ (H : Heap) (locs : List Loc), Wd Eo (Ad Eo 88) k0 g r 0 H → va_S A s.heap H locs → H.size ≤ s.heap.size + co → E.2.1 0 = H.size) (hcz : s.heap.size + co = E.2.1 0) (hE : Sq E) (hKx : Kx E s) (hw : w ≤ 20) (hwi : wish ≤ 199) (kk : ∀ g1 : IG, Bs g1 2 2 → F2 (svC g1 37) w wish → svC g1 37 9 0 = 0 → GoA A p l e room_1 s m #[Value.ref b] below meth c E 88 14 (co + 88) (so + 1972) (lw_Z below #[Value.ref b] s) g1 (RFo (some 5)) 0 535 [(12, .int (nI 0)), (11, .int (nI (min (40 + (2 * w)) (((40 + (2 * w)) + wish) / 2)))), (10, .int (nI (min (40 + (2 * w)) wish))), (9, .int (nI (40 + (2 * w)))), (8, .ref (E.2.1 0)), (7, .int (nI w)), (5, .int (nI wish)), (1, .int (nI t)), (0, .ref b)] []) : GoA A p l e room_1 s m #[Value.ref b] below meth c Eo k0 14 co so (lw_Z below #[Value.ref b] s) g r 0 440 [(7, .int (nI w)), (5, .int (nI wish)), (1, .int (nI t)), (0, .ref b)] [] := by
  refine ga_new0 (E' := E) (pc' := 443) cx hs0 nwL_17 kq0 (ltn rfl) dL_law_440 (by omega) (by omega) rfl ?_
  refine ga_dup (pc' := 444) cx rfl dL_law_443 rfl ?_
  refine ga_ctor (pc' := 447) cx hA hE hKx (by omega) (fun h9 => absurd h9 (by decide)) (n_X5 l E hE) mi5 lL_19 dL_law_444 rfl rfl ⟨(Nat.le_of_ble_eq_true rfl), (Nat.le_of_ble_eq_true rfl)⟩ (Nat.le_of_ble_eq_true rfl) rfl ⟨by omega, by omega⟩ rfl rfl rfl (fun g1 r1 h1 => ?_)
  obtain ⟨hCG, hz1, hn1, hR1⟩ := h1
  refine ga_r (r' := RFo (some 5)) (rf_new hn1 hR1) ?_
  refine ga_w (k1 := 88) (c1 := co + 88) (s1 := so + 1972) rfl (by omega) (by omega) ?_
  have hB := Bs.new hCG
  refine ga_astore (pc' := 449) cx dL_law_447 (ltn rfl) [(8, .ref (E.2.1 0)), (7, .int (nI w)), (5, .int (nI wish)), (1, .int (nI t)), (0, .ref b)] rfl rfl ?_
  refine ga_aload (pc' := 451) cx dL_law_449 rfl rfl ?_
  refine ga_iconst (pc' := 452) cx (nI 0) dL_law_451 rfl rfl ?_
  refine ga_iconst (pc' := 453) cx (nI 0) dL_law_452 rfl rfl ?_
  refine ga_iload (pc' := 455) cx dL_law_453 rfl rfl ?_
  refine ga_cVi (pc' := 458) cx hA (Nat.le_refl 88) (k_hand l E (ki := 0) (num := 0) (sh := 0) (wi := wish) hB (by omega) (by omega) (by omega) (by omega) hwi rfl) mX5_hand lL_24 dL_law_455 kq0 (ltn rfl) (ltn rfl) rfl rfl rfl ⟨(Nat.le_of_ble_eq_true rfl), (Nat.le_of_ble_eq_true rfl)⟩ (Nat.le_of_ble_eq_true rfl) rfl hcs ?_
  replace hB := hB.hand (ki := 0) (num := 0) (sh := 0) (wi := wish) (by omega)
  refine ga_pop (pc' := 459) cx rfl dL_law_458 rfl ?_
  refine ga_aload (pc' := 461) cx dL_law_459 rfl rfl ?_
  refine ga_iconst (pc' := 462) cx (nI 2) dL_law_461 rfl rfl ?_
  refine ga_iconst (pc' := 463) cx (nI 0) dL_law_462 rfl rfl ?_
  refine ga_iload (pc' := 465) cx dL_law_463 rfl rfl ?_
  refine ga_cVi (pc' := 468) cx hA (Nat.le_refl 88) (k_hand l E (ki := 2) (num := 0) (sh := 0) (wi := wish) hB (by omega) (by omega) (by omega) (by omega) hwi rfl) mX5_hand lL_24 dL_law_465 kq0 (ltn rfl) (ltn rfl) rfl rfl rfl ⟨(Nat.le_of_ble_eq_true rfl), (Nat.le_of_ble_eq_true rfl)⟩ (Nat.le_of_ble_eq_true rfl) rfl hcs ?_
  replace hB := hB.hand (ki := 2) (num := 0) (sh := 0) (wi := wish) (by omega)
  refine ga_pop (pc' := 469) cx rfl dL_law_468 rfl ?_
  refine ga_aload (pc' := 471) cx dL_law_469 rfl rfl ?_
  refine ga_iconst (pc' := 472) cx (nI 0) dL_law_471 rfl rfl ?_
  refine ga_bipush (pc' := 474) cx (nI 10) dL_law_472 rfl rfl ?_
  refine ga_iload (pc' := 476) cx dL_law_474 rfl rfl ?_
  refine ga_imul (pc' := 477) cx dL_law_476 rfl ?_
  refine ga_val (w := .int (nI (10 * w))) (congrArg Value.int (pk_mul 10 w)) ?_
  refine ga_cVi (pc' := 480) cx hA (Nat.le_refl 88) (k_visit l E (h := 0) (w := w) hB (by omega) hw (by omega) rfl) mX5_visit lL_27 dL_law_477 kq0 (ltn rfl) (ltn rfl) rfl rfl rfl ⟨(Nat.le_of_ble_eq_true rfl), (Nat.le_of_ble_eq_true rfl)⟩ (Nat.le_of_ble_eq_true rfl) rfl hcs ?_
  replace hB := hB.visit (h := 0) (w := w) (by omega) (by omega)
  refine ga_pop (pc' := 481) cx rfl dL_law_480 rfl ?_
  refine ga_aload (pc' := 483) cx dL_law_481 rfl rfl ?_
  refine ga_iconst (pc' := 484) cx (nI 1) dL_law_483 rfl rfl ?_
  refine ga_bipush (pc' := 486) cx (nI 10) dL_law_484 rfl rfl ?_
  refine ga_iload (pc' := 488) cx dL_law_486 rfl rfl ?_
  refine ga_imul (pc' := 489) cx dL_law_488 rfl ?_
  refine ga_val (w := .int (nI (10 * w))) (congrArg Value.int (pk_mul 10 w)) ?_
  refine ga_cVi (pc' := 492) cx hA (Nat.le_refl 88) (k_visit l E (h := 1) (w := w) hB (by omega) hw (by omega) rfl) mX5_visit lL_27 dL_law_489 kq0 (ltn rfl) (ltn rfl) rfl rfl rfl ⟨(Nat.le_of_ble_eq_true rfl), (Nat.le_of_ble_eq_true rfl)⟩ (Nat.le_of_ble_eq_true rfl) rfl hcs ?_
  replace hB := hB.visit (h := 1) (w := w) (by omega) (by omega)
  refine ga_pop (pc' := 493) cx rfl dL_law_492 rfl ?_
  obtain ⟨hf, h9⟩ := F2.start hCG hw hwi
  refine ga_bipush (pc' := 495) cx (nI 40) dL_law_493 rfl rfl ?_
  refine ga_iconst (pc' := 496) cx (nI 2) dL_law_495 rfl rfl ?_
  refine ga_iload (pc' := 498) cx dL_law_496 rfl rfl ?_
  refine ga_imul (pc' := 499) cx dL_law_498 rfl ?_
  refine ga_val (w := .int (nI (2 * w))) (congrArg Value.int (pk_mul 2 w)) ?_
  refine ga_iadd (pc' := 500) cx dL_law_499 rfl ?_
  refine ga_val (w := .int (nI (40 + (2 * w)))) (congrArg Value.int (nI_add 40 (2 * w))) ?_
  refine ga_istore (pc' := 502) cx dL_law_500 (ltn rfl) [(9, .int (nI (40 + (2 * w)))), (8, .ref (E.2.1 0)), (7, .int (nI w)), (5, .int (nI wish)), (1, .int (nI t)), (0, .ref b)] rfl rfl ?_
  refine ga_iload (pc' := 504) cx dL_law_502 rfl rfl ?_
  refine ga_iload (pc' := 506) cx dL_law_504 rfl rfl ?_
  refine ga_mmin (pc' := 509) cx lL_51 dL_law_506 ⟨(Nat.le_of_ble_eq_true rfl), (Nat.le_of_ble_eq_true rfl)⟩ hcs (Nat.le_of_ble_eq_true rfl) rfl ?_
  refine ga_val (w := .int (nI (min (40 + (2 * w)) wish))) (congrArg Value.int (mn_n (by omega) (by omega))) ?_
  refine ga_istore (pc' := 511) cx dL_law_509 (ltn rfl) [(10, .int (nI (min (40 + (2 * w)) wish))), (9, .int (nI (40 + (2 * w)))), (8, .ref (E.2.1 0)), (7, .int (nI w)), (5, .int (nI wish)), (1, .int (nI t)), (0, .ref b)] rfl rfl ?_
  refine ga_iload (pc' := 513) cx dL_law_511 rfl rfl ?_
  refine ga_iload (pc' := 515) cx dL_law_513 rfl rfl ?_
  have K : GoA A p l e room_1 s m #[Value.ref b] below meth c E 88 14 (co + 88) (so + 1972) (lw_Z below #[Value.ref b] s) (nvG (nvG (hdG (hdG g1 0 0 0 0 wish) 1 2 0 0 wish) 0 0 w) 1 1 w) (RFo (some 5)) 0 530 [(10, .int (nI (min (40 + (2 * w)) wish))), (9, .int (nI (40 + (2 * w)))), (8, .ref (E.2.1 0)), (7, .int (nI w)), (5, .int (nI wish)), (1, .int (nI t)), (0, .ref b)] [.int (nI (min (40 + (2 * w)) (((40 + (2 * w)) + wish) / 2)))] := by
    refine ga_istore (pc' := 532) cx dL_law_530 (ltn rfl) [(11, .int (nI (min (40 + (2 * w)) (((40 + (2 * w)) + wish) / 2)))), (10, .int (nI (min (40 + (2 * w)) wish))), (9, .int (nI (40 + (2 * w)))), (8, .ref (E.2.1 0)), (7, .int (nI w)), (5, .int (nI wish)), (1, .int (nI t)), (0, .ref b)] rfl rfl ?_
    refine ga_iconst (pc' := 533) cx (nI 0) dL_law_532 rfl rfl ?_
    refine ga_istore (pc' := 535) cx dL_law_533 (ltn rfl) [(12, .int (nI 0)), (11, .int (nI (min (40 + (2 * w)) (((40 + (2 * w)) + wish) / 2)))), (10, .int (nI (min (40 + (2 * w)) wish))), (9, .int (nI (40 + (2 * w)))), (8, .ref (E.2.1 0)), (7, .int (nI w)), (5, .int (nI wish)), (1, .int (nI t)), (0, .ref b)] rfl rfl ?_
    exact kk _ hB hf h9
  refine ga_icmp_ge (pc' := 518) cx 528 dL_law_515 rfl rfl (fun hh => ?_) (fun hh => ?_)
  · have q1 := (nI_leI (a := (40 + (2 * w))) (b := wish) (by omega) (by omega)).mp hh
    refine ga_iload (pc' := 530) cx dL_law_528 rfl rfl ?_
    refine ga_val (w := .int (nI (min (40 + (2 * w)) (((40 + (2 * w)) + wish) / 2)))) (congrArg Value.int (congrArg nI (by omega))) ?_
    exact K
  · have q1 : ¬ (40 + (2 * w)) ≤ wish := fun q => hh (nI_le q (by omega))
    refine ga_iload (pc' := 520) cx dL_law_518 rfl rfl ?_
    refine ga_iload (pc' := 522) cx dL_law_520 rfl rfl ?_
    refine ga_iadd (pc' := 523) cx dL_law_522 rfl ?_
    refine ga_val (w := .int (nI ((40 + (2 * w)) + wish))) (congrArg Value.int (nI_add (40 + (2 * w)) wish)) ?_
    refine ga_iconst (pc' := 524) cx (nI 2) dL_law_523 rfl rfl ?_
    refine ga_idiv (pc' := 525) cx (by decide) dL_law_524 rfl ?_
    refine ga_val (w := .int (nI (min (40 + (2 * w)) (((40 + (2 * w)) + wish) / 2)))) (congrArg Value.int ((pk_div (by omega) (by omega) (by omega)).trans (congrArg nI (by omega)))) ?_
    refine ga_goto cx 530 dL_law_525 rfl ?_
    exact K
set_option maxHeartbeats 4000000 in
set_option maxRecDepth 20000 in
theorem law_l {A : Nat → Prop} {p : Program} {l : Launch} {e : Env} {s : State} {m : MethodId} {below : List Frame} {meth : Method} {c : Code} {E : Ev} {b L : Nat} {xs : Nat → Int32} {rt0 : Option FieldType} {cells slots : Nat} (cx : CxA A p s m #[Value.ref b] meth c E cL_law 14 RL rt0) (hA : ∀ q, Ad E 88 q → A q) (hX : va_X b L xs s s.heap) (hbl : b < s.heap.size) (hbA : ¬ A b) (hL : L ≤ 3072) (hcs : cells ≤ room_1.cells ∧ slots ≤ room_1.slots) {t wish w : Nat} (kk : ∀ g' : IG, Bs g' 2 2 → F2 (svC g' 37) w wish → GoA A p l e room_1 s m #[Value.ref b] below meth c E 88 14 cells slots (lw_Z below #[Value.ref b] s) g' (RFo (some 5)) 0 575 [(10, .int (nI (min (40 + (2 * w)) wish))), (9, .int (nI (40 + (2 * w)))), (8, .ref (E.2.1 0)), (7, .int (nI w)), (5, .int (nI wish)), (1, .int (nI t)), (0, .ref b)] []) : ∀ (n pI : Nat) (g : IG), pI + n = 4 → Bs g 2 2 → F2 (svC g 37) w wish ∧ svC g 37 9 0 = 0 → GoA A p l e room_1 s m #[Value.ref b] below meth c E 88 14 cells slots (lw_Z below #[Value.ref b] s) g (RFo (some 5)) 0 535 [(12, .int (nI pI)), (11, .int (nI (min (40 + (2 * w)) (((40 + (2 * w)) + wish) / 2)))), (10, .int (nI (min (40 + (2 * w)) wish))), (9, .int (nI (40 + (2 * w)))), (8, .ref (E.2.1 0)), (7, .int (nI w)), (5, .int (nI wish)), (1, .int (nI t)), (0, .ref b)] []
  | 0, pI, g, hp4, hB, hf => by
    obtain rfl : pI = 4 := by omega
    refine ga_iload (pc' := 537) cx dL_law_535 rfl rfl ?_
    refine ga_iconst (pc' := 538) cx (nI 4) dL_law_537 rfl rfl ?_
    refine ga_icmp_ge (pc' := 541) cx 575 dL_law_538 rfl rfl (fun _ => ?_) (fun hh => absurd (nI_le (a := 4) (b := 4) (by omega) (by omega)) hh)
    refine ga_lvp [2, 3, 4, 5, 6, 7, 8] (lv' := [(10, .int (nI (min (40 + (2 * w)) wish))), (9, .int (nI (40 + (2 * w)))), (8, .ref (E.2.1 0)), (7, .int (nI w)), (5, .int (nI wish)), (1, .int (nI t)), (0, .ref b)]) rfl ?_
    exact kk g hB hf.1
  | n + 1, pI, g, hp4, hB, hf => by
    have hp : pI < 4 := by omega
    refine ga_iload (pc' := 537) cx dL_law_535 rfl rfl ?_
    refine ga_iconst (pc' := 538) cx (nI 4) dL_law_537 rfl rfl ?_
    refine ga_icmp_ge (pc' := 541) cx 575 dL_law_538 rfl rfl (fun hh => absurd hh (nI_ge (a := pI) (b := 4) (by omega) (by omega))) (fun _ => ?_)
    refine ga_aload (pc' := 543) cx dL_law_541 rfl rfl ?_
    refine ga_iconst (pc' := 544) cx (nI 0) dL_law_543 rfl rfl ?_
    refine ga_iload (pc' := 546) cx dL_law_544 rfl rfl ?_
    refine ga_cVI (pc' := 549) cx hA (Nat.le_refl 88) (c_X5_once l E hB.1 (nI 0) (nI pI)) mX5_once lL_56 dL_law_546 kq0 (ltn rfl) (ltn rfl) rfl rfl rfl ⟨(Nat.le_of_ble_eq_true rfl), (Nat.le_of_ble_eq_true rfl)⟩ (Nat.le_of_ble_eq_true rfl) rfl hcs (fun x1 g1 h1 => ?_)
    obtain ⟨ex1, hFx1⟩ := h1
    have vx1 : x1 = nI (min (40 + (2 * w)) wish) := ex1.trans (hf.1.once0 hp hf.2)
    replace ⟨hB, hf⟩ := hB.qp (P := fun a => F2 a w wish ∧ a 9 0 = 0) hf hFx1
    refine ga_iload (pc' := 551) cx dL_law_549 rfl rfl ?_
    refine ga_icmp_ne (pc' := 554) cx 567 dL_law_551 rfl rfl (fun hh => absurd vx1 hh) (fun _ => ?_)
    refine ga_aload (pc' := 556) cx dL_law_554 rfl rfl ?_
    refine ga_iconst (pc' := 557) cx (nI 1) dL_law_556 rfl rfl ?_
    refine ga_iload (pc' := 559) cx dL_law_557 rfl rfl ?_
    refine ga_cVI (pc' := 562) cx hA (Nat.le_refl 88) (c_X5_once l E hB.1 (nI 1) (nI pI)) mX5_once lL_56 dL_law_559 kq0 (ltn rfl) (ltn rfl) rfl rfl rfl ⟨(Nat.le_of_ble_eq_true rfl), (Nat.le_of_ble_eq_true rfl)⟩ (Nat.le_of_ble_eq_true rfl) rfl hcs (fun x2 g2 h2 => ?_)
    obtain ⟨ex2, hFx2⟩ := h2
    have vx2 : x2 = nI (min (40 + (2 * w)) (((40 + (2 * w)) + wish) / 2)) := ex2.trans (hf.1.once1 hp)
    replace ⟨hB, hf⟩ := hB.qp (P := fun a => F2 a w wish ∧ a 9 0 = 0) hf hFx2
    refine ga_iload (pc' := 564) cx dL_law_562 rfl rfl ?_
    refine ga_icmp_eq (pc' := 567) cx 569 dL_law_564 rfl rfl (fun _ => ?_) (fun hh => absurd vx2 hh)
    refine ga_iinc (pc' := 572) cx (nI (pI + 1)) dL_law_569 rfl (nI_add pI 1) (ltn rfl) [(12, .int (nI (pI + 1))), (11, .int (nI (min (40 + (2 * w)) (((40 + (2 * w)) + wish) / 2)))), (10, .int (nI (min (40 + (2 * w)) wish))), (9, .int (nI (40 + (2 * w)))), (8, .ref (E.2.1 0)), (7, .int (nI w)), (5, .int (nI wish)), (1, .int (nI t)), (0, .ref b)] rfl rfl ?_
    refine ga_goto cx 535 dL_law_572 rfl ?_
    exact law_l cx hA hX hbl hbA hL hcs kk n (pI + 1) g2 (by omega) hB hf
set_option maxHeartbeats 4000000 in
set_option maxRecDepth 20000 in
theorem law_m {A : Nat → Prop} {p : Program} {l : Launch} {e : Env} {s : State} {m : MethodId} {below : List Frame} {meth : Method} {c : Code} {E : Ev} {b L : Nat} {xs : Nat → Int32} {rt0 : Option FieldType} {cells slots : Nat} (cx : CxA A p s m #[Value.ref b] meth c E cL_law 14 RL rt0) (hA : ∀ q, Ad E 88 q → A q) (hX : va_X b L xs s s.heap) (hbl : b < s.heap.size) (hbA : ¬ A b) (hL : L ≤ 3072) (hcs : cells ≤ room_1.cells ∧ slots ≤ room_1.slots) {t wish w : Nat} (ht : t < 4) {g : IG} (kk : ∀ want : Nat, want ≤ 40 → GoA A p l e room_1 s m #[Value.ref b] below meth c E 88 14 cells slots (lw_Z below #[Value.ref b] s) g (RFo (some 5)) 0 590 [(13, .int (nI 0)), (12, .int (nI want)), (10, .int (nI (min (40 + (2 * w)) wish))), (9, .int (nI (40 + (2 * w)))), (8, .ref (E.2.1 0)), (7, .int (nI w)), (5, .int (nI wish)), (1, .int (nI t)), (0, .ref b)] []) : GoA A p l e room_1 s m #[Value.ref b] below meth c E 88 14 cells slots (lw_Z below #[Value.ref b] s) g (RFo (some 5)) 0 575 [(10, .int (nI (min (40 + (2 * w)) wish))), (9, .int (nI (40 + (2 * w)))), (8, .ref (E.2.1 0)), (7, .int (nI w)), (5, .int (nI wish)), (1, .int (nI t)), (0, .ref b)] [] := by
  refine ga_aload_n (pc' := 576) cx dL_law_575 rfl rfl ?_
  refine ga_bipush (pc' := 578) cx (nI 60) dL_law_576 rfl rfl ?_
  refine ga_iload_n (pc' := 579) cx dL_law_578 rfl rfl ?_
  refine ga_iadd (pc' := 580) cx dL_law_579 rfl ?_
  refine ga_val (w := .int (nI (60 + t))) (congrArg Value.int (nI_add 60 t)) ?_
  refine ga_bipush (pc' := 582) cx (nI 41) dL_law_580 rfl rfl ?_
  refine ga_callX (pc' := 585) cx hX hbl hbA (c_some l E (xs := xs) (kn := (60 + t)) (N := 41) hL (by omega) (by omega) (by omega)) mL_some lL_13 dL_law_582 rfl rfl ⟨(Nat.le_of_ble_eq_true rfl), (Nat.le_of_ble_eq_true rfl)⟩ (Nat.le_of_ble_eq_true rfl) rfl hcs (fun x9 hx9 => ?_)
  obtain ⟨want, hwant, rfl⟩ := hx9
  refine ga_istore (pc' := 587) cx dL_law_585 (ltn rfl) [(12, .int (nI want)), (10, .int (nI (min (40 + (2 * w)) wish))), (9, .int (nI (40 + (2 * w)))), (8, .ref (E.2.1 0)), (7, .int (nI w)), (5, .int (nI wish)), (1, .int (nI t)), (0, .ref b)] rfl rfl ?_
  refine ga_iconst (pc' := 588) cx (nI 0) dL_law_587 rfl rfl ?_
  refine ga_istore (pc' := 590) cx dL_law_588 (ltn rfl) [(13, .int (nI 0)), (12, .int (nI want)), (10, .int (nI (min (40 + (2 * w)) wish))), (9, .int (nI (40 + (2 * w)))), (8, .ref (E.2.1 0)), (7, .int (nI w)), (5, .int (nI wish)), (1, .int (nI t)), (0, .ref b)] rfl rfl ?_
  exact kk want (by omega)
set_option maxHeartbeats 4000000 in
set_option maxRecDepth 20000 in
theorem law_n {A : Nat → Prop} {p : Program} {l : Launch} {e : Env} {s : State} {m : MethodId} {below : List Frame} {meth : Method} {c : Code} {E : Ev} {b L : Nat} {xs : Nat → Int32} {rt0 : Option FieldType} {cells slots : Nat} (cx : CxA A p s m #[Value.ref b] meth c E cL_law 14 RL rt0) (hA : ∀ q, Ad E 88 q → A q) (hX : va_X b L xs s s.heap) (hbl : b < s.heap.size) (hbA : ¬ A b) (hL : L ≤ 3072) (hcs : cells ≤ room_1.cells ∧ slots ≤ room_1.slots) {t wish w want : Nat} (hwa : want ≤ 40) (kk : ∀ g' : IG, Bs g' 2 2 → F2 (svC g' 37) w wish ∧ (∀ j, j < 4 → svC g' 37 2 j = nI want) → GoA A p l e room_1 s m #[Value.ref b] below meth c E 88 14 cells slots (lw_Z below #[Value.ref b] s) g' (RFo (some 5)) 0 613 [(12, .int (nI want)), (10, .int (nI (min (40 + (2 * w)) wish))), (9, .int (nI (40 + (2 * w)))), (8, .ref (E.2.1 0)), (7, .int (nI w)), (5, .int (nI wish)), (1, .int (nI t)), (0, .ref b)] []) : ∀ (n pI : Nat) (g : IG), pI + n = 4 → Bs g 2 2 → F2 (svC g 37) w wish ∧ (∀ j, j < pI → svC g 37 2 j = nI want) → GoA A p l e room_1 s m #[Value.ref b] below meth c E 88 14 cells slots (lw_Z below #[Value.ref b] s) g (RFo (some 5)) 0 590 [(13, .int (nI pI)), (12, .int (nI want)), (10, .int (nI (min (40 + (2 * w)) wish))), (9, .int (nI (40 + (2 * w)))), (8, .ref (E.2.1 0)), (7, .int (nI w)), (5, .int (nI wish)), (1, .int (nI t)), (0, .ref b)] []
  | 0, pI, g, hp4, hB, hf => by
    obtain rfl : pI = 4 := by omega
    refine ga_iload (pc' := 592) cx dL_law_590 rfl rfl ?_
    refine ga_iconst (pc' := 593) cx (nI 4) dL_law_592 rfl rfl ?_
    refine ga_icmp_ge (pc' := 596) cx 613 dL_law_593 rfl rfl (fun _ => ?_) (fun hh => absurd (nI_le (a := 4) (b := 4) (by omega) (by omega)) hh)
    refine ga_lvp [1, 2, 3, 4, 5, 6, 7, 8] (lv' := [(12, .int (nI want)), (10, .int (nI (min (40 + (2 * w)) wish))), (9, .int (nI (40 + (2 * w)))), (8, .ref (E.2.1 0)), (7, .int (nI w)), (5, .int (nI wish)), (1, .int (nI t)), (0, .ref b)]) rfl ?_
    exact kk g hB hf
  | n + 1, pI, g, hp4, hB, hf => by
    refine ga_iload (pc' := 592) cx dL_law_590 rfl rfl ?_
    refine ga_iconst (pc' := 593) cx (nI 4) dL_law_592 rfl rfl ?_
    refine ga_icmp_ge (pc' := 596) cx 613 dL_law_593 rfl rfl (fun hh => absurd hh (nI_ge (a := pI) (b := 4) (by omega) (by omega))) (fun _ => ?_)
    refine ga_aload (pc' := 598) cx dL_law_596 rfl rfl ?_
    refine ga_iconst (pc' := 599) cx (nI 2) dL_law_598 rfl rfl ?_
    refine ga_iload (pc' := 601) cx dL_law_599 rfl rfl ?_
    refine ga_iload (pc' := 603) cx dL_law_601 rfl rfl ?_
    refine ga_cVI (pc' := 606) cx hA (Nat.le_refl 88) (k_setp l E (w := 2) (q := pI) (x := want) hB (by omega) (by omega) (by omega)) mX5_set lL_20 dL_law_603 kq0 (ltn rfl) (ltn rfl) rfl rfl rfl ⟨(Nat.le_of_ble_eq_true rfl), (Nat.le_of_ble_eq_true rfl)⟩ (Nat.le_of_ble_eq_true rfl) rfl hcs (fun x1 g1 h1 => ?_)
    obtain rfl := h1
    obtain ⟨hB2, e2⟩ := hB.set (w := 2) (k := pI) (v := nI want) (by omega) (by omega)
    have e3 : svC (up2 g (39 + 2) pI (nI want)) 37 = up2 (svC g 37) 2 pI (nI want) := e2
    have hf2 : F2 (svC (up2 g (39 + 2) pI (nI want)) 37) w wish ∧ (∀ j, j < pI + 1 → svC (up2 g (39 + 2) pI (nI want)) 37 2 j = nI want) := by
      rw [e3]
      refine ⟨hf.1.up (Or.inl rfl), fun j hj => ?_⟩
      by_cases q : j = pI
      · rw [q, up2_s]
      · rw [up2_n _ _ (Or.inr q)]
        exact hf.2 j (by omega)
    refine ga_pop (pc' := 607) cx rfl dL_law_606 rfl ?_
    refine ga_iinc (pc' := 610) cx (nI (pI + 1)) dL_law_607 rfl (nI_add pI 1) (ltn rfl) [(13, .int (nI (pI + 1))), (12, .int (nI want)), (10, .int (nI (min (40 + (2 * w)) wish))), (9, .int (nI (40 + (2 * w)))), (8, .ref (E.2.1 0)), (7, .int (nI w)), (5, .int (nI wish)), (1, .int (nI t)), (0, .ref b)] rfl rfl ?_
    refine ga_goto cx 590 dL_law_610 rfl ?_
    exact law_n cx hA hX hbl hbA hL hcs hwa kk n (pI + 1) _ (by omega) hB2 hf2
set_option maxHeartbeats 4000000 in
set_option maxRecDepth 20000 in
theorem law_o {A : Nat → Prop} {p : Program} {l : Launch} {e : Env} {s : State} {m : MethodId} {below : List Frame} {meth : Method} {c : Code} {E : Ev} {b L : Nat} {xs : Nat → Int32} {rt0 : Option FieldType} {cells slots : Nat} (cx : CxA A p s m #[Value.ref b] meth c E cL_law 14 RL rt0) (hA : ∀ q, Ad E 88 q → A q) (hX : va_X b L xs s s.heap) (hbl : b < s.heap.size) (hbA : ¬ A b) (hL : L ≤ 3072) (hcs : cells ≤ room_1.cells ∧ slots ≤ room_1.slots) {t wish w want : Nat} (hwa : want ≤ 40) {g : IG} (hB : Bs g 2 2) (hf : F2 (svC g 37) w wish ∧ (∀ j, j < 4 → svC g 37 2 j = nI want)) (kk : ∀ g' : IG, GoA A p l e room_1 s m #[Value.ref b] below meth c E 88 14 cells slots (lw_Z below #[Value.ref b] s) g' (RFo (some 5)) 0 2 [(1, .int (nI (t + 1))), (0, .ref b)] []) : GoA A p l e room_1 s m #[Value.ref b] below meth c E 88 14 cells slots (lw_Z below #[Value.ref b] s) g (RFo (some 5)) 0 613 [(12, .int (nI want)), (10, .int (nI (min (40 + (2 * w)) wish))), (9, .int (nI (40 + (2 * w)))), (8, .ref (E.2.1 0)), (7, .int (nI w)), (5, .int (nI wish)), (1, .int (nI t)), (0, .ref b)] [] := by
  have hwi := hf.1.1
  refine ga_aload (pc' := 615) cx dL_law_613 rfl rfl ?_
  refine ga_iconst (pc' := 616) cx (nI 3) dL_law_615 rfl rfl ?_
  refine ga_iconst (pc' := 617) cx (nI 0) dL_law_616 rfl rfl ?_
  refine ga_iload (pc' := 619) cx dL_law_617 rfl rfl ?_
  refine ga_cVI (pc' := 622) cx hA (Nat.le_refl 88) (k_setm l E (x := want) hB (by omega)) mX5_set lL_20 dL_law_619 kq0 (ltn rfl) (ltn rfl) rfl rfl rfl ⟨(Nat.le_of_ble_eq_true rfl), (Nat.le_of_ble_eq_true rfl)⟩ (Nat.le_of_ble_eq_true rfl) rfl hcs (fun x1 g1 h1 => ?_)
  obtain ⟨hBg1, eg1⟩ := hB.set (w := 3) (k := 0) (v := nI want) (by omega) (by omega)
  have eeg1 : svC g1 37 = up2 (svC g 37) 3 0 (nI want) := by
    rw [h1]
    exact eg1
  replace hB : Bs g1 2 2 := by
    rw [h1]
    exact hBg1
  replace hf : F2 (svC g1 37) w wish ∧ (∀ j, j < 4 → svC g1 37 2 j = nI want) ∧ svC g1 37 3 0 = nI want := by
    rw [eeg1]
    exact ⟨hf.1.up (Or.inr (Or.inl rfl)), fun j hj => (up2_n _ _ (by omega)).trans (hf.2 j hj), up2_s _ _ _ _⟩
  refine ga_pop (pc' := 623) cx rfl dL_law_622 rfl ?_
  refine ga_aload (pc' := 625) cx dL_law_623 rfl rfl ?_
  refine ga_bipush (pc' := 627) cx (nI 9) dL_law_625 rfl rfl ?_
  refine ga_iconst (pc' := 628) cx (nI 0) dL_law_627 rfl rfl ?_
  refine ga_iconst (pc' := 629) cx (nI 3) dL_law_628 rfl rfl ?_
  refine ga_cVI (pc' := 632) cx hA (Nat.le_refl 88) (k_setw l E (q := 0) (x := 3) hB (by omega) (by omega)) mX5_set lL_20 dL_law_629 kq0 (ltn rfl) (ltn rfl) rfl rfl rfl ⟨(Nat.le_of_ble_eq_true rfl), (Nat.le_of_ble_eq_true rfl)⟩ (Nat.le_of_ble_eq_true rfl) rfl hcs (fun x2 g2 h2 => ?_)
  obtain ⟨hBg2, eg2⟩ := hB.set (w := 9) (k := 0) (v := nI 3) (by omega) (by omega)
  have eeg2 : svC g2 37 = up2 (svC g1 37) 9 0 (nI 3) := by
    rw [h2]
    exact eg2
  replace hB : Bs g2 2 2 := by
    rw [h2]
    exact hBg2
  replace hf : F2 (svC g2 37) w wish ∧ (∀ j, j < 4 → svC g2 37 2 j = nI want) ∧ svC g2 37 3 0 = nI want ∧ svC g2 37 9 0 = nI 3 := by
    rw [eeg2]
    exact ⟨hf.1.up (Or.inr (Or.inr ⟨rfl, rfl⟩)), fun j hj => (up2_n _ _ (by omega)).trans (hf.2.1 j hj), (up2_n _ _ (by omega)).trans hf.2.2, up2_s _ _ _ _⟩
  refine ga_pop (pc' := 633) cx rfl dL_law_632 rfl ?_
  refine ga_aload (pc' := 635) cx dL_law_633 rfl rfl ?_
  refine ga_iconst (pc' := 636) cx (nI 0) dL_law_635 rfl rfl ?_
  refine ga_iconst (pc' := 637) cx (nI 5) dL_law_636 rfl rfl ?_
  refine ga_cVI (pc' := 640) cx hA (Nat.le_refl 88) (c_X5_once l E hB.1 (nI 0) (nI 5)) mX5_once lL_56 dL_law_637 kq0 (ltn rfl) (ltn rfl) rfl rfl rfl ⟨(Nat.le_of_ble_eq_true rfl), (Nat.le_of_ble_eq_true rfl)⟩ (Nat.le_of_ble_eq_true rfl) rfl hcs (fun x3 g3 h3 => ?_)
  obtain ⟨ex3, hFx3⟩ := h3
  have vx3 : x3 = 0 := ex3.trans (hf.1.offm hf.2.2.2 hf.2.2.1 hwa hf.2.1)
  replace ⟨hB, hf⟩ := hB.qp (P := fun a => F2 a w wish ∧ (∀ j, j < 4 → a 2 j = nI want) ∧ a 3 0 = nI want ∧ a 9 0 = nI 3) hf hFx3
  refine ga_if_ne (pc' := 643) cx 655 dL_law_640 rfl rfl (fun hh => absurd vx3 hh) (fun _ => ?_)
  refine ga_aload (pc' := 645) cx dL_law_643 rfl rfl ?_
  refine ga_iconst (pc' := 646) cx (nI 0) dL_law_645 rfl rfl ?_
  refine ga_iconst (pc' := 647) cx (nI 0) dL_law_646 rfl rfl ?_
  refine ga_cVI (pc' := 650) cx hA (Nat.le_refl 88) (c_X5_once l E hB.1 (nI 0) (nI 0)) mX5_once lL_56 dL_law_647 kq0 (ltn rfl) (ltn rfl) rfl rfl rfl ⟨(Nat.le_of_ble_eq_true rfl), (Nat.le_of_ble_eq_true rfl)⟩ (Nat.le_of_ble_eq_true rfl) rfl hcs (fun x4 g4 h4 => ?_)
  obtain ⟨ex4, hFx4⟩ := h4
  have vx4 : x4 = nI want := ex4.trans (hf.1.oncem (p := 0) hf.2.2.2 hf.2.2.1 hwa (by omega))
  replace ⟨hB, hf⟩ := hB.qp (P := fun a => F2 a w wish ∧ (∀ j, j < 4 → a 2 j = nI want) ∧ a 3 0 = nI want ∧ a 9 0 = nI 3) hf hFx4
  refine ga_iload (pc' := 652) cx dL_law_650 rfl rfl ?_
  refine ga_icmp_eq (pc' := 655) cx 657 dL_law_652 rfl rfl (fun _ => ?_) (fun hh => absurd vx4 hh)
  refine ga_aload (pc' := 659) cx dL_law_657 rfl rfl ?_
  refine ga_bipush (pc' := 661) cx (nI 9) dL_law_659 rfl rfl ?_
  refine ga_iconst (pc' := 662) cx (nI 0) dL_law_661 rfl rfl ?_
  refine ga_iconst (pc' := 663) cx (nI 1) dL_law_662 rfl rfl ?_
  refine ga_cVI (pc' := 666) cx hA (Nat.le_refl 88) (k_setw l E (q := 0) (x := 1) hB (by omega) (by omega)) mX5_set lL_20 dL_law_663 kq0 (ltn rfl) (ltn rfl) rfl rfl rfl ⟨(Nat.le_of_ble_eq_true rfl), (Nat.le_of_ble_eq_true rfl)⟩ (Nat.le_of_ble_eq_true rfl) rfl hcs (fun x5 g5 h5 => ?_)
  obtain ⟨hBg5, eg5⟩ := hB.set (w := 9) (k := 0) (v := nI 1) (by omega) (by omega)
  have eeg5 : svC g5 37 = up2 (svC g4 37) 9 0 (nI 1) := by
    rw [h5]
    exact eg5
  replace hB : Bs g5 2 2 := by
    rw [h5]
    exact hBg5
  replace hf : F2 (svC g5 37) w wish ∧ (∀ j, j < 4 → svC g5 37 2 j = nI want) ∧ svC g5 37 3 0 = nI want ∧ svC g5 37 9 0 = nI 1 := by
    rw [eeg5]
    exact ⟨hf.1.up (Or.inr (Or.inr ⟨rfl, rfl⟩)), fun j hj => (up2_n _ _ (by omega)).trans (hf.2.1 j hj), (up2_n _ _ (by omega)).trans hf.2.2.1, up2_s _ _ _ _⟩
  refine ga_pop (pc' := 667) cx rfl dL_law_666 rfl ?_
  refine ga_aload (pc' := 669) cx dL_law_667 rfl rfl ?_
  refine ga_iconst (pc' := 670) cx (nI 0) dL_law_669 rfl rfl ?_
  refine ga_iconst (pc' := 671) cx (nI 1) dL_law_670 rfl rfl ?_
  refine ga_cVI (pc' := 674) cx hA (Nat.le_refl 88) (c_X5_once l E hB.1 (nI 0) (nI 1)) mX5_once lL_56 dL_law_671 kq0 (ltn rfl) (ltn rfl) rfl rfl rfl ⟨(Nat.le_of_ble_eq_true rfl), (Nat.le_of_ble_eq_true rfl)⟩ (Nat.le_of_ble_eq_true rfl) rfl hcs (fun x6 g6 h6 => ?_)
  obtain ⟨ex6, hFx6⟩ := h6
  have vx6 : x6 = nI (min (40 + (2 * w)) (((40 + (2 * w)) + wish) / 2)) := ex6.trans (hf.1.once2 (p := 1) (by omega) hf.2.2.2)
  replace ⟨hB, hf⟩ := hB.qp (P := fun a => F2 a w wish ∧ (∀ j, j < 4 → a 2 j = nI want) ∧ a 3 0 = nI want ∧ a 9 0 = nI 1) hf hFx6
  refine ga_istore (pc' := 676) cx dL_law_674 (ltn rfl) [(13, .int x6), (12, .int (nI want)), (10, .int (nI (min (40 + (2 * w)) wish))), (9, .int (nI (40 + (2 * w)))), (8, .ref (E.2.1 0)), (7, .int (nI w)), (5, .int (nI wish)), (1, .int (nI t)), (0, .ref b)] rfl rfl ?_
  refine ga_aload (pc' := 678) cx dL_law_676 rfl rfl ?_
  refine ga_bipush (pc' := 680) cx (nI 9) dL_law_678 rfl rfl ?_
  refine ga_iconst (pc' := 681) cx (nI 0) dL_law_680 rfl rfl ?_
  refine ga_iconst (pc' := 682) cx (nI 0) dL_law_681 rfl rfl ?_
  refine ga_cVI (pc' := 685) cx hA (Nat.le_refl 88) (k_setw l E (q := 0) (x := 0) hB (by omega) (by omega)) mX5_set lL_20 dL_law_682 kq0 (ltn rfl) (ltn rfl) rfl rfl rfl ⟨(Nat.le_of_ble_eq_true rfl), (Nat.le_of_ble_eq_true rfl)⟩ (Nat.le_of_ble_eq_true rfl) rfl hcs (fun x7 g7 h7 => ?_)
  obtain ⟨hBg7, eg7⟩ := hB.set (w := 9) (k := 0) (v := nI 0) (by omega) (by omega)
  have eeg7 : svC g7 37 = up2 (svC g6 37) 9 0 (nI 0) := by
    rw [h7]
    exact eg7
  replace hB : Bs g7 2 2 := by
    rw [h7]
    exact hBg7
  replace hf : F2 (svC g7 37) w wish ∧ (∀ j, j < 4 → svC g7 37 2 j = nI want) ∧ svC g7 37 3 0 = nI want ∧ svC g7 37 9 0 = nI 0 := by
    rw [eeg7]
    exact ⟨hf.1.up (Or.inr (Or.inr ⟨rfl, rfl⟩)), fun j hj => (up2_n _ _ (by omega)).trans (hf.2.1 j hj), (up2_n _ _ (by omega)).trans hf.2.2.1, up2_s _ _ _ _⟩
  refine ga_pop (pc' := 686) cx rfl dL_law_685 rfl ?_
  refine ga_iload (pc' := 688) cx dL_law_686 rfl rfl ?_
  refine ga_aload (pc' := 690) cx dL_law_688 rfl rfl ?_
  refine ga_iconst (pc' := 691) cx (nI 0) dL_law_690 rfl rfl ?_
  refine ga_iconst (pc' := 692) cx (nI 1) dL_law_691 rfl rfl ?_
  refine ga_cVI (pc' := 695) cx hA (Nat.le_refl 88) (c_X5_once l E hB.1 (nI 0) (nI 1)) mX5_once lL_56 dL_law_692 kq0 (ltn rfl) (ltn rfl) rfl rfl rfl ⟨(Nat.le_of_ble_eq_true rfl), (Nat.le_of_ble_eq_true rfl)⟩ (Nat.le_of_ble_eq_true rfl) rfl hcs (fun x8 g8 h8 => ?_)
  obtain ⟨ex8, hFx8⟩ := h8
  have vx8 : x8 = nI (min (40 + (2 * w)) wish) := ex8.trans (hf.1.once0 (p := 1) (by omega) hf.2.2.2)
  replace ⟨hB, hf⟩ := hB.qp (P := fun a => F2 a w wish ∧ (∀ j, j < 4 → a 2 j = nI want) ∧ a 3 0 = nI want ∧ a 9 0 = nI 0) hf hFx8
  refine ga_icmp_ge (pc' := 698) cx 700 dL_law_695 rfl rfl (fun _ => ?_) (fun hh => absurd (by rw [vx6, vx8]; exact nI_le (by omega) (by omega)) hh)
  refine ga_aload (pc' := 702) cx dL_law_700 rfl rfl ?_
  refine ga_bipush (pc' := 704) cx (nI 9) dL_law_702 rfl rfl ?_
  refine ga_iconst (pc' := 705) cx (nI 0) dL_law_704 rfl rfl ?_
  refine ga_iconst (pc' := 706) cx (nI 2) dL_law_705 rfl rfl ?_
  refine ga_cVI (pc' := 709) cx hA (Nat.le_refl 88) (k_setw l E (q := 0) (x := 2) hB (by omega) (by omega)) mX5_set lL_20 dL_law_706 kq0 (ltn rfl) (ltn rfl) rfl rfl rfl ⟨(Nat.le_of_ble_eq_true rfl), (Nat.le_of_ble_eq_true rfl)⟩ (Nat.le_of_ble_eq_true rfl) rfl hcs (fun x9 g9 h9 => ?_)
  obtain ⟨hBg9, eg9⟩ := hB.set (w := 9) (k := 0) (v := nI 2) (by omega) (by omega)
  have eeg9 : svC g9 37 = up2 (svC g8 37) 9 0 (nI 2) := by
    rw [h9]
    exact eg9
  replace hB : Bs g9 2 2 := by
    rw [h9]
    exact hBg9
  replace hf : F2 (svC g9 37) w wish ∧ (∀ j, j < 4 → svC g9 37 2 j = nI want) ∧ svC g9 37 3 0 = nI want ∧ svC g9 37 9 0 = nI 2 := by
    rw [eeg9]
    exact ⟨hf.1.up (Or.inr (Or.inr ⟨rfl, rfl⟩)), fun j hj => (up2_n _ _ (by omega)).trans (hf.2.1 j hj), (up2_n _ _ (by omega)).trans hf.2.2.1, up2_s _ _ _ _⟩
  refine ga_pop (pc' := 710) cx rfl dL_law_709 rfl ?_
  refine ga_aload (pc' := 712) cx dL_law_710 rfl rfl ?_
  refine ga_iconst (pc' := 713) cx (nI 0) dL_law_712 rfl rfl ?_
  refine ga_iconst (pc' := 714) cx (nI 1) dL_law_713 rfl rfl ?_
  refine ga_cVI (pc' := 717) cx hA (Nat.le_refl 88) (c_X5_once l E hB.1 (nI 0) (nI 1)) mX5_once lL_56 dL_law_714 kq0 (ltn rfl) (ltn rfl) rfl rfl rfl ⟨(Nat.le_of_ble_eq_true rfl), (Nat.le_of_ble_eq_true rfl)⟩ (Nat.le_of_ble_eq_true rfl) rfl hcs (fun x10 g10 h10 => ?_)
  obtain ⟨ex10, hFx10⟩ := h10
  have vx10 : x10 = mx 0 (mn (nI (40 + (2 * w))) (nI wish - 10)) := ex10.trans (hf.1.once3 (p := 1) (by omega) hf.2.2.2)
  replace ⟨hB, hf⟩ := hB.qp (P := fun a => F2 a w wish ∧ (∀ j, j < 4 → a 2 j = nI want) ∧ a 3 0 = nI want ∧ a 9 0 = nI 2) hf hFx10
  refine ga_iload (pc' := 719) cx dL_law_717 rfl rfl ?_
  refine ga_icmp_gt (pc' := 722) cx 746 dL_law_719 rfl rfl (fun hh => absurd hh (by rw [vx10]; exact short_le (by omega) hf.1.1.2)) (fun _ => ?_)
  refine ga_aload (pc' := 724) cx dL_law_722 rfl rfl ?_
  refine ga_iconst (pc' := 725) cx (nI 0) dL_law_724 rfl rfl ?_
  refine ga_iconst (pc' := 726) cx (nI 1) dL_law_725 rfl rfl ?_
  refine ga_cVI (pc' := 729) cx hA (Nat.le_refl 88) (c_X5_once l E hB.1 (nI 0) (nI 1)) mX5_once lL_56 dL_law_726 kq0 (ltn rfl) (ltn rfl) rfl rfl rfl ⟨(Nat.le_of_ble_eq_true rfl), (Nat.le_of_ble_eq_true rfl)⟩ (Nat.le_of_ble_eq_true rfl) rfl hcs (fun x11 g11 h11 => ?_)
  obtain ⟨ex11, hFx11⟩ := h11
  have vx11 : x11 = mx 0 (mn (nI (40 + (2 * w))) (nI wish - 10)) := ex11.trans (hf.1.once3 (p := 1) (by omega) hf.2.2.2)
  replace ⟨hB, hf⟩ := hB.qp (P := fun a => F2 a w wish ∧ (∀ j, j < 4 → a 2 j = nI want) ∧ a 3 0 = nI want ∧ a 9 0 = nI 2) hf hFx11
  refine ga_iconst (pc' := 730) cx (nI 0) dL_law_729 rfl rfl ?_
  refine ga_iload (pc' := 732) cx dL_law_730 rfl rfl ?_
  refine ga_iload (pc' := 734) cx dL_law_732 rfl rfl ?_
  refine ga_bipush (pc' := 736) cx (nI 10) dL_law_734 rfl rfl ?_
  refine ga_isub (pc' := 737) cx dL_law_736 rfl ?_
  refine ga_mmin (pc' := 740) cx lL_51 dL_law_737 ⟨(Nat.le_of_ble_eq_true rfl), (Nat.le_of_ble_eq_true rfl)⟩ hcs (Nat.le_of_ble_eq_true rfl) rfl ?_
  refine ga_val (w := .int (mn (nI (40 + (2 * w))) (nI wish - nI 10))) (rfl) ?_
  refine ga_mmax (pc' := 743) cx lL_59 dL_law_740 ⟨(Nat.le_of_ble_eq_true rfl), (Nat.le_of_ble_eq_true rfl)⟩ hcs (Nat.le_of_ble_eq_true rfl) rfl ?_
  refine ga_val (w := .int (mx 0 (mn (nI (40 + (2 * w))) (nI wish - 10)))) rfl ?_
  refine ga_icmp_eq (pc' := 746) cx 748 dL_law_743 rfl rfl (fun _ => ?_) (fun hh => absurd vx11 hh)
  refine ga_aload (pc' := 750) cx dL_law_748 rfl rfl ?_
  refine ga_iconst (pc' := 751) cx (nI 0) dL_law_750 rfl rfl ?_
  refine ga_iconst (pc' := 752) cx (nI 2) dL_law_751 rfl rfl ?_
  refine ga_iconst (pc' := 753) cx (nI 2) dL_law_752 rfl rfl ?_
  refine ga_cVI (pc' := 756) cx hA (Nat.le_refl 88) (c_X5_film l E hB.1 (nI 0) (nI 2) (nI 2)) mX5_film lL_62 dL_law_753 kq0 (ltn rfl) (ltn rfl) rfl rfl rfl ⟨(Nat.le_of_ble_eq_true rfl), (Nat.le_of_ble_eq_true rfl)⟩ (Nat.le_of_ble_eq_true rfl) rfl hcs (fun x12 g12 h12 => ?_)
  obtain ⟨hBf, es, hs, hm⟩ := film_ok hB h12
  replace hB := hBf
  have h8 : svC g12 37 8 0 = nI w := by
    rw [es]
    exact hf.1.2.2.2.1.1
  have h9 : svC g12 37 9 0 = nI 2 := by
    rw [es]
    exact hf.2.2.2
  refine ga_pop (pc' := 757) cx rfl dL_law_756 rfl ?_
  refine ga_aload (pc' := 759) cx dL_law_757 rfl rfl ?_
  refine ga_iconst (pc' := 760) cx (nI 0) dL_law_759 rfl rfl ?_
  refine ga_iconst (pc' := 761) cx (nI 2) dL_law_760 rfl rfl ?_
  refine ga_cVI (pc' := 764) cx hA (Nat.le_refl 88) (c_X5_pictures l E hB.1 hB.2 (nI 0) (nI 2)) mX5_pictures lL_65 dL_law_761 kq0 (ltn rfl) (ltn rfl) rfl rfl rfl ⟨(Nat.le_of_ble_eq_true rfl), (Nat.le_of_ble_eq_true rfl)⟩ (Nat.le_of_ble_eq_true rfl) rfl hcs (fun x13 g13 h13 => ?_)
  obtain ⟨ex13, hFx13⟩ := h13
  have vx13 : x13 = -1 := ex13.trans (pict_ok hs hm)
  obtain ⟨hsx13, hmx13⟩ := film_q hFx13 hs hm
  have esx13 := (hB.q hFx13).2
  replace hB := (hB.q hFx13).1
  replace h8 : svC g13 37 8 0 = nI w := by
    rw [esx13]
    exact h8
  replace h9 : svC g13 37 9 0 = nI 2 := by
    rw [esx13]
    exact h9
  replace hs := hsx13
  replace hm := hmx13
  refine ga_iconst (pc' := 765) cx (-1) dL_law_764 rfl rfl ?_
  refine ga_icmp_ne (pc' := 768) cx 803 dL_law_765 rfl rfl (fun hh => absurd vx13 hh) (fun _ => ?_)
  refine ga_aload (pc' := 770) cx dL_law_768 rfl rfl ?_
  refine ga_iconst (pc' := 771) cx (nI 0) dL_law_770 rfl rfl ?_
  refine ga_iconst (pc' := 772) cx (nI 2) dL_law_771 rfl rfl ?_
  refine ga_iconst (pc' := 773) cx (nI 1) dL_law_772 rfl rfl ?_
  refine ga_iconst (pc' := 774) cx (nI 0) dL_law_773 rfl rfl ?_
  refine ga_cVI (pc' := 777) cx hA (Nat.le_refl 88) (c_X5_seen_1 l E hB.1 hB.2 (nI 0) (nI 2) (nI 0)) mX5_seen lL_68 dL_law_774 kq0 (ltn rfl) (ltn rfl) rfl rfl rfl ⟨(Nat.le_of_ble_eq_true rfl), (Nat.le_of_ble_eq_true rfl)⟩ (Nat.le_of_ble_eq_true rfl) rfl hcs (fun x14 g14 h14 => ?_)
  obtain ⟨ex14, hFx14⟩ := h14
  have vx14 : (x14 >>> (nI 2 &&& 31)) &&& nI 1 = nI 1 := by
    rw [ex14]
    exact seen_1 hs hm h9
  obtain ⟨hsx14, hmx14⟩ := film_q hFx14 hs hm
  have esx14 := (hB.q hFx14).2
  replace hB := (hB.q hFx14).1
  replace h8 : svC g14 37 8 0 = nI w := by
    rw [esx14]
    exact h8
  replace h9 : svC g14 37 9 0 = nI 2 := by
    rw [esx14]
    exact h9
  replace hs := hsx14
  replace hm := hmx14
  refine ga_iconst (pc' := 778) cx (nI 2) dL_law_777 rfl rfl ?_
  refine ga_ishr (pc' := 779) cx (x14 >>> (nI 2 &&& 31)) dL_law_778 rfl rfl ?_
  refine ga_iconst (pc' := 780) cx (nI 1) dL_law_779 rfl rfl ?_
  refine ga_iand (pc' := 781) cx dL_law_780 rfl ?_
  refine ga_iconst (pc' := 782) cx (nI 1) dL_law_781 rfl rfl ?_
  refine ga_icmp_ne (pc' := 785) cx 803 dL_law_782 rfl rfl (fun hh => absurd vx14 hh) (fun _ => ?_)
  refine ga_aload (pc' := 787) cx dL_law_785 rfl rfl ?_
  refine ga_iconst (pc' := 788) cx (nI 0) dL_law_787 rfl rfl ?_
  refine ga_iconst (pc' := 789) cx (nI 2) dL_law_788 rfl rfl ?_
  refine ga_iconst (pc' := 790) cx (nI 2) dL_law_789 rfl rfl ?_
  refine ga_iconst (pc' := 791) cx (nI 0) dL_law_790 rfl rfl ?_
  refine ga_cVI (pc' := 794) cx hA (Nat.le_refl 88) (c_X5_seen_2 l E hB.1 hB.2 (nI 0) (nI 2) (nI 0)) mX5_seen lL_68 dL_law_791 kq0 (ltn rfl) (ltn rfl) rfl rfl rfl ⟨(Nat.le_of_ble_eq_true rfl), (Nat.le_of_ble_eq_true rfl)⟩ (Nat.le_of_ble_eq_true rfl) rfl hcs (fun x15 g15 h15 => ?_)
  obtain ⟨ex15, hFx15⟩ := h15
  have vx15 : (x15 >>> (nI w &&& 31)) &&& nI 1 = nI 1 := by
    rw [ex15]
    exact seen_2 hf.1.1.1 hs hm h8
  obtain ⟨hsx15, hmx15⟩ := film_q hFx15 hs hm
  have esx15 := (hB.q hFx15).2
  replace hB := (hB.q hFx15).1
  replace h8 : svC g15 37 8 0 = nI w := by
    rw [esx15]
    exact h8
  replace h9 : svC g15 37 9 0 = nI 2 := by
    rw [esx15]
    exact h9
  replace hs := hsx15
  replace hm := hmx15
  refine ga_iload (pc' := 796) cx dL_law_794 rfl rfl ?_
  refine ga_ishr (pc' := 797) cx (x15 >>> (nI w &&& 31)) dL_law_796 rfl rfl ?_
  refine ga_iconst (pc' := 798) cx (nI 1) dL_law_797 rfl rfl ?_
  refine ga_iand (pc' := 799) cx dL_law_798 rfl ?_
  refine ga_iconst (pc' := 800) cx (nI 1) dL_law_799 rfl rfl ?_
  refine ga_icmp_eq (pc' := 803) cx 805 dL_law_800 rfl rfl (fun _ => ?_) (fun hh => absurd vx15 hh)
  refine ga_iinc (pc' := 808) cx (nI (t + 1)) dL_law_805 rfl (nI_add t 1) (ltn rfl) [(1, .int (nI (t + 1))), (13, .int x6), (12, .int (nI want)), (10, .int (nI (min (40 + (2 * w)) wish))), (9, .int (nI (40 + (2 * w)))), (8, .ref (E.2.1 0)), (7, .int (nI w)), (5, .int (nI wish)), (0, .ref b)] rfl rfl ?_
  refine ga_goto cx 2 dL_law_808 rfl ?_
  refine ga_lvp [0, 8] (lv' := [(1, .int (nI (t + 1))), (0, .ref b)]) rfl ?_
  exact kk g15
