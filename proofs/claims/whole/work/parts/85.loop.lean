/-! THE LAW'S LOOP AND ITS BEGINNING -/
set_option maxHeartbeats 4000000 in
set_option maxRecDepth 20000 in
theorem law_step {p : Program} {l : Launch} {e : Env} {s : State} {m : MethodId} {below : List Frame} {meth : Method} {c : Code} {E : Ev} {b L : Nat} {xs : Nat → Int32} (cx : Cx p s m #[Value.ref b] meth c E 115 cL_law 4 RL ret) (hX : va_X b L xs s s.heap) (hbl : b < s.heap.size) (hbA : ¬ Ad E 115 b) (hL : L ≤ 3072) (hA0 : ∀ q, Ad E 115 q → s.heap.size ≤ q) {i : Nat} (hi : i ≤ 4000) (kk : i + 6 ≤ L → ∀ (g : IG) (o : Option Nat) (z : Int64), InvE g → GoK p l e room_1 s m #[Value.ref b] below meth c E 115 4 115 26025 (lw_Z below #[Value.ref b] s) g (RFo o) z 18 [(3, .int (nI (i + 6))), (2, .ref (E.2.1 88)), (1, .ref (E.2.1 0)), (0, .ref b)] []) {g : IG} {o : Option Nat} {z : Int64} (hI : InvE g) : GoK p l e room_1 s m #[Value.ref b] below meth c E 115 4 115 26025 (lw_Z below #[Value.ref b] s) g (RFo o) z 18 [(3, .int (nI i)), (2, .ref (E.2.1 88)), (1, .ref (E.2.1 0)), (0, .ref b)] [] := by
  refine gk_iload_n (pc' := 19) cx dL_law_18 rfl rfl ?_
  refine gk_aload_n (pc' := 20) cx dL_law_19 rfl rfl ?_
  refine gk_slen (pc' := 21) cx hX hbl hbA dL_law_20 rfl ?_
  refine gk_bipush (pc' := 23) cx 6 dL_law_21 rfl rfl ?_
  refine gk_isub (pc' := 24) cx dL_law_23 rfl ?_
  refine gk_icmp_gt (pc' := 27) cx 1125 dL_law_24 rfl rfl (fun _ => ?_) (fun hh => ?_)
  · refine gk_iconst (pc' := 1126) cx 1 dL_law_1125 rfl rfl ?_
    exact gk_lret cx hA0 (Nat.le_of_ble_eq_true rfl) (Nat.le_of_ble_eq_true rfl) dL_law_1126
  · have h6 : i + 6 ≤ L := by
      have e : (nI L - nI 6).toInt = (L : Int) - (6 : Nat) := pk_sub_toInt (by omega) (by omega)
      have e2 : (nI i).toInt = (i : Int) := nI_toInt (by omega)
      have : ¬ (nI L - nI 6).toInt < (nI i).toInt := fun q => hh (Int32.lt_iff_toInt_lt.mpr q)
      omega
    refine gk_aload_n (pc' := 28) cx dL_law_27 rfl rfl ?_
    refine gk_iload_n (pc' := 29) cx dL_law_28 rfl rfl ?_
    refine gk_sld (pc' := 30) cx hX hbl hbA hL (k := i) (by omega) dL_law_29 rfl ?_
    refine gk_bipush (pc' := 32) cx 31 dL_law_30 rfl rfl ?_
    refine gk_iand (pc' := 33) cx dL_law_32 rfl ?_
    obtain ⟨j, hj, ej⟩ := pk_andE (xs i) (m := 31) 5 (by decide)
    refine gk_val (w := .int (nI j)) (congrArg Value.int ej) ?_
    have KK : ∀ (g : IG) (o : Option Nat) (z : Int64), InvE g → GoK p l e room_1 s m #[Value.ref b] below meth c E 115 4 115 26025 (lw_Z below #[Value.ref b] s) g (RFo o) z 1119 [(3, .int (nI i)), (2, .ref (E.2.1 88)), (1, .ref (E.2.1 0)), (0, .ref b)] [] := fun g o z hI => by
      refine gk_iinc (pc' := 1122) cx (nI (i + 6)) dL_law_1119 rfl (nI_add i 6) (ltn rfl) [(3, .int (nI (i + 6))), (2, .ref (E.2.1 88)), (1, .ref (E.2.1 0)), (0, .ref b)] rfl rfl ?_
      exact gk_goto cx 18 dL_law_1122 rfl (kk h6 g o z hI)
    obtain ⟨hn, vn, ru, tc, CS, h⟩ := hI
    have hj2 : j < 32 := hj
    clear ej hj
    rcases (show j = 0 ∨ j = 1 ∨ j = 2 ∨ j = 3 ∨ j = 4 ∨ j = 5 ∨ j = 6 ∨ j = 7 ∨ j = 8 ∨ j = 9 ∨ j = 10 ∨ j = 11 ∨ j = 12 ∨ j = 13 ∨ j = 14 ∨ j = 15 ∨ j = 16 ∨ j = 17 ∨ j = 18 ∨ j = 19 ∨ j = 20 ∨ j = 21 ∨ j = 22 ∨ j = 23 ∨ j = 24 ∨ j = 25 ∨ j = 26 ∨ j = 27 ∨ j = 28 ∨ j = 29 ∨ j = 30 ∨ j = 31 by omega) with rfl | rfl | rfl | rfl | rfl | rfl | rfl | rfl | rfl | rfl | rfl | rfl | rfl | rfl | rfl | rfl | rfl | rfl | rfl | rfl | rfl | rfl | rfl | rfl | rfl | rfl | rfl | rfl | rfl | rfl | rfl | rfl
    · exact gk_tabIn cx 168 dL_law_33 (by decide) (by decide) rfl rfl (law_0 cx hX hbl hbA hL h6 KK h)
    · exact gk_tabIn cx 211 dL_law_33 (by decide) (by decide) rfl rfl (law_1 cx hX hbl hbA hL h6 KK h)
    · exact gk_tabIn cx 254 dL_law_33 (by decide) (by decide) rfl rfl (law_2 cx hX hbl hbA hL h6 KK h)
    · exact gk_tabIn cx 287 dL_law_33 (by decide) (by decide) rfl rfl (law_3 cx hX hbl hbA hL h6 KK h)
    · exact gk_tabIn cx 320 dL_law_33 (by decide) (by decide) rfl rfl (law_4 cx hX hbl hbA hL h6 KK h)
    · exact gk_tabIn cx 343 dL_law_33 (by decide) (by decide) rfl rfl (by
      by_cases hx : tc = 6
      · exact law_5F cx hX hbl hbA hL h6 KK h hx
      · exact law_5T cx hX hbl hbA hL h6 KK h (by have := h.2.2.1.1.2; omega))
    · exact gk_tabIn cx 356 dL_law_33 (by decide) (by decide) rfl rfl (law_6 cx hX hbl hbA hL h6 KK h)
    · exact gk_tabIn cx 379 dL_law_33 (by decide) (by decide) rfl rfl (law_7 cx hX hbl hbA hL h6 KK h)
    · exact gk_tabIn cx 412 dL_law_33 (by decide) (by decide) rfl rfl (law_8 cx hX hbl hbA hL h6 KK h)
    · exact gk_tabIn cx 435 dL_law_33 (by decide) (by decide) rfl rfl (law_9 cx hX hbl hbA hL h6 KK h)
    · exact gk_tabIn cx 468 dL_law_33 (by decide) (by decide) rfl rfl (law_10 cx hX hbl hbA hL h6 KK h)
    · exact gk_tabIn cx 491 dL_law_33 (by decide) (by decide) rfl rfl (law_11 cx hX hbl hbA hL h6 KK h)
    · exact gk_tabIn cx 514 dL_law_33 (by decide) (by decide) rfl rfl (law_12 cx hX hbl hbA hL h6 KK h)
    · exact gk_tabIn cx 547 dL_law_33 (by decide) (by decide) rfl rfl (law_13 cx hX hbl hbA hL h6 KK h)
    · exact gk_tabIn cx 570 dL_law_33 (by decide) (by decide) rfl rfl (law_14 cx hX hbl hbA hL h6 KK h)
    · exact gk_tabIn cx 603 dL_law_33 (by decide) (by decide) rfl rfl (law_15 cx hX hbl hbA hL h6 KK h)
    · exact gk_tabIn cx 616 dL_law_33 (by decide) (by decide) rfl rfl (law_16 cx hX hbl hbA hL h6 KK h)
    · exact gk_tabIn cx 639 dL_law_33 (by decide) (by decide) rfl rfl (law_17 cx hX hbl hbA hL h6 KK h)
    · exact gk_tabIn cx 672 dL_law_33 (by decide) (by decide) rfl rfl (by
      by_cases hx : inX 0 5 (xs (i + 3)) = 0
      · exact law_18n cx hX hbl hbA hL h6 KK h hx
      · obtain ⟨w, hw, hw2⟩ := inX_rn (n := 5) (by omega) hx
        rcases (show w = 0 ∨ w = 1 ∨ w = 2 ∨ w = 3 ∨ w = 4 ∨ w = 5 by omega) with rfl | rfl | rfl | rfl | rfl | rfl
        · exact law_180 cx hX hbl hbA hL h6 KK h hw2
        · exact law_181 cx hX hbl hbA hL h6 KK h hw2
        · exact law_182 cx hX hbl hbA hL h6 KK h hw2
        · exact law_183 cx hX hbl hbA hL h6 KK h hw2
        · exact law_184 cx hX hbl hbA hL h6 KK h hw2
        · exact law_185 cx hX hbl hbA hL h6 KK h hw2)
    · exact gk_tabIn cx 725 dL_law_33 (by decide) (by decide) rfl rfl (law_19 cx hX hbl hbA hL h6 KK h)
    · exact gk_tabIn cx 768 dL_law_33 (by decide) (by decide) rfl rfl (law_20 cx hX hbl hbA hL h6 KK h)
    · exact gk_tabIn cx 791 dL_law_33 (by decide) (by decide) rfl rfl (law_21 cx hX hbl hbA hL h6 KK h)
    · exact gk_tabIn cx 835 dL_law_33 (by decide) (by decide) rfl rfl (law_22 cx hX hbl hbA hL h6 KK h)
    · exact gk_tabIn cx 848 dL_law_33 (by decide) (by decide) rfl rfl (law_23 cx hX hbl hbA hL h6 KK h)
    · exact gk_tabIn cx 861 dL_law_33 (by decide) (by decide) rfl rfl (law_24 cx hX hbl hbA hL h6 KK h)
    · exact gk_tabIn cx 884 dL_law_33 (by decide) (by decide) rfl rfl (law_25 cx hX hbl hbA hL h6 KK h)
    · exact gk_tabIn cx 927 dL_law_33 (by decide) (by decide) rfl rfl (law_26 cx hX hbl hbA hL h6 KK h)
    · exact gk_tabIn cx 970 dL_law_33 (by decide) (by decide) rfl rfl (law_27 cx hX hbl hbA hL h6 KK h)
    · exact gk_tabIn cx 1033 dL_law_33 (by decide) (by decide) rfl rfl (law_28 cx hX hbl hbA hL h6 KK h)
    · exact gk_tabIn cx 1086 dL_law_33 (by decide) (by decide) rfl rfl (law_29 cx hX hbl hbA hL h6 KK h)
    · exact gk_tabOut cx 1119 dL_law_33 (Or.inr (by decide)) rfl (KK _ _ _ ⟨_, _, _, _, _, h⟩)
    · exact gk_tabOut cx 1119 dL_law_33 (Or.inr (by decide)) rfl (KK _ _ _ ⟨_, _, _, _, _, h⟩)
theorem law_loop {p : Program} {l : Launch} {e : Env} {s : State} {m : MethodId} {below : List Frame} {meth : Method} {c : Code} {E : Ev} {b L : Nat} {xs : Nat → Int32} (cx : Cx p s m #[Value.ref b] meth c E 115 cL_law 4 RL ret) (hX : va_X b L xs s s.heap) (hbl : b < s.heap.size) (hbA : ¬ Ad E 115 b) (hL : L ≤ 3072) (hA0 : ∀ q, Ad E 115 q → s.heap.size ≤ q) : ∀ (n i : Nat) (g : IG) (o : Option Nat) (z : Int64), i ≤ 3072 → L + 6 ≤ i + 6 * n → InvE g → GoK p l e room_1 s m #[Value.ref b] below meth c E 115 4 115 26025 (lw_Z below #[Value.ref b] s) g (RFo o) z 18 [(3, .int (nI i)), (2, .ref (E.2.1 88)), (1, .ref (E.2.1 0)), (0, .ref b)] []
  | 0, i, g, o, z, hi, hn, hI => law_step cx hX hbl hbA hL hA0 (by omega) (fun h6 => absurd h6 (by omega)) hI
  | n + 1, i, g, o, z, hi, hn, hI => law_step cx hX hbl hbA hL hA0 (by omega) (fun h6 g1 o1 z1 h1 => law_loop cx hX hbl hbA hL hA0 n (i + 6) g1 o1 z1 (by omega) (by omega) h1) hI
theorem inv0 {g1 g2 : IG} (hC : CG g1) (hJ : JG g2) (hk : ∀ i, i < 88 → ∀ j, g2 i j = g1 i j) : InvE g2 := by
  obtain ⟨a01, a05, a21, aT, aS, a2, a3, a4, a40, am⟩ := hC
  obtain ⟨j3, j10, j48, j40, jT, j0⟩ := hJ
  refine ⟨0, 0, 0, 1, CS0, by omega, ⟨⟨by omega, by omega⟩, ⟨(hk 37 (by omega) 2).trans a2, (hk 37 (by omega) 3).trans a3, (hk 37 (by omega) 4).trans a4⟩, ⟨j0 88 15 (by omega) (by omega), j0 88 19 (by omega) (by omega), j0 88 4 (by omega) (by omega)⟩, fun w k r => ?_, fun v hv => absurd hv (by omega), fun p hp => ⟨40, by omega, (j40 p hp).1⟩, fun x hx => absurd hx (by omega)⟩, ⟨⟨by omega, by omega⟩, (hk 0 (by omega) 1).trans a01, j3, fun t ht => ?_, fun t ht => ?_, fun j hj e => absurd ((j0 102 (11 * j) (by omega) (by omega)).symm.trans e) (by decide)⟩, ⟨0, by omega, (hk 2 (by omega) 1).trans a21, j0 88 6 (by omega) (by omega), fun i hi => absurd hi (by omega)⟩, fun t ht => ⟨0, by omega, (hk _ (by omega) 2).trans (aS t ht).2, Or.inl ⟨(hk _ (by omega) 1).trans (aS t ht).1, j0 111 t (by omega) (by omega)⟩⟩, Or.inl ⟨(hk 0 (by omega) 5).trans a05, j48⟩⟩
  · unfold Rl at r
    rcases (show (w = 0 ∧ k < 4) ∨ (w = 1 ∧ k < 4) ∨ (w = 2 ∧ k < 4) ∨ (w = 3 ∧ k = 0) by omega) with ⟨rfl, hk4⟩ | ⟨rfl, hk4⟩ | ⟨rfl, hk4⟩ | ⟨rfl, rfl⟩
    · exact ((hk 39 (by omega) k).trans (a40 k hk4).1).trans (j40 k hk4).1.symm
    · exact ((hk 40 (by omega) k).trans (a40 k hk4).2.1).trans (j40 k hk4).2.1.symm
    · exact ((hk 41 (by omega) k).trans (a40 k hk4).2.2).trans (j40 k hk4).2.2.symm
    · exact ((hk 42 (by omega) 0).trans am).trans j10.symm
  · rw [show t = 0 by omega]
    exact aT.up (funext fun k => hk _ (by omega) k) (funext fun k => hk _ (by omega) k)
  · rw [show t = 0 by omega]
    exact jT
set_option maxHeartbeats 4000000 in
set_option maxRecDepth 20000 in
theorem law_go {p : Program} {l : Launch} {e : Env} {s : State} {m : MethodId} {below : List Frame} {meth : Method} {c : Code} {E : Ev} {b L : Nat} {xs : Nat → Int32} (cx : Cx p s m #[Value.ref b] meth c E 115 cL_law 4 RL ret) (hE : Sq E) (hs0 : E.2.1 0 = s.heap.size) (hKx : Kx E s) (hX : va_X b L xs s s.heap) (hbl : b < s.heap.size) (hL : L ≤ 3072) : W p l e room_1 s m #[Value.ref b] below meth c s.heap [] 0 0 (lw_Z below #[Value.ref b] s) (entryFrame m ([Value.ref b] : List Value).toArray 4) := by
  have hbA : ¬ Ad E 115 b := by
    rintro ⟨i, hi, e⟩
    rw [hE i, hs0] at e
    omega
  have hA0 : ∀ q, Ad E 115 q → s.heap.size ≤ q := by
    rintro q ⟨i, hi, rfl⟩
    rw [hE i, hs0]
    omega
  have K : GoK p l e room_1 s m #[Value.ref b] below meth c E 0 4 0 0 (lw_Z below #[Value.ref b] s) Z0 N0 0 0 [(0, .ref b)] [] := by
    refine gk_new (pc' := 3) cx hE (by omega) (fun _ => rfl) (ltn rfl) nwL_7 kq0 (ltn rfl) dL_law_0 (Nat.le_of_ble_eq_true rfl) (Nat.le_of_ble_eq_true rfl) (fun _ => rfl) (fun _ => rfl) rfl rfl ?_
    refine gk_dup (pc' := 4) cx rfl dL_law_3 rfl ?_
    refine gk_ctor (pc' := 7) cx hE hKx (by omega) (fun h9 => absurd h9 (by decide)) (n_X5 l E hE) mi5 lL_9 dL_law_4 rfl rfl ⟨(Nat.le_of_ble_eq_true rfl), (Nat.le_of_ble_eq_true rfl)⟩ (Nat.le_of_ble_eq_true rfl) rfl ⟨(Nat.le_of_ble_eq_true rfl), (Nat.le_of_ble_eq_true rfl)⟩ rfl rfl rfl (fun g1 r1 h1 => ?_)
    obtain ⟨hCG, hz, hn, hR⟩ := h1
    refine gk_w (k1 := 88) (c1 := 88) (s1 := 1972) rfl rfl rfl ?_
    refine gk_astore_n (pc' := 8) cx dL_law_7 (ltn rfl) [(1, .ref (E.2.1 0)), (0, .ref b)] rfl rfl ?_
    refine gk_new (pc' := 11) cx hE (by omega) (fun h9 => absurd h9 (by decide)) (ltn rfl) nwL_10 kq88 (ltn rfl) dL_law_8 (Nat.le_of_ble_eq_true rfl) (Nat.le_of_ble_eq_true rfl) (fun j9 => hz 88 (by omega) j9) (fun j9 => hn 88 (by omega) j9) rfl rfl ?_
    refine gk_dup (pc' := 12) cx rfl dL_law_11 rfl ?_
    refine gk_ctor (pc' := 15) cx hE hKx (by omega) (fun h9 => absurd h9 (by decide)) (n_X6 l E hE hz hn hR) mi6 lL_12 dL_law_12 rfl rfl ⟨(Nat.le_of_ble_eq_true rfl), (Nat.le_of_ble_eq_true rfl)⟩ (Nat.le_of_ble_eq_true rfl) rfl ⟨(Nat.le_of_ble_eq_true rfl), (Nat.le_of_ble_eq_true rfl)⟩ rfl rfl rfl (fun g2 r2 h2 => ?_)
    obtain ⟨hJ, hk, hr2⟩ := h2
    refine gk_r (r' := RFo (some 5)) (funext fun i => funext fun j => hr2 i j) ?_
    refine gk_w (k1 := 115) (c1 := 115) (s1 := 26025) rfl rfl rfl ?_
    refine gk_astore_n (pc' := 16) cx dL_law_15 (ltn rfl) [(2, .ref (E.2.1 88)), (1, .ref (E.2.1 0)), (0, .ref b)] rfl rfl ?_
    refine gk_iconst (pc' := 17) cx 0 dL_law_16 rfl rfl ?_
    refine gk_val (w := .int (nI 0)) rfl ?_
    refine gk_istore_n (pc' := 18) cx dL_law_17 (ltn rfl) [(3, .int (nI 0)), (2, .ref (E.2.1 88)), (1, .ref (E.2.1 0)), (0, .ref b)] rfl rfl ?_
    exact law_loop cx hX hbl hbA hL hA0 600 0 g2 (some 5) 0 (by omega) (by omega) (inv0 hCG hJ hk)
  rw [lg_entry_eq]
  exact K s.heap [] _ ⟨fun k q h => by simp [wsl] at h, fun i j p q h => by simp [wsl] at h, fun k q h => by simp [wsl] at h⟩ va_S.rf (lv_entry [.ref b] (Nat.le_of_ble_eq_true rfl))
