/-! TEXT: what is told, by codes for a stack -/
def Txt (t : Nat) : Prop := t < 6
theorem txt_k' : ∀ t, t < 6 → kd (5 + 4 * t) = (3, 4) ∧ kd (5 + 4 * t + 1) = (10, 160) ∧ kd (5 + 4 * t + 2) = (10, 3) ∧ kd (5 + 4 * t + 3) = (10, 40) := by decide +kernel
theorem txt_r' : ∀ t, t < 6 → RT (5 + 4 * t) 0 = some (5 + 4 * t + 1) ∧ RT (5 + 4 * t) 1 = some (5 + 4 * t + 2) ∧ RT (5 + 4 * t) 2 = some (5 + 4 * t + 3) ∧ RT 1 t = some (5 + 4 * t) := by decide +kernel
theorem txt_r {t : Nat} {o : Option Nat} (h : t < 6) : RFo o (5 + 4 * t) 0 = some (5 + 4 * t + 1) ∧ RFo o (5 + 4 * t) 1 = some (5 + 4 * t + 2) ∧ RFo o (5 + 4 * t) 2 = some (5 + 4 * t + 3) ∧ RFo o 1 t = some (5 + 4 * t) := by
  have := txt_r' t h
  unfold RFo
  rw [if_neg (by omega), if_neg (by omega), if_neg (by omega), if_neg (by omega)]
  exact this
/-- what a name says: six numbers -/
def nmV (L A W k p h c : Int32) : Int32 := if c = 10000 then L else if c = 10001 then A else if c = 10002 then W else if c = 10003 then k else if c = 10004 then p else h
def jnV (c a b : Int32) : Int32 := if c = 10009 then (if a ≠ 0 then 1 else if b ≠ 0 then 1 else 0) else if c = 10010 then (if a = 0 then 0 else if b = 0 then 0 else 1) else if c = 10018 then (if a < b then 1 else 0) else if c = 10019 then (if a = b then 1 else 0) else if c = 10015 then a + b else if c = 10016 then a - b else a * b
/-- the names' numbers at a place of a salon, at a visit or none -/
def evS (g : IG) (so pl : Nat) (vi : Int32) (v : Nat) : Int32 → Int32 := nmV (g (so + 2 + 0) pl) (g (so + 2 + 1) pl) (g (so + 2 + 2) pl) (if vi = -1 then 0 else g (so + 2 + 8) v) (nI pl) (if vi = -1 then 0 else g (so + 2 + 7) v)
abbrev SK : Type := Nat × (Nat → Int32)
def stp (ev : Int32 → Int32) (c : Int32) (S : SK) : SK :=
  if c ≤ 10005 ∧ S.1 < 40 then (S.1 + 1, upd S.2 S.1 (if c < 10000 then c else ev c))
  else if c = 10020 ∧ 1 ≤ S.1 then (S.1, upd S.2 (S.1 - 1) (-(S.2 (S.1 - 1))))
  else if c = 10011 ∧ 1 ≤ S.1 then (S.1, upd S.2 (S.1 - 1) (if S.2 (S.1 - 1) = 0 then 1 else 0))
  else if 2 ≤ S.1 then (S.1 - 1, upd S.2 (S.1 - 2) (jnV c (S.2 (S.1 - 2)) (S.2 (S.1 - 1))))
  else S
def rnS (ev : Int32 → Int32) (code : Nat → Int32) : Nat → Nat → SK → SK
  | _, 0, S => S
  | i, k + 1, S => rnS ev code (i + 1) k (stp ev (code i) S)
def clp (x : Int32) : Int32 := if 0 < (if x < 99 then x else 99) then (if x < 99 then x else 99) else 0
/-- what a part of a text tells: from the code's places i .. e -/
def tellV (ev : Int32 → Int32) (code : Nat → Int32) (i e : Nat) (f : Nat → Int32) : Int32 :=
  let S := rnS ev code i (e - i) (0, f)
  clp (if 0 < S.1 then S.2 (S.1 - 1) else 0)

set_option maxHeartbeats 4000000 in
set_option maxRecDepth 20000 in
theorem c_X3_joined (l : Launch) (E : Ev) {n : Nat} {g : IG} {r : RG} {z : Int64} (cx1 a1 b1 : Int32) : Ct l E n yX3_joined cX3_joined 3 (some .int) 1 [.int cx1, .int a1, .int b1] g r z (Zi r z (jnV cx1 a1 b1) g) := by
  refine Ct.of (lv0 := [(0, .int cx1), (1, .int a1), (2, .int b1)]) (by decide) (Nat.le_of_ble_eq_true rfl) rfl ?_
  intro p e s m below meth c cx
  refine go_iload_n (pc' := 1) cx dX3_joined_0 rfl rfl ?_
  by_cases c1 : cx1 = 10009
  · refine go_tabIn cx 60 dX3_joined_1 (by rw [c1]; decide) (by rw [c1]; decide) (by rw [c1]; rfl) rfl ?_
    refine go_iload_n (pc' := 61) cx dX3_joined_60 rfl rfl ?_
    refine go_if_ne (pc' := 64) cx 68 dX3_joined_61 rfl rfl (fun c61 => ?_) (fun c61 => ?_)
    · refine go_iconst (pc' := 69) cx 1 dX3_joined_68 rfl rfl ?_
      refine go_goto cx 73 dX3_joined_69 rfl ?_
      refine go_iret cx rfl dX3_joined_73 ?_
      exact Zi.mk (by first | (simp [jnV, c1, c61]; done) | (simp_all [jnV, c1, c61]; done) | ((try unfold jnV); (repeat' split) <;> first | rfl | contradiction | (simp_all; done))) rfl
    · refine go_iload_n (pc' := 65) cx dX3_joined_64 rfl rfl ?_
      refine go_if_eq (pc' := 68) cx 72 dX3_joined_65 rfl rfl (fun c65 => ?_) (fun c65 => ?_)
      · refine go_iconst (pc' := 73) cx 0 dX3_joined_72 rfl rfl ?_
        refine go_iret cx rfl dX3_joined_73 ?_
        exact Zi.mk (by first | (simp [jnV, c1, c61, c65]; done) | (simp_all [jnV, c1, c61, c65]; done) | ((try unfold jnV); (repeat' split) <;> first | rfl | contradiction | (simp_all; done))) rfl
      · refine go_iconst (pc' := 69) cx 1 dX3_joined_68 rfl rfl ?_
        refine go_goto cx 73 dX3_joined_69 rfl ?_
        refine go_iret cx rfl dX3_joined_73 ?_
        exact Zi.mk (by first | (simp [jnV, c1, c61, c65]; done) | (simp_all [jnV, c1, c61, c65]; done) | ((try unfold jnV); (repeat' split) <;> first | rfl | contradiction | (simp_all; done))) rfl
  have n1_10009 := c1
  by_cases c1 : cx1 = 10010
  · refine go_tabIn cx 74 dX3_joined_1 (by rw [c1]; decide) (by rw [c1]; decide) (by rw [c1]; rfl) rfl ?_
    refine go_iload_n (pc' := 75) cx dX3_joined_74 rfl rfl ?_
    refine go_if_eq (pc' := 78) cx 86 dX3_joined_75 rfl rfl (fun c75 => ?_) (fun c75 => ?_)
    · refine go_iconst (pc' := 87) cx 0 dX3_joined_86 rfl rfl ?_
      refine go_iret cx rfl dX3_joined_87 ?_
      exact Zi.mk (by first | (simp [jnV, n1_10009, c1, c75]; done) | (simp_all [jnV, n1_10009, c1, c75]; done) | ((try unfold jnV); (repeat' split) <;> first | rfl | contradiction | (simp_all; done))) rfl
    · refine go_iload_n (pc' := 79) cx dX3_joined_78 rfl rfl ?_
      refine go_if_eq (pc' := 82) cx 86 dX3_joined_79 rfl rfl (fun c79 => ?_) (fun c79 => ?_)
      · refine go_iconst (pc' := 87) cx 0 dX3_joined_86 rfl rfl ?_
        refine go_iret cx rfl dX3_joined_87 ?_
        exact Zi.mk (by first | (simp [jnV, n1_10009, c1, c75, c79]; done) | (simp_all [jnV, n1_10009, c1, c75, c79]; done) | ((try unfold jnV); (repeat' split) <;> first | rfl | contradiction | (simp_all; done))) rfl
      · refine go_iconst (pc' := 83) cx 1 dX3_joined_82 rfl rfl ?_
        refine go_goto cx 87 dX3_joined_83 rfl ?_
        refine go_iret cx rfl dX3_joined_87 ?_
        exact Zi.mk (by first | (simp [jnV, n1_10009, c1, c75, c79]; done) | (simp_all [jnV, n1_10009, c1, c75, c79]; done) | ((try unfold jnV); (repeat' split) <;> first | rfl | contradiction | (simp_all; done))) rfl
  have n1_10010 := c1
  by_cases c1 : cx1 = 10015
  · refine go_tabIn cx 110 dX3_joined_1 (by rw [c1]; decide) (by rw [c1]; decide) (by rw [c1]; rfl) rfl ?_
    refine go_iload_n (pc' := 111) cx dX3_joined_110 rfl rfl ?_
    refine go_iload_n (pc' := 112) cx dX3_joined_111 rfl rfl ?_
    refine go_iadd (pc' := 113) cx dX3_joined_112 rfl ?_
    refine go_iret cx rfl dX3_joined_113 ?_
    exact Zi.mk (by first | (simp [jnV, n1_10009, n1_10010, c1]; done) | (simp_all [jnV, n1_10009, n1_10010, c1]; done) | ((try unfold jnV); (repeat' split) <;> first | rfl | contradiction | (simp_all; done))) rfl
  have n1_10015 := c1
  by_cases c1 : cx1 = 10016
  · refine go_tabIn cx 114 dX3_joined_1 (by rw [c1]; decide) (by rw [c1]; decide) (by rw [c1]; rfl) rfl ?_
    refine go_iload_n (pc' := 115) cx dX3_joined_114 rfl rfl ?_
    refine go_iload_n (pc' := 116) cx dX3_joined_115 rfl rfl ?_
    refine go_isub (pc' := 117) cx dX3_joined_116 rfl ?_
    refine go_iret cx rfl dX3_joined_117 ?_
    exact Zi.mk (by first | (simp [jnV, n1_10009, n1_10010, n1_10015, c1]; done) | (simp_all [jnV, n1_10009, n1_10010, n1_10015, c1]; done) | ((try unfold jnV); (repeat' split) <;> first | rfl | contradiction | (simp_all; done))) rfl
  have n1_10016 := c1
  by_cases c1 : cx1 = 10018
  · refine go_tabIn cx 88 dX3_joined_1 (by rw [c1]; decide) (by rw [c1]; decide) (by rw [c1]; rfl) rfl ?_
    refine go_iload_n (pc' := 89) cx dX3_joined_88 rfl rfl ?_
    refine go_iload_n (pc' := 90) cx dX3_joined_89 rfl rfl ?_
    refine go_icmp_ge (pc' := 93) cx 97 dX3_joined_90 rfl rfl (fun c90 => ?_) (fun c90 => ?_)
    · refine go_iconst (pc' := 98) cx 0 dX3_joined_97 rfl rfl ?_
      refine go_iret cx rfl dX3_joined_98 ?_
      exact Zi.mk (by first | (simp [jnV, n1_10009, n1_10010, n1_10015, n1_10016, c1, c90]; done) | (simp_all [jnV, n1_10009, n1_10010, n1_10015, n1_10016, c1, c90]; done) | ((try unfold jnV); (repeat' split) <;> first | rfl | contradiction | (simp_all; done))) rfl
    · refine go_iconst (pc' := 94) cx 1 dX3_joined_93 rfl rfl ?_
      refine go_goto cx 98 dX3_joined_94 rfl ?_
      refine go_iret cx rfl dX3_joined_98 ?_
      exact Zi.mk (by first | (simp [jnV, n1_10009, n1_10010, n1_10015, n1_10016, c1, c90]; done) | (simp_all [jnV, n1_10009, n1_10010, n1_10015, n1_10016, c1, c90]; done) | ((try unfold jnV); (repeat' split) <;> first | rfl | contradiction | (simp_all; done))) rfl
  have n1_10018 := c1
  by_cases c1 : cx1 = 10019
  · refine go_tabIn cx 99 dX3_joined_1 (by rw [c1]; decide) (by rw [c1]; decide) (by rw [c1]; rfl) rfl ?_
    refine go_iload_n (pc' := 100) cx dX3_joined_99 rfl rfl ?_
    refine go_iload_n (pc' := 101) cx dX3_joined_100 rfl rfl ?_
    refine go_icmp_ne (pc' := 104) cx 108 dX3_joined_101 rfl rfl (fun c101 => ?_) (fun c101 => ?_)
    · refine go_iconst (pc' := 109) cx 0 dX3_joined_108 rfl rfl ?_
      refine go_iret cx rfl dX3_joined_109 ?_
      exact Zi.mk (by first | (simp [jnV, n1_10009, n1_10010, n1_10015, n1_10016, n1_10018, c1, c101]; done) | (simp_all [jnV, n1_10009, n1_10010, n1_10015, n1_10016, n1_10018, c1, c101]; done) | ((try unfold jnV); (repeat' split) <;> first | rfl | contradiction | (simp_all; done))) rfl
    · refine go_iconst (pc' := 105) cx 1 dX3_joined_104 rfl rfl ?_
      refine go_goto cx 109 dX3_joined_105 rfl ?_
      refine go_iret cx rfl dX3_joined_109 ?_
      exact Zi.mk (by first | (simp [jnV, n1_10009, n1_10010, n1_10015, n1_10016, n1_10018, c1, c101]; done) | (simp_all [jnV, n1_10009, n1_10010, n1_10015, n1_10016, n1_10018, c1, c101]; done) | ((try unfold jnV); (repeat' split) <;> first | rfl | contradiction | (simp_all; done))) rfl
  have n1_10019 := c1
  refine go_tabD cx 118 dX3_joined_1 ?_ rfl ?_
  · by_cases q1 : cx1.toInt < 10009
    · exact Or.inl (Or.inl q1)
    by_cases q2 : 10019 < cx1.toInt
    · exact Or.inl (Or.inr q2)
    refine Or.inr ⟨q1, q2, ?_⟩
    rcases (show cx1.toInt = 10009 ∨ cx1.toInt = 10010 ∨ cx1.toInt = 10011 ∨ cx1.toInt = 10012 ∨ cx1.toInt = 10013 ∨ cx1.toInt = 10014 ∨ cx1.toInt = 10015 ∨ cx1.toInt = 10016 ∨ cx1.toInt = 10017 ∨ cx1.toInt = 10018 ∨ cx1.toInt = 10019 by omega) with q3 | q3 | q3 | q3 | q3 | q3 | q3 | q3 | q3 | q3 | q3
    · exact absurd (Int32.toInt_inj.mp (q3.trans (by decide))) n1_10009
    · exact absurd (Int32.toInt_inj.mp (q3.trans (by decide))) n1_10010
    · rw [q3]; rfl
    · rw [q3]; rfl
    · rw [q3]; rfl
    · rw [q3]; rfl
    · exact absurd (Int32.toInt_inj.mp (q3.trans (by decide))) n1_10015
    · exact absurd (Int32.toInt_inj.mp (q3.trans (by decide))) n1_10016
    · rw [q3]; rfl
    · exact absurd (Int32.toInt_inj.mp (q3.trans (by decide))) n1_10018
    · exact absurd (Int32.toInt_inj.mp (q3.trans (by decide))) n1_10019
  refine go_iload_n (pc' := 119) cx dX3_joined_118 rfl rfl ?_
  refine go_iload_n (pc' := 120) cx dX3_joined_119 rfl rfl ?_
  refine go_imul (pc' := 121) cx dX3_joined_120 rfl ?_
  refine go_iret cx rfl dX3_joined_121 ?_
  exact Zi.mk (by first | (simp [jnV, n1_10009, n1_10010, n1_10015, n1_10016, n1_10018, n1_10019]; done) | (simp_all [jnV, n1_10009, n1_10010, n1_10015, n1_10016, n1_10018, n1_10019]; done) | ((try unfold jnV); (repeat' split) <;> first | rfl | contradiction | (simp_all; done))) rfl

set_option maxHeartbeats 4000000 in
set_option maxRecDepth 20000 in
theorem c_X3_named (l : Launch) (E : Ev) {g : IG} {o : Option Nat} {z : Int64} {so pl v : Nat} (hs : Sal so) (hpl : pl < 4) (cx1 vi : Int32) (hv : vi ≠ -1 → vi = nI v ∧ v < 8) : Ct l E 115 yX3_named cX3_named 4 (some .int) 1 [.int cx1, .int (nI pl), .ref (E.2.1 so), .int vi] g (RFo o) z (Zi (RFo o) z (evS g so pl vi v cx1) g) := by
  refine Ct.of (lv0 := [(0, .int cx1), (1, .int (nI pl)), (2, .ref (E.2.1 so)), (3, .int vi)]) (by decide) (Nat.le_of_ble_eq_true rfl) rfl ?_
  intro p e s m below meth c cx
  refine go_iload_n (pc' := 1) cx dX3_named_0 rfl rfl ?_
  by_cases c1 : cx1 = 10000
  · refine go_tabIn cx 36 dX3_named_1 (by rw [c1]; decide) (by rw [c1]; decide) (by rw [c1]; rfl) rfl ?_
    refine go_aload_n (pc' := 37) cx dX3_named_36 rfl rfl ?_
    refine go_getr (pc' := 40) cx (so + 1) fX3_42 dX3_named_37 (sal_k0 hs) (sal_l0 hs) (ltn rfl) rfl (sal_r1 hs) rfl ?_
    refine go_iconst (pc' := 41) cx 0 dX3_named_40 rfl rfl ?_
    refine go_aaldk (pc' := 42) cx 0 (so + 2 + 0) dX3_named_41 (sal_k1 hs) (Nat.le_of_ble_eq_true rfl) (ltn rfl) (sal_l1 hs) (vpi (k := 0) (a := 1) (ltn rfl) rfl rfl) (cli (k := 0) (a := 1) (ltn rfl) rfl) (sal_rr hs (ltn rfl)) rfl ?_
    refine go_iload_n (pc' := 43) cx dX3_named_42 rfl rfl ?_
    refine go_iald (pc' := 44) cx (g (so + 2 + 0) pl) dX3_named_43 (sal_kr hs (ltn rfl)) (sal_lr hs (ltn rfl)) (vpi (k := pl) (a := 4) hpl rfl rfl) (congrArg (g (so + 2 + 0)) (cli (k := pl) (a := 4) hpl rfl)) rfl ?_
    refine go_iret cx rfl dX3_named_44 ?_
    exact Zi.mk (by first | (simp [evS, nmV, c1]; done) | (simp_all [evS, nmV, c1]; done) | ((try unfold evS nmV); (repeat' split) <;> first | rfl | contradiction | (simp_all; done))) rfl
  have n1_10000 := c1
  by_cases c1 : cx1 = 10001
  · refine go_tabIn cx 45 dX3_named_1 (by rw [c1]; decide) (by rw [c1]; decide) (by rw [c1]; rfl) rfl ?_
    refine go_aload_n (pc' := 46) cx dX3_named_45 rfl rfl ?_
    refine go_getr (pc' := 49) cx (so + 1) fX3_42 dX3_named_46 (sal_k0 hs) (sal_l0 hs) (ltn rfl) rfl (sal_r1 hs) rfl ?_
    refine go_iconst (pc' := 50) cx 1 dX3_named_49 rfl rfl ?_
    refine go_aaldk (pc' := 51) cx 1 (so + 2 + 1) dX3_named_50 (sal_k1 hs) (Nat.le_of_ble_eq_true rfl) (ltn rfl) (sal_l1 hs) (vpi (k := 1) (a := 2) (ltn rfl) rfl rfl) (cli (k := 1) (a := 2) (ltn rfl) rfl) (sal_rr hs (ltn rfl)) rfl ?_
    refine go_iload_n (pc' := 52) cx dX3_named_51 rfl rfl ?_
    refine go_iald (pc' := 53) cx (g (so + 2 + 1) pl) dX3_named_52 (sal_kr hs (ltn rfl)) (sal_lr hs (ltn rfl)) (vpi (k := pl) (a := 4) hpl rfl rfl) (congrArg (g (so + 2 + 1)) (cli (k := pl) (a := 4) hpl rfl)) rfl ?_
    refine go_iret cx rfl dX3_named_53 ?_
    exact Zi.mk (by first | (simp [evS, nmV, n1_10000, c1]; done) | (simp_all [evS, nmV, n1_10000, c1]; done) | ((try unfold evS nmV); (repeat' split) <;> first | rfl | contradiction | (simp_all; done))) rfl
  have n1_10001 := c1
  by_cases c1 : cx1 = 10002
  · refine go_tabIn cx 54 dX3_named_1 (by rw [c1]; decide) (by rw [c1]; decide) (by rw [c1]; rfl) rfl ?_
    refine go_aload_n (pc' := 55) cx dX3_named_54 rfl rfl ?_
    refine go_getr (pc' := 58) cx (so + 1) fX3_42 dX3_named_55 (sal_k0 hs) (sal_l0 hs) (ltn rfl) rfl (sal_r1 hs) rfl ?_
    refine go_iconst (pc' := 59) cx 2 dX3_named_58 rfl rfl ?_
    refine go_aaldk (pc' := 60) cx 2 (so + 2 + 2) dX3_named_59 (sal_k1 hs) (Nat.le_of_ble_eq_true rfl) (ltn rfl) (sal_l1 hs) (vpi (k := 2) (a := 3) (ltn rfl) rfl rfl) (cli (k := 2) (a := 3) (ltn rfl) rfl) (sal_rr hs (ltn rfl)) rfl ?_
    refine go_iload_n (pc' := 61) cx dX3_named_60 rfl rfl ?_
    refine go_iald (pc' := 62) cx (g (so + 2 + 2) pl) dX3_named_61 (sal_kr hs (ltn rfl)) (sal_lr hs (ltn rfl)) (vpi (k := pl) (a := 4) hpl rfl rfl) (congrArg (g (so + 2 + 2)) (cli (k := pl) (a := 4) hpl rfl)) rfl ?_
    refine go_iret cx rfl dX3_named_62 ?_
    exact Zi.mk (by first | (simp [evS, nmV, n1_10000, n1_10001, c1]; done) | (simp_all [evS, nmV, n1_10000, n1_10001, c1]; done) | ((try unfold evS nmV); (repeat' split) <;> first | rfl | contradiction | (simp_all; done))) rfl
  have n1_10002 := c1
  by_cases c1 : cx1 = 10003
  · refine go_tabIn cx 63 dX3_named_1 (by rw [c1]; decide) (by rw [c1]; decide) (by rw [c1]; rfl) rfl ?_
    refine go_iload_n (pc' := 64) cx dX3_named_63 rfl rfl ?_
    refine go_iconst (pc' := 65) cx (-1) dX3_named_64 rfl rfl ?_
    refine go_icmp_ne (pc' := 68) cx 72 dX3_named_65 rfl rfl (fun c65 => ?_) (fun c65 => ?_)
    · obtain ⟨hv1, hv2⟩ := hv c65
      refine go_aload_n (pc' := 73) cx dX3_named_72 rfl rfl ?_
      refine go_getr (pc' := 76) cx (so + 1) fX3_42 dX3_named_73 (sal_k0 hs) (sal_l0 hs) (ltn rfl) rfl (sal_r1 hs) rfl ?_
      refine go_bipush (pc' := 78) cx 8 dX3_named_76 rfl rfl ?_
      refine go_aaldk (pc' := 79) cx 8 (so + 2 + 8) dX3_named_78 (sal_k1 hs) (Nat.le_of_ble_eq_true rfl) (ltn rfl) (sal_l1 hs) (vpi (k := 8) (a := 9) (ltn rfl) rfl rfl) (cli (k := 8) (a := 9) (ltn rfl) rfl) (sal_rr hs (ltn rfl)) rfl ?_
      refine go_iload_n (pc' := 80) cx dX3_named_79 rfl rfl ?_
      refine go_iald (pc' := 81) cx (g (so + 2 + 8) v) dX3_named_80 (sal_kr hs (ltn rfl)) (sal_lr hs (ltn rfl)) (vpx (hv1 ▸ vpi hv2 rfl rfl) rfl) (by rw [hv1, cli hv2 rfl]) rfl ?_
      refine go_iret cx rfl dX3_named_81 ?_
      exact Zi.mk (by first | (simp [evS, nmV, n1_10000, n1_10001, n1_10002, c1, c65]; done) | (simp_all [evS, nmV, n1_10000, n1_10001, n1_10002, c1, c65]; done) | ((try unfold evS nmV); (repeat' split) <;> first | rfl | contradiction | (simp_all; done))) rfl
    · refine go_iconst (pc' := 69) cx 0 dX3_named_68 rfl rfl ?_
      refine go_goto cx 81 dX3_named_69 rfl ?_
      refine go_iret cx rfl dX3_named_81 ?_
      exact Zi.mk (by first | (simp [evS, nmV, n1_10000, n1_10001, n1_10002, c1, c65]; done) | (simp_all [evS, nmV, n1_10000, n1_10001, n1_10002, c1, c65]; done) | ((try unfold evS nmV); (repeat' split) <;> first | rfl | contradiction | (simp_all; done))) rfl
  have n1_10003 := c1
  by_cases c1 : cx1 = 10004
  · refine go_tabIn cx 82 dX3_named_1 (by rw [c1]; decide) (by rw [c1]; decide) (by rw [c1]; rfl) rfl ?_
    refine go_iload_n (pc' := 83) cx dX3_named_82 rfl rfl ?_
    refine go_iret cx rfl dX3_named_83 ?_
    exact Zi.mk (by first | (simp [evS, nmV, n1_10000, n1_10001, n1_10002, n1_10003, c1]; done) | (simp_all [evS, nmV, n1_10000, n1_10001, n1_10002, n1_10003, c1]; done) | ((try unfold evS nmV); (repeat' split) <;> first | rfl | contradiction | (simp_all; done))) rfl
  have n1_10004 := c1
  refine go_tabD cx 84 dX3_named_1 ?_ rfl ?_
  · by_cases q1 : cx1.toInt < 10000
    · exact Or.inl (Or.inl q1)
    by_cases q2 : 10004 < cx1.toInt
    · exact Or.inl (Or.inr q2)
    refine Or.inr ⟨q1, q2, ?_⟩
    rcases (show cx1.toInt = 10000 ∨ cx1.toInt = 10001 ∨ cx1.toInt = 10002 ∨ cx1.toInt = 10003 ∨ cx1.toInt = 10004 by omega) with q3 | q3 | q3 | q3 | q3
    · exact absurd (Int32.toInt_inj.mp (q3.trans (by decide))) n1_10000
    · exact absurd (Int32.toInt_inj.mp (q3.trans (by decide))) n1_10001
    · exact absurd (Int32.toInt_inj.mp (q3.trans (by decide))) n1_10002
    · exact absurd (Int32.toInt_inj.mp (q3.trans (by decide))) n1_10003
    · exact absurd (Int32.toInt_inj.mp (q3.trans (by decide))) n1_10004
  refine go_iload_n (pc' := 85) cx dX3_named_84 rfl rfl ?_
  refine go_iconst (pc' := 86) cx (-1) dX3_named_85 rfl rfl ?_
  refine go_icmp_ne (pc' := 89) cx 93 dX3_named_86 rfl rfl (fun c86 => ?_) (fun c86 => ?_)
  · obtain ⟨hv1, hv2⟩ := hv c86
    refine go_aload_n (pc' := 94) cx dX3_named_93 rfl rfl ?_
    refine go_getr (pc' := 97) cx (so + 1) fX3_42 dX3_named_94 (sal_k0 hs) (sal_l0 hs) (ltn rfl) rfl (sal_r1 hs) rfl ?_
    refine go_bipush (pc' := 99) cx 7 dX3_named_97 rfl rfl ?_
    refine go_aaldk (pc' := 100) cx 7 (so + 2 + 7) dX3_named_99 (sal_k1 hs) (Nat.le_of_ble_eq_true rfl) (ltn rfl) (sal_l1 hs) (vpi (k := 7) (a := 8) (ltn rfl) rfl rfl) (cli (k := 7) (a := 8) (ltn rfl) rfl) (sal_rr hs (ltn rfl)) rfl ?_
    refine go_iload_n (pc' := 101) cx dX3_named_100 rfl rfl ?_
    refine go_iald (pc' := 102) cx (g (so + 2 + 7) v) dX3_named_101 (sal_kr hs (ltn rfl)) (sal_lr hs (ltn rfl)) (vpx (hv1 ▸ vpi hv2 rfl rfl) rfl) (by rw [hv1, cli hv2 rfl]) rfl ?_
    refine go_iret cx rfl dX3_named_102 ?_
    exact Zi.mk (by first | (simp [evS, nmV, n1_10000, n1_10001, n1_10002, n1_10003, n1_10004, c86]; done) | (simp_all [evS, nmV, n1_10000, n1_10001, n1_10002, n1_10003, n1_10004, c86]; done) | ((try unfold evS nmV); (repeat' split) <;> first | rfl | contradiction | (simp_all; done))) rfl
  · refine go_iconst (pc' := 90) cx 0 dX3_named_89 rfl rfl ?_
    refine go_goto cx 102 dX3_named_90 rfl ?_
    refine go_iret cx rfl dX3_named_102 ?_
    exact Zi.mk (by first | (simp [evS, nmV, n1_10000, n1_10001, n1_10002, n1_10003, n1_10004, c86]; done) | (simp_all [evS, nmV, n1_10000, n1_10001, n1_10002, n1_10003, n1_10004, c86]; done) | ((try unfold evS nmV); (repeat' split) <;> first | rfl | contradiction | (simp_all; done))) rfl
