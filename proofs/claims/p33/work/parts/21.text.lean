/-! TEXT: what is told, by codes for a stack -/
def Txt (t : Nat) : Prop := t < 6
theorem txt_k' : ∀ t, t < 6 → kd (5 + 4 * t) = (3, 4) ∧ kd (5 + 4 * t + 1) = (10, 160) ∧ kd (5 + 4 * t + 2) = (10, 3) ∧ kd (5 + 4 * t + 3) = (10, 40) := by decide +kernel
theorem txt_r' : ∀ t, t < 6 → RT (5 + 4 * t) 0 = some (5 + 4 * t + 1) ∧ RT (5 + 4 * t) 1 = some (5 + 4 * t + 2) ∧ RT (5 + 4 * t) 2 = some (5 + 4 * t + 3) ∧ RT 1 t = some (5 + 4 * t) := by decide +kernel
theorem txt_r {t : Nat} {o : Option Nat} (h : t < 6) : RFo o (5 + 4 * t) 0 = some (5 + 4 * t + 1) ∧ RFo o (5 + 4 * t) 1 = some (5 + 4 * t + 2) ∧ RFo o (5 + 4 * t) 2 = some (5 + 4 * t + 3) ∧ RFo o 1 t = some (5 + 4 * t) := by
  have := txt_r' t h
  unfold RFo
  rw [if_neg (by omega), if_neg (by omega), if_neg (by omega), if_neg (by omega)]
  exact this
/-- what a name says: six numbers -/
def nmV (L A W k p h c : Int32) : Int32 := if c = 10000 then L else if c = 10001 then A else if c = 10002 then W else if c = 10003 then k else if c = 10004 then p else h
def jnV (c a b : Int32) : Int32 := if c = 10009 then (if a ≠ 0 then 1 else if b ≠ 0 then 1 else 0) else if c = 10010 then (if a = 0 then 0 else if b = 0 then 0 else 1) else if c = 10018 then (if a < b then 1 else 0) else if c = 10019 then (if a = b then 1 else 0) else if c = 10015 then a + b else if c = 10016 then a - b else a * b
/-- the names' numbers at a place of a salon, at a visit or none -/
def evS (g : IG) (so pl : Nat) (vi : Int32) (v : Nat) : Int32 → Int32 := nmV (g (so + 2 + 0) pl) (g (so + 2 + 1) pl) (g (so + 2 + 2) pl) (if vi = -1 then 0 else g (so + 2 + 8) v) (nI pl) (if vi = -1 then 0 else g (so + 2 + 7) v)
abbrev SK : Type := Nat × (Nat → Int32)
def stp (ev : Int32 → Int32) (c : Int32) (S : SK) : SK :=
  if 10005 < c ∨ 40 ≤ S.1 then
    (if c = 10020 ∧ ¬ S.1 < 1 then (S.1, upd S.2 (S.1 - 1) (-(S.2 (S.1 - 1))))
    else if c = 10011 ∧ ¬ S.1 < 1 then (S.1, upd S.2 (S.1 - 1) (if S.2 (S.1 - 1) = 0 then 1 else 0))
    else if S.1 < 2 then S
    else (S.1 - 1, upd S.2 (S.1 - 1 - 1) (jnV c (S.2 (S.1 - 1 - 1)) (S.2 (S.1 - 1)))))
  else (S.1 + 1, upd S.2 S.1 (if 10000 ≤ c then ev c else c))
def rnS (ev : Int32 → Int32) (code : Nat → Int32) : Nat → Nat → SK → SK
  | _, 0, S => S
  | i, k + 1, S => rnS ev code (i + 1) k (stp ev (code i) S)
def clp (x : Int32) : Int32 := if 0 < (if x < 99 then x else 99) then (if x < 99 then x else 99) else 0
/-- what a part of a text tells: from the code's places i .. e -/
def tellV (ev : Int32 → Int32) (code : Nat → Int32) (i e : Nat) (f : Nat → Int32) : Int32 :=
  let S := rnS ev code i (e - i) (0, f)
  clp (if 0 < S.1 then S.2 (S.1 - 1) else 0)
theorem nI_m1 {a : Nat} (h : 1 ≤ a) : nI a + Int32.ofInt (-1) = nI (a - 1) := sb_m1 h
theorem stp_le {ev : Int32 → Int32} {c : Int32} {S : SK} (h : S.1 ≤ 40) : (stp ev c S).1 ≤ 40 := by
  unfold stp
  split
  · split
    · exact h
    · split
      · exact h
      · split
        · exact h
        · show S.1 - 1 ≤ 40
          omega
  · show S.1 + 1 ≤ 40
    omega

set_option maxHeartbeats 4000000 in
set_option maxRecDepth 20000 in
theorem c_X3_joined (l : Launch) (E : Ev) {n : Nat} {g : IG} {r : RG} {z : Int64} (cx1 a1 b1 : Int32) : Ct l E n yX3_joined cX3_joined 3 (some .int) 1 [.int cx1, .int a1, .int b1] g r z (Zi r z (jnV cx1 a1 b1) g) := by
  refine Ct.of (lv0 := [(0, .int cx1), (1, .int a1), (2, .int b1)]) (by decide) (Nat.le_of_ble_eq_true rfl) rfl ?_
  intro p e s m below meth c cx
  refine go_iload_n (pc' := 1) cx dX3_joined_0 rfl rfl ?_
  by_cases c1 : cx1 = 10009
  · refine go_tabIn cx 60 dX3_joined_1 (by rw [c1]; decide) (by rw [c1]; decide) (by rw [c1]; rfl) rfl ?_
    refine go_iload_n (pc' := 61) cx dX3_joined_60 rfl rfl ?_
    refine go_if_ne (pc' := 64) cx 68 dX3_joined_61 rfl rfl (fun c61 => ?_) (fun c61 => ?_)
    · refine go_iconst (pc' := 69) cx 1 dX3_joined_68 rfl rfl ?_
      refine go_goto cx 73 dX3_joined_69 rfl ?_
      refine go_iret cx rfl dX3_joined_73 ?_
      exact Zi.mk (by first | (simp [jnV, c1, c61]; done) | (simp_all [jnV, c1, c61]; done) | ((try unfold jnV); (repeat' split) <;> first | rfl | contradiction | (simp_all; done))) rfl
    · refine go_iload_n (pc' := 65) cx dX3_joined_64 rfl rfl ?_
      refine go_if_eq (pc' := 68) cx 72 dX3_joined_65 rfl rfl (fun c65 => ?_) (fun c65 => ?_)
      · refine go_iconst (pc' := 73) cx 0 dX3_joined_72 rfl rfl ?_
        refine go_iret cx rfl dX3_joined_73 ?_
        exact Zi.mk (by first | (simp [jnV, c1, c61, c65]; done) | (simp_all [jnV, c1, c61, c65]; done) | ((try unfold jnV); (repeat' split) <;> first | rfl | contradiction | (simp_all; done))) rfl
      · refine go_iconst (pc' := 69) cx 1 dX3_joined_68 rfl rfl ?_
        refine go_goto cx 73 dX3_joined_69 rfl ?_
        refine go_iret cx rfl dX3_joined_73 ?_
        exact Zi.mk (by first | (simp [jnV, c1, c61, c65]; done) | (simp_all [jnV, c1, c61, c65]; done) | ((try unfold jnV); (repeat' split) <;> first | rfl | contradiction | (simp_all; done))) rfl
  have n1_10009 := c1
  by_cases c1 : cx1 = 10010
  · refine go_tabIn cx 74 dX3_joined_1 (by rw [c1]; decide) (by rw [c1]; decide) (by rw [c1]; rfl) rfl ?_
    refine go_iload_n (pc' := 75) cx dX3_joined_74 rfl rfl ?_
    refine go_if_eq (pc' := 78) cx 86 dX3_joined_75 rfl rfl (fun c75 => ?_) (fun c75 => ?_)
    · refine go_iconst (pc' := 87) cx 0 dX3_joined_86 rfl rfl ?_
      refine go_iret cx rfl dX3_joined_87 ?_
      exact Zi.mk (by first | (simp [jnV, n1_10009, c1, c75]; done) | (simp_all [jnV, n1_10009, c1, c75]; done) | ((try unfold jnV); (repeat' split) <;> first | rfl | contradiction | (simp_all; done))) rfl
    · refine go_iload_n (pc' := 79) cx dX3_joined_78 rfl rfl ?_
      refine go_if_eq (pc' := 82) cx 86 dX3_joined_79 rfl rfl (fun c79 => ?_) (fun c79 => ?_)
      · refine go_iconst (pc' := 87) cx 0 dX3_joined_86 rfl rfl ?_
        refine go_iret cx rfl dX3_joined_87 ?_
        exact Zi.mk (by first | (simp [jnV, n1_10009, c1, c75, c79]; done) | (simp_all [jnV, n1_10009, c1, c75, c79]; done) | ((try unfold jnV); (repeat' split) <;> first | rfl | contradiction | (simp_all; done))) rfl
      · refine go_iconst (pc' := 83) cx 1 dX3_joined_82 rfl rfl ?_
        refine go_goto cx 87 dX3_joined_83 rfl ?_
        refine go_iret cx rfl dX3_joined_87 ?_
        exact Zi.mk (by first | (simp [jnV, n1_10009, c1, c75, c79]; done) | (simp_all [jnV, n1_10009, c1, c75, c79]; done) | ((try unfold jnV); (repeat' split) <;> first | rfl | contradiction | (simp_all; done))) rfl
  have n1_10010 := c1
  by_cases c1 : cx1 = 10015
  · refine go_tabIn cx 110 dX3_joined_1 (by rw [c1]; decide) (by rw [c1]; decide) (by rw [c1]; rfl) rfl ?_
    refine go_iload_n (pc' := 111) cx dX3_joined_110 rfl rfl ?_
    refine go_iload_n (pc' := 112) cx dX3_joined_111 rfl rfl ?_
    refine go_iadd (pc' := 113) cx dX3_joined_112 rfl ?_
    refine go_iret cx rfl dX3_joined_113 ?_
    exact Zi.mk (by first | (simp [jnV, n1_10009, n1_10010, c1]; done) | (simp_all [jnV, n1_10009, n1_10010, c1]; done) | ((try unfold jnV); (repeat' split) <;> first | rfl | contradiction | (simp_all; done))) rfl
  have n1_10015 := c1
  by_cases c1 : cx1 = 10016
  · refine go_tabIn cx 114 dX3_joined_1 (by rw [c1]; decide) (by rw [c1]; decide) (by rw [c1]; rfl) rfl ?_
    refine go_iload_n (pc' := 115) cx dX3_joined_114 rfl rfl ?_
    refine go_iload_n (pc' := 116) cx dX3_joined_115 rfl rfl ?_
    refine go_isub (pc' := 117) cx dX3_joined_116 rfl ?_
    refine go_iret cx rfl dX3_joined_117 ?_
    exact Zi.mk (by first | (simp [jnV, n1_10009, n1_10010, n1_10015, c1]; done) | (simp_all [jnV, n1_10009, n1_10010, n1_10015, c1]; done) | ((try unfold jnV); (repeat' split) <;> first | rfl | contradiction | (simp_all; done))) rfl
  have n1_10016 := c1
  by_cases c1 : cx1 = 10018
  · refine go_tabIn cx 88 dX3_joined_1 (by rw [c1]; decide) (by rw [c1]; decide) (by rw [c1]; rfl) rfl ?_
    refine go_iload_n (pc' := 89) cx dX3_joined_88 rfl rfl ?_
    refine go_iload_n (pc' := 90) cx dX3_joined_89 rfl rfl ?_
    refine go_icmp_ge (pc' := 93) cx 97 dX3_joined_90 rfl rfl (fun c90 => ?_) (fun c90 => ?_)
    · refine go_iconst (pc' := 98) cx 0 dX3_joined_97 rfl rfl ?_
      refine go_iret cx rfl dX3_joined_98 ?_
      exact Zi.mk (by first | (simp [jnV, n1_10009, n1_10010, n1_10015, n1_10016, c1, c90]; done) | (simp_all [jnV, n1_10009, n1_10010, n1_10015, n1_10016, c1, c90]; done) | ((try unfold jnV); (repeat' split) <;> first | rfl | contradiction | (simp_all; done))) rfl
    · refine go_iconst (pc' := 94) cx 1 dX3_joined_93 rfl rfl ?_
      refine go_goto cx 98 dX3_joined_94 rfl ?_
      refine go_iret cx rfl dX3_joined_98 ?_
      exact Zi.mk (by first | (simp [jnV, n1_10009, n1_10010, n1_10015, n1_10016, c1, c90]; done) | (simp_all [jnV, n1_10009, n1_10010, n1_10015, n1_10016, c1, c90]; done) | ((try unfold jnV); (repeat' split) <;> first | rfl | contradiction | (simp_all; done))) rfl
  have n1_10018 := c1
  by_cases c1 : cx1 = 10019
  · refine go_tabIn cx 99 dX3_joined_1 (by rw [c1]; decide) (by rw [c1]; decide) (by rw [c1]; rfl) rfl ?_
    refine go_iload_n (pc' := 100) cx dX3_joined_99 rfl rfl ?_
    refine go_iload_n (pc' := 101) cx dX3_joined_100 rfl rfl ?_
    refine go_icmp_ne (pc' := 104) cx 108 dX3_joined_101 rfl rfl (fun c101 => ?_) (fun c101 => ?_)
    · refine go_iconst (pc' := 109) cx 0 dX3_joined_108 rfl rfl ?_
      refine go_iret cx rfl dX3_joined_109 ?_
      exact Zi.mk (by first | (simp [jnV, n1_10009, n1_10010, n1_10015, n1_10016, n1_10018, c1, c101]; done) | (simp_all [jnV, n1_10009, n1_10010, n1_10015, n1_10016, n1_10018, c1, c101]; done) | ((try unfold jnV); (repeat' split) <;> first | rfl | contradiction | (simp_all; done))) rfl
    · refine go_iconst (pc' := 105) cx 1 dX3_joined_104 rfl rfl ?_
      refine go_goto cx 109 dX3_joined_105 rfl ?_
      refine go_iret cx rfl dX3_joined_109 ?_
      exact Zi.mk (by first | (simp [jnV, n1_10009, n1_10010, n1_10015, n1_10016, n1_10018, c1, c101]; done) | (simp_all [jnV, n1_10009, n1_10010, n1_10015, n1_10016, n1_10018, c1, c101]; done) | ((try unfold jnV); (repeat' split) <;> first | rfl | contradiction | (simp_all; done))) rfl
  have n1_10019 := c1
  refine go_tabD cx 118 dX3_joined_1 ?_ rfl ?_
  · by_cases q1 : cx1.toInt < 10009
    · exact Or.inl (Or.inl q1)
    by_cases q2 : 10019 < cx1.toInt
    · exact Or.inl (Or.inr q2)
    refine Or.inr ⟨q1, q2, ?_⟩
    rcases (show cx1.toInt = 10009 ∨ cx1.toInt = 10010 ∨ cx1.toInt = 10011 ∨ cx1.toInt = 10012 ∨ cx1.toInt = 10013 ∨ cx1.toInt = 10014 ∨ cx1.toInt = 10015 ∨ cx1.toInt = 10016 ∨ cx1.toInt = 10017 ∨ cx1.toInt = 10018 ∨ cx1.toInt = 10019 by omega) with q3 | q3 | q3 | q3 | q3 | q3 | q3 | q3 | q3 | q3 | q3
    · exact absurd (Int32.toInt_inj.mp (q3.trans (by decide))) n1_10009
    · exact absurd (Int32.toInt_inj.mp (q3.trans (by decide))) n1_10010
    · rw [q3]; rfl
    · rw [q3]; rfl
    · rw [q3]; rfl
    · rw [q3]; rfl
    · exact absurd (Int32.toInt_inj.mp (q3.trans (by decide))) n1_10015
    · exact absurd (Int32.toInt_inj.mp (q3.trans (by decide))) n1_10016
    · rw [q3]; rfl
    · exact absurd (Int32.toInt_inj.mp (q3.trans (by decide))) n1_10018
    · exact absurd (Int32.toInt_inj.mp (q3.trans (by decide))) n1_10019
  refine go_iload_n (pc' := 119) cx dX3_joined_118 rfl rfl ?_
  refine go_iload_n (pc' := 120) cx dX3_joined_119 rfl rfl ?_
  refine go_imul (pc' := 121) cx dX3_joined_120 rfl ?_
  refine go_iret cx rfl dX3_joined_121 ?_
  exact Zi.mk (by first | (simp [jnV, n1_10009, n1_10010, n1_10015, n1_10016, n1_10018, n1_10019]; done) | (simp_all [jnV, n1_10009, n1_10010, n1_10015, n1_10016, n1_10018, n1_10019]; done) | ((try unfold jnV); (repeat' split) <;> first | rfl | contradiction | (simp_all; done))) rfl

set_option maxHeartbeats 4000000 in
set_option maxRecDepth 20000 in
theorem c_X3_named (l : Launch) (E : Ev) {g : IG} {o : Option Nat} {z : Int64} {so pl v : Nat} (hs : Sal so) (hpl : pl < 4) (cx1 vi : Int32) (hv : vi ≠ -1 → vi = nI v ∧ v < 8) : Ct l E 88 yX3_named cX3_named 4 (some .int) 1 [.int cx1, .int (nI pl), .ref (E.2.1 so), .int vi] g (RFo o) z (Zi (RFo o) z (evS g so pl vi v cx1) g) := by
  refine Ct.of (lv0 := [(0, .int cx1), (1, .int (nI pl)), (2, .ref (E.2.1 so)), (3, .int vi)]) (by decide) (Nat.le_of_ble_eq_true rfl) rfl ?_
  intro p e s m below meth c cx
  refine go_iload_n (pc' := 1) cx dX3_named_0 rfl rfl ?_
  by_cases c1 : cx1 = 10000
  · refine go_tabIn cx 36 dX3_named_1 (by rw [c1]; decide) (by rw [c1]; decide) (by rw [c1]; rfl) rfl ?_
    refine go_aload_n (pc' := 37) cx dX3_named_36 rfl rfl ?_
    refine go_getr (pc' := 40) cx (so + 1) fX3_42 dX3_named_37 (sal_k0 hs) (sal_l0 hs) (ltn rfl) rfl (sal_r1 hs) rfl ?_
    refine go_iconst (pc' := 41) cx 0 dX3_named_40 rfl rfl ?_
    refine go_aaldk (pc' := 42) cx 0 (so + 2 + 0) dX3_named_41 (sal_k1 hs) (Nat.le_of_ble_eq_true rfl) (ltn rfl) (sal_l1 hs) (vpi (k := 0) (a := 1) (ltn rfl) rfl rfl) (cli (k := 0) (a := 1) (ltn rfl) rfl) (sal_rr hs (ltn rfl)) rfl ?_
    refine go_iload_n (pc' := 43) cx dX3_named_42 rfl rfl ?_
    refine go_iald (pc' := 44) cx (g (so + 2 + 0) pl) dX3_named_43 (sal_kr hs (ltn rfl)) (sal_lr hs (ltn rfl)) (vpi (k := pl) (a := 4) hpl rfl rfl) (congrArg (g (so + 2 + 0)) (cli (k := pl) (a := 4) hpl rfl)) rfl ?_
    refine go_iret cx rfl dX3_named_44 ?_
    exact Zi.mk (by first | (simp [evS, nmV, c1]; done) | (simp_all [evS, nmV, c1]; done) | ((try unfold evS nmV); (repeat' split) <;> first | rfl | contradiction | (simp_all; done))) rfl
  have n1_10000 := c1
  by_cases c1 : cx1 = 10001
  · refine go_tabIn cx 45 dX3_named_1 (by rw [c1]; decide) (by rw [c1]; decide) (by rw [c1]; rfl) rfl ?_
    refine go_aload_n (pc' := 46) cx dX3_named_45 rfl rfl ?_
    refine go_getr (pc' := 49) cx (so + 1) fX3_42 dX3_named_46 (sal_k0 hs) (sal_l0 hs) (ltn rfl) rfl (sal_r1 hs) rfl ?_
    refine go_iconst (pc' := 50) cx 1 dX3_named_49 rfl rfl ?_
    refine go_aaldk (pc' := 51) cx 1 (so + 2 + 1) dX3_named_50 (sal_k1 hs) (Nat.le_of_ble_eq_true rfl) (ltn rfl) (sal_l1 hs) (vpi (k := 1) (a := 2) (ltn rfl) rfl rfl) (cli (k := 1) (a := 2) (ltn rfl) rfl) (sal_rr hs (ltn rfl)) rfl ?_
    refine go_iload_n (pc' := 52) cx dX3_named_51 rfl rfl ?_
    refine go_iald (pc' := 53) cx (g (so + 2 + 1) pl) dX3_named_52 (sal_kr hs (ltn rfl)) (sal_lr hs (ltn rfl)) (vpi (k := pl) (a := 4) hpl rfl rfl) (congrArg (g (so + 2 + 1)) (cli (k := pl) (a := 4) hpl rfl)) rfl ?_
    refine go_iret cx rfl dX3_named_53 ?_
    exact Zi.mk (by first | (simp [evS, nmV, n1_10000, c1]; done) | (simp_all [evS, nmV, n1_10000, c1]; done) | ((try unfold evS nmV); (repeat' split) <;> first | rfl | contradiction | (simp_all; done))) rfl
  have n1_10001 := c1
  by_cases c1 : cx1 = 10002
  · refine go_tabIn cx 54 dX3_named_1 (by rw [c1]; decide) (by rw [c1]; decide) (by rw [c1]; rfl) rfl ?_
    refine go_aload_n (pc' := 55) cx dX3_named_54 rfl rfl ?_
    refine go_getr (pc' := 58) cx (so + 1) fX3_42 dX3_named_55 (sal_k0 hs) (sal_l0 hs) (ltn rfl) rfl (sal_r1 hs) rfl ?_
    refine go_iconst (pc' := 59) cx 2 dX3_named_58 rfl rfl ?_
    refine go_aaldk (pc' := 60) cx 2 (so + 2 + 2) dX3_named_59 (sal_k1 hs) (Nat.le_of_ble_eq_true rfl) (ltn rfl) (sal_l1 hs) (vpi (k := 2) (a := 3) (ltn rfl) rfl rfl) (cli (k := 2) (a := 3) (ltn rfl) rfl) (sal_rr hs (ltn rfl)) rfl ?_
    refine go_iload_n (pc' := 61) cx dX3_named_60 rfl rfl ?_
    refine go_iald (pc' := 62) cx (g (so + 2 + 2) pl) dX3_named_61 (sal_kr hs (ltn rfl)) (sal_lr hs (ltn rfl)) (vpi (k := pl) (a := 4) hpl rfl rfl) (congrArg (g (so + 2 + 2)) (cli (k := pl) (a := 4) hpl rfl)) rfl ?_
    refine go_iret cx rfl dX3_named_62 ?_
    exact Zi.mk (by first | (simp [evS, nmV, n1_10000, n1_10001, c1]; done) | (simp_all [evS, nmV, n1_10000, n1_10001, c1]; done) | ((try unfold evS nmV); (repeat' split) <;> first | rfl | contradiction | (simp_all; done))) rfl
  have n1_10002 := c1
  by_cases c1 : cx1 = 10003
  · refine go_tabIn cx 63 dX3_named_1 (by rw [c1]; decide) (by rw [c1]; decide) (by rw [c1]; rfl) rfl ?_
    refine go_iload_n (pc' := 64) cx dX3_named_63 rfl rfl ?_
    refine go_iconst (pc' := 65) cx (-1) dX3_named_64 rfl rfl ?_
    refine go_icmp_ne (pc' := 68) cx 72 dX3_named_65 rfl rfl (fun c65 => ?_) (fun c65 => ?_)
    · obtain ⟨hv1, hv2⟩ := hv c65
      refine go_aload_n (pc' := 73) cx dX3_named_72 rfl rfl ?_
      refine go_getr (pc' := 76) cx (so + 1) fX3_42 dX3_named_73 (sal_k0 hs) (sal_l0 hs) (ltn rfl) rfl (sal_r1 hs) rfl ?_
      refine go_bipush (pc' := 78) cx 8 dX3_named_76 rfl rfl ?_
      refine go_aaldk (pc' := 79) cx 8 (so + 2 + 8) dX3_named_78 (sal_k1 hs) (Nat.le_of_ble_eq_true rfl) (ltn rfl) (sal_l1 hs) (vpi (k := 8) (a := 9) (ltn rfl) rfl rfl) (cli (k := 8) (a := 9) (ltn rfl) rfl) (sal_rr hs (ltn rfl)) rfl ?_
      refine go_iload_n (pc' := 80) cx dX3_named_79 rfl rfl ?_
      refine go_iald (pc' := 81) cx (g (so + 2 + 8) v) dX3_named_80 (sal_kr hs (ltn rfl)) (sal_lr hs (ltn rfl)) (vpx (hv1 ▸ vpi hv2 rfl rfl) rfl) (by rw [hv1, cli hv2 rfl]) rfl ?_
      refine go_iret cx rfl dX3_named_81 ?_
      exact Zi.mk (by first | (simp [evS, nmV, n1_10000, n1_10001, n1_10002, c1, c65]; done) | (simp_all [evS, nmV, n1_10000, n1_10001, n1_10002, c1, c65]; done) | ((try unfold evS nmV); (repeat' split) <;> first | rfl | contradiction | (simp_all; done))) rfl
    · refine go_iconst (pc' := 69) cx 0 dX3_named_68 rfl rfl ?_
      refine go_goto cx 81 dX3_named_69 rfl ?_
      refine go_iret cx rfl dX3_named_81 ?_
      exact Zi.mk (by first | (simp [evS, nmV, n1_10000, n1_10001, n1_10002, c1, c65]; done) | (simp_all [evS, nmV, n1_10000, n1_10001, n1_10002, c1, c65]; done) | ((try unfold evS nmV); (repeat' split) <;> first | rfl | contradiction | (simp_all; done))) rfl
  have n1_10003 := c1
  by_cases c1 : cx1 = 10004
  · refine go_tabIn cx 82 dX3_named_1 (by rw [c1]; decide) (by rw [c1]; decide) (by rw [c1]; rfl) rfl ?_
    refine go_iload_n (pc' := 83) cx dX3_named_82 rfl rfl ?_
    refine go_iret cx rfl dX3_named_83 ?_
    exact Zi.mk (by first | (simp [evS, nmV, n1_10000, n1_10001, n1_10002, n1_10003, c1]; done) | (simp_all [evS, nmV, n1_10000, n1_10001, n1_10002, n1_10003, c1]; done) | ((try unfold evS nmV); (repeat' split) <;> first | rfl | contradiction | (simp_all; done))) rfl
  have n1_10004 := c1
  refine go_tabD cx 84 dX3_named_1 ?_ rfl ?_
  · by_cases q1 : cx1.toInt < 10000
    · exact Or.inl (Or.inl q1)
    by_cases q2 : 10004 < cx1.toInt
    · exact Or.inl (Or.inr q2)
    refine Or.inr ⟨q1, q2, ?_⟩
    rcases (show cx1.toInt = 10000 ∨ cx1.toInt = 10001 ∨ cx1.toInt = 10002 ∨ cx1.toInt = 10003 ∨ cx1.toInt = 10004 by omega) with q3 | q3 | q3 | q3 | q3
    · exact absurd (Int32.toInt_inj.mp (q3.trans (by decide))) n1_10000
    · exact absurd (Int32.toInt_inj.mp (q3.trans (by decide))) n1_10001
    · exact absurd (Int32.toInt_inj.mp (q3.trans (by decide))) n1_10002
    · exact absurd (Int32.toInt_inj.mp (q3.trans (by decide))) n1_10003
    · exact absurd (Int32.toInt_inj.mp (q3.trans (by decide))) n1_10004
  refine go_iload_n (pc' := 85) cx dX3_named_84 rfl rfl ?_
  refine go_iconst (pc' := 86) cx (-1) dX3_named_85 rfl rfl ?_
  refine go_icmp_ne (pc' := 89) cx 93 dX3_named_86 rfl rfl (fun c86 => ?_) (fun c86 => ?_)
  · obtain ⟨hv1, hv2⟩ := hv c86
    refine go_aload_n (pc' := 94) cx dX3_named_93 rfl rfl ?_
    refine go_getr (pc' := 97) cx (so + 1) fX3_42 dX3_named_94 (sal_k0 hs) (sal_l0 hs) (ltn rfl) rfl (sal_r1 hs) rfl ?_
    refine go_bipush (pc' := 99) cx 7 dX3_named_97 rfl rfl ?_
    refine go_aaldk (pc' := 100) cx 7 (so + 2 + 7) dX3_named_99 (sal_k1 hs) (Nat.le_of_ble_eq_true rfl) (ltn rfl) (sal_l1 hs) (vpi (k := 7) (a := 8) (ltn rfl) rfl rfl) (cli (k := 7) (a := 8) (ltn rfl) rfl) (sal_rr hs (ltn rfl)) rfl ?_
    refine go_iload_n (pc' := 101) cx dX3_named_100 rfl rfl ?_
    refine go_iald (pc' := 102) cx (g (so + 2 + 7) v) dX3_named_101 (sal_kr hs (ltn rfl)) (sal_lr hs (ltn rfl)) (vpx (hv1 ▸ vpi hv2 rfl rfl) rfl) (by rw [hv1, cli hv2 rfl]) rfl ?_
    refine go_iret cx rfl dX3_named_102 ?_
    exact Zi.mk (by first | (simp [evS, nmV, n1_10000, n1_10001, n1_10002, n1_10003, n1_10004, c86]; done) | (simp_all [evS, nmV, n1_10000, n1_10001, n1_10002, n1_10003, n1_10004, c86]; done) | ((try unfold evS nmV); (repeat' split) <;> first | rfl | contradiction | (simp_all; done))) rfl
  · refine go_iconst (pc' := 90) cx 0 dX3_named_89 rfl rfl ?_
    refine go_goto cx 102 dX3_named_90 rfl ?_
    refine go_iret cx rfl dX3_named_102 ?_
    exact Zi.mk (by first | (simp [evS, nmV, n1_10000, n1_10001, n1_10002, n1_10003, n1_10004, c86]; done) | (simp_all [evS, nmV, n1_10000, n1_10001, n1_10002, n1_10003, n1_10004, c86]; done) | ((try unfold evS nmV); (repeat' split) <;> first | rfl | contradiction | (simp_all; done))) rfl

theorem evS_w {g : IG} {so pl v q : Nat} {vi : Int32} {f : Nat → Int32} (hs : Sal so) (hq : q < 29) (x : Int32) : evS (upw g q f) so pl vi v x = evS g so pl vi v x := by
  have hso : so = 37 ∨ so = 50 ∨ so = 64 := hs
  unfold evS
  rw [upw_n g f pl (by omega), upw_n g f pl (by omega), upw_n g f pl (by omega), upw_n g f v (by omega), upw_n g f v (by omega)]

set_option maxHeartbeats 4000000 in
set_option maxRecDepth 20000 in
theorem tell_loop {l : Launch} {E : Ev} {Z : ZT} {o : Option Nat} {z : Int64} {p : Program} {e : Env} {s : State} {m : MethodId} {args : Array Value} {below : List Frame} {meth : Method} {c : Code} {t so pl v en i0 pt : Nat} (ht : t < 6) (hs : Sal so) (hpt : pt < 3) (hpl : pl < 4) (vi : Int32) (hv : vi ≠ -1 → vi = nI v ∧ v < 8) (hen : en ≤ 160) {g : IG} (he : g (5 + 4 * t + 2) pt = nI en) (cx : Cx p s m args meth c E 88 cX3_tell 8 yX3_tell.cls (some .int)) : ∀ (k i top : Nat) (f : Nat → Int32), k = en - i → i ≤ 160 → top ≤ 40 → (∀ S : SK, S = rnS (evS g so pl vi v) (g (5 + 4 * t + 1)) i k (top, f) → S.1 ≤ 40 → Go p l e (rmd 2) s m args below meth c E 88 8 Z (upw g (5 + 4 * t + 3) S.2) (RFo o) z 215 [(5, .int (nI S.1)), (0, .ref (E.2.1 (5 + 4 * t)))] []) → Go p l e (rmd 2) s m args below meth c E 88 8 Z (upw g (5 + 4 * t + 3) f) (RFo o) z 21 [(6, .int (nI i)), (5, .int (nI top)), (0, .ref (E.2.1 (5 + 4 * t))), (1, .int (nI pt)), (2, .int (nI pl)), (3, .ref (E.2.1 so)), (4, .int vi)] [] := by
  have hso : so = 37 ∨ so = 50 ∨ so = 64 := hs
  intro k
  induction k with
  | zero =>
    intro i top f hk hi htop kk
    refine go_iload (pc' := 23) cx dX3_tell_21 rfl rfl ?_
    refine go_aload_n (pc' := 24) cx dX3_tell_23 rfl rfl ?_
    refine go_getr (pc' := 27) cx (5 + 4 * t + 2) fX3_15 dX3_tell_24 (txt_k' _ ht).1 (by omega) (ltn rfl) rfl (txt_r ht).2.1 rfl ?_
    refine go_iload_n (pc' := 28) cx dX3_tell_27 rfl rfl ?_
    refine go_iald (pc' := 29) cx (nI en) dX3_tell_28 (txt_k' _ ht).2.2.1 (by omega) (vpi (k := pt) (a := 3) hpt rfl rfl) ((congrArg ((upw g (5 + 4 * t + 3) f) (5 + 4 * t + 2)) (cli (k := pt) (a := 3) hpt rfl)).trans ((upw_n g f pt (by omega)).trans he)) rfl ?_
    refine go_icmp_ge (pc' := 32) cx 215 dX3_tell_29 rfl rfl (fun _ => ?_) (fun hh => absurd ((nI_leI (a := en) (b := i) (by omega) (by omega)).mpr (by omega)) hh)
    refine go_sub [1, 2] [(5, .int (nI top)), (0, .ref (E.2.1 (5 + 4 * t)))] rfl ?_
    exact kk (top, f) rfl htop
  | succ k ih =>
    intro i top f hk hi htop kk
    refine go_iload (pc' := 23) cx dX3_tell_21 rfl rfl ?_
    refine go_aload_n (pc' := 24) cx dX3_tell_23 rfl rfl ?_
    refine go_getr (pc' := 27) cx (5 + 4 * t + 2) fX3_15 dX3_tell_24 (txt_k' _ ht).1 (by omega) (ltn rfl) rfl (txt_r ht).2.1 rfl ?_
    refine go_iload_n (pc' := 28) cx dX3_tell_27 rfl rfl ?_
    refine go_iald (pc' := 29) cx (nI en) dX3_tell_28 (txt_k' _ ht).2.2.1 (by omega) (vpi (k := pt) (a := 3) hpt rfl rfl) ((congrArg ((upw g (5 + 4 * t + 3) f) (5 + 4 * t + 2)) (cli (k := pt) (a := 3) hpt rfl)).trans ((upw_n g f pt (by omega)).trans he)) rfl ?_
    refine go_icmp_ge (pc' := 32) cx 215 dX3_tell_29 rfl rfl (fun hh => absurd ((nI_leI (a := en) (b := i) (by omega) (by omega)).mp hh) (by omega)) (fun _ => ?_)
    refine go_aload_n (pc' := 33) cx dX3_tell_32 rfl rfl ?_
    refine go_getr (pc' := 36) cx (5 + 4 * t + 1) fX3_9 dX3_tell_33 (txt_k' _ ht).1 (by omega) (ltn rfl) rfl (txt_r ht).1 rfl ?_
    refine go_iload (pc' := 38) cx dX3_tell_36 rfl rfl ?_
    refine go_iald (pc' := 39) cx (g (5 + 4 * t + 1) i) dX3_tell_38 (txt_k' _ ht).2.1 (by omega) (vpi (k := i) (a := 160) (by omega) rfl rfl) ((congrArg ((upw g (5 + 4 * t + 3) f) (5 + 4 * t + 1)) (cli (k := i) (a := 160) (by omega) rfl)).trans (upw_n g f i (by omega))) rfl ?_
    refine go_istore (pc' := 41) cx dX3_tell_39 (ltn rfl) [(7, .int (g (5 + 4 * t + 1) i)), (6, .int (nI i)), (5, .int (nI top)), (0, .ref (E.2.1 (5 + 4 * t))), (1, .int (nI pt)), (2, .int (nI pl)), (3, .ref (E.2.1 so)), (4, .int vi)] rfl rfl ?_
    refine go_iload (pc' := 43) cx dX3_tell_41 rfl rfl ?_
    refine go_sipush (pc' := 46) cx 10005 dX3_tell_43 rfl rfl ?_
    refine go_icmp_gt (pc' := 49) cx 91 dX3_tell_46 rfl rfl (fun c46 => ?_) (fun c46 => ?_)
    · refine go_iload (pc' := 93) cx dX3_tell_91 rfl rfl ?_
      refine go_sipush (pc' := 96) cx 10020 dX3_tell_93 rfl rfl ?_
      refine go_icmp_ne (pc' := 99) cx 127 dX3_tell_96 rfl rfl (fun c96 => ?_) (fun c96 => ?_)
      · refine go_iload (pc' := 129) cx dX3_tell_127 rfl rfl ?_
        refine go_sipush (pc' := 132) cx 10011 dX3_tell_129 rfl rfl ?_
        refine go_icmp_ne (pc' := 135) cx 170 dX3_tell_132 rfl rfl (fun c132 => ?_) (fun c132 => ?_)
        · refine go_iload (pc' := 172) cx dX3_tell_170 rfl rfl ?_
          refine go_iconst (pc' := 173) cx 2 dX3_tell_172 rfl rfl ?_
          refine go_icmp_lt (pc' := 176) cx 209 dX3_tell_173 rfl rfl (fun c173 => ?_) (fun c173 => ?_)
          · have c173 := (nI_ltI (a := top) (b := 2) (by omega) (by omega)).mp c173
            refine go_iinc (pc' := 212) cx (nI (i + 1)) dX3_tell_209 rfl (nI_1 i) (ltn rfl) [(6, .int (nI (i + 1))), (7, .int (g (5 + 4 * t + 1) i)), (5, .int (nI top)), (0, .ref (E.2.1 (5 + 4 * t))), (1, .int (nI pt)), (2, .int (nI pl)), (3, .ref (E.2.1 so)), (4, .int vi)] rfl rfl ?_
            refine go_goto cx 21 dX3_tell_212 rfl ?_
            refine go_sub [0, 2, 3, 4, 5, 6, 7] [(6, .int (nI (i + 1))), (5, .int (nI top)), (0, .ref (E.2.1 (5 + 4 * t))), (1, .int (nI pt)), (2, .int (nI pl)), (3, .ref (E.2.1 so)), (4, .int vi)] rfl ?_
            refine ih (i + 1) (top) f (by omega) (by omega) (by omega) (fun S hS hS2 => kk S (hS.trans (congrArg (rnS (evS g so pl vi v) (g (5 + 4 * t + 1)) (i + 1) k) ?_)) hS2)
            show (top, f) = stp (evS g so pl vi v) (g (5 + 4 * t + 1) i) (top, f)
            first | (simp [stp, c46, c96, c132, c173]; done) | (exfalso; omega) | (exfalso; simp_all; done)
          · have c173 : ¬ top < 2 := fun q9 => c173 ((nI_ltI (a := top) (b := 2) (by omega) (by omega)).mpr q9)
            refine go_iinc (pc' := 179) cx (nI (top - 1)) dX3_tell_176 rfl (nI_m1 (by omega)) (ltn rfl) [(5, .int (nI (top - 1))), (7, .int (g (5 + 4 * t + 1) i)), (6, .int (nI i)), (0, .ref (E.2.1 (5 + 4 * t))), (1, .int (nI pt)), (2, .int (nI pl)), (3, .ref (E.2.1 so)), (4, .int vi)] rfl rfl ?_
            refine go_aload_n (pc' := 180) cx dX3_tell_179 rfl rfl ?_
            refine go_getr (pc' := 183) cx (5 + 4 * t + 3) fX3_18 dX3_tell_180 (txt_k' _ ht).1 (by omega) (ltn rfl) rfl (txt_r ht).2.2.1 rfl ?_
            refine go_iload (pc' := 185) cx dX3_tell_183 rfl rfl ?_
            refine go_iconst (pc' := 186) cx 1 dX3_tell_185 rfl rfl ?_
            refine go_isub (pc' := 187) cx dX3_tell_186 rfl ?_
            refine go_val (w := .int (nI ((top - 1) - 1))) (congrArg Value.int (pk_sub (a := (top - 1)) (b := 1) (by omega))) ?_
            refine go_iload (pc' := 189) cx dX3_tell_187 rfl rfl ?_
            refine go_aload_n (pc' := 190) cx dX3_tell_189 rfl rfl ?_
            refine go_getr (pc' := 193) cx (5 + 4 * t + 3) fX3_18 dX3_tell_190 (txt_k' _ ht).1 (by omega) (ltn rfl) rfl (txt_r ht).2.2.1 rfl ?_
            refine go_iload (pc' := 195) cx dX3_tell_193 rfl rfl ?_
            refine go_iconst (pc' := 196) cx 1 dX3_tell_195 rfl rfl ?_
            refine go_isub (pc' := 197) cx dX3_tell_196 rfl ?_
            refine go_val (w := .int (nI ((top - 1) - 1))) (congrArg Value.int (pk_sub (a := (top - 1)) (b := 1) (by omega))) ?_
            refine go_iald (pc' := 198) cx (f ((top - 1) - 1)) dX3_tell_197 (txt_k' _ ht).2.2.2 (by omega) (vpi (k := ((top - 1) - 1)) (a := 40) (by omega) rfl rfl) ((congrArg ((upw g (5 + 4 * t + 3) f) (5 + 4 * t + 3)) (cli (k := ((top - 1) - 1)) (a := 40) (by omega) rfl)).trans (upw_s g (5 + 4 * t + 3) f ((top - 1) - 1))) rfl ?_
            refine go_aload_n (pc' := 199) cx dX3_tell_198 rfl rfl ?_
            refine go_getr (pc' := 202) cx (5 + 4 * t + 3) fX3_18 dX3_tell_199 (txt_k' _ ht).1 (by omega) (ltn rfl) rfl (txt_r ht).2.2.1 rfl ?_
            refine go_iload (pc' := 204) cx dX3_tell_202 rfl rfl ?_
            refine go_iald (pc' := 205) cx (f (top - 1)) dX3_tell_204 (txt_k' _ ht).2.2.2 (by omega) (vpi (k := (top - 1)) (a := 40) (by omega) rfl rfl) ((congrArg ((upw g (5 + 4 * t + 3) f) (5 + 4 * t + 3)) (cli (k := (top - 1)) (a := 40) (by omega) rfl)).trans (upw_s g (5 + 4 * t + 3) f (top - 1))) rfl ?_
            refine go_cSi (pc' := 208) cx (c_X3_joined l E (g (5 + 4 * t + 1) i) (f ((top - 1) - 1)) (f (top - 1))) mX3_joined lX3_29 dX3_tell_205 rfl rfl rfl (ltn rfl) (Nat.le_of_ble_eq_true rfl) (Nat.le_of_ble_eq_true rfl) rfl ?_
            refine go_iastk (pc' := 209) cx ((top - 1) - 1) dX3_tell_208 (txt_k' _ ht).2.2.2 (by omega) (vpi (k := ((top - 1) - 1)) (a := 40) (by omega) rfl rfl) (cli (k := ((top - 1) - 1)) (a := 40) (by omega) rfl) rfl ?_
            refine go_g (upw_up g (5 + 4 * t + 3) f ((top - 1) - 1) (jnV (g (5 + 4 * t + 1) i) (f ((top - 1) - 1)) (f (top - 1)))) ?_
            refine go_iinc (pc' := 212) cx (nI (i + 1)) dX3_tell_209 rfl (nI_1 i) (ltn rfl) [(6, .int (nI (i + 1))), (5, .int (nI (top - 1))), (7, .int (g (5 + 4 * t + 1) i)), (0, .ref (E.2.1 (5 + 4 * t))), (1, .int (nI pt)), (2, .int (nI pl)), (3, .ref (E.2.1 so)), (4, .int vi)] rfl rfl ?_
            refine go_goto cx 21 dX3_tell_212 rfl ?_
            refine go_sub [0, 1, 3, 4, 5, 6, 7] [(6, .int (nI (i + 1))), (5, .int (nI (top - 1))), (0, .ref (E.2.1 (5 + 4 * t))), (1, .int (nI pt)), (2, .int (nI pl)), (3, .ref (E.2.1 so)), (4, .int vi)] rfl ?_
            refine ih (i + 1) (top - 1) (upd f ((top - 1) - 1) (jnV (g (5 + 4 * t + 1) i) (f ((top - 1) - 1)) (f (top - 1)))) (by omega) (by omega) (by omega) (fun S hS hS2 => kk S (hS.trans (congrArg (rnS (evS g so pl vi v) (g (5 + 4 * t + 1)) (i + 1) k) ?_)) hS2)
            show (top - 1, (upd f ((top - 1) - 1) (jnV (g (5 + 4 * t + 1) i) (f ((top - 1) - 1)) (f (top - 1))))) = stp (evS g so pl vi v) (g (5 + 4 * t + 1) i) (top, f)
            first | (simp [stp, c46, c96, c132, c173]; done) | (exfalso; omega) | (exfalso; simp_all; done)
        · refine go_iload (pc' := 137) cx dX3_tell_135 rfl rfl ?_
          refine go_iconst (pc' := 138) cx 1 dX3_tell_137 rfl rfl ?_
          refine go_icmp_lt (pc' := 141) cx 170 dX3_tell_138 rfl rfl (fun c138 => ?_) (fun c138 => ?_)
          · have c138 := (nI_ltI (a := top) (b := 1) (by omega) (by omega)).mp c138
            refine go_iload (pc' := 172) cx dX3_tell_170 rfl rfl ?_
            refine go_iconst (pc' := 173) cx 2 dX3_tell_172 rfl rfl ?_
            refine go_icmp_lt (pc' := 176) cx 209 dX3_tell_173 rfl rfl (fun c173 => ?_) (fun c173 => ?_)
            · have c173 := (nI_ltI (a := top) (b := 2) (by omega) (by omega)).mp c173
              refine go_iinc (pc' := 212) cx (nI (i + 1)) dX3_tell_209 rfl (nI_1 i) (ltn rfl) [(6, .int (nI (i + 1))), (7, .int (g (5 + 4 * t + 1) i)), (5, .int (nI top)), (0, .ref (E.2.1 (5 + 4 * t))), (1, .int (nI pt)), (2, .int (nI pl)), (3, .ref (E.2.1 so)), (4, .int vi)] rfl rfl ?_
              refine go_goto cx 21 dX3_tell_212 rfl ?_
              refine go_sub [0, 2, 3, 4, 5, 6, 7] [(6, .int (nI (i + 1))), (5, .int (nI top)), (0, .ref (E.2.1 (5 + 4 * t))), (1, .int (nI pt)), (2, .int (nI pl)), (3, .ref (E.2.1 so)), (4, .int vi)] rfl ?_
              refine ih (i + 1) (top) f (by omega) (by omega) (by omega) (fun S hS hS2 => kk S (hS.trans (congrArg (rnS (evS g so pl vi v) (g (5 + 4 * t + 1)) (i + 1) k) ?_)) hS2)
              show (top, f) = stp (evS g so pl vi v) (g (5 + 4 * t + 1) i) (top, f)
              first | (simp [stp, c46, c96, c132, c138, c173]; done) | (exfalso; omega) | (exfalso; simp_all; done)
            · have c173 : ¬ top < 2 := fun q9 => c173 ((nI_ltI (a := top) (b := 2) (by omega) (by omega)).mpr q9)
              refine go_iinc (pc' := 179) cx (nI (top - 1)) dX3_tell_176 rfl (nI_m1 (by omega)) (ltn rfl) [(5, .int (nI (top - 1))), (7, .int (g (5 + 4 * t + 1) i)), (6, .int (nI i)), (0, .ref (E.2.1 (5 + 4 * t))), (1, .int (nI pt)), (2, .int (nI pl)), (3, .ref (E.2.1 so)), (4, .int vi)] rfl rfl ?_
              refine go_aload_n (pc' := 180) cx dX3_tell_179 rfl rfl ?_
              refine go_getr (pc' := 183) cx (5 + 4 * t + 3) fX3_18 dX3_tell_180 (txt_k' _ ht).1 (by omega) (ltn rfl) rfl (txt_r ht).2.2.1 rfl ?_
              refine go_iload (pc' := 185) cx dX3_tell_183 rfl rfl ?_
              refine go_iconst (pc' := 186) cx 1 dX3_tell_185 rfl rfl ?_
              refine go_isub (pc' := 187) cx dX3_tell_186 rfl ?_
              refine go_val (w := .int (nI ((top - 1) - 1))) (congrArg Value.int (pk_sub (a := (top - 1)) (b := 1) (by omega))) ?_
              refine go_iload (pc' := 189) cx dX3_tell_187 rfl rfl ?_
              refine go_aload_n (pc' := 190) cx dX3_tell_189 rfl rfl ?_
              refine go_getr (pc' := 193) cx (5 + 4 * t + 3) fX3_18 dX3_tell_190 (txt_k' _ ht).1 (by omega) (ltn rfl) rfl (txt_r ht).2.2.1 rfl ?_
              refine go_iload (pc' := 195) cx dX3_tell_193 rfl rfl ?_
              refine go_iconst (pc' := 196) cx 1 dX3_tell_195 rfl rfl ?_
              refine go_isub (pc' := 197) cx dX3_tell_196 rfl ?_
              refine go_val (w := .int (nI ((top - 1) - 1))) (congrArg Value.int (pk_sub (a := (top - 1)) (b := 1) (by omega))) ?_
              refine go_iald (pc' := 198) cx (f ((top - 1) - 1)) dX3_tell_197 (txt_k' _ ht).2.2.2 (by omega) (vpi (k := ((top - 1) - 1)) (a := 40) (by omega) rfl rfl) ((congrArg ((upw g (5 + 4 * t + 3) f) (5 + 4 * t + 3)) (cli (k := ((top - 1) - 1)) (a := 40) (by omega) rfl)).trans (upw_s g (5 + 4 * t + 3) f ((top - 1) - 1))) rfl ?_
              refine go_aload_n (pc' := 199) cx dX3_tell_198 rfl rfl ?_
              refine go_getr (pc' := 202) cx (5 + 4 * t + 3) fX3_18 dX3_tell_199 (txt_k' _ ht).1 (by omega) (ltn rfl) rfl (txt_r ht).2.2.1 rfl ?_
              refine go_iload (pc' := 204) cx dX3_tell_202 rfl rfl ?_
              refine go_iald (pc' := 205) cx (f (top - 1)) dX3_tell_204 (txt_k' _ ht).2.2.2 (by omega) (vpi (k := (top - 1)) (a := 40) (by omega) rfl rfl) ((congrArg ((upw g (5 + 4 * t + 3) f) (5 + 4 * t + 3)) (cli (k := (top - 1)) (a := 40) (by omega) rfl)).trans (upw_s g (5 + 4 * t + 3) f (top - 1))) rfl ?_
              refine go_cSi (pc' := 208) cx (c_X3_joined l E (g (5 + 4 * t + 1) i) (f ((top - 1) - 1)) (f (top - 1))) mX3_joined lX3_29 dX3_tell_205 rfl rfl rfl (ltn rfl) (Nat.le_of_ble_eq_true rfl) (Nat.le_of_ble_eq_true rfl) rfl ?_
              refine go_iastk (pc' := 209) cx ((top - 1) - 1) dX3_tell_208 (txt_k' _ ht).2.2.2 (by omega) (vpi (k := ((top - 1) - 1)) (a := 40) (by omega) rfl rfl) (cli (k := ((top - 1) - 1)) (a := 40) (by omega) rfl) rfl ?_
              refine go_g (upw_up g (5 + 4 * t + 3) f ((top - 1) - 1) (jnV (g (5 + 4 * t + 1) i) (f ((top - 1) - 1)) (f (top - 1)))) ?_
              refine go_iinc (pc' := 212) cx (nI (i + 1)) dX3_tell_209 rfl (nI_1 i) (ltn rfl) [(6, .int (nI (i + 1))), (5, .int (nI (top - 1))), (7, .int (g (5 + 4 * t + 1) i)), (0, .ref (E.2.1 (5 + 4 * t))), (1, .int (nI pt)), (2, .int (nI pl)), (3, .ref (E.2.1 so)), (4, .int vi)] rfl rfl ?_
              refine go_goto cx 21 dX3_tell_212 rfl ?_
              refine go_sub [0, 1, 3, 4, 5, 6, 7] [(6, .int (nI (i + 1))), (5, .int (nI (top - 1))), (0, .ref (E.2.1 (5 + 4 * t))), (1, .int (nI pt)), (2, .int (nI pl)), (3, .ref (E.2.1 so)), (4, .int vi)] rfl ?_
              refine ih (i + 1) (top - 1) (upd f ((top - 1) - 1) (jnV (g (5 + 4 * t + 1) i) (f ((top - 1) - 1)) (f (top - 1)))) (by omega) (by omega) (by omega) (fun S hS hS2 => kk S (hS.trans (congrArg (rnS (evS g so pl vi v) (g (5 + 4 * t + 1)) (i + 1) k) ?_)) hS2)
              show (top - 1, (upd f ((top - 1) - 1) (jnV (g (5 + 4 * t + 1) i) (f ((top - 1) - 1)) (f (top - 1))))) = stp (evS g so pl vi v) (g (5 + 4 * t + 1) i) (top, f)
              first | (simp [stp, c46, c96, c132, c138, c173]; done) | (exfalso; omega) | (exfalso; simp_all; done)
          · have c138 : ¬ top < 1 := fun q9 => c138 ((nI_ltI (a := top) (b := 1) (by omega) (by omega)).mpr q9)
            refine go_aload_n (pc' := 142) cx dX3_tell_141 rfl rfl ?_
            refine go_getr (pc' := 145) cx (5 + 4 * t + 3) fX3_18 dX3_tell_142 (txt_k' _ ht).1 (by omega) (ltn rfl) rfl (txt_r ht).2.2.1 rfl ?_
            refine go_iload (pc' := 147) cx dX3_tell_145 rfl rfl ?_
            refine go_iconst (pc' := 148) cx 1 dX3_tell_147 rfl rfl ?_
            refine go_isub (pc' := 149) cx dX3_tell_148 rfl ?_
            refine go_val (w := .int (nI (top - 1))) (congrArg Value.int (pk_sub (a := top) (b := 1) (by omega))) ?_
            refine go_aload_n (pc' := 150) cx dX3_tell_149 rfl rfl ?_
            refine go_getr (pc' := 153) cx (5 + 4 * t + 3) fX3_18 dX3_tell_150 (txt_k' _ ht).1 (by omega) (ltn rfl) rfl (txt_r ht).2.2.1 rfl ?_
            refine go_iload (pc' := 155) cx dX3_tell_153 rfl rfl ?_
            refine go_iconst (pc' := 156) cx 1 dX3_tell_155 rfl rfl ?_
            refine go_isub (pc' := 157) cx dX3_tell_156 rfl ?_
            refine go_val (w := .int (nI (top - 1))) (congrArg Value.int (pk_sub (a := top) (b := 1) (by omega))) ?_
            refine go_iald (pc' := 158) cx (f (top - 1)) dX3_tell_157 (txt_k' _ ht).2.2.2 (by omega) (vpi (k := (top - 1)) (a := 40) (by omega) rfl rfl) ((congrArg ((upw g (5 + 4 * t + 3) f) (5 + 4 * t + 3)) (cli (k := (top - 1)) (a := 40) (by omega) rfl)).trans (upw_s g (5 + 4 * t + 3) f (top - 1))) rfl ?_
            refine go_if_ne (pc' := 161) cx 165 dX3_tell_158 rfl rfl (fun c158 => ?_) (fun c158 => ?_)
            · refine go_iconst (pc' := 166) cx 0 dX3_tell_165 rfl rfl ?_
              refine go_iastk (pc' := 167) cx (top - 1) dX3_tell_166 (txt_k' _ ht).2.2.2 (by omega) (vpi (k := (top - 1)) (a := 40) (by omega) rfl rfl) (cli (k := (top - 1)) (a := 40) (by omega) rfl) rfl ?_
              refine go_g (upw_up g (5 + 4 * t + 3) f (top - 1) 0) ?_
              refine go_goto cx 209 dX3_tell_167 rfl ?_
              refine go_iinc (pc' := 212) cx (nI (i + 1)) dX3_tell_209 rfl (nI_1 i) (ltn rfl) [(6, .int (nI (i + 1))), (7, .int (g (5 + 4 * t + 1) i)), (5, .int (nI top)), (0, .ref (E.2.1 (5 + 4 * t))), (1, .int (nI pt)), (2, .int (nI pl)), (3, .ref (E.2.1 so)), (4, .int vi)] rfl rfl ?_
              refine go_goto cx 21 dX3_tell_212 rfl ?_
              refine go_sub [0, 2, 3, 4, 5, 6, 7] [(6, .int (nI (i + 1))), (5, .int (nI top)), (0, .ref (E.2.1 (5 + 4 * t))), (1, .int (nI pt)), (2, .int (nI pl)), (3, .ref (E.2.1 so)), (4, .int vi)] rfl ?_
              refine ih (i + 1) (top) (upd f (top - 1) 0) (by omega) (by omega) (by omega) (fun S hS hS2 => kk S (hS.trans (congrArg (rnS (evS g so pl vi v) (g (5 + 4 * t + 1)) (i + 1) k) ?_)) hS2)
              show (top, (upd f (top - 1) 0)) = stp (evS g so pl vi v) (g (5 + 4 * t + 1) i) (top, f)
              first | (simp [stp, c46, c96, c132, c138, c158]; done) | (exfalso; omega) | (exfalso; simp_all; done)
            · refine go_iconst (pc' := 162) cx 1 dX3_tell_161 rfl rfl ?_
              refine go_goto cx 166 dX3_tell_162 rfl ?_
              refine go_iastk (pc' := 167) cx (top - 1) dX3_tell_166 (txt_k' _ ht).2.2.2 (by omega) (vpi (k := (top - 1)) (a := 40) (by omega) rfl rfl) (cli (k := (top - 1)) (a := 40) (by omega) rfl) rfl ?_
              refine go_g (upw_up g (5 + 4 * t + 3) f (top - 1) 1) ?_
              refine go_goto cx 209 dX3_tell_167 rfl ?_
              refine go_iinc (pc' := 212) cx (nI (i + 1)) dX3_tell_209 rfl (nI_1 i) (ltn rfl) [(6, .int (nI (i + 1))), (7, .int (g (5 + 4 * t + 1) i)), (5, .int (nI top)), (0, .ref (E.2.1 (5 + 4 * t))), (1, .int (nI pt)), (2, .int (nI pl)), (3, .ref (E.2.1 so)), (4, .int vi)] rfl rfl ?_
              refine go_goto cx 21 dX3_tell_212 rfl ?_
              refine go_sub [0, 2, 3, 4, 5, 6, 7] [(6, .int (nI (i + 1))), (5, .int (nI top)), (0, .ref (E.2.1 (5 + 4 * t))), (1, .int (nI pt)), (2, .int (nI pl)), (3, .ref (E.2.1 so)), (4, .int vi)] rfl ?_
              refine ih (i + 1) (top) (upd f (top - 1) 1) (by omega) (by omega) (by omega) (fun S hS hS2 => kk S (hS.trans (congrArg (rnS (evS g so pl vi v) (g (5 + 4 * t + 1)) (i + 1) k) ?_)) hS2)
              show (top, (upd f (top - 1) 1)) = stp (evS g so pl vi v) (g (5 + 4 * t + 1) i) (top, f)
              first | (simp [stp, c46, c96, c132, c138, c158]; done) | (exfalso; omega) | (exfalso; simp_all; done)
      · refine go_iload (pc' := 101) cx dX3_tell_99 rfl rfl ?_
        refine go_iconst (pc' := 102) cx 1 dX3_tell_101 rfl rfl ?_
        refine go_icmp_lt (pc' := 105) cx 127 dX3_tell_102 rfl rfl (fun c102 => ?_) (fun c102 => ?_)
        · have c102 := (nI_ltI (a := top) (b := 1) (by omega) (by omega)).mp c102
          refine go_iload (pc' := 129) cx dX3_tell_127 rfl rfl ?_
          refine go_sipush (pc' := 132) cx 10011 dX3_tell_129 rfl rfl ?_
          refine go_icmp_ne (pc' := 135) cx 170 dX3_tell_132 rfl rfl (fun c132 => ?_) (fun c132 => ?_)
          · refine go_iload (pc' := 172) cx dX3_tell_170 rfl rfl ?_
            refine go_iconst (pc' := 173) cx 2 dX3_tell_172 rfl rfl ?_
            refine go_icmp_lt (pc' := 176) cx 209 dX3_tell_173 rfl rfl (fun c173 => ?_) (fun c173 => ?_)
            · have c173 := (nI_ltI (a := top) (b := 2) (by omega) (by omega)).mp c173
              refine go_iinc (pc' := 212) cx (nI (i + 1)) dX3_tell_209 rfl (nI_1 i) (ltn rfl) [(6, .int (nI (i + 1))), (7, .int (g (5 + 4 * t + 1) i)), (5, .int (nI top)), (0, .ref (E.2.1 (5 + 4 * t))), (1, .int (nI pt)), (2, .int (nI pl)), (3, .ref (E.2.1 so)), (4, .int vi)] rfl rfl ?_
              refine go_goto cx 21 dX3_tell_212 rfl ?_
              refine go_sub [0, 2, 3, 4, 5, 6, 7] [(6, .int (nI (i + 1))), (5, .int (nI top)), (0, .ref (E.2.1 (5 + 4 * t))), (1, .int (nI pt)), (2, .int (nI pl)), (3, .ref (E.2.1 so)), (4, .int vi)] rfl ?_
              refine ih (i + 1) (top) f (by omega) (by omega) (by omega) (fun S hS hS2 => kk S (hS.trans (congrArg (rnS (evS g so pl vi v) (g (5 + 4 * t + 1)) (i + 1) k) ?_)) hS2)
              show (top, f) = stp (evS g so pl vi v) (g (5 + 4 * t + 1) i) (top, f)
              first | (simp [stp, c46, c96, c102, c132, c173]; done) | (exfalso; omega) | (exfalso; simp_all; done)
            · have c173 : ¬ top < 2 := fun q9 => c173 ((nI_ltI (a := top) (b := 2) (by omega) (by omega)).mpr q9)
              refine go_iinc (pc' := 179) cx (nI (top - 1)) dX3_tell_176 rfl (nI_m1 (by omega)) (ltn rfl) [(5, .int (nI (top - 1))), (7, .int (g (5 + 4 * t + 1) i)), (6, .int (nI i)), (0, .ref (E.2.1 (5 + 4 * t))), (1, .int (nI pt)), (2, .int (nI pl)), (3, .ref (E.2.1 so)), (4, .int vi)] rfl rfl ?_
              refine go_aload_n (pc' := 180) cx dX3_tell_179 rfl rfl ?_
              refine go_getr (pc' := 183) cx (5 + 4 * t + 3) fX3_18 dX3_tell_180 (txt_k' _ ht).1 (by omega) (ltn rfl) rfl (txt_r ht).2.2.1 rfl ?_
              refine go_iload (pc' := 185) cx dX3_tell_183 rfl rfl ?_
              refine go_iconst (pc' := 186) cx 1 dX3_tell_185 rfl rfl ?_
              refine go_isub (pc' := 187) cx dX3_tell_186 rfl ?_
              refine go_val (w := .int (nI ((top - 1) - 1))) (congrArg Value.int (pk_sub (a := (top - 1)) (b := 1) (by omega))) ?_
              refine go_iload (pc' := 189) cx dX3_tell_187 rfl rfl ?_
              refine go_aload_n (pc' := 190) cx dX3_tell_189 rfl rfl ?_
              refine go_getr (pc' := 193) cx (5 + 4 * t + 3) fX3_18 dX3_tell_190 (txt_k' _ ht).1 (by omega) (ltn rfl) rfl (txt_r ht).2.2.1 rfl ?_
              refine go_iload (pc' := 195) cx dX3_tell_193 rfl rfl ?_
              refine go_iconst (pc' := 196) cx 1 dX3_tell_195 rfl rfl ?_
              refine go_isub (pc' := 197) cx dX3_tell_196 rfl ?_
              refine go_val (w := .int (nI ((top - 1) - 1))) (congrArg Value.int (pk_sub (a := (top - 1)) (b := 1) (by omega))) ?_
              refine go_iald (pc' := 198) cx (f ((top - 1) - 1)) dX3_tell_197 (txt_k' _ ht).2.2.2 (by omega) (vpi (k := ((top - 1) - 1)) (a := 40) (by omega) rfl rfl) ((congrArg ((upw g (5 + 4 * t + 3) f) (5 + 4 * t + 3)) (cli (k := ((top - 1) - 1)) (a := 40) (by omega) rfl)).trans (upw_s g (5 + 4 * t + 3) f ((top - 1) - 1))) rfl ?_
              refine go_aload_n (pc' := 199) cx dX3_tell_198 rfl rfl ?_
              refine go_getr (pc' := 202) cx (5 + 4 * t + 3) fX3_18 dX3_tell_199 (txt_k' _ ht).1 (by omega) (ltn rfl) rfl (txt_r ht).2.2.1 rfl ?_
              refine go_iload (pc' := 204) cx dX3_tell_202 rfl rfl ?_
              refine go_iald (pc' := 205) cx (f (top - 1)) dX3_tell_204 (txt_k' _ ht).2.2.2 (by omega) (vpi (k := (top - 1)) (a := 40) (by omega) rfl rfl) ((congrArg ((upw g (5 + 4 * t + 3) f) (5 + 4 * t + 3)) (cli (k := (top - 1)) (a := 40) (by omega) rfl)).trans (upw_s g (5 + 4 * t + 3) f (top - 1))) rfl ?_
              refine go_cSi (pc' := 208) cx (c_X3_joined l E (g (5 + 4 * t + 1) i) (f ((top - 1) - 1)) (f (top - 1))) mX3_joined lX3_29 dX3_tell_205 rfl rfl rfl (ltn rfl) (Nat.le_of_ble_eq_true rfl) (Nat.le_of_ble_eq_true rfl) rfl ?_
              refine go_iastk (pc' := 209) cx ((top - 1) - 1) dX3_tell_208 (txt_k' _ ht).2.2.2 (by omega) (vpi (k := ((top - 1) - 1)) (a := 40) (by omega) rfl rfl) (cli (k := ((top - 1) - 1)) (a := 40) (by omega) rfl) rfl ?_
              refine go_g (upw_up g (5 + 4 * t + 3) f ((top - 1) - 1) (jnV (g (5 + 4 * t + 1) i) (f ((top - 1) - 1)) (f (top - 1)))) ?_
              refine go_iinc (pc' := 212) cx (nI (i + 1)) dX3_tell_209 rfl (nI_1 i) (ltn rfl) [(6, .int (nI (i + 1))), (5, .int (nI (top - 1))), (7, .int (g (5 + 4 * t + 1) i)), (0, .ref (E.2.1 (5 + 4 * t))), (1, .int (nI pt)), (2, .int (nI pl)), (3, .ref (E.2.1 so)), (4, .int vi)] rfl rfl ?_
              refine go_goto cx 21 dX3_tell_212 rfl ?_
              refine go_sub [0, 1, 3, 4, 5, 6, 7] [(6, .int (nI (i + 1))), (5, .int (nI (top - 1))), (0, .ref (E.2.1 (5 + 4 * t))), (1, .int (nI pt)), (2, .int (nI pl)), (3, .ref (E.2.1 so)), (4, .int vi)] rfl ?_
              refine ih (i + 1) (top - 1) (upd f ((top - 1) - 1) (jnV (g (5 + 4 * t + 1) i) (f ((top - 1) - 1)) (f (top - 1)))) (by omega) (by omega) (by omega) (fun S hS hS2 => kk S (hS.trans (congrArg (rnS (evS g so pl vi v) (g (5 + 4 * t + 1)) (i + 1) k) ?_)) hS2)
              show (top - 1, (upd f ((top - 1) - 1) (jnV (g (5 + 4 * t + 1) i) (f ((top - 1) - 1)) (f (top - 1))))) = stp (evS g so pl vi v) (g (5 + 4 * t + 1) i) (top, f)
              first | (simp [stp, c46, c96, c102, c132, c173]; done) | (exfalso; omega) | (exfalso; simp_all; done)
          · refine go_iload (pc' := 137) cx dX3_tell_135 rfl rfl ?_
            refine go_iconst (pc' := 138) cx 1 dX3_tell_137 rfl rfl ?_
            refine go_icmp_lt (pc' := 141) cx 170 dX3_tell_138 rfl rfl (fun c138 => ?_) (fun c138 => ?_)
            · have c138 := (nI_ltI (a := top) (b := 1) (by omega) (by omega)).mp c138
              refine go_iload (pc' := 172) cx dX3_tell_170 rfl rfl ?_
              refine go_iconst (pc' := 173) cx 2 dX3_tell_172 rfl rfl ?_
              refine go_icmp_lt (pc' := 176) cx 209 dX3_tell_173 rfl rfl (fun c173 => ?_) (fun c173 => ?_)
              · have c173 := (nI_ltI (a := top) (b := 2) (by omega) (by omega)).mp c173
                refine go_iinc (pc' := 212) cx (nI (i + 1)) dX3_tell_209 rfl (nI_1 i) (ltn rfl) [(6, .int (nI (i + 1))), (7, .int (g (5 + 4 * t + 1) i)), (5, .int (nI top)), (0, .ref (E.2.1 (5 + 4 * t))), (1, .int (nI pt)), (2, .int (nI pl)), (3, .ref (E.2.1 so)), (4, .int vi)] rfl rfl ?_
                refine go_goto cx 21 dX3_tell_212 rfl ?_
                refine go_sub [0, 2, 3, 4, 5, 6, 7] [(6, .int (nI (i + 1))), (5, .int (nI top)), (0, .ref (E.2.1 (5 + 4 * t))), (1, .int (nI pt)), (2, .int (nI pl)), (3, .ref (E.2.1 so)), (4, .int vi)] rfl ?_
                refine ih (i + 1) (top) f (by omega) (by omega) (by omega) (fun S hS hS2 => kk S (hS.trans (congrArg (rnS (evS g so pl vi v) (g (5 + 4 * t + 1)) (i + 1) k) ?_)) hS2)
                show (top, f) = stp (evS g so pl vi v) (g (5 + 4 * t + 1) i) (top, f)
                first | (simp [stp, c46, c96, c102, c132, c138, c173]; done) | (exfalso; omega) | (exfalso; simp_all; done)
              · have c173 : ¬ top < 2 := fun q9 => c173 ((nI_ltI (a := top) (b := 2) (by omega) (by omega)).mpr q9)
                refine go_iinc (pc' := 179) cx (nI (top - 1)) dX3_tell_176 rfl (nI_m1 (by omega)) (ltn rfl) [(5, .int (nI (top - 1))), (7, .int (g (5 + 4 * t + 1) i)), (6, .int (nI i)), (0, .ref (E.2.1 (5 + 4 * t))), (1, .int (nI pt)), (2, .int (nI pl)), (3, .ref (E.2.1 so)), (4, .int vi)] rfl rfl ?_
                refine go_aload_n (pc' := 180) cx dX3_tell_179 rfl rfl ?_
                refine go_getr (pc' := 183) cx (5 + 4 * t + 3) fX3_18 dX3_tell_180 (txt_k' _ ht).1 (by omega) (ltn rfl) rfl (txt_r ht).2.2.1 rfl ?_
                refine go_iload (pc' := 185) cx dX3_tell_183 rfl rfl ?_
                refine go_iconst (pc' := 186) cx 1 dX3_tell_185 rfl rfl ?_
                refine go_isub (pc' := 187) cx dX3_tell_186 rfl ?_
                refine go_val (w := .int (nI ((top - 1) - 1))) (congrArg Value.int (pk_sub (a := (top - 1)) (b := 1) (by omega))) ?_
                refine go_iload (pc' := 189) cx dX3_tell_187 rfl rfl ?_
                refine go_aload_n (pc' := 190) cx dX3_tell_189 rfl rfl ?_
                refine go_getr (pc' := 193) cx (5 + 4 * t + 3) fX3_18 dX3_tell_190 (txt_k' _ ht).1 (by omega) (ltn rfl) rfl (txt_r ht).2.2.1 rfl ?_
                refine go_iload (pc' := 195) cx dX3_tell_193 rfl rfl ?_
                refine go_iconst (pc' := 196) cx 1 dX3_tell_195 rfl rfl ?_
                refine go_isub (pc' := 197) cx dX3_tell_196 rfl ?_
                refine go_val (w := .int (nI ((top - 1) - 1))) (congrArg Value.int (pk_sub (a := (top - 1)) (b := 1) (by omega))) ?_
                refine go_iald (pc' := 198) cx (f ((top - 1) - 1)) dX3_tell_197 (txt_k' _ ht).2.2.2 (by omega) (vpi (k := ((top - 1) - 1)) (a := 40) (by omega) rfl rfl) ((congrArg ((upw g (5 + 4 * t + 3) f) (5 + 4 * t + 3)) (cli (k := ((top - 1) - 1)) (a := 40) (by omega) rfl)).trans (upw_s g (5 + 4 * t + 3) f ((top - 1) - 1))) rfl ?_
                refine go_aload_n (pc' := 199) cx dX3_tell_198 rfl rfl ?_
                refine go_getr (pc' := 202) cx (5 + 4 * t + 3) fX3_18 dX3_tell_199 (txt_k' _ ht).1 (by omega) (ltn rfl) rfl (txt_r ht).2.2.1 rfl ?_
                refine go_iload (pc' := 204) cx dX3_tell_202 rfl rfl ?_
                refine go_iald (pc' := 205) cx (f (top - 1)) dX3_tell_204 (txt_k' _ ht).2.2.2 (by omega) (vpi (k := (top - 1)) (a := 40) (by omega) rfl rfl) ((congrArg ((upw g (5 + 4 * t + 3) f) (5 + 4 * t + 3)) (cli (k := (top - 1)) (a := 40) (by omega) rfl)).trans (upw_s g (5 + 4 * t + 3) f (top - 1))) rfl ?_
                refine go_cSi (pc' := 208) cx (c_X3_joined l E (g (5 + 4 * t + 1) i) (f ((top - 1) - 1)) (f (top - 1))) mX3_joined lX3_29 dX3_tell_205 rfl rfl rfl (ltn rfl) (Nat.le_of_ble_eq_true rfl) (Nat.le_of_ble_eq_true rfl) rfl ?_
                refine go_iastk (pc' := 209) cx ((top - 1) - 1) dX3_tell_208 (txt_k' _ ht).2.2.2 (by omega) (vpi (k := ((top - 1) - 1)) (a := 40) (by omega) rfl rfl) (cli (k := ((top - 1) - 1)) (a := 40) (by omega) rfl) rfl ?_
                refine go_g (upw_up g (5 + 4 * t + 3) f ((top - 1) - 1) (jnV (g (5 + 4 * t + 1) i) (f ((top - 1) - 1)) (f (top - 1)))) ?_
                refine go_iinc (pc' := 212) cx (nI (i + 1)) dX3_tell_209 rfl (nI_1 i) (ltn rfl) [(6, .int (nI (i + 1))), (5, .int (nI (top - 1))), (7, .int (g (5 + 4 * t + 1) i)), (0, .ref (E.2.1 (5 + 4 * t))), (1, .int (nI pt)), (2, .int (nI pl)), (3, .ref (E.2.1 so)), (4, .int vi)] rfl rfl ?_
                refine go_goto cx 21 dX3_tell_212 rfl ?_
                refine go_sub [0, 1, 3, 4, 5, 6, 7] [(6, .int (nI (i + 1))), (5, .int (nI (top - 1))), (0, .ref (E.2.1 (5 + 4 * t))), (1, .int (nI pt)), (2, .int (nI pl)), (3, .ref (E.2.1 so)), (4, .int vi)] rfl ?_
                refine ih (i + 1) (top - 1) (upd f ((top - 1) - 1) (jnV (g (5 + 4 * t + 1) i) (f ((top - 1) - 1)) (f (top - 1)))) (by omega) (by omega) (by omega) (fun S hS hS2 => kk S (hS.trans (congrArg (rnS (evS g so pl vi v) (g (5 + 4 * t + 1)) (i + 1) k) ?_)) hS2)
                show (top - 1, (upd f ((top - 1) - 1) (jnV (g (5 + 4 * t + 1) i) (f ((top - 1) - 1)) (f (top - 1))))) = stp (evS g so pl vi v) (g (5 + 4 * t + 1) i) (top, f)
                first | (simp [stp, c46, c96, c102, c132, c138, c173]; done) | (exfalso; omega) | (exfalso; simp_all; done)
            · have c138 : ¬ top < 1 := fun q9 => c138 ((nI_ltI (a := top) (b := 1) (by omega) (by omega)).mpr q9)
              refine go_aload_n (pc' := 142) cx dX3_tell_141 rfl rfl ?_
              refine go_getr (pc' := 145) cx (5 + 4 * t + 3) fX3_18 dX3_tell_142 (txt_k' _ ht).1 (by omega) (ltn rfl) rfl (txt_r ht).2.2.1 rfl ?_
              refine go_iload (pc' := 147) cx dX3_tell_145 rfl rfl ?_
              refine go_iconst (pc' := 148) cx 1 dX3_tell_147 rfl rfl ?_
              refine go_isub (pc' := 149) cx dX3_tell_148 rfl ?_
              refine go_val (w := .int (nI (top - 1))) (congrArg Value.int (pk_sub (a := top) (b := 1) (by omega))) ?_
              refine go_aload_n (pc' := 150) cx dX3_tell_149 rfl rfl ?_
              refine go_getr (pc' := 153) cx (5 + 4 * t + 3) fX3_18 dX3_tell_150 (txt_k' _ ht).1 (by omega) (ltn rfl) rfl (txt_r ht).2.2.1 rfl ?_
              refine go_iload (pc' := 155) cx dX3_tell_153 rfl rfl ?_
              refine go_iconst (pc' := 156) cx 1 dX3_tell_155 rfl rfl ?_
              refine go_isub (pc' := 157) cx dX3_tell_156 rfl ?_
              refine go_val (w := .int (nI (top - 1))) (congrArg Value.int (pk_sub (a := top) (b := 1) (by omega))) ?_
              refine go_iald (pc' := 158) cx (f (top - 1)) dX3_tell_157 (txt_k' _ ht).2.2.2 (by omega) (vpi (k := (top - 1)) (a := 40) (by omega) rfl rfl) ((congrArg ((upw g (5 + 4 * t + 3) f) (5 + 4 * t + 3)) (cli (k := (top - 1)) (a := 40) (by omega) rfl)).trans (upw_s g (5 + 4 * t + 3) f (top - 1))) rfl ?_
              refine go_if_ne (pc' := 161) cx 165 dX3_tell_158 rfl rfl (fun c158 => ?_) (fun c158 => ?_)
              · refine go_iconst (pc' := 166) cx 0 dX3_tell_165 rfl rfl ?_
                refine go_iastk (pc' := 167) cx (top - 1) dX3_tell_166 (txt_k' _ ht).2.2.2 (by omega) (vpi (k := (top - 1)) (a := 40) (by omega) rfl rfl) (cli (k := (top - 1)) (a := 40) (by omega) rfl) rfl ?_
                refine go_g (upw_up g (5 + 4 * t + 3) f (top - 1) 0) ?_
                refine go_goto cx 209 dX3_tell_167 rfl ?_
                refine go_iinc (pc' := 212) cx (nI (i + 1)) dX3_tell_209 rfl (nI_1 i) (ltn rfl) [(6, .int (nI (i + 1))), (7, .int (g (5 + 4 * t + 1) i)), (5, .int (nI top)), (0, .ref (E.2.1 (5 + 4 * t))), (1, .int (nI pt)), (2, .int (nI pl)), (3, .ref (E.2.1 so)), (4, .int vi)] rfl rfl ?_
                refine go_goto cx 21 dX3_tell_212 rfl ?_
                refine go_sub [0, 2, 3, 4, 5, 6, 7] [(6, .int (nI (i + 1))), (5, .int (nI top)), (0, .ref (E.2.1 (5 + 4 * t))), (1, .int (nI pt)), (2, .int (nI pl)), (3, .ref (E.2.1 so)), (4, .int vi)] rfl ?_
                refine ih (i + 1) (top) (upd f (top - 1) 0) (by omega) (by omega) (by omega) (fun S hS hS2 => kk S (hS.trans (congrArg (rnS (evS g so pl vi v) (g (5 + 4 * t + 1)) (i + 1) k) ?_)) hS2)
                show (top, (upd f (top - 1) 0)) = stp (evS g so pl vi v) (g (5 + 4 * t + 1) i) (top, f)
                first | (simp [stp, c46, c96, c102, c132, c138, c158]; done) | (exfalso; omega) | (exfalso; simp_all; done)
              · refine go_iconst (pc' := 162) cx 1 dX3_tell_161 rfl rfl ?_
                refine go_goto cx 166 dX3_tell_162 rfl ?_
                refine go_iastk (pc' := 167) cx (top - 1) dX3_tell_166 (txt_k' _ ht).2.2.2 (by omega) (vpi (k := (top - 1)) (a := 40) (by omega) rfl rfl) (cli (k := (top - 1)) (a := 40) (by omega) rfl) rfl ?_
                refine go_g (upw_up g (5 + 4 * t + 3) f (top - 1) 1) ?_
                refine go_goto cx 209 dX3_tell_167 rfl ?_
                refine go_iinc (pc' := 212) cx (nI (i + 1)) dX3_tell_209 rfl (nI_1 i) (ltn rfl) [(6, .int (nI (i + 1))), (7, .int (g (5 + 4 * t + 1) i)), (5, .int (nI top)), (0, .ref (E.2.1 (5 + 4 * t))), (1, .int (nI pt)), (2, .int (nI pl)), (3, .ref (E.2.1 so)), (4, .int vi)] rfl rfl ?_
                refine go_goto cx 21 dX3_tell_212 rfl ?_
                refine go_sub [0, 2, 3, 4, 5, 6, 7] [(6, .int (nI (i + 1))), (5, .int (nI top)), (0, .ref (E.2.1 (5 + 4 * t))), (1, .int (nI pt)), (2, .int (nI pl)), (3, .ref (E.2.1 so)), (4, .int vi)] rfl ?_
                refine ih (i + 1) (top) (upd f (top - 1) 1) (by omega) (by omega) (by omega) (fun S hS hS2 => kk S (hS.trans (congrArg (rnS (evS g so pl vi v) (g (5 + 4 * t + 1)) (i + 1) k) ?_)) hS2)
                show (top, (upd f (top - 1) 1)) = stp (evS g so pl vi v) (g (5 + 4 * t + 1) i) (top, f)
                first | (simp [stp, c46, c96, c102, c132, c138, c158]; done) | (exfalso; omega) | (exfalso; simp_all; done)
        · have c102 : ¬ top < 1 := fun q9 => c102 ((nI_ltI (a := top) (b := 1) (by omega) (by omega)).mpr q9)
          refine go_aload_n (pc' := 106) cx dX3_tell_105 rfl rfl ?_
          refine go_getr (pc' := 109) cx (5 + 4 * t + 3) fX3_18 dX3_tell_106 (txt_k' _ ht).1 (by omega) (ltn rfl) rfl (txt_r ht).2.2.1 rfl ?_
          refine go_iload (pc' := 111) cx dX3_tell_109 rfl rfl ?_
          refine go_iconst (pc' := 112) cx 1 dX3_tell_111 rfl rfl ?_
          refine go_isub (pc' := 113) cx dX3_tell_112 rfl ?_
          refine go_val (w := .int (nI (top - 1))) (congrArg Value.int (pk_sub (a := top) (b := 1) (by omega))) ?_
          refine go_aload_n (pc' := 114) cx dX3_tell_113 rfl rfl ?_
          refine go_getr (pc' := 117) cx (5 + 4 * t + 3) fX3_18 dX3_tell_114 (txt_k' _ ht).1 (by omega) (ltn rfl) rfl (txt_r ht).2.2.1 rfl ?_
          refine go_iload (pc' := 119) cx dX3_tell_117 rfl rfl ?_
          refine go_iconst (pc' := 120) cx 1 dX3_tell_119 rfl rfl ?_
          refine go_isub (pc' := 121) cx dX3_tell_120 rfl ?_
          refine go_val (w := .int (nI (top - 1))) (congrArg Value.int (pk_sub (a := top) (b := 1) (by omega))) ?_
          refine go_iald (pc' := 122) cx (f (top - 1)) dX3_tell_121 (txt_k' _ ht).2.2.2 (by omega) (vpi (k := (top - 1)) (a := 40) (by omega) rfl rfl) ((congrArg ((upw g (5 + 4 * t + 3) f) (5 + 4 * t + 3)) (cli (k := (top - 1)) (a := 40) (by omega) rfl)).trans (upw_s g (5 + 4 * t + 3) f (top - 1))) rfl ?_
          refine go_ineg (pc' := 123) cx dX3_tell_122 rfl ?_
          refine go_iastk (pc' := 124) cx (top - 1) dX3_tell_123 (txt_k' _ ht).2.2.2 (by omega) (vpi (k := (top - 1)) (a := 40) (by omega) rfl rfl) (cli (k := (top - 1)) (a := 40) (by omega) rfl) rfl ?_
          refine go_g (upw_up g (5 + 4 * t + 3) f (top - 1) (-(f (top - 1)))) ?_
          refine go_goto cx 209 dX3_tell_124 rfl ?_
          refine go_iinc (pc' := 212) cx (nI (i + 1)) dX3_tell_209 rfl (nI_1 i) (ltn rfl) [(6, .int (nI (i + 1))), (7, .int (g (5 + 4 * t + 1) i)), (5, .int (nI top)), (0, .ref (E.2.1 (5 + 4 * t))), (1, .int (nI pt)), (2, .int (nI pl)), (3, .ref (E.2.1 so)), (4, .int vi)] rfl rfl ?_
          refine go_goto cx 21 dX3_tell_212 rfl ?_
          refine go_sub [0, 2, 3, 4, 5, 6, 7] [(6, .int (nI (i + 1))), (5, .int (nI top)), (0, .ref (E.2.1 (5 + 4 * t))), (1, .int (nI pt)), (2, .int (nI pl)), (3, .ref (E.2.1 so)), (4, .int vi)] rfl ?_
          refine ih (i + 1) (top) (upd f (top - 1) (-(f (top - 1)))) (by omega) (by omega) (by omega) (fun S hS hS2 => kk S (hS.trans (congrArg (rnS (evS g so pl vi v) (g (5 + 4 * t + 1)) (i + 1) k) ?_)) hS2)
          show (top, (upd f (top - 1) (-(f (top - 1))))) = stp (evS g so pl vi v) (g (5 + 4 * t + 1) i) (top, f)
          first | (simp [stp, c46, c96, c102]; done) | (exfalso; omega) | (exfalso; simp_all; done)
    · refine go_iload (pc' := 51) cx dX3_tell_49 rfl rfl ?_
      refine go_bipush (pc' := 53) cx 40 dX3_tell_51 rfl rfl ?_
      refine go_icmp_ge (pc' := 56) cx 91 dX3_tell_53 rfl rfl (fun c53 => ?_) (fun c53 => ?_)
      · have c53 := (nI_leI (a := 40) (b := top) (by omega) (by omega)).mp c53
        refine go_iload (pc' := 93) cx dX3_tell_91 rfl rfl ?_
        refine go_sipush (pc' := 96) cx 10020 dX3_tell_93 rfl rfl ?_
        refine go_icmp_ne (pc' := 99) cx 127 dX3_tell_96 rfl rfl (fun c96 => ?_) (fun c96 => ?_)
        · refine go_iload (pc' := 129) cx dX3_tell_127 rfl rfl ?_
          refine go_sipush (pc' := 132) cx 10011 dX3_tell_129 rfl rfl ?_
          refine go_icmp_ne (pc' := 135) cx 170 dX3_tell_132 rfl rfl (fun c132 => ?_) (fun c132 => ?_)
          · refine go_iload (pc' := 172) cx dX3_tell_170 rfl rfl ?_
            refine go_iconst (pc' := 173) cx 2 dX3_tell_172 rfl rfl ?_
            refine go_icmp_lt (pc' := 176) cx 209 dX3_tell_173 rfl rfl (fun c173 => ?_) (fun c173 => ?_)
            · have c173 := (nI_ltI (a := top) (b := 2) (by omega) (by omega)).mp c173
              refine go_iinc (pc' := 212) cx (nI (i + 1)) dX3_tell_209 rfl (nI_1 i) (ltn rfl) [(6, .int (nI (i + 1))), (7, .int (g (5 + 4 * t + 1) i)), (5, .int (nI top)), (0, .ref (E.2.1 (5 + 4 * t))), (1, .int (nI pt)), (2, .int (nI pl)), (3, .ref (E.2.1 so)), (4, .int vi)] rfl rfl ?_
              refine go_goto cx 21 dX3_tell_212 rfl ?_
              refine go_sub [0, 2, 3, 4, 5, 6, 7] [(6, .int (nI (i + 1))), (5, .int (nI top)), (0, .ref (E.2.1 (5 + 4 * t))), (1, .int (nI pt)), (2, .int (nI pl)), (3, .ref (E.2.1 so)), (4, .int vi)] rfl ?_
              refine ih (i + 1) (top) f (by omega) (by omega) (by omega) (fun S hS hS2 => kk S (hS.trans (congrArg (rnS (evS g so pl vi v) (g (5 + 4 * t + 1)) (i + 1) k) ?_)) hS2)
              show (top, f) = stp (evS g so pl vi v) (g (5 + 4 * t + 1) i) (top, f)
              first | (simp [stp, c46, c53, c96, c132, c173]; done) | (exfalso; omega) | (exfalso; simp_all; done)
            · have c173 : ¬ top < 2 := fun q9 => c173 ((nI_ltI (a := top) (b := 2) (by omega) (by omega)).mpr q9)
              refine go_iinc (pc' := 179) cx (nI (top - 1)) dX3_tell_176 rfl (nI_m1 (by omega)) (ltn rfl) [(5, .int (nI (top - 1))), (7, .int (g (5 + 4 * t + 1) i)), (6, .int (nI i)), (0, .ref (E.2.1 (5 + 4 * t))), (1, .int (nI pt)), (2, .int (nI pl)), (3, .ref (E.2.1 so)), (4, .int vi)] rfl rfl ?_
              refine go_aload_n (pc' := 180) cx dX3_tell_179 rfl rfl ?_
              refine go_getr (pc' := 183) cx (5 + 4 * t + 3) fX3_18 dX3_tell_180 (txt_k' _ ht).1 (by omega) (ltn rfl) rfl (txt_r ht).2.2.1 rfl ?_
              refine go_iload (pc' := 185) cx dX3_tell_183 rfl rfl ?_
              refine go_iconst (pc' := 186) cx 1 dX3_tell_185 rfl rfl ?_
              refine go_isub (pc' := 187) cx dX3_tell_186 rfl ?_
              refine go_val (w := .int (nI ((top - 1) - 1))) (congrArg Value.int (pk_sub (a := (top - 1)) (b := 1) (by omega))) ?_
              refine go_iload (pc' := 189) cx dX3_tell_187 rfl rfl ?_
              refine go_aload_n (pc' := 190) cx dX3_tell_189 rfl rfl ?_
              refine go_getr (pc' := 193) cx (5 + 4 * t + 3) fX3_18 dX3_tell_190 (txt_k' _ ht).1 (by omega) (ltn rfl) rfl (txt_r ht).2.2.1 rfl ?_
              refine go_iload (pc' := 195) cx dX3_tell_193 rfl rfl ?_
              refine go_iconst (pc' := 196) cx 1 dX3_tell_195 rfl rfl ?_
              refine go_isub (pc' := 197) cx dX3_tell_196 rfl ?_
              refine go_val (w := .int (nI ((top - 1) - 1))) (congrArg Value.int (pk_sub (a := (top - 1)) (b := 1) (by omega))) ?_
              refine go_iald (pc' := 198) cx (f ((top - 1) - 1)) dX3_tell_197 (txt_k' _ ht).2.2.2 (by omega) (vpi (k := ((top - 1) - 1)) (a := 40) (by omega) rfl rfl) ((congrArg ((upw g (5 + 4 * t + 3) f) (5 + 4 * t + 3)) (cli (k := ((top - 1) - 1)) (a := 40) (by omega) rfl)).trans (upw_s g (5 + 4 * t + 3) f ((top - 1) - 1))) rfl ?_
              refine go_aload_n (pc' := 199) cx dX3_tell_198 rfl rfl ?_
              refine go_getr (pc' := 202) cx (5 + 4 * t + 3) fX3_18 dX3_tell_199 (txt_k' _ ht).1 (by omega) (ltn rfl) rfl (txt_r ht).2.2.1 rfl ?_
              refine go_iload (pc' := 204) cx dX3_tell_202 rfl rfl ?_
              refine go_iald (pc' := 205) cx (f (top - 1)) dX3_tell_204 (txt_k' _ ht).2.2.2 (by omega) (vpi (k := (top - 1)) (a := 40) (by omega) rfl rfl) ((congrArg ((upw g (5 + 4 * t + 3) f) (5 + 4 * t + 3)) (cli (k := (top - 1)) (a := 40) (by omega) rfl)).trans (upw_s g (5 + 4 * t + 3) f (top - 1))) rfl ?_
              refine go_cSi (pc' := 208) cx (c_X3_joined l E (g (5 + 4 * t + 1) i) (f ((top - 1) - 1)) (f (top - 1))) mX3_joined lX3_29 dX3_tell_205 rfl rfl rfl (ltn rfl) (Nat.le_of_ble_eq_true rfl) (Nat.le_of_ble_eq_true rfl) rfl ?_
              refine go_iastk (pc' := 209) cx ((top - 1) - 1) dX3_tell_208 (txt_k' _ ht).2.2.2 (by omega) (vpi (k := ((top - 1) - 1)) (a := 40) (by omega) rfl rfl) (cli (k := ((top - 1) - 1)) (a := 40) (by omega) rfl) rfl ?_
              refine go_g (upw_up g (5 + 4 * t + 3) f ((top - 1) - 1) (jnV (g (5 + 4 * t + 1) i) (f ((top - 1) - 1)) (f (top - 1)))) ?_
              refine go_iinc (pc' := 212) cx (nI (i + 1)) dX3_tell_209 rfl (nI_1 i) (ltn rfl) [(6, .int (nI (i + 1))), (5, .int (nI (top - 1))), (7, .int (g (5 + 4 * t + 1) i)), (0, .ref (E.2.1 (5 + 4 * t))), (1, .int (nI pt)), (2, .int (nI pl)), (3, .ref (E.2.1 so)), (4, .int vi)] rfl rfl ?_
              refine go_goto cx 21 dX3_tell_212 rfl ?_
              refine go_sub [0, 1, 3, 4, 5, 6, 7] [(6, .int (nI (i + 1))), (5, .int (nI (top - 1))), (0, .ref (E.2.1 (5 + 4 * t))), (1, .int (nI pt)), (2, .int (nI pl)), (3, .ref (E.2.1 so)), (4, .int vi)] rfl ?_
              refine ih (i + 1) (top - 1) (upd f ((top - 1) - 1) (jnV (g (5 + 4 * t + 1) i) (f ((top - 1) - 1)) (f (top - 1)))) (by omega) (by omega) (by omega) (fun S hS hS2 => kk S (hS.trans (congrArg (rnS (evS g so pl vi v) (g (5 + 4 * t + 1)) (i + 1) k) ?_)) hS2)
              show (top - 1, (upd f ((top - 1) - 1) (jnV (g (5 + 4 * t + 1) i) (f ((top - 1) - 1)) (f (top - 1))))) = stp (evS g so pl vi v) (g (5 + 4 * t + 1) i) (top, f)
              first | (simp [stp, c46, c53, c96, c132, c173]; done) | (exfalso; omega) | (exfalso; simp_all; done)
          · refine go_iload (pc' := 137) cx dX3_tell_135 rfl rfl ?_
            refine go_iconst (pc' := 138) cx 1 dX3_tell_137 rfl rfl ?_
            refine go_icmp_lt (pc' := 141) cx 170 dX3_tell_138 rfl rfl (fun c138 => ?_) (fun c138 => ?_)
            · have c138 := (nI_ltI (a := top) (b := 1) (by omega) (by omega)).mp c138
              refine go_iload (pc' := 172) cx dX3_tell_170 rfl rfl ?_
              refine go_iconst (pc' := 173) cx 2 dX3_tell_172 rfl rfl ?_
              refine go_icmp_lt (pc' := 176) cx 209 dX3_tell_173 rfl rfl (fun c173 => ?_) (fun c173 => ?_)
              · have c173 := (nI_ltI (a := top) (b := 2) (by omega) (by omega)).mp c173
                refine go_iinc (pc' := 212) cx (nI (i + 1)) dX3_tell_209 rfl (nI_1 i) (ltn rfl) [(6, .int (nI (i + 1))), (7, .int (g (5 + 4 * t + 1) i)), (5, .int (nI top)), (0, .ref (E.2.1 (5 + 4 * t))), (1, .int (nI pt)), (2, .int (nI pl)), (3, .ref (E.2.1 so)), (4, .int vi)] rfl rfl ?_
                refine go_goto cx 21 dX3_tell_212 rfl ?_
                refine go_sub [0, 2, 3, 4, 5, 6, 7] [(6, .int (nI (i + 1))), (5, .int (nI top)), (0, .ref (E.2.1 (5 + 4 * t))), (1, .int (nI pt)), (2, .int (nI pl)), (3, .ref (E.2.1 so)), (4, .int vi)] rfl ?_
                refine ih (i + 1) (top) f (by omega) (by omega) (by omega) (fun S hS hS2 => kk S (hS.trans (congrArg (rnS (evS g so pl vi v) (g (5 + 4 * t + 1)) (i + 1) k) ?_)) hS2)
                show (top, f) = stp (evS g so pl vi v) (g (5 + 4 * t + 1) i) (top, f)
                first | (simp [stp, c46, c53, c96, c132, c138, c173]; done) | (exfalso; omega) | (exfalso; simp_all; done)
              · have c173 : ¬ top < 2 := fun q9 => c173 ((nI_ltI (a := top) (b := 2) (by omega) (by omega)).mpr q9)
                refine go_iinc (pc' := 179) cx (nI (top - 1)) dX3_tell_176 rfl (nI_m1 (by omega)) (ltn rfl) [(5, .int (nI (top - 1))), (7, .int (g (5 + 4 * t + 1) i)), (6, .int (nI i)), (0, .ref (E.2.1 (5 + 4 * t))), (1, .int (nI pt)), (2, .int (nI pl)), (3, .ref (E.2.1 so)), (4, .int vi)] rfl rfl ?_
                refine go_aload_n (pc' := 180) cx dX3_tell_179 rfl rfl ?_
                refine go_getr (pc' := 183) cx (5 + 4 * t + 3) fX3_18 dX3_tell_180 (txt_k' _ ht).1 (by omega) (ltn rfl) rfl (txt_r ht).2.2.1 rfl ?_
                refine go_iload (pc' := 185) cx dX3_tell_183 rfl rfl ?_
                refine go_iconst (pc' := 186) cx 1 dX3_tell_185 rfl rfl ?_
                refine go_isub (pc' := 187) cx dX3_tell_186 rfl ?_
                refine go_val (w := .int (nI ((top - 1) - 1))) (congrArg Value.int (pk_sub (a := (top - 1)) (b := 1) (by omega))) ?_
                refine go_iload (pc' := 189) cx dX3_tell_187 rfl rfl ?_
                refine go_aload_n (pc' := 190) cx dX3_tell_189 rfl rfl ?_
                refine go_getr (pc' := 193) cx (5 + 4 * t + 3) fX3_18 dX3_tell_190 (txt_k' _ ht).1 (by omega) (ltn rfl) rfl (txt_r ht).2.2.1 rfl ?_
                refine go_iload (pc' := 195) cx dX3_tell_193 rfl rfl ?_
                refine go_iconst (pc' := 196) cx 1 dX3_tell_195 rfl rfl ?_
                refine go_isub (pc' := 197) cx dX3_tell_196 rfl ?_
                refine go_val (w := .int (nI ((top - 1) - 1))) (congrArg Value.int (pk_sub (a := (top - 1)) (b := 1) (by omega))) ?_
                refine go_iald (pc' := 198) cx (f ((top - 1) - 1)) dX3_tell_197 (txt_k' _ ht).2.2.2 (by omega) (vpi (k := ((top - 1) - 1)) (a := 40) (by omega) rfl rfl) ((congrArg ((upw g (5 + 4 * t + 3) f) (5 + 4 * t + 3)) (cli (k := ((top - 1) - 1)) (a := 40) (by omega) rfl)).trans (upw_s g (5 + 4 * t + 3) f ((top - 1) - 1))) rfl ?_
                refine go_aload_n (pc' := 199) cx dX3_tell_198 rfl rfl ?_
                refine go_getr (pc' := 202) cx (5 + 4 * t + 3) fX3_18 dX3_tell_199 (txt_k' _ ht).1 (by omega) (ltn rfl) rfl (txt_r ht).2.2.1 rfl ?_
                refine go_iload (pc' := 204) cx dX3_tell_202 rfl rfl ?_
                refine go_iald (pc' := 205) cx (f (top - 1)) dX3_tell_204 (txt_k' _ ht).2.2.2 (by omega) (vpi (k := (top - 1)) (a := 40) (by omega) rfl rfl) ((congrArg ((upw g (5 + 4 * t + 3) f) (5 + 4 * t + 3)) (cli (k := (top - 1)) (a := 40) (by omega) rfl)).trans (upw_s g (5 + 4 * t + 3) f (top - 1))) rfl ?_
                refine go_cSi (pc' := 208) cx (c_X3_joined l E (g (5 + 4 * t + 1) i) (f ((top - 1) - 1)) (f (top - 1))) mX3_joined lX3_29 dX3_tell_205 rfl rfl rfl (ltn rfl) (Nat.le_of_ble_eq_true rfl) (Nat.le_of_ble_eq_true rfl) rfl ?_
                refine go_iastk (pc' := 209) cx ((top - 1) - 1) dX3_tell_208 (txt_k' _ ht).2.2.2 (by omega) (vpi (k := ((top - 1) - 1)) (a := 40) (by omega) rfl rfl) (cli (k := ((top - 1) - 1)) (a := 40) (by omega) rfl) rfl ?_
                refine go_g (upw_up g (5 + 4 * t + 3) f ((top - 1) - 1) (jnV (g (5 + 4 * t + 1) i) (f ((top - 1) - 1)) (f (top - 1)))) ?_
                refine go_iinc (pc' := 212) cx (nI (i + 1)) dX3_tell_209 rfl (nI_1 i) (ltn rfl) [(6, .int (nI (i + 1))), (5, .int (nI (top - 1))), (7, .int (g (5 + 4 * t + 1) i)), (0, .ref (E.2.1 (5 + 4 * t))), (1, .int (nI pt)), (2, .int (nI pl)), (3, .ref (E.2.1 so)), (4, .int vi)] rfl rfl ?_
                refine go_goto cx 21 dX3_tell_212 rfl ?_
                refine go_sub [0, 1, 3, 4, 5, 6, 7] [(6, .int (nI (i + 1))), (5, .int (nI (top - 1))), (0, .ref (E.2.1 (5 + 4 * t))), (1, .int (nI pt)), (2, .int (nI pl)), (3, .ref (E.2.1 so)), (4, .int vi)] rfl ?_
                refine ih (i + 1) (top - 1) (upd f ((top - 1) - 1) (jnV (g (5 + 4 * t + 1) i) (f ((top - 1) - 1)) (f (top - 1)))) (by omega) (by omega) (by omega) (fun S hS hS2 => kk S (hS.trans (congrArg (rnS (evS g so pl vi v) (g (5 + 4 * t + 1)) (i + 1) k) ?_)) hS2)
                show (top - 1, (upd f ((top - 1) - 1) (jnV (g (5 + 4 * t + 1) i) (f ((top - 1) - 1)) (f (top - 1))))) = stp (evS g so pl vi v) (g (5 + 4 * t + 1) i) (top, f)
                first | (simp [stp, c46, c53, c96, c132, c138, c173]; done) | (exfalso; omega) | (exfalso; simp_all; done)
            · have c138 : ¬ top < 1 := fun q9 => c138 ((nI_ltI (a := top) (b := 1) (by omega) (by omega)).mpr q9)
              refine go_aload_n (pc' := 142) cx dX3_tell_141 rfl rfl ?_
              refine go_getr (pc' := 145) cx (5 + 4 * t + 3) fX3_18 dX3_tell_142 (txt_k' _ ht).1 (by omega) (ltn rfl) rfl (txt_r ht).2.2.1 rfl ?_
              refine go_iload (pc' := 147) cx dX3_tell_145 rfl rfl ?_
              refine go_iconst (pc' := 148) cx 1 dX3_tell_147 rfl rfl ?_
              refine go_isub (pc' := 149) cx dX3_tell_148 rfl ?_
              refine go_val (w := .int (nI (top - 1))) (congrArg Value.int (pk_sub (a := top) (b := 1) (by omega))) ?_
              refine go_aload_n (pc' := 150) cx dX3_tell_149 rfl rfl ?_
              refine go_getr (pc' := 153) cx (5 + 4 * t + 3) fX3_18 dX3_tell_150 (txt_k' _ ht).1 (by omega) (ltn rfl) rfl (txt_r ht).2.2.1 rfl ?_
              refine go_iload (pc' := 155) cx dX3_tell_153 rfl rfl ?_
              refine go_iconst (pc' := 156) cx 1 dX3_tell_155 rfl rfl ?_
              refine go_isub (pc' := 157) cx dX3_tell_156 rfl ?_
              refine go_val (w := .int (nI (top - 1))) (congrArg Value.int (pk_sub (a := top) (b := 1) (by omega))) ?_
              refine go_iald (pc' := 158) cx (f (top - 1)) dX3_tell_157 (txt_k' _ ht).2.2.2 (by omega) (vpi (k := (top - 1)) (a := 40) (by omega) rfl rfl) ((congrArg ((upw g (5 + 4 * t + 3) f) (5 + 4 * t + 3)) (cli (k := (top - 1)) (a := 40) (by omega) rfl)).trans (upw_s g (5 + 4 * t + 3) f (top - 1))) rfl ?_
              refine go_if_ne (pc' := 161) cx 165 dX3_tell_158 rfl rfl (fun c158 => ?_) (fun c158 => ?_)
              · refine go_iconst (pc' := 166) cx 0 dX3_tell_165 rfl rfl ?_
                refine go_iastk (pc' := 167) cx (top - 1) dX3_tell_166 (txt_k' _ ht).2.2.2 (by omega) (vpi (k := (top - 1)) (a := 40) (by omega) rfl rfl) (cli (k := (top - 1)) (a := 40) (by omega) rfl) rfl ?_
                refine go_g (upw_up g (5 + 4 * t + 3) f (top - 1) 0) ?_
                refine go_goto cx 209 dX3_tell_167 rfl ?_
                refine go_iinc (pc' := 212) cx (nI (i + 1)) dX3_tell_209 rfl (nI_1 i) (ltn rfl) [(6, .int (nI (i + 1))), (7, .int (g (5 + 4 * t + 1) i)), (5, .int (nI top)), (0, .ref (E.2.1 (5 + 4 * t))), (1, .int (nI pt)), (2, .int (nI pl)), (3, .ref (E.2.1 so)), (4, .int vi)] rfl rfl ?_
                refine go_goto cx 21 dX3_tell_212 rfl ?_
                refine go_sub [0, 2, 3, 4, 5, 6, 7] [(6, .int (nI (i + 1))), (5, .int (nI top)), (0, .ref (E.2.1 (5 + 4 * t))), (1, .int (nI pt)), (2, .int (nI pl)), (3, .ref (E.2.1 so)), (4, .int vi)] rfl ?_
                refine ih (i + 1) (top) (upd f (top - 1) 0) (by omega) (by omega) (by omega) (fun S hS hS2 => kk S (hS.trans (congrArg (rnS (evS g so pl vi v) (g (5 + 4 * t + 1)) (i + 1) k) ?_)) hS2)
                show (top, (upd f (top - 1) 0)) = stp (evS g so pl vi v) (g (5 + 4 * t + 1) i) (top, f)
                first | (simp [stp, c46, c53, c96, c132, c138, c158]; done) | (exfalso; omega) | (exfalso; simp_all; done)
              · refine go_iconst (pc' := 162) cx 1 dX3_tell_161 rfl rfl ?_
                refine go_goto cx 166 dX3_tell_162 rfl ?_
                refine go_iastk (pc' := 167) cx (top - 1) dX3_tell_166 (txt_k' _ ht).2.2.2 (by omega) (vpi (k := (top - 1)) (a := 40) (by omega) rfl rfl) (cli (k := (top - 1)) (a := 40) (by omega) rfl) rfl ?_
                refine go_g (upw_up g (5 + 4 * t + 3) f (top - 1) 1) ?_
                refine go_goto cx 209 dX3_tell_167 rfl ?_
                refine go_iinc (pc' := 212) cx (nI (i + 1)) dX3_tell_209 rfl (nI_1 i) (ltn rfl) [(6, .int (nI (i + 1))), (7, .int (g (5 + 4 * t + 1) i)), (5, .int (nI top)), (0, .ref (E.2.1 (5 + 4 * t))), (1, .int (nI pt)), (2, .int (nI pl)), (3, .ref (E.2.1 so)), (4, .int vi)] rfl rfl ?_
                refine go_goto cx 21 dX3_tell_212 rfl ?_
                refine go_sub [0, 2, 3, 4, 5, 6, 7] [(6, .int (nI (i + 1))), (5, .int (nI top)), (0, .ref (E.2.1 (5 + 4 * t))), (1, .int (nI pt)), (2, .int (nI pl)), (3, .ref (E.2.1 so)), (4, .int vi)] rfl ?_
                refine ih (i + 1) (top) (upd f (top - 1) 1) (by omega) (by omega) (by omega) (fun S hS hS2 => kk S (hS.trans (congrArg (rnS (evS g so pl vi v) (g (5 + 4 * t + 1)) (i + 1) k) ?_)) hS2)
                show (top, (upd f (top - 1) 1)) = stp (evS g so pl vi v) (g (5 + 4 * t + 1) i) (top, f)
                first | (simp [stp, c46, c53, c96, c132, c138, c158]; done) | (exfalso; omega) | (exfalso; simp_all; done)
        · refine go_iload (pc' := 101) cx dX3_tell_99 rfl rfl ?_
          refine go_iconst (pc' := 102) cx 1 dX3_tell_101 rfl rfl ?_
          refine go_icmp_lt (pc' := 105) cx 127 dX3_tell_102 rfl rfl (fun c102 => ?_) (fun c102 => ?_)
          · have c102 := (nI_ltI (a := top) (b := 1) (by omega) (by omega)).mp c102
            refine go_iload (pc' := 129) cx dX3_tell_127 rfl rfl ?_
            refine go_sipush (pc' := 132) cx 10011 dX3_tell_129 rfl rfl ?_
            refine go_icmp_ne (pc' := 135) cx 170 dX3_tell_132 rfl rfl (fun c132 => ?_) (fun c132 => ?_)
            · refine go_iload (pc' := 172) cx dX3_tell_170 rfl rfl ?_
              refine go_iconst (pc' := 173) cx 2 dX3_tell_172 rfl rfl ?_
              refine go_icmp_lt (pc' := 176) cx 209 dX3_tell_173 rfl rfl (fun c173 => ?_) (fun c173 => ?_)
              · have c173 := (nI_ltI (a := top) (b := 2) (by omega) (by omega)).mp c173
                refine go_iinc (pc' := 212) cx (nI (i + 1)) dX3_tell_209 rfl (nI_1 i) (ltn rfl) [(6, .int (nI (i + 1))), (7, .int (g (5 + 4 * t + 1) i)), (5, .int (nI top)), (0, .ref (E.2.1 (5 + 4 * t))), (1, .int (nI pt)), (2, .int (nI pl)), (3, .ref (E.2.1 so)), (4, .int vi)] rfl rfl ?_
                refine go_goto cx 21 dX3_tell_212 rfl ?_
                refine go_sub [0, 2, 3, 4, 5, 6, 7] [(6, .int (nI (i + 1))), (5, .int (nI top)), (0, .ref (E.2.1 (5 + 4 * t))), (1, .int (nI pt)), (2, .int (nI pl)), (3, .ref (E.2.1 so)), (4, .int vi)] rfl ?_
                refine ih (i + 1) (top) f (by omega) (by omega) (by omega) (fun S hS hS2 => kk S (hS.trans (congrArg (rnS (evS g so pl vi v) (g (5 + 4 * t + 1)) (i + 1) k) ?_)) hS2)
                show (top, f) = stp (evS g so pl vi v) (g (5 + 4 * t + 1) i) (top, f)
                first | (simp [stp, c46, c53, c96, c102, c132, c173]; done) | (exfalso; omega) | (exfalso; simp_all; done)
              · have c173 : ¬ top < 2 := fun q9 => c173 ((nI_ltI (a := top) (b := 2) (by omega) (by omega)).mpr q9)
                refine go_iinc (pc' := 179) cx (nI (top - 1)) dX3_tell_176 rfl (nI_m1 (by omega)) (ltn rfl) [(5, .int (nI (top - 1))), (7, .int (g (5 + 4 * t + 1) i)), (6, .int (nI i)), (0, .ref (E.2.1 (5 + 4 * t))), (1, .int (nI pt)), (2, .int (nI pl)), (3, .ref (E.2.1 so)), (4, .int vi)] rfl rfl ?_
                refine go_aload_n (pc' := 180) cx dX3_tell_179 rfl rfl ?_
                refine go_getr (pc' := 183) cx (5 + 4 * t + 3) fX3_18 dX3_tell_180 (txt_k' _ ht).1 (by omega) (ltn rfl) rfl (txt_r ht).2.2.1 rfl ?_
                refine go_iload (pc' := 185) cx dX3_tell_183 rfl rfl ?_
                refine go_iconst (pc' := 186) cx 1 dX3_tell_185 rfl rfl ?_
                refine go_isub (pc' := 187) cx dX3_tell_186 rfl ?_
                refine go_val (w := .int (nI ((top - 1) - 1))) (congrArg Value.int (pk_sub (a := (top - 1)) (b := 1) (by omega))) ?_
                refine go_iload (pc' := 189) cx dX3_tell_187 rfl rfl ?_
                refine go_aload_n (pc' := 190) cx dX3_tell_189 rfl rfl ?_
                refine go_getr (pc' := 193) cx (5 + 4 * t + 3) fX3_18 dX3_tell_190 (txt_k' _ ht).1 (by omega) (ltn rfl) rfl (txt_r ht).2.2.1 rfl ?_
                refine go_iload (pc' := 195) cx dX3_tell_193 rfl rfl ?_
                refine go_iconst (pc' := 196) cx 1 dX3_tell_195 rfl rfl ?_
                refine go_isub (pc' := 197) cx dX3_tell_196 rfl ?_
                refine go_val (w := .int (nI ((top - 1) - 1))) (congrArg Value.int (pk_sub (a := (top - 1)) (b := 1) (by omega))) ?_
                refine go_iald (pc' := 198) cx (f ((top - 1) - 1)) dX3_tell_197 (txt_k' _ ht).2.2.2 (by omega) (vpi (k := ((top - 1) - 1)) (a := 40) (by omega) rfl rfl) ((congrArg ((upw g (5 + 4 * t + 3) f) (5 + 4 * t + 3)) (cli (k := ((top - 1) - 1)) (a := 40) (by omega) rfl)).trans (upw_s g (5 + 4 * t + 3) f ((top - 1) - 1))) rfl ?_
                refine go_aload_n (pc' := 199) cx dX3_tell_198 rfl rfl ?_
                refine go_getr (pc' := 202) cx (5 + 4 * t + 3) fX3_18 dX3_tell_199 (txt_k' _ ht).1 (by omega) (ltn rfl) rfl (txt_r ht).2.2.1 rfl ?_
                refine go_iload (pc' := 204) cx dX3_tell_202 rfl rfl ?_
                refine go_iald (pc' := 205) cx (f (top - 1)) dX3_tell_204 (txt_k' _ ht).2.2.2 (by omega) (vpi (k := (top - 1)) (a := 40) (by omega) rfl rfl) ((congrArg ((upw g (5 + 4 * t + 3) f) (5 + 4 * t + 3)) (cli (k := (top - 1)) (a := 40) (by omega) rfl)).trans (upw_s g (5 + 4 * t + 3) f (top - 1))) rfl ?_
                refine go_cSi (pc' := 208) cx (c_X3_joined l E (g (5 + 4 * t + 1) i) (f ((top - 1) - 1)) (f (top - 1))) mX3_joined lX3_29 dX3_tell_205 rfl rfl rfl (ltn rfl) (Nat.le_of_ble_eq_true rfl) (Nat.le_of_ble_eq_true rfl) rfl ?_
                refine go_iastk (pc' := 209) cx ((top - 1) - 1) dX3_tell_208 (txt_k' _ ht).2.2.2 (by omega) (vpi (k := ((top - 1) - 1)) (a := 40) (by omega) rfl rfl) (cli (k := ((top - 1) - 1)) (a := 40) (by omega) rfl) rfl ?_
                refine go_g (upw_up g (5 + 4 * t + 3) f ((top - 1) - 1) (jnV (g (5 + 4 * t + 1) i) (f ((top - 1) - 1)) (f (top - 1)))) ?_
                refine go_iinc (pc' := 212) cx (nI (i + 1)) dX3_tell_209 rfl (nI_1 i) (ltn rfl) [(6, .int (nI (i + 1))), (5, .int (nI (top - 1))), (7, .int (g (5 + 4 * t + 1) i)), (0, .ref (E.2.1 (5 + 4 * t))), (1, .int (nI pt)), (2, .int (nI pl)), (3, .ref (E.2.1 so)), (4, .int vi)] rfl rfl ?_
                refine go_goto cx 21 dX3_tell_212 rfl ?_
                refine go_sub [0, 1, 3, 4, 5, 6, 7] [(6, .int (nI (i + 1))), (5, .int (nI (top - 1))), (0, .ref (E.2.1 (5 + 4 * t))), (1, .int (nI pt)), (2, .int (nI pl)), (3, .ref (E.2.1 so)), (4, .int vi)] rfl ?_
                refine ih (i + 1) (top - 1) (upd f ((top - 1) - 1) (jnV (g (5 + 4 * t + 1) i) (f ((top - 1) - 1)) (f (top - 1)))) (by omega) (by omega) (by omega) (fun S hS hS2 => kk S (hS.trans (congrArg (rnS (evS g so pl vi v) (g (5 + 4 * t + 1)) (i + 1) k) ?_)) hS2)
                show (top - 1, (upd f ((top - 1) - 1) (jnV (g (5 + 4 * t + 1) i) (f ((top - 1) - 1)) (f (top - 1))))) = stp (evS g so pl vi v) (g (5 + 4 * t + 1) i) (top, f)
                first | (simp [stp, c46, c53, c96, c102, c132, c173]; done) | (exfalso; omega) | (exfalso; simp_all; done)
            · refine go_iload (pc' := 137) cx dX3_tell_135 rfl rfl ?_
              refine go_iconst (pc' := 138) cx 1 dX3_tell_137 rfl rfl ?_
              refine go_icmp_lt (pc' := 141) cx 170 dX3_tell_138 rfl rfl (fun c138 => ?_) (fun c138 => ?_)
              · have c138 := (nI_ltI (a := top) (b := 1) (by omega) (by omega)).mp c138
                refine go_iload (pc' := 172) cx dX3_tell_170 rfl rfl ?_
                refine go_iconst (pc' := 173) cx 2 dX3_tell_172 rfl rfl ?_
                refine go_icmp_lt (pc' := 176) cx 209 dX3_tell_173 rfl rfl (fun c173 => ?_) (fun c173 => ?_)
                · have c173 := (nI_ltI (a := top) (b := 2) (by omega) (by omega)).mp c173
                  refine go_iinc (pc' := 212) cx (nI (i + 1)) dX3_tell_209 rfl (nI_1 i) (ltn rfl) [(6, .int (nI (i + 1))), (7, .int (g (5 + 4 * t + 1) i)), (5, .int (nI top)), (0, .ref (E.2.1 (5 + 4 * t))), (1, .int (nI pt)), (2, .int (nI pl)), (3, .ref (E.2.1 so)), (4, .int vi)] rfl rfl ?_
                  refine go_goto cx 21 dX3_tell_212 rfl ?_
                  refine go_sub [0, 2, 3, 4, 5, 6, 7] [(6, .int (nI (i + 1))), (5, .int (nI top)), (0, .ref (E.2.1 (5 + 4 * t))), (1, .int (nI pt)), (2, .int (nI pl)), (3, .ref (E.2.1 so)), (4, .int vi)] rfl ?_
                  refine ih (i + 1) (top) f (by omega) (by omega) (by omega) (fun S hS hS2 => kk S (hS.trans (congrArg (rnS (evS g so pl vi v) (g (5 + 4 * t + 1)) (i + 1) k) ?_)) hS2)
                  show (top, f) = stp (evS g so pl vi v) (g (5 + 4 * t + 1) i) (top, f)
                  first | (simp [stp, c46, c53, c96, c102, c132, c138, c173]; done) | (exfalso; omega) | (exfalso; simp_all; done)
                · have c173 : ¬ top < 2 := fun q9 => c173 ((nI_ltI (a := top) (b := 2) (by omega) (by omega)).mpr q9)
                  refine go_iinc (pc' := 179) cx (nI (top - 1)) dX3_tell_176 rfl (nI_m1 (by omega)) (ltn rfl) [(5, .int (nI (top - 1))), (7, .int (g (5 + 4 * t + 1) i)), (6, .int (nI i)), (0, .ref (E.2.1 (5 + 4 * t))), (1, .int (nI pt)), (2, .int (nI pl)), (3, .ref (E.2.1 so)), (4, .int vi)] rfl rfl ?_
                  refine go_aload_n (pc' := 180) cx dX3_tell_179 rfl rfl ?_
                  refine go_getr (pc' := 183) cx (5 + 4 * t + 3) fX3_18 dX3_tell_180 (txt_k' _ ht).1 (by omega) (ltn rfl) rfl (txt_r ht).2.2.1 rfl ?_
                  refine go_iload (pc' := 185) cx dX3_tell_183 rfl rfl ?_
                  refine go_iconst (pc' := 186) cx 1 dX3_tell_185 rfl rfl ?_
                  refine go_isub (pc' := 187) cx dX3_tell_186 rfl ?_
                  refine go_val (w := .int (nI ((top - 1) - 1))) (congrArg Value.int (pk_sub (a := (top - 1)) (b := 1) (by omega))) ?_
                  refine go_iload (pc' := 189) cx dX3_tell_187 rfl rfl ?_
                  refine go_aload_n (pc' := 190) cx dX3_tell_189 rfl rfl ?_
                  refine go_getr (pc' := 193) cx (5 + 4 * t + 3) fX3_18 dX3_tell_190 (txt_k' _ ht).1 (by omega) (ltn rfl) rfl (txt_r ht).2.2.1 rfl ?_
                  refine go_iload (pc' := 195) cx dX3_tell_193 rfl rfl ?_
                  refine go_iconst (pc' := 196) cx 1 dX3_tell_195 rfl rfl ?_
                  refine go_isub (pc' := 197) cx dX3_tell_196 rfl ?_
                  refine go_val (w := .int (nI ((top - 1) - 1))) (congrArg Value.int (pk_sub (a := (top - 1)) (b := 1) (by omega))) ?_
                  refine go_iald (pc' := 198) cx (f ((top - 1) - 1)) dX3_tell_197 (txt_k' _ ht).2.2.2 (by omega) (vpi (k := ((top - 1) - 1)) (a := 40) (by omega) rfl rfl) ((congrArg ((upw g (5 + 4 * t + 3) f) (5 + 4 * t + 3)) (cli (k := ((top - 1) - 1)) (a := 40) (by omega) rfl)).trans (upw_s g (5 + 4 * t + 3) f ((top - 1) - 1))) rfl ?_
                  refine go_aload_n (pc' := 199) cx dX3_tell_198 rfl rfl ?_
                  refine go_getr (pc' := 202) cx (5 + 4 * t + 3) fX3_18 dX3_tell_199 (txt_k' _ ht).1 (by omega) (ltn rfl) rfl (txt_r ht).2.2.1 rfl ?_
                  refine go_iload (pc' := 204) cx dX3_tell_202 rfl rfl ?_
                  refine go_iald (pc' := 205) cx (f (top - 1)) dX3_tell_204 (txt_k' _ ht).2.2.2 (by omega) (vpi (k := (top - 1)) (a := 40) (by omega) rfl rfl) ((congrArg ((upw g (5 + 4 * t + 3) f) (5 + 4 * t + 3)) (cli (k := (top - 1)) (a := 40) (by omega) rfl)).trans (upw_s g (5 + 4 * t + 3) f (top - 1))) rfl ?_
                  refine go_cSi (pc' := 208) cx (c_X3_joined l E (g (5 + 4 * t + 1) i) (f ((top - 1) - 1)) (f (top - 1))) mX3_joined lX3_29 dX3_tell_205 rfl rfl rfl (ltn rfl) (Nat.le_of_ble_eq_true rfl) (Nat.le_of_ble_eq_true rfl) rfl ?_
                  refine go_iastk (pc' := 209) cx ((top - 1) - 1) dX3_tell_208 (txt_k' _ ht).2.2.2 (by omega) (vpi (k := ((top - 1) - 1)) (a := 40) (by omega) rfl rfl) (cli (k := ((top - 1) - 1)) (a := 40) (by omega) rfl) rfl ?_
                  refine go_g (upw_up g (5 + 4 * t + 3) f ((top - 1) - 1) (jnV (g (5 + 4 * t + 1) i) (f ((top - 1) - 1)) (f (top - 1)))) ?_
                  refine go_iinc (pc' := 212) cx (nI (i + 1)) dX3_tell_209 rfl (nI_1 i) (ltn rfl) [(6, .int (nI (i + 1))), (5, .int (nI (top - 1))), (7, .int (g (5 + 4 * t + 1) i)), (0, .ref (E.2.1 (5 + 4 * t))), (1, .int (nI pt)), (2, .int (nI pl)), (3, .ref (E.2.1 so)), (4, .int vi)] rfl rfl ?_
                  refine go_goto cx 21 dX3_tell_212 rfl ?_
                  refine go_sub [0, 1, 3, 4, 5, 6, 7] [(6, .int (nI (i + 1))), (5, .int (nI (top - 1))), (0, .ref (E.2.1 (5 + 4 * t))), (1, .int (nI pt)), (2, .int (nI pl)), (3, .ref (E.2.1 so)), (4, .int vi)] rfl ?_
                  refine ih (i + 1) (top - 1) (upd f ((top - 1) - 1) (jnV (g (5 + 4 * t + 1) i) (f ((top - 1) - 1)) (f (top - 1)))) (by omega) (by omega) (by omega) (fun S hS hS2 => kk S (hS.trans (congrArg (rnS (evS g so pl vi v) (g (5 + 4 * t + 1)) (i + 1) k) ?_)) hS2)
                  show (top - 1, (upd f ((top - 1) - 1) (jnV (g (5 + 4 * t + 1) i) (f ((top - 1) - 1)) (f (top - 1))))) = stp (evS g so pl vi v) (g (5 + 4 * t + 1) i) (top, f)
                  first | (simp [stp, c46, c53, c96, c102, c132, c138, c173]; done) | (exfalso; omega) | (exfalso; simp_all; done)
              · have c138 : ¬ top < 1 := fun q9 => c138 ((nI_ltI (a := top) (b := 1) (by omega) (by omega)).mpr q9)
                refine go_aload_n (pc' := 142) cx dX3_tell_141 rfl rfl ?_
                refine go_getr (pc' := 145) cx (5 + 4 * t + 3) fX3_18 dX3_tell_142 (txt_k' _ ht).1 (by omega) (ltn rfl) rfl (txt_r ht).2.2.1 rfl ?_
                refine go_iload (pc' := 147) cx dX3_tell_145 rfl rfl ?_
                refine go_iconst (pc' := 148) cx 1 dX3_tell_147 rfl rfl ?_
                refine go_isub (pc' := 149) cx dX3_tell_148 rfl ?_
                refine go_val (w := .int (nI (top - 1))) (congrArg Value.int (pk_sub (a := top) (b := 1) (by omega))) ?_
                refine go_aload_n (pc' := 150) cx dX3_tell_149 rfl rfl ?_
                refine go_getr (pc' := 153) cx (5 + 4 * t + 3) fX3_18 dX3_tell_150 (txt_k' _ ht).1 (by omega) (ltn rfl) rfl (txt_r ht).2.2.1 rfl ?_
                refine go_iload (pc' := 155) cx dX3_tell_153 rfl rfl ?_
                refine go_iconst (pc' := 156) cx 1 dX3_tell_155 rfl rfl ?_
                refine go_isub (pc' := 157) cx dX3_tell_156 rfl ?_
                refine go_val (w := .int (nI (top - 1))) (congrArg Value.int (pk_sub (a := top) (b := 1) (by omega))) ?_
                refine go_iald (pc' := 158) cx (f (top - 1)) dX3_tell_157 (txt_k' _ ht).2.2.2 (by omega) (vpi (k := (top - 1)) (a := 40) (by omega) rfl rfl) ((congrArg ((upw g (5 + 4 * t + 3) f) (5 + 4 * t + 3)) (cli (k := (top - 1)) (a := 40) (by omega) rfl)).trans (upw_s g (5 + 4 * t + 3) f (top - 1))) rfl ?_
                refine go_if_ne (pc' := 161) cx 165 dX3_tell_158 rfl rfl (fun c158 => ?_) (fun c158 => ?_)
                · refine go_iconst (pc' := 166) cx 0 dX3_tell_165 rfl rfl ?_
                  refine go_iastk (pc' := 167) cx (top - 1) dX3_tell_166 (txt_k' _ ht).2.2.2 (by omega) (vpi (k := (top - 1)) (a := 40) (by omega) rfl rfl) (cli (k := (top - 1)) (a := 40) (by omega) rfl) rfl ?_
                  refine go_g (upw_up g (5 + 4 * t + 3) f (top - 1) 0) ?_
                  refine go_goto cx 209 dX3_tell_167 rfl ?_
                  refine go_iinc (pc' := 212) cx (nI (i + 1)) dX3_tell_209 rfl (nI_1 i) (ltn rfl) [(6, .int (nI (i + 1))), (7, .int (g (5 + 4 * t + 1) i)), (5, .int (nI top)), (0, .ref (E.2.1 (5 + 4 * t))), (1, .int (nI pt)), (2, .int (nI pl)), (3, .ref (E.2.1 so)), (4, .int vi)] rfl rfl ?_
                  refine go_goto cx 21 dX3_tell_212 rfl ?_
                  refine go_sub [0, 2, 3, 4, 5, 6, 7] [(6, .int (nI (i + 1))), (5, .int (nI top)), (0, .ref (E.2.1 (5 + 4 * t))), (1, .int (nI pt)), (2, .int (nI pl)), (3, .ref (E.2.1 so)), (4, .int vi)] rfl ?_
                  refine ih (i + 1) (top) (upd f (top - 1) 0) (by omega) (by omega) (by omega) (fun S hS hS2 => kk S (hS.trans (congrArg (rnS (evS g so pl vi v) (g (5 + 4 * t + 1)) (i + 1) k) ?_)) hS2)
                  show (top, (upd f (top - 1) 0)) = stp (evS g so pl vi v) (g (5 + 4 * t + 1) i) (top, f)
                  first | (simp [stp, c46, c53, c96, c102, c132, c138, c158]; done) | (exfalso; omega) | (exfalso; simp_all; done)
                · refine go_iconst (pc' := 162) cx 1 dX3_tell_161 rfl rfl ?_
                  refine go_goto cx 166 dX3_tell_162 rfl ?_
                  refine go_iastk (pc' := 167) cx (top - 1) dX3_tell_166 (txt_k' _ ht).2.2.2 (by omega) (vpi (k := (top - 1)) (a := 40) (by omega) rfl rfl) (cli (k := (top - 1)) (a := 40) (by omega) rfl) rfl ?_
                  refine go_g (upw_up g (5 + 4 * t + 3) f (top - 1) 1) ?_
                  refine go_goto cx 209 dX3_tell_167 rfl ?_
                  refine go_iinc (pc' := 212) cx (nI (i + 1)) dX3_tell_209 rfl (nI_1 i) (ltn rfl) [(6, .int (nI (i + 1))), (7, .int (g (5 + 4 * t + 1) i)), (5, .int (nI top)), (0, .ref (E.2.1 (5 + 4 * t))), (1, .int (nI pt)), (2, .int (nI pl)), (3, .ref (E.2.1 so)), (4, .int vi)] rfl rfl ?_
                  refine go_goto cx 21 dX3_tell_212 rfl ?_
                  refine go_sub [0, 2, 3, 4, 5, 6, 7] [(6, .int (nI (i + 1))), (5, .int (nI top)), (0, .ref (E.2.1 (5 + 4 * t))), (1, .int (nI pt)), (2, .int (nI pl)), (3, .ref (E.2.1 so)), (4, .int vi)] rfl ?_
                  refine ih (i + 1) (top) (upd f (top - 1) 1) (by omega) (by omega) (by omega) (fun S hS hS2 => kk S (hS.trans (congrArg (rnS (evS g so pl vi v) (g (5 + 4 * t + 1)) (i + 1) k) ?_)) hS2)
                  show (top, (upd f (top - 1) 1)) = stp (evS g so pl vi v) (g (5 + 4 * t + 1) i) (top, f)
                  first | (simp [stp, c46, c53, c96, c102, c132, c138, c158]; done) | (exfalso; omega) | (exfalso; simp_all; done)
          · have c102 : ¬ top < 1 := fun q9 => c102 ((nI_ltI (a := top) (b := 1) (by omega) (by omega)).mpr q9)
            refine go_aload_n (pc' := 106) cx dX3_tell_105 rfl rfl ?_
            refine go_getr (pc' := 109) cx (5 + 4 * t + 3) fX3_18 dX3_tell_106 (txt_k' _ ht).1 (by omega) (ltn rfl) rfl (txt_r ht).2.2.1 rfl ?_
            refine go_iload (pc' := 111) cx dX3_tell_109 rfl rfl ?_
            refine go_iconst (pc' := 112) cx 1 dX3_tell_111 rfl rfl ?_
            refine go_isub (pc' := 113) cx dX3_tell_112 rfl ?_
            refine go_val (w := .int (nI (top - 1))) (congrArg Value.int (pk_sub (a := top) (b := 1) (by omega))) ?_
            refine go_aload_n (pc' := 114) cx dX3_tell_113 rfl rfl ?_
            refine go_getr (pc' := 117) cx (5 + 4 * t + 3) fX3_18 dX3_tell_114 (txt_k' _ ht).1 (by omega) (ltn rfl) rfl (txt_r ht).2.2.1 rfl ?_
            refine go_iload (pc' := 119) cx dX3_tell_117 rfl rfl ?_
            refine go_iconst (pc' := 120) cx 1 dX3_tell_119 rfl rfl ?_
            refine go_isub (pc' := 121) cx dX3_tell_120 rfl ?_
            refine go_val (w := .int (nI (top - 1))) (congrArg Value.int (pk_sub (a := top) (b := 1) (by omega))) ?_
            refine go_iald (pc' := 122) cx (f (top - 1)) dX3_tell_121 (txt_k' _ ht).2.2.2 (by omega) (vpi (k := (top - 1)) (a := 40) (by omega) rfl rfl) ((congrArg ((upw g (5 + 4 * t + 3) f) (5 + 4 * t + 3)) (cli (k := (top - 1)) (a := 40) (by omega) rfl)).trans (upw_s g (5 + 4 * t + 3) f (top - 1))) rfl ?_
            refine go_ineg (pc' := 123) cx dX3_tell_122 rfl ?_
            refine go_iastk (pc' := 124) cx (top - 1) dX3_tell_123 (txt_k' _ ht).2.2.2 (by omega) (vpi (k := (top - 1)) (a := 40) (by omega) rfl rfl) (cli (k := (top - 1)) (a := 40) (by omega) rfl) rfl ?_
            refine go_g (upw_up g (5 + 4 * t + 3) f (top - 1) (-(f (top - 1)))) ?_
            refine go_goto cx 209 dX3_tell_124 rfl ?_
            refine go_iinc (pc' := 212) cx (nI (i + 1)) dX3_tell_209 rfl (nI_1 i) (ltn rfl) [(6, .int (nI (i + 1))), (7, .int (g (5 + 4 * t + 1) i)), (5, .int (nI top)), (0, .ref (E.2.1 (5 + 4 * t))), (1, .int (nI pt)), (2, .int (nI pl)), (3, .ref (E.2.1 so)), (4, .int vi)] rfl rfl ?_
            refine go_goto cx 21 dX3_tell_212 rfl ?_
            refine go_sub [0, 2, 3, 4, 5, 6, 7] [(6, .int (nI (i + 1))), (5, .int (nI top)), (0, .ref (E.2.1 (5 + 4 * t))), (1, .int (nI pt)), (2, .int (nI pl)), (3, .ref (E.2.1 so)), (4, .int vi)] rfl ?_
            refine ih (i + 1) (top) (upd f (top - 1) (-(f (top - 1)))) (by omega) (by omega) (by omega) (fun S hS hS2 => kk S (hS.trans (congrArg (rnS (evS g so pl vi v) (g (5 + 4 * t + 1)) (i + 1) k) ?_)) hS2)
            show (top, (upd f (top - 1) (-(f (top - 1))))) = stp (evS g so pl vi v) (g (5 + 4 * t + 1) i) (top, f)
            first | (simp [stp, c46, c53, c96, c102]; done) | (exfalso; omega) | (exfalso; simp_all; done)
      · have c53 : ¬ 40 ≤ top := fun q9 => c53 ((nI_leI (a := 40) (b := top) (by omega) (by omega)).mpr q9)
        refine go_aload_n (pc' := 57) cx dX3_tell_56 rfl rfl ?_
        refine go_getr (pc' := 60) cx (5 + 4 * t + 3) fX3_18 dX3_tell_57 (txt_k' _ ht).1 (by omega) (ltn rfl) rfl (txt_r ht).2.2.1 rfl ?_
        refine go_iload (pc' := 62) cx dX3_tell_60 rfl rfl ?_
        refine go_iload (pc' := 64) cx dX3_tell_62 rfl rfl ?_
        refine go_sipush (pc' := 67) cx 10000 dX3_tell_64 rfl rfl ?_
        refine go_icmp_ge (pc' := 70) cx 75 dX3_tell_67 rfl rfl (fun c67 => ?_) (fun c67 => ?_)
        · refine go_iload (pc' := 77) cx dX3_tell_75 rfl rfl ?_
          refine go_iload_n (pc' := 78) cx dX3_tell_77 rfl rfl ?_
          refine go_aload_n (pc' := 79) cx dX3_tell_78 rfl rfl ?_
          refine go_iload (pc' := 81) cx dX3_tell_79 rfl rfl ?_
          refine go_cSi (pc' := 84) cx (c_X3_named l E (g := (upw g (5 + 4 * t + 3) f)) hs hpl (g (5 + 4 * t + 1) i) vi hv) mX3_named lX3_25 dX3_tell_81 rfl rfl rfl (ltn rfl) (Nat.le_of_ble_eq_true rfl) (Nat.le_of_ble_eq_true rfl) rfl ?_
          refine go_val (w := .int (evS g so pl vi v (g (5 + 4 * t + 1) i))) (congrArg Value.int (evS_w hs (by omega) (g (5 + 4 * t + 1) i))) ?_
          refine go_iastk (pc' := 85) cx top dX3_tell_84 (txt_k' _ ht).2.2.2 (by omega) (vpi (k := top) (a := 40) (by omega) rfl rfl) (cli (k := top) (a := 40) (by omega) rfl) rfl ?_
          refine go_g (upw_up g (5 + 4 * t + 3) f top (evS g so pl vi v (g (5 + 4 * t + 1) i))) ?_
          refine go_iinc (pc' := 88) cx (nI (top + 1)) dX3_tell_85 rfl (nI_1 top) (ltn rfl) [(5, .int (nI (top + 1))), (7, .int (g (5 + 4 * t + 1) i)), (6, .int (nI i)), (0, .ref (E.2.1 (5 + 4 * t))), (1, .int (nI pt)), (2, .int (nI pl)), (3, .ref (E.2.1 so)), (4, .int vi)] rfl rfl ?_
          refine go_goto cx 209 dX3_tell_88 rfl ?_
          refine go_iinc (pc' := 212) cx (nI (i + 1)) dX3_tell_209 rfl (nI_1 i) (ltn rfl) [(6, .int (nI (i + 1))), (5, .int (nI (top + 1))), (7, .int (g (5 + 4 * t + 1) i)), (0, .ref (E.2.1 (5 + 4 * t))), (1, .int (nI pt)), (2, .int (nI pl)), (3, .ref (E.2.1 so)), (4, .int vi)] rfl rfl ?_
          refine go_goto cx 21 dX3_tell_212 rfl ?_
          refine go_sub [0, 1, 3, 4, 5, 6, 7] [(6, .int (nI (i + 1))), (5, .int (nI (top + 1))), (0, .ref (E.2.1 (5 + 4 * t))), (1, .int (nI pt)), (2, .int (nI pl)), (3, .ref (E.2.1 so)), (4, .int vi)] rfl ?_
          refine ih (i + 1) (top + 1) (upd f top (evS g so pl vi v (g (5 + 4 * t + 1) i))) (by omega) (by omega) (by omega) (fun S hS hS2 => kk S (hS.trans (congrArg (rnS (evS g so pl vi v) (g (5 + 4 * t + 1)) (i + 1) k) ?_)) hS2)
          show (top + 1, (upd f top (evS g so pl vi v (g (5 + 4 * t + 1) i)))) = stp (evS g so pl vi v) (g (5 + 4 * t + 1) i) (top, f)
          first | (simp [stp, c46, c53, c67]; done) | (exfalso; omega) | (exfalso; simp_all; done)
        · refine go_iload (pc' := 72) cx dX3_tell_70 rfl rfl ?_
          refine go_goto cx 84 dX3_tell_72 rfl ?_
          refine go_iastk (pc' := 85) cx top dX3_tell_84 (txt_k' _ ht).2.2.2 (by omega) (vpi (k := top) (a := 40) (by omega) rfl rfl) (cli (k := top) (a := 40) (by omega) rfl) rfl ?_
          refine go_g (upw_up g (5 + 4 * t + 3) f top (g (5 + 4 * t + 1) i)) ?_
          refine go_iinc (pc' := 88) cx (nI (top + 1)) dX3_tell_85 rfl (nI_1 top) (ltn rfl) [(5, .int (nI (top + 1))), (7, .int (g (5 + 4 * t + 1) i)), (6, .int (nI i)), (0, .ref (E.2.1 (5 + 4 * t))), (1, .int (nI pt)), (2, .int (nI pl)), (3, .ref (E.2.1 so)), (4, .int vi)] rfl rfl ?_
          refine go_goto cx 209 dX3_tell_88 rfl ?_
          refine go_iinc (pc' := 212) cx (nI (i + 1)) dX3_tell_209 rfl (nI_1 i) (ltn rfl) [(6, .int (nI (i + 1))), (5, .int (nI (top + 1))), (7, .int (g (5 + 4 * t + 1) i)), (0, .ref (E.2.1 (5 + 4 * t))), (1, .int (nI pt)), (2, .int (nI pl)), (3, .ref (E.2.1 so)), (4, .int vi)] rfl rfl ?_
          refine go_goto cx 21 dX3_tell_212 rfl ?_
          refine go_sub [0, 1, 3, 4, 5, 6, 7] [(6, .int (nI (i + 1))), (5, .int (nI (top + 1))), (0, .ref (E.2.1 (5 + 4 * t))), (1, .int (nI pt)), (2, .int (nI pl)), (3, .ref (E.2.1 so)), (4, .int vi)] rfl ?_
          refine ih (i + 1) (top + 1) (upd f top (g (5 + 4 * t + 1) i)) (by omega) (by omega) (by omega) (fun S hS hS2 => kk S (hS.trans (congrArg (rnS (evS g so pl vi v) (g (5 + 4 * t + 1)) (i + 1) k) ?_)) hS2)
          show (top + 1, (upd f top (g (5 + 4 * t + 1) i))) = stp (evS g so pl vi v) (g (5 + 4 * t + 1) i) (top, f)
          first | (simp [stp, c46, c53, c67]; done) | (exfalso; omega) | (exfalso; simp_all; done)

set_option maxHeartbeats 4000000 in
set_option maxRecDepth 20000 in
theorem c_X3_tell (l : Launch) (E : Ev) {g : IG} {o : Option Nat} {z : Int64} {t so pl v en i0 pt : Nat} (ht : t < 6) (hs : Sal so) (hpt : pt < 3) (hpl : pl < 4) (vi : Int32) (hv : vi ≠ -1 → vi = nI v ∧ v < 8) (hen : en ≤ 160) (he : g (5 + 4 * t + 2) pt = nI en) (hi0 : i0 ≤ 160) (h00 : pt = 0 → i0 = 0) (hb : pt ≠ 0 → g (5 + 4 * t + 2) (pt - 1) = nI i0) : Ct l E 88 yX3_tell cX3_tell 8 (some .int) 2 [.ref (E.2.1 (5 + 4 * t)), .int (nI pt), .int (nI pl), .ref (E.2.1 so), .int vi] g (RFo o) z (ZI (RFo o) z (fun x g1 => x = tellV (evS g so pl vi v) (g (5 + 4 * t + 1)) i0 en (g (5 + 4 * t + 3)) ∧ ∃ f, g1 = upw g (5 + 4 * t + 3) f)) := by
  refine Ct.of (lv0 := [(0, .ref (E.2.1 (5 + 4 * t))), (1, .int (nI pt)), (2, .int (nI pl)), (3, .ref (E.2.1 so)), (4, .int vi)]) (by decide) (Nat.le_of_ble_eq_true rfl) rfl ?_
  intro p e s m below meth c cx
  refine go_iconst (pc' := 1) cx 0 dX3_tell_0 rfl rfl ?_
  refine go_istore (pc' := 3) cx dX3_tell_1 (ltn rfl) [(5, .int 0), (0, .ref (E.2.1 (5 + 4 * t))), (1, .int (nI pt)), (2, .int (nI pl)), (3, .ref (E.2.1 so)), (4, .int vi)] rfl rfl ?_
  refine go_iload_n (pc' := 4) cx dX3_tell_3 rfl rfl ?_
  refine go_if_ne (pc' := 7) cx 11 dX3_tell_4 rfl rfl (fun c4 => ?_) (fun c4 => ?_)
  · have c4 : ¬ pt = 0 := fun q9 => c4 ((nI_eq (a := pt) (b := 0) (by omega) (by omega)).mpr q9)
    refine go_aload_n (pc' := 12) cx dX3_tell_11 rfl rfl ?_
    refine go_getr (pc' := 15) cx (5 + 4 * t + 2) fX3_15 dX3_tell_12 (txt_k' _ ht).1 (by omega) (ltn rfl) rfl (txt_r ht).2.1 rfl ?_
    refine go_iload_n (pc' := 16) cx dX3_tell_15 rfl rfl ?_
    refine go_iconst (pc' := 17) cx 1 dX3_tell_16 rfl rfl ?_
    refine go_isub (pc' := 18) cx dX3_tell_17 rfl ?_
    refine go_val (w := .int (nI (pt - 1))) (congrArg Value.int (pk_sub (a := pt) (b := 1) (by omega))) ?_
    refine go_iald (pc' := 19) cx (nI i0) dX3_tell_18 (txt_k' _ ht).2.2.1 (by omega) (vpi (k := (pt - 1)) (a := 3) (by omega) rfl rfl) ((congrArg (g (5 + 4 * t + 2)) (cli (k := (pt - 1)) (a := 3) (by omega) rfl)).trans (hb c4)) rfl ?_
    refine go_istore (pc' := 21) cx dX3_tell_19 (ltn rfl) [(6, .int (nI i0)), (5, .int 0), (0, .ref (E.2.1 (5 + 4 * t))), (1, .int (nI pt)), (2, .int (nI pl)), (3, .ref (E.2.1 so)), (4, .int vi)] rfl rfl ?_
    refine go_g (upw_id g (5 + 4 * t + 3)).symm ?_
    refine tell_loop (i0 := 0) ht hs hpt hpl vi hv hen he cx (en - i0) i0 0 (g (5 + 4 * t + 3)) rfl (by omega) (by omega) (fun S hS hS1 => ?_)
    refine go_iload (pc' := 217) cx dX3_tell_215 rfl rfl ?_
    refine go_if_le (pc' := 220) cx 232 dX3_tell_217 rfl rfl (fun c217 => ?_) (fun c217 => ?_)
    · have c217 := (nI_leI (a := S.1) (b := 0) (by omega) (by omega)).mp c217
      refine go_iconst (pc' := 233) cx 0 dX3_tell_232 rfl rfl ?_
      refine go_istore (pc' := 235) cx dX3_tell_233 (ltn rfl) [(6, .int 0), (5, .int (nI S.1)), (0, .ref (E.2.1 (5 + 4 * t)))] rfl rfl ?_
      refine go_iconst (pc' := 236) cx 0 dX3_tell_235 rfl rfl ?_
      refine go_bipush (pc' := 238) cx 99 dX3_tell_236 rfl rfl ?_
      refine go_iload (pc' := 240) cx dX3_tell_238 rfl rfl ?_
      refine go_mmin (pc' := 243) cx lX3_33 dX3_tell_240 rfl (ltn rfl) (Nat.le_of_ble_eq_true rfl) rfl ?_
      refine go_mmax (pc' := 246) cx lX3_39 dX3_tell_243 rfl (ltn rfl) (Nat.le_of_ble_eq_true rfl) rfl ?_
      refine go_iret cx rfl dX3_tell_246 ?_
      refine ZI.mk ⟨?_, S.2, rfl⟩
      unfold tellV
      rw [← hS]
      have h0 : ¬ 0 < S.1 := by omega
      simp only [clp, if_neg h0]
    · have c217 : ¬ S.1 ≤ 0 := fun q9 => c217 ((nI_leI (a := S.1) (b := 0) (by omega) (by omega)).mpr q9)
      refine go_aload_n (pc' := 221) cx dX3_tell_220 rfl rfl ?_
      refine go_getr (pc' := 224) cx (5 + 4 * t + 3) fX3_18 dX3_tell_221 (txt_k' _ ht).1 (by omega) (ltn rfl) rfl (txt_r ht).2.2.1 rfl ?_
      refine go_iload (pc' := 226) cx dX3_tell_224 rfl rfl ?_
      refine go_iconst (pc' := 227) cx 1 dX3_tell_226 rfl rfl ?_
      refine go_isub (pc' := 228) cx dX3_tell_227 rfl ?_
      refine go_val (w := .int (nI (S.1 - 1))) (congrArg Value.int (pk_sub (a := S.1) (b := 1) (by omega))) ?_
      refine go_iald (pc' := 229) cx (S.2 (S.1 - 1)) dX3_tell_228 (txt_k' _ ht).2.2.2 (by omega) (vpi (k := (S.1 - 1)) (a := 40) (by omega) rfl rfl) ((congrArg ((upw g (5 + 4 * t + 3) S.2) (5 + 4 * t + 3)) (cli (k := (S.1 - 1)) (a := 40) (by omega) rfl)).trans (upw_s g (5 + 4 * t + 3) S.2 (S.1 - 1))) rfl ?_
      refine go_goto cx 233 dX3_tell_229 rfl ?_
      refine go_istore (pc' := 235) cx dX3_tell_233 (ltn rfl) [(6, .int (S.2 (S.1 - 1))), (5, .int (nI S.1)), (0, .ref (E.2.1 (5 + 4 * t)))] rfl rfl ?_
      refine go_iconst (pc' := 236) cx 0 dX3_tell_235 rfl rfl ?_
      refine go_bipush (pc' := 238) cx 99 dX3_tell_236 rfl rfl ?_
      refine go_iload (pc' := 240) cx dX3_tell_238 rfl rfl ?_
      refine go_mmin (pc' := 243) cx lX3_33 dX3_tell_240 rfl (ltn rfl) (Nat.le_of_ble_eq_true rfl) rfl ?_
      refine go_mmax (pc' := 246) cx lX3_39 dX3_tell_243 rfl (ltn rfl) (Nat.le_of_ble_eq_true rfl) rfl ?_
      refine go_iret cx rfl dX3_tell_246 ?_
      refine ZI.mk ⟨?_, S.2, rfl⟩
      unfold tellV
      rw [← hS]
      have h0 : 0 < S.1 := by omega
      simp only [clp, if_pos h0]
  · have c4 := (nI_eq (a := pt) (b := 0) (by omega) (by omega)).mp c4
    refine go_iconst (pc' := 8) cx 0 dX3_tell_7 rfl rfl ?_
    refine go_goto cx 19 dX3_tell_8 rfl ?_
    refine go_istore (pc' := 21) cx dX3_tell_19 (ltn rfl) [(6, .int 0), (5, .int 0), (0, .ref (E.2.1 (5 + 4 * t))), (1, .int (nI pt)), (2, .int (nI pl)), (3, .ref (E.2.1 so)), (4, .int vi)] rfl rfl ?_
    refine go_g (upw_id g (5 + 4 * t + 3)).symm ?_
    have hz0 : i0 = 0 := h00 c4
    subst hz0
    refine tell_loop (i0 := 0) ht hs hpt hpl vi hv hen he cx (en - 0) 0 0 (g (5 + 4 * t + 3)) rfl (by omega) (by omega) (fun S hS hS1 => ?_)
    refine go_iload (pc' := 217) cx dX3_tell_215 rfl rfl ?_
    refine go_if_le (pc' := 220) cx 232 dX3_tell_217 rfl rfl (fun c217 => ?_) (fun c217 => ?_)
    · have c217 := (nI_leI (a := S.1) (b := 0) (by omega) (by omega)).mp c217
      refine go_iconst (pc' := 233) cx 0 dX3_tell_232 rfl rfl ?_
      refine go_istore (pc' := 235) cx dX3_tell_233 (ltn rfl) [(6, .int 0), (5, .int (nI S.1)), (0, .ref (E.2.1 (5 + 4 * t)))] rfl rfl ?_
      refine go_iconst (pc' := 236) cx 0 dX3_tell_235 rfl rfl ?_
      refine go_bipush (pc' := 238) cx 99 dX3_tell_236 rfl rfl ?_
      refine go_iload (pc' := 240) cx dX3_tell_238 rfl rfl ?_
      refine go_mmin (pc' := 243) cx lX3_33 dX3_tell_240 rfl (ltn rfl) (Nat.le_of_ble_eq_true rfl) rfl ?_
      refine go_mmax (pc' := 246) cx lX3_39 dX3_tell_243 rfl (ltn rfl) (Nat.le_of_ble_eq_true rfl) rfl ?_
      refine go_iret cx rfl dX3_tell_246 ?_
      refine ZI.mk ⟨?_, S.2, rfl⟩
      unfold tellV
      rw [← hS]
      have h0 : ¬ 0 < S.1 := by omega
      simp only [clp, if_neg h0]
    · have c217 : ¬ S.1 ≤ 0 := fun q9 => c217 ((nI_leI (a := S.1) (b := 0) (by omega) (by omega)).mpr q9)
      refine go_aload_n (pc' := 221) cx dX3_tell_220 rfl rfl ?_
      refine go_getr (pc' := 224) cx (5 + 4 * t + 3) fX3_18 dX3_tell_221 (txt_k' _ ht).1 (by omega) (ltn rfl) rfl (txt_r ht).2.2.1 rfl ?_
      refine go_iload (pc' := 226) cx dX3_tell_224 rfl rfl ?_
      refine go_iconst (pc' := 227) cx 1 dX3_tell_226 rfl rfl ?_
      refine go_isub (pc' := 228) cx dX3_tell_227 rfl ?_
      refine go_val (w := .int (nI (S.1 - 1))) (congrArg Value.int (pk_sub (a := S.1) (b := 1) (by omega))) ?_
      refine go_iald (pc' := 229) cx (S.2 (S.1 - 1)) dX3_tell_228 (txt_k' _ ht).2.2.2 (by omega) (vpi (k := (S.1 - 1)) (a := 40) (by omega) rfl rfl) ((congrArg ((upw g (5 + 4 * t + 3) S.2) (5 + 4 * t + 3)) (cli (k := (S.1 - 1)) (a := 40) (by omega) rfl)).trans (upw_s g (5 + 4 * t + 3) S.2 (S.1 - 1))) rfl ?_
      refine go_goto cx 233 dX3_tell_229 rfl ?_
      refine go_istore (pc' := 235) cx dX3_tell_233 (ltn rfl) [(6, .int (S.2 (S.1 - 1))), (5, .int (nI S.1)), (0, .ref (E.2.1 (5 + 4 * t)))] rfl rfl ?_
      refine go_iconst (pc' := 236) cx 0 dX3_tell_235 rfl rfl ?_
      refine go_bipush (pc' := 238) cx 99 dX3_tell_236 rfl rfl ?_
      refine go_iload (pc' := 240) cx dX3_tell_238 rfl rfl ?_
      refine go_mmin (pc' := 243) cx lX3_33 dX3_tell_240 rfl (ltn rfl) (Nat.le_of_ble_eq_true rfl) rfl ?_
      refine go_mmax (pc' := 246) cx lX3_39 dX3_tell_243 rfl (ltn rfl) (Nat.le_of_ble_eq_true rfl) rfl ?_
      refine go_iret cx rfl dX3_tell_246 ?_
      refine ZI.mk ⟨?_, S.2, rfl⟩
      unfold tellV
      rw [← hS]
      have h0 : 0 < S.1 := by omega
      simp only [clp, if_pos h0]
