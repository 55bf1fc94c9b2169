/-! SALON: the three of them -/
def Sal (so : Nat) : Prop := so = 37 ∨ so = 50 ∨ so = 64
theorem sal_k0 {so : Nat} (h : Sal so) : kd so = (1, 5) := by rcases h with rfl | rfl | rfl <;> rfl
theorem sal_k1 {so : Nat} (h : Sal so) : kd (so + 1) = (12, 11) := by rcases h with rfl | rfl | rfl <;> rfl
theorem sal_l0 {so : Nat} (h : Sal so) : so < 88 := by rcases h with rfl | rfl | rfl <;> decide
theorem sal_l1 {so : Nat} (h : Sal so) : so + 1 < 88 := by rcases h with rfl | rfl | rfl <;> decide
theorem sal_lr {so i : Nat} (h : Sal so) (hi : i < 11) : so + 2 + i < 88 := by rcases h with rfl | rfl | rfl <;> omega
theorem sal_kr' : ∀ i, i < 11 → kd (37 + 2 + i) = (10, 8) ∧ kd (50 + 2 + i) = (10, 8) ∧ kd (64 + 2 + i) = (10, 8) := by decide +kernel
theorem sal_kr {so i : Nat} (h : Sal so) (hi : i < 11) : kd (so + 2 + i) = (10, 8) := by
  have := sal_kr' i hi
  rcases h with rfl | rfl | rfl
  · exact this.1
  · exact this.2.1
  · exact this.2.2
theorem sal_r0 {so : Nat} {o : Option Nat} (h : Sal so) : RFo o so 0 = some 1 := by rcases h with rfl | rfl | rfl <;> rfl
theorem sal_r1 {so : Nat} {o : Option Nat} (h : Sal so) : RFo o so 1 = some (so + 1) := by rcases h with rfl | rfl | rfl <;> rfl
theorem sal_rr' : ∀ i, i < 11 → RT (37 + 1) i = some (37 + 2 + i) ∧ RT (50 + 1) i = some (50 + 2 + i) ∧ RT (64 + 1) i = some (64 + 2 + i) := by decide +kernel
theorem sal_rr {so i : Nat} {o : Option Nat} (h : Sal so) (hi : i < 11) : RFo o (so + 1) i = some (so + 2 + i) := by
  have := sal_rr' i hi
  unfold RFo
  rcases h with rfl | rfl | rfl
  · rw [if_neg (by omega)]; exact this.1
  · rw [if_neg (by omega)]; exact this.2.1
  · rw [if_neg (by omega)]; exact this.2.2
def howMany (g : IG) (so : Nat) (w : Int32) : Int32 := if w = 0 then 4 else if w = 1 then 4 else if w = 2 then 4 else if w = 7 then g so 3 else if w = 8 then g so 3 else if w = 9 then g so 3 else g so 2
def most (g : IG) (so : Nat) (w : Int32) : Int32 := if w = 4 then 9 else if w = 5 then 10 else if w = 7 then g so 2 - 1 else if w = 8 then 20 else if w = 9 then 3 else if w = 10 then 5 else 199
def namesI (g : IG) (so : Nat) (w q : Int32) : Int32 := if w < 0 then 0 else if 11 ≤ w then 0 else if w = 3 then 1 else if q < 0 then 0 else if howMany g so w ≤ q then 0 else 1
def fitsI (g : IG) (so : Nat) (w v : Int32) : Int32 := if v < (if w = 3 then -1 else 0) then 0 else if most g so w < v then 0 else 1

set_option maxHeartbeats 4000000 in
set_option maxRecDepth 20000 in
theorem c_X1_howMany (l : Launch) (E : Ev) {g : IG} {o : Option Nat} {z : Int64} {so : Nat} (hs : Sal so) (w : Int32) : Ct l E 88 yX1_howMany cX1_howMany 2 (some .int) 1 [.ref (E.2.1 so), .int w] g (RFo o) z (Zi (RFo o) z (howMany g so w) g) := by
  refine Ct.of (lv0 := [(0, .ref (E.2.1 so)), (1, .int w)]) (by decide) (Nat.le_of_ble_eq_true rfl) rfl ?_
  intro p e s m below meth c cx
  refine go_iload_n (pc' := 1) cx dX1_howMany_0 rfl rfl ?_
  by_cases c1 : w = 0
  · refine go_tabIn cx 56 dX1_howMany_1 (by rw [c1]; decide) (by rw [c1]; decide) (by rw [c1]; rfl) rfl ?_
    refine go_iconst (pc' := 57) cx 4 dX1_howMany_56 rfl rfl ?_
    refine go_iret cx rfl dX1_howMany_57 ?_
    exact Zi.mk (by first | (simp [howMany, c1]; done) | (simp_all [howMany, c1]; done) | ((try unfold howMany); (repeat' split) <;> first | rfl | contradiction | (simp_all; done))) rfl
  have n1_0 := c1
  by_cases c1 : w = 1
  · refine go_tabIn cx 56 dX1_howMany_1 (by rw [c1]; decide) (by rw [c1]; decide) (by rw [c1]; rfl) rfl ?_
    refine go_iconst (pc' := 57) cx 4 dX1_howMany_56 rfl rfl ?_
    refine go_iret cx rfl dX1_howMany_57 ?_
    exact Zi.mk (by first | (simp [howMany, n1_0, c1]; done) | (simp_all [howMany, n1_0, c1]; done) | ((try unfold howMany); (repeat' split) <;> first | rfl | contradiction | (simp_all; done))) rfl
  have n1_1 := c1
  by_cases c1 : w = 2
  · refine go_tabIn cx 56 dX1_howMany_1 (by rw [c1]; decide) (by rw [c1]; decide) (by rw [c1]; rfl) rfl ?_
    refine go_iconst (pc' := 57) cx 4 dX1_howMany_56 rfl rfl ?_
    refine go_iret cx rfl dX1_howMany_57 ?_
    exact Zi.mk (by first | (simp [howMany, n1_0, n1_1, c1]; done) | (simp_all [howMany, n1_0, n1_1, c1]; done) | ((try unfold howMany); (repeat' split) <;> first | rfl | contradiction | (simp_all; done))) rfl
  have n1_2 := c1
  by_cases c1 : w = 7
  · refine go_tabIn cx 58 dX1_howMany_1 (by rw [c1]; decide) (by rw [c1]; decide) (by rw [c1]; rfl) rfl ?_
    refine go_aload_n (pc' := 59) cx dX1_howMany_58 rfl rfl ?_
    refine go_geti (pc' := 62) cx (g so 3) fX1_20 dX1_howMany_59 (sal_k0 hs) (sal_l0 hs) (ltn rfl) rfl rfl rfl ?_
    refine go_iret cx rfl dX1_howMany_62 ?_
    exact Zi.mk (by first | (simp [howMany, n1_0, n1_1, n1_2, c1]; done) | (simp_all [howMany, n1_0, n1_1, n1_2, c1]; done) | ((try unfold howMany); (repeat' split) <;> first | rfl | contradiction | (simp_all; done))) rfl
  have n1_7 := c1
  by_cases c1 : w = 8
  · refine go_tabIn cx 58 dX1_howMany_1 (by rw [c1]; decide) (by rw [c1]; decide) (by rw [c1]; rfl) rfl ?_
    refine go_aload_n (pc' := 59) cx dX1_howMany_58 rfl rfl ?_
    refine go_geti (pc' := 62) cx (g so 3) fX1_20 dX1_howMany_59 (sal_k0 hs) (sal_l0 hs) (ltn rfl) rfl rfl rfl ?_
    refine go_iret cx rfl dX1_howMany_62 ?_
    exact Zi.mk (by first | (simp [howMany, n1_0, n1_1, n1_2, n1_7, c1]; done) | (simp_all [howMany, n1_0, n1_1, n1_2, n1_7, c1]; done) | ((try unfold howMany); (repeat' split) <;> first | rfl | contradiction | (simp_all; done))) rfl
  have n1_8 := c1
  by_cases c1 : w = 9
  · refine go_tabIn cx 58 dX1_howMany_1 (by rw [c1]; decide) (by rw [c1]; decide) (by rw [c1]; rfl) rfl ?_
    refine go_aload_n (pc' := 59) cx dX1_howMany_58 rfl rfl ?_
    refine go_geti (pc' := 62) cx (g so 3) fX1_20 dX1_howMany_59 (sal_k0 hs) (sal_l0 hs) (ltn rfl) rfl rfl rfl ?_
    refine go_iret cx rfl dX1_howMany_62 ?_
    exact Zi.mk (by first | (simp [howMany, n1_0, n1_1, n1_2, n1_7, n1_8, c1]; done) | (simp_all [howMany, n1_0, n1_1, n1_2, n1_7, n1_8, c1]; done) | ((try unfold howMany); (repeat' split) <;> first | rfl | contradiction | (simp_all; done))) rfl
  have n1_9 := c1
  refine go_tabD cx 63 dX1_howMany_1 ?_ rfl ?_
  · by_cases q1 : w.toInt < 0
    · exact Or.inl (Or.inl q1)
    by_cases q2 : 9 < w.toInt
    · exact Or.inl (Or.inr q2)
    refine Or.inr ⟨q1, q2, ?_⟩
    rcases (show w.toInt = 0 ∨ w.toInt = 1 ∨ w.toInt = 2 ∨ w.toInt = 3 ∨ w.toInt = 4 ∨ w.toInt = 5 ∨ w.toInt = 6 ∨ w.toInt = 7 ∨ w.toInt = 8 ∨ w.toInt = 9 by omega) with q3 | q3 | q3 | q3 | q3 | q3 | q3 | q3 | q3 | q3
    · exact absurd (Int32.toInt_inj.mp (q3.trans (by decide))) n1_0
    · exact absurd (Int32.toInt_inj.mp (q3.trans (by decide))) n1_1
    · exact absurd (Int32.toInt_inj.mp (q3.trans (by decide))) n1_2
    · rw [q3]; rfl
    · rw [q3]; rfl
    · rw [q3]; rfl
    · rw [q3]; rfl
    · exact absurd (Int32.toInt_inj.mp (q3.trans (by decide))) n1_7
    · exact absurd (Int32.toInt_inj.mp (q3.trans (by decide))) n1_8
    · exact absurd (Int32.toInt_inj.mp (q3.trans (by decide))) n1_9
  refine go_aload_n (pc' := 64) cx dX1_howMany_63 rfl rfl ?_
  refine go_geti (pc' := 67) cx (g so 2) fX1_16 dX1_howMany_64 (sal_k0 hs) (sal_l0 hs) (ltn rfl) rfl rfl rfl ?_
  refine go_iret cx rfl dX1_howMany_67 ?_
  exact Zi.mk (by first | (simp [howMany, n1_0, n1_1, n1_2, n1_7, n1_8, n1_9]; done) | (simp_all [howMany, n1_0, n1_1, n1_2, n1_7, n1_8, n1_9]; done) | ((try unfold howMany); (repeat' split) <;> first | rfl | contradiction | (simp_all; done))) rfl

set_option maxHeartbeats 4000000 in
set_option maxRecDepth 20000 in
theorem c_X1_most (l : Launch) (E : Ev) {g : IG} {o : Option Nat} {z : Int64} {so : Nat} (hs : Sal so) (w : Int32) : Ct l E 88 yX1_most cX1_most 2 (some .int) 1 [.ref (E.2.1 so), .int w] g (RFo o) z (Zi (RFo o) z (most g so w) g) := by
  refine Ct.of (lv0 := [(0, .ref (E.2.1 so)), (1, .int w)]) (by decide) (Nat.le_of_ble_eq_true rfl) rfl ?_
  intro p e s m below meth c cx
  refine go_iload_n (pc' := 1) cx dX1_most_0 rfl rfl ?_
  by_cases c1 : w = 4
  · refine go_tabIn cx 44 dX1_most_1 (by rw [c1]; decide) (by rw [c1]; decide) (by rw [c1]; rfl) rfl ?_
    refine go_bipush (pc' := 46) cx 9 dX1_most_44 rfl rfl ?_
    refine go_iret cx rfl dX1_most_46 ?_
    exact Zi.mk (by first | (simp [most, c1]; done) | (simp_all [most, c1]; done) | ((try unfold most); (repeat' split) <;> first | rfl | contradiction | (simp_all; done))) rfl
  have n1_4 := c1
  by_cases c1 : w = 5
  · refine go_tabIn cx 47 dX1_most_1 (by rw [c1]; decide) (by rw [c1]; decide) (by rw [c1]; rfl) rfl ?_
    refine go_bipush (pc' := 49) cx 10 dX1_most_47 rfl rfl ?_
    refine go_iret cx rfl dX1_most_49 ?_
    exact Zi.mk (by first | (simp [most, n1_4, c1]; done) | (simp_all [most, n1_4, c1]; done) | ((try unfold most); (repeat' split) <;> first | rfl | contradiction | (simp_all; done))) rfl
  have n1_5 := c1
  by_cases c1 : w = 7
  · refine go_tabIn cx 50 dX1_most_1 (by rw [c1]; decide) (by rw [c1]; decide) (by rw [c1]; rfl) rfl ?_
    refine go_aload_n (pc' := 51) cx dX1_most_50 rfl rfl ?_
    refine go_geti (pc' := 54) cx (g so 2) fX1_16 dX1_most_51 (sal_k0 hs) (sal_l0 hs) (ltn rfl) rfl rfl rfl ?_
    refine go_iconst (pc' := 55) cx 1 dX1_most_54 rfl rfl ?_
    refine go_isub (pc' := 56) cx dX1_most_55 rfl ?_
    refine go_iret cx rfl dX1_most_56 ?_
    exact Zi.mk (by first | (simp [most, n1_4, n1_5, c1]; done) | (simp_all [most, n1_4, n1_5, c1]; done) | ((try unfold most); (repeat' split) <;> first | rfl | contradiction | (simp_all; done))) rfl
  have n1_7 := c1
  by_cases c1 : w = 8
  · refine go_tabIn cx 57 dX1_most_1 (by rw [c1]; decide) (by rw [c1]; decide) (by rw [c1]; rfl) rfl ?_
    refine go_bipush (pc' := 59) cx 20 dX1_most_57 rfl rfl ?_
    refine go_iret cx rfl dX1_most_59 ?_
    exact Zi.mk (by first | (simp [most, n1_4, n1_5, n1_7, c1]; done) | (simp_all [most, n1_4, n1_5, n1_7, c1]; done) | ((try unfold most); (repeat' split) <;> first | rfl | contradiction | (simp_all; done))) rfl
  have n1_8 := c1
  by_cases c1 : w = 9
  · refine go_tabIn cx 60 dX1_most_1 (by rw [c1]; decide) (by rw [c1]; decide) (by rw [c1]; rfl) rfl ?_
    refine go_iconst (pc' := 61) cx 3 dX1_most_60 rfl rfl ?_
    refine go_iret cx rfl dX1_most_61 ?_
    exact Zi.mk (by first | (simp [most, n1_4, n1_5, n1_7, n1_8, c1]; done) | (simp_all [most, n1_4, n1_5, n1_7, n1_8, c1]; done) | ((try unfold most); (repeat' split) <;> first | rfl | contradiction | (simp_all; done))) rfl
  have n1_9 := c1
  by_cases c1 : w = 10
  · refine go_tabIn cx 62 dX1_most_1 (by rw [c1]; decide) (by rw [c1]; decide) (by rw [c1]; rfl) rfl ?_
    refine go_iconst (pc' := 63) cx 5 dX1_most_62 rfl rfl ?_
    refine go_iret cx rfl dX1_most_63 ?_
    exact Zi.mk (by first | (simp [most, n1_4, n1_5, n1_7, n1_8, n1_9, c1]; done) | (simp_all [most, n1_4, n1_5, n1_7, n1_8, n1_9, c1]; done) | ((try unfold most); (repeat' split) <;> first | rfl | contradiction | (simp_all; done))) rfl
  have n1_10 := c1
  refine go_tabD cx 64 dX1_most_1 ?_ rfl ?_
  · by_cases q1 : w.toInt < 4
    · exact Or.inl (Or.inl q1)
    by_cases q2 : 10 < w.toInt
    · exact Or.inl (Or.inr q2)
    refine Or.inr ⟨q1, q2, ?_⟩
    rcases (show w.toInt = 4 ∨ w.toInt = 5 ∨ w.toInt = 6 ∨ w.toInt = 7 ∨ w.toInt = 8 ∨ w.toInt = 9 ∨ w.toInt = 10 by omega) with q3 | q3 | q3 | q3 | q3 | q3 | q3
    · exact absurd (Int32.toInt_inj.mp (q3.trans (by decide))) n1_4
    · exact absurd (Int32.toInt_inj.mp (q3.trans (by decide))) n1_5
    · rw [q3]; rfl
    · exact absurd (Int32.toInt_inj.mp (q3.trans (by decide))) n1_7
    · exact absurd (Int32.toInt_inj.mp (q3.trans (by decide))) n1_8
    · exact absurd (Int32.toInt_inj.mp (q3.trans (by decide))) n1_9
    · exact absurd (Int32.toInt_inj.mp (q3.trans (by decide))) n1_10
  refine go_sipush (pc' := 67) cx 199 dX1_most_64 rfl rfl ?_
  refine go_iret cx rfl dX1_most_67 ?_
  exact Zi.mk (by first | (simp [most, n1_4, n1_5, n1_7, n1_8, n1_9, n1_10]; done) | (simp_all [most, n1_4, n1_5, n1_7, n1_8, n1_9, n1_10]; done) | ((try unfold most); (repeat' split) <;> first | rfl | contradiction | (simp_all; done))) rfl

set_option maxHeartbeats 4000000 in
set_option maxRecDepth 20000 in
theorem c_X1_names (l : Launch) (E : Ev) {g : IG} {o : Option Nat} {z : Int64} {so : Nat} (hs : Sal so) (w q : Int32) : Ct l E 88 yX1_names cX1_names 3 (some .boolean) 2 [.ref (E.2.1 so), .int w, .int q] g (RFo o) z (Zi (RFo o) z (namesI g so w q) g) := by
  refine Ct.of (lv0 := [(0, .ref (E.2.1 so)), (1, .int w), (2, .int q)]) (by decide) (Nat.le_of_ble_eq_true rfl) rfl ?_
  intro p e s m below meth c cx
  refine go_iload_n (pc' := 1) cx dX1_names_0 rfl rfl ?_
  refine go_if_lt (pc' := 4) cx 10 dX1_names_1 rfl rfl (fun c1 => ?_) (fun c1 => ?_)
  · refine go_iconst (pc' := 11) cx 0 dX1_names_10 rfl rfl ?_
    refine go_zret cx (Or.inl rfl) rfl dX1_names_11 ?_
    exact Zi.mk (by first | (simp [namesI, c1]; done) | (simp_all [namesI, c1]; done) | ((try unfold namesI); (repeat' split) <;> first | rfl | contradiction | (simp_all; done))) rfl
  · refine go_iload_n (pc' := 5) cx dX1_names_4 rfl rfl ?_
    refine go_bipush (pc' := 7) cx 11 dX1_names_5 rfl rfl ?_
    refine go_icmp_lt (pc' := 10) cx 12 dX1_names_7 rfl rfl (fun c7 => ?_) (fun c7 => ?_)
    · refine go_iload_n (pc' := 13) cx dX1_names_12 rfl rfl ?_
      refine go_iconst (pc' := 14) cx 3 dX1_names_13 rfl rfl ?_
      refine go_icmp_eq (pc' := 17) cx 30 dX1_names_14 rfl rfl (fun c14 => ?_) (fun c14 => ?_)
      · refine go_iconst (pc' := 31) cx 1 dX1_names_30 rfl rfl ?_
        refine go_goto cx 35 dX1_names_31 rfl ?_
        refine go_zret cx (Or.inr rfl) rfl dX1_names_35 ?_
        exact Zi.mk (by first | (simp [namesI, c1, c7, c14]; done) | (simp_all [namesI, c1, c7, c14]; done) | ((try unfold namesI); (repeat' split) <;> first | rfl | contradiction | (simp_all; done))) rfl
      · refine go_iload_n (pc' := 18) cx dX1_names_17 rfl rfl ?_
        refine go_if_lt (pc' := 21) cx 34 dX1_names_18 rfl rfl (fun c18 => ?_) (fun c18 => ?_)
        · refine go_iconst (pc' := 35) cx 0 dX1_names_34 rfl rfl ?_
          refine go_zret cx (Or.inl rfl) rfl dX1_names_35 ?_
          exact Zi.mk (by first | (simp [namesI, c1, c7, c14, c18]; done) | (simp_all [namesI, c1, c7, c14, c18]; done) | ((try unfold namesI); (repeat' split) <;> first | rfl | contradiction | (simp_all; done))) rfl
        · refine go_iload_n (pc' := 22) cx dX1_names_21 rfl rfl ?_
          refine go_aload_n (pc' := 23) cx dX1_names_22 rfl rfl ?_
          refine go_iload_n (pc' := 24) cx dX1_names_23 rfl rfl ?_
          refine go_cVi (pc' := 27) cx (c_X1_howMany l E hs w) mX1_howMany lX1_36 dX1_names_24 (sal_k0 hs) (ltn rfl) (sal_l0 hs) rfl rfl rfl rfl (ltn rfl) (Nat.le_of_ble_eq_true rfl) (Nat.le_of_ble_eq_true rfl) rfl ?_
          refine go_icmp_ge (pc' := 30) cx 34 dX1_names_27 rfl rfl (fun c27 => ?_) (fun c27 => ?_)
          · refine go_iconst (pc' := 35) cx 0 dX1_names_34 rfl rfl ?_
            refine go_zret cx (Or.inl rfl) rfl dX1_names_35 ?_
            exact Zi.mk (by first | (simp [namesI, c1, c7, c14, c18, c27]; done) | (simp_all [namesI, c1, c7, c14, c18, c27]; done) | ((try unfold namesI); (repeat' split) <;> first | rfl | contradiction | (simp_all; done))) rfl
          · refine go_iconst (pc' := 31) cx 1 dX1_names_30 rfl rfl ?_
            refine go_goto cx 35 dX1_names_31 rfl ?_
            refine go_zret cx (Or.inr rfl) rfl dX1_names_35 ?_
            exact Zi.mk (by first | (simp [namesI, c1, c7, c14, c18, c27]; done) | (simp_all [namesI, c1, c7, c14, c18, c27]; done) | ((try unfold namesI); (repeat' split) <;> first | rfl | contradiction | (simp_all; done))) rfl
    · refine go_iconst (pc' := 11) cx 0 dX1_names_10 rfl rfl ?_
      refine go_zret cx (Or.inl rfl) rfl dX1_names_11 ?_
      exact Zi.mk (by first | (simp [namesI, c1, c7]; done) | (simp_all [namesI, c1, c7]; done) | ((try unfold namesI); (repeat' split) <;> first | rfl | contradiction | (simp_all; done))) rfl

set_option maxHeartbeats 4000000 in
set_option maxRecDepth 20000 in
theorem c_X1_fits (l : Launch) (E : Ev) {g : IG} {o : Option Nat} {z : Int64} {so : Nat} (hs : Sal so) (w v : Int32) : Ct l E 88 yX1_fits cX1_fits 3 (some .boolean) 2 [.ref (E.2.1 so), .int w, .int v] g (RFo o) z (Zi (RFo o) z (fitsI g so w v) g) := by
  refine Ct.of (lv0 := [(0, .ref (E.2.1 so)), (1, .int w), (2, .int v)]) (by decide) (Nat.le_of_ble_eq_true rfl) rfl ?_
  intro p e s m below meth c cx
  refine go_iload_n (pc' := 1) cx dX1_fits_0 rfl rfl ?_
  refine go_iload_n (pc' := 2) cx dX1_fits_1 rfl rfl ?_
  refine go_iconst (pc' := 3) cx 3 dX1_fits_2 rfl rfl ?_
  refine go_icmp_ne (pc' := 6) cx 10 dX1_fits_3 rfl rfl (fun c3 => ?_) (fun c3 => ?_)
  · refine go_iconst (pc' := 11) cx 0 dX1_fits_10 rfl rfl ?_
    refine go_icmp_lt (pc' := 14) cx 27 dX1_fits_11 rfl rfl (fun c11 => ?_) (fun c11 => ?_)
    · refine go_iconst (pc' := 28) cx 0 dX1_fits_27 rfl rfl ?_
      refine go_zret cx (Or.inl rfl) rfl dX1_fits_28 ?_
      exact Zi.mk (by first | (simp [fitsI, c3, c11]; done) | (simp_all [fitsI, c3, c11]; done) | ((try unfold fitsI); (repeat' split) <;> first | rfl | contradiction | (simp_all; done))) rfl
    · refine go_iload_n (pc' := 15) cx dX1_fits_14 rfl rfl ?_
      refine go_aload_n (pc' := 16) cx dX1_fits_15 rfl rfl ?_
      refine go_iload_n (pc' := 17) cx dX1_fits_16 rfl rfl ?_
      refine go_cVi (pc' := 20) cx (c_X1_most l E hs w) mX1_most lX1_40 dX1_fits_17 (sal_k0 hs) (ltn rfl) (sal_l0 hs) rfl rfl rfl rfl (ltn rfl) (Nat.le_of_ble_eq_true rfl) (Nat.le_of_ble_eq_true rfl) rfl ?_
      refine go_icmp_gt (pc' := 23) cx 27 dX1_fits_20 rfl rfl (fun c20 => ?_) (fun c20 => ?_)
      · refine go_iconst (pc' := 28) cx 0 dX1_fits_27 rfl rfl ?_
        refine go_zret cx (Or.inl rfl) rfl dX1_fits_28 ?_
        exact Zi.mk (by first | (simp [fitsI, c3, c11, c20]; done) | (simp_all [fitsI, c3, c11, c20]; done) | ((try unfold fitsI); (repeat' split) <;> first | rfl | contradiction | (simp_all; done))) rfl
      · refine go_iconst (pc' := 24) cx 1 dX1_fits_23 rfl rfl ?_
        refine go_goto cx 28 dX1_fits_24 rfl ?_
        refine go_zret cx (Or.inr rfl) rfl dX1_fits_28 ?_
        exact Zi.mk (by first | (simp [fitsI, c3, c11, c20]; done) | (simp_all [fitsI, c3, c11, c20]; done) | ((try unfold fitsI); (repeat' split) <;> first | rfl | contradiction | (simp_all; done))) rfl
  · refine go_iconst (pc' := 7) cx (-1) dX1_fits_6 rfl rfl ?_
    refine go_goto cx 11 dX1_fits_7 rfl ?_
    refine go_icmp_lt (pc' := 14) cx 27 dX1_fits_11 rfl rfl (fun c11 => ?_) (fun c11 => ?_)
    · refine go_iconst (pc' := 28) cx 0 dX1_fits_27 rfl rfl ?_
      refine go_zret cx (Or.inl rfl) rfl dX1_fits_28 ?_
      exact Zi.mk (by first | (simp [fitsI, c3, c11]; done) | (simp_all [fitsI, c3, c11]; done) | ((try unfold fitsI); (repeat' split) <;> first | rfl | contradiction | (simp_all; done))) rfl
    · refine go_iload_n (pc' := 15) cx dX1_fits_14 rfl rfl ?_
      refine go_aload_n (pc' := 16) cx dX1_fits_15 rfl rfl ?_
      refine go_iload_n (pc' := 17) cx dX1_fits_16 rfl rfl ?_
      refine go_cVi (pc' := 20) cx (c_X1_most l E hs w) mX1_most lX1_40 dX1_fits_17 (sal_k0 hs) (ltn rfl) (sal_l0 hs) rfl rfl rfl rfl (ltn rfl) (Nat.le_of_ble_eq_true rfl) (Nat.le_of_ble_eq_true rfl) rfl ?_
      refine go_icmp_gt (pc' := 23) cx 27 dX1_fits_20 rfl rfl (fun c20 => ?_) (fun c20 => ?_)
      · refine go_iconst (pc' := 28) cx 0 dX1_fits_27 rfl rfl ?_
        refine go_zret cx (Or.inl rfl) rfl dX1_fits_28 ?_
        exact Zi.mk (by first | (simp [fitsI, c3, c11, c20]; done) | (simp_all [fitsI, c3, c11, c20]; done) | ((try unfold fitsI); (repeat' split) <;> first | rfl | contradiction | (simp_all; done))) rfl
      · refine go_iconst (pc' := 24) cx 1 dX1_fits_23 rfl rfl ?_
        refine go_goto cx 28 dX1_fits_24 rfl ?_
        refine go_zret cx (Or.inr rfl) rfl dX1_fits_28 ?_
        exact Zi.mk (by first | (simp [fitsI, c3, c11, c20]; done) | (simp_all [fitsI, c3, c11, c20]; done) | ((try unfold fitsI); (repeat' split) <;> first | rfl | contradiction | (simp_all; done))) rfl

set_option maxHeartbeats 4000000 in
set_option maxRecDepth 20000 in
theorem c_X1_read (l : Launch) (E : Ev) {g : IG} {o : Option Nat} {z : Int64} {so : Nat} (hs : Sal so) {w q : Nat} (hw : w < 11) (hq : q < 8) (of : Int32) (hof : w ≠ 3 → of = nI q) : Ct l E 88 yX1_read cX1_read 3 (some .int) 1 [.ref (E.2.1 so), .int (nI w), .int of] g (RFo o) z (Zi (RFo o) z (g (so + 2 + w) (if w = 3 then 0 else q)) g) := by
  refine Ct.of (lv0 := [(0, .ref (E.2.1 so)), (1, .int (nI w)), (2, .int of)]) (by decide) (Nat.le_of_ble_eq_true rfl) rfl ?_
  intro p e s m below meth c cx
  refine go_aload_n (pc' := 1) cx dX1_read_0 rfl rfl ?_
  refine go_getr (pc' := 4) cx (so + 1) fX1_11 dX1_read_1 (sal_k0 hs) (sal_l0 hs) (ltn rfl) rfl (sal_r1 hs) rfl ?_
  refine go_iload_n (pc' := 5) cx dX1_read_4 rfl rfl ?_
  refine go_aaldk (pc' := 6) cx w (so + 2 + w) dX1_read_5 (sal_k1 hs) (Nat.le_of_ble_eq_true rfl) (ltn rfl) (sal_l1 hs) (vpi (k := w) (a := 11) hw rfl rfl) (cli (k := w) (a := 11) hw rfl) (sal_rr hs hw) rfl ?_
  refine go_iload_n (pc' := 7) cx dX1_read_6 rfl rfl ?_
  refine go_iconst (pc' := 8) cx 3 dX1_read_7 rfl rfl ?_
  refine go_icmp_ne (pc' := 11) cx 15 dX1_read_8 rfl rfl (fun c8 => ?_) (fun c8 => ?_)
  · have c8 := fun q9 => c8 ((nI_eq (a := w) (b := 3) (by omega) (by omega)).mpr q9)
    have hw3 : w ≠ 3 := c8
    have hofq := hof hw3
    subst hofq
    refine go_iload_n (pc' := 16) cx dX1_read_15 rfl rfl ?_
    refine go_iald (pc' := 17) cx (g (so + 2 + w) q) dX1_read_16 (sal_kr hs hw) (sal_lr hs hw) (vpi (k := q) (a := 8) hq rfl rfl) (congrArg (g (so + 2 + w)) (cli (k := q) (a := 8) hq rfl)) rfl ?_
    refine go_iret cx rfl dX1_read_17 ?_
    exact Zi.mk (congrArg (g (so + 2 + w)) (if_neg hw3).symm) rfl
  · have c8 := (nI_eq (a := w) (b := 3) (by omega) (by omega)).mp c8
    refine go_iconst (pc' := 12) cx 0 dX1_read_11 rfl rfl ?_
    refine go_goto cx 16 dX1_read_12 rfl ?_
    refine go_iald (pc' := 17) cx (g (so + 2 + w) 0) dX1_read_16 (sal_kr hs hw) (sal_lr hs hw) (vpi (k := 0) (a := 1) (ltn rfl) rfl rfl) (congrArg (g (so + 2 + w)) (cli (k := 0) (a := 1) (ltn rfl) rfl)) rfl ?_
    refine go_iret cx rfl dX1_read_17 ?_
    exact Zi.mk (congrArg (g (so + 2 + w)) (if_pos c8).symm) rfl

set_option maxHeartbeats 4000000 in
set_option maxRecDepth 20000 in
theorem c_X1_write (l : Launch) (E : Ev) {g : IG} {o : Option Nat} {z : Int64} {so : Nat} (hs : Sal so) {w q : Nat} (hw : w < 11) (hq : q < 8) (of : Int32) (hof : w ≠ 3 → of = nI q) (v : Int32) : Ct l E 88 yX1_write cX1_write 4 none 1 [.ref (E.2.1 so), .int (nI w), .int of, .int v] g (RFo o) z (Zu (RFo o) z (up2 g (so + 2 + w) (if w = 3 then 0 else q) v)) := by
  refine Ct.of (lv0 := [(0, .ref (E.2.1 so)), (1, .int (nI w)), (2, .int of), (3, .int v)]) (by decide) (Nat.le_of_ble_eq_true rfl) rfl ?_
  intro p e s m below meth c cx
  refine go_aload_n (pc' := 1) cx dX1_write_0 rfl rfl ?_
  refine go_getr (pc' := 4) cx (so + 1) fX1_11 dX1_write_1 (sal_k0 hs) (sal_l0 hs) (ltn rfl) rfl (sal_r1 hs) rfl ?_
  refine go_iload_n (pc' := 5) cx dX1_write_4 rfl rfl ?_
  refine go_aaldk (pc' := 6) cx w (so + 2 + w) dX1_write_5 (sal_k1 hs) (Nat.le_of_ble_eq_true rfl) (ltn rfl) (sal_l1 hs) (vpi (k := w) (a := 11) hw rfl rfl) (cli (k := w) (a := 11) hw rfl) (sal_rr hs hw) rfl ?_
  refine go_iload_n (pc' := 7) cx dX1_write_6 rfl rfl ?_
  refine go_iconst (pc' := 8) cx 3 dX1_write_7 rfl rfl ?_
  refine go_icmp_ne (pc' := 11) cx 15 dX1_write_8 rfl rfl (fun c8 => ?_) (fun c8 => ?_)
  · have c8 := fun q9 => c8 ((nI_eq (a := w) (b := 3) (by omega) (by omega)).mpr q9)
    have hw3 : w ≠ 3 := c8
    have hofq := hof hw3
    subst hofq
    refine go_iload_n (pc' := 16) cx dX1_write_15 rfl rfl ?_
    refine go_iload_n (pc' := 17) cx dX1_write_16 rfl rfl ?_
    refine go_iastk (pc' := 18) cx q dX1_write_17 (sal_kr hs hw) (sal_lr hs hw) (vpi (k := q) (a := 8) hq rfl rfl) (cli (k := q) (a := 8) hq rfl) rfl ?_
    refine go_vret cx rfl dX1_write_18 ?_
    exact Zu.mk (congrArg (fun k => up2 g (so + 2 + w) k v) (if_neg hw3).symm)
  · have c8 := (nI_eq (a := w) (b := 3) (by omega) (by omega)).mp c8
    refine go_iconst (pc' := 12) cx 0 dX1_write_11 rfl rfl ?_
    refine go_goto cx 16 dX1_write_12 rfl ?_
    refine go_iload_n (pc' := 17) cx dX1_write_16 rfl rfl ?_
    refine go_iastk (pc' := 18) cx 0 dX1_write_17 (sal_kr hs hw) (sal_lr hs hw) (vpi (k := 0) (a := 1) (ltn rfl) rfl rfl) (cli (k := 0) (a := 1) (ltn rfl) rfl) rfl ?_
    refine go_vret cx rfl dX1_write_18 ?_
    exact Zu.mk (congrArg (fun k => up2 g (so + 2 + w) k v) (if_pos c8).symm)
