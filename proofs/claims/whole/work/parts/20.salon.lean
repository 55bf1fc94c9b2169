/-! SALON: the three of them -/
def Sal (so : Nat) : Prop := so = 37 ∨ so = 50 ∨ so = 64
theorem sal_k0 {so : Nat} (h : Sal so) : kd so = (1, 5) := by rcases h with rfl | rfl | rfl <;> rfl
theorem sal_k1 {so : Nat} (h : Sal so) : kd (so + 1) = (12, 11) := by rcases h with rfl | rfl | rfl <;> rfl
theorem sal_l0 {so : Nat} (h : Sal so) : so < 115 := by rcases h with rfl | rfl | rfl <;> decide
theorem sal_l1 {so : Nat} (h : Sal so) : so + 1 < 115 := by rcases h with rfl | rfl | rfl <;> decide
theorem sal_lr {so i : Nat} (h : Sal so) (hi : i < 11) : so + 2 + i < 115 := by rcases h with rfl | rfl | rfl <;> omega
theorem sal_kr' : ∀ i, i < 11 → kd (37 + 2 + i) = (10, 8) ∧ kd (50 + 2 + i) = (10, 8) ∧ kd (64 + 2 + i) = (10, 8) := by decide +kernel
theorem sal_kr {so i : Nat} (h : Sal so) (hi : i < 11) : kd (so + 2 + i) = (10, 8) := by
  have := sal_kr' i hi
  rcases h with rfl | rfl | rfl
  · exact this.1
  · exact this.2.1
  · exact this.2.2
theorem sal_r0 {so : Nat} {o : Option Nat} (h : Sal so) : RFo o so 0 = some 1 := by rcases h with rfl | rfl | rfl <;> rfl
theorem sal_r1 {so : Nat} {o : Option Nat} (h : Sal so) : RFo o so 1 = some (so + 1) := by rcases h with rfl | rfl | rfl <;> rfl
theorem sal_rr' : ∀ i, i < 11 → RT (37 + 1) i = some (37 + 2 + i) ∧ RT (50 + 1) i = some (50 + 2 + i) ∧ RT (64 + 1) i = some (64 + 2 + i) := by decide +kernel
theorem sal_rr {so i : Nat} {o : Option Nat} (h : Sal so) (hi : i < 11) : RFo o (so + 1) i = some (so + 2 + i) := by
  have := sal_rr' i hi
  unfold RFo
  rcases h with rfl | rfl | rfl
  · rw [if_neg (by omega)]; exact this.1
  · rw [if_neg (by omega)]; exact this.2.1
  · rw [if_neg (by omega)]; exact this.2.2

def howMany (g : IG) (so : Nat) (w : Int32) : Int32 := if w = 0 then 4 else if w = 1 then 4 else if w = 2 then 4 else if w = 7 then g so 3 else if w = 8 then g so 3 else if w = 9 then g so 3 else g so 2

set_option maxHeartbeats 4000000 in
set_option maxRecDepth 20000 in
theorem c_X1_howMany (l : Launch) (E : Ev) {g : IG} {o : Option Nat} {z : Int64} {so : Nat} (hs : Sal so) (w : Int32) : Ct l E 115 yX1_howMany cX1_howMany 2 (some .int) 1 [.ref (E.2.1 so), .int w] g (RFo o) z (Zi (RFo o) z (howMany g so w) g) := by
  refine Ct.of (lv0 := [(0, .ref (E.2.1 so)), (1, .int w)]) (by decide) (Nat.le_of_ble_eq_true rfl) rfl ?_
  intro p e s m below meth c cx
  refine go_iload_n (pc' := 1) cx dX1_howMany_0 rfl rfl ?_
  by_cases c1 : w = 0
  · refine go_tabIn cx 56 dX1_howMany_1 (by rw [c1]; decide) (by rw [c1]; decide) (by rw [c1]; rfl) rfl ?_
    refine go_iconst (pc' := 57) cx 4 dX1_howMany_56 rfl rfl ?_
    refine go_iret cx rfl dX1_howMany_57 ?_
    exact Zi.mk (by simp [howMany, c1]) rfl
  have n1_0 := c1
  by_cases c1 : w = 1
  · refine go_tabIn cx 56 dX1_howMany_1 (by rw [c1]; decide) (by rw [c1]; decide) (by rw [c1]; rfl) rfl ?_
    refine go_iconst (pc' := 57) cx 4 dX1_howMany_56 rfl rfl ?_
    refine go_iret cx rfl dX1_howMany_57 ?_
    exact Zi.mk (by simp [howMany, n1_0, c1]) rfl
  have n1_1 := c1
  by_cases c1 : w = 2
  · refine go_tabIn cx 56 dX1_howMany_1 (by rw [c1]; decide) (by rw [c1]; decide) (by rw [c1]; rfl) rfl ?_
    refine go_iconst (pc' := 57) cx 4 dX1_howMany_56 rfl rfl ?_
    refine go_iret cx rfl dX1_howMany_57 ?_
    exact Zi.mk (by simp [howMany, n1_0, n1_1, c1]) rfl
  have n1_2 := c1
  by_cases c1 : w = 7
  · refine go_tabIn cx 58 dX1_howMany_1 (by rw [c1]; decide) (by rw [c1]; decide) (by rw [c1]; rfl) rfl ?_
    refine go_aload_n (pc' := 59) cx dX1_howMany_58 rfl rfl ?_
    refine go_geti (pc' := 62) cx (g so 3) fX1_20 dX1_howMany_59 (sal_k0 hs) (sal_l0 hs) (ltn rfl) rfl rfl rfl ?_
    refine go_iret cx rfl dX1_howMany_62 ?_
    exact Zi.mk (by simp [howMany, n1_0, n1_1, n1_2, c1]) rfl
  have n1_7 := c1
  by_cases c1 : w = 8
  · refine go_tabIn cx 58 dX1_howMany_1 (by rw [c1]; decide) (by rw [c1]; decide) (by rw [c1]; rfl) rfl ?_
    refine go_aload_n (pc' := 59) cx dX1_howMany_58 rfl rfl ?_
    refine go_geti (pc' := 62) cx (g so 3) fX1_20 dX1_howMany_59 (sal_k0 hs) (sal_l0 hs) (ltn rfl) rfl rfl rfl ?_
    refine go_iret cx rfl dX1_howMany_62 ?_
    exact Zi.mk (by simp [howMany, n1_0, n1_1, n1_2, n1_7, c1]) rfl
  have n1_8 := c1
  by_cases c1 : w = 9
  · refine go_tabIn cx 58 dX1_howMany_1 (by rw [c1]; decide) (by rw [c1]; decide) (by rw [c1]; rfl) rfl ?_
    refine go_aload_n (pc' := 59) cx dX1_howMany_58 rfl rfl ?_
    refine go_geti (pc' := 62) cx (g so 3) fX1_20 dX1_howMany_59 (sal_k0 hs) (sal_l0 hs) (ltn rfl) rfl rfl rfl ?_
    refine go_iret cx rfl dX1_howMany_62 ?_
    exact Zi.mk (by simp [howMany, n1_0, n1_1, n1_2, n1_7, n1_8, c1]) rfl
  have n1_9 := c1
  refine go_tabD cx 63 dX1_howMany_1 ?_ rfl ?_
  · by_cases q1 : w.toInt < 0
    · exact Or.inl (Or.inl q1)
    by_cases q2 : 9 < w.toInt
    · exact Or.inl (Or.inr q2)
    refine Or.inr ⟨q1, q2, ?_⟩
    rcases (show w.toInt = 0 ∨ w.toInt = 1 ∨ w.toInt = 2 ∨ w.toInt = 3 ∨ w.toInt = 4 ∨ w.toInt = 5 ∨ w.toInt = 6 ∨ w.toInt = 7 ∨ w.toInt = 8 ∨ w.toInt = 9 by omega) with q3 | q3 | q3 | q3 | q3 | q3 | q3 | q3 | q3 | q3
    · exact absurd (Int32.toInt_inj.mp (q3.trans (by decide))) n1_0
    · exact absurd (Int32.toInt_inj.mp (q3.trans (by decide))) n1_1
    · exact absurd (Int32.toInt_inj.mp (q3.trans (by decide))) n1_2
    · rw [q3]; rfl
    · rw [q3]; rfl
    · rw [q3]; rfl
    · rw [q3]; rfl
    · exact absurd (Int32.toInt_inj.mp (q3.trans (by decide))) n1_7
    · exact absurd (Int32.toInt_inj.mp (q3.trans (by decide))) n1_8
    · exact absurd (Int32.toInt_inj.mp (q3.trans (by decide))) n1_9
  refine go_aload_n (pc' := 64) cx dX1_howMany_63 rfl rfl ?_
  refine go_geti (pc' := 67) cx (g so 2) fX1_16 dX1_howMany_64 (sal_k0 hs) (sal_l0 hs) (ltn rfl) rfl rfl rfl ?_
  refine go_iret cx rfl dX1_howMany_67 ?_
  exact Zi.mk (by simp [howMany, n1_0, n1_1, n1_2, n1_7, n1_8, n1_9]) rfl
