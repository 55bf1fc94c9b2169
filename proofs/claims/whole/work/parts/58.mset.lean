/-! THE REFERENCE: what changes it -/
def ovM (x : Int32) : Int32 := if x = 0 then -1 else if x = 3 then 1 else if x = 4 then 2 else 0
def fdM (g : IG) (sz : Nat) (x : Int32) : Int32 × IG := if inX 0 255 x = 0 then (-2, g) else if nI sz = 160 then (-4, g) else (nI (sz + 1), up2 (up2 g 91 sz x) 88 6 (nI (sz + 1)))
def foM (g : IG) (tc : Nat) (x : Int32) : Int32 × IG := if inI (nI tc) x = 0 then (-2, g) else (g 88 4, up2 g 88 4 x)
def nvM (g : IG) (hn vn : Nat) (hd wt : Int32) : Int32 × IG := if inI (nI hn) hd = 0 then (-2, g) else if inX 0 203 wt = 0 then (-2, g) else if ¬ wt - wt / 10 * 10 < 4 then (-2, g) else if nI vn = 8 then (-4, g) else (nI vn, up2 (up2 (up2 (up2 g 99 vn hd) 100 vn (wt / 10)) 101 vn (wt - wt / 10 * 10)) 88 19 (nI (vn + 1)))
def hdM (g : IG) (hn : Nat) (ki wt wi : Int32) : Int32 × IG := if inX 0 5 ki = 0 then (-2, g) else if inX 0 910 wt = 0 then (-2, g) else if 10 < wt - wt / 100 * 100 then (-2, g) else if inX 0 199 wi = 0 then (-2, g) else if nI hn = 5 then (-4, g) else (nI hn, up2 (up2 (up2 (up2 (up2 g 95 hn ki) 96 hn (wt / 100)) 97 hn (wt - wt / 100 * 100)) 98 hn wi) 88 15 (nI (hn + 1)))
def cnM (g : IG) (x : Int32) : Int32 := if inX 0 5 x = 0 then -2 else if x < 5 then (if x = 0 then g 88 15 else if x = 1 then g 88 19 else if x = 2 then g 88 3 else if x = 3 then g 88 6 else g 88 4) else g 92 0 + g 92 1 + g 92 2 + g 92 3
theorem lt_ne {a b : Nat} (h : a ≤ b) (hb : b < 2 ^ 31) (hn : ¬ nI a = nI b) : a < b := by
  rcases Nat.lt_or_ge a b with q | q
  · exact q
  · exact absurd (by rw [show a = b by omega]) hn

set_option maxHeartbeats 1000000 in
set_option maxRecDepth 20000 in
theorem c_X6_over (l : Launch) (E : Ev) {g : IG} {o : Option Nat} {z : Int64} (x1 : Int32) : Ct l E 115 yX6_over cX6_over 1 (some .int) 1 [.int x1] g (RFo o) z (Zi (RFo o) z (ovM x1) g) := by
  refine Ct.of (lv0 := [(0, .int x1)]) (by decide) (Nat.le_of_ble_eq_true rfl) rfl ?_
  intro p e s m below meth c cx
  refine go_iload_n (pc' := 1) cx dX6_over_0 rfl rfl ?_
  refine go_if_ne (pc' := 4) cx 8 dX6_over_1 rfl rfl (fun c1 => ?_) (fun c1 => ?_)
  · refine go_iload_n (pc' := 9) cx dX6_over_8 rfl rfl ?_
    refine go_iconst (pc' := 10) cx 3 dX6_over_9 rfl rfl ?_
    refine go_icmp_ne (pc' := 13) cx 17 dX6_over_10 rfl rfl (fun c10 => ?_) (fun c10 => ?_)
    · refine go_iload_n (pc' := 18) cx dX6_over_17 rfl rfl ?_
      refine go_iconst (pc' := 19) cx 4 dX6_over_18 rfl rfl ?_
      refine go_icmp_ne (pc' := 22) cx 26 dX6_over_19 rfl rfl (fun c19 => ?_) (fun c19 => ?_)
      · refine go_iconst (pc' := 27) cx 0 dX6_over_26 rfl rfl ?_
        refine go_iret cx rfl dX6_over_27 ?_
        exact Zi.mk (by first | (simp only [ovM, c1, c10, c19, if_true, if_false]; done) | (simp_all [ovM]; done)) rfl
      · refine go_iconst (pc' := 23) cx 2 dX6_over_22 rfl rfl ?_
        refine go_goto cx 27 dX6_over_23 rfl ?_
        refine go_iret cx rfl dX6_over_27 ?_
        exact Zi.mk (by first | (simp only [ovM, c1, c10, c19, if_true, if_false]; done) | (simp_all [ovM]; done)) rfl
    · refine go_iconst (pc' := 14) cx 1 dX6_over_13 rfl rfl ?_
      refine go_goto cx 27 dX6_over_14 rfl ?_
      refine go_iret cx rfl dX6_over_27 ?_
      exact Zi.mk (by first | (simp only [ovM, c1, c10, if_true, if_false]; done) | (simp_all [ovM]; done)) rfl
  · refine go_iconst (pc' := 5) cx (-1) dX6_over_4 rfl rfl ?_
    refine go_goto cx 27 dX6_over_5 rfl ?_
    refine go_iret cx rfl dX6_over_27 ?_
    exact Zi.mk (by first | (simp only [ovM, c1, if_true, if_false]; done) | (simp_all [ovM]; done)) rfl

set_option maxHeartbeats 1000000 in
set_option maxRecDepth 20000 in
theorem c_X6_feed (l : Launch) (E : Ev) {g : IG} {o : Option Nat} {z : Int64} {sz : Nat} (hsz : sz ≤ 160) (h6 : g 88 6 = nI sz) (x1 : Int32) : Ct l E 115 yX6_feed cX6_feed 2 (some .int) 2 [.ref (E.2.1 88), .int x1] g (RFo o) z (Zi (RFo o) z (fdM g sz x1).1 (fdM g sz x1).2) := by
  refine Ct.of (lv0 := [(0, .ref (E.2.1 88)), (1, .int x1)]) (by decide) (Nat.le_of_ble_eq_true rfl) rfl ?_
  intro p e s m below meth c cx
  refine go_iload_n (pc' := 1) cx dX6_feed_0 rfl rfl ?_
  refine go_i2l (pc' := 2) cx dX6_feed_1 rfl ?_
  refine go_lconst (pc' := 3) cx 0 dX6_feed_2 rfl rfl ?_
  refine go_val (w := .long (((0 : Int32)).toInt64)) (congrArg Value.long (by decide)) ?_
  refine go_ldc2 (pc' := 6) cx 255 kX6_154 dX6_feed_3 rfl ?_
  refine go_val (w := .long (((255 : Int32)).toInt64)) (congrArg Value.long (by decide)) ?_
  refine go_cSi (pc' := 9) cx (c_X6_in l E (g := g) x1 (0 : Int32) (255 : Int32)) mX6_in lX6_108 dX6_feed_6 rfl rfl rfl (ltn rfl) (Nat.le_of_ble_eq_true rfl) (Nat.le_of_ble_eq_true rfl) rfl ?_
  refine go_if_ne (pc' := 12) cx 15 dX6_feed_9 rfl rfl (fun c9 => ?_) (fun c9 => ?_)
  · refine go_aload_n (pc' := 16) cx dX6_feed_15 rfl rfl ?_
    refine go_geti (pc' := 19) cx (nI sz) fX6_156 dX6_feed_16 kq88 (ltn rfl) (ltn rfl) rfl h6 rfl ?_
    refine go_sipush (pc' := 22) cx 160 dX6_feed_19 rfl rfl ?_
    refine go_icmp_ne (pc' := 25) cx 28 dX6_feed_22 rfl rfl (fun c22 => ?_) (fun c22 => ?_)
    · have hs9 : sz < 160 := lt_ne (b := 160) hsz (by omega) c22
      refine go_aload_n (pc' := 29) cx dX6_feed_28 rfl rfl ?_
      refine go_getr (pc' := 32) cx 91 fX6_20 dX6_feed_29 kq88 (ltn rfl) (ltn rfl) rfl rfl rfl ?_
      refine go_aload_n (pc' := 33) cx dX6_feed_32 rfl rfl ?_
      refine go_geti (pc' := 36) cx (nI sz) fX6_156 dX6_feed_33 kq88 (ltn rfl) (ltn rfl) rfl h6 rfl ?_
      refine go_iload_n (pc' := 37) cx dX6_feed_36 rfl rfl ?_
      refine go_iastk (pc' := 38) cx sz dX6_feed_37 kq91 (ltn rfl) (vpi (k := sz) (a := 160) (by omega) rfl rfl) (cli (k := sz) (a := 160) (by omega) rfl) rfl ?_
      refine go_aload_n (pc' := 39) cx dX6_feed_38 rfl rfl ?_
      refine go_dup (pc' := 40) cx rfl dX6_feed_39 rfl ?_
      refine go_geti (pc' := 43) cx (nI sz) fX6_156 dX6_feed_40 kq88 (ltn rfl) (ltn rfl) rfl ((up2_n g x1 (Or.inl (Nat.ne_of_beq_eq_false rfl))).trans h6) rfl ?_
      refine go_iconst (pc' := 44) cx 1 dX6_feed_43 rfl rfl ?_
      refine go_iadd (pc' := 45) cx dX6_feed_44 rfl ?_
      refine go_val (w := .int (nI (sz + 1))) (congrArg Value.int (nI_add sz 1)) ?_
      refine go_puti (pc' := 48) cx fX6_156 dX6_feed_45 kq88 (ltn rfl) (ltn rfl) rfl rfl rfl rfl ?_
      refine go_aload_n (pc' := 49) cx dX6_feed_48 rfl rfl ?_
      refine go_geti (pc' := 52) cx (nI (sz + 1)) fX6_156 dX6_feed_49 kq88 (ltn rfl) (ltn rfl) rfl (up2_s (up2 g 91 sz x1) 88 6 (nI (sz + 1))) rfl ?_
      refine go_iret cx rfl dX6_feed_52 ?_
      exact Zi.mk (by simp only [fdM, c9, c22, if_true, if_false, not_true, not_false_eq_true]) (by simp only [fdM, c9, c22, if_true, if_false, not_true, not_false_eq_true])
    · refine go_bipush (pc' := 27) cx (-4) dX6_feed_25 rfl rfl ?_
      refine go_iret cx rfl dX6_feed_27 ?_
      exact Zi.mk (by simp only [fdM, c9, c22, if_true, if_false, not_true, not_false_eq_true]) (by simp only [fdM, c9, c22, if_true, if_false, not_true, not_false_eq_true])
  · refine go_bipush (pc' := 14) cx (-2) dX6_feed_12 rfl rfl ?_
    refine go_iret cx rfl dX6_feed_14 ?_
    exact Zi.mk (by simp only [fdM, c9, if_true, if_false, not_true, not_false_eq_true]) (by simp only [fdM, c9, if_true, if_false, not_true, not_false_eq_true])

set_option maxHeartbeats 1000000 in
set_option maxRecDepth 20000 in
theorem c_X6_force (l : Launch) (E : Ev) {g : IG} {o : Option Nat} {z : Int64} {tc : Nat} (htc : tc < 1000) (h3 : g 88 3 = nI tc) (x1 : Int32) : Ct l E 115 yX6_force cX6_force 3 (some .int) 2 [.ref (E.2.1 88), .int x1] g (RFo o) z (Zi (RFo o) z (foM g tc x1).1 (foM g tc x1).2) := by
  refine Ct.of (lv0 := [(0, .ref (E.2.1 88)), (1, .int x1)]) (by decide) (Nat.le_of_ble_eq_true rfl) rfl ?_
  intro p e s m below meth c cx
  refine go_iload_n (pc' := 1) cx dX6_force_0 rfl rfl ?_
  refine go_i2l (pc' := 2) cx dX6_force_1 rfl ?_
  refine go_lconst (pc' := 3) cx 0 dX6_force_2 rfl rfl ?_
  refine go_val (w := .long (((0 : Int32)).toInt64)) (congrArg Value.long (by decide)) ?_
  refine go_aload_n (pc' := 4) cx dX6_force_3 rfl rfl ?_
  refine go_geti (pc' := 7) cx (nI tc) fX6_103 dX6_force_4 kq88 (ltn rfl) (ltn rfl) rfl h3 rfl ?_
  refine go_iconst (pc' := 8) cx 1 dX6_force_7 rfl rfl ?_
  refine go_isub (pc' := 9) cx dX6_force_8 rfl ?_
  refine go_i2l (pc' := 10) cx dX6_force_9 rfl ?_
  refine go_cSi (pc' := 13) cx (c_X6_in l E (g := g) x1 (0 : Int32) ((nI tc) - 1)) mX6_in lX6_108 dX6_force_10 rfl rfl rfl (ltn rfl) (Nat.le_of_ble_eq_true rfl) (Nat.le_of_ble_eq_true rfl) rfl ?_
  refine go_if_ne (pc' := 16) cx 19 dX6_force_13 rfl rfl (fun c13 => ?_) (fun c13 => ?_)
  · refine go_aload_n (pc' := 20) cx dX6_force_19 rfl rfl ?_
    refine go_geti (pc' := 23) cx (g 88 4) fX6_367 dX6_force_20 kq88 (ltn rfl) (ltn rfl) rfl rfl rfl ?_
    refine go_istore_n (pc' := 24) cx dX6_force_23 (ltn rfl) [(2, .int (g 88 4)), (0, .ref (E.2.1 88)), (1, .int x1)] rfl rfl ?_
    refine go_aload_n (pc' := 25) cx dX6_force_24 rfl rfl ?_
    refine go_iload_n (pc' := 26) cx dX6_force_25 rfl rfl ?_
    refine go_puti (pc' := 29) cx fX6_367 dX6_force_26 kq88 (ltn rfl) (ltn rfl) rfl rfl rfl rfl ?_
    refine go_iload_n (pc' := 30) cx dX6_force_29 rfl rfl ?_
    refine go_iret cx rfl dX6_force_30 ?_
    rw [inX_inI htc] at c13
    exact Zi.mk (by simp only [foM, c13, if_true, if_false]) (by simp only [foM, c13, if_true, if_false])
  · refine go_bipush (pc' := 18) cx (-2) dX6_force_16 rfl rfl ?_
    refine go_iret cx rfl dX6_force_18 ?_
    rw [inX_inI htc] at c13
    exact Zi.mk (by simp only [foM, c13, if_true, if_false]) (by simp only [foM, c13, if_true, if_false])

set_option maxHeartbeats 1000000 in
set_option maxRecDepth 20000 in
theorem c_X6_count (l : Launch) (E : Ev) {g : IG} {o : Option Nat} {z : Int64} (x1 : Int32) : Ct l E 115 yX6_count cX6_count 2 (some .int) 2 [.ref (E.2.1 88), .int x1] g (RFo o) z (Zi (RFo o) z (cnM g x1) g) := by
  refine Ct.of (lv0 := [(0, .ref (E.2.1 88)), (1, .int x1)]) (by decide) (Nat.le_of_ble_eq_true rfl) rfl ?_
  intro p e s m below meth c cx
  refine go_iload_n (pc' := 1) cx dX6_count_0 rfl rfl ?_
  refine go_i2l (pc' := 2) cx dX6_count_1 rfl ?_
  refine go_lconst (pc' := 3) cx 0 dX6_count_2 rfl rfl ?_
  refine go_val (w := .long (((0 : Int32)).toInt64)) (congrArg Value.long (by decide)) ?_
  refine go_ldc2 (pc' := 6) cx 5 kX6_144 dX6_count_3 rfl ?_
  refine go_val (w := .long (((5 : Int32)).toInt64)) (congrArg Value.long (by decide)) ?_
  refine go_cSi (pc' := 9) cx (c_X6_in l E (g := g) x1 (0 : Int32) (5 : Int32)) mX6_in lX6_108 dX6_count_6 rfl rfl rfl (ltn rfl) (Nat.le_of_ble_eq_true rfl) (Nat.le_of_ble_eq_true rfl) rfl ?_
  refine go_if_ne (pc' := 12) cx 15 dX6_count_9 rfl rfl (fun c9 => ?_) (fun c9 => ?_)
  · refine go_iload_n (pc' := 16) cx dX6_count_15 rfl rfl ?_
    refine go_iconst (pc' := 17) cx 5 dX6_count_16 rfl rfl ?_
    refine go_icmp_ge (pc' := 20) cx 72 dX6_count_17 rfl rfl (fun c17 => ?_) (fun c17 => ?_)
    · have c17n := Int32.not_lt.mpr c17
      refine go_aload_n (pc' := 73) cx dX6_count_72 rfl rfl ?_
      refine go_getr (pc' := 76) cx 92 fX6_23 dX6_count_73 kq88 (ltn rfl) (ltn rfl) rfl rfl rfl ?_
      refine go_iconst (pc' := 77) cx 0 dX6_count_76 rfl rfl ?_
      refine go_iald (pc' := 78) cx (g 92 0) dX6_count_77 kq92 (ltn rfl) (vpi (k := 0) (a := 1) (ltn rfl) rfl rfl) (congrArg (g 92) (cli (k := 0) (a := 1) (ltn rfl) rfl)) rfl ?_
      refine go_aload_n (pc' := 79) cx dX6_count_78 rfl rfl ?_
      refine go_getr (pc' := 82) cx 92 fX6_23 dX6_count_79 kq88 (ltn rfl) (ltn rfl) rfl rfl rfl ?_
      refine go_iconst (pc' := 83) cx 1 dX6_count_82 rfl rfl ?_
      refine go_iald (pc' := 84) cx (g 92 1) dX6_count_83 kq92 (ltn rfl) (vpi (k := 1) (a := 2) (ltn rfl) rfl rfl) (congrArg (g 92) (cli (k := 1) (a := 2) (ltn rfl) rfl)) rfl ?_
      refine go_iadd (pc' := 85) cx dX6_count_84 rfl ?_
      refine go_aload_n (pc' := 86) cx dX6_count_85 rfl rfl ?_
      refine go_getr (pc' := 89) cx 92 fX6_23 dX6_count_86 kq88 (ltn rfl) (ltn rfl) rfl rfl rfl ?_
      refine go_iconst (pc' := 90) cx 2 dX6_count_89 rfl rfl ?_
      refine go_iald (pc' := 91) cx (g 92 2) dX6_count_90 kq92 (ltn rfl) (vpi (k := 2) (a := 3) (ltn rfl) rfl rfl) (congrArg (g 92) (cli (k := 2) (a := 3) (ltn rfl) rfl)) rfl ?_
      refine go_iadd (pc' := 92) cx dX6_count_91 rfl ?_
      refine go_aload_n (pc' := 93) cx dX6_count_92 rfl rfl ?_
      refine go_getr (pc' := 96) cx 92 fX6_23 dX6_count_93 kq88 (ltn rfl) (ltn rfl) rfl rfl rfl ?_
      refine go_iconst (pc' := 97) cx 3 dX6_count_96 rfl rfl ?_
      refine go_iald (pc' := 98) cx (g 92 3) dX6_count_97 kq92 (ltn rfl) (vpi (k := 3) (a := 4) (ltn rfl) rfl rfl) (congrArg (g 92) (cli (k := 3) (a := 4) (ltn rfl) rfl)) rfl ?_
      refine go_iadd (pc' := 99) cx dX6_count_98 rfl ?_
      refine go_iret cx rfl dX6_count_99 ?_
      exact Zi.mk (by first | (simp only [cnM, c9, c17, if_true, if_false]; done) | (have q5 := Int32.not_le.mp c17; simp only [cnM, q5, c9, c17, if_true, if_false]; done) | (have q5 := Int32.not_lt.mpr c17; simp only [cnM, q5, c9, c17, if_true, if_false]; done) | (have q5 := Int32.not_le.mp c17; simp_all [cnM]; done)) rfl
    · have c17n := Int32.not_le.mp c17
      refine go_iload_n (pc' := 21) cx dX6_count_20 rfl rfl ?_
      refine go_if_ne (pc' := 24) cx 31 dX6_count_21 rfl rfl (fun c21 => ?_) (fun c21 => ?_)
      · refine go_iload_n (pc' := 32) cx dX6_count_31 rfl rfl ?_
        refine go_iconst (pc' := 33) cx 1 dX6_count_32 rfl rfl ?_
        refine go_icmp_ne (pc' := 36) cx 43 dX6_count_33 rfl rfl (fun c33 => ?_) (fun c33 => ?_)
        · refine go_iload_n (pc' := 44) cx dX6_count_43 rfl rfl ?_
          refine go_iconst (pc' := 45) cx 2 dX6_count_44 rfl rfl ?_
          refine go_icmp_ne (pc' := 48) cx 55 dX6_count_45 rfl rfl (fun c45 => ?_) (fun c45 => ?_)
          · refine go_iload_n (pc' := 56) cx dX6_count_55 rfl rfl ?_
            refine go_iconst (pc' := 57) cx 3 dX6_count_56 rfl rfl ?_
            refine go_icmp_ne (pc' := 60) cx 67 dX6_count_57 rfl rfl (fun c57 => ?_) (fun c57 => ?_)
            · refine go_aload_n (pc' := 68) cx dX6_count_67 rfl rfl ?_
              refine go_geti (pc' := 71) cx (g 88 4) fX6_367 dX6_count_68 kq88 (ltn rfl) (ltn rfl) rfl rfl rfl ?_
              refine go_iret cx rfl dX6_count_71 ?_
              exact Zi.mk (by first | (simp only [cnM, c9, c17, c21, c33, c45, c57, if_true, if_false]; done) | (have q5 := Int32.not_le.mp c17; simp only [cnM, q5, c9, c17, c21, c33, c45, c57, if_true, if_false]; done) | (have q5 := Int32.not_lt.mpr c17; simp only [cnM, q5, c9, c17, c21, c33, c45, c57, if_true, if_false]; done) | (have q5 := Int32.not_le.mp c17; simp_all [cnM]; done)) rfl
            · refine go_aload_n (pc' := 61) cx dX6_count_60 rfl rfl ?_
              refine go_geti (pc' := 64) cx (g 88 6) fX6_156 dX6_count_61 kq88 (ltn rfl) (ltn rfl) rfl rfl rfl ?_
              refine go_goto cx 71 dX6_count_64 rfl ?_
              refine go_iret cx rfl dX6_count_71 ?_
              exact Zi.mk (by first | (simp only [cnM, c9, c17, c21, c33, c45, c57, if_true, if_false]; done) | (have q5 := Int32.not_le.mp c17; simp only [cnM, q5, c9, c17, c21, c33, c45, c57, if_true, if_false]; done) | (have q5 := Int32.not_lt.mpr c17; simp only [cnM, q5, c9, c17, c21, c33, c45, c57, if_true, if_false]; done) | (have q5 := Int32.not_le.mp c17; simp_all [cnM]; done)) rfl
          · refine go_aload_n (pc' := 49) cx dX6_count_48 rfl rfl ?_
            refine go_geti (pc' := 52) cx (g 88 3) fX6_103 dX6_count_49 kq88 (ltn rfl) (ltn rfl) rfl rfl rfl ?_
            refine go_goto cx 71 dX6_count_52 rfl ?_
            refine go_iret cx rfl dX6_count_71 ?_
            exact Zi.mk (by first | (simp only [cnM, c9, c17, c21, c33, c45, if_true, if_false]; done) | (have q5 := Int32.not_le.mp c17; simp only [cnM, q5, c9, c17, c21, c33, c45, if_true, if_false]; done) | (have q5 := Int32.not_lt.mpr c17; simp only [cnM, q5, c9, c17, c21, c33, c45, if_true, if_false]; done) | (have q5 := Int32.not_le.mp c17; simp_all [cnM]; done)) rfl
        · refine go_aload_n (pc' := 37) cx dX6_count_36 rfl rfl ?_
          refine go_geti (pc' := 40) cx (g 88 19) fX6_115 dX6_count_37 kq88 (ltn rfl) (ltn rfl) rfl rfl rfl ?_
          refine go_goto cx 71 dX6_count_40 rfl ?_
          refine go_iret cx rfl dX6_count_71 ?_
          exact Zi.mk (by first | (simp only [cnM, c9, c17, c21, c33, if_true, if_false]; done) | (have q5 := Int32.not_le.mp c17; simp only [cnM, q5, c9, c17, c21, c33, if_true, if_false]; done) | (have q5 := Int32.not_lt.mpr c17; simp only [cnM, q5, c9, c17, c21, c33, if_true, if_false]; done) | (have q5 := Int32.not_le.mp c17; simp_all [cnM]; done)) rfl
      · refine go_aload_n (pc' := 25) cx dX6_count_24 rfl rfl ?_
        refine go_geti (pc' := 28) cx (g 88 15) fX6_112 dX6_count_25 kq88 (ltn rfl) (ltn rfl) rfl rfl rfl ?_
        refine go_goto cx 71 dX6_count_28 rfl ?_
        refine go_iret cx rfl dX6_count_71 ?_
        exact Zi.mk (by first | (simp only [cnM, c9, c17, c21, if_true, if_false]; done) | (have q5 := Int32.not_le.mp c17; simp only [cnM, q5, c9, c17, c21, if_true, if_false]; done) | (have q5 := Int32.not_lt.mpr c17; simp only [cnM, q5, c9, c17, c21, if_true, if_false]; done) | (have q5 := Int32.not_le.mp c17; simp_all [cnM]; done)) rfl
  · refine go_bipush (pc' := 14) cx (-2) dX6_count_12 rfl rfl ?_
    refine go_iret cx rfl dX6_count_14 ?_
    exact Zi.mk (by first | (simp only [cnM, c9, if_true, if_false]; done) | (have q5 := Int32.not_le.mp c17; simp only [cnM, q5, c9, if_true, if_false]; done) | (have q5 := Int32.not_lt.mpr c17; simp only [cnM, q5, c9, if_true, if_false]; done) | (have q5 := Int32.not_le.mp c17; simp_all [cnM]; done)) rfl

set_option maxHeartbeats 1000000 in
set_option maxRecDepth 20000 in
theorem c_X6_visit (l : Launch) (E : Ev) {g : IG} {o : Option Nat} {z : Int64} {hn vn : Nat} (hhn : hn ≤ 5) (hvn : vn ≤ 8) (h15 : g 88 15 = nI hn) (h19 : g 88 19 = nI vn) (hd wt : Int32) : Ct l E 115 yX6_visit cX6_visit 3 (some .int) 3 [.ref (E.2.1 88), .int hd, .int wt] g (RFo o) z (Zi (RFo o) z (nvM g hn vn hd wt).1 (nvM g hn vn hd wt).2) := by
  refine Ct.of (lv0 := [(0, .ref (E.2.1 88)), (1, .int hd), (2, .int wt)]) (by decide) (Nat.le_of_ble_eq_true rfl) rfl ?_
  intro p e s m below meth c cx
  refine go_aload_n (pc' := 1) cx dX6_visit_0 rfl rfl ?_
  refine go_iload_n (pc' := 2) cx dX6_visit_1 rfl rfl ?_
  refine go_cVi (pc' := 5) cx (c_X6_isHand l E (g := g) (hn := hn) h15 (by omega) hd) mX6_isHand lX6_122 dX6_visit_2 kq88 (ltn rfl) (ltn rfl) rfl rfl rfl rfl (ltn rfl) (Nat.le_of_ble_eq_true rfl) (Nat.le_of_ble_eq_true rfl) rfl ?_
  refine go_if_eq (pc' := 8) cx 28 dX6_visit_5 rfl rfl (fun c5 => ?_) (fun c5 => ?_)
  · refine go_bipush (pc' := 30) cx (-2) dX6_visit_28 rfl rfl ?_
    refine go_iret cx rfl dX6_visit_30 ?_
    exact Zi.mk (by simp only [nvM, c5, if_true, if_false, not_true, not_false_eq_true]) (by simp only [nvM, c5, if_true, if_false, not_true, not_false_eq_true])
  · refine go_iload_n (pc' := 9) cx dX6_visit_8 rfl rfl ?_
    refine go_i2l (pc' := 10) cx dX6_visit_9 rfl ?_
    refine go_lconst (pc' := 11) cx 0 dX6_visit_10 rfl rfl ?_
    refine go_val (w := .long (((0 : Int32)).toInt64)) (congrArg Value.long (by decide)) ?_
    refine go_ldc2 (pc' := 14) cx 203 kX6_150 dX6_visit_11 rfl ?_
    refine go_val (w := .long (((203 : Int32)).toInt64)) (congrArg Value.long (by decide)) ?_
    refine go_cSi (pc' := 17) cx (c_X6_in l E (g := g) wt (0 : Int32) (203 : Int32)) mX6_in lX6_108 dX6_visit_14 rfl rfl rfl (ltn rfl) (Nat.le_of_ble_eq_true rfl) (Nat.le_of_ble_eq_true rfl) rfl ?_
    refine go_if_eq (pc' := 20) cx 28 dX6_visit_17 rfl rfl (fun c17 => ?_) (fun c17 => ?_)
    · refine go_bipush (pc' := 30) cx (-2) dX6_visit_28 rfl rfl ?_
      refine go_iret cx rfl dX6_visit_30 ?_
      exact Zi.mk (by simp only [nvM, c5, c17, if_true, if_false, not_true, not_false_eq_true]) (by simp only [nvM, c5, c17, if_true, if_false, not_true, not_false_eq_true])
    · refine go_iload_n (pc' := 21) cx dX6_visit_20 rfl rfl ?_
      refine go_bipush (pc' := 23) cx 10 dX6_visit_21 rfl rfl ?_
      refine go_irem (pc' := 24) cx (by decide) dX6_visit_23 rfl ?_
      refine go_iconst (pc' := 25) cx 4 dX6_visit_24 rfl rfl ?_
      refine go_icmp_lt (pc' := 28) cx 31 dX6_visit_25 rfl rfl (fun c25 => ?_) (fun c25 => ?_)
      · have c25n := Int32.not_le.mpr c25
        refine go_aload_n (pc' := 32) cx dX6_visit_31 rfl rfl ?_
        refine go_geti (pc' := 35) cx (nI vn) fX6_115 dX6_visit_32 kq88 (ltn rfl) (ltn rfl) rfl h19 rfl ?_
        refine go_bipush (pc' := 37) cx 8 dX6_visit_35 rfl rfl ?_
        refine go_icmp_ne (pc' := 40) cx 43 dX6_visit_37 rfl rfl (fun c37 => ?_) (fun c37 => ?_)
        · have hs9 : vn < 8 := lt_ne (b := 8) hvn (by omega) c37
          refine go_aload_n (pc' := 44) cx dX6_visit_43 rfl rfl ?_
          refine go_getr (pc' := 47) cx 99 fX6_47 dX6_visit_44 kq88 (ltn rfl) (ltn rfl) rfl rfl rfl ?_
          refine go_aload_n (pc' := 48) cx dX6_visit_47 rfl rfl ?_
          refine go_geti (pc' := 51) cx (nI vn) fX6_115 dX6_visit_48 kq88 (ltn rfl) (ltn rfl) rfl h19 rfl ?_
          refine go_iload_n (pc' := 52) cx dX6_visit_51 rfl rfl ?_
          refine go_iastk (pc' := 53) cx vn dX6_visit_52 kq99 (ltn rfl) (vpi (k := vn) (a := 8) (by omega) rfl rfl) (cli (k := vn) (a := 8) (by omega) rfl) rfl ?_
          refine go_aload_n (pc' := 54) cx dX6_visit_53 rfl rfl ?_
          refine go_getr (pc' := 57) cx 100 fX6_50 dX6_visit_54 kq88 (ltn rfl) (ltn rfl) rfl rfl rfl ?_
          refine go_aload_n (pc' := 58) cx dX6_visit_57 rfl rfl ?_
          refine go_geti (pc' := 61) cx (nI vn) fX6_115 dX6_visit_58 kq88 (ltn rfl) (ltn rfl) rfl ((up2_n g hd (Or.inl (Nat.ne_of_beq_eq_false rfl))).trans h19) rfl ?_
          refine go_iload_n (pc' := 62) cx dX6_visit_61 rfl rfl ?_
          refine go_bipush (pc' := 64) cx 10 dX6_visit_62 rfl rfl ?_
          refine go_idiv (pc' := 65) cx (by decide) dX6_visit_64 rfl ?_
          refine go_iastk (pc' := 66) cx vn dX6_visit_65 kq100 (ltn rfl) (vpi (k := vn) (a := 8) (by omega) rfl rfl) (cli (k := vn) (a := 8) (by omega) rfl) rfl ?_
          refine go_aload_n (pc' := 67) cx dX6_visit_66 rfl rfl ?_
          refine go_getr (pc' := 70) cx 101 fX6_53 dX6_visit_67 kq88 (ltn rfl) (ltn rfl) rfl rfl rfl ?_
          refine go_aload_n (pc' := 71) cx dX6_visit_70 rfl rfl ?_
          refine go_geti (pc' := 74) cx (nI vn) fX6_115 dX6_visit_71 kq88 (ltn rfl) (ltn rfl) rfl ((up2_n (up2 g 99 vn hd) (wt / 10) (Or.inl (Nat.ne_of_beq_eq_false rfl))).trans ((up2_n g hd (Or.inl (Nat.ne_of_beq_eq_false rfl))).trans h19)) rfl ?_
          refine go_iload_n (pc' := 75) cx dX6_visit_74 rfl rfl ?_
          refine go_bipush (pc' := 77) cx 10 dX6_visit_75 rfl rfl ?_
          refine go_irem (pc' := 78) cx (by decide) dX6_visit_77 rfl ?_
          refine go_iastk (pc' := 79) cx vn dX6_visit_78 kq101 (ltn rfl) (vpi (k := vn) (a := 8) (by omega) rfl rfl) (cli (k := vn) (a := 8) (by omega) rfl) rfl ?_
          refine go_aload_n (pc' := 80) cx dX6_visit_79 rfl rfl ?_
          refine go_dup (pc' := 81) cx rfl dX6_visit_80 rfl ?_
          refine go_geti (pc' := 84) cx (nI vn) fX6_115 dX6_visit_81 kq88 (ltn rfl) (ltn rfl) rfl ((up2_n (up2 (up2 g 99 vn hd) 100 vn (wt / 10)) (wt - wt / 10 * 10) (Or.inl (Nat.ne_of_beq_eq_false rfl))).trans ((up2_n (up2 g 99 vn hd) (wt / 10) (Or.inl (Nat.ne_of_beq_eq_false rfl))).trans ((up2_n g hd (Or.inl (Nat.ne_of_beq_eq_false rfl))).trans h19))) rfl ?_
          refine go_iconst (pc' := 85) cx 1 dX6_visit_84 rfl rfl ?_
          refine go_iadd (pc' := 86) cx dX6_visit_85 rfl ?_
          refine go_val (w := .int (nI (vn + 1))) (congrArg Value.int (nI_add vn 1)) ?_
          refine go_puti (pc' := 89) cx fX6_115 dX6_visit_86 kq88 (ltn rfl) (ltn rfl) rfl rfl rfl rfl ?_
          refine go_aload_n (pc' := 90) cx dX6_visit_89 rfl rfl ?_
          refine go_geti (pc' := 93) cx (nI (vn + 1)) fX6_115 dX6_visit_90 kq88 (ltn rfl) (ltn rfl) rfl (up2_s (up2 (up2 (up2 g 99 vn hd) 100 vn (wt / 10)) 101 vn (wt - wt / 10 * 10)) 88 19 (nI (vn + 1))) rfl ?_
          refine go_iconst (pc' := 94) cx 1 dX6_visit_93 rfl rfl ?_
          refine go_isub (pc' := 95) cx dX6_visit_94 rfl ?_
          refine go_val (w := .int (nI vn)) (congrArg Value.int (nI_pred vn)) ?_
          refine go_iret cx rfl dX6_visit_95 ?_
          have q25 : ¬ ¬ wt - wt / 10 * 10 < 4 := fun q => q c25
          exact Zi.mk (by simp only [nvM, c5, c17, q25, c37, if_true, if_false, not_true, not_false_eq_true]) (by simp only [nvM, c5, c17, q25, c37, if_true, if_false, not_true, not_false_eq_true])
        · refine go_bipush (pc' := 42) cx (-4) dX6_visit_40 rfl rfl ?_
          refine go_iret cx rfl dX6_visit_42 ?_
          have q25 : ¬ ¬ wt - wt / 10 * 10 < 4 := fun q => q c25
          exact Zi.mk (by simp only [nvM, c5, c17, q25, c37, if_true, if_false, not_true, not_false_eq_true]) (by simp only [nvM, c5, c17, q25, c37, if_true, if_false, not_true, not_false_eq_true])
      · have c25n := Int32.not_lt.mp c25
        refine go_bipush (pc' := 30) cx (-2) dX6_visit_28 rfl rfl ?_
        refine go_iret cx rfl dX6_visit_30 ?_
        exact Zi.mk (by simp only [nvM, c5, c17, c25, if_true, if_false, not_true, not_false_eq_true]) (by simp only [nvM, c5, c17, c25, if_true, if_false, not_true, not_false_eq_true])

set_option maxHeartbeats 1000000 in
set_option maxRecDepth 20000 in
theorem c_X6_hand (l : Launch) (E : Ev) {g : IG} {o : Option Nat} {z : Int64} {hn : Nat} (hhn : hn ≤ 5) (h15 : g 88 15 = nI hn) (ki wt wi : Int32) : Ct l E 115 yX6_hand cX6_hand 4 (some .int) 3 [.ref (E.2.1 88), .int ki, .int wt, .int wi] g (RFo o) z (Zi (RFo o) z (hdM g hn ki wt wi).1 (hdM g hn ki wt wi).2) := by
  refine Ct.of (lv0 := [(0, .ref (E.2.1 88)), (1, .int ki), (2, .int wt), (3, .int wi)]) (by decide) (Nat.le_of_ble_eq_true rfl) rfl ?_
  intro p e s m below meth c cx
  refine go_iload_n (pc' := 1) cx dX6_hand_0 rfl rfl ?_
  refine go_i2l (pc' := 2) cx dX6_hand_1 rfl ?_
  refine go_lconst (pc' := 3) cx 0 dX6_hand_2 rfl rfl ?_
  refine go_val (w := .long (((0 : Int32)).toInt64)) (congrArg Value.long (by decide)) ?_
  refine go_ldc2 (pc' := 6) cx 5 kX6_144 dX6_hand_3 rfl ?_
  refine go_val (w := .long (((5 : Int32)).toInt64)) (congrArg Value.long (by decide)) ?_
  refine go_cSi (pc' := 9) cx (c_X6_in l E (g := g) ki (0 : Int32) (5 : Int32)) mX6_in lX6_108 dX6_hand_6 rfl rfl rfl (ltn rfl) (Nat.le_of_ble_eq_true rfl) (Nat.le_of_ble_eq_true rfl) rfl ?_
  refine go_if_eq (pc' := 12) cx 45 dX6_hand_9 rfl rfl (fun c9 => ?_) (fun c9 => ?_)
  · refine go_bipush (pc' := 47) cx (-2) dX6_hand_45 rfl rfl ?_
    refine go_iret cx rfl dX6_hand_47 ?_
    exact Zi.mk (by simp only [hdM, c9, if_true, if_false, not_true, not_false_eq_true]) (by simp only [hdM, c9, if_true, if_false, not_true, not_false_eq_true])
  · refine go_iload_n (pc' := 13) cx dX6_hand_12 rfl rfl ?_
    refine go_i2l (pc' := 14) cx dX6_hand_13 rfl ?_
    refine go_lconst (pc' := 15) cx 0 dX6_hand_14 rfl rfl ?_
    refine go_val (w := .long (((0 : Int32)).toInt64)) (congrArg Value.long (by decide)) ?_
    refine go_ldc2 (pc' := 18) cx 910 kX6_146 dX6_hand_15 rfl ?_
    refine go_val (w := .long (((910 : Int32)).toInt64)) (congrArg Value.long (by decide)) ?_
    refine go_cSi (pc' := 21) cx (c_X6_in l E (g := g) wt (0 : Int32) (910 : Int32)) mX6_in lX6_108 dX6_hand_18 rfl rfl rfl (ltn rfl) (Nat.le_of_ble_eq_true rfl) (Nat.le_of_ble_eq_true rfl) rfl ?_
    refine go_if_eq (pc' := 24) cx 45 dX6_hand_21 rfl rfl (fun c21 => ?_) (fun c21 => ?_)
    · refine go_bipush (pc' := 47) cx (-2) dX6_hand_45 rfl rfl ?_
      refine go_iret cx rfl dX6_hand_47 ?_
      exact Zi.mk (by simp only [hdM, c9, c21, if_true, if_false, not_true, not_false_eq_true]) (by simp only [hdM, c9, c21, if_true, if_false, not_true, not_false_eq_true])
    · refine go_iload_n (pc' := 25) cx dX6_hand_24 rfl rfl ?_
      refine go_bipush (pc' := 27) cx 100 dX6_hand_25 rfl rfl ?_
      refine go_irem (pc' := 28) cx (by decide) dX6_hand_27 rfl ?_
      refine go_bipush (pc' := 30) cx 10 dX6_hand_28 rfl rfl ?_
      refine go_icmp_gt (pc' := 33) cx 45 dX6_hand_30 rfl rfl (fun c30 => ?_) (fun c30 => ?_)
      · have c30n := Int32.not_le.mpr c30
        refine go_bipush (pc' := 47) cx (-2) dX6_hand_45 rfl rfl ?_
        refine go_iret cx rfl dX6_hand_47 ?_
        exact Zi.mk (by simp only [hdM, c9, c21, c30, if_true, if_false, not_true, not_false_eq_true]) (by simp only [hdM, c9, c21, c30, if_true, if_false, not_true, not_false_eq_true])
      · have c30n := Int32.not_lt.mp c30
        refine go_iload_n (pc' := 34) cx dX6_hand_33 rfl rfl ?_
        refine go_i2l (pc' := 35) cx dX6_hand_34 rfl ?_
        refine go_lconst (pc' := 36) cx 0 dX6_hand_35 rfl rfl ?_
        refine go_val (w := .long (((0 : Int32)).toInt64)) (congrArg Value.long (by decide)) ?_
        refine go_ldc2 (pc' := 39) cx 199 kX6_148 dX6_hand_36 rfl ?_
        refine go_val (w := .long (((199 : Int32)).toInt64)) (congrArg Value.long (by decide)) ?_
        refine go_cSi (pc' := 42) cx (c_X6_in l E (g := g) wi (0 : Int32) (199 : Int32)) mX6_in lX6_108 dX6_hand_39 rfl rfl rfl (ltn rfl) (Nat.le_of_ble_eq_true rfl) (Nat.le_of_ble_eq_true rfl) rfl ?_
        refine go_if_ne (pc' := 45) cx 48 dX6_hand_42 rfl rfl (fun c42 => ?_) (fun c42 => ?_)
        · refine go_aload_n (pc' := 49) cx dX6_hand_48 rfl rfl ?_
          refine go_geti (pc' := 52) cx (nI hn) fX6_112 dX6_hand_49 kq88 (ltn rfl) (ltn rfl) rfl h15 rfl ?_
          refine go_iconst (pc' := 53) cx 5 dX6_hand_52 rfl rfl ?_
          refine go_icmp_ne (pc' := 56) cx 59 dX6_hand_53 rfl rfl (fun c53 => ?_) (fun c53 => ?_)
          · have hs9 : hn < 5 := lt_ne (b := 5) hhn (by omega) c53
            refine go_aload_n (pc' := 60) cx dX6_hand_59 rfl rfl ?_
            refine go_getr (pc' := 63) cx 95 fX6_35 dX6_hand_60 kq88 (ltn rfl) (ltn rfl) rfl rfl rfl ?_
            refine go_aload_n (pc' := 64) cx dX6_hand_63 rfl rfl ?_
            refine go_geti (pc' := 67) cx (nI hn) fX6_112 dX6_hand_64 kq88 (ltn rfl) (ltn rfl) rfl h15 rfl ?_
            refine go_iload_n (pc' := 68) cx dX6_hand_67 rfl rfl ?_
            refine go_iastk (pc' := 69) cx hn dX6_hand_68 kq95 (ltn rfl) (vpi (k := hn) (a := 5) (by omega) rfl rfl) (cli (k := hn) (a := 5) (by omega) rfl) rfl ?_
            refine go_aload_n (pc' := 70) cx dX6_hand_69 rfl rfl ?_
            refine go_getr (pc' := 73) cx 96 fX6_38 dX6_hand_70 kq88 (ltn rfl) (ltn rfl) rfl rfl rfl ?_
            refine go_aload_n (pc' := 74) cx dX6_hand_73 rfl rfl ?_
            refine go_geti (pc' := 77) cx (nI hn) fX6_112 dX6_hand_74 kq88 (ltn rfl) (ltn rfl) rfl ((up2_n g ki (Or.inl (Nat.ne_of_beq_eq_false rfl))).trans h15) rfl ?_
            refine go_iload_n (pc' := 78) cx dX6_hand_77 rfl rfl ?_
            refine go_bipush (pc' := 80) cx 100 dX6_hand_78 rfl rfl ?_
            refine go_idiv (pc' := 81) cx (by decide) dX6_hand_80 rfl ?_
            refine go_iastk (pc' := 82) cx hn dX6_hand_81 kq96 (ltn rfl) (vpi (k := hn) (a := 5) (by omega) rfl rfl) (cli (k := hn) (a := 5) (by omega) rfl) rfl ?_
            refine go_aload_n (pc' := 83) cx dX6_hand_82 rfl rfl ?_
            refine go_getr (pc' := 86) cx 97 fX6_41 dX6_hand_83 kq88 (ltn rfl) (ltn rfl) rfl rfl rfl ?_
            refine go_aload_n (pc' := 87) cx dX6_hand_86 rfl rfl ?_
            refine go_geti (pc' := 90) cx (nI hn) fX6_112 dX6_hand_87 kq88 (ltn rfl) (ltn rfl) rfl ((up2_n (up2 g 95 hn ki) (wt / 100) (Or.inl (Nat.ne_of_beq_eq_false rfl))).trans ((up2_n g ki (Or.inl (Nat.ne_of_beq_eq_false rfl))).trans h15)) rfl ?_
            refine go_iload_n (pc' := 91) cx dX6_hand_90 rfl rfl ?_
            refine go_bipush (pc' := 93) cx 100 dX6_hand_91 rfl rfl ?_
            refine go_irem (pc' := 94) cx (by decide) dX6_hand_93 rfl ?_
            refine go_iastk (pc' := 95) cx hn dX6_hand_94 kq97 (ltn rfl) (vpi (k := hn) (a := 5) (by omega) rfl rfl) (cli (k := hn) (a := 5) (by omega) rfl) rfl ?_
            refine go_aload_n (pc' := 96) cx dX6_hand_95 rfl rfl ?_
            refine go_getr (pc' := 99) cx 98 fX6_44 dX6_hand_96 kq88 (ltn rfl) (ltn rfl) rfl rfl rfl ?_
            refine go_aload_n (pc' := 100) cx dX6_hand_99 rfl rfl ?_
            refine go_geti (pc' := 103) cx (nI hn) fX6_112 dX6_hand_100 kq88 (ltn rfl) (ltn rfl) rfl ((up2_n (up2 (up2 g 95 hn ki) 96 hn (wt / 100)) (wt - wt / 100 * 100) (Or.inl (Nat.ne_of_beq_eq_false rfl))).trans ((up2_n (up2 g 95 hn ki) (wt / 100) (Or.inl (Nat.ne_of_beq_eq_false rfl))).trans ((up2_n g ki (Or.inl (Nat.ne_of_beq_eq_false rfl))).trans h15))) rfl ?_
            refine go_iload_n (pc' := 104) cx dX6_hand_103 rfl rfl ?_
            refine go_iastk (pc' := 105) cx hn dX6_hand_104 kq98 (ltn rfl) (vpi (k := hn) (a := 5) (by omega) rfl rfl) (cli (k := hn) (a := 5) (by omega) rfl) rfl ?_
            refine go_aload_n (pc' := 106) cx dX6_hand_105 rfl rfl ?_
            refine go_dup (pc' := 107) cx rfl dX6_hand_106 rfl ?_
            refine go_geti (pc' := 110) cx (nI hn) fX6_112 dX6_hand_107 kq88 (ltn rfl) (ltn rfl) rfl ((up2_n (up2 (up2 (up2 g 95 hn ki) 96 hn (wt / 100)) 97 hn (wt - wt / 100 * 100)) wi (Or.inl (Nat.ne_of_beq_eq_false rfl))).trans ((up2_n (up2 (up2 g 95 hn ki) 96 hn (wt / 100)) (wt - wt / 100 * 100) (Or.inl (Nat.ne_of_beq_eq_false rfl))).trans ((up2_n (up2 g 95 hn ki) (wt / 100) (Or.inl (Nat.ne_of_beq_eq_false rfl))).trans ((up2_n g ki (Or.inl (Nat.ne_of_beq_eq_false rfl))).trans h15)))) rfl ?_
            refine go_iconst (pc' := 111) cx 1 dX6_hand_110 rfl rfl ?_
            refine go_iadd (pc' := 112) cx dX6_hand_111 rfl ?_
            refine go_val (w := .int (nI (hn + 1))) (congrArg Value.int (nI_add hn 1)) ?_
            refine go_puti (pc' := 115) cx fX6_112 dX6_hand_112 kq88 (ltn rfl) (ltn rfl) rfl rfl rfl rfl ?_
            refine go_aload_n (pc' := 116) cx dX6_hand_115 rfl rfl ?_
            refine go_geti (pc' := 119) cx (nI (hn + 1)) fX6_112 dX6_hand_116 kq88 (ltn rfl) (ltn rfl) rfl (up2_s (up2 (up2 (up2 (up2 g 95 hn ki) 96 hn (wt / 100)) 97 hn (wt - wt / 100 * 100)) 98 hn wi) 88 15 (nI (hn + 1))) rfl ?_
            refine go_iconst (pc' := 120) cx 1 dX6_hand_119 rfl rfl ?_
            refine go_isub (pc' := 121) cx dX6_hand_120 rfl ?_
            refine go_val (w := .int (nI hn)) (congrArg Value.int (nI_pred hn)) ?_
            refine go_iret cx rfl dX6_hand_121 ?_
            exact Zi.mk (by simp only [hdM, c9, c21, c30, c42, c53, if_true, if_false, not_true, not_false_eq_true]) (by simp only [hdM, c9, c21, c30, c42, c53, if_true, if_false, not_true, not_false_eq_true])
          · refine go_bipush (pc' := 58) cx (-4) dX6_hand_56 rfl rfl ?_
            refine go_iret cx rfl dX6_hand_58 ?_
            exact Zi.mk (by simp only [hdM, c9, c21, c30, c42, c53, if_true, if_false, not_true, not_false_eq_true]) (by simp only [hdM, c9, c21, c30, c42, c53, if_true, if_false, not_true, not_false_eq_true])
        · refine go_bipush (pc' := 47) cx (-2) dX6_hand_45 rfl rfl ?_
          refine go_iret cx rfl dX6_hand_47 ?_
          exact Zi.mk (by simp only [hdM, c9, c21, c30, c42, if_true, if_false, not_true, not_false_eq_true]) (by simp only [hdM, c9, c21, c30, c42, if_true, if_false, not_true, not_false_eq_true])
