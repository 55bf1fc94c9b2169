/-! THE REFERENCE: atoms -/
theorem le_kd2 {T : Nat → Int32} {sz : Nat} {S : PS} (ht : S.2.2.1 = (tokS T sz S.2.1 (-1)).2.2.1) (hk : kdT T sz S.2.1 = 2) : S.2.2.1 ≤ 10005 ∧ ¬ 10000 ≤ S.2.2.1 := by
  rcases tk_all (T := T) (sz := sz) (s := S.2.1) with r | r | ⟨-, -, v, hv, e⟩ | r | r
  · rw [hk] at r; exact absurd r.1 (by decide)
  · rw [hk] at r; exact absurd r.1 (by decide)
  · rw [ht, e]
    exact ⟨(nI_leI (b := 10005) (by omega) (by omega)).mpr (by omega), fun q => by
      have := (nI_leI (a := 10000) (b := v) (by omega) (by omega)).mp q
      omega⟩
  · rw [hk] at r; exact absurd r.1 (by decide)
  · rw [hk] at r; exact absurd r.1 (by decide)
theorem gt_kd {T : Nat → Int32} {sz : Nat} {S : PS} (ht : S.2.2.1 = (tokS T sz S.2.1 (-1)).2.2.1) (h2 : ¬ kdT T sz S.2.1 = 2) (h1 : ¬ kdT T sz S.2.1 = 1) : ¬ S.2.2.1 ≤ 10005 := by
  rw [ht]
  rcases tk_all (T := T) (sz := sz) (s := S.2.1) with ⟨-, -, e⟩ | r | r | ⟨-, -, h3, e⟩ | ⟨-, -, e⟩
  · rw [e]; decide
  · exact absurd r.1 h1
  · exact absurd r.1 h2
  · rw [e]
    rcases sgn_c (x := T S.2.1) with ⟨c, p⟩ | ⟨c, p⟩ | ⟨c, p⟩ | ⟨c, p⟩ | ⟨c, p⟩ | ⟨c, p⟩ | ⟨c, p⟩ | ⟨c, p⟩ | p
    all_goals (rw [p]; decide)
  · rw [e]; decide
theorem nm_ge {T : Nat → Int32} {sz : Nat} {S : PS} (hk : kdT T sz S.2.1 = 1) (ht : S.2.2.1 = (tokS T sz S.2.1 (-1)).2.2.1) : 10000 ≤ S.2.2.1 := by
  rw [ht]
  rcases tk_all (T := T) (sz := sz) (s := S.2.1) with r | ⟨-, -, -, -, e⟩ | r | r | r
  · rw [hk] at r; exact absurd r.1 (by decide)
  · rw [e]
    rcases wcL_cases (T := T) (s := S.2.1) (len := skL T (sz - S.2.1) S.2.1 - S.2.1) 12 0 with q | ⟨j, -, hj, q, -⟩
    · rw [q]; decide
    · rw [q]
      exact (nI_leI (a := 10000) (b := 10000 + j) (by omega) (by omega)).mpr (by omega)
  · rw [hk] at r; exact absurd r.1 (by decide)
  · rw [hk] at r; exact absurd r.1 (by decide)
  · rw [hk] at r; exact absurd r.1 (by decide)
theorem tk_32 {x : Int32} {z : Int64} (h : z = x.toInt64) : x = z.toInt32 := by
  rw [h]
  simp

theorem c_isWordF_0 (l : Launch) (E : Ev) {g0 g : IG} {o : Option Nat} {z : Int64} {fr sz K : Nat} {R : Nat → Int32} {S : PS} (hC : MCx g0 fr sz R) (hM : MdS g0 fr sz R K S g z)  (hf : S.2.2.1 = 10022) : Ct l E 115 yX6_isWord cX6_isWord 9 (some .boolean) 3 [.ref (E.2.1 88), .int 108, .int 101, .int 110, .int 103, .int 116, .int 104, .int 0, .int 0] g (RFo o) z (Zi (RFo o) z 0 g) := by
  have h := c_isWord_0 l E (o := o) hC hM
  rw [hf, if_neg (by decide)] at h
  exact h
theorem c_isWordF_1 (l : Launch) (E : Ev) {g0 g : IG} {o : Option Nat} {z : Int64} {fr sz K : Nat} {R : Nat → Int32} {S : PS} (hC : MCx g0 fr sz R) (hM : MdS g0 fr sz R K S g z)  (hf : S.2.2.1 = 10022) : Ct l E 115 yX6_isWord cX6_isWord 9 (some .boolean) 3 [.ref (E.2.1 88), .int 108, .int 97, .int 115, .int 116, .int 0, .int 0, .int 0, .int 0] g (RFo o) z (Zi (RFo o) z 0 g) := by
  have h := c_isWord_1 l E (o := o) hC hM
  rw [hf, if_neg (by decide)] at h
  exact h
theorem c_isWordF_2 (l : Launch) (E : Ev) {g0 g : IG} {o : Option Nat} {z : Int64} {fr sz K : Nat} {R : Nat → Int32} {S : PS} (hC : MCx g0 fr sz R) (hM : MdS g0 fr sz R K S g z)  (hf : S.2.2.1 = 10022) : Ct l E 115 yX6_isWord cX6_isWord 9 (some .boolean) 3 [.ref (E.2.1 88), .int 119, .int 97, .int 110, .int 116, .int 0, .int 0, .int 0, .int 0] g (RFo o) z (Zi (RFo o) z 0 g) := by
  have h := c_isWord_2 l E (o := o) hC hM
  rw [hf, if_neg (by decide)] at h
  exact h
theorem c_isWordF_3 (l : Launch) (E : Ev) {g0 g : IG} {o : Option Nat} {z : Int64} {fr sz K : Nat} {R : Nat → Int32} {S : PS} (hC : MCx g0 fr sz R) (hM : MdS g0 fr sz R K S g z)  (hf : S.2.2.1 = 10022) : Ct l E 115 yX6_isWord cX6_isWord 9 (some .boolean) 3 [.ref (E.2.1 88), .int 119, .int 101, .int 101, .int 107, .int 115, .int 0, .int 0, .int 0] g (RFo o) z (Zi (RFo o) z 0 g) := by
  have h := c_isWord_3 l E (o := o) hC hM
  rw [hf, if_neg (by decide)] at h
  exact h
theorem c_isWordF_4 (l : Launch) (E : Ev) {g0 g : IG} {o : Option Nat} {z : Int64} {fr sz K : Nat} {R : Nat → Int32} {S : PS} (hC : MCx g0 fr sz R) (hM : MdS g0 fr sz R K S g z)  (hf : S.2.2.1 = 10022) : Ct l E 115 yX6_isWord cX6_isWord 9 (some .boolean) 3 [.ref (E.2.1 88), .int 112, .int 108, .int 97, .int 99, .int 101, .int 0, .int 0, .int 0] g (RFo o) z (Zi (RFo o) z 0 g) := by
  have h := c_isWord_4 l E (o := o) hC hM
  rw [hf, if_neg (by decide)] at h
  exact h
theorem c_isWordF_5 (l : Launch) (E : Ev) {g0 g : IG} {o : Option Nat} {z : Int64} {fr sz K : Nat} {R : Nat → Int32} {S : PS} (hC : MCx g0 fr sz R) (hM : MdS g0 fr sz R K S g z)  (hf : S.2.2.1 = 10022) : Ct l E 115 yX6_isWord cX6_isWord 9 (some .boolean) 3 [.ref (E.2.1 88), .int 104, .int 97, .int 110, .int 100, .int 0, .int 0, .int 0, .int 0] g (RFo o) z (Zi (RFo o) z 0 g) := by
  have h := c_isWord_5 l E (o := o) hC hM
  rw [hf, if_neg (by decide)] at h
  exact h
theorem c_isWordF_6 (l : Launch) (E : Ev) {g0 g : IG} {o : Option Nat} {z : Int64} {fr sz K : Nat} {R : Nat → Int32} {S : PS} (hC : MCx g0 fr sz R) (hM : MdS g0 fr sz R K S g z)  (hf : S.2.2.1 = 10022) : Ct l E 115 yX6_isWord cX6_isWord 9 (some .boolean) 3 [.ref (E.2.1 88), .int 103, .int 114, .int 111, .int 119, .int 115, .int 0, .int 0, .int 0] g (RFo o) z (Zi (RFo o) z 0 g) := by
  have h := c_isWord_6 l E (o := o) hC hM
  rw [hf, if_neg (by decide)] at h
  exact h
theorem c_isWordF_7 (l : Launch) (E : Ev) {g0 g : IG} {o : Option Nat} {z : Int64} {fr sz K : Nat} {R : Nat → Int32} {S : PS} (hC : MCx g0 fr sz R) (hM : MdS g0 fr sz R K S g z)  (hf : S.2.2.1 = 10022) : Ct l E 115 yX6_isWord cX6_isWord 9 (some .boolean) 3 [.ref (E.2.1 88), .int 101, .int 118, .int 101, .int 110, .int 115, .int 0, .int 0, .int 0] g (RFo o) z (Zi (RFo o) z 0 g) := by
  have h := c_isWord_7 l E (o := o) hC hM
  rw [hf, if_neg (by decide)] at h
  exact h
theorem c_isWordF_8 (l : Launch) (E : Ev) {g0 g : IG} {o : Option Nat} {z : Int64} {fr sz K : Nat} {R : Nat → Int32} {S : PS} (hC : MCx g0 fr sz R) (hM : MdS g0 fr sz R K S g z)  (hf : S.2.2.1 = 10022) : Ct l E 115 yX6_isWord cX6_isWord 9 (some .boolean) 3 [.ref (E.2.1 88), .int 109, .int 105, .int 110, .int 100, .int 115, .int 0, .int 0, .int 0] g (RFo o) z (Zi (RFo o) z 0 g) := by
  have h := c_isWord_8 l E (o := o) hC hM
  rw [hf, if_neg (by decide)] at h
  exact h
theorem c_isWordF_9 (l : Launch) (E : Ev) {g0 g : IG} {o : Option Nat} {z : Int64} {fr sz K : Nat} {R : Nat → Int32} {S : PS} (hC : MCx g0 fr sz R) (hM : MdS g0 fr sz R K S g z)  (hf : S.2.2.1 = 10022) : Ct l E 115 yX6_isWord cX6_isWord 9 (some .boolean) 3 [.ref (E.2.1 88), .int 111, .int 114, .int 0, .int 0, .int 0, .int 0, .int 0, .int 0] g (RFo o) z (Zi (RFo o) z 0 g) := by
  have h := c_isWord_9 l E (o := o) hC hM
  rw [hf, if_neg (by decide)] at h
  exact h
theorem c_isWordF_10 (l : Launch) (E : Ev) {g0 g : IG} {o : Option Nat} {z : Int64} {fr sz K : Nat} {R : Nat → Int32} {S : PS} (hC : MCx g0 fr sz R) (hM : MdS g0 fr sz R K S g z)  (hf : S.2.2.1 = 10022) : Ct l E 115 yX6_isWord cX6_isWord 9 (some .boolean) 3 [.ref (E.2.1 88), .int 97, .int 110, .int 100, .int 0, .int 0, .int 0, .int 0, .int 0] g (RFo o) z (Zi (RFo o) z 0 g) := by
  have h := c_isWord_10 l E (o := o) hC hM
  rw [hf, if_neg (by decide)] at h
  exact h
theorem c_isWordF_11 (l : Launch) (E : Ev) {g0 g : IG} {o : Option Nat} {z : Int64} {fr sz K : Nat} {R : Nat → Int32} {S : PS} (hC : MCx g0 fr sz R) (hM : MdS g0 fr sz R K S g z)  (hf : S.2.2.1 = 10022) : Ct l E 115 yX6_isWord cX6_isWord 9 (some .boolean) 3 [.ref (E.2.1 88), .int 110, .int 111, .int 116, .int 0, .int 0, .int 0, .int 0, .int 0] g (RFo o) z (Zi (RFo o) z 0 g) := by
  have h := c_isWord_11 l E (o := o) hC hM
  rw [hf, if_neg (by decide)] at h
  exact h
set_option maxHeartbeats 1000000 in
set_option maxRecDepth 20000 in
theorem c_X6_atom0 (l : Launch) (E : Ev) {g0 : IG} {o : Option Nat} {fr sz : Nat} {R : Nat → Int32} (hC : MCx g0 fr sz R) {F1 F2 : PF} (hP1 : Pp (mT R fr) sz F1) (hP2 : Pp (mT R fr) sz F2) {D D1 D2 d d1 d2 : Nat} (hD : 1 ≤ D) (hD1 : D1 ≤ D) (hD2 : D2 ≤ D) (hd : 5 ≤ d) (hd1 : d1 ≤ d) (hd2 : d2 ≤ d) (hC1 : McC l E o g0 fr sz R 1 yX6_atom1 cX6_atom1 2 d1 F1 D1) (hC2 : McC l E o g0 fr sz R 1 yX6_either1 cX6_either1 3 d2 F2 D2)  : McC l E o g0 fr sz R 0 yX6_atom0 cX6_atom0 2 (d + 1) (onS (advS (mT R fr) sz) F1 F2) D := by
  intro S g z hM
  refine Ct.of (lv0 := [(0, .ref (E.2.1 88))]) (by decide) (Nat.le_of_ble_eq_true rfl) rfl ?_
  intro p e s m below meth c cx
  obtain ⟨hfr, hsz, h26, h27, h89, hT0⟩ := id hC
  by_cases hu : S.2.2.2 = -1
  · obtain ⟨hu1, hu2, hu3, hu4, hu5, hu6⟩ := hM.un hu
    obtain ⟨ht1, ht2, ht3⟩ := hM.tk hu
    refine go_iconst (pc' := 1) cx 0 dX6_atom0_0 rfl rfl ?_
    refine go_istore_n (pc' := 2) cx dX6_atom0_1 (ltn rfl) [(1, .int 0), (0, .ref (E.2.1 88))] rfl rfl ?_
    refine go_aload_n (pc' := 3) cx dX6_atom0_2 rfl rfl ?_
    refine go_bipush (pc' := 5) cx 45 dX6_atom0_3 rfl rfl ?_
    refine go_cVi (pc' := 8) cx (c_isSign_45 l E hC hM) mX6_isSign lX6_231 dX6_atom0_5 kq88 (ltn rfl) (ltn rfl) rfl rfl rfl rfl (by omega) (Nat.le_of_ble_eq_true rfl) (Nat.le_of_ble_eq_true rfl) rfl ?_
    refine go_if_eq (pc' := 11) cx 37 dX6_atom0_8 rfl rfl (fun c8 => ?_) (fun c8 => ?_)
    · refine go_aload_n (pc' := 38) cx dX6_atom0_37 rfl rfl ?_
      refine go_bipush (pc' := 40) cx 40 dX6_atom0_38 rfl rfl ?_
      refine go_cVi (pc' := 43) cx (c_isSign_40 l E hC hM) mX6_isSign lX6_231 dX6_atom0_40 kq88 (ltn rfl) (ltn rfl) rfl rfl rfl rfl (by omega) (Nat.le_of_ble_eq_true rfl) (Nat.le_of_ble_eq_true rfl) rfl ?_
      refine go_if_eq (pc' := 46) cx 95 dX6_atom0_43 rfl rfl (fun c43 => ?_) (fun c43 => ?_)
      · refine go_aload_n (pc' := 96) cx dX6_atom0_95 rfl rfl ?_
        refine go_geti (pc' := 99) cx 0 fX6_190 dX6_atom0_96 kq88 (ltn rfl) (ltn rfl) rfl ((hM).un hu).1 rfl ?_
        refine go_if_ne (pc' := 102) cx 123 dX6_atom0_99 rfl rfl (fun hh => absurd hh (by decide)) (fun _ => ?_)
        refine go_aload_n (pc' := 103) cx dX6_atom0_102 rfl rfl ?_
        refine go_geti (pc' := 106) cx (kdT (mT R fr) sz S.2.1) fX6_175 dX6_atom0_103 kq88 (ltn rfl) (ltn rfl) rfl ((hM).un hu).2.2.1 rfl ?_
        refine go_iconst (pc' := 107) cx 2 dX6_atom0_106 rfl rfl ?_
        refine go_icmp_ne (pc' := 110) cx 123 dX6_atom0_107 rfl rfl (fun c107 => ?_) (fun c107 => ?_)
        · refine go_aload_n (pc' := 124) cx dX6_atom0_123 rfl rfl ?_
          refine go_geti (pc' := 127) cx 0 fX6_190 dX6_atom0_124 kq88 (ltn rfl) (ltn rfl) rfl ((hM).un hu).1 rfl ?_
          refine go_if_ne (pc' := 130) cx 157 dX6_atom0_127 rfl rfl (fun hh => absurd hh (by decide)) (fun _ => ?_)
          refine go_aload_n (pc' := 131) cx dX6_atom0_130 rfl rfl ?_
          refine go_geti (pc' := 134) cx (kdT (mT R fr) sz S.2.1) fX6_175 dX6_atom0_131 kq88 (ltn rfl) (ltn rfl) rfl ((hM).un hu).2.2.1 rfl ?_
          refine go_iconst (pc' := 135) cx 1 dX6_atom0_134 rfl rfl ?_
          refine go_icmp_ne (pc' := 138) cx 157 dX6_atom0_135 rfl rfl (fun c135 => ?_) (fun c135 => ?_)
          · refine go_aload_n (pc' := 158) cx dX6_atom0_157 rfl rfl ?_
            refine go_cVV (pc' := 161) cx (c_X6_fail l E hC hM) mX6_fail lX6_203 dX6_atom0_158 kq88 (ltn rfl) (ltn rfl) rfl rfl rfl rfl (by omega) (Nat.le_of_ble_eq_true rfl) (Nat.le_of_ble_eq_true rfl) rfl (fun G_1 mG_1 => ?_)
            refine go_iload_n (pc' := 162) cx dX6_atom0_161 rfl rfl ?_
            refine go_iret cx rfl dX6_atom0_162 ?_
            have e9 : onS (advS (mT R fr) sz) F1 F2 S = (refS S, []) := by
              unfold onS
              rw [if_neg (show ¬ S.2.2.1 ≤ 10005 by exact gt_kd ht1 c107 c135), if_neg (zero_of c8), if_neg (zero_of c43)]
            exact ZIz.mk ⟨by rw [e9]; exact mG_1, fun q9 => absurd (by rw [e9] at q9; exact q9) (ref_W hsz hM.2.2.1).2.2.1⟩
          · refine go_aload_n (pc' := 139) cx dX6_atom0_138 rfl rfl ?_
            refine go_cVI (pc' := 142) cx (c_X6_name l E hC hM hu c135) mX6_name lX6_238 dX6_atom0_139 kq88 (ltn rfl) (ltn rfl) rfl rfl rfl rfl (by omega) (Nat.le_of_ble_eq_true rfl) (Nat.le_of_ble_eq_true rfl) rfl (fun x9 G9 h9 => ?_)
            rcases h9 with ⟨n1, n2, n3⟩ | ⟨n1, n3⟩
            · refine go_istore_n (pc' := 143) cx dX6_atom0_142 (ltn rfl) [(1, .int x9), (0, .ref (E.2.1 88))] rfl rfl ?_
              refine go_aload_n (pc' := 144) cx dX6_atom0_143 rfl rfl ?_
              refine go_geti (pc' := 147) cx 0 fX6_190 dX6_atom0_144 kq88 (ltn rfl) (ltn rfl) rfl ((n3).un hu).1 rfl ?_
              refine go_if_ne (pc' := 150) cx 161 dX6_atom0_147 rfl rfl (fun hh => absurd hh (by decide)) (fun _ => ?_)
              refine go_aload_n (pc' := 151) cx dX6_atom0_150 rfl rfl ?_
              have aG_2 := adv_W n3.2.2.1 hu
              refine go_cVVz (pc' := 154) cx (c_nextM l E hC n3 hu (fun q9 => absurd (q9 ▸ n1) (by decide))) mX6_next lX6_206 dX6_atom0_151 kq88 (ltn rfl) (ltn rfl) rfl rfl rfl rfl (by omega) (Nat.le_of_ble_eq_true rfl) (Nat.le_of_ble_eq_true rfl) rfl (fun G_2 z_3 mG_2 => ?_)
              refine go_goto cx 161 dX6_atom0_154 rfl ?_
              refine go_iload_n (pc' := 162) cx dX6_atom0_161 rfl rfl ?_
              refine go_iret cx rfl dX6_atom0_162 ?_
              have e9 : onS (advS (mT R fr) sz) F1 F2 S = ((advS (mT R fr) sz) S, [S.2.2.1]) := by
                unfold onS
                rw [if_pos n1]
              exact ZIz.mk ⟨by rw [e9]; exact mG_2, fun q9 => by rw [e9]; have g9 := GC_leaf (ev := evM g0) n1; rw [if_pos (nm_ge c135 ht1)] at g9; rw [n2]; exact g9.mono hD⟩
            · refine go_istore_n (pc' := 143) cx dX6_atom0_142 (ltn rfl) [(1, .int x9), (0, .ref (E.2.1 88))] rfl rfl ?_
              refine go_aload_n (pc' := 144) cx dX6_atom0_143 rfl rfl ?_
              refine go_geti (pc' := 147) cx 1 fX6_190 dX6_atom0_144 kq88 (ltn rfl) (ltn rfl) rfl ((n3).bd (ref_W hsz hM.2.2.1).2.2.1).1 rfl ?_
              refine go_if_ne (pc' := 150) cx 161 dX6_atom0_147 rfl rfl (fun _ => ?_) (fun hh => absurd hh (by decide))
              refine go_iload_n (pc' := 162) cx dX6_atom0_161 rfl rfl ?_
              refine go_iret cx rfl dX6_atom0_162 ?_
              have e9 : onS (advS (mT R fr) sz) F1 F2 S = (refS S, []) := by
                unfold onS
                rw [if_neg (show ¬ S.2.2.1 ≤ 10005 by exact n1), if_neg (zero_of c8), if_neg (zero_of c43)]
              exact ZIz.mk ⟨by rw [e9]; exact n3, fun q9 => absurd (by rw [e9] at q9; exact q9) (ref_W hsz hM.2.2.1).2.2.1⟩
        · obtain ⟨hle9, hnk9⟩ := le_kd2 ht1 c107
          refine go_aload_n (pc' := 111) cx dX6_atom0_110 rfl rfl ?_
          refine go_getl (N := 56) (pc' := 114) cx fX6_186 dX6_atom0_111 (ltn rfl) rfl ?_
          refine go_l2i (pc' := 115) cx dX6_atom0_114 rfl ?_
          refine go_istore_n (pc' := 116) cx dX6_atom0_115 (ltn rfl) [(1, .int z.toInt32), (0, .ref (E.2.1 88))] rfl rfl ?_
          refine go_aload_n (pc' := 117) cx dX6_atom0_116 rfl rfl ?_
          have aG_4 := adv_W hM.2.2.1 hu
          refine go_cVVz (pc' := 120) cx (c_nextM l E hC hM hu (fun q9 => absurd (q9 ▸ hle9) (by decide))) mX6_next lX6_206 dX6_atom0_117 kq88 (ltn rfl) (ltn rfl) rfl rfl rfl rfl (by omega) (Nat.le_of_ble_eq_true rfl) (Nat.le_of_ble_eq_true rfl) rfl (fun G_4 z_5 mG_4 => ?_)
          refine go_goto cx 161 dX6_atom0_120 rfl ?_
          refine go_iload_n (pc' := 162) cx dX6_atom0_161 rfl rfl ?_
          refine go_iret cx rfl dX6_atom0_162 ?_
          have e9 : onS (advS (mT R fr) sz) F1 F2 S = ((advS (mT R fr) sz) S, [S.2.2.1]) := by
            unfold onS
            rw [if_pos hle9]
          exact ZIz.mk ⟨by rw [e9]; exact mG_4, fun q9 => by rw [e9]; have g9 := GC_leaf (ev := evM g0) hle9; rw [if_neg hnk9] at g9; exact (tk_32 (hu5 c107)) ▸ (g9.mono hD)⟩
      · have tc43 : S.2.2.1 = 10012 := one_of c43
        have utc43 := hM.2.2.1.un (by rw [tc43]; decide)
        refine go_aload_n (pc' := 47) cx dX6_atom0_46 rfl rfl ?_
        have aG_6 := adv_W (hM).2.2.1 utc43
        refine go_cVIz (pc' := 50) cx (c_X6_opens l E hC hM utc43 (by rw [tc43]; decide) (by omega)) mX6_opens lX6_234 dX6_atom0_47 kq88 (ltn rfl) (ltn rfl) rfl rfl rfl rfl (by omega) (Nat.le_of_ble_eq_true rfl) (Nat.le_of_ble_eq_true rfl) rfl (fun w_8 G_6 z_7 hG_6 => ?_)
        obtain ⟨eG_6, mG_6⟩ := hG_6
        subst eG_6
        refine go_if_eq (pc' := 53) cx 161 dX6_atom0_50 rfl rfl (fun hh => absurd hh (by decide)) (fun _ => ?_)
        refine go_aload_n (pc' := 54) cx dX6_atom0_53 rfl rfl ?_
        refine go_cVIz (pc' := 57) cx (hC2 (advS (mT R fr) sz S) G_6 z_7 mG_6) mX6_either1 lX6_333 dX6_atom0_54 kq88 (ltn rfl) (ltn rfl) rfl rfl rfl rfl (by omega) (Nat.le_of_ble_eq_true rfl) (Nat.le_of_ble_eq_true rfl) rfl (fun w_11 G_9 z_10 hG_9 => ?_)
        obtain ⟨mG_9, vG_9⟩ := hG_9
        refine go_istore_n (pc' := 58) cx dX6_atom0_57 (ltn rfl) [(1, .int w_11), (0, .ref (E.2.1 88))] rfl rfl ?_
        refine go_aload_n (pc' := 59) cx dX6_atom0_58 rfl rfl ?_
        refine go_bipush (pc' := 61) cx 41 dX6_atom0_59 rfl rfl ?_
        refine go_cVi (pc' := 64) cx (c_isSign_41 l E hC mG_9) mX6_isSign lX6_231 dX6_atom0_61 kq88 (ltn rfl) (ltn rfl) rfl rfl rfl rfl (by omega) (Nat.le_of_ble_eq_true rfl) (Nat.le_of_ble_eq_true rfl) rfl ?_
        refine go_if_ne (pc' := 67) cx 71 dX6_atom0_64 rfl rfl (fun c64 => ?_) (fun c64 => ?_)
        · have tc64G_9 : ((F2 (advS (mT R fr) sz S)).1).2.2.1 = 10013 := one_of c64
          have utc64G_9 := (mG_9).2.2.1.un (by rw [tc64G_9]; decide)
          refine go_aload_n (pc' := 72) cx dX6_atom0_71 rfl rfl ?_
          refine go_dup (pc' := 73) cx rfl dX6_atom0_72 rfl ?_
          refine go_geti (pc' := 76) cx (nI (0 + 1)) fX6_200 dX6_atom0_73 kq88 (ltn rfl) (ltn rfl) rfl (mG_9).2.1 rfl ?_
          refine go_iconst (pc' := 77) cx 1 dX6_atom0_76 rfl rfl ?_
          refine go_isub (pc' := 78) cx dX6_atom0_77 rfl ?_
          refine go_val (w := .int (nI 0)) (congrArg Value.int (nI_pred 0)) ?_
          refine go_puti (pc' := 81) cx fX6_200 dX6_atom0_78 kq88 (ltn rfl) (ltn rfl) rfl rfl rfl rfl ?_
          refine go_aload_n (pc' := 82) cx dX6_atom0_81 rfl rfl ?_
          refine go_geti (pc' := 85) cx 0 fX6_190 dX6_atom0_82 kq88 (ltn rfl) (ltn rfl) rfl ((((mG_9).op 0)).un utc64G_9).1 rfl ?_
          refine go_if_ne (pc' := 88) cx 161 dX6_atom0_85 rfl rfl (fun hh => absurd hh (by decide)) (fun _ => ?_)
          refine go_aload_n (pc' := 89) cx dX6_atom0_88 rfl rfl ?_
          have aG_12 := adv_W ((mG_9).op 0).2.2.1 utc64G_9
          refine go_cVVz (pc' := 92) cx (c_nextM l E hC ((mG_9).op 0) utc64G_9 (by rw [tc64G_9]; decide)) mX6_next lX6_206 dX6_atom0_89 kq88 (ltn rfl) (ltn rfl) rfl rfl rfl rfl (by omega) (Nat.le_of_ble_eq_true rfl) (Nat.le_of_ble_eq_true rfl) rfl (fun G_12 z_13 mG_12 => ?_)
          refine go_goto cx 161 dX6_atom0_92 rfl ?_
          refine go_iload_n (pc' := 162) cx dX6_atom0_161 rfl rfl ?_
          refine go_iret cx rfl dX6_atom0_162 ?_
          have e9 : onS (advS (mT R fr) sz) F1 F2 S = (demS (advS (mT R fr) sz) 10013 (F2 ((advS (mT R fr) sz) S)).1, (F2 ((advS (mT R fr) sz) S)).2) := by
            unfold onS
            rw [if_neg (by rw [tc43]; decide), if_neg (by rw [tc43]; decide), if_pos tc43]
          have d9 : demS (advS (mT R fr) sz) 10013 (F2 ((advS (mT R fr) sz) S)).1 = (advS (mT R fr) sz) (F2 ((advS (mT R fr) sz) S)).1 := if_pos tc64G_9
          exact ZIz.mk ⟨by rw [e9, d9]; exact mG_12, fun q9 => by rw [e9]; exact (vG_9 utc64G_9).mono hD2⟩
        · refine go_aload_n (pc' := 68) cx dX6_atom0_67 rfl rfl ?_
          refine go_cVV (pc' := 71) cx (c_X6_fail l E hC mG_9) mX6_fail lX6_203 dX6_atom0_68 kq88 (ltn rfl) (ltn rfl) rfl rfl rfl rfl (by omega) (Nat.le_of_ble_eq_true rfl) (Nat.le_of_ble_eq_true rfl) rfl (fun G_14 mG_14 => ?_)
          refine go_aload_n (pc' := 72) cx dX6_atom0_71 rfl rfl ?_
          refine go_dup (pc' := 73) cx rfl dX6_atom0_72 rfl ?_
          refine go_geti (pc' := 76) cx (nI (0 + 1)) fX6_200 dX6_atom0_73 kq88 (ltn rfl) (ltn rfl) rfl (mG_14).2.1 rfl ?_
          refine go_iconst (pc' := 77) cx 1 dX6_atom0_76 rfl rfl ?_
          refine go_isub (pc' := 78) cx dX6_atom0_77 rfl ?_
          refine go_val (w := .int (nI 0)) (congrArg Value.int (nI_pred 0)) ?_
          refine go_puti (pc' := 81) cx fX6_200 dX6_atom0_78 kq88 (ltn rfl) (ltn rfl) rfl rfl rfl rfl ?_
          refine go_aload_n (pc' := 82) cx dX6_atom0_81 rfl rfl ?_
          refine go_geti (pc' := 85) cx 1 fX6_190 dX6_atom0_82 kq88 (ltn rfl) (ltn rfl) rfl ((((mG_14).op 0)).bd (ref_W hsz (mG_9).2.2.1).2.2.1).1 rfl ?_
          refine go_if_ne (pc' := 88) cx 161 dX6_atom0_85 rfl rfl (fun _ => ?_) (fun hh => absurd hh (by decide))
          refine go_iload_n (pc' := 162) cx dX6_atom0_161 rfl rfl ?_
          refine go_iret cx rfl dX6_atom0_162 ?_
          have e9 : onS (advS (mT R fr) sz) F1 F2 S = (demS (advS (mT R fr) sz) 10013 (F2 ((advS (mT R fr) sz) S)).1, (F2 ((advS (mT R fr) sz) S)).2) := by
            unfold onS
            rw [if_neg (by rw [tc43]; decide), if_neg (by rw [tc43]; decide), if_pos tc43]
          have d9 : demS (advS (mT R fr) sz) 10013 (F2 ((advS (mT R fr) sz) S)).1 = refS (F2 ((advS (mT R fr) sz) S)).1 := if_neg (zero_of c64)
          exact ZIz.mk ⟨by rw [e9, d9]; exact ((mG_14).op 0), fun q9 => absurd (by rw [e9, d9] at q9; exact q9) (ref_W hsz (mG_9).2.2.1).2.2.1⟩
    · have tc8 : S.2.2.1 = 10016 := one_of c8
      have utc8 := hM.2.2.1.un (by rw [tc8]; decide)
      refine go_aload_n (pc' := 12) cx dX6_atom0_11 rfl rfl ?_
      have aG_15 := adv_W (hM).2.2.1 utc8
      refine go_cVIz (pc' := 15) cx (c_X6_opens l E hC hM utc8 (by rw [tc8]; decide) (by omega)) mX6_opens lX6_234 dX6_atom0_12 kq88 (ltn rfl) (ltn rfl) rfl rfl rfl rfl (by omega) (Nat.le_of_ble_eq_true rfl) (Nat.le_of_ble_eq_true rfl) rfl (fun w_17 G_15 z_16 hG_15 => ?_)
      obtain ⟨eG_15, mG_15⟩ := hG_15
      subst eG_15
      refine go_if_eq (pc' := 18) cx 161 dX6_atom0_15 rfl rfl (fun hh => absurd hh (by decide)) (fun _ => ?_)
      refine go_aload_n (pc' := 19) cx dX6_atom0_18 rfl rfl ?_
      refine go_cVIz (pc' := 22) cx (hC1 (advS (mT R fr) sz S) G_15 z_16 mG_15) mX6_atom1 lX6_318 dX6_atom0_19 kq88 (ltn rfl) (ltn rfl) rfl rfl rfl rfl (by omega) (Nat.le_of_ble_eq_true rfl) (Nat.le_of_ble_eq_true rfl) rfl (fun w_20 G_18 z_19 hG_18 => ?_)
      obtain ⟨mG_18, vG_18⟩ := hG_18
      refine go_ineg (pc' := 23) cx dX6_atom0_22 rfl ?_
      refine go_istore_n (pc' := 24) cx dX6_atom0_23 (ltn rfl) [(1, .int (-w_20)), (0, .ref (E.2.1 88))] rfl rfl ?_
      refine go_aload_n (pc' := 25) cx dX6_atom0_24 rfl rfl ?_
      refine go_dup (pc' := 26) cx rfl dX6_atom0_25 rfl ?_
      refine go_geti (pc' := 29) cx (nI (0 + 1)) fX6_200 dX6_atom0_26 kq88 (ltn rfl) (ltn rfl) rfl (mG_18).2.1 rfl ?_
      refine go_iconst (pc' := 30) cx 1 dX6_atom0_29 rfl rfl ?_
      refine go_isub (pc' := 31) cx dX6_atom0_30 rfl ?_
      refine go_val (w := .int (nI 0)) (congrArg Value.int (nI_pred 0)) ?_
      refine go_puti (pc' := 34) cx fX6_200 dX6_atom0_31 kq88 (ltn rfl) (ltn rfl) rfl rfl rfl rfl ?_
      refine go_goto cx 161 dX6_atom0_34 rfl ?_
      refine go_iload_n (pc' := 162) cx dX6_atom0_161 rfl rfl ?_
      refine go_iret cx rfl dX6_atom0_162 ?_
      have e9 : onS (advS (mT R fr) sz) F1 F2 S = ((F1 ((advS (mT R fr) sz) S)).1, (F1 ((advS (mT R fr) sz) S)).2 ++ [10020]) := by
        unfold onS
        rw [if_neg (by rw [tc8]; decide), if_pos tc8]
      exact ZIz.mk ⟨by rw [e9]; exact ((mG_18).op 0), fun q9 => by rw [e9] at q9 ⊢; exact (GC_neg (vG_18 q9)).mono hD1⟩
  · obtain ⟨hf1, hf2, hf3⟩ := hM.bd hu
    refine go_iconst (pc' := 1) cx 0 dX6_atom0_0 rfl rfl ?_
    refine go_istore_n (pc' := 2) cx dX6_atom0_1 (ltn rfl) [(1, .int 0), (0, .ref (E.2.1 88))] rfl rfl ?_
    refine go_aload_n (pc' := 3) cx dX6_atom0_2 rfl rfl ?_
    refine go_bipush (pc' := 5) cx 45 dX6_atom0_3 rfl rfl ?_
    refine go_cVi (pc' := 8) cx (c_isSignF_45 l E hC hM hf3) mX6_isSign lX6_231 dX6_atom0_5 kq88 (ltn rfl) (ltn rfl) rfl rfl rfl rfl (by omega) (Nat.le_of_ble_eq_true rfl) (Nat.le_of_ble_eq_true rfl) rfl ?_
    refine go_if_eq (pc' := 11) cx 37 dX6_atom0_8 rfl rfl (fun _ => ?_) (fun hh => absurd hh (by decide))
    refine go_aload_n (pc' := 38) cx dX6_atom0_37 rfl rfl ?_
    refine go_bipush (pc' := 40) cx 40 dX6_atom0_38 rfl rfl ?_
    refine go_cVi (pc' := 43) cx (c_isSignF_40 l E hC hM hf3) mX6_isSign lX6_231 dX6_atom0_40 kq88 (ltn rfl) (ltn rfl) rfl rfl rfl rfl (by omega) (Nat.le_of_ble_eq_true rfl) (Nat.le_of_ble_eq_true rfl) rfl ?_
    refine go_if_eq (pc' := 46) cx 95 dX6_atom0_43 rfl rfl (fun _ => ?_) (fun hh => absurd hh (by decide))
    refine go_aload_n (pc' := 96) cx dX6_atom0_95 rfl rfl ?_
    refine go_geti (pc' := 99) cx 1 fX6_190 dX6_atom0_96 kq88 (ltn rfl) (ltn rfl) rfl ((hM).bd hu).1 rfl ?_
    refine go_if_ne (pc' := 102) cx 123 dX6_atom0_99 rfl rfl (fun _ => ?_) (fun hh => absurd hh (by decide))
    refine go_aload_n (pc' := 124) cx dX6_atom0_123 rfl rfl ?_
    refine go_geti (pc' := 127) cx 1 fX6_190 dX6_atom0_124 kq88 (ltn rfl) (ltn rfl) rfl ((hM).bd hu).1 rfl ?_
    refine go_if_ne (pc' := 130) cx 157 dX6_atom0_127 rfl rfl (fun _ => ?_) (fun hh => absurd hh (by decide))
    refine go_aload_n (pc' := 158) cx dX6_atom0_157 rfl rfl ?_
    refine go_cVV (pc' := 161) cx (c_X6_fail l E hC hM) mX6_fail lX6_203 dX6_atom0_158 kq88 (ltn rfl) (ltn rfl) rfl rfl rfl rfl (by omega) (Nat.le_of_ble_eq_true rfl) (Nat.le_of_ble_eq_true rfl) rfl (fun G_1 mG_1 => ?_)
    refine go_iload_n (pc' := 162) cx dX6_atom0_161 rfl rfl ?_
    refine go_iret cx rfl dX6_atom0_162 ?_
    have e9 : onS (advS (mT R fr) sz) F1 F2 S = (refS S, []) := by
      unfold onS
      rw [if_neg (by rw [hf3]; decide), if_neg (by rw [hf3]; decide), if_neg (by rw [hf3]; decide)]
    exact ZIz.mk ⟨by rw [e9]; exact mG_1, fun q9 => absurd (by rw [e9] at q9; exact q9) (ref_W hsz hM.2.2.1).2.2.1⟩

set_option maxHeartbeats 1000000 in
set_option maxRecDepth 20000 in
theorem c_X6_atom1 (l : Launch) (E : Ev) {g0 : IG} {o : Option Nat} {fr sz : Nat} {R : Nat → Int32} (hC : MCx g0 fr sz R) {F1 F2 : PF} (hP1 : Pp (mT R fr) sz F1) (hP2 : Pp (mT R fr) sz F2) {D D1 D2 d d1 d2 : Nat} (hD : 1 ≤ D) (hD1 : D1 ≤ D) (hD2 : D2 ≤ D) (hd : 5 ≤ d) (hd1 : d1 ≤ d) (hd2 : d2 ≤ d) (hC1 : McC l E o g0 fr sz R 2 yX6_atom2 cX6_atom2 2 d1 F1 D1) (hC2 : McC l E o g0 fr sz R 2 yX6_either2 cX6_either2 3 d2 F2 D2)  : McC l E o g0 fr sz R 1 yX6_atom1 cX6_atom1 2 (d + 1) (onS (advS (mT R fr) sz) F1 F2) D := by
  intro S g z hM
  refine Ct.of (lv0 := [(0, .ref (E.2.1 88))]) (by decide) (Nat.le_of_ble_eq_true rfl) rfl ?_
  intro p e s m below meth c cx
  obtain ⟨hfr, hsz, h26, h27, h89, hT0⟩ := id hC
  by_cases hu : S.2.2.2 = -1
  · obtain ⟨hu1, hu2, hu3, hu4, hu5, hu6⟩ := hM.un hu
    obtain ⟨ht1, ht2, ht3⟩ := hM.tk hu
    refine go_iconst (pc' := 1) cx 0 dX6_atom1_0 rfl rfl ?_
    refine go_istore_n (pc' := 2) cx dX6_atom1_1 (ltn rfl) [(1, .int 0), (0, .ref (E.2.1 88))] rfl rfl ?_
    refine go_aload_n (pc' := 3) cx dX6_atom1_2 rfl rfl ?_
    refine go_bipush (pc' := 5) cx 45 dX6_atom1_3 rfl rfl ?_
    refine go_cVi (pc' := 8) cx (c_isSign_45 l E hC hM) mX6_isSign lX6_231 dX6_atom1_5 kq88 (ltn rfl) (ltn rfl) rfl rfl rfl rfl (by omega) (Nat.le_of_ble_eq_true rfl) (Nat.le_of_ble_eq_true rfl) rfl ?_
    refine go_if_eq (pc' := 11) cx 37 dX6_atom1_8 rfl rfl (fun c8 => ?_) (fun c8 => ?_)
    · refine go_aload_n (pc' := 38) cx dX6_atom1_37 rfl rfl ?_
      refine go_bipush (pc' := 40) cx 40 dX6_atom1_38 rfl rfl ?_
      refine go_cVi (pc' := 43) cx (c_isSign_40 l E hC hM) mX6_isSign lX6_231 dX6_atom1_40 kq88 (ltn rfl) (ltn rfl) rfl rfl rfl rfl (by omega) (Nat.le_of_ble_eq_true rfl) (Nat.le_of_ble_eq_true rfl) rfl ?_
      refine go_if_eq (pc' := 46) cx 95 dX6_atom1_43 rfl rfl (fun c43 => ?_) (fun c43 => ?_)
      · refine go_aload_n (pc' := 96) cx dX6_atom1_95 rfl rfl ?_
        refine go_geti (pc' := 99) cx 0 fX6_190 dX6_atom1_96 kq88 (ltn rfl) (ltn rfl) rfl ((hM).un hu).1 rfl ?_
        refine go_if_ne (pc' := 102) cx 123 dX6_atom1_99 rfl rfl (fun hh => absurd hh (by decide)) (fun _ => ?_)
        refine go_aload_n (pc' := 103) cx dX6_atom1_102 rfl rfl ?_
        refine go_geti (pc' := 106) cx (kdT (mT R fr) sz S.2.1) fX6_175 dX6_atom1_103 kq88 (ltn rfl) (ltn rfl) rfl ((hM).un hu).2.2.1 rfl ?_
        refine go_iconst (pc' := 107) cx 2 dX6_atom1_106 rfl rfl ?_
        refine go_icmp_ne (pc' := 110) cx 123 dX6_atom1_107 rfl rfl (fun c107 => ?_) (fun c107 => ?_)
        · refine go_aload_n (pc' := 124) cx dX6_atom1_123 rfl rfl ?_
          refine go_geti (pc' := 127) cx 0 fX6_190 dX6_atom1_124 kq88 (ltn rfl) (ltn rfl) rfl ((hM).un hu).1 rfl ?_
          refine go_if_ne (pc' := 130) cx 157 dX6_atom1_127 rfl rfl (fun hh => absurd hh (by decide)) (fun _ => ?_)
          refine go_aload_n (pc' := 131) cx dX6_atom1_130 rfl rfl ?_
          refine go_geti (pc' := 134) cx (kdT (mT R fr) sz S.2.1) fX6_175 dX6_atom1_131 kq88 (ltn rfl) (ltn rfl) rfl ((hM).un hu).2.2.1 rfl ?_
          refine go_iconst (pc' := 135) cx 1 dX6_atom1_134 rfl rfl ?_
          refine go_icmp_ne (pc' := 138) cx 157 dX6_atom1_135 rfl rfl (fun c135 => ?_) (fun c135 => ?_)
          · refine go_aload_n (pc' := 158) cx dX6_atom1_157 rfl rfl ?_
            refine go_cVV (pc' := 161) cx (c_X6_fail l E hC hM) mX6_fail lX6_203 dX6_atom1_158 kq88 (ltn rfl) (ltn rfl) rfl rfl rfl rfl (by omega) (Nat.le_of_ble_eq_true rfl) (Nat.le_of_ble_eq_true rfl) rfl (fun G_1 mG_1 => ?_)
            refine go_iload_n (pc' := 162) cx dX6_atom1_161 rfl rfl ?_
            refine go_iret cx rfl dX6_atom1_162 ?_
            have e9 : onS (advS (mT R fr) sz) F1 F2 S = (refS S, []) := by
              unfold onS
              rw [if_neg (show ¬ S.2.2.1 ≤ 10005 by exact gt_kd ht1 c107 c135), if_neg (zero_of c8), if_neg (zero_of c43)]
            exact ZIz.mk ⟨by rw [e9]; exact mG_1, fun q9 => absurd (by rw [e9] at q9; exact q9) (ref_W hsz hM.2.2.1).2.2.1⟩
          · refine go_aload_n (pc' := 139) cx dX6_atom1_138 rfl rfl ?_
            refine go_cVI (pc' := 142) cx (c_X6_name l E hC hM hu c135) mX6_name lX6_238 dX6_atom1_139 kq88 (ltn rfl) (ltn rfl) rfl rfl rfl rfl (by omega) (Nat.le_of_ble_eq_true rfl) (Nat.le_of_ble_eq_true rfl) rfl (fun x9 G9 h9 => ?_)
            rcases h9 with ⟨n1, n2, n3⟩ | ⟨n1, n3⟩
            · refine go_istore_n (pc' := 143) cx dX6_atom1_142 (ltn rfl) [(1, .int x9), (0, .ref (E.2.1 88))] rfl rfl ?_
              refine go_aload_n (pc' := 144) cx dX6_atom1_143 rfl rfl ?_
              refine go_geti (pc' := 147) cx 0 fX6_190 dX6_atom1_144 kq88 (ltn rfl) (ltn rfl) rfl ((n3).un hu).1 rfl ?_
              refine go_if_ne (pc' := 150) cx 161 dX6_atom1_147 rfl rfl (fun hh => absurd hh (by decide)) (fun _ => ?_)
              refine go_aload_n (pc' := 151) cx dX6_atom1_150 rfl rfl ?_
              have aG_2 := adv_W n3.2.2.1 hu
              refine go_cVVz (pc' := 154) cx (c_nextM l E hC n3 hu (fun q9 => absurd (q9 ▸ n1) (by decide))) mX6_next lX6_206 dX6_atom1_151 kq88 (ltn rfl) (ltn rfl) rfl rfl rfl rfl (by omega) (Nat.le_of_ble_eq_true rfl) (Nat.le_of_ble_eq_true rfl) rfl (fun G_2 z_3 mG_2 => ?_)
              refine go_goto cx 161 dX6_atom1_154 rfl ?_
              refine go_iload_n (pc' := 162) cx dX6_atom1_161 rfl rfl ?_
              refine go_iret cx rfl dX6_atom1_162 ?_
              have e9 : onS (advS (mT R fr) sz) F1 F2 S = ((advS (mT R fr) sz) S, [S.2.2.1]) := by
                unfold onS
                rw [if_pos n1]
              exact ZIz.mk ⟨by rw [e9]; exact mG_2, fun q9 => by rw [e9]; have g9 := GC_leaf (ev := evM g0) n1; rw [if_pos (nm_ge c135 ht1)] at g9; rw [n2]; exact g9.mono hD⟩
            · refine go_istore_n (pc' := 143) cx dX6_atom1_142 (ltn rfl) [(1, .int x9), (0, .ref (E.2.1 88))] rfl rfl ?_
              refine go_aload_n (pc' := 144) cx dX6_atom1_143 rfl rfl ?_
              refine go_geti (pc' := 147) cx 1 fX6_190 dX6_atom1_144 kq88 (ltn rfl) (ltn rfl) rfl ((n3).bd (ref_W hsz hM.2.2.1).2.2.1).1 rfl ?_
              refine go_if_ne (pc' := 150) cx 161 dX6_atom1_147 rfl rfl (fun _ => ?_) (fun hh => absurd hh (by decide))
              refine go_iload_n (pc' := 162) cx dX6_atom1_161 rfl rfl ?_
              refine go_iret cx rfl dX6_atom1_162 ?_
              have e9 : onS (advS (mT R fr) sz) F1 F2 S = (refS S, []) := by
                unfold onS
                rw [if_neg (show ¬ S.2.2.1 ≤ 10005 by exact n1), if_neg (zero_of c8), if_neg (zero_of c43)]
              exact ZIz.mk ⟨by rw [e9]; exact n3, fun q9 => absurd (by rw [e9] at q9; exact q9) (ref_W hsz hM.2.2.1).2.2.1⟩
        · obtain ⟨hle9, hnk9⟩ := le_kd2 ht1 c107
          refine go_aload_n (pc' := 111) cx dX6_atom1_110 rfl rfl ?_
          refine go_getl (N := 56) (pc' := 114) cx fX6_186 dX6_atom1_111 (ltn rfl) rfl ?_
          refine go_l2i (pc' := 115) cx dX6_atom1_114 rfl ?_
          refine go_istore_n (pc' := 116) cx dX6_atom1_115 (ltn rfl) [(1, .int z.toInt32), (0, .ref (E.2.1 88))] rfl rfl ?_
          refine go_aload_n (pc' := 117) cx dX6_atom1_116 rfl rfl ?_
          have aG_4 := adv_W hM.2.2.1 hu
          refine go_cVVz (pc' := 120) cx (c_nextM l E hC hM hu (fun q9 => absurd (q9 ▸ hle9) (by decide))) mX6_next lX6_206 dX6_atom1_117 kq88 (ltn rfl) (ltn rfl) rfl rfl rfl rfl (by omega) (Nat.le_of_ble_eq_true rfl) (Nat.le_of_ble_eq_true rfl) rfl (fun G_4 z_5 mG_4 => ?_)
          refine go_goto cx 161 dX6_atom1_120 rfl ?_
          refine go_iload_n (pc' := 162) cx dX6_atom1_161 rfl rfl ?_
          refine go_iret cx rfl dX6_atom1_162 ?_
          have e9 : onS (advS (mT R fr) sz) F1 F2 S = ((advS (mT R fr) sz) S, [S.2.2.1]) := by
            unfold onS
            rw [if_pos hle9]
          exact ZIz.mk ⟨by rw [e9]; exact mG_4, fun q9 => by rw [e9]; have g9 := GC_leaf (ev := evM g0) hle9; rw [if_neg hnk9] at g9; exact (tk_32 (hu5 c107)) ▸ (g9.mono hD)⟩
      · have tc43 : S.2.2.1 = 10012 := one_of c43
        have utc43 := hM.2.2.1.un (by rw [tc43]; decide)
        refine go_aload_n (pc' := 47) cx dX6_atom1_46 rfl rfl ?_
        have aG_6 := adv_W (hM).2.2.1 utc43
        refine go_cVIz (pc' := 50) cx (c_X6_opens l E hC hM utc43 (by rw [tc43]; decide) (by omega)) mX6_opens lX6_234 dX6_atom1_47 kq88 (ltn rfl) (ltn rfl) rfl rfl rfl rfl (by omega) (Nat.le_of_ble_eq_true rfl) (Nat.le_of_ble_eq_true rfl) rfl (fun w_8 G_6 z_7 hG_6 => ?_)
        obtain ⟨eG_6, mG_6⟩ := hG_6
        subst eG_6
        refine go_if_eq (pc' := 53) cx 161 dX6_atom1_50 rfl rfl (fun hh => absurd hh (by decide)) (fun _ => ?_)
        refine go_aload_n (pc' := 54) cx dX6_atom1_53 rfl rfl ?_
        refine go_cVIz (pc' := 57) cx (hC2 (advS (mT R fr) sz S) G_6 z_7 mG_6) mX6_either2 lX6_315 dX6_atom1_54 kq88 (ltn rfl) (ltn rfl) rfl rfl rfl rfl (by omega) (Nat.le_of_ble_eq_true rfl) (Nat.le_of_ble_eq_true rfl) rfl (fun w_11 G_9 z_10 hG_9 => ?_)
        obtain ⟨mG_9, vG_9⟩ := hG_9
        refine go_istore_n (pc' := 58) cx dX6_atom1_57 (ltn rfl) [(1, .int w_11), (0, .ref (E.2.1 88))] rfl rfl ?_
        refine go_aload_n (pc' := 59) cx dX6_atom1_58 rfl rfl ?_
        refine go_bipush (pc' := 61) cx 41 dX6_atom1_59 rfl rfl ?_
        refine go_cVi (pc' := 64) cx (c_isSign_41 l E hC mG_9) mX6_isSign lX6_231 dX6_atom1_61 kq88 (ltn rfl) (ltn rfl) rfl rfl rfl rfl (by omega) (Nat.le_of_ble_eq_true rfl) (Nat.le_of_ble_eq_true rfl) rfl ?_
        refine go_if_ne (pc' := 67) cx 71 dX6_atom1_64 rfl rfl (fun c64 => ?_) (fun c64 => ?_)
        · have tc64G_9 : ((F2 (advS (mT R fr) sz S)).1).2.2.1 = 10013 := one_of c64
          have utc64G_9 := (mG_9).2.2.1.un (by rw [tc64G_9]; decide)
          refine go_aload_n (pc' := 72) cx dX6_atom1_71 rfl rfl ?_
          refine go_dup (pc' := 73) cx rfl dX6_atom1_72 rfl ?_
          refine go_geti (pc' := 76) cx (nI (1 + 1)) fX6_200 dX6_atom1_73 kq88 (ltn rfl) (ltn rfl) rfl (mG_9).2.1 rfl ?_
          refine go_iconst (pc' := 77) cx 1 dX6_atom1_76 rfl rfl ?_
          refine go_isub (pc' := 78) cx dX6_atom1_77 rfl ?_
          refine go_val (w := .int (nI 1)) (congrArg Value.int (nI_pred 1)) ?_
          refine go_puti (pc' := 81) cx fX6_200 dX6_atom1_78 kq88 (ltn rfl) (ltn rfl) rfl rfl rfl rfl ?_
          refine go_aload_n (pc' := 82) cx dX6_atom1_81 rfl rfl ?_
          refine go_geti (pc' := 85) cx 0 fX6_190 dX6_atom1_82 kq88 (ltn rfl) (ltn rfl) rfl ((((mG_9).op 1)).un utc64G_9).1 rfl ?_
          refine go_if_ne (pc' := 88) cx 161 dX6_atom1_85 rfl rfl (fun hh => absurd hh (by decide)) (fun _ => ?_)
          refine go_aload_n (pc' := 89) cx dX6_atom1_88 rfl rfl ?_
          have aG_12 := adv_W ((mG_9).op 1).2.2.1 utc64G_9
          refine go_cVVz (pc' := 92) cx (c_nextM l E hC ((mG_9).op 1) utc64G_9 (by rw [tc64G_9]; decide)) mX6_next lX6_206 dX6_atom1_89 kq88 (ltn rfl) (ltn rfl) rfl rfl rfl rfl (by omega) (Nat.le_of_ble_eq_true rfl) (Nat.le_of_ble_eq_true rfl) rfl (fun G_12 z_13 mG_12 => ?_)
          refine go_goto cx 161 dX6_atom1_92 rfl ?_
          refine go_iload_n (pc' := 162) cx dX6_atom1_161 rfl rfl ?_
          refine go_iret cx rfl dX6_atom1_162 ?_
          have e9 : onS (advS (mT R fr) sz) F1 F2 S = (demS (advS (mT R fr) sz) 10013 (F2 ((advS (mT R fr) sz) S)).1, (F2 ((advS (mT R fr) sz) S)).2) := by
            unfold onS
            rw [if_neg (by rw [tc43]; decide), if_neg (by rw [tc43]; decide), if_pos tc43]
          have d9 : demS (advS (mT R fr) sz) 10013 (F2 ((advS (mT R fr) sz) S)).1 = (advS (mT R fr) sz) (F2 ((advS (mT R fr) sz) S)).1 := if_pos tc64G_9
          exact ZIz.mk ⟨by rw [e9, d9]; exact mG_12, fun q9 => by rw [e9]; exact (vG_9 utc64G_9).mono hD2⟩
        · refine go_aload_n (pc' := 68) cx dX6_atom1_67 rfl rfl ?_
          refine go_cVV (pc' := 71) cx (c_X6_fail l E hC mG_9) mX6_fail lX6_203 dX6_atom1_68 kq88 (ltn rfl) (ltn rfl) rfl rfl rfl rfl (by omega) (Nat.le_of_ble_eq_true rfl) (Nat.le_of_ble_eq_true rfl) rfl (fun G_14 mG_14 => ?_)
          refine go_aload_n (pc' := 72) cx dX6_atom1_71 rfl rfl ?_
          refine go_dup (pc' := 73) cx rfl dX6_atom1_72 rfl ?_
          refine go_geti (pc' := 76) cx (nI (1 + 1)) fX6_200 dX6_atom1_73 kq88 (ltn rfl) (ltn rfl) rfl (mG_14).2.1 rfl ?_
          refine go_iconst (pc' := 77) cx 1 dX6_atom1_76 rfl rfl ?_
          refine go_isub (pc' := 78) cx dX6_atom1_77 rfl ?_
          refine go_val (w := .int (nI 1)) (congrArg Value.int (nI_pred 1)) ?_
          refine go_puti (pc' := 81) cx fX6_200 dX6_atom1_78 kq88 (ltn rfl) (ltn rfl) rfl rfl rfl rfl ?_
          refine go_aload_n (pc' := 82) cx dX6_atom1_81 rfl rfl ?_
          refine go_geti (pc' := 85) cx 1 fX6_190 dX6_atom1_82 kq88 (ltn rfl) (ltn rfl) rfl ((((mG_14).op 1)).bd (ref_W hsz (mG_9).2.2.1).2.2.1).1 rfl ?_
          refine go_if_ne (pc' := 88) cx 161 dX6_atom1_85 rfl rfl (fun _ => ?_) (fun hh => absurd hh (by decide))
          refine go_iload_n (pc' := 162) cx dX6_atom1_161 rfl rfl ?_
          refine go_iret cx rfl dX6_atom1_162 ?_
          have e9 : onS (advS (mT R fr) sz) F1 F2 S = (demS (advS (mT R fr) sz) 10013 (F2 ((advS (mT R fr) sz) S)).1, (F2 ((advS (mT R fr) sz) S)).2) := by
            unfold onS
            rw [if_neg (by rw [tc43]; decide), if_neg (by rw [tc43]; decide), if_pos tc43]
          have d9 : demS (advS (mT R fr) sz) 10013 (F2 ((advS (mT R fr) sz) S)).1 = refS (F2 ((advS (mT R fr) sz) S)).1 := if_neg (zero_of c64)
          exact ZIz.mk ⟨by rw [e9, d9]; exact ((mG_14).op 1), fun q9 => absurd (by rw [e9, d9] at q9; exact q9) (ref_W hsz (mG_9).2.2.1).2.2.1⟩
    · have tc8 : S.2.2.1 = 10016 := one_of c8
      have utc8 := hM.2.2.1.un (by rw [tc8]; decide)
      refine go_aload_n (pc' := 12) cx dX6_atom1_11 rfl rfl ?_
      have aG_15 := adv_W (hM).2.2.1 utc8
      refine go_cVIz (pc' := 15) cx (c_X6_opens l E hC hM utc8 (by rw [tc8]; decide) (by omega)) mX6_opens lX6_234 dX6_atom1_12 kq88 (ltn rfl) (ltn rfl) rfl rfl rfl rfl (by omega) (Nat.le_of_ble_eq_true rfl) (Nat.le_of_ble_eq_true rfl) rfl (fun w_17 G_15 z_16 hG_15 => ?_)
      obtain ⟨eG_15, mG_15⟩ := hG_15
      subst eG_15
      refine go_if_eq (pc' := 18) cx 161 dX6_atom1_15 rfl rfl (fun hh => absurd hh (by decide)) (fun _ => ?_)
      refine go_aload_n (pc' := 19) cx dX6_atom1_18 rfl rfl ?_
      refine go_cVIz (pc' := 22) cx (hC1 (advS (mT R fr) sz S) G_15 z_16 mG_15) mX6_atom2 lX6_300 dX6_atom1_19 kq88 (ltn rfl) (ltn rfl) rfl rfl rfl rfl (by omega) (Nat.le_of_ble_eq_true rfl) (Nat.le_of_ble_eq_true rfl) rfl (fun w_20 G_18 z_19 hG_18 => ?_)
      obtain ⟨mG_18, vG_18⟩ := hG_18
      refine go_ineg (pc' := 23) cx dX6_atom1_22 rfl ?_
      refine go_istore_n (pc' := 24) cx dX6_atom1_23 (ltn rfl) [(1, .int (-w_20)), (0, .ref (E.2.1 88))] rfl rfl ?_
      refine go_aload_n (pc' := 25) cx dX6_atom1_24 rfl rfl ?_
      refine go_dup (pc' := 26) cx rfl dX6_atom1_25 rfl ?_
      refine go_geti (pc' := 29) cx (nI (1 + 1)) fX6_200 dX6_atom1_26 kq88 (ltn rfl) (ltn rfl) rfl (mG_18).2.1 rfl ?_
      refine go_iconst (pc' := 30) cx 1 dX6_atom1_29 rfl rfl ?_
      refine go_isub (pc' := 31) cx dX6_atom1_30 rfl ?_
      refine go_val (w := .int (nI 1)) (congrArg Value.int (nI_pred 1)) ?_
      refine go_puti (pc' := 34) cx fX6_200 dX6_atom1_31 kq88 (ltn rfl) (ltn rfl) rfl rfl rfl rfl ?_
      refine go_goto cx 161 dX6_atom1_34 rfl ?_
      refine go_iload_n (pc' := 162) cx dX6_atom1_161 rfl rfl ?_
      refine go_iret cx rfl dX6_atom1_162 ?_
      have e9 : onS (advS (mT R fr) sz) F1 F2 S = ((F1 ((advS (mT R fr) sz) S)).1, (F1 ((advS (mT R fr) sz) S)).2 ++ [10020]) := by
        unfold onS
        rw [if_neg (by rw [tc8]; decide), if_pos tc8]
      exact ZIz.mk ⟨by rw [e9]; exact ((mG_18).op 1), fun q9 => by rw [e9] at q9 ⊢; exact (GC_neg (vG_18 q9)).mono hD1⟩
  · obtain ⟨hf1, hf2, hf3⟩ := hM.bd hu
    refine go_iconst (pc' := 1) cx 0 dX6_atom1_0 rfl rfl ?_
    refine go_istore_n (pc' := 2) cx dX6_atom1_1 (ltn rfl) [(1, .int 0), (0, .ref (E.2.1 88))] rfl rfl ?_
    refine go_aload_n (pc' := 3) cx dX6_atom1_2 rfl rfl ?_
    refine go_bipush (pc' := 5) cx 45 dX6_atom1_3 rfl rfl ?_
    refine go_cVi (pc' := 8) cx (c_isSignF_45 l E hC hM hf3) mX6_isSign lX6_231 dX6_atom1_5 kq88 (ltn rfl) (ltn rfl) rfl rfl rfl rfl (by omega) (Nat.le_of_ble_eq_true rfl) (Nat.le_of_ble_eq_true rfl) rfl ?_
    refine go_if_eq (pc' := 11) cx 37 dX6_atom1_8 rfl rfl (fun _ => ?_) (fun hh => absurd hh (by decide))
    refine go_aload_n (pc' := 38) cx dX6_atom1_37 rfl rfl ?_
    refine go_bipush (pc' := 40) cx 40 dX6_atom1_38 rfl rfl ?_
    refine go_cVi (pc' := 43) cx (c_isSignF_40 l E hC hM hf3) mX6_isSign lX6_231 dX6_atom1_40 kq88 (ltn rfl) (ltn rfl) rfl rfl rfl rfl (by omega) (Nat.le_of_ble_eq_true rfl) (Nat.le_of_ble_eq_true rfl) rfl ?_
    refine go_if_eq (pc' := 46) cx 95 dX6_atom1_43 rfl rfl (fun _ => ?_) (fun hh => absurd hh (by decide))
    refine go_aload_n (pc' := 96) cx dX6_atom1_95 rfl rfl ?_
    refine go_geti (pc' := 99) cx 1 fX6_190 dX6_atom1_96 kq88 (ltn rfl) (ltn rfl) rfl ((hM).bd hu).1 rfl ?_
    refine go_if_ne (pc' := 102) cx 123 dX6_atom1_99 rfl rfl (fun _ => ?_) (fun hh => absurd hh (by decide))
    refine go_aload_n (pc' := 124) cx dX6_atom1_123 rfl rfl ?_
    refine go_geti (pc' := 127) cx 1 fX6_190 dX6_atom1_124 kq88 (ltn rfl) (ltn rfl) rfl ((hM).bd hu).1 rfl ?_
    refine go_if_ne (pc' := 130) cx 157 dX6_atom1_127 rfl rfl (fun _ => ?_) (fun hh => absurd hh (by decide))
    refine go_aload_n (pc' := 158) cx dX6_atom1_157 rfl rfl ?_
    refine go_cVV (pc' := 161) cx (c_X6_fail l E hC hM) mX6_fail lX6_203 dX6_atom1_158 kq88 (ltn rfl) (ltn rfl) rfl rfl rfl rfl (by omega) (Nat.le_of_ble_eq_true rfl) (Nat.le_of_ble_eq_true rfl) rfl (fun G_1 mG_1 => ?_)
    refine go_iload_n (pc' := 162) cx dX6_atom1_161 rfl rfl ?_
    refine go_iret cx rfl dX6_atom1_162 ?_
    have e9 : onS (advS (mT R fr) sz) F1 F2 S = (refS S, []) := by
      unfold onS
      rw [if_neg (by rw [hf3]; decide), if_neg (by rw [hf3]; decide), if_neg (by rw [hf3]; decide)]
    exact ZIz.mk ⟨by rw [e9]; exact mG_1, fun q9 => absurd (by rw [e9] at q9; exact q9) (ref_W hsz hM.2.2.1).2.2.1⟩

set_option maxHeartbeats 1000000 in
set_option maxRecDepth 20000 in
theorem c_X6_atom2 (l : Launch) (E : Ev) {g0 : IG} {o : Option Nat} {fr sz : Nat} {R : Nat → Int32} (hC : MCx g0 fr sz R) {F1 F2 : PF} (hP1 : Pp (mT R fr) sz F1) (hP2 : Pp (mT R fr) sz F2) {D D1 D2 d d1 d2 : Nat} (hD : 1 ≤ D) (hD1 : D1 ≤ D) (hD2 : D2 ≤ D) (hd : 5 ≤ d) (hd1 : d1 ≤ d) (hd2 : d2 ≤ d) (hC1 : McC l E o g0 fr sz R 3 yX6_atom3 cX6_atom3 2 d1 F1 D1) (hC2 : McC l E o g0 fr sz R 3 yX6_either3 cX6_either3 3 d2 F2 D2)  : McC l E o g0 fr sz R 2 yX6_atom2 cX6_atom2 2 (d + 1) (onS (advS (mT R fr) sz) F1 F2) D := by
  intro S g z hM
  refine Ct.of (lv0 := [(0, .ref (E.2.1 88))]) (by decide) (Nat.le_of_ble_eq_true rfl) rfl ?_
  intro p e s m below meth c cx
  obtain ⟨hfr, hsz, h26, h27, h89, hT0⟩ := id hC
  by_cases hu : S.2.2.2 = -1
  · obtain ⟨hu1, hu2, hu3, hu4, hu5, hu6⟩ := hM.un hu
    obtain ⟨ht1, ht2, ht3⟩ := hM.tk hu
    refine go_iconst (pc' := 1) cx 0 dX6_atom2_0 rfl rfl ?_
    refine go_istore_n (pc' := 2) cx dX6_atom2_1 (ltn rfl) [(1, .int 0), (0, .ref (E.2.1 88))] rfl rfl ?_
    refine go_aload_n (pc' := 3) cx dX6_atom2_2 rfl rfl ?_
    refine go_bipush (pc' := 5) cx 45 dX6_atom2_3 rfl rfl ?_
    refine go_cVi (pc' := 8) cx (c_isSign_45 l E hC hM) mX6_isSign lX6_231 dX6_atom2_5 kq88 (ltn rfl) (ltn rfl) rfl rfl rfl rfl (by omega) (Nat.le_of_ble_eq_true rfl) (Nat.le_of_ble_eq_true rfl) rfl ?_
    refine go_if_eq (pc' := 11) cx 37 dX6_atom2_8 rfl rfl (fun c8 => ?_) (fun c8 => ?_)
    · refine go_aload_n (pc' := 38) cx dX6_atom2_37 rfl rfl ?_
      refine go_bipush (pc' := 40) cx 40 dX6_atom2_38 rfl rfl ?_
      refine go_cVi (pc' := 43) cx (c_isSign_40 l E hC hM) mX6_isSign lX6_231 dX6_atom2_40 kq88 (ltn rfl) (ltn rfl) rfl rfl rfl rfl (by omega) (Nat.le_of_ble_eq_true rfl) (Nat.le_of_ble_eq_true rfl) rfl ?_
      refine go_if_eq (pc' := 46) cx 95 dX6_atom2_43 rfl rfl (fun c43 => ?_) (fun c43 => ?_)
      · refine go_aload_n (pc' := 96) cx dX6_atom2_95 rfl rfl ?_
        refine go_geti (pc' := 99) cx 0 fX6_190 dX6_atom2_96 kq88 (ltn rfl) (ltn rfl) rfl ((hM).un hu).1 rfl ?_
        refine go_if_ne (pc' := 102) cx 123 dX6_atom2_99 rfl rfl (fun hh => absurd hh (by decide)) (fun _ => ?_)
        refine go_aload_n (pc' := 103) cx dX6_atom2_102 rfl rfl ?_
        refine go_geti (pc' := 106) cx (kdT (mT R fr) sz S.2.1) fX6_175 dX6_atom2_103 kq88 (ltn rfl) (ltn rfl) rfl ((hM).un hu).2.2.1 rfl ?_
        refine go_iconst (pc' := 107) cx 2 dX6_atom2_106 rfl rfl ?_
        refine go_icmp_ne (pc' := 110) cx 123 dX6_atom2_107 rfl rfl (fun c107 => ?_) (fun c107 => ?_)
        · refine go_aload_n (pc' := 124) cx dX6_atom2_123 rfl rfl ?_
          refine go_geti (pc' := 127) cx 0 fX6_190 dX6_atom2_124 kq88 (ltn rfl) (ltn rfl) rfl ((hM).un hu).1 rfl ?_
          refine go_if_ne (pc' := 130) cx 157 dX6_atom2_127 rfl rfl (fun hh => absurd hh (by decide)) (fun _ => ?_)
          refine go_aload_n (pc' := 131) cx dX6_atom2_130 rfl rfl ?_
          refine go_geti (pc' := 134) cx (kdT (mT R fr) sz S.2.1) fX6_175 dX6_atom2_131 kq88 (ltn rfl) (ltn rfl) rfl ((hM).un hu).2.2.1 rfl ?_
          refine go_iconst (pc' := 135) cx 1 dX6_atom2_134 rfl rfl ?_
          refine go_icmp_ne (pc' := 138) cx 157 dX6_atom2_135 rfl rfl (fun c135 => ?_) (fun c135 => ?_)
          · refine go_aload_n (pc' := 158) cx dX6_atom2_157 rfl rfl ?_
            refine go_cVV (pc' := 161) cx (c_X6_fail l E hC hM) mX6_fail lX6_203 dX6_atom2_158 kq88 (ltn rfl) (ltn rfl) rfl rfl rfl rfl (by omega) (Nat.le_of_ble_eq_true rfl) (Nat.le_of_ble_eq_true rfl) rfl (fun G_1 mG_1 => ?_)
            refine go_iload_n (pc' := 162) cx dX6_atom2_161 rfl rfl ?_
            refine go_iret cx rfl dX6_atom2_162 ?_
            have e9 : onS (advS (mT R fr) sz) F1 F2 S = (refS S, []) := by
              unfold onS
              rw [if_neg (show ¬ S.2.2.1 ≤ 10005 by exact gt_kd ht1 c107 c135), if_neg (zero_of c8), if_neg (zero_of c43)]
            exact ZIz.mk ⟨by rw [e9]; exact mG_1, fun q9 => absurd (by rw [e9] at q9; exact q9) (ref_W hsz hM.2.2.1).2.2.1⟩
          · refine go_aload_n (pc' := 139) cx dX6_atom2_138 rfl rfl ?_
            refine go_cVI (pc' := 142) cx (c_X6_name l E hC hM hu c135) mX6_name lX6_238 dX6_atom2_139 kq88 (ltn rfl) (ltn rfl) rfl rfl rfl rfl (by omega) (Nat.le_of_ble_eq_true rfl) (Nat.le_of_ble_eq_true rfl) rfl (fun x9 G9 h9 => ?_)
            rcases h9 with ⟨n1, n2, n3⟩ | ⟨n1, n3⟩
            · refine go_istore_n (pc' := 143) cx dX6_atom2_142 (ltn rfl) [(1, .int x9), (0, .ref (E.2.1 88))] rfl rfl ?_
              refine go_aload_n (pc' := 144) cx dX6_atom2_143 rfl rfl ?_
              refine go_geti (pc' := 147) cx 0 fX6_190 dX6_atom2_144 kq88 (ltn rfl) (ltn rfl) rfl ((n3).un hu).1 rfl ?_
              refine go_if_ne (pc' := 150) cx 161 dX6_atom2_147 rfl rfl (fun hh => absurd hh (by decide)) (fun _ => ?_)
              refine go_aload_n (pc' := 151) cx dX6_atom2_150 rfl rfl ?_
              have aG_2 := adv_W n3.2.2.1 hu
              refine go_cVVz (pc' := 154) cx (c_nextM l E hC n3 hu (fun q9 => absurd (q9 ▸ n1) (by decide))) mX6_next lX6_206 dX6_atom2_151 kq88 (ltn rfl) (ltn rfl) rfl rfl rfl rfl (by omega) (Nat.le_of_ble_eq_true rfl) (Nat.le_of_ble_eq_true rfl) rfl (fun G_2 z_3 mG_2 => ?_)
              refine go_goto cx 161 dX6_atom2_154 rfl ?_
              refine go_iload_n (pc' := 162) cx dX6_atom2_161 rfl rfl ?_
              refine go_iret cx rfl dX6_atom2_162 ?_
              have e9 : onS (advS (mT R fr) sz) F1 F2 S = ((advS (mT R fr) sz) S, [S.2.2.1]) := by
                unfold onS
                rw [if_pos n1]
              exact ZIz.mk ⟨by rw [e9]; exact mG_2, fun q9 => by rw [e9]; have g9 := GC_leaf (ev := evM g0) n1; rw [if_pos (nm_ge c135 ht1)] at g9; rw [n2]; exact g9.mono hD⟩
            · refine go_istore_n (pc' := 143) cx dX6_atom2_142 (ltn rfl) [(1, .int x9), (0, .ref (E.2.1 88))] rfl rfl ?_
              refine go_aload_n (pc' := 144) cx dX6_atom2_143 rfl rfl ?_
              refine go_geti (pc' := 147) cx 1 fX6_190 dX6_atom2_144 kq88 (ltn rfl) (ltn rfl) rfl ((n3).bd (ref_W hsz hM.2.2.1).2.2.1).1 rfl ?_
              refine go_if_ne (pc' := 150) cx 161 dX6_atom2_147 rfl rfl (fun _ => ?_) (fun hh => absurd hh (by decide))
              refine go_iload_n (pc' := 162) cx dX6_atom2_161 rfl rfl ?_
              refine go_iret cx rfl dX6_atom2_162 ?_
              have e9 : onS (advS (mT R fr) sz) F1 F2 S = (refS S, []) := by
                unfold onS
                rw [if_neg (show ¬ S.2.2.1 ≤ 10005 by exact n1), if_neg (zero_of c8), if_neg (zero_of c43)]
              exact ZIz.mk ⟨by rw [e9]; exact n3, fun q9 => absurd (by rw [e9] at q9; exact q9) (ref_W hsz hM.2.2.1).2.2.1⟩
        · obtain ⟨hle9, hnk9⟩ := le_kd2 ht1 c107
          refine go_aload_n (pc' := 111) cx dX6_atom2_110 rfl rfl ?_
          refine go_getl (N := 56) (pc' := 114) cx fX6_186 dX6_atom2_111 (ltn rfl) rfl ?_
          refine go_l2i (pc' := 115) cx dX6_atom2_114 rfl ?_
          refine go_istore_n (pc' := 116) cx dX6_atom2_115 (ltn rfl) [(1, .int z.toInt32), (0, .ref (E.2.1 88))] rfl rfl ?_
          refine go_aload_n (pc' := 117) cx dX6_atom2_116 rfl rfl ?_
          have aG_4 := adv_W hM.2.2.1 hu
          refine go_cVVz (pc' := 120) cx (c_nextM l E hC hM hu (fun q9 => absurd (q9 ▸ hle9) (by decide))) mX6_next lX6_206 dX6_atom2_117 kq88 (ltn rfl) (ltn rfl) rfl rfl rfl rfl (by omega) (Nat.le_of_ble_eq_true rfl) (Nat.le_of_ble_eq_true rfl) rfl (fun G_4 z_5 mG_4 => ?_)
          refine go_goto cx 161 dX6_atom2_120 rfl ?_
          refine go_iload_n (pc' := 162) cx dX6_atom2_161 rfl rfl ?_
          refine go_iret cx rfl dX6_atom2_162 ?_
          have e9 : onS (advS (mT R fr) sz) F1 F2 S = ((advS (mT R fr) sz) S, [S.2.2.1]) := by
            unfold onS
            rw [if_pos hle9]
          exact ZIz.mk ⟨by rw [e9]; exact mG_4, fun q9 => by rw [e9]; have g9 := GC_leaf (ev := evM g0) hle9; rw [if_neg hnk9] at g9; exact (tk_32 (hu5 c107)) ▸ (g9.mono hD)⟩
      · have tc43 : S.2.2.1 = 10012 := one_of c43
        have utc43 := hM.2.2.1.un (by rw [tc43]; decide)
        refine go_aload_n (pc' := 47) cx dX6_atom2_46 rfl rfl ?_
        have aG_6 := adv_W (hM).2.2.1 utc43
        refine go_cVIz (pc' := 50) cx (c_X6_opens l E hC hM utc43 (by rw [tc43]; decide) (by omega)) mX6_opens lX6_234 dX6_atom2_47 kq88 (ltn rfl) (ltn rfl) rfl rfl rfl rfl (by omega) (Nat.le_of_ble_eq_true rfl) (Nat.le_of_ble_eq_true rfl) rfl (fun w_8 G_6 z_7 hG_6 => ?_)
        obtain ⟨eG_6, mG_6⟩ := hG_6
        subst eG_6
        refine go_if_eq (pc' := 53) cx 161 dX6_atom2_50 rfl rfl (fun hh => absurd hh (by decide)) (fun _ => ?_)
        refine go_aload_n (pc' := 54) cx dX6_atom2_53 rfl rfl ?_
        refine go_cVIz (pc' := 57) cx (hC2 (advS (mT R fr) sz S) G_6 z_7 mG_6) mX6_either3 lX6_297 dX6_atom2_54 kq88 (ltn rfl) (ltn rfl) rfl rfl rfl rfl (by omega) (Nat.le_of_ble_eq_true rfl) (Nat.le_of_ble_eq_true rfl) rfl (fun w_11 G_9 z_10 hG_9 => ?_)
        obtain ⟨mG_9, vG_9⟩ := hG_9
        refine go_istore_n (pc' := 58) cx dX6_atom2_57 (ltn rfl) [(1, .int w_11), (0, .ref (E.2.1 88))] rfl rfl ?_
        refine go_aload_n (pc' := 59) cx dX6_atom2_58 rfl rfl ?_
        refine go_bipush (pc' := 61) cx 41 dX6_atom2_59 rfl rfl ?_
        refine go_cVi (pc' := 64) cx (c_isSign_41 l E hC mG_9) mX6_isSign lX6_231 dX6_atom2_61 kq88 (ltn rfl) (ltn rfl) rfl rfl rfl rfl (by omega) (Nat.le_of_ble_eq_true rfl) (Nat.le_of_ble_eq_true rfl) rfl ?_
        refine go_if_ne (pc' := 67) cx 71 dX6_atom2_64 rfl rfl (fun c64 => ?_) (fun c64 => ?_)
        · have tc64G_9 : ((F2 (advS (mT R fr) sz S)).1).2.2.1 = 10013 := one_of c64
          have utc64G_9 := (mG_9).2.2.1.un (by rw [tc64G_9]; decide)
          refine go_aload_n (pc' := 72) cx dX6_atom2_71 rfl rfl ?_
          refine go_dup (pc' := 73) cx rfl dX6_atom2_72 rfl ?_
          refine go_geti (pc' := 76) cx (nI (2 + 1)) fX6_200 dX6_atom2_73 kq88 (ltn rfl) (ltn rfl) rfl (mG_9).2.1 rfl ?_
          refine go_iconst (pc' := 77) cx 1 dX6_atom2_76 rfl rfl ?_
          refine go_isub (pc' := 78) cx dX6_atom2_77 rfl ?_
          refine go_val (w := .int (nI 2)) (congrArg Value.int (nI_pred 2)) ?_
          refine go_puti (pc' := 81) cx fX6_200 dX6_atom2_78 kq88 (ltn rfl) (ltn rfl) rfl rfl rfl rfl ?_
          refine go_aload_n (pc' := 82) cx dX6_atom2_81 rfl rfl ?_
          refine go_geti (pc' := 85) cx 0 fX6_190 dX6_atom2_82 kq88 (ltn rfl) (ltn rfl) rfl ((((mG_9).op 2)).un utc64G_9).1 rfl ?_
          refine go_if_ne (pc' := 88) cx 161 dX6_atom2_85 rfl rfl (fun hh => absurd hh (by decide)) (fun _ => ?_)
          refine go_aload_n (pc' := 89) cx dX6_atom2_88 rfl rfl ?_
          have aG_12 := adv_W ((mG_9).op 2).2.2.1 utc64G_9
          refine go_cVVz (pc' := 92) cx (c_nextM l E hC ((mG_9).op 2) utc64G_9 (by rw [tc64G_9]; decide)) mX6_next lX6_206 dX6_atom2_89 kq88 (ltn rfl) (ltn rfl) rfl rfl rfl rfl (by omega) (Nat.le_of_ble_eq_true rfl) (Nat.le_of_ble_eq_true rfl) rfl (fun G_12 z_13 mG_12 => ?_)
          refine go_goto cx 161 dX6_atom2_92 rfl ?_
          refine go_iload_n (pc' := 162) cx dX6_atom2_161 rfl rfl ?_
          refine go_iret cx rfl dX6_atom2_162 ?_
          have e9 : onS (advS (mT R fr) sz) F1 F2 S = (demS (advS (mT R fr) sz) 10013 (F2 ((advS (mT R fr) sz) S)).1, (F2 ((advS (mT R fr) sz) S)).2) := by
            unfold onS
            rw [if_neg (by rw [tc43]; decide), if_neg (by rw [tc43]; decide), if_pos tc43]
          have d9 : demS (advS (mT R fr) sz) 10013 (F2 ((advS (mT R fr) sz) S)).1 = (advS (mT R fr) sz) (F2 ((advS (mT R fr) sz) S)).1 := if_pos tc64G_9
          exact ZIz.mk ⟨by rw [e9, d9]; exact mG_12, fun q9 => by rw [e9]; exact (vG_9 utc64G_9).mono hD2⟩
        · refine go_aload_n (pc' := 68) cx dX6_atom2_67 rfl rfl ?_
          refine go_cVV (pc' := 71) cx (c_X6_fail l E hC mG_9) mX6_fail lX6_203 dX6_atom2_68 kq88 (ltn rfl) (ltn rfl) rfl rfl rfl rfl (by omega) (Nat.le_of_ble_eq_true rfl) (Nat.le_of_ble_eq_true rfl) rfl (fun G_14 mG_14 => ?_)
          refine go_aload_n (pc' := 72) cx dX6_atom2_71 rfl rfl ?_
          refine go_dup (pc' := 73) cx rfl dX6_atom2_72 rfl ?_
          refine go_geti (pc' := 76) cx (nI (2 + 1)) fX6_200 dX6_atom2_73 kq88 (ltn rfl) (ltn rfl) rfl (mG_14).2.1 rfl ?_
          refine go_iconst (pc' := 77) cx 1 dX6_atom2_76 rfl rfl ?_
          refine go_isub (pc' := 78) cx dX6_atom2_77 rfl ?_
          refine go_val (w := .int (nI 2)) (congrArg Value.int (nI_pred 2)) ?_
          refine go_puti (pc' := 81) cx fX6_200 dX6_atom2_78 kq88 (ltn rfl) (ltn rfl) rfl rfl rfl rfl ?_
          refine go_aload_n (pc' := 82) cx dX6_atom2_81 rfl rfl ?_
          refine go_geti (pc' := 85) cx 1 fX6_190 dX6_atom2_82 kq88 (ltn rfl) (ltn rfl) rfl ((((mG_14).op 2)).bd (ref_W hsz (mG_9).2.2.1).2.2.1).1 rfl ?_
          refine go_if_ne (pc' := 88) cx 161 dX6_atom2_85 rfl rfl (fun _ => ?_) (fun hh => absurd hh (by decide))
          refine go_iload_n (pc' := 162) cx dX6_atom2_161 rfl rfl ?_
          refine go_iret cx rfl dX6_atom2_162 ?_
          have e9 : onS (advS (mT R fr) sz) F1 F2 S = (demS (advS (mT R fr) sz) 10013 (F2 ((advS (mT R fr) sz) S)).1, (F2 ((advS (mT R fr) sz) S)).2) := by
            unfold onS
            rw [if_neg (by rw [tc43]; decide), if_neg (by rw [tc43]; decide), if_pos tc43]
          have d9 : demS (advS (mT R fr) sz) 10013 (F2 ((advS (mT R fr) sz) S)).1 = refS (F2 ((advS (mT R fr) sz) S)).1 := if_neg (zero_of c64)
          exact ZIz.mk ⟨by rw [e9, d9]; exact ((mG_14).op 2), fun q9 => absurd (by rw [e9, d9] at q9; exact q9) (ref_W hsz (mG_9).2.2.1).2.2.1⟩
    · have tc8 : S.2.2.1 = 10016 := one_of c8
      have utc8 := hM.2.2.1.un (by rw [tc8]; decide)
      refine go_aload_n (pc' := 12) cx dX6_atom2_11 rfl rfl ?_
      have aG_15 := adv_W (hM).2.2.1 utc8
      refine go_cVIz (pc' := 15) cx (c_X6_opens l E hC hM utc8 (by rw [tc8]; decide) (by omega)) mX6_opens lX6_234 dX6_atom2_12 kq88 (ltn rfl) (ltn rfl) rfl rfl rfl rfl (by omega) (Nat.le_of_ble_eq_true rfl) (Nat.le_of_ble_eq_true rfl) rfl (fun w_17 G_15 z_16 hG_15 => ?_)
      obtain ⟨eG_15, mG_15⟩ := hG_15
      subst eG_15
      refine go_if_eq (pc' := 18) cx 161 dX6_atom2_15 rfl rfl (fun hh => absurd hh (by decide)) (fun _ => ?_)
      refine go_aload_n (pc' := 19) cx dX6_atom2_18 rfl rfl ?_
      refine go_cVIz (pc' := 22) cx (hC1 (advS (mT R fr) sz S) G_15 z_16 mG_15) mX6_atom3 lX6_282 dX6_atom2_19 kq88 (ltn rfl) (ltn rfl) rfl rfl rfl rfl (by omega) (Nat.le_of_ble_eq_true rfl) (Nat.le_of_ble_eq_true rfl) rfl (fun w_20 G_18 z_19 hG_18 => ?_)
      obtain ⟨mG_18, vG_18⟩ := hG_18
      refine go_ineg (pc' := 23) cx dX6_atom2_22 rfl ?_
      refine go_istore_n (pc' := 24) cx dX6_atom2_23 (ltn rfl) [(1, .int (-w_20)), (0, .ref (E.2.1 88))] rfl rfl ?_
      refine go_aload_n (pc' := 25) cx dX6_atom2_24 rfl rfl ?_
      refine go_dup (pc' := 26) cx rfl dX6_atom2_25 rfl ?_
      refine go_geti (pc' := 29) cx (nI (2 + 1)) fX6_200 dX6_atom2_26 kq88 (ltn rfl) (ltn rfl) rfl (mG_18).2.1 rfl ?_
      refine go_iconst (pc' := 30) cx 1 dX6_atom2_29 rfl rfl ?_
      refine go_isub (pc' := 31) cx dX6_atom2_30 rfl ?_
      refine go_val (w := .int (nI 2)) (congrArg Value.int (nI_pred 2)) ?_
      refine go_puti (pc' := 34) cx fX6_200 dX6_atom2_31 kq88 (ltn rfl) (ltn rfl) rfl rfl rfl rfl ?_
      refine go_goto cx 161 dX6_atom2_34 rfl ?_
      refine go_iload_n (pc' := 162) cx dX6_atom2_161 rfl rfl ?_
      refine go_iret cx rfl dX6_atom2_162 ?_
      have e9 : onS (advS (mT R fr) sz) F1 F2 S = ((F1 ((advS (mT R fr) sz) S)).1, (F1 ((advS (mT R fr) sz) S)).2 ++ [10020]) := by
        unfold onS
        rw [if_neg (by rw [tc8]; decide), if_pos tc8]
      exact ZIz.mk ⟨by rw [e9]; exact ((mG_18).op 2), fun q9 => by rw [e9] at q9 ⊢; exact (GC_neg (vG_18 q9)).mono hD1⟩
  · obtain ⟨hf1, hf2, hf3⟩ := hM.bd hu
    refine go_iconst (pc' := 1) cx 0 dX6_atom2_0 rfl rfl ?_
    refine go_istore_n (pc' := 2) cx dX6_atom2_1 (ltn rfl) [(1, .int 0), (0, .ref (E.2.1 88))] rfl rfl ?_
    refine go_aload_n (pc' := 3) cx dX6_atom2_2 rfl rfl ?_
    refine go_bipush (pc' := 5) cx 45 dX6_atom2_3 rfl rfl ?_
    refine go_cVi (pc' := 8) cx (c_isSignF_45 l E hC hM hf3) mX6_isSign lX6_231 dX6_atom2_5 kq88 (ltn rfl) (ltn rfl) rfl rfl rfl rfl (by omega) (Nat.le_of_ble_eq_true rfl) (Nat.le_of_ble_eq_true rfl) rfl ?_
    refine go_if_eq (pc' := 11) cx 37 dX6_atom2_8 rfl rfl (fun _ => ?_) (fun hh => absurd hh (by decide))
    refine go_aload_n (pc' := 38) cx dX6_atom2_37 rfl rfl ?_
    refine go_bipush (pc' := 40) cx 40 dX6_atom2_38 rfl rfl ?_
    refine go_cVi (pc' := 43) cx (c_isSignF_40 l E hC hM hf3) mX6_isSign lX6_231 dX6_atom2_40 kq88 (ltn rfl) (ltn rfl) rfl rfl rfl rfl (by omega) (Nat.le_of_ble_eq_true rfl) (Nat.le_of_ble_eq_true rfl) rfl ?_
    refine go_if_eq (pc' := 46) cx 95 dX6_atom2_43 rfl rfl (fun _ => ?_) (fun hh => absurd hh (by decide))
    refine go_aload_n (pc' := 96) cx dX6_atom2_95 rfl rfl ?_
    refine go_geti (pc' := 99) cx 1 fX6_190 dX6_atom2_96 kq88 (ltn rfl) (ltn rfl) rfl ((hM).bd hu).1 rfl ?_
    refine go_if_ne (pc' := 102) cx 123 dX6_atom2_99 rfl rfl (fun _ => ?_) (fun hh => absurd hh (by decide))
    refine go_aload_n (pc' := 124) cx dX6_atom2_123 rfl rfl ?_
    refine go_geti (pc' := 127) cx 1 fX6_190 dX6_atom2_124 kq88 (ltn rfl) (ltn rfl) rfl ((hM).bd hu).1 rfl ?_
    refine go_if_ne (pc' := 130) cx 157 dX6_atom2_127 rfl rfl (fun _ => ?_) (fun hh => absurd hh (by decide))
    refine go_aload_n (pc' := 158) cx dX6_atom2_157 rfl rfl ?_
    refine go_cVV (pc' := 161) cx (c_X6_fail l E hC hM) mX6_fail lX6_203 dX6_atom2_158 kq88 (ltn rfl) (ltn rfl) rfl rfl rfl rfl (by omega) (Nat.le_of_ble_eq_true rfl) (Nat.le_of_ble_eq_true rfl) rfl (fun G_1 mG_1 => ?_)
    refine go_iload_n (pc' := 162) cx dX6_atom2_161 rfl rfl ?_
    refine go_iret cx rfl dX6_atom2_162 ?_
    have e9 : onS (advS (mT R fr) sz) F1 F2 S = (refS S, []) := by
      unfold onS
      rw [if_neg (by rw [hf3]; decide), if_neg (by rw [hf3]; decide), if_neg (by rw [hf3]; decide)]
    exact ZIz.mk ⟨by rw [e9]; exact mG_1, fun q9 => absurd (by rw [e9] at q9; exact q9) (ref_W hsz hM.2.2.1).2.2.1⟩

set_option maxHeartbeats 1000000 in
set_option maxRecDepth 20000 in
theorem c_X6_atom3 (l : Launch) (E : Ev) {g0 : IG} {o : Option Nat} {fr sz : Nat} {R : Nat → Int32} (hC : MCx g0 fr sz R) {F1 F2 : PF} (hP1 : Pp (mT R fr) sz F1) (hP2 : Pp (mT R fr) sz F2) {D D1 D2 d d1 d2 : Nat} (hD : 1 ≤ D) (hD1 : D1 ≤ D) (hD2 : D2 ≤ D) (hd : 5 ≤ d) (hd1 : d1 ≤ d) (hd2 : d2 ≤ d) (hC1 : McC l E o g0 fr sz R 4 yX6_atom4 cX6_atom4 2 d1 F1 D1) (hC2 : McC l E o g0 fr sz R 4 yX6_either4 cX6_either4 3 d2 F2 D2)  : McC l E o g0 fr sz R 3 yX6_atom3 cX6_atom3 2 (d + 1) (onS (advS (mT R fr) sz) F1 F2) D := by
  intro S g z hM
  refine Ct.of (lv0 := [(0, .ref (E.2.1 88))]) (by decide) (Nat.le_of_ble_eq_true rfl) rfl ?_
  intro p e s m below meth c cx
  obtain ⟨hfr, hsz, h26, h27, h89, hT0⟩ := id hC
  by_cases hu : S.2.2.2 = -1
  · obtain ⟨hu1, hu2, hu3, hu4, hu5, hu6⟩ := hM.un hu
    obtain ⟨ht1, ht2, ht3⟩ := hM.tk hu
    refine go_iconst (pc' := 1) cx 0 dX6_atom3_0 rfl rfl ?_
    refine go_istore_n (pc' := 2) cx dX6_atom3_1 (ltn rfl) [(1, .int 0), (0, .ref (E.2.1 88))] rfl rfl ?_
    refine go_aload_n (pc' := 3) cx dX6_atom3_2 rfl rfl ?_
    refine go_bipush (pc' := 5) cx 45 dX6_atom3_3 rfl rfl ?_
    refine go_cVi (pc' := 8) cx (c_isSign_45 l E hC hM) mX6_isSign lX6_231 dX6_atom3_5 kq88 (ltn rfl) (ltn rfl) rfl rfl rfl rfl (by omega) (Nat.le_of_ble_eq_true rfl) (Nat.le_of_ble_eq_true rfl) rfl ?_
    refine go_if_eq (pc' := 11) cx 37 dX6_atom3_8 rfl rfl (fun c8 => ?_) (fun c8 => ?_)
    · refine go_aload_n (pc' := 38) cx dX6_atom3_37 rfl rfl ?_
      refine go_bipush (pc' := 40) cx 40 dX6_atom3_38 rfl rfl ?_
      refine go_cVi (pc' := 43) cx (c_isSign_40 l E hC hM) mX6_isSign lX6_231 dX6_atom3_40 kq88 (ltn rfl) (ltn rfl) rfl rfl rfl rfl (by omega) (Nat.le_of_ble_eq_true rfl) (Nat.le_of_ble_eq_true rfl) rfl ?_
      refine go_if_eq (pc' := 46) cx 95 dX6_atom3_43 rfl rfl (fun c43 => ?_) (fun c43 => ?_)
      · refine go_aload_n (pc' := 96) cx dX6_atom3_95 rfl rfl ?_
        refine go_geti (pc' := 99) cx 0 fX6_190 dX6_atom3_96 kq88 (ltn rfl) (ltn rfl) rfl ((hM).un hu).1 rfl ?_
        refine go_if_ne (pc' := 102) cx 123 dX6_atom3_99 rfl rfl (fun hh => absurd hh (by decide)) (fun _ => ?_)
        refine go_aload_n (pc' := 103) cx dX6_atom3_102 rfl rfl ?_
        refine go_geti (pc' := 106) cx (kdT (mT R fr) sz S.2.1) fX6_175 dX6_atom3_103 kq88 (ltn rfl) (ltn rfl) rfl ((hM).un hu).2.2.1 rfl ?_
        refine go_iconst (pc' := 107) cx 2 dX6_atom3_106 rfl rfl ?_
        refine go_icmp_ne (pc' := 110) cx 123 dX6_atom3_107 rfl rfl (fun c107 => ?_) (fun c107 => ?_)
        · refine go_aload_n (pc' := 124) cx dX6_atom3_123 rfl rfl ?_
          refine go_geti (pc' := 127) cx 0 fX6_190 dX6_atom3_124 kq88 (ltn rfl) (ltn rfl) rfl ((hM).un hu).1 rfl ?_
          refine go_if_ne (pc' := 130) cx 157 dX6_atom3_127 rfl rfl (fun hh => absurd hh (by decide)) (fun _ => ?_)
          refine go_aload_n (pc' := 131) cx dX6_atom3_130 rfl rfl ?_
          refine go_geti (pc' := 134) cx (kdT (mT R fr) sz S.2.1) fX6_175 dX6_atom3_131 kq88 (ltn rfl) (ltn rfl) rfl ((hM).un hu).2.2.1 rfl ?_
          refine go_iconst (pc' := 135) cx 1 dX6_atom3_134 rfl rfl ?_
          refine go_icmp_ne (pc' := 138) cx 157 dX6_atom3_135 rfl rfl (fun c135 => ?_) (fun c135 => ?_)
          · refine go_aload_n (pc' := 158) cx dX6_atom3_157 rfl rfl ?_
            refine go_cVV (pc' := 161) cx (c_X6_fail l E hC hM) mX6_fail lX6_203 dX6_atom3_158 kq88 (ltn rfl) (ltn rfl) rfl rfl rfl rfl (by omega) (Nat.le_of_ble_eq_true rfl) (Nat.le_of_ble_eq_true rfl) rfl (fun G_1 mG_1 => ?_)
            refine go_iload_n (pc' := 162) cx dX6_atom3_161 rfl rfl ?_
            refine go_iret cx rfl dX6_atom3_162 ?_
            have e9 : onS (advS (mT R fr) sz) F1 F2 S = (refS S, []) := by
              unfold onS
              rw [if_neg (show ¬ S.2.2.1 ≤ 10005 by exact gt_kd ht1 c107 c135), if_neg (zero_of c8), if_neg (zero_of c43)]
            exact ZIz.mk ⟨by rw [e9]; exact mG_1, fun q9 => absurd (by rw [e9] at q9; exact q9) (ref_W hsz hM.2.2.1).2.2.1⟩
          · refine go_aload_n (pc' := 139) cx dX6_atom3_138 rfl rfl ?_
            refine go_cVI (pc' := 142) cx (c_X6_name l E hC hM hu c135) mX6_name lX6_238 dX6_atom3_139 kq88 (ltn rfl) (ltn rfl) rfl rfl rfl rfl (by omega) (Nat.le_of_ble_eq_true rfl) (Nat.le_of_ble_eq_true rfl) rfl (fun x9 G9 h9 => ?_)
            rcases h9 with ⟨n1, n2, n3⟩ | ⟨n1, n3⟩
            · refine go_istore_n (pc' := 143) cx dX6_atom3_142 (ltn rfl) [(1, .int x9), (0, .ref (E.2.1 88))] rfl rfl ?_
              refine go_aload_n (pc' := 144) cx dX6_atom3_143 rfl rfl ?_
              refine go_geti (pc' := 147) cx 0 fX6_190 dX6_atom3_144 kq88 (ltn rfl) (ltn rfl) rfl ((n3).un hu).1 rfl ?_
              refine go_if_ne (pc' := 150) cx 161 dX6_atom3_147 rfl rfl (fun hh => absurd hh (by decide)) (fun _ => ?_)
              refine go_aload_n (pc' := 151) cx dX6_atom3_150 rfl rfl ?_
              have aG_2 := adv_W n3.2.2.1 hu
              refine go_cVVz (pc' := 154) cx (c_nextM l E hC n3 hu (fun q9 => absurd (q9 ▸ n1) (by decide))) mX6_next lX6_206 dX6_atom3_151 kq88 (ltn rfl) (ltn rfl) rfl rfl rfl rfl (by omega) (Nat.le_of_ble_eq_true rfl) (Nat.le_of_ble_eq_true rfl) rfl (fun G_2 z_3 mG_2 => ?_)
              refine go_goto cx 161 dX6_atom3_154 rfl ?_
              refine go_iload_n (pc' := 162) cx dX6_atom3_161 rfl rfl ?_
              refine go_iret cx rfl dX6_atom3_162 ?_
              have e9 : onS (advS (mT R fr) sz) F1 F2 S = ((advS (mT R fr) sz) S, [S.2.2.1]) := by
                unfold onS
                rw [if_pos n1]
              exact ZIz.mk ⟨by rw [e9]; exact mG_2, fun q9 => by rw [e9]; have g9 := GC_leaf (ev := evM g0) n1; rw [if_pos (nm_ge c135 ht1)] at g9; rw [n2]; exact g9.mono hD⟩
            · refine go_istore_n (pc' := 143) cx dX6_atom3_142 (ltn rfl) [(1, .int x9), (0, .ref (E.2.1 88))] rfl rfl ?_
              refine go_aload_n (pc' := 144) cx dX6_atom3_143 rfl rfl ?_
              refine go_geti (pc' := 147) cx 1 fX6_190 dX6_atom3_144 kq88 (ltn rfl) (ltn rfl) rfl ((n3).bd (ref_W hsz hM.2.2.1).2.2.1).1 rfl ?_
              refine go_if_ne (pc' := 150) cx 161 dX6_atom3_147 rfl rfl (fun _ => ?_) (fun hh => absurd hh (by decide))
              refine go_iload_n (pc' := 162) cx dX6_atom3_161 rfl rfl ?_
              refine go_iret cx rfl dX6_atom3_162 ?_
              have e9 : onS (advS (mT R fr) sz) F1 F2 S = (refS S, []) := by
                unfold onS
                rw [if_neg (show ¬ S.2.2.1 ≤ 10005 by exact n1), if_neg (zero_of c8), if_neg (zero_of c43)]
              exact ZIz.mk ⟨by rw [e9]; exact n3, fun q9 => absurd (by rw [e9] at q9; exact q9) (ref_W hsz hM.2.2.1).2.2.1⟩
        · obtain ⟨hle9, hnk9⟩ := le_kd2 ht1 c107
          refine go_aload_n (pc' := 111) cx dX6_atom3_110 rfl rfl ?_
          refine go_getl (N := 56) (pc' := 114) cx fX6_186 dX6_atom3_111 (ltn rfl) rfl ?_
          refine go_l2i (pc' := 115) cx dX6_atom3_114 rfl ?_
          refine go_istore_n (pc' := 116) cx dX6_atom3_115 (ltn rfl) [(1, .int z.toInt32), (0, .ref (E.2.1 88))] rfl rfl ?_
          refine go_aload_n (pc' := 117) cx dX6_atom3_116 rfl rfl ?_
          have aG_4 := adv_W hM.2.2.1 hu
          refine go_cVVz (pc' := 120) cx (c_nextM l E hC hM hu (fun q9 => absurd (q9 ▸ hle9) (by decide))) mX6_next lX6_206 dX6_atom3_117 kq88 (ltn rfl) (ltn rfl) rfl rfl rfl rfl (by omega) (Nat.le_of_ble_eq_true rfl) (Nat.le_of_ble_eq_true rfl) rfl (fun G_4 z_5 mG_4 => ?_)
          refine go_goto cx 161 dX6_atom3_120 rfl ?_
          refine go_iload_n (pc' := 162) cx dX6_atom3_161 rfl rfl ?_
          refine go_iret cx rfl dX6_atom3_162 ?_
          have e9 : onS (advS (mT R fr) sz) F1 F2 S = ((advS (mT R fr) sz) S, [S.2.2.1]) := by
            unfold onS
            rw [if_pos hle9]
          exact ZIz.mk ⟨by rw [e9]; exact mG_4, fun q9 => by rw [e9]; have g9 := GC_leaf (ev := evM g0) hle9; rw [if_neg hnk9] at g9; exact (tk_32 (hu5 c107)) ▸ (g9.mono hD)⟩
      · have tc43 : S.2.2.1 = 10012 := one_of c43
        have utc43 := hM.2.2.1.un (by rw [tc43]; decide)
        refine go_aload_n (pc' := 47) cx dX6_atom3_46 rfl rfl ?_
        have aG_6 := adv_W (hM).2.2.1 utc43
        refine go_cVIz (pc' := 50) cx (c_X6_opens l E hC hM utc43 (by rw [tc43]; decide) (by omega)) mX6_opens lX6_234 dX6_atom3_47 kq88 (ltn rfl) (ltn rfl) rfl rfl rfl rfl (by omega) (Nat.le_of_ble_eq_true rfl) (Nat.le_of_ble_eq_true rfl) rfl (fun w_8 G_6 z_7 hG_6 => ?_)
        obtain ⟨eG_6, mG_6⟩ := hG_6
        subst eG_6
        refine go_if_eq (pc' := 53) cx 161 dX6_atom3_50 rfl rfl (fun hh => absurd hh (by decide)) (fun _ => ?_)
        refine go_aload_n (pc' := 54) cx dX6_atom3_53 rfl rfl ?_
        refine go_cVIz (pc' := 57) cx (hC2 (advS (mT R fr) sz S) G_6 z_7 mG_6) mX6_either4 lX6_279 dX6_atom3_54 kq88 (ltn rfl) (ltn rfl) rfl rfl rfl rfl (by omega) (Nat.le_of_ble_eq_true rfl) (Nat.le_of_ble_eq_true rfl) rfl (fun w_11 G_9 z_10 hG_9 => ?_)
        obtain ⟨mG_9, vG_9⟩ := hG_9
        refine go_istore_n (pc' := 58) cx dX6_atom3_57 (ltn rfl) [(1, .int w_11), (0, .ref (E.2.1 88))] rfl rfl ?_
        refine go_aload_n (pc' := 59) cx dX6_atom3_58 rfl rfl ?_
        refine go_bipush (pc' := 61) cx 41 dX6_atom3_59 rfl rfl ?_
        refine go_cVi (pc' := 64) cx (c_isSign_41 l E hC mG_9) mX6_isSign lX6_231 dX6_atom3_61 kq88 (ltn rfl) (ltn rfl) rfl rfl rfl rfl (by omega) (Nat.le_of_ble_eq_true rfl) (Nat.le_of_ble_eq_true rfl) rfl ?_
        refine go_if_ne (pc' := 67) cx 71 dX6_atom3_64 rfl rfl (fun c64 => ?_) (fun c64 => ?_)
        · have tc64G_9 : ((F2 (advS (mT R fr) sz S)).1).2.2.1 = 10013 := one_of c64
          have utc64G_9 := (mG_9).2.2.1.un (by rw [tc64G_9]; decide)
          refine go_aload_n (pc' := 72) cx dX6_atom3_71 rfl rfl ?_
          refine go_dup (pc' := 73) cx rfl dX6_atom3_72 rfl ?_
          refine go_geti (pc' := 76) cx (nI (3 + 1)) fX6_200 dX6_atom3_73 kq88 (ltn rfl) (ltn rfl) rfl (mG_9).2.1 rfl ?_
          refine go_iconst (pc' := 77) cx 1 dX6_atom3_76 rfl rfl ?_
          refine go_isub (pc' := 78) cx dX6_atom3_77 rfl ?_
          refine go_val (w := .int (nI 3)) (congrArg Value.int (nI_pred 3)) ?_
          refine go_puti (pc' := 81) cx fX6_200 dX6_atom3_78 kq88 (ltn rfl) (ltn rfl) rfl rfl rfl rfl ?_
          refine go_aload_n (pc' := 82) cx dX6_atom3_81 rfl rfl ?_
          refine go_geti (pc' := 85) cx 0 fX6_190 dX6_atom3_82 kq88 (ltn rfl) (ltn rfl) rfl ((((mG_9).op 3)).un utc64G_9).1 rfl ?_
          refine go_if_ne (pc' := 88) cx 161 dX6_atom3_85 rfl rfl (fun hh => absurd hh (by decide)) (fun _ => ?_)
          refine go_aload_n (pc' := 89) cx dX6_atom3_88 rfl rfl ?_
          have aG_12 := adv_W ((mG_9).op 3).2.2.1 utc64G_9
          refine go_cVVz (pc' := 92) cx (c_nextM l E hC ((mG_9).op 3) utc64G_9 (by rw [tc64G_9]; decide)) mX6_next lX6_206 dX6_atom3_89 kq88 (ltn rfl) (ltn rfl) rfl rfl rfl rfl (by omega) (Nat.le_of_ble_eq_true rfl) (Nat.le_of_ble_eq_true rfl) rfl (fun G_12 z_13 mG_12 => ?_)
          refine go_goto cx 161 dX6_atom3_92 rfl ?_
          refine go_iload_n (pc' := 162) cx dX6_atom3_161 rfl rfl ?_
          refine go_iret cx rfl dX6_atom3_162 ?_
          have e9 : onS (advS (mT R fr) sz) F1 F2 S = (demS (advS (mT R fr) sz) 10013 (F2 ((advS (mT R fr) sz) S)).1, (F2 ((advS (mT R fr) sz) S)).2) := by
            unfold onS
            rw [if_neg (by rw [tc43]; decide), if_neg (by rw [tc43]; decide), if_pos tc43]
          have d9 : demS (advS (mT R fr) sz) 10013 (F2 ((advS (mT R fr) sz) S)).1 = (advS (mT R fr) sz) (F2 ((advS (mT R fr) sz) S)).1 := if_pos tc64G_9
          exact ZIz.mk ⟨by rw [e9, d9]; exact mG_12, fun q9 => by rw [e9]; exact (vG_9 utc64G_9).mono hD2⟩
        · refine go_aload_n (pc' := 68) cx dX6_atom3_67 rfl rfl ?_
          refine go_cVV (pc' := 71) cx (c_X6_fail l E hC mG_9) mX6_fail lX6_203 dX6_atom3_68 kq88 (ltn rfl) (ltn rfl) rfl rfl rfl rfl (by omega) (Nat.le_of_ble_eq_true rfl) (Nat.le_of_ble_eq_true rfl) rfl (fun G_14 mG_14 => ?_)
          refine go_aload_n (pc' := 72) cx dX6_atom3_71 rfl rfl ?_
          refine go_dup (pc' := 73) cx rfl dX6_atom3_72 rfl ?_
          refine go_geti (pc' := 76) cx (nI (3 + 1)) fX6_200 dX6_atom3_73 kq88 (ltn rfl) (ltn rfl) rfl (mG_14).2.1 rfl ?_
          refine go_iconst (pc' := 77) cx 1 dX6_atom3_76 rfl rfl ?_
          refine go_isub (pc' := 78) cx dX6_atom3_77 rfl ?_
          refine go_val (w := .int (nI 3)) (congrArg Value.int (nI_pred 3)) ?_
          refine go_puti (pc' := 81) cx fX6_200 dX6_atom3_78 kq88 (ltn rfl) (ltn rfl) rfl rfl rfl rfl ?_
          refine go_aload_n (pc' := 82) cx dX6_atom3_81 rfl rfl ?_
          refine go_geti (pc' := 85) cx 1 fX6_190 dX6_atom3_82 kq88 (ltn rfl) (ltn rfl) rfl ((((mG_14).op 3)).bd (ref_W hsz (mG_9).2.2.1).2.2.1).1 rfl ?_
          refine go_if_ne (pc' := 88) cx 161 dX6_atom3_85 rfl rfl (fun _ => ?_) (fun hh => absurd hh (by decide))
          refine go_iload_n (pc' := 162) cx dX6_atom3_161 rfl rfl ?_
          refine go_iret cx rfl dX6_atom3_162 ?_
          have e9 : onS (advS (mT R fr) sz) F1 F2 S = (demS (advS (mT R fr) sz) 10013 (F2 ((advS (mT R fr) sz) S)).1, (F2 ((advS (mT R fr) sz) S)).2) := by
            unfold onS
            rw [if_neg (by rw [tc43]; decide), if_neg (by rw [tc43]; decide), if_pos tc43]
          have d9 : demS (advS (mT R fr) sz) 10013 (F2 ((advS (mT R fr) sz) S)).1 = refS (F2 ((advS (mT R fr) sz) S)).1 := if_neg (zero_of c64)
          exact ZIz.mk ⟨by rw [e9, d9]; exact ((mG_14).op 3), fun q9 => absurd (by rw [e9, d9] at q9; exact q9) (ref_W hsz (mG_9).2.2.1).2.2.1⟩
    · have tc8 : S.2.2.1 = 10016 := one_of c8
      have utc8 := hM.2.2.1.un (by rw [tc8]; decide)
      refine go_aload_n (pc' := 12) cx dX6_atom3_11 rfl rfl ?_
      have aG_15 := adv_W (hM).2.2.1 utc8
      refine go_cVIz (pc' := 15) cx (c_X6_opens l E hC hM utc8 (by rw [tc8]; decide) (by omega)) mX6_opens lX6_234 dX6_atom3_12 kq88 (ltn rfl) (ltn rfl) rfl rfl rfl rfl (by omega) (Nat.le_of_ble_eq_true rfl) (Nat.le_of_ble_eq_true rfl) rfl (fun w_17 G_15 z_16 hG_15 => ?_)
      obtain ⟨eG_15, mG_15⟩ := hG_15
      subst eG_15
      refine go_if_eq (pc' := 18) cx 161 dX6_atom3_15 rfl rfl (fun hh => absurd hh (by decide)) (fun _ => ?_)
      refine go_aload_n (pc' := 19) cx dX6_atom3_18 rfl rfl ?_
      refine go_cVIz (pc' := 22) cx (hC1 (advS (mT R fr) sz S) G_15 z_16 mG_15) mX6_atom4 lX6_264 dX6_atom3_19 kq88 (ltn rfl) (ltn rfl) rfl rfl rfl rfl (by omega) (Nat.le_of_ble_eq_true rfl) (Nat.le_of_ble_eq_true rfl) rfl (fun w_20 G_18 z_19 hG_18 => ?_)
      obtain ⟨mG_18, vG_18⟩ := hG_18
      refine go_ineg (pc' := 23) cx dX6_atom3_22 rfl ?_
      refine go_istore_n (pc' := 24) cx dX6_atom3_23 (ltn rfl) [(1, .int (-w_20)), (0, .ref (E.2.1 88))] rfl rfl ?_
      refine go_aload_n (pc' := 25) cx dX6_atom3_24 rfl rfl ?_
      refine go_dup (pc' := 26) cx rfl dX6_atom3_25 rfl ?_
      refine go_geti (pc' := 29) cx (nI (3 + 1)) fX6_200 dX6_atom3_26 kq88 (ltn rfl) (ltn rfl) rfl (mG_18).2.1 rfl ?_
      refine go_iconst (pc' := 30) cx 1 dX6_atom3_29 rfl rfl ?_
      refine go_isub (pc' := 31) cx dX6_atom3_30 rfl ?_
      refine go_val (w := .int (nI 3)) (congrArg Value.int (nI_pred 3)) ?_
      refine go_puti (pc' := 34) cx fX6_200 dX6_atom3_31 kq88 (ltn rfl) (ltn rfl) rfl rfl rfl rfl ?_
      refine go_goto cx 161 dX6_atom3_34 rfl ?_
      refine go_iload_n (pc' := 162) cx dX6_atom3_161 rfl rfl ?_
      refine go_iret cx rfl dX6_atom3_162 ?_
      have e9 : onS (advS (mT R fr) sz) F1 F2 S = ((F1 ((advS (mT R fr) sz) S)).1, (F1 ((advS (mT R fr) sz) S)).2 ++ [10020]) := by
        unfold onS
        rw [if_neg (by rw [tc8]; decide), if_pos tc8]
      exact ZIz.mk ⟨by rw [e9]; exact ((mG_18).op 3), fun q9 => by rw [e9] at q9 ⊢; exact (GC_neg (vG_18 q9)).mono hD1⟩
  · obtain ⟨hf1, hf2, hf3⟩ := hM.bd hu
    refine go_iconst (pc' := 1) cx 0 dX6_atom3_0 rfl rfl ?_
    refine go_istore_n (pc' := 2) cx dX6_atom3_1 (ltn rfl) [(1, .int 0), (0, .ref (E.2.1 88))] rfl rfl ?_
    refine go_aload_n (pc' := 3) cx dX6_atom3_2 rfl rfl ?_
    refine go_bipush (pc' := 5) cx 45 dX6_atom3_3 rfl rfl ?_
    refine go_cVi (pc' := 8) cx (c_isSignF_45 l E hC hM hf3) mX6_isSign lX6_231 dX6_atom3_5 kq88 (ltn rfl) (ltn rfl) rfl rfl rfl rfl (by omega) (Nat.le_of_ble_eq_true rfl) (Nat.le_of_ble_eq_true rfl) rfl ?_
    refine go_if_eq (pc' := 11) cx 37 dX6_atom3_8 rfl rfl (fun _ => ?_) (fun hh => absurd hh (by decide))
    refine go_aload_n (pc' := 38) cx dX6_atom3_37 rfl rfl ?_
    refine go_bipush (pc' := 40) cx 40 dX6_atom3_38 rfl rfl ?_
    refine go_cVi (pc' := 43) cx (c_isSignF_40 l E hC hM hf3) mX6_isSign lX6_231 dX6_atom3_40 kq88 (ltn rfl) (ltn rfl) rfl rfl rfl rfl (by omega) (Nat.le_of_ble_eq_true rfl) (Nat.le_of_ble_eq_true rfl) rfl ?_
    refine go_if_eq (pc' := 46) cx 95 dX6_atom3_43 rfl rfl (fun _ => ?_) (fun hh => absurd hh (by decide))
    refine go_aload_n (pc' := 96) cx dX6_atom3_95 rfl rfl ?_
    refine go_geti (pc' := 99) cx 1 fX6_190 dX6_atom3_96 kq88 (ltn rfl) (ltn rfl) rfl ((hM).bd hu).1 rfl ?_
    refine go_if_ne (pc' := 102) cx 123 dX6_atom3_99 rfl rfl (fun _ => ?_) (fun hh => absurd hh (by decide))
    refine go_aload_n (pc' := 124) cx dX6_atom3_123 rfl rfl ?_
    refine go_geti (pc' := 127) cx 1 fX6_190 dX6_atom3_124 kq88 (ltn rfl) (ltn rfl) rfl ((hM).bd hu).1 rfl ?_
    refine go_if_ne (pc' := 130) cx 157 dX6_atom3_127 rfl rfl (fun _ => ?_) (fun hh => absurd hh (by decide))
    refine go_aload_n (pc' := 158) cx dX6_atom3_157 rfl rfl ?_
    refine go_cVV (pc' := 161) cx (c_X6_fail l E hC hM) mX6_fail lX6_203 dX6_atom3_158 kq88 (ltn rfl) (ltn rfl) rfl rfl rfl rfl (by omega) (Nat.le_of_ble_eq_true rfl) (Nat.le_of_ble_eq_true rfl) rfl (fun G_1 mG_1 => ?_)
    refine go_iload_n (pc' := 162) cx dX6_atom3_161 rfl rfl ?_
    refine go_iret cx rfl dX6_atom3_162 ?_
    have e9 : onS (advS (mT R fr) sz) F1 F2 S = (refS S, []) := by
      unfold onS
      rw [if_neg (by rw [hf3]; decide), if_neg (by rw [hf3]; decide), if_neg (by rw [hf3]; decide)]
    exact ZIz.mk ⟨by rw [e9]; exact mG_1, fun q9 => absurd (by rw [e9] at q9; exact q9) (ref_W hsz hM.2.2.1).2.2.1⟩

set_option maxHeartbeats 1000000 in
set_option maxRecDepth 20000 in
theorem c_X6_atom4 (l : Launch) (E : Ev) {g0 : IG} {o : Option Nat} {fr sz : Nat} {R : Nat → Int32} (hC : MCx g0 fr sz R) {F1 F2 : PF} (hP1 : Pp (mT R fr) sz F1) (hP2 : Pp (mT R fr) sz F2) {D D1 D2 d d1 d2 : Nat} (hD : 1 ≤ D) (hD1 : D1 ≤ D) (hD2 : D2 ≤ D) (hd : 5 ≤ d) (hd1 : d1 ≤ d) (hd2 : d2 ≤ d) (hC1 : McC l E o g0 fr sz R 5 yX6_atom5 cX6_atom5 2 d1 F1 D1) (hC2 : McC l E o g0 fr sz R 5 yX6_either5 cX6_either5 3 d2 F2 D2)  : McC l E o g0 fr sz R 4 yX6_atom4 cX6_atom4 2 (d + 1) (onS (advS (mT R fr) sz) F1 F2) D := by
  intro S g z hM
  refine Ct.of (lv0 := [(0, .ref (E.2.1 88))]) (by decide) (Nat.le_of_ble_eq_true rfl) rfl ?_
  intro p e s m below meth c cx
  obtain ⟨hfr, hsz, h26, h27, h89, hT0⟩ := id hC
  by_cases hu : S.2.2.2 = -1
  · obtain ⟨hu1, hu2, hu3, hu4, hu5, hu6⟩ := hM.un hu
    obtain ⟨ht1, ht2, ht3⟩ := hM.tk hu
    refine go_iconst (pc' := 1) cx 0 dX6_atom4_0 rfl rfl ?_
    refine go_istore_n (pc' := 2) cx dX6_atom4_1 (ltn rfl) [(1, .int 0), (0, .ref (E.2.1 88))] rfl rfl ?_
    refine go_aload_n (pc' := 3) cx dX6_atom4_2 rfl rfl ?_
    refine go_bipush (pc' := 5) cx 45 dX6_atom4_3 rfl rfl ?_
    refine go_cVi (pc' := 8) cx (c_isSign_45 l E hC hM) mX6_isSign lX6_231 dX6_atom4_5 kq88 (ltn rfl) (ltn rfl) rfl rfl rfl rfl (by omega) (Nat.le_of_ble_eq_true rfl) (Nat.le_of_ble_eq_true rfl) rfl ?_
    refine go_if_eq (pc' := 11) cx 37 dX6_atom4_8 rfl rfl (fun c8 => ?_) (fun c8 => ?_)
    · refine go_aload_n (pc' := 38) cx dX6_atom4_37 rfl rfl ?_
      refine go_bipush (pc' := 40) cx 40 dX6_atom4_38 rfl rfl ?_
      refine go_cVi (pc' := 43) cx (c_isSign_40 l E hC hM) mX6_isSign lX6_231 dX6_atom4_40 kq88 (ltn rfl) (ltn rfl) rfl rfl rfl rfl (by omega) (Nat.le_of_ble_eq_true rfl) (Nat.le_of_ble_eq_true rfl) rfl ?_
      refine go_if_eq (pc' := 46) cx 95 dX6_atom4_43 rfl rfl (fun c43 => ?_) (fun c43 => ?_)
      · refine go_aload_n (pc' := 96) cx dX6_atom4_95 rfl rfl ?_
        refine go_geti (pc' := 99) cx 0 fX6_190 dX6_atom4_96 kq88 (ltn rfl) (ltn rfl) rfl ((hM).un hu).1 rfl ?_
        refine go_if_ne (pc' := 102) cx 123 dX6_atom4_99 rfl rfl (fun hh => absurd hh (by decide)) (fun _ => ?_)
        refine go_aload_n (pc' := 103) cx dX6_atom4_102 rfl rfl ?_
        refine go_geti (pc' := 106) cx (kdT (mT R fr) sz S.2.1) fX6_175 dX6_atom4_103 kq88 (ltn rfl) (ltn rfl) rfl ((hM).un hu).2.2.1 rfl ?_
        refine go_iconst (pc' := 107) cx 2 dX6_atom4_106 rfl rfl ?_
        refine go_icmp_ne (pc' := 110) cx 123 dX6_atom4_107 rfl rfl (fun c107 => ?_) (fun c107 => ?_)
        · refine go_aload_n (pc' := 124) cx dX6_atom4_123 rfl rfl ?_
          refine go_geti (pc' := 127) cx 0 fX6_190 dX6_atom4_124 kq88 (ltn rfl) (ltn rfl) rfl ((hM).un hu).1 rfl ?_
          refine go_if_ne (pc' := 130) cx 157 dX6_atom4_127 rfl rfl (fun hh => absurd hh (by decide)) (fun _ => ?_)
          refine go_aload_n (pc' := 131) cx dX6_atom4_130 rfl rfl ?_
          refine go_geti (pc' := 134) cx (kdT (mT R fr) sz S.2.1) fX6_175 dX6_atom4_131 kq88 (ltn rfl) (ltn rfl) rfl ((hM).un hu).2.2.1 rfl ?_
          refine go_iconst (pc' := 135) cx 1 dX6_atom4_134 rfl rfl ?_
          refine go_icmp_ne (pc' := 138) cx 157 dX6_atom4_135 rfl rfl (fun c135 => ?_) (fun c135 => ?_)
          · refine go_aload_n (pc' := 158) cx dX6_atom4_157 rfl rfl ?_
            refine go_cVV (pc' := 161) cx (c_X6_fail l E hC hM) mX6_fail lX6_203 dX6_atom4_158 kq88 (ltn rfl) (ltn rfl) rfl rfl rfl rfl (by omega) (Nat.le_of_ble_eq_true rfl) (Nat.le_of_ble_eq_true rfl) rfl (fun G_1 mG_1 => ?_)
            refine go_iload_n (pc' := 162) cx dX6_atom4_161 rfl rfl ?_
            refine go_iret cx rfl dX6_atom4_162 ?_
            have e9 : onS (advS (mT R fr) sz) F1 F2 S = (refS S, []) := by
              unfold onS
              rw [if_neg (show ¬ S.2.2.1 ≤ 10005 by exact gt_kd ht1 c107 c135), if_neg (zero_of c8), if_neg (zero_of c43)]
            exact ZIz.mk ⟨by rw [e9]; exact mG_1, fun q9 => absurd (by rw [e9] at q9; exact q9) (ref_W hsz hM.2.2.1).2.2.1⟩
          · refine go_aload_n (pc' := 139) cx dX6_atom4_138 rfl rfl ?_
            refine go_cVI (pc' := 142) cx (c_X6_name l E hC hM hu c135) mX6_name lX6_238 dX6_atom4_139 kq88 (ltn rfl) (ltn rfl) rfl rfl rfl rfl (by omega) (Nat.le_of_ble_eq_true rfl) (Nat.le_of_ble_eq_true rfl) rfl (fun x9 G9 h9 => ?_)
            rcases h9 with ⟨n1, n2, n3⟩ | ⟨n1, n3⟩
            · refine go_istore_n (pc' := 143) cx dX6_atom4_142 (ltn rfl) [(1, .int x9), (0, .ref (E.2.1 88))] rfl rfl ?_
              refine go_aload_n (pc' := 144) cx dX6_atom4_143 rfl rfl ?_
              refine go_geti (pc' := 147) cx 0 fX6_190 dX6_atom4_144 kq88 (ltn rfl) (ltn rfl) rfl ((n3).un hu).1 rfl ?_
              refine go_if_ne (pc' := 150) cx 161 dX6_atom4_147 rfl rfl (fun hh => absurd hh (by decide)) (fun _ => ?_)
              refine go_aload_n (pc' := 151) cx dX6_atom4_150 rfl rfl ?_
              have aG_2 := adv_W n3.2.2.1 hu
              refine go_cVVz (pc' := 154) cx (c_nextM l E hC n3 hu (fun q9 => absurd (q9 ▸ n1) (by decide))) mX6_next lX6_206 dX6_atom4_151 kq88 (ltn rfl) (ltn rfl) rfl rfl rfl rfl (by omega) (Nat.le_of_ble_eq_true rfl) (Nat.le_of_ble_eq_true rfl) rfl (fun G_2 z_3 mG_2 => ?_)
              refine go_goto cx 161 dX6_atom4_154 rfl ?_
              refine go_iload_n (pc' := 162) cx dX6_atom4_161 rfl rfl ?_
              refine go_iret cx rfl dX6_atom4_162 ?_
              have e9 : onS (advS (mT R fr) sz) F1 F2 S = ((advS (mT R fr) sz) S, [S.2.2.1]) := by
                unfold onS
                rw [if_pos n1]
              exact ZIz.mk ⟨by rw [e9]; exact mG_2, fun q9 => by rw [e9]; have g9 := GC_leaf (ev := evM g0) n1; rw [if_pos (nm_ge c135 ht1)] at g9; rw [n2]; exact g9.mono hD⟩
            · refine go_istore_n (pc' := 143) cx dX6_atom4_142 (ltn rfl) [(1, .int x9), (0, .ref (E.2.1 88))] rfl rfl ?_
              refine go_aload_n (pc' := 144) cx dX6_atom4_143 rfl rfl ?_
              refine go_geti (pc' := 147) cx 1 fX6_190 dX6_atom4_144 kq88 (ltn rfl) (ltn rfl) rfl ((n3).bd (ref_W hsz hM.2.2.1).2.2.1).1 rfl ?_
              refine go_if_ne (pc' := 150) cx 161 dX6_atom4_147 rfl rfl (fun _ => ?_) (fun hh => absurd hh (by decide))
              refine go_iload_n (pc' := 162) cx dX6_atom4_161 rfl rfl ?_
              refine go_iret cx rfl dX6_atom4_162 ?_
              have e9 : onS (advS (mT R fr) sz) F1 F2 S = (refS S, []) := by
                unfold onS
                rw [if_neg (show ¬ S.2.2.1 ≤ 10005 by exact n1), if_neg (zero_of c8), if_neg (zero_of c43)]
              exact ZIz.mk ⟨by rw [e9]; exact n3, fun q9 => absurd (by rw [e9] at q9; exact q9) (ref_W hsz hM.2.2.1).2.2.1⟩
        · obtain ⟨hle9, hnk9⟩ := le_kd2 ht1 c107
          refine go_aload_n (pc' := 111) cx dX6_atom4_110 rfl rfl ?_
          refine go_getl (N := 56) (pc' := 114) cx fX6_186 dX6_atom4_111 (ltn rfl) rfl ?_
          refine go_l2i (pc' := 115) cx dX6_atom4_114 rfl ?_
          refine go_istore_n (pc' := 116) cx dX6_atom4_115 (ltn rfl) [(1, .int z.toInt32), (0, .ref (E.2.1 88))] rfl rfl ?_
          refine go_aload_n (pc' := 117) cx dX6_atom4_116 rfl rfl ?_
          have aG_4 := adv_W hM.2.2.1 hu
          refine go_cVVz (pc' := 120) cx (c_nextM l E hC hM hu (fun q9 => absurd (q9 ▸ hle9) (by decide))) mX6_next lX6_206 dX6_atom4_117 kq88 (ltn rfl) (ltn rfl) rfl rfl rfl rfl (by omega) (Nat.le_of_ble_eq_true rfl) (Nat.le_of_ble_eq_true rfl) rfl (fun G_4 z_5 mG_4 => ?_)
          refine go_goto cx 161 dX6_atom4_120 rfl ?_
          refine go_iload_n (pc' := 162) cx dX6_atom4_161 rfl rfl ?_
          refine go_iret cx rfl dX6_atom4_162 ?_
          have e9 : onS (advS (mT R fr) sz) F1 F2 S = ((advS (mT R fr) sz) S, [S.2.2.1]) := by
            unfold onS
            rw [if_pos hle9]
          exact ZIz.mk ⟨by rw [e9]; exact mG_4, fun q9 => by rw [e9]; have g9 := GC_leaf (ev := evM g0) hle9; rw [if_neg hnk9] at g9; exact (tk_32 (hu5 c107)) ▸ (g9.mono hD)⟩
      · have tc43 : S.2.2.1 = 10012 := one_of c43
        have utc43 := hM.2.2.1.un (by rw [tc43]; decide)
        refine go_aload_n (pc' := 47) cx dX6_atom4_46 rfl rfl ?_
        have aG_6 := adv_W (hM).2.2.1 utc43
        refine go_cVIz (pc' := 50) cx (c_X6_opens l E hC hM utc43 (by rw [tc43]; decide) (by omega)) mX6_opens lX6_234 dX6_atom4_47 kq88 (ltn rfl) (ltn rfl) rfl rfl rfl rfl (by omega) (Nat.le_of_ble_eq_true rfl) (Nat.le_of_ble_eq_true rfl) rfl (fun w_8 G_6 z_7 hG_6 => ?_)
        obtain ⟨eG_6, mG_6⟩ := hG_6
        subst eG_6
        refine go_if_eq (pc' := 53) cx 161 dX6_atom4_50 rfl rfl (fun hh => absurd hh (by decide)) (fun _ => ?_)
        refine go_aload_n (pc' := 54) cx dX6_atom4_53 rfl rfl ?_
        refine go_cVIz (pc' := 57) cx (hC2 (advS (mT R fr) sz S) G_6 z_7 mG_6) mX6_either5 lX6_261 dX6_atom4_54 kq88 (ltn rfl) (ltn rfl) rfl rfl rfl rfl (by omega) (Nat.le_of_ble_eq_true rfl) (Nat.le_of_ble_eq_true rfl) rfl (fun w_11 G_9 z_10 hG_9 => ?_)
        obtain ⟨mG_9, vG_9⟩ := hG_9
        refine go_istore_n (pc' := 58) cx dX6_atom4_57 (ltn rfl) [(1, .int w_11), (0, .ref (E.2.1 88))] rfl rfl ?_
        refine go_aload_n (pc' := 59) cx dX6_atom4_58 rfl rfl ?_
        refine go_bipush (pc' := 61) cx 41 dX6_atom4_59 rfl rfl ?_
        refine go_cVi (pc' := 64) cx (c_isSign_41 l E hC mG_9) mX6_isSign lX6_231 dX6_atom4_61 kq88 (ltn rfl) (ltn rfl) rfl rfl rfl rfl (by omega) (Nat.le_of_ble_eq_true rfl) (Nat.le_of_ble_eq_true rfl) rfl ?_
        refine go_if_ne (pc' := 67) cx 71 dX6_atom4_64 rfl rfl (fun c64 => ?_) (fun c64 => ?_)
        · have tc64G_9 : ((F2 (advS (mT R fr) sz S)).1).2.2.1 = 10013 := one_of c64
          have utc64G_9 := (mG_9).2.2.1.un (by rw [tc64G_9]; decide)
          refine go_aload_n (pc' := 72) cx dX6_atom4_71 rfl rfl ?_
          refine go_dup (pc' := 73) cx rfl dX6_atom4_72 rfl ?_
          refine go_geti (pc' := 76) cx (nI (4 + 1)) fX6_200 dX6_atom4_73 kq88 (ltn rfl) (ltn rfl) rfl (mG_9).2.1 rfl ?_
          refine go_iconst (pc' := 77) cx 1 dX6_atom4_76 rfl rfl ?_
          refine go_isub (pc' := 78) cx dX6_atom4_77 rfl ?_
          refine go_val (w := .int (nI 4)) (congrArg Value.int (nI_pred 4)) ?_
          refine go_puti (pc' := 81) cx fX6_200 dX6_atom4_78 kq88 (ltn rfl) (ltn rfl) rfl rfl rfl rfl ?_
          refine go_aload_n (pc' := 82) cx dX6_atom4_81 rfl rfl ?_
          refine go_geti (pc' := 85) cx 0 fX6_190 dX6_atom4_82 kq88 (ltn rfl) (ltn rfl) rfl ((((mG_9).op 4)).un utc64G_9).1 rfl ?_
          refine go_if_ne (pc' := 88) cx 161 dX6_atom4_85 rfl rfl (fun hh => absurd hh (by decide)) (fun _ => ?_)
          refine go_aload_n (pc' := 89) cx dX6_atom4_88 rfl rfl ?_
          have aG_12 := adv_W ((mG_9).op 4).2.2.1 utc64G_9
          refine go_cVVz (pc' := 92) cx (c_nextM l E hC ((mG_9).op 4) utc64G_9 (by rw [tc64G_9]; decide)) mX6_next lX6_206 dX6_atom4_89 kq88 (ltn rfl) (ltn rfl) rfl rfl rfl rfl (by omega) (Nat.le_of_ble_eq_true rfl) (Nat.le_of_ble_eq_true rfl) rfl (fun G_12 z_13 mG_12 => ?_)
          refine go_goto cx 161 dX6_atom4_92 rfl ?_
          refine go_iload_n (pc' := 162) cx dX6_atom4_161 rfl rfl ?_
          refine go_iret cx rfl dX6_atom4_162 ?_
          have e9 : onS (advS (mT R fr) sz) F1 F2 S = (demS (advS (mT R fr) sz) 10013 (F2 ((advS (mT R fr) sz) S)).1, (F2 ((advS (mT R fr) sz) S)).2) := by
            unfold onS
            rw [if_neg (by rw [tc43]; decide), if_neg (by rw [tc43]; decide), if_pos tc43]
          have d9 : demS (advS (mT R fr) sz) 10013 (F2 ((advS (mT R fr) sz) S)).1 = (advS (mT R fr) sz) (F2 ((advS (mT R fr) sz) S)).1 := if_pos tc64G_9
          exact ZIz.mk ⟨by rw [e9, d9]; exact mG_12, fun q9 => by rw [e9]; exact (vG_9 utc64G_9).mono hD2⟩
        · refine go_aload_n (pc' := 68) cx dX6_atom4_67 rfl rfl ?_
          refine go_cVV (pc' := 71) cx (c_X6_fail l E hC mG_9) mX6_fail lX6_203 dX6_atom4_68 kq88 (ltn rfl) (ltn rfl) rfl rfl rfl rfl (by omega) (Nat.le_of_ble_eq_true rfl) (Nat.le_of_ble_eq_true rfl) rfl (fun G_14 mG_14 => ?_)
          refine go_aload_n (pc' := 72) cx dX6_atom4_71 rfl rfl ?_
          refine go_dup (pc' := 73) cx rfl dX6_atom4_72 rfl ?_
          refine go_geti (pc' := 76) cx (nI (4 + 1)) fX6_200 dX6_atom4_73 kq88 (ltn rfl) (ltn rfl) rfl (mG_14).2.1 rfl ?_
          refine go_iconst (pc' := 77) cx 1 dX6_atom4_76 rfl rfl ?_
          refine go_isub (pc' := 78) cx dX6_atom4_77 rfl ?_
          refine go_val (w := .int (nI 4)) (congrArg Value.int (nI_pred 4)) ?_
          refine go_puti (pc' := 81) cx fX6_200 dX6_atom4_78 kq88 (ltn rfl) (ltn rfl) rfl rfl rfl rfl ?_
          refine go_aload_n (pc' := 82) cx dX6_atom4_81 rfl rfl ?_
          refine go_geti (pc' := 85) cx 1 fX6_190 dX6_atom4_82 kq88 (ltn rfl) (ltn rfl) rfl ((((mG_14).op 4)).bd (ref_W hsz (mG_9).2.2.1).2.2.1).1 rfl ?_
          refine go_if_ne (pc' := 88) cx 161 dX6_atom4_85 rfl rfl (fun _ => ?_) (fun hh => absurd hh (by decide))
          refine go_iload_n (pc' := 162) cx dX6_atom4_161 rfl rfl ?_
          refine go_iret cx rfl dX6_atom4_162 ?_
          have e9 : onS (advS (mT R fr) sz) F1 F2 S = (demS (advS (mT R fr) sz) 10013 (F2 ((advS (mT R fr) sz) S)).1, (F2 ((advS (mT R fr) sz) S)).2) := by
            unfold onS
            rw [if_neg (by rw [tc43]; decide), if_neg (by rw [tc43]; decide), if_pos tc43]
          have d9 : demS (advS (mT R fr) sz) 10013 (F2 ((advS (mT R fr) sz) S)).1 = refS (F2 ((advS (mT R fr) sz) S)).1 := if_neg (zero_of c64)
          exact ZIz.mk ⟨by rw [e9, d9]; exact ((mG_14).op 4), fun q9 => absurd (by rw [e9, d9] at q9; exact q9) (ref_W hsz (mG_9).2.2.1).2.2.1⟩
    · have tc8 : S.2.2.1 = 10016 := one_of c8
      have utc8 := hM.2.2.1.un (by rw [tc8]; decide)
      refine go_aload_n (pc' := 12) cx dX6_atom4_11 rfl rfl ?_
      have aG_15 := adv_W (hM).2.2.1 utc8
      refine go_cVIz (pc' := 15) cx (c_X6_opens l E hC hM utc8 (by rw [tc8]; decide) (by omega)) mX6_opens lX6_234 dX6_atom4_12 kq88 (ltn rfl) (ltn rfl) rfl rfl rfl rfl (by omega) (Nat.le_of_ble_eq_true rfl) (Nat.le_of_ble_eq_true rfl) rfl (fun w_17 G_15 z_16 hG_15 => ?_)
      obtain ⟨eG_15, mG_15⟩ := hG_15
      subst eG_15
      refine go_if_eq (pc' := 18) cx 161 dX6_atom4_15 rfl rfl (fun hh => absurd hh (by decide)) (fun _ => ?_)
      refine go_aload_n (pc' := 19) cx dX6_atom4_18 rfl rfl ?_
      refine go_cVIz (pc' := 22) cx (hC1 (advS (mT R fr) sz S) G_15 z_16 mG_15) mX6_atom5 lX6_242 dX6_atom4_19 kq88 (ltn rfl) (ltn rfl) rfl rfl rfl rfl (by omega) (Nat.le_of_ble_eq_true rfl) (Nat.le_of_ble_eq_true rfl) rfl (fun w_20 G_18 z_19 hG_18 => ?_)
      obtain ⟨mG_18, vG_18⟩ := hG_18
      refine go_ineg (pc' := 23) cx dX6_atom4_22 rfl ?_
      refine go_istore_n (pc' := 24) cx dX6_atom4_23 (ltn rfl) [(1, .int (-w_20)), (0, .ref (E.2.1 88))] rfl rfl ?_
      refine go_aload_n (pc' := 25) cx dX6_atom4_24 rfl rfl ?_
      refine go_dup (pc' := 26) cx rfl dX6_atom4_25 rfl ?_
      refine go_geti (pc' := 29) cx (nI (4 + 1)) fX6_200 dX6_atom4_26 kq88 (ltn rfl) (ltn rfl) rfl (mG_18).2.1 rfl ?_
      refine go_iconst (pc' := 30) cx 1 dX6_atom4_29 rfl rfl ?_
      refine go_isub (pc' := 31) cx dX6_atom4_30 rfl ?_
      refine go_val (w := .int (nI 4)) (congrArg Value.int (nI_pred 4)) ?_
      refine go_puti (pc' := 34) cx fX6_200 dX6_atom4_31 kq88 (ltn rfl) (ltn rfl) rfl rfl rfl rfl ?_
      refine go_goto cx 161 dX6_atom4_34 rfl ?_
      refine go_iload_n (pc' := 162) cx dX6_atom4_161 rfl rfl ?_
      refine go_iret cx rfl dX6_atom4_162 ?_
      have e9 : onS (advS (mT R fr) sz) F1 F2 S = ((F1 ((advS (mT R fr) sz) S)).1, (F1 ((advS (mT R fr) sz) S)).2 ++ [10020]) := by
        unfold onS
        rw [if_neg (by rw [tc8]; decide), if_pos tc8]
      exact ZIz.mk ⟨by rw [e9]; exact ((mG_18).op 4), fun q9 => by rw [e9] at q9 ⊢; exact (GC_neg (vG_18 q9)).mono hD1⟩
  · obtain ⟨hf1, hf2, hf3⟩ := hM.bd hu
    refine go_iconst (pc' := 1) cx 0 dX6_atom4_0 rfl rfl ?_
    refine go_istore_n (pc' := 2) cx dX6_atom4_1 (ltn rfl) [(1, .int 0), (0, .ref (E.2.1 88))] rfl rfl ?_
    refine go_aload_n (pc' := 3) cx dX6_atom4_2 rfl rfl ?_
    refine go_bipush (pc' := 5) cx 45 dX6_atom4_3 rfl rfl ?_
    refine go_cVi (pc' := 8) cx (c_isSignF_45 l E hC hM hf3) mX6_isSign lX6_231 dX6_atom4_5 kq88 (ltn rfl) (ltn rfl) rfl rfl rfl rfl (by omega) (Nat.le_of_ble_eq_true rfl) (Nat.le_of_ble_eq_true rfl) rfl ?_
    refine go_if_eq (pc' := 11) cx 37 dX6_atom4_8 rfl rfl (fun _ => ?_) (fun hh => absurd hh (by decide))
    refine go_aload_n (pc' := 38) cx dX6_atom4_37 rfl rfl ?_
    refine go_bipush (pc' := 40) cx 40 dX6_atom4_38 rfl rfl ?_
    refine go_cVi (pc' := 43) cx (c_isSignF_40 l E hC hM hf3) mX6_isSign lX6_231 dX6_atom4_40 kq88 (ltn rfl) (ltn rfl) rfl rfl rfl rfl (by omega) (Nat.le_of_ble_eq_true rfl) (Nat.le_of_ble_eq_true rfl) rfl ?_
    refine go_if_eq (pc' := 46) cx 95 dX6_atom4_43 rfl rfl (fun _ => ?_) (fun hh => absurd hh (by decide))
    refine go_aload_n (pc' := 96) cx dX6_atom4_95 rfl rfl ?_
    refine go_geti (pc' := 99) cx 1 fX6_190 dX6_atom4_96 kq88 (ltn rfl) (ltn rfl) rfl ((hM).bd hu).1 rfl ?_
    refine go_if_ne (pc' := 102) cx 123 dX6_atom4_99 rfl rfl (fun _ => ?_) (fun hh => absurd hh (by decide))
    refine go_aload_n (pc' := 124) cx dX6_atom4_123 rfl rfl ?_
    refine go_geti (pc' := 127) cx 1 fX6_190 dX6_atom4_124 kq88 (ltn rfl) (ltn rfl) rfl ((hM).bd hu).1 rfl ?_
    refine go_if_ne (pc' := 130) cx 157 dX6_atom4_127 rfl rfl (fun _ => ?_) (fun hh => absurd hh (by decide))
    refine go_aload_n (pc' := 158) cx dX6_atom4_157 rfl rfl ?_
    refine go_cVV (pc' := 161) cx (c_X6_fail l E hC hM) mX6_fail lX6_203 dX6_atom4_158 kq88 (ltn rfl) (ltn rfl) rfl rfl rfl rfl (by omega) (Nat.le_of_ble_eq_true rfl) (Nat.le_of_ble_eq_true rfl) rfl (fun G_1 mG_1 => ?_)
    refine go_iload_n (pc' := 162) cx dX6_atom4_161 rfl rfl ?_
    refine go_iret cx rfl dX6_atom4_162 ?_
    have e9 : onS (advS (mT R fr) sz) F1 F2 S = (refS S, []) := by
      unfold onS
      rw [if_neg (by rw [hf3]; decide), if_neg (by rw [hf3]; decide), if_neg (by rw [hf3]; decide)]
    exact ZIz.mk ⟨by rw [e9]; exact mG_1, fun q9 => absurd (by rw [e9] at q9; exact q9) (ref_W hsz hM.2.2.1).2.2.1⟩

set_option maxHeartbeats 1000000 in
set_option maxRecDepth 20000 in
theorem c_X6_atom5 (l : Launch) (E : Ev) {g0 : IG} {o : Option Nat} {fr sz : Nat} {R : Nat → Int32} (hC : MCx g0 fr sz R) {D d : Nat} (hD : 1 ≤ D) (hd : 5 ≤ d)  : McC l E o g0 fr sz R 5 yX6_atom5 cX6_atom5 2 (d + 1) (on0 (advS (mT R fr) sz)) D := by
  intro S g z hM
  refine Ct.of (lv0 := [(0, .ref (E.2.1 88))]) (by decide) (Nat.le_of_ble_eq_true rfl) rfl ?_
  intro p e s m below meth c cx
  obtain ⟨hfr, hsz, h26, h27, h89, hT0⟩ := id hC
  by_cases hu : S.2.2.2 = -1
  · obtain ⟨hu1, hu2, hu3, hu4, hu5, hu6⟩ := hM.un hu
    obtain ⟨ht1, ht2, ht3⟩ := hM.tk hu
    refine go_iconst (pc' := 1) cx 0 dX6_atom5_0 rfl rfl ?_
    refine go_istore_n (pc' := 2) cx dX6_atom5_1 (ltn rfl) [(1, .int 0), (0, .ref (E.2.1 88))] rfl rfl ?_
    refine go_aload_n (pc' := 3) cx dX6_atom5_2 rfl rfl ?_
    refine go_bipush (pc' := 5) cx 45 dX6_atom5_3 rfl rfl ?_
    refine go_cVi (pc' := 8) cx (c_isSign_45 l E hC hM) mX6_isSign lX6_231 dX6_atom5_5 kq88 (ltn rfl) (ltn rfl) rfl rfl rfl rfl (by omega) (Nat.le_of_ble_eq_true rfl) (Nat.le_of_ble_eq_true rfl) rfl ?_
    refine go_if_eq (pc' := 11) cx 19 dX6_atom5_8 rfl rfl (fun c8 => ?_) (fun c8 => ?_)
    · refine go_aload_n (pc' := 20) cx dX6_atom5_19 rfl rfl ?_
      refine go_bipush (pc' := 22) cx 40 dX6_atom5_20 rfl rfl ?_
      refine go_cVi (pc' := 25) cx (c_isSign_40 l E hC hM) mX6_isSign lX6_231 dX6_atom5_22 kq88 (ltn rfl) (ltn rfl) rfl rfl rfl rfl (by omega) (Nat.le_of_ble_eq_true rfl) (Nat.le_of_ble_eq_true rfl) rfl ?_
      refine go_if_eq (pc' := 28) cx 36 dX6_atom5_25 rfl rfl (fun c25 => ?_) (fun c25 => ?_)
      · refine go_aload_n (pc' := 37) cx dX6_atom5_36 rfl rfl ?_
        refine go_geti (pc' := 40) cx 0 fX6_190 dX6_atom5_37 kq88 (ltn rfl) (ltn rfl) rfl ((hM).un hu).1 rfl ?_
        refine go_if_ne (pc' := 43) cx 64 dX6_atom5_40 rfl rfl (fun hh => absurd hh (by decide)) (fun _ => ?_)
        refine go_aload_n (pc' := 44) cx dX6_atom5_43 rfl rfl ?_
        refine go_geti (pc' := 47) cx (kdT (mT R fr) sz S.2.1) fX6_175 dX6_atom5_44 kq88 (ltn rfl) (ltn rfl) rfl ((hM).un hu).2.2.1 rfl ?_
        refine go_iconst (pc' := 48) cx 2 dX6_atom5_47 rfl rfl ?_
        refine go_icmp_ne (pc' := 51) cx 64 dX6_atom5_48 rfl rfl (fun c48 => ?_) (fun c48 => ?_)
        · refine go_aload_n (pc' := 65) cx dX6_atom5_64 rfl rfl ?_
          refine go_geti (pc' := 68) cx 0 fX6_190 dX6_atom5_65 kq88 (ltn rfl) (ltn rfl) rfl ((hM).un hu).1 rfl ?_
          refine go_if_ne (pc' := 71) cx 98 dX6_atom5_68 rfl rfl (fun hh => absurd hh (by decide)) (fun _ => ?_)
          refine go_aload_n (pc' := 72) cx dX6_atom5_71 rfl rfl ?_
          refine go_geti (pc' := 75) cx (kdT (mT R fr) sz S.2.1) fX6_175 dX6_atom5_72 kq88 (ltn rfl) (ltn rfl) rfl ((hM).un hu).2.2.1 rfl ?_
          refine go_iconst (pc' := 76) cx 1 dX6_atom5_75 rfl rfl ?_
          refine go_icmp_ne (pc' := 79) cx 98 dX6_atom5_76 rfl rfl (fun c76 => ?_) (fun c76 => ?_)
          · refine go_aload_n (pc' := 99) cx dX6_atom5_98 rfl rfl ?_
            refine go_cVV (pc' := 102) cx (c_X6_fail l E hC hM) mX6_fail lX6_203 dX6_atom5_99 kq88 (ltn rfl) (ltn rfl) rfl rfl rfl rfl (by omega) (Nat.le_of_ble_eq_true rfl) (Nat.le_of_ble_eq_true rfl) rfl (fun G_1 mG_1 => ?_)
            refine go_iload_n (pc' := 103) cx dX6_atom5_102 rfl rfl ?_
            refine go_iret cx rfl dX6_atom5_103 ?_
            have e9 : on0 (advS (mT R fr) sz) S = (refS S, []) := by
              unfold on0
              rw [if_neg (show ¬ S.2.2.1 ≤ 10005 by exact gt_kd ht1 c48 c76)]
            exact ZIz.mk ⟨by rw [e9]; exact mG_1, fun q9 => absurd (by rw [e9] at q9; exact q9) (ref_W hsz hM.2.2.1).2.2.1⟩
          · refine go_aload_n (pc' := 80) cx dX6_atom5_79 rfl rfl ?_
            refine go_cVI (pc' := 83) cx (c_X6_name l E hC hM hu c76) mX6_name lX6_238 dX6_atom5_80 kq88 (ltn rfl) (ltn rfl) rfl rfl rfl rfl (by omega) (Nat.le_of_ble_eq_true rfl) (Nat.le_of_ble_eq_true rfl) rfl (fun x9 G9 h9 => ?_)
            rcases h9 with ⟨n1, n2, n3⟩ | ⟨n1, n3⟩
            · refine go_istore_n (pc' := 84) cx dX6_atom5_83 (ltn rfl) [(1, .int x9), (0, .ref (E.2.1 88))] rfl rfl ?_
              refine go_aload_n (pc' := 85) cx dX6_atom5_84 rfl rfl ?_
              refine go_geti (pc' := 88) cx 0 fX6_190 dX6_atom5_85 kq88 (ltn rfl) (ltn rfl) rfl ((n3).un hu).1 rfl ?_
              refine go_if_ne (pc' := 91) cx 102 dX6_atom5_88 rfl rfl (fun hh => absurd hh (by decide)) (fun _ => ?_)
              refine go_aload_n (pc' := 92) cx dX6_atom5_91 rfl rfl ?_
              have aG_2 := adv_W n3.2.2.1 hu
              refine go_cVVz (pc' := 95) cx (c_nextM l E hC n3 hu (fun q9 => absurd (q9 ▸ n1) (by decide))) mX6_next lX6_206 dX6_atom5_92 kq88 (ltn rfl) (ltn rfl) rfl rfl rfl rfl (by omega) (Nat.le_of_ble_eq_true rfl) (Nat.le_of_ble_eq_true rfl) rfl (fun G_2 z_3 mG_2 => ?_)
              refine go_goto cx 102 dX6_atom5_95 rfl ?_
              refine go_iload_n (pc' := 103) cx dX6_atom5_102 rfl rfl ?_
              refine go_iret cx rfl dX6_atom5_103 ?_
              have e9 : on0 (advS (mT R fr) sz) S = ((advS (mT R fr) sz) S, [S.2.2.1]) := by
                unfold on0
                rw [if_pos n1]
              exact ZIz.mk ⟨by rw [e9]; exact mG_2, fun q9 => by rw [e9]; have g9 := GC_leaf (ev := evM g0) n1; rw [if_pos (nm_ge c76 ht1)] at g9; rw [n2]; exact g9.mono hD⟩
            · refine go_istore_n (pc' := 84) cx dX6_atom5_83 (ltn rfl) [(1, .int x9), (0, .ref (E.2.1 88))] rfl rfl ?_
              refine go_aload_n (pc' := 85) cx dX6_atom5_84 rfl rfl ?_
              refine go_geti (pc' := 88) cx 1 fX6_190 dX6_atom5_85 kq88 (ltn rfl) (ltn rfl) rfl ((n3).bd (ref_W hsz hM.2.2.1).2.2.1).1 rfl ?_
              refine go_if_ne (pc' := 91) cx 102 dX6_atom5_88 rfl rfl (fun _ => ?_) (fun hh => absurd hh (by decide))
              refine go_iload_n (pc' := 103) cx dX6_atom5_102 rfl rfl ?_
              refine go_iret cx rfl dX6_atom5_103 ?_
              have e9 : on0 (advS (mT R fr) sz) S = (refS S, []) := by
                unfold on0
                rw [if_neg (show ¬ S.2.2.1 ≤ 10005 by exact n1)]
              exact ZIz.mk ⟨by rw [e9]; exact n3, fun q9 => absurd (by rw [e9] at q9; exact q9) (ref_W hsz hM.2.2.1).2.2.1⟩
        · obtain ⟨hle9, hnk9⟩ := le_kd2 ht1 c48
          refine go_aload_n (pc' := 52) cx dX6_atom5_51 rfl rfl ?_
          refine go_getl (N := 56) (pc' := 55) cx fX6_186 dX6_atom5_52 (ltn rfl) rfl ?_
          refine go_l2i (pc' := 56) cx dX6_atom5_55 rfl ?_
          refine go_istore_n (pc' := 57) cx dX6_atom5_56 (ltn rfl) [(1, .int z.toInt32), (0, .ref (E.2.1 88))] rfl rfl ?_
          refine go_aload_n (pc' := 58) cx dX6_atom5_57 rfl rfl ?_
          have aG_4 := adv_W hM.2.2.1 hu
          refine go_cVVz (pc' := 61) cx (c_nextM l E hC hM hu (fun q9 => absurd (q9 ▸ hle9) (by decide))) mX6_next lX6_206 dX6_atom5_58 kq88 (ltn rfl) (ltn rfl) rfl rfl rfl rfl (by omega) (Nat.le_of_ble_eq_true rfl) (Nat.le_of_ble_eq_true rfl) rfl (fun G_4 z_5 mG_4 => ?_)
          refine go_goto cx 102 dX6_atom5_61 rfl ?_
          refine go_iload_n (pc' := 103) cx dX6_atom5_102 rfl rfl ?_
          refine go_iret cx rfl dX6_atom5_103 ?_
          have e9 : on0 (advS (mT R fr) sz) S = ((advS (mT R fr) sz) S, [S.2.2.1]) := by
            unfold on0
            rw [if_pos hle9]
          exact ZIz.mk ⟨by rw [e9]; exact mG_4, fun q9 => by rw [e9]; have g9 := GC_leaf (ev := evM g0) hle9; rw [if_neg hnk9] at g9; exact (tk_32 (hu5 c48)) ▸ (g9.mono hD)⟩
      · have tc25 : S.2.2.1 = 10012 := one_of c25
        have utc25 := hM.2.2.1.un (by rw [tc25]; decide)
        refine go_aload_n (pc' := 29) cx dX6_atom5_28 rfl rfl ?_
        refine go_cVI (pc' := 32) cx (c_X6_opens5 l E hC hM rfl) mX6_opens lX6_234 dX6_atom5_29 kq88 (ltn rfl) (ltn rfl) rfl rfl rfl rfl (by omega) (Nat.le_of_ble_eq_true rfl) (Nat.le_of_ble_eq_true rfl) rfl (fun w_8 G_6 hG_6 => ?_)
        obtain ⟨eG_6, mG_6⟩ := hG_6
        subst eG_6
        refine go_pop (pc' := 33) cx rfl dX6_atom5_32 rfl ?_
        refine go_goto cx 102 dX6_atom5_33 rfl ?_
        refine go_iload_n (pc' := 103) cx dX6_atom5_102 rfl rfl ?_
        refine go_iret cx rfl dX6_atom5_103 ?_
        have e9 : on0 (advS (mT R fr) sz) S = (refS S, []) := by
          unfold on0
          rw [if_neg (by rw [tc25]; decide)]
        exact ZIz.mk ⟨by rw [e9]; exact mG_6, fun q9 => absurd (by rw [e9] at q9; exact q9) (ref_W hsz hM.2.2.1).2.2.1⟩
    · have tc8 : S.2.2.1 = 10016 := one_of c8
      have utc8 := hM.2.2.1.un (by rw [tc8]; decide)
      refine go_aload_n (pc' := 12) cx dX6_atom5_11 rfl rfl ?_
      refine go_cVI (pc' := 15) cx (c_X6_opens5 l E hC hM rfl) mX6_opens lX6_234 dX6_atom5_12 kq88 (ltn rfl) (ltn rfl) rfl rfl rfl rfl (by omega) (Nat.le_of_ble_eq_true rfl) (Nat.le_of_ble_eq_true rfl) rfl (fun w_11 G_9 hG_9 => ?_)
      obtain ⟨eG_9, mG_9⟩ := hG_9
      subst eG_9
      refine go_pop (pc' := 16) cx rfl dX6_atom5_15 rfl ?_
      refine go_goto cx 102 dX6_atom5_16 rfl ?_
      refine go_iload_n (pc' := 103) cx dX6_atom5_102 rfl rfl ?_
      refine go_iret cx rfl dX6_atom5_103 ?_
      have e9 : on0 (advS (mT R fr) sz) S = (refS S, []) := by
        unfold on0
        rw [if_neg (by rw [tc8]; decide)]
      exact ZIz.mk ⟨by rw [e9]; exact mG_9, fun q9 => absurd (by rw [e9] at q9; exact q9) (ref_W hsz hM.2.2.1).2.2.1⟩
  · obtain ⟨hf1, hf2, hf3⟩ := hM.bd hu
    refine go_iconst (pc' := 1) cx 0 dX6_atom5_0 rfl rfl ?_
    refine go_istore_n (pc' := 2) cx dX6_atom5_1 (ltn rfl) [(1, .int 0), (0, .ref (E.2.1 88))] rfl rfl ?_
    refine go_aload_n (pc' := 3) cx dX6_atom5_2 rfl rfl ?_
    refine go_bipush (pc' := 5) cx 45 dX6_atom5_3 rfl rfl ?_
    refine go_cVi (pc' := 8) cx (c_isSignF_45 l E hC hM hf3) mX6_isSign lX6_231 dX6_atom5_5 kq88 (ltn rfl) (ltn rfl) rfl rfl rfl rfl (by omega) (Nat.le_of_ble_eq_true rfl) (Nat.le_of_ble_eq_true rfl) rfl ?_
    refine go_if_eq (pc' := 11) cx 19 dX6_atom5_8 rfl rfl (fun _ => ?_) (fun hh => absurd hh (by decide))
    refine go_aload_n (pc' := 20) cx dX6_atom5_19 rfl rfl ?_
    refine go_bipush (pc' := 22) cx 40 dX6_atom5_20 rfl rfl ?_
    refine go_cVi (pc' := 25) cx (c_isSignF_40 l E hC hM hf3) mX6_isSign lX6_231 dX6_atom5_22 kq88 (ltn rfl) (ltn rfl) rfl rfl rfl rfl (by omega) (Nat.le_of_ble_eq_true rfl) (Nat.le_of_ble_eq_true rfl) rfl ?_
    refine go_if_eq (pc' := 28) cx 36 dX6_atom5_25 rfl rfl (fun _ => ?_) (fun hh => absurd hh (by decide))
    refine go_aload_n (pc' := 37) cx dX6_atom5_36 rfl rfl ?_
    refine go_geti (pc' := 40) cx 1 fX6_190 dX6_atom5_37 kq88 (ltn rfl) (ltn rfl) rfl ((hM).bd hu).1 rfl ?_
    refine go_if_ne (pc' := 43) cx 64 dX6_atom5_40 rfl rfl (fun _ => ?_) (fun hh => absurd hh (by decide))
    refine go_aload_n (pc' := 65) cx dX6_atom5_64 rfl rfl ?_
    refine go_geti (pc' := 68) cx 1 fX6_190 dX6_atom5_65 kq88 (ltn rfl) (ltn rfl) rfl ((hM).bd hu).1 rfl ?_
    refine go_if_ne (pc' := 71) cx 98 dX6_atom5_68 rfl rfl (fun _ => ?_) (fun hh => absurd hh (by decide))
    refine go_aload_n (pc' := 99) cx dX6_atom5_98 rfl rfl ?_
    refine go_cVV (pc' := 102) cx (c_X6_fail l E hC hM) mX6_fail lX6_203 dX6_atom5_99 kq88 (ltn rfl) (ltn rfl) rfl rfl rfl rfl (by omega) (Nat.le_of_ble_eq_true rfl) (Nat.le_of_ble_eq_true rfl) rfl (fun G_1 mG_1 => ?_)
    refine go_iload_n (pc' := 103) cx dX6_atom5_102 rfl rfl ?_
    refine go_iret cx rfl dX6_atom5_103 ?_
    have e9 : on0 (advS (mT R fr) sz) S = (refS S, []) := by
      unfold on0
      rw [if_neg (by rw [hf3]; decide)]
    exact ZIz.mk ⟨by rw [e9]; exact mG_1, fun q9 => absurd (by rw [e9] at q9; exact q9) (ref_W hsz hM.2.2.1).2.2.1⟩
