/-! THE REFERENCE: set -/
def rwM (w : Nat) : Nat := if w = 3 then 88 else 92 + w
def mxM (hn : Nat) (w : Int32) : Int32 := if w < 4 then 199 else if w = 6 then 199 else if w = 4 then 9 else if w = 5 then 10 else if w = 7 then nI hn - 1 else if w = 8 then 20 else 3
def ftM (hn : Nat) (w v : Int32) : Int32 := inX (if w = 3 then -1 else 0) (mxM hn w) v
theorem w10 {x : Int32} (h : ¬ inX 0 9 x = 0) : ∃ w, w < 10 ∧ x = nI w := by
  obtain ⟨h0, h4⟩ := inX_ng h
  obtain ⟨j, hj, rfl⟩ := nI_of h0
  have : ¬ 9 < j := fun q => h4 ((nI_ltI (a := 9) (by omega) hj).mpr q)
  exact ⟨j, by omega, rfl⟩
theorem w10c {w : Nat} (h : w < 10) : w = 0 ∨ w = 1 ∨ w = 2 ∨ w = 3 ∨ w = 4 ∨ w = 5 ∨ w = 6 ∨ w = 7 ∨ w = 8 ∨ w = 9 := by omega

set_option maxHeartbeats 1000000 in
set_option maxRecDepth 20000 in
theorem c_X6_lays0 (l : Launch) (E : Ev) {g : IG} {o : Option Nat} {z : Int64} {q : Nat} (hq : q < 4) (v : Int32) : Ct l E 115 yX6_lays cX6_lays 4 none 1 [.ref (E.2.1 88), .int 0, .int (nI q), .int v] g (RFo o) z (Zu (RFo o) z (up2 g 92 q v)) := by
  refine Ct.of (lv0 := [(0, .ref (E.2.1 88)), (1, .int 0), (2, .int (nI q)), (3, .int v)]) (by decide) (Nat.le_of_ble_eq_true rfl) rfl ?_
  intro p e s m below meth c cx
  refine go_iload_n (pc' := 1) cx dX6_lays_0 rfl rfl ?_
  refine go_if_ne (pc' := 4) cx 14 dX6_lays_1 rfl rfl (fun hh => absurd hh (by decide)) (fun _ => ?_)
  refine go_aload_n (pc' := 5) cx dX6_lays_4 rfl rfl ?_
  refine go_getr (pc' := 8) cx 92 fX6_23 dX6_lays_5 kq88 (ltn rfl) (ltn rfl) rfl rfl rfl ?_
  refine go_iload_n (pc' := 9) cx dX6_lays_8 rfl rfl ?_
  refine go_iload_n (pc' := 10) cx dX6_lays_9 rfl rfl ?_
  refine go_iastk (pc' := 11) cx q dX6_lays_10 kq92 (ltn rfl) (vpi (k := q) (a := 4) hq rfl rfl) (cli (k := q) (a := 4) hq rfl) rfl ?_
  refine go_goto cx 142 dX6_lays_11 rfl ?_
  refine go_vret cx rfl dX6_lays_142 ?_
  exact Zu.mk rfl

set_option maxHeartbeats 1000000 in
set_option maxRecDepth 20000 in
theorem c_X6_lays1 (l : Launch) (E : Ev) {g : IG} {o : Option Nat} {z : Int64} {q : Nat} (hq : q < 4) (v : Int32) : Ct l E 115 yX6_lays cX6_lays 4 none 1 [.ref (E.2.1 88), .int 1, .int (nI q), .int v] g (RFo o) z (Zu (RFo o) z (up2 g 93 q v)) := by
  refine Ct.of (lv0 := [(0, .ref (E.2.1 88)), (1, .int 1), (2, .int (nI q)), (3, .int v)]) (by decide) (Nat.le_of_ble_eq_true rfl) rfl ?_
  intro p e s m below meth c cx
  refine go_iload_n (pc' := 1) cx dX6_lays_0 rfl rfl ?_
  refine go_if_ne (pc' := 4) cx 14 dX6_lays_1 rfl rfl (fun _ => ?_) (fun hh => absurd hh (by decide))
  refine go_iload_n (pc' := 15) cx dX6_lays_14 rfl rfl ?_
  refine go_iconst (pc' := 16) cx 1 dX6_lays_15 rfl rfl ?_
  refine go_icmp_ne (pc' := 19) cx 29 dX6_lays_16 rfl rfl (fun hh => absurd hh (by decide)) (fun _ => ?_)
  refine go_aload_n (pc' := 20) cx dX6_lays_19 rfl rfl ?_
  refine go_getr (pc' := 23) cx 93 fX6_26 dX6_lays_20 kq88 (ltn rfl) (ltn rfl) rfl rfl rfl ?_
  refine go_iload_n (pc' := 24) cx dX6_lays_23 rfl rfl ?_
  refine go_iload_n (pc' := 25) cx dX6_lays_24 rfl rfl ?_
  refine go_iastk (pc' := 26) cx q dX6_lays_25 kq93 (ltn rfl) (vpi (k := q) (a := 4) hq rfl rfl) (cli (k := q) (a := 4) hq rfl) rfl ?_
  refine go_goto cx 142 dX6_lays_26 rfl ?_
  refine go_vret cx rfl dX6_lays_142 ?_
  exact Zu.mk rfl

set_option maxHeartbeats 1000000 in
set_option maxRecDepth 20000 in
theorem c_X6_lays2 (l : Launch) (E : Ev) {g : IG} {o : Option Nat} {z : Int64} {q : Nat} (hq : q < 4) (v : Int32) : Ct l E 115 yX6_lays cX6_lays 4 none 1 [.ref (E.2.1 88), .int 2, .int (nI q), .int v] g (RFo o) z (Zu (RFo o) z (up2 g 94 q v)) := by
  refine Ct.of (lv0 := [(0, .ref (E.2.1 88)), (1, .int 2), (2, .int (nI q)), (3, .int v)]) (by decide) (Nat.le_of_ble_eq_true rfl) rfl ?_
  intro p e s m below meth c cx
  refine go_iload_n (pc' := 1) cx dX6_lays_0 rfl rfl ?_
  refine go_if_ne (pc' := 4) cx 14 dX6_lays_1 rfl rfl (fun _ => ?_) (fun hh => absurd hh (by decide))
  refine go_iload_n (pc' := 15) cx dX6_lays_14 rfl rfl ?_
  refine go_iconst (pc' := 16) cx 1 dX6_lays_15 rfl rfl ?_
  refine go_icmp_ne (pc' := 19) cx 29 dX6_lays_16 rfl rfl (fun _ => ?_) (fun hh => absurd hh (by decide))
  refine go_iload_n (pc' := 30) cx dX6_lays_29 rfl rfl ?_
  refine go_iconst (pc' := 31) cx 2 dX6_lays_30 rfl rfl ?_
  refine go_icmp_ne (pc' := 34) cx 44 dX6_lays_31 rfl rfl (fun hh => absurd hh (by decide)) (fun _ => ?_)
  refine go_aload_n (pc' := 35) cx dX6_lays_34 rfl rfl ?_
  refine go_getr (pc' := 38) cx 94 fX6_29 dX6_lays_35 kq88 (ltn rfl) (ltn rfl) rfl rfl rfl ?_
  refine go_iload_n (pc' := 39) cx dX6_lays_38 rfl rfl ?_
  refine go_iload_n (pc' := 40) cx dX6_lays_39 rfl rfl ?_
  refine go_iastk (pc' := 41) cx q dX6_lays_40 kq94 (ltn rfl) (vpi (k := q) (a := 4) hq rfl rfl) (cli (k := q) (a := 4) hq rfl) rfl ?_
  refine go_goto cx 142 dX6_lays_41 rfl ?_
  refine go_vret cx rfl dX6_lays_142 ?_
  exact Zu.mk rfl

set_option maxHeartbeats 1000000 in
set_option maxRecDepth 20000 in
theorem c_X6_lays3 (l : Launch) (E : Ev) {g : IG} {o : Option Nat} {z : Int64} (of v : Int32) : Ct l E 115 yX6_lays cX6_lays 4 none 1 [.ref (E.2.1 88), .int 3, .int of, .int v] g (RFo o) z (Zu (RFo o) z (up2 g 88 10 v)) := by
  refine Ct.of (lv0 := [(0, .ref (E.2.1 88)), (1, .int 3), (2, .int of), (3, .int v)]) (by decide) (Nat.le_of_ble_eq_true rfl) rfl ?_
  intro p e s m below meth c cx
  refine go_iload_n (pc' := 1) cx dX6_lays_0 rfl rfl ?_
  refine go_if_ne (pc' := 4) cx 14 dX6_lays_1 rfl rfl (fun _ => ?_) (fun hh => absurd hh (by decide))
  refine go_iload_n (pc' := 15) cx dX6_lays_14 rfl rfl ?_
  refine go_iconst (pc' := 16) cx 1 dX6_lays_15 rfl rfl ?_
  refine go_icmp_ne (pc' := 19) cx 29 dX6_lays_16 rfl rfl (fun _ => ?_) (fun hh => absurd hh (by decide))
  refine go_iload_n (pc' := 30) cx dX6_lays_29 rfl rfl ?_
  refine go_iconst (pc' := 31) cx 2 dX6_lays_30 rfl rfl ?_
  refine go_icmp_ne (pc' := 34) cx 44 dX6_lays_31 rfl rfl (fun _ => ?_) (fun hh => absurd hh (by decide))
  refine go_iload_n (pc' := 45) cx dX6_lays_44 rfl rfl ?_
  refine go_iconst (pc' := 46) cx 3 dX6_lays_45 rfl rfl ?_
  refine go_icmp_ne (pc' := 49) cx 57 dX6_lays_46 rfl rfl (fun hh => absurd hh (by decide)) (fun _ => ?_)
  refine go_aload_n (pc' := 50) cx dX6_lays_49 rfl rfl ?_
  refine go_iload_n (pc' := 51) cx dX6_lays_50 rfl rfl ?_
  refine go_puti (pc' := 54) cx fX6_32 dX6_lays_51 kq88 (ltn rfl) (ltn rfl) rfl rfl rfl rfl ?_
  refine go_goto cx 142 dX6_lays_54 rfl ?_
  refine go_vret cx rfl dX6_lays_142 ?_
  exact Zu.mk rfl

set_option maxHeartbeats 1000000 in
set_option maxRecDepth 20000 in
theorem c_X6_lays4 (l : Launch) (E : Ev) {g : IG} {o : Option Nat} {z : Int64} {q : Nat} (hq : q < 5) (v : Int32) : Ct l E 115 yX6_lays cX6_lays 4 none 1 [.ref (E.2.1 88), .int 4, .int (nI q), .int v] g (RFo o) z (Zu (RFo o) z (up2 g 96 q v)) := by
  refine Ct.of (lv0 := [(0, .ref (E.2.1 88)), (1, .int 4), (2, .int (nI q)), (3, .int v)]) (by decide) (Nat.le_of_ble_eq_true rfl) rfl ?_
  intro p e s m below meth c cx
  refine go_iload_n (pc' := 1) cx dX6_lays_0 rfl rfl ?_
  refine go_if_ne (pc' := 4) cx 14 dX6_lays_1 rfl rfl (fun _ => ?_) (fun hh => absurd hh (by decide))
  refine go_iload_n (pc' := 15) cx dX6_lays_14 rfl rfl ?_
  refine go_iconst (pc' := 16) cx 1 dX6_lays_15 rfl rfl ?_
  refine go_icmp_ne (pc' := 19) cx 29 dX6_lays_16 rfl rfl (fun _ => ?_) (fun hh => absurd hh (by decide))
  refine go_iload_n (pc' := 30) cx dX6_lays_29 rfl rfl ?_
  refine go_iconst (pc' := 31) cx 2 dX6_lays_30 rfl rfl ?_
  refine go_icmp_ne (pc' := 34) cx 44 dX6_lays_31 rfl rfl (fun _ => ?_) (fun hh => absurd hh (by decide))
  refine go_iload_n (pc' := 45) cx dX6_lays_44 rfl rfl ?_
  refine go_iconst (pc' := 46) cx 3 dX6_lays_45 rfl rfl ?_
  refine go_icmp_ne (pc' := 49) cx 57 dX6_lays_46 rfl rfl (fun _ => ?_) (fun hh => absurd hh (by decide))
  refine go_iload_n (pc' := 58) cx dX6_lays_57 rfl rfl ?_
  refine go_iconst (pc' := 59) cx 4 dX6_lays_58 rfl rfl ?_
  refine go_icmp_ne (pc' := 62) cx 72 dX6_lays_59 rfl rfl (fun hh => absurd hh (by decide)) (fun _ => ?_)
  refine go_aload_n (pc' := 63) cx dX6_lays_62 rfl rfl ?_
  refine go_getr (pc' := 66) cx 96 fX6_38 dX6_lays_63 kq88 (ltn rfl) (ltn rfl) rfl rfl rfl ?_
  refine go_iload_n (pc' := 67) cx dX6_lays_66 rfl rfl ?_
  refine go_iload_n (pc' := 68) cx dX6_lays_67 rfl rfl ?_
  refine go_iastk (pc' := 69) cx q dX6_lays_68 kq96 (ltn rfl) (vpi (k := q) (a := 5) hq rfl rfl) (cli (k := q) (a := 5) hq rfl) rfl ?_
  refine go_goto cx 142 dX6_lays_69 rfl ?_
  refine go_vret cx rfl dX6_lays_142 ?_
  exact Zu.mk rfl

set_option maxHeartbeats 1000000 in
set_option maxRecDepth 20000 in
theorem c_X6_lays5 (l : Launch) (E : Ev) {g : IG} {o : Option Nat} {z : Int64} {q : Nat} (hq : q < 5) (v : Int32) : Ct l E 115 yX6_lays cX6_lays 4 none 1 [.ref (E.2.1 88), .int 5, .int (nI q), .int v] g (RFo o) z (Zu (RFo o) z (up2 g 97 q v)) := by
  refine Ct.of (lv0 := [(0, .ref (E.2.1 88)), (1, .int 5), (2, .int (nI q)), (3, .int v)]) (by decide) (Nat.le_of_ble_eq_true rfl) rfl ?_
  intro p e s m below meth c cx
  refine go_iload_n (pc' := 1) cx dX6_lays_0 rfl rfl ?_
  refine go_if_ne (pc' := 4) cx 14 dX6_lays_1 rfl rfl (fun _ => ?_) (fun hh => absurd hh (by decide))
  refine go_iload_n (pc' := 15) cx dX6_lays_14 rfl rfl ?_
  refine go_iconst (pc' := 16) cx 1 dX6_lays_15 rfl rfl ?_
  refine go_icmp_ne (pc' := 19) cx 29 dX6_lays_16 rfl rfl (fun _ => ?_) (fun hh => absurd hh (by decide))
  refine go_iload_n (pc' := 30) cx dX6_lays_29 rfl rfl ?_
  refine go_iconst (pc' := 31) cx 2 dX6_lays_30 rfl rfl ?_
  refine go_icmp_ne (pc' := 34) cx 44 dX6_lays_31 rfl rfl (fun _ => ?_) (fun hh => absurd hh (by decide))
  refine go_iload_n (pc' := 45) cx dX6_lays_44 rfl rfl ?_
  refine go_iconst (pc' := 46) cx 3 dX6_lays_45 rfl rfl ?_
  refine go_icmp_ne (pc' := 49) cx 57 dX6_lays_46 rfl rfl (fun _ => ?_) (fun hh => absurd hh (by decide))
  refine go_iload_n (pc' := 58) cx dX6_lays_57 rfl rfl ?_
  refine go_iconst (pc' := 59) cx 4 dX6_lays_58 rfl rfl ?_
  refine go_icmp_ne (pc' := 62) cx 72 dX6_lays_59 rfl rfl (fun _ => ?_) (fun hh => absurd hh (by decide))
  refine go_iload_n (pc' := 73) cx dX6_lays_72 rfl rfl ?_
  refine go_iconst (pc' := 74) cx 5 dX6_lays_73 rfl rfl ?_
  refine go_icmp_ne (pc' := 77) cx 87 dX6_lays_74 rfl rfl (fun hh => absurd hh (by decide)) (fun _ => ?_)
  refine go_aload_n (pc' := 78) cx dX6_lays_77 rfl rfl ?_
  refine go_getr (pc' := 81) cx 97 fX6_41 dX6_lays_78 kq88 (ltn rfl) (ltn rfl) rfl rfl rfl ?_
  refine go_iload_n (pc' := 82) cx dX6_lays_81 rfl rfl ?_
  refine go_iload_n (pc' := 83) cx dX6_lays_82 rfl rfl ?_
  refine go_iastk (pc' := 84) cx q dX6_lays_83 kq97 (ltn rfl) (vpi (k := q) (a := 5) hq rfl rfl) (cli (k := q) (a := 5) hq rfl) rfl ?_
  refine go_goto cx 142 dX6_lays_84 rfl ?_
  refine go_vret cx rfl dX6_lays_142 ?_
  exact Zu.mk rfl

set_option maxHeartbeats 1000000 in
set_option maxRecDepth 20000 in
theorem c_X6_lays6 (l : Launch) (E : Ev) {g : IG} {o : Option Nat} {z : Int64} {q : Nat} (hq : q < 5) (v : Int32) : Ct l E 115 yX6_lays cX6_lays 4 none 1 [.ref (E.2.1 88), .int 6, .int (nI q), .int v] g (RFo o) z (Zu (RFo o) z (up2 g 98 q v)) := by
  refine Ct.of (lv0 := [(0, .ref (E.2.1 88)), (1, .int 6), (2, .int (nI q)), (3, .int v)]) (by decide) (Nat.le_of_ble_eq_true rfl) rfl ?_
  intro p e s m below meth c cx
  refine go_iload_n (pc' := 1) cx dX6_lays_0 rfl rfl ?_
  refine go_if_ne (pc' := 4) cx 14 dX6_lays_1 rfl rfl (fun _ => ?_) (fun hh => absurd hh (by decide))
  refine go_iload_n (pc' := 15) cx dX6_lays_14 rfl rfl ?_
  refine go_iconst (pc' := 16) cx 1 dX6_lays_15 rfl rfl ?_
  refine go_icmp_ne (pc' := 19) cx 29 dX6_lays_16 rfl rfl (fun _ => ?_) (fun hh => absurd hh (by decide))
  refine go_iload_n (pc' := 30) cx dX6_lays_29 rfl rfl ?_
  refine go_iconst (pc' := 31) cx 2 dX6_lays_30 rfl rfl ?_
  refine go_icmp_ne (pc' := 34) cx 44 dX6_lays_31 rfl rfl (fun _ => ?_) (fun hh => absurd hh (by decide))
  refine go_iload_n (pc' := 45) cx dX6_lays_44 rfl rfl ?_
  refine go_iconst (pc' := 46) cx 3 dX6_lays_45 rfl rfl ?_
  refine go_icmp_ne (pc' := 49) cx 57 dX6_lays_46 rfl rfl (fun _ => ?_) (fun hh => absurd hh (by decide))
  refine go_iload_n (pc' := 58) cx dX6_lays_57 rfl rfl ?_
  refine go_iconst (pc' := 59) cx 4 dX6_lays_58 rfl rfl ?_
  refine go_icmp_ne (pc' := 62) cx 72 dX6_lays_59 rfl rfl (fun _ => ?_) (fun hh => absurd hh (by decide))
  refine go_iload_n (pc' := 73) cx dX6_lays_72 rfl rfl ?_
  refine go_iconst (pc' := 74) cx 5 dX6_lays_73 rfl rfl ?_
  refine go_icmp_ne (pc' := 77) cx 87 dX6_lays_74 rfl rfl (fun _ => ?_) (fun hh => absurd hh (by decide))
  refine go_iload_n (pc' := 88) cx dX6_lays_87 rfl rfl ?_
  refine go_bipush (pc' := 90) cx 6 dX6_lays_88 rfl rfl ?_
  refine go_icmp_ne (pc' := 93) cx 103 dX6_lays_90 rfl rfl (fun hh => absurd hh (by decide)) (fun _ => ?_)
  refine go_aload_n (pc' := 94) cx dX6_lays_93 rfl rfl ?_
  refine go_getr (pc' := 97) cx 98 fX6_44 dX6_lays_94 kq88 (ltn rfl) (ltn rfl) rfl rfl rfl ?_
  refine go_iload_n (pc' := 98) cx dX6_lays_97 rfl rfl ?_
  refine go_iload_n (pc' := 99) cx dX6_lays_98 rfl rfl ?_
  refine go_iastk (pc' := 100) cx q dX6_lays_99 kq98 (ltn rfl) (vpi (k := q) (a := 5) hq rfl rfl) (cli (k := q) (a := 5) hq rfl) rfl ?_
  refine go_goto cx 142 dX6_lays_100 rfl ?_
  refine go_vret cx rfl dX6_lays_142 ?_
  exact Zu.mk rfl

set_option maxHeartbeats 1000000 in
set_option maxRecDepth 20000 in
theorem c_X6_lays7 (l : Launch) (E : Ev) {g : IG} {o : Option Nat} {z : Int64} {q : Nat} (hq : q < 8) (v : Int32) : Ct l E 115 yX6_lays cX6_lays 4 none 1 [.ref (E.2.1 88), .int 7, .int (nI q), .int v] g (RFo o) z (Zu (RFo o) z (up2 g 99 q v)) := by
  refine Ct.of (lv0 := [(0, .ref (E.2.1 88)), (1, .int 7), (2, .int (nI q)), (3, .int v)]) (by decide) (Nat.le_of_ble_eq_true rfl) rfl ?_
  intro p e s m below meth c cx
  refine go_iload_n (pc' := 1) cx dX6_lays_0 rfl rfl ?_
  refine go_if_ne (pc' := 4) cx 14 dX6_lays_1 rfl rfl (fun _ => ?_) (fun hh => absurd hh (by decide))
  refine go_iload_n (pc' := 15) cx dX6_lays_14 rfl rfl ?_
  refine go_iconst (pc' := 16) cx 1 dX6_lays_15 rfl rfl ?_
  refine go_icmp_ne (pc' := 19) cx 29 dX6_lays_16 rfl rfl (fun _ => ?_) (fun hh => absurd hh (by decide))
  refine go_iload_n (pc' := 30) cx dX6_lays_29 rfl rfl ?_
  refine go_iconst (pc' := 31) cx 2 dX6_lays_30 rfl rfl ?_
  refine go_icmp_ne (pc' := 34) cx 44 dX6_lays_31 rfl rfl (fun _ => ?_) (fun hh => absurd hh (by decide))
  refine go_iload_n (pc' := 45) cx dX6_lays_44 rfl rfl ?_
  refine go_iconst (pc' := 46) cx 3 dX6_lays_45 rfl rfl ?_
  refine go_icmp_ne (pc' := 49) cx 57 dX6_lays_46 rfl rfl (fun _ => ?_) (fun hh => absurd hh (by decide))
  refine go_iload_n (pc' := 58) cx dX6_lays_57 rfl rfl ?_
  refine go_iconst (pc' := 59) cx 4 dX6_lays_58 rfl rfl ?_
  refine go_icmp_ne (pc' := 62) cx 72 dX6_lays_59 rfl rfl (fun _ => ?_) (fun hh => absurd hh (by decide))
  refine go_iload_n (pc' := 73) cx dX6_lays_72 rfl rfl ?_
  refine go_iconst (pc' := 74) cx 5 dX6_lays_73 rfl rfl ?_
  refine go_icmp_ne (pc' := 77) cx 87 dX6_lays_74 rfl rfl (fun _ => ?_) (fun hh => absurd hh (by decide))
  refine go_iload_n (pc' := 88) cx dX6_lays_87 rfl rfl ?_
  refine go_bipush (pc' := 90) cx 6 dX6_lays_88 rfl rfl ?_
  refine go_icmp_ne (pc' := 93) cx 103 dX6_lays_90 rfl rfl (fun _ => ?_) (fun hh => absurd hh (by decide))
  refine go_iload_n (pc' := 104) cx dX6_lays_103 rfl rfl ?_
  refine go_bipush (pc' := 106) cx 7 dX6_lays_104 rfl rfl ?_
  refine go_icmp_ne (pc' := 109) cx 119 dX6_lays_106 rfl rfl (fun hh => absurd hh (by decide)) (fun _ => ?_)
  refine go_aload_n (pc' := 110) cx dX6_lays_109 rfl rfl ?_
  refine go_getr (pc' := 113) cx 99 fX6_47 dX6_lays_110 kq88 (ltn rfl) (ltn rfl) rfl rfl rfl ?_
  refine go_iload_n (pc' := 114) cx dX6_lays_113 rfl rfl ?_
  refine go_iload_n (pc' := 115) cx dX6_lays_114 rfl rfl ?_
  refine go_iastk (pc' := 116) cx q dX6_lays_115 kq99 (ltn rfl) (vpi (k := q) (a := 8) hq rfl rfl) (cli (k := q) (a := 8) hq rfl) rfl ?_
  refine go_goto cx 142 dX6_lays_116 rfl ?_
  refine go_vret cx rfl dX6_lays_142 ?_
  exact Zu.mk rfl

set_option maxHeartbeats 1000000 in
set_option maxRecDepth 20000 in
theorem c_X6_lays8 (l : Launch) (E : Ev) {g : IG} {o : Option Nat} {z : Int64} {q : Nat} (hq : q < 8) (v : Int32) : Ct l E 115 yX6_lays cX6_lays 4 none 1 [.ref (E.2.1 88), .int 8, .int (nI q), .int v] g (RFo o) z (Zu (RFo o) z (up2 g 100 q v)) := by
  refine Ct.of (lv0 := [(0, .ref (E.2.1 88)), (1, .int 8), (2, .int (nI q)), (3, .int v)]) (by decide) (Nat.le_of_ble_eq_true rfl) rfl ?_
  intro p e s m below meth c cx
  refine go_iload_n (pc' := 1) cx dX6_lays_0 rfl rfl ?_
  refine go_if_ne (pc' := 4) cx 14 dX6_lays_1 rfl rfl (fun _ => ?_) (fun hh => absurd hh (by decide))
  refine go_iload_n (pc' := 15) cx dX6_lays_14 rfl rfl ?_
  refine go_iconst (pc' := 16) cx 1 dX6_lays_15 rfl rfl ?_
  refine go_icmp_ne (pc' := 19) cx 29 dX6_lays_16 rfl rfl (fun _ => ?_) (fun hh => absurd hh (by decide))
  refine go_iload_n (pc' := 30) cx dX6_lays_29 rfl rfl ?_
  refine go_iconst (pc' := 31) cx 2 dX6_lays_30 rfl rfl ?_
  refine go_icmp_ne (pc' := 34) cx 44 dX6_lays_31 rfl rfl (fun _ => ?_) (fun hh => absurd hh (by decide))
  refine go_iload_n (pc' := 45) cx dX6_lays_44 rfl rfl ?_
  refine go_iconst (pc' := 46) cx 3 dX6_lays_45 rfl rfl ?_
  refine go_icmp_ne (pc' := 49) cx 57 dX6_lays_46 rfl rfl (fun _ => ?_) (fun hh => absurd hh (by decide))
  refine go_iload_n (pc' := 58) cx dX6_lays_57 rfl rfl ?_
  refine go_iconst (pc' := 59) cx 4 dX6_lays_58 rfl rfl ?_
  refine go_icmp_ne (pc' := 62) cx 72 dX6_lays_59 rfl rfl (fun _ => ?_) (fun hh => absurd hh (by decide))
  refine go_iload_n (pc' := 73) cx dX6_lays_72 rfl rfl ?_
  refine go_iconst (pc' := 74) cx 5 dX6_lays_73 rfl rfl ?_
  refine go_icmp_ne (pc' := 77) cx 87 dX6_lays_74 rfl rfl (fun _ => ?_) (fun hh => absurd hh (by decide))
  refine go_iload_n (pc' := 88) cx dX6_lays_87 rfl rfl ?_
  refine go_bipush (pc' := 90) cx 6 dX6_lays_88 rfl rfl ?_
  refine go_icmp_ne (pc' := 93) cx 103 dX6_lays_90 rfl rfl (fun _ => ?_) (fun hh => absurd hh (by decide))
  refine go_iload_n (pc' := 104) cx dX6_lays_103 rfl rfl ?_
  refine go_bipush (pc' := 106) cx 7 dX6_lays_104 rfl rfl ?_
  refine go_icmp_ne (pc' := 109) cx 119 dX6_lays_106 rfl rfl (fun _ => ?_) (fun hh => absurd hh (by decide))
  refine go_iload_n (pc' := 120) cx dX6_lays_119 rfl rfl ?_
  refine go_bipush (pc' := 122) cx 8 dX6_lays_120 rfl rfl ?_
  refine go_icmp_ne (pc' := 125) cx 135 dX6_lays_122 rfl rfl (fun hh => absurd hh (by decide)) (fun _ => ?_)
  refine go_aload_n (pc' := 126) cx dX6_lays_125 rfl rfl ?_
  refine go_getr (pc' := 129) cx 100 fX6_50 dX6_lays_126 kq88 (ltn rfl) (ltn rfl) rfl rfl rfl ?_
  refine go_iload_n (pc' := 130) cx dX6_lays_129 rfl rfl ?_
  refine go_iload_n (pc' := 131) cx dX6_lays_130 rfl rfl ?_
  refine go_iastk (pc' := 132) cx q dX6_lays_131 kq100 (ltn rfl) (vpi (k := q) (a := 8) hq rfl rfl) (cli (k := q) (a := 8) hq rfl) rfl ?_
  refine go_goto cx 142 dX6_lays_132 rfl ?_
  refine go_vret cx rfl dX6_lays_142 ?_
  exact Zu.mk rfl

set_option maxHeartbeats 1000000 in
set_option maxRecDepth 20000 in
theorem c_X6_lays9 (l : Launch) (E : Ev) {g : IG} {o : Option Nat} {z : Int64} {q : Nat} (hq : q < 8) (v : Int32) : Ct l E 115 yX6_lays cX6_lays 4 none 1 [.ref (E.2.1 88), .int 9, .int (nI q), .int v] g (RFo o) z (Zu (RFo o) z (up2 g 101 q v)) := by
  refine Ct.of (lv0 := [(0, .ref (E.2.1 88)), (1, .int 9), (2, .int (nI q)), (3, .int v)]) (by decide) (Nat.le_of_ble_eq_true rfl) rfl ?_
  intro p e s m below meth c cx
  refine go_iload_n (pc' := 1) cx dX6_lays_0 rfl rfl ?_
  refine go_if_ne (pc' := 4) cx 14 dX6_lays_1 rfl rfl (fun _ => ?_) (fun hh => absurd hh (by decide))
  refine go_iload_n (pc' := 15) cx dX6_lays_14 rfl rfl ?_
  refine go_iconst (pc' := 16) cx 1 dX6_lays_15 rfl rfl ?_
  refine go_icmp_ne (pc' := 19) cx 29 dX6_lays_16 rfl rfl (fun _ => ?_) (fun hh => absurd hh (by decide))
  refine go_iload_n (pc' := 30) cx dX6_lays_29 rfl rfl ?_
  refine go_iconst (pc' := 31) cx 2 dX6_lays_30 rfl rfl ?_
  refine go_icmp_ne (pc' := 34) cx 44 dX6_lays_31 rfl rfl (fun _ => ?_) (fun hh => absurd hh (by decide))
  refine go_iload_n (pc' := 45) cx dX6_lays_44 rfl rfl ?_
  refine go_iconst (pc' := 46) cx 3 dX6_lays_45 rfl rfl ?_
  refine go_icmp_ne (pc' := 49) cx 57 dX6_lays_46 rfl rfl (fun _ => ?_) (fun hh => absurd hh (by decide))
  refine go_iload_n (pc' := 58) cx dX6_lays_57 rfl rfl ?_
  refine go_iconst (pc' := 59) cx 4 dX6_lays_58 rfl rfl ?_
  refine go_icmp_ne (pc' := 62) cx 72 dX6_lays_59 rfl rfl (fun _ => ?_) (fun hh => absurd hh (by decide))
  refine go_iload_n (pc' := 73) cx dX6_lays_72 rfl rfl ?_
  refine go_iconst (pc' := 74) cx 5 dX6_lays_73 rfl rfl ?_
  refine go_icmp_ne (pc' := 77) cx 87 dX6_lays_74 rfl rfl (fun _ => ?_) (fun hh => absurd hh (by decide))
  refine go_iload_n (pc' := 88) cx dX6_lays_87 rfl rfl ?_
  refine go_bipush (pc' := 90) cx 6 dX6_lays_88 rfl rfl ?_
  refine go_icmp_ne (pc' := 93) cx 103 dX6_lays_90 rfl rfl (fun _ => ?_) (fun hh => absurd hh (by decide))
  refine go_iload_n (pc' := 104) cx dX6_lays_103 rfl rfl ?_
  refine go_bipush (pc' := 106) cx 7 dX6_lays_104 rfl rfl ?_
  refine go_icmp_ne (pc' := 109) cx 119 dX6_lays_106 rfl rfl (fun _ => ?_) (fun hh => absurd hh (by decide))
  refine go_iload_n (pc' := 120) cx dX6_lays_119 rfl rfl ?_
  refine go_bipush (pc' := 122) cx 8 dX6_lays_120 rfl rfl ?_
  refine go_icmp_ne (pc' := 125) cx 135 dX6_lays_122 rfl rfl (fun _ => ?_) (fun hh => absurd hh (by decide))
  refine go_aload_n (pc' := 136) cx dX6_lays_135 rfl rfl ?_
  refine go_getr (pc' := 139) cx 101 fX6_53 dX6_lays_136 kq88 (ltn rfl) (ltn rfl) rfl rfl rfl ?_
  refine go_iload_n (pc' := 140) cx dX6_lays_139 rfl rfl ?_
  refine go_iload_n (pc' := 141) cx dX6_lays_140 rfl rfl ?_
  refine go_iastk (pc' := 142) cx q dX6_lays_141 kq101 (ltn rfl) (vpi (k := q) (a := 8) hq rfl rfl) (cli (k := q) (a := 8) hq rfl) rfl ?_
  refine go_vret cx rfl dX6_lays_142 ?_
  exact Zu.mk rfl

set_option maxHeartbeats 1000000 in
set_option maxRecDepth 20000 in
theorem c_X6_set (l : Launch) (E : Ev) {g : IG} {o : Option Nat} {z : Int64} {hn vn : Nat} (hhn : hn ≤ 5) (hvn : vn ≤ 8) (h15 : g 88 15 = nI hn) (h19 : g 88 19 = nI vn) (w0 of v : Int32) : Ct l E 115 yX6_set cX6_set 6 (some .int) 5 [.ref (E.2.1 88), .int w0, .int of, .int v] g (RFo o) z (ZI (RFo o) z (fun x g1 => (x = -100 ∧ g1 = g ∧ (inX 0 9 w0 = 0 ∨ nmM hn vn w0 of = 0 ∨ ftM hn w0 v = 0)) ∨ ∃ w q : Nat, w < 10 ∧ q < 8 ∧ w0 = nI w ∧ (w ≠ 3 → of = nI q) ∧ ¬ nmM hn vn w0 of = 0 ∧ ¬ ftM hn w0 v = 0 ∧ x = svM g w (if w = 3 then 0 else q) ∧ g1 = up2 g (rwM w) (if w = 3 then 10 else q) v)) := by
  refine Ct.of (lv0 := [(0, .ref (E.2.1 88)), (1, .int w0), (2, .int of), (3, .int v)]) (by decide) (Nat.le_of_ble_eq_true rfl) rfl ?_
  intro p e s m below meth c cx
  refine go_iload_n (pc' := 1) cx dX6_set_0 rfl rfl ?_
  refine go_i2l (pc' := 2) cx dX6_set_1 rfl ?_
  refine go_lconst (pc' := 3) cx 0 dX6_set_2 rfl rfl ?_
  refine go_val (w := .long (((0 : Int32)).toInt64)) (congrArg Value.long (by decide)) ?_
  refine go_ldc2 (pc' := 6) cx 9 kX6_128 dX6_set_3 rfl ?_
  refine go_val (w := .long (((9 : Int32)).toInt64)) (congrArg Value.long (by decide)) ?_
  refine go_cSi (pc' := 9) cx (c_X6_in l E (g := g) w0 (0 : Int32) (9 : Int32)) mX6_in lX6_108 dX6_set_6 rfl rfl rfl (ltn rfl) (Nat.le_of_ble_eq_true rfl) (Nat.le_of_ble_eq_true rfl) rfl ?_
  refine go_if_eq (pc' := 12) cx 21 dX6_set_9 rfl rfl (fun c9 => ?_) (fun c9 => ?_)
  · refine go_bipush (pc' := 23) cx (-100) dX6_set_21 rfl rfl ?_
    refine go_iret cx rfl dX6_set_23 ?_
    exact ZI.mk (Or.inl ⟨rfl, rfl, Or.inl c9⟩)
  · refine go_aload_n (pc' := 13) cx dX6_set_12 rfl rfl ?_
    refine go_iload_n (pc' := 14) cx dX6_set_13 rfl rfl ?_
    refine go_iload_n (pc' := 15) cx dX6_set_14 rfl rfl ?_
    refine go_cVi (pc' := 18) cx (c_X6_isOf l E (g := g) hhn hvn h15 h19 w0 of) mX6_isOf lX6_130 dX6_set_15 kq88 (ltn rfl) (ltn rfl) rfl rfl rfl rfl (ltn rfl) (Nat.le_of_ble_eq_true rfl) (Nat.le_of_ble_eq_true rfl) rfl ?_
    refine go_if_ne (pc' := 21) cx 24 dX6_set_18 rfl rfl (fun c18 => ?_) (fun c18 => ?_)
    · obtain ⟨w9, hw9, ew9⟩ := w10 c9
      subst ew9
      rcases w10c hw9 with rfl | rfl | rfl | rfl | rfl | rfl | rfl | rfl | rfl | rfl
      · have cq : ¬ inI 4 of = 0 := c18
        obtain ⟨q, hq, eq⟩ := in_ok (k := 4) (by omega) cq
        subst eq
        refine go_iload_n (pc' := 25) cx dX6_set_24 rfl rfl ?_
        refine go_iconst (pc' := 26) cx 4 dX6_set_25 rfl rfl ?_
        refine go_icmp_lt (pc' := 29) cx 35 dX6_set_26 rfl rfl (fun _ => ?_) (fun hh => absurd hh (by decide))
        refine go_sipush (pc' := 38) cx 199 dX6_set_35 rfl rfl ?_
        refine go_goto cx 88 dX6_set_38 rfl ?_
        refine go_istore (pc' := 90) cx dX6_set_88 (ltn rfl) [(4, .int 199), (0, .ref (E.2.1 88)), (1, .int 0), (2, .int (nI q)), (3, .int v)] rfl rfl ?_
        refine go_iload_n (pc' := 91) cx dX6_set_90 rfl rfl ?_
        refine go_i2l (pc' := 92) cx dX6_set_91 rfl ?_
        refine go_iload_n (pc' := 93) cx dX6_set_92 rfl rfl ?_
        refine go_iconst (pc' := 94) cx 3 dX6_set_93 rfl rfl ?_
        refine go_icmp_ne (pc' := 97) cx 103 dX6_set_94 rfl rfl (fun _ => ?_) (fun hh => absurd hh (by decide))
        refine go_lconst (pc' := 104) cx 0 dX6_set_103 rfl rfl ?_
        refine go_val (w := .long (((0 : Int32)).toInt64)) (congrArg Value.long (by decide)) ?_
        refine go_iload (pc' := 106) cx dX6_set_104 rfl rfl ?_
        refine go_i2l (pc' := 107) cx dX6_set_106 rfl ?_
        refine go_cSi (pc' := 110) cx (c_X6_in l E (g := g) v (0 : Int32) (199 : Int32)) mX6_in lX6_108 dX6_set_107 rfl rfl rfl (ltn rfl) (Nat.le_of_ble_eq_true rfl) (Nat.le_of_ble_eq_true rfl) rfl ?_
        refine go_if_ne (pc' := 113) cx 116 dX6_set_110 rfl rfl (fun c110 => ?_) (fun c110 => ?_)
        · refine go_aload_n (pc' := 117) cx dX6_set_116 rfl rfl ?_
          refine go_iload_n (pc' := 118) cx dX6_set_117 rfl rfl ?_
          refine go_iload_n (pc' := 119) cx dX6_set_118 rfl rfl ?_
          refine go_cVI (pc' := 122) cx (c_X6_told l E (g := g) hhn hvn h15 h19 (nI q) 0) mX6_told lX6_136 dX6_set_119 kq88 (ltn rfl) (ltn rfl) rfl rfl rfl rfl (ltn rfl) (Nat.le_of_ble_eq_true rfl) (Nat.le_of_ble_eq_true rfl) rfl (fun xt gt ht => ?_)
          obtain ⟨eg, ht⟩ := ht
          subst eg
          have ex : xt = svM gt 0 q := by
            rcases ht with ⟨-, h9 | h9⟩ | ⟨w8, q8, h1, h2, h3, h4, -, h5⟩
            · exact absurd h9 (by decide)
            · exact absurd h9 c18
            · have e8 : w8 = 0 := ((nI_eq (a := 0) (b := w8) (by omega) (by omega)).mp h3).symm
              subst e8
              rw [h5]
              rw [(nI_eq (a := q) (b := q8) (by omega) (by omega)).mp (h4 (by omega))]
              rfl
          refine go_istore (pc' := 124) cx dX6_set_122 (ltn rfl) [(5, .int xt), (4, .int 199), (0, .ref (E.2.1 88)), (1, .int 0), (2, .int (nI q)), (3, .int v)] rfl rfl ?_
          refine go_aload_n (pc' := 125) cx dX6_set_124 rfl rfl ?_
          refine go_iload_n (pc' := 126) cx dX6_set_125 rfl rfl ?_
          refine go_iload_n (pc' := 127) cx dX6_set_126 rfl rfl ?_
          refine go_iload_n (pc' := 128) cx dX6_set_127 rfl rfl ?_
          refine go_cVu (pc' := 131) cx (c_X6_lays0 l E (g := gt) hq v) mX6_lays lX6_140 dX6_set_128 kq88 (ltn rfl) (ltn rfl) rfl rfl rfl rfl (ltn rfl) (Nat.le_of_ble_eq_true rfl) (Nat.le_of_ble_eq_true rfl) rfl ?_
          refine go_iload (pc' := 133) cx dX6_set_131 rfl rfl ?_
          refine go_iret cx rfl dX6_set_133 ?_
          exact ZI.mk (Or.inr ⟨0, q, by omega, by omega, rfl, fun _ => rfl, c18, c110, ex, rfl⟩)
        · refine go_bipush (pc' := 115) cx (-100) dX6_set_113 rfl rfl ?_
          refine go_iret cx rfl dX6_set_115 ?_
          exact ZI.mk (Or.inl ⟨rfl, rfl, Or.inr (Or.inr c110)⟩)
      · have cq : ¬ inI 4 of = 0 := c18
        obtain ⟨q, hq, eq⟩ := in_ok (k := 4) (by omega) cq
        subst eq
        refine go_iload_n (pc' := 25) cx dX6_set_24 rfl rfl ?_
        refine go_iconst (pc' := 26) cx 4 dX6_set_25 rfl rfl ?_
        refine go_icmp_lt (pc' := 29) cx 35 dX6_set_26 rfl rfl (fun _ => ?_) (fun hh => absurd hh (by decide))
        refine go_sipush (pc' := 38) cx 199 dX6_set_35 rfl rfl ?_
        refine go_goto cx 88 dX6_set_38 rfl ?_
        refine go_istore (pc' := 90) cx dX6_set_88 (ltn rfl) [(4, .int 199), (0, .ref (E.2.1 88)), (1, .int 1), (2, .int (nI q)), (3, .int v)] rfl rfl ?_
        refine go_iload_n (pc' := 91) cx dX6_set_90 rfl rfl ?_
        refine go_i2l (pc' := 92) cx dX6_set_91 rfl ?_
        refine go_iload_n (pc' := 93) cx dX6_set_92 rfl rfl ?_
        refine go_iconst (pc' := 94) cx 3 dX6_set_93 rfl rfl ?_
        refine go_icmp_ne (pc' := 97) cx 103 dX6_set_94 rfl rfl (fun _ => ?_) (fun hh => absurd hh (by decide))
        refine go_lconst (pc' := 104) cx 0 dX6_set_103 rfl rfl ?_
        refine go_val (w := .long (((0 : Int32)).toInt64)) (congrArg Value.long (by decide)) ?_
        refine go_iload (pc' := 106) cx dX6_set_104 rfl rfl ?_
        refine go_i2l (pc' := 107) cx dX6_set_106 rfl ?_
        refine go_cSi (pc' := 110) cx (c_X6_in l E (g := g) v (0 : Int32) (199 : Int32)) mX6_in lX6_108 dX6_set_107 rfl rfl rfl (ltn rfl) (Nat.le_of_ble_eq_true rfl) (Nat.le_of_ble_eq_true rfl) rfl ?_
        refine go_if_ne (pc' := 113) cx 116 dX6_set_110 rfl rfl (fun c110 => ?_) (fun c110 => ?_)
        · refine go_aload_n (pc' := 117) cx dX6_set_116 rfl rfl ?_
          refine go_iload_n (pc' := 118) cx dX6_set_117 rfl rfl ?_
          refine go_iload_n (pc' := 119) cx dX6_set_118 rfl rfl ?_
          refine go_cVI (pc' := 122) cx (c_X6_told l E (g := g) hhn hvn h15 h19 (nI q) 1) mX6_told lX6_136 dX6_set_119 kq88 (ltn rfl) (ltn rfl) rfl rfl rfl rfl (ltn rfl) (Nat.le_of_ble_eq_true rfl) (Nat.le_of_ble_eq_true rfl) rfl (fun xt gt ht => ?_)
          obtain ⟨eg, ht⟩ := ht
          subst eg
          have ex : xt = svM gt 1 q := by
            rcases ht with ⟨-, h9 | h9⟩ | ⟨w8, q8, h1, h2, h3, h4, -, h5⟩
            · exact absurd h9 (by decide)
            · exact absurd h9 c18
            · have e8 : w8 = 1 := ((nI_eq (a := 1) (b := w8) (by omega) (by omega)).mp h3).symm
              subst e8
              rw [h5]
              rw [(nI_eq (a := q) (b := q8) (by omega) (by omega)).mp (h4 (by omega))]
              rfl
          refine go_istore (pc' := 124) cx dX6_set_122 (ltn rfl) [(5, .int xt), (4, .int 199), (0, .ref (E.2.1 88)), (1, .int 1), (2, .int (nI q)), (3, .int v)] rfl rfl ?_
          refine go_aload_n (pc' := 125) cx dX6_set_124 rfl rfl ?_
          refine go_iload_n (pc' := 126) cx dX6_set_125 rfl rfl ?_
          refine go_iload_n (pc' := 127) cx dX6_set_126 rfl rfl ?_
          refine go_iload_n (pc' := 128) cx dX6_set_127 rfl rfl ?_
          refine go_cVu (pc' := 131) cx (c_X6_lays1 l E (g := gt) hq v) mX6_lays lX6_140 dX6_set_128 kq88 (ltn rfl) (ltn rfl) rfl rfl rfl rfl (ltn rfl) (Nat.le_of_ble_eq_true rfl) (Nat.le_of_ble_eq_true rfl) rfl ?_
          refine go_iload (pc' := 133) cx dX6_set_131 rfl rfl ?_
          refine go_iret cx rfl dX6_set_133 ?_
          exact ZI.mk (Or.inr ⟨1, q, by omega, by omega, rfl, fun _ => rfl, c18, c110, ex, rfl⟩)
        · refine go_bipush (pc' := 115) cx (-100) dX6_set_113 rfl rfl ?_
          refine go_iret cx rfl dX6_set_115 ?_
          exact ZI.mk (Or.inl ⟨rfl, rfl, Or.inr (Or.inr c110)⟩)
      · have cq : ¬ inI 4 of = 0 := c18
        obtain ⟨q, hq, eq⟩ := in_ok (k := 4) (by omega) cq
        subst eq
        refine go_iload_n (pc' := 25) cx dX6_set_24 rfl rfl ?_
        refine go_iconst (pc' := 26) cx 4 dX6_set_25 rfl rfl ?_
        refine go_icmp_lt (pc' := 29) cx 35 dX6_set_26 rfl rfl (fun _ => ?_) (fun hh => absurd hh (by decide))
        refine go_sipush (pc' := 38) cx 199 dX6_set_35 rfl rfl ?_
        refine go_goto cx 88 dX6_set_38 rfl ?_
        refine go_istore (pc' := 90) cx dX6_set_88 (ltn rfl) [(4, .int 199), (0, .ref (E.2.1 88)), (1, .int 2), (2, .int (nI q)), (3, .int v)] rfl rfl ?_
        refine go_iload_n (pc' := 91) cx dX6_set_90 rfl rfl ?_
        refine go_i2l (pc' := 92) cx dX6_set_91 rfl ?_
        refine go_iload_n (pc' := 93) cx dX6_set_92 rfl rfl ?_
        refine go_iconst (pc' := 94) cx 3 dX6_set_93 rfl rfl ?_
        refine go_icmp_ne (pc' := 97) cx 103 dX6_set_94 rfl rfl (fun _ => ?_) (fun hh => absurd hh (by decide))
        refine go_lconst (pc' := 104) cx 0 dX6_set_103 rfl rfl ?_
        refine go_val (w := .long (((0 : Int32)).toInt64)) (congrArg Value.long (by decide)) ?_
        refine go_iload (pc' := 106) cx dX6_set_104 rfl rfl ?_
        refine go_i2l (pc' := 107) cx dX6_set_106 rfl ?_
        refine go_cSi (pc' := 110) cx (c_X6_in l E (g := g) v (0 : Int32) (199 : Int32)) mX6_in lX6_108 dX6_set_107 rfl rfl rfl (ltn rfl) (Nat.le_of_ble_eq_true rfl) (Nat.le_of_ble_eq_true rfl) rfl ?_
        refine go_if_ne (pc' := 113) cx 116 dX6_set_110 rfl rfl (fun c110 => ?_) (fun c110 => ?_)
        · refine go_aload_n (pc' := 117) cx dX6_set_116 rfl rfl ?_
          refine go_iload_n (pc' := 118) cx dX6_set_117 rfl rfl ?_
          refine go_iload_n (pc' := 119) cx dX6_set_118 rfl rfl ?_
          refine go_cVI (pc' := 122) cx (c_X6_told l E (g := g) hhn hvn h15 h19 (nI q) 2) mX6_told lX6_136 dX6_set_119 kq88 (ltn rfl) (ltn rfl) rfl rfl rfl rfl (ltn rfl) (Nat.le_of_ble_eq_true rfl) (Nat.le_of_ble_eq_true rfl) rfl (fun xt gt ht => ?_)
          obtain ⟨eg, ht⟩ := ht
          subst eg
          have ex : xt = svM gt 2 q := by
            rcases ht with ⟨-, h9 | h9⟩ | ⟨w8, q8, h1, h2, h3, h4, -, h5⟩
            · exact absurd h9 (by decide)
            · exact absurd h9 c18
            · have e8 : w8 = 2 := ((nI_eq (a := 2) (b := w8) (by omega) (by omega)).mp h3).symm
              subst e8
              rw [h5]
              rw [(nI_eq (a := q) (b := q8) (by omega) (by omega)).mp (h4 (by omega))]
              rfl
          refine go_istore (pc' := 124) cx dX6_set_122 (ltn rfl) [(5, .int xt), (4, .int 199), (0, .ref (E.2.1 88)), (1, .int 2), (2, .int (nI q)), (3, .int v)] rfl rfl ?_
          refine go_aload_n (pc' := 125) cx dX6_set_124 rfl rfl ?_
          refine go_iload_n (pc' := 126) cx dX6_set_125 rfl rfl ?_
          refine go_iload_n (pc' := 127) cx dX6_set_126 rfl rfl ?_
          refine go_iload_n (pc' := 128) cx dX6_set_127 rfl rfl ?_
          refine go_cVu (pc' := 131) cx (c_X6_lays2 l E (g := gt) hq v) mX6_lays lX6_140 dX6_set_128 kq88 (ltn rfl) (ltn rfl) rfl rfl rfl rfl (ltn rfl) (Nat.le_of_ble_eq_true rfl) (Nat.le_of_ble_eq_true rfl) rfl ?_
          refine go_iload (pc' := 133) cx dX6_set_131 rfl rfl ?_
          refine go_iret cx rfl dX6_set_133 ?_
          exact ZI.mk (Or.inr ⟨2, q, by omega, by omega, rfl, fun _ => rfl, c18, c110, ex, rfl⟩)
        · refine go_bipush (pc' := 115) cx (-100) dX6_set_113 rfl rfl ?_
          refine go_iret cx rfl dX6_set_115 ?_
          exact ZI.mk (Or.inl ⟨rfl, rfl, Or.inr (Or.inr c110)⟩)
      · refine go_iload_n (pc' := 25) cx dX6_set_24 rfl rfl ?_
        refine go_iconst (pc' := 26) cx 4 dX6_set_25 rfl rfl ?_
        refine go_icmp_lt (pc' := 29) cx 35 dX6_set_26 rfl rfl (fun _ => ?_) (fun hh => absurd hh (by decide))
        refine go_sipush (pc' := 38) cx 199 dX6_set_35 rfl rfl ?_
        refine go_goto cx 88 dX6_set_38 rfl ?_
        refine go_istore (pc' := 90) cx dX6_set_88 (ltn rfl) [(4, .int 199), (0, .ref (E.2.1 88)), (1, .int 3), (2, .int of), (3, .int v)] rfl rfl ?_
        refine go_iload_n (pc' := 91) cx dX6_set_90 rfl rfl ?_
        refine go_i2l (pc' := 92) cx dX6_set_91 rfl ?_
        refine go_iload_n (pc' := 93) cx dX6_set_92 rfl rfl ?_
        refine go_iconst (pc' := 94) cx 3 dX6_set_93 rfl rfl ?_
        refine go_icmp_ne (pc' := 97) cx 103 dX6_set_94 rfl rfl (fun hh => absurd hh (by decide)) (fun _ => ?_)
        refine go_ldc2 (pc' := 100) cx (-1) kX6_134 dX6_set_97 rfl ?_
        refine go_val (w := .long (((-1 : Int32)).toInt64)) (congrArg Value.long (by decide)) ?_
        refine go_goto cx 104 dX6_set_100 rfl ?_
        refine go_iload (pc' := 106) cx dX6_set_104 rfl rfl ?_
        refine go_i2l (pc' := 107) cx dX6_set_106 rfl ?_
        refine go_cSi (pc' := 110) cx (c_X6_in l E (g := g) v (-1) (199 : Int32)) mX6_in lX6_108 dX6_set_107 rfl rfl rfl (ltn rfl) (Nat.le_of_ble_eq_true rfl) (Nat.le_of_ble_eq_true rfl) rfl ?_
        refine go_if_ne (pc' := 113) cx 116 dX6_set_110 rfl rfl (fun c110 => ?_) (fun c110 => ?_)
        · refine go_aload_n (pc' := 117) cx dX6_set_116 rfl rfl ?_
          refine go_iload_n (pc' := 118) cx dX6_set_117 rfl rfl ?_
          refine go_iload_n (pc' := 119) cx dX6_set_118 rfl rfl ?_
          refine go_cVI (pc' := 122) cx (c_X6_told l E (g := g) hhn hvn h15 h19 (of) 3) mX6_told lX6_136 dX6_set_119 kq88 (ltn rfl) (ltn rfl) rfl rfl rfl rfl (ltn rfl) (Nat.le_of_ble_eq_true rfl) (Nat.le_of_ble_eq_true rfl) rfl (fun xt gt ht => ?_)
          obtain ⟨eg, ht⟩ := ht
          subst eg
          have ex : xt = svM gt 3 0 := by
            rcases ht with ⟨-, h9 | h9⟩ | ⟨w8, q8, h1, h2, h3, h4, -, h5⟩
            · exact absurd h9 (by decide)
            · exact absurd h9 c18
            · have e8 : w8 = 3 := ((nI_eq (a := 3) (b := w8) (by omega) (by omega)).mp h3).symm
              subst e8
              rw [h5]
              rfl
          refine go_istore (pc' := 124) cx dX6_set_122 (ltn rfl) [(5, .int xt), (4, .int 199), (0, .ref (E.2.1 88)), (1, .int 3), (2, .int of), (3, .int v)] rfl rfl ?_
          refine go_aload_n (pc' := 125) cx dX6_set_124 rfl rfl ?_
          refine go_iload_n (pc' := 126) cx dX6_set_125 rfl rfl ?_
          refine go_iload_n (pc' := 127) cx dX6_set_126 rfl rfl ?_
          refine go_iload_n (pc' := 128) cx dX6_set_127 rfl rfl ?_
          refine go_cVu (pc' := 131) cx (c_X6_lays3 l E (g := gt) of v) mX6_lays lX6_140 dX6_set_128 kq88 (ltn rfl) (ltn rfl) rfl rfl rfl rfl (ltn rfl) (Nat.le_of_ble_eq_true rfl) (Nat.le_of_ble_eq_true rfl) rfl ?_
          refine go_iload (pc' := 133) cx dX6_set_131 rfl rfl ?_
          refine go_iret cx rfl dX6_set_133 ?_
          exact ZI.mk (Or.inr ⟨3, 0, by omega, by omega, rfl, fun h => absurd rfl h, c18, c110, ex, rfl⟩)
        · refine go_bipush (pc' := 115) cx (-100) dX6_set_113 rfl rfl ?_
          refine go_iret cx rfl dX6_set_115 ?_
          exact ZI.mk (Or.inl ⟨rfl, rfl, Or.inr (Or.inr c110)⟩)
      · have cq : ¬ inI (nI hn) of = 0 := c18
        obtain ⟨q, hq, eq⟩ := in_ok (k := hn) (by omega) cq
        subst eq
        have hq8 : q < 5 := by omega
        refine go_iload_n (pc' := 25) cx dX6_set_24 rfl rfl ?_
        refine go_iconst (pc' := 26) cx 4 dX6_set_25 rfl rfl ?_
        refine go_icmp_lt (pc' := 29) cx 35 dX6_set_26 rfl rfl (fun hh => absurd hh (by decide)) (fun _ => ?_)
        refine go_iload_n (pc' := 30) cx dX6_set_29 rfl rfl ?_
        refine go_bipush (pc' := 32) cx 6 dX6_set_30 rfl rfl ?_
        refine go_icmp_ne (pc' := 35) cx 41 dX6_set_32 rfl rfl (fun _ => ?_) (fun hh => absurd hh (by decide))
        refine go_iload_n (pc' := 42) cx dX6_set_41 rfl rfl ?_
        refine go_iconst (pc' := 43) cx 4 dX6_set_42 rfl rfl ?_
        refine go_icmp_ne (pc' := 46) cx 51 dX6_set_43 rfl rfl (fun hh => absurd hh (by decide)) (fun _ => ?_)
        refine go_bipush (pc' := 48) cx 9 dX6_set_46 rfl rfl ?_
        refine go_goto cx 88 dX6_set_48 rfl ?_
        refine go_istore (pc' := 90) cx dX6_set_88 (ltn rfl) [(4, .int 9), (0, .ref (E.2.1 88)), (1, .int 4), (2, .int (nI q)), (3, .int v)] rfl rfl ?_
        refine go_iload_n (pc' := 91) cx dX6_set_90 rfl rfl ?_
        refine go_i2l (pc' := 92) cx dX6_set_91 rfl ?_
        refine go_iload_n (pc' := 93) cx dX6_set_92 rfl rfl ?_
        refine go_iconst (pc' := 94) cx 3 dX6_set_93 rfl rfl ?_
        refine go_icmp_ne (pc' := 97) cx 103 dX6_set_94 rfl rfl (fun _ => ?_) (fun hh => absurd hh (by decide))
        refine go_lconst (pc' := 104) cx 0 dX6_set_103 rfl rfl ?_
        refine go_val (w := .long (((0 : Int32)).toInt64)) (congrArg Value.long (by decide)) ?_
        refine go_iload (pc' := 106) cx dX6_set_104 rfl rfl ?_
        refine go_i2l (pc' := 107) cx dX6_set_106 rfl ?_
        refine go_cSi (pc' := 110) cx (c_X6_in l E (g := g) v (0 : Int32) (9 : Int32)) mX6_in lX6_108 dX6_set_107 rfl rfl rfl (ltn rfl) (Nat.le_of_ble_eq_true rfl) (Nat.le_of_ble_eq_true rfl) rfl ?_
        refine go_if_ne (pc' := 113) cx 116 dX6_set_110 rfl rfl (fun c110 => ?_) (fun c110 => ?_)
        · refine go_aload_n (pc' := 117) cx dX6_set_116 rfl rfl ?_
          refine go_iload_n (pc' := 118) cx dX6_set_117 rfl rfl ?_
          refine go_iload_n (pc' := 119) cx dX6_set_118 rfl rfl ?_
          refine go_cVI (pc' := 122) cx (c_X6_told l E (g := g) hhn hvn h15 h19 (nI q) 4) mX6_told lX6_136 dX6_set_119 kq88 (ltn rfl) (ltn rfl) rfl rfl rfl rfl (ltn rfl) (Nat.le_of_ble_eq_true rfl) (Nat.le_of_ble_eq_true rfl) rfl (fun xt gt ht => ?_)
          obtain ⟨eg, ht⟩ := ht
          subst eg
          have ex : xt = svM gt 4 q := by
            rcases ht with ⟨-, h9 | h9⟩ | ⟨w8, q8, h1, h2, h3, h4, -, h5⟩
            · exact absurd h9 (by decide)
            · exact absurd h9 c18
            · have e8 : w8 = 4 := ((nI_eq (a := 4) (b := w8) (by omega) (by omega)).mp h3).symm
              subst e8
              rw [h5]
              rw [(nI_eq (a := q) (b := q8) (by omega) (by omega)).mp (h4 (by omega))]
              rfl
          refine go_istore (pc' := 124) cx dX6_set_122 (ltn rfl) [(5, .int xt), (4, .int 9), (0, .ref (E.2.1 88)), (1, .int 4), (2, .int (nI q)), (3, .int v)] rfl rfl ?_
          refine go_aload_n (pc' := 125) cx dX6_set_124 rfl rfl ?_
          refine go_iload_n (pc' := 126) cx dX6_set_125 rfl rfl ?_
          refine go_iload_n (pc' := 127) cx dX6_set_126 rfl rfl ?_
          refine go_iload_n (pc' := 128) cx dX6_set_127 rfl rfl ?_
          refine go_cVu (pc' := 131) cx (c_X6_lays4 l E (g := gt) hq8 v) mX6_lays lX6_140 dX6_set_128 kq88 (ltn rfl) (ltn rfl) rfl rfl rfl rfl (ltn rfl) (Nat.le_of_ble_eq_true rfl) (Nat.le_of_ble_eq_true rfl) rfl ?_
          refine go_iload (pc' := 133) cx dX6_set_131 rfl rfl ?_
          refine go_iret cx rfl dX6_set_133 ?_
          exact ZI.mk (Or.inr ⟨4, q, by omega, by omega, rfl, fun _ => rfl, c18, c110, ex, rfl⟩)
        · refine go_bipush (pc' := 115) cx (-100) dX6_set_113 rfl rfl ?_
          refine go_iret cx rfl dX6_set_115 ?_
          exact ZI.mk (Or.inl ⟨rfl, rfl, Or.inr (Or.inr c110)⟩)
      · have cq : ¬ inI (nI hn) of = 0 := c18
        obtain ⟨q, hq, eq⟩ := in_ok (k := hn) (by omega) cq
        subst eq
        have hq8 : q < 5 := by omega
        refine go_iload_n (pc' := 25) cx dX6_set_24 rfl rfl ?_
        refine go_iconst (pc' := 26) cx 4 dX6_set_25 rfl rfl ?_
        refine go_icmp_lt (pc' := 29) cx 35 dX6_set_26 rfl rfl (fun hh => absurd hh (by decide)) (fun _ => ?_)
        refine go_iload_n (pc' := 30) cx dX6_set_29 rfl rfl ?_
        refine go_bipush (pc' := 32) cx 6 dX6_set_30 rfl rfl ?_
        refine go_icmp_ne (pc' := 35) cx 41 dX6_set_32 rfl rfl (fun _ => ?_) (fun hh => absurd hh (by decide))
        refine go_iload_n (pc' := 42) cx dX6_set_41 rfl rfl ?_
        refine go_iconst (pc' := 43) cx 4 dX6_set_42 rfl rfl ?_
        refine go_icmp_ne (pc' := 46) cx 51 dX6_set_43 rfl rfl (fun _ => ?_) (fun hh => absurd hh (by decide))
        refine go_iload_n (pc' := 52) cx dX6_set_51 rfl rfl ?_
        refine go_iconst (pc' := 53) cx 5 dX6_set_52 rfl rfl ?_
        refine go_icmp_ne (pc' := 56) cx 61 dX6_set_53 rfl rfl (fun hh => absurd hh (by decide)) (fun _ => ?_)
        refine go_bipush (pc' := 58) cx 10 dX6_set_56 rfl rfl ?_
        refine go_goto cx 88 dX6_set_58 rfl ?_
        refine go_istore (pc' := 90) cx dX6_set_88 (ltn rfl) [(4, .int 10), (0, .ref (E.2.1 88)), (1, .int 5), (2, .int (nI q)), (3, .int v)] rfl rfl ?_
        refine go_iload_n (pc' := 91) cx dX6_set_90 rfl rfl ?_
        refine go_i2l (pc' := 92) cx dX6_set_91 rfl ?_
        refine go_iload_n (pc' := 93) cx dX6_set_92 rfl rfl ?_
        refine go_iconst (pc' := 94) cx 3 dX6_set_93 rfl rfl ?_
        refine go_icmp_ne (pc' := 97) cx 103 dX6_set_94 rfl rfl (fun _ => ?_) (fun hh => absurd hh (by decide))
        refine go_lconst (pc' := 104) cx 0 dX6_set_103 rfl rfl ?_
        refine go_val (w := .long (((0 : Int32)).toInt64)) (congrArg Value.long (by decide)) ?_
        refine go_iload (pc' := 106) cx dX6_set_104 rfl rfl ?_
        refine go_i2l (pc' := 107) cx dX6_set_106 rfl ?_
        refine go_cSi (pc' := 110) cx (c_X6_in l E (g := g) v (0 : Int32) (10 : Int32)) mX6_in lX6_108 dX6_set_107 rfl rfl rfl (ltn rfl) (Nat.le_of_ble_eq_true rfl) (Nat.le_of_ble_eq_true rfl) rfl ?_
        refine go_if_ne (pc' := 113) cx 116 dX6_set_110 rfl rfl (fun c110 => ?_) (fun c110 => ?_)
        · refine go_aload_n (pc' := 117) cx dX6_set_116 rfl rfl ?_
          refine go_iload_n (pc' := 118) cx dX6_set_117 rfl rfl ?_
          refine go_iload_n (pc' := 119) cx dX6_set_118 rfl rfl ?_
          refine go_cVI (pc' := 122) cx (c_X6_told l E (g := g) hhn hvn h15 h19 (nI q) 5) mX6_told lX6_136 dX6_set_119 kq88 (ltn rfl) (ltn rfl) rfl rfl rfl rfl (ltn rfl) (Nat.le_of_ble_eq_true rfl) (Nat.le_of_ble_eq_true rfl) rfl (fun xt gt ht => ?_)
          obtain ⟨eg, ht⟩ := ht
          subst eg
          have ex : xt = svM gt 5 q := by
            rcases ht with ⟨-, h9 | h9⟩ | ⟨w8, q8, h1, h2, h3, h4, -, h5⟩
            · exact absurd h9 (by decide)
            · exact absurd h9 c18
            · have e8 : w8 = 5 := ((nI_eq (a := 5) (b := w8) (by omega) (by omega)).mp h3).symm
              subst e8
              rw [h5]
              rw [(nI_eq (a := q) (b := q8) (by omega) (by omega)).mp (h4 (by omega))]
              rfl
          refine go_istore (pc' := 124) cx dX6_set_122 (ltn rfl) [(5, .int xt), (4, .int 10), (0, .ref (E.2.1 88)), (1, .int 5), (2, .int (nI q)), (3, .int v)] rfl rfl ?_
          refine go_aload_n (pc' := 125) cx dX6_set_124 rfl rfl ?_
          refine go_iload_n (pc' := 126) cx dX6_set_125 rfl rfl ?_
          refine go_iload_n (pc' := 127) cx dX6_set_126 rfl rfl ?_
          refine go_iload_n (pc' := 128) cx dX6_set_127 rfl rfl ?_
          refine go_cVu (pc' := 131) cx (c_X6_lays5 l E (g := gt) hq8 v) mX6_lays lX6_140 dX6_set_128 kq88 (ltn rfl) (ltn rfl) rfl rfl rfl rfl (ltn rfl) (Nat.le_of_ble_eq_true rfl) (Nat.le_of_ble_eq_true rfl) rfl ?_
          refine go_iload (pc' := 133) cx dX6_set_131 rfl rfl ?_
          refine go_iret cx rfl dX6_set_133 ?_
          exact ZI.mk (Or.inr ⟨5, q, by omega, by omega, rfl, fun _ => rfl, c18, c110, ex, rfl⟩)
        · refine go_bipush (pc' := 115) cx (-100) dX6_set_113 rfl rfl ?_
          refine go_iret cx rfl dX6_set_115 ?_
          exact ZI.mk (Or.inl ⟨rfl, rfl, Or.inr (Or.inr c110)⟩)
      · have cq : ¬ inI (nI hn) of = 0 := c18
        obtain ⟨q, hq, eq⟩ := in_ok (k := hn) (by omega) cq
        subst eq
        have hq8 : q < 5 := by omega
        refine go_iload_n (pc' := 25) cx dX6_set_24 rfl rfl ?_
        refine go_iconst (pc' := 26) cx 4 dX6_set_25 rfl rfl ?_
        refine go_icmp_lt (pc' := 29) cx 35 dX6_set_26 rfl rfl (fun hh => absurd hh (by decide)) (fun _ => ?_)
        refine go_iload_n (pc' := 30) cx dX6_set_29 rfl rfl ?_
        refine go_bipush (pc' := 32) cx 6 dX6_set_30 rfl rfl ?_
        refine go_icmp_ne (pc' := 35) cx 41 dX6_set_32 rfl rfl (fun hh => absurd hh (by decide)) (fun _ => ?_)
        refine go_sipush (pc' := 38) cx 199 dX6_set_35 rfl rfl ?_
        refine go_goto cx 88 dX6_set_38 rfl ?_
        refine go_istore (pc' := 90) cx dX6_set_88 (ltn rfl) [(4, .int 199), (0, .ref (E.2.1 88)), (1, .int 6), (2, .int (nI q)), (3, .int v)] rfl rfl ?_
        refine go_iload_n (pc' := 91) cx dX6_set_90 rfl rfl ?_
        refine go_i2l (pc' := 92) cx dX6_set_91 rfl ?_
        refine go_iload_n (pc' := 93) cx dX6_set_92 rfl rfl ?_
        refine go_iconst (pc' := 94) cx 3 dX6_set_93 rfl rfl ?_
        refine go_icmp_ne (pc' := 97) cx 103 dX6_set_94 rfl rfl (fun _ => ?_) (fun hh => absurd hh (by decide))
        refine go_lconst (pc' := 104) cx 0 dX6_set_103 rfl rfl ?_
        refine go_val (w := .long (((0 : Int32)).toInt64)) (congrArg Value.long (by decide)) ?_
        refine go_iload (pc' := 106) cx dX6_set_104 rfl rfl ?_
        refine go_i2l (pc' := 107) cx dX6_set_106 rfl ?_
        refine go_cSi (pc' := 110) cx (c_X6_in l E (g := g) v (0 : Int32) (199 : Int32)) mX6_in lX6_108 dX6_set_107 rfl rfl rfl (ltn rfl) (Nat.le_of_ble_eq_true rfl) (Nat.le_of_ble_eq_true rfl) rfl ?_
        refine go_if_ne (pc' := 113) cx 116 dX6_set_110 rfl rfl (fun c110 => ?_) (fun c110 => ?_)
        · refine go_aload_n (pc' := 117) cx dX6_set_116 rfl rfl ?_
          refine go_iload_n (pc' := 118) cx dX6_set_117 rfl rfl ?_
          refine go_iload_n (pc' := 119) cx dX6_set_118 rfl rfl ?_
          refine go_cVI (pc' := 122) cx (c_X6_told l E (g := g) hhn hvn h15 h19 (nI q) 6) mX6_told lX6_136 dX6_set_119 kq88 (ltn rfl) (ltn rfl) rfl rfl rfl rfl (ltn rfl) (Nat.le_of_ble_eq_true rfl) (Nat.le_of_ble_eq_true rfl) rfl (fun xt gt ht => ?_)
          obtain ⟨eg, ht⟩ := ht
          subst eg
          have ex : xt = svM gt 6 q := by
            rcases ht with ⟨-, h9 | h9⟩ | ⟨w8, q8, h1, h2, h3, h4, -, h5⟩
            · exact absurd h9 (by decide)
            · exact absurd h9 c18
            · have e8 : w8 = 6 := ((nI_eq (a := 6) (b := w8) (by omega) (by omega)).mp h3).symm
              subst e8
              rw [h5]
              rw [(nI_eq (a := q) (b := q8) (by omega) (by omega)).mp (h4 (by omega))]
              rfl
          refine go_istore (pc' := 124) cx dX6_set_122 (ltn rfl) [(5, .int xt), (4, .int 199), (0, .ref (E.2.1 88)), (1, .int 6), (2, .int (nI q)), (3, .int v)] rfl rfl ?_
          refine go_aload_n (pc' := 125) cx dX6_set_124 rfl rfl ?_
          refine go_iload_n (pc' := 126) cx dX6_set_125 rfl rfl ?_
          refine go_iload_n (pc' := 127) cx dX6_set_126 rfl rfl ?_
          refine go_iload_n (pc' := 128) cx dX6_set_127 rfl rfl ?_
          refine go_cVu (pc' := 131) cx (c_X6_lays6 l E (g := gt) hq8 v) mX6_lays lX6_140 dX6_set_128 kq88 (ltn rfl) (ltn rfl) rfl rfl rfl rfl (ltn rfl) (Nat.le_of_ble_eq_true rfl) (Nat.le_of_ble_eq_true rfl) rfl ?_
          refine go_iload (pc' := 133) cx dX6_set_131 rfl rfl ?_
          refine go_iret cx rfl dX6_set_133 ?_
          exact ZI.mk (Or.inr ⟨6, q, by omega, by omega, rfl, fun _ => rfl, c18, c110, ex, rfl⟩)
        · refine go_bipush (pc' := 115) cx (-100) dX6_set_113 rfl rfl ?_
          refine go_iret cx rfl dX6_set_115 ?_
          exact ZI.mk (Or.inl ⟨rfl, rfl, Or.inr (Or.inr c110)⟩)
      · have cq : ¬ inI (nI vn) of = 0 := c18
        obtain ⟨q, hq, eq⟩ := in_ok (k := vn) (by omega) cq
        subst eq
        have hq8 : q < 8 := by omega
        refine go_iload_n (pc' := 25) cx dX6_set_24 rfl rfl ?_
        refine go_iconst (pc' := 26) cx 4 dX6_set_25 rfl rfl ?_
        refine go_icmp_lt (pc' := 29) cx 35 dX6_set_26 rfl rfl (fun hh => absurd hh (by decide)) (fun _ => ?_)
        refine go_iload_n (pc' := 30) cx dX6_set_29 rfl rfl ?_
        refine go_bipush (pc' := 32) cx 6 dX6_set_30 rfl rfl ?_
        refine go_icmp_ne (pc' := 35) cx 41 dX6_set_32 rfl rfl (fun _ => ?_) (fun hh => absurd hh (by decide))
        refine go_iload_n (pc' := 42) cx dX6_set_41 rfl rfl ?_
        refine go_iconst (pc' := 43) cx 4 dX6_set_42 rfl rfl ?_
        refine go_icmp_ne (pc' := 46) cx 51 dX6_set_43 rfl rfl (fun _ => ?_) (fun hh => absurd hh (by decide))
        refine go_iload_n (pc' := 52) cx dX6_set_51 rfl rfl ?_
        refine go_iconst (pc' := 53) cx 5 dX6_set_52 rfl rfl ?_
        refine go_icmp_ne (pc' := 56) cx 61 dX6_set_53 rfl rfl (fun _ => ?_) (fun hh => absurd hh (by decide))
        refine go_iload_n (pc' := 62) cx dX6_set_61 rfl rfl ?_
        refine go_bipush (pc' := 64) cx 7 dX6_set_62 rfl rfl ?_
        refine go_icmp_ne (pc' := 67) cx 76 dX6_set_64 rfl rfl (fun hh => absurd hh (by decide)) (fun _ => ?_)
        refine go_aload_n (pc' := 68) cx dX6_set_67 rfl rfl ?_
        refine go_geti (pc' := 71) cx (nI hn) fX6_112 dX6_set_68 kq88 (ltn rfl) (ltn rfl) rfl h15 rfl ?_
        refine go_iconst (pc' := 72) cx 1 dX6_set_71 rfl rfl ?_
        refine go_isub (pc' := 73) cx dX6_set_72 rfl ?_
        refine go_goto cx 88 dX6_set_73 rfl ?_
        refine go_istore (pc' := 90) cx dX6_set_88 (ltn rfl) [(4, .int ((nI hn) - 1)), (0, .ref (E.2.1 88)), (1, .int 7), (2, .int (nI q)), (3, .int v)] rfl rfl ?_
        refine go_iload_n (pc' := 91) cx dX6_set_90 rfl rfl ?_
        refine go_i2l (pc' := 92) cx dX6_set_91 rfl ?_
        refine go_iload_n (pc' := 93) cx dX6_set_92 rfl rfl ?_
        refine go_iconst (pc' := 94) cx 3 dX6_set_93 rfl rfl ?_
        refine go_icmp_ne (pc' := 97) cx 103 dX6_set_94 rfl rfl (fun _ => ?_) (fun hh => absurd hh (by decide))
        refine go_lconst (pc' := 104) cx 0 dX6_set_103 rfl rfl ?_
        refine go_val (w := .long (((0 : Int32)).toInt64)) (congrArg Value.long (by decide)) ?_
        refine go_iload (pc' := 106) cx dX6_set_104 rfl rfl ?_
        refine go_i2l (pc' := 107) cx dX6_set_106 rfl ?_
        refine go_cSi (pc' := 110) cx (c_X6_in l E (g := g) v (0 : Int32) ((nI hn) - 1)) mX6_in lX6_108 dX6_set_107 rfl rfl rfl (ltn rfl) (Nat.le_of_ble_eq_true rfl) (Nat.le_of_ble_eq_true rfl) rfl ?_
        refine go_if_ne (pc' := 113) cx 116 dX6_set_110 rfl rfl (fun c110 => ?_) (fun c110 => ?_)
        · refine go_aload_n (pc' := 117) cx dX6_set_116 rfl rfl ?_
          refine go_iload_n (pc' := 118) cx dX6_set_117 rfl rfl ?_
          refine go_iload_n (pc' := 119) cx dX6_set_118 rfl rfl ?_
          refine go_cVI (pc' := 122) cx (c_X6_told l E (g := g) hhn hvn h15 h19 (nI q) 7) mX6_told lX6_136 dX6_set_119 kq88 (ltn rfl) (ltn rfl) rfl rfl rfl rfl (ltn rfl) (Nat.le_of_ble_eq_true rfl) (Nat.le_of_ble_eq_true rfl) rfl (fun xt gt ht => ?_)
          obtain ⟨eg, ht⟩ := ht
          subst eg
          have ex : xt = svM gt 7 q := by
            rcases ht with ⟨-, h9 | h9⟩ | ⟨w8, q8, h1, h2, h3, h4, -, h5⟩
            · exact absurd h9 (by decide)
            · exact absurd h9 c18
            · have e8 : w8 = 7 := ((nI_eq (a := 7) (b := w8) (by omega) (by omega)).mp h3).symm
              subst e8
              rw [h5]
              rw [(nI_eq (a := q) (b := q8) (by omega) (by omega)).mp (h4 (by omega))]
              rfl
          refine go_istore (pc' := 124) cx dX6_set_122 (ltn rfl) [(5, .int xt), (4, .int ((nI hn) - 1)), (0, .ref (E.2.1 88)), (1, .int 7), (2, .int (nI q)), (3, .int v)] rfl rfl ?_
          refine go_aload_n (pc' := 125) cx dX6_set_124 rfl rfl ?_
          refine go_iload_n (pc' := 126) cx dX6_set_125 rfl rfl ?_
          refine go_iload_n (pc' := 127) cx dX6_set_126 rfl rfl ?_
          refine go_iload_n (pc' := 128) cx dX6_set_127 rfl rfl ?_
          refine go_cVu (pc' := 131) cx (c_X6_lays7 l E (g := gt) hq8 v) mX6_lays lX6_140 dX6_set_128 kq88 (ltn rfl) (ltn rfl) rfl rfl rfl rfl (ltn rfl) (Nat.le_of_ble_eq_true rfl) (Nat.le_of_ble_eq_true rfl) rfl ?_
          refine go_iload (pc' := 133) cx dX6_set_131 rfl rfl ?_
          refine go_iret cx rfl dX6_set_133 ?_
          exact ZI.mk (Or.inr ⟨7, q, by omega, by omega, rfl, fun _ => rfl, c18, c110, ex, rfl⟩)
        · refine go_bipush (pc' := 115) cx (-100) dX6_set_113 rfl rfl ?_
          refine go_iret cx rfl dX6_set_115 ?_
          exact ZI.mk (Or.inl ⟨rfl, rfl, Or.inr (Or.inr c110)⟩)
      · have cq : ¬ inI (nI vn) of = 0 := c18
        obtain ⟨q, hq, eq⟩ := in_ok (k := vn) (by omega) cq
        subst eq
        have hq8 : q < 8 := by omega
        refine go_iload_n (pc' := 25) cx dX6_set_24 rfl rfl ?_
        refine go_iconst (pc' := 26) cx 4 dX6_set_25 rfl rfl ?_
        refine go_icmp_lt (pc' := 29) cx 35 dX6_set_26 rfl rfl (fun hh => absurd hh (by decide)) (fun _ => ?_)
        refine go_iload_n (pc' := 30) cx dX6_set_29 rfl rfl ?_
        refine go_bipush (pc' := 32) cx 6 dX6_set_30 rfl rfl ?_
        refine go_icmp_ne (pc' := 35) cx 41 dX6_set_32 rfl rfl (fun _ => ?_) (fun hh => absurd hh (by decide))
        refine go_iload_n (pc' := 42) cx dX6_set_41 rfl rfl ?_
        refine go_iconst (pc' := 43) cx 4 dX6_set_42 rfl rfl ?_
        refine go_icmp_ne (pc' := 46) cx 51 dX6_set_43 rfl rfl (fun _ => ?_) (fun hh => absurd hh (by decide))
        refine go_iload_n (pc' := 52) cx dX6_set_51 rfl rfl ?_
        refine go_iconst (pc' := 53) cx 5 dX6_set_52 rfl rfl ?_
        refine go_icmp_ne (pc' := 56) cx 61 dX6_set_53 rfl rfl (fun _ => ?_) (fun hh => absurd hh (by decide))
        refine go_iload_n (pc' := 62) cx dX6_set_61 rfl rfl ?_
        refine go_bipush (pc' := 64) cx 7 dX6_set_62 rfl rfl ?_
        refine go_icmp_ne (pc' := 67) cx 76 dX6_set_64 rfl rfl (fun _ => ?_) (fun hh => absurd hh (by decide))
        refine go_iload_n (pc' := 77) cx dX6_set_76 rfl rfl ?_
        refine go_bipush (pc' := 79) cx 8 dX6_set_77 rfl rfl ?_
        refine go_icmp_ne (pc' := 82) cx 87 dX6_set_79 rfl rfl (fun hh => absurd hh (by decide)) (fun _ => ?_)
        refine go_bipush (pc' := 84) cx 20 dX6_set_82 rfl rfl ?_
        refine go_goto cx 88 dX6_set_84 rfl ?_
        refine go_istore (pc' := 90) cx dX6_set_88 (ltn rfl) [(4, .int 20), (0, .ref (E.2.1 88)), (1, .int 8), (2, .int (nI q)), (3, .int v)] rfl rfl ?_
        refine go_iload_n (pc' := 91) cx dX6_set_90 rfl rfl ?_
        refine go_i2l (pc' := 92) cx dX6_set_91 rfl ?_
        refine go_iload_n (pc' := 93) cx dX6_set_92 rfl rfl ?_
        refine go_iconst (pc' := 94) cx 3 dX6_set_93 rfl rfl ?_
        refine go_icmp_ne (pc' := 97) cx 103 dX6_set_94 rfl rfl (fun _ => ?_) (fun hh => absurd hh (by decide))
        refine go_lconst (pc' := 104) cx 0 dX6_set_103 rfl rfl ?_
        refine go_val (w := .long (((0 : Int32)).toInt64)) (congrArg Value.long (by decide)) ?_
        refine go_iload (pc' := 106) cx dX6_set_104 rfl rfl ?_
        refine go_i2l (pc' := 107) cx dX6_set_106 rfl ?_
        refine go_cSi (pc' := 110) cx (c_X6_in l E (g := g) v (0 : Int32) (20 : Int32)) mX6_in lX6_108 dX6_set_107 rfl rfl rfl (ltn rfl) (Nat.le_of_ble_eq_true rfl) (Nat.le_of_ble_eq_true rfl) rfl ?_
        refine go_if_ne (pc' := 113) cx 116 dX6_set_110 rfl rfl (fun c110 => ?_) (fun c110 => ?_)
        · refine go_aload_n (pc' := 117) cx dX6_set_116 rfl rfl ?_
          refine go_iload_n (pc' := 118) cx dX6_set_117 rfl rfl ?_
          refine go_iload_n (pc' := 119) cx dX6_set_118 rfl rfl ?_
          refine go_cVI (pc' := 122) cx (c_X6_told l E (g := g) hhn hvn h15 h19 (nI q) 8) mX6_told lX6_136 dX6_set_119 kq88 (ltn rfl) (ltn rfl) rfl rfl rfl rfl (ltn rfl) (Nat.le_of_ble_eq_true rfl) (Nat.le_of_ble_eq_true rfl) rfl (fun xt gt ht => ?_)
          obtain ⟨eg, ht⟩ := ht
          subst eg
          have ex : xt = svM gt 8 q := by
            rcases ht with ⟨-, h9 | h9⟩ | ⟨w8, q8, h1, h2, h3, h4, -, h5⟩
            · exact absurd h9 (by decide)
            · exact absurd h9 c18
            · have e8 : w8 = 8 := ((nI_eq (a := 8) (b := w8) (by omega) (by omega)).mp h3).symm
              subst e8
              rw [h5]
              rw [(nI_eq (a := q) (b := q8) (by omega) (by omega)).mp (h4 (by omega))]
              rfl
          refine go_istore (pc' := 124) cx dX6_set_122 (ltn rfl) [(5, .int xt), (4, .int 20), (0, .ref (E.2.1 88)), (1, .int 8), (2, .int (nI q)), (3, .int v)] rfl rfl ?_
          refine go_aload_n (pc' := 125) cx dX6_set_124 rfl rfl ?_
          refine go_iload_n (pc' := 126) cx dX6_set_125 rfl rfl ?_
          refine go_iload_n (pc' := 127) cx dX6_set_126 rfl rfl ?_
          refine go_iload_n (pc' := 128) cx dX6_set_127 rfl rfl ?_
          refine go_cVu (pc' := 131) cx (c_X6_lays8 l E (g := gt) hq8 v) mX6_lays lX6_140 dX6_set_128 kq88 (ltn rfl) (ltn rfl) rfl rfl rfl rfl (ltn rfl) (Nat.le_of_ble_eq_true rfl) (Nat.le_of_ble_eq_true rfl) rfl ?_
          refine go_iload (pc' := 133) cx dX6_set_131 rfl rfl ?_
          refine go_iret cx rfl dX6_set_133 ?_
          exact ZI.mk (Or.inr ⟨8, q, by omega, by omega, rfl, fun _ => rfl, c18, c110, ex, rfl⟩)
        · refine go_bipush (pc' := 115) cx (-100) dX6_set_113 rfl rfl ?_
          refine go_iret cx rfl dX6_set_115 ?_
          exact ZI.mk (Or.inl ⟨rfl, rfl, Or.inr (Or.inr c110)⟩)
      · have cq : ¬ inI (nI vn) of = 0 := c18
        obtain ⟨q, hq, eq⟩ := in_ok (k := vn) (by omega) cq
        subst eq
        have hq8 : q < 8 := by omega
        refine go_iload_n (pc' := 25) cx dX6_set_24 rfl rfl ?_
        refine go_iconst (pc' := 26) cx 4 dX6_set_25 rfl rfl ?_
        refine go_icmp_lt (pc' := 29) cx 35 dX6_set_26 rfl rfl (fun hh => absurd hh (by decide)) (fun _ => ?_)
        refine go_iload_n (pc' := 30) cx dX6_set_29 rfl rfl ?_
        refine go_bipush (pc' := 32) cx 6 dX6_set_30 rfl rfl ?_
        refine go_icmp_ne (pc' := 35) cx 41 dX6_set_32 rfl rfl (fun _ => ?_) (fun hh => absurd hh (by decide))
        refine go_iload_n (pc' := 42) cx dX6_set_41 rfl rfl ?_
        refine go_iconst (pc' := 43) cx 4 dX6_set_42 rfl rfl ?_
        refine go_icmp_ne (pc' := 46) cx 51 dX6_set_43 rfl rfl (fun _ => ?_) (fun hh => absurd hh (by decide))
        refine go_iload_n (pc' := 52) cx dX6_set_51 rfl rfl ?_
        refine go_iconst (pc' := 53) cx 5 dX6_set_52 rfl rfl ?_
        refine go_icmp_ne (pc' := 56) cx 61 dX6_set_53 rfl rfl (fun _ => ?_) (fun hh => absurd hh (by decide))
        refine go_iload_n (pc' := 62) cx dX6_set_61 rfl rfl ?_
        refine go_bipush (pc' := 64) cx 7 dX6_set_62 rfl rfl ?_
        refine go_icmp_ne (pc' := 67) cx 76 dX6_set_64 rfl rfl (fun _ => ?_) (fun hh => absurd hh (by decide))
        refine go_iload_n (pc' := 77) cx dX6_set_76 rfl rfl ?_
        refine go_bipush (pc' := 79) cx 8 dX6_set_77 rfl rfl ?_
        refine go_icmp_ne (pc' := 82) cx 87 dX6_set_79 rfl rfl (fun _ => ?_) (fun hh => absurd hh (by decide))
        refine go_iconst (pc' := 88) cx 3 dX6_set_87 rfl rfl ?_
        refine go_istore (pc' := 90) cx dX6_set_88 (ltn rfl) [(4, .int 3), (0, .ref (E.2.1 88)), (1, .int 9), (2, .int (nI q)), (3, .int v)] rfl rfl ?_
        refine go_iload_n (pc' := 91) cx dX6_set_90 rfl rfl ?_
        refine go_i2l (pc' := 92) cx dX6_set_91 rfl ?_
        refine go_iload_n (pc' := 93) cx dX6_set_92 rfl rfl ?_
        refine go_iconst (pc' := 94) cx 3 dX6_set_93 rfl rfl ?_
        refine go_icmp_ne (pc' := 97) cx 103 dX6_set_94 rfl rfl (fun _ => ?_) (fun hh => absurd hh (by decide))
        refine go_lconst (pc' := 104) cx 0 dX6_set_103 rfl rfl ?_
        refine go_val (w := .long (((0 : Int32)).toInt64)) (congrArg Value.long (by decide)) ?_
        refine go_iload (pc' := 106) cx dX6_set_104 rfl rfl ?_
        refine go_i2l (pc' := 107) cx dX6_set_106 rfl ?_
        refine go_cSi (pc' := 110) cx (c_X6_in l E (g := g) v (0 : Int32) (3 : Int32)) mX6_in lX6_108 dX6_set_107 rfl rfl rfl (ltn rfl) (Nat.le_of_ble_eq_true rfl) (Nat.le_of_ble_eq_true rfl) rfl ?_
        refine go_if_ne (pc' := 113) cx 116 dX6_set_110 rfl rfl (fun c110 => ?_) (fun c110 => ?_)
        · refine go_aload_n (pc' := 117) cx dX6_set_116 rfl rfl ?_
          refine go_iload_n (pc' := 118) cx dX6_set_117 rfl rfl ?_
          refine go_iload_n (pc' := 119) cx dX6_set_118 rfl rfl ?_
          refine go_cVI (pc' := 122) cx (c_X6_told l E (g := g) hhn hvn h15 h19 (nI q) 9) mX6_told lX6_136 dX6_set_119 kq88 (ltn rfl) (ltn rfl) rfl rfl rfl rfl (ltn rfl) (Nat.le_of_ble_eq_true rfl) (Nat.le_of_ble_eq_true rfl) rfl (fun xt gt ht => ?_)
          obtain ⟨eg, ht⟩ := ht
          subst eg
          have ex : xt = svM gt 9 q := by
            rcases ht with ⟨-, h9 | h9⟩ | ⟨w8, q8, h1, h2, h3, h4, -, h5⟩
            · exact absurd h9 (by decide)
            · exact absurd h9 c18
            · have e8 : w8 = 9 := ((nI_eq (a := 9) (b := w8) (by omega) (by omega)).mp h3).symm
              subst e8
              rw [h5]
              rw [(nI_eq (a := q) (b := q8) (by omega) (by omega)).mp (h4 (by omega))]
              rfl
          refine go_istore (pc' := 124) cx dX6_set_122 (ltn rfl) [(5, .int xt), (4, .int 3), (0, .ref (E.2.1 88)), (1, .int 9), (2, .int (nI q)), (3, .int v)] rfl rfl ?_
          refine go_aload_n (pc' := 125) cx dX6_set_124 rfl rfl ?_
          refine go_iload_n (pc' := 126) cx dX6_set_125 rfl rfl ?_
          refine go_iload_n (pc' := 127) cx dX6_set_126 rfl rfl ?_
          refine go_iload_n (pc' := 128) cx dX6_set_127 rfl rfl ?_
          refine go_cVu (pc' := 131) cx (c_X6_lays9 l E (g := gt) hq8 v) mX6_lays lX6_140 dX6_set_128 kq88 (ltn rfl) (ltn rfl) rfl rfl rfl rfl (ltn rfl) (Nat.le_of_ble_eq_true rfl) (Nat.le_of_ble_eq_true rfl) rfl ?_
          refine go_iload (pc' := 133) cx dX6_set_131 rfl rfl ?_
          refine go_iret cx rfl dX6_set_133 ?_
          exact ZI.mk (Or.inr ⟨9, q, by omega, by omega, rfl, fun _ => rfl, c18, c110, ex, rfl⟩)
        · refine go_bipush (pc' := 115) cx (-100) dX6_set_113 rfl rfl ?_
          refine go_iret cx rfl dX6_set_115 ?_
          exact ZI.mk (Or.inl ⟨rfl, rfl, Or.inr (Or.inr c110)⟩)
    · refine go_bipush (pc' := 23) cx (-100) dX6_set_21 rfl rfl ?_
      refine go_iret cx rfl dX6_set_23 ?_
      exact ZI.mk (Or.inl ⟨rfl, rfl, Or.inr (Or.inl c18)⟩)
