/-! the law, cases 6 to 11 -/
set_option maxHeartbeats 4000000 in
set_option maxRecDepth 100000 in
theorem lc_6 {p : Program} {l : Launch} {e : Env} {s : State} {m : MethodId} {below : List Frame} {meth : Method} {c : Code} {b Ls : Nat} {xs : Nat → Int32} {g : wG} {Q : State → Prop} {S : Nat → BT} {M : BT} {o : (Nat → Int64) × (Nat → UInt64)} {t cells slots : Nat} {z : Int32} {H : Heap} {locs : List Loc} {ls : Array Slot}
    (C9 : LC p l s m c b Ls xs g) (hz : z = nI (5 * t)) (hlt : 5 * t + 5 ≤ Ls) (hL : Ls ≤ 2560) (hV : sm_V S M t) (hcs : cells + 5 ≤ 603072) (hss : slots + 30 ≤ 7190634) (hw : WS g s (S, (M, o)) H locs) (hl : lv_has ls 9 (lw_lv g b z))
    (kk : LK p l e s m below meth c b g z (t + 1) (cells + 5) (slots + 30) Q) : W p l e room_1 s m #[Value.ref b] below meth c H locs cells slots Q (F0 m 587 ls []) := by
  obtain ⟨hc, hml, hk, hX, hbl, hbA, hfl⟩ := C9
  have hx := hc.1
  have hb := hc.2.1
  have ht5 : t < 512 := by omega
  obtain ⟨n9, m9, n8, m8, hN, hN1, hMN, hev, hev2⟩ := hV.c
  refine lv_aload_n hx hb dL_law_587 rfl (lv_at hl 4 rfl) ?_
  refine lv_aload_n hx hb dL_law_588 rfl (lv_at hl 5 rfl) ?_
  refine lv_iload hx hb dL_law_589 (lv_at hl 0 rfl) ?_
  refine lv_iconst (v := 1) hx hb dL_law_591 (by decide) ?_
  refine lv_iadd hx hb dL_law_592 ?_
  refine va_sld hx hb hX hbl hbA hw.2 (sm_scr (j := 1) hz hlt hL (by decide)) dL_law_593 ?_
  refine lv_aload_n hx hb dL_law_594 rfl (lv_at hl 2 rfl) ?_
  have hw0 : WS g s (xB S 0 (S 0) (M, o)) H locs := hw.eqv (by rw [xB, va_up_id])
  refine kc_i hw0 (vx_runSW (hh := [(0, 9, 12, 25), (0, 9, 15, 31)]) (As := [.ref (gA g 0), .int (xs (z + 1).toNatClampNeg), .ref (gA g 169)]) (rest := []) ⟨hx, hb, hml, hc.2.2.1, hc.2.2.2⟩ (m_L_takeStep l g hfl S (S 0) (M, o) (xs (z + 1).toNatClampNeg) _ _ hN hev) (kw_SW hc 3 q732 q733 q0 q734 rfl rfl (by decide +kernel) ⟨Nat.le_of_ble_eq_true rfl, Nat.le_of_ble_eq_true rfl⟩) (kp_S hk hw0) rfl rfl hl.1 rfl (lv_room (Nat.le_of_ble_eq_true rfl)) dL_law_595 ⟨by show cells + 3 ≤ 603072; omega, by show slots + 18 ≤ 7190634; omega⟩) (fun H locs hw => ?_)
  have hw : WS g s ((if e_X6_takeStep (xs (z + 1).toNatClampNeg) (S 0) = none then va_up (f_X2_keep 7 (xs (z + 1).toNatClampNeg) 0 0 0 S) 0 (f_X6_takeStep (xs (z + 1).toNatClampNeg) (S 0)).2 else S), (M, (if e_X6_takeStep (xs (z + 1).toNatClampNeg) (S 0) = none then vp_updL o.1 0 (f_X6_takeStep (xs (z + 1).toNatClampNeg) (S 0)).1.toInt64 else o.1, o.2))) H locs := hw.eqv (by rw [show (xB S 0 (S 0) (M, o) : wSt) = (S, (M, o)) by rw [xB, va_up_id]]; exact wst_l)
  have hsim := sm_takeStep hV ht5 (xs (z + 1).toNatClampNeg)
  have hV1 : sm_V (if e_X6_takeStep (xs (z + 1).toNatClampNeg) (S 0) = none then va_up (f_X2_keep 7 (xs (z + 1).toNatClampNeg) 0 0 0 S) 0 (f_X6_takeStep (xs (z + 1).toNatClampNeg) (S 0)).2 else S) (f_X7_takeStep (xs (z + 1).toNatClampNeg) M).2 (t + 1) := hsim.2.2
  generalize hS1 : (if e_X6_takeStep (xs (z + 1).toNatClampNeg) (S 0) = none then va_up (f_X2_keep 7 (xs (z + 1).toNatClampNeg) 0 0 0 S) 0 (f_X6_takeStep (xs (z + 1).toNatClampNeg) (S 0)).2 else S) = S1 at hw hV1
  generalize ho1 : ((if e_X6_takeStep (xs (z + 1).toNatClampNeg) (S 0) = none then vp_updL o.1 0 (f_X6_takeStep (xs (z + 1).toNatClampNeg) (S 0)).1.toInt64 else o.1, o.2) : (Nat → Int64) × (Nat → UInt64)) = o1 at hw
  refine lv_istore (lv' := [(6, .int (kE (e_X6_takeStep (xs (z + 1).toNatClampNeg) (S 0)) ["java/lang/IndexOutOfBoundsException", "java/lang/UnsupportedOperationException"])), (5, .int z), (4, .ref (gA g 170)), (3, .ref (gA g 169)), (2, .ref (gA g (jM 0))), (1, .ref (gA g 0)), (0, .ref b)]) hx hb dL_law_598 hl (by decide) rfl (fun ls hl => ?_)
  refine lv_aload_n hx hb dL_law_600 rfl (lv_at hl 4 rfl) ?_
  refine lv_aload_n hx hb dL_law_601 rfl (lv_at hl 6 rfl) ?_
  refine lv_iload hx hb dL_law_602 (lv_at hl 1 rfl) ?_
  refine lv_iconst (v := 1) hx hb dL_law_604 (by decide) ?_
  refine lv_iadd hx hb dL_law_605 ?_
  refine va_sld hx hb hX hbl hbA hw.2 (sm_scr (j := 1) hz hlt hL (by decide)) dL_law_606 ?_
  refine kc_i hw (va_runV (As := [.int (xs (z + 1).toNatClampNeg)]) (rest := []) ⟨hx, hb, hml, hc.2.2.1, hc.2.2.2⟩ (m_X7_takeStep l g S1 M o1 (xs (z + 1).toNatClampNeg) _ _ hMN) (kw_V hc 1 q1184 q1185 q1186 q8 q1187 rfl rfl (by decide +kernel) ⟨Nat.le_of_ble_eq_true rfl, Nat.le_of_ble_eq_true rfl⟩) (kp_V hk hw at_M rfl) rfl rfl hl.1 rfl (lv_room (Nat.le_of_ble_eq_true rfl)) dL_law_607 ⟨by show cells + 3 + 0 ≤ 603072; omega, by show slots + 18 + 0 ≤ 7190634; omega⟩) (fun H locs hw => ?_)
  refine lv_istore (lv' := [(7, .int (f_X7_takeStep (xs (z + 1).toNatClampNeg) M).1), (6, .int (kE (e_X6_takeStep (xs (z + 1).toNatClampNeg) (S 0)) ["java/lang/IndexOutOfBoundsException", "java/lang/UnsupportedOperationException"])), (5, .int z), (4, .ref (gA g 170)), (3, .ref (gA g 169)), (2, .ref (gA g (jM 0))), (1, .ref (gA g 0)), (0, .ref b)]) hx hb dL_law_610 hl (by decide) rfl (fun ls hl => ?_)
  refine lv_aload_n hx hb dL_law_612 rfl (lv_at hl 5 rfl) ?_
  refine kc_i hw (va_runV (As := []) (rest := []) ⟨hx, hb, hml, hc.2.2.1, hc.2.2.2⟩ (m_X7_thrown l g S1 (f_X7_takeStep (xs (z + 1).toNatClampNeg) M).2 o1) (kw_V hc 0 q1125 q1126 q1127 q8 q1128 rfl rfl (by decide +kernel) ⟨Nat.le_of_ble_eq_true rfl, Nat.le_of_ble_eq_true rfl⟩) (kp_V hk hw at_M rfl) rfl rfl hl.1 rfl (lv_room (Nat.le_of_ble_eq_true rfl)) dL_law_613 ⟨by show cells + 3 + 0 ≤ 603072; omega, by show slots + 18 + 0 ≤ 7190634; omega⟩) (fun H locs hw => ?_)
  refine lv_iload hx hb dL_law_616 (lv_at hl 1 rfl) ?_
  refine lv_icmp_eq (tgt := 623) hx hb dL_law_618 (by decide) (fun _ => ?_) (fun h9 => absurd hsim.1 h9)
  refine lv_iload hx hb dL_law_623 (lv_at hl 1 rfl) ?_
  refine lv_if_ne (tgt := 640) hx hb dL_law_625 (by decide) (fun _ => ?_) (fun h9 => ?_)
  · refine lv_goto (tgt := 2293) hx hb dL_law_640 (by decide) ?_
    refine W.widen (k := cells + 5) (n := slots + 30) (by omega) (by omega) ?_
    exact kk _ _ _ _ _ _ hV1 hw (lv_sub hl [2, 3, 4, 5, 6, 7] rfl)
  · have he0 := kE_none (by decide) (h9)
    refine lv_aload_n hx hb dL_law_628 rfl (lv_at hl 4 rfl) ?_
    refine lv_iconst (v := 0) hx hb dL_law_629 (by decide) ?_
    refine k_lald hc hk hw dL_law_630 ?_
    refine vn_l (v9 := (f_X6_takeStep (xs (z + 1).toNatClampNeg) (S 0)).1.toInt64) (by rw [← ho1, if_pos he0]; exact lw_uL o.1 0 _) ?_
    refine lv_iload hx hb dL_law_631 (lv_at hl 0 rfl) ?_
    refine lv_i2l hx hb dL_law_633 rfl ?_
    refine W.lcmp hx hb dL_law_634 ?_
    refine lv_if_eq (tgt := 640) hx hb dL_law_635 (by decide) (fun _ => ?_) (fun h9 => absurd (by rw [show (f_X6_takeStep (xs (z + 1).toNatClampNeg) (S 0)).1.toInt64 = ((f_X7_takeStep (xs (z + 1).toNatClampNeg) M).1.toInt64) from congrArg Int32.toInt64 (hsim.2.1 he0).symm]; exact lw_self _) h9)
    refine lv_goto (tgt := 2293) hx hb dL_law_640 (by decide) ?_
    refine W.widen (k := cells + 5) (n := slots + 30) (by omega) (by omega) ?_
    exact kk _ _ _ _ _ _ hV1 hw (lv_sub hl [2, 3, 4, 5, 6, 7] rfl)
set_option maxHeartbeats 4000000 in
set_option maxRecDepth 100000 in
theorem lc_7 {p : Program} {l : Launch} {e : Env} {s : State} {m : MethodId} {below : List Frame} {meth : Method} {c : Code} {b Ls : Nat} {xs : Nat → Int32} {g : wG} {Q : State → Prop} {S : Nat → BT} {M : BT} {o : (Nat → Int64) × (Nat → UInt64)} {t cells slots : Nat} {z : Int32} {H : Heap} {locs : List Loc} {ls : Array Slot}
    (C9 : LC p l s m c b Ls xs g) (hz : z = nI (5 * t)) (hlt : 5 * t + 5 ≤ Ls) (hL : Ls ≤ 2560) (hV : sm_V S M t) (hcs : cells + 5 ≤ 603072) (hss : slots + 30 ≤ 7190634) (hw : WS g s (S, (M, o)) H locs) (hl : lv_has ls 9 (lw_lv g b z))
    (kk : LK p l e s m below meth c b g z (t + 1) (cells + 5) (slots + 30) Q) : W p l e room_1 s m #[Value.ref b] below meth c H locs cells slots Q (F0 m 643 ls []) := by
  obtain ⟨hc, hml, hk, hX, hbl, hbA, hfl⟩ := C9
  have hx := hc.1
  have hb := hc.2.1
  have ht5 : t < 512 := by omega
  obtain ⟨n9, m9, n8, m8, hN, hN1, hMN, hev, hev2⟩ := hV.c
  refine lv_aload_n hx hb dL_law_643 rfl (lv_at hl 4 rfl) ?_
  refine lv_aload_n hx hb dL_law_644 rfl (lv_at hl 5 rfl) ?_
  refine lv_iload hx hb dL_law_645 (lv_at hl 0 rfl) ?_
  refine lv_iconst (v := 1) hx hb dL_law_647 (by decide) ?_
  refine lv_iadd hx hb dL_law_648 ?_
  refine va_sld hx hb hX hbl hbA hw.2 (sm_scr (j := 1) hz hlt hL (by decide)) dL_law_649 ?_
  refine lv_aload_n hx hb dL_law_650 rfl (lv_at hl 2 rfl) ?_
  have hw0 : WS g s (xB S 0 (S 0) (M, o)) H locs := hw.eqv (by rw [xB, va_up_id])
  refine kc_i hw0 (vx_runSW (hh := [(0, 9, 12, 25), (0, 9, 15, 31)]) (As := [.ref (gA g 0), .int (xs (z + 1).toNatClampNeg), .ref (gA g 169)]) (rest := []) ⟨hx, hb, hml, hc.2.2.1, hc.2.2.2⟩ (m_L_examine l g hfl S (S 0) (M, o) (xs (z + 1).toNatClampNeg) _ _ hN hev) (kw_SW hc 3 q740 q741 q0 q742 rfl rfl (by decide +kernel) ⟨Nat.le_of_ble_eq_true rfl, Nat.le_of_ble_eq_true rfl⟩) (kp_S hk hw0) rfl rfl hl.1 rfl (lv_room (Nat.le_of_ble_eq_true rfl)) dL_law_651 ⟨by show cells + 2 ≤ 603072; omega, by show slots + 12 ≤ 7190634; omega⟩) (fun H locs hw => ?_)
  have hw : WS g s ((if e_X6_examine (xs (z + 1).toNatClampNeg) (S 0) = none then va_up (f_X2_keep 8 (xs (z + 1).toNatClampNeg) 0 0 0 S) 0 (f_X6_examine (xs (z + 1).toNatClampNeg) (S 0)).2 else S), (M, (if e_X6_examine (xs (z + 1).toNatClampNeg) (S 0) = none then vp_updL o.1 0 (f_X6_examine (xs (z + 1).toNatClampNeg) (S 0)).1.toInt64 else o.1, o.2))) H locs := hw.eqv (by rw [show (xB S 0 (S 0) (M, o) : wSt) = (S, (M, o)) by rw [xB, va_up_id]]; exact wst_l)
  have hsim := sm_examine hV ht5 (xs (z + 1).toNatClampNeg)
  have hV1 : sm_V (if e_X6_examine (xs (z + 1).toNatClampNeg) (S 0) = none then va_up (f_X2_keep 8 (xs (z + 1).toNatClampNeg) 0 0 0 S) 0 (f_X6_examine (xs (z + 1).toNatClampNeg) (S 0)).2 else S) (f_X7_examine (xs (z + 1).toNatClampNeg) M).2 (t + 1) := hsim.2.2
  generalize hS1 : (if e_X6_examine (xs (z + 1).toNatClampNeg) (S 0) = none then va_up (f_X2_keep 8 (xs (z + 1).toNatClampNeg) 0 0 0 S) 0 (f_X6_examine (xs (z + 1).toNatClampNeg) (S 0)).2 else S) = S1 at hw hV1
  generalize ho1 : ((if e_X6_examine (xs (z + 1).toNatClampNeg) (S 0) = none then vp_updL o.1 0 (f_X6_examine (xs (z + 1).toNatClampNeg) (S 0)).1.toInt64 else o.1, o.2) : (Nat → Int64) × (Nat → UInt64)) = o1 at hw
  refine lv_istore (lv' := [(6, .int (kE (e_X6_examine (xs (z + 1).toNatClampNeg) (S 0)) ["java/lang/IndexOutOfBoundsException", "java/lang/UnsupportedOperationException"])), (5, .int z), (4, .ref (gA g 170)), (3, .ref (gA g 169)), (2, .ref (gA g (jM 0))), (1, .ref (gA g 0)), (0, .ref b)]) hx hb dL_law_654 hl (by decide) rfl (fun ls hl => ?_)
  refine lv_aload_n hx hb dL_law_656 rfl (lv_at hl 4 rfl) ?_
  refine lv_aload_n hx hb dL_law_657 rfl (lv_at hl 6 rfl) ?_
  refine lv_iload hx hb dL_law_658 (lv_at hl 1 rfl) ?_
  refine lv_iconst (v := 1) hx hb dL_law_660 (by decide) ?_
  refine lv_iadd hx hb dL_law_661 ?_
  refine va_sld hx hb hX hbl hbA hw.2 (sm_scr (j := 1) hz hlt hL (by decide)) dL_law_662 ?_
  refine kc_i hw (va_runV (As := [.int (xs (z + 1).toNatClampNeg)]) (rest := []) ⟨hx, hb, hml, hc.2.2.1, hc.2.2.2⟩ (m_X7_examine l g S1 M o1 (xs (z + 1).toNatClampNeg) _ _ hMN) (kw_V hc 1 q1188 q1189 q1190 q8 q1191 rfl rfl (by decide +kernel) ⟨Nat.le_of_ble_eq_true rfl, Nat.le_of_ble_eq_true rfl⟩) (kp_V hk hw at_M rfl) rfl rfl hl.1 rfl (lv_room (Nat.le_of_ble_eq_true rfl)) dL_law_663 ⟨by show cells + 2 + 0 ≤ 603072; omega, by show slots + 12 + 0 ≤ 7190634; omega⟩) (fun H locs hw => ?_)
  refine lv_istore (lv' := [(7, .int (f_X7_examine (xs (z + 1).toNatClampNeg) M).1), (6, .int (kE (e_X6_examine (xs (z + 1).toNatClampNeg) (S 0)) ["java/lang/IndexOutOfBoundsException", "java/lang/UnsupportedOperationException"])), (5, .int z), (4, .ref (gA g 170)), (3, .ref (gA g 169)), (2, .ref (gA g (jM 0))), (1, .ref (gA g 0)), (0, .ref b)]) hx hb dL_law_666 hl (by decide) rfl (fun ls hl => ?_)
  refine lv_aload_n hx hb dL_law_668 rfl (lv_at hl 5 rfl) ?_
  refine kc_i hw (va_runV (As := []) (rest := []) ⟨hx, hb, hml, hc.2.2.1, hc.2.2.2⟩ (m_X7_thrown l g S1 (f_X7_examine (xs (z + 1).toNatClampNeg) M).2 o1) (kw_V hc 0 q1125 q1126 q1127 q8 q1128 rfl rfl (by decide +kernel) ⟨Nat.le_of_ble_eq_true rfl, Nat.le_of_ble_eq_true rfl⟩) (kp_V hk hw at_M rfl) rfl rfl hl.1 rfl (lv_room (Nat.le_of_ble_eq_true rfl)) dL_law_669 ⟨by show cells + 2 + 0 ≤ 603072; omega, by show slots + 12 + 0 ≤ 7190634; omega⟩) (fun H locs hw => ?_)
  refine lv_iload hx hb dL_law_672 (lv_at hl 1 rfl) ?_
  refine lv_icmp_eq (tgt := 679) hx hb dL_law_674 (by decide) (fun _ => ?_) (fun h9 => absurd hsim.1 h9)
  refine lv_iload hx hb dL_law_679 (lv_at hl 1 rfl) ?_
  refine lv_if_ne (tgt := 696) hx hb dL_law_681 (by decide) (fun _ => ?_) (fun h9 => ?_)
  · refine lv_goto (tgt := 2293) hx hb dL_law_696 (by decide) ?_
    refine W.widen (k := cells + 5) (n := slots + 30) (by omega) (by omega) ?_
    exact kk _ _ _ _ _ _ hV1 hw (lv_sub hl [2, 3, 4, 5, 6, 7] rfl)
  · have he0 := kE_none (by decide) (h9)
    refine lv_aload_n hx hb dL_law_684 rfl (lv_at hl 4 rfl) ?_
    refine lv_iconst (v := 0) hx hb dL_law_685 (by decide) ?_
    refine k_lald hc hk hw dL_law_686 ?_
    refine vn_l (v9 := (f_X6_examine (xs (z + 1).toNatClampNeg) (S 0)).1.toInt64) (by rw [← ho1, if_pos he0]; exact lw_uL o.1 0 _) ?_
    refine lv_iload hx hb dL_law_687 (lv_at hl 0 rfl) ?_
    refine lv_i2l hx hb dL_law_689 rfl ?_
    refine W.lcmp hx hb dL_law_690 ?_
    refine lv_if_eq (tgt := 696) hx hb dL_law_691 (by decide) (fun _ => ?_) (fun h9 => absurd (by rw [show (f_X6_examine (xs (z + 1).toNatClampNeg) (S 0)).1.toInt64 = ((f_X7_examine (xs (z + 1).toNatClampNeg) M).1.toInt64) from congrArg Int32.toInt64 (hsim.2.1 he0).symm]; exact lw_self _) h9)
    refine lv_goto (tgt := 2293) hx hb dL_law_696 (by decide) ?_
    refine W.widen (k := cells + 5) (n := slots + 30) (by omega) (by omega) ?_
    exact kk _ _ _ _ _ _ hV1 hw (lv_sub hl [2, 3, 4, 5, 6, 7] rfl)
set_option maxHeartbeats 4000000 in
set_option maxRecDepth 100000 in
theorem lc_8 {p : Program} {l : Launch} {e : Env} {s : State} {m : MethodId} {below : List Frame} {meth : Method} {c : Code} {b Ls : Nat} {xs : Nat → Int32} {g : wG} {Q : State → Prop} {S : Nat → BT} {M : BT} {o : (Nat → Int64) × (Nat → UInt64)} {t cells slots : Nat} {z : Int32} {H : Heap} {locs : List Loc} {ls : Array Slot}
    (C9 : LC p l s m c b Ls xs g) (hz : z = nI (5 * t)) (hlt : 5 * t + 5 ≤ Ls) (hL : Ls ≤ 2560) (hV : sm_V S M t) (hcs : cells + 5 ≤ 603072) (hss : slots + 30 ≤ 7190634) (hw : WS g s (S, (M, o)) H locs) (hl : lv_has ls 9 (lw_lv g b z))
    (kk : LK p l e s m below meth c b g z (t + 1) (cells + 5) (slots + 30) Q) : W p l e room_1 s m #[Value.ref b] below meth c H locs cells slots Q (F0 m 699 ls []) := by
  obtain ⟨hc, hml, hk, hX, hbl, hbA, hfl⟩ := C9
  have hx := hc.1
  have hb := hc.2.1
  have ht5 : t < 512 := by omega
  obtain ⟨n9, m9, n8, m8, hN, hN1, hMN, hev, hev2⟩ := hV.c
  refine lv_aload_n hx hb dL_law_699 rfl (lv_at hl 4 rfl) ?_
  refine lv_aload_n hx hb dL_law_700 rfl (lv_at hl 5 rfl) ?_
  refine lv_iload hx hb dL_law_701 (lv_at hl 0 rfl) ?_
  refine lv_iconst (v := 1) hx hb dL_law_703 (by decide) ?_
  refine lv_iadd hx hb dL_law_704 ?_
  refine va_sld hx hb hX hbl hbA hw.2 (sm_scr (j := 1) hz hlt hL (by decide)) dL_law_705 ?_
  refine lv_aload_n hx hb dL_law_706 rfl (lv_at hl 2 rfl) ?_
  have hw0 : WS g s (xB S 0 (S 0) (M, o)) H locs := hw.eqv (by rw [xB, va_up_id])
  refine kc_i hw0 (vx_runSW (hh := [(0, 9, 12, 25)]) (As := [.ref (gA g 0), .int (xs (z + 1).toNatClampNeg), .ref (gA g 169)]) (rest := []) ⟨hx, hb, hml, hc.2.2.1, hc.2.2.2⟩ (m_L_state l g hfl S (S 0) (M, o) (xs (z + 1).toNatClampNeg) _ _ hN hev) (kw_SW hc 3 q747 q748 q0 q749 rfl rfl (by decide +kernel) ⟨Nat.le_of_ble_eq_true rfl, Nat.le_of_ble_eq_true rfl⟩) (kp_S hk hw0) rfl rfl hl.1 rfl (lv_room (Nat.le_of_ble_eq_true rfl)) dL_law_707 ⟨by show cells + 1 ≤ 603072; omega, by show slots + 6 ≤ 7190634; omega⟩) (fun H locs hw => ?_)
  have hw : WS g s ((if e_X6_state (xs (z + 1).toNatClampNeg) (S 0) = none then S else S), (M, (if e_X6_state (xs (z + 1).toNatClampNeg) (S 0) = none then vp_updL o.1 0 (f_X6_state (xs (z + 1).toNatClampNeg) (S 0)).toInt64 else o.1, o.2))) H locs := hw.eqv (by rw [show (xB S 0 (S 0) (M, o) : wSt) = (S, (M, o)) by rw [xB, va_up_id]]; simp only [xB, va_up_id]; exact wst_l)
  have hsim := sm_state hV (xs (z + 1).toNatClampNeg)
  have hV1 : sm_V (if e_X6_state (xs (z + 1).toNatClampNeg) (S 0) = none then S else S) (f_X7_state (xs (z + 1).toNatClampNeg) M).2 (t + 1) := hsim.2.2
  generalize hS1 : (if e_X6_state (xs (z + 1).toNatClampNeg) (S 0) = none then S else S) = S1 at hw hV1
  generalize ho1 : ((if e_X6_state (xs (z + 1).toNatClampNeg) (S 0) = none then vp_updL o.1 0 (f_X6_state (xs (z + 1).toNatClampNeg) (S 0)).toInt64 else o.1, o.2) : (Nat → Int64) × (Nat → UInt64)) = o1 at hw
  refine lv_istore (lv' := [(6, .int (kE (e_X6_state (xs (z + 1).toNatClampNeg) (S 0)) ["java/lang/IndexOutOfBoundsException"])), (5, .int z), (4, .ref (gA g 170)), (3, .ref (gA g 169)), (2, .ref (gA g (jM 0))), (1, .ref (gA g 0)), (0, .ref b)]) hx hb dL_law_710 hl (by decide) rfl (fun ls hl => ?_)
  refine lv_aload_n hx hb dL_law_712 rfl (lv_at hl 4 rfl) ?_
  refine lv_aload_n hx hb dL_law_713 rfl (lv_at hl 6 rfl) ?_
  refine lv_iload hx hb dL_law_714 (lv_at hl 1 rfl) ?_
  refine lv_iconst (v := 1) hx hb dL_law_716 (by decide) ?_
  refine lv_iadd hx hb dL_law_717 ?_
  refine va_sld hx hb hX hbl hbA hw.2 (sm_scr (j := 1) hz hlt hL (by decide)) dL_law_718 ?_
  refine kc_i hw (va_runV (As := [.int (xs (z + 1).toNatClampNeg)]) (rest := []) ⟨hx, hb, hml, hc.2.2.1, hc.2.2.2⟩ (m_X7_state l g S1 M o1 (xs (z + 1).toNatClampNeg) _ _ hMN) (kw_V hc 1 q1195 q1196 q1197 q8 q1198 rfl rfl (by decide +kernel) ⟨Nat.le_of_ble_eq_true rfl, Nat.le_of_ble_eq_true rfl⟩) (kp_V hk hw at_M rfl) rfl rfl hl.1 rfl (lv_room (Nat.le_of_ble_eq_true rfl)) dL_law_719 ⟨by show cells + 1 + 0 ≤ 603072; omega, by show slots + 6 + 0 ≤ 7190634; omega⟩) (fun H locs hw => ?_)
  refine lv_istore (lv' := [(7, .int (f_X7_state (xs (z + 1).toNatClampNeg) M).1), (6, .int (kE (e_X6_state (xs (z + 1).toNatClampNeg) (S 0)) ["java/lang/IndexOutOfBoundsException"])), (5, .int z), (4, .ref (gA g 170)), (3, .ref (gA g 169)), (2, .ref (gA g (jM 0))), (1, .ref (gA g 0)), (0, .ref b)]) hx hb dL_law_722 hl (by decide) rfl (fun ls hl => ?_)
  refine lv_aload_n hx hb dL_law_724 rfl (lv_at hl 5 rfl) ?_
  refine kc_i hw (va_runV (As := []) (rest := []) ⟨hx, hb, hml, hc.2.2.1, hc.2.2.2⟩ (m_X7_thrown l g S1 (f_X7_state (xs (z + 1).toNatClampNeg) M).2 o1) (kw_V hc 0 q1125 q1126 q1127 q8 q1128 rfl rfl (by decide +kernel) ⟨Nat.le_of_ble_eq_true rfl, Nat.le_of_ble_eq_true rfl⟩) (kp_V hk hw at_M rfl) rfl rfl hl.1 rfl (lv_room (Nat.le_of_ble_eq_true rfl)) dL_law_725 ⟨by show cells + 1 + 0 ≤ 603072; omega, by show slots + 6 + 0 ≤ 7190634; omega⟩) (fun H locs hw => ?_)
  refine lv_iload hx hb dL_law_728 (lv_at hl 1 rfl) ?_
  refine lv_icmp_eq (tgt := 735) hx hb dL_law_730 (by decide) (fun _ => ?_) (fun h9 => absurd hsim.1 h9)
  refine lv_iload hx hb dL_law_735 (lv_at hl 1 rfl) ?_
  refine lv_if_ne (tgt := 752) hx hb dL_law_737 (by decide) (fun _ => ?_) (fun h9 => ?_)
  · refine lv_goto (tgt := 2293) hx hb dL_law_752 (by decide) ?_
    refine W.widen (k := cells + 5) (n := slots + 30) (by omega) (by omega) ?_
    exact kk _ _ _ _ _ _ hV1 hw (lv_sub hl [2, 3, 4, 5, 6, 7] rfl)
  · have he0 := kE_none (by decide) (h9)
    refine lv_aload_n hx hb dL_law_740 rfl (lv_at hl 4 rfl) ?_
    refine lv_iconst (v := 0) hx hb dL_law_741 (by decide) ?_
    refine k_lald hc hk hw dL_law_742 ?_
    refine vn_l (v9 := (f_X6_state (xs (z + 1).toNatClampNeg) (S 0)).toInt64) (by rw [← ho1, if_pos he0]; exact lw_uL o.1 0 _) ?_
    refine lv_iload hx hb dL_law_743 (lv_at hl 0 rfl) ?_
    refine lv_i2l hx hb dL_law_745 rfl ?_
    refine W.lcmp hx hb dL_law_746 ?_
    refine lv_if_eq (tgt := 752) hx hb dL_law_747 (by decide) (fun _ => ?_) (fun h9 => absurd (by rw [show (f_X6_state (xs (z + 1).toNatClampNeg) (S 0)).toInt64 = ((f_X7_state (xs (z + 1).toNatClampNeg) M).1.toInt64) from congrArg Int32.toInt64 (hsim.2.1 he0).symm]; exact lw_self _) h9)
    refine lv_goto (tgt := 2293) hx hb dL_law_752 (by decide) ?_
    refine W.widen (k := cells + 5) (n := slots + 30) (by omega) (by omega) ?_
    exact kk _ _ _ _ _ _ hV1 hw (lv_sub hl [2, 3, 4, 5, 6, 7] rfl)
set_option maxHeartbeats 4000000 in
set_option maxRecDepth 100000 in
theorem lc_9 {p : Program} {l : Launch} {e : Env} {s : State} {m : MethodId} {below : List Frame} {meth : Method} {c : Code} {b Ls : Nat} {xs : Nat → Int32} {g : wG} {Q : State → Prop} {S : Nat → BT} {M : BT} {o : (Nat → Int64) × (Nat → UInt64)} {t cells slots : Nat} {z : Int32} {H : Heap} {locs : List Loc} {ls : Array Slot}
    (C9 : LC p l s m c b Ls xs g) (hz : z = nI (5 * t)) (hlt : 5 * t + 5 ≤ Ls) (hL : Ls ≤ 2560) (hV : sm_V S M t) (hcs : cells + 5 ≤ 603072) (hss : slots + 30 ≤ 7190634) (hw : WS g s (S, (M, o)) H locs) (hl : lv_has ls 9 (lw_lv g b z))
    (kk : LK p l e s m below meth c b g z (t + 1) (cells + 5) (slots + 30) Q) : W p l e room_1 s m #[Value.ref b] below meth c H locs cells slots Q (F0 m 755 ls []) := by
  obtain ⟨hc, hml, hk, hX, hbl, hbA, hfl⟩ := C9
  have hx := hc.1
  have hb := hc.2.1
  have ht5 : t < 512 := by omega
  obtain ⟨n9, m9, n8, m8, hN, hN1, hMN, hev, hev2⟩ := hV.c
  refine lv_aload_n hx hb dL_law_755 rfl (lv_at hl 4 rfl) ?_
  refine lv_aload_n hx hb dL_law_756 rfl (lv_at hl 5 rfl) ?_
  refine lv_iload hx hb dL_law_757 (lv_at hl 0 rfl) ?_
  refine lv_iconst (v := 1) hx hb dL_law_759 (by decide) ?_
  refine lv_iadd hx hb dL_law_760 ?_
  refine va_sld hx hb hX hbl hbA hw.2 (sm_scr (j := 1) hz hlt hL (by decide)) dL_law_761 ?_
  refine lv_i2c (v := ((xs (z + 1).toNatClampNeg).toUInt32 % 65536).toInt32) hx hb dL_law_762 rfl ?_
  refine lv_aload_n hx hb dL_law_763 rfl (lv_at hl 2 rfl) ?_
  have hw0 : WS g s (xB S 0 (S 0) (M, o)) H locs := hw.eqv (by rw [xB, va_up_id])
  refine kc_i hw0 (vx_runSW (hh := [(0, 9, 12, 13)]) (As := [.ref (gA g 0), .int (((xs (z + 1).toNatClampNeg).toUInt32 % 65536).toInt32), .ref (gA g 169)]) (rest := []) ⟨hx, hb, hml, hc.2.2.1, hc.2.2.2⟩ (m_L_countState l g hfl S (S 0) (M, o) (((xs (z + 1).toNatClampNeg).toUInt32 % 65536).toInt32) _ _ hN hev) (kw_SW hc 3 q754 q755 q0 q756 rfl rfl (by decide +kernel) ⟨Nat.le_of_ble_eq_true rfl, Nat.le_of_ble_eq_true rfl⟩) (kp_S hk hw0) rfl rfl hl.1 rfl (lv_room (Nat.le_of_ble_eq_true rfl)) dL_law_764 ⟨by show cells + 1 ≤ 603072; omega, by show slots + 6 ≤ 7190634; omega⟩) (fun H locs hw => ?_)
  have hw : WS g s ((if e_X6_countState (((xs (z + 1).toNatClampNeg).toUInt32 % 65536).toInt32) (S 0) = none then S else S), (M, (if e_X6_countState (((xs (z + 1).toNatClampNeg).toUInt32 % 65536).toInt32) (S 0) = none then vp_updL o.1 0 (f_X6_countState (((xs (z + 1).toNatClampNeg).toUInt32 % 65536).toInt32) (S 0)).toInt64 else o.1, o.2))) H locs := hw.eqv (by rw [show (xB S 0 (S 0) (M, o) : wSt) = (S, (M, o)) by rw [xB, va_up_id]]; simp only [xB, va_up_id]; exact wst_l)
  have hsim := sm_countState hV (((xs (z + 1).toNatClampNeg).toUInt32 % 65536).toInt32)
  have hV1 : sm_V (if e_X6_countState (((xs (z + 1).toNatClampNeg).toUInt32 % 65536).toInt32) (S 0) = none then S else S) (f_X7_countState (((xs (z + 1).toNatClampNeg).toUInt32 % 65536).toInt32) M).2 (t + 1) := hsim.2.2
  generalize hS1 : (if e_X6_countState (((xs (z + 1).toNatClampNeg).toUInt32 % 65536).toInt32) (S 0) = none then S else S) = S1 at hw hV1
  generalize ho1 : ((if e_X6_countState (((xs (z + 1).toNatClampNeg).toUInt32 % 65536).toInt32) (S 0) = none then vp_updL o.1 0 (f_X6_countState (((xs (z + 1).toNatClampNeg).toUInt32 % 65536).toInt32) (S 0)).toInt64 else o.1, o.2) : (Nat → Int64) × (Nat → UInt64)) = o1 at hw
  refine lv_istore (lv' := [(6, .int (kE (e_X6_countState (((xs (z + 1).toNatClampNeg).toUInt32 % 65536).toInt32) (S 0)) ["java/lang/IllegalArgumentException"])), (5, .int z), (4, .ref (gA g 170)), (3, .ref (gA g 169)), (2, .ref (gA g (jM 0))), (1, .ref (gA g 0)), (0, .ref b)]) hx hb dL_law_767 hl (by decide) rfl (fun ls hl => ?_)
  refine lv_aload_n hx hb dL_law_769 rfl (lv_at hl 4 rfl) ?_
  refine lv_aload_n hx hb dL_law_770 rfl (lv_at hl 6 rfl) ?_
  refine lv_iload hx hb dL_law_771 (lv_at hl 1 rfl) ?_
  refine lv_iconst (v := 1) hx hb dL_law_773 (by decide) ?_
  refine lv_iadd hx hb dL_law_774 ?_
  refine va_sld hx hb hX hbl hbA hw.2 (sm_scr (j := 1) hz hlt hL (by decide)) dL_law_775 ?_
  refine lv_i2c (v := ((xs (z + 1).toNatClampNeg).toUInt32 % 65536).toInt32) hx hb dL_law_776 rfl ?_
  refine kc_i hw (va_runV (As := [.int (((xs (z + 1).toNatClampNeg).toUInt32 % 65536).toInt32)]) (rest := []) ⟨hx, hb, hml, hc.2.2.1, hc.2.2.2⟩ (m_X7_countState l g S1 M o1 (((xs (z + 1).toNatClampNeg).toUInt32 % 65536).toInt32) _ _ hMN) (kw_V hc 1 q1199 q1200 q1201 q8 q1202 rfl rfl (by decide +kernel) ⟨Nat.le_of_ble_eq_true rfl, Nat.le_of_ble_eq_true rfl⟩) (kp_V hk hw at_M rfl) rfl rfl hl.1 rfl (lv_room (Nat.le_of_ble_eq_true rfl)) dL_law_777 ⟨by show cells + 1 + 0 ≤ 603072; omega, by show slots + 6 + 0 ≤ 7190634; omega⟩) (fun H locs hw => ?_)
  refine lv_istore (lv' := [(7, .int (f_X7_countState (((xs (z + 1).toNatClampNeg).toUInt32 % 65536).toInt32) M).1), (6, .int (kE (e_X6_countState (((xs (z + 1).toNatClampNeg).toUInt32 % 65536).toInt32) (S 0)) ["java/lang/IllegalArgumentException"])), (5, .int z), (4, .ref (gA g 170)), (3, .ref (gA g 169)), (2, .ref (gA g (jM 0))), (1, .ref (gA g 0)), (0, .ref b)]) hx hb dL_law_780 hl (by decide) rfl (fun ls hl => ?_)
  refine lv_aload_n hx hb dL_law_782 rfl (lv_at hl 5 rfl) ?_
  refine kc_i hw (va_runV (As := []) (rest := []) ⟨hx, hb, hml, hc.2.2.1, hc.2.2.2⟩ (m_X7_thrown l g S1 (f_X7_countState (((xs (z + 1).toNatClampNeg).toUInt32 % 65536).toInt32) M).2 o1) (kw_V hc 0 q1125 q1126 q1127 q8 q1128 rfl rfl (by decide +kernel) ⟨Nat.le_of_ble_eq_true rfl, Nat.le_of_ble_eq_true rfl⟩) (kp_V hk hw at_M rfl) rfl rfl hl.1 rfl (lv_room (Nat.le_of_ble_eq_true rfl)) dL_law_783 ⟨by show cells + 1 + 0 ≤ 603072; omega, by show slots + 6 + 0 ≤ 7190634; omega⟩) (fun H locs hw => ?_)
  refine lv_iload hx hb dL_law_786 (lv_at hl 1 rfl) ?_
  refine lv_icmp_eq (tgt := 793) hx hb dL_law_788 (by decide) (fun _ => ?_) (fun h9 => absurd hsim.1 h9)
  refine lv_iload hx hb dL_law_793 (lv_at hl 1 rfl) ?_
  refine lv_if_ne (tgt := 810) hx hb dL_law_795 (by decide) (fun _ => ?_) (fun h9 => ?_)
  · refine lv_goto (tgt := 2293) hx hb dL_law_810 (by decide) ?_
    refine W.widen (k := cells + 5) (n := slots + 30) (by omega) (by omega) ?_
    exact kk _ _ _ _ _ _ hV1 hw (lv_sub hl [2, 3, 4, 5, 6, 7] rfl)
  · have he0 := kE_none (by decide) (h9)
    refine lv_aload_n hx hb dL_law_798 rfl (lv_at hl 4 rfl) ?_
    refine lv_iconst (v := 0) hx hb dL_law_799 (by decide) ?_
    refine k_lald hc hk hw dL_law_800 ?_
    refine vn_l (v9 := (f_X6_countState (((xs (z + 1).toNatClampNeg).toUInt32 % 65536).toInt32) (S 0)).toInt64) (by rw [← ho1, if_pos he0]; exact lw_uL o.1 0 _) ?_
    refine lv_iload hx hb dL_law_801 (lv_at hl 0 rfl) ?_
    refine lv_i2l hx hb dL_law_803 rfl ?_
    refine W.lcmp hx hb dL_law_804 ?_
    refine lv_if_eq (tgt := 810) hx hb dL_law_805 (by decide) (fun _ => ?_) (fun h9 => absurd (by rw [show (f_X6_countState (((xs (z + 1).toNatClampNeg).toUInt32 % 65536).toInt32) (S 0)).toInt64 = ((f_X7_countState (((xs (z + 1).toNatClampNeg).toUInt32 % 65536).toInt32) M).1.toInt64) from congrArg Int32.toInt64 (hsim.2.1 he0).symm]; exact lw_self _) h9)
    refine lv_goto (tgt := 2293) hx hb dL_law_810 (by decide) ?_
    refine W.widen (k := cells + 5) (n := slots + 30) (by omega) (by omega) ?_
    exact kk _ _ _ _ _ _ hV1 hw (lv_sub hl [2, 3, 4, 5, 6, 7] rfl)
set_option maxHeartbeats 4000000 in
set_option maxRecDepth 100000 in
theorem lc_10 {p : Program} {l : Launch} {e : Env} {s : State} {m : MethodId} {below : List Frame} {meth : Method} {c : Code} {b Ls : Nat} {xs : Nat → Int32} {g : wG} {Q : State → Prop} {S : Nat → BT} {M : BT} {o : (Nat → Int64) × (Nat → UInt64)} {t cells slots : Nat} {z : Int32} {H : Heap} {locs : List Loc} {ls : Array Slot}
    (C9 : LC p l s m c b Ls xs g) (hz : z = nI (5 * t)) (hlt : 5 * t + 5 ≤ Ls) (hL : Ls ≤ 2560) (hV : sm_V S M t) (hcs : cells + 5 ≤ 603072) (hss : slots + 30 ≤ 7190634) (hw : WS g s (S, (M, o)) H locs) (hl : lv_has ls 9 (lw_lv g b z))
    (kk : LK p l e s m below meth c b g z (t + 1) (cells + 5) (slots + 30) Q) : W p l e room_1 s m #[Value.ref b] below meth c H locs cells slots Q (F0 m 813 ls []) := by
  obtain ⟨hc, hml, hk, hX, hbl, hbA, hfl⟩ := C9
  have hx := hc.1
  have hb := hc.2.1
  have ht5 : t < 512 := by omega
  obtain ⟨n9, m9, n8, m8, hN, hN1, hMN, hev, hev2⟩ := hV.c
  refine lv_aload_n hx hb dL_law_813 rfl (lv_at hl 4 rfl) ?_
  refine lv_aload_n hx hb dL_law_814 rfl (lv_at hl 5 rfl) ?_
  refine lv_iload hx hb dL_law_815 (lv_at hl 0 rfl) ?_
  refine lv_iconst (v := 1) hx hb dL_law_817 (by decide) ?_
  refine lv_iadd hx hb dL_law_818 ?_
  refine va_sld hx hb hX hbl hbA hw.2 (sm_scr (j := 1) hz hlt hL (by decide)) dL_law_819 ?_
  refine lv_aload_n hx hb dL_law_820 rfl (lv_at hl 2 rfl) ?_
  have hw0 : WS g s (xB S 0 (S 0) (M, o)) H locs := hw.eqv (by rw [xB, va_up_id])
  refine kc_i hw0 (vx_runSW (hh := [(0, 9, 12, 13)]) (As := [.ref (gA g 0), .int (xs (z + 1).toNatClampNeg), .ref (gA g 169)]) (rest := []) ⟨hx, hb, hml, hc.2.2.1, hc.2.2.2⟩ (m_L_countOf l g hfl S (S 0) (M, o) (xs (z + 1).toNatClampNeg) _ _ hN hev) (kw_SW hc 3 q767 q768 q0 q769 rfl rfl (by decide +kernel) ⟨Nat.le_of_ble_eq_true rfl, Nat.le_of_ble_eq_true rfl⟩) (kp_S hk hw0) rfl rfl hl.1 rfl (lv_room (Nat.le_of_ble_eq_true rfl)) dL_law_821 ⟨by show cells + 1 ≤ 603072; omega, by show slots + 6 ≤ 7190634; omega⟩) (fun H locs hw => ?_)
  have hw : WS g s ((if e_X6_countOf (xs (z + 1).toNatClampNeg) (S 0) = none then S else S), (M, (if e_X6_countOf (xs (z + 1).toNatClampNeg) (S 0) = none then vp_updL o.1 0 (f_X6_countOf (xs (z + 1).toNatClampNeg) (S 0)).toInt64 else o.1, o.2))) H locs := hw.eqv (by rw [show (xB S 0 (S 0) (M, o) : wSt) = (S, (M, o)) by rw [xB, va_up_id]]; simp only [xB, va_up_id]; exact wst_l)
  have hsim := sm_countOf hV (xs (z + 1).toNatClampNeg)
  have hV1 : sm_V (if e_X6_countOf (xs (z + 1).toNatClampNeg) (S 0) = none then S else S) (f_X7_countOf (xs (z + 1).toNatClampNeg) M).2 (t + 1) := hsim.2.2
  generalize hS1 : (if e_X6_countOf (xs (z + 1).toNatClampNeg) (S 0) = none then S else S) = S1 at hw hV1
  generalize ho1 : ((if e_X6_countOf (xs (z + 1).toNatClampNeg) (S 0) = none then vp_updL o.1 0 (f_X6_countOf (xs (z + 1).toNatClampNeg) (S 0)).toInt64 else o.1, o.2) : (Nat → Int64) × (Nat → UInt64)) = o1 at hw
  refine lv_istore (lv' := [(6, .int (kE (e_X6_countOf (xs (z + 1).toNatClampNeg) (S 0)) ["java/lang/IllegalArgumentException"])), (5, .int z), (4, .ref (gA g 170)), (3, .ref (gA g 169)), (2, .ref (gA g (jM 0))), (1, .ref (gA g 0)), (0, .ref b)]) hx hb dL_law_824 hl (by decide) rfl (fun ls hl => ?_)
  refine lv_aload_n hx hb dL_law_826 rfl (lv_at hl 4 rfl) ?_
  refine lv_aload_n hx hb dL_law_827 rfl (lv_at hl 6 rfl) ?_
  refine lv_iload hx hb dL_law_828 (lv_at hl 1 rfl) ?_
  refine lv_iconst (v := 1) hx hb dL_law_830 (by decide) ?_
  refine lv_iadd hx hb dL_law_831 ?_
  refine va_sld hx hb hX hbl hbA hw.2 (sm_scr (j := 1) hz hlt hL (by decide)) dL_law_832 ?_
  refine kc_i hw (va_runV (As := [.int (xs (z + 1).toNatClampNeg)]) (rest := []) ⟨hx, hb, hml, hc.2.2.1, hc.2.2.2⟩ (m_X7_countOf l g S1 M o1 (xs (z + 1).toNatClampNeg) _ _ hMN) (kw_V hc 1 q1206 q1207 q1208 q8 q1209 rfl rfl (by decide +kernel) ⟨Nat.le_of_ble_eq_true rfl, Nat.le_of_ble_eq_true rfl⟩) (kp_V hk hw at_M rfl) rfl rfl hl.1 rfl (lv_room (Nat.le_of_ble_eq_true rfl)) dL_law_833 ⟨by show cells + 1 + 0 ≤ 603072; omega, by show slots + 6 + 0 ≤ 7190634; omega⟩) (fun H locs hw => ?_)
  refine lv_istore (lv' := [(7, .int (f_X7_countOf (xs (z + 1).toNatClampNeg) M).1), (6, .int (kE (e_X6_countOf (xs (z + 1).toNatClampNeg) (S 0)) ["java/lang/IllegalArgumentException"])), (5, .int z), (4, .ref (gA g 170)), (3, .ref (gA g 169)), (2, .ref (gA g (jM 0))), (1, .ref (gA g 0)), (0, .ref b)]) hx hb dL_law_836 hl (by decide) rfl (fun ls hl => ?_)
  refine lv_aload_n hx hb dL_law_838 rfl (lv_at hl 5 rfl) ?_
  refine kc_i hw (va_runV (As := []) (rest := []) ⟨hx, hb, hml, hc.2.2.1, hc.2.2.2⟩ (m_X7_thrown l g S1 (f_X7_countOf (xs (z + 1).toNatClampNeg) M).2 o1) (kw_V hc 0 q1125 q1126 q1127 q8 q1128 rfl rfl (by decide +kernel) ⟨Nat.le_of_ble_eq_true rfl, Nat.le_of_ble_eq_true rfl⟩) (kp_V hk hw at_M rfl) rfl rfl hl.1 rfl (lv_room (Nat.le_of_ble_eq_true rfl)) dL_law_839 ⟨by show cells + 1 + 0 ≤ 603072; omega, by show slots + 6 + 0 ≤ 7190634; omega⟩) (fun H locs hw => ?_)
  refine lv_iload hx hb dL_law_842 (lv_at hl 1 rfl) ?_
  refine lv_icmp_eq (tgt := 849) hx hb dL_law_844 (by decide) (fun _ => ?_) (fun h9 => absurd hsim.1 h9)
  refine lv_iload hx hb dL_law_849 (lv_at hl 1 rfl) ?_
  refine lv_if_ne (tgt := 866) hx hb dL_law_851 (by decide) (fun _ => ?_) (fun h9 => ?_)
  · refine lv_goto (tgt := 2293) hx hb dL_law_866 (by decide) ?_
    refine W.widen (k := cells + 5) (n := slots + 30) (by omega) (by omega) ?_
    exact kk _ _ _ _ _ _ hV1 hw (lv_sub hl [2, 3, 4, 5, 6, 7] rfl)
  · have he0 := kE_none (by decide) (h9)
    refine lv_aload_n hx hb dL_law_854 rfl (lv_at hl 4 rfl) ?_
    refine lv_iconst (v := 0) hx hb dL_law_855 (by decide) ?_
    refine k_lald hc hk hw dL_law_856 ?_
    refine vn_l (v9 := (f_X6_countOf (xs (z + 1).toNatClampNeg) (S 0)).toInt64) (by rw [← ho1, if_pos he0]; exact lw_uL o.1 0 _) ?_
    refine lv_iload hx hb dL_law_857 (lv_at hl 0 rfl) ?_
    refine lv_i2l hx hb dL_law_859 rfl ?_
    refine W.lcmp hx hb dL_law_860 ?_
    refine lv_if_eq (tgt := 866) hx hb dL_law_861 (by decide) (fun _ => ?_) (fun h9 => absurd (by rw [show (f_X6_countOf (xs (z + 1).toNatClampNeg) (S 0)).toInt64 = ((f_X7_countOf (xs (z + 1).toNatClampNeg) M).1.toInt64) from congrArg Int32.toInt64 (hsim.2.1 he0).symm]; exact lw_self _) h9)
    refine lv_goto (tgt := 2293) hx hb dL_law_866 (by decide) ?_
    refine W.widen (k := cells + 5) (n := slots + 30) (by omega) (by omega) ?_
    exact kk _ _ _ _ _ _ hV1 hw (lv_sub hl [2, 3, 4, 5, 6, 7] rfl)
set_option maxHeartbeats 4000000 in
set_option maxRecDepth 100000 in
theorem lc_11 {p : Program} {l : Launch} {e : Env} {s : State} {m : MethodId} {below : List Frame} {meth : Method} {c : Code} {b Ls : Nat} {xs : Nat → Int32} {g : wG} {Q : State → Prop} {S : Nat → BT} {M : BT} {o : (Nat → Int64) × (Nat → UInt64)} {t cells slots : Nat} {z : Int32} {H : Heap} {locs : List Loc} {ls : Array Slot}
    (C9 : LC p l s m c b Ls xs g) (hz : z = nI (5 * t)) (hlt : 5 * t + 5 ≤ Ls) (hL : Ls ≤ 2560) (hV : sm_V S M t) (hcs : cells + 5 ≤ 603072) (hss : slots + 30 ≤ 7190634) (hw : WS g s (S, (M, o)) H locs) (hl : lv_has ls 9 (lw_lv g b z))
    (kk : LK p l e s m below meth c b g z (t + 1) (cells + 5) (slots + 30) Q) : W p l e room_1 s m #[Value.ref b] below meth c H locs cells slots Q (F0 m 869 ls []) := by
  obtain ⟨hc, hml, hk, hX, hbl, hbA, hfl⟩ := C9
  have hx := hc.1
  have hb := hc.2.1
  have ht5 : t < 512 := by omega
  obtain ⟨n9, m9, n8, m8, hN, hN1, hMN, hev, hev2⟩ := hV.c
  refine lv_aload_n hx hb dL_law_869 rfl (lv_at hl 4 rfl) ?_
  refine lv_aload_n hx hb dL_law_870 rfl (lv_at hl 5 rfl) ?_
  refine lv_iload hx hb dL_law_871 (lv_at hl 0 rfl) ?_
  refine lv_iconst (v := 1) hx hb dL_law_873 (by decide) ?_
  refine lv_iadd hx hb dL_law_874 ?_
  refine va_sld hx hb hX hbl hbA hw.2 (sm_scr (j := 1) hz hlt hL (by decide)) dL_law_875 ?_
  refine lv_aload_n hx hb dL_law_876 rfl (lv_at hl 2 rfl) ?_
  have hw0 : WS g s (xB S 0 (S 0) (M, o)) H locs := hw.eqv (by rw [xB, va_up_id])
  refine kc_i hw0 (vx_runSW (hh := [(0, 9, 12, 25), (0, 9, 15, 31)]) (As := [.ref (gA g 0), .int (xs (z + 1).toNatClampNeg), .ref (gA g 169)]) (rest := []) ⟨hx, hb, hml, hc.2.2.1, hc.2.2.2⟩ (m_L_ask l g hfl S (S 0) (M, o) (xs (z + 1).toNatClampNeg) _ _ hN hev) (kw_SW hc 3 q778 q779 q0 q780 rfl rfl (by decide +kernel) ⟨Nat.le_of_ble_eq_true rfl, Nat.le_of_ble_eq_true rfl⟩) (kp_S hk hw0) rfl rfl hl.1 rfl (lv_room (Nat.le_of_ble_eq_true rfl)) dL_law_877 ⟨by show cells + 2 ≤ 603072; omega, by show slots + 12 ≤ 7190634; omega⟩) (fun H locs hw => ?_)
  have hw : WS g s ((if e_X6_ask (xs (z + 1).toNatClampNeg) (S 0) = none then va_up (f_X2_keep 9 (xs (z + 1).toNatClampNeg) 0 0 0 S) 0 (f_X6_ask (xs (z + 1).toNatClampNeg) (S 0)).2 else S), (M, (if e_X6_ask (xs (z + 1).toNatClampNeg) (S 0) = none then vp_updL o.1 0 (f_X6_ask (xs (z + 1).toNatClampNeg) (S 0)).1.toInt64 else o.1, o.2))) H locs := hw.eqv (by rw [show (xB S 0 (S 0) (M, o) : wSt) = (S, (M, o)) by rw [xB, va_up_id]]; exact wst_l)
  have hsim := sm_ask hV ht5 (xs (z + 1).toNatClampNeg)
  have hV1 : sm_V (if e_X6_ask (xs (z + 1).toNatClampNeg) (S 0) = none then va_up (f_X2_keep 9 (xs (z + 1).toNatClampNeg) 0 0 0 S) 0 (f_X6_ask (xs (z + 1).toNatClampNeg) (S 0)).2 else S) (f_X7_ask (xs (z + 1).toNatClampNeg) M).2 (t + 1) := hsim.2.2
  generalize hS1 : (if e_X6_ask (xs (z + 1).toNatClampNeg) (S 0) = none then va_up (f_X2_keep 9 (xs (z + 1).toNatClampNeg) 0 0 0 S) 0 (f_X6_ask (xs (z + 1).toNatClampNeg) (S 0)).2 else S) = S1 at hw hV1
  generalize ho1 : ((if e_X6_ask (xs (z + 1).toNatClampNeg) (S 0) = none then vp_updL o.1 0 (f_X6_ask (xs (z + 1).toNatClampNeg) (S 0)).1.toInt64 else o.1, o.2) : (Nat → Int64) × (Nat → UInt64)) = o1 at hw
  refine lv_istore (lv' := [(6, .int (kE (e_X6_ask (xs (z + 1).toNatClampNeg) (S 0)) ["java/lang/IndexOutOfBoundsException", "java/lang/UnsupportedOperationException"])), (5, .int z), (4, .ref (gA g 170)), (3, .ref (gA g 169)), (2, .ref (gA g (jM 0))), (1, .ref (gA g 0)), (0, .ref b)]) hx hb dL_law_880 hl (by decide) rfl (fun ls hl => ?_)
  refine lv_aload_n hx hb dL_law_882 rfl (lv_at hl 4 rfl) ?_
  refine lv_aload_n hx hb dL_law_883 rfl (lv_at hl 6 rfl) ?_
  refine lv_iload hx hb dL_law_884 (lv_at hl 1 rfl) ?_
  refine lv_iconst (v := 1) hx hb dL_law_886 (by decide) ?_
  refine lv_iadd hx hb dL_law_887 ?_
  refine va_sld hx hb hX hbl hbA hw.2 (sm_scr (j := 1) hz hlt hL (by decide)) dL_law_888 ?_
  refine kc_i hw (va_runV (As := [.int (xs (z + 1).toNatClampNeg)]) (rest := []) ⟨hx, hb, hml, hc.2.2.1, hc.2.2.2⟩ (m_X7_ask l g S1 M o1 (xs (z + 1).toNatClampNeg) _ _ hMN) (kw_V hc 1 q1210 q1211 q1212 q8 q1213 rfl rfl (by decide +kernel) ⟨Nat.le_of_ble_eq_true rfl, Nat.le_of_ble_eq_true rfl⟩) (kp_V hk hw at_M rfl) rfl rfl hl.1 rfl (lv_room (Nat.le_of_ble_eq_true rfl)) dL_law_889 ⟨by show cells + 2 + 0 ≤ 603072; omega, by show slots + 12 + 0 ≤ 7190634; omega⟩) (fun H locs hw => ?_)
  refine lv_istore (lv' := [(7, .int (f_X7_ask (xs (z + 1).toNatClampNeg) M).1), (6, .int (kE (e_X6_ask (xs (z + 1).toNatClampNeg) (S 0)) ["java/lang/IndexOutOfBoundsException", "java/lang/UnsupportedOperationException"])), (5, .int z), (4, .ref (gA g 170)), (3, .ref (gA g 169)), (2, .ref (gA g (jM 0))), (1, .ref (gA g 0)), (0, .ref b)]) hx hb dL_law_892 hl (by decide) rfl (fun ls hl => ?_)
  refine lv_aload_n hx hb dL_law_894 rfl (lv_at hl 5 rfl) ?_
  refine kc_i hw (va_runV (As := []) (rest := []) ⟨hx, hb, hml, hc.2.2.1, hc.2.2.2⟩ (m_X7_thrown l g S1 (f_X7_ask (xs (z + 1).toNatClampNeg) M).2 o1) (kw_V hc 0 q1125 q1126 q1127 q8 q1128 rfl rfl (by decide +kernel) ⟨Nat.le_of_ble_eq_true rfl, Nat.le_of_ble_eq_true rfl⟩) (kp_V hk hw at_M rfl) rfl rfl hl.1 rfl (lv_room (Nat.le_of_ble_eq_true rfl)) dL_law_895 ⟨by show cells + 2 + 0 ≤ 603072; omega, by show slots + 12 + 0 ≤ 7190634; omega⟩) (fun H locs hw => ?_)
  refine lv_iload hx hb dL_law_898 (lv_at hl 1 rfl) ?_
  refine lv_icmp_eq (tgt := 905) hx hb dL_law_900 (by decide) (fun _ => ?_) (fun h9 => absurd hsim.1 h9)
  refine lv_iload hx hb dL_law_905 (lv_at hl 1 rfl) ?_
  refine lv_if_ne (tgt := 922) hx hb dL_law_907 (by decide) (fun _ => ?_) (fun h9 => ?_)
  · refine lv_goto (tgt := 2293) hx hb dL_law_922 (by decide) ?_
    refine W.widen (k := cells + 5) (n := slots + 30) (by omega) (by omega) ?_
    exact kk _ _ _ _ _ _ hV1 hw (lv_sub hl [2, 3, 4, 5, 6, 7] rfl)
  · have he0 := kE_none (by decide) (h9)
    refine lv_aload_n hx hb dL_law_910 rfl (lv_at hl 4 rfl) ?_
    refine lv_iconst (v := 0) hx hb dL_law_911 (by decide) ?_
    refine k_lald hc hk hw dL_law_912 ?_
    refine vn_l (v9 := (f_X6_ask (xs (z + 1).toNatClampNeg) (S 0)).1.toInt64) (by rw [← ho1, if_pos he0]; exact lw_uL o.1 0 _) ?_
    refine lv_iload hx hb dL_law_913 (lv_at hl 0 rfl) ?_
    refine lv_i2l hx hb dL_law_915 rfl ?_
    refine W.lcmp hx hb dL_law_916 ?_
    refine lv_if_eq (tgt := 922) hx hb dL_law_917 (by decide) (fun _ => ?_) (fun h9 => absurd (by rw [show (f_X6_ask (xs (z + 1).toNatClampNeg) (S 0)).1.toInt64 = ((f_X7_ask (xs (z + 1).toNatClampNeg) M).1.toInt64) from congrArg Int32.toInt64 (hsim.2.1 he0).symm]; exact lw_self _) h9)
    refine lv_goto (tgt := 2293) hx hb dL_law_922 (by decide) ?_
    refine W.widen (k := cells + 5) (n := slots + 30) (by omega) (by omega) ?_
    exact kk _ _ _ _ _ _ hV1 hw (lv_sub hl [2, 3, 4, 5, 6, 7] rfl)
