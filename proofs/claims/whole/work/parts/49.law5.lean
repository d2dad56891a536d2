/-! the law, cases 24 to 29 -/
set_option maxHeartbeats 4000000 in
set_option maxRecDepth 100000 in
theorem lc_24 {p : Program} {l : Launch} {e : Env} {s : State} {m : MethodId} {below : List Frame} {meth : Method} {c : Code} {b Ls : Nat} {xs : Nat → Int32} {g : wG} {Q : State → Prop} {S : Nat → BT} {M : BT} {o : (Nat → Int64) × (Nat → UInt64)} {t cells slots : Nat} {z : Int32} {H : Heap} {locs : List Loc} {ls : Array Slot}
    (C9 : LC p l s m c b Ls xs g) (hz : z = nI (5 * t)) (hlt : 5 * t + 5 ≤ Ls) (hL : Ls ≤ 2560) (hV : sm_V S M t) (hcs : cells + 5 ≤ 603072) (hss : slots + 30 ≤ 7190634) (hw : WS g s (S, (M, o)) H locs) (hl : lv_has ls 9 (lw_lv g b z))
    (kk : LK p l e s m below meth c b g z (t + 1) (cells + 5) (slots + 30) Q) : W p l e room_1 s m #[Value.ref b] below meth c H locs cells slots Q (F0 m 1640 ls []) := by
  obtain ⟨hc, hml, hk, hX, hbl, hbA, hfl⟩ := C9
  have hx := hc.1
  have hb := hc.2.1
  have ht5 : t < 512 := by omega
  obtain ⟨n9, m9, n8, m8, hN, hN1, hMN, hev, hev2⟩ := hV.c
  refine lv_aload_n hx hb dL_law_1640 rfl (lv_at hl 4 rfl) ?_
  refine lv_aload_n hx hb dL_law_1641 rfl (lv_at hl 5 rfl) ?_
  refine lv_iload hx hb dL_law_1642 (lv_at hl 0 rfl) ?_
  refine lv_iconst (v := 1) hx hb dL_law_1644 (by decide) ?_
  refine lv_iadd hx hb dL_law_1645 ?_
  refine va_sld hx hb hX hbl hbA hw.2 (sm_scr (j := 1) hz hlt hL (by decide)) dL_law_1646 ?_
  refine lv_aload_n hx hb dL_law_1647 rfl (lv_at hl 2 rfl) ?_
  have hw0 : WS g s (xB S 0 (S 0) (M, o)) H locs := hw.eqv (by rw [xB, va_up_id])
  refine kc_i hw0 (vx_runSW (hh := [(0, 9, 12, 25), (0, 9, 15, 76)]) (As := [.ref (gA g 0), .int (xs (z + 1).toNatClampNeg), .ref (gA g 169)]) (rest := []) ⟨hx, hb, hml, hc.2.2.1, hc.2.2.2⟩ (m_L_heads l g hfl S (S 0) (M, o) (xs (z + 1).toNatClampNeg) _ _ hN hev) (kw_SW hc 3 q924 q925 q0 q926 rfl rfl (by decide +kernel) ⟨Nat.le_of_ble_eq_true rfl, Nat.le_of_ble_eq_true rfl⟩) (kp_S hk hw0) rfl rfl hl.1 rfl (lv_room (Nat.le_of_ble_eq_true rfl)) dL_law_1648 ⟨by show cells + 2 ≤ 603072; omega, by show slots + 12 ≤ 7190634; omega⟩) (fun H locs hw => ?_)
  have hw : WS g s ((if e_X6_heads (xs (z + 1).toNatClampNeg) (S 0) = none then S else S), (M, (if e_X6_heads (xs (z + 1).toNatClampNeg) (S 0) = none then vp_updL o.1 0 (f_X6_heads (xs (z + 1).toNatClampNeg) (S 0)).toInt64 else o.1, o.2))) H locs := hw.eqv (by rw [show (xB S 0 (S 0) (M, o) : wSt) = (S, (M, o)) by rw [xB, va_up_id]]; simp only [xB, va_up_id]; exact wst_l)
  have hsim := sm_heads hV (xs (z + 1).toNatClampNeg)
  have hV1 : sm_V (if e_X6_heads (xs (z + 1).toNatClampNeg) (S 0) = none then S else S) (f_X7_heads (xs (z + 1).toNatClampNeg) M).2 (t + 1) := hsim.2.2
  generalize hS1 : (if e_X6_heads (xs (z + 1).toNatClampNeg) (S 0) = none then S else S) = S1 at hw hV1
  generalize ho1 : ((if e_X6_heads (xs (z + 1).toNatClampNeg) (S 0) = none then vp_updL o.1 0 (f_X6_heads (xs (z + 1).toNatClampNeg) (S 0)).toInt64 else o.1, o.2) : (Nat → Int64) × (Nat → UInt64)) = o1 at hw
  refine lv_istore (lv' := [(6, .int (kE (e_X6_heads (xs (z + 1).toNatClampNeg) (S 0)) ["java/lang/IndexOutOfBoundsException", "java/util/NoSuchElementException"])), (5, .int z), (4, .ref (gA g 170)), (3, .ref (gA g 169)), (2, .ref (gA g (jM 0))), (1, .ref (gA g 0)), (0, .ref b)]) hx hb dL_law_1651 hl (by decide) rfl (fun ls hl => ?_)
  refine lv_aload_n hx hb dL_law_1653 rfl (lv_at hl 4 rfl) ?_
  refine lv_aload_n hx hb dL_law_1654 rfl (lv_at hl 6 rfl) ?_
  refine lv_iload hx hb dL_law_1655 (lv_at hl 1 rfl) ?_
  refine lv_iconst (v := 1) hx hb dL_law_1657 (by decide) ?_
  refine lv_iadd hx hb dL_law_1658 ?_
  refine va_sld hx hb hX hbl hbA hw.2 (sm_scr (j := 1) hz hlt hL (by decide)) dL_law_1659 ?_
  refine kc_i hw (va_runV (As := [.int (xs (z + 1).toNatClampNeg)]) (rest := []) ⟨hx, hb, hml, hc.2.2.1, hc.2.2.2⟩ (m_X7_heads l g S1 M o1 (xs (z + 1).toNatClampNeg) _ _ hMN) (kw_V hc 1 q1278 q1279 q1280 q8 q1281 rfl rfl (by decide +kernel) ⟨Nat.le_of_ble_eq_true rfl, Nat.le_of_ble_eq_true rfl⟩) (kp_V hk hw at_M rfl) rfl rfl hl.1 rfl (lv_room (Nat.le_of_ble_eq_true rfl)) dL_law_1660 ⟨by show cells + 2 + 0 ≤ 603072; omega, by show slots + 12 + 0 ≤ 7190634; omega⟩) (fun H locs hw => ?_)
  refine lv_istore (lv' := [(7, .int (f_X7_heads (xs (z + 1).toNatClampNeg) M).1), (6, .int (kE (e_X6_heads (xs (z + 1).toNatClampNeg) (S 0)) ["java/lang/IndexOutOfBoundsException", "java/util/NoSuchElementException"])), (5, .int z), (4, .ref (gA g 170)), (3, .ref (gA g 169)), (2, .ref (gA g (jM 0))), (1, .ref (gA g 0)), (0, .ref b)]) hx hb dL_law_1663 hl (by decide) rfl (fun ls hl => ?_)
  refine lv_aload_n hx hb dL_law_1665 rfl (lv_at hl 5 rfl) ?_
  refine kc_i hw (va_runV (As := []) (rest := []) ⟨hx, hb, hml, hc.2.2.1, hc.2.2.2⟩ (m_X7_thrown l g S1 (f_X7_heads (xs (z + 1).toNatClampNeg) M).2 o1) (kw_V hc 0 q1125 q1126 q1127 q8 q1128 rfl rfl (by decide +kernel) ⟨Nat.le_of_ble_eq_true rfl, Nat.le_of_ble_eq_true rfl⟩) (kp_V hk hw at_M rfl) rfl rfl hl.1 rfl (lv_room (Nat.le_of_ble_eq_true rfl)) dL_law_1666 ⟨by show cells + 2 + 0 ≤ 603072; omega, by show slots + 12 + 0 ≤ 7190634; omega⟩) (fun H locs hw => ?_)
  refine lv_iload hx hb dL_law_1669 (lv_at hl 1 rfl) ?_
  refine lv_icmp_eq (tgt := 1676) hx hb dL_law_1671 (by decide) (fun _ => ?_) (fun h9 => absurd hsim.1 h9)
  refine lv_iload hx hb dL_law_1676 (lv_at hl 1 rfl) ?_
  refine lv_if_ne (tgt := 1693) hx hb dL_law_1678 (by decide) (fun _ => ?_) (fun h9 => ?_)
  · refine lv_goto (tgt := 2293) hx hb dL_law_1693 (by decide) ?_
    refine W.widen (k := cells + 5) (n := slots + 30) (by omega) (by omega) ?_
    exact kk _ _ _ _ _ _ hV1 hw (lv_sub hl [2, 3, 4, 5, 6, 7] rfl)
  · have he0 := kE_none (by decide) (h9)
    refine lv_aload_n hx hb dL_law_1681 rfl (lv_at hl 4 rfl) ?_
    refine lv_iconst (v := 0) hx hb dL_law_1682 (by decide) ?_
    refine k_lald hc hk hw dL_law_1683 ?_
    refine vn_l (v9 := (f_X6_heads (xs (z + 1).toNatClampNeg) (S 0)).toInt64) (by rw [← ho1, if_pos he0]; exact lw_uL o.1 0 _) ?_
    refine lv_iload hx hb dL_law_1684 (lv_at hl 0 rfl) ?_
    refine lv_i2l hx hb dL_law_1686 rfl ?_
    refine W.lcmp hx hb dL_law_1687 ?_
    refine lv_if_eq (tgt := 1693) hx hb dL_law_1688 (by decide) (fun _ => ?_) (fun h9 => absurd (by rw [show (f_X6_heads (xs (z + 1).toNatClampNeg) (S 0)).toInt64 = ((f_X7_heads (xs (z + 1).toNatClampNeg) M).1.toInt64) from congrArg Int32.toInt64 (hsim.2.1 he0).symm]; exact lw_self _) h9)
    refine lv_goto (tgt := 2293) hx hb dL_law_1693 (by decide) ?_
    refine W.widen (k := cells + 5) (n := slots + 30) (by omega) (by omega) ?_
    exact kk _ _ _ _ _ _ hV1 hw (lv_sub hl [2, 3, 4, 5, 6, 7] rfl)
set_option maxHeartbeats 4000000 in
set_option maxRecDepth 100000 in
theorem lc_25 {p : Program} {l : Launch} {e : Env} {s : State} {m : MethodId} {below : List Frame} {meth : Method} {c : Code} {b Ls : Nat} {xs : Nat → Int32} {g : wG} {Q : State → Prop} {S : Nat → BT} {M : BT} {o : (Nat → Int64) × (Nat → UInt64)} {t cells slots : Nat} {z : Int32} {H : Heap} {locs : List Loc} {ls : Array Slot}
    (C9 : LC p l s m c b Ls xs g) (hz : z = nI (5 * t)) (hlt : 5 * t + 5 ≤ Ls) (hL : Ls ≤ 2560) (hV : sm_V S M t) (hcs : cells + 5 ≤ 603072) (hss : slots + 30 ≤ 7190634) (hw : WS g s (S, (M, o)) H locs) (hl : lv_has ls 9 (lw_lv g b z))
    (kk : LK p l e s m below meth c b g z (t + 1) (cells + 5) (slots + 30) Q) : W p l e room_1 s m #[Value.ref b] below meth c H locs cells slots Q (F0 m 1696 ls []) := by
  obtain ⟨hc, hml, hk, hX, hbl, hbA, hfl⟩ := C9
  have hx := hc.1
  have hb := hc.2.1
  have ht5 : t < 512 := by omega
  obtain ⟨n9, m9, n8, m8, hN, hN1, hMN, hev, hev2⟩ := hV.c
  refine lv_aload_n hx hb dL_law_1696 rfl (lv_at hl 4 rfl) ?_
  refine lv_aload_n hx hb dL_law_1697 rfl (lv_at hl 5 rfl) ?_
  refine lv_iload hx hb dL_law_1698 (lv_at hl 0 rfl) ?_
  refine lv_iconst (v := 1) hx hb dL_law_1700 (by decide) ?_
  refine lv_iadd hx hb dL_law_1701 ?_
  refine va_sld hx hb hX hbl hbA hw.2 (sm_scr (j := 1) hz hlt hL (by decide)) dL_law_1702 ?_
  refine lv_aload_n hx hb dL_law_1703 rfl (lv_at hl 2 rfl) ?_
  have hw0 : WS g s (xB S 0 (S 0) (M, o)) H locs := hw.eqv (by rw [xB, va_up_id])
  refine kc_i hw0 (vx_runSW (hh := [(0, 9, 12, 25), (0, 9, 15, 76)]) (As := [.ref (gA g 0), .int (xs (z + 1).toNatClampNeg), .ref (gA g 169)]) (rest := []) ⟨hx, hb, hml, hc.2.2.1, hc.2.2.2⟩ (m_L_remedy l g hfl S (S 0) (M, o) (xs (z + 1).toNatClampNeg) _ _ hN hev) (kw_SW hc 3 q932 q933 q0 q934 rfl rfl (by decide +kernel) ⟨Nat.le_of_ble_eq_true rfl, Nat.le_of_ble_eq_true rfl⟩) (kp_S hk hw0) rfl rfl hl.1 rfl (lv_room (Nat.le_of_ble_eq_true rfl)) dL_law_1704 ⟨by show cells + 2 ≤ 603072; omega, by show slots + 12 ≤ 7190634; omega⟩) (fun H locs hw => ?_)
  have hw : WS g s ((if e_X6_remedy (xs (z + 1).toNatClampNeg) (S 0) = none then S else S), (M, (if e_X6_remedy (xs (z + 1).toNatClampNeg) (S 0) = none then vp_updL o.1 0 (f_X6_remedy (xs (z + 1).toNatClampNeg) (S 0)).toInt64 else o.1, o.2))) H locs := hw.eqv (by rw [show (xB S 0 (S 0) (M, o) : wSt) = (S, (M, o)) by rw [xB, va_up_id]]; simp only [xB, va_up_id]; exact wst_l)
  have hsim := sm_remedy hV (xs (z + 1).toNatClampNeg)
  have hV1 : sm_V (if e_X6_remedy (xs (z + 1).toNatClampNeg) (S 0) = none then S else S) (f_X7_remedy (xs (z + 1).toNatClampNeg) M).2 (t + 1) := hsim.2.2
  generalize hS1 : (if e_X6_remedy (xs (z + 1).toNatClampNeg) (S 0) = none then S else S) = S1 at hw hV1
  generalize ho1 : ((if e_X6_remedy (xs (z + 1).toNatClampNeg) (S 0) = none then vp_updL o.1 0 (f_X6_remedy (xs (z + 1).toNatClampNeg) (S 0)).toInt64 else o.1, o.2) : (Nat → Int64) × (Nat → UInt64)) = o1 at hw
  refine lv_istore (lv' := [(6, .int (kE (e_X6_remedy (xs (z + 1).toNatClampNeg) (S 0)) ["java/lang/IndexOutOfBoundsException", "java/util/NoSuchElementException"])), (5, .int z), (4, .ref (gA g 170)), (3, .ref (gA g 169)), (2, .ref (gA g (jM 0))), (1, .ref (gA g 0)), (0, .ref b)]) hx hb dL_law_1707 hl (by decide) rfl (fun ls hl => ?_)
  refine lv_aload_n hx hb dL_law_1709 rfl (lv_at hl 4 rfl) ?_
  refine lv_aload_n hx hb dL_law_1710 rfl (lv_at hl 6 rfl) ?_
  refine lv_iload hx hb dL_law_1711 (lv_at hl 1 rfl) ?_
  refine lv_iconst (v := 1) hx hb dL_law_1713 (by decide) ?_
  refine lv_iadd hx hb dL_law_1714 ?_
  refine va_sld hx hb hX hbl hbA hw.2 (sm_scr (j := 1) hz hlt hL (by decide)) dL_law_1715 ?_
  refine kc_i hw (va_runV (As := [.int (xs (z + 1).toNatClampNeg)]) (rest := []) ⟨hx, hb, hml, hc.2.2.1, hc.2.2.2⟩ (m_X7_remedy l g S1 M o1 (xs (z + 1).toNatClampNeg) _ _ hMN) (kw_V hc 1 q1282 q1283 q1284 q8 q1285 rfl rfl (by decide +kernel) ⟨Nat.le_of_ble_eq_true rfl, Nat.le_of_ble_eq_true rfl⟩) (kp_V hk hw at_M rfl) rfl rfl hl.1 rfl (lv_room (Nat.le_of_ble_eq_true rfl)) dL_law_1716 ⟨by show cells + 2 + 0 ≤ 603072; omega, by show slots + 12 + 0 ≤ 7190634; omega⟩) (fun H locs hw => ?_)
  refine lv_istore (lv' := [(7, .int (f_X7_remedy (xs (z + 1).toNatClampNeg) M).1), (6, .int (kE (e_X6_remedy (xs (z + 1).toNatClampNeg) (S 0)) ["java/lang/IndexOutOfBoundsException", "java/util/NoSuchElementException"])), (5, .int z), (4, .ref (gA g 170)), (3, .ref (gA g 169)), (2, .ref (gA g (jM 0))), (1, .ref (gA g 0)), (0, .ref b)]) hx hb dL_law_1719 hl (by decide) rfl (fun ls hl => ?_)
  refine lv_aload_n hx hb dL_law_1721 rfl (lv_at hl 5 rfl) ?_
  refine kc_i hw (va_runV (As := []) (rest := []) ⟨hx, hb, hml, hc.2.2.1, hc.2.2.2⟩ (m_X7_thrown l g S1 (f_X7_remedy (xs (z + 1).toNatClampNeg) M).2 o1) (kw_V hc 0 q1125 q1126 q1127 q8 q1128 rfl rfl (by decide +kernel) ⟨Nat.le_of_ble_eq_true rfl, Nat.le_of_ble_eq_true rfl⟩) (kp_V hk hw at_M rfl) rfl rfl hl.1 rfl (lv_room (Nat.le_of_ble_eq_true rfl)) dL_law_1722 ⟨by show cells + 2 + 0 ≤ 603072; omega, by show slots + 12 + 0 ≤ 7190634; omega⟩) (fun H locs hw => ?_)
  refine lv_iload hx hb dL_law_1725 (lv_at hl 1 rfl) ?_
  refine lv_icmp_eq (tgt := 1732) hx hb dL_law_1727 (by decide) (fun _ => ?_) (fun h9 => absurd hsim.1 h9)
  refine lv_iload hx hb dL_law_1732 (lv_at hl 1 rfl) ?_
  refine lv_if_ne (tgt := 1749) hx hb dL_law_1734 (by decide) (fun _ => ?_) (fun h9 => ?_)
  · refine lv_goto (tgt := 2293) hx hb dL_law_1749 (by decide) ?_
    refine W.widen (k := cells + 5) (n := slots + 30) (by omega) (by omega) ?_
    exact kk _ _ _ _ _ _ hV1 hw (lv_sub hl [2, 3, 4, 5, 6, 7] rfl)
  · have he0 := kE_none (by decide) (h9)
    refine lv_aload_n hx hb dL_law_1737 rfl (lv_at hl 4 rfl) ?_
    refine lv_iconst (v := 0) hx hb dL_law_1738 (by decide) ?_
    refine k_lald hc hk hw dL_law_1739 ?_
    refine vn_l (v9 := (f_X6_remedy (xs (z + 1).toNatClampNeg) (S 0)).toInt64) (by rw [← ho1, if_pos he0]; exact lw_uL o.1 0 _) ?_
    refine lv_iload hx hb dL_law_1740 (lv_at hl 0 rfl) ?_
    refine lv_i2l hx hb dL_law_1742 rfl ?_
    refine W.lcmp hx hb dL_law_1743 ?_
    refine lv_if_eq (tgt := 1749) hx hb dL_law_1744 (by decide) (fun _ => ?_) (fun h9 => absurd (by rw [show (f_X6_remedy (xs (z + 1).toNatClampNeg) (S 0)).toInt64 = ((f_X7_remedy (xs (z + 1).toNatClampNeg) M).1.toInt64) from congrArg Int32.toInt64 (hsim.2.1 he0).symm]; exact lw_self _) h9)
    refine lv_goto (tgt := 2293) hx hb dL_law_1749 (by decide) ?_
    refine W.widen (k := cells + 5) (n := slots + 30) (by omega) (by omega) ?_
    exact kk _ _ _ _ _ _ hV1 hw (lv_sub hl [2, 3, 4, 5, 6, 7] rfl)
set_option maxHeartbeats 4000000 in
set_option maxRecDepth 100000 in
theorem lc_26 {p : Program} {l : Launch} {e : Env} {s : State} {m : MethodId} {below : List Frame} {meth : Method} {c : Code} {b Ls : Nat} {xs : Nat → Int32} {g : wG} {Q : State → Prop} {S : Nat → BT} {M : BT} {o : (Nat → Int64) × (Nat → UInt64)} {t cells slots : Nat} {z : Int32} {H : Heap} {locs : List Loc} {ls : Array Slot}
    (C9 : LC p l s m c b Ls xs g) (hz : z = nI (5 * t)) (hlt : 5 * t + 5 ≤ Ls) (hL : Ls ≤ 2560) (hV : sm_V S M t) (hcs : cells + 5 ≤ 603072) (hss : slots + 30 ≤ 7190634) (hw : WS g s (S, (M, o)) H locs) (hl : lv_has ls 9 (lw_lv g b z))
    (kk : LK p l e s m below meth c b g z (t + 1) (cells + 5) (slots + 30) Q) : W p l e room_1 s m #[Value.ref b] below meth c H locs cells slots Q (F0 m 1752 ls []) := by
  obtain ⟨hc, hml, hk, hX, hbl, hbA, hfl⟩ := C9
  have hx := hc.1
  have hb := hc.2.1
  have ht5 : t < 512 := by omega
  obtain ⟨n9, m9, n8, m8, hN, hN1, hMN, hev, hev2⟩ := hV.c
  by_cases hq2 : (xs (z + 2).toNatClampNeg) = 0
  · refine lv_aload_n hx hb dL_law_1752 rfl (lv_at hl 4 rfl) ?_
    refine lv_aload_n hx hb dL_law_1753 rfl (lv_at hl 5 rfl) ?_
    refine lv_iload hx hb dL_law_1754 (lv_at hl 0 rfl) ?_
    refine lv_iconst (v := 1) hx hb dL_law_1756 (by decide) ?_
    refine lv_iadd hx hb dL_law_1757 ?_
    refine va_sld hx hb hX hbl hbA hw.2 (sm_scr (j := 1) hz hlt hL (by decide)) dL_law_1758 ?_
    refine lv_aload_n hx hb dL_law_1759 rfl (lv_at hl 5 rfl) ?_
    refine lv_iload hx hb dL_law_1760 (lv_at hl 0 rfl) ?_
    refine lv_iconst (v := 2) hx hb dL_law_1762 (by decide) ?_
    refine lv_iadd hx hb dL_law_1763 ?_
    refine va_sld hx hb hX hbl hbA hw.2 (sm_scr (j := 2) hz hlt hL (by decide)) dL_law_1764 ?_
    refine lv_if_eq (tgt := 1772) hx hb dL_law_1765 (by decide) (fun _ => ?_) (fun h9 => absurd hq2 h9)
    refine lv_iconst (v := 0) hx hb dL_law_1772 (by decide) ?_
    refine lv_aload_n hx hb dL_law_1773 rfl (lv_at hl 2 rfl) ?_
    have hw0 : WS g s (xB S 0 (S 0) (M, o)) H locs := hw.eqv (by rw [xB, va_up_id])
    refine kc_i hw0 (vx_runSW (hh := [(0, 10, 13, 25), (0, 10, 17, 31)]) (As := [.ref (gA g 0), .int (xs (z + 1).toNatClampNeg), .int 0, .ref (gA g 169)]) (rest := []) ⟨hx, hb, hml, hc.2.2.1, hc.2.2.2⟩ (m_L_accept l g hfl S (S 0) (M, o) (xs (z + 1).toNatClampNeg) 0 _ _ hN hev) (kw_SW hc 4 q940 q941 q0 q942 rfl rfl (by decide +kernel) ⟨Nat.le_of_ble_eq_true rfl, Nat.le_of_ble_eq_true rfl⟩) (kp_S hk hw0) rfl rfl hl.1 rfl (lv_room (Nat.le_of_ble_eq_true rfl)) dL_law_1774 ⟨by show cells + 3 ≤ 603072; omega, by show slots + 18 ≤ 7190634; omega⟩) (fun H locs hw => ?_)
    have hw : WS g s ((if e_X6_accept (xs (z + 1).toNatClampNeg) 0 (S 0) = none then va_up (f_X2_keep 17 (xs (z + 1).toNatClampNeg) (j_X6_accept_37 0) 0 0 S) 0 (f_X6_accept (xs (z + 1).toNatClampNeg) 0 (S 0)).2 else S), (M, (if e_X6_accept (xs (z + 1).toNatClampNeg) 0 (S 0) = none then vp_updL o.1 0 (f_X6_accept (xs (z + 1).toNatClampNeg) 0 (S 0)).1.toInt64 else o.1, o.2))) H locs := hw.eqv (by rw [show (xB S 0 (S 0) (M, o) : wSt) = (S, (M, o)) by rw [xB, va_up_id]]; exact wst_l)
    have hsim := sm_accept hV ht5 (xs (z + 1).toNatClampNeg) 0 (Or.inl rfl)
    have hV1 : sm_V (if e_X6_accept (xs (z + 1).toNatClampNeg) 0 (S 0) = none then va_up (f_X2_keep 17 (xs (z + 1).toNatClampNeg) (j_X6_accept_37 0) 0 0 S) 0 (f_X6_accept (xs (z + 1).toNatClampNeg) 0 (S 0)).2 else S) (f_X7_accept (xs (z + 1).toNatClampNeg) 0 M).2 (t + 1) := hsim.2.2
    generalize hS1 : (if e_X6_accept (xs (z + 1).toNatClampNeg) 0 (S 0) = none then va_up (f_X2_keep 17 (xs (z + 1).toNatClampNeg) (j_X6_accept_37 0) 0 0 S) 0 (f_X6_accept (xs (z + 1).toNatClampNeg) 0 (S 0)).2 else S) = S1 at hw hV1
    generalize ho1 : ((if e_X6_accept (xs (z + 1).toNatClampNeg) 0 (S 0) = none then vp_updL o.1 0 (f_X6_accept (xs (z + 1).toNatClampNeg) 0 (S 0)).1.toInt64 else o.1, o.2) : (Nat → Int64) × (Nat → UInt64)) = o1 at hw
    refine lv_istore (lv' := [(6, .int (kE (e_X6_accept (xs (z + 1).toNatClampNeg) 0 (S 0)) ["java/lang/IndexOutOfBoundsException", "java/lang/UnsupportedOperationException"])), (5, .int z), (4, .ref (gA g 170)), (3, .ref (gA g 169)), (2, .ref (gA g (jM 0))), (1, .ref (gA g 0)), (0, .ref b)]) hx hb dL_law_1777 hl (by decide) rfl (fun ls hl => ?_)
    refine lv_aload_n hx hb dL_law_1779 rfl (lv_at hl 4 rfl) ?_
    refine lv_aload_n hx hb dL_law_1780 rfl (lv_at hl 6 rfl) ?_
    refine lv_iload hx hb dL_law_1781 (lv_at hl 1 rfl) ?_
    refine lv_iconst (v := 1) hx hb dL_law_1783 (by decide) ?_
    refine lv_iadd hx hb dL_law_1784 ?_
    refine va_sld hx hb hX hbl hbA hw.2 (sm_scr (j := 1) hz hlt hL (by decide)) dL_law_1785 ?_
    refine lv_aload_n hx hb dL_law_1786 rfl (lv_at hl 6 rfl) ?_
    refine lv_iload hx hb dL_law_1787 (lv_at hl 1 rfl) ?_
    refine lv_iconst (v := 2) hx hb dL_law_1789 (by decide) ?_
    refine lv_iadd hx hb dL_law_1790 ?_
    refine va_sld hx hb hX hbl hbA hw.2 (sm_scr (j := 2) hz hlt hL (by decide)) dL_law_1791 ?_
    refine lv_if_eq (tgt := 1799) hx hb dL_law_1792 (by decide) (fun _ => ?_) (fun h9 => absurd hq2 h9)
    refine lv_iconst (v := 0) hx hb dL_law_1799 (by decide) ?_
    refine kc_i hw (va_runV (As := [.int (xs (z + 1).toNatClampNeg), .int 0]) (rest := []) ⟨hx, hb, hml, hc.2.2.1, hc.2.2.2⟩ (m_X7_accept l g S1 M o1 (xs (z + 1).toNatClampNeg) 0 _ _ hMN) (kw_V hc 2 q1286 q1287 q1288 q8 q1289 rfl rfl (by decide +kernel) ⟨Nat.le_of_ble_eq_true rfl, Nat.le_of_ble_eq_true rfl⟩) (kp_V hk hw at_M rfl) rfl rfl hl.1 rfl (lv_room (Nat.le_of_ble_eq_true rfl)) dL_law_1800 ⟨by show cells + 3 + 0 ≤ 603072; omega, by show slots + 18 + 0 ≤ 7190634; omega⟩) (fun H locs hw => ?_)
    refine lv_istore (lv' := [(7, .int (f_X7_accept (xs (z + 1).toNatClampNeg) 0 M).1), (6, .int (kE (e_X6_accept (xs (z + 1).toNatClampNeg) 0 (S 0)) ["java/lang/IndexOutOfBoundsException", "java/lang/UnsupportedOperationException"])), (5, .int z), (4, .ref (gA g 170)), (3, .ref (gA g 169)), (2, .ref (gA g (jM 0))), (1, .ref (gA g 0)), (0, .ref b)]) hx hb dL_law_1803 hl (by decide) rfl (fun ls hl => ?_)
    refine lv_aload_n hx hb dL_law_1805 rfl (lv_at hl 5 rfl) ?_
    refine kc_i hw (va_runV (As := []) (rest := []) ⟨hx, hb, hml, hc.2.2.1, hc.2.2.2⟩ (m_X7_thrown l g S1 (f_X7_accept (xs (z + 1).toNatClampNeg) 0 M).2 o1) (kw_V hc 0 q1125 q1126 q1127 q8 q1128 rfl rfl (by decide +kernel) ⟨Nat.le_of_ble_eq_true rfl, Nat.le_of_ble_eq_true rfl⟩) (kp_V hk hw at_M rfl) rfl rfl hl.1 rfl (lv_room (Nat.le_of_ble_eq_true rfl)) dL_law_1806 ⟨by show cells + 3 + 0 ≤ 603072; omega, by show slots + 18 + 0 ≤ 7190634; omega⟩) (fun H locs hw => ?_)
    refine lv_iload hx hb dL_law_1809 (lv_at hl 1 rfl) ?_
    refine lv_icmp_eq (tgt := 1816) hx hb dL_law_1811 (by decide) (fun _ => ?_) (fun h9 => absurd hsim.1 h9)
    refine lv_iload hx hb dL_law_1816 (lv_at hl 1 rfl) ?_
    refine lv_if_ne (tgt := 1833) hx hb dL_law_1818 (by decide) (fun _ => ?_) (fun h9 => ?_)
    · refine lv_goto (tgt := 2293) hx hb dL_law_1833 (by decide) ?_
      refine W.widen (k := cells + 5) (n := slots + 30) (by omega) (by omega) ?_
      exact kk _ _ _ _ _ _ hV1 hw (lv_sub hl [2, 3, 4, 5, 6, 7] rfl)
    · have he0 := kE_none (by decide) (h9)
      refine lv_aload_n hx hb dL_law_1821 rfl (lv_at hl 4 rfl) ?_
      refine lv_iconst (v := 0) hx hb dL_law_1822 (by decide) ?_
      refine k_lald hc hk hw dL_law_1823 ?_
      refine vn_l (v9 := (f_X6_accept (xs (z + 1).toNatClampNeg) 0 (S 0)).1.toInt64) (by rw [← ho1, if_pos he0]; exact lw_uL o.1 0 _) ?_
      refine lv_iload hx hb dL_law_1824 (lv_at hl 0 rfl) ?_
      refine lv_i2l hx hb dL_law_1826 rfl ?_
      refine W.lcmp hx hb dL_law_1827 ?_
      refine lv_if_eq (tgt := 1833) hx hb dL_law_1828 (by decide) (fun _ => ?_) (fun h9 => absurd (by rw [show (f_X6_accept (xs (z + 1).toNatClampNeg) 0 (S 0)).1.toInt64 = ((f_X7_accept (xs (z + 1).toNatClampNeg) 0 M).1.toInt64) from congrArg Int32.toInt64 (hsim.2.1 he0).symm]; exact lw_self _) h9)
      refine lv_goto (tgt := 2293) hx hb dL_law_1833 (by decide) ?_
      refine W.widen (k := cells + 5) (n := slots + 30) (by omega) (by omega) ?_
      exact kk _ _ _ _ _ _ hV1 hw (lv_sub hl [2, 3, 4, 5, 6, 7] rfl)
  · refine lv_aload_n hx hb dL_law_1752 rfl (lv_at hl 4 rfl) ?_
    refine lv_aload_n hx hb dL_law_1753 rfl (lv_at hl 5 rfl) ?_
    refine lv_iload hx hb dL_law_1754 (lv_at hl 0 rfl) ?_
    refine lv_iconst (v := 1) hx hb dL_law_1756 (by decide) ?_
    refine lv_iadd hx hb dL_law_1757 ?_
    refine va_sld hx hb hX hbl hbA hw.2 (sm_scr (j := 1) hz hlt hL (by decide)) dL_law_1758 ?_
    refine lv_aload_n hx hb dL_law_1759 rfl (lv_at hl 5 rfl) ?_
    refine lv_iload hx hb dL_law_1760 (lv_at hl 0 rfl) ?_
    refine lv_iconst (v := 2) hx hb dL_law_1762 (by decide) ?_
    refine lv_iadd hx hb dL_law_1763 ?_
    refine va_sld hx hb hX hbl hbA hw.2 (sm_scr (j := 2) hz hlt hL (by decide)) dL_law_1764 ?_
    refine lv_if_eq (tgt := 1772) hx hb dL_law_1765 (by decide) (fun h9 => absurd h9 hq2) (fun _ => ?_)
    refine lv_iconst (v := 1) hx hb dL_law_1768 (by decide) ?_
    refine lv_goto (tgt := 1773) hx hb dL_law_1769 (by decide) ?_
    refine lv_aload_n hx hb dL_law_1773 rfl (lv_at hl 2 rfl) ?_
    have hw0 : WS g s (xB S 0 (S 0) (M, o)) H locs := hw.eqv (by rw [xB, va_up_id])
    refine kc_i hw0 (vx_runSW (hh := [(0, 10, 13, 25), (0, 10, 17, 31)]) (As := [.ref (gA g 0), .int (xs (z + 1).toNatClampNeg), .int 1, .ref (gA g 169)]) (rest := []) ⟨hx, hb, hml, hc.2.2.1, hc.2.2.2⟩ (m_L_accept l g hfl S (S 0) (M, o) (xs (z + 1).toNatClampNeg) 1 _ _ hN hev) (kw_SW hc 4 q940 q941 q0 q942 rfl rfl (by decide +kernel) ⟨Nat.le_of_ble_eq_true rfl, Nat.le_of_ble_eq_true rfl⟩) (kp_S hk hw0) rfl rfl hl.1 rfl (lv_room (Nat.le_of_ble_eq_true rfl)) dL_law_1774 ⟨by show cells + 3 ≤ 603072; omega, by show slots + 18 ≤ 7190634; omega⟩) (fun H locs hw => ?_)
    have hw : WS g s ((if e_X6_accept (xs (z + 1).toNatClampNeg) 1 (S 0) = none then va_up (f_X2_keep 17 (xs (z + 1).toNatClampNeg) (j_X6_accept_37 1) 0 0 S) 0 (f_X6_accept (xs (z + 1).toNatClampNeg) 1 (S 0)).2 else S), (M, (if e_X6_accept (xs (z + 1).toNatClampNeg) 1 (S 0) = none then vp_updL o.1 0 (f_X6_accept (xs (z + 1).toNatClampNeg) 1 (S 0)).1.toInt64 else o.1, o.2))) H locs := hw.eqv (by rw [show (xB S 0 (S 0) (M, o) : wSt) = (S, (M, o)) by rw [xB, va_up_id]]; exact wst_l)
    have hsim := sm_accept hV ht5 (xs (z + 1).toNatClampNeg) 1 (Or.inr rfl)
    have hV1 : sm_V (if e_X6_accept (xs (z + 1).toNatClampNeg) 1 (S 0) = none then va_up (f_X2_keep 17 (xs (z + 1).toNatClampNeg) (j_X6_accept_37 1) 0 0 S) 0 (f_X6_accept (xs (z + 1).toNatClampNeg) 1 (S 0)).2 else S) (f_X7_accept (xs (z + 1).toNatClampNeg) 1 M).2 (t + 1) := hsim.2.2
    generalize hS1 : (if e_X6_accept (xs (z + 1).toNatClampNeg) 1 (S 0) = none then va_up (f_X2_keep 17 (xs (z + 1).toNatClampNeg) (j_X6_accept_37 1) 0 0 S) 0 (f_X6_accept (xs (z + 1).toNatClampNeg) 1 (S 0)).2 else S) = S1 at hw hV1
    generalize ho1 : ((if e_X6_accept (xs (z + 1).toNatClampNeg) 1 (S 0) = none then vp_updL o.1 0 (f_X6_accept (xs (z + 1).toNatClampNeg) 1 (S 0)).1.toInt64 else o.1, o.2) : (Nat → Int64) × (Nat → UInt64)) = o1 at hw
    refine lv_istore (lv' := [(6, .int (kE (e_X6_accept (xs (z + 1).toNatClampNeg) 1 (S 0)) ["java/lang/IndexOutOfBoundsException", "java/lang/UnsupportedOperationException"])), (5, .int z), (4, .ref (gA g 170)), (3, .ref (gA g 169)), (2, .ref (gA g (jM 0))), (1, .ref (gA g 0)), (0, .ref b)]) hx hb dL_law_1777 hl (by decide) rfl (fun ls hl => ?_)
    refine lv_aload_n hx hb dL_law_1779 rfl (lv_at hl 4 rfl) ?_
    refine lv_aload_n hx hb dL_law_1780 rfl (lv_at hl 6 rfl) ?_
    refine lv_iload hx hb dL_law_1781 (lv_at hl 1 rfl) ?_
    refine lv_iconst (v := 1) hx hb dL_law_1783 (by decide) ?_
    refine lv_iadd hx hb dL_law_1784 ?_
    refine va_sld hx hb hX hbl hbA hw.2 (sm_scr (j := 1) hz hlt hL (by decide)) dL_law_1785 ?_
    refine lv_aload_n hx hb dL_law_1786 rfl (lv_at hl 6 rfl) ?_
    refine lv_iload hx hb dL_law_1787 (lv_at hl 1 rfl) ?_
    refine lv_iconst (v := 2) hx hb dL_law_1789 (by decide) ?_
    refine lv_iadd hx hb dL_law_1790 ?_
    refine va_sld hx hb hX hbl hbA hw.2 (sm_scr (j := 2) hz hlt hL (by decide)) dL_law_1791 ?_
    refine lv_if_eq (tgt := 1799) hx hb dL_law_1792 (by decide) (fun h9 => absurd h9 hq2) (fun _ => ?_)
    refine lv_iconst (v := 1) hx hb dL_law_1795 (by decide) ?_
    refine lv_goto (tgt := 1800) hx hb dL_law_1796 (by decide) ?_
    refine kc_i hw (va_runV (As := [.int (xs (z + 1).toNatClampNeg), .int 1]) (rest := []) ⟨hx, hb, hml, hc.2.2.1, hc.2.2.2⟩ (m_X7_accept l g S1 M o1 (xs (z + 1).toNatClampNeg) 1 _ _ hMN) (kw_V hc 2 q1286 q1287 q1288 q8 q1289 rfl rfl (by decide +kernel) ⟨Nat.le_of_ble_eq_true rfl, Nat.le_of_ble_eq_true rfl⟩) (kp_V hk hw at_M rfl) rfl rfl hl.1 rfl (lv_room (Nat.le_of_ble_eq_true rfl)) dL_law_1800 ⟨by show cells + 3 + 0 ≤ 603072; omega, by show slots + 18 + 0 ≤ 7190634; omega⟩) (fun H locs hw => ?_)
    refine lv_istore (lv' := [(7, .int (f_X7_accept (xs (z + 1).toNatClampNeg) 1 M).1), (6, .int (kE (e_X6_accept (xs (z + 1).toNatClampNeg) 1 (S 0)) ["java/lang/IndexOutOfBoundsException", "java/lang/UnsupportedOperationException"])), (5, .int z), (4, .ref (gA g 170)), (3, .ref (gA g 169)), (2, .ref (gA g (jM 0))), (1, .ref (gA g 0)), (0, .ref b)]) hx hb dL_law_1803 hl (by decide) rfl (fun ls hl => ?_)
    refine lv_aload_n hx hb dL_law_1805 rfl (lv_at hl 5 rfl) ?_
    refine kc_i hw (va_runV (As := []) (rest := []) ⟨hx, hb, hml, hc.2.2.1, hc.2.2.2⟩ (m_X7_thrown l g S1 (f_X7_accept (xs (z + 1).toNatClampNeg) 1 M).2 o1) (kw_V hc 0 q1125 q1126 q1127 q8 q1128 rfl rfl (by decide +kernel) ⟨Nat.le_of_ble_eq_true rfl, Nat.le_of_ble_eq_true rfl⟩) (kp_V hk hw at_M rfl) rfl rfl hl.1 rfl (lv_room (Nat.le_of_ble_eq_true rfl)) dL_law_1806 ⟨by show cells + 3 + 0 ≤ 603072; omega, by show slots + 18 + 0 ≤ 7190634; omega⟩) (fun H locs hw => ?_)
    refine lv_iload hx hb dL_law_1809 (lv_at hl 1 rfl) ?_
    refine lv_icmp_eq (tgt := 1816) hx hb dL_law_1811 (by decide) (fun _ => ?_) (fun h9 => absurd hsim.1 h9)
    refine lv_iload hx hb dL_law_1816 (lv_at hl 1 rfl) ?_
    refine lv_if_ne (tgt := 1833) hx hb dL_law_1818 (by decide) (fun _ => ?_) (fun h9 => ?_)
    · refine lv_goto (tgt := 2293) hx hb dL_law_1833 (by decide) ?_
      refine W.widen (k := cells + 5) (n := slots + 30) (by omega) (by omega) ?_
      exact kk _ _ _ _ _ _ hV1 hw (lv_sub hl [2, 3, 4, 5, 6, 7] rfl)
    · have he0 := kE_none (by decide) (h9)
      refine lv_aload_n hx hb dL_law_1821 rfl (lv_at hl 4 rfl) ?_
      refine lv_iconst (v := 0) hx hb dL_law_1822 (by decide) ?_
      refine k_lald hc hk hw dL_law_1823 ?_
      refine vn_l (v9 := (f_X6_accept (xs (z + 1).toNatClampNeg) 1 (S 0)).1.toInt64) (by rw [← ho1, if_pos he0]; exact lw_uL o.1 0 _) ?_
      refine lv_iload hx hb dL_law_1824 (lv_at hl 0 rfl) ?_
      refine lv_i2l hx hb dL_law_1826 rfl ?_
      refine W.lcmp hx hb dL_law_1827 ?_
      refine lv_if_eq (tgt := 1833) hx hb dL_law_1828 (by decide) (fun _ => ?_) (fun h9 => absurd (by rw [show (f_X6_accept (xs (z + 1).toNatClampNeg) 1 (S 0)).1.toInt64 = ((f_X7_accept (xs (z + 1).toNatClampNeg) 1 M).1.toInt64) from congrArg Int32.toInt64 (hsim.2.1 he0).symm]; exact lw_self _) h9)
      refine lv_goto (tgt := 2293) hx hb dL_law_1833 (by decide) ?_
      refine W.widen (k := cells + 5) (n := slots + 30) (by omega) (by omega) ?_
      exact kk _ _ _ _ _ _ hV1 hw (lv_sub hl [2, 3, 4, 5, 6, 7] rfl)
set_option maxHeartbeats 4000000 in
set_option maxRecDepth 100000 in
theorem lc_27 {p : Program} {l : Launch} {e : Env} {s : State} {m : MethodId} {below : List Frame} {meth : Method} {c : Code} {b Ls : Nat} {xs : Nat → Int32} {g : wG} {Q : State → Prop} {S : Nat → BT} {M : BT} {o : (Nat → Int64) × (Nat → UInt64)} {t cells slots : Nat} {z : Int32} {H : Heap} {locs : List Loc} {ls : Array Slot}
    (C9 : LC p l s m c b Ls xs g) (hz : z = nI (5 * t)) (hlt : 5 * t + 5 ≤ Ls) (hL : Ls ≤ 2560) (hV : sm_V S M t) (hcs : cells + 5 ≤ 603072) (hss : slots + 30 ≤ 7190634) (hw : WS g s (S, (M, o)) H locs) (hl : lv_has ls 9 (lw_lv g b z))
    (kk : LK p l e s m below meth c b g z (t + 1) (cells + 5) (slots + 30) Q) : W p l e room_1 s m #[Value.ref b] below meth c H locs cells slots Q (F0 m 1836 ls []) := by
  obtain ⟨hc, hml, hk, hX, hbl, hbA, hfl⟩ := C9
  have hx := hc.1
  have hb := hc.2.1
  have ht5 : t < 512 := by omega
  obtain ⟨n9, m9, n8, m8, hN, hN1, hMN, hev, hev2⟩ := hV.c
  refine lv_aload_n hx hb dL_law_1836 rfl (lv_at hl 4 rfl) ?_
  refine lv_aload_n hx hb dL_law_1837 rfl (lv_at hl 5 rfl) ?_
  refine lv_iload hx hb dL_law_1838 (lv_at hl 0 rfl) ?_
  refine lv_iconst (v := 1) hx hb dL_law_1840 (by decide) ?_
  refine lv_iadd hx hb dL_law_1841 ?_
  refine va_sld hx hb hX hbl hbA hw.2 (sm_scr (j := 1) hz hlt hL (by decide)) dL_law_1842 ?_
  refine lv_aload_n hx hb dL_law_1843 rfl (lv_at hl 2 rfl) ?_
  have hw0 : WS g s (xB S 0 (S 0) (M, o)) H locs := hw.eqv (by rw [xB, va_up_id])
  refine kc_i hw0 (vx_runSW (hh := [(0, 16, 19, 25), (0, 16, 22, 76)]) (As := [.ref (gA g 0), .int (xs (z + 1).toNatClampNeg), .ref (gA g 169)]) (rest := []) ⟨hx, hb, hml, hc.2.2.1, hc.2.2.2⟩ (m_L_isAccepted l g hfl S (S 0) (M, o) (xs (z + 1).toNatClampNeg) _ _ hN hev (sm_acz hV (xs (z + 1).toNatClampNeg))) (kw_SW hc 3 q948 q949 q0 q950 rfl rfl (by decide +kernel) ⟨Nat.le_of_ble_eq_true rfl, Nat.le_of_ble_eq_true rfl⟩) (kp_S hk hw0) rfl rfl hl.1 rfl (lv_room (Nat.le_of_ble_eq_true rfl)) dL_law_1844 ⟨by show cells + 2 ≤ 603072; omega, by show slots + 12 ≤ 7190634; omega⟩) (fun H locs hw => ?_)
  have hw : WS g s ((if e_X6_isAccepted (xs (z + 1).toNatClampNeg) (S 0) = none then S else S), (M, (if e_X6_isAccepted (xs (z + 1).toNatClampNeg) (S 0) = none then vp_updL o.1 0 (if (f_X6_isAccepted (xs (z + 1).toNatClampNeg) (S 0)) = 0 then 0 else 1) else o.1, o.2))) H locs := hw.eqv (by rw [show (xB S 0 (S 0) (M, o) : wSt) = (S, (M, o)) by rw [xB, va_up_id]]; simp only [xB, va_up_id]; exact wst_l)
  have hsim := sm_isAccepted hV (xs (z + 1).toNatClampNeg)
  have hV1 : sm_V (if e_X6_isAccepted (xs (z + 1).toNatClampNeg) (S 0) = none then S else S) (f_X7_isAccepted (xs (z + 1).toNatClampNeg) M).2 (t + 1) := hsim.2.2
  generalize hS1 : (if e_X6_isAccepted (xs (z + 1).toNatClampNeg) (S 0) = none then S else S) = S1 at hw hV1
  generalize ho1 : ((if e_X6_isAccepted (xs (z + 1).toNatClampNeg) (S 0) = none then vp_updL o.1 0 (if (f_X6_isAccepted (xs (z + 1).toNatClampNeg) (S 0)) = 0 then 0 else 1) else o.1, o.2) : (Nat → Int64) × (Nat → UInt64)) = o1 at hw
  refine lv_istore (lv' := [(6, .int (kE (e_X6_isAccepted (xs (z + 1).toNatClampNeg) (S 0)) ["java/lang/IndexOutOfBoundsException", "java/util/NoSuchElementException"])), (5, .int z), (4, .ref (gA g 170)), (3, .ref (gA g 169)), (2, .ref (gA g (jM 0))), (1, .ref (gA g 0)), (0, .ref b)]) hx hb dL_law_1847 hl (by decide) rfl (fun ls hl => ?_)
  refine lv_aload_n hx hb dL_law_1849 rfl (lv_at hl 4 rfl) ?_
  refine lv_aload_n hx hb dL_law_1850 rfl (lv_at hl 6 rfl) ?_
  refine lv_iload hx hb dL_law_1851 (lv_at hl 1 rfl) ?_
  refine lv_iconst (v := 1) hx hb dL_law_1853 (by decide) ?_
  refine lv_iadd hx hb dL_law_1854 ?_
  refine va_sld hx hb hX hbl hbA hw.2 (sm_scr (j := 1) hz hlt hL (by decide)) dL_law_1855 ?_
  refine kc_i hw (va_runV (As := [.int (xs (z + 1).toNatClampNeg)]) (rest := []) ⟨hx, hb, hml, hc.2.2.1, hc.2.2.2⟩ (m_X7_isAccepted l g S1 M o1 (xs (z + 1).toNatClampNeg) _ _ hMN) (kw_V hc 1 q1290 q1291 q1292 q8 q1293 rfl rfl (by decide +kernel) ⟨Nat.le_of_ble_eq_true rfl, Nat.le_of_ble_eq_true rfl⟩) (kp_V hk hw at_M rfl) rfl rfl hl.1 rfl (lv_room (Nat.le_of_ble_eq_true rfl)) dL_law_1856 ⟨by show cells + 2 + 0 ≤ 603072; omega, by show slots + 12 + 0 ≤ 7190634; omega⟩) (fun H locs hw => ?_)
  refine lv_istore (lv' := [(7, .int (f_X7_isAccepted (xs (z + 1).toNatClampNeg) M).1), (6, .int (kE (e_X6_isAccepted (xs (z + 1).toNatClampNeg) (S 0)) ["java/lang/IndexOutOfBoundsException", "java/util/NoSuchElementException"])), (5, .int z), (4, .ref (gA g 170)), (3, .ref (gA g 169)), (2, .ref (gA g (jM 0))), (1, .ref (gA g 0)), (0, .ref b)]) hx hb dL_law_1859 hl (by decide) rfl (fun ls hl => ?_)
  refine lv_aload_n hx hb dL_law_1861 rfl (lv_at hl 5 rfl) ?_
  refine kc_i hw (va_runV (As := []) (rest := []) ⟨hx, hb, hml, hc.2.2.1, hc.2.2.2⟩ (m_X7_thrown l g S1 (f_X7_isAccepted (xs (z + 1).toNatClampNeg) M).2 o1) (kw_V hc 0 q1125 q1126 q1127 q8 q1128 rfl rfl (by decide +kernel) ⟨Nat.le_of_ble_eq_true rfl, Nat.le_of_ble_eq_true rfl⟩) (kp_V hk hw at_M rfl) rfl rfl hl.1 rfl (lv_room (Nat.le_of_ble_eq_true rfl)) dL_law_1862 ⟨by show cells + 2 + 0 ≤ 603072; omega, by show slots + 12 + 0 ≤ 7190634; omega⟩) (fun H locs hw => ?_)
  refine lv_iload hx hb dL_law_1865 (lv_at hl 1 rfl) ?_
  refine lv_icmp_eq (tgt := 1872) hx hb dL_law_1867 (by decide) (fun _ => ?_) (fun h9 => absurd hsim.1 h9)
  refine lv_iload hx hb dL_law_1872 (lv_at hl 1 rfl) ?_
  refine lv_if_ne (tgt := 1896) hx hb dL_law_1874 (by decide) (fun _ => ?_) (fun h9 => ?_)
  · refine lv_goto (tgt := 2293) hx hb dL_law_1896 (by decide) ?_
    refine W.widen (k := cells + 5) (n := slots + 30) (by omega) (by omega) ?_
    exact kk _ _ _ _ _ _ hV1 hw (lv_sub hl [2, 3, 4, 5, 6, 7] rfl)
  · have he0 := kE_none (by decide) (h9)
    refine lv_aload_n hx hb dL_law_1877 rfl (lv_at hl 4 rfl) ?_
    refine lv_iconst (v := 0) hx hb dL_law_1878 (by decide) ?_
    refine k_lald hc hk hw dL_law_1879 ?_
    refine vn_l (v9 := (if (f_X6_isAccepted (xs (z + 1).toNatClampNeg) (S 0)) = 0 then 0 else 1)) (by rw [← ho1, if_pos he0]; exact lw_uL o.1 0 _) ?_
    refine lv_iload hx hb dL_law_1880 (lv_at hl 0 rfl) ?_
    refine lv_if_eq (tgt := 1889) hx hb dL_law_1882 (by decide) (fun h7 => ?_) (fun h7 => ?_)
    · refine lv_lconst (v := 0) hx hb dL_law_1889 (by decide) ?_
      refine W.lcmp hx hb dL_law_1890 ?_
      refine lv_if_eq (tgt := 1896) hx hb dL_law_1891 (by decide) (fun _ => ?_) (fun h9 => absurd (by rw [show (if (f_X6_isAccepted (xs (z + 1).toNatClampNeg) (S 0)) = 0 then 0 else 1) = (0 : Int64) from (if_pos ((hsim.2.1 he0).symm.trans h7))]; exact lw_self _) h9)
      refine lv_goto (tgt := 2293) hx hb dL_law_1896 (by decide) ?_
      refine W.widen (k := cells + 5) (n := slots + 30) (by omega) (by omega) ?_
      exact kk _ _ _ _ _ _ hV1 hw (lv_sub hl [2, 3, 4, 5, 6, 7] rfl)
    · refine lv_lconst (v := 1) hx hb dL_law_1885 (by decide) ?_
      refine lv_goto (tgt := 1890) hx hb dL_law_1886 (by decide) ?_
      refine W.lcmp hx hb dL_law_1890 ?_
      refine lv_if_eq (tgt := 1896) hx hb dL_law_1891 (by decide) (fun _ => ?_) (fun h9 => absurd (by rw [show (if (f_X6_isAccepted (xs (z + 1).toNatClampNeg) (S 0)) = 0 then 0 else 1) = (1 : Int64) from (if_neg (fun w => h7 ((hsim.2.1 he0).trans w)))]; exact lw_self _) h9)
      refine lv_goto (tgt := 2293) hx hb dL_law_1896 (by decide) ?_
      refine W.widen (k := cells + 5) (n := slots + 30) (by omega) (by omega) ?_
      exact kk _ _ _ _ _ _ hV1 hw (lv_sub hl [2, 3, 4, 5, 6, 7] rfl)
set_option maxHeartbeats 4000000 in
set_option maxRecDepth 100000 in
theorem lc_28 {p : Program} {l : Launch} {e : Env} {s : State} {m : MethodId} {below : List Frame} {meth : Method} {c : Code} {b Ls : Nat} {xs : Nat → Int32} {g : wG} {Q : State → Prop} {S : Nat → BT} {M : BT} {o : (Nat → Int64) × (Nat → UInt64)} {t cells slots : Nat} {z : Int32} {H : Heap} {locs : List Loc} {ls : Array Slot}
    (C9 : LC p l s m c b Ls xs g) (hz : z = nI (5 * t)) (hlt : 5 * t + 5 ≤ Ls) (hL : Ls ≤ 2560) (hV : sm_V S M t) (hcs : cells + 5 ≤ 603072) (hss : slots + 30 ≤ 7190634) (hw : WS g s (S, (M, o)) H locs) (hl : lv_has ls 9 (lw_lv g b z))
    (kk : LK p l e s m below meth c b g z (t + 1) (cells + 5) (slots + 30) Q) : W p l e room_1 s m #[Value.ref b] below meth c H locs cells slots Q (F0 m 1899 ls []) := by
  obtain ⟨hc, hml, hk, hX, hbl, hbA, hfl⟩ := C9
  have hx := hc.1
  have hb := hc.2.1
  have ht5 : t < 512 := by omega
  obtain ⟨n9, m9, n8, m8, hN, hN1, hMN, hev, hev2⟩ := hV.c
  refine lv_aload_n hx hb dL_law_1899 rfl (lv_at hl 4 rfl) ?_
  refine lv_aload_n hx hb dL_law_1900 rfl (lv_at hl 5 rfl) ?_
  refine lv_iload hx hb dL_law_1901 (lv_at hl 0 rfl) ?_
  refine lv_iconst (v := 1) hx hb dL_law_1903 (by decide) ?_
  refine lv_iadd hx hb dL_law_1904 ?_
  refine va_sld hx hb hX hbl hbA hw.2 (sm_scr (j := 1) hz hlt hL (by decide)) dL_law_1905 ?_
  refine lv_aload_n hx hb dL_law_1906 rfl (lv_at hl 2 rfl) ?_
  have hw0 : WS g s (xB S 0 (S 0) (M, o)) H locs := hw.eqv (by rw [xB, va_up_id])
  refine kc_i hw0 (vx_runSW (hh := [(0, 9, 12, 25), (0, 9, 15, 31)]) (As := [.ref (gA g 0), .int (xs (z + 1).toNatClampNeg), .ref (gA g 169)]) (rest := []) ⟨hx, hb, hml, hc.2.2.1, hc.2.2.2⟩ (m_L_heed l g hfl S (S 0) (M, o) (xs (z + 1).toNatClampNeg) _ _ hN hev) (kw_SW hc 3 q956 q957 q0 q958 rfl rfl (by decide +kernel) ⟨Nat.le_of_ble_eq_true rfl, Nat.le_of_ble_eq_true rfl⟩) (kp_S hk hw0) rfl rfl hl.1 rfl (lv_room (Nat.le_of_ble_eq_true rfl)) dL_law_1907 ⟨by show cells + 3 ≤ 603072; omega, by show slots + 18 ≤ 7190634; omega⟩) (fun H locs hw => ?_)
  have hw : WS g s ((if e_X6_heed (xs (z + 1).toNatClampNeg) (S 0) = none then va_up (f_X2_keep 18 (xs (z + 1).toNatClampNeg) 0 0 0 S) 0 (f_X6_heed (xs (z + 1).toNatClampNeg) (S 0)).2 else S), (M, (if e_X6_heed (xs (z + 1).toNatClampNeg) (S 0) = none then vp_updL o.1 0 (f_X6_heed (xs (z + 1).toNatClampNeg) (S 0)).1.toInt64 else o.1, o.2))) H locs := hw.eqv (by rw [show (xB S 0 (S 0) (M, o) : wSt) = (S, (M, o)) by rw [xB, va_up_id]]; exact wst_l)
  have hsim := sm_heed hV ht5 (xs (z + 1).toNatClampNeg)
  have hV1 : sm_V (if e_X6_heed (xs (z + 1).toNatClampNeg) (S 0) = none then va_up (f_X2_keep 18 (xs (z + 1).toNatClampNeg) 0 0 0 S) 0 (f_X6_heed (xs (z + 1).toNatClampNeg) (S 0)).2 else S) (f_X7_heed (xs (z + 1).toNatClampNeg) M).2 (t + 1) := hsim.2.2
  generalize hS1 : (if e_X6_heed (xs (z + 1).toNatClampNeg) (S 0) = none then va_up (f_X2_keep 18 (xs (z + 1).toNatClampNeg) 0 0 0 S) 0 (f_X6_heed (xs (z + 1).toNatClampNeg) (S 0)).2 else S) = S1 at hw hV1
  generalize ho1 : ((if e_X6_heed (xs (z + 1).toNatClampNeg) (S 0) = none then vp_updL o.1 0 (f_X6_heed (xs (z + 1).toNatClampNeg) (S 0)).1.toInt64 else o.1, o.2) : (Nat → Int64) × (Nat → UInt64)) = o1 at hw
  refine lv_istore (lv' := [(6, .int (kE (e_X6_heed (xs (z + 1).toNatClampNeg) (S 0)) ["java/lang/IndexOutOfBoundsException", "java/lang/UnsupportedOperationException"])), (5, .int z), (4, .ref (gA g 170)), (3, .ref (gA g 169)), (2, .ref (gA g (jM 0))), (1, .ref (gA g 0)), (0, .ref b)]) hx hb dL_law_1910 hl (by decide) rfl (fun ls hl => ?_)
  refine lv_aload_n hx hb dL_law_1912 rfl (lv_at hl 4 rfl) ?_
  refine lv_aload_n hx hb dL_law_1913 rfl (lv_at hl 6 rfl) ?_
  refine lv_iload hx hb dL_law_1914 (lv_at hl 1 rfl) ?_
  refine lv_iconst (v := 1) hx hb dL_law_1916 (by decide) ?_
  refine lv_iadd hx hb dL_law_1917 ?_
  refine va_sld hx hb hX hbl hbA hw.2 (sm_scr (j := 1) hz hlt hL (by decide)) dL_law_1918 ?_
  refine kc_i hw (va_runV (As := [.int (xs (z + 1).toNatClampNeg)]) (rest := []) ⟨hx, hb, hml, hc.2.2.1, hc.2.2.2⟩ (m_X7_heed l g S1 M o1 (xs (z + 1).toNatClampNeg) _ _ hMN) (kw_V hc 1 q1294 q1295 q1296 q8 q1297 rfl rfl (by decide +kernel) ⟨Nat.le_of_ble_eq_true rfl, Nat.le_of_ble_eq_true rfl⟩) (kp_V hk hw at_M rfl) rfl rfl hl.1 rfl (lv_room (Nat.le_of_ble_eq_true rfl)) dL_law_1919 ⟨by show cells + 3 + 0 ≤ 603072; omega, by show slots + 18 + 0 ≤ 7190634; omega⟩) (fun H locs hw => ?_)
  refine lv_istore (lv' := [(7, .int (f_X7_heed (xs (z + 1).toNatClampNeg) M).1), (6, .int (kE (e_X6_heed (xs (z + 1).toNatClampNeg) (S 0)) ["java/lang/IndexOutOfBoundsException", "java/lang/UnsupportedOperationException"])), (5, .int z), (4, .ref (gA g 170)), (3, .ref (gA g 169)), (2, .ref (gA g (jM 0))), (1, .ref (gA g 0)), (0, .ref b)]) hx hb dL_law_1922 hl (by decide) rfl (fun ls hl => ?_)
  refine lv_aload_n hx hb dL_law_1924 rfl (lv_at hl 5 rfl) ?_
  refine kc_i hw (va_runV (As := []) (rest := []) ⟨hx, hb, hml, hc.2.2.1, hc.2.2.2⟩ (m_X7_thrown l g S1 (f_X7_heed (xs (z + 1).toNatClampNeg) M).2 o1) (kw_V hc 0 q1125 q1126 q1127 q8 q1128 rfl rfl (by decide +kernel) ⟨Nat.le_of_ble_eq_true rfl, Nat.le_of_ble_eq_true rfl⟩) (kp_V hk hw at_M rfl) rfl rfl hl.1 rfl (lv_room (Nat.le_of_ble_eq_true rfl)) dL_law_1925 ⟨by show cells + 3 + 0 ≤ 603072; omega, by show slots + 18 + 0 ≤ 7190634; omega⟩) (fun H locs hw => ?_)
  refine lv_iload hx hb dL_law_1928 (lv_at hl 1 rfl) ?_
  refine lv_icmp_eq (tgt := 1935) hx hb dL_law_1930 (by decide) (fun _ => ?_) (fun h9 => absurd hsim.1 h9)
  refine lv_iload hx hb dL_law_1935 (lv_at hl 1 rfl) ?_
  refine lv_if_ne (tgt := 1952) hx hb dL_law_1937 (by decide) (fun _ => ?_) (fun h9 => ?_)
  · refine lv_goto (tgt := 2293) hx hb dL_law_1952 (by decide) ?_
    refine W.widen (k := cells + 5) (n := slots + 30) (by omega) (by omega) ?_
    exact kk _ _ _ _ _ _ hV1 hw (lv_sub hl [2, 3, 4, 5, 6, 7] rfl)
  · have he0 := kE_none (by decide) (h9)
    refine lv_aload_n hx hb dL_law_1940 rfl (lv_at hl 4 rfl) ?_
    refine lv_iconst (v := 0) hx hb dL_law_1941 (by decide) ?_
    refine k_lald hc hk hw dL_law_1942 ?_
    refine vn_l (v9 := (f_X6_heed (xs (z + 1).toNatClampNeg) (S 0)).1.toInt64) (by rw [← ho1, if_pos he0]; exact lw_uL o.1 0 _) ?_
    refine lv_iload hx hb dL_law_1943 (lv_at hl 0 rfl) ?_
    refine lv_i2l hx hb dL_law_1945 rfl ?_
    refine W.lcmp hx hb dL_law_1946 ?_
    refine lv_if_eq (tgt := 1952) hx hb dL_law_1947 (by decide) (fun _ => ?_) (fun h9 => absurd (by rw [show (f_X6_heed (xs (z + 1).toNatClampNeg) (S 0)).1.toInt64 = ((f_X7_heed (xs (z + 1).toNatClampNeg) M).1.toInt64) from congrArg Int32.toInt64 (hsim.2.1 he0).symm]; exact lw_self _) h9)
    refine lv_goto (tgt := 2293) hx hb dL_law_1952 (by decide) ?_
    refine W.widen (k := cells + 5) (n := slots + 30) (by omega) (by omega) ?_
    exact kk _ _ _ _ _ _ hV1 hw (lv_sub hl [2, 3, 4, 5, 6, 7] rfl)
set_option maxHeartbeats 4000000 in
set_option maxRecDepth 100000 in
theorem lc_29 {p : Program} {l : Launch} {e : Env} {s : State} {m : MethodId} {below : List Frame} {meth : Method} {c : Code} {b Ls : Nat} {xs : Nat → Int32} {g : wG} {Q : State → Prop} {S : Nat → BT} {M : BT} {o : (Nat → Int64) × (Nat → UInt64)} {t cells slots : Nat} {z : Int32} {H : Heap} {locs : List Loc} {ls : Array Slot}
    (C9 : LC p l s m c b Ls xs g) (hz : z = nI (5 * t)) (hlt : 5 * t + 5 ≤ Ls) (hL : Ls ≤ 2560) (hV : sm_V S M t) (hcs : cells + 5 ≤ 603072) (hss : slots + 30 ≤ 7190634) (hw : WS g s (S, (M, o)) H locs) (hl : lv_has ls 9 (lw_lv g b z))
    (kk : LK p l e s m below meth c b g z (t + 1) (cells + 5) (slots + 30) Q) : W p l e room_1 s m #[Value.ref b] below meth c H locs cells slots Q (F0 m 1955 ls []) := by
  obtain ⟨hc, hml, hk, hX, hbl, hbA, hfl⟩ := C9
  have hx := hc.1
  have hb := hc.2.1
  have ht5 : t < 512 := by omega
  obtain ⟨n9, m9, n8, m8, hN, hN1, hMN, hev, hev2⟩ := hV.c
  refine lv_aload_n hx hb dL_law_1955 rfl (lv_at hl 4 rfl) ?_
  refine lv_aload_n hx hb dL_law_1956 rfl (lv_at hl 5 rfl) ?_
  refine lv_iload hx hb dL_law_1957 (lv_at hl 0 rfl) ?_
  refine lv_iconst (v := 1) hx hb dL_law_1959 (by decide) ?_
  refine lv_iadd hx hb dL_law_1960 ?_
  refine va_sld hx hb hX hbl hbA hw.2 (sm_scr (j := 1) hz hlt hL (by decide)) dL_law_1961 ?_
  refine lv_aload_n hx hb dL_law_1962 rfl (lv_at hl 2 rfl) ?_
  have hw0 : WS g s (xB S 0 (S 0) (M, o)) H locs := hw.eqv (by rw [xB, va_up_id])
  refine kc_i hw0 (vx_runSW (hh := [(0, 9, 12, 25), (0, 9, 15, 31)]) (As := [.ref (gA g 0), .int (xs (z + 1).toNatClampNeg), .ref (gA g 169)]) (rest := []) ⟨hx, hb, hml, hc.2.2.1, hc.2.2.2⟩ (m_L_followUp l g hfl S (S 0) (M, o) (xs (z + 1).toNatClampNeg) _ _ hN hev) (kw_SW hc 3 q964 q965 q0 q966 rfl rfl (by decide +kernel) ⟨Nat.le_of_ble_eq_true rfl, Nat.le_of_ble_eq_true rfl⟩) (kp_S hk hw0) rfl rfl hl.1 rfl (lv_room (Nat.le_of_ble_eq_true rfl)) dL_law_1963 ⟨by show cells + 3 ≤ 603072; omega, by show slots + 18 ≤ 7190634; omega⟩) (fun H locs hw => ?_)
  have hw : WS g s ((if e_X6_followUp (xs (z + 1).toNatClampNeg) (S 0) = none then va_up (f_X2_keep 19 (xs (z + 1).toNatClampNeg) 0 0 0 S) 0 (f_X6_followUp (xs (z + 1).toNatClampNeg) (S 0)).2 else S), (M, (if e_X6_followUp (xs (z + 1).toNatClampNeg) (S 0) = none then vp_updL o.1 0 (f_X6_followUp (xs (z + 1).toNatClampNeg) (S 0)).1.toInt64 else o.1, o.2))) H locs := hw.eqv (by rw [show (xB S 0 (S 0) (M, o) : wSt) = (S, (M, o)) by rw [xB, va_up_id]]; exact wst_l)
  have hsim := sm_followUp hV ht5 (xs (z + 1).toNatClampNeg)
  have hV1 : sm_V (if e_X6_followUp (xs (z + 1).toNatClampNeg) (S 0) = none then va_up (f_X2_keep 19 (xs (z + 1).toNatClampNeg) 0 0 0 S) 0 (f_X6_followUp (xs (z + 1).toNatClampNeg) (S 0)).2 else S) (f_X7_followUp (xs (z + 1).toNatClampNeg) M).2 (t + 1) := hsim.2.2
  generalize hS1 : (if e_X6_followUp (xs (z + 1).toNatClampNeg) (S 0) = none then va_up (f_X2_keep 19 (xs (z + 1).toNatClampNeg) 0 0 0 S) 0 (f_X6_followUp (xs (z + 1).toNatClampNeg) (S 0)).2 else S) = S1 at hw hV1
  generalize ho1 : ((if e_X6_followUp (xs (z + 1).toNatClampNeg) (S 0) = none then vp_updL o.1 0 (f_X6_followUp (xs (z + 1).toNatClampNeg) (S 0)).1.toInt64 else o.1, o.2) : (Nat → Int64) × (Nat → UInt64)) = o1 at hw
  refine lv_istore (lv' := [(6, .int (kE (e_X6_followUp (xs (z + 1).toNatClampNeg) (S 0)) ["java/lang/IndexOutOfBoundsException", "java/lang/UnsupportedOperationException"])), (5, .int z), (4, .ref (gA g 170)), (3, .ref (gA g 169)), (2, .ref (gA g (jM 0))), (1, .ref (gA g 0)), (0, .ref b)]) hx hb dL_law_1966 hl (by decide) rfl (fun ls hl => ?_)
  refine lv_aload_n hx hb dL_law_1968 rfl (lv_at hl 4 rfl) ?_
  refine lv_aload_n hx hb dL_law_1969 rfl (lv_at hl 6 rfl) ?_
  refine lv_iload hx hb dL_law_1970 (lv_at hl 1 rfl) ?_
  refine lv_iconst (v := 1) hx hb dL_law_1972 (by decide) ?_
  refine lv_iadd hx hb dL_law_1973 ?_
  refine va_sld hx hb hX hbl hbA hw.2 (sm_scr (j := 1) hz hlt hL (by decide)) dL_law_1974 ?_
  refine kc_i hw (va_runV (As := [.int (xs (z + 1).toNatClampNeg)]) (rest := []) ⟨hx, hb, hml, hc.2.2.1, hc.2.2.2⟩ (m_X7_followUp l g S1 M o1 (xs (z + 1).toNatClampNeg) _ _ hMN) (kw_V hc 1 q1298 q1299 q1300 q8 q1301 rfl rfl (by decide +kernel) ⟨Nat.le_of_ble_eq_true rfl, Nat.le_of_ble_eq_true rfl⟩) (kp_V hk hw at_M rfl) rfl rfl hl.1 rfl (lv_room (Nat.le_of_ble_eq_true rfl)) dL_law_1975 ⟨by show cells + 3 + 0 ≤ 603072; omega, by show slots + 18 + 0 ≤ 7190634; omega⟩) (fun H locs hw => ?_)
  refine lv_istore (lv' := [(7, .int (f_X7_followUp (xs (z + 1).toNatClampNeg) M).1), (6, .int (kE (e_X6_followUp (xs (z + 1).toNatClampNeg) (S 0)) ["java/lang/IndexOutOfBoundsException", "java/lang/UnsupportedOperationException"])), (5, .int z), (4, .ref (gA g 170)), (3, .ref (gA g 169)), (2, .ref (gA g (jM 0))), (1, .ref (gA g 0)), (0, .ref b)]) hx hb dL_law_1978 hl (by decide) rfl (fun ls hl => ?_)
  refine lv_aload_n hx hb dL_law_1980 rfl (lv_at hl 5 rfl) ?_
  refine kc_i hw (va_runV (As := []) (rest := []) ⟨hx, hb, hml, hc.2.2.1, hc.2.2.2⟩ (m_X7_thrown l g S1 (f_X7_followUp (xs (z + 1).toNatClampNeg) M).2 o1) (kw_V hc 0 q1125 q1126 q1127 q8 q1128 rfl rfl (by decide +kernel) ⟨Nat.le_of_ble_eq_true rfl, Nat.le_of_ble_eq_true rfl⟩) (kp_V hk hw at_M rfl) rfl rfl hl.1 rfl (lv_room (Nat.le_of_ble_eq_true rfl)) dL_law_1981 ⟨by show cells + 3 + 0 ≤ 603072; omega, by show slots + 18 + 0 ≤ 7190634; omega⟩) (fun H locs hw => ?_)
  refine lv_iload hx hb dL_law_1984 (lv_at hl 1 rfl) ?_
  refine lv_icmp_eq (tgt := 1991) hx hb dL_law_1986 (by decide) (fun _ => ?_) (fun h9 => absurd hsim.1 h9)
  refine lv_iload hx hb dL_law_1991 (lv_at hl 1 rfl) ?_
  refine lv_if_ne (tgt := 2008) hx hb dL_law_1993 (by decide) (fun _ => ?_) (fun h9 => ?_)
  · refine lv_goto (tgt := 2293) hx hb dL_law_2008 (by decide) ?_
    refine W.widen (k := cells + 5) (n := slots + 30) (by omega) (by omega) ?_
    exact kk _ _ _ _ _ _ hV1 hw (lv_sub hl [2, 3, 4, 5, 6, 7] rfl)
  · have he0 := kE_none (by decide) (h9)
    refine lv_aload_n hx hb dL_law_1996 rfl (lv_at hl 4 rfl) ?_
    refine lv_iconst (v := 0) hx hb dL_law_1997 (by decide) ?_
    refine k_lald hc hk hw dL_law_1998 ?_
    refine vn_l (v9 := (f_X6_followUp (xs (z + 1).toNatClampNeg) (S 0)).1.toInt64) (by rw [← ho1, if_pos he0]; exact lw_uL o.1 0 _) ?_
    refine lv_iload hx hb dL_law_1999 (lv_at hl 0 rfl) ?_
    refine lv_i2l hx hb dL_law_2001 rfl ?_
    refine W.lcmp hx hb dL_law_2002 ?_
    refine lv_if_eq (tgt := 2008) hx hb dL_law_2003 (by decide) (fun _ => ?_) (fun h9 => absurd (by rw [show (f_X6_followUp (xs (z + 1).toNatClampNeg) (S 0)).1.toInt64 = ((f_X7_followUp (xs (z + 1).toNatClampNeg) M).1.toInt64) from congrArg Int32.toInt64 (hsim.2.1 he0).symm]; exact lw_self _) h9)
    refine lv_goto (tgt := 2293) hx hb dL_law_2008 (by decide) ?_
    refine W.widen (k := cells + 5) (n := slots + 30) (by omega) (by omega) ?_
    exact kk _ _ _ _ _ _ hV1 hw (lv_sub hl [2, 3, 4, 5, 6, 7] rfl)
