/-! the law, cases 30 to 35 -/
set_option maxHeartbeats 4000000 in
set_option maxRecDepth 100000 in
theorem lc_30 {p : Program} {l : Launch} {e : Env} {s : State} {m : MethodId} {below : List Frame} {meth : Method} {c : Code} {b Ls : Nat} {xs : Nat → Int32} {g : wG} {Q : State → Prop} {S : Nat → BT} {M : BT} {o : (Nat → Int64) × (Nat → UInt64)} {t cells slots : Nat} {z : Int32} {H : Heap} {locs : List Loc} {ls : Array Slot}
    (C9 : LC p l s m c b Ls xs g) (hz : z = nI (5 * t)) (hlt : 5 * t + 5 ≤ Ls) (hL : Ls ≤ 2560) (hV : sm_V S M t) (hcs : cells + 5 ≤ 603072) (hss : slots + 30 ≤ 7190634) (hw : WS g s (S, (M, o)) H locs) (hl : lv_has ls 9 (lw_lv g b z))
    (kk : LK p l e s m below meth c b g z (t + 1) (cells + 5) (slots + 30) Q) : W p l e room_1 s m #[Value.ref b] below meth c H locs cells slots Q (F0 m 2011 ls []) := by
  obtain ⟨hc, hml, hk, hX, hbl, hbA, hfl⟩ := C9
  have hx := hc.1
  have hb := hc.2.1
  have ht5 : t < 512 := by omega
  obtain ⟨n9, m9, n8, m8, hN, hN1, hMN, hev, hev2⟩ := hV.c
  refine lv_aload_n hx hb dL_law_2011 rfl (lv_at hl 4 rfl) ?_
  refine lv_aload_n hx hb dL_law_2012 rfl (lv_at hl 5 rfl) ?_
  refine lv_iload hx hb dL_law_2013 (lv_at hl 0 rfl) ?_
  refine lv_iconst (v := 1) hx hb dL_law_2015 (by decide) ?_
  refine lv_iadd hx hb dL_law_2016 ?_
  refine va_sld hx hb hX hbl hbA hw.2 (sm_scr (j := 1) hz hlt hL (by decide)) dL_law_2017 ?_
  refine lv_aload_n hx hb dL_law_2018 rfl (lv_at hl 2 rfl) ?_
  have hw0 : WS g s (xB S 0 (S 0) (M, o)) H locs := hw.eqv (by rw [xB, va_up_id])
  refine kc_i hw0 (vx_runSW (hh := [(0, 9, 12, 25), (0, 9, 15, 31)]) (As := [.ref (gA g 0), .int (xs (z + 1).toNatClampNeg), .ref (gA g 169)]) (rest := []) ⟨hx, hb, hml, hc.2.2.1, hc.2.2.2⟩ (m_L_withdraw l g hfl S (S 0) (M, o) (xs (z + 1).toNatClampNeg) _ _ hN hev) (kw_SW hc 3 q972 q973 q0 q974 rfl rfl (by decide +kernel) ⟨Nat.le_of_ble_eq_true rfl, Nat.le_of_ble_eq_true rfl⟩) (kp_S hk hw0) rfl rfl hl.1 rfl (lv_room (Nat.le_of_ble_eq_true rfl)) dL_law_2019 ⟨by show cells + 2 ≤ 603072; omega, by show slots + 12 ≤ 7190634; omega⟩) (fun H locs hw => ?_)
  have hw : WS g s ((if e_X6_withdraw (xs (z + 1).toNatClampNeg) (S 0) = none then va_up (f_X2_keep 20 (xs (z + 1).toNatClampNeg) 0 0 0 S) 0 (f_X6_withdraw (xs (z + 1).toNatClampNeg) (S 0)).2 else S), (M, (if e_X6_withdraw (xs (z + 1).toNatClampNeg) (S 0) = none then vp_updL o.1 0 (f_X6_withdraw (xs (z + 1).toNatClampNeg) (S 0)).1.toInt64 else o.1, o.2))) H locs := hw.eqv (by rw [show (xB S 0 (S 0) (M, o) : wSt) = (S, (M, o)) by rw [xB, va_up_id]]; exact wst_l)
  have hsim := sm_withdraw hV ht5 (xs (z + 1).toNatClampNeg)
  have hV1 : sm_V (if e_X6_withdraw (xs (z + 1).toNatClampNeg) (S 0) = none then va_up (f_X2_keep 20 (xs (z + 1).toNatClampNeg) 0 0 0 S) 0 (f_X6_withdraw (xs (z + 1).toNatClampNeg) (S 0)).2 else S) (f_X7_withdraw (xs (z + 1).toNatClampNeg) M).2 (t + 1) := hsim.2.2
  generalize hS1 : (if e_X6_withdraw (xs (z + 1).toNatClampNeg) (S 0) = none then va_up (f_X2_keep 20 (xs (z + 1).toNatClampNeg) 0 0 0 S) 0 (f_X6_withdraw (xs (z + 1).toNatClampNeg) (S 0)).2 else S) = S1 at hw hV1
  generalize ho1 : ((if e_X6_withdraw (xs (z + 1).toNatClampNeg) (S 0) = none then vp_updL o.1 0 (f_X6_withdraw (xs (z + 1).toNatClampNeg) (S 0)).1.toInt64 else o.1, o.2) : (Nat → Int64) × (Nat → UInt64)) = o1 at hw
  refine lv_istore (lv' := [(6, .int (kE (e_X6_withdraw (xs (z + 1).toNatClampNeg) (S 0)) ["java/lang/IndexOutOfBoundsException", "java/lang/UnsupportedOperationException"])), (5, .int z), (4, .ref (gA g 170)), (3, .ref (gA g 169)), (2, .ref (gA g (jM 0))), (1, .ref (gA g 0)), (0, .ref b)]) hx hb dL_law_2022 hl (by decide) rfl (fun ls hl => ?_)
  refine lv_aload_n hx hb dL_law_2024 rfl (lv_at hl 4 rfl) ?_
  refine lv_aload_n hx hb dL_law_2025 rfl (lv_at hl 6 rfl) ?_
  refine lv_iload hx hb dL_law_2026 (lv_at hl 1 rfl) ?_
  refine lv_iconst (v := 1) hx hb dL_law_2028 (by decide) ?_
  refine lv_iadd hx hb dL_law_2029 ?_
  refine va_sld hx hb hX hbl hbA hw.2 (sm_scr (j := 1) hz hlt hL (by decide)) dL_law_2030 ?_
  refine kc_i hw (va_runV (As := [.int (xs (z + 1).toNatClampNeg)]) (rest := []) ⟨hx, hb, hml, hc.2.2.1, hc.2.2.2⟩ (m_X7_withdraw l g S1 M o1 (xs (z + 1).toNatClampNeg) _ _ hMN) (kw_V hc 1 q1302 q1303 q1304 q8 q1305 rfl rfl (by decide +kernel) ⟨Nat.le_of_ble_eq_true rfl, Nat.le_of_ble_eq_true rfl⟩) (kp_V hk hw at_M rfl) rfl rfl hl.1 rfl (lv_room (Nat.le_of_ble_eq_true rfl)) dL_law_2031 ⟨by show cells + 2 + 0 ≤ 603072; omega, by show slots + 12 + 0 ≤ 7190634; omega⟩) (fun H locs hw => ?_)
  refine lv_istore (lv' := [(7, .int (f_X7_withdraw (xs (z + 1).toNatClampNeg) M).1), (6, .int (kE (e_X6_withdraw (xs (z + 1).toNatClampNeg) (S 0)) ["java/lang/IndexOutOfBoundsException", "java/lang/UnsupportedOperationException"])), (5, .int z), (4, .ref (gA g 170)), (3, .ref (gA g 169)), (2, .ref (gA g (jM 0))), (1, .ref (gA g 0)), (0, .ref b)]) hx hb dL_law_2034 hl (by decide) rfl (fun ls hl => ?_)
  refine lv_aload_n hx hb dL_law_2036 rfl (lv_at hl 5 rfl) ?_
  refine kc_i hw (va_runV (As := []) (rest := []) ⟨hx, hb, hml, hc.2.2.1, hc.2.2.2⟩ (m_X7_thrown l g S1 (f_X7_withdraw (xs (z + 1).toNatClampNeg) M).2 o1) (kw_V hc 0 q1125 q1126 q1127 q8 q1128 rfl rfl (by decide +kernel) ⟨Nat.le_of_ble_eq_true rfl, Nat.le_of_ble_eq_true rfl⟩) (kp_V hk hw at_M rfl) rfl rfl hl.1 rfl (lv_room (Nat.le_of_ble_eq_true rfl)) dL_law_2037 ⟨by show cells + 2 + 0 ≤ 603072; omega, by show slots + 12 + 0 ≤ 7190634; omega⟩) (fun H locs hw => ?_)
  refine lv_iload hx hb dL_law_2040 (lv_at hl 1 rfl) ?_
  refine lv_icmp_eq (tgt := 2047) hx hb dL_law_2042 (by decide) (fun _ => ?_) (fun h9 => absurd hsim.1 h9)
  refine lv_iload hx hb dL_law_2047 (lv_at hl 1 rfl) ?_
  refine lv_if_ne (tgt := 2064) hx hb dL_law_2049 (by decide) (fun _ => ?_) (fun h9 => ?_)
  · refine lv_goto (tgt := 2293) hx hb dL_law_2064 (by decide) ?_
    refine W.widen (k := cells + 5) (n := slots + 30) (by omega) (by omega) ?_
    exact kk _ _ _ _ _ _ hV1 hw (lv_sub hl [2, 3, 4, 5, 6, 7] rfl)
  · have he0 := kE_none (by decide) (h9)
    refine lv_aload_n hx hb dL_law_2052 rfl (lv_at hl 4 rfl) ?_
    refine lv_iconst (v := 0) hx hb dL_law_2053 (by decide) ?_
    refine k_lald hc hk hw dL_law_2054 ?_
    refine vn_l (v9 := (f_X6_withdraw (xs (z + 1).toNatClampNeg) (S 0)).1.toInt64) (by rw [← ho1, if_pos he0]; exact lw_uL o.1 0 _) ?_
    refine lv_iload hx hb dL_law_2055 (lv_at hl 0 rfl) ?_
    refine lv_i2l hx hb dL_law_2057 rfl ?_
    refine W.lcmp hx hb dL_law_2058 ?_
    refine lv_if_eq (tgt := 2064) hx hb dL_law_2059 (by decide) (fun _ => ?_) (fun h9 => absurd (by rw [show (f_X6_withdraw (xs (z + 1).toNatClampNeg) (S 0)).1.toInt64 = ((f_X7_withdraw (xs (z + 1).toNatClampNeg) M).1.toInt64) from congrArg Int32.toInt64 (hsim.2.1 he0).symm]; exact lw_self _) h9)
    refine lv_goto (tgt := 2293) hx hb dL_law_2064 (by decide) ?_
    refine W.widen (k := cells + 5) (n := slots + 30) (by omega) (by omega) ?_
    exact kk _ _ _ _ _ _ hV1 hw (lv_sub hl [2, 3, 4, 5, 6, 7] rfl)
set_option maxHeartbeats 4000000 in
set_option maxRecDepth 100000 in
theorem lc_31 {p : Program} {l : Launch} {e : Env} {s : State} {m : MethodId} {below : List Frame} {meth : Method} {c : Code} {b Ls : Nat} {xs : Nat → Int32} {g : wG} {Q : State → Prop} {S : Nat → BT} {M : BT} {o : (Nat → Int64) × (Nat → UInt64)} {t cells slots : Nat} {z : Int32} {H : Heap} {locs : List Loc} {ls : Array Slot}
    (C9 : LC p l s m c b Ls xs g) (hz : z = nI (5 * t)) (hlt : 5 * t + 5 ≤ Ls) (hL : Ls ≤ 2560) (hV : sm_V S M t) (hcs : cells + 5 ≤ 603072) (hss : slots + 30 ≤ 7190634) (hw : WS g s (S, (M, o)) H locs) (hl : lv_has ls 9 (lw_lv g b z))
    (kk : LK p l e s m below meth c b g z (t + 1) (cells + 5) (slots + 30) Q) : W p l e room_1 s m #[Value.ref b] below meth c H locs cells slots Q (F0 m 2067 ls []) := by
  obtain ⟨hc, hml, hk, hX, hbl, hbA, hfl⟩ := C9
  have hx := hc.1
  have hb := hc.2.1
  have ht5 : t < 512 := by omega
  obtain ⟨n9, m9, n8, m8, hN, hN1, hMN, hev, hev2⟩ := hV.c
  refine lv_aload_n hx hb dL_law_2067 rfl (lv_at hl 4 rfl) ?_
  refine lv_aload_n hx hb dL_law_2068 rfl (lv_at hl 5 rfl) ?_
  refine lv_iload hx hb dL_law_2069 (lv_at hl 0 rfl) ?_
  refine lv_iconst (v := 1) hx hb dL_law_2071 (by decide) ?_
  refine lv_iadd hx hb dL_law_2072 ?_
  refine va_sld hx hb hX hbl hbA hw.2 (sm_scr (j := 1) hz hlt hL (by decide)) dL_law_2073 ?_
  refine lv_aload_n hx hb dL_law_2074 rfl (lv_at hl 2 rfl) ?_
  have hw0 : WS g s (xB S 0 (S 0) (M, o)) H locs := hw.eqv (by rw [xB, va_up_id])
  refine kc_i hw0 (vx_runSW (hh := [(0, 9, 12, 25)]) (As := [.ref (gA g 0), .int (xs (z + 1).toNatClampNeg), .ref (gA g 169)]) (rest := []) ⟨hx, hb, hml, hc.2.2.1, hc.2.2.2⟩ (m_L_days l g hfl S (S 0) (M, o) (xs (z + 1).toNatClampNeg) _ _ hN hev) (kw_SW hc 3 q981 q982 q0 q983 rfl rfl (by decide +kernel) ⟨Nat.le_of_ble_eq_true rfl, Nat.le_of_ble_eq_true rfl⟩) (kp_S hk hw0) rfl rfl hl.1 rfl (lv_room (Nat.le_of_ble_eq_true rfl)) dL_law_2075 ⟨by show cells + 1 ≤ 603072; omega, by show slots + 6 ≤ 7190634; omega⟩) (fun H locs hw => ?_)
  have hw : WS g s ((if e_X6_days (xs (z + 1).toNatClampNeg) (S 0) = none then S else S), (M, (if e_X6_days (xs (z + 1).toNatClampNeg) (S 0) = none then vp_updL o.1 0 (f_X6_days (xs (z + 1).toNatClampNeg) (S 0)).toInt64 else o.1, o.2))) H locs := hw.eqv (by rw [show (xB S 0 (S 0) (M, o) : wSt) = (S, (M, o)) by rw [xB, va_up_id]]; simp only [xB, va_up_id]; exact wst_l)
  have hsim := sm_days hV (xs (z + 1).toNatClampNeg)
  have hV1 : sm_V (if e_X6_days (xs (z + 1).toNatClampNeg) (S 0) = none then S else S) (f_X7_days (xs (z + 1).toNatClampNeg) M).2 (t + 1) := hsim.2.2
  generalize hS1 : (if e_X6_days (xs (z + 1).toNatClampNeg) (S 0) = none then S else S) = S1 at hw hV1
  generalize ho1 : ((if e_X6_days (xs (z + 1).toNatClampNeg) (S 0) = none then vp_updL o.1 0 (f_X6_days (xs (z + 1).toNatClampNeg) (S 0)).toInt64 else o.1, o.2) : (Nat → Int64) × (Nat → UInt64)) = o1 at hw
  refine lv_istore (lv' := [(6, .int (kE (e_X6_days (xs (z + 1).toNatClampNeg) (S 0)) ["java/lang/IndexOutOfBoundsException"])), (5, .int z), (4, .ref (gA g 170)), (3, .ref (gA g 169)), (2, .ref (gA g (jM 0))), (1, .ref (gA g 0)), (0, .ref b)]) hx hb dL_law_2078 hl (by decide) rfl (fun ls hl => ?_)
  refine lv_aload_n hx hb dL_law_2080 rfl (lv_at hl 4 rfl) ?_
  refine lv_aload_n hx hb dL_law_2081 rfl (lv_at hl 6 rfl) ?_
  refine lv_iload hx hb dL_law_2082 (lv_at hl 1 rfl) ?_
  refine lv_iconst (v := 1) hx hb dL_law_2084 (by decide) ?_
  refine lv_iadd hx hb dL_law_2085 ?_
  refine va_sld hx hb hX hbl hbA hw.2 (sm_scr (j := 1) hz hlt hL (by decide)) dL_law_2086 ?_
  refine kc_i hw (va_runV (As := [.int (xs (z + 1).toNatClampNeg)]) (rest := []) ⟨hx, hb, hml, hc.2.2.1, hc.2.2.2⟩ (m_X7_days l g S1 M o1 (xs (z + 1).toNatClampNeg) _ _ hMN) (kw_V hc 1 q1306 q1307 q1308 q8 q1309 rfl rfl (by decide +kernel) ⟨Nat.le_of_ble_eq_true rfl, Nat.le_of_ble_eq_true rfl⟩) (kp_V hk hw at_M rfl) rfl rfl hl.1 rfl (lv_room (Nat.le_of_ble_eq_true rfl)) dL_law_2087 ⟨by show cells + 1 + 0 ≤ 603072; omega, by show slots + 6 + 0 ≤ 7190634; omega⟩) (fun H locs hw => ?_)
  refine lv_istore (lv' := [(7, .int (f_X7_days (xs (z + 1).toNatClampNeg) M).1), (6, .int (kE (e_X6_days (xs (z + 1).toNatClampNeg) (S 0)) ["java/lang/IndexOutOfBoundsException"])), (5, .int z), (4, .ref (gA g 170)), (3, .ref (gA g 169)), (2, .ref (gA g (jM 0))), (1, .ref (gA g 0)), (0, .ref b)]) hx hb dL_law_2090 hl (by decide) rfl (fun ls hl => ?_)
  refine lv_aload_n hx hb dL_law_2092 rfl (lv_at hl 5 rfl) ?_
  refine kc_i hw (va_runV (As := []) (rest := []) ⟨hx, hb, hml, hc.2.2.1, hc.2.2.2⟩ (m_X7_thrown l g S1 (f_X7_days (xs (z + 1).toNatClampNeg) M).2 o1) (kw_V hc 0 q1125 q1126 q1127 q8 q1128 rfl rfl (by decide +kernel) ⟨Nat.le_of_ble_eq_true rfl, Nat.le_of_ble_eq_true rfl⟩) (kp_V hk hw at_M rfl) rfl rfl hl.1 rfl (lv_room (Nat.le_of_ble_eq_true rfl)) dL_law_2093 ⟨by show cells + 1 + 0 ≤ 603072; omega, by show slots + 6 + 0 ≤ 7190634; omega⟩) (fun H locs hw => ?_)
  refine lv_iload hx hb dL_law_2096 (lv_at hl 1 rfl) ?_
  refine lv_icmp_eq (tgt := 2103) hx hb dL_law_2098 (by decide) (fun _ => ?_) (fun h9 => absurd hsim.1 h9)
  refine lv_iload hx hb dL_law_2103 (lv_at hl 1 rfl) ?_
  refine lv_if_ne (tgt := 2120) hx hb dL_law_2105 (by decide) (fun _ => ?_) (fun h9 => ?_)
  · refine lv_goto (tgt := 2293) hx hb dL_law_2120 (by decide) ?_
    refine W.widen (k := cells + 5) (n := slots + 30) (by omega) (by omega) ?_
    exact kk _ _ _ _ _ _ hV1 hw (lv_sub hl [2, 3, 4, 5, 6, 7] rfl)
  · have he0 := kE_none (by decide) (h9)
    refine lv_aload_n hx hb dL_law_2108 rfl (lv_at hl 4 rfl) ?_
    refine lv_iconst (v := 0) hx hb dL_law_2109 (by decide) ?_
    refine k_lald hc hk hw dL_law_2110 ?_
    refine vn_l (v9 := (f_X6_days (xs (z + 1).toNatClampNeg) (S 0)).toInt64) (by rw [← ho1, if_pos he0]; exact lw_uL o.1 0 _) ?_
    refine lv_iload hx hb dL_law_2111 (lv_at hl 0 rfl) ?_
    refine lv_i2l hx hb dL_law_2113 rfl ?_
    refine W.lcmp hx hb dL_law_2114 ?_
    refine lv_if_eq (tgt := 2120) hx hb dL_law_2115 (by decide) (fun _ => ?_) (fun h9 => absurd (by rw [show (f_X6_days (xs (z + 1).toNatClampNeg) (S 0)).toInt64 = ((f_X7_days (xs (z + 1).toNatClampNeg) M).1.toInt64) from congrArg Int32.toInt64 (hsim.2.1 he0).symm]; exact lw_self _) h9)
    refine lv_goto (tgt := 2293) hx hb dL_law_2120 (by decide) ?_
    refine W.widen (k := cells + 5) (n := slots + 30) (by omega) (by omega) ?_
    exact kk _ _ _ _ _ _ hV1 hw (lv_sub hl [2, 3, 4, 5, 6, 7] rfl)
set_option maxHeartbeats 4000000 in
set_option maxRecDepth 100000 in
theorem lc_32 {p : Program} {l : Launch} {e : Env} {s : State} {m : MethodId} {below : List Frame} {meth : Method} {c : Code} {b Ls : Nat} {xs : Nat → Int32} {g : wG} {Q : State → Prop} {S : Nat → BT} {M : BT} {o : (Nat → Int64) × (Nat → UInt64)} {t cells slots : Nat} {z : Int32} {H : Heap} {locs : List Loc} {ls : Array Slot}
    (C9 : LC p l s m c b Ls xs g) (hz : z = nI (5 * t)) (hlt : 5 * t + 5 ≤ Ls) (hL : Ls ≤ 2560) (hV : sm_V S M t) (hcs : cells + 5 ≤ 603072) (hss : slots + 30 ≤ 7190634) (hw : WS g s (S, (M, o)) H locs) (hl : lv_has ls 9 (lw_lv g b z))
    (kk : LK p l e s m below meth c b g z (t + 1) (cells + 5) (slots + 30) Q) : W p l e room_1 s m #[Value.ref b] below meth c H locs cells slots Q (F0 m 2123 ls []) := by
  obtain ⟨hc, hml, hk, hX, hbl, hbA, hfl⟩ := C9
  have hx := hc.1
  have hb := hc.2.1
  have ht5 : t < 512 := by omega
  obtain ⟨n9, m9, n8, m8, hN, hN1, hMN, hev, hev2⟩ := hV.c
  refine lv_aload_n hx hb dL_law_2123 rfl (lv_at hl 4 rfl) ?_
  refine lv_aload_n hx hb dL_law_2124 rfl (lv_at hl 5 rfl) ?_
  refine lv_iload hx hb dL_law_2125 (lv_at hl 0 rfl) ?_
  refine lv_iconst (v := 1) hx hb dL_law_2127 (by decide) ?_
  refine lv_iadd hx hb dL_law_2128 ?_
  refine va_sld hx hb hX hbl hbA hw.2 (sm_scr (j := 1) hz hlt hL (by decide)) dL_law_2129 ?_
  refine lv_aload hx hb dL_law_2130 (lv_at hl 1 rfl) ?_
  have hw0 : WS g s (xB S 0 (S 0) (M, o)) H locs := hw.eqv (by rw [xB, va_up_id])
  refine kc_i hw0 (vx_runSW (hh := [(0, 9, 12, 25), (0, 9, 15, 125)]) (As := [.ref (gA g 0), .int (xs (z + 1).toNatClampNeg), .ref (gA g 170)]) (rest := []) ⟨hx, hb, hml, hc.2.2.1, hc.2.2.2⟩ (m_L_heededShare l g hfl S (S 0) (M, o) (xs (z + 1).toNatClampNeg) _ _ hN hev) (kw_SW hc 3 q988 q989 q0 q990 rfl rfl (by decide +kernel) ⟨Nat.le_of_ble_eq_true rfl, Nat.le_of_ble_eq_true rfl⟩) (kp_S hk hw0) rfl rfl hl.1 rfl (lv_room (Nat.le_of_ble_eq_true rfl)) dL_law_2132 ⟨by show cells + 2 ≤ 603072; omega, by show slots + 12 ≤ 7190634; omega⟩) (fun H locs hw => ?_)
  have hw : WS g s ((if e_X6_heededShare (xs (z + 1).toNatClampNeg) (S 0) = none then S else S), (M, (o.1, if e_X6_heededShare (xs (z + 1).toNatClampNeg) (S 0) = none then vf_upd o.2 0 (FP.f2d (f_X6_heededShare (xs (z + 1).toNatClampNeg) (S 0))) else o.2))) H locs := hw.eqv (by rw [show (xB S 0 (S 0) (M, o) : wSt) = (S, (M, o)) by rw [xB, va_up_id]]; simp only [xB, va_up_id]; exact wst_d)
  have hsim := sm_heededShare hV (xs (z + 1).toNatClampNeg)
  have hV1 : sm_V (if e_X6_heededShare (xs (z + 1).toNatClampNeg) (S 0) = none then S else S) (f_X7_heededShare (xs (z + 1).toNatClampNeg) M).2 (t + 1) := hsim.2.2
  generalize hS1 : (if e_X6_heededShare (xs (z + 1).toNatClampNeg) (S 0) = none then S else S) = S1 at hw hV1
  generalize ho1 : ((o.1, if e_X6_heededShare (xs (z + 1).toNatClampNeg) (S 0) = none then vf_upd o.2 0 (FP.f2d (f_X6_heededShare (xs (z + 1).toNatClampNeg) (S 0))) else o.2) : (Nat → Int64) × (Nat → UInt64)) = o1 at hw
  refine lv_istore (lv' := [(6, .int (kE (e_X6_heededShare (xs (z + 1).toNatClampNeg) (S 0)) ["java/lang/IndexOutOfBoundsException", "java/lang/ArithmeticException"])), (5, .int z), (4, .ref (gA g 170)), (3, .ref (gA g 169)), (2, .ref (gA g (jM 0))), (1, .ref (gA g 0)), (0, .ref b)]) hx hb dL_law_2135 hl (by decide) rfl (fun ls hl => ?_)
  refine lv_aload_n hx hb dL_law_2137 rfl (lv_at hl 4 rfl) ?_
  refine lv_aload_n hx hb dL_law_2138 rfl (lv_at hl 6 rfl) ?_
  refine lv_iload hx hb dL_law_2139 (lv_at hl 1 rfl) ?_
  refine lv_iconst (v := 1) hx hb dL_law_2141 (by decide) ?_
  refine lv_iadd hx hb dL_law_2142 ?_
  refine va_sld hx hb hX hbl hbA hw.2 (sm_scr (j := 1) hz hlt hL (by decide)) dL_law_2143 ?_
  refine kc_f hw (va_runV (As := [.int (xs (z + 1).toNatClampNeg)]) (rest := []) ⟨hx, hb, hml, hc.2.2.1, hc.2.2.2⟩ (m_X7_heededShare l g S1 M o1 (xs (z + 1).toNatClampNeg) _ _ hMN) (kw_V hc 1 q1314 q1315 q1316 q8 q1317 rfl rfl (by decide +kernel) ⟨Nat.le_of_ble_eq_true rfl, Nat.le_of_ble_eq_true rfl⟩) (kp_V hk hw at_M rfl) rfl rfl hl.1 rfl (lv_room (Nat.le_of_ble_eq_true rfl)) dL_law_2144 ⟨by show cells + 2 + 0 ≤ 603072; omega, by show slots + 12 + 0 ≤ 7190634; omega⟩) (fun H locs hw => ?_)
  refine lv_fstore (lv' := [(7, .float (f_X7_heededShare (xs (z + 1).toNatClampNeg) M).1), (6, .int (kE (e_X6_heededShare (xs (z + 1).toNatClampNeg) (S 0)) ["java/lang/IndexOutOfBoundsException", "java/lang/ArithmeticException"])), (5, .int z), (4, .ref (gA g 170)), (3, .ref (gA g 169)), (2, .ref (gA g (jM 0))), (1, .ref (gA g 0)), (0, .ref b)]) hx hb dL_law_2147 hl (by decide) rfl (fun ls hl => ?_)
  refine lv_aload_n hx hb dL_law_2149 rfl (lv_at hl 5 rfl) ?_
  refine kc_i hw (va_runV (As := []) (rest := []) ⟨hx, hb, hml, hc.2.2.1, hc.2.2.2⟩ (m_X7_thrown l g S1 (f_X7_heededShare (xs (z + 1).toNatClampNeg) M).2 o1) (kw_V hc 0 q1125 q1126 q1127 q8 q1128 rfl rfl (by decide +kernel) ⟨Nat.le_of_ble_eq_true rfl, Nat.le_of_ble_eq_true rfl⟩) (kp_V hk hw at_M rfl) rfl rfl hl.1 rfl (lv_room (Nat.le_of_ble_eq_true rfl)) dL_law_2150 ⟨by show cells + 2 + 0 ≤ 603072; omega, by show slots + 12 + 0 ≤ 7190634; omega⟩) (fun H locs hw => ?_)
  refine lv_iload hx hb dL_law_2153 (lv_at hl 1 rfl) ?_
  refine lv_icmp_eq (tgt := 2160) hx hb dL_law_2155 (by decide) (fun _ => ?_) (fun h9 => absurd hsim.1 h9)
  refine lv_iload hx hb dL_law_2160 (lv_at hl 1 rfl) ?_
  refine lv_if_ne (tgt := 2198) hx hb dL_law_2162 (by decide) (fun _ => ?_) (fun h9 => ?_)
  · refine lv_goto (tgt := 2293) hx hb dL_law_2198 (by decide) ?_
    refine W.widen (k := cells + 5) (n := slots + 30) (by omega) (by omega) ?_
    exact kk _ _ _ _ _ _ hV1 hw (lv_sub hl [2, 3, 4, 5, 6, 7] rfl)
  · have he0 := kE_none (by decide) (h9)
    refine lv_aload hx hb dL_law_2165 (lv_at hl 3 rfl) ?_
    refine lv_iconst (v := 0) hx hb dL_law_2167 (by decide) ?_
    refine k_dald hc hk hw dL_law_2168 ?_
    refine vn_d (v9 := (FP.f2d (f_X6_heededShare (xs (z + 1).toNatClampNeg) (S 0)))) (by rw [← ho1, if_pos he0]; exact lw_uD o.2 0 _) ?_
    refine lv_fload hx hb dL_law_2169 (lv_at hl 0 rfl) ?_
    refine vn_f (v9 := (f_X6_heededShare (xs (z + 1).toNatClampNeg) (S 0))) (hsim.2.1 he0) ?_
    refine lv_f2d hx hb dL_law_2171 (f2d_heededShare he0) ?_
    refine lv_dcmp hx hb dL_law_2172 ?_
    refine lv_if_eq (tgt := 2198) hx hb dL_law_2173 (by decide) (fun _ => ?_) (fun h9 => absurd (fp_dcz (f2d_heededShare he0)) h9)
    refine lv_goto (tgt := 2293) hx hb dL_law_2198 (by decide) ?_
    refine W.widen (k := cells + 5) (n := slots + 30) (by omega) (by omega) ?_
    exact kk _ _ _ _ _ _ hV1 hw (lv_sub hl [2, 3, 4, 5, 6, 7] rfl)
set_option maxHeartbeats 4000000 in
set_option maxRecDepth 100000 in
theorem lc_33 {p : Program} {l : Launch} {e : Env} {s : State} {m : MethodId} {below : List Frame} {meth : Method} {c : Code} {b Ls : Nat} {xs : Nat → Int32} {g : wG} {Q : State → Prop} {S : Nat → BT} {M : BT} {o : (Nat → Int64) × (Nat → UInt64)} {t cells slots : Nat} {z : Int32} {H : Heap} {locs : List Loc} {ls : Array Slot}
    (C9 : LC p l s m c b Ls xs g) (hz : z = nI (5 * t)) (hlt : 5 * t + 5 ≤ Ls) (hL : Ls ≤ 2560) (hV : sm_V S M t) (hcs : cells + 5 ≤ 603072) (hss : slots + 30 ≤ 7190634) (hw : WS g s (S, (M, o)) H locs) (hl : lv_has ls 9 (lw_lv g b z))
    (kk : LK p l e s m below meth c b g z (t + 1) (cells + 5) (slots + 30) Q) : W p l e room_1 s m #[Value.ref b] below meth c H locs cells slots Q (F0 m 2201 ls []) := by
  obtain ⟨hc, hml, hk, hX, hbl, hbA, hfl⟩ := C9
  have hx := hc.1
  have hb := hc.2.1
  have ht5 : t < 512 := by omega
  obtain ⟨n9, m9, n8, m8, hN, hN1, hMN, hev, hev2⟩ := hV.c
  refine lv_aload_n hx hb dL_law_2201 rfl (lv_at hl 4 rfl) ?_
  refine lv_aload hx hb dL_law_2202 (lv_at hl 1 rfl) ?_
  have hw0 : WS g s (xB S 0 (S 0) (M, o)) H locs := hw.eqv (by rw [xB, va_up_id])
  refine kc_i hw0 (vx_runSW (hh := [(0, 7, 10, 125)]) (As := [.ref (gA g 0), .ref (gA g 170)]) (rest := []) ⟨hx, hb, hml, hc.2.2.1, hc.2.2.2⟩ (m_L_meanDays l g hfl S (S 0) (M, o) _ _ hN hev) (kw_SW hc 2 q1012 q1013 q0 q1014 rfl rfl (by decide +kernel) ⟨Nat.le_of_ble_eq_true rfl, Nat.le_of_ble_eq_true rfl⟩) (kp_S hk hw0) rfl rfl hl.1 rfl (lv_room (Nat.le_of_ble_eq_true rfl)) dL_law_2204 ⟨by show cells + 1 ≤ 603072; omega, by show slots + 6 ≤ 7190634; omega⟩) (fun H locs hw => ?_)
  have hw : WS g s ((if e_X6_meanDays (S 0) = none then S else S), (M, (o.1, if e_X6_meanDays (S 0) = none then vf_upd o.2 0 (f_X6_meanDays (S 0)) else o.2))) H locs := hw.eqv (by rw [show (xB S 0 (S 0) (M, o) : wSt) = (S, (M, o)) by rw [xB, va_up_id]]; simp only [xB, va_up_id]; exact wst_d)
  have hsim := sm_meanDays hV
  have hV1 : sm_V (if e_X6_meanDays (S 0) = none then S else S) (f_X7_meanDays M).2 (t + 1) := hsim.2.2
  generalize hS1 : (if e_X6_meanDays (S 0) = none then S else S) = S1 at hw hV1
  generalize ho1 : ((o.1, if e_X6_meanDays (S 0) = none then vf_upd o.2 0 (f_X6_meanDays (S 0)) else o.2) : (Nat → Int64) × (Nat → UInt64)) = o1 at hw
  refine lv_istore (lv' := [(6, .int (kE (e_X6_meanDays (S 0)) ["java/lang/ArithmeticException"])), (5, .int z), (4, .ref (gA g 170)), (3, .ref (gA g 169)), (2, .ref (gA g (jM 0))), (1, .ref (gA g 0)), (0, .ref b)]) hx hb dL_law_2207 hl (by decide) rfl (fun ls hl => ?_)
  refine lv_aload_n hx hb dL_law_2209 rfl (lv_at hl 4 rfl) ?_
  refine kc_d hw (va_runV (As := []) (rest := []) ⟨hx, hb, hml, hc.2.2.1, hc.2.2.2⟩ (m_X7_meanDays l g S1 M o1 _ _ hMN) (kw_V hc 0 q1318 q1319 q1320 q8 q1321 rfl rfl (by decide +kernel) ⟨Nat.le_of_ble_eq_true rfl, Nat.le_of_ble_eq_true rfl⟩) (kp_V hk hw at_M rfl) rfl rfl hl.1 rfl (lv_room (Nat.le_of_ble_eq_true rfl)) dL_law_2210 ⟨by show cells + 1 + 0 ≤ 603072; omega, by show slots + 6 + 0 ≤ 7190634; omega⟩) (fun H locs hw => ?_)
  refine lv_dstore (lv' := [(7, .double (f_X7_meanDays M).1), (6, .int (kE (e_X6_meanDays (S 0)) ["java/lang/ArithmeticException"])), (5, .int z), (4, .ref (gA g 170)), (3, .ref (gA g 169)), (2, .ref (gA g (jM 0))), (1, .ref (gA g 0)), (0, .ref b)]) hx hb dL_law_2213 hl (by decide) rfl (fun ls hl => ?_)
  refine lv_aload_n hx hb dL_law_2215 rfl (lv_at hl 5 rfl) ?_
  refine kc_i hw (va_runV (As := []) (rest := []) ⟨hx, hb, hml, hc.2.2.1, hc.2.2.2⟩ (m_X7_thrown l g S1 (f_X7_meanDays M).2 o1) (kw_V hc 0 q1125 q1126 q1127 q8 q1128 rfl rfl (by decide +kernel) ⟨Nat.le_of_ble_eq_true rfl, Nat.le_of_ble_eq_true rfl⟩) (kp_V hk hw at_M rfl) rfl rfl hl.1 rfl (lv_room (Nat.le_of_ble_eq_true rfl)) dL_law_2216 ⟨by show cells + 1 + 0 ≤ 603072; omega, by show slots + 6 + 0 ≤ 7190634; omega⟩) (fun H locs hw => ?_)
  refine lv_iload hx hb dL_law_2219 (lv_at hl 1 rfl) ?_
  refine lv_icmp_eq (tgt := 2226) hx hb dL_law_2221 (by decide) (fun _ => ?_) (fun h9 => absurd hsim.1 h9)
  refine lv_iload hx hb dL_law_2226 (lv_at hl 1 rfl) ?_
  refine lv_if_ne (tgt := 2263) hx hb dL_law_2228 (by decide) (fun _ => ?_) (fun h9 => ?_)
  · refine lv_goto (tgt := 2293) hx hb dL_law_2263 (by decide) ?_
    refine W.widen (k := cells + 5) (n := slots + 30) (by omega) (by omega) ?_
    exact kk _ _ _ _ _ _ hV1 hw (lv_sub hl [2, 3, 4, 5, 6, 7] rfl)
  · have he0 := kE_none (by decide) (h9)
    refine lv_aload hx hb dL_law_2231 (lv_at hl 3 rfl) ?_
    refine lv_iconst (v := 0) hx hb dL_law_2233 (by decide) ?_
    refine k_dald hc hk hw dL_law_2234 ?_
    refine vn_d (v9 := (f_X6_meanDays (S 0))) (by rw [← ho1, if_pos he0]; exact lw_uD o.2 0 _) ?_
    refine lv_dload hx hb dL_law_2235 (lv_at hl 0 rfl) ?_
    refine lv_dcmp hx hb dL_law_2237 ?_
    refine lv_if_eq (tgt := 2263) hx hb dL_law_2238 (by decide) (fun _ => ?_) (fun h9 => absurd (by rw [show (f_X7_meanDays M).1 = (f_X6_meanDays (S 0)) from hsim.2.1 he0]; exact fp_dcz (lw_md he0)) h9)
    refine lv_goto (tgt := 2293) hx hb dL_law_2263 (by decide) ?_
    refine W.widen (k := cells + 5) (n := slots + 30) (by omega) (by omega) ?_
    exact kk _ _ _ _ _ _ hV1 hw (lv_sub hl [2, 3, 4, 5, 6, 7] rfl)
set_option maxHeartbeats 4000000 in
set_option maxRecDepth 100000 in
theorem lc_34 {p : Program} {l : Launch} {e : Env} {s : State} {m : MethodId} {below : List Frame} {meth : Method} {c : Code} {b Ls : Nat} {xs : Nat → Int32} {g : wG} {Q : State → Prop} {S : Nat → BT} {M : BT} {o : (Nat → Int64) × (Nat → UInt64)} {t cells slots : Nat} {z : Int32} {H : Heap} {locs : List Loc} {ls : Array Slot}
    (C9 : LC p l s m c b Ls xs g) (hz : z = nI (5 * t)) (hlt : 5 * t + 5 ≤ Ls) (hL : Ls ≤ 2560) (hV : sm_V S M t) (hcs : cells + 5 ≤ 603072) (hss : slots + 30 ≤ 7190634) (hw : WS g s (S, (M, o)) H locs) (hl : lv_has ls 9 (lw_lv g b z))
    (kk : LK p l e s m below meth c b g z (t + 1) (cells + 5) (slots + 30) Q) : W p l e room_1 s m #[Value.ref b] below meth c H locs cells slots Q (F0 m 2266 ls []) := by
  obtain ⟨hc, hml, hk, hX, hbl, hbA, hfl⟩ := C9
  have hx := hc.1
  have hb := hc.2.1
  have ht5 : t < 512 := by omega
  obtain ⟨n9, m9, n8, m8, hN, hN1, hMN, hev, hev2⟩ := hV.c
  refine lv_aload_n hx hb dL_law_2266 rfl (lv_at hl 4 rfl) ?_
  have hw0 : WS g s (xB S 0 (S 0) (M, o)) H locs := hw.eqv (by rw [xB, va_up_id])
  refine kc_l hw0 (va_runV (As := []) (rest := []) ⟨hx, hb, hml, hc.2.2.1, hc.2.2.2⟩ (m_X6_checksum l g S (S 0) (M, o) _ _ hN) (kw_V hc 0 q252 q253 q254 q1 q255 rfl rfl (by decide +kernel) ⟨Nat.le_of_ble_eq_true rfl, Nat.le_of_ble_eq_true rfl⟩) (kp_V hk hw0 at_G rfl) rfl rfl hl.1 rfl (lv_room (Nat.le_of_ble_eq_true rfl)) dL_law_2267 ⟨by show cells + 0 ≤ 603072; omega, by show slots + 0 ≤ 7190634; omega⟩) (fun H locs hw => ?_)
  have hw : WS g s (S, (M, o)) H locs := hw.eqv (by rw [xB, va_up_id])
  refine lv_aload_n hx hb dL_law_2270 rfl (lv_at hl 3 rfl) ?_
  refine kc_l hw (va_runV (As := []) (rest := [.long (f_X6_checksum (S 0))]) ⟨hx, hb, hml, hc.2.2.1, hc.2.2.2⟩ (m_X7_checksum l g S M o _ _ hMN) (kw_V hc 0 q1322 q1323 q1324 q8 q1325 rfl rfl (by decide +kernel) ⟨Nat.le_of_ble_eq_true rfl, Nat.le_of_ble_eq_true rfl⟩) (kp_V hk hw at_M rfl) rfl rfl hl.1 rfl (lv_room (Nat.le_of_ble_eq_true rfl)) dL_law_2271 ⟨by show cells + 0 ≤ 603072; omega, by show slots + 0 ≤ 7190634; omega⟩) (fun H locs hw => ?_)
  refine W.lcmp hx hb dL_law_2274 ?_
  refine lv_if_eq (tgt := 2293) hx hb dL_law_2275 (by decide) (fun _ => ?_) (fun h9 => absurd (by rw [show (f_X6_checksum (S 0)) = (f_X7_checksum M).1 from (sm_checksum hV).1.symm]; exact lw_self _) h9)
  refine W.widen (k := cells + 5) (n := slots + 30) (by omega) (by omega) ?_
  exact kk _ _ _ _ _ _ (sm_checksum hV).2 hw (lv_sub hl [0, 1, 2, 3, 4, 5] rfl)
set_option maxHeartbeats 4000000 in
set_option maxRecDepth 100000 in
theorem lc_35 {p : Program} {l : Launch} {e : Env} {s : State} {m : MethodId} {below : List Frame} {meth : Method} {c : Code} {b Ls : Nat} {xs : Nat → Int32} {g : wG} {Q : State → Prop} {S : Nat → BT} {M : BT} {o : (Nat → Int64) × (Nat → UInt64)} {t cells slots : Nat} {z : Int32} {H : Heap} {locs : List Loc} {ls : Array Slot}
    (C9 : LC p l s m c b Ls xs g) (hz : z = nI (5 * t)) (hlt : 5 * t + 5 ≤ Ls) (hL : Ls ≤ 2560) (hV : sm_V S M t) (hcs : cells + 5 ≤ 603072) (hss : slots + 30 ≤ 7190634) (hw : WS g s (S, (M, o)) H locs) (hl : lv_has ls 9 (lw_lv g b z))
    (kk : LK p l e s m below meth c b g z (t + 1) (cells + 5) (slots + 30) Q) : W p l e room_1 s m #[Value.ref b] below meth c H locs cells slots Q (F0 m 2280 ls []) := by
  obtain ⟨hc, hml, hk, hX, hbl, hbA, hfl⟩ := C9
  have hx := hc.1
  have hb := hc.2.1
  have ht5 : t < 512 := by omega
  obtain ⟨n9, m9, n8, m8, hN, hN1, hMN, hev, hev2⟩ := hV.c
  refine lv_aload_n hx hb dL_law_2280 rfl (lv_at hl 4 rfl) ?_
  refine kc_i hw (va_runV (As := []) (rest := []) ⟨hx, hb, hml, hc.2.2.1, hc.2.2.2⟩ (m_X6_isSound l g S (M, o) _ _ hN _ _ hN1 hev hev2) (kw_V hc 0 q262 q263 q264 q1 q265 rfl rfl (by decide +kernel) ⟨Nat.le_of_ble_eq_true rfl, Nat.le_of_ble_eq_true rfl⟩) (kp_V hk hw at_G rfl) rfl rfl hl.1 rfl (lv_room (Nat.le_of_ble_eq_true rfl)) dL_law_2281 ⟨by show cells + 0 ≤ 603072; omega, by show slots + 0 ≤ 7190634; omega⟩) (fun H locs hw => ?_)
  refine lv_aload_n hx hb dL_law_2284 rfl (lv_at hl 3 rfl) ?_
  refine kc_i hw (va_runV (As := []) (rest := [.int (f_X6_isSound S)]) ⟨hx, hb, hml, hc.2.2.1, hc.2.2.2⟩ (m_X7_isSound l g (va_up S 1 (f_X2_tellAgain S (S 1))) M o _ _ hMN) (kw_V hc 0 q1328 q1329 q1330 q8 q1331 rfl rfl (by decide +kernel) ⟨Nat.le_of_ble_eq_true rfl, Nat.le_of_ble_eq_true rfl⟩) (kp_V hk hw at_M rfl) rfl rfl hl.1 rfl (lv_room (Nat.le_of_ble_eq_true rfl)) dL_law_2285 ⟨by show cells + 0 ≤ 603072; omega, by show slots + 0 ≤ 7190634; omega⟩) (fun H locs hw => ?_)
  refine lv_icmp_eq (tgt := 2293) hx hb dL_law_2288 (by decide) (fun _ => ?_) (fun h9 => absurd ((sm_soundq hV).1.trans (sm_soundq hV).2.1.symm) h9)
  refine W.widen (k := cells + 5) (n := slots + 30) (by omega) (by omega) ?_
  exact kk _ _ _ _ _ _ (sm_soundq hV).2.2 hw (lv_sub hl [0, 1, 2, 3, 4, 5] rfl)
