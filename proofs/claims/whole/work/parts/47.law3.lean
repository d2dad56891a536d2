/-! the law, cases 12 to 17 -/
set_option maxHeartbeats 4000000 in
set_option maxRecDepth 100000 in
theorem lc_12 {p : Program} {l : Launch} {e : Env} {s : State} {m : MethodId} {below : List Frame} {meth : Method} {c : Code} {b Ls : Nat} {xs : Nat → Int32} {g : wG} {Q : State → Prop} {S : Nat → BT} {M : BT} {o : (Nat → Int64) × (Nat → UInt64)} {t cells slots : Nat} {z : Int32} {H : Heap} {locs : List Loc} {ls : Array Slot}
    (C9 : LC p l s m c b Ls xs g) (hz : z = nI (5 * t)) (hlt : 5 * t + 5 ≤ Ls) (hL : Ls ≤ 2560) (hV : sm_V S M t) (hcs : cells + 5 ≤ 603072) (hss : slots + 30 ≤ 7190634) (hw : WS g s (S, (M, o)) H locs) (hl : lv_has ls 9 (lw_lv g b z))
    (kk : LK p l e s m below meth c b g z (t + 1) (cells + 5) (slots + 30) Q) : W p l e room_1 s m #[Value.ref b] below meth c H locs cells slots Q (F0 m 925 ls []) := by
  obtain ⟨hc, hml, hk, hX, hbl, hbA, hfl⟩ := C9
  have hx := hc.1
  have hb := hc.2.1
  have ht5 : t < 512 := by omega
  obtain ⟨n9, m9, n8, m8, hN, hN1, hMN, hev, hev2⟩ := hV.c
  refine lv_aload_n hx hb dL_law_925 rfl (lv_at hl 4 rfl) ?_
  refine lv_aload_n hx hb dL_law_926 rfl (lv_at hl 5 rfl) ?_
  refine lv_iload hx hb dL_law_927 (lv_at hl 0 rfl) ?_
  refine lv_iconst (v := 1) hx hb dL_law_929 (by decide) ?_
  refine lv_iadd hx hb dL_law_930 ?_
  refine va_sld hx hb hX hbl hbA hw.2 (sm_scr (j := 1) hz hlt hL (by decide)) dL_law_931 ?_
  refine lv_aload_n hx hb dL_law_932 rfl (lv_at hl 5 rfl) ?_
  refine lv_iload hx hb dL_law_933 (lv_at hl 0 rfl) ?_
  refine lv_iconst (v := 2) hx hb dL_law_935 (by decide) ?_
  refine lv_iadd hx hb dL_law_936 ?_
  refine va_sld hx hb hX hbl hbA hw.2 (sm_scr (j := 2) hz hlt hL (by decide)) dL_law_937 ?_
  refine lv_aload_n hx hb dL_law_938 rfl (lv_at hl 2 rfl) ?_
  have hw0 : WS g s (xB S 0 (S 0) (M, o)) H locs := hw.eqv (by rw [xB, va_up_id])
  refine kc_i hw0 (vx_runSW (hh := [(0, 10, 13, 25), (0, 10, 17, 13), (0, 10, 21, 31)]) (As := [.ref (gA g 0), .int (xs (z + 1).toNatClampNeg), .int (xs (z + 2).toNatClampNeg), .ref (gA g 169)]) (rest := []) ⟨hx, hb, hml, hc.2.2.1, hc.2.2.2⟩ (m_L_extend l g hfl S (S 0) (M, o) (xs (z + 1).toNatClampNeg) (xs (z + 2).toNatClampNeg) _ _ hN hev) (kw_SW hc 4 q794 q795 q0 q796 rfl rfl (by decide +kernel) ⟨Nat.le_of_ble_eq_true rfl, Nat.le_of_ble_eq_true rfl⟩) (kp_S hk hw0) rfl rfl hl.1 rfl (lv_room (Nat.le_of_ble_eq_true rfl)) dL_law_939 ⟨by show cells + 4 ≤ 603072; omega, by show slots + 24 ≤ 7190634; omega⟩) (fun H locs hw => ?_)
  have hw : WS g s ((if e_X6_extend (xs (z + 1).toNatClampNeg) (xs (z + 2).toNatClampNeg) (S 0) = none then va_up (f_X2_keep 10 (xs (z + 1).toNatClampNeg) (xs (z + 2).toNatClampNeg) 0 0 S) 0 (f_X6_extend (xs (z + 1).toNatClampNeg) (xs (z + 2).toNatClampNeg) (S 0)).2 else S), (M, (if e_X6_extend (xs (z + 1).toNatClampNeg) (xs (z + 2).toNatClampNeg) (S 0) = none then vp_updL o.1 0 (f_X6_extend (xs (z + 1).toNatClampNeg) (xs (z + 2).toNatClampNeg) (S 0)).1.toInt64 else o.1, o.2))) H locs := hw.eqv (by rw [show (xB S 0 (S 0) (M, o) : wSt) = (S, (M, o)) by rw [xB, va_up_id]]; exact wst_l)
  have hsim := sm_extend hV ht5 (xs (z + 1).toNatClampNeg) (xs (z + 2).toNatClampNeg)
  have hV1 : sm_V (if e_X6_extend (xs (z + 1).toNatClampNeg) (xs (z + 2).toNatClampNeg) (S 0) = none then va_up (f_X2_keep 10 (xs (z + 1).toNatClampNeg) (xs (z + 2).toNatClampNeg) 0 0 S) 0 (f_X6_extend (xs (z + 1).toNatClampNeg) (xs (z + 2).toNatClampNeg) (S 0)).2 else S) (f_X7_extend (xs (z + 1).toNatClampNeg) (xs (z + 2).toNatClampNeg) M).2 (t + 1) := hsim.2.2
  generalize hS1 : (if e_X6_extend (xs (z + 1).toNatClampNeg) (xs (z + 2).toNatClampNeg) (S 0) = none then va_up (f_X2_keep 10 (xs (z + 1).toNatClampNeg) (xs (z + 2).toNatClampNeg) 0 0 S) 0 (f_X6_extend (xs (z + 1).toNatClampNeg) (xs (z + 2).toNatClampNeg) (S 0)).2 else S) = S1 at hw hV1
  generalize ho1 : ((if e_X6_extend (xs (z + 1).toNatClampNeg) (xs (z + 2).toNatClampNeg) (S 0) = none then vp_updL o.1 0 (f_X6_extend (xs (z + 1).toNatClampNeg) (xs (z + 2).toNatClampNeg) (S 0)).1.toInt64 else o.1, o.2) : (Nat → Int64) × (Nat → UInt64)) = o1 at hw
  refine lv_istore (lv' := [(6, .int (kE (e_X6_extend (xs (z + 1).toNatClampNeg) (xs (z + 2).toNatClampNeg) (S 0)) ["java/lang/IndexOutOfBoundsException", "java/lang/IllegalArgumentException", "java/lang/UnsupportedOperationException"])), (5, .int z), (4, .ref (gA g 170)), (3, .ref (gA g 169)), (2, .ref (gA g (jM 0))), (1, .ref (gA g 0)), (0, .ref b)]) hx hb dL_law_942 hl (by decide) rfl (fun ls hl => ?_)
  refine lv_aload_n hx hb dL_law_944 rfl (lv_at hl 4 rfl) ?_
  refine lv_aload_n hx hb dL_law_945 rfl (lv_at hl 6 rfl) ?_
  refine lv_iload hx hb dL_law_946 (lv_at hl 1 rfl) ?_
  refine lv_iconst (v := 1) hx hb dL_law_948 (by decide) ?_
  refine lv_iadd hx hb dL_law_949 ?_
  refine va_sld hx hb hX hbl hbA hw.2 (sm_scr (j := 1) hz hlt hL (by decide)) dL_law_950 ?_
  refine lv_aload_n hx hb dL_law_951 rfl (lv_at hl 6 rfl) ?_
  refine lv_iload hx hb dL_law_952 (lv_at hl 1 rfl) ?_
  refine lv_iconst (v := 2) hx hb dL_law_954 (by decide) ?_
  refine lv_iadd hx hb dL_law_955 ?_
  refine va_sld hx hb hX hbl hbA hw.2 (sm_scr (j := 2) hz hlt hL (by decide)) dL_law_956 ?_
  refine kc_i hw (va_runV (As := [.int (xs (z + 1).toNatClampNeg), .int (xs (z + 2).toNatClampNeg)]) (rest := []) ⟨hx, hb, hml, hc.2.2.1, hc.2.2.2⟩ (m_X7_extend l g S1 M o1 (xs (z + 1).toNatClampNeg) (xs (z + 2).toNatClampNeg) _ _ hMN) (kw_V hc 2 q1218 q1219 q1220 q8 q1221 rfl rfl (by decide +kernel) ⟨Nat.le_of_ble_eq_true rfl, Nat.le_of_ble_eq_true rfl⟩) (kp_V hk hw at_M rfl) rfl rfl hl.1 rfl (lv_room (Nat.le_of_ble_eq_true rfl)) dL_law_957 ⟨by show cells + 4 + 0 ≤ 603072; omega, by show slots + 24 + 0 ≤ 7190634; omega⟩) (fun H locs hw => ?_)
  refine lv_istore (lv' := [(7, .int (f_X7_extend (xs (z + 1).toNatClampNeg) (xs (z + 2).toNatClampNeg) M).1), (6, .int (kE (e_X6_extend (xs (z + 1).toNatClampNeg) (xs (z + 2).toNatClampNeg) (S 0)) ["java/lang/IndexOutOfBoundsException", "java/lang/IllegalArgumentException", "java/lang/UnsupportedOperationException"])), (5, .int z), (4, .ref (gA g 170)), (3, .ref (gA g 169)), (2, .ref (gA g (jM 0))), (1, .ref (gA g 0)), (0, .ref b)]) hx hb dL_law_960 hl (by decide) rfl (fun ls hl => ?_)
  refine lv_aload_n hx hb dL_law_962 rfl (lv_at hl 5 rfl) ?_
  refine kc_i hw (va_runV (As := []) (rest := []) ⟨hx, hb, hml, hc.2.2.1, hc.2.2.2⟩ (m_X7_thrown l g S1 (f_X7_extend (xs (z + 1).toNatClampNeg) (xs (z + 2).toNatClampNeg) M).2 o1) (kw_V hc 0 q1125 q1126 q1127 q8 q1128 rfl rfl (by decide +kernel) ⟨Nat.le_of_ble_eq_true rfl, Nat.le_of_ble_eq_true rfl⟩) (kp_V hk hw at_M rfl) rfl rfl hl.1 rfl (lv_room (Nat.le_of_ble_eq_true rfl)) dL_law_963 ⟨by show cells + 4 + 0 ≤ 603072; omega, by show slots + 24 + 0 ≤ 7190634; omega⟩) (fun H locs hw => ?_)
  refine lv_iload hx hb dL_law_966 (lv_at hl 1 rfl) ?_
  refine lv_icmp_eq (tgt := 973) hx hb dL_law_968 (by decide) (fun _ => ?_) (fun h9 => absurd hsim.1 h9)
  refine lv_iload hx hb dL_law_973 (lv_at hl 1 rfl) ?_
  refine lv_if_ne (tgt := 990) hx hb dL_law_975 (by decide) (fun _ => ?_) (fun h9 => ?_)
  · refine lv_goto (tgt := 2293) hx hb dL_law_990 (by decide) ?_
    refine W.widen (k := cells + 5) (n := slots + 30) (by omega) (by omega) ?_
    exact kk _ _ _ _ _ _ hV1 hw (lv_sub hl [2, 3, 4, 5, 6, 7] rfl)
  · have he0 := kE_none (by decide) (h9)
    refine lv_aload_n hx hb dL_law_978 rfl (lv_at hl 4 rfl) ?_
    refine lv_iconst (v := 0) hx hb dL_law_979 (by decide) ?_
    refine k_lald hc hk hw dL_law_980 ?_
    refine vn_l (v9 := (f_X6_extend (xs (z + 1).toNatClampNeg) (xs (z + 2).toNatClampNeg) (S 0)).1.toInt64) (by rw [← ho1, if_pos he0]; exact lw_uL o.1 0 _) ?_
    refine lv_iload hx hb dL_law_981 (lv_at hl 0 rfl) ?_
    refine lv_i2l hx hb dL_law_983 rfl ?_
    refine W.lcmp hx hb dL_law_984 ?_
    refine lv_if_eq (tgt := 990) hx hb dL_law_985 (by decide) (fun _ => ?_) (fun h9 => absurd (by rw [show (f_X6_extend (xs (z + 1).toNatClampNeg) (xs (z + 2).toNatClampNeg) (S 0)).1.toInt64 = ((f_X7_extend (xs (z + 1).toNatClampNeg) (xs (z + 2).toNatClampNeg) M).1.toInt64) from congrArg Int32.toInt64 (hsim.2.1 he0).symm]; exact lw_self _) h9)
    refine lv_goto (tgt := 2293) hx hb dL_law_990 (by decide) ?_
    refine W.widen (k := cells + 5) (n := slots + 30) (by omega) (by omega) ?_
    exact kk _ _ _ _ _ _ hV1 hw (lv_sub hl [2, 3, 4, 5, 6, 7] rfl)
set_option maxHeartbeats 4000000 in
set_option maxRecDepth 100000 in
theorem lc_13 {p : Program} {l : Launch} {e : Env} {s : State} {m : MethodId} {below : List Frame} {meth : Method} {c : Code} {b Ls : Nat} {xs : Nat → Int32} {g : wG} {Q : State → Prop} {S : Nat → BT} {M : BT} {o : (Nat → Int64) × (Nat → UInt64)} {t cells slots : Nat} {z : Int32} {H : Heap} {locs : List Loc} {ls : Array Slot}
    (C9 : LC p l s m c b Ls xs g) (hz : z = nI (5 * t)) (hlt : 5 * t + 5 ≤ Ls) (hL : Ls ≤ 2560) (hV : sm_V S M t) (hcs : cells + 5 ≤ 603072) (hss : slots + 30 ≤ 7190634) (hw : WS g s (S, (M, o)) H locs) (hl : lv_has ls 9 (lw_lv g b z))
    (kk : LK p l e s m below meth c b g z (t + 1) (cells + 5) (slots + 30) Q) : W p l e room_1 s m #[Value.ref b] below meth c H locs cells slots Q (F0 m 993 ls []) := by
  obtain ⟨hc, hml, hk, hX, hbl, hbA, hfl⟩ := C9
  have hx := hc.1
  have hb := hc.2.1
  have ht5 : t < 512 := by omega
  obtain ⟨n9, m9, n8, m8, hN, hN1, hMN, hev, hev2⟩ := hV.c
  refine lv_aload_n hx hb dL_law_993 rfl (lv_at hl 4 rfl) ?_
  refine lv_aload_n hx hb dL_law_994 rfl (lv_at hl 5 rfl) ?_
  refine lv_iload hx hb dL_law_995 (lv_at hl 0 rfl) ?_
  refine lv_iconst (v := 1) hx hb dL_law_997 (by decide) ?_
  refine lv_iadd hx hb dL_law_998 ?_
  refine va_sld hx hb hX hbl hbA hw.2 (sm_scr (j := 1) hz hlt hL (by decide)) dL_law_999 ?_
  refine lv_aload_n hx hb dL_law_1000 rfl (lv_at hl 2 rfl) ?_
  have hw0 : WS g s (xB S 0 (S 0) (M, o)) H locs := hw.eqv (by rw [xB, va_up_id])
  refine kc_i hw0 (vx_runSW (hh := [(0, 9, 12, 25), (0, 9, 15, 31)]) (As := [.ref (gA g 0), .int (xs (z + 1).toNatClampNeg), .ref (gA g 169)]) (rest := []) ⟨hx, hb, hml, hc.2.2.1, hc.2.2.2⟩ (m_L_remind l g hfl S (S 0) (M, o) (xs (z + 1).toNatClampNeg) _ _ hN hev) (kw_SW hc 3 q806 q807 q0 q808 rfl rfl (by decide +kernel) ⟨Nat.le_of_ble_eq_true rfl, Nat.le_of_ble_eq_true rfl⟩) (kp_S hk hw0) rfl rfl hl.1 rfl (lv_room (Nat.le_of_ble_eq_true rfl)) dL_law_1001 ⟨by show cells + 3 ≤ 603072; omega, by show slots + 18 ≤ 7190634; omega⟩) (fun H locs hw => ?_)
  have hw : WS g s ((if e_X6_remind (xs (z + 1).toNatClampNeg) (S 0) = none then va_up (f_X2_keep 11 (xs (z + 1).toNatClampNeg) 0 0 0 S) 0 (f_X6_remind (xs (z + 1).toNatClampNeg) (S 0)).2 else S), (M, (if e_X6_remind (xs (z + 1).toNatClampNeg) (S 0) = none then vp_updL o.1 0 (f_X6_remind (xs (z + 1).toNatClampNeg) (S 0)).1.toInt64 else o.1, o.2))) H locs := hw.eqv (by rw [show (xB S 0 (S 0) (M, o) : wSt) = (S, (M, o)) by rw [xB, va_up_id]]; exact wst_l)
  have hsim := sm_remind hV ht5 (xs (z + 1).toNatClampNeg)
  have hV1 : sm_V (if e_X6_remind (xs (z + 1).toNatClampNeg) (S 0) = none then va_up (f_X2_keep 11 (xs (z + 1).toNatClampNeg) 0 0 0 S) 0 (f_X6_remind (xs (z + 1).toNatClampNeg) (S 0)).2 else S) (f_X7_remind (xs (z + 1).toNatClampNeg) M).2 (t + 1) := hsim.2.2
  generalize hS1 : (if e_X6_remind (xs (z + 1).toNatClampNeg) (S 0) = none then va_up (f_X2_keep 11 (xs (z + 1).toNatClampNeg) 0 0 0 S) 0 (f_X6_remind (xs (z + 1).toNatClampNeg) (S 0)).2 else S) = S1 at hw hV1
  generalize ho1 : ((if e_X6_remind (xs (z + 1).toNatClampNeg) (S 0) = none then vp_updL o.1 0 (f_X6_remind (xs (z + 1).toNatClampNeg) (S 0)).1.toInt64 else o.1, o.2) : (Nat → Int64) × (Nat → UInt64)) = o1 at hw
  refine lv_istore (lv' := [(6, .int (kE (e_X6_remind (xs (z + 1).toNatClampNeg) (S 0)) ["java/lang/IndexOutOfBoundsException", "java/lang/UnsupportedOperationException"])), (5, .int z), (4, .ref (gA g 170)), (3, .ref (gA g 169)), (2, .ref (gA g (jM 0))), (1, .ref (gA g 0)), (0, .ref b)]) hx hb dL_law_1004 hl (by decide) rfl (fun ls hl => ?_)
  refine lv_aload_n hx hb dL_law_1006 rfl (lv_at hl 4 rfl) ?_
  refine lv_aload_n hx hb dL_law_1007 rfl (lv_at hl 6 rfl) ?_
  refine lv_iload hx hb dL_law_1008 (lv_at hl 1 rfl) ?_
  refine lv_iconst (v := 1) hx hb dL_law_1010 (by decide) ?_
  refine lv_iadd hx hb dL_law_1011 ?_
  refine va_sld hx hb hX hbl hbA hw.2 (sm_scr (j := 1) hz hlt hL (by decide)) dL_law_1012 ?_
  refine kc_i hw (va_runV (As := [.int (xs (z + 1).toNatClampNeg)]) (rest := []) ⟨hx, hb, hml, hc.2.2.1, hc.2.2.2⟩ (m_X7_remind l g S1 M o1 (xs (z + 1).toNatClampNeg) _ _ hMN) (kw_V hc 1 q1226 q1227 q1228 q8 q1229 rfl rfl (by decide +kernel) ⟨Nat.le_of_ble_eq_true rfl, Nat.le_of_ble_eq_true rfl⟩) (kp_V hk hw at_M rfl) rfl rfl hl.1 rfl (lv_room (Nat.le_of_ble_eq_true rfl)) dL_law_1013 ⟨by show cells + 3 + 0 ≤ 603072; omega, by show slots + 18 + 0 ≤ 7190634; omega⟩) (fun H locs hw => ?_)
  refine lv_istore (lv' := [(7, .int (f_X7_remind (xs (z + 1).toNatClampNeg) M).1), (6, .int (kE (e_X6_remind (xs (z + 1).toNatClampNeg) (S 0)) ["java/lang/IndexOutOfBoundsException", "java/lang/UnsupportedOperationException"])), (5, .int z), (4, .ref (gA g 170)), (3, .ref (gA g 169)), (2, .ref (gA g (jM 0))), (1, .ref (gA g 0)), (0, .ref b)]) hx hb dL_law_1016 hl (by decide) rfl (fun ls hl => ?_)
  refine lv_aload_n hx hb dL_law_1018 rfl (lv_at hl 5 rfl) ?_
  refine kc_i hw (va_runV (As := []) (rest := []) ⟨hx, hb, hml, hc.2.2.1, hc.2.2.2⟩ (m_X7_thrown l g S1 (f_X7_remind (xs (z + 1).toNatClampNeg) M).2 o1) (kw_V hc 0 q1125 q1126 q1127 q8 q1128 rfl rfl (by decide +kernel) ⟨Nat.le_of_ble_eq_true rfl, Nat.le_of_ble_eq_true rfl⟩) (kp_V hk hw at_M rfl) rfl rfl hl.1 rfl (lv_room (Nat.le_of_ble_eq_true rfl)) dL_law_1019 ⟨by show cells + 3 + 0 ≤ 603072; omega, by show slots + 18 + 0 ≤ 7190634; omega⟩) (fun H locs hw => ?_)
  refine lv_iload hx hb dL_law_1022 (lv_at hl 1 rfl) ?_
  refine lv_icmp_eq (tgt := 1029) hx hb dL_law_1024 (by decide) (fun _ => ?_) (fun h9 => absurd hsim.1 h9)
  refine lv_iload hx hb dL_law_1029 (lv_at hl 1 rfl) ?_
  refine lv_if_ne (tgt := 1046) hx hb dL_law_1031 (by decide) (fun _ => ?_) (fun h9 => ?_)
  · refine lv_goto (tgt := 2293) hx hb dL_law_1046 (by decide) ?_
    refine W.widen (k := cells + 5) (n := slots + 30) (by omega) (by omega) ?_
    exact kk _ _ _ _ _ _ hV1 hw (lv_sub hl [2, 3, 4, 5, 6, 7] rfl)
  · have he0 := kE_none (by decide) (h9)
    refine lv_aload_n hx hb dL_law_1034 rfl (lv_at hl 4 rfl) ?_
    refine lv_iconst (v := 0) hx hb dL_law_1035 (by decide) ?_
    refine k_lald hc hk hw dL_law_1036 ?_
    refine vn_l (v9 := (f_X6_remind (xs (z + 1).toNatClampNeg) (S 0)).1.toInt64) (by rw [← ho1, if_pos he0]; exact lw_uL o.1 0 _) ?_
    refine lv_iload hx hb dL_law_1037 (lv_at hl 0 rfl) ?_
    refine lv_i2l hx hb dL_law_1039 rfl ?_
    refine W.lcmp hx hb dL_law_1040 ?_
    refine lv_if_eq (tgt := 1046) hx hb dL_law_1041 (by decide) (fun _ => ?_) (fun h9 => absurd (by rw [show (f_X6_remind (xs (z + 1).toNatClampNeg) (S 0)).1.toInt64 = ((f_X7_remind (xs (z + 1).toNatClampNeg) M).1.toInt64) from congrArg Int32.toInt64 (hsim.2.1 he0).symm]; exact lw_self _) h9)
    refine lv_goto (tgt := 2293) hx hb dL_law_1046 (by decide) ?_
    refine W.widen (k := cells + 5) (n := slots + 30) (by omega) (by omega) ?_
    exact kk _ _ _ _ _ _ hV1 hw (lv_sub hl [2, 3, 4, 5, 6, 7] rfl)
set_option maxHeartbeats 4000000 in
set_option maxRecDepth 100000 in
theorem lc_14 {p : Program} {l : Launch} {e : Env} {s : State} {m : MethodId} {below : List Frame} {meth : Method} {c : Code} {b Ls : Nat} {xs : Nat → Int32} {g : wG} {Q : State → Prop} {S : Nat → BT} {M : BT} {o : (Nat → Int64) × (Nat → UInt64)} {t cells slots : Nat} {z : Int32} {H : Heap} {locs : List Loc} {ls : Array Slot}
    (C9 : LC p l s m c b Ls xs g) (hz : z = nI (5 * t)) (hlt : 5 * t + 5 ≤ Ls) (hL : Ls ≤ 2560) (hV : sm_V S M t) (hcs : cells + 5 ≤ 603072) (hss : slots + 30 ≤ 7190634) (hw : WS g s (S, (M, o)) H locs) (hl : lv_has ls 9 (lw_lv g b z))
    (kk : LK p l e s m below meth c b g z (t + 1) (cells + 5) (slots + 30) Q) : W p l e room_1 s m #[Value.ref b] below meth c H locs cells slots Q (F0 m 1049 ls []) := by
  obtain ⟨hc, hml, hk, hX, hbl, hbA, hfl⟩ := C9
  have hx := hc.1
  have hb := hc.2.1
  have ht5 : t < 512 := by omega
  obtain ⟨n9, m9, n8, m8, hN, hN1, hMN, hev, hev2⟩ := hV.c
  refine lv_aload_n hx hb dL_law_1049 rfl (lv_at hl 4 rfl) ?_
  refine lv_aload_n hx hb dL_law_1050 rfl (lv_at hl 5 rfl) ?_
  refine lv_iload hx hb dL_law_1051 (lv_at hl 0 rfl) ?_
  refine lv_iconst (v := 1) hx hb dL_law_1053 (by decide) ?_
  refine lv_iadd hx hb dL_law_1054 ?_
  refine va_sld hx hb hX hbl hbA hw.2 (sm_scr (j := 1) hz hlt hL (by decide)) dL_law_1055 ?_
  refine lv_aload_n hx hb dL_law_1056 rfl (lv_at hl 2 rfl) ?_
  have hw0 : WS g s (xB S 0 (S 0) (M, o)) H locs := hw.eqv (by rw [xB, va_up_id])
  refine kc_i hw0 (vx_runSW (hh := [(0, 9, 12, 25), (0, 9, 15, 31)]) (As := [.ref (gA g 0), .int (xs (z + 1).toNatClampNeg), .ref (gA g 169)]) (rest := []) ⟨hx, hb, hml, hc.2.2.1, hc.2.2.2⟩ (m_L_answer l g hfl S (S 0) (M, o) (xs (z + 1).toNatClampNeg) _ _ hN hev) (kw_SW hc 3 q814 q815 q0 q816 rfl rfl (by decide +kernel) ⟨Nat.le_of_ble_eq_true rfl, Nat.le_of_ble_eq_true rfl⟩) (kp_S hk hw0) rfl rfl hl.1 rfl (lv_room (Nat.le_of_ble_eq_true rfl)) dL_law_1057 ⟨by show cells + 2 ≤ 603072; omega, by show slots + 12 ≤ 7190634; omega⟩) (fun H locs hw => ?_)
  have hw : WS g s ((if e_X6_answer (xs (z + 1).toNatClampNeg) (S 0) = none then va_up (f_X2_keep 12 (xs (z + 1).toNatClampNeg) 0 0 0 S) 0 (f_X6_answer (xs (z + 1).toNatClampNeg) (S 0)).2 else S), (M, (if e_X6_answer (xs (z + 1).toNatClampNeg) (S 0) = none then vp_updL o.1 0 (f_X6_answer (xs (z + 1).toNatClampNeg) (S 0)).1.toInt64 else o.1, o.2))) H locs := hw.eqv (by rw [show (xB S 0 (S 0) (M, o) : wSt) = (S, (M, o)) by rw [xB, va_up_id]]; exact wst_l)
  have hsim := sm_answer hV ht5 (xs (z + 1).toNatClampNeg)
  have hV1 : sm_V (if e_X6_answer (xs (z + 1).toNatClampNeg) (S 0) = none then va_up (f_X2_keep 12 (xs (z + 1).toNatClampNeg) 0 0 0 S) 0 (f_X6_answer (xs (z + 1).toNatClampNeg) (S 0)).2 else S) (f_X7_answer (xs (z + 1).toNatClampNeg) M).2 (t + 1) := hsim.2.2
  generalize hS1 : (if e_X6_answer (xs (z + 1).toNatClampNeg) (S 0) = none then va_up (f_X2_keep 12 (xs (z + 1).toNatClampNeg) 0 0 0 S) 0 (f_X6_answer (xs (z + 1).toNatClampNeg) (S 0)).2 else S) = S1 at hw hV1
  generalize ho1 : ((if e_X6_answer (xs (z + 1).toNatClampNeg) (S 0) = none then vp_updL o.1 0 (f_X6_answer (xs (z + 1).toNatClampNeg) (S 0)).1.toInt64 else o.1, o.2) : (Nat → Int64) × (Nat → UInt64)) = o1 at hw
  refine lv_istore (lv' := [(6, .int (kE (e_X6_answer (xs (z + 1).toNatClampNeg) (S 0)) ["java/lang/IndexOutOfBoundsException", "java/lang/UnsupportedOperationException"])), (5, .int z), (4, .ref (gA g 170)), (3, .ref (gA g 169)), (2, .ref (gA g (jM 0))), (1, .ref (gA g 0)), (0, .ref b)]) hx hb dL_law_1060 hl (by decide) rfl (fun ls hl => ?_)
  refine lv_aload_n hx hb dL_law_1062 rfl (lv_at hl 4 rfl) ?_
  refine lv_aload_n hx hb dL_law_1063 rfl (lv_at hl 6 rfl) ?_
  refine lv_iload hx hb dL_law_1064 (lv_at hl 1 rfl) ?_
  refine lv_iconst (v := 1) hx hb dL_law_1066 (by decide) ?_
  refine lv_iadd hx hb dL_law_1067 ?_
  refine va_sld hx hb hX hbl hbA hw.2 (sm_scr (j := 1) hz hlt hL (by decide)) dL_law_1068 ?_
  refine kc_i hw (va_runV (As := [.int (xs (z + 1).toNatClampNeg)]) (rest := []) ⟨hx, hb, hml, hc.2.2.1, hc.2.2.2⟩ (m_X7_answer l g S1 M o1 (xs (z + 1).toNatClampNeg) _ _ hMN) (kw_V hc 1 q1230 q1231 q1232 q8 q1233 rfl rfl (by decide +kernel) ⟨Nat.le_of_ble_eq_true rfl, Nat.le_of_ble_eq_true rfl⟩) (kp_V hk hw at_M rfl) rfl rfl hl.1 rfl (lv_room (Nat.le_of_ble_eq_true rfl)) dL_law_1069 ⟨by show cells + 2 + 0 ≤ 603072; omega, by show slots + 12 + 0 ≤ 7190634; omega⟩) (fun H locs hw => ?_)
  refine lv_istore (lv' := [(7, .int (f_X7_answer (xs (z + 1).toNatClampNeg) M).1), (6, .int (kE (e_X6_answer (xs (z + 1).toNatClampNeg) (S 0)) ["java/lang/IndexOutOfBoundsException", "java/lang/UnsupportedOperationException"])), (5, .int z), (4, .ref (gA g 170)), (3, .ref (gA g 169)), (2, .ref (gA g (jM 0))), (1, .ref (gA g 0)), (0, .ref b)]) hx hb dL_law_1072 hl (by decide) rfl (fun ls hl => ?_)
  refine lv_aload_n hx hb dL_law_1074 rfl (lv_at hl 5 rfl) ?_
  refine kc_i hw (va_runV (As := []) (rest := []) ⟨hx, hb, hml, hc.2.2.1, hc.2.2.2⟩ (m_X7_thrown l g S1 (f_X7_answer (xs (z + 1).toNatClampNeg) M).2 o1) (kw_V hc 0 q1125 q1126 q1127 q8 q1128 rfl rfl (by decide +kernel) ⟨Nat.le_of_ble_eq_true rfl, Nat.le_of_ble_eq_true rfl⟩) (kp_V hk hw at_M rfl) rfl rfl hl.1 rfl (lv_room (Nat.le_of_ble_eq_true rfl)) dL_law_1075 ⟨by show cells + 2 + 0 ≤ 603072; omega, by show slots + 12 + 0 ≤ 7190634; omega⟩) (fun H locs hw => ?_)
  refine lv_iload hx hb dL_law_1078 (lv_at hl 1 rfl) ?_
  refine lv_icmp_eq (tgt := 1085) hx hb dL_law_1080 (by decide) (fun _ => ?_) (fun h9 => absurd hsim.1 h9)
  refine lv_iload hx hb dL_law_1085 (lv_at hl 1 rfl) ?_
  refine lv_if_ne (tgt := 1102) hx hb dL_law_1087 (by decide) (fun _ => ?_) (fun h9 => ?_)
  · refine lv_goto (tgt := 2293) hx hb dL_law_1102 (by decide) ?_
    refine W.widen (k := cells + 5) (n := slots + 30) (by omega) (by omega) ?_
    exact kk _ _ _ _ _ _ hV1 hw (lv_sub hl [2, 3, 4, 5, 6, 7] rfl)
  · have he0 := kE_none (by decide) (h9)
    refine lv_aload_n hx hb dL_law_1090 rfl (lv_at hl 4 rfl) ?_
    refine lv_iconst (v := 0) hx hb dL_law_1091 (by decide) ?_
    refine k_lald hc hk hw dL_law_1092 ?_
    refine vn_l (v9 := (f_X6_answer (xs (z + 1).toNatClampNeg) (S 0)).1.toInt64) (by rw [← ho1, if_pos he0]; exact lw_uL o.1 0 _) ?_
    refine lv_iload hx hb dL_law_1093 (lv_at hl 0 rfl) ?_
    refine lv_i2l hx hb dL_law_1095 rfl ?_
    refine W.lcmp hx hb dL_law_1096 ?_
    refine lv_if_eq (tgt := 1102) hx hb dL_law_1097 (by decide) (fun _ => ?_) (fun h9 => absurd (by rw [show (f_X6_answer (xs (z + 1).toNatClampNeg) (S 0)).1.toInt64 = ((f_X7_answer (xs (z + 1).toNatClampNeg) M).1.toInt64) from congrArg Int32.toInt64 (hsim.2.1 he0).symm]; exact lw_self _) h9)
    refine lv_goto (tgt := 2293) hx hb dL_law_1102 (by decide) ?_
    refine W.widen (k := cells + 5) (n := slots + 30) (by omega) (by omega) ?_
    exact kk _ _ _ _ _ _ hV1 hw (lv_sub hl [2, 3, 4, 5, 6, 7] rfl)
set_option maxHeartbeats 4000000 in
set_option maxRecDepth 100000 in
theorem lc_15 {p : Program} {l : Launch} {e : Env} {s : State} {m : MethodId} {below : List Frame} {meth : Method} {c : Code} {b Ls : Nat} {xs : Nat → Int32} {g : wG} {Q : State → Prop} {S : Nat → BT} {M : BT} {o : (Nat → Int64) × (Nat → UInt64)} {t cells slots : Nat} {z : Int32} {H : Heap} {locs : List Loc} {ls : Array Slot}
    (C9 : LC p l s m c b Ls xs g) (hz : z = nI (5 * t)) (hlt : 5 * t + 5 ≤ Ls) (hL : Ls ≤ 2560) (hV : sm_V S M t) (hcs : cells + 5 ≤ 603072) (hss : slots + 30 ≤ 7190634) (hw : WS g s (S, (M, o)) H locs) (hl : lv_has ls 9 (lw_lv g b z))
    (kk : LK p l e s m below meth c b g z (t + 1) (cells + 5) (slots + 30) Q) : W p l e room_1 s m #[Value.ref b] below meth c H locs cells slots Q (F0 m 1105 ls []) := by
  obtain ⟨hc, hml, hk, hX, hbl, hbA, hfl⟩ := C9
  have hx := hc.1
  have hb := hc.2.1
  have ht5 : t < 512 := by omega
  obtain ⟨n9, m9, n8, m8, hN, hN1, hMN, hev, hev2⟩ := hV.c
  refine lv_aload_n hx hb dL_law_1105 rfl (lv_at hl 4 rfl) ?_
  refine lv_aload_n hx hb dL_law_1106 rfl (lv_at hl 5 rfl) ?_
  refine lv_iload hx hb dL_law_1107 (lv_at hl 0 rfl) ?_
  refine lv_iconst (v := 1) hx hb dL_law_1109 (by decide) ?_
  refine lv_iadd hx hb dL_law_1110 ?_
  refine va_sld hx hb hX hbl hbA hw.2 (sm_scr (j := 1) hz hlt hL (by decide)) dL_law_1111 ?_
  refine lv_aload_n hx hb dL_law_1112 rfl (lv_at hl 2 rfl) ?_
  have hw0 : WS g s (xB S 0 (S 0) (M, o)) H locs := hw.eqv (by rw [xB, va_up_id])
  refine kc_i hw0 (vx_runSW (hh := [(0, 9, 12, 25), (0, 9, 15, 31)]) (As := [.ref (gA g 0), .int (xs (z + 1).toNatClampNeg), .ref (gA g 169)]) (rest := []) ⟨hx, hb, hml, hc.2.2.1, hc.2.2.2⟩ (m_L_takeSilence l g hfl S (S 0) (M, o) (xs (z + 1).toNatClampNeg) _ _ hN hev) (kw_SW hc 3 q821 q822 q0 q823 rfl rfl (by decide +kernel) ⟨Nat.le_of_ble_eq_true rfl, Nat.le_of_ble_eq_true rfl⟩) (kp_S hk hw0) rfl rfl hl.1 rfl (lv_room (Nat.le_of_ble_eq_true rfl)) dL_law_1113 ⟨by show cells + 3 ≤ 603072; omega, by show slots + 18 ≤ 7190634; omega⟩) (fun H locs hw => ?_)
  have hw : WS g s ((if e_X6_takeSilence (xs (z + 1).toNatClampNeg) (S 0) = none then va_up (f_X2_keep 13 (xs (z + 1).toNatClampNeg) 0 0 0 S) 0 (f_X6_takeSilence (xs (z + 1).toNatClampNeg) (S 0)).2 else S), (M, (if e_X6_takeSilence (xs (z + 1).toNatClampNeg) (S 0) = none then vp_updL o.1 0 (f_X6_takeSilence (xs (z + 1).toNatClampNeg) (S 0)).1.toInt64 else o.1, o.2))) H locs := hw.eqv (by rw [show (xB S 0 (S 0) (M, o) : wSt) = (S, (M, o)) by rw [xB, va_up_id]]; exact wst_l)
  have hsim := sm_takeSilence hV ht5 (xs (z + 1).toNatClampNeg)
  have hV1 : sm_V (if e_X6_takeSilence (xs (z + 1).toNatClampNeg) (S 0) = none then va_up (f_X2_keep 13 (xs (z + 1).toNatClampNeg) 0 0 0 S) 0 (f_X6_takeSilence (xs (z + 1).toNatClampNeg) (S 0)).2 else S) (f_X7_takeSilence (xs (z + 1).toNatClampNeg) M).2 (t + 1) := hsim.2.2
  generalize hS1 : (if e_X6_takeSilence (xs (z + 1).toNatClampNeg) (S 0) = none then va_up (f_X2_keep 13 (xs (z + 1).toNatClampNeg) 0 0 0 S) 0 (f_X6_takeSilence (xs (z + 1).toNatClampNeg) (S 0)).2 else S) = S1 at hw hV1
  generalize ho1 : ((if e_X6_takeSilence (xs (z + 1).toNatClampNeg) (S 0) = none then vp_updL o.1 0 (f_X6_takeSilence (xs (z + 1).toNatClampNeg) (S 0)).1.toInt64 else o.1, o.2) : (Nat → Int64) × (Nat → UInt64)) = o1 at hw
  refine lv_istore (lv' := [(6, .int (kE (e_X6_takeSilence (xs (z + 1).toNatClampNeg) (S 0)) ["java/lang/IndexOutOfBoundsException", "java/lang/UnsupportedOperationException"])), (5, .int z), (4, .ref (gA g 170)), (3, .ref (gA g 169)), (2, .ref (gA g (jM 0))), (1, .ref (gA g 0)), (0, .ref b)]) hx hb dL_law_1116 hl (by decide) rfl (fun ls hl => ?_)
  refine lv_aload_n hx hb dL_law_1118 rfl (lv_at hl 4 rfl) ?_
  refine lv_aload_n hx hb dL_law_1119 rfl (lv_at hl 6 rfl) ?_
  refine lv_iload hx hb dL_law_1120 (lv_at hl 1 rfl) ?_
  refine lv_iconst (v := 1) hx hb dL_law_1122 (by decide) ?_
  refine lv_iadd hx hb dL_law_1123 ?_
  refine va_sld hx hb hX hbl hbA hw.2 (sm_scr (j := 1) hz hlt hL (by decide)) dL_law_1124 ?_
  refine kc_i hw (va_runV (As := [.int (xs (z + 1).toNatClampNeg)]) (rest := []) ⟨hx, hb, hml, hc.2.2.1, hc.2.2.2⟩ (m_X7_takeSilence l g S1 M o1 (xs (z + 1).toNatClampNeg) _ _ hMN) (kw_V hc 1 q1234 q1235 q1236 q8 q1237 rfl rfl (by decide +kernel) ⟨Nat.le_of_ble_eq_true rfl, Nat.le_of_ble_eq_true rfl⟩) (kp_V hk hw at_M rfl) rfl rfl hl.1 rfl (lv_room (Nat.le_of_ble_eq_true rfl)) dL_law_1125 ⟨by show cells + 3 + 0 ≤ 603072; omega, by show slots + 18 + 0 ≤ 7190634; omega⟩) (fun H locs hw => ?_)
  refine lv_istore (lv' := [(7, .int (f_X7_takeSilence (xs (z + 1).toNatClampNeg) M).1), (6, .int (kE (e_X6_takeSilence (xs (z + 1).toNatClampNeg) (S 0)) ["java/lang/IndexOutOfBoundsException", "java/lang/UnsupportedOperationException"])), (5, .int z), (4, .ref (gA g 170)), (3, .ref (gA g 169)), (2, .ref (gA g (jM 0))), (1, .ref (gA g 0)), (0, .ref b)]) hx hb dL_law_1128 hl (by decide) rfl (fun ls hl => ?_)
  refine lv_aload_n hx hb dL_law_1130 rfl (lv_at hl 5 rfl) ?_
  refine kc_i hw (va_runV (As := []) (rest := []) ⟨hx, hb, hml, hc.2.2.1, hc.2.2.2⟩ (m_X7_thrown l g S1 (f_X7_takeSilence (xs (z + 1).toNatClampNeg) M).2 o1) (kw_V hc 0 q1125 q1126 q1127 q8 q1128 rfl rfl (by decide +kernel) ⟨Nat.le_of_ble_eq_true rfl, Nat.le_of_ble_eq_true rfl⟩) (kp_V hk hw at_M rfl) rfl rfl hl.1 rfl (lv_room (Nat.le_of_ble_eq_true rfl)) dL_law_1131 ⟨by show cells + 3 + 0 ≤ 603072; omega, by show slots + 18 + 0 ≤ 7190634; omega⟩) (fun H locs hw => ?_)
  refine lv_iload hx hb dL_law_1134 (lv_at hl 1 rfl) ?_
  refine lv_icmp_eq (tgt := 1141) hx hb dL_law_1136 (by decide) (fun _ => ?_) (fun h9 => absurd hsim.1 h9)
  refine lv_iload hx hb dL_law_1141 (lv_at hl 1 rfl) ?_
  refine lv_if_ne (tgt := 1158) hx hb dL_law_1143 (by decide) (fun _ => ?_) (fun h9 => ?_)
  · refine lv_goto (tgt := 2293) hx hb dL_law_1158 (by decide) ?_
    refine W.widen (k := cells + 5) (n := slots + 30) (by omega) (by omega) ?_
    exact kk _ _ _ _ _ _ hV1 hw (lv_sub hl [2, 3, 4, 5, 6, 7] rfl)
  · have he0 := kE_none (by decide) (h9)
    refine lv_aload_n hx hb dL_law_1146 rfl (lv_at hl 4 rfl) ?_
    refine lv_iconst (v := 0) hx hb dL_law_1147 (by decide) ?_
    refine k_lald hc hk hw dL_law_1148 ?_
    refine vn_l (v9 := (f_X6_takeSilence (xs (z + 1).toNatClampNeg) (S 0)).1.toInt64) (by rw [← ho1, if_pos he0]; exact lw_uL o.1 0 _) ?_
    refine lv_iload hx hb dL_law_1149 (lv_at hl 0 rfl) ?_
    refine lv_i2l hx hb dL_law_1151 rfl ?_
    refine W.lcmp hx hb dL_law_1152 ?_
    refine lv_if_eq (tgt := 1158) hx hb dL_law_1153 (by decide) (fun _ => ?_) (fun h9 => absurd (by rw [show (f_X6_takeSilence (xs (z + 1).toNatClampNeg) (S 0)).1.toInt64 = ((f_X7_takeSilence (xs (z + 1).toNatClampNeg) M).1.toInt64) from congrArg Int32.toInt64 (hsim.2.1 he0).symm]; exact lw_self _) h9)
    refine lv_goto (tgt := 2293) hx hb dL_law_1158 (by decide) ?_
    refine W.widen (k := cells + 5) (n := slots + 30) (by omega) (by omega) ?_
    exact kk _ _ _ _ _ _ hV1 hw (lv_sub hl [2, 3, 4, 5, 6, 7] rfl)
set_option maxHeartbeats 4000000 in
set_option maxRecDepth 100000 in
theorem lc_16 {p : Program} {l : Launch} {e : Env} {s : State} {m : MethodId} {below : List Frame} {meth : Method} {c : Code} {b Ls : Nat} {xs : Nat → Int32} {g : wG} {Q : State → Prop} {S : Nat → BT} {M : BT} {o : (Nat → Int64) × (Nat → UInt64)} {t cells slots : Nat} {z : Int32} {H : Heap} {locs : List Loc} {ls : Array Slot}
    (C9 : LC p l s m c b Ls xs g) (hz : z = nI (5 * t)) (hlt : 5 * t + 5 ≤ Ls) (hL : Ls ≤ 2560) (hV : sm_V S M t) (hcs : cells + 5 ≤ 603072) (hss : slots + 30 ≤ 7190634) (hw : WS g s (S, (M, o)) H locs) (hl : lv_has ls 9 (lw_lv g b z))
    (kk : LK p l e s m below meth c b g z (t + 1) (cells + 5) (slots + 30) Q) : W p l e room_1 s m #[Value.ref b] below meth c H locs cells slots Q (F0 m 1161 ls []) := by
  obtain ⟨hc, hml, hk, hX, hbl, hbA, hfl⟩ := C9
  have hx := hc.1
  have hb := hc.2.1
  have ht5 : t < 512 := by omega
  obtain ⟨n9, m9, n8, m8, hN, hN1, hMN, hev, hev2⟩ := hV.c
  refine lv_aload_n hx hb dL_law_1161 rfl (lv_at hl 4 rfl) ?_
  refine lv_aload_n hx hb dL_law_1162 rfl (lv_at hl 5 rfl) ?_
  refine lv_iload hx hb dL_law_1163 (lv_at hl 0 rfl) ?_
  refine lv_iconst (v := 1) hx hb dL_law_1165 (by decide) ?_
  refine lv_iadd hx hb dL_law_1166 ?_
  refine va_sld hx hb hX hbl hbA hw.2 (sm_scr (j := 1) hz hlt hL (by decide)) dL_law_1167 ?_
  refine lv_aload_n hx hb dL_law_1168 rfl (lv_at hl 2 rfl) ?_
  have hw0 : WS g s (xB S 0 (S 0) (M, o)) H locs := hw.eqv (by rw [xB, va_up_id])
  refine kc_i hw0 (vx_runSW (hh := [(0, 16, 19, 25)]) (As := [.ref (gA g 0), .int (xs (z + 1).toNatClampNeg), .ref (gA g 169)]) (rest := []) ⟨hx, hb, hml, hc.2.2.1, hc.2.2.2⟩ (m_L_isOverdue l g hfl S (S 0) (M, o) (xs (z + 1).toNatClampNeg) _ _ hN hev) (kw_SW hc 3 q829 q830 q0 q831 rfl rfl (by decide +kernel) ⟨Nat.le_of_ble_eq_true rfl, Nat.le_of_ble_eq_true rfl⟩) (kp_S hk hw0) rfl rfl hl.1 rfl (lv_room (Nat.le_of_ble_eq_true rfl)) dL_law_1169 ⟨by show cells + 1 ≤ 603072; omega, by show slots + 6 ≤ 7190634; omega⟩) (fun H locs hw => ?_)
  have hw : WS g s ((if e_X6_isOverdue (xs (z + 1).toNatClampNeg) (S 0) = none then S else S), (M, (if e_X6_isOverdue (xs (z + 1).toNatClampNeg) (S 0) = none then vp_updL o.1 0 (if (f_X6_isOverdue (xs (z + 1).toNatClampNeg) (S 0)) = 0 then 0 else 1) else o.1, o.2))) H locs := hw.eqv (by rw [show (xB S 0 (S 0) (M, o) : wSt) = (S, (M, o)) by rw [xB, va_up_id]]; simp only [xB, va_up_id]; exact wst_l)
  have hsim := sm_isOverdue hV (xs (z + 1).toNatClampNeg)
  have hV1 : sm_V (if e_X6_isOverdue (xs (z + 1).toNatClampNeg) (S 0) = none then S else S) (f_X7_isOverdue (xs (z + 1).toNatClampNeg) M).2 (t + 1) := hsim.2.2
  generalize hS1 : (if e_X6_isOverdue (xs (z + 1).toNatClampNeg) (S 0) = none then S else S) = S1 at hw hV1
  generalize ho1 : ((if e_X6_isOverdue (xs (z + 1).toNatClampNeg) (S 0) = none then vp_updL o.1 0 (if (f_X6_isOverdue (xs (z + 1).toNatClampNeg) (S 0)) = 0 then 0 else 1) else o.1, o.2) : (Nat → Int64) × (Nat → UInt64)) = o1 at hw
  refine lv_istore (lv' := [(6, .int (kE (e_X6_isOverdue (xs (z + 1).toNatClampNeg) (S 0)) ["java/lang/IndexOutOfBoundsException"])), (5, .int z), (4, .ref (gA g 170)), (3, .ref (gA g 169)), (2, .ref (gA g (jM 0))), (1, .ref (gA g 0)), (0, .ref b)]) hx hb dL_law_1172 hl (by decide) rfl (fun ls hl => ?_)
  refine lv_aload_n hx hb dL_law_1174 rfl (lv_at hl 4 rfl) ?_
  refine lv_aload_n hx hb dL_law_1175 rfl (lv_at hl 6 rfl) ?_
  refine lv_iload hx hb dL_law_1176 (lv_at hl 1 rfl) ?_
  refine lv_iconst (v := 1) hx hb dL_law_1178 (by decide) ?_
  refine lv_iadd hx hb dL_law_1179 ?_
  refine va_sld hx hb hX hbl hbA hw.2 (sm_scr (j := 1) hz hlt hL (by decide)) dL_law_1180 ?_
  refine kc_i hw (va_runV (As := [.int (xs (z + 1).toNatClampNeg)]) (rest := []) ⟨hx, hb, hml, hc.2.2.1, hc.2.2.2⟩ (m_X7_isOverdue l g S1 M o1 (xs (z + 1).toNatClampNeg) _ _ hMN) (kw_V hc 1 q1242 q1243 q1244 q8 q1245 rfl rfl (by decide +kernel) ⟨Nat.le_of_ble_eq_true rfl, Nat.le_of_ble_eq_true rfl⟩) (kp_V hk hw at_M rfl) rfl rfl hl.1 rfl (lv_room (Nat.le_of_ble_eq_true rfl)) dL_law_1181 ⟨by show cells + 1 + 0 ≤ 603072; omega, by show slots + 6 + 0 ≤ 7190634; omega⟩) (fun H locs hw => ?_)
  refine lv_istore (lv' := [(7, .int (f_X7_isOverdue (xs (z + 1).toNatClampNeg) M).1), (6, .int (kE (e_X6_isOverdue (xs (z + 1).toNatClampNeg) (S 0)) ["java/lang/IndexOutOfBoundsException"])), (5, .int z), (4, .ref (gA g 170)), (3, .ref (gA g 169)), (2, .ref (gA g (jM 0))), (1, .ref (gA g 0)), (0, .ref b)]) hx hb dL_law_1184 hl (by decide) rfl (fun ls hl => ?_)
  refine lv_aload_n hx hb dL_law_1186 rfl (lv_at hl 5 rfl) ?_
  refine kc_i hw (va_runV (As := []) (rest := []) ⟨hx, hb, hml, hc.2.2.1, hc.2.2.2⟩ (m_X7_thrown l g S1 (f_X7_isOverdue (xs (z + 1).toNatClampNeg) M).2 o1) (kw_V hc 0 q1125 q1126 q1127 q8 q1128 rfl rfl (by decide +kernel) ⟨Nat.le_of_ble_eq_true rfl, Nat.le_of_ble_eq_true rfl⟩) (kp_V hk hw at_M rfl) rfl rfl hl.1 rfl (lv_room (Nat.le_of_ble_eq_true rfl)) dL_law_1187 ⟨by show cells + 1 + 0 ≤ 603072; omega, by show slots + 6 + 0 ≤ 7190634; omega⟩) (fun H locs hw => ?_)
  refine lv_iload hx hb dL_law_1190 (lv_at hl 1 rfl) ?_
  refine lv_icmp_eq (tgt := 1197) hx hb dL_law_1192 (by decide) (fun _ => ?_) (fun h9 => absurd hsim.1 h9)
  refine lv_iload hx hb dL_law_1197 (lv_at hl 1 rfl) ?_
  refine lv_if_ne (tgt := 1221) hx hb dL_law_1199 (by decide) (fun _ => ?_) (fun h9 => ?_)
  · refine lv_goto (tgt := 2293) hx hb dL_law_1221 (by decide) ?_
    refine W.widen (k := cells + 5) (n := slots + 30) (by omega) (by omega) ?_
    exact kk _ _ _ _ _ _ hV1 hw (lv_sub hl [2, 3, 4, 5, 6, 7] rfl)
  · have he0 := kE_none (by decide) (h9)
    refine lv_aload_n hx hb dL_law_1202 rfl (lv_at hl 4 rfl) ?_
    refine lv_iconst (v := 0) hx hb dL_law_1203 (by decide) ?_
    refine k_lald hc hk hw dL_law_1204 ?_
    refine vn_l (v9 := (if (f_X6_isOverdue (xs (z + 1).toNatClampNeg) (S 0)) = 0 then 0 else 1)) (by rw [← ho1, if_pos he0]; exact lw_uL o.1 0 _) ?_
    refine lv_iload hx hb dL_law_1205 (lv_at hl 0 rfl) ?_
    refine lv_if_eq (tgt := 1214) hx hb dL_law_1207 (by decide) (fun h7 => ?_) (fun h7 => ?_)
    · refine lv_lconst (v := 0) hx hb dL_law_1214 (by decide) ?_
      refine W.lcmp hx hb dL_law_1215 ?_
      refine lv_if_eq (tgt := 1221) hx hb dL_law_1216 (by decide) (fun _ => ?_) (fun h9 => absurd (by rw [show (if (f_X6_isOverdue (xs (z + 1).toNatClampNeg) (S 0)) = 0 then 0 else 1) = (0 : Int64) from (if_pos ((hsim.2.1 he0).symm.trans h7))]; exact lw_self _) h9)
      refine lv_goto (tgt := 2293) hx hb dL_law_1221 (by decide) ?_
      refine W.widen (k := cells + 5) (n := slots + 30) (by omega) (by omega) ?_
      exact kk _ _ _ _ _ _ hV1 hw (lv_sub hl [2, 3, 4, 5, 6, 7] rfl)
    · refine lv_lconst (v := 1) hx hb dL_law_1210 (by decide) ?_
      refine lv_goto (tgt := 1215) hx hb dL_law_1211 (by decide) ?_
      refine W.lcmp hx hb dL_law_1215 ?_
      refine lv_if_eq (tgt := 1221) hx hb dL_law_1216 (by decide) (fun _ => ?_) (fun h9 => absurd (by rw [show (if (f_X6_isOverdue (xs (z + 1).toNatClampNeg) (S 0)) = 0 then 0 else 1) = (1 : Int64) from (if_neg (fun w => h7 ((hsim.2.1 he0).trans w)))]; exact lw_self _) h9)
      refine lv_goto (tgt := 2293) hx hb dL_law_1221 (by decide) ?_
      refine W.widen (k := cells + 5) (n := slots + 30) (by omega) (by omega) ?_
      exact kk _ _ _ _ _ _ hV1 hw (lv_sub hl [2, 3, 4, 5, 6, 7] rfl)
set_option maxHeartbeats 4000000 in
set_option maxRecDepth 100000 in
theorem lc_17 {p : Program} {l : Launch} {e : Env} {s : State} {m : MethodId} {below : List Frame} {meth : Method} {c : Code} {b Ls : Nat} {xs : Nat → Int32} {g : wG} {Q : State → Prop} {S : Nat → BT} {M : BT} {o : (Nat → Int64) × (Nat → UInt64)} {t cells slots : Nat} {z : Int32} {H : Heap} {locs : List Loc} {ls : Array Slot}
    (C9 : LC p l s m c b Ls xs g) (hz : z = nI (5 * t)) (hlt : 5 * t + 5 ≤ Ls) (hL : Ls ≤ 2560) (hV : sm_V S M t) (hcs : cells + 5 ≤ 603072) (hss : slots + 30 ≤ 7190634) (hw : WS g s (S, (M, o)) H locs) (hl : lv_has ls 9 (lw_lv g b z))
    (kk : LK p l e s m below meth c b g z (t + 1) (cells + 5) (slots + 30) Q) : W p l e room_1 s m #[Value.ref b] below meth c H locs cells slots Q (F0 m 1224 ls []) := by
  obtain ⟨hc, hml, hk, hX, hbl, hbA, hfl⟩ := C9
  have hx := hc.1
  have hb := hc.2.1
  have ht5 : t < 512 := by omega
  obtain ⟨n9, m9, n8, m8, hN, hN1, hMN, hev, hev2⟩ := hV.c
  refine lv_aload_n hx hb dL_law_1224 rfl (lv_at hl 4 rfl) ?_
  refine lv_aload_n hx hb dL_law_1225 rfl (lv_at hl 2 rfl) ?_
  have hw0 : WS g s (xB S 0 (S 0) (M, o)) H locs := hw.eqv (by rw [xB, va_up_id])
  refine kc_i hw0 (vx_runSW (hh := [(0, 8, 11, 76)]) (As := [.ref (gA g 0), .ref (gA g 169)]) (rest := []) ⟨hx, hb, hml, hc.2.2.1, hc.2.2.2⟩ (m_L_nextDue l g hfl S (S 0) (M, o) _ _ hN hev) (kw_SW hc 2 q837 q838 q0 q839 rfl rfl (by decide +kernel) ⟨Nat.le_of_ble_eq_true rfl, Nat.le_of_ble_eq_true rfl⟩) (kp_S hk hw0) rfl rfl hl.1 rfl (lv_room (Nat.le_of_ble_eq_true rfl)) dL_law_1226 ⟨by show cells + 1 ≤ 603072; omega, by show slots + 6 ≤ 7190634; omega⟩) (fun H locs hw => ?_)
  have hw : WS g s ((if e_X6_nextDue (S 0) = none then S else S), (M, (if e_X6_nextDue (S 0) = none then vp_updL o.1 0 (f_X6_nextDue (S 0)).toInt64 else o.1, o.2))) H locs := hw.eqv (by rw [show (xB S 0 (S 0) (M, o) : wSt) = (S, (M, o)) by rw [xB, va_up_id]]; simp only [xB, va_up_id]; exact wst_l)
  have hsim := sm_nextDue hV
  have hV1 : sm_V (if e_X6_nextDue (S 0) = none then S else S) (f_X7_nextDue M).2 (t + 1) := hsim.2.2
  generalize hS1 : (if e_X6_nextDue (S 0) = none then S else S) = S1 at hw hV1
  generalize ho1 : ((if e_X6_nextDue (S 0) = none then vp_updL o.1 0 (f_X6_nextDue (S 0)).toInt64 else o.1, o.2) : (Nat → Int64) × (Nat → UInt64)) = o1 at hw
  refine lv_istore (lv' := [(6, .int (kE (e_X6_nextDue (S 0)) ["java/util/NoSuchElementException"])), (5, .int z), (4, .ref (gA g 170)), (3, .ref (gA g 169)), (2, .ref (gA g (jM 0))), (1, .ref (gA g 0)), (0, .ref b)]) hx hb dL_law_1229 hl (by decide) rfl (fun ls hl => ?_)
  refine lv_aload_n hx hb dL_law_1231 rfl (lv_at hl 4 rfl) ?_
  refine kc_i hw (va_runV (As := []) (rest := []) ⟨hx, hb, hml, hc.2.2.1, hc.2.2.2⟩ (m_X7_nextDue l g S1 M o1 _ _ hMN) (kw_V hc 0 q1246 q1247 q1248 q8 q1249 rfl rfl (by decide +kernel) ⟨Nat.le_of_ble_eq_true rfl, Nat.le_of_ble_eq_true rfl⟩) (kp_V hk hw at_M rfl) rfl rfl hl.1 rfl (lv_room (Nat.le_of_ble_eq_true rfl)) dL_law_1232 ⟨by show cells + 1 + 0 ≤ 603072; omega, by show slots + 6 + 0 ≤ 7190634; omega⟩) (fun H locs hw => ?_)
  refine lv_istore (lv' := [(7, .int (f_X7_nextDue M).1), (6, .int (kE (e_X6_nextDue (S 0)) ["java/util/NoSuchElementException"])), (5, .int z), (4, .ref (gA g 170)), (3, .ref (gA g 169)), (2, .ref (gA g (jM 0))), (1, .ref (gA g 0)), (0, .ref b)]) hx hb dL_law_1235 hl (by decide) rfl (fun ls hl => ?_)
  refine lv_aload_n hx hb dL_law_1237 rfl (lv_at hl 5 rfl) ?_
  refine kc_i hw (va_runV (As := []) (rest := []) ⟨hx, hb, hml, hc.2.2.1, hc.2.2.2⟩ (m_X7_thrown l g S1 (f_X7_nextDue M).2 o1) (kw_V hc 0 q1125 q1126 q1127 q8 q1128 rfl rfl (by decide +kernel) ⟨Nat.le_of_ble_eq_true rfl, Nat.le_of_ble_eq_true rfl⟩) (kp_V hk hw at_M rfl) rfl rfl hl.1 rfl (lv_room (Nat.le_of_ble_eq_true rfl)) dL_law_1238 ⟨by show cells + 1 + 0 ≤ 603072; omega, by show slots + 6 + 0 ≤ 7190634; omega⟩) (fun H locs hw => ?_)
  refine lv_iload hx hb dL_law_1241 (lv_at hl 1 rfl) ?_
  refine lv_icmp_eq (tgt := 1248) hx hb dL_law_1243 (by decide) (fun _ => ?_) (fun h9 => absurd hsim.1 h9)
  refine lv_iload hx hb dL_law_1248 (lv_at hl 1 rfl) ?_
  refine lv_if_ne (tgt := 1265) hx hb dL_law_1250 (by decide) (fun _ => ?_) (fun h9 => ?_)
  · refine lv_goto (tgt := 2293) hx hb dL_law_1265 (by decide) ?_
    refine W.widen (k := cells + 5) (n := slots + 30) (by omega) (by omega) ?_
    exact kk _ _ _ _ _ _ hV1 hw (lv_sub hl [2, 3, 4, 5, 6, 7] rfl)
  · have he0 := kE_none (by decide) (h9)
    refine lv_aload_n hx hb dL_law_1253 rfl (lv_at hl 4 rfl) ?_
    refine lv_iconst (v := 0) hx hb dL_law_1254 (by decide) ?_
    refine k_lald hc hk hw dL_law_1255 ?_
    refine vn_l (v9 := (f_X6_nextDue (S 0)).toInt64) (by rw [← ho1, if_pos he0]; exact lw_uL o.1 0 _) ?_
    refine lv_iload hx hb dL_law_1256 (lv_at hl 0 rfl) ?_
    refine lv_i2l hx hb dL_law_1258 rfl ?_
    refine W.lcmp hx hb dL_law_1259 ?_
    refine lv_if_eq (tgt := 1265) hx hb dL_law_1260 (by decide) (fun _ => ?_) (fun h9 => absurd (by rw [show (f_X6_nextDue (S 0)).toInt64 = ((f_X7_nextDue M).1.toInt64) from congrArg Int32.toInt64 (hsim.2.1 he0).symm]; exact lw_self _) h9)
    refine lv_goto (tgt := 2293) hx hb dL_law_1265 (by decide) ?_
    refine W.widen (k := cells + 5) (n := slots + 30) (by omega) (by omega) ?_
    exact kk _ _ _ _ _ _ hV1 hw (lv_sub hl [2, 3, 4, 5, 6, 7] rfl)
