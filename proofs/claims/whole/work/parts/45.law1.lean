/-! the law, cases 0 to 5 -/
set_option maxHeartbeats 4000000 in
set_option maxRecDepth 100000 in
theorem lc_0 {p : Program} {l : Launch} {e : Env} {s : State} {m : MethodId} {below : List Frame} {meth : Method} {c : Code} {b Ls : Nat} {xs : Nat → Int32} {g : wG} {Q : State → Prop} {S : Nat → BT} {M : BT} {o : (Nat → Int64) × (Nat → UInt64)} {t cells slots : Nat} {z : Int32} {H : Heap} {locs : List Loc} {ls : Array Slot}
    (C9 : LC p l s m c b Ls xs g) (hz : z = nI (5 * t)) (hlt : 5 * t + 5 ≤ Ls) (hL : Ls ≤ 2560) (hV : sm_V S M t) (hcs : cells + 5 ≤ 603072) (hss : slots + 30 ≤ 7190634) (hw : WS g s (S, (M, o)) H locs) (hl : lv_has ls 9 (lw_lv g b z))
    (kk : LK p l e s m below meth c b g z (t + 1) (cells + 5) (slots + 30) Q) : W p l e room_1 s m #[Value.ref b] below meth c H locs cells slots Q (F0 m 204 ls []) := by
  obtain ⟨hc, hml, hk, hX, hbl, hbA, hfl⟩ := C9
  have hx := hc.1
  have hb := hc.2.1
  have ht5 : t < 512 := by omega
  obtain ⟨n9, m9, n8, m8, hN, hN1, hMN, hev, hev2⟩ := hV.c
  refine lv_aload_n hx hb dL_law_204 rfl (lv_at hl 4 rfl) ?_
  refine lv_aload_n hx hb dL_law_205 rfl (lv_at hl 5 rfl) ?_
  refine lv_iload hx hb dL_law_206 (lv_at hl 0 rfl) ?_
  refine lv_iconst (v := 1) hx hb dL_law_208 (by decide) ?_
  refine lv_iadd hx hb dL_law_209 ?_
  refine va_sld hx hb hX hbl hbA hw.2 (sm_scr (j := 1) hz hlt hL (by decide)) dL_law_210 ?_
  refine lv_aload_n hx hb dL_law_211 rfl (lv_at hl 5 rfl) ?_
  refine lv_iload hx hb dL_law_212 (lv_at hl 0 rfl) ?_
  refine lv_iconst (v := 2) hx hb dL_law_214 (by decide) ?_
  refine lv_iadd hx hb dL_law_215 ?_
  refine va_sld hx hb hX hbl hbA hw.2 (sm_scr (j := 2) hz hlt hL (by decide)) dL_law_216 ?_
  refine lv_aload_n hx hb dL_law_217 rfl (lv_at hl 2 rfl) ?_
  have hw0 : WS g s (xB S 0 (S 0) (M, o)) H locs := hw.eqv (by rw [xB, va_up_id])
  refine kc_i hw0 (vx_runSW (hh := [(0, 10, 13, 13), (0, 10, 17, 15)]) (As := [.ref (gA g 0), .int (xs (z + 1).toNatClampNeg), .int (xs (z + 2).toNatClampNeg), .ref (gA g 169)]) (rest := []) ⟨hx, hb, hml, hc.2.2.1, hc.2.2.2⟩ (m_L_addOffice l g hfl S (S 0) (M, o) (xs (z + 1).toNatClampNeg) (xs (z + 2).toNatClampNeg) _ _ hN hev) (kw_SW hc 4 q526 q527 q0 q528 rfl rfl (by decide +kernel) ⟨Nat.le_of_ble_eq_true rfl, Nat.le_of_ble_eq_true rfl⟩) (kp_S hk hw0) rfl rfl hl.1 rfl (lv_room (Nat.le_of_ble_eq_true rfl)) dL_law_218 ⟨by show cells + 3 ≤ 603072; omega, by show slots + 18 ≤ 7190634; omega⟩) (fun H locs hw => ?_)
  have hw : WS g s ((if e_X6_addOffice (xs (z + 1).toNatClampNeg) (xs (z + 2).toNatClampNeg) (S 0) = none then va_up (f_X2_keep 1 (xs (z + 1).toNatClampNeg) (xs (z + 2).toNatClampNeg) 0 0 S) 0 (f_X6_addOffice (xs (z + 1).toNatClampNeg) (xs (z + 2).toNatClampNeg) (S 0)).2 else S), (M, (if e_X6_addOffice (xs (z + 1).toNatClampNeg) (xs (z + 2).toNatClampNeg) (S 0) = none then vp_updL o.1 0 (f_X6_addOffice (xs (z + 1).toNatClampNeg) (xs (z + 2).toNatClampNeg) (S 0)).1.toInt64 else o.1, o.2))) H locs := hw.eqv (by rw [show (xB S 0 (S 0) (M, o) : wSt) = (S, (M, o)) by rw [xB, va_up_id]]; exact wst_l)
  have hsim := sm_addOffice hV ht5 (xs (z + 1).toNatClampNeg) (xs (z + 2).toNatClampNeg)
  have hV1 : sm_V (if e_X6_addOffice (xs (z + 1).toNatClampNeg) (xs (z + 2).toNatClampNeg) (S 0) = none then va_up (f_X2_keep 1 (xs (z + 1).toNatClampNeg) (xs (z + 2).toNatClampNeg) 0 0 S) 0 (f_X6_addOffice (xs (z + 1).toNatClampNeg) (xs (z + 2).toNatClampNeg) (S 0)).2 else S) (f_X7_addOffice (xs (z + 1).toNatClampNeg) (xs (z + 2).toNatClampNeg) M).2 (t + 1) := hsim.2.2
  generalize hS1 : (if e_X6_addOffice (xs (z + 1).toNatClampNeg) (xs (z + 2).toNatClampNeg) (S 0) = none then va_up (f_X2_keep 1 (xs (z + 1).toNatClampNeg) (xs (z + 2).toNatClampNeg) 0 0 S) 0 (f_X6_addOffice (xs (z + 1).toNatClampNeg) (xs (z + 2).toNatClampNeg) (S 0)).2 else S) = S1 at hw hV1
  generalize ho1 : ((if e_X6_addOffice (xs (z + 1).toNatClampNeg) (xs (z + 2).toNatClampNeg) (S 0) = none then vp_updL o.1 0 (f_X6_addOffice (xs (z + 1).toNatClampNeg) (xs (z + 2).toNatClampNeg) (S 0)).1.toInt64 else o.1, o.2) : (Nat → Int64) × (Nat → UInt64)) = o1 at hw
  refine lv_istore (lv' := [(6, .int (kE (e_X6_addOffice (xs (z + 1).toNatClampNeg) (xs (z + 2).toNatClampNeg) (S 0)) ["java/lang/IllegalArgumentException", "java/lang/IllegalStateException"])), (5, .int z), (4, .ref (gA g 170)), (3, .ref (gA g 169)), (2, .ref (gA g (jM 0))), (1, .ref (gA g 0)), (0, .ref b)]) hx hb dL_law_221 hl (by decide) rfl (fun ls hl => ?_)
  refine lv_aload_n hx hb dL_law_223 rfl (lv_at hl 4 rfl) ?_
  refine lv_aload_n hx hb dL_law_224 rfl (lv_at hl 6 rfl) ?_
  refine lv_iload hx hb dL_law_225 (lv_at hl 1 rfl) ?_
  refine lv_iconst (v := 1) hx hb dL_law_227 (by decide) ?_
  refine lv_iadd hx hb dL_law_228 ?_
  refine va_sld hx hb hX hbl hbA hw.2 (sm_scr (j := 1) hz hlt hL (by decide)) dL_law_229 ?_
  refine lv_aload_n hx hb dL_law_230 rfl (lv_at hl 6 rfl) ?_
  refine lv_iload hx hb dL_law_231 (lv_at hl 1 rfl) ?_
  refine lv_iconst (v := 2) hx hb dL_law_233 (by decide) ?_
  refine lv_iadd hx hb dL_law_234 ?_
  refine va_sld hx hb hX hbl hbA hw.2 (sm_scr (j := 2) hz hlt hL (by decide)) dL_law_235 ?_
  refine kc_i hw (va_runV (As := [.int (xs (z + 1).toNatClampNeg), .int (xs (z + 2).toNatClampNeg)]) (rest := []) ⟨hx, hb, hml, hc.2.2.1, hc.2.2.2⟩ (m_X7_addOffice l g S1 M o1 (xs (z + 1).toNatClampNeg) (xs (z + 2).toNatClampNeg) _ _ hMN) (kw_V hc 2 q1129 q1130 q1131 q8 q1132 rfl rfl (by decide +kernel) ⟨Nat.le_of_ble_eq_true rfl, Nat.le_of_ble_eq_true rfl⟩) (kp_V hk hw at_M rfl) rfl rfl hl.1 rfl (lv_room (Nat.le_of_ble_eq_true rfl)) dL_law_236 ⟨by show cells + 3 + 0 ≤ 603072; omega, by show slots + 18 + 0 ≤ 7190634; omega⟩) (fun H locs hw => ?_)
  refine lv_istore (lv' := [(7, .int (f_X7_addOffice (xs (z + 1).toNatClampNeg) (xs (z + 2).toNatClampNeg) M).1), (6, .int (kE (e_X6_addOffice (xs (z + 1).toNatClampNeg) (xs (z + 2).toNatClampNeg) (S 0)) ["java/lang/IllegalArgumentException", "java/lang/IllegalStateException"])), (5, .int z), (4, .ref (gA g 170)), (3, .ref (gA g 169)), (2, .ref (gA g (jM 0))), (1, .ref (gA g 0)), (0, .ref b)]) hx hb dL_law_239 hl (by decide) rfl (fun ls hl => ?_)
  refine lv_aload_n hx hb dL_law_241 rfl (lv_at hl 5 rfl) ?_
  refine kc_i hw (va_runV (As := []) (rest := []) ⟨hx, hb, hml, hc.2.2.1, hc.2.2.2⟩ (m_X7_thrown l g S1 (f_X7_addOffice (xs (z + 1).toNatClampNeg) (xs (z + 2).toNatClampNeg) M).2 o1) (kw_V hc 0 q1125 q1126 q1127 q8 q1128 rfl rfl (by decide +kernel) ⟨Nat.le_of_ble_eq_true rfl, Nat.le_of_ble_eq_true rfl⟩) (kp_V hk hw at_M rfl) rfl rfl hl.1 rfl (lv_room (Nat.le_of_ble_eq_true rfl)) dL_law_242 ⟨by show cells + 3 + 0 ≤ 603072; omega, by show slots + 18 + 0 ≤ 7190634; omega⟩) (fun H locs hw => ?_)
  refine lv_iload hx hb dL_law_245 (lv_at hl 1 rfl) ?_
  refine lv_icmp_eq (tgt := 252) hx hb dL_law_247 (by decide) (fun _ => ?_) (fun h9 => absurd hsim.1 h9)
  refine lv_iload hx hb dL_law_252 (lv_at hl 1 rfl) ?_
  refine lv_if_ne (tgt := 269) hx hb dL_law_254 (by decide) (fun _ => ?_) (fun h9 => ?_)
  · refine lv_goto (tgt := 2293) hx hb dL_law_269 (by decide) ?_
    refine W.widen (k := cells + 5) (n := slots + 30) (by omega) (by omega) ?_
    exact kk _ _ _ _ _ _ hV1 hw (lv_sub hl [2, 3, 4, 5, 6, 7] rfl)
  · have he0 := kE_none (by decide) (h9)
    refine lv_aload_n hx hb dL_law_257 rfl (lv_at hl 4 rfl) ?_
    refine lv_iconst (v := 0) hx hb dL_law_258 (by decide) ?_
    refine k_lald hc hk hw dL_law_259 ?_
    refine vn_l (v9 := (f_X6_addOffice (xs (z + 1).toNatClampNeg) (xs (z + 2).toNatClampNeg) (S 0)).1.toInt64) (by rw [← ho1, if_pos he0]; exact lw_uL o.1 0 _) ?_
    refine lv_iload hx hb dL_law_260 (lv_at hl 0 rfl) ?_
    refine lv_i2l hx hb dL_law_262 rfl ?_
    refine W.lcmp hx hb dL_law_263 ?_
    refine lv_if_eq (tgt := 269) hx hb dL_law_264 (by decide) (fun _ => ?_) (fun h9 => absurd (by rw [show (f_X6_addOffice (xs (z + 1).toNatClampNeg) (xs (z + 2).toNatClampNeg) (S 0)).1.toInt64 = ((f_X7_addOffice (xs (z + 1).toNatClampNeg) (xs (z + 2).toNatClampNeg) M).1.toInt64) from congrArg Int32.toInt64 (hsim.2.1 he0).symm]; exact lw_self _) h9)
    refine lv_goto (tgt := 2293) hx hb dL_law_269 (by decide) ?_
    refine W.widen (k := cells + 5) (n := slots + 30) (by omega) (by omega) ?_
    exact kk _ _ _ _ _ _ hV1 hw (lv_sub hl [2, 3, 4, 5, 6, 7] rfl)
set_option maxHeartbeats 4000000 in
set_option maxRecDepth 100000 in
theorem lc_1 {p : Program} {l : Launch} {e : Env} {s : State} {m : MethodId} {below : List Frame} {meth : Method} {c : Code} {b Ls : Nat} {xs : Nat → Int32} {g : wG} {Q : State → Prop} {S : Nat → BT} {M : BT} {o : (Nat → Int64) × (Nat → UInt64)} {t cells slots : Nat} {z : Int32} {H : Heap} {locs : List Loc} {ls : Array Slot}
    (C9 : LC p l s m c b Ls xs g) (hz : z = nI (5 * t)) (hlt : 5 * t + 5 ≤ Ls) (hL : Ls ≤ 2560) (hV : sm_V S M t) (hcs : cells + 5 ≤ 603072) (hss : slots + 30 ≤ 7190634) (hw : WS g s (S, (M, o)) H locs) (hl : lv_has ls 9 (lw_lv g b z))
    (kk : LK p l e s m below meth c b g z (t + 1) (cells + 5) (slots + 30) Q) : W p l e room_1 s m #[Value.ref b] below meth c H locs cells slots Q (F0 m 272 ls []) := by
  obtain ⟨hc, hml, hk, hX, hbl, hbA, hfl⟩ := C9
  have hx := hc.1
  have hb := hc.2.1
  have ht5 : t < 512 := by omega
  obtain ⟨n9, m9, n8, m8, hN, hN1, hMN, hev, hev2⟩ := hV.c
  refine lv_aload_n hx hb dL_law_272 rfl (lv_at hl 4 rfl) ?_
  refine lv_aload_n hx hb dL_law_273 rfl (lv_at hl 5 rfl) ?_
  refine lv_iload hx hb dL_law_274 (lv_at hl 0 rfl) ?_
  refine lv_iconst (v := 1) hx hb dL_law_276 (by decide) ?_
  refine lv_iadd hx hb dL_law_277 ?_
  refine va_sld hx hb hX hbl hbA hw.2 (sm_scr (j := 1) hz hlt hL (by decide)) dL_law_278 ?_
  refine lv_aload_n hx hb dL_law_279 rfl (lv_at hl 2 rfl) ?_
  have hw0 : WS g s (xB S 0 (S 0) (M, o)) H locs := hw.eqv (by rw [xB, va_up_id])
  refine kc_i hw0 (vx_runSW (hh := [(0, 9, 12, 13), (0, 9, 15, 15)]) (As := [.ref (gA g 0), .int (xs (z + 1).toNatClampNeg), .ref (gA g 169)]) (rest := []) ⟨hx, hb, hml, hc.2.2.1, hc.2.2.2⟩ (m_L_pass l g hfl S (S 0) (M, o) (xs (z + 1).toNatClampNeg) _ _ hN hev) (kw_SW hc 3 q635 q636 q0 q637 rfl rfl (by decide +kernel) ⟨Nat.le_of_ble_eq_true rfl, Nat.le_of_ble_eq_true rfl⟩) (kp_S hk hw0) rfl rfl hl.1 rfl (lv_room (Nat.le_of_ble_eq_true rfl)) dL_law_280 ⟨by show cells + 2 ≤ 603072; omega, by show slots + 12 ≤ 7190634; omega⟩) (fun H locs hw => ?_)
  have hw : WS g s ((if e_X6_pass (xs (z + 1).toNatClampNeg) (S 0) = none then va_up (f_X2_keep 2 (xs (z + 1).toNatClampNeg) 0 0 0 S) 0 (f_X6_pass (xs (z + 1).toNatClampNeg) (S 0)).2 else S), (M, (if e_X6_pass (xs (z + 1).toNatClampNeg) (S 0) = none then vp_updL o.1 0 (f_X6_pass (xs (z + 1).toNatClampNeg) (S 0)).1.toInt64 else o.1, o.2))) H locs := hw.eqv (by rw [show (xB S 0 (S 0) (M, o) : wSt) = (S, (M, o)) by rw [xB, va_up_id]]; exact wst_l)
  have hsim := sm_pass hV ht5 (xs (z + 1).toNatClampNeg)
  have hV1 : sm_V (if e_X6_pass (xs (z + 1).toNatClampNeg) (S 0) = none then va_up (f_X2_keep 2 (xs (z + 1).toNatClampNeg) 0 0 0 S) 0 (f_X6_pass (xs (z + 1).toNatClampNeg) (S 0)).2 else S) (f_X7_pass (xs (z + 1).toNatClampNeg) M).2 (t + 1) := hsim.2.2
  generalize hS1 : (if e_X6_pass (xs (z + 1).toNatClampNeg) (S 0) = none then va_up (f_X2_keep 2 (xs (z + 1).toNatClampNeg) 0 0 0 S) 0 (f_X6_pass (xs (z + 1).toNatClampNeg) (S 0)).2 else S) = S1 at hw hV1
  generalize ho1 : ((if e_X6_pass (xs (z + 1).toNatClampNeg) (S 0) = none then vp_updL o.1 0 (f_X6_pass (xs (z + 1).toNatClampNeg) (S 0)).1.toInt64 else o.1, o.2) : (Nat → Int64) × (Nat → UInt64)) = o1 at hw
  refine lv_istore (lv' := [(6, .int (kE (e_X6_pass (xs (z + 1).toNatClampNeg) (S 0)) ["java/lang/IllegalArgumentException", "java/lang/IllegalStateException"])), (5, .int z), (4, .ref (gA g 170)), (3, .ref (gA g 169)), (2, .ref (gA g (jM 0))), (1, .ref (gA g 0)), (0, .ref b)]) hx hb dL_law_283 hl (by decide) rfl (fun ls hl => ?_)
  refine lv_aload_n hx hb dL_law_285 rfl (lv_at hl 4 rfl) ?_
  refine lv_aload_n hx hb dL_law_286 rfl (lv_at hl 6 rfl) ?_
  refine lv_iload hx hb dL_law_287 (lv_at hl 1 rfl) ?_
  refine lv_iconst (v := 1) hx hb dL_law_289 (by decide) ?_
  refine lv_iadd hx hb dL_law_290 ?_
  refine va_sld hx hb hX hbl hbA hw.2 (sm_scr (j := 1) hz hlt hL (by decide)) dL_law_291 ?_
  refine kc_i hw (va_runV (As := [.int (xs (z + 1).toNatClampNeg)]) (rest := []) ⟨hx, hb, hml, hc.2.2.1, hc.2.2.2⟩ (m_X7_pass l g S1 M o1 (xs (z + 1).toNatClampNeg) _ _ hMN) (kw_V hc 1 q1136 q1137 q1138 q8 q1139 rfl rfl (by decide +kernel) ⟨Nat.le_of_ble_eq_true rfl, Nat.le_of_ble_eq_true rfl⟩) (kp_V hk hw at_M rfl) rfl rfl hl.1 rfl (lv_room (Nat.le_of_ble_eq_true rfl)) dL_law_292 ⟨by show cells + 2 + 0 ≤ 603072; omega, by show slots + 12 + 0 ≤ 7190634; omega⟩) (fun H locs hw => ?_)
  refine lv_istore (lv' := [(7, .int (f_X7_pass (xs (z + 1).toNatClampNeg) M).1), (6, .int (kE (e_X6_pass (xs (z + 1).toNatClampNeg) (S 0)) ["java/lang/IllegalArgumentException", "java/lang/IllegalStateException"])), (5, .int z), (4, .ref (gA g 170)), (3, .ref (gA g 169)), (2, .ref (gA g (jM 0))), (1, .ref (gA g 0)), (0, .ref b)]) hx hb dL_law_295 hl (by decide) rfl (fun ls hl => ?_)
  refine lv_aload_n hx hb dL_law_297 rfl (lv_at hl 5 rfl) ?_
  refine kc_i hw (va_runV (As := []) (rest := []) ⟨hx, hb, hml, hc.2.2.1, hc.2.2.2⟩ (m_X7_thrown l g S1 (f_X7_pass (xs (z + 1).toNatClampNeg) M).2 o1) (kw_V hc 0 q1125 q1126 q1127 q8 q1128 rfl rfl (by decide +kernel) ⟨Nat.le_of_ble_eq_true rfl, Nat.le_of_ble_eq_true rfl⟩) (kp_V hk hw at_M rfl) rfl rfl hl.1 rfl (lv_room (Nat.le_of_ble_eq_true rfl)) dL_law_298 ⟨by show cells + 2 + 0 ≤ 603072; omega, by show slots + 12 + 0 ≤ 7190634; omega⟩) (fun H locs hw => ?_)
  refine lv_iload hx hb dL_law_301 (lv_at hl 1 rfl) ?_
  refine lv_icmp_eq (tgt := 308) hx hb dL_law_303 (by decide) (fun _ => ?_) (fun h9 => absurd hsim.1 h9)
  refine lv_iload hx hb dL_law_308 (lv_at hl 1 rfl) ?_
  refine lv_if_ne (tgt := 325) hx hb dL_law_310 (by decide) (fun _ => ?_) (fun h9 => ?_)
  · refine lv_goto (tgt := 2293) hx hb dL_law_325 (by decide) ?_
    refine W.widen (k := cells + 5) (n := slots + 30) (by omega) (by omega) ?_
    exact kk _ _ _ _ _ _ hV1 hw (lv_sub hl [2, 3, 4, 5, 6, 7] rfl)
  · have he0 := kE_none (by decide) (h9)
    refine lv_aload_n hx hb dL_law_313 rfl (lv_at hl 4 rfl) ?_
    refine lv_iconst (v := 0) hx hb dL_law_314 (by decide) ?_
    refine k_lald hc hk hw dL_law_315 ?_
    refine vn_l (v9 := (f_X6_pass (xs (z + 1).toNatClampNeg) (S 0)).1.toInt64) (by rw [← ho1, if_pos he0]; exact lw_uL o.1 0 _) ?_
    refine lv_iload hx hb dL_law_316 (lv_at hl 0 rfl) ?_
    refine lv_i2l hx hb dL_law_318 rfl ?_
    refine W.lcmp hx hb dL_law_319 ?_
    refine lv_if_eq (tgt := 325) hx hb dL_law_320 (by decide) (fun _ => ?_) (fun h9 => absurd (by rw [show (f_X6_pass (xs (z + 1).toNatClampNeg) (S 0)).1.toInt64 = ((f_X7_pass (xs (z + 1).toNatClampNeg) M).1.toInt64) from congrArg Int32.toInt64 (hsim.2.1 he0).symm]; exact lw_self _) h9)
    refine lv_goto (tgt := 2293) hx hb dL_law_325 (by decide) ?_
    refine W.widen (k := cells + 5) (n := slots + 30) (by omega) (by omega) ?_
    exact kk _ _ _ _ _ _ hV1 hw (lv_sub hl [2, 3, 4, 5, 6, 7] rfl)
set_option maxHeartbeats 4000000 in
set_option maxRecDepth 100000 in
theorem lc_2 {p : Program} {l : Launch} {e : Env} {s : State} {m : MethodId} {below : List Frame} {meth : Method} {c : Code} {b Ls : Nat} {xs : Nat → Int32} {g : wG} {Q : State → Prop} {S : Nat → BT} {M : BT} {o : (Nat → Int64) × (Nat → UInt64)} {t cells slots : Nat} {z : Int32} {H : Heap} {locs : List Loc} {ls : Array Slot}
    (C9 : LC p l s m c b Ls xs g) (hz : z = nI (5 * t)) (hlt : 5 * t + 5 ≤ Ls) (hL : Ls ≤ 2560) (hV : sm_V S M t) (hcs : cells + 5 ≤ 603072) (hss : slots + 30 ≤ 7190634) (hw : WS g s (S, (M, o)) H locs) (hl : lv_has ls 9 (lw_lv g b z))
    (kk : LK p l e s m below meth c b g z (t + 1) (cells + 5) (slots + 30) Q) : W p l e room_1 s m #[Value.ref b] below meth c H locs cells slots Q (F0 m 328 ls []) := by
  obtain ⟨hc, hml, hk, hX, hbl, hbA, hfl⟩ := C9
  have hx := hc.1
  have hb := hc.2.1
  have ht5 : t < 512 := by omega
  obtain ⟨n9, m9, n8, m8, hN, hN1, hMN, hev, hev2⟩ := hV.c
  refine lv_aload_n hx hb dL_law_328 rfl (lv_at hl 4 rfl) ?_
  have hw0 : WS g s (xB S 0 (S 0) (M, o)) H locs := hw.eqv (by rw [xB, va_up_id])
  refine kc_i hw0 (va_runV (As := []) (rest := []) ⟨hx, hb, hml, hc.2.2.1, hc.2.2.2⟩ (m_X6_today l g S (S 0) (M, o) _ _ hN) (kw_V hc 0 q248 q249 q250 q1 q251 rfl rfl (by decide +kernel) ⟨Nat.le_of_ble_eq_true rfl, Nat.le_of_ble_eq_true rfl⟩) (kp_V hk hw0 at_G rfl) rfl rfl hl.1 rfl (lv_room (Nat.le_of_ble_eq_true rfl)) dL_law_329 ⟨by show cells + 0 ≤ 603072; omega, by show slots + 0 ≤ 7190634; omega⟩) (fun H locs hw => ?_)
  have hw : WS g s (S, (M, o)) H locs := hw.eqv (by rw [xB, va_up_id])
  refine lv_aload_n hx hb dL_law_332 rfl (lv_at hl 3 rfl) ?_
  refine kc_i hw (va_runV (As := []) (rest := [.int (f_X6_today (S 0))]) ⟨hx, hb, hml, hc.2.2.1, hc.2.2.2⟩ (m_X7_today l g S M o _ _ hMN) (kw_V hc 0 q1152 q1153 q1154 q8 q1155 rfl rfl (by decide +kernel) ⟨Nat.le_of_ble_eq_true rfl, Nat.le_of_ble_eq_true rfl⟩) (kp_V hk hw at_M rfl) rfl rfl hl.1 rfl (lv_room (Nat.le_of_ble_eq_true rfl)) dL_law_333 ⟨by show cells + 0 ≤ 603072; omega, by show slots + 0 ≤ 7190634; omega⟩) (fun H locs hw => ?_)
  refine lv_icmp_eq (tgt := 2293) hx hb dL_law_336 (by decide) (fun _ => ?_) (fun h9 => absurd (sm_today hV).1.symm h9)
  refine W.widen (k := cells + 5) (n := slots + 30) (by omega) (by omega) ?_
  exact kk _ _ _ _ _ _ (sm_today hV).2 hw (lv_sub hl [0, 1, 2, 3, 4, 5] rfl)
set_option maxHeartbeats 4000000 in
set_option maxRecDepth 100000 in
theorem lc_3 {p : Program} {l : Launch} {e : Env} {s : State} {m : MethodId} {below : List Frame} {meth : Method} {c : Code} {b Ls : Nat} {xs : Nat → Int32} {g : wG} {Q : State → Prop} {S : Nat → BT} {M : BT} {o : (Nat → Int64) × (Nat → UInt64)} {t cells slots : Nat} {z : Int32} {H : Heap} {locs : List Loc} {ls : Array Slot}
    (C9 : LC p l s m c b Ls xs g) (hz : z = nI (5 * t)) (hlt : 5 * t + 5 ≤ Ls) (hL : Ls ≤ 2560) (hV : sm_V S M t) (hcs : cells + 5 ≤ 603072) (hss : slots + 30 ≤ 7190634) (hw : WS g s (S, (M, o)) H locs) (hl : lv_has ls 9 (lw_lv g b z))
    (kk : LK p l e s m below meth c b g z (t + 1) (cells + 5) (slots + 30) Q) : W p l e room_1 s m #[Value.ref b] below meth c H locs cells slots Q (F0 m 341 ls []) := by
  obtain ⟨hc, hml, hk, hX, hbl, hbA, hfl⟩ := C9
  have hx := hc.1
  have hb := hc.2.1
  have ht5 : t < 512 := by omega
  obtain ⟨n9, m9, n8, m8, hN, hN1, hMN, hev, hev2⟩ := hV.c
  refine lv_aload_n hx hb dL_law_341 rfl (lv_at hl 4 rfl) ?_
  refine lv_aload_n hx hb dL_law_342 rfl (lv_at hl 5 rfl) ?_
  refine lv_iload hx hb dL_law_343 (lv_at hl 0 rfl) ?_
  refine lv_iconst (v := 1) hx hb dL_law_345 (by decide) ?_
  refine lv_iadd hx hb dL_law_346 ?_
  refine va_sld hx hb hX hbl hbA hw.2 (sm_scr (j := 1) hz hlt hL (by decide)) dL_law_347 ?_
  refine lv_aload_n hx hb dL_law_348 rfl (lv_at hl 5 rfl) ?_
  refine lv_iload hx hb dL_law_349 (lv_at hl 0 rfl) ?_
  refine lv_iconst (v := 2) hx hb dL_law_351 (by decide) ?_
  refine lv_iadd hx hb dL_law_352 ?_
  refine va_sld hx hb hX hbl hbA hw.2 (sm_scr (j := 2) hz hlt hL (by decide)) dL_law_353 ?_
  refine lv_aload_n hx hb dL_law_354 rfl (lv_at hl 5 rfl) ?_
  refine lv_iload hx hb dL_law_355 (lv_at hl 0 rfl) ?_
  refine lv_iconst (v := 3) hx hb dL_law_357 (by decide) ?_
  refine lv_iadd hx hb dL_law_358 ?_
  refine va_sld hx hb hX hbl hbA hw.2 (sm_scr (j := 3) hz hlt hL (by decide)) dL_law_359 ?_
  refine lv_aload_n hx hb dL_law_360 rfl (lv_at hl 5 rfl) ?_
  refine lv_iload hx hb dL_law_361 (lv_at hl 0 rfl) ?_
  refine lv_iconst (v := 4) hx hb dL_law_363 (by decide) ?_
  refine lv_iadd hx hb dL_law_364 ?_
  refine va_sld hx hb hX hbl hbA hw.2 (sm_scr (j := 4) hz hlt hL (by decide)) dL_law_365 ?_
  refine lv_aload_n hx hb dL_law_366 rfl (lv_at hl 2 rfl) ?_
  have hw0 : WS g s (xB S 0 (S 0) (M, o)) H locs := hw.eqv (by rw [xB, va_up_id])
  refine kc_i hw0 (vx_runSW (hh := [(0, 14, 17, 25), (0, 14, 21, 13), (0, 14, 25, 15)]) (As := [.ref (gA g 0), .int (xs (z + 1).toNatClampNeg), .int (xs (z + 2).toNatClampNeg), .int (xs (z + 3).toNatClampNeg), .int (xs (z + 4).toNatClampNeg), .ref (gA g 169)]) (rest := []) ⟨hx, hb, hml, hc.2.2.1, hc.2.2.2⟩ (m_L_complain l g hfl S (S 0) (M, o) (xs (z + 1).toNatClampNeg) (xs (z + 2).toNatClampNeg) (xs (z + 3).toNatClampNeg) (xs (z + 4).toNatClampNeg) _ _ hN hev) (kw_SW hc 6 q643 q644 q0 q645 rfl rfl (by decide +kernel) ⟨Nat.le_of_ble_eq_true rfl, Nat.le_of_ble_eq_true rfl⟩) (kp_S hk hw0) rfl rfl hl.1 rfl (lv_room (Nat.le_of_ble_eq_true rfl)) dL_law_367 ⟨by show cells + 5 ≤ 603072; omega, by show slots + 30 ≤ 7190634; omega⟩) (fun H locs hw => ?_)
  have hw : WS g s ((if e_X6_complain (xs (z + 1).toNatClampNeg) (xs (z + 2).toNatClampNeg) (xs (z + 3).toNatClampNeg) (xs (z + 4).toNatClampNeg) (S 0) = none then va_up (f_X2_keep 4 (xs (z + 1).toNatClampNeg) (xs (z + 2).toNatClampNeg) (xs (z + 3).toNatClampNeg) (xs (z + 4).toNatClampNeg) S) 0 (f_X6_complain (xs (z + 1).toNatClampNeg) (xs (z + 2).toNatClampNeg) (xs (z + 3).toNatClampNeg) (xs (z + 4).toNatClampNeg) (S 0)).2 else S), (M, (if e_X6_complain (xs (z + 1).toNatClampNeg) (xs (z + 2).toNatClampNeg) (xs (z + 3).toNatClampNeg) (xs (z + 4).toNatClampNeg) (S 0) = none then vp_updL o.1 0 (f_X6_complain (xs (z + 1).toNatClampNeg) (xs (z + 2).toNatClampNeg) (xs (z + 3).toNatClampNeg) (xs (z + 4).toNatClampNeg) (S 0)).1.toInt64 else o.1, o.2))) H locs := hw.eqv (by rw [show (xB S 0 (S 0) (M, o) : wSt) = (S, (M, o)) by rw [xB, va_up_id]]; exact wst_l)
  have hsim := sm_complain hV ht5 (xs (z + 1).toNatClampNeg) (xs (z + 2).toNatClampNeg) (xs (z + 3).toNatClampNeg) (xs (z + 4).toNatClampNeg)
  have hV1 : sm_V (if e_X6_complain (xs (z + 1).toNatClampNeg) (xs (z + 2).toNatClampNeg) (xs (z + 3).toNatClampNeg) (xs (z + 4).toNatClampNeg) (S 0) = none then va_up (f_X2_keep 4 (xs (z + 1).toNatClampNeg) (xs (z + 2).toNatClampNeg) (xs (z + 3).toNatClampNeg) (xs (z + 4).toNatClampNeg) S) 0 (f_X6_complain (xs (z + 1).toNatClampNeg) (xs (z + 2).toNatClampNeg) (xs (z + 3).toNatClampNeg) (xs (z + 4).toNatClampNeg) (S 0)).2 else S) (f_X7_complain (xs (z + 1).toNatClampNeg) (xs (z + 2).toNatClampNeg) (xs (z + 3).toNatClampNeg) (xs (z + 4).toNatClampNeg) M).2 (t + 1) := hsim.2.2
  generalize hS1 : (if e_X6_complain (xs (z + 1).toNatClampNeg) (xs (z + 2).toNatClampNeg) (xs (z + 3).toNatClampNeg) (xs (z + 4).toNatClampNeg) (S 0) = none then va_up (f_X2_keep 4 (xs (z + 1).toNatClampNeg) (xs (z + 2).toNatClampNeg) (xs (z + 3).toNatClampNeg) (xs (z + 4).toNatClampNeg) S) 0 (f_X6_complain (xs (z + 1).toNatClampNeg) (xs (z + 2).toNatClampNeg) (xs (z + 3).toNatClampNeg) (xs (z + 4).toNatClampNeg) (S 0)).2 else S) = S1 at hw hV1
  generalize ho1 : ((if e_X6_complain (xs (z + 1).toNatClampNeg) (xs (z + 2).toNatClampNeg) (xs (z + 3).toNatClampNeg) (xs (z + 4).toNatClampNeg) (S 0) = none then vp_updL o.1 0 (f_X6_complain (xs (z + 1).toNatClampNeg) (xs (z + 2).toNatClampNeg) (xs (z + 3).toNatClampNeg) (xs (z + 4).toNatClampNeg) (S 0)).1.toInt64 else o.1, o.2) : (Nat → Int64) × (Nat → UInt64)) = o1 at hw
  refine lv_istore (lv' := [(6, .int (kE (e_X6_complain (xs (z + 1).toNatClampNeg) (xs (z + 2).toNatClampNeg) (xs (z + 3).toNatClampNeg) (xs (z + 4).toNatClampNeg) (S 0)) ["java/lang/IndexOutOfBoundsException", "java/lang/IllegalArgumentException", "java/lang/IllegalStateException"])), (5, .int z), (4, .ref (gA g 170)), (3, .ref (gA g 169)), (2, .ref (gA g (jM 0))), (1, .ref (gA g 0)), (0, .ref b)]) hx hb dL_law_370 hl (by decide) rfl (fun ls hl => ?_)
  refine lv_aload_n hx hb dL_law_372 rfl (lv_at hl 4 rfl) ?_
  refine lv_aload_n hx hb dL_law_373 rfl (lv_at hl 6 rfl) ?_
  refine lv_iload hx hb dL_law_374 (lv_at hl 1 rfl) ?_
  refine lv_iconst (v := 1) hx hb dL_law_376 (by decide) ?_
  refine lv_iadd hx hb dL_law_377 ?_
  refine va_sld hx hb hX hbl hbA hw.2 (sm_scr (j := 1) hz hlt hL (by decide)) dL_law_378 ?_
  refine lv_aload_n hx hb dL_law_379 rfl (lv_at hl 6 rfl) ?_
  refine lv_iload hx hb dL_law_380 (lv_at hl 1 rfl) ?_
  refine lv_iconst (v := 2) hx hb dL_law_382 (by decide) ?_
  refine lv_iadd hx hb dL_law_383 ?_
  refine va_sld hx hb hX hbl hbA hw.2 (sm_scr (j := 2) hz hlt hL (by decide)) dL_law_384 ?_
  refine lv_aload_n hx hb dL_law_385 rfl (lv_at hl 6 rfl) ?_
  refine lv_iload hx hb dL_law_386 (lv_at hl 1 rfl) ?_
  refine lv_iconst (v := 3) hx hb dL_law_388 (by decide) ?_
  refine lv_iadd hx hb dL_law_389 ?_
  refine va_sld hx hb hX hbl hbA hw.2 (sm_scr (j := 3) hz hlt hL (by decide)) dL_law_390 ?_
  refine lv_aload_n hx hb dL_law_391 rfl (lv_at hl 6 rfl) ?_
  refine lv_iload hx hb dL_law_392 (lv_at hl 1 rfl) ?_
  refine lv_iconst (v := 4) hx hb dL_law_394 (by decide) ?_
  refine lv_iadd hx hb dL_law_395 ?_
  refine va_sld hx hb hX hbl hbA hw.2 (sm_scr (j := 4) hz hlt hL (by decide)) dL_law_396 ?_
  refine kc_i hw (va_runV (As := [.int (xs (z + 1).toNatClampNeg), .int (xs (z + 2).toNatClampNeg), .int (xs (z + 3).toNatClampNeg), .int (xs (z + 4).toNatClampNeg)]) (rest := []) ⟨hx, hb, hml, hc.2.2.1, hc.2.2.2⟩ (m_X7_complain l g S1 M o1 (xs (z + 1).toNatClampNeg) (xs (z + 2).toNatClampNeg) (xs (z + 3).toNatClampNeg) (xs (z + 4).toNatClampNeg) _ _ hMN) (kw_V hc 4 q1156 q1157 q1158 q8 q1159 rfl rfl (by decide +kernel) ⟨Nat.le_of_ble_eq_true rfl, Nat.le_of_ble_eq_true rfl⟩) (kp_V hk hw at_M rfl) rfl rfl hl.1 rfl (lv_room (Nat.le_of_ble_eq_true rfl)) dL_law_397 ⟨by show cells + 5 + 0 ≤ 603072; omega, by show slots + 30 + 0 ≤ 7190634; omega⟩) (fun H locs hw => ?_)
  refine lv_istore (lv' := [(7, .int (f_X7_complain (xs (z + 1).toNatClampNeg) (xs (z + 2).toNatClampNeg) (xs (z + 3).toNatClampNeg) (xs (z + 4).toNatClampNeg) M).1), (6, .int (kE (e_X6_complain (xs (z + 1).toNatClampNeg) (xs (z + 2).toNatClampNeg) (xs (z + 3).toNatClampNeg) (xs (z + 4).toNatClampNeg) (S 0)) ["java/lang/IndexOutOfBoundsException", "java/lang/IllegalArgumentException", "java/lang/IllegalStateException"])), (5, .int z), (4, .ref (gA g 170)), (3, .ref (gA g 169)), (2, .ref (gA g (jM 0))), (1, .ref (gA g 0)), (0, .ref b)]) hx hb dL_law_400 hl (by decide) rfl (fun ls hl => ?_)
  refine lv_aload_n hx hb dL_law_402 rfl (lv_at hl 5 rfl) ?_
  refine kc_i hw (va_runV (As := []) (rest := []) ⟨hx, hb, hml, hc.2.2.1, hc.2.2.2⟩ (m_X7_thrown l g S1 (f_X7_complain (xs (z + 1).toNatClampNeg) (xs (z + 2).toNatClampNeg) (xs (z + 3).toNatClampNeg) (xs (z + 4).toNatClampNeg) M).2 o1) (kw_V hc 0 q1125 q1126 q1127 q8 q1128 rfl rfl (by decide +kernel) ⟨Nat.le_of_ble_eq_true rfl, Nat.le_of_ble_eq_true rfl⟩) (kp_V hk hw at_M rfl) rfl rfl hl.1 rfl (lv_room (Nat.le_of_ble_eq_true rfl)) dL_law_403 ⟨by show cells + 5 + 0 ≤ 603072; omega, by show slots + 30 + 0 ≤ 7190634; omega⟩) (fun H locs hw => ?_)
  refine lv_iload hx hb dL_law_406 (lv_at hl 1 rfl) ?_
  refine lv_icmp_eq (tgt := 413) hx hb dL_law_408 (by decide) (fun _ => ?_) (fun h9 => absurd hsim.1 h9)
  refine lv_iload hx hb dL_law_413 (lv_at hl 1 rfl) ?_
  refine lv_if_ne (tgt := 430) hx hb dL_law_415 (by decide) (fun _ => ?_) (fun h9 => ?_)
  · refine lv_goto (tgt := 2293) hx hb dL_law_430 (by decide) ?_
    refine W.widen (k := cells + 5) (n := slots + 30) (by omega) (by omega) ?_
    exact kk _ _ _ _ _ _ hV1 hw (lv_sub hl [2, 3, 4, 5, 6, 7] rfl)
  · have he0 := kE_none (by decide) (h9)
    refine lv_aload_n hx hb dL_law_418 rfl (lv_at hl 4 rfl) ?_
    refine lv_iconst (v := 0) hx hb dL_law_419 (by decide) ?_
    refine k_lald hc hk hw dL_law_420 ?_
    refine vn_l (v9 := (f_X6_complain (xs (z + 1).toNatClampNeg) (xs (z + 2).toNatClampNeg) (xs (z + 3).toNatClampNeg) (xs (z + 4).toNatClampNeg) (S 0)).1.toInt64) (by rw [← ho1, if_pos he0]; exact lw_uL o.1 0 _) ?_
    refine lv_iload hx hb dL_law_421 (lv_at hl 0 rfl) ?_
    refine lv_i2l hx hb dL_law_423 rfl ?_
    refine W.lcmp hx hb dL_law_424 ?_
    refine lv_if_eq (tgt := 430) hx hb dL_law_425 (by decide) (fun _ => ?_) (fun h9 => absurd (by rw [show (f_X6_complain (xs (z + 1).toNatClampNeg) (xs (z + 2).toNatClampNeg) (xs (z + 3).toNatClampNeg) (xs (z + 4).toNatClampNeg) (S 0)).1.toInt64 = ((f_X7_complain (xs (z + 1).toNatClampNeg) (xs (z + 2).toNatClampNeg) (xs (z + 3).toNatClampNeg) (xs (z + 4).toNatClampNeg) M).1.toInt64) from congrArg Int32.toInt64 (hsim.2.1 he0).symm]; exact lw_self _) h9)
    refine lv_goto (tgt := 2293) hx hb dL_law_430 (by decide) ?_
    refine W.widen (k := cells + 5) (n := slots + 30) (by omega) (by omega) ?_
    exact kk _ _ _ _ _ _ hV1 hw (lv_sub hl [2, 3, 4, 5, 6, 7] rfl)
set_option maxHeartbeats 4000000 in
set_option maxRecDepth 100000 in
theorem lc_4 {p : Program} {l : Launch} {e : Env} {s : State} {m : MethodId} {below : List Frame} {meth : Method} {c : Code} {b Ls : Nat} {xs : Nat → Int32} {g : wG} {Q : State → Prop} {S : Nat → BT} {M : BT} {o : (Nat → Int64) × (Nat → UInt64)} {t cells slots : Nat} {z : Int32} {H : Heap} {locs : List Loc} {ls : Array Slot}
    (C9 : LC p l s m c b Ls xs g) (hz : z = nI (5 * t)) (hlt : 5 * t + 5 ≤ Ls) (hL : Ls ≤ 2560) (hV : sm_V S M t) (hcs : cells + 5 ≤ 603072) (hss : slots + 30 ≤ 7190634) (hw : WS g s (S, (M, o)) H locs) (hl : lv_has ls 9 (lw_lv g b z))
    (kk : LK p l e s m below meth c b g z (t + 1) (cells + 5) (slots + 30) Q) : W p l e room_1 s m #[Value.ref b] below meth c H locs cells slots Q (F0 m 433 ls []) := by
  obtain ⟨hc, hml, hk, hX, hbl, hbA, hfl⟩ := C9
  have hx := hc.1
  have hb := hc.2.1
  have ht5 : t < 512 := by omega
  obtain ⟨n9, m9, n8, m8, hN, hN1, hMN, hev, hev2⟩ := hV.c
  by_cases hq2 : (xs (z + 2).toNatClampNeg) = 0
  · refine lv_aload_n hx hb dL_law_433 rfl (lv_at hl 4 rfl) ?_
    refine lv_aload_n hx hb dL_law_434 rfl (lv_at hl 5 rfl) ?_
    refine lv_iload hx hb dL_law_435 (lv_at hl 0 rfl) ?_
    refine lv_iconst (v := 1) hx hb dL_law_437 (by decide) ?_
    refine lv_iadd hx hb dL_law_438 ?_
    refine va_sld hx hb hX hbl hbA hw.2 (sm_scr (j := 1) hz hlt hL (by decide)) dL_law_439 ?_
    refine lv_aload_n hx hb dL_law_440 rfl (lv_at hl 5 rfl) ?_
    refine lv_iload hx hb dL_law_441 (lv_at hl 0 rfl) ?_
    refine lv_iconst (v := 2) hx hb dL_law_443 (by decide) ?_
    refine lv_iadd hx hb dL_law_444 ?_
    refine va_sld hx hb hX hbl hbA hw.2 (sm_scr (j := 2) hz hlt hL (by decide)) dL_law_445 ?_
    refine lv_if_eq (tgt := 453) hx hb dL_law_446 (by decide) (fun _ => ?_) (fun h9 => absurd hq2 h9)
    refine lv_iconst (v := 0) hx hb dL_law_453 (by decide) ?_
    refine lv_aload_n hx hb dL_law_454 rfl (lv_at hl 2 rfl) ?_
    have hw0 : WS g s (xB S 0 (S 0) (M, o)) H locs := hw.eqv (by rw [xB, va_up_id])
    refine kc_i hw0 (vx_runSW (hh := [(0, 17, 20, 25), (0, 17, 24, 31)]) (As := [.ref (gA g 0), .int (xs (z + 1).toNatClampNeg), .int 0, .ref (gA g 169)]) (rest := []) ⟨hx, hb, hml, hc.2.2.1, hc.2.2.2⟩ (m_L_setCourt l g hfl S (S 0) (M, o) (xs (z + 1).toNatClampNeg) 0 _ _ hN hev) (kw_SW hc 4 q692 q693 q0 q694 rfl rfl (by decide +kernel) ⟨Nat.le_of_ble_eq_true rfl, Nat.le_of_ble_eq_true rfl⟩) (kp_S hk hw0) rfl rfl hl.1 rfl (lv_room (Nat.le_of_ble_eq_true rfl)) dL_law_455 ⟨by show cells + 2 ≤ 603072; omega, by show slots + 12 ≤ 7190634; omega⟩) (fun H locs hw => ?_)
    have hw : WS g s ((if e_X6_setCourt (xs (z + 1).toNatClampNeg) 0 (S 0) = none then va_up (f_X2_keep 5 (xs (z + 1).toNatClampNeg) (j_X6_setCourt_12 0) 0 0 S) 0 (f_X6_setCourt (xs (z + 1).toNatClampNeg) 0 (S 0)).2 else S), (M, (if e_X6_setCourt (xs (z + 1).toNatClampNeg) 0 (S 0) = none then vp_updL o.1 0 (if (f_X6_setCourt (xs (z + 1).toNatClampNeg) 0 (S 0)).1 = 0 then 0 else 1) else o.1, o.2))) H locs := hw.eqv (by rw [show (xB S 0 (S 0) (M, o) : wSt) = (S, (M, o)) by rw [xB, va_up_id]]; exact wst_l)
    have hsim := sm_setCourt hV ht5 (xs (z + 1).toNatClampNeg) 0 (Or.inl rfl)
    have hV1 : sm_V (if e_X6_setCourt (xs (z + 1).toNatClampNeg) 0 (S 0) = none then va_up (f_X2_keep 5 (xs (z + 1).toNatClampNeg) (j_X6_setCourt_12 0) 0 0 S) 0 (f_X6_setCourt (xs (z + 1).toNatClampNeg) 0 (S 0)).2 else S) (f_X7_setCourt (xs (z + 1).toNatClampNeg) 0 M).2 (t + 1) := hsim.2.2
    generalize hS1 : (if e_X6_setCourt (xs (z + 1).toNatClampNeg) 0 (S 0) = none then va_up (f_X2_keep 5 (xs (z + 1).toNatClampNeg) (j_X6_setCourt_12 0) 0 0 S) 0 (f_X6_setCourt (xs (z + 1).toNatClampNeg) 0 (S 0)).2 else S) = S1 at hw hV1
    generalize ho1 : ((if e_X6_setCourt (xs (z + 1).toNatClampNeg) 0 (S 0) = none then vp_updL o.1 0 (if (f_X6_setCourt (xs (z + 1).toNatClampNeg) 0 (S 0)).1 = 0 then 0 else 1) else o.1, o.2) : (Nat → Int64) × (Nat → UInt64)) = o1 at hw
    refine lv_istore (lv' := [(6, .int (kE (e_X6_setCourt (xs (z + 1).toNatClampNeg) 0 (S 0)) ["java/lang/IndexOutOfBoundsException", "java/lang/UnsupportedOperationException"])), (5, .int z), (4, .ref (gA g 170)), (3, .ref (gA g 169)), (2, .ref (gA g (jM 0))), (1, .ref (gA g 0)), (0, .ref b)]) hx hb dL_law_458 hl (by decide) rfl (fun ls hl => ?_)
    refine lv_aload_n hx hb dL_law_460 rfl (lv_at hl 4 rfl) ?_
    refine lv_aload_n hx hb dL_law_461 rfl (lv_at hl 6 rfl) ?_
    refine lv_iload hx hb dL_law_462 (lv_at hl 1 rfl) ?_
    refine lv_iconst (v := 1) hx hb dL_law_464 (by decide) ?_
    refine lv_iadd hx hb dL_law_465 ?_
    refine va_sld hx hb hX hbl hbA hw.2 (sm_scr (j := 1) hz hlt hL (by decide)) dL_law_466 ?_
    refine lv_aload_n hx hb dL_law_467 rfl (lv_at hl 6 rfl) ?_
    refine lv_iload hx hb dL_law_468 (lv_at hl 1 rfl) ?_
    refine lv_iconst (v := 2) hx hb dL_law_470 (by decide) ?_
    refine lv_iadd hx hb dL_law_471 ?_
    refine va_sld hx hb hX hbl hbA hw.2 (sm_scr (j := 2) hz hlt hL (by decide)) dL_law_472 ?_
    refine lv_if_eq (tgt := 480) hx hb dL_law_473 (by decide) (fun _ => ?_) (fun h9 => absurd hq2 h9)
    refine lv_iconst (v := 0) hx hb dL_law_480 (by decide) ?_
    refine kc_i hw (va_runV (As := [.int (xs (z + 1).toNatClampNeg), .int 0]) (rest := []) ⟨hx, hb, hml, hc.2.2.1, hc.2.2.2⟩ (m_X7_setCourt l g S1 M o1 (xs (z + 1).toNatClampNeg) 0 (okz_01 (Or.inl rfl)) _ _ hMN) (kw_V hc 2 q1164 q1165 q1166 q8 q1167 rfl rfl (by decide +kernel) ⟨Nat.le_of_ble_eq_true rfl, Nat.le_of_ble_eq_true rfl⟩) (kp_V hk hw at_M rfl) rfl rfl hl.1 rfl (lv_room (Nat.le_of_ble_eq_true rfl)) dL_law_481 ⟨by show cells + 2 + 0 ≤ 603072; omega, by show slots + 12 + 0 ≤ 7190634; omega⟩) (fun H locs hw => ?_)
    refine lv_istore (lv' := [(7, .int (f_X7_setCourt (xs (z + 1).toNatClampNeg) 0 M).1), (6, .int (kE (e_X6_setCourt (xs (z + 1).toNatClampNeg) 0 (S 0)) ["java/lang/IndexOutOfBoundsException", "java/lang/UnsupportedOperationException"])), (5, .int z), (4, .ref (gA g 170)), (3, .ref (gA g 169)), (2, .ref (gA g (jM 0))), (1, .ref (gA g 0)), (0, .ref b)]) hx hb dL_law_484 hl (by decide) rfl (fun ls hl => ?_)
    refine lv_aload_n hx hb dL_law_486 rfl (lv_at hl 5 rfl) ?_
    refine kc_i hw (va_runV (As := []) (rest := []) ⟨hx, hb, hml, hc.2.2.1, hc.2.2.2⟩ (m_X7_thrown l g S1 (f_X7_setCourt (xs (z + 1).toNatClampNeg) 0 M).2 o1) (kw_V hc 0 q1125 q1126 q1127 q8 q1128 rfl rfl (by decide +kernel) ⟨Nat.le_of_ble_eq_true rfl, Nat.le_of_ble_eq_true rfl⟩) (kp_V hk hw at_M rfl) rfl rfl hl.1 rfl (lv_room (Nat.le_of_ble_eq_true rfl)) dL_law_487 ⟨by show cells + 2 + 0 ≤ 603072; omega, by show slots + 12 + 0 ≤ 7190634; omega⟩) (fun H locs hw => ?_)
    refine lv_iload hx hb dL_law_490 (lv_at hl 1 rfl) ?_
    refine lv_icmp_eq (tgt := 497) hx hb dL_law_492 (by decide) (fun _ => ?_) (fun h9 => absurd hsim.1 h9)
    refine lv_iload hx hb dL_law_497 (lv_at hl 1 rfl) ?_
    refine lv_if_ne (tgt := 521) hx hb dL_law_499 (by decide) (fun _ => ?_) (fun h9 => ?_)
    · refine lv_goto (tgt := 2293) hx hb dL_law_521 (by decide) ?_
      refine W.widen (k := cells + 5) (n := slots + 30) (by omega) (by omega) ?_
      exact kk _ _ _ _ _ _ hV1 hw (lv_sub hl [2, 3, 4, 5, 6, 7] rfl)
    · have he0 := kE_none (by decide) (h9)
      refine lv_aload_n hx hb dL_law_502 rfl (lv_at hl 4 rfl) ?_
      refine lv_iconst (v := 0) hx hb dL_law_503 (by decide) ?_
      refine k_lald hc hk hw dL_law_504 ?_
      refine vn_l (v9 := (if (f_X6_setCourt (xs (z + 1).toNatClampNeg) 0 (S 0)).1 = 0 then 0 else 1)) (by rw [← ho1, if_pos he0]; exact lw_uL o.1 0 _) ?_
      refine lv_iload hx hb dL_law_505 (lv_at hl 0 rfl) ?_
      refine lv_if_eq (tgt := 514) hx hb dL_law_507 (by decide) (fun h7 => ?_) (fun h7 => ?_)
      · refine lv_lconst (v := 0) hx hb dL_law_514 (by decide) ?_
        refine W.lcmp hx hb dL_law_515 ?_
        refine lv_if_eq (tgt := 521) hx hb dL_law_516 (by decide) (fun _ => ?_) (fun h9 => absurd (by rw [show (if (f_X6_setCourt (xs (z + 1).toNatClampNeg) 0 (S 0)).1 = 0 then 0 else 1) = (0 : Int64) from (if_pos ((hsim.2.1 he0).symm.trans h7))]; exact lw_self _) h9)
        refine lv_goto (tgt := 2293) hx hb dL_law_521 (by decide) ?_
        refine W.widen (k := cells + 5) (n := slots + 30) (by omega) (by omega) ?_
        exact kk _ _ _ _ _ _ hV1 hw (lv_sub hl [2, 3, 4, 5, 6, 7] rfl)
      · refine lv_lconst (v := 1) hx hb dL_law_510 (by decide) ?_
        refine lv_goto (tgt := 515) hx hb dL_law_511 (by decide) ?_
        refine W.lcmp hx hb dL_law_515 ?_
        refine lv_if_eq (tgt := 521) hx hb dL_law_516 (by decide) (fun _ => ?_) (fun h9 => absurd (by rw [show (if (f_X6_setCourt (xs (z + 1).toNatClampNeg) 0 (S 0)).1 = 0 then 0 else 1) = (1 : Int64) from (if_neg (fun w => h7 ((hsim.2.1 he0).trans w)))]; exact lw_self _) h9)
        refine lv_goto (tgt := 2293) hx hb dL_law_521 (by decide) ?_
        refine W.widen (k := cells + 5) (n := slots + 30) (by omega) (by omega) ?_
        exact kk _ _ _ _ _ _ hV1 hw (lv_sub hl [2, 3, 4, 5, 6, 7] rfl)
  · refine lv_aload_n hx hb dL_law_433 rfl (lv_at hl 4 rfl) ?_
    refine lv_aload_n hx hb dL_law_434 rfl (lv_at hl 5 rfl) ?_
    refine lv_iload hx hb dL_law_435 (lv_at hl 0 rfl) ?_
    refine lv_iconst (v := 1) hx hb dL_law_437 (by decide) ?_
    refine lv_iadd hx hb dL_law_438 ?_
    refine va_sld hx hb hX hbl hbA hw.2 (sm_scr (j := 1) hz hlt hL (by decide)) dL_law_439 ?_
    refine lv_aload_n hx hb dL_law_440 rfl (lv_at hl 5 rfl) ?_
    refine lv_iload hx hb dL_law_441 (lv_at hl 0 rfl) ?_
    refine lv_iconst (v := 2) hx hb dL_law_443 (by decide) ?_
    refine lv_iadd hx hb dL_law_444 ?_
    refine va_sld hx hb hX hbl hbA hw.2 (sm_scr (j := 2) hz hlt hL (by decide)) dL_law_445 ?_
    refine lv_if_eq (tgt := 453) hx hb dL_law_446 (by decide) (fun h9 => absurd h9 hq2) (fun _ => ?_)
    refine lv_iconst (v := 1) hx hb dL_law_449 (by decide) ?_
    refine lv_goto (tgt := 454) hx hb dL_law_450 (by decide) ?_
    refine lv_aload_n hx hb dL_law_454 rfl (lv_at hl 2 rfl) ?_
    have hw0 : WS g s (xB S 0 (S 0) (M, o)) H locs := hw.eqv (by rw [xB, va_up_id])
    refine kc_i hw0 (vx_runSW (hh := [(0, 17, 20, 25), (0, 17, 24, 31)]) (As := [.ref (gA g 0), .int (xs (z + 1).toNatClampNeg), .int 1, .ref (gA g 169)]) (rest := []) ⟨hx, hb, hml, hc.2.2.1, hc.2.2.2⟩ (m_L_setCourt l g hfl S (S 0) (M, o) (xs (z + 1).toNatClampNeg) 1 _ _ hN hev) (kw_SW hc 4 q692 q693 q0 q694 rfl rfl (by decide +kernel) ⟨Nat.le_of_ble_eq_true rfl, Nat.le_of_ble_eq_true rfl⟩) (kp_S hk hw0) rfl rfl hl.1 rfl (lv_room (Nat.le_of_ble_eq_true rfl)) dL_law_455 ⟨by show cells + 2 ≤ 603072; omega, by show slots + 12 ≤ 7190634; omega⟩) (fun H locs hw => ?_)
    have hw : WS g s ((if e_X6_setCourt (xs (z + 1).toNatClampNeg) 1 (S 0) = none then va_up (f_X2_keep 5 (xs (z + 1).toNatClampNeg) (j_X6_setCourt_12 1) 0 0 S) 0 (f_X6_setCourt (xs (z + 1).toNatClampNeg) 1 (S 0)).2 else S), (M, (if e_X6_setCourt (xs (z + 1).toNatClampNeg) 1 (S 0) = none then vp_updL o.1 0 (if (f_X6_setCourt (xs (z + 1).toNatClampNeg) 1 (S 0)).1 = 0 then 0 else 1) else o.1, o.2))) H locs := hw.eqv (by rw [show (xB S 0 (S 0) (M, o) : wSt) = (S, (M, o)) by rw [xB, va_up_id]]; exact wst_l)
    have hsim := sm_setCourt hV ht5 (xs (z + 1).toNatClampNeg) 1 (Or.inr rfl)
    have hV1 : sm_V (if e_X6_setCourt (xs (z + 1).toNatClampNeg) 1 (S 0) = none then va_up (f_X2_keep 5 (xs (z + 1).toNatClampNeg) (j_X6_setCourt_12 1) 0 0 S) 0 (f_X6_setCourt (xs (z + 1).toNatClampNeg) 1 (S 0)).2 else S) (f_X7_setCourt (xs (z + 1).toNatClampNeg) 1 M).2 (t + 1) := hsim.2.2
    generalize hS1 : (if e_X6_setCourt (xs (z + 1).toNatClampNeg) 1 (S 0) = none then va_up (f_X2_keep 5 (xs (z + 1).toNatClampNeg) (j_X6_setCourt_12 1) 0 0 S) 0 (f_X6_setCourt (xs (z + 1).toNatClampNeg) 1 (S 0)).2 else S) = S1 at hw hV1
    generalize ho1 : ((if e_X6_setCourt (xs (z + 1).toNatClampNeg) 1 (S 0) = none then vp_updL o.1 0 (if (f_X6_setCourt (xs (z + 1).toNatClampNeg) 1 (S 0)).1 = 0 then 0 else 1) else o.1, o.2) : (Nat → Int64) × (Nat → UInt64)) = o1 at hw
    refine lv_istore (lv' := [(6, .int (kE (e_X6_setCourt (xs (z + 1).toNatClampNeg) 1 (S 0)) ["java/lang/IndexOutOfBoundsException", "java/lang/UnsupportedOperationException"])), (5, .int z), (4, .ref (gA g 170)), (3, .ref (gA g 169)), (2, .ref (gA g (jM 0))), (1, .ref (gA g 0)), (0, .ref b)]) hx hb dL_law_458 hl (by decide) rfl (fun ls hl => ?_)
    refine lv_aload_n hx hb dL_law_460 rfl (lv_at hl 4 rfl) ?_
    refine lv_aload_n hx hb dL_law_461 rfl (lv_at hl 6 rfl) ?_
    refine lv_iload hx hb dL_law_462 (lv_at hl 1 rfl) ?_
    refine lv_iconst (v := 1) hx hb dL_law_464 (by decide) ?_
    refine lv_iadd hx hb dL_law_465 ?_
    refine va_sld hx hb hX hbl hbA hw.2 (sm_scr (j := 1) hz hlt hL (by decide)) dL_law_466 ?_
    refine lv_aload_n hx hb dL_law_467 rfl (lv_at hl 6 rfl) ?_
    refine lv_iload hx hb dL_law_468 (lv_at hl 1 rfl) ?_
    refine lv_iconst (v := 2) hx hb dL_law_470 (by decide) ?_
    refine lv_iadd hx hb dL_law_471 ?_
    refine va_sld hx hb hX hbl hbA hw.2 (sm_scr (j := 2) hz hlt hL (by decide)) dL_law_472 ?_
    refine lv_if_eq (tgt := 480) hx hb dL_law_473 (by decide) (fun h9 => absurd h9 hq2) (fun _ => ?_)
    refine lv_iconst (v := 1) hx hb dL_law_476 (by decide) ?_
    refine lv_goto (tgt := 481) hx hb dL_law_477 (by decide) ?_
    refine kc_i hw (va_runV (As := [.int (xs (z + 1).toNatClampNeg), .int 1]) (rest := []) ⟨hx, hb, hml, hc.2.2.1, hc.2.2.2⟩ (m_X7_setCourt l g S1 M o1 (xs (z + 1).toNatClampNeg) 1 (okz_01 (Or.inr rfl)) _ _ hMN) (kw_V hc 2 q1164 q1165 q1166 q8 q1167 rfl rfl (by decide +kernel) ⟨Nat.le_of_ble_eq_true rfl, Nat.le_of_ble_eq_true rfl⟩) (kp_V hk hw at_M rfl) rfl rfl hl.1 rfl (lv_room (Nat.le_of_ble_eq_true rfl)) dL_law_481 ⟨by show cells + 2 + 0 ≤ 603072; omega, by show slots + 12 + 0 ≤ 7190634; omega⟩) (fun H locs hw => ?_)
    refine lv_istore (lv' := [(7, .int (f_X7_setCourt (xs (z + 1).toNatClampNeg) 1 M).1), (6, .int (kE (e_X6_setCourt (xs (z + 1).toNatClampNeg) 1 (S 0)) ["java/lang/IndexOutOfBoundsException", "java/lang/UnsupportedOperationException"])), (5, .int z), (4, .ref (gA g 170)), (3, .ref (gA g 169)), (2, .ref (gA g (jM 0))), (1, .ref (gA g 0)), (0, .ref b)]) hx hb dL_law_484 hl (by decide) rfl (fun ls hl => ?_)
    refine lv_aload_n hx hb dL_law_486 rfl (lv_at hl 5 rfl) ?_
    refine kc_i hw (va_runV (As := []) (rest := []) ⟨hx, hb, hml, hc.2.2.1, hc.2.2.2⟩ (m_X7_thrown l g S1 (f_X7_setCourt (xs (z + 1).toNatClampNeg) 1 M).2 o1) (kw_V hc 0 q1125 q1126 q1127 q8 q1128 rfl rfl (by decide +kernel) ⟨Nat.le_of_ble_eq_true rfl, Nat.le_of_ble_eq_true rfl⟩) (kp_V hk hw at_M rfl) rfl rfl hl.1 rfl (lv_room (Nat.le_of_ble_eq_true rfl)) dL_law_487 ⟨by show cells + 2 + 0 ≤ 603072; omega, by show slots + 12 + 0 ≤ 7190634; omega⟩) (fun H locs hw => ?_)
    refine lv_iload hx hb dL_law_490 (lv_at hl 1 rfl) ?_
    refine lv_icmp_eq (tgt := 497) hx hb dL_law_492 (by decide) (fun _ => ?_) (fun h9 => absurd hsim.1 h9)
    refine lv_iload hx hb dL_law_497 (lv_at hl 1 rfl) ?_
    refine lv_if_ne (tgt := 521) hx hb dL_law_499 (by decide) (fun _ => ?_) (fun h9 => ?_)
    · refine lv_goto (tgt := 2293) hx hb dL_law_521 (by decide) ?_
      refine W.widen (k := cells + 5) (n := slots + 30) (by omega) (by omega) ?_
      exact kk _ _ _ _ _ _ hV1 hw (lv_sub hl [2, 3, 4, 5, 6, 7] rfl)
    · have he0 := kE_none (by decide) (h9)
      refine lv_aload_n hx hb dL_law_502 rfl (lv_at hl 4 rfl) ?_
      refine lv_iconst (v := 0) hx hb dL_law_503 (by decide) ?_
      refine k_lald hc hk hw dL_law_504 ?_
      refine vn_l (v9 := (if (f_X6_setCourt (xs (z + 1).toNatClampNeg) 1 (S 0)).1 = 0 then 0 else 1)) (by rw [← ho1, if_pos he0]; exact lw_uL o.1 0 _) ?_
      refine lv_iload hx hb dL_law_505 (lv_at hl 0 rfl) ?_
      refine lv_if_eq (tgt := 514) hx hb dL_law_507 (by decide) (fun h7 => ?_) (fun h7 => ?_)
      · refine lv_lconst (v := 0) hx hb dL_law_514 (by decide) ?_
        refine W.lcmp hx hb dL_law_515 ?_
        refine lv_if_eq (tgt := 521) hx hb dL_law_516 (by decide) (fun _ => ?_) (fun h9 => absurd (by rw [show (if (f_X6_setCourt (xs (z + 1).toNatClampNeg) 1 (S 0)).1 = 0 then 0 else 1) = (0 : Int64) from (if_pos ((hsim.2.1 he0).symm.trans h7))]; exact lw_self _) h9)
        refine lv_goto (tgt := 2293) hx hb dL_law_521 (by decide) ?_
        refine W.widen (k := cells + 5) (n := slots + 30) (by omega) (by omega) ?_
        exact kk _ _ _ _ _ _ hV1 hw (lv_sub hl [2, 3, 4, 5, 6, 7] rfl)
      · refine lv_lconst (v := 1) hx hb dL_law_510 (by decide) ?_
        refine lv_goto (tgt := 515) hx hb dL_law_511 (by decide) ?_
        refine W.lcmp hx hb dL_law_515 ?_
        refine lv_if_eq (tgt := 521) hx hb dL_law_516 (by decide) (fun _ => ?_) (fun h9 => absurd (by rw [show (if (f_X6_setCourt (xs (z + 1).toNatClampNeg) 1 (S 0)).1 = 0 then 0 else 1) = (1 : Int64) from (if_neg (fun w => h7 ((hsim.2.1 he0).trans w)))]; exact lw_self _) h9)
        refine lv_goto (tgt := 2293) hx hb dL_law_521 (by decide) ?_
        refine W.widen (k := cells + 5) (n := slots + 30) (by omega) (by omega) ?_
        exact kk _ _ _ _ _ _ hV1 hw (lv_sub hl [2, 3, 4, 5, 6, 7] rfl)
set_option maxHeartbeats 4000000 in
set_option maxRecDepth 100000 in
theorem lc_5 {p : Program} {l : Launch} {e : Env} {s : State} {m : MethodId} {below : List Frame} {meth : Method} {c : Code} {b Ls : Nat} {xs : Nat → Int32} {g : wG} {Q : State → Prop} {S : Nat → BT} {M : BT} {o : (Nat → Int64) × (Nat → UInt64)} {t cells slots : Nat} {z : Int32} {H : Heap} {locs : List Loc} {ls : Array Slot}
    (C9 : LC p l s m c b Ls xs g) (hz : z = nI (5 * t)) (hlt : 5 * t + 5 ≤ Ls) (hL : Ls ≤ 2560) (hV : sm_V S M t) (hcs : cells + 5 ≤ 603072) (hss : slots + 30 ≤ 7190634) (hw : WS g s (S, (M, o)) H locs) (hl : lv_has ls 9 (lw_lv g b z))
    (kk : LK p l e s m below meth c b g z (t + 1) (cells + 5) (slots + 30) Q) : W p l e room_1 s m #[Value.ref b] below meth c H locs cells slots Q (F0 m 524 ls []) := by
  obtain ⟨hc, hml, hk, hX, hbl, hbA, hfl⟩ := C9
  have hx := hc.1
  have hb := hc.2.1
  have ht5 : t < 512 := by omega
  obtain ⟨n9, m9, n8, m8, hN, hN1, hMN, hev, hev2⟩ := hV.c
  refine lv_aload_n hx hb dL_law_524 rfl (lv_at hl 4 rfl) ?_
  refine lv_aload_n hx hb dL_law_525 rfl (lv_at hl 5 rfl) ?_
  refine lv_iload hx hb dL_law_526 (lv_at hl 0 rfl) ?_
  refine lv_iconst (v := 1) hx hb dL_law_528 (by decide) ?_
  refine lv_iadd hx hb dL_law_529 ?_
  refine va_sld hx hb hX hbl hbA hw.2 (sm_scr (j := 1) hz hlt hL (by decide)) dL_law_530 ?_
  refine lv_aload_n hx hb dL_law_531 rfl (lv_at hl 2 rfl) ?_
  have hw0 : WS g s (xB S 0 (S 0) (M, o)) H locs := hw.eqv (by rw [xB, va_up_id])
  refine kc_i hw0 (vx_runSW (hh := [(0, 16, 19, 25), (0, 16, 22, 31)]) (As := [.ref (gA g 0), .int (xs (z + 1).toNatClampNeg), .ref (gA g 169)]) (rest := []) ⟨hx, hb, hml, hc.2.2.1, hc.2.2.2⟩ (m_L_excuse l g hfl S (S 0) (M, o) (xs (z + 1).toNatClampNeg) _ _ hN hev) (kw_SW hc 3 q725 q726 q0 q727 rfl rfl (by decide +kernel) ⟨Nat.le_of_ble_eq_true rfl, Nat.le_of_ble_eq_true rfl⟩) (kp_S hk hw0) rfl rfl hl.1 rfl (lv_room (Nat.le_of_ble_eq_true rfl)) dL_law_532 ⟨by show cells + 2 ≤ 603072; omega, by show slots + 12 ≤ 7190634; omega⟩) (fun H locs hw => ?_)
  have hw : WS g s ((if e_X6_excuse (xs (z + 1).toNatClampNeg) (S 0) = none then va_up (f_X2_keep 6 (xs (z + 1).toNatClampNeg) 0 0 0 S) 0 (f_X6_excuse (xs (z + 1).toNatClampNeg) (S 0)).2 else S), (M, (if e_X6_excuse (xs (z + 1).toNatClampNeg) (S 0) = none then vp_updL o.1 0 (if (f_X6_excuse (xs (z + 1).toNatClampNeg) (S 0)).1 = 0 then 0 else 1) else o.1, o.2))) H locs := hw.eqv (by rw [show (xB S 0 (S 0) (M, o) : wSt) = (S, (M, o)) by rw [xB, va_up_id]]; exact wst_l)
  have hsim := sm_excuse hV ht5 (xs (z + 1).toNatClampNeg)
  have hV1 : sm_V (if e_X6_excuse (xs (z + 1).toNatClampNeg) (S 0) = none then va_up (f_X2_keep 6 (xs (z + 1).toNatClampNeg) 0 0 0 S) 0 (f_X6_excuse (xs (z + 1).toNatClampNeg) (S 0)).2 else S) (f_X7_excuse (xs (z + 1).toNatClampNeg) M).2 (t + 1) := hsim.2.2
  generalize hS1 : (if e_X6_excuse (xs (z + 1).toNatClampNeg) (S 0) = none then va_up (f_X2_keep 6 (xs (z + 1).toNatClampNeg) 0 0 0 S) 0 (f_X6_excuse (xs (z + 1).toNatClampNeg) (S 0)).2 else S) = S1 at hw hV1
  generalize ho1 : ((if e_X6_excuse (xs (z + 1).toNatClampNeg) (S 0) = none then vp_updL o.1 0 (if (f_X6_excuse (xs (z + 1).toNatClampNeg) (S 0)).1 = 0 then 0 else 1) else o.1, o.2) : (Nat → Int64) × (Nat → UInt64)) = o1 at hw
  refine lv_istore (lv' := [(6, .int (kE (e_X6_excuse (xs (z + 1).toNatClampNeg) (S 0)) ["java/lang/IndexOutOfBoundsException", "java/lang/UnsupportedOperationException"])), (5, .int z), (4, .ref (gA g 170)), (3, .ref (gA g 169)), (2, .ref (gA g (jM 0))), (1, .ref (gA g 0)), (0, .ref b)]) hx hb dL_law_535 hl (by decide) rfl (fun ls hl => ?_)
  refine lv_aload_n hx hb dL_law_537 rfl (lv_at hl 4 rfl) ?_
  refine lv_aload_n hx hb dL_law_538 rfl (lv_at hl 6 rfl) ?_
  refine lv_iload hx hb dL_law_539 (lv_at hl 1 rfl) ?_
  refine lv_iconst (v := 1) hx hb dL_law_541 (by decide) ?_
  refine lv_iadd hx hb dL_law_542 ?_
  refine va_sld hx hb hX hbl hbA hw.2 (sm_scr (j := 1) hz hlt hL (by decide)) dL_law_543 ?_
  refine kc_i hw (va_runV (As := [.int (xs (z + 1).toNatClampNeg)]) (rest := []) ⟨hx, hb, hml, hc.2.2.1, hc.2.2.2⟩ (m_X7_excuse l g S1 M o1 (xs (z + 1).toNatClampNeg) _ _ hMN) (kw_V hc 1 q1180 q1181 q1182 q8 q1183 rfl rfl (by decide +kernel) ⟨Nat.le_of_ble_eq_true rfl, Nat.le_of_ble_eq_true rfl⟩) (kp_V hk hw at_M rfl) rfl rfl hl.1 rfl (lv_room (Nat.le_of_ble_eq_true rfl)) dL_law_544 ⟨by show cells + 2 + 0 ≤ 603072; omega, by show slots + 12 + 0 ≤ 7190634; omega⟩) (fun H locs hw => ?_)
  refine lv_istore (lv' := [(7, .int (f_X7_excuse (xs (z + 1).toNatClampNeg) M).1), (6, .int (kE (e_X6_excuse (xs (z + 1).toNatClampNeg) (S 0)) ["java/lang/IndexOutOfBoundsException", "java/lang/UnsupportedOperationException"])), (5, .int z), (4, .ref (gA g 170)), (3, .ref (gA g 169)), (2, .ref (gA g (jM 0))), (1, .ref (gA g 0)), (0, .ref b)]) hx hb dL_law_547 hl (by decide) rfl (fun ls hl => ?_)
  refine lv_aload_n hx hb dL_law_549 rfl (lv_at hl 5 rfl) ?_
  refine kc_i hw (va_runV (As := []) (rest := []) ⟨hx, hb, hml, hc.2.2.1, hc.2.2.2⟩ (m_X7_thrown l g S1 (f_X7_excuse (xs (z + 1).toNatClampNeg) M).2 o1) (kw_V hc 0 q1125 q1126 q1127 q8 q1128 rfl rfl (by decide +kernel) ⟨Nat.le_of_ble_eq_true rfl, Nat.le_of_ble_eq_true rfl⟩) (kp_V hk hw at_M rfl) rfl rfl hl.1 rfl (lv_room (Nat.le_of_ble_eq_true rfl)) dL_law_550 ⟨by show cells + 2 + 0 ≤ 603072; omega, by show slots + 12 + 0 ≤ 7190634; omega⟩) (fun H locs hw => ?_)
  refine lv_iload hx hb dL_law_553 (lv_at hl 1 rfl) ?_
  refine lv_icmp_eq (tgt := 560) hx hb dL_law_555 (by decide) (fun _ => ?_) (fun h9 => absurd hsim.1 h9)
  refine lv_iload hx hb dL_law_560 (lv_at hl 1 rfl) ?_
  refine lv_if_ne (tgt := 584) hx hb dL_law_562 (by decide) (fun _ => ?_) (fun h9 => ?_)
  · refine lv_goto (tgt := 2293) hx hb dL_law_584 (by decide) ?_
    refine W.widen (k := cells + 5) (n := slots + 30) (by omega) (by omega) ?_
    exact kk _ _ _ _ _ _ hV1 hw (lv_sub hl [2, 3, 4, 5, 6, 7] rfl)
  · have he0 := kE_none (by decide) (h9)
    refine lv_aload_n hx hb dL_law_565 rfl (lv_at hl 4 rfl) ?_
    refine lv_iconst (v := 0) hx hb dL_law_566 (by decide) ?_
    refine k_lald hc hk hw dL_law_567 ?_
    refine vn_l (v9 := (if (f_X6_excuse (xs (z + 1).toNatClampNeg) (S 0)).1 = 0 then 0 else 1)) (by rw [← ho1, if_pos he0]; exact lw_uL o.1 0 _) ?_
    refine lv_iload hx hb dL_law_568 (lv_at hl 0 rfl) ?_
    refine lv_if_eq (tgt := 577) hx hb dL_law_570 (by decide) (fun h7 => ?_) (fun h7 => ?_)
    · refine lv_lconst (v := 0) hx hb dL_law_577 (by decide) ?_
      refine W.lcmp hx hb dL_law_578 ?_
      refine lv_if_eq (tgt := 584) hx hb dL_law_579 (by decide) (fun _ => ?_) (fun h9 => absurd (by rw [show (if (f_X6_excuse (xs (z + 1).toNatClampNeg) (S 0)).1 = 0 then 0 else 1) = (0 : Int64) from (if_pos ((hsim.2.1 he0).symm.trans h7))]; exact lw_self _) h9)
      refine lv_goto (tgt := 2293) hx hb dL_law_584 (by decide) ?_
      refine W.widen (k := cells + 5) (n := slots + 30) (by omega) (by omega) ?_
      exact kk _ _ _ _ _ _ hV1 hw (lv_sub hl [2, 3, 4, 5, 6, 7] rfl)
    · refine lv_lconst (v := 1) hx hb dL_law_573 (by decide) ?_
      refine lv_goto (tgt := 578) hx hb dL_law_574 (by decide) ?_
      refine W.lcmp hx hb dL_law_578 ?_
      refine lv_if_eq (tgt := 584) hx hb dL_law_579 (by decide) (fun _ => ?_) (fun h9 => absurd (by rw [show (if (f_X6_excuse (xs (z + 1).toNatClampNeg) (S 0)).1 = 0 then 0 else 1) = (1 : Int64) from (if_neg (fun w => h7 ((hsim.2.1 he0).trans w)))]; exact lw_self _) h9)
      refine lv_goto (tgt := 2293) hx hb dL_law_584 (by decide) ?_
      refine W.widen (k := cells + 5) (n := slots + 30) (by omega) (by omega) ?_
      exact kk _ _ _ _ _ _ hV1 hw (lv_sub hl [2, 3, 4, 5, 6, 7] rfl)
