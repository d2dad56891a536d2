/-! asked and ask, of each call -/
set_option maxHeartbeats 4000000 in
set_option maxRecDepth 100000 in
theorem mA_addOffice (l : Launch) (g : wG) (hfl : l.stackTraces = false) (S : Nat → BT) (B : BT) (y : (Nat → Nat → Int32) × (Nat → Int64) × (Nat → UInt64)) (f : Nat → Int32) (a1 : Int32) (a2 : Int32) (h0 : f 0 = a1) (h1 : f 1 = a2) (n m9 : Nat) (hN : CN B n m9) (hev : ¬ S 2 0 1 < 0) : mA l g 79 2 f (xB S 0 B y) (e_X6_addOffice a1 a2 B) ((f_X6_addOffice a1 a2 B).1) (xB (f_X2_keep 1 a1 a2 0 0 S) 0 (f_X6_addOffice a1 a2 B).2 y) := by
  intro b
  refine va_MetW (cc := cL_ask) (maxL := 4) (ret := some .int) (by decide) rfl ?_
  intro p9 e s m args below meth c s₁ BL hml hv
  obtain ⟨rfl, hk, hPB, hv9⟩ := hv
  have hx := BL.exec
  have hb := BL.bytes
  have hc : CX p9 c cL_ask s _ m RL := ⟨hx, hb, findClass_of_methodNamed BL.named, fun w h => atoms_spec BL.pre w (List.mem_cons_of_mem _ h)⟩
  have hTB : c.exceptionTable.toList = tableOf tbA := vx_table (x := yL_ask) BL (atoms_spec (ws := wsH yL_ask cL_ask 4 (some .int) tbA) BL.pre (Cond.codeWith yL_ask cL_ask 4 (some .int) tbA) List.mem_cons_self)
  have hr := BL.returns
  have hlocks := BL.notSynchronized
  have hw : WS g s (xB S 0 B y) s.heap [] := ⟨hPB, va_S.rf⟩
  have hl := lv_entry ([.ref (gA g 0), .int (nI 79), .ref b]) (n := 4) (Nat.le_of_ble_eq_true rfl)
  rw [lg_entry_eq]
  generalize (lg_sl ([.ref (gA g 0), .int (nI 79), .ref b]) ++ List.replicate (4 - (lg_sl ([.ref (gA g 0), .int (nI 79), .ref b])).length) Slot.unset).toArray = ls at hl ⊢
  have hl : lv_has ls 4 [(0, .ref (gA g 0)), (1, .int (nI 79)), (2, .ref b)] := hl
  refine lv_iload_n hx hb dL_ask_0 rfl (lv_at hl 1 rfl) ?_
  refine lv_tableIn (off := 239) (tgt := 240) hx hb dL_ask_1 (by decide +kernel) (by decide +kernel) (by decide +kernel) (by decide) ?_
  refine lv_aload_n hx hb dL_ask_240 rfl (lv_at hl 0 rfl) ?_
  refine lv_aload_n hx hb dL_ask_241 rfl (lv_at hl 2 rfl) ?_
  refine lv_iconst (v := 0) hx hb dL_ask_242 (by decide) ?_
  refine k_vld (v := a1) hc hk hv9 (vp_in_nI (n := 0) (by decide) (by decide)) (by decide) h0 dL_ask_243 ?_
  refine lv_aload_n hx hb dL_ask_244 rfl (lv_at hl 2 rfl) ?_
  refine lv_iconst (v := 1) hx hb dL_ask_245 (by decide) ?_
  refine k_vld (v := a2) hc hk hv9 (vp_in_nI (n := 1) (by decide) (by decide)) (by decide) h1 dL_ask_246 ?_
  refine kx_i hw (vx_runV (As := [.int a1, .int a2]) (rest := []) ⟨hx, hb, hml, hc.2.2.1, hc.2.2.2⟩ (m_X6_addOffice l g hfl S B y a1 a2 _ _ hN hev) (kw_V hc 2 q612 q613 q614 q1 q615 rfl rfl (by decide +kernel) ⟨Nat.le_of_ble_eq_true rfl, Nat.le_of_ble_eq_true rfl⟩) (kp_V hk hw at_G rfl) rfl rfl hl.1 rfl (lv_room (Nat.le_of_ble_eq_true rfl)) dL_ask_247 ⟨Nat.le_of_ble_eq_true rfl, Nat.le_of_ble_eq_true rfl⟩) (fun E ce q9 H locs he hw hq hv hE => ?_) (fun H locs he hw => ?_)
  · have hE9 := ex_X6_addOffice E he
    simp only [List.mem_cons, List.not_mem_nil, or_false] at hE9
    rcases hE9 with rfl | rfl
    · refine cat_247_3 hc hk hTB hq hv hE ?_
      refine lv_astore_n (lv' := [(3, .ref q9), (0, .ref (gA g 0)), (1, .int (nI 79)), (2, .ref b)]) hx hb dL_ask_419 rfl hl (by decide) rfl (fun ls hl => ?_)
      refine lv_ldc (v := (-2000000003)) hx hb hc.2.2.1 (hc.2.2.2 _ q903) dL_ask_420 ?_
      refine W.widen (k := 5) (n := 30) (Nat.le_of_ble_eq_true rfl) (Nat.le_of_ble_eq_true rfl) ?_
      exact W.iret (v := (-2000000003)) hx hb hr (fun t9 ht hW => ke_i hw ht (by rw [he]; exact kX_3.symm) (if_neg (by rw [he]; exact Option.some_ne_none _)).symm) hw.2.2.2 dL_ask_422
    · refine cat_247_2 hc hk hTB hq hv hE ?_
      refine lv_astore_n (lv' := [(3, .ref q9), (0, .ref (gA g 0)), (1, .int (nI 79)), (2, .ref b)]) hx hb dL_ask_415 rfl hl (by decide) rfl (fun ls hl => ?_)
      refine lv_ldc (v := (-2000000002)) hx hb hc.2.2.1 (hc.2.2.2 _ q902) dL_ask_416 ?_
      refine W.widen (k := 5) (n := 30) (Nat.le_of_ble_eq_true rfl) (Nat.le_of_ble_eq_true rfl) ?_
      exact W.iret (v := (-2000000002)) hx hb hr (fun t9 ht hW => ke_i hw ht (by rw [he]; exact kX_2.symm) (if_neg (by rw [he]; exact Option.some_ne_none _)).symm) hw.2.2.2 dL_ask_418
  · refine W.widen (k := 5) (n := 30) (Nat.le_of_ble_eq_true rfl) (Nat.le_of_ble_eq_true rfl) ?_
    exact W.iret (v := _) hx hb hr (fun t9 ht hW => ke_i hw ht (by rw [he]; exact rfl) (if_pos he).symm) hw.2.2.2 dL_ask_250
set_option maxHeartbeats 4000000 in
set_option maxRecDepth 100000 in
theorem mA_pass (l : Launch) (g : wG) (hfl : l.stackTraces = false) (S : Nat → BT) (B : BT) (y : (Nat → Nat → Int32) × (Nat → Int64) × (Nat → UInt64)) (f : Nat → Int32) (a1 : Int32) (h0 : f 0 = a1) (n m9 : Nat) (hN : CN B n m9) (hev : ¬ S 2 0 1 < 0) : mA l g 112 1 f (xB S 0 B y) (e_X6_pass a1 B) ((f_X6_pass a1 B).1) (xB (f_X2_keep 2 a1 0 0 0 S) 0 (f_X6_pass a1 B).2 y) := by
  intro b
  refine va_MetW (cc := cL_ask) (maxL := 4) (ret := some .int) (by decide) rfl ?_
  intro p9 e s m args below meth c s₁ BL hml hv
  obtain ⟨rfl, hk, hPB, hv9⟩ := hv
  have hx := BL.exec
  have hb := BL.bytes
  have hc : CX p9 c cL_ask s _ m RL := ⟨hx, hb, findClass_of_methodNamed BL.named, fun w h => atoms_spec BL.pre w (List.mem_cons_of_mem _ h)⟩
  have hTB : c.exceptionTable.toList = tableOf tbA := vx_table (x := yL_ask) BL (atoms_spec (ws := wsH yL_ask cL_ask 4 (some .int) tbA) BL.pre (Cond.codeWith yL_ask cL_ask 4 (some .int) tbA) List.mem_cons_self)
  have hr := BL.returns
  have hlocks := BL.notSynchronized
  have hw : WS g s (xB S 0 B y) s.heap [] := ⟨hPB, va_S.rf⟩
  have hl := lv_entry ([.ref (gA g 0), .int (nI 112), .ref b]) (n := 4) (Nat.le_of_ble_eq_true rfl)
  rw [lg_entry_eq]
  generalize (lg_sl ([.ref (gA g 0), .int (nI 112), .ref b]) ++ List.replicate (4 - (lg_sl ([.ref (gA g 0), .int (nI 112), .ref b])).length) Slot.unset).toArray = ls at hl ⊢
  have hl : lv_has ls 4 [(0, .ref (gA g 0)), (1, .int (nI 112)), (2, .ref b)] := hl
  refine lv_iload_n hx hb dL_ask_0 rfl (lv_at hl 1 rfl) ?_
  refine lv_tableIn (off := 250) (tgt := 251) hx hb dL_ask_1 (by decide +kernel) (by decide +kernel) (by decide +kernel) (by decide) ?_
  refine lv_aload_n hx hb dL_ask_251 rfl (lv_at hl 0 rfl) ?_
  refine lv_aload_n hx hb dL_ask_252 rfl (lv_at hl 2 rfl) ?_
  refine lv_iconst (v := 0) hx hb dL_ask_253 (by decide) ?_
  refine k_vld (v := a1) hc hk hv9 (vp_in_nI (n := 0) (by decide) (by decide)) (by decide) h0 dL_ask_254 ?_
  refine kx_i hw (vx_runV (As := [.int a1]) (rest := []) ⟨hx, hb, hml, hc.2.2.1, hc.2.2.2⟩ (m_X6_pass l g hfl S B y a1 _ _ hN hev) (kw_V hc 1 q661 q662 q663 q1 q664 rfl rfl (by decide +kernel) ⟨Nat.le_of_ble_eq_true rfl, Nat.le_of_ble_eq_true rfl⟩) (kp_V hk hw at_G rfl) rfl rfl hl.1 rfl (lv_room (Nat.le_of_ble_eq_true rfl)) dL_ask_255 ⟨Nat.le_of_ble_eq_true rfl, Nat.le_of_ble_eq_true rfl⟩) (fun E ce q9 H locs he hw hq hv hE => ?_) (fun H locs he hw => ?_)
  · have hE9 := ex_X6_pass E he
    simp only [List.mem_cons, List.not_mem_nil, or_false] at hE9
    rcases hE9 with rfl | rfl
    · refine cat_255_3 hc hk hTB hq hv hE ?_
      refine lv_astore_n (lv' := [(3, .ref q9), (0, .ref (gA g 0)), (1, .int (nI 112)), (2, .ref b)]) hx hb dL_ask_419 rfl hl (by decide) rfl (fun ls hl => ?_)
      refine lv_ldc (v := (-2000000003)) hx hb hc.2.2.1 (hc.2.2.2 _ q903) dL_ask_420 ?_
      refine W.widen (k := 5) (n := 30) (Nat.le_of_ble_eq_true rfl) (Nat.le_of_ble_eq_true rfl) ?_
      exact W.iret (v := (-2000000003)) hx hb hr (fun t9 ht hW => ke_i hw ht (by rw [he]; exact kX_3.symm) (if_neg (by rw [he]; exact Option.some_ne_none _)).symm) hw.2.2.2 dL_ask_422
    · refine cat_255_2 hc hk hTB hq hv hE ?_
      refine lv_astore_n (lv' := [(3, .ref q9), (0, .ref (gA g 0)), (1, .int (nI 112)), (2, .ref b)]) hx hb dL_ask_415 rfl hl (by decide) rfl (fun ls hl => ?_)
      refine lv_ldc (v := (-2000000002)) hx hb hc.2.2.1 (hc.2.2.2 _ q902) dL_ask_416 ?_
      refine W.widen (k := 5) (n := 30) (Nat.le_of_ble_eq_true rfl) (Nat.le_of_ble_eq_true rfl) ?_
      exact W.iret (v := (-2000000002)) hx hb hr (fun t9 ht hW => ke_i hw ht (by rw [he]; exact kX_2.symm) (if_neg (by rw [he]; exact Option.some_ne_none _)).symm) hw.2.2.2 dL_ask_418
  · refine W.widen (k := 5) (n := 30) (Nat.le_of_ble_eq_true rfl) (Nat.le_of_ble_eq_true rfl) ?_
    exact W.iret (v := _) hx hb hr (fun t9 ht hW => ke_i hw ht (by rw [he]; exact rfl) (if_pos he).symm) hw.2.2.2 dL_ask_258
set_option maxHeartbeats 4000000 in
set_option maxRecDepth 100000 in
theorem mA_complain (l : Launch) (g : wG) (hfl : l.stackTraces = false) (S : Nat → BT) (B : BT) (y : (Nat → Nat → Int32) × (Nat → Int64) × (Nat → UInt64)) (f : Nat → Int32) (a1 : Int32) (a2 : Int32) (a3 : Int32) (a4 : Int32) (h0 : f 0 = a1) (h1 : f 1 = a2) (h2 : f 2 = a3) (h3 : f 3 = a4) (n m9 : Nat) (hN : CN B n m9) (hev : ¬ S 2 0 1 < 0) : mA l g 99 4 f (xB S 0 B y) (e_X6_complain a1 a2 a3 a4 B) ((f_X6_complain a1 a2 a3 a4 B).1) (xB (f_X2_keep 4 a1 a2 a3 a4 S) 0 (f_X6_complain a1 a2 a3 a4 B).2 y) := by
  intro b
  refine va_MetW (cc := cL_ask) (maxL := 4) (ret := some .int) (by decide) rfl ?_
  intro p9 e s m args below meth c s₁ BL hml hv
  obtain ⟨rfl, hk, hPB, hv9⟩ := hv
  have hx := BL.exec
  have hb := BL.bytes
  have hc : CX p9 c cL_ask s _ m RL := ⟨hx, hb, findClass_of_methodNamed BL.named, fun w h => atoms_spec BL.pre w (List.mem_cons_of_mem _ h)⟩
  have hTB : c.exceptionTable.toList = tableOf tbA := vx_table (x := yL_ask) BL (atoms_spec (ws := wsH yL_ask cL_ask 4 (some .int) tbA) BL.pre (Cond.codeWith yL_ask cL_ask 4 (some .int) tbA) List.mem_cons_self)
  have hr := BL.returns
  have hlocks := BL.notSynchronized
  have hw : WS g s (xB S 0 B y) s.heap [] := ⟨hPB, va_S.rf⟩
  have hl := lv_entry ([.ref (gA g 0), .int (nI 99), .ref b]) (n := 4) (Nat.le_of_ble_eq_true rfl)
  rw [lg_entry_eq]
  generalize (lg_sl ([.ref (gA g 0), .int (nI 99), .ref b]) ++ List.replicate (4 - (lg_sl ([.ref (gA g 0), .int (nI 99), .ref b])).length) Slot.unset).toArray = ls at hl ⊢
  have hl : lv_has ls 4 [(0, .ref (gA g 0)), (1, .int (nI 99)), (2, .ref b)] := hl
  refine lv_iload_n hx hb dL_ask_0 rfl (lv_at hl 1 rfl) ?_
  refine lv_tableIn (off := 258) (tgt := 259) hx hb dL_ask_1 (by decide +kernel) (by decide +kernel) (by decide +kernel) (by decide) ?_
  refine lv_aload_n hx hb dL_ask_259 rfl (lv_at hl 0 rfl) ?_
  refine lv_aload_n hx hb dL_ask_260 rfl (lv_at hl 2 rfl) ?_
  refine lv_iconst (v := 0) hx hb dL_ask_261 (by decide) ?_
  refine k_vld (v := a1) hc hk hv9 (vp_in_nI (n := 0) (by decide) (by decide)) (by decide) h0 dL_ask_262 ?_
  refine lv_aload_n hx hb dL_ask_263 rfl (lv_at hl 2 rfl) ?_
  refine lv_iconst (v := 1) hx hb dL_ask_264 (by decide) ?_
  refine k_vld (v := a2) hc hk hv9 (vp_in_nI (n := 1) (by decide) (by decide)) (by decide) h1 dL_ask_265 ?_
  refine lv_aload_n hx hb dL_ask_266 rfl (lv_at hl 2 rfl) ?_
  refine lv_iconst (v := 2) hx hb dL_ask_267 (by decide) ?_
  refine k_vld (v := a3) hc hk hv9 (vp_in_nI (n := 2) (by decide) (by decide)) (by decide) h2 dL_ask_268 ?_
  refine lv_aload_n hx hb dL_ask_269 rfl (lv_at hl 2 rfl) ?_
  refine lv_iconst (v := 3) hx hb dL_ask_270 (by decide) ?_
  refine k_vld (v := a4) hc hk hv9 (vp_in_nI (n := 3) (by decide) (by decide)) (by decide) h3 dL_ask_271 ?_
  refine kx_i hw (vx_runV (As := [.int a1, .int a2, .int a3, .int a4]) (rest := []) ⟨hx, hb, hml, hc.2.2.1, hc.2.2.2⟩ (m_X6_complain l g hfl S B y a1 a2 a3 a4 _ _ hN hev) (kw_V hc 4 q666 q667 q668 q1 q669 rfl rfl (by decide +kernel) ⟨Nat.le_of_ble_eq_true rfl, Nat.le_of_ble_eq_true rfl⟩) (kp_V hk hw at_G rfl) rfl rfl hl.1 rfl (lv_room (Nat.le_of_ble_eq_true rfl)) dL_ask_272 ⟨Nat.le_of_ble_eq_true rfl, Nat.le_of_ble_eq_true rfl⟩) (fun E ce q9 H locs he hw hq hv hE => ?_) (fun H locs he hw => ?_)
  · have hE9 := ex_X6_complain E he
    simp only [List.mem_cons, List.not_mem_nil, or_false] at hE9
    rcases hE9 with rfl | rfl | rfl
    · refine cat_272_3 hc hk hTB hq hv hE ?_
      refine lv_astore_n (lv' := [(3, .ref q9), (0, .ref (gA g 0)), (1, .int (nI 99)), (2, .ref b)]) hx hb dL_ask_419 rfl hl (by decide) rfl (fun ls hl => ?_)
      refine lv_ldc (v := (-2000000003)) hx hb hc.2.2.1 (hc.2.2.2 _ q903) dL_ask_420 ?_
      refine W.widen (k := 5) (n := 30) (Nat.le_of_ble_eq_true rfl) (Nat.le_of_ble_eq_true rfl) ?_
      exact W.iret (v := (-2000000003)) hx hb hr (fun t9 ht hW => ke_i hw ht (by rw [he]; exact kX_3.symm) (if_neg (by rw [he]; exact Option.some_ne_none _)).symm) hw.2.2.2 dL_ask_422
    · refine cat_272_1 hc hk hTB hq hv hE ?_
      refine lv_astore_n (lv' := [(3, .ref q9), (0, .ref (gA g 0)), (1, .int (nI 99)), (2, .ref b)]) hx hb dL_ask_411 rfl hl (by decide) rfl (fun ls hl => ?_)
      refine lv_ldc (v := (-2000000001)) hx hb hc.2.2.1 (hc.2.2.2 _ q901) dL_ask_412 ?_
      refine W.widen (k := 5) (n := 30) (Nat.le_of_ble_eq_true rfl) (Nat.le_of_ble_eq_true rfl) ?_
      exact W.iret (v := (-2000000001)) hx hb hr (fun t9 ht hW => ke_i hw ht (by rw [he]; exact kX_1.symm) (if_neg (by rw [he]; exact Option.some_ne_none _)).symm) hw.2.2.2 dL_ask_414
    · refine cat_272_2 hc hk hTB hq hv hE ?_
      refine lv_astore_n (lv' := [(3, .ref q9), (0, .ref (gA g 0)), (1, .int (nI 99)), (2, .ref b)]) hx hb dL_ask_415 rfl hl (by decide) rfl (fun ls hl => ?_)
      refine lv_ldc (v := (-2000000002)) hx hb hc.2.2.1 (hc.2.2.2 _ q902) dL_ask_416 ?_
      refine W.widen (k := 5) (n := 30) (Nat.le_of_ble_eq_true rfl) (Nat.le_of_ble_eq_true rfl) ?_
      exact W.iret (v := (-2000000002)) hx hb hr (fun t9 ht hW => ke_i hw ht (by rw [he]; exact kX_2.symm) (if_neg (by rw [he]; exact Option.some_ne_none _)).symm) hw.2.2.2 dL_ask_418
  · refine W.widen (k := 5) (n := 30) (Nat.le_of_ble_eq_true rfl) (Nat.le_of_ble_eq_true rfl) ?_
    exact W.iret (v := _) hx hb hr (fun t9 ht hW => ke_i hw ht (by rw [he]; exact rfl) (if_pos he).symm) hw.2.2.2 dL_ask_275
set_option maxHeartbeats 4000000 in
set_option maxRecDepth 100000 in
theorem mA_setCourt (l : Launch) (g : wG) (hfl : l.stackTraces = false) (S : Nat → BT) (B : BT) (y : (Nat → Nat → Int32) × (Nat → Int64) × (Nat → UInt64)) (f : Nat → Int32) (a1 : Int32) (a2 : Int32) (h0 : f 0 = a1) (h1 : f 1 = a2) (n m9 : Nat) (hN : CN B n m9) (hev : ¬ S 2 0 1 < 0) (hz : a2 = 0 ∨ a2 = 1) : mA l g 67 2 f (xB S 0 B y) (e_X6_setCourt a1 a2 B) (if (f_X6_setCourt a1 a2 B).1 = 0 then (0 : Int32) else 1) (xB (f_X2_keep 5 a1 (j_X6_setCourt_12 a2) 0 0 S) 0 (f_X6_setCourt a1 a2 B).2 y) := by
  rcases hz with rfl | rfl
  · intro b
    refine va_MetW (cc := cL_ask) (maxL := 4) (ret := some .int) (by decide) rfl ?_
    intro p9 e s m args below meth c s₁ BL hml hv
    obtain ⟨rfl, hk, hPB, hv9⟩ := hv
    have hx := BL.exec
    have hb := BL.bytes
    have hc : CX p9 c cL_ask s _ m RL := ⟨hx, hb, findClass_of_methodNamed BL.named, fun w h => atoms_spec BL.pre w (List.mem_cons_of_mem _ h)⟩
    have hTB : c.exceptionTable.toList = tableOf tbA := vx_table (x := yL_ask) BL (atoms_spec (ws := wsH yL_ask cL_ask 4 (some .int) tbA) BL.pre (Cond.codeWith yL_ask cL_ask 4 (some .int) tbA) List.mem_cons_self)
    have hr := BL.returns
    have hlocks := BL.notSynchronized
    have hw : WS g s (xB S 0 B y) s.heap [] := ⟨hPB, va_S.rf⟩
    have hl := lv_entry ([.ref (gA g 0), .int (nI 67), .ref b]) (n := 4) (Nat.le_of_ble_eq_true rfl)
    rw [lg_entry_eq]
    generalize (lg_sl ([.ref (gA g 0), .int (nI 67), .ref b]) ++ List.replicate (4 - (lg_sl ([.ref (gA g 0), .int (nI 67), .ref b])).length) Slot.unset).toArray = ls at hl ⊢
    have hl : lv_has ls 4 [(0, .ref (gA g 0)), (1, .int (nI 67)), (2, .ref b)] := hl
    refine lv_iload_n hx hb dL_ask_0 rfl (lv_at hl 1 rfl) ?_
    refine lv_tableIn (off := 275) (tgt := 276) hx hb dL_ask_1 (by decide +kernel) (by decide +kernel) (by decide +kernel) (by decide) ?_
    refine lv_aload_n hx hb dL_ask_276 rfl (lv_at hl 0 rfl) ?_
    refine lv_aload_n hx hb dL_ask_277 rfl (lv_at hl 2 rfl) ?_
    refine lv_iconst (v := 0) hx hb dL_ask_278 (by decide) ?_
    refine k_vld (v := a1) hc hk hv9 (vp_in_nI (n := 0) (by decide) (by decide)) (by decide) h0 dL_ask_279 ?_
    refine lv_aload_n hx hb dL_ask_280 rfl (lv_at hl 2 rfl) ?_
    refine lv_iconst (v := 1) hx hb dL_ask_281 (by decide) ?_
    refine k_vld (v := 0) hc hk hv9 (vp_in_nI (n := 1) (by decide) (by decide)) (by decide) h1 dL_ask_282 ?_
    refine lv_iconst (v := 1) hx hb dL_ask_283 (by decide) ?_
    refine lv_icmp_ne (tgt := 291) hx hb dL_ask_284 (by decide) (fun _ => ?_) (fun h9 => absurd h9 (by decide))
    refine lv_iconst (v := 0) hx hb dL_ask_291 (by decide) ?_
    refine kx_i hw (vx_runV (As := [.int a1, .int 0]) (rest := []) ⟨hx, hb, hml, hc.2.2.1, hc.2.2.2⟩ (m_X6_setCourt l g hfl S B y a1 0 _ _ hN hev) (kw_V hc 2 q688 q689 q690 q1 q691 rfl rfl (by decide +kernel) ⟨Nat.le_of_ble_eq_true rfl, Nat.le_of_ble_eq_true rfl⟩) (kp_V hk hw at_G rfl) rfl rfl hl.1 rfl (lv_room (Nat.le_of_ble_eq_true rfl)) dL_ask_292 ⟨Nat.le_of_ble_eq_true rfl, Nat.le_of_ble_eq_true rfl⟩) (fun E ce q9 H locs he hw hq hv hE => ?_) (fun H locs he hw => ?_)
    · have hE9 := ex_X6_setCourt E he
      simp only [List.mem_cons, List.not_mem_nil, or_false] at hE9
      rcases hE9 with rfl | rfl
      · refine cat_292_1 hc hk hTB hq hv hE ?_
        refine lv_astore_n (lv' := [(3, .ref q9), (0, .ref (gA g 0)), (1, .int (nI 67)), (2, .ref b)]) hx hb dL_ask_411 rfl hl (by decide) rfl (fun ls hl => ?_)
        refine lv_ldc (v := (-2000000001)) hx hb hc.2.2.1 (hc.2.2.2 _ q901) dL_ask_412 ?_
        refine W.widen (k := 5) (n := 30) (Nat.le_of_ble_eq_true rfl) (Nat.le_of_ble_eq_true rfl) ?_
        exact W.iret (v := (-2000000001)) hx hb hr (fun t9 ht hW => ke_i hw ht (by rw [he]; exact kX_1.symm) (if_neg (by rw [he]; exact Option.some_ne_none _)).symm) hw.2.2.2 dL_ask_414
      · refine cat_292_4 hc hk hTB hq hv hE ?_
        refine lv_astore_n (lv' := [(3, .ref q9), (0, .ref (gA g 0)), (1, .int (nI 67)), (2, .ref b)]) hx hb dL_ask_423 rfl hl (by decide) rfl (fun ls hl => ?_)
        refine lv_ldc (v := (-2000000004)) hx hb hc.2.2.1 (hc.2.2.2 _ q904) dL_ask_424 ?_
        refine W.widen (k := 5) (n := 30) (Nat.le_of_ble_eq_true rfl) (Nat.le_of_ble_eq_true rfl) ?_
        exact W.iret (v := (-2000000004)) hx hb hr (fun t9 ht hW => ke_i hw ht (by rw [he]; exact kX_4.symm) (if_neg (by rw [he]; exact Option.some_ne_none _)).symm) hw.2.2.2 dL_ask_426
    · refine lv_if_eq (tgt := 302) hx hb dL_ask_295 (by decide) (fun h9 => ?_) (fun h9 => ?_)
      · refine lv_iconst (v := 0) hx hb dL_ask_302 (by decide) ?_
        refine W.widen (k := 5) (n := 30) (Nat.le_of_ble_eq_true rfl) (Nat.le_of_ble_eq_true rfl) ?_
        exact W.iret (v := 0) hx hb hr (fun t9 ht hW => ke_i hw ht (by rw [he]; exact (if_pos h9).symm) (if_pos he).symm) hw.2.2.2 dL_ask_303
      · refine lv_iconst (v := 1) hx hb dL_ask_298 (by decide) ?_
        refine lv_goto (tgt := 303) hx hb dL_ask_299 (by decide) ?_
        refine W.widen (k := 5) (n := 30) (Nat.le_of_ble_eq_true rfl) (Nat.le_of_ble_eq_true rfl) ?_
        exact W.iret (v := 1) hx hb hr (fun t9 ht hW => ke_i hw ht (by rw [he]; exact (if_neg h9).symm) (if_pos he).symm) hw.2.2.2 dL_ask_303
  · intro b
    refine va_MetW (cc := cL_ask) (maxL := 4) (ret := some .int) (by decide) rfl ?_
    intro p9 e s m args below meth c s₁ BL hml hv
    obtain ⟨rfl, hk, hPB, hv9⟩ := hv
    have hx := BL.exec
    have hb := BL.bytes
    have hc : CX p9 c cL_ask s _ m RL := ⟨hx, hb, findClass_of_methodNamed BL.named, fun w h => atoms_spec BL.pre w (List.mem_cons_of_mem _ h)⟩
    have hTB : c.exceptionTable.toList = tableOf tbA := vx_table (x := yL_ask) BL (atoms_spec (ws := wsH yL_ask cL_ask 4 (some .int) tbA) BL.pre (Cond.codeWith yL_ask cL_ask 4 (some .int) tbA) List.mem_cons_self)
    have hr := BL.returns
    have hlocks := BL.notSynchronized
    have hw : WS g s (xB S 0 B y) s.heap [] := ⟨hPB, va_S.rf⟩
    have hl := lv_entry ([.ref (gA g 0), .int (nI 67), .ref b]) (n := 4) (Nat.le_of_ble_eq_true rfl)
    rw [lg_entry_eq]
    generalize (lg_sl ([.ref (gA g 0), .int (nI 67), .ref b]) ++ List.replicate (4 - (lg_sl ([.ref (gA g 0), .int (nI 67), .ref b])).length) Slot.unset).toArray = ls at hl ⊢
    have hl : lv_has ls 4 [(0, .ref (gA g 0)), (1, .int (nI 67)), (2, .ref b)] := hl
    refine lv_iload_n hx hb dL_ask_0 rfl (lv_at hl 1 rfl) ?_
    refine lv_tableIn (off := 275) (tgt := 276) hx hb dL_ask_1 (by decide +kernel) (by decide +kernel) (by decide +kernel) (by decide) ?_
    refine lv_aload_n hx hb dL_ask_276 rfl (lv_at hl 0 rfl) ?_
    refine lv_aload_n hx hb dL_ask_277 rfl (lv_at hl 2 rfl) ?_
    refine lv_iconst (v := 0) hx hb dL_ask_278 (by decide) ?_
    refine k_vld (v := a1) hc hk hv9 (vp_in_nI (n := 0) (by decide) (by decide)) (by decide) h0 dL_ask_279 ?_
    refine lv_aload_n hx hb dL_ask_280 rfl (lv_at hl 2 rfl) ?_
    refine lv_iconst (v := 1) hx hb dL_ask_281 (by decide) ?_
    refine k_vld (v := 1) hc hk hv9 (vp_in_nI (n := 1) (by decide) (by decide)) (by decide) h1 dL_ask_282 ?_
    refine lv_iconst (v := 1) hx hb dL_ask_283 (by decide) ?_
    refine lv_icmp_ne (tgt := 291) hx hb dL_ask_284 (by decide) (fun h9 => absurd rfl h9) (fun _ => ?_)
    refine lv_iconst (v := 1) hx hb dL_ask_287 (by decide) ?_
    refine lv_goto (tgt := 292) hx hb dL_ask_288 (by decide) ?_
    refine kx_i hw (vx_runV (As := [.int a1, .int 1]) (rest := []) ⟨hx, hb, hml, hc.2.2.1, hc.2.2.2⟩ (m_X6_setCourt l g hfl S B y a1 1 _ _ hN hev) (kw_V hc 2 q688 q689 q690 q1 q691 rfl rfl (by decide +kernel) ⟨Nat.le_of_ble_eq_true rfl, Nat.le_of_ble_eq_true rfl⟩) (kp_V hk hw at_G rfl) rfl rfl hl.1 rfl (lv_room (Nat.le_of_ble_eq_true rfl)) dL_ask_292 ⟨Nat.le_of_ble_eq_true rfl, Nat.le_of_ble_eq_true rfl⟩) (fun E ce q9 H locs he hw hq hv hE => ?_) (fun H locs he hw => ?_)
    · have hE9 := ex_X6_setCourt E he
      simp only [List.mem_cons, List.not_mem_nil, or_false] at hE9
      rcases hE9 with rfl | rfl
      · refine cat_292_1 hc hk hTB hq hv hE ?_
        refine lv_astore_n (lv' := [(3, .ref q9), (0, .ref (gA g 0)), (1, .int (nI 67)), (2, .ref b)]) hx hb dL_ask_411 rfl hl (by decide) rfl (fun ls hl => ?_)
        refine lv_ldc (v := (-2000000001)) hx hb hc.2.2.1 (hc.2.2.2 _ q901) dL_ask_412 ?_
        refine W.widen (k := 5) (n := 30) (Nat.le_of_ble_eq_true rfl) (Nat.le_of_ble_eq_true rfl) ?_
        exact W.iret (v := (-2000000001)) hx hb hr (fun t9 ht hW => ke_i hw ht (by rw [he]; exact kX_1.symm) (if_neg (by rw [he]; exact Option.some_ne_none _)).symm) hw.2.2.2 dL_ask_414
      · refine cat_292_4 hc hk hTB hq hv hE ?_
        refine lv_astore_n (lv' := [(3, .ref q9), (0, .ref (gA g 0)), (1, .int (nI 67)), (2, .ref b)]) hx hb dL_ask_423 rfl hl (by decide) rfl (fun ls hl => ?_)
        refine lv_ldc (v := (-2000000004)) hx hb hc.2.2.1 (hc.2.2.2 _ q904) dL_ask_424 ?_
        refine W.widen (k := 5) (n := 30) (Nat.le_of_ble_eq_true rfl) (Nat.le_of_ble_eq_true rfl) ?_
        exact W.iret (v := (-2000000004)) hx hb hr (fun t9 ht hW => ke_i hw ht (by rw [he]; exact kX_4.symm) (if_neg (by rw [he]; exact Option.some_ne_none _)).symm) hw.2.2.2 dL_ask_426
    · refine lv_if_eq (tgt := 302) hx hb dL_ask_295 (by decide) (fun h9 => ?_) (fun h9 => ?_)
      · refine lv_iconst (v := 0) hx hb dL_ask_302 (by decide) ?_
        refine W.widen (k := 5) (n := 30) (Nat.le_of_ble_eq_true rfl) (Nat.le_of_ble_eq_true rfl) ?_
        exact W.iret (v := 0) hx hb hr (fun t9 ht hW => ke_i hw ht (by rw [he]; exact (if_pos h9).symm) (if_pos he).symm) hw.2.2.2 dL_ask_303
      · refine lv_iconst (v := 1) hx hb dL_ask_298 (by decide) ?_
        refine lv_goto (tgt := 303) hx hb dL_ask_299 (by decide) ?_
        refine W.widen (k := 5) (n := 30) (Nat.le_of_ble_eq_true rfl) (Nat.le_of_ble_eq_true rfl) ?_
        exact W.iret (v := 1) hx hb hr (fun t9 ht hW => ke_i hw ht (by rw [he]; exact (if_neg h9).symm) (if_pos he).symm) hw.2.2.2 dL_ask_303
set_option maxHeartbeats 4000000 in
set_option maxRecDepth 100000 in
theorem mA_excuse (l : Launch) (g : wG) (hfl : l.stackTraces = false) (S : Nat → BT) (B : BT) (y : (Nat → Nat → Int32) × (Nat → Int64) × (Nat → UInt64)) (f : Nat → Int32) (a1 : Int32) (h0 : f 0 = a1) (n m9 : Nat) (hN : CN B n m9) (hev : ¬ S 2 0 1 < 0) : mA l g 120 1 f (xB S 0 B y) (e_X6_excuse a1 B) (if (f_X6_excuse a1 B).1 = 0 then (0 : Int32) else 1) (xB (f_X2_keep 6 a1 0 0 0 S) 0 (f_X6_excuse a1 B).2 y) := by
  intro b
  refine va_MetW (cc := cL_ask) (maxL := 4) (ret := some .int) (by decide) rfl ?_
  intro p9 e s m args below meth c s₁ BL hml hv
  obtain ⟨rfl, hk, hPB, hv9⟩ := hv
  have hx := BL.exec
  have hb := BL.bytes
  have hc : CX p9 c cL_ask s _ m RL := ⟨hx, hb, findClass_of_methodNamed BL.named, fun w h => atoms_spec BL.pre w (List.mem_cons_of_mem _ h)⟩
  have hTB : c.exceptionTable.toList = tableOf tbA := vx_table (x := yL_ask) BL (atoms_spec (ws := wsH yL_ask cL_ask 4 (some .int) tbA) BL.pre (Cond.codeWith yL_ask cL_ask 4 (some .int) tbA) List.mem_cons_self)
  have hr := BL.returns
  have hlocks := BL.notSynchronized
  have hw : WS g s (xB S 0 B y) s.heap [] := ⟨hPB, va_S.rf⟩
  have hl := lv_entry ([.ref (gA g 0), .int (nI 120), .ref b]) (n := 4) (Nat.le_of_ble_eq_true rfl)
  rw [lg_entry_eq]
  generalize (lg_sl ([.ref (gA g 0), .int (nI 120), .ref b]) ++ List.replicate (4 - (lg_sl ([.ref (gA g 0), .int (nI 120), .ref b])).length) Slot.unset).toArray = ls at hl ⊢
  have hl : lv_has ls 4 [(0, .ref (gA g 0)), (1, .int (nI 120)), (2, .ref b)] := hl
  refine lv_iload_n hx hb dL_ask_0 rfl (lv_at hl 1 rfl) ?_
  refine lv_tableIn (off := 303) (tgt := 304) hx hb dL_ask_1 (by decide +kernel) (by decide +kernel) (by decide +kernel) (by decide) ?_
  refine lv_aload_n hx hb dL_ask_304 rfl (lv_at hl 0 rfl) ?_
  refine lv_aload_n hx hb dL_ask_305 rfl (lv_at hl 2 rfl) ?_
  refine lv_iconst (v := 0) hx hb dL_ask_306 (by decide) ?_
  refine k_vld (v := a1) hc hk hv9 (vp_in_nI (n := 0) (by decide) (by decide)) (by decide) h0 dL_ask_307 ?_
  refine kx_i hw (vx_runV (As := [.int a1]) (rest := []) ⟨hx, hb, hml, hc.2.2.1, hc.2.2.2⟩ (m_X6_excuse l g hfl S B y a1 _ _ hN hev) (kw_V hc 1 q717 q718 q719 q1 q720 rfl rfl (by decide +kernel) ⟨Nat.le_of_ble_eq_true rfl, Nat.le_of_ble_eq_true rfl⟩) (kp_V hk hw at_G rfl) rfl rfl hl.1 rfl (lv_room (Nat.le_of_ble_eq_true rfl)) dL_ask_308 ⟨Nat.le_of_ble_eq_true rfl, Nat.le_of_ble_eq_true rfl⟩) (fun E ce q9 H locs he hw hq hv hE => ?_) (fun H locs he hw => ?_)
  · have hE9 := ex_X6_excuse E he
    simp only [List.mem_cons, List.not_mem_nil, or_false] at hE9
    rcases hE9 with rfl | rfl
    · refine cat_308_1 hc hk hTB hq hv hE ?_
      refine lv_astore_n (lv' := [(3, .ref q9), (0, .ref (gA g 0)), (1, .int (nI 120)), (2, .ref b)]) hx hb dL_ask_411 rfl hl (by decide) rfl (fun ls hl => ?_)
      refine lv_ldc (v := (-2000000001)) hx hb hc.2.2.1 (hc.2.2.2 _ q901) dL_ask_412 ?_
      refine W.widen (k := 5) (n := 30) (Nat.le_of_ble_eq_true rfl) (Nat.le_of_ble_eq_true rfl) ?_
      exact W.iret (v := (-2000000001)) hx hb hr (fun t9 ht hW => ke_i hw ht (by rw [he]; exact kX_1.symm) (if_neg (by rw [he]; exact Option.some_ne_none _)).symm) hw.2.2.2 dL_ask_414
    · refine cat_308_4 hc hk hTB hq hv hE ?_
      refine lv_astore_n (lv' := [(3, .ref q9), (0, .ref (gA g 0)), (1, .int (nI 120)), (2, .ref b)]) hx hb dL_ask_423 rfl hl (by decide) rfl (fun ls hl => ?_)
      refine lv_ldc (v := (-2000000004)) hx hb hc.2.2.1 (hc.2.2.2 _ q904) dL_ask_424 ?_
      refine W.widen (k := 5) (n := 30) (Nat.le_of_ble_eq_true rfl) (Nat.le_of_ble_eq_true rfl) ?_
      exact W.iret (v := (-2000000004)) hx hb hr (fun t9 ht hW => ke_i hw ht (by rw [he]; exact kX_4.symm) (if_neg (by rw [he]; exact Option.some_ne_none _)).symm) hw.2.2.2 dL_ask_426
  · refine lv_if_eq (tgt := 318) hx hb dL_ask_311 (by decide) (fun h9 => ?_) (fun h9 => ?_)
    · refine lv_iconst (v := 0) hx hb dL_ask_318 (by decide) ?_
      refine W.widen (k := 5) (n := 30) (Nat.le_of_ble_eq_true rfl) (Nat.le_of_ble_eq_true rfl) ?_
      exact W.iret (v := 0) hx hb hr (fun t9 ht hW => ke_i hw ht (by rw [he]; exact (if_pos h9).symm) (if_pos he).symm) hw.2.2.2 dL_ask_319
    · refine lv_iconst (v := 1) hx hb dL_ask_314 (by decide) ?_
      refine lv_goto (tgt := 319) hx hb dL_ask_315 (by decide) ?_
      refine W.widen (k := 5) (n := 30) (Nat.le_of_ble_eq_true rfl) (Nat.le_of_ble_eq_true rfl) ?_
      exact W.iret (v := 1) hx hb hr (fun t9 ht hW => ke_i hw ht (by rw [he]; exact (if_neg h9).symm) (if_pos he).symm) hw.2.2.2 dL_ask_319
set_option maxHeartbeats 4000000 in
set_option maxRecDepth 100000 in
theorem mA_takeStep (l : Launch) (g : wG) (hfl : l.stackTraces = false) (S : Nat → BT) (B : BT) (y : (Nat → Nat → Int32) × (Nat → Int64) × (Nat → UInt64)) (f : Nat → Int32) (a1 : Int32) (h0 : f 0 = a1) (n m9 : Nat) (hN : CN B n m9) (hev : ¬ S 2 0 1 < 0) : mA l g 116 1 f (xB S 0 B y) (e_X6_takeStep a1 B) ((f_X6_takeStep a1 B).1) (xB (f_X2_keep 7 a1 0 0 0 S) 0 (f_X6_takeStep a1 B).2 y) := by
  intro b
  refine va_MetW (cc := cL_ask) (maxL := 4) (ret := some .int) (by decide) rfl ?_
  intro p9 e s m args below meth c s₁ BL hml hv
  obtain ⟨rfl, hk, hPB, hv9⟩ := hv
  have hx := BL.exec
  have hb := BL.bytes
  have hc : CX p9 c cL_ask s _ m RL := ⟨hx, hb, findClass_of_methodNamed BL.named, fun w h => atoms_spec BL.pre w (List.mem_cons_of_mem _ h)⟩
  have hTB : c.exceptionTable.toList = tableOf tbA := vx_table (x := yL_ask) BL (atoms_spec (ws := wsH yL_ask cL_ask 4 (some .int) tbA) BL.pre (Cond.codeWith yL_ask cL_ask 4 (some .int) tbA) List.mem_cons_self)
  have hr := BL.returns
  have hlocks := BL.notSynchronized
  have hw : WS g s (xB S 0 B y) s.heap [] := ⟨hPB, va_S.rf⟩
  have hl := lv_entry ([.ref (gA g 0), .int (nI 116), .ref b]) (n := 4) (Nat.le_of_ble_eq_true rfl)
  rw [lg_entry_eq]
  generalize (lg_sl ([.ref (gA g 0), .int (nI 116), .ref b]) ++ List.replicate (4 - (lg_sl ([.ref (gA g 0), .int (nI 116), .ref b])).length) Slot.unset).toArray = ls at hl ⊢
  have hl : lv_has ls 4 [(0, .ref (gA g 0)), (1, .int (nI 116)), (2, .ref b)] := hl
  refine lv_iload_n hx hb dL_ask_0 rfl (lv_at hl 1 rfl) ?_
  refine lv_tableIn (off := 319) (tgt := 320) hx hb dL_ask_1 (by decide +kernel) (by decide +kernel) (by decide +kernel) (by decide) ?_
  refine lv_aload_n hx hb dL_ask_320 rfl (lv_at hl 0 rfl) ?_
  refine lv_aload_n hx hb dL_ask_321 rfl (lv_at hl 2 rfl) ?_
  refine lv_iconst (v := 0) hx hb dL_ask_322 (by decide) ?_
  refine k_vld (v := a1) hc hk hv9 (vp_in_nI (n := 0) (by decide) (by decide)) (by decide) h0 dL_ask_323 ?_
  refine kx_i hw (vx_runV (As := [.int a1]) (rest := []) ⟨hx, hb, hml, hc.2.2.1, hc.2.2.2⟩ (m_X6_takeStep l g hfl S B y a1 _ _ hN hev) (kw_V hc 1 q721 q722 q723 q1 q724 rfl rfl (by decide +kernel) ⟨Nat.le_of_ble_eq_true rfl, Nat.le_of_ble_eq_true rfl⟩) (kp_V hk hw at_G rfl) rfl rfl hl.1 rfl (lv_room (Nat.le_of_ble_eq_true rfl)) dL_ask_324 ⟨Nat.le_of_ble_eq_true rfl, Nat.le_of_ble_eq_true rfl⟩) (fun E ce q9 H locs he hw hq hv hE => ?_) (fun H locs he hw => ?_)
  · have hE9 := ex_X6_takeStep E he
    simp only [List.mem_cons, List.not_mem_nil, or_false] at hE9
    rcases hE9 with rfl | rfl
    · refine cat_324_4 hc hk hTB hq hv hE ?_
      refine lv_astore_n (lv' := [(3, .ref q9), (0, .ref (gA g 0)), (1, .int (nI 116)), (2, .ref b)]) hx hb dL_ask_423 rfl hl (by decide) rfl (fun ls hl => ?_)
      refine lv_ldc (v := (-2000000004)) hx hb hc.2.2.1 (hc.2.2.2 _ q904) dL_ask_424 ?_
      refine W.widen (k := 5) (n := 30) (Nat.le_of_ble_eq_true rfl) (Nat.le_of_ble_eq_true rfl) ?_
      exact W.iret (v := (-2000000004)) hx hb hr (fun t9 ht hW => ke_i hw ht (by rw [he]; exact kX_4.symm) (if_neg (by rw [he]; exact Option.some_ne_none _)).symm) hw.2.2.2 dL_ask_426
    · refine cat_324_1 hc hk hTB hq hv hE ?_
      refine lv_astore_n (lv' := [(3, .ref q9), (0, .ref (gA g 0)), (1, .int (nI 116)), (2, .ref b)]) hx hb dL_ask_411 rfl hl (by decide) rfl (fun ls hl => ?_)
      refine lv_ldc (v := (-2000000001)) hx hb hc.2.2.1 (hc.2.2.2 _ q901) dL_ask_412 ?_
      refine W.widen (k := 5) (n := 30) (Nat.le_of_ble_eq_true rfl) (Nat.le_of_ble_eq_true rfl) ?_
      exact W.iret (v := (-2000000001)) hx hb hr (fun t9 ht hW => ke_i hw ht (by rw [he]; exact kX_1.symm) (if_neg (by rw [he]; exact Option.some_ne_none _)).symm) hw.2.2.2 dL_ask_414
  · refine W.widen (k := 5) (n := 30) (Nat.le_of_ble_eq_true rfl) (Nat.le_of_ble_eq_true rfl) ?_
    exact W.iret (v := _) hx hb hr (fun t9 ht hW => ke_i hw ht (by rw [he]; exact rfl) (if_pos he).symm) hw.2.2.2 dL_ask_327
set_option maxHeartbeats 4000000 in
set_option maxRecDepth 100000 in
theorem mA_examine (l : Launch) (g : wG) (hfl : l.stackTraces = false) (S : Nat → BT) (B : BT) (y : (Nat → Nat → Int32) × (Nat → Int64) × (Nat → UInt64)) (f : Nat → Int32) (a1 : Int32) (h0 : f 0 = a1) (n m9 : Nat) (hN : CN B n m9) (hev : ¬ S 2 0 1 < 0) : mA l g 101 1 f (xB S 0 B y) (e_X6_examine a1 B) ((f_X6_examine a1 B).1) (xB (f_X2_keep 8 a1 0 0 0 S) 0 (f_X6_examine a1 B).2 y) := by
  intro b
  refine va_MetW (cc := cL_ask) (maxL := 4) (ret := some .int) (by decide) rfl ?_
  intro p9 e s m args below meth c s₁ BL hml hv
  obtain ⟨rfl, hk, hPB, hv9⟩ := hv
  have hx := BL.exec
  have hb := BL.bytes
  have hc : CX p9 c cL_ask s _ m RL := ⟨hx, hb, findClass_of_methodNamed BL.named, fun w h => atoms_spec BL.pre w (List.mem_cons_of_mem _ h)⟩
  have hTB : c.exceptionTable.toList = tableOf tbA := vx_table (x := yL_ask) BL (atoms_spec (ws := wsH yL_ask cL_ask 4 (some .int) tbA) BL.pre (Cond.codeWith yL_ask cL_ask 4 (some .int) tbA) List.mem_cons_self)
  have hr := BL.returns
  have hlocks := BL.notSynchronized
  have hw : WS g s (xB S 0 B y) s.heap [] := ⟨hPB, va_S.rf⟩
  have hl := lv_entry ([.ref (gA g 0), .int (nI 101), .ref b]) (n := 4) (Nat.le_of_ble_eq_true rfl)
  rw [lg_entry_eq]
  generalize (lg_sl ([.ref (gA g 0), .int (nI 101), .ref b]) ++ List.replicate (4 - (lg_sl ([.ref (gA g 0), .int (nI 101), .ref b])).length) Slot.unset).toArray = ls at hl ⊢
  have hl : lv_has ls 4 [(0, .ref (gA g 0)), (1, .int (nI 101)), (2, .ref b)] := hl
  refine lv_iload_n hx hb dL_ask_0 rfl (lv_at hl 1 rfl) ?_
  refine lv_tableIn (off := 327) (tgt := 328) hx hb dL_ask_1 (by decide +kernel) (by decide +kernel) (by decide +kernel) (by decide) ?_
  refine lv_aload_n hx hb dL_ask_328 rfl (lv_at hl 0 rfl) ?_
  refine lv_aload_n hx hb dL_ask_329 rfl (lv_at hl 2 rfl) ?_
  refine lv_iconst (v := 0) hx hb dL_ask_330 (by decide) ?_
  refine k_vld (v := a1) hc hk hv9 (vp_in_nI (n := 0) (by decide) (by decide)) (by decide) h0 dL_ask_331 ?_
  refine kx_i hw (vx_runV (As := [.int a1]) (rest := []) ⟨hx, hb, hml, hc.2.2.1, hc.2.2.2⟩ (m_X6_examine l g hfl S B y a1 _ _ hN hev) (kw_V hc 1 q726 q727 q728 q1 q729 rfl rfl (by decide +kernel) ⟨Nat.le_of_ble_eq_true rfl, Nat.le_of_ble_eq_true rfl⟩) (kp_V hk hw at_G rfl) rfl rfl hl.1 rfl (lv_room (Nat.le_of_ble_eq_true rfl)) dL_ask_332 ⟨Nat.le_of_ble_eq_true rfl, Nat.le_of_ble_eq_true rfl⟩) (fun E ce q9 H locs he hw hq hv hE => ?_) (fun H locs he hw => ?_)
  · have hE9 := ex_X6_examine E he
    simp only [List.mem_cons, List.not_mem_nil, or_false] at hE9
    rcases hE9 with rfl | rfl
    · refine cat_332_1 hc hk hTB hq hv hE ?_
      refine lv_astore_n (lv' := [(3, .ref q9), (0, .ref (gA g 0)), (1, .int (nI 101)), (2, .ref b)]) hx hb dL_ask_411 rfl hl (by decide) rfl (fun ls hl => ?_)
      refine lv_ldc (v := (-2000000001)) hx hb hc.2.2.1 (hc.2.2.2 _ q901) dL_ask_412 ?_
      refine W.widen (k := 5) (n := 30) (Nat.le_of_ble_eq_true rfl) (Nat.le_of_ble_eq_true rfl) ?_
      exact W.iret (v := (-2000000001)) hx hb hr (fun t9 ht hW => ke_i hw ht (by rw [he]; exact kX_1.symm) (if_neg (by rw [he]; exact Option.some_ne_none _)).symm) hw.2.2.2 dL_ask_414
    · refine cat_332_4 hc hk hTB hq hv hE ?_
      refine lv_astore_n (lv' := [(3, .ref q9), (0, .ref (gA g 0)), (1, .int (nI 101)), (2, .ref b)]) hx hb dL_ask_423 rfl hl (by decide) rfl (fun ls hl => ?_)
      refine lv_ldc (v := (-2000000004)) hx hb hc.2.2.1 (hc.2.2.2 _ q904) dL_ask_424 ?_
      refine W.widen (k := 5) (n := 30) (Nat.le_of_ble_eq_true rfl) (Nat.le_of_ble_eq_true rfl) ?_
      exact W.iret (v := (-2000000004)) hx hb hr (fun t9 ht hW => ke_i hw ht (by rw [he]; exact kX_4.symm) (if_neg (by rw [he]; exact Option.some_ne_none _)).symm) hw.2.2.2 dL_ask_426
  · refine W.widen (k := 5) (n := 30) (Nat.le_of_ble_eq_true rfl) (Nat.le_of_ble_eq_true rfl) ?_
    exact W.iret (v := _) hx hb hr (fun t9 ht hW => ke_i hw ht (by rw [he]; exact rfl) (if_pos he).symm) hw.2.2.2 dL_ask_335
set_option maxHeartbeats 4000000 in
set_option maxRecDepth 100000 in
theorem mA_state (l : Launch) (g : wG) (hfl : l.stackTraces = false) (S : Nat → BT) (B : BT) (y : (Nat → Nat → Int32) × (Nat → Int64) × (Nat → UInt64)) (f : Nat → Int32) (a1 : Int32) (h0 : f 0 = a1) (n m9 : Nat) (hN : CN B n m9) : mA l g 115 1 f (xB S 0 B y) (e_X6_state a1 B) (f_X6_state a1 B) (xB S 0 B y) := by
  intro b
  refine va_MetW (cc := cL_ask) (maxL := 4) (ret := some .int) (by decide) rfl ?_
  intro p9 e s m args below meth c s₁ BL hml hv
  obtain ⟨rfl, hk, hPB, hv9⟩ := hv
  have hx := BL.exec
  have hb := BL.bytes
  have hc : CX p9 c cL_ask s _ m RL := ⟨hx, hb, findClass_of_methodNamed BL.named, fun w h => atoms_spec BL.pre w (List.mem_cons_of_mem _ h)⟩
  have hTB : c.exceptionTable.toList = tableOf tbA := vx_table (x := yL_ask) BL (atoms_spec (ws := wsH yL_ask cL_ask 4 (some .int) tbA) BL.pre (Cond.codeWith yL_ask cL_ask 4 (some .int) tbA) List.mem_cons_self)
  have hr := BL.returns
  have hlocks := BL.notSynchronized
  have hw : WS g s (xB S 0 B y) s.heap [] := ⟨hPB, va_S.rf⟩
  have hl := lv_entry ([.ref (gA g 0), .int (nI 115), .ref b]) (n := 4) (Nat.le_of_ble_eq_true rfl)
  rw [lg_entry_eq]
  generalize (lg_sl ([.ref (gA g 0), .int (nI 115), .ref b]) ++ List.replicate (4 - (lg_sl ([.ref (gA g 0), .int (nI 115), .ref b])).length) Slot.unset).toArray = ls at hl ⊢
  have hl : lv_has ls 4 [(0, .ref (gA g 0)), (1, .int (nI 115)), (2, .ref b)] := hl
  refine lv_iload_n hx hb dL_ask_0 rfl (lv_at hl 1 rfl) ?_
  refine lv_tableIn (off := 335) (tgt := 336) hx hb dL_ask_1 (by decide +kernel) (by decide +kernel) (by decide +kernel) (by decide) ?_
  refine lv_aload_n hx hb dL_ask_336 rfl (lv_at hl 0 rfl) ?_
  refine lv_aload_n hx hb dL_ask_337 rfl (lv_at hl 2 rfl) ?_
  refine lv_iconst (v := 0) hx hb dL_ask_338 (by decide) ?_
  refine k_vld (v := a1) hc hk hv9 (vp_in_nI (n := 0) (by decide) (by decide)) (by decide) h0 dL_ask_339 ?_
  refine kx_i hw (vx_runV (As := [.int a1]) (rest := []) ⟨hx, hb, hml, hc.2.2.1, hc.2.2.2⟩ (m_X6_state l g hfl S B y a1 _ _ hN) (kw_V hc 1 q730 q731 q732 q1 q733 rfl rfl (by decide +kernel) ⟨Nat.le_of_ble_eq_true rfl, Nat.le_of_ble_eq_true rfl⟩) (kp_V hk hw at_G rfl) rfl rfl hl.1 rfl (lv_room (Nat.le_of_ble_eq_true rfl)) dL_ask_340 ⟨Nat.le_of_ble_eq_true rfl, Nat.le_of_ble_eq_true rfl⟩) (fun E ce q9 H locs he hw hq hv hE => ?_) (fun H locs he hw => ?_)
  · have hE9 := ex_X6_state E he
    simp only [List.mem_cons, List.not_mem_nil, or_false] at hE9
    rcases hE9 with rfl
    refine cat_340_1 hc hk hTB hq hv hE ?_
    refine lv_astore_n (lv' := [(3, .ref q9), (0, .ref (gA g 0)), (1, .int (nI 115)), (2, .ref b)]) hx hb dL_ask_411 rfl hl (by decide) rfl (fun ls hl => ?_)
    refine lv_ldc (v := (-2000000001)) hx hb hc.2.2.1 (hc.2.2.2 _ q901) dL_ask_412 ?_
    refine W.widen (k := 5) (n := 30) (Nat.le_of_ble_eq_true rfl) (Nat.le_of_ble_eq_true rfl) ?_
    exact W.iret (v := (-2000000001)) hx hb hr (fun t9 ht hW => ke_i hw ht (by rw [he]; exact kX_1.symm) (if_neg (by rw [he]; exact Option.some_ne_none _)).symm) hw.2.2.2 dL_ask_414
  · refine W.widen (k := 5) (n := 30) (Nat.le_of_ble_eq_true rfl) (Nat.le_of_ble_eq_true rfl) ?_
    exact W.iret (v := _) hx hb hr (fun t9 ht hW => ke_i hw ht (by rw [he]; exact rfl) (if_pos he).symm) hw.2.2.2 dL_ask_343
set_option maxHeartbeats 4000000 in
set_option maxRecDepth 100000 in
theorem mA_countState (l : Launch) (g : wG) (hfl : l.stackTraces = false) (S : Nat → BT) (B : BT) (y : (Nat → Nat → Int32) × (Nat → Int64) × (Nat → UInt64)) (f : Nat → Int32) (a1 : Int32) (h0 : f 0 = a1) (n m9 : Nat) (hN : CN B n m9) : mA l g 78 1 f (xB S 0 B y) (e_X6_countState (((a1 : Int32).toUInt32 % 65536).toInt32) B) (f_X6_countState (((a1 : Int32).toUInt32 % 65536).toInt32) B) (xB S 0 B y) := by
  intro b
  refine va_MetW (cc := cL_ask) (maxL := 4) (ret := some .int) (by decide) rfl ?_
  intro p9 e s m args below meth c s₁ BL hml hv
  obtain ⟨rfl, hk, hPB, hv9⟩ := hv
  have hx := BL.exec
  have hb := BL.bytes
  have hc : CX p9 c cL_ask s _ m RL := ⟨hx, hb, findClass_of_methodNamed BL.named, fun w h => atoms_spec BL.pre w (List.mem_cons_of_mem _ h)⟩
  have hTB : c.exceptionTable.toList = tableOf tbA := vx_table (x := yL_ask) BL (atoms_spec (ws := wsH yL_ask cL_ask 4 (some .int) tbA) BL.pre (Cond.codeWith yL_ask cL_ask 4 (some .int) tbA) List.mem_cons_self)
  have hr := BL.returns
  have hlocks := BL.notSynchronized
  have hw : WS g s (xB S 0 B y) s.heap [] := ⟨hPB, va_S.rf⟩
  have hl := lv_entry ([.ref (gA g 0), .int (nI 78), .ref b]) (n := 4) (Nat.le_of_ble_eq_true rfl)
  rw [lg_entry_eq]
  generalize (lg_sl ([.ref (gA g 0), .int (nI 78), .ref b]) ++ List.replicate (4 - (lg_sl ([.ref (gA g 0), .int (nI 78), .ref b])).length) Slot.unset).toArray = ls at hl ⊢
  have hl : lv_has ls 4 [(0, .ref (gA g 0)), (1, .int (nI 78)), (2, .ref b)] := hl
  refine lv_iload_n hx hb dL_ask_0 rfl (lv_at hl 1 rfl) ?_
  refine lv_tableIn (off := 343) (tgt := 344) hx hb dL_ask_1 (by decide +kernel) (by decide +kernel) (by decide +kernel) (by decide) ?_
  refine lv_aload_n hx hb dL_ask_344 rfl (lv_at hl 0 rfl) ?_
  refine lv_aload_n hx hb dL_ask_345 rfl (lv_at hl 2 rfl) ?_
  refine lv_iconst (v := 0) hx hb dL_ask_346 (by decide) ?_
  refine k_vld (v := a1) hc hk hv9 (vp_in_nI (n := 0) (by decide) (by decide)) (by decide) h0 dL_ask_347 ?_
  refine lv_i2c (v := ((a1 : Int32).toUInt32 % 65536).toInt32) hx hb dL_ask_348 rfl ?_
  refine kx_i hw (vx_runV (As := [.int (((a1 : Int32).toUInt32 % 65536).toInt32)]) (rest := []) ⟨hx, hb, hml, hc.2.2.1, hc.2.2.2⟩ (m_X6_countState l g hfl S B y (((a1 : Int32).toUInt32 % 65536).toInt32) _ _ hN) (kw_V hc 1 q734 q735 q736 q1 q737 rfl rfl (by decide +kernel) ⟨Nat.le_of_ble_eq_true rfl, Nat.le_of_ble_eq_true rfl⟩) (kp_V hk hw at_G rfl) rfl rfl hl.1 rfl (lv_room (Nat.le_of_ble_eq_true rfl)) dL_ask_349 ⟨Nat.le_of_ble_eq_true rfl, Nat.le_of_ble_eq_true rfl⟩) (fun E ce q9 H locs he hw hq hv hE => ?_) (fun H locs he hw => ?_)
  · have hE9 := ex_X6_countState E he
    simp only [List.mem_cons, List.not_mem_nil, or_false] at hE9
    rcases hE9 with rfl
    refine cat_349_2 hc hk hTB hq hv hE ?_
    refine lv_astore_n (lv' := [(3, .ref q9), (0, .ref (gA g 0)), (1, .int (nI 78)), (2, .ref b)]) hx hb dL_ask_415 rfl hl (by decide) rfl (fun ls hl => ?_)
    refine lv_ldc (v := (-2000000002)) hx hb hc.2.2.1 (hc.2.2.2 _ q902) dL_ask_416 ?_
    refine W.widen (k := 5) (n := 30) (Nat.le_of_ble_eq_true rfl) (Nat.le_of_ble_eq_true rfl) ?_
    exact W.iret (v := (-2000000002)) hx hb hr (fun t9 ht hW => ke_i hw ht (by rw [he]; exact kX_2.symm) (if_neg (by rw [he]; exact Option.some_ne_none _)).symm) hw.2.2.2 dL_ask_418
  · refine W.widen (k := 5) (n := 30) (Nat.le_of_ble_eq_true rfl) (Nat.le_of_ble_eq_true rfl) ?_
    exact W.iret (v := _) hx hb hr (fun t9 ht hW => ke_i hw ht (by rw [he]; exact rfl) (if_pos he).symm) hw.2.2.2 dL_ask_352
set_option maxHeartbeats 4000000 in
set_option maxRecDepth 100000 in
theorem mA_countOf (l : Launch) (g : wG) (hfl : l.stackTraces = false) (S : Nat → BT) (B : BT) (y : (Nat → Nat → Int32) × (Nat → Int64) × (Nat → UInt64)) (f : Nat → Int32) (a1 : Int32) (h0 : f 0 = a1) (n m9 : Nat) (hN : CN B n m9) : mA l g 80 1 f (xB S 0 B y) (e_X6_countOf a1 B) (f_X6_countOf a1 B) (xB S 0 B y) := by
  intro b
  refine va_MetW (cc := cL_ask) (maxL := 4) (ret := some .int) (by decide) rfl ?_
  intro p9 e s m args below meth c s₁ BL hml hv
  obtain ⟨rfl, hk, hPB, hv9⟩ := hv
  have hx := BL.exec
  have hb := BL.bytes
  have hc : CX p9 c cL_ask s _ m RL := ⟨hx, hb, findClass_of_methodNamed BL.named, fun w h => atoms_spec BL.pre w (List.mem_cons_of_mem _ h)⟩
  have hTB : c.exceptionTable.toList = tableOf tbA := vx_table (x := yL_ask) BL (atoms_spec (ws := wsH yL_ask cL_ask 4 (some .int) tbA) BL.pre (Cond.codeWith yL_ask cL_ask 4 (some .int) tbA) List.mem_cons_self)
  have hr := BL.returns
  have hlocks := BL.notSynchronized
  have hw : WS g s (xB S 0 B y) s.heap [] := ⟨hPB, va_S.rf⟩
  have hl := lv_entry ([.ref (gA g 0), .int (nI 80), .ref b]) (n := 4) (Nat.le_of_ble_eq_true rfl)
  rw [lg_entry_eq]
  generalize (lg_sl ([.ref (gA g 0), .int (nI 80), .ref b]) ++ List.replicate (4 - (lg_sl ([.ref (gA g 0), .int (nI 80), .ref b])).length) Slot.unset).toArray = ls at hl ⊢
  have hl : lv_has ls 4 [(0, .ref (gA g 0)), (1, .int (nI 80)), (2, .ref b)] := hl
  refine lv_iload_n hx hb dL_ask_0 rfl (lv_at hl 1 rfl) ?_
  refine lv_tableIn (off := 352) (tgt := 353) hx hb dL_ask_1 (by decide +kernel) (by decide +kernel) (by decide +kernel) (by decide) ?_
  refine lv_aload_n hx hb dL_ask_353 rfl (lv_at hl 0 rfl) ?_
  refine lv_aload_n hx hb dL_ask_354 rfl (lv_at hl 2 rfl) ?_
  refine lv_iconst (v := 0) hx hb dL_ask_355 (by decide) ?_
  refine k_vld (v := a1) hc hk hv9 (vp_in_nI (n := 0) (by decide) (by decide)) (by decide) h0 dL_ask_356 ?_
  refine kx_i hw (vx_runV (As := [.int a1]) (rest := []) ⟨hx, hb, hml, hc.2.2.1, hc.2.2.2⟩ (m_X6_countOf l g hfl S B y a1 _ _ hN) (kw_V hc 1 q744 q745 q746 q1 q747 rfl rfl (by decide +kernel) ⟨Nat.le_of_ble_eq_true rfl, Nat.le_of_ble_eq_true rfl⟩) (kp_V hk hw at_G rfl) rfl rfl hl.1 rfl (lv_room (Nat.le_of_ble_eq_true rfl)) dL_ask_357 ⟨Nat.le_of_ble_eq_true rfl, Nat.le_of_ble_eq_true rfl⟩) (fun E ce q9 H locs he hw hq hv hE => ?_) (fun H locs he hw => ?_)
  · have hE9 := ex_X6_countOf E he
    simp only [List.mem_cons, List.not_mem_nil, or_false] at hE9
    rcases hE9 with rfl
    refine cat_357_2 hc hk hTB hq hv hE ?_
    refine lv_astore_n (lv' := [(3, .ref q9), (0, .ref (gA g 0)), (1, .int (nI 80)), (2, .ref b)]) hx hb dL_ask_415 rfl hl (by decide) rfl (fun ls hl => ?_)
    refine lv_ldc (v := (-2000000002)) hx hb hc.2.2.1 (hc.2.2.2 _ q902) dL_ask_416 ?_
    refine W.widen (k := 5) (n := 30) (Nat.le_of_ble_eq_true rfl) (Nat.le_of_ble_eq_true rfl) ?_
    exact W.iret (v := (-2000000002)) hx hb hr (fun t9 ht hW => ke_i hw ht (by rw [he]; exact kX_2.symm) (if_neg (by rw [he]; exact Option.some_ne_none _)).symm) hw.2.2.2 dL_ask_418
  · refine W.widen (k := 5) (n := 30) (Nat.le_of_ble_eq_true rfl) (Nat.le_of_ble_eq_true rfl) ?_
    exact W.iret (v := _) hx hb hr (fun t9 ht hW => ke_i hw ht (by rw [he]; exact rfl) (if_pos he).symm) hw.2.2.2 dL_ask_360
set_option maxHeartbeats 4000000 in
set_option maxRecDepth 100000 in
theorem mA_ask (l : Launch) (g : wG) (hfl : l.stackTraces = false) (S : Nat → BT) (B : BT) (y : (Nat → Nat → Int32) × (Nat → Int64) × (Nat → UInt64)) (f : Nat → Int32) (a1 : Int32) (h0 : f 0 = a1) (n m9 : Nat) (hN : CN B n m9) (hev : ¬ S 2 0 1 < 0) : mA l g 97 1 f (xB S 0 B y) (e_X6_ask a1 B) ((f_X6_ask a1 B).1) (xB (f_X2_keep 9 a1 0 0 0 S) 0 (f_X6_ask a1 B).2 y) := by
  intro b
  refine va_MetW (cc := cL_ask) (maxL := 4) (ret := some .int) (by decide) rfl ?_
  intro p9 e s m args below meth c s₁ BL hml hv
  obtain ⟨rfl, hk, hPB, hv9⟩ := hv
  have hx := BL.exec
  have hb := BL.bytes
  have hc : CX p9 c cL_ask s _ m RL := ⟨hx, hb, findClass_of_methodNamed BL.named, fun w h => atoms_spec BL.pre w (List.mem_cons_of_mem _ h)⟩
  have hTB : c.exceptionTable.toList = tableOf tbA := vx_table (x := yL_ask) BL (atoms_spec (ws := wsH yL_ask cL_ask 4 (some .int) tbA) BL.pre (Cond.codeWith yL_ask cL_ask 4 (some .int) tbA) List.mem_cons_self)
  have hr := BL.returns
  have hlocks := BL.notSynchronized
  have hw : WS g s (xB S 0 B y) s.heap [] := ⟨hPB, va_S.rf⟩
  have hl := lv_entry ([.ref (gA g 0), .int (nI 97), .ref b]) (n := 4) (Nat.le_of_ble_eq_true rfl)
  rw [lg_entry_eq]
  generalize (lg_sl ([.ref (gA g 0), .int (nI 97), .ref b]) ++ List.replicate (4 - (lg_sl ([.ref (gA g 0), .int (nI 97), .ref b])).length) Slot.unset).toArray = ls at hl ⊢
  have hl : lv_has ls 4 [(0, .ref (gA g 0)), (1, .int (nI 97)), (2, .ref b)] := hl
  refine lv_iload_n hx hb dL_ask_0 rfl (lv_at hl 1 rfl) ?_
  refine lv_tableIn (off := 360) (tgt := 361) hx hb dL_ask_1 (by decide +kernel) (by decide +kernel) (by decide +kernel) (by decide) ?_
  refine lv_aload_n hx hb dL_ask_361 rfl (lv_at hl 0 rfl) ?_
  refine lv_aload_n hx hb dL_ask_362 rfl (lv_at hl 2 rfl) ?_
  refine lv_iconst (v := 0) hx hb dL_ask_363 (by decide) ?_
  refine k_vld (v := a1) hc hk hv9 (vp_in_nI (n := 0) (by decide) (by decide)) (by decide) h0 dL_ask_364 ?_
  refine kx_i hw (vx_runV (As := [.int a1]) (rest := []) ⟨hx, hb, hml, hc.2.2.1, hc.2.2.2⟩ (m_X6_ask l g hfl S B y a1 _ _ hN hev) (kw_V hc 1 q752 q753 q754 q1 q755 rfl rfl (by decide +kernel) ⟨Nat.le_of_ble_eq_true rfl, Nat.le_of_ble_eq_true rfl⟩) (kp_V hk hw at_G rfl) rfl rfl hl.1 rfl (lv_room (Nat.le_of_ble_eq_true rfl)) dL_ask_365 ⟨Nat.le_of_ble_eq_true rfl, Nat.le_of_ble_eq_true rfl⟩) (fun E ce q9 H locs he hw hq hv hE => ?_) (fun H locs he hw => ?_)
  · have hE9 := ex_X6_ask E he
    simp only [List.mem_cons, List.not_mem_nil, or_false] at hE9
    rcases hE9 with rfl | rfl
    · refine cat_365_1 hc hk hTB hq hv hE ?_
      refine lv_astore_n (lv' := [(3, .ref q9), (0, .ref (gA g 0)), (1, .int (nI 97)), (2, .ref b)]) hx hb dL_ask_411 rfl hl (by decide) rfl (fun ls hl => ?_)
      refine lv_ldc (v := (-2000000001)) hx hb hc.2.2.1 (hc.2.2.2 _ q901) dL_ask_412 ?_
      refine W.widen (k := 5) (n := 30) (Nat.le_of_ble_eq_true rfl) (Nat.le_of_ble_eq_true rfl) ?_
      exact W.iret (v := (-2000000001)) hx hb hr (fun t9 ht hW => ke_i hw ht (by rw [he]; exact kX_1.symm) (if_neg (by rw [he]; exact Option.some_ne_none _)).symm) hw.2.2.2 dL_ask_414
    · refine cat_365_4 hc hk hTB hq hv hE ?_
      refine lv_astore_n (lv' := [(3, .ref q9), (0, .ref (gA g 0)), (1, .int (nI 97)), (2, .ref b)]) hx hb dL_ask_423 rfl hl (by decide) rfl (fun ls hl => ?_)
      refine lv_ldc (v := (-2000000004)) hx hb hc.2.2.1 (hc.2.2.2 _ q904) dL_ask_424 ?_
      refine W.widen (k := 5) (n := 30) (Nat.le_of_ble_eq_true rfl) (Nat.le_of_ble_eq_true rfl) ?_
      exact W.iret (v := (-2000000004)) hx hb hr (fun t9 ht hW => ke_i hw ht (by rw [he]; exact kX_4.symm) (if_neg (by rw [he]; exact Option.some_ne_none _)).symm) hw.2.2.2 dL_ask_426
  · refine W.widen (k := 5) (n := 30) (Nat.le_of_ble_eq_true rfl) (Nat.le_of_ble_eq_true rfl) ?_
    exact W.iret (v := _) hx hb hr (fun t9 ht hW => ke_i hw ht (by rw [he]; exact rfl) (if_pos he).symm) hw.2.2.2 dL_ask_368
set_option maxHeartbeats 4000000 in
set_option maxRecDepth 100000 in
theorem mA_extend (l : Launch) (g : wG) (hfl : l.stackTraces = false) (S : Nat → BT) (B : BT) (y : (Nat → Nat → Int32) × (Nat → Int64) × (Nat → UInt64)) (f : Nat → Int32) (a1 : Int32) (a2 : Int32) (h0 : f 0 = a1) (h1 : f 1 = a2) (n m9 : Nat) (hN : CN B n m9) (hev : ¬ S 2 0 1 < 0) : mA l g 69 2 f (xB S 0 B y) (e_X6_extend a1 a2 B) ((f_X6_extend a1 a2 B).1) (xB (f_X2_keep 10 a1 a2 0 0 S) 0 (f_X6_extend a1 a2 B).2 y) := by
  intro b
  refine va_MetW (cc := cL_ask) (maxL := 4) (ret := some .int) (by decide) rfl ?_
  intro p9 e s m args below meth c s₁ BL hml hv
  obtain ⟨rfl, hk, hPB, hv9⟩ := hv
  have hx := BL.exec
  have hb := BL.bytes
  have hc : CX p9 c cL_ask s _ m RL := ⟨hx, hb, findClass_of_methodNamed BL.named, fun w h => atoms_spec BL.pre w (List.mem_cons_of_mem _ h)⟩
  have hTB : c.exceptionTable.toList = tableOf tbA := vx_table (x := yL_ask) BL (atoms_spec (ws := wsH yL_ask cL_ask 4 (some .int) tbA) BL.pre (Cond.codeWith yL_ask cL_ask 4 (some .int) tbA) List.mem_cons_self)
  have hr := BL.returns
  have hlocks := BL.notSynchronized
  have hw : WS g s (xB S 0 B y) s.heap [] := ⟨hPB, va_S.rf⟩
  have hl := lv_entry ([.ref (gA g 0), .int (nI 69), .ref b]) (n := 4) (Nat.le_of_ble_eq_true rfl)
  rw [lg_entry_eq]
  generalize (lg_sl ([.ref (gA g 0), .int (nI 69), .ref b]) ++ List.replicate (4 - (lg_sl ([.ref (gA g 0), .int (nI 69), .ref b])).length) Slot.unset).toArray = ls at hl ⊢
  have hl : lv_has ls 4 [(0, .ref (gA g 0)), (1, .int (nI 69)), (2, .ref b)] := hl
  refine lv_iload_n hx hb dL_ask_0 rfl (lv_at hl 1 rfl) ?_
  refine lv_tableIn (off := 368) (tgt := 369) hx hb dL_ask_1 (by decide +kernel) (by decide +kernel) (by decide +kernel) (by decide) ?_
  refine lv_aload_n hx hb dL_ask_369 rfl (lv_at hl 0 rfl) ?_
  refine lv_aload_n hx hb dL_ask_370 rfl (lv_at hl 2 rfl) ?_
  refine lv_iconst (v := 0) hx hb dL_ask_371 (by decide) ?_
  refine k_vld (v := a1) hc hk hv9 (vp_in_nI (n := 0) (by decide) (by decide)) (by decide) h0 dL_ask_372 ?_
  refine lv_aload_n hx hb dL_ask_373 rfl (lv_at hl 2 rfl) ?_
  refine lv_iconst (v := 1) hx hb dL_ask_374 (by decide) ?_
  refine k_vld (v := a2) hc hk hv9 (vp_in_nI (n := 1) (by decide) (by decide)) (by decide) h1 dL_ask_375 ?_
  refine kx_i hw (vx_runV (As := [.int a1, .int a2]) (rest := []) ⟨hx, hb, hml, hc.2.2.1, hc.2.2.2⟩ (m_X6_extend l g hfl S B y a1 a2 _ _ hN hev) (kw_V hc 2 q765 q766 q767 q1 q768 rfl rfl (by decide +kernel) ⟨Nat.le_of_ble_eq_true rfl, Nat.le_of_ble_eq_true rfl⟩) (kp_V hk hw at_G rfl) rfl rfl hl.1 rfl (lv_room (Nat.le_of_ble_eq_true rfl)) dL_ask_376 ⟨Nat.le_of_ble_eq_true rfl, Nat.le_of_ble_eq_true rfl⟩) (fun E ce q9 H locs he hw hq hv hE => ?_) (fun H locs he hw => ?_)
  · have hE9 := ex_X6_extend E he
    simp only [List.mem_cons, List.not_mem_nil, or_false] at hE9
    rcases hE9 with rfl | rfl | rfl
    · refine cat_376_4 hc hk hTB hq hv hE ?_
      refine lv_astore_n (lv' := [(3, .ref q9), (0, .ref (gA g 0)), (1, .int (nI 69)), (2, .ref b)]) hx hb dL_ask_423 rfl hl (by decide) rfl (fun ls hl => ?_)
      refine lv_ldc (v := (-2000000004)) hx hb hc.2.2.1 (hc.2.2.2 _ q904) dL_ask_424 ?_
      refine W.widen (k := 5) (n := 30) (Nat.le_of_ble_eq_true rfl) (Nat.le_of_ble_eq_true rfl) ?_
      exact W.iret (v := (-2000000004)) hx hb hr (fun t9 ht hW => ke_i hw ht (by rw [he]; exact kX_4.symm) (if_neg (by rw [he]; exact Option.some_ne_none _)).symm) hw.2.2.2 dL_ask_426
    · refine cat_376_1 hc hk hTB hq hv hE ?_
      refine lv_astore_n (lv' := [(3, .ref q9), (0, .ref (gA g 0)), (1, .int (nI 69)), (2, .ref b)]) hx hb dL_ask_411 rfl hl (by decide) rfl (fun ls hl => ?_)
      refine lv_ldc (v := (-2000000001)) hx hb hc.2.2.1 (hc.2.2.2 _ q901) dL_ask_412 ?_
      refine W.widen (k := 5) (n := 30) (Nat.le_of_ble_eq_true rfl) (Nat.le_of_ble_eq_true rfl) ?_
      exact W.iret (v := (-2000000001)) hx hb hr (fun t9 ht hW => ke_i hw ht (by rw [he]; exact kX_1.symm) (if_neg (by rw [he]; exact Option.some_ne_none _)).symm) hw.2.2.2 dL_ask_414
    · refine cat_376_2 hc hk hTB hq hv hE ?_
      refine lv_astore_n (lv' := [(3, .ref q9), (0, .ref (gA g 0)), (1, .int (nI 69)), (2, .ref b)]) hx hb dL_ask_415 rfl hl (by decide) rfl (fun ls hl => ?_)
      refine lv_ldc (v := (-2000000002)) hx hb hc.2.2.1 (hc.2.2.2 _ q902) dL_ask_416 ?_
      refine W.widen (k := 5) (n := 30) (Nat.le_of_ble_eq_true rfl) (Nat.le_of_ble_eq_true rfl) ?_
      exact W.iret (v := (-2000000002)) hx hb hr (fun t9 ht hW => ke_i hw ht (by rw [he]; exact kX_2.symm) (if_neg (by rw [he]; exact Option.some_ne_none _)).symm) hw.2.2.2 dL_ask_418
  · refine W.widen (k := 5) (n := 30) (Nat.le_of_ble_eq_true rfl) (Nat.le_of_ble_eq_true rfl) ?_
    exact W.iret (v := _) hx hb hr (fun t9 ht hW => ke_i hw ht (by rw [he]; exact rfl) (if_pos he).symm) hw.2.2.2 dL_ask_379
set_option maxHeartbeats 4000000 in
set_option maxRecDepth 100000 in
theorem mA_remind (l : Launch) (g : wG) (hfl : l.stackTraces = false) (S : Nat → BT) (B : BT) (y : (Nat → Nat → Int32) × (Nat → Int64) × (Nat → UInt64)) (f : Nat → Int32) (a1 : Int32) (h0 : f 0 = a1) (n m9 : Nat) (hN : CN B n m9) (hev : ¬ S 2 0 1 < 0) : mA l g 114 1 f (xB S 0 B y) (e_X6_remind a1 B) ((f_X6_remind a1 B).1) (xB (f_X2_keep 11 a1 0 0 0 S) 0 (f_X6_remind a1 B).2 y) := by
  intro b
  refine va_MetW (cc := cL_ask) (maxL := 4) (ret := some .int) (by decide) rfl ?_
  intro p9 e s m args below meth c s₁ BL hml hv
  obtain ⟨rfl, hk, hPB, hv9⟩ := hv
  have hx := BL.exec
  have hb := BL.bytes
  have hc : CX p9 c cL_ask s _ m RL := ⟨hx, hb, findClass_of_methodNamed BL.named, fun w h => atoms_spec BL.pre w (List.mem_cons_of_mem _ h)⟩
  have hTB : c.exceptionTable.toList = tableOf tbA := vx_table (x := yL_ask) BL (atoms_spec (ws := wsH yL_ask cL_ask 4 (some .int) tbA) BL.pre (Cond.codeWith yL_ask cL_ask 4 (some .int) tbA) List.mem_cons_self)
  have hr := BL.returns
  have hlocks := BL.notSynchronized
  have hw : WS g s (xB S 0 B y) s.heap [] := ⟨hPB, va_S.rf⟩
  have hl := lv_entry ([.ref (gA g 0), .int (nI 114), .ref b]) (n := 4) (Nat.le_of_ble_eq_true rfl)
  rw [lg_entry_eq]
  generalize (lg_sl ([.ref (gA g 0), .int (nI 114), .ref b]) ++ List.replicate (4 - (lg_sl ([.ref (gA g 0), .int (nI 114), .ref b])).length) Slot.unset).toArray = ls at hl ⊢
  have hl : lv_has ls 4 [(0, .ref (gA g 0)), (1, .int (nI 114)), (2, .ref b)] := hl
  refine lv_iload_n hx hb dL_ask_0 rfl (lv_at hl 1 rfl) ?_
  refine lv_tableIn (off := 379) (tgt := 380) hx hb dL_ask_1 (by decide +kernel) (by decide +kernel) (by decide +kernel) (by decide) ?_
  refine lv_aload_n hx hb dL_ask_380 rfl (lv_at hl 0 rfl) ?_
  refine lv_aload_n hx hb dL_ask_381 rfl (lv_at hl 2 rfl) ?_
  refine lv_iconst (v := 0) hx hb dL_ask_382 (by decide) ?_
  refine k_vld (v := a1) hc hk hv9 (vp_in_nI (n := 0) (by decide) (by decide)) (by decide) h0 dL_ask_383 ?_
  refine kx_i hw (vx_runV (As := [.int a1]) (rest := []) ⟨hx, hb, hml, hc.2.2.1, hc.2.2.2⟩ (m_X6_remind l g hfl S B y a1 _ _ hN hev) (kw_V hc 1 q774 q775 q776 q1 q777 rfl rfl (by decide +kernel) ⟨Nat.le_of_ble_eq_true rfl, Nat.le_of_ble_eq_true rfl⟩) (kp_V hk hw at_G rfl) rfl rfl hl.1 rfl (lv_room (Nat.le_of_ble_eq_true rfl)) dL_ask_384 ⟨Nat.le_of_ble_eq_true rfl, Nat.le_of_ble_eq_true rfl⟩) (fun E ce q9 H locs he hw hq hv hE => ?_) (fun H locs he hw => ?_)
  · have hE9 := ex_X6_remind E he
    simp only [List.mem_cons, List.not_mem_nil, or_false] at hE9
    rcases hE9 with rfl | rfl
    · refine cat_384_4 hc hk hTB hq hv hE ?_
      refine lv_astore_n (lv' := [(3, .ref q9), (0, .ref (gA g 0)), (1, .int (nI 114)), (2, .ref b)]) hx hb dL_ask_423 rfl hl (by decide) rfl (fun ls hl => ?_)
      refine lv_ldc (v := (-2000000004)) hx hb hc.2.2.1 (hc.2.2.2 _ q904) dL_ask_424 ?_
      refine W.widen (k := 5) (n := 30) (Nat.le_of_ble_eq_true rfl) (Nat.le_of_ble_eq_true rfl) ?_
      exact W.iret (v := (-2000000004)) hx hb hr (fun t9 ht hW => ke_i hw ht (by rw [he]; exact kX_4.symm) (if_neg (by rw [he]; exact Option.some_ne_none _)).symm) hw.2.2.2 dL_ask_426
    · refine cat_384_1 hc hk hTB hq hv hE ?_
      refine lv_astore_n (lv' := [(3, .ref q9), (0, .ref (gA g 0)), (1, .int (nI 114)), (2, .ref b)]) hx hb dL_ask_411 rfl hl (by decide) rfl (fun ls hl => ?_)
      refine lv_ldc (v := (-2000000001)) hx hb hc.2.2.1 (hc.2.2.2 _ q901) dL_ask_412 ?_
      refine W.widen (k := 5) (n := 30) (Nat.le_of_ble_eq_true rfl) (Nat.le_of_ble_eq_true rfl) ?_
      exact W.iret (v := (-2000000001)) hx hb hr (fun t9 ht hW => ke_i hw ht (by rw [he]; exact kX_1.symm) (if_neg (by rw [he]; exact Option.some_ne_none _)).symm) hw.2.2.2 dL_ask_414
  · refine W.widen (k := 5) (n := 30) (Nat.le_of_ble_eq_true rfl) (Nat.le_of_ble_eq_true rfl) ?_
    exact W.iret (v := _) hx hb hr (fun t9 ht hW => ke_i hw ht (by rw [he]; exact rfl) (if_pos he).symm) hw.2.2.2 dL_ask_387
set_option maxHeartbeats 4000000 in
set_option maxRecDepth 100000 in
theorem mA_answer (l : Launch) (g : wG) (hfl : l.stackTraces = false) (S : Nat → BT) (B : BT) (y : (Nat → Nat → Int32) × (Nat → Int64) × (Nat → UInt64)) (f : Nat → Int32) (a1 : Int32) (h0 : f 0 = a1) (n m9 : Nat) (hN : CN B n m9) (hev : ¬ S 2 0 1 < 0) : mA l g 65 1 f (xB S 0 B y) (e_X6_answer a1 B) ((f_X6_answer a1 B).1) (xB (f_X2_keep 12 a1 0 0 0 S) 0 (f_X6_answer a1 B).2 y) := by
  intro b
  refine va_MetW (cc := cL_ask) (maxL := 4) (ret := some .int) (by decide) rfl ?_
  intro p9 e s m args below meth c s₁ BL hml hv
  obtain ⟨rfl, hk, hPB, hv9⟩ := hv
  have hx := BL.exec
  have hb := BL.bytes
  have hc : CX p9 c cL_ask s _ m RL := ⟨hx, hb, findClass_of_methodNamed BL.named, fun w h => atoms_spec BL.pre w (List.mem_cons_of_mem _ h)⟩
  have hTB : c.exceptionTable.toList = tableOf tbA := vx_table (x := yL_ask) BL (atoms_spec (ws := wsH yL_ask cL_ask 4 (some .int) tbA) BL.pre (Cond.codeWith yL_ask cL_ask 4 (some .int) tbA) List.mem_cons_self)
  have hr := BL.returns
  have hlocks := BL.notSynchronized
  have hw : WS g s (xB S 0 B y) s.heap [] := ⟨hPB, va_S.rf⟩
  have hl := lv_entry ([.ref (gA g 0), .int (nI 65), .ref b]) (n := 4) (Nat.le_of_ble_eq_true rfl)
  rw [lg_entry_eq]
  generalize (lg_sl ([.ref (gA g 0), .int (nI 65), .ref b]) ++ List.replicate (4 - (lg_sl ([.ref (gA g 0), .int (nI 65), .ref b])).length) Slot.unset).toArray = ls at hl ⊢
  have hl : lv_has ls 4 [(0, .ref (gA g 0)), (1, .int (nI 65)), (2, .ref b)] := hl
  refine lv_iload_n hx hb dL_ask_0 rfl (lv_at hl 1 rfl) ?_
  refine lv_tableIn (off := 387) (tgt := 388) hx hb dL_ask_1 (by decide +kernel) (by decide +kernel) (by decide +kernel) (by decide) ?_
  refine lv_aload_n hx hb dL_ask_388 rfl (lv_at hl 0 rfl) ?_
  refine lv_aload_n hx hb dL_ask_389 rfl (lv_at hl 2 rfl) ?_
  refine lv_iconst (v := 0) hx hb dL_ask_390 (by decide) ?_
  refine k_vld (v := a1) hc hk hv9 (vp_in_nI (n := 0) (by decide) (by decide)) (by decide) h0 dL_ask_391 ?_
  refine kx_i hw (vx_runV (As := [.int a1]) (rest := []) ⟨hx, hb, hml, hc.2.2.1, hc.2.2.2⟩ (m_X6_answer l g hfl S B y a1 _ _ hN hev) (kw_V hc 1 q779 q780 q781 q1 q782 rfl rfl (by decide +kernel) ⟨Nat.le_of_ble_eq_true rfl, Nat.le_of_ble_eq_true rfl⟩) (kp_V hk hw at_G rfl) rfl rfl hl.1 rfl (lv_room (Nat.le_of_ble_eq_true rfl)) dL_ask_392 ⟨Nat.le_of_ble_eq_true rfl, Nat.le_of_ble_eq_true rfl⟩) (fun E ce q9 H locs he hw hq hv hE => ?_) (fun H locs he hw => ?_)
  · have hE9 := ex_X6_answer E he
    simp only [List.mem_cons, List.not_mem_nil, or_false] at hE9
    rcases hE9 with rfl | rfl
    · refine cat_392_1 hc hk hTB hq hv hE ?_
      refine lv_astore_n (lv' := [(3, .ref q9), (0, .ref (gA g 0)), (1, .int (nI 65)), (2, .ref b)]) hx hb dL_ask_411 rfl hl (by decide) rfl (fun ls hl => ?_)
      refine lv_ldc (v := (-2000000001)) hx hb hc.2.2.1 (hc.2.2.2 _ q901) dL_ask_412 ?_
      refine W.widen (k := 5) (n := 30) (Nat.le_of_ble_eq_true rfl) (Nat.le_of_ble_eq_true rfl) ?_
      exact W.iret (v := (-2000000001)) hx hb hr (fun t9 ht hW => ke_i hw ht (by rw [he]; exact kX_1.symm) (if_neg (by rw [he]; exact Option.some_ne_none _)).symm) hw.2.2.2 dL_ask_414
    · refine cat_392_4 hc hk hTB hq hv hE ?_
      refine lv_astore_n (lv' := [(3, .ref q9), (0, .ref (gA g 0)), (1, .int (nI 65)), (2, .ref b)]) hx hb dL_ask_423 rfl hl (by decide) rfl (fun ls hl => ?_)
      refine lv_ldc (v := (-2000000004)) hx hb hc.2.2.1 (hc.2.2.2 _ q904) dL_ask_424 ?_
      refine W.widen (k := 5) (n := 30) (Nat.le_of_ble_eq_true rfl) (Nat.le_of_ble_eq_true rfl) ?_
      exact W.iret (v := (-2000000004)) hx hb hr (fun t9 ht hW => ke_i hw ht (by rw [he]; exact kX_4.symm) (if_neg (by rw [he]; exact Option.some_ne_none _)).symm) hw.2.2.2 dL_ask_426
  · refine W.widen (k := 5) (n := 30) (Nat.le_of_ble_eq_true rfl) (Nat.le_of_ble_eq_true rfl) ?_
    exact W.iret (v := _) hx hb hr (fun t9 ht hW => ke_i hw ht (by rw [he]; exact rfl) (if_pos he).symm) hw.2.2.2 dL_ask_395
set_option maxHeartbeats 4000000 in
set_option maxRecDepth 100000 in
theorem mA_takeSilence (l : Launch) (g : wG) (hfl : l.stackTraces = false) (S : Nat → BT) (B : BT) (y : (Nat → Nat → Int32) × (Nat → Int64) × (Nat → UInt64)) (f : Nat → Int32) (a1 : Int32) (h0 : f 0 = a1) (n m9 : Nat) (hN : CN B n m9) (hev : ¬ S 2 0 1 < 0) : mA l g 83 1 f (xB S 0 B y) (e_X6_takeSilence a1 B) ((f_X6_takeSilence a1 B).1) (xB (f_X2_keep 13 a1 0 0 0 S) 0 (f_X6_takeSilence a1 B).2 y) := by
  intro b
  refine va_MetW (cc := cL_ask) (maxL := 4) (ret := some .int) (by decide) rfl ?_
  intro p9 e s m args below meth c s₁ BL hml hv
  obtain ⟨rfl, hk, hPB, hv9⟩ := hv
  have hx := BL.exec
  have hb := BL.bytes
  have hc : CX p9 c cL_ask s _ m RL := ⟨hx, hb, findClass_of_methodNamed BL.named, fun w h => atoms_spec BL.pre w (List.mem_cons_of_mem _ h)⟩
  have hTB : c.exceptionTable.toList = tableOf tbA := vx_table (x := yL_ask) BL (atoms_spec (ws := wsH yL_ask cL_ask 4 (some .int) tbA) BL.pre (Cond.codeWith yL_ask cL_ask 4 (some .int) tbA) List.mem_cons_self)
  have hr := BL.returns
  have hlocks := BL.notSynchronized
  have hw : WS g s (xB S 0 B y) s.heap [] := ⟨hPB, va_S.rf⟩
  have hl := lv_entry ([.ref (gA g 0), .int (nI 83), .ref b]) (n := 4) (Nat.le_of_ble_eq_true rfl)
  rw [lg_entry_eq]
  generalize (lg_sl ([.ref (gA g 0), .int (nI 83), .ref b]) ++ List.replicate (4 - (lg_sl ([.ref (gA g 0), .int (nI 83), .ref b])).length) Slot.unset).toArray = ls at hl ⊢
  have hl : lv_has ls 4 [(0, .ref (gA g 0)), (1, .int (nI 83)), (2, .ref b)] := hl
  refine lv_iload_n hx hb dL_ask_0 rfl (lv_at hl 1 rfl) ?_
  refine lv_tableIn (off := 395) (tgt := 396) hx hb dL_ask_1 (by decide +kernel) (by decide +kernel) (by decide +kernel) (by decide) ?_
  refine lv_aload_n hx hb dL_ask_396 rfl (lv_at hl 0 rfl) ?_
  refine lv_aload_n hx hb dL_ask_397 rfl (lv_at hl 2 rfl) ?_
  refine lv_iconst (v := 0) hx hb dL_ask_398 (by decide) ?_
  refine k_vld (v := a1) hc hk hv9 (vp_in_nI (n := 0) (by decide) (by decide)) (by decide) h0 dL_ask_399 ?_
  refine kx_i hw (vx_runV (As := [.int a1]) (rest := []) ⟨hx, hb, hml, hc.2.2.1, hc.2.2.2⟩ (m_X6_takeSilence l g hfl S B y a1 _ _ hN hev) (kw_V hc 1 q783 q784 q785 q1 q786 rfl rfl (by decide +kernel) ⟨Nat.le_of_ble_eq_true rfl, Nat.le_of_ble_eq_true rfl⟩) (kp_V hk hw at_G rfl) rfl rfl hl.1 rfl (lv_room (Nat.le_of_ble_eq_true rfl)) dL_ask_400 ⟨Nat.le_of_ble_eq_true rfl, Nat.le_of_ble_eq_true rfl⟩) (fun E ce q9 H locs he hw hq hv hE => ?_) (fun H locs he hw => ?_)
  · have hE9 := ex_X6_takeSilence E he
    simp only [List.mem_cons, List.not_mem_nil, or_false] at hE9
    rcases hE9 with rfl | rfl
    · refine cat_400_4 hc hk hTB hq hv hE ?_
      refine lv_astore_n (lv' := [(3, .ref q9), (0, .ref (gA g 0)), (1, .int (nI 83)), (2, .ref b)]) hx hb dL_ask_423 rfl hl (by decide) rfl (fun ls hl => ?_)
      refine lv_ldc (v := (-2000000004)) hx hb hc.2.2.1 (hc.2.2.2 _ q904) dL_ask_424 ?_
      refine W.widen (k := 5) (n := 30) (Nat.le_of_ble_eq_true rfl) (Nat.le_of_ble_eq_true rfl) ?_
      exact W.iret (v := (-2000000004)) hx hb hr (fun t9 ht hW => ke_i hw ht (by rw [he]; exact kX_4.symm) (if_neg (by rw [he]; exact Option.some_ne_none _)).symm) hw.2.2.2 dL_ask_426
    · refine cat_400_1 hc hk hTB hq hv hE ?_
      refine lv_astore_n (lv' := [(3, .ref q9), (0, .ref (gA g 0)), (1, .int (nI 83)), (2, .ref b)]) hx hb dL_ask_411 rfl hl (by decide) rfl (fun ls hl => ?_)
      refine lv_ldc (v := (-2000000001)) hx hb hc.2.2.1 (hc.2.2.2 _ q901) dL_ask_412 ?_
      refine W.widen (k := 5) (n := 30) (Nat.le_of_ble_eq_true rfl) (Nat.le_of_ble_eq_true rfl) ?_
      exact W.iret (v := (-2000000001)) hx hb hr (fun t9 ht hW => ke_i hw ht (by rw [he]; exact kX_1.symm) (if_neg (by rw [he]; exact Option.some_ne_none _)).symm) hw.2.2.2 dL_ask_414
  · refine W.widen (k := 5) (n := 30) (Nat.le_of_ble_eq_true rfl) (Nat.le_of_ble_eq_true rfl) ?_
    exact W.iret (v := _) hx hb hr (fun t9 ht hW => ke_i hw ht (by rw [he]; exact rfl) (if_pos he).symm) hw.2.2.2 dL_ask_403
set_option maxHeartbeats 4000000 in
set_option maxRecDepth 100000 in
theorem mQ_isOverdue (l : Launch) (g : wG) (hfl : l.stackTraces = false) (S : Nat → BT) (B : BT) (y : (Nat → Nat → Int32) × (Nat → Int64) × (Nat → UInt64)) (f : Nat → Int32) (a1 : Int32) (h0 : f 0 = a1) (n m9 : Nat) (hN : CN B n m9) : mQ l g 111 1 f (xB S 0 B y) (e_X6_isOverdue a1 B) (if f_X6_isOverdue a1 B = 0 then (0 : Int32) else 1) (xB S 0 B y) := by
  intro b
  refine vx_ofW (cc := cL_asked) (maxL := 3) (ret := some .int) (by decide) rfl ?_
  intro p9 e s m args below meth c s₁ BL hml hT hv
  obtain ⟨rfl, hk, hPB, hv9⟩ := hv
  have hx := BL.exec
  have hb := BL.bytes
  have hc : CX p9 c cL_asked s _ m RL := ⟨hx, hb, findClass_of_methodNamed BL.named, fun w h => atoms_spec BL.pre w (List.mem_cons_of_mem _ h)⟩
  have hr := BL.returns
  have hlocks := BL.notSynchronized
  have hw : WS g s (xB S 0 B y) s.heap [] := ⟨hPB, va_S.rf⟩
  have hl := lv_entry ([.ref (gA g 0), .int (nI 111), .ref b]) (n := 3) (Nat.le_of_ble_eq_true rfl)
  rw [lg_entry_eq]
  generalize (lg_sl ([.ref (gA g 0), .int (nI 111), .ref b]) ++ List.replicate (3 - (lg_sl ([.ref (gA g 0), .int (nI 111), .ref b])).length) Slot.unset).toArray = ls at hl ⊢
  have hl : lv_has ls 3 [(0, .ref (gA g 0)), (1, .int (nI 111)), (2, .ref b)] := hl
  refine lv_iload_n hx hb dL_asked_0 rfl (lv_at hl 1 rfl) ?_
  refine lv_tableIn (off := 223) (tgt := 224) hx hb dL_asked_1 (by decide +kernel) (by decide +kernel) (by decide +kernel) (by decide) ?_
  refine lv_aload_n hx hb dL_asked_224 rfl (lv_at hl 0 rfl) ?_
  refine lv_aload_n hx hb dL_asked_225 rfl (lv_at hl 2 rfl) ?_
  refine lv_iconst (v := 0) hx hb dL_asked_226 (by decide) ?_
  refine k_vld (v := a1) hc hk hv9 (vp_in_nI (n := 0) (by decide) (by decide)) (by decide) h0 dL_asked_227 ?_
  refine kx_i hw (vx_runV (As := [.int a1]) (rest := []) ⟨hx, hb, hml, hc.2.2.1, hc.2.2.2⟩ (m_X6_isOverdue l g hfl S B y a1 _ _ hN) (kw_V hc 1 q791 q792 q793 q1 q794 rfl rfl (by decide +kernel) ⟨Nat.le_of_ble_eq_true rfl, Nat.le_of_ble_eq_true rfl⟩) (kp_V hk hw at_G rfl) rfl rfl hl.1 rfl (lv_room (Nat.le_of_ble_eq_true rfl)) dL_asked_228 ⟨Nat.le_of_ble_eq_true rfl, Nat.le_of_ble_eq_true rfl⟩) (fun E ce q9 H locs he hw hq hv hE => ?_) (fun H locs he hw => ?_)
  · exact k_out hT hlocks hw hq hv hE he (Nat.le_of_ble_eq_true rfl) (Nat.le_of_ble_eq_true rfl)
  · refine lv_if_eq (tgt := 238) hx hb dL_asked_231 (by decide) (fun h9 => ?_) (fun h9 => ?_)
    · refine lv_iconst (v := 0) hx hb dL_asked_238 (by decide) ?_
      refine vx_ret ?_
      refine W.widen (k := 5) (n := 30) (Nat.le_of_ble_eq_true rfl) (Nat.le_of_ble_eq_true rfl) ?_
      exact W.iret (v := 0) hx hb hr (fun t9 ht hW => kz_i hw ht he (if_pos h9).symm rfl) hw.2.2.2 dL_asked_239
    · refine lv_iconst (v := 1) hx hb dL_asked_234 (by decide) ?_
      refine lv_goto (tgt := 239) hx hb dL_asked_235 (by decide) ?_
      refine vx_ret ?_
      refine W.widen (k := 5) (n := 30) (Nat.le_of_ble_eq_true rfl) (Nat.le_of_ble_eq_true rfl) ?_
      exact W.iret (v := 1) hx hb hr (fun t9 ht hW => kz_i hw ht he (if_neg h9).symm rfl) hw.2.2.2 dL_asked_239
set_option maxHeartbeats 4000000 in
set_option maxRecDepth 100000 in
theorem mA_isOverdue (l : Launch) (g : wG) (hfl : l.stackTraces = false) (S : Nat → BT) (B : BT) (y : (Nat → Nat → Int32) × (Nat → Int64) × (Nat → UInt64)) (f : Nat → Int32) (a1 : Int32) (h0 : f 0 = a1) (n m9 : Nat) (hN : CN B n m9) : mA l g 111 1 f (xB S 0 B y) (e_X6_isOverdue a1 B) (if f_X6_isOverdue a1 B = 0 then (0 : Int32) else 1) (xB S 0 B y) := by
  intro b
  refine va_MetW (cc := cL_ask) (maxL := 4) (ret := some .int) (by decide) rfl ?_
  intro p9 e s m args below meth c s₁ BL hml hv
  obtain ⟨rfl, hk, hPB, hv9⟩ := hv
  have hx := BL.exec
  have hb := BL.bytes
  have hc : CX p9 c cL_ask s _ m RL := ⟨hx, hb, findClass_of_methodNamed BL.named, fun w h => atoms_spec BL.pre w (List.mem_cons_of_mem _ h)⟩
  have hTB : c.exceptionTable.toList = tableOf tbA := vx_table (x := yL_ask) BL (atoms_spec (ws := wsH yL_ask cL_ask 4 (some .int) tbA) BL.pre (Cond.codeWith yL_ask cL_ask 4 (some .int) tbA) List.mem_cons_self)
  have hr := BL.returns
  have hlocks := BL.notSynchronized
  have hw : WS g s (xB S 0 B y) s.heap [] := ⟨hPB, va_S.rf⟩
  have hl := lv_entry ([.ref (gA g 0), .int (nI 111), .ref b]) (n := 4) (Nat.le_of_ble_eq_true rfl)
  rw [lg_entry_eq]
  generalize (lg_sl ([.ref (gA g 0), .int (nI 111), .ref b]) ++ List.replicate (4 - (lg_sl ([.ref (gA g 0), .int (nI 111), .ref b])).length) Slot.unset).toArray = ls at hl ⊢
  have hl : lv_has ls 4 [(0, .ref (gA g 0)), (1, .int (nI 111)), (2, .ref b)] := hl
  refine lv_iload_n hx hb dL_ask_0 rfl (lv_at hl 1 rfl) ?_
  refine lv_tableIn (off := 403) (tgt := 404) hx hb dL_ask_1 (by decide +kernel) (by decide +kernel) (by decide +kernel) (by decide) ?_
  refine lv_aload_n hx hb dL_ask_404 rfl (lv_at hl 0 rfl) ?_
  refine lv_iload_n hx hb dL_ask_405 rfl (lv_at hl 1 rfl) ?_
  refine lv_aload_n hx hb dL_ask_406 rfl (lv_at hl 2 rfl) ?_
  refine kx_i hw (vx_runS (As := [.ref (gA g 0), .int (nI 111), .ref b]) (rest := []) ⟨hx, hb, hml, hc.2.2.1, hc.2.2.2⟩ (mQ_isOverdue l g hfl S B y f a1 h0 _ _ hN b) (kw_S hc 3 q788 q789 q0 q790 rfl rfl (by decide +kernel) ⟨Nat.le_of_ble_eq_true rfl, Nat.le_of_ble_eq_true rfl⟩) (kp_v0 hk hw hv9) rfl rfl hl.1 rfl (lv_room (Nat.le_of_ble_eq_true rfl)) dL_ask_407 ⟨Nat.le_of_ble_eq_true rfl, Nat.le_of_ble_eq_true rfl⟩) (fun E ce q9 H locs he hw hq hv hE => ?_) (fun H locs he hw => ?_)
  · have hE9 := ex_X6_isOverdue E he
    simp only [List.mem_cons, List.not_mem_nil, or_false] at hE9
    rcases hE9 with rfl
    refine cat_407_1 hc hk hTB hq hv hE ?_
    refine lv_astore_n (lv' := [(3, .ref q9), (0, .ref (gA g 0)), (1, .int (nI 111)), (2, .ref b)]) hx hb dL_ask_411 rfl hl (by decide) rfl (fun ls hl => ?_)
    refine lv_ldc (v := (-2000000001)) hx hb hc.2.2.1 (hc.2.2.2 _ q901) dL_ask_412 ?_
    refine W.widen (k := 5) (n := 30) (Nat.le_of_ble_eq_true rfl) (Nat.le_of_ble_eq_true rfl) ?_
    exact W.iret (v := (-2000000001)) hx hb hr (fun t9 ht hW => ke_i hw ht (by rw [he]; exact kX_1.symm) (if_neg (by rw [he]; exact Option.some_ne_none _)).symm) hw.2.2.2 dL_ask_414
  · exact W.iret (v := _) hx hb hr (fun t9 ht hW => ke_i hw ht (by rw [he]; rfl) (if_pos he).symm) hw.2.2.2 dL_ask_410
set_option maxHeartbeats 4000000 in
set_option maxRecDepth 100000 in
theorem mQ_nextDue (l : Launch) (g : wG) (hfl : l.stackTraces = false) (S : Nat → BT) (B : BT) (y : (Nat → Nat → Int32) × (Nat → Int64) × (Nat → UInt64)) (f : Nat → Int32) (n m9 : Nat) (hN : CN B n m9) : mQ l g 110 0 f (xB S 0 B y) (e_X6_nextDue B) (f_X6_nextDue B) (xB S 0 B y) := by
  intro b
  refine vx_ofW (cc := cL_asked) (maxL := 3) (ret := some .int) (by decide) rfl ?_
  intro p9 e s m args below meth c s₁ BL hml hT hv
  obtain ⟨rfl, hk, hPB, hv9⟩ := hv
  have hx := BL.exec
  have hb := BL.bytes
  have hc : CX p9 c cL_asked s _ m RL := ⟨hx, hb, findClass_of_methodNamed BL.named, fun w h => atoms_spec BL.pre w (List.mem_cons_of_mem _ h)⟩
  have hr := BL.returns
  have hlocks := BL.notSynchronized
  have hw : WS g s (xB S 0 B y) s.heap [] := ⟨hPB, va_S.rf⟩
  have hl := lv_entry ([.ref (gA g 0), .int (nI 110), .ref b]) (n := 3) (Nat.le_of_ble_eq_true rfl)
  rw [lg_entry_eq]
  generalize (lg_sl ([.ref (gA g 0), .int (nI 110), .ref b]) ++ List.replicate (3 - (lg_sl ([.ref (gA g 0), .int (nI 110), .ref b])).length) Slot.unset).toArray = ls at hl ⊢
  have hl : lv_has ls 3 [(0, .ref (gA g 0)), (1, .int (nI 110)), (2, .ref b)] := hl
  refine lv_iload_n hx hb dL_asked_0 rfl (lv_at hl 1 rfl) ?_
  refine lv_tableIn (off := 239) (tgt := 240) hx hb dL_asked_1 (by decide +kernel) (by decide +kernel) (by decide +kernel) (by decide) ?_
  refine lv_aload_n hx hb dL_asked_240 rfl (lv_at hl 0 rfl) ?_
  refine kx_i hw (vx_runV (As := []) (rest := []) ⟨hx, hb, hml, hc.2.2.1, hc.2.2.2⟩ (m_X6_nextDue l g hfl S B y _ _ hN) (kw_V hc 0 q796 q797 q798 q1 q799 rfl rfl (by decide +kernel) ⟨Nat.le_of_ble_eq_true rfl, Nat.le_of_ble_eq_true rfl⟩) (kp_V hk hw at_G rfl) rfl rfl hl.1 rfl (lv_room (Nat.le_of_ble_eq_true rfl)) dL_asked_241 ⟨Nat.le_of_ble_eq_true rfl, Nat.le_of_ble_eq_true rfl⟩) (fun E ce q9 H locs he hw hq hv hE => ?_) (fun H locs he hw => ?_)
  · exact k_out hT hlocks hw hq hv hE he (Nat.le_of_ble_eq_true rfl) (Nat.le_of_ble_eq_true rfl)
  · refine vx_ret ?_
    refine W.widen (k := 5) (n := 30) (Nat.le_of_ble_eq_true rfl) (Nat.le_of_ble_eq_true rfl) ?_
    exact W.iret (v := _) hx hb hr (fun t9 ht hW => kz_i hw ht he rfl rfl) hw.2.2.2 dL_asked_244
set_option maxHeartbeats 4000000 in
set_option maxRecDepth 100000 in
theorem mA_nextDue (l : Launch) (g : wG) (hfl : l.stackTraces = false) (S : Nat → BT) (B : BT) (y : (Nat → Nat → Int32) × (Nat → Int64) × (Nat → UInt64)) (f : Nat → Int32) (n m9 : Nat) (hN : CN B n m9) : mA l g 110 0 f (xB S 0 B y) (e_X6_nextDue B) (f_X6_nextDue B) (xB S 0 B y) := by
  intro b
  refine va_MetW (cc := cL_ask) (maxL := 4) (ret := some .int) (by decide) rfl ?_
  intro p9 e s m args below meth c s₁ BL hml hv
  obtain ⟨rfl, hk, hPB, hv9⟩ := hv
  have hx := BL.exec
  have hb := BL.bytes
  have hc : CX p9 c cL_ask s _ m RL := ⟨hx, hb, findClass_of_methodNamed BL.named, fun w h => atoms_spec BL.pre w (List.mem_cons_of_mem _ h)⟩
  have hTB : c.exceptionTable.toList = tableOf tbA := vx_table (x := yL_ask) BL (atoms_spec (ws := wsH yL_ask cL_ask 4 (some .int) tbA) BL.pre (Cond.codeWith yL_ask cL_ask 4 (some .int) tbA) List.mem_cons_self)
  have hr := BL.returns
  have hlocks := BL.notSynchronized
  have hw : WS g s (xB S 0 B y) s.heap [] := ⟨hPB, va_S.rf⟩
  have hl := lv_entry ([.ref (gA g 0), .int (nI 110), .ref b]) (n := 4) (Nat.le_of_ble_eq_true rfl)
  rw [lg_entry_eq]
  generalize (lg_sl ([.ref (gA g 0), .int (nI 110), .ref b]) ++ List.replicate (4 - (lg_sl ([.ref (gA g 0), .int (nI 110), .ref b])).length) Slot.unset).toArray = ls at hl ⊢
  have hl : lv_has ls 4 [(0, .ref (gA g 0)), (1, .int (nI 110)), (2, .ref b)] := hl
  refine lv_iload_n hx hb dL_ask_0 rfl (lv_at hl 1 rfl) ?_
  refine lv_tableIn (off := 403) (tgt := 404) hx hb dL_ask_1 (by decide +kernel) (by decide +kernel) (by decide +kernel) (by decide) ?_
  refine lv_aload_n hx hb dL_ask_404 rfl (lv_at hl 0 rfl) ?_
  refine lv_iload_n hx hb dL_ask_405 rfl (lv_at hl 1 rfl) ?_
  refine lv_aload_n hx hb dL_ask_406 rfl (lv_at hl 2 rfl) ?_
  refine kx_i hw (vx_runS (As := [.ref (gA g 0), .int (nI 110), .ref b]) (rest := []) ⟨hx, hb, hml, hc.2.2.1, hc.2.2.2⟩ (mQ_nextDue l g hfl S B y f _ _ hN b) (kw_S hc 3 q788 q789 q0 q790 rfl rfl (by decide +kernel) ⟨Nat.le_of_ble_eq_true rfl, Nat.le_of_ble_eq_true rfl⟩) (kp_v0 hk hw hv9) rfl rfl hl.1 rfl (lv_room (Nat.le_of_ble_eq_true rfl)) dL_ask_407 ⟨Nat.le_of_ble_eq_true rfl, Nat.le_of_ble_eq_true rfl⟩) (fun E ce q9 H locs he hw hq hv hE => ?_) (fun H locs he hw => ?_)
  · have hE9 := ex_X6_nextDue E he
    simp only [List.mem_cons, List.not_mem_nil, or_false] at hE9
    rcases hE9 with rfl
    refine cat_407_5 hc hk hTB hq hv hE ?_
    refine lv_astore_n (lv' := [(3, .ref q9), (0, .ref (gA g 0)), (1, .int (nI 110)), (2, .ref b)]) hx hb dL_ask_427 rfl hl (by decide) rfl (fun ls hl => ?_)
    refine lv_ldc (v := (-2000000005)) hx hb hc.2.2.1 (hc.2.2.2 _ q905) dL_ask_428 ?_
    refine W.widen (k := 5) (n := 30) (Nat.le_of_ble_eq_true rfl) (Nat.le_of_ble_eq_true rfl) ?_
    exact W.iret (v := (-2000000005)) hx hb hr (fun t9 ht hW => ke_i hw ht (by rw [he]; exact kX_5.symm) (if_neg (by rw [he]; exact Option.some_ne_none _)).symm) hw.2.2.2 dL_ask_430
  · exact W.iret (v := _) hx hb hr (fun t9 ht hW => ke_i hw ht (by rw [he]; rfl) (if_pos he).symm) hw.2.2.2 dL_ask_410
set_option maxHeartbeats 4000000 in
set_option maxRecDepth 100000 in
theorem mQ_join (l : Launch) (g : wG) (hfl : l.stackTraces = false) (S : Nat → BT) (B : BT) (y : (Nat → Nat → Int32) × (Nat → Int64) × (Nat → UInt64)) (f : Nat → Int32) (a1 : Int32) (a2 : Int32) (h0 : f 0 = a1) (h1 : f 1 = a2) (n m9 : Nat) (hN : CN B n m9) (hev : ¬ S 2 0 1 < 0) : mQ l g 106 2 f (xB S 0 B y) (e_X6_join a1 a2 B) ((f_X6_join a1 a2 B).1) (xB (f_X2_keep 14 a1 a2 0 0 S) 0 (f_X6_join a1 a2 B).2 y) := by
  intro b
  refine vx_ofW (cc := cL_asked) (maxL := 3) (ret := some .int) (by decide) rfl ?_
  intro p9 e s m args below meth c s₁ BL hml hT hv
  obtain ⟨rfl, hk, hPB, hv9⟩ := hv
  have hx := BL.exec
  have hb := BL.bytes
  have hc : CX p9 c cL_asked s _ m RL := ⟨hx, hb, findClass_of_methodNamed BL.named, fun w h => atoms_spec BL.pre w (List.mem_cons_of_mem _ h)⟩
  have hr := BL.returns
  have hlocks := BL.notSynchronized
  have hw : WS g s (xB S 0 B y) s.heap [] := ⟨hPB, va_S.rf⟩
  have hl := lv_entry ([.ref (gA g 0), .int (nI 106), .ref b]) (n := 3) (Nat.le_of_ble_eq_true rfl)
  rw [lg_entry_eq]
  generalize (lg_sl ([.ref (gA g 0), .int (nI 106), .ref b]) ++ List.replicate (3 - (lg_sl ([.ref (gA g 0), .int (nI 106), .ref b])).length) Slot.unset).toArray = ls at hl ⊢
  have hl : lv_has ls 3 [(0, .ref (gA g 0)), (1, .int (nI 106)), (2, .ref b)] := hl
  refine lv_iload_n hx hb dL_asked_0 rfl (lv_at hl 1 rfl) ?_
  refine lv_tableIn (off := 244) (tgt := 245) hx hb dL_asked_1 (by decide +kernel) (by decide +kernel) (by decide +kernel) (by decide) ?_
  refine lv_aload_n hx hb dL_asked_245 rfl (lv_at hl 0 rfl) ?_
  refine lv_aload_n hx hb dL_asked_246 rfl (lv_at hl 2 rfl) ?_
  refine lv_iconst (v := 0) hx hb dL_asked_247 (by decide) ?_
  refine k_vld (v := a1) hc hk hv9 (vp_in_nI (n := 0) (by decide) (by decide)) (by decide) h0 dL_asked_248 ?_
  refine lv_aload_n hx hb dL_asked_249 rfl (lv_at hl 2 rfl) ?_
  refine lv_iconst (v := 1) hx hb dL_asked_250 (by decide) ?_
  refine k_vld (v := a2) hc hk hv9 (vp_in_nI (n := 1) (by decide) (by decide)) (by decide) h1 dL_asked_251 ?_
  refine kx_i hw (vx_runV (As := [.int a1, .int a2]) (rest := []) ⟨hx, hb, hml, hc.2.2.1, hc.2.2.2⟩ (m_X6_join l g hfl S B y a1 a2 _ _ hN hev) (kw_V hc 2 q824 q825 q826 q1 q827 rfl rfl (by decide +kernel) ⟨Nat.le_of_ble_eq_true rfl, Nat.le_of_ble_eq_true rfl⟩) (kp_V hk hw at_G rfl) rfl rfl hl.1 rfl (lv_room (Nat.le_of_ble_eq_true rfl)) dL_asked_252 ⟨Nat.le_of_ble_eq_true rfl, Nat.le_of_ble_eq_true rfl⟩) (fun E ce q9 H locs he hw hq hv hE => ?_) (fun H locs he hw => ?_)
  · exact k_out hT hlocks hw hq hv hE he (Nat.le_of_ble_eq_true rfl) (Nat.le_of_ble_eq_true rfl)
  · refine vx_ret ?_
    refine W.widen (k := 5) (n := 30) (Nat.le_of_ble_eq_true rfl) (Nat.le_of_ble_eq_true rfl) ?_
    exact W.iret (v := _) hx hb hr (fun t9 ht hW => kz_i hw ht he rfl rfl) hw.2.2.2 dL_asked_255
set_option maxHeartbeats 4000000 in
set_option maxRecDepth 100000 in
theorem mA_join (l : Launch) (g : wG) (hfl : l.stackTraces = false) (S : Nat → BT) (B : BT) (y : (Nat → Nat → Int32) × (Nat → Int64) × (Nat → UInt64)) (f : Nat → Int32) (a1 : Int32) (a2 : Int32) (h0 : f 0 = a1) (h1 : f 1 = a2) (n m9 : Nat) (hN : CN B n m9) (hev : ¬ S 2 0 1 < 0) : mA l g 106 2 f (xB S 0 B y) (e_X6_join a1 a2 B) ((f_X6_join a1 a2 B).1) (xB (f_X2_keep 14 a1 a2 0 0 S) 0 (f_X6_join a1 a2 B).2 y) := by
  intro b
  refine va_MetW (cc := cL_ask) (maxL := 4) (ret := some .int) (by decide) rfl ?_
  intro p9 e s m args below meth c s₁ BL hml hv
  obtain ⟨rfl, hk, hPB, hv9⟩ := hv
  have hx := BL.exec
  have hb := BL.bytes
  have hc : CX p9 c cL_ask s _ m RL := ⟨hx, hb, findClass_of_methodNamed BL.named, fun w h => atoms_spec BL.pre w (List.mem_cons_of_mem _ h)⟩
  have hTB : c.exceptionTable.toList = tableOf tbA := vx_table (x := yL_ask) BL (atoms_spec (ws := wsH yL_ask cL_ask 4 (some .int) tbA) BL.pre (Cond.codeWith yL_ask cL_ask 4 (some .int) tbA) List.mem_cons_self)
  have hr := BL.returns
  have hlocks := BL.notSynchronized
  have hw : WS g s (xB S 0 B y) s.heap [] := ⟨hPB, va_S.rf⟩
  have hl := lv_entry ([.ref (gA g 0), .int (nI 106), .ref b]) (n := 4) (Nat.le_of_ble_eq_true rfl)
  rw [lg_entry_eq]
  generalize (lg_sl ([.ref (gA g 0), .int (nI 106), .ref b]) ++ List.replicate (4 - (lg_sl ([.ref (gA g 0), .int (nI 106), .ref b])).length) Slot.unset).toArray = ls at hl ⊢
  have hl : lv_has ls 4 [(0, .ref (gA g 0)), (1, .int (nI 106)), (2, .ref b)] := hl
  refine lv_iload_n hx hb dL_ask_0 rfl (lv_at hl 1 rfl) ?_
  refine lv_tableIn (off := 403) (tgt := 404) hx hb dL_ask_1 (by decide +kernel) (by decide +kernel) (by decide +kernel) (by decide) ?_
  refine lv_aload_n hx hb dL_ask_404 rfl (lv_at hl 0 rfl) ?_
  refine lv_iload_n hx hb dL_ask_405 rfl (lv_at hl 1 rfl) ?_
  refine lv_aload_n hx hb dL_ask_406 rfl (lv_at hl 2 rfl) ?_
  refine kx_i hw (vx_runS (As := [.ref (gA g 0), .int (nI 106), .ref b]) (rest := []) ⟨hx, hb, hml, hc.2.2.1, hc.2.2.2⟩ (mQ_join l g hfl S B y f a1 a2 h0 h1 _ _ hN hev b) (kw_S hc 3 q788 q789 q0 q790 rfl rfl (by decide +kernel) ⟨Nat.le_of_ble_eq_true rfl, Nat.le_of_ble_eq_true rfl⟩) (kp_v0 hk hw hv9) rfl rfl hl.1 rfl (lv_room (Nat.le_of_ble_eq_true rfl)) dL_ask_407 ⟨Nat.le_of_ble_eq_true rfl, Nat.le_of_ble_eq_true rfl⟩) (fun E ce q9 H locs he hw hq hv hE => ?_) (fun H locs he hw => ?_)
  · have hE9 := ex_X6_join E he
    simp only [List.mem_cons, List.not_mem_nil, or_false] at hE9
    rcases hE9 with rfl | rfl | rfl
    · refine cat_407_2 hc hk hTB hq hv hE ?_
      refine lv_astore_n (lv' := [(3, .ref q9), (0, .ref (gA g 0)), (1, .int (nI 106)), (2, .ref b)]) hx hb dL_ask_415 rfl hl (by decide) rfl (fun ls hl => ?_)
      refine lv_ldc (v := (-2000000002)) hx hb hc.2.2.1 (hc.2.2.2 _ q902) dL_ask_416 ?_
      refine W.widen (k := 5) (n := 30) (Nat.le_of_ble_eq_true rfl) (Nat.le_of_ble_eq_true rfl) ?_
      exact W.iret (v := (-2000000002)) hx hb hr (fun t9 ht hW => ke_i hw ht (by rw [he]; exact kX_2.symm) (if_neg (by rw [he]; exact Option.some_ne_none _)).symm) hw.2.2.2 dL_ask_418
    · refine cat_407_4 hc hk hTB hq hv hE ?_
      refine lv_astore_n (lv' := [(3, .ref q9), (0, .ref (gA g 0)), (1, .int (nI 106)), (2, .ref b)]) hx hb dL_ask_423 rfl hl (by decide) rfl (fun ls hl => ?_)
      refine lv_ldc (v := (-2000000004)) hx hb hc.2.2.1 (hc.2.2.2 _ q904) dL_ask_424 ?_
      refine W.widen (k := 5) (n := 30) (Nat.le_of_ble_eq_true rfl) (Nat.le_of_ble_eq_true rfl) ?_
      exact W.iret (v := (-2000000004)) hx hb hr (fun t9 ht hW => ke_i hw ht (by rw [he]; exact kX_4.symm) (if_neg (by rw [he]; exact Option.some_ne_none _)).symm) hw.2.2.2 dL_ask_426
    · refine cat_407_1 hc hk hTB hq hv hE ?_
      refine lv_astore_n (lv' := [(3, .ref q9), (0, .ref (gA g 0)), (1, .int (nI 106)), (2, .ref b)]) hx hb dL_ask_411 rfl hl (by decide) rfl (fun ls hl => ?_)
      refine lv_ldc (v := (-2000000001)) hx hb hc.2.2.1 (hc.2.2.2 _ q901) dL_ask_412 ?_
      refine W.widen (k := 5) (n := 30) (Nat.le_of_ble_eq_true rfl) (Nat.le_of_ble_eq_true rfl) ?_
      exact W.iret (v := (-2000000001)) hx hb hr (fun t9 ht hW => ke_i hw ht (by rw [he]; exact kX_1.symm) (if_neg (by rw [he]; exact Option.some_ne_none _)).symm) hw.2.2.2 dL_ask_414
  · exact W.iret (v := _) hx hb hr (fun t9 ht hW => ke_i hw ht (by rw [he]; rfl) (if_pos he).symm) hw.2.2.2 dL_ask_410
set_option maxHeartbeats 4000000 in
set_option maxRecDepth 100000 in
theorem mQ_part (l : Launch) (g : wG) (hfl : l.stackTraces = false) (S : Nat → BT) (B : BT) (y : (Nat → Nat → Int32) × (Nat → Int64) × (Nat → UInt64)) (f : Nat → Int32) (a1 : Int32) (h0 : f 0 = a1) (n m9 : Nat) (hN : CN B n m9) (hev : ¬ S 2 0 1 < 0) : mQ l g 113 1 f (xB S 0 B y) (e_X6_part a1 B) ((f_X6_part a1 B).1) (xB (f_X2_keep 15 a1 0 0 0 S) 0 (f_X6_part a1 B).2 y) := by
  intro b
  refine vx_ofW (cc := cL_asked) (maxL := 3) (ret := some .int) (by decide) rfl ?_
  intro p9 e s m args below meth c s₁ BL hml hT hv
  obtain ⟨rfl, hk, hPB, hv9⟩ := hv
  have hx := BL.exec
  have hb := BL.bytes
  have hc : CX p9 c cL_asked s _ m RL := ⟨hx, hb, findClass_of_methodNamed BL.named, fun w h => atoms_spec BL.pre w (List.mem_cons_of_mem _ h)⟩
  have hr := BL.returns
  have hlocks := BL.notSynchronized
  have hw : WS g s (xB S 0 B y) s.heap [] := ⟨hPB, va_S.rf⟩
  have hl := lv_entry ([.ref (gA g 0), .int (nI 113), .ref b]) (n := 3) (Nat.le_of_ble_eq_true rfl)
  rw [lg_entry_eq]
  generalize (lg_sl ([.ref (gA g 0), .int (nI 113), .ref b]) ++ List.replicate (3 - (lg_sl ([.ref (gA g 0), .int (nI 113), .ref b])).length) Slot.unset).toArray = ls at hl ⊢
  have hl : lv_has ls 3 [(0, .ref (gA g 0)), (1, .int (nI 113)), (2, .ref b)] := hl
  refine lv_iload_n hx hb dL_asked_0 rfl (lv_at hl 1 rfl) ?_
  refine lv_tableIn (off := 255) (tgt := 256) hx hb dL_asked_1 (by decide +kernel) (by decide +kernel) (by decide +kernel) (by decide) ?_
  refine lv_aload_n hx hb dL_asked_256 rfl (lv_at hl 0 rfl) ?_
  refine lv_aload_n hx hb dL_asked_257 rfl (lv_at hl 2 rfl) ?_
  refine lv_iconst (v := 0) hx hb dL_asked_258 (by decide) ?_
  refine k_vld (v := a1) hc hk hv9 (vp_in_nI (n := 0) (by decide) (by decide)) (by decide) h0 dL_asked_259 ?_
  refine kx_i hw (vx_runV (As := [.int a1]) (rest := []) ⟨hx, hb, hml, hc.2.2.1, hc.2.2.2⟩ (m_X6_part l g hfl S B y a1 _ _ hN hev) (kw_V hc 1 q835 q836 q837 q1 q838 rfl rfl (by decide +kernel) ⟨Nat.le_of_ble_eq_true rfl, Nat.le_of_ble_eq_true rfl⟩) (kp_V hk hw at_G rfl) rfl rfl hl.1 rfl (lv_room (Nat.le_of_ble_eq_true rfl)) dL_asked_260 ⟨Nat.le_of_ble_eq_true rfl, Nat.le_of_ble_eq_true rfl⟩) (fun E ce q9 H locs he hw hq hv hE => ?_) (fun H locs he hw => ?_)
  · exact k_out hT hlocks hw hq hv hE he (Nat.le_of_ble_eq_true rfl) (Nat.le_of_ble_eq_true rfl)
  · refine vx_ret ?_
    refine W.widen (k := 5) (n := 30) (Nat.le_of_ble_eq_true rfl) (Nat.le_of_ble_eq_true rfl) ?_
    exact W.iret (v := _) hx hb hr (fun t9 ht hW => kz_i hw ht he rfl rfl) hw.2.2.2 dL_asked_263
set_option maxHeartbeats 4000000 in
set_option maxRecDepth 100000 in
theorem mA_part (l : Launch) (g : wG) (hfl : l.stackTraces = false) (S : Nat → BT) (B : BT) (y : (Nat → Nat → Int32) × (Nat → Int64) × (Nat → UInt64)) (f : Nat → Int32) (a1 : Int32) (h0 : f 0 = a1) (n m9 : Nat) (hN : CN B n m9) (hev : ¬ S 2 0 1 < 0) : mA l g 113 1 f (xB S 0 B y) (e_X6_part a1 B) ((f_X6_part a1 B).1) (xB (f_X2_keep 15 a1 0 0 0 S) 0 (f_X6_part a1 B).2 y) := by
  intro b
  refine va_MetW (cc := cL_ask) (maxL := 4) (ret := some .int) (by decide) rfl ?_
  intro p9 e s m args below meth c s₁ BL hml hv
  obtain ⟨rfl, hk, hPB, hv9⟩ := hv
  have hx := BL.exec
  have hb := BL.bytes
  have hc : CX p9 c cL_ask s _ m RL := ⟨hx, hb, findClass_of_methodNamed BL.named, fun w h => atoms_spec BL.pre w (List.mem_cons_of_mem _ h)⟩
  have hTB : c.exceptionTable.toList = tableOf tbA := vx_table (x := yL_ask) BL (atoms_spec (ws := wsH yL_ask cL_ask 4 (some .int) tbA) BL.pre (Cond.codeWith yL_ask cL_ask 4 (some .int) tbA) List.mem_cons_self)
  have hr := BL.returns
  have hlocks := BL.notSynchronized
  have hw : WS g s (xB S 0 B y) s.heap [] := ⟨hPB, va_S.rf⟩
  have hl := lv_entry ([.ref (gA g 0), .int (nI 113), .ref b]) (n := 4) (Nat.le_of_ble_eq_true rfl)
  rw [lg_entry_eq]
  generalize (lg_sl ([.ref (gA g 0), .int (nI 113), .ref b]) ++ List.replicate (4 - (lg_sl ([.ref (gA g 0), .int (nI 113), .ref b])).length) Slot.unset).toArray = ls at hl ⊢
  have hl : lv_has ls 4 [(0, .ref (gA g 0)), (1, .int (nI 113)), (2, .ref b)] := hl
  refine lv_iload_n hx hb dL_ask_0 rfl (lv_at hl 1 rfl) ?_
  refine lv_tableIn (off := 403) (tgt := 404) hx hb dL_ask_1 (by decide +kernel) (by decide +kernel) (by decide +kernel) (by decide) ?_
  refine lv_aload_n hx hb dL_ask_404 rfl (lv_at hl 0 rfl) ?_
  refine lv_iload_n hx hb dL_ask_405 rfl (lv_at hl 1 rfl) ?_
  refine lv_aload_n hx hb dL_ask_406 rfl (lv_at hl 2 rfl) ?_
  refine kx_i hw (vx_runS (As := [.ref (gA g 0), .int (nI 113), .ref b]) (rest := []) ⟨hx, hb, hml, hc.2.2.1, hc.2.2.2⟩ (mQ_part l g hfl S B y f a1 h0 _ _ hN hev b) (kw_S hc 3 q788 q789 q0 q790 rfl rfl (by decide +kernel) ⟨Nat.le_of_ble_eq_true rfl, Nat.le_of_ble_eq_true rfl⟩) (kp_v0 hk hw hv9) rfl rfl hl.1 rfl (lv_room (Nat.le_of_ble_eq_true rfl)) dL_ask_407 ⟨Nat.le_of_ble_eq_true rfl, Nat.le_of_ble_eq_true rfl⟩) (fun E ce q9 H locs he hw hq hv hE => ?_) (fun H locs he hw => ?_)
  · have hE9 := ex_X6_part E he
    simp only [List.mem_cons, List.not_mem_nil, or_false] at hE9
    rcases hE9 with rfl | rfl
    · refine cat_407_4 hc hk hTB hq hv hE ?_
      refine lv_astore_n (lv' := [(3, .ref q9), (0, .ref (gA g 0)), (1, .int (nI 113)), (2, .ref b)]) hx hb dL_ask_423 rfl hl (by decide) rfl (fun ls hl => ?_)
      refine lv_ldc (v := (-2000000004)) hx hb hc.2.2.1 (hc.2.2.2 _ q904) dL_ask_424 ?_
      refine W.widen (k := 5) (n := 30) (Nat.le_of_ble_eq_true rfl) (Nat.le_of_ble_eq_true rfl) ?_
      exact W.iret (v := (-2000000004)) hx hb hr (fun t9 ht hW => ke_i hw ht (by rw [he]; exact kX_4.symm) (if_neg (by rw [he]; exact Option.some_ne_none _)).symm) hw.2.2.2 dL_ask_426
    · refine cat_407_1 hc hk hTB hq hv hE ?_
      refine lv_astore_n (lv' := [(3, .ref q9), (0, .ref (gA g 0)), (1, .int (nI 113)), (2, .ref b)]) hx hb dL_ask_411 rfl hl (by decide) rfl (fun ls hl => ?_)
      refine lv_ldc (v := (-2000000001)) hx hb hc.2.2.1 (hc.2.2.2 _ q901) dL_ask_412 ?_
      refine W.widen (k := 5) (n := 30) (Nat.le_of_ble_eq_true rfl) (Nat.le_of_ble_eq_true rfl) ?_
      exact W.iret (v := (-2000000001)) hx hb hr (fun t9 ht hW => ke_i hw ht (by rw [he]; exact kX_1.symm) (if_neg (by rw [he]; exact Option.some_ne_none _)).symm) hw.2.2.2 dL_ask_414
  · exact W.iret (v := _) hx hb hr (fun t9 ht hW => ke_i hw ht (by rw [he]; rfl) (if_pos he).symm) hw.2.2.2 dL_ask_410
set_option maxHeartbeats 4000000 in
set_option maxRecDepth 100000 in
theorem mQ_lead (l : Launch) (g : wG) (hfl : l.stackTraces = false) (S : Nat → BT) (B : BT) (y : (Nat → Nat → Int32) × (Nat → Int64) × (Nat → UInt64)) (f : Nat → Int32) (a1 : Int32) (h0 : f 0 = a1) (n m9 : Nat) (hN : CN B n m9) : mQ l g 108 1 f (xB S 0 B y) (e_X6_lead a1 B) (f_X6_lead a1 B) (xB S 0 B y) := by
  intro b
  refine vx_ofW (cc := cL_asked) (maxL := 3) (ret := some .int) (by decide) rfl ?_
  intro p9 e s m args below meth c s₁ BL hml hT hv
  obtain ⟨rfl, hk, hPB, hv9⟩ := hv
  have hx := BL.exec
  have hb := BL.bytes
  have hc : CX p9 c cL_asked s _ m RL := ⟨hx, hb, findClass_of_methodNamed BL.named, fun w h => atoms_spec BL.pre w (List.mem_cons_of_mem _ h)⟩
  have hr := BL.returns
  have hlocks := BL.notSynchronized
  have hw : WS g s (xB S 0 B y) s.heap [] := ⟨hPB, va_S.rf⟩
  have hl := lv_entry ([.ref (gA g 0), .int (nI 108), .ref b]) (n := 3) (Nat.le_of_ble_eq_true rfl)
  rw [lg_entry_eq]
  generalize (lg_sl ([.ref (gA g 0), .int (nI 108), .ref b]) ++ List.replicate (3 - (lg_sl ([.ref (gA g 0), .int (nI 108), .ref b])).length) Slot.unset).toArray = ls at hl ⊢
  have hl : lv_has ls 3 [(0, .ref (gA g 0)), (1, .int (nI 108)), (2, .ref b)] := hl
  refine lv_iload_n hx hb dL_asked_0 rfl (lv_at hl 1 rfl) ?_
  refine lv_tableIn (off := 263) (tgt := 264) hx hb dL_asked_1 (by decide +kernel) (by decide +kernel) (by decide +kernel) (by decide) ?_
  refine lv_aload_n hx hb dL_asked_264 rfl (lv_at hl 0 rfl) ?_
  refine lv_aload_n hx hb dL_asked_265 rfl (lv_at hl 2 rfl) ?_
  refine lv_iconst (v := 0) hx hb dL_asked_266 (by decide) ?_
  refine k_vld (v := a1) hc hk hv9 (vp_in_nI (n := 0) (by decide) (by decide)) (by decide) h0 dL_asked_267 ?_
  refine kx_i hw (vx_runV (As := [.int a1]) (rest := []) ⟨hx, hb, hml, hc.2.2.1, hc.2.2.2⟩ (m_X6_lead l g hfl S B y a1 _ _ hN) (kw_V hc 1 q844 q845 q846 q1 q847 rfl rfl (by decide +kernel) ⟨Nat.le_of_ble_eq_true rfl, Nat.le_of_ble_eq_true rfl⟩) (kp_V hk hw at_G rfl) rfl rfl hl.1 rfl (lv_room (Nat.le_of_ble_eq_true rfl)) dL_asked_268 ⟨Nat.le_of_ble_eq_true rfl, Nat.le_of_ble_eq_true rfl⟩) (fun E ce q9 H locs he hw hq hv hE => ?_) (fun H locs he hw => ?_)
  · exact k_out hT hlocks hw hq hv hE he (Nat.le_of_ble_eq_true rfl) (Nat.le_of_ble_eq_true rfl)
  · refine vx_ret ?_
    refine W.widen (k := 5) (n := 30) (Nat.le_of_ble_eq_true rfl) (Nat.le_of_ble_eq_true rfl) ?_
    exact W.iret (v := _) hx hb hr (fun t9 ht hW => kz_i hw ht he rfl rfl) hw.2.2.2 dL_asked_271
set_option maxHeartbeats 4000000 in
set_option maxRecDepth 100000 in
theorem mA_lead (l : Launch) (g : wG) (hfl : l.stackTraces = false) (S : Nat → BT) (B : BT) (y : (Nat → Nat → Int32) × (Nat → Int64) × (Nat → UInt64)) (f : Nat → Int32) (a1 : Int32) (h0 : f 0 = a1) (n m9 : Nat) (hN : CN B n m9) : mA l g 108 1 f (xB S 0 B y) (e_X6_lead a1 B) (f_X6_lead a1 B) (xB S 0 B y) := by
  intro b
  refine va_MetW (cc := cL_ask) (maxL := 4) (ret := some .int) (by decide) rfl ?_
  intro p9 e s m args below meth c s₁ BL hml hv
  obtain ⟨rfl, hk, hPB, hv9⟩ := hv
  have hx := BL.exec
  have hb := BL.bytes
  have hc : CX p9 c cL_ask s _ m RL := ⟨hx, hb, findClass_of_methodNamed BL.named, fun w h => atoms_spec BL.pre w (List.mem_cons_of_mem _ h)⟩
  have hTB : c.exceptionTable.toList = tableOf tbA := vx_table (x := yL_ask) BL (atoms_spec (ws := wsH yL_ask cL_ask 4 (some .int) tbA) BL.pre (Cond.codeWith yL_ask cL_ask 4 (some .int) tbA) List.mem_cons_self)
  have hr := BL.returns
  have hlocks := BL.notSynchronized
  have hw : WS g s (xB S 0 B y) s.heap [] := ⟨hPB, va_S.rf⟩
  have hl := lv_entry ([.ref (gA g 0), .int (nI 108), .ref b]) (n := 4) (Nat.le_of_ble_eq_true rfl)
  rw [lg_entry_eq]
  generalize (lg_sl ([.ref (gA g 0), .int (nI 108), .ref b]) ++ List.replicate (4 - (lg_sl ([.ref (gA g 0), .int (nI 108), .ref b])).length) Slot.unset).toArray = ls at hl ⊢
  have hl : lv_has ls 4 [(0, .ref (gA g 0)), (1, .int (nI 108)), (2, .ref b)] := hl
  refine lv_iload_n hx hb dL_ask_0 rfl (lv_at hl 1 rfl) ?_
  refine lv_tableIn (off := 403) (tgt := 404) hx hb dL_ask_1 (by decide +kernel) (by decide +kernel) (by decide +kernel) (by decide) ?_
  refine lv_aload_n hx hb dL_ask_404 rfl (lv_at hl 0 rfl) ?_
  refine lv_iload_n hx hb dL_ask_405 rfl (lv_at hl 1 rfl) ?_
  refine lv_aload_n hx hb dL_ask_406 rfl (lv_at hl 2 rfl) ?_
  refine kx_i hw (vx_runS (As := [.ref (gA g 0), .int (nI 108), .ref b]) (rest := []) ⟨hx, hb, hml, hc.2.2.1, hc.2.2.2⟩ (mQ_lead l g hfl S B y f a1 h0 _ _ hN b) (kw_S hc 3 q788 q789 q0 q790 rfl rfl (by decide +kernel) ⟨Nat.le_of_ble_eq_true rfl, Nat.le_of_ble_eq_true rfl⟩) (kp_v0 hk hw hv9) rfl rfl hl.1 rfl (lv_room (Nat.le_of_ble_eq_true rfl)) dL_ask_407 ⟨Nat.le_of_ble_eq_true rfl, Nat.le_of_ble_eq_true rfl⟩) (fun E ce q9 H locs he hw hq hv hE => ?_) (fun H locs he hw => ?_)
  · have hE9 := ex_X6_lead E he
    simp only [List.mem_cons, List.not_mem_nil, or_false] at hE9
    rcases hE9 with rfl
    refine cat_407_1 hc hk hTB hq hv hE ?_
    refine lv_astore_n (lv' := [(3, .ref q9), (0, .ref (gA g 0)), (1, .int (nI 108)), (2, .ref b)]) hx hb dL_ask_411 rfl hl (by decide) rfl (fun ls hl => ?_)
    refine lv_ldc (v := (-2000000001)) hx hb hc.2.2.1 (hc.2.2.2 _ q901) dL_ask_412 ?_
    refine W.widen (k := 5) (n := 30) (Nat.le_of_ble_eq_true rfl) (Nat.le_of_ble_eq_true rfl) ?_
    exact W.iret (v := (-2000000001)) hx hb hr (fun t9 ht hW => ke_i hw ht (by rw [he]; exact kX_1.symm) (if_neg (by rw [he]; exact Option.some_ne_none _)).symm) hw.2.2.2 dL_ask_414
  · exact W.iret (v := _) hx hb hr (fun t9 ht hW => ke_i hw ht (by rw [he]; rfl) (if_pos he).symm) hw.2.2.2 dL_ask_410
set_option maxHeartbeats 4000000 in
set_option maxRecDepth 100000 in
theorem mQ_countJoined (l : Launch) (g : wG) (hfl : l.stackTraces = false) (S : Nat → BT) (B : BT) (y : (Nat → Nat → Int32) × (Nat → Int64) × (Nat → UInt64)) (f : Nat → Int32) (a1 : Int32) (h0 : f 0 = a1) (n m9 : Nat) (hN : CN B n m9) : mQ l g 74 1 f (xB S 0 B y) (e_X6_countJoined a1 B) (f_X6_countJoined a1 B) (xB S 0 B y) := by
  intro b
  refine vx_ofW (cc := cL_asked) (maxL := 3) (ret := some .int) (by decide) rfl ?_
  intro p9 e s m args below meth c s₁ BL hml hT hv
  obtain ⟨rfl, hk, hPB, hv9⟩ := hv
  have hx := BL.exec
  have hb := BL.bytes
  have hc : CX p9 c cL_asked s _ m RL := ⟨hx, hb, findClass_of_methodNamed BL.named, fun w h => atoms_spec BL.pre w (List.mem_cons_of_mem _ h)⟩
  have hr := BL.returns
  have hlocks := BL.notSynchronized
  have hw : WS g s (xB S 0 B y) s.heap [] := ⟨hPB, va_S.rf⟩
  have hl := lv_entry ([.ref (gA g 0), .int (nI 74), .ref b]) (n := 3) (Nat.le_of_ble_eq_true rfl)
  rw [lg_entry_eq]
  generalize (lg_sl ([.ref (gA g 0), .int (nI 74), .ref b]) ++ List.replicate (3 - (lg_sl ([.ref (gA g 0), .int (nI 74), .ref b])).length) Slot.unset).toArray = ls at hl ⊢
  have hl : lv_has ls 3 [(0, .ref (gA g 0)), (1, .int (nI 74)), (2, .ref b)] := hl
  refine lv_iload_n hx hb dL_asked_0 rfl (lv_at hl 1 rfl) ?_
  refine lv_tableIn (off := 271) (tgt := 272) hx hb dL_asked_1 (by decide +kernel) (by decide +kernel) (by decide +kernel) (by decide) ?_
  refine lv_aload_n hx hb dL_asked_272 rfl (lv_at hl 0 rfl) ?_
  refine lv_aload_n hx hb dL_asked_273 rfl (lv_at hl 2 rfl) ?_
  refine lv_iconst (v := 0) hx hb dL_asked_274 (by decide) ?_
  refine k_vld (v := a1) hc hk hv9 (vp_in_nI (n := 0) (by decide) (by decide)) (by decide) h0 dL_asked_275 ?_
  refine kx_i hw (vx_runV (As := [.int a1]) (rest := []) ⟨hx, hb, hml, hc.2.2.1, hc.2.2.2⟩ (m_X6_countJoined l g hfl S B y a1 _ _ hN) (kw_V hc 1 q848 q849 q850 q1 q851 rfl rfl (by decide +kernel) ⟨Nat.le_of_ble_eq_true rfl, Nat.le_of_ble_eq_true rfl⟩) (kp_V hk hw at_G rfl) rfl rfl hl.1 rfl (lv_room (Nat.le_of_ble_eq_true rfl)) dL_asked_276 ⟨Nat.le_of_ble_eq_true rfl, Nat.le_of_ble_eq_true rfl⟩) (fun E ce q9 H locs he hw hq hv hE => ?_) (fun H locs he hw => ?_)
  · exact k_out hT hlocks hw hq hv hE he (Nat.le_of_ble_eq_true rfl) (Nat.le_of_ble_eq_true rfl)
  · refine vx_ret ?_
    refine W.widen (k := 5) (n := 30) (Nat.le_of_ble_eq_true rfl) (Nat.le_of_ble_eq_true rfl) ?_
    exact W.iret (v := _) hx hb hr (fun t9 ht hW => kz_i hw ht he rfl rfl) hw.2.2.2 dL_asked_279
set_option maxHeartbeats 4000000 in
set_option maxRecDepth 100000 in
theorem mA_countJoined (l : Launch) (g : wG) (hfl : l.stackTraces = false) (S : Nat → BT) (B : BT) (y : (Nat → Nat → Int32) × (Nat → Int64) × (Nat → UInt64)) (f : Nat → Int32) (a1 : Int32) (h0 : f 0 = a1) (n m9 : Nat) (hN : CN B n m9) : mA l g 74 1 f (xB S 0 B y) (e_X6_countJoined a1 B) (f_X6_countJoined a1 B) (xB S 0 B y) := by
  intro b
  refine va_MetW (cc := cL_ask) (maxL := 4) (ret := some .int) (by decide) rfl ?_
  intro p9 e s m args below meth c s₁ BL hml hv
  obtain ⟨rfl, hk, hPB, hv9⟩ := hv
  have hx := BL.exec
  have hb := BL.bytes
  have hc : CX p9 c cL_ask s _ m RL := ⟨hx, hb, findClass_of_methodNamed BL.named, fun w h => atoms_spec BL.pre w (List.mem_cons_of_mem _ h)⟩
  have hTB : c.exceptionTable.toList = tableOf tbA := vx_table (x := yL_ask) BL (atoms_spec (ws := wsH yL_ask cL_ask 4 (some .int) tbA) BL.pre (Cond.codeWith yL_ask cL_ask 4 (some .int) tbA) List.mem_cons_self)
  have hr := BL.returns
  have hlocks := BL.notSynchronized
  have hw : WS g s (xB S 0 B y) s.heap [] := ⟨hPB, va_S.rf⟩
  have hl := lv_entry ([.ref (gA g 0), .int (nI 74), .ref b]) (n := 4) (Nat.le_of_ble_eq_true rfl)
  rw [lg_entry_eq]
  generalize (lg_sl ([.ref (gA g 0), .int (nI 74), .ref b]) ++ List.replicate (4 - (lg_sl ([.ref (gA g 0), .int (nI 74), .ref b])).length) Slot.unset).toArray = ls at hl ⊢
  have hl : lv_has ls 4 [(0, .ref (gA g 0)), (1, .int (nI 74)), (2, .ref b)] := hl
  refine lv_iload_n hx hb dL_ask_0 rfl (lv_at hl 1 rfl) ?_
  refine lv_tableIn (off := 403) (tgt := 404) hx hb dL_ask_1 (by decide +kernel) (by decide +kernel) (by decide +kernel) (by decide) ?_
  refine lv_aload_n hx hb dL_ask_404 rfl (lv_at hl 0 rfl) ?_
  refine lv_iload_n hx hb dL_ask_405 rfl (lv_at hl 1 rfl) ?_
  refine lv_aload_n hx hb dL_ask_406 rfl (lv_at hl 2 rfl) ?_
  refine kx_i hw (vx_runS (As := [.ref (gA g 0), .int (nI 74), .ref b]) (rest := []) ⟨hx, hb, hml, hc.2.2.1, hc.2.2.2⟩ (mQ_countJoined l g hfl S B y f a1 h0 _ _ hN b) (kw_S hc 3 q788 q789 q0 q790 rfl rfl (by decide +kernel) ⟨Nat.le_of_ble_eq_true rfl, Nat.le_of_ble_eq_true rfl⟩) (kp_v0 hk hw hv9) rfl rfl hl.1 rfl (lv_room (Nat.le_of_ble_eq_true rfl)) dL_ask_407 ⟨Nat.le_of_ble_eq_true rfl, Nat.le_of_ble_eq_true rfl⟩) (fun E ce q9 H locs he hw hq hv hE => ?_) (fun H locs he hw => ?_)
  · have hE9 := ex_X6_countJoined E he
    simp only [List.mem_cons, List.not_mem_nil, or_false] at hE9
    rcases hE9 with rfl
    refine cat_407_1 hc hk hTB hq hv hE ?_
    refine lv_astore_n (lv' := [(3, .ref q9), (0, .ref (gA g 0)), (1, .int (nI 74)), (2, .ref b)]) hx hb dL_ask_411 rfl hl (by decide) rfl (fun ls hl => ?_)
    refine lv_ldc (v := (-2000000001)) hx hb hc.2.2.1 (hc.2.2.2 _ q901) dL_ask_412 ?_
    refine W.widen (k := 5) (n := 30) (Nat.le_of_ble_eq_true rfl) (Nat.le_of_ble_eq_true rfl) ?_
    exact W.iret (v := (-2000000001)) hx hb hr (fun t9 ht hW => ke_i hw ht (by rw [he]; exact kX_1.symm) (if_neg (by rw [he]; exact Option.some_ne_none _)).symm) hw.2.2.2 dL_ask_414
  · exact W.iret (v := _) hx hb hr (fun t9 ht hW => ke_i hw ht (by rw [he]; rfl) (if_pos he).symm) hw.2.2.2 dL_ask_410
set_option maxHeartbeats 4000000 in
set_option maxRecDepth 100000 in
theorem mQ_setWeight (l : Launch) (g : wG) (hfl : l.stackTraces = false) (S : Nat → BT) (B : BT) (y : (Nat → Nat → Int32) × (Nat → Int64) × (Nat → UInt64)) (f : Nat → Int32) (a1 : Int32) (a2 : Int32) (h0 : f 0 = a1) (h1 : f 1 = a2) (n m9 : Nat) (hN : CN B n m9) (hev : ¬ S 2 0 1 < 0) : mQ l g 119 2 f (xB S 0 B y) (e_X6_setWeight a1 a2 B) ((f_X6_setWeight a1 a2 B).1) (xB (f_X2_keep 3 a1 a2 0 0 S) 0 (f_X6_setWeight a1 a2 B).2 y) := by
  intro b
  refine vx_ofW (cc := cL_asked) (maxL := 3) (ret := some .int) (by decide) rfl ?_
  intro p9 e s m args below meth c s₁ BL hml hT hv
  obtain ⟨rfl, hk, hPB, hv9⟩ := hv
  have hx := BL.exec
  have hb := BL.bytes
  have hc : CX p9 c cL_asked s _ m RL := ⟨hx, hb, findClass_of_methodNamed BL.named, fun w h => atoms_spec BL.pre w (List.mem_cons_of_mem _ h)⟩
  have hr := BL.returns
  have hlocks := BL.notSynchronized
  have hw : WS g s (xB S 0 B y) s.heap [] := ⟨hPB, va_S.rf⟩
  have hl := lv_entry ([.ref (gA g 0), .int (nI 119), .ref b]) (n := 3) (Nat.le_of_ble_eq_true rfl)
  rw [lg_entry_eq]
  generalize (lg_sl ([.ref (gA g 0), .int (nI 119), .ref b]) ++ List.replicate (3 - (lg_sl ([.ref (gA g 0), .int (nI 119), .ref b])).length) Slot.unset).toArray = ls at hl ⊢
  have hl : lv_has ls 3 [(0, .ref (gA g 0)), (1, .int (nI 119)), (2, .ref b)] := hl
  refine lv_iload_n hx hb dL_asked_0 rfl (lv_at hl 1 rfl) ?_
  refine lv_tableIn (off := 279) (tgt := 280) hx hb dL_asked_1 (by decide +kernel) (by decide +kernel) (by decide +kernel) (by decide) ?_
  refine lv_aload_n hx hb dL_asked_280 rfl (lv_at hl 0 rfl) ?_
  refine lv_aload_n hx hb dL_asked_281 rfl (lv_at hl 2 rfl) ?_
  refine lv_iconst (v := 0) hx hb dL_asked_282 (by decide) ?_
  refine k_vld (v := a1) hc hk hv9 (vp_in_nI (n := 0) (by decide) (by decide)) (by decide) h0 dL_asked_283 ?_
  refine lv_aload_n hx hb dL_asked_284 rfl (lv_at hl 2 rfl) ?_
  refine lv_iconst (v := 1) hx hb dL_asked_285 (by decide) ?_
  refine k_vld (v := a2) hc hk hv9 (vp_in_nI (n := 1) (by decide) (by decide)) (by decide) h1 dL_asked_286 ?_
  refine kx_i hw (vx_runV (As := [.int a1, .int a2]) (rest := []) ⟨hx, hb, hml, hc.2.2.1, hc.2.2.2⟩ (m_X6_setWeight l g hfl S B y a1 a2 _ _ hN hev) (kw_V hc 2 q853 q854 q855 q1 q856 rfl rfl (by decide +kernel) ⟨Nat.le_of_ble_eq_true rfl, Nat.le_of_ble_eq_true rfl⟩) (kp_V hk hw at_G rfl) rfl rfl hl.1 rfl (lv_room (Nat.le_of_ble_eq_true rfl)) dL_asked_287 ⟨Nat.le_of_ble_eq_true rfl, Nat.le_of_ble_eq_true rfl⟩) (fun E ce q9 H locs he hw hq hv hE => ?_) (fun H locs he hw => ?_)
  · exact k_out hT hlocks hw hq hv hE he (Nat.le_of_ble_eq_true rfl) (Nat.le_of_ble_eq_true rfl)
  · refine vx_ret ?_
    refine W.widen (k := 5) (n := 30) (Nat.le_of_ble_eq_true rfl) (Nat.le_of_ble_eq_true rfl) ?_
    exact W.iret (v := _) hx hb hr (fun t9 ht hW => kz_i hw ht he rfl rfl) hw.2.2.2 dL_asked_290
set_option maxHeartbeats 4000000 in
set_option maxRecDepth 100000 in
theorem mA_setWeight (l : Launch) (g : wG) (hfl : l.stackTraces = false) (S : Nat → BT) (B : BT) (y : (Nat → Nat → Int32) × (Nat → Int64) × (Nat → UInt64)) (f : Nat → Int32) (a1 : Int32) (a2 : Int32) (h0 : f 0 = a1) (h1 : f 1 = a2) (n m9 : Nat) (hN : CN B n m9) (hev : ¬ S 2 0 1 < 0) : mA l g 119 2 f (xB S 0 B y) (e_X6_setWeight a1 a2 B) ((f_X6_setWeight a1 a2 B).1) (xB (f_X2_keep 3 a1 a2 0 0 S) 0 (f_X6_setWeight a1 a2 B).2 y) := by
  intro b
  refine va_MetW (cc := cL_ask) (maxL := 4) (ret := some .int) (by decide) rfl ?_
  intro p9 e s m args below meth c s₁ BL hml hv
  obtain ⟨rfl, hk, hPB, hv9⟩ := hv
  have hx := BL.exec
  have hb := BL.bytes
  have hc : CX p9 c cL_ask s _ m RL := ⟨hx, hb, findClass_of_methodNamed BL.named, fun w h => atoms_spec BL.pre w (List.mem_cons_of_mem _ h)⟩
  have hTB : c.exceptionTable.toList = tableOf tbA := vx_table (x := yL_ask) BL (atoms_spec (ws := wsH yL_ask cL_ask 4 (some .int) tbA) BL.pre (Cond.codeWith yL_ask cL_ask 4 (some .int) tbA) List.mem_cons_self)
  have hr := BL.returns
  have hlocks := BL.notSynchronized
  have hw : WS g s (xB S 0 B y) s.heap [] := ⟨hPB, va_S.rf⟩
  have hl := lv_entry ([.ref (gA g 0), .int (nI 119), .ref b]) (n := 4) (Nat.le_of_ble_eq_true rfl)
  rw [lg_entry_eq]
  generalize (lg_sl ([.ref (gA g 0), .int (nI 119), .ref b]) ++ List.replicate (4 - (lg_sl ([.ref (gA g 0), .int (nI 119), .ref b])).length) Slot.unset).toArray = ls at hl ⊢
  have hl : lv_has ls 4 [(0, .ref (gA g 0)), (1, .int (nI 119)), (2, .ref b)] := hl
  refine lv_iload_n hx hb dL_ask_0 rfl (lv_at hl 1 rfl) ?_
  refine lv_tableIn (off := 403) (tgt := 404) hx hb dL_ask_1 (by decide +kernel) (by decide +kernel) (by decide +kernel) (by decide) ?_
  refine lv_aload_n hx hb dL_ask_404 rfl (lv_at hl 0 rfl) ?_
  refine lv_iload_n hx hb dL_ask_405 rfl (lv_at hl 1 rfl) ?_
  refine lv_aload_n hx hb dL_ask_406 rfl (lv_at hl 2 rfl) ?_
  refine kx_i hw (vx_runS (As := [.ref (gA g 0), .int (nI 119), .ref b]) (rest := []) ⟨hx, hb, hml, hc.2.2.1, hc.2.2.2⟩ (mQ_setWeight l g hfl S B y f a1 a2 h0 h1 _ _ hN hev b) (kw_S hc 3 q788 q789 q0 q790 rfl rfl (by decide +kernel) ⟨Nat.le_of_ble_eq_true rfl, Nat.le_of_ble_eq_true rfl⟩) (kp_v0 hk hw hv9) rfl rfl hl.1 rfl (lv_room (Nat.le_of_ble_eq_true rfl)) dL_ask_407 ⟨Nat.le_of_ble_eq_true rfl, Nat.le_of_ble_eq_true rfl⟩) (fun E ce q9 H locs he hw hq hv hE => ?_) (fun H locs he hw => ?_)
  · have hE9 := ex_X6_setWeight E he
    simp only [List.mem_cons, List.not_mem_nil, or_false] at hE9
    rcases hE9 with rfl
    refine cat_407_2 hc hk hTB hq hv hE ?_
    refine lv_astore_n (lv' := [(3, .ref q9), (0, .ref (gA g 0)), (1, .int (nI 119)), (2, .ref b)]) hx hb dL_ask_415 rfl hl (by decide) rfl (fun ls hl => ?_)
    refine lv_ldc (v := (-2000000002)) hx hb hc.2.2.1 (hc.2.2.2 _ q902) dL_ask_416 ?_
    refine W.widen (k := 5) (n := 30) (Nat.le_of_ble_eq_true rfl) (Nat.le_of_ble_eq_true rfl) ?_
    exact W.iret (v := (-2000000002)) hx hb hr (fun t9 ht hW => ke_i hw ht (by rw [he]; exact kX_2.symm) (if_neg (by rw [he]; exact Option.some_ne_none _)).symm) hw.2.2.2 dL_ask_418
  · exact W.iret (v := _) hx hb hr (fun t9 ht hW => ke_i hw ht (by rw [he]; rfl) (if_pos he).symm) hw.2.2.2 dL_ask_410
set_option maxHeartbeats 4000000 in
set_option maxRecDepth 100000 in
theorem mQ_find (l : Launch) (g : wG) (hfl : l.stackTraces = false) (S : Nat → BT) (B : BT) (y : (Nat → Nat → Int32) × (Nat → Int64) × (Nat → UInt64)) (f : Nat → Int32) (a1 : Int32) (a2 : Int32) (h0 : f 0 = a1) (h1 : f 1 = a2) (n m9 : Nat) (hN : CN B n m9) (hev : ¬ S 2 0 1 < 0) : mQ l g 102 2 f (xB S 0 B y) (e_X6_find a1 a2 B) ((f_X6_find a1 a2 B).1) (xB (f_X2_keep 16 a1 a2 0 0 S) 0 (f_X6_find a1 a2 B).2 y) := by
  intro b
  refine vx_ofW (cc := cL_asked) (maxL := 3) (ret := some .int) (by decide) rfl ?_
  intro p9 e s m args below meth c s₁ BL hml hT hv
  obtain ⟨rfl, hk, hPB, hv9⟩ := hv
  have hx := BL.exec
  have hb := BL.bytes
  have hc : CX p9 c cL_asked s _ m RL := ⟨hx, hb, findClass_of_methodNamed BL.named, fun w h => atoms_spec BL.pre w (List.mem_cons_of_mem _ h)⟩
  have hr := BL.returns
  have hlocks := BL.notSynchronized
  have hw : WS g s (xB S 0 B y) s.heap [] := ⟨hPB, va_S.rf⟩
  have hl := lv_entry ([.ref (gA g 0), .int (nI 102), .ref b]) (n := 3) (Nat.le_of_ble_eq_true rfl)
  rw [lg_entry_eq]
  generalize (lg_sl ([.ref (gA g 0), .int (nI 102), .ref b]) ++ List.replicate (3 - (lg_sl ([.ref (gA g 0), .int (nI 102), .ref b])).length) Slot.unset).toArray = ls at hl ⊢
  have hl : lv_has ls 3 [(0, .ref (gA g 0)), (1, .int (nI 102)), (2, .ref b)] := hl
  refine lv_iload_n hx hb dL_asked_0 rfl (lv_at hl 1 rfl) ?_
  refine lv_tableIn (off := 290) (tgt := 291) hx hb dL_asked_1 (by decide +kernel) (by decide +kernel) (by decide +kernel) (by decide) ?_
  refine lv_aload_n hx hb dL_asked_291 rfl (lv_at hl 0 rfl) ?_
  refine lv_aload_n hx hb dL_asked_292 rfl (lv_at hl 2 rfl) ?_
  refine lv_iconst (v := 0) hx hb dL_asked_293 (by decide) ?_
  refine k_vld (v := a1) hc hk hv9 (vp_in_nI (n := 0) (by decide) (by decide)) (by decide) h0 dL_asked_294 ?_
  refine lv_aload_n hx hb dL_asked_295 rfl (lv_at hl 2 rfl) ?_
  refine lv_iconst (v := 1) hx hb dL_asked_296 (by decide) ?_
  refine k_vld (v := a2) hc hk hv9 (vp_in_nI (n := 1) (by decide) (by decide)) (by decide) h1 dL_asked_297 ?_
  refine kx_i hw (vx_runV (As := [.int a1, .int a2]) (rest := []) ⟨hx, hb, hml, hc.2.2.1, hc.2.2.2⟩ (m_X6_find l g hfl S B y a1 a2 _ _ hN hev) (kw_V hc 2 q857 q858 q859 q1 q860 rfl rfl (by decide +kernel) ⟨Nat.le_of_ble_eq_true rfl, Nat.le_of_ble_eq_true rfl⟩) (kp_V hk hw at_G rfl) rfl rfl hl.1 rfl (lv_room (Nat.le_of_ble_eq_true rfl)) dL_asked_298 ⟨Nat.le_of_ble_eq_true rfl, Nat.le_of_ble_eq_true rfl⟩) (fun E ce q9 H locs he hw hq hv hE => ?_) (fun H locs he hw => ?_)
  · exact k_out hT hlocks hw hq hv hE he (Nat.le_of_ble_eq_true rfl) (Nat.le_of_ble_eq_true rfl)
  · refine vx_ret ?_
    refine W.widen (k := 5) (n := 30) (Nat.le_of_ble_eq_true rfl) (Nat.le_of_ble_eq_true rfl) ?_
    exact W.iret (v := _) hx hb hr (fun t9 ht hW => kz_i hw ht he rfl rfl) hw.2.2.2 dL_asked_301
set_option maxHeartbeats 4000000 in
set_option maxRecDepth 100000 in
theorem mA_find (l : Launch) (g : wG) (hfl : l.stackTraces = false) (S : Nat → BT) (B : BT) (y : (Nat → Nat → Int32) × (Nat → Int64) × (Nat → UInt64)) (f : Nat → Int32) (a1 : Int32) (a2 : Int32) (h0 : f 0 = a1) (h1 : f 1 = a2) (n m9 : Nat) (hN : CN B n m9) (hev : ¬ S 2 0 1 < 0) : mA l g 102 2 f (xB S 0 B y) (e_X6_find a1 a2 B) ((f_X6_find a1 a2 B).1) (xB (f_X2_keep 16 a1 a2 0 0 S) 0 (f_X6_find a1 a2 B).2 y) := by
  intro b
  refine va_MetW (cc := cL_ask) (maxL := 4) (ret := some .int) (by decide) rfl ?_
  intro p9 e s m args below meth c s₁ BL hml hv
  obtain ⟨rfl, hk, hPB, hv9⟩ := hv
  have hx := BL.exec
  have hb := BL.bytes
  have hc : CX p9 c cL_ask s _ m RL := ⟨hx, hb, findClass_of_methodNamed BL.named, fun w h => atoms_spec BL.pre w (List.mem_cons_of_mem _ h)⟩
  have hTB : c.exceptionTable.toList = tableOf tbA := vx_table (x := yL_ask) BL (atoms_spec (ws := wsH yL_ask cL_ask 4 (some .int) tbA) BL.pre (Cond.codeWith yL_ask cL_ask 4 (some .int) tbA) List.mem_cons_self)
  have hr := BL.returns
  have hlocks := BL.notSynchronized
  have hw : WS g s (xB S 0 B y) s.heap [] := ⟨hPB, va_S.rf⟩
  have hl := lv_entry ([.ref (gA g 0), .int (nI 102), .ref b]) (n := 4) (Nat.le_of_ble_eq_true rfl)
  rw [lg_entry_eq]
  generalize (lg_sl ([.ref (gA g 0), .int (nI 102), .ref b]) ++ List.replicate (4 - (lg_sl ([.ref (gA g 0), .int (nI 102), .ref b])).length) Slot.unset).toArray = ls at hl ⊢
  have hl : lv_has ls 4 [(0, .ref (gA g 0)), (1, .int (nI 102)), (2, .ref b)] := hl
  refine lv_iload_n hx hb dL_ask_0 rfl (lv_at hl 1 rfl) ?_
  refine lv_tableIn (off := 403) (tgt := 404) hx hb dL_ask_1 (by decide +kernel) (by decide +kernel) (by decide +kernel) (by decide) ?_
  refine lv_aload_n hx hb dL_ask_404 rfl (lv_at hl 0 rfl) ?_
  refine lv_iload_n hx hb dL_ask_405 rfl (lv_at hl 1 rfl) ?_
  refine lv_aload_n hx hb dL_ask_406 rfl (lv_at hl 2 rfl) ?_
  refine kx_i hw (vx_runS (As := [.ref (gA g 0), .int (nI 102), .ref b]) (rest := []) ⟨hx, hb, hml, hc.2.2.1, hc.2.2.2⟩ (mQ_find l g hfl S B y f a1 a2 h0 h1 _ _ hN hev b) (kw_S hc 3 q788 q789 q0 q790 rfl rfl (by decide +kernel) ⟨Nat.le_of_ble_eq_true rfl, Nat.le_of_ble_eq_true rfl⟩) (kp_v0 hk hw hv9) rfl rfl hl.1 rfl (lv_room (Nat.le_of_ble_eq_true rfl)) dL_ask_407 ⟨Nat.le_of_ble_eq_true rfl, Nat.le_of_ble_eq_true rfl⟩) (fun E ce q9 H locs he hw hq hv hE => ?_) (fun H locs he hw => ?_)
  · have hE9 := ex_X6_find E he
    simp only [List.mem_cons, List.not_mem_nil, or_false] at hE9
    rcases hE9 with rfl | rfl | rfl
    · refine cat_407_1 hc hk hTB hq hv hE ?_
      refine lv_astore_n (lv' := [(3, .ref q9), (0, .ref (gA g 0)), (1, .int (nI 102)), (2, .ref b)]) hx hb dL_ask_411 rfl hl (by decide) rfl (fun ls hl => ?_)
      refine lv_ldc (v := (-2000000001)) hx hb hc.2.2.1 (hc.2.2.2 _ q901) dL_ask_412 ?_
      refine W.widen (k := 5) (n := 30) (Nat.le_of_ble_eq_true rfl) (Nat.le_of_ble_eq_true rfl) ?_
      exact W.iret (v := (-2000000001)) hx hb hr (fun t9 ht hW => ke_i hw ht (by rw [he]; exact kX_1.symm) (if_neg (by rw [he]; exact Option.some_ne_none _)).symm) hw.2.2.2 dL_ask_414
    · refine cat_407_2 hc hk hTB hq hv hE ?_
      refine lv_astore_n (lv' := [(3, .ref q9), (0, .ref (gA g 0)), (1, .int (nI 102)), (2, .ref b)]) hx hb dL_ask_415 rfl hl (by decide) rfl (fun ls hl => ?_)
      refine lv_ldc (v := (-2000000002)) hx hb hc.2.2.1 (hc.2.2.2 _ q902) dL_ask_416 ?_
      refine W.widen (k := 5) (n := 30) (Nat.le_of_ble_eq_true rfl) (Nat.le_of_ble_eq_true rfl) ?_
      exact W.iret (v := (-2000000002)) hx hb hr (fun t9 ht hW => ke_i hw ht (by rw [he]; exact kX_2.symm) (if_neg (by rw [he]; exact Option.some_ne_none _)).symm) hw.2.2.2 dL_ask_418
    · refine cat_407_4 hc hk hTB hq hv hE ?_
      refine lv_astore_n (lv' := [(3, .ref q9), (0, .ref (gA g 0)), (1, .int (nI 102)), (2, .ref b)]) hx hb dL_ask_423 rfl hl (by decide) rfl (fun ls hl => ?_)
      refine lv_ldc (v := (-2000000004)) hx hb hc.2.2.1 (hc.2.2.2 _ q904) dL_ask_424 ?_
      refine W.widen (k := 5) (n := 30) (Nat.le_of_ble_eq_true rfl) (Nat.le_of_ble_eq_true rfl) ?_
      exact W.iret (v := (-2000000004)) hx hb hr (fun t9 ht hW => ke_i hw ht (by rw [he]; exact kX_4.symm) (if_neg (by rw [he]; exact Option.some_ne_none _)).symm) hw.2.2.2 dL_ask_426
  · exact W.iret (v := _) hx hb hr (fun t9 ht hW => ke_i hw ht (by rw [he]; rfl) (if_pos he).symm) hw.2.2.2 dL_ask_410
set_option maxHeartbeats 4000000 in
set_option maxRecDepth 100000 in
theorem mQ_heads (l : Launch) (g : wG) (hfl : l.stackTraces = false) (S : Nat → BT) (B : BT) (y : (Nat → Nat → Int32) × (Nat → Int64) × (Nat → UInt64)) (f : Nat → Int32) (a1 : Int32) (h0 : f 0 = a1) (n m9 : Nat) (hN : CN B n m9) : mQ l g 104 1 f (xB S 0 B y) (e_X6_heads a1 B) (f_X6_heads a1 B) (xB S 0 B y) := by
  intro b
  refine vx_ofW (cc := cL_asked) (maxL := 3) (ret := some .int) (by decide) rfl ?_
  intro p9 e s m args below meth c s₁ BL hml hT hv
  obtain ⟨rfl, hk, hPB, hv9⟩ := hv
  have hx := BL.exec
  have hb := BL.bytes
  have hc : CX p9 c cL_asked s _ m RL := ⟨hx, hb, findClass_of_methodNamed BL.named, fun w h => atoms_spec BL.pre w (List.mem_cons_of_mem _ h)⟩
  have hr := BL.returns
  have hlocks := BL.notSynchronized
  have hw : WS g s (xB S 0 B y) s.heap [] := ⟨hPB, va_S.rf⟩
  have hl := lv_entry ([.ref (gA g 0), .int (nI 104), .ref b]) (n := 3) (Nat.le_of_ble_eq_true rfl)
  rw [lg_entry_eq]
  generalize (lg_sl ([.ref (gA g 0), .int (nI 104), .ref b]) ++ List.replicate (3 - (lg_sl ([.ref (gA g 0), .int (nI 104), .ref b])).length) Slot.unset).toArray = ls at hl ⊢
  have hl : lv_has ls 3 [(0, .ref (gA g 0)), (1, .int (nI 104)), (2, .ref b)] := hl
  refine lv_iload_n hx hb dL_asked_0 rfl (lv_at hl 1 rfl) ?_
  refine lv_tableIn (off := 301) (tgt := 302) hx hb dL_asked_1 (by decide +kernel) (by decide +kernel) (by decide +kernel) (by decide) ?_
  refine lv_aload_n hx hb dL_asked_302 rfl (lv_at hl 0 rfl) ?_
  refine lv_aload_n hx hb dL_asked_303 rfl (lv_at hl 2 rfl) ?_
  refine lv_iconst (v := 0) hx hb dL_asked_304 (by decide) ?_
  refine k_vld (v := a1) hc hk hv9 (vp_in_nI (n := 0) (by decide) (by decide)) (by decide) h0 dL_asked_305 ?_
  refine kx_i hw (vx_runV (As := [.int a1]) (rest := []) ⟨hx, hb, hml, hc.2.2.1, hc.2.2.2⟩ (m_X6_heads l g hfl S B y a1 _ _ hN) (kw_V hc 1 q861 q862 q863 q1 q864 rfl rfl (by decide +kernel) ⟨Nat.le_of_ble_eq_true rfl, Nat.le_of_ble_eq_true rfl⟩) (kp_V hk hw at_G rfl) rfl rfl hl.1 rfl (lv_room (Nat.le_of_ble_eq_true rfl)) dL_asked_306 ⟨Nat.le_of_ble_eq_true rfl, Nat.le_of_ble_eq_true rfl⟩) (fun E ce q9 H locs he hw hq hv hE => ?_) (fun H locs he hw => ?_)
  · exact k_out hT hlocks hw hq hv hE he (Nat.le_of_ble_eq_true rfl) (Nat.le_of_ble_eq_true rfl)
  · refine vx_ret ?_
    refine W.widen (k := 5) (n := 30) (Nat.le_of_ble_eq_true rfl) (Nat.le_of_ble_eq_true rfl) ?_
    exact W.iret (v := _) hx hb hr (fun t9 ht hW => kz_i hw ht he rfl rfl) hw.2.2.2 dL_asked_309
set_option maxHeartbeats 4000000 in
set_option maxRecDepth 100000 in
theorem mA_heads (l : Launch) (g : wG) (hfl : l.stackTraces = false) (S : Nat → BT) (B : BT) (y : (Nat → Nat → Int32) × (Nat → Int64) × (Nat → UInt64)) (f : Nat → Int32) (a1 : Int32) (h0 : f 0 = a1) (n m9 : Nat) (hN : CN B n m9) : mA l g 104 1 f (xB S 0 B y) (e_X6_heads a1 B) (f_X6_heads a1 B) (xB S 0 B y) := by
  intro b
  refine va_MetW (cc := cL_ask) (maxL := 4) (ret := some .int) (by decide) rfl ?_
  intro p9 e s m args below meth c s₁ BL hml hv
  obtain ⟨rfl, hk, hPB, hv9⟩ := hv
  have hx := BL.exec
  have hb := BL.bytes
  have hc : CX p9 c cL_ask s _ m RL := ⟨hx, hb, findClass_of_methodNamed BL.named, fun w h => atoms_spec BL.pre w (List.mem_cons_of_mem _ h)⟩
  have hTB : c.exceptionTable.toList = tableOf tbA := vx_table (x := yL_ask) BL (atoms_spec (ws := wsH yL_ask cL_ask 4 (some .int) tbA) BL.pre (Cond.codeWith yL_ask cL_ask 4 (some .int) tbA) List.mem_cons_self)
  have hr := BL.returns
  have hlocks := BL.notSynchronized
  have hw : WS g s (xB S 0 B y) s.heap [] := ⟨hPB, va_S.rf⟩
  have hl := lv_entry ([.ref (gA g 0), .int (nI 104), .ref b]) (n := 4) (Nat.le_of_ble_eq_true rfl)
  rw [lg_entry_eq]
  generalize (lg_sl ([.ref (gA g 0), .int (nI 104), .ref b]) ++ List.replicate (4 - (lg_sl ([.ref (gA g 0), .int (nI 104), .ref b])).length) Slot.unset).toArray = ls at hl ⊢
  have hl : lv_has ls 4 [(0, .ref (gA g 0)), (1, .int (nI 104)), (2, .ref b)] := hl
  refine lv_iload_n hx hb dL_ask_0 rfl (lv_at hl 1 rfl) ?_
  refine lv_tableIn (off := 403) (tgt := 404) hx hb dL_ask_1 (by decide +kernel) (by decide +kernel) (by decide +kernel) (by decide) ?_
  refine lv_aload_n hx hb dL_ask_404 rfl (lv_at hl 0 rfl) ?_
  refine lv_iload_n hx hb dL_ask_405 rfl (lv_at hl 1 rfl) ?_
  refine lv_aload_n hx hb dL_ask_406 rfl (lv_at hl 2 rfl) ?_
  refine kx_i hw (vx_runS (As := [.ref (gA g 0), .int (nI 104), .ref b]) (rest := []) ⟨hx, hb, hml, hc.2.2.1, hc.2.2.2⟩ (mQ_heads l g hfl S B y f a1 h0 _ _ hN b) (kw_S hc 3 q788 q789 q0 q790 rfl rfl (by decide +kernel) ⟨Nat.le_of_ble_eq_true rfl, Nat.le_of_ble_eq_true rfl⟩) (kp_v0 hk hw hv9) rfl rfl hl.1 rfl (lv_room (Nat.le_of_ble_eq_true rfl)) dL_ask_407 ⟨Nat.le_of_ble_eq_true rfl, Nat.le_of_ble_eq_true rfl⟩) (fun E ce q9 H locs he hw hq hv hE => ?_) (fun H locs he hw => ?_)
  · have hE9 := ex_X6_heads E he
    simp only [List.mem_cons, List.not_mem_nil, or_false] at hE9
    rcases hE9 with rfl | rfl
    · refine cat_407_5 hc hk hTB hq hv hE ?_
      refine lv_astore_n (lv' := [(3, .ref q9), (0, .ref (gA g 0)), (1, .int (nI 104)), (2, .ref b)]) hx hb dL_ask_427 rfl hl (by decide) rfl (fun ls hl => ?_)
      refine lv_ldc (v := (-2000000005)) hx hb hc.2.2.1 (hc.2.2.2 _ q905) dL_ask_428 ?_
      refine W.widen (k := 5) (n := 30) (Nat.le_of_ble_eq_true rfl) (Nat.le_of_ble_eq_true rfl) ?_
      exact W.iret (v := (-2000000005)) hx hb hr (fun t9 ht hW => ke_i hw ht (by rw [he]; exact kX_5.symm) (if_neg (by rw [he]; exact Option.some_ne_none _)).symm) hw.2.2.2 dL_ask_430
    · refine cat_407_1 hc hk hTB hq hv hE ?_
      refine lv_astore_n (lv' := [(3, .ref q9), (0, .ref (gA g 0)), (1, .int (nI 104)), (2, .ref b)]) hx hb dL_ask_411 rfl hl (by decide) rfl (fun ls hl => ?_)
      refine lv_ldc (v := (-2000000001)) hx hb hc.2.2.1 (hc.2.2.2 _ q901) dL_ask_412 ?_
      refine W.widen (k := 5) (n := 30) (Nat.le_of_ble_eq_true rfl) (Nat.le_of_ble_eq_true rfl) ?_
      exact W.iret (v := (-2000000001)) hx hb hr (fun t9 ht hW => ke_i hw ht (by rw [he]; exact kX_1.symm) (if_neg (by rw [he]; exact Option.some_ne_none _)).symm) hw.2.2.2 dL_ask_414
  · exact W.iret (v := _) hx hb hr (fun t9 ht hW => ke_i hw ht (by rw [he]; rfl) (if_pos he).symm) hw.2.2.2 dL_ask_410
set_option maxHeartbeats 4000000 in
set_option maxRecDepth 100000 in
theorem mQ_remedy (l : Launch) (g : wG) (hfl : l.stackTraces = false) (S : Nat → BT) (B : BT) (y : (Nat → Nat → Int32) × (Nat → Int64) × (Nat → UInt64)) (f : Nat → Int32) (a1 : Int32) (h0 : f 0 = a1) (n m9 : Nat) (hN : CN B n m9) : mQ l g 82 1 f (xB S 0 B y) (e_X6_remedy a1 B) (f_X6_remedy a1 B) (xB S 0 B y) := by
  intro b
  refine vx_ofW (cc := cL_asked) (maxL := 3) (ret := some .int) (by decide) rfl ?_
  intro p9 e s m args below meth c s₁ BL hml hT hv
  obtain ⟨rfl, hk, hPB, hv9⟩ := hv
  have hx := BL.exec
  have hb := BL.bytes
  have hc : CX p9 c cL_asked s _ m RL := ⟨hx, hb, findClass_of_methodNamed BL.named, fun w h => atoms_spec BL.pre w (List.mem_cons_of_mem _ h)⟩
  have hr := BL.returns
  have hlocks := BL.notSynchronized
  have hw : WS g s (xB S 0 B y) s.heap [] := ⟨hPB, va_S.rf⟩
  have hl := lv_entry ([.ref (gA g 0), .int (nI 82), .ref b]) (n := 3) (Nat.le_of_ble_eq_true rfl)
  rw [lg_entry_eq]
  generalize (lg_sl ([.ref (gA g 0), .int (nI 82), .ref b]) ++ List.replicate (3 - (lg_sl ([.ref (gA g 0), .int (nI 82), .ref b])).length) Slot.unset).toArray = ls at hl ⊢
  have hl : lv_has ls 3 [(0, .ref (gA g 0)), (1, .int (nI 82)), (2, .ref b)] := hl
  refine lv_iload_n hx hb dL_asked_0 rfl (lv_at hl 1 rfl) ?_
  refine lv_tableIn (off := 309) (tgt := 310) hx hb dL_asked_1 (by decide +kernel) (by decide +kernel) (by decide +kernel) (by decide) ?_
  refine lv_aload_n hx hb dL_asked_310 rfl (lv_at hl 0 rfl) ?_
  refine lv_aload_n hx hb dL_asked_311 rfl (lv_at hl 2 rfl) ?_
  refine lv_iconst (v := 0) hx hb dL_asked_312 (by decide) ?_
  refine k_vld (v := a1) hc hk hv9 (vp_in_nI (n := 0) (by decide) (by decide)) (by decide) h0 dL_asked_313 ?_
  refine kx_i hw (vx_runV (As := [.int a1]) (rest := []) ⟨hx, hb, hml, hc.2.2.1, hc.2.2.2⟩ (m_X6_remedy l g hfl S B y a1 _ _ hN) (kw_V hc 1 q866 q867 q868 q1 q869 rfl rfl (by decide +kernel) ⟨Nat.le_of_ble_eq_true rfl, Nat.le_of_ble_eq_true rfl⟩) (kp_V hk hw at_G rfl) rfl rfl hl.1 rfl (lv_room (Nat.le_of_ble_eq_true rfl)) dL_asked_314 ⟨Nat.le_of_ble_eq_true rfl, Nat.le_of_ble_eq_true rfl⟩) (fun E ce q9 H locs he hw hq hv hE => ?_) (fun H locs he hw => ?_)
  · exact k_out hT hlocks hw hq hv hE he (Nat.le_of_ble_eq_true rfl) (Nat.le_of_ble_eq_true rfl)
  · refine vx_ret ?_
    refine W.widen (k := 5) (n := 30) (Nat.le_of_ble_eq_true rfl) (Nat.le_of_ble_eq_true rfl) ?_
    exact W.iret (v := _) hx hb hr (fun t9 ht hW => kz_i hw ht he rfl rfl) hw.2.2.2 dL_asked_317
set_option maxHeartbeats 4000000 in
set_option maxRecDepth 100000 in
theorem mA_remedy (l : Launch) (g : wG) (hfl : l.stackTraces = false) (S : Nat → BT) (B : BT) (y : (Nat → Nat → Int32) × (Nat → Int64) × (Nat → UInt64)) (f : Nat → Int32) (a1 : Int32) (h0 : f 0 = a1) (n m9 : Nat) (hN : CN B n m9) : mA l g 82 1 f (xB S 0 B y) (e_X6_remedy a1 B) (f_X6_remedy a1 B) (xB S 0 B y) := by
  intro b
  refine va_MetW (cc := cL_ask) (maxL := 4) (ret := some .int) (by decide) rfl ?_
  intro p9 e s m args below meth c s₁ BL hml hv
  obtain ⟨rfl, hk, hPB, hv9⟩ := hv
  have hx := BL.exec
  have hb := BL.bytes
  have hc : CX p9 c cL_ask s _ m RL := ⟨hx, hb, findClass_of_methodNamed BL.named, fun w h => atoms_spec BL.pre w (List.mem_cons_of_mem _ h)⟩
  have hTB : c.exceptionTable.toList = tableOf tbA := vx_table (x := yL_ask) BL (atoms_spec (ws := wsH yL_ask cL_ask 4 (some .int) tbA) BL.pre (Cond.codeWith yL_ask cL_ask 4 (some .int) tbA) List.mem_cons_self)
  have hr := BL.returns
  have hlocks := BL.notSynchronized
  have hw : WS g s (xB S 0 B y) s.heap [] := ⟨hPB, va_S.rf⟩
  have hl := lv_entry ([.ref (gA g 0), .int (nI 82), .ref b]) (n := 4) (Nat.le_of_ble_eq_true rfl)
  rw [lg_entry_eq]
  generalize (lg_sl ([.ref (gA g 0), .int (nI 82), .ref b]) ++ List.replicate (4 - (lg_sl ([.ref (gA g 0), .int (nI 82), .ref b])).length) Slot.unset).toArray = ls at hl ⊢
  have hl : lv_has ls 4 [(0, .ref (gA g 0)), (1, .int (nI 82)), (2, .ref b)] := hl
  refine lv_iload_n hx hb dL_ask_0 rfl (lv_at hl 1 rfl) ?_
  refine lv_tableIn (off := 403) (tgt := 404) hx hb dL_ask_1 (by decide +kernel) (by decide +kernel) (by decide +kernel) (by decide) ?_
  refine lv_aload_n hx hb dL_ask_404 rfl (lv_at hl 0 rfl) ?_
  refine lv_iload_n hx hb dL_ask_405 rfl (lv_at hl 1 rfl) ?_
  refine lv_aload_n hx hb dL_ask_406 rfl (lv_at hl 2 rfl) ?_
  refine kx_i hw (vx_runS (As := [.ref (gA g 0), .int (nI 82), .ref b]) (rest := []) ⟨hx, hb, hml, hc.2.2.1, hc.2.2.2⟩ (mQ_remedy l g hfl S B y f a1 h0 _ _ hN b) (kw_S hc 3 q788 q789 q0 q790 rfl rfl (by decide +kernel) ⟨Nat.le_of_ble_eq_true rfl, Nat.le_of_ble_eq_true rfl⟩) (kp_v0 hk hw hv9) rfl rfl hl.1 rfl (lv_room (Nat.le_of_ble_eq_true rfl)) dL_ask_407 ⟨Nat.le_of_ble_eq_true rfl, Nat.le_of_ble_eq_true rfl⟩) (fun E ce q9 H locs he hw hq hv hE => ?_) (fun H locs he hw => ?_)
  · have hE9 := ex_X6_remedy E he
    simp only [List.mem_cons, List.not_mem_nil, or_false] at hE9
    rcases hE9 with rfl | rfl
    · refine cat_407_5 hc hk hTB hq hv hE ?_
      refine lv_astore_n (lv' := [(3, .ref q9), (0, .ref (gA g 0)), (1, .int (nI 82)), (2, .ref b)]) hx hb dL_ask_427 rfl hl (by decide) rfl (fun ls hl => ?_)
      refine lv_ldc (v := (-2000000005)) hx hb hc.2.2.1 (hc.2.2.2 _ q905) dL_ask_428 ?_
      refine W.widen (k := 5) (n := 30) (Nat.le_of_ble_eq_true rfl) (Nat.le_of_ble_eq_true rfl) ?_
      exact W.iret (v := (-2000000005)) hx hb hr (fun t9 ht hW => ke_i hw ht (by rw [he]; exact kX_5.symm) (if_neg (by rw [he]; exact Option.some_ne_none _)).symm) hw.2.2.2 dL_ask_430
    · refine cat_407_1 hc hk hTB hq hv hE ?_
      refine lv_astore_n (lv' := [(3, .ref q9), (0, .ref (gA g 0)), (1, .int (nI 82)), (2, .ref b)]) hx hb dL_ask_411 rfl hl (by decide) rfl (fun ls hl => ?_)
      refine lv_ldc (v := (-2000000001)) hx hb hc.2.2.1 (hc.2.2.2 _ q901) dL_ask_412 ?_
      refine W.widen (k := 5) (n := 30) (Nat.le_of_ble_eq_true rfl) (Nat.le_of_ble_eq_true rfl) ?_
      exact W.iret (v := (-2000000001)) hx hb hr (fun t9 ht hW => ke_i hw ht (by rw [he]; exact kX_1.symm) (if_neg (by rw [he]; exact Option.some_ne_none _)).symm) hw.2.2.2 dL_ask_414
  · exact W.iret (v := _) hx hb hr (fun t9 ht hW => ke_i hw ht (by rw [he]; rfl) (if_pos he).symm) hw.2.2.2 dL_ask_410
set_option maxHeartbeats 4000000 in
set_option maxRecDepth 100000 in
theorem mQ_accept (l : Launch) (g : wG) (hfl : l.stackTraces = false) (S : Nat → BT) (B : BT) (y : (Nat → Nat → Int32) × (Nat → Int64) × (Nat → UInt64)) (f : Nat → Int32) (a1 : Int32) (a2 : Int32) (h0 : f 0 = a1) (h1 : f 1 = a2) (n m9 : Nat) (hN : CN B n m9) (hev : ¬ S 2 0 1 < 0) (hz : a2 = 0 ∨ a2 = 1) : mQ l g 121 2 f (xB S 0 B y) (e_X6_accept a1 a2 B) ((f_X6_accept a1 a2 B).1) (xB (f_X2_keep 17 a1 (j_X6_accept_37 a2) 0 0 S) 0 (f_X6_accept a1 a2 B).2 y) := by
  rcases hz with rfl | rfl
  · intro b
    refine vx_ofW (cc := cL_asked) (maxL := 3) (ret := some .int) (by decide) rfl ?_
    intro p9 e s m args below meth c s₁ BL hml hT hv
    obtain ⟨rfl, hk, hPB, hv9⟩ := hv
    have hx := BL.exec
    have hb := BL.bytes
    have hc : CX p9 c cL_asked s _ m RL := ⟨hx, hb, findClass_of_methodNamed BL.named, fun w h => atoms_spec BL.pre w (List.mem_cons_of_mem _ h)⟩
    have hr := BL.returns
    have hlocks := BL.notSynchronized
    have hw : WS g s (xB S 0 B y) s.heap [] := ⟨hPB, va_S.rf⟩
    have hl := lv_entry ([.ref (gA g 0), .int (nI 121), .ref b]) (n := 3) (Nat.le_of_ble_eq_true rfl)
    rw [lg_entry_eq]
    generalize (lg_sl ([.ref (gA g 0), .int (nI 121), .ref b]) ++ List.replicate (3 - (lg_sl ([.ref (gA g 0), .int (nI 121), .ref b])).length) Slot.unset).toArray = ls at hl ⊢
    have hl : lv_has ls 3 [(0, .ref (gA g 0)), (1, .int (nI 121)), (2, .ref b)] := hl
    refine lv_iload_n hx hb dL_asked_0 rfl (lv_at hl 1 rfl) ?_
    refine lv_tableIn (off := 317) (tgt := 318) hx hb dL_asked_1 (by decide +kernel) (by decide +kernel) (by decide +kernel) (by decide) ?_
    refine lv_aload_n hx hb dL_asked_318 rfl (lv_at hl 0 rfl) ?_
    refine lv_aload_n hx hb dL_asked_319 rfl (lv_at hl 2 rfl) ?_
    refine lv_iconst (v := 0) hx hb dL_asked_320 (by decide) ?_
    refine k_vld (v := a1) hc hk hv9 (vp_in_nI (n := 0) (by decide) (by decide)) (by decide) h0 dL_asked_321 ?_
    refine lv_aload_n hx hb dL_asked_322 rfl (lv_at hl 2 rfl) ?_
    refine lv_iconst (v := 1) hx hb dL_asked_323 (by decide) ?_
    refine k_vld (v := 0) hc hk hv9 (vp_in_nI (n := 1) (by decide) (by decide)) (by decide) h1 dL_asked_324 ?_
    refine lv_iconst (v := 1) hx hb dL_asked_325 (by decide) ?_
    refine lv_icmp_ne (tgt := 333) hx hb dL_asked_326 (by decide) (fun _ => ?_) (fun h9 => absurd h9 (by decide))
    refine lv_iconst (v := 0) hx hb dL_asked_333 (by decide) ?_
    refine kx_i hw (vx_runV (As := [.int a1, .int 0]) (rest := []) ⟨hx, hb, hml, hc.2.2.1, hc.2.2.2⟩ (m_X6_accept l g hfl S B y a1 0 _ _ hN hev) (kw_V hc 2 q871 q872 q873 q1 q874 rfl rfl (by decide +kernel) ⟨Nat.le_of_ble_eq_true rfl, Nat.le_of_ble_eq_true rfl⟩) (kp_V hk hw at_G rfl) rfl rfl hl.1 rfl (lv_room (Nat.le_of_ble_eq_true rfl)) dL_asked_334 ⟨Nat.le_of_ble_eq_true rfl, Nat.le_of_ble_eq_true rfl⟩) (fun E ce q9 H locs he hw hq hv hE => ?_) (fun H locs he hw => ?_)
    · exact k_out hT hlocks hw hq hv hE he (Nat.le_of_ble_eq_true rfl) (Nat.le_of_ble_eq_true rfl)
    · refine vx_ret ?_
      refine W.widen (k := 5) (n := 30) (Nat.le_of_ble_eq_true rfl) (Nat.le_of_ble_eq_true rfl) ?_
      exact W.iret (v := _) hx hb hr (fun t9 ht hW => kz_i hw ht he rfl rfl) hw.2.2.2 dL_asked_337
  · intro b
    refine vx_ofW (cc := cL_asked) (maxL := 3) (ret := some .int) (by decide) rfl ?_
    intro p9 e s m args below meth c s₁ BL hml hT hv
    obtain ⟨rfl, hk, hPB, hv9⟩ := hv
    have hx := BL.exec
    have hb := BL.bytes
    have hc : CX p9 c cL_asked s _ m RL := ⟨hx, hb, findClass_of_methodNamed BL.named, fun w h => atoms_spec BL.pre w (List.mem_cons_of_mem _ h)⟩
    have hr := BL.returns
    have hlocks := BL.notSynchronized
    have hw : WS g s (xB S 0 B y) s.heap [] := ⟨hPB, va_S.rf⟩
    have hl := lv_entry ([.ref (gA g 0), .int (nI 121), .ref b]) (n := 3) (Nat.le_of_ble_eq_true rfl)
    rw [lg_entry_eq]
    generalize (lg_sl ([.ref (gA g 0), .int (nI 121), .ref b]) ++ List.replicate (3 - (lg_sl ([.ref (gA g 0), .int (nI 121), .ref b])).length) Slot.unset).toArray = ls at hl ⊢
    have hl : lv_has ls 3 [(0, .ref (gA g 0)), (1, .int (nI 121)), (2, .ref b)] := hl
    refine lv_iload_n hx hb dL_asked_0 rfl (lv_at hl 1 rfl) ?_
    refine lv_tableIn (off := 317) (tgt := 318) hx hb dL_asked_1 (by decide +kernel) (by decide +kernel) (by decide +kernel) (by decide) ?_
    refine lv_aload_n hx hb dL_asked_318 rfl (lv_at hl 0 rfl) ?_
    refine lv_aload_n hx hb dL_asked_319 rfl (lv_at hl 2 rfl) ?_
    refine lv_iconst (v := 0) hx hb dL_asked_320 (by decide) ?_
    refine k_vld (v := a1) hc hk hv9 (vp_in_nI (n := 0) (by decide) (by decide)) (by decide) h0 dL_asked_321 ?_
    refine lv_aload_n hx hb dL_asked_322 rfl (lv_at hl 2 rfl) ?_
    refine lv_iconst (v := 1) hx hb dL_asked_323 (by decide) ?_
    refine k_vld (v := 1) hc hk hv9 (vp_in_nI (n := 1) (by decide) (by decide)) (by decide) h1 dL_asked_324 ?_
    refine lv_iconst (v := 1) hx hb dL_asked_325 (by decide) ?_
    refine lv_icmp_ne (tgt := 333) hx hb dL_asked_326 (by decide) (fun h9 => absurd rfl h9) (fun _ => ?_)
    refine lv_iconst (v := 1) hx hb dL_asked_329 (by decide) ?_
    refine lv_goto (tgt := 334) hx hb dL_asked_330 (by decide) ?_
    refine kx_i hw (vx_runV (As := [.int a1, .int 1]) (rest := []) ⟨hx, hb, hml, hc.2.2.1, hc.2.2.2⟩ (m_X6_accept l g hfl S B y a1 1 _ _ hN hev) (kw_V hc 2 q871 q872 q873 q1 q874 rfl rfl (by decide +kernel) ⟨Nat.le_of_ble_eq_true rfl, Nat.le_of_ble_eq_true rfl⟩) (kp_V hk hw at_G rfl) rfl rfl hl.1 rfl (lv_room (Nat.le_of_ble_eq_true rfl)) dL_asked_334 ⟨Nat.le_of_ble_eq_true rfl, Nat.le_of_ble_eq_true rfl⟩) (fun E ce q9 H locs he hw hq hv hE => ?_) (fun H locs he hw => ?_)
    · exact k_out hT hlocks hw hq hv hE he (Nat.le_of_ble_eq_true rfl) (Nat.le_of_ble_eq_true rfl)
    · refine vx_ret ?_
      refine W.widen (k := 5) (n := 30) (Nat.le_of_ble_eq_true rfl) (Nat.le_of_ble_eq_true rfl) ?_
      exact W.iret (v := _) hx hb hr (fun t9 ht hW => kz_i hw ht he rfl rfl) hw.2.2.2 dL_asked_337
set_option maxHeartbeats 4000000 in
set_option maxRecDepth 100000 in
theorem mA_accept (l : Launch) (g : wG) (hfl : l.stackTraces = false) (S : Nat → BT) (B : BT) (y : (Nat → Nat → Int32) × (Nat → Int64) × (Nat → UInt64)) (f : Nat → Int32) (a1 : Int32) (a2 : Int32) (h0 : f 0 = a1) (h1 : f 1 = a2) (n m9 : Nat) (hN : CN B n m9) (hev : ¬ S 2 0 1 < 0) (hz : a2 = 0 ∨ a2 = 1) : mA l g 121 2 f (xB S 0 B y) (e_X6_accept a1 a2 B) ((f_X6_accept a1 a2 B).1) (xB (f_X2_keep 17 a1 (j_X6_accept_37 a2) 0 0 S) 0 (f_X6_accept a1 a2 B).2 y) := by
  rcases hz with rfl | rfl
  · intro b
    refine va_MetW (cc := cL_ask) (maxL := 4) (ret := some .int) (by decide) rfl ?_
    intro p9 e s m args below meth c s₁ BL hml hv
    obtain ⟨rfl, hk, hPB, hv9⟩ := hv
    have hx := BL.exec
    have hb := BL.bytes
    have hc : CX p9 c cL_ask s _ m RL := ⟨hx, hb, findClass_of_methodNamed BL.named, fun w h => atoms_spec BL.pre w (List.mem_cons_of_mem _ h)⟩
    have hTB : c.exceptionTable.toList = tableOf tbA := vx_table (x := yL_ask) BL (atoms_spec (ws := wsH yL_ask cL_ask 4 (some .int) tbA) BL.pre (Cond.codeWith yL_ask cL_ask 4 (some .int) tbA) List.mem_cons_self)
    have hr := BL.returns
    have hlocks := BL.notSynchronized
    have hw : WS g s (xB S 0 B y) s.heap [] := ⟨hPB, va_S.rf⟩
    have hl := lv_entry ([.ref (gA g 0), .int (nI 121), .ref b]) (n := 4) (Nat.le_of_ble_eq_true rfl)
    rw [lg_entry_eq]
    generalize (lg_sl ([.ref (gA g 0), .int (nI 121), .ref b]) ++ List.replicate (4 - (lg_sl ([.ref (gA g 0), .int (nI 121), .ref b])).length) Slot.unset).toArray = ls at hl ⊢
    have hl : lv_has ls 4 [(0, .ref (gA g 0)), (1, .int (nI 121)), (2, .ref b)] := hl
    refine lv_iload_n hx hb dL_ask_0 rfl (lv_at hl 1 rfl) ?_
    refine lv_tableOut (tgt := 404) hx hb dL_ask_1 (by decide +kernel) (by decide) ?_
    refine lv_aload_n hx hb dL_ask_404 rfl (lv_at hl 0 rfl) ?_
    refine lv_iload_n hx hb dL_ask_405 rfl (lv_at hl 1 rfl) ?_
    refine lv_aload_n hx hb dL_ask_406 rfl (lv_at hl 2 rfl) ?_
    refine kx_i hw (vx_runS (As := [.ref (gA g 0), .int (nI 121), .ref b]) (rest := []) ⟨hx, hb, hml, hc.2.2.1, hc.2.2.2⟩ (mQ_accept l g hfl S B y f a1 0 h0 h1 _ _ hN hev (Or.inl rfl) b) (kw_S hc 3 q788 q789 q0 q790 rfl rfl (by decide +kernel) ⟨Nat.le_of_ble_eq_true rfl, Nat.le_of_ble_eq_true rfl⟩) (kp_v0 hk hw hv9) rfl rfl hl.1 rfl (lv_room (Nat.le_of_ble_eq_true rfl)) dL_ask_407 ⟨Nat.le_of_ble_eq_true rfl, Nat.le_of_ble_eq_true rfl⟩) (fun E ce q9 H locs he hw hq hv hE => ?_) (fun H locs he hw => ?_)
    · have hE9 := ex_X6_accept E he
      simp only [List.mem_cons, List.not_mem_nil, or_false] at hE9
      rcases hE9 with rfl | rfl
      · refine cat_407_4 hc hk hTB hq hv hE ?_
        refine lv_astore_n (lv' := [(3, .ref q9), (0, .ref (gA g 0)), (1, .int (nI 121)), (2, .ref b)]) hx hb dL_ask_423 rfl hl (by decide) rfl (fun ls hl => ?_)
        refine lv_ldc (v := (-2000000004)) hx hb hc.2.2.1 (hc.2.2.2 _ q904) dL_ask_424 ?_
        refine W.widen (k := 5) (n := 30) (Nat.le_of_ble_eq_true rfl) (Nat.le_of_ble_eq_true rfl) ?_
        exact W.iret (v := (-2000000004)) hx hb hr (fun t9 ht hW => ke_i hw ht (by rw [he]; exact kX_4.symm) (if_neg (by rw [he]; exact Option.some_ne_none _)).symm) hw.2.2.2 dL_ask_426
      · refine cat_407_1 hc hk hTB hq hv hE ?_
        refine lv_astore_n (lv' := [(3, .ref q9), (0, .ref (gA g 0)), (1, .int (nI 121)), (2, .ref b)]) hx hb dL_ask_411 rfl hl (by decide) rfl (fun ls hl => ?_)
        refine lv_ldc (v := (-2000000001)) hx hb hc.2.2.1 (hc.2.2.2 _ q901) dL_ask_412 ?_
        refine W.widen (k := 5) (n := 30) (Nat.le_of_ble_eq_true rfl) (Nat.le_of_ble_eq_true rfl) ?_
        exact W.iret (v := (-2000000001)) hx hb hr (fun t9 ht hW => ke_i hw ht (by rw [he]; exact kX_1.symm) (if_neg (by rw [he]; exact Option.some_ne_none _)).symm) hw.2.2.2 dL_ask_414
    · exact W.iret (v := _) hx hb hr (fun t9 ht hW => ke_i hw ht (by rw [he]; rfl) (if_pos he).symm) hw.2.2.2 dL_ask_410
  · intro b
    refine va_MetW (cc := cL_ask) (maxL := 4) (ret := some .int) (by decide) rfl ?_
    intro p9 e s m args below meth c s₁ BL hml hv
    obtain ⟨rfl, hk, hPB, hv9⟩ := hv
    have hx := BL.exec
    have hb := BL.bytes
    have hc : CX p9 c cL_ask s _ m RL := ⟨hx, hb, findClass_of_methodNamed BL.named, fun w h => atoms_spec BL.pre w (List.mem_cons_of_mem _ h)⟩
    have hTB : c.exceptionTable.toList = tableOf tbA := vx_table (x := yL_ask) BL (atoms_spec (ws := wsH yL_ask cL_ask 4 (some .int) tbA) BL.pre (Cond.codeWith yL_ask cL_ask 4 (some .int) tbA) List.mem_cons_self)
    have hr := BL.returns
    have hlocks := BL.notSynchronized
    have hw : WS g s (xB S 0 B y) s.heap [] := ⟨hPB, va_S.rf⟩
    have hl := lv_entry ([.ref (gA g 0), .int (nI 121), .ref b]) (n := 4) (Nat.le_of_ble_eq_true rfl)
    rw [lg_entry_eq]
    generalize (lg_sl ([.ref (gA g 0), .int (nI 121), .ref b]) ++ List.replicate (4 - (lg_sl ([.ref (gA g 0), .int (nI 121), .ref b])).length) Slot.unset).toArray = ls at hl ⊢
    have hl : lv_has ls 4 [(0, .ref (gA g 0)), (1, .int (nI 121)), (2, .ref b)] := hl
    refine lv_iload_n hx hb dL_ask_0 rfl (lv_at hl 1 rfl) ?_
    refine lv_tableOut (tgt := 404) hx hb dL_ask_1 (by decide +kernel) (by decide) ?_
    refine lv_aload_n hx hb dL_ask_404 rfl (lv_at hl 0 rfl) ?_
    refine lv_iload_n hx hb dL_ask_405 rfl (lv_at hl 1 rfl) ?_
    refine lv_aload_n hx hb dL_ask_406 rfl (lv_at hl 2 rfl) ?_
    refine kx_i hw (vx_runS (As := [.ref (gA g 0), .int (nI 121), .ref b]) (rest := []) ⟨hx, hb, hml, hc.2.2.1, hc.2.2.2⟩ (mQ_accept l g hfl S B y f a1 1 h0 h1 _ _ hN hev (Or.inr rfl) b) (kw_S hc 3 q788 q789 q0 q790 rfl rfl (by decide +kernel) ⟨Nat.le_of_ble_eq_true rfl, Nat.le_of_ble_eq_true rfl⟩) (kp_v0 hk hw hv9) rfl rfl hl.1 rfl (lv_room (Nat.le_of_ble_eq_true rfl)) dL_ask_407 ⟨Nat.le_of_ble_eq_true rfl, Nat.le_of_ble_eq_true rfl⟩) (fun E ce q9 H locs he hw hq hv hE => ?_) (fun H locs he hw => ?_)
    · have hE9 := ex_X6_accept E he
      simp only [List.mem_cons, List.not_mem_nil, or_false] at hE9
      rcases hE9 with rfl | rfl
      · refine cat_407_4 hc hk hTB hq hv hE ?_
        refine lv_astore_n (lv' := [(3, .ref q9), (0, .ref (gA g 0)), (1, .int (nI 121)), (2, .ref b)]) hx hb dL_ask_423 rfl hl (by decide) rfl (fun ls hl => ?_)
        refine lv_ldc (v := (-2000000004)) hx hb hc.2.2.1 (hc.2.2.2 _ q904) dL_ask_424 ?_
        refine W.widen (k := 5) (n := 30) (Nat.le_of_ble_eq_true rfl) (Nat.le_of_ble_eq_true rfl) ?_
        exact W.iret (v := (-2000000004)) hx hb hr (fun t9 ht hW => ke_i hw ht (by rw [he]; exact kX_4.symm) (if_neg (by rw [he]; exact Option.some_ne_none _)).symm) hw.2.2.2 dL_ask_426
      · refine cat_407_1 hc hk hTB hq hv hE ?_
        refine lv_astore_n (lv' := [(3, .ref q9), (0, .ref (gA g 0)), (1, .int (nI 121)), (2, .ref b)]) hx hb dL_ask_411 rfl hl (by decide) rfl (fun ls hl => ?_)
        refine lv_ldc (v := (-2000000001)) hx hb hc.2.2.1 (hc.2.2.2 _ q901) dL_ask_412 ?_
        refine W.widen (k := 5) (n := 30) (Nat.le_of_ble_eq_true rfl) (Nat.le_of_ble_eq_true rfl) ?_
        exact W.iret (v := (-2000000001)) hx hb hr (fun t9 ht hW => ke_i hw ht (by rw [he]; exact kX_1.symm) (if_neg (by rw [he]; exact Option.some_ne_none _)).symm) hw.2.2.2 dL_ask_414
    · exact W.iret (v := _) hx hb hr (fun t9 ht hW => ke_i hw ht (by rw [he]; rfl) (if_pos he).symm) hw.2.2.2 dL_ask_410
set_option maxHeartbeats 4000000 in
set_option maxRecDepth 100000 in
theorem mQ_isAccepted (l : Launch) (g : wG) (hfl : l.stackTraces = false) (S : Nat → BT) (B : BT) (y : (Nat → Nat → Int32) × (Nat → Int64) × (Nat → UInt64)) (f : Nat → Int32) (a1 : Int32) (h0 : f 0 = a1) (n m9 : Nat) (hN : CN B n m9) (hz : okz (B (50 + (f_X0_leadOf (f_X6_known a1 B) B)) 5)) : mQ l g 89 1 f (xB S 0 B y) (e_X6_isAccepted a1 B) (if f_X6_isAccepted a1 B = 0 then (0 : Int32) else 1) (xB S 0 B y) := by
  intro b
  refine vx_ofW (cc := cL_asked) (maxL := 3) (ret := some .int) (by decide) rfl ?_
  intro p9 e s m args below meth c s₁ BL hml hT hv
  obtain ⟨rfl, hk, hPB, hv9⟩ := hv
  have hx := BL.exec
  have hb := BL.bytes
  have hc : CX p9 c cL_asked s _ m RL := ⟨hx, hb, findClass_of_methodNamed BL.named, fun w h => atoms_spec BL.pre w (List.mem_cons_of_mem _ h)⟩
  have hr := BL.returns
  have hlocks := BL.notSynchronized
  have hw : WS g s (xB S 0 B y) s.heap [] := ⟨hPB, va_S.rf⟩
  have hl := lv_entry ([.ref (gA g 0), .int (nI 89), .ref b]) (n := 3) (Nat.le_of_ble_eq_true rfl)
  rw [lg_entry_eq]
  generalize (lg_sl ([.ref (gA g 0), .int (nI 89), .ref b]) ++ List.replicate (3 - (lg_sl ([.ref (gA g 0), .int (nI 89), .ref b])).length) Slot.unset).toArray = ls at hl ⊢
  have hl : lv_has ls 3 [(0, .ref (gA g 0)), (1, .int (nI 89)), (2, .ref b)] := hl
  refine lv_iload_n hx hb dL_asked_0 rfl (lv_at hl 1 rfl) ?_
  refine lv_tableIn (off := 337) (tgt := 338) hx hb dL_asked_1 (by decide +kernel) (by decide +kernel) (by decide +kernel) (by decide) ?_
  refine lv_aload_n hx hb dL_asked_338 rfl (lv_at hl 0 rfl) ?_
  refine lv_aload_n hx hb dL_asked_339 rfl (lv_at hl 2 rfl) ?_
  refine lv_iconst (v := 0) hx hb dL_asked_340 (by decide) ?_
  refine k_vld (v := a1) hc hk hv9 (vp_in_nI (n := 0) (by decide) (by decide)) (by decide) h0 dL_asked_341 ?_
  refine kx_i hw (vx_runV (As := [.int a1]) (rest := []) ⟨hx, hb, hml, hc.2.2.1, hc.2.2.2⟩ (m_X6_isAccepted l g hfl S B y a1 _ _ hN hz) (kw_V hc 1 q876 q877 q878 q1 q879 rfl rfl (by decide +kernel) ⟨Nat.le_of_ble_eq_true rfl, Nat.le_of_ble_eq_true rfl⟩) (kp_V hk hw at_G rfl) rfl rfl hl.1 rfl (lv_room (Nat.le_of_ble_eq_true rfl)) dL_asked_342 ⟨Nat.le_of_ble_eq_true rfl, Nat.le_of_ble_eq_true rfl⟩) (fun E ce q9 H locs he hw hq hv hE => ?_) (fun H locs he hw => ?_)
  · exact k_out hT hlocks hw hq hv hE he (Nat.le_of_ble_eq_true rfl) (Nat.le_of_ble_eq_true rfl)
  · refine lv_if_eq (tgt := 352) hx hb dL_asked_345 (by decide) (fun h9 => ?_) (fun h9 => ?_)
    · refine lv_iconst (v := 0) hx hb dL_asked_352 (by decide) ?_
      refine vx_ret ?_
      refine W.widen (k := 5) (n := 30) (Nat.le_of_ble_eq_true rfl) (Nat.le_of_ble_eq_true rfl) ?_
      exact W.iret (v := 0) hx hb hr (fun t9 ht hW => kz_i hw ht he (if_pos h9).symm rfl) hw.2.2.2 dL_asked_353
    · refine lv_iconst (v := 1) hx hb dL_asked_348 (by decide) ?_
      refine lv_goto (tgt := 353) hx hb dL_asked_349 (by decide) ?_
      refine vx_ret ?_
      refine W.widen (k := 5) (n := 30) (Nat.le_of_ble_eq_true rfl) (Nat.le_of_ble_eq_true rfl) ?_
      exact W.iret (v := 1) hx hb hr (fun t9 ht hW => kz_i hw ht he (if_neg h9).symm rfl) hw.2.2.2 dL_asked_353
set_option maxHeartbeats 4000000 in
set_option maxRecDepth 100000 in
theorem mA_isAccepted (l : Launch) (g : wG) (hfl : l.stackTraces = false) (S : Nat → BT) (B : BT) (y : (Nat → Nat → Int32) × (Nat → Int64) × (Nat → UInt64)) (f : Nat → Int32) (a1 : Int32) (h0 : f 0 = a1) (n m9 : Nat) (hN : CN B n m9) (hz : okz (B (50 + (f_X0_leadOf (f_X6_known a1 B) B)) 5)) : mA l g 89 1 f (xB S 0 B y) (e_X6_isAccepted a1 B) (if f_X6_isAccepted a1 B = 0 then (0 : Int32) else 1) (xB S 0 B y) := by
  intro b
  refine va_MetW (cc := cL_ask) (maxL := 4) (ret := some .int) (by decide) rfl ?_
  intro p9 e s m args below meth c s₁ BL hml hv
  obtain ⟨rfl, hk, hPB, hv9⟩ := hv
  have hx := BL.exec
  have hb := BL.bytes
  have hc : CX p9 c cL_ask s _ m RL := ⟨hx, hb, findClass_of_methodNamed BL.named, fun w h => atoms_spec BL.pre w (List.mem_cons_of_mem _ h)⟩
  have hTB : c.exceptionTable.toList = tableOf tbA := vx_table (x := yL_ask) BL (atoms_spec (ws := wsH yL_ask cL_ask 4 (some .int) tbA) BL.pre (Cond.codeWith yL_ask cL_ask 4 (some .int) tbA) List.mem_cons_self)
  have hr := BL.returns
  have hlocks := BL.notSynchronized
  have hw : WS g s (xB S 0 B y) s.heap [] := ⟨hPB, va_S.rf⟩
  have hl := lv_entry ([.ref (gA g 0), .int (nI 89), .ref b]) (n := 4) (Nat.le_of_ble_eq_true rfl)
  rw [lg_entry_eq]
  generalize (lg_sl ([.ref (gA g 0), .int (nI 89), .ref b]) ++ List.replicate (4 - (lg_sl ([.ref (gA g 0), .int (nI 89), .ref b])).length) Slot.unset).toArray = ls at hl ⊢
  have hl : lv_has ls 4 [(0, .ref (gA g 0)), (1, .int (nI 89)), (2, .ref b)] := hl
  refine lv_iload_n hx hb dL_ask_0 rfl (lv_at hl 1 rfl) ?_
  refine lv_tableIn (off := 403) (tgt := 404) hx hb dL_ask_1 (by decide +kernel) (by decide +kernel) (by decide +kernel) (by decide) ?_
  refine lv_aload_n hx hb dL_ask_404 rfl (lv_at hl 0 rfl) ?_
  refine lv_iload_n hx hb dL_ask_405 rfl (lv_at hl 1 rfl) ?_
  refine lv_aload_n hx hb dL_ask_406 rfl (lv_at hl 2 rfl) ?_
  refine kx_i hw (vx_runS (As := [.ref (gA g 0), .int (nI 89), .ref b]) (rest := []) ⟨hx, hb, hml, hc.2.2.1, hc.2.2.2⟩ (mQ_isAccepted l g hfl S B y f a1 h0 _ _ hN hz b) (kw_S hc 3 q788 q789 q0 q790 rfl rfl (by decide +kernel) ⟨Nat.le_of_ble_eq_true rfl, Nat.le_of_ble_eq_true rfl⟩) (kp_v0 hk hw hv9) rfl rfl hl.1 rfl (lv_room (Nat.le_of_ble_eq_true rfl)) dL_ask_407 ⟨Nat.le_of_ble_eq_true rfl, Nat.le_of_ble_eq_true rfl⟩) (fun E ce q9 H locs he hw hq hv hE => ?_) (fun H locs he hw => ?_)
  · have hE9 := ex_X6_isAccepted E he
    simp only [List.mem_cons, List.not_mem_nil, or_false] at hE9
    rcases hE9 with rfl | rfl
    · refine cat_407_5 hc hk hTB hq hv hE ?_
      refine lv_astore_n (lv' := [(3, .ref q9), (0, .ref (gA g 0)), (1, .int (nI 89)), (2, .ref b)]) hx hb dL_ask_427 rfl hl (by decide) rfl (fun ls hl => ?_)
      refine lv_ldc (v := (-2000000005)) hx hb hc.2.2.1 (hc.2.2.2 _ q905) dL_ask_428 ?_
      refine W.widen (k := 5) (n := 30) (Nat.le_of_ble_eq_true rfl) (Nat.le_of_ble_eq_true rfl) ?_
      exact W.iret (v := (-2000000005)) hx hb hr (fun t9 ht hW => ke_i hw ht (by rw [he]; exact kX_5.symm) (if_neg (by rw [he]; exact Option.some_ne_none _)).symm) hw.2.2.2 dL_ask_430
    · refine cat_407_1 hc hk hTB hq hv hE ?_
      refine lv_astore_n (lv' := [(3, .ref q9), (0, .ref (gA g 0)), (1, .int (nI 89)), (2, .ref b)]) hx hb dL_ask_411 rfl hl (by decide) rfl (fun ls hl => ?_)
      refine lv_ldc (v := (-2000000001)) hx hb hc.2.2.1 (hc.2.2.2 _ q901) dL_ask_412 ?_
      refine W.widen (k := 5) (n := 30) (Nat.le_of_ble_eq_true rfl) (Nat.le_of_ble_eq_true rfl) ?_
      exact W.iret (v := (-2000000001)) hx hb hr (fun t9 ht hW => ke_i hw ht (by rw [he]; exact kX_1.symm) (if_neg (by rw [he]; exact Option.some_ne_none _)).symm) hw.2.2.2 dL_ask_414
  · exact W.iret (v := _) hx hb hr (fun t9 ht hW => ke_i hw ht (by rw [he]; rfl) (if_pos he).symm) hw.2.2.2 dL_ask_410
set_option maxHeartbeats 4000000 in
set_option maxRecDepth 100000 in
theorem mQ_heed (l : Launch) (g : wG) (hfl : l.stackTraces = false) (S : Nat → BT) (B : BT) (y : (Nat → Nat → Int32) × (Nat → Int64) × (Nat → UInt64)) (f : Nat → Int32) (a1 : Int32) (h0 : f 0 = a1) (n m9 : Nat) (hN : CN B n m9) (hev : ¬ S 2 0 1 < 0) : mQ l g 72 1 f (xB S 0 B y) (e_X6_heed a1 B) ((f_X6_heed a1 B).1) (xB (f_X2_keep 18 a1 0 0 0 S) 0 (f_X6_heed a1 B).2 y) := by
  intro b
  refine vx_ofW (cc := cL_asked) (maxL := 3) (ret := some .int) (by decide) rfl ?_
  intro p9 e s m args below meth c s₁ BL hml hT hv
  obtain ⟨rfl, hk, hPB, hv9⟩ := hv
  have hx := BL.exec
  have hb := BL.bytes
  have hc : CX p9 c cL_asked s _ m RL := ⟨hx, hb, findClass_of_methodNamed BL.named, fun w h => atoms_spec BL.pre w (List.mem_cons_of_mem _ h)⟩
  have hr := BL.returns
  have hlocks := BL.notSynchronized
  have hw : WS g s (xB S 0 B y) s.heap [] := ⟨hPB, va_S.rf⟩
  have hl := lv_entry ([.ref (gA g 0), .int (nI 72), .ref b]) (n := 3) (Nat.le_of_ble_eq_true rfl)
  rw [lg_entry_eq]
  generalize (lg_sl ([.ref (gA g 0), .int (nI 72), .ref b]) ++ List.replicate (3 - (lg_sl ([.ref (gA g 0), .int (nI 72), .ref b])).length) Slot.unset).toArray = ls at hl ⊢
  have hl : lv_has ls 3 [(0, .ref (gA g 0)), (1, .int (nI 72)), (2, .ref b)] := hl
  refine lv_iload_n hx hb dL_asked_0 rfl (lv_at hl 1 rfl) ?_
  refine lv_tableIn (off := 353) (tgt := 354) hx hb dL_asked_1 (by decide +kernel) (by decide +kernel) (by decide +kernel) (by decide) ?_
  refine lv_aload_n hx hb dL_asked_354 rfl (lv_at hl 0 rfl) ?_
  refine lv_aload_n hx hb dL_asked_355 rfl (lv_at hl 2 rfl) ?_
  refine lv_iconst (v := 0) hx hb dL_asked_356 (by decide) ?_
  refine k_vld (v := a1) hc hk hv9 (vp_in_nI (n := 0) (by decide) (by decide)) (by decide) h0 dL_asked_357 ?_
  refine kx_i hw (vx_runV (As := [.int a1]) (rest := []) ⟨hx, hb, hml, hc.2.2.1, hc.2.2.2⟩ (m_X6_heed l g hfl S B y a1 _ _ hN hev) (kw_V hc 1 q881 q882 q883 q1 q884 rfl rfl (by decide +kernel) ⟨Nat.le_of_ble_eq_true rfl, Nat.le_of_ble_eq_true rfl⟩) (kp_V hk hw at_G rfl) rfl rfl hl.1 rfl (lv_room (Nat.le_of_ble_eq_true rfl)) dL_asked_358 ⟨Nat.le_of_ble_eq_true rfl, Nat.le_of_ble_eq_true rfl⟩) (fun E ce q9 H locs he hw hq hv hE => ?_) (fun H locs he hw => ?_)
  · exact k_out hT hlocks hw hq hv hE he (Nat.le_of_ble_eq_true rfl) (Nat.le_of_ble_eq_true rfl)
  · refine vx_ret ?_
    refine W.widen (k := 5) (n := 30) (Nat.le_of_ble_eq_true rfl) (Nat.le_of_ble_eq_true rfl) ?_
    exact W.iret (v := _) hx hb hr (fun t9 ht hW => kz_i hw ht he rfl rfl) hw.2.2.2 dL_asked_361
set_option maxHeartbeats 4000000 in
set_option maxRecDepth 100000 in
theorem mA_heed (l : Launch) (g : wG) (hfl : l.stackTraces = false) (S : Nat → BT) (B : BT) (y : (Nat → Nat → Int32) × (Nat → Int64) × (Nat → UInt64)) (f : Nat → Int32) (a1 : Int32) (h0 : f 0 = a1) (n m9 : Nat) (hN : CN B n m9) (hev : ¬ S 2 0 1 < 0) : mA l g 72 1 f (xB S 0 B y) (e_X6_heed a1 B) ((f_X6_heed a1 B).1) (xB (f_X2_keep 18 a1 0 0 0 S) 0 (f_X6_heed a1 B).2 y) := by
  intro b
  refine va_MetW (cc := cL_ask) (maxL := 4) (ret := some .int) (by decide) rfl ?_
  intro p9 e s m args below meth c s₁ BL hml hv
  obtain ⟨rfl, hk, hPB, hv9⟩ := hv
  have hx := BL.exec
  have hb := BL.bytes
  have hc : CX p9 c cL_ask s _ m RL := ⟨hx, hb, findClass_of_methodNamed BL.named, fun w h => atoms_spec BL.pre w (List.mem_cons_of_mem _ h)⟩
  have hTB : c.exceptionTable.toList = tableOf tbA := vx_table (x := yL_ask) BL (atoms_spec (ws := wsH yL_ask cL_ask 4 (some .int) tbA) BL.pre (Cond.codeWith yL_ask cL_ask 4 (some .int) tbA) List.mem_cons_self)
  have hr := BL.returns
  have hlocks := BL.notSynchronized
  have hw : WS g s (xB S 0 B y) s.heap [] := ⟨hPB, va_S.rf⟩
  have hl := lv_entry ([.ref (gA g 0), .int (nI 72), .ref b]) (n := 4) (Nat.le_of_ble_eq_true rfl)
  rw [lg_entry_eq]
  generalize (lg_sl ([.ref (gA g 0), .int (nI 72), .ref b]) ++ List.replicate (4 - (lg_sl ([.ref (gA g 0), .int (nI 72), .ref b])).length) Slot.unset).toArray = ls at hl ⊢
  have hl : lv_has ls 4 [(0, .ref (gA g 0)), (1, .int (nI 72)), (2, .ref b)] := hl
  refine lv_iload_n hx hb dL_ask_0 rfl (lv_at hl 1 rfl) ?_
  refine lv_tableIn (off := 403) (tgt := 404) hx hb dL_ask_1 (by decide +kernel) (by decide +kernel) (by decide +kernel) (by decide) ?_
  refine lv_aload_n hx hb dL_ask_404 rfl (lv_at hl 0 rfl) ?_
  refine lv_iload_n hx hb dL_ask_405 rfl (lv_at hl 1 rfl) ?_
  refine lv_aload_n hx hb dL_ask_406 rfl (lv_at hl 2 rfl) ?_
  refine kx_i hw (vx_runS (As := [.ref (gA g 0), .int (nI 72), .ref b]) (rest := []) ⟨hx, hb, hml, hc.2.2.1, hc.2.2.2⟩ (mQ_heed l g hfl S B y f a1 h0 _ _ hN hev b) (kw_S hc 3 q788 q789 q0 q790 rfl rfl (by decide +kernel) ⟨Nat.le_of_ble_eq_true rfl, Nat.le_of_ble_eq_true rfl⟩) (kp_v0 hk hw hv9) rfl rfl hl.1 rfl (lv_room (Nat.le_of_ble_eq_true rfl)) dL_ask_407 ⟨Nat.le_of_ble_eq_true rfl, Nat.le_of_ble_eq_true rfl⟩) (fun E ce q9 H locs he hw hq hv hE => ?_) (fun H locs he hw => ?_)
  · have hE9 := ex_X6_heed E he
    simp only [List.mem_cons, List.not_mem_nil, or_false] at hE9
    rcases hE9 with rfl | rfl
    · refine cat_407_4 hc hk hTB hq hv hE ?_
      refine lv_astore_n (lv' := [(3, .ref q9), (0, .ref (gA g 0)), (1, .int (nI 72)), (2, .ref b)]) hx hb dL_ask_423 rfl hl (by decide) rfl (fun ls hl => ?_)
      refine lv_ldc (v := (-2000000004)) hx hb hc.2.2.1 (hc.2.2.2 _ q904) dL_ask_424 ?_
      refine W.widen (k := 5) (n := 30) (Nat.le_of_ble_eq_true rfl) (Nat.le_of_ble_eq_true rfl) ?_
      exact W.iret (v := (-2000000004)) hx hb hr (fun t9 ht hW => ke_i hw ht (by rw [he]; exact kX_4.symm) (if_neg (by rw [he]; exact Option.some_ne_none _)).symm) hw.2.2.2 dL_ask_426
    · refine cat_407_1 hc hk hTB hq hv hE ?_
      refine lv_astore_n (lv' := [(3, .ref q9), (0, .ref (gA g 0)), (1, .int (nI 72)), (2, .ref b)]) hx hb dL_ask_411 rfl hl (by decide) rfl (fun ls hl => ?_)
      refine lv_ldc (v := (-2000000001)) hx hb hc.2.2.1 (hc.2.2.2 _ q901) dL_ask_412 ?_
      refine W.widen (k := 5) (n := 30) (Nat.le_of_ble_eq_true rfl) (Nat.le_of_ble_eq_true rfl) ?_
      exact W.iret (v := (-2000000001)) hx hb hr (fun t9 ht hW => ke_i hw ht (by rw [he]; exact kX_1.symm) (if_neg (by rw [he]; exact Option.some_ne_none _)).symm) hw.2.2.2 dL_ask_414
  · exact W.iret (v := _) hx hb hr (fun t9 ht hW => ke_i hw ht (by rw [he]; rfl) (if_pos he).symm) hw.2.2.2 dL_ask_410
set_option maxHeartbeats 4000000 in
set_option maxRecDepth 100000 in
theorem mQ_followUp (l : Launch) (g : wG) (hfl : l.stackTraces = false) (S : Nat → BT) (B : BT) (y : (Nat → Nat → Int32) × (Nat → Int64) × (Nat → UInt64)) (f : Nat → Int32) (a1 : Int32) (h0 : f 0 = a1) (n m9 : Nat) (hN : CN B n m9) (hev : ¬ S 2 0 1 < 0) : mQ l g 70 1 f (xB S 0 B y) (e_X6_followUp a1 B) ((f_X6_followUp a1 B).1) (xB (f_X2_keep 19 a1 0 0 0 S) 0 (f_X6_followUp a1 B).2 y) := by
  intro b
  refine vx_ofW (cc := cL_asked) (maxL := 3) (ret := some .int) (by decide) rfl ?_
  intro p9 e s m args below meth c s₁ BL hml hT hv
  obtain ⟨rfl, hk, hPB, hv9⟩ := hv
  have hx := BL.exec
  have hb := BL.bytes
  have hc : CX p9 c cL_asked s _ m RL := ⟨hx, hb, findClass_of_methodNamed BL.named, fun w h => atoms_spec BL.pre w (List.mem_cons_of_mem _ h)⟩
  have hr := BL.returns
  have hlocks := BL.notSynchronized
  have hw : WS g s (xB S 0 B y) s.heap [] := ⟨hPB, va_S.rf⟩
  have hl := lv_entry ([.ref (gA g 0), .int (nI 70), .ref b]) (n := 3) (Nat.le_of_ble_eq_true rfl)
  rw [lg_entry_eq]
  generalize (lg_sl ([.ref (gA g 0), .int (nI 70), .ref b]) ++ List.replicate (3 - (lg_sl ([.ref (gA g 0), .int (nI 70), .ref b])).length) Slot.unset).toArray = ls at hl ⊢
  have hl : lv_has ls 3 [(0, .ref (gA g 0)), (1, .int (nI 70)), (2, .ref b)] := hl
  refine lv_iload_n hx hb dL_asked_0 rfl (lv_at hl 1 rfl) ?_
  refine lv_tableIn (off := 361) (tgt := 362) hx hb dL_asked_1 (by decide +kernel) (by decide +kernel) (by decide +kernel) (by decide) ?_
  refine lv_aload_n hx hb dL_asked_362 rfl (lv_at hl 0 rfl) ?_
  refine lv_aload_n hx hb dL_asked_363 rfl (lv_at hl 2 rfl) ?_
  refine lv_iconst (v := 0) hx hb dL_asked_364 (by decide) ?_
  refine k_vld (v := a1) hc hk hv9 (vp_in_nI (n := 0) (by decide) (by decide)) (by decide) h0 dL_asked_365 ?_
  refine kx_i hw (vx_runV (As := [.int a1]) (rest := []) ⟨hx, hb, hml, hc.2.2.1, hc.2.2.2⟩ (m_X6_followUp l g hfl S B y a1 _ _ hN hev) (kw_V hc 1 q886 q887 q888 q1 q889 rfl rfl (by decide +kernel) ⟨Nat.le_of_ble_eq_true rfl, Nat.le_of_ble_eq_true rfl⟩) (kp_V hk hw at_G rfl) rfl rfl hl.1 rfl (lv_room (Nat.le_of_ble_eq_true rfl)) dL_asked_366 ⟨Nat.le_of_ble_eq_true rfl, Nat.le_of_ble_eq_true rfl⟩) (fun E ce q9 H locs he hw hq hv hE => ?_) (fun H locs he hw => ?_)
  · exact k_out hT hlocks hw hq hv hE he (Nat.le_of_ble_eq_true rfl) (Nat.le_of_ble_eq_true rfl)
  · refine vx_ret ?_
    refine W.widen (k := 5) (n := 30) (Nat.le_of_ble_eq_true rfl) (Nat.le_of_ble_eq_true rfl) ?_
    exact W.iret (v := _) hx hb hr (fun t9 ht hW => kz_i hw ht he rfl rfl) hw.2.2.2 dL_asked_369
set_option maxHeartbeats 4000000 in
set_option maxRecDepth 100000 in
theorem mA_followUp (l : Launch) (g : wG) (hfl : l.stackTraces = false) (S : Nat → BT) (B : BT) (y : (Nat → Nat → Int32) × (Nat → Int64) × (Nat → UInt64)) (f : Nat → Int32) (a1 : Int32) (h0 : f 0 = a1) (n m9 : Nat) (hN : CN B n m9) (hev : ¬ S 2 0 1 < 0) : mA l g 70 1 f (xB S 0 B y) (e_X6_followUp a1 B) ((f_X6_followUp a1 B).1) (xB (f_X2_keep 19 a1 0 0 0 S) 0 (f_X6_followUp a1 B).2 y) := by
  intro b
  refine va_MetW (cc := cL_ask) (maxL := 4) (ret := some .int) (by decide) rfl ?_
  intro p9 e s m args below meth c s₁ BL hml hv
  obtain ⟨rfl, hk, hPB, hv9⟩ := hv
  have hx := BL.exec
  have hb := BL.bytes
  have hc : CX p9 c cL_ask s _ m RL := ⟨hx, hb, findClass_of_methodNamed BL.named, fun w h => atoms_spec BL.pre w (List.mem_cons_of_mem _ h)⟩
  have hTB : c.exceptionTable.toList = tableOf tbA := vx_table (x := yL_ask) BL (atoms_spec (ws := wsH yL_ask cL_ask 4 (some .int) tbA) BL.pre (Cond.codeWith yL_ask cL_ask 4 (some .int) tbA) List.mem_cons_self)
  have hr := BL.returns
  have hlocks := BL.notSynchronized
  have hw : WS g s (xB S 0 B y) s.heap [] := ⟨hPB, va_S.rf⟩
  have hl := lv_entry ([.ref (gA g 0), .int (nI 70), .ref b]) (n := 4) (Nat.le_of_ble_eq_true rfl)
  rw [lg_entry_eq]
  generalize (lg_sl ([.ref (gA g 0), .int (nI 70), .ref b]) ++ List.replicate (4 - (lg_sl ([.ref (gA g 0), .int (nI 70), .ref b])).length) Slot.unset).toArray = ls at hl ⊢
  have hl : lv_has ls 4 [(0, .ref (gA g 0)), (1, .int (nI 70)), (2, .ref b)] := hl
  refine lv_iload_n hx hb dL_ask_0 rfl (lv_at hl 1 rfl) ?_
  refine lv_tableIn (off := 403) (tgt := 404) hx hb dL_ask_1 (by decide +kernel) (by decide +kernel) (by decide +kernel) (by decide) ?_
  refine lv_aload_n hx hb dL_ask_404 rfl (lv_at hl 0 rfl) ?_
  refine lv_iload_n hx hb dL_ask_405 rfl (lv_at hl 1 rfl) ?_
  refine lv_aload_n hx hb dL_ask_406 rfl (lv_at hl 2 rfl) ?_
  refine kx_i hw (vx_runS (As := [.ref (gA g 0), .int (nI 70), .ref b]) (rest := []) ⟨hx, hb, hml, hc.2.2.1, hc.2.2.2⟩ (mQ_followUp l g hfl S B y f a1 h0 _ _ hN hev b) (kw_S hc 3 q788 q789 q0 q790 rfl rfl (by decide +kernel) ⟨Nat.le_of_ble_eq_true rfl, Nat.le_of_ble_eq_true rfl⟩) (kp_v0 hk hw hv9) rfl rfl hl.1 rfl (lv_room (Nat.le_of_ble_eq_true rfl)) dL_ask_407 ⟨Nat.le_of_ble_eq_true rfl, Nat.le_of_ble_eq_true rfl⟩) (fun E ce q9 H locs he hw hq hv hE => ?_) (fun H locs he hw => ?_)
  · have hE9 := ex_X6_followUp E he
    simp only [List.mem_cons, List.not_mem_nil, or_false] at hE9
    rcases hE9 with rfl | rfl
    · refine cat_407_4 hc hk hTB hq hv hE ?_
      refine lv_astore_n (lv' := [(3, .ref q9), (0, .ref (gA g 0)), (1, .int (nI 70)), (2, .ref b)]) hx hb dL_ask_423 rfl hl (by decide) rfl (fun ls hl => ?_)
      refine lv_ldc (v := (-2000000004)) hx hb hc.2.2.1 (hc.2.2.2 _ q904) dL_ask_424 ?_
      refine W.widen (k := 5) (n := 30) (Nat.le_of_ble_eq_true rfl) (Nat.le_of_ble_eq_true rfl) ?_
      exact W.iret (v := (-2000000004)) hx hb hr (fun t9 ht hW => ke_i hw ht (by rw [he]; exact kX_4.symm) (if_neg (by rw [he]; exact Option.some_ne_none _)).symm) hw.2.2.2 dL_ask_426
    · refine cat_407_1 hc hk hTB hq hv hE ?_
      refine lv_astore_n (lv' := [(3, .ref q9), (0, .ref (gA g 0)), (1, .int (nI 70)), (2, .ref b)]) hx hb dL_ask_411 rfl hl (by decide) rfl (fun ls hl => ?_)
      refine lv_ldc (v := (-2000000001)) hx hb hc.2.2.1 (hc.2.2.2 _ q901) dL_ask_412 ?_
      refine W.widen (k := 5) (n := 30) (Nat.le_of_ble_eq_true rfl) (Nat.le_of_ble_eq_true rfl) ?_
      exact W.iret (v := (-2000000001)) hx hb hr (fun t9 ht hW => ke_i hw ht (by rw [he]; exact kX_1.symm) (if_neg (by rw [he]; exact Option.some_ne_none _)).symm) hw.2.2.2 dL_ask_414
  · exact W.iret (v := _) hx hb hr (fun t9 ht hW => ke_i hw ht (by rw [he]; rfl) (if_pos he).symm) hw.2.2.2 dL_ask_410
set_option maxHeartbeats 4000000 in
set_option maxRecDepth 100000 in
theorem mQ_withdraw (l : Launch) (g : wG) (hfl : l.stackTraces = false) (S : Nat → BT) (B : BT) (y : (Nat → Nat → Int32) × (Nat → Int64) × (Nat → UInt64)) (f : Nat → Int32) (a1 : Int32) (h0 : f 0 = a1) (n m9 : Nat) (hN : CN B n m9) (hev : ¬ S 2 0 1 < 0) : mQ l g 87 1 f (xB S 0 B y) (e_X6_withdraw a1 B) ((f_X6_withdraw a1 B).1) (xB (f_X2_keep 20 a1 0 0 0 S) 0 (f_X6_withdraw a1 B).2 y) := by
  intro b
  refine vx_ofW (cc := cL_asked) (maxL := 3) (ret := some .int) (by decide) rfl ?_
  intro p9 e s m args below meth c s₁ BL hml hT hv
  obtain ⟨rfl, hk, hPB, hv9⟩ := hv
  have hx := BL.exec
  have hb := BL.bytes
  have hc : CX p9 c cL_asked s _ m RL := ⟨hx, hb, findClass_of_methodNamed BL.named, fun w h => atoms_spec BL.pre w (List.mem_cons_of_mem _ h)⟩
  have hr := BL.returns
  have hlocks := BL.notSynchronized
  have hw : WS g s (xB S 0 B y) s.heap [] := ⟨hPB, va_S.rf⟩
  have hl := lv_entry ([.ref (gA g 0), .int (nI 87), .ref b]) (n := 3) (Nat.le_of_ble_eq_true rfl)
  rw [lg_entry_eq]
  generalize (lg_sl ([.ref (gA g 0), .int (nI 87), .ref b]) ++ List.replicate (3 - (lg_sl ([.ref (gA g 0), .int (nI 87), .ref b])).length) Slot.unset).toArray = ls at hl ⊢
  have hl : lv_has ls 3 [(0, .ref (gA g 0)), (1, .int (nI 87)), (2, .ref b)] := hl
  refine lv_iload_n hx hb dL_asked_0 rfl (lv_at hl 1 rfl) ?_
  refine lv_tableIn (off := 369) (tgt := 370) hx hb dL_asked_1 (by decide +kernel) (by decide +kernel) (by decide +kernel) (by decide) ?_
  refine lv_aload_n hx hb dL_asked_370 rfl (lv_at hl 0 rfl) ?_
  refine lv_aload_n hx hb dL_asked_371 rfl (lv_at hl 2 rfl) ?_
  refine lv_iconst (v := 0) hx hb dL_asked_372 (by decide) ?_
  refine k_vld (v := a1) hc hk hv9 (vp_in_nI (n := 0) (by decide) (by decide)) (by decide) h0 dL_asked_373 ?_
  refine kx_i hw (vx_runV (As := [.int a1]) (rest := []) ⟨hx, hb, hml, hc.2.2.1, hc.2.2.2⟩ (m_X6_withdraw l g hfl S B y a1 _ _ hN hev) (kw_V hc 1 q891 q892 q893 q1 q894 rfl rfl (by decide +kernel) ⟨Nat.le_of_ble_eq_true rfl, Nat.le_of_ble_eq_true rfl⟩) (kp_V hk hw at_G rfl) rfl rfl hl.1 rfl (lv_room (Nat.le_of_ble_eq_true rfl)) dL_asked_374 ⟨Nat.le_of_ble_eq_true rfl, Nat.le_of_ble_eq_true rfl⟩) (fun E ce q9 H locs he hw hq hv hE => ?_) (fun H locs he hw => ?_)
  · exact k_out hT hlocks hw hq hv hE he (Nat.le_of_ble_eq_true rfl) (Nat.le_of_ble_eq_true rfl)
  · refine vx_ret ?_
    refine W.widen (k := 5) (n := 30) (Nat.le_of_ble_eq_true rfl) (Nat.le_of_ble_eq_true rfl) ?_
    exact W.iret (v := _) hx hb hr (fun t9 ht hW => kz_i hw ht he rfl rfl) hw.2.2.2 dL_asked_377
set_option maxHeartbeats 4000000 in
set_option maxRecDepth 100000 in
theorem mA_withdraw (l : Launch) (g : wG) (hfl : l.stackTraces = false) (S : Nat → BT) (B : BT) (y : (Nat → Nat → Int32) × (Nat → Int64) × (Nat → UInt64)) (f : Nat → Int32) (a1 : Int32) (h0 : f 0 = a1) (n m9 : Nat) (hN : CN B n m9) (hev : ¬ S 2 0 1 < 0) : mA l g 87 1 f (xB S 0 B y) (e_X6_withdraw a1 B) ((f_X6_withdraw a1 B).1) (xB (f_X2_keep 20 a1 0 0 0 S) 0 (f_X6_withdraw a1 B).2 y) := by
  intro b
  refine va_MetW (cc := cL_ask) (maxL := 4) (ret := some .int) (by decide) rfl ?_
  intro p9 e s m args below meth c s₁ BL hml hv
  obtain ⟨rfl, hk, hPB, hv9⟩ := hv
  have hx := BL.exec
  have hb := BL.bytes
  have hc : CX p9 c cL_ask s _ m RL := ⟨hx, hb, findClass_of_methodNamed BL.named, fun w h => atoms_spec BL.pre w (List.mem_cons_of_mem _ h)⟩
  have hTB : c.exceptionTable.toList = tableOf tbA := vx_table (x := yL_ask) BL (atoms_spec (ws := wsH yL_ask cL_ask 4 (some .int) tbA) BL.pre (Cond.codeWith yL_ask cL_ask 4 (some .int) tbA) List.mem_cons_self)
  have hr := BL.returns
  have hlocks := BL.notSynchronized
  have hw : WS g s (xB S 0 B y) s.heap [] := ⟨hPB, va_S.rf⟩
  have hl := lv_entry ([.ref (gA g 0), .int (nI 87), .ref b]) (n := 4) (Nat.le_of_ble_eq_true rfl)
  rw [lg_entry_eq]
  generalize (lg_sl ([.ref (gA g 0), .int (nI 87), .ref b]) ++ List.replicate (4 - (lg_sl ([.ref (gA g 0), .int (nI 87), .ref b])).length) Slot.unset).toArray = ls at hl ⊢
  have hl : lv_has ls 4 [(0, .ref (gA g 0)), (1, .int (nI 87)), (2, .ref b)] := hl
  refine lv_iload_n hx hb dL_ask_0 rfl (lv_at hl 1 rfl) ?_
  refine lv_tableIn (off := 403) (tgt := 404) hx hb dL_ask_1 (by decide +kernel) (by decide +kernel) (by decide +kernel) (by decide) ?_
  refine lv_aload_n hx hb dL_ask_404 rfl (lv_at hl 0 rfl) ?_
  refine lv_iload_n hx hb dL_ask_405 rfl (lv_at hl 1 rfl) ?_
  refine lv_aload_n hx hb dL_ask_406 rfl (lv_at hl 2 rfl) ?_
  refine kx_i hw (vx_runS (As := [.ref (gA g 0), .int (nI 87), .ref b]) (rest := []) ⟨hx, hb, hml, hc.2.2.1, hc.2.2.2⟩ (mQ_withdraw l g hfl S B y f a1 h0 _ _ hN hev b) (kw_S hc 3 q788 q789 q0 q790 rfl rfl (by decide +kernel) ⟨Nat.le_of_ble_eq_true rfl, Nat.le_of_ble_eq_true rfl⟩) (kp_v0 hk hw hv9) rfl rfl hl.1 rfl (lv_room (Nat.le_of_ble_eq_true rfl)) dL_ask_407 ⟨Nat.le_of_ble_eq_true rfl, Nat.le_of_ble_eq_true rfl⟩) (fun E ce q9 H locs he hw hq hv hE => ?_) (fun H locs he hw => ?_)
  · have hE9 := ex_X6_withdraw E he
    simp only [List.mem_cons, List.not_mem_nil, or_false] at hE9
    rcases hE9 with rfl | rfl
    · refine cat_407_4 hc hk hTB hq hv hE ?_
      refine lv_astore_n (lv' := [(3, .ref q9), (0, .ref (gA g 0)), (1, .int (nI 87)), (2, .ref b)]) hx hb dL_ask_423 rfl hl (by decide) rfl (fun ls hl => ?_)
      refine lv_ldc (v := (-2000000004)) hx hb hc.2.2.1 (hc.2.2.2 _ q904) dL_ask_424 ?_
      refine W.widen (k := 5) (n := 30) (Nat.le_of_ble_eq_true rfl) (Nat.le_of_ble_eq_true rfl) ?_
      exact W.iret (v := (-2000000004)) hx hb hr (fun t9 ht hW => ke_i hw ht (by rw [he]; exact kX_4.symm) (if_neg (by rw [he]; exact Option.some_ne_none _)).symm) hw.2.2.2 dL_ask_426
    · refine cat_407_1 hc hk hTB hq hv hE ?_
      refine lv_astore_n (lv' := [(3, .ref q9), (0, .ref (gA g 0)), (1, .int (nI 87)), (2, .ref b)]) hx hb dL_ask_411 rfl hl (by decide) rfl (fun ls hl => ?_)
      refine lv_ldc (v := (-2000000001)) hx hb hc.2.2.1 (hc.2.2.2 _ q901) dL_ask_412 ?_
      refine W.widen (k := 5) (n := 30) (Nat.le_of_ble_eq_true rfl) (Nat.le_of_ble_eq_true rfl) ?_
      exact W.iret (v := (-2000000001)) hx hb hr (fun t9 ht hW => ke_i hw ht (by rw [he]; exact kX_1.symm) (if_neg (by rw [he]; exact Option.some_ne_none _)).symm) hw.2.2.2 dL_ask_414
  · exact W.iret (v := _) hx hb hr (fun t9 ht hW => ke_i hw ht (by rw [he]; rfl) (if_pos he).symm) hw.2.2.2 dL_ask_410
set_option maxHeartbeats 4000000 in
set_option maxRecDepth 100000 in
theorem mQ_days (l : Launch) (g : wG) (hfl : l.stackTraces = false) (S : Nat → BT) (B : BT) (y : (Nat → Nat → Int32) × (Nat → Int64) × (Nat → UInt64)) (f : Nat → Int32) (a1 : Int32) (h0 : f 0 = a1) (n m9 : Nat) (hN : CN B n m9) : mQ l g 100 1 f (xB S 0 B y) (e_X6_days a1 B) (f_X6_days a1 B) (xB S 0 B y) := by
  intro b
  refine vx_ofW (cc := cL_asked) (maxL := 3) (ret := some .int) (by decide) rfl ?_
  intro p9 e s m args below meth c s₁ BL hml hT hv
  obtain ⟨rfl, hk, hPB, hv9⟩ := hv
  have hx := BL.exec
  have hb := BL.bytes
  have hc : CX p9 c cL_asked s _ m RL := ⟨hx, hb, findClass_of_methodNamed BL.named, fun w h => atoms_spec BL.pre w (List.mem_cons_of_mem _ h)⟩
  have hr := BL.returns
  have hlocks := BL.notSynchronized
  have hw : WS g s (xB S 0 B y) s.heap [] := ⟨hPB, va_S.rf⟩
  have hl := lv_entry ([.ref (gA g 0), .int (nI 100), .ref b]) (n := 3) (Nat.le_of_ble_eq_true rfl)
  rw [lg_entry_eq]
  generalize (lg_sl ([.ref (gA g 0), .int (nI 100), .ref b]) ++ List.replicate (3 - (lg_sl ([.ref (gA g 0), .int (nI 100), .ref b])).length) Slot.unset).toArray = ls at hl ⊢
  have hl : lv_has ls 3 [(0, .ref (gA g 0)), (1, .int (nI 100)), (2, .ref b)] := hl
  refine lv_iload_n hx hb dL_asked_0 rfl (lv_at hl 1 rfl) ?_
  refine lv_tableIn (off := 377) (tgt := 378) hx hb dL_asked_1 (by decide +kernel) (by decide +kernel) (by decide +kernel) (by decide) ?_
  refine lv_aload_n hx hb dL_asked_378 rfl (lv_at hl 0 rfl) ?_
  refine lv_aload_n hx hb dL_asked_379 rfl (lv_at hl 2 rfl) ?_
  refine lv_iconst (v := 0) hx hb dL_asked_380 (by decide) ?_
  refine k_vld (v := a1) hc hk hv9 (vp_in_nI (n := 0) (by decide) (by decide)) (by decide) h0 dL_asked_381 ?_
  refine kx_i hw (vx_runV (As := [.int a1]) (rest := []) ⟨hx, hb, hml, hc.2.2.1, hc.2.2.2⟩ (m_X6_days l g hfl S B y a1 _ _ hN) (kw_V hc 1 q897 q898 q899 q1 q900 rfl rfl (by decide +kernel) ⟨Nat.le_of_ble_eq_true rfl, Nat.le_of_ble_eq_true rfl⟩) (kp_V hk hw at_G rfl) rfl rfl hl.1 rfl (lv_room (Nat.le_of_ble_eq_true rfl)) dL_asked_382 ⟨Nat.le_of_ble_eq_true rfl, Nat.le_of_ble_eq_true rfl⟩) (fun E ce q9 H locs he hw hq hv hE => ?_) (fun H locs he hw => ?_)
  · exact k_out hT hlocks hw hq hv hE he (Nat.le_of_ble_eq_true rfl) (Nat.le_of_ble_eq_true rfl)
  · refine vx_ret ?_
    refine W.widen (k := 5) (n := 30) (Nat.le_of_ble_eq_true rfl) (Nat.le_of_ble_eq_true rfl) ?_
    exact W.iret (v := _) hx hb hr (fun t9 ht hW => kz_i hw ht he rfl rfl) hw.2.2.2 dL_asked_385
set_option maxHeartbeats 4000000 in
set_option maxRecDepth 100000 in
theorem mA_days (l : Launch) (g : wG) (hfl : l.stackTraces = false) (S : Nat → BT) (B : BT) (y : (Nat → Nat → Int32) × (Nat → Int64) × (Nat → UInt64)) (f : Nat → Int32) (a1 : Int32) (h0 : f 0 = a1) (n m9 : Nat) (hN : CN B n m9) : mA l g 100 1 f (xB S 0 B y) (e_X6_days a1 B) (f_X6_days a1 B) (xB S 0 B y) := by
  intro b
  refine va_MetW (cc := cL_ask) (maxL := 4) (ret := some .int) (by decide) rfl ?_
  intro p9 e s m args below meth c s₁ BL hml hv
  obtain ⟨rfl, hk, hPB, hv9⟩ := hv
  have hx := BL.exec
  have hb := BL.bytes
  have hc : CX p9 c cL_ask s _ m RL := ⟨hx, hb, findClass_of_methodNamed BL.named, fun w h => atoms_spec BL.pre w (List.mem_cons_of_mem _ h)⟩
  have hTB : c.exceptionTable.toList = tableOf tbA := vx_table (x := yL_ask) BL (atoms_spec (ws := wsH yL_ask cL_ask 4 (some .int) tbA) BL.pre (Cond.codeWith yL_ask cL_ask 4 (some .int) tbA) List.mem_cons_self)
  have hr := BL.returns
  have hlocks := BL.notSynchronized
  have hw : WS g s (xB S 0 B y) s.heap [] := ⟨hPB, va_S.rf⟩
  have hl := lv_entry ([.ref (gA g 0), .int (nI 100), .ref b]) (n := 4) (Nat.le_of_ble_eq_true rfl)
  rw [lg_entry_eq]
  generalize (lg_sl ([.ref (gA g 0), .int (nI 100), .ref b]) ++ List.replicate (4 - (lg_sl ([.ref (gA g 0), .int (nI 100), .ref b])).length) Slot.unset).toArray = ls at hl ⊢
  have hl : lv_has ls 4 [(0, .ref (gA g 0)), (1, .int (nI 100)), (2, .ref b)] := hl
  refine lv_iload_n hx hb dL_ask_0 rfl (lv_at hl 1 rfl) ?_
  refine lv_tableIn (off := 403) (tgt := 404) hx hb dL_ask_1 (by decide +kernel) (by decide +kernel) (by decide +kernel) (by decide) ?_
  refine lv_aload_n hx hb dL_ask_404 rfl (lv_at hl 0 rfl) ?_
  refine lv_iload_n hx hb dL_ask_405 rfl (lv_at hl 1 rfl) ?_
  refine lv_aload_n hx hb dL_ask_406 rfl (lv_at hl 2 rfl) ?_
  refine kx_i hw (vx_runS (As := [.ref (gA g 0), .int (nI 100), .ref b]) (rest := []) ⟨hx, hb, hml, hc.2.2.1, hc.2.2.2⟩ (mQ_days l g hfl S B y f a1 h0 _ _ hN b) (kw_S hc 3 q788 q789 q0 q790 rfl rfl (by decide +kernel) ⟨Nat.le_of_ble_eq_true rfl, Nat.le_of_ble_eq_true rfl⟩) (kp_v0 hk hw hv9) rfl rfl hl.1 rfl (lv_room (Nat.le_of_ble_eq_true rfl)) dL_ask_407 ⟨Nat.le_of_ble_eq_true rfl, Nat.le_of_ble_eq_true rfl⟩) (fun E ce q9 H locs he hw hq hv hE => ?_) (fun H locs he hw => ?_)
  · have hE9 := ex_X6_days E he
    simp only [List.mem_cons, List.not_mem_nil, or_false] at hE9
    rcases hE9 with rfl
    refine cat_407_1 hc hk hTB hq hv hE ?_
    refine lv_astore_n (lv' := [(3, .ref q9), (0, .ref (gA g 0)), (1, .int (nI 100)), (2, .ref b)]) hx hb dL_ask_411 rfl hl (by decide) rfl (fun ls hl => ?_)
    refine lv_ldc (v := (-2000000001)) hx hb hc.2.2.1 (hc.2.2.2 _ q901) dL_ask_412 ?_
    refine W.widen (k := 5) (n := 30) (Nat.le_of_ble_eq_true rfl) (Nat.le_of_ble_eq_true rfl) ?_
    exact W.iret (v := (-2000000001)) hx hb hr (fun t9 ht hW => ke_i hw ht (by rw [he]; exact kX_1.symm) (if_neg (by rw [he]; exact Option.some_ne_none _)).symm) hw.2.2.2 dL_ask_414
  · exact W.iret (v := _) hx hb hr (fun t9 ht hW => ke_i hw ht (by rw [he]; rfl) (if_pos he).symm) hw.2.2.2 dL_ask_410
