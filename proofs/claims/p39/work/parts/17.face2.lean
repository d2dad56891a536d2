/-! the face, second part -/
theorem ok_X0_lacksAnswer {i1 : Nat} {B : BT} : okz (f_X0_lacksAnswer i1 B) := by
  unfold f_X0_lacksAnswer
  (repeat' split) <;> exact ⟨by decide +kernel, by decide +kernel, by decide +kernel⟩
def f_X6_countState (a1 : Int32) (B : BT) : Int32 :=
  (if 0 ≤ (ixB 0 a1) then f_X0_countStanding a1 B else 0)
def e_X6_countState (a1 : Int32) (B : BT) : Option String :=
  (if 0 ≤ (ixB 0 a1) then none else some "java/lang/IllegalArgumentException")
set_option maxHeartbeats 4000000 in
set_option maxRecDepth 100000 in
theorem m_X6_countState (l : Launch) (g : wG) (hfl : l.stackTraces = false) (S : Nat → BT) (B : BT) (y : (Nat → Nat → Int32) × (Nat → Int64) × (Nat → UInt64)) (a1 : Int32) (n m9 : Nat) (hN : CN B n m9) : xI l yX6_countState cX6_countState 2 (some .int) ({ frames := 6, cells := 1, slots := 6, locals := 100 } : Room) 1 6 g (xB S 0 B y) [.ref (gA g 0), .int a1] (e_X6_countState a1 B) (f_X6_countState a1 B) (xB S 0 B y) := by
  refine vx_ofW (cc := cX6_countState) (maxL := 2) (ret := some .int) (by decide) rfl ?_
  intro p9 e s m args below meth c s₁ BL hml hT hv
  obtain ⟨rfl, hk, hPB⟩ := hv
  have hx := BL.exec
  have hb := BL.bytes
  have hc : CX p9 c cX6_countState s _ m RX6 := ⟨hx, hb, findClass_of_methodNamed BL.named, fun w h => atoms_spec BL.pre w (List.mem_cons_of_mem _ h)⟩
  have hr := BL.returns
  have hlocks := BL.notSynchronized
  have hw : WS g s (xB S 0 B y) s.heap [] := ⟨hPB, va_S.rf⟩
  have hl := lv_entry ([.ref (gA g 0), .int a1]) (n := 2) (Nat.le_of_ble_eq_true rfl)
  rw [lg_entry_eq]
  generalize (lg_sl ([.ref (gA g 0), .int a1]) ++ List.replicate (2 - (lg_sl ([.ref (gA g 0), .int a1])).length) Slot.unset).toArray = ls at hl ⊢
  have hl : lv_has ls 2 [(0, .ref (gA g 0)), (1, .int a1)] := hl
  obtain ⟨adK, adV, hSS, hR0, hR1, hR2⟩ := hk.2.2.2.2.2.2.2.2.2
  refine va_ldcS hx hb hc.2.2.1 hR0 dX6_countState_0 ?_
  refine lv_iload_n hx hb dX6_countState_2 rfl (lv_at hl 1 rfl) ?_
  refine kc_i hw (va_runV (As := [.int a1]) (rest := []) ⟨hx, hb, hml, hc.2.2.1, hc.2.2.2⟩ (m_J0_indexOf_0f7a4 l g (xB S 0 B y) 0 (adK 0) (adV 0) (by decide) a1) (kw_V hc 1 q488 q332 q333 q13 q334 rfl rfl (by decide +kernel) ⟨Nat.le_of_ble_eq_true rfl, Nat.le_of_ble_eq_true rfl⟩) (kpS_V SR.mv hk hw (hSS.1 0 (by decide)) (hSS.1 0 (by decide))) rfl rfl hl.1 rfl (lv_room (Nat.le_of_ble_eq_true rfl)) dX6_countState_3 ⟨Nat.le_of_ble_eq_true rfl, Nat.le_of_ble_eq_true rfl⟩) (fun H locs hw => ?_)
  refine lv_if_ge (tgt := 19) hx hb dX6_countState_6 (by decide) (fun h1 => ?_) (fun h1 => ?_)
  · refine lv_aload_n hx hb dX6_countState_19 rfl (lv_at hl 0 rfl) ?_
    refine k_get hc hk hw at_G rfl iX6 0 (by decide) q238 (v := .ref (gA g (jB 0))) rfl dX6_countState_20 ?_
    refine lv_iload_n hx hb dX6_countState_23 rfl (lv_at hl 1 rfl) ?_
    refine kc_i hw (va_runVN (As := [.int a1]) (rest := []) ⟨hx, hb, hml, hc.2.2.1, hc.2.2.2⟩ (m_X0_countStanding l g S 0 B y (by decide : 0 < 2) a1 _ _ hN) ⟨kw_N hc hk 1 nq740 q2 q743 rfl rfl (by decide +kernel) ⟨Nat.le_of_ble_eq_true rfl, Nat.le_of_ble_eq_true rfl⟩, hc.2.2.2 _ q742, hc.2.2.2 _ qs48⟩ (kp_V hk hw (bt_B (by decide : 0 < 2)) rfl) rfl rfl hl.1 rfl (lv_room (Nat.le_of_ble_eq_true rfl)) dX6_countState_24 ⟨Nat.le_of_ble_eq_true rfl, Nat.le_of_ble_eq_true rfl⟩) (fun H locs hw => ?_)
    refine vx_ret ?_
    refine W.widen (k := 1) (n := 6) (Nat.le_of_ble_eq_true rfl) (Nat.le_of_ble_eq_true rfl) ?_
    exact W.iret (v := f_X0_countStanding a1 B) hx hb hr (fun t9 ht hW => kz_i hw ht (by simp only [e_X6_countState, if_pos h1]) (by simp only [f_X6_countState, if_pos h1]) rfl) hw.2.2.2 dX6_countState_27
  · exact k_throwS (text := "there is no such state") hc hk hw hfl hT hlocks hml hl (by decide) tw_97_101 (by decide) dX6_countState_9 dX6_countState_12 dX6_countState_13 dX6_countState_15 dX6_countState_18 (Nat.le_of_ble_eq_true rfl) (Nat.le_of_ble_eq_true rfl) (Nat.le_of_ble_eq_true rfl) (Nat.le_of_ble_eq_true rfl) (by simp only [e_X6_countState, if_neg h1]) (Nat.le_of_ble_eq_true rfl) (Nat.le_of_ble_eq_true rfl)
def f_X6_countOf (a1 : Int32) (B : BT) : Int32 :=
  (if e_X6_requireRange a1 0 49 = none then f_X0_countTold a1 B else 0)
def e_X6_countOf (a1 : Int32) (B : BT) : Option String :=
  (if e_X6_requireRange a1 0 49 = none then none else e_X6_requireRange a1 0 49)
set_option maxHeartbeats 4000000 in
set_option maxRecDepth 100000 in
theorem m_X6_countOf (l : Launch) (g : wG) (hfl : l.stackTraces = false) (S : Nat → BT) (B : BT) (y : (Nat → Nat → Int32) × (Nat → Int64) × (Nat → UInt64)) (a1 : Int32) (n m9 : Nat) (hN : CN B n m9) : xI l yX6_countOf cX6_countOf 2 (some .int) ({ frames := 7, cells := 1, slots := 6, locals := 123 } : Room) 1 6 g (xB S 0 B y) [.ref (gA g 0), .int a1] (e_X6_countOf a1 B) (f_X6_countOf a1 B) (xB S 0 B y) := by
  refine vx_ofW (cc := cX6_countOf) (maxL := 2) (ret := some .int) (by decide) rfl ?_
  intro p9 e s m args below meth c s₁ BL hml hT hv
  obtain ⟨rfl, hk, hPB⟩ := hv
  have hx := BL.exec
  have hb := BL.bytes
  have hc : CX p9 c cX6_countOf s _ m RX6 := ⟨hx, hb, findClass_of_methodNamed BL.named, fun w h => atoms_spec BL.pre w (List.mem_cons_of_mem _ h)⟩
  have hr := BL.returns
  have hlocks := BL.notSynchronized
  have hw : WS g s (xB S 0 B y) s.heap [] := ⟨hPB, va_S.rf⟩
  have hl := lv_entry ([.ref (gA g 0), .int a1]) (n := 2) (Nat.le_of_ble_eq_true rfl)
  rw [lg_entry_eq]
  generalize (lg_sl ([.ref (gA g 0), .int a1]) ++ List.replicate (2 - (lg_sl ([.ref (gA g 0), .int a1])).length) Slot.unset).toArray = ls at hl ⊢
  have hl : lv_has ls 2 [(0, .ref (gA g 0)), (1, .int a1)] := hl
  refine lv_aload_n hx hb dX6_countOf_0 rfl (lv_at hl 0 rfl) ?_
  refine lv_iload_n hx hb dX6_countOf_1 rfl (lv_at hl 1 rfl) ?_
  refine lv_iconst (v := 0) hx hb dX6_countOf_2 (by decide) ?_
  refine lv_bipush (v := 49) hx hb dX6_countOf_3 (by decide) ?_
  refine kx_v hw (vx_runV (As := [.int a1, .int 0, .int 49]) (rest := []) ⟨hx, hb, hml, hc.2.2.1, hc.2.2.2⟩ (m_X6_requireRange l g hfl S B y a1 0 49) (kw_V hc 3 q616 q618 qs42 q1 q619 rfl rfl (by decide +kernel) ⟨Nat.le_of_ble_eq_true rfl, Nat.le_of_ble_eq_true rfl⟩) (kp_V hk hw at_G rfl) rfl rfl hl.1 rfl (lv_room (Nat.le_of_ble_eq_true rfl)) dX6_countOf_5 ⟨Nat.le_of_ble_eq_true rfl, Nat.le_of_ble_eq_true rfl⟩) (fun E ce q8 H locs h1 hw hq hv hE => ?_) (fun H locs h1 hw => ?_)
  · have hn : ¬ e_X6_requireRange a1 0 49 = none := by rw [h1]; exact Option.some_ne_none _
    exact k_out hT hlocks hw hq hv hE (Eq.trans (b := e_X6_requireRange a1 0 49) (by simp only [e_X6_countOf, if_neg hn]) h1) (Nat.le_of_ble_eq_true rfl) (Nat.le_of_ble_eq_true rfl)
  · refine lv_aload_n hx hb dX6_countOf_8 rfl (lv_at hl 0 rfl) ?_
    refine k_get hc hk hw at_G rfl iX6 0 (by decide) q238 (v := .ref (gA g (jB 0))) rfl dX6_countOf_9 ?_
    refine lv_iload_n hx hb dX6_countOf_12 rfl (lv_at hl 1 rfl) ?_
    refine kc_i hw (va_runVN (As := [.int a1]) (rest := []) ⟨hx, hb, hml, hc.2.2.1, hc.2.2.2⟩ (m_X0_countTold l g S 0 B y (by decide : 0 < 2) a1 _ _ hN) ⟨kw_N hc hk 1 nq748 q2 q751 rfl rfl (by decide +kernel) ⟨Nat.le_of_ble_eq_true rfl, Nat.le_of_ble_eq_true rfl⟩, hc.2.2.2 _ q750, hc.2.2.2 _ qs49⟩ (kp_V hk hw (bt_B (by decide : 0 < 2)) rfl) rfl rfl hl.1 rfl (lv_room (Nat.le_of_ble_eq_true rfl)) dX6_countOf_13 ⟨Nat.le_of_ble_eq_true rfl, Nat.le_of_ble_eq_true rfl⟩) (fun H locs hw => ?_)
    refine vx_ret ?_
    refine W.widen (k := 1) (n := 6) (Nat.le_of_ble_eq_true rfl) (Nat.le_of_ble_eq_true rfl) ?_
    exact W.iret (v := f_X0_countTold a1 B) hx hb hr (fun t9 ht hW => kz_i hw ht (by simp only [e_X6_countOf, if_pos h1]) (by simp only [f_X6_countOf, if_pos h1]) rfl) hw.2.2.2 dX6_countOf_16
def f_X6_ask (a1 : Int32) (B : BT) : Int32 × BT :=
  (if e_X6_known a1 B = none then (if e_X6_requireOwn (f_X6_known a1 B) 114 B = none then ((f_X6_happen 9 a1 0 B).1, (f_X6_happen 9 a1 0 B).2) else (0, B)) else (0, B))
def e_X6_ask (a1 : Int32) (B : BT) : Option String :=
  (if e_X6_known a1 B = none then (if e_X6_requireOwn (f_X6_known a1 B) 114 B = none then none else e_X6_requireOwn (f_X6_known a1 B) 114 B) else e_X6_known a1 B)
set_option maxHeartbeats 4000000 in
set_option maxRecDepth 100000 in
theorem m_X6_ask (l : Launch) (g : wG) (hfl : l.stackTraces = false) (S : Nat → BT) (B : BT) (y : (Nat → Nat → Int32) × (Nat → Int64) × (Nat → UInt64)) (a1 : Int32) (n m9 : Nat) (hN : CN B n m9) (hev : ¬ S 2 0 1 < 0) : xI l yX6_ask cX6_ask 2 (some .int) ({ frames := 10, cells := 2, slots := 12, locals := 232 } : Room) 2 12 g (xB S 0 B y) [.ref (gA g 0), .int a1] (e_X6_ask a1 B) ((f_X6_ask a1 B).1) (xB (f_X2_keep 9 a1 0 0 0 S) 0 (f_X6_ask a1 B).2 y) := by
  refine vx_ofW (cc := cX6_ask) (maxL := 2) (ret := some .int) (by decide) rfl ?_
  intro p9 e s m args below meth c s₁ BL hml hT hv
  obtain ⟨rfl, hk, hPB⟩ := hv
  have hx := BL.exec
  have hb := BL.bytes
  have hc : CX p9 c cX6_ask s _ m RX6 := ⟨hx, hb, findClass_of_methodNamed BL.named, fun w h => atoms_spec BL.pre w (List.mem_cons_of_mem _ h)⟩
  have hr := BL.returns
  have hlocks := BL.notSynchronized
  have hw : WS g s (xB S 0 B y) s.heap [] := ⟨hPB, va_S.rf⟩
  have hl := lv_entry ([.ref (gA g 0), .int a1]) (n := 2) (Nat.le_of_ble_eq_true rfl)
  rw [lg_entry_eq]
  generalize (lg_sl ([.ref (gA g 0), .int a1]) ++ List.replicate (2 - (lg_sl ([.ref (gA g 0), .int a1])).length) Slot.unset).toArray = ls at hl ⊢
  have hl : lv_has ls 2 [(0, .ref (gA g 0)), (1, .int a1)] := hl
  refine lv_aload_n hx hb dX6_ask_0 rfl (lv_at hl 0 rfl) ?_
  refine lv_aload_n hx hb dX6_ask_1 rfl (lv_at hl 0 rfl) ?_
  refine lv_iload_n hx hb dX6_ask_2 rfl (lv_at hl 1 rfl) ?_
  refine kx_r hw (vx_runV (As := [.int a1]) (rest := [.ref (gA g 0)]) ⟨hx, hb, hml, hc.2.2.1, hc.2.2.2⟩ (m_X6_known l g hfl S B y a1 _ _ hN) (kw_V hc 1 q692 q694 qs46 q1 q695 rfl rfl (by decide +kernel) ⟨Nat.le_of_ble_eq_true rfl, Nat.le_of_ble_eq_true rfl⟩) (kp_V hk hw at_G rfl) rfl rfl hl.1 rfl (lv_room (Nat.le_of_ble_eq_true rfl)) dX6_ask_3 ⟨Nat.le_of_ble_eq_true rfl, Nat.le_of_ble_eq_true rfl⟩) (fun E ce q8 H locs h1 hw hq hv hE => ?_) (fun H locs h1 hw => ?_)
  · have hn : ¬ e_X6_known a1 B = none := by rw [h1]; exact Option.some_ne_none _
    exact k_out hT hlocks hw hq hv hE (Eq.trans (b := e_X6_known a1 B) (by simp only [e_X6_ask, if_neg hn]) h1) (Nat.le_of_ble_eq_true rfl) (Nat.le_of_ble_eq_true rfl)
  · refine lv_bipush (v := 114) hx hb dX6_ask_6 (by decide) ?_
    refine kx_v hw (vx_runV (As := [.ref (gA g (jC 0 (f_X6_known a1 B))), .int 114]) (rest := []) ⟨hx, hb, hml, hc.2.2.1, hc.2.2.2⟩ (m_X6_requireOwn l g hfl S B y (f_X6_known a1 B) (lt_X6_known hN) 114) (kw_V hc 2 q756 q758 qs50 q1 q759 rfl rfl (by decide +kernel) ⟨Nat.le_of_ble_eq_true rfl, Nat.le_of_ble_eq_true rfl⟩) (kp_V hk hw at_G rfl) rfl rfl hl.1 rfl (lv_room (Nat.le_of_ble_eq_true rfl)) dX6_ask_8 ⟨Nat.le_of_ble_eq_true rfl, Nat.le_of_ble_eq_true rfl⟩) (fun E ce q8 H locs h3 hw hq hv hE => ?_) (fun H locs h3 hw => ?_)
    · have hn : ¬ e_X6_requireOwn (f_X6_known a1 B) 114 B = none := by rw [h3]; exact Option.some_ne_none _
      exact k_out hT hlocks hw hq hv hE (Eq.trans (b := e_X6_requireOwn (f_X6_known a1 B) 114 B) (by simp only [e_X6_ask, if_pos h1, if_neg hn]) h3) (Nat.le_of_ble_eq_true rfl) (Nat.le_of_ble_eq_true rfl)
    · refine lv_aload_n hx hb dX6_ask_11 rfl (lv_at hl 0 rfl) ?_
      refine lv_bipush (v := 9) hx hb dX6_ask_12 (by decide) ?_
      refine lv_iload_n hx hb dX6_ask_14 rfl (lv_at hl 1 rfl) ?_
      refine lv_iconst (v := 0) hx hb dX6_ask_15 (by decide) ?_
      refine kc_i hw (va_runV (As := [.int 9, .int a1, .int 0]) (rest := []) ⟨hx, hb, hml, hc.2.2.1, hc.2.2.2⟩ (m_X6_happen l g S B y 9 a1 0 _ _ hN hev) (kw_V hc 3 q652 q654 qs43 q1 q655 rfl rfl (by decide +kernel) ⟨Nat.le_of_ble_eq_true rfl, Nat.le_of_ble_eq_true rfl⟩) (kp_V hk hw at_G rfl) rfl rfl hl.1 rfl (lv_room (Nat.le_of_ble_eq_true rfl)) dX6_ask_16 ⟨Nat.le_of_ble_eq_true rfl, Nat.le_of_ble_eq_true rfl⟩) (fun H locs hw => ?_)
      refine vx_ret ?_
      refine W.widen (k := 2) (n := 12) (Nat.le_of_ble_eq_true rfl) (Nat.le_of_ble_eq_true rfl) ?_
      exact W.iret (v := (f_X6_happen 9 a1 0 B).1) hx hb hr (fun t9 ht hW => kz_i hw ht (by simp only [e_X6_ask, if_pos h1, if_pos h3]) (by simp only [f_X6_ask, if_pos h1, if_pos h3]) (by simp only [f_X6_ask, if_pos h1, if_pos h3])) hw.2.2.2 dX6_ask_19
def f_X6_extend (a1 : Int32) (a2 : Int32) (B : BT) : Int32 × BT :=
  (if e_X6_known a1 B = none then (if e_X6_requireRange a2 1 30 = none then (if e_X6_requireOwn (f_X6_known a1 B) 97 B = none then (if f_X0_lacksAnswer (f_X6_known a1 B) B = 0 then (if B (30 + (f_X6_known a1 B)) 1 = 0 then ((f_X6_happen 10 a1 a2 B).1, (f_X6_happen 10 a1 a2 B).2) else (0, B)) else (0, B)) else (0, B)) else (0, B)) else (0, B))
def e_X6_extend (a1 : Int32) (a2 : Int32) (B : BT) : Option String :=
  (if e_X6_known a1 B = none then (if e_X6_requireRange a2 1 30 = none then (if e_X6_requireOwn (f_X6_known a1 B) 97 B = none then (if f_X0_lacksAnswer (f_X6_known a1 B) B = 0 then (if B (30 + (f_X6_known a1 B)) 1 = 0 then none else some "java/lang/UnsupportedOperationException") else some "java/lang/UnsupportedOperationException") else e_X6_requireOwn (f_X6_known a1 B) 97 B) else e_X6_requireRange a2 1 30) else e_X6_known a1 B)
set_option maxHeartbeats 4000000 in
set_option maxRecDepth 100000 in
theorem m_X6_extend (l : Launch) (g : wG) (hfl : l.stackTraces = false) (S : Nat → BT) (B : BT) (y : (Nat → Nat → Int32) × (Nat → Int64) × (Nat → UInt64)) (a1 : Int32) (a2 : Int32) (n m9 : Nat) (hN : CN B n m9) (hev : ¬ S 2 0 1 < 0) : xI l yX6_extend cX6_extend 4 (some .int) ({ frames := 10, cells := 4, slots := 24, locals := 232 } : Room) 4 24 g (xB S 0 B y) [.ref (gA g 0), .int a1, .int a2] (e_X6_extend a1 a2 B) ((f_X6_extend a1 a2 B).1) (xB (f_X2_keep 10 a1 a2 0 0 S) 0 (f_X6_extend a1 a2 B).2 y) := by
  refine vx_ofW (cc := cX6_extend) (maxL := 4) (ret := some .int) (by decide) rfl ?_
  intro p9 e s m args below meth c s₁ BL hml hT hv
  obtain ⟨rfl, hk, hPB⟩ := hv
  have hx := BL.exec
  have hb := BL.bytes
  have hc : CX p9 c cX6_extend s _ m RX6 := ⟨hx, hb, findClass_of_methodNamed BL.named, fun w h => atoms_spec BL.pre w (List.mem_cons_of_mem _ h)⟩
  have hr := BL.returns
  have hlocks := BL.notSynchronized
  have hw : WS g s (xB S 0 B y) s.heap [] := ⟨hPB, va_S.rf⟩
  have hl := lv_entry ([.ref (gA g 0), .int a1, .int a2]) (n := 4) (Nat.le_of_ble_eq_true rfl)
  rw [lg_entry_eq]
  generalize (lg_sl ([.ref (gA g 0), .int a1, .int a2]) ++ List.replicate (4 - (lg_sl ([.ref (gA g 0), .int a1, .int a2])).length) Slot.unset).toArray = ls at hl ⊢
  have hl : lv_has ls 4 [(0, .ref (gA g 0)), (1, .int a1), (2, .int a2)] := hl
  refine lv_aload_n hx hb dX6_extend_0 rfl (lv_at hl 0 rfl) ?_
  refine lv_iload_n hx hb dX6_extend_1 rfl (lv_at hl 1 rfl) ?_
  refine kx_r hw (vx_runV (As := [.int a1]) (rest := []) ⟨hx, hb, hml, hc.2.2.1, hc.2.2.2⟩ (m_X6_known l g hfl S B y a1 _ _ hN) (kw_V hc 1 q692 q694 qs46 q1 q695 rfl rfl (by decide +kernel) ⟨Nat.le_of_ble_eq_true rfl, Nat.le_of_ble_eq_true rfl⟩) (kp_V hk hw at_G rfl) rfl rfl hl.1 rfl (lv_room (Nat.le_of_ble_eq_true rfl)) dX6_extend_2 ⟨Nat.le_of_ble_eq_true rfl, Nat.le_of_ble_eq_true rfl⟩) (fun E ce q8 H locs h1 hw hq hv hE => ?_) (fun H locs h1 hw => ?_)
  · have hn : ¬ e_X6_known a1 B = none := by rw [h1]; exact Option.some_ne_none _
    exact k_out hT hlocks hw hq hv hE (Eq.trans (b := e_X6_known a1 B) (by simp only [e_X6_extend, if_neg hn]) h1) (Nat.le_of_ble_eq_true rfl) (Nat.le_of_ble_eq_true rfl)
  · refine lv_astore_n (lv' := [(3, .ref (gA g (jC 0 (f_X6_known a1 B)))), (0, .ref (gA g 0)), (1, .int a1), (2, .int a2)]) hx hb dX6_extend_5 rfl hl (by decide) rfl (fun ls hl => ?_)
    refine lv_aload_n hx hb dX6_extend_6 rfl (lv_at hl 1 rfl) ?_
    refine lv_iload_n hx hb dX6_extend_7 rfl (lv_at hl 3 rfl) ?_
    refine lv_iconst (v := 1) hx hb dX6_extend_8 (by decide) ?_
    refine lv_bipush (v := 30) hx hb dX6_extend_9 (by decide) ?_
    refine kx_v hw (vx_runV (As := [.int a2, .int 1, .int 30]) (rest := []) ⟨hx, hb, hml, hc.2.2.1, hc.2.2.2⟩ (m_X6_requireRange l g hfl S B y a2 1 30) (kw_V hc 3 q616 q618 qs42 q1 q619 rfl rfl (by decide +kernel) ⟨Nat.le_of_ble_eq_true rfl, Nat.le_of_ble_eq_true rfl⟩) (kp_V hk hw at_G rfl) rfl rfl hl.1 rfl (lv_room (Nat.le_of_ble_eq_true rfl)) dX6_extend_11 ⟨Nat.le_of_ble_eq_true rfl, Nat.le_of_ble_eq_true rfl⟩) (fun E ce q8 H locs h3 hw hq hv hE => ?_) (fun H locs h3 hw => ?_)
    · have hn : ¬ e_X6_requireRange a2 1 30 = none := by rw [h3]; exact Option.some_ne_none _
      exact k_out hT hlocks hw hq hv hE (Eq.trans (b := e_X6_requireRange a2 1 30) (by simp only [e_X6_extend, if_pos h1, if_neg hn]) h3) (Nat.le_of_ble_eq_true rfl) (Nat.le_of_ble_eq_true rfl)
    · refine lv_aload_n hx hb dX6_extend_14 rfl (lv_at hl 1 rfl) ?_
      refine lv_aload_n hx hb dX6_extend_15 rfl (lv_at hl 0 rfl) ?_
      refine lv_bipush (v := 97) hx hb dX6_extend_16 (by decide) ?_
      refine kx_v hw (vx_runV (As := [.ref (gA g (jC 0 (f_X6_known a1 B))), .int 97]) (rest := []) ⟨hx, hb, hml, hc.2.2.1, hc.2.2.2⟩ (m_X6_requireOwn l g hfl S B y (f_X6_known a1 B) (lt_X6_known hN) 97) (kw_V hc 2 q756 q758 qs50 q1 q759 rfl rfl (by decide +kernel) ⟨Nat.le_of_ble_eq_true rfl, Nat.le_of_ble_eq_true rfl⟩) (kp_V hk hw at_G rfl) rfl rfl hl.1 rfl (lv_room (Nat.le_of_ble_eq_true rfl)) dX6_extend_18 ⟨Nat.le_of_ble_eq_true rfl, Nat.le_of_ble_eq_true rfl⟩) (fun E ce q8 H locs h5 hw hq hv hE => ?_) (fun H locs h5 hw => ?_)
      · have hn : ¬ e_X6_requireOwn (f_X6_known a1 B) 97 B = none := by rw [h5]; exact Option.some_ne_none _
        exact k_out hT hlocks hw hq hv hE (Eq.trans (b := e_X6_requireOwn (f_X6_known a1 B) 97 B) (by simp only [e_X6_extend, if_pos h1, if_pos h3, if_neg hn]) h5) (Nat.le_of_ble_eq_true rfl) (Nat.le_of_ble_eq_true rfl)
      · refine lv_aload_n hx hb dX6_extend_21 rfl (lv_at hl 1 rfl) ?_
        refine k_get hc hk hw at_G rfl iX6 0 (by decide) q238 (v := .ref (gA g (jB 0))) rfl dX6_extend_22 ?_
        refine lv_aload_n hx hb dX6_extend_25 rfl (lv_at hl 0 rfl) ?_
        refine kc_i hw (va_runVN (As := [.ref (gA g (jC 0 (f_X6_known a1 B)))]) (rest := []) ⟨hx, hb, hml, hc.2.2.1, hc.2.2.2⟩ (m_X0_lacksAnswer l g S 0 B y (by decide : 0 < 2) (f_X6_known a1 B) (lt_X6_known hN) _ _ hN) ⟨kw_N hc hk 1 nq769 q2 q772 rfl rfl (by decide +kernel) ⟨Nat.le_of_ble_eq_true rfl, Nat.le_of_ble_eq_true rfl⟩, hc.2.2.2 _ q771, hc.2.2.2 _ qs52⟩ (kp_V hk hw (bt_B (by decide : 0 < 2)) rfl) rfl rfl hl.1 rfl (lv_room (Nat.le_of_ble_eq_true rfl)) dX6_extend_26 ⟨Nat.le_of_ble_eq_true rfl, Nat.le_of_ble_eq_true rfl⟩) (fun H locs hw => ?_)
        refine lv_if_ne (tgt := 42) hx hb dX6_extend_29 (by decide) (fun h7 => ?_) (fun h7 => ?_)
        · exact k_throwS (text := "it is overdue or was extended") hc hk hw hfl hT hlocks hml hl (by decide) tw_80_84 (by decide) dX6_extend_42 dX6_extend_45 dX6_extend_46 dX6_extend_48 dX6_extend_51 (Nat.le_of_ble_eq_true rfl) (Nat.le_of_ble_eq_true rfl) (Nat.le_of_ble_eq_true rfl) (Nat.le_of_ble_eq_true rfl) (by simp only [e_X6_extend, if_pos h1, if_pos h3, if_pos h5, if_neg h7]) (Nat.le_of_ble_eq_true rfl) (Nat.le_of_ble_eq_true rfl)
        · refine lv_aload_n hx hb dX6_extend_32 rfl (lv_at hl 0 rfl) ?_
          refine k_getN hc hk hw (bt_C (by decide : 0 < 2) (lt_X6_known hN)) rfl iX1 1 (by decide) nq137 (v := .ref (gA g (jI 0 (f_X6_known a1 B)))) rfl dX6_extend_33 ?_
          refine k_getN hc hk hw (bt_I (by decide : 0 < 2) (lt_X6_known hN)) rfl iX4 1 (by decide) nq83 (v := .int (B (30 + (f_X6_known a1 B)) 1)) rfl dX6_extend_36 ?_
          refine lv_if_eq (tgt := 52) hx hb dX6_extend_39 (by decide) (fun h8 => ?_) (fun h8 => ?_)
          · refine lv_aload_n hx hb dX6_extend_52 rfl (lv_at hl 1 rfl) ?_
            refine lv_bipush (v := 10) hx hb dX6_extend_53 (by decide) ?_
            refine lv_iload_n hx hb dX6_extend_55 rfl (lv_at hl 2 rfl) ?_
            refine lv_iload_n hx hb dX6_extend_56 rfl (lv_at hl 3 rfl) ?_
            refine kc_i hw (va_runV (As := [.int 10, .int a1, .int a2]) (rest := []) ⟨hx, hb, hml, hc.2.2.1, hc.2.2.2⟩ (m_X6_happen l g S B y 10 a1 a2 _ _ hN hev) (kw_V hc 3 q652 q654 qs43 q1 q655 rfl rfl (by decide +kernel) ⟨Nat.le_of_ble_eq_true rfl, Nat.le_of_ble_eq_true rfl⟩) (kp_V hk hw at_G rfl) rfl rfl hl.1 rfl (lv_room (Nat.le_of_ble_eq_true rfl)) dX6_extend_57 ⟨Nat.le_of_ble_eq_true rfl, Nat.le_of_ble_eq_true rfl⟩) (fun H locs hw => ?_)
            refine vx_ret ?_
            refine W.widen (k := 4) (n := 24) (Nat.le_of_ble_eq_true rfl) (Nat.le_of_ble_eq_true rfl) ?_
            exact W.iret (v := (f_X6_happen 10 a1 a2 B).1) hx hb hr (fun t9 ht hW => kz_i hw ht (by simp only [e_X6_extend, if_pos h1, if_pos h3, if_pos h5, if_pos h7, if_pos h8]) (by simp only [f_X6_extend, if_pos h1, if_pos h3, if_pos h5, if_pos h7, if_pos h8]) (by simp only [f_X6_extend, if_pos h1, if_pos h3, if_pos h5, if_pos h7, if_pos h8])) hw.2.2.2 dX6_extend_60
          · exact k_throwS (text := "it is overdue or was extended") hc hk hw hfl hT hlocks hml hl (by decide) tw_80_84 (by decide) dX6_extend_42 dX6_extend_45 dX6_extend_46 dX6_extend_48 dX6_extend_51 (Nat.le_of_ble_eq_true rfl) (Nat.le_of_ble_eq_true rfl) (Nat.le_of_ble_eq_true rfl) (Nat.le_of_ble_eq_true rfl) (by simp only [e_X6_extend, if_pos h1, if_pos h3, if_pos h5, if_pos h7, if_neg h8]) (Nat.le_of_ble_eq_true rfl) (Nat.le_of_ble_eq_true rfl)
def f_X6_remind (a1 : Int32) (B : BT) : Int32 × BT :=
  (if e_X6_known a1 B = none then (if e_X6_requireOwn (f_X6_known a1 B) 97 B = none then (if f_X0_lacksAnswer (f_X6_known a1 B) B = 0 then (0, B) else (if B (30 + (f_X6_known a1 B)) 2 < 3 then ((f_X6_happen 11 a1 0 B).1, (f_X6_happen 11 a1 0 B).2) else (0, B))) else (0, B)) else (0, B))
def e_X6_remind (a1 : Int32) (B : BT) : Option String :=
  (if e_X6_known a1 B = none then (if e_X6_requireOwn (f_X6_known a1 B) 97 B = none then (if f_X0_lacksAnswer (f_X6_known a1 B) B = 0 then some "java/lang/UnsupportedOperationException" else (if B (30 + (f_X6_known a1 B)) 2 < 3 then none else some "java/lang/UnsupportedOperationException")) else e_X6_requireOwn (f_X6_known a1 B) 97 B) else e_X6_known a1 B)
set_option maxHeartbeats 4000000 in
set_option maxRecDepth 100000 in
theorem m_X6_remind (l : Launch) (g : wG) (hfl : l.stackTraces = false) (S : Nat → BT) (B : BT) (y : (Nat → Nat → Int32) × (Nat → Int64) × (Nat → UInt64)) (a1 : Int32) (n m9 : Nat) (hN : CN B n m9) (hev : ¬ S 2 0 1 < 0) : xI l yX6_remind cX6_remind 3 (some .int) ({ frames := 10, cells := 3, slots := 18, locals := 232 } : Room) 3 18 g (xB S 0 B y) [.ref (gA g 0), .int a1] (e_X6_remind a1 B) ((f_X6_remind a1 B).1) (xB (f_X2_keep 11 a1 0 0 0 S) 0 (f_X6_remind a1 B).2 y) := by
  refine vx_ofW (cc := cX6_remind) (maxL := 3) (ret := some .int) (by decide) rfl ?_
  intro p9 e s m args below meth c s₁ BL hml hT hv
  obtain ⟨rfl, hk, hPB⟩ := hv
  have hx := BL.exec
  have hb := BL.bytes
  have hc : CX p9 c cX6_remind s _ m RX6 := ⟨hx, hb, findClass_of_methodNamed BL.named, fun w h => atoms_spec BL.pre w (List.mem_cons_of_mem _ h)⟩
  have hr := BL.returns
  have hlocks := BL.notSynchronized
  have hw : WS g s (xB S 0 B y) s.heap [] := ⟨hPB, va_S.rf⟩
  have hl := lv_entry ([.ref (gA g 0), .int a1]) (n := 3) (Nat.le_of_ble_eq_true rfl)
  rw [lg_entry_eq]
  generalize (lg_sl ([.ref (gA g 0), .int a1]) ++ List.replicate (3 - (lg_sl ([.ref (gA g 0), .int a1])).length) Slot.unset).toArray = ls at hl ⊢
  have hl : lv_has ls 3 [(0, .ref (gA g 0)), (1, .int a1)] := hl
  refine lv_aload_n hx hb dX6_remind_0 rfl (lv_at hl 0 rfl) ?_
  refine lv_iload_n hx hb dX6_remind_1 rfl (lv_at hl 1 rfl) ?_
  refine kx_r hw (vx_runV (As := [.int a1]) (rest := []) ⟨hx, hb, hml, hc.2.2.1, hc.2.2.2⟩ (m_X6_known l g hfl S B y a1 _ _ hN) (kw_V hc 1 q692 q694 qs46 q1 q695 rfl rfl (by decide +kernel) ⟨Nat.le_of_ble_eq_true rfl, Nat.le_of_ble_eq_true rfl⟩) (kp_V hk hw at_G rfl) rfl rfl hl.1 rfl (lv_room (Nat.le_of_ble_eq_true rfl)) dX6_remind_2 ⟨Nat.le_of_ble_eq_true rfl, Nat.le_of_ble_eq_true rfl⟩) (fun E ce q8 H locs h1 hw hq hv hE => ?_) (fun H locs h1 hw => ?_)
  · have hn : ¬ e_X6_known a1 B = none := by rw [h1]; exact Option.some_ne_none _
    exact k_out hT hlocks hw hq hv hE (Eq.trans (b := e_X6_known a1 B) (by simp only [e_X6_remind, if_neg hn]) h1) (Nat.le_of_ble_eq_true rfl) (Nat.le_of_ble_eq_true rfl)
  · refine lv_astore_n (lv' := [(2, .ref (gA g (jC 0 (f_X6_known a1 B)))), (0, .ref (gA g 0)), (1, .int a1)]) hx hb dX6_remind_5 rfl hl (by decide) rfl (fun ls hl => ?_)
    refine lv_aload_n hx hb dX6_remind_6 rfl (lv_at hl 1 rfl) ?_
    refine lv_aload_n hx hb dX6_remind_7 rfl (lv_at hl 0 rfl) ?_
    refine lv_bipush (v := 97) hx hb dX6_remind_8 (by decide) ?_
    refine kx_v hw (vx_runV (As := [.ref (gA g (jC 0 (f_X6_known a1 B))), .int 97]) (rest := []) ⟨hx, hb, hml, hc.2.2.1, hc.2.2.2⟩ (m_X6_requireOwn l g hfl S B y (f_X6_known a1 B) (lt_X6_known hN) 97) (kw_V hc 2 q756 q758 qs50 q1 q759 rfl rfl (by decide +kernel) ⟨Nat.le_of_ble_eq_true rfl, Nat.le_of_ble_eq_true rfl⟩) (kp_V hk hw at_G rfl) rfl rfl hl.1 rfl (lv_room (Nat.le_of_ble_eq_true rfl)) dX6_remind_10 ⟨Nat.le_of_ble_eq_true rfl, Nat.le_of_ble_eq_true rfl⟩) (fun E ce q8 H locs h3 hw hq hv hE => ?_) (fun H locs h3 hw => ?_)
    · have hn : ¬ e_X6_requireOwn (f_X6_known a1 B) 97 B = none := by rw [h3]; exact Option.some_ne_none _
      exact k_out hT hlocks hw hq hv hE (Eq.trans (b := e_X6_requireOwn (f_X6_known a1 B) 97 B) (by simp only [e_X6_remind, if_pos h1, if_neg hn]) h3) (Nat.le_of_ble_eq_true rfl) (Nat.le_of_ble_eq_true rfl)
    · refine lv_aload_n hx hb dX6_remind_13 rfl (lv_at hl 1 rfl) ?_
      refine k_get hc hk hw at_G rfl iX6 0 (by decide) q238 (v := .ref (gA g (jB 0))) rfl dX6_remind_14 ?_
      refine lv_aload_n hx hb dX6_remind_17 rfl (lv_at hl 0 rfl) ?_
      refine kc_i hw (va_runVN (As := [.ref (gA g (jC 0 (f_X6_known a1 B)))]) (rest := []) ⟨hx, hb, hml, hc.2.2.1, hc.2.2.2⟩ (m_X0_lacksAnswer l g S 0 B y (by decide : 0 < 2) (f_X6_known a1 B) (lt_X6_known hN) _ _ hN) ⟨kw_N hc hk 1 nq769 q2 q772 rfl rfl (by decide +kernel) ⟨Nat.le_of_ble_eq_true rfl, Nat.le_of_ble_eq_true rfl⟩, hc.2.2.2 _ q771, hc.2.2.2 _ qs52⟩ (kp_V hk hw (bt_B (by decide : 0 < 2)) rfl) rfl rfl hl.1 rfl (lv_room (Nat.le_of_ble_eq_true rfl)) dX6_remind_18 ⟨Nat.le_of_ble_eq_true rfl, Nat.le_of_ble_eq_true rfl⟩) (fun H locs hw => ?_)
      refine lv_if_eq (tgt := 35) hx hb dX6_remind_21 (by decide) (fun h5 => ?_) (fun h5 => ?_)
      · exact k_throwS (text := "it is not overdue or was reminded of three times") hc hk hw hfl hT hlocks hml hl (by decide) tw_80_84 (by decide) dX6_remind_35 dX6_remind_38 dX6_remind_39 dX6_remind_41 dX6_remind_44 (Nat.le_of_ble_eq_true rfl) (Nat.le_of_ble_eq_true rfl) (Nat.le_of_ble_eq_true rfl) (Nat.le_of_ble_eq_true rfl) (by simp only [e_X6_remind, if_pos h1, if_pos h3, if_pos h5]) (Nat.le_of_ble_eq_true rfl) (Nat.le_of_ble_eq_true rfl)
      · refine lv_aload_n hx hb dX6_remind_24 rfl (lv_at hl 0 rfl) ?_
        refine k_getN hc hk hw (bt_C (by decide : 0 < 2) (lt_X6_known hN)) rfl iX1 1 (by decide) nq137 (v := .ref (gA g (jI 0 (f_X6_known a1 B)))) rfl dX6_remind_25 ?_
        refine k_getN hc hk hw (bt_I (by decide : 0 < 2) (lt_X6_known hN)) rfl iX4 2 (by decide) nq86 (v := .int (B (30 + (f_X6_known a1 B)) 2)) rfl dX6_remind_28 ?_
        refine lv_iconst (v := 3) hx hb dX6_remind_31 (by decide) ?_
        refine lv_icmp_lt (tgt := 45) hx hb dX6_remind_32 (by decide) (fun h6 => ?_) (fun h6 => ?_)
        · refine lv_aload_n hx hb dX6_remind_45 rfl (lv_at hl 1 rfl) ?_
          refine lv_bipush (v := 11) hx hb dX6_remind_46 (by decide) ?_
          refine lv_iload_n hx hb dX6_remind_48 rfl (lv_at hl 2 rfl) ?_
          refine lv_iconst (v := 0) hx hb dX6_remind_49 (by decide) ?_
          refine kc_i hw (va_runV (As := [.int 11, .int a1, .int 0]) (rest := []) ⟨hx, hb, hml, hc.2.2.1, hc.2.2.2⟩ (m_X6_happen l g S B y 11 a1 0 _ _ hN hev) (kw_V hc 3 q652 q654 qs43 q1 q655 rfl rfl (by decide +kernel) ⟨Nat.le_of_ble_eq_true rfl, Nat.le_of_ble_eq_true rfl⟩) (kp_V hk hw at_G rfl) rfl rfl hl.1 rfl (lv_room (Nat.le_of_ble_eq_true rfl)) dX6_remind_50 ⟨Nat.le_of_ble_eq_true rfl, Nat.le_of_ble_eq_true rfl⟩) (fun H locs hw => ?_)
          refine vx_ret ?_
          refine W.widen (k := 3) (n := 18) (Nat.le_of_ble_eq_true rfl) (Nat.le_of_ble_eq_true rfl) ?_
          exact W.iret (v := (f_X6_happen 11 a1 0 B).1) hx hb hr (fun t9 ht hW => kz_i hw ht (by simp only [e_X6_remind, if_pos h1, if_pos h3, if_neg h5, if_pos h6]) (by simp only [f_X6_remind, if_pos h1, if_pos h3, if_neg h5, if_pos h6]) (by simp only [f_X6_remind, if_pos h1, if_pos h3, if_neg h5, if_pos h6])) hw.2.2.2 dX6_remind_53
        · exact k_throwS (text := "it is not overdue or was reminded of three times") hc hk hw hfl hT hlocks hml hl (by decide) tw_80_84 (by decide) dX6_remind_35 dX6_remind_38 dX6_remind_39 dX6_remind_41 dX6_remind_44 (Nat.le_of_ble_eq_true rfl) (Nat.le_of_ble_eq_true rfl) (Nat.le_of_ble_eq_true rfl) (Nat.le_of_ble_eq_true rfl) (by simp only [e_X6_remind, if_pos h1, if_pos h3, if_neg h5, if_neg h6]) (Nat.le_of_ble_eq_true rfl) (Nat.le_of_ble_eq_true rfl)
def f_X6_answer (a1 : Int32) (B : BT) : Int32 × BT :=
  (if e_X6_known a1 B = none then (if e_X6_requireOwn (f_X6_known a1 B) 97 B = none then ((f_X6_happen 12 a1 0 B).1, (f_X6_happen 12 a1 0 B).2) else (0, B)) else (0, B))
def e_X6_answer (a1 : Int32) (B : BT) : Option String :=
  (if e_X6_known a1 B = none then (if e_X6_requireOwn (f_X6_known a1 B) 97 B = none then none else e_X6_requireOwn (f_X6_known a1 B) 97 B) else e_X6_known a1 B)
set_option maxHeartbeats 4000000 in
set_option maxRecDepth 100000 in
theorem m_X6_answer (l : Launch) (g : wG) (hfl : l.stackTraces = false) (S : Nat → BT) (B : BT) (y : (Nat → Nat → Int32) × (Nat → Int64) × (Nat → UInt64)) (a1 : Int32) (n m9 : Nat) (hN : CN B n m9) (hev : ¬ S 2 0 1 < 0) : xI l yX6_answer cX6_answer 2 (some .int) ({ frames := 10, cells := 2, slots := 12, locals := 232 } : Room) 2 12 g (xB S 0 B y) [.ref (gA g 0), .int a1] (e_X6_answer a1 B) ((f_X6_answer a1 B).1) (xB (f_X2_keep 12 a1 0 0 0 S) 0 (f_X6_answer a1 B).2 y) := by
  refine vx_ofW (cc := cX6_answer) (maxL := 2) (ret := some .int) (by decide) rfl ?_
  intro p9 e s m args below meth c s₁ BL hml hT hv
  obtain ⟨rfl, hk, hPB⟩ := hv
  have hx := BL.exec
  have hb := BL.bytes
  have hc : CX p9 c cX6_answer s _ m RX6 := ⟨hx, hb, findClass_of_methodNamed BL.named, fun w h => atoms_spec BL.pre w (List.mem_cons_of_mem _ h)⟩
  have hr := BL.returns
  have hlocks := BL.notSynchronized
  have hw : WS g s (xB S 0 B y) s.heap [] := ⟨hPB, va_S.rf⟩
  have hl := lv_entry ([.ref (gA g 0), .int a1]) (n := 2) (Nat.le_of_ble_eq_true rfl)
  rw [lg_entry_eq]
  generalize (lg_sl ([.ref (gA g 0), .int a1]) ++ List.replicate (2 - (lg_sl ([.ref (gA g 0), .int a1])).length) Slot.unset).toArray = ls at hl ⊢
  have hl : lv_has ls 2 [(0, .ref (gA g 0)), (1, .int a1)] := hl
  refine lv_aload_n hx hb dX6_answer_0 rfl (lv_at hl 0 rfl) ?_
  refine lv_aload_n hx hb dX6_answer_1 rfl (lv_at hl 0 rfl) ?_
  refine lv_iload_n hx hb dX6_answer_2 rfl (lv_at hl 1 rfl) ?_
  refine kx_r hw (vx_runV (As := [.int a1]) (rest := [.ref (gA g 0)]) ⟨hx, hb, hml, hc.2.2.1, hc.2.2.2⟩ (m_X6_known l g hfl S B y a1 _ _ hN) (kw_V hc 1 q692 q694 qs46 q1 q695 rfl rfl (by decide +kernel) ⟨Nat.le_of_ble_eq_true rfl, Nat.le_of_ble_eq_true rfl⟩) (kp_V hk hw at_G rfl) rfl rfl hl.1 rfl (lv_room (Nat.le_of_ble_eq_true rfl)) dX6_answer_3 ⟨Nat.le_of_ble_eq_true rfl, Nat.le_of_ble_eq_true rfl⟩) (fun E ce q8 H locs h1 hw hq hv hE => ?_) (fun H locs h1 hw => ?_)
  · have hn : ¬ e_X6_known a1 B = none := by rw [h1]; exact Option.some_ne_none _
    exact k_out hT hlocks hw hq hv hE (Eq.trans (b := e_X6_known a1 B) (by simp only [e_X6_answer, if_neg hn]) h1) (Nat.le_of_ble_eq_true rfl) (Nat.le_of_ble_eq_true rfl)
  · refine lv_bipush (v := 97) hx hb dX6_answer_6 (by decide) ?_
    refine kx_v hw (vx_runV (As := [.ref (gA g (jC 0 (f_X6_known a1 B))), .int 97]) (rest := []) ⟨hx, hb, hml, hc.2.2.1, hc.2.2.2⟩ (m_X6_requireOwn l g hfl S B y (f_X6_known a1 B) (lt_X6_known hN) 97) (kw_V hc 2 q756 q758 qs50 q1 q759 rfl rfl (by decide +kernel) ⟨Nat.le_of_ble_eq_true rfl, Nat.le_of_ble_eq_true rfl⟩) (kp_V hk hw at_G rfl) rfl rfl hl.1 rfl (lv_room (Nat.le_of_ble_eq_true rfl)) dX6_answer_8 ⟨Nat.le_of_ble_eq_true rfl, Nat.le_of_ble_eq_true rfl⟩) (fun E ce q8 H locs h3 hw hq hv hE => ?_) (fun H locs h3 hw => ?_)
    · have hn : ¬ e_X6_requireOwn (f_X6_known a1 B) 97 B = none := by rw [h3]; exact Option.some_ne_none _
      exact k_out hT hlocks hw hq hv hE (Eq.trans (b := e_X6_requireOwn (f_X6_known a1 B) 97 B) (by simp only [e_X6_answer, if_pos h1, if_neg hn]) h3) (Nat.le_of_ble_eq_true rfl) (Nat.le_of_ble_eq_true rfl)
    · refine lv_aload_n hx hb dX6_answer_11 rfl (lv_at hl 0 rfl) ?_
      refine lv_bipush (v := 12) hx hb dX6_answer_12 (by decide) ?_
      refine lv_iload_n hx hb dX6_answer_14 rfl (lv_at hl 1 rfl) ?_
      refine lv_iconst (v := 0) hx hb dX6_answer_15 (by decide) ?_
      refine kc_i hw (va_runV (As := [.int 12, .int a1, .int 0]) (rest := []) ⟨hx, hb, hml, hc.2.2.1, hc.2.2.2⟩ (m_X6_happen l g S B y 12 a1 0 _ _ hN hev) (kw_V hc 3 q652 q654 qs43 q1 q655 rfl rfl (by decide +kernel) ⟨Nat.le_of_ble_eq_true rfl, Nat.le_of_ble_eq_true rfl⟩) (kp_V hk hw at_G rfl) rfl rfl hl.1 rfl (lv_room (Nat.le_of_ble_eq_true rfl)) dX6_answer_16 ⟨Nat.le_of_ble_eq_true rfl, Nat.le_of_ble_eq_true rfl⟩) (fun H locs hw => ?_)
      refine vx_ret ?_
      refine W.widen (k := 2) (n := 12) (Nat.le_of_ble_eq_true rfl) (Nat.le_of_ble_eq_true rfl) ?_
      exact W.iret (v := (f_X6_happen 12 a1 0 B).1) hx hb hr (fun t9 ht hW => kz_i hw ht (by simp only [e_X6_answer, if_pos h1, if_pos h3]) (by simp only [f_X6_answer, if_pos h1, if_pos h3]) (by simp only [f_X6_answer, if_pos h1, if_pos h3])) hw.2.2.2 dX6_answer_19
def f_X6_takeSilence (a1 : Int32) (B : BT) : Int32 × BT :=
  (if e_X6_known a1 B = none then (if e_X6_requireOwn (f_X6_known a1 B) 97 B = none then (if f_X0_lacksAnswer (f_X6_known a1 B) B = 0 then (0, B) else (if 3 ≤ B (30 + (f_X6_known a1 B)) 2 then ((f_X6_happen 13 a1 0 B).1, (f_X6_happen 13 a1 0 B).2) else (0, B))) else (0, B)) else (0, B))
def e_X6_takeSilence (a1 : Int32) (B : BT) : Option String :=
  (if e_X6_known a1 B = none then (if e_X6_requireOwn (f_X6_known a1 B) 97 B = none then (if f_X0_lacksAnswer (f_X6_known a1 B) B = 0 then some "java/lang/UnsupportedOperationException" else (if 3 ≤ B (30 + (f_X6_known a1 B)) 2 then none else some "java/lang/UnsupportedOperationException")) else e_X6_requireOwn (f_X6_known a1 B) 97 B) else e_X6_known a1 B)
set_option maxHeartbeats 4000000 in
set_option maxRecDepth 100000 in
theorem m_X6_takeSilence (l : Launch) (g : wG) (hfl : l.stackTraces = false) (S : Nat → BT) (B : BT) (y : (Nat → Nat → Int32) × (Nat → Int64) × (Nat → UInt64)) (a1 : Int32) (n m9 : Nat) (hN : CN B n m9) (hev : ¬ S 2 0 1 < 0) : xI l yX6_takeSilence cX6_takeSilence 3 (some .int) ({ frames := 10, cells := 3, slots := 18, locals := 232 } : Room) 3 18 g (xB S 0 B y) [.ref (gA g 0), .int a1] (e_X6_takeSilence a1 B) ((f_X6_takeSilence a1 B).1) (xB (f_X2_keep 13 a1 0 0 0 S) 0 (f_X6_takeSilence a1 B).2 y) := by
  refine vx_ofW (cc := cX6_takeSilence) (maxL := 3) (ret := some .int) (by decide) rfl ?_
  intro p9 e s m args below meth c s₁ BL hml hT hv
  obtain ⟨rfl, hk, hPB⟩ := hv
  have hx := BL.exec
  have hb := BL.bytes
  have hc : CX p9 c cX6_takeSilence s _ m RX6 := ⟨hx, hb, findClass_of_methodNamed BL.named, fun w h => atoms_spec BL.pre w (List.mem_cons_of_mem _ h)⟩
  have hr := BL.returns
  have hlocks := BL.notSynchronized
  have hw : WS g s (xB S 0 B y) s.heap [] := ⟨hPB, va_S.rf⟩
  have hl := lv_entry ([.ref (gA g 0), .int a1]) (n := 3) (Nat.le_of_ble_eq_true rfl)
  rw [lg_entry_eq]
  generalize (lg_sl ([.ref (gA g 0), .int a1]) ++ List.replicate (3 - (lg_sl ([.ref (gA g 0), .int a1])).length) Slot.unset).toArray = ls at hl ⊢
  have hl : lv_has ls 3 [(0, .ref (gA g 0)), (1, .int a1)] := hl
  refine lv_aload_n hx hb dX6_takeSilence_0 rfl (lv_at hl 0 rfl) ?_
  refine lv_iload_n hx hb dX6_takeSilence_1 rfl (lv_at hl 1 rfl) ?_
  refine kx_r hw (vx_runV (As := [.int a1]) (rest := []) ⟨hx, hb, hml, hc.2.2.1, hc.2.2.2⟩ (m_X6_known l g hfl S B y a1 _ _ hN) (kw_V hc 1 q692 q694 qs46 q1 q695 rfl rfl (by decide +kernel) ⟨Nat.le_of_ble_eq_true rfl, Nat.le_of_ble_eq_true rfl⟩) (kp_V hk hw at_G rfl) rfl rfl hl.1 rfl (lv_room (Nat.le_of_ble_eq_true rfl)) dX6_takeSilence_2 ⟨Nat.le_of_ble_eq_true rfl, Nat.le_of_ble_eq_true rfl⟩) (fun E ce q8 H locs h1 hw hq hv hE => ?_) (fun H locs h1 hw => ?_)
  · have hn : ¬ e_X6_known a1 B = none := by rw [h1]; exact Option.some_ne_none _
    exact k_out hT hlocks hw hq hv hE (Eq.trans (b := e_X6_known a1 B) (by simp only [e_X6_takeSilence, if_neg hn]) h1) (Nat.le_of_ble_eq_true rfl) (Nat.le_of_ble_eq_true rfl)
  · refine lv_astore_n (lv' := [(2, .ref (gA g (jC 0 (f_X6_known a1 B)))), (0, .ref (gA g 0)), (1, .int a1)]) hx hb dX6_takeSilence_5 rfl hl (by decide) rfl (fun ls hl => ?_)
    refine lv_aload_n hx hb dX6_takeSilence_6 rfl (lv_at hl 1 rfl) ?_
    refine lv_aload_n hx hb dX6_takeSilence_7 rfl (lv_at hl 0 rfl) ?_
    refine lv_bipush (v := 97) hx hb dX6_takeSilence_8 (by decide) ?_
    refine kx_v hw (vx_runV (As := [.ref (gA g (jC 0 (f_X6_known a1 B))), .int 97]) (rest := []) ⟨hx, hb, hml, hc.2.2.1, hc.2.2.2⟩ (m_X6_requireOwn l g hfl S B y (f_X6_known a1 B) (lt_X6_known hN) 97) (kw_V hc 2 q756 q758 qs50 q1 q759 rfl rfl (by decide +kernel) ⟨Nat.le_of_ble_eq_true rfl, Nat.le_of_ble_eq_true rfl⟩) (kp_V hk hw at_G rfl) rfl rfl hl.1 rfl (lv_room (Nat.le_of_ble_eq_true rfl)) dX6_takeSilence_10 ⟨Nat.le_of_ble_eq_true rfl, Nat.le_of_ble_eq_true rfl⟩) (fun E ce q8 H locs h3 hw hq hv hE => ?_) (fun H locs h3 hw => ?_)
    · have hn : ¬ e_X6_requireOwn (f_X6_known a1 B) 97 B = none := by rw [h3]; exact Option.some_ne_none _
      exact k_out hT hlocks hw hq hv hE (Eq.trans (b := e_X6_requireOwn (f_X6_known a1 B) 97 B) (by simp only [e_X6_takeSilence, if_pos h1, if_neg hn]) h3) (Nat.le_of_ble_eq_true rfl) (Nat.le_of_ble_eq_true rfl)
    · refine lv_aload_n hx hb dX6_takeSilence_13 rfl (lv_at hl 1 rfl) ?_
      refine k_get hc hk hw at_G rfl iX6 0 (by decide) q238 (v := .ref (gA g (jB 0))) rfl dX6_takeSilence_14 ?_
      refine lv_aload_n hx hb dX6_takeSilence_17 rfl (lv_at hl 0 rfl) ?_
      refine kc_i hw (va_runVN (As := [.ref (gA g (jC 0 (f_X6_known a1 B)))]) (rest := []) ⟨hx, hb, hml, hc.2.2.1, hc.2.2.2⟩ (m_X0_lacksAnswer l g S 0 B y (by decide : 0 < 2) (f_X6_known a1 B) (lt_X6_known hN) _ _ hN) ⟨kw_N hc hk 1 nq769 q2 q772 rfl rfl (by decide +kernel) ⟨Nat.le_of_ble_eq_true rfl, Nat.le_of_ble_eq_true rfl⟩, hc.2.2.2 _ q771, hc.2.2.2 _ qs52⟩ (kp_V hk hw (bt_B (by decide : 0 < 2)) rfl) rfl rfl hl.1 rfl (lv_room (Nat.le_of_ble_eq_true rfl)) dX6_takeSilence_18 ⟨Nat.le_of_ble_eq_true rfl, Nat.le_of_ble_eq_true rfl⟩) (fun H locs hw => ?_)
      refine lv_if_eq (tgt := 35) hx hb dX6_takeSilence_21 (by decide) (fun h5 => ?_) (fun h5 => ?_)
      · exact k_throwS (text := "it is not overdue behind three reminders") hc hk hw hfl hT hlocks hml hl (by decide) tw_80_84 (by decide) dX6_takeSilence_35 dX6_takeSilence_38 dX6_takeSilence_39 dX6_takeSilence_41 dX6_takeSilence_44 (Nat.le_of_ble_eq_true rfl) (Nat.le_of_ble_eq_true rfl) (Nat.le_of_ble_eq_true rfl) (Nat.le_of_ble_eq_true rfl) (by simp only [e_X6_takeSilence, if_pos h1, if_pos h3, if_pos h5]) (Nat.le_of_ble_eq_true rfl) (Nat.le_of_ble_eq_true rfl)
      · refine lv_aload_n hx hb dX6_takeSilence_24 rfl (lv_at hl 0 rfl) ?_
        refine k_getN hc hk hw (bt_C (by decide : 0 < 2) (lt_X6_known hN)) rfl iX1 1 (by decide) nq137 (v := .ref (gA g (jI 0 (f_X6_known a1 B)))) rfl dX6_takeSilence_25 ?_
        refine k_getN hc hk hw (bt_I (by decide : 0 < 2) (lt_X6_known hN)) rfl iX4 2 (by decide) nq86 (v := .int (B (30 + (f_X6_known a1 B)) 2)) rfl dX6_takeSilence_28 ?_
        refine lv_iconst (v := 3) hx hb dX6_takeSilence_31 (by decide) ?_
        refine lv_icmp_ge (tgt := 45) hx hb dX6_takeSilence_32 (by decide) (fun h6 => ?_) (fun h6 => ?_)
        · refine lv_aload_n hx hb dX6_takeSilence_45 rfl (lv_at hl 1 rfl) ?_
          refine lv_bipush (v := 13) hx hb dX6_takeSilence_46 (by decide) ?_
          refine lv_iload_n hx hb dX6_takeSilence_48 rfl (lv_at hl 2 rfl) ?_
          refine lv_iconst (v := 0) hx hb dX6_takeSilence_49 (by decide) ?_
          refine kc_i hw (va_runV (As := [.int 13, .int a1, .int 0]) (rest := []) ⟨hx, hb, hml, hc.2.2.1, hc.2.2.2⟩ (m_X6_happen l g S B y 13 a1 0 _ _ hN hev) (kw_V hc 3 q652 q654 qs43 q1 q655 rfl rfl (by decide +kernel) ⟨Nat.le_of_ble_eq_true rfl, Nat.le_of_ble_eq_true rfl⟩) (kp_V hk hw at_G rfl) rfl rfl hl.1 rfl (lv_room (Nat.le_of_ble_eq_true rfl)) dX6_takeSilence_50 ⟨Nat.le_of_ble_eq_true rfl, Nat.le_of_ble_eq_true rfl⟩) (fun H locs hw => ?_)
          refine vx_ret ?_
          refine W.widen (k := 3) (n := 18) (Nat.le_of_ble_eq_true rfl) (Nat.le_of_ble_eq_true rfl) ?_
          exact W.iret (v := (f_X6_happen 13 a1 0 B).1) hx hb hr (fun t9 ht hW => kz_i hw ht (by simp only [e_X6_takeSilence, if_pos h1, if_pos h3, if_neg h5, if_pos h6]) (by simp only [f_X6_takeSilence, if_pos h1, if_pos h3, if_neg h5, if_pos h6]) (by simp only [f_X6_takeSilence, if_pos h1, if_pos h3, if_neg h5, if_pos h6])) hw.2.2.2 dX6_takeSilence_53
        · exact k_throwS (text := "it is not overdue behind three reminders") hc hk hw hfl hT hlocks hml hl (by decide) tw_80_84 (by decide) dX6_takeSilence_35 dX6_takeSilence_38 dX6_takeSilence_39 dX6_takeSilence_41 dX6_takeSilence_44 (Nat.le_of_ble_eq_true rfl) (Nat.le_of_ble_eq_true rfl) (Nat.le_of_ble_eq_true rfl) (Nat.le_of_ble_eq_true rfl) (by simp only [e_X6_takeSilence, if_pos h1, if_pos h3, if_neg h5, if_neg h6]) (Nat.le_of_ble_eq_true rfl) (Nat.le_of_ble_eq_true rfl)
def f_X6_isOverdue (a1 : Int32) (B : BT) : Int32 :=
  (if e_X6_known a1 B = none then f_X0_lacksAnswer (f_X0_leadOf (f_X6_known a1 B) B) B else 0)
def e_X6_isOverdue (a1 : Int32) (B : BT) : Option String :=
  (if e_X6_known a1 B = none then none else e_X6_known a1 B)
set_option maxHeartbeats 4000000 in
set_option maxRecDepth 100000 in
theorem m_X6_isOverdue (l : Launch) (g : wG) (hfl : l.stackTraces = false) (S : Nat → BT) (B : BT) (y : (Nat → Nat → Int32) × (Nat → Int64) × (Nat → UInt64)) (a1 : Int32) (n m9 : Nat) (hN : CN B n m9) : xI l yX6_isOverdue cX6_isOverdue 2 (some .boolean) ({ frames := 7, cells := 1, slots := 6, locals := 121 } : Room) 1 6 g (xB S 0 B y) [.ref (gA g 0), .int a1] (e_X6_isOverdue a1 B) (f_X6_isOverdue a1 B) (xB S 0 B y) := by
  refine vx_ofW (cc := cX6_isOverdue) (maxL := 2) (ret := some .boolean) (by decide) rfl ?_
  intro p9 e s m args below meth c s₁ BL hml hT hv
  obtain ⟨rfl, hk, hPB⟩ := hv
  have hx := BL.exec
  have hb := BL.bytes
  have hc : CX p9 c cX6_isOverdue s _ m RX6 := ⟨hx, hb, findClass_of_methodNamed BL.named, fun w h => atoms_spec BL.pre w (List.mem_cons_of_mem _ h)⟩
  have hr := BL.returns
  have hlocks := BL.notSynchronized
  have hw : WS g s (xB S 0 B y) s.heap [] := ⟨hPB, va_S.rf⟩
  have hl := lv_entry ([.ref (gA g 0), .int a1]) (n := 2) (Nat.le_of_ble_eq_true rfl)
  rw [lg_entry_eq]
  generalize (lg_sl ([.ref (gA g 0), .int a1]) ++ List.replicate (2 - (lg_sl ([.ref (gA g 0), .int a1])).length) Slot.unset).toArray = ls at hl ⊢
  have hl : lv_has ls 2 [(0, .ref (gA g 0)), (1, .int a1)] := hl
  refine lv_aload_n hx hb dX6_isOverdue_0 rfl (lv_at hl 0 rfl) ?_
  refine k_get hc hk hw at_G rfl iX6 0 (by decide) q238 (v := .ref (gA g (jB 0))) rfl dX6_isOverdue_1 ?_
  refine lv_aload_n hx hb dX6_isOverdue_4 rfl (lv_at hl 0 rfl) ?_
  refine k_get hc hk hw at_G rfl iX6 0 (by decide) q238 (v := .ref (gA g (jB 0))) rfl dX6_isOverdue_5 ?_
  refine lv_aload_n hx hb dX6_isOverdue_8 rfl (lv_at hl 0 rfl) ?_
  refine lv_iload_n hx hb dX6_isOverdue_9 rfl (lv_at hl 1 rfl) ?_
  refine kx_r hw (vx_runV (As := [.int a1]) (rest := [.ref (gA g (jB 0)), .ref (gA g (jB 0))]) ⟨hx, hb, hml, hc.2.2.1, hc.2.2.2⟩ (m_X6_known l g hfl S B y a1 _ _ hN) (kw_V hc 1 q692 q694 qs46 q1 q695 rfl rfl (by decide +kernel) ⟨Nat.le_of_ble_eq_true rfl, Nat.le_of_ble_eq_true rfl⟩) (kp_V hk hw at_G rfl) rfl rfl hl.1 rfl (lv_room (Nat.le_of_ble_eq_true rfl)) dX6_isOverdue_10 ⟨Nat.le_of_ble_eq_true rfl, Nat.le_of_ble_eq_true rfl⟩) (fun E ce q8 H locs h1 hw hq hv hE => ?_) (fun H locs h1 hw => ?_)
  · have hn : ¬ e_X6_known a1 B = none := by rw [h1]; exact Option.some_ne_none _
    exact k_out hT hlocks hw hq hv hE (Eq.trans (b := e_X6_known a1 B) (by simp only [e_X6_isOverdue, if_neg hn]) h1) (Nat.le_of_ble_eq_true rfl) (Nat.le_of_ble_eq_true rfl)
  · refine kc_r hw (va_runVN (As := [.ref (gA g (jC 0 (f_X6_known a1 B)))]) (rest := [.ref (gA g (jB 0))]) ⟨hx, hb, hml, hc.2.2.1, hc.2.2.2⟩ (m_X0_leadOf l g S 0 B y (by decide : 0 < 2) (f_X6_known a1 B) (lt_X6_known hN) _ _ hN) ⟨kw_N hc hk 1 nq795 q2 q483 rfl rfl (by decide +kernel) ⟨Nat.le_of_ble_eq_true rfl, Nat.le_of_ble_eq_true rfl⟩, hc.2.2.2 _ q482, hc.2.2.2 _ qs31⟩ (kp_V hk hw (bt_B (by decide : 0 < 2)) rfl) rfl rfl hl.1 rfl (lv_room (Nat.le_of_ble_eq_true rfl)) dX6_isOverdue_13 ⟨Nat.le_of_ble_eq_true rfl, Nat.le_of_ble_eq_true rfl⟩) (fun H locs hw => ?_)
    refine kc_i hw (va_runVN (As := [.ref (gA g (jC 0 (f_X0_leadOf (f_X6_known a1 B) B)))]) (rest := []) ⟨hx, hb, hml, hc.2.2.1, hc.2.2.2⟩ (m_X0_lacksAnswer l g S 0 B y (by decide : 0 < 2) (f_X0_leadOf (f_X6_known a1 B) B) (lt_X0_leadOf hN (lt_X6_known hN)) _ _ hN) ⟨kw_N hc hk 1 nq769 q2 q772 rfl rfl (by decide +kernel) ⟨Nat.le_of_ble_eq_true rfl, Nat.le_of_ble_eq_true rfl⟩, hc.2.2.2 _ q771, hc.2.2.2 _ qs52⟩ (kp_V hk hw (bt_B (by decide : 0 < 2)) rfl) rfl rfl hl.1 rfl (lv_room (Nat.le_of_ble_eq_true rfl)) dX6_isOverdue_16 ⟨Nat.le_of_ble_eq_true rfl, Nat.le_of_ble_eq_true rfl⟩) (fun H locs hw => ?_)
    refine vx_ret ?_
    refine W.widen (k := 1) (n := 6) (Nat.le_of_ble_eq_true rfl) (Nat.le_of_ble_eq_true rfl) ?_
    exact W.zret (v := f_X0_lacksAnswer (f_X0_leadOf (f_X6_known a1 B) B) B) hx hb hr ok_X0_lacksAnswer.1 (fun t9 ht hW => kz_i hw ht (by simp only [e_X6_isOverdue, if_pos h1]) (by simp only [f_X6_isOverdue, if_pos h1]) rfl) hw.2.2.2 dX6_isOverdue_19
def f_X6_nextDue  (B : BT) : Int32 :=
  (if f_X0_earliestDue B = (-1) then 0 else f_X0_earliestDue B)
def e_X6_nextDue  (B : BT) : Option String :=
  (if f_X0_earliestDue B = (-1) then some "java/util/NoSuchElementException" else none)
set_option maxHeartbeats 4000000 in
set_option maxRecDepth 100000 in
theorem m_X6_nextDue (l : Launch) (g : wG) (hfl : l.stackTraces = false) (S : Nat → BT) (B : BT) (y : (Nat → Nat → Int32) × (Nat → Int64) × (Nat → UInt64)) (n m9 : Nat) (hN : CN B n m9) : xI l yX6_nextDue cX6_nextDue 2 (some .int) ({ frames := 6, cells := 1, slots := 6, locals := 100 } : Room) 1 6 g (xB S 0 B y) [.ref (gA g 0)] (e_X6_nextDue B) (f_X6_nextDue B) (xB S 0 B y) := by
  refine vx_ofW (cc := cX6_nextDue) (maxL := 2) (ret := some .int) (by decide) rfl ?_
  intro p9 e s m args below meth c s₁ BL hml hT hv
  obtain ⟨rfl, hk, hPB⟩ := hv
  have hx := BL.exec
  have hb := BL.bytes
  have hc : CX p9 c cX6_nextDue s _ m RX6 := ⟨hx, hb, findClass_of_methodNamed BL.named, fun w h => atoms_spec BL.pre w (List.mem_cons_of_mem _ h)⟩
  have hr := BL.returns
  have hlocks := BL.notSynchronized
  have hw : WS g s (xB S 0 B y) s.heap [] := ⟨hPB, va_S.rf⟩
  have hl := lv_entry ([.ref (gA g 0)]) (n := 2) (Nat.le_of_ble_eq_true rfl)
  rw [lg_entry_eq]
  generalize (lg_sl ([.ref (gA g 0)]) ++ List.replicate (2 - (lg_sl ([.ref (gA g 0)])).length) Slot.unset).toArray = ls at hl ⊢
  have hl : lv_has ls 2 [(0, .ref (gA g 0))] := hl
  refine lv_aload_n hx hb dX6_nextDue_0 rfl (lv_at hl 0 rfl) ?_
  refine k_get hc hk hw at_G rfl iX6 0 (by decide) q238 (v := .ref (gA g (jB 0))) rfl dX6_nextDue_1 ?_
  refine kc_i hw (va_runVN (As := []) (rest := []) ⟨hx, hb, hml, hc.2.2.1, hc.2.2.2⟩ (m_X0_earliestDue l g S 0 B y (by decide : 0 < 2) _ _ hN) ⟨kw_N hc hk 0 nq800 q2 q803 rfl rfl (by decide +kernel) ⟨Nat.le_of_ble_eq_true rfl, Nat.le_of_ble_eq_true rfl⟩, hc.2.2.2 _ q802, hc.2.2.2 _ qs53⟩ (kp_V hk hw (bt_B (by decide : 0 < 2)) rfl) rfl rfl hl.1 rfl (lv_room (Nat.le_of_ble_eq_true rfl)) dX6_nextDue_4 ⟨Nat.le_of_ble_eq_true rfl, Nat.le_of_ble_eq_true rfl⟩) (fun H locs hw => ?_)
  refine lv_istore_n (lv' := [(1, .int (f_X0_earliestDue B)), (0, .ref (gA g 0))]) hx hb dX6_nextDue_7 rfl hl (by decide) rfl (fun ls hl => ?_)
  refine lv_iload_n hx hb dX6_nextDue_8 rfl (lv_at hl 0 rfl) ?_
  refine lv_iconst (v := (-1)) hx hb dX6_nextDue_9 (by decide) ?_
  refine lv_icmp_ne (tgt := 23) hx hb dX6_nextDue_10 (by decide) (fun h1 => ?_) (fun h1 => ?_)
  · refine lv_iload_n hx hb dX6_nextDue_23 rfl (lv_at hl 0 rfl) ?_
    refine vx_ret ?_
    refine W.widen (k := 1) (n := 6) (Nat.le_of_ble_eq_true rfl) (Nat.le_of_ble_eq_true rfl) ?_
    exact W.iret (v := f_X0_earliestDue B) hx hb hr (fun t9 ht hW => kz_i hw ht (by simp only [e_X6_nextDue, if_neg h1]) (by simp only [f_X6_nextDue, if_neg h1]) rfl) hw.2.2.2 dX6_nextDue_24
  · exact k_throwZ (text := "nothing is due") hc hk hw hfl hT hlocks hml hl (by decide) tw_144_148 (by decide) dX6_nextDue_13 dX6_nextDue_16 dX6_nextDue_17 dX6_nextDue_19 dX6_nextDue_22 (Nat.le_of_ble_eq_true rfl) (Nat.le_of_ble_eq_true rfl) (Nat.le_of_ble_eq_true rfl) (Nat.le_of_ble_eq_true rfl) (by simp only [e_X6_nextDue, if_pos h1]) (Nat.le_of_ble_eq_true rfl) (Nat.le_of_ble_eq_true rfl)
def f_X6_join (a1 : Int32) (a2 : Int32) (B : BT) : Int32 × BT :=
  (if e_X6_known a1 B = none then (if e_X6_known a2 B = none then (if a1 = a2 then (0, B) else (if f_X0_canFollow (f_X6_known a1 B) (f_X6_known a2 B) B = 0 then (0, B) else ((f_X6_happen 14 a1 a2 B).1, (f_X6_happen 14 a1 a2 B).2))) else (0, B)) else (0, B))
def e_X6_join (a1 : Int32) (a2 : Int32) (B : BT) : Option String :=
  (if e_X6_known a1 B = none then (if e_X6_known a2 B = none then (if a1 = a2 then some "java/lang/IllegalArgumentException" else (if f_X0_canFollow (f_X6_known a1 B) (f_X6_known a2 B) B = 0 then some "java/lang/UnsupportedOperationException" else none)) else e_X6_known a2 B) else e_X6_known a1 B)
set_option maxHeartbeats 4000000 in
set_option maxRecDepth 100000 in
theorem m_X6_join (l : Launch) (g : wG) (hfl : l.stackTraces = false) (S : Nat → BT) (B : BT) (y : (Nat → Nat → Int32) × (Nat → Int64) × (Nat → UInt64)) (a1 : Int32) (a2 : Int32) (n m9 : Nat) (hN : CN B n m9) (hev : ¬ S 2 0 1 < 0) : xI l yX6_join cX6_join 5 (some .int) ({ frames := 10, cells := 3, slots := 18, locals := 232 } : Room) 3 18 g (xB S 0 B y) [.ref (gA g 0), .int a1, .int a2] (e_X6_join a1 a2 B) ((f_X6_join a1 a2 B).1) (xB (f_X2_keep 14 a1 a2 0 0 S) 0 (f_X6_join a1 a2 B).2 y) := by
  refine vx_ofW (cc := cX6_join) (maxL := 5) (ret := some .int) (by decide) rfl ?_
  intro p9 e s m args below meth c s₁ BL hml hT hv
  obtain ⟨rfl, hk, hPB⟩ := hv
  have hx := BL.exec
  have hb := BL.bytes
  have hc : CX p9 c cX6_join s _ m RX6 := ⟨hx, hb, findClass_of_methodNamed BL.named, fun w h => atoms_spec BL.pre w (List.mem_cons_of_mem _ h)⟩
  have hr := BL.returns
  have hlocks := BL.notSynchronized
  have hw : WS g s (xB S 0 B y) s.heap [] := ⟨hPB, va_S.rf⟩
  have hl := lv_entry ([.ref (gA g 0), .int a1, .int a2]) (n := 5) (Nat.le_of_ble_eq_true rfl)
  rw [lg_entry_eq]
  generalize (lg_sl ([.ref (gA g 0), .int a1, .int a2]) ++ List.replicate (5 - (lg_sl ([.ref (gA g 0), .int a1, .int a2])).length) Slot.unset).toArray = ls at hl ⊢
  have hl : lv_has ls 5 [(0, .ref (gA g 0)), (1, .int a1), (2, .int a2)] := hl
  refine lv_aload_n hx hb dX6_join_0 rfl (lv_at hl 0 rfl) ?_
  refine lv_iload_n hx hb dX6_join_1 rfl (lv_at hl 1 rfl) ?_
  refine kx_r hw (vx_runV (As := [.int a1]) (rest := []) ⟨hx, hb, hml, hc.2.2.1, hc.2.2.2⟩ (m_X6_known l g hfl S B y a1 _ _ hN) (kw_V hc 1 q692 q694 qs46 q1 q695 rfl rfl (by decide +kernel) ⟨Nat.le_of_ble_eq_true rfl, Nat.le_of_ble_eq_true rfl⟩) (kp_V hk hw at_G rfl) rfl rfl hl.1 rfl (lv_room (Nat.le_of_ble_eq_true rfl)) dX6_join_2 ⟨Nat.le_of_ble_eq_true rfl, Nat.le_of_ble_eq_true rfl⟩) (fun E ce q8 H locs h1 hw hq hv hE => ?_) (fun H locs h1 hw => ?_)
  · have hn : ¬ e_X6_known a1 B = none := by rw [h1]; exact Option.some_ne_none _
    exact k_out hT hlocks hw hq hv hE (Eq.trans (b := e_X6_known a1 B) (by simp only [e_X6_join, if_neg hn]) h1) (Nat.le_of_ble_eq_true rfl) (Nat.le_of_ble_eq_true rfl)
  · refine lv_astore_n (lv' := [(3, .ref (gA g (jC 0 (f_X6_known a1 B)))), (0, .ref (gA g 0)), (1, .int a1), (2, .int a2)]) hx hb dX6_join_5 rfl hl (by decide) rfl (fun ls hl => ?_)
    refine lv_aload_n hx hb dX6_join_6 rfl (lv_at hl 1 rfl) ?_
    refine lv_iload_n hx hb dX6_join_7 rfl (lv_at hl 3 rfl) ?_
    refine kx_r hw (vx_runV (As := [.int a2]) (rest := []) ⟨hx, hb, hml, hc.2.2.1, hc.2.2.2⟩ (m_X6_known l g hfl S B y a2 _ _ hN) (kw_V hc 1 q692 q694 qs46 q1 q695 rfl rfl (by decide +kernel) ⟨Nat.le_of_ble_eq_true rfl, Nat.le_of_ble_eq_true rfl⟩) (kp_V hk hw at_G rfl) rfl rfl hl.1 rfl (lv_room (Nat.le_of_ble_eq_true rfl)) dX6_join_8 ⟨Nat.le_of_ble_eq_true rfl, Nat.le_of_ble_eq_true rfl⟩) (fun E ce q8 H locs h3 hw hq hv hE => ?_) (fun H locs h3 hw => ?_)
    · have hn : ¬ e_X6_known a2 B = none := by rw [h3]; exact Option.some_ne_none _
      exact k_out hT hlocks hw hq hv hE (Eq.trans (b := e_X6_known a2 B) (by simp only [e_X6_join, if_pos h1, if_neg hn]) h3) (Nat.le_of_ble_eq_true rfl) (Nat.le_of_ble_eq_true rfl)
    · refine lv_astore (lv' := [(4, .ref (gA g (jC 0 (f_X6_known a2 B)))), (3, .ref (gA g (jC 0 (f_X6_known a1 B)))), (0, .ref (gA g 0)), (1, .int a1), (2, .int a2)]) hx hb dX6_join_11 hl (by decide) rfl (fun ls hl => ?_)
      refine lv_iload_n hx hb dX6_join_13 rfl (lv_at hl 3 rfl) ?_
      refine lv_iload_n hx hb dX6_join_14 rfl (lv_at hl 4 rfl) ?_
      refine lv_icmp_ne (tgt := 28) hx hb dX6_join_15 (by decide) (fun h5 => ?_) (fun h5 => ?_)
      · refine lv_aload_n hx hb dX6_join_28 rfl (lv_at hl 2 rfl) ?_
        refine k_get hc hk hw at_G rfl iX6 0 (by decide) q238 (v := .ref (gA g (jB 0))) rfl dX6_join_29 ?_
        refine lv_aload_n hx hb dX6_join_32 rfl (lv_at hl 1 rfl) ?_
        refine lv_aload hx hb dX6_join_33 (lv_at hl 0 rfl) ?_
        refine kc_i hw (va_runVN (As := [.ref (gA g (jC 0 (f_X6_known a1 B))), .ref (gA g (jC 0 (f_X6_known a2 B)))]) (rest := []) ⟨hx, hb, hml, hc.2.2.1, hc.2.2.2⟩ (m_X0_canFollow l g S 0 B y (by decide : 0 < 2) (f_X6_known a1 B) (lt_X6_known hN) (f_X6_known a2 B) (lt_X6_known hN) _ _ hN) ⟨kw_N hc hk 2 nq829 q2 q832 rfl rfl (by decide +kernel) ⟨Nat.le_of_ble_eq_true rfl, Nat.le_of_ble_eq_true rfl⟩, hc.2.2.2 _ q831, hc.2.2.2 _ qs55⟩ (kp_V hk hw (bt_B (by decide : 0 < 2)) rfl) rfl rfl hl.1 rfl (lv_room (Nat.le_of_ble_eq_true rfl)) dX6_join_35 ⟨Nat.le_of_ble_eq_true rfl, Nat.le_of_ble_eq_true rfl⟩) (fun H locs hw => ?_)
        refine lv_if_ne (tgt := 51) hx hb dX6_join_38 (by decide) (fun h6 => ?_) (fun h6 => ?_)
        · refine lv_aload_n hx hb dX6_join_51 rfl (lv_at hl 2 rfl) ?_
          refine lv_bipush (v := 14) hx hb dX6_join_52 (by decide) ?_
          refine lv_iload_n hx hb dX6_join_54 rfl (lv_at hl 3 rfl) ?_
          refine lv_iload_n hx hb dX6_join_55 rfl (lv_at hl 4 rfl) ?_
          refine kc_i hw (va_runV (As := [.int 14, .int a1, .int a2]) (rest := []) ⟨hx, hb, hml, hc.2.2.1, hc.2.2.2⟩ (m_X6_happen l g S B y 14 a1 a2 _ _ hN hev) (kw_V hc 3 q652 q654 qs43 q1 q655 rfl rfl (by decide +kernel) ⟨Nat.le_of_ble_eq_true rfl, Nat.le_of_ble_eq_true rfl⟩) (kp_V hk hw at_G rfl) rfl rfl hl.1 rfl (lv_room (Nat.le_of_ble_eq_true rfl)) dX6_join_56 ⟨Nat.le_of_ble_eq_true rfl, Nat.le_of_ble_eq_true rfl⟩) (fun H locs hw => ?_)
          refine vx_ret ?_
          refine W.widen (k := 3) (n := 18) (Nat.le_of_ble_eq_true rfl) (Nat.le_of_ble_eq_true rfl) ?_
          exact W.iret (v := (f_X6_happen 14 a1 a2 B).1) hx hb hr (fun t9 ht hW => kz_i hw ht (by simp only [e_X6_join, if_pos h1, if_pos h3, if_neg h5, if_neg h6]) (by simp only [f_X6_join, if_pos h1, if_pos h3, if_neg h5, if_neg h6]) (by simp only [f_X6_join, if_pos h1, if_pos h3, if_neg h5, if_neg h6])) hw.2.2.2 dX6_join_59
        · exact k_throwS (text := "it cannot be joined to that") hc hk hw hfl hT hlocks hml hl (by decide) tw_80_84 (by decide) dX6_join_41 dX6_join_44 dX6_join_45 dX6_join_47 dX6_join_50 (Nat.le_of_ble_eq_true rfl) (Nat.le_of_ble_eq_true rfl) (Nat.le_of_ble_eq_true rfl) (Nat.le_of_ble_eq_true rfl) (by simp only [e_X6_join, if_pos h1, if_pos h3, if_neg h5, if_pos h6]) (Nat.le_of_ble_eq_true rfl) (Nat.le_of_ble_eq_true rfl)
      · exact k_throwS (text := "both are the same") hc hk hw hfl hT hlocks hml hl (by decide) tw_97_101 (by decide) dX6_join_18 dX6_join_21 dX6_join_22 dX6_join_24 dX6_join_27 (Nat.le_of_ble_eq_true rfl) (Nat.le_of_ble_eq_true rfl) (Nat.le_of_ble_eq_true rfl) (Nat.le_of_ble_eq_true rfl) (by simp only [e_X6_join, if_pos h1, if_pos h3, if_pos h5]) (Nat.le_of_ble_eq_true rfl) (Nat.le_of_ble_eq_true rfl)
def f_X6_part (a1 : Int32) (B : BT) : Int32 × BT :=
  (if e_X6_known a1 B = none then (if f_X1_isJoined (f_X6_known a1 B) B = 0 then (0, B) else (if f_X3_isTold (f_X0_leadOf (f_X6_known a1 B) B) B = 0 then ((f_X6_happen 15 a1 0 B).1, (f_X6_happen 15 a1 0 B).2) else (0, B))) else (0, B))
def e_X6_part (a1 : Int32) (B : BT) : Option String :=
  (if e_X6_known a1 B = none then (if f_X1_isJoined (f_X6_known a1 B) B = 0 then some "java/lang/UnsupportedOperationException" else (if f_X3_isTold (f_X0_leadOf (f_X6_known a1 B) B) B = 0 then none else some "java/lang/UnsupportedOperationException")) else e_X6_known a1 B)
set_option maxHeartbeats 4000000 in
set_option maxRecDepth 100000 in
theorem m_X6_part (l : Launch) (g : wG) (hfl : l.stackTraces = false) (S : Nat → BT) (B : BT) (y : (Nat → Nat → Int32) × (Nat → Int64) × (Nat → UInt64)) (a1 : Int32) (n m9 : Nat) (hN : CN B n m9) (hev : ¬ S 2 0 1 < 0) : xI l yX6_part cX6_part 3 (some .int) ({ frames := 10, cells := 2, slots := 12, locals := 232 } : Room) 2 12 g (xB S 0 B y) [.ref (gA g 0), .int a1] (e_X6_part a1 B) ((f_X6_part a1 B).1) (xB (f_X2_keep 15 a1 0 0 0 S) 0 (f_X6_part a1 B).2 y) := by
  refine vx_ofW (cc := cX6_part) (maxL := 3) (ret := some .int) (by decide) rfl ?_
  intro p9 e s m args below meth c s₁ BL hml hT hv
  obtain ⟨rfl, hk, hPB⟩ := hv
  have hx := BL.exec
  have hb := BL.bytes
  have hc : CX p9 c cX6_part s _ m RX6 := ⟨hx, hb, findClass_of_methodNamed BL.named, fun w h => atoms_spec BL.pre w (List.mem_cons_of_mem _ h)⟩
  have hr := BL.returns
  have hlocks := BL.notSynchronized
  have hw : WS g s (xB S 0 B y) s.heap [] := ⟨hPB, va_S.rf⟩
  have hl := lv_entry ([.ref (gA g 0), .int a1]) (n := 3) (Nat.le_of_ble_eq_true rfl)
  rw [lg_entry_eq]
  generalize (lg_sl ([.ref (gA g 0), .int a1]) ++ List.replicate (3 - (lg_sl ([.ref (gA g 0), .int a1])).length) Slot.unset).toArray = ls at hl ⊢
  have hl : lv_has ls 3 [(0, .ref (gA g 0)), (1, .int a1)] := hl
  refine lv_aload_n hx hb dX6_part_0 rfl (lv_at hl 0 rfl) ?_
  refine lv_iload_n hx hb dX6_part_1 rfl (lv_at hl 1 rfl) ?_
  refine kx_r hw (vx_runV (As := [.int a1]) (rest := []) ⟨hx, hb, hml, hc.2.2.1, hc.2.2.2⟩ (m_X6_known l g hfl S B y a1 _ _ hN) (kw_V hc 1 q692 q694 qs46 q1 q695 rfl rfl (by decide +kernel) ⟨Nat.le_of_ble_eq_true rfl, Nat.le_of_ble_eq_true rfl⟩) (kp_V hk hw at_G rfl) rfl rfl hl.1 rfl (lv_room (Nat.le_of_ble_eq_true rfl)) dX6_part_2 ⟨Nat.le_of_ble_eq_true rfl, Nat.le_of_ble_eq_true rfl⟩) (fun E ce q8 H locs h1 hw hq hv hE => ?_) (fun H locs h1 hw => ?_)
  · have hn : ¬ e_X6_known a1 B = none := by rw [h1]; exact Option.some_ne_none _
    exact k_out hT hlocks hw hq hv hE (Eq.trans (b := e_X6_known a1 B) (by simp only [e_X6_part, if_neg hn]) h1) (Nat.le_of_ble_eq_true rfl) (Nat.le_of_ble_eq_true rfl)
  · refine lv_astore_n (lv' := [(2, .ref (gA g (jC 0 (f_X6_known a1 B)))), (0, .ref (gA g 0)), (1, .int a1)]) hx hb dX6_part_5 rfl hl (by decide) rfl (fun ls hl => ?_)
    refine lv_aload_n hx hb dX6_part_6 rfl (lv_at hl 0 rfl) ?_
    refine kc_i hw (va_runVN (As := []) (rest := []) ⟨hx, hb, hml, hc.2.2.1, hc.2.2.2⟩ (m_X1_isJoined l g S 0 B y (by decide : 0 < 2) (f_X6_known a1 B) (lt_X6_known hN)) ⟨kw_N hc hk 0 nq760 q4 q763 rfl rfl (by decide +kernel) ⟨Nat.le_of_ble_eq_true rfl, Nat.le_of_ble_eq_true rfl⟩, hc.2.2.2 _ q762, hc.2.2.2 _ qs51⟩ (kp_V hk hw (bt_C (by decide : 0 < 2) (lt_X6_known hN)) rfl) rfl rfl hl.1 rfl (lv_room (Nat.le_of_ble_eq_true rfl)) dX6_part_7 ⟨Nat.le_of_ble_eq_true rfl, Nat.le_of_ble_eq_true rfl⟩) (fun H locs hw => ?_)
    refine lv_if_eq (tgt := 30) hx hb dX6_part_10 (by decide) (fun h3 => ?_) (fun h3 => ?_)
    · exact k_throwS (text := "it is not joined or there was a finding") hc hk hw hfl hT hlocks hml hl (by decide) tw_80_84 (by decide) dX6_part_30 dX6_part_33 dX6_part_34 dX6_part_36 dX6_part_39 (Nat.le_of_ble_eq_true rfl) (Nat.le_of_ble_eq_true rfl) (Nat.le_of_ble_eq_true rfl) (Nat.le_of_ble_eq_true rfl) (by simp only [e_X6_part, if_pos h1, if_pos h3]) (Nat.le_of_ble_eq_true rfl) (Nat.le_of_ble_eq_true rfl)
    · refine lv_aload_n hx hb dX6_part_13 rfl (lv_at hl 1 rfl) ?_
      refine k_get hc hk hw at_G rfl iX6 0 (by decide) q238 (v := .ref (gA g (jB 0))) rfl dX6_part_14 ?_
      refine lv_aload_n hx hb dX6_part_17 rfl (lv_at hl 0 rfl) ?_
      refine kc_r hw (va_runVN (As := [.ref (gA g (jC 0 (f_X6_known a1 B)))]) (rest := []) ⟨hx, hb, hml, hc.2.2.1, hc.2.2.2⟩ (m_X0_leadOf l g S 0 B y (by decide : 0 < 2) (f_X6_known a1 B) (lt_X6_known hN) _ _ hN) ⟨kw_N hc hk 1 nq795 q2 q483 rfl rfl (by decide +kernel) ⟨Nat.le_of_ble_eq_true rfl, Nat.le_of_ble_eq_true rfl⟩, hc.2.2.2 _ q482, hc.2.2.2 _ qs31⟩ (kp_V hk hw (bt_B (by decide : 0 < 2)) rfl) rfl rfl hl.1 rfl (lv_room (Nat.le_of_ble_eq_true rfl)) dX6_part_18 ⟨Nat.le_of_ble_eq_true rfl, Nat.le_of_ble_eq_true rfl⟩) (fun H locs hw => ?_)
      refine k_getN hc hk hw (bt_C (by decide : 0 < 2) (lt_X0_leadOf hN (lt_X6_known hN))) rfl iX1 2 (by decide) nq140 (v := .ref (gA g (jF 0 (f_X0_leadOf (f_X6_known a1 B) B)))) rfl dX6_part_21 ?_
      refine kc_i hw (va_runVN (As := []) (rest := []) ⟨hx, hb, hml, hc.2.2.1, hc.2.2.2⟩ (m_X3_isTold l g S 0 B y (by decide : 0 < 2) (f_X0_leadOf (f_X6_known a1 B) B) (lt_X0_leadOf hN (lt_X6_known hN))) ⟨kw_N hc hk 0 nq839 q6 q842 rfl rfl (by decide +kernel) ⟨Nat.le_of_ble_eq_true rfl, Nat.le_of_ble_eq_true rfl⟩, hc.2.2.2 _ q841, hc.2.2.2 _ qs56⟩ (kp_V hk hw (bt_F (by decide : 0 < 2) (lt_X0_leadOf hN (lt_X6_known hN))) rfl) rfl rfl hl.1 rfl (lv_room (Nat.le_of_ble_eq_true rfl)) dX6_part_24 ⟨Nat.le_of_ble_eq_true rfl, Nat.le_of_ble_eq_true rfl⟩) (fun H locs hw => ?_)
      refine lv_if_eq (tgt := 40) hx hb dX6_part_27 (by decide) (fun h4 => ?_) (fun h4 => ?_)
      · refine lv_aload_n hx hb dX6_part_40 rfl (lv_at hl 1 rfl) ?_
        refine lv_bipush (v := 15) hx hb dX6_part_41 (by decide) ?_
        refine lv_iload_n hx hb dX6_part_43 rfl (lv_at hl 2 rfl) ?_
        refine lv_iconst (v := 0) hx hb dX6_part_44 (by decide) ?_
        refine kc_i hw (va_runV (As := [.int 15, .int a1, .int 0]) (rest := []) ⟨hx, hb, hml, hc.2.2.1, hc.2.2.2⟩ (m_X6_happen l g S B y 15 a1 0 _ _ hN hev) (kw_V hc 3 q652 q654 qs43 q1 q655 rfl rfl (by decide +kernel) ⟨Nat.le_of_ble_eq_true rfl, Nat.le_of_ble_eq_true rfl⟩) (kp_V hk hw at_G rfl) rfl rfl hl.1 rfl (lv_room (Nat.le_of_ble_eq_true rfl)) dX6_part_45 ⟨Nat.le_of_ble_eq_true rfl, Nat.le_of_ble_eq_true rfl⟩) (fun H locs hw => ?_)
        refine vx_ret ?_
        refine W.widen (k := 2) (n := 12) (Nat.le_of_ble_eq_true rfl) (Nat.le_of_ble_eq_true rfl) ?_
        exact W.iret (v := (f_X6_happen 15 a1 0 B).1) hx hb hr (fun t9 ht hW => kz_i hw ht (by simp only [e_X6_part, if_pos h1, if_neg h3, if_pos h4]) (by simp only [f_X6_part, if_pos h1, if_neg h3, if_pos h4]) (by simp only [f_X6_part, if_pos h1, if_neg h3, if_pos h4])) hw.2.2.2 dX6_part_48
      · exact k_throwS (text := "it is not joined or there was a finding") hc hk hw hfl hT hlocks hml hl (by decide) tw_80_84 (by decide) dX6_part_30 dX6_part_33 dX6_part_34 dX6_part_36 dX6_part_39 (Nat.le_of_ble_eq_true rfl) (Nat.le_of_ble_eq_true rfl) (Nat.le_of_ble_eq_true rfl) (Nat.le_of_ble_eq_true rfl) (by simp only [e_X6_part, if_pos h1, if_neg h3, if_neg h4]) (Nat.le_of_ble_eq_true rfl) (Nat.le_of_ble_eq_true rfl)
def f_X6_lead (a1 : Int32) (B : BT) : Int32 :=
  (if e_X6_known a1 B = none then B (10 + (f_X6_known a1 B)) 12 else 0)
def e_X6_lead (a1 : Int32) (B : BT) : Option String :=
  (if e_X6_known a1 B = none then none else e_X6_known a1 B)
set_option maxHeartbeats 4000000 in
set_option maxRecDepth 100000 in
theorem m_X6_lead (l : Launch) (g : wG) (hfl : l.stackTraces = false) (S : Nat → BT) (B : BT) (y : (Nat → Nat → Int32) × (Nat → Int64) × (Nat → UInt64)) (a1 : Int32) (n m9 : Nat) (hN : CN B n m9) : xI l yX6_lead cX6_lead 2 (some .int) ({ frames := 7, cells := 1, slots := 6, locals := 121 } : Room) 1 6 g (xB S 0 B y) [.ref (gA g 0), .int a1] (e_X6_lead a1 B) (f_X6_lead a1 B) (xB S 0 B y) := by
  refine vx_ofW (cc := cX6_lead) (maxL := 2) (ret := some .int) (by decide) rfl ?_
  intro p9 e s m args below meth c s₁ BL hml hT hv
  obtain ⟨rfl, hk, hPB⟩ := hv
  have hx := BL.exec
  have hb := BL.bytes
  have hc : CX p9 c cX6_lead s _ m RX6 := ⟨hx, hb, findClass_of_methodNamed BL.named, fun w h => atoms_spec BL.pre w (List.mem_cons_of_mem _ h)⟩
  have hr := BL.returns
  have hlocks := BL.notSynchronized
  have hw : WS g s (xB S 0 B y) s.heap [] := ⟨hPB, va_S.rf⟩
  have hl := lv_entry ([.ref (gA g 0), .int a1]) (n := 2) (Nat.le_of_ble_eq_true rfl)
  rw [lg_entry_eq]
  generalize (lg_sl ([.ref (gA g 0), .int a1]) ++ List.replicate (2 - (lg_sl ([.ref (gA g 0), .int a1])).length) Slot.unset).toArray = ls at hl ⊢
  have hl : lv_has ls 2 [(0, .ref (gA g 0)), (1, .int a1)] := hl
  refine lv_aload_n hx hb dX6_lead_0 rfl (lv_at hl 0 rfl) ?_
  refine lv_iload_n hx hb dX6_lead_1 rfl (lv_at hl 1 rfl) ?_
  refine kx_r hw (vx_runV (As := [.int a1]) (rest := []) ⟨hx, hb, hml, hc.2.2.1, hc.2.2.2⟩ (m_X6_known l g hfl S B y a1 _ _ hN) (kw_V hc 1 q692 q694 qs46 q1 q695 rfl rfl (by decide +kernel) ⟨Nat.le_of_ble_eq_true rfl, Nat.le_of_ble_eq_true rfl⟩) (kp_V hk hw at_G rfl) rfl rfl hl.1 rfl (lv_room (Nat.le_of_ble_eq_true rfl)) dX6_lead_2 ⟨Nat.le_of_ble_eq_true rfl, Nat.le_of_ble_eq_true rfl⟩) (fun E ce q8 H locs h1 hw hq hv hE => ?_) (fun H locs h1 hw => ?_)
  · have hn : ¬ e_X6_known a1 B = none := by rw [h1]; exact Option.some_ne_none _
    exact k_out hT hlocks hw hq hv hE (Eq.trans (b := e_X6_known a1 B) (by simp only [e_X6_lead, if_neg hn]) h1) (Nat.le_of_ble_eq_true rfl) (Nat.le_of_ble_eq_true rfl)
  · refine k_getN hc hk hw (bt_C (by decide : 0 < 2) (lt_X6_known hN)) rfl iX1 12 (by decide) nq163 (v := .int (B (10 + (f_X6_known a1 B)) 12)) rfl dX6_lead_5 ?_
    refine vx_ret ?_
    refine W.widen (k := 1) (n := 6) (Nat.le_of_ble_eq_true rfl) (Nat.le_of_ble_eq_true rfl) ?_
    exact W.iret (v := B (10 + (f_X6_known a1 B)) 12) hx hb hr (fun t9 ht hW => kz_i hw ht (by simp only [e_X6_lead, if_pos h1]) (by simp only [f_X6_lead, if_pos h1]) rfl) hw.2.2.2 dX6_lead_8
def f_X6_countJoined (a1 : Int32) (B : BT) : Int32 :=
  (if e_X6_known a1 B = none then f_X0_followersOf (f_X6_known a1 B) B else 0)
def e_X6_countJoined (a1 : Int32) (B : BT) : Option String :=
  (if e_X6_known a1 B = none then none else e_X6_known a1 B)
set_option maxHeartbeats 4000000 in
set_option maxRecDepth 100000 in
theorem m_X6_countJoined (l : Launch) (g : wG) (hfl : l.stackTraces = false) (S : Nat → BT) (B : BT) (y : (Nat → Nat → Int32) × (Nat → Int64) × (Nat → UInt64)) (a1 : Int32) (n m9 : Nat) (hN : CN B n m9) : xI l yX6_countJoined cX6_countJoined 2 (some .int) ({ frames := 7, cells := 1, slots := 6, locals := 121 } : Room) 1 6 g (xB S 0 B y) [.ref (gA g 0), .int a1] (e_X6_countJoined a1 B) (f_X6_countJoined a1 B) (xB S 0 B y) := by
  refine vx_ofW (cc := cX6_countJoined) (maxL := 2) (ret := some .int) (by decide) rfl ?_
  intro p9 e s m args below meth c s₁ BL hml hT hv
  obtain ⟨rfl, hk, hPB⟩ := hv
  have hx := BL.exec
  have hb := BL.bytes
  have hc : CX p9 c cX6_countJoined s _ m RX6 := ⟨hx, hb, findClass_of_methodNamed BL.named, fun w h => atoms_spec BL.pre w (List.mem_cons_of_mem _ h)⟩
  have hr := BL.returns
  have hlocks := BL.notSynchronized
  have hw : WS g s (xB S 0 B y) s.heap [] := ⟨hPB, va_S.rf⟩
  have hl := lv_entry ([.ref (gA g 0), .int a1]) (n := 2) (Nat.le_of_ble_eq_true rfl)
  rw [lg_entry_eq]
  generalize (lg_sl ([.ref (gA g 0), .int a1]) ++ List.replicate (2 - (lg_sl ([.ref (gA g 0), .int a1])).length) Slot.unset).toArray = ls at hl ⊢
  have hl : lv_has ls 2 [(0, .ref (gA g 0)), (1, .int a1)] := hl
  refine lv_aload_n hx hb dX6_countJoined_0 rfl (lv_at hl 0 rfl) ?_
  refine k_get hc hk hw at_G rfl iX6 0 (by decide) q238 (v := .ref (gA g (jB 0))) rfl dX6_countJoined_1 ?_
  refine lv_aload_n hx hb dX6_countJoined_4 rfl (lv_at hl 0 rfl) ?_
  refine lv_iload_n hx hb dX6_countJoined_5 rfl (lv_at hl 1 rfl) ?_
  refine kx_r hw (vx_runV (As := [.int a1]) (rest := [.ref (gA g (jB 0))]) ⟨hx, hb, hml, hc.2.2.1, hc.2.2.2⟩ (m_X6_known l g hfl S B y a1 _ _ hN) (kw_V hc 1 q692 q694 qs46 q1 q695 rfl rfl (by decide +kernel) ⟨Nat.le_of_ble_eq_true rfl, Nat.le_of_ble_eq_true rfl⟩) (kp_V hk hw at_G rfl) rfl rfl hl.1 rfl (lv_room (Nat.le_of_ble_eq_true rfl)) dX6_countJoined_6 ⟨Nat.le_of_ble_eq_true rfl, Nat.le_of_ble_eq_true rfl⟩) (fun E ce q8 H locs h1 hw hq hv hE => ?_) (fun H locs h1 hw => ?_)
  · have hn : ¬ e_X6_known a1 B = none := by rw [h1]; exact Option.some_ne_none _
    exact k_out hT hlocks hw hq hv hE (Eq.trans (b := e_X6_known a1 B) (by simp only [e_X6_countJoined, if_neg hn]) h1) (Nat.le_of_ble_eq_true rfl) (Nat.le_of_ble_eq_true rfl)
  · refine kc_i hw (va_runVN (As := [.ref (gA g (jC 0 (f_X6_known a1 B)))]) (rest := []) ⟨hx, hb, hml, hc.2.2.1, hc.2.2.2⟩ (m_X0_followersOf l g S 0 B y (by decide : 0 < 2) (f_X6_known a1 B) (lt_X6_known hN) _ _ hN) ⟨kw_N hc hk 1 nq852 q2 q446 rfl rfl (by decide +kernel) ⟨Nat.le_of_ble_eq_true rfl, Nat.le_of_ble_eq_true rfl⟩, hc.2.2.2 _ q445, hc.2.2.2 _ qs23⟩ (kp_V hk hw (bt_B (by decide : 0 < 2)) rfl) rfl rfl hl.1 rfl (lv_room (Nat.le_of_ble_eq_true rfl)) dX6_countJoined_9 ⟨Nat.le_of_ble_eq_true rfl, Nat.le_of_ble_eq_true rfl⟩) (fun H locs hw => ?_)
    refine vx_ret ?_
    refine W.widen (k := 1) (n := 6) (Nat.le_of_ble_eq_true rfl) (Nat.le_of_ble_eq_true rfl) ?_
    exact W.iret (v := f_X0_followersOf (f_X6_known a1 B) B) hx hb hr (fun t9 ht hW => kz_i hw ht (by simp only [e_X6_countJoined, if_pos h1]) (by simp only [f_X6_countJoined, if_pos h1]) rfl) hw.2.2.2 dX6_countJoined_12
def f_X6_setWeight (a1 : Int32) (a2 : Int32) (B : BT) : Int32 × BT :=
  (if e_X6_requireRange a1 0 4 = none then (if e_X6_requireRange a2 1 9 = none then ((f_X6_happen 3 a1 a2 B).1, (f_X6_happen 3 a1 a2 B).2) else (0, B)) else (0, B))
def e_X6_setWeight (a1 : Int32) (a2 : Int32) (B : BT) : Option String :=
  (if e_X6_requireRange a1 0 4 = none then (if e_X6_requireRange a2 1 9 = none then none else e_X6_requireRange a2 1 9) else e_X6_requireRange a1 0 4)
set_option maxHeartbeats 4000000 in
set_option maxRecDepth 100000 in
theorem m_X6_setWeight (l : Launch) (g : wG) (hfl : l.stackTraces = false) (S : Nat → BT) (B : BT) (y : (Nat → Nat → Int32) × (Nat → Int64) × (Nat → UInt64)) (a1 : Int32) (a2 : Int32) (n m9 : Nat) (hN : CN B n m9) (hev : ¬ S 2 0 1 < 0) : xI l yX6_setWeight cX6_setWeight 3 (some .int) ({ frames := 10, cells := 2, slots := 12, locals := 232 } : Room) 2 12 g (xB S 0 B y) [.ref (gA g 0), .int a1, .int a2] (e_X6_setWeight a1 a2 B) ((f_X6_setWeight a1 a2 B).1) (xB (f_X2_keep 3 a1 a2 0 0 S) 0 (f_X6_setWeight a1 a2 B).2 y) := by
  refine vx_ofW (cc := cX6_setWeight) (maxL := 3) (ret := some .int) (by decide) rfl ?_
  intro p9 e s m args below meth c s₁ BL hml hT hv
  obtain ⟨rfl, hk, hPB⟩ := hv
  have hx := BL.exec
  have hb := BL.bytes
  have hc : CX p9 c cX6_setWeight s _ m RX6 := ⟨hx, hb, findClass_of_methodNamed BL.named, fun w h => atoms_spec BL.pre w (List.mem_cons_of_mem _ h)⟩
  have hr := BL.returns
  have hlocks := BL.notSynchronized
  have hw : WS g s (xB S 0 B y) s.heap [] := ⟨hPB, va_S.rf⟩
  have hl := lv_entry ([.ref (gA g 0), .int a1, .int a2]) (n := 3) (Nat.le_of_ble_eq_true rfl)
  rw [lg_entry_eq]
  generalize (lg_sl ([.ref (gA g 0), .int a1, .int a2]) ++ List.replicate (3 - (lg_sl ([.ref (gA g 0), .int a1, .int a2])).length) Slot.unset).toArray = ls at hl ⊢
  have hl : lv_has ls 3 [(0, .ref (gA g 0)), (1, .int a1), (2, .int a2)] := hl
  refine lv_aload_n hx hb dX6_setWeight_0 rfl (lv_at hl 0 rfl) ?_
  refine lv_iload_n hx hb dX6_setWeight_1 rfl (lv_at hl 1 rfl) ?_
  refine lv_iconst (v := 0) hx hb dX6_setWeight_2 (by decide) ?_
  refine lv_iconst (v := 4) hx hb dX6_setWeight_3 (by decide) ?_
  refine kx_v hw (vx_runV (As := [.int a1, .int 0, .int 4]) (rest := []) ⟨hx, hb, hml, hc.2.2.1, hc.2.2.2⟩ (m_X6_requireRange l g hfl S B y a1 0 4) (kw_V hc 3 q616 q618 qs42 q1 q619 rfl rfl (by decide +kernel) ⟨Nat.le_of_ble_eq_true rfl, Nat.le_of_ble_eq_true rfl⟩) (kp_V hk hw at_G rfl) rfl rfl hl.1 rfl (lv_room (Nat.le_of_ble_eq_true rfl)) dX6_setWeight_4 ⟨Nat.le_of_ble_eq_true rfl, Nat.le_of_ble_eq_true rfl⟩) (fun E ce q8 H locs h1 hw hq hv hE => ?_) (fun H locs h1 hw => ?_)
  · have hn : ¬ e_X6_requireRange a1 0 4 = none := by rw [h1]; exact Option.some_ne_none _
    exact k_out hT hlocks hw hq hv hE (Eq.trans (b := e_X6_requireRange a1 0 4) (by simp only [e_X6_setWeight, if_neg hn]) h1) (Nat.le_of_ble_eq_true rfl) (Nat.le_of_ble_eq_true rfl)
  · refine lv_aload_n hx hb dX6_setWeight_7 rfl (lv_at hl 0 rfl) ?_
    refine lv_iload_n hx hb dX6_setWeight_8 rfl (lv_at hl 2 rfl) ?_
    refine lv_iconst (v := 1) hx hb dX6_setWeight_9 (by decide) ?_
    refine lv_bipush (v := 9) hx hb dX6_setWeight_10 (by decide) ?_
    refine kx_v hw (vx_runV (As := [.int a2, .int 1, .int 9]) (rest := []) ⟨hx, hb, hml, hc.2.2.1, hc.2.2.2⟩ (m_X6_requireRange l g hfl S B y a2 1 9) (kw_V hc 3 q616 q618 qs42 q1 q619 rfl rfl (by decide +kernel) ⟨Nat.le_of_ble_eq_true rfl, Nat.le_of_ble_eq_true rfl⟩) (kp_V hk hw at_G rfl) rfl rfl hl.1 rfl (lv_room (Nat.le_of_ble_eq_true rfl)) dX6_setWeight_12 ⟨Nat.le_of_ble_eq_true rfl, Nat.le_of_ble_eq_true rfl⟩) (fun E ce q8 H locs h3 hw hq hv hE => ?_) (fun H locs h3 hw => ?_)
    · have hn : ¬ e_X6_requireRange a2 1 9 = none := by rw [h3]; exact Option.some_ne_none _
      exact k_out hT hlocks hw hq hv hE (Eq.trans (b := e_X6_requireRange a2 1 9) (by simp only [e_X6_setWeight, if_pos h1, if_neg hn]) h3) (Nat.le_of_ble_eq_true rfl) (Nat.le_of_ble_eq_true rfl)
    · refine lv_aload_n hx hb dX6_setWeight_15 rfl (lv_at hl 0 rfl) ?_
      refine lv_iconst (v := 3) hx hb dX6_setWeight_16 (by decide) ?_
      refine lv_iload_n hx hb dX6_setWeight_17 rfl (lv_at hl 1 rfl) ?_
      refine lv_iload_n hx hb dX6_setWeight_18 rfl (lv_at hl 2 rfl) ?_
      refine kc_i hw (va_runV (As := [.int 3, .int a1, .int a2]) (rest := []) ⟨hx, hb, hml, hc.2.2.1, hc.2.2.2⟩ (m_X6_happen l g S B y 3 a1 a2 _ _ hN hev) (kw_V hc 3 q652 q654 qs43 q1 q655 rfl rfl (by decide +kernel) ⟨Nat.le_of_ble_eq_true rfl, Nat.le_of_ble_eq_true rfl⟩) (kp_V hk hw at_G rfl) rfl rfl hl.1 rfl (lv_room (Nat.le_of_ble_eq_true rfl)) dX6_setWeight_19 ⟨Nat.le_of_ble_eq_true rfl, Nat.le_of_ble_eq_true rfl⟩) (fun H locs hw => ?_)
      refine vx_ret ?_
      refine W.widen (k := 2) (n := 12) (Nat.le_of_ble_eq_true rfl) (Nat.le_of_ble_eq_true rfl) ?_
      exact W.iret (v := (f_X6_happen 3 a1 a2 B).1) hx hb hr (fun t9 ht hW => kz_i hw ht (by simp only [e_X6_setWeight, if_pos h1, if_pos h3]) (by simp only [f_X6_setWeight, if_pos h1, if_pos h3]) (by simp only [f_X6_setWeight, if_pos h1, if_pos h3])) hw.2.2.2 dX6_setWeight_22
def f_X6_find (a1 : Int32) (a2 : Int32) (B : BT) : Int32 × BT :=
  (if e_X6_known a1 B = none then (if e_X6_requireRange a2 0 31 = none then (if e_X6_requireOwn (f_X6_known a1 B) 115 B = none then ((f_X6_happen 16 a1 a2 B).1, (f_X6_happen 16 a1 a2 B).2) else (0, B)) else (0, B)) else (0, B))
def e_X6_find (a1 : Int32) (a2 : Int32) (B : BT) : Option String :=
  (if e_X6_known a1 B = none then (if e_X6_requireRange a2 0 31 = none then (if e_X6_requireOwn (f_X6_known a1 B) 115 B = none then none else e_X6_requireOwn (f_X6_known a1 B) 115 B) else e_X6_requireRange a2 0 31) else e_X6_known a1 B)
set_option maxHeartbeats 4000000 in
set_option maxRecDepth 100000 in
theorem m_X6_find (l : Launch) (g : wG) (hfl : l.stackTraces = false) (S : Nat → BT) (B : BT) (y : (Nat → Nat → Int32) × (Nat → Int64) × (Nat → UInt64)) (a1 : Int32) (a2 : Int32) (n m9 : Nat) (hN : CN B n m9) (hev : ¬ S 2 0 1 < 0) : xI l yX6_find cX6_find 4 (some .int) ({ frames := 10, cells := 3, slots := 18, locals := 232 } : Room) 3 18 g (xB S 0 B y) [.ref (gA g 0), .int a1, .int a2] (e_X6_find a1 a2 B) ((f_X6_find a1 a2 B).1) (xB (f_X2_keep 16 a1 a2 0 0 S) 0 (f_X6_find a1 a2 B).2 y) := by
  refine vx_ofW (cc := cX6_find) (maxL := 4) (ret := some .int) (by decide) rfl ?_
  intro p9 e s m args below meth c s₁ BL hml hT hv
  obtain ⟨rfl, hk, hPB⟩ := hv
  have hx := BL.exec
  have hb := BL.bytes
  have hc : CX p9 c cX6_find s _ m RX6 := ⟨hx, hb, findClass_of_methodNamed BL.named, fun w h => atoms_spec BL.pre w (List.mem_cons_of_mem _ h)⟩
  have hr := BL.returns
  have hlocks := BL.notSynchronized
  have hw : WS g s (xB S 0 B y) s.heap [] := ⟨hPB, va_S.rf⟩
  have hl := lv_entry ([.ref (gA g 0), .int a1, .int a2]) (n := 4) (Nat.le_of_ble_eq_true rfl)
  rw [lg_entry_eq]
  generalize (lg_sl ([.ref (gA g 0), .int a1, .int a2]) ++ List.replicate (4 - (lg_sl ([.ref (gA g 0), .int a1, .int a2])).length) Slot.unset).toArray = ls at hl ⊢
  have hl : lv_has ls 4 [(0, .ref (gA g 0)), (1, .int a1), (2, .int a2)] := hl
  refine lv_aload_n hx hb dX6_find_0 rfl (lv_at hl 0 rfl) ?_
  refine lv_iload_n hx hb dX6_find_1 rfl (lv_at hl 1 rfl) ?_
  refine kx_r hw (vx_runV (As := [.int a1]) (rest := []) ⟨hx, hb, hml, hc.2.2.1, hc.2.2.2⟩ (m_X6_known l g hfl S B y a1 _ _ hN) (kw_V hc 1 q692 q694 qs46 q1 q695 rfl rfl (by decide +kernel) ⟨Nat.le_of_ble_eq_true rfl, Nat.le_of_ble_eq_true rfl⟩) (kp_V hk hw at_G rfl) rfl rfl hl.1 rfl (lv_room (Nat.le_of_ble_eq_true rfl)) dX6_find_2 ⟨Nat.le_of_ble_eq_true rfl, Nat.le_of_ble_eq_true rfl⟩) (fun E ce q8 H locs h1 hw hq hv hE => ?_) (fun H locs h1 hw => ?_)
  · have hn : ¬ e_X6_known a1 B = none := by rw [h1]; exact Option.some_ne_none _
    exact k_out hT hlocks hw hq hv hE (Eq.trans (b := e_X6_known a1 B) (by simp only [e_X6_find, if_neg hn]) h1) (Nat.le_of_ble_eq_true rfl) (Nat.le_of_ble_eq_true rfl)
  · refine lv_astore_n (lv' := [(3, .ref (gA g (jC 0 (f_X6_known a1 B)))), (0, .ref (gA g 0)), (1, .int a1), (2, .int a2)]) hx hb dX6_find_5 rfl hl (by decide) rfl (fun ls hl => ?_)
    refine lv_aload_n hx hb dX6_find_6 rfl (lv_at hl 1 rfl) ?_
    refine lv_iload_n hx hb dX6_find_7 rfl (lv_at hl 3 rfl) ?_
    refine lv_iconst (v := 0) hx hb dX6_find_8 (by decide) ?_
    refine lv_bipush (v := 31) hx hb dX6_find_9 (by decide) ?_
    refine kx_v hw (vx_runV (As := [.int a2, .int 0, .int 31]) (rest := []) ⟨hx, hb, hml, hc.2.2.1, hc.2.2.2⟩ (m_X6_requireRange l g hfl S B y a2 0 31) (kw_V hc 3 q616 q618 qs42 q1 q619 rfl rfl (by decide +kernel) ⟨Nat.le_of_ble_eq_true rfl, Nat.le_of_ble_eq_true rfl⟩) (kp_V hk hw at_G rfl) rfl rfl hl.1 rfl (lv_room (Nat.le_of_ble_eq_true rfl)) dX6_find_11 ⟨Nat.le_of_ble_eq_true rfl, Nat.le_of_ble_eq_true rfl⟩) (fun E ce q8 H locs h3 hw hq hv hE => ?_) (fun H locs h3 hw => ?_)
    · have hn : ¬ e_X6_requireRange a2 0 31 = none := by rw [h3]; exact Option.some_ne_none _
      exact k_out hT hlocks hw hq hv hE (Eq.trans (b := e_X6_requireRange a2 0 31) (by simp only [e_X6_find, if_pos h1, if_neg hn]) h3) (Nat.le_of_ble_eq_true rfl) (Nat.le_of_ble_eq_true rfl)
    · refine lv_aload_n hx hb dX6_find_14 rfl (lv_at hl 1 rfl) ?_
      refine lv_aload_n hx hb dX6_find_15 rfl (lv_at hl 0 rfl) ?_
      refine lv_bipush (v := 115) hx hb dX6_find_16 (by decide) ?_
      refine kx_v hw (vx_runV (As := [.ref (gA g (jC 0 (f_X6_known a1 B))), .int 115]) (rest := []) ⟨hx, hb, hml, hc.2.2.1, hc.2.2.2⟩ (m_X6_requireOwn l g hfl S B y (f_X6_known a1 B) (lt_X6_known hN) 115) (kw_V hc 2 q756 q758 qs50 q1 q759 rfl rfl (by decide +kernel) ⟨Nat.le_of_ble_eq_true rfl, Nat.le_of_ble_eq_true rfl⟩) (kp_V hk hw at_G rfl) rfl rfl hl.1 rfl (lv_room (Nat.le_of_ble_eq_true rfl)) dX6_find_18 ⟨Nat.le_of_ble_eq_true rfl, Nat.le_of_ble_eq_true rfl⟩) (fun E ce q8 H locs h5 hw hq hv hE => ?_) (fun H locs h5 hw => ?_)
      · have hn : ¬ e_X6_requireOwn (f_X6_known a1 B) 115 B = none := by rw [h5]; exact Option.some_ne_none _
        exact k_out hT hlocks hw hq hv hE (Eq.trans (b := e_X6_requireOwn (f_X6_known a1 B) 115 B) (by simp only [e_X6_find, if_pos h1, if_pos h3, if_neg hn]) h5) (Nat.le_of_ble_eq_true rfl) (Nat.le_of_ble_eq_true rfl)
      · refine lv_aload_n hx hb dX6_find_21 rfl (lv_at hl 1 rfl) ?_
        refine lv_bipush (v := 16) hx hb dX6_find_22 (by decide) ?_
        refine lv_iload_n hx hb dX6_find_24 rfl (lv_at hl 2 rfl) ?_
        refine lv_iload_n hx hb dX6_find_25 rfl (lv_at hl 3 rfl) ?_
        refine kc_i hw (va_runV (As := [.int 16, .int a1, .int a2]) (rest := []) ⟨hx, hb, hml, hc.2.2.1, hc.2.2.2⟩ (m_X6_happen l g S B y 16 a1 a2 _ _ hN hev) (kw_V hc 3 q652 q654 qs43 q1 q655 rfl rfl (by decide +kernel) ⟨Nat.le_of_ble_eq_true rfl, Nat.le_of_ble_eq_true rfl⟩) (kp_V hk hw at_G rfl) rfl rfl hl.1 rfl (lv_room (Nat.le_of_ble_eq_true rfl)) dX6_find_26 ⟨Nat.le_of_ble_eq_true rfl, Nat.le_of_ble_eq_true rfl⟩) (fun H locs hw => ?_)
        refine vx_ret ?_
        refine W.widen (k := 3) (n := 18) (Nat.le_of_ble_eq_true rfl) (Nat.le_of_ble_eq_true rfl) ?_
        exact W.iret (v := (f_X6_happen 16 a1 a2 B).1) hx hb hr (fun t9 ht hW => kz_i hw ht (by simp only [e_X6_find, if_pos h1, if_pos h3, if_pos h5]) (by simp only [f_X6_find, if_pos h1, if_pos h3, if_pos h5]) (by simp only [f_X6_find, if_pos h1, if_pos h3, if_pos h5])) hw.2.2.2 dX6_find_29
def f_X6_heads (a1 : Int32) (B : BT) : Int32 :=
  (if e_X6_known a1 B = none then (if f_X3_isTold (f_X0_leadOf (f_X6_known a1 B) B) B = 0 then 0 else B (50 + (f_X0_leadOf (f_X6_known a1 B) B)) 0) else 0)
def e_X6_heads (a1 : Int32) (B : BT) : Option String :=
  (if e_X6_known a1 B = none then (if f_X3_isTold (f_X0_leadOf (f_X6_known a1 B) B) B = 0 then some "java/util/NoSuchElementException" else none) else e_X6_known a1 B)
set_option maxHeartbeats 4000000 in
set_option maxRecDepth 100000 in
theorem m_X6_heads (l : Launch) (g : wG) (hfl : l.stackTraces = false) (S : Nat → BT) (B : BT) (y : (Nat → Nat → Int32) × (Nat → Int64) × (Nat → UInt64)) (a1 : Int32) (n m9 : Nat) (hN : CN B n m9) : xI l yX6_heads cX6_heads 3 (some .int) ({ frames := 7, cells := 2, slots := 12, locals := 121 } : Room) 2 12 g (xB S 0 B y) [.ref (gA g 0), .int a1] (e_X6_heads a1 B) (f_X6_heads a1 B) (xB S 0 B y) := by
  refine vx_ofW (cc := cX6_heads) (maxL := 3) (ret := some .int) (by decide) rfl ?_
  intro p9 e s m args below meth c s₁ BL hml hT hv
  obtain ⟨rfl, hk, hPB⟩ := hv
  have hx := BL.exec
  have hb := BL.bytes
  have hc : CX p9 c cX6_heads s _ m RX6 := ⟨hx, hb, findClass_of_methodNamed BL.named, fun w h => atoms_spec BL.pre w (List.mem_cons_of_mem _ h)⟩
  have hr := BL.returns
  have hlocks := BL.notSynchronized
  have hw : WS g s (xB S 0 B y) s.heap [] := ⟨hPB, va_S.rf⟩
  have hl := lv_entry ([.ref (gA g 0), .int a1]) (n := 3) (Nat.le_of_ble_eq_true rfl)
  rw [lg_entry_eq]
  generalize (lg_sl ([.ref (gA g 0), .int a1]) ++ List.replicate (3 - (lg_sl ([.ref (gA g 0), .int a1])).length) Slot.unset).toArray = ls at hl ⊢
  have hl : lv_has ls 3 [(0, .ref (gA g 0)), (1, .int a1)] := hl
  refine lv_aload_n hx hb dX6_heads_0 rfl (lv_at hl 0 rfl) ?_
  refine k_get hc hk hw at_G rfl iX6 0 (by decide) q238 (v := .ref (gA g (jB 0))) rfl dX6_heads_1 ?_
  refine lv_aload_n hx hb dX6_heads_4 rfl (lv_at hl 0 rfl) ?_
  refine lv_iload_n hx hb dX6_heads_5 rfl (lv_at hl 1 rfl) ?_
  refine kx_r hw (vx_runV (As := [.int a1]) (rest := [.ref (gA g (jB 0))]) ⟨hx, hb, hml, hc.2.2.1, hc.2.2.2⟩ (m_X6_known l g hfl S B y a1 _ _ hN) (kw_V hc 1 q692 q694 qs46 q1 q695 rfl rfl (by decide +kernel) ⟨Nat.le_of_ble_eq_true rfl, Nat.le_of_ble_eq_true rfl⟩) (kp_V hk hw at_G rfl) rfl rfl hl.1 rfl (lv_room (Nat.le_of_ble_eq_true rfl)) dX6_heads_6 ⟨Nat.le_of_ble_eq_true rfl, Nat.le_of_ble_eq_true rfl⟩) (fun E ce q8 H locs h1 hw hq hv hE => ?_) (fun H locs h1 hw => ?_)
  · have hn : ¬ e_X6_known a1 B = none := by rw [h1]; exact Option.some_ne_none _
    exact k_out hT hlocks hw hq hv hE (Eq.trans (b := e_X6_known a1 B) (by simp only [e_X6_heads, if_neg hn]) h1) (Nat.le_of_ble_eq_true rfl) (Nat.le_of_ble_eq_true rfl)
  · refine kc_r hw (va_runVN (As := [.ref (gA g (jC 0 (f_X6_known a1 B)))]) (rest := []) ⟨hx, hb, hml, hc.2.2.1, hc.2.2.2⟩ (m_X0_leadOf l g S 0 B y (by decide : 0 < 2) (f_X6_known a1 B) (lt_X6_known hN) _ _ hN) ⟨kw_N hc hk 1 nq795 q2 q483 rfl rfl (by decide +kernel) ⟨Nat.le_of_ble_eq_true rfl, Nat.le_of_ble_eq_true rfl⟩, hc.2.2.2 _ q482, hc.2.2.2 _ qs31⟩ (kp_V hk hw (bt_B (by decide : 0 < 2)) rfl) rfl rfl hl.1 rfl (lv_room (Nat.le_of_ble_eq_true rfl)) dX6_heads_9 ⟨Nat.le_of_ble_eq_true rfl, Nat.le_of_ble_eq_true rfl⟩) (fun H locs hw => ?_)
    refine k_getN hc hk hw (bt_C (by decide : 0 < 2) (lt_X0_leadOf hN (lt_X6_known hN))) rfl iX1 2 (by decide) nq140 (v := .ref (gA g (jF 0 (f_X0_leadOf (f_X6_known a1 B) B)))) rfl dX6_heads_12 ?_
    refine lv_astore_n (lv' := [(2, .ref (gA g (jF 0 (f_X0_leadOf (f_X6_known a1 B) B)))), (0, .ref (gA g 0)), (1, .int a1)]) hx hb dX6_heads_15 rfl hl (by decide) rfl (fun ls hl => ?_)
    refine lv_aload_n hx hb dX6_heads_16 rfl (lv_at hl 0 rfl) ?_
    refine kc_i hw (va_runVN (As := []) (rest := []) ⟨hx, hb, hml, hc.2.2.1, hc.2.2.2⟩ (m_X3_isTold l g S 0 B y (by decide : 0 < 2) (f_X0_leadOf (f_X6_known a1 B) B) (lt_X0_leadOf hN (lt_X6_known hN))) ⟨kw_N hc hk 0 nq839 q6 q842 rfl rfl (by decide +kernel) ⟨Nat.le_of_ble_eq_true rfl, Nat.le_of_ble_eq_true rfl⟩, hc.2.2.2 _ q841, hc.2.2.2 _ qs56⟩ (kp_V hk hw (bt_F (by decide : 0 < 2) (lt_X0_leadOf hN (lt_X6_known hN))) rfl) rfl rfl hl.1 rfl (lv_room (Nat.le_of_ble_eq_true rfl)) dX6_heads_17 ⟨Nat.le_of_ble_eq_true rfl, Nat.le_of_ble_eq_true rfl⟩) (fun H locs hw => ?_)
    refine lv_if_ne (tgt := 33) hx hb dX6_heads_20 (by decide) (fun h3 => ?_) (fun h3 => ?_)
    · refine lv_aload_n hx hb dX6_heads_33 rfl (lv_at hl 0 rfl) ?_
      refine k_getN hc hk hw (bt_F (by decide : 0 < 2) (lt_X0_leadOf hN (lt_X6_known hN))) rfl iX3 0 (by decide) nq105 (v := .int (B (50 + (f_X0_leadOf (f_X6_known a1 B) B)) 0)) rfl dX6_heads_34 ?_
      refine vx_ret ?_
      refine W.widen (k := 2) (n := 12) (Nat.le_of_ble_eq_true rfl) (Nat.le_of_ble_eq_true rfl) ?_
      exact W.iret (v := B (50 + (f_X0_leadOf (f_X6_known a1 B) B)) 0) hx hb hr (fun t9 ht hW => kz_i hw ht (by simp only [e_X6_heads, if_pos h1, if_neg h3]) (by simp only [f_X6_heads, if_pos h1, if_neg h3]) rfl) hw.2.2.2 dX6_heads_37
    · exact k_throwZ (text := "there was no finding") hc hk hw hfl hT hlocks hml hl (by decide) tw_144_148 (by decide) dX6_heads_23 dX6_heads_26 dX6_heads_27 dX6_heads_29 dX6_heads_32 (Nat.le_of_ble_eq_true rfl) (Nat.le_of_ble_eq_true rfl) (Nat.le_of_ble_eq_true rfl) (Nat.le_of_ble_eq_true rfl) (by simp only [e_X6_heads, if_pos h1, if_pos h3]) (Nat.le_of_ble_eq_true rfl) (Nat.le_of_ble_eq_true rfl)
def f_X6_remedy (a1 : Int32) (B : BT) : Int32 :=
  (if e_X6_known a1 B = none then (if B (50 + (f_X0_leadOf (f_X6_known a1 B) B)) 1 = 0 then 0 else B (50 + (f_X0_leadOf (f_X6_known a1 B) B)) 1) else 0)
def e_X6_remedy (a1 : Int32) (B : BT) : Option String :=
  (if e_X6_known a1 B = none then (if B (50 + (f_X0_leadOf (f_X6_known a1 B) B)) 1 = 0 then some "java/util/NoSuchElementException" else none) else e_X6_known a1 B)
set_option maxHeartbeats 4000000 in
set_option maxRecDepth 100000 in
theorem m_X6_remedy (l : Launch) (g : wG) (hfl : l.stackTraces = false) (S : Nat → BT) (B : BT) (y : (Nat → Nat → Int32) × (Nat → Int64) × (Nat → UInt64)) (a1 : Int32) (n m9 : Nat) (hN : CN B n m9) : xI l yX6_remedy cX6_remedy 3 (some .int) ({ frames := 7, cells := 2, slots := 12, locals := 121 } : Room) 2 12 g (xB S 0 B y) [.ref (gA g 0), .int a1] (e_X6_remedy a1 B) (f_X6_remedy a1 B) (xB S 0 B y) := by
  refine vx_ofW (cc := cX6_remedy) (maxL := 3) (ret := some .int) (by decide) rfl ?_
  intro p9 e s m args below meth c s₁ BL hml hT hv
  obtain ⟨rfl, hk, hPB⟩ := hv
  have hx := BL.exec
  have hb := BL.bytes
  have hc : CX p9 c cX6_remedy s _ m RX6 := ⟨hx, hb, findClass_of_methodNamed BL.named, fun w h => atoms_spec BL.pre w (List.mem_cons_of_mem _ h)⟩
  have hr := BL.returns
  have hlocks := BL.notSynchronized
  have hw : WS g s (xB S 0 B y) s.heap [] := ⟨hPB, va_S.rf⟩
  have hl := lv_entry ([.ref (gA g 0), .int a1]) (n := 3) (Nat.le_of_ble_eq_true rfl)
  rw [lg_entry_eq]
  generalize (lg_sl ([.ref (gA g 0), .int a1]) ++ List.replicate (3 - (lg_sl ([.ref (gA g 0), .int a1])).length) Slot.unset).toArray = ls at hl ⊢
  have hl : lv_has ls 3 [(0, .ref (gA g 0)), (1, .int a1)] := hl
  refine lv_aload_n hx hb dX6_remedy_0 rfl (lv_at hl 0 rfl) ?_
  refine k_get hc hk hw at_G rfl iX6 0 (by decide) q238 (v := .ref (gA g (jB 0))) rfl dX6_remedy_1 ?_
  refine lv_aload_n hx hb dX6_remedy_4 rfl (lv_at hl 0 rfl) ?_
  refine lv_iload_n hx hb dX6_remedy_5 rfl (lv_at hl 1 rfl) ?_
  refine kx_r hw (vx_runV (As := [.int a1]) (rest := [.ref (gA g (jB 0))]) ⟨hx, hb, hml, hc.2.2.1, hc.2.2.2⟩ (m_X6_known l g hfl S B y a1 _ _ hN) (kw_V hc 1 q692 q694 qs46 q1 q695 rfl rfl (by decide +kernel) ⟨Nat.le_of_ble_eq_true rfl, Nat.le_of_ble_eq_true rfl⟩) (kp_V hk hw at_G rfl) rfl rfl hl.1 rfl (lv_room (Nat.le_of_ble_eq_true rfl)) dX6_remedy_6 ⟨Nat.le_of_ble_eq_true rfl, Nat.le_of_ble_eq_true rfl⟩) (fun E ce q8 H locs h1 hw hq hv hE => ?_) (fun H locs h1 hw => ?_)
  · have hn : ¬ e_X6_known a1 B = none := by rw [h1]; exact Option.some_ne_none _
    exact k_out hT hlocks hw hq hv hE (Eq.trans (b := e_X6_known a1 B) (by simp only [e_X6_remedy, if_neg hn]) h1) (Nat.le_of_ble_eq_true rfl) (Nat.le_of_ble_eq_true rfl)
  · refine kc_r hw (va_runVN (As := [.ref (gA g (jC 0 (f_X6_known a1 B)))]) (rest := []) ⟨hx, hb, hml, hc.2.2.1, hc.2.2.2⟩ (m_X0_leadOf l g S 0 B y (by decide : 0 < 2) (f_X6_known a1 B) (lt_X6_known hN) _ _ hN) ⟨kw_N hc hk 1 nq795 q2 q483 rfl rfl (by decide +kernel) ⟨Nat.le_of_ble_eq_true rfl, Nat.le_of_ble_eq_true rfl⟩, hc.2.2.2 _ q482, hc.2.2.2 _ qs31⟩ (kp_V hk hw (bt_B (by decide : 0 < 2)) rfl) rfl rfl hl.1 rfl (lv_room (Nat.le_of_ble_eq_true rfl)) dX6_remedy_9 ⟨Nat.le_of_ble_eq_true rfl, Nat.le_of_ble_eq_true rfl⟩) (fun H locs hw => ?_)
    refine k_getN hc hk hw (bt_C (by decide : 0 < 2) (lt_X0_leadOf hN (lt_X6_known hN))) rfl iX1 2 (by decide) nq140 (v := .ref (gA g (jF 0 (f_X0_leadOf (f_X6_known a1 B) B)))) rfl dX6_remedy_12 ?_
    refine lv_astore_n (lv' := [(2, .ref (gA g (jF 0 (f_X0_leadOf (f_X6_known a1 B) B)))), (0, .ref (gA g 0)), (1, .int a1)]) hx hb dX6_remedy_15 rfl hl (by decide) rfl (fun ls hl => ?_)
    refine lv_aload_n hx hb dX6_remedy_16 rfl (lv_at hl 0 rfl) ?_
    refine k_getN hc hk hw (bt_F (by decide : 0 < 2) (lt_X0_leadOf hN (lt_X6_known hN))) rfl iX3 1 (by decide) nq108 (v := .int (B (50 + (f_X0_leadOf (f_X6_known a1 B) B)) 1)) rfl dX6_remedy_17 ?_
    refine lv_if_ne (tgt := 33) hx hb dX6_remedy_20 (by decide) (fun h3 => ?_) (fun h3 => ?_)
    · refine lv_aload_n hx hb dX6_remedy_33 rfl (lv_at hl 0 rfl) ?_
      refine k_getN hc hk hw (bt_F (by decide : 0 < 2) (lt_X0_leadOf hN (lt_X6_known hN))) rfl iX3 1 (by decide) nq108 (v := .int (B (50 + (f_X0_leadOf (f_X6_known a1 B) B)) 1)) rfl dX6_remedy_34 ?_
      refine vx_ret ?_
      refine W.widen (k := 2) (n := 12) (Nat.le_of_ble_eq_true rfl) (Nat.le_of_ble_eq_true rfl) ?_
      exact W.iret (v := B (50 + (f_X0_leadOf (f_X6_known a1 B) B)) 1) hx hb hr (fun t9 ht hW => kz_i hw ht (by simp only [e_X6_remedy, if_pos h1, if_neg h3]) (by simp only [f_X6_remedy, if_pos h1, if_neg h3]) rfl) hw.2.2.2 dX6_remedy_37
    · exact k_throwZ (text := "there is no remedy") hc hk hw hfl hT hlocks hml hl (by decide) tw_144_148 (by decide) dX6_remedy_23 dX6_remedy_26 dX6_remedy_27 dX6_remedy_29 dX6_remedy_32 (Nat.le_of_ble_eq_true rfl) (Nat.le_of_ble_eq_true rfl) (Nat.le_of_ble_eq_true rfl) (Nat.le_of_ble_eq_true rfl) (by simp only [e_X6_remedy, if_pos h1, if_pos h3]) (Nat.le_of_ble_eq_true rfl) (Nat.le_of_ble_eq_true rfl)
def j_X6_accept_37 (a2 : Int32) : Int32 :=
  (if a2 = 0 then 0 else 1)
def f_X6_accept (a1 : Int32) (a2 : Int32) (B : BT) : Int32 × BT :=
  (if e_X6_known a1 B = none then (if e_X6_requireOwn (f_X6_known a1 B) 100 B = none then (if B (50 + (f_X6_known a1 B)) 4 = 0 then ((f_X6_happen 17 a1 (j_X6_accept_37 a2) B).1, (f_X6_happen 17 a1 (j_X6_accept_37 a2) B).2) else (0, B)) else (0, B)) else (0, B))
def e_X6_accept (a1 : Int32) (a2 : Int32) (B : BT) : Option String :=
  (if e_X6_known a1 B = none then (if e_X6_requireOwn (f_X6_known a1 B) 100 B = none then (if B (50 + (f_X6_known a1 B)) 4 = 0 then none else some "java/lang/UnsupportedOperationException") else e_X6_requireOwn (f_X6_known a1 B) 100 B) else e_X6_known a1 B)
set_option maxHeartbeats 4000000 in
set_option maxRecDepth 100000 in
theorem m_X6_accept (l : Launch) (g : wG) (hfl : l.stackTraces = false) (S : Nat → BT) (B : BT) (y : (Nat → Nat → Int32) × (Nat → Int64) × (Nat → UInt64)) (a1 : Int32) (a2 : Int32) (n m9 : Nat) (hN : CN B n m9) (hev : ¬ S 2 0 1 < 0) : xI l yX6_accept cX6_accept 4 (some .int) ({ frames := 10, cells := 3, slots := 18, locals := 232 } : Room) 3 18 g (xB S 0 B y) [.ref (gA g 0), .int a1, .int a2] (e_X6_accept a1 a2 B) ((f_X6_accept a1 a2 B).1) (xB (f_X2_keep 17 a1 (j_X6_accept_37 a2) 0 0 S) 0 (f_X6_accept a1 a2 B).2 y) := by
  refine vx_ofW (cc := cX6_accept) (maxL := 4) (ret := some .int) (by decide) rfl ?_
  intro p9 e s m args below meth c s₁ BL hml hT hv
  obtain ⟨rfl, hk, hPB⟩ := hv
  have hx := BL.exec
  have hb := BL.bytes
  have hc : CX p9 c cX6_accept s _ m RX6 := ⟨hx, hb, findClass_of_methodNamed BL.named, fun w h => atoms_spec BL.pre w (List.mem_cons_of_mem _ h)⟩
  have hr := BL.returns
  have hlocks := BL.notSynchronized
  have hw : WS g s (xB S 0 B y) s.heap [] := ⟨hPB, va_S.rf⟩
  have hl := lv_entry ([.ref (gA g 0), .int a1, .int a2]) (n := 4) (Nat.le_of_ble_eq_true rfl)
  rw [lg_entry_eq]
  generalize (lg_sl ([.ref (gA g 0), .int a1, .int a2]) ++ List.replicate (4 - (lg_sl ([.ref (gA g 0), .int a1, .int a2])).length) Slot.unset).toArray = ls at hl ⊢
  have hl : lv_has ls 4 [(0, .ref (gA g 0)), (1, .int a1), (2, .int a2)] := hl
  refine lv_aload_n hx hb dX6_accept_0 rfl (lv_at hl 0 rfl) ?_
  refine lv_iload_n hx hb dX6_accept_1 rfl (lv_at hl 1 rfl) ?_
  refine kx_r hw (vx_runV (As := [.int a1]) (rest := []) ⟨hx, hb, hml, hc.2.2.1, hc.2.2.2⟩ (m_X6_known l g hfl S B y a1 _ _ hN) (kw_V hc 1 q692 q694 qs46 q1 q695 rfl rfl (by decide +kernel) ⟨Nat.le_of_ble_eq_true rfl, Nat.le_of_ble_eq_true rfl⟩) (kp_V hk hw at_G rfl) rfl rfl hl.1 rfl (lv_room (Nat.le_of_ble_eq_true rfl)) dX6_accept_2 ⟨Nat.le_of_ble_eq_true rfl, Nat.le_of_ble_eq_true rfl⟩) (fun E ce q8 H locs h1 hw hq hv hE => ?_) (fun H locs h1 hw => ?_)
  · have hn : ¬ e_X6_known a1 B = none := by rw [h1]; exact Option.some_ne_none _
    exact k_out hT hlocks hw hq hv hE (Eq.trans (b := e_X6_known a1 B) (by simp only [e_X6_accept, if_neg hn]) h1) (Nat.le_of_ble_eq_true rfl) (Nat.le_of_ble_eq_true rfl)
  · refine lv_astore_n (lv' := [(3, .ref (gA g (jC 0 (f_X6_known a1 B)))), (0, .ref (gA g 0)), (1, .int a1), (2, .int a2)]) hx hb dX6_accept_5 rfl hl (by decide) rfl (fun ls hl => ?_)
    refine lv_aload_n hx hb dX6_accept_6 rfl (lv_at hl 1 rfl) ?_
    refine lv_aload_n hx hb dX6_accept_7 rfl (lv_at hl 0 rfl) ?_
    refine lv_bipush (v := 100) hx hb dX6_accept_8 (by decide) ?_
    refine kx_v hw (vx_runV (As := [.ref (gA g (jC 0 (f_X6_known a1 B))), .int 100]) (rest := []) ⟨hx, hb, hml, hc.2.2.1, hc.2.2.2⟩ (m_X6_requireOwn l g hfl S B y (f_X6_known a1 B) (lt_X6_known hN) 100) (kw_V hc 2 q756 q758 qs50 q1 q759 rfl rfl (by decide +kernel) ⟨Nat.le_of_ble_eq_true rfl, Nat.le_of_ble_eq_true rfl⟩) (kp_V hk hw at_G rfl) rfl rfl hl.1 rfl (lv_room (Nat.le_of_ble_eq_true rfl)) dX6_accept_10 ⟨Nat.le_of_ble_eq_true rfl, Nat.le_of_ble_eq_true rfl⟩) (fun E ce q8 H locs h3 hw hq hv hE => ?_) (fun H locs h3 hw => ?_)
    · have hn : ¬ e_X6_requireOwn (f_X6_known a1 B) 100 B = none := by rw [h3]; exact Option.some_ne_none _
      exact k_out hT hlocks hw hq hv hE (Eq.trans (b := e_X6_requireOwn (f_X6_known a1 B) 100 B) (by simp only [e_X6_accept, if_pos h1, if_neg hn]) h3) (Nat.le_of_ble_eq_true rfl) (Nat.le_of_ble_eq_true rfl)
    · refine lv_aload_n hx hb dX6_accept_13 rfl (lv_at hl 0 rfl) ?_
      refine k_getN hc hk hw (bt_C (by decide : 0 < 2) (lt_X6_known hN)) rfl iX1 2 (by decide) nq140 (v := .ref (gA g (jF 0 (f_X6_known a1 B)))) rfl dX6_accept_14 ?_
      refine k_getN hc hk hw (bt_F (by decide : 0 < 2) (lt_X6_known hN)) rfl iX3 4 (by decide) nq116 (v := .int (B (50 + (f_X6_known a1 B)) 4)) rfl dX6_accept_17 ?_
      refine lv_if_eq (tgt := 33) hx hb dX6_accept_20 (by decide) (fun h5 => ?_) (fun h5 => ?_)
      · refine lv_aload_n hx hb dX6_accept_33 rfl (lv_at hl 1 rfl) ?_
        refine lv_bipush (v := 17) hx hb dX6_accept_34 (by decide) ?_
        refine lv_iload_n hx hb dX6_accept_36 rfl (lv_at hl 2 rfl) ?_
        have J6 : ∀ (v : Int32), v = (j_X6_accept_37 a2) → ∀ (H : Heap) (locs : List Loc), WS g s (xB S 0 B y) H locs → W p9 l e ({ frames := 10, cells := 3, slots := 18, locals := 232 } : Room) s m ([.ref (gA g 0), .int a1, .int a2] : List Value).toArray below meth c H locs 2 12 (vx_MQ below (va_Qi (fun (v : Int32) (u : wSt) => (e_X6_accept a1 a2 B) = none ∧ v = (f_X6_accept a1 a2 B).1 ∧ u = (xB (f_X2_keep 17 a1 (j_X6_accept_37 a2) 0 0 S) 0 (f_X6_accept a1 a2 B).2 y)) (PB g) (AA g)) (XX g (xB S 0 B y) (e_X6_accept a1 a2 B)) (([.ref (gA g 0), .int a1, .int a2] : List Value).toArray) s 3 18 (AA g)) (F0 m 46 ls (.int v :: ([.int a1, .int 17, .ref (gA g 0)] : List Value))) := by
          intro v ev H locs hw
          subst ev
          refine kc_i hw (va_runV (As := [.int 17, .int a1, .int (j_X6_accept_37 a2)]) (rest := []) ⟨hx, hb, hml, hc.2.2.1, hc.2.2.2⟩ (m_X6_happen l g S B y 17 a1 (j_X6_accept_37 a2) _ _ hN hev) (kw_V hc 3 q652 q654 qs43 q1 q655 rfl rfl (by decide +kernel) ⟨Nat.le_of_ble_eq_true rfl, Nat.le_of_ble_eq_true rfl⟩) (kp_V hk hw at_G rfl) rfl rfl hl.1 rfl (lv_room (Nat.le_of_ble_eq_true rfl)) dX6_accept_46 ⟨Nat.le_of_ble_eq_true rfl, Nat.le_of_ble_eq_true rfl⟩) (fun H locs hw => ?_)
          refine vx_ret ?_
          refine W.widen (k := 3) (n := 18) (Nat.le_of_ble_eq_true rfl) (Nat.le_of_ble_eq_true rfl) ?_
          exact W.iret (v := (f_X6_happen 17 a1 (j_X6_accept_37 a2) B).1) hx hb hr (fun t9 ht hW => kz_i hw ht (by simp only [e_X6_accept, if_pos h1, if_pos h3, if_pos h5]) (by simp only [f_X6_accept, if_pos h1, if_pos h3, if_pos h5]) (by simp only [f_X6_accept, if_pos h1, if_pos h3, if_pos h5])) hw.2.2.2 dX6_accept_49
        refine lv_iload_n hx hb dX6_accept_37 rfl (lv_at hl 3 rfl) ?_
        refine lv_if_eq (tgt := 45) hx hb dX6_accept_38 (by decide) (fun h7 => ?_) (fun h7 => ?_)
        · refine lv_iconst (v := 0) hx hb dX6_accept_45 (by decide) ?_
          exact J6 0 (by simp only [j_X6_accept_37, if_pos h7]) _ _ hw
        · refine lv_iconst (v := 1) hx hb dX6_accept_41 (by decide) ?_
          refine lv_goto (tgt := 46) hx hb dX6_accept_42 (by decide) ?_
          exact J6 1 (by simp only [j_X6_accept_37, if_neg h7]) _ _ hw
      · exact k_throwS (text := "that was told of this remedy") hc hk hw hfl hT hlocks hml hl (by decide) tw_80_84 (by decide) dX6_accept_23 dX6_accept_26 dX6_accept_27 dX6_accept_29 dX6_accept_32 (Nat.le_of_ble_eq_true rfl) (Nat.le_of_ble_eq_true rfl) (Nat.le_of_ble_eq_true rfl) (Nat.le_of_ble_eq_true rfl) (by simp only [e_X6_accept, if_pos h1, if_pos h3, if_neg h5]) (Nat.le_of_ble_eq_true rfl) (Nat.le_of_ble_eq_true rfl)
def f_X6_isAccepted (a1 : Int32) (B : BT) : Int32 :=
  (if e_X6_known a1 B = none then (if B (50 + (f_X0_leadOf (f_X6_known a1 B) B)) 4 = 0 then 0 else B (50 + (f_X0_leadOf (f_X6_known a1 B) B)) 5) else 0)
def e_X6_isAccepted (a1 : Int32) (B : BT) : Option String :=
  (if e_X6_known a1 B = none then (if B (50 + (f_X0_leadOf (f_X6_known a1 B) B)) 4 = 0 then some "java/util/NoSuchElementException" else none) else e_X6_known a1 B)
set_option maxHeartbeats 4000000 in
set_option maxRecDepth 100000 in
theorem m_X6_isAccepted (l : Launch) (g : wG) (hfl : l.stackTraces = false) (S : Nat → BT) (B : BT) (y : (Nat → Nat → Int32) × (Nat → Int64) × (Nat → UInt64)) (a1 : Int32) (n m9 : Nat) (hN : CN B n m9) (hz : okz (B (50 + (f_X0_leadOf (f_X6_known a1 B) B)) 5)) : xI l yX6_isAccepted cX6_isAccepted 3 (some .boolean) ({ frames := 7, cells := 2, slots := 12, locals := 121 } : Room) 2 12 g (xB S 0 B y) [.ref (gA g 0), .int a1] (e_X6_isAccepted a1 B) (f_X6_isAccepted a1 B) (xB S 0 B y) := by
  refine vx_ofW (cc := cX6_isAccepted) (maxL := 3) (ret := some .boolean) (by decide) rfl ?_
  intro p9 e s m args below meth c s₁ BL hml hT hv
  obtain ⟨rfl, hk, hPB⟩ := hv
  have hx := BL.exec
  have hb := BL.bytes
  have hc : CX p9 c cX6_isAccepted s _ m RX6 := ⟨hx, hb, findClass_of_methodNamed BL.named, fun w h => atoms_spec BL.pre w (List.mem_cons_of_mem _ h)⟩
  have hr := BL.returns
  have hlocks := BL.notSynchronized
  have hw : WS g s (xB S 0 B y) s.heap [] := ⟨hPB, va_S.rf⟩
  have hl := lv_entry ([.ref (gA g 0), .int a1]) (n := 3) (Nat.le_of_ble_eq_true rfl)
  rw [lg_entry_eq]
  generalize (lg_sl ([.ref (gA g 0), .int a1]) ++ List.replicate (3 - (lg_sl ([.ref (gA g 0), .int a1])).length) Slot.unset).toArray = ls at hl ⊢
  have hl : lv_has ls 3 [(0, .ref (gA g 0)), (1, .int a1)] := hl
  refine lv_aload_n hx hb dX6_isAccepted_0 rfl (lv_at hl 0 rfl) ?_
  refine k_get hc hk hw at_G rfl iX6 0 (by decide) q238 (v := .ref (gA g (jB 0))) rfl dX6_isAccepted_1 ?_
  refine lv_aload_n hx hb dX6_isAccepted_4 rfl (lv_at hl 0 rfl) ?_
  refine lv_iload_n hx hb dX6_isAccepted_5 rfl (lv_at hl 1 rfl) ?_
  refine kx_r hw (vx_runV (As := [.int a1]) (rest := [.ref (gA g (jB 0))]) ⟨hx, hb, hml, hc.2.2.1, hc.2.2.2⟩ (m_X6_known l g hfl S B y a1 _ _ hN) (kw_V hc 1 q692 q694 qs46 q1 q695 rfl rfl (by decide +kernel) ⟨Nat.le_of_ble_eq_true rfl, Nat.le_of_ble_eq_true rfl⟩) (kp_V hk hw at_G rfl) rfl rfl hl.1 rfl (lv_room (Nat.le_of_ble_eq_true rfl)) dX6_isAccepted_6 ⟨Nat.le_of_ble_eq_true rfl, Nat.le_of_ble_eq_true rfl⟩) (fun E ce q8 H locs h1 hw hq hv hE => ?_) (fun H locs h1 hw => ?_)
  · have hn : ¬ e_X6_known a1 B = none := by rw [h1]; exact Option.some_ne_none _
    exact k_out hT hlocks hw hq hv hE (Eq.trans (b := e_X6_known a1 B) (by simp only [e_X6_isAccepted, if_neg hn]) h1) (Nat.le_of_ble_eq_true rfl) (Nat.le_of_ble_eq_true rfl)
  · refine kc_r hw (va_runVN (As := [.ref (gA g (jC 0 (f_X6_known a1 B)))]) (rest := []) ⟨hx, hb, hml, hc.2.2.1, hc.2.2.2⟩ (m_X0_leadOf l g S 0 B y (by decide : 0 < 2) (f_X6_known a1 B) (lt_X6_known hN) _ _ hN) ⟨kw_N hc hk 1 nq795 q2 q483 rfl rfl (by decide +kernel) ⟨Nat.le_of_ble_eq_true rfl, Nat.le_of_ble_eq_true rfl⟩, hc.2.2.2 _ q482, hc.2.2.2 _ qs31⟩ (kp_V hk hw (bt_B (by decide : 0 < 2)) rfl) rfl rfl hl.1 rfl (lv_room (Nat.le_of_ble_eq_true rfl)) dX6_isAccepted_9 ⟨Nat.le_of_ble_eq_true rfl, Nat.le_of_ble_eq_true rfl⟩) (fun H locs hw => ?_)
    refine k_getN hc hk hw (bt_C (by decide : 0 < 2) (lt_X0_leadOf hN (lt_X6_known hN))) rfl iX1 2 (by decide) nq140 (v := .ref (gA g (jF 0 (f_X0_leadOf (f_X6_known a1 B) B)))) rfl dX6_isAccepted_12 ?_
    refine lv_astore_n (lv' := [(2, .ref (gA g (jF 0 (f_X0_leadOf (f_X6_known a1 B) B)))), (0, .ref (gA g 0)), (1, .int a1)]) hx hb dX6_isAccepted_15 rfl hl (by decide) rfl (fun ls hl => ?_)
    refine lv_aload_n hx hb dX6_isAccepted_16 rfl (lv_at hl 0 rfl) ?_
    refine k_getN hc hk hw (bt_F (by decide : 0 < 2) (lt_X0_leadOf hN (lt_X6_known hN))) rfl iX3 4 (by decide) nq116 (v := .int (B (50 + (f_X0_leadOf (f_X6_known a1 B) B)) 4)) rfl dX6_isAccepted_17 ?_
    refine lv_if_ne (tgt := 33) hx hb dX6_isAccepted_20 (by decide) (fun h3 => ?_) (fun h3 => ?_)
    · refine lv_aload_n hx hb dX6_isAccepted_33 rfl (lv_at hl 0 rfl) ?_
      refine k_getN hc hk hw (bt_F (by decide : 0 < 2) (lt_X0_leadOf hN (lt_X6_known hN))) rfl iX3 5 (by decide) nq119 (v := .int (B (50 + (f_X0_leadOf (f_X6_known a1 B) B)) 5)) rfl dX6_isAccepted_34 ?_
      refine vx_ret ?_
      refine W.widen (k := 2) (n := 12) (Nat.le_of_ble_eq_true rfl) (Nat.le_of_ble_eq_true rfl) ?_
      exact W.zret (v := B (50 + (f_X0_leadOf (f_X6_known a1 B) B)) 5) hx hb hr hz.1 (fun t9 ht hW => kz_i hw ht (by simp only [e_X6_isAccepted, if_pos h1, if_neg h3]) (by simp only [f_X6_isAccepted, if_pos h1, if_neg h3]) rfl) hw.2.2.2 dX6_isAccepted_37
    · exact k_throwZ (text := "nothing was told of this remedy") hc hk hw hfl hT hlocks hml hl (by decide) tw_144_148 (by decide) dX6_isAccepted_23 dX6_isAccepted_26 dX6_isAccepted_27 dX6_isAccepted_29 dX6_isAccepted_32 (Nat.le_of_ble_eq_true rfl) (Nat.le_of_ble_eq_true rfl) (Nat.le_of_ble_eq_true rfl) (Nat.le_of_ble_eq_true rfl) (by simp only [e_X6_isAccepted, if_pos h1, if_pos h3]) (Nat.le_of_ble_eq_true rfl) (Nat.le_of_ble_eq_true rfl)
def f_X6_heed (a1 : Int32) (B : BT) : Int32 × BT :=
  (if e_X6_known a1 B = none then (if e_X6_requireOwn (f_X6_known a1 B) 100 B = none then (if B 0 5 ≤ B (50 + (f_X6_known a1 B)) 2 then ((f_X6_happen 18 a1 0 B).1, (f_X6_happen 18 a1 0 B).2) else (0, B)) else (0, B)) else (0, B))
def e_X6_heed (a1 : Int32) (B : BT) : Option String :=
  (if e_X6_known a1 B = none then (if e_X6_requireOwn (f_X6_known a1 B) 100 B = none then (if B 0 5 ≤ B (50 + (f_X6_known a1 B)) 2 then none else some "java/lang/UnsupportedOperationException") else e_X6_requireOwn (f_X6_known a1 B) 100 B) else e_X6_known a1 B)
set_option maxHeartbeats 4000000 in
set_option maxRecDepth 100000 in
theorem m_X6_heed (l : Launch) (g : wG) (hfl : l.stackTraces = false) (S : Nat → BT) (B : BT) (y : (Nat → Nat → Int32) × (Nat → Int64) × (Nat → UInt64)) (a1 : Int32) (n m9 : Nat) (hN : CN B n m9) (hev : ¬ S 2 0 1 < 0) : xI l yX6_heed cX6_heed 3 (some .int) ({ frames := 10, cells := 3, slots := 18, locals := 232 } : Room) 3 18 g (xB S 0 B y) [.ref (gA g 0), .int a1] (e_X6_heed a1 B) ((f_X6_heed a1 B).1) (xB (f_X2_keep 18 a1 0 0 0 S) 0 (f_X6_heed a1 B).2 y) := by
  refine vx_ofW (cc := cX6_heed) (maxL := 3) (ret := some .int) (by decide) rfl ?_
  intro p9 e s m args below meth c s₁ BL hml hT hv
  obtain ⟨rfl, hk, hPB⟩ := hv
  have hx := BL.exec
  have hb := BL.bytes
  have hc : CX p9 c cX6_heed s _ m RX6 := ⟨hx, hb, findClass_of_methodNamed BL.named, fun w h => atoms_spec BL.pre w (List.mem_cons_of_mem _ h)⟩
  have hr := BL.returns
  have hlocks := BL.notSynchronized
  have hw : WS g s (xB S 0 B y) s.heap [] := ⟨hPB, va_S.rf⟩
  have hl := lv_entry ([.ref (gA g 0), .int a1]) (n := 3) (Nat.le_of_ble_eq_true rfl)
  rw [lg_entry_eq]
  generalize (lg_sl ([.ref (gA g 0), .int a1]) ++ List.replicate (3 - (lg_sl ([.ref (gA g 0), .int a1])).length) Slot.unset).toArray = ls at hl ⊢
  have hl : lv_has ls 3 [(0, .ref (gA g 0)), (1, .int a1)] := hl
  refine lv_aload_n hx hb dX6_heed_0 rfl (lv_at hl 0 rfl) ?_
  refine lv_iload_n hx hb dX6_heed_1 rfl (lv_at hl 1 rfl) ?_
  refine kx_r hw (vx_runV (As := [.int a1]) (rest := []) ⟨hx, hb, hml, hc.2.2.1, hc.2.2.2⟩ (m_X6_known l g hfl S B y a1 _ _ hN) (kw_V hc 1 q692 q694 qs46 q1 q695 rfl rfl (by decide +kernel) ⟨Nat.le_of_ble_eq_true rfl, Nat.le_of_ble_eq_true rfl⟩) (kp_V hk hw at_G rfl) rfl rfl hl.1 rfl (lv_room (Nat.le_of_ble_eq_true rfl)) dX6_heed_2 ⟨Nat.le_of_ble_eq_true rfl, Nat.le_of_ble_eq_true rfl⟩) (fun E ce q8 H locs h1 hw hq hv hE => ?_) (fun H locs h1 hw => ?_)
  · have hn : ¬ e_X6_known a1 B = none := by rw [h1]; exact Option.some_ne_none _
    exact k_out hT hlocks hw hq hv hE (Eq.trans (b := e_X6_known a1 B) (by simp only [e_X6_heed, if_neg hn]) h1) (Nat.le_of_ble_eq_true rfl) (Nat.le_of_ble_eq_true rfl)
  · refine lv_astore_n (lv' := [(2, .ref (gA g (jC 0 (f_X6_known a1 B)))), (0, .ref (gA g 0)), (1, .int a1)]) hx hb dX6_heed_5 rfl hl (by decide) rfl (fun ls hl => ?_)
    refine lv_aload_n hx hb dX6_heed_6 rfl (lv_at hl 1 rfl) ?_
    refine lv_aload_n hx hb dX6_heed_7 rfl (lv_at hl 0 rfl) ?_
    refine lv_bipush (v := 100) hx hb dX6_heed_8 (by decide) ?_
    refine kx_v hw (vx_runV (As := [.ref (gA g (jC 0 (f_X6_known a1 B))), .int 100]) (rest := []) ⟨hx, hb, hml, hc.2.2.1, hc.2.2.2⟩ (m_X6_requireOwn l g hfl S B y (f_X6_known a1 B) (lt_X6_known hN) 100) (kw_V hc 2 q756 q758 qs50 q1 q759 rfl rfl (by decide +kernel) ⟨Nat.le_of_ble_eq_true rfl, Nat.le_of_ble_eq_true rfl⟩) (kp_V hk hw at_G rfl) rfl rfl hl.1 rfl (lv_room (Nat.le_of_ble_eq_true rfl)) dX6_heed_10 ⟨Nat.le_of_ble_eq_true rfl, Nat.le_of_ble_eq_true rfl⟩) (fun E ce q8 H locs h3 hw hq hv hE => ?_) (fun H locs h3 hw => ?_)
    · have hn : ¬ e_X6_requireOwn (f_X6_known a1 B) 100 B = none := by rw [h3]; exact Option.some_ne_none _
      exact k_out hT hlocks hw hq hv hE (Eq.trans (b := e_X6_requireOwn (f_X6_known a1 B) 100 B) (by simp only [e_X6_heed, if_pos h1, if_neg hn]) h3) (Nat.le_of_ble_eq_true rfl) (Nat.le_of_ble_eq_true rfl)
    · refine lv_aload_n hx hb dX6_heed_13 rfl (lv_at hl 1 rfl) ?_
      refine k_get hc hk hw at_G rfl iX6 0 (by decide) q238 (v := .ref (gA g (jB 0))) rfl dX6_heed_14 ?_
      refine k_getN hc hk hw (bt_B (by decide : 0 < 2)) rfl iX0 5 (by decide) nq211 (v := .int (B 0 5)) rfl dX6_heed_17 ?_
      refine lv_aload_n hx hb dX6_heed_20 rfl (lv_at hl 0 rfl) ?_
      refine k_getN hc hk hw (bt_C (by decide : 0 < 2) (lt_X6_known hN)) rfl iX1 2 (by decide) nq140 (v := .ref (gA g (jF 0 (f_X6_known a1 B)))) rfl dX6_heed_21 ?_
      refine k_getN hc hk hw (bt_F (by decide : 0 < 2) (lt_X6_known hN)) rfl iX3 2 (by decide) nq111 (v := .int (B (50 + (f_X6_known a1 B)) 2)) rfl dX6_heed_24 ?_
      refine lv_icmp_le (tgt := 40) hx hb dX6_heed_27 (by decide) (fun h5 => ?_) (fun h5 => ?_)
      · refine lv_aload_n hx hb dX6_heed_40 rfl (lv_at hl 1 rfl) ?_
        refine lv_bipush (v := 18) hx hb dX6_heed_41 (by decide) ?_
        refine lv_iload_n hx hb dX6_heed_43 rfl (lv_at hl 2 rfl) ?_
        refine lv_iconst (v := 0) hx hb dX6_heed_44 (by decide) ?_
        refine kc_i hw (va_runV (As := [.int 18, .int a1, .int 0]) (rest := []) ⟨hx, hb, hml, hc.2.2.1, hc.2.2.2⟩ (m_X6_happen l g S B y 18 a1 0 _ _ hN hev) (kw_V hc 3 q652 q654 qs43 q1 q655 rfl rfl (by decide +kernel) ⟨Nat.le_of_ble_eq_true rfl, Nat.le_of_ble_eq_true rfl⟩) (kp_V hk hw at_G rfl) rfl rfl hl.1 rfl (lv_room (Nat.le_of_ble_eq_true rfl)) dX6_heed_45 ⟨Nat.le_of_ble_eq_true rfl, Nat.le_of_ble_eq_true rfl⟩) (fun H locs hw => ?_)
        refine vx_ret ?_
        refine W.widen (k := 3) (n := 18) (Nat.le_of_ble_eq_true rfl) (Nat.le_of_ble_eq_true rfl) ?_
        exact W.iret (v := (f_X6_happen 18 a1 0 B).1) hx hb hr (fun t9 ht hW => kz_i hw ht (by simp only [e_X6_heed, if_pos h1, if_pos h3, if_pos h5]) (by simp only [f_X6_heed, if_pos h1, if_pos h3, if_pos h5]) (by simp only [f_X6_heed, if_pos h1, if_pos h3, if_pos h5])) hw.2.2.2 dX6_heed_48
      · exact k_throwS (text := "it is over its day") hc hk hw hfl hT hlocks hml hl (by decide) tw_80_84 (by decide) dX6_heed_30 dX6_heed_33 dX6_heed_34 dX6_heed_36 dX6_heed_39 (Nat.le_of_ble_eq_true rfl) (Nat.le_of_ble_eq_true rfl) (Nat.le_of_ble_eq_true rfl) (Nat.le_of_ble_eq_true rfl) (by simp only [e_X6_heed, if_pos h1, if_pos h3, if_neg h5]) (Nat.le_of_ble_eq_true rfl) (Nat.le_of_ble_eq_true rfl)
def f_X6_followUp (a1 : Int32) (B : BT) : Int32 × BT :=
  (if e_X6_known a1 B = none then (if e_X6_requireOwn (f_X6_known a1 B) 100 B = none then (if B (50 + (f_X6_known a1 B)) 2 < B 0 5 then ((f_X6_happen 19 a1 0 B).1, (f_X6_happen 19 a1 0 B).2) else (0, B)) else (0, B)) else (0, B))
def e_X6_followUp (a1 : Int32) (B : BT) : Option String :=
  (if e_X6_known a1 B = none then (if e_X6_requireOwn (f_X6_known a1 B) 100 B = none then (if B (50 + (f_X6_known a1 B)) 2 < B 0 5 then none else some "java/lang/UnsupportedOperationException") else e_X6_requireOwn (f_X6_known a1 B) 100 B) else e_X6_known a1 B)
set_option maxHeartbeats 4000000 in
set_option maxRecDepth 100000 in
theorem m_X6_followUp (l : Launch) (g : wG) (hfl : l.stackTraces = false) (S : Nat → BT) (B : BT) (y : (Nat → Nat → Int32) × (Nat → Int64) × (Nat → UInt64)) (a1 : Int32) (n m9 : Nat) (hN : CN B n m9) (hev : ¬ S 2 0 1 < 0) : xI l yX6_followUp cX6_followUp 3 (some .int) ({ frames := 10, cells := 3, slots := 18, locals := 232 } : Room) 3 18 g (xB S 0 B y) [.ref (gA g 0), .int a1] (e_X6_followUp a1 B) ((f_X6_followUp a1 B).1) (xB (f_X2_keep 19 a1 0 0 0 S) 0 (f_X6_followUp a1 B).2 y) := by
  refine vx_ofW (cc := cX6_followUp) (maxL := 3) (ret := some .int) (by decide) rfl ?_
  intro p9 e s m args below meth c s₁ BL hml hT hv
  obtain ⟨rfl, hk, hPB⟩ := hv
  have hx := BL.exec
  have hb := BL.bytes
  have hc : CX p9 c cX6_followUp s _ m RX6 := ⟨hx, hb, findClass_of_methodNamed BL.named, fun w h => atoms_spec BL.pre w (List.mem_cons_of_mem _ h)⟩
  have hr := BL.returns
  have hlocks := BL.notSynchronized
  have hw : WS g s (xB S 0 B y) s.heap [] := ⟨hPB, va_S.rf⟩
  have hl := lv_entry ([.ref (gA g 0), .int a1]) (n := 3) (Nat.le_of_ble_eq_true rfl)
  rw [lg_entry_eq]
  generalize (lg_sl ([.ref (gA g 0), .int a1]) ++ List.replicate (3 - (lg_sl ([.ref (gA g 0), .int a1])).length) Slot.unset).toArray = ls at hl ⊢
  have hl : lv_has ls 3 [(0, .ref (gA g 0)), (1, .int a1)] := hl
  refine lv_aload_n hx hb dX6_followUp_0 rfl (lv_at hl 0 rfl) ?_
  refine lv_iload_n hx hb dX6_followUp_1 rfl (lv_at hl 1 rfl) ?_
  refine kx_r hw (vx_runV (As := [.int a1]) (rest := []) ⟨hx, hb, hml, hc.2.2.1, hc.2.2.2⟩ (m_X6_known l g hfl S B y a1 _ _ hN) (kw_V hc 1 q692 q694 qs46 q1 q695 rfl rfl (by decide +kernel) ⟨Nat.le_of_ble_eq_true rfl, Nat.le_of_ble_eq_true rfl⟩) (kp_V hk hw at_G rfl) rfl rfl hl.1 rfl (lv_room (Nat.le_of_ble_eq_true rfl)) dX6_followUp_2 ⟨Nat.le_of_ble_eq_true rfl, Nat.le_of_ble_eq_true rfl⟩) (fun E ce q8 H locs h1 hw hq hv hE => ?_) (fun H locs h1 hw => ?_)
  · have hn : ¬ e_X6_known a1 B = none := by rw [h1]; exact Option.some_ne_none _
    exact k_out hT hlocks hw hq hv hE (Eq.trans (b := e_X6_known a1 B) (by simp only [e_X6_followUp, if_neg hn]) h1) (Nat.le_of_ble_eq_true rfl) (Nat.le_of_ble_eq_true rfl)
  · refine lv_astore_n (lv' := [(2, .ref (gA g (jC 0 (f_X6_known a1 B)))), (0, .ref (gA g 0)), (1, .int a1)]) hx hb dX6_followUp_5 rfl hl (by decide) rfl (fun ls hl => ?_)
    refine lv_aload_n hx hb dX6_followUp_6 rfl (lv_at hl 1 rfl) ?_
    refine lv_aload_n hx hb dX6_followUp_7 rfl (lv_at hl 0 rfl) ?_
    refine lv_bipush (v := 100) hx hb dX6_followUp_8 (by decide) ?_
    refine kx_v hw (vx_runV (As := [.ref (gA g (jC 0 (f_X6_known a1 B))), .int 100]) (rest := []) ⟨hx, hb, hml, hc.2.2.1, hc.2.2.2⟩ (m_X6_requireOwn l g hfl S B y (f_X6_known a1 B) (lt_X6_known hN) 100) (kw_V hc 2 q756 q758 qs50 q1 q759 rfl rfl (by decide +kernel) ⟨Nat.le_of_ble_eq_true rfl, Nat.le_of_ble_eq_true rfl⟩) (kp_V hk hw at_G rfl) rfl rfl hl.1 rfl (lv_room (Nat.le_of_ble_eq_true rfl)) dX6_followUp_10 ⟨Nat.le_of_ble_eq_true rfl, Nat.le_of_ble_eq_true rfl⟩) (fun E ce q8 H locs h3 hw hq hv hE => ?_) (fun H locs h3 hw => ?_)
    · have hn : ¬ e_X6_requireOwn (f_X6_known a1 B) 100 B = none := by rw [h3]; exact Option.some_ne_none _
      exact k_out hT hlocks hw hq hv hE (Eq.trans (b := e_X6_requireOwn (f_X6_known a1 B) 100 B) (by simp only [e_X6_followUp, if_pos h1, if_neg hn]) h3) (Nat.le_of_ble_eq_true rfl) (Nat.le_of_ble_eq_true rfl)
    · refine lv_aload_n hx hb dX6_followUp_13 rfl (lv_at hl 1 rfl) ?_
      refine k_get hc hk hw at_G rfl iX6 0 (by decide) q238 (v := .ref (gA g (jB 0))) rfl dX6_followUp_14 ?_
      refine k_getN hc hk hw (bt_B (by decide : 0 < 2)) rfl iX0 5 (by decide) nq211 (v := .int (B 0 5)) rfl dX6_followUp_17 ?_
      refine lv_aload_n hx hb dX6_followUp_20 rfl (lv_at hl 0 rfl) ?_
      refine k_getN hc hk hw (bt_C (by decide : 0 < 2) (lt_X6_known hN)) rfl iX1 2 (by decide) nq140 (v := .ref (gA g (jF 0 (f_X6_known a1 B)))) rfl dX6_followUp_21 ?_
      refine k_getN hc hk hw (bt_F (by decide : 0 < 2) (lt_X6_known hN)) rfl iX3 2 (by decide) nq111 (v := .int (B (50 + (f_X6_known a1 B)) 2)) rfl dX6_followUp_24 ?_
      refine lv_icmp_gt (tgt := 40) hx hb dX6_followUp_27 (by decide) (fun h5 => ?_) (fun h5 => ?_)
      · refine lv_aload_n hx hb dX6_followUp_40 rfl (lv_at hl 1 rfl) ?_
        refine lv_bipush (v := 19) hx hb dX6_followUp_41 (by decide) ?_
        refine lv_iload_n hx hb dX6_followUp_43 rfl (lv_at hl 2 rfl) ?_
        refine lv_iconst (v := 0) hx hb dX6_followUp_44 (by decide) ?_
        refine kc_i hw (va_runV (As := [.int 19, .int a1, .int 0]) (rest := []) ⟨hx, hb, hml, hc.2.2.1, hc.2.2.2⟩ (m_X6_happen l g S B y 19 a1 0 _ _ hN hev) (kw_V hc 3 q652 q654 qs43 q1 q655 rfl rfl (by decide +kernel) ⟨Nat.le_of_ble_eq_true rfl, Nat.le_of_ble_eq_true rfl⟩) (kp_V hk hw at_G rfl) rfl rfl hl.1 rfl (lv_room (Nat.le_of_ble_eq_true rfl)) dX6_followUp_45 ⟨Nat.le_of_ble_eq_true rfl, Nat.le_of_ble_eq_true rfl⟩) (fun H locs hw => ?_)
        refine vx_ret ?_
        refine W.widen (k := 3) (n := 18) (Nat.le_of_ble_eq_true rfl) (Nat.le_of_ble_eq_true rfl) ?_
        exact W.iret (v := (f_X6_happen 19 a1 0 B).1) hx hb hr (fun t9 ht hW => kz_i hw ht (by simp only [e_X6_followUp, if_pos h1, if_pos h3, if_pos h5]) (by simp only [f_X6_followUp, if_pos h1, if_pos h3, if_pos h5]) (by simp only [f_X6_followUp, if_pos h1, if_pos h3, if_pos h5])) hw.2.2.2 dX6_followUp_48
      · exact k_throwS (text := "it is not over its day") hc hk hw hfl hT hlocks hml hl (by decide) tw_80_84 (by decide) dX6_followUp_30 dX6_followUp_33 dX6_followUp_34 dX6_followUp_36 dX6_followUp_39 (Nat.le_of_ble_eq_true rfl) (Nat.le_of_ble_eq_true rfl) (Nat.le_of_ble_eq_true rfl) (Nat.le_of_ble_eq_true rfl) (by simp only [e_X6_followUp, if_pos h1, if_pos h3, if_neg h5]) (Nat.le_of_ble_eq_true rfl) (Nat.le_of_ble_eq_true rfl)
def f_X6_withdraw (a1 : Int32) (B : BT) : Int32 × BT :=
  (if e_X6_known a1 B = none then (if f_X1_isJoined (f_X6_known a1 B) B = 0 then (if f_X6_isClosing (B (10 + (f_X6_known a1 B)) 11) = 0 then ((f_X6_happen 20 a1 0 B).1, (f_X6_happen 20 a1 0 B).2) else (0, B)) else (0, B)) else (0, B))
def e_X6_withdraw (a1 : Int32) (B : BT) : Option String :=
  (if e_X6_known a1 B = none then (if f_X1_isJoined (f_X6_known a1 B) B = 0 then (if f_X6_isClosing (B (10 + (f_X6_known a1 B)) 11) = 0 then none else some "java/lang/UnsupportedOperationException") else some "java/lang/UnsupportedOperationException") else e_X6_known a1 B)
set_option maxHeartbeats 4000000 in
set_option maxRecDepth 100000 in
theorem m_X6_withdraw (l : Launch) (g : wG) (hfl : l.stackTraces = false) (S : Nat → BT) (B : BT) (y : (Nat → Nat → Int32) × (Nat → Int64) × (Nat → UInt64)) (a1 : Int32) (n m9 : Nat) (hN : CN B n m9) (hev : ¬ S 2 0 1 < 0) : xI l yX6_withdraw cX6_withdraw 3 (some .int) ({ frames := 10, cells := 2, slots := 12, locals := 232 } : Room) 2 12 g (xB S 0 B y) [.ref (gA g 0), .int a1] (e_X6_withdraw a1 B) ((f_X6_withdraw a1 B).1) (xB (f_X2_keep 20 a1 0 0 0 S) 0 (f_X6_withdraw a1 B).2 y) := by
  refine vx_ofW (cc := cX6_withdraw) (maxL := 3) (ret := some .int) (by decide) rfl ?_
  intro p9 e s m args below meth c s₁ BL hml hT hv
  obtain ⟨rfl, hk, hPB⟩ := hv
  have hx := BL.exec
  have hb := BL.bytes
  have hc : CX p9 c cX6_withdraw s _ m RX6 := ⟨hx, hb, findClass_of_methodNamed BL.named, fun w h => atoms_spec BL.pre w (List.mem_cons_of_mem _ h)⟩
  have hr := BL.returns
  have hlocks := BL.notSynchronized
  have hw : WS g s (xB S 0 B y) s.heap [] := ⟨hPB, va_S.rf⟩
  have hl := lv_entry ([.ref (gA g 0), .int a1]) (n := 3) (Nat.le_of_ble_eq_true rfl)
  rw [lg_entry_eq]
  generalize (lg_sl ([.ref (gA g 0), .int a1]) ++ List.replicate (3 - (lg_sl ([.ref (gA g 0), .int a1])).length) Slot.unset).toArray = ls at hl ⊢
  have hl : lv_has ls 3 [(0, .ref (gA g 0)), (1, .int a1)] := hl
  refine lv_aload_n hx hb dX6_withdraw_0 rfl (lv_at hl 0 rfl) ?_
  refine lv_iload_n hx hb dX6_withdraw_1 rfl (lv_at hl 1 rfl) ?_
  refine kx_r hw (vx_runV (As := [.int a1]) (rest := []) ⟨hx, hb, hml, hc.2.2.1, hc.2.2.2⟩ (m_X6_known l g hfl S B y a1 _ _ hN) (kw_V hc 1 q692 q694 qs46 q1 q695 rfl rfl (by decide +kernel) ⟨Nat.le_of_ble_eq_true rfl, Nat.le_of_ble_eq_true rfl⟩) (kp_V hk hw at_G rfl) rfl rfl hl.1 rfl (lv_room (Nat.le_of_ble_eq_true rfl)) dX6_withdraw_2 ⟨Nat.le_of_ble_eq_true rfl, Nat.le_of_ble_eq_true rfl⟩) (fun E ce q8 H locs h1 hw hq hv hE => ?_) (fun H locs h1 hw => ?_)
  · have hn : ¬ e_X6_known a1 B = none := by rw [h1]; exact Option.some_ne_none _
    exact k_out hT hlocks hw hq hv hE (Eq.trans (b := e_X6_known a1 B) (by simp only [e_X6_withdraw, if_neg hn]) h1) (Nat.le_of_ble_eq_true rfl) (Nat.le_of_ble_eq_true rfl)
  · refine lv_astore_n (lv' := [(2, .ref (gA g (jC 0 (f_X6_known a1 B)))), (0, .ref (gA g 0)), (1, .int a1)]) hx hb dX6_withdraw_5 rfl hl (by decide) rfl (fun ls hl => ?_)
    refine lv_aload_n hx hb dX6_withdraw_6 rfl (lv_at hl 0 rfl) ?_
    refine kc_i hw (va_runVN (As := []) (rest := []) ⟨hx, hb, hml, hc.2.2.1, hc.2.2.2⟩ (m_X1_isJoined l g S 0 B y (by decide : 0 < 2) (f_X6_known a1 B) (lt_X6_known hN)) ⟨kw_N hc hk 0 nq760 q4 q763 rfl rfl (by decide +kernel) ⟨Nat.le_of_ble_eq_true rfl, Nat.le_of_ble_eq_true rfl⟩, hc.2.2.2 _ q762, hc.2.2.2 _ qs51⟩ (kp_V hk hw (bt_C (by decide : 0 < 2) (lt_X6_known hN)) rfl) rfl rfl hl.1 rfl (lv_room (Nat.le_of_ble_eq_true rfl)) dX6_withdraw_7 ⟨Nat.le_of_ble_eq_true rfl, Nat.le_of_ble_eq_true rfl⟩) (fun H locs hw => ?_)
    refine lv_if_ne (tgt := 23) hx hb dX6_withdraw_10 (by decide) (fun h3 => ?_) (fun h3 => ?_)
    · exact k_throwS (text := "it is joined to another one or is closed") hc hk hw hfl hT hlocks hml hl (by decide) tw_80_84 (by decide) dX6_withdraw_23 dX6_withdraw_26 dX6_withdraw_27 dX6_withdraw_29 dX6_withdraw_32 (Nat.le_of_ble_eq_true rfl) (Nat.le_of_ble_eq_true rfl) (Nat.le_of_ble_eq_true rfl) (Nat.le_of_ble_eq_true rfl) (by simp only [e_X6_withdraw, if_pos h1, if_neg h3]) (Nat.le_of_ble_eq_true rfl) (Nat.le_of_ble_eq_true rfl)
    · refine lv_aload_n hx hb dX6_withdraw_13 rfl (lv_at hl 0 rfl) ?_
      refine k_getN hc hk hw (bt_C (by decide : 0 < 2) (lt_X6_known hN)) rfl iX1 11 (by decide) nq160 (v := .int (B (10 + (f_X6_known a1 B)) 11)) rfl dX6_withdraw_14 ?_
      refine kc_i hw (va_runS (As := [.int (B (10 + (f_X6_known a1 B)) 11)]) (rest := []) ⟨hx, hb, hml, hc.2.2.1, hc.2.2.2⟩ (m_X6_isClosing l g (xB S 0 B y) (B (10 + (f_X6_known a1 B)) 11)) (kw_S hc 1 q895 q485 q1 q486 rfl rfl (by decide +kernel) ⟨Nat.le_of_ble_eq_true rfl, Nat.le_of_ble_eq_true rfl⟩) (kp_S hk hw) rfl rfl hl.1 rfl (lv_room (Nat.le_of_ble_eq_true rfl)) dX6_withdraw_17 ⟨Nat.le_of_ble_eq_true rfl, Nat.le_of_ble_eq_true rfl⟩) (fun H locs hw => ?_)
      refine lv_if_eq (tgt := 33) hx hb dX6_withdraw_20 (by decide) (fun h4 => ?_) (fun h4 => ?_)
      · refine lv_aload_n hx hb dX6_withdraw_33 rfl (lv_at hl 1 rfl) ?_
        refine lv_bipush (v := 20) hx hb dX6_withdraw_34 (by decide) ?_
        refine lv_iload_n hx hb dX6_withdraw_36 rfl (lv_at hl 2 rfl) ?_
        refine lv_iconst (v := 0) hx hb dX6_withdraw_37 (by decide) ?_
        refine kc_i hw (va_runV (As := [.int 20, .int a1, .int 0]) (rest := []) ⟨hx, hb, hml, hc.2.2.1, hc.2.2.2⟩ (m_X6_happen l g S B y 20 a1 0 _ _ hN hev) (kw_V hc 3 q652 q654 qs43 q1 q655 rfl rfl (by decide +kernel) ⟨Nat.le_of_ble_eq_true rfl, Nat.le_of_ble_eq_true rfl⟩) (kp_V hk hw at_G rfl) rfl rfl hl.1 rfl (lv_room (Nat.le_of_ble_eq_true rfl)) dX6_withdraw_38 ⟨Nat.le_of_ble_eq_true rfl, Nat.le_of_ble_eq_true rfl⟩) (fun H locs hw => ?_)
        refine vx_ret ?_
        refine W.widen (k := 2) (n := 12) (Nat.le_of_ble_eq_true rfl) (Nat.le_of_ble_eq_true rfl) ?_
        exact W.iret (v := (f_X6_happen 20 a1 0 B).1) hx hb hr (fun t9 ht hW => kz_i hw ht (by simp only [e_X6_withdraw, if_pos h1, if_pos h3, if_pos h4]) (by simp only [f_X6_withdraw, if_pos h1, if_pos h3, if_pos h4]) (by simp only [f_X6_withdraw, if_pos h1, if_pos h3, if_pos h4])) hw.2.2.2 dX6_withdraw_41
      · exact k_throwS (text := "it is joined to another one or is closed") hc hk hw hfl hT hlocks hml hl (by decide) tw_80_84 (by decide) dX6_withdraw_23 dX6_withdraw_26 dX6_withdraw_27 dX6_withdraw_29 dX6_withdraw_32 (Nat.le_of_ble_eq_true rfl) (Nat.le_of_ble_eq_true rfl) (Nat.le_of_ble_eq_true rfl) (Nat.le_of_ble_eq_true rfl) (by simp only [e_X6_withdraw, if_pos h1, if_pos h3, if_neg h4]) (Nat.le_of_ble_eq_true rfl) (Nat.le_of_ble_eq_true rfl)
def f_X6_days (a1 : Int32) (B : BT) : Int32 :=
  (if e_X6_known a1 B = none then f_X1_daysBy (f_X6_known a1 B) (B 0 5) B else 0)
def e_X6_days (a1 : Int32) (B : BT) : Option String :=
  (if e_X6_known a1 B = none then none else e_X6_known a1 B)
set_option maxHeartbeats 4000000 in
set_option maxRecDepth 100000 in
theorem m_X6_days (l : Launch) (g : wG) (hfl : l.stackTraces = false) (S : Nat → BT) (B : BT) (y : (Nat → Nat → Int32) × (Nat → Int64) × (Nat → UInt64)) (a1 : Int32) (n m9 : Nat) (hN : CN B n m9) : xI l yX6_days cX6_days 2 (some .int) ({ frames := 7, cells := 1, slots := 6, locals := 121 } : Room) 1 6 g (xB S 0 B y) [.ref (gA g 0), .int a1] (e_X6_days a1 B) (f_X6_days a1 B) (xB S 0 B y) := by
  refine vx_ofW (cc := cX6_days) (maxL := 2) (ret := some .int) (by decide) rfl ?_
  intro p9 e s m args below meth c s₁ BL hml hT hv
  obtain ⟨rfl, hk, hPB⟩ := hv
  have hx := BL.exec
  have hb := BL.bytes
  have hc : CX p9 c cX6_days s _ m RX6 := ⟨hx, hb, findClass_of_methodNamed BL.named, fun w h => atoms_spec BL.pre w (List.mem_cons_of_mem _ h)⟩
  have hr := BL.returns
  have hlocks := BL.notSynchronized
  have hw : WS g s (xB S 0 B y) s.heap [] := ⟨hPB, va_S.rf⟩
  have hl := lv_entry ([.ref (gA g 0), .int a1]) (n := 2) (Nat.le_of_ble_eq_true rfl)
  rw [lg_entry_eq]
  generalize (lg_sl ([.ref (gA g 0), .int a1]) ++ List.replicate (2 - (lg_sl ([.ref (gA g 0), .int a1])).length) Slot.unset).toArray = ls at hl ⊢
  have hl : lv_has ls 2 [(0, .ref (gA g 0)), (1, .int a1)] := hl
  refine lv_aload_n hx hb dX6_days_0 rfl (lv_at hl 0 rfl) ?_
  refine lv_iload_n hx hb dX6_days_1 rfl (lv_at hl 1 rfl) ?_
  refine kx_r hw (vx_runV (As := [.int a1]) (rest := []) ⟨hx, hb, hml, hc.2.2.1, hc.2.2.2⟩ (m_X6_known l g hfl S B y a1 _ _ hN) (kw_V hc 1 q692 q694 qs46 q1 q695 rfl rfl (by decide +kernel) ⟨Nat.le_of_ble_eq_true rfl, Nat.le_of_ble_eq_true rfl⟩) (kp_V hk hw at_G rfl) rfl rfl hl.1 rfl (lv_room (Nat.le_of_ble_eq_true rfl)) dX6_days_2 ⟨Nat.le_of_ble_eq_true rfl, Nat.le_of_ble_eq_true rfl⟩) (fun E ce q8 H locs h1 hw hq hv hE => ?_) (fun H locs h1 hw => ?_)
  · have hn : ¬ e_X6_known a1 B = none := by rw [h1]; exact Option.some_ne_none _
    exact k_out hT hlocks hw hq hv hE (Eq.trans (b := e_X6_known a1 B) (by simp only [e_X6_days, if_neg hn]) h1) (Nat.le_of_ble_eq_true rfl) (Nat.le_of_ble_eq_true rfl)
  · refine lv_aload_n hx hb dX6_days_5 rfl (lv_at hl 0 rfl) ?_
    refine k_get hc hk hw at_G rfl iX6 0 (by decide) q238 (v := .ref (gA g (jB 0))) rfl dX6_days_6 ?_
    refine k_getN hc hk hw (bt_B (by decide : 0 < 2)) rfl iX0 5 (by decide) nq211 (v := .int (B 0 5)) rfl dX6_days_9 ?_
    refine kc_i hw (va_runVN (As := [.int (B 0 5)]) (rest := []) ⟨hx, hb, hml, hc.2.2.1, hc.2.2.2⟩ (m_X1_daysBy l g S 0 B y (by decide : 0 < 2) (f_X6_known a1 B) (lt_X6_known hN) (B 0 5)) ⟨kw_N hc hk 1 nq258 q4 q261 rfl rfl (by decide +kernel) ⟨Nat.le_of_ble_eq_true rfl, Nat.le_of_ble_eq_true rfl⟩, hc.2.2.2 _ q260, hc.2.2.2 _ qs0⟩ (kp_V hk hw (bt_C (by decide : 0 < 2) (lt_X6_known hN)) rfl) rfl rfl hl.1 rfl (lv_room (Nat.le_of_ble_eq_true rfl)) dX6_days_12 ⟨Nat.le_of_ble_eq_true rfl, Nat.le_of_ble_eq_true rfl⟩) (fun H locs hw => ?_)
    refine vx_ret ?_
    refine W.widen (k := 1) (n := 6) (Nat.le_of_ble_eq_true rfl) (Nat.le_of_ble_eq_true rfl) ?_
    exact W.iret (v := f_X1_daysBy (f_X6_known a1 B) (B 0 5) B) hx hb hr (fun t9 ht hW => kz_i hw ht (by simp only [e_X6_days, if_pos h1]) (by simp only [f_X6_days, if_pos h1]) rfl) hw.2.2.2 dX6_days_15
