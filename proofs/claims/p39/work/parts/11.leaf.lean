/-! the class: leaves -/
def f_X1_isJoined (i0 : Nat) (B : BT) : Int32 :=
  (if B (10 + i0) 12 = nI i0 then 0 else 1)
set_option maxHeartbeats 4000000 in
set_option maxRecDepth 100000 in
theorem m_X1_isJoined (l : Launch) (g : wG) (S : Nat → BT) (p : Nat) (B : BT) (y : (Nat → Nat → Int32) × (Nat → Int64) × (Nat → UInt64)) (hp : p < 2) (i0 : Nat) (hi0 : i0 < 20) : mI l yX1_isJoined cX1_isJoined 1 (some .boolean) ({ frames := 0, cells := 0, slots := 0, locals := 0 } : Room) 0 0 g (xB S p B y) [.ref (gA g (jC p i0))] (f_X1_isJoined i0 B) (xB S p B y) := by
  refine Met.ofW (cc := cX1_isJoined) (maxL := 1) (ret := some .boolean) (by decide) rfl ?_
  intro p9 e s m args below meth c s₁ BL hml hv
  obtain ⟨rfl, hk, hPB⟩ := hv
  have hx := BL.exec
  have hb := BL.bytes
  have hc : CX p9 c cX1_isJoined s _ m RX1 := ⟨hx, hb, findClass_of_methodNamed BL.named, fun w h => atoms_spec BL.pre w (List.mem_cons_of_mem _ h)⟩
  have hr := BL.returns
  have hlocks := BL.notSynchronized
  have hw : WS g s (xB S p B y) s.heap [] := ⟨hPB, va_S.rf⟩
  have hl := lv_entry ([.ref (gA g (jC p i0))]) (n := 1) (Nat.le_of_ble_eq_true rfl)
  rw [lg_entry_eq]
  generalize (lg_sl ([.ref (gA g (jC p i0))]) ++ List.replicate (1 - (lg_sl ([.ref (gA g (jC p i0))])).length) Slot.unset).toArray = ls at hl ⊢
  have hl : lv_has ls 1 [(0, .ref (gA g (jC p i0)))] := hl
  refine lv_aload_n hx hb dX1_isJoined_0 rfl (lv_at hl 0 rfl) ?_
  refine k_get hc hk hw (bt_C hp hi0) rfl iX1 12 (by decide) q161 (v := .int (B (10 + i0) 12)) rfl dX1_isJoined_1 ?_
  refine lv_aload_n hx hb dX1_isJoined_4 rfl (lv_at hl 0 rfl) ?_
  refine k_get hc hk hw (bt_C hp hi0) rfl iX1 0 (by decide) q133 (v := .int (nI i0)) rfl dX1_isJoined_5 ?_
  refine lv_icmp_eq (tgt := 15) hx hb dX1_isJoined_8 (by decide) (fun h1 => ?_) (fun h1 => ?_)
  · refine lv_iconst (v := 0) hx hb dX1_isJoined_15 (by decide) ?_
    exact W.zret (v := 0) hx hb hr (by decide +kernel) (fun t9 ht hW => ke_i hw ht (by simp only [f_X1_isJoined, if_pos h1]) rfl) hw.2.2.2 dX1_isJoined_16
  · refine lv_iconst (v := 1) hx hb dX1_isJoined_11 (by decide) ?_
    refine lv_goto (tgt := 16) hx hb dX1_isJoined_12 (by decide) ?_
    exact W.zret (v := 1) hx hb hr (by decide +kernel) (fun t9 ht hW => ke_i hw ht (by simp only [f_X1_isJoined, if_neg h1]) rfl) hw.2.2.2 dX1_isJoined_16
def f_X3_isTold (i0 : Nat) (B : BT) : Int32 :=
  (if B (50 + i0) 0 = (-1) then 0 else 1)
set_option maxHeartbeats 4000000 in
set_option maxRecDepth 100000 in
theorem m_X3_isTold (l : Launch) (g : wG) (S : Nat → BT) (p : Nat) (B : BT) (y : (Nat → Nat → Int32) × (Nat → Int64) × (Nat → UInt64)) (hp : p < 2) (i0 : Nat) (hi0 : i0 < 20) : mI l yX3_isTold cX3_isTold 1 (some .boolean) ({ frames := 0, cells := 0, slots := 0, locals := 0 } : Room) 0 0 g (xB S p B y) [.ref (gA g (jF p i0))] (f_X3_isTold i0 B) (xB S p B y) := by
  refine Met.ofW (cc := cX3_isTold) (maxL := 1) (ret := some .boolean) (by decide) rfl ?_
  intro p9 e s m args below meth c s₁ BL hml hv
  obtain ⟨rfl, hk, hPB⟩ := hv
  have hx := BL.exec
  have hb := BL.bytes
  have hc : CX p9 c cX3_isTold s _ m RX3 := ⟨hx, hb, findClass_of_methodNamed BL.named, fun w h => atoms_spec BL.pre w (List.mem_cons_of_mem _ h)⟩
  have hr := BL.returns
  have hlocks := BL.notSynchronized
  have hw : WS g s (xB S p B y) s.heap [] := ⟨hPB, va_S.rf⟩
  have hl := lv_entry ([.ref (gA g (jF p i0))]) (n := 1) (Nat.le_of_ble_eq_true rfl)
  rw [lg_entry_eq]
  generalize (lg_sl ([.ref (gA g (jF p i0))]) ++ List.replicate (1 - (lg_sl ([.ref (gA g (jF p i0))])).length) Slot.unset).toArray = ls at hl ⊢
  have hl : lv_has ls 1 [(0, .ref (gA g (jF p i0)))] := hl
  refine lv_aload_n hx hb dX3_isTold_0 rfl (lv_at hl 0 rfl) ?_
  refine k_get hc hk hw (bt_F hp hi0) rfl iX3 0 (by decide) q104 (v := .int (B (50 + i0) 0)) rfl dX3_isTold_1 ?_
  refine lv_iconst (v := (-1)) hx hb dX3_isTold_4 (by decide) ?_
  refine lv_icmp_eq (tgt := 12) hx hb dX3_isTold_5 (by decide) (fun h1 => ?_) (fun h1 => ?_)
  · refine lv_iconst (v := 0) hx hb dX3_isTold_12 (by decide) ?_
    exact W.zret (v := 0) hx hb hr (by decide +kernel) (fun t9 ht hW => ke_i hw ht (by simp only [f_X3_isTold, if_pos h1]) rfl) hw.2.2.2 dX3_isTold_13
  · refine lv_iconst (v := 1) hx hb dX3_isTold_8 (by decide) ?_
    refine lv_goto (tgt := 13) hx hb dX3_isTold_9 (by decide) ?_
    exact W.zret (v := 1) hx hb hr (by decide +kernel) (fun t9 ht hW => ke_i hw ht (by simp only [f_X3_isTold, if_neg h1]) rfl) hw.2.2.2 dX3_isTold_13
def f_X5_begin (i0 : Nat) (a1 : Int32) (a2 : Int32) (B : BT) : BT :=
  up2 (up2 (up2 (up2 B (4 + i0) 0 a1) (4 + i0) 1 a2) (4 + i0) 2 0) (4 + i0) 3 0
theorem cn_X5_begin {i0 : Nat} {a1 : Int32} {a2 : Int32} {B : BT} {n m9 : Nat} (hN : CN B n m9) : CN (f_X5_begin i0 a1 a2 B) n m9 := by
  unfold f_X5_begin
  exact (CN.up (by omega) (by decide) (CN.up (by omega) (by decide) (CN.up (by omega) (by decide) (CN.up (by omega) (by decide) hN))))
set_option maxHeartbeats 4000000 in
set_option maxRecDepth 100000 in
theorem m_X5_begin (l : Launch) (g : wG) (S : Nat → BT) (p : Nat) (B : BT) (y : (Nat → Nat → Int32) × (Nat → Int64) × (Nat → UInt64)) (hp : p < 2) (i0 : Nat) (hi0 : i0 < 6) (a1 : Int32) (a2 : Int32) (n m9 : Nat) (hN : CN B n m9) : mV l yX5_begin cX5_begin 3 ({ frames := 0, cells := 0, slots := 0, locals := 0 } : Room) 0 0 g (xB S p B y) [.ref (gA g (jO p i0)), .int a1, .int a2] (xB S p (f_X5_begin i0 a1 a2 B) y) := by
  refine Met.ofW (cc := cX5_begin) (maxL := 3) (ret := none) (by decide) rfl ?_
  intro p9 e s m args below meth c s₁ BL hml hv
  obtain ⟨rfl, hk, hPB⟩ := hv
  have hx := BL.exec
  have hb := BL.bytes
  have hc : CX p9 c cX5_begin s _ m RX5 := ⟨hx, hb, findClass_of_methodNamed BL.named, fun w h => atoms_spec BL.pre w (List.mem_cons_of_mem _ h)⟩
  have hr := BL.returns
  have hlocks := BL.notSynchronized
  have hw : WS g s (xB S p B y) s.heap [] := ⟨hPB, va_S.rf⟩
  have hl := lv_entry ([.ref (gA g (jO p i0)), .int a1, .int a2]) (n := 3) (Nat.le_of_ble_eq_true rfl)
  rw [lg_entry_eq]
  generalize (lg_sl ([.ref (gA g (jO p i0)), .int a1, .int a2]) ++ List.replicate (3 - (lg_sl ([.ref (gA g (jO p i0)), .int a1, .int a2])).length) Slot.unset).toArray = ls at hl ⊢
  have hl : lv_has ls 3 [(0, .ref (gA g (jO p i0))), (1, .int a1), (2, .int a2)] := hl
  refine lv_aload_n hx hb dX5_begin_0 rfl (lv_at hl 0 rfl) ?_
  refine lv_iload_n hx hb dX5_begin_1 rfl (lv_at hl 1 rfl) ?_
  refine k_put hc hk hw (x' := (xB S p (up2 B (4 + i0) 0 a1) y)) (bt_O hp hi0) rfl iX5 tyX5 tyX5_ok nmX5 0 (by decide) q48 rfl rfl rfl (Nat.le_of_ble_eq_true rfl) dX5_begin_2 (bs_O hp hi0 (by decide)) (fun H locs hw => ?_)
  refine lv_aload_n hx hb dX5_begin_5 rfl (lv_at hl 0 rfl) ?_
  refine lv_iload_n hx hb dX5_begin_6 rfl (lv_at hl 2 rfl) ?_
  refine k_put hc hk hw (x' := (xB S p (up2 (up2 B (4 + i0) 0 a1) (4 + i0) 1 a2) y)) (bt_O hp hi0) rfl iX5 tyX5 tyX5_ok nmX5 1 (by decide) q50 rfl rfl rfl (Nat.le_of_ble_eq_true rfl) dX5_begin_7 (bs_O hp hi0 (by decide)) (fun H locs hw => ?_)
  refine lv_aload_n hx hb dX5_begin_10 rfl (lv_at hl 0 rfl) ?_
  refine lv_iconst (v := 0) hx hb dX5_begin_11 (by decide) ?_
  refine k_put hc hk hw (x' := (xB S p (up2 (up2 (up2 B (4 + i0) 0 a1) (4 + i0) 1 a2) (4 + i0) 2 0) y)) (bt_O hp hi0) rfl iX5 tyX5 tyX5_ok nmX5 2 (by decide) q52 rfl rfl rfl (Nat.le_of_ble_eq_true rfl) dX5_begin_12 (bs_O hp hi0 (by decide)) (fun H locs hw => ?_)
  refine lv_aload_n hx hb dX5_begin_15 rfl (lv_at hl 0 rfl) ?_
  refine lv_iconst (v := 0) hx hb dX5_begin_16 (by decide) ?_
  refine k_put hc hk hw (x' := (xB S p (up2 (up2 (up2 (up2 B (4 + i0) 0 a1) (4 + i0) 1 a2) (4 + i0) 2 0) (4 + i0) 3 0) y)) (bt_O hp hi0) rfl iX5 tyX5 tyX5_ok nmX5 3 (by decide) q55 rfl rfl rfl (Nat.le_of_ble_eq_true rfl) dX5_begin_17 (bs_O hp hi0 (by decide)) (fun H locs hw => ?_)
  exact W.vret hx hb hr (fun t9 ht hW => ke_v hw ht (by simp only [f_X5_begin])) hw.2.2.2 dX5_begin_20
def f_X4_begin (i0 : Nat) (a1 : Int32) (B : BT) : BT :=
  up2 (up2 (up2 (up2 B (30 + i0) 0 a1) (30 + i0) 1 0) (30 + i0) 2 0) (30 + i0) 3 0
theorem cn_X4_begin {i0 : Nat} {a1 : Int32} {B : BT} {n m9 : Nat} (hN : CN B n m9) : CN (f_X4_begin i0 a1 B) n m9 := by
  unfold f_X4_begin
  exact (CN.up (by omega) (by decide) (CN.up (by omega) (by decide) (CN.up (by omega) (by decide) (CN.up (by omega) (by decide) hN))))
set_option maxHeartbeats 4000000 in
set_option maxRecDepth 100000 in
theorem m_X4_begin (l : Launch) (g : wG) (S : Nat → BT) (p : Nat) (B : BT) (y : (Nat → Nat → Int32) × (Nat → Int64) × (Nat → UInt64)) (hp : p < 2) (i0 : Nat) (hi0 : i0 < 20) (a1 : Int32) (n m9 : Nat) (hN : CN B n m9) : mV l yX4_begin cX4_begin 2 ({ frames := 0, cells := 0, slots := 0, locals := 0 } : Room) 0 0 g (xB S p B y) [.ref (gA g (jI p i0)), .int a1] (xB S p (f_X4_begin i0 a1 B) y) := by
  refine Met.ofW (cc := cX4_begin) (maxL := 2) (ret := none) (by decide) rfl ?_
  intro p9 e s m args below meth c s₁ BL hml hv
  obtain ⟨rfl, hk, hPB⟩ := hv
  have hx := BL.exec
  have hb := BL.bytes
  have hc : CX p9 c cX4_begin s _ m RX4 := ⟨hx, hb, findClass_of_methodNamed BL.named, fun w h => atoms_spec BL.pre w (List.mem_cons_of_mem _ h)⟩
  have hr := BL.returns
  have hlocks := BL.notSynchronized
  have hw : WS g s (xB S p B y) s.heap [] := ⟨hPB, va_S.rf⟩
  have hl := lv_entry ([.ref (gA g (jI p i0)), .int a1]) (n := 2) (Nat.le_of_ble_eq_true rfl)
  rw [lg_entry_eq]
  generalize (lg_sl ([.ref (gA g (jI p i0)), .int a1]) ++ List.replicate (2 - (lg_sl ([.ref (gA g (jI p i0)), .int a1])).length) Slot.unset).toArray = ls at hl ⊢
  have hl : lv_has ls 2 [(0, .ref (gA g (jI p i0))), (1, .int a1)] := hl
  refine lv_aload_n hx hb dX4_begin_0 rfl (lv_at hl 0 rfl) ?_
  refine lv_iload_n hx hb dX4_begin_1 rfl (lv_at hl 1 rfl) ?_
  refine k_put hc hk hw (x' := (xB S p (up2 B (30 + i0) 0 a1) y)) (bt_I hp hi0) rfl iX4 tyX4 tyX4_ok nmX4 0 (by decide) q79 rfl rfl rfl (Nat.le_of_ble_eq_true rfl) dX4_begin_2 (bs_I hp hi0 (by decide)) (fun H locs hw => ?_)
  refine lv_aload_n hx hb dX4_begin_5 rfl (lv_at hl 0 rfl) ?_
  refine lv_iconst (v := 0) hx hb dX4_begin_6 (by decide) ?_
  refine k_put hc hk hw (x' := (xB S p (up2 (up2 B (30 + i0) 0 a1) (30 + i0) 1 0) y)) (bt_I hp hi0) rfl iX4 tyX4 tyX4_ok nmX4 1 (by decide) q81 rfl (by decide +kernel) (by decide +kernel) (Nat.le_of_ble_eq_true rfl) dX4_begin_7 (bs_I hp hi0 (by decide)) (fun H locs hw => ?_)
  refine lv_aload_n hx hb dX4_begin_10 rfl (lv_at hl 0 rfl) ?_
  refine lv_iconst (v := 0) hx hb dX4_begin_11 (by decide) ?_
  refine k_put hc hk hw (x' := (xB S p (up2 (up2 (up2 B (30 + i0) 0 a1) (30 + i0) 1 0) (30 + i0) 2 0) y)) (bt_I hp hi0) rfl iX4 tyX4 tyX4_ok nmX4 2 (by decide) q84 rfl rfl rfl (Nat.le_of_ble_eq_true rfl) dX4_begin_12 (bs_I hp hi0 (by decide)) (fun H locs hw => ?_)
  refine lv_aload_n hx hb dX4_begin_15 rfl (lv_at hl 0 rfl) ?_
  refine lv_iconst (v := 0) hx hb dX4_begin_16 (by decide) ?_
  refine k_put hc hk hw (x' := (xB S p (up2 (up2 (up2 (up2 B (30 + i0) 0 a1) (30 + i0) 1 0) (30 + i0) 2 0) (30 + i0) 3 0) y)) (bt_I hp hi0) rfl iX4 tyX4 tyX4_ok nmX4 3 (by decide) q87 rfl (by decide +kernel) (by decide +kernel) (Nat.le_of_ble_eq_true rfl) dX4_begin_17 (bs_I hp hi0 (by decide)) (fun H locs hw => ?_)
  exact W.vret hx hb hr (fun t9 ht hW => ke_v hw ht (by simp only [f_X4_begin])) hw.2.2.2 dX4_begin_20
def f_X3_begin (i0 : Nat) (a1 : Int32) (B : BT) : BT :=
  up2 (up2 (up2 (up2 (up2 (up2 B (50 + i0) 0 a1) (50 + i0) 1 0) (50 + i0) 2 (-1)) (50 + i0) 3 0) (50 + i0) 4 0) (50 + i0) 5 0
theorem cn_X3_begin {i0 : Nat} {a1 : Int32} {B : BT} {n m9 : Nat} (hN : CN B n m9) : CN (f_X3_begin i0 a1 B) n m9 := by
  unfold f_X3_begin
  exact (CN.up (by omega) (by decide) (CN.up (by omega) (by decide) (CN.up (by omega) (by decide) (CN.up (by omega) (by decide) (CN.up (by omega) (by decide) (CN.up (by omega) (by decide) hN))))))
set_option maxHeartbeats 4000000 in
set_option maxRecDepth 100000 in
theorem m_X3_begin (l : Launch) (g : wG) (S : Nat → BT) (p : Nat) (B : BT) (y : (Nat → Nat → Int32) × (Nat → Int64) × (Nat → UInt64)) (hp : p < 2) (i0 : Nat) (hi0 : i0 < 20) (a1 : Int32) (n m9 : Nat) (hN : CN B n m9) : mV l yX3_begin cX3_begin 2 ({ frames := 0, cells := 0, slots := 0, locals := 0 } : Room) 0 0 g (xB S p B y) [.ref (gA g (jF p i0)), .int a1] (xB S p (f_X3_begin i0 a1 B) y) := by
  refine Met.ofW (cc := cX3_begin) (maxL := 2) (ret := none) (by decide) rfl ?_
  intro p9 e s m args below meth c s₁ BL hml hv
  obtain ⟨rfl, hk, hPB⟩ := hv
  have hx := BL.exec
  have hb := BL.bytes
  have hc : CX p9 c cX3_begin s _ m RX3 := ⟨hx, hb, findClass_of_methodNamed BL.named, fun w h => atoms_spec BL.pre w (List.mem_cons_of_mem _ h)⟩
  have hr := BL.returns
  have hlocks := BL.notSynchronized
  have hw : WS g s (xB S p B y) s.heap [] := ⟨hPB, va_S.rf⟩
  have hl := lv_entry ([.ref (gA g (jF p i0)), .int a1]) (n := 2) (Nat.le_of_ble_eq_true rfl)
  rw [lg_entry_eq]
  generalize (lg_sl ([.ref (gA g (jF p i0)), .int a1]) ++ List.replicate (2 - (lg_sl ([.ref (gA g (jF p i0)), .int a1])).length) Slot.unset).toArray = ls at hl ⊢
  have hl : lv_has ls 2 [(0, .ref (gA g (jF p i0))), (1, .int a1)] := hl
  refine lv_aload_n hx hb dX3_begin_0 rfl (lv_at hl 0 rfl) ?_
  refine lv_iload_n hx hb dX3_begin_1 rfl (lv_at hl 1 rfl) ?_
  refine k_put hc hk hw (x' := (xB S p (up2 B (50 + i0) 0 a1) y)) (bt_F hp hi0) rfl iX3 tyX3 tyX3_ok nmX3 0 (by decide) q104 rfl rfl rfl (Nat.le_of_ble_eq_true rfl) dX3_begin_2 (bs_F hp hi0 (by decide)) (fun H locs hw => ?_)
  refine lv_aload_n hx hb dX3_begin_5 rfl (lv_at hl 0 rfl) ?_
  refine lv_iconst (v := 0) hx hb dX3_begin_6 (by decide) ?_
  refine k_put hc hk hw (x' := (xB S p (up2 (up2 B (50 + i0) 0 a1) (50 + i0) 1 0) y)) (bt_F hp hi0) rfl iX3 tyX3 tyX3_ok nmX3 1 (by decide) q106 rfl rfl rfl (Nat.le_of_ble_eq_true rfl) dX3_begin_7 (bs_F hp hi0 (by decide)) (fun H locs hw => ?_)
  refine lv_aload_n hx hb dX3_begin_10 rfl (lv_at hl 0 rfl) ?_
  refine lv_iconst (v := (-1)) hx hb dX3_begin_11 (by decide) ?_
  refine k_put hc hk hw (x' := (xB S p (up2 (up2 (up2 B (50 + i0) 0 a1) (50 + i0) 1 0) (50 + i0) 2 (-1)) y)) (bt_F hp hi0) rfl iX3 tyX3 tyX3_ok nmX3 2 (by decide) q109 rfl rfl rfl (Nat.le_of_ble_eq_true rfl) dX3_begin_12 (bs_F hp hi0 (by decide)) (fun H locs hw => ?_)
  refine lv_aload_n hx hb dX3_begin_15 rfl (lv_at hl 0 rfl) ?_
  refine lv_iconst (v := 0) hx hb dX3_begin_16 (by decide) ?_
  refine k_put hc hk hw (x' := (xB S p (up2 (up2 (up2 (up2 B (50 + i0) 0 a1) (50 + i0) 1 0) (50 + i0) 2 (-1)) (50 + i0) 3 0) y)) (bt_F hp hi0) rfl iX3 tyX3 tyX3_ok nmX3 3 (by decide) q112 rfl (by decide +kernel) (by decide +kernel) (Nat.le_of_ble_eq_true rfl) dX3_begin_17 (bs_F hp hi0 (by decide)) (fun H locs hw => ?_)
  refine lv_aload_n hx hb dX3_begin_20 rfl (lv_at hl 0 rfl) ?_
  refine lv_iconst (v := 0) hx hb dX3_begin_21 (by decide) ?_
  refine k_put hc hk hw (x' := (xB S p (up2 (up2 (up2 (up2 (up2 B (50 + i0) 0 a1) (50 + i0) 1 0) (50 + i0) 2 (-1)) (50 + i0) 3 0) (50 + i0) 4 0) y)) (bt_F hp hi0) rfl iX3 tyX3 tyX3_ok nmX3 4 (by decide) q114 rfl (by decide +kernel) (by decide +kernel) (Nat.le_of_ble_eq_true rfl) dX3_begin_22 (bs_F hp hi0 (by decide)) (fun H locs hw => ?_)
  refine lv_aload_n hx hb dX3_begin_25 rfl (lv_at hl 0 rfl) ?_
  refine lv_iconst (v := 0) hx hb dX3_begin_26 (by decide) ?_
  refine k_put hc hk hw (x' := (xB S p (up2 (up2 (up2 (up2 (up2 (up2 B (50 + i0) 0 a1) (50 + i0) 1 0) (50 + i0) 2 (-1)) (50 + i0) 3 0) (50 + i0) 4 0) (50 + i0) 5 0) y)) (bt_F hp hi0) rfl iX3 tyX3 tyX3_ok nmX3 5 (by decide) q117 rfl (by decide +kernel) (by decide +kernel) (Nat.le_of_ble_eq_true rfl) dX3_begin_27 (bs_F hp hi0 (by decide)) (fun H locs hw => ?_)
  exact W.vret hx hb hr (fun t9 ht hW => ke_v hw ht (by simp only [f_X3_begin])) hw.2.2.2 dX3_begin_30
def f_X3_recommend (i0 : Nat) (a1 : Int32) (a2 : Int32) (B : BT) : BT :=
  up2 (up2 (up2 (up2 B (50 + i0) 1 a1) (50 + i0) 2 (a2 + (30 * a1))) (50 + i0) 4 0) (50 + i0) 5 0
theorem cn_X3_recommend {i0 : Nat} {a1 : Int32} {a2 : Int32} {B : BT} {n m9 : Nat} (hN : CN B n m9) : CN (f_X3_recommend i0 a1 a2 B) n m9 := by
  unfold f_X3_recommend
  exact (CN.up (by omega) (by decide) (CN.up (by omega) (by decide) (CN.up (by omega) (by decide) (CN.up (by omega) (by decide) hN))))
set_option maxHeartbeats 4000000 in
set_option maxRecDepth 100000 in
theorem m_X3_recommend (l : Launch) (g : wG) (S : Nat → BT) (p : Nat) (B : BT) (y : (Nat → Nat → Int32) × (Nat → Int64) × (Nat → UInt64)) (hp : p < 2) (i0 : Nat) (hi0 : i0 < 20) (a1 : Int32) (a2 : Int32) (n m9 : Nat) (hN : CN B n m9) : mV l yX3_recommend cX3_recommend 3 ({ frames := 0, cells := 0, slots := 0, locals := 0 } : Room) 0 0 g (xB S p B y) [.ref (gA g (jF p i0)), .int a1, .int a2] (xB S p (f_X3_recommend i0 a1 a2 B) y) := by
  refine Met.ofW (cc := cX3_recommend) (maxL := 3) (ret := none) (by decide) rfl ?_
  intro p9 e s m args below meth c s₁ BL hml hv
  obtain ⟨rfl, hk, hPB⟩ := hv
  have hx := BL.exec
  have hb := BL.bytes
  have hc : CX p9 c cX3_recommend s _ m RX3 := ⟨hx, hb, findClass_of_methodNamed BL.named, fun w h => atoms_spec BL.pre w (List.mem_cons_of_mem _ h)⟩
  have hr := BL.returns
  have hlocks := BL.notSynchronized
  have hw : WS g s (xB S p B y) s.heap [] := ⟨hPB, va_S.rf⟩
  have hl := lv_entry ([.ref (gA g (jF p i0)), .int a1, .int a2]) (n := 3) (Nat.le_of_ble_eq_true rfl)
  rw [lg_entry_eq]
  generalize (lg_sl ([.ref (gA g (jF p i0)), .int a1, .int a2]) ++ List.replicate (3 - (lg_sl ([.ref (gA g (jF p i0)), .int a1, .int a2])).length) Slot.unset).toArray = ls at hl ⊢
  have hl : lv_has ls 3 [(0, .ref (gA g (jF p i0))), (1, .int a1), (2, .int a2)] := hl
  refine lv_aload_n hx hb dX3_recommend_0 rfl (lv_at hl 0 rfl) ?_
  refine lv_iload_n hx hb dX3_recommend_1 rfl (lv_at hl 1 rfl) ?_
  refine k_put hc hk hw (x' := (xB S p (up2 B (50 + i0) 1 a1) y)) (bt_F hp hi0) rfl iX3 tyX3 tyX3_ok nmX3 1 (by decide) q106 rfl rfl rfl (Nat.le_of_ble_eq_true rfl) dX3_recommend_2 (bs_F hp hi0 (by decide)) (fun H locs hw => ?_)
  refine lv_aload_n hx hb dX3_recommend_5 rfl (lv_at hl 0 rfl) ?_
  refine lv_iload_n hx hb dX3_recommend_6 rfl (lv_at hl 2 rfl) ?_
  refine lv_bipush (v := 30) hx hb dX3_recommend_7 (by decide) ?_
  refine lv_iload_n hx hb dX3_recommend_9 rfl (lv_at hl 1 rfl) ?_
  refine lv_imul hx hb dX3_recommend_10 ?_
  refine lv_iadd hx hb dX3_recommend_11 ?_
  refine k_put hc hk hw (x' := (xB S p (up2 (up2 B (50 + i0) 1 a1) (50 + i0) 2 (a2 + (30 * a1))) y)) (bt_F hp hi0) rfl iX3 tyX3 tyX3_ok nmX3 2 (by decide) q109 rfl rfl rfl (Nat.le_of_ble_eq_true rfl) dX3_recommend_12 (bs_F hp hi0 (by decide)) (fun H locs hw => ?_)
  refine lv_aload_n hx hb dX3_recommend_15 rfl (lv_at hl 0 rfl) ?_
  refine lv_iconst (v := 0) hx hb dX3_recommend_16 (by decide) ?_
  refine k_put hc hk hw (x' := (xB S p (up2 (up2 (up2 B (50 + i0) 1 a1) (50 + i0) 2 (a2 + (30 * a1))) (50 + i0) 4 0) y)) (bt_F hp hi0) rfl iX3 tyX3 tyX3_ok nmX3 4 (by decide) q114 rfl (by decide +kernel) (by decide +kernel) (Nat.le_of_ble_eq_true rfl) dX3_recommend_17 (bs_F hp hi0 (by decide)) (fun H locs hw => ?_)
  refine lv_aload_n hx hb dX3_recommend_20 rfl (lv_at hl 0 rfl) ?_
  refine lv_iconst (v := 0) hx hb dX3_recommend_21 (by decide) ?_
  refine k_put hc hk hw (x' := (xB S p (up2 (up2 (up2 (up2 B (50 + i0) 1 a1) (50 + i0) 2 (a2 + (30 * a1))) (50 + i0) 4 0) (50 + i0) 5 0) y)) (bt_F hp hi0) rfl iX3 tyX3 tyX3_ok nmX3 5 (by decide) q117 rfl (by decide +kernel) (by decide +kernel) (Nat.le_of_ble_eq_true rfl) dX3_recommend_22 (bs_F hp hi0 (by decide)) (fun H locs hw => ?_)
  exact W.vret hx hb hr (fun t9 ht hW => ke_v hw ht (by simp only [f_X3_recommend])) hw.2.2.2 dX3_recommend_25
def f_X1_daysBy (i0 : Nat) (a1 : Int32) (B : BT) : Int32 :=
  (if B (10 + i0) 13 = (-1) then (if B (10 + i0) 14 = (-1) then ((a1 - (B (10 + i0) 7)) - (B (10 + i0) 15)) - 0 else ((a1 - (B (10 + i0) 7)) - (B (10 + i0) 15)) - (a1 - (B (10 + i0) 14))) else (if B (10 + i0) 14 = (-1) then (((B (10 + i0) 13) - (B (10 + i0) 7)) - (B (10 + i0) 15)) - 0 else (((B (10 + i0) 13) - (B (10 + i0) 7)) - (B (10 + i0) 15)) - ((B (10 + i0) 13) - (B (10 + i0) 14))))
set_option maxHeartbeats 4000000 in
set_option maxRecDepth 100000 in
theorem m_X1_daysBy (l : Launch) (g : wG) (S : Nat → BT) (p : Nat) (B : BT) (y : (Nat → Nat → Int32) × (Nat → Int64) × (Nat → UInt64)) (hp : p < 2) (i0 : Nat) (hi0 : i0 < 20) (a1 : Int32) : mI l yX1_daysBy cX1_daysBy 4 (some .int) ({ frames := 0, cells := 0, slots := 0, locals := 0 } : Room) 0 0 g (xB S p B y) [.ref (gA g (jC p i0)), .int a1] (f_X1_daysBy i0 a1 B) (xB S p B y) := by
  refine Met.ofW (cc := cX1_daysBy) (maxL := 4) (ret := some .int) (by decide) rfl ?_
  intro p9 e s m args below meth c s₁ BL hml hv
  obtain ⟨rfl, hk, hPB⟩ := hv
  have hx := BL.exec
  have hb := BL.bytes
  have hc : CX p9 c cX1_daysBy s _ m RX1 := ⟨hx, hb, findClass_of_methodNamed BL.named, fun w h => atoms_spec BL.pre w (List.mem_cons_of_mem _ h)⟩
  have hr := BL.returns
  have hlocks := BL.notSynchronized
  have hw : WS g s (xB S p B y) s.heap [] := ⟨hPB, va_S.rf⟩
  have hl := lv_entry ([.ref (gA g (jC p i0)), .int a1]) (n := 4) (Nat.le_of_ble_eq_true rfl)
  rw [lg_entry_eq]
  generalize (lg_sl ([.ref (gA g (jC p i0)), .int a1]) ++ List.replicate (4 - (lg_sl ([.ref (gA g (jC p i0)), .int a1])).length) Slot.unset).toArray = ls at hl ⊢
  have hl : lv_has ls 4 [(0, .ref (gA g (jC p i0))), (1, .int a1)] := hl
  refine lv_aload_n hx hb dX1_daysBy_0 rfl (lv_at hl 0 rfl) ?_
  refine k_get hc hk hw (bt_C hp hi0) rfl iX1 13 (by decide) q164 (v := .int (B (10 + i0) 13)) rfl dX1_daysBy_1 ?_
  refine lv_iconst (v := (-1)) hx hb dX1_daysBy_4 (by decide) ?_
  refine lv_icmp_ne (tgt := 12) hx hb dX1_daysBy_5 (by decide) (fun h1 => ?_) (fun h1 => ?_)
  · refine lv_aload_n hx hb dX1_daysBy_12 rfl (lv_at hl 0 rfl) ?_
    refine k_get hc hk hw (bt_C hp hi0) rfl iX1 13 (by decide) q164 (v := .int (B (10 + i0) 13)) rfl dX1_daysBy_13 ?_
    refine lv_istore_n (lv' := [(2, .int (B (10 + i0) 13)), (0, .ref (gA g (jC p i0))), (1, .int a1)]) hx hb dX1_daysBy_16 rfl hl (by decide) rfl (fun ls hl => ?_)
    refine lv_aload_n hx hb dX1_daysBy_17 rfl (lv_at hl 1 rfl) ?_
    refine k_get hc hk hw (bt_C hp hi0) rfl iX1 14 (by decide) q166 (v := .int (B (10 + i0) 14)) rfl dX1_daysBy_18 ?_
    refine lv_iconst (v := (-1)) hx hb dX1_daysBy_21 (by decide) ?_
    refine lv_icmp_ne (tgt := 29) hx hb dX1_daysBy_22 (by decide) (fun h2 => ?_) (fun h2 => ?_)
    · refine lv_iload_n hx hb dX1_daysBy_29 rfl (lv_at hl 0 rfl) ?_
      refine lv_aload_n hx hb dX1_daysBy_30 rfl (lv_at hl 1 rfl) ?_
      refine k_get hc hk hw (bt_C hp hi0) rfl iX1 14 (by decide) q166 (v := .int (B (10 + i0) 14)) rfl dX1_daysBy_31 ?_
      refine lv_isub hx hb dX1_daysBy_34 ?_
      refine lv_istore_n (lv' := [(3, .int ((B (10 + i0) 13) - (B (10 + i0) 14))), (2, .int (B (10 + i0) 13)), (0, .ref (gA g (jC p i0))), (1, .int a1)]) hx hb dX1_daysBy_35 rfl hl (by decide) rfl (fun ls hl => ?_)
      refine lv_iload_n hx hb dX1_daysBy_36 rfl (lv_at hl 1 rfl) ?_
      refine lv_aload_n hx hb dX1_daysBy_37 rfl (lv_at hl 2 rfl) ?_
      refine k_get hc hk hw (bt_C hp hi0) rfl iX1 7 (by decide) q149 (v := .int (B (10 + i0) 7)) rfl dX1_daysBy_38 ?_
      refine lv_isub hx hb dX1_daysBy_41 ?_
      refine lv_aload_n hx hb dX1_daysBy_42 rfl (lv_at hl 2 rfl) ?_
      refine k_get hc hk hw (bt_C hp hi0) rfl iX1 15 (by decide) q167 (v := .int (B (10 + i0) 15)) rfl dX1_daysBy_43 ?_
      refine lv_isub hx hb dX1_daysBy_46 ?_
      refine lv_iload_n hx hb dX1_daysBy_47 rfl (lv_at hl 0 rfl) ?_
      refine lv_isub hx hb dX1_daysBy_48 ?_
      exact W.iret (v := (((B (10 + i0) 13) - (B (10 + i0) 7)) - (B (10 + i0) 15)) - ((B (10 + i0) 13) - (B (10 + i0) 14))) hx hb hr (fun t9 ht hW => ke_i hw ht (by simp only [f_X1_daysBy, if_neg h1, if_neg h2]) rfl) hw.2.2.2 dX1_daysBy_49
    · refine lv_iconst (v := 0) hx hb dX1_daysBy_25 (by decide) ?_
      refine lv_goto (tgt := 35) hx hb dX1_daysBy_26 (by decide) ?_
      refine lv_istore_n (lv' := [(3, .int 0), (2, .int (B (10 + i0) 13)), (0, .ref (gA g (jC p i0))), (1, .int a1)]) hx hb dX1_daysBy_35 rfl hl (by decide) rfl (fun ls hl => ?_)
      refine lv_iload_n hx hb dX1_daysBy_36 rfl (lv_at hl 1 rfl) ?_
      refine lv_aload_n hx hb dX1_daysBy_37 rfl (lv_at hl 2 rfl) ?_
      refine k_get hc hk hw (bt_C hp hi0) rfl iX1 7 (by decide) q149 (v := .int (B (10 + i0) 7)) rfl dX1_daysBy_38 ?_
      refine lv_isub hx hb dX1_daysBy_41 ?_
      refine lv_aload_n hx hb dX1_daysBy_42 rfl (lv_at hl 2 rfl) ?_
      refine k_get hc hk hw (bt_C hp hi0) rfl iX1 15 (by decide) q167 (v := .int (B (10 + i0) 15)) rfl dX1_daysBy_43 ?_
      refine lv_isub hx hb dX1_daysBy_46 ?_
      refine lv_iload_n hx hb dX1_daysBy_47 rfl (lv_at hl 0 rfl) ?_
      refine lv_isub hx hb dX1_daysBy_48 ?_
      exact W.iret (v := (((B (10 + i0) 13) - (B (10 + i0) 7)) - (B (10 + i0) 15)) - 0) hx hb hr (fun t9 ht hW => ke_i hw ht (by simp only [f_X1_daysBy, if_neg h1, if_pos h2]) rfl) hw.2.2.2 dX1_daysBy_49
  · refine lv_iload_n hx hb dX1_daysBy_8 rfl (lv_at hl 1 rfl) ?_
    refine lv_goto (tgt := 16) hx hb dX1_daysBy_9 (by decide) ?_
    refine lv_istore_n (lv' := [(2, .int a1), (0, .ref (gA g (jC p i0))), (1, .int a1)]) hx hb dX1_daysBy_16 rfl hl (by decide) rfl (fun ls hl => ?_)
    refine lv_aload_n hx hb dX1_daysBy_17 rfl (lv_at hl 1 rfl) ?_
    refine k_get hc hk hw (bt_C hp hi0) rfl iX1 14 (by decide) q166 (v := .int (B (10 + i0) 14)) rfl dX1_daysBy_18 ?_
    refine lv_iconst (v := (-1)) hx hb dX1_daysBy_21 (by decide) ?_
    refine lv_icmp_ne (tgt := 29) hx hb dX1_daysBy_22 (by decide) (fun h3 => ?_) (fun h3 => ?_)
    · refine lv_iload_n hx hb dX1_daysBy_29 rfl (lv_at hl 0 rfl) ?_
      refine lv_aload_n hx hb dX1_daysBy_30 rfl (lv_at hl 1 rfl) ?_
      refine k_get hc hk hw (bt_C hp hi0) rfl iX1 14 (by decide) q166 (v := .int (B (10 + i0) 14)) rfl dX1_daysBy_31 ?_
      refine lv_isub hx hb dX1_daysBy_34 ?_
      refine lv_istore_n (lv' := [(3, .int (a1 - (B (10 + i0) 14))), (2, .int a1), (0, .ref (gA g (jC p i0))), (1, .int a1)]) hx hb dX1_daysBy_35 rfl hl (by decide) rfl (fun ls hl => ?_)
      refine lv_iload_n hx hb dX1_daysBy_36 rfl (lv_at hl 1 rfl) ?_
      refine lv_aload_n hx hb dX1_daysBy_37 rfl (lv_at hl 2 rfl) ?_
      refine k_get hc hk hw (bt_C hp hi0) rfl iX1 7 (by decide) q149 (v := .int (B (10 + i0) 7)) rfl dX1_daysBy_38 ?_
      refine lv_isub hx hb dX1_daysBy_41 ?_
      refine lv_aload_n hx hb dX1_daysBy_42 rfl (lv_at hl 2 rfl) ?_
      refine k_get hc hk hw (bt_C hp hi0) rfl iX1 15 (by decide) q167 (v := .int (B (10 + i0) 15)) rfl dX1_daysBy_43 ?_
      refine lv_isub hx hb dX1_daysBy_46 ?_
      refine lv_iload_n hx hb dX1_daysBy_47 rfl (lv_at hl 0 rfl) ?_
      refine lv_isub hx hb dX1_daysBy_48 ?_
      exact W.iret (v := ((a1 - (B (10 + i0) 7)) - (B (10 + i0) 15)) - (a1 - (B (10 + i0) 14))) hx hb hr (fun t9 ht hW => ke_i hw ht (by simp only [f_X1_daysBy, if_pos h1, if_neg h3]) rfl) hw.2.2.2 dX1_daysBy_49
    · refine lv_iconst (v := 0) hx hb dX1_daysBy_25 (by decide) ?_
      refine lv_goto (tgt := 35) hx hb dX1_daysBy_26 (by decide) ?_
      refine lv_istore_n (lv' := [(3, .int 0), (2, .int a1), (0, .ref (gA g (jC p i0))), (1, .int a1)]) hx hb dX1_daysBy_35 rfl hl (by decide) rfl (fun ls hl => ?_)
      refine lv_iload_n hx hb dX1_daysBy_36 rfl (lv_at hl 1 rfl) ?_
      refine lv_aload_n hx hb dX1_daysBy_37 rfl (lv_at hl 2 rfl) ?_
      refine k_get hc hk hw (bt_C hp hi0) rfl iX1 7 (by decide) q149 (v := .int (B (10 + i0) 7)) rfl dX1_daysBy_38 ?_
      refine lv_isub hx hb dX1_daysBy_41 ?_
      refine lv_aload_n hx hb dX1_daysBy_42 rfl (lv_at hl 2 rfl) ?_
      refine k_get hc hk hw (bt_C hp hi0) rfl iX1 15 (by decide) q167 (v := .int (B (10 + i0) 15)) rfl dX1_daysBy_43 ?_
      refine lv_isub hx hb dX1_daysBy_46 ?_
      refine lv_iload_n hx hb dX1_daysBy_47 rfl (lv_at hl 0 rfl) ?_
      refine lv_isub hx hb dX1_daysBy_48 ?_
      exact W.iret (v := ((a1 - (B (10 + i0) 7)) - (B (10 + i0) 15)) - 0) hx hb hr (fun t9 ht hW => ke_i hw ht (by simp only [f_X1_daysBy, if_pos h1, if_pos h3]) rfl) hw.2.2.2 dX1_daysBy_49
def f_X1_begin (i0 : Nat) (a1 : Int32) (a2 : Int32) (a3 : Int32) (a4 : Int32) (a5 : Int32) (B : BT) : BT :=
  f_X3_begin i0 (-1) (f_X4_begin i0 (-1) (up2 (up2 (up2 (up2 (up2 (up2 (up2 (up2 (up2 (up2 (up2 (up2 (up2 B (10 + i0) 3 a1) (10 + i0) 4 a2) (10 + i0) 5 a3) (10 + i0) 6 a4) (10 + i0) 7 a5) (10 + i0) 8 0) (10 + i0) 9 0) (10 + i0) 10 (-1)) (10 + i0) 11 110) (10 + i0) 12 (nI i0)) (10 + i0) 13 (-1)) (10 + i0) 14 (-1)) (10 + i0) 15 0))
theorem cn_X1_begin {i0 : Nat} {a1 : Int32} {a2 : Int32} {a3 : Int32} {a4 : Int32} {a5 : Int32} {B : BT} {n m9 : Nat} (hN : CN B n m9) : CN (f_X1_begin i0 a1 a2 a3 a4 a5 B) n m9 := by
  unfold f_X1_begin
  exact (cn_X3_begin (cn_X4_begin (CN.up (by omega) (by decide) (CN.up (by omega) (by decide) (CN.up (by omega) (by decide) (CN.up (by omega) (by decide) (CN.up11 (by omega) ⟨by decide +kernel, by decide +kernel, by decide +kernel⟩ (CN.up (by omega) (by decide) (CN.up (by omega) (by decide) (CN.up (by omega) (by decide) (CN.up (by omega) (by decide) (CN.up (by omega) (by decide) (CN.up (by omega) (by decide) (CN.up (by omega) (by decide) (CN.up (by omega) (by decide) hN)))))))))))))))
set_option maxHeartbeats 4000000 in
set_option maxRecDepth 100000 in
theorem m_X1_begin (l : Launch) (g : wG) (S : Nat → BT) (p : Nat) (B : BT) (y : (Nat → Nat → Int32) × (Nat → Int64) × (Nat → UInt64)) (hp : p < 2) (i0 : Nat) (hi0 : i0 < 20) (a1 : Int32) (a2 : Int32) (a3 : Int32) (a4 : Int32) (a5 : Int32) (n m9 : Nat) (hN : CN B n m9) : mV l yX1_begin cX1_begin 6 ({ frames := 1, cells := 0, slots := 0, locals := 21 } : Room) 0 0 g (xB S p B y) [.ref (gA g (jC p i0)), .int a1, .int a2, .int a3, .int a4, .int a5] (xB S p (f_X1_begin i0 a1 a2 a3 a4 a5 B) y) := by
  refine Met.ofW (cc := cX1_begin) (maxL := 6) (ret := none) (by decide) rfl ?_
  intro p9 e s m args below meth c s₁ BL hml hv
  obtain ⟨rfl, hk, hPB⟩ := hv
  have hx := BL.exec
  have hb := BL.bytes
  have hc : CX p9 c cX1_begin s _ m RX1 := ⟨hx, hb, findClass_of_methodNamed BL.named, fun w h => atoms_spec BL.pre w (List.mem_cons_of_mem _ h)⟩
  have hr := BL.returns
  have hlocks := BL.notSynchronized
  have hw : WS g s (xB S p B y) s.heap [] := ⟨hPB, va_S.rf⟩
  have hl := lv_entry ([.ref (gA g (jC p i0)), .int a1, .int a2, .int a3, .int a4, .int a5]) (n := 6) (Nat.le_of_ble_eq_true rfl)
  rw [lg_entry_eq]
  generalize (lg_sl ([.ref (gA g (jC p i0)), .int a1, .int a2, .int a3, .int a4, .int a5]) ++ List.replicate (6 - (lg_sl ([.ref (gA g (jC p i0)), .int a1, .int a2, .int a3, .int a4, .int a5])).length) Slot.unset).toArray = ls at hl ⊢
  have hl : lv_has ls 6 [(0, .ref (gA g (jC p i0))), (1, .int a1), (2, .int a2), (3, .int a3), (4, .int a4), (5, .int a5)] := hl
  refine lv_aload_n hx hb dX1_begin_0 rfl (lv_at hl 0 rfl) ?_
  refine lv_iload_n hx hb dX1_begin_1 rfl (lv_at hl 1 rfl) ?_
  refine k_put hc hk hw (x' := (xB S p (up2 B (10 + i0) 3 a1) y)) (bt_C hp hi0) rfl iX1 tyX1 tyX1_ok nmX1 3 (by decide) q141 rfl rfl rfl (Nat.le_of_ble_eq_true rfl) dX1_begin_2 (bs_C hp hi0 (by decide) (by decide)) (fun H locs hw => ?_)
  refine lv_aload_n hx hb dX1_begin_5 rfl (lv_at hl 0 rfl) ?_
  refine lv_iload_n hx hb dX1_begin_6 rfl (lv_at hl 2 rfl) ?_
  refine k_put hc hk hw (x' := (xB S p (up2 (up2 B (10 + i0) 3 a1) (10 + i0) 4 a2) y)) (bt_C hp hi0) rfl iX1 tyX1 tyX1_ok nmX1 4 (by decide) q143 rfl rfl rfl (Nat.le_of_ble_eq_true rfl) dX1_begin_7 (bs_C hp hi0 (by decide) (by decide)) (fun H locs hw => ?_)
  refine lv_aload_n hx hb dX1_begin_10 rfl (lv_at hl 0 rfl) ?_
  refine lv_iload_n hx hb dX1_begin_11 rfl (lv_at hl 3 rfl) ?_
  refine k_put hc hk hw (x' := (xB S p (up2 (up2 (up2 B (10 + i0) 3 a1) (10 + i0) 4 a2) (10 + i0) 5 a3) y)) (bt_C hp hi0) rfl iX1 tyX1 tyX1_ok nmX1 5 (by decide) q145 rfl rfl rfl (Nat.le_of_ble_eq_true rfl) dX1_begin_12 (bs_C hp hi0 (by decide) (by decide)) (fun H locs hw => ?_)
  refine lv_aload_n hx hb dX1_begin_15 rfl (lv_at hl 0 rfl) ?_
  refine lv_iload hx hb dX1_begin_16 (lv_at hl 4 rfl) ?_
  refine k_put hc hk hw (x' := (xB S p (up2 (up2 (up2 (up2 B (10 + i0) 3 a1) (10 + i0) 4 a2) (10 + i0) 5 a3) (10 + i0) 6 a4) y)) (bt_C hp hi0) rfl iX1 tyX1 tyX1_ok nmX1 6 (by decide) q147 rfl rfl rfl (Nat.le_of_ble_eq_true rfl) dX1_begin_18 (bs_C hp hi0 (by decide) (by decide)) (fun H locs hw => ?_)
  refine lv_aload_n hx hb dX1_begin_21 rfl (lv_at hl 0 rfl) ?_
  refine lv_iload hx hb dX1_begin_22 (lv_at hl 5 rfl) ?_
  refine k_put hc hk hw (x' := (xB S p (up2 (up2 (up2 (up2 (up2 B (10 + i0) 3 a1) (10 + i0) 4 a2) (10 + i0) 5 a3) (10 + i0) 6 a4) (10 + i0) 7 a5) y)) (bt_C hp hi0) rfl iX1 tyX1 tyX1_ok nmX1 7 (by decide) q149 rfl rfl rfl (Nat.le_of_ble_eq_true rfl) dX1_begin_24 (bs_C hp hi0 (by decide) (by decide)) (fun H locs hw => ?_)
  refine lv_aload_n hx hb dX1_begin_27 rfl (lv_at hl 0 rfl) ?_
  refine lv_iconst (v := 0) hx hb dX1_begin_28 (by decide) ?_
  refine k_put hc hk hw (x' := (xB S p (up2 (up2 (up2 (up2 (up2 (up2 B (10 + i0) 3 a1) (10 + i0) 4 a2) (10 + i0) 5 a3) (10 + i0) 6 a4) (10 + i0) 7 a5) (10 + i0) 8 0) y)) (bt_C hp hi0) rfl iX1 tyX1 tyX1_ok nmX1 8 (by decide) q151 rfl (by decide +kernel) (by decide +kernel) (Nat.le_of_ble_eq_true rfl) dX1_begin_29 (bs_C hp hi0 (by decide) (by decide)) (fun H locs hw => ?_)
  refine lv_aload_n hx hb dX1_begin_32 rfl (lv_at hl 0 rfl) ?_
  refine lv_iconst (v := 0) hx hb dX1_begin_33 (by decide) ?_
  refine k_put hc hk hw (x' := (xB S p (up2 (up2 (up2 (up2 (up2 (up2 (up2 B (10 + i0) 3 a1) (10 + i0) 4 a2) (10 + i0) 5 a3) (10 + i0) 6 a4) (10 + i0) 7 a5) (10 + i0) 8 0) (10 + i0) 9 0) y)) (bt_C hp hi0) rfl iX1 tyX1 tyX1_ok nmX1 9 (by decide) q153 rfl (by decide +kernel) (by decide +kernel) (Nat.le_of_ble_eq_true rfl) dX1_begin_34 (bs_C hp hi0 (by decide) (by decide)) (fun H locs hw => ?_)
  refine lv_aload_n hx hb dX1_begin_37 rfl (lv_at hl 0 rfl) ?_
  refine lv_iconst (v := (-1)) hx hb dX1_begin_38 (by decide) ?_
  refine k_put hc hk hw (x' := (xB S p (up2 (up2 (up2 (up2 (up2 (up2 (up2 (up2 B (10 + i0) 3 a1) (10 + i0) 4 a2) (10 + i0) 5 a3) (10 + i0) 6 a4) (10 + i0) 7 a5) (10 + i0) 8 0) (10 + i0) 9 0) (10 + i0) 10 (-1)) y)) (bt_C hp hi0) rfl iX1 tyX1 tyX1_ok nmX1 10 (by decide) q155 rfl rfl rfl (Nat.le_of_ble_eq_true rfl) dX1_begin_39 (bs_C hp hi0 (by decide) (by decide)) (fun H locs hw => ?_)
  refine lv_aload_n hx hb dX1_begin_42 rfl (lv_at hl 0 rfl) ?_
  refine lv_bipush (v := 110) hx hb dX1_begin_43 (by decide) ?_
  refine k_put hc hk hw (x' := (xB S p (up2 (up2 (up2 (up2 (up2 (up2 (up2 (up2 (up2 B (10 + i0) 3 a1) (10 + i0) 4 a2) (10 + i0) 5 a3) (10 + i0) 6 a4) (10 + i0) 7 a5) (10 + i0) 8 0) (10 + i0) 9 0) (10 + i0) 10 (-1)) (10 + i0) 11 110) y)) (bt_C hp hi0) rfl iX1 tyX1 tyX1_ok nmX1 11 (by decide) q158 rfl (by decide +kernel) (by decide +kernel) (Nat.le_of_ble_eq_true rfl) dX1_begin_45 (bs_C hp hi0 (by decide) (by decide)) (fun H locs hw => ?_)
  refine lv_aload_n hx hb dX1_begin_48 rfl (lv_at hl 0 rfl) ?_
  refine lv_aload_n hx hb dX1_begin_49 rfl (lv_at hl 0 rfl) ?_
  refine k_get hc hk hw (bt_C hp hi0) rfl iX1 0 (by decide) q133 (v := .int (nI i0)) rfl dX1_begin_50 ?_
  refine k_put hc hk hw (x' := (xB S p (up2 (up2 (up2 (up2 (up2 (up2 (up2 (up2 (up2 (up2 B (10 + i0) 3 a1) (10 + i0) 4 a2) (10 + i0) 5 a3) (10 + i0) 6 a4) (10 + i0) 7 a5) (10 + i0) 8 0) (10 + i0) 9 0) (10 + i0) 10 (-1)) (10 + i0) 11 110) (10 + i0) 12 (nI i0)) y)) (bt_C hp hi0) rfl iX1 tyX1 tyX1_ok nmX1 12 (by decide) q161 rfl rfl rfl (Nat.le_of_ble_eq_true rfl) dX1_begin_53 (bs_C hp hi0 (by decide) (by decide)) (fun H locs hw => ?_)
  refine lv_aload_n hx hb dX1_begin_56 rfl (lv_at hl 0 rfl) ?_
  refine lv_iconst (v := (-1)) hx hb dX1_begin_57 (by decide) ?_
  refine k_put hc hk hw (x' := (xB S p (up2 (up2 (up2 (up2 (up2 (up2 (up2 (up2 (up2 (up2 (up2 B (10 + i0) 3 a1) (10 + i0) 4 a2) (10 + i0) 5 a3) (10 + i0) 6 a4) (10 + i0) 7 a5) (10 + i0) 8 0) (10 + i0) 9 0) (10 + i0) 10 (-1)) (10 + i0) 11 110) (10 + i0) 12 (nI i0)) (10 + i0) 13 (-1)) y)) (bt_C hp hi0) rfl iX1 tyX1 tyX1_ok nmX1 13 (by decide) q164 rfl rfl rfl (Nat.le_of_ble_eq_true rfl) dX1_begin_58 (bs_C hp hi0 (by decide) (by decide)) (fun H locs hw => ?_)
  refine lv_aload_n hx hb dX1_begin_61 rfl (lv_at hl 0 rfl) ?_
  refine lv_iconst (v := (-1)) hx hb dX1_begin_62 (by decide) ?_
  refine k_put hc hk hw (x' := (xB S p (up2 (up2 (up2 (up2 (up2 (up2 (up2 (up2 (up2 (up2 (up2 (up2 B (10 + i0) 3 a1) (10 + i0) 4 a2) (10 + i0) 5 a3) (10 + i0) 6 a4) (10 + i0) 7 a5) (10 + i0) 8 0) (10 + i0) 9 0) (10 + i0) 10 (-1)) (10 + i0) 11 110) (10 + i0) 12 (nI i0)) (10 + i0) 13 (-1)) (10 + i0) 14 (-1)) y)) (bt_C hp hi0) rfl iX1 tyX1 tyX1_ok nmX1 14 (by decide) q166 rfl rfl rfl (Nat.le_of_ble_eq_true rfl) dX1_begin_63 (bs_C hp hi0 (by decide) (by decide)) (fun H locs hw => ?_)
  refine lv_aload_n hx hb dX1_begin_66 rfl (lv_at hl 0 rfl) ?_
  refine lv_iconst (v := 0) hx hb dX1_begin_67 (by decide) ?_
  refine k_put hc hk hw (x' := (xB S p (up2 (up2 (up2 (up2 (up2 (up2 (up2 (up2 (up2 (up2 (up2 (up2 (up2 B (10 + i0) 3 a1) (10 + i0) 4 a2) (10 + i0) 5 a3) (10 + i0) 6 a4) (10 + i0) 7 a5) (10 + i0) 8 0) (10 + i0) 9 0) (10 + i0) 10 (-1)) (10 + i0) 11 110) (10 + i0) 12 (nI i0)) (10 + i0) 13 (-1)) (10 + i0) 14 (-1)) (10 + i0) 15 0) y)) (bt_C hp hi0) rfl iX1 tyX1 tyX1_ok nmX1 15 (by decide) q167 rfl rfl rfl (Nat.le_of_ble_eq_true rfl) dX1_begin_68 (bs_C hp hi0 (by decide) (by decide)) (fun H locs hw => ?_)
  refine lv_aload_n hx hb dX1_begin_71 rfl (lv_at hl 0 rfl) ?_
  refine k_get hc hk hw (bt_C hp hi0) rfl iX1 1 (by decide) q135 (v := .ref (gA g (jI p i0))) rfl dX1_begin_72 ?_
  refine lv_iconst (v := (-1)) hx hb dX1_begin_75 (by decide) ?_
  refine kc_v hw (va_runVN (As := [.int (-1)]) (rest := []) ⟨hx, hb, hml, hc.2.2.1, hc.2.2.2⟩ (m_X4_begin l g S p (up2 (up2 (up2 (up2 (up2 (up2 (up2 (up2 (up2 (up2 (up2 (up2 (up2 B (10 + i0) 3 a1) (10 + i0) 4 a2) (10 + i0) 5 a3) (10 + i0) 6 a4) (10 + i0) 7 a5) (10 + i0) 8 0) (10 + i0) 9 0) (10 + i0) 10 (-1)) (10 + i0) 11 110) (10 + i0) 12 (nI i0)) (10 + i0) 13 (-1)) (10 + i0) 14 (-1)) (10 + i0) 15 0) y hp i0 hi0 (-1) _ _ (CN.up (by omega) (by decide) (CN.up (by omega) (by decide) (CN.up (by omega) (by decide) (CN.up (by omega) (by decide) (CN.up11 (by omega) ⟨by decide +kernel, by decide +kernel, by decide +kernel⟩ (CN.up (by omega) (by decide) (CN.up (by omega) (by decide) (CN.up (by omega) (by decide) (CN.up (by omega) (by decide) (CN.up (by omega) (by decide) (CN.up (by omega) (by decide) (CN.up (by omega) (by decide) (CN.up (by omega) (by decide) hN)))))))))))))) ⟨kw_N hc hk 1 nq298 q5 q301 rfl rfl (by decide +kernel) ⟨Nat.le_of_ble_eq_true rfl, Nat.le_of_ble_eq_true rfl⟩, hc.2.2.2 _ q300, hc.2.2.2 _ qs9⟩ (kp_V hk hw (bt_I hp hi0) rfl) rfl rfl hl.1 rfl (lv_room (Nat.le_of_ble_eq_true rfl)) dX1_begin_76 ⟨Nat.le_of_ble_eq_true rfl, Nat.le_of_ble_eq_true rfl⟩) (fun H locs hw => ?_)
  refine lv_aload_n hx hb dX1_begin_79 rfl (lv_at hl 0 rfl) ?_
  refine k_get hc hk hw (bt_C hp hi0) rfl iX1 2 (by decide) q138 (v := .ref (gA g (jF p i0))) rfl dX1_begin_80 ?_
  refine lv_iconst (v := (-1)) hx hb dX1_begin_83 (by decide) ?_
  refine kc_v hw (va_runVN (As := [.int (-1)]) (rest := []) ⟨hx, hb, hml, hc.2.2.1, hc.2.2.2⟩ (m_X3_begin l g S p (f_X4_begin i0 (-1) (up2 (up2 (up2 (up2 (up2 (up2 (up2 (up2 (up2 (up2 (up2 (up2 (up2 B (10 + i0) 3 a1) (10 + i0) 4 a2) (10 + i0) 5 a3) (10 + i0) 6 a4) (10 + i0) 7 a5) (10 + i0) 8 0) (10 + i0) 9 0) (10 + i0) 10 (-1)) (10 + i0) 11 110) (10 + i0) 12 (nI i0)) (10 + i0) 13 (-1)) (10 + i0) 14 (-1)) (10 + i0) 15 0)) y hp i0 hi0 (-1) _ _ (cn_X4_begin (CN.up (by omega) (by decide) (CN.up (by omega) (by decide) (CN.up (by omega) (by decide) (CN.up (by omega) (by decide) (CN.up11 (by omega) ⟨by decide +kernel, by decide +kernel, by decide +kernel⟩ (CN.up (by omega) (by decide) (CN.up (by omega) (by decide) (CN.up (by omega) (by decide) (CN.up (by omega) (by decide) (CN.up (by omega) (by decide) (CN.up (by omega) (by decide) (CN.up (by omega) (by decide) (CN.up (by omega) (by decide) hN))))))))))))))) ⟨kw_N hc hk 1 nq302 q6 q305 rfl rfl (by decide +kernel) ⟨Nat.le_of_ble_eq_true rfl, Nat.le_of_ble_eq_true rfl⟩, hc.2.2.2 _ q304, hc.2.2.2 _ qs10⟩ (kp_V hk hw (bt_F hp hi0) rfl) rfl rfl hl.1 rfl (lv_room (Nat.le_of_ble_eq_true rfl)) dX1_begin_84 ⟨Nat.le_of_ble_eq_true rfl, Nat.le_of_ble_eq_true rfl⟩) (fun H locs hw => ?_)
  exact W.vret hx hb hr (fun t9 ht hW => ke_v hw ht (by simp only [f_X1_begin])) hw.2.2.2 dX1_begin_87
