/-! the book, second part -/
def f_X0_openOffice (a1 : Int32) (a2 : Int32) (B : BT) : Int32 × BT :=
  (if B 0 3 < 6 then (((up2 (f_X5_begin ((B 0 3).toNatClampNeg) a1 a2 B) 0 3 (((f_X5_begin ((B 0 3).toNatClampNeg) a1 a2 B) 0 3) + 1)) 0 3) - 1, up2 (f_X5_begin ((B 0 3).toNatClampNeg) a1 a2 B) 0 3 (((f_X5_begin ((B 0 3).toNatClampNeg) a1 a2 B) 0 3) + 1)) else ((-1), B))
set_option maxHeartbeats 4000000 in
set_option maxRecDepth 100000 in
theorem m_X0_openOffice (l : Launch) (g : wG) (S : Nat → BT) (p : Nat) (B : BT) (y : (Nat → Nat → Int32) × (Nat → Int64) × (Nat → UInt64)) (hp : p < 2) (a1 : Int32) (a2 : Int32) (n m9 : Nat) (hN : CN B n m9) : mI l yX0_openOffice cX0_openOffice 3 (some .int) ({ frames := 1, cells := 0, slots := 0, locals := 22 } : Room) 0 0 g (xB S p B y) [.ref (gA g (jB p)), .int a1, .int a2] ((f_X0_openOffice a1 a2 B).1) (xB S p ((f_X0_openOffice a1 a2 B).2) y) := by
  refine Met.ofW (cc := cX0_openOffice) (maxL := 3) (ret := some .int) (by decide) rfl ?_
  intro p9 e s m args below meth c s₁ BL hml hv
  obtain ⟨rfl, hk, hPB⟩ := hv
  have hx := BL.exec
  have hb := BL.bytes
  have hc : CX p9 c cX0_openOffice s _ m RX0 := ⟨hx, hb, findClass_of_methodNamed BL.named, fun w h => atoms_spec BL.pre w (List.mem_cons_of_mem _ h)⟩
  have hr := BL.returns
  have hlocks := BL.notSynchronized
  have hw : WS g s (xB S p B y) s.heap [] := ⟨hPB, va_S.rf⟩
  have hl := lv_entry ([.ref (gA g (jB p)), .int a1, .int a2]) (n := 3) (Nat.le_of_ble_eq_true rfl)
  rw [lg_entry_eq]
  generalize (lg_sl ([.ref (gA g (jB p)), .int a1, .int a2]) ++ List.replicate (3 - (lg_sl ([.ref (gA g (jB p)), .int a1, .int a2])).length) Slot.unset).toArray = ls at hl ⊢
  have hl : lv_has ls 3 [(0, .ref (gA g (jB p))), (1, .int a1), (2, .int a2)] := hl
  refine lv_aload_n hx hb dX0_openOffice_0 rfl (lv_at hl 0 rfl) ?_
  refine k_get hc hk hw (bt_B hp) rfl iX0 3 (by decide) q206 (v := .int (B 0 3)) rfl dX0_openOffice_1 ?_
  refine lv_bipush (v := 6) hx hb dX0_openOffice_4 (by decide) ?_
  refine lv_icmp_lt (tgt := 11) hx hb dX0_openOffice_6 (by decide) (fun h1 => ?_) (fun h1 => ?_)
  · refine lv_aload_n hx hb dX0_openOffice_11 rfl (lv_at hl 0 rfl) ?_
    refine k_get hc hk hw (bt_B hp) rfl iX0 0 (by decide) q201 (v := .ref (gA g (jOs p))) rfl dX0_openOffice_12 ?_
    refine lv_aload_n hx hb dX0_openOffice_15 rfl (lv_at hl 0 rfl) ?_
    refine k_get hc hk hw (bt_B hp) rfl iX0 3 (by decide) q206 (v := .int (B 0 3)) rfl dX0_openOffice_16 ?_
    refine k_ald (t0 := 6) (f := fun k => gA g (jO p k)) (n := ((B 0 3).toNatClampNeg)) hc hk hw rfl (at_Os hp) (CN.i3 hN h1).1 rfl dX0_openOffice_19 ?_
    refine lv_iload_n hx hb dX0_openOffice_20 rfl (lv_at hl 1 rfl) ?_
    refine lv_iload_n hx hb dX0_openOffice_21 rfl (lv_at hl 2 rfl) ?_
    refine kc_v hw (va_runVN (As := [.int a1, .int a2]) (rest := []) ⟨hx, hb, hml, hc.2.2.1, hc.2.2.2⟩ (m_X5_begin l g S p B y hp ((B 0 3).toNatClampNeg) (CN.i3 hN h1).2 a1 a2 _ _ hN) ⟨kw_N hc hk 2 nq282 q3 q285 rfl rfl (by decide +kernel) ⟨Nat.le_of_ble_eq_true rfl, Nat.le_of_ble_eq_true rfl⟩, hc.2.2.2 _ q284, hc.2.2.2 _ qs5⟩ (kp_V hk hw (bt_O hp (CN.i3 hN h1).2) rfl) rfl rfl hl.1 rfl (lv_room (Nat.le_of_ble_eq_true rfl)) dX0_openOffice_22 ⟨Nat.le_of_ble_eq_true rfl, Nat.le_of_ble_eq_true rfl⟩) (fun H locs hw => ?_)
    refine lv_aload_n hx hb dX0_openOffice_25 rfl (lv_at hl 0 rfl) ?_
    refine lv_dup hx hb dX0_openOffice_26 rfl ?_
    refine k_get hc hk hw (bt_B hp) rfl iX0 3 (by decide) q206 (v := .int ((f_X5_begin ((B 0 3).toNatClampNeg) a1 a2 B) 0 3)) rfl dX0_openOffice_27 ?_
    refine lv_iconst (v := 1) hx hb dX0_openOffice_30 (by decide) ?_
    refine lv_iadd hx hb dX0_openOffice_31 ?_
    refine k_put hc hk hw (x' := (xB S p (up2 (f_X5_begin ((B 0 3).toNatClampNeg) a1 a2 B) 0 3 (((f_X5_begin ((B 0 3).toNatClampNeg) a1 a2 B) 0 3) + 1)) y)) (bt_B hp) rfl iX0 tyX0 tyX0_ok nmX0 3 (by decide) q206 rfl rfl rfl (Nat.le_of_ble_eq_true rfl) dX0_openOffice_32 (bs_B hp (by decide) (by decide)) (fun H locs hw => ?_)
    refine lv_aload_n hx hb dX0_openOffice_35 rfl (lv_at hl 0 rfl) ?_
    refine k_get hc hk hw (bt_B hp) rfl iX0 3 (by decide) q206 (v := .int ((up2 (f_X5_begin ((B 0 3).toNatClampNeg) a1 a2 B) 0 3 (((f_X5_begin ((B 0 3).toNatClampNeg) a1 a2 B) 0 3) + 1)) 0 3)) rfl dX0_openOffice_36 ?_
    refine lv_iconst (v := 1) hx hb dX0_openOffice_39 (by decide) ?_
    refine lv_isub hx hb dX0_openOffice_40 ?_
    exact W.iret (v := ((up2 (f_X5_begin ((B 0 3).toNatClampNeg) a1 a2 B) 0 3 (((f_X5_begin ((B 0 3).toNatClampNeg) a1 a2 B) 0 3) + 1)) 0 3) - 1) hx hb hr (fun t9 ht hW => ke_i hw ht (by simp only [f_X0_openOffice, if_pos h1]) (by simp only [f_X0_openOffice, if_pos h1])) hw.2.2.2 dX0_openOffice_41
  · refine lv_iconst (v := (-1)) hx hb dX0_openOffice_9 (by decide) ?_
    exact W.iret (v := (-1)) hx hb hr (fun t9 ht hW => ke_i hw ht (by simp only [f_X0_openOffice, if_neg h1]) (by simp only [f_X0_openOffice, if_neg h1])) hw.2.2.2 dX0_openOffice_10
def f_X0_weigh (a1 : Int32) (a2 : Int32) (B : BT) : Int32 × BT :=
  (if a1 < 0 then ((-1), B) else (if a1 < 5 then (B 3 ((a1).toNatClampNeg), up2 B 3 ((a1).toNatClampNeg) a2) else ((-1), B)))
theorem cn_X0_weigh {a1 : Int32} {a2 : Int32} {B : BT} {n m9 : Nat} (hN : CN B n m9) : CN ((f_X0_weigh a1 a2 B).2) n m9 := by
  unfold f_X0_weigh
  by_cases h1 : a1 < 0
  · simp only [if_pos h1]
    exact hN
  · simp only [if_neg h1]
    by_cases h2 : a1 < 5
    · simp only [if_pos h2]
      exact (CN.upw hN)
    · simp only [if_neg h2]
      exact hN
set_option maxHeartbeats 4000000 in
set_option maxRecDepth 100000 in
theorem m_X0_weigh (l : Launch) (g : wG) (S : Nat → BT) (p : Nat) (B : BT) (y : (Nat → Nat → Int32) × (Nat → Int64) × (Nat → UInt64)) (hp : p < 2) (a1 : Int32) (a2 : Int32) (n m9 : Nat) (hN : CN B n m9) : mI l yX0_weigh cX0_weigh 4 (some .int) ({ frames := 0, cells := 0, slots := 0, locals := 0 } : Room) 0 0 g (xB S p B y) [.ref (gA g (jB p)), .int a1, .int a2] ((f_X0_weigh a1 a2 B).1) (xB S p ((f_X0_weigh a1 a2 B).2) y) := by
  refine Met.ofW (cc := cX0_weigh) (maxL := 4) (ret := some .int) (by decide) rfl ?_
  intro p9 e s m args below meth c s₁ BL hml hv
  obtain ⟨rfl, hk, hPB⟩ := hv
  have hx := BL.exec
  have hb := BL.bytes
  have hc : CX p9 c cX0_weigh s _ m RX0 := ⟨hx, hb, findClass_of_methodNamed BL.named, fun w h => atoms_spec BL.pre w (List.mem_cons_of_mem _ h)⟩
  have hr := BL.returns
  have hlocks := BL.notSynchronized
  have hw : WS g s (xB S p B y) s.heap [] := ⟨hPB, va_S.rf⟩
  have hl := lv_entry ([.ref (gA g (jB p)), .int a1, .int a2]) (n := 4) (Nat.le_of_ble_eq_true rfl)
  rw [lg_entry_eq]
  generalize (lg_sl ([.ref (gA g (jB p)), .int a1, .int a2]) ++ List.replicate (4 - (lg_sl ([.ref (gA g (jB p)), .int a1, .int a2])).length) Slot.unset).toArray = ls at hl ⊢
  have hl : lv_has ls 4 [(0, .ref (gA g (jB p))), (1, .int a1), (2, .int a2)] := hl
  refine lv_iload_n hx hb dX0_weigh_0 rfl (lv_at hl 1 rfl) ?_
  refine lv_if_lt (tgt := 9) hx hb dX0_weigh_1 (by decide) (fun h1 => ?_) (fun h1 => ?_)
  · refine lv_iconst (v := (-1)) hx hb dX0_weigh_9 (by decide) ?_
    exact W.iret (v := (-1)) hx hb hr (fun t9 ht hW => ke_i hw ht (by simp only [f_X0_weigh, if_pos h1]) (by simp only [f_X0_weigh, if_pos h1])) hw.2.2.2 dX0_weigh_10
  · refine lv_iload_n hx hb dX0_weigh_4 rfl (lv_at hl 1 rfl) ?_
    refine lv_iconst (v := 5) hx hb dX0_weigh_5 (by decide) ?_
    refine lv_icmp_lt (tgt := 11) hx hb dX0_weigh_6 (by decide) (fun h2 => ?_) (fun h2 => ?_)
    · refine lv_aload_n hx hb dX0_weigh_11 rfl (lv_at hl 0 rfl) ?_
      refine k_get hc hk hw (bt_B hp) rfl iX0 2 (by decide) q205 (v := .ref (gA g (jW p))) rfl dX0_weigh_12 ?_
      refine lv_iload_n hx hb dX0_weigh_15 rfl (lv_at hl 1 rfl) ?_
      refine k_iald (f := B 3) (n := ((a1).toNatClampNeg)) hc hk hw (bt_W hp) (vinC h1 (i32_nle h2) (show (5 : Int32) = nI 5 from rfl) (by have := (Nat.le_refl 5); omega) (by omega)).1 rfl dX0_weigh_16 ?_
      refine lv_istore_n (lv' := [(3, .int (B 3 ((a1).toNatClampNeg))), (0, .ref (gA g (jB p))), (1, .int a1), (2, .int a2)]) hx hb dX0_weigh_17 rfl hl (by decide) rfl (fun ls hl => ?_)
      refine lv_aload_n hx hb dX0_weigh_18 rfl (lv_at hl 1 rfl) ?_
      refine k_get hc hk hw (bt_B hp) rfl iX0 2 (by decide) q205 (v := .ref (gA g (jW p))) rfl dX0_weigh_19 ?_
      refine lv_iload_n hx hb dX0_weigh_22 rfl (lv_at hl 2 rfl) ?_
      refine lv_iload_n hx hb dX0_weigh_23 rfl (lv_at hl 3 rfl) ?_
      refine k_iast (x' := (xB S p (up2 B 3 ((a1).toNatClampNeg) a2) y)) (f := B 3) (n := ((a1).toNatClampNeg)) hc hk hw (bt_W hp) (vinC h1 (i32_nle h2) (show (5 : Int32) = nI 5 from rfl) (by have := (Nat.le_refl 5); omega) (by omega)).1 rfl dX0_weigh_24 (bs_W hp) (fun H locs hw => ?_)
      refine lv_iload_n hx hb dX0_weigh_25 rfl (lv_at hl 0 rfl) ?_
      exact W.iret (v := B 3 ((a1).toNatClampNeg)) hx hb hr (fun t9 ht hW => ke_i hw ht (by simp only [f_X0_weigh, if_neg h1, if_pos h2]) (by simp only [f_X0_weigh, if_neg h1, if_pos h2])) hw.2.2.2 dX0_weigh_26
    · refine lv_iconst (v := (-1)) hx hb dX0_weigh_9 (by decide) ?_
      exact W.iret (v := (-1)) hx hb hr (fun t9 ht hW => ke_i hw ht (by simp only [f_X0_weigh, if_neg h1, if_neg h2]) (by simp only [f_X0_weigh, if_neg h1, if_neg h2])) hw.2.2.2 dX0_weigh_10
def f_X0_hear (a1 : Int32) (a2 : Int32) (a3 : Int32) (a4 : Int32) (B : BT) : Int32 × BT :=
  (if a1 < 0 then ((-1), B) else (if B 0 3 ≤ a1 then ((-1), B) else (if B 0 4 < 20 then (((up2 (f_X1_begin ((B 0 4).toNatClampNeg) a1 a2 a3 a4 (B 0 5) B) 0 4 (((f_X1_begin ((B 0 4).toNatClampNeg) a1 a2 a3 a4 (B 0 5) B) 0 4) + 1)) 0 4) - 1, up2 (f_X1_begin ((B 0 4).toNatClampNeg) a1 a2 a3 a4 (B 0 5) B) 0 4 (((f_X1_begin ((B 0 4).toNatClampNeg) a1 a2 a3 a4 (B 0 5) B) 0 4) + 1)) else ((-1), B))))
set_option maxHeartbeats 4000000 in
set_option maxRecDepth 100000 in
theorem m_X0_hear (l : Launch) (g : wG) (S : Nat → BT) (p : Nat) (B : BT) (y : (Nat → Nat → Int32) × (Nat → Int64) × (Nat → UInt64)) (hp : p < 2) (a1 : Int32) (a2 : Int32) (a3 : Int32) (a4 : Int32) (n m9 : Nat) (hN : CN B n m9) : mI l yX0_hear cX0_hear 5 (some .int) ({ frames := 2, cells := 0, slots := 0, locals := 46 } : Room) 0 0 g (xB S p B y) [.ref (gA g (jB p)), .int a1, .int a2, .int a3, .int a4] ((f_X0_hear a1 a2 a3 a4 B).1) (xB S p ((f_X0_hear a1 a2 a3 a4 B).2) y) := by
  refine Met.ofW (cc := cX0_hear) (maxL := 5) (ret := some .int) (by decide) rfl ?_
  intro p9 e s m args below meth c s₁ BL hml hv
  obtain ⟨rfl, hk, hPB⟩ := hv
  have hx := BL.exec
  have hb := BL.bytes
  have hc : CX p9 c cX0_hear s _ m RX0 := ⟨hx, hb, findClass_of_methodNamed BL.named, fun w h => atoms_spec BL.pre w (List.mem_cons_of_mem _ h)⟩
  have hr := BL.returns
  have hlocks := BL.notSynchronized
  have hw : WS g s (xB S p B y) s.heap [] := ⟨hPB, va_S.rf⟩
  have hl := lv_entry ([.ref (gA g (jB p)), .int a1, .int a2, .int a3, .int a4]) (n := 5) (Nat.le_of_ble_eq_true rfl)
  rw [lg_entry_eq]
  generalize (lg_sl ([.ref (gA g (jB p)), .int a1, .int a2, .int a3, .int a4]) ++ List.replicate (5 - (lg_sl ([.ref (gA g (jB p)), .int a1, .int a2, .int a3, .int a4])).length) Slot.unset).toArray = ls at hl ⊢
  have hl : lv_has ls 5 [(0, .ref (gA g (jB p))), (1, .int a1), (2, .int a2), (3, .int a3), (4, .int a4)] := hl
  refine lv_iload_n hx hb dX0_hear_0 rfl (lv_at hl 1 rfl) ?_
  refine lv_if_lt (tgt := 21) hx hb dX0_hear_1 (by decide) (fun h1 => ?_) (fun h1 => ?_)
  · refine lv_iconst (v := (-1)) hx hb dX0_hear_21 (by decide) ?_
    exact W.iret (v := (-1)) hx hb hr (fun t9 ht hW => ke_i hw ht (by simp only [f_X0_hear, if_pos h1]) (by simp only [f_X0_hear, if_pos h1])) hw.2.2.2 dX0_hear_22
  · refine lv_iload_n hx hb dX0_hear_4 rfl (lv_at hl 1 rfl) ?_
    refine lv_aload_n hx hb dX0_hear_5 rfl (lv_at hl 0 rfl) ?_
    refine k_get hc hk hw (bt_B hp) rfl iX0 3 (by decide) q206 (v := .int (B 0 3)) rfl dX0_hear_6 ?_
    refine lv_icmp_ge (tgt := 21) hx hb dX0_hear_9 (by decide) (fun h2 => ?_) (fun h2 => ?_)
    · refine lv_iconst (v := (-1)) hx hb dX0_hear_21 (by decide) ?_
      exact W.iret (v := (-1)) hx hb hr (fun t9 ht hW => ke_i hw ht (by simp only [f_X0_hear, if_neg h1, if_pos h2]) (by simp only [f_X0_hear, if_neg h1, if_pos h2])) hw.2.2.2 dX0_hear_22
    · refine lv_aload_n hx hb dX0_hear_12 rfl (lv_at hl 0 rfl) ?_
      refine k_get hc hk hw (bt_B hp) rfl iX0 4 (by decide) q208 (v := .int (B 0 4)) rfl dX0_hear_13 ?_
      refine lv_bipush (v := 20) hx hb dX0_hear_16 (by decide) ?_
      refine lv_icmp_lt (tgt := 23) hx hb dX0_hear_18 (by decide) (fun h3 => ?_) (fun h3 => ?_)
      · refine lv_aload_n hx hb dX0_hear_23 rfl (lv_at hl 0 rfl) ?_
        refine k_get hc hk hw (bt_B hp) rfl iX0 1 (by decide) q203 (v := .ref (gA g (jCs p))) rfl dX0_hear_24 ?_
        refine lv_aload_n hx hb dX0_hear_27 rfl (lv_at hl 0 rfl) ?_
        refine k_get hc hk hw (bt_B hp) rfl iX0 4 (by decide) q208 (v := .int (B 0 4)) rfl dX0_hear_28 ?_
        refine k_ald (t0 := 5) (f := fun k => gA g (jC p k)) (n := ((B 0 4).toNatClampNeg)) hc hk hw rfl (at_Cs hp) (CN.i4 hN h3).1 rfl dX0_hear_31 ?_
        refine lv_iload_n hx hb dX0_hear_32 rfl (lv_at hl 1 rfl) ?_
        refine lv_iload_n hx hb dX0_hear_33 rfl (lv_at hl 2 rfl) ?_
        refine lv_iload_n hx hb dX0_hear_34 rfl (lv_at hl 3 rfl) ?_
        refine lv_iload hx hb dX0_hear_35 (lv_at hl 4 rfl) ?_
        refine lv_aload_n hx hb dX0_hear_37 rfl (lv_at hl 0 rfl) ?_
        refine k_get hc hk hw (bt_B hp) rfl iX0 5 (by decide) q210 (v := .int (B 0 5)) rfl dX0_hear_38 ?_
        refine kc_v hw (va_runVN (As := [.int a1, .int a2, .int a3, .int a4, .int (B 0 5)]) (rest := []) ⟨hx, hb, hml, hc.2.2.1, hc.2.2.2⟩ (m_X1_begin l g S p B y hp ((B 0 4).toNatClampNeg) (CN.i4 hN h3).2 a1 a2 a3 a4 (B 0 5) _ _ hN) ⟨kw_N hc hk 5 nq294 q4 q297 rfl rfl (by decide +kernel) ⟨Nat.le_of_ble_eq_true rfl, Nat.le_of_ble_eq_true rfl⟩, hc.2.2.2 _ q296, hc.2.2.2 _ qs8⟩ (kp_V hk hw (bt_C hp (CN.i4 hN h3).2) rfl) rfl rfl hl.1 rfl (lv_room (Nat.le_of_ble_eq_true rfl)) dX0_hear_41 ⟨Nat.le_of_ble_eq_true rfl, Nat.le_of_ble_eq_true rfl⟩) (fun H locs hw => ?_)
        refine lv_aload_n hx hb dX0_hear_44 rfl (lv_at hl 0 rfl) ?_
        refine lv_dup hx hb dX0_hear_45 rfl ?_
        refine k_get hc hk hw (bt_B hp) rfl iX0 4 (by decide) q208 (v := .int ((f_X1_begin ((B 0 4).toNatClampNeg) a1 a2 a3 a4 (B 0 5) B) 0 4)) rfl dX0_hear_46 ?_
        refine lv_iconst (v := 1) hx hb dX0_hear_49 (by decide) ?_
        refine lv_iadd hx hb dX0_hear_50 ?_
        refine k_put hc hk hw (x' := (xB S p (up2 (f_X1_begin ((B 0 4).toNatClampNeg) a1 a2 a3 a4 (B 0 5) B) 0 4 (((f_X1_begin ((B 0 4).toNatClampNeg) a1 a2 a3 a4 (B 0 5) B) 0 4) + 1)) y)) (bt_B hp) rfl iX0 tyX0 tyX0_ok nmX0 4 (by decide) q208 rfl rfl rfl (Nat.le_of_ble_eq_true rfl) dX0_hear_51 (bs_B hp (by decide) (by decide)) (fun H locs hw => ?_)
        refine lv_aload_n hx hb dX0_hear_54 rfl (lv_at hl 0 rfl) ?_
        refine k_get hc hk hw (bt_B hp) rfl iX0 4 (by decide) q208 (v := .int ((up2 (f_X1_begin ((B 0 4).toNatClampNeg) a1 a2 a3 a4 (B 0 5) B) 0 4 (((f_X1_begin ((B 0 4).toNatClampNeg) a1 a2 a3 a4 (B 0 5) B) 0 4) + 1)) 0 4)) rfl dX0_hear_55 ?_
        refine lv_iconst (v := 1) hx hb dX0_hear_58 (by decide) ?_
        refine lv_isub hx hb dX0_hear_59 ?_
        exact W.iret (v := ((up2 (f_X1_begin ((B 0 4).toNatClampNeg) a1 a2 a3 a4 (B 0 5) B) 0 4 (((f_X1_begin ((B 0 4).toNatClampNeg) a1 a2 a3 a4 (B 0 5) B) 0 4) + 1)) 0 4) - 1) hx hb hr (fun t9 ht hW => ke_i hw ht (by simp only [f_X0_hear, if_neg h1, if_neg h2, if_pos h3]) (by simp only [f_X0_hear, if_neg h1, if_neg h2, if_pos h3])) hw.2.2.2 dX0_hear_60
      · refine lv_iconst (v := (-1)) hx hb dX0_hear_21 (by decide) ?_
        exact W.iret (v := (-1)) hx hb hr (fun t9 ht hW => ke_i hw ht (by simp only [f_X0_hear, if_neg h1, if_neg h2, if_neg h3]) (by simp only [f_X0_hear, if_neg h1, if_neg h2, if_neg h3])) hw.2.2.2 dX0_hear_22
theorem ok_X0_intakeOf {i1 : Nat} {B : BT} : okc (f_X0_intakeOf i1 B) := by
  unfold f_X0_intakeOf
  (repeat' split) <;> exact ⟨by decide +kernel, by decide +kernel, by decide +kernel⟩
def f_X0_applyAtIntake (a1 : Int32) (i2 : Nat) (a3 : Int32) (B : BT) : Int32 × BT :=
  (if a1 = 5 then (if a3 = 1 then ((f_X0_tellOfCourt i2 1 B).1, (f_X0_tellOfCourt i2 1 B).2) else ((f_X0_tellOfCourt i2 0 B).1, (f_X0_tellOfCourt i2 0 B).2)) else (if a1 = 6 then ((f_X0_tellOfReason i2 B).1, (f_X0_tellOfReason i2 B).2) else (if a1 = 7 then (((up2 B (10 + i2) 10 (B 0 5)) 0 5) + ((up2 B (10 + i2) 10 (B 0 5)) (4 + (f_X0_officeOf i2 (up2 B (10 + i2) 10 (B 0 5)))) 0), up2 B (10 + i2) 10 (B 0 5)) else ((f_X1_moveTo i2 (f_X0_intakeOf i2 B) (B 0 5) B) (10 + i2) 11, f_X1_moveTo i2 (f_X0_intakeOf i2 B) (B 0 5) B))))
theorem cn_X0_applyAtIntake {a1 : Int32} {i2 : Nat} {a3 : Int32} {B : BT} {n m9 : Nat} (hN : CN B n m9) : CN ((f_X0_applyAtIntake a1 i2 a3 B).2) n m9 := by
  unfold f_X0_applyAtIntake
  by_cases z1 : a1 = 5
  · simp only [if_pos z1]
    by_cases h2 : a3 = 1
    · simp only [if_pos h2]
      exact (cn_X0_tellOfCourt ⟨by decide +kernel, by decide +kernel, by decide +kernel⟩ hN)
    · simp only [if_neg h2]
      exact (cn_X0_tellOfCourt ⟨by decide +kernel, by decide +kernel, by decide +kernel⟩ hN)
  · simp only [if_neg z1]
    by_cases z2 : a1 = 6
    · simp only [if_pos z2]
      exact (cn_X0_tellOfReason hN)
    · simp only [if_neg z2]
      by_cases z3 : a1 = 7
      · simp only [if_pos z3]
        exact (CN.up (by omega) (by decide) hN)
      · simp only [if_neg z3]
        exact (cn_X1_moveTo ok_X0_intakeOf hN)
set_option maxHeartbeats 4000000 in
set_option maxRecDepth 100000 in
theorem m_X0_applyAtIntake (l : Launch) (g : wG) (S : Nat → BT) (p : Nat) (B : BT) (y : (Nat → Nat → Int32) × (Nat → Int64) × (Nat → UInt64)) (hp : p < 2) (a1 : Int32) (i2 : Nat) (hi2 : i2 < 20) (a3 : Int32) (n m9 : Nat) (hN : CN B n m9) : mI l yX0_applyAtIntake cX0_applyAtIntake 4 (some .int) ({ frames := 5, cells := 0, slots := 0, locals := 113 } : Room) 0 0 g (xB S p B y) [.ref (gA g (jB p)), .int a1, .ref (gA g (jC p i2)), .int a3] ((f_X0_applyAtIntake a1 i2 a3 B).1) (xB S p ((f_X0_applyAtIntake a1 i2 a3 B).2) y) := by
  refine Met.ofW (cc := cX0_applyAtIntake) (maxL := 4) (ret := some .int) (by decide) rfl ?_
  intro p9 e s m args below meth c s₁ BL hml hv
  obtain ⟨rfl, hk, hPB⟩ := hv
  have hx := BL.exec
  have hb := BL.bytes
  have hc : CX p9 c cX0_applyAtIntake s _ m RX0 := ⟨hx, hb, findClass_of_methodNamed BL.named, fun w h => atoms_spec BL.pre w (List.mem_cons_of_mem _ h)⟩
  have hr := BL.returns
  have hlocks := BL.notSynchronized
  have hw : WS g s (xB S p B y) s.heap [] := ⟨hPB, va_S.rf⟩
  have hl := lv_entry ([.ref (gA g (jB p)), .int a1, .ref (gA g (jC p i2)), .int a3]) (n := 4) (Nat.le_of_ble_eq_true rfl)
  rw [lg_entry_eq]
  generalize (lg_sl ([.ref (gA g (jB p)), .int a1, .ref (gA g (jC p i2)), .int a3]) ++ List.replicate (4 - (lg_sl ([.ref (gA g (jB p)), .int a1, .ref (gA g (jC p i2)), .int a3])).length) Slot.unset).toArray = ls at hl ⊢
  have hl : lv_has ls 4 [(0, .ref (gA g (jB p))), (1, .int a1), (2, .ref (gA g (jC p i2))), (3, .int a3)] := hl
  refine lv_iload_n hx hb dX0_applyAtIntake_0 rfl (lv_at hl 1 rfl) ?_
  by_cases h1 : a1 = 5
  · refine lv_tableIn (off := 27) (tgt := 28) hx hb dX0_applyAtIntake_1 (by rw [h1]; decide) (by rw [h1]; decide) (by rw [h1]; decide) (by decide) ?_
    refine lv_aload_n hx hb dX0_applyAtIntake_28 rfl (lv_at hl 0 rfl) ?_
    refine lv_aload_n hx hb dX0_applyAtIntake_29 rfl (lv_at hl 2 rfl) ?_
    refine lv_iload_n hx hb dX0_applyAtIntake_30 rfl (lv_at hl 3 rfl) ?_
    refine lv_iconst (v := 1) hx hb dX0_applyAtIntake_31 (by decide) ?_
    refine lv_icmp_ne (tgt := 39) hx hb dX0_applyAtIntake_32 (by decide) (fun h2 => ?_) (fun h2 => ?_)
    · refine lv_iconst (v := 0) hx hb dX0_applyAtIntake_39 (by decide) ?_
      refine kc_i hw (va_runV (As := [.ref (gA g (jC p i2)), .int 0]) (rest := []) ⟨hx, hb, hml, hc.2.2.1, hc.2.2.2⟩ (m_X0_tellOfCourt l g S p B y hp i2 hi2 0 ⟨by decide +kernel, by decide +kernel, by decide +kernel⟩ _ _ hN) (kw_V hc 2 q310 q312 qs12 q2 q313 rfl rfl (by decide +kernel) ⟨Nat.le_of_ble_eq_true rfl, Nat.le_of_ble_eq_true rfl⟩) (kp_V hk hw (bt_B hp) rfl) rfl rfl hl.1 rfl (lv_room (Nat.le_of_ble_eq_true rfl)) dX0_applyAtIntake_40 ⟨Nat.le_of_ble_eq_true rfl, Nat.le_of_ble_eq_true rfl⟩) (fun H locs hw => ?_)
      exact W.iret (v := (f_X0_tellOfCourt i2 0 B).1) hx hb hr (fun t9 ht hW => ke_i hw ht (by simp only [f_X0_applyAtIntake, if_pos h1, if_neg h2]) (by simp only [f_X0_applyAtIntake, if_pos h1, if_neg h2])) hw.2.2.2 dX0_applyAtIntake_43
    · refine lv_iconst (v := 1) hx hb dX0_applyAtIntake_35 (by decide) ?_
      refine lv_goto (tgt := 40) hx hb dX0_applyAtIntake_36 (by decide) ?_
      refine kc_i hw (va_runV (As := [.ref (gA g (jC p i2)), .int 1]) (rest := []) ⟨hx, hb, hml, hc.2.2.1, hc.2.2.2⟩ (m_X0_tellOfCourt l g S p B y hp i2 hi2 1 ⟨by decide +kernel, by decide +kernel, by decide +kernel⟩ _ _ hN) (kw_V hc 2 q310 q312 qs12 q2 q313 rfl rfl (by decide +kernel) ⟨Nat.le_of_ble_eq_true rfl, Nat.le_of_ble_eq_true rfl⟩) (kp_V hk hw (bt_B hp) rfl) rfl rfl hl.1 rfl (lv_room (Nat.le_of_ble_eq_true rfl)) dX0_applyAtIntake_40 ⟨Nat.le_of_ble_eq_true rfl, Nat.le_of_ble_eq_true rfl⟩) (fun H locs hw => ?_)
      exact W.iret (v := (f_X0_tellOfCourt i2 1 B).1) hx hb hr (fun t9 ht hW => ke_i hw ht (by simp only [f_X0_applyAtIntake, if_pos h1, if_pos h2]) (by simp only [f_X0_applyAtIntake, if_pos h1, if_pos h2])) hw.2.2.2 dX0_applyAtIntake_43
  by_cases h3 : a1 = 6
  · refine lv_tableIn (off := 43) (tgt := 44) hx hb dX0_applyAtIntake_1 (by rw [h3]; decide) (by rw [h3]; decide) (by rw [h3]; decide) (by decide) ?_
    refine lv_aload_n hx hb dX0_applyAtIntake_44 rfl (lv_at hl 0 rfl) ?_
    refine lv_aload_n hx hb dX0_applyAtIntake_45 rfl (lv_at hl 2 rfl) ?_
    refine kc_i hw (va_runV (As := [.ref (gA g (jC p i2))]) (rest := []) ⟨hx, hb, hml, hc.2.2.1, hc.2.2.2⟩ (m_X0_tellOfReason l g S p B y hp i2 hi2 _ _ hN) (kw_V hc 1 q314 q316 qs13 q2 q317 rfl rfl (by decide +kernel) ⟨Nat.le_of_ble_eq_true rfl, Nat.le_of_ble_eq_true rfl⟩) (kp_V hk hw (bt_B hp) rfl) rfl rfl hl.1 rfl (lv_room (Nat.le_of_ble_eq_true rfl)) dX0_applyAtIntake_46 ⟨Nat.le_of_ble_eq_true rfl, Nat.le_of_ble_eq_true rfl⟩) (fun H locs hw => ?_)
    exact W.iret (v := (f_X0_tellOfReason i2 B).1) hx hb hr (fun t9 ht hW => ke_i hw ht (by simp only [f_X0_applyAtIntake, if_neg h1, if_pos h3]) (by simp only [f_X0_applyAtIntake, if_neg h1, if_pos h3])) hw.2.2.2 dX0_applyAtIntake_49
  by_cases h4 : a1 = 7
  · refine lv_tableIn (off := 49) (tgt := 50) hx hb dX0_applyAtIntake_1 (by rw [h4]; decide) (by rw [h4]; decide) (by rw [h4]; decide) (by decide) ?_
    refine lv_aload_n hx hb dX0_applyAtIntake_50 rfl (lv_at hl 2 rfl) ?_
    refine lv_aload_n hx hb dX0_applyAtIntake_51 rfl (lv_at hl 0 rfl) ?_
    refine k_get hc hk hw (bt_B hp) rfl iX0 5 (by decide) q210 (v := .int (B 0 5)) rfl dX0_applyAtIntake_52 ?_
    refine k_putN hc hk hw (x' := (xB S p (up2 B (10 + i2) 10 (B 0 5)) y)) (bt_C hp hi2) rfl iX1 tyX1 tyX1_ok nmX1 10 (by decide) nq156 rfl rfl rfl (Nat.le_of_ble_eq_true rfl) dX0_applyAtIntake_55 (bs_C hp hi2 (by decide) (by decide)) (fun H locs hw => ?_)
    refine lv_aload_n hx hb dX0_applyAtIntake_58 rfl (lv_at hl 0 rfl) ?_
    refine k_get hc hk hw (bt_B hp) rfl iX0 5 (by decide) q210 (v := .int ((up2 B (10 + i2) 10 (B 0 5)) 0 5)) rfl dX0_applyAtIntake_59 ?_
    refine lv_aload_n hx hb dX0_applyAtIntake_62 rfl (lv_at hl 0 rfl) ?_
    refine lv_aload_n hx hb dX0_applyAtIntake_63 rfl (lv_at hl 2 rfl) ?_
    refine kc_r hw (va_runV (As := [.ref (gA g (jC p i2))]) (rest := [.int ((up2 B (10 + i2) 10 (B 0 5)) 0 5)]) ⟨hx, hb, hml, hc.2.2.1, hc.2.2.2⟩ (m_X0_officeOf l g S p (up2 B (10 + i2) 10 (B 0 5)) y hp i2 hi2 _ _ (CN.up (by omega) (by decide) hN)) (kw_V hc 1 q318 q320 qs14 q2 q321 rfl rfl (by decide +kernel) ⟨Nat.le_of_ble_eq_true rfl, Nat.le_of_ble_eq_true rfl⟩) (kp_V hk hw (bt_B hp) rfl) rfl rfl hl.1 rfl (lv_room (Nat.le_of_ble_eq_true rfl)) dX0_applyAtIntake_64 ⟨Nat.le_of_ble_eq_true rfl, Nat.le_of_ble_eq_true rfl⟩) (fun H locs hw => ?_)
    refine k_getN hc hk hw (bt_O hp (lt_X0_officeOf (CN.up (by omega) (by decide) hN))) rfl iX5 0 (by decide) nq49 (v := .int ((up2 B (10 + i2) 10 (B 0 5)) (4 + (f_X0_officeOf i2 (up2 B (10 + i2) 10 (B 0 5)))) 0)) rfl dX0_applyAtIntake_67 ?_
    refine lv_iadd hx hb dX0_applyAtIntake_70 ?_
    exact W.iret (v := ((up2 B (10 + i2) 10 (B 0 5)) 0 5) + ((up2 B (10 + i2) 10 (B 0 5)) (4 + (f_X0_officeOf i2 (up2 B (10 + i2) 10 (B 0 5)))) 0)) hx hb hr (fun t9 ht hW => ke_i hw ht (by simp only [f_X0_applyAtIntake, if_neg h1, if_neg h3, if_pos h4]) (by simp only [f_X0_applyAtIntake, if_neg h1, if_neg h3, if_pos h4])) hw.2.2.2 dX0_applyAtIntake_71
  refine lv_tableOut (lo := 5) (hi := 7) (tgt := 72) hx hb dX0_applyAtIntake_1 (by have z0 := i32_ne h1 (by decide : (5 : Int32).toInt = 5); have z1 := i32_ne h3 (by decide : (6 : Int32).toInt = 6); have z2 := i32_ne h4 (by decide : (7 : Int32).toInt = 7); omega) (by decide) ?_
  refine lv_aload_n hx hb dX0_applyAtIntake_72 rfl (lv_at hl 2 rfl) ?_
  refine lv_aload_n hx hb dX0_applyAtIntake_73 rfl (lv_at hl 0 rfl) ?_
  refine lv_aload_n hx hb dX0_applyAtIntake_74 rfl (lv_at hl 2 rfl) ?_
  refine kc_i hw (va_runV (As := [.ref (gA g (jC p i2))]) (rest := [.ref (gA g (jC p i2))]) ⟨hx, hb, hml, hc.2.2.1, hc.2.2.2⟩ (m_X0_intakeOf l g S p B y hp i2 hi2 _ _ hN) (kw_V hc 1 q322 q324 qs15 q2 q325 rfl rfl (by decide +kernel) ⟨Nat.le_of_ble_eq_true rfl, Nat.le_of_ble_eq_true rfl⟩) (kp_V hk hw (bt_B hp) rfl) rfl rfl hl.1 rfl (lv_room (Nat.le_of_ble_eq_true rfl)) dX0_applyAtIntake_75 ⟨Nat.le_of_ble_eq_true rfl, Nat.le_of_ble_eq_true rfl⟩) (fun H locs hw => ?_)
  refine lv_aload_n hx hb dX0_applyAtIntake_78 rfl (lv_at hl 0 rfl) ?_
  refine k_get hc hk hw (bt_B hp) rfl iX0 5 (by decide) q210 (v := .int (B 0 5)) rfl dX0_applyAtIntake_79 ?_
  refine kc_v hw (va_runVN (As := [.int (f_X0_intakeOf i2 B), .int (B 0 5)]) (rest := []) ⟨hx, hb, hml, hc.2.2.1, hc.2.2.2⟩ (m_X1_moveTo l g S p B y hp i2 hi2 (f_X0_intakeOf i2 B) ok_X0_intakeOf (B 0 5) _ _ hN) ⟨kw_N hc hk 2 nq326 q4 q329 rfl rfl (by decide +kernel) ⟨Nat.le_of_ble_eq_true rfl, Nat.le_of_ble_eq_true rfl⟩, hc.2.2.2 _ q328, hc.2.2.2 _ qs16⟩ (kp_V hk hw (bt_C hp hi2) rfl) rfl rfl hl.1 rfl (lv_room (Nat.le_of_ble_eq_true rfl)) dX0_applyAtIntake_82 ⟨Nat.le_of_ble_eq_true rfl, Nat.le_of_ble_eq_true rfl⟩) (fun H locs hw => ?_)
  refine lv_aload_n hx hb dX0_applyAtIntake_85 rfl (lv_at hl 2 rfl) ?_
  refine k_getN hc hk hw (bt_C hp hi2) rfl iX1 11 (by decide) nq159 (v := .int ((f_X1_moveTo i2 (f_X0_intakeOf i2 B) (B 0 5) B) (10 + i2) 11)) rfl dX0_applyAtIntake_86 ?_
  exact W.iret (v := (f_X1_moveTo i2 (f_X0_intakeOf i2 B) (B 0 5) B) (10 + i2) 11) hx hb hr (fun t9 ht hW => ke_i hw ht (by simp only [f_X0_applyAtIntake, if_neg h1, if_neg h3, if_neg h4]) (by simp only [f_X0_applyAtIntake, if_neg h1, if_neg h3, if_neg h4])) hw.2.2.2 dX0_applyAtIntake_89
def f_X0_applyToCase (a1 : Int32) (i2 : Nat) (a3 : Int32) (B : BT) : Int32 × BT :=
  (if a1 = 9 then ((f_X0_putToOffice i2 B).1, (f_X0_putToOffice i2 B).2) else (if a1 = 10 then ((f_X0_giveTime i2 a3 B).1, (f_X0_giveTime i2 a3 B).2) else (if a1 = 11 then ((f_X0_urge i2 B).1, (f_X0_urge i2 B).2) else (if a1 = 12 then ((if 0 < ((((f_X0_moveAll i2 115 B).2) 0 5) - (((f_X0_moveAll i2 115 B).2) (30 + i2) 0)) then ((((f_X0_moveAll i2 115 B).2) 0 5) - (((f_X0_moveAll i2 115 B).2) (30 + i2) 0)) else 0), (f_X0_moveAll i2 115 B).2) else (if a1 = 13 then ((f_X0_moveAll i2 115 (up2 B (30 + i2) 3 1)).1, (f_X0_moveAll i2 115 (up2 B (30 + i2) 3 1)).2) else (if a1 = 14 then ((f_X0_putBehind i2 a3 B).1, (f_X0_putBehind i2 a3 B).2) else (if a1 = 15 then ((f_X0_setFree i2 B).1, (f_X0_setFree i2 B).2) else (if a1 = 16 then ((f_X0_conclude i2 a3 B).1, (f_X0_conclude i2 a3 B).2) else (if a1 = 17 then (if a3 = 1 then ((up2 (up2 B (50 + i2) 4 1) (50 + i2) 5 1) (50 + i2) 2, up2 (up2 B (50 + i2) 4 1) (50 + i2) 5 1) else ((up2 (up2 B (50 + i2) 4 1) (50 + i2) 5 0) (50 + i2) 2, up2 (up2 B (50 + i2) 4 1) (50 + i2) 5 0)) else (if a1 = 18 then (((up2 ((f_X0_moveAll i2 104 B).2) (4 + (f_X0_officeOf i2 B)) 3 ((B (4 + (f_X0_officeOf i2 B)) 3) + ((f_X0_moveAll i2 104 B).1))) (50 + i2) 2) - ((up2 ((f_X0_moveAll i2 104 B).2) (4 + (f_X0_officeOf i2 B)) 3 ((B (4 + (f_X0_officeOf i2 B)) 3) + ((f_X0_moveAll i2 104 B).1))) 0 5), up2 ((f_X0_moveAll i2 104 B).2) (4 + (f_X0_officeOf i2 B)) 3 ((B (4 + (f_X0_officeOf i2 B)) 3) + ((f_X0_moveAll i2 104 B).1))) else (if a1 = 19 then ((f_X0_insist i2 B).1, (f_X0_insist i2 B).2) else (if a1 = 20 then ((f_X0_takeBack i2 B).1, (f_X0_takeBack i2 B).2) else ((-1), B)))))))))))))
theorem cn_X0_applyToCase {a1 : Int32} {i2 : Nat} {a3 : Int32} {B : BT} {n m9 : Nat} (hN : CN B n m9) : CN ((f_X0_applyToCase a1 i2 a3 B).2) n m9 := by
  unfold f_X0_applyToCase
  by_cases z1 : a1 = 9
  · simp only [if_pos z1]
    exact (cn_X0_putToOffice hN)
  · simp only [if_neg z1]
    by_cases z2 : a1 = 10
    · simp only [if_pos z2]
      exact (cn_X0_giveTime hN)
    · simp only [if_neg z2]
      by_cases z3 : a1 = 11
      · simp only [if_pos z3]
        exact (cn_X0_urge hN)
      · simp only [if_neg z3]
        by_cases z4 : a1 = 12
        · simp only [if_pos z4]
          exact (cn_X0_moveAll ⟨by decide +kernel, by decide +kernel, by decide +kernel⟩ hN)
        · simp only [if_neg z4]
          by_cases z5 : a1 = 13
          · simp only [if_pos z5]
            exact (cn_X0_moveAll ⟨by decide +kernel, by decide +kernel, by decide +kernel⟩ (CN.up (by omega) (by decide) hN))
          · simp only [if_neg z5]
            by_cases z6 : a1 = 14
            · simp only [if_pos z6]
              exact (cn_X0_putBehind hN)
            · simp only [if_neg z6]
              by_cases z7 : a1 = 15
              · simp only [if_pos z7]
                exact (cn_X0_setFree hN)
              · simp only [if_neg z7]
                by_cases z8 : a1 = 16
                · simp only [if_pos z8]
                  exact (cn_X0_conclude hN)
                · simp only [if_neg z8]
                  by_cases z9 : a1 = 17
                  · simp only [if_pos z9]
                    by_cases h10 : a3 = 1
                    · simp only [if_pos h10]
                      exact (CN.up (by omega) (by decide) (CN.up (by omega) (by decide) hN))
                    · simp only [if_neg h10]
                      exact (CN.up (by omega) (by decide) (CN.up (by omega) (by decide) hN))
                  · simp only [if_neg z9]
                    by_cases z10 : a1 = 18
                    · simp only [if_pos z10]
                      exact (CN.up (by omega) (by decide) (cn_X0_moveAll ⟨by decide +kernel, by decide +kernel, by decide +kernel⟩ hN))
                    · simp only [if_neg z10]
                      by_cases z11 : a1 = 19
                      · simp only [if_pos z11]
                        exact (cn_X0_insist hN)
                      · simp only [if_neg z11]
                        by_cases z12 : a1 = 20
                        · simp only [if_pos z12]
                          exact (cn_X0_takeBack hN)
                        · simp only [if_neg z12]
                          exact hN
set_option maxHeartbeats 4000000 in
set_option maxRecDepth 100000 in
theorem m_X0_applyToCase (l : Launch) (g : wG) (S : Nat → BT) (p : Nat) (B : BT) (y : (Nat → Nat → Int32) × (Nat → Int64) × (Nat → UInt64)) (hp : p < 2) (a1 : Int32) (i2 : Nat) (hi2 : i2 < 20) (a3 : Int32) (n m9 : Nat) (hN : CN B n m9) : mI l yX0_applyToCase cX0_applyToCase 4 (some .int) ({ frames := 7, cells := 0, slots := 0, locals := 161 } : Room) 0 0 g (xB S p B y) [.ref (gA g (jB p)), .int a1, .ref (gA g (jC p i2)), .int a3] ((f_X0_applyToCase a1 i2 a3 B).1) (xB S p ((f_X0_applyToCase a1 i2 a3 B).2) y) := by
  refine Met.ofW (cc := cX0_applyToCase) (maxL := 4) (ret := some .int) (by decide) rfl ?_
  intro p9 e s m args below meth c s₁ BL hml hv
  obtain ⟨rfl, hk, hPB⟩ := hv
  have hx := BL.exec
  have hb := BL.bytes
  have hc : CX p9 c cX0_applyToCase s _ m RX0 := ⟨hx, hb, findClass_of_methodNamed BL.named, fun w h => atoms_spec BL.pre w (List.mem_cons_of_mem _ h)⟩
  have hr := BL.returns
  have hlocks := BL.notSynchronized
  have hw : WS g s (xB S p B y) s.heap [] := ⟨hPB, va_S.rf⟩
  have hl := lv_entry ([.ref (gA g (jB p)), .int a1, .ref (gA g (jC p i2)), .int a3]) (n := 4) (Nat.le_of_ble_eq_true rfl)
  rw [lg_entry_eq]
  generalize (lg_sl ([.ref (gA g (jB p)), .int a1, .ref (gA g (jC p i2)), .int a3]) ++ List.replicate (4 - (lg_sl ([.ref (gA g (jB p)), .int a1, .ref (gA g (jC p i2)), .int a3])).length) Slot.unset).toArray = ls at hl ⊢
  have hl : lv_has ls 4 [(0, .ref (gA g (jB p))), (1, .int a1), (2, .ref (gA g (jC p i2))), (3, .int a3)] := hl
  refine lv_iload_n hx hb dX0_applyToCase_0 rfl (lv_at hl 1 rfl) ?_
  by_cases h1 : a1 = 9
  · refine lv_tableIn (off := 63) (tgt := 64) hx hb dX0_applyToCase_1 (by rw [h1]; decide) (by rw [h1]; decide) (by rw [h1]; decide) (by decide) ?_
    refine lv_aload_n hx hb dX0_applyToCase_64 rfl (lv_at hl 0 rfl) ?_
    refine lv_aload_n hx hb dX0_applyToCase_65 rfl (lv_at hl 2 rfl) ?_
    refine kc_i hw (va_runV (As := [.ref (gA g (jC p i2))]) (rest := []) ⟨hx, hb, hml, hc.2.2.1, hc.2.2.2⟩ (m_X0_putToOffice l g S p B y hp i2 hi2 _ _ hN) (kw_V hc 1 q421 q423 qs18 q2 q424 rfl rfl (by decide +kernel) ⟨Nat.le_of_ble_eq_true rfl, Nat.le_of_ble_eq_true rfl⟩) (kp_V hk hw (bt_B hp) rfl) rfl rfl hl.1 rfl (lv_room (Nat.le_of_ble_eq_true rfl)) dX0_applyToCase_66 ⟨Nat.le_of_ble_eq_true rfl, Nat.le_of_ble_eq_true rfl⟩) (fun H locs hw => ?_)
    exact W.iret (v := (f_X0_putToOffice i2 B).1) hx hb hr (fun t9 ht hW => ke_i hw ht (by simp only [f_X0_applyToCase, if_pos h1]) (by simp only [f_X0_applyToCase, if_pos h1])) hw.2.2.2 dX0_applyToCase_69
  by_cases h2 : a1 = 10
  · refine lv_tableIn (off := 69) (tgt := 70) hx hb dX0_applyToCase_1 (by rw [h2]; decide) (by rw [h2]; decide) (by rw [h2]; decide) (by decide) ?_
    refine lv_aload_n hx hb dX0_applyToCase_70 rfl (lv_at hl 0 rfl) ?_
    refine lv_aload_n hx hb dX0_applyToCase_71 rfl (lv_at hl 2 rfl) ?_
    refine lv_iload_n hx hb dX0_applyToCase_72 rfl (lv_at hl 3 rfl) ?_
    refine kc_i hw (va_runV (As := [.ref (gA g (jC p i2)), .int a3]) (rest := []) ⟨hx, hb, hml, hc.2.2.1, hc.2.2.2⟩ (m_X0_giveTime l g S p B y hp i2 hi2 a3 _ _ hN) (kw_V hc 2 q430 q432 qs20 q2 q433 rfl rfl (by decide +kernel) ⟨Nat.le_of_ble_eq_true rfl, Nat.le_of_ble_eq_true rfl⟩) (kp_V hk hw (bt_B hp) rfl) rfl rfl hl.1 rfl (lv_room (Nat.le_of_ble_eq_true rfl)) dX0_applyToCase_73 ⟨Nat.le_of_ble_eq_true rfl, Nat.le_of_ble_eq_true rfl⟩) (fun H locs hw => ?_)
    exact W.iret (v := (f_X0_giveTime i2 a3 B).1) hx hb hr (fun t9 ht hW => ke_i hw ht (by simp only [f_X0_applyToCase, if_neg h1, if_pos h2]) (by simp only [f_X0_applyToCase, if_neg h1, if_pos h2])) hw.2.2.2 dX0_applyToCase_76
  by_cases h3 : a1 = 11
  · refine lv_tableIn (off := 76) (tgt := 77) hx hb dX0_applyToCase_1 (by rw [h3]; decide) (by rw [h3]; decide) (by rw [h3]; decide) (by decide) ?_
    refine lv_aload_n hx hb dX0_applyToCase_77 rfl (lv_at hl 0 rfl) ?_
    refine lv_aload_n hx hb dX0_applyToCase_78 rfl (lv_at hl 2 rfl) ?_
    refine kc_i hw (va_runV (As := [.ref (gA g (jC p i2))]) (rest := []) ⟨hx, hb, hml, hc.2.2.1, hc.2.2.2⟩ (m_X0_urge l g S p B y hp i2 hi2 _ _ hN) (kw_V hc 1 q434 q436 qs21 q2 q437 rfl rfl (by decide +kernel) ⟨Nat.le_of_ble_eq_true rfl, Nat.le_of_ble_eq_true rfl⟩) (kp_V hk hw (bt_B hp) rfl) rfl rfl hl.1 rfl (lv_room (Nat.le_of_ble_eq_true rfl)) dX0_applyToCase_79 ⟨Nat.le_of_ble_eq_true rfl, Nat.le_of_ble_eq_true rfl⟩) (fun H locs hw => ?_)
    exact W.iret (v := (f_X0_urge i2 B).1) hx hb hr (fun t9 ht hW => ke_i hw ht (by simp only [f_X0_applyToCase, if_neg h1, if_neg h2, if_pos h3]) (by simp only [f_X0_applyToCase, if_neg h1, if_neg h2, if_pos h3])) hw.2.2.2 dX0_applyToCase_82
  by_cases h4 : a1 = 12
  · refine lv_tableIn (off := 82) (tgt := 83) hx hb dX0_applyToCase_1 (by rw [h4]; decide) (by rw [h4]; decide) (by rw [h4]; decide) (by decide) ?_
    refine lv_aload_n hx hb dX0_applyToCase_83 rfl (lv_at hl 0 rfl) ?_
    refine lv_aload_n hx hb dX0_applyToCase_84 rfl (lv_at hl 2 rfl) ?_
    refine lv_bipush (v := 115) hx hb dX0_applyToCase_85 (by decide) ?_
    refine kc_i hw (va_runV (As := [.ref (gA g (jC p i2)), .int 115]) (rest := []) ⟨hx, hb, hml, hc.2.2.1, hc.2.2.2⟩ (m_X0_moveAll l g S p B y hp i2 hi2 115 ⟨by decide +kernel, by decide +kernel, by decide +kernel⟩ _ _ hN) (kw_V hc 2 q426 q428 qs19 q2 q429 rfl rfl (by decide +kernel) ⟨Nat.le_of_ble_eq_true rfl, Nat.le_of_ble_eq_true rfl⟩) (kp_V hk hw (bt_B hp) rfl) rfl rfl hl.1 rfl (lv_room (Nat.le_of_ble_eq_true rfl)) dX0_applyToCase_87 ⟨Nat.le_of_ble_eq_true rfl, Nat.le_of_ble_eq_true rfl⟩) (fun H locs hw => ?_)
    refine lv_pop hx hb dX0_applyToCase_90 rfl ?_
    refine lv_iconst (v := 0) hx hb dX0_applyToCase_91 (by decide) ?_
    refine lv_aload_n hx hb dX0_applyToCase_92 rfl (lv_at hl 0 rfl) ?_
    refine k_get hc hk hw (bt_B hp) rfl iX0 5 (by decide) q210 (v := .int (((f_X0_moveAll i2 115 B).2) 0 5)) rfl dX0_applyToCase_93 ?_
    refine lv_aload_n hx hb dX0_applyToCase_96 rfl (lv_at hl 2 rfl) ?_
    refine k_getN hc hk hw (bt_C hp hi2) rfl iX1 1 (by decide) nq136 (v := .ref (gA g (jI p i2))) rfl dX0_applyToCase_97 ?_
    refine k_getN hc hk hw (bt_I hp hi2) rfl iX4 0 (by decide) nq80 (v := .int (((f_X0_moveAll i2 115 B).2) (30 + i2) 0)) rfl dX0_applyToCase_100 ?_
    refine lv_isub hx hb dX0_applyToCase_103 ?_
    refine va_mmax hx hb (hml.trans hl.1.symm) hc.2.2.1 (hc.2.2.2 _ q438) (hc.2.2.2 _ q360) (hc.2.2.2 _ q16) (hc.2.2.2 _ q361) (Nat.le_of_ble_eq_true rfl) (Nat.le_of_ble_eq_true rfl) (Nat.le_of_ble_eq_true rfl) (Nat.le_of_ble_eq_true rfl) dX0_applyToCase_104 ?_
    exact W.iret (v := (if 0 < ((((f_X0_moveAll i2 115 B).2) 0 5) - (((f_X0_moveAll i2 115 B).2) (30 + i2) 0)) then ((((f_X0_moveAll i2 115 B).2) 0 5) - (((f_X0_moveAll i2 115 B).2) (30 + i2) 0)) else 0)) hx hb hr (fun t9 ht hW => ke_i hw ht (by simp only [f_X0_applyToCase, if_neg h1, if_neg h2, if_neg h3, if_pos h4]) (by simp only [f_X0_applyToCase, if_neg h1, if_neg h2, if_neg h3, if_pos h4])) hw.2.2.2 dX0_applyToCase_107
  by_cases h5 : a1 = 13
  · refine lv_tableIn (off := 107) (tgt := 108) hx hb dX0_applyToCase_1 (by rw [h5]; decide) (by rw [h5]; decide) (by rw [h5]; decide) (by decide) ?_
    refine lv_aload_n hx hb dX0_applyToCase_108 rfl (lv_at hl 2 rfl) ?_
    refine k_getN hc hk hw (bt_C hp hi2) rfl iX1 1 (by decide) nq136 (v := .ref (gA g (jI p i2))) rfl dX0_applyToCase_109 ?_
    refine lv_iconst (v := 1) hx hb dX0_applyToCase_112 (by decide) ?_
    refine k_putN hc hk hw (x' := (xB S p (up2 B (30 + i2) 3 1) y)) (bt_I hp hi2) rfl iX4 tyX4 tyX4_ok nmX4 3 (by decide) nq88 rfl (by decide +kernel) (by decide +kernel) (Nat.le_of_ble_eq_true rfl) dX0_applyToCase_113 (bs_I hp hi2 (by decide)) (fun H locs hw => ?_)
    refine lv_aload_n hx hb dX0_applyToCase_116 rfl (lv_at hl 0 rfl) ?_
    refine lv_aload_n hx hb dX0_applyToCase_117 rfl (lv_at hl 2 rfl) ?_
    refine lv_bipush (v := 115) hx hb dX0_applyToCase_118 (by decide) ?_
    refine kc_i hw (va_runV (As := [.ref (gA g (jC p i2)), .int 115]) (rest := []) ⟨hx, hb, hml, hc.2.2.1, hc.2.2.2⟩ (m_X0_moveAll l g S p (up2 B (30 + i2) 3 1) y hp i2 hi2 115 ⟨by decide +kernel, by decide +kernel, by decide +kernel⟩ _ _ (CN.up (by omega) (by decide) hN)) (kw_V hc 2 q426 q428 qs19 q2 q429 rfl rfl (by decide +kernel) ⟨Nat.le_of_ble_eq_true rfl, Nat.le_of_ble_eq_true rfl⟩) (kp_V hk hw (bt_B hp) rfl) rfl rfl hl.1 rfl (lv_room (Nat.le_of_ble_eq_true rfl)) dX0_applyToCase_120 ⟨Nat.le_of_ble_eq_true rfl, Nat.le_of_ble_eq_true rfl⟩) (fun H locs hw => ?_)
    exact W.iret (v := (f_X0_moveAll i2 115 (up2 B (30 + i2) 3 1)).1) hx hb hr (fun t9 ht hW => ke_i hw ht (by simp only [f_X0_applyToCase, if_neg h1, if_neg h2, if_neg h3, if_neg h4, if_pos h5]) (by simp only [f_X0_applyToCase, if_neg h1, if_neg h2, if_neg h3, if_neg h4, if_pos h5])) hw.2.2.2 dX0_applyToCase_123
  by_cases h6 : a1 = 14
  · refine lv_tableIn (off := 123) (tgt := 124) hx hb dX0_applyToCase_1 (by rw [h6]; decide) (by rw [h6]; decide) (by rw [h6]; decide) (by decide) ?_
    refine lv_aload_n hx hb dX0_applyToCase_124 rfl (lv_at hl 0 rfl) ?_
    refine lv_aload_n hx hb dX0_applyToCase_125 rfl (lv_at hl 2 rfl) ?_
    refine lv_iload_n hx hb dX0_applyToCase_126 rfl (lv_at hl 3 rfl) ?_
    refine kc_i hw (va_runV (As := [.ref (gA g (jC p i2)), .int a3]) (rest := []) ⟨hx, hb, hml, hc.2.2.1, hc.2.2.2⟩ (m_X0_putBehind l g S p B y hp i2 hi2 a3 _ _ hN) (kw_V hc 2 q439 q441 qs22 q2 q442 rfl rfl (by decide +kernel) ⟨Nat.le_of_ble_eq_true rfl, Nat.le_of_ble_eq_true rfl⟩) (kp_V hk hw (bt_B hp) rfl) rfl rfl hl.1 rfl (lv_room (Nat.le_of_ble_eq_true rfl)) dX0_applyToCase_127 ⟨Nat.le_of_ble_eq_true rfl, Nat.le_of_ble_eq_true rfl⟩) (fun H locs hw => ?_)
    exact W.iret (v := (f_X0_putBehind i2 a3 B).1) hx hb hr (fun t9 ht hW => ke_i hw ht (by simp only [f_X0_applyToCase, if_neg h1, if_neg h2, if_neg h3, if_neg h4, if_neg h5, if_pos h6]) (by simp only [f_X0_applyToCase, if_neg h1, if_neg h2, if_neg h3, if_neg h4, if_neg h5, if_pos h6])) hw.2.2.2 dX0_applyToCase_130
  by_cases h7 : a1 = 15
  · refine lv_tableIn (off := 130) (tgt := 131) hx hb dX0_applyToCase_1 (by rw [h7]; decide) (by rw [h7]; decide) (by rw [h7]; decide) (by decide) ?_
    refine lv_aload_n hx hb dX0_applyToCase_131 rfl (lv_at hl 0 rfl) ?_
    refine lv_aload_n hx hb dX0_applyToCase_132 rfl (lv_at hl 2 rfl) ?_
    refine kc_i hw (va_runV (As := [.ref (gA g (jC p i2))]) (rest := []) ⟨hx, hb, hml, hc.2.2.1, hc.2.2.2⟩ (m_X0_setFree l g S p B y hp i2 hi2 _ _ hN) (kw_V hc 1 q447 q449 qs24 q2 q450 rfl rfl (by decide +kernel) ⟨Nat.le_of_ble_eq_true rfl, Nat.le_of_ble_eq_true rfl⟩) (kp_V hk hw (bt_B hp) rfl) rfl rfl hl.1 rfl (lv_room (Nat.le_of_ble_eq_true rfl)) dX0_applyToCase_133 ⟨Nat.le_of_ble_eq_true rfl, Nat.le_of_ble_eq_true rfl⟩) (fun H locs hw => ?_)
    exact W.iret (v := (f_X0_setFree i2 B).1) hx hb hr (fun t9 ht hW => ke_i hw ht (by simp only [f_X0_applyToCase, if_neg h1, if_neg h2, if_neg h3, if_neg h4, if_neg h5, if_neg h6, if_pos h7]) (by simp only [f_X0_applyToCase, if_neg h1, if_neg h2, if_neg h3, if_neg h4, if_neg h5, if_neg h6, if_pos h7])) hw.2.2.2 dX0_applyToCase_136
  by_cases h8 : a1 = 16
  · refine lv_tableIn (off := 136) (tgt := 137) hx hb dX0_applyToCase_1 (by rw [h8]; decide) (by rw [h8]; decide) (by rw [h8]; decide) (by decide) ?_
    refine lv_aload_n hx hb dX0_applyToCase_137 rfl (lv_at hl 0 rfl) ?_
    refine lv_aload_n hx hb dX0_applyToCase_138 rfl (lv_at hl 2 rfl) ?_
    refine lv_iload_n hx hb dX0_applyToCase_139 rfl (lv_at hl 3 rfl) ?_
    refine kc_i hw (va_runV (As := [.ref (gA g (jC p i2)), .int a3]) (rest := []) ⟨hx, hb, hml, hc.2.2.1, hc.2.2.2⟩ (m_X0_conclude l g S p B y hp i2 hi2 a3 _ _ hN) (kw_V hc 2 q451 q453 qs25 q2 q454 rfl rfl (by decide +kernel) ⟨Nat.le_of_ble_eq_true rfl, Nat.le_of_ble_eq_true rfl⟩) (kp_V hk hw (bt_B hp) rfl) rfl rfl hl.1 rfl (lv_room (Nat.le_of_ble_eq_true rfl)) dX0_applyToCase_140 ⟨Nat.le_of_ble_eq_true rfl, Nat.le_of_ble_eq_true rfl⟩) (fun H locs hw => ?_)
    exact W.iret (v := (f_X0_conclude i2 a3 B).1) hx hb hr (fun t9 ht hW => ke_i hw ht (by simp only [f_X0_applyToCase, if_neg h1, if_neg h2, if_neg h3, if_neg h4, if_neg h5, if_neg h6, if_neg h7, if_pos h8]) (by simp only [f_X0_applyToCase, if_neg h1, if_neg h2, if_neg h3, if_neg h4, if_neg h5, if_neg h6, if_neg h7, if_pos h8])) hw.2.2.2 dX0_applyToCase_143
  by_cases h9 : a1 = 17
  · refine lv_tableIn (off := 143) (tgt := 144) hx hb dX0_applyToCase_1 (by rw [h9]; decide) (by rw [h9]; decide) (by rw [h9]; decide) (by decide) ?_
    refine lv_aload_n hx hb dX0_applyToCase_144 rfl (lv_at hl 2 rfl) ?_
    refine k_getN hc hk hw (bt_C hp hi2) rfl iX1 2 (by decide) nq139 (v := .ref (gA g (jF p i2))) rfl dX0_applyToCase_145 ?_
    refine lv_iconst (v := 1) hx hb dX0_applyToCase_148 (by decide) ?_
    refine k_putN hc hk hw (x' := (xB S p (up2 B (50 + i2) 4 1) y)) (bt_F hp hi2) rfl iX3 tyX3 tyX3_ok nmX3 4 (by decide) nq115 rfl (by decide +kernel) (by decide +kernel) (Nat.le_of_ble_eq_true rfl) dX0_applyToCase_149 (bs_F hp hi2 (by decide)) (fun H locs hw => ?_)
    refine lv_aload_n hx hb dX0_applyToCase_152 rfl (lv_at hl 2 rfl) ?_
    refine k_getN hc hk hw (bt_C hp hi2) rfl iX1 2 (by decide) nq139 (v := .ref (gA g (jF p i2))) rfl dX0_applyToCase_153 ?_
    refine lv_iload_n hx hb dX0_applyToCase_156 rfl (lv_at hl 3 rfl) ?_
    refine lv_iconst (v := 1) hx hb dX0_applyToCase_157 (by decide) ?_
    refine lv_icmp_ne (tgt := 165) hx hb dX0_applyToCase_158 (by decide) (fun h10 => ?_) (fun h10 => ?_)
    · refine lv_iconst (v := 0) hx hb dX0_applyToCase_165 (by decide) ?_
      refine k_putN hc hk hw (x' := (xB S p (up2 (up2 B (50 + i2) 4 1) (50 + i2) 5 0) y)) (bt_F hp hi2) rfl iX3 tyX3 tyX3_ok nmX3 5 (by decide) nq118 rfl (by decide +kernel) (by decide +kernel) (Nat.le_of_ble_eq_true rfl) dX0_applyToCase_166 (bs_F hp hi2 (by decide)) (fun H locs hw => ?_)
      refine lv_aload_n hx hb dX0_applyToCase_169 rfl (lv_at hl 2 rfl) ?_
      refine k_getN hc hk hw (bt_C hp hi2) rfl iX1 2 (by decide) nq139 (v := .ref (gA g (jF p i2))) rfl dX0_applyToCase_170 ?_
      refine k_getN hc hk hw (bt_F hp hi2) rfl iX3 2 (by decide) nq110 (v := .int ((up2 (up2 B (50 + i2) 4 1) (50 + i2) 5 0) (50 + i2) 2)) rfl dX0_applyToCase_173 ?_
      exact W.iret (v := (up2 (up2 B (50 + i2) 4 1) (50 + i2) 5 0) (50 + i2) 2) hx hb hr (fun t9 ht hW => ke_i hw ht (by simp only [f_X0_applyToCase, if_neg h1, if_neg h2, if_neg h3, if_neg h4, if_neg h5, if_neg h6, if_neg h7, if_neg h8, if_pos h9, if_neg h10]) (by simp only [f_X0_applyToCase, if_neg h1, if_neg h2, if_neg h3, if_neg h4, if_neg h5, if_neg h6, if_neg h7, if_neg h8, if_pos h9, if_neg h10])) hw.2.2.2 dX0_applyToCase_176
    · refine lv_iconst (v := 1) hx hb dX0_applyToCase_161 (by decide) ?_
      refine lv_goto (tgt := 166) hx hb dX0_applyToCase_162 (by decide) ?_
      refine k_putN hc hk hw (x' := (xB S p (up2 (up2 B (50 + i2) 4 1) (50 + i2) 5 1) y)) (bt_F hp hi2) rfl iX3 tyX3 tyX3_ok nmX3 5 (by decide) nq118 rfl (by decide +kernel) (by decide +kernel) (Nat.le_of_ble_eq_true rfl) dX0_applyToCase_166 (bs_F hp hi2 (by decide)) (fun H locs hw => ?_)
      refine lv_aload_n hx hb dX0_applyToCase_169 rfl (lv_at hl 2 rfl) ?_
      refine k_getN hc hk hw (bt_C hp hi2) rfl iX1 2 (by decide) nq139 (v := .ref (gA g (jF p i2))) rfl dX0_applyToCase_170 ?_
      refine k_getN hc hk hw (bt_F hp hi2) rfl iX3 2 (by decide) nq110 (v := .int ((up2 (up2 B (50 + i2) 4 1) (50 + i2) 5 1) (50 + i2) 2)) rfl dX0_applyToCase_173 ?_
      exact W.iret (v := (up2 (up2 B (50 + i2) 4 1) (50 + i2) 5 1) (50 + i2) 2) hx hb hr (fun t9 ht hW => ke_i hw ht (by simp only [f_X0_applyToCase, if_neg h1, if_neg h2, if_neg h3, if_neg h4, if_neg h5, if_neg h6, if_neg h7, if_neg h8, if_pos h9, if_pos h10]) (by simp only [f_X0_applyToCase, if_neg h1, if_neg h2, if_neg h3, if_neg h4, if_neg h5, if_neg h6, if_neg h7, if_neg h8, if_pos h9, if_pos h10])) hw.2.2.2 dX0_applyToCase_176
  by_cases h11 : a1 = 18
  · refine lv_tableIn (off := 176) (tgt := 177) hx hb dX0_applyToCase_1 (by rw [h11]; decide) (by rw [h11]; decide) (by rw [h11]; decide) (by decide) ?_
    refine lv_aload_n hx hb dX0_applyToCase_177 rfl (lv_at hl 0 rfl) ?_
    refine lv_aload_n hx hb dX0_applyToCase_178 rfl (lv_at hl 2 rfl) ?_
    refine kc_r hw (va_runV (As := [.ref (gA g (jC p i2))]) (rest := []) ⟨hx, hb, hml, hc.2.2.1, hc.2.2.2⟩ (m_X0_officeOf l g S p B y hp i2 hi2 _ _ hN) (kw_V hc 1 q318 q320 qs14 q2 q321 rfl rfl (by decide +kernel) ⟨Nat.le_of_ble_eq_true rfl, Nat.le_of_ble_eq_true rfl⟩) (kp_V hk hw (bt_B hp) rfl) rfl rfl hl.1 rfl (lv_room (Nat.le_of_ble_eq_true rfl)) dX0_applyToCase_179 ⟨Nat.le_of_ble_eq_true rfl, Nat.le_of_ble_eq_true rfl⟩) (fun H locs hw => ?_)
    refine lv_dup hx hb dX0_applyToCase_182 rfl ?_
    refine k_getN hc hk hw (bt_O hp (lt_X0_officeOf hN)) rfl iX5 3 (by decide) nq56 (v := .int (B (4 + (f_X0_officeOf i2 B)) 3)) rfl dX0_applyToCase_183 ?_
    refine lv_aload_n hx hb dX0_applyToCase_186 rfl (lv_at hl 0 rfl) ?_
    refine lv_aload_n hx hb dX0_applyToCase_187 rfl (lv_at hl 2 rfl) ?_
    refine lv_bipush (v := 104) hx hb dX0_applyToCase_188 (by decide) ?_
    refine kc_i hw (va_runV (As := [.ref (gA g (jC p i2)), .int 104]) (rest := [.int (B (4 + (f_X0_officeOf i2 B)) 3), .ref (gA g (jO p (f_X0_officeOf i2 B)))]) ⟨hx, hb, hml, hc.2.2.1, hc.2.2.2⟩ (m_X0_moveAll l g S p B y hp i2 hi2 104 ⟨by decide +kernel, by decide +kernel, by decide +kernel⟩ _ _ hN) (kw_V hc 2 q426 q428 qs19 q2 q429 rfl rfl (by decide +kernel) ⟨Nat.le_of_ble_eq_true rfl, Nat.le_of_ble_eq_true rfl⟩) (kp_V hk hw (bt_B hp) rfl) rfl rfl hl.1 rfl (lv_room (Nat.le_of_ble_eq_true rfl)) dX0_applyToCase_190 ⟨Nat.le_of_ble_eq_true rfl, Nat.le_of_ble_eq_true rfl⟩) (fun H locs hw => ?_)
    refine lv_iadd hx hb dX0_applyToCase_193 ?_
    refine k_putN hc hk hw (x' := (xB S p (up2 ((f_X0_moveAll i2 104 B).2) (4 + (f_X0_officeOf i2 B)) 3 ((B (4 + (f_X0_officeOf i2 B)) 3) + ((f_X0_moveAll i2 104 B).1))) y)) (bt_O hp (lt_X0_officeOf hN)) rfl iX5 tyX5 tyX5_ok nmX5 3 (by decide) nq56 rfl rfl rfl (Nat.le_of_ble_eq_true rfl) dX0_applyToCase_194 (bs_O hp (lt_X0_officeOf hN) (by decide)) (fun H locs hw => ?_)
    refine lv_aload_n hx hb dX0_applyToCase_197 rfl (lv_at hl 2 rfl) ?_
    refine k_getN hc hk hw (bt_C hp hi2) rfl iX1 2 (by decide) nq139 (v := .ref (gA g (jF p i2))) rfl dX0_applyToCase_198 ?_
    refine k_getN hc hk hw (bt_F hp hi2) rfl iX3 2 (by decide) nq110 (v := .int ((up2 ((f_X0_moveAll i2 104 B).2) (4 + (f_X0_officeOf i2 B)) 3 ((B (4 + (f_X0_officeOf i2 B)) 3) + ((f_X0_moveAll i2 104 B).1))) (50 + i2) 2)) rfl dX0_applyToCase_201 ?_
    refine lv_aload_n hx hb dX0_applyToCase_204 rfl (lv_at hl 0 rfl) ?_
    refine k_get hc hk hw (bt_B hp) rfl iX0 5 (by decide) q210 (v := .int ((up2 ((f_X0_moveAll i2 104 B).2) (4 + (f_X0_officeOf i2 B)) 3 ((B (4 + (f_X0_officeOf i2 B)) 3) + ((f_X0_moveAll i2 104 B).1))) 0 5)) rfl dX0_applyToCase_205 ?_
    refine lv_isub hx hb dX0_applyToCase_208 ?_
    exact W.iret (v := ((up2 ((f_X0_moveAll i2 104 B).2) (4 + (f_X0_officeOf i2 B)) 3 ((B (4 + (f_X0_officeOf i2 B)) 3) + ((f_X0_moveAll i2 104 B).1))) (50 + i2) 2) - ((up2 ((f_X0_moveAll i2 104 B).2) (4 + (f_X0_officeOf i2 B)) 3 ((B (4 + (f_X0_officeOf i2 B)) 3) + ((f_X0_moveAll i2 104 B).1))) 0 5)) hx hb hr (fun t9 ht hW => ke_i hw ht (by simp only [f_X0_applyToCase, if_neg h1, if_neg h2, if_neg h3, if_neg h4, if_neg h5, if_neg h6, if_neg h7, if_neg h8, if_neg h9, if_pos h11]) (by simp only [f_X0_applyToCase, if_neg h1, if_neg h2, if_neg h3, if_neg h4, if_neg h5, if_neg h6, if_neg h7, if_neg h8, if_neg h9, if_pos h11])) hw.2.2.2 dX0_applyToCase_209
  by_cases h12 : a1 = 19
  · refine lv_tableIn (off := 209) (tgt := 210) hx hb dX0_applyToCase_1 (by rw [h12]; decide) (by rw [h12]; decide) (by rw [h12]; decide) (by decide) ?_
    refine lv_aload_n hx hb dX0_applyToCase_210 rfl (lv_at hl 0 rfl) ?_
    refine lv_aload_n hx hb dX0_applyToCase_211 rfl (lv_at hl 2 rfl) ?_
    refine kc_i hw (va_runV (As := [.ref (gA g (jC p i2))]) (rest := []) ⟨hx, hb, hml, hc.2.2.1, hc.2.2.2⟩ (m_X0_insist l g S p B y hp i2 hi2 _ _ hN) (kw_V hc 1 q468 q470 qs28 q2 q471 rfl rfl (by decide +kernel) ⟨Nat.le_of_ble_eq_true rfl, Nat.le_of_ble_eq_true rfl⟩) (kp_V hk hw (bt_B hp) rfl) rfl rfl hl.1 rfl (lv_room (Nat.le_of_ble_eq_true rfl)) dX0_applyToCase_212 ⟨Nat.le_of_ble_eq_true rfl, Nat.le_of_ble_eq_true rfl⟩) (fun H locs hw => ?_)
    exact W.iret (v := (f_X0_insist i2 B).1) hx hb hr (fun t9 ht hW => ke_i hw ht (by simp only [f_X0_applyToCase, if_neg h1, if_neg h2, if_neg h3, if_neg h4, if_neg h5, if_neg h6, if_neg h7, if_neg h8, if_neg h9, if_neg h11, if_pos h12]) (by simp only [f_X0_applyToCase, if_neg h1, if_neg h2, if_neg h3, if_neg h4, if_neg h5, if_neg h6, if_neg h7, if_neg h8, if_neg h9, if_neg h11, if_pos h12])) hw.2.2.2 dX0_applyToCase_215
  by_cases h13 : a1 = 20
  · refine lv_tableIn (off := 215) (tgt := 216) hx hb dX0_applyToCase_1 (by rw [h13]; decide) (by rw [h13]; decide) (by rw [h13]; decide) (by decide) ?_
    refine lv_aload_n hx hb dX0_applyToCase_216 rfl (lv_at hl 0 rfl) ?_
    refine lv_aload_n hx hb dX0_applyToCase_217 rfl (lv_at hl 2 rfl) ?_
    refine kc_i hw (va_runV (As := [.ref (gA g (jC p i2))]) (rest := []) ⟨hx, hb, hml, hc.2.2.1, hc.2.2.2⟩ (m_X0_takeBack l g S p B y hp i2 hi2 _ _ hN) (kw_V hc 1 q472 q474 qs29 q2 q475 rfl rfl (by decide +kernel) ⟨Nat.le_of_ble_eq_true rfl, Nat.le_of_ble_eq_true rfl⟩) (kp_V hk hw (bt_B hp) rfl) rfl rfl hl.1 rfl (lv_room (Nat.le_of_ble_eq_true rfl)) dX0_applyToCase_218 ⟨Nat.le_of_ble_eq_true rfl, Nat.le_of_ble_eq_true rfl⟩) (fun H locs hw => ?_)
    exact W.iret (v := (f_X0_takeBack i2 B).1) hx hb hr (fun t9 ht hW => ke_i hw ht (by simp only [f_X0_applyToCase, if_neg h1, if_neg h2, if_neg h3, if_neg h4, if_neg h5, if_neg h6, if_neg h7, if_neg h8, if_neg h9, if_neg h11, if_neg h12, if_pos h13]) (by simp only [f_X0_applyToCase, if_neg h1, if_neg h2, if_neg h3, if_neg h4, if_neg h5, if_neg h6, if_neg h7, if_neg h8, if_neg h9, if_neg h11, if_neg h12, if_pos h13])) hw.2.2.2 dX0_applyToCase_221
  refine lv_tableOut (lo := 9) (hi := 20) (tgt := 222) hx hb dX0_applyToCase_1 (by have z0 := i32_ne h1 (by decide : (9 : Int32).toInt = 9); have z1 := i32_ne h2 (by decide : (10 : Int32).toInt = 10); have z2 := i32_ne h3 (by decide : (11 : Int32).toInt = 11); have z3 := i32_ne h4 (by decide : (12 : Int32).toInt = 12); have z4 := i32_ne h5 (by decide : (13 : Int32).toInt = 13); have z5 := i32_ne h6 (by decide : (14 : Int32).toInt = 14); have z6 := i32_ne h7 (by decide : (15 : Int32).toInt = 15); have z7 := i32_ne h8 (by decide : (16 : Int32).toInt = 16); have z8 := i32_ne h9 (by decide : (17 : Int32).toInt = 17); have z9 := i32_ne h11 (by decide : (18 : Int32).toInt = 18); have z10 := i32_ne h12 (by decide : (19 : Int32).toInt = 19); have z11 := i32_ne h13 (by decide : (20 : Int32).toInt = 20); omega) (by decide) ?_
  refine lv_iconst (v := (-1)) hx hb dX0_applyToCase_222 (by decide) ?_
  exact W.iret (v := (-1)) hx hb hr (fun t9 ht hW => ke_i hw ht (by simp only [f_X0_applyToCase, if_neg h1, if_neg h2, if_neg h3, if_neg h4, if_neg h5, if_neg h6, if_neg h7, if_neg h8, if_neg h9, if_neg h11, if_neg h12, if_neg h13]) (by simp only [f_X0_applyToCase, if_neg h1, if_neg h2, if_neg h3, if_neg h4, if_neg h5, if_neg h6, if_neg h7, if_neg h8, if_neg h9, if_neg h11, if_neg h12, if_neg h13])) hw.2.2.2 dX0_applyToCase_223
def f_X0_apply (a1 : Int32) (a2 : Int32) (a3 : Int32) (a4 : Int32) (a5 : Int32) (B : BT) : Int32 × BT :=
  (if a1 = 1 then ((f_X0_openOffice a2 a3 B).1, (f_X0_openOffice a2 a3 B).2) else (if a1 = 2 then ((up2 B 0 5 ((B 0 5) + a2)) 0 5, up2 B 0 5 ((B 0 5) + a2)) else (if a1 = 3 then ((f_X0_weigh a2 a3 B).1, (f_X0_weigh a2 a3 B).2) else (if a1 = 4 then ((f_X0_hear a2 a3 a4 a5 B).1, (f_X0_hear a2 a3 a4 a5 B).2) else (if a2 < 0 then ((-1), B) else (if a2 < B 0 4 then (if 8 < a1 then ((f_X0_applyToCase a1 ((a2).toNatClampNeg) a3 B).1, (f_X0_applyToCase a1 ((a2).toNatClampNeg) a3 B).2) else ((f_X0_applyAtIntake a1 ((a2).toNatClampNeg) a3 B).1, (f_X0_applyAtIntake a1 ((a2).toNatClampNeg) a3 B).2)) else ((-1), B)))))))
set_option maxHeartbeats 4000000 in
set_option maxRecDepth 100000 in
theorem m_X0_apply (l : Launch) (g : wG) (S : Nat → BT) (p : Nat) (B : BT) (y : (Nat → Nat → Int32) × (Nat → Int64) × (Nat → UInt64)) (hp : p < 2) (a1 : Int32) (a2 : Int32) (a3 : Int32) (a4 : Int32) (a5 : Int32) (n m9 : Nat) (hN : CN B n m9) : mI l yX0_apply cX0_apply 6 (some .int) ({ frames := 8, cells := 0, slots := 0, locals := 184 } : Room) 0 0 g (xB S p B y) [.ref (gA g (jB p)), .int a1, .int a2, .int a3, .int a4, .int a5] ((f_X0_apply a1 a2 a3 a4 a5 B).1) (xB S p ((f_X0_apply a1 a2 a3 a4 a5 B).2) y) := by
  refine Met.ofW (cc := cX0_apply) (maxL := 6) (ret := some .int) (by decide) rfl ?_
  intro p9 e s m args below meth c s₁ BL hml hv
  obtain ⟨rfl, hk, hPB⟩ := hv
  have hx := BL.exec
  have hb := BL.bytes
  have hc : CX p9 c cX0_apply s _ m RX0 := ⟨hx, hb, findClass_of_methodNamed BL.named, fun w h => atoms_spec BL.pre w (List.mem_cons_of_mem _ h)⟩
  have hr := BL.returns
  have hlocks := BL.notSynchronized
  have hw : WS g s (xB S p B y) s.heap [] := ⟨hPB, va_S.rf⟩
  have hl := lv_entry ([.ref (gA g (jB p)), .int a1, .int a2, .int a3, .int a4, .int a5]) (n := 6) (Nat.le_of_ble_eq_true rfl)
  rw [lg_entry_eq]
  generalize (lg_sl ([.ref (gA g (jB p)), .int a1, .int a2, .int a3, .int a4, .int a5]) ++ List.replicate (6 - (lg_sl ([.ref (gA g (jB p)), .int a1, .int a2, .int a3, .int a4, .int a5])).length) Slot.unset).toArray = ls at hl ⊢
  have hl : lv_has ls 6 [(0, .ref (gA g (jB p))), (1, .int a1), (2, .int a2), (3, .int a3), (4, .int a4), (5, .int a5)] := hl
  refine lv_iload_n hx hb dX0_apply_0 rfl (lv_at hl 1 rfl) ?_
  by_cases h1 : a1 = 1
  · refine lv_tableIn (off := 31) (tgt := 32) hx hb dX0_apply_1 (by rw [h1]; decide) (by rw [h1]; decide) (by rw [h1]; decide) (by decide) ?_
    refine lv_aload_n hx hb dX0_apply_32 rfl (lv_at hl 0 rfl) ?_
    refine lv_iload_n hx hb dX0_apply_33 rfl (lv_at hl 2 rfl) ?_
    refine lv_iload_n hx hb dX0_apply_34 rfl (lv_at hl 3 rfl) ?_
    refine kc_i hw (va_runV (As := [.int a2, .int a3]) (rest := []) ⟨hx, hb, hml, hc.2.2.1, hc.2.2.2⟩ (m_X0_openOffice l g S p B y hp a2 a3 _ _ hN) (kw_V hc 2 q278 q280 qs4 q2 q281 rfl rfl (by decide +kernel) ⟨Nat.le_of_ble_eq_true rfl, Nat.le_of_ble_eq_true rfl⟩) (kp_V hk hw (bt_B hp) rfl) rfl rfl hl.1 rfl (lv_room (Nat.le_of_ble_eq_true rfl)) dX0_apply_35 ⟨Nat.le_of_ble_eq_true rfl, Nat.le_of_ble_eq_true rfl⟩) (fun H locs hw => ?_)
    exact W.iret (v := (f_X0_openOffice a2 a3 B).1) hx hb hr (fun t9 ht hW => ke_i hw ht (by simp only [f_X0_apply, if_pos h1]) (by simp only [f_X0_apply, if_pos h1])) hw.2.2.2 dX0_apply_38
  by_cases h2 : a1 = 2
  · refine lv_tableIn (off := 38) (tgt := 39) hx hb dX0_apply_1 (by rw [h2]; decide) (by rw [h2]; decide) (by rw [h2]; decide) (by decide) ?_
    refine lv_aload_n hx hb dX0_apply_39 rfl (lv_at hl 0 rfl) ?_
    refine lv_dup hx hb dX0_apply_40 rfl ?_
    refine k_get hc hk hw (bt_B hp) rfl iX0 5 (by decide) q210 (v := .int (B 0 5)) rfl dX0_apply_41 ?_
    refine lv_iload_n hx hb dX0_apply_44 rfl (lv_at hl 2 rfl) ?_
    refine lv_iadd hx hb dX0_apply_45 ?_
    refine k_put hc hk hw (x' := (xB S p (up2 B 0 5 ((B 0 5) + a2)) y)) (bt_B hp) rfl iX0 tyX0 tyX0_ok nmX0 5 (by decide) q210 rfl rfl rfl (Nat.le_of_ble_eq_true rfl) dX0_apply_46 (bs_B hp (by decide) (by decide)) (fun H locs hw => ?_)
    refine lv_aload_n hx hb dX0_apply_49 rfl (lv_at hl 0 rfl) ?_
    refine k_get hc hk hw (bt_B hp) rfl iX0 5 (by decide) q210 (v := .int ((up2 B 0 5 ((B 0 5) + a2)) 0 5)) rfl dX0_apply_50 ?_
    exact W.iret (v := (up2 B 0 5 ((B 0 5) + a2)) 0 5) hx hb hr (fun t9 ht hW => ke_i hw ht (by simp only [f_X0_apply, if_neg h1, if_pos h2]) (by simp only [f_X0_apply, if_neg h1, if_pos h2])) hw.2.2.2 dX0_apply_53
  by_cases h3 : a1 = 3
  · refine lv_tableIn (off := 53) (tgt := 54) hx hb dX0_apply_1 (by rw [h3]; decide) (by rw [h3]; decide) (by rw [h3]; decide) (by decide) ?_
    refine lv_aload_n hx hb dX0_apply_54 rfl (lv_at hl 0 rfl) ?_
    refine lv_iload_n hx hb dX0_apply_55 rfl (lv_at hl 2 rfl) ?_
    refine lv_iload_n hx hb dX0_apply_56 rfl (lv_at hl 3 rfl) ?_
    refine kc_i hw (va_runV (As := [.int a2, .int a3]) (rest := []) ⟨hx, hb, hml, hc.2.2.1, hc.2.2.2⟩ (m_X0_weigh l g S p B y hp a2 a3 _ _ hN) (kw_V hc 2 q286 q288 qs6 q2 q289 rfl rfl (by decide +kernel) ⟨Nat.le_of_ble_eq_true rfl, Nat.le_of_ble_eq_true rfl⟩) (kp_V hk hw (bt_B hp) rfl) rfl rfl hl.1 rfl (lv_room (Nat.le_of_ble_eq_true rfl)) dX0_apply_57 ⟨Nat.le_of_ble_eq_true rfl, Nat.le_of_ble_eq_true rfl⟩) (fun H locs hw => ?_)
    exact W.iret (v := (f_X0_weigh a2 a3 B).1) hx hb hr (fun t9 ht hW => ke_i hw ht (by simp only [f_X0_apply, if_neg h1, if_neg h2, if_pos h3]) (by simp only [f_X0_apply, if_neg h1, if_neg h2, if_pos h3])) hw.2.2.2 dX0_apply_60
  by_cases h4 : a1 = 4
  · refine lv_tableIn (off := 60) (tgt := 61) hx hb dX0_apply_1 (by rw [h4]; decide) (by rw [h4]; decide) (by rw [h4]; decide) (by decide) ?_
    refine lv_aload_n hx hb dX0_apply_61 rfl (lv_at hl 0 rfl) ?_
    refine lv_iload_n hx hb dX0_apply_62 rfl (lv_at hl 2 rfl) ?_
    refine lv_iload_n hx hb dX0_apply_63 rfl (lv_at hl 3 rfl) ?_
    refine lv_iload hx hb dX0_apply_64 (lv_at hl 4 rfl) ?_
    refine lv_iload hx hb dX0_apply_66 (lv_at hl 5 rfl) ?_
    refine kc_i hw (va_runV (As := [.int a2, .int a3, .int a4, .int a5]) (rest := []) ⟨hx, hb, hml, hc.2.2.1, hc.2.2.2⟩ (m_X0_hear l g S p B y hp a2 a3 a4 a5 _ _ hN) (kw_V hc 4 q290 q292 qs7 q2 q293 rfl rfl (by decide +kernel) ⟨Nat.le_of_ble_eq_true rfl, Nat.le_of_ble_eq_true rfl⟩) (kp_V hk hw (bt_B hp) rfl) rfl rfl hl.1 rfl (lv_room (Nat.le_of_ble_eq_true rfl)) dX0_apply_68 ⟨Nat.le_of_ble_eq_true rfl, Nat.le_of_ble_eq_true rfl⟩) (fun H locs hw => ?_)
    exact W.iret (v := (f_X0_hear a2 a3 a4 a5 B).1) hx hb hr (fun t9 ht hW => ke_i hw ht (by simp only [f_X0_apply, if_neg h1, if_neg h2, if_neg h3, if_pos h4]) (by simp only [f_X0_apply, if_neg h1, if_neg h2, if_neg h3, if_pos h4])) hw.2.2.2 dX0_apply_71
  refine lv_tableOut (lo := 1) (hi := 4) (tgt := 72) hx hb dX0_apply_1 (by have z0 := i32_ne h1 (by decide : (1 : Int32).toInt = 1); have z1 := i32_ne h2 (by decide : (2 : Int32).toInt = 2); have z2 := i32_ne h3 (by decide : (3 : Int32).toInt = 3); have z3 := i32_ne h4 (by decide : (4 : Int32).toInt = 4); omega) (by decide) ?_
  refine lv_iload_n hx hb dX0_apply_72 rfl (lv_at hl 2 rfl) ?_
  refine lv_if_lt (tgt := 84) hx hb dX0_apply_73 (by decide) (fun h5 => ?_) (fun h5 => ?_)
  · refine lv_iconst (v := (-1)) hx hb dX0_apply_84 (by decide) ?_
    exact W.iret (v := (-1)) hx hb hr (fun t9 ht hW => ke_i hw ht (by simp only [f_X0_apply, if_neg h1, if_neg h2, if_neg h3, if_neg h4, if_pos h5]) (by simp only [f_X0_apply, if_neg h1, if_neg h2, if_neg h3, if_neg h4, if_pos h5])) hw.2.2.2 dX0_apply_85
  · refine lv_iload_n hx hb dX0_apply_76 rfl (lv_at hl 2 rfl) ?_
    refine lv_aload_n hx hb dX0_apply_77 rfl (lv_at hl 0 rfl) ?_
    refine k_get hc hk hw (bt_B hp) rfl iX0 4 (by decide) q208 (v := .int (B 0 4)) rfl dX0_apply_78 ?_
    refine lv_icmp_lt (tgt := 86) hx hb dX0_apply_81 (by decide) (fun h6 => ?_) (fun h6 => ?_)
    · refine lv_iload_n hx hb dX0_apply_86 rfl (lv_at hl 1 rfl) ?_
      refine lv_bipush (v := 8) hx hb dX0_apply_87 (by decide) ?_
      refine lv_icmp_gt (tgt := 107) hx hb dX0_apply_89 (by decide) (fun h7 => ?_) (fun h7 => ?_)
      · refine lv_aload_n hx hb dX0_apply_107 rfl (lv_at hl 0 rfl) ?_
        refine lv_iload_n hx hb dX0_apply_108 rfl (lv_at hl 1 rfl) ?_
        refine lv_aload_n hx hb dX0_apply_109 rfl (lv_at hl 0 rfl) ?_
        refine k_get hc hk hw (bt_B hp) rfl iX0 1 (by decide) q203 (v := .ref (gA g (jCs p))) rfl dX0_apply_110 ?_
        refine lv_iload_n hx hb dX0_apply_113 rfl (lv_at hl 2 rfl) ?_
        refine k_ald (t0 := 5) (f := fun k => gA g (jC p k)) (n := ((a2).toNatClampNeg)) hc hk hw rfl (at_Cs hp) (vinC h5 (i32_nle h6) hN.2.1 (by have := hN.2.2.2.1; omega) (by omega)).1 rfl dX0_apply_114 ?_
        refine lv_iload_n hx hb dX0_apply_115 rfl (lv_at hl 3 rfl) ?_
        refine kc_i hw (va_runV (As := [.int a1, .ref (gA g (jC p ((a2).toNatClampNeg))), .int a3]) (rest := []) ⟨hx, hb, hml, hc.2.2.1, hc.2.2.2⟩ (m_X0_applyToCase l g S p B y hp a1 ((a2).toNatClampNeg) (Nat.lt_of_lt_of_le (vinC h5 (i32_nle h6) hN.2.1 (Nat.le_refl _) (by have := hN.2.2.2.1; omega)).2 (by have := hN.2.2.2.1; omega)) a3 _ _ hN) (kw_V hc 3 q417 q419 qs17 q2 q420 rfl rfl (by decide +kernel) ⟨Nat.le_of_ble_eq_true rfl, Nat.le_of_ble_eq_true rfl⟩) (kp_V hk hw (bt_B hp) rfl) rfl rfl hl.1 rfl (lv_room (Nat.le_of_ble_eq_true rfl)) dX0_apply_116 ⟨Nat.le_of_ble_eq_true rfl, Nat.le_of_ble_eq_true rfl⟩) (fun H locs hw => ?_)
        exact W.iret (v := (f_X0_applyToCase a1 ((a2).toNatClampNeg) a3 B).1) hx hb hr (fun t9 ht hW => ke_i hw ht (by simp only [f_X0_apply, if_neg h1, if_neg h2, if_neg h3, if_neg h4, if_neg h5, if_pos h6, if_pos h7]) (by simp only [f_X0_apply, if_neg h1, if_neg h2, if_neg h3, if_neg h4, if_neg h5, if_pos h6, if_pos h7])) hw.2.2.2 dX0_apply_119
      · refine lv_aload_n hx hb dX0_apply_92 rfl (lv_at hl 0 rfl) ?_
        refine lv_iload_n hx hb dX0_apply_93 rfl (lv_at hl 1 rfl) ?_
        refine lv_aload_n hx hb dX0_apply_94 rfl (lv_at hl 0 rfl) ?_
        refine k_get hc hk hw (bt_B hp) rfl iX0 1 (by decide) q203 (v := .ref (gA g (jCs p))) rfl dX0_apply_95 ?_
        refine lv_iload_n hx hb dX0_apply_98 rfl (lv_at hl 2 rfl) ?_
        refine k_ald (t0 := 5) (f := fun k => gA g (jC p k)) (n := ((a2).toNatClampNeg)) hc hk hw rfl (at_Cs hp) (vinC h5 (i32_nle h6) hN.2.1 (by have := hN.2.2.2.1; omega) (by omega)).1 rfl dX0_apply_99 ?_
        refine lv_iload_n hx hb dX0_apply_100 rfl (lv_at hl 3 rfl) ?_
        refine kc_i hw (va_runV (As := [.int a1, .ref (gA g (jC p ((a2).toNatClampNeg))), .int a3]) (rest := []) ⟨hx, hb, hml, hc.2.2.1, hc.2.2.2⟩ (m_X0_applyAtIntake l g S p B y hp a1 ((a2).toNatClampNeg) (Nat.lt_of_lt_of_le (vinC h5 (i32_nle h6) hN.2.1 (Nat.le_refl _) (by have := hN.2.2.2.1; omega)).2 (by have := hN.2.2.2.1; omega)) a3 _ _ hN) (kw_V hc 3 q306 q308 qs11 q2 q309 rfl rfl (by decide +kernel) ⟨Nat.le_of_ble_eq_true rfl, Nat.le_of_ble_eq_true rfl⟩) (kp_V hk hw (bt_B hp) rfl) rfl rfl hl.1 rfl (lv_room (Nat.le_of_ble_eq_true rfl)) dX0_apply_101 ⟨Nat.le_of_ble_eq_true rfl, Nat.le_of_ble_eq_true rfl⟩) (fun H locs hw => ?_)
        refine lv_goto (tgt := 119) hx hb dX0_apply_104 (by decide) ?_
        exact W.iret (v := (f_X0_applyAtIntake a1 ((a2).toNatClampNeg) a3 B).1) hx hb hr (fun t9 ht hW => ke_i hw ht (by simp only [f_X0_apply, if_neg h1, if_neg h2, if_neg h3, if_neg h4, if_neg h5, if_pos h6, if_neg h7]) (by simp only [f_X0_apply, if_neg h1, if_neg h2, if_neg h3, if_neg h4, if_neg h5, if_pos h6, if_neg h7])) hw.2.2.2 dX0_apply_119
    · refine lv_iconst (v := (-1)) hx hb dX0_apply_84 (by decide) ?_
      exact W.iret (v := (-1)) hx hb hr (fun t9 ht hW => ke_i hw ht (by simp only [f_X0_apply, if_neg h1, if_neg h2, if_neg h3, if_neg h4, if_neg h5, if_neg h6]) (by simp only [f_X0_apply, if_neg h1, if_neg h2, if_neg h3, if_neg h4, if_neg h5, if_neg h6])) hw.2.2.2 dX0_apply_85
def b_X0_isOrderly (B : BT) (k : Nat) : Int32 :=
  (if B (10 + k) 11 = B (10 + (f_X0_leadOf k B)) 11 then (if B (10 + k) 3 = B (10 + (f_X0_leadOf k B)) 3 then (if B (10 + k) 4 = B (10 + (f_X0_leadOf k B)) 4 then (if f_X6_isClosing (B (10 + k) 11) = 0 then 1 else (if B (10 + k) 13 = (-1) then 0 else 1)) else 0) else 0) else 0)
def f_X0_isOrderly  (B : BT) : Int32 :=
  (if ∀ j : Nat, j < (B 0 4).toNatClampNeg → b_X0_isOrderly B j = 1 then 1 else 0)
set_option maxHeartbeats 4000000 in
set_option maxRecDepth 100000 in
theorem m_X0_isOrderly (l : Launch) (g : wG) (S : Nat → BT) (p : Nat) (B : BT) (y : (Nat → Nat → Int32) × (Nat → Int64) × (Nat → UInt64)) (hp : p < 2) (n m9 : Nat) (hN : CN B n m9) : mI l yX0_isOrderly cX0_isOrderly 4 (some .boolean) ({ frames := 5, cells := 0, slots := 0, locals := 111 } : Room) 0 0 g (xB S p B y) [.ref (gA g (jB p))] (f_X0_isOrderly B) (xB S p B y) := by
  refine Met.ofW (cc := cX0_isOrderly) (maxL := 4) (ret := some .boolean) (by decide) rfl ?_
  intro p9 e s m args below meth c s₁ BL hml hv
  obtain ⟨rfl, hk, hPB⟩ := hv
  have hx := BL.exec
  have hb := BL.bytes
  have hc : CX p9 c cX0_isOrderly s _ m RX0 := ⟨hx, hb, findClass_of_methodNamed BL.named, fun w h => atoms_spec BL.pre w (List.mem_cons_of_mem _ h)⟩
  have hr := BL.returns
  have hlocks := BL.notSynchronized
  have hw : WS g s (xB S p B y) s.heap [] := ⟨hPB, va_S.rf⟩
  have hl := lv_entry ([.ref (gA g (jB p))]) (n := 4) (Nat.le_of_ble_eq_true rfl)
  rw [lg_entry_eq]
  generalize (lg_sl ([.ref (gA g (jB p))]) ++ List.replicate (4 - (lg_sl ([.ref (gA g (jB p))])).length) Slot.unset).toArray = ls at hl ⊢
  have hl : lv_has ls 4 [(0, .ref (gA g (jB p)))] := hl
  refine lv_iconst (v := 0) hx hb dX0_isOrderly_0 (by decide) ?_
  refine lv_istore_n (lv' := [(1, .int 0), (0, .ref (gA g (jB p)))]) hx hb dX0_isOrderly_1 rfl hl (by decide) rfl (fun ls hl => ?_)
  have LP1 : ∀ (f k : Nat), k ≤ (B 0 4).toNatClampNeg → (B 0 4).toNatClampNeg + 1 ≤ k + f → (∀ j, j < k → b_X0_isOrderly B j = 1) → ∀ (H : Heap) (locs : List Loc), WS g s (xB S p B y) H locs → ∀ (ls : Array Slot), lv_has ls 4 [(1, .int (nI k)), (0, .ref (gA g (jB p)))] → W p9 l e ({ frames := 5, cells := 0, slots := 0, locals := 111 } : Room) s m ([.ref (gA g (jB p))] : List Value).toArray below meth c H locs 0 0 (MQ below (va_Qi (fun (v : Int32) (u : wSt) => v = f_X0_isOrderly B ∧ u = (xB S p B y)) (PB g) (AA g)) (([.ref (gA g (jB p))] : List Value).toArray) s 0 0 (AA g)) (F0 m 2 ls []) := by
    intro f
    induction f with
    | zero => intro k h1 h2; exact absurd h2 (by omega)
    | succ f ih =>
      intro k hk9 hf9 hall H locs hw ls hl
      have hl4 := CN.l4 hN
      refine lv_iload_n hx hb dX0_isOrderly_2 rfl (lv_at hl 0 rfl) ?_
      refine lv_aload_n hx hb dX0_isOrderly_3 rfl (lv_at hl 1 rfl) ?_
      refine k_get hc hk hw (bt_B hp) rfl iX0 4 (by decide) q208 (v := .int (B 0 4)) rfl dX0_isOrderly_4 ?_
      refine lv_icmp_ge (tgt := 84) hx hb dX0_isOrderly_7 (by decide) (fun h2 => ?_) (fun h2 => ?_)
      · have hkn := lp_out h2 (CN.cc hN hN) hk9 (by omega)
        subst hkn
        refine lv_iconst (v := 1) hx hb dX0_isOrderly_84 (by decide) ?_
        exact W.zret (v := 1) hx hb hr (by decide +kernel) (fun t9 ht hW => ke_i hw ht (by simp only [f_X0_isOrderly, if_pos hall]) rfl) hw.2.2.2 dX0_isOrderly_85
      · have hkn := lp_in h2 (CN.cc hN hN) hk9 (by omega)
        refine lv_aload_n hx hb dX0_isOrderly_10 rfl (lv_at hl 1 rfl) ?_
        refine k_get hc hk hw (bt_B hp) rfl iX0 1 (by decide) q203 (v := .ref (gA g (jCs p))) rfl dX0_isOrderly_11 ?_
        refine lv_iload_n hx hb dX0_isOrderly_14 rfl (lv_at hl 0 rfl) ?_
        refine k_ald (t0 := 5) (f := fun k => gA g (jC p k)) (n := k) hc hk hw rfl (at_Cs hp) (vp_in_nI (Nat.lt_of_lt_of_le hkn (by omega)) (by omega)) (nI_clamp (by have := hkn; omega)) dX0_isOrderly_15 ?_
        refine lv_astore_n (lv' := [(2, .ref (gA g (jC p k))), (1, .int (nI k)), (0, .ref (gA g (jB p)))]) hx hb dX0_isOrderly_16 rfl hl (by decide) rfl (fun ls hl => ?_)
        refine lv_aload_n hx hb dX0_isOrderly_17 rfl (lv_at hl 2 rfl) ?_
        refine lv_aload_n hx hb dX0_isOrderly_18 rfl (lv_at hl 0 rfl) ?_
        refine kc_r hw (va_runV (As := [.ref (gA g (jC p k))]) (rest := []) ⟨hx, hb, hml, hc.2.2.1, hc.2.2.2⟩ (m_X0_leadOf l g S p B y hp k (Nat.lt_of_lt_of_le hkn (by omega)) _ _ hN) (kw_V hc 1 q480 q482 qs31 q2 q483 rfl rfl (by decide +kernel) ⟨Nat.le_of_ble_eq_true rfl, Nat.le_of_ble_eq_true rfl⟩) (kp_V hk hw (bt_B hp) rfl) rfl rfl hl.1 rfl (lv_room (Nat.le_of_ble_eq_true rfl)) dX0_isOrderly_19 ⟨Nat.le_of_ble_eq_true rfl, Nat.le_of_ble_eq_true rfl⟩) (fun H locs hw => ?_)
        refine lv_astore_n (lv' := [(3, .ref (gA g (jC p (f_X0_leadOf k B)))), (2, .ref (gA g (jC p k))), (1, .int (nI k)), (0, .ref (gA g (jB p)))]) hx hb dX0_isOrderly_22 rfl hl (by decide) rfl (fun ls hl => ?_)
        refine lv_aload_n hx hb dX0_isOrderly_23 rfl (lv_at hl 1 rfl) ?_
        refine k_getN hc hk hw (bt_C hp (Nat.lt_of_lt_of_le hkn (by omega))) rfl iX1 11 (by decide) nq159 (v := .int (B (10 + k) 11)) rfl dX0_isOrderly_24 ?_
        refine lv_aload_n hx hb dX0_isOrderly_27 rfl (lv_at hl 0 rfl) ?_
        refine k_getN hc hk hw (bt_C hp (lt_X0_leadOf hN (Nat.lt_of_lt_of_le hkn (by omega)))) rfl iX1 11 (by decide) nq159 (v := .int (B (10 + (f_X0_leadOf k B)) 11)) rfl dX0_isOrderly_28 ?_
        refine lv_icmp_ne (tgt := 56) hx hb dX0_isOrderly_31 (by decide) (fun h3 => ?_) (fun h3 => ?_)
        · refine lv_iconst (v := 0) hx hb dX0_isOrderly_56 (by decide) ?_
          exact W.zret (v := 0) hx hb hr (by decide +kernel) (fun t9 ht hW => ke_i hw ht (by simp only [f_X0_isOrderly]; rw [if_neg (fun h => absurd (show (1 : Int32) = 0 from (h k hkn).symm.trans (by simp only [b_X0_isOrderly, if_neg h3])) (by decide))]) rfl) hw.2.2.2 dX0_isOrderly_57
        · refine lv_aload_n hx hb dX0_isOrderly_34 rfl (lv_at hl 1 rfl) ?_
          refine k_getN hc hk hw (bt_C hp (Nat.lt_of_lt_of_le hkn (by omega))) rfl iX1 3 (by decide) nq142 (v := .int (B (10 + k) 3)) rfl dX0_isOrderly_35 ?_
          refine lv_aload_n hx hb dX0_isOrderly_38 rfl (lv_at hl 0 rfl) ?_
          refine k_getN hc hk hw (bt_C hp (lt_X0_leadOf hN (Nat.lt_of_lt_of_le hkn (by omega)))) rfl iX1 3 (by decide) nq142 (v := .int (B (10 + (f_X0_leadOf k B)) 3)) rfl dX0_isOrderly_39 ?_
          refine lv_icmp_ne (tgt := 56) hx hb dX0_isOrderly_42 (by decide) (fun h4 => ?_) (fun h4 => ?_)
          · refine lv_iconst (v := 0) hx hb dX0_isOrderly_56 (by decide) ?_
            exact W.zret (v := 0) hx hb hr (by decide +kernel) (fun t9 ht hW => ke_i hw ht (by simp only [f_X0_isOrderly]; rw [if_neg (fun h => absurd (show (1 : Int32) = 0 from (h k hkn).symm.trans (by simp only [b_X0_isOrderly, if_pos h3, if_neg h4])) (by decide))]) rfl) hw.2.2.2 dX0_isOrderly_57
          · refine lv_aload_n hx hb dX0_isOrderly_45 rfl (lv_at hl 1 rfl) ?_
            refine k_getN hc hk hw (bt_C hp (Nat.lt_of_lt_of_le hkn (by omega))) rfl iX1 4 (by decide) nq144 (v := .int (B (10 + k) 4)) rfl dX0_isOrderly_46 ?_
            refine lv_aload_n hx hb dX0_isOrderly_49 rfl (lv_at hl 0 rfl) ?_
            refine k_getN hc hk hw (bt_C hp (lt_X0_leadOf hN (Nat.lt_of_lt_of_le hkn (by omega)))) rfl iX1 4 (by decide) nq144 (v := .int (B (10 + (f_X0_leadOf k B)) 4)) rfl dX0_isOrderly_50 ?_
            refine lv_icmp_eq (tgt := 58) hx hb dX0_isOrderly_53 (by decide) (fun h5 => ?_) (fun h5 => ?_)
            · refine lv_aload_n hx hb dX0_isOrderly_58 rfl (lv_at hl 1 rfl) ?_
              refine k_getN hc hk hw (bt_C hp (Nat.lt_of_lt_of_le hkn (by omega))) rfl iX1 11 (by decide) nq159 (v := .int (B (10 + k) 11)) rfl dX0_isOrderly_59 ?_
              refine kc_i hw (va_runSN (As := [.int (B (10 + k) 11)]) (rest := []) ⟨hx, hb, hml, hc.2.2.1, hc.2.2.2⟩ (m_X6_isClosing l g (xB S p B y) (B (10 + k) 11)) ⟨kw_N hc hk 1 nq484 q1 q486 rfl rfl (by decide +kernel) ⟨Nat.le_of_ble_eq_true rfl, Nat.le_of_ble_eq_true rfl⟩, hc.2.2.2 _ q485, trivial⟩ (kp_S hk hw) rfl rfl hl.1 rfl (lv_room (Nat.le_of_ble_eq_true rfl)) dX0_isOrderly_62 ⟨Nat.le_of_ble_eq_true rfl, Nat.le_of_ble_eq_true rfl⟩) (fun H locs hw => ?_)
              refine lv_if_eq (tgt := 78) hx hb dX0_isOrderly_65 (by decide) (fun h6 => ?_) (fun h6 => ?_)
              · refine lv_iinc (v := nI (k + 1)) (lv' := [(1, .int (nI (k + 1))), (3, .ref (gA g (jC p (f_X0_leadOf k B)))), (2, .ref (gA g (jC p k))), (0, .ref (gA g (jB p)))]) hx hb dX0_isOrderly_78 hl (k := 2) rfl (by first | exact (nI_succ _).symm | rfl) (by decide) rfl (fun ls hl => ?_)
                refine lv_goto (tgt := 2) hx hb dX0_isOrderly_81 (by decide) ?_
                have hl9 := lv_sub hl [0, 3] rfl
                exact ih (k + 1) (by omega) (by omega) (lt_s hall (by simp only [b_X0_isOrderly, if_pos h3, if_pos h4, if_pos h5, if_pos h6])) _ _ hw _ hl9
              · refine lv_aload_n hx hb dX0_isOrderly_68 rfl (lv_at hl 1 rfl) ?_
                refine k_getN hc hk hw (bt_C hp (Nat.lt_of_lt_of_le hkn (by omega))) rfl iX1 13 (by decide) nq165 (v := .int (B (10 + k) 13)) rfl dX0_isOrderly_69 ?_
                refine lv_iconst (v := (-1)) hx hb dX0_isOrderly_72 (by decide) ?_
                refine lv_icmp_ne (tgt := 78) hx hb dX0_isOrderly_73 (by decide) (fun h7 => ?_) (fun h7 => ?_)
                · refine lv_iinc (v := nI (k + 1)) (lv' := [(1, .int (nI (k + 1))), (3, .ref (gA g (jC p (f_X0_leadOf k B)))), (2, .ref (gA g (jC p k))), (0, .ref (gA g (jB p)))]) hx hb dX0_isOrderly_78 hl (k := 2) rfl (by first | exact (nI_succ _).symm | rfl) (by decide) rfl (fun ls hl => ?_)
                  refine lv_goto (tgt := 2) hx hb dX0_isOrderly_81 (by decide) ?_
                  have hl9 := lv_sub hl [0, 3] rfl
                  exact ih (k + 1) (by omega) (by omega) (lt_s hall (by simp only [b_X0_isOrderly, if_pos h3, if_pos h4, if_pos h5, if_neg h6, if_neg h7])) _ _ hw _ hl9
                · refine lv_iconst (v := 0) hx hb dX0_isOrderly_76 (by decide) ?_
                  exact W.zret (v := 0) hx hb hr (by decide +kernel) (fun t9 ht hW => ke_i hw ht (by simp only [f_X0_isOrderly]; rw [if_neg (fun h => absurd (show (1 : Int32) = 0 from (h k hkn).symm.trans (by simp only [b_X0_isOrderly, if_pos h3, if_pos h4, if_pos h5, if_neg h6, if_pos h7])) (by decide))]) rfl) hw.2.2.2 dX0_isOrderly_77
            · refine lv_iconst (v := 0) hx hb dX0_isOrderly_56 (by decide) ?_
              exact W.zret (v := 0) hx hb hr (by decide +kernel) (fun t9 ht hW => ke_i hw ht (by simp only [f_X0_isOrderly]; rw [if_neg (fun h => absurd (show (1 : Int32) = 0 from (h k hkn).symm.trans (by simp only [b_X0_isOrderly, if_pos h3, if_pos h4, if_neg h5])) (by decide))]) rfl) hw.2.2.2 dX0_isOrderly_57
  exact LP1 ((B 0 4).toNatClampNeg + 1) 0 (Nat.zero_le _) (by omega) (fun j h => absurd h (Nat.not_lt_zero j)) _ _ hw _ (lv_sub hl [0, 1] rfl)
def b_open (B : BT) (k : Nat) (z : BT) : BT :=
  up2 z 3 k 1
def L_open (B : BT) : Nat → BT
  | 0 => up2 (up2 (up2 B 0 3 0) 0 4 0) 0 5 0
  | k + 1 => b_open B k (L_open B k)
def f_X0_open  (B : BT) : BT :=
  (L_open B 5)
set_option maxHeartbeats 4000000 in
set_option maxRecDepth 100000 in
theorem m_X0_open (l : Launch) (g : wG) (S : Nat → BT) (p : Nat) (B : BT) (y : (Nat → Nat → Int32) × (Nat → Int64) × (Nat → UInt64)) (hp : p < 2) : mV l yX0_open cX0_open 2 ({ frames := 0, cells := 0, slots := 0, locals := 0 } : Room) 0 0 g (xB S p B y) [.ref (gA g (jB p))] (xB S p (f_X0_open B) y) := by
  refine Met.ofW (cc := cX0_open) (maxL := 2) (ret := none) (by decide) rfl ?_
  intro p9 e s m args below meth c s₁ BL hml hv
  obtain ⟨rfl, hk, hPB⟩ := hv
  have hx := BL.exec
  have hb := BL.bytes
  have hc : CX p9 c cX0_open s _ m RX0 := ⟨hx, hb, findClass_of_methodNamed BL.named, fun w h => atoms_spec BL.pre w (List.mem_cons_of_mem _ h)⟩
  have hr := BL.returns
  have hlocks := BL.notSynchronized
  have hw : WS g s (xB S p B y) s.heap [] := ⟨hPB, va_S.rf⟩
  have hl := lv_entry ([.ref (gA g (jB p))]) (n := 2) (Nat.le_of_ble_eq_true rfl)
  rw [lg_entry_eq]
  generalize (lg_sl ([.ref (gA g (jB p))]) ++ List.replicate (2 - (lg_sl ([.ref (gA g (jB p))])).length) Slot.unset).toArray = ls at hl ⊢
  have hl : lv_has ls 2 [(0, .ref (gA g (jB p)))] := hl
  refine lv_aload_n hx hb dX0_open_0 rfl (lv_at hl 0 rfl) ?_
  refine lv_iconst (v := 0) hx hb dX0_open_1 (by decide) ?_
  refine k_put hc hk hw (x' := (xB S p (up2 B 0 3 0) y)) (bt_B hp) rfl iX0 tyX0 tyX0_ok nmX0 3 (by decide) q206 rfl rfl rfl (Nat.le_of_ble_eq_true rfl) dX0_open_2 (bs_B hp (by decide) (by decide)) (fun H locs hw => ?_)
  refine lv_aload_n hx hb dX0_open_5 rfl (lv_at hl 0 rfl) ?_
  refine lv_iconst (v := 0) hx hb dX0_open_6 (by decide) ?_
  refine k_put hc hk hw (x' := (xB S p (up2 (up2 B 0 3 0) 0 4 0) y)) (bt_B hp) rfl iX0 tyX0 tyX0_ok nmX0 4 (by decide) q208 rfl rfl rfl (Nat.le_of_ble_eq_true rfl) dX0_open_7 (bs_B hp (by decide) (by decide)) (fun H locs hw => ?_)
  refine lv_aload_n hx hb dX0_open_10 rfl (lv_at hl 0 rfl) ?_
  refine lv_iconst (v := 0) hx hb dX0_open_11 (by decide) ?_
  refine k_put hc hk hw (x' := (xB S p (up2 (up2 (up2 B 0 3 0) 0 4 0) 0 5 0) y)) (bt_B hp) rfl iX0 tyX0 tyX0_ok nmX0 5 (by decide) q210 rfl rfl rfl (Nat.le_of_ble_eq_true rfl) dX0_open_12 (bs_B hp (by decide) (by decide)) (fun H locs hw => ?_)
  refine lv_iconst (v := 0) hx hb dX0_open_15 (by decide) ?_
  refine lv_istore_n (lv' := [(1, .int 0), (0, .ref (gA g (jB p)))]) hx hb dX0_open_16 rfl hl (by decide) rfl (fun ls hl => ?_)
  have LP1 : ∀ (f k : Nat), k ≤ 5 → 5 + 1 ≤ k + f → ∀ (H : Heap) (locs : List Loc), WS g s (xB S p (L_open B k) y) H locs → ∀ (ls : Array Slot), lv_has ls 2 [(1, .int (nI k)), (0, .ref (gA g (jB p)))] → W p9 l e ({ frames := 0, cells := 0, slots := 0, locals := 0 } : Room) s m ([.ref (gA g (jB p))] : List Value).toArray below meth c H locs 0 0 (MQ below (va_Qv (fun (u : wSt) => u = (xB S p (f_X0_open B) y)) (PB g) (AA g)) (([.ref (gA g (jB p))] : List Value).toArray) s 0 0 (AA g)) (F0 m 17 ls []) := by
    intro f
    induction f with
    | zero => intro k h1 h2; exact absurd h2 (by omega)
    | succ f ih =>
      intro k hk9 hf9 H locs hw ls hl
      refine lv_iload_n hx hb dX0_open_17 rfl (lv_at hl 0 rfl) ?_
      refine lv_iconst (v := 5) hx hb dX0_open_18 (by decide) ?_
      refine lv_icmp_ge (tgt := 35) hx hb dX0_open_19 (by decide) (fun h2 => ?_) (fun h2 => ?_)
      · have hkn := lp_out (m := 5) h2 rfl hk9 (by decide)
        subst hkn
        exact W.vret hx hb hr (fun t9 ht hW => ke_v hw ht (by simp only [f_X0_open])) hw.2.2.2 dX0_open_35
      · have hkn := lp_in (m := 5) h2 rfl hk9 (by decide)
        refine lv_aload_n hx hb dX0_open_22 rfl (lv_at hl 1 rfl) ?_
        refine k_get hc hk hw (bt_B hp) rfl iX0 2 (by decide) q205 (v := .ref (gA g (jW p))) rfl dX0_open_23 ?_
        refine lv_iload_n hx hb dX0_open_26 rfl (lv_at hl 0 rfl) ?_
        refine lv_iconst (v := 1) hx hb dX0_open_27 (by decide) ?_
        refine k_iast (x' := (xB S p (up2 (L_open B k) 3 k 1) y)) (f := (L_open B k) 3) (n := k) hc hk hw (bt_W hp) (vp_in_nI (Nat.lt_of_lt_of_le hkn (by omega)) (by omega)) (nI_clamp (by have := hkn; omega)) dX0_open_28 (bs_W hp) (fun H locs hw => ?_)
        refine lv_iinc (v := nI (k + 1)) (lv' := [(1, .int (nI (k + 1))), (0, .ref (gA g (jB p)))]) hx hb dX0_open_29 hl (k := 0) rfl (by first | exact (nI_succ _).symm | rfl) (by decide) rfl (fun ls hl => ?_)
        refine lv_goto (tgt := 17) hx hb dX0_open_32 (by decide) ?_
        have hw9 : WS g s (xB S p (L_open B (k + 1)) y) H locs := by
          have e9 : up2 (L_open B k) 3 k 1 = (L_open B (k + 1)) := by simp only [L_open, b_open]
          rw [← e9]; exact hw
        have hl9 := lv_sub hl [0, 1] rfl
        exact ih (k + 1) (by omega) (by omega) _ _ hw9 _ hl9
  exact LP1 (5 + 1) 0 (Nat.zero_le _) (by omega) _ _ hw _ (lv_sub hl [0, 1] rfl)
def f_X5_matches (i0 : Nat) (i1 : Nat) (S : Nat → BT) : Int32 :=
  (if S 0 (4 + i0) 0 = S 1 (4 + i1) 0 then (if S 0 (4 + i0) 1 = S 1 (4 + i1) 1 then (if S 0 (4 + i0) 2 = S 1 (4 + i1) 2 then (if S 0 (4 + i0) 3 = S 1 (4 + i1) 3 then 1 else 0) else 0) else 0) else 0)
set_option maxHeartbeats 4000000 in
set_option maxRecDepth 100000 in
theorem m_X5_matches (l : Launch) (g : wG) (S : Nat → BT) (y : (Nat → Nat → Int32) × (Nat → Int64) × (Nat → UInt64)) (i0 : Nat) (hi0 : i0 < 6) (i1 : Nat) (hi1 : i1 < 6) : mI l yX5_matches cX5_matches 2 (some .boolean) ({ frames := 0, cells := 0, slots := 0, locals := 0 } : Room) 0 0 g (S, y) [.ref (gA g (jO 0 i0)), .ref (gA g (jO 1 i1))] (f_X5_matches i0 i1 S) (S, y) := by
  refine Met.ofW (cc := cX5_matches) (maxL := 2) (ret := some .boolean) (by decide) rfl ?_
  intro p9 e s m args below meth c s₁ BL hml hv
  obtain ⟨rfl, hk, hPB⟩ := hv
  have hx := BL.exec
  have hb := BL.bytes
  have hc : CX p9 c cX5_matches s _ m RX5 := ⟨hx, hb, findClass_of_methodNamed BL.named, fun w h => atoms_spec BL.pre w (List.mem_cons_of_mem _ h)⟩
  have hr := BL.returns
  have hlocks := BL.notSynchronized
  have hw : WS g s (S, y) s.heap [] := ⟨hPB, va_S.rf⟩
  have hl := lv_entry ([.ref (gA g (jO 0 i0)), .ref (gA g (jO 1 i1))]) (n := 2) (Nat.le_of_ble_eq_true rfl)
  rw [lg_entry_eq]
  generalize (lg_sl ([.ref (gA g (jO 0 i0)), .ref (gA g (jO 1 i1))]) ++ List.replicate (2 - (lg_sl ([.ref (gA g (jO 0 i0)), .ref (gA g (jO 1 i1))])).length) Slot.unset).toArray = ls at hl ⊢
  have hl : lv_has ls 2 [(0, .ref (gA g (jO 0 i0))), (1, .ref (gA g (jO 1 i1)))] := hl
  refine lv_aload_n hx hb dX5_matches_0 rfl (lv_at hl 0 rfl) ?_
  refine k_get hc hk hw (at_O (by decide : 0 < 2) hi0) rfl iX5 0 (by decide) q48 (v := .int (S 0 (4 + i0) 0)) rfl dX5_matches_1 ?_
  refine lv_aload_n hx hb dX5_matches_4 rfl (lv_at hl 1 rfl) ?_
  refine k_get hc hk hw (at_O (by decide : 1 < 2) hi1) rfl iX5 0 (by decide) q48 (v := .int (S 1 (4 + i1) 0)) rfl dX5_matches_5 ?_
  refine lv_icmp_ne (tgt := 48) hx hb dX5_matches_8 (by decide) (fun h1 => ?_) (fun h1 => ?_)
  · refine lv_iconst (v := 0) hx hb dX5_matches_48 (by decide) ?_
    exact W.zret (v := 0) hx hb hr (by decide +kernel) (fun t9 ht hW => ke_i hw ht (by simp only [f_X5_matches, if_neg h1]) rfl) hw.2.2.2 dX5_matches_49
  · refine lv_aload_n hx hb dX5_matches_11 rfl (lv_at hl 0 rfl) ?_
    refine k_get hc hk hw (at_O (by decide : 0 < 2) hi0) rfl iX5 1 (by decide) q50 (v := .int (S 0 (4 + i0) 1)) rfl dX5_matches_12 ?_
    refine lv_aload_n hx hb dX5_matches_15 rfl (lv_at hl 1 rfl) ?_
    refine k_get hc hk hw (at_O (by decide : 1 < 2) hi1) rfl iX5 1 (by decide) q50 (v := .int (S 1 (4 + i1) 1)) rfl dX5_matches_16 ?_
    refine lv_icmp_ne (tgt := 48) hx hb dX5_matches_19 (by decide) (fun h2 => ?_) (fun h2 => ?_)
    · refine lv_iconst (v := 0) hx hb dX5_matches_48 (by decide) ?_
      exact W.zret (v := 0) hx hb hr (by decide +kernel) (fun t9 ht hW => ke_i hw ht (by simp only [f_X5_matches, if_pos h1, if_neg h2]) rfl) hw.2.2.2 dX5_matches_49
    · refine lv_aload_n hx hb dX5_matches_22 rfl (lv_at hl 0 rfl) ?_
      refine k_get hc hk hw (at_O (by decide : 0 < 2) hi0) rfl iX5 2 (by decide) q52 (v := .int (S 0 (4 + i0) 2)) rfl dX5_matches_23 ?_
      refine lv_aload_n hx hb dX5_matches_26 rfl (lv_at hl 1 rfl) ?_
      refine k_get hc hk hw (at_O (by decide : 1 < 2) hi1) rfl iX5 2 (by decide) q52 (v := .int (S 1 (4 + i1) 2)) rfl dX5_matches_27 ?_
      refine lv_icmp_ne (tgt := 48) hx hb dX5_matches_30 (by decide) (fun h3 => ?_) (fun h3 => ?_)
      · refine lv_iconst (v := 0) hx hb dX5_matches_48 (by decide) ?_
        exact W.zret (v := 0) hx hb hr (by decide +kernel) (fun t9 ht hW => ke_i hw ht (by simp only [f_X5_matches, if_pos h1, if_pos h2, if_neg h3]) rfl) hw.2.2.2 dX5_matches_49
      · refine lv_aload_n hx hb dX5_matches_33 rfl (lv_at hl 0 rfl) ?_
        refine k_get hc hk hw (at_O (by decide : 0 < 2) hi0) rfl iX5 3 (by decide) q55 (v := .int (S 0 (4 + i0) 3)) rfl dX5_matches_34 ?_
        refine lv_aload_n hx hb dX5_matches_37 rfl (lv_at hl 1 rfl) ?_
        refine k_get hc hk hw (at_O (by decide : 1 < 2) hi1) rfl iX5 3 (by decide) q55 (v := .int (S 1 (4 + i1) 3)) rfl dX5_matches_38 ?_
        refine lv_icmp_ne (tgt := 48) hx hb dX5_matches_41 (by decide) (fun h4 => ?_) (fun h4 => ?_)
        · refine lv_iconst (v := 0) hx hb dX5_matches_48 (by decide) ?_
          exact W.zret (v := 0) hx hb hr (by decide +kernel) (fun t9 ht hW => ke_i hw ht (by simp only [f_X5_matches, if_pos h1, if_pos h2, if_pos h3, if_neg h4]) rfl) hw.2.2.2 dX5_matches_49
        · refine lv_iconst (v := 1) hx hb dX5_matches_44 (by decide) ?_
          refine lv_goto (tgt := 49) hx hb dX5_matches_45 (by decide) ?_
          exact W.zret (v := 1) hx hb hr (by decide +kernel) (fun t9 ht hW => ke_i hw ht (by simp only [f_X5_matches, if_pos h1, if_pos h2, if_pos h3, if_pos h4]) rfl) hw.2.2.2 dX5_matches_49
def f_X4_matches (i0 : Nat) (i1 : Nat) (S : Nat → BT) : Int32 :=
  (if S 0 (30 + i0) 0 = S 1 (30 + i1) 0 then (if S 0 (30 + i0) 1 = S 1 (30 + i1) 1 then (if S 0 (30 + i0) 2 = S 1 (30 + i1) 2 then (if S 0 (30 + i0) 3 = S 1 (30 + i1) 3 then 1 else 0) else 0) else 0) else 0)
set_option maxHeartbeats 4000000 in
set_option maxRecDepth 100000 in
theorem m_X4_matches (l : Launch) (g : wG) (S : Nat → BT) (y : (Nat → Nat → Int32) × (Nat → Int64) × (Nat → UInt64)) (i0 : Nat) (hi0 : i0 < 20) (i1 : Nat) (hi1 : i1 < 20) : mI l yX4_matches cX4_matches 2 (some .boolean) ({ frames := 0, cells := 0, slots := 0, locals := 0 } : Room) 0 0 g (S, y) [.ref (gA g (jI 0 i0)), .ref (gA g (jI 1 i1))] (f_X4_matches i0 i1 S) (S, y) := by
  refine Met.ofW (cc := cX4_matches) (maxL := 2) (ret := some .boolean) (by decide) rfl ?_
  intro p9 e s m args below meth c s₁ BL hml hv
  obtain ⟨rfl, hk, hPB⟩ := hv
  have hx := BL.exec
  have hb := BL.bytes
  have hc : CX p9 c cX4_matches s _ m RX4 := ⟨hx, hb, findClass_of_methodNamed BL.named, fun w h => atoms_spec BL.pre w (List.mem_cons_of_mem _ h)⟩
  have hr := BL.returns
  have hlocks := BL.notSynchronized
  have hw : WS g s (S, y) s.heap [] := ⟨hPB, va_S.rf⟩
  have hl := lv_entry ([.ref (gA g (jI 0 i0)), .ref (gA g (jI 1 i1))]) (n := 2) (Nat.le_of_ble_eq_true rfl)
  rw [lg_entry_eq]
  generalize (lg_sl ([.ref (gA g (jI 0 i0)), .ref (gA g (jI 1 i1))]) ++ List.replicate (2 - (lg_sl ([.ref (gA g (jI 0 i0)), .ref (gA g (jI 1 i1))])).length) Slot.unset).toArray = ls at hl ⊢
  have hl : lv_has ls 2 [(0, .ref (gA g (jI 0 i0))), (1, .ref (gA g (jI 1 i1)))] := hl
  refine lv_aload_n hx hb dX4_matches_0 rfl (lv_at hl 0 rfl) ?_
  refine k_get hc hk hw (at_I (by decide : 0 < 2) hi0) rfl iX4 0 (by decide) q79 (v := .int (S 0 (30 + i0) 0)) rfl dX4_matches_1 ?_
  refine lv_aload_n hx hb dX4_matches_4 rfl (lv_at hl 1 rfl) ?_
  refine k_get hc hk hw (at_I (by decide : 1 < 2) hi1) rfl iX4 0 (by decide) q79 (v := .int (S 1 (30 + i1) 0)) rfl dX4_matches_5 ?_
  refine lv_icmp_ne (tgt := 48) hx hb dX4_matches_8 (by decide) (fun h1 => ?_) (fun h1 => ?_)
  · refine lv_iconst (v := 0) hx hb dX4_matches_48 (by decide) ?_
    exact W.zret (v := 0) hx hb hr (by decide +kernel) (fun t9 ht hW => ke_i hw ht (by simp only [f_X4_matches, if_neg h1]) rfl) hw.2.2.2 dX4_matches_49
  · refine lv_aload_n hx hb dX4_matches_11 rfl (lv_at hl 0 rfl) ?_
    refine k_get hc hk hw (at_I (by decide : 0 < 2) hi0) rfl iX4 1 (by decide) q81 (v := .int (S 0 (30 + i0) 1)) rfl dX4_matches_12 ?_
    refine lv_aload_n hx hb dX4_matches_15 rfl (lv_at hl 1 rfl) ?_
    refine k_get hc hk hw (at_I (by decide : 1 < 2) hi1) rfl iX4 1 (by decide) q81 (v := .int (S 1 (30 + i1) 1)) rfl dX4_matches_16 ?_
    refine lv_icmp_ne (tgt := 48) hx hb dX4_matches_19 (by decide) (fun h2 => ?_) (fun h2 => ?_)
    · refine lv_iconst (v := 0) hx hb dX4_matches_48 (by decide) ?_
      exact W.zret (v := 0) hx hb hr (by decide +kernel) (fun t9 ht hW => ke_i hw ht (by simp only [f_X4_matches, if_pos h1, if_neg h2]) rfl) hw.2.2.2 dX4_matches_49
    · refine lv_aload_n hx hb dX4_matches_22 rfl (lv_at hl 0 rfl) ?_
      refine k_get hc hk hw (at_I (by decide : 0 < 2) hi0) rfl iX4 2 (by decide) q84 (v := .int (S 0 (30 + i0) 2)) rfl dX4_matches_23 ?_
      refine lv_aload_n hx hb dX4_matches_26 rfl (lv_at hl 1 rfl) ?_
      refine k_get hc hk hw (at_I (by decide : 1 < 2) hi1) rfl iX4 2 (by decide) q84 (v := .int (S 1 (30 + i1) 2)) rfl dX4_matches_27 ?_
      refine lv_icmp_ne (tgt := 48) hx hb dX4_matches_30 (by decide) (fun h3 => ?_) (fun h3 => ?_)
      · refine lv_iconst (v := 0) hx hb dX4_matches_48 (by decide) ?_
        exact W.zret (v := 0) hx hb hr (by decide +kernel) (fun t9 ht hW => ke_i hw ht (by simp only [f_X4_matches, if_pos h1, if_pos h2, if_neg h3]) rfl) hw.2.2.2 dX4_matches_49
      · refine lv_aload_n hx hb dX4_matches_33 rfl (lv_at hl 0 rfl) ?_
        refine k_get hc hk hw (at_I (by decide : 0 < 2) hi0) rfl iX4 3 (by decide) q87 (v := .int (S 0 (30 + i0) 3)) rfl dX4_matches_34 ?_
        refine lv_aload_n hx hb dX4_matches_37 rfl (lv_at hl 1 rfl) ?_
        refine k_get hc hk hw (at_I (by decide : 1 < 2) hi1) rfl iX4 3 (by decide) q87 (v := .int (S 1 (30 + i1) 3)) rfl dX4_matches_38 ?_
        refine lv_icmp_ne (tgt := 48) hx hb dX4_matches_41 (by decide) (fun h4 => ?_) (fun h4 => ?_)
        · refine lv_iconst (v := 0) hx hb dX4_matches_48 (by decide) ?_
          exact W.zret (v := 0) hx hb hr (by decide +kernel) (fun t9 ht hW => ke_i hw ht (by simp only [f_X4_matches, if_pos h1, if_pos h2, if_pos h3, if_neg h4]) rfl) hw.2.2.2 dX4_matches_49
        · refine lv_iconst (v := 1) hx hb dX4_matches_44 (by decide) ?_
          refine lv_goto (tgt := 49) hx hb dX4_matches_45 (by decide) ?_
          exact W.zret (v := 1) hx hb hr (by decide +kernel) (fun t9 ht hW => ke_i hw ht (by simp only [f_X4_matches, if_pos h1, if_pos h2, if_pos h3, if_pos h4]) rfl) hw.2.2.2 dX4_matches_49
def f_X3_matches (i0 : Nat) (i1 : Nat) (S : Nat → BT) : Int32 :=
  (if S 0 (50 + i0) 0 = S 1 (50 + i1) 0 then (if S 0 (50 + i0) 1 = S 1 (50 + i1) 1 then (if S 0 (50 + i0) 2 = S 1 (50 + i1) 2 then (if S 0 (50 + i0) 3 = S 1 (50 + i1) 3 then (if S 0 (50 + i0) 4 = S 1 (50 + i1) 4 then (if S 0 (50 + i0) 5 = S 1 (50 + i1) 5 then 1 else 0) else 0) else 0) else 0) else 0) else 0)
set_option maxHeartbeats 4000000 in
set_option maxRecDepth 100000 in
theorem m_X3_matches (l : Launch) (g : wG) (S : Nat → BT) (y : (Nat → Nat → Int32) × (Nat → Int64) × (Nat → UInt64)) (i0 : Nat) (hi0 : i0 < 20) (i1 : Nat) (hi1 : i1 < 20) : mI l yX3_matches cX3_matches 2 (some .boolean) ({ frames := 0, cells := 0, slots := 0, locals := 0 } : Room) 0 0 g (S, y) [.ref (gA g (jF 0 i0)), .ref (gA g (jF 1 i1))] (f_X3_matches i0 i1 S) (S, y) := by
  refine Met.ofW (cc := cX3_matches) (maxL := 2) (ret := some .boolean) (by decide) rfl ?_
  intro p9 e s m args below meth c s₁ BL hml hv
  obtain ⟨rfl, hk, hPB⟩ := hv
  have hx := BL.exec
  have hb := BL.bytes
  have hc : CX p9 c cX3_matches s _ m RX3 := ⟨hx, hb, findClass_of_methodNamed BL.named, fun w h => atoms_spec BL.pre w (List.mem_cons_of_mem _ h)⟩
  have hr := BL.returns
  have hlocks := BL.notSynchronized
  have hw : WS g s (S, y) s.heap [] := ⟨hPB, va_S.rf⟩
  have hl := lv_entry ([.ref (gA g (jF 0 i0)), .ref (gA g (jF 1 i1))]) (n := 2) (Nat.le_of_ble_eq_true rfl)
  rw [lg_entry_eq]
  generalize (lg_sl ([.ref (gA g (jF 0 i0)), .ref (gA g (jF 1 i1))]) ++ List.replicate (2 - (lg_sl ([.ref (gA g (jF 0 i0)), .ref (gA g (jF 1 i1))])).length) Slot.unset).toArray = ls at hl ⊢
  have hl : lv_has ls 2 [(0, .ref (gA g (jF 0 i0))), (1, .ref (gA g (jF 1 i1)))] := hl
  refine lv_aload_n hx hb dX3_matches_0 rfl (lv_at hl 0 rfl) ?_
  refine k_get hc hk hw (at_F (by decide : 0 < 2) hi0) rfl iX3 0 (by decide) q104 (v := .int (S 0 (50 + i0) 0)) rfl dX3_matches_1 ?_
  refine lv_aload_n hx hb dX3_matches_4 rfl (lv_at hl 1 rfl) ?_
  refine k_get hc hk hw (at_F (by decide : 1 < 2) hi1) rfl iX3 0 (by decide) q104 (v := .int (S 1 (50 + i1) 0)) rfl dX3_matches_5 ?_
  refine lv_icmp_ne (tgt := 70) hx hb dX3_matches_8 (by decide) (fun h1 => ?_) (fun h1 => ?_)
  · refine lv_iconst (v := 0) hx hb dX3_matches_70 (by decide) ?_
    exact W.zret (v := 0) hx hb hr (by decide +kernel) (fun t9 ht hW => ke_i hw ht (by simp only [f_X3_matches, if_neg h1]) rfl) hw.2.2.2 dX3_matches_71
  · refine lv_aload_n hx hb dX3_matches_11 rfl (lv_at hl 0 rfl) ?_
    refine k_get hc hk hw (at_F (by decide : 0 < 2) hi0) rfl iX3 1 (by decide) q106 (v := .int (S 0 (50 + i0) 1)) rfl dX3_matches_12 ?_
    refine lv_aload_n hx hb dX3_matches_15 rfl (lv_at hl 1 rfl) ?_
    refine k_get hc hk hw (at_F (by decide : 1 < 2) hi1) rfl iX3 1 (by decide) q106 (v := .int (S 1 (50 + i1) 1)) rfl dX3_matches_16 ?_
    refine lv_icmp_ne (tgt := 70) hx hb dX3_matches_19 (by decide) (fun h2 => ?_) (fun h2 => ?_)
    · refine lv_iconst (v := 0) hx hb dX3_matches_70 (by decide) ?_
      exact W.zret (v := 0) hx hb hr (by decide +kernel) (fun t9 ht hW => ke_i hw ht (by simp only [f_X3_matches, if_pos h1, if_neg h2]) rfl) hw.2.2.2 dX3_matches_71
    · refine lv_aload_n hx hb dX3_matches_22 rfl (lv_at hl 0 rfl) ?_
      refine k_get hc hk hw (at_F (by decide : 0 < 2) hi0) rfl iX3 2 (by decide) q109 (v := .int (S 0 (50 + i0) 2)) rfl dX3_matches_23 ?_
      refine lv_aload_n hx hb dX3_matches_26 rfl (lv_at hl 1 rfl) ?_
      refine k_get hc hk hw (at_F (by decide : 1 < 2) hi1) rfl iX3 2 (by decide) q109 (v := .int (S 1 (50 + i1) 2)) rfl dX3_matches_27 ?_
      refine lv_icmp_ne (tgt := 70) hx hb dX3_matches_30 (by decide) (fun h3 => ?_) (fun h3 => ?_)
      · refine lv_iconst (v := 0) hx hb dX3_matches_70 (by decide) ?_
        exact W.zret (v := 0) hx hb hr (by decide +kernel) (fun t9 ht hW => ke_i hw ht (by simp only [f_X3_matches, if_pos h1, if_pos h2, if_neg h3]) rfl) hw.2.2.2 dX3_matches_71
      · refine lv_aload_n hx hb dX3_matches_33 rfl (lv_at hl 0 rfl) ?_
        refine k_get hc hk hw (at_F (by decide : 0 < 2) hi0) rfl iX3 3 (by decide) q112 (v := .int (S 0 (50 + i0) 3)) rfl dX3_matches_34 ?_
        refine lv_aload_n hx hb dX3_matches_37 rfl (lv_at hl 1 rfl) ?_
        refine k_get hc hk hw (at_F (by decide : 1 < 2) hi1) rfl iX3 3 (by decide) q112 (v := .int (S 1 (50 + i1) 3)) rfl dX3_matches_38 ?_
        refine lv_icmp_ne (tgt := 70) hx hb dX3_matches_41 (by decide) (fun h4 => ?_) (fun h4 => ?_)
        · refine lv_iconst (v := 0) hx hb dX3_matches_70 (by decide) ?_
          exact W.zret (v := 0) hx hb hr (by decide +kernel) (fun t9 ht hW => ke_i hw ht (by simp only [f_X3_matches, if_pos h1, if_pos h2, if_pos h3, if_neg h4]) rfl) hw.2.2.2 dX3_matches_71
        · refine lv_aload_n hx hb dX3_matches_44 rfl (lv_at hl 0 rfl) ?_
          refine k_get hc hk hw (at_F (by decide : 0 < 2) hi0) rfl iX3 4 (by decide) q114 (v := .int (S 0 (50 + i0) 4)) rfl dX3_matches_45 ?_
          refine lv_aload_n hx hb dX3_matches_48 rfl (lv_at hl 1 rfl) ?_
          refine k_get hc hk hw (at_F (by decide : 1 < 2) hi1) rfl iX3 4 (by decide) q114 (v := .int (S 1 (50 + i1) 4)) rfl dX3_matches_49 ?_
          refine lv_icmp_ne (tgt := 70) hx hb dX3_matches_52 (by decide) (fun h5 => ?_) (fun h5 => ?_)
          · refine lv_iconst (v := 0) hx hb dX3_matches_70 (by decide) ?_
            exact W.zret (v := 0) hx hb hr (by decide +kernel) (fun t9 ht hW => ke_i hw ht (by simp only [f_X3_matches, if_pos h1, if_pos h2, if_pos h3, if_pos h4, if_neg h5]) rfl) hw.2.2.2 dX3_matches_71
          · refine lv_aload_n hx hb dX3_matches_55 rfl (lv_at hl 0 rfl) ?_
            refine k_get hc hk hw (at_F (by decide : 0 < 2) hi0) rfl iX3 5 (by decide) q117 (v := .int (S 0 (50 + i0) 5)) rfl dX3_matches_56 ?_
            refine lv_aload_n hx hb dX3_matches_59 rfl (lv_at hl 1 rfl) ?_
            refine k_get hc hk hw (at_F (by decide : 1 < 2) hi1) rfl iX3 5 (by decide) q117 (v := .int (S 1 (50 + i1) 5)) rfl dX3_matches_60 ?_
            refine lv_icmp_ne (tgt := 70) hx hb dX3_matches_63 (by decide) (fun h6 => ?_) (fun h6 => ?_)
            · refine lv_iconst (v := 0) hx hb dX3_matches_70 (by decide) ?_
              exact W.zret (v := 0) hx hb hr (by decide +kernel) (fun t9 ht hW => ke_i hw ht (by simp only [f_X3_matches, if_pos h1, if_pos h2, if_pos h3, if_pos h4, if_pos h5, if_neg h6]) rfl) hw.2.2.2 dX3_matches_71
            · refine lv_iconst (v := 1) hx hb dX3_matches_66 (by decide) ?_
              refine lv_goto (tgt := 71) hx hb dX3_matches_67 (by decide) ?_
              exact W.zret (v := 1) hx hb hr (by decide +kernel) (fun t9 ht hW => ke_i hw ht (by simp only [f_X3_matches, if_pos h1, if_pos h2, if_pos h3, if_pos h4, if_pos h5, if_pos h6]) rfl) hw.2.2.2 dX3_matches_71
def f_X1_matchesAsTold (i0 : Nat) (i1 : Nat) (S : Nat → BT) : Int32 :=
  (if S 0 (10 + i0) 3 = S 1 (10 + i1) 3 then (if S 0 (10 + i0) 4 = S 1 (10 + i1) 4 then (if S 0 (10 + i0) 5 = S 1 (10 + i1) 5 then (if S 0 (10 + i0) 6 = S 1 (10 + i1) 6 then (if S 0 (10 + i0) 7 = S 1 (10 + i1) 7 then (if S 0 (10 + i0) 8 = S 1 (10 + i1) 8 then (if S 0 (10 + i0) 9 = S 1 (10 + i1) 9 then (if S 0 (10 + i0) 10 = S 1 (10 + i1) 10 then 1 else 0) else 0) else 0) else 0) else 0) else 0) else 0) else 0)
set_option maxHeartbeats 4000000 in
set_option maxRecDepth 100000 in
theorem m_X1_matchesAsTold (l : Launch) (g : wG) (S : Nat → BT) (y : (Nat → Nat → Int32) × (Nat → Int64) × (Nat → UInt64)) (i0 : Nat) (hi0 : i0 < 20) (i1 : Nat) (hi1 : i1 < 20) : mI l yX1_matchesAsTold cX1_matchesAsTold 2 (some .boolean) ({ frames := 0, cells := 0, slots := 0, locals := 0 } : Room) 0 0 g (S, y) [.ref (gA g (jC 0 i0)), .ref (gA g (jC 1 i1))] (f_X1_matchesAsTold i0 i1 S) (S, y) := by
  refine Met.ofW (cc := cX1_matchesAsTold) (maxL := 2) (ret := some .boolean) (by decide) rfl ?_
  intro p9 e s m args below meth c s₁ BL hml hv
  obtain ⟨rfl, hk, hPB⟩ := hv
  have hx := BL.exec
  have hb := BL.bytes
  have hc : CX p9 c cX1_matchesAsTold s _ m RX1 := ⟨hx, hb, findClass_of_methodNamed BL.named, fun w h => atoms_spec BL.pre w (List.mem_cons_of_mem _ h)⟩
  have hr := BL.returns
  have hlocks := BL.notSynchronized
  have hw : WS g s (S, y) s.heap [] := ⟨hPB, va_S.rf⟩
  have hl := lv_entry ([.ref (gA g (jC 0 i0)), .ref (gA g (jC 1 i1))]) (n := 2) (Nat.le_of_ble_eq_true rfl)
  rw [lg_entry_eq]
  generalize (lg_sl ([.ref (gA g (jC 0 i0)), .ref (gA g (jC 1 i1))]) ++ List.replicate (2 - (lg_sl ([.ref (gA g (jC 0 i0)), .ref (gA g (jC 1 i1))])).length) Slot.unset).toArray = ls at hl ⊢
  have hl : lv_has ls 2 [(0, .ref (gA g (jC 0 i0))), (1, .ref (gA g (jC 1 i1)))] := hl
  refine lv_aload_n hx hb dX1_matchesAsTold_0 rfl (lv_at hl 0 rfl) ?_
  refine k_get hc hk hw (at_C (by decide : 0 < 2) hi0) rfl iX1 3 (by decide) q141 (v := .int (S 0 (10 + i0) 3)) rfl dX1_matchesAsTold_1 ?_
  refine lv_aload_n hx hb dX1_matchesAsTold_4 rfl (lv_at hl 1 rfl) ?_
  refine k_get hc hk hw (at_C (by decide : 1 < 2) hi1) rfl iX1 3 (by decide) q141 (v := .int (S 1 (10 + i1) 3)) rfl dX1_matchesAsTold_5 ?_
  refine lv_icmp_ne (tgt := 92) hx hb dX1_matchesAsTold_8 (by decide) (fun h1 => ?_) (fun h1 => ?_)
  · refine lv_iconst (v := 0) hx hb dX1_matchesAsTold_92 (by decide) ?_
    exact W.zret (v := 0) hx hb hr (by decide +kernel) (fun t9 ht hW => ke_i hw ht (by simp only [f_X1_matchesAsTold, if_neg h1]) rfl) hw.2.2.2 dX1_matchesAsTold_93
  · refine lv_aload_n hx hb dX1_matchesAsTold_11 rfl (lv_at hl 0 rfl) ?_
    refine k_get hc hk hw (at_C (by decide : 0 < 2) hi0) rfl iX1 4 (by decide) q143 (v := .int (S 0 (10 + i0) 4)) rfl dX1_matchesAsTold_12 ?_
    refine lv_aload_n hx hb dX1_matchesAsTold_15 rfl (lv_at hl 1 rfl) ?_
    refine k_get hc hk hw (at_C (by decide : 1 < 2) hi1) rfl iX1 4 (by decide) q143 (v := .int (S 1 (10 + i1) 4)) rfl dX1_matchesAsTold_16 ?_
    refine lv_icmp_ne (tgt := 92) hx hb dX1_matchesAsTold_19 (by decide) (fun h2 => ?_) (fun h2 => ?_)
    · refine lv_iconst (v := 0) hx hb dX1_matchesAsTold_92 (by decide) ?_
      exact W.zret (v := 0) hx hb hr (by decide +kernel) (fun t9 ht hW => ke_i hw ht (by simp only [f_X1_matchesAsTold, if_pos h1, if_neg h2]) rfl) hw.2.2.2 dX1_matchesAsTold_93
    · refine lv_aload_n hx hb dX1_matchesAsTold_22 rfl (lv_at hl 0 rfl) ?_
      refine k_get hc hk hw (at_C (by decide : 0 < 2) hi0) rfl iX1 5 (by decide) q145 (v := .int (S 0 (10 + i0) 5)) rfl dX1_matchesAsTold_23 ?_
      refine lv_aload_n hx hb dX1_matchesAsTold_26 rfl (lv_at hl 1 rfl) ?_
      refine k_get hc hk hw (at_C (by decide : 1 < 2) hi1) rfl iX1 5 (by decide) q145 (v := .int (S 1 (10 + i1) 5)) rfl dX1_matchesAsTold_27 ?_
      refine lv_icmp_ne (tgt := 92) hx hb dX1_matchesAsTold_30 (by decide) (fun h3 => ?_) (fun h3 => ?_)
      · refine lv_iconst (v := 0) hx hb dX1_matchesAsTold_92 (by decide) ?_
        exact W.zret (v := 0) hx hb hr (by decide +kernel) (fun t9 ht hW => ke_i hw ht (by simp only [f_X1_matchesAsTold, if_pos h1, if_pos h2, if_neg h3]) rfl) hw.2.2.2 dX1_matchesAsTold_93
      · refine lv_aload_n hx hb dX1_matchesAsTold_33 rfl (lv_at hl 0 rfl) ?_
        refine k_get hc hk hw (at_C (by decide : 0 < 2) hi0) rfl iX1 6 (by decide) q147 (v := .int (S 0 (10 + i0) 6)) rfl dX1_matchesAsTold_34 ?_
        refine lv_aload_n hx hb dX1_matchesAsTold_37 rfl (lv_at hl 1 rfl) ?_
        refine k_get hc hk hw (at_C (by decide : 1 < 2) hi1) rfl iX1 6 (by decide) q147 (v := .int (S 1 (10 + i1) 6)) rfl dX1_matchesAsTold_38 ?_
        refine lv_icmp_ne (tgt := 92) hx hb dX1_matchesAsTold_41 (by decide) (fun h4 => ?_) (fun h4 => ?_)
        · refine lv_iconst (v := 0) hx hb dX1_matchesAsTold_92 (by decide) ?_
          exact W.zret (v := 0) hx hb hr (by decide +kernel) (fun t9 ht hW => ke_i hw ht (by simp only [f_X1_matchesAsTold, if_pos h1, if_pos h2, if_pos h3, if_neg h4]) rfl) hw.2.2.2 dX1_matchesAsTold_93
        · refine lv_aload_n hx hb dX1_matchesAsTold_44 rfl (lv_at hl 0 rfl) ?_
          refine k_get hc hk hw (at_C (by decide : 0 < 2) hi0) rfl iX1 7 (by decide) q149 (v := .int (S 0 (10 + i0) 7)) rfl dX1_matchesAsTold_45 ?_
          refine lv_aload_n hx hb dX1_matchesAsTold_48 rfl (lv_at hl 1 rfl) ?_
          refine k_get hc hk hw (at_C (by decide : 1 < 2) hi1) rfl iX1 7 (by decide) q149 (v := .int (S 1 (10 + i1) 7)) rfl dX1_matchesAsTold_49 ?_
          refine lv_icmp_ne (tgt := 92) hx hb dX1_matchesAsTold_52 (by decide) (fun h5 => ?_) (fun h5 => ?_)
          · refine lv_iconst (v := 0) hx hb dX1_matchesAsTold_92 (by decide) ?_
            exact W.zret (v := 0) hx hb hr (by decide +kernel) (fun t9 ht hW => ke_i hw ht (by simp only [f_X1_matchesAsTold, if_pos h1, if_pos h2, if_pos h3, if_pos h4, if_neg h5]) rfl) hw.2.2.2 dX1_matchesAsTold_93
          · refine lv_aload_n hx hb dX1_matchesAsTold_55 rfl (lv_at hl 0 rfl) ?_
            refine k_get hc hk hw (at_C (by decide : 0 < 2) hi0) rfl iX1 8 (by decide) q151 (v := .int (S 0 (10 + i0) 8)) rfl dX1_matchesAsTold_56 ?_
            refine lv_aload_n hx hb dX1_matchesAsTold_59 rfl (lv_at hl 1 rfl) ?_
            refine k_get hc hk hw (at_C (by decide : 1 < 2) hi1) rfl iX1 8 (by decide) q151 (v := .int (S 1 (10 + i1) 8)) rfl dX1_matchesAsTold_60 ?_
            refine lv_icmp_ne (tgt := 92) hx hb dX1_matchesAsTold_63 (by decide) (fun h6 => ?_) (fun h6 => ?_)
            · refine lv_iconst (v := 0) hx hb dX1_matchesAsTold_92 (by decide) ?_
              exact W.zret (v := 0) hx hb hr (by decide +kernel) (fun t9 ht hW => ke_i hw ht (by simp only [f_X1_matchesAsTold, if_pos h1, if_pos h2, if_pos h3, if_pos h4, if_pos h5, if_neg h6]) rfl) hw.2.2.2 dX1_matchesAsTold_93
            · refine lv_aload_n hx hb dX1_matchesAsTold_66 rfl (lv_at hl 0 rfl) ?_
              refine k_get hc hk hw (at_C (by decide : 0 < 2) hi0) rfl iX1 9 (by decide) q153 (v := .int (S 0 (10 + i0) 9)) rfl dX1_matchesAsTold_67 ?_
              refine lv_aload_n hx hb dX1_matchesAsTold_70 rfl (lv_at hl 1 rfl) ?_
              refine k_get hc hk hw (at_C (by decide : 1 < 2) hi1) rfl iX1 9 (by decide) q153 (v := .int (S 1 (10 + i1) 9)) rfl dX1_matchesAsTold_71 ?_
              refine lv_icmp_ne (tgt := 92) hx hb dX1_matchesAsTold_74 (by decide) (fun h7 => ?_) (fun h7 => ?_)
              · refine lv_iconst (v := 0) hx hb dX1_matchesAsTold_92 (by decide) ?_
                exact W.zret (v := 0) hx hb hr (by decide +kernel) (fun t9 ht hW => ke_i hw ht (by simp only [f_X1_matchesAsTold, if_pos h1, if_pos h2, if_pos h3, if_pos h4, if_pos h5, if_pos h6, if_neg h7]) rfl) hw.2.2.2 dX1_matchesAsTold_93
              · refine lv_aload_n hx hb dX1_matchesAsTold_77 rfl (lv_at hl 0 rfl) ?_
                refine k_get hc hk hw (at_C (by decide : 0 < 2) hi0) rfl iX1 10 (by decide) q155 (v := .int (S 0 (10 + i0) 10)) rfl dX1_matchesAsTold_78 ?_
                refine lv_aload_n hx hb dX1_matchesAsTold_81 rfl (lv_at hl 1 rfl) ?_
                refine k_get hc hk hw (at_C (by decide : 1 < 2) hi1) rfl iX1 10 (by decide) q155 (v := .int (S 1 (10 + i1) 10)) rfl dX1_matchesAsTold_82 ?_
                refine lv_icmp_ne (tgt := 92) hx hb dX1_matchesAsTold_85 (by decide) (fun h8 => ?_) (fun h8 => ?_)
                · refine lv_iconst (v := 0) hx hb dX1_matchesAsTold_92 (by decide) ?_
                  exact W.zret (v := 0) hx hb hr (by decide +kernel) (fun t9 ht hW => ke_i hw ht (by simp only [f_X1_matchesAsTold, if_pos h1, if_pos h2, if_pos h3, if_pos h4, if_pos h5, if_pos h6, if_pos h7, if_neg h8]) rfl) hw.2.2.2 dX1_matchesAsTold_93
                · refine lv_iconst (v := 1) hx hb dX1_matchesAsTold_88 (by decide) ?_
                  refine lv_goto (tgt := 93) hx hb dX1_matchesAsTold_89 (by decide) ?_
                  exact W.zret (v := 1) hx hb hr (by decide +kernel) (fun t9 ht hW => ke_i hw ht (by simp only [f_X1_matchesAsTold, if_pos h1, if_pos h2, if_pos h3, if_pos h4, if_pos h5, if_pos h6, if_pos h7, if_pos h8]) rfl) hw.2.2.2 dX1_matchesAsTold_93
def f_X1_matches (i0 : Nat) (i1 : Nat) (S : Nat → BT) : Int32 :=
  (if f_X1_matchesAsTold i0 i1 S = 0 then 0 else (if S 0 (10 + i0) 11 = S 1 (10 + i1) 11 then (if S 0 (10 + i0) 12 = S 1 (10 + i1) 12 then (if S 0 (10 + i0) 13 = S 1 (10 + i1) 13 then (if S 0 (10 + i0) 14 = S 1 (10 + i1) 14 then (if S 0 (10 + i0) 15 = S 1 (10 + i1) 15 then (if f_X4_matches i0 i1 S = 0 then 0 else (if f_X3_matches i0 i1 S = 0 then 0 else 1)) else 0) else 0) else 0) else 0) else 0))
set_option maxHeartbeats 4000000 in
set_option maxRecDepth 100000 in
theorem m_X1_matches (l : Launch) (g : wG) (S : Nat → BT) (y : (Nat → Nat → Int32) × (Nat → Int64) × (Nat → UInt64)) (i0 : Nat) (hi0 : i0 < 20) (i1 : Nat) (hi1 : i1 < 20) : mI l yX1_matches cX1_matches 2 (some .boolean) ({ frames := 1, cells := 0, slots := 0, locals := 21 } : Room) 0 0 g (S, y) [.ref (gA g (jC 0 i0)), .ref (gA g (jC 1 i1))] (f_X1_matches i0 i1 S) (S, y) := by
  refine Met.ofW (cc := cX1_matches) (maxL := 2) (ret := some .boolean) (by decide) rfl ?_
  intro p9 e s m args below meth c s₁ BL hml hv
  obtain ⟨rfl, hk, hPB⟩ := hv
  have hx := BL.exec
  have hb := BL.bytes
  have hc : CX p9 c cX1_matches s _ m RX1 := ⟨hx, hb, findClass_of_methodNamed BL.named, fun w h => atoms_spec BL.pre w (List.mem_cons_of_mem _ h)⟩
  have hr := BL.returns
  have hlocks := BL.notSynchronized
  have hw : WS g s (S, y) s.heap [] := ⟨hPB, va_S.rf⟩
  have hl := lv_entry ([.ref (gA g (jC 0 i0)), .ref (gA g (jC 1 i1))]) (n := 2) (Nat.le_of_ble_eq_true rfl)
  rw [lg_entry_eq]
  generalize (lg_sl ([.ref (gA g (jC 0 i0)), .ref (gA g (jC 1 i1))]) ++ List.replicate (2 - (lg_sl ([.ref (gA g (jC 0 i0)), .ref (gA g (jC 1 i1))])).length) Slot.unset).toArray = ls at hl ⊢
  have hl : lv_has ls 2 [(0, .ref (gA g (jC 0 i0))), (1, .ref (gA g (jC 1 i1)))] := hl
  refine lv_aload_n hx hb dX1_matches_0 rfl (lv_at hl 0 rfl) ?_
  refine lv_aload_n hx hb dX1_matches_1 rfl (lv_at hl 1 rfl) ?_
  refine kc_i hw (va_runV (As := [.ref (gA g (jC 1 i1))]) (rest := []) ⟨hx, hb, hml, hc.2.2.1, hc.2.2.2⟩ (m_X1_matchesAsTold l g S y i0 hi0 i1 hi1) (kw_V hc 1 q509 q511 qs37 q4 q512 rfl rfl (by decide +kernel) ⟨Nat.le_of_ble_eq_true rfl, Nat.le_of_ble_eq_true rfl⟩) (kp_V hk hw (at_C (by decide : 0 < 2) hi0) rfl) rfl rfl hl.1 rfl (lv_room (Nat.le_of_ble_eq_true rfl)) dX1_matches_2 ⟨Nat.le_of_ble_eq_true rfl, Nat.le_of_ble_eq_true rfl⟩) (fun H locs hw => ?_)
  refine lv_if_eq (tgt := 95) hx hb dX1_matches_5 (by decide) (fun h1 => ?_) (fun h1 => ?_)
  · refine lv_iconst (v := 0) hx hb dX1_matches_95 (by decide) ?_
    exact W.zret (v := 0) hx hb hr (by decide +kernel) (fun t9 ht hW => ke_i hw ht (by simp only [f_X1_matches, if_pos h1]) rfl) hw.2.2.2 dX1_matches_96
  · refine lv_aload_n hx hb dX1_matches_8 rfl (lv_at hl 0 rfl) ?_
    refine k_get hc hk hw (at_C (by decide : 0 < 2) hi0) rfl iX1 11 (by decide) q158 (v := .int (S 0 (10 + i0) 11)) rfl dX1_matches_9 ?_
    refine lv_aload_n hx hb dX1_matches_12 rfl (lv_at hl 1 rfl) ?_
    refine k_get hc hk hw (at_C (by decide : 1 < 2) hi1) rfl iX1 11 (by decide) q158 (v := .int (S 1 (10 + i1) 11)) rfl dX1_matches_13 ?_
    refine lv_icmp_ne (tgt := 95) hx hb dX1_matches_16 (by decide) (fun h2 => ?_) (fun h2 => ?_)
    · refine lv_iconst (v := 0) hx hb dX1_matches_95 (by decide) ?_
      exact W.zret (v := 0) hx hb hr (by decide +kernel) (fun t9 ht hW => ke_i hw ht (by simp only [f_X1_matches, if_neg h1, if_neg h2]) rfl) hw.2.2.2 dX1_matches_96
    · refine lv_aload_n hx hb dX1_matches_19 rfl (lv_at hl 0 rfl) ?_
      refine k_get hc hk hw (at_C (by decide : 0 < 2) hi0) rfl iX1 12 (by decide) q161 (v := .int (S 0 (10 + i0) 12)) rfl dX1_matches_20 ?_
      refine lv_aload_n hx hb dX1_matches_23 rfl (lv_at hl 1 rfl) ?_
      refine k_get hc hk hw (at_C (by decide : 1 < 2) hi1) rfl iX1 12 (by decide) q161 (v := .int (S 1 (10 + i1) 12)) rfl dX1_matches_24 ?_
      refine lv_icmp_ne (tgt := 95) hx hb dX1_matches_27 (by decide) (fun h3 => ?_) (fun h3 => ?_)
      · refine lv_iconst (v := 0) hx hb dX1_matches_95 (by decide) ?_
        exact W.zret (v := 0) hx hb hr (by decide +kernel) (fun t9 ht hW => ke_i hw ht (by simp only [f_X1_matches, if_neg h1, if_pos h2, if_neg h3]) rfl) hw.2.2.2 dX1_matches_96
      · refine lv_aload_n hx hb dX1_matches_30 rfl (lv_at hl 0 rfl) ?_
        refine k_get hc hk hw (at_C (by decide : 0 < 2) hi0) rfl iX1 13 (by decide) q164 (v := .int (S 0 (10 + i0) 13)) rfl dX1_matches_31 ?_
        refine lv_aload_n hx hb dX1_matches_34 rfl (lv_at hl 1 rfl) ?_
        refine k_get hc hk hw (at_C (by decide : 1 < 2) hi1) rfl iX1 13 (by decide) q164 (v := .int (S 1 (10 + i1) 13)) rfl dX1_matches_35 ?_
        refine lv_icmp_ne (tgt := 95) hx hb dX1_matches_38 (by decide) (fun h4 => ?_) (fun h4 => ?_)
        · refine lv_iconst (v := 0) hx hb dX1_matches_95 (by decide) ?_
          exact W.zret (v := 0) hx hb hr (by decide +kernel) (fun t9 ht hW => ke_i hw ht (by simp only [f_X1_matches, if_neg h1, if_pos h2, if_pos h3, if_neg h4]) rfl) hw.2.2.2 dX1_matches_96
        · refine lv_aload_n hx hb dX1_matches_41 rfl (lv_at hl 0 rfl) ?_
          refine k_get hc hk hw (at_C (by decide : 0 < 2) hi0) rfl iX1 14 (by decide) q166 (v := .int (S 0 (10 + i0) 14)) rfl dX1_matches_42 ?_
          refine lv_aload_n hx hb dX1_matches_45 rfl (lv_at hl 1 rfl) ?_
          refine k_get hc hk hw (at_C (by decide : 1 < 2) hi1) rfl iX1 14 (by decide) q166 (v := .int (S 1 (10 + i1) 14)) rfl dX1_matches_46 ?_
          refine lv_icmp_ne (tgt := 95) hx hb dX1_matches_49 (by decide) (fun h5 => ?_) (fun h5 => ?_)
          · refine lv_iconst (v := 0) hx hb dX1_matches_95 (by decide) ?_
            exact W.zret (v := 0) hx hb hr (by decide +kernel) (fun t9 ht hW => ke_i hw ht (by simp only [f_X1_matches, if_neg h1, if_pos h2, if_pos h3, if_pos h4, if_neg h5]) rfl) hw.2.2.2 dX1_matches_96
          · refine lv_aload_n hx hb dX1_matches_52 rfl (lv_at hl 0 rfl) ?_
            refine k_get hc hk hw (at_C (by decide : 0 < 2) hi0) rfl iX1 15 (by decide) q167 (v := .int (S 0 (10 + i0) 15)) rfl dX1_matches_53 ?_
            refine lv_aload_n hx hb dX1_matches_56 rfl (lv_at hl 1 rfl) ?_
            refine k_get hc hk hw (at_C (by decide : 1 < 2) hi1) rfl iX1 15 (by decide) q167 (v := .int (S 1 (10 + i1) 15)) rfl dX1_matches_57 ?_
            refine lv_icmp_ne (tgt := 95) hx hb dX1_matches_60 (by decide) (fun h6 => ?_) (fun h6 => ?_)
            · refine lv_iconst (v := 0) hx hb dX1_matches_95 (by decide) ?_
              exact W.zret (v := 0) hx hb hr (by decide +kernel) (fun t9 ht hW => ke_i hw ht (by simp only [f_X1_matches, if_neg h1, if_pos h2, if_pos h3, if_pos h4, if_pos h5, if_neg h6]) rfl) hw.2.2.2 dX1_matches_96
            · refine lv_aload_n hx hb dX1_matches_63 rfl (lv_at hl 0 rfl) ?_
              refine k_get hc hk hw (at_C (by decide : 0 < 2) hi0) rfl iX1 1 (by decide) q135 (v := .ref (gA g (jI 0 i0))) rfl dX1_matches_64 ?_
              refine lv_aload_n hx hb dX1_matches_67 rfl (lv_at hl 1 rfl) ?_
              refine k_get hc hk hw (at_C (by decide : 1 < 2) hi1) rfl iX1 1 (by decide) q135 (v := .ref (gA g (jI 1 i1))) rfl dX1_matches_68 ?_
              refine kc_i hw (va_runVN (As := [.ref (gA g (jI 1 i1))]) (rest := []) ⟨hx, hb, hml, hc.2.2.1, hc.2.2.2⟩ (m_X4_matches l g S y i0 hi0 i1 hi1) ⟨kw_N hc hk 1 nq513 q5 q516 rfl rfl (by decide +kernel) ⟨Nat.le_of_ble_eq_true rfl, Nat.le_of_ble_eq_true rfl⟩, hc.2.2.2 _ q515, hc.2.2.2 _ qs38⟩ (kp_V hk hw (at_I (by decide : 0 < 2) hi0) rfl) rfl rfl hl.1 rfl (lv_room (Nat.le_of_ble_eq_true rfl)) dX1_matches_71 ⟨Nat.le_of_ble_eq_true rfl, Nat.le_of_ble_eq_true rfl⟩) (fun H locs hw => ?_)
              refine lv_if_eq (tgt := 95) hx hb dX1_matches_74 (by decide) (fun h7 => ?_) (fun h7 => ?_)
              · refine lv_iconst (v := 0) hx hb dX1_matches_95 (by decide) ?_
                exact W.zret (v := 0) hx hb hr (by decide +kernel) (fun t9 ht hW => ke_i hw ht (by simp only [f_X1_matches, if_neg h1, if_pos h2, if_pos h3, if_pos h4, if_pos h5, if_pos h6, if_pos h7]) rfl) hw.2.2.2 dX1_matches_96
              · refine lv_aload_n hx hb dX1_matches_77 rfl (lv_at hl 0 rfl) ?_
                refine k_get hc hk hw (at_C (by decide : 0 < 2) hi0) rfl iX1 2 (by decide) q138 (v := .ref (gA g (jF 0 i0))) rfl dX1_matches_78 ?_
                refine lv_aload_n hx hb dX1_matches_81 rfl (lv_at hl 1 rfl) ?_
                refine k_get hc hk hw (at_C (by decide : 1 < 2) hi1) rfl iX1 2 (by decide) q138 (v := .ref (gA g (jF 1 i1))) rfl dX1_matches_82 ?_
                refine kc_i hw (va_runVN (As := [.ref (gA g (jF 1 i1))]) (rest := []) ⟨hx, hb, hml, hc.2.2.1, hc.2.2.2⟩ (m_X3_matches l g S y i0 hi0 i1 hi1) ⟨kw_N hc hk 1 nq517 q6 q520 rfl rfl (by decide +kernel) ⟨Nat.le_of_ble_eq_true rfl, Nat.le_of_ble_eq_true rfl⟩, hc.2.2.2 _ q519, hc.2.2.2 _ qs39⟩ (kp_V hk hw (at_F (by decide : 0 < 2) hi0) rfl) rfl rfl hl.1 rfl (lv_room (Nat.le_of_ble_eq_true rfl)) dX1_matches_85 ⟨Nat.le_of_ble_eq_true rfl, Nat.le_of_ble_eq_true rfl⟩) (fun H locs hw => ?_)
                refine lv_if_eq (tgt := 95) hx hb dX1_matches_88 (by decide) (fun h8 => ?_) (fun h8 => ?_)
                · refine lv_iconst (v := 0) hx hb dX1_matches_95 (by decide) ?_
                  exact W.zret (v := 0) hx hb hr (by decide +kernel) (fun t9 ht hW => ke_i hw ht (by simp only [f_X1_matches, if_neg h1, if_pos h2, if_pos h3, if_pos h4, if_pos h5, if_pos h6, if_neg h7, if_pos h8]) rfl) hw.2.2.2 dX1_matches_96
                · refine lv_iconst (v := 1) hx hb dX1_matches_91 (by decide) ?_
                  refine lv_goto (tgt := 96) hx hb dX1_matches_92 (by decide) ?_
                  exact W.zret (v := 1) hx hb hr (by decide +kernel) (fun t9 ht hW => ke_i hw ht (by simp only [f_X1_matches, if_neg h1, if_pos h2, if_pos h3, if_pos h4, if_pos h5, if_pos h6, if_neg h7, if_neg h8]) rfl) hw.2.2.2 dX1_matches_96
def b_X0_matchesInWeights (S : Nat → BT) (k : Nat) : Int32 :=
  (if S 0 3 k = S 1 3 k then 1 else 0)
def f_X0_matchesInWeights  (S : Nat → BT) : Int32 :=
  (if ∀ j : Nat, j < (5 : Nat) → b_X0_matchesInWeights S j = 1 then 1 else 0)
set_option maxHeartbeats 4000000 in
set_option maxRecDepth 100000 in
theorem m_X0_matchesInWeights (l : Launch) (g : wG) (S : Nat → BT) (y : (Nat → Nat → Int32) × (Nat → Int64) × (Nat → UInt64)) : mI l yX0_matchesInWeights cX0_matchesInWeights 3 (some .boolean) ({ frames := 0, cells := 0, slots := 0, locals := 0 } : Room) 0 0 g (S, y) [.ref (gA g (jB 0)), .ref (gA g (jB 1))] (f_X0_matchesInWeights S) (S, y) := by
  refine Met.ofW (cc := cX0_matchesInWeights) (maxL := 3) (ret := some .boolean) (by decide) rfl ?_
  intro p9 e s m args below meth c s₁ BL hml hv
  obtain ⟨rfl, hk, hPB⟩ := hv
  have hx := BL.exec
  have hb := BL.bytes
  have hc : CX p9 c cX0_matchesInWeights s _ m RX0 := ⟨hx, hb, findClass_of_methodNamed BL.named, fun w h => atoms_spec BL.pre w (List.mem_cons_of_mem _ h)⟩
  have hr := BL.returns
  have hlocks := BL.notSynchronized
  have hw : WS g s (S, y) s.heap [] := ⟨hPB, va_S.rf⟩
  have hl := lv_entry ([.ref (gA g (jB 0)), .ref (gA g (jB 1))]) (n := 3) (Nat.le_of_ble_eq_true rfl)
  rw [lg_entry_eq]
  generalize (lg_sl ([.ref (gA g (jB 0)), .ref (gA g (jB 1))]) ++ List.replicate (3 - (lg_sl ([.ref (gA g (jB 0)), .ref (gA g (jB 1))])).length) Slot.unset).toArray = ls at hl ⊢
  have hl : lv_has ls 3 [(0, .ref (gA g (jB 0))), (1, .ref (gA g (jB 1)))] := hl
  refine lv_iconst (v := 0) hx hb dX0_matchesInWeights_0 (by decide) ?_
  refine lv_istore_n (lv' := [(2, .int 0), (0, .ref (gA g (jB 0))), (1, .ref (gA g (jB 1)))]) hx hb dX0_matchesInWeights_1 rfl hl (by decide) rfl (fun ls hl => ?_)
  have LP1 : ∀ (f k : Nat), k ≤ 5 → 5 + 1 ≤ k + f → (∀ j, j < k → b_X0_matchesInWeights S j = 1) → ∀ (H : Heap) (locs : List Loc), WS g s (S, y) H locs → ∀ (ls : Array Slot), lv_has ls 3 [(2, .int (nI k)), (0, .ref (gA g (jB 0))), (1, .ref (gA g (jB 1)))] → W p9 l e ({ frames := 0, cells := 0, slots := 0, locals := 0 } : Room) s m ([.ref (gA g (jB 0)), .ref (gA g (jB 1))] : List Value).toArray below meth c H locs 0 0 (MQ below (va_Qi (fun (v : Int32) (u : wSt) => v = f_X0_matchesInWeights S ∧ u = (S, y)) (PB g) (AA g)) (([.ref (gA g (jB 0)), .ref (gA g (jB 1))] : List Value).toArray) s 0 0 (AA g)) (F0 m 2 ls []) := by
    intro f
    induction f with
    | zero => intro k h1 h2; exact absurd h2 (by omega)
    | succ f ih =>
      intro k hk9 hf9 hall H locs hw ls hl
      refine lv_iload_n hx hb dX0_matchesInWeights_2 rfl (lv_at hl 0 rfl) ?_
      refine lv_iconst (v := 5) hx hb dX0_matchesInWeights_3 (by decide) ?_
      refine lv_icmp_ge (tgt := 30) hx hb dX0_matchesInWeights_4 (by decide) (fun h2 => ?_) (fun h2 => ?_)
      · have hkn := lp_out (m := 5) h2 rfl hk9 (by decide)
        subst hkn
        refine lv_iconst (v := 1) hx hb dX0_matchesInWeights_30 (by decide) ?_
        exact W.zret (v := 1) hx hb hr (by decide +kernel) (fun t9 ht hW => ke_i hw ht (by simp only [f_X0_matchesInWeights, if_pos hall]) rfl) hw.2.2.2 dX0_matchesInWeights_31
      · have hkn := lp_in (m := 5) h2 rfl hk9 (by decide)
        refine lv_aload_n hx hb dX0_matchesInWeights_7 rfl (lv_at hl 1 rfl) ?_
        refine k_get hc hk hw (at_B (by decide : 0 < 2)) rfl iX0 2 (by decide) q205 (v := .ref (gA g (jW 0))) rfl dX0_matchesInWeights_8 ?_
        refine lv_iload_n hx hb dX0_matchesInWeights_11 rfl (lv_at hl 0 rfl) ?_
        refine k_iald (f := S 0 3) (n := k) hc hk hw (at_W (by decide : 0 < 2)) (vp_in_nI (Nat.lt_of_lt_of_le hkn (by omega)) (by omega)) (nI_clamp (by have := hkn; omega)) dX0_matchesInWeights_12 ?_
        refine lv_aload_n hx hb dX0_matchesInWeights_13 rfl (lv_at hl 2 rfl) ?_
        refine k_get hc hk hw (at_B (by decide : 1 < 2)) rfl iX0 2 (by decide) q205 (v := .ref (gA g (jW 1))) rfl dX0_matchesInWeights_14 ?_
        refine lv_iload_n hx hb dX0_matchesInWeights_17 rfl (lv_at hl 0 rfl) ?_
        refine k_iald (f := S 1 3) (n := k) hc hk hw (at_W (by decide : 1 < 2)) (vp_in_nI (Nat.lt_of_lt_of_le hkn (by omega)) (by omega)) (nI_clamp (by have := hkn; omega)) dX0_matchesInWeights_18 ?_
        refine lv_icmp_eq (tgt := 24) hx hb dX0_matchesInWeights_19 (by decide) (fun h3 => ?_) (fun h3 => ?_)
        · refine lv_iinc (v := nI (k + 1)) (lv' := [(2, .int (nI (k + 1))), (0, .ref (gA g (jB 0))), (1, .ref (gA g (jB 1)))]) hx hb dX0_matchesInWeights_24 hl (k := 0) rfl (by first | exact (nI_succ _).symm | rfl) (by decide) rfl (fun ls hl => ?_)
          refine lv_goto (tgt := 2) hx hb dX0_matchesInWeights_27 (by decide) ?_
          have hl9 := lv_sub hl [0, 1, 2] rfl
          exact ih (k + 1) (by omega) (by omega) (lt_s hall (by simp only [b_X0_matchesInWeights, if_pos h3])) _ _ hw _ hl9
        · refine lv_iconst (v := 0) hx hb dX0_matchesInWeights_22 (by decide) ?_
          exact W.zret (v := 0) hx hb hr (by decide +kernel) (fun t9 ht hW => ke_i hw ht (by simp only [f_X0_matchesInWeights]; rw [if_neg (fun h => absurd (show (1 : Int32) = 0 from (h k hkn).symm.trans (by simp only [b_X0_matchesInWeights, if_neg h3])) (by decide))]) rfl) hw.2.2.2 dX0_matchesInWeights_23
  exact LP1 (5 + 1) 0 (Nat.zero_le _) (by omega) (fun j h => absurd h (Nat.not_lt_zero j)) _ _ hw _ (lv_sub hl [0, 1, 2] rfl)
def b_X0_matchesInOffices (S : Nat → BT) (k : Nat) : Int32 :=
  (if f_X5_matches k k S = 0 then 0 else 1)
def f_X0_matchesInOffices  (S : Nat → BT) : Int32 :=
  (if S 0 0 3 = S 1 0 3 then (if ∀ j : Nat, j < (S 0 0 3).toNatClampNeg → b_X0_matchesInOffices S j = 1 then 1 else 0) else 0)
set_option maxHeartbeats 4000000 in
set_option maxRecDepth 100000 in
theorem m_X0_matchesInOffices (l : Launch) (g : wG) (S : Nat → BT) (y : (Nat → Nat → Int32) × (Nat → Int64) × (Nat → UInt64)) (n m9 : Nat) (hN0 : CN (S 0) n m9) : mI l yX0_matchesInOffices cX0_matchesInOffices 3 (some .boolean) ({ frames := 1, cells := 0, slots := 0, locals := 21 } : Room) 0 0 g (S, y) [.ref (gA g (jB 0)), .ref (gA g (jB 1))] (f_X0_matchesInOffices S) (S, y) := by
  refine Met.ofW (cc := cX0_matchesInOffices) (maxL := 3) (ret := some .boolean) (by decide) rfl ?_
  intro p9 e s m args below meth c s₁ BL hml hv
  obtain ⟨rfl, hk, hPB⟩ := hv
  have hx := BL.exec
  have hb := BL.bytes
  have hc : CX p9 c cX0_matchesInOffices s _ m RX0 := ⟨hx, hb, findClass_of_methodNamed BL.named, fun w h => atoms_spec BL.pre w (List.mem_cons_of_mem _ h)⟩
  have hr := BL.returns
  have hlocks := BL.notSynchronized
  have hw : WS g s (S, y) s.heap [] := ⟨hPB, va_S.rf⟩
  have hl := lv_entry ([.ref (gA g (jB 0)), .ref (gA g (jB 1))]) (n := 3) (Nat.le_of_ble_eq_true rfl)
  rw [lg_entry_eq]
  generalize (lg_sl ([.ref (gA g (jB 0)), .ref (gA g (jB 1))]) ++ List.replicate (3 - (lg_sl ([.ref (gA g (jB 0)), .ref (gA g (jB 1))])).length) Slot.unset).toArray = ls at hl ⊢
  have hl : lv_has ls 3 [(0, .ref (gA g (jB 0))), (1, .ref (gA g (jB 1)))] := hl
  refine lv_aload_n hx hb dX0_matchesInOffices_0 rfl (lv_at hl 0 rfl) ?_
  refine k_get hc hk hw (at_B (by decide : 0 < 2)) rfl iX0 3 (by decide) q206 (v := .int (S 0 0 3)) rfl dX0_matchesInOffices_1 ?_
  refine lv_aload_n hx hb dX0_matchesInOffices_4 rfl (lv_at hl 1 rfl) ?_
  refine k_get hc hk hw (at_B (by decide : 1 < 2)) rfl iX0 3 (by decide) q206 (v := .int (S 1 0 3)) rfl dX0_matchesInOffices_5 ?_
  refine lv_icmp_eq (tgt := 13) hx hb dX0_matchesInOffices_8 (by decide) (fun h1 => ?_) (fun h1 => ?_)
  · refine lv_iconst (v := 0) hx hb dX0_matchesInOffices_13 (by decide) ?_
    refine lv_istore_n (lv' := [(2, .int 0), (0, .ref (gA g (jB 0))), (1, .ref (gA g (jB 1)))]) hx hb dX0_matchesInOffices_14 rfl hl (by decide) rfl (fun ls hl => ?_)
    have LP2 : ∀ (f k : Nat), k ≤ (S 0 0 3).toNatClampNeg → (S 0 0 3).toNatClampNeg + 1 ≤ k + f → (∀ j, j < k → b_X0_matchesInOffices S j = 1) → ∀ (H : Heap) (locs : List Loc), WS g s (S, y) H locs → ∀ (ls : Array Slot), lv_has ls 3 [(2, .int (nI k)), (0, .ref (gA g (jB 0))), (1, .ref (gA g (jB 1)))] → W p9 l e ({ frames := 1, cells := 0, slots := 0, locals := 21 } : Room) s m ([.ref (gA g (jB 0)), .ref (gA g (jB 1))] : List Value).toArray below meth c H locs 0 0 (MQ below (va_Qi (fun (v : Int32) (u : wSt) => v = f_X0_matchesInOffices S ∧ u = (S, y)) (PB g) (AA g)) (([.ref (gA g (jB 0)), .ref (gA g (jB 1))] : List Value).toArray) s 0 0 (AA g)) (F0 m 15 ls []) := by
      intro f
      induction f with
      | zero => intro k h1 h2; exact absurd h2 (by omega)
      | succ f ih =>
        intro k hk9 hf9 hall H locs hw ls hl
        have hl4 := CN.l3 hN0
        refine lv_iload_n hx hb dX0_matchesInOffices_15 rfl (lv_at hl 0 rfl) ?_
        refine lv_aload_n hx hb dX0_matchesInOffices_16 rfl (lv_at hl 1 rfl) ?_
        refine k_get hc hk hw (at_B (by decide : 0 < 2)) rfl iX0 3 (by decide) q206 (v := .int (S 0 0 3)) rfl dX0_matchesInOffices_17 ?_
        refine lv_icmp_ge (tgt := 49) hx hb dX0_matchesInOffices_20 (by decide) (fun h3 => ?_) (fun h3 => ?_)
        · have hkn := lp_out h3 (CN.co hN0 hN0) hk9 (by omega)
          subst hkn
          refine lv_iconst (v := 1) hx hb dX0_matchesInOffices_49 (by decide) ?_
          exact W.zret (v := 1) hx hb hr (by decide +kernel) (fun t9 ht hW => ke_i hw ht (by simp only [f_X0_matchesInOffices, if_pos h1, if_pos hall]) rfl) hw.2.2.2 dX0_matchesInOffices_50
        · have hkn := lp_in h3 (CN.co hN0 hN0) hk9 (by omega)
          refine lv_aload_n hx hb dX0_matchesInOffices_23 rfl (lv_at hl 1 rfl) ?_
          refine k_get hc hk hw (at_B (by decide : 0 < 2)) rfl iX0 0 (by decide) q201 (v := .ref (gA g (jOs 0))) rfl dX0_matchesInOffices_24 ?_
          refine lv_iload_n hx hb dX0_matchesInOffices_27 rfl (lv_at hl 0 rfl) ?_
          refine k_ald (t0 := 6) (f := fun k => gA g (jO 0 k)) (n := k) hc hk hw rfl (at_Os (by decide : 0 < 2)) (vp_in_nI (Nat.lt_of_lt_of_le hkn (by omega)) (by omega)) (nI_clamp (by have := hkn; omega)) dX0_matchesInOffices_28 ?_
          refine lv_aload_n hx hb dX0_matchesInOffices_29 rfl (lv_at hl 2 rfl) ?_
          refine k_get hc hk hw (at_B (by decide : 1 < 2)) rfl iX0 0 (by decide) q201 (v := .ref (gA g (jOs 1))) rfl dX0_matchesInOffices_30 ?_
          refine lv_iload_n hx hb dX0_matchesInOffices_33 rfl (lv_at hl 0 rfl) ?_
          refine k_ald (t0 := 6) (f := fun k => gA g (jO 1 k)) (n := k) hc hk hw rfl (at_Os (by decide : 1 < 2)) (vp_in_nI (Nat.lt_of_lt_of_le hkn (by omega)) (by omega)) (nI_clamp (by have := hkn; omega)) dX0_matchesInOffices_34 ?_
          refine kc_i hw (va_runVN (As := [.ref (gA g (jO 1 k))]) (rest := []) ⟨hx, hb, hml, hc.2.2.1, hc.2.2.2⟩ (m_X5_matches l g S y k (Nat.lt_of_lt_of_le hkn (by omega)) k (Nat.lt_of_lt_of_le hkn (by omega))) ⟨kw_N hc hk 1 nq497 q3 q500 rfl rfl (by decide +kernel) ⟨Nat.le_of_ble_eq_true rfl, Nat.le_of_ble_eq_true rfl⟩, hc.2.2.2 _ q499, hc.2.2.2 _ qs34⟩ (kp_V hk hw (at_O (by decide : 0 < 2) (Nat.lt_of_lt_of_le hkn (by omega))) rfl) rfl rfl hl.1 rfl (lv_room (Nat.le_of_ble_eq_true rfl)) dX0_matchesInOffices_35 ⟨Nat.le_of_ble_eq_true rfl, Nat.le_of_ble_eq_true rfl⟩) (fun H locs hw => ?_)
          refine lv_if_ne (tgt := 43) hx hb dX0_matchesInOffices_38 (by decide) (fun h4 => ?_) (fun h4 => ?_)
          · refine lv_iinc (v := nI (k + 1)) (lv' := [(2, .int (nI (k + 1))), (0, .ref (gA g (jB 0))), (1, .ref (gA g (jB 1)))]) hx hb dX0_matchesInOffices_43 hl (k := 0) rfl (by first | exact (nI_succ _).symm | rfl) (by decide) rfl (fun ls hl => ?_)
            refine lv_goto (tgt := 15) hx hb dX0_matchesInOffices_46 (by decide) ?_
            have hl9 := lv_sub hl [0, 1, 2] rfl
            exact ih (k + 1) (by omega) (by omega) (lt_s hall (by simp only [b_X0_matchesInOffices, if_neg h4])) _ _ hw _ hl9
          · refine lv_iconst (v := 0) hx hb dX0_matchesInOffices_41 (by decide) ?_
            exact W.zret (v := 0) hx hb hr (by decide +kernel) (fun t9 ht hW => ke_i hw ht (by simp only [f_X0_matchesInOffices, if_pos h1]; rw [if_neg (fun h => absurd (show (1 : Int32) = 0 from (h k hkn).symm.trans (by simp only [b_X0_matchesInOffices, if_pos h4])) (by decide))]) rfl) hw.2.2.2 dX0_matchesInOffices_42
    exact LP2 ((S 0 0 3).toNatClampNeg + 1) 0 (Nat.zero_le _) (by omega) (fun j h => absurd h (Nat.not_lt_zero j)) _ _ hw _ (lv_sub hl [0, 1, 2] rfl)
  · refine lv_iconst (v := 0) hx hb dX0_matchesInOffices_11 (by decide) ?_
    exact W.zret (v := 0) hx hb hr (by decide +kernel) (fun t9 ht hW => ke_i hw ht (by simp only [f_X0_matchesInOffices, if_neg h1]) rfl) hw.2.2.2 dX0_matchesInOffices_12
def b_X0_matchesInComplaints (S : Nat → BT) (k : Nat) : Int32 :=
  (if f_X1_matches k k S = 0 then 0 else 1)
def f_X0_matchesInComplaints  (S : Nat → BT) : Int32 :=
  (if S 0 0 4 = S 1 0 4 then (if ∀ j : Nat, j < (S 0 0 4).toNatClampNeg → b_X0_matchesInComplaints S j = 1 then 1 else 0) else 0)
set_option maxHeartbeats 4000000 in
set_option maxRecDepth 100000 in
theorem m_X0_matchesInComplaints (l : Launch) (g : wG) (S : Nat → BT) (y : (Nat → Nat → Int32) × (Nat → Int64) × (Nat → UInt64)) (n m9 : Nat) (hN0 : CN (S 0) n m9) : mI l yX0_matchesInComplaints cX0_matchesInComplaints 3 (some .boolean) ({ frames := 2, cells := 0, slots := 0, locals := 42 } : Room) 0 0 g (S, y) [.ref (gA g (jB 0)), .ref (gA g (jB 1))] (f_X0_matchesInComplaints S) (S, y) := by
  refine Met.ofW (cc := cX0_matchesInComplaints) (maxL := 3) (ret := some .boolean) (by decide) rfl ?_
  intro p9 e s m args below meth c s₁ BL hml hv
  obtain ⟨rfl, hk, hPB⟩ := hv
  have hx := BL.exec
  have hb := BL.bytes
  have hc : CX p9 c cX0_matchesInComplaints s _ m RX0 := ⟨hx, hb, findClass_of_methodNamed BL.named, fun w h => atoms_spec BL.pre w (List.mem_cons_of_mem _ h)⟩
  have hr := BL.returns
  have hlocks := BL.notSynchronized
  have hw : WS g s (S, y) s.heap [] := ⟨hPB, va_S.rf⟩
  have hl := lv_entry ([.ref (gA g (jB 0)), .ref (gA g (jB 1))]) (n := 3) (Nat.le_of_ble_eq_true rfl)
  rw [lg_entry_eq]
  generalize (lg_sl ([.ref (gA g (jB 0)), .ref (gA g (jB 1))]) ++ List.replicate (3 - (lg_sl ([.ref (gA g (jB 0)), .ref (gA g (jB 1))])).length) Slot.unset).toArray = ls at hl ⊢
  have hl : lv_has ls 3 [(0, .ref (gA g (jB 0))), (1, .ref (gA g (jB 1)))] := hl
  refine lv_aload_n hx hb dX0_matchesInComplaints_0 rfl (lv_at hl 0 rfl) ?_
  refine k_get hc hk hw (at_B (by decide : 0 < 2)) rfl iX0 4 (by decide) q208 (v := .int (S 0 0 4)) rfl dX0_matchesInComplaints_1 ?_
  refine lv_aload_n hx hb dX0_matchesInComplaints_4 rfl (lv_at hl 1 rfl) ?_
  refine k_get hc hk hw (at_B (by decide : 1 < 2)) rfl iX0 4 (by decide) q208 (v := .int (S 1 0 4)) rfl dX0_matchesInComplaints_5 ?_
  refine lv_icmp_eq (tgt := 13) hx hb dX0_matchesInComplaints_8 (by decide) (fun h1 => ?_) (fun h1 => ?_)
  · refine lv_iconst (v := 0) hx hb dX0_matchesInComplaints_13 (by decide) ?_
    refine lv_istore_n (lv' := [(2, .int 0), (0, .ref (gA g (jB 0))), (1, .ref (gA g (jB 1)))]) hx hb dX0_matchesInComplaints_14 rfl hl (by decide) rfl (fun ls hl => ?_)
    have LP2 : ∀ (f k : Nat), k ≤ (S 0 0 4).toNatClampNeg → (S 0 0 4).toNatClampNeg + 1 ≤ k + f → (∀ j, j < k → b_X0_matchesInComplaints S j = 1) → ∀ (H : Heap) (locs : List Loc), WS g s (S, y) H locs → ∀ (ls : Array Slot), lv_has ls 3 [(2, .int (nI k)), (0, .ref (gA g (jB 0))), (1, .ref (gA g (jB 1)))] → W p9 l e ({ frames := 2, cells := 0, slots := 0, locals := 42 } : Room) s m ([.ref (gA g (jB 0)), .ref (gA g (jB 1))] : List Value).toArray below meth c H locs 0 0 (MQ below (va_Qi (fun (v : Int32) (u : wSt) => v = f_X0_matchesInComplaints S ∧ u = (S, y)) (PB g) (AA g)) (([.ref (gA g (jB 0)), .ref (gA g (jB 1))] : List Value).toArray) s 0 0 (AA g)) (F0 m 15 ls []) := by
      intro f
      induction f with
      | zero => intro k h1 h2; exact absurd h2 (by omega)
      | succ f ih =>
        intro k hk9 hf9 hall H locs hw ls hl
        have hl4 := CN.l4 hN0
        refine lv_iload_n hx hb dX0_matchesInComplaints_15 rfl (lv_at hl 0 rfl) ?_
        refine lv_aload_n hx hb dX0_matchesInComplaints_16 rfl (lv_at hl 1 rfl) ?_
        refine k_get hc hk hw (at_B (by decide : 0 < 2)) rfl iX0 4 (by decide) q208 (v := .int (S 0 0 4)) rfl dX0_matchesInComplaints_17 ?_
        refine lv_icmp_ge (tgt := 49) hx hb dX0_matchesInComplaints_20 (by decide) (fun h3 => ?_) (fun h3 => ?_)
        · have hkn := lp_out h3 (CN.cc hN0 hN0) hk9 (by omega)
          subst hkn
          refine lv_iconst (v := 1) hx hb dX0_matchesInComplaints_49 (by decide) ?_
          exact W.zret (v := 1) hx hb hr (by decide +kernel) (fun t9 ht hW => ke_i hw ht (by simp only [f_X0_matchesInComplaints, if_pos h1, if_pos hall]) rfl) hw.2.2.2 dX0_matchesInComplaints_50
        · have hkn := lp_in h3 (CN.cc hN0 hN0) hk9 (by omega)
          refine lv_aload_n hx hb dX0_matchesInComplaints_23 rfl (lv_at hl 1 rfl) ?_
          refine k_get hc hk hw (at_B (by decide : 0 < 2)) rfl iX0 1 (by decide) q203 (v := .ref (gA g (jCs 0))) rfl dX0_matchesInComplaints_24 ?_
          refine lv_iload_n hx hb dX0_matchesInComplaints_27 rfl (lv_at hl 0 rfl) ?_
          refine k_ald (t0 := 5) (f := fun k => gA g (jC 0 k)) (n := k) hc hk hw rfl (at_Cs (by decide : 0 < 2)) (vp_in_nI (Nat.lt_of_lt_of_le hkn (by omega)) (by omega)) (nI_clamp (by have := hkn; omega)) dX0_matchesInComplaints_28 ?_
          refine lv_aload_n hx hb dX0_matchesInComplaints_29 rfl (lv_at hl 2 rfl) ?_
          refine k_get hc hk hw (at_B (by decide : 1 < 2)) rfl iX0 1 (by decide) q203 (v := .ref (gA g (jCs 1))) rfl dX0_matchesInComplaints_30 ?_
          refine lv_iload_n hx hb dX0_matchesInComplaints_33 rfl (lv_at hl 0 rfl) ?_
          refine k_ald (t0 := 5) (f := fun k => gA g (jC 1 k)) (n := k) hc hk hw rfl (at_Cs (by decide : 1 < 2)) (vp_in_nI (Nat.lt_of_lt_of_le hkn (by omega)) (by omega)) (nI_clamp (by have := hkn; omega)) dX0_matchesInComplaints_34 ?_
          refine kc_i hw (va_runVN (As := [.ref (gA g (jC 1 k))]) (rest := []) ⟨hx, hb, hml, hc.2.2.1, hc.2.2.2⟩ (m_X1_matches l g S y k (Nat.lt_of_lt_of_le hkn (by omega)) k (Nat.lt_of_lt_of_le hkn (by omega))) ⟨kw_N hc hk 1 nq505 q4 q508 rfl rfl (by decide +kernel) ⟨Nat.le_of_ble_eq_true rfl, Nat.le_of_ble_eq_true rfl⟩, hc.2.2.2 _ q507, hc.2.2.2 _ qs36⟩ (kp_V hk hw (at_C (by decide : 0 < 2) (Nat.lt_of_lt_of_le hkn (by omega))) rfl) rfl rfl hl.1 rfl (lv_room (Nat.le_of_ble_eq_true rfl)) dX0_matchesInComplaints_35 ⟨Nat.le_of_ble_eq_true rfl, Nat.le_of_ble_eq_true rfl⟩) (fun H locs hw => ?_)
          refine lv_if_ne (tgt := 43) hx hb dX0_matchesInComplaints_38 (by decide) (fun h4 => ?_) (fun h4 => ?_)
          · refine lv_iinc (v := nI (k + 1)) (lv' := [(2, .int (nI (k + 1))), (0, .ref (gA g (jB 0))), (1, .ref (gA g (jB 1)))]) hx hb dX0_matchesInComplaints_43 hl (k := 0) rfl (by first | exact (nI_succ _).symm | rfl) (by decide) rfl (fun ls hl => ?_)
            refine lv_goto (tgt := 15) hx hb dX0_matchesInComplaints_46 (by decide) ?_
            have hl9 := lv_sub hl [0, 1, 2] rfl
            exact ih (k + 1) (by omega) (by omega) (lt_s hall (by simp only [b_X0_matchesInComplaints, if_neg h4])) _ _ hw _ hl9
          · refine lv_iconst (v := 0) hx hb dX0_matchesInComplaints_41 (by decide) ?_
            exact W.zret (v := 0) hx hb hr (by decide +kernel) (fun t9 ht hW => ke_i hw ht (by simp only [f_X0_matchesInComplaints, if_pos h1]; rw [if_neg (fun h => absurd (show (1 : Int32) = 0 from (h k hkn).symm.trans (by simp only [b_X0_matchesInComplaints, if_pos h4])) (by decide))]) rfl) hw.2.2.2 dX0_matchesInComplaints_42
    exact LP2 ((S 0 0 4).toNatClampNeg + 1) 0 (Nat.zero_le _) (by omega) (fun j h => absurd h (Nat.not_lt_zero j)) _ _ hw _ (lv_sub hl [0, 1, 2] rfl)
  · refine lv_iconst (v := 0) hx hb dX0_matchesInComplaints_11 (by decide) ?_
    exact W.zret (v := 0) hx hb hr (by decide +kernel) (fun t9 ht hW => ke_i hw ht (by simp only [f_X0_matchesInComplaints, if_neg h1]) rfl) hw.2.2.2 dX0_matchesInComplaints_12
def f_X0_matches  (S : Nat → BT) : Int32 :=
  (if S 0 0 5 = S 1 0 5 then (if f_X0_matchesInOffices S = 0 then 0 else (if f_X0_matchesInComplaints S = 0 then 0 else (if f_X0_matchesInWeights S = 0 then 0 else 1))) else 0)
set_option maxHeartbeats 4000000 in
set_option maxRecDepth 100000 in
theorem m_X0_matches (l : Launch) (g : wG) (S : Nat → BT) (y : (Nat → Nat → Int32) × (Nat → Int64) × (Nat → UInt64)) (n m9 : Nat) (hN0 : CN (S 0) n m9) : mI l yX0_matches cX0_matches 2 (some .boolean) ({ frames := 3, cells := 0, slots := 0, locals := 64 } : Room) 0 0 g (S, y) [.ref (gA g (jB 0)), .ref (gA g (jB 1))] (f_X0_matches S) (S, y) := by
  refine Met.ofW (cc := cX0_matches) (maxL := 2) (ret := some .boolean) (by decide) rfl ?_
  intro p9 e s m args below meth c s₁ BL hml hv
  obtain ⟨rfl, hk, hPB⟩ := hv
  have hx := BL.exec
  have hb := BL.bytes
  have hc : CX p9 c cX0_matches s _ m RX0 := ⟨hx, hb, findClass_of_methodNamed BL.named, fun w h => atoms_spec BL.pre w (List.mem_cons_of_mem _ h)⟩
  have hr := BL.returns
  have hlocks := BL.notSynchronized
  have hw : WS g s (S, y) s.heap [] := ⟨hPB, va_S.rf⟩
  have hl := lv_entry ([.ref (gA g (jB 0)), .ref (gA g (jB 1))]) (n := 2) (Nat.le_of_ble_eq_true rfl)
  rw [lg_entry_eq]
  generalize (lg_sl ([.ref (gA g (jB 0)), .ref (gA g (jB 1))]) ++ List.replicate (2 - (lg_sl ([.ref (gA g (jB 0)), .ref (gA g (jB 1))])).length) Slot.unset).toArray = ls at hl ⊢
  have hl : lv_has ls 2 [(0, .ref (gA g (jB 0))), (1, .ref (gA g (jB 1)))] := hl
  refine lv_aload_n hx hb dX0_matches_0 rfl (lv_at hl 0 rfl) ?_
  refine k_get hc hk hw (at_B (by decide : 0 < 2)) rfl iX0 5 (by decide) q210 (v := .int (S 0 0 5)) rfl dX0_matches_1 ?_
  refine lv_aload_n hx hb dX0_matches_4 rfl (lv_at hl 1 rfl) ?_
  refine k_get hc hk hw (at_B (by decide : 1 < 2)) rfl iX0 5 (by decide) q210 (v := .int (S 1 0 5)) rfl dX0_matches_5 ?_
  refine lv_icmp_ne (tgt := 39) hx hb dX0_matches_8 (by decide) (fun h1 => ?_) (fun h1 => ?_)
  · refine lv_iconst (v := 0) hx hb dX0_matches_39 (by decide) ?_
    exact W.zret (v := 0) hx hb hr (by decide +kernel) (fun t9 ht hW => ke_i hw ht (by simp only [f_X0_matches, if_neg h1]) rfl) hw.2.2.2 dX0_matches_40
  · refine lv_aload_n hx hb dX0_matches_11 rfl (lv_at hl 0 rfl) ?_
    refine lv_aload_n hx hb dX0_matches_12 rfl (lv_at hl 1 rfl) ?_
    refine kc_i hw (va_runV (As := [.ref (gA g (jB 1))]) (rest := []) ⟨hx, hb, hml, hc.2.2.1, hc.2.2.2⟩ (m_X0_matchesInOffices l g S y _ _ hN0) (kw_V hc 1 q493 q495 qs33 q2 q496 rfl rfl (by decide +kernel) ⟨Nat.le_of_ble_eq_true rfl, Nat.le_of_ble_eq_true rfl⟩) (kp_V hk hw (at_B (by decide : 0 < 2)) rfl) rfl rfl hl.1 rfl (lv_room (Nat.le_of_ble_eq_true rfl)) dX0_matches_13 ⟨Nat.le_of_ble_eq_true rfl, Nat.le_of_ble_eq_true rfl⟩) (fun H locs hw => ?_)
    refine lv_if_eq (tgt := 39) hx hb dX0_matches_16 (by decide) (fun h2 => ?_) (fun h2 => ?_)
    · refine lv_iconst (v := 0) hx hb dX0_matches_39 (by decide) ?_
      exact W.zret (v := 0) hx hb hr (by decide +kernel) (fun t9 ht hW => ke_i hw ht (by simp only [f_X0_matches, if_pos h1, if_pos h2]) rfl) hw.2.2.2 dX0_matches_40
    · refine lv_aload_n hx hb dX0_matches_19 rfl (lv_at hl 0 rfl) ?_
      refine lv_aload_n hx hb dX0_matches_20 rfl (lv_at hl 1 rfl) ?_
      refine kc_i hw (va_runV (As := [.ref (gA g (jB 1))]) (rest := []) ⟨hx, hb, hml, hc.2.2.1, hc.2.2.2⟩ (m_X0_matchesInComplaints l g S y _ _ hN0) (kw_V hc 1 q501 q503 qs35 q2 q504 rfl rfl (by decide +kernel) ⟨Nat.le_of_ble_eq_true rfl, Nat.le_of_ble_eq_true rfl⟩) (kp_V hk hw (at_B (by decide : 0 < 2)) rfl) rfl rfl hl.1 rfl (lv_room (Nat.le_of_ble_eq_true rfl)) dX0_matches_21 ⟨Nat.le_of_ble_eq_true rfl, Nat.le_of_ble_eq_true rfl⟩) (fun H locs hw => ?_)
      refine lv_if_eq (tgt := 39) hx hb dX0_matches_24 (by decide) (fun h3 => ?_) (fun h3 => ?_)
      · refine lv_iconst (v := 0) hx hb dX0_matches_39 (by decide) ?_
        exact W.zret (v := 0) hx hb hr (by decide +kernel) (fun t9 ht hW => ke_i hw ht (by simp only [f_X0_matches, if_pos h1, if_neg h2, if_pos h3]) rfl) hw.2.2.2 dX0_matches_40
      · refine lv_aload_n hx hb dX0_matches_27 rfl (lv_at hl 0 rfl) ?_
        refine lv_aload_n hx hb dX0_matches_28 rfl (lv_at hl 1 rfl) ?_
        refine kc_i hw (va_runV (As := [.ref (gA g (jB 1))]) (rest := []) ⟨hx, hb, hml, hc.2.2.1, hc.2.2.2⟩ (m_X0_matchesInWeights l g S y) (kw_V hc 1 q521 q523 qs40 q2 q524 rfl rfl (by decide +kernel) ⟨Nat.le_of_ble_eq_true rfl, Nat.le_of_ble_eq_true rfl⟩) (kp_V hk hw (at_B (by decide : 0 < 2)) rfl) rfl rfl hl.1 rfl (lv_room (Nat.le_of_ble_eq_true rfl)) dX0_matches_29 ⟨Nat.le_of_ble_eq_true rfl, Nat.le_of_ble_eq_true rfl⟩) (fun H locs hw => ?_)
        refine lv_if_eq (tgt := 39) hx hb dX0_matches_32 (by decide) (fun h4 => ?_) (fun h4 => ?_)
        · refine lv_iconst (v := 0) hx hb dX0_matches_39 (by decide) ?_
          exact W.zret (v := 0) hx hb hr (by decide +kernel) (fun t9 ht hW => ke_i hw ht (by simp only [f_X0_matches, if_pos h1, if_neg h2, if_neg h3, if_pos h4]) rfl) hw.2.2.2 dX0_matches_40
        · refine lv_iconst (v := 1) hx hb dX0_matches_35 (by decide) ?_
          refine lv_goto (tgt := 40) hx hb dX0_matches_36 (by decide) ?_
          exact W.zret (v := 1) hx hb hr (by decide +kernel) (fun t9 ht hW => ke_i hw ht (by simp only [f_X0_matches, if_pos h1, if_neg h2, if_neg h3, if_neg h4]) rfl) hw.2.2.2 dX0_matches_40
