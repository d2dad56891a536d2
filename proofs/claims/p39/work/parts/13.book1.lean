/-! the book, first part -/
section LDW
variable {p : Program} {l : Launch} {e : Env} {R : Room} {s : State} {m : MethodId} {args : Array Value} {below : List Frame} {meth : Method} {c : Code} {H : Heap} {locs : List Loc} {cells slots : Nat} {Q : State → Prop}
theorem va_ldcSW {cc : ByteArray} {pc : Nat} {ls : Array Slot} {rest : List Value} (hexec : p.tables.exec = Jvm.exec) (hb : c.code = cc) {own tx : String} {index q : Nat} (hown : s.vm.findClass own = some m.cls) (hZ : vk_R own index tx q s) (hdg : decode cc pc = .ok (.ldc_w index, 3))
    (k : W p l e R s m args below meth c H locs cells slots Q (F0 m (pc + 3) ls (.ref q :: rest))) : W p l e R s m args below meth c H locs cells slots Q (F0 m pc ls rest) := by
  intro T hT X
  obtain ⟨t, a1, b1⟩ := k T hT X
  exact ⟨t, X.ldcStringW hexec hown (text := tx) (a := q) hZ.1 hZ.2 (g := F0 m pc ls rest) rfl (by rw [hb]; exact hdg) t a1, b1⟩
end LDW
def f_X1_moveTo (i0 : Nat) (a1 : Int32) (a2 : Int32) (B : BT) : BT :=
  (if B (10 + i0) 14 = (-1) then (if a1 = 97 then (if (ixB 1 a1) < 0 then up2 (up2 B (10 + i0) 14 a2) (10 + i0) 11 a1 else up2 (up2 (up2 B (10 + i0) 14 a2) (10 + i0) 13 a2) (10 + i0) 11 a1) else (if (ixB 1 a1) < 0 then up2 B (10 + i0) 11 a1 else up2 (up2 B (10 + i0) 13 a2) (10 + i0) 11 a1)) else (if a1 = 97 then (if (ixB 1 a1) < 0 then up2 (up2 (up2 (up2 B (10 + i0) 15 ((B (10 + i0) 15) + (a2 - (B (10 + i0) 14)))) (10 + i0) 14 (-1)) (10 + i0) 14 a2) (10 + i0) 11 a1 else up2 (up2 (up2 (up2 (up2 B (10 + i0) 15 ((B (10 + i0) 15) + (a2 - (B (10 + i0) 14)))) (10 + i0) 14 (-1)) (10 + i0) 14 a2) (10 + i0) 13 a2) (10 + i0) 11 a1) else (if (ixB 1 a1) < 0 then up2 (up2 (up2 B (10 + i0) 15 ((B (10 + i0) 15) + (a2 - (B (10 + i0) 14)))) (10 + i0) 14 (-1)) (10 + i0) 11 a1 else up2 (up2 (up2 (up2 B (10 + i0) 15 ((B (10 + i0) 15) + (a2 - (B (10 + i0) 14)))) (10 + i0) 14 (-1)) (10 + i0) 13 a2) (10 + i0) 11 a1)))
theorem cn_X1_moveTo {i0 : Nat} {a1 : Int32} {a2 : Int32} {B : BT} {n m9 : Nat} (ha1 : okc a1) (hN : CN B n m9) : CN (f_X1_moveTo i0 a1 a2 B) n m9 := by
  unfold f_X1_moveTo
  by_cases h1 : B (10 + i0) 14 = (-1)
  · simp only [if_pos h1]
    by_cases h2 : a1 = 97
    · simp only [if_pos h2]
      by_cases h4 : (ixB 1 a1) < 0
      · simp only [if_pos h4]
        exact (CN.up11 (by omega) ha1 (CN.up (by omega) (by decide) hN))
      · simp only [if_neg h4]
        exact (CN.up11 (by omega) ha1 (CN.up (by omega) (by decide) (CN.up (by omega) (by decide) hN)))
    · simp only [if_neg h2]
      by_cases h3 : (ixB 1 a1) < 0
      · simp only [if_pos h3]
        exact (CN.up11 (by omega) ha1 hN)
      · simp only [if_neg h3]
        exact (CN.up11 (by omega) ha1 (CN.up (by omega) (by decide) hN))
  · simp only [if_neg h1]
    by_cases h5 : a1 = 97
    · simp only [if_pos h5]
      by_cases h7 : (ixB 1 a1) < 0
      · simp only [if_pos h7]
        exact (CN.up11 (by omega) ha1 (CN.up (by omega) (by decide) (CN.up (by omega) (by decide) (CN.up (by omega) (by decide) hN))))
      · simp only [if_neg h7]
        exact (CN.up11 (by omega) ha1 (CN.up (by omega) (by decide) (CN.up (by omega) (by decide) (CN.up (by omega) (by decide) (CN.up (by omega) (by decide) hN)))))
    · simp only [if_neg h5]
      by_cases h6 : (ixB 1 a1) < 0
      · simp only [if_pos h6]
        exact (CN.up11 (by omega) ha1 (CN.up (by omega) (by decide) (CN.up (by omega) (by decide) hN)))
      · simp only [if_neg h6]
        exact (CN.up11 (by omega) ha1 (CN.up (by omega) (by decide) (CN.up (by omega) (by decide) (CN.up (by omega) (by decide) hN))))
set_option maxHeartbeats 4000000 in
set_option maxRecDepth 100000 in
theorem m_X1_moveTo (l : Launch) (g : wG) (S : Nat → BT) (p : Nat) (B : BT) (y : (Nat → Nat → Int32) × (Nat → Int64) × (Nat → UInt64)) (hp : p < 2) (i0 : Nat) (hi0 : i0 < 20) (a1 : Int32) (ha1 : okc a1) (a2 : Int32) (n m9 : Nat) (hN : CN B n m9) : mV l yX1_moveTo cX1_moveTo 3 ({ frames := 4, cells := 0, slots := 0, locals := 91 } : Room) 0 0 g (xB S p B y) [.ref (gA g (jC p i0)), .int a1, .int a2] (xB S p (f_X1_moveTo i0 a1 a2 B) y) := by
  refine Met.ofW (cc := cX1_moveTo) (maxL := 3) (ret := none) (by decide) rfl ?_
  intro p9 e s m args below meth c s₁ BL hml hv
  obtain ⟨rfl, hk, hPB⟩ := hv
  have hx := BL.exec
  have hb := BL.bytes
  have hc : CX p9 c cX1_moveTo s _ m RX1 := ⟨hx, hb, findClass_of_methodNamed BL.named, fun w h => atoms_spec BL.pre w (List.mem_cons_of_mem _ h)⟩
  have hr := BL.returns
  have hlocks := BL.notSynchronized
  have hw : WS g s (xB S p B y) s.heap [] := ⟨hPB, va_S.rf⟩
  have hl := lv_entry ([.ref (gA g (jC p i0)), .int a1, .int a2]) (n := 3) (Nat.le_of_ble_eq_true rfl)
  rw [lg_entry_eq]
  generalize (lg_sl ([.ref (gA g (jC p i0)), .int a1, .int a2]) ++ List.replicate (3 - (lg_sl ([.ref (gA g (jC p i0)), .int a1, .int a2])).length) Slot.unset).toArray = ls at hl ⊢
  have hl : lv_has ls 3 [(0, .ref (gA g (jC p i0))), (1, .int a1), (2, .int a2)] := hl
  obtain ⟨adK, adV, hSS, hR0, hR1, hR2⟩ := hk.2.2.2.2.2.2.2.2.2
  refine lv_aload_n hx hb dX1_moveTo_0 rfl (lv_at hl 0 rfl) ?_
  refine k_get hc hk hw (bt_C hp hi0) rfl iX1 14 (by decide) q166 (v := .int (B (10 + i0) 14)) rfl dX1_moveTo_1 ?_
  refine lv_iconst (v := (-1)) hx hb dX1_moveTo_4 (by decide) ?_
  refine lv_icmp_eq (tgt := 28) hx hb dX1_moveTo_5 (by decide) (fun h1 => ?_) (fun h1 => ?_)
  · refine lv_iload_n hx hb dX1_moveTo_28 rfl (lv_at hl 1 rfl) ?_
    refine lv_bipush (v := 97) hx hb dX1_moveTo_29 (by decide) ?_
    refine lv_icmp_ne (tgt := 39) hx hb dX1_moveTo_31 (by decide) (fun h2 => ?_) (fun h2 => ?_)
    · refine va_ldcS hx hb hc.2.2.1 hR2 dX1_moveTo_39 ?_
      refine lv_iload_n hx hb dX1_moveTo_41 rfl (lv_at hl 1 rfl) ?_
      refine kc_i hw (va_runV (As := [.int a1]) (rest := []) ⟨hx, hb, hml, hc.2.2.1, hc.2.2.2⟩ (m_J0_indexOf_0f7a4 l g (xB S p B y) 1 (adK 1) (adV 1) (by decide) a1) (kw_V hc 1 q331 q332 q333 q13 q334 rfl rfl (by decide +kernel) ⟨Nat.le_of_ble_eq_true rfl, Nat.le_of_ble_eq_true rfl⟩) (kpS_V SR.mv hk hw (hSS.1 1 (by decide)) (hSS.1 1 (by decide))) rfl rfl hl.1 rfl (lv_room (Nat.le_of_ble_eq_true rfl)) dX1_moveTo_42 ⟨Nat.le_of_ble_eq_true rfl, Nat.le_of_ble_eq_true rfl⟩) (fun H locs hw => ?_)
      refine lv_if_lt (tgt := 53) hx hb dX1_moveTo_45 (by decide) (fun h3 => ?_) (fun h3 => ?_)
      · refine lv_aload_n hx hb dX1_moveTo_53 rfl (lv_at hl 0 rfl) ?_
        refine lv_iload_n hx hb dX1_moveTo_54 rfl (lv_at hl 1 rfl) ?_
        refine k_put hc hk hw (x' := (xB S p (up2 B (10 + i0) 11 a1) y)) (bt_C hp hi0) rfl iX1 tyX1 tyX1_ok nmX1 11 (by decide) q158 rfl ha1.1 ha1.2.1 (Nat.le_of_ble_eq_true rfl) dX1_moveTo_55 (bs_C hp hi0 (by decide) (by decide)) (fun H locs hw => ?_)
        exact W.vret hx hb hr (fun t9 ht hW => ke_v hw ht (by simp only [f_X1_moveTo, if_pos h1, if_neg h2, if_pos h3])) hw.2.2.2 dX1_moveTo_58
      · refine lv_aload_n hx hb dX1_moveTo_48 rfl (lv_at hl 0 rfl) ?_
        refine lv_iload_n hx hb dX1_moveTo_49 rfl (lv_at hl 2 rfl) ?_
        refine k_put hc hk hw (x' := (xB S p (up2 B (10 + i0) 13 a2) y)) (bt_C hp hi0) rfl iX1 tyX1 tyX1_ok nmX1 13 (by decide) q164 rfl rfl rfl (Nat.le_of_ble_eq_true rfl) dX1_moveTo_50 (bs_C hp hi0 (by decide) (by decide)) (fun H locs hw => ?_)
        refine lv_aload_n hx hb dX1_moveTo_53 rfl (lv_at hl 0 rfl) ?_
        refine lv_iload_n hx hb dX1_moveTo_54 rfl (lv_at hl 1 rfl) ?_
        refine k_put hc hk hw (x' := (xB S p (up2 (up2 B (10 + i0) 13 a2) (10 + i0) 11 a1) y)) (bt_C hp hi0) rfl iX1 tyX1 tyX1_ok nmX1 11 (by decide) q158 rfl ha1.1 ha1.2.1 (Nat.le_of_ble_eq_true rfl) dX1_moveTo_55 (bs_C hp hi0 (by decide) (by decide)) (fun H locs hw => ?_)
        exact W.vret hx hb hr (fun t9 ht hW => ke_v hw ht (by simp only [f_X1_moveTo, if_pos h1, if_neg h2, if_neg h3])) hw.2.2.2 dX1_moveTo_58
    · refine lv_aload_n hx hb dX1_moveTo_34 rfl (lv_at hl 0 rfl) ?_
      refine lv_iload_n hx hb dX1_moveTo_35 rfl (lv_at hl 2 rfl) ?_
      refine k_put hc hk hw (x' := (xB S p (up2 B (10 + i0) 14 a2) y)) (bt_C hp hi0) rfl iX1 tyX1 tyX1_ok nmX1 14 (by decide) q166 rfl rfl rfl (Nat.le_of_ble_eq_true rfl) dX1_moveTo_36 (bs_C hp hi0 (by decide) (by decide)) (fun H locs hw => ?_)
      refine va_ldcS hx hb hc.2.2.1 hR2 dX1_moveTo_39 ?_
      refine lv_iload_n hx hb dX1_moveTo_41 rfl (lv_at hl 1 rfl) ?_
      refine kc_i hw (va_runV (As := [.int a1]) (rest := []) ⟨hx, hb, hml, hc.2.2.1, hc.2.2.2⟩ (m_J0_indexOf_0f7a4 l g (xB S p (up2 B (10 + i0) 14 a2) y) 1 (adK 1) (adV 1) (by decide) a1) (kw_V hc 1 q331 q332 q333 q13 q334 rfl rfl (by decide +kernel) ⟨Nat.le_of_ble_eq_true rfl, Nat.le_of_ble_eq_true rfl⟩) (kpS_V SR.mv hk hw (hSS.1 1 (by decide)) (hSS.1 1 (by decide))) rfl rfl hl.1 rfl (lv_room (Nat.le_of_ble_eq_true rfl)) dX1_moveTo_42 ⟨Nat.le_of_ble_eq_true rfl, Nat.le_of_ble_eq_true rfl⟩) (fun H locs hw => ?_)
      refine lv_if_lt (tgt := 53) hx hb dX1_moveTo_45 (by decide) (fun h4 => ?_) (fun h4 => ?_)
      · refine lv_aload_n hx hb dX1_moveTo_53 rfl (lv_at hl 0 rfl) ?_
        refine lv_iload_n hx hb dX1_moveTo_54 rfl (lv_at hl 1 rfl) ?_
        refine k_put hc hk hw (x' := (xB S p (up2 (up2 B (10 + i0) 14 a2) (10 + i0) 11 a1) y)) (bt_C hp hi0) rfl iX1 tyX1 tyX1_ok nmX1 11 (by decide) q158 rfl ha1.1 ha1.2.1 (Nat.le_of_ble_eq_true rfl) dX1_moveTo_55 (bs_C hp hi0 (by decide) (by decide)) (fun H locs hw => ?_)
        exact W.vret hx hb hr (fun t9 ht hW => ke_v hw ht (by simp only [f_X1_moveTo, if_pos h1, if_pos h2, if_pos h4])) hw.2.2.2 dX1_moveTo_58
      · refine lv_aload_n hx hb dX1_moveTo_48 rfl (lv_at hl 0 rfl) ?_
        refine lv_iload_n hx hb dX1_moveTo_49 rfl (lv_at hl 2 rfl) ?_
        refine k_put hc hk hw (x' := (xB S p (up2 (up2 B (10 + i0) 14 a2) (10 + i0) 13 a2) y)) (bt_C hp hi0) rfl iX1 tyX1 tyX1_ok nmX1 13 (by decide) q164 rfl rfl rfl (Nat.le_of_ble_eq_true rfl) dX1_moveTo_50 (bs_C hp hi0 (by decide) (by decide)) (fun H locs hw => ?_)
        refine lv_aload_n hx hb dX1_moveTo_53 rfl (lv_at hl 0 rfl) ?_
        refine lv_iload_n hx hb dX1_moveTo_54 rfl (lv_at hl 1 rfl) ?_
        refine k_put hc hk hw (x' := (xB S p (up2 (up2 (up2 B (10 + i0) 14 a2) (10 + i0) 13 a2) (10 + i0) 11 a1) y)) (bt_C hp hi0) rfl iX1 tyX1 tyX1_ok nmX1 11 (by decide) q158 rfl ha1.1 ha1.2.1 (Nat.le_of_ble_eq_true rfl) dX1_moveTo_55 (bs_C hp hi0 (by decide) (by decide)) (fun H locs hw => ?_)
        exact W.vret hx hb hr (fun t9 ht hW => ke_v hw ht (by simp only [f_X1_moveTo, if_pos h1, if_pos h2, if_neg h4])) hw.2.2.2 dX1_moveTo_58
  · refine lv_aload_n hx hb dX1_moveTo_8 rfl (lv_at hl 0 rfl) ?_
    refine lv_dup hx hb dX1_moveTo_9 rfl ?_
    refine k_get hc hk hw (bt_C hp hi0) rfl iX1 15 (by decide) q167 (v := .int (B (10 + i0) 15)) rfl dX1_moveTo_10 ?_
    refine lv_iload_n hx hb dX1_moveTo_13 rfl (lv_at hl 2 rfl) ?_
    refine lv_aload_n hx hb dX1_moveTo_14 rfl (lv_at hl 0 rfl) ?_
    refine k_get hc hk hw (bt_C hp hi0) rfl iX1 14 (by decide) q166 (v := .int (B (10 + i0) 14)) rfl dX1_moveTo_15 ?_
    refine lv_isub hx hb dX1_moveTo_18 ?_
    refine lv_iadd hx hb dX1_moveTo_19 ?_
    refine k_put hc hk hw (x' := (xB S p (up2 B (10 + i0) 15 ((B (10 + i0) 15) + (a2 - (B (10 + i0) 14)))) y)) (bt_C hp hi0) rfl iX1 tyX1 tyX1_ok nmX1 15 (by decide) q167 rfl rfl rfl (Nat.le_of_ble_eq_true rfl) dX1_moveTo_20 (bs_C hp hi0 (by decide) (by decide)) (fun H locs hw => ?_)
    refine lv_aload_n hx hb dX1_moveTo_23 rfl (lv_at hl 0 rfl) ?_
    refine lv_iconst (v := (-1)) hx hb dX1_moveTo_24 (by decide) ?_
    refine k_put hc hk hw (x' := (xB S p (up2 (up2 B (10 + i0) 15 ((B (10 + i0) 15) + (a2 - (B (10 + i0) 14)))) (10 + i0) 14 (-1)) y)) (bt_C hp hi0) rfl iX1 tyX1 tyX1_ok nmX1 14 (by decide) q166 rfl rfl rfl (Nat.le_of_ble_eq_true rfl) dX1_moveTo_25 (bs_C hp hi0 (by decide) (by decide)) (fun H locs hw => ?_)
    refine lv_iload_n hx hb dX1_moveTo_28 rfl (lv_at hl 1 rfl) ?_
    refine lv_bipush (v := 97) hx hb dX1_moveTo_29 (by decide) ?_
    refine lv_icmp_ne (tgt := 39) hx hb dX1_moveTo_31 (by decide) (fun h5 => ?_) (fun h5 => ?_)
    · refine va_ldcS hx hb hc.2.2.1 hR2 dX1_moveTo_39 ?_
      refine lv_iload_n hx hb dX1_moveTo_41 rfl (lv_at hl 1 rfl) ?_
      refine kc_i hw (va_runV (As := [.int a1]) (rest := []) ⟨hx, hb, hml, hc.2.2.1, hc.2.2.2⟩ (m_J0_indexOf_0f7a4 l g (xB S p (up2 (up2 B (10 + i0) 15 ((B (10 + i0) 15) + (a2 - (B (10 + i0) 14)))) (10 + i0) 14 (-1)) y) 1 (adK 1) (adV 1) (by decide) a1) (kw_V hc 1 q331 q332 q333 q13 q334 rfl rfl (by decide +kernel) ⟨Nat.le_of_ble_eq_true rfl, Nat.le_of_ble_eq_true rfl⟩) (kpS_V SR.mv hk hw (hSS.1 1 (by decide)) (hSS.1 1 (by decide))) rfl rfl hl.1 rfl (lv_room (Nat.le_of_ble_eq_true rfl)) dX1_moveTo_42 ⟨Nat.le_of_ble_eq_true rfl, Nat.le_of_ble_eq_true rfl⟩) (fun H locs hw => ?_)
      refine lv_if_lt (tgt := 53) hx hb dX1_moveTo_45 (by decide) (fun h6 => ?_) (fun h6 => ?_)
      · refine lv_aload_n hx hb dX1_moveTo_53 rfl (lv_at hl 0 rfl) ?_
        refine lv_iload_n hx hb dX1_moveTo_54 rfl (lv_at hl 1 rfl) ?_
        refine k_put hc hk hw (x' := (xB S p (up2 (up2 (up2 B (10 + i0) 15 ((B (10 + i0) 15) + (a2 - (B (10 + i0) 14)))) (10 + i0) 14 (-1)) (10 + i0) 11 a1) y)) (bt_C hp hi0) rfl iX1 tyX1 tyX1_ok nmX1 11 (by decide) q158 rfl ha1.1 ha1.2.1 (Nat.le_of_ble_eq_true rfl) dX1_moveTo_55 (bs_C hp hi0 (by decide) (by decide)) (fun H locs hw => ?_)
        exact W.vret hx hb hr (fun t9 ht hW => ke_v hw ht (by simp only [f_X1_moveTo, if_neg h1, if_neg h5, if_pos h6])) hw.2.2.2 dX1_moveTo_58
      · refine lv_aload_n hx hb dX1_moveTo_48 rfl (lv_at hl 0 rfl) ?_
        refine lv_iload_n hx hb dX1_moveTo_49 rfl (lv_at hl 2 rfl) ?_
        refine k_put hc hk hw (x' := (xB S p (up2 (up2 (up2 B (10 + i0) 15 ((B (10 + i0) 15) + (a2 - (B (10 + i0) 14)))) (10 + i0) 14 (-1)) (10 + i0) 13 a2) y)) (bt_C hp hi0) rfl iX1 tyX1 tyX1_ok nmX1 13 (by decide) q164 rfl rfl rfl (Nat.le_of_ble_eq_true rfl) dX1_moveTo_50 (bs_C hp hi0 (by decide) (by decide)) (fun H locs hw => ?_)
        refine lv_aload_n hx hb dX1_moveTo_53 rfl (lv_at hl 0 rfl) ?_
        refine lv_iload_n hx hb dX1_moveTo_54 rfl (lv_at hl 1 rfl) ?_
        refine k_put hc hk hw (x' := (xB S p (up2 (up2 (up2 (up2 B (10 + i0) 15 ((B (10 + i0) 15) + (a2 - (B (10 + i0) 14)))) (10 + i0) 14 (-1)) (10 + i0) 13 a2) (10 + i0) 11 a1) y)) (bt_C hp hi0) rfl iX1 tyX1 tyX1_ok nmX1 11 (by decide) q158 rfl ha1.1 ha1.2.1 (Nat.le_of_ble_eq_true rfl) dX1_moveTo_55 (bs_C hp hi0 (by decide) (by decide)) (fun H locs hw => ?_)
        exact W.vret hx hb hr (fun t9 ht hW => ke_v hw ht (by simp only [f_X1_moveTo, if_neg h1, if_neg h5, if_neg h6])) hw.2.2.2 dX1_moveTo_58
    · refine lv_aload_n hx hb dX1_moveTo_34 rfl (lv_at hl 0 rfl) ?_
      refine lv_iload_n hx hb dX1_moveTo_35 rfl (lv_at hl 2 rfl) ?_
      refine k_put hc hk hw (x' := (xB S p (up2 (up2 (up2 B (10 + i0) 15 ((B (10 + i0) 15) + (a2 - (B (10 + i0) 14)))) (10 + i0) 14 (-1)) (10 + i0) 14 a2) y)) (bt_C hp hi0) rfl iX1 tyX1 tyX1_ok nmX1 14 (by decide) q166 rfl rfl rfl (Nat.le_of_ble_eq_true rfl) dX1_moveTo_36 (bs_C hp hi0 (by decide) (by decide)) (fun H locs hw => ?_)
      refine va_ldcS hx hb hc.2.2.1 hR2 dX1_moveTo_39 ?_
      refine lv_iload_n hx hb dX1_moveTo_41 rfl (lv_at hl 1 rfl) ?_
      refine kc_i hw (va_runV (As := [.int a1]) (rest := []) ⟨hx, hb, hml, hc.2.2.1, hc.2.2.2⟩ (m_J0_indexOf_0f7a4 l g (xB S p (up2 (up2 (up2 B (10 + i0) 15 ((B (10 + i0) 15) + (a2 - (B (10 + i0) 14)))) (10 + i0) 14 (-1)) (10 + i0) 14 a2) y) 1 (adK 1) (adV 1) (by decide) a1) (kw_V hc 1 q331 q332 q333 q13 q334 rfl rfl (by decide +kernel) ⟨Nat.le_of_ble_eq_true rfl, Nat.le_of_ble_eq_true rfl⟩) (kpS_V SR.mv hk hw (hSS.1 1 (by decide)) (hSS.1 1 (by decide))) rfl rfl hl.1 rfl (lv_room (Nat.le_of_ble_eq_true rfl)) dX1_moveTo_42 ⟨Nat.le_of_ble_eq_true rfl, Nat.le_of_ble_eq_true rfl⟩) (fun H locs hw => ?_)
      refine lv_if_lt (tgt := 53) hx hb dX1_moveTo_45 (by decide) (fun h7 => ?_) (fun h7 => ?_)
      · refine lv_aload_n hx hb dX1_moveTo_53 rfl (lv_at hl 0 rfl) ?_
        refine lv_iload_n hx hb dX1_moveTo_54 rfl (lv_at hl 1 rfl) ?_
        refine k_put hc hk hw (x' := (xB S p (up2 (up2 (up2 (up2 B (10 + i0) 15 ((B (10 + i0) 15) + (a2 - (B (10 + i0) 14)))) (10 + i0) 14 (-1)) (10 + i0) 14 a2) (10 + i0) 11 a1) y)) (bt_C hp hi0) rfl iX1 tyX1 tyX1_ok nmX1 11 (by decide) q158 rfl ha1.1 ha1.2.1 (Nat.le_of_ble_eq_true rfl) dX1_moveTo_55 (bs_C hp hi0 (by decide) (by decide)) (fun H locs hw => ?_)
        exact W.vret hx hb hr (fun t9 ht hW => ke_v hw ht (by simp only [f_X1_moveTo, if_neg h1, if_pos h5, if_pos h7])) hw.2.2.2 dX1_moveTo_58
      · refine lv_aload_n hx hb dX1_moveTo_48 rfl (lv_at hl 0 rfl) ?_
        refine lv_iload_n hx hb dX1_moveTo_49 rfl (lv_at hl 2 rfl) ?_
        refine k_put hc hk hw (x' := (xB S p (up2 (up2 (up2 (up2 B (10 + i0) 15 ((B (10 + i0) 15) + (a2 - (B (10 + i0) 14)))) (10 + i0) 14 (-1)) (10 + i0) 14 a2) (10 + i0) 13 a2) y)) (bt_C hp hi0) rfl iX1 tyX1 tyX1_ok nmX1 13 (by decide) q164 rfl rfl rfl (Nat.le_of_ble_eq_true rfl) dX1_moveTo_50 (bs_C hp hi0 (by decide) (by decide)) (fun H locs hw => ?_)
        refine lv_aload_n hx hb dX1_moveTo_53 rfl (lv_at hl 0 rfl) ?_
        refine lv_iload_n hx hb dX1_moveTo_54 rfl (lv_at hl 1 rfl) ?_
        refine k_put hc hk hw (x' := (xB S p (up2 (up2 (up2 (up2 (up2 B (10 + i0) 15 ((B (10 + i0) 15) + (a2 - (B (10 + i0) 14)))) (10 + i0) 14 (-1)) (10 + i0) 14 a2) (10 + i0) 13 a2) (10 + i0) 11 a1) y)) (bt_C hp hi0) rfl iX1 tyX1 tyX1_ok nmX1 11 (by decide) q158 rfl ha1.1 ha1.2.1 (Nat.le_of_ble_eq_true rfl) dX1_moveTo_55 (bs_C hp hi0 (by decide) (by decide)) (fun H locs hw => ?_)
        exact W.vret hx hb hr (fun t9 ht hW => ke_v hw ht (by simp only [f_X1_moveTo, if_neg h1, if_pos h5, if_neg h7])) hw.2.2.2 dX1_moveTo_58
def f_X6_isClosing (a1 : Int32) : Int32 :=
  (if (ixB 1 a1) < 0 then 0 else 1)
set_option maxHeartbeats 4000000 in
set_option maxRecDepth 100000 in
theorem m_X6_isClosing (l : Launch) (g : wG) (x : wSt) (a1 : Int32) : mI l yX6_isClosing cX6_isClosing 1 (some .boolean) ({ frames := 4, cells := 0, slots := 0, locals := 91 } : Room) 0 0 g x [.int a1] (f_X6_isClosing a1) x := by
  refine Met.ofW (cc := cX6_isClosing) (maxL := 1) (ret := some .boolean) (by decide) rfl ?_
  intro p9 e s m args below meth c s₁ BL hml hv
  obtain ⟨rfl, hk, hPB⟩ := hv
  have hx := BL.exec
  have hb := BL.bytes
  have hc : CX p9 c cX6_isClosing s _ m RX6 := ⟨hx, hb, findClass_of_methodNamed BL.named, fun w h => atoms_spec BL.pre w (List.mem_cons_of_mem _ h)⟩
  have hr := BL.returns
  have hlocks := BL.notSynchronized
  have hw : WS g s x s.heap [] := ⟨hPB, va_S.rf⟩
  have hl := lv_entry ([.int a1]) (n := 1) (Nat.le_of_ble_eq_true rfl)
  rw [lg_entry_eq]
  generalize (lg_sl ([.int a1]) ++ List.replicate (1 - (lg_sl ([.int a1])).length) Slot.unset).toArray = ls at hl ⊢
  have hl : lv_has ls 1 [(0, .int a1)] := hl
  obtain ⟨adK, adV, hSS, hR0, hR1, hR2⟩ := hk.2.2.2.2.2.2.2.2.2
  refine va_ldcSW hx hb hc.2.2.1 hR1 dX6_isClosing_0 ?_
  refine lv_iload_n hx hb dX6_isClosing_3 rfl (lv_at hl 0 rfl) ?_
  refine kc_i hw (va_runV (As := [.int a1]) (rest := []) ⟨hx, hb, hml, hc.2.2.1, hc.2.2.2⟩ (m_J0_indexOf_0f7a4 l g x 1 (adK 1) (adV 1) (by decide) a1) (kw_V hc 1 q488 q332 q333 q13 q334 rfl rfl (by decide +kernel) ⟨Nat.le_of_ble_eq_true rfl, Nat.le_of_ble_eq_true rfl⟩) (kpS_V SR.mv hk hw (hSS.1 1 (by decide)) (hSS.1 1 (by decide))) rfl rfl hl.1 rfl (lv_room (Nat.le_of_ble_eq_true rfl)) dX6_isClosing_4 ⟨Nat.le_of_ble_eq_true rfl, Nat.le_of_ble_eq_true rfl⟩) (fun H locs hw => ?_)
  refine lv_if_lt (tgt := 14) hx hb dX6_isClosing_7 (by decide) (fun h1 => ?_) (fun h1 => ?_)
  · refine lv_iconst (v := 0) hx hb dX6_isClosing_14 (by decide) ?_
    exact W.zret (v := 0) hx hb hr (by decide +kernel) (fun t9 ht hW => ke_i hw ht (by simp only [f_X6_isClosing, if_pos h1]) rfl) hw.2.2.2 dX6_isClosing_15
  · refine lv_iconst (v := 1) hx hb dX6_isClosing_10 (by decide) ?_
    refine lv_goto (tgt := 15) hx hb dX6_isClosing_11 (by decide) ?_
    exact W.zret (v := 1) hx hb hr (by decide +kernel) (fun t9 ht hW => ke_i hw ht (by simp only [f_X6_isClosing, if_neg h1]) rfl) hw.2.2.2 dX6_isClosing_15
def f_X6_remedyFor (a1 : Int32) : Int32 :=
  (if 3 < a1 then (if 9 < a1 then (if 15 < a1 then 4 else 3) else 2) else 1)
set_option maxHeartbeats 4000000 in
set_option maxRecDepth 100000 in
theorem m_X6_remedyFor (l : Launch) (g : wG) (x : wSt) (a1 : Int32) : mI l yX6_remedyFor cX6_remedyFor 1 (some .int) ({ frames := 0, cells := 0, slots := 0, locals := 0 } : Room) 0 0 g x [.int a1] (f_X6_remedyFor a1) x := by
  refine Met.ofW (cc := cX6_remedyFor) (maxL := 1) (ret := some .int) (by decide) rfl ?_
  intro p9 e s m args below meth c s₁ BL hml hv
  obtain ⟨rfl, hk, hPB⟩ := hv
  have hx := BL.exec
  have hb := BL.bytes
  have hc : CX p9 c cX6_remedyFor s _ m RX6 := ⟨hx, hb, findClass_of_methodNamed BL.named, fun w h => atoms_spec BL.pre w (List.mem_cons_of_mem _ h)⟩
  have hr := BL.returns
  have hlocks := BL.notSynchronized
  have hw : WS g s x s.heap [] := ⟨hPB, va_S.rf⟩
  have hl := lv_entry ([.int a1]) (n := 1) (Nat.le_of_ble_eq_true rfl)
  rw [lg_entry_eq]
  generalize (lg_sl ([.int a1]) ++ List.replicate (1 - (lg_sl ([.int a1])).length) Slot.unset).toArray = ls at hl ⊢
  have hl : lv_has ls 1 [(0, .int a1)] := hl
  refine lv_iload_n hx hb dX6_remedyFor_0 rfl (lv_at hl 0 rfl) ?_
  refine lv_iconst (v := 3) hx hb dX6_remedyFor_1 (by decide) ?_
  refine lv_icmp_gt (tgt := 7) hx hb dX6_remedyFor_2 (by decide) (fun h1 => ?_) (fun h1 => ?_)
  · refine lv_iload_n hx hb dX6_remedyFor_7 rfl (lv_at hl 0 rfl) ?_
    refine lv_bipush (v := 9) hx hb dX6_remedyFor_8 (by decide) ?_
    refine lv_icmp_gt (tgt := 15) hx hb dX6_remedyFor_10 (by decide) (fun h2 => ?_) (fun h2 => ?_)
    · refine lv_iload_n hx hb dX6_remedyFor_15 rfl (lv_at hl 0 rfl) ?_
      refine lv_bipush (v := 15) hx hb dX6_remedyFor_16 (by decide) ?_
      refine lv_icmp_gt (tgt := 25) hx hb dX6_remedyFor_18 (by decide) (fun h3 => ?_) (fun h3 => ?_)
      · refine lv_iconst (v := 4) hx hb dX6_remedyFor_25 (by decide) ?_
        exact W.iret (v := 4) hx hb hr (fun t9 ht hW => ke_i hw ht (by simp only [f_X6_remedyFor, if_pos h1, if_pos h2, if_pos h3]) rfl) hw.2.2.2 dX6_remedyFor_26
      · refine lv_iconst (v := 3) hx hb dX6_remedyFor_21 (by decide) ?_
        refine lv_goto (tgt := 26) hx hb dX6_remedyFor_22 (by decide) ?_
        exact W.iret (v := 3) hx hb hr (fun t9 ht hW => ke_i hw ht (by simp only [f_X6_remedyFor, if_pos h1, if_pos h2, if_neg h3]) rfl) hw.2.2.2 dX6_remedyFor_26
    · refine lv_iconst (v := 2) hx hb dX6_remedyFor_13 (by decide) ?_
      exact W.iret (v := 2) hx hb hr (fun t9 ht hW => ke_i hw ht (by simp only [f_X6_remedyFor, if_pos h1, if_neg h2]) rfl) hw.2.2.2 dX6_remedyFor_14
  · refine lv_iconst (v := 1) hx hb dX6_remedyFor_5 (by decide) ?_
    exact W.iret (v := 1) hx hb hr (fun t9 ht hW => ke_i hw ht (by simp only [f_X6_remedyFor, if_neg h1]) rfl) hw.2.2.2 dX6_remedyFor_6
def f_X0_leadOf (i1 : Nat) (B : BT) : Nat :=
  (if B (10 + i1) 12 < 0 then i1 else (if B 0 4 ≤ B (10 + i1) 12 then i1 else (B (10 + i1) 12).toNatClampNeg))
set_option maxHeartbeats 4000000 in
set_option maxRecDepth 100000 in
theorem m_X0_leadOf (l : Launch) (g : wG) (S : Nat → BT) (p : Nat) (B : BT) (y : (Nat → Nat → Int32) × (Nat → Int64) × (Nat → UInt64)) (hp : p < 2) (i1 : Nat) (hi1 : i1 < 20) (n m9 : Nat) (hN : CN B n m9) : mR l yX0_leadOf cX0_leadOf 2 (some (.object "GrievanceOmbud$Complaint")) ({ frames := 0, cells := 0, slots := 0, locals := 0 } : Room) 0 0 g (xB S p B y) [.ref (gA g (jB p)), .ref (gA g (jC p i1))] (gA g (jC p (f_X0_leadOf i1 B))) (xB S p B y) := by
  refine Met.ofW (cc := cX0_leadOf) (maxL := 2) (ret := some (.object "GrievanceOmbud$Complaint")) (by decide) rfl ?_
  intro p9 e s m args below meth c s₁ BL hml hv
  obtain ⟨rfl, hk, hPB⟩ := hv
  have hx := BL.exec
  have hb := BL.bytes
  have hc : CX p9 c cX0_leadOf s _ m RX0 := ⟨hx, hb, findClass_of_methodNamed BL.named, fun w h => atoms_spec BL.pre w (List.mem_cons_of_mem _ h)⟩
  have hr := BL.returns
  have hlocks := BL.notSynchronized
  have hw : WS g s (xB S p B y) s.heap [] := ⟨hPB, va_S.rf⟩
  have hl := lv_entry ([.ref (gA g (jB p)), .ref (gA g (jC p i1))]) (n := 2) (Nat.le_of_ble_eq_true rfl)
  rw [lg_entry_eq]
  generalize (lg_sl ([.ref (gA g (jB p)), .ref (gA g (jC p i1))]) ++ List.replicate (2 - (lg_sl ([.ref (gA g (jB p)), .ref (gA g (jC p i1))])).length) Slot.unset).toArray = ls at hl ⊢
  have hl : lv_has ls 2 [(0, .ref (gA g (jB p))), (1, .ref (gA g (jC p i1)))] := hl
  refine lv_aload_n hx hb dX0_leadOf_0 rfl (lv_at hl 1 rfl) ?_
  refine k_getN hc hk hw (bt_C hp hi1) rfl iX1 12 (by decide) nq162 (v := .int (B (10 + i1) 12)) rfl dX0_leadOf_1 ?_
  refine lv_if_lt (tgt := 30) hx hb dX0_leadOf_4 (by decide) (fun h1 => ?_) (fun h1 => ?_)
  · refine lv_aload_n hx hb dX0_leadOf_30 rfl (lv_at hl 1 rfl) ?_
    exact W.aret (v := .ref (gA g (jC p i1))) hx hb hr (Or.inl ⟨_, rfl⟩) (Or.inr ⟨_, rfl⟩) (fun t9 ht hW => ke_r hw ht (by simp only [f_X0_leadOf, if_pos h1]) rfl) hw.2.2.2 dX0_leadOf_31
  · refine lv_aload_n hx hb dX0_leadOf_7 rfl (lv_at hl 1 rfl) ?_
    refine k_getN hc hk hw (bt_C hp hi1) rfl iX1 12 (by decide) nq162 (v := .int (B (10 + i1) 12)) rfl dX0_leadOf_8 ?_
    refine lv_aload_n hx hb dX0_leadOf_11 rfl (lv_at hl 0 rfl) ?_
    refine k_get hc hk hw (bt_B hp) rfl iX0 4 (by decide) q208 (v := .int (B 0 4)) rfl dX0_leadOf_12 ?_
    refine lv_icmp_ge (tgt := 30) hx hb dX0_leadOf_15 (by decide) (fun h2 => ?_) (fun h2 => ?_)
    · refine lv_aload_n hx hb dX0_leadOf_30 rfl (lv_at hl 1 rfl) ?_
      exact W.aret (v := .ref (gA g (jC p i1))) hx hb hr (Or.inl ⟨_, rfl⟩) (Or.inr ⟨_, rfl⟩) (fun t9 ht hW => ke_r hw ht (by simp only [f_X0_leadOf, if_neg h1, if_pos h2]) rfl) hw.2.2.2 dX0_leadOf_31
    · refine lv_aload_n hx hb dX0_leadOf_18 rfl (lv_at hl 0 rfl) ?_
      refine k_get hc hk hw (bt_B hp) rfl iX0 1 (by decide) q203 (v := .ref (gA g (jCs p))) rfl dX0_leadOf_19 ?_
      refine lv_aload_n hx hb dX0_leadOf_22 rfl (lv_at hl 1 rfl) ?_
      refine k_getN hc hk hw (bt_C hp hi1) rfl iX1 12 (by decide) nq162 (v := .int (B (10 + i1) 12)) rfl dX0_leadOf_23 ?_
      refine k_ald (t0 := 5) (f := fun k => gA g (jC p k)) (n := ((B (10 + i1) 12).toNatClampNeg)) hc hk hw rfl (at_Cs hp) (vinC h1 h2 hN.2.1 (by have := hN.2.2.2.1; omega) (by omega)).1 rfl dX0_leadOf_26 ?_
      refine lv_goto (tgt := 31) hx hb dX0_leadOf_27 (by decide) ?_
      exact W.aret (v := .ref (gA g (jC p ((B (10 + i1) 12).toNatClampNeg)))) hx hb hr (Or.inl ⟨_, rfl⟩) (Or.inr ⟨_, rfl⟩) (fun t9 ht hW => ke_r hw ht (by simp only [f_X0_leadOf, if_neg h1, if_neg h2]) rfl) hw.2.2.2 dX0_leadOf_31
theorem lt_X0_leadOf {i1 : Nat} {B : BT} {n m9 : Nat} (hN : CN B n m9) (hi1 : i1 < 20) : f_X0_leadOf i1 B < 20 := by
  unfold f_X0_leadOf
  by_cases h1 : B (10 + i1) 12 < 0
  · rw [if_pos h1]; exact hi1
  · rw [if_neg h1]
    by_cases h2 : B 0 4 ≤ B (10 + i1) 12
    · rw [if_pos h2]; exact hi1
    · rw [if_neg h2]
      have := (vinC h1 h2 hN.2.1 (Nat.le_refl _) (by have := hN.2.2.2.1; omega)).2
      have := hN.2.2.2.1
      omega
def f_X0_officeOf (i1 : Nat) (B : BT) : Nat :=
  (if B (10 + i1) 3 < 0 then 0 else (if B 0 3 ≤ B (10 + i1) 3 then 0 else (B (10 + i1) 3).toNatClampNeg))
set_option maxHeartbeats 4000000 in
set_option maxRecDepth 100000 in
theorem m_X0_officeOf (l : Launch) (g : wG) (S : Nat → BT) (p : Nat) (B : BT) (y : (Nat → Nat → Int32) × (Nat → Int64) × (Nat → UInt64)) (hp : p < 2) (i1 : Nat) (hi1 : i1 < 20) (n m9 : Nat) (hN : CN B n m9) : mR l yX0_officeOf cX0_officeOf 2 (some (.object "GrievanceOmbud$Office")) ({ frames := 0, cells := 0, slots := 0, locals := 0 } : Room) 0 0 g (xB S p B y) [.ref (gA g (jB p)), .ref (gA g (jC p i1))] (gA g (jO p (f_X0_officeOf i1 B))) (xB S p B y) := by
  refine Met.ofW (cc := cX0_officeOf) (maxL := 2) (ret := some (.object "GrievanceOmbud$Office")) (by decide) rfl ?_
  intro p9 e s m args below meth c s₁ BL hml hv
  obtain ⟨rfl, hk, hPB⟩ := hv
  have hx := BL.exec
  have hb := BL.bytes
  have hc : CX p9 c cX0_officeOf s _ m RX0 := ⟨hx, hb, findClass_of_methodNamed BL.named, fun w h => atoms_spec BL.pre w (List.mem_cons_of_mem _ h)⟩
  have hr := BL.returns
  have hlocks := BL.notSynchronized
  have hw : WS g s (xB S p B y) s.heap [] := ⟨hPB, va_S.rf⟩
  have hl := lv_entry ([.ref (gA g (jB p)), .ref (gA g (jC p i1))]) (n := 2) (Nat.le_of_ble_eq_true rfl)
  rw [lg_entry_eq]
  generalize (lg_sl ([.ref (gA g (jB p)), .ref (gA g (jC p i1))]) ++ List.replicate (2 - (lg_sl ([.ref (gA g (jB p)), .ref (gA g (jC p i1))])).length) Slot.unset).toArray = ls at hl ⊢
  have hl : lv_has ls 2 [(0, .ref (gA g (jB p))), (1, .ref (gA g (jC p i1)))] := hl
  refine lv_aload_n hx hb dX0_officeOf_0 rfl (lv_at hl 1 rfl) ?_
  refine k_getN hc hk hw (bt_C hp hi1) rfl iX1 3 (by decide) nq142 (v := .int (B (10 + i1) 3)) rfl dX0_officeOf_1 ?_
  refine lv_if_lt (tgt := 30) hx hb dX0_officeOf_4 (by decide) (fun h1 => ?_) (fun h1 => ?_)
  · refine lv_aload_n hx hb dX0_officeOf_30 rfl (lv_at hl 0 rfl) ?_
    refine k_get hc hk hw (bt_B hp) rfl iX0 0 (by decide) q201 (v := .ref (gA g (jOs p))) rfl dX0_officeOf_31 ?_
    refine lv_iconst (v := 0) hx hb dX0_officeOf_34 (by decide) ?_
    refine k_ald (t0 := 6) (f := fun k => gA g (jO p k)) (n := 0) hc hk hw rfl (at_Os hp) (vp_in_nI (n := 0) (by decide) (by decide)) (by decide) dX0_officeOf_35 ?_
    exact W.aret (v := .ref (gA g (jO p 0))) hx hb hr (Or.inl ⟨_, rfl⟩) (Or.inr ⟨_, rfl⟩) (fun t9 ht hW => ke_r hw ht (by simp only [f_X0_officeOf, if_pos h1]) rfl) hw.2.2.2 dX0_officeOf_36
  · refine lv_aload_n hx hb dX0_officeOf_7 rfl (lv_at hl 1 rfl) ?_
    refine k_getN hc hk hw (bt_C hp hi1) rfl iX1 3 (by decide) nq142 (v := .int (B (10 + i1) 3)) rfl dX0_officeOf_8 ?_
    refine lv_aload_n hx hb dX0_officeOf_11 rfl (lv_at hl 0 rfl) ?_
    refine k_get hc hk hw (bt_B hp) rfl iX0 3 (by decide) q206 (v := .int (B 0 3)) rfl dX0_officeOf_12 ?_
    refine lv_icmp_ge (tgt := 30) hx hb dX0_officeOf_15 (by decide) (fun h2 => ?_) (fun h2 => ?_)
    · refine lv_aload_n hx hb dX0_officeOf_30 rfl (lv_at hl 0 rfl) ?_
      refine k_get hc hk hw (bt_B hp) rfl iX0 0 (by decide) q201 (v := .ref (gA g (jOs p))) rfl dX0_officeOf_31 ?_
      refine lv_iconst (v := 0) hx hb dX0_officeOf_34 (by decide) ?_
      refine k_ald (t0 := 6) (f := fun k => gA g (jO p k)) (n := 0) hc hk hw rfl (at_Os hp) (vp_in_nI (n := 0) (by decide) (by decide)) (by decide) dX0_officeOf_35 ?_
      exact W.aret (v := .ref (gA g (jO p 0))) hx hb hr (Or.inl ⟨_, rfl⟩) (Or.inr ⟨_, rfl⟩) (fun t9 ht hW => ke_r hw ht (by simp only [f_X0_officeOf, if_neg h1, if_pos h2]) rfl) hw.2.2.2 dX0_officeOf_36
    · refine lv_aload_n hx hb dX0_officeOf_18 rfl (lv_at hl 0 rfl) ?_
      refine k_get hc hk hw (bt_B hp) rfl iX0 0 (by decide) q201 (v := .ref (gA g (jOs p))) rfl dX0_officeOf_19 ?_
      refine lv_aload_n hx hb dX0_officeOf_22 rfl (lv_at hl 1 rfl) ?_
      refine k_getN hc hk hw (bt_C hp hi1) rfl iX1 3 (by decide) nq142 (v := .int (B (10 + i1) 3)) rfl dX0_officeOf_23 ?_
      refine k_ald (t0 := 6) (f := fun k => gA g (jO p k)) (n := ((B (10 + i1) 3).toNatClampNeg)) hc hk hw rfl (at_Os hp) (vinC h1 h2 hN.1 (by have := hN.2.2.1; omega) (by omega)).1 rfl dX0_officeOf_26 ?_
      refine lv_goto (tgt := 36) hx hb dX0_officeOf_27 (by decide) ?_
      exact W.aret (v := .ref (gA g (jO p ((B (10 + i1) 3).toNatClampNeg)))) hx hb hr (Or.inl ⟨_, rfl⟩) (Or.inr ⟨_, rfl⟩) (fun t9 ht hW => ke_r hw ht (by simp only [f_X0_officeOf, if_neg h1, if_neg h2]) rfl) hw.2.2.2 dX0_officeOf_36
theorem lt_X0_officeOf {i1 : Nat} {B : BT} {n m9 : Nat} (hN : CN B n m9) : f_X0_officeOf i1 B < 6 := by
  unfold f_X0_officeOf
  by_cases h1 : B (10 + i1) 3 < 0
  · rw [if_pos h1]; omega
  · rw [if_neg h1]
    by_cases h2 : B 0 3 ≤ B (10 + i1) 3
    · rw [if_pos h2]; omega
    · rw [if_neg h2]
      have := (vinC h1 h2 hN.1 (Nat.le_refl _) (by have := hN.2.2.1; omega)).2
      have := hN.2.2.1
      omega
def b_followersOf (i1 : Nat) (B : BT) (k : Nat) (z : Int32) : Int32 :=
  (if nI k = nI i1 then z else (if B (10 + k) 12 = nI i1 then z + 1 else z))
def L_followersOf (i1 : Nat) (B : BT) : Nat → Int32
  | 0 => 0
  | k + 1 => b_followersOf i1 B k (L_followersOf i1 B k)
def f_X0_followersOf (i1 : Nat) (B : BT) : Int32 :=
  (L_followersOf i1 B ((B 0 4).toNatClampNeg))
set_option maxHeartbeats 4000000 in
set_option maxRecDepth 100000 in
theorem m_X0_followersOf (l : Launch) (g : wG) (S : Nat → BT) (p : Nat) (B : BT) (y : (Nat → Nat → Int32) × (Nat → Int64) × (Nat → UInt64)) (hp : p < 2) (i1 : Nat) (hi1 : i1 < 20) (n m9 : Nat) (hN : CN B n m9) : mI l yX0_followersOf cX0_followersOf 4 (some .int) ({ frames := 0, cells := 0, slots := 0, locals := 0 } : Room) 0 0 g (xB S p B y) [.ref (gA g (jB p)), .ref (gA g (jC p i1))] (f_X0_followersOf i1 B) (xB S p B y) := by
  refine Met.ofW (cc := cX0_followersOf) (maxL := 4) (ret := some .int) (by decide) rfl ?_
  intro p9 e s m args below meth c s₁ BL hml hv
  obtain ⟨rfl, hk, hPB⟩ := hv
  have hx := BL.exec
  have hb := BL.bytes
  have hc : CX p9 c cX0_followersOf s _ m RX0 := ⟨hx, hb, findClass_of_methodNamed BL.named, fun w h => atoms_spec BL.pre w (List.mem_cons_of_mem _ h)⟩
  have hr := BL.returns
  have hlocks := BL.notSynchronized
  have hw : WS g s (xB S p B y) s.heap [] := ⟨hPB, va_S.rf⟩
  have hl := lv_entry ([.ref (gA g (jB p)), .ref (gA g (jC p i1))]) (n := 4) (Nat.le_of_ble_eq_true rfl)
  rw [lg_entry_eq]
  generalize (lg_sl ([.ref (gA g (jB p)), .ref (gA g (jC p i1))]) ++ List.replicate (4 - (lg_sl ([.ref (gA g (jB p)), .ref (gA g (jC p i1))])).length) Slot.unset).toArray = ls at hl ⊢
  have hl : lv_has ls 4 [(0, .ref (gA g (jB p))), (1, .ref (gA g (jC p i1)))] := hl
  refine lv_iconst (v := 0) hx hb dX0_followersOf_0 (by decide) ?_
  refine lv_istore_n (lv' := [(2, .int 0), (0, .ref (gA g (jB p))), (1, .ref (gA g (jC p i1)))]) hx hb dX0_followersOf_1 rfl hl (by decide) rfl (fun ls hl => ?_)
  refine lv_iconst (v := 0) hx hb dX0_followersOf_2 (by decide) ?_
  refine lv_istore_n (lv' := [(3, .int 0), (2, .int 0), (0, .ref (gA g (jB p))), (1, .ref (gA g (jC p i1)))]) hx hb dX0_followersOf_3 rfl hl (by decide) rfl (fun ls hl => ?_)
  have LP1 : ∀ (f k : Nat), k ≤ (B 0 4).toNatClampNeg → (B 0 4).toNatClampNeg + 1 ≤ k + f → ∀ (H : Heap) (locs : List Loc), WS g s (xB S p B y) H locs → ∀ (ls : Array Slot), lv_has ls 4 [(3, .int (nI k)), (2, .int (L_followersOf i1 B k)), (0, .ref (gA g (jB p))), (1, .ref (gA g (jC p i1)))] → W p9 l e ({ frames := 0, cells := 0, slots := 0, locals := 0 } : Room) s m ([.ref (gA g (jB p)), .ref (gA g (jC p i1))] : List Value).toArray below meth c H locs 0 0 (MQ below (va_Qi (fun (v : Int32) (u : wSt) => v = f_X0_followersOf i1 B ∧ u = (xB S p B y)) (PB g) (AA g)) (([.ref (gA g (jB p)), .ref (gA g (jC p i1))] : List Value).toArray) s 0 0 (AA g)) (F0 m 4 ls []) := by
    intro f
    induction f with
    | zero => intro k h1 h2; exact absurd h2 (by omega)
    | succ f ih =>
      intro k hk9 hf9 H locs hw ls hl
      have hl4 := CN.l4 hN
      refine lv_iload_n hx hb dX0_followersOf_4 rfl (lv_at hl 0 rfl) ?_
      refine lv_aload_n hx hb dX0_followersOf_5 rfl (lv_at hl 2 rfl) ?_
      refine k_get hc hk hw (bt_B hp) rfl iX0 4 (by decide) q208 (v := .int (B 0 4)) rfl dX0_followersOf_6 ?_
      refine lv_icmp_ge (tgt := 45) hx hb dX0_followersOf_9 (by decide) (fun h2 => ?_) (fun h2 => ?_)
      · have hkn := lp_out h2 (CN.cc hN hN) hk9 (by omega)
        subst hkn
        refine lv_iload_n hx hb dX0_followersOf_45 rfl (lv_at hl 1 rfl) ?_
        exact W.iret (v := (L_followersOf i1 B ((B 0 4).toNatClampNeg))) hx hb hr (fun t9 ht hW => ke_i hw ht (by simp only [f_X0_followersOf]) rfl) hw.2.2.2 dX0_followersOf_46
      · have hkn := lp_in h2 (CN.cc hN hN) hk9 (by omega)
        refine lv_iload_n hx hb dX0_followersOf_12 rfl (lv_at hl 0 rfl) ?_
        refine lv_aload_n hx hb dX0_followersOf_13 rfl (lv_at hl 3 rfl) ?_
        refine k_getN hc hk hw (bt_C hp hi1) rfl iX1 0 (by decide) nq134 (v := .int (nI i1)) rfl dX0_followersOf_14 ?_
        refine lv_icmp_eq (tgt := 39) hx hb dX0_followersOf_17 (by decide) (fun h3 => ?_) (fun h3 => ?_)
        · refine lv_iinc (v := nI (k + 1)) (lv' := [(3, .int (nI (k + 1))), (2, .int (L_followersOf i1 B k)), (0, .ref (gA g (jB p))), (1, .ref (gA g (jC p i1)))]) hx hb dX0_followersOf_39 hl (k := 0) rfl (by first | exact (nI_succ _).symm | rfl) (by decide) rfl (fun ls hl => ?_)
          refine lv_goto (tgt := 4) hx hb dX0_followersOf_42 (by decide) ?_
          have hw9 : WS g s (xB S p B y) H locs := by
            exact hw
          have hl9 := lv_sub hl [0, 1, 2, 3] rfl
          have e8 : (L_followersOf i1 B k) = (L_followersOf i1 B (k + 1)) := by simp only [L_followersOf, b_followersOf, if_pos h3]
          rw [e8] at hl9
          exact ih (k + 1) (by omega) (by omega) _ _ hw9 _ hl9
        · refine lv_aload_n hx hb dX0_followersOf_20 rfl (lv_at hl 2 rfl) ?_
          refine k_get hc hk hw (bt_B hp) rfl iX0 1 (by decide) q203 (v := .ref (gA g (jCs p))) rfl dX0_followersOf_21 ?_
          refine lv_iload_n hx hb dX0_followersOf_24 rfl (lv_at hl 0 rfl) ?_
          refine k_ald (t0 := 5) (f := fun k => gA g (jC p k)) (n := k) hc hk hw rfl (at_Cs hp) (vp_in_nI (Nat.lt_of_lt_of_le hkn (by omega)) (by omega)) (nI_clamp (by have := hkn; omega)) dX0_followersOf_25 ?_
          refine k_getN hc hk hw (bt_C hp (Nat.lt_of_lt_of_le hkn (by omega))) rfl iX1 12 (by decide) nq162 (v := .int (B (10 + k) 12)) rfl dX0_followersOf_26 ?_
          refine lv_aload_n hx hb dX0_followersOf_29 rfl (lv_at hl 3 rfl) ?_
          refine k_getN hc hk hw (bt_C hp hi1) rfl iX1 0 (by decide) nq134 (v := .int (nI i1)) rfl dX0_followersOf_30 ?_
          refine lv_icmp_ne (tgt := 39) hx hb dX0_followersOf_33 (by decide) (fun h5 => ?_) (fun h5 => ?_)
          · refine lv_iinc (v := nI (k + 1)) (lv' := [(3, .int (nI (k + 1))), (2, .int (L_followersOf i1 B k)), (0, .ref (gA g (jB p))), (1, .ref (gA g (jC p i1)))]) hx hb dX0_followersOf_39 hl (k := 0) rfl (by first | exact (nI_succ _).symm | rfl) (by decide) rfl (fun ls hl => ?_)
            refine lv_goto (tgt := 4) hx hb dX0_followersOf_42 (by decide) ?_
            have hw9 : WS g s (xB S p B y) H locs := by
              exact hw
            have hl9 := lv_sub hl [0, 1, 2, 3] rfl
            have e8 : (L_followersOf i1 B k) = (L_followersOf i1 B (k + 1)) := by simp only [L_followersOf, b_followersOf, if_neg h3, if_neg h5]
            rw [e8] at hl9
            exact ih (k + 1) (by omega) (by omega) _ _ hw9 _ hl9
          · refine lv_iinc (v := (L_followersOf i1 B k) + 1) (lv' := [(2, .int ((L_followersOf i1 B k) + 1)), (3, .int (nI k)), (0, .ref (gA g (jB p))), (1, .ref (gA g (jC p i1)))]) hx hb dX0_followersOf_36 hl (k := 1) rfl rfl (by decide) rfl (fun ls hl => ?_)
            refine lv_iinc (v := nI (k + 1)) (lv' := [(3, .int (nI (k + 1))), (2, .int ((L_followersOf i1 B k) + 1)), (0, .ref (gA g (jB p))), (1, .ref (gA g (jC p i1)))]) hx hb dX0_followersOf_39 hl (k := 1) rfl (by first | exact (nI_succ _).symm | rfl) (by decide) rfl (fun ls hl => ?_)
            refine lv_goto (tgt := 4) hx hb dX0_followersOf_42 (by decide) ?_
            have hw9 : WS g s (xB S p B y) H locs := by
              exact hw
            have hl9 := lv_sub hl [0, 1, 2, 3] rfl
            have e8 : (L_followersOf i1 B k) + 1 = (L_followersOf i1 B (k + 1)) := by simp only [L_followersOf, b_followersOf, if_neg h3, if_pos h5]
            rw [e8] at hl9
            exact ih (k + 1) (by omega) (by omega) _ _ hw9 _ hl9
  exact LP1 ((B 0 4).toNatClampNeg + 1) 0 (Nat.zero_le _) (by omega) _ _ hw _ (lv_sub hl [0, 1, 2, 3] rfl)
def b_countStanding (a1 : Int32) (B : BT) (k : Nat) (z : Int32) : Int32 :=
  (if B (10 + k) 11 = a1 then z + 1 else z)
def L_countStanding (a1 : Int32) (B : BT) : Nat → Int32
  | 0 => 0
  | k + 1 => b_countStanding a1 B k (L_countStanding a1 B k)
def f_X0_countStanding (a1 : Int32) (B : BT) : Int32 :=
  (L_countStanding a1 B ((B 0 4).toNatClampNeg))
set_option maxHeartbeats 4000000 in
set_option maxRecDepth 100000 in
theorem m_X0_countStanding (l : Launch) (g : wG) (S : Nat → BT) (p : Nat) (B : BT) (y : (Nat → Nat → Int32) × (Nat → Int64) × (Nat → UInt64)) (hp : p < 2) (a1 : Int32) (n m9 : Nat) (hN : CN B n m9) : mI l yX0_countStanding cX0_countStanding 4 (some .int) ({ frames := 0, cells := 0, slots := 0, locals := 0 } : Room) 0 0 g (xB S p B y) [.ref (gA g (jB p)), .int a1] (f_X0_countStanding a1 B) (xB S p B y) := by
  refine Met.ofW (cc := cX0_countStanding) (maxL := 4) (ret := some .int) (by decide) rfl ?_
  intro p9 e s m args below meth c s₁ BL hml hv
  obtain ⟨rfl, hk, hPB⟩ := hv
  have hx := BL.exec
  have hb := BL.bytes
  have hc : CX p9 c cX0_countStanding s _ m RX0 := ⟨hx, hb, findClass_of_methodNamed BL.named, fun w h => atoms_spec BL.pre w (List.mem_cons_of_mem _ h)⟩
  have hr := BL.returns
  have hlocks := BL.notSynchronized
  have hw : WS g s (xB S p B y) s.heap [] := ⟨hPB, va_S.rf⟩
  have hl := lv_entry ([.ref (gA g (jB p)), .int a1]) (n := 4) (Nat.le_of_ble_eq_true rfl)
  rw [lg_entry_eq]
  generalize (lg_sl ([.ref (gA g (jB p)), .int a1]) ++ List.replicate (4 - (lg_sl ([.ref (gA g (jB p)), .int a1])).length) Slot.unset).toArray = ls at hl ⊢
  have hl : lv_has ls 4 [(0, .ref (gA g (jB p))), (1, .int a1)] := hl
  refine lv_iconst (v := 0) hx hb dX0_countStanding_0 (by decide) ?_
  refine lv_istore_n (lv' := [(2, .int 0), (0, .ref (gA g (jB p))), (1, .int a1)]) hx hb dX0_countStanding_1 rfl hl (by decide) rfl (fun ls hl => ?_)
  refine lv_iconst (v := 0) hx hb dX0_countStanding_2 (by decide) ?_
  refine lv_istore_n (lv' := [(3, .int 0), (2, .int 0), (0, .ref (gA g (jB p))), (1, .int a1)]) hx hb dX0_countStanding_3 rfl hl (by decide) rfl (fun ls hl => ?_)
  have LP1 : ∀ (f k : Nat), k ≤ (B 0 4).toNatClampNeg → (B 0 4).toNatClampNeg + 1 ≤ k + f → ∀ (H : Heap) (locs : List Loc), WS g s (xB S p B y) H locs → ∀ (ls : Array Slot), lv_has ls 4 [(3, .int (nI k)), (2, .int (L_countStanding a1 B k)), (0, .ref (gA g (jB p))), (1, .int a1)] → W p9 l e ({ frames := 0, cells := 0, slots := 0, locals := 0 } : Room) s m ([.ref (gA g (jB p)), .int a1] : List Value).toArray below meth c H locs 0 0 (MQ below (va_Qi (fun (v : Int32) (u : wSt) => v = f_X0_countStanding a1 B ∧ u = (xB S p B y)) (PB g) (AA g)) (([.ref (gA g (jB p)), .int a1] : List Value).toArray) s 0 0 (AA g)) (F0 m 4 ls []) := by
    intro f
    induction f with
    | zero => intro k h1 h2; exact absurd h2 (by omega)
    | succ f ih =>
      intro k hk9 hf9 H locs hw ls hl
      have hl4 := CN.l4 hN
      refine lv_iload_n hx hb dX0_countStanding_4 rfl (lv_at hl 0 rfl) ?_
      refine lv_aload_n hx hb dX0_countStanding_5 rfl (lv_at hl 2 rfl) ?_
      refine k_get hc hk hw (bt_B hp) rfl iX0 4 (by decide) q208 (v := .int (B 0 4)) rfl dX0_countStanding_6 ?_
      refine lv_icmp_ge (tgt := 34) hx hb dX0_countStanding_9 (by decide) (fun h2 => ?_) (fun h2 => ?_)
      · have hkn := lp_out h2 (CN.cc hN hN) hk9 (by omega)
        subst hkn
        refine lv_iload_n hx hb dX0_countStanding_34 rfl (lv_at hl 1 rfl) ?_
        exact W.iret (v := (L_countStanding a1 B ((B 0 4).toNatClampNeg))) hx hb hr (fun t9 ht hW => ke_i hw ht (by simp only [f_X0_countStanding]) rfl) hw.2.2.2 dX0_countStanding_35
      · have hkn := lp_in h2 (CN.cc hN hN) hk9 (by omega)
        refine lv_aload_n hx hb dX0_countStanding_12 rfl (lv_at hl 2 rfl) ?_
        refine k_get hc hk hw (bt_B hp) rfl iX0 1 (by decide) q203 (v := .ref (gA g (jCs p))) rfl dX0_countStanding_13 ?_
        refine lv_iload_n hx hb dX0_countStanding_16 rfl (lv_at hl 0 rfl) ?_
        refine k_ald (t0 := 5) (f := fun k => gA g (jC p k)) (n := k) hc hk hw rfl (at_Cs hp) (vp_in_nI (Nat.lt_of_lt_of_le hkn (by omega)) (by omega)) (nI_clamp (by have := hkn; omega)) dX0_countStanding_17 ?_
        refine k_getN hc hk hw (bt_C hp (Nat.lt_of_lt_of_le hkn (by omega))) rfl iX1 11 (by decide) nq159 (v := .int (B (10 + k) 11)) rfl dX0_countStanding_18 ?_
        refine lv_iload_n hx hb dX0_countStanding_21 rfl (lv_at hl 3 rfl) ?_
        refine lv_icmp_ne (tgt := 28) hx hb dX0_countStanding_22 (by decide) (fun h3 => ?_) (fun h3 => ?_)
        · refine lv_iinc (v := nI (k + 1)) (lv' := [(3, .int (nI (k + 1))), (2, .int (L_countStanding a1 B k)), (0, .ref (gA g (jB p))), (1, .int a1)]) hx hb dX0_countStanding_28 hl (k := 0) rfl (by first | exact (nI_succ _).symm | rfl) (by decide) rfl (fun ls hl => ?_)
          refine lv_goto (tgt := 4) hx hb dX0_countStanding_31 (by decide) ?_
          have hw9 : WS g s (xB S p B y) H locs := by
            exact hw
          have hl9 := lv_sub hl [0, 1, 2, 3] rfl
          have e8 : (L_countStanding a1 B k) = (L_countStanding a1 B (k + 1)) := by simp only [L_countStanding, b_countStanding, if_neg h3]
          rw [e8] at hl9
          exact ih (k + 1) (by omega) (by omega) _ _ hw9 _ hl9
        · refine lv_iinc (v := (L_countStanding a1 B k) + 1) (lv' := [(2, .int ((L_countStanding a1 B k) + 1)), (3, .int (nI k)), (0, .ref (gA g (jB p))), (1, .int a1)]) hx hb dX0_countStanding_25 hl (k := 1) rfl rfl (by decide) rfl (fun ls hl => ?_)
          refine lv_iinc (v := nI (k + 1)) (lv' := [(3, .int (nI (k + 1))), (2, .int ((L_countStanding a1 B k) + 1)), (0, .ref (gA g (jB p))), (1, .int a1)]) hx hb dX0_countStanding_28 hl (k := 1) rfl (by first | exact (nI_succ _).symm | rfl) (by decide) rfl (fun ls hl => ?_)
          refine lv_goto (tgt := 4) hx hb dX0_countStanding_31 (by decide) ?_
          have hw9 : WS g s (xB S p B y) H locs := by
            exact hw
          have hl9 := lv_sub hl [0, 1, 2, 3] rfl
          have e8 : (L_countStanding a1 B k) + 1 = (L_countStanding a1 B (k + 1)) := by simp only [L_countStanding, b_countStanding, if_pos h3]
          rw [e8] at hl9
          exact ih (k + 1) (by omega) (by omega) _ _ hw9 _ hl9
  exact LP1 ((B 0 4).toNatClampNeg + 1) 0 (Nat.zero_le _) (by omega) _ _ hw _ (lv_sub hl [0, 1, 2, 3] rfl)
def b_countTold (a1 : Int32) (B : BT) (k : Nat) (z : Int32) : Int32 :=
  (if B (10 + k) 5 = a1 then z + 1 else z)
def L_countTold (a1 : Int32) (B : BT) : Nat → Int32
  | 0 => 0
  | k + 1 => b_countTold a1 B k (L_countTold a1 B k)
def f_X0_countTold (a1 : Int32) (B : BT) : Int32 :=
  (L_countTold a1 B ((B 0 4).toNatClampNeg))
set_option maxHeartbeats 4000000 in
set_option maxRecDepth 100000 in
theorem m_X0_countTold (l : Launch) (g : wG) (S : Nat → BT) (p : Nat) (B : BT) (y : (Nat → Nat → Int32) × (Nat → Int64) × (Nat → UInt64)) (hp : p < 2) (a1 : Int32) (n m9 : Nat) (hN : CN B n m9) : mI l yX0_countTold cX0_countTold 4 (some .int) ({ frames := 0, cells := 0, slots := 0, locals := 0 } : Room) 0 0 g (xB S p B y) [.ref (gA g (jB p)), .int a1] (f_X0_countTold a1 B) (xB S p B y) := by
  refine Met.ofW (cc := cX0_countTold) (maxL := 4) (ret := some .int) (by decide) rfl ?_
  intro p9 e s m args below meth c s₁ BL hml hv
  obtain ⟨rfl, hk, hPB⟩ := hv
  have hx := BL.exec
  have hb := BL.bytes
  have hc : CX p9 c cX0_countTold s _ m RX0 := ⟨hx, hb, findClass_of_methodNamed BL.named, fun w h => atoms_spec BL.pre w (List.mem_cons_of_mem _ h)⟩
  have hr := BL.returns
  have hlocks := BL.notSynchronized
  have hw : WS g s (xB S p B y) s.heap [] := ⟨hPB, va_S.rf⟩
  have hl := lv_entry ([.ref (gA g (jB p)), .int a1]) (n := 4) (Nat.le_of_ble_eq_true rfl)
  rw [lg_entry_eq]
  generalize (lg_sl ([.ref (gA g (jB p)), .int a1]) ++ List.replicate (4 - (lg_sl ([.ref (gA g (jB p)), .int a1])).length) Slot.unset).toArray = ls at hl ⊢
  have hl : lv_has ls 4 [(0, .ref (gA g (jB p))), (1, .int a1)] := hl
  refine lv_iconst (v := 0) hx hb dX0_countTold_0 (by decide) ?_
  refine lv_istore_n (lv' := [(2, .int 0), (0, .ref (gA g (jB p))), (1, .int a1)]) hx hb dX0_countTold_1 rfl hl (by decide) rfl (fun ls hl => ?_)
  refine lv_iconst (v := 0) hx hb dX0_countTold_2 (by decide) ?_
  refine lv_istore_n (lv' := [(3, .int 0), (2, .int 0), (0, .ref (gA g (jB p))), (1, .int a1)]) hx hb dX0_countTold_3 rfl hl (by decide) rfl (fun ls hl => ?_)
  have LP1 : ∀ (f k : Nat), k ≤ (B 0 4).toNatClampNeg → (B 0 4).toNatClampNeg + 1 ≤ k + f → ∀ (H : Heap) (locs : List Loc), WS g s (xB S p B y) H locs → ∀ (ls : Array Slot), lv_has ls 4 [(3, .int (nI k)), (2, .int (L_countTold a1 B k)), (0, .ref (gA g (jB p))), (1, .int a1)] → W p9 l e ({ frames := 0, cells := 0, slots := 0, locals := 0 } : Room) s m ([.ref (gA g (jB p)), .int a1] : List Value).toArray below meth c H locs 0 0 (MQ below (va_Qi (fun (v : Int32) (u : wSt) => v = f_X0_countTold a1 B ∧ u = (xB S p B y)) (PB g) (AA g)) (([.ref (gA g (jB p)), .int a1] : List Value).toArray) s 0 0 (AA g)) (F0 m 4 ls []) := by
    intro f
    induction f with
    | zero => intro k h1 h2; exact absurd h2 (by omega)
    | succ f ih =>
      intro k hk9 hf9 H locs hw ls hl
      have hl4 := CN.l4 hN
      refine lv_iload_n hx hb dX0_countTold_4 rfl (lv_at hl 0 rfl) ?_
      refine lv_aload_n hx hb dX0_countTold_5 rfl (lv_at hl 2 rfl) ?_
      refine k_get hc hk hw (bt_B hp) rfl iX0 4 (by decide) q208 (v := .int (B 0 4)) rfl dX0_countTold_6 ?_
      refine lv_icmp_ge (tgt := 34) hx hb dX0_countTold_9 (by decide) (fun h2 => ?_) (fun h2 => ?_)
      · have hkn := lp_out h2 (CN.cc hN hN) hk9 (by omega)
        subst hkn
        refine lv_iload_n hx hb dX0_countTold_34 rfl (lv_at hl 1 rfl) ?_
        exact W.iret (v := (L_countTold a1 B ((B 0 4).toNatClampNeg))) hx hb hr (fun t9 ht hW => ke_i hw ht (by simp only [f_X0_countTold]) rfl) hw.2.2.2 dX0_countTold_35
      · have hkn := lp_in h2 (CN.cc hN hN) hk9 (by omega)
        refine lv_aload_n hx hb dX0_countTold_12 rfl (lv_at hl 2 rfl) ?_
        refine k_get hc hk hw (bt_B hp) rfl iX0 1 (by decide) q203 (v := .ref (gA g (jCs p))) rfl dX0_countTold_13 ?_
        refine lv_iload_n hx hb dX0_countTold_16 rfl (lv_at hl 0 rfl) ?_
        refine k_ald (t0 := 5) (f := fun k => gA g (jC p k)) (n := k) hc hk hw rfl (at_Cs hp) (vp_in_nI (Nat.lt_of_lt_of_le hkn (by omega)) (by omega)) (nI_clamp (by have := hkn; omega)) dX0_countTold_17 ?_
        refine k_getN hc hk hw (bt_C hp (Nat.lt_of_lt_of_le hkn (by omega))) rfl iX1 5 (by decide) nq146 (v := .int (B (10 + k) 5)) rfl dX0_countTold_18 ?_
        refine lv_iload_n hx hb dX0_countTold_21 rfl (lv_at hl 3 rfl) ?_
        refine lv_icmp_ne (tgt := 28) hx hb dX0_countTold_22 (by decide) (fun h3 => ?_) (fun h3 => ?_)
        · refine lv_iinc (v := nI (k + 1)) (lv' := [(3, .int (nI (k + 1))), (2, .int (L_countTold a1 B k)), (0, .ref (gA g (jB p))), (1, .int a1)]) hx hb dX0_countTold_28 hl (k := 0) rfl (by first | exact (nI_succ _).symm | rfl) (by decide) rfl (fun ls hl => ?_)
          refine lv_goto (tgt := 4) hx hb dX0_countTold_31 (by decide) ?_
          have hw9 : WS g s (xB S p B y) H locs := by
            exact hw
          have hl9 := lv_sub hl [0, 1, 2, 3] rfl
          have e8 : (L_countTold a1 B k) = (L_countTold a1 B (k + 1)) := by simp only [L_countTold, b_countTold, if_neg h3]
          rw [e8] at hl9
          exact ih (k + 1) (by omega) (by omega) _ _ hw9 _ hl9
        · refine lv_iinc (v := (L_countTold a1 B k) + 1) (lv' := [(2, .int ((L_countTold a1 B k) + 1)), (3, .int (nI k)), (0, .ref (gA g (jB p))), (1, .int a1)]) hx hb dX0_countTold_25 hl (k := 1) rfl rfl (by decide) rfl (fun ls hl => ?_)
          refine lv_iinc (v := nI (k + 1)) (lv' := [(3, .int (nI (k + 1))), (2, .int ((L_countTold a1 B k) + 1)), (0, .ref (gA g (jB p))), (1, .int a1)]) hx hb dX0_countTold_28 hl (k := 1) rfl (by first | exact (nI_succ _).symm | rfl) (by decide) rfl (fun ls hl => ?_)
          refine lv_goto (tgt := 4) hx hb dX0_countTold_31 (by decide) ?_
          have hw9 : WS g s (xB S p B y) H locs := by
            exact hw
          have hl9 := lv_sub hl [0, 1, 2, 3] rfl
          have e8 : (L_countTold a1 B k) + 1 = (L_countTold a1 B (k + 1)) := by simp only [L_countTold, b_countTold, if_pos h3]
          rw [e8] at hl9
          exact ih (k + 1) (by omega) (by omega) _ _ hw9 _ hl9
  exact LP1 ((B 0 4).toNatClampNeg + 1) 0 (Nat.zero_le _) (by omega) _ _ hw _ (lv_sub hl [0, 1, 2, 3] rfl)
def b_countClosed (B : BT) (k : Nat) (z : Int32) : Int32 :=
  (if f_X6_isClosing (B (10 + k) 11) = 0 then z else z + 1)
def L_countClosed (B : BT) : Nat → Int32
  | 0 => 0
  | k + 1 => b_countClosed B k (L_countClosed B k)
def f_X0_countClosed  (B : BT) : Int32 :=
  (L_countClosed B ((B 0 4).toNatClampNeg))
set_option maxHeartbeats 4000000 in
set_option maxRecDepth 100000 in
theorem m_X0_countClosed (l : Launch) (g : wG) (S : Nat → BT) (p : Nat) (B : BT) (y : (Nat → Nat → Int32) × (Nat → Int64) × (Nat → UInt64)) (hp : p < 2) (n m9 : Nat) (hN : CN B n m9) : mI l yX0_countClosed cX0_countClosed 3 (some .int) ({ frames := 5, cells := 0, slots := 0, locals := 111 } : Room) 0 0 g (xB S p B y) [.ref (gA g (jB p))] (f_X0_countClosed B) (xB S p B y) := by
  refine Met.ofW (cc := cX0_countClosed) (maxL := 3) (ret := some .int) (by decide) rfl ?_
  intro p9 e s m args below meth c s₁ BL hml hv
  obtain ⟨rfl, hk, hPB⟩ := hv
  have hx := BL.exec
  have hb := BL.bytes
  have hc : CX p9 c cX0_countClosed s _ m RX0 := ⟨hx, hb, findClass_of_methodNamed BL.named, fun w h => atoms_spec BL.pre w (List.mem_cons_of_mem _ h)⟩
  have hr := BL.returns
  have hlocks := BL.notSynchronized
  have hw : WS g s (xB S p B y) s.heap [] := ⟨hPB, va_S.rf⟩
  have hl := lv_entry ([.ref (gA g (jB p))]) (n := 3) (Nat.le_of_ble_eq_true rfl)
  rw [lg_entry_eq]
  generalize (lg_sl ([.ref (gA g (jB p))]) ++ List.replicate (3 - (lg_sl ([.ref (gA g (jB p))])).length) Slot.unset).toArray = ls at hl ⊢
  have hl : lv_has ls 3 [(0, .ref (gA g (jB p)))] := hl
  refine lv_iconst (v := 0) hx hb dX0_countClosed_0 (by decide) ?_
  refine lv_istore_n (lv' := [(1, .int 0), (0, .ref (gA g (jB p)))]) hx hb dX0_countClosed_1 rfl hl (by decide) rfl (fun ls hl => ?_)
  refine lv_iconst (v := 0) hx hb dX0_countClosed_2 (by decide) ?_
  refine lv_istore_n (lv' := [(2, .int 0), (1, .int 0), (0, .ref (gA g (jB p)))]) hx hb dX0_countClosed_3 rfl hl (by decide) rfl (fun ls hl => ?_)
  have LP1 : ∀ (f k : Nat), k ≤ (B 0 4).toNatClampNeg → (B 0 4).toNatClampNeg + 1 ≤ k + f → ∀ (H : Heap) (locs : List Loc), WS g s (xB S p B y) H locs → ∀ (ls : Array Slot), lv_has ls 3 [(2, .int (nI k)), (1, .int (L_countClosed B k)), (0, .ref (gA g (jB p)))] → W p9 l e ({ frames := 5, cells := 0, slots := 0, locals := 111 } : Room) s m ([.ref (gA g (jB p))] : List Value).toArray below meth c H locs 0 0 (MQ below (va_Qi (fun (v : Int32) (u : wSt) => v = f_X0_countClosed B ∧ u = (xB S p B y)) (PB g) (AA g)) (([.ref (gA g (jB p))] : List Value).toArray) s 0 0 (AA g)) (F0 m 4 ls []) := by
    intro f
    induction f with
    | zero => intro k h1 h2; exact absurd h2 (by omega)
    | succ f ih =>
      intro k hk9 hf9 H locs hw ls hl
      have hl4 := CN.l4 hN
      refine lv_iload_n hx hb dX0_countClosed_4 rfl (lv_at hl 0 rfl) ?_
      refine lv_aload_n hx hb dX0_countClosed_5 rfl (lv_at hl 2 rfl) ?_
      refine k_get hc hk hw (bt_B hp) rfl iX0 4 (by decide) q208 (v := .int (B 0 4)) rfl dX0_countClosed_6 ?_
      refine lv_icmp_ge (tgt := 36) hx hb dX0_countClosed_9 (by decide) (fun h2 => ?_) (fun h2 => ?_)
      · have hkn := lp_out h2 (CN.cc hN hN) hk9 (by omega)
        subst hkn
        refine lv_iload_n hx hb dX0_countClosed_36 rfl (lv_at hl 1 rfl) ?_
        exact W.iret (v := (L_countClosed B ((B 0 4).toNatClampNeg))) hx hb hr (fun t9 ht hW => ke_i hw ht (by simp only [f_X0_countClosed]) rfl) hw.2.2.2 dX0_countClosed_37
      · have hkn := lp_in h2 (CN.cc hN hN) hk9 (by omega)
        refine lv_aload_n hx hb dX0_countClosed_12 rfl (lv_at hl 2 rfl) ?_
        refine k_get hc hk hw (bt_B hp) rfl iX0 1 (by decide) q203 (v := .ref (gA g (jCs p))) rfl dX0_countClosed_13 ?_
        refine lv_iload_n hx hb dX0_countClosed_16 rfl (lv_at hl 0 rfl) ?_
        refine k_ald (t0 := 5) (f := fun k => gA g (jC p k)) (n := k) hc hk hw rfl (at_Cs hp) (vp_in_nI (Nat.lt_of_lt_of_le hkn (by omega)) (by omega)) (nI_clamp (by have := hkn; omega)) dX0_countClosed_17 ?_
        refine k_getN hc hk hw (bt_C hp (Nat.lt_of_lt_of_le hkn (by omega))) rfl iX1 11 (by decide) nq159 (v := .int (B (10 + k) 11)) rfl dX0_countClosed_18 ?_
        refine kc_i hw (va_runSN (As := [.int (B (10 + k) 11)]) (rest := []) ⟨hx, hb, hml, hc.2.2.1, hc.2.2.2⟩ (m_X6_isClosing l g (xB S p B y) (B (10 + k) 11)) ⟨kw_N hc hk 1 nq484 q1 q486 rfl rfl (by decide +kernel) ⟨Nat.le_of_ble_eq_true rfl, Nat.le_of_ble_eq_true rfl⟩, hc.2.2.2 _ q485, trivial⟩ (kp_S hk hw) rfl rfl hl.1 rfl (lv_room (Nat.le_of_ble_eq_true rfl)) dX0_countClosed_21 ⟨Nat.le_of_ble_eq_true rfl, Nat.le_of_ble_eq_true rfl⟩) (fun H locs hw => ?_)
        refine lv_if_eq (tgt := 30) hx hb dX0_countClosed_24 (by decide) (fun h3 => ?_) (fun h3 => ?_)
        · refine lv_iinc (v := nI (k + 1)) (lv' := [(2, .int (nI (k + 1))), (1, .int (L_countClosed B k)), (0, .ref (gA g (jB p)))]) hx hb dX0_countClosed_30 hl (k := 0) rfl (by first | exact (nI_succ _).symm | rfl) (by decide) rfl (fun ls hl => ?_)
          refine lv_goto (tgt := 4) hx hb dX0_countClosed_33 (by decide) ?_
          have hw9 : WS g s (xB S p B y) H locs := by
            exact hw
          have hl9 := lv_sub hl [0, 1, 2] rfl
          have e8 : (L_countClosed B k) = (L_countClosed B (k + 1)) := by simp only [L_countClosed, b_countClosed, if_pos h3]
          rw [e8] at hl9
          exact ih (k + 1) (by omega) (by omega) _ _ hw9 _ hl9
        · refine lv_iinc (v := (L_countClosed B k) + 1) (lv' := [(1, .int ((L_countClosed B k) + 1)), (2, .int (nI k)), (0, .ref (gA g (jB p)))]) hx hb dX0_countClosed_27 hl (k := 1) rfl rfl (by decide) rfl (fun ls hl => ?_)
          refine lv_iinc (v := nI (k + 1)) (lv' := [(2, .int (nI (k + 1))), (1, .int ((L_countClosed B k) + 1)), (0, .ref (gA g (jB p)))]) hx hb dX0_countClosed_30 hl (k := 1) rfl (by first | exact (nI_succ _).symm | rfl) (by decide) rfl (fun ls hl => ?_)
          refine lv_goto (tgt := 4) hx hb dX0_countClosed_33 (by decide) ?_
          have hw9 : WS g s (xB S p B y) H locs := by
            exact hw
          have hl9 := lv_sub hl [0, 1, 2] rfl
          have e8 : (L_countClosed B k) + 1 = (L_countClosed B (k + 1)) := by simp only [L_countClosed, b_countClosed, if_neg h3]
          rw [e8] at hl9
          exact ih (k + 1) (by omega) (by omega) _ _ hw9 _ hl9
  exact LP1 ((B 0 4).toNatClampNeg + 1) 0 (Nat.zero_le _) (by omega) _ _ hw _ (lv_sub hl [0, 1, 2] rfl)
def b_sumOfClosedDays (B : BT) (k : Nat) (z : Int32) : Int32 :=
  (if f_X6_isClosing (B (10 + k) 11) = 0 then z else z + (f_X1_daysBy k (B 0 5) B))
def L_sumOfClosedDays (B : BT) : Nat → Int32
  | 0 => 0
  | k + 1 => b_sumOfClosedDays B k (L_sumOfClosedDays B k)
def f_X0_sumOfClosedDays  (B : BT) : Int32 :=
  (L_sumOfClosedDays B ((B 0 4).toNatClampNeg))
set_option maxHeartbeats 4000000 in
set_option maxRecDepth 100000 in
theorem m_X0_sumOfClosedDays (l : Launch) (g : wG) (S : Nat → BT) (p : Nat) (B : BT) (y : (Nat → Nat → Int32) × (Nat → Int64) × (Nat → UInt64)) (hp : p < 2) (n m9 : Nat) (hN : CN B n m9) : mI l yX0_sumOfClosedDays cX0_sumOfClosedDays 3 (some .int) ({ frames := 5, cells := 0, slots := 0, locals := 111 } : Room) 0 0 g (xB S p B y) [.ref (gA g (jB p))] (f_X0_sumOfClosedDays B) (xB S p B y) := by
  refine Met.ofW (cc := cX0_sumOfClosedDays) (maxL := 3) (ret := some .int) (by decide) rfl ?_
  intro p9 e s m args below meth c s₁ BL hml hv
  obtain ⟨rfl, hk, hPB⟩ := hv
  have hx := BL.exec
  have hb := BL.bytes
  have hc : CX p9 c cX0_sumOfClosedDays s _ m RX0 := ⟨hx, hb, findClass_of_methodNamed BL.named, fun w h => atoms_spec BL.pre w (List.mem_cons_of_mem _ h)⟩
  have hr := BL.returns
  have hlocks := BL.notSynchronized
  have hw : WS g s (xB S p B y) s.heap [] := ⟨hPB, va_S.rf⟩
  have hl := lv_entry ([.ref (gA g (jB p))]) (n := 3) (Nat.le_of_ble_eq_true rfl)
  rw [lg_entry_eq]
  generalize (lg_sl ([.ref (gA g (jB p))]) ++ List.replicate (3 - (lg_sl ([.ref (gA g (jB p))])).length) Slot.unset).toArray = ls at hl ⊢
  have hl : lv_has ls 3 [(0, .ref (gA g (jB p)))] := hl
  refine lv_iconst (v := 0) hx hb dX0_sumOfClosedDays_0 (by decide) ?_
  refine lv_istore_n (lv' := [(1, .int 0), (0, .ref (gA g (jB p)))]) hx hb dX0_sumOfClosedDays_1 rfl hl (by decide) rfl (fun ls hl => ?_)
  refine lv_iconst (v := 0) hx hb dX0_sumOfClosedDays_2 (by decide) ?_
  refine lv_istore_n (lv' := [(2, .int 0), (1, .int 0), (0, .ref (gA g (jB p)))]) hx hb dX0_sumOfClosedDays_3 rfl hl (by decide) rfl (fun ls hl => ?_)
  have LP1 : ∀ (f k : Nat), k ≤ (B 0 4).toNatClampNeg → (B 0 4).toNatClampNeg + 1 ≤ k + f → ∀ (H : Heap) (locs : List Loc), WS g s (xB S p B y) H locs → ∀ (ls : Array Slot), lv_has ls 3 [(2, .int (nI k)), (1, .int (L_sumOfClosedDays B k)), (0, .ref (gA g (jB p)))] → W p9 l e ({ frames := 5, cells := 0, slots := 0, locals := 111 } : Room) s m ([.ref (gA g (jB p))] : List Value).toArray below meth c H locs 0 0 (MQ below (va_Qi (fun (v : Int32) (u : wSt) => v = f_X0_sumOfClosedDays B ∧ u = (xB S p B y)) (PB g) (AA g)) (([.ref (gA g (jB p))] : List Value).toArray) s 0 0 (AA g)) (F0 m 4 ls []) := by
    intro f
    induction f with
    | zero => intro k h1 h2; exact absurd h2 (by omega)
    | succ f ih =>
      intro k hk9 hf9 H locs hw ls hl
      have hl4 := CN.l4 hN
      refine lv_iload_n hx hb dX0_sumOfClosedDays_4 rfl (lv_at hl 0 rfl) ?_
      refine lv_aload_n hx hb dX0_sumOfClosedDays_5 rfl (lv_at hl 2 rfl) ?_
      refine k_get hc hk hw (bt_B hp) rfl iX0 4 (by decide) q208 (v := .int (B 0 4)) rfl dX0_sumOfClosedDays_6 ?_
      refine lv_icmp_ge (tgt := 49) hx hb dX0_sumOfClosedDays_9 (by decide) (fun h2 => ?_) (fun h2 => ?_)
      · have hkn := lp_out h2 (CN.cc hN hN) hk9 (by omega)
        subst hkn
        refine lv_iload_n hx hb dX0_sumOfClosedDays_49 rfl (lv_at hl 1 rfl) ?_
        exact W.iret (v := (L_sumOfClosedDays B ((B 0 4).toNatClampNeg))) hx hb hr (fun t9 ht hW => ke_i hw ht (by simp only [f_X0_sumOfClosedDays]) rfl) hw.2.2.2 dX0_sumOfClosedDays_50
      · have hkn := lp_in h2 (CN.cc hN hN) hk9 (by omega)
        refine lv_aload_n hx hb dX0_sumOfClosedDays_12 rfl (lv_at hl 2 rfl) ?_
        refine k_get hc hk hw (bt_B hp) rfl iX0 1 (by decide) q203 (v := .ref (gA g (jCs p))) rfl dX0_sumOfClosedDays_13 ?_
        refine lv_iload_n hx hb dX0_sumOfClosedDays_16 rfl (lv_at hl 0 rfl) ?_
        refine k_ald (t0 := 5) (f := fun k => gA g (jC p k)) (n := k) hc hk hw rfl (at_Cs hp) (vp_in_nI (Nat.lt_of_lt_of_le hkn (by omega)) (by omega)) (nI_clamp (by have := hkn; omega)) dX0_sumOfClosedDays_17 ?_
        refine k_getN hc hk hw (bt_C hp (Nat.lt_of_lt_of_le hkn (by omega))) rfl iX1 11 (by decide) nq159 (v := .int (B (10 + k) 11)) rfl dX0_sumOfClosedDays_18 ?_
        refine kc_i hw (va_runSN (As := [.int (B (10 + k) 11)]) (rest := []) ⟨hx, hb, hml, hc.2.2.1, hc.2.2.2⟩ (m_X6_isClosing l g (xB S p B y) (B (10 + k) 11)) ⟨kw_N hc hk 1 nq484 q1 q486 rfl rfl (by decide +kernel) ⟨Nat.le_of_ble_eq_true rfl, Nat.le_of_ble_eq_true rfl⟩, hc.2.2.2 _ q485, trivial⟩ (kp_S hk hw) rfl rfl hl.1 rfl (lv_room (Nat.le_of_ble_eq_true rfl)) dX0_sumOfClosedDays_21 ⟨Nat.le_of_ble_eq_true rfl, Nat.le_of_ble_eq_true rfl⟩) (fun H locs hw => ?_)
        refine lv_if_eq (tgt := 43) hx hb dX0_sumOfClosedDays_24 (by decide) (fun h3 => ?_) (fun h3 => ?_)
        · refine lv_iinc (v := nI (k + 1)) (lv' := [(2, .int (nI (k + 1))), (1, .int (L_sumOfClosedDays B k)), (0, .ref (gA g (jB p)))]) hx hb dX0_sumOfClosedDays_43 hl (k := 0) rfl (by first | exact (nI_succ _).symm | rfl) (by decide) rfl (fun ls hl => ?_)
          refine lv_goto (tgt := 4) hx hb dX0_sumOfClosedDays_46 (by decide) ?_
          have hw9 : WS g s (xB S p B y) H locs := by
            exact hw
          have hl9 := lv_sub hl [0, 1, 2] rfl
          have e8 : (L_sumOfClosedDays B k) = (L_sumOfClosedDays B (k + 1)) := by simp only [L_sumOfClosedDays, b_sumOfClosedDays, if_pos h3]
          rw [e8] at hl9
          exact ih (k + 1) (by omega) (by omega) _ _ hw9 _ hl9
        · refine lv_iload_n hx hb dX0_sumOfClosedDays_27 rfl (lv_at hl 1 rfl) ?_
          refine lv_aload_n hx hb dX0_sumOfClosedDays_28 rfl (lv_at hl 2 rfl) ?_
          refine k_get hc hk hw (bt_B hp) rfl iX0 1 (by decide) q203 (v := .ref (gA g (jCs p))) rfl dX0_sumOfClosedDays_29 ?_
          refine lv_iload_n hx hb dX0_sumOfClosedDays_32 rfl (lv_at hl 0 rfl) ?_
          refine k_ald (t0 := 5) (f := fun k => gA g (jC p k)) (n := k) hc hk hw rfl (at_Cs hp) (vp_in_nI (Nat.lt_of_lt_of_le hkn (by omega)) (by omega)) (nI_clamp (by have := hkn; omega)) dX0_sumOfClosedDays_33 ?_
          refine lv_aload_n hx hb dX0_sumOfClosedDays_34 rfl (lv_at hl 2 rfl) ?_
          refine k_get hc hk hw (bt_B hp) rfl iX0 5 (by decide) q210 (v := .int (B 0 5)) rfl dX0_sumOfClosedDays_35 ?_
          refine kc_i hw (va_runVN (As := [.int (B 0 5)]) (rest := [.int (L_sumOfClosedDays B k)]) ⟨hx, hb, hml, hc.2.2.1, hc.2.2.2⟩ (m_X1_daysBy l g S p B y hp k (Nat.lt_of_lt_of_le hkn (by omega)) (B 0 5)) ⟨kw_N hc hk 1 nq946 q4 q261 rfl rfl (by decide +kernel) ⟨Nat.le_of_ble_eq_true rfl, Nat.le_of_ble_eq_true rfl⟩, hc.2.2.2 _ q260, hc.2.2.2 _ qs0⟩ (kp_V hk hw (bt_C hp (Nat.lt_of_lt_of_le hkn (by omega))) rfl) rfl rfl hl.1 rfl (lv_room (Nat.le_of_ble_eq_true rfl)) dX0_sumOfClosedDays_38 ⟨Nat.le_of_ble_eq_true rfl, Nat.le_of_ble_eq_true rfl⟩) (fun H locs hw => ?_)
          refine lv_iadd hx hb dX0_sumOfClosedDays_41 ?_
          refine lv_istore_n (lv' := [(1, .int ((L_sumOfClosedDays B k) + (f_X1_daysBy k (B 0 5) B))), (2, .int (nI k)), (0, .ref (gA g (jB p)))]) hx hb dX0_sumOfClosedDays_42 rfl hl (by decide) rfl (fun ls hl => ?_)
          refine lv_iinc (v := nI (k + 1)) (lv' := [(2, .int (nI (k + 1))), (1, .int ((L_sumOfClosedDays B k) + (f_X1_daysBy k (B 0 5) B))), (0, .ref (gA g (jB p)))]) hx hb dX0_sumOfClosedDays_43 hl (k := 1) rfl (by first | exact (nI_succ _).symm | rfl) (by decide) rfl (fun ls hl => ?_)
          refine lv_goto (tgt := 4) hx hb dX0_sumOfClosedDays_46 (by decide) ?_
          have hw9 : WS g s (xB S p B y) H locs := by
            exact hw
          have hl9 := lv_sub hl [0, 1, 2] rfl
          have e8 : (L_sumOfClosedDays B k) + (f_X1_daysBy k (B 0 5) B) = (L_sumOfClosedDays B (k + 1)) := by simp only [L_sumOfClosedDays, b_sumOfClosedDays, if_neg h3]
          rw [e8] at hl9
          exact ih (k + 1) (by omega) (by omega) _ _ hw9 _ hl9
  exact LP1 ((B 0 4).toNatClampNeg + 1) 0 (Nat.zero_le _) (by omega) _ _ hw _ (lv_sub hl [0, 1, 2] rfl)
def b_weightOf (a1 : Int32) (B : BT) (k : Nat) (z : Int32) : Int32 :=
  (if (a1 >>> ((nI k) &&& 31)) &&& 1 = 1 then z + (B 3 k) else z)
def L_weightOf (a1 : Int32) (B : BT) : Nat → Int32
  | 0 => 0
  | k + 1 => b_weightOf a1 B k (L_weightOf a1 B k)
def f_X0_weightOf (a1 : Int32) (B : BT) : Int32 :=
  (L_weightOf a1 B 5)
set_option maxHeartbeats 4000000 in
set_option maxRecDepth 100000 in
theorem m_X0_weightOf (l : Launch) (g : wG) (S : Nat → BT) (p : Nat) (B : BT) (y : (Nat → Nat → Int32) × (Nat → Int64) × (Nat → UInt64)) (hp : p < 2) (a1 : Int32) (n m9 : Nat) (hN : CN B n m9) : mI l yX0_weightOf cX0_weightOf 4 (some .int) ({ frames := 0, cells := 0, slots := 0, locals := 0 } : Room) 0 0 g (xB S p B y) [.ref (gA g (jB p)), .int a1] (f_X0_weightOf a1 B) (xB S p B y) := by
  refine Met.ofW (cc := cX0_weightOf) (maxL := 4) (ret := some .int) (by decide) rfl ?_
  intro p9 e s m args below meth c s₁ BL hml hv
  obtain ⟨rfl, hk, hPB⟩ := hv
  have hx := BL.exec
  have hb := BL.bytes
  have hc : CX p9 c cX0_weightOf s _ m RX0 := ⟨hx, hb, findClass_of_methodNamed BL.named, fun w h => atoms_spec BL.pre w (List.mem_cons_of_mem _ h)⟩
  have hr := BL.returns
  have hlocks := BL.notSynchronized
  have hw : WS g s (xB S p B y) s.heap [] := ⟨hPB, va_S.rf⟩
  have hl := lv_entry ([.ref (gA g (jB p)), .int a1]) (n := 4) (Nat.le_of_ble_eq_true rfl)
  rw [lg_entry_eq]
  generalize (lg_sl ([.ref (gA g (jB p)), .int a1]) ++ List.replicate (4 - (lg_sl ([.ref (gA g (jB p)), .int a1])).length) Slot.unset).toArray = ls at hl ⊢
  have hl : lv_has ls 4 [(0, .ref (gA g (jB p))), (1, .int a1)] := hl
  refine lv_iconst (v := 0) hx hb dX0_weightOf_0 (by decide) ?_
  refine lv_istore_n (lv' := [(2, .int 0), (0, .ref (gA g (jB p))), (1, .int a1)]) hx hb dX0_weightOf_1 rfl hl (by decide) rfl (fun ls hl => ?_)
  refine lv_iconst (v := 0) hx hb dX0_weightOf_2 (by decide) ?_
  refine lv_istore_n (lv' := [(3, .int 0), (2, .int 0), (0, .ref (gA g (jB p))), (1, .int a1)]) hx hb dX0_weightOf_3 rfl hl (by decide) rfl (fun ls hl => ?_)
  have LP1 : ∀ (f k : Nat), k ≤ 5 → 5 + 1 ≤ k + f → ∀ (H : Heap) (locs : List Loc), WS g s (xB S p B y) H locs → ∀ (ls : Array Slot), lv_has ls 4 [(3, .int (nI k)), (2, .int (L_weightOf a1 B k)), (0, .ref (gA g (jB p))), (1, .int a1)] → W p9 l e ({ frames := 0, cells := 0, slots := 0, locals := 0 } : Room) s m ([.ref (gA g (jB p)), .int a1] : List Value).toArray below meth c H locs 0 0 (MQ below (va_Qi (fun (v : Int32) (u : wSt) => v = f_X0_weightOf a1 B ∧ u = (xB S p B y)) (PB g) (AA g)) (([.ref (gA g (jB p)), .int a1] : List Value).toArray) s 0 0 (AA g)) (F0 m 4 ls []) := by
    intro f
    induction f with
    | zero => intro k h1 h2; exact absurd h2 (by omega)
    | succ f ih =>
      intro k hk9 hf9 H locs hw ls hl
      have hl4 := CN.l4 hN
      refine lv_iload_n hx hb dX0_weightOf_4 rfl (lv_at hl 0 rfl) ?_
      refine lv_iconst (v := 5) hx hb dX0_weightOf_5 (by decide) ?_
      refine lv_icmp_ge (tgt := 33) hx hb dX0_weightOf_6 (by decide) (fun h2 => ?_) (fun h2 => ?_)
      · have hkn := lp_out (m := 5) h2 rfl hk9 (by decide)
        subst hkn
        refine lv_iload_n hx hb dX0_weightOf_33 rfl (lv_at hl 1 rfl) ?_
        exact W.iret (v := (L_weightOf a1 B 5)) hx hb hr (fun t9 ht hW => ke_i hw ht (by simp only [f_X0_weightOf]) rfl) hw.2.2.2 dX0_weightOf_34
      · have hkn := lp_in (m := 5) h2 rfl hk9 (by decide)
        refine lv_iload_n hx hb dX0_weightOf_9 rfl (lv_at hl 3 rfl) ?_
        refine lv_iload_n hx hb dX0_weightOf_10 rfl (lv_at hl 0 rfl) ?_
        refine lv_ishr hx hb dX0_weightOf_11 ?_
        refine lv_iconst (v := 1) hx hb dX0_weightOf_12 (by decide) ?_
        refine lv_iand hx hb dX0_weightOf_13 ?_
        refine lv_iconst (v := 1) hx hb dX0_weightOf_14 (by decide) ?_
        refine lv_icmp_ne (tgt := 27) hx hb dX0_weightOf_15 (by decide) (fun h3 => ?_) (fun h3 => ?_)
        · refine lv_iinc (v := nI (k + 1)) (lv' := [(3, .int (nI (k + 1))), (2, .int (L_weightOf a1 B k)), (0, .ref (gA g (jB p))), (1, .int a1)]) hx hb dX0_weightOf_27 hl (k := 0) rfl (by first | exact (nI_succ _).symm | rfl) (by decide) rfl (fun ls hl => ?_)
          refine lv_goto (tgt := 4) hx hb dX0_weightOf_30 (by decide) ?_
          have hw9 : WS g s (xB S p B y) H locs := by
            exact hw
          have hl9 := lv_sub hl [0, 1, 2, 3] rfl
          have e8 : (L_weightOf a1 B k) = (L_weightOf a1 B (k + 1)) := by simp only [L_weightOf, b_weightOf, if_neg h3]
          rw [e8] at hl9
          exact ih (k + 1) (by omega) (by omega) _ _ hw9 _ hl9
        · refine lv_iload_n hx hb dX0_weightOf_18 rfl (lv_at hl 1 rfl) ?_
          refine lv_aload_n hx hb dX0_weightOf_19 rfl (lv_at hl 2 rfl) ?_
          refine k_get hc hk hw (bt_B hp) rfl iX0 2 (by decide) q205 (v := .ref (gA g (jW p))) rfl dX0_weightOf_20 ?_
          refine lv_iload_n hx hb dX0_weightOf_23 rfl (lv_at hl 0 rfl) ?_
          refine k_iald (f := B 3) (n := k) hc hk hw (bt_W hp) (vp_in_nI (Nat.lt_of_lt_of_le hkn (by omega)) (by omega)) (nI_clamp (by have := hkn; omega)) dX0_weightOf_24 ?_
          refine lv_iadd hx hb dX0_weightOf_25 ?_
          refine lv_istore_n (lv' := [(2, .int ((L_weightOf a1 B k) + (B 3 k))), (3, .int (nI k)), (0, .ref (gA g (jB p))), (1, .int a1)]) hx hb dX0_weightOf_26 rfl hl (by decide) rfl (fun ls hl => ?_)
          refine lv_iinc (v := nI (k + 1)) (lv' := [(3, .int (nI (k + 1))), (2, .int ((L_weightOf a1 B k) + (B 3 k))), (0, .ref (gA g (jB p))), (1, .int a1)]) hx hb dX0_weightOf_27 hl (k := 1) rfl (by first | exact (nI_succ _).symm | rfl) (by decide) rfl (fun ls hl => ?_)
          refine lv_goto (tgt := 4) hx hb dX0_weightOf_30 (by decide) ?_
          have hw9 : WS g s (xB S p B y) H locs := by
            exact hw
          have hl9 := lv_sub hl [0, 1, 2, 3] rfl
          have e8 : (L_weightOf a1 B k) + (B 3 k) = (L_weightOf a1 B (k + 1)) := by simp only [L_weightOf, b_weightOf, if_pos h3]
          rw [e8] at hl9
          exact ih (k + 1) (by omega) (by omega) _ _ hw9 _ hl9
  exact LP1 (5 + 1) 0 (Nat.zero_le _) (by omega) _ _ hw _ (lv_sub hl [0, 1, 2, 3] rfl)
def f_X0_lacksAnswer (i1 : Nat) (B : BT) : Int32 :=
  (if B (10 + i1) 11 = 97 then (if B 0 5 ≤ B (30 + i1) 0 then 0 else 1) else 0)
set_option maxHeartbeats 4000000 in
set_option maxRecDepth 100000 in
theorem m_X0_lacksAnswer (l : Launch) (g : wG) (S : Nat → BT) (p : Nat) (B : BT) (y : (Nat → Nat → Int32) × (Nat → Int64) × (Nat → UInt64)) (hp : p < 2) (i1 : Nat) (hi1 : i1 < 20) (n m9 : Nat) (hN : CN B n m9) : mI l yX0_lacksAnswer cX0_lacksAnswer 2 (some .boolean) ({ frames := 0, cells := 0, slots := 0, locals := 0 } : Room) 0 0 g (xB S p B y) [.ref (gA g (jB p)), .ref (gA g (jC p i1))] (f_X0_lacksAnswer i1 B) (xB S p B y) := by
  refine Met.ofW (cc := cX0_lacksAnswer) (maxL := 2) (ret := some .boolean) (by decide) rfl ?_
  intro p9 e s m args below meth c s₁ BL hml hv
  obtain ⟨rfl, hk, hPB⟩ := hv
  have hx := BL.exec
  have hb := BL.bytes
  have hc : CX p9 c cX0_lacksAnswer s _ m RX0 := ⟨hx, hb, findClass_of_methodNamed BL.named, fun w h => atoms_spec BL.pre w (List.mem_cons_of_mem _ h)⟩
  have hr := BL.returns
  have hlocks := BL.notSynchronized
  have hw : WS g s (xB S p B y) s.heap [] := ⟨hPB, va_S.rf⟩
  have hl := lv_entry ([.ref (gA g (jB p)), .ref (gA g (jC p i1))]) (n := 2) (Nat.le_of_ble_eq_true rfl)
  rw [lg_entry_eq]
  generalize (lg_sl ([.ref (gA g (jB p)), .ref (gA g (jC p i1))]) ++ List.replicate (2 - (lg_sl ([.ref (gA g (jB p)), .ref (gA g (jC p i1))])).length) Slot.unset).toArray = ls at hl ⊢
  have hl : lv_has ls 2 [(0, .ref (gA g (jB p))), (1, .ref (gA g (jC p i1)))] := hl
  refine lv_aload_n hx hb dX0_lacksAnswer_0 rfl (lv_at hl 1 rfl) ?_
  refine k_getN hc hk hw (bt_C hp hi1) rfl iX1 11 (by decide) nq159 (v := .int (B (10 + i1) 11)) rfl dX0_lacksAnswer_1 ?_
  refine lv_bipush (v := 97) hx hb dX0_lacksAnswer_4 (by decide) ?_
  refine lv_icmp_ne (tgt := 27) hx hb dX0_lacksAnswer_6 (by decide) (fun h1 => ?_) (fun h1 => ?_)
  · refine lv_iconst (v := 0) hx hb dX0_lacksAnswer_27 (by decide) ?_
    exact W.zret (v := 0) hx hb hr (by decide +kernel) (fun t9 ht hW => ke_i hw ht (by simp only [f_X0_lacksAnswer, if_neg h1]) rfl) hw.2.2.2 dX0_lacksAnswer_28
  · refine lv_aload_n hx hb dX0_lacksAnswer_9 rfl (lv_at hl 0 rfl) ?_
    refine k_get hc hk hw (bt_B hp) rfl iX0 5 (by decide) q210 (v := .int (B 0 5)) rfl dX0_lacksAnswer_10 ?_
    refine lv_aload_n hx hb dX0_lacksAnswer_13 rfl (lv_at hl 1 rfl) ?_
    refine k_getN hc hk hw (bt_C hp hi1) rfl iX1 1 (by decide) nq136 (v := .ref (gA g (jI p i1))) rfl dX0_lacksAnswer_14 ?_
    refine k_getN hc hk hw (bt_I hp hi1) rfl iX4 0 (by decide) nq80 (v := .int (B (30 + i1) 0)) rfl dX0_lacksAnswer_17 ?_
    refine lv_icmp_le (tgt := 27) hx hb dX0_lacksAnswer_20 (by decide) (fun h2 => ?_) (fun h2 => ?_)
    · refine lv_iconst (v := 0) hx hb dX0_lacksAnswer_27 (by decide) ?_
      exact W.zret (v := 0) hx hb hr (by decide +kernel) (fun t9 ht hW => ke_i hw ht (by simp only [f_X0_lacksAnswer, if_pos h1, if_pos h2]) rfl) hw.2.2.2 dX0_lacksAnswer_28
    · refine lv_iconst (v := 1) hx hb dX0_lacksAnswer_23 (by decide) ?_
      refine lv_goto (tgt := 28) hx hb dX0_lacksAnswer_24 (by decide) ?_
      exact W.zret (v := 1) hx hb hr (by decide +kernel) (fun t9 ht hW => ke_i hw ht (by simp only [f_X0_lacksAnswer, if_pos h1, if_neg h2]) rfl) hw.2.2.2 dX0_lacksAnswer_28
def f_X0_canFollow (i1 : Nat) (i2 : Nat) (B : BT) : Int32 :=
  (if B (10 + i1) 11 = 114 then (if f_X1_isJoined i1 B = 0 then (if f_X0_followersOf i1 B = 0 then (if B (10 + i1) 3 = B (10 + i2) 3 then (if B (10 + i1) 4 = B (10 + i2) 4 then (if f_X1_isJoined i2 B = 0 then (if B (10 + i2) 11 = 114 then 1 else (if B (10 + i2) 11 = 97 then 1 else (if B (10 + i2) 11 = 115 then 1 else 0))) else 0) else 0) else 0) else 0) else 0) else 0)
set_option maxHeartbeats 4000000 in
set_option maxRecDepth 100000 in
theorem m_X0_canFollow (l : Launch) (g : wG) (S : Nat → BT) (p : Nat) (B : BT) (y : (Nat → Nat → Int32) × (Nat → Int64) × (Nat → UInt64)) (hp : p < 2) (i1 : Nat) (hi1 : i1 < 20) (i2 : Nat) (hi2 : i2 < 20) (n m9 : Nat) (hN : CN B n m9) : mI l yX0_canFollow cX0_canFollow 3 (some .boolean) ({ frames := 1, cells := 0, slots := 0, locals := 23 } : Room) 0 0 g (xB S p B y) [.ref (gA g (jB p)), .ref (gA g (jC p i1)), .ref (gA g (jC p i2))] (f_X0_canFollow i1 i2 B) (xB S p B y) := by
  refine Met.ofW (cc := cX0_canFollow) (maxL := 3) (ret := some .boolean) (by decide) rfl ?_
  intro p9 e s m args below meth c s₁ BL hml hv
  obtain ⟨rfl, hk, hPB⟩ := hv
  have hx := BL.exec
  have hb := BL.bytes
  have hc : CX p9 c cX0_canFollow s _ m RX0 := ⟨hx, hb, findClass_of_methodNamed BL.named, fun w h => atoms_spec BL.pre w (List.mem_cons_of_mem _ h)⟩
  have hr := BL.returns
  have hlocks := BL.notSynchronized
  have hw : WS g s (xB S p B y) s.heap [] := ⟨hPB, va_S.rf⟩
  have hl := lv_entry ([.ref (gA g (jB p)), .ref (gA g (jC p i1)), .ref (gA g (jC p i2))]) (n := 3) (Nat.le_of_ble_eq_true rfl)
  rw [lg_entry_eq]
  generalize (lg_sl ([.ref (gA g (jB p)), .ref (gA g (jC p i1)), .ref (gA g (jC p i2))]) ++ List.replicate (3 - (lg_sl ([.ref (gA g (jB p)), .ref (gA g (jC p i1)), .ref (gA g (jC p i2))])).length) Slot.unset).toArray = ls at hl ⊢
  have hl : lv_has ls 3 [(0, .ref (gA g (jB p))), (1, .ref (gA g (jC p i1))), (2, .ref (gA g (jC p i2)))] := hl
  refine lv_aload_n hx hb dX0_canFollow_0 rfl (lv_at hl 1 rfl) ?_
  refine k_getN hc hk hw (bt_C hp hi1) rfl iX1 11 (by decide) nq159 (v := .int (B (10 + i1) 11)) rfl dX0_canFollow_1 ?_
  refine lv_bipush (v := 114) hx hb dX0_canFollow_4 (by decide) ?_
  refine lv_icmp_ne (tgt := 84) hx hb dX0_canFollow_6 (by decide) (fun h1 => ?_) (fun h1 => ?_)
  · refine lv_iconst (v := 0) hx hb dX0_canFollow_84 (by decide) ?_
    exact W.zret (v := 0) hx hb hr (by decide +kernel) (fun t9 ht hW => ke_i hw ht (by simp only [f_X0_canFollow, if_neg h1]) rfl) hw.2.2.2 dX0_canFollow_85
  · refine lv_aload_n hx hb dX0_canFollow_9 rfl (lv_at hl 1 rfl) ?_
    refine kc_i hw (va_runVN (As := []) (rest := []) ⟨hx, hb, hml, hc.2.2.1, hc.2.2.2⟩ (m_X1_isJoined l g S p B y hp i1 hi1) ⟨kw_N hc hk 0 nq833 q4 q763 rfl rfl (by decide +kernel) ⟨Nat.le_of_ble_eq_true rfl, Nat.le_of_ble_eq_true rfl⟩, hc.2.2.2 _ q762, hc.2.2.2 _ qs51⟩ (kp_V hk hw (bt_C hp hi1) rfl) rfl rfl hl.1 rfl (lv_room (Nat.le_of_ble_eq_true rfl)) dX0_canFollow_10 ⟨Nat.le_of_ble_eq_true rfl, Nat.le_of_ble_eq_true rfl⟩) (fun H locs hw => ?_)
    refine lv_if_ne (tgt := 84) hx hb dX0_canFollow_13 (by decide) (fun h2 => ?_) (fun h2 => ?_)
    · refine lv_iconst (v := 0) hx hb dX0_canFollow_84 (by decide) ?_
      exact W.zret (v := 0) hx hb hr (by decide +kernel) (fun t9 ht hW => ke_i hw ht (by simp only [f_X0_canFollow, if_pos h1, if_neg h2]) rfl) hw.2.2.2 dX0_canFollow_85
    · refine lv_aload_n hx hb dX0_canFollow_16 rfl (lv_at hl 0 rfl) ?_
      refine lv_aload_n hx hb dX0_canFollow_17 rfl (lv_at hl 1 rfl) ?_
      refine kc_i hw (va_runV (As := [.ref (gA g (jC p i1))]) (rest := []) ⟨hx, hb, hml, hc.2.2.1, hc.2.2.2⟩ (m_X0_followersOf l g S p B y hp i1 hi1 _ _ hN) (kw_V hc 1 q443 q445 qs23 q2 q446 rfl rfl (by decide +kernel) ⟨Nat.le_of_ble_eq_true rfl, Nat.le_of_ble_eq_true rfl⟩) (kp_V hk hw (bt_B hp) rfl) rfl rfl hl.1 rfl (lv_room (Nat.le_of_ble_eq_true rfl)) dX0_canFollow_18 ⟨Nat.le_of_ble_eq_true rfl, Nat.le_of_ble_eq_true rfl⟩) (fun H locs hw => ?_)
      refine lv_if_ne (tgt := 84) hx hb dX0_canFollow_21 (by decide) (fun h3 => ?_) (fun h3 => ?_)
      · refine lv_iconst (v := 0) hx hb dX0_canFollow_84 (by decide) ?_
        exact W.zret (v := 0) hx hb hr (by decide +kernel) (fun t9 ht hW => ke_i hw ht (by simp only [f_X0_canFollow, if_pos h1, if_pos h2, if_neg h3]) rfl) hw.2.2.2 dX0_canFollow_85
      · refine lv_aload_n hx hb dX0_canFollow_24 rfl (lv_at hl 1 rfl) ?_
        refine k_getN hc hk hw (bt_C hp hi1) rfl iX1 3 (by decide) nq142 (v := .int (B (10 + i1) 3)) rfl dX0_canFollow_25 ?_
        refine lv_aload_n hx hb dX0_canFollow_28 rfl (lv_at hl 2 rfl) ?_
        refine k_getN hc hk hw (bt_C hp hi2) rfl iX1 3 (by decide) nq142 (v := .int (B (10 + i2) 3)) rfl dX0_canFollow_29 ?_
        refine lv_icmp_ne (tgt := 84) hx hb dX0_canFollow_32 (by decide) (fun h4 => ?_) (fun h4 => ?_)
        · refine lv_iconst (v := 0) hx hb dX0_canFollow_84 (by decide) ?_
          exact W.zret (v := 0) hx hb hr (by decide +kernel) (fun t9 ht hW => ke_i hw ht (by simp only [f_X0_canFollow, if_pos h1, if_pos h2, if_pos h3, if_neg h4]) rfl) hw.2.2.2 dX0_canFollow_85
        · refine lv_aload_n hx hb dX0_canFollow_35 rfl (lv_at hl 1 rfl) ?_
          refine k_getN hc hk hw (bt_C hp hi1) rfl iX1 4 (by decide) nq144 (v := .int (B (10 + i1) 4)) rfl dX0_canFollow_36 ?_
          refine lv_aload_n hx hb dX0_canFollow_39 rfl (lv_at hl 2 rfl) ?_
          refine k_getN hc hk hw (bt_C hp hi2) rfl iX1 4 (by decide) nq144 (v := .int (B (10 + i2) 4)) rfl dX0_canFollow_40 ?_
          refine lv_icmp_ne (tgt := 84) hx hb dX0_canFollow_43 (by decide) (fun h5 => ?_) (fun h5 => ?_)
          · refine lv_iconst (v := 0) hx hb dX0_canFollow_84 (by decide) ?_
            exact W.zret (v := 0) hx hb hr (by decide +kernel) (fun t9 ht hW => ke_i hw ht (by simp only [f_X0_canFollow, if_pos h1, if_pos h2, if_pos h3, if_pos h4, if_neg h5]) rfl) hw.2.2.2 dX0_canFollow_85
          · refine lv_aload_n hx hb dX0_canFollow_46 rfl (lv_at hl 2 rfl) ?_
            refine kc_i hw (va_runVN (As := []) (rest := []) ⟨hx, hb, hml, hc.2.2.1, hc.2.2.2⟩ (m_X1_isJoined l g S p B y hp i2 hi2) ⟨kw_N hc hk 0 nq833 q4 q763 rfl rfl (by decide +kernel) ⟨Nat.le_of_ble_eq_true rfl, Nat.le_of_ble_eq_true rfl⟩, hc.2.2.2 _ q762, hc.2.2.2 _ qs51⟩ (kp_V hk hw (bt_C hp hi2) rfl) rfl rfl hl.1 rfl (lv_room (Nat.le_of_ble_eq_true rfl)) dX0_canFollow_47 ⟨Nat.le_of_ble_eq_true rfl, Nat.le_of_ble_eq_true rfl⟩) (fun H locs hw => ?_)
            refine lv_if_ne (tgt := 84) hx hb dX0_canFollow_50 (by decide) (fun h6 => ?_) (fun h6 => ?_)
            · refine lv_iconst (v := 0) hx hb dX0_canFollow_84 (by decide) ?_
              exact W.zret (v := 0) hx hb hr (by decide +kernel) (fun t9 ht hW => ke_i hw ht (by simp only [f_X0_canFollow, if_pos h1, if_pos h2, if_pos h3, if_pos h4, if_pos h5, if_neg h6]) rfl) hw.2.2.2 dX0_canFollow_85
            · refine lv_aload_n hx hb dX0_canFollow_53 rfl (lv_at hl 2 rfl) ?_
              refine k_getN hc hk hw (bt_C hp hi2) rfl iX1 11 (by decide) nq159 (v := .int (B (10 + i2) 11)) rfl dX0_canFollow_54 ?_
              refine lv_bipush (v := 114) hx hb dX0_canFollow_57 (by decide) ?_
              refine lv_icmp_eq (tgt := 80) hx hb dX0_canFollow_59 (by decide) (fun h7 => ?_) (fun h7 => ?_)
              · refine lv_iconst (v := 1) hx hb dX0_canFollow_80 (by decide) ?_
                refine lv_goto (tgt := 85) hx hb dX0_canFollow_81 (by decide) ?_
                exact W.zret (v := 1) hx hb hr (by decide +kernel) (fun t9 ht hW => ke_i hw ht (by simp only [f_X0_canFollow, if_pos h1, if_pos h2, if_pos h3, if_pos h4, if_pos h5, if_pos h6, if_pos h7]) rfl) hw.2.2.2 dX0_canFollow_85
              · refine lv_aload_n hx hb dX0_canFollow_62 rfl (lv_at hl 2 rfl) ?_
                refine k_getN hc hk hw (bt_C hp hi2) rfl iX1 11 (by decide) nq159 (v := .int (B (10 + i2) 11)) rfl dX0_canFollow_63 ?_
                refine lv_bipush (v := 97) hx hb dX0_canFollow_66 (by decide) ?_
                refine lv_icmp_eq (tgt := 80) hx hb dX0_canFollow_68 (by decide) (fun h8 => ?_) (fun h8 => ?_)
                · refine lv_iconst (v := 1) hx hb dX0_canFollow_80 (by decide) ?_
                  refine lv_goto (tgt := 85) hx hb dX0_canFollow_81 (by decide) ?_
                  exact W.zret (v := 1) hx hb hr (by decide +kernel) (fun t9 ht hW => ke_i hw ht (by simp only [f_X0_canFollow, if_pos h1, if_pos h2, if_pos h3, if_pos h4, if_pos h5, if_pos h6, if_neg h7, if_pos h8]) rfl) hw.2.2.2 dX0_canFollow_85
                · refine lv_aload_n hx hb dX0_canFollow_71 rfl (lv_at hl 2 rfl) ?_
                  refine k_getN hc hk hw (bt_C hp hi2) rfl iX1 11 (by decide) nq159 (v := .int (B (10 + i2) 11)) rfl dX0_canFollow_72 ?_
                  refine lv_bipush (v := 115) hx hb dX0_canFollow_75 (by decide) ?_
                  refine lv_icmp_ne (tgt := 84) hx hb dX0_canFollow_77 (by decide) (fun h9 => ?_) (fun h9 => ?_)
                  · refine lv_iconst (v := 0) hx hb dX0_canFollow_84 (by decide) ?_
                    exact W.zret (v := 0) hx hb hr (by decide +kernel) (fun t9 ht hW => ke_i hw ht (by simp only [f_X0_canFollow, if_pos h1, if_pos h2, if_pos h3, if_pos h4, if_pos h5, if_pos h6, if_neg h7, if_neg h8, if_neg h9]) rfl) hw.2.2.2 dX0_canFollow_85
                  · refine lv_iconst (v := 1) hx hb dX0_canFollow_80 (by decide) ?_
                    refine lv_goto (tgt := 85) hx hb dX0_canFollow_81 (by decide) ?_
                    exact W.zret (v := 1) hx hb hr (by decide +kernel) (fun t9 ht hW => ke_i hw ht (by simp only [f_X0_canFollow, if_pos h1, if_pos h2, if_pos h3, if_pos h4, if_pos h5, if_pos h6, if_neg h7, if_neg h8, if_pos h9]) rfl) hw.2.2.2 dX0_canFollow_85
def f_X0_dueOf (i1 : Nat) (B : BT) : Int32 :=
  (if B (10 + (f_X0_leadOf i1 B)) 11 = 97 then B (30 + (f_X0_leadOf i1 B)) 0 else (if B (10 + (f_X0_leadOf i1 B)) 11 = 100 then B (50 + (f_X0_leadOf i1 B)) 2 else (-1)))
set_option maxHeartbeats 4000000 in
set_option maxRecDepth 100000 in
theorem m_X0_dueOf (l : Launch) (g : wG) (S : Nat → BT) (p : Nat) (B : BT) (y : (Nat → Nat → Int32) × (Nat → Int64) × (Nat → UInt64)) (hp : p < 2) (i1 : Nat) (hi1 : i1 < 20) (n m9 : Nat) (hN : CN B n m9) : mI l yX0_dueOf cX0_dueOf 3 (some .int) ({ frames := 1, cells := 0, slots := 0, locals := 21 } : Room) 0 0 g (xB S p B y) [.ref (gA g (jB p)), .ref (gA g (jC p i1))] (f_X0_dueOf i1 B) (xB S p B y) := by
  refine Met.ofW (cc := cX0_dueOf) (maxL := 3) (ret := some .int) (by decide) rfl ?_
  intro p9 e s m args below meth c s₁ BL hml hv
  obtain ⟨rfl, hk, hPB⟩ := hv
  have hx := BL.exec
  have hb := BL.bytes
  have hc : CX p9 c cX0_dueOf s _ m RX0 := ⟨hx, hb, findClass_of_methodNamed BL.named, fun w h => atoms_spec BL.pre w (List.mem_cons_of_mem _ h)⟩
  have hr := BL.returns
  have hlocks := BL.notSynchronized
  have hw : WS g s (xB S p B y) s.heap [] := ⟨hPB, va_S.rf⟩
  have hl := lv_entry ([.ref (gA g (jB p)), .ref (gA g (jC p i1))]) (n := 3) (Nat.le_of_ble_eq_true rfl)
  rw [lg_entry_eq]
  generalize (lg_sl ([.ref (gA g (jB p)), .ref (gA g (jC p i1))]) ++ List.replicate (3 - (lg_sl ([.ref (gA g (jB p)), .ref (gA g (jC p i1))])).length) Slot.unset).toArray = ls at hl ⊢
  have hl : lv_has ls 3 [(0, .ref (gA g (jB p))), (1, .ref (gA g (jC p i1)))] := hl
  refine lv_aload_n hx hb dX0_dueOf_0 rfl (lv_at hl 0 rfl) ?_
  refine lv_aload_n hx hb dX0_dueOf_1 rfl (lv_at hl 1 rfl) ?_
  refine kc_r hw (va_runV (As := [.ref (gA g (jC p i1))]) (rest := []) ⟨hx, hb, hml, hc.2.2.1, hc.2.2.2⟩ (m_X0_leadOf l g S p B y hp i1 hi1 _ _ hN) (kw_V hc 1 q480 q482 qs31 q2 q483 rfl rfl (by decide +kernel) ⟨Nat.le_of_ble_eq_true rfl, Nat.le_of_ble_eq_true rfl⟩) (kp_V hk hw (bt_B hp) rfl) rfl rfl hl.1 rfl (lv_room (Nat.le_of_ble_eq_true rfl)) dX0_dueOf_2 ⟨Nat.le_of_ble_eq_true rfl, Nat.le_of_ble_eq_true rfl⟩) (fun H locs hw => ?_)
  refine lv_astore_n (lv' := [(2, .ref (gA g (jC p (f_X0_leadOf i1 B)))), (0, .ref (gA g (jB p))), (1, .ref (gA g (jC p i1)))]) hx hb dX0_dueOf_5 rfl hl (by decide) rfl (fun ls hl => ?_)
  refine lv_aload_n hx hb dX0_dueOf_6 rfl (lv_at hl 0 rfl) ?_
  refine k_getN hc hk hw (bt_C hp (lt_X0_leadOf hN hi1)) rfl iX1 11 (by decide) nq159 (v := .int (B (10 + (f_X0_leadOf i1 B)) 11)) rfl dX0_dueOf_7 ?_
  refine lv_bipush (v := 97) hx hb dX0_dueOf_10 (by decide) ?_
  refine lv_icmp_ne (tgt := 23) hx hb dX0_dueOf_12 (by decide) (fun h1 => ?_) (fun h1 => ?_)
  · refine lv_aload_n hx hb dX0_dueOf_23 rfl (lv_at hl 0 rfl) ?_
    refine k_getN hc hk hw (bt_C hp (lt_X0_leadOf hN hi1)) rfl iX1 11 (by decide) nq159 (v := .int (B (10 + (f_X0_leadOf i1 B)) 11)) rfl dX0_dueOf_24 ?_
    refine lv_bipush (v := 100) hx hb dX0_dueOf_27 (by decide) ?_
    refine lv_icmp_ne (tgt := 42) hx hb dX0_dueOf_29 (by decide) (fun h2 => ?_) (fun h2 => ?_)
    · refine lv_iconst (v := (-1)) hx hb dX0_dueOf_42 (by decide) ?_
      exact W.iret (v := (-1)) hx hb hr (fun t9 ht hW => ke_i hw ht (by simp only [f_X0_dueOf, if_neg h1, if_neg h2]) rfl) hw.2.2.2 dX0_dueOf_43
    · refine lv_aload_n hx hb dX0_dueOf_32 rfl (lv_at hl 0 rfl) ?_
      refine k_getN hc hk hw (bt_C hp (lt_X0_leadOf hN hi1)) rfl iX1 2 (by decide) nq139 (v := .ref (gA g (jF p (f_X0_leadOf i1 B)))) rfl dX0_dueOf_33 ?_
      refine k_getN hc hk hw (bt_F hp (lt_X0_leadOf hN hi1)) rfl iX3 2 (by decide) nq110 (v := .int (B (50 + (f_X0_leadOf i1 B)) 2)) rfl dX0_dueOf_36 ?_
      refine lv_goto (tgt := 43) hx hb dX0_dueOf_39 (by decide) ?_
      exact W.iret (v := B (50 + (f_X0_leadOf i1 B)) 2) hx hb hr (fun t9 ht hW => ke_i hw ht (by simp only [f_X0_dueOf, if_neg h1, if_pos h2]) rfl) hw.2.2.2 dX0_dueOf_43
  · refine lv_aload_n hx hb dX0_dueOf_15 rfl (lv_at hl 0 rfl) ?_
    refine k_getN hc hk hw (bt_C hp (lt_X0_leadOf hN hi1)) rfl iX1 1 (by decide) nq136 (v := .ref (gA g (jI p (f_X0_leadOf i1 B)))) rfl dX0_dueOf_16 ?_
    refine k_getN hc hk hw (bt_I hp (lt_X0_leadOf hN hi1)) rfl iX4 0 (by decide) nq80 (v := .int (B (30 + (f_X0_leadOf i1 B)) 0)) rfl dX0_dueOf_19 ?_
    exact W.iret (v := B (30 + (f_X0_leadOf i1 B)) 0) hx hb hr (fun t9 ht hW => ke_i hw ht (by simp only [f_X0_dueOf, if_pos h1]) rfl) hw.2.2.2 dX0_dueOf_22
def b_earliestDue (B : BT) (k : Nat) (z : Int32) : Int32 :=
  (if f_X0_dueOf k B < B 0 5 then z else (if z = (-1) then f_X0_dueOf k B else (if z ≤ f_X0_dueOf k B then z else f_X0_dueOf k B)))
def L_earliestDue (B : BT) : Nat → Int32
  | 0 => (-1)
  | k + 1 => b_earliestDue B k (L_earliestDue B k)
def f_X0_earliestDue  (B : BT) : Int32 :=
  (L_earliestDue B ((B 0 4).toNatClampNeg))
set_option maxHeartbeats 4000000 in
set_option maxRecDepth 100000 in
theorem m_X0_earliestDue (l : Launch) (g : wG) (S : Nat → BT) (p : Nat) (B : BT) (y : (Nat → Nat → Int32) × (Nat → Int64) × (Nat → UInt64)) (hp : p < 2) (n m9 : Nat) (hN : CN B n m9) : mI l yX0_earliestDue cX0_earliestDue 4 (some .int) ({ frames := 2, cells := 0, slots := 0, locals := 43 } : Room) 0 0 g (xB S p B y) [.ref (gA g (jB p))] (f_X0_earliestDue B) (xB S p B y) := by
  refine Met.ofW (cc := cX0_earliestDue) (maxL := 4) (ret := some .int) (by decide) rfl ?_
  intro p9 e s m args below meth c s₁ BL hml hv
  obtain ⟨rfl, hk, hPB⟩ := hv
  have hx := BL.exec
  have hb := BL.bytes
  have hc : CX p9 c cX0_earliestDue s _ m RX0 := ⟨hx, hb, findClass_of_methodNamed BL.named, fun w h => atoms_spec BL.pre w (List.mem_cons_of_mem _ h)⟩
  have hr := BL.returns
  have hlocks := BL.notSynchronized
  have hw : WS g s (xB S p B y) s.heap [] := ⟨hPB, va_S.rf⟩
  have hl := lv_entry ([.ref (gA g (jB p))]) (n := 4) (Nat.le_of_ble_eq_true rfl)
  rw [lg_entry_eq]
  generalize (lg_sl ([.ref (gA g (jB p))]) ++ List.replicate (4 - (lg_sl ([.ref (gA g (jB p))])).length) Slot.unset).toArray = ls at hl ⊢
  have hl : lv_has ls 4 [(0, .ref (gA g (jB p)))] := hl
  refine lv_iconst (v := (-1)) hx hb dX0_earliestDue_0 (by decide) ?_
  refine lv_istore_n (lv' := [(1, .int (-1)), (0, .ref (gA g (jB p)))]) hx hb dX0_earliestDue_1 rfl hl (by decide) rfl (fun ls hl => ?_)
  refine lv_iconst (v := 0) hx hb dX0_earliestDue_2 (by decide) ?_
  refine lv_istore_n (lv' := [(2, .int 0), (1, .int (-1)), (0, .ref (gA g (jB p)))]) hx hb dX0_earliestDue_3 rfl hl (by decide) rfl (fun ls hl => ?_)
  have LP1 : ∀ (f k : Nat), k ≤ (B 0 4).toNatClampNeg → (B 0 4).toNatClampNeg + 1 ≤ k + f → ∀ (H : Heap) (locs : List Loc), WS g s (xB S p B y) H locs → ∀ (ls : Array Slot), lv_has ls 4 [(2, .int (nI k)), (1, .int (L_earliestDue B k)), (0, .ref (gA g (jB p)))] → W p9 l e ({ frames := 2, cells := 0, slots := 0, locals := 43 } : Room) s m ([.ref (gA g (jB p))] : List Value).toArray below meth c H locs 0 0 (MQ below (va_Qi (fun (v : Int32) (u : wSt) => v = f_X0_earliestDue B ∧ u = (xB S p B y)) (PB g) (AA g)) (([.ref (gA g (jB p))] : List Value).toArray) s 0 0 (AA g)) (F0 m 4 ls []) := by
    intro f
    induction f with
    | zero => intro k h1 h2; exact absurd h2 (by omega)
    | succ f ih =>
      intro k hk9 hf9 H locs hw ls hl
      have hl4 := CN.l4 hN
      refine lv_iload_n hx hb dX0_earliestDue_4 rfl (lv_at hl 0 rfl) ?_
      refine lv_aload_n hx hb dX0_earliestDue_5 rfl (lv_at hl 2 rfl) ?_
      refine k_get hc hk hw (bt_B hp) rfl iX0 4 (by decide) q208 (v := .int (B 0 4)) rfl dX0_earliestDue_6 ?_
      refine lv_icmp_ge (tgt := 49) hx hb dX0_earliestDue_9 (by decide) (fun h2 => ?_) (fun h2 => ?_)
      · have hkn := lp_out h2 (CN.cc hN hN) hk9 (by omega)
        subst hkn
        refine lv_iload_n hx hb dX0_earliestDue_49 rfl (lv_at hl 1 rfl) ?_
        exact W.iret (v := (L_earliestDue B ((B 0 4).toNatClampNeg))) hx hb hr (fun t9 ht hW => ke_i hw ht (by simp only [f_X0_earliestDue]) rfl) hw.2.2.2 dX0_earliestDue_50
      · have hkn := lp_in h2 (CN.cc hN hN) hk9 (by omega)
        refine lv_aload_n hx hb dX0_earliestDue_12 rfl (lv_at hl 2 rfl) ?_
        refine lv_aload_n hx hb dX0_earliestDue_13 rfl (lv_at hl 2 rfl) ?_
        refine k_get hc hk hw (bt_B hp) rfl iX0 1 (by decide) q203 (v := .ref (gA g (jCs p))) rfl dX0_earliestDue_14 ?_
        refine lv_iload_n hx hb dX0_earliestDue_17 rfl (lv_at hl 0 rfl) ?_
        refine k_ald (t0 := 5) (f := fun k => gA g (jC p k)) (n := k) hc hk hw rfl (at_Cs hp) (vp_in_nI (Nat.lt_of_lt_of_le hkn (by omega)) (by omega)) (nI_clamp (by have := hkn; omega)) dX0_earliestDue_18 ?_
        refine kc_i hw (va_runV (As := [.ref (gA g (jC p k))]) (rest := []) ⟨hx, hb, hml, hc.2.2.1, hc.2.2.2⟩ (m_X0_dueOf l g S p B y hp k (Nat.lt_of_lt_of_le hkn (by omega)) _ _ hN) (kw_V hc 1 q804 q806 qs54 q2 q807 rfl rfl (by decide +kernel) ⟨Nat.le_of_ble_eq_true rfl, Nat.le_of_ble_eq_true rfl⟩) (kp_V hk hw (bt_B hp) rfl) rfl rfl hl.1 rfl (lv_room (Nat.le_of_ble_eq_true rfl)) dX0_earliestDue_19 ⟨Nat.le_of_ble_eq_true rfl, Nat.le_of_ble_eq_true rfl⟩) (fun H locs hw => ?_)
        refine lv_istore_n (lv' := [(3, .int (f_X0_dueOf k B)), (2, .int (nI k)), (1, .int (L_earliestDue B k)), (0, .ref (gA g (jB p)))]) hx hb dX0_earliestDue_22 rfl hl (by decide) rfl (fun ls hl => ?_)
        refine lv_iload_n hx hb dX0_earliestDue_23 rfl (lv_at hl 0 rfl) ?_
        refine lv_aload_n hx hb dX0_earliestDue_24 rfl (lv_at hl 3 rfl) ?_
        refine k_get hc hk hw (bt_B hp) rfl iX0 5 (by decide) q210 (v := .int (B 0 5)) rfl dX0_earliestDue_25 ?_
        refine lv_icmp_lt (tgt := 43) hx hb dX0_earliestDue_28 (by decide) (fun h3 => ?_) (fun h3 => ?_)
        · refine lv_iinc (v := nI (k + 1)) (lv' := [(2, .int (nI (k + 1))), (3, .int (f_X0_dueOf k B)), (1, .int (L_earliestDue B k)), (0, .ref (gA g (jB p)))]) hx hb dX0_earliestDue_43 hl (k := 1) rfl (by first | exact (nI_succ _).symm | rfl) (by decide) rfl (fun ls hl => ?_)
          refine lv_goto (tgt := 4) hx hb dX0_earliestDue_46 (by decide) ?_
          have hw9 : WS g s (xB S p B y) H locs := by
            exact hw
          have hl9 := lv_sub hl [0, 2, 3] rfl
          have e8 : (L_earliestDue B k) = (L_earliestDue B (k + 1)) := by simp only [L_earliestDue, b_earliestDue, if_pos h3]
          rw [e8] at hl9
          exact ih (k + 1) (by omega) (by omega) _ _ hw9 _ hl9
        · refine lv_iload_n hx hb dX0_earliestDue_31 rfl (lv_at hl 2 rfl) ?_
          refine lv_iconst (v := (-1)) hx hb dX0_earliestDue_32 (by decide) ?_
          refine lv_icmp_eq (tgt := 41) hx hb dX0_earliestDue_33 (by decide) (fun h5 => ?_) (fun h5 => ?_)
          · refine lv_iload_n hx hb dX0_earliestDue_41 rfl (lv_at hl 0 rfl) ?_
            refine lv_istore_n (lv' := [(1, .int (f_X0_dueOf k B)), (3, .int (f_X0_dueOf k B)), (2, .int (nI k)), (0, .ref (gA g (jB p)))]) hx hb dX0_earliestDue_42 rfl hl (by decide) rfl (fun ls hl => ?_)
            refine lv_iinc (v := nI (k + 1)) (lv' := [(2, .int (nI (k + 1))), (1, .int (f_X0_dueOf k B)), (3, .int (f_X0_dueOf k B)), (0, .ref (gA g (jB p)))]) hx hb dX0_earliestDue_43 hl (k := 2) rfl (by first | exact (nI_succ _).symm | rfl) (by decide) rfl (fun ls hl => ?_)
            refine lv_goto (tgt := 4) hx hb dX0_earliestDue_46 (by decide) ?_
            have hw9 : WS g s (xB S p B y) H locs := by
              exact hw
            have hl9 := lv_sub hl [0, 1, 3] rfl
            have e8 : f_X0_dueOf k B = (L_earliestDue B (k + 1)) := by simp only [L_earliestDue, b_earliestDue, if_neg h3, if_pos h5]
            rw [e8] at hl9
            exact ih (k + 1) (by omega) (by omega) _ _ hw9 _ hl9
          · refine lv_iload_n hx hb dX0_earliestDue_36 rfl (lv_at hl 0 rfl) ?_
            refine lv_iload_n hx hb dX0_earliestDue_37 rfl (lv_at hl 2 rfl) ?_
            refine lv_icmp_ge (tgt := 43) hx hb dX0_earliestDue_38 (by decide) (fun h7 => ?_) (fun h7 => ?_)
            · refine lv_iinc (v := nI (k + 1)) (lv' := [(2, .int (nI (k + 1))), (3, .int (f_X0_dueOf k B)), (1, .int (L_earliestDue B k)), (0, .ref (gA g (jB p)))]) hx hb dX0_earliestDue_43 hl (k := 1) rfl (by first | exact (nI_succ _).symm | rfl) (by decide) rfl (fun ls hl => ?_)
              refine lv_goto (tgt := 4) hx hb dX0_earliestDue_46 (by decide) ?_
              have hw9 : WS g s (xB S p B y) H locs := by
                exact hw
              have hl9 := lv_sub hl [0, 2, 3] rfl
              have e8 : (L_earliestDue B k) = (L_earliestDue B (k + 1)) := by simp only [L_earliestDue, b_earliestDue, if_neg h3, if_neg h5, if_pos h7]
              rw [e8] at hl9
              exact ih (k + 1) (by omega) (by omega) _ _ hw9 _ hl9
            · refine lv_iload_n hx hb dX0_earliestDue_41 rfl (lv_at hl 0 rfl) ?_
              refine lv_istore_n (lv' := [(1, .int (f_X0_dueOf k B)), (3, .int (f_X0_dueOf k B)), (2, .int (nI k)), (0, .ref (gA g (jB p)))]) hx hb dX0_earliestDue_42 rfl hl (by decide) rfl (fun ls hl => ?_)
              refine lv_iinc (v := nI (k + 1)) (lv' := [(2, .int (nI (k + 1))), (1, .int (f_X0_dueOf k B)), (3, .int (f_X0_dueOf k B)), (0, .ref (gA g (jB p)))]) hx hb dX0_earliestDue_43 hl (k := 2) rfl (by first | exact (nI_succ _).symm | rfl) (by decide) rfl (fun ls hl => ?_)
              refine lv_goto (tgt := 4) hx hb dX0_earliestDue_46 (by decide) ?_
              have hw9 : WS g s (xB S p B y) H locs := by
                exact hw
              have hl9 := lv_sub hl [0, 1, 3] rfl
              have e8 : f_X0_dueOf k B = (L_earliestDue B (k + 1)) := by simp only [L_earliestDue, b_earliestDue, if_neg h3, if_neg h5, if_neg h7]
              rw [e8] at hl9
              exact ih (k + 1) (by omega) (by omega) _ _ hw9 _ hl9
  exact LP1 ((B 0 4).toNatClampNeg + 1) 0 (Nat.zero_le _) (by omega) _ _ hw _ (lv_sub hl [0, 1, 2] rfl)
def f_X0_tellOfCourt (i1 : Nat) (a2 : Int32) (B : BT) : Int32 × BT :=
  (if B (10 + i1) 8 = 0 then (0, up2 B (10 + i1) 8 a2) else (1, up2 B (10 + i1) 8 a2))
theorem cn_X0_tellOfCourt {i1 : Nat} {a2 : Int32} {B : BT} {n m9 : Nat} (ha2 : okz a2) (hN : CN B n m9) : CN ((f_X0_tellOfCourt i1 a2 B).2) n m9 := by
  unfold f_X0_tellOfCourt
  by_cases h1 : B (10 + i1) 8 = 0
  · simp only [if_pos h1]
    exact (CN.up (by omega) (by decide) hN)
  · simp only [if_neg h1]
    exact (CN.up (by omega) (by decide) hN)
set_option maxHeartbeats 4000000 in
set_option maxRecDepth 100000 in
theorem m_X0_tellOfCourt (l : Launch) (g : wG) (S : Nat → BT) (p : Nat) (B : BT) (y : (Nat → Nat → Int32) × (Nat → Int64) × (Nat → UInt64)) (hp : p < 2) (i1 : Nat) (hi1 : i1 < 20) (a2 : Int32) (ha2 : okz a2) (n m9 : Nat) (hN : CN B n m9) : mI l yX0_tellOfCourt cX0_tellOfCourt 4 (some .int) ({ frames := 0, cells := 0, slots := 0, locals := 0 } : Room) 0 0 g (xB S p B y) [.ref (gA g (jB p)), .ref (gA g (jC p i1)), .int a2] ((f_X0_tellOfCourt i1 a2 B).1) (xB S p ((f_X0_tellOfCourt i1 a2 B).2) y) := by
  refine Met.ofW (cc := cX0_tellOfCourt) (maxL := 4) (ret := some .int) (by decide) rfl ?_
  intro p9 e s m args below meth c s₁ BL hml hv
  obtain ⟨rfl, hk, hPB⟩ := hv
  have hx := BL.exec
  have hb := BL.bytes
  have hc : CX p9 c cX0_tellOfCourt s _ m RX0 := ⟨hx, hb, findClass_of_methodNamed BL.named, fun w h => atoms_spec BL.pre w (List.mem_cons_of_mem _ h)⟩
  have hr := BL.returns
  have hlocks := BL.notSynchronized
  have hw : WS g s (xB S p B y) s.heap [] := ⟨hPB, va_S.rf⟩
  have hl := lv_entry ([.ref (gA g (jB p)), .ref (gA g (jC p i1)), .int a2]) (n := 4) (Nat.le_of_ble_eq_true rfl)
  rw [lg_entry_eq]
  generalize (lg_sl ([.ref (gA g (jB p)), .ref (gA g (jC p i1)), .int a2]) ++ List.replicate (4 - (lg_sl ([.ref (gA g (jB p)), .ref (gA g (jC p i1)), .int a2])).length) Slot.unset).toArray = ls at hl ⊢
  have hl : lv_has ls 4 [(0, .ref (gA g (jB p))), (1, .ref (gA g (jC p i1))), (2, .int a2)] := hl
  refine lv_aload_n hx hb dX0_tellOfCourt_0 rfl (lv_at hl 1 rfl) ?_
  refine k_getN hc hk hw (bt_C hp hi1) rfl iX1 8 (by decide) nq152 (v := .int (B (10 + i1) 8)) rfl dX0_tellOfCourt_1 ?_
  refine lv_if_eq (tgt := 11) hx hb dX0_tellOfCourt_4 (by decide) (fun h1 => ?_) (fun h1 => ?_)
  · refine lv_iconst (v := 0) hx hb dX0_tellOfCourt_11 (by decide) ?_
    refine lv_istore_n (lv' := [(3, .int 0), (0, .ref (gA g (jB p))), (1, .ref (gA g (jC p i1))), (2, .int a2)]) hx hb dX0_tellOfCourt_12 rfl hl (by decide) rfl (fun ls hl => ?_)
    refine lv_aload_n hx hb dX0_tellOfCourt_13 rfl (lv_at hl 2 rfl) ?_
    refine lv_iload_n hx hb dX0_tellOfCourt_14 rfl (lv_at hl 3 rfl) ?_
    refine k_putN hc hk hw (x' := (xB S p (up2 B (10 + i1) 8 a2) y)) (bt_C hp hi1) rfl iX1 tyX1 tyX1_ok nmX1 8 (by decide) nq152 rfl ha2.1 ha2.2.1 (Nat.le_of_ble_eq_true rfl) dX0_tellOfCourt_15 (bs_C hp hi1 (by decide) (by decide)) (fun H locs hw => ?_)
    refine lv_iload_n hx hb dX0_tellOfCourt_18 rfl (lv_at hl 0 rfl) ?_
    exact W.iret (v := 0) hx hb hr (fun t9 ht hW => ke_i hw ht (by simp only [f_X0_tellOfCourt, if_pos h1]) (by simp only [f_X0_tellOfCourt, if_pos h1])) hw.2.2.2 dX0_tellOfCourt_19
  · refine lv_iconst (v := 1) hx hb dX0_tellOfCourt_7 (by decide) ?_
    refine lv_goto (tgt := 12) hx hb dX0_tellOfCourt_8 (by decide) ?_
    refine lv_istore_n (lv' := [(3, .int 1), (0, .ref (gA g (jB p))), (1, .ref (gA g (jC p i1))), (2, .int a2)]) hx hb dX0_tellOfCourt_12 rfl hl (by decide) rfl (fun ls hl => ?_)
    refine lv_aload_n hx hb dX0_tellOfCourt_13 rfl (lv_at hl 2 rfl) ?_
    refine lv_iload_n hx hb dX0_tellOfCourt_14 rfl (lv_at hl 3 rfl) ?_
    refine k_putN hc hk hw (x' := (xB S p (up2 B (10 + i1) 8 a2) y)) (bt_C hp hi1) rfl iX1 tyX1 tyX1_ok nmX1 8 (by decide) nq152 rfl ha2.1 ha2.2.1 (Nat.le_of_ble_eq_true rfl) dX0_tellOfCourt_15 (bs_C hp hi1 (by decide) (by decide)) (fun H locs hw => ?_)
    refine lv_iload_n hx hb dX0_tellOfCourt_18 rfl (lv_at hl 0 rfl) ?_
    exact W.iret (v := 1) hx hb hr (fun t9 ht hW => ke_i hw ht (by simp only [f_X0_tellOfCourt, if_neg h1]) (by simp only [f_X0_tellOfCourt, if_neg h1])) hw.2.2.2 dX0_tellOfCourt_19
def f_X0_tellOfReason (i1 : Nat) (B : BT) : Int32 × BT :=
  (if B (10 + i1) 9 = 0 then (0, up2 B (10 + i1) 9 1) else (1, up2 B (10 + i1) 9 1))
theorem cn_X0_tellOfReason {i1 : Nat} {B : BT} {n m9 : Nat} (hN : CN B n m9) : CN ((f_X0_tellOfReason i1 B).2) n m9 := by
  unfold f_X0_tellOfReason
  by_cases h1 : B (10 + i1) 9 = 0
  · simp only [if_pos h1]
    exact (CN.up (by omega) (by decide) hN)
  · simp only [if_neg h1]
    exact (CN.up (by omega) (by decide) hN)
set_option maxHeartbeats 4000000 in
set_option maxRecDepth 100000 in
theorem m_X0_tellOfReason (l : Launch) (g : wG) (S : Nat → BT) (p : Nat) (B : BT) (y : (Nat → Nat → Int32) × (Nat → Int64) × (Nat → UInt64)) (hp : p < 2) (i1 : Nat) (hi1 : i1 < 20) (n m9 : Nat) (hN : CN B n m9) : mI l yX0_tellOfReason cX0_tellOfReason 3 (some .int) ({ frames := 0, cells := 0, slots := 0, locals := 0 } : Room) 0 0 g (xB S p B y) [.ref (gA g (jB p)), .ref (gA g (jC p i1))] ((f_X0_tellOfReason i1 B).1) (xB S p ((f_X0_tellOfReason i1 B).2) y) := by
  refine Met.ofW (cc := cX0_tellOfReason) (maxL := 3) (ret := some .int) (by decide) rfl ?_
  intro p9 e s m args below meth c s₁ BL hml hv
  obtain ⟨rfl, hk, hPB⟩ := hv
  have hx := BL.exec
  have hb := BL.bytes
  have hc : CX p9 c cX0_tellOfReason s _ m RX0 := ⟨hx, hb, findClass_of_methodNamed BL.named, fun w h => atoms_spec BL.pre w (List.mem_cons_of_mem _ h)⟩
  have hr := BL.returns
  have hlocks := BL.notSynchronized
  have hw : WS g s (xB S p B y) s.heap [] := ⟨hPB, va_S.rf⟩
  have hl := lv_entry ([.ref (gA g (jB p)), .ref (gA g (jC p i1))]) (n := 3) (Nat.le_of_ble_eq_true rfl)
  rw [lg_entry_eq]
  generalize (lg_sl ([.ref (gA g (jB p)), .ref (gA g (jC p i1))]) ++ List.replicate (3 - (lg_sl ([.ref (gA g (jB p)), .ref (gA g (jC p i1))])).length) Slot.unset).toArray = ls at hl ⊢
  have hl : lv_has ls 3 [(0, .ref (gA g (jB p))), (1, .ref (gA g (jC p i1)))] := hl
  refine lv_aload_n hx hb dX0_tellOfReason_0 rfl (lv_at hl 1 rfl) ?_
  refine k_getN hc hk hw (bt_C hp hi1) rfl iX1 9 (by decide) nq154 (v := .int (B (10 + i1) 9)) rfl dX0_tellOfReason_1 ?_
  refine lv_if_eq (tgt := 11) hx hb dX0_tellOfReason_4 (by decide) (fun h1 => ?_) (fun h1 => ?_)
  · refine lv_iconst (v := 0) hx hb dX0_tellOfReason_11 (by decide) ?_
    refine lv_istore_n (lv' := [(2, .int 0), (0, .ref (gA g (jB p))), (1, .ref (gA g (jC p i1)))]) hx hb dX0_tellOfReason_12 rfl hl (by decide) rfl (fun ls hl => ?_)
    refine lv_aload_n hx hb dX0_tellOfReason_13 rfl (lv_at hl 2 rfl) ?_
    refine lv_iconst (v := 1) hx hb dX0_tellOfReason_14 (by decide) ?_
    refine k_putN hc hk hw (x' := (xB S p (up2 B (10 + i1) 9 1) y)) (bt_C hp hi1) rfl iX1 tyX1 tyX1_ok nmX1 9 (by decide) nq154 rfl (by decide +kernel) (by decide +kernel) (Nat.le_of_ble_eq_true rfl) dX0_tellOfReason_15 (bs_C hp hi1 (by decide) (by decide)) (fun H locs hw => ?_)
    refine lv_iload_n hx hb dX0_tellOfReason_18 rfl (lv_at hl 0 rfl) ?_
    exact W.iret (v := 0) hx hb hr (fun t9 ht hW => ke_i hw ht (by simp only [f_X0_tellOfReason, if_pos h1]) (by simp only [f_X0_tellOfReason, if_pos h1])) hw.2.2.2 dX0_tellOfReason_19
  · refine lv_iconst (v := 1) hx hb dX0_tellOfReason_7 (by decide) ?_
    refine lv_goto (tgt := 12) hx hb dX0_tellOfReason_8 (by decide) ?_
    refine lv_istore_n (lv' := [(2, .int 1), (0, .ref (gA g (jB p))), (1, .ref (gA g (jC p i1)))]) hx hb dX0_tellOfReason_12 rfl hl (by decide) rfl (fun ls hl => ?_)
    refine lv_aload_n hx hb dX0_tellOfReason_13 rfl (lv_at hl 2 rfl) ?_
    refine lv_iconst (v := 1) hx hb dX0_tellOfReason_14 (by decide) ?_
    refine k_putN hc hk hw (x' := (xB S p (up2 B (10 + i1) 9 1) y)) (bt_C hp hi1) rfl iX1 tyX1 tyX1_ok nmX1 9 (by decide) nq154 rfl (by decide +kernel) (by decide +kernel) (Nat.le_of_ble_eq_true rfl) dX0_tellOfReason_15 (bs_C hp hi1 (by decide) (by decide)) (fun H locs hw => ?_)
    refine lv_iload_n hx hb dX0_tellOfReason_18 rfl (lv_at hl 0 rfl) ?_
    exact W.iret (v := 1) hx hb hr (fun t9 ht hW => ke_i hw ht (by simp only [f_X0_tellOfReason, if_neg h1]) (by simp only [f_X0_tellOfReason, if_neg h1])) hw.2.2.2 dX0_tellOfReason_19
def f_X0_intakeOf (i1 : Nat) (B : BT) : Int32 :=
  (if ((B (4 + (f_X0_officeOf i1 B)) 1) >>> ((B (10 + i1) 4) &&& 31)) &&& 1 = 0 then 111 else (if B (10 + i1) 8 = 0 then (if (B (10 + i1) 7) - (B (10 + i1) 6) ≤ 365 then (if B (10 + i1) 10 = (-1) then 102 else (if B (4 + (f_X0_officeOf i1 B)) 0 ≤ (B 0 5) - (B (10 + i1) 10) then 114 else 102)) else (if B (10 + i1) 9 = 0 then 108 else (if B (10 + i1) 10 = (-1) then 102 else (if B (4 + (f_X0_officeOf i1 B)) 0 ≤ (B 0 5) - (B (10 + i1) 10) then 114 else 102)))) else 111))
set_option maxHeartbeats 4000000 in
set_option maxRecDepth 100000 in
theorem m_X0_intakeOf (l : Launch) (g : wG) (S : Nat → BT) (p : Nat) (B : BT) (y : (Nat → Nat → Int32) × (Nat → Int64) × (Nat → UInt64)) (hp : p < 2) (i1 : Nat) (hi1 : i1 < 20) (n m9 : Nat) (hN : CN B n m9) : mI l yX0_intakeOf cX0_intakeOf 3 (some .char) ({ frames := 1, cells := 0, slots := 0, locals := 21 } : Room) 0 0 g (xB S p B y) [.ref (gA g (jB p)), .ref (gA g (jC p i1))] (f_X0_intakeOf i1 B) (xB S p B y) := by
  refine Met.ofW (cc := cX0_intakeOf) (maxL := 3) (ret := some .char) (by decide) rfl ?_
  intro p9 e s m args below meth c s₁ BL hml hv
  obtain ⟨rfl, hk, hPB⟩ := hv
  have hx := BL.exec
  have hb := BL.bytes
  have hc : CX p9 c cX0_intakeOf s _ m RX0 := ⟨hx, hb, findClass_of_methodNamed BL.named, fun w h => atoms_spec BL.pre w (List.mem_cons_of_mem _ h)⟩
  have hr := BL.returns
  have hlocks := BL.notSynchronized
  have hw : WS g s (xB S p B y) s.heap [] := ⟨hPB, va_S.rf⟩
  have hl := lv_entry ([.ref (gA g (jB p)), .ref (gA g (jC p i1))]) (n := 3) (Nat.le_of_ble_eq_true rfl)
  rw [lg_entry_eq]
  generalize (lg_sl ([.ref (gA g (jB p)), .ref (gA g (jC p i1))]) ++ List.replicate (3 - (lg_sl ([.ref (gA g (jB p)), .ref (gA g (jC p i1))])).length) Slot.unset).toArray = ls at hl ⊢
  have hl : lv_has ls 3 [(0, .ref (gA g (jB p))), (1, .ref (gA g (jC p i1)))] := hl
  refine lv_aload_n hx hb dX0_intakeOf_0 rfl (lv_at hl 0 rfl) ?_
  refine lv_aload_n hx hb dX0_intakeOf_1 rfl (lv_at hl 1 rfl) ?_
  refine kc_r hw (va_runV (As := [.ref (gA g (jC p i1))]) (rest := []) ⟨hx, hb, hml, hc.2.2.1, hc.2.2.2⟩ (m_X0_officeOf l g S p B y hp i1 hi1 _ _ hN) (kw_V hc 1 q318 q320 qs14 q2 q321 rfl rfl (by decide +kernel) ⟨Nat.le_of_ble_eq_true rfl, Nat.le_of_ble_eq_true rfl⟩) (kp_V hk hw (bt_B hp) rfl) rfl rfl hl.1 rfl (lv_room (Nat.le_of_ble_eq_true rfl)) dX0_intakeOf_2 ⟨Nat.le_of_ble_eq_true rfl, Nat.le_of_ble_eq_true rfl⟩) (fun H locs hw => ?_)
  refine lv_astore_n (lv' := [(2, .ref (gA g (jO p (f_X0_officeOf i1 B)))), (0, .ref (gA g (jB p))), (1, .ref (gA g (jC p i1)))]) hx hb dX0_intakeOf_5 rfl hl (by decide) rfl (fun ls hl => ?_)
  refine lv_aload_n hx hb dX0_intakeOf_6 rfl (lv_at hl 0 rfl) ?_
  refine k_getN hc hk hw (bt_O hp (lt_X0_officeOf hN)) rfl iX5 1 (by decide) nq51 (v := .int (B (4 + (f_X0_officeOf i1 B)) 1)) rfl dX0_intakeOf_7 ?_
  refine lv_aload_n hx hb dX0_intakeOf_10 rfl (lv_at hl 2 rfl) ?_
  refine k_getN hc hk hw (bt_C hp hi1) rfl iX1 4 (by decide) nq144 (v := .int (B (10 + i1) 4)) rfl dX0_intakeOf_11 ?_
  refine lv_ishr hx hb dX0_intakeOf_14 ?_
  refine lv_iconst (v := 1) hx hb dX0_intakeOf_15 (by decide) ?_
  refine lv_iand hx hb dX0_intakeOf_16 ?_
  refine lv_if_eq (tgt := 27) hx hb dX0_intakeOf_17 (by decide) (fun h1 => ?_) (fun h1 => ?_)
  · refine lv_bipush (v := 111) hx hb dX0_intakeOf_27 (by decide) ?_
    exact W.zret (v := 111) hx hb hr (by decide +kernel) (fun t9 ht hW => ke_i hw ht (by simp only [f_X0_intakeOf, if_pos h1]) rfl) hw.2.2.2 dX0_intakeOf_29
  · refine lv_aload_n hx hb dX0_intakeOf_20 rfl (lv_at hl 2 rfl) ?_
    refine k_getN hc hk hw (bt_C hp hi1) rfl iX1 8 (by decide) nq152 (v := .int (B (10 + i1) 8)) rfl dX0_intakeOf_21 ?_
    refine lv_if_eq (tgt := 30) hx hb dX0_intakeOf_24 (by decide) (fun h2 => ?_) (fun h2 => ?_)
    · refine lv_aload_n hx hb dX0_intakeOf_30 rfl (lv_at hl 2 rfl) ?_
      refine k_getN hc hk hw (bt_C hp hi1) rfl iX1 7 (by decide) nq150 (v := .int (B (10 + i1) 7)) rfl dX0_intakeOf_31 ?_
      refine lv_aload_n hx hb dX0_intakeOf_34 rfl (lv_at hl 2 rfl) ?_
      refine k_getN hc hk hw (bt_C hp hi1) rfl iX1 6 (by decide) nq148 (v := .int (B (10 + i1) 6)) rfl dX0_intakeOf_35 ?_
      refine lv_isub hx hb dX0_intakeOf_38 ?_
      refine lv_sipush (v := 365) hx hb dX0_intakeOf_39 (by decide) ?_
      refine lv_icmp_le (tgt := 55) hx hb dX0_intakeOf_42 (by decide) (fun h3 => ?_) (fun h3 => ?_)
      · refine lv_aload_n hx hb dX0_intakeOf_55 rfl (lv_at hl 2 rfl) ?_
        refine k_getN hc hk hw (bt_C hp hi1) rfl iX1 10 (by decide) nq156 (v := .int (B (10 + i1) 10)) rfl dX0_intakeOf_56 ?_
        refine lv_iconst (v := (-1)) hx hb dX0_intakeOf_59 (by decide) ?_
        refine lv_icmp_eq (tgt := 79) hx hb dX0_intakeOf_60 (by decide) (fun h4 => ?_) (fun h4 => ?_)
        · refine lv_bipush (v := 102) hx hb dX0_intakeOf_79 (by decide) ?_
          exact W.zret (v := 102) hx hb hr (by decide +kernel) (fun t9 ht hW => ke_i hw ht (by simp only [f_X0_intakeOf, if_neg h1, if_pos h2, if_pos h3, if_pos h4]) rfl) hw.2.2.2 dX0_intakeOf_81
        · refine lv_aload_n hx hb dX0_intakeOf_63 rfl (lv_at hl 1 rfl) ?_
          refine k_get hc hk hw (bt_B hp) rfl iX0 5 (by decide) q210 (v := .int (B 0 5)) rfl dX0_intakeOf_64 ?_
          refine lv_aload_n hx hb dX0_intakeOf_67 rfl (lv_at hl 2 rfl) ?_
          refine k_getN hc hk hw (bt_C hp hi1) rfl iX1 10 (by decide) nq156 (v := .int (B (10 + i1) 10)) rfl dX0_intakeOf_68 ?_
          refine lv_isub hx hb dX0_intakeOf_71 ?_
          refine lv_aload_n hx hb dX0_intakeOf_72 rfl (lv_at hl 0 rfl) ?_
          refine k_getN hc hk hw (bt_O hp (lt_X0_officeOf hN)) rfl iX5 0 (by decide) nq49 (v := .int (B (4 + (f_X0_officeOf i1 B)) 0)) rfl dX0_intakeOf_73 ?_
          refine lv_icmp_ge (tgt := 82) hx hb dX0_intakeOf_76 (by decide) (fun h5 => ?_) (fun h5 => ?_)
          · refine lv_bipush (v := 114) hx hb dX0_intakeOf_82 (by decide) ?_
            exact W.zret (v := 114) hx hb hr (by decide +kernel) (fun t9 ht hW => ke_i hw ht (by simp only [f_X0_intakeOf, if_neg h1, if_pos h2, if_pos h3, if_neg h4, if_pos h5]) rfl) hw.2.2.2 dX0_intakeOf_84
          · refine lv_bipush (v := 102) hx hb dX0_intakeOf_79 (by decide) ?_
            exact W.zret (v := 102) hx hb hr (by decide +kernel) (fun t9 ht hW => ke_i hw ht (by simp only [f_X0_intakeOf, if_neg h1, if_pos h2, if_pos h3, if_neg h4, if_neg h5]) rfl) hw.2.2.2 dX0_intakeOf_81
      · refine lv_aload_n hx hb dX0_intakeOf_45 rfl (lv_at hl 2 rfl) ?_
        refine k_getN hc hk hw (bt_C hp hi1) rfl iX1 9 (by decide) nq154 (v := .int (B (10 + i1) 9)) rfl dX0_intakeOf_46 ?_
        refine lv_if_ne (tgt := 55) hx hb dX0_intakeOf_49 (by decide) (fun h6 => ?_) (fun h6 => ?_)
        · refine lv_aload_n hx hb dX0_intakeOf_55 rfl (lv_at hl 2 rfl) ?_
          refine k_getN hc hk hw (bt_C hp hi1) rfl iX1 10 (by decide) nq156 (v := .int (B (10 + i1) 10)) rfl dX0_intakeOf_56 ?_
          refine lv_iconst (v := (-1)) hx hb dX0_intakeOf_59 (by decide) ?_
          refine lv_icmp_eq (tgt := 79) hx hb dX0_intakeOf_60 (by decide) (fun h7 => ?_) (fun h7 => ?_)
          · refine lv_bipush (v := 102) hx hb dX0_intakeOf_79 (by decide) ?_
            exact W.zret (v := 102) hx hb hr (by decide +kernel) (fun t9 ht hW => ke_i hw ht (by simp only [f_X0_intakeOf, if_neg h1, if_pos h2, if_neg h3, if_neg h6, if_pos h7]) rfl) hw.2.2.2 dX0_intakeOf_81
          · refine lv_aload_n hx hb dX0_intakeOf_63 rfl (lv_at hl 1 rfl) ?_
            refine k_get hc hk hw (bt_B hp) rfl iX0 5 (by decide) q210 (v := .int (B 0 5)) rfl dX0_intakeOf_64 ?_
            refine lv_aload_n hx hb dX0_intakeOf_67 rfl (lv_at hl 2 rfl) ?_
            refine k_getN hc hk hw (bt_C hp hi1) rfl iX1 10 (by decide) nq156 (v := .int (B (10 + i1) 10)) rfl dX0_intakeOf_68 ?_
            refine lv_isub hx hb dX0_intakeOf_71 ?_
            refine lv_aload_n hx hb dX0_intakeOf_72 rfl (lv_at hl 0 rfl) ?_
            refine k_getN hc hk hw (bt_O hp (lt_X0_officeOf hN)) rfl iX5 0 (by decide) nq49 (v := .int (B (4 + (f_X0_officeOf i1 B)) 0)) rfl dX0_intakeOf_73 ?_
            refine lv_icmp_ge (tgt := 82) hx hb dX0_intakeOf_76 (by decide) (fun h8 => ?_) (fun h8 => ?_)
            · refine lv_bipush (v := 114) hx hb dX0_intakeOf_82 (by decide) ?_
              exact W.zret (v := 114) hx hb hr (by decide +kernel) (fun t9 ht hW => ke_i hw ht (by simp only [f_X0_intakeOf, if_neg h1, if_pos h2, if_neg h3, if_neg h6, if_neg h7, if_pos h8]) rfl) hw.2.2.2 dX0_intakeOf_84
            · refine lv_bipush (v := 102) hx hb dX0_intakeOf_79 (by decide) ?_
              exact W.zret (v := 102) hx hb hr (by decide +kernel) (fun t9 ht hW => ke_i hw ht (by simp only [f_X0_intakeOf, if_neg h1, if_pos h2, if_neg h3, if_neg h6, if_neg h7, if_neg h8]) rfl) hw.2.2.2 dX0_intakeOf_81
        · refine lv_bipush (v := 108) hx hb dX0_intakeOf_52 (by decide) ?_
          exact W.zret (v := 108) hx hb hr (by decide +kernel) (fun t9 ht hW => ke_i hw ht (by simp only [f_X0_intakeOf, if_neg h1, if_pos h2, if_neg h3, if_pos h6]) rfl) hw.2.2.2 dX0_intakeOf_54
    · refine lv_bipush (v := 111) hx hb dX0_intakeOf_27 (by decide) ?_
      exact W.zret (v := 111) hx hb hr (by decide +kernel) (fun t9 ht hW => ke_i hw ht (by simp only [f_X0_intakeOf, if_neg h1, if_neg h2]) rfl) hw.2.2.2 dX0_intakeOf_29
def b_moveAll (i1 : Nat) (a2 : Int32) (B : BT) (k : Nat) (z : Int32 × BT) : Int32 × BT :=
  (if z.2 (10 + k) 12 = nI i1 then (z.1 + 1, f_X1_moveTo k a2 (z.2 0 5) z.2) else (z.1, z.2))
def L_moveAll (i1 : Nat) (a2 : Int32) (B : BT) : Nat → Int32 × BT
  | 0 => (0, B)
  | k + 1 => b_moveAll i1 a2 B k (L_moveAll i1 a2 B k)
theorem cn_b_moveAll {i1 : Nat} {a2 : Int32} {B : BT} {k n m9 : Nat} {z : Int32 × BT} (ha2 : okc a2) (hN : CN z.2 n m9) : CN ((b_moveAll i1 a2 B k z).2) n m9 := by
  unfold b_moveAll
  by_cases h2 : z.2 (10 + k) 12 = nI i1
  · simp only [if_pos h2]
    exact (cn_X1_moveTo ha2 hN)
  · simp only [if_neg h2]
    exact hN
theorem cn_L_moveAll {i1 : Nat} {a2 : Int32} {B : BT} {n m9 : Nat} (ha2 : okc a2) (hN : CN B n m9) : ∀ k, CN ((L_moveAll i1 a2 B k).2) n m9 := by
  intro k
  induction k with
  | zero => exact hN
  | succ k ih => exact cn_b_moveAll ha2 ih
def f_X0_moveAll (i1 : Nat) (a2 : Int32) (B : BT) : Int32 × BT :=
  ((L_moveAll i1 a2 B ((B 0 4).toNatClampNeg)).1, (L_moveAll i1 a2 B ((B 0 4).toNatClampNeg)).2)
theorem cn_X0_moveAll {i1 : Nat} {a2 : Int32} {B : BT} {n m9 : Nat} (ha2 : okc a2) (hN : CN B n m9) : CN ((f_X0_moveAll i1 a2 B).2) n m9 := by
  unfold f_X0_moveAll
  exact (cn_L_moveAll ha2 hN ((B 0 4).toNatClampNeg))
set_option maxHeartbeats 4000000 in
set_option maxRecDepth 100000 in
theorem m_X0_moveAll (l : Launch) (g : wG) (S : Nat → BT) (p : Nat) (B : BT) (y : (Nat → Nat → Int32) × (Nat → Int64) × (Nat → UInt64)) (hp : p < 2) (i1 : Nat) (hi1 : i1 < 20) (a2 : Int32) (ha2 : okc a2) (n m9 : Nat) (hN : CN B n m9) : mI l yX0_moveAll cX0_moveAll 5 (some .int) ({ frames := 5, cells := 0, slots := 0, locals := 113 } : Room) 0 0 g (xB S p B y) [.ref (gA g (jB p)), .ref (gA g (jC p i1)), .int a2] ((f_X0_moveAll i1 a2 B).1) (xB S p ((f_X0_moveAll i1 a2 B).2) y) := by
  refine Met.ofW (cc := cX0_moveAll) (maxL := 5) (ret := some .int) (by decide) rfl ?_
  intro p9 e s m args below meth c s₁ BL hml hv
  obtain ⟨rfl, hk, hPB⟩ := hv
  have hx := BL.exec
  have hb := BL.bytes
  have hc : CX p9 c cX0_moveAll s _ m RX0 := ⟨hx, hb, findClass_of_methodNamed BL.named, fun w h => atoms_spec BL.pre w (List.mem_cons_of_mem _ h)⟩
  have hr := BL.returns
  have hlocks := BL.notSynchronized
  have hw : WS g s (xB S p B y) s.heap [] := ⟨hPB, va_S.rf⟩
  have hl := lv_entry ([.ref (gA g (jB p)), .ref (gA g (jC p i1)), .int a2]) (n := 5) (Nat.le_of_ble_eq_true rfl)
  rw [lg_entry_eq]
  generalize (lg_sl ([.ref (gA g (jB p)), .ref (gA g (jC p i1)), .int a2]) ++ List.replicate (5 - (lg_sl ([.ref (gA g (jB p)), .ref (gA g (jC p i1)), .int a2])).length) Slot.unset).toArray = ls at hl ⊢
  have hl : lv_has ls 5 [(0, .ref (gA g (jB p))), (1, .ref (gA g (jC p i1))), (2, .int a2)] := hl
  refine lv_iconst (v := 0) hx hb dX0_moveAll_0 (by decide) ?_
  refine lv_istore_n (lv' := [(3, .int 0), (0, .ref (gA g (jB p))), (1, .ref (gA g (jC p i1))), (2, .int a2)]) hx hb dX0_moveAll_1 rfl hl (by decide) rfl (fun ls hl => ?_)
  refine lv_iconst (v := 0) hx hb dX0_moveAll_2 (by decide) ?_
  refine lv_istore (lv' := [(4, .int 0), (3, .int 0), (0, .ref (gA g (jB p))), (1, .ref (gA g (jC p i1))), (2, .int a2)]) hx hb dX0_moveAll_3 hl (by decide) rfl (fun ls hl => ?_)
  have LP1 : ∀ (f k : Nat), k ≤ (B 0 4).toNatClampNeg → (B 0 4).toNatClampNeg + 1 ≤ k + f → ∀ (H : Heap) (locs : List Loc), WS g s (xB S p ((L_moveAll i1 a2 B k).2) y) H locs → ∀ (ls : Array Slot), lv_has ls 5 [(4, .int (nI k)), (3, .int ((L_moveAll i1 a2 B k).1)), (0, .ref (gA g (jB p))), (1, .ref (gA g (jC p i1))), (2, .int a2)] → W p9 l e ({ frames := 5, cells := 0, slots := 0, locals := 113 } : Room) s m ([.ref (gA g (jB p)), .ref (gA g (jC p i1)), .int a2] : List Value).toArray below meth c H locs 0 0 (MQ below (va_Qi (fun (v : Int32) (u : wSt) => v = (f_X0_moveAll i1 a2 B).1 ∧ u = (xB S p ((f_X0_moveAll i1 a2 B).2) y)) (PB g) (AA g)) (([.ref (gA g (jB p)), .ref (gA g (jC p i1)), .int a2] : List Value).toArray) s 0 0 (AA g)) (F0 m 5 ls []) := by
    intro f
    induction f with
    | zero => intro k h1 h2; exact absurd h2 (by omega)
    | succ f ih =>
      intro k hk9 hf9 H locs hw ls hl
      have hl4 := CN.l4 hN
      refine lv_iload hx hb dX0_moveAll_5 (lv_at hl 0 rfl) ?_
      refine lv_aload_n hx hb dX0_moveAll_7 rfl (lv_at hl 2 rfl) ?_
      refine k_get hc hk hw (bt_B hp) rfl iX0 4 (by decide) q208 (v := .int (((L_moveAll i1 a2 B k).2) 0 4)) rfl dX0_moveAll_8 ?_
      refine lv_icmp_ge (tgt := 55) hx hb dX0_moveAll_11 (by decide) (fun h2 => ?_) (fun h2 => ?_)
      · have hkn := lp_out h2 (CN.cc hN (cn_L_moveAll ha2 hN k)) hk9 (by omega)
        subst hkn
        refine lv_iload_n hx hb dX0_moveAll_55 rfl (lv_at hl 1 rfl) ?_
        exact W.iret (v := (L_moveAll i1 a2 B ((B 0 4).toNatClampNeg)).1) hx hb hr (fun t9 ht hW => ke_i hw ht (by simp only [f_X0_moveAll]) (by simp only [f_X0_moveAll])) hw.2.2.2 dX0_moveAll_56
      · have hkn := lp_in h2 (CN.cc hN (cn_L_moveAll ha2 hN k)) hk9 (by omega)
        refine lv_aload_n hx hb dX0_moveAll_14 rfl (lv_at hl 2 rfl) ?_
        refine k_get hc hk hw (bt_B hp) rfl iX0 1 (by decide) q203 (v := .ref (gA g (jCs p))) rfl dX0_moveAll_15 ?_
        refine lv_iload hx hb dX0_moveAll_18 (lv_at hl 0 rfl) ?_
        refine k_ald (t0 := 5) (f := fun k => gA g (jC p k)) (n := k) hc hk hw rfl (at_Cs hp) (vp_in_nI (Nat.lt_of_lt_of_le hkn (by omega)) (by omega)) (nI_clamp (by have := hkn; omega)) dX0_moveAll_20 ?_
        refine k_getN hc hk hw (bt_C hp (Nat.lt_of_lt_of_le hkn (by omega))) rfl iX1 12 (by decide) nq162 (v := .int (((L_moveAll i1 a2 B k).2) (10 + k) 12)) rfl dX0_moveAll_21 ?_
        refine lv_aload_n hx hb dX0_moveAll_24 rfl (lv_at hl 3 rfl) ?_
        refine k_getN hc hk hw (bt_C hp hi1) rfl iX1 0 (by decide) nq134 (v := .int (nI i1)) rfl dX0_moveAll_25 ?_
        refine lv_icmp_ne (tgt := 49) hx hb dX0_moveAll_28 (by decide) (fun h3 => ?_) (fun h3 => ?_)
        · refine lv_iinc (v := nI (k + 1)) (lv' := [(4, .int (nI (k + 1))), (3, .int ((L_moveAll i1 a2 B k).1)), (0, .ref (gA g (jB p))), (1, .ref (gA g (jC p i1))), (2, .int a2)]) hx hb dX0_moveAll_49 hl (k := 0) rfl (by first | exact (nI_succ _).symm | rfl) (by decide) rfl (fun ls hl => ?_)
          refine lv_goto (tgt := 5) hx hb dX0_moveAll_52 (by decide) ?_
          have hw9 : WS g s (xB S p ((L_moveAll i1 a2 B (k + 1)).2) y) H locs := by
            have e9 : (L_moveAll i1 a2 B k).2 = (L_moveAll i1 a2 B (k + 1)).2 := by simp only [L_moveAll, b_moveAll, if_neg h3]
            rw [← e9]; exact hw
          have hl9 := lv_sub hl [0, 1, 2, 3, 4] rfl
          have e8 : (L_moveAll i1 a2 B k).1 = (L_moveAll i1 a2 B (k + 1)).1 := by simp only [L_moveAll, b_moveAll, if_neg h3]
          rw [e8] at hl9
          exact ih (k + 1) (by omega) (by omega) _ _ hw9 _ hl9
        · refine lv_aload_n hx hb dX0_moveAll_31 rfl (lv_at hl 2 rfl) ?_
          refine k_get hc hk hw (bt_B hp) rfl iX0 1 (by decide) q203 (v := .ref (gA g (jCs p))) rfl dX0_moveAll_32 ?_
          refine lv_iload hx hb dX0_moveAll_35 (lv_at hl 0 rfl) ?_
          refine k_ald (t0 := 5) (f := fun k => gA g (jC p k)) (n := k) hc hk hw rfl (at_Cs hp) (vp_in_nI (Nat.lt_of_lt_of_le hkn (by omega)) (by omega)) (nI_clamp (by have := hkn; omega)) dX0_moveAll_37 ?_
          refine lv_iload_n hx hb dX0_moveAll_38 rfl (lv_at hl 4 rfl) ?_
          refine lv_aload_n hx hb dX0_moveAll_39 rfl (lv_at hl 2 rfl) ?_
          refine k_get hc hk hw (bt_B hp) rfl iX0 5 (by decide) q210 (v := .int (((L_moveAll i1 a2 B k).2) 0 5)) rfl dX0_moveAll_40 ?_
          refine kc_v hw (va_runVN (As := [.int a2, .int (((L_moveAll i1 a2 B k).2) 0 5)]) (rest := []) ⟨hx, hb, hml, hc.2.2.1, hc.2.2.2⟩ (m_X1_moveTo l g S p ((L_moveAll i1 a2 B k).2) y hp k (Nat.lt_of_lt_of_le hkn (by omega)) a2 ha2 (((L_moveAll i1 a2 B k).2) 0 5) _ _ (cn_L_moveAll ha2 hN k)) ⟨kw_N hc hk 2 nq326 q4 q329 rfl rfl (by decide +kernel) ⟨Nat.le_of_ble_eq_true rfl, Nat.le_of_ble_eq_true rfl⟩, hc.2.2.2 _ q328, hc.2.2.2 _ qs16⟩ (kp_V hk hw (bt_C hp (Nat.lt_of_lt_of_le hkn (by omega))) rfl) rfl rfl hl.1 rfl (lv_room (Nat.le_of_ble_eq_true rfl)) dX0_moveAll_43 ⟨Nat.le_of_ble_eq_true rfl, Nat.le_of_ble_eq_true rfl⟩) (fun H locs hw => ?_)
          refine lv_iinc (v := ((L_moveAll i1 a2 B k).1) + 1) (lv' := [(3, .int (((L_moveAll i1 a2 B k).1) + 1)), (4, .int (nI k)), (0, .ref (gA g (jB p))), (1, .ref (gA g (jC p i1))), (2, .int a2)]) hx hb dX0_moveAll_46 hl (k := 1) rfl rfl (by decide) rfl (fun ls hl => ?_)
          refine lv_iinc (v := nI (k + 1)) (lv' := [(4, .int (nI (k + 1))), (3, .int (((L_moveAll i1 a2 B k).1) + 1)), (0, .ref (gA g (jB p))), (1, .ref (gA g (jC p i1))), (2, .int a2)]) hx hb dX0_moveAll_49 hl (k := 1) rfl (by first | exact (nI_succ _).symm | rfl) (by decide) rfl (fun ls hl => ?_)
          refine lv_goto (tgt := 5) hx hb dX0_moveAll_52 (by decide) ?_
          have hw9 : WS g s (xB S p ((L_moveAll i1 a2 B (k + 1)).2) y) H locs := by
            have e9 : f_X1_moveTo k a2 (((L_moveAll i1 a2 B k).2) 0 5) ((L_moveAll i1 a2 B k).2) = (L_moveAll i1 a2 B (k + 1)).2 := by simp only [L_moveAll, b_moveAll, if_pos h3]
            rw [← e9]; exact hw
          have hl9 := lv_sub hl [0, 1, 2, 3, 4] rfl
          have e8 : ((L_moveAll i1 a2 B k).1) + 1 = (L_moveAll i1 a2 B (k + 1)).1 := by simp only [L_moveAll, b_moveAll, if_pos h3]
          rw [e8] at hl9
          exact ih (k + 1) (by omega) (by omega) _ _ hw9 _ hl9
  exact LP1 ((B 0 4).toNatClampNeg + 1) 0 (Nat.zero_le _) (by omega) _ _ hw _ (lv_sub hl [0, 1, 2, 3, 4] rfl)
def f_X0_giveTime (i1 : Nat) (a2 : Int32) (B : BT) : Int32 × BT :=
  ((up2 (up2 B (30 + i1) 1 1) (30 + i1) 0 (((up2 B (30 + i1) 1 1) (30 + i1) 0) + a2)) (30 + i1) 0, up2 (up2 B (30 + i1) 1 1) (30 + i1) 0 (((up2 B (30 + i1) 1 1) (30 + i1) 0) + a2))
theorem cn_X0_giveTime {i1 : Nat} {a2 : Int32} {B : BT} {n m9 : Nat} (hN : CN B n m9) : CN ((f_X0_giveTime i1 a2 B).2) n m9 := by
  unfold f_X0_giveTime
  exact (CN.up (by omega) (by decide) (CN.up (by omega) (by decide) hN))
set_option maxHeartbeats 4000000 in
set_option maxRecDepth 100000 in
theorem m_X0_giveTime (l : Launch) (g : wG) (S : Nat → BT) (p : Nat) (B : BT) (y : (Nat → Nat → Int32) × (Nat → Int64) × (Nat → UInt64)) (hp : p < 2) (i1 : Nat) (hi1 : i1 < 20) (a2 : Int32) (n m9 : Nat) (hN : CN B n m9) : mI l yX0_giveTime cX0_giveTime 3 (some .int) ({ frames := 0, cells := 0, slots := 0, locals := 0 } : Room) 0 0 g (xB S p B y) [.ref (gA g (jB p)), .ref (gA g (jC p i1)), .int a2] ((f_X0_giveTime i1 a2 B).1) (xB S p ((f_X0_giveTime i1 a2 B).2) y) := by
  refine Met.ofW (cc := cX0_giveTime) (maxL := 3) (ret := some .int) (by decide) rfl ?_
  intro p9 e s m args below meth c s₁ BL hml hv
  obtain ⟨rfl, hk, hPB⟩ := hv
  have hx := BL.exec
  have hb := BL.bytes
  have hc : CX p9 c cX0_giveTime s _ m RX0 := ⟨hx, hb, findClass_of_methodNamed BL.named, fun w h => atoms_spec BL.pre w (List.mem_cons_of_mem _ h)⟩
  have hr := BL.returns
  have hlocks := BL.notSynchronized
  have hw : WS g s (xB S p B y) s.heap [] := ⟨hPB, va_S.rf⟩
  have hl := lv_entry ([.ref (gA g (jB p)), .ref (gA g (jC p i1)), .int a2]) (n := 3) (Nat.le_of_ble_eq_true rfl)
  rw [lg_entry_eq]
  generalize (lg_sl ([.ref (gA g (jB p)), .ref (gA g (jC p i1)), .int a2]) ++ List.replicate (3 - (lg_sl ([.ref (gA g (jB p)), .ref (gA g (jC p i1)), .int a2])).length) Slot.unset).toArray = ls at hl ⊢
  have hl : lv_has ls 3 [(0, .ref (gA g (jB p))), (1, .ref (gA g (jC p i1))), (2, .int a2)] := hl
  refine lv_aload_n hx hb dX0_giveTime_0 rfl (lv_at hl 1 rfl) ?_
  refine k_getN hc hk hw (bt_C hp hi1) rfl iX1 1 (by decide) nq136 (v := .ref (gA g (jI p i1))) rfl dX0_giveTime_1 ?_
  refine lv_iconst (v := 1) hx hb dX0_giveTime_4 (by decide) ?_
  refine k_putN hc hk hw (x' := (xB S p (up2 B (30 + i1) 1 1) y)) (bt_I hp hi1) rfl iX4 tyX4 tyX4_ok nmX4 1 (by decide) nq82 rfl (by decide +kernel) (by decide +kernel) (Nat.le_of_ble_eq_true rfl) dX0_giveTime_5 (bs_I hp hi1 (by decide)) (fun H locs hw => ?_)
  refine lv_aload_n hx hb dX0_giveTime_8 rfl (lv_at hl 1 rfl) ?_
  refine k_getN hc hk hw (bt_C hp hi1) rfl iX1 1 (by decide) nq136 (v := .ref (gA g (jI p i1))) rfl dX0_giveTime_9 ?_
  refine lv_dup hx hb dX0_giveTime_12 rfl ?_
  refine k_getN hc hk hw (bt_I hp hi1) rfl iX4 0 (by decide) nq80 (v := .int ((up2 B (30 + i1) 1 1) (30 + i1) 0)) rfl dX0_giveTime_13 ?_
  refine lv_iload_n hx hb dX0_giveTime_16 rfl (lv_at hl 2 rfl) ?_
  refine lv_iadd hx hb dX0_giveTime_17 ?_
  refine k_putN hc hk hw (x' := (xB S p (up2 (up2 B (30 + i1) 1 1) (30 + i1) 0 (((up2 B (30 + i1) 1 1) (30 + i1) 0) + a2)) y)) (bt_I hp hi1) rfl iX4 tyX4 tyX4_ok nmX4 0 (by decide) nq80 rfl rfl rfl (Nat.le_of_ble_eq_true rfl) dX0_giveTime_18 (bs_I hp hi1 (by decide)) (fun H locs hw => ?_)
  refine lv_aload_n hx hb dX0_giveTime_21 rfl (lv_at hl 1 rfl) ?_
  refine k_getN hc hk hw (bt_C hp hi1) rfl iX1 1 (by decide) nq136 (v := .ref (gA g (jI p i1))) rfl dX0_giveTime_22 ?_
  refine k_getN hc hk hw (bt_I hp hi1) rfl iX4 0 (by decide) nq80 (v := .int ((up2 (up2 B (30 + i1) 1 1) (30 + i1) 0 (((up2 B (30 + i1) 1 1) (30 + i1) 0) + a2)) (30 + i1) 0)) rfl dX0_giveTime_25 ?_
  exact W.iret (v := (up2 (up2 B (30 + i1) 1 1) (30 + i1) 0 (((up2 B (30 + i1) 1 1) (30 + i1) 0) + a2)) (30 + i1) 0) hx hb hr (fun t9 ht hW => ke_i hw ht (by simp only [f_X0_giveTime]) (by simp only [f_X0_giveTime])) hw.2.2.2 dX0_giveTime_28
def f_X0_urge (i1 : Nat) (B : BT) : Int32 × BT :=
  ((up2 (up2 B (30 + i1) 2 ((B (30 + i1) 2) + 1)) (30 + i1) 0 (((up2 B (30 + i1) 2 ((B (30 + i1) 2) + 1)) 0 5) + 7)) (30 + i1) 2, up2 (up2 B (30 + i1) 2 ((B (30 + i1) 2) + 1)) (30 + i1) 0 (((up2 B (30 + i1) 2 ((B (30 + i1) 2) + 1)) 0 5) + 7))
theorem cn_X0_urge {i1 : Nat} {B : BT} {n m9 : Nat} (hN : CN B n m9) : CN ((f_X0_urge i1 B).2) n m9 := by
  unfold f_X0_urge
  exact (CN.up (by omega) (by decide) (CN.up (by omega) (by decide) hN))
set_option maxHeartbeats 4000000 in
set_option maxRecDepth 100000 in
theorem m_X0_urge (l : Launch) (g : wG) (S : Nat → BT) (p : Nat) (B : BT) (y : (Nat → Nat → Int32) × (Nat → Int64) × (Nat → UInt64)) (hp : p < 2) (i1 : Nat) (hi1 : i1 < 20) (n m9 : Nat) (hN : CN B n m9) : mI l yX0_urge cX0_urge 2 (some .int) ({ frames := 0, cells := 0, slots := 0, locals := 0 } : Room) 0 0 g (xB S p B y) [.ref (gA g (jB p)), .ref (gA g (jC p i1))] ((f_X0_urge i1 B).1) (xB S p ((f_X0_urge i1 B).2) y) := by
  refine Met.ofW (cc := cX0_urge) (maxL := 2) (ret := some .int) (by decide) rfl ?_
  intro p9 e s m args below meth c s₁ BL hml hv
  obtain ⟨rfl, hk, hPB⟩ := hv
  have hx := BL.exec
  have hb := BL.bytes
  have hc : CX p9 c cX0_urge s _ m RX0 := ⟨hx, hb, findClass_of_methodNamed BL.named, fun w h => atoms_spec BL.pre w (List.mem_cons_of_mem _ h)⟩
  have hr := BL.returns
  have hlocks := BL.notSynchronized
  have hw : WS g s (xB S p B y) s.heap [] := ⟨hPB, va_S.rf⟩
  have hl := lv_entry ([.ref (gA g (jB p)), .ref (gA g (jC p i1))]) (n := 2) (Nat.le_of_ble_eq_true rfl)
  rw [lg_entry_eq]
  generalize (lg_sl ([.ref (gA g (jB p)), .ref (gA g (jC p i1))]) ++ List.replicate (2 - (lg_sl ([.ref (gA g (jB p)), .ref (gA g (jC p i1))])).length) Slot.unset).toArray = ls at hl ⊢
  have hl : lv_has ls 2 [(0, .ref (gA g (jB p))), (1, .ref (gA g (jC p i1)))] := hl
  refine lv_aload_n hx hb dX0_urge_0 rfl (lv_at hl 1 rfl) ?_
  refine k_getN hc hk hw (bt_C hp hi1) rfl iX1 1 (by decide) nq136 (v := .ref (gA g (jI p i1))) rfl dX0_urge_1 ?_
  refine lv_dup hx hb dX0_urge_4 rfl ?_
  refine k_getN hc hk hw (bt_I hp hi1) rfl iX4 2 (by decide) nq85 (v := .int (B (30 + i1) 2)) rfl dX0_urge_5 ?_
  refine lv_iconst (v := 1) hx hb dX0_urge_8 (by decide) ?_
  refine lv_iadd hx hb dX0_urge_9 ?_
  refine k_putN hc hk hw (x' := (xB S p (up2 B (30 + i1) 2 ((B (30 + i1) 2) + 1)) y)) (bt_I hp hi1) rfl iX4 tyX4 tyX4_ok nmX4 2 (by decide) nq85 rfl rfl rfl (Nat.le_of_ble_eq_true rfl) dX0_urge_10 (bs_I hp hi1 (by decide)) (fun H locs hw => ?_)
  refine lv_aload_n hx hb dX0_urge_13 rfl (lv_at hl 1 rfl) ?_
  refine k_getN hc hk hw (bt_C hp hi1) rfl iX1 1 (by decide) nq136 (v := .ref (gA g (jI p i1))) rfl dX0_urge_14 ?_
  refine lv_aload_n hx hb dX0_urge_17 rfl (lv_at hl 0 rfl) ?_
  refine k_get hc hk hw (bt_B hp) rfl iX0 5 (by decide) q210 (v := .int ((up2 B (30 + i1) 2 ((B (30 + i1) 2) + 1)) 0 5)) rfl dX0_urge_18 ?_
  refine lv_bipush (v := 7) hx hb dX0_urge_21 (by decide) ?_
  refine lv_iadd hx hb dX0_urge_23 ?_
  refine k_putN hc hk hw (x' := (xB S p (up2 (up2 B (30 + i1) 2 ((B (30 + i1) 2) + 1)) (30 + i1) 0 (((up2 B (30 + i1) 2 ((B (30 + i1) 2) + 1)) 0 5) + 7)) y)) (bt_I hp hi1) rfl iX4 tyX4 tyX4_ok nmX4 0 (by decide) nq80 rfl rfl rfl (Nat.le_of_ble_eq_true rfl) dX0_urge_24 (bs_I hp hi1 (by decide)) (fun H locs hw => ?_)
  refine lv_aload_n hx hb dX0_urge_27 rfl (lv_at hl 1 rfl) ?_
  refine k_getN hc hk hw (bt_C hp hi1) rfl iX1 1 (by decide) nq136 (v := .ref (gA g (jI p i1))) rfl dX0_urge_28 ?_
  refine k_getN hc hk hw (bt_I hp hi1) rfl iX4 2 (by decide) nq85 (v := .int ((up2 (up2 B (30 + i1) 2 ((B (30 + i1) 2) + 1)) (30 + i1) 0 (((up2 B (30 + i1) 2 ((B (30 + i1) 2) + 1)) 0 5) + 7)) (30 + i1) 2)) rfl dX0_urge_31 ?_
  exact W.iret (v := (up2 (up2 B (30 + i1) 2 ((B (30 + i1) 2) + 1)) (30 + i1) 0 (((up2 B (30 + i1) 2 ((B (30 + i1) 2) + 1)) 0 5) + 7)) (30 + i1) 2) hx hb hr (fun t9 ht hW => ke_i hw ht (by simp only [f_X0_urge]) (by simp only [f_X0_urge])) hw.2.2.2 dX0_urge_34
def f_X0_putToOffice (i1 : Nat) (B : BT) : Int32 × BT :=
  (((f_X0_moveAll i1 97 (f_X4_begin i1 ((B 0 5) + (B (4 + (f_X0_officeOf i1 B)) 0)) B)).2) (30 + i1) 0, (f_X0_moveAll i1 97 (f_X4_begin i1 ((B 0 5) + (B (4 + (f_X0_officeOf i1 B)) 0)) B)).2)
theorem cn_X0_putToOffice {i1 : Nat} {B : BT} {n m9 : Nat} (hN : CN B n m9) : CN ((f_X0_putToOffice i1 B).2) n m9 := by
  unfold f_X0_putToOffice
  exact (cn_X0_moveAll ⟨by decide +kernel, by decide +kernel, by decide +kernel⟩ (cn_X4_begin hN))
set_option maxHeartbeats 4000000 in
set_option maxRecDepth 100000 in
theorem m_X0_putToOffice (l : Launch) (g : wG) (S : Nat → BT) (p : Nat) (B : BT) (y : (Nat → Nat → Int32) × (Nat → Int64) × (Nat → UInt64)) (hp : p < 2) (i1 : Nat) (hi1 : i1 < 20) (n m9 : Nat) (hN : CN B n m9) : mI l yX0_putToOffice cX0_putToOffice 2 (some .int) ({ frames := 6, cells := 0, slots := 0, locals := 137 } : Room) 0 0 g (xB S p B y) [.ref (gA g (jB p)), .ref (gA g (jC p i1))] ((f_X0_putToOffice i1 B).1) (xB S p ((f_X0_putToOffice i1 B).2) y) := by
  refine Met.ofW (cc := cX0_putToOffice) (maxL := 2) (ret := some .int) (by decide) rfl ?_
  intro p9 e s m args below meth c s₁ BL hml hv
  obtain ⟨rfl, hk, hPB⟩ := hv
  have hx := BL.exec
  have hb := BL.bytes
  have hc : CX p9 c cX0_putToOffice s _ m RX0 := ⟨hx, hb, findClass_of_methodNamed BL.named, fun w h => atoms_spec BL.pre w (List.mem_cons_of_mem _ h)⟩
  have hr := BL.returns
  have hlocks := BL.notSynchronized
  have hw : WS g s (xB S p B y) s.heap [] := ⟨hPB, va_S.rf⟩
  have hl := lv_entry ([.ref (gA g (jB p)), .ref (gA g (jC p i1))]) (n := 2) (Nat.le_of_ble_eq_true rfl)
  rw [lg_entry_eq]
  generalize (lg_sl ([.ref (gA g (jB p)), .ref (gA g (jC p i1))]) ++ List.replicate (2 - (lg_sl ([.ref (gA g (jB p)), .ref (gA g (jC p i1))])).length) Slot.unset).toArray = ls at hl ⊢
  have hl : lv_has ls 2 [(0, .ref (gA g (jB p))), (1, .ref (gA g (jC p i1)))] := hl
  refine lv_aload_n hx hb dX0_putToOffice_0 rfl (lv_at hl 1 rfl) ?_
  refine k_getN hc hk hw (bt_C hp hi1) rfl iX1 1 (by decide) nq136 (v := .ref (gA g (jI p i1))) rfl dX0_putToOffice_1 ?_
  refine lv_aload_n hx hb dX0_putToOffice_4 rfl (lv_at hl 0 rfl) ?_
  refine k_get hc hk hw (bt_B hp) rfl iX0 5 (by decide) q210 (v := .int (B 0 5)) rfl dX0_putToOffice_5 ?_
  refine lv_aload_n hx hb dX0_putToOffice_8 rfl (lv_at hl 0 rfl) ?_
  refine lv_aload_n hx hb dX0_putToOffice_9 rfl (lv_at hl 1 rfl) ?_
  refine kc_r hw (va_runV (As := [.ref (gA g (jC p i1))]) (rest := [.int (B 0 5), .ref (gA g (jI p i1))]) ⟨hx, hb, hml, hc.2.2.1, hc.2.2.2⟩ (m_X0_officeOf l g S p B y hp i1 hi1 _ _ hN) (kw_V hc 1 q318 q320 qs14 q2 q321 rfl rfl (by decide +kernel) ⟨Nat.le_of_ble_eq_true rfl, Nat.le_of_ble_eq_true rfl⟩) (kp_V hk hw (bt_B hp) rfl) rfl rfl hl.1 rfl (lv_room (Nat.le_of_ble_eq_true rfl)) dX0_putToOffice_10 ⟨Nat.le_of_ble_eq_true rfl, Nat.le_of_ble_eq_true rfl⟩) (fun H locs hw => ?_)
  refine k_getN hc hk hw (bt_O hp (lt_X0_officeOf hN)) rfl iX5 0 (by decide) nq49 (v := .int (B (4 + (f_X0_officeOf i1 B)) 0)) rfl dX0_putToOffice_13 ?_
  refine lv_iadd hx hb dX0_putToOffice_16 ?_
  refine kc_v hw (va_runVN (As := [.int ((B 0 5) + (B (4 + (f_X0_officeOf i1 B)) 0))]) (rest := []) ⟨hx, hb, hml, hc.2.2.1, hc.2.2.2⟩ (m_X4_begin l g S p B y hp i1 hi1 ((B 0 5) + (B (4 + (f_X0_officeOf i1 B)) 0)) _ _ hN) ⟨kw_N hc hk 1 nq425 q5 q301 rfl rfl (by decide +kernel) ⟨Nat.le_of_ble_eq_true rfl, Nat.le_of_ble_eq_true rfl⟩, hc.2.2.2 _ q300, hc.2.2.2 _ qs9⟩ (kp_V hk hw (bt_I hp hi1) rfl) rfl rfl hl.1 rfl (lv_room (Nat.le_of_ble_eq_true rfl)) dX0_putToOffice_17 ⟨Nat.le_of_ble_eq_true rfl, Nat.le_of_ble_eq_true rfl⟩) (fun H locs hw => ?_)
  refine lv_aload_n hx hb dX0_putToOffice_20 rfl (lv_at hl 0 rfl) ?_
  refine lv_aload_n hx hb dX0_putToOffice_21 rfl (lv_at hl 1 rfl) ?_
  refine lv_bipush (v := 97) hx hb dX0_putToOffice_22 (by decide) ?_
  refine kc_i hw (va_runV (As := [.ref (gA g (jC p i1)), .int 97]) (rest := []) ⟨hx, hb, hml, hc.2.2.1, hc.2.2.2⟩ (m_X0_moveAll l g S p (f_X4_begin i1 ((B 0 5) + (B (4 + (f_X0_officeOf i1 B)) 0)) B) y hp i1 hi1 97 ⟨by decide +kernel, by decide +kernel, by decide +kernel⟩ _ _ (cn_X4_begin hN)) (kw_V hc 2 q426 q428 qs19 q2 q429 rfl rfl (by decide +kernel) ⟨Nat.le_of_ble_eq_true rfl, Nat.le_of_ble_eq_true rfl⟩) (kp_V hk hw (bt_B hp) rfl) rfl rfl hl.1 rfl (lv_room (Nat.le_of_ble_eq_true rfl)) dX0_putToOffice_24 ⟨Nat.le_of_ble_eq_true rfl, Nat.le_of_ble_eq_true rfl⟩) (fun H locs hw => ?_)
  refine lv_pop hx hb dX0_putToOffice_27 rfl ?_
  refine lv_aload_n hx hb dX0_putToOffice_28 rfl (lv_at hl 1 rfl) ?_
  refine k_getN hc hk hw (bt_C hp hi1) rfl iX1 1 (by decide) nq136 (v := .ref (gA g (jI p i1))) rfl dX0_putToOffice_29 ?_
  refine k_getN hc hk hw (bt_I hp hi1) rfl iX4 0 (by decide) nq80 (v := .int (((f_X0_moveAll i1 97 (f_X4_begin i1 ((B 0 5) + (B (4 + (f_X0_officeOf i1 B)) 0)) B)).2) (30 + i1) 0)) rfl dX0_putToOffice_32 ?_
  exact W.iret (v := ((f_X0_moveAll i1 97 (f_X4_begin i1 ((B 0 5) + (B (4 + (f_X0_officeOf i1 B)) 0)) B)).2) (30 + i1) 0) hx hb hr (fun t9 ht hW => ke_i hw ht (by simp only [f_X0_putToOffice]) (by simp only [f_X0_putToOffice])) hw.2.2.2 dX0_putToOffice_35
def f_X0_putBehind (i1 : Nat) (a2 : Int32) (B : BT) : Int32 × BT :=
  (if a2 < 0 then ((-1), B) else (if a2 < B 0 4 then (f_X0_followersOf ((a2).toNatClampNeg) (f_X1_moveTo i1 ((up2 B (10 + i1) 12 a2) (10 + ((a2).toNatClampNeg)) 11) ((up2 B (10 + i1) 12 a2) 0 5) (up2 B (10 + i1) 12 a2)), f_X1_moveTo i1 ((up2 B (10 + i1) 12 a2) (10 + ((a2).toNatClampNeg)) 11) ((up2 B (10 + i1) 12 a2) 0 5) (up2 B (10 + i1) 12 a2)) else ((-1), B)))
theorem cn_X0_putBehind {i1 : Nat} {a2 : Int32} {B : BT} {n m9 : Nat} (hN : CN B n m9) : CN ((f_X0_putBehind i1 a2 B).2) n m9 := by
  unfold f_X0_putBehind
  by_cases h1 : a2 < 0
  · simp only [if_pos h1]
    exact hN
  · simp only [if_neg h1]
    by_cases h2 : a2 < B 0 4
    · simp only [if_pos h2]
      exact (cn_X1_moveTo (CN.sto (CN.up (by omega) (by decide) hN) (Nat.lt_of_lt_of_le (vinC h1 (i32_nle h2) hN.2.1 (Nat.le_refl _) (by have := hN.2.2.2.1; omega)).2 (by have := hN.2.2.2.1; omega))) (CN.up (by omega) (by decide) hN))
    · simp only [if_neg h2]
      exact hN
set_option maxHeartbeats 4000000 in
set_option maxRecDepth 100000 in
theorem m_X0_putBehind (l : Launch) (g : wG) (S : Nat → BT) (p : Nat) (B : BT) (y : (Nat → Nat → Int32) × (Nat → Int64) × (Nat → UInt64)) (hp : p < 2) (i1 : Nat) (hi1 : i1 < 20) (a2 : Int32) (n m9 : Nat) (hN : CN B n m9) : mI l yX0_putBehind cX0_putBehind 4 (some .int) ({ frames := 5, cells := 0, slots := 0, locals := 113 } : Room) 0 0 g (xB S p B y) [.ref (gA g (jB p)), .ref (gA g (jC p i1)), .int a2] ((f_X0_putBehind i1 a2 B).1) (xB S p ((f_X0_putBehind i1 a2 B).2) y) := by
  refine Met.ofW (cc := cX0_putBehind) (maxL := 4) (ret := some .int) (by decide) rfl ?_
  intro p9 e s m args below meth c s₁ BL hml hv
  obtain ⟨rfl, hk, hPB⟩ := hv
  have hx := BL.exec
  have hb := BL.bytes
  have hc : CX p9 c cX0_putBehind s _ m RX0 := ⟨hx, hb, findClass_of_methodNamed BL.named, fun w h => atoms_spec BL.pre w (List.mem_cons_of_mem _ h)⟩
  have hr := BL.returns
  have hlocks := BL.notSynchronized
  have hw : WS g s (xB S p B y) s.heap [] := ⟨hPB, va_S.rf⟩
  have hl := lv_entry ([.ref (gA g (jB p)), .ref (gA g (jC p i1)), .int a2]) (n := 4) (Nat.le_of_ble_eq_true rfl)
  rw [lg_entry_eq]
  generalize (lg_sl ([.ref (gA g (jB p)), .ref (gA g (jC p i1)), .int a2]) ++ List.replicate (4 - (lg_sl ([.ref (gA g (jB p)), .ref (gA g (jC p i1)), .int a2])).length) Slot.unset).toArray = ls at hl ⊢
  have hl : lv_has ls 4 [(0, .ref (gA g (jB p))), (1, .ref (gA g (jC p i1))), (2, .int a2)] := hl
  refine lv_iload_n hx hb dX0_putBehind_0 rfl (lv_at hl 2 rfl) ?_
  refine lv_if_lt (tgt := 12) hx hb dX0_putBehind_1 (by decide) (fun h1 => ?_) (fun h1 => ?_)
  · refine lv_iconst (v := (-1)) hx hb dX0_putBehind_12 (by decide) ?_
    exact W.iret (v := (-1)) hx hb hr (fun t9 ht hW => ke_i hw ht (by simp only [f_X0_putBehind, if_pos h1]) (by simp only [f_X0_putBehind, if_pos h1])) hw.2.2.2 dX0_putBehind_13
  · refine lv_iload_n hx hb dX0_putBehind_4 rfl (lv_at hl 2 rfl) ?_
    refine lv_aload_n hx hb dX0_putBehind_5 rfl (lv_at hl 0 rfl) ?_
    refine k_get hc hk hw (bt_B hp) rfl iX0 4 (by decide) q208 (v := .int (B 0 4)) rfl dX0_putBehind_6 ?_
    refine lv_icmp_lt (tgt := 14) hx hb dX0_putBehind_9 (by decide) (fun h2 => ?_) (fun h2 => ?_)
    · refine lv_aload_n hx hb dX0_putBehind_14 rfl (lv_at hl 0 rfl) ?_
      refine k_get hc hk hw (bt_B hp) rfl iX0 1 (by decide) q203 (v := .ref (gA g (jCs p))) rfl dX0_putBehind_15 ?_
      refine lv_iload_n hx hb dX0_putBehind_18 rfl (lv_at hl 2 rfl) ?_
      refine k_ald (t0 := 5) (f := fun k => gA g (jC p k)) (n := ((a2).toNatClampNeg)) hc hk hw rfl (at_Cs hp) (vinC h1 (i32_nle h2) hN.2.1 (by have := hN.2.2.2.1; omega) (by omega)).1 rfl dX0_putBehind_19 ?_
      refine lv_astore_n (lv' := [(3, .ref (gA g (jC p ((a2).toNatClampNeg)))), (0, .ref (gA g (jB p))), (1, .ref (gA g (jC p i1))), (2, .int a2)]) hx hb dX0_putBehind_20 rfl hl (by decide) rfl (fun ls hl => ?_)
      refine lv_aload_n hx hb dX0_putBehind_21 rfl (lv_at hl 2 rfl) ?_
      refine lv_iload_n hx hb dX0_putBehind_22 rfl (lv_at hl 3 rfl) ?_
      refine k_putN hc hk hw (x' := (xB S p (up2 B (10 + i1) 12 a2) y)) (bt_C hp hi1) rfl iX1 tyX1 tyX1_ok nmX1 12 (by decide) nq162 rfl rfl rfl (Nat.le_of_ble_eq_true rfl) dX0_putBehind_23 (bs_C hp hi1 (by decide) (by decide)) (fun H locs hw => ?_)
      refine lv_aload_n hx hb dX0_putBehind_26 rfl (lv_at hl 2 rfl) ?_
      refine lv_aload_n hx hb dX0_putBehind_27 rfl (lv_at hl 0 rfl) ?_
      refine k_getN hc hk hw (bt_C hp (Nat.lt_of_lt_of_le (vinC h1 (i32_nle h2) hN.2.1 (Nat.le_refl _) (by have := hN.2.2.2.1; omega)).2 (by have := hN.2.2.2.1; omega))) rfl iX1 11 (by decide) nq159 (v := .int ((up2 B (10 + i1) 12 a2) (10 + ((a2).toNatClampNeg)) 11)) rfl dX0_putBehind_28 ?_
      refine lv_aload_n hx hb dX0_putBehind_31 rfl (lv_at hl 1 rfl) ?_
      refine k_get hc hk hw (bt_B hp) rfl iX0 5 (by decide) q210 (v := .int ((up2 B (10 + i1) 12 a2) 0 5)) rfl dX0_putBehind_32 ?_
      refine kc_v hw (va_runVN (As := [.int ((up2 B (10 + i1) 12 a2) (10 + ((a2).toNatClampNeg)) 11), .int ((up2 B (10 + i1) 12 a2) 0 5)]) (rest := []) ⟨hx, hb, hml, hc.2.2.1, hc.2.2.2⟩ (m_X1_moveTo l g S p (up2 B (10 + i1) 12 a2) y hp i1 hi1 ((up2 B (10 + i1) 12 a2) (10 + ((a2).toNatClampNeg)) 11) (CN.sto (CN.up (by omega) (by decide) hN) (Nat.lt_of_lt_of_le (vinC h1 (i32_nle h2) hN.2.1 (Nat.le_refl _) (by have := hN.2.2.2.1; omega)).2 (by have := hN.2.2.2.1; omega))) ((up2 B (10 + i1) 12 a2) 0 5) _ _ (CN.up (by omega) (by decide) hN)) ⟨kw_N hc hk 2 nq326 q4 q329 rfl rfl (by decide +kernel) ⟨Nat.le_of_ble_eq_true rfl, Nat.le_of_ble_eq_true rfl⟩, hc.2.2.2 _ q328, hc.2.2.2 _ qs16⟩ (kp_V hk hw (bt_C hp hi1) rfl) rfl rfl hl.1 rfl (lv_room (Nat.le_of_ble_eq_true rfl)) dX0_putBehind_35 ⟨Nat.le_of_ble_eq_true rfl, Nat.le_of_ble_eq_true rfl⟩) (fun H locs hw => ?_)
      refine lv_aload_n hx hb dX0_putBehind_38 rfl (lv_at hl 1 rfl) ?_
      refine lv_aload_n hx hb dX0_putBehind_39 rfl (lv_at hl 0 rfl) ?_
      refine kc_i hw (va_runV (As := [.ref (gA g (jC p ((a2).toNatClampNeg)))]) (rest := []) ⟨hx, hb, hml, hc.2.2.1, hc.2.2.2⟩ (m_X0_followersOf l g S p (f_X1_moveTo i1 ((up2 B (10 + i1) 12 a2) (10 + ((a2).toNatClampNeg)) 11) ((up2 B (10 + i1) 12 a2) 0 5) (up2 B (10 + i1) 12 a2)) y hp ((a2).toNatClampNeg) (Nat.lt_of_lt_of_le (vinC h1 (i32_nle h2) hN.2.1 (Nat.le_refl _) (by have := hN.2.2.2.1; omega)).2 (by have := hN.2.2.2.1; omega)) _ _ (cn_X1_moveTo (CN.sto (CN.up (by omega) (by decide) hN) (Nat.lt_of_lt_of_le (vinC h1 (i32_nle h2) hN.2.1 (Nat.le_refl _) (by have := hN.2.2.2.1; omega)).2 (by have := hN.2.2.2.1; omega))) (CN.up (by omega) (by decide) hN))) (kw_V hc 1 q443 q445 qs23 q2 q446 rfl rfl (by decide +kernel) ⟨Nat.le_of_ble_eq_true rfl, Nat.le_of_ble_eq_true rfl⟩) (kp_V hk hw (bt_B hp) rfl) rfl rfl hl.1 rfl (lv_room (Nat.le_of_ble_eq_true rfl)) dX0_putBehind_40 ⟨Nat.le_of_ble_eq_true rfl, Nat.le_of_ble_eq_true rfl⟩) (fun H locs hw => ?_)
      exact W.iret (v := f_X0_followersOf ((a2).toNatClampNeg) (f_X1_moveTo i1 ((up2 B (10 + i1) 12 a2) (10 + ((a2).toNatClampNeg)) 11) ((up2 B (10 + i1) 12 a2) 0 5) (up2 B (10 + i1) 12 a2))) hx hb hr (fun t9 ht hW => ke_i hw ht (by simp only [f_X0_putBehind, if_neg h1, if_pos h2]) (by simp only [f_X0_putBehind, if_neg h1, if_pos h2])) hw.2.2.2 dX0_putBehind_43
    · refine lv_iconst (v := (-1)) hx hb dX0_putBehind_12 (by decide) ?_
      exact W.iret (v := (-1)) hx hb hr (fun t9 ht hW => ke_i hw ht (by simp only [f_X0_putBehind, if_neg h1, if_neg h2]) (by simp only [f_X0_putBehind, if_neg h1, if_neg h2])) hw.2.2.2 dX0_putBehind_13
def f_X0_setFree (i1 : Nat) (B : BT) : Int32 × BT :=
  (B (10 + i1) 12, f_X1_moveTo i1 114 ((up2 B (10 + i1) 12 (nI i1)) 0 5) (up2 B (10 + i1) 12 (nI i1)))
theorem cn_X0_setFree {i1 : Nat} {B : BT} {n m9 : Nat} (hN : CN B n m9) : CN ((f_X0_setFree i1 B).2) n m9 := by
  unfold f_X0_setFree
  exact (cn_X1_moveTo ⟨by decide +kernel, by decide +kernel, by decide +kernel⟩ (CN.up (by omega) (by decide) hN))
set_option maxHeartbeats 4000000 in
set_option maxRecDepth 100000 in
theorem m_X0_setFree (l : Launch) (g : wG) (S : Nat → BT) (p : Nat) (B : BT) (y : (Nat → Nat → Int32) × (Nat → Int64) × (Nat → UInt64)) (hp : p < 2) (i1 : Nat) (hi1 : i1 < 20) (n m9 : Nat) (hN : CN B n m9) : mI l yX0_setFree cX0_setFree 3 (some .int) ({ frames := 5, cells := 0, slots := 0, locals := 113 } : Room) 0 0 g (xB S p B y) [.ref (gA g (jB p)), .ref (gA g (jC p i1))] ((f_X0_setFree i1 B).1) (xB S p ((f_X0_setFree i1 B).2) y) := by
  refine Met.ofW (cc := cX0_setFree) (maxL := 3) (ret := some .int) (by decide) rfl ?_
  intro p9 e s m args below meth c s₁ BL hml hv
  obtain ⟨rfl, hk, hPB⟩ := hv
  have hx := BL.exec
  have hb := BL.bytes
  have hc : CX p9 c cX0_setFree s _ m RX0 := ⟨hx, hb, findClass_of_methodNamed BL.named, fun w h => atoms_spec BL.pre w (List.mem_cons_of_mem _ h)⟩
  have hr := BL.returns
  have hlocks := BL.notSynchronized
  have hw : WS g s (xB S p B y) s.heap [] := ⟨hPB, va_S.rf⟩
  have hl := lv_entry ([.ref (gA g (jB p)), .ref (gA g (jC p i1))]) (n := 3) (Nat.le_of_ble_eq_true rfl)
  rw [lg_entry_eq]
  generalize (lg_sl ([.ref (gA g (jB p)), .ref (gA g (jC p i1))]) ++ List.replicate (3 - (lg_sl ([.ref (gA g (jB p)), .ref (gA g (jC p i1))])).length) Slot.unset).toArray = ls at hl ⊢
  have hl : lv_has ls 3 [(0, .ref (gA g (jB p))), (1, .ref (gA g (jC p i1)))] := hl
  refine lv_aload_n hx hb dX0_setFree_0 rfl (lv_at hl 1 rfl) ?_
  refine k_getN hc hk hw (bt_C hp hi1) rfl iX1 12 (by decide) nq162 (v := .int (B (10 + i1) 12)) rfl dX0_setFree_1 ?_
  refine lv_istore_n (lv' := [(2, .int (B (10 + i1) 12)), (0, .ref (gA g (jB p))), (1, .ref (gA g (jC p i1)))]) hx hb dX0_setFree_4 rfl hl (by decide) rfl (fun ls hl => ?_)
  refine lv_aload_n hx hb dX0_setFree_5 rfl (lv_at hl 2 rfl) ?_
  refine lv_aload_n hx hb dX0_setFree_6 rfl (lv_at hl 2 rfl) ?_
  refine k_getN hc hk hw (bt_C hp hi1) rfl iX1 0 (by decide) nq134 (v := .int (nI i1)) rfl dX0_setFree_7 ?_
  refine k_putN hc hk hw (x' := (xB S p (up2 B (10 + i1) 12 (nI i1)) y)) (bt_C hp hi1) rfl iX1 tyX1 tyX1_ok nmX1 12 (by decide) nq162 rfl rfl rfl (Nat.le_of_ble_eq_true rfl) dX0_setFree_10 (bs_C hp hi1 (by decide) (by decide)) (fun H locs hw => ?_)
  refine lv_aload_n hx hb dX0_setFree_13 rfl (lv_at hl 2 rfl) ?_
  refine lv_bipush (v := 114) hx hb dX0_setFree_14 (by decide) ?_
  refine lv_aload_n hx hb dX0_setFree_16 rfl (lv_at hl 1 rfl) ?_
  refine k_get hc hk hw (bt_B hp) rfl iX0 5 (by decide) q210 (v := .int ((up2 B (10 + i1) 12 (nI i1)) 0 5)) rfl dX0_setFree_17 ?_
  refine kc_v hw (va_runVN (As := [.int 114, .int ((up2 B (10 + i1) 12 (nI i1)) 0 5)]) (rest := []) ⟨hx, hb, hml, hc.2.2.1, hc.2.2.2⟩ (m_X1_moveTo l g S p (up2 B (10 + i1) 12 (nI i1)) y hp i1 hi1 114 ⟨by decide +kernel, by decide +kernel, by decide +kernel⟩ ((up2 B (10 + i1) 12 (nI i1)) 0 5) _ _ (CN.up (by omega) (by decide) hN)) ⟨kw_N hc hk 2 nq326 q4 q329 rfl rfl (by decide +kernel) ⟨Nat.le_of_ble_eq_true rfl, Nat.le_of_ble_eq_true rfl⟩, hc.2.2.2 _ q328, hc.2.2.2 _ qs16⟩ (kp_V hk hw (bt_C hp hi1) rfl) rfl rfl hl.1 rfl (lv_room (Nat.le_of_ble_eq_true rfl)) dX0_setFree_20 ⟨Nat.le_of_ble_eq_true rfl, Nat.le_of_ble_eq_true rfl⟩) (fun H locs hw => ?_)
  refine lv_iload_n hx hb dX0_setFree_23 rfl (lv_at hl 0 rfl) ?_
  exact W.iret (v := B (10 + i1) 12) hx hb hr (fun t9 ht hW => ke_i hw ht (by simp only [f_X0_setFree]) (by simp only [f_X0_setFree])) hw.2.2.2 dX0_setFree_24
def f_X0_insist (i1 : Nat) (B : BT) : Int32 × BT :=
  (if B (50 + i1) 3 = 0 then ((f_X3_recommend i1 (if 4 < (((up2 B (50 + i1) 3 1) (50 + i1) 1) + 1) then 4 else (((up2 B (50 + i1) 3 1) (50 + i1) 1) + 1)) ((up2 B (50 + i1) 3 1) 0 5) (up2 B (50 + i1) 3 1)) (50 + i1) 1, f_X3_recommend i1 (if 4 < (((up2 B (50 + i1) 3 1) (50 + i1) 1) + 1) then 4 else (((up2 B (50 + i1) 3 1) (50 + i1) 1) + 1)) ((up2 B (50 + i1) 3 1) 0 5) (up2 B (50 + i1) 3 1)) else (0, (f_X0_moveAll i1 105 B).2))
theorem cn_X0_insist {i1 : Nat} {B : BT} {n m9 : Nat} (hN : CN B n m9) : CN ((f_X0_insist i1 B).2) n m9 := by
  unfold f_X0_insist
  by_cases h1 : B (50 + i1) 3 = 0
  · simp only [if_pos h1]
    exact (cn_X3_recommend (CN.up (by omega) (by decide) hN))
  · simp only [if_neg h1]
    exact (cn_X0_moveAll ⟨by decide +kernel, by decide +kernel, by decide +kernel⟩ hN)
set_option maxHeartbeats 4000000 in
set_option maxRecDepth 100000 in
theorem m_X0_insist (l : Launch) (g : wG) (S : Nat → BT) (p : Nat) (B : BT) (y : (Nat → Nat → Int32) × (Nat → Int64) × (Nat → UInt64)) (hp : p < 2) (i1 : Nat) (hi1 : i1 < 20) (n m9 : Nat) (hN : CN B n m9) : mI l yX0_insist cX0_insist 2 (some .int) ({ frames := 6, cells := 0, slots := 0, locals := 137 } : Room) 0 0 g (xB S p B y) [.ref (gA g (jB p)), .ref (gA g (jC p i1))] ((f_X0_insist i1 B).1) (xB S p ((f_X0_insist i1 B).2) y) := by
  refine Met.ofW (cc := cX0_insist) (maxL := 2) (ret := some .int) (by decide) rfl ?_
  intro p9 e s m args below meth c s₁ BL hml hv
  obtain ⟨rfl, hk, hPB⟩ := hv
  have hx := BL.exec
  have hb := BL.bytes
  have hc : CX p9 c cX0_insist s _ m RX0 := ⟨hx, hb, findClass_of_methodNamed BL.named, fun w h => atoms_spec BL.pre w (List.mem_cons_of_mem _ h)⟩
  have hr := BL.returns
  have hlocks := BL.notSynchronized
  have hw : WS g s (xB S p B y) s.heap [] := ⟨hPB, va_S.rf⟩
  have hl := lv_entry ([.ref (gA g (jB p)), .ref (gA g (jC p i1))]) (n := 2) (Nat.le_of_ble_eq_true rfl)
  rw [lg_entry_eq]
  generalize (lg_sl ([.ref (gA g (jB p)), .ref (gA g (jC p i1))]) ++ List.replicate (2 - (lg_sl ([.ref (gA g (jB p)), .ref (gA g (jC p i1))])).length) Slot.unset).toArray = ls at hl ⊢
  have hl : lv_has ls 2 [(0, .ref (gA g (jB p))), (1, .ref (gA g (jC p i1)))] := hl
  refine lv_aload_n hx hb dX0_insist_0 rfl (lv_at hl 1 rfl) ?_
  refine k_getN hc hk hw (bt_C hp hi1) rfl iX1 2 (by decide) nq139 (v := .ref (gA g (jF p i1))) rfl dX0_insist_1 ?_
  refine k_getN hc hk hw (bt_F hp hi1) rfl iX3 3 (by decide) nq113 (v := .int (B (50 + i1) 3)) rfl dX0_insist_4 ?_
  refine lv_if_eq (tgt := 20) hx hb dX0_insist_7 (by decide) (fun h1 => ?_) (fun h1 => ?_)
  · refine lv_aload_n hx hb dX0_insist_20 rfl (lv_at hl 1 rfl) ?_
    refine k_getN hc hk hw (bt_C hp hi1) rfl iX1 2 (by decide) nq139 (v := .ref (gA g (jF p i1))) rfl dX0_insist_21 ?_
    refine lv_iconst (v := 1) hx hb dX0_insist_24 (by decide) ?_
    refine k_putN hc hk hw (x' := (xB S p (up2 B (50 + i1) 3 1) y)) (bt_F hp hi1) rfl iX3 tyX3 tyX3_ok nmX3 3 (by decide) nq113 rfl (by decide +kernel) (by decide +kernel) (Nat.le_of_ble_eq_true rfl) dX0_insist_25 (bs_F hp hi1 (by decide)) (fun H locs hw => ?_)
    refine lv_aload_n hx hb dX0_insist_28 rfl (lv_at hl 1 rfl) ?_
    refine k_getN hc hk hw (bt_C hp hi1) rfl iX1 2 (by decide) nq139 (v := .ref (gA g (jF p i1))) rfl dX0_insist_29 ?_
    refine lv_aload_n hx hb dX0_insist_32 rfl (lv_at hl 1 rfl) ?_
    refine k_getN hc hk hw (bt_C hp hi1) rfl iX1 2 (by decide) nq139 (v := .ref (gA g (jF p i1))) rfl dX0_insist_33 ?_
    refine k_getN hc hk hw (bt_F hp hi1) rfl iX3 1 (by decide) nq107 (v := .int ((up2 B (50 + i1) 3 1) (50 + i1) 1)) rfl dX0_insist_36 ?_
    refine lv_iconst (v := 1) hx hb dX0_insist_39 (by decide) ?_
    refine lv_iadd hx hb dX0_insist_40 ?_
    refine lv_iconst (v := 4) hx hb dX0_insist_41 (by decide) ?_
    refine va_mmin hx hb (hml.trans hl.1.symm) hc.2.2.1 (hc.2.2.2 _ q460) (hc.2.2.2 _ q363) (hc.2.2.2 _ q16) (hc.2.2.2 _ q364) (Nat.le_of_ble_eq_true rfl) (Nat.le_of_ble_eq_true rfl) (Nat.le_of_ble_eq_true rfl) (Nat.le_of_ble_eq_true rfl) dX0_insist_42 ?_
    refine lv_aload_n hx hb dX0_insist_45 rfl (lv_at hl 0 rfl) ?_
    refine k_get hc hk hw (bt_B hp) rfl iX0 5 (by decide) q210 (v := .int ((up2 B (50 + i1) 3 1) 0 5)) rfl dX0_insist_46 ?_
    refine kc_v hw (va_runVN (As := [.int (if 4 < (((up2 B (50 + i1) 3 1) (50 + i1) 1) + 1) then 4 else (((up2 B (50 + i1) 3 1) (50 + i1) 1) + 1)), .int ((up2 B (50 + i1) 3 1) 0 5)]) (rest := []) ⟨hx, hb, hml, hc.2.2.1, hc.2.2.2⟩ (m_X3_recommend l g S p (up2 B (50 + i1) 3 1) y hp i1 hi1 (if 4 < (((up2 B (50 + i1) 3 1) (50 + i1) 1) + 1) then 4 else (((up2 B (50 + i1) 3 1) (50 + i1) 1) + 1)) ((up2 B (50 + i1) 3 1) 0 5) _ _ (CN.up (by omega) (by decide) hN)) ⟨kw_N hc hk 2 nq464 q6 q467 rfl rfl (by decide +kernel) ⟨Nat.le_of_ble_eq_true rfl, Nat.le_of_ble_eq_true rfl⟩, hc.2.2.2 _ q466, hc.2.2.2 _ qs27⟩ (kp_V hk hw (bt_F hp hi1) rfl) rfl rfl hl.1 rfl (lv_room (Nat.le_of_ble_eq_true rfl)) dX0_insist_49 ⟨Nat.le_of_ble_eq_true rfl, Nat.le_of_ble_eq_true rfl⟩) (fun H locs hw => ?_)
    refine lv_aload_n hx hb dX0_insist_52 rfl (lv_at hl 1 rfl) ?_
    refine k_getN hc hk hw (bt_C hp hi1) rfl iX1 2 (by decide) nq139 (v := .ref (gA g (jF p i1))) rfl dX0_insist_53 ?_
    refine k_getN hc hk hw (bt_F hp hi1) rfl iX3 1 (by decide) nq107 (v := .int ((f_X3_recommend i1 (if 4 < (((up2 B (50 + i1) 3 1) (50 + i1) 1) + 1) then 4 else (((up2 B (50 + i1) 3 1) (50 + i1) 1) + 1)) ((up2 B (50 + i1) 3 1) 0 5) (up2 B (50 + i1) 3 1)) (50 + i1) 1)) rfl dX0_insist_56 ?_
    exact W.iret (v := (f_X3_recommend i1 (if 4 < (((up2 B (50 + i1) 3 1) (50 + i1) 1) + 1) then 4 else (((up2 B (50 + i1) 3 1) (50 + i1) 1) + 1)) ((up2 B (50 + i1) 3 1) 0 5) (up2 B (50 + i1) 3 1)) (50 + i1) 1) hx hb hr (fun t9 ht hW => ke_i hw ht (by simp only [f_X0_insist, if_pos h1]) (by simp only [f_X0_insist, if_pos h1])) hw.2.2.2 dX0_insist_59
  · refine lv_aload_n hx hb dX0_insist_10 rfl (lv_at hl 0 rfl) ?_
    refine lv_aload_n hx hb dX0_insist_11 rfl (lv_at hl 1 rfl) ?_
    refine lv_bipush (v := 105) hx hb dX0_insist_12 (by decide) ?_
    refine kc_i hw (va_runV (As := [.ref (gA g (jC p i1)), .int 105]) (rest := []) ⟨hx, hb, hml, hc.2.2.1, hc.2.2.2⟩ (m_X0_moveAll l g S p B y hp i1 hi1 105 ⟨by decide +kernel, by decide +kernel, by decide +kernel⟩ _ _ hN) (kw_V hc 2 q426 q428 qs19 q2 q429 rfl rfl (by decide +kernel) ⟨Nat.le_of_ble_eq_true rfl, Nat.le_of_ble_eq_true rfl⟩) (kp_V hk hw (bt_B hp) rfl) rfl rfl hl.1 rfl (lv_room (Nat.le_of_ble_eq_true rfl)) dX0_insist_14 ⟨Nat.le_of_ble_eq_true rfl, Nat.le_of_ble_eq_true rfl⟩) (fun H locs hw => ?_)
    refine lv_pop hx hb dX0_insist_17 rfl ?_
    refine lv_iconst (v := 0) hx hb dX0_insist_18 (by decide) ?_
    exact W.iret (v := 0) hx hb hr (fun t9 ht hW => ke_i hw ht (by simp only [f_X0_insist, if_neg h1]) (by simp only [f_X0_insist, if_neg h1])) hw.2.2.2 dX0_insist_19
def b_takeBack (i1 : Nat) (B : BT) (k : Nat) (z : Int32 × BT) : Int32 × BT :=
  (if nI k = nI i1 then (z.1, z.2) else (if z.2 (10 + k) 12 = nI i1 then (z.1 + 1, f_X1_moveTo k 114 ((up2 z.2 (10 + k) 12 (nI k)) 0 5) (up2 z.2 (10 + k) 12 (nI k))) else (z.1, z.2)))
def L_takeBack (i1 : Nat) (B : BT) : Nat → Int32 × BT
  | 0 => (0, B)
  | k + 1 => b_takeBack i1 B k (L_takeBack i1 B k)
theorem cn_b_takeBack {i1 : Nat} {B : BT} {k n m9 : Nat} {z : Int32 × BT} (hN : CN z.2 n m9) : CN ((b_takeBack i1 B k z).2) n m9 := by
  unfold b_takeBack
  by_cases h2 : nI k = nI i1
  · simp only [if_pos h2]
    exact hN
  · simp only [if_neg h2]
    by_cases h3 : z.2 (10 + k) 12 = nI i1
    · simp only [if_pos h3]
      exact (cn_X1_moveTo ⟨by decide +kernel, by decide +kernel, by decide +kernel⟩ (CN.up (by omega) (by decide) hN))
    · simp only [if_neg h3]
      exact hN
theorem cn_L_takeBack {i1 : Nat} {B : BT} {n m9 : Nat} (hN : CN B n m9) : ∀ k, CN ((L_takeBack i1 B k).2) n m9 := by
  intro k
  induction k with
  | zero => exact hN
  | succ k ih => exact cn_b_takeBack ih
def f_X0_takeBack (i1 : Nat) (B : BT) : Int32 × BT :=
  ((L_takeBack i1 B ((B 0 4).toNatClampNeg)).1, f_X1_moveTo i1 119 (((L_takeBack i1 B ((B 0 4).toNatClampNeg)).2) 0 5) ((L_takeBack i1 B ((B 0 4).toNatClampNeg)).2))
theorem cn_X0_takeBack {i1 : Nat} {B : BT} {n m9 : Nat} (hN : CN B n m9) : CN ((f_X0_takeBack i1 B).2) n m9 := by
  unfold f_X0_takeBack
  exact (cn_X1_moveTo ⟨by decide +kernel, by decide +kernel, by decide +kernel⟩ (cn_L_takeBack hN ((B 0 4).toNatClampNeg)))
set_option maxHeartbeats 4000000 in
set_option maxRecDepth 100000 in
theorem m_X0_takeBack (l : Launch) (g : wG) (S : Nat → BT) (p : Nat) (B : BT) (y : (Nat → Nat → Int32) × (Nat → Int64) × (Nat → UInt64)) (hp : p < 2) (i1 : Nat) (hi1 : i1 < 20) (n m9 : Nat) (hN : CN B n m9) : mI l yX0_takeBack cX0_takeBack 4 (some .int) ({ frames := 5, cells := 0, slots := 0, locals := 113 } : Room) 0 0 g (xB S p B y) [.ref (gA g (jB p)), .ref (gA g (jC p i1))] ((f_X0_takeBack i1 B).1) (xB S p ((f_X0_takeBack i1 B).2) y) := by
  refine Met.ofW (cc := cX0_takeBack) (maxL := 4) (ret := some .int) (by decide) rfl ?_
  intro p9 e s m args below meth c s₁ BL hml hv
  obtain ⟨rfl, hk, hPB⟩ := hv
  have hx := BL.exec
  have hb := BL.bytes
  have hc : CX p9 c cX0_takeBack s _ m RX0 := ⟨hx, hb, findClass_of_methodNamed BL.named, fun w h => atoms_spec BL.pre w (List.mem_cons_of_mem _ h)⟩
  have hr := BL.returns
  have hlocks := BL.notSynchronized
  have hw : WS g s (xB S p B y) s.heap [] := ⟨hPB, va_S.rf⟩
  have hl := lv_entry ([.ref (gA g (jB p)), .ref (gA g (jC p i1))]) (n := 4) (Nat.le_of_ble_eq_true rfl)
  rw [lg_entry_eq]
  generalize (lg_sl ([.ref (gA g (jB p)), .ref (gA g (jC p i1))]) ++ List.replicate (4 - (lg_sl ([.ref (gA g (jB p)), .ref (gA g (jC p i1))])).length) Slot.unset).toArray = ls at hl ⊢
  have hl : lv_has ls 4 [(0, .ref (gA g (jB p))), (1, .ref (gA g (jC p i1)))] := hl
  refine lv_iconst (v := 0) hx hb dX0_takeBack_0 (by decide) ?_
  refine lv_istore_n (lv' := [(2, .int 0), (0, .ref (gA g (jB p))), (1, .ref (gA g (jC p i1)))]) hx hb dX0_takeBack_1 rfl hl (by decide) rfl (fun ls hl => ?_)
  refine lv_iconst (v := 0) hx hb dX0_takeBack_2 (by decide) ?_
  refine lv_istore_n (lv' := [(3, .int 0), (2, .int 0), (0, .ref (gA g (jB p))), (1, .ref (gA g (jC p i1)))]) hx hb dX0_takeBack_3 rfl hl (by decide) rfl (fun ls hl => ?_)
  have LP1 : ∀ (f k : Nat), k ≤ (B 0 4).toNatClampNeg → (B 0 4).toNatClampNeg + 1 ≤ k + f → ∀ (H : Heap) (locs : List Loc), WS g s (xB S p ((L_takeBack i1 B k).2) y) H locs → ∀ (ls : Array Slot), lv_has ls 4 [(3, .int (nI k)), (2, .int ((L_takeBack i1 B k).1)), (0, .ref (gA g (jB p))), (1, .ref (gA g (jC p i1)))] → W p9 l e ({ frames := 5, cells := 0, slots := 0, locals := 113 } : Room) s m ([.ref (gA g (jB p)), .ref (gA g (jC p i1))] : List Value).toArray below meth c H locs 0 0 (MQ below (va_Qi (fun (v : Int32) (u : wSt) => v = (f_X0_takeBack i1 B).1 ∧ u = (xB S p ((f_X0_takeBack i1 B).2) y)) (PB g) (AA g)) (([.ref (gA g (jB p)), .ref (gA g (jC p i1))] : List Value).toArray) s 0 0 (AA g)) (F0 m 4 ls []) := by
    intro f
    induction f with
    | zero => intro k h1 h2; exact absurd h2 (by omega)
    | succ f ih =>
      intro k hk9 hf9 H locs hw ls hl
      have hl4 := CN.l4 hN
      refine lv_iload_n hx hb dX0_takeBack_4 rfl (lv_at hl 0 rfl) ?_
      refine lv_aload_n hx hb dX0_takeBack_5 rfl (lv_at hl 2 rfl) ?_
      refine k_get hc hk hw (bt_B hp) rfl iX0 4 (by decide) q208 (v := .int (((L_takeBack i1 B k).2) 0 4)) rfl dX0_takeBack_6 ?_
      refine lv_icmp_ge (tgt := 70) hx hb dX0_takeBack_9 (by decide) (fun h2 => ?_) (fun h2 => ?_)
      · have hkn := lp_out h2 (CN.cc hN (cn_L_takeBack hN k)) hk9 (by omega)
        subst hkn
        refine lv_aload_n hx hb dX0_takeBack_70 rfl (lv_at hl 3 rfl) ?_
        refine lv_bipush (v := 119) hx hb dX0_takeBack_71 (by decide) ?_
        refine lv_aload_n hx hb dX0_takeBack_73 rfl (lv_at hl 2 rfl) ?_
        refine k_get hc hk hw (bt_B hp) rfl iX0 5 (by decide) q210 (v := .int (((L_takeBack i1 B ((B 0 4).toNatClampNeg)).2) 0 5)) rfl dX0_takeBack_74 ?_
        refine kc_v hw (va_runVN (As := [.int 119, .int (((L_takeBack i1 B ((B 0 4).toNatClampNeg)).2) 0 5)]) (rest := []) ⟨hx, hb, hml, hc.2.2.1, hc.2.2.2⟩ (m_X1_moveTo l g S p ((L_takeBack i1 B ((B 0 4).toNatClampNeg)).2) y hp i1 hi1 119 ⟨by decide +kernel, by decide +kernel, by decide +kernel⟩ (((L_takeBack i1 B ((B 0 4).toNatClampNeg)).2) 0 5) _ _ (cn_L_takeBack hN ((B 0 4).toNatClampNeg))) ⟨kw_N hc hk 2 nq326 q4 q329 rfl rfl (by decide +kernel) ⟨Nat.le_of_ble_eq_true rfl, Nat.le_of_ble_eq_true rfl⟩, hc.2.2.2 _ q328, hc.2.2.2 _ qs16⟩ (kp_V hk hw (bt_C hp hi1) rfl) rfl rfl hl.1 rfl (lv_room (Nat.le_of_ble_eq_true rfl)) dX0_takeBack_77 ⟨Nat.le_of_ble_eq_true rfl, Nat.le_of_ble_eq_true rfl⟩) (fun H locs hw => ?_)
        refine lv_iload_n hx hb dX0_takeBack_80 rfl (lv_at hl 1 rfl) ?_
        exact W.iret (v := (L_takeBack i1 B ((B 0 4).toNatClampNeg)).1) hx hb hr (fun t9 ht hW => ke_i hw ht (by simp only [f_X0_takeBack]) (by simp only [f_X0_takeBack])) hw.2.2.2 dX0_takeBack_81
      · have hkn := lp_in h2 (CN.cc hN (cn_L_takeBack hN k)) hk9 (by omega)
        refine lv_iload_n hx hb dX0_takeBack_12 rfl (lv_at hl 0 rfl) ?_
        refine lv_aload_n hx hb dX0_takeBack_13 rfl (lv_at hl 3 rfl) ?_
        refine k_getN hc hk hw (bt_C hp hi1) rfl iX1 0 (by decide) nq134 (v := .int (nI i1)) rfl dX0_takeBack_14 ?_
        refine lv_icmp_eq (tgt := 64) hx hb dX0_takeBack_17 (by decide) (fun h3 => ?_) (fun h3 => ?_)
        · refine lv_iinc (v := nI (k + 1)) (lv' := [(3, .int (nI (k + 1))), (2, .int ((L_takeBack i1 B k).1)), (0, .ref (gA g (jB p))), (1, .ref (gA g (jC p i1)))]) hx hb dX0_takeBack_64 hl (k := 0) rfl (by first | exact (nI_succ _).symm | rfl) (by decide) rfl (fun ls hl => ?_)
          refine lv_goto (tgt := 4) hx hb dX0_takeBack_67 (by decide) ?_
          have hw9 : WS g s (xB S p ((L_takeBack i1 B (k + 1)).2) y) H locs := by
            have e9 : (L_takeBack i1 B k).2 = (L_takeBack i1 B (k + 1)).2 := by simp only [L_takeBack, b_takeBack, if_pos h3]
            rw [← e9]; exact hw
          have hl9 := lv_sub hl [0, 1, 2, 3] rfl
          have e8 : (L_takeBack i1 B k).1 = (L_takeBack i1 B (k + 1)).1 := by simp only [L_takeBack, b_takeBack, if_pos h3]
          rw [e8] at hl9
          exact ih (k + 1) (by omega) (by omega) _ _ hw9 _ hl9
        · refine lv_aload_n hx hb dX0_takeBack_20 rfl (lv_at hl 2 rfl) ?_
          refine k_get hc hk hw (bt_B hp) rfl iX0 1 (by decide) q203 (v := .ref (gA g (jCs p))) rfl dX0_takeBack_21 ?_
          refine lv_iload_n hx hb dX0_takeBack_24 rfl (lv_at hl 0 rfl) ?_
          refine k_ald (t0 := 5) (f := fun k => gA g (jC p k)) (n := k) hc hk hw rfl (at_Cs hp) (vp_in_nI (Nat.lt_of_lt_of_le hkn (by omega)) (by omega)) (nI_clamp (by have := hkn; omega)) dX0_takeBack_25 ?_
          refine k_getN hc hk hw (bt_C hp (Nat.lt_of_lt_of_le hkn (by omega))) rfl iX1 12 (by decide) nq162 (v := .int (((L_takeBack i1 B k).2) (10 + k) 12)) rfl dX0_takeBack_26 ?_
          refine lv_aload_n hx hb dX0_takeBack_29 rfl (lv_at hl 3 rfl) ?_
          refine k_getN hc hk hw (bt_C hp hi1) rfl iX1 0 (by decide) nq134 (v := .int (nI i1)) rfl dX0_takeBack_30 ?_
          refine lv_icmp_ne (tgt := 64) hx hb dX0_takeBack_33 (by decide) (fun h5 => ?_) (fun h5 => ?_)
          · refine lv_iinc (v := nI (k + 1)) (lv' := [(3, .int (nI (k + 1))), (2, .int ((L_takeBack i1 B k).1)), (0, .ref (gA g (jB p))), (1, .ref (gA g (jC p i1)))]) hx hb dX0_takeBack_64 hl (k := 0) rfl (by first | exact (nI_succ _).symm | rfl) (by decide) rfl (fun ls hl => ?_)
            refine lv_goto (tgt := 4) hx hb dX0_takeBack_67 (by decide) ?_
            have hw9 : WS g s (xB S p ((L_takeBack i1 B (k + 1)).2) y) H locs := by
              have e9 : (L_takeBack i1 B k).2 = (L_takeBack i1 B (k + 1)).2 := by simp only [L_takeBack, b_takeBack, if_neg h3, if_neg h5]
              rw [← e9]; exact hw
            have hl9 := lv_sub hl [0, 1, 2, 3] rfl
            have e8 : (L_takeBack i1 B k).1 = (L_takeBack i1 B (k + 1)).1 := by simp only [L_takeBack, b_takeBack, if_neg h3, if_neg h5]
            rw [e8] at hl9
            exact ih (k + 1) (by omega) (by omega) _ _ hw9 _ hl9
          · refine lv_aload_n hx hb dX0_takeBack_36 rfl (lv_at hl 2 rfl) ?_
            refine k_get hc hk hw (bt_B hp) rfl iX0 1 (by decide) q203 (v := .ref (gA g (jCs p))) rfl dX0_takeBack_37 ?_
            refine lv_iload_n hx hb dX0_takeBack_40 rfl (lv_at hl 0 rfl) ?_
            refine k_ald (t0 := 5) (f := fun k => gA g (jC p k)) (n := k) hc hk hw rfl (at_Cs hp) (vp_in_nI (Nat.lt_of_lt_of_le hkn (by omega)) (by omega)) (nI_clamp (by have := hkn; omega)) dX0_takeBack_41 ?_
            refine lv_iload_n hx hb dX0_takeBack_42 rfl (lv_at hl 0 rfl) ?_
            refine k_putN hc hk hw (x' := (xB S p (up2 ((L_takeBack i1 B k).2) (10 + k) 12 (nI k)) y)) (bt_C hp (Nat.lt_of_lt_of_le hkn (by omega))) rfl iX1 tyX1 tyX1_ok nmX1 12 (by decide) nq162 rfl rfl rfl (Nat.le_of_ble_eq_true rfl) dX0_takeBack_43 (bs_C hp (Nat.lt_of_lt_of_le hkn (by omega)) (by decide) (by decide)) (fun H locs hw => ?_)
            refine lv_aload_n hx hb dX0_takeBack_46 rfl (lv_at hl 2 rfl) ?_
            refine k_get hc hk hw (bt_B hp) rfl iX0 1 (by decide) q203 (v := .ref (gA g (jCs p))) rfl dX0_takeBack_47 ?_
            refine lv_iload_n hx hb dX0_takeBack_50 rfl (lv_at hl 0 rfl) ?_
            refine k_ald (t0 := 5) (f := fun k => gA g (jC p k)) (n := k) hc hk hw rfl (at_Cs hp) (vp_in_nI (Nat.lt_of_lt_of_le hkn (by omega)) (by omega)) (nI_clamp (by have := hkn; omega)) dX0_takeBack_51 ?_
            refine lv_bipush (v := 114) hx hb dX0_takeBack_52 (by decide) ?_
            refine lv_aload_n hx hb dX0_takeBack_54 rfl (lv_at hl 2 rfl) ?_
            refine k_get hc hk hw (bt_B hp) rfl iX0 5 (by decide) q210 (v := .int ((up2 ((L_takeBack i1 B k).2) (10 + k) 12 (nI k)) 0 5)) rfl dX0_takeBack_55 ?_
            refine kc_v hw (va_runVN (As := [.int 114, .int ((up2 ((L_takeBack i1 B k).2) (10 + k) 12 (nI k)) 0 5)]) (rest := []) ⟨hx, hb, hml, hc.2.2.1, hc.2.2.2⟩ (m_X1_moveTo l g S p (up2 ((L_takeBack i1 B k).2) (10 + k) 12 (nI k)) y hp k (Nat.lt_of_lt_of_le hkn (by omega)) 114 ⟨by decide +kernel, by decide +kernel, by decide +kernel⟩ ((up2 ((L_takeBack i1 B k).2) (10 + k) 12 (nI k)) 0 5) _ _ (CN.up (by omega) (by decide) (cn_L_takeBack hN k))) ⟨kw_N hc hk 2 nq326 q4 q329 rfl rfl (by decide +kernel) ⟨Nat.le_of_ble_eq_true rfl, Nat.le_of_ble_eq_true rfl⟩, hc.2.2.2 _ q328, hc.2.2.2 _ qs16⟩ (kp_V hk hw (bt_C hp (Nat.lt_of_lt_of_le hkn (by omega))) rfl) rfl rfl hl.1 rfl (lv_room (Nat.le_of_ble_eq_true rfl)) dX0_takeBack_58 ⟨Nat.le_of_ble_eq_true rfl, Nat.le_of_ble_eq_true rfl⟩) (fun H locs hw => ?_)
            refine lv_iinc (v := ((L_takeBack i1 B k).1) + 1) (lv' := [(2, .int (((L_takeBack i1 B k).1) + 1)), (3, .int (nI k)), (0, .ref (gA g (jB p))), (1, .ref (gA g (jC p i1)))]) hx hb dX0_takeBack_61 hl (k := 1) rfl rfl (by decide) rfl (fun ls hl => ?_)
            refine lv_iinc (v := nI (k + 1)) (lv' := [(3, .int (nI (k + 1))), (2, .int (((L_takeBack i1 B k).1) + 1)), (0, .ref (gA g (jB p))), (1, .ref (gA g (jC p i1)))]) hx hb dX0_takeBack_64 hl (k := 1) rfl (by first | exact (nI_succ _).symm | rfl) (by decide) rfl (fun ls hl => ?_)
            refine lv_goto (tgt := 4) hx hb dX0_takeBack_67 (by decide) ?_
            have hw9 : WS g s (xB S p ((L_takeBack i1 B (k + 1)).2) y) H locs := by
              have e9 : f_X1_moveTo k 114 ((up2 ((L_takeBack i1 B k).2) (10 + k) 12 (nI k)) 0 5) (up2 ((L_takeBack i1 B k).2) (10 + k) 12 (nI k)) = (L_takeBack i1 B (k + 1)).2 := by simp only [L_takeBack, b_takeBack, if_neg h3, if_pos h5]
              rw [← e9]; exact hw
            have hl9 := lv_sub hl [0, 1, 2, 3] rfl
            have e8 : ((L_takeBack i1 B k).1) + 1 = (L_takeBack i1 B (k + 1)).1 := by simp only [L_takeBack, b_takeBack, if_neg h3, if_pos h5]
            rw [e8] at hl9
            exact ih (k + 1) (by omega) (by omega) _ _ hw9 _ hl9
  exact LP1 ((B 0 4).toNatClampNeg + 1) 0 (Nat.zero_le _) (by omega) _ _ hw _ (lv_sub hl [0, 1, 2, 3] rfl)
def j_X0_conclude_0 (i1 : Nat) (a2 : Int32) (B : BT) : Int32 :=
  (if B (30 + i1) 3 = 0 then a2 else a2 ||| 1)
def t_conclude1 (i1 : Nat) (a2 : Int32) (B : BT) : BT :=
  f_X3_begin i1 (j_X0_conclude_0 i1 a2 B) B
theorem cn_t_conclude1 {i1 : Nat} {a2 : Int32} {B : BT} {n m9 : Nat} (hN : CN B n m9) : CN (t_conclude1 i1 a2 B) n m9 := by
  unfold t_conclude1
  exact (cn_X3_begin hN)
def v_conclude (i1 : Nat) (a2 : Int32) (B : BT) : Int32 :=
  (f_X0_weightOf (j_X0_conclude_0 i1 a2 B) (t_conclude1 i1 a2 B)) + (if 5 < (f_X0_followersOf i1 (t_conclude1 i1 a2 B)) then 5 else (f_X0_followersOf i1 (t_conclude1 i1 a2 B)))
def t_conclude2 (i1 : Nat) (a2 : Int32) (B : BT) : BT :=
  f_X3_recommend i1 (f_X6_remedyFor (v_conclude i1 a2 B)) ((t_conclude1 i1 a2 B) 0 5) (t_conclude1 i1 a2 B)
theorem cn_t_conclude2 {i1 : Nat} {a2 : Int32} {B : BT} {n m9 : Nat} (hN : CN B n m9) : CN (t_conclude2 i1 a2 B) n m9 := by
  unfold t_conclude2
  exact (cn_X3_recommend (cn_t_conclude1 hN))
def f_X0_conclude (i1 : Nat) (a2 : Int32) (B : BT) : Int32 × BT :=
  (if (j_X0_conclude_0 i1 a2 B) = 0 then (0, (f_X0_moveAll i1 117 (t_conclude1 i1 a2 B)).2) else ((up2 ((f_X0_moveAll i1 100 (t_conclude2 i1 a2 B)).2) (4 + (f_X0_officeOf i1 (t_conclude2 i1 a2 B))) 2 (((t_conclude2 i1 a2 B) (4 + (f_X0_officeOf i1 (t_conclude2 i1 a2 B))) 2) + ((f_X0_moveAll i1 100 (t_conclude2 i1 a2 B)).1))) (50 + i1) 1, up2 ((f_X0_moveAll i1 100 (t_conclude2 i1 a2 B)).2) (4 + (f_X0_officeOf i1 (t_conclude2 i1 a2 B))) 2 (((t_conclude2 i1 a2 B) (4 + (f_X0_officeOf i1 (t_conclude2 i1 a2 B))) 2) + ((f_X0_moveAll i1 100 (t_conclude2 i1 a2 B)).1))))
theorem cn_X0_conclude {i1 : Nat} {a2 : Int32} {B : BT} {n m9 : Nat} (hN : CN B n m9) : CN ((f_X0_conclude i1 a2 B).2) n m9 := by
  unfold f_X0_conclude
  by_cases h2 : (j_X0_conclude_0 i1 a2 B) = 0
  · simp only [if_pos h2]
    exact (cn_X0_moveAll ⟨by decide +kernel, by decide +kernel, by decide +kernel⟩ (cn_t_conclude1 hN))
  · simp only [if_neg h2]
    exact (CN.up (by omega) (by decide) (cn_X0_moveAll ⟨by decide +kernel, by decide +kernel, by decide +kernel⟩ (cn_t_conclude2 hN)))
set_option maxHeartbeats 4000000 in
set_option maxRecDepth 100000 in
theorem m_X0_conclude (l : Launch) (g : wG) (S : Nat → BT) (p : Nat) (B : BT) (y : (Nat → Nat → Int32) × (Nat → Int64) × (Nat → UInt64)) (hp : p < 2) (i1 : Nat) (hi1 : i1 < 20) (a2 : Int32) (n m9 : Nat) (hN : CN B n m9) : mI l yX0_conclude cX0_conclude 5 (some .int) ({ frames := 6, cells := 0, slots := 0, locals := 137 } : Room) 0 0 g (xB S p B y) [.ref (gA g (jB p)), .ref (gA g (jC p i1)), .int a2] ((f_X0_conclude i1 a2 B).1) (xB S p ((f_X0_conclude i1 a2 B).2) y) := by
  refine Met.ofW (cc := cX0_conclude) (maxL := 5) (ret := some .int) (by decide) rfl ?_
  intro p9 e s m args below meth c s₁ BL hml hv
  obtain ⟨rfl, hk, hPB⟩ := hv
  have hx := BL.exec
  have hb := BL.bytes
  have hc : CX p9 c cX0_conclude s _ m RX0 := ⟨hx, hb, findClass_of_methodNamed BL.named, fun w h => atoms_spec BL.pre w (List.mem_cons_of_mem _ h)⟩
  have hr := BL.returns
  have hlocks := BL.notSynchronized
  have hw : WS g s (xB S p B y) s.heap [] := ⟨hPB, va_S.rf⟩
  have hl := lv_entry ([.ref (gA g (jB p)), .ref (gA g (jC p i1)), .int a2]) (n := 5) (Nat.le_of_ble_eq_true rfl)
  rw [lg_entry_eq]
  generalize (lg_sl ([.ref (gA g (jB p)), .ref (gA g (jC p i1)), .int a2]) ++ List.replicate (5 - (lg_sl ([.ref (gA g (jB p)), .ref (gA g (jC p i1)), .int a2])).length) Slot.unset).toArray = ls at hl ⊢
  have hl : lv_has ls 5 [(0, .ref (gA g (jB p))), (1, .ref (gA g (jC p i1))), (2, .int a2)] := hl
  have J1 : ∀ (v : Int32), v = (j_X0_conclude_0 i1 a2 B) → ∀ (H : Heap) (locs : List Loc), WS g s (xB S p B y) H locs → W p9 l e ({ frames := 6, cells := 0, slots := 0, locals := 137 } : Room) s m ([.ref (gA g (jB p)), .ref (gA g (jC p i1)), .int a2] : List Value).toArray below meth c H locs 0 0 (MQ below (va_Qi (fun (v : Int32) (u : wSt) => v = (f_X0_conclude i1 a2 B).1 ∧ u = (xB S p ((f_X0_conclude i1 a2 B).2) y)) (PB g) (AA g)) (([.ref (gA g (jB p)), .ref (gA g (jC p i1)), .int a2] : List Value).toArray) s 0 0 (AA g)) (F0 m 17 ls (.int v :: ([] : List Value))) := by
    intro v ev H locs hw
    subst ev
    refine lv_istore_n (lv' := [(3, .int (j_X0_conclude_0 i1 a2 B)), (0, .ref (gA g (jB p))), (1, .ref (gA g (jC p i1))), (2, .int a2)]) hx hb dX0_conclude_17 rfl hl (by decide) rfl (fun ls hl => ?_)
    refine lv_aload_n hx hb dX0_conclude_18 rfl (lv_at hl 2 rfl) ?_
    refine k_getN hc hk hw (bt_C hp hi1) rfl iX1 2 (by decide) nq139 (v := .ref (gA g (jF p i1))) rfl dX0_conclude_19 ?_
    refine lv_iload_n hx hb dX0_conclude_22 rfl (lv_at hl 0 rfl) ?_
    refine kc_v hw (va_runVN (As := [.int (j_X0_conclude_0 i1 a2 B)]) (rest := []) ⟨hx, hb, hml, hc.2.2.1, hc.2.2.2⟩ (m_X3_begin l g S p B y hp i1 hi1 (j_X0_conclude_0 i1 a2 B) _ _ hN) ⟨kw_N hc hk 1 nq455 q6 q305 rfl rfl (by decide +kernel) ⟨Nat.le_of_ble_eq_true rfl, Nat.le_of_ble_eq_true rfl⟩, hc.2.2.2 _ q304, hc.2.2.2 _ qs10⟩ (kp_V hk hw (bt_F hp hi1) rfl) rfl rfl hl.1 rfl (lv_room (Nat.le_of_ble_eq_true rfl)) dX0_conclude_23 ⟨Nat.le_of_ble_eq_true rfl, Nat.le_of_ble_eq_true rfl⟩) (fun H locs hw => ?_)
    have hw : WS g s (xB S p (t_conclude1 i1 a2 B) y) H locs := hw
    refine lv_iload_n hx hb dX0_conclude_26 rfl (lv_at hl 0 rfl) ?_
    refine lv_if_ne (tgt := 40) hx hb dX0_conclude_27 (by decide) (fun h2 => ?_) (fun h2 => ?_)
    · refine lv_aload_n hx hb dX0_conclude_40 rfl (lv_at hl 1 rfl) ?_
      refine lv_iload_n hx hb dX0_conclude_41 rfl (lv_at hl 0 rfl) ?_
      refine kc_i hw (va_runV (As := [.int (j_X0_conclude_0 i1 a2 B)]) (rest := []) ⟨hx, hb, hml, hc.2.2.1, hc.2.2.2⟩ (m_X0_weightOf l g S p (t_conclude1 i1 a2 B) y hp (j_X0_conclude_0 i1 a2 B) _ _ (cn_t_conclude1 hN)) (kw_V hc 1 q456 q458 qs26 q2 q459 rfl rfl (by decide +kernel) ⟨Nat.le_of_ble_eq_true rfl, Nat.le_of_ble_eq_true rfl⟩) (kp_V hk hw (bt_B hp) rfl) rfl rfl hl.1 rfl (lv_room (Nat.le_of_ble_eq_true rfl)) dX0_conclude_42 ⟨Nat.le_of_ble_eq_true rfl, Nat.le_of_ble_eq_true rfl⟩) (fun H locs hw => ?_)
      refine lv_aload_n hx hb dX0_conclude_45 rfl (lv_at hl 1 rfl) ?_
      refine lv_aload_n hx hb dX0_conclude_46 rfl (lv_at hl 2 rfl) ?_
      refine kc_i hw (va_runV (As := [.ref (gA g (jC p i1))]) (rest := [.int (f_X0_weightOf (j_X0_conclude_0 i1 a2 B) (t_conclude1 i1 a2 B))]) ⟨hx, hb, hml, hc.2.2.1, hc.2.2.2⟩ (m_X0_followersOf l g S p (t_conclude1 i1 a2 B) y hp i1 hi1 _ _ (cn_t_conclude1 hN)) (kw_V hc 1 q443 q445 qs23 q2 q446 rfl rfl (by decide +kernel) ⟨Nat.le_of_ble_eq_true rfl, Nat.le_of_ble_eq_true rfl⟩) (kp_V hk hw (bt_B hp) rfl) rfl rfl hl.1 rfl (lv_room (Nat.le_of_ble_eq_true rfl)) dX0_conclude_47 ⟨Nat.le_of_ble_eq_true rfl, Nat.le_of_ble_eq_true rfl⟩) (fun H locs hw => ?_)
      refine lv_iconst (v := 5) hx hb dX0_conclude_50 (by decide) ?_
      refine va_mmin hx hb (hml.trans hl.1.symm) hc.2.2.1 (hc.2.2.2 _ q460) (hc.2.2.2 _ q363) (hc.2.2.2 _ q16) (hc.2.2.2 _ q364) (Nat.le_of_ble_eq_true rfl) (Nat.le_of_ble_eq_true rfl) (Nat.le_of_ble_eq_true rfl) (Nat.le_of_ble_eq_true rfl) dX0_conclude_51 ?_
      refine lv_iadd hx hb dX0_conclude_54 ?_
      refine vn_ (v9 := (v_conclude i1 a2 B)) rfl ?_
      refine lv_istore (lv' := [(4, .int (v_conclude i1 a2 B)), (3, .int (j_X0_conclude_0 i1 a2 B)), (0, .ref (gA g (jB p))), (1, .ref (gA g (jC p i1))), (2, .int a2)]) hx hb dX0_conclude_55 hl (by decide) rfl (fun ls hl => ?_)
      refine lv_aload_n hx hb dX0_conclude_57 rfl (lv_at hl 3 rfl) ?_
      refine k_getN hc hk hw (bt_C hp hi1) rfl iX1 2 (by decide) nq139 (v := .ref (gA g (jF p i1))) rfl dX0_conclude_58 ?_
      refine lv_iload hx hb dX0_conclude_61 (lv_at hl 0 rfl) ?_
      refine kc_i hw (va_runSN (As := [.int (v_conclude i1 a2 B)]) (rest := [.ref (gA g (jF p i1))]) ⟨hx, hb, hml, hc.2.2.1, hc.2.2.2⟩ (m_X6_remedyFor l g (xB S p (t_conclude1 i1 a2 B) y) (v_conclude i1 a2 B)) ⟨kw_N hc hk 1 nq461 q1 q463 rfl rfl (by decide +kernel) ⟨Nat.le_of_ble_eq_true rfl, Nat.le_of_ble_eq_true rfl⟩, hc.2.2.2 _ q462, trivial⟩ (kp_S hk hw) rfl rfl hl.1 rfl (lv_room (Nat.le_of_ble_eq_true rfl)) dX0_conclude_63 ⟨Nat.le_of_ble_eq_true rfl, Nat.le_of_ble_eq_true rfl⟩) (fun H locs hw => ?_)
      refine lv_aload_n hx hb dX0_conclude_66 rfl (lv_at hl 2 rfl) ?_
      refine k_get hc hk hw (bt_B hp) rfl iX0 5 (by decide) q210 (v := .int ((t_conclude1 i1 a2 B) 0 5)) rfl dX0_conclude_67 ?_
      refine kc_v hw (va_runVN (As := [.int (f_X6_remedyFor (v_conclude i1 a2 B)), .int ((t_conclude1 i1 a2 B) 0 5)]) (rest := []) ⟨hx, hb, hml, hc.2.2.1, hc.2.2.2⟩ (m_X3_recommend l g S p (t_conclude1 i1 a2 B) y hp i1 hi1 (f_X6_remedyFor (v_conclude i1 a2 B)) ((t_conclude1 i1 a2 B) 0 5) _ _ (cn_t_conclude1 hN)) ⟨kw_N hc hk 2 nq464 q6 q467 rfl rfl (by decide +kernel) ⟨Nat.le_of_ble_eq_true rfl, Nat.le_of_ble_eq_true rfl⟩, hc.2.2.2 _ q466, hc.2.2.2 _ qs27⟩ (kp_V hk hw (bt_F hp hi1) rfl) rfl rfl hl.1 rfl (lv_room (Nat.le_of_ble_eq_true rfl)) dX0_conclude_70 ⟨Nat.le_of_ble_eq_true rfl, Nat.le_of_ble_eq_true rfl⟩) (fun H locs hw => ?_)
      have hw : WS g s (xB S p (t_conclude2 i1 a2 B) y) H locs := hw
      refine lv_aload_n hx hb dX0_conclude_73 rfl (lv_at hl 2 rfl) ?_
      refine lv_aload_n hx hb dX0_conclude_74 rfl (lv_at hl 3 rfl) ?_
      refine kc_r hw (va_runV (As := [.ref (gA g (jC p i1))]) (rest := []) ⟨hx, hb, hml, hc.2.2.1, hc.2.2.2⟩ (m_X0_officeOf l g S p (t_conclude2 i1 a2 B) y hp i1 hi1 _ _ (cn_t_conclude2 hN)) (kw_V hc 1 q318 q320 qs14 q2 q321 rfl rfl (by decide +kernel) ⟨Nat.le_of_ble_eq_true rfl, Nat.le_of_ble_eq_true rfl⟩) (kp_V hk hw (bt_B hp) rfl) rfl rfl hl.1 rfl (lv_room (Nat.le_of_ble_eq_true rfl)) dX0_conclude_75 ⟨Nat.le_of_ble_eq_true rfl, Nat.le_of_ble_eq_true rfl⟩) (fun H locs hw => ?_)
      refine lv_dup hx hb dX0_conclude_78 rfl ?_
      refine k_getN hc hk hw (bt_O hp (lt_X0_officeOf (cn_t_conclude2 hN))) rfl iX5 2 (by decide) nq53 (v := .int ((t_conclude2 i1 a2 B) (4 + (f_X0_officeOf i1 (t_conclude2 i1 a2 B))) 2)) rfl dX0_conclude_79 ?_
      refine lv_aload_n hx hb dX0_conclude_82 rfl (lv_at hl 2 rfl) ?_
      refine lv_aload_n hx hb dX0_conclude_83 rfl (lv_at hl 3 rfl) ?_
      refine lv_bipush (v := 100) hx hb dX0_conclude_84 (by decide) ?_
      refine kc_i hw (va_runV (As := [.ref (gA g (jC p i1)), .int 100]) (rest := [.int ((t_conclude2 i1 a2 B) (4 + (f_X0_officeOf i1 (t_conclude2 i1 a2 B))) 2), .ref (gA g (jO p (f_X0_officeOf i1 (t_conclude2 i1 a2 B))))]) ⟨hx, hb, hml, hc.2.2.1, hc.2.2.2⟩ (m_X0_moveAll l g S p (t_conclude2 i1 a2 B) y hp i1 hi1 100 ⟨by decide +kernel, by decide +kernel, by decide +kernel⟩ _ _ (cn_t_conclude2 hN)) (kw_V hc 2 q426 q428 qs19 q2 q429 rfl rfl (by decide +kernel) ⟨Nat.le_of_ble_eq_true rfl, Nat.le_of_ble_eq_true rfl⟩) (kp_V hk hw (bt_B hp) rfl) rfl rfl hl.1 rfl (lv_room (Nat.le_of_ble_eq_true rfl)) dX0_conclude_86 ⟨Nat.le_of_ble_eq_true rfl, Nat.le_of_ble_eq_true rfl⟩) (fun H locs hw => ?_)
      refine lv_iadd hx hb dX0_conclude_89 ?_
      refine k_putN hc hk hw (x' := (xB S p (up2 ((f_X0_moveAll i1 100 (t_conclude2 i1 a2 B)).2) (4 + (f_X0_officeOf i1 (t_conclude2 i1 a2 B))) 2 (((t_conclude2 i1 a2 B) (4 + (f_X0_officeOf i1 (t_conclude2 i1 a2 B))) 2) + ((f_X0_moveAll i1 100 (t_conclude2 i1 a2 B)).1))) y)) (bt_O hp (lt_X0_officeOf (cn_t_conclude2 hN))) rfl iX5 tyX5 tyX5_ok nmX5 2 (by decide) nq53 rfl rfl rfl (Nat.le_of_ble_eq_true rfl) dX0_conclude_90 (bs_O hp (lt_X0_officeOf (cn_t_conclude2 hN)) (by decide)) (fun H locs hw => ?_)
      refine lv_aload_n hx hb dX0_conclude_93 rfl (lv_at hl 3 rfl) ?_
      refine k_getN hc hk hw (bt_C hp hi1) rfl iX1 2 (by decide) nq139 (v := .ref (gA g (jF p i1))) rfl dX0_conclude_94 ?_
      refine k_getN hc hk hw (bt_F hp hi1) rfl iX3 1 (by decide) nq107 (v := .int ((up2 ((f_X0_moveAll i1 100 (t_conclude2 i1 a2 B)).2) (4 + (f_X0_officeOf i1 (t_conclude2 i1 a2 B))) 2 (((t_conclude2 i1 a2 B) (4 + (f_X0_officeOf i1 (t_conclude2 i1 a2 B))) 2) + ((f_X0_moveAll i1 100 (t_conclude2 i1 a2 B)).1))) (50 + i1) 1)) rfl dX0_conclude_97 ?_
      exact W.iret (v := (up2 ((f_X0_moveAll i1 100 (t_conclude2 i1 a2 B)).2) (4 + (f_X0_officeOf i1 (t_conclude2 i1 a2 B))) 2 (((t_conclude2 i1 a2 B) (4 + (f_X0_officeOf i1 (t_conclude2 i1 a2 B))) 2) + ((f_X0_moveAll i1 100 (t_conclude2 i1 a2 B)).1))) (50 + i1) 1) hx hb hr (fun t9 ht hW => ke_i hw ht (by simp only [f_X0_conclude, if_neg h2]) (by simp only [f_X0_conclude, if_neg h2])) hw.2.2.2 dX0_conclude_100
    · refine lv_aload_n hx hb dX0_conclude_30 rfl (lv_at hl 1 rfl) ?_
      refine lv_aload_n hx hb dX0_conclude_31 rfl (lv_at hl 2 rfl) ?_
      refine lv_bipush (v := 117) hx hb dX0_conclude_32 (by decide) ?_
      refine kc_i hw (va_runV (As := [.ref (gA g (jC p i1)), .int 117]) (rest := []) ⟨hx, hb, hml, hc.2.2.1, hc.2.2.2⟩ (m_X0_moveAll l g S p (t_conclude1 i1 a2 B) y hp i1 hi1 117 ⟨by decide +kernel, by decide +kernel, by decide +kernel⟩ _ _ (cn_t_conclude1 hN)) (kw_V hc 2 q426 q428 qs19 q2 q429 rfl rfl (by decide +kernel) ⟨Nat.le_of_ble_eq_true rfl, Nat.le_of_ble_eq_true rfl⟩) (kp_V hk hw (bt_B hp) rfl) rfl rfl hl.1 rfl (lv_room (Nat.le_of_ble_eq_true rfl)) dX0_conclude_34 ⟨Nat.le_of_ble_eq_true rfl, Nat.le_of_ble_eq_true rfl⟩) (fun H locs hw => ?_)
      refine lv_pop hx hb dX0_conclude_37 rfl ?_
      refine lv_iconst (v := 0) hx hb dX0_conclude_38 (by decide) ?_
      exact W.iret (v := 0) hx hb hr (fun t9 ht hW => ke_i hw ht (by simp only [f_X0_conclude, if_pos h2]) (by simp only [f_X0_conclude, if_pos h2])) hw.2.2.2 dX0_conclude_39
  refine lv_aload_n hx hb dX0_conclude_0 rfl (lv_at hl 1 rfl) ?_
  refine k_getN hc hk hw (bt_C hp hi1) rfl iX1 1 (by decide) nq136 (v := .ref (gA g (jI p i1))) rfl dX0_conclude_1 ?_
  refine k_getN hc hk hw (bt_I hp hi1) rfl iX4 3 (by decide) nq88 (v := .int (B (30 + i1) 3)) rfl dX0_conclude_4 ?_
  refine lv_if_eq (tgt := 16) hx hb dX0_conclude_7 (by decide) (fun h3 => ?_) (fun h3 => ?_)
  · refine lv_iload_n hx hb dX0_conclude_16 rfl (lv_at hl 2 rfl) ?_
    exact J1 a2 (by simp only [j_X0_conclude_0, if_pos h3]) _ _ hw
  · refine lv_iload_n hx hb dX0_conclude_10 rfl (lv_at hl 2 rfl) ?_
    refine lv_iconst (v := 1) hx hb dX0_conclude_11 (by decide) ?_
    refine lv_ior hx hb dX0_conclude_12 ?_
    refine lv_goto (tgt := 17) hx hb dX0_conclude_13 (by decide) ?_
    exact J1 (a2 ||| 1) (by simp only [j_X0_conclude_0, if_neg h3]) _ _ hw
