/-! the face, first part -/
def e_X6_requireRange (a1 : Int32) (a2 : Int32) (a3 : Int32) : Option String :=
  (if a1 < a2 then some "java/lang/IllegalArgumentException" else (if a1 ≤ a3 then none else some "java/lang/IllegalArgumentException"))
set_option maxHeartbeats 4000000 in
set_option maxRecDepth 100000 in
theorem m_X6_requireRange (l : Launch) (g : wG) (hfl : l.stackTraces = false) (S : Nat → BT) (B : BT) (y : (Nat → Nat → Int32) × (Nat → Int64) × (Nat → UInt64)) (a1 : Int32) (a2 : Int32) (a3 : Int32) : xV l yX6_requireRange cX6_requireRange 4 ({ frames := 6, cells := 1, slots := 6, locals := 100 } : Room) 1 6 g (xB S 0 B y) [.ref (gA g 0), .int a1, .int a2, .int a3] (e_X6_requireRange a1 a2 a3) (xB S 0 B y) := by
  refine vx_ofW (cc := cX6_requireRange) (maxL := 4) (ret := none) (by decide) rfl ?_
  intro p9 e s m args below meth c s₁ BL hml hT hv
  obtain ⟨rfl, hk, hPB⟩ := hv
  have hx := BL.exec
  have hb := BL.bytes
  have hc : CX p9 c cX6_requireRange s _ m RX6 := ⟨hx, hb, findClass_of_methodNamed BL.named, fun w h => atoms_spec BL.pre w (List.mem_cons_of_mem _ h)⟩
  have hr := BL.returns
  have hlocks := BL.notSynchronized
  have hw : WS g s (xB S 0 B y) s.heap [] := ⟨hPB, va_S.rf⟩
  have hl := lv_entry ([.ref (gA g 0), .int a1, .int a2, .int a3]) (n := 4) (Nat.le_of_ble_eq_true rfl)
  rw [lg_entry_eq]
  generalize (lg_sl ([.ref (gA g 0), .int a1, .int a2, .int a3]) ++ List.replicate (4 - (lg_sl ([.ref (gA g 0), .int a1, .int a2, .int a3])).length) Slot.unset).toArray = ls at hl ⊢
  have hl : lv_has ls 4 [(0, .ref (gA g 0)), (1, .int a1), (2, .int a2), (3, .int a3)] := hl
  refine lv_iload_n hx hb dX6_requireRange_0 rfl (lv_at hl 1 rfl) ?_
  refine lv_iload_n hx hb dX6_requireRange_1 rfl (lv_at hl 2 rfl) ?_
  refine lv_icmp_lt (tgt := 10) hx hb dX6_requireRange_2 (by decide) (fun h1 => ?_) (fun h1 => ?_)
  · exact k_throwSW (text := "a number is out of range") hc hk hw hfl hT hlocks hml hl (by decide) tw_97_101 (by decide) dX6_requireRange_10 dX6_requireRange_13 dX6_requireRange_14 dX6_requireRange_17 dX6_requireRange_20 (Nat.le_of_ble_eq_true rfl) (Nat.le_of_ble_eq_true rfl) (Nat.le_of_ble_eq_true rfl) (Nat.le_of_ble_eq_true rfl) (by simp only [e_X6_requireRange, if_pos h1]) (Nat.le_of_ble_eq_true rfl) (Nat.le_of_ble_eq_true rfl)
  · refine lv_iload_n hx hb dX6_requireRange_5 rfl (lv_at hl 1 rfl) ?_
    refine lv_iload_n hx hb dX6_requireRange_6 rfl (lv_at hl 3 rfl) ?_
    refine lv_icmp_le (tgt := 21) hx hb dX6_requireRange_7 (by decide) (fun h2 => ?_) (fun h2 => ?_)
    · refine vx_ret ?_
      refine W.widen (k := 1) (n := 6) (Nat.le_of_ble_eq_true rfl) (Nat.le_of_ble_eq_true rfl) ?_
      exact W.vret hx hb hr (fun t9 ht hW => kz_v hw ht (by simp only [e_X6_requireRange, if_neg h1, if_pos h2]) rfl) hw.2.2.2 dX6_requireRange_21
    · exact k_throwSW (text := "a number is out of range") hc hk hw hfl hT hlocks hml hl (by decide) tw_97_101 (by decide) dX6_requireRange_10 dX6_requireRange_13 dX6_requireRange_14 dX6_requireRange_17 dX6_requireRange_20 (Nat.le_of_ble_eq_true rfl) (Nat.le_of_ble_eq_true rfl) (Nat.le_of_ble_eq_true rfl) (Nat.le_of_ble_eq_true rfl) (by simp only [e_X6_requireRange, if_neg h1, if_neg h2]) (Nat.le_of_ble_eq_true rfl) (Nat.le_of_ble_eq_true rfl)
def e_X6_requireOffice (a1 : Int32) (B : BT) : Option String :=
  (if a1 < 0 then some "java/lang/IndexOutOfBoundsException" else (if a1 < B 0 3 then none else some "java/lang/IndexOutOfBoundsException"))
set_option maxHeartbeats 4000000 in
set_option maxRecDepth 100000 in
theorem m_X6_requireOffice (l : Launch) (g : wG) (hfl : l.stackTraces = false) (S : Nat → BT) (B : BT) (y : (Nat → Nat → Int32) × (Nat → Int64) × (Nat → UInt64)) (a1 : Int32) (n m9 : Nat) (hN : CN B n m9) : xV l yX6_requireOffice cX6_requireOffice 2 ({ frames := 6, cells := 1, slots := 6, locals := 100 } : Room) 1 6 g (xB S 0 B y) [.ref (gA g 0), .int a1] (e_X6_requireOffice a1 B) (xB S 0 B y) := by
  refine vx_ofW (cc := cX6_requireOffice) (maxL := 2) (ret := none) (by decide) rfl ?_
  intro p9 e s m args below meth c s₁ BL hml hT hv
  obtain ⟨rfl, hk, hPB⟩ := hv
  have hx := BL.exec
  have hb := BL.bytes
  have hc : CX p9 c cX6_requireOffice s _ m RX6 := ⟨hx, hb, findClass_of_methodNamed BL.named, fun w h => atoms_spec BL.pre w (List.mem_cons_of_mem _ h)⟩
  have hr := BL.returns
  have hlocks := BL.notSynchronized
  have hw : WS g s (xB S 0 B y) s.heap [] := ⟨hPB, va_S.rf⟩
  have hl := lv_entry ([.ref (gA g 0), .int a1]) (n := 2) (Nat.le_of_ble_eq_true rfl)
  rw [lg_entry_eq]
  generalize (lg_sl ([.ref (gA g 0), .int a1]) ++ List.replicate (2 - (lg_sl ([.ref (gA g 0), .int a1])).length) Slot.unset).toArray = ls at hl ⊢
  have hl : lv_has ls 2 [(0, .ref (gA g 0)), (1, .int a1)] := hl
  refine lv_iload_n hx hb dX6_requireOffice_0 rfl (lv_at hl 1 rfl) ?_
  refine lv_if_lt (tgt := 15) hx hb dX6_requireOffice_1 (by decide) (fun h1 => ?_) (fun h1 => ?_)
  · exact k_throwSW (text := "there is no such office") hc hk hw hfl hT hlocks hml hl (by decide) tw_261_265 (by decide) dX6_requireOffice_15 dX6_requireOffice_18 dX6_requireOffice_19 dX6_requireOffice_22 dX6_requireOffice_25 (Nat.le_of_ble_eq_true rfl) (Nat.le_of_ble_eq_true rfl) (Nat.le_of_ble_eq_true rfl) (Nat.le_of_ble_eq_true rfl) (by simp only [e_X6_requireOffice, if_pos h1]) (Nat.le_of_ble_eq_true rfl) (Nat.le_of_ble_eq_true rfl)
  · refine lv_iload_n hx hb dX6_requireOffice_4 rfl (lv_at hl 1 rfl) ?_
    refine lv_aload_n hx hb dX6_requireOffice_5 rfl (lv_at hl 0 rfl) ?_
    refine k_get hc hk hw at_G rfl iX6 0 (by decide) q238 (v := .ref (gA g (jB 0))) rfl dX6_requireOffice_6 ?_
    refine k_getN hc hk hw (bt_B (by decide : 0 < 2)) rfl iX0 3 (by decide) nq207 (v := .int (B 0 3)) rfl dX6_requireOffice_9 ?_
    refine lv_icmp_lt (tgt := 26) hx hb dX6_requireOffice_12 (by decide) (fun h2 => ?_) (fun h2 => ?_)
    · refine vx_ret ?_
      refine W.widen (k := 1) (n := 6) (Nat.le_of_ble_eq_true rfl) (Nat.le_of_ble_eq_true rfl) ?_
      exact W.vret hx hb hr (fun t9 ht hW => kz_v hw ht (by simp only [e_X6_requireOffice, if_neg h1, if_pos h2]) rfl) hw.2.2.2 dX6_requireOffice_26
    · exact k_throwSW (text := "there is no such office") hc hk hw hfl hT hlocks hml hl (by decide) tw_261_265 (by decide) dX6_requireOffice_15 dX6_requireOffice_18 dX6_requireOffice_19 dX6_requireOffice_22 dX6_requireOffice_25 (Nat.le_of_ble_eq_true rfl) (Nat.le_of_ble_eq_true rfl) (Nat.le_of_ble_eq_true rfl) (Nat.le_of_ble_eq_true rfl) (by simp only [e_X6_requireOffice, if_neg h1, if_neg h2]) (Nat.le_of_ble_eq_true rfl) (Nat.le_of_ble_eq_true rfl)
def f_X6_known (a1 : Int32) (B : BT) : Nat :=
  (if a1 < 0 then 0 else (if a1 < B 0 4 then (a1).toNatClampNeg else 0))
def e_X6_known (a1 : Int32) (B : BT) : Option String :=
  (if a1 < 0 then some "java/lang/IndexOutOfBoundsException" else (if a1 < B 0 4 then none else some "java/lang/IndexOutOfBoundsException"))
set_option maxHeartbeats 4000000 in
set_option maxRecDepth 100000 in
theorem m_X6_known (l : Launch) (g : wG) (hfl : l.stackTraces = false) (S : Nat → BT) (B : BT) (y : (Nat → Nat → Int32) × (Nat → Int64) × (Nat → UInt64)) (a1 : Int32) (n m9 : Nat) (hN : CN B n m9) : xR l yX6_known cX6_known 2 (some (.object "GrievanceOmbud$Complaint")) ({ frames := 6, cells := 1, slots := 6, locals := 100 } : Room) 1 6 g (xB S 0 B y) [.ref (gA g 0), .int a1] (e_X6_known a1 B) (gA g (jC 0 (f_X6_known a1 B))) (xB S 0 B y) := by
  refine vx_ofW (cc := cX6_known) (maxL := 2) (ret := some (.object "GrievanceOmbud$Complaint")) (by decide) rfl ?_
  intro p9 e s m args below meth c s₁ BL hml hT hv
  obtain ⟨rfl, hk, hPB⟩ := hv
  have hx := BL.exec
  have hb := BL.bytes
  have hc : CX p9 c cX6_known s _ m RX6 := ⟨hx, hb, findClass_of_methodNamed BL.named, fun w h => atoms_spec BL.pre w (List.mem_cons_of_mem _ h)⟩
  have hr := BL.returns
  have hlocks := BL.notSynchronized
  have hw : WS g s (xB S 0 B y) s.heap [] := ⟨hPB, va_S.rf⟩
  have hl := lv_entry ([.ref (gA g 0), .int a1]) (n := 2) (Nat.le_of_ble_eq_true rfl)
  rw [lg_entry_eq]
  generalize (lg_sl ([.ref (gA g 0), .int a1]) ++ List.replicate (2 - (lg_sl ([.ref (gA g 0), .int a1])).length) Slot.unset).toArray = ls at hl ⊢
  have hl : lv_has ls 2 [(0, .ref (gA g 0)), (1, .int a1)] := hl
  refine lv_iload_n hx hb dX6_known_0 rfl (lv_at hl 1 rfl) ?_
  refine lv_if_lt (tgt := 15) hx hb dX6_known_1 (by decide) (fun h1 => ?_) (fun h1 => ?_)
  · exact k_throwSW (text := "there is no such complaint") hc hk hw hfl hT hlocks hml hl (by decide) tw_261_265 (by decide) dX6_known_15 dX6_known_18 dX6_known_19 dX6_known_22 dX6_known_25 (Nat.le_of_ble_eq_true rfl) (Nat.le_of_ble_eq_true rfl) (Nat.le_of_ble_eq_true rfl) (Nat.le_of_ble_eq_true rfl) (by simp only [e_X6_known, if_pos h1]) (Nat.le_of_ble_eq_true rfl) (Nat.le_of_ble_eq_true rfl)
  · refine lv_iload_n hx hb dX6_known_4 rfl (lv_at hl 1 rfl) ?_
    refine lv_aload_n hx hb dX6_known_5 rfl (lv_at hl 0 rfl) ?_
    refine k_get hc hk hw at_G rfl iX6 0 (by decide) q238 (v := .ref (gA g (jB 0))) rfl dX6_known_6 ?_
    refine k_getN hc hk hw (bt_B (by decide : 0 < 2)) rfl iX0 4 (by decide) nq209 (v := .int (B 0 4)) rfl dX6_known_9 ?_
    refine lv_icmp_lt (tgt := 26) hx hb dX6_known_12 (by decide) (fun h2 => ?_) (fun h2 => ?_)
    · refine lv_aload_n hx hb dX6_known_26 rfl (lv_at hl 0 rfl) ?_
      refine k_get hc hk hw at_G rfl iX6 0 (by decide) q238 (v := .ref (gA g (jB 0))) rfl dX6_known_27 ?_
      refine k_getN hc hk hw (bt_B (by decide : 0 < 2)) rfl iX0 1 (by decide) nq204 (v := .ref (gA g (jCs 0))) rfl dX6_known_30 ?_
      refine lv_iload_n hx hb dX6_known_33 rfl (lv_at hl 1 rfl) ?_
      refine k_ald (t0 := 5) (f := fun k => gA g (jC 0 k)) (n := ((a1).toNatClampNeg)) hc hk hw rfl (at_Cs (by decide : 0 < 2)) (vinC h1 (i32_nle h2) hN.2.1 (by have := hN.2.2.2.1; omega) (by omega)).1 rfl dX6_known_34 ?_
      refine vx_ret ?_
      refine W.widen (k := 1) (n := 6) (Nat.le_of_ble_eq_true rfl) (Nat.le_of_ble_eq_true rfl) ?_
      exact W.aret (v := .ref (gA g (jC 0 ((a1).toNatClampNeg)))) hx hb hr (Or.inl ⟨_, rfl⟩) (Or.inr ⟨_, rfl⟩) (fun t9 ht hW => kz_r hw ht (by simp only [e_X6_known, if_neg h1, if_pos h2]) (by simp only [f_X6_known, if_neg h1, if_pos h2]) rfl) hw.2.2.2 dX6_known_35
    · exact k_throwSW (text := "there is no such complaint") hc hk hw hfl hT hlocks hml hl (by decide) tw_261_265 (by decide) dX6_known_15 dX6_known_18 dX6_known_19 dX6_known_22 dX6_known_25 (Nat.le_of_ble_eq_true rfl) (Nat.le_of_ble_eq_true rfl) (Nat.le_of_ble_eq_true rfl) (Nat.le_of_ble_eq_true rfl) (by simp only [e_X6_known, if_neg h1, if_neg h2]) (Nat.le_of_ble_eq_true rfl) (Nat.le_of_ble_eq_true rfl)
theorem lt_X6_known {a1 : Int32} {B : BT} {n m9 : Nat} (hN : CN B n m9) : f_X6_known a1 B < 20 := by
  unfold f_X6_known
  by_cases h1 : a1 < 0
  · rw [if_pos h1]; omega
  · rw [if_neg h1]
    by_cases h2 : a1 < B 0 4
    · rw [if_pos h2]
      have := (vinC h1 (i32_nle h2) hN.2.1 (Nat.le_refl _) (by have := hN.2.2.2.1; omega)).2
      have := hN.2.2.2.1
      omega
    · rw [if_neg h2]; omega
def e_X6_requireAtIntake (i1 : Nat) (B : BT) : Option String :=
  (if B (10 + i1) 11 = 110 then none else (if B (10 + i1) 11 = 102 then none else some "java/lang/UnsupportedOperationException"))
set_option maxHeartbeats 4000000 in
set_option maxRecDepth 100000 in
theorem m_X6_requireAtIntake (l : Launch) (g : wG) (hfl : l.stackTraces = false) (S : Nat → BT) (B : BT) (y : (Nat → Nat → Int32) × (Nat → Int64) × (Nat → UInt64)) (i1 : Nat) (hi1 : i1 < 20) : xV l yX6_requireAtIntake cX6_requireAtIntake 2 ({ frames := 6, cells := 1, slots := 6, locals := 100 } : Room) 1 6 g (xB S 0 B y) [.ref (gA g 0), .ref (gA g (jC 0 i1))] (e_X6_requireAtIntake i1 B) (xB S 0 B y) := by
  refine vx_ofW (cc := cX6_requireAtIntake) (maxL := 2) (ret := none) (by decide) rfl ?_
  intro p9 e s m args below meth c s₁ BL hml hT hv
  obtain ⟨rfl, hk, hPB⟩ := hv
  have hx := BL.exec
  have hb := BL.bytes
  have hc : CX p9 c cX6_requireAtIntake s _ m RX6 := ⟨hx, hb, findClass_of_methodNamed BL.named, fun w h => atoms_spec BL.pre w (List.mem_cons_of_mem _ h)⟩
  have hr := BL.returns
  have hlocks := BL.notSynchronized
  have hw : WS g s (xB S 0 B y) s.heap [] := ⟨hPB, va_S.rf⟩
  have hl := lv_entry ([.ref (gA g 0), .ref (gA g (jC 0 i1))]) (n := 2) (Nat.le_of_ble_eq_true rfl)
  rw [lg_entry_eq]
  generalize (lg_sl ([.ref (gA g 0), .ref (gA g (jC 0 i1))]) ++ List.replicate (2 - (lg_sl ([.ref (gA g 0), .ref (gA g (jC 0 i1))])).length) Slot.unset).toArray = ls at hl ⊢
  have hl : lv_has ls 2 [(0, .ref (gA g 0)), (1, .ref (gA g (jC 0 i1)))] := hl
  refine lv_aload_n hx hb dX6_requireAtIntake_0 rfl (lv_at hl 1 rfl) ?_
  refine k_getN hc hk hw (bt_C (by decide : 0 < 2) hi1) rfl iX1 11 (by decide) nq160 (v := .int (B (10 + i1) 11)) rfl dX6_requireAtIntake_1 ?_
  refine lv_bipush (v := 110) hx hb dX6_requireAtIntake_4 (by decide) ?_
  refine lv_icmp_eq (tgt := 29) hx hb dX6_requireAtIntake_6 (by decide) (fun h1 => ?_) (fun h1 => ?_)
  · refine vx_ret ?_
    refine W.widen (k := 1) (n := 6) (Nat.le_of_ble_eq_true rfl) (Nat.le_of_ble_eq_true rfl) ?_
    exact W.vret hx hb hr (fun t9 ht hW => kz_v hw ht (by simp only [e_X6_requireAtIntake, if_pos h1]) rfl) hw.2.2.2 dX6_requireAtIntake_29
  · refine lv_aload_n hx hb dX6_requireAtIntake_9 rfl (lv_at hl 1 rfl) ?_
    refine k_getN hc hk hw (bt_C (by decide : 0 < 2) hi1) rfl iX1 11 (by decide) nq160 (v := .int (B (10 + i1) 11)) rfl dX6_requireAtIntake_10 ?_
    refine lv_bipush (v := 102) hx hb dX6_requireAtIntake_13 (by decide) ?_
    refine lv_icmp_eq (tgt := 29) hx hb dX6_requireAtIntake_15 (by decide) (fun h2 => ?_) (fun h2 => ?_)
    · refine vx_ret ?_
      refine W.widen (k := 1) (n := 6) (Nat.le_of_ble_eq_true rfl) (Nat.le_of_ble_eq_true rfl) ?_
      exact W.vret hx hb hr (fun t9 ht hW => kz_v hw ht (by simp only [e_X6_requireAtIntake, if_neg h1, if_pos h2]) rfl) hw.2.2.2 dX6_requireAtIntake_29
    · exact k_throwSW (text := "it is neither new, nor lacks its first step") hc hk hw hfl hT hlocks hml hl (by decide) tw_80_84 (by decide) dX6_requireAtIntake_18 dX6_requireAtIntake_21 dX6_requireAtIntake_22 dX6_requireAtIntake_25 dX6_requireAtIntake_28 (Nat.le_of_ble_eq_true rfl) (Nat.le_of_ble_eq_true rfl) (Nat.le_of_ble_eq_true rfl) (Nat.le_of_ble_eq_true rfl) (by simp only [e_X6_requireAtIntake, if_neg h1, if_neg h2]) (Nat.le_of_ble_eq_true rfl) (Nat.le_of_ble_eq_true rfl)
def e_X6_requireOwn (i1 : Nat) (a2 : Int32) (B : BT) : Option String :=
  (if f_X1_isJoined i1 B = 0 then (if B (10 + i1) 11 = a2 then none else some "java/lang/UnsupportedOperationException") else some "java/lang/UnsupportedOperationException")
set_option maxHeartbeats 4000000 in
set_option maxRecDepth 100000 in
theorem m_X6_requireOwn (l : Launch) (g : wG) (hfl : l.stackTraces = false) (S : Nat → BT) (B : BT) (y : (Nat → Nat → Int32) × (Nat → Int64) × (Nat → UInt64)) (i1 : Nat) (hi1 : i1 < 20) (a2 : Int32) : xV l yX6_requireOwn cX6_requireOwn 3 ({ frames := 6, cells := 1, slots := 6, locals := 100 } : Room) 1 6 g (xB S 0 B y) [.ref (gA g 0), .ref (gA g (jC 0 i1)), .int a2] (e_X6_requireOwn i1 a2 B) (xB S 0 B y) := by
  refine vx_ofW (cc := cX6_requireOwn) (maxL := 3) (ret := none) (by decide) rfl ?_
  intro p9 e s m args below meth c s₁ BL hml hT hv
  obtain ⟨rfl, hk, hPB⟩ := hv
  have hx := BL.exec
  have hb := BL.bytes
  have hc : CX p9 c cX6_requireOwn s _ m RX6 := ⟨hx, hb, findClass_of_methodNamed BL.named, fun w h => atoms_spec BL.pre w (List.mem_cons_of_mem _ h)⟩
  have hr := BL.returns
  have hlocks := BL.notSynchronized
  have hw : WS g s (xB S 0 B y) s.heap [] := ⟨hPB, va_S.rf⟩
  have hl := lv_entry ([.ref (gA g 0), .ref (gA g (jC 0 i1)), .int a2]) (n := 3) (Nat.le_of_ble_eq_true rfl)
  rw [lg_entry_eq]
  generalize (lg_sl ([.ref (gA g 0), .ref (gA g (jC 0 i1)), .int a2]) ++ List.replicate (3 - (lg_sl ([.ref (gA g 0), .ref (gA g (jC 0 i1)), .int a2])).length) Slot.unset).toArray = ls at hl ⊢
  have hl : lv_has ls 3 [(0, .ref (gA g 0)), (1, .ref (gA g (jC 0 i1))), (2, .int a2)] := hl
  refine lv_aload_n hx hb dX6_requireOwn_0 rfl (lv_at hl 1 rfl) ?_
  refine kc_i hw (va_runVN (As := []) (rest := []) ⟨hx, hb, hml, hc.2.2.1, hc.2.2.2⟩ (m_X1_isJoined l g S 0 B y (by decide : 0 < 2) i1 hi1) ⟨kw_N hc hk 0 nq760 q4 q763 rfl rfl (by decide +kernel) ⟨Nat.le_of_ble_eq_true rfl, Nat.le_of_ble_eq_true rfl⟩, hc.2.2.2 _ q762, hc.2.2.2 _ qs51⟩ (kp_V hk hw (bt_C (by decide : 0 < 2) hi1) rfl) rfl rfl hl.1 rfl (lv_room (Nat.le_of_ble_eq_true rfl)) dX6_requireOwn_1 ⟨Nat.le_of_ble_eq_true rfl, Nat.le_of_ble_eq_true rfl⟩) (fun H locs hw => ?_)
  refine lv_if_ne (tgt := 15) hx hb dX6_requireOwn_4 (by decide) (fun h1 => ?_) (fun h1 => ?_)
  · exact k_throwSW (text := "it is joined to another one or does not stand so") hc hk hw hfl hT hlocks hml hl (by decide) tw_80_84 (by decide) dX6_requireOwn_15 dX6_requireOwn_18 dX6_requireOwn_19 dX6_requireOwn_22 dX6_requireOwn_25 (Nat.le_of_ble_eq_true rfl) (Nat.le_of_ble_eq_true rfl) (Nat.le_of_ble_eq_true rfl) (Nat.le_of_ble_eq_true rfl) (by simp only [e_X6_requireOwn, if_neg h1]) (Nat.le_of_ble_eq_true rfl) (Nat.le_of_ble_eq_true rfl)
  · refine lv_aload_n hx hb dX6_requireOwn_7 rfl (lv_at hl 1 rfl) ?_
    refine k_getN hc hk hw (bt_C (by decide : 0 < 2) hi1) rfl iX1 11 (by decide) nq160 (v := .int (B (10 + i1) 11)) rfl dX6_requireOwn_8 ?_
    refine lv_iload_n hx hb dX6_requireOwn_11 rfl (lv_at hl 2 rfl) ?_
    refine lv_icmp_eq (tgt := 26) hx hb dX6_requireOwn_12 (by decide) (fun h2 => ?_) (fun h2 => ?_)
    · refine vx_ret ?_
      refine W.widen (k := 1) (n := 6) (Nat.le_of_ble_eq_true rfl) (Nat.le_of_ble_eq_true rfl) ?_
      exact W.vret hx hb hr (fun t9 ht hW => kz_v hw ht (by simp only [e_X6_requireOwn, if_pos h1, if_pos h2]) rfl) hw.2.2.2 dX6_requireOwn_26
    · exact k_throwSW (text := "it is joined to another one or does not stand so") hc hk hw hfl hT hlocks hml hl (by decide) tw_80_84 (by decide) dX6_requireOwn_15 dX6_requireOwn_18 dX6_requireOwn_19 dX6_requireOwn_22 dX6_requireOwn_25 (Nat.le_of_ble_eq_true rfl) (Nat.le_of_ble_eq_true rfl) (Nat.le_of_ble_eq_true rfl) (Nat.le_of_ble_eq_true rfl) (by simp only [e_X6_requireOwn, if_pos h1, if_neg h2]) (Nat.le_of_ble_eq_true rfl) (Nat.le_of_ble_eq_true rfl)
theorem ups3_0 (S : Nat → BT) (B : BT) (c k : Nat) (v : Int32) : ups3 (va_up S 0 B) c k v = va_up (ups3 S c k v) 0 B := by
  funext j
  by_cases h : j = 2
  · subst h; simp [ups3, va_up]
  · by_cases h0 : j = 0
    · subst h0; simp [ups3, va_up]
    · simp [ups3, va_up, h, h0]
theorem keep_up (a1 a2 a3 a4 a5 : Int32) (S : Nat → BT) (B : BT) : f_X2_keep a1 a2 a3 a4 a5 (va_up S 0 B) = va_up (f_X2_keep a1 a2 a3 a4 a5 S) 0 B := by
  have e : (va_up S 0 B) 2 = S 2 := rfl
  unfold f_X2_keep
  rw [e]
  by_cases h : S 2 0 1 < 512
  · rw [if_pos h, if_pos h]
    simp only [ups3_0]
    rfl
  · rw [if_neg h, if_neg h]
def f_X6_happen (a1 : Int32) (a2 : Int32) (a3 : Int32) (B : BT) : Int32 × BT :=
  ((f_X0_apply a1 a2 a3 0 0 B).1, (f_X0_apply a1 a2 a3 0 0 B).2)
set_option maxHeartbeats 4000000 in
set_option maxRecDepth 100000 in
theorem m_X6_happen (l : Launch) (g : wG) (S : Nat → BT) (B : BT) (y : (Nat → Nat → Int32) × (Nat → Int64) × (Nat → UInt64)) (a1 : Int32) (a2 : Int32) (a3 : Int32) (n m9 : Nat) (hN : CN B n m9) (hev : ¬ S 2 0 1 < 0) : mI l yX6_happen cX6_happen 4 (some .int) ({ frames := 9, cells := 0, slots := 0, locals := 209 } : Room) 0 0 g (xB S 0 B y) [.ref (gA g 0), .int a1, .int a2, .int a3] ((f_X6_happen a1 a2 a3 B).1) (xB (f_X2_keep a1 a2 a3 0 0 S) 0 (f_X6_happen a1 a2 a3 B).2 y) := by
  refine Met.ofW (cc := cX6_happen) (maxL := 4) (ret := some .int) (by decide) rfl ?_
  intro p9 e s m args below meth c s₁ BL hml hv
  obtain ⟨rfl, hk, hPB⟩ := hv
  have hx := BL.exec
  have hb := BL.bytes
  have hc : CX p9 c cX6_happen s _ m RX6 := ⟨hx, hb, findClass_of_methodNamed BL.named, fun w h => atoms_spec BL.pre w (List.mem_cons_of_mem _ h)⟩
  have hr := BL.returns
  have hlocks := BL.notSynchronized
  have hw : WS g s (xB S 0 B y) s.heap [] := ⟨hPB, va_S.rf⟩
  have hl := lv_entry ([.ref (gA g 0), .int a1, .int a2, .int a3]) (n := 4) (Nat.le_of_ble_eq_true rfl)
  rw [lg_entry_eq]
  generalize (lg_sl ([.ref (gA g 0), .int a1, .int a2, .int a3]) ++ List.replicate (4 - (lg_sl ([.ref (gA g 0), .int a1, .int a2, .int a3])).length) Slot.unset).toArray = ls at hl ⊢
  have hl : lv_has ls 4 [(0, .ref (gA g 0)), (1, .int a1), (2, .int a2), (3, .int a3)] := hl
  refine lv_aload_n hx hb dX6_happen_0 rfl (lv_at hl 0 rfl) ?_
  refine k_get hc hk hw at_G rfl iX6 2 (by decide) q240 (v := .ref (gA g 1)) rfl dX6_happen_1 ?_
  refine lv_iload_n hx hb dX6_happen_4 rfl (lv_at hl 1 rfl) ?_
  refine lv_iload_n hx hb dX6_happen_5 rfl (lv_at hl 2 rfl) ?_
  refine lv_iload_n hx hb dX6_happen_6 rfl (lv_at hl 3 rfl) ?_
  refine lv_iconst (v := 0) hx hb dX6_happen_7 (by decide) ?_
  refine lv_iconst (v := 0) hx hb dX6_happen_8 (by decide) ?_
  refine kc_v hw (va_runVN (As := [.int a1, .int a2, .int a3, .int 0, .int 0]) (rest := []) ⟨hx, hb, hml, hc.2.2.1, hc.2.2.2⟩ (m_X2_keep l g (va_up S 0 B) y a1 a2 a3 0 0 hev) ⟨kw_N hc hk 5 nq656 q7 q659 rfl rfl (by decide +kernel) ⟨Nat.le_of_ble_eq_true rfl, Nat.le_of_ble_eq_true rfl⟩, hc.2.2.2 _ q658, hc.2.2.2 _ qs44⟩ (kp_V hk hw at_E rfl) rfl rfl hl.1 rfl (lv_room (Nat.le_of_ble_eq_true rfl)) dX6_happen_9 ⟨Nat.le_of_ble_eq_true rfl, Nat.le_of_ble_eq_true rfl⟩) (fun H locs hw => ?_)
  rw [keep_up] at hw
  refine lv_aload_n hx hb dX6_happen_12 rfl (lv_at hl 0 rfl) ?_
  refine k_get hc hk hw at_G rfl iX6 0 (by decide) q238 (v := .ref (gA g (jB 0))) rfl dX6_happen_13 ?_
  refine lv_iload_n hx hb dX6_happen_16 rfl (lv_at hl 1 rfl) ?_
  refine lv_iload_n hx hb dX6_happen_17 rfl (lv_at hl 2 rfl) ?_
  refine lv_iload_n hx hb dX6_happen_18 rfl (lv_at hl 3 rfl) ?_
  refine lv_iconst (v := 0) hx hb dX6_happen_19 (by decide) ?_
  refine lv_iconst (v := 0) hx hb dX6_happen_20 (by decide) ?_
  refine kc_i hw (va_runVN (As := [.int a1, .int a2, .int a3, .int 0, .int 0]) (rest := []) ⟨hx, hb, hml, hc.2.2.1, hc.2.2.2⟩ (m_X0_apply l g (f_X2_keep a1 a2 a3 0 0 S) 0 B y (by decide : 0 < 2) a1 a2 a3 0 0 _ _ hN) ⟨kw_N hc hk 5 nq660 q2 q277 rfl rfl (by decide +kernel) ⟨Nat.le_of_ble_eq_true rfl, Nat.le_of_ble_eq_true rfl⟩, hc.2.2.2 _ q276, hc.2.2.2 _ qs3⟩ (kp_V hk hw (bt_B (by decide : 0 < 2)) rfl) rfl rfl hl.1 rfl (lv_room (Nat.le_of_ble_eq_true rfl)) dX6_happen_21 ⟨Nat.le_of_ble_eq_true rfl, Nat.le_of_ble_eq_true rfl⟩) (fun H locs hw => ?_)
  exact W.iret (v := (f_X0_apply a1 a2 a3 0 0 B).1) hx hb hr (fun t9 ht hW => ke_i hw ht (by simp only [f_X6_happen]) (by simp only [f_X6_happen])) hw.2.2.2 dX6_happen_24
def f_X6_today  (B : BT) : Int32 :=
  B 0 5
set_option maxHeartbeats 4000000 in
set_option maxRecDepth 100000 in
theorem m_X6_today (l : Launch) (g : wG) (S : Nat → BT) (B : BT) (y : (Nat → Nat → Int32) × (Nat → Int64) × (Nat → UInt64)) (n m9 : Nat) (hN : CN B n m9) : mI l yX6_today cX6_today 1 (some .int) ({ frames := 0, cells := 0, slots := 0, locals := 0 } : Room) 0 0 g (xB S 0 B y) [.ref (gA g 0)] (f_X6_today B) (xB S 0 B y) := by
  refine Met.ofW (cc := cX6_today) (maxL := 1) (ret := some .int) (by decide) rfl ?_
  intro p9 e s m args below meth c s₁ BL hml hv
  obtain ⟨rfl, hk, hPB⟩ := hv
  have hx := BL.exec
  have hb := BL.bytes
  have hc : CX p9 c cX6_today s _ m RX6 := ⟨hx, hb, findClass_of_methodNamed BL.named, fun w h => atoms_spec BL.pre w (List.mem_cons_of_mem _ h)⟩
  have hr := BL.returns
  have hlocks := BL.notSynchronized
  have hw : WS g s (xB S 0 B y) s.heap [] := ⟨hPB, va_S.rf⟩
  have hl := lv_entry ([.ref (gA g 0)]) (n := 1) (Nat.le_of_ble_eq_true rfl)
  rw [lg_entry_eq]
  generalize (lg_sl ([.ref (gA g 0)]) ++ List.replicate (1 - (lg_sl ([.ref (gA g 0)])).length) Slot.unset).toArray = ls at hl ⊢
  have hl : lv_has ls 1 [(0, .ref (gA g 0))] := hl
  refine lv_aload_n hx hb dX6_today_0 rfl (lv_at hl 0 rfl) ?_
  refine k_get hc hk hw at_G rfl iX6 0 (by decide) q238 (v := .ref (gA g (jB 0))) rfl dX6_today_1 ?_
  refine k_getN hc hk hw (bt_B (by decide : 0 < 2)) rfl iX0 5 (by decide) nq211 (v := .int (B 0 5)) rfl dX6_today_4 ?_
  exact W.iret (v := B 0 5) hx hb hr (fun t9 ht hW => ke_i hw ht (by simp only [f_X6_today]) rfl) hw.2.2.2 dX6_today_7
def f_X6_addOffice (a1 : Int32) (a2 : Int32) (B : BT) : Int32 × BT :=
  (if e_X6_requireRange a1 1 60 = none then (if e_X6_requireRange a2 0 1023 = none then (if B 0 3 < 6 then ((f_X6_happen 1 a1 a2 B).1, (f_X6_happen 1 a1 a2 B).2) else (0, B)) else (0, B)) else (0, B))
def e_X6_addOffice (a1 : Int32) (a2 : Int32) (B : BT) : Option String :=
  (if e_X6_requireRange a1 1 60 = none then (if e_X6_requireRange a2 0 1023 = none then (if B 0 3 < 6 then none else some "java/lang/IllegalStateException") else e_X6_requireRange a2 0 1023) else e_X6_requireRange a1 1 60)
set_option maxHeartbeats 4000000 in
set_option maxRecDepth 100000 in
theorem m_X6_addOffice (l : Launch) (g : wG) (hfl : l.stackTraces = false) (S : Nat → BT) (B : BT) (y : (Nat → Nat → Int32) × (Nat → Int64) × (Nat → UInt64)) (a1 : Int32) (a2 : Int32) (n m9 : Nat) (hN : CN B n m9) (hev : ¬ S 2 0 1 < 0) : xI l yX6_addOffice cX6_addOffice 3 (some .int) ({ frames := 10, cells := 3, slots := 18, locals := 232 } : Room) 3 18 g (xB S 0 B y) [.ref (gA g 0), .int a1, .int a2] (e_X6_addOffice a1 a2 B) ((f_X6_addOffice a1 a2 B).1) (xB (f_X2_keep 1 a1 a2 0 0 S) 0 (f_X6_addOffice a1 a2 B).2 y) := by
  refine vx_ofW (cc := cX6_addOffice) (maxL := 3) (ret := some .int) (by decide) rfl ?_
  intro p9 e s m args below meth c s₁ BL hml hT hv
  obtain ⟨rfl, hk, hPB⟩ := hv
  have hx := BL.exec
  have hb := BL.bytes
  have hc : CX p9 c cX6_addOffice s _ m RX6 := ⟨hx, hb, findClass_of_methodNamed BL.named, fun w h => atoms_spec BL.pre w (List.mem_cons_of_mem _ h)⟩
  have hr := BL.returns
  have hlocks := BL.notSynchronized
  have hw : WS g s (xB S 0 B y) s.heap [] := ⟨hPB, va_S.rf⟩
  have hl := lv_entry ([.ref (gA g 0), .int a1, .int a2]) (n := 3) (Nat.le_of_ble_eq_true rfl)
  rw [lg_entry_eq]
  generalize (lg_sl ([.ref (gA g 0), .int a1, .int a2]) ++ List.replicate (3 - (lg_sl ([.ref (gA g 0), .int a1, .int a2])).length) Slot.unset).toArray = ls at hl ⊢
  have hl : lv_has ls 3 [(0, .ref (gA g 0)), (1, .int a1), (2, .int a2)] := hl
  refine lv_aload_n hx hb dX6_addOffice_0 rfl (lv_at hl 0 rfl) ?_
  refine lv_iload_n hx hb dX6_addOffice_1 rfl (lv_at hl 1 rfl) ?_
  refine lv_iconst (v := 1) hx hb dX6_addOffice_2 (by decide) ?_
  refine lv_bipush (v := 60) hx hb dX6_addOffice_3 (by decide) ?_
  refine kx_v hw (vx_runV (As := [.int a1, .int 1, .int 60]) (rest := []) ⟨hx, hb, hml, hc.2.2.1, hc.2.2.2⟩ (m_X6_requireRange l g hfl S B y a1 1 60) (kw_V hc 3 q616 q618 qs42 q1 q619 rfl rfl (by decide +kernel) ⟨Nat.le_of_ble_eq_true rfl, Nat.le_of_ble_eq_true rfl⟩) (kp_V hk hw at_G rfl) rfl rfl hl.1 rfl (lv_room (Nat.le_of_ble_eq_true rfl)) dX6_addOffice_5 ⟨Nat.le_of_ble_eq_true rfl, Nat.le_of_ble_eq_true rfl⟩) (fun E ce q8 H locs h1 hw hq hv hE => ?_) (fun H locs h1 hw => ?_)
  · have hn : ¬ e_X6_requireRange a1 1 60 = none := by rw [h1]; exact Option.some_ne_none _
    exact k_out hT hlocks hw hq hv hE (Eq.trans (b := e_X6_requireRange a1 1 60) (by simp only [e_X6_addOffice, if_neg hn]) h1) (Nat.le_of_ble_eq_true rfl) (Nat.le_of_ble_eq_true rfl)
  · refine lv_aload_n hx hb dX6_addOffice_8 rfl (lv_at hl 0 rfl) ?_
    refine lv_iload_n hx hb dX6_addOffice_9 rfl (lv_at hl 2 rfl) ?_
    refine lv_iconst (v := 0) hx hb dX6_addOffice_10 (by decide) ?_
    refine lv_sipush (v := 1023) hx hb dX6_addOffice_11 (by decide) ?_
    refine kx_v hw (vx_runV (As := [.int a2, .int 0, .int 1023]) (rest := []) ⟨hx, hb, hml, hc.2.2.1, hc.2.2.2⟩ (m_X6_requireRange l g hfl S B y a2 0 1023) (kw_V hc 3 q616 q618 qs42 q1 q619 rfl rfl (by decide +kernel) ⟨Nat.le_of_ble_eq_true rfl, Nat.le_of_ble_eq_true rfl⟩) (kp_V hk hw at_G rfl) rfl rfl hl.1 rfl (lv_room (Nat.le_of_ble_eq_true rfl)) dX6_addOffice_14 ⟨Nat.le_of_ble_eq_true rfl, Nat.le_of_ble_eq_true rfl⟩) (fun E ce q8 H locs h3 hw hq hv hE => ?_) (fun H locs h3 hw => ?_)
    · have hn : ¬ e_X6_requireRange a2 0 1023 = none := by rw [h3]; exact Option.some_ne_none _
      exact k_out hT hlocks hw hq hv hE (Eq.trans (b := e_X6_requireRange a2 0 1023) (by simp only [e_X6_addOffice, if_pos h1, if_neg hn]) h3) (Nat.le_of_ble_eq_true rfl) (Nat.le_of_ble_eq_true rfl)
    · refine lv_aload_n hx hb dX6_addOffice_17 rfl (lv_at hl 0 rfl) ?_
      refine k_get hc hk hw at_G rfl iX6 0 (by decide) q238 (v := .ref (gA g (jB 0))) rfl dX6_addOffice_18 ?_
      refine k_getN hc hk hw (bt_B (by decide : 0 < 2)) rfl iX0 3 (by decide) nq207 (v := .int (B 0 3)) rfl dX6_addOffice_21 ?_
      refine lv_bipush (v := 6) hx hb dX6_addOffice_24 (by decide) ?_
      refine lv_icmp_lt (tgt := 39) hx hb dX6_addOffice_26 (by decide) (fun h5 => ?_) (fun h5 => ?_)
      · refine lv_aload_n hx hb dX6_addOffice_39 rfl (lv_at hl 0 rfl) ?_
        refine lv_iconst (v := 1) hx hb dX6_addOffice_40 (by decide) ?_
        refine lv_iload_n hx hb dX6_addOffice_41 rfl (lv_at hl 1 rfl) ?_
        refine lv_iload_n hx hb dX6_addOffice_42 rfl (lv_at hl 2 rfl) ?_
        refine kc_i hw (va_runV (As := [.int 1, .int a1, .int a2]) (rest := []) ⟨hx, hb, hml, hc.2.2.1, hc.2.2.2⟩ (m_X6_happen l g S B y 1 a1 a2 _ _ hN hev) (kw_V hc 3 q652 q654 qs43 q1 q655 rfl rfl (by decide +kernel) ⟨Nat.le_of_ble_eq_true rfl, Nat.le_of_ble_eq_true rfl⟩) (kp_V hk hw at_G rfl) rfl rfl hl.1 rfl (lv_room (Nat.le_of_ble_eq_true rfl)) dX6_addOffice_43 ⟨Nat.le_of_ble_eq_true rfl, Nat.le_of_ble_eq_true rfl⟩) (fun H locs hw => ?_)
        refine vx_ret ?_
        refine W.widen (k := 3) (n := 18) (Nat.le_of_ble_eq_true rfl) (Nat.le_of_ble_eq_true rfl) ?_
        exact W.iret (v := (f_X6_happen 1 a1 a2 B).1) hx hb hr (fun t9 ht hW => kz_i hw ht (by simp only [e_X6_addOffice, if_pos h1, if_pos h3, if_pos h5]) (by simp only [f_X6_addOffice, if_pos h1, if_pos h3, if_pos h5]) (by simp only [f_X6_addOffice, if_pos h1, if_pos h3, if_pos h5])) hw.2.2.2 dX6_addOffice_46
      · exact k_throwS (text := "there are 6 offices") hc hk hw hfl hT hlocks hml hl (by decide) tw_34_38 (by decide) dX6_addOffice_29 dX6_addOffice_32 dX6_addOffice_33 dX6_addOffice_35 dX6_addOffice_38 (Nat.le_of_ble_eq_true rfl) (Nat.le_of_ble_eq_true rfl) (Nat.le_of_ble_eq_true rfl) (Nat.le_of_ble_eq_true rfl) (by simp only [e_X6_addOffice, if_pos h1, if_pos h3, if_neg h5]) (Nat.le_of_ble_eq_true rfl) (Nat.le_of_ble_eq_true rfl)
def f_X6_pass (a1 : Int32) (B : BT) : Int32 × BT :=
  (if e_X6_requireRange a1 1 400 = none then (if (B 0 5) + a1 ≤ 9999 then ((f_X6_happen 2 a1 0 B).1, (f_X6_happen 2 a1 0 B).2) else (0, B)) else (0, B))
def e_X6_pass (a1 : Int32) (B : BT) : Option String :=
  (if e_X6_requireRange a1 1 400 = none then (if (B 0 5) + a1 ≤ 9999 then none else some "java/lang/IllegalStateException") else e_X6_requireRange a1 1 400)
set_option maxHeartbeats 4000000 in
set_option maxRecDepth 100000 in
theorem m_X6_pass (l : Launch) (g : wG) (hfl : l.stackTraces = false) (S : Nat → BT) (B : BT) (y : (Nat → Nat → Int32) × (Nat → Int64) × (Nat → UInt64)) (a1 : Int32) (n m9 : Nat) (hN : CN B n m9) (hev : ¬ S 2 0 1 < 0) : xI l yX6_pass cX6_pass 2 (some .int) ({ frames := 10, cells := 2, slots := 12, locals := 232 } : Room) 2 12 g (xB S 0 B y) [.ref (gA g 0), .int a1] (e_X6_pass a1 B) ((f_X6_pass a1 B).1) (xB (f_X2_keep 2 a1 0 0 0 S) 0 (f_X6_pass a1 B).2 y) := by
  refine vx_ofW (cc := cX6_pass) (maxL := 2) (ret := some .int) (by decide) rfl ?_
  intro p9 e s m args below meth c s₁ BL hml hT hv
  obtain ⟨rfl, hk, hPB⟩ := hv
  have hx := BL.exec
  have hb := BL.bytes
  have hc : CX p9 c cX6_pass s _ m RX6 := ⟨hx, hb, findClass_of_methodNamed BL.named, fun w h => atoms_spec BL.pre w (List.mem_cons_of_mem _ h)⟩
  have hr := BL.returns
  have hlocks := BL.notSynchronized
  have hw : WS g s (xB S 0 B y) s.heap [] := ⟨hPB, va_S.rf⟩
  have hl := lv_entry ([.ref (gA g 0), .int a1]) (n := 2) (Nat.le_of_ble_eq_true rfl)
  rw [lg_entry_eq]
  generalize (lg_sl ([.ref (gA g 0), .int a1]) ++ List.replicate (2 - (lg_sl ([.ref (gA g 0), .int a1])).length) Slot.unset).toArray = ls at hl ⊢
  have hl : lv_has ls 2 [(0, .ref (gA g 0)), (1, .int a1)] := hl
  refine lv_aload_n hx hb dX6_pass_0 rfl (lv_at hl 0 rfl) ?_
  refine lv_iload_n hx hb dX6_pass_1 rfl (lv_at hl 1 rfl) ?_
  refine lv_iconst (v := 1) hx hb dX6_pass_2 (by decide) ?_
  refine lv_sipush (v := 400) hx hb dX6_pass_3 (by decide) ?_
  refine kx_v hw (vx_runV (As := [.int a1, .int 1, .int 400]) (rest := []) ⟨hx, hb, hml, hc.2.2.1, hc.2.2.2⟩ (m_X6_requireRange l g hfl S B y a1 1 400) (kw_V hc 3 q616 q618 qs42 q1 q619 rfl rfl (by decide +kernel) ⟨Nat.le_of_ble_eq_true rfl, Nat.le_of_ble_eq_true rfl⟩) (kp_V hk hw at_G rfl) rfl rfl hl.1 rfl (lv_room (Nat.le_of_ble_eq_true rfl)) dX6_pass_6 ⟨Nat.le_of_ble_eq_true rfl, Nat.le_of_ble_eq_true rfl⟩) (fun E ce q8 H locs h1 hw hq hv hE => ?_) (fun H locs h1 hw => ?_)
  · have hn : ¬ e_X6_requireRange a1 1 400 = none := by rw [h1]; exact Option.some_ne_none _
    exact k_out hT hlocks hw hq hv hE (Eq.trans (b := e_X6_requireRange a1 1 400) (by simp only [e_X6_pass, if_neg hn]) h1) (Nat.le_of_ble_eq_true rfl) (Nat.le_of_ble_eq_true rfl)
  · refine lv_aload_n hx hb dX6_pass_9 rfl (lv_at hl 0 rfl) ?_
    refine k_get hc hk hw at_G rfl iX6 0 (by decide) q238 (v := .ref (gA g (jB 0))) rfl dX6_pass_10 ?_
    refine k_getN hc hk hw (bt_B (by decide : 0 < 2)) rfl iX0 5 (by decide) nq211 (v := .int (B 0 5)) rfl dX6_pass_13 ?_
    refine lv_iload_n hx hb dX6_pass_16 rfl (lv_at hl 1 rfl) ?_
    refine lv_iadd hx hb dX6_pass_17 ?_
    refine lv_sipush (v := 9999) hx hb dX6_pass_18 (by decide) ?_
    refine lv_icmp_le (tgt := 34) hx hb dX6_pass_21 (by decide) (fun h3 => ?_) (fun h3 => ?_)
    · refine lv_aload_n hx hb dX6_pass_34 rfl (lv_at hl 0 rfl) ?_
      refine lv_iconst (v := 2) hx hb dX6_pass_35 (by decide) ?_
      refine lv_iload_n hx hb dX6_pass_36 rfl (lv_at hl 1 rfl) ?_
      refine lv_iconst (v := 0) hx hb dX6_pass_37 (by decide) ?_
      refine kc_i hw (va_runV (As := [.int 2, .int a1, .int 0]) (rest := []) ⟨hx, hb, hml, hc.2.2.1, hc.2.2.2⟩ (m_X6_happen l g S B y 2 a1 0 _ _ hN hev) (kw_V hc 3 q652 q654 qs43 q1 q655 rfl rfl (by decide +kernel) ⟨Nat.le_of_ble_eq_true rfl, Nat.le_of_ble_eq_true rfl⟩) (kp_V hk hw at_G rfl) rfl rfl hl.1 rfl (lv_room (Nat.le_of_ble_eq_true rfl)) dX6_pass_38 ⟨Nat.le_of_ble_eq_true rfl, Nat.le_of_ble_eq_true rfl⟩) (fun H locs hw => ?_)
      refine vx_ret ?_
      refine W.widen (k := 2) (n := 12) (Nat.le_of_ble_eq_true rfl) (Nat.le_of_ble_eq_true rfl) ?_
      exact W.iret (v := (f_X6_happen 2 a1 0 B).1) hx hb hr (fun t9 ht hW => kz_i hw ht (by simp only [e_X6_pass, if_pos h1, if_pos h3]) (by simp only [f_X6_pass, if_pos h1, if_pos h3]) (by simp only [f_X6_pass, if_pos h1, if_pos h3])) hw.2.2.2 dX6_pass_41
    · exact k_throwS (text := "the day would be above 9999") hc hk hw hfl hT hlocks hml hl (by decide) tw_34_38 (by decide) dX6_pass_24 dX6_pass_27 dX6_pass_28 dX6_pass_30 dX6_pass_33 (Nat.le_of_ble_eq_true rfl) (Nat.le_of_ble_eq_true rfl) (Nat.le_of_ble_eq_true rfl) (Nat.le_of_ble_eq_true rfl) (by simp only [e_X6_pass, if_pos h1, if_neg h3]) (Nat.le_of_ble_eq_true rfl) (Nat.le_of_ble_eq_true rfl)
def f_X6_complain (a1 : Int32) (a2 : Int32) (a3 : Int32) (a4 : Int32) (B : BT) : Int32 × BT :=
  (if e_X6_requireOffice a1 B = none then (if e_X6_requireRange a2 0 9 = none then (if e_X6_requireRange a3 0 49 = none then (if e_X6_requireRange a4 0 (B 0 5) = none then (if B 0 4 < 20 then ((f_X0_apply 4 a1 a2 a3 a4 B).1, (f_X0_apply 4 a1 a2 a3 a4 B).2) else (0, B)) else (0, B)) else (0, B)) else (0, B)) else (0, B))
def e_X6_complain (a1 : Int32) (a2 : Int32) (a3 : Int32) (a4 : Int32) (B : BT) : Option String :=
  (if e_X6_requireOffice a1 B = none then (if e_X6_requireRange a2 0 9 = none then (if e_X6_requireRange a3 0 49 = none then (if e_X6_requireRange a4 0 (B 0 5) = none then (if B 0 4 < 20 then none else some "java/lang/IllegalStateException") else e_X6_requireRange a4 0 (B 0 5)) else e_X6_requireRange a3 0 49) else e_X6_requireRange a2 0 9) else e_X6_requireOffice a1 B)
set_option maxHeartbeats 4000000 in
set_option maxRecDepth 100000 in
theorem m_X6_complain (l : Launch) (g : wG) (hfl : l.stackTraces = false) (S : Nat → BT) (B : BT) (y : (Nat → Nat → Int32) × (Nat → Int64) × (Nat → UInt64)) (a1 : Int32) (a2 : Int32) (a3 : Int32) (a4 : Int32) (n m9 : Nat) (hN : CN B n m9) (hev : ¬ S 2 0 1 < 0) : xI l yX6_complain cX6_complain 5 (some .int) ({ frames := 9, cells := 5, slots := 30, locals := 209 } : Room) 5 30 g (xB S 0 B y) [.ref (gA g 0), .int a1, .int a2, .int a3, .int a4] (e_X6_complain a1 a2 a3 a4 B) ((f_X6_complain a1 a2 a3 a4 B).1) (xB (f_X2_keep 4 a1 a2 a3 a4 S) 0 (f_X6_complain a1 a2 a3 a4 B).2 y) := by
  refine vx_ofW (cc := cX6_complain) (maxL := 5) (ret := some .int) (by decide) rfl ?_
  intro p9 e s m args below meth c s₁ BL hml hT hv
  obtain ⟨rfl, hk, hPB⟩ := hv
  have hx := BL.exec
  have hb := BL.bytes
  have hc : CX p9 c cX6_complain s _ m RX6 := ⟨hx, hb, findClass_of_methodNamed BL.named, fun w h => atoms_spec BL.pre w (List.mem_cons_of_mem _ h)⟩
  have hr := BL.returns
  have hlocks := BL.notSynchronized
  have hw : WS g s (xB S 0 B y) s.heap [] := ⟨hPB, va_S.rf⟩
  have hl := lv_entry ([.ref (gA g 0), .int a1, .int a2, .int a3, .int a4]) (n := 5) (Nat.le_of_ble_eq_true rfl)
  rw [lg_entry_eq]
  generalize (lg_sl ([.ref (gA g 0), .int a1, .int a2, .int a3, .int a4]) ++ List.replicate (5 - (lg_sl ([.ref (gA g 0), .int a1, .int a2, .int a3, .int a4])).length) Slot.unset).toArray = ls at hl ⊢
  have hl : lv_has ls 5 [(0, .ref (gA g 0)), (1, .int a1), (2, .int a2), (3, .int a3), (4, .int a4)] := hl
  refine lv_aload_n hx hb dX6_complain_0 rfl (lv_at hl 0 rfl) ?_
  refine lv_iload_n hx hb dX6_complain_1 rfl (lv_at hl 1 rfl) ?_
  refine kx_v hw (vx_runV (As := [.int a1]) (rest := []) ⟨hx, hb, hml, hc.2.2.1, hc.2.2.2⟩ (m_X6_requireOffice l g hfl S B y a1 _ _ hN) (kw_V hc 1 q670 q672 qs45 q1 q673 rfl rfl (by decide +kernel) ⟨Nat.le_of_ble_eq_true rfl, Nat.le_of_ble_eq_true rfl⟩) (kp_V hk hw at_G rfl) rfl rfl hl.1 rfl (lv_room (Nat.le_of_ble_eq_true rfl)) dX6_complain_2 ⟨Nat.le_of_ble_eq_true rfl, Nat.le_of_ble_eq_true rfl⟩) (fun E ce q8 H locs h1 hw hq hv hE => ?_) (fun H locs h1 hw => ?_)
  · have hn : ¬ e_X6_requireOffice a1 B = none := by rw [h1]; exact Option.some_ne_none _
    exact k_out hT hlocks hw hq hv hE (Eq.trans (b := e_X6_requireOffice a1 B) (by simp only [e_X6_complain, if_neg hn]) h1) (Nat.le_of_ble_eq_true rfl) (Nat.le_of_ble_eq_true rfl)
  · refine lv_aload_n hx hb dX6_complain_5 rfl (lv_at hl 0 rfl) ?_
    refine lv_iload_n hx hb dX6_complain_6 rfl (lv_at hl 2 rfl) ?_
    refine lv_iconst (v := 0) hx hb dX6_complain_7 (by decide) ?_
    refine lv_bipush (v := 9) hx hb dX6_complain_8 (by decide) ?_
    refine kx_v hw (vx_runV (As := [.int a2, .int 0, .int 9]) (rest := []) ⟨hx, hb, hml, hc.2.2.1, hc.2.2.2⟩ (m_X6_requireRange l g hfl S B y a2 0 9) (kw_V hc 3 q616 q618 qs42 q1 q619 rfl rfl (by decide +kernel) ⟨Nat.le_of_ble_eq_true rfl, Nat.le_of_ble_eq_true rfl⟩) (kp_V hk hw at_G rfl) rfl rfl hl.1 rfl (lv_room (Nat.le_of_ble_eq_true rfl)) dX6_complain_10 ⟨Nat.le_of_ble_eq_true rfl, Nat.le_of_ble_eq_true rfl⟩) (fun E ce q8 H locs h3 hw hq hv hE => ?_) (fun H locs h3 hw => ?_)
    · have hn : ¬ e_X6_requireRange a2 0 9 = none := by rw [h3]; exact Option.some_ne_none _
      exact k_out hT hlocks hw hq hv hE (Eq.trans (b := e_X6_requireRange a2 0 9) (by simp only [e_X6_complain, if_pos h1, if_neg hn]) h3) (Nat.le_of_ble_eq_true rfl) (Nat.le_of_ble_eq_true rfl)
    · refine lv_aload_n hx hb dX6_complain_13 rfl (lv_at hl 0 rfl) ?_
      refine lv_iload_n hx hb dX6_complain_14 rfl (lv_at hl 3 rfl) ?_
      refine lv_iconst (v := 0) hx hb dX6_complain_15 (by decide) ?_
      refine lv_bipush (v := 49) hx hb dX6_complain_16 (by decide) ?_
      refine kx_v hw (vx_runV (As := [.int a3, .int 0, .int 49]) (rest := []) ⟨hx, hb, hml, hc.2.2.1, hc.2.2.2⟩ (m_X6_requireRange l g hfl S B y a3 0 49) (kw_V hc 3 q616 q618 qs42 q1 q619 rfl rfl (by decide +kernel) ⟨Nat.le_of_ble_eq_true rfl, Nat.le_of_ble_eq_true rfl⟩) (kp_V hk hw at_G rfl) rfl rfl hl.1 rfl (lv_room (Nat.le_of_ble_eq_true rfl)) dX6_complain_18 ⟨Nat.le_of_ble_eq_true rfl, Nat.le_of_ble_eq_true rfl⟩) (fun E ce q8 H locs h5 hw hq hv hE => ?_) (fun H locs h5 hw => ?_)
      · have hn : ¬ e_X6_requireRange a3 0 49 = none := by rw [h5]; exact Option.some_ne_none _
        exact k_out hT hlocks hw hq hv hE (Eq.trans (b := e_X6_requireRange a3 0 49) (by simp only [e_X6_complain, if_pos h1, if_pos h3, if_neg hn]) h5) (Nat.le_of_ble_eq_true rfl) (Nat.le_of_ble_eq_true rfl)
      · refine lv_aload_n hx hb dX6_complain_21 rfl (lv_at hl 0 rfl) ?_
        refine lv_iload hx hb dX6_complain_22 (lv_at hl 4 rfl) ?_
        refine lv_iconst (v := 0) hx hb dX6_complain_24 (by decide) ?_
        refine lv_aload_n hx hb dX6_complain_25 rfl (lv_at hl 0 rfl) ?_
        refine k_get hc hk hw at_G rfl iX6 0 (by decide) q238 (v := .ref (gA g (jB 0))) rfl dX6_complain_26 ?_
        refine k_getN hc hk hw (bt_B (by decide : 0 < 2)) rfl iX0 5 (by decide) nq211 (v := .int (B 0 5)) rfl dX6_complain_29 ?_
        refine kx_v hw (vx_runV (As := [.int a4, .int 0, .int (B 0 5)]) (rest := []) ⟨hx, hb, hml, hc.2.2.1, hc.2.2.2⟩ (m_X6_requireRange l g hfl S B y a4 0 (B 0 5)) (kw_V hc 3 q616 q618 qs42 q1 q619 rfl rfl (by decide +kernel) ⟨Nat.le_of_ble_eq_true rfl, Nat.le_of_ble_eq_true rfl⟩) (kp_V hk hw at_G rfl) rfl rfl hl.1 rfl (lv_room (Nat.le_of_ble_eq_true rfl)) dX6_complain_32 ⟨Nat.le_of_ble_eq_true rfl, Nat.le_of_ble_eq_true rfl⟩) (fun E ce q8 H locs h7 hw hq hv hE => ?_) (fun H locs h7 hw => ?_)
        · have hn : ¬ e_X6_requireRange a4 0 (B 0 5) = none := by rw [h7]; exact Option.some_ne_none _
          exact k_out hT hlocks hw hq hv hE (Eq.trans (b := e_X6_requireRange a4 0 (B 0 5)) (by simp only [e_X6_complain, if_pos h1, if_pos h3, if_pos h5, if_neg hn]) h7) (Nat.le_of_ble_eq_true rfl) (Nat.le_of_ble_eq_true rfl)
        · refine lv_aload_n hx hb dX6_complain_35 rfl (lv_at hl 0 rfl) ?_
          refine k_get hc hk hw at_G rfl iX6 0 (by decide) q238 (v := .ref (gA g (jB 0))) rfl dX6_complain_36 ?_
          refine k_getN hc hk hw (bt_B (by decide : 0 < 2)) rfl iX0 4 (by decide) nq209 (v := .int (B 0 4)) rfl dX6_complain_39 ?_
          refine lv_bipush (v := 20) hx hb dX6_complain_42 (by decide) ?_
          refine lv_icmp_lt (tgt := 57) hx hb dX6_complain_44 (by decide) (fun h9 => ?_) (fun h9 => ?_)
          · refine lv_aload_n hx hb dX6_complain_57 rfl (lv_at hl 0 rfl) ?_
            refine k_get hc hk hw at_G rfl iX6 2 (by decide) q240 (v := .ref (gA g 1)) rfl dX6_complain_58 ?_
            refine lv_iconst (v := 4) hx hb dX6_complain_61 (by decide) ?_
            refine lv_iload_n hx hb dX6_complain_62 rfl (lv_at hl 1 rfl) ?_
            refine lv_iload_n hx hb dX6_complain_63 rfl (lv_at hl 2 rfl) ?_
            refine lv_iload_n hx hb dX6_complain_64 rfl (lv_at hl 3 rfl) ?_
            refine lv_iload hx hb dX6_complain_65 (lv_at hl 4 rfl) ?_
            refine kc_v hw (va_runVN (As := [.int 4, .int a1, .int a2, .int a3, .int a4]) (rest := []) ⟨hx, hb, hml, hc.2.2.1, hc.2.2.2⟩ (m_X2_keep l g (va_up S 0 B) y 4 a1 a2 a3 a4 hev) ⟨kw_N hc hk 5 nq656 q7 q659 rfl rfl (by decide +kernel) ⟨Nat.le_of_ble_eq_true rfl, Nat.le_of_ble_eq_true rfl⟩, hc.2.2.2 _ q658, hc.2.2.2 _ qs44⟩ (kp_V hk hw at_E rfl) rfl rfl hl.1 rfl (lv_room (Nat.le_of_ble_eq_true rfl)) dX6_complain_67 ⟨Nat.le_of_ble_eq_true rfl, Nat.le_of_ble_eq_true rfl⟩) (fun H locs hw => ?_)
            rw [keep_up] at hw
            refine lv_aload_n hx hb dX6_complain_70 rfl (lv_at hl 0 rfl) ?_
            refine k_get hc hk hw at_G rfl iX6 0 (by decide) q238 (v := .ref (gA g (jB 0))) rfl dX6_complain_71 ?_
            refine lv_iconst (v := 4) hx hb dX6_complain_74 (by decide) ?_
            refine lv_iload_n hx hb dX6_complain_75 rfl (lv_at hl 1 rfl) ?_
            refine lv_iload_n hx hb dX6_complain_76 rfl (lv_at hl 2 rfl) ?_
            refine lv_iload_n hx hb dX6_complain_77 rfl (lv_at hl 3 rfl) ?_
            refine lv_iload hx hb dX6_complain_78 (lv_at hl 4 rfl) ?_
            refine kc_i hw (va_runVN (As := [.int 4, .int a1, .int a2, .int a3, .int a4]) (rest := []) ⟨hx, hb, hml, hc.2.2.1, hc.2.2.2⟩ (m_X0_apply l g (f_X2_keep 4 a1 a2 a3 a4 S) 0 B y (by decide : 0 < 2) 4 a1 a2 a3 a4 _ _ hN) ⟨kw_N hc hk 5 nq660 q2 q277 rfl rfl (by decide +kernel) ⟨Nat.le_of_ble_eq_true rfl, Nat.le_of_ble_eq_true rfl⟩, hc.2.2.2 _ q276, hc.2.2.2 _ qs3⟩ (kp_V hk hw (bt_B (by decide : 0 < 2)) rfl) rfl rfl hl.1 rfl (lv_room (Nat.le_of_ble_eq_true rfl)) dX6_complain_80 ⟨Nat.le_of_ble_eq_true rfl, Nat.le_of_ble_eq_true rfl⟩) (fun H locs hw => ?_)
            refine vx_ret ?_
            refine W.widen (k := 5) (n := 30) (Nat.le_of_ble_eq_true rfl) (Nat.le_of_ble_eq_true rfl) ?_
            exact W.iret (v := (f_X0_apply 4 a1 a2 a3 a4 B).1) hx hb hr (fun t9 ht hW => kz_i hw ht (by simp only [e_X6_complain, if_pos h1, if_pos h3, if_pos h5, if_pos h7, if_pos h9]) (by simp only [f_X6_complain, if_pos h1, if_pos h3, if_pos h5, if_pos h7, if_pos h9]) (by simp only [f_X6_complain, if_pos h1, if_pos h3, if_pos h5, if_pos h7, if_pos h9])) hw.2.2.2 dX6_complain_83
          · exact k_throwS (text := "there are 20 complaints") hc hk hw hfl hT hlocks hml hl (by decide) tw_34_38 (by decide) dX6_complain_47 dX6_complain_50 dX6_complain_51 dX6_complain_53 dX6_complain_56 (Nat.le_of_ble_eq_true rfl) (Nat.le_of_ble_eq_true rfl) (Nat.le_of_ble_eq_true rfl) (Nat.le_of_ble_eq_true rfl) (by simp only [e_X6_complain, if_pos h1, if_pos h3, if_pos h5, if_pos h7, if_neg h9]) (Nat.le_of_ble_eq_true rfl) (Nat.le_of_ble_eq_true rfl)
def j_X6_setCourt_12 (a2 : Int32) : Int32 :=
  (if a2 = 0 then 0 else 1)
def f_X6_setCourt (a1 : Int32) (a2 : Int32) (B : BT) : Int32 × BT :=
  (if e_X6_known a1 B = none then (if e_X6_requireAtIntake (f_X6_known a1 B) B = none then (if (f_X6_happen 5 a1 (j_X6_setCourt_12 a2) B).1 = 1 then (1, (f_X6_happen 5 a1 (j_X6_setCourt_12 a2) B).2) else (0, (f_X6_happen 5 a1 (j_X6_setCourt_12 a2) B).2)) else (0, B)) else (0, B))
def e_X6_setCourt (a1 : Int32) (a2 : Int32) (B : BT) : Option String :=
  (if e_X6_known a1 B = none then (if e_X6_requireAtIntake (f_X6_known a1 B) B = none then (if (f_X6_happen 5 a1 (j_X6_setCourt_12 a2) B).1 = 1 then none else none) else e_X6_requireAtIntake (f_X6_known a1 B) B) else e_X6_known a1 B)
set_option maxHeartbeats 4000000 in
set_option maxRecDepth 100000 in
theorem m_X6_setCourt (l : Launch) (g : wG) (hfl : l.stackTraces = false) (S : Nat → BT) (B : BT) (y : (Nat → Nat → Int32) × (Nat → Int64) × (Nat → UInt64)) (a1 : Int32) (a2 : Int32) (n m9 : Nat) (hN : CN B n m9) (hev : ¬ S 2 0 1 < 0) : xI l yX6_setCourt cX6_setCourt 3 (some .boolean) ({ frames := 10, cells := 2, slots := 12, locals := 232 } : Room) 2 12 g (xB S 0 B y) [.ref (gA g 0), .int a1, .int a2] (e_X6_setCourt a1 a2 B) ((f_X6_setCourt a1 a2 B).1) (xB (f_X2_keep 5 a1 (j_X6_setCourt_12 a2) 0 0 S) 0 (f_X6_setCourt a1 a2 B).2 y) := by
  refine vx_ofW (cc := cX6_setCourt) (maxL := 3) (ret := some .boolean) (by decide) rfl ?_
  intro p9 e s m args below meth c s₁ BL hml hT hv
  obtain ⟨rfl, hk, hPB⟩ := hv
  have hx := BL.exec
  have hb := BL.bytes
  have hc : CX p9 c cX6_setCourt s _ m RX6 := ⟨hx, hb, findClass_of_methodNamed BL.named, fun w h => atoms_spec BL.pre w (List.mem_cons_of_mem _ h)⟩
  have hr := BL.returns
  have hlocks := BL.notSynchronized
  have hw : WS g s (xB S 0 B y) s.heap [] := ⟨hPB, va_S.rf⟩
  have hl := lv_entry ([.ref (gA g 0), .int a1, .int a2]) (n := 3) (Nat.le_of_ble_eq_true rfl)
  rw [lg_entry_eq]
  generalize (lg_sl ([.ref (gA g 0), .int a1, .int a2]) ++ List.replicate (3 - (lg_sl ([.ref (gA g 0), .int a1, .int a2])).length) Slot.unset).toArray = ls at hl ⊢
  have hl : lv_has ls 3 [(0, .ref (gA g 0)), (1, .int a1), (2, .int a2)] := hl
  refine lv_aload_n hx hb dX6_setCourt_0 rfl (lv_at hl 0 rfl) ?_
  refine lv_aload_n hx hb dX6_setCourt_1 rfl (lv_at hl 0 rfl) ?_
  refine lv_iload_n hx hb dX6_setCourt_2 rfl (lv_at hl 1 rfl) ?_
  refine kx_r hw (vx_runV (As := [.int a1]) (rest := [.ref (gA g 0)]) ⟨hx, hb, hml, hc.2.2.1, hc.2.2.2⟩ (m_X6_known l g hfl S B y a1 _ _ hN) (kw_V hc 1 q692 q694 qs46 q1 q695 rfl rfl (by decide +kernel) ⟨Nat.le_of_ble_eq_true rfl, Nat.le_of_ble_eq_true rfl⟩) (kp_V hk hw at_G rfl) rfl rfl hl.1 rfl (lv_room (Nat.le_of_ble_eq_true rfl)) dX6_setCourt_3 ⟨Nat.le_of_ble_eq_true rfl, Nat.le_of_ble_eq_true rfl⟩) (fun E ce q8 H locs h1 hw hq hv hE => ?_) (fun H locs h1 hw => ?_)
  · have hn : ¬ e_X6_known a1 B = none := by rw [h1]; exact Option.some_ne_none _
    exact k_out hT hlocks hw hq hv hE (Eq.trans (b := e_X6_known a1 B) (by simp only [e_X6_setCourt, if_neg hn]) h1) (Nat.le_of_ble_eq_true rfl) (Nat.le_of_ble_eq_true rfl)
  · refine kx_v hw (vx_runV (As := [.ref (gA g (jC 0 (f_X6_known a1 B)))]) (rest := []) ⟨hx, hb, hml, hc.2.2.1, hc.2.2.2⟩ (m_X6_requireAtIntake l g hfl S B y (f_X6_known a1 B) (lt_X6_known hN)) (kw_V hc 1 q697 q699 qs47 q1 q700 rfl rfl (by decide +kernel) ⟨Nat.le_of_ble_eq_true rfl, Nat.le_of_ble_eq_true rfl⟩) (kp_V hk hw at_G rfl) rfl rfl hl.1 rfl (lv_room (Nat.le_of_ble_eq_true rfl)) dX6_setCourt_6 ⟨Nat.le_of_ble_eq_true rfl, Nat.le_of_ble_eq_true rfl⟩) (fun E ce q8 H locs h3 hw hq hv hE => ?_) (fun H locs h3 hw => ?_)
    · have hn : ¬ e_X6_requireAtIntake (f_X6_known a1 B) B = none := by rw [h3]; exact Option.some_ne_none _
      exact k_out hT hlocks hw hq hv hE (Eq.trans (b := e_X6_requireAtIntake (f_X6_known a1 B) B) (by simp only [e_X6_setCourt, if_pos h1, if_neg hn]) h3) (Nat.le_of_ble_eq_true rfl) (Nat.le_of_ble_eq_true rfl)
    · refine lv_aload_n hx hb dX6_setCourt_9 rfl (lv_at hl 0 rfl) ?_
      refine lv_iconst (v := 5) hx hb dX6_setCourt_10 (by decide) ?_
      refine lv_iload_n hx hb dX6_setCourt_11 rfl (lv_at hl 1 rfl) ?_
      have J5 : ∀ (v : Int32), v = (j_X6_setCourt_12 a2) → ∀ (H : Heap) (locs : List Loc), WS g s (xB S 0 B y) H locs → W p9 l e ({ frames := 10, cells := 2, slots := 12, locals := 232 } : Room) s m ([.ref (gA g 0), .int a1, .int a2] : List Value).toArray below meth c H locs 2 12 (vx_MQ below (va_Qi (fun (v : Int32) (u : wSt) => (e_X6_setCourt a1 a2 B) = none ∧ v = (f_X6_setCourt a1 a2 B).1 ∧ u = (xB (f_X2_keep 5 a1 (j_X6_setCourt_12 a2) 0 0 S) 0 (f_X6_setCourt a1 a2 B).2 y)) (PB g) (AA g)) (XX g (xB S 0 B y) (e_X6_setCourt a1 a2 B)) (([.ref (gA g 0), .int a1, .int a2] : List Value).toArray) s 2 12 (AA g)) (F0 m 21 ls (.int v :: ([.int a1, .int 5, .ref (gA g 0)] : List Value))) := by
        intro v ev H locs hw
        subst ev
        refine kc_i hw (va_runV (As := [.int 5, .int a1, .int (j_X6_setCourt_12 a2)]) (rest := []) ⟨hx, hb, hml, hc.2.2.1, hc.2.2.2⟩ (m_X6_happen l g S B y 5 a1 (j_X6_setCourt_12 a2) _ _ hN hev) (kw_V hc 3 q652 q654 qs43 q1 q655 rfl rfl (by decide +kernel) ⟨Nat.le_of_ble_eq_true rfl, Nat.le_of_ble_eq_true rfl⟩) (kp_V hk hw at_G rfl) rfl rfl hl.1 rfl (lv_room (Nat.le_of_ble_eq_true rfl)) dX6_setCourt_21 ⟨Nat.le_of_ble_eq_true rfl, Nat.le_of_ble_eq_true rfl⟩) (fun H locs hw => ?_)
        refine lv_iconst (v := 1) hx hb dX6_setCourt_24 (by decide) ?_
        refine lv_icmp_ne (tgt := 32) hx hb dX6_setCourt_25 (by decide) (fun h6 => ?_) (fun h6 => ?_)
        · refine lv_iconst (v := 0) hx hb dX6_setCourt_32 (by decide) ?_
          refine vx_ret ?_
          refine W.widen (k := 2) (n := 12) (Nat.le_of_ble_eq_true rfl) (Nat.le_of_ble_eq_true rfl) ?_
          exact W.zret (v := 0) hx hb hr (by decide +kernel) (fun t9 ht hW => kz_i hw ht (by simp only [e_X6_setCourt, if_pos h1, if_pos h3, if_neg h6]) (by simp only [f_X6_setCourt, if_pos h1, if_pos h3, if_neg h6]) (by simp only [f_X6_setCourt, if_pos h1, if_pos h3, if_neg h6])) hw.2.2.2 dX6_setCourt_33
        · refine lv_iconst (v := 1) hx hb dX6_setCourt_28 (by decide) ?_
          refine lv_goto (tgt := 33) hx hb dX6_setCourt_29 (by decide) ?_
          refine vx_ret ?_
          refine W.widen (k := 2) (n := 12) (Nat.le_of_ble_eq_true rfl) (Nat.le_of_ble_eq_true rfl) ?_
          exact W.zret (v := 1) hx hb hr (by decide +kernel) (fun t9 ht hW => kz_i hw ht (by simp only [e_X6_setCourt, if_pos h1, if_pos h3, if_pos h6]) (by simp only [f_X6_setCourt, if_pos h1, if_pos h3, if_pos h6]) (by simp only [f_X6_setCourt, if_pos h1, if_pos h3, if_pos h6])) hw.2.2.2 dX6_setCourt_33
      refine lv_iload_n hx hb dX6_setCourt_12 rfl (lv_at hl 2 rfl) ?_
      refine lv_if_eq (tgt := 20) hx hb dX6_setCourt_13 (by decide) (fun h7 => ?_) (fun h7 => ?_)
      · refine lv_iconst (v := 0) hx hb dX6_setCourt_20 (by decide) ?_
        exact J5 0 (by simp only [j_X6_setCourt_12, if_pos h7]) _ _ hw
      · refine lv_iconst (v := 1) hx hb dX6_setCourt_16 (by decide) ?_
        refine lv_goto (tgt := 21) hx hb dX6_setCourt_17 (by decide) ?_
        exact J5 1 (by simp only [j_X6_setCourt_12, if_neg h7]) _ _ hw
def f_X6_excuse (a1 : Int32) (B : BT) : Int32 × BT :=
  (if e_X6_known a1 B = none then (if e_X6_requireAtIntake (f_X6_known a1 B) B = none then (if (f_X6_happen 6 a1 0 B).1 = 1 then (1, (f_X6_happen 6 a1 0 B).2) else (0, (f_X6_happen 6 a1 0 B).2)) else (0, B)) else (0, B))
def e_X6_excuse (a1 : Int32) (B : BT) : Option String :=
  (if e_X6_known a1 B = none then (if e_X6_requireAtIntake (f_X6_known a1 B) B = none then (if (f_X6_happen 6 a1 0 B).1 = 1 then none else none) else e_X6_requireAtIntake (f_X6_known a1 B) B) else e_X6_known a1 B)
set_option maxHeartbeats 4000000 in
set_option maxRecDepth 100000 in
theorem m_X6_excuse (l : Launch) (g : wG) (hfl : l.stackTraces = false) (S : Nat → BT) (B : BT) (y : (Nat → Nat → Int32) × (Nat → Int64) × (Nat → UInt64)) (a1 : Int32) (n m9 : Nat) (hN : CN B n m9) (hev : ¬ S 2 0 1 < 0) : xI l yX6_excuse cX6_excuse 2 (some .boolean) ({ frames := 10, cells := 2, slots := 12, locals := 232 } : Room) 2 12 g (xB S 0 B y) [.ref (gA g 0), .int a1] (e_X6_excuse a1 B) ((f_X6_excuse a1 B).1) (xB (f_X2_keep 6 a1 0 0 0 S) 0 (f_X6_excuse a1 B).2 y) := by
  refine vx_ofW (cc := cX6_excuse) (maxL := 2) (ret := some .boolean) (by decide) rfl ?_
  intro p9 e s m args below meth c s₁ BL hml hT hv
  obtain ⟨rfl, hk, hPB⟩ := hv
  have hx := BL.exec
  have hb := BL.bytes
  have hc : CX p9 c cX6_excuse s _ m RX6 := ⟨hx, hb, findClass_of_methodNamed BL.named, fun w h => atoms_spec BL.pre w (List.mem_cons_of_mem _ h)⟩
  have hr := BL.returns
  have hlocks := BL.notSynchronized
  have hw : WS g s (xB S 0 B y) s.heap [] := ⟨hPB, va_S.rf⟩
  have hl := lv_entry ([.ref (gA g 0), .int a1]) (n := 2) (Nat.le_of_ble_eq_true rfl)
  rw [lg_entry_eq]
  generalize (lg_sl ([.ref (gA g 0), .int a1]) ++ List.replicate (2 - (lg_sl ([.ref (gA g 0), .int a1])).length) Slot.unset).toArray = ls at hl ⊢
  have hl : lv_has ls 2 [(0, .ref (gA g 0)), (1, .int a1)] := hl
  refine lv_aload_n hx hb dX6_excuse_0 rfl (lv_at hl 0 rfl) ?_
  refine lv_aload_n hx hb dX6_excuse_1 rfl (lv_at hl 0 rfl) ?_
  refine lv_iload_n hx hb dX6_excuse_2 rfl (lv_at hl 1 rfl) ?_
  refine kx_r hw (vx_runV (As := [.int a1]) (rest := [.ref (gA g 0)]) ⟨hx, hb, hml, hc.2.2.1, hc.2.2.2⟩ (m_X6_known l g hfl S B y a1 _ _ hN) (kw_V hc 1 q692 q694 qs46 q1 q695 rfl rfl (by decide +kernel) ⟨Nat.le_of_ble_eq_true rfl, Nat.le_of_ble_eq_true rfl⟩) (kp_V hk hw at_G rfl) rfl rfl hl.1 rfl (lv_room (Nat.le_of_ble_eq_true rfl)) dX6_excuse_3 ⟨Nat.le_of_ble_eq_true rfl, Nat.le_of_ble_eq_true rfl⟩) (fun E ce q8 H locs h1 hw hq hv hE => ?_) (fun H locs h1 hw => ?_)
  · have hn : ¬ e_X6_known a1 B = none := by rw [h1]; exact Option.some_ne_none _
    exact k_out hT hlocks hw hq hv hE (Eq.trans (b := e_X6_known a1 B) (by simp only [e_X6_excuse, if_neg hn]) h1) (Nat.le_of_ble_eq_true rfl) (Nat.le_of_ble_eq_true rfl)
  · refine kx_v hw (vx_runV (As := [.ref (gA g (jC 0 (f_X6_known a1 B)))]) (rest := []) ⟨hx, hb, hml, hc.2.2.1, hc.2.2.2⟩ (m_X6_requireAtIntake l g hfl S B y (f_X6_known a1 B) (lt_X6_known hN)) (kw_V hc 1 q697 q699 qs47 q1 q700 rfl rfl (by decide +kernel) ⟨Nat.le_of_ble_eq_true rfl, Nat.le_of_ble_eq_true rfl⟩) (kp_V hk hw at_G rfl) rfl rfl hl.1 rfl (lv_room (Nat.le_of_ble_eq_true rfl)) dX6_excuse_6 ⟨Nat.le_of_ble_eq_true rfl, Nat.le_of_ble_eq_true rfl⟩) (fun E ce q8 H locs h3 hw hq hv hE => ?_) (fun H locs h3 hw => ?_)
    · have hn : ¬ e_X6_requireAtIntake (f_X6_known a1 B) B = none := by rw [h3]; exact Option.some_ne_none _
      exact k_out hT hlocks hw hq hv hE (Eq.trans (b := e_X6_requireAtIntake (f_X6_known a1 B) B) (by simp only [e_X6_excuse, if_pos h1, if_neg hn]) h3) (Nat.le_of_ble_eq_true rfl) (Nat.le_of_ble_eq_true rfl)
    · refine lv_aload_n hx hb dX6_excuse_9 rfl (lv_at hl 0 rfl) ?_
      refine lv_bipush (v := 6) hx hb dX6_excuse_10 (by decide) ?_
      refine lv_iload_n hx hb dX6_excuse_12 rfl (lv_at hl 1 rfl) ?_
      refine lv_iconst (v := 0) hx hb dX6_excuse_13 (by decide) ?_
      refine kc_i hw (va_runV (As := [.int 6, .int a1, .int 0]) (rest := []) ⟨hx, hb, hml, hc.2.2.1, hc.2.2.2⟩ (m_X6_happen l g S B y 6 a1 0 _ _ hN hev) (kw_V hc 3 q652 q654 qs43 q1 q655 rfl rfl (by decide +kernel) ⟨Nat.le_of_ble_eq_true rfl, Nat.le_of_ble_eq_true rfl⟩) (kp_V hk hw at_G rfl) rfl rfl hl.1 rfl (lv_room (Nat.le_of_ble_eq_true rfl)) dX6_excuse_14 ⟨Nat.le_of_ble_eq_true rfl, Nat.le_of_ble_eq_true rfl⟩) (fun H locs hw => ?_)
      refine lv_iconst (v := 1) hx hb dX6_excuse_17 (by decide) ?_
      refine lv_icmp_ne (tgt := 25) hx hb dX6_excuse_18 (by decide) (fun h5 => ?_) (fun h5 => ?_)
      · refine lv_iconst (v := 0) hx hb dX6_excuse_25 (by decide) ?_
        refine vx_ret ?_
        refine W.widen (k := 2) (n := 12) (Nat.le_of_ble_eq_true rfl) (Nat.le_of_ble_eq_true rfl) ?_
        exact W.zret (v := 0) hx hb hr (by decide +kernel) (fun t9 ht hW => kz_i hw ht (by simp only [e_X6_excuse, if_pos h1, if_pos h3, if_neg h5]) (by simp only [f_X6_excuse, if_pos h1, if_pos h3, if_neg h5]) (by simp only [f_X6_excuse, if_pos h1, if_pos h3, if_neg h5])) hw.2.2.2 dX6_excuse_26
      · refine lv_iconst (v := 1) hx hb dX6_excuse_21 (by decide) ?_
        refine lv_goto (tgt := 26) hx hb dX6_excuse_22 (by decide) ?_
        refine vx_ret ?_
        refine W.widen (k := 2) (n := 12) (Nat.le_of_ble_eq_true rfl) (Nat.le_of_ble_eq_true rfl) ?_
        exact W.zret (v := 1) hx hb hr (by decide +kernel) (fun t9 ht hW => kz_i hw ht (by simp only [e_X6_excuse, if_pos h1, if_pos h3, if_pos h5]) (by simp only [f_X6_excuse, if_pos h1, if_pos h3, if_pos h5]) (by simp only [f_X6_excuse, if_pos h1, if_pos h3, if_pos h5])) hw.2.2.2 dX6_excuse_26
def f_X6_takeStep (a1 : Int32) (B : BT) : Int32 × BT :=
  (if e_X6_known a1 B = none then (if e_X6_requireAtIntake (f_X6_known a1 B) B = none then (if B (10 + (f_X6_known a1 B)) 10 = (-1) then ((f_X6_happen 7 a1 0 B).1, (f_X6_happen 7 a1 0 B).2) else (0, B)) else (0, B)) else (0, B))
def e_X6_takeStep (a1 : Int32) (B : BT) : Option String :=
  (if e_X6_known a1 B = none then (if e_X6_requireAtIntake (f_X6_known a1 B) B = none then (if B (10 + (f_X6_known a1 B)) 10 = (-1) then none else some "java/lang/UnsupportedOperationException") else e_X6_requireAtIntake (f_X6_known a1 B) B) else e_X6_known a1 B)
set_option maxHeartbeats 4000000 in
set_option maxRecDepth 100000 in
theorem m_X6_takeStep (l : Launch) (g : wG) (hfl : l.stackTraces = false) (S : Nat → BT) (B : BT) (y : (Nat → Nat → Int32) × (Nat → Int64) × (Nat → UInt64)) (a1 : Int32) (n m9 : Nat) (hN : CN B n m9) (hev : ¬ S 2 0 1 < 0) : xI l yX6_takeStep cX6_takeStep 3 (some .int) ({ frames := 10, cells := 3, slots := 18, locals := 232 } : Room) 3 18 g (xB S 0 B y) [.ref (gA g 0), .int a1] (e_X6_takeStep a1 B) ((f_X6_takeStep a1 B).1) (xB (f_X2_keep 7 a1 0 0 0 S) 0 (f_X6_takeStep a1 B).2 y) := by
  refine vx_ofW (cc := cX6_takeStep) (maxL := 3) (ret := some .int) (by decide) rfl ?_
  intro p9 e s m args below meth c s₁ BL hml hT hv
  obtain ⟨rfl, hk, hPB⟩ := hv
  have hx := BL.exec
  have hb := BL.bytes
  have hc : CX p9 c cX6_takeStep s _ m RX6 := ⟨hx, hb, findClass_of_methodNamed BL.named, fun w h => atoms_spec BL.pre w (List.mem_cons_of_mem _ h)⟩
  have hr := BL.returns
  have hlocks := BL.notSynchronized
  have hw : WS g s (xB S 0 B y) s.heap [] := ⟨hPB, va_S.rf⟩
  have hl := lv_entry ([.ref (gA g 0), .int a1]) (n := 3) (Nat.le_of_ble_eq_true rfl)
  rw [lg_entry_eq]
  generalize (lg_sl ([.ref (gA g 0), .int a1]) ++ List.replicate (3 - (lg_sl ([.ref (gA g 0), .int a1])).length) Slot.unset).toArray = ls at hl ⊢
  have hl : lv_has ls 3 [(0, .ref (gA g 0)), (1, .int a1)] := hl
  refine lv_aload_n hx hb dX6_takeStep_0 rfl (lv_at hl 0 rfl) ?_
  refine lv_iload_n hx hb dX6_takeStep_1 rfl (lv_at hl 1 rfl) ?_
  refine kx_r hw (vx_runV (As := [.int a1]) (rest := []) ⟨hx, hb, hml, hc.2.2.1, hc.2.2.2⟩ (m_X6_known l g hfl S B y a1 _ _ hN) (kw_V hc 1 q692 q694 qs46 q1 q695 rfl rfl (by decide +kernel) ⟨Nat.le_of_ble_eq_true rfl, Nat.le_of_ble_eq_true rfl⟩) (kp_V hk hw at_G rfl) rfl rfl hl.1 rfl (lv_room (Nat.le_of_ble_eq_true rfl)) dX6_takeStep_2 ⟨Nat.le_of_ble_eq_true rfl, Nat.le_of_ble_eq_true rfl⟩) (fun E ce q8 H locs h1 hw hq hv hE => ?_) (fun H locs h1 hw => ?_)
  · have hn : ¬ e_X6_known a1 B = none := by rw [h1]; exact Option.some_ne_none _
    exact k_out hT hlocks hw hq hv hE (Eq.trans (b := e_X6_known a1 B) (by simp only [e_X6_takeStep, if_neg hn]) h1) (Nat.le_of_ble_eq_true rfl) (Nat.le_of_ble_eq_true rfl)
  · refine lv_astore_n (lv' := [(2, .ref (gA g (jC 0 (f_X6_known a1 B)))), (0, .ref (gA g 0)), (1, .int a1)]) hx hb dX6_takeStep_5 rfl hl (by decide) rfl (fun ls hl => ?_)
    refine lv_aload_n hx hb dX6_takeStep_6 rfl (lv_at hl 1 rfl) ?_
    refine lv_aload_n hx hb dX6_takeStep_7 rfl (lv_at hl 0 rfl) ?_
    refine kx_v hw (vx_runV (As := [.ref (gA g (jC 0 (f_X6_known a1 B)))]) (rest := []) ⟨hx, hb, hml, hc.2.2.1, hc.2.2.2⟩ (m_X6_requireAtIntake l g hfl S B y (f_X6_known a1 B) (lt_X6_known hN)) (kw_V hc 1 q697 q699 qs47 q1 q700 rfl rfl (by decide +kernel) ⟨Nat.le_of_ble_eq_true rfl, Nat.le_of_ble_eq_true rfl⟩) (kp_V hk hw at_G rfl) rfl rfl hl.1 rfl (lv_room (Nat.le_of_ble_eq_true rfl)) dX6_takeStep_8 ⟨Nat.le_of_ble_eq_true rfl, Nat.le_of_ble_eq_true rfl⟩) (fun E ce q8 H locs h3 hw hq hv hE => ?_) (fun H locs h3 hw => ?_)
    · have hn : ¬ e_X6_requireAtIntake (f_X6_known a1 B) B = none := by rw [h3]; exact Option.some_ne_none _
      exact k_out hT hlocks hw hq hv hE (Eq.trans (b := e_X6_requireAtIntake (f_X6_known a1 B) B) (by simp only [e_X6_takeStep, if_pos h1, if_neg hn]) h3) (Nat.le_of_ble_eq_true rfl) (Nat.le_of_ble_eq_true rfl)
    · refine lv_aload_n hx hb dX6_takeStep_11 rfl (lv_at hl 0 rfl) ?_
      refine k_getN hc hk hw (bt_C (by decide : 0 < 2) (lt_X6_known hN)) rfl iX1 10 (by decide) nq157 (v := .int (B (10 + (f_X6_known a1 B)) 10)) rfl dX6_takeStep_12 ?_
      refine lv_iconst (v := (-1)) hx hb dX6_takeStep_15 (by decide) ?_
      refine lv_icmp_eq (tgt := 29) hx hb dX6_takeStep_16 (by decide) (fun h5 => ?_) (fun h5 => ?_)
      · refine lv_aload_n hx hb dX6_takeStep_29 rfl (lv_at hl 1 rfl) ?_
        refine lv_bipush (v := 7) hx hb dX6_takeStep_30 (by decide) ?_
        refine lv_iload_n hx hb dX6_takeStep_32 rfl (lv_at hl 2 rfl) ?_
        refine lv_iconst (v := 0) hx hb dX6_takeStep_33 (by decide) ?_
        refine kc_i hw (va_runV (As := [.int 7, .int a1, .int 0]) (rest := []) ⟨hx, hb, hml, hc.2.2.1, hc.2.2.2⟩ (m_X6_happen l g S B y 7 a1 0 _ _ hN hev) (kw_V hc 3 q652 q654 qs43 q1 q655 rfl rfl (by decide +kernel) ⟨Nat.le_of_ble_eq_true rfl, Nat.le_of_ble_eq_true rfl⟩) (kp_V hk hw at_G rfl) rfl rfl hl.1 rfl (lv_room (Nat.le_of_ble_eq_true rfl)) dX6_takeStep_34 ⟨Nat.le_of_ble_eq_true rfl, Nat.le_of_ble_eq_true rfl⟩) (fun H locs hw => ?_)
        refine vx_ret ?_
        refine W.widen (k := 3) (n := 18) (Nat.le_of_ble_eq_true rfl) (Nat.le_of_ble_eq_true rfl) ?_
        exact W.iret (v := (f_X6_happen 7 a1 0 B).1) hx hb hr (fun t9 ht hW => kz_i hw ht (by simp only [e_X6_takeStep, if_pos h1, if_pos h3, if_pos h5]) (by simp only [f_X6_takeStep, if_pos h1, if_pos h3, if_pos h5]) (by simp only [f_X6_takeStep, if_pos h1, if_pos h3, if_pos h5])) hw.2.2.2 dX6_takeStep_37
      · exact k_throwS (text := "the first step was told") hc hk hw hfl hT hlocks hml hl (by decide) tw_80_84 (by decide) dX6_takeStep_19 dX6_takeStep_22 dX6_takeStep_23 dX6_takeStep_25 dX6_takeStep_28 (Nat.le_of_ble_eq_true rfl) (Nat.le_of_ble_eq_true rfl) (Nat.le_of_ble_eq_true rfl) (Nat.le_of_ble_eq_true rfl) (by simp only [e_X6_takeStep, if_pos h1, if_pos h3, if_neg h5]) (Nat.le_of_ble_eq_true rfl) (Nat.le_of_ble_eq_true rfl)
def f_X6_examine (a1 : Int32) (B : BT) : Int32 × BT :=
  (if e_X6_known a1 B = none then (if e_X6_requireAtIntake (f_X6_known a1 B) B = none then ((((f_X6_happen 8 a1 0 B).1).toUInt32 % 65536).toInt32, (f_X6_happen 8 a1 0 B).2) else (0, B)) else (0, B))
def e_X6_examine (a1 : Int32) (B : BT) : Option String :=
  (if e_X6_known a1 B = none then (if e_X6_requireAtIntake (f_X6_known a1 B) B = none then none else e_X6_requireAtIntake (f_X6_known a1 B) B) else e_X6_known a1 B)
set_option maxHeartbeats 4000000 in
set_option maxRecDepth 100000 in
theorem m_X6_examine (l : Launch) (g : wG) (hfl : l.stackTraces = false) (S : Nat → BT) (B : BT) (y : (Nat → Nat → Int32) × (Nat → Int64) × (Nat → UInt64)) (a1 : Int32) (n m9 : Nat) (hN : CN B n m9) (hev : ¬ S 2 0 1 < 0) : xI l yX6_examine cX6_examine 2 (some .char) ({ frames := 10, cells := 2, slots := 12, locals := 232 } : Room) 2 12 g (xB S 0 B y) [.ref (gA g 0), .int a1] (e_X6_examine a1 B) ((f_X6_examine a1 B).1) (xB (f_X2_keep 8 a1 0 0 0 S) 0 (f_X6_examine a1 B).2 y) := by
  refine vx_ofW (cc := cX6_examine) (maxL := 2) (ret := some .char) (by decide) rfl ?_
  intro p9 e s m args below meth c s₁ BL hml hT hv
  obtain ⟨rfl, hk, hPB⟩ := hv
  have hx := BL.exec
  have hb := BL.bytes
  have hc : CX p9 c cX6_examine s _ m RX6 := ⟨hx, hb, findClass_of_methodNamed BL.named, fun w h => atoms_spec BL.pre w (List.mem_cons_of_mem _ h)⟩
  have hr := BL.returns
  have hlocks := BL.notSynchronized
  have hw : WS g s (xB S 0 B y) s.heap [] := ⟨hPB, va_S.rf⟩
  have hl := lv_entry ([.ref (gA g 0), .int a1]) (n := 2) (Nat.le_of_ble_eq_true rfl)
  rw [lg_entry_eq]
  generalize (lg_sl ([.ref (gA g 0), .int a1]) ++ List.replicate (2 - (lg_sl ([.ref (gA g 0), .int a1])).length) Slot.unset).toArray = ls at hl ⊢
  have hl : lv_has ls 2 [(0, .ref (gA g 0)), (1, .int a1)] := hl
  refine lv_aload_n hx hb dX6_examine_0 rfl (lv_at hl 0 rfl) ?_
  refine lv_aload_n hx hb dX6_examine_1 rfl (lv_at hl 0 rfl) ?_
  refine lv_iload_n hx hb dX6_examine_2 rfl (lv_at hl 1 rfl) ?_
  refine kx_r hw (vx_runV (As := [.int a1]) (rest := [.ref (gA g 0)]) ⟨hx, hb, hml, hc.2.2.1, hc.2.2.2⟩ (m_X6_known l g hfl S B y a1 _ _ hN) (kw_V hc 1 q692 q694 qs46 q1 q695 rfl rfl (by decide +kernel) ⟨Nat.le_of_ble_eq_true rfl, Nat.le_of_ble_eq_true rfl⟩) (kp_V hk hw at_G rfl) rfl rfl hl.1 rfl (lv_room (Nat.le_of_ble_eq_true rfl)) dX6_examine_3 ⟨Nat.le_of_ble_eq_true rfl, Nat.le_of_ble_eq_true rfl⟩) (fun E ce q8 H locs h1 hw hq hv hE => ?_) (fun H locs h1 hw => ?_)
  · have hn : ¬ e_X6_known a1 B = none := by rw [h1]; exact Option.some_ne_none _
    exact k_out hT hlocks hw hq hv hE (Eq.trans (b := e_X6_known a1 B) (by simp only [e_X6_examine, if_neg hn]) h1) (Nat.le_of_ble_eq_true rfl) (Nat.le_of_ble_eq_true rfl)
  · refine kx_v hw (vx_runV (As := [.ref (gA g (jC 0 (f_X6_known a1 B)))]) (rest := []) ⟨hx, hb, hml, hc.2.2.1, hc.2.2.2⟩ (m_X6_requireAtIntake l g hfl S B y (f_X6_known a1 B) (lt_X6_known hN)) (kw_V hc 1 q697 q699 qs47 q1 q700 rfl rfl (by decide +kernel) ⟨Nat.le_of_ble_eq_true rfl, Nat.le_of_ble_eq_true rfl⟩) (kp_V hk hw at_G rfl) rfl rfl hl.1 rfl (lv_room (Nat.le_of_ble_eq_true rfl)) dX6_examine_6 ⟨Nat.le_of_ble_eq_true rfl, Nat.le_of_ble_eq_true rfl⟩) (fun E ce q8 H locs h3 hw hq hv hE => ?_) (fun H locs h3 hw => ?_)
    · have hn : ¬ e_X6_requireAtIntake (f_X6_known a1 B) B = none := by rw [h3]; exact Option.some_ne_none _
      exact k_out hT hlocks hw hq hv hE (Eq.trans (b := e_X6_requireAtIntake (f_X6_known a1 B) B) (by simp only [e_X6_examine, if_pos h1, if_neg hn]) h3) (Nat.le_of_ble_eq_true rfl) (Nat.le_of_ble_eq_true rfl)
    · refine lv_aload_n hx hb dX6_examine_9 rfl (lv_at hl 0 rfl) ?_
      refine lv_bipush (v := 8) hx hb dX6_examine_10 (by decide) ?_
      refine lv_iload_n hx hb dX6_examine_12 rfl (lv_at hl 1 rfl) ?_
      refine lv_iconst (v := 0) hx hb dX6_examine_13 (by decide) ?_
      refine kc_i hw (va_runV (As := [.int 8, .int a1, .int 0]) (rest := []) ⟨hx, hb, hml, hc.2.2.1, hc.2.2.2⟩ (m_X6_happen l g S B y 8 a1 0 _ _ hN hev) (kw_V hc 3 q652 q654 qs43 q1 q655 rfl rfl (by decide +kernel) ⟨Nat.le_of_ble_eq_true rfl, Nat.le_of_ble_eq_true rfl⟩) (kp_V hk hw at_G rfl) rfl rfl hl.1 rfl (lv_room (Nat.le_of_ble_eq_true rfl)) dX6_examine_14 ⟨Nat.le_of_ble_eq_true rfl, Nat.le_of_ble_eq_true rfl⟩) (fun H locs hw => ?_)
      refine lv_i2c (v := (((f_X6_happen 8 a1 0 B).1).toUInt32 % 65536).toInt32) hx hb dX6_examine_17 rfl ?_
      refine vx_ret ?_
      refine W.widen (k := 2) (n := 12) (Nat.le_of_ble_eq_true rfl) (Nat.le_of_ble_eq_true rfl) ?_
      exact W.zret (v := (((f_X6_happen 8 a1 0 B).1).toUInt32 % 65536).toInt32) hx hb hr (okc_i2c ((f_X6_happen 8 a1 0 B).1)).1 (fun t9 ht hW => kz_i hw ht (by simp only [e_X6_examine, if_pos h1, if_pos h3]) (by simp only [f_X6_examine, if_pos h1, if_pos h3]) (by simp only [f_X6_examine, if_pos h1, if_pos h3])) hw.2.2.2 dX6_examine_18
def f_X6_state (a1 : Int32) (B : BT) : Int32 :=
  (if e_X6_known a1 B = none then B (10 + (f_X6_known a1 B)) 11 else 0)
def e_X6_state (a1 : Int32) (B : BT) : Option String :=
  (if e_X6_known a1 B = none then none else e_X6_known a1 B)
set_option maxHeartbeats 4000000 in
set_option maxRecDepth 100000 in
theorem m_X6_state (l : Launch) (g : wG) (hfl : l.stackTraces = false) (S : Nat → BT) (B : BT) (y : (Nat → Nat → Int32) × (Nat → Int64) × (Nat → UInt64)) (a1 : Int32) (n m9 : Nat) (hN : CN B n m9) : xI l yX6_state cX6_state 2 (some .char) ({ frames := 7, cells := 1, slots := 6, locals := 121 } : Room) 1 6 g (xB S 0 B y) [.ref (gA g 0), .int a1] (e_X6_state a1 B) (f_X6_state a1 B) (xB S 0 B y) := by
  refine vx_ofW (cc := cX6_state) (maxL := 2) (ret := some .char) (by decide) rfl ?_
  intro p9 e s m args below meth c s₁ BL hml hT hv
  obtain ⟨rfl, hk, hPB⟩ := hv
  have hx := BL.exec
  have hb := BL.bytes
  have hc : CX p9 c cX6_state s _ m RX6 := ⟨hx, hb, findClass_of_methodNamed BL.named, fun w h => atoms_spec BL.pre w (List.mem_cons_of_mem _ h)⟩
  have hr := BL.returns
  have hlocks := BL.notSynchronized
  have hw : WS g s (xB S 0 B y) s.heap [] := ⟨hPB, va_S.rf⟩
  have hl := lv_entry ([.ref (gA g 0), .int a1]) (n := 2) (Nat.le_of_ble_eq_true rfl)
  rw [lg_entry_eq]
  generalize (lg_sl ([.ref (gA g 0), .int a1]) ++ List.replicate (2 - (lg_sl ([.ref (gA g 0), .int a1])).length) Slot.unset).toArray = ls at hl ⊢
  have hl : lv_has ls 2 [(0, .ref (gA g 0)), (1, .int a1)] := hl
  refine lv_aload_n hx hb dX6_state_0 rfl (lv_at hl 0 rfl) ?_
  refine lv_iload_n hx hb dX6_state_1 rfl (lv_at hl 1 rfl) ?_
  refine kx_r hw (vx_runV (As := [.int a1]) (rest := []) ⟨hx, hb, hml, hc.2.2.1, hc.2.2.2⟩ (m_X6_known l g hfl S B y a1 _ _ hN) (kw_V hc 1 q692 q694 qs46 q1 q695 rfl rfl (by decide +kernel) ⟨Nat.le_of_ble_eq_true rfl, Nat.le_of_ble_eq_true rfl⟩) (kp_V hk hw at_G rfl) rfl rfl hl.1 rfl (lv_room (Nat.le_of_ble_eq_true rfl)) dX6_state_2 ⟨Nat.le_of_ble_eq_true rfl, Nat.le_of_ble_eq_true rfl⟩) (fun E ce q8 H locs h1 hw hq hv hE => ?_) (fun H locs h1 hw => ?_)
  · have hn : ¬ e_X6_known a1 B = none := by rw [h1]; exact Option.some_ne_none _
    exact k_out hT hlocks hw hq hv hE (Eq.trans (b := e_X6_known a1 B) (by simp only [e_X6_state, if_neg hn]) h1) (Nat.le_of_ble_eq_true rfl) (Nat.le_of_ble_eq_true rfl)
  · refine k_getN hc hk hw (bt_C (by decide : 0 < 2) (lt_X6_known hN)) rfl iX1 11 (by decide) nq160 (v := .int (B (10 + (f_X6_known a1 B)) 11)) rfl dX6_state_5 ?_
    refine vx_ret ?_
    refine W.widen (k := 1) (n := 6) (Nat.le_of_ble_eq_true rfl) (Nat.le_of_ble_eq_true rfl) ?_
    exact W.zret (v := B (10 + (f_X6_known a1 B)) 11) hx hb hr (CN.sto hN (lt_X6_known hN)).1 (fun t9 ht hW => kz_i hw ht (by simp only [e_X6_state, if_pos h1]) (by simp only [f_X6_state, if_pos h1]) rfl) hw.2.2.2 dX6_state_8
