/-! the model, third part -/
def j_X7_nextDue_12 (M : BT) (k : Nat) : Int32 :=
  (if f_X7_isJoined (nI k) M = 0 then (if M 11 k = 97 then (if M 16 k < M 0 1 then 0 else 1) else (if M 11 k = 100 then (if M 16 k < M 0 1 then 0 else 1) else 0)) else 0)
def j_X7_nextDue_61 (M : BT) (k : Nat) (z : Int32) : Int32 :=
  (if (j_X7_nextDue_12 M k) = 0 then z else (if z = (-1) then M 16 k else (if z ≤ M 16 k then z else M 16 k)))
def b_nextDue7 (M : BT) (k : Nat) (z : Int32) : Int32 :=
  (j_X7_nextDue_61 M k z)
def L_nextDue7 (M : BT) : Nat → Int32
  | 0 => (-1)
  | k + 1 => b_nextDue7 M k (L_nextDue7 M k)
def f_X7_nextDue  (M : BT) : Int32 × BT :=
  (if (L_nextDue7 M ((M 0 3).toNatClampNeg)) = (-1) then (0, up2 M 0 0 1) else ((L_nextDue7 M ((M 0 3).toNatClampNeg)), up2 M 0 0 0))
theorem cn_X7_nextDue  {M : BT} {n m9 : Nat} (hN : MN M n m9) : MN ((f_X7_nextDue M).2) n m9 := by
  unfold f_X7_nextDue
  by_cases h14 : (L_nextDue7 M ((M 0 3).toNatClampNeg)) = (-1)
  · simp only [if_pos h14]
    exact (MN.up0 (by decide) (by decide) hN)
  · simp only [if_neg h14]
    exact (MN.up0 (by decide) (by decide) hN)
set_option maxHeartbeats 4000000 in
set_option maxRecDepth 100000 in
theorem m_X7_nextDue (l : Launch) (g : wG) (S : Nat → BT) (M : BT) (o : (Nat → Int64) × (Nat → UInt64)) (n m9 : Nat) (hN : MN M n m9) : mI l yX7_nextDue cX7_nextDue 4 (some .int) ({ frames := 1, cells := 0, slots := 0, locals := 21 } : Room) 0 0 g (xM S M o) [.ref (gA g (jM 0))] ((f_X7_nextDue M).1) (xM S ((f_X7_nextDue M).2) o) := by
  refine Met.ofW (cc := cX7_nextDue) (maxL := 4) (ret := some .int) (by decide) rfl ?_
  intro p9 e s m args below meth c s₁ BL hml hv
  obtain ⟨rfl, hk, hPB⟩ := hv
  have hx := BL.exec
  have hb := BL.bytes
  have hc : CX p9 c cX7_nextDue s _ m RX7 := ⟨hx, hb, findClass_of_methodNamed BL.named, fun w h => atoms_spec BL.pre w (List.mem_cons_of_mem _ h)⟩
  have hr := BL.returns
  have hlocks := BL.notSynchronized
  have hw : WS g s (xM S M o) s.heap [] := ⟨hPB, va_S.rf⟩
  have hl := lv_entry ([.ref (gA g (jM 0))]) (n := 4) (Nat.le_of_ble_eq_true rfl)
  rw [lg_entry_eq]
  generalize (lg_sl ([.ref (gA g (jM 0))]) ++ List.replicate (4 - (lg_sl ([.ref (gA g (jM 0))])).length) Slot.unset).toArray = ls at hl ⊢
  have hl : lv_has ls 4 [(0, .ref (gA g (jM 0)))] := hl
  refine lv_iconst (v := (-1)) hx hb dX7_nextDue_0 (by decide) ?_
  refine lv_istore_n (lv' := [(1, .int (-1)), (0, .ref (gA g (jM 0)))]) hx hb dX7_nextDue_1 rfl hl (by decide) rfl (fun ls hl => ?_)
  refine lv_iconst (v := 0) hx hb dX7_nextDue_2 (by decide) ?_
  refine lv_istore_n (lv' := [(2, .int 0), (1, .int (-1)), (0, .ref (gA g (jM 0)))]) hx hb dX7_nextDue_3 rfl hl (by decide) rfl (fun ls hl => ?_)
  have LP1 : ∀ (f k : Nat), k ≤ (M 0 3).toNatClampNeg → (M 0 3).toNatClampNeg + 1 ≤ k + f → ∀ (H : Heap) (locs : List Loc), WS g s (xM S M o) H locs → ∀ (ls : Array Slot), lv_has ls 4 [(2, .int (nI k)), (1, .int (L_nextDue7 M k)), (0, .ref (gA g (jM 0)))] → W p9 l e ({ frames := 1, cells := 0, slots := 0, locals := 21 } : Room) s m ([.ref (gA g (jM 0))] : List Value).toArray below meth c H locs 0 0 (MQ below (va_Qi (fun (v : Int32) (u : wSt) => v = (f_X7_nextDue M).1 ∧ u = (xM S ((f_X7_nextDue M).2) o)) (PB g) (AA g)) (([.ref (gA g (jM 0))] : List Value).toArray) s 0 0 (AA g)) (F0 m 4 ls []) := by
    intro f
    induction f with
    | zero => intro k h1 h2; exact absurd h2 (by omega)
    | succ f ih =>
      intro k hk9 hf9 H locs hw ls hl
      have hl4 := MN.l4 hN
      refine lv_iload_n hx hb dX7_nextDue_4 rfl (lv_at hl 0 rfl) ?_
      refine lv_aload_n hx hb dX7_nextDue_5 rfl (lv_at hl 2 rfl) ?_
      refine k_get hc hk hw at_M rfl iX7 3 (by decide) q1038 (v := .int (M 0 3)) rfl dX7_nextDue_6 ?_
      refine lv_icmp_ge (tgt := 97) hx hb dX7_nextDue_9 (by decide) (fun h2 => ?_) (fun h2 => ?_)
      · have hkn := lp_out h2 (MN.cc hN hN) hk9 (by omega)
        subst hkn
        refine lv_aload_n hx hb dX7_nextDue_97 rfl (lv_at hl 2 rfl) ?_
        refine lv_iload_n hx hb dX7_nextDue_98 rfl (lv_at hl 1 rfl) ?_
        refine lv_iconst (v := (-1)) hx hb dX7_nextDue_99 (by decide) ?_
        refine lv_icmp_ne (tgt := 107) hx hb dX7_nextDue_100 (by decide) (fun h3 => ?_) (fun h3 => ?_)
        · refine lv_iconst (v := 0) hx hb dX7_nextDue_107 (by decide) ?_
          refine k_put hc hk hw (x' := (xM S (up2 M 0 0 0) o)) at_M rfl iX7 tyX7 tyX7_ok nmX7 0 (by decide) q1035 rfl rfl rfl (Nat.le_of_ble_eq_true rfl) dX7_nextDue_108 (ms_0 (by decide)) (fun H locs hw => ?_)
          refine lv_aload_n hx hb dX7_nextDue_111 rfl (lv_at hl 2 rfl) ?_
          refine k_get hc hk hw at_M rfl iX7 0 (by decide) q1035 (v := .int 0) rfl dX7_nextDue_112 ?_
          refine lv_if_le (tgt := 122) hx hb dX7_nextDue_115 (by decide) (fun _ => ?_) (fun h4 => absurd h4 (by decide))
          refine lv_iload_n hx hb dX7_nextDue_122 rfl (lv_at hl 1 rfl) ?_
          exact W.iret (v := (L_nextDue7 M ((M 0 3).toNatClampNeg))) hx hb hr (fun t9 ht hW => ke_i hw ht (by simp only [f_X7_nextDue, if_neg h3]) (by simp only [f_X7_nextDue, if_neg h3])) hw.2.2.2 dX7_nextDue_123
        · refine lv_iconst (v := 1) hx hb dX7_nextDue_103 (by decide) ?_
          refine lv_goto (tgt := 108) hx hb dX7_nextDue_104 (by decide) ?_
          refine k_put hc hk hw (x' := (xM S (up2 M 0 0 1) o)) at_M rfl iX7 tyX7 tyX7_ok nmX7 0 (by decide) q1035 rfl rfl rfl (Nat.le_of_ble_eq_true rfl) dX7_nextDue_108 (ms_0 (by decide)) (fun H locs hw => ?_)
          refine lv_aload_n hx hb dX7_nextDue_111 rfl (lv_at hl 2 rfl) ?_
          refine k_get hc hk hw at_M rfl iX7 0 (by decide) q1035 (v := .int 1) rfl dX7_nextDue_112 ?_
          refine lv_if_le (tgt := 122) hx hb dX7_nextDue_115 (by decide) (fun h5 => absurd h5 (by decide)) (fun _ => ?_)
          refine lv_iconst (v := 0) hx hb dX7_nextDue_118 (by decide) ?_
          refine lv_goto (tgt := 123) hx hb dX7_nextDue_119 (by decide) ?_
          exact W.iret (v := 0) hx hb hr (fun t9 ht hW => ke_i hw ht (by simp only [f_X7_nextDue, if_pos h3]) (by simp only [f_X7_nextDue, if_pos h3])) hw.2.2.2 dX7_nextDue_123
      · have hkn := lp_in h2 (MN.cc hN hN) hk9 (by omega)
        have J6 : ∀ (v : Int32), v = (j_X7_nextDue_12 M k) → ∀ (H : Heap) (locs : List Loc), WS g s (xM S M o) H locs → W p9 l e ({ frames := 1, cells := 0, slots := 0, locals := 21 } : Room) s m ([.ref (gA g (jM 0))] : List Value).toArray below meth c H locs 0 0 (MQ below (va_Qi (fun (v : Int32) (u : wSt) => v = (f_X7_nextDue M).1 ∧ u = (xM S ((f_X7_nextDue M).2) o)) (PB g) (AA g)) (([.ref (gA g (jM 0))] : List Value).toArray) s 0 0 (AA g)) (F0 m 60 ls (.int v :: ([] : List Value))) := by
          intro v ev H locs hw
          subst ev
          refine lv_istore_n (lv' := [(3, .int (j_X7_nextDue_12 M k)), (2, .int (nI k)), (1, .int (L_nextDue7 M k)), (0, .ref (gA g (jM 0)))]) hx hb dX7_nextDue_60 rfl hl (by decide) rfl (fun ls hl => ?_)
          have J7 : ∀ (v : Int32), v = (j_X7_nextDue_61 M k (L_nextDue7 M k)) → ∀ (H : Heap) (locs : List Loc), WS g s (xM S M o) H locs → W p9 l e ({ frames := 1, cells := 0, slots := 0, locals := 21 } : Room) s m ([.ref (gA g (jM 0))] : List Value).toArray below meth c H locs 0 0 (MQ below (va_Qi (fun (v : Int32) (u : wSt) => v = (f_X7_nextDue M).1 ∧ u = (xM S ((f_X7_nextDue M).2) o)) (PB g) (AA g)) (([.ref (gA g (jM 0))] : List Value).toArray) s 0 0 (AA g)) (F0 m 90 ls (.int v :: ([] : List Value))) := by
            intro v ev H locs hw
            subst ev
            refine lv_istore_n (lv' := [(1, .int (j_X7_nextDue_61 M k (L_nextDue7 M k))), (3, .int (j_X7_nextDue_12 M k)), (2, .int (nI k)), (0, .ref (gA g (jM 0)))]) hx hb dX7_nextDue_90 rfl hl (by decide) rfl (fun ls hl => ?_)
            refine lv_iinc (v := nI (k + 1)) (lv' := [(2, .int (nI (k + 1))), (1, .int (j_X7_nextDue_61 M k (L_nextDue7 M k))), (3, .int (j_X7_nextDue_12 M k)), (0, .ref (gA g (jM 0)))]) hx hb dX7_nextDue_91 hl (k := 2) rfl (by first | exact (nI_succ _).symm | rfl) (by decide) rfl (fun ls hl => ?_)
            refine lv_goto (tgt := 4) hx hb dX7_nextDue_94 (by decide) ?_
            have hw9 : WS g s (xM S M o) H locs := by
              exact hw
            have hl9 := lv_sub hl [0, 1, 3] rfl
            have e8 : (j_X7_nextDue_61 M k (L_nextDue7 M k)) = (L_nextDue7 M (k + 1)) := by simp only [L_nextDue7, b_nextDue7]
            rw [e8] at hl9
            exact ih (k + 1) (by omega) (by omega) _ _ hw9 _ hl9
          refine lv_iload_n hx hb dX7_nextDue_61 rfl (lv_at hl 0 rfl) ?_
          refine lv_if_eq (tgt := 89) hx hb dX7_nextDue_62 (by decide) (fun h9 => ?_) (fun h9 => ?_)
          · refine lv_iload_n hx hb dX7_nextDue_89 rfl (lv_at hl 2 rfl) ?_
            exact J7 (L_nextDue7 M k) (by simp only [j_X7_nextDue_61, if_pos h9]) _ _ hw
          · refine lv_iload_n hx hb dX7_nextDue_65 rfl (lv_at hl 2 rfl) ?_
            refine lv_iconst (v := (-1)) hx hb dX7_nextDue_66 (by decide) ?_
            refine lv_icmp_eq (tgt := 80) hx hb dX7_nextDue_67 (by decide) (fun h10 => ?_) (fun h10 => ?_)
            · refine lv_aload_n hx hb dX7_nextDue_80 rfl (lv_at hl 3 rfl) ?_
              refine k_get hc hk hw at_M rfl iX7 19 (by decide) q1054 (v := .ref (gA g (jM 16))) rfl dX7_nextDue_81 ?_
              refine lv_iload_n hx hb dX7_nextDue_84 rfl (lv_at hl 1 rfl) ?_
              refine k_iald (f := M 16) (n := k) hc hk hw (at_Mk (k := 16) (t := 0) (n := 20) (by decide) (by decide) (by decide) (by decide)) (vp_in_nI (Nat.lt_of_lt_of_le hkn (by omega)) (by omega)) (nI_clamp (by have := hkn; omega)) dX7_nextDue_85 ?_
              refine lv_goto (tgt := 90) hx hb dX7_nextDue_86 (by decide) ?_
              exact J7 (M 16 k) (by simp only [j_X7_nextDue_61, if_neg h9, if_pos h10]) _ _ hw
            · refine lv_aload_n hx hb dX7_nextDue_70 rfl (lv_at hl 3 rfl) ?_
              refine k_get hc hk hw at_M rfl iX7 19 (by decide) q1054 (v := .ref (gA g (jM 16))) rfl dX7_nextDue_71 ?_
              refine lv_iload_n hx hb dX7_nextDue_74 rfl (lv_at hl 1 rfl) ?_
              refine k_iald (f := M 16) (n := k) hc hk hw (at_Mk (k := 16) (t := 0) (n := 20) (by decide) (by decide) (by decide) (by decide)) (vp_in_nI (Nat.lt_of_lt_of_le hkn (by omega)) (by omega)) (nI_clamp (by have := hkn; omega)) dX7_nextDue_75 ?_
              refine lv_iload_n hx hb dX7_nextDue_76 rfl (lv_at hl 2 rfl) ?_
              refine lv_icmp_ge (tgt := 89) hx hb dX7_nextDue_77 (by decide) (fun h11 => ?_) (fun h11 => ?_)
              · refine lv_iload_n hx hb dX7_nextDue_89 rfl (lv_at hl 2 rfl) ?_
                exact J7 (L_nextDue7 M k) (by simp only [j_X7_nextDue_61, if_neg h9, if_neg h10, if_pos h11]) _ _ hw
              · refine lv_aload_n hx hb dX7_nextDue_80 rfl (lv_at hl 3 rfl) ?_
                refine k_get hc hk hw at_M rfl iX7 19 (by decide) q1054 (v := .ref (gA g (jM 16))) rfl dX7_nextDue_81 ?_
                refine lv_iload_n hx hb dX7_nextDue_84 rfl (lv_at hl 1 rfl) ?_
                refine k_iald (f := M 16) (n := k) hc hk hw (at_Mk (k := 16) (t := 0) (n := 20) (by decide) (by decide) (by decide) (by decide)) (vp_in_nI (Nat.lt_of_lt_of_le hkn (by omega)) (by omega)) (nI_clamp (by have := hkn; omega)) dX7_nextDue_85 ?_
                refine lv_goto (tgt := 90) hx hb dX7_nextDue_86 (by decide) ?_
                exact J7 (M 16 k) (by simp only [j_X7_nextDue_61, if_neg h9, if_neg h10, if_neg h11]) _ _ hw
        refine lv_aload_n hx hb dX7_nextDue_12 rfl (lv_at hl 2 rfl) ?_
        refine lv_iload_n hx hb dX7_nextDue_13 rfl (lv_at hl 0 rfl) ?_
        refine kc_i hw (va_runV (As := [.int (nI k)]) (rest := []) ⟨hx, hb, hml, hc.2.2.1, hc.2.2.2⟩ (m_X7_isJoined l g S M o (nI k) _ _ hN (vp_in_nI (Nat.lt_of_lt_of_le hkn (by omega)) (by omega))) (kw_V hc 1 q1148 q1150 qs61 q8 q1151 rfl rfl (by decide +kernel) ⟨Nat.le_of_ble_eq_true rfl, Nat.le_of_ble_eq_true rfl⟩) (kp_V hk hw at_M rfl) rfl rfl hl.1 rfl (lv_room (Nat.le_of_ble_eq_true rfl)) dX7_nextDue_14 ⟨Nat.le_of_ble_eq_true rfl, Nat.le_of_ble_eq_true rfl⟩) (fun H locs hw => ?_)
        refine lv_if_ne (tgt := 59) hx hb dX7_nextDue_17 (by decide) (fun h12 => ?_) (fun h12 => ?_)
        · refine lv_iconst (v := 0) hx hb dX7_nextDue_59 (by decide) ?_
          exact J6 0 (by simp only [j_X7_nextDue_12, if_neg h12]) _ _ hw
        · refine lv_aload_n hx hb dX7_nextDue_20 rfl (lv_at hl 2 rfl) ?_
          refine k_get hc hk hw at_M rfl iX7 14 (by decide) q1049 (v := .ref (gA g (jM 11))) rfl dX7_nextDue_21 ?_
          refine lv_iload_n hx hb dX7_nextDue_24 rfl (lv_at hl 0 rfl) ?_
          refine k_cald (f := M 11) (n := k) hc hk hw (at_Mk (k := 11) (t := 1) (n := 20) (by decide) (by decide) (by decide) (by decide)) (vp_in_nI (Nat.lt_of_lt_of_le hkn (by omega)) (by omega)) (nI_clamp (by have := hkn; omega)) dX7_nextDue_25 ?_
          refine lv_bipush (v := 97) hx hb dX7_nextDue_26 (by decide) ?_
          refine lv_icmp_eq (tgt := 42) hx hb dX7_nextDue_28 (by decide) (fun h13 => ?_) (fun h13 => ?_)
          · refine lv_aload_n hx hb dX7_nextDue_42 rfl (lv_at hl 2 rfl) ?_
            refine k_get hc hk hw at_M rfl iX7 19 (by decide) q1054 (v := .ref (gA g (jM 16))) rfl dX7_nextDue_43 ?_
            refine lv_iload_n hx hb dX7_nextDue_46 rfl (lv_at hl 0 rfl) ?_
            refine k_iald (f := M 16) (n := k) hc hk hw (at_Mk (k := 16) (t := 0) (n := 20) (by decide) (by decide) (by decide) (by decide)) (vp_in_nI (Nat.lt_of_lt_of_le hkn (by omega)) (by omega)) (nI_clamp (by have := hkn; omega)) dX7_nextDue_47 ?_
            refine lv_aload_n hx hb dX7_nextDue_48 rfl (lv_at hl 2 rfl) ?_
            refine k_get hc hk hw at_M rfl iX7 1 (by decide) q1036 (v := .int (M 0 1)) rfl dX7_nextDue_49 ?_
            refine lv_icmp_lt (tgt := 59) hx hb dX7_nextDue_52 (by decide) (fun h14 => ?_) (fun h14 => ?_)
            · refine lv_iconst (v := 0) hx hb dX7_nextDue_59 (by decide) ?_
              exact J6 0 (by simp only [j_X7_nextDue_12, if_pos h12, if_pos h13, if_pos h14]) _ _ hw
            · refine lv_iconst (v := 1) hx hb dX7_nextDue_55 (by decide) ?_
              refine lv_goto (tgt := 60) hx hb dX7_nextDue_56 (by decide) ?_
              exact J6 1 (by simp only [j_X7_nextDue_12, if_pos h12, if_pos h13, if_neg h14]) _ _ hw
          · refine lv_aload_n hx hb dX7_nextDue_31 rfl (lv_at hl 2 rfl) ?_
            refine k_get hc hk hw at_M rfl iX7 14 (by decide) q1049 (v := .ref (gA g (jM 11))) rfl dX7_nextDue_32 ?_
            refine lv_iload_n hx hb dX7_nextDue_35 rfl (lv_at hl 0 rfl) ?_
            refine k_cald (f := M 11) (n := k) hc hk hw (at_Mk (k := 11) (t := 1) (n := 20) (by decide) (by decide) (by decide) (by decide)) (vp_in_nI (Nat.lt_of_lt_of_le hkn (by omega)) (by omega)) (nI_clamp (by have := hkn; omega)) dX7_nextDue_36 ?_
            refine lv_bipush (v := 100) hx hb dX7_nextDue_37 (by decide) ?_
            refine lv_icmp_ne (tgt := 59) hx hb dX7_nextDue_39 (by decide) (fun h15 => ?_) (fun h15 => ?_)
            · refine lv_iconst (v := 0) hx hb dX7_nextDue_59 (by decide) ?_
              exact J6 0 (by simp only [j_X7_nextDue_12, if_pos h12, if_neg h13, if_neg h15]) _ _ hw
            · refine lv_aload_n hx hb dX7_nextDue_42 rfl (lv_at hl 2 rfl) ?_
              refine k_get hc hk hw at_M rfl iX7 19 (by decide) q1054 (v := .ref (gA g (jM 16))) rfl dX7_nextDue_43 ?_
              refine lv_iload_n hx hb dX7_nextDue_46 rfl (lv_at hl 0 rfl) ?_
              refine k_iald (f := M 16) (n := k) hc hk hw (at_Mk (k := 16) (t := 0) (n := 20) (by decide) (by decide) (by decide) (by decide)) (vp_in_nI (Nat.lt_of_lt_of_le hkn (by omega)) (by omega)) (nI_clamp (by have := hkn; omega)) dX7_nextDue_47 ?_
              refine lv_aload_n hx hb dX7_nextDue_48 rfl (lv_at hl 2 rfl) ?_
              refine k_get hc hk hw at_M rfl iX7 1 (by decide) q1036 (v := .int (M 0 1)) rfl dX7_nextDue_49 ?_
              refine lv_icmp_lt (tgt := 59) hx hb dX7_nextDue_52 (by decide) (fun h16 => ?_) (fun h16 => ?_)
              · refine lv_iconst (v := 0) hx hb dX7_nextDue_59 (by decide) ?_
                exact J6 0 (by simp only [j_X7_nextDue_12, if_pos h12, if_neg h13, if_pos h15, if_pos h16]) _ _ hw
              · refine lv_iconst (v := 1) hx hb dX7_nextDue_55 (by decide) ?_
                refine lv_goto (tgt := 60) hx hb dX7_nextDue_56 (by decide) ?_
                exact J6 1 (by simp only [j_X7_nextDue_12, if_pos h12, if_neg h13, if_pos h15, if_neg h16]) _ _ hw
  exact LP1 ((M 0 3).toNatClampNeg + 1) 0 (Nat.zero_le _) (by omega) _ _ hw _ (lv_sub hl [0, 1, 2] rfl)
def j_X7_join_43 (a1 : Int32) (M : BT) : Int32 :=
  (if f_X7_isJoined a1 (up2 M 0 0 0) = 0 then (if M 11 ((a1).toNatClampNeg) = 114 then (if f_X7_joinedTo a1 (up2 M 0 0 0) = 0 then 1 else 0) else 0) else 0)
def j_X7_join_76 (a2 : Int32) (M : BT) : Int32 :=
  (if M 11 ((a2).toNatClampNeg) = 114 then 1 else (if M 11 ((a2).toNatClampNeg) = 97 then 1 else (if M 11 ((a2).toNatClampNeg) = 115 then 1 else 0)))
def j_X7_join_116 (a1 : Int32) (a2 : Int32) (M : BT) : Int32 :=
  (if f_X7_isJoined a2 (up2 M 0 0 0) = 0 then (if (j_X7_join_76 a2 M) = 0 then 0 else (if M 6 ((a2).toNatClampNeg) = M 6 ((a1).toNatClampNeg) then (if M 7 ((a2).toNatClampNeg) = M 7 ((a1).toNatClampNeg) then 1 else 0) else 0)) else 0)
def f_X7_join (a1 : Int32) (a2 : Int32) (M : BT) : Int32 × BT :=
  (if f_X7_isComplaint a1 M = 0 then (0, up2 M 0 0 1) else (if f_X7_isComplaint a2 M = 0 then (0, up2 M 0 0 1) else (if a1 = a2 then (0, up2 M 0 0 2) else (if (j_X7_join_43 a1 M) = 0 then (0, up2 (up2 M 0 0 0) 0 0 3) else (if (j_X7_join_116 a1 a2 M) = 0 then (0, up2 (up2 M 0 0 0) 0 0 3) else (f_X7_joinedTo a2 (up2 (up2 (up2 M 0 0 0) 0 0 0) 12 ((a1).toNatClampNeg) a2), up2 (up2 (up2 M 0 0 0) 0 0 0) 12 ((a1).toNatClampNeg) a2))))))
theorem cn_X7_join {a1 : Int32} {a2 : Int32} {M : BT} {n m9 : Nat} (hN : MN M n m9) : MN ((f_X7_join a1 a2 M).2) n m9 := by
  unfold f_X7_join
  by_cases h1 : f_X7_isComplaint a1 M = 0
  · simp only [if_pos h1]
    exact (MN.up0 (by decide) (by decide) hN)
  · simp only [if_neg h1]
    by_cases h3 : f_X7_isComplaint a2 M = 0
    · simp only [if_pos h3]
      exact (MN.up0 (by decide) (by decide) hN)
    · simp only [if_neg h3]
      by_cases h4 : a1 = a2
      · simp only [if_pos h4]
        exact (MN.up0 (by decide) (by decide) hN)
      · simp only [if_neg h4]
        by_cases h9 : (j_X7_join_43 a1 M) = 0
        · simp only [if_pos h9]
          exact (MN.up0 (by decide) (by decide) (MN.up0 (by decide) (by decide) hN))
        · simp only [if_neg h9]
          by_cases h11 : (j_X7_join_116 a1 a2 M) = 0
          · simp only [if_pos h11]
            exact (MN.up0 (by decide) (by decide) (MN.up0 (by decide) (by decide) hN))
          · simp only [if_neg h11]
            exact (MN.up12 (Or.inr (isComplaint_in hN h3)) (MN.up0 (by decide) (by decide) (MN.up0 (by decide) (by decide) hN)))
set_option maxHeartbeats 4000000 in
set_option maxRecDepth 100000 in
theorem m_X7_join (l : Launch) (g : wG) (S : Nat → BT) (M : BT) (o : (Nat → Int64) × (Nat → UInt64)) (a1 : Int32) (a2 : Int32) (n m9 : Nat) (hN : MN M n m9) : mI l yX7_join cX7_join 6 (some .int) ({ frames := 2, cells := 0, slots := 0, locals := 43 } : Room) 0 0 g (xM S M o) [.ref (gA g (jM 0)), .int a1, .int a2] ((f_X7_join a1 a2 M).1) (xM S ((f_X7_join a1 a2 M).2) o) := by
  refine Met.ofW (cc := cX7_join) (maxL := 6) (ret := some .int) (by decide) rfl ?_
  intro p9 e s m args below meth c s₁ BL hml hv
  obtain ⟨rfl, hk, hPB⟩ := hv
  have hx := BL.exec
  have hb := BL.bytes
  have hc : CX p9 c cX7_join s _ m RX7 := ⟨hx, hb, findClass_of_methodNamed BL.named, fun w h => atoms_spec BL.pre w (List.mem_cons_of_mem _ h)⟩
  have hr := BL.returns
  have hlocks := BL.notSynchronized
  have hw : WS g s (xM S M o) s.heap [] := ⟨hPB, va_S.rf⟩
  have hl := lv_entry ([.ref (gA g (jM 0)), .int a1, .int a2]) (n := 6) (Nat.le_of_ble_eq_true rfl)
  rw [lg_entry_eq]
  generalize (lg_sl ([.ref (gA g (jM 0)), .int a1, .int a2]) ++ List.replicate (6 - (lg_sl ([.ref (gA g (jM 0)), .int a1, .int a2])).length) Slot.unset).toArray = ls at hl ⊢
  have hl : lv_has ls 6 [(0, .ref (gA g (jM 0))), (1, .int a1), (2, .int a2)] := hl
  refine lv_aload_n hx hb dX7_join_0 rfl (lv_at hl 0 rfl) ?_
  refine lv_aload_n hx hb dX7_join_1 rfl (lv_at hl 0 rfl) ?_
  refine lv_iload_n hx hb dX7_join_2 rfl (lv_at hl 1 rfl) ?_
  refine kc_i hw (va_runV (As := [.int a1]) (rest := [.ref (gA g (jM 0))]) ⟨hx, hb, hml, hc.2.2.1, hc.2.2.2⟩ (m_X7_isComplaint l g S M o a1 _ _ hN) (kw_V hc 1 q1176 q1178 qs65 q8 q1179 rfl rfl (by decide +kernel) ⟨Nat.le_of_ble_eq_true rfl, Nat.le_of_ble_eq_true rfl⟩) (kp_V hk hw at_M rfl) rfl rfl hl.1 rfl (lv_room (Nat.le_of_ble_eq_true rfl)) dX7_join_3 ⟨Nat.le_of_ble_eq_true rfl, Nat.le_of_ble_eq_true rfl⟩) (fun H locs hw => ?_)
  refine lv_if_eq (tgt := 17) hx hb dX7_join_6 (by decide) (fun h1 => ?_) (fun h1 => ?_)
  · refine lv_iconst (v := 1) hx hb dX7_join_17 (by decide) ?_
    refine lv_goto (tgt := 31) hx hb dX7_join_18 (by decide) ?_
    refine k_put hc hk hw (x' := (xM S (up2 M 0 0 1) o)) at_M rfl iX7 tyX7 tyX7_ok nmX7 0 (by decide) q1035 rfl rfl rfl (Nat.le_of_ble_eq_true rfl) dX7_join_31 (ms_0 (by decide)) (fun H locs hw => ?_)
    refine lv_aload_n hx hb dX7_join_34 rfl (lv_at hl 0 rfl) ?_
    refine k_get hc hk hw at_M rfl iX7 0 (by decide) q1035 (v := .int 1) rfl dX7_join_35 ?_
    refine lv_if_le (tgt := 43) hx hb dX7_join_38 (by decide) (fun h2 => absurd h2 (by decide)) (fun _ => ?_)
    refine lv_iconst (v := 0) hx hb dX7_join_41 (by decide) ?_
    exact W.iret (v := 0) hx hb hr (fun t9 ht hW => ke_i hw ht (by simp only [f_X7_join, if_pos h1]) (by simp only [f_X7_join, if_pos h1])) hw.2.2.2 dX7_join_42
  · refine lv_aload_n hx hb dX7_join_9 rfl (lv_at hl 0 rfl) ?_
    refine lv_iload_n hx hb dX7_join_10 rfl (lv_at hl 2 rfl) ?_
    refine kc_i hw (va_runV (As := [.int a2]) (rest := [.ref (gA g (jM 0))]) ⟨hx, hb, hml, hc.2.2.1, hc.2.2.2⟩ (m_X7_isComplaint l g S M o a2 _ _ hN) (kw_V hc 1 q1176 q1178 qs65 q8 q1179 rfl rfl (by decide +kernel) ⟨Nat.le_of_ble_eq_true rfl, Nat.le_of_ble_eq_true rfl⟩) (kp_V hk hw at_M rfl) rfl rfl hl.1 rfl (lv_room (Nat.le_of_ble_eq_true rfl)) dX7_join_11 ⟨Nat.le_of_ble_eq_true rfl, Nat.le_of_ble_eq_true rfl⟩) (fun H locs hw => ?_)
    refine lv_if_ne (tgt := 21) hx hb dX7_join_14 (by decide) (fun h3 => ?_) (fun h3 => ?_)
    · refine lv_iload_n hx hb dX7_join_21 rfl (lv_at hl 1 rfl) ?_
      refine lv_iload_n hx hb dX7_join_22 rfl (lv_at hl 2 rfl) ?_
      refine lv_icmp_ne (tgt := 30) hx hb dX7_join_23 (by decide) (fun h4 => ?_) (fun h4 => ?_)
      · refine lv_iconst (v := 0) hx hb dX7_join_30 (by decide) ?_
        refine k_put hc hk hw (x' := (xM S (up2 M 0 0 0) o)) at_M rfl iX7 tyX7 tyX7_ok nmX7 0 (by decide) q1035 rfl rfl rfl (Nat.le_of_ble_eq_true rfl) dX7_join_31 (ms_0 (by decide)) (fun H locs hw => ?_)
        refine lv_aload_n hx hb dX7_join_34 rfl (lv_at hl 0 rfl) ?_
        refine k_get hc hk hw at_M rfl iX7 0 (by decide) q1035 (v := .int 0) rfl dX7_join_35 ?_
        refine lv_if_le (tgt := 43) hx hb dX7_join_38 (by decide) (fun _ => ?_) (fun h5 => absurd h5 (by decide))
        have J6 : ∀ (v : Int32), v = (j_X7_join_43 a1 M) → ∀ (H : Heap) (locs : List Loc), WS g s (xM S (up2 M 0 0 0) o) H locs → W p9 l e ({ frames := 2, cells := 0, slots := 0, locals := 43 } : Room) s m ([.ref (gA g (jM 0)), .int a1, .int a2] : List Value).toArray below meth c H locs 0 0 (MQ below (va_Qi (fun (v : Int32) (u : wSt) => v = (f_X7_join a1 a2 M).1 ∧ u = (xM S ((f_X7_join a1 a2 M).2) o)) (PB g) (AA g)) (([.ref (gA g (jM 0)), .int a1, .int a2] : List Value).toArray) s 0 0 (AA g)) (F0 m 75 ls (.int v :: ([] : List Value))) := by
          intro v ev H locs hw
          subst ev
          refine lv_istore_n (lv' := [(3, .int (j_X7_join_43 a1 M)), (0, .ref (gA g (jM 0))), (1, .int a1), (2, .int a2)]) hx hb dX7_join_75 rfl hl (by decide) rfl (fun ls hl => ?_)
          have J7 : ∀ (v : Int32), v = (j_X7_join_76 a2 M) → ∀ (H : Heap) (locs : List Loc), WS g s (xM S (up2 M 0 0 0) o) H locs → W p9 l e ({ frames := 2, cells := 0, slots := 0, locals := 43 } : Room) s m ([.ref (gA g (jM 0)), .int a1, .int a2] : List Value).toArray below meth c H locs 0 0 (MQ below (va_Qi (fun (v : Int32) (u : wSt) => v = (f_X7_join a1 a2 M).1 ∧ u = (xM S ((f_X7_join a1 a2 M).2) o)) (PB g) (AA g)) (([.ref (gA g (jM 0)), .int a1, .int a2] : List Value).toArray) s 0 0 (AA g)) (F0 m 114 ls (.int v :: ([] : List Value))) := by
            intro v ev H locs hw
            subst ev
            refine lv_istore (lv' := [(4, .int (j_X7_join_76 a2 M)), (3, .int (j_X7_join_43 a1 M)), (0, .ref (gA g (jM 0))), (1, .int a1), (2, .int a2)]) hx hb dX7_join_114 hl (by decide) rfl (fun ls hl => ?_)
            have J8 : ∀ (v : Int32), v = (j_X7_join_116 a1 a2 M) → ∀ (H : Heap) (locs : List Loc), WS g s (xM S (up2 M 0 0 0) o) H locs → W p9 l e ({ frames := 2, cells := 0, slots := 0, locals := 43 } : Room) s m ([.ref (gA g (jM 0)), .int a1, .int a2] : List Value).toArray below meth c H locs 0 0 (MQ below (va_Qi (fun (v : Int32) (u : wSt) => v = (f_X7_join a1 a2 M).1 ∧ u = (xM S ((f_X7_join a1 a2 M).2) o)) (PB g) (AA g)) (([.ref (gA g (jM 0)), .int a1, .int a2] : List Value).toArray) s 0 0 (AA g)) (F0 m 164 ls (.int v :: ([] : List Value))) := by
              intro v ev H locs hw
              subst ev
              refine lv_istore (lv' := [(5, .int (j_X7_join_116 a1 a2 M)), (4, .int (j_X7_join_76 a2 M)), (3, .int (j_X7_join_43 a1 M)), (0, .ref (gA g (jM 0))), (1, .int a1), (2, .int a2)]) hx hb dX7_join_164 hl (by decide) rfl (fun ls hl => ?_)
              refine lv_aload_n hx hb dX7_join_166 rfl (lv_at hl 3 rfl) ?_
              refine lv_iload_n hx hb dX7_join_167 rfl (lv_at hl 2 rfl) ?_
              refine lv_if_eq (tgt := 180) hx hb dX7_join_168 (by decide) (fun h9 => ?_) (fun h9 => ?_)
              · refine lv_iconst (v := 3) hx hb dX7_join_180 (by decide) ?_
                refine k_put hc hk hw (x' := (xM S (up2 (up2 M 0 0 0) 0 0 3) o)) at_M rfl iX7 tyX7 tyX7_ok nmX7 0 (by decide) q1035 rfl rfl rfl (Nat.le_of_ble_eq_true rfl) dX7_join_181 (ms_0 (by decide)) (fun H locs hw => ?_)
                refine lv_aload_n hx hb dX7_join_184 rfl (lv_at hl 3 rfl) ?_
                refine k_get hc hk hw at_M rfl iX7 0 (by decide) q1035 (v := .int 3) rfl dX7_join_185 ?_
                refine lv_if_le (tgt := 193) hx hb dX7_join_188 (by decide) (fun h10 => absurd h10 (by decide)) (fun _ => ?_)
                refine lv_iconst (v := 0) hx hb dX7_join_191 (by decide) ?_
                exact W.iret (v := 0) hx hb hr (fun t9 ht hW => ke_i hw ht (by simp only [f_X7_join, if_neg h1, if_neg h3, if_neg h4, if_pos h9]) (by simp only [f_X7_join, if_neg h1, if_neg h3, if_neg h4, if_pos h9])) hw.2.2.2 dX7_join_192
              · refine lv_iload hx hb dX7_join_171 (lv_at hl 0 rfl) ?_
                refine lv_if_eq (tgt := 180) hx hb dX7_join_173 (by decide) (fun h11 => ?_) (fun h11 => ?_)
                · refine lv_iconst (v := 3) hx hb dX7_join_180 (by decide) ?_
                  refine k_put hc hk hw (x' := (xM S (up2 (up2 M 0 0 0) 0 0 3) o)) at_M rfl iX7 tyX7 tyX7_ok nmX7 0 (by decide) q1035 rfl rfl rfl (Nat.le_of_ble_eq_true rfl) dX7_join_181 (ms_0 (by decide)) (fun H locs hw => ?_)
                  refine lv_aload_n hx hb dX7_join_184 rfl (lv_at hl 3 rfl) ?_
                  refine k_get hc hk hw at_M rfl iX7 0 (by decide) q1035 (v := .int 3) rfl dX7_join_185 ?_
                  refine lv_if_le (tgt := 193) hx hb dX7_join_188 (by decide) (fun h12 => absurd h12 (by decide)) (fun _ => ?_)
                  refine lv_iconst (v := 0) hx hb dX7_join_191 (by decide) ?_
                  exact W.iret (v := 0) hx hb hr (fun t9 ht hW => ke_i hw ht (by simp only [f_X7_join, if_neg h1, if_neg h3, if_neg h4, if_neg h9, if_pos h11]) (by simp only [f_X7_join, if_neg h1, if_neg h3, if_neg h4, if_neg h9, if_pos h11])) hw.2.2.2 dX7_join_192
                · refine lv_iconst (v := 0) hx hb dX7_join_176 (by decide) ?_
                  refine lv_goto (tgt := 181) hx hb dX7_join_177 (by decide) ?_
                  refine k_put hc hk hw (x' := (xM S (up2 (up2 M 0 0 0) 0 0 0) o)) at_M rfl iX7 tyX7 tyX7_ok nmX7 0 (by decide) q1035 rfl rfl rfl (Nat.le_of_ble_eq_true rfl) dX7_join_181 (ms_0 (by decide)) (fun H locs hw => ?_)
                  refine lv_aload_n hx hb dX7_join_184 rfl (lv_at hl 3 rfl) ?_
                  refine k_get hc hk hw at_M rfl iX7 0 (by decide) q1035 (v := .int 0) rfl dX7_join_185 ?_
                  refine lv_if_le (tgt := 193) hx hb dX7_join_188 (by decide) (fun _ => ?_) (fun h13 => absurd h13 (by decide))
                  refine lv_aload_n hx hb dX7_join_193 rfl (lv_at hl 3 rfl) ?_
                  refine k_get hc hk hw at_M rfl iX7 15 (by decide) q1050 (v := .ref (gA g (jM 12))) rfl dX7_join_194 ?_
                  refine lv_iload_n hx hb dX7_join_197 rfl (lv_at hl 4 rfl) ?_
                  refine lv_iload_n hx hb dX7_join_198 rfl (lv_at hl 5 rfl) ?_
                  refine k_iast (x' := (xM S (up2 (up2 (up2 M 0 0 0) 0 0 0) 12 ((a1).toNatClampNeg) a2) o)) (f := (up2 (up2 M 0 0 0) 0 0 0) 12) (n := ((a1).toNatClampNeg)) hc hk hw (at_Mk (k := 12) (t := 0) (n := 20) (by decide) (by decide) (by decide) (by decide)) (isComplaint_in hN h1) rfl dX7_join_199 (ms_k (k := 12) (t := 0) (n := 20) (by decide) (by decide) (by decide) (by decide)) (fun H locs hw => ?_)
                  refine lv_aload_n hx hb dX7_join_200 rfl (lv_at hl 3 rfl) ?_
                  refine lv_iload_n hx hb dX7_join_201 rfl (lv_at hl 5 rfl) ?_
                  refine kc_i hw (va_runV (As := [.int a2]) (rest := []) ⟨hx, hb, hml, hc.2.2.1, hc.2.2.2⟩ (m_X7_joinedTo l g S (up2 (up2 (up2 M 0 0 0) 0 0 0) 12 ((a1).toNatClampNeg) a2) o a2 _ _ (MN.up12 (Or.inr (isComplaint_in hN h3)) (MN.up0 (by decide) (by decide) (MN.up0 (by decide) (by decide) hN)))) (kw_V hc 1 q1238 q1240 qs68 q8 q1241 rfl rfl (by decide +kernel) ⟨Nat.le_of_ble_eq_true rfl, Nat.le_of_ble_eq_true rfl⟩) (kp_V hk hw at_M rfl) rfl rfl hl.1 rfl (lv_room (Nat.le_of_ble_eq_true rfl)) dX7_join_202 ⟨Nat.le_of_ble_eq_true rfl, Nat.le_of_ble_eq_true rfl⟩) (fun H locs hw => ?_)
                  exact W.iret (v := f_X7_joinedTo a2 (up2 (up2 (up2 M 0 0 0) 0 0 0) 12 ((a1).toNatClampNeg) a2)) hx hb hr (fun t9 ht hW => ke_i hw ht (by simp only [f_X7_join, if_neg h1, if_neg h3, if_neg h4, if_neg h9, if_neg h11]) (by simp only [f_X7_join, if_neg h1, if_neg h3, if_neg h4, if_neg h9, if_neg h11])) hw.2.2.2 dX7_join_205
            refine lv_aload_n hx hb dX7_join_116 rfl (lv_at hl 2 rfl) ?_
            refine lv_iload_n hx hb dX7_join_117 rfl (lv_at hl 4 rfl) ?_
            refine kc_i hw (va_runV (As := [.int a2]) (rest := []) ⟨hx, hb, hml, hc.2.2.1, hc.2.2.2⟩ (m_X7_isJoined l g S (up2 M 0 0 0) o a2 _ _ (MN.up0 (by decide) (by decide) hN) (isComplaint_in hN h3)) (kw_V hc 1 q1148 q1150 qs61 q8 q1151 rfl rfl (by decide +kernel) ⟨Nat.le_of_ble_eq_true rfl, Nat.le_of_ble_eq_true rfl⟩) (kp_V hk hw at_M rfl) rfl rfl hl.1 rfl (lv_room (Nat.le_of_ble_eq_true rfl)) dX7_join_118 ⟨Nat.le_of_ble_eq_true rfl, Nat.le_of_ble_eq_true rfl⟩) (fun H locs hw => ?_)
            refine lv_if_ne (tgt := 163) hx hb dX7_join_121 (by decide) (fun h14 => ?_) (fun h14 => ?_)
            · refine lv_iconst (v := 0) hx hb dX7_join_163 (by decide) ?_
              exact J8 0 (by simp only [j_X7_join_116, if_neg h14]) _ _ hw
            · refine lv_iload hx hb dX7_join_124 (lv_at hl 0 rfl) ?_
              refine lv_if_eq (tgt := 163) hx hb dX7_join_126 (by decide) (fun h15 => ?_) (fun h15 => ?_)
              · refine lv_iconst (v := 0) hx hb dX7_join_163 (by decide) ?_
                exact J8 0 (by simp only [j_X7_join_116, if_pos h14, if_pos h15]) _ _ hw
              · refine lv_aload_n hx hb dX7_join_129 rfl (lv_at hl 2 rfl) ?_
                refine k_get hc hk hw at_M rfl iX7 9 (by decide) q1044 (v := .ref (gA g (jM 6))) rfl dX7_join_130 ?_
                refine lv_iload_n hx hb dX7_join_133 rfl (lv_at hl 4 rfl) ?_
                refine k_iald (f := M 6) (n := ((a2).toNatClampNeg)) hc hk hw (at_Mk (k := 6) (t := 0) (n := 20) (by decide) (by decide) (by decide) (by decide)) (isComplaint_in hN h3) rfl dX7_join_134 ?_
                refine lv_aload_n hx hb dX7_join_135 rfl (lv_at hl 2 rfl) ?_
                refine k_get hc hk hw at_M rfl iX7 9 (by decide) q1044 (v := .ref (gA g (jM 6))) rfl dX7_join_136 ?_
                refine lv_iload_n hx hb dX7_join_139 rfl (lv_at hl 3 rfl) ?_
                refine k_iald (f := M 6) (n := ((a1).toNatClampNeg)) hc hk hw (at_Mk (k := 6) (t := 0) (n := 20) (by decide) (by decide) (by decide) (by decide)) (isComplaint_in hN h1) rfl dX7_join_140 ?_
                refine lv_icmp_ne (tgt := 163) hx hb dX7_join_141 (by decide) (fun h16 => ?_) (fun h16 => ?_)
                · refine lv_iconst (v := 0) hx hb dX7_join_163 (by decide) ?_
                  exact J8 0 (by simp only [j_X7_join_116, if_pos h14, if_neg h15, if_neg h16]) _ _ hw
                · refine lv_aload_n hx hb dX7_join_144 rfl (lv_at hl 2 rfl) ?_
                  refine k_get hc hk hw at_M rfl iX7 10 (by decide) q1045 (v := .ref (gA g (jM 7))) rfl dX7_join_145 ?_
                  refine lv_iload_n hx hb dX7_join_148 rfl (lv_at hl 4 rfl) ?_
                  refine k_iald (f := M 7) (n := ((a2).toNatClampNeg)) hc hk hw (at_Mk (k := 7) (t := 0) (n := 20) (by decide) (by decide) (by decide) (by decide)) (isComplaint_in hN h3) rfl dX7_join_149 ?_
                  refine lv_aload_n hx hb dX7_join_150 rfl (lv_at hl 2 rfl) ?_
                  refine k_get hc hk hw at_M rfl iX7 10 (by decide) q1045 (v := .ref (gA g (jM 7))) rfl dX7_join_151 ?_
                  refine lv_iload_n hx hb dX7_join_154 rfl (lv_at hl 3 rfl) ?_
                  refine k_iald (f := M 7) (n := ((a1).toNatClampNeg)) hc hk hw (at_Mk (k := 7) (t := 0) (n := 20) (by decide) (by decide) (by decide) (by decide)) (isComplaint_in hN h1) rfl dX7_join_155 ?_
                  refine lv_icmp_ne (tgt := 163) hx hb dX7_join_156 (by decide) (fun h17 => ?_) (fun h17 => ?_)
                  · refine lv_iconst (v := 0) hx hb dX7_join_163 (by decide) ?_
                    exact J8 0 (by simp only [j_X7_join_116, if_pos h14, if_neg h15, if_pos h16, if_neg h17]) _ _ hw
                  · refine lv_iconst (v := 1) hx hb dX7_join_159 (by decide) ?_
                    refine lv_goto (tgt := 164) hx hb dX7_join_160 (by decide) ?_
                    exact J8 1 (by simp only [j_X7_join_116, if_pos h14, if_neg h15, if_pos h16, if_pos h17]) _ _ hw
          refine lv_aload_n hx hb dX7_join_76 rfl (lv_at hl 1 rfl) ?_
          refine k_get hc hk hw at_M rfl iX7 14 (by decide) q1049 (v := .ref (gA g (jM 11))) rfl dX7_join_77 ?_
          refine lv_iload_n hx hb dX7_join_80 rfl (lv_at hl 3 rfl) ?_
          refine k_cald (f := M 11) (n := ((a2).toNatClampNeg)) hc hk hw (at_Mk (k := 11) (t := 1) (n := 20) (by decide) (by decide) (by decide) (by decide)) (isComplaint_in hN h3) rfl dX7_join_81 ?_
          refine lv_bipush (v := 114) hx hb dX7_join_82 (by decide) ?_
          refine lv_icmp_eq (tgt := 109) hx hb dX7_join_84 (by decide) (fun h18 => ?_) (fun h18 => ?_)
          · refine lv_iconst (v := 1) hx hb dX7_join_109 (by decide) ?_
            refine lv_goto (tgt := 114) hx hb dX7_join_110 (by decide) ?_
            exact J7 1 (by simp only [j_X7_join_76, if_pos h18]) _ _ hw
          · refine lv_aload_n hx hb dX7_join_87 rfl (lv_at hl 1 rfl) ?_
            refine k_get hc hk hw at_M rfl iX7 14 (by decide) q1049 (v := .ref (gA g (jM 11))) rfl dX7_join_88 ?_
            refine lv_iload_n hx hb dX7_join_91 rfl (lv_at hl 3 rfl) ?_
            refine k_cald (f := M 11) (n := ((a2).toNatClampNeg)) hc hk hw (at_Mk (k := 11) (t := 1) (n := 20) (by decide) (by decide) (by decide) (by decide)) (isComplaint_in hN h3) rfl dX7_join_92 ?_
            refine lv_bipush (v := 97) hx hb dX7_join_93 (by decide) ?_
            refine lv_icmp_eq (tgt := 109) hx hb dX7_join_95 (by decide) (fun h19 => ?_) (fun h19 => ?_)
            · refine lv_iconst (v := 1) hx hb dX7_join_109 (by decide) ?_
              refine lv_goto (tgt := 114) hx hb dX7_join_110 (by decide) ?_
              exact J7 1 (by simp only [j_X7_join_76, if_neg h18, if_pos h19]) _ _ hw
            · refine lv_aload_n hx hb dX7_join_98 rfl (lv_at hl 1 rfl) ?_
              refine k_get hc hk hw at_M rfl iX7 14 (by decide) q1049 (v := .ref (gA g (jM 11))) rfl dX7_join_99 ?_
              refine lv_iload_n hx hb dX7_join_102 rfl (lv_at hl 3 rfl) ?_
              refine k_cald (f := M 11) (n := ((a2).toNatClampNeg)) hc hk hw (at_Mk (k := 11) (t := 1) (n := 20) (by decide) (by decide) (by decide) (by decide)) (isComplaint_in hN h3) rfl dX7_join_103 ?_
              refine lv_bipush (v := 115) hx hb dX7_join_104 (by decide) ?_
              refine lv_icmp_ne (tgt := 113) hx hb dX7_join_106 (by decide) (fun h20 => ?_) (fun h20 => ?_)
              · refine lv_iconst (v := 0) hx hb dX7_join_113 (by decide) ?_
                exact J7 0 (by simp only [j_X7_join_76, if_neg h18, if_neg h19, if_neg h20]) _ _ hw
              · refine lv_iconst (v := 1) hx hb dX7_join_109 (by decide) ?_
                refine lv_goto (tgt := 114) hx hb dX7_join_110 (by decide) ?_
                exact J7 1 (by simp only [j_X7_join_76, if_neg h18, if_neg h19, if_pos h20]) _ _ hw
        refine lv_aload_n hx hb dX7_join_43 rfl (lv_at hl 0 rfl) ?_
        refine lv_iload_n hx hb dX7_join_44 rfl (lv_at hl 1 rfl) ?_
        refine kc_i hw (va_runV (As := [.int a1]) (rest := []) ⟨hx, hb, hml, hc.2.2.1, hc.2.2.2⟩ (m_X7_isJoined l g S (up2 M 0 0 0) o a1 _ _ (MN.up0 (by decide) (by decide) hN) (isComplaint_in hN h1)) (kw_V hc 1 q1148 q1150 qs61 q8 q1151 rfl rfl (by decide +kernel) ⟨Nat.le_of_ble_eq_true rfl, Nat.le_of_ble_eq_true rfl⟩) (kp_V hk hw at_M rfl) rfl rfl hl.1 rfl (lv_room (Nat.le_of_ble_eq_true rfl)) dX7_join_45 ⟨Nat.le_of_ble_eq_true rfl, Nat.le_of_ble_eq_true rfl⟩) (fun H locs hw => ?_)
        refine lv_if_ne (tgt := 74) hx hb dX7_join_48 (by decide) (fun h21 => ?_) (fun h21 => ?_)
        · refine lv_iconst (v := 0) hx hb dX7_join_74 (by decide) ?_
          exact J6 0 (by simp only [j_X7_join_43, if_neg h21]) _ _ hw
        · refine lv_aload_n hx hb dX7_join_51 rfl (lv_at hl 0 rfl) ?_
          refine k_get hc hk hw at_M rfl iX7 14 (by decide) q1049 (v := .ref (gA g (jM 11))) rfl dX7_join_52 ?_
          refine lv_iload_n hx hb dX7_join_55 rfl (lv_at hl 1 rfl) ?_
          refine k_cald (f := M 11) (n := ((a1).toNatClampNeg)) hc hk hw (at_Mk (k := 11) (t := 1) (n := 20) (by decide) (by decide) (by decide) (by decide)) (isComplaint_in hN h1) rfl dX7_join_56 ?_
          refine lv_bipush (v := 114) hx hb dX7_join_57 (by decide) ?_
          refine lv_icmp_ne (tgt := 74) hx hb dX7_join_59 (by decide) (fun h22 => ?_) (fun h22 => ?_)
          · refine lv_iconst (v := 0) hx hb dX7_join_74 (by decide) ?_
            exact J6 0 (by simp only [j_X7_join_43, if_pos h21, if_neg h22]) _ _ hw
          · refine lv_aload_n hx hb dX7_join_62 rfl (lv_at hl 0 rfl) ?_
            refine lv_iload_n hx hb dX7_join_63 rfl (lv_at hl 1 rfl) ?_
            refine kc_i hw (va_runV (As := [.int a1]) (rest := []) ⟨hx, hb, hml, hc.2.2.1, hc.2.2.2⟩ (m_X7_joinedTo l g S (up2 M 0 0 0) o a1 _ _ (MN.up0 (by decide) (by decide) hN)) (kw_V hc 1 q1238 q1240 qs68 q8 q1241 rfl rfl (by decide +kernel) ⟨Nat.le_of_ble_eq_true rfl, Nat.le_of_ble_eq_true rfl⟩) (kp_V hk hw at_M rfl) rfl rfl hl.1 rfl (lv_room (Nat.le_of_ble_eq_true rfl)) dX7_join_64 ⟨Nat.le_of_ble_eq_true rfl, Nat.le_of_ble_eq_true rfl⟩) (fun H locs hw => ?_)
            refine lv_if_ne (tgt := 74) hx hb dX7_join_67 (by decide) (fun h23 => ?_) (fun h23 => ?_)
            · refine lv_iconst (v := 0) hx hb dX7_join_74 (by decide) ?_
              exact J6 0 (by simp only [j_X7_join_43, if_pos h21, if_pos h22, if_neg h23]) _ _ hw
            · refine lv_iconst (v := 1) hx hb dX7_join_70 (by decide) ?_
              refine lv_goto (tgt := 75) hx hb dX7_join_71 (by decide) ?_
              exact J6 1 (by simp only [j_X7_join_43, if_pos h21, if_pos h22, if_pos h23]) _ _ hw
      · refine lv_iconst (v := 2) hx hb dX7_join_26 (by decide) ?_
        refine lv_goto (tgt := 31) hx hb dX7_join_27 (by decide) ?_
        refine k_put hc hk hw (x' := (xM S (up2 M 0 0 2) o)) at_M rfl iX7 tyX7 tyX7_ok nmX7 0 (by decide) q1035 rfl rfl rfl (Nat.le_of_ble_eq_true rfl) dX7_join_31 (ms_0 (by decide)) (fun H locs hw => ?_)
        refine lv_aload_n hx hb dX7_join_34 rfl (lv_at hl 0 rfl) ?_
        refine k_get hc hk hw at_M rfl iX7 0 (by decide) q1035 (v := .int 2) rfl dX7_join_35 ?_
        refine lv_if_le (tgt := 43) hx hb dX7_join_38 (by decide) (fun h24 => absurd h24 (by decide)) (fun _ => ?_)
        refine lv_iconst (v := 0) hx hb dX7_join_41 (by decide) ?_
        exact W.iret (v := 0) hx hb hr (fun t9 ht hW => ke_i hw ht (by simp only [f_X7_join, if_neg h1, if_neg h3, if_pos h4]) (by simp only [f_X7_join, if_neg h1, if_neg h3, if_pos h4])) hw.2.2.2 dX7_join_42
    · refine lv_iconst (v := 1) hx hb dX7_join_17 (by decide) ?_
      refine lv_goto (tgt := 31) hx hb dX7_join_18 (by decide) ?_
      refine k_put hc hk hw (x' := (xM S (up2 M 0 0 1) o)) at_M rfl iX7 tyX7 tyX7_ok nmX7 0 (by decide) q1035 rfl rfl rfl (Nat.le_of_ble_eq_true rfl) dX7_join_31 (ms_0 (by decide)) (fun H locs hw => ?_)
      refine lv_aload_n hx hb dX7_join_34 rfl (lv_at hl 0 rfl) ?_
      refine k_get hc hk hw at_M rfl iX7 0 (by decide) q1035 (v := .int 1) rfl dX7_join_35 ?_
      refine lv_if_le (tgt := 43) hx hb dX7_join_38 (by decide) (fun h25 => absurd h25 (by decide)) (fun _ => ?_)
      refine lv_iconst (v := 0) hx hb dX7_join_41 (by decide) ?_
      exact W.iret (v := 0) hx hb hr (fun t9 ht hW => ke_i hw ht (by simp only [f_X7_join, if_neg h1, if_pos h3]) (by simp only [f_X7_join, if_neg h1, if_pos h3])) hw.2.2.2 dX7_join_42
def f_X7_part (a1 : Int32) (M : BT) : Int32 × BT :=
  (if (f_X7_noComplaint a1 M).1 = 0 then (if ((f_X7_noComplaint a1 M).2) 12 ((a1).toNatClampNeg) = (-1) then (0, up2 ((f_X7_noComplaint a1 M).2) 0 0 2) else (if ((f_X7_noComplaint a1 M).2) 20 ((((f_X7_noComplaint a1 M).2) 12 ((a1).toNatClampNeg)).toNatClampNeg) = (-1) then (((f_X7_noComplaint a1 M).2) 12 ((a1).toNatClampNeg), up2 (up2 (up2 ((f_X7_noComplaint a1 M).2) 0 0 0) 12 ((a1).toNatClampNeg) (-1)) 11 ((a1).toNatClampNeg) 114) else (0, up2 ((f_X7_noComplaint a1 M).2) 0 0 2))) else (0, (f_X7_noComplaint a1 M).2))
theorem cn_X7_part {a1 : Int32} {M : BT} {n m9 : Nat} (hN : MN M n m9) : MN ((f_X7_part a1 M).2) n m9 := by
  unfold f_X7_part
  by_cases h1 : (f_X7_noComplaint a1 M).1 = 0
  · simp only [if_pos h1]
    by_cases h2 : ((f_X7_noComplaint a1 M).2) 12 ((a1).toNatClampNeg) = (-1)
    · simp only [if_pos h2]
      exact (MN.up0 (by decide) (by decide) (cn_X7_noComplaint hN))
    · simp only [if_neg h2]
      by_cases h4 : ((f_X7_noComplaint a1 M).2) 20 ((((f_X7_noComplaint a1 M).2) 12 ((a1).toNatClampNeg)).toNatClampNeg) = (-1)
      · simp only [if_pos h4]
        exact (MN.up11 ⟨by decide +kernel, by decide +kernel, by decide +kernel⟩ (MN.up12 (Or.inl rfl) (MN.up0 (by decide) (by decide) (cn_X7_noComplaint hN))))
      · simp only [if_neg h4]
        exact (MN.up0 (by decide) (by decide) (cn_X7_noComplaint hN))
  · simp only [if_neg h1]
    exact (cn_X7_noComplaint hN)
set_option maxHeartbeats 4000000 in
set_option maxRecDepth 100000 in
theorem m_X7_part (l : Launch) (g : wG) (S : Nat → BT) (M : BT) (o : (Nat → Int64) × (Nat → UInt64)) (a1 : Int32) (n m9 : Nat) (hN : MN M n m9) : mI l yX7_part cX7_part 3 (some .int) ({ frames := 3, cells := 0, slots := 0, locals := 64 } : Room) 0 0 g (xM S M o) [.ref (gA g (jM 0)), .int a1] ((f_X7_part a1 M).1) (xM S ((f_X7_part a1 M).2) o) := by
  refine Met.ofW (cc := cX7_part) (maxL := 3) (ret := some .int) (by decide) rfl ?_
  intro p9 e s m args below meth c s₁ BL hml hv
  obtain ⟨rfl, hk, hPB⟩ := hv
  have hx := BL.exec
  have hb := BL.bytes
  have hc : CX p9 c cX7_part s _ m RX7 := ⟨hx, hb, findClass_of_methodNamed BL.named, fun w h => atoms_spec BL.pre w (List.mem_cons_of_mem _ h)⟩
  have hr := BL.returns
  have hlocks := BL.notSynchronized
  have hw : WS g s (xM S M o) s.heap [] := ⟨hPB, va_S.rf⟩
  have hl := lv_entry ([.ref (gA g (jM 0)), .int a1]) (n := 3) (Nat.le_of_ble_eq_true rfl)
  rw [lg_entry_eq]
  generalize (lg_sl ([.ref (gA g (jM 0)), .int a1]) ++ List.replicate (3 - (lg_sl ([.ref (gA g (jM 0)), .int a1])).length) Slot.unset).toArray = ls at hl ⊢
  have hl : lv_has ls 3 [(0, .ref (gA g (jM 0))), (1, .int a1)] := hl
  refine lv_aload_n hx hb dX7_part_0 rfl (lv_at hl 0 rfl) ?_
  refine lv_iload_n hx hb dX7_part_1 rfl (lv_at hl 1 rfl) ?_
  refine kc_i hw (va_runV (As := [.int a1]) (rest := []) ⟨hx, hb, hml, hc.2.2.1, hc.2.2.2⟩ (m_X7_noComplaint l g S M o a1 _ _ hN) (kw_V hc 1 q1172 q1174 qs64 q8 q1175 rfl rfl (by decide +kernel) ⟨Nat.le_of_ble_eq_true rfl, Nat.le_of_ble_eq_true rfl⟩) (kp_V hk hw at_M rfl) rfl rfl hl.1 rfl (lv_room (Nat.le_of_ble_eq_true rfl)) dX7_part_2 ⟨Nat.le_of_ble_eq_true rfl, Nat.le_of_ble_eq_true rfl⟩) (fun H locs hw => ?_)
  refine lv_if_eq (tgt := 10) hx hb dX7_part_5 (by decide) (fun h1 => ?_) (fun h1 => ?_)
  · refine lv_aload_n hx hb dX7_part_10 rfl (lv_at hl 0 rfl) ?_
    refine k_get hc hk hw at_M rfl iX7 15 (by decide) q1050 (v := .ref (gA g (jM 12))) rfl dX7_part_11 ?_
    refine lv_iload_n hx hb dX7_part_14 rfl (lv_at hl 1 rfl) ?_
    refine k_iald (f := ((f_X7_noComplaint a1 M).2) 12) (n := ((a1).toNatClampNeg)) hc hk hw (at_Mk (k := 12) (t := 0) (n := 20) (by decide) (by decide) (by decide) (by decide)) (noComplaint_in hN h1) rfl dX7_part_15 ?_
    refine lv_istore_n (lv' := [(2, .int (((f_X7_noComplaint a1 M).2) 12 ((a1).toNatClampNeg))), (0, .ref (gA g (jM 0))), (1, .int a1)]) hx hb dX7_part_16 rfl hl (by decide) rfl (fun ls hl => ?_)
    refine lv_aload_n hx hb dX7_part_17 rfl (lv_at hl 1 rfl) ?_
    refine lv_iload_n hx hb dX7_part_18 rfl (lv_at hl 0 rfl) ?_
    refine lv_iconst (v := (-1)) hx hb dX7_part_19 (by decide) ?_
    refine lv_icmp_eq (tgt := 33) hx hb dX7_part_20 (by decide) (fun h2 => ?_) (fun h2 => ?_)
    · refine lv_iconst (v := 2) hx hb dX7_part_33 (by decide) ?_
      refine lv_goto (tgt := 38) hx hb dX7_part_34 (by decide) ?_
      refine k_put hc hk hw (x' := (xM S (up2 ((f_X7_noComplaint a1 M).2) 0 0 2) o)) at_M rfl iX7 tyX7 tyX7_ok nmX7 0 (by decide) q1035 rfl rfl rfl (Nat.le_of_ble_eq_true rfl) dX7_part_38 (ms_0 (by decide)) (fun H locs hw => ?_)
      refine lv_aload_n hx hb dX7_part_41 rfl (lv_at hl 1 rfl) ?_
      refine k_get hc hk hw at_M rfl iX7 0 (by decide) q1035 (v := .int 2) rfl dX7_part_42 ?_
      refine lv_if_le (tgt := 50) hx hb dX7_part_45 (by decide) (fun h3 => absurd h3 (by decide)) (fun _ => ?_)
      refine lv_iconst (v := 0) hx hb dX7_part_48 (by decide) ?_
      exact W.iret (v := 0) hx hb hr (fun t9 ht hW => ke_i hw ht (by simp only [f_X7_part, if_pos h1, if_pos h2]) (by simp only [f_X7_part, if_pos h1, if_pos h2])) hw.2.2.2 dX7_part_49
    · refine lv_aload_n hx hb dX7_part_23 rfl (lv_at hl 1 rfl) ?_
      refine k_get hc hk hw at_M rfl iX7 23 (by decide) q1058 (v := .ref (gA g (jM 20))) rfl dX7_part_24 ?_
      refine lv_iload_n hx hb dX7_part_27 rfl (lv_at hl 0 rfl) ?_
      refine k_iald (f := ((f_X7_noComplaint a1 M).2) 20) (n := ((((f_X7_noComplaint a1 M).2) 12 ((a1).toNatClampNeg)).toNatClampNeg)) hc hk hw (at_Mk (k := 20) (t := 0) (n := 20) (by decide) (by decide) (by decide) (by decide)) (MN.ld (cn_X7_noComplaint hN) (vp_lt (noComplaint_in hN h1)) h2) rfl dX7_part_28 ?_
      refine lv_iconst (v := (-1)) hx hb dX7_part_29 (by decide) ?_
      refine lv_icmp_eq (tgt := 37) hx hb dX7_part_30 (by decide) (fun h4 => ?_) (fun h4 => ?_)
      · refine lv_iconst (v := 0) hx hb dX7_part_37 (by decide) ?_
        refine k_put hc hk hw (x' := (xM S (up2 ((f_X7_noComplaint a1 M).2) 0 0 0) o)) at_M rfl iX7 tyX7 tyX7_ok nmX7 0 (by decide) q1035 rfl rfl rfl (Nat.le_of_ble_eq_true rfl) dX7_part_38 (ms_0 (by decide)) (fun H locs hw => ?_)
        refine lv_aload_n hx hb dX7_part_41 rfl (lv_at hl 1 rfl) ?_
        refine k_get hc hk hw at_M rfl iX7 0 (by decide) q1035 (v := .int 0) rfl dX7_part_42 ?_
        refine lv_if_le (tgt := 50) hx hb dX7_part_45 (by decide) (fun _ => ?_) (fun h5 => absurd h5 (by decide))
        refine lv_aload_n hx hb dX7_part_50 rfl (lv_at hl 1 rfl) ?_
        refine k_get hc hk hw at_M rfl iX7 15 (by decide) q1050 (v := .ref (gA g (jM 12))) rfl dX7_part_51 ?_
        refine lv_iload_n hx hb dX7_part_54 rfl (lv_at hl 2 rfl) ?_
        refine lv_iconst (v := (-1)) hx hb dX7_part_55 (by decide) ?_
        refine k_iast (x' := (xM S (up2 (up2 ((f_X7_noComplaint a1 M).2) 0 0 0) 12 ((a1).toNatClampNeg) (-1)) o)) (f := (up2 ((f_X7_noComplaint a1 M).2) 0 0 0) 12) (n := ((a1).toNatClampNeg)) hc hk hw (at_Mk (k := 12) (t := 0) (n := 20) (by decide) (by decide) (by decide) (by decide)) (noComplaint_in hN h1) rfl dX7_part_56 (ms_k (k := 12) (t := 0) (n := 20) (by decide) (by decide) (by decide) (by decide)) (fun H locs hw => ?_)
        refine lv_aload_n hx hb dX7_part_57 rfl (lv_at hl 1 rfl) ?_
        refine k_get hc hk hw at_M rfl iX7 14 (by decide) q1049 (v := .ref (gA g (jM 11))) rfl dX7_part_58 ?_
        refine lv_iload_n hx hb dX7_part_61 rfl (lv_at hl 2 rfl) ?_
        refine lv_bipush (v := 114) hx hb dX7_part_62 (by decide) ?_
        refine k_cast (x' := (xM S (up2 (up2 (up2 ((f_X7_noComplaint a1 M).2) 0 0 0) 12 ((a1).toNatClampNeg) (-1)) 11 ((a1).toNatClampNeg) 114) o)) (f := (up2 (up2 ((f_X7_noComplaint a1 M).2) 0 0 0) 12 ((a1).toNatClampNeg) (-1)) 11) (n := ((a1).toNatClampNeg)) hc hk hw (at_Mk (k := 11) (t := 1) (n := 20) (by decide) (by decide) (by decide) (by decide)) (noComplaint_in hN h1) rfl (by decide +kernel) dX7_part_64 (ms_k (k := 11) (t := 1) (n := 20) (by decide) (by decide) (by decide) (by decide)) (fun H locs hw => ?_)
        refine lv_iload_n hx hb dX7_part_65 rfl (lv_at hl 0 rfl) ?_
        exact W.iret (v := ((f_X7_noComplaint a1 M).2) 12 ((a1).toNatClampNeg)) hx hb hr (fun t9 ht hW => ke_i hw ht (by simp only [f_X7_part, if_pos h1, if_neg h2, if_pos h4]) (by simp only [f_X7_part, if_pos h1, if_neg h2, if_pos h4])) hw.2.2.2 dX7_part_66
      · refine lv_iconst (v := 2) hx hb dX7_part_33 (by decide) ?_
        refine lv_goto (tgt := 38) hx hb dX7_part_34 (by decide) ?_
        refine k_put hc hk hw (x' := (xM S (up2 ((f_X7_noComplaint a1 M).2) 0 0 2) o)) at_M rfl iX7 tyX7 tyX7_ok nmX7 0 (by decide) q1035 rfl rfl rfl (Nat.le_of_ble_eq_true rfl) dX7_part_38 (ms_0 (by decide)) (fun H locs hw => ?_)
        refine lv_aload_n hx hb dX7_part_41 rfl (lv_at hl 1 rfl) ?_
        refine k_get hc hk hw at_M rfl iX7 0 (by decide) q1035 (v := .int 2) rfl dX7_part_42 ?_
        refine lv_if_le (tgt := 50) hx hb dX7_part_45 (by decide) (fun h6 => absurd h6 (by decide)) (fun _ => ?_)
        refine lv_iconst (v := 0) hx hb dX7_part_48 (by decide) ?_
        exact W.iret (v := 0) hx hb hr (fun t9 ht hW => ke_i hw ht (by simp only [f_X7_part, if_pos h1, if_neg h2, if_neg h4]) (by simp only [f_X7_part, if_pos h1, if_neg h2, if_neg h4])) hw.2.2.2 dX7_part_49
  · refine lv_iconst (v := 0) hx hb dX7_part_8 (by decide) ?_
    exact W.iret (v := 0) hx hb hr (fun t9 ht hW => ke_i hw ht (by simp only [f_X7_part, if_neg h1]) (by simp only [f_X7_part, if_neg h1])) hw.2.2.2 dX7_part_9
def f_X7_lead (a1 : Int32) (M : BT) : Int32 × BT :=
  (if (f_X7_noComplaint a1 M).1 = 0 then (f_X7_leading a1 ((f_X7_noComplaint a1 M).2), (f_X7_noComplaint a1 M).2) else (0, (f_X7_noComplaint a1 M).2))
theorem cn_X7_lead {a1 : Int32} {M : BT} {n m9 : Nat} (hN : MN M n m9) : MN ((f_X7_lead a1 M).2) n m9 := by
  unfold f_X7_lead
  by_cases h1 : (f_X7_noComplaint a1 M).1 = 0
  · simp only [if_pos h1]
    exact (cn_X7_noComplaint hN)
  · simp only [if_neg h1]
    exact (cn_X7_noComplaint hN)
set_option maxHeartbeats 4000000 in
set_option maxRecDepth 100000 in
theorem m_X7_lead (l : Launch) (g : wG) (S : Nat → BT) (M : BT) (o : (Nat → Int64) × (Nat → UInt64)) (a1 : Int32) (n m9 : Nat) (hN : MN M n m9) : mI l yX7_lead cX7_lead 2 (some .int) ({ frames := 3, cells := 0, slots := 0, locals := 64 } : Room) 0 0 g (xM S M o) [.ref (gA g (jM 0)), .int a1] ((f_X7_lead a1 M).1) (xM S ((f_X7_lead a1 M).2) o) := by
  refine Met.ofW (cc := cX7_lead) (maxL := 2) (ret := some .int) (by decide) rfl ?_
  intro p9 e s m args below meth c s₁ BL hml hv
  obtain ⟨rfl, hk, hPB⟩ := hv
  have hx := BL.exec
  have hb := BL.bytes
  have hc : CX p9 c cX7_lead s _ m RX7 := ⟨hx, hb, findClass_of_methodNamed BL.named, fun w h => atoms_spec BL.pre w (List.mem_cons_of_mem _ h)⟩
  have hr := BL.returns
  have hlocks := BL.notSynchronized
  have hw : WS g s (xM S M o) s.heap [] := ⟨hPB, va_S.rf⟩
  have hl := lv_entry ([.ref (gA g (jM 0)), .int a1]) (n := 2) (Nat.le_of_ble_eq_true rfl)
  rw [lg_entry_eq]
  generalize (lg_sl ([.ref (gA g (jM 0)), .int a1]) ++ List.replicate (2 - (lg_sl ([.ref (gA g (jM 0)), .int a1])).length) Slot.unset).toArray = ls at hl ⊢
  have hl : lv_has ls 2 [(0, .ref (gA g (jM 0))), (1, .int a1)] := hl
  refine lv_aload_n hx hb dX7_lead_0 rfl (lv_at hl 0 rfl) ?_
  refine lv_iload_n hx hb dX7_lead_1 rfl (lv_at hl 1 rfl) ?_
  refine kc_i hw (va_runV (As := [.int a1]) (rest := []) ⟨hx, hb, hml, hc.2.2.1, hc.2.2.2⟩ (m_X7_noComplaint l g S M o a1 _ _ hN) (kw_V hc 1 q1172 q1174 qs64 q8 q1175 rfl rfl (by decide +kernel) ⟨Nat.le_of_ble_eq_true rfl, Nat.le_of_ble_eq_true rfl⟩) (kp_V hk hw at_M rfl) rfl rfl hl.1 rfl (lv_room (Nat.le_of_ble_eq_true rfl)) dX7_lead_2 ⟨Nat.le_of_ble_eq_true rfl, Nat.le_of_ble_eq_true rfl⟩) (fun H locs hw => ?_)
  refine lv_if_eq (tgt := 12) hx hb dX7_lead_5 (by decide) (fun h1 => ?_) (fun h1 => ?_)
  · refine lv_aload_n hx hb dX7_lead_12 rfl (lv_at hl 0 rfl) ?_
    refine lv_iload_n hx hb dX7_lead_13 rfl (lv_at hl 1 rfl) ?_
    refine kc_i hw (va_runV (As := [.int a1]) (rest := []) ⟨hx, hb, hml, hc.2.2.1, hc.2.2.2⟩ (m_X7_leading l g S ((f_X7_noComplaint a1 M).2) o a1 _ _ (cn_X7_noComplaint hN) (noComplaint_in hN h1)) (kw_V hc 1 q1144 q1146 qs60 q8 q1147 rfl rfl (by decide +kernel) ⟨Nat.le_of_ble_eq_true rfl, Nat.le_of_ble_eq_true rfl⟩) (kp_V hk hw at_M rfl) rfl rfl hl.1 rfl (lv_room (Nat.le_of_ble_eq_true rfl)) dX7_lead_14 ⟨Nat.le_of_ble_eq_true rfl, Nat.le_of_ble_eq_true rfl⟩) (fun H locs hw => ?_)
    exact W.iret (v := f_X7_leading a1 ((f_X7_noComplaint a1 M).2)) hx hb hr (fun t9 ht hW => ke_i hw ht (by simp only [f_X7_lead, if_pos h1]) (by simp only [f_X7_lead, if_pos h1])) hw.2.2.2 dX7_lead_17
  · refine lv_iconst (v := 0) hx hb dX7_lead_8 (by decide) ?_
    refine lv_goto (tgt := 17) hx hb dX7_lead_9 (by decide) ?_
    exact W.iret (v := 0) hx hb hr (fun t9 ht hW => ke_i hw ht (by simp only [f_X7_lead, if_neg h1]) (by simp only [f_X7_lead, if_neg h1])) hw.2.2.2 dX7_lead_17
def f_X7_countJoined (a1 : Int32) (M : BT) : Int32 × BT :=
  (if (f_X7_noComplaint a1 M).1 = 0 then (f_X7_joinedTo a1 ((f_X7_noComplaint a1 M).2), (f_X7_noComplaint a1 M).2) else (0, (f_X7_noComplaint a1 M).2))
theorem cn_X7_countJoined {a1 : Int32} {M : BT} {n m9 : Nat} (hN : MN M n m9) : MN ((f_X7_countJoined a1 M).2) n m9 := by
  unfold f_X7_countJoined
  by_cases h1 : (f_X7_noComplaint a1 M).1 = 0
  · simp only [if_pos h1]
    exact (cn_X7_noComplaint hN)
  · simp only [if_neg h1]
    exact (cn_X7_noComplaint hN)
set_option maxHeartbeats 4000000 in
set_option maxRecDepth 100000 in
theorem m_X7_countJoined (l : Launch) (g : wG) (S : Nat → BT) (M : BT) (o : (Nat → Int64) × (Nat → UInt64)) (a1 : Int32) (n m9 : Nat) (hN : MN M n m9) : mI l yX7_countJoined cX7_countJoined 2 (some .int) ({ frames := 3, cells := 0, slots := 0, locals := 64 } : Room) 0 0 g (xM S M o) [.ref (gA g (jM 0)), .int a1] ((f_X7_countJoined a1 M).1) (xM S ((f_X7_countJoined a1 M).2) o) := by
  refine Met.ofW (cc := cX7_countJoined) (maxL := 2) (ret := some .int) (by decide) rfl ?_
  intro p9 e s m args below meth c s₁ BL hml hv
  obtain ⟨rfl, hk, hPB⟩ := hv
  have hx := BL.exec
  have hb := BL.bytes
  have hc : CX p9 c cX7_countJoined s _ m RX7 := ⟨hx, hb, findClass_of_methodNamed BL.named, fun w h => atoms_spec BL.pre w (List.mem_cons_of_mem _ h)⟩
  have hr := BL.returns
  have hlocks := BL.notSynchronized
  have hw : WS g s (xM S M o) s.heap [] := ⟨hPB, va_S.rf⟩
  have hl := lv_entry ([.ref (gA g (jM 0)), .int a1]) (n := 2) (Nat.le_of_ble_eq_true rfl)
  rw [lg_entry_eq]
  generalize (lg_sl ([.ref (gA g (jM 0)), .int a1]) ++ List.replicate (2 - (lg_sl ([.ref (gA g (jM 0)), .int a1])).length) Slot.unset).toArray = ls at hl ⊢
  have hl : lv_has ls 2 [(0, .ref (gA g (jM 0))), (1, .int a1)] := hl
  refine lv_aload_n hx hb dX7_countJoined_0 rfl (lv_at hl 0 rfl) ?_
  refine lv_iload_n hx hb dX7_countJoined_1 rfl (lv_at hl 1 rfl) ?_
  refine kc_i hw (va_runV (As := [.int a1]) (rest := []) ⟨hx, hb, hml, hc.2.2.1, hc.2.2.2⟩ (m_X7_noComplaint l g S M o a1 _ _ hN) (kw_V hc 1 q1172 q1174 qs64 q8 q1175 rfl rfl (by decide +kernel) ⟨Nat.le_of_ble_eq_true rfl, Nat.le_of_ble_eq_true rfl⟩) (kp_V hk hw at_M rfl) rfl rfl hl.1 rfl (lv_room (Nat.le_of_ble_eq_true rfl)) dX7_countJoined_2 ⟨Nat.le_of_ble_eq_true rfl, Nat.le_of_ble_eq_true rfl⟩) (fun H locs hw => ?_)
  refine lv_if_eq (tgt := 12) hx hb dX7_countJoined_5 (by decide) (fun h1 => ?_) (fun h1 => ?_)
  · refine lv_aload_n hx hb dX7_countJoined_12 rfl (lv_at hl 0 rfl) ?_
    refine lv_iload_n hx hb dX7_countJoined_13 rfl (lv_at hl 1 rfl) ?_
    refine kc_i hw (va_runV (As := [.int a1]) (rest := []) ⟨hx, hb, hml, hc.2.2.1, hc.2.2.2⟩ (m_X7_joinedTo l g S ((f_X7_noComplaint a1 M).2) o a1 _ _ (cn_X7_noComplaint hN)) (kw_V hc 1 q1238 q1240 qs68 q8 q1241 rfl rfl (by decide +kernel) ⟨Nat.le_of_ble_eq_true rfl, Nat.le_of_ble_eq_true rfl⟩) (kp_V hk hw at_M rfl) rfl rfl hl.1 rfl (lv_room (Nat.le_of_ble_eq_true rfl)) dX7_countJoined_14 ⟨Nat.le_of_ble_eq_true rfl, Nat.le_of_ble_eq_true rfl⟩) (fun H locs hw => ?_)
    exact W.iret (v := f_X7_joinedTo a1 ((f_X7_noComplaint a1 M).2)) hx hb hr (fun t9 ht hW => ke_i hw ht (by simp only [f_X7_countJoined, if_pos h1]) (by simp only [f_X7_countJoined, if_pos h1])) hw.2.2.2 dX7_countJoined_17
  · refine lv_iconst (v := 0) hx hb dX7_countJoined_8 (by decide) ?_
    refine lv_goto (tgt := 17) hx hb dX7_countJoined_9 (by decide) ?_
    exact W.iret (v := 0) hx hb hr (fun t9 ht hW => ke_i hw ht (by simp only [f_X7_countJoined, if_neg h1]) (by simp only [f_X7_countJoined, if_neg h1])) hw.2.2.2 dX7_countJoined_17
def f_X7_setWeight (a1 : Int32) (a2 : Int32) (M : BT) : Int32 × BT :=
  (if f_X7_in a1 0 4 = 0 then (0, up2 M 0 0 1) else (if f_X7_in a2 1 9 = 0 then (0, up2 M 0 0 1) else (M 5 ((a1).toNatClampNeg), up2 (up2 M 0 0 0) 5 ((a1).toNatClampNeg) a2)))
theorem cn_X7_setWeight {a1 : Int32} {a2 : Int32} {M : BT} {n m9 : Nat} (hN : MN M n m9) : MN ((f_X7_setWeight a1 a2 M).2) n m9 := by
  unfold f_X7_setWeight
  by_cases h1 : f_X7_in a1 0 4 = 0
  · simp only [if_pos h1]
    exact (MN.up0 (by decide) (by decide) hN)
  · simp only [if_neg h1]
    by_cases h3 : f_X7_in a2 1 9 = 0
    · simp only [if_pos h3]
      exact (MN.up0 (by decide) (by decide) hN)
    · simp only [if_neg h3]
      exact (MN.upf (by decide) (by decide) (by decide) (by decide) (by decide) (by decide) (by decide) (by decide) (MN.up0 (by decide) (by decide) hN))
set_option maxHeartbeats 4000000 in
set_option maxRecDepth 100000 in
theorem m_X7_setWeight (l : Launch) (g : wG) (S : Nat → BT) (M : BT) (o : (Nat → Int64) × (Nat → UInt64)) (a1 : Int32) (a2 : Int32) (n m9 : Nat) (hN : MN M n m9) : mI l yX7_setWeight cX7_setWeight 4 (some .int) ({ frames := 1, cells := 0, slots := 0, locals := 22 } : Room) 0 0 g (xM S M o) [.ref (gA g (jM 0)), .int a1, .int a2] ((f_X7_setWeight a1 a2 M).1) (xM S ((f_X7_setWeight a1 a2 M).2) o) := by
  refine Met.ofW (cc := cX7_setWeight) (maxL := 4) (ret := some .int) (by decide) rfl ?_
  intro p9 e s m args below meth c s₁ BL hml hv
  obtain ⟨rfl, hk, hPB⟩ := hv
  have hx := BL.exec
  have hb := BL.bytes
  have hc : CX p9 c cX7_setWeight s _ m RX7 := ⟨hx, hb, findClass_of_methodNamed BL.named, fun w h => atoms_spec BL.pre w (List.mem_cons_of_mem _ h)⟩
  have hr := BL.returns
  have hlocks := BL.notSynchronized
  have hw : WS g s (xM S M o) s.heap [] := ⟨hPB, va_S.rf⟩
  have hl := lv_entry ([.ref (gA g (jM 0)), .int a1, .int a2]) (n := 4) (Nat.le_of_ble_eq_true rfl)
  rw [lg_entry_eq]
  generalize (lg_sl ([.ref (gA g (jM 0)), .int a1, .int a2]) ++ List.replicate (4 - (lg_sl ([.ref (gA g (jM 0)), .int a1, .int a2])).length) Slot.unset).toArray = ls at hl ⊢
  have hl : lv_has ls 4 [(0, .ref (gA g (jM 0))), (1, .int a1), (2, .int a2)] := hl
  refine lv_aload_n hx hb dX7_setWeight_0 rfl (lv_at hl 0 rfl) ?_
  refine lv_iload_n hx hb dX7_setWeight_1 rfl (lv_at hl 1 rfl) ?_
  refine lv_iconst (v := 0) hx hb dX7_setWeight_2 (by decide) ?_
  refine lv_iconst (v := 4) hx hb dX7_setWeight_3 (by decide) ?_
  refine kc_i hw (va_runS (As := [.int a1, .int 0, .int 4]) (rest := [.ref (gA g (jM 0))]) ⟨hx, hb, hml, hc.2.2.1, hc.2.2.2⟩ (m_X7_in l g S M o a1 0 4) (kw_S hc 3 q1133 q1134 q8 q1135 rfl rfl (by decide +kernel) ⟨Nat.le_of_ble_eq_true rfl, Nat.le_of_ble_eq_true rfl⟩) (kp_S hk hw) rfl rfl hl.1 rfl (lv_room (Nat.le_of_ble_eq_true rfl)) dX7_setWeight_4 ⟨Nat.le_of_ble_eq_true rfl, Nat.le_of_ble_eq_true rfl⟩) (fun H locs hw => ?_)
  refine lv_if_eq (tgt := 24) hx hb dX7_setWeight_7 (by decide) (fun h1 => ?_) (fun h1 => ?_)
  · refine lv_iconst (v := 1) hx hb dX7_setWeight_24 (by decide) ?_
    refine k_put hc hk hw (x' := (xM S (up2 M 0 0 1) o)) at_M rfl iX7 tyX7 tyX7_ok nmX7 0 (by decide) q1035 rfl rfl rfl (Nat.le_of_ble_eq_true rfl) dX7_setWeight_25 (ms_0 (by decide)) (fun H locs hw => ?_)
    refine lv_aload_n hx hb dX7_setWeight_28 rfl (lv_at hl 0 rfl) ?_
    refine k_get hc hk hw at_M rfl iX7 0 (by decide) q1035 (v := .int 1) rfl dX7_setWeight_29 ?_
    refine lv_if_le (tgt := 37) hx hb dX7_setWeight_32 (by decide) (fun h2 => absurd h2 (by decide)) (fun _ => ?_)
    refine lv_iconst (v := 0) hx hb dX7_setWeight_35 (by decide) ?_
    exact W.iret (v := 0) hx hb hr (fun t9 ht hW => ke_i hw ht (by simp only [f_X7_setWeight, if_pos h1]) (by simp only [f_X7_setWeight, if_pos h1])) hw.2.2.2 dX7_setWeight_36
  · refine lv_iload_n hx hb dX7_setWeight_10 rfl (lv_at hl 2 rfl) ?_
    refine lv_iconst (v := 1) hx hb dX7_setWeight_11 (by decide) ?_
    refine lv_bipush (v := 9) hx hb dX7_setWeight_12 (by decide) ?_
    refine kc_i hw (va_runS (As := [.int a2, .int 1, .int 9]) (rest := [.ref (gA g (jM 0))]) ⟨hx, hb, hml, hc.2.2.1, hc.2.2.2⟩ (m_X7_in l g S M o a2 1 9) (kw_S hc 3 q1133 q1134 q8 q1135 rfl rfl (by decide +kernel) ⟨Nat.le_of_ble_eq_true rfl, Nat.le_of_ble_eq_true rfl⟩) (kp_S hk hw) rfl rfl hl.1 rfl (lv_room (Nat.le_of_ble_eq_true rfl)) dX7_setWeight_14 ⟨Nat.le_of_ble_eq_true rfl, Nat.le_of_ble_eq_true rfl⟩) (fun H locs hw => ?_)
    refine lv_if_eq (tgt := 24) hx hb dX7_setWeight_17 (by decide) (fun h3 => ?_) (fun h3 => ?_)
    · refine lv_iconst (v := 1) hx hb dX7_setWeight_24 (by decide) ?_
      refine k_put hc hk hw (x' := (xM S (up2 M 0 0 1) o)) at_M rfl iX7 tyX7 tyX7_ok nmX7 0 (by decide) q1035 rfl rfl rfl (Nat.le_of_ble_eq_true rfl) dX7_setWeight_25 (ms_0 (by decide)) (fun H locs hw => ?_)
      refine lv_aload_n hx hb dX7_setWeight_28 rfl (lv_at hl 0 rfl) ?_
      refine k_get hc hk hw at_M rfl iX7 0 (by decide) q1035 (v := .int 1) rfl dX7_setWeight_29 ?_
      refine lv_if_le (tgt := 37) hx hb dX7_setWeight_32 (by decide) (fun h4 => absurd h4 (by decide)) (fun _ => ?_)
      refine lv_iconst (v := 0) hx hb dX7_setWeight_35 (by decide) ?_
      exact W.iret (v := 0) hx hb hr (fun t9 ht hW => ke_i hw ht (by simp only [f_X7_setWeight, if_neg h1, if_pos h3]) (by simp only [f_X7_setWeight, if_neg h1, if_pos h3])) hw.2.2.2 dX7_setWeight_36
    · refine lv_iconst (v := 0) hx hb dX7_setWeight_20 (by decide) ?_
      refine lv_goto (tgt := 25) hx hb dX7_setWeight_21 (by decide) ?_
      refine k_put hc hk hw (x' := (xM S (up2 M 0 0 0) o)) at_M rfl iX7 tyX7 tyX7_ok nmX7 0 (by decide) q1035 rfl rfl rfl (Nat.le_of_ble_eq_true rfl) dX7_setWeight_25 (ms_0 (by decide)) (fun H locs hw => ?_)
      refine lv_aload_n hx hb dX7_setWeight_28 rfl (lv_at hl 0 rfl) ?_
      refine k_get hc hk hw at_M rfl iX7 0 (by decide) q1035 (v := .int 0) rfl dX7_setWeight_29 ?_
      refine lv_if_le (tgt := 37) hx hb dX7_setWeight_32 (by decide) (fun _ => ?_) (fun h5 => absurd h5 (by decide))
      refine lv_aload_n hx hb dX7_setWeight_37 rfl (lv_at hl 0 rfl) ?_
      refine k_get hc hk hw at_M rfl iX7 8 (by decide) q1043 (v := .ref (gA g (jM 5))) rfl dX7_setWeight_38 ?_
      refine lv_iload_n hx hb dX7_setWeight_41 rfl (lv_at hl 1 rfl) ?_
      refine k_iald (f := M 5) (n := ((a1).toNatClampNeg)) hc hk hw (at_Mk (k := 5) (t := 0) (n := 5) (by decide) (by decide) (by decide) (by decide)) (in_in h1) rfl dX7_setWeight_42 ?_
      refine lv_istore_n (lv' := [(3, .int (M 5 ((a1).toNatClampNeg))), (0, .ref (gA g (jM 0))), (1, .int a1), (2, .int a2)]) hx hb dX7_setWeight_43 rfl hl (by decide) rfl (fun ls hl => ?_)
      refine lv_aload_n hx hb dX7_setWeight_44 rfl (lv_at hl 1 rfl) ?_
      refine k_get hc hk hw at_M rfl iX7 8 (by decide) q1043 (v := .ref (gA g (jM 5))) rfl dX7_setWeight_45 ?_
      refine lv_iload_n hx hb dX7_setWeight_48 rfl (lv_at hl 2 rfl) ?_
      refine lv_iload_n hx hb dX7_setWeight_49 rfl (lv_at hl 3 rfl) ?_
      refine k_iast (x' := (xM S (up2 (up2 M 0 0 0) 5 ((a1).toNatClampNeg) a2) o)) (f := (up2 M 0 0 0) 5) (n := ((a1).toNatClampNeg)) hc hk hw (at_Mk (k := 5) (t := 0) (n := 5) (by decide) (by decide) (by decide) (by decide)) (in_in h1) rfl dX7_setWeight_50 (ms_k (k := 5) (t := 0) (n := 5) (by decide) (by decide) (by decide) (by decide)) (fun H locs hw => ?_)
      refine lv_iload_n hx hb dX7_setWeight_51 rfl (lv_at hl 0 rfl) ?_
      exact W.iret (v := M 5 ((a1).toNatClampNeg)) hx hb hr (fun t9 ht hW => ke_i hw ht (by simp only [f_X7_setWeight, if_neg h1, if_neg h3]) (by simp only [f_X7_setWeight, if_neg h1, if_neg h3])) hw.2.2.2 dX7_setWeight_52
def j_X7_find_61 (a1 : Int32) (a2 : Int32) (M : BT) : Int32 :=
  (if ((f_X7_noComplaint a1 M).2) 19 ((a1).toNatClampNeg) = 0 then a2 else a2 ||| 1)
def j_X7_find_105 (a1 : Int32) (a2 : Int32) (M : BT) : Int32 :=
  (if 5 ≤ f_X7_joinedTo a1 (up2 (up2 ((f_X7_noComplaint a1 M).2) 0 0 0) 20 ((a1).toNatClampNeg) (j_X7_find_61 a1 a2 M)) then 5 else f_X7_joinedTo a1 (up2 (up2 ((f_X7_noComplaint a1 M).2) 0 0 0) 20 ((a1).toNatClampNeg) (j_X7_find_61 a1 a2 M)))
def b_find7 (a1 : Int32) (a2 : Int32) (M : BT) (k : Nat) (z : Int32) : Int32 :=
  (if ((j_X7_find_61 a1 a2 M) >>> ((nI k) &&& 31)) &&& 1 = 1 then z + (((f_X7_noComplaint a1 M).2) 5 k) else z + 0)
def L_find7 (a1 : Int32) (a2 : Int32) (M : BT) : Nat → Int32
  | 0 => (j_X7_find_105 a1 a2 M)
  | k + 1 => b_find7 a1 a2 M k (L_find7 a1 a2 M k)
def j_X7_find_173 (a1 : Int32) (a2 : Int32) (M : BT) : Int32 :=
  (if 3 < (L_find7 a1 a2 M 5) then (if 9 < (L_find7 a1 a2 M 5) then (if 15 < (L_find7 a1 a2 M 5) then 4 else 3) else 2) else 1)
def f_X7_find (a1 : Int32) (a2 : Int32) (M : BT) : Int32 × BT :=
  (if (f_X7_noComplaint a1 M).1 = 0 then (if f_X7_in a2 0 31 = 0 then (0, up2 ((f_X7_noComplaint a1 M).2) 0 0 2) else (if f_X7_isJoined a1 ((f_X7_noComplaint a1 M).2) = 0 then (if ((f_X7_noComplaint a1 M).2) 11 ((a1).toNatClampNeg) = 115 then (if (j_X7_find_61 a1 a2 M) = 0 then (0, f_X7_closes a1 117 (up2 (up2 ((f_X7_noComplaint a1 M).2) 0 0 0) 20 ((a1).toNatClampNeg) (j_X7_find_61 a1 a2 M))) else ((up2 (up2 (up2 (up2 ((f_X7_noComplaint a1 M).2) 0 0 0) 20 ((a1).toNatClampNeg) (j_X7_find_61 a1 a2 M)) 11 ((a1).toNatClampNeg) 100) 21 ((a1).toNatClampNeg) (j_X7_find_173 a1 a2 M)) 21 ((a1).toNatClampNeg), up2 (up2 (up2 (up2 (up2 (up2 ((f_X7_noComplaint a1 M).2) 0 0 0) 20 ((a1).toNatClampNeg) (j_X7_find_61 a1 a2 M)) 11 ((a1).toNatClampNeg) 100) 21 ((a1).toNatClampNeg) (j_X7_find_173 a1 a2 M)) 16 ((a1).toNatClampNeg) ((((f_X7_noComplaint a1 M).2) 0 1) + (30 * ((up2 (up2 (up2 (up2 ((f_X7_noComplaint a1 M).2) 0 0 0) 20 ((a1).toNatClampNeg) (j_X7_find_61 a1 a2 M)) 11 ((a1).toNatClampNeg) 100) 21 ((a1).toNatClampNeg) (j_X7_find_173 a1 a2 M)) 21 ((a1).toNatClampNeg))))) 3 ((((f_X7_noComplaint a1 M).2) 6 ((a1).toNatClampNeg)).toNatClampNeg) ((((f_X7_noComplaint a1 M).2) 3 ((((f_X7_noComplaint a1 M).2) 6 ((a1).toNatClampNeg)).toNatClampNeg)) + (1 + (f_X7_joinedTo a1 (up2 (up2 ((f_X7_noComplaint a1 M).2) 0 0 0) 20 ((a1).toNatClampNeg) (j_X7_find_61 a1 a2 M))))))) else (0, up2 ((f_X7_noComplaint a1 M).2) 0 0 3)) else (0, up2 ((f_X7_noComplaint a1 M).2) 0 0 3))) else (0, (f_X7_noComplaint a1 M).2))
theorem cn_X7_find {a1 : Int32} {a2 : Int32} {M : BT} {n m9 : Nat} (hN : MN M n m9) : MN ((f_X7_find a1 a2 M).2) n m9 := by
  unfold f_X7_find
  by_cases h1 : (f_X7_noComplaint a1 M).1 = 0
  · simp only [if_pos h1]
    by_cases h2 : f_X7_in a2 0 31 = 0
    · simp only [if_pos h2]
      exact (MN.up0 (by decide) (by decide) (cn_X7_noComplaint hN))
    · simp only [if_neg h2]
      by_cases h3 : f_X7_isJoined a1 ((f_X7_noComplaint a1 M).2) = 0
      · simp only [if_pos h3]
        by_cases h5 : ((f_X7_noComplaint a1 M).2) 11 ((a1).toNatClampNeg) = 115
        · simp only [if_pos h5]
          by_cases h8 : (j_X7_find_61 a1 a2 M) = 0
          · simp only [if_pos h8]
            exact (cn_X7_closes ⟨by decide +kernel, by decide +kernel, by decide +kernel⟩ (MN.upf (by decide) (by decide) (by decide) (by decide) (by decide) (by decide) (by decide) (by decide) (MN.up0 (by decide) (by decide) (cn_X7_noComplaint hN))))
          · simp only [if_neg h8]
            exact (MN.upf (by decide) (by decide) (by decide) (by decide) (by decide) (by decide) (by decide) (by decide) (MN.upf (by decide) (by decide) (by decide) (by decide) (by decide) (by decide) (by decide) (by decide) (MN.upf (by decide) (by decide) (by decide) (by decide) (by decide) (by decide) (by decide) (by decide) (MN.up11 ⟨by decide +kernel, by decide +kernel, by decide +kernel⟩ (MN.upf (by decide) (by decide) (by decide) (by decide) (by decide) (by decide) (by decide) (by decide) (MN.up0 (by decide) (by decide) (cn_X7_noComplaint hN)))))))
        · simp only [if_neg h5]
          exact (MN.up0 (by decide) (by decide) (cn_X7_noComplaint hN))
      · simp only [if_neg h3]
        exact (MN.up0 (by decide) (by decide) (cn_X7_noComplaint hN))
  · simp only [if_neg h1]
    exact (cn_X7_noComplaint hN)
set_option maxHeartbeats 4000000 in
set_option maxRecDepth 100000 in
theorem m_X7_find (l : Launch) (g : wG) (S : Nat → BT) (M : BT) (o : (Nat → Int64) × (Nat → UInt64)) (a1 : Int32) (a2 : Int32) (n m9 : Nat) (hN : MN M n m9) : mI l yX7_find cX7_find 7 (some .int) ({ frames := 3, cells := 0, slots := 0, locals := 64 } : Room) 0 0 g (xM S M o) [.ref (gA g (jM 0)), .int a1, .int a2] ((f_X7_find a1 a2 M).1) (xM S ((f_X7_find a1 a2 M).2) o) := by
  refine Met.ofW (cc := cX7_find) (maxL := 7) (ret := some .int) (by decide) rfl ?_
  intro p9 e s m args below meth c s₁ BL hml hv
  obtain ⟨rfl, hk, hPB⟩ := hv
  have hx := BL.exec
  have hb := BL.bytes
  have hc : CX p9 c cX7_find s _ m RX7 := ⟨hx, hb, findClass_of_methodNamed BL.named, fun w h => atoms_spec BL.pre w (List.mem_cons_of_mem _ h)⟩
  have hr := BL.returns
  have hlocks := BL.notSynchronized
  have hw : WS g s (xM S M o) s.heap [] := ⟨hPB, va_S.rf⟩
  have hl := lv_entry ([.ref (gA g (jM 0)), .int a1, .int a2]) (n := 7) (Nat.le_of_ble_eq_true rfl)
  rw [lg_entry_eq]
  generalize (lg_sl ([.ref (gA g (jM 0)), .int a1, .int a2]) ++ List.replicate (7 - (lg_sl ([.ref (gA g (jM 0)), .int a1, .int a2])).length) Slot.unset).toArray = ls at hl ⊢
  have hl : lv_has ls 7 [(0, .ref (gA g (jM 0))), (1, .int a1), (2, .int a2)] := hl
  refine lv_aload_n hx hb dX7_find_0 rfl (lv_at hl 0 rfl) ?_
  refine lv_iload_n hx hb dX7_find_1 rfl (lv_at hl 1 rfl) ?_
  refine kc_i hw (va_runV (As := [.int a1]) (rest := []) ⟨hx, hb, hml, hc.2.2.1, hc.2.2.2⟩ (m_X7_noComplaint l g S M o a1 _ _ hN) (kw_V hc 1 q1172 q1174 qs64 q8 q1175 rfl rfl (by decide +kernel) ⟨Nat.le_of_ble_eq_true rfl, Nat.le_of_ble_eq_true rfl⟩) (kp_V hk hw at_M rfl) rfl rfl hl.1 rfl (lv_room (Nat.le_of_ble_eq_true rfl)) dX7_find_2 ⟨Nat.le_of_ble_eq_true rfl, Nat.le_of_ble_eq_true rfl⟩) (fun H locs hw => ?_)
  refine lv_if_eq (tgt := 10) hx hb dX7_find_5 (by decide) (fun h1 => ?_) (fun h1 => ?_)
  · refine lv_aload_n hx hb dX7_find_10 rfl (lv_at hl 0 rfl) ?_
    refine lv_iload_n hx hb dX7_find_11 rfl (lv_at hl 2 rfl) ?_
    refine lv_iconst (v := 0) hx hb dX7_find_12 (by decide) ?_
    refine lv_bipush (v := 31) hx hb dX7_find_13 (by decide) ?_
    refine kc_i hw (va_runS (As := [.int a2, .int 0, .int 31]) (rest := [.ref (gA g (jM 0))]) ⟨hx, hb, hml, hc.2.2.1, hc.2.2.2⟩ (m_X7_in l g S ((f_X7_noComplaint a1 M).2) o a2 0 31) (kw_S hc 3 q1133 q1134 q8 q1135 rfl rfl (by decide +kernel) ⟨Nat.le_of_ble_eq_true rfl, Nat.le_of_ble_eq_true rfl⟩) (kp_S hk hw) rfl rfl hl.1 rfl (lv_room (Nat.le_of_ble_eq_true rfl)) dX7_find_15 ⟨Nat.le_of_ble_eq_true rfl, Nat.le_of_ble_eq_true rfl⟩) (fun H locs hw => ?_)
    refine lv_if_ne (tgt := 25) hx hb dX7_find_18 (by decide) (fun h2 => ?_) (fun h2 => ?_)
    · refine lv_aload_n hx hb dX7_find_25 rfl (lv_at hl 0 rfl) ?_
      refine lv_iload_n hx hb dX7_find_26 rfl (lv_at hl 1 rfl) ?_
      refine kc_i hw (va_runV (As := [.int a1]) (rest := [.ref (gA g (jM 0))]) ⟨hx, hb, hml, hc.2.2.1, hc.2.2.2⟩ (m_X7_isJoined l g S ((f_X7_noComplaint a1 M).2) o a1 _ _ (cn_X7_noComplaint hN) (noComplaint_in hN h1)) (kw_V hc 1 q1148 q1150 qs61 q8 q1151 rfl rfl (by decide +kernel) ⟨Nat.le_of_ble_eq_true rfl, Nat.le_of_ble_eq_true rfl⟩) (kp_V hk hw at_M rfl) rfl rfl hl.1 rfl (lv_room (Nat.le_of_ble_eq_true rfl)) dX7_find_27 ⟨Nat.le_of_ble_eq_true rfl, Nat.le_of_ble_eq_true rfl⟩) (fun H locs hw => ?_)
      refine lv_if_ne (tgt := 44) hx hb dX7_find_30 (by decide) (fun h3 => ?_) (fun h3 => ?_)
      · refine lv_iconst (v := 3) hx hb dX7_find_44 (by decide) ?_
        refine lv_goto (tgt := 49) hx hb dX7_find_45 (by decide) ?_
        refine k_put hc hk hw (x' := (xM S (up2 ((f_X7_noComplaint a1 M).2) 0 0 3) o)) at_M rfl iX7 tyX7 tyX7_ok nmX7 0 (by decide) q1035 rfl rfl rfl (Nat.le_of_ble_eq_true rfl) dX7_find_49 (ms_0 (by decide)) (fun H locs hw => ?_)
        refine lv_aload_n hx hb dX7_find_52 rfl (lv_at hl 0 rfl) ?_
        refine k_get hc hk hw at_M rfl iX7 0 (by decide) q1035 (v := .int 3) rfl dX7_find_53 ?_
        refine lv_if_le (tgt := 61) hx hb dX7_find_56 (by decide) (fun h4 => absurd h4 (by decide)) (fun _ => ?_)
        refine lv_iconst (v := 0) hx hb dX7_find_59 (by decide) ?_
        exact W.iret (v := 0) hx hb hr (fun t9 ht hW => ke_i hw ht (by simp only [f_X7_find, if_pos h1, if_neg h2, if_neg h3]) (by simp only [f_X7_find, if_pos h1, if_neg h2, if_neg h3])) hw.2.2.2 dX7_find_60
      · refine lv_aload_n hx hb dX7_find_33 rfl (lv_at hl 0 rfl) ?_
        refine k_get hc hk hw at_M rfl iX7 14 (by decide) q1049 (v := .ref (gA g (jM 11))) rfl dX7_find_34 ?_
        refine lv_iload_n hx hb dX7_find_37 rfl (lv_at hl 1 rfl) ?_
        refine k_cald (f := ((f_X7_noComplaint a1 M).2) 11) (n := ((a1).toNatClampNeg)) hc hk hw (at_Mk (k := 11) (t := 1) (n := 20) (by decide) (by decide) (by decide) (by decide)) (noComplaint_in hN h1) rfl dX7_find_38 ?_
        refine lv_bipush (v := 115) hx hb dX7_find_39 (by decide) ?_
        refine lv_icmp_eq (tgt := 48) hx hb dX7_find_41 (by decide) (fun h5 => ?_) (fun h5 => ?_)
        · refine lv_iconst (v := 0) hx hb dX7_find_48 (by decide) ?_
          refine k_put hc hk hw (x' := (xM S (up2 ((f_X7_noComplaint a1 M).2) 0 0 0) o)) at_M rfl iX7 tyX7 tyX7_ok nmX7 0 (by decide) q1035 rfl rfl rfl (Nat.le_of_ble_eq_true rfl) dX7_find_49 (ms_0 (by decide)) (fun H locs hw => ?_)
          refine lv_aload_n hx hb dX7_find_52 rfl (lv_at hl 0 rfl) ?_
          refine k_get hc hk hw at_M rfl iX7 0 (by decide) q1035 (v := .int 0) rfl dX7_find_53 ?_
          refine lv_if_le (tgt := 61) hx hb dX7_find_56 (by decide) (fun _ => ?_) (fun h6 => absurd h6 (by decide))
          have J7 : ∀ (v : Int32), v = (j_X7_find_61 a1 a2 M) → ∀ (H : Heap) (locs : List Loc), WS g s (xM S (up2 ((f_X7_noComplaint a1 M).2) 0 0 0) o) H locs → W p9 l e ({ frames := 3, cells := 0, slots := 0, locals := 64 } : Room) s m ([.ref (gA g (jM 0)), .int a1, .int a2] : List Value).toArray below meth c H locs 0 0 (MQ below (va_Qi (fun (v : Int32) (u : wSt) => v = (f_X7_find a1 a2 M).1 ∧ u = (xM S ((f_X7_find a1 a2 M).2) o)) (PB g) (AA g)) (([.ref (gA g (jM 0)), .int a1, .int a2] : List Value).toArray) s 0 0 (AA g)) (F0 m 77 ls (.int v :: ([] : List Value))) := by
            intro v ev H locs hw
            subst ev
            refine lv_istore_n (lv' := [(3, .int (j_X7_find_61 a1 a2 M)), (0, .ref (gA g (jM 0))), (1, .int a1), (2, .int a2)]) hx hb dX7_find_77 rfl hl (by decide) rfl (fun ls hl => ?_)
            refine lv_aload_n hx hb dX7_find_78 rfl (lv_at hl 1 rfl) ?_
            refine k_get hc hk hw at_M rfl iX7 23 (by decide) q1058 (v := .ref (gA g (jM 20))) rfl dX7_find_79 ?_
            refine lv_iload_n hx hb dX7_find_82 rfl (lv_at hl 2 rfl) ?_
            refine lv_iload_n hx hb dX7_find_83 rfl (lv_at hl 0 rfl) ?_
            refine k_iast (x' := (xM S (up2 (up2 ((f_X7_noComplaint a1 M).2) 0 0 0) 20 ((a1).toNatClampNeg) (j_X7_find_61 a1 a2 M)) o)) (f := (up2 ((f_X7_noComplaint a1 M).2) 0 0 0) 20) (n := ((a1).toNatClampNeg)) hc hk hw (at_Mk (k := 20) (t := 0) (n := 20) (by decide) (by decide) (by decide) (by decide)) (noComplaint_in hN h1) rfl dX7_find_84 (ms_k (k := 20) (t := 0) (n := 20) (by decide) (by decide) (by decide) (by decide)) (fun H locs hw => ?_)
            refine lv_iload_n hx hb dX7_find_85 rfl (lv_at hl 0 rfl) ?_
            refine lv_if_ne (tgt := 98) hx hb dX7_find_86 (by decide) (fun h8 => ?_) (fun h8 => ?_)
            · refine lv_aload_n hx hb dX7_find_98 rfl (lv_at hl 1 rfl) ?_
              refine lv_iload_n hx hb dX7_find_99 rfl (lv_at hl 2 rfl) ?_
              refine kc_i hw (va_runV (As := [.int a1]) (rest := []) ⟨hx, hb, hml, hc.2.2.1, hc.2.2.2⟩ (m_X7_joinedTo l g S (up2 (up2 ((f_X7_noComplaint a1 M).2) 0 0 0) 20 ((a1).toNatClampNeg) (j_X7_find_61 a1 a2 M)) o a1 _ _ (MN.upf (by decide) (by decide) (by decide) (by decide) (by decide) (by decide) (by decide) (by decide) (MN.up0 (by decide) (by decide) (cn_X7_noComplaint hN)))) (kw_V hc 1 q1238 q1240 qs68 q8 q1241 rfl rfl (by decide +kernel) ⟨Nat.le_of_ble_eq_true rfl, Nat.le_of_ble_eq_true rfl⟩) (kp_V hk hw at_M rfl) rfl rfl hl.1 rfl (lv_room (Nat.le_of_ble_eq_true rfl)) dX7_find_100 ⟨Nat.le_of_ble_eq_true rfl, Nat.le_of_ble_eq_true rfl⟩) (fun H locs hw => ?_)
              refine lv_istore (lv' := [(4, .int (f_X7_joinedTo a1 (up2 (up2 ((f_X7_noComplaint a1 M).2) 0 0 0) 20 ((a1).toNatClampNeg) (j_X7_find_61 a1 a2 M)))), (3, .int (j_X7_find_61 a1 a2 M)), (0, .ref (gA g (jM 0))), (1, .int a1), (2, .int a2)]) hx hb dX7_find_103 hl (by decide) rfl (fun ls hl => ?_)
              have J9 : ∀ (v : Int32), v = (j_X7_find_105 a1 a2 M) → ∀ (H : Heap) (locs : List Loc), WS g s (xM S (up2 (up2 ((f_X7_noComplaint a1 M).2) 0 0 0) 20 ((a1).toNatClampNeg) (j_X7_find_61 a1 a2 M)) o) H locs → W p9 l e ({ frames := 3, cells := 0, slots := 0, locals := 64 } : Room) s m ([.ref (gA g (jM 0)), .int a1, .int a2] : List Value).toArray below meth c H locs 0 0 (MQ below (va_Qi (fun (v : Int32) (u : wSt) => v = (f_X7_find a1 a2 M).1 ∧ u = (xM S ((f_X7_find a1 a2 M).2) o)) (PB g) (AA g)) (([.ref (gA g (jM 0)), .int a1, .int a2] : List Value).toArray) s 0 0 (AA g)) (F0 m 117 ls (.int v :: ([] : List Value))) := by
                intro v ev H locs hw
                subst ev
                refine lv_istore (lv' := [(5, .int (j_X7_find_105 a1 a2 M)), (4, .int (f_X7_joinedTo a1 (up2 (up2 ((f_X7_noComplaint a1 M).2) 0 0 0) 20 ((a1).toNatClampNeg) (j_X7_find_61 a1 a2 M)))), (3, .int (j_X7_find_61 a1 a2 M)), (0, .ref (gA g (jM 0))), (1, .int a1), (2, .int a2)]) hx hb dX7_find_117 hl (by decide) rfl (fun ls hl => ?_)
                refine lv_iconst (v := 0) hx hb dX7_find_119 (by decide) ?_
                refine lv_istore (lv' := [(6, .int 0), (5, .int (j_X7_find_105 a1 a2 M)), (4, .int (f_X7_joinedTo a1 (up2 (up2 ((f_X7_noComplaint a1 M).2) 0 0 0) 20 ((a1).toNatClampNeg) (j_X7_find_61 a1 a2 M)))), (3, .int (j_X7_find_61 a1 a2 M)), (0, .ref (gA g (jM 0))), (1, .int a1), (2, .int a2)]) hx hb dX7_find_120 hl (by decide) rfl (fun ls hl => ?_)
                have LP10 : ∀ (f k : Nat), k ≤ 5 → 5 + 1 ≤ k + f → ∀ (H : Heap) (locs : List Loc), WS g s (xM S (up2 (up2 ((f_X7_noComplaint a1 M).2) 0 0 0) 20 ((a1).toNatClampNeg) (j_X7_find_61 a1 a2 M)) o) H locs → ∀ (ls : Array Slot), lv_has ls 7 [(6, .int (nI k)), (5, .int (L_find7 a1 a2 M k)), (4, .int (f_X7_joinedTo a1 (up2 (up2 ((f_X7_noComplaint a1 M).2) 0 0 0) 20 ((a1).toNatClampNeg) (j_X7_find_61 a1 a2 M)))), (3, .int (j_X7_find_61 a1 a2 M)), (0, .ref (gA g (jM 0))), (1, .int a1), (2, .int a2)] → W p9 l e ({ frames := 3, cells := 0, slots := 0, locals := 64 } : Room) s m ([.ref (gA g (jM 0)), .int a1, .int a2] : List Value).toArray below meth c H locs 0 0 (MQ below (va_Qi (fun (v : Int32) (u : wSt) => v = (f_X7_find a1 a2 M).1 ∧ u = (xM S ((f_X7_find a1 a2 M).2) o)) (PB g) (AA g)) (([.ref (gA g (jM 0)), .int a1, .int a2] : List Value).toArray) s 0 0 (AA g)) (F0 m 122 ls []) := by
                  intro f
                  induction f with
                  | zero => intro k h1 h2; exact absurd h2 (by omega)
                  | succ f ih =>
                    intro k hk9 hf9 H locs hw ls hl
                    have hl4 := MN.l4 hN
                    refine lv_iload hx hb dX7_find_122 (lv_at hl 0 rfl) ?_
                    refine lv_iconst (v := 5) hx hb dX7_find_124 (by decide) ?_
                    refine lv_icmp_ge (tgt := 160) hx hb dX7_find_125 (by decide) (fun h11 => ?_) (fun h11 => ?_)
                    · have hkn := lp_out (m := 5) h11 rfl hk9 (by decide)
                      subst hkn
                      refine lv_aload_n hx hb dX7_find_160 rfl (lv_at hl 4 rfl) ?_
                      refine k_get hc hk hw at_M rfl iX7 14 (by decide) q1049 (v := .ref (gA g (jM 11))) rfl dX7_find_161 ?_
                      refine lv_iload_n hx hb dX7_find_164 rfl (lv_at hl 5 rfl) ?_
                      refine lv_bipush (v := 100) hx hb dX7_find_165 (by decide) ?_
                      refine k_cast (x' := (xM S (up2 (up2 (up2 ((f_X7_noComplaint a1 M).2) 0 0 0) 20 ((a1).toNatClampNeg) (j_X7_find_61 a1 a2 M)) 11 ((a1).toNatClampNeg) 100) o)) (f := (up2 (up2 ((f_X7_noComplaint a1 M).2) 0 0 0) 20 ((a1).toNatClampNeg) (j_X7_find_61 a1 a2 M)) 11) (n := ((a1).toNatClampNeg)) hc hk hw (at_Mk (k := 11) (t := 1) (n := 20) (by decide) (by decide) (by decide) (by decide)) (noComplaint_in hN h1) rfl (by decide +kernel) dX7_find_167 (ms_k (k := 11) (t := 1) (n := 20) (by decide) (by decide) (by decide) (by decide)) (fun H locs hw => ?_)
                      refine lv_aload_n hx hb dX7_find_168 rfl (lv_at hl 4 rfl) ?_
                      refine k_get hc hk hw at_M rfl iX7 24 (by decide) q1059 (v := .ref (gA g (jM 21))) rfl dX7_find_169 ?_
                      refine lv_iload_n hx hb dX7_find_172 rfl (lv_at hl 5 rfl) ?_
                      have J12 : ∀ (v : Int32), v = (j_X7_find_173 a1 a2 M) → ∀ (H : Heap) (locs : List Loc), WS g s (xM S (up2 (up2 (up2 ((f_X7_noComplaint a1 M).2) 0 0 0) 20 ((a1).toNatClampNeg) (j_X7_find_61 a1 a2 M)) 11 ((a1).toNatClampNeg) 100) o) H locs → W p9 l e ({ frames := 3, cells := 0, slots := 0, locals := 64 } : Room) s m ([.ref (gA g (jM 0)), .int a1, .int a2] : List Value).toArray below meth c H locs 0 0 (MQ below (va_Qi (fun (v : Int32) (u : wSt) => v = (f_X7_find a1 a2 M).1 ∧ u = (xM S ((f_X7_find a1 a2 M).2) o)) (PB g) (AA g)) (([.ref (gA g (jM 0)), .int a1, .int a2] : List Value).toArray) s 0 0 (AA g)) (F0 m 206 ls (.int v :: ([.int a1, .ref (gA g (jM 21))] : List Value))) := by
                        intro v ev H locs hw
                        subst ev
                        refine k_iast (x' := (xM S (up2 (up2 (up2 (up2 ((f_X7_noComplaint a1 M).2) 0 0 0) 20 ((a1).toNatClampNeg) (j_X7_find_61 a1 a2 M)) 11 ((a1).toNatClampNeg) 100) 21 ((a1).toNatClampNeg) (j_X7_find_173 a1 a2 M)) o)) (f := (up2 (up2 (up2 ((f_X7_noComplaint a1 M).2) 0 0 0) 20 ((a1).toNatClampNeg) (j_X7_find_61 a1 a2 M)) 11 ((a1).toNatClampNeg) 100) 21) (n := ((a1).toNatClampNeg)) hc hk hw (at_Mk (k := 21) (t := 0) (n := 20) (by decide) (by decide) (by decide) (by decide)) (noComplaint_in hN h1) rfl dX7_find_206 (ms_k (k := 21) (t := 0) (n := 20) (by decide) (by decide) (by decide) (by decide)) (fun H locs hw => ?_)
                        refine lv_aload_n hx hb dX7_find_207 rfl (lv_at hl 4 rfl) ?_
                        refine k_get hc hk hw at_M rfl iX7 19 (by decide) q1054 (v := .ref (gA g (jM 16))) rfl dX7_find_208 ?_
                        refine lv_iload_n hx hb dX7_find_211 rfl (lv_at hl 5 rfl) ?_
                        refine lv_aload_n hx hb dX7_find_212 rfl (lv_at hl 4 rfl) ?_
                        refine k_get hc hk hw at_M rfl iX7 1 (by decide) q1036 (v := .int (((f_X7_noComplaint a1 M).2) 0 1)) rfl dX7_find_213 ?_
                        refine lv_bipush (v := 30) hx hb dX7_find_216 (by decide) ?_
                        refine lv_aload_n hx hb dX7_find_218 rfl (lv_at hl 4 rfl) ?_
                        refine k_get hc hk hw at_M rfl iX7 24 (by decide) q1059 (v := .ref (gA g (jM 21))) rfl dX7_find_219 ?_
                        refine lv_iload_n hx hb dX7_find_222 rfl (lv_at hl 5 rfl) ?_
                        refine k_iald (f := (up2 (up2 (up2 (up2 ((f_X7_noComplaint a1 M).2) 0 0 0) 20 ((a1).toNatClampNeg) (j_X7_find_61 a1 a2 M)) 11 ((a1).toNatClampNeg) 100) 21 ((a1).toNatClampNeg) (j_X7_find_173 a1 a2 M)) 21) (n := ((a1).toNatClampNeg)) hc hk hw (at_Mk (k := 21) (t := 0) (n := 20) (by decide) (by decide) (by decide) (by decide)) (noComplaint_in hN h1) rfl dX7_find_223 ?_
                        refine lv_imul hx hb dX7_find_224 ?_
                        refine lv_iadd hx hb dX7_find_225 ?_
                        refine k_iast (x' := (xM S (up2 (up2 (up2 (up2 (up2 ((f_X7_noComplaint a1 M).2) 0 0 0) 20 ((a1).toNatClampNeg) (j_X7_find_61 a1 a2 M)) 11 ((a1).toNatClampNeg) 100) 21 ((a1).toNatClampNeg) (j_X7_find_173 a1 a2 M)) 16 ((a1).toNatClampNeg) ((((f_X7_noComplaint a1 M).2) 0 1) + (30 * ((up2 (up2 (up2 (up2 ((f_X7_noComplaint a1 M).2) 0 0 0) 20 ((a1).toNatClampNeg) (j_X7_find_61 a1 a2 M)) 11 ((a1).toNatClampNeg) 100) 21 ((a1).toNatClampNeg) (j_X7_find_173 a1 a2 M)) 21 ((a1).toNatClampNeg))))) o)) (f := (up2 (up2 (up2 (up2 ((f_X7_noComplaint a1 M).2) 0 0 0) 20 ((a1).toNatClampNeg) (j_X7_find_61 a1 a2 M)) 11 ((a1).toNatClampNeg) 100) 21 ((a1).toNatClampNeg) (j_X7_find_173 a1 a2 M)) 16) (n := ((a1).toNatClampNeg)) hc hk hw (at_Mk (k := 16) (t := 0) (n := 20) (by decide) (by decide) (by decide) (by decide)) (noComplaint_in hN h1) rfl dX7_find_226 (ms_k (k := 16) (t := 0) (n := 20) (by decide) (by decide) (by decide) (by decide)) (fun H locs hw => ?_)
                        refine lv_aload_n hx hb dX7_find_227 rfl (lv_at hl 4 rfl) ?_
                        refine k_get hc hk hw at_M rfl iX7 6 (by decide) q1041 (v := .ref (gA g (jM 3))) rfl dX7_find_228 ?_
                        refine lv_aload_n hx hb dX7_find_231 rfl (lv_at hl 4 rfl) ?_
                        refine k_get hc hk hw at_M rfl iX7 9 (by decide) q1044 (v := .ref (gA g (jM 6))) rfl dX7_find_232 ?_
                        refine lv_iload_n hx hb dX7_find_235 rfl (lv_at hl 5 rfl) ?_
                        refine k_iald (f := ((f_X7_noComplaint a1 M).2) 6) (n := ((a1).toNatClampNeg)) hc hk hw (at_Mk (k := 6) (t := 0) (n := 20) (by decide) (by decide) (by decide) (by decide)) (noComplaint_in hN h1) rfl dX7_find_236 ?_
                        refine lv_dup2_11 hx hb dX7_find_237 rfl rfl ?_
                        refine k_iald (f := ((f_X7_noComplaint a1 M).2) 3) (n := ((((f_X7_noComplaint a1 M).2) 6 ((a1).toNatClampNeg)).toNatClampNeg)) hc hk hw (at_Mk (k := 3) (t := 0) (n := 6) (by decide) (by decide) (by decide) (by decide)) (MN.off (cn_X7_noComplaint hN) (vp_lt (noComplaint_in hN h1))) rfl dX7_find_238 ?_
                        refine lv_iconst (v := 1) hx hb dX7_find_239 (by decide) ?_
                        refine lv_iload hx hb dX7_find_240 (lv_at hl 2 rfl) ?_
                        refine lv_iadd hx hb dX7_find_242 ?_
                        refine lv_iadd hx hb dX7_find_243 ?_
                        refine k_iast (x' := (xM S (up2 (up2 (up2 (up2 (up2 (up2 ((f_X7_noComplaint a1 M).2) 0 0 0) 20 ((a1).toNatClampNeg) (j_X7_find_61 a1 a2 M)) 11 ((a1).toNatClampNeg) 100) 21 ((a1).toNatClampNeg) (j_X7_find_173 a1 a2 M)) 16 ((a1).toNatClampNeg) ((((f_X7_noComplaint a1 M).2) 0 1) + (30 * ((up2 (up2 (up2 (up2 ((f_X7_noComplaint a1 M).2) 0 0 0) 20 ((a1).toNatClampNeg) (j_X7_find_61 a1 a2 M)) 11 ((a1).toNatClampNeg) 100) 21 ((a1).toNatClampNeg) (j_X7_find_173 a1 a2 M)) 21 ((a1).toNatClampNeg))))) 3 ((((f_X7_noComplaint a1 M).2) 6 ((a1).toNatClampNeg)).toNatClampNeg) ((((f_X7_noComplaint a1 M).2) 3 ((((f_X7_noComplaint a1 M).2) 6 ((a1).toNatClampNeg)).toNatClampNeg)) + (1 + (f_X7_joinedTo a1 (up2 (up2 ((f_X7_noComplaint a1 M).2) 0 0 0) 20 ((a1).toNatClampNeg) (j_X7_find_61 a1 a2 M)))))) o)) (f := (up2 (up2 (up2 (up2 (up2 ((f_X7_noComplaint a1 M).2) 0 0 0) 20 ((a1).toNatClampNeg) (j_X7_find_61 a1 a2 M)) 11 ((a1).toNatClampNeg) 100) 21 ((a1).toNatClampNeg) (j_X7_find_173 a1 a2 M)) 16 ((a1).toNatClampNeg) ((((f_X7_noComplaint a1 M).2) 0 1) + (30 * ((up2 (up2 (up2 (up2 ((f_X7_noComplaint a1 M).2) 0 0 0) 20 ((a1).toNatClampNeg) (j_X7_find_61 a1 a2 M)) 11 ((a1).toNatClampNeg) 100) 21 ((a1).toNatClampNeg) (j_X7_find_173 a1 a2 M)) 21 ((a1).toNatClampNeg))))) 3) (n := ((((f_X7_noComplaint a1 M).2) 6 ((a1).toNatClampNeg)).toNatClampNeg)) hc hk hw (at_Mk (k := 3) (t := 0) (n := 6) (by decide) (by decide) (by decide) (by decide)) (MN.off (cn_X7_noComplaint hN) (vp_lt (noComplaint_in hN h1))) rfl dX7_find_244 (ms_k (k := 3) (t := 0) (n := 6) (by decide) (by decide) (by decide) (by decide)) (fun H locs hw => ?_)
                        refine lv_aload_n hx hb dX7_find_245 rfl (lv_at hl 4 rfl) ?_
                        refine k_get hc hk hw at_M rfl iX7 24 (by decide) q1059 (v := .ref (gA g (jM 21))) rfl dX7_find_246 ?_
                        refine lv_iload_n hx hb dX7_find_249 rfl (lv_at hl 5 rfl) ?_
                        refine k_iald (f := (up2 (up2 (up2 (up2 ((f_X7_noComplaint a1 M).2) 0 0 0) 20 ((a1).toNatClampNeg) (j_X7_find_61 a1 a2 M)) 11 ((a1).toNatClampNeg) 100) 21 ((a1).toNatClampNeg) (j_X7_find_173 a1 a2 M)) 21) (n := ((a1).toNatClampNeg)) hc hk hw (at_Mk (k := 21) (t := 0) (n := 20) (by decide) (by decide) (by decide) (by decide)) (noComplaint_in hN h1) rfl dX7_find_250 ?_
                        exact W.iret (v := (up2 (up2 (up2 (up2 ((f_X7_noComplaint a1 M).2) 0 0 0) 20 ((a1).toNatClampNeg) (j_X7_find_61 a1 a2 M)) 11 ((a1).toNatClampNeg) 100) 21 ((a1).toNatClampNeg) (j_X7_find_173 a1 a2 M)) 21 ((a1).toNatClampNeg)) hx hb hr (fun t9 ht hW => ke_i hw ht (by simp only [f_X7_find, if_pos h1, if_neg h2, if_pos h3, if_pos h5, if_neg h8]) (by simp only [f_X7_find, if_pos h1, if_neg h2, if_pos h3, if_pos h5, if_neg h8])) hw.2.2.2 dX7_find_251
                      refine lv_iload hx hb dX7_find_173 (lv_at hl 1 rfl) ?_
                      refine lv_iconst (v := 3) hx hb dX7_find_175 (by decide) ?_
                      refine lv_icmp_gt (tgt := 183) hx hb dX7_find_176 (by decide) (fun h13 => ?_) (fun h13 => ?_)
                      · refine lv_iload hx hb dX7_find_183 (lv_at hl 1 rfl) ?_
                        refine lv_bipush (v := 9) hx hb dX7_find_185 (by decide) ?_
                        refine lv_icmp_gt (tgt := 194) hx hb dX7_find_187 (by decide) (fun h14 => ?_) (fun h14 => ?_)
                        · refine lv_iload hx hb dX7_find_194 (lv_at hl 1 rfl) ?_
                          refine lv_bipush (v := 15) hx hb dX7_find_196 (by decide) ?_
                          refine lv_icmp_gt (tgt := 205) hx hb dX7_find_198 (by decide) (fun h15 => ?_) (fun h15 => ?_)
                          · refine lv_iconst (v := 4) hx hb dX7_find_205 (by decide) ?_
                            exact J12 4 (by simp only [j_X7_find_173, if_pos h13, if_pos h14, if_pos h15]) _ _ hw
                          · refine lv_iconst (v := 3) hx hb dX7_find_201 (by decide) ?_
                            refine lv_goto (tgt := 206) hx hb dX7_find_202 (by decide) ?_
                            exact J12 3 (by simp only [j_X7_find_173, if_pos h13, if_pos h14, if_neg h15]) _ _ hw
                        · refine lv_iconst (v := 2) hx hb dX7_find_190 (by decide) ?_
                          refine lv_goto (tgt := 206) hx hb dX7_find_191 (by decide) ?_
                          exact J12 2 (by simp only [j_X7_find_173, if_pos h13, if_neg h14]) _ _ hw
                      · refine lv_iconst (v := 1) hx hb dX7_find_179 (by decide) ?_
                        refine lv_goto (tgt := 206) hx hb dX7_find_180 (by decide) ?_
                        exact J12 1 (by simp only [j_X7_find_173, if_neg h13]) _ _ hw
                    · have hkn := lp_in (m := 5) h11 rfl hk9 (by decide)
                      refine lv_iload hx hb dX7_find_128 (lv_at hl 1 rfl) ?_
                      refine lv_iload_n hx hb dX7_find_130 rfl (lv_at hl 3 rfl) ?_
                      refine lv_iload hx hb dX7_find_131 (lv_at hl 0 rfl) ?_
                      refine lv_ishr hx hb dX7_find_133 ?_
                      refine lv_iconst (v := 1) hx hb dX7_find_134 (by decide) ?_
                      refine lv_iand hx hb dX7_find_135 ?_
                      refine lv_iconst (v := 1) hx hb dX7_find_136 (by decide) ?_
                      refine lv_icmp_ne (tgt := 150) hx hb dX7_find_137 (by decide) (fun h16 => ?_) (fun h16 => ?_)
                      · refine lv_iconst (v := 0) hx hb dX7_find_150 (by decide) ?_
                        refine lv_iadd hx hb dX7_find_151 ?_
                        refine lv_istore (lv' := [(5, .int ((L_find7 a1 a2 M k) + 0)), (6, .int (nI k)), (4, .int (f_X7_joinedTo a1 (up2 (up2 ((f_X7_noComplaint a1 M).2) 0 0 0) 20 ((a1).toNatClampNeg) (j_X7_find_61 a1 a2 M)))), (3, .int (j_X7_find_61 a1 a2 M)), (0, .ref (gA g (jM 0))), (1, .int a1), (2, .int a2)]) hx hb dX7_find_152 hl (by decide) rfl (fun ls hl => ?_)
                        refine lv_iinc (v := nI (k + 1)) (lv' := [(6, .int (nI (k + 1))), (5, .int ((L_find7 a1 a2 M k) + 0)), (4, .int (f_X7_joinedTo a1 (up2 (up2 ((f_X7_noComplaint a1 M).2) 0 0 0) 20 ((a1).toNatClampNeg) (j_X7_find_61 a1 a2 M)))), (3, .int (j_X7_find_61 a1 a2 M)), (0, .ref (gA g (jM 0))), (1, .int a1), (2, .int a2)]) hx hb dX7_find_154 hl (k := 1) rfl (by first | exact (nI_succ _).symm | rfl) (by decide) rfl (fun ls hl => ?_)
                        refine lv_goto (tgt := 122) hx hb dX7_find_157 (by decide) ?_
                        have hw9 : WS g s (xM S (up2 (up2 ((f_X7_noComplaint a1 M).2) 0 0 0) 20 ((a1).toNatClampNeg) (j_X7_find_61 a1 a2 M)) o) H locs := by
                          exact hw
                        have hl9 := lv_sub hl [0, 1, 2, 3, 4, 5, 6] rfl
                        have e8 : (L_find7 a1 a2 M k) + 0 = (L_find7 a1 a2 M (k + 1)) := by simp only [L_find7, b_find7, if_neg h16]
                        rw [e8] at hl9
                        exact ih (k + 1) (by omega) (by omega) _ _ hw9 _ hl9
                      · refine lv_aload_n hx hb dX7_find_140 rfl (lv_at hl 4 rfl) ?_
                        refine k_get hc hk hw at_M rfl iX7 8 (by decide) q1043 (v := .ref (gA g (jM 5))) rfl dX7_find_141 ?_
                        refine lv_iload hx hb dX7_find_144 (lv_at hl 0 rfl) ?_
                        refine k_iald (f := ((f_X7_noComplaint a1 M).2) 5) (n := k) hc hk hw (at_Mk (k := 5) (t := 0) (n := 5) (by decide) (by decide) (by decide) (by decide)) (vp_in_nI (Nat.lt_of_lt_of_le hkn (by omega)) (by omega)) (nI_clamp (by have := hkn; omega)) dX7_find_146 ?_
                        refine lv_goto (tgt := 151) hx hb dX7_find_147 (by decide) ?_
                        refine lv_iadd hx hb dX7_find_151 ?_
                        refine lv_istore (lv' := [(5, .int ((L_find7 a1 a2 M k) + (((f_X7_noComplaint a1 M).2) 5 k))), (6, .int (nI k)), (4, .int (f_X7_joinedTo a1 (up2 (up2 ((f_X7_noComplaint a1 M).2) 0 0 0) 20 ((a1).toNatClampNeg) (j_X7_find_61 a1 a2 M)))), (3, .int (j_X7_find_61 a1 a2 M)), (0, .ref (gA g (jM 0))), (1, .int a1), (2, .int a2)]) hx hb dX7_find_152 hl (by decide) rfl (fun ls hl => ?_)
                        refine lv_iinc (v := nI (k + 1)) (lv' := [(6, .int (nI (k + 1))), (5, .int ((L_find7 a1 a2 M k) + (((f_X7_noComplaint a1 M).2) 5 k))), (4, .int (f_X7_joinedTo a1 (up2 (up2 ((f_X7_noComplaint a1 M).2) 0 0 0) 20 ((a1).toNatClampNeg) (j_X7_find_61 a1 a2 M)))), (3, .int (j_X7_find_61 a1 a2 M)), (0, .ref (gA g (jM 0))), (1, .int a1), (2, .int a2)]) hx hb dX7_find_154 hl (k := 1) rfl (by first | exact (nI_succ _).symm | rfl) (by decide) rfl (fun ls hl => ?_)
                        refine lv_goto (tgt := 122) hx hb dX7_find_157 (by decide) ?_
                        have hw9 : WS g s (xM S (up2 (up2 ((f_X7_noComplaint a1 M).2) 0 0 0) 20 ((a1).toNatClampNeg) (j_X7_find_61 a1 a2 M)) o) H locs := by
                          exact hw
                        have hl9 := lv_sub hl [0, 1, 2, 3, 4, 5, 6] rfl
                        have e8 : (L_find7 a1 a2 M k) + (((f_X7_noComplaint a1 M).2) 5 k) = (L_find7 a1 a2 M (k + 1)) := by simp only [L_find7, b_find7, if_pos h16]
                        rw [e8] at hl9
                        exact ih (k + 1) (by omega) (by omega) _ _ hw9 _ hl9
                exact LP10 (5 + 1) 0 (Nat.zero_le _) (by omega) _ _ hw _ (lv_sub hl [0, 1, 2, 3, 4, 5, 6] rfl)
              refine lv_iload hx hb dX7_find_105 (lv_at hl 0 rfl) ?_
              refine lv_iconst (v := 5) hx hb dX7_find_107 (by decide) ?_
              refine lv_icmp_ge (tgt := 116) hx hb dX7_find_108 (by decide) (fun h19 => ?_) (fun h19 => ?_)
              · refine lv_iconst (v := 5) hx hb dX7_find_116 (by decide) ?_
                exact J9 5 (by simp only [j_X7_find_105, if_pos h19]) _ _ hw
              · refine lv_iload hx hb dX7_find_111 (lv_at hl 0 rfl) ?_
                refine lv_goto (tgt := 117) hx hb dX7_find_113 (by decide) ?_
                exact J9 (f_X7_joinedTo a1 (up2 (up2 ((f_X7_noComplaint a1 M).2) 0 0 0) 20 ((a1).toNatClampNeg) (j_X7_find_61 a1 a2 M))) (by simp only [j_X7_find_105, if_neg h19]) _ _ hw
            · refine lv_aload_n hx hb dX7_find_89 rfl (lv_at hl 1 rfl) ?_
              refine lv_iload_n hx hb dX7_find_90 rfl (lv_at hl 2 rfl) ?_
              refine lv_bipush (v := 117) hx hb dX7_find_91 (by decide) ?_
              refine kc_v hw (va_runV (As := [.int a1, .int 117]) (rest := []) ⟨hx, hb, hml, hc.2.2.1, hc.2.2.2⟩ (m_X7_closes l g S (up2 (up2 ((f_X7_noComplaint a1 M).2) 0 0 0) 20 ((a1).toNatClampNeg) (j_X7_find_61 a1 a2 M)) o a1 117 ⟨by decide +kernel, by decide +kernel, by decide +kernel⟩ _ _ (MN.upf (by decide) (by decide) (by decide) (by decide) (by decide) (by decide) (by decide) (by decide) (MN.up0 (by decide) (by decide) (cn_X7_noComplaint hN))) (noComplaint_in hN h1)) (kw_V hc 2 q1274 q1276 qs69 q8 q1277 rfl rfl (by decide +kernel) ⟨Nat.le_of_ble_eq_true rfl, Nat.le_of_ble_eq_true rfl⟩) (kp_V hk hw at_M rfl) rfl rfl hl.1 rfl (lv_room (Nat.le_of_ble_eq_true rfl)) dX7_find_93 ⟨Nat.le_of_ble_eq_true rfl, Nat.le_of_ble_eq_true rfl⟩) (fun H locs hw => ?_)
              refine lv_iconst (v := 0) hx hb dX7_find_96 (by decide) ?_
              exact W.iret (v := 0) hx hb hr (fun t9 ht hW => ke_i hw ht (by simp only [f_X7_find, if_pos h1, if_neg h2, if_pos h3, if_pos h5, if_pos h8]) (by simp only [f_X7_find, if_pos h1, if_neg h2, if_pos h3, if_pos h5, if_pos h8])) hw.2.2.2 dX7_find_97
          refine lv_aload_n hx hb dX7_find_61 rfl (lv_at hl 0 rfl) ?_
          refine k_get hc hk hw at_M rfl iX7 22 (by decide) q1057 (v := .ref (gA g (jM 19))) rfl dX7_find_62 ?_
          refine lv_iload_n hx hb dX7_find_65 rfl (lv_at hl 1 rfl) ?_
          refine k_zald (f := ((f_X7_noComplaint a1 M).2) 19) (n := ((a1).toNatClampNeg)) hc hk hw (at_Mk (k := 19) (t := 2) (n := 20) (by decide) (by decide) (by decide) (by decide)) (noComplaint_in hN h1) rfl dX7_find_66 ?_
          refine lv_if_eq (tgt := 76) hx hb dX7_find_67 (by decide) (fun h20 => ?_) (fun h20 => ?_)
          · refine lv_iload_n hx hb dX7_find_76 rfl (lv_at hl 2 rfl) ?_
            exact J7 a2 (by simp only [j_X7_find_61, if_pos h20]) _ _ hw
          · refine lv_iload_n hx hb dX7_find_70 rfl (lv_at hl 2 rfl) ?_
            refine lv_iconst (v := 1) hx hb dX7_find_71 (by decide) ?_
            refine lv_ior hx hb dX7_find_72 ?_
            refine lv_goto (tgt := 77) hx hb dX7_find_73 (by decide) ?_
            exact J7 (a2 ||| 1) (by simp only [j_X7_find_61, if_neg h20]) _ _ hw
        · refine lv_iconst (v := 3) hx hb dX7_find_44 (by decide) ?_
          refine lv_goto (tgt := 49) hx hb dX7_find_45 (by decide) ?_
          refine k_put hc hk hw (x' := (xM S (up2 ((f_X7_noComplaint a1 M).2) 0 0 3) o)) at_M rfl iX7 tyX7 tyX7_ok nmX7 0 (by decide) q1035 rfl rfl rfl (Nat.le_of_ble_eq_true rfl) dX7_find_49 (ms_0 (by decide)) (fun H locs hw => ?_)
          refine lv_aload_n hx hb dX7_find_52 rfl (lv_at hl 0 rfl) ?_
          refine k_get hc hk hw at_M rfl iX7 0 (by decide) q1035 (v := .int 3) rfl dX7_find_53 ?_
          refine lv_if_le (tgt := 61) hx hb dX7_find_56 (by decide) (fun h21 => absurd h21 (by decide)) (fun _ => ?_)
          refine lv_iconst (v := 0) hx hb dX7_find_59 (by decide) ?_
          exact W.iret (v := 0) hx hb hr (fun t9 ht hW => ke_i hw ht (by simp only [f_X7_find, if_pos h1, if_neg h2, if_pos h3, if_neg h5]) (by simp only [f_X7_find, if_pos h1, if_neg h2, if_pos h3, if_neg h5])) hw.2.2.2 dX7_find_60
    · refine lv_iconst (v := 2) hx hb dX7_find_21 (by decide) ?_
      refine lv_goto (tgt := 49) hx hb dX7_find_22 (by decide) ?_
      refine k_put hc hk hw (x' := (xM S (up2 ((f_X7_noComplaint a1 M).2) 0 0 2) o)) at_M rfl iX7 tyX7 tyX7_ok nmX7 0 (by decide) q1035 rfl rfl rfl (Nat.le_of_ble_eq_true rfl) dX7_find_49 (ms_0 (by decide)) (fun H locs hw => ?_)
      refine lv_aload_n hx hb dX7_find_52 rfl (lv_at hl 0 rfl) ?_
      refine k_get hc hk hw at_M rfl iX7 0 (by decide) q1035 (v := .int 2) rfl dX7_find_53 ?_
      refine lv_if_le (tgt := 61) hx hb dX7_find_56 (by decide) (fun h22 => absurd h22 (by decide)) (fun _ => ?_)
      refine lv_iconst (v := 0) hx hb dX7_find_59 (by decide) ?_
      exact W.iret (v := 0) hx hb hr (fun t9 ht hW => ke_i hw ht (by simp only [f_X7_find, if_pos h1, if_pos h2]) (by simp only [f_X7_find, if_pos h1, if_pos h2])) hw.2.2.2 dX7_find_60
  · refine lv_iconst (v := 0) hx hb dX7_find_8 (by decide) ?_
    exact W.iret (v := 0) hx hb hr (fun t9 ht hW => ke_i hw ht (by simp only [f_X7_find, if_neg h1]) (by simp only [f_X7_find, if_neg h1])) hw.2.2.2 dX7_find_9
def f_X7_heads (a1 : Int32) (M : BT) : Int32 × BT :=
  (if (f_X7_noComplaint a1 M).1 = 0 then (if ((f_X7_noComplaint a1 M).2) 20 ((f_X7_leading a1 ((f_X7_noComplaint a1 M).2)).toNatClampNeg) = (-1) then (0, up2 ((f_X7_noComplaint a1 M).2) 0 0 2) else (((f_X7_noComplaint a1 M).2) 20 ((f_X7_leading a1 (up2 ((f_X7_noComplaint a1 M).2) 0 0 0)).toNatClampNeg), up2 ((f_X7_noComplaint a1 M).2) 0 0 0)) else (0, (f_X7_noComplaint a1 M).2))
theorem cn_X7_heads {a1 : Int32} {M : BT} {n m9 : Nat} (hN : MN M n m9) : MN ((f_X7_heads a1 M).2) n m9 := by
  unfold f_X7_heads
  by_cases h1 : (f_X7_noComplaint a1 M).1 = 0
  · simp only [if_pos h1]
    by_cases h2 : ((f_X7_noComplaint a1 M).2) 20 ((f_X7_leading a1 ((f_X7_noComplaint a1 M).2)).toNatClampNeg) = (-1)
    · simp only [if_pos h2]
      exact (MN.up0 (by decide) (by decide) (cn_X7_noComplaint hN))
    · simp only [if_neg h2]
      exact (MN.up0 (by decide) (by decide) (cn_X7_noComplaint hN))
  · simp only [if_neg h1]
    exact (cn_X7_noComplaint hN)
set_option maxHeartbeats 4000000 in
set_option maxRecDepth 100000 in
theorem m_X7_heads (l : Launch) (g : wG) (S : Nat → BT) (M : BT) (o : (Nat → Int64) × (Nat → UInt64)) (a1 : Int32) (n m9 : Nat) (hN : MN M n m9) : mI l yX7_heads cX7_heads 2 (some .int) ({ frames := 3, cells := 0, slots := 0, locals := 64 } : Room) 0 0 g (xM S M o) [.ref (gA g (jM 0)), .int a1] ((f_X7_heads a1 M).1) (xM S ((f_X7_heads a1 M).2) o) := by
  refine Met.ofW (cc := cX7_heads) (maxL := 2) (ret := some .int) (by decide) rfl ?_
  intro p9 e s m args below meth c s₁ BL hml hv
  obtain ⟨rfl, hk, hPB⟩ := hv
  have hx := BL.exec
  have hb := BL.bytes
  have hc : CX p9 c cX7_heads s _ m RX7 := ⟨hx, hb, findClass_of_methodNamed BL.named, fun w h => atoms_spec BL.pre w (List.mem_cons_of_mem _ h)⟩
  have hr := BL.returns
  have hlocks := BL.notSynchronized
  have hw : WS g s (xM S M o) s.heap [] := ⟨hPB, va_S.rf⟩
  have hl := lv_entry ([.ref (gA g (jM 0)), .int a1]) (n := 2) (Nat.le_of_ble_eq_true rfl)
  rw [lg_entry_eq]
  generalize (lg_sl ([.ref (gA g (jM 0)), .int a1]) ++ List.replicate (2 - (lg_sl ([.ref (gA g (jM 0)), .int a1])).length) Slot.unset).toArray = ls at hl ⊢
  have hl : lv_has ls 2 [(0, .ref (gA g (jM 0))), (1, .int a1)] := hl
  refine lv_aload_n hx hb dX7_heads_0 rfl (lv_at hl 0 rfl) ?_
  refine lv_iload_n hx hb dX7_heads_1 rfl (lv_at hl 1 rfl) ?_
  refine kc_i hw (va_runV (As := [.int a1]) (rest := []) ⟨hx, hb, hml, hc.2.2.1, hc.2.2.2⟩ (m_X7_noComplaint l g S M o a1 _ _ hN) (kw_V hc 1 q1172 q1174 qs64 q8 q1175 rfl rfl (by decide +kernel) ⟨Nat.le_of_ble_eq_true rfl, Nat.le_of_ble_eq_true rfl⟩) (kp_V hk hw at_M rfl) rfl rfl hl.1 rfl (lv_room (Nat.le_of_ble_eq_true rfl)) dX7_heads_2 ⟨Nat.le_of_ble_eq_true rfl, Nat.le_of_ble_eq_true rfl⟩) (fun H locs hw => ?_)
  refine lv_if_eq (tgt := 10) hx hb dX7_heads_5 (by decide) (fun h1 => ?_) (fun h1 => ?_)
  · refine lv_aload_n hx hb dX7_heads_10 rfl (lv_at hl 0 rfl) ?_
    refine lv_aload_n hx hb dX7_heads_11 rfl (lv_at hl 0 rfl) ?_
    refine k_get hc hk hw at_M rfl iX7 23 (by decide) q1058 (v := .ref (gA g (jM 20))) rfl dX7_heads_12 ?_
    refine lv_aload_n hx hb dX7_heads_15 rfl (lv_at hl 0 rfl) ?_
    refine lv_iload_n hx hb dX7_heads_16 rfl (lv_at hl 1 rfl) ?_
    refine kc_i hw (va_runV (As := [.int a1]) (rest := [.ref (gA g (jM 20)), .ref (gA g (jM 0))]) ⟨hx, hb, hml, hc.2.2.1, hc.2.2.2⟩ (m_X7_leading l g S ((f_X7_noComplaint a1 M).2) o a1 _ _ (cn_X7_noComplaint hN) (noComplaint_in hN h1)) (kw_V hc 1 q1144 q1146 qs60 q8 q1147 rfl rfl (by decide +kernel) ⟨Nat.le_of_ble_eq_true rfl, Nat.le_of_ble_eq_true rfl⟩) (kp_V hk hw at_M rfl) rfl rfl hl.1 rfl (lv_room (Nat.le_of_ble_eq_true rfl)) dX7_heads_17 ⟨Nat.le_of_ble_eq_true rfl, Nat.le_of_ble_eq_true rfl⟩) (fun H locs hw => ?_)
    refine k_iald (f := ((f_X7_noComplaint a1 M).2) 20) (n := ((f_X7_leading a1 ((f_X7_noComplaint a1 M).2)).toNatClampNeg)) hc hk hw (at_Mk (k := 20) (t := 0) (n := 20) (by decide) (by decide) (by decide) (by decide)) (leading_in (cn_X7_noComplaint hN) (noComplaint_in hN h1)) rfl dX7_heads_20 ?_
    refine lv_iconst (v := (-1)) hx hb dX7_heads_21 (by decide) ?_
    refine lv_icmp_ne (tgt := 29) hx hb dX7_heads_22 (by decide) (fun h2 => ?_) (fun h2 => ?_)
    · refine lv_iconst (v := 0) hx hb dX7_heads_29 (by decide) ?_
      refine k_put hc hk hw (x' := (xM S (up2 ((f_X7_noComplaint a1 M).2) 0 0 0) o)) at_M rfl iX7 tyX7 tyX7_ok nmX7 0 (by decide) q1035 rfl rfl rfl (Nat.le_of_ble_eq_true rfl) dX7_heads_30 (ms_0 (by decide)) (fun H locs hw => ?_)
      refine lv_aload_n hx hb dX7_heads_33 rfl (lv_at hl 0 rfl) ?_
      refine k_get hc hk hw at_M rfl iX7 0 (by decide) q1035 (v := .int 0) rfl dX7_heads_34 ?_
      refine lv_if_le (tgt := 44) hx hb dX7_heads_37 (by decide) (fun _ => ?_) (fun h3 => absurd h3 (by decide))
      refine lv_aload_n hx hb dX7_heads_44 rfl (lv_at hl 0 rfl) ?_
      refine k_get hc hk hw at_M rfl iX7 23 (by decide) q1058 (v := .ref (gA g (jM 20))) rfl dX7_heads_45 ?_
      refine lv_aload_n hx hb dX7_heads_48 rfl (lv_at hl 0 rfl) ?_
      refine lv_iload_n hx hb dX7_heads_49 rfl (lv_at hl 1 rfl) ?_
      refine kc_i hw (va_runV (As := [.int a1]) (rest := [.ref (gA g (jM 20))]) ⟨hx, hb, hml, hc.2.2.1, hc.2.2.2⟩ (m_X7_leading l g S (up2 ((f_X7_noComplaint a1 M).2) 0 0 0) o a1 _ _ (MN.up0 (by decide) (by decide) (cn_X7_noComplaint hN)) (noComplaint_in hN h1)) (kw_V hc 1 q1144 q1146 qs60 q8 q1147 rfl rfl (by decide +kernel) ⟨Nat.le_of_ble_eq_true rfl, Nat.le_of_ble_eq_true rfl⟩) (kp_V hk hw at_M rfl) rfl rfl hl.1 rfl (lv_room (Nat.le_of_ble_eq_true rfl)) dX7_heads_50 ⟨Nat.le_of_ble_eq_true rfl, Nat.le_of_ble_eq_true rfl⟩) (fun H locs hw => ?_)
      refine k_iald (f := ((f_X7_noComplaint a1 M).2) 20) (n := ((f_X7_leading a1 (up2 ((f_X7_noComplaint a1 M).2) 0 0 0)).toNatClampNeg)) hc hk hw (at_Mk (k := 20) (t := 0) (n := 20) (by decide) (by decide) (by decide) (by decide)) (leading_in (MN.up0 (by decide) (by decide) (cn_X7_noComplaint hN)) (noComplaint_in hN h1)) rfl dX7_heads_53 ?_
      exact W.iret (v := ((f_X7_noComplaint a1 M).2) 20 ((f_X7_leading a1 (up2 ((f_X7_noComplaint a1 M).2) 0 0 0)).toNatClampNeg)) hx hb hr (fun t9 ht hW => ke_i hw ht (by simp only [f_X7_heads, if_pos h1, if_neg h2]) (by simp only [f_X7_heads, if_pos h1, if_neg h2])) hw.2.2.2 dX7_heads_54
    · refine lv_iconst (v := 2) hx hb dX7_heads_25 (by decide) ?_
      refine lv_goto (tgt := 30) hx hb dX7_heads_26 (by decide) ?_
      refine k_put hc hk hw (x' := (xM S (up2 ((f_X7_noComplaint a1 M).2) 0 0 2) o)) at_M rfl iX7 tyX7 tyX7_ok nmX7 0 (by decide) q1035 rfl rfl rfl (Nat.le_of_ble_eq_true rfl) dX7_heads_30 (ms_0 (by decide)) (fun H locs hw => ?_)
      refine lv_aload_n hx hb dX7_heads_33 rfl (lv_at hl 0 rfl) ?_
      refine k_get hc hk hw at_M rfl iX7 0 (by decide) q1035 (v := .int 2) rfl dX7_heads_34 ?_
      refine lv_if_le (tgt := 44) hx hb dX7_heads_37 (by decide) (fun h4 => absurd h4 (by decide)) (fun _ => ?_)
      refine lv_iconst (v := 0) hx hb dX7_heads_40 (by decide) ?_
      refine lv_goto (tgt := 54) hx hb dX7_heads_41 (by decide) ?_
      exact W.iret (v := 0) hx hb hr (fun t9 ht hW => ke_i hw ht (by simp only [f_X7_heads, if_pos h1, if_pos h2]) (by simp only [f_X7_heads, if_pos h1, if_pos h2])) hw.2.2.2 dX7_heads_54
  · refine lv_iconst (v := 0) hx hb dX7_heads_8 (by decide) ?_
    exact W.iret (v := 0) hx hb hr (fun t9 ht hW => ke_i hw ht (by simp only [f_X7_heads, if_neg h1]) (by simp only [f_X7_heads, if_neg h1])) hw.2.2.2 dX7_heads_9
def f_X7_remedy (a1 : Int32) (M : BT) : Int32 × BT :=
  (if (f_X7_noComplaint a1 M).1 = 0 then (if ((f_X7_noComplaint a1 M).2) 21 ((f_X7_leading a1 ((f_X7_noComplaint a1 M).2)).toNatClampNeg) = 0 then (0, up2 ((f_X7_noComplaint a1 M).2) 0 0 2) else (((f_X7_noComplaint a1 M).2) 21 ((f_X7_leading a1 (up2 ((f_X7_noComplaint a1 M).2) 0 0 0)).toNatClampNeg), up2 ((f_X7_noComplaint a1 M).2) 0 0 0)) else (0, (f_X7_noComplaint a1 M).2))
theorem cn_X7_remedy {a1 : Int32} {M : BT} {n m9 : Nat} (hN : MN M n m9) : MN ((f_X7_remedy a1 M).2) n m9 := by
  unfold f_X7_remedy
  by_cases h1 : (f_X7_noComplaint a1 M).1 = 0
  · simp only [if_pos h1]
    by_cases h2 : ((f_X7_noComplaint a1 M).2) 21 ((f_X7_leading a1 ((f_X7_noComplaint a1 M).2)).toNatClampNeg) = 0
    · simp only [if_pos h2]
      exact (MN.up0 (by decide) (by decide) (cn_X7_noComplaint hN))
    · simp only [if_neg h2]
      exact (MN.up0 (by decide) (by decide) (cn_X7_noComplaint hN))
  · simp only [if_neg h1]
    exact (cn_X7_noComplaint hN)
set_option maxHeartbeats 4000000 in
set_option maxRecDepth 100000 in
theorem m_X7_remedy (l : Launch) (g : wG) (S : Nat → BT) (M : BT) (o : (Nat → Int64) × (Nat → UInt64)) (a1 : Int32) (n m9 : Nat) (hN : MN M n m9) : mI l yX7_remedy cX7_remedy 2 (some .int) ({ frames := 3, cells := 0, slots := 0, locals := 64 } : Room) 0 0 g (xM S M o) [.ref (gA g (jM 0)), .int a1] ((f_X7_remedy a1 M).1) (xM S ((f_X7_remedy a1 M).2) o) := by
  refine Met.ofW (cc := cX7_remedy) (maxL := 2) (ret := some .int) (by decide) rfl ?_
  intro p9 e s m args below meth c s₁ BL hml hv
  obtain ⟨rfl, hk, hPB⟩ := hv
  have hx := BL.exec
  have hb := BL.bytes
  have hc : CX p9 c cX7_remedy s _ m RX7 := ⟨hx, hb, findClass_of_methodNamed BL.named, fun w h => atoms_spec BL.pre w (List.mem_cons_of_mem _ h)⟩
  have hr := BL.returns
  have hlocks := BL.notSynchronized
  have hw : WS g s (xM S M o) s.heap [] := ⟨hPB, va_S.rf⟩
  have hl := lv_entry ([.ref (gA g (jM 0)), .int a1]) (n := 2) (Nat.le_of_ble_eq_true rfl)
  rw [lg_entry_eq]
  generalize (lg_sl ([.ref (gA g (jM 0)), .int a1]) ++ List.replicate (2 - (lg_sl ([.ref (gA g (jM 0)), .int a1])).length) Slot.unset).toArray = ls at hl ⊢
  have hl : lv_has ls 2 [(0, .ref (gA g (jM 0))), (1, .int a1)] := hl
  refine lv_aload_n hx hb dX7_remedy_0 rfl (lv_at hl 0 rfl) ?_
  refine lv_iload_n hx hb dX7_remedy_1 rfl (lv_at hl 1 rfl) ?_
  refine kc_i hw (va_runV (As := [.int a1]) (rest := []) ⟨hx, hb, hml, hc.2.2.1, hc.2.2.2⟩ (m_X7_noComplaint l g S M o a1 _ _ hN) (kw_V hc 1 q1172 q1174 qs64 q8 q1175 rfl rfl (by decide +kernel) ⟨Nat.le_of_ble_eq_true rfl, Nat.le_of_ble_eq_true rfl⟩) (kp_V hk hw at_M rfl) rfl rfl hl.1 rfl (lv_room (Nat.le_of_ble_eq_true rfl)) dX7_remedy_2 ⟨Nat.le_of_ble_eq_true rfl, Nat.le_of_ble_eq_true rfl⟩) (fun H locs hw => ?_)
  refine lv_if_eq (tgt := 10) hx hb dX7_remedy_5 (by decide) (fun h1 => ?_) (fun h1 => ?_)
  · refine lv_aload_n hx hb dX7_remedy_10 rfl (lv_at hl 0 rfl) ?_
    refine lv_aload_n hx hb dX7_remedy_11 rfl (lv_at hl 0 rfl) ?_
    refine k_get hc hk hw at_M rfl iX7 24 (by decide) q1059 (v := .ref (gA g (jM 21))) rfl dX7_remedy_12 ?_
    refine lv_aload_n hx hb dX7_remedy_15 rfl (lv_at hl 0 rfl) ?_
    refine lv_iload_n hx hb dX7_remedy_16 rfl (lv_at hl 1 rfl) ?_
    refine kc_i hw (va_runV (As := [.int a1]) (rest := [.ref (gA g (jM 21)), .ref (gA g (jM 0))]) ⟨hx, hb, hml, hc.2.2.1, hc.2.2.2⟩ (m_X7_leading l g S ((f_X7_noComplaint a1 M).2) o a1 _ _ (cn_X7_noComplaint hN) (noComplaint_in hN h1)) (kw_V hc 1 q1144 q1146 qs60 q8 q1147 rfl rfl (by decide +kernel) ⟨Nat.le_of_ble_eq_true rfl, Nat.le_of_ble_eq_true rfl⟩) (kp_V hk hw at_M rfl) rfl rfl hl.1 rfl (lv_room (Nat.le_of_ble_eq_true rfl)) dX7_remedy_17 ⟨Nat.le_of_ble_eq_true rfl, Nat.le_of_ble_eq_true rfl⟩) (fun H locs hw => ?_)
    refine k_iald (f := ((f_X7_noComplaint a1 M).2) 21) (n := ((f_X7_leading a1 ((f_X7_noComplaint a1 M).2)).toNatClampNeg)) hc hk hw (at_Mk (k := 21) (t := 0) (n := 20) (by decide) (by decide) (by decide) (by decide)) (leading_in (cn_X7_noComplaint hN) (noComplaint_in hN h1)) rfl dX7_remedy_20 ?_
    refine lv_if_ne (tgt := 28) hx hb dX7_remedy_21 (by decide) (fun h2 => ?_) (fun h2 => ?_)
    · refine lv_iconst (v := 0) hx hb dX7_remedy_28 (by decide) ?_
      refine k_put hc hk hw (x' := (xM S (up2 ((f_X7_noComplaint a1 M).2) 0 0 0) o)) at_M rfl iX7 tyX7 tyX7_ok nmX7 0 (by decide) q1035 rfl rfl rfl (Nat.le_of_ble_eq_true rfl) dX7_remedy_29 (ms_0 (by decide)) (fun H locs hw => ?_)
      refine lv_aload_n hx hb dX7_remedy_32 rfl (lv_at hl 0 rfl) ?_
      refine k_get hc hk hw at_M rfl iX7 0 (by decide) q1035 (v := .int 0) rfl dX7_remedy_33 ?_
      refine lv_if_le (tgt := 43) hx hb dX7_remedy_36 (by decide) (fun _ => ?_) (fun h3 => absurd h3 (by decide))
      refine lv_aload_n hx hb dX7_remedy_43 rfl (lv_at hl 0 rfl) ?_
      refine k_get hc hk hw at_M rfl iX7 24 (by decide) q1059 (v := .ref (gA g (jM 21))) rfl dX7_remedy_44 ?_
      refine lv_aload_n hx hb dX7_remedy_47 rfl (lv_at hl 0 rfl) ?_
      refine lv_iload_n hx hb dX7_remedy_48 rfl (lv_at hl 1 rfl) ?_
      refine kc_i hw (va_runV (As := [.int a1]) (rest := [.ref (gA g (jM 21))]) ⟨hx, hb, hml, hc.2.2.1, hc.2.2.2⟩ (m_X7_leading l g S (up2 ((f_X7_noComplaint a1 M).2) 0 0 0) o a1 _ _ (MN.up0 (by decide) (by decide) (cn_X7_noComplaint hN)) (noComplaint_in hN h1)) (kw_V hc 1 q1144 q1146 qs60 q8 q1147 rfl rfl (by decide +kernel) ⟨Nat.le_of_ble_eq_true rfl, Nat.le_of_ble_eq_true rfl⟩) (kp_V hk hw at_M rfl) rfl rfl hl.1 rfl (lv_room (Nat.le_of_ble_eq_true rfl)) dX7_remedy_49 ⟨Nat.le_of_ble_eq_true rfl, Nat.le_of_ble_eq_true rfl⟩) (fun H locs hw => ?_)
      refine k_iald (f := ((f_X7_noComplaint a1 M).2) 21) (n := ((f_X7_leading a1 (up2 ((f_X7_noComplaint a1 M).2) 0 0 0)).toNatClampNeg)) hc hk hw (at_Mk (k := 21) (t := 0) (n := 20) (by decide) (by decide) (by decide) (by decide)) (leading_in (MN.up0 (by decide) (by decide) (cn_X7_noComplaint hN)) (noComplaint_in hN h1)) rfl dX7_remedy_52 ?_
      exact W.iret (v := ((f_X7_noComplaint a1 M).2) 21 ((f_X7_leading a1 (up2 ((f_X7_noComplaint a1 M).2) 0 0 0)).toNatClampNeg)) hx hb hr (fun t9 ht hW => ke_i hw ht (by simp only [f_X7_remedy, if_pos h1, if_neg h2]) (by simp only [f_X7_remedy, if_pos h1, if_neg h2])) hw.2.2.2 dX7_remedy_53
    · refine lv_iconst (v := 2) hx hb dX7_remedy_24 (by decide) ?_
      refine lv_goto (tgt := 29) hx hb dX7_remedy_25 (by decide) ?_
      refine k_put hc hk hw (x' := (xM S (up2 ((f_X7_noComplaint a1 M).2) 0 0 2) o)) at_M rfl iX7 tyX7 tyX7_ok nmX7 0 (by decide) q1035 rfl rfl rfl (Nat.le_of_ble_eq_true rfl) dX7_remedy_29 (ms_0 (by decide)) (fun H locs hw => ?_)
      refine lv_aload_n hx hb dX7_remedy_32 rfl (lv_at hl 0 rfl) ?_
      refine k_get hc hk hw at_M rfl iX7 0 (by decide) q1035 (v := .int 2) rfl dX7_remedy_33 ?_
      refine lv_if_le (tgt := 43) hx hb dX7_remedy_36 (by decide) (fun h4 => absurd h4 (by decide)) (fun _ => ?_)
      refine lv_iconst (v := 0) hx hb dX7_remedy_39 (by decide) ?_
      refine lv_goto (tgt := 53) hx hb dX7_remedy_40 (by decide) ?_
      exact W.iret (v := 0) hx hb hr (fun t9 ht hW => ke_i hw ht (by simp only [f_X7_remedy, if_pos h1, if_pos h2]) (by simp only [f_X7_remedy, if_pos h1, if_pos h2])) hw.2.2.2 dX7_remedy_53
  · refine lv_iconst (v := 0) hx hb dX7_remedy_8 (by decide) ?_
    exact W.iret (v := 0) hx hb hr (fun t9 ht hW => ke_i hw ht (by simp only [f_X7_remedy, if_neg h1]) (by simp only [f_X7_remedy, if_neg h1])) hw.2.2.2 dX7_remedy_9
def f_X7_accept (a1 : Int32) (a2 : Int32) (M : BT) : Int32 × BT :=
  (if (f_X7_isNot a1 100 M).1 = 0 then (if ((f_X7_isNot a1 100 M).2) 22 ((a1).toNatClampNeg) = (-1) then (if a2 = 0 then (((f_X7_isNot a1 100 M).2) 16 ((a1).toNatClampNeg), up2 (up2 ((f_X7_isNot a1 100 M).2) 0 0 0) 22 ((a1).toNatClampNeg) 0) else (((f_X7_isNot a1 100 M).2) 16 ((a1).toNatClampNeg), up2 (up2 ((f_X7_isNot a1 100 M).2) 0 0 0) 22 ((a1).toNatClampNeg) 1)) else (0, up2 ((f_X7_isNot a1 100 M).2) 0 0 2)) else (0, (f_X7_isNot a1 100 M).2))
theorem cn_X7_accept {a1 : Int32} {a2 : Int32} {M : BT} {n m9 : Nat} (hN : MN M n m9) : MN ((f_X7_accept a1 a2 M).2) n m9 := by
  unfold f_X7_accept
  by_cases h1 : (f_X7_isNot a1 100 M).1 = 0
  · simp only [if_pos h1]
    by_cases h2 : ((f_X7_isNot a1 100 M).2) 22 ((a1).toNatClampNeg) = (-1)
    · simp only [if_pos h2]
      by_cases h4 : a2 = 0
      · simp only [if_pos h4]
        exact (MN.upf (by decide) (by decide) (by decide) (by decide) (by decide) (by decide) (by decide) (by decide) (MN.up0 (by decide) (by decide) (cn_X7_isNot hN)))
      · simp only [if_neg h4]
        exact (MN.upf (by decide) (by decide) (by decide) (by decide) (by decide) (by decide) (by decide) (by decide) (MN.up0 (by decide) (by decide) (cn_X7_isNot hN)))
    · simp only [if_neg h2]
      exact (MN.up0 (by decide) (by decide) (cn_X7_isNot hN))
  · simp only [if_neg h1]
    exact (cn_X7_isNot hN)
set_option maxHeartbeats 4000000 in
set_option maxRecDepth 100000 in
theorem m_X7_accept (l : Launch) (g : wG) (S : Nat → BT) (M : BT) (o : (Nat → Int64) × (Nat → UInt64)) (a1 : Int32) (a2 : Int32) (n m9 : Nat) (hN : MN M n m9) : mI l yX7_accept cX7_accept 3 (some .int) ({ frames := 4, cells := 0, slots := 0, locals := 86 } : Room) 0 0 g (xM S M o) [.ref (gA g (jM 0)), .int a1, .int a2] ((f_X7_accept a1 a2 M).1) (xM S ((f_X7_accept a1 a2 M).2) o) := by
  refine Met.ofW (cc := cX7_accept) (maxL := 3) (ret := some .int) (by decide) rfl ?_
  intro p9 e s m args below meth c s₁ BL hml hv
  obtain ⟨rfl, hk, hPB⟩ := hv
  have hx := BL.exec
  have hb := BL.bytes
  have hc : CX p9 c cX7_accept s _ m RX7 := ⟨hx, hb, findClass_of_methodNamed BL.named, fun w h => atoms_spec BL.pre w (List.mem_cons_of_mem _ h)⟩
  have hr := BL.returns
  have hlocks := BL.notSynchronized
  have hw : WS g s (xM S M o) s.heap [] := ⟨hPB, va_S.rf⟩
  have hl := lv_entry ([.ref (gA g (jM 0)), .int a1, .int a2]) (n := 3) (Nat.le_of_ble_eq_true rfl)
  rw [lg_entry_eq]
  generalize (lg_sl ([.ref (gA g (jM 0)), .int a1, .int a2]) ++ List.replicate (3 - (lg_sl ([.ref (gA g (jM 0)), .int a1, .int a2])).length) Slot.unset).toArray = ls at hl ⊢
  have hl : lv_has ls 3 [(0, .ref (gA g (jM 0))), (1, .int a1), (2, .int a2)] := hl
  refine lv_aload_n hx hb dX7_accept_0 rfl (lv_at hl 0 rfl) ?_
  refine lv_iload_n hx hb dX7_accept_1 rfl (lv_at hl 1 rfl) ?_
  refine lv_bipush (v := 100) hx hb dX7_accept_2 (by decide) ?_
  refine kc_i hw (va_runV (As := [.int a1, .int 100]) (rest := []) ⟨hx, hb, hml, hc.2.2.1, hc.2.2.2⟩ (m_X7_isNot l g S M o a1 100 _ _ hN) (kw_V hc 2 q1214 q1216 qs66 q8 q1217 rfl rfl (by decide +kernel) ⟨Nat.le_of_ble_eq_true rfl, Nat.le_of_ble_eq_true rfl⟩) (kp_V hk hw at_M rfl) rfl rfl hl.1 rfl (lv_room (Nat.le_of_ble_eq_true rfl)) dX7_accept_4 ⟨Nat.le_of_ble_eq_true rfl, Nat.le_of_ble_eq_true rfl⟩) (fun H locs hw => ?_)
  refine lv_if_eq (tgt := 12) hx hb dX7_accept_7 (by decide) (fun h1 => ?_) (fun h1 => ?_)
  · refine lv_aload_n hx hb dX7_accept_12 rfl (lv_at hl 0 rfl) ?_
    refine lv_aload_n hx hb dX7_accept_13 rfl (lv_at hl 0 rfl) ?_
    refine k_get hc hk hw at_M rfl iX7 25 (by decide) q1060 (v := .ref (gA g (jM 22))) rfl dX7_accept_14 ?_
    refine lv_iload_n hx hb dX7_accept_17 rfl (lv_at hl 1 rfl) ?_
    refine k_iald (f := ((f_X7_isNot a1 100 M).2) 22) (n := ((a1).toNatClampNeg)) hc hk hw (at_Mk (k := 22) (t := 0) (n := 20) (by decide) (by decide) (by decide) (by decide)) (isNot_in hN h1) rfl dX7_accept_18 ?_
    refine lv_iconst (v := (-1)) hx hb dX7_accept_19 (by decide) ?_
    refine lv_icmp_eq (tgt := 27) hx hb dX7_accept_20 (by decide) (fun h2 => ?_) (fun h2 => ?_)
    · refine lv_iconst (v := 0) hx hb dX7_accept_27 (by decide) ?_
      refine k_put hc hk hw (x' := (xM S (up2 ((f_X7_isNot a1 100 M).2) 0 0 0) o)) at_M rfl iX7 tyX7 tyX7_ok nmX7 0 (by decide) q1035 rfl rfl rfl (Nat.le_of_ble_eq_true rfl) dX7_accept_28 (ms_0 (by decide)) (fun H locs hw => ?_)
      refine lv_aload_n hx hb dX7_accept_31 rfl (lv_at hl 0 rfl) ?_
      refine k_get hc hk hw at_M rfl iX7 0 (by decide) q1035 (v := .int 0) rfl dX7_accept_32 ?_
      refine lv_if_le (tgt := 40) hx hb dX7_accept_35 (by decide) (fun _ => ?_) (fun h3 => absurd h3 (by decide))
      refine lv_aload_n hx hb dX7_accept_40 rfl (lv_at hl 0 rfl) ?_
      refine k_get hc hk hw at_M rfl iX7 25 (by decide) q1060 (v := .ref (gA g (jM 22))) rfl dX7_accept_41 ?_
      refine lv_iload_n hx hb dX7_accept_44 rfl (lv_at hl 1 rfl) ?_
      refine lv_iload_n hx hb dX7_accept_45 rfl (lv_at hl 2 rfl) ?_
      refine lv_if_eq (tgt := 53) hx hb dX7_accept_46 (by decide) (fun h4 => ?_) (fun h4 => ?_)
      · refine lv_iconst (v := 0) hx hb dX7_accept_53 (by decide) ?_
        refine k_iast (x' := (xM S (up2 (up2 ((f_X7_isNot a1 100 M).2) 0 0 0) 22 ((a1).toNatClampNeg) 0) o)) (f := (up2 ((f_X7_isNot a1 100 M).2) 0 0 0) 22) (n := ((a1).toNatClampNeg)) hc hk hw (at_Mk (k := 22) (t := 0) (n := 20) (by decide) (by decide) (by decide) (by decide)) (isNot_in hN h1) rfl dX7_accept_54 (ms_k (k := 22) (t := 0) (n := 20) (by decide) (by decide) (by decide) (by decide)) (fun H locs hw => ?_)
        refine lv_aload_n hx hb dX7_accept_55 rfl (lv_at hl 0 rfl) ?_
        refine k_get hc hk hw at_M rfl iX7 19 (by decide) q1054 (v := .ref (gA g (jM 16))) rfl dX7_accept_56 ?_
        refine lv_iload_n hx hb dX7_accept_59 rfl (lv_at hl 1 rfl) ?_
        refine k_iald (f := ((f_X7_isNot a1 100 M).2) 16) (n := ((a1).toNatClampNeg)) hc hk hw (at_Mk (k := 16) (t := 0) (n := 20) (by decide) (by decide) (by decide) (by decide)) (isNot_in hN h1) rfl dX7_accept_60 ?_
        exact W.iret (v := ((f_X7_isNot a1 100 M).2) 16 ((a1).toNatClampNeg)) hx hb hr (fun t9 ht hW => ke_i hw ht (by simp only [f_X7_accept, if_pos h1, if_pos h2, if_pos h4]) (by simp only [f_X7_accept, if_pos h1, if_pos h2, if_pos h4])) hw.2.2.2 dX7_accept_61
      · refine lv_iconst (v := 1) hx hb dX7_accept_49 (by decide) ?_
        refine lv_goto (tgt := 54) hx hb dX7_accept_50 (by decide) ?_
        refine k_iast (x' := (xM S (up2 (up2 ((f_X7_isNot a1 100 M).2) 0 0 0) 22 ((a1).toNatClampNeg) 1) o)) (f := (up2 ((f_X7_isNot a1 100 M).2) 0 0 0) 22) (n := ((a1).toNatClampNeg)) hc hk hw (at_Mk (k := 22) (t := 0) (n := 20) (by decide) (by decide) (by decide) (by decide)) (isNot_in hN h1) rfl dX7_accept_54 (ms_k (k := 22) (t := 0) (n := 20) (by decide) (by decide) (by decide) (by decide)) (fun H locs hw => ?_)
        refine lv_aload_n hx hb dX7_accept_55 rfl (lv_at hl 0 rfl) ?_
        refine k_get hc hk hw at_M rfl iX7 19 (by decide) q1054 (v := .ref (gA g (jM 16))) rfl dX7_accept_56 ?_
        refine lv_iload_n hx hb dX7_accept_59 rfl (lv_at hl 1 rfl) ?_
        refine k_iald (f := ((f_X7_isNot a1 100 M).2) 16) (n := ((a1).toNatClampNeg)) hc hk hw (at_Mk (k := 16) (t := 0) (n := 20) (by decide) (by decide) (by decide) (by decide)) (isNot_in hN h1) rfl dX7_accept_60 ?_
        exact W.iret (v := ((f_X7_isNot a1 100 M).2) 16 ((a1).toNatClampNeg)) hx hb hr (fun t9 ht hW => ke_i hw ht (by simp only [f_X7_accept, if_pos h1, if_pos h2, if_neg h4]) (by simp only [f_X7_accept, if_pos h1, if_pos h2, if_neg h4])) hw.2.2.2 dX7_accept_61
    · refine lv_iconst (v := 2) hx hb dX7_accept_23 (by decide) ?_
      refine lv_goto (tgt := 28) hx hb dX7_accept_24 (by decide) ?_
      refine k_put hc hk hw (x' := (xM S (up2 ((f_X7_isNot a1 100 M).2) 0 0 2) o)) at_M rfl iX7 tyX7 tyX7_ok nmX7 0 (by decide) q1035 rfl rfl rfl (Nat.le_of_ble_eq_true rfl) dX7_accept_28 (ms_0 (by decide)) (fun H locs hw => ?_)
      refine lv_aload_n hx hb dX7_accept_31 rfl (lv_at hl 0 rfl) ?_
      refine k_get hc hk hw at_M rfl iX7 0 (by decide) q1035 (v := .int 2) rfl dX7_accept_32 ?_
      refine lv_if_le (tgt := 40) hx hb dX7_accept_35 (by decide) (fun h5 => absurd h5 (by decide)) (fun _ => ?_)
      refine lv_iconst (v := 0) hx hb dX7_accept_38 (by decide) ?_
      exact W.iret (v := 0) hx hb hr (fun t9 ht hW => ke_i hw ht (by simp only [f_X7_accept, if_pos h1, if_neg h2]) (by simp only [f_X7_accept, if_pos h1, if_neg h2])) hw.2.2.2 dX7_accept_39
  · refine lv_iconst (v := 0) hx hb dX7_accept_10 (by decide) ?_
    exact W.iret (v := 0) hx hb hr (fun t9 ht hW => ke_i hw ht (by simp only [f_X7_accept, if_neg h1]) (by simp only [f_X7_accept, if_neg h1])) hw.2.2.2 dX7_accept_11
def f_X7_isAccepted (a1 : Int32) (M : BT) : Int32 × BT :=
  (if (f_X7_noComplaint a1 M).1 = 0 then (if ((f_X7_noComplaint a1 M).2) 22 ((f_X7_leading a1 ((f_X7_noComplaint a1 M).2)).toNatClampNeg) = (-1) then (if ((f_X7_noComplaint a1 M).2) 22 ((f_X7_leading a1 ((f_X7_noComplaint a1 M).2)).toNatClampNeg) = 1 then (1, up2 ((f_X7_noComplaint a1 M).2) 0 0 2) else (0, up2 ((f_X7_noComplaint a1 M).2) 0 0 2)) else (if ((f_X7_noComplaint a1 M).2) 22 ((f_X7_leading a1 ((f_X7_noComplaint a1 M).2)).toNatClampNeg) = 1 then (1, up2 ((f_X7_noComplaint a1 M).2) 0 0 0) else (0, up2 ((f_X7_noComplaint a1 M).2) 0 0 0))) else (0, (f_X7_noComplaint a1 M).2))
theorem cn_X7_isAccepted {a1 : Int32} {M : BT} {n m9 : Nat} (hN : MN M n m9) : MN ((f_X7_isAccepted a1 M).2) n m9 := by
  unfold f_X7_isAccepted
  by_cases h1 : (f_X7_noComplaint a1 M).1 = 0
  · simp only [if_pos h1]
    by_cases h2 : ((f_X7_noComplaint a1 M).2) 22 ((f_X7_leading a1 ((f_X7_noComplaint a1 M).2)).toNatClampNeg) = (-1)
    · simp only [if_pos h2]
      by_cases h4 : ((f_X7_noComplaint a1 M).2) 22 ((f_X7_leading a1 ((f_X7_noComplaint a1 M).2)).toNatClampNeg) = 1
      · simp only [if_pos h4]
        exact (MN.up0 (by decide) (by decide) (cn_X7_noComplaint hN))
      · simp only [if_neg h4]
        exact (MN.up0 (by decide) (by decide) (cn_X7_noComplaint hN))
    · simp only [if_neg h2]
      by_cases h3 : ((f_X7_noComplaint a1 M).2) 22 ((f_X7_leading a1 ((f_X7_noComplaint a1 M).2)).toNatClampNeg) = 1
      · simp only [if_pos h3]
        exact (MN.up0 (by decide) (by decide) (cn_X7_noComplaint hN))
      · simp only [if_neg h3]
        exact (MN.up0 (by decide) (by decide) (cn_X7_noComplaint hN))
  · simp only [if_neg h1]
    exact (cn_X7_noComplaint hN)
set_option maxHeartbeats 4000000 in
set_option maxRecDepth 100000 in
theorem m_X7_isAccepted (l : Launch) (g : wG) (S : Nat → BT) (M : BT) (o : (Nat → Int64) × (Nat → UInt64)) (a1 : Int32) (n m9 : Nat) (hN : MN M n m9) : mI l yX7_isAccepted cX7_isAccepted 3 (some .boolean) ({ frames := 3, cells := 0, slots := 0, locals := 64 } : Room) 0 0 g (xM S M o) [.ref (gA g (jM 0)), .int a1] ((f_X7_isAccepted a1 M).1) (xM S ((f_X7_isAccepted a1 M).2) o) := by
  refine Met.ofW (cc := cX7_isAccepted) (maxL := 3) (ret := some .boolean) (by decide) rfl ?_
  intro p9 e s m args below meth c s₁ BL hml hv
  obtain ⟨rfl, hk, hPB⟩ := hv
  have hx := BL.exec
  have hb := BL.bytes
  have hc : CX p9 c cX7_isAccepted s _ m RX7 := ⟨hx, hb, findClass_of_methodNamed BL.named, fun w h => atoms_spec BL.pre w (List.mem_cons_of_mem _ h)⟩
  have hr := BL.returns
  have hlocks := BL.notSynchronized
  have hw : WS g s (xM S M o) s.heap [] := ⟨hPB, va_S.rf⟩
  have hl := lv_entry ([.ref (gA g (jM 0)), .int a1]) (n := 3) (Nat.le_of_ble_eq_true rfl)
  rw [lg_entry_eq]
  generalize (lg_sl ([.ref (gA g (jM 0)), .int a1]) ++ List.replicate (3 - (lg_sl ([.ref (gA g (jM 0)), .int a1])).length) Slot.unset).toArray = ls at hl ⊢
  have hl : lv_has ls 3 [(0, .ref (gA g (jM 0))), (1, .int a1)] := hl
  refine lv_aload_n hx hb dX7_isAccepted_0 rfl (lv_at hl 0 rfl) ?_
  refine lv_iload_n hx hb dX7_isAccepted_1 rfl (lv_at hl 1 rfl) ?_
  refine kc_i hw (va_runV (As := [.int a1]) (rest := []) ⟨hx, hb, hml, hc.2.2.1, hc.2.2.2⟩ (m_X7_noComplaint l g S M o a1 _ _ hN) (kw_V hc 1 q1172 q1174 qs64 q8 q1175 rfl rfl (by decide +kernel) ⟨Nat.le_of_ble_eq_true rfl, Nat.le_of_ble_eq_true rfl⟩) (kp_V hk hw at_M rfl) rfl rfl hl.1 rfl (lv_room (Nat.le_of_ble_eq_true rfl)) dX7_isAccepted_2 ⟨Nat.le_of_ble_eq_true rfl, Nat.le_of_ble_eq_true rfl⟩) (fun H locs hw => ?_)
  refine lv_if_eq (tgt := 10) hx hb dX7_isAccepted_5 (by decide) (fun h1 => ?_) (fun h1 => ?_)
  · refine lv_aload_n hx hb dX7_isAccepted_10 rfl (lv_at hl 0 rfl) ?_
    refine k_get hc hk hw at_M rfl iX7 25 (by decide) q1060 (v := .ref (gA g (jM 22))) rfl dX7_isAccepted_11 ?_
    refine lv_aload_n hx hb dX7_isAccepted_14 rfl (lv_at hl 0 rfl) ?_
    refine lv_iload_n hx hb dX7_isAccepted_15 rfl (lv_at hl 1 rfl) ?_
    refine kc_i hw (va_runV (As := [.int a1]) (rest := [.ref (gA g (jM 22))]) ⟨hx, hb, hml, hc.2.2.1, hc.2.2.2⟩ (m_X7_leading l g S ((f_X7_noComplaint a1 M).2) o a1 _ _ (cn_X7_noComplaint hN) (noComplaint_in hN h1)) (kw_V hc 1 q1144 q1146 qs60 q8 q1147 rfl rfl (by decide +kernel) ⟨Nat.le_of_ble_eq_true rfl, Nat.le_of_ble_eq_true rfl⟩) (kp_V hk hw at_M rfl) rfl rfl hl.1 rfl (lv_room (Nat.le_of_ble_eq_true rfl)) dX7_isAccepted_16 ⟨Nat.le_of_ble_eq_true rfl, Nat.le_of_ble_eq_true rfl⟩) (fun H locs hw => ?_)
    refine k_iald (f := ((f_X7_noComplaint a1 M).2) 22) (n := ((f_X7_leading a1 ((f_X7_noComplaint a1 M).2)).toNatClampNeg)) hc hk hw (at_Mk (k := 22) (t := 0) (n := 20) (by decide) (by decide) (by decide) (by decide)) (leading_in (cn_X7_noComplaint hN) (noComplaint_in hN h1)) rfl dX7_isAccepted_19 ?_
    refine lv_istore_n (lv' := [(2, .int (((f_X7_noComplaint a1 M).2) 22 ((f_X7_leading a1 ((f_X7_noComplaint a1 M).2)).toNatClampNeg))), (0, .ref (gA g (jM 0))), (1, .int a1)]) hx hb dX7_isAccepted_20 rfl hl (by decide) rfl (fun ls hl => ?_)
    refine lv_aload_n hx hb dX7_isAccepted_21 rfl (lv_at hl 1 rfl) ?_
    refine lv_iload_n hx hb dX7_isAccepted_22 rfl (lv_at hl 0 rfl) ?_
    refine lv_iconst (v := (-1)) hx hb dX7_isAccepted_23 (by decide) ?_
    refine lv_icmp_ne (tgt := 31) hx hb dX7_isAccepted_24 (by decide) (fun h2 => ?_) (fun h2 => ?_)
    · refine lv_iconst (v := 0) hx hb dX7_isAccepted_31 (by decide) ?_
      refine k_put hc hk hw (x' := (xM S (up2 ((f_X7_noComplaint a1 M).2) 0 0 0) o)) at_M rfl iX7 tyX7 tyX7_ok nmX7 0 (by decide) q1035 rfl rfl rfl (Nat.le_of_ble_eq_true rfl) dX7_isAccepted_32 (ms_0 (by decide)) (fun H locs hw => ?_)
      refine lv_iload_n hx hb dX7_isAccepted_35 rfl (lv_at hl 0 rfl) ?_
      refine lv_iconst (v := 1) hx hb dX7_isAccepted_36 (by decide) ?_
      refine lv_icmp_ne (tgt := 44) hx hb dX7_isAccepted_37 (by decide) (fun h3 => ?_) (fun h3 => ?_)
      · refine lv_iconst (v := 0) hx hb dX7_isAccepted_44 (by decide) ?_
        exact W.zret (v := 0) hx hb hr (by decide +kernel) (fun t9 ht hW => ke_i hw ht (by simp only [f_X7_isAccepted, if_pos h1, if_neg h2, if_neg h3]) (by simp only [f_X7_isAccepted, if_pos h1, if_neg h2, if_neg h3])) hw.2.2.2 dX7_isAccepted_45
      · refine lv_iconst (v := 1) hx hb dX7_isAccepted_40 (by decide) ?_
        refine lv_goto (tgt := 45) hx hb dX7_isAccepted_41 (by decide) ?_
        exact W.zret (v := 1) hx hb hr (by decide +kernel) (fun t9 ht hW => ke_i hw ht (by simp only [f_X7_isAccepted, if_pos h1, if_neg h2, if_pos h3]) (by simp only [f_X7_isAccepted, if_pos h1, if_neg h2, if_pos h3])) hw.2.2.2 dX7_isAccepted_45
    · refine lv_iconst (v := 2) hx hb dX7_isAccepted_27 (by decide) ?_
      refine lv_goto (tgt := 32) hx hb dX7_isAccepted_28 (by decide) ?_
      refine k_put hc hk hw (x' := (xM S (up2 ((f_X7_noComplaint a1 M).2) 0 0 2) o)) at_M rfl iX7 tyX7 tyX7_ok nmX7 0 (by decide) q1035 rfl rfl rfl (Nat.le_of_ble_eq_true rfl) dX7_isAccepted_32 (ms_0 (by decide)) (fun H locs hw => ?_)
      refine lv_iload_n hx hb dX7_isAccepted_35 rfl (lv_at hl 0 rfl) ?_
      refine lv_iconst (v := 1) hx hb dX7_isAccepted_36 (by decide) ?_
      refine lv_icmp_ne (tgt := 44) hx hb dX7_isAccepted_37 (by decide) (fun h4 => ?_) (fun h4 => ?_)
      · refine lv_iconst (v := 0) hx hb dX7_isAccepted_44 (by decide) ?_
        exact W.zret (v := 0) hx hb hr (by decide +kernel) (fun t9 ht hW => ke_i hw ht (by simp only [f_X7_isAccepted, if_pos h1, if_pos h2, if_neg h4]) (by simp only [f_X7_isAccepted, if_pos h1, if_pos h2, if_neg h4])) hw.2.2.2 dX7_isAccepted_45
      · refine lv_iconst (v := 1) hx hb dX7_isAccepted_40 (by decide) ?_
        refine lv_goto (tgt := 45) hx hb dX7_isAccepted_41 (by decide) ?_
        exact W.zret (v := 1) hx hb hr (by decide +kernel) (fun t9 ht hW => ke_i hw ht (by simp only [f_X7_isAccepted, if_pos h1, if_pos h2, if_pos h4]) (by simp only [f_X7_isAccepted, if_pos h1, if_pos h2, if_pos h4])) hw.2.2.2 dX7_isAccepted_45
  · refine lv_iconst (v := 0) hx hb dX7_isAccepted_8 (by decide) ?_
    exact W.zret (v := 0) hx hb hr (by decide +kernel) (fun t9 ht hW => ke_i hw ht (by simp only [f_X7_isAccepted, if_neg h1]) (by simp only [f_X7_isAccepted, if_neg h1])) hw.2.2.2 dX7_isAccepted_9
def f_X7_heed (a1 : Int32) (M : BT) : Int32 × BT :=
  (if (f_X7_isNot a1 100 M).1 = 0 then (if ((f_X7_isNot a1 100 M).2) 0 1 ≤ ((f_X7_isNot a1 100 M).2) 16 ((a1).toNatClampNeg) then (((f_X7_closes a1 104 (up2 (up2 ((f_X7_isNot a1 100 M).2) 0 0 0) 4 ((((f_X7_isNot a1 100 M).2) 6 ((a1).toNatClampNeg)).toNatClampNeg) ((((f_X7_isNot a1 100 M).2) 4 ((((f_X7_isNot a1 100 M).2) 6 ((a1).toNatClampNeg)).toNatClampNeg)) + (1 + (f_X7_joinedTo a1 (up2 ((f_X7_isNot a1 100 M).2) 0 0 0)))))) 16 ((a1).toNatClampNeg)) - ((f_X7_closes a1 104 (up2 (up2 ((f_X7_isNot a1 100 M).2) 0 0 0) 4 ((((f_X7_isNot a1 100 M).2) 6 ((a1).toNatClampNeg)).toNatClampNeg) ((((f_X7_isNot a1 100 M).2) 4 ((((f_X7_isNot a1 100 M).2) 6 ((a1).toNatClampNeg)).toNatClampNeg)) + (1 + (f_X7_joinedTo a1 (up2 ((f_X7_isNot a1 100 M).2) 0 0 0)))))) 0 1), f_X7_closes a1 104 (up2 (up2 ((f_X7_isNot a1 100 M).2) 0 0 0) 4 ((((f_X7_isNot a1 100 M).2) 6 ((a1).toNatClampNeg)).toNatClampNeg) ((((f_X7_isNot a1 100 M).2) 4 ((((f_X7_isNot a1 100 M).2) 6 ((a1).toNatClampNeg)).toNatClampNeg)) + (1 + (f_X7_joinedTo a1 (up2 ((f_X7_isNot a1 100 M).2) 0 0 0)))))) else (0, up2 ((f_X7_isNot a1 100 M).2) 0 0 2)) else (0, (f_X7_isNot a1 100 M).2))
theorem cn_X7_heed {a1 : Int32} {M : BT} {n m9 : Nat} (hN : MN M n m9) : MN ((f_X7_heed a1 M).2) n m9 := by
  unfold f_X7_heed
  by_cases h1 : (f_X7_isNot a1 100 M).1 = 0
  · simp only [if_pos h1]
    by_cases h2 : ((f_X7_isNot a1 100 M).2) 0 1 ≤ ((f_X7_isNot a1 100 M).2) 16 ((a1).toNatClampNeg)
    · simp only [if_pos h2]
      exact (cn_X7_closes ⟨by decide +kernel, by decide +kernel, by decide +kernel⟩ (MN.upf (by decide) (by decide) (by decide) (by decide) (by decide) (by decide) (by decide) (by decide) (MN.up0 (by decide) (by decide) (cn_X7_isNot hN))))
    · simp only [if_neg h2]
      exact (MN.up0 (by decide) (by decide) (cn_X7_isNot hN))
  · simp only [if_neg h1]
    exact (cn_X7_isNot hN)
set_option maxHeartbeats 4000000 in
set_option maxRecDepth 100000 in
theorem m_X7_heed (l : Launch) (g : wG) (S : Nat → BT) (M : BT) (o : (Nat → Int64) × (Nat → UInt64)) (a1 : Int32) (n m9 : Nat) (hN : MN M n m9) : mI l yX7_heed cX7_heed 2 (some .int) ({ frames := 4, cells := 0, slots := 0, locals := 86 } : Room) 0 0 g (xM S M o) [.ref (gA g (jM 0)), .int a1] ((f_X7_heed a1 M).1) (xM S ((f_X7_heed a1 M).2) o) := by
  refine Met.ofW (cc := cX7_heed) (maxL := 2) (ret := some .int) (by decide) rfl ?_
  intro p9 e s m args below meth c s₁ BL hml hv
  obtain ⟨rfl, hk, hPB⟩ := hv
  have hx := BL.exec
  have hb := BL.bytes
  have hc : CX p9 c cX7_heed s _ m RX7 := ⟨hx, hb, findClass_of_methodNamed BL.named, fun w h => atoms_spec BL.pre w (List.mem_cons_of_mem _ h)⟩
  have hr := BL.returns
  have hlocks := BL.notSynchronized
  have hw : WS g s (xM S M o) s.heap [] := ⟨hPB, va_S.rf⟩
  have hl := lv_entry ([.ref (gA g (jM 0)), .int a1]) (n := 2) (Nat.le_of_ble_eq_true rfl)
  rw [lg_entry_eq]
  generalize (lg_sl ([.ref (gA g (jM 0)), .int a1]) ++ List.replicate (2 - (lg_sl ([.ref (gA g (jM 0)), .int a1])).length) Slot.unset).toArray = ls at hl ⊢
  have hl : lv_has ls 2 [(0, .ref (gA g (jM 0))), (1, .int a1)] := hl
  refine lv_aload_n hx hb dX7_heed_0 rfl (lv_at hl 0 rfl) ?_
  refine lv_iload_n hx hb dX7_heed_1 rfl (lv_at hl 1 rfl) ?_
  refine lv_bipush (v := 100) hx hb dX7_heed_2 (by decide) ?_
  refine kc_i hw (va_runV (As := [.int a1, .int 100]) (rest := []) ⟨hx, hb, hml, hc.2.2.1, hc.2.2.2⟩ (m_X7_isNot l g S M o a1 100 _ _ hN) (kw_V hc 2 q1214 q1216 qs66 q8 q1217 rfl rfl (by decide +kernel) ⟨Nat.le_of_ble_eq_true rfl, Nat.le_of_ble_eq_true rfl⟩) (kp_V hk hw at_M rfl) rfl rfl hl.1 rfl (lv_room (Nat.le_of_ble_eq_true rfl)) dX7_heed_4 ⟨Nat.le_of_ble_eq_true rfl, Nat.le_of_ble_eq_true rfl⟩) (fun H locs hw => ?_)
  refine lv_if_eq (tgt := 12) hx hb dX7_heed_7 (by decide) (fun h1 => ?_) (fun h1 => ?_)
  · refine lv_aload_n hx hb dX7_heed_12 rfl (lv_at hl 0 rfl) ?_
    refine lv_aload_n hx hb dX7_heed_13 rfl (lv_at hl 0 rfl) ?_
    refine k_get hc hk hw at_M rfl iX7 1 (by decide) q1036 (v := .int (((f_X7_isNot a1 100 M).2) 0 1)) rfl dX7_heed_14 ?_
    refine lv_aload_n hx hb dX7_heed_17 rfl (lv_at hl 0 rfl) ?_
    refine k_get hc hk hw at_M rfl iX7 19 (by decide) q1054 (v := .ref (gA g (jM 16))) rfl dX7_heed_18 ?_
    refine lv_iload_n hx hb dX7_heed_21 rfl (lv_at hl 1 rfl) ?_
    refine k_iald (f := ((f_X7_isNot a1 100 M).2) 16) (n := ((a1).toNatClampNeg)) hc hk hw (at_Mk (k := 16) (t := 0) (n := 20) (by decide) (by decide) (by decide) (by decide)) (isNot_in hN h1) rfl dX7_heed_22 ?_
    refine lv_icmp_le (tgt := 30) hx hb dX7_heed_23 (by decide) (fun h2 => ?_) (fun h2 => ?_)
    · refine lv_iconst (v := 0) hx hb dX7_heed_30 (by decide) ?_
      refine k_put hc hk hw (x' := (xM S (up2 ((f_X7_isNot a1 100 M).2) 0 0 0) o)) at_M rfl iX7 tyX7 tyX7_ok nmX7 0 (by decide) q1035 rfl rfl rfl (Nat.le_of_ble_eq_true rfl) dX7_heed_31 (ms_0 (by decide)) (fun H locs hw => ?_)
      refine lv_aload_n hx hb dX7_heed_34 rfl (lv_at hl 0 rfl) ?_
      refine k_get hc hk hw at_M rfl iX7 0 (by decide) q1035 (v := .int 0) rfl dX7_heed_35 ?_
      refine lv_if_le (tgt := 43) hx hb dX7_heed_38 (by decide) (fun _ => ?_) (fun h3 => absurd h3 (by decide))
      refine lv_aload_n hx hb dX7_heed_43 rfl (lv_at hl 0 rfl) ?_
      refine k_get hc hk hw at_M rfl iX7 7 (by decide) q1042 (v := .ref (gA g (jM 4))) rfl dX7_heed_44 ?_
      refine lv_aload_n hx hb dX7_heed_47 rfl (lv_at hl 0 rfl) ?_
      refine k_get hc hk hw at_M rfl iX7 9 (by decide) q1044 (v := .ref (gA g (jM 6))) rfl dX7_heed_48 ?_
      refine lv_iload_n hx hb dX7_heed_51 rfl (lv_at hl 1 rfl) ?_
      refine k_iald (f := ((f_X7_isNot a1 100 M).2) 6) (n := ((a1).toNatClampNeg)) hc hk hw (at_Mk (k := 6) (t := 0) (n := 20) (by decide) (by decide) (by decide) (by decide)) (isNot_in hN h1) rfl dX7_heed_52 ?_
      refine lv_dup2_11 hx hb dX7_heed_53 rfl rfl ?_
      refine k_iald (f := ((f_X7_isNot a1 100 M).2) 4) (n := ((((f_X7_isNot a1 100 M).2) 6 ((a1).toNatClampNeg)).toNatClampNeg)) hc hk hw (at_Mk (k := 4) (t := 0) (n := 6) (by decide) (by decide) (by decide) (by decide)) (MN.off (cn_X7_isNot hN) (vp_lt (isNot_in hN h1))) rfl dX7_heed_54 ?_
      refine lv_iconst (v := 1) hx hb dX7_heed_55 (by decide) ?_
      refine lv_aload_n hx hb dX7_heed_56 rfl (lv_at hl 0 rfl) ?_
      refine lv_iload_n hx hb dX7_heed_57 rfl (lv_at hl 1 rfl) ?_
      refine kc_i hw (va_runV (As := [.int a1]) (rest := [.int 1, .int (((f_X7_isNot a1 100 M).2) 4 ((((f_X7_isNot a1 100 M).2) 6 ((a1).toNatClampNeg)).toNatClampNeg)), .int (((f_X7_isNot a1 100 M).2) 6 ((a1).toNatClampNeg)), .ref (gA g (jM 4))]) ⟨hx, hb, hml, hc.2.2.1, hc.2.2.2⟩ (m_X7_joinedTo l g S (up2 ((f_X7_isNot a1 100 M).2) 0 0 0) o a1 _ _ (MN.up0 (by decide) (by decide) (cn_X7_isNot hN))) (kw_V hc 1 q1238 q1240 qs68 q8 q1241 rfl rfl (by decide +kernel) ⟨Nat.le_of_ble_eq_true rfl, Nat.le_of_ble_eq_true rfl⟩) (kp_V hk hw at_M rfl) rfl rfl hl.1 rfl (lv_room (Nat.le_of_ble_eq_true rfl)) dX7_heed_58 ⟨Nat.le_of_ble_eq_true rfl, Nat.le_of_ble_eq_true rfl⟩) (fun H locs hw => ?_)
      refine lv_iadd hx hb dX7_heed_61 ?_
      refine lv_iadd hx hb dX7_heed_62 ?_
      refine k_iast (x' := (xM S (up2 (up2 ((f_X7_isNot a1 100 M).2) 0 0 0) 4 ((((f_X7_isNot a1 100 M).2) 6 ((a1).toNatClampNeg)).toNatClampNeg) ((((f_X7_isNot a1 100 M).2) 4 ((((f_X7_isNot a1 100 M).2) 6 ((a1).toNatClampNeg)).toNatClampNeg)) + (1 + (f_X7_joinedTo a1 (up2 ((f_X7_isNot a1 100 M).2) 0 0 0))))) o)) (f := (up2 ((f_X7_isNot a1 100 M).2) 0 0 0) 4) (n := ((((f_X7_isNot a1 100 M).2) 6 ((a1).toNatClampNeg)).toNatClampNeg)) hc hk hw (at_Mk (k := 4) (t := 0) (n := 6) (by decide) (by decide) (by decide) (by decide)) (MN.off (cn_X7_isNot hN) (vp_lt (isNot_in hN h1))) rfl dX7_heed_63 (ms_k (k := 4) (t := 0) (n := 6) (by decide) (by decide) (by decide) (by decide)) (fun H locs hw => ?_)
      refine lv_aload_n hx hb dX7_heed_64 rfl (lv_at hl 0 rfl) ?_
      refine lv_iload_n hx hb dX7_heed_65 rfl (lv_at hl 1 rfl) ?_
      refine lv_bipush (v := 104) hx hb dX7_heed_66 (by decide) ?_
      refine kc_v hw (va_runV (As := [.int a1, .int 104]) (rest := []) ⟨hx, hb, hml, hc.2.2.1, hc.2.2.2⟩ (m_X7_closes l g S (up2 (up2 ((f_X7_isNot a1 100 M).2) 0 0 0) 4 ((((f_X7_isNot a1 100 M).2) 6 ((a1).toNatClampNeg)).toNatClampNeg) ((((f_X7_isNot a1 100 M).2) 4 ((((f_X7_isNot a1 100 M).2) 6 ((a1).toNatClampNeg)).toNatClampNeg)) + (1 + (f_X7_joinedTo a1 (up2 ((f_X7_isNot a1 100 M).2) 0 0 0))))) o a1 104 ⟨by decide +kernel, by decide +kernel, by decide +kernel⟩ _ _ (MN.upf (by decide) (by decide) (by decide) (by decide) (by decide) (by decide) (by decide) (by decide) (MN.up0 (by decide) (by decide) (cn_X7_isNot hN))) (isNot_in hN h1)) (kw_V hc 2 q1274 q1276 qs69 q8 q1277 rfl rfl (by decide +kernel) ⟨Nat.le_of_ble_eq_true rfl, Nat.le_of_ble_eq_true rfl⟩) (kp_V hk hw at_M rfl) rfl rfl hl.1 rfl (lv_room (Nat.le_of_ble_eq_true rfl)) dX7_heed_68 ⟨Nat.le_of_ble_eq_true rfl, Nat.le_of_ble_eq_true rfl⟩) (fun H locs hw => ?_)
      refine lv_aload_n hx hb dX7_heed_71 rfl (lv_at hl 0 rfl) ?_
      refine k_get hc hk hw at_M rfl iX7 19 (by decide) q1054 (v := .ref (gA g (jM 16))) rfl dX7_heed_72 ?_
      refine lv_iload_n hx hb dX7_heed_75 rfl (lv_at hl 1 rfl) ?_
      refine k_iald (f := (f_X7_closes a1 104 (up2 (up2 ((f_X7_isNot a1 100 M).2) 0 0 0) 4 ((((f_X7_isNot a1 100 M).2) 6 ((a1).toNatClampNeg)).toNatClampNeg) ((((f_X7_isNot a1 100 M).2) 4 ((((f_X7_isNot a1 100 M).2) 6 ((a1).toNatClampNeg)).toNatClampNeg)) + (1 + (f_X7_joinedTo a1 (up2 ((f_X7_isNot a1 100 M).2) 0 0 0)))))) 16) (n := ((a1).toNatClampNeg)) hc hk hw (at_Mk (k := 16) (t := 0) (n := 20) (by decide) (by decide) (by decide) (by decide)) (isNot_in hN h1) rfl dX7_heed_76 ?_
      refine lv_aload_n hx hb dX7_heed_77 rfl (lv_at hl 0 rfl) ?_
      refine k_get hc hk hw at_M rfl iX7 1 (by decide) q1036 (v := .int ((f_X7_closes a1 104 (up2 (up2 ((f_X7_isNot a1 100 M).2) 0 0 0) 4 ((((f_X7_isNot a1 100 M).2) 6 ((a1).toNatClampNeg)).toNatClampNeg) ((((f_X7_isNot a1 100 M).2) 4 ((((f_X7_isNot a1 100 M).2) 6 ((a1).toNatClampNeg)).toNatClampNeg)) + (1 + (f_X7_joinedTo a1 (up2 ((f_X7_isNot a1 100 M).2) 0 0 0)))))) 0 1)) rfl dX7_heed_78 ?_
      refine lv_isub hx hb dX7_heed_81 ?_
      exact W.iret (v := ((f_X7_closes a1 104 (up2 (up2 ((f_X7_isNot a1 100 M).2) 0 0 0) 4 ((((f_X7_isNot a1 100 M).2) 6 ((a1).toNatClampNeg)).toNatClampNeg) ((((f_X7_isNot a1 100 M).2) 4 ((((f_X7_isNot a1 100 M).2) 6 ((a1).toNatClampNeg)).toNatClampNeg)) + (1 + (f_X7_joinedTo a1 (up2 ((f_X7_isNot a1 100 M).2) 0 0 0)))))) 16 ((a1).toNatClampNeg)) - ((f_X7_closes a1 104 (up2 (up2 ((f_X7_isNot a1 100 M).2) 0 0 0) 4 ((((f_X7_isNot a1 100 M).2) 6 ((a1).toNatClampNeg)).toNatClampNeg) ((((f_X7_isNot a1 100 M).2) 4 ((((f_X7_isNot a1 100 M).2) 6 ((a1).toNatClampNeg)).toNatClampNeg)) + (1 + (f_X7_joinedTo a1 (up2 ((f_X7_isNot a1 100 M).2) 0 0 0)))))) 0 1)) hx hb hr (fun t9 ht hW => ke_i hw ht (by simp only [f_X7_heed, if_pos h1, if_pos h2]) (by simp only [f_X7_heed, if_pos h1, if_pos h2])) hw.2.2.2 dX7_heed_82
    · refine lv_iconst (v := 2) hx hb dX7_heed_26 (by decide) ?_
      refine lv_goto (tgt := 31) hx hb dX7_heed_27 (by decide) ?_
      refine k_put hc hk hw (x' := (xM S (up2 ((f_X7_isNot a1 100 M).2) 0 0 2) o)) at_M rfl iX7 tyX7 tyX7_ok nmX7 0 (by decide) q1035 rfl rfl rfl (Nat.le_of_ble_eq_true rfl) dX7_heed_31 (ms_0 (by decide)) (fun H locs hw => ?_)
      refine lv_aload_n hx hb dX7_heed_34 rfl (lv_at hl 0 rfl) ?_
      refine k_get hc hk hw at_M rfl iX7 0 (by decide) q1035 (v := .int 2) rfl dX7_heed_35 ?_
      refine lv_if_le (tgt := 43) hx hb dX7_heed_38 (by decide) (fun h4 => absurd h4 (by decide)) (fun _ => ?_)
      refine lv_iconst (v := 0) hx hb dX7_heed_41 (by decide) ?_
      exact W.iret (v := 0) hx hb hr (fun t9 ht hW => ke_i hw ht (by simp only [f_X7_heed, if_pos h1, if_neg h2]) (by simp only [f_X7_heed, if_pos h1, if_neg h2])) hw.2.2.2 dX7_heed_42
  · refine lv_iconst (v := 0) hx hb dX7_heed_10 (by decide) ?_
    exact W.iret (v := 0) hx hb hr (fun t9 ht hW => ke_i hw ht (by simp only [f_X7_heed, if_neg h1]) (by simp only [f_X7_heed, if_neg h1])) hw.2.2.2 dX7_heed_11
def f_X7_followUp (a1 : Int32) (M : BT) : Int32 × BT :=
  (if (f_X7_isNot a1 100 M).1 = 0 then (if ((f_X7_isNot a1 100 M).2) 0 1 ≤ ((f_X7_isNot a1 100 M).2) 16 ((a1).toNatClampNeg) then (0, up2 ((f_X7_isNot a1 100 M).2) 0 0 2) else (if ((f_X7_isNot a1 100 M).2) 23 ((a1).toNatClampNeg) = 1 then (0, f_X7_closes a1 105 (up2 ((f_X7_isNot a1 100 M).2) 0 0 0)) else (if ((f_X7_isNot a1 100 M).2) 21 ((a1).toNatClampNeg) = 4 then ((up2 (up2 (up2 ((f_X7_isNot a1 100 M).2) 0 0 0) 23 ((a1).toNatClampNeg) 1) 21 ((a1).toNatClampNeg) 4) 21 ((a1).toNatClampNeg), up2 (up2 (up2 (up2 (up2 ((f_X7_isNot a1 100 M).2) 0 0 0) 23 ((a1).toNatClampNeg) 1) 21 ((a1).toNatClampNeg) 4) 16 ((a1).toNatClampNeg) ((((f_X7_isNot a1 100 M).2) 0 1) + (30 * ((up2 (up2 (up2 ((f_X7_isNot a1 100 M).2) 0 0 0) 23 ((a1).toNatClampNeg) 1) 21 ((a1).toNatClampNeg) 4) 21 ((a1).toNatClampNeg))))) 22 ((a1).toNatClampNeg) (-1)) else ((up2 (up2 (up2 ((f_X7_isNot a1 100 M).2) 0 0 0) 23 ((a1).toNatClampNeg) 1) 21 ((a1).toNatClampNeg) ((((f_X7_isNot a1 100 M).2) 21 ((a1).toNatClampNeg)) + 1)) 21 ((a1).toNatClampNeg), up2 (up2 (up2 (up2 (up2 ((f_X7_isNot a1 100 M).2) 0 0 0) 23 ((a1).toNatClampNeg) 1) 21 ((a1).toNatClampNeg) ((((f_X7_isNot a1 100 M).2) 21 ((a1).toNatClampNeg)) + 1)) 16 ((a1).toNatClampNeg) ((((f_X7_isNot a1 100 M).2) 0 1) + (30 * ((up2 (up2 (up2 ((f_X7_isNot a1 100 M).2) 0 0 0) 23 ((a1).toNatClampNeg) 1) 21 ((a1).toNatClampNeg) ((((f_X7_isNot a1 100 M).2) 21 ((a1).toNatClampNeg)) + 1)) 21 ((a1).toNatClampNeg))))) 22 ((a1).toNatClampNeg) (-1))))) else (0, (f_X7_isNot a1 100 M).2))
theorem cn_X7_followUp {a1 : Int32} {M : BT} {n m9 : Nat} (hN : MN M n m9) : MN ((f_X7_followUp a1 M).2) n m9 := by
  unfold f_X7_followUp
  by_cases h1 : (f_X7_isNot a1 100 M).1 = 0
  · simp only [if_pos h1]
    by_cases h2 : ((f_X7_isNot a1 100 M).2) 0 1 ≤ ((f_X7_isNot a1 100 M).2) 16 ((a1).toNatClampNeg)
    · simp only [if_pos h2]
      exact (MN.up0 (by decide) (by decide) (cn_X7_isNot hN))
    · simp only [if_neg h2]
      by_cases h5 : ((f_X7_isNot a1 100 M).2) 23 ((a1).toNatClampNeg) = 1
      · simp only [if_pos h5]
        exact (cn_X7_closes ⟨by decide +kernel, by decide +kernel, by decide +kernel⟩ (MN.up0 (by decide) (by decide) (cn_X7_isNot hN)))
      · simp only [if_neg h5]
        by_cases h6 : ((f_X7_isNot a1 100 M).2) 21 ((a1).toNatClampNeg) = 4
        · simp only [if_pos h6]
          exact (MN.upf (by decide) (by decide) (by decide) (by decide) (by decide) (by decide) (by decide) (by decide) (MN.upf (by decide) (by decide) (by decide) (by decide) (by decide) (by decide) (by decide) (by decide) (MN.upf (by decide) (by decide) (by decide) (by decide) (by decide) (by decide) (by decide) (by decide) (MN.upf (by decide) (by decide) (by decide) (by decide) (by decide) (by decide) (by decide) (by decide) (MN.up0 (by decide) (by decide) (cn_X7_isNot hN))))))
        · simp only [if_neg h6]
          exact (MN.upf (by decide) (by decide) (by decide) (by decide) (by decide) (by decide) (by decide) (by decide) (MN.upf (by decide) (by decide) (by decide) (by decide) (by decide) (by decide) (by decide) (by decide) (MN.upf (by decide) (by decide) (by decide) (by decide) (by decide) (by decide) (by decide) (by decide) (MN.upf (by decide) (by decide) (by decide) (by decide) (by decide) (by decide) (by decide) (by decide) (MN.up0 (by decide) (by decide) (cn_X7_isNot hN))))))
  · simp only [if_neg h1]
    exact (cn_X7_isNot hN)
set_option maxHeartbeats 4000000 in
set_option maxRecDepth 100000 in
theorem m_X7_followUp (l : Launch) (g : wG) (S : Nat → BT) (M : BT) (o : (Nat → Int64) × (Nat → UInt64)) (a1 : Int32) (n m9 : Nat) (hN : MN M n m9) : mI l yX7_followUp cX7_followUp 2 (some .int) ({ frames := 4, cells := 0, slots := 0, locals := 86 } : Room) 0 0 g (xM S M o) [.ref (gA g (jM 0)), .int a1] ((f_X7_followUp a1 M).1) (xM S ((f_X7_followUp a1 M).2) o) := by
  refine Met.ofW (cc := cX7_followUp) (maxL := 2) (ret := some .int) (by decide) rfl ?_
  intro p9 e s m args below meth c s₁ BL hml hv
  obtain ⟨rfl, hk, hPB⟩ := hv
  have hx := BL.exec
  have hb := BL.bytes
  have hc : CX p9 c cX7_followUp s _ m RX7 := ⟨hx, hb, findClass_of_methodNamed BL.named, fun w h => atoms_spec BL.pre w (List.mem_cons_of_mem _ h)⟩
  have hr := BL.returns
  have hlocks := BL.notSynchronized
  have hw : WS g s (xM S M o) s.heap [] := ⟨hPB, va_S.rf⟩
  have hl := lv_entry ([.ref (gA g (jM 0)), .int a1]) (n := 2) (Nat.le_of_ble_eq_true rfl)
  rw [lg_entry_eq]
  generalize (lg_sl ([.ref (gA g (jM 0)), .int a1]) ++ List.replicate (2 - (lg_sl ([.ref (gA g (jM 0)), .int a1])).length) Slot.unset).toArray = ls at hl ⊢
  have hl : lv_has ls 2 [(0, .ref (gA g (jM 0))), (1, .int a1)] := hl
  refine lv_aload_n hx hb dX7_followUp_0 rfl (lv_at hl 0 rfl) ?_
  refine lv_iload_n hx hb dX7_followUp_1 rfl (lv_at hl 1 rfl) ?_
  refine lv_bipush (v := 100) hx hb dX7_followUp_2 (by decide) ?_
  refine kc_i hw (va_runV (As := [.int a1, .int 100]) (rest := []) ⟨hx, hb, hml, hc.2.2.1, hc.2.2.2⟩ (m_X7_isNot l g S M o a1 100 _ _ hN) (kw_V hc 2 q1214 q1216 qs66 q8 q1217 rfl rfl (by decide +kernel) ⟨Nat.le_of_ble_eq_true rfl, Nat.le_of_ble_eq_true rfl⟩) (kp_V hk hw at_M rfl) rfl rfl hl.1 rfl (lv_room (Nat.le_of_ble_eq_true rfl)) dX7_followUp_4 ⟨Nat.le_of_ble_eq_true rfl, Nat.le_of_ble_eq_true rfl⟩) (fun H locs hw => ?_)
  refine lv_if_eq (tgt := 12) hx hb dX7_followUp_7 (by decide) (fun h1 => ?_) (fun h1 => ?_)
  · refine lv_aload_n hx hb dX7_followUp_12 rfl (lv_at hl 0 rfl) ?_
    refine lv_aload_n hx hb dX7_followUp_13 rfl (lv_at hl 0 rfl) ?_
    refine k_get hc hk hw at_M rfl iX7 1 (by decide) q1036 (v := .int (((f_X7_isNot a1 100 M).2) 0 1)) rfl dX7_followUp_14 ?_
    refine lv_aload_n hx hb dX7_followUp_17 rfl (lv_at hl 0 rfl) ?_
    refine k_get hc hk hw at_M rfl iX7 19 (by decide) q1054 (v := .ref (gA g (jM 16))) rfl dX7_followUp_18 ?_
    refine lv_iload_n hx hb dX7_followUp_21 rfl (lv_at hl 1 rfl) ?_
    refine k_iald (f := ((f_X7_isNot a1 100 M).2) 16) (n := ((a1).toNatClampNeg)) hc hk hw (at_Mk (k := 16) (t := 0) (n := 20) (by decide) (by decide) (by decide) (by decide)) (isNot_in hN h1) rfl dX7_followUp_22 ?_
    refine lv_icmp_le (tgt := 30) hx hb dX7_followUp_23 (by decide) (fun h2 => ?_) (fun h2 => ?_)
    · refine lv_iconst (v := 2) hx hb dX7_followUp_30 (by decide) ?_
      refine k_put hc hk hw (x' := (xM S (up2 ((f_X7_isNot a1 100 M).2) 0 0 2) o)) at_M rfl iX7 tyX7 tyX7_ok nmX7 0 (by decide) q1035 rfl rfl rfl (Nat.le_of_ble_eq_true rfl) dX7_followUp_31 (ms_0 (by decide)) (fun H locs hw => ?_)
      refine lv_aload_n hx hb dX7_followUp_34 rfl (lv_at hl 0 rfl) ?_
      refine k_get hc hk hw at_M rfl iX7 0 (by decide) q1035 (v := .int 2) rfl dX7_followUp_35 ?_
      refine lv_if_le (tgt := 43) hx hb dX7_followUp_38 (by decide) (fun h3 => absurd h3 (by decide)) (fun _ => ?_)
      refine lv_iconst (v := 0) hx hb dX7_followUp_41 (by decide) ?_
      exact W.iret (v := 0) hx hb hr (fun t9 ht hW => ke_i hw ht (by simp only [f_X7_followUp, if_pos h1, if_pos h2]) (by simp only [f_X7_followUp, if_pos h1, if_pos h2])) hw.2.2.2 dX7_followUp_42
    · refine lv_iconst (v := 0) hx hb dX7_followUp_26 (by decide) ?_
      refine lv_goto (tgt := 31) hx hb dX7_followUp_27 (by decide) ?_
      refine k_put hc hk hw (x' := (xM S (up2 ((f_X7_isNot a1 100 M).2) 0 0 0) o)) at_M rfl iX7 tyX7 tyX7_ok nmX7 0 (by decide) q1035 rfl rfl rfl (Nat.le_of_ble_eq_true rfl) dX7_followUp_31 (ms_0 (by decide)) (fun H locs hw => ?_)
      refine lv_aload_n hx hb dX7_followUp_34 rfl (lv_at hl 0 rfl) ?_
      refine k_get hc hk hw at_M rfl iX7 0 (by decide) q1035 (v := .int 0) rfl dX7_followUp_35 ?_
      refine lv_if_le (tgt := 43) hx hb dX7_followUp_38 (by decide) (fun _ => ?_) (fun h4 => absurd h4 (by decide))
      refine lv_aload_n hx hb dX7_followUp_43 rfl (lv_at hl 0 rfl) ?_
      refine k_get hc hk hw at_M rfl iX7 26 (by decide) q1061 (v := .ref (gA g (jM 23))) rfl dX7_followUp_44 ?_
      refine lv_iload_n hx hb dX7_followUp_47 rfl (lv_at hl 1 rfl) ?_
      refine k_iald (f := ((f_X7_isNot a1 100 M).2) 23) (n := ((a1).toNatClampNeg)) hc hk hw (at_Mk (k := 23) (t := 0) (n := 20) (by decide) (by decide) (by decide) (by decide)) (isNot_in hN h1) rfl dX7_followUp_48 ?_
      refine lv_iconst (v := 1) hx hb dX7_followUp_49 (by decide) ?_
      refine lv_icmp_ne (tgt := 62) hx hb dX7_followUp_50 (by decide) (fun h5 => ?_) (fun h5 => ?_)
      · refine lv_aload_n hx hb dX7_followUp_62 rfl (lv_at hl 0 rfl) ?_
        refine k_get hc hk hw at_M rfl iX7 26 (by decide) q1061 (v := .ref (gA g (jM 23))) rfl dX7_followUp_63 ?_
        refine lv_iload_n hx hb dX7_followUp_66 rfl (lv_at hl 1 rfl) ?_
        refine lv_iconst (v := 1) hx hb dX7_followUp_67 (by decide) ?_
        refine k_iast (x' := (xM S (up2 (up2 ((f_X7_isNot a1 100 M).2) 0 0 0) 23 ((a1).toNatClampNeg) 1) o)) (f := (up2 ((f_X7_isNot a1 100 M).2) 0 0 0) 23) (n := ((a1).toNatClampNeg)) hc hk hw (at_Mk (k := 23) (t := 0) (n := 20) (by decide) (by decide) (by decide) (by decide)) (isNot_in hN h1) rfl dX7_followUp_68 (ms_k (k := 23) (t := 0) (n := 20) (by decide) (by decide) (by decide) (by decide)) (fun H locs hw => ?_)
        refine lv_aload_n hx hb dX7_followUp_69 rfl (lv_at hl 0 rfl) ?_
        refine k_get hc hk hw at_M rfl iX7 24 (by decide) q1059 (v := .ref (gA g (jM 21))) rfl dX7_followUp_70 ?_
        refine lv_iload_n hx hb dX7_followUp_73 rfl (lv_at hl 1 rfl) ?_
        refine lv_aload_n hx hb dX7_followUp_74 rfl (lv_at hl 0 rfl) ?_
        refine k_get hc hk hw at_M rfl iX7 24 (by decide) q1059 (v := .ref (gA g (jM 21))) rfl dX7_followUp_75 ?_
        refine lv_iload_n hx hb dX7_followUp_78 rfl (lv_at hl 1 rfl) ?_
        refine k_iald (f := ((f_X7_isNot a1 100 M).2) 21) (n := ((a1).toNatClampNeg)) hc hk hw (at_Mk (k := 21) (t := 0) (n := 20) (by decide) (by decide) (by decide) (by decide)) (isNot_in hN h1) rfl dX7_followUp_79 ?_
        refine lv_iconst (v := 4) hx hb dX7_followUp_80 (by decide) ?_
        refine lv_icmp_ne (tgt := 88) hx hb dX7_followUp_81 (by decide) (fun h6 => ?_) (fun h6 => ?_)
        · refine lv_aload_n hx hb dX7_followUp_88 rfl (lv_at hl 0 rfl) ?_
          refine k_get hc hk hw at_M rfl iX7 24 (by decide) q1059 (v := .ref (gA g (jM 21))) rfl dX7_followUp_89 ?_
          refine lv_iload_n hx hb dX7_followUp_92 rfl (lv_at hl 1 rfl) ?_
          refine k_iald (f := ((f_X7_isNot a1 100 M).2) 21) (n := ((a1).toNatClampNeg)) hc hk hw (at_Mk (k := 21) (t := 0) (n := 20) (by decide) (by decide) (by decide) (by decide)) (isNot_in hN h1) rfl dX7_followUp_93 ?_
          refine lv_iconst (v := 1) hx hb dX7_followUp_94 (by decide) ?_
          refine lv_iadd hx hb dX7_followUp_95 ?_
          refine k_iast (x' := (xM S (up2 (up2 (up2 ((f_X7_isNot a1 100 M).2) 0 0 0) 23 ((a1).toNatClampNeg) 1) 21 ((a1).toNatClampNeg) ((((f_X7_isNot a1 100 M).2) 21 ((a1).toNatClampNeg)) + 1)) o)) (f := (up2 (up2 ((f_X7_isNot a1 100 M).2) 0 0 0) 23 ((a1).toNatClampNeg) 1) 21) (n := ((a1).toNatClampNeg)) hc hk hw (at_Mk (k := 21) (t := 0) (n := 20) (by decide) (by decide) (by decide) (by decide)) (isNot_in hN h1) rfl dX7_followUp_96 (ms_k (k := 21) (t := 0) (n := 20) (by decide) (by decide) (by decide) (by decide)) (fun H locs hw => ?_)
          refine lv_aload_n hx hb dX7_followUp_97 rfl (lv_at hl 0 rfl) ?_
          refine k_get hc hk hw at_M rfl iX7 19 (by decide) q1054 (v := .ref (gA g (jM 16))) rfl dX7_followUp_98 ?_
          refine lv_iload_n hx hb dX7_followUp_101 rfl (lv_at hl 1 rfl) ?_
          refine lv_aload_n hx hb dX7_followUp_102 rfl (lv_at hl 0 rfl) ?_
          refine k_get hc hk hw at_M rfl iX7 1 (by decide) q1036 (v := .int (((f_X7_isNot a1 100 M).2) 0 1)) rfl dX7_followUp_103 ?_
          refine lv_bipush (v := 30) hx hb dX7_followUp_106 (by decide) ?_
          refine lv_aload_n hx hb dX7_followUp_108 rfl (lv_at hl 0 rfl) ?_
          refine k_get hc hk hw at_M rfl iX7 24 (by decide) q1059 (v := .ref (gA g (jM 21))) rfl dX7_followUp_109 ?_
          refine lv_iload_n hx hb dX7_followUp_112 rfl (lv_at hl 1 rfl) ?_
          refine k_iald (f := (up2 (up2 (up2 ((f_X7_isNot a1 100 M).2) 0 0 0) 23 ((a1).toNatClampNeg) 1) 21 ((a1).toNatClampNeg) ((((f_X7_isNot a1 100 M).2) 21 ((a1).toNatClampNeg)) + 1)) 21) (n := ((a1).toNatClampNeg)) hc hk hw (at_Mk (k := 21) (t := 0) (n := 20) (by decide) (by decide) (by decide) (by decide)) (isNot_in hN h1) rfl dX7_followUp_113 ?_
          refine lv_imul hx hb dX7_followUp_114 ?_
          refine lv_iadd hx hb dX7_followUp_115 ?_
          refine k_iast (x' := (xM S (up2 (up2 (up2 (up2 ((f_X7_isNot a1 100 M).2) 0 0 0) 23 ((a1).toNatClampNeg) 1) 21 ((a1).toNatClampNeg) ((((f_X7_isNot a1 100 M).2) 21 ((a1).toNatClampNeg)) + 1)) 16 ((a1).toNatClampNeg) ((((f_X7_isNot a1 100 M).2) 0 1) + (30 * ((up2 (up2 (up2 ((f_X7_isNot a1 100 M).2) 0 0 0) 23 ((a1).toNatClampNeg) 1) 21 ((a1).toNatClampNeg) ((((f_X7_isNot a1 100 M).2) 21 ((a1).toNatClampNeg)) + 1)) 21 ((a1).toNatClampNeg))))) o)) (f := (up2 (up2 (up2 ((f_X7_isNot a1 100 M).2) 0 0 0) 23 ((a1).toNatClampNeg) 1) 21 ((a1).toNatClampNeg) ((((f_X7_isNot a1 100 M).2) 21 ((a1).toNatClampNeg)) + 1)) 16) (n := ((a1).toNatClampNeg)) hc hk hw (at_Mk (k := 16) (t := 0) (n := 20) (by decide) (by decide) (by decide) (by decide)) (isNot_in hN h1) rfl dX7_followUp_116 (ms_k (k := 16) (t := 0) (n := 20) (by decide) (by decide) (by decide) (by decide)) (fun H locs hw => ?_)
          refine lv_aload_n hx hb dX7_followUp_117 rfl (lv_at hl 0 rfl) ?_
          refine k_get hc hk hw at_M rfl iX7 25 (by decide) q1060 (v := .ref (gA g (jM 22))) rfl dX7_followUp_118 ?_
          refine lv_iload_n hx hb dX7_followUp_121 rfl (lv_at hl 1 rfl) ?_
          refine lv_iconst (v := (-1)) hx hb dX7_followUp_122 (by decide) ?_
          refine k_iast (x' := (xM S (up2 (up2 (up2 (up2 (up2 ((f_X7_isNot a1 100 M).2) 0 0 0) 23 ((a1).toNatClampNeg) 1) 21 ((a1).toNatClampNeg) ((((f_X7_isNot a1 100 M).2) 21 ((a1).toNatClampNeg)) + 1)) 16 ((a1).toNatClampNeg) ((((f_X7_isNot a1 100 M).2) 0 1) + (30 * ((up2 (up2 (up2 ((f_X7_isNot a1 100 M).2) 0 0 0) 23 ((a1).toNatClampNeg) 1) 21 ((a1).toNatClampNeg) ((((f_X7_isNot a1 100 M).2) 21 ((a1).toNatClampNeg)) + 1)) 21 ((a1).toNatClampNeg))))) 22 ((a1).toNatClampNeg) (-1)) o)) (f := (up2 (up2 (up2 (up2 ((f_X7_isNot a1 100 M).2) 0 0 0) 23 ((a1).toNatClampNeg) 1) 21 ((a1).toNatClampNeg) ((((f_X7_isNot a1 100 M).2) 21 ((a1).toNatClampNeg)) + 1)) 16 ((a1).toNatClampNeg) ((((f_X7_isNot a1 100 M).2) 0 1) + (30 * ((up2 (up2 (up2 ((f_X7_isNot a1 100 M).2) 0 0 0) 23 ((a1).toNatClampNeg) 1) 21 ((a1).toNatClampNeg) ((((f_X7_isNot a1 100 M).2) 21 ((a1).toNatClampNeg)) + 1)) 21 ((a1).toNatClampNeg))))) 22) (n := ((a1).toNatClampNeg)) hc hk hw (at_Mk (k := 22) (t := 0) (n := 20) (by decide) (by decide) (by decide) (by decide)) (isNot_in hN h1) rfl dX7_followUp_123 (ms_k (k := 22) (t := 0) (n := 20) (by decide) (by decide) (by decide) (by decide)) (fun H locs hw => ?_)
          refine lv_aload_n hx hb dX7_followUp_124 rfl (lv_at hl 0 rfl) ?_
          refine k_get hc hk hw at_M rfl iX7 24 (by decide) q1059 (v := .ref (gA g (jM 21))) rfl dX7_followUp_125 ?_
          refine lv_iload_n hx hb dX7_followUp_128 rfl (lv_at hl 1 rfl) ?_
          refine k_iald (f := (up2 (up2 (up2 ((f_X7_isNot a1 100 M).2) 0 0 0) 23 ((a1).toNatClampNeg) 1) 21 ((a1).toNatClampNeg) ((((f_X7_isNot a1 100 M).2) 21 ((a1).toNatClampNeg)) + 1)) 21) (n := ((a1).toNatClampNeg)) hc hk hw (at_Mk (k := 21) (t := 0) (n := 20) (by decide) (by decide) (by decide) (by decide)) (isNot_in hN h1) rfl dX7_followUp_129 ?_
          exact W.iret (v := (up2 (up2 (up2 ((f_X7_isNot a1 100 M).2) 0 0 0) 23 ((a1).toNatClampNeg) 1) 21 ((a1).toNatClampNeg) ((((f_X7_isNot a1 100 M).2) 21 ((a1).toNatClampNeg)) + 1)) 21 ((a1).toNatClampNeg)) hx hb hr (fun t9 ht hW => ke_i hw ht (by simp only [f_X7_followUp, if_pos h1, if_neg h2, if_neg h5, if_neg h6]) (by simp only [f_X7_followUp, if_pos h1, if_neg h2, if_neg h5, if_neg h6])) hw.2.2.2 dX7_followUp_130
        · refine lv_iconst (v := 4) hx hb dX7_followUp_84 (by decide) ?_
          refine lv_goto (tgt := 96) hx hb dX7_followUp_85 (by decide) ?_
          refine k_iast (x' := (xM S (up2 (up2 (up2 ((f_X7_isNot a1 100 M).2) 0 0 0) 23 ((a1).toNatClampNeg) 1) 21 ((a1).toNatClampNeg) 4) o)) (f := (up2 (up2 ((f_X7_isNot a1 100 M).2) 0 0 0) 23 ((a1).toNatClampNeg) 1) 21) (n := ((a1).toNatClampNeg)) hc hk hw (at_Mk (k := 21) (t := 0) (n := 20) (by decide) (by decide) (by decide) (by decide)) (isNot_in hN h1) rfl dX7_followUp_96 (ms_k (k := 21) (t := 0) (n := 20) (by decide) (by decide) (by decide) (by decide)) (fun H locs hw => ?_)
          refine lv_aload_n hx hb dX7_followUp_97 rfl (lv_at hl 0 rfl) ?_
          refine k_get hc hk hw at_M rfl iX7 19 (by decide) q1054 (v := .ref (gA g (jM 16))) rfl dX7_followUp_98 ?_
          refine lv_iload_n hx hb dX7_followUp_101 rfl (lv_at hl 1 rfl) ?_
          refine lv_aload_n hx hb dX7_followUp_102 rfl (lv_at hl 0 rfl) ?_
          refine k_get hc hk hw at_M rfl iX7 1 (by decide) q1036 (v := .int (((f_X7_isNot a1 100 M).2) 0 1)) rfl dX7_followUp_103 ?_
          refine lv_bipush (v := 30) hx hb dX7_followUp_106 (by decide) ?_
          refine lv_aload_n hx hb dX7_followUp_108 rfl (lv_at hl 0 rfl) ?_
          refine k_get hc hk hw at_M rfl iX7 24 (by decide) q1059 (v := .ref (gA g (jM 21))) rfl dX7_followUp_109 ?_
          refine lv_iload_n hx hb dX7_followUp_112 rfl (lv_at hl 1 rfl) ?_
          refine k_iald (f := (up2 (up2 (up2 ((f_X7_isNot a1 100 M).2) 0 0 0) 23 ((a1).toNatClampNeg) 1) 21 ((a1).toNatClampNeg) 4) 21) (n := ((a1).toNatClampNeg)) hc hk hw (at_Mk (k := 21) (t := 0) (n := 20) (by decide) (by decide) (by decide) (by decide)) (isNot_in hN h1) rfl dX7_followUp_113 ?_
          refine lv_imul hx hb dX7_followUp_114 ?_
          refine lv_iadd hx hb dX7_followUp_115 ?_
          refine k_iast (x' := (xM S (up2 (up2 (up2 (up2 ((f_X7_isNot a1 100 M).2) 0 0 0) 23 ((a1).toNatClampNeg) 1) 21 ((a1).toNatClampNeg) 4) 16 ((a1).toNatClampNeg) ((((f_X7_isNot a1 100 M).2) 0 1) + (30 * ((up2 (up2 (up2 ((f_X7_isNot a1 100 M).2) 0 0 0) 23 ((a1).toNatClampNeg) 1) 21 ((a1).toNatClampNeg) 4) 21 ((a1).toNatClampNeg))))) o)) (f := (up2 (up2 (up2 ((f_X7_isNot a1 100 M).2) 0 0 0) 23 ((a1).toNatClampNeg) 1) 21 ((a1).toNatClampNeg) 4) 16) (n := ((a1).toNatClampNeg)) hc hk hw (at_Mk (k := 16) (t := 0) (n := 20) (by decide) (by decide) (by decide) (by decide)) (isNot_in hN h1) rfl dX7_followUp_116 (ms_k (k := 16) (t := 0) (n := 20) (by decide) (by decide) (by decide) (by decide)) (fun H locs hw => ?_)
          refine lv_aload_n hx hb dX7_followUp_117 rfl (lv_at hl 0 rfl) ?_
          refine k_get hc hk hw at_M rfl iX7 25 (by decide) q1060 (v := .ref (gA g (jM 22))) rfl dX7_followUp_118 ?_
          refine lv_iload_n hx hb dX7_followUp_121 rfl (lv_at hl 1 rfl) ?_
          refine lv_iconst (v := (-1)) hx hb dX7_followUp_122 (by decide) ?_
          refine k_iast (x' := (xM S (up2 (up2 (up2 (up2 (up2 ((f_X7_isNot a1 100 M).2) 0 0 0) 23 ((a1).toNatClampNeg) 1) 21 ((a1).toNatClampNeg) 4) 16 ((a1).toNatClampNeg) ((((f_X7_isNot a1 100 M).2) 0 1) + (30 * ((up2 (up2 (up2 ((f_X7_isNot a1 100 M).2) 0 0 0) 23 ((a1).toNatClampNeg) 1) 21 ((a1).toNatClampNeg) 4) 21 ((a1).toNatClampNeg))))) 22 ((a1).toNatClampNeg) (-1)) o)) (f := (up2 (up2 (up2 (up2 ((f_X7_isNot a1 100 M).2) 0 0 0) 23 ((a1).toNatClampNeg) 1) 21 ((a1).toNatClampNeg) 4) 16 ((a1).toNatClampNeg) ((((f_X7_isNot a1 100 M).2) 0 1) + (30 * ((up2 (up2 (up2 ((f_X7_isNot a1 100 M).2) 0 0 0) 23 ((a1).toNatClampNeg) 1) 21 ((a1).toNatClampNeg) 4) 21 ((a1).toNatClampNeg))))) 22) (n := ((a1).toNatClampNeg)) hc hk hw (at_Mk (k := 22) (t := 0) (n := 20) (by decide) (by decide) (by decide) (by decide)) (isNot_in hN h1) rfl dX7_followUp_123 (ms_k (k := 22) (t := 0) (n := 20) (by decide) (by decide) (by decide) (by decide)) (fun H locs hw => ?_)
          refine lv_aload_n hx hb dX7_followUp_124 rfl (lv_at hl 0 rfl) ?_
          refine k_get hc hk hw at_M rfl iX7 24 (by decide) q1059 (v := .ref (gA g (jM 21))) rfl dX7_followUp_125 ?_
          refine lv_iload_n hx hb dX7_followUp_128 rfl (lv_at hl 1 rfl) ?_
          refine k_iald (f := (up2 (up2 (up2 ((f_X7_isNot a1 100 M).2) 0 0 0) 23 ((a1).toNatClampNeg) 1) 21 ((a1).toNatClampNeg) 4) 21) (n := ((a1).toNatClampNeg)) hc hk hw (at_Mk (k := 21) (t := 0) (n := 20) (by decide) (by decide) (by decide) (by decide)) (isNot_in hN h1) rfl dX7_followUp_129 ?_
          exact W.iret (v := (up2 (up2 (up2 ((f_X7_isNot a1 100 M).2) 0 0 0) 23 ((a1).toNatClampNeg) 1) 21 ((a1).toNatClampNeg) 4) 21 ((a1).toNatClampNeg)) hx hb hr (fun t9 ht hW => ke_i hw ht (by simp only [f_X7_followUp, if_pos h1, if_neg h2, if_neg h5, if_pos h6]) (by simp only [f_X7_followUp, if_pos h1, if_neg h2, if_neg h5, if_pos h6])) hw.2.2.2 dX7_followUp_130
      · refine lv_aload_n hx hb dX7_followUp_53 rfl (lv_at hl 0 rfl) ?_
        refine lv_iload_n hx hb dX7_followUp_54 rfl (lv_at hl 1 rfl) ?_
        refine lv_bipush (v := 105) hx hb dX7_followUp_55 (by decide) ?_
        refine kc_v hw (va_runV (As := [.int a1, .int 105]) (rest := []) ⟨hx, hb, hml, hc.2.2.1, hc.2.2.2⟩ (m_X7_closes l g S (up2 ((f_X7_isNot a1 100 M).2) 0 0 0) o a1 105 ⟨by decide +kernel, by decide +kernel, by decide +kernel⟩ _ _ (MN.up0 (by decide) (by decide) (cn_X7_isNot hN)) (isNot_in hN h1)) (kw_V hc 2 q1274 q1276 qs69 q8 q1277 rfl rfl (by decide +kernel) ⟨Nat.le_of_ble_eq_true rfl, Nat.le_of_ble_eq_true rfl⟩) (kp_V hk hw at_M rfl) rfl rfl hl.1 rfl (lv_room (Nat.le_of_ble_eq_true rfl)) dX7_followUp_57 ⟨Nat.le_of_ble_eq_true rfl, Nat.le_of_ble_eq_true rfl⟩) (fun H locs hw => ?_)
        refine lv_iconst (v := 0) hx hb dX7_followUp_60 (by decide) ?_
        exact W.iret (v := 0) hx hb hr (fun t9 ht hW => ke_i hw ht (by simp only [f_X7_followUp, if_pos h1, if_neg h2, if_pos h5]) (by simp only [f_X7_followUp, if_pos h1, if_neg h2, if_pos h5])) hw.2.2.2 dX7_followUp_61
  · refine lv_iconst (v := 0) hx hb dX7_followUp_10 (by decide) ?_
    exact W.iret (v := 0) hx hb hr (fun t9 ht hW => ke_i hw ht (by simp only [f_X7_followUp, if_neg h1]) (by simp only [f_X7_followUp, if_neg h1])) hw.2.2.2 dX7_followUp_11
def b_withdraw7 (a1 : Int32) (M : BT) (k : Nat) (z : Int32 × BT) : Int32 × BT :=
  (if z.2 12 k = a1 then (z.1 + 1, up2 (up2 z.2 12 k (-1)) 11 k 114) else (z.1, z.2))
def L_withdraw7 (a1 : Int32) (M : BT) : Nat → Int32 × BT
  | 0 => (0, up2 ((f_X7_noComplaint a1 M).2) 0 0 0)
  | k + 1 => b_withdraw7 a1 M k (L_withdraw7 a1 M k)
theorem cn_b_withdraw7 {a1 : Int32} {M : BT} {k n m9 : Nat} {z : Int32 × BT} (hN : MN z.2 n m9) : MN ((b_withdraw7 a1 M k z).2) n m9 := by
  unfold b_withdraw7
  by_cases h7 : z.2 12 k = a1
  · simp only [if_pos h7]
    exact (MN.up11 ⟨by decide +kernel, by decide +kernel, by decide +kernel⟩ (MN.up12 (Or.inl rfl) hN))
  · simp only [if_neg h7]
    exact hN
theorem cn_L_withdraw7 {a1 : Int32} {M : BT} {n m9 : Nat} (hN : MN M n m9) : ∀ k, MN ((L_withdraw7 a1 M k).2) n m9 := by
  intro k
  induction k with
  | zero => exact (MN.up0 (by decide) (by decide) (cn_X7_noComplaint hN))
  | succ k ih => exact cn_b_withdraw7 ih
def f_X7_withdraw (a1 : Int32) (M : BT) : Int32 × BT :=
  (if (f_X7_noComplaint a1 M).1 = 0 then (if f_X7_isJoined a1 ((f_X7_noComplaint a1 M).2) = 0 then (if f_X7_isClosed (((f_X7_noComplaint a1 M).2) 11 ((a1).toNatClampNeg)) = 0 then ((L_withdraw7 a1 M ((M 0 3).toNatClampNeg)).1, f_X7_closes a1 119 ((L_withdraw7 a1 M ((M 0 3).toNatClampNeg)).2)) else (0, up2 ((f_X7_noComplaint a1 M).2) 0 0 2)) else (0, up2 ((f_X7_noComplaint a1 M).2) 0 0 2)) else (0, (f_X7_noComplaint a1 M).2))
theorem cn_X7_withdraw {a1 : Int32} {M : BT} {n m9 : Nat} (hN : MN M n m9) : MN ((f_X7_withdraw a1 M).2) n m9 := by
  unfold f_X7_withdraw
  by_cases h1 : (f_X7_noComplaint a1 M).1 = 0
  · simp only [if_pos h1]
    by_cases h2 : f_X7_isJoined a1 ((f_X7_noComplaint a1 M).2) = 0
    · simp only [if_pos h2]
      by_cases h4 : f_X7_isClosed (((f_X7_noComplaint a1 M).2) 11 ((a1).toNatClampNeg)) = 0
      · simp only [if_pos h4]
        exact (cn_X7_closes ⟨by decide +kernel, by decide +kernel, by decide +kernel⟩ (cn_L_withdraw7 hN ((M 0 3).toNatClampNeg)))
      · simp only [if_neg h4]
        exact (MN.up0 (by decide) (by decide) (cn_X7_noComplaint hN))
    · simp only [if_neg h2]
      exact (MN.up0 (by decide) (by decide) (cn_X7_noComplaint hN))
  · simp only [if_neg h1]
    exact (cn_X7_noComplaint hN)
set_option maxHeartbeats 4000000 in
set_option maxRecDepth 100000 in
theorem m_X7_withdraw (l : Launch) (g : wG) (S : Nat → BT) (M : BT) (o : (Nat → Int64) × (Nat → UInt64)) (a1 : Int32) (n m9 : Nat) (hN : MN M n m9) : mI l yX7_withdraw cX7_withdraw 4 (some .int) ({ frames := 3, cells := 0, slots := 0, locals := 64 } : Room) 0 0 g (xM S M o) [.ref (gA g (jM 0)), .int a1] ((f_X7_withdraw a1 M).1) (xM S ((f_X7_withdraw a1 M).2) o) := by
  refine Met.ofW (cc := cX7_withdraw) (maxL := 4) (ret := some .int) (by decide) rfl ?_
  intro p9 e s m args below meth c s₁ BL hml hv
  obtain ⟨rfl, hk, hPB⟩ := hv
  have hx := BL.exec
  have hb := BL.bytes
  have hc : CX p9 c cX7_withdraw s _ m RX7 := ⟨hx, hb, findClass_of_methodNamed BL.named, fun w h => atoms_spec BL.pre w (List.mem_cons_of_mem _ h)⟩
  have hr := BL.returns
  have hlocks := BL.notSynchronized
  have hw : WS g s (xM S M o) s.heap [] := ⟨hPB, va_S.rf⟩
  have hl := lv_entry ([.ref (gA g (jM 0)), .int a1]) (n := 4) (Nat.le_of_ble_eq_true rfl)
  rw [lg_entry_eq]
  generalize (lg_sl ([.ref (gA g (jM 0)), .int a1]) ++ List.replicate (4 - (lg_sl ([.ref (gA g (jM 0)), .int a1])).length) Slot.unset).toArray = ls at hl ⊢
  have hl : lv_has ls 4 [(0, .ref (gA g (jM 0))), (1, .int a1)] := hl
  refine lv_aload_n hx hb dX7_withdraw_0 rfl (lv_at hl 0 rfl) ?_
  refine lv_iload_n hx hb dX7_withdraw_1 rfl (lv_at hl 1 rfl) ?_
  refine kc_i hw (va_runV (As := [.int a1]) (rest := []) ⟨hx, hb, hml, hc.2.2.1, hc.2.2.2⟩ (m_X7_noComplaint l g S M o a1 _ _ hN) (kw_V hc 1 q1172 q1174 qs64 q8 q1175 rfl rfl (by decide +kernel) ⟨Nat.le_of_ble_eq_true rfl, Nat.le_of_ble_eq_true rfl⟩) (kp_V hk hw at_M rfl) rfl rfl hl.1 rfl (lv_room (Nat.le_of_ble_eq_true rfl)) dX7_withdraw_2 ⟨Nat.le_of_ble_eq_true rfl, Nat.le_of_ble_eq_true rfl⟩) (fun H locs hw => ?_)
  refine lv_if_eq (tgt := 10) hx hb dX7_withdraw_5 (by decide) (fun h1 => ?_) (fun h1 => ?_)
  · refine lv_aload_n hx hb dX7_withdraw_10 rfl (lv_at hl 0 rfl) ?_
    refine lv_aload_n hx hb dX7_withdraw_11 rfl (lv_at hl 0 rfl) ?_
    refine lv_iload_n hx hb dX7_withdraw_12 rfl (lv_at hl 1 rfl) ?_
    refine kc_i hw (va_runV (As := [.int a1]) (rest := [.ref (gA g (jM 0))]) ⟨hx, hb, hml, hc.2.2.1, hc.2.2.2⟩ (m_X7_isJoined l g S ((f_X7_noComplaint a1 M).2) o a1 _ _ (cn_X7_noComplaint hN) (noComplaint_in hN h1)) (kw_V hc 1 q1148 q1150 qs61 q8 q1151 rfl rfl (by decide +kernel) ⟨Nat.le_of_ble_eq_true rfl, Nat.le_of_ble_eq_true rfl⟩) (kp_V hk hw at_M rfl) rfl rfl hl.1 rfl (lv_room (Nat.le_of_ble_eq_true rfl)) dX7_withdraw_13 ⟨Nat.le_of_ble_eq_true rfl, Nat.le_of_ble_eq_true rfl⟩) (fun H locs hw => ?_)
    refine lv_if_ne (tgt := 31) hx hb dX7_withdraw_16 (by decide) (fun h2 => ?_) (fun h2 => ?_)
    · refine lv_iconst (v := 2) hx hb dX7_withdraw_31 (by decide) ?_
      refine lv_goto (tgt := 36) hx hb dX7_withdraw_32 (by decide) ?_
      refine k_put hc hk hw (x' := (xM S (up2 ((f_X7_noComplaint a1 M).2) 0 0 2) o)) at_M rfl iX7 tyX7 tyX7_ok nmX7 0 (by decide) q1035 rfl rfl rfl (Nat.le_of_ble_eq_true rfl) dX7_withdraw_36 (ms_0 (by decide)) (fun H locs hw => ?_)
      refine lv_aload_n hx hb dX7_withdraw_39 rfl (lv_at hl 0 rfl) ?_
      refine k_get hc hk hw at_M rfl iX7 0 (by decide) q1035 (v := .int 2) rfl dX7_withdraw_40 ?_
      refine lv_if_le (tgt := 48) hx hb dX7_withdraw_43 (by decide) (fun h3 => absurd h3 (by decide)) (fun _ => ?_)
      refine lv_iconst (v := 0) hx hb dX7_withdraw_46 (by decide) ?_
      exact W.iret (v := 0) hx hb hr (fun t9 ht hW => ke_i hw ht (by simp only [f_X7_withdraw, if_pos h1, if_neg h2]) (by simp only [f_X7_withdraw, if_pos h1, if_neg h2])) hw.2.2.2 dX7_withdraw_47
    · refine lv_aload_n hx hb dX7_withdraw_19 rfl (lv_at hl 0 rfl) ?_
      refine k_get hc hk hw at_M rfl iX7 14 (by decide) q1049 (v := .ref (gA g (jM 11))) rfl dX7_withdraw_20 ?_
      refine lv_iload_n hx hb dX7_withdraw_23 rfl (lv_at hl 1 rfl) ?_
      refine k_cald (f := ((f_X7_noComplaint a1 M).2) 11) (n := ((a1).toNatClampNeg)) hc hk hw (at_Mk (k := 11) (t := 1) (n := 20) (by decide) (by decide) (by decide) (by decide)) (noComplaint_in hN h1) rfl dX7_withdraw_24 ?_
      refine kc_i hw (va_runS (As := [.int (((f_X7_noComplaint a1 M).2) 11 ((a1).toNatClampNeg))]) (rest := [.ref (gA g (jM 0))]) ⟨hx, hb, hml, hc.2.2.1, hc.2.2.2⟩ (m_X7_isClosed l g S ((f_X7_noComplaint a1 M).2) o (((f_X7_noComplaint a1 M).2) 11 ((a1).toNatClampNeg))) (kw_S hc 1 q1192 q1193 q8 q1194 rfl rfl (by decide +kernel) ⟨Nat.le_of_ble_eq_true rfl, Nat.le_of_ble_eq_true rfl⟩) (kp_S hk hw) rfl rfl hl.1 rfl (lv_room (Nat.le_of_ble_eq_true rfl)) dX7_withdraw_25 ⟨Nat.le_of_ble_eq_true rfl, Nat.le_of_ble_eq_true rfl⟩) (fun H locs hw => ?_)
      refine lv_if_eq (tgt := 35) hx hb dX7_withdraw_28 (by decide) (fun h4 => ?_) (fun h4 => ?_)
      · refine lv_iconst (v := 0) hx hb dX7_withdraw_35 (by decide) ?_
        refine k_put hc hk hw (x' := (xM S (up2 ((f_X7_noComplaint a1 M).2) 0 0 0) o)) at_M rfl iX7 tyX7 tyX7_ok nmX7 0 (by decide) q1035 rfl rfl rfl (Nat.le_of_ble_eq_true rfl) dX7_withdraw_36 (ms_0 (by decide)) (fun H locs hw => ?_)
        refine lv_aload_n hx hb dX7_withdraw_39 rfl (lv_at hl 0 rfl) ?_
        refine k_get hc hk hw at_M rfl iX7 0 (by decide) q1035 (v := .int 0) rfl dX7_withdraw_40 ?_
        refine lv_if_le (tgt := 48) hx hb dX7_withdraw_43 (by decide) (fun _ => ?_) (fun h5 => absurd h5 (by decide))
        refine lv_iconst (v := 0) hx hb dX7_withdraw_48 (by decide) ?_
        refine lv_istore_n (lv' := [(2, .int 0), (0, .ref (gA g (jM 0))), (1, .int a1)]) hx hb dX7_withdraw_49 rfl hl (by decide) rfl (fun ls hl => ?_)
        refine lv_iconst (v := 0) hx hb dX7_withdraw_50 (by decide) ?_
        refine lv_istore_n (lv' := [(3, .int 0), (2, .int 0), (0, .ref (gA g (jM 0))), (1, .int a1)]) hx hb dX7_withdraw_51 rfl hl (by decide) rfl (fun ls hl => ?_)
        have LP6 : ∀ (f k : Nat), k ≤ (M 0 3).toNatClampNeg → (M 0 3).toNatClampNeg + 1 ≤ k + f → ∀ (H : Heap) (locs : List Loc), WS g s (xM S ((L_withdraw7 a1 M k).2) o) H locs → ∀ (ls : Array Slot), lv_has ls 4 [(3, .int (nI k)), (2, .int ((L_withdraw7 a1 M k).1)), (0, .ref (gA g (jM 0))), (1, .int a1)] → W p9 l e ({ frames := 3, cells := 0, slots := 0, locals := 64 } : Room) s m ([.ref (gA g (jM 0)), .int a1] : List Value).toArray below meth c H locs 0 0 (MQ below (va_Qi (fun (v : Int32) (u : wSt) => v = (f_X7_withdraw a1 M).1 ∧ u = (xM S ((f_X7_withdraw a1 M).2) o)) (PB g) (AA g)) (([.ref (gA g (jM 0)), .int a1] : List Value).toArray) s 0 0 (AA g)) (F0 m 52 ls []) := by
          intro f
          induction f with
          | zero => intro k h1 h2; exact absurd h2 (by omega)
          | succ f ih =>
            intro k hk9 hf9 H locs hw ls hl
            have hl4 := MN.l4 hN
            refine lv_iload_n hx hb dX7_withdraw_52 rfl (lv_at hl 0 rfl) ?_
            refine lv_aload_n hx hb dX7_withdraw_53 rfl (lv_at hl 2 rfl) ?_
            refine k_get hc hk hw at_M rfl iX7 3 (by decide) q1038 (v := .int (((L_withdraw7 a1 M k).2) 0 3)) rfl dX7_withdraw_54 ?_
            refine lv_icmp_ge (tgt := 94) hx hb dX7_withdraw_57 (by decide) (fun h7 => ?_) (fun h7 => ?_)
            · have hkn := lp_out h7 (MN.cc hN (cn_L_withdraw7 hN k)) hk9 (by omega)
              subst hkn
              refine lv_aload_n hx hb dX7_withdraw_94 rfl (lv_at hl 2 rfl) ?_
              refine lv_iload_n hx hb dX7_withdraw_95 rfl (lv_at hl 3 rfl) ?_
              refine lv_bipush (v := 119) hx hb dX7_withdraw_96 (by decide) ?_
              refine kc_v hw (va_runV (As := [.int a1, .int 119]) (rest := []) ⟨hx, hb, hml, hc.2.2.1, hc.2.2.2⟩ (m_X7_closes l g S ((L_withdraw7 a1 M ((M 0 3).toNatClampNeg)).2) o a1 119 ⟨by decide +kernel, by decide +kernel, by decide +kernel⟩ _ _ (cn_L_withdraw7 hN ((M 0 3).toNatClampNeg)) (noComplaint_in hN h1)) (kw_V hc 2 q1274 q1276 qs69 q8 q1277 rfl rfl (by decide +kernel) ⟨Nat.le_of_ble_eq_true rfl, Nat.le_of_ble_eq_true rfl⟩) (kp_V hk hw at_M rfl) rfl rfl hl.1 rfl (lv_room (Nat.le_of_ble_eq_true rfl)) dX7_withdraw_98 ⟨Nat.le_of_ble_eq_true rfl, Nat.le_of_ble_eq_true rfl⟩) (fun H locs hw => ?_)
              refine lv_iload_n hx hb dX7_withdraw_101 rfl (lv_at hl 1 rfl) ?_
              exact W.iret (v := (L_withdraw7 a1 M ((M 0 3).toNatClampNeg)).1) hx hb hr (fun t9 ht hW => ke_i hw ht (by simp only [f_X7_withdraw, if_pos h1, if_pos h2, if_pos h4]) (by simp only [f_X7_withdraw, if_pos h1, if_pos h2, if_pos h4])) hw.2.2.2 dX7_withdraw_102
            · have hkn := lp_in h7 (MN.cc hN (cn_L_withdraw7 hN k)) hk9 (by omega)
              refine lv_aload_n hx hb dX7_withdraw_60 rfl (lv_at hl 2 rfl) ?_
              refine k_get hc hk hw at_M rfl iX7 15 (by decide) q1050 (v := .ref (gA g (jM 12))) rfl dX7_withdraw_61 ?_
              refine lv_iload_n hx hb dX7_withdraw_64 rfl (lv_at hl 0 rfl) ?_
              refine k_iald (f := ((L_withdraw7 a1 M k).2) 12) (n := k) hc hk hw (at_Mk (k := 12) (t := 0) (n := 20) (by decide) (by decide) (by decide) (by decide)) (vp_in_nI (Nat.lt_of_lt_of_le hkn (by omega)) (by omega)) (nI_clamp (by have := hkn; omega)) dX7_withdraw_65 ?_
              refine lv_iload_n hx hb dX7_withdraw_66 rfl (lv_at hl 3 rfl) ?_
              refine lv_icmp_ne (tgt := 88) hx hb dX7_withdraw_67 (by decide) (fun h8 => ?_) (fun h8 => ?_)
              · refine lv_iinc (v := nI (k + 1)) (lv' := [(3, .int (nI (k + 1))), (2, .int ((L_withdraw7 a1 M k).1)), (0, .ref (gA g (jM 0))), (1, .int a1)]) hx hb dX7_withdraw_88 hl (k := 0) rfl (by first | exact (nI_succ _).symm | rfl) (by decide) rfl (fun ls hl => ?_)
                refine lv_goto (tgt := 52) hx hb dX7_withdraw_91 (by decide) ?_
                have hw9 : WS g s (xM S ((L_withdraw7 a1 M (k + 1)).2) o) H locs := by
                  have e9 : (L_withdraw7 a1 M k).2 = (L_withdraw7 a1 M (k + 1)).2 := by simp only [L_withdraw7, b_withdraw7, if_neg h8]
                  rw [← e9]; exact hw
                have hl9 := lv_sub hl [0, 1, 2, 3] rfl
                have e8 : (L_withdraw7 a1 M k).1 = (L_withdraw7 a1 M (k + 1)).1 := by simp only [L_withdraw7, b_withdraw7, if_neg h8]
                rw [e8] at hl9
                exact ih (k + 1) (by omega) (by omega) _ _ hw9 _ hl9
              · refine lv_aload_n hx hb dX7_withdraw_70 rfl (lv_at hl 2 rfl) ?_
                refine k_get hc hk hw at_M rfl iX7 15 (by decide) q1050 (v := .ref (gA g (jM 12))) rfl dX7_withdraw_71 ?_
                refine lv_iload_n hx hb dX7_withdraw_74 rfl (lv_at hl 0 rfl) ?_
                refine lv_iconst (v := (-1)) hx hb dX7_withdraw_75 (by decide) ?_
                refine k_iast (x' := (xM S (up2 ((L_withdraw7 a1 M k).2) 12 k (-1)) o)) (f := ((L_withdraw7 a1 M k).2) 12) (n := k) hc hk hw (at_Mk (k := 12) (t := 0) (n := 20) (by decide) (by decide) (by decide) (by decide)) (vp_in_nI (Nat.lt_of_lt_of_le hkn (by omega)) (by omega)) (nI_clamp (by have := hkn; omega)) dX7_withdraw_76 (ms_k (k := 12) (t := 0) (n := 20) (by decide) (by decide) (by decide) (by decide)) (fun H locs hw => ?_)
                refine lv_aload_n hx hb dX7_withdraw_77 rfl (lv_at hl 2 rfl) ?_
                refine k_get hc hk hw at_M rfl iX7 14 (by decide) q1049 (v := .ref (gA g (jM 11))) rfl dX7_withdraw_78 ?_
                refine lv_iload_n hx hb dX7_withdraw_81 rfl (lv_at hl 0 rfl) ?_
                refine lv_bipush (v := 114) hx hb dX7_withdraw_82 (by decide) ?_
                refine k_cast (x' := (xM S (up2 (up2 ((L_withdraw7 a1 M k).2) 12 k (-1)) 11 k 114) o)) (f := (up2 ((L_withdraw7 a1 M k).2) 12 k (-1)) 11) (n := k) hc hk hw (at_Mk (k := 11) (t := 1) (n := 20) (by decide) (by decide) (by decide) (by decide)) (vp_in_nI (Nat.lt_of_lt_of_le hkn (by omega)) (by omega)) (nI_clamp (by have := hkn; omega)) (by decide +kernel) dX7_withdraw_84 (ms_k (k := 11) (t := 1) (n := 20) (by decide) (by decide) (by decide) (by decide)) (fun H locs hw => ?_)
                refine lv_iinc (v := ((L_withdraw7 a1 M k).1) + 1) (lv' := [(2, .int (((L_withdraw7 a1 M k).1) + 1)), (3, .int (nI k)), (0, .ref (gA g (jM 0))), (1, .int a1)]) hx hb dX7_withdraw_85 hl (k := 1) rfl rfl (by decide) rfl (fun ls hl => ?_)
                refine lv_iinc (v := nI (k + 1)) (lv' := [(3, .int (nI (k + 1))), (2, .int (((L_withdraw7 a1 M k).1) + 1)), (0, .ref (gA g (jM 0))), (1, .int a1)]) hx hb dX7_withdraw_88 hl (k := 1) rfl (by first | exact (nI_succ _).symm | rfl) (by decide) rfl (fun ls hl => ?_)
                refine lv_goto (tgt := 52) hx hb dX7_withdraw_91 (by decide) ?_
                have hw9 : WS g s (xM S ((L_withdraw7 a1 M (k + 1)).2) o) H locs := by
                  have e9 : up2 (up2 ((L_withdraw7 a1 M k).2) 12 k (-1)) 11 k 114 = (L_withdraw7 a1 M (k + 1)).2 := by simp only [L_withdraw7, b_withdraw7, if_pos h8]
                  rw [← e9]; exact hw
                have hl9 := lv_sub hl [0, 1, 2, 3] rfl
                have e8 : ((L_withdraw7 a1 M k).1) + 1 = (L_withdraw7 a1 M (k + 1)).1 := by simp only [L_withdraw7, b_withdraw7, if_pos h8]
                rw [e8] at hl9
                exact ih (k + 1) (by omega) (by omega) _ _ hw9 _ hl9
        exact LP6 ((M 0 3).toNatClampNeg + 1) 0 (Nat.zero_le _) (by omega) _ _ hw _ (lv_sub hl [0, 1, 2, 3] rfl)
      · refine lv_iconst (v := 2) hx hb dX7_withdraw_31 (by decide) ?_
        refine lv_goto (tgt := 36) hx hb dX7_withdraw_32 (by decide) ?_
        refine k_put hc hk hw (x' := (xM S (up2 ((f_X7_noComplaint a1 M).2) 0 0 2) o)) at_M rfl iX7 tyX7 tyX7_ok nmX7 0 (by decide) q1035 rfl rfl rfl (Nat.le_of_ble_eq_true rfl) dX7_withdraw_36 (ms_0 (by decide)) (fun H locs hw => ?_)
        refine lv_aload_n hx hb dX7_withdraw_39 rfl (lv_at hl 0 rfl) ?_
        refine k_get hc hk hw at_M rfl iX7 0 (by decide) q1035 (v := .int 2) rfl dX7_withdraw_40 ?_
        refine lv_if_le (tgt := 48) hx hb dX7_withdraw_43 (by decide) (fun h11 => absurd h11 (by decide)) (fun _ => ?_)
        refine lv_iconst (v := 0) hx hb dX7_withdraw_46 (by decide) ?_
        exact W.iret (v := 0) hx hb hr (fun t9 ht hW => ke_i hw ht (by simp only [f_X7_withdraw, if_pos h1, if_pos h2, if_neg h4]) (by simp only [f_X7_withdraw, if_pos h1, if_pos h2, if_neg h4])) hw.2.2.2 dX7_withdraw_47
  · refine lv_iconst (v := 0) hx hb dX7_withdraw_8 (by decide) ?_
    exact W.iret (v := 0) hx hb hr (fun t9 ht hW => ke_i hw ht (by simp only [f_X7_withdraw, if_neg h1]) (by simp only [f_X7_withdraw, if_neg h1])) hw.2.2.2 dX7_withdraw_9
def f_X7_daysOf (a1 : Int32) (M : BT) : Int32 :=
  (if f_X7_isClosed (f_X7_standing a1 M) = 0 then ((M 0 1) - (M 10 a1.toNatClampNeg)) - (M 25 a1.toNatClampNeg) else ((M 24 ((f_X7_leading a1 M).toNatClampNeg)) - (M 10 a1.toNatClampNeg)) - (M 25 a1.toNatClampNeg))
set_option maxHeartbeats 4000000 in
set_option maxRecDepth 100000 in
theorem m_X7_daysOf (l : Launch) (g : wG) (S : Nat → BT) (M : BT) (o : (Nat → Int64) × (Nat → UInt64)) (a1 : Int32) (n m9 : Nat) (hN : MN M n m9) (hi : vp_in a1 20) : mI l yX7_daysOf cX7_daysOf 3 (some .int) ({ frames := 3, cells := 0, slots := 0, locals := 63 } : Room) 0 0 g (xM S M o) [.ref (gA g (jM 0)), .int a1] (f_X7_daysOf a1 M) (xM S M o) := by
  refine Met.ofW (cc := cX7_daysOf) (maxL := 3) (ret := some .int) (by decide) rfl ?_
  intro p9 e s m args below meth c s₁ BL hml hv
  obtain ⟨rfl, hk, hPB⟩ := hv
  have hx := BL.exec
  have hb := BL.bytes
  have hc : CX p9 c cX7_daysOf s _ m RX7 := ⟨hx, hb, findClass_of_methodNamed BL.named, fun w h => atoms_spec BL.pre w (List.mem_cons_of_mem _ h)⟩
  have hr := BL.returns
  have hlocks := BL.notSynchronized
  have hw : WS g s (xM S M o) s.heap [] := ⟨hPB, va_S.rf⟩
  have hl := lv_entry ([.ref (gA g (jM 0)), .int a1]) (n := 3) (Nat.le_of_ble_eq_true rfl)
  rw [lg_entry_eq]
  generalize (lg_sl ([.ref (gA g (jM 0)), .int a1]) ++ List.replicate (3 - (lg_sl ([.ref (gA g (jM 0)), .int a1])).length) Slot.unset).toArray = ls at hl ⊢
  have hl : lv_has ls 3 [(0, .ref (gA g (jM 0))), (1, .int a1)] := hl
  refine lv_aload_n hx hb dX7_daysOf_0 rfl (lv_at hl 0 rfl) ?_
  refine lv_iload_n hx hb dX7_daysOf_1 rfl (lv_at hl 1 rfl) ?_
  refine kc_i hw (va_runV (As := [.int a1]) (rest := []) ⟨hx, hb, hml, hc.2.2.1, hc.2.2.2⟩ (m_X7_standing l g S M o a1 _ _ hN hi) (kw_V hc 1 q1140 q1142 qs59 q8 q1143 rfl rfl (by decide +kernel) ⟨Nat.le_of_ble_eq_true rfl, Nat.le_of_ble_eq_true rfl⟩) (kp_V hk hw at_M rfl) rfl rfl hl.1 rfl (lv_room (Nat.le_of_ble_eq_true rfl)) dX7_daysOf_2 ⟨Nat.le_of_ble_eq_true rfl, Nat.le_of_ble_eq_true rfl⟩) (fun H locs hw => ?_)
  refine kc_i hw (va_runS (As := [.int (f_X7_standing a1 M)]) (rest := []) ⟨hx, hb, hml, hc.2.2.1, hc.2.2.2⟩ (m_X7_isClosed l g S M o (f_X7_standing a1 M)) (kw_S hc 1 q1192 q1193 q8 q1194 rfl rfl (by decide +kernel) ⟨Nat.le_of_ble_eq_true rfl, Nat.le_of_ble_eq_true rfl⟩) (kp_S hk hw) rfl rfl hl.1 rfl (lv_room (Nat.le_of_ble_eq_true rfl)) dX7_daysOf_5 ⟨Nat.le_of_ble_eq_true rfl, Nat.le_of_ble_eq_true rfl⟩) (fun H locs hw => ?_)
  refine lv_if_eq (tgt := 24) hx hb dX7_daysOf_8 (by decide) (fun h1 => ?_) (fun h1 => ?_)
  · refine lv_aload_n hx hb dX7_daysOf_24 rfl (lv_at hl 0 rfl) ?_
    refine k_get hc hk hw at_M rfl iX7 1 (by decide) q1036 (v := .int (M 0 1)) rfl dX7_daysOf_25 ?_
    refine lv_istore_n (lv' := [(2, .int (M 0 1)), (0, .ref (gA g (jM 0))), (1, .int a1)]) hx hb dX7_daysOf_28 rfl hl (by decide) rfl (fun ls hl => ?_)
    refine lv_iload_n hx hb dX7_daysOf_29 rfl (lv_at hl 0 rfl) ?_
    refine lv_aload_n hx hb dX7_daysOf_30 rfl (lv_at hl 1 rfl) ?_
    refine k_get hc hk hw at_M rfl iX7 13 (by decide) q1048 (v := .ref (gA g (jM 10))) rfl dX7_daysOf_31 ?_
    refine lv_iload_n hx hb dX7_daysOf_34 rfl (lv_at hl 2 rfl) ?_
    refine k_iald (f := M 10) (n := a1.toNatClampNeg) hc hk hw (at_Mk (k := 10) (t := 0) (n := 20) (by decide) (by decide) (by decide) (by decide)) hi rfl dX7_daysOf_35 ?_
    refine lv_isub hx hb dX7_daysOf_36 ?_
    refine lv_aload_n hx hb dX7_daysOf_37 rfl (lv_at hl 1 rfl) ?_
    refine k_get hc hk hw at_M rfl iX7 28 (by decide) q1063 (v := .ref (gA g (jM 25))) rfl dX7_daysOf_38 ?_
    refine lv_iload_n hx hb dX7_daysOf_41 rfl (lv_at hl 2 rfl) ?_
    refine k_iald (f := M 25) (n := a1.toNatClampNeg) hc hk hw (at_Mk (k := 25) (t := 0) (n := 20) (by decide) (by decide) (by decide) (by decide)) hi rfl dX7_daysOf_42 ?_
    refine lv_isub hx hb dX7_daysOf_43 ?_
    exact W.iret (v := ((M 0 1) - (M 10 a1.toNatClampNeg)) - (M 25 a1.toNatClampNeg)) hx hb hr (fun t9 ht hW => ke_i hw ht (by simp only [f_X7_daysOf, if_pos h1]) rfl) hw.2.2.2 dX7_daysOf_44
  · refine lv_aload_n hx hb dX7_daysOf_11 rfl (lv_at hl 0 rfl) ?_
    refine k_get hc hk hw at_M rfl iX7 27 (by decide) q1062 (v := .ref (gA g (jM 24))) rfl dX7_daysOf_12 ?_
    refine lv_aload_n hx hb dX7_daysOf_15 rfl (lv_at hl 0 rfl) ?_
    refine lv_iload_n hx hb dX7_daysOf_16 rfl (lv_at hl 1 rfl) ?_
    refine kc_i hw (va_runV (As := [.int a1]) (rest := [.ref (gA g (jM 24))]) ⟨hx, hb, hml, hc.2.2.1, hc.2.2.2⟩ (m_X7_leading l g S M o a1 _ _ hN hi) (kw_V hc 1 q1144 q1146 qs60 q8 q1147 rfl rfl (by decide +kernel) ⟨Nat.le_of_ble_eq_true rfl, Nat.le_of_ble_eq_true rfl⟩) (kp_V hk hw at_M rfl) rfl rfl hl.1 rfl (lv_room (Nat.le_of_ble_eq_true rfl)) dX7_daysOf_17 ⟨Nat.le_of_ble_eq_true rfl, Nat.le_of_ble_eq_true rfl⟩) (fun H locs hw => ?_)
    refine k_iald (f := M 24) (n := ((f_X7_leading a1 M).toNatClampNeg)) hc hk hw (at_Mk (k := 24) (t := 0) (n := 20) (by decide) (by decide) (by decide) (by decide)) (leading_in hN hi) rfl dX7_daysOf_20 ?_
    refine lv_goto (tgt := 28) hx hb dX7_daysOf_21 (by decide) ?_
    refine lv_istore_n (lv' := [(2, .int (M 24 ((f_X7_leading a1 M).toNatClampNeg))), (0, .ref (gA g (jM 0))), (1, .int a1)]) hx hb dX7_daysOf_28 rfl hl (by decide) rfl (fun ls hl => ?_)
    refine lv_iload_n hx hb dX7_daysOf_29 rfl (lv_at hl 0 rfl) ?_
    refine lv_aload_n hx hb dX7_daysOf_30 rfl (lv_at hl 1 rfl) ?_
    refine k_get hc hk hw at_M rfl iX7 13 (by decide) q1048 (v := .ref (gA g (jM 10))) rfl dX7_daysOf_31 ?_
    refine lv_iload_n hx hb dX7_daysOf_34 rfl (lv_at hl 2 rfl) ?_
    refine k_iald (f := M 10) (n := a1.toNatClampNeg) hc hk hw (at_Mk (k := 10) (t := 0) (n := 20) (by decide) (by decide) (by decide) (by decide)) hi rfl dX7_daysOf_35 ?_
    refine lv_isub hx hb dX7_daysOf_36 ?_
    refine lv_aload_n hx hb dX7_daysOf_37 rfl (lv_at hl 1 rfl) ?_
    refine k_get hc hk hw at_M rfl iX7 28 (by decide) q1063 (v := .ref (gA g (jM 25))) rfl dX7_daysOf_38 ?_
    refine lv_iload_n hx hb dX7_daysOf_41 rfl (lv_at hl 2 rfl) ?_
    refine k_iald (f := M 25) (n := a1.toNatClampNeg) hc hk hw (at_Mk (k := 25) (t := 0) (n := 20) (by decide) (by decide) (by decide) (by decide)) hi rfl dX7_daysOf_42 ?_
    refine lv_isub hx hb dX7_daysOf_43 ?_
    exact W.iret (v := ((M 24 ((f_X7_leading a1 M).toNatClampNeg)) - (M 10 a1.toNatClampNeg)) - (M 25 a1.toNatClampNeg)) hx hb hr (fun t9 ht hW => ke_i hw ht (by simp only [f_X7_daysOf, if_neg h1]) rfl) hw.2.2.2 dX7_daysOf_44
def f_X7_days (a1 : Int32) (M : BT) : Int32 × BT :=
  (if (f_X7_noComplaint a1 M).1 = 0 then (f_X7_daysOf a1 ((f_X7_noComplaint a1 M).2), (f_X7_noComplaint a1 M).2) else (0, (f_X7_noComplaint a1 M).2))
theorem cn_X7_days {a1 : Int32} {M : BT} {n m9 : Nat} (hN : MN M n m9) : MN ((f_X7_days a1 M).2) n m9 := by
  unfold f_X7_days
  by_cases h1 : (f_X7_noComplaint a1 M).1 = 0
  · simp only [if_pos h1]
    exact (cn_X7_noComplaint hN)
  · simp only [if_neg h1]
    exact (cn_X7_noComplaint hN)
set_option maxHeartbeats 4000000 in
set_option maxRecDepth 100000 in
theorem m_X7_days (l : Launch) (g : wG) (S : Nat → BT) (M : BT) (o : (Nat → Int64) × (Nat → UInt64)) (a1 : Int32) (n m9 : Nat) (hN : MN M n m9) : mI l yX7_days cX7_days 2 (some .int) ({ frames := 4, cells := 0, slots := 0, locals := 85 } : Room) 0 0 g (xM S M o) [.ref (gA g (jM 0)), .int a1] ((f_X7_days a1 M).1) (xM S ((f_X7_days a1 M).2) o) := by
  refine Met.ofW (cc := cX7_days) (maxL := 2) (ret := some .int) (by decide) rfl ?_
  intro p9 e s m args below meth c s₁ BL hml hv
  obtain ⟨rfl, hk, hPB⟩ := hv
  have hx := BL.exec
  have hb := BL.bytes
  have hc : CX p9 c cX7_days s _ m RX7 := ⟨hx, hb, findClass_of_methodNamed BL.named, fun w h => atoms_spec BL.pre w (List.mem_cons_of_mem _ h)⟩
  have hr := BL.returns
  have hlocks := BL.notSynchronized
  have hw : WS g s (xM S M o) s.heap [] := ⟨hPB, va_S.rf⟩
  have hl := lv_entry ([.ref (gA g (jM 0)), .int a1]) (n := 2) (Nat.le_of_ble_eq_true rfl)
  rw [lg_entry_eq]
  generalize (lg_sl ([.ref (gA g (jM 0)), .int a1]) ++ List.replicate (2 - (lg_sl ([.ref (gA g (jM 0)), .int a1])).length) Slot.unset).toArray = ls at hl ⊢
  have hl : lv_has ls 2 [(0, .ref (gA g (jM 0))), (1, .int a1)] := hl
  refine lv_aload_n hx hb dX7_days_0 rfl (lv_at hl 0 rfl) ?_
  refine lv_iload_n hx hb dX7_days_1 rfl (lv_at hl 1 rfl) ?_
  refine kc_i hw (va_runV (As := [.int a1]) (rest := []) ⟨hx, hb, hml, hc.2.2.1, hc.2.2.2⟩ (m_X7_noComplaint l g S M o a1 _ _ hN) (kw_V hc 1 q1172 q1174 qs64 q8 q1175 rfl rfl (by decide +kernel) ⟨Nat.le_of_ble_eq_true rfl, Nat.le_of_ble_eq_true rfl⟩) (kp_V hk hw at_M rfl) rfl rfl hl.1 rfl (lv_room (Nat.le_of_ble_eq_true rfl)) dX7_days_2 ⟨Nat.le_of_ble_eq_true rfl, Nat.le_of_ble_eq_true rfl⟩) (fun H locs hw => ?_)
  refine lv_if_eq (tgt := 12) hx hb dX7_days_5 (by decide) (fun h1 => ?_) (fun h1 => ?_)
  · refine lv_aload_n hx hb dX7_days_12 rfl (lv_at hl 0 rfl) ?_
    refine lv_iload_n hx hb dX7_days_13 rfl (lv_at hl 1 rfl) ?_
    refine kc_i hw (va_runV (As := [.int a1]) (rest := []) ⟨hx, hb, hml, hc.2.2.1, hc.2.2.2⟩ (m_X7_daysOf l g S ((f_X7_noComplaint a1 M).2) o a1 _ _ (cn_X7_noComplaint hN) (noComplaint_in hN h1)) (kw_V hc 1 q1310 q1312 qs70 q8 q1313 rfl rfl (by decide +kernel) ⟨Nat.le_of_ble_eq_true rfl, Nat.le_of_ble_eq_true rfl⟩) (kp_V hk hw at_M rfl) rfl rfl hl.1 rfl (lv_room (Nat.le_of_ble_eq_true rfl)) dX7_days_14 ⟨Nat.le_of_ble_eq_true rfl, Nat.le_of_ble_eq_true rfl⟩) (fun H locs hw => ?_)
    exact W.iret (v := f_X7_daysOf a1 ((f_X7_noComplaint a1 M).2)) hx hb hr (fun t9 ht hW => ke_i hw ht (by simp only [f_X7_days, if_pos h1]) (by simp only [f_X7_days, if_pos h1])) hw.2.2.2 dX7_days_17
  · refine lv_iconst (v := 0) hx hb dX7_days_8 (by decide) ?_
    refine lv_goto (tgt := 17) hx hb dX7_days_9 (by decide) ?_
    exact W.iret (v := 0) hx hb hr (fun t9 ht hW => ke_i hw ht (by simp only [f_X7_days, if_neg h1]) (by simp only [f_X7_days, if_neg h1])) hw.2.2.2 dX7_days_17
def f_X7_heededShare (a1 : Int32) (M : BT) : UInt32 × BT :=
  (if f_X7_isOffice a1 M = 0 then (FP.fconst0, up2 M 0 0 1) else (if M 3 ((a1).toNatClampNeg) = 0 then (FP.fconst0, up2 M 0 0 2) else (FP.fdiv (FP.i2f (M 4 ((a1).toNatClampNeg))) (FP.i2f (M 3 ((a1).toNatClampNeg))), up2 M 0 0 0)))
theorem cn_X7_heededShare {a1 : Int32} {M : BT} {n m9 : Nat} (hN : MN M n m9) : MN ((f_X7_heededShare a1 M).2) n m9 := by
  unfold f_X7_heededShare
  by_cases h1 : f_X7_isOffice a1 M = 0
  · simp only [if_pos h1]
    exact (MN.up0 (by decide) (by decide) hN)
  · simp only [if_neg h1]
    by_cases h2 : M 3 ((a1).toNatClampNeg) = 0
    · simp only [if_pos h2]
      exact (MN.up0 (by decide) (by decide) hN)
    · simp only [if_neg h2]
      exact (MN.up0 (by decide) (by decide) hN)
set_option maxHeartbeats 4000000 in
set_option maxRecDepth 100000 in
theorem m_X7_heededShare (l : Launch) (g : wG) (S : Nat → BT) (M : BT) (o : (Nat → Int64) × (Nat → UInt64)) (a1 : Int32) (n m9 : Nat) (hN : MN M n m9) : mF l yX7_heededShare cX7_heededShare 2 (some .float) ({ frames := 2, cells := 0, slots := 0, locals := 43 } : Room) 0 0 g (xM S M o) [.ref (gA g (jM 0)), .int a1] ((f_X7_heededShare a1 M).1) (xM S ((f_X7_heededShare a1 M).2) o) := by
  refine Met.ofW (cc := cX7_heededShare) (maxL := 2) (ret := some .float) (by decide) rfl ?_
  intro p9 e s m args below meth c s₁ BL hml hv
  obtain ⟨rfl, hk, hPB⟩ := hv
  have hx := BL.exec
  have hb := BL.bytes
  have hc : CX p9 c cX7_heededShare s _ m RX7 := ⟨hx, hb, findClass_of_methodNamed BL.named, fun w h => atoms_spec BL.pre w (List.mem_cons_of_mem _ h)⟩
  have hr := BL.returns
  have hlocks := BL.notSynchronized
  have hw : WS g s (xM S M o) s.heap [] := ⟨hPB, va_S.rf⟩
  have hl := lv_entry ([.ref (gA g (jM 0)), .int a1]) (n := 2) (Nat.le_of_ble_eq_true rfl)
  rw [lg_entry_eq]
  generalize (lg_sl ([.ref (gA g (jM 0)), .int a1]) ++ List.replicate (2 - (lg_sl ([.ref (gA g (jM 0)), .int a1])).length) Slot.unset).toArray = ls at hl ⊢
  have hl : lv_has ls 2 [(0, .ref (gA g (jM 0))), (1, .int a1)] := hl
  refine lv_aload_n hx hb dX7_heededShare_0 rfl (lv_at hl 0 rfl) ?_
  refine lv_iload_n hx hb dX7_heededShare_1 rfl (lv_at hl 1 rfl) ?_
  refine kc_i hw (va_runV (As := [.int a1]) (rest := []) ⟨hx, hb, hml, hc.2.2.1, hc.2.2.2⟩ (m_X7_isOffice l g S M o a1 _ _ hN) (kw_V hc 1 q1160 q1162 qs62 q8 q1163 rfl rfl (by decide +kernel) ⟨Nat.le_of_ble_eq_true rfl, Nat.le_of_ble_eq_true rfl⟩) (kp_V hk hw at_M rfl) rfl rfl hl.1 rfl (lv_room (Nat.le_of_ble_eq_true rfl)) dX7_heededShare_2 ⟨Nat.le_of_ble_eq_true rfl, Nat.le_of_ble_eq_true rfl⟩) (fun H locs hw => ?_)
  refine lv_if_ne (tgt := 15) hx hb dX7_heededShare_5 (by decide) (fun h1 => ?_) (fun h1 => ?_)
  · refine lv_aload_n hx hb dX7_heededShare_15 rfl (lv_at hl 0 rfl) ?_
    refine lv_aload_n hx hb dX7_heededShare_16 rfl (lv_at hl 0 rfl) ?_
    refine k_get hc hk hw at_M rfl iX7 6 (by decide) q1041 (v := .ref (gA g (jM 3))) rfl dX7_heededShare_17 ?_
    refine lv_iload_n hx hb dX7_heededShare_20 rfl (lv_at hl 1 rfl) ?_
    refine k_iald (f := M 3) (n := ((a1).toNatClampNeg)) hc hk hw (at_Mk (k := 3) (t := 0) (n := 6) (by decide) (by decide) (by decide) (by decide)) (isOffice_in hN h1) rfl dX7_heededShare_21 ?_
    refine lv_if_ne (tgt := 29) hx hb dX7_heededShare_22 (by decide) (fun h2 => ?_) (fun h2 => ?_)
    · refine lv_iconst (v := 0) hx hb dX7_heededShare_29 (by decide) ?_
      refine k_put hc hk hw (x' := (xM S (up2 M 0 0 0) o)) at_M rfl iX7 tyX7 tyX7_ok nmX7 0 (by decide) q1035 rfl rfl rfl (Nat.le_of_ble_eq_true rfl) dX7_heededShare_30 (ms_0 (by decide)) (fun H locs hw => ?_)
      refine lv_aload_n hx hb dX7_heededShare_33 rfl (lv_at hl 0 rfl) ?_
      refine k_get hc hk hw at_M rfl iX7 0 (by decide) q1035 (v := .int 0) rfl dX7_heededShare_34 ?_
      refine lv_if_le (tgt := 44) hx hb dX7_heededShare_37 (by decide) (fun _ => ?_) (fun h3 => absurd h3 (by decide))
      refine lv_aload_n hx hb dX7_heededShare_44 rfl (lv_at hl 0 rfl) ?_
      refine k_get hc hk hw at_M rfl iX7 7 (by decide) q1042 (v := .ref (gA g (jM 4))) rfl dX7_heededShare_45 ?_
      refine lv_iload_n hx hb dX7_heededShare_48 rfl (lv_at hl 1 rfl) ?_
      refine k_iald (f := M 4) (n := ((a1).toNatClampNeg)) hc hk hw (at_Mk (k := 4) (t := 0) (n := 6) (by decide) (by decide) (by decide) (by decide)) (isOffice_in hN h1) rfl dX7_heededShare_49 ?_
      refine lv_i2f hx hb dX7_heededShare_50 ?_
      refine lv_aload_n hx hb dX7_heededShare_51 rfl (lv_at hl 0 rfl) ?_
      refine k_get hc hk hw at_M rfl iX7 6 (by decide) q1041 (v := .ref (gA g (jM 3))) rfl dX7_heededShare_52 ?_
      refine lv_iload_n hx hb dX7_heededShare_55 rfl (lv_at hl 1 rfl) ?_
      refine k_iald (f := M 3) (n := ((a1).toNatClampNeg)) hc hk hw (at_Mk (k := 3) (t := 0) (n := 6) (by decide) (by decide) (by decide) (by decide)) (isOffice_in hN h1) rfl dX7_heededShare_56 ?_
      refine lv_i2f hx hb dX7_heededShare_57 ?_
      refine lv_fdiv hx hb dX7_heededShare_58 (fp_fdiv h2) ?_
      exact W.fret (v := FP.fdiv (FP.i2f (M 4 ((a1).toNatClampNeg))) (FP.i2f (M 3 ((a1).toNatClampNeg)))) hx hb hr (fun t9 ht hW => ke_f hw ht (by simp only [f_X7_heededShare, if_neg h1, if_neg h2]) (by simp only [f_X7_heededShare, if_neg h1, if_neg h2])) hw.2.2.2 dX7_heededShare_59
    · refine lv_iconst (v := 2) hx hb dX7_heededShare_25 (by decide) ?_
      refine lv_goto (tgt := 30) hx hb dX7_heededShare_26 (by decide) ?_
      refine k_put hc hk hw (x' := (xM S (up2 M 0 0 2) o)) at_M rfl iX7 tyX7 tyX7_ok nmX7 0 (by decide) q1035 rfl rfl rfl (Nat.le_of_ble_eq_true rfl) dX7_heededShare_30 (ms_0 (by decide)) (fun H locs hw => ?_)
      refine lv_aload_n hx hb dX7_heededShare_33 rfl (lv_at hl 0 rfl) ?_
      refine k_get hc hk hw at_M rfl iX7 0 (by decide) q1035 (v := .int 2) rfl dX7_heededShare_34 ?_
      refine lv_if_le (tgt := 44) hx hb dX7_heededShare_37 (by decide) (fun h4 => absurd h4 (by decide)) (fun _ => ?_)
      refine lv_fconst0 hx hb dX7_heededShare_40 ?_
      refine lv_goto (tgt := 59) hx hb dX7_heededShare_41 (by decide) ?_
      exact W.fret (v := FP.fconst0) hx hb hr (fun t9 ht hW => ke_f hw ht (by simp only [f_X7_heededShare, if_neg h1, if_pos h2]) (by simp only [f_X7_heededShare, if_neg h1, if_pos h2])) hw.2.2.2 dX7_heededShare_59
  · refine lv_aload_n hx hb dX7_heededShare_8 rfl (lv_at hl 0 rfl) ?_
    refine lv_iconst (v := 1) hx hb dX7_heededShare_9 (by decide) ?_
    refine k_put hc hk hw (x' := (xM S (up2 M 0 0 1) o)) at_M rfl iX7 tyX7 tyX7_ok nmX7 0 (by decide) q1035 rfl rfl rfl (Nat.le_of_ble_eq_true rfl) dX7_heededShare_10 (ms_0 (by decide)) (fun H locs hw => ?_)
    refine lv_fconst0 hx hb dX7_heededShare_13 ?_
    exact W.fret (v := FP.fconst0) hx hb hr (fun t9 ht hW => ke_f hw ht (by simp only [f_X7_heededShare, if_pos h1]) (by simp only [f_X7_heededShare, if_pos h1])) hw.2.2.2 dX7_heededShare_14
def b_meanDays7 (M : BT) (k : Nat) (z : Int32 × Int32) : Int32 × Int32 :=
  (if f_X7_isClosed (f_X7_standing (nI k) M) = 0 then (z.1, z.2) else (z.1 + (f_X7_daysOf (nI k) M), z.2 + 1))
def L_meanDays7 (M : BT) : Nat → Int32 × Int32
  | 0 => (0, 0)
  | k + 1 => b_meanDays7 M k (L_meanDays7 M k)
def f_X7_meanDays  (M : BT) : UInt64 × BT :=
  (if (L_meanDays7 M ((M 0 3).toNatClampNeg)).2 = 0 then (FP.dconst0, up2 M 0 0 1) else (FP.ddiv (FP.i2d ((L_meanDays7 M ((M 0 3).toNatClampNeg)).1)) (FP.i2d ((L_meanDays7 M ((M 0 3).toNatClampNeg)).2)), up2 M 0 0 0))
theorem cn_X7_meanDays  {M : BT} {n m9 : Nat} (hN : MN M n m9) : MN ((f_X7_meanDays M).2) n m9 := by
  unfold f_X7_meanDays
  by_cases h5 : (L_meanDays7 M ((M 0 3).toNatClampNeg)).2 = 0
  · simp only [if_pos h5]
    exact (MN.up0 (by decide) (by decide) hN)
  · simp only [if_neg h5]
    exact (MN.up0 (by decide) (by decide) hN)
set_option maxHeartbeats 4000000 in
set_option maxRecDepth 100000 in
theorem m_X7_meanDays (l : Launch) (g : wG) (S : Nat → BT) (M : BT) (o : (Nat → Int64) × (Nat → UInt64)) (n m9 : Nat) (hN : MN M n m9) : mD l yX7_meanDays cX7_meanDays 4 (some .double) ({ frames := 4, cells := 0, slots := 0, locals := 85 } : Room) 0 0 g (xM S M o) [.ref (gA g (jM 0))] ((f_X7_meanDays M).1) (xM S ((f_X7_meanDays M).2) o) := by
  refine Met.ofW (cc := cX7_meanDays) (maxL := 4) (ret := some .double) (by decide) rfl ?_
  intro p9 e s m args below meth c s₁ BL hml hv
  obtain ⟨rfl, hk, hPB⟩ := hv
  have hx := BL.exec
  have hb := BL.bytes
  have hc : CX p9 c cX7_meanDays s _ m RX7 := ⟨hx, hb, findClass_of_methodNamed BL.named, fun w h => atoms_spec BL.pre w (List.mem_cons_of_mem _ h)⟩
  have hr := BL.returns
  have hlocks := BL.notSynchronized
  have hw : WS g s (xM S M o) s.heap [] := ⟨hPB, va_S.rf⟩
  have hl := lv_entry ([.ref (gA g (jM 0))]) (n := 4) (Nat.le_of_ble_eq_true rfl)
  rw [lg_entry_eq]
  generalize (lg_sl ([.ref (gA g (jM 0))]) ++ List.replicate (4 - (lg_sl ([.ref (gA g (jM 0))])).length) Slot.unset).toArray = ls at hl ⊢
  have hl : lv_has ls 4 [(0, .ref (gA g (jM 0)))] := hl
  refine lv_iconst (v := 0) hx hb dX7_meanDays_0 (by decide) ?_
  refine lv_istore_n (lv' := [(1, .int 0), (0, .ref (gA g (jM 0)))]) hx hb dX7_meanDays_1 rfl hl (by decide) rfl (fun ls hl => ?_)
  refine lv_iconst (v := 0) hx hb dX7_meanDays_2 (by decide) ?_
  refine lv_istore_n (lv' := [(2, .int 0), (1, .int 0), (0, .ref (gA g (jM 0)))]) hx hb dX7_meanDays_3 rfl hl (by decide) rfl (fun ls hl => ?_)
  refine lv_iconst (v := 0) hx hb dX7_meanDays_4 (by decide) ?_
  refine lv_istore_n (lv' := [(3, .int 0), (2, .int 0), (1, .int 0), (0, .ref (gA g (jM 0)))]) hx hb dX7_meanDays_5 rfl hl (by decide) rfl (fun ls hl => ?_)
  have LP1 : ∀ (f k : Nat), k ≤ (M 0 3).toNatClampNeg → (M 0 3).toNatClampNeg + 1 ≤ k + f → ∀ (H : Heap) (locs : List Loc), WS g s (xM S M o) H locs → ∀ (ls : Array Slot), lv_has ls 4 [(3, .int (nI k)), (2, .int ((L_meanDays7 M k).2)), (1, .int ((L_meanDays7 M k).1)), (0, .ref (gA g (jM 0)))] → W p9 l e ({ frames := 4, cells := 0, slots := 0, locals := 85 } : Room) s m ([.ref (gA g (jM 0))] : List Value).toArray below meth c H locs 0 0 (MQ below (va_Qd (fun (v : UInt64) (u : wSt) => v = (f_X7_meanDays M).1 ∧ u = (xM S ((f_X7_meanDays M).2) o)) (PB g) (AA g)) (([.ref (gA g (jM 0))] : List Value).toArray) s 0 0 (AA g)) (F0 m 6 ls []) := by
    intro f
    induction f with
    | zero => intro k h1 h2; exact absurd h2 (by omega)
    | succ f ih =>
      intro k hk9 hf9 H locs hw ls hl
      have hl4 := MN.l4 hN
      refine lv_iload_n hx hb dX7_meanDays_6 rfl (lv_at hl 0 rfl) ?_
      refine lv_aload_n hx hb dX7_meanDays_7 rfl (lv_at hl 3 rfl) ?_
      refine k_get hc hk hw at_M rfl iX7 3 (by decide) q1038 (v := .int (M 0 3)) rfl dX7_meanDays_8 ?_
      refine lv_icmp_ge (tgt := 42) hx hb dX7_meanDays_11 (by decide) (fun h2 => ?_) (fun h2 => ?_)
      · have hkn := lp_out h2 (MN.cc hN hN) hk9 (by omega)
        subst hkn
        refine lv_aload_n hx hb dX7_meanDays_42 rfl (lv_at hl 3 rfl) ?_
        refine lv_iload_n hx hb dX7_meanDays_43 rfl (lv_at hl 1 rfl) ?_
        refine lv_if_ne (tgt := 51) hx hb dX7_meanDays_44 (by decide) (fun h3 => ?_) (fun h3 => ?_)
        · refine lv_iconst (v := 0) hx hb dX7_meanDays_51 (by decide) ?_
          refine k_put hc hk hw (x' := (xM S (up2 M 0 0 0) o)) at_M rfl iX7 tyX7 tyX7_ok nmX7 0 (by decide) q1035 rfl rfl rfl (Nat.le_of_ble_eq_true rfl) dX7_meanDays_52 (ms_0 (by decide)) (fun H locs hw => ?_)
          refine lv_aload_n hx hb dX7_meanDays_55 rfl (lv_at hl 3 rfl) ?_
          refine k_get hc hk hw at_M rfl iX7 0 (by decide) q1035 (v := .int 0) rfl dX7_meanDays_56 ?_
          refine lv_if_le (tgt := 66) hx hb dX7_meanDays_59 (by decide) (fun _ => ?_) (fun h4 => absurd h4 (by decide))
          refine lv_iload_n hx hb dX7_meanDays_66 rfl (lv_at hl 2 rfl) ?_
          refine lv_i2d hx hb dX7_meanDays_67 ?_
          refine lv_iload_n hx hb dX7_meanDays_68 rfl (lv_at hl 1 rfl) ?_
          refine lv_i2d hx hb dX7_meanDays_69 ?_
          refine lv_ddiv hx hb dX7_meanDays_70 (fp_ddiv h3) ?_
          exact W.dret (v := FP.ddiv (FP.i2d ((L_meanDays7 M ((M 0 3).toNatClampNeg)).1)) (FP.i2d ((L_meanDays7 M ((M 0 3).toNatClampNeg)).2))) hx hb hr (fun t9 ht hW => ke_d hw ht (by simp only [f_X7_meanDays, if_neg h3]) (by simp only [f_X7_meanDays, if_neg h3])) hw.2.2.2 dX7_meanDays_71
        · refine lv_iconst (v := 1) hx hb dX7_meanDays_47 (by decide) ?_
          refine lv_goto (tgt := 52) hx hb dX7_meanDays_48 (by decide) ?_
          refine k_put hc hk hw (x' := (xM S (up2 M 0 0 1) o)) at_M rfl iX7 tyX7 tyX7_ok nmX7 0 (by decide) q1035 rfl rfl rfl (Nat.le_of_ble_eq_true rfl) dX7_meanDays_52 (ms_0 (by decide)) (fun H locs hw => ?_)
          refine lv_aload_n hx hb dX7_meanDays_55 rfl (lv_at hl 3 rfl) ?_
          refine k_get hc hk hw at_M rfl iX7 0 (by decide) q1035 (v := .int 1) rfl dX7_meanDays_56 ?_
          refine lv_if_le (tgt := 66) hx hb dX7_meanDays_59 (by decide) (fun h5 => absurd h5 (by decide)) (fun _ => ?_)
          refine lv_dconst0 hx hb dX7_meanDays_62 ?_
          refine lv_goto (tgt := 71) hx hb dX7_meanDays_63 (by decide) ?_
          exact W.dret (v := FP.dconst0) hx hb hr (fun t9 ht hW => ke_d hw ht (by simp only [f_X7_meanDays, if_pos h3]) (by simp only [f_X7_meanDays, if_pos h3])) hw.2.2.2 dX7_meanDays_71
      · have hkn := lp_in h2 (MN.cc hN hN) hk9 (by omega)
        refine lv_aload_n hx hb dX7_meanDays_14 rfl (lv_at hl 3 rfl) ?_
        refine lv_iload_n hx hb dX7_meanDays_15 rfl (lv_at hl 0 rfl) ?_
        refine kc_i hw (va_runV (As := [.int (nI k)]) (rest := []) ⟨hx, hb, hml, hc.2.2.1, hc.2.2.2⟩ (m_X7_standing l g S M o (nI k) _ _ hN (vp_in_nI (Nat.lt_of_lt_of_le hkn (by omega)) (by omega))) (kw_V hc 1 q1140 q1142 qs59 q8 q1143 rfl rfl (by decide +kernel) ⟨Nat.le_of_ble_eq_true rfl, Nat.le_of_ble_eq_true rfl⟩) (kp_V hk hw at_M rfl) rfl rfl hl.1 rfl (lv_room (Nat.le_of_ble_eq_true rfl)) dX7_meanDays_16 ⟨Nat.le_of_ble_eq_true rfl, Nat.le_of_ble_eq_true rfl⟩) (fun H locs hw => ?_)
        refine kc_i hw (va_runS (As := [.int (f_X7_standing (nI k) M)]) (rest := []) ⟨hx, hb, hml, hc.2.2.1, hc.2.2.2⟩ (m_X7_isClosed l g S M o (f_X7_standing (nI k) M)) (kw_S hc 1 q1192 q1193 q8 q1194 rfl rfl (by decide +kernel) ⟨Nat.le_of_ble_eq_true rfl, Nat.le_of_ble_eq_true rfl⟩) (kp_S hk hw) rfl rfl hl.1 rfl (lv_room (Nat.le_of_ble_eq_true rfl)) dX7_meanDays_19 ⟨Nat.le_of_ble_eq_true rfl, Nat.le_of_ble_eq_true rfl⟩) (fun H locs hw => ?_)
        refine lv_if_eq (tgt := 36) hx hb dX7_meanDays_22 (by decide) (fun h6 => ?_) (fun h6 => ?_)
        · refine lv_iinc (v := nI (k + 1)) (lv' := [(3, .int (nI (k + 1))), (2, .int ((L_meanDays7 M k).2)), (1, .int ((L_meanDays7 M k).1)), (0, .ref (gA g (jM 0)))]) hx hb dX7_meanDays_36 hl (k := 0) rfl (by first | exact (nI_succ _).symm | rfl) (by decide) rfl (fun ls hl => ?_)
          refine lv_goto (tgt := 6) hx hb dX7_meanDays_39 (by decide) ?_
          have hw9 : WS g s (xM S M o) H locs := by
            exact hw
          have hl9 := lv_sub hl [0, 1, 2, 3] rfl
          have e8 : (L_meanDays7 M k).2 = (L_meanDays7 M (k + 1)).2 := by simp only [L_meanDays7, b_meanDays7, if_pos h6]
          rw [e8] at hl9
          have e8 : (L_meanDays7 M k).1 = (L_meanDays7 M (k + 1)).1 := by simp only [L_meanDays7, b_meanDays7, if_pos h6]
          rw [e8] at hl9
          exact ih (k + 1) (by omega) (by omega) _ _ hw9 _ hl9
        · refine lv_iload_n hx hb dX7_meanDays_25 rfl (lv_at hl 2 rfl) ?_
          refine lv_aload_n hx hb dX7_meanDays_26 rfl (lv_at hl 3 rfl) ?_
          refine lv_iload_n hx hb dX7_meanDays_27 rfl (lv_at hl 0 rfl) ?_
          refine kc_i hw (va_runV (As := [.int (nI k)]) (rest := [.int ((L_meanDays7 M k).1)]) ⟨hx, hb, hml, hc.2.2.1, hc.2.2.2⟩ (m_X7_daysOf l g S M o (nI k) _ _ hN (vp_in_nI (Nat.lt_of_lt_of_le hkn (by omega)) (by omega))) (kw_V hc 1 q1310 q1312 qs70 q8 q1313 rfl rfl (by decide +kernel) ⟨Nat.le_of_ble_eq_true rfl, Nat.le_of_ble_eq_true rfl⟩) (kp_V hk hw at_M rfl) rfl rfl hl.1 rfl (lv_room (Nat.le_of_ble_eq_true rfl)) dX7_meanDays_28 ⟨Nat.le_of_ble_eq_true rfl, Nat.le_of_ble_eq_true rfl⟩) (fun H locs hw => ?_)
          refine lv_iadd hx hb dX7_meanDays_31 ?_
          refine lv_istore_n (lv' := [(1, .int (((L_meanDays7 M k).1) + (f_X7_daysOf (nI k) M))), (3, .int (nI k)), (2, .int ((L_meanDays7 M k).2)), (0, .ref (gA g (jM 0)))]) hx hb dX7_meanDays_32 rfl hl (by decide) rfl (fun ls hl => ?_)
          refine lv_iinc (v := ((L_meanDays7 M k).2) + 1) (lv' := [(2, .int (((L_meanDays7 M k).2) + 1)), (1, .int (((L_meanDays7 M k).1) + (f_X7_daysOf (nI k) M))), (3, .int (nI k)), (0, .ref (gA g (jM 0)))]) hx hb dX7_meanDays_33 hl (k := 2) rfl rfl (by decide) rfl (fun ls hl => ?_)
          refine lv_iinc (v := nI (k + 1)) (lv' := [(3, .int (nI (k + 1))), (2, .int (((L_meanDays7 M k).2) + 1)), (1, .int (((L_meanDays7 M k).1) + (f_X7_daysOf (nI k) M))), (0, .ref (gA g (jM 0)))]) hx hb dX7_meanDays_36 hl (k := 2) rfl (by first | exact (nI_succ _).symm | rfl) (by decide) rfl (fun ls hl => ?_)
          refine lv_goto (tgt := 6) hx hb dX7_meanDays_39 (by decide) ?_
          have hw9 : WS g s (xM S M o) H locs := by
            exact hw
          have hl9 := lv_sub hl [0, 1, 2, 3] rfl
          have e8 : ((L_meanDays7 M k).2) + 1 = (L_meanDays7 M (k + 1)).2 := by simp only [L_meanDays7, b_meanDays7, if_neg h6]
          rw [e8] at hl9
          have e8 : ((L_meanDays7 M k).1) + (f_X7_daysOf (nI k) M) = (L_meanDays7 M (k + 1)).1 := by simp only [L_meanDays7, b_meanDays7, if_neg h6]
          rw [e8] at hl9
          exact ih (k + 1) (by omega) (by omega) _ _ hw9 _ hl9
  exact LP1 ((M 0 3).toNatClampNeg + 1) 0 (Nat.zero_le _) (by omega) _ _ hw _ (lv_sub hl [0, 1, 2, 3] rfl)
def b_checksum7 (M : BT) (k : Nat) (z : Int64) : Int64 :=
  (31 * ((31 * z) + ((f_X7_standing (nI k) (up2 M 0 0 0)).toInt64))) + ((f_X7_daysOf (nI k) (up2 M 0 0 0)).toInt64)
def L_checksum7 (M : BT) : Nat → Int64
  | 0 => 7
  | k + 1 => b_checksum7 M k (L_checksum7 M k)
def f_X7_checksum  (M : BT) : Int64 × BT :=
  ((31 * (L_checksum7 M ((M 0 3).toNatClampNeg))) + ((M 0 1).toInt64), up2 M 0 0 0)
theorem cn_X7_checksum  {M : BT} {n m9 : Nat} (hN : MN M n m9) : MN ((f_X7_checksum M).2) n m9 := by
  unfold f_X7_checksum
  exact (MN.up0 (by decide) (by decide) hN)
set_option maxHeartbeats 4000000 in
set_option maxRecDepth 100000 in
theorem m_X7_checksum (l : Launch) (g : wG) (S : Nat → BT) (M : BT) (o : (Nat → Int64) × (Nat → UInt64)) (n m9 : Nat) (hN : MN M n m9) : mL l yX7_checksum cX7_checksum 4 (some .long) ({ frames := 4, cells := 0, slots := 0, locals := 85 } : Room) 0 0 g (xM S M o) [.ref (gA g (jM 0))] ((f_X7_checksum M).1) (xM S ((f_X7_checksum M).2) o) := by
  refine Met.ofW (cc := cX7_checksum) (maxL := 4) (ret := some .long) (by decide) rfl ?_
  intro p9 e s m args below meth c s₁ BL hml hv
  obtain ⟨rfl, hk, hPB⟩ := hv
  have hx := BL.exec
  have hb := BL.bytes
  have hc : CX p9 c cX7_checksum s _ m RX7 := ⟨hx, hb, findClass_of_methodNamed BL.named, fun w h => atoms_spec BL.pre w (List.mem_cons_of_mem _ h)⟩
  have hr := BL.returns
  have hlocks := BL.notSynchronized
  have hw : WS g s (xM S M o) s.heap [] := ⟨hPB, va_S.rf⟩
  have hl := lv_entry ([.ref (gA g (jM 0))]) (n := 4) (Nat.le_of_ble_eq_true rfl)
  rw [lg_entry_eq]
  generalize (lg_sl ([.ref (gA g (jM 0))]) ++ List.replicate (4 - (lg_sl ([.ref (gA g (jM 0))])).length) Slot.unset).toArray = ls at hl ⊢
  have hl : lv_has ls 4 [(0, .ref (gA g (jM 0)))] := hl
  refine lv_aload_n hx hb dX7_checksum_0 rfl (lv_at hl 0 rfl) ?_
  refine lv_iconst (v := 0) hx hb dX7_checksum_1 (by decide) ?_
  refine k_put hc hk hw (x' := (xM S (up2 M 0 0 0) o)) at_M rfl iX7 tyX7 tyX7_ok nmX7 0 (by decide) q1035 rfl rfl rfl (Nat.le_of_ble_eq_true rfl) dX7_checksum_2 (ms_0 (by decide)) (fun H locs hw => ?_)
  refine lv_ldc2 (v := 7) hx hb hc.2.2.1 (hc.2.2.2 _ q1326) dX7_checksum_5 ?_
  refine lv_lstore_n (lv' := [(1, .long 7), (0, .ref (gA g (jM 0)))]) hx hb dX7_checksum_8 rfl hl (by decide) rfl (fun ls hl => ?_)
  refine lv_iconst (v := 0) hx hb dX7_checksum_9 (by decide) ?_
  refine lv_istore_n (lv' := [(3, .int 0), (1, .long 7), (0, .ref (gA g (jM 0)))]) hx hb dX7_checksum_10 rfl hl (by decide) rfl (fun ls hl => ?_)
  have LP1 : ∀ (f k : Nat), k ≤ (M 0 3).toNatClampNeg → (M 0 3).toNatClampNeg + 1 ≤ k + f → ∀ (H : Heap) (locs : List Loc), WS g s (xM S (up2 M 0 0 0) o) H locs → ∀ (ls : Array Slot), lv_has ls 4 [(3, .int (nI k)), (1, .long (L_checksum7 M k)), (0, .ref (gA g (jM 0)))] → W p9 l e ({ frames := 4, cells := 0, slots := 0, locals := 85 } : Room) s m ([.ref (gA g (jM 0))] : List Value).toArray below meth c H locs 0 0 (MQ below (va_Ql (fun (v : Int64) (u : wSt) => v = (f_X7_checksum M).1 ∧ u = (xM S ((f_X7_checksum M).2) o)) (PB g) (AA g)) (([.ref (gA g (jM 0))] : List Value).toArray) s 0 0 (AA g)) (F0 m 11 ls []) := by
    intro f
    induction f with
    | zero => intro k h1 h2; exact absurd h2 (by omega)
    | succ f ih =>
      intro k hk9 hf9 H locs hw ls hl
      have hl4 := MN.l4 hN
      refine lv_iload_n hx hb dX7_checksum_11 rfl (lv_at hl 0 rfl) ?_
      refine lv_aload_n hx hb dX7_checksum_12 rfl (lv_at hl 2 rfl) ?_
      refine k_get hc hk hw at_M rfl iX7 3 (by decide) q1038 (v := .int (M 0 3)) rfl dX7_checksum_13 ?_
      refine lv_icmp_ge (tgt := 51) hx hb dX7_checksum_16 (by decide) (fun h2 => ?_) (fun h2 => ?_)
      · have hkn := lp_out h2 (MN.cc hN hN) hk9 (by omega)
        subst hkn
        refine lv_ldc2 (v := 31) hx hb hc.2.2.1 (hc.2.2.2 _ q1327) dX7_checksum_51 ?_
        refine lv_lload_n hx hb dX7_checksum_54 rfl (lv_at hl 1 rfl) ?_
        refine lv_lmul hx hb dX7_checksum_55 ?_
        refine lv_aload_n hx hb dX7_checksum_56 rfl (lv_at hl 2 rfl) ?_
        refine k_get hc hk hw at_M rfl iX7 1 (by decide) q1036 (v := .int (M 0 1)) rfl dX7_checksum_57 ?_
        refine lv_i2l hx hb dX7_checksum_60 rfl ?_
        refine lv_ladd hx hb dX7_checksum_61 ?_
        exact W.lret (v := (31 * (L_checksum7 M ((M 0 3).toNatClampNeg))) + ((M 0 1).toInt64)) hx hb hr (fun t9 ht hW => ke_l hw ht (by simp only [f_X7_checksum]) (by simp only [f_X7_checksum])) hw.2.2.2 dX7_checksum_62
      · have hkn := lp_in h2 (MN.cc hN hN) hk9 (by omega)
        refine lv_ldc2 (v := 31) hx hb hc.2.2.1 (hc.2.2.2 _ q1327) dX7_checksum_19 ?_
        refine lv_lload_n hx hb dX7_checksum_22 rfl (lv_at hl 1 rfl) ?_
        refine lv_lmul hx hb dX7_checksum_23 ?_
        refine lv_aload_n hx hb dX7_checksum_24 rfl (lv_at hl 2 rfl) ?_
        refine lv_iload_n hx hb dX7_checksum_25 rfl (lv_at hl 0 rfl) ?_
        refine kc_i hw (va_runV (As := [.int (nI k)]) (rest := [.long (31 * (L_checksum7 M k))]) ⟨hx, hb, hml, hc.2.2.1, hc.2.2.2⟩ (m_X7_standing l g S (up2 M 0 0 0) o (nI k) _ _ (MN.up0 (by decide) (by decide) hN) (vp_in_nI (Nat.lt_of_lt_of_le hkn (by omega)) (by omega))) (kw_V hc 1 q1140 q1142 qs59 q8 q1143 rfl rfl (by decide +kernel) ⟨Nat.le_of_ble_eq_true rfl, Nat.le_of_ble_eq_true rfl⟩) (kp_V hk hw at_M rfl) rfl rfl hl.1 rfl (lv_room (Nat.le_of_ble_eq_true rfl)) dX7_checksum_26 ⟨Nat.le_of_ble_eq_true rfl, Nat.le_of_ble_eq_true rfl⟩) (fun H locs hw => ?_)
        refine lv_i2l hx hb dX7_checksum_29 rfl ?_
        refine lv_ladd hx hb dX7_checksum_30 ?_
        refine lv_lstore_n (lv' := [(1, .long ((31 * (L_checksum7 M k)) + ((f_X7_standing (nI k) (up2 M 0 0 0)).toInt64))), (3, .int (nI k)), (0, .ref (gA g (jM 0)))]) hx hb dX7_checksum_31 rfl hl (by decide) rfl (fun ls hl => ?_)
        refine lv_ldc2 (v := 31) hx hb hc.2.2.1 (hc.2.2.2 _ q1327) dX7_checksum_32 ?_
        refine lv_lload_n hx hb dX7_checksum_35 rfl (lv_at hl 0 rfl) ?_
        refine lv_lmul hx hb dX7_checksum_36 ?_
        refine lv_aload_n hx hb dX7_checksum_37 rfl (lv_at hl 2 rfl) ?_
        refine lv_iload_n hx hb dX7_checksum_38 rfl (lv_at hl 1 rfl) ?_
        refine kc_i hw (va_runV (As := [.int (nI k)]) (rest := [.long (31 * ((31 * (L_checksum7 M k)) + ((f_X7_standing (nI k) (up2 M 0 0 0)).toInt64)))]) ⟨hx, hb, hml, hc.2.2.1, hc.2.2.2⟩ (m_X7_daysOf l g S (up2 M 0 0 0) o (nI k) _ _ (MN.up0 (by decide) (by decide) hN) (vp_in_nI (Nat.lt_of_lt_of_le hkn (by omega)) (by omega))) (kw_V hc 1 q1310 q1312 qs70 q8 q1313 rfl rfl (by decide +kernel) ⟨Nat.le_of_ble_eq_true rfl, Nat.le_of_ble_eq_true rfl⟩) (kp_V hk hw at_M rfl) rfl rfl hl.1 rfl (lv_room (Nat.le_of_ble_eq_true rfl)) dX7_checksum_39 ⟨Nat.le_of_ble_eq_true rfl, Nat.le_of_ble_eq_true rfl⟩) (fun H locs hw => ?_)
        refine lv_i2l hx hb dX7_checksum_42 rfl ?_
        refine lv_ladd hx hb dX7_checksum_43 ?_
        refine lv_lstore_n (lv' := [(1, .long ((31 * ((31 * (L_checksum7 M k)) + ((f_X7_standing (nI k) (up2 M 0 0 0)).toInt64))) + ((f_X7_daysOf (nI k) (up2 M 0 0 0)).toInt64))), (3, .int (nI k)), (0, .ref (gA g (jM 0)))]) hx hb dX7_checksum_44 rfl hl (by decide) rfl (fun ls hl => ?_)
        refine lv_iinc (v := nI (k + 1)) (lv' := [(3, .int (nI (k + 1))), (1, .long ((31 * ((31 * (L_checksum7 M k)) + ((f_X7_standing (nI k) (up2 M 0 0 0)).toInt64))) + ((f_X7_daysOf (nI k) (up2 M 0 0 0)).toInt64))), (0, .ref (gA g (jM 0)))]) hx hb dX7_checksum_45 hl (k := 1) rfl (by first | exact (nI_succ _).symm | rfl) (by decide) rfl (fun ls hl => ?_)
        refine lv_goto (tgt := 11) hx hb dX7_checksum_48 (by decide) ?_
        have hw9 : WS g s (xM S (up2 M 0 0 0) o) H locs := by
          exact hw
        have hl9 := lv_sub hl [0, 1, 2] rfl
        have e8 : (31 * ((31 * (L_checksum7 M k)) + ((f_X7_standing (nI k) (up2 M 0 0 0)).toInt64))) + ((f_X7_daysOf (nI k) (up2 M 0 0 0)).toInt64) = (L_checksum7 M (k + 1)) := by simp only [L_checksum7, b_checksum7]
        rw [e8] at hl9
        exact ih (k + 1) (by omega) (by omega) _ _ hw9 _ hl9
  exact LP1 ((M 0 3).toNatClampNeg + 1) 0 (Nat.zero_le _) (by omega) _ _ hw _ (lv_sub hl [0, 1, 2] rfl)
def f_X7_isSound  (M : BT) : Int32 × BT :=
  (1, up2 M 0 0 0)
theorem cn_X7_isSound  {M : BT} {n m9 : Nat} (hN : MN M n m9) : MN ((f_X7_isSound M).2) n m9 := by
  unfold f_X7_isSound
  exact (MN.up0 (by decide) (by decide) hN)
set_option maxHeartbeats 4000000 in
set_option maxRecDepth 100000 in
theorem m_X7_isSound (l : Launch) (g : wG) (S : Nat → BT) (M : BT) (o : (Nat → Int64) × (Nat → UInt64)) (n m9 : Nat) (hN : MN M n m9) : mI l yX7_isSound cX7_isSound 1 (some .boolean) ({ frames := 0, cells := 0, slots := 0, locals := 0 } : Room) 0 0 g (xM S M o) [.ref (gA g (jM 0))] ((f_X7_isSound M).1) (xM S ((f_X7_isSound M).2) o) := by
  refine Met.ofW (cc := cX7_isSound) (maxL := 1) (ret := some .boolean) (by decide) rfl ?_
  intro p9 e s m args below meth c s₁ BL hml hv
  obtain ⟨rfl, hk, hPB⟩ := hv
  have hx := BL.exec
  have hb := BL.bytes
  have hc : CX p9 c cX7_isSound s _ m RX7 := ⟨hx, hb, findClass_of_methodNamed BL.named, fun w h => atoms_spec BL.pre w (List.mem_cons_of_mem _ h)⟩
  have hr := BL.returns
  have hlocks := BL.notSynchronized
  have hw : WS g s (xM S M o) s.heap [] := ⟨hPB, va_S.rf⟩
  have hl := lv_entry ([.ref (gA g (jM 0))]) (n := 1) (Nat.le_of_ble_eq_true rfl)
  rw [lg_entry_eq]
  generalize (lg_sl ([.ref (gA g (jM 0))]) ++ List.replicate (1 - (lg_sl ([.ref (gA g (jM 0))])).length) Slot.unset).toArray = ls at hl ⊢
  have hl : lv_has ls 1 [(0, .ref (gA g (jM 0)))] := hl
  refine lv_aload_n hx hb dX7_isSound_0 rfl (lv_at hl 0 rfl) ?_
  refine lv_iconst (v := 0) hx hb dX7_isSound_1 (by decide) ?_
  refine k_put hc hk hw (x' := (xM S (up2 M 0 0 0) o)) at_M rfl iX7 tyX7 tyX7_ok nmX7 0 (by decide) q1035 rfl rfl rfl (Nat.le_of_ble_eq_true rfl) dX7_isSound_2 (ms_0 (by decide)) (fun H locs hw => ?_)
  refine lv_iconst (v := 1) hx hb dX7_isSound_5 (by decide) ?_
  exact W.zret (v := 1) hx hb hr (by decide +kernel) (fun t9 ht hW => ke_i hw ht (by simp only [f_X7_isSound]) (by simp only [f_X7_isSound])) hw.2.2.2 dX7_isSound_6
