/-! the model, second part -/
def j_X7_examine_18 (a1 : Int32) (M : BT) : Int32 :=
  (if ((((f_X7_isPast a1 M).2) 2 ((((f_X7_isPast a1 M).2) 6 ((a1).toNatClampNeg)).toNatClampNeg)) >>> ((((f_X7_isPast a1 M).2) 7 ((a1).toNatClampNeg)) &&& 31)) &&& 1 = 1 then (if ((f_X7_isPast a1 M).2) 13 ((a1).toNatClampNeg) = 0 then 1 else 0) else 0)
def j_X7_examine_52 (a1 : Int32) (M : BT) : Int32 :=
  (if (((f_X7_isPast a1 M).2) 10 ((a1).toNatClampNeg)) - (((f_X7_isPast a1 M).2) 9 ((a1).toNatClampNeg)) ≤ 365 then 0 else (if ((f_X7_isPast a1 M).2) 14 ((a1).toNatClampNeg) = 0 then 1 else 0))
def j_X7_examine_87 (a1 : Int32) (M : BT) : Int32 :=
  (if ((f_X7_isPast a1 M).2) 15 ((a1).toNatClampNeg) = (-1) then 0 else (if (((f_X7_isPast a1 M).2) 0 1) - (((f_X7_isPast a1 M).2) 15 ((a1).toNatClampNeg)) < ((f_X7_isPast a1 M).2) 1 ((((f_X7_isPast a1 M).2) 6 ((a1).toNatClampNeg)).toNatClampNeg) then 0 else 1))
def j_X7_examine_124 (a1 : Int32) (M : BT) : Int32 :=
  (if (j_X7_examine_18 a1 M) = 0 then 111 else (if (j_X7_examine_52 a1 M) = 0 then (if (j_X7_examine_87 a1 M) = 0 then 102 else 114) else 108))
theorem okj_X7_examine_124 {a1 : Int32} {M : BT} : okc (j_X7_examine_124 a1 M) := by
  unfold j_X7_examine_124
  (repeat' split) <;> exact ⟨by decide +kernel, by decide +kernel, by decide +kernel⟩
def f_X7_examine (a1 : Int32) (M : BT) : Int32 × BT :=
  (if (f_X7_isPast a1 M).1 = 0 then (if f_X7_isClosed (j_X7_examine_124 a1 M) = 0 then ((j_X7_examine_124 a1 M), up2 ((f_X7_isPast a1 M).2) 11 ((a1).toNatClampNeg) (j_X7_examine_124 a1 M)) else ((j_X7_examine_124 a1 M), up2 (up2 ((f_X7_isPast a1 M).2) 11 ((a1).toNatClampNeg) (j_X7_examine_124 a1 M)) 24 ((a1).toNatClampNeg) (((f_X7_isPast a1 M).2) 0 1))) else (32, (f_X7_isPast a1 M).2))
theorem cn_X7_examine {a1 : Int32} {M : BT} {n m9 : Nat} (hN : MN M n m9) : MN ((f_X7_examine a1 M).2) n m9 := by
  unfold f_X7_examine
  by_cases h1 : (f_X7_isPast a1 M).1 = 0
  · simp only [if_pos h1]
    by_cases h6 : f_X7_isClosed (j_X7_examine_124 a1 M) = 0
    · simp only [if_pos h6]
      exact (MN.up11 (okj_X7_examine_124) (cn_X7_isPast hN))
    · simp only [if_neg h6]
      exact (MN.upf (by decide) (by decide) (by decide) (by decide) (by decide) (by decide) (by decide) (by decide) (MN.up11 (okj_X7_examine_124) (cn_X7_isPast hN)))
  · simp only [if_neg h1]
    exact (cn_X7_isPast hN)
set_option maxHeartbeats 4000000 in
set_option maxRecDepth 100000 in
theorem m_X7_examine (l : Launch) (g : wG) (S : Nat → BT) (M : BT) (o : (Nat → Int64) × (Nat → UInt64)) (a1 : Int32) (n m9 : Nat) (hN : MN M n m9) : mI l yX7_examine cX7_examine 7 (some .char) ({ frames := 4, cells := 0, slots := 0, locals := 85 } : Room) 0 0 g (xM S M o) [.ref (gA g (jM 0)), .int a1] ((f_X7_examine a1 M).1) (xM S ((f_X7_examine a1 M).2) o) := by
  refine Met.ofW (cc := cX7_examine) (maxL := 7) (ret := some .char) (by decide) rfl ?_
  intro p9 e s m args below meth c s₁ BL hml hv
  obtain ⟨rfl, hk, hPB⟩ := hv
  have hx := BL.exec
  have hb := BL.bytes
  have hc : CX p9 c cX7_examine s _ m RX7 := ⟨hx, hb, findClass_of_methodNamed BL.named, fun w h => atoms_spec BL.pre w (List.mem_cons_of_mem _ h)⟩
  have hr := BL.returns
  have hlocks := BL.notSynchronized
  have hw : WS g s (xM S M o) s.heap [] := ⟨hPB, va_S.rf⟩
  have hl := lv_entry ([.ref (gA g (jM 0)), .int a1]) (n := 7) (Nat.le_of_ble_eq_true rfl)
  rw [lg_entry_eq]
  generalize (lg_sl ([.ref (gA g (jM 0)), .int a1]) ++ List.replicate (7 - (lg_sl ([.ref (gA g (jM 0)), .int a1])).length) Slot.unset).toArray = ls at hl ⊢
  have hl : lv_has ls 7 [(0, .ref (gA g (jM 0))), (1, .int a1)] := hl
  refine lv_aload_n hx hb dX7_examine_0 rfl (lv_at hl 0 rfl) ?_
  refine lv_iload_n hx hb dX7_examine_1 rfl (lv_at hl 1 rfl) ?_
  refine kc_i hw (va_runV (As := [.int a1]) (rest := []) ⟨hx, hb, hml, hc.2.2.1, hc.2.2.2⟩ (m_X7_isPast l g S M o a1 _ _ hN) (kw_V hc 1 q1168 q1170 qs63 q8 q1171 rfl rfl (by decide +kernel) ⟨Nat.le_of_ble_eq_true rfl, Nat.le_of_ble_eq_true rfl⟩) (kp_V hk hw at_M rfl) rfl rfl hl.1 rfl (lv_room (Nat.le_of_ble_eq_true rfl)) dX7_examine_2 ⟨Nat.le_of_ble_eq_true rfl, Nat.le_of_ble_eq_true rfl⟩) (fun H locs hw => ?_)
  refine lv_if_eq (tgt := 11) hx hb dX7_examine_5 (by decide) (fun h1 => ?_) (fun h1 => ?_)
  · refine lv_aload_n hx hb dX7_examine_11 rfl (lv_at hl 0 rfl) ?_
    refine k_get hc hk hw at_M rfl iX7 9 (by decide) q1044 (v := .ref (gA g (jM 6))) rfl dX7_examine_12 ?_
    refine lv_iload_n hx hb dX7_examine_15 rfl (lv_at hl 1 rfl) ?_
    refine k_iald (f := ((f_X7_isPast a1 M).2) 6) (n := ((a1).toNatClampNeg)) hc hk hw (at_Mk (k := 6) (t := 0) (n := 20) (by decide) (by decide) (by decide) (by decide)) (isPast_in hN h1) rfl dX7_examine_16 ?_
    refine lv_istore_n (lv' := [(2, .int (((f_X7_isPast a1 M).2) 6 ((a1).toNatClampNeg))), (0, .ref (gA g (jM 0))), (1, .int a1)]) hx hb dX7_examine_17 rfl hl (by decide) rfl (fun ls hl => ?_)
    have J2 : ∀ (v : Int32), v = (j_X7_examine_18 a1 M) → ∀ (H : Heap) (locs : List Loc), WS g s (xM S ((f_X7_isPast a1 M).2) o) H locs → W p9 l e ({ frames := 4, cells := 0, slots := 0, locals := 85 } : Room) s m ([.ref (gA g (jM 0)), .int a1] : List Value).toArray below meth c H locs 0 0 (MQ below (va_Qi (fun (v : Int32) (u : wSt) => v = (f_X7_examine a1 M).1 ∧ u = (xM S ((f_X7_examine a1 M).2) o)) (PB g) (AA g)) (([.ref (gA g (jM 0)), .int a1] : List Value).toArray) s 0 0 (AA g)) (F0 m 51 ls (.int v :: ([] : List Value))) := by
      intro v ev H locs hw
      subst ev
      refine lv_istore_n (lv' := [(3, .int (j_X7_examine_18 a1 M)), (2, .int (((f_X7_isPast a1 M).2) 6 ((a1).toNatClampNeg))), (0, .ref (gA g (jM 0))), (1, .int a1)]) hx hb dX7_examine_51 rfl hl (by decide) rfl (fun ls hl => ?_)
      have J3 : ∀ (v : Int32), v = (j_X7_examine_52 a1 M) → ∀ (H : Heap) (locs : List Loc), WS g s (xM S ((f_X7_isPast a1 M).2) o) H locs → W p9 l e ({ frames := 4, cells := 0, slots := 0, locals := 85 } : Room) s m ([.ref (gA g (jM 0)), .int a1] : List Value).toArray below meth c H locs 0 0 (MQ below (va_Qi (fun (v : Int32) (u : wSt) => v = (f_X7_examine a1 M).1 ∧ u = (xM S ((f_X7_examine a1 M).2) o)) (PB g) (AA g)) (([.ref (gA g (jM 0)), .int a1] : List Value).toArray) s 0 0 (AA g)) (F0 m 85 ls (.int v :: ([] : List Value))) := by
        intro v ev H locs hw
        subst ev
        refine lv_istore (lv' := [(4, .int (j_X7_examine_52 a1 M)), (3, .int (j_X7_examine_18 a1 M)), (2, .int (((f_X7_isPast a1 M).2) 6 ((a1).toNatClampNeg))), (0, .ref (gA g (jM 0))), (1, .int a1)]) hx hb dX7_examine_85 hl (by decide) rfl (fun ls hl => ?_)
        have J4 : ∀ (v : Int32), v = (j_X7_examine_87 a1 M) → ∀ (H : Heap) (locs : List Loc), WS g s (xM S ((f_X7_isPast a1 M).2) o) H locs → W p9 l e ({ frames := 4, cells := 0, slots := 0, locals := 85 } : Room) s m ([.ref (gA g (jM 0)), .int a1] : List Value).toArray below meth c H locs 0 0 (MQ below (va_Qi (fun (v : Int32) (u : wSt) => v = (f_X7_examine a1 M).1 ∧ u = (xM S ((f_X7_examine a1 M).2) o)) (PB g) (AA g)) (([.ref (gA g (jM 0)), .int a1] : List Value).toArray) s 0 0 (AA g)) (F0 m 122 ls (.int v :: ([] : List Value))) := by
          intro v ev H locs hw
          subst ev
          refine lv_istore (lv' := [(5, .int (j_X7_examine_87 a1 M)), (4, .int (j_X7_examine_52 a1 M)), (3, .int (j_X7_examine_18 a1 M)), (2, .int (((f_X7_isPast a1 M).2) 6 ((a1).toNatClampNeg))), (0, .ref (gA g (jM 0))), (1, .int a1)]) hx hb dX7_examine_122 hl (by decide) rfl (fun ls hl => ?_)
          have J5 : ∀ (v : Int32), v = (j_X7_examine_124 a1 M) → ∀ (H : Heap) (locs : List Loc), WS g s (xM S ((f_X7_isPast a1 M).2) o) H locs → W p9 l e ({ frames := 4, cells := 0, slots := 0, locals := 85 } : Room) s m ([.ref (gA g (jM 0)), .int a1] : List Value).toArray below meth c H locs 0 0 (MQ below (va_Qi (fun (v : Int32) (u : wSt) => v = (f_X7_examine a1 M).1 ∧ u = (xM S ((f_X7_examine a1 M).2) o)) (PB g) (AA g)) (([.ref (gA g (jM 0)), .int a1] : List Value).toArray) s 0 0 (AA g)) (F0 m 155 ls (.int v :: ([] : List Value))) := by
            intro v ev H locs hw
            subst ev
            refine lv_istore (lv' := [(6, .int (j_X7_examine_124 a1 M)), (5, .int (j_X7_examine_87 a1 M)), (4, .int (j_X7_examine_52 a1 M)), (3, .int (j_X7_examine_18 a1 M)), (2, .int (((f_X7_isPast a1 M).2) 6 ((a1).toNatClampNeg))), (0, .ref (gA g (jM 0))), (1, .int a1)]) hx hb dX7_examine_155 hl (by decide) rfl (fun ls hl => ?_)
            refine lv_aload_n hx hb dX7_examine_157 rfl (lv_at hl 5 rfl) ?_
            refine k_get hc hk hw at_M rfl iX7 14 (by decide) q1049 (v := .ref (gA g (jM 11))) rfl dX7_examine_158 ?_
            refine lv_iload_n hx hb dX7_examine_161 rfl (lv_at hl 6 rfl) ?_
            refine lv_iload hx hb dX7_examine_162 (lv_at hl 0 rfl) ?_
            refine k_cast (x' := (xM S (up2 ((f_X7_isPast a1 M).2) 11 ((a1).toNatClampNeg) (j_X7_examine_124 a1 M)) o)) (f := ((f_X7_isPast a1 M).2) 11) (n := ((a1).toNatClampNeg)) hc hk hw (at_Mk (k := 11) (t := 1) (n := 20) (by decide) (by decide) (by decide) (by decide)) (isPast_in hN h1) rfl (okj_X7_examine_124).2.2 dX7_examine_164 (ms_k (k := 11) (t := 1) (n := 20) (by decide) (by decide) (by decide) (by decide)) (fun H locs hw => ?_)
            refine lv_iload hx hb dX7_examine_165 (lv_at hl 0 rfl) ?_
            refine kc_i hw (va_runS (As := [.int (j_X7_examine_124 a1 M)]) (rest := []) ⟨hx, hb, hml, hc.2.2.1, hc.2.2.2⟩ (m_X7_isClosed l g S (up2 ((f_X7_isPast a1 M).2) 11 ((a1).toNatClampNeg) (j_X7_examine_124 a1 M)) o (j_X7_examine_124 a1 M)) (kw_S hc 1 q1192 q1193 q8 q1194 rfl rfl (by decide +kernel) ⟨Nat.le_of_ble_eq_true rfl, Nat.le_of_ble_eq_true rfl⟩) (kp_S hk hw) rfl rfl hl.1 rfl (lv_room (Nat.le_of_ble_eq_true rfl)) dX7_examine_167 ⟨Nat.le_of_ble_eq_true rfl, Nat.le_of_ble_eq_true rfl⟩) (fun H locs hw => ?_)
            refine lv_if_eq (tgt := 183) hx hb dX7_examine_170 (by decide) (fun h6 => ?_) (fun h6 => ?_)
            · refine lv_iload hx hb dX7_examine_183 (lv_at hl 0 rfl) ?_
              exact W.zret (v := (j_X7_examine_124 a1 M)) hx hb hr (okj_X7_examine_124).1 (fun t9 ht hW => ke_i hw ht (by simp only [f_X7_examine, if_pos h1, if_pos h6]) (by simp only [f_X7_examine, if_pos h1, if_pos h6])) hw.2.2.2 dX7_examine_185
            · refine lv_aload_n hx hb dX7_examine_173 rfl (lv_at hl 5 rfl) ?_
              refine k_get hc hk hw at_M rfl iX7 27 (by decide) q1062 (v := .ref (gA g (jM 24))) rfl dX7_examine_174 ?_
              refine lv_iload_n hx hb dX7_examine_177 rfl (lv_at hl 6 rfl) ?_
              refine lv_aload_n hx hb dX7_examine_178 rfl (lv_at hl 5 rfl) ?_
              refine k_get hc hk hw at_M rfl iX7 1 (by decide) q1036 (v := .int (((f_X7_isPast a1 M).2) 0 1)) rfl dX7_examine_179 ?_
              refine k_iast (x' := (xM S (up2 (up2 ((f_X7_isPast a1 M).2) 11 ((a1).toNatClampNeg) (j_X7_examine_124 a1 M)) 24 ((a1).toNatClampNeg) (((f_X7_isPast a1 M).2) 0 1)) o)) (f := (up2 ((f_X7_isPast a1 M).2) 11 ((a1).toNatClampNeg) (j_X7_examine_124 a1 M)) 24) (n := ((a1).toNatClampNeg)) hc hk hw (at_Mk (k := 24) (t := 0) (n := 20) (by decide) (by decide) (by decide) (by decide)) (isPast_in hN h1) rfl dX7_examine_182 (ms_k (k := 24) (t := 0) (n := 20) (by decide) (by decide) (by decide) (by decide)) (fun H locs hw => ?_)
              refine lv_iload hx hb dX7_examine_183 (lv_at hl 0 rfl) ?_
              exact W.zret (v := (j_X7_examine_124 a1 M)) hx hb hr (okj_X7_examine_124).1 (fun t9 ht hW => ke_i hw ht (by simp only [f_X7_examine, if_pos h1, if_neg h6]) (by simp only [f_X7_examine, if_pos h1, if_neg h6])) hw.2.2.2 dX7_examine_185
          refine lv_iload_n hx hb dX7_examine_124 rfl (lv_at hl 2 rfl) ?_
          refine lv_if_ne (tgt := 133) hx hb dX7_examine_125 (by decide) (fun h7 => ?_) (fun h7 => ?_)
          · refine lv_iload hx hb dX7_examine_133 (lv_at hl 1 rfl) ?_
            refine lv_if_eq (tgt := 143) hx hb dX7_examine_135 (by decide) (fun h8 => ?_) (fun h8 => ?_)
            · refine lv_iload hx hb dX7_examine_143 (lv_at hl 0 rfl) ?_
              refine lv_if_eq (tgt := 153) hx hb dX7_examine_145 (by decide) (fun h9 => ?_) (fun h9 => ?_)
              · refine lv_bipush (v := 102) hx hb dX7_examine_153 (by decide) ?_
                exact J5 102 (by simp only [j_X7_examine_124, if_neg h7, if_pos h8, if_pos h9]) _ _ hw
              · refine lv_bipush (v := 114) hx hb dX7_examine_148 (by decide) ?_
                refine lv_goto (tgt := 155) hx hb dX7_examine_150 (by decide) ?_
                exact J5 114 (by simp only [j_X7_examine_124, if_neg h7, if_pos h8, if_neg h9]) _ _ hw
            · refine lv_bipush (v := 108) hx hb dX7_examine_138 (by decide) ?_
              refine lv_goto (tgt := 155) hx hb dX7_examine_140 (by decide) ?_
              exact J5 108 (by simp only [j_X7_examine_124, if_neg h7, if_neg h8]) _ _ hw
          · refine lv_bipush (v := 111) hx hb dX7_examine_128 (by decide) ?_
            refine lv_goto (tgt := 155) hx hb dX7_examine_130 (by decide) ?_
            exact J5 111 (by simp only [j_X7_examine_124, if_pos h7]) _ _ hw
        refine lv_aload_n hx hb dX7_examine_87 rfl (lv_at hl 3 rfl) ?_
        refine k_get hc hk hw at_M rfl iX7 18 (by decide) q1053 (v := .ref (gA g (jM 15))) rfl dX7_examine_88 ?_
        refine lv_iload_n hx hb dX7_examine_91 rfl (lv_at hl 4 rfl) ?_
        refine k_iald (f := ((f_X7_isPast a1 M).2) 15) (n := ((a1).toNatClampNeg)) hc hk hw (at_Mk (k := 15) (t := 0) (n := 20) (by decide) (by decide) (by decide) (by decide)) (isPast_in hN h1) rfl dX7_examine_92 ?_
        refine lv_iconst (v := (-1)) hx hb dX7_examine_93 (by decide) ?_
        refine lv_icmp_eq (tgt := 121) hx hb dX7_examine_94 (by decide) (fun h10 => ?_) (fun h10 => ?_)
        · refine lv_iconst (v := 0) hx hb dX7_examine_121 (by decide) ?_
          exact J4 0 (by simp only [j_X7_examine_87, if_pos h10]) _ _ hw
        · refine lv_aload_n hx hb dX7_examine_97 rfl (lv_at hl 3 rfl) ?_
          refine k_get hc hk hw at_M rfl iX7 1 (by decide) q1036 (v := .int (((f_X7_isPast a1 M).2) 0 1)) rfl dX7_examine_98 ?_
          refine lv_aload_n hx hb dX7_examine_101 rfl (lv_at hl 3 rfl) ?_
          refine k_get hc hk hw at_M rfl iX7 18 (by decide) q1053 (v := .ref (gA g (jM 15))) rfl dX7_examine_102 ?_
          refine lv_iload_n hx hb dX7_examine_105 rfl (lv_at hl 4 rfl) ?_
          refine k_iald (f := ((f_X7_isPast a1 M).2) 15) (n := ((a1).toNatClampNeg)) hc hk hw (at_Mk (k := 15) (t := 0) (n := 20) (by decide) (by decide) (by decide) (by decide)) (isPast_in hN h1) rfl dX7_examine_106 ?_
          refine lv_isub hx hb dX7_examine_107 ?_
          refine lv_aload_n hx hb dX7_examine_108 rfl (lv_at hl 3 rfl) ?_
          refine k_get hc hk hw at_M rfl iX7 4 (by decide) q1039 (v := .ref (gA g (jM 1))) rfl dX7_examine_109 ?_
          refine lv_iload_n hx hb dX7_examine_112 rfl (lv_at hl 2 rfl) ?_
          refine k_iald (f := ((f_X7_isPast a1 M).2) 1) (n := ((((f_X7_isPast a1 M).2) 6 ((a1).toNatClampNeg)).toNatClampNeg)) hc hk hw (at_Mk (k := 1) (t := 0) (n := 6) (by decide) (by decide) (by decide) (by decide)) (MN.off (cn_X7_isPast hN) (vp_lt (isPast_in hN h1))) rfl dX7_examine_113 ?_
          refine lv_icmp_lt (tgt := 121) hx hb dX7_examine_114 (by decide) (fun h11 => ?_) (fun h11 => ?_)
          · refine lv_iconst (v := 0) hx hb dX7_examine_121 (by decide) ?_
            exact J4 0 (by simp only [j_X7_examine_87, if_neg h10, if_pos h11]) _ _ hw
          · refine lv_iconst (v := 1) hx hb dX7_examine_117 (by decide) ?_
            refine lv_goto (tgt := 122) hx hb dX7_examine_118 (by decide) ?_
            exact J4 1 (by simp only [j_X7_examine_87, if_neg h10, if_neg h11]) _ _ hw
      refine lv_aload_n hx hb dX7_examine_52 rfl (lv_at hl 2 rfl) ?_
      refine k_get hc hk hw at_M rfl iX7 13 (by decide) q1048 (v := .ref (gA g (jM 10))) rfl dX7_examine_53 ?_
      refine lv_iload_n hx hb dX7_examine_56 rfl (lv_at hl 3 rfl) ?_
      refine k_iald (f := ((f_X7_isPast a1 M).2) 10) (n := ((a1).toNatClampNeg)) hc hk hw (at_Mk (k := 10) (t := 0) (n := 20) (by decide) (by decide) (by decide) (by decide)) (isPast_in hN h1) rfl dX7_examine_57 ?_
      refine lv_aload_n hx hb dX7_examine_58 rfl (lv_at hl 2 rfl) ?_
      refine k_get hc hk hw at_M rfl iX7 12 (by decide) q1047 (v := .ref (gA g (jM 9))) rfl dX7_examine_59 ?_
      refine lv_iload_n hx hb dX7_examine_62 rfl (lv_at hl 3 rfl) ?_
      refine k_iald (f := ((f_X7_isPast a1 M).2) 9) (n := ((a1).toNatClampNeg)) hc hk hw (at_Mk (k := 9) (t := 0) (n := 20) (by decide) (by decide) (by decide) (by decide)) (isPast_in hN h1) rfl dX7_examine_63 ?_
      refine lv_isub hx hb dX7_examine_64 ?_
      refine lv_sipush (v := 365) hx hb dX7_examine_65 (by decide) ?_
      refine lv_icmp_le (tgt := 84) hx hb dX7_examine_68 (by decide) (fun h12 => ?_) (fun h12 => ?_)
      · refine lv_iconst (v := 0) hx hb dX7_examine_84 (by decide) ?_
        exact J3 0 (by simp only [j_X7_examine_52, if_pos h12]) _ _ hw
      · refine lv_aload_n hx hb dX7_examine_71 rfl (lv_at hl 2 rfl) ?_
        refine k_get hc hk hw at_M rfl iX7 17 (by decide) q1052 (v := .ref (gA g (jM 14))) rfl dX7_examine_72 ?_
        refine lv_iload_n hx hb dX7_examine_75 rfl (lv_at hl 3 rfl) ?_
        refine k_zald (f := ((f_X7_isPast a1 M).2) 14) (n := ((a1).toNatClampNeg)) hc hk hw (at_Mk (k := 14) (t := 2) (n := 20) (by decide) (by decide) (by decide) (by decide)) (isPast_in hN h1) rfl dX7_examine_76 ?_
        refine lv_if_ne (tgt := 84) hx hb dX7_examine_77 (by decide) (fun h13 => ?_) (fun h13 => ?_)
        · refine lv_iconst (v := 0) hx hb dX7_examine_84 (by decide) ?_
          exact J3 0 (by simp only [j_X7_examine_52, if_neg h12, if_neg h13]) _ _ hw
        · refine lv_iconst (v := 1) hx hb dX7_examine_80 (by decide) ?_
          refine lv_goto (tgt := 85) hx hb dX7_examine_81 (by decide) ?_
          exact J3 1 (by simp only [j_X7_examine_52, if_neg h12, if_pos h13]) _ _ hw
    refine lv_aload_n hx hb dX7_examine_18 rfl (lv_at hl 1 rfl) ?_
    refine k_get hc hk hw at_M rfl iX7 5 (by decide) q1040 (v := .ref (gA g (jM 2))) rfl dX7_examine_19 ?_
    refine lv_iload_n hx hb dX7_examine_22 rfl (lv_at hl 0 rfl) ?_
    refine k_iald (f := ((f_X7_isPast a1 M).2) 2) (n := ((((f_X7_isPast a1 M).2) 6 ((a1).toNatClampNeg)).toNatClampNeg)) hc hk hw (at_Mk (k := 2) (t := 0) (n := 6) (by decide) (by decide) (by decide) (by decide)) (MN.off (cn_X7_isPast hN) (vp_lt (isPast_in hN h1))) rfl dX7_examine_23 ?_
    refine lv_aload_n hx hb dX7_examine_24 rfl (lv_at hl 1 rfl) ?_
    refine k_get hc hk hw at_M rfl iX7 10 (by decide) q1045 (v := .ref (gA g (jM 7))) rfl dX7_examine_25 ?_
    refine lv_iload_n hx hb dX7_examine_28 rfl (lv_at hl 2 rfl) ?_
    refine k_iald (f := ((f_X7_isPast a1 M).2) 7) (n := ((a1).toNatClampNeg)) hc hk hw (at_Mk (k := 7) (t := 0) (n := 20) (by decide) (by decide) (by decide) (by decide)) (isPast_in hN h1) rfl dX7_examine_29 ?_
    refine lv_ishr hx hb dX7_examine_30 ?_
    refine lv_iconst (v := 1) hx hb dX7_examine_31 (by decide) ?_
    refine lv_iand hx hb dX7_examine_32 ?_
    refine lv_iconst (v := 1) hx hb dX7_examine_33 (by decide) ?_
    refine lv_icmp_ne (tgt := 50) hx hb dX7_examine_34 (by decide) (fun h14 => ?_) (fun h14 => ?_)
    · refine lv_iconst (v := 0) hx hb dX7_examine_50 (by decide) ?_
      exact J2 0 (by simp only [j_X7_examine_18, if_neg h14]) _ _ hw
    · refine lv_aload_n hx hb dX7_examine_37 rfl (lv_at hl 1 rfl) ?_
      refine k_get hc hk hw at_M rfl iX7 16 (by decide) q1051 (v := .ref (gA g (jM 13))) rfl dX7_examine_38 ?_
      refine lv_iload_n hx hb dX7_examine_41 rfl (lv_at hl 2 rfl) ?_
      refine k_zald (f := ((f_X7_isPast a1 M).2) 13) (n := ((a1).toNatClampNeg)) hc hk hw (at_Mk (k := 13) (t := 2) (n := 20) (by decide) (by decide) (by decide) (by decide)) (isPast_in hN h1) rfl dX7_examine_42 ?_
      refine lv_if_ne (tgt := 50) hx hb dX7_examine_43 (by decide) (fun h15 => ?_) (fun h15 => ?_)
      · refine lv_iconst (v := 0) hx hb dX7_examine_50 (by decide) ?_
        exact J2 0 (by simp only [j_X7_examine_18, if_pos h14, if_neg h15]) _ _ hw
      · refine lv_iconst (v := 1) hx hb dX7_examine_46 (by decide) ?_
        refine lv_goto (tgt := 51) hx hb dX7_examine_47 (by decide) ?_
        exact J2 1 (by simp only [j_X7_examine_18, if_pos h14, if_pos h15]) _ _ hw
  · refine lv_bipush (v := 32) hx hb dX7_examine_8 (by decide) ?_
    exact W.zret (v := 32) hx hb hr (by decide +kernel) (fun t9 ht hW => ke_i hw ht (by simp only [f_X7_examine, if_neg h1]) (by simp only [f_X7_examine, if_neg h1])) hw.2.2.2 dX7_examine_10
def f_X7_state (a1 : Int32) (M : BT) : Int32 × BT :=
  (if (f_X7_noComplaint a1 M).1 = 0 then (f_X7_standing a1 ((f_X7_noComplaint a1 M).2), (f_X7_noComplaint a1 M).2) else (32, (f_X7_noComplaint a1 M).2))
theorem cn_X7_state {a1 : Int32} {M : BT} {n m9 : Nat} (hN : MN M n m9) : MN ((f_X7_state a1 M).2) n m9 := by
  unfold f_X7_state
  by_cases h1 : (f_X7_noComplaint a1 M).1 = 0
  · simp only [if_pos h1]
    exact (cn_X7_noComplaint hN)
  · simp only [if_neg h1]
    exact (cn_X7_noComplaint hN)
set_option maxHeartbeats 4000000 in
set_option maxRecDepth 100000 in
theorem m_X7_state (l : Launch) (g : wG) (S : Nat → BT) (M : BT) (o : (Nat → Int64) × (Nat → UInt64)) (a1 : Int32) (n m9 : Nat) (hN : MN M n m9) : mI l yX7_state cX7_state 2 (some .char) ({ frames := 3, cells := 0, slots := 0, locals := 64 } : Room) 0 0 g (xM S M o) [.ref (gA g (jM 0)), .int a1] ((f_X7_state a1 M).1) (xM S ((f_X7_state a1 M).2) o) := by
  refine Met.ofW (cc := cX7_state) (maxL := 2) (ret := some .char) (by decide) rfl ?_
  intro p9 e s m args below meth c s₁ BL hml hv
  obtain ⟨rfl, hk, hPB⟩ := hv
  have hx := BL.exec
  have hb := BL.bytes
  have hc : CX p9 c cX7_state s _ m RX7 := ⟨hx, hb, findClass_of_methodNamed BL.named, fun w h => atoms_spec BL.pre w (List.mem_cons_of_mem _ h)⟩
  have hr := BL.returns
  have hlocks := BL.notSynchronized
  have hw : WS g s (xM S M o) s.heap [] := ⟨hPB, va_S.rf⟩
  have hl := lv_entry ([.ref (gA g (jM 0)), .int a1]) (n := 2) (Nat.le_of_ble_eq_true rfl)
  rw [lg_entry_eq]
  generalize (lg_sl ([.ref (gA g (jM 0)), .int a1]) ++ List.replicate (2 - (lg_sl ([.ref (gA g (jM 0)), .int a1])).length) Slot.unset).toArray = ls at hl ⊢
  have hl : lv_has ls 2 [(0, .ref (gA g (jM 0))), (1, .int a1)] := hl
  refine lv_aload_n hx hb dX7_state_0 rfl (lv_at hl 0 rfl) ?_
  refine lv_iload_n hx hb dX7_state_1 rfl (lv_at hl 1 rfl) ?_
  refine kc_i hw (va_runV (As := [.int a1]) (rest := []) ⟨hx, hb, hml, hc.2.2.1, hc.2.2.2⟩ (m_X7_noComplaint l g S M o a1 _ _ hN) (kw_V hc 1 q1172 q1174 qs64 q8 q1175 rfl rfl (by decide +kernel) ⟨Nat.le_of_ble_eq_true rfl, Nat.le_of_ble_eq_true rfl⟩) (kp_V hk hw at_M rfl) rfl rfl hl.1 rfl (lv_room (Nat.le_of_ble_eq_true rfl)) dX7_state_2 ⟨Nat.le_of_ble_eq_true rfl, Nat.le_of_ble_eq_true rfl⟩) (fun H locs hw => ?_)
  refine lv_if_eq (tgt := 13) hx hb dX7_state_5 (by decide) (fun h1 => ?_) (fun h1 => ?_)
  · refine lv_aload_n hx hb dX7_state_13 rfl (lv_at hl 0 rfl) ?_
    refine lv_iload_n hx hb dX7_state_14 rfl (lv_at hl 1 rfl) ?_
    refine kc_i hw (va_runV (As := [.int a1]) (rest := []) ⟨hx, hb, hml, hc.2.2.1, hc.2.2.2⟩ (m_X7_standing l g S ((f_X7_noComplaint a1 M).2) o a1 _ _ (cn_X7_noComplaint hN) (noComplaint_in hN h1)) (kw_V hc 1 q1140 q1142 qs59 q8 q1143 rfl rfl (by decide +kernel) ⟨Nat.le_of_ble_eq_true rfl, Nat.le_of_ble_eq_true rfl⟩) (kp_V hk hw at_M rfl) rfl rfl hl.1 rfl (lv_room (Nat.le_of_ble_eq_true rfl)) dX7_state_15 ⟨Nat.le_of_ble_eq_true rfl, Nat.le_of_ble_eq_true rfl⟩) (fun H locs hw => ?_)
    exact W.zret (v := f_X7_standing a1 ((f_X7_noComplaint a1 M).2)) hx hb hr (standing_ok (cn_X7_noComplaint hN) (noComplaint_in hN h1)).1 (fun t9 ht hW => ke_i hw ht (by simp only [f_X7_state, if_pos h1]) (by simp only [f_X7_state, if_pos h1])) hw.2.2.2 dX7_state_18
  · refine lv_bipush (v := 32) hx hb dX7_state_8 (by decide) ?_
    refine lv_goto (tgt := 18) hx hb dX7_state_10 (by decide) ?_
    exact W.zret (v := 32) hx hb hr (by decide +kernel) (fun t9 ht hW => ke_i hw ht (by simp only [f_X7_state, if_neg h1]) (by simp only [f_X7_state, if_neg h1])) hw.2.2.2 dX7_state_18
def j_X7_countState_1 (a1 : Int32) : Int32 :=
  (if f_X7_isState a1 = 0 then 1 else 0)
def b_countState7 (a1 : Int32) (M : BT) (k : Nat) (z : Int32) : Int32 :=
  (if (j_X7_countState_1 a1) = 0 then (if f_X7_standing (nI k) (up2 M 0 0 (j_X7_countState_1 a1)) = a1 then z + 1 else z + 0) else z + 0)
def L_countState7 (a1 : Int32) (M : BT) : Nat → Int32
  | 0 => 0
  | k + 1 => b_countState7 a1 M k (L_countState7 a1 M k)
def f_X7_countState (a1 : Int32) (M : BT) : Int32 × BT :=
  ((L_countState7 a1 M ((M 0 3).toNatClampNeg)), up2 M 0 0 (j_X7_countState_1 a1))
theorem cn_X7_countState {a1 : Int32} {M : BT} {n m9 : Nat} (hN : MN M n m9) : MN ((f_X7_countState a1 M).2) n m9 := by
  unfold f_X7_countState
  exact (MN.up0 (by decide) (by decide) hN)
set_option maxHeartbeats 4000000 in
set_option maxRecDepth 100000 in
theorem m_X7_countState (l : Launch) (g : wG) (S : Nat → BT) (M : BT) (o : (Nat → Int64) × (Nat → UInt64)) (a1 : Int32) (n m9 : Nat) (hN : MN M n m9) : mI l yX7_countState cX7_countState 4 (some .int) ({ frames := 3, cells := 0, slots := 0, locals := 63 } : Room) 0 0 g (xM S M o) [.ref (gA g (jM 0)), .int a1] ((f_X7_countState a1 M).1) (xM S ((f_X7_countState a1 M).2) o) := by
  refine Met.ofW (cc := cX7_countState) (maxL := 4) (ret := some .int) (by decide) rfl ?_
  intro p9 e s m args below meth c s₁ BL hml hv
  obtain ⟨rfl, hk, hPB⟩ := hv
  have hx := BL.exec
  have hb := BL.bytes
  have hc : CX p9 c cX7_countState s _ m RX7 := ⟨hx, hb, findClass_of_methodNamed BL.named, fun w h => atoms_spec BL.pre w (List.mem_cons_of_mem _ h)⟩
  have hr := BL.returns
  have hlocks := BL.notSynchronized
  have hw : WS g s (xM S M o) s.heap [] := ⟨hPB, va_S.rf⟩
  have hl := lv_entry ([.ref (gA g (jM 0)), .int a1]) (n := 4) (Nat.le_of_ble_eq_true rfl)
  rw [lg_entry_eq]
  generalize (lg_sl ([.ref (gA g (jM 0)), .int a1]) ++ List.replicate (4 - (lg_sl ([.ref (gA g (jM 0)), .int a1])).length) Slot.unset).toArray = ls at hl ⊢
  have hl : lv_has ls 4 [(0, .ref (gA g (jM 0))), (1, .int a1)] := hl
  refine lv_aload_n hx hb dX7_countState_0 rfl (lv_at hl 0 rfl) ?_
  have J1 : ∀ (v : Int32), v = (j_X7_countState_1 a1) → ∀ (H : Heap) (locs : List Loc), WS g s (xM S M o) H locs → W p9 l e ({ frames := 3, cells := 0, slots := 0, locals := 63 } : Room) s m ([.ref (gA g (jM 0)), .int a1] : List Value).toArray below meth c H locs 0 0 (MQ below (va_Qi (fun (v : Int32) (u : wSt) => v = (f_X7_countState a1 M).1 ∧ u = (xM S ((f_X7_countState a1 M).2) o)) (PB g) (AA g)) (([.ref (gA g (jM 0)), .int a1] : List Value).toArray) s 0 0 (AA g)) (F0 m 13 ls (.int v :: ([.ref (gA g (jM 0))] : List Value))) := by
    intro v ev H locs hw
    subst ev
    refine k_put hc hk hw (x' := (xM S (up2 M 0 0 (j_X7_countState_1 a1)) o)) at_M rfl iX7 tyX7 tyX7_ok nmX7 0 (by decide) q1035 rfl rfl rfl (Nat.le_of_ble_eq_true rfl) dX7_countState_13 (ms_0 (by decide)) (fun H locs hw => ?_)
    refine lv_iconst (v := 0) hx hb dX7_countState_16 (by decide) ?_
    refine lv_istore_n (lv' := [(2, .int 0), (0, .ref (gA g (jM 0))), (1, .int a1)]) hx hb dX7_countState_17 rfl hl (by decide) rfl (fun ls hl => ?_)
    refine lv_iconst (v := 0) hx hb dX7_countState_18 (by decide) ?_
    refine lv_istore_n (lv' := [(3, .int 0), (2, .int 0), (0, .ref (gA g (jM 0))), (1, .int a1)]) hx hb dX7_countState_19 rfl hl (by decide) rfl (fun ls hl => ?_)
    have LP2 : ∀ (f k : Nat), k ≤ (M 0 3).toNatClampNeg → (M 0 3).toNatClampNeg + 1 ≤ k + f → ∀ (H : Heap) (locs : List Loc), WS g s (xM S (up2 M 0 0 (j_X7_countState_1 a1)) o) H locs → ∀ (ls : Array Slot), lv_has ls 4 [(3, .int (nI k)), (2, .int (L_countState7 a1 M k)), (0, .ref (gA g (jM 0))), (1, .int a1)] → W p9 l e ({ frames := 3, cells := 0, slots := 0, locals := 63 } : Room) s m ([.ref (gA g (jM 0)), .int a1] : List Value).toArray below meth c H locs 0 0 (MQ below (va_Qi (fun (v : Int32) (u : wSt) => v = (f_X7_countState a1 M).1 ∧ u = (xM S ((f_X7_countState a1 M).2) o)) (PB g) (AA g)) (([.ref (gA g (jM 0)), .int a1] : List Value).toArray) s 0 0 (AA g)) (F0 m 20 ls []) := by
      intro f
      induction f with
      | zero => intro k h1 h2; exact absurd h2 (by omega)
      | succ f ih =>
        intro k hk9 hf9 H locs hw ls hl
        have hl4 := MN.l4 hN
        refine lv_iload_n hx hb dX7_countState_20 rfl (lv_at hl 0 rfl) ?_
        refine lv_aload_n hx hb dX7_countState_21 rfl (lv_at hl 2 rfl) ?_
        refine k_get hc hk hw at_M rfl iX7 3 (by decide) q1038 (v := .int (M 0 3)) rfl dX7_countState_22 ?_
        refine lv_icmp_ge (tgt := 58) hx hb dX7_countState_25 (by decide) (fun h3 => ?_) (fun h3 => ?_)
        · have hkn := lp_out h3 (MN.cc hN hN) hk9 (by omega)
          subst hkn
          refine lv_iload_n hx hb dX7_countState_58 rfl (lv_at hl 1 rfl) ?_
          exact W.iret (v := (L_countState7 a1 M ((M 0 3).toNatClampNeg))) hx hb hr (fun t9 ht hW => ke_i hw ht (by simp only [f_X7_countState]) (by simp only [f_X7_countState])) hw.2.2.2 dX7_countState_59
        · have hkn := lp_in h3 (MN.cc hN hN) hk9 (by omega)
          refine lv_iload_n hx hb dX7_countState_28 rfl (lv_at hl 1 rfl) ?_
          refine lv_aload_n hx hb dX7_countState_29 rfl (lv_at hl 2 rfl) ?_
          refine k_get hc hk hw at_M rfl iX7 0 (by decide) q1035 (v := .int (j_X7_countState_1 a1)) rfl dX7_countState_30 ?_
          refine lv_if_ne (tgt := 49) hx hb dX7_countState_33 (by decide) (fun h4 => ?_) (fun h4 => ?_)
          · refine lv_iconst (v := 0) hx hb dX7_countState_49 (by decide) ?_
            refine lv_iadd hx hb dX7_countState_50 ?_
            refine lv_istore_n (lv' := [(2, .int ((L_countState7 a1 M k) + 0)), (3, .int (nI k)), (0, .ref (gA g (jM 0))), (1, .int a1)]) hx hb dX7_countState_51 rfl hl (by decide) rfl (fun ls hl => ?_)
            refine lv_iinc (v := nI (k + 1)) (lv' := [(3, .int (nI (k + 1))), (2, .int ((L_countState7 a1 M k) + 0)), (0, .ref (gA g (jM 0))), (1, .int a1)]) hx hb dX7_countState_52 hl (k := 1) rfl (by first | exact (nI_succ _).symm | rfl) (by decide) rfl (fun ls hl => ?_)
            refine lv_goto (tgt := 20) hx hb dX7_countState_55 (by decide) ?_
            have hw9 : WS g s (xM S (up2 M 0 0 (j_X7_countState_1 a1)) o) H locs := by
              exact hw
            have hl9 := lv_sub hl [0, 1, 2, 3] rfl
            have e8 : (L_countState7 a1 M k) + 0 = (L_countState7 a1 M (k + 1)) := by simp only [L_countState7, b_countState7, if_neg h4]
            rw [e8] at hl9
            exact ih (k + 1) (by omega) (by omega) _ _ hw9 _ hl9
          · refine lv_aload_n hx hb dX7_countState_36 rfl (lv_at hl 2 rfl) ?_
            refine lv_iload_n hx hb dX7_countState_37 rfl (lv_at hl 0 rfl) ?_
            refine kc_i hw (va_runV (As := [.int (nI k)]) (rest := [.int (L_countState7 a1 M k)]) ⟨hx, hb, hml, hc.2.2.1, hc.2.2.2⟩ (m_X7_standing l g S (up2 M 0 0 (j_X7_countState_1 a1)) o (nI k) _ _ (MN.up0 (by decide) (by decide) hN) (vp_in_nI (Nat.lt_of_lt_of_le hkn (by omega)) (by omega))) (kw_V hc 1 q1140 q1142 qs59 q8 q1143 rfl rfl (by decide +kernel) ⟨Nat.le_of_ble_eq_true rfl, Nat.le_of_ble_eq_true rfl⟩) (kp_V hk hw at_M rfl) rfl rfl hl.1 rfl (lv_room (Nat.le_of_ble_eq_true rfl)) dX7_countState_38 ⟨Nat.le_of_ble_eq_true rfl, Nat.le_of_ble_eq_true rfl⟩) (fun H locs hw => ?_)
            refine lv_iload_n hx hb dX7_countState_41 rfl (lv_at hl 3 rfl) ?_
            refine lv_icmp_ne (tgt := 49) hx hb dX7_countState_42 (by decide) (fun h6 => ?_) (fun h6 => ?_)
            · refine lv_iconst (v := 0) hx hb dX7_countState_49 (by decide) ?_
              refine lv_iadd hx hb dX7_countState_50 ?_
              refine lv_istore_n (lv' := [(2, .int ((L_countState7 a1 M k) + 0)), (3, .int (nI k)), (0, .ref (gA g (jM 0))), (1, .int a1)]) hx hb dX7_countState_51 rfl hl (by decide) rfl (fun ls hl => ?_)
              refine lv_iinc (v := nI (k + 1)) (lv' := [(3, .int (nI (k + 1))), (2, .int ((L_countState7 a1 M k) + 0)), (0, .ref (gA g (jM 0))), (1, .int a1)]) hx hb dX7_countState_52 hl (k := 1) rfl (by first | exact (nI_succ _).symm | rfl) (by decide) rfl (fun ls hl => ?_)
              refine lv_goto (tgt := 20) hx hb dX7_countState_55 (by decide) ?_
              have hw9 : WS g s (xM S (up2 M 0 0 (j_X7_countState_1 a1)) o) H locs := by
                exact hw
              have hl9 := lv_sub hl [0, 1, 2, 3] rfl
              have e8 : (L_countState7 a1 M k) + 0 = (L_countState7 a1 M (k + 1)) := by simp only [L_countState7, b_countState7, if_pos h4, if_neg h6]
              rw [e8] at hl9
              exact ih (k + 1) (by omega) (by omega) _ _ hw9 _ hl9
            · refine lv_iconst (v := 1) hx hb dX7_countState_45 (by decide) ?_
              refine lv_goto (tgt := 50) hx hb dX7_countState_46 (by decide) ?_
              refine lv_iadd hx hb dX7_countState_50 ?_
              refine lv_istore_n (lv' := [(2, .int ((L_countState7 a1 M k) + 1)), (3, .int (nI k)), (0, .ref (gA g (jM 0))), (1, .int a1)]) hx hb dX7_countState_51 rfl hl (by decide) rfl (fun ls hl => ?_)
              refine lv_iinc (v := nI (k + 1)) (lv' := [(3, .int (nI (k + 1))), (2, .int ((L_countState7 a1 M k) + 1)), (0, .ref (gA g (jM 0))), (1, .int a1)]) hx hb dX7_countState_52 hl (k := 1) rfl (by first | exact (nI_succ _).symm | rfl) (by decide) rfl (fun ls hl => ?_)
              refine lv_goto (tgt := 20) hx hb dX7_countState_55 (by decide) ?_
              have hw9 : WS g s (xM S (up2 M 0 0 (j_X7_countState_1 a1)) o) H locs := by
                exact hw
              have hl9 := lv_sub hl [0, 1, 2, 3] rfl
              have e8 : (L_countState7 a1 M k) + 1 = (L_countState7 a1 M (k + 1)) := by simp only [L_countState7, b_countState7, if_pos h4, if_pos h6]
              rw [e8] at hl9
              exact ih (k + 1) (by omega) (by omega) _ _ hw9 _ hl9
    exact LP2 ((M 0 3).toNatClampNeg + 1) 0 (Nat.zero_le _) (by omega) _ _ hw _ (lv_sub hl [0, 1, 2, 3] rfl)
  refine lv_iload_n hx hb dX7_countState_1 rfl (lv_at hl 1 rfl) ?_
  refine kc_i hw (va_runS (As := [.int a1]) (rest := [.ref (gA g (jM 0))]) ⟨hx, hb, hml, hc.2.2.1, hc.2.2.2⟩ (m_X7_isState l g S M o a1) (kw_S hc 1 q1203 q1204 q8 q1205 rfl rfl (by decide +kernel) ⟨Nat.le_of_ble_eq_true rfl, Nat.le_of_ble_eq_true rfl⟩) (kp_S hk hw) rfl rfl hl.1 rfl (lv_room (Nat.le_of_ble_eq_true rfl)) dX7_countState_2 ⟨Nat.le_of_ble_eq_true rfl, Nat.le_of_ble_eq_true rfl⟩) (fun H locs hw => ?_)
  refine lv_if_eq (tgt := 12) hx hb dX7_countState_5 (by decide) (fun h9 => ?_) (fun h9 => ?_)
  · refine lv_iconst (v := 1) hx hb dX7_countState_12 (by decide) ?_
    exact J1 1 (by simp only [j_X7_countState_1, if_pos h9]) _ _ hw
  · refine lv_iconst (v := 0) hx hb dX7_countState_8 (by decide) ?_
    refine lv_goto (tgt := 13) hx hb dX7_countState_9 (by decide) ?_
    exact J1 0 (by simp only [j_X7_countState_1, if_neg h9]) _ _ hw
def j_X7_countOf_1 (a1 : Int32) : Int32 :=
  (if f_X7_in a1 0 49 = 0 then 1 else 0)
def b_countOf7 (a1 : Int32) (M : BT) (k : Nat) (z : Int32) : Int32 :=
  (if (j_X7_countOf_1 a1) = 0 then (if M 8 k = a1 then z + 1 else z + 0) else z + 0)
def L_countOf7 (a1 : Int32) (M : BT) : Nat → Int32
  | 0 => 0
  | k + 1 => b_countOf7 a1 M k (L_countOf7 a1 M k)
def f_X7_countOf (a1 : Int32) (M : BT) : Int32 × BT :=
  ((L_countOf7 a1 M ((M 0 3).toNatClampNeg)), up2 M 0 0 (j_X7_countOf_1 a1))
theorem cn_X7_countOf {a1 : Int32} {M : BT} {n m9 : Nat} (hN : MN M n m9) : MN ((f_X7_countOf a1 M).2) n m9 := by
  unfold f_X7_countOf
  exact (MN.up0 (by decide) (by decide) hN)
set_option maxHeartbeats 4000000 in
set_option maxRecDepth 100000 in
theorem m_X7_countOf (l : Launch) (g : wG) (S : Nat → BT) (M : BT) (o : (Nat → Int64) × (Nat → UInt64)) (a1 : Int32) (n m9 : Nat) (hN : MN M n m9) : mI l yX7_countOf cX7_countOf 4 (some .int) ({ frames := 1, cells := 0, slots := 0, locals := 22 } : Room) 0 0 g (xM S M o) [.ref (gA g (jM 0)), .int a1] ((f_X7_countOf a1 M).1) (xM S ((f_X7_countOf a1 M).2) o) := by
  refine Met.ofW (cc := cX7_countOf) (maxL := 4) (ret := some .int) (by decide) rfl ?_
  intro p9 e s m args below meth c s₁ BL hml hv
  obtain ⟨rfl, hk, hPB⟩ := hv
  have hx := BL.exec
  have hb := BL.bytes
  have hc : CX p9 c cX7_countOf s _ m RX7 := ⟨hx, hb, findClass_of_methodNamed BL.named, fun w h => atoms_spec BL.pre w (List.mem_cons_of_mem _ h)⟩
  have hr := BL.returns
  have hlocks := BL.notSynchronized
  have hw : WS g s (xM S M o) s.heap [] := ⟨hPB, va_S.rf⟩
  have hl := lv_entry ([.ref (gA g (jM 0)), .int a1]) (n := 4) (Nat.le_of_ble_eq_true rfl)
  rw [lg_entry_eq]
  generalize (lg_sl ([.ref (gA g (jM 0)), .int a1]) ++ List.replicate (4 - (lg_sl ([.ref (gA g (jM 0)), .int a1])).length) Slot.unset).toArray = ls at hl ⊢
  have hl : lv_has ls 4 [(0, .ref (gA g (jM 0))), (1, .int a1)] := hl
  refine lv_aload_n hx hb dX7_countOf_0 rfl (lv_at hl 0 rfl) ?_
  have J1 : ∀ (v : Int32), v = (j_X7_countOf_1 a1) → ∀ (H : Heap) (locs : List Loc), WS g s (xM S M o) H locs → W p9 l e ({ frames := 1, cells := 0, slots := 0, locals := 22 } : Room) s m ([.ref (gA g (jM 0)), .int a1] : List Value).toArray below meth c H locs 0 0 (MQ below (va_Qi (fun (v : Int32) (u : wSt) => v = (f_X7_countOf a1 M).1 ∧ u = (xM S ((f_X7_countOf a1 M).2) o)) (PB g) (AA g)) (([.ref (gA g (jM 0)), .int a1] : List Value).toArray) s 0 0 (AA g)) (F0 m 16 ls (.int v :: ([.ref (gA g (jM 0))] : List Value))) := by
    intro v ev H locs hw
    subst ev
    refine k_put hc hk hw (x' := (xM S (up2 M 0 0 (j_X7_countOf_1 a1)) o)) at_M rfl iX7 tyX7 tyX7_ok nmX7 0 (by decide) q1035 rfl rfl rfl (Nat.le_of_ble_eq_true rfl) dX7_countOf_16 (ms_0 (by decide)) (fun H locs hw => ?_)
    refine lv_iconst (v := 0) hx hb dX7_countOf_19 (by decide) ?_
    refine lv_istore_n (lv' := [(2, .int 0), (0, .ref (gA g (jM 0))), (1, .int a1)]) hx hb dX7_countOf_20 rfl hl (by decide) rfl (fun ls hl => ?_)
    refine lv_iconst (v := 0) hx hb dX7_countOf_21 (by decide) ?_
    refine lv_istore_n (lv' := [(3, .int 0), (2, .int 0), (0, .ref (gA g (jM 0))), (1, .int a1)]) hx hb dX7_countOf_22 rfl hl (by decide) rfl (fun ls hl => ?_)
    have LP2 : ∀ (f k : Nat), k ≤ (M 0 3).toNatClampNeg → (M 0 3).toNatClampNeg + 1 ≤ k + f → ∀ (H : Heap) (locs : List Loc), WS g s (xM S (up2 M 0 0 (j_X7_countOf_1 a1)) o) H locs → ∀ (ls : Array Slot), lv_has ls 4 [(3, .int (nI k)), (2, .int (L_countOf7 a1 M k)), (0, .ref (gA g (jM 0))), (1, .int a1)] → W p9 l e ({ frames := 1, cells := 0, slots := 0, locals := 22 } : Room) s m ([.ref (gA g (jM 0)), .int a1] : List Value).toArray below meth c H locs 0 0 (MQ below (va_Qi (fun (v : Int32) (u : wSt) => v = (f_X7_countOf a1 M).1 ∧ u = (xM S ((f_X7_countOf a1 M).2) o)) (PB g) (AA g)) (([.ref (gA g (jM 0)), .int a1] : List Value).toArray) s 0 0 (AA g)) (F0 m 23 ls []) := by
      intro f
      induction f with
      | zero => intro k h1 h2; exact absurd h2 (by omega)
      | succ f ih =>
        intro k hk9 hf9 H locs hw ls hl
        have hl4 := MN.l4 hN
        refine lv_iload_n hx hb dX7_countOf_23 rfl (lv_at hl 0 rfl) ?_
        refine lv_aload_n hx hb dX7_countOf_24 rfl (lv_at hl 2 rfl) ?_
        refine k_get hc hk hw at_M rfl iX7 3 (by decide) q1038 (v := .int (M 0 3)) rfl dX7_countOf_25 ?_
        refine lv_icmp_ge (tgt := 62) hx hb dX7_countOf_28 (by decide) (fun h3 => ?_) (fun h3 => ?_)
        · have hkn := lp_out h3 (MN.cc hN hN) hk9 (by omega)
          subst hkn
          refine lv_iload_n hx hb dX7_countOf_62 rfl (lv_at hl 1 rfl) ?_
          exact W.iret (v := (L_countOf7 a1 M ((M 0 3).toNatClampNeg))) hx hb hr (fun t9 ht hW => ke_i hw ht (by simp only [f_X7_countOf]) (by simp only [f_X7_countOf])) hw.2.2.2 dX7_countOf_63
        · have hkn := lp_in h3 (MN.cc hN hN) hk9 (by omega)
          refine lv_iload_n hx hb dX7_countOf_31 rfl (lv_at hl 1 rfl) ?_
          refine lv_aload_n hx hb dX7_countOf_32 rfl (lv_at hl 2 rfl) ?_
          refine k_get hc hk hw at_M rfl iX7 0 (by decide) q1035 (v := .int (j_X7_countOf_1 a1)) rfl dX7_countOf_33 ?_
          refine lv_if_ne (tgt := 53) hx hb dX7_countOf_36 (by decide) (fun h4 => ?_) (fun h4 => ?_)
          · refine lv_iconst (v := 0) hx hb dX7_countOf_53 (by decide) ?_
            refine lv_iadd hx hb dX7_countOf_54 ?_
            refine lv_istore_n (lv' := [(2, .int ((L_countOf7 a1 M k) + 0)), (3, .int (nI k)), (0, .ref (gA g (jM 0))), (1, .int a1)]) hx hb dX7_countOf_55 rfl hl (by decide) rfl (fun ls hl => ?_)
            refine lv_iinc (v := nI (k + 1)) (lv' := [(3, .int (nI (k + 1))), (2, .int ((L_countOf7 a1 M k) + 0)), (0, .ref (gA g (jM 0))), (1, .int a1)]) hx hb dX7_countOf_56 hl (k := 1) rfl (by first | exact (nI_succ _).symm | rfl) (by decide) rfl (fun ls hl => ?_)
            refine lv_goto (tgt := 23) hx hb dX7_countOf_59 (by decide) ?_
            have hw9 : WS g s (xM S (up2 M 0 0 (j_X7_countOf_1 a1)) o) H locs := by
              exact hw
            have hl9 := lv_sub hl [0, 1, 2, 3] rfl
            have e8 : (L_countOf7 a1 M k) + 0 = (L_countOf7 a1 M (k + 1)) := by simp only [L_countOf7, b_countOf7, if_neg h4]
            rw [e8] at hl9
            exact ih (k + 1) (by omega) (by omega) _ _ hw9 _ hl9
          · refine lv_aload_n hx hb dX7_countOf_39 rfl (lv_at hl 2 rfl) ?_
            refine k_get hc hk hw at_M rfl iX7 11 (by decide) q1046 (v := .ref (gA g (jM 8))) rfl dX7_countOf_40 ?_
            refine lv_iload_n hx hb dX7_countOf_43 rfl (lv_at hl 0 rfl) ?_
            refine k_iald (f := M 8) (n := k) hc hk hw (at_Mk (k := 8) (t := 0) (n := 20) (by decide) (by decide) (by decide) (by decide)) (vp_in_nI (Nat.lt_of_lt_of_le hkn (by omega)) (by omega)) (nI_clamp (by have := hkn; omega)) dX7_countOf_44 ?_
            refine lv_iload_n hx hb dX7_countOf_45 rfl (lv_at hl 3 rfl) ?_
            refine lv_icmp_ne (tgt := 53) hx hb dX7_countOf_46 (by decide) (fun h6 => ?_) (fun h6 => ?_)
            · refine lv_iconst (v := 0) hx hb dX7_countOf_53 (by decide) ?_
              refine lv_iadd hx hb dX7_countOf_54 ?_
              refine lv_istore_n (lv' := [(2, .int ((L_countOf7 a1 M k) + 0)), (3, .int (nI k)), (0, .ref (gA g (jM 0))), (1, .int a1)]) hx hb dX7_countOf_55 rfl hl (by decide) rfl (fun ls hl => ?_)
              refine lv_iinc (v := nI (k + 1)) (lv' := [(3, .int (nI (k + 1))), (2, .int ((L_countOf7 a1 M k) + 0)), (0, .ref (gA g (jM 0))), (1, .int a1)]) hx hb dX7_countOf_56 hl (k := 1) rfl (by first | exact (nI_succ _).symm | rfl) (by decide) rfl (fun ls hl => ?_)
              refine lv_goto (tgt := 23) hx hb dX7_countOf_59 (by decide) ?_
              have hw9 : WS g s (xM S (up2 M 0 0 (j_X7_countOf_1 a1)) o) H locs := by
                exact hw
              have hl9 := lv_sub hl [0, 1, 2, 3] rfl
              have e8 : (L_countOf7 a1 M k) + 0 = (L_countOf7 a1 M (k + 1)) := by simp only [L_countOf7, b_countOf7, if_pos h4, if_neg h6]
              rw [e8] at hl9
              exact ih (k + 1) (by omega) (by omega) _ _ hw9 _ hl9
            · refine lv_iconst (v := 1) hx hb dX7_countOf_49 (by decide) ?_
              refine lv_goto (tgt := 54) hx hb dX7_countOf_50 (by decide) ?_
              refine lv_iadd hx hb dX7_countOf_54 ?_
              refine lv_istore_n (lv' := [(2, .int ((L_countOf7 a1 M k) + 1)), (3, .int (nI k)), (0, .ref (gA g (jM 0))), (1, .int a1)]) hx hb dX7_countOf_55 rfl hl (by decide) rfl (fun ls hl => ?_)
              refine lv_iinc (v := nI (k + 1)) (lv' := [(3, .int (nI (k + 1))), (2, .int ((L_countOf7 a1 M k) + 1)), (0, .ref (gA g (jM 0))), (1, .int a1)]) hx hb dX7_countOf_56 hl (k := 1) rfl (by first | exact (nI_succ _).symm | rfl) (by decide) rfl (fun ls hl => ?_)
              refine lv_goto (tgt := 23) hx hb dX7_countOf_59 (by decide) ?_
              have hw9 : WS g s (xM S (up2 M 0 0 (j_X7_countOf_1 a1)) o) H locs := by
                exact hw
              have hl9 := lv_sub hl [0, 1, 2, 3] rfl
              have e8 : (L_countOf7 a1 M k) + 1 = (L_countOf7 a1 M (k + 1)) := by simp only [L_countOf7, b_countOf7, if_pos h4, if_pos h6]
              rw [e8] at hl9
              exact ih (k + 1) (by omega) (by omega) _ _ hw9 _ hl9
    exact LP2 ((M 0 3).toNatClampNeg + 1) 0 (Nat.zero_le _) (by omega) _ _ hw _ (lv_sub hl [0, 1, 2, 3] rfl)
  refine lv_iload_n hx hb dX7_countOf_1 rfl (lv_at hl 1 rfl) ?_
  refine lv_iconst (v := 0) hx hb dX7_countOf_2 (by decide) ?_
  refine lv_bipush (v := 49) hx hb dX7_countOf_3 (by decide) ?_
  refine kc_i hw (va_runS (As := [.int a1, .int 0, .int 49]) (rest := [.ref (gA g (jM 0))]) ⟨hx, hb, hml, hc.2.2.1, hc.2.2.2⟩ (m_X7_in l g S M o a1 0 49) (kw_S hc 3 q1133 q1134 q8 q1135 rfl rfl (by decide +kernel) ⟨Nat.le_of_ble_eq_true rfl, Nat.le_of_ble_eq_true rfl⟩) (kp_S hk hw) rfl rfl hl.1 rfl (lv_room (Nat.le_of_ble_eq_true rfl)) dX7_countOf_5 ⟨Nat.le_of_ble_eq_true rfl, Nat.le_of_ble_eq_true rfl⟩) (fun H locs hw => ?_)
  refine lv_if_eq (tgt := 15) hx hb dX7_countOf_8 (by decide) (fun h9 => ?_) (fun h9 => ?_)
  · refine lv_iconst (v := 1) hx hb dX7_countOf_15 (by decide) ?_
    exact J1 1 (by simp only [j_X7_countOf_1, if_pos h9]) _ _ hw
  · refine lv_iconst (v := 0) hx hb dX7_countOf_11 (by decide) ?_
    refine lv_goto (tgt := 16) hx hb dX7_countOf_12 (by decide) ?_
    exact J1 0 (by simp only [j_X7_countOf_1, if_neg h9]) _ _ hw
def f_X7_isNot (a1 : Int32) (a2 : Int32) (M : BT) : Int32 × BT :=
  (if (f_X7_noComplaint a1 M).1 = 0 then (if f_X7_isJoined a1 ((f_X7_noComplaint a1 M).2) = 0 then (if ((f_X7_noComplaint a1 M).2) 11 ((a1).toNatClampNeg) = a2 then (0, up2 ((f_X7_noComplaint a1 M).2) 0 0 0) else (1, up2 ((f_X7_noComplaint a1 M).2) 0 0 2)) else (1, up2 ((f_X7_noComplaint a1 M).2) 0 0 2)) else (1, (f_X7_noComplaint a1 M).2))
theorem cn_X7_isNot {a1 : Int32} {a2 : Int32} {M : BT} {n m9 : Nat} (hN : MN M n m9) : MN ((f_X7_isNot a1 a2 M).2) n m9 := by
  unfold f_X7_isNot
  by_cases h1 : (f_X7_noComplaint a1 M).1 = 0
  · simp only [if_pos h1]
    by_cases h2 : f_X7_isJoined a1 ((f_X7_noComplaint a1 M).2) = 0
    · simp only [if_pos h2]
      by_cases h4 : ((f_X7_noComplaint a1 M).2) 11 ((a1).toNatClampNeg) = a2
      · simp only [if_pos h4]
        exact (MN.up0 (by decide) (by decide) (cn_X7_noComplaint hN))
      · simp only [if_neg h4]
        exact (MN.up0 (by decide) (by decide) (cn_X7_noComplaint hN))
    · simp only [if_neg h2]
      exact (MN.up0 (by decide) (by decide) (cn_X7_noComplaint hN))
  · simp only [if_neg h1]
    exact (cn_X7_noComplaint hN)
set_option maxHeartbeats 4000000 in
set_option maxRecDepth 100000 in
theorem m_X7_isNot (l : Launch) (g : wG) (S : Nat → BT) (M : BT) (o : (Nat → Int64) × (Nat → UInt64)) (a1 : Int32) (a2 : Int32) (n m9 : Nat) (hN : MN M n m9) : mI l yX7_isNot cX7_isNot 3 (some .boolean) ({ frames := 3, cells := 0, slots := 0, locals := 64 } : Room) 0 0 g (xM S M o) [.ref (gA g (jM 0)), .int a1, .int a2] ((f_X7_isNot a1 a2 M).1) (xM S ((f_X7_isNot a1 a2 M).2) o) := by
  refine Met.ofW (cc := cX7_isNot) (maxL := 3) (ret := some .boolean) (by decide) rfl ?_
  intro p9 e s m args below meth c s₁ BL hml hv
  obtain ⟨rfl, hk, hPB⟩ := hv
  have hx := BL.exec
  have hb := BL.bytes
  have hc : CX p9 c cX7_isNot s _ m RX7 := ⟨hx, hb, findClass_of_methodNamed BL.named, fun w h => atoms_spec BL.pre w (List.mem_cons_of_mem _ h)⟩
  have hr := BL.returns
  have hlocks := BL.notSynchronized
  have hw : WS g s (xM S M o) s.heap [] := ⟨hPB, va_S.rf⟩
  have hl := lv_entry ([.ref (gA g (jM 0)), .int a1, .int a2]) (n := 3) (Nat.le_of_ble_eq_true rfl)
  rw [lg_entry_eq]
  generalize (lg_sl ([.ref (gA g (jM 0)), .int a1, .int a2]) ++ List.replicate (3 - (lg_sl ([.ref (gA g (jM 0)), .int a1, .int a2])).length) Slot.unset).toArray = ls at hl ⊢
  have hl : lv_has ls 3 [(0, .ref (gA g (jM 0))), (1, .int a1), (2, .int a2)] := hl
  refine lv_aload_n hx hb dX7_isNot_0 rfl (lv_at hl 0 rfl) ?_
  refine lv_iload_n hx hb dX7_isNot_1 rfl (lv_at hl 1 rfl) ?_
  refine kc_i hw (va_runV (As := [.int a1]) (rest := []) ⟨hx, hb, hml, hc.2.2.1, hc.2.2.2⟩ (m_X7_noComplaint l g S M o a1 _ _ hN) (kw_V hc 1 q1172 q1174 qs64 q8 q1175 rfl rfl (by decide +kernel) ⟨Nat.le_of_ble_eq_true rfl, Nat.le_of_ble_eq_true rfl⟩) (kp_V hk hw at_M rfl) rfl rfl hl.1 rfl (lv_room (Nat.le_of_ble_eq_true rfl)) dX7_isNot_2 ⟨Nat.le_of_ble_eq_true rfl, Nat.le_of_ble_eq_true rfl⟩) (fun H locs hw => ?_)
  refine lv_if_eq (tgt := 10) hx hb dX7_isNot_5 (by decide) (fun h1 => ?_) (fun h1 => ?_)
  · refine lv_aload_n hx hb dX7_isNot_10 rfl (lv_at hl 0 rfl) ?_
    refine lv_aload_n hx hb dX7_isNot_11 rfl (lv_at hl 0 rfl) ?_
    refine lv_iload_n hx hb dX7_isNot_12 rfl (lv_at hl 1 rfl) ?_
    refine kc_i hw (va_runV (As := [.int a1]) (rest := [.ref (gA g (jM 0))]) ⟨hx, hb, hml, hc.2.2.1, hc.2.2.2⟩ (m_X7_isJoined l g S ((f_X7_noComplaint a1 M).2) o a1 _ _ (cn_X7_noComplaint hN) (noComplaint_in hN h1)) (kw_V hc 1 q1148 q1150 qs61 q8 q1151 rfl rfl (by decide +kernel) ⟨Nat.le_of_ble_eq_true rfl, Nat.le_of_ble_eq_true rfl⟩) (kp_V hk hw at_M rfl) rfl rfl hl.1 rfl (lv_room (Nat.le_of_ble_eq_true rfl)) dX7_isNot_13 ⟨Nat.le_of_ble_eq_true rfl, Nat.le_of_ble_eq_true rfl⟩) (fun H locs hw => ?_)
    refine lv_if_ne (tgt := 29) hx hb dX7_isNot_16 (by decide) (fun h2 => ?_) (fun h2 => ?_)
    · refine lv_iconst (v := 2) hx hb dX7_isNot_29 (by decide) ?_
      refine lv_goto (tgt := 34) hx hb dX7_isNot_30 (by decide) ?_
      refine k_put hc hk hw (x' := (xM S (up2 ((f_X7_noComplaint a1 M).2) 0 0 2) o)) at_M rfl iX7 tyX7 tyX7_ok nmX7 0 (by decide) q1035 rfl rfl rfl (Nat.le_of_ble_eq_true rfl) dX7_isNot_34 (ms_0 (by decide)) (fun H locs hw => ?_)
      refine lv_aload_n hx hb dX7_isNot_37 rfl (lv_at hl 0 rfl) ?_
      refine k_get hc hk hw at_M rfl iX7 0 (by decide) q1035 (v := .int 2) rfl dX7_isNot_38 ?_
      refine lv_if_le (tgt := 48) hx hb dX7_isNot_41 (by decide) (fun h3 => absurd h3 (by decide)) (fun _ => ?_)
      refine lv_iconst (v := 1) hx hb dX7_isNot_44 (by decide) ?_
      refine lv_goto (tgt := 49) hx hb dX7_isNot_45 (by decide) ?_
      exact W.zret (v := 1) hx hb hr (by decide +kernel) (fun t9 ht hW => ke_i hw ht (by simp only [f_X7_isNot, if_pos h1, if_neg h2]) (by simp only [f_X7_isNot, if_pos h1, if_neg h2])) hw.2.2.2 dX7_isNot_49
    · refine lv_aload_n hx hb dX7_isNot_19 rfl (lv_at hl 0 rfl) ?_
      refine k_get hc hk hw at_M rfl iX7 14 (by decide) q1049 (v := .ref (gA g (jM 11))) rfl dX7_isNot_20 ?_
      refine lv_iload_n hx hb dX7_isNot_23 rfl (lv_at hl 1 rfl) ?_
      refine k_cald (f := ((f_X7_noComplaint a1 M).2) 11) (n := ((a1).toNatClampNeg)) hc hk hw (at_Mk (k := 11) (t := 1) (n := 20) (by decide) (by decide) (by decide) (by decide)) (noComplaint_in hN h1) rfl dX7_isNot_24 ?_
      refine lv_iload_n hx hb dX7_isNot_25 rfl (lv_at hl 2 rfl) ?_
      refine lv_icmp_eq (tgt := 33) hx hb dX7_isNot_26 (by decide) (fun h4 => ?_) (fun h4 => ?_)
      · refine lv_iconst (v := 0) hx hb dX7_isNot_33 (by decide) ?_
        refine k_put hc hk hw (x' := (xM S (up2 ((f_X7_noComplaint a1 M).2) 0 0 0) o)) at_M rfl iX7 tyX7 tyX7_ok nmX7 0 (by decide) q1035 rfl rfl rfl (Nat.le_of_ble_eq_true rfl) dX7_isNot_34 (ms_0 (by decide)) (fun H locs hw => ?_)
        refine lv_aload_n hx hb dX7_isNot_37 rfl (lv_at hl 0 rfl) ?_
        refine k_get hc hk hw at_M rfl iX7 0 (by decide) q1035 (v := .int 0) rfl dX7_isNot_38 ?_
        refine lv_if_le (tgt := 48) hx hb dX7_isNot_41 (by decide) (fun _ => ?_) (fun h5 => absurd h5 (by decide))
        refine lv_iconst (v := 0) hx hb dX7_isNot_48 (by decide) ?_
        exact W.zret (v := 0) hx hb hr (by decide +kernel) (fun t9 ht hW => ke_i hw ht (by simp only [f_X7_isNot, if_pos h1, if_pos h2, if_pos h4]) (by simp only [f_X7_isNot, if_pos h1, if_pos h2, if_pos h4])) hw.2.2.2 dX7_isNot_49
      · refine lv_iconst (v := 2) hx hb dX7_isNot_29 (by decide) ?_
        refine lv_goto (tgt := 34) hx hb dX7_isNot_30 (by decide) ?_
        refine k_put hc hk hw (x' := (xM S (up2 ((f_X7_noComplaint a1 M).2) 0 0 2) o)) at_M rfl iX7 tyX7 tyX7_ok nmX7 0 (by decide) q1035 rfl rfl rfl (Nat.le_of_ble_eq_true rfl) dX7_isNot_34 (ms_0 (by decide)) (fun H locs hw => ?_)
        refine lv_aload_n hx hb dX7_isNot_37 rfl (lv_at hl 0 rfl) ?_
        refine k_get hc hk hw at_M rfl iX7 0 (by decide) q1035 (v := .int 2) rfl dX7_isNot_38 ?_
        refine lv_if_le (tgt := 48) hx hb dX7_isNot_41 (by decide) (fun h6 => absurd h6 (by decide)) (fun _ => ?_)
        refine lv_iconst (v := 1) hx hb dX7_isNot_44 (by decide) ?_
        refine lv_goto (tgt := 49) hx hb dX7_isNot_45 (by decide) ?_
        exact W.zret (v := 1) hx hb hr (by decide +kernel) (fun t9 ht hW => ke_i hw ht (by simp only [f_X7_isNot, if_pos h1, if_pos h2, if_neg h4]) (by simp only [f_X7_isNot, if_pos h1, if_pos h2, if_neg h4])) hw.2.2.2 dX7_isNot_49
  · refine lv_iconst (v := 1) hx hb dX7_isNot_8 (by decide) ?_
    exact W.zret (v := 1) hx hb hr (by decide +kernel) (fun t9 ht hW => ke_i hw ht (by simp only [f_X7_isNot, if_neg h1]) (by simp only [f_X7_isNot, if_neg h1])) hw.2.2.2 dX7_isNot_9
theorem isNot_in {a1 a2 : Int32} {M : BT} {n m : Nat} (hN : MN M n m) (h : (f_X7_isNot a1 a2 M).1 = 0) : vp_in a1 20 := by
  unfold f_X7_isNot at h
  by_cases h1 : (f_X7_noComplaint a1 M).1 = 0
  · exact noComplaint_in hN h1
  · simp only [if_neg h1] at h
    exact absurd h (by decide)
def f_X7_isOver (a1 : Int32) (M : BT) : Int32 :=
  (if M 11 a1.toNatClampNeg = 97 then (if M 0 1 ≤ M 16 a1.toNatClampNeg then 0 else 1) else 0)
set_option maxHeartbeats 4000000 in
set_option maxRecDepth 100000 in
theorem m_X7_isOver (l : Launch) (g : wG) (S : Nat → BT) (M : BT) (o : (Nat → Int64) × (Nat → UInt64)) (a1 : Int32) (n m9 : Nat) (hN : MN M n m9) (hi : vp_in a1 20) : mI l yX7_isOver cX7_isOver 2 (some .boolean) ({ frames := 0, cells := 0, slots := 0, locals := 0 } : Room) 0 0 g (xM S M o) [.ref (gA g (jM 0)), .int a1] (f_X7_isOver a1 M) (xM S M o) := by
  refine Met.ofW (cc := cX7_isOver) (maxL := 2) (ret := some .boolean) (by decide) rfl ?_
  intro p9 e s m args below meth c s₁ BL hml hv
  obtain ⟨rfl, hk, hPB⟩ := hv
  have hx := BL.exec
  have hb := BL.bytes
  have hc : CX p9 c cX7_isOver s _ m RX7 := ⟨hx, hb, findClass_of_methodNamed BL.named, fun w h => atoms_spec BL.pre w (List.mem_cons_of_mem _ h)⟩
  have hr := BL.returns
  have hlocks := BL.notSynchronized
  have hw : WS g s (xM S M o) s.heap [] := ⟨hPB, va_S.rf⟩
  have hl := lv_entry ([.ref (gA g (jM 0)), .int a1]) (n := 2) (Nat.le_of_ble_eq_true rfl)
  rw [lg_entry_eq]
  generalize (lg_sl ([.ref (gA g (jM 0)), .int a1]) ++ List.replicate (2 - (lg_sl ([.ref (gA g (jM 0)), .int a1])).length) Slot.unset).toArray = ls at hl ⊢
  have hl : lv_has ls 2 [(0, .ref (gA g (jM 0))), (1, .int a1)] := hl
  refine lv_aload_n hx hb dX7_isOver_0 rfl (lv_at hl 0 rfl) ?_
  refine k_get hc hk hw at_M rfl iX7 14 (by decide) q1049 (v := .ref (gA g (jM 11))) rfl dX7_isOver_1 ?_
  refine lv_iload_n hx hb dX7_isOver_4 rfl (lv_at hl 1 rfl) ?_
  refine k_cald (f := M 11) (n := a1.toNatClampNeg) hc hk hw (at_Mk (k := 11) (t := 1) (n := 20) (by decide) (by decide) (by decide) (by decide)) hi rfl dX7_isOver_5 ?_
  refine lv_bipush (v := 97) hx hb dX7_isOver_6 (by decide) ?_
  refine lv_icmp_ne (tgt := 28) hx hb dX7_isOver_8 (by decide) (fun h1 => ?_) (fun h1 => ?_)
  · refine lv_iconst (v := 0) hx hb dX7_isOver_28 (by decide) ?_
    exact W.zret (v := 0) hx hb hr (by decide +kernel) (fun t9 ht hW => ke_i hw ht (by simp only [f_X7_isOver, if_neg h1]) rfl) hw.2.2.2 dX7_isOver_29
  · refine lv_aload_n hx hb dX7_isOver_11 rfl (lv_at hl 0 rfl) ?_
    refine k_get hc hk hw at_M rfl iX7 1 (by decide) q1036 (v := .int (M 0 1)) rfl dX7_isOver_12 ?_
    refine lv_aload_n hx hb dX7_isOver_15 rfl (lv_at hl 0 rfl) ?_
    refine k_get hc hk hw at_M rfl iX7 19 (by decide) q1054 (v := .ref (gA g (jM 16))) rfl dX7_isOver_16 ?_
    refine lv_iload_n hx hb dX7_isOver_19 rfl (lv_at hl 1 rfl) ?_
    refine k_iald (f := M 16) (n := a1.toNatClampNeg) hc hk hw (at_Mk (k := 16) (t := 0) (n := 20) (by decide) (by decide) (by decide) (by decide)) hi rfl dX7_isOver_20 ?_
    refine lv_icmp_le (tgt := 28) hx hb dX7_isOver_21 (by decide) (fun h2 => ?_) (fun h2 => ?_)
    · refine lv_iconst (v := 0) hx hb dX7_isOver_28 (by decide) ?_
      exact W.zret (v := 0) hx hb hr (by decide +kernel) (fun t9 ht hW => ke_i hw ht (by simp only [f_X7_isOver, if_pos h1, if_pos h2]) rfl) hw.2.2.2 dX7_isOver_29
    · refine lv_iconst (v := 1) hx hb dX7_isOver_24 (by decide) ?_
      refine lv_goto (tgt := 29) hx hb dX7_isOver_25 (by decide) ?_
      exact W.zret (v := 1) hx hb hr (by decide +kernel) (fun t9 ht hW => ke_i hw ht (by simp only [f_X7_isOver, if_pos h1, if_neg h2]) rfl) hw.2.2.2 dX7_isOver_29
def f_X7_ask (a1 : Int32) (M : BT) : Int32 × BT :=
  (if (f_X7_isNot a1 114 M).1 = 0 then ((up2 (up2 ((f_X7_isNot a1 114 M).2) 11 ((a1).toNatClampNeg) 97) 16 ((a1).toNatClampNeg) ((((f_X7_isNot a1 114 M).2) 0 1) + (((f_X7_isNot a1 114 M).2) 1 ((((f_X7_isNot a1 114 M).2) 6 ((a1).toNatClampNeg)).toNatClampNeg)))) 16 ((a1).toNatClampNeg), up2 (up2 ((f_X7_isNot a1 114 M).2) 11 ((a1).toNatClampNeg) 97) 16 ((a1).toNatClampNeg) ((((f_X7_isNot a1 114 M).2) 0 1) + (((f_X7_isNot a1 114 M).2) 1 ((((f_X7_isNot a1 114 M).2) 6 ((a1).toNatClampNeg)).toNatClampNeg)))) else (0, (f_X7_isNot a1 114 M).2))
theorem cn_X7_ask {a1 : Int32} {M : BT} {n m9 : Nat} (hN : MN M n m9) : MN ((f_X7_ask a1 M).2) n m9 := by
  unfold f_X7_ask
  by_cases h1 : (f_X7_isNot a1 114 M).1 = 0
  · simp only [if_pos h1]
    exact (MN.upf (by decide) (by decide) (by decide) (by decide) (by decide) (by decide) (by decide) (by decide) (MN.up11 ⟨by decide +kernel, by decide +kernel, by decide +kernel⟩ (cn_X7_isNot hN)))
  · simp only [if_neg h1]
    exact (cn_X7_isNot hN)
set_option maxHeartbeats 4000000 in
set_option maxRecDepth 100000 in
theorem m_X7_ask (l : Launch) (g : wG) (S : Nat → BT) (M : BT) (o : (Nat → Int64) × (Nat → UInt64)) (a1 : Int32) (n m9 : Nat) (hN : MN M n m9) : mI l yX7_ask cX7_ask 2 (some .int) ({ frames := 4, cells := 0, slots := 0, locals := 86 } : Room) 0 0 g (xM S M o) [.ref (gA g (jM 0)), .int a1] ((f_X7_ask a1 M).1) (xM S ((f_X7_ask a1 M).2) o) := by
  refine Met.ofW (cc := cX7_ask) (maxL := 2) (ret := some .int) (by decide) rfl ?_
  intro p9 e s m args below meth c s₁ BL hml hv
  obtain ⟨rfl, hk, hPB⟩ := hv
  have hx := BL.exec
  have hb := BL.bytes
  have hc : CX p9 c cX7_ask s _ m RX7 := ⟨hx, hb, findClass_of_methodNamed BL.named, fun w h => atoms_spec BL.pre w (List.mem_cons_of_mem _ h)⟩
  have hr := BL.returns
  have hlocks := BL.notSynchronized
  have hw : WS g s (xM S M o) s.heap [] := ⟨hPB, va_S.rf⟩
  have hl := lv_entry ([.ref (gA g (jM 0)), .int a1]) (n := 2) (Nat.le_of_ble_eq_true rfl)
  rw [lg_entry_eq]
  generalize (lg_sl ([.ref (gA g (jM 0)), .int a1]) ++ List.replicate (2 - (lg_sl ([.ref (gA g (jM 0)), .int a1])).length) Slot.unset).toArray = ls at hl ⊢
  have hl : lv_has ls 2 [(0, .ref (gA g (jM 0))), (1, .int a1)] := hl
  refine lv_aload_n hx hb dX7_ask_0 rfl (lv_at hl 0 rfl) ?_
  refine lv_iload_n hx hb dX7_ask_1 rfl (lv_at hl 1 rfl) ?_
  refine lv_bipush (v := 114) hx hb dX7_ask_2 (by decide) ?_
  refine kc_i hw (va_runV (As := [.int a1, .int 114]) (rest := []) ⟨hx, hb, hml, hc.2.2.1, hc.2.2.2⟩ (m_X7_isNot l g S M o a1 114 _ _ hN) (kw_V hc 2 q1214 q1216 qs66 q8 q1217 rfl rfl (by decide +kernel) ⟨Nat.le_of_ble_eq_true rfl, Nat.le_of_ble_eq_true rfl⟩) (kp_V hk hw at_M rfl) rfl rfl hl.1 rfl (lv_room (Nat.le_of_ble_eq_true rfl)) dX7_ask_4 ⟨Nat.le_of_ble_eq_true rfl, Nat.le_of_ble_eq_true rfl⟩) (fun H locs hw => ?_)
  refine lv_if_eq (tgt := 12) hx hb dX7_ask_7 (by decide) (fun h1 => ?_) (fun h1 => ?_)
  · refine lv_aload_n hx hb dX7_ask_12 rfl (lv_at hl 0 rfl) ?_
    refine k_get hc hk hw at_M rfl iX7 14 (by decide) q1049 (v := .ref (gA g (jM 11))) rfl dX7_ask_13 ?_
    refine lv_iload_n hx hb dX7_ask_16 rfl (lv_at hl 1 rfl) ?_
    refine lv_bipush (v := 97) hx hb dX7_ask_17 (by decide) ?_
    refine k_cast (x' := (xM S (up2 ((f_X7_isNot a1 114 M).2) 11 ((a1).toNatClampNeg) 97) o)) (f := ((f_X7_isNot a1 114 M).2) 11) (n := ((a1).toNatClampNeg)) hc hk hw (at_Mk (k := 11) (t := 1) (n := 20) (by decide) (by decide) (by decide) (by decide)) (isNot_in hN h1) rfl (by decide +kernel) dX7_ask_19 (ms_k (k := 11) (t := 1) (n := 20) (by decide) (by decide) (by decide) (by decide)) (fun H locs hw => ?_)
    refine lv_aload_n hx hb dX7_ask_20 rfl (lv_at hl 0 rfl) ?_
    refine k_get hc hk hw at_M rfl iX7 19 (by decide) q1054 (v := .ref (gA g (jM 16))) rfl dX7_ask_21 ?_
    refine lv_iload_n hx hb dX7_ask_24 rfl (lv_at hl 1 rfl) ?_
    refine lv_aload_n hx hb dX7_ask_25 rfl (lv_at hl 0 rfl) ?_
    refine k_get hc hk hw at_M rfl iX7 1 (by decide) q1036 (v := .int (((f_X7_isNot a1 114 M).2) 0 1)) rfl dX7_ask_26 ?_
    refine lv_aload_n hx hb dX7_ask_29 rfl (lv_at hl 0 rfl) ?_
    refine k_get hc hk hw at_M rfl iX7 4 (by decide) q1039 (v := .ref (gA g (jM 1))) rfl dX7_ask_30 ?_
    refine lv_aload_n hx hb dX7_ask_33 rfl (lv_at hl 0 rfl) ?_
    refine k_get hc hk hw at_M rfl iX7 9 (by decide) q1044 (v := .ref (gA g (jM 6))) rfl dX7_ask_34 ?_
    refine lv_iload_n hx hb dX7_ask_37 rfl (lv_at hl 1 rfl) ?_
    refine k_iald (f := ((f_X7_isNot a1 114 M).2) 6) (n := ((a1).toNatClampNeg)) hc hk hw (at_Mk (k := 6) (t := 0) (n := 20) (by decide) (by decide) (by decide) (by decide)) (isNot_in hN h1) rfl dX7_ask_38 ?_
    refine k_iald (f := ((f_X7_isNot a1 114 M).2) 1) (n := ((((f_X7_isNot a1 114 M).2) 6 ((a1).toNatClampNeg)).toNatClampNeg)) hc hk hw (at_Mk (k := 1) (t := 0) (n := 6) (by decide) (by decide) (by decide) (by decide)) (MN.off (cn_X7_isNot hN) (vp_lt (isNot_in hN h1))) rfl dX7_ask_39 ?_
    refine lv_iadd hx hb dX7_ask_40 ?_
    refine k_iast (x' := (xM S (up2 (up2 ((f_X7_isNot a1 114 M).2) 11 ((a1).toNatClampNeg) 97) 16 ((a1).toNatClampNeg) ((((f_X7_isNot a1 114 M).2) 0 1) + (((f_X7_isNot a1 114 M).2) 1 ((((f_X7_isNot a1 114 M).2) 6 ((a1).toNatClampNeg)).toNatClampNeg)))) o)) (f := (up2 ((f_X7_isNot a1 114 M).2) 11 ((a1).toNatClampNeg) 97) 16) (n := ((a1).toNatClampNeg)) hc hk hw (at_Mk (k := 16) (t := 0) (n := 20) (by decide) (by decide) (by decide) (by decide)) (isNot_in hN h1) rfl dX7_ask_41 (ms_k (k := 16) (t := 0) (n := 20) (by decide) (by decide) (by decide) (by decide)) (fun H locs hw => ?_)
    refine lv_aload_n hx hb dX7_ask_42 rfl (lv_at hl 0 rfl) ?_
    refine k_get hc hk hw at_M rfl iX7 19 (by decide) q1054 (v := .ref (gA g (jM 16))) rfl dX7_ask_43 ?_
    refine lv_iload_n hx hb dX7_ask_46 rfl (lv_at hl 1 rfl) ?_
    refine k_iald (f := (up2 (up2 ((f_X7_isNot a1 114 M).2) 11 ((a1).toNatClampNeg) 97) 16 ((a1).toNatClampNeg) ((((f_X7_isNot a1 114 M).2) 0 1) + (((f_X7_isNot a1 114 M).2) 1 ((((f_X7_isNot a1 114 M).2) 6 ((a1).toNatClampNeg)).toNatClampNeg)))) 16) (n := ((a1).toNatClampNeg)) hc hk hw (at_Mk (k := 16) (t := 0) (n := 20) (by decide) (by decide) (by decide) (by decide)) (isNot_in hN h1) rfl dX7_ask_47 ?_
    exact W.iret (v := (up2 (up2 ((f_X7_isNot a1 114 M).2) 11 ((a1).toNatClampNeg) 97) 16 ((a1).toNatClampNeg) ((((f_X7_isNot a1 114 M).2) 0 1) + (((f_X7_isNot a1 114 M).2) 1 ((((f_X7_isNot a1 114 M).2) 6 ((a1).toNatClampNeg)).toNatClampNeg)))) 16 ((a1).toNatClampNeg)) hx hb hr (fun t9 ht hW => ke_i hw ht (by simp only [f_X7_ask, if_pos h1]) (by simp only [f_X7_ask, if_pos h1])) hw.2.2.2 dX7_ask_48
  · refine lv_iconst (v := 0) hx hb dX7_ask_10 (by decide) ?_
    exact W.iret (v := 0) hx hb hr (fun t9 ht hW => ke_i hw ht (by simp only [f_X7_ask, if_neg h1]) (by simp only [f_X7_ask, if_neg h1])) hw.2.2.2 dX7_ask_11
def j_X7_extend_10 (a1 : Int32) (M : BT) : Int32 :=
  (if f_X7_isJoined a1 ((f_X7_noComplaint a1 M).2) = 0 then (if ((f_X7_noComplaint a1 M).2) 11 ((a1).toNatClampNeg) = 97 then (if f_X7_isOver a1 ((f_X7_noComplaint a1 M).2) = 0 then (if ((f_X7_noComplaint a1 M).2) 17 ((a1).toNatClampNeg) = 0 then 1 else 0) else 0) else 0) else 0)
def f_X7_extend (a1 : Int32) (a2 : Int32) (M : BT) : Int32 × BT :=
  (if (f_X7_noComplaint a1 M).1 = 0 then (if f_X7_in a2 1 30 = 0 then (0, up2 ((f_X7_noComplaint a1 M).2) 0 0 2) else (if (j_X7_extend_10 a1 M) = 0 then (0, up2 ((f_X7_noComplaint a1 M).2) 0 0 3) else ((up2 (up2 (up2 ((f_X7_noComplaint a1 M).2) 0 0 0) 17 ((a1).toNatClampNeg) 1) 16 ((a1).toNatClampNeg) ((((f_X7_noComplaint a1 M).2) 16 ((a1).toNatClampNeg)) + a2)) 16 ((a1).toNatClampNeg), up2 (up2 (up2 ((f_X7_noComplaint a1 M).2) 0 0 0) 17 ((a1).toNatClampNeg) 1) 16 ((a1).toNatClampNeg) ((((f_X7_noComplaint a1 M).2) 16 ((a1).toNatClampNeg)) + a2)))) else (0, (f_X7_noComplaint a1 M).2))
theorem cn_X7_extend {a1 : Int32} {a2 : Int32} {M : BT} {n m9 : Nat} (hN : MN M n m9) : MN ((f_X7_extend a1 a2 M).2) n m9 := by
  unfold f_X7_extend
  by_cases h1 : (f_X7_noComplaint a1 M).1 = 0
  · simp only [if_pos h1]
    by_cases h3 : f_X7_in a2 1 30 = 0
    · simp only [if_pos h3]
      exact (MN.up0 (by decide) (by decide) (cn_X7_noComplaint hN))
    · simp only [if_neg h3]
      by_cases h4 : (j_X7_extend_10 a1 M) = 0
      · simp only [if_pos h4]
        exact (MN.up0 (by decide) (by decide) (cn_X7_noComplaint hN))
      · simp only [if_neg h4]
        exact (MN.upf (by decide) (by decide) (by decide) (by decide) (by decide) (by decide) (by decide) (by decide) (MN.upz (by decide) (by decide) (by decide) (by decide) ⟨by decide +kernel, by decide +kernel, by decide +kernel⟩ (MN.up0 (by decide) (by decide) (cn_X7_noComplaint hN))))
  · simp only [if_neg h1]
    exact (cn_X7_noComplaint hN)
set_option maxHeartbeats 4000000 in
set_option maxRecDepth 100000 in
theorem m_X7_extend (l : Launch) (g : wG) (S : Nat → BT) (M : BT) (o : (Nat → Int64) × (Nat → UInt64)) (a1 : Int32) (a2 : Int32) (n m9 : Nat) (hN : MN M n m9) : mI l yX7_extend cX7_extend 4 (some .int) ({ frames := 3, cells := 0, slots := 0, locals := 64 } : Room) 0 0 g (xM S M o) [.ref (gA g (jM 0)), .int a1, .int a2] ((f_X7_extend a1 a2 M).1) (xM S ((f_X7_extend a1 a2 M).2) o) := by
  refine Met.ofW (cc := cX7_extend) (maxL := 4) (ret := some .int) (by decide) rfl ?_
  intro p9 e s m args below meth c s₁ BL hml hv
  obtain ⟨rfl, hk, hPB⟩ := hv
  have hx := BL.exec
  have hb := BL.bytes
  have hc : CX p9 c cX7_extend s _ m RX7 := ⟨hx, hb, findClass_of_methodNamed BL.named, fun w h => atoms_spec BL.pre w (List.mem_cons_of_mem _ h)⟩
  have hr := BL.returns
  have hlocks := BL.notSynchronized
  have hw : WS g s (xM S M o) s.heap [] := ⟨hPB, va_S.rf⟩
  have hl := lv_entry ([.ref (gA g (jM 0)), .int a1, .int a2]) (n := 4) (Nat.le_of_ble_eq_true rfl)
  rw [lg_entry_eq]
  generalize (lg_sl ([.ref (gA g (jM 0)), .int a1, .int a2]) ++ List.replicate (4 - (lg_sl ([.ref (gA g (jM 0)), .int a1, .int a2])).length) Slot.unset).toArray = ls at hl ⊢
  have hl : lv_has ls 4 [(0, .ref (gA g (jM 0))), (1, .int a1), (2, .int a2)] := hl
  refine lv_aload_n hx hb dX7_extend_0 rfl (lv_at hl 0 rfl) ?_
  refine lv_iload_n hx hb dX7_extend_1 rfl (lv_at hl 1 rfl) ?_
  refine kc_i hw (va_runV (As := [.int a1]) (rest := []) ⟨hx, hb, hml, hc.2.2.1, hc.2.2.2⟩ (m_X7_noComplaint l g S M o a1 _ _ hN) (kw_V hc 1 q1172 q1174 qs64 q8 q1175 rfl rfl (by decide +kernel) ⟨Nat.le_of_ble_eq_true rfl, Nat.le_of_ble_eq_true rfl⟩) (kp_V hk hw at_M rfl) rfl rfl hl.1 rfl (lv_room (Nat.le_of_ble_eq_true rfl)) dX7_extend_2 ⟨Nat.le_of_ble_eq_true rfl, Nat.le_of_ble_eq_true rfl⟩) (fun H locs hw => ?_)
  refine lv_if_eq (tgt := 10) hx hb dX7_extend_5 (by decide) (fun h1 => ?_) (fun h1 => ?_)
  · have J2 : ∀ (v : Int32), v = (j_X7_extend_10 a1 M) → ∀ (H : Heap) (locs : List Loc), WS g s (xM S ((f_X7_noComplaint a1 M).2) o) H locs → W p9 l e ({ frames := 3, cells := 0, slots := 0, locals := 64 } : Room) s m ([.ref (gA g (jM 0)), .int a1, .int a2] : List Value).toArray below meth c H locs 0 0 (MQ below (va_Qi (fun (v : Int32) (u : wSt) => v = (f_X7_extend a1 a2 M).1 ∧ u = (xM S ((f_X7_extend a1 a2 M).2) o)) (PB g) (AA g)) (([.ref (gA g (jM 0)), .int a1, .int a2] : List Value).toArray) s 0 0 (AA g)) (F0 m 51 ls (.int v :: ([] : List Value))) := by
      intro v ev H locs hw
      subst ev
      refine lv_istore_n (lv' := [(3, .int (j_X7_extend_10 a1 M)), (0, .ref (gA g (jM 0))), (1, .int a1), (2, .int a2)]) hx hb dX7_extend_51 rfl hl (by decide) rfl (fun ls hl => ?_)
      refine lv_aload_n hx hb dX7_extend_52 rfl (lv_at hl 1 rfl) ?_
      refine lv_iload_n hx hb dX7_extend_53 rfl (lv_at hl 3 rfl) ?_
      refine lv_iconst (v := 1) hx hb dX7_extend_54 (by decide) ?_
      refine lv_bipush (v := 30) hx hb dX7_extend_55 (by decide) ?_
      refine kc_i hw (va_runS (As := [.int a2, .int 1, .int 30]) (rest := [.ref (gA g (jM 0))]) ⟨hx, hb, hml, hc.2.2.1, hc.2.2.2⟩ (m_X7_in l g S ((f_X7_noComplaint a1 M).2) o a2 1 30) (kw_S hc 3 q1133 q1134 q8 q1135 rfl rfl (by decide +kernel) ⟨Nat.le_of_ble_eq_true rfl, Nat.le_of_ble_eq_true rfl⟩) (kp_S hk hw) rfl rfl hl.1 rfl (lv_room (Nat.le_of_ble_eq_true rfl)) dX7_extend_57 ⟨Nat.le_of_ble_eq_true rfl, Nat.le_of_ble_eq_true rfl⟩) (fun H locs hw => ?_)
      refine lv_if_ne (tgt := 67) hx hb dX7_extend_60 (by decide) (fun h3 => ?_) (fun h3 => ?_)
      · refine lv_iload_n hx hb dX7_extend_67 rfl (lv_at hl 0 rfl) ?_
        refine lv_if_ne (tgt := 75) hx hb dX7_extend_68 (by decide) (fun h4 => ?_) (fun h4 => ?_)
        · refine lv_iconst (v := 0) hx hb dX7_extend_75 (by decide) ?_
          refine k_put hc hk hw (x' := (xM S (up2 ((f_X7_noComplaint a1 M).2) 0 0 0) o)) at_M rfl iX7 tyX7 tyX7_ok nmX7 0 (by decide) q1035 rfl rfl rfl (Nat.le_of_ble_eq_true rfl) dX7_extend_76 (ms_0 (by decide)) (fun H locs hw => ?_)
          refine lv_aload_n hx hb dX7_extend_79 rfl (lv_at hl 1 rfl) ?_
          refine k_get hc hk hw at_M rfl iX7 0 (by decide) q1035 (v := .int 0) rfl dX7_extend_80 ?_
          refine lv_if_le (tgt := 88) hx hb dX7_extend_83 (by decide) (fun _ => ?_) (fun h5 => absurd h5 (by decide))
          refine lv_aload_n hx hb dX7_extend_88 rfl (lv_at hl 1 rfl) ?_
          refine k_get hc hk hw at_M rfl iX7 20 (by decide) q1055 (v := .ref (gA g (jM 17))) rfl dX7_extend_89 ?_
          refine lv_iload_n hx hb dX7_extend_92 rfl (lv_at hl 2 rfl) ?_
          refine lv_iconst (v := 1) hx hb dX7_extend_93 (by decide) ?_
          refine k_zast (x' := (xM S (up2 (up2 ((f_X7_noComplaint a1 M).2) 0 0 0) 17 ((a1).toNatClampNeg) 1) o)) (f := (up2 ((f_X7_noComplaint a1 M).2) 0 0 0) 17) (n := ((a1).toNatClampNeg)) hc hk hw (at_Mk (k := 17) (t := 2) (n := 20) (by decide) (by decide) (by decide) (by decide)) (noComplaint_in hN h1) rfl (by decide +kernel) dX7_extend_94 (ms_k (k := 17) (t := 2) (n := 20) (by decide) (by decide) (by decide) (by decide)) (fun H locs hw => ?_)
          refine lv_aload_n hx hb dX7_extend_95 rfl (lv_at hl 1 rfl) ?_
          refine k_get hc hk hw at_M rfl iX7 19 (by decide) q1054 (v := .ref (gA g (jM 16))) rfl dX7_extend_96 ?_
          refine lv_iload_n hx hb dX7_extend_99 rfl (lv_at hl 2 rfl) ?_
          refine lv_dup2_11 hx hb dX7_extend_100 rfl rfl ?_
          refine k_iald (f := ((f_X7_noComplaint a1 M).2) 16) (n := ((a1).toNatClampNeg)) hc hk hw (at_Mk (k := 16) (t := 0) (n := 20) (by decide) (by decide) (by decide) (by decide)) (noComplaint_in hN h1) rfl dX7_extend_101 ?_
          refine lv_iload_n hx hb dX7_extend_102 rfl (lv_at hl 3 rfl) ?_
          refine lv_iadd hx hb dX7_extend_103 ?_
          refine k_iast (x' := (xM S (up2 (up2 (up2 ((f_X7_noComplaint a1 M).2) 0 0 0) 17 ((a1).toNatClampNeg) 1) 16 ((a1).toNatClampNeg) ((((f_X7_noComplaint a1 M).2) 16 ((a1).toNatClampNeg)) + a2)) o)) (f := (up2 (up2 ((f_X7_noComplaint a1 M).2) 0 0 0) 17 ((a1).toNatClampNeg) 1) 16) (n := ((a1).toNatClampNeg)) hc hk hw (at_Mk (k := 16) (t := 0) (n := 20) (by decide) (by decide) (by decide) (by decide)) (noComplaint_in hN h1) rfl dX7_extend_104 (ms_k (k := 16) (t := 0) (n := 20) (by decide) (by decide) (by decide) (by decide)) (fun H locs hw => ?_)
          refine lv_aload_n hx hb dX7_extend_105 rfl (lv_at hl 1 rfl) ?_
          refine k_get hc hk hw at_M rfl iX7 19 (by decide) q1054 (v := .ref (gA g (jM 16))) rfl dX7_extend_106 ?_
          refine lv_iload_n hx hb dX7_extend_109 rfl (lv_at hl 2 rfl) ?_
          refine k_iald (f := (up2 (up2 (up2 ((f_X7_noComplaint a1 M).2) 0 0 0) 17 ((a1).toNatClampNeg) 1) 16 ((a1).toNatClampNeg) ((((f_X7_noComplaint a1 M).2) 16 ((a1).toNatClampNeg)) + a2)) 16) (n := ((a1).toNatClampNeg)) hc hk hw (at_Mk (k := 16) (t := 0) (n := 20) (by decide) (by decide) (by decide) (by decide)) (noComplaint_in hN h1) rfl dX7_extend_110 ?_
          exact W.iret (v := (up2 (up2 (up2 ((f_X7_noComplaint a1 M).2) 0 0 0) 17 ((a1).toNatClampNeg) 1) 16 ((a1).toNatClampNeg) ((((f_X7_noComplaint a1 M).2) 16 ((a1).toNatClampNeg)) + a2)) 16 ((a1).toNatClampNeg)) hx hb hr (fun t9 ht hW => ke_i hw ht (by simp only [f_X7_extend, if_pos h1, if_neg h3, if_neg h4]) (by simp only [f_X7_extend, if_pos h1, if_neg h3, if_neg h4])) hw.2.2.2 dX7_extend_111
        · refine lv_iconst (v := 3) hx hb dX7_extend_71 (by decide) ?_
          refine lv_goto (tgt := 76) hx hb dX7_extend_72 (by decide) ?_
          refine k_put hc hk hw (x' := (xM S (up2 ((f_X7_noComplaint a1 M).2) 0 0 3) o)) at_M rfl iX7 tyX7 tyX7_ok nmX7 0 (by decide) q1035 rfl rfl rfl (Nat.le_of_ble_eq_true rfl) dX7_extend_76 (ms_0 (by decide)) (fun H locs hw => ?_)
          refine lv_aload_n hx hb dX7_extend_79 rfl (lv_at hl 1 rfl) ?_
          refine k_get hc hk hw at_M rfl iX7 0 (by decide) q1035 (v := .int 3) rfl dX7_extend_80 ?_
          refine lv_if_le (tgt := 88) hx hb dX7_extend_83 (by decide) (fun h6 => absurd h6 (by decide)) (fun _ => ?_)
          refine lv_iconst (v := 0) hx hb dX7_extend_86 (by decide) ?_
          exact W.iret (v := 0) hx hb hr (fun t9 ht hW => ke_i hw ht (by simp only [f_X7_extend, if_pos h1, if_neg h3, if_pos h4]) (by simp only [f_X7_extend, if_pos h1, if_neg h3, if_pos h4])) hw.2.2.2 dX7_extend_87
      · refine lv_iconst (v := 2) hx hb dX7_extend_63 (by decide) ?_
        refine lv_goto (tgt := 76) hx hb dX7_extend_64 (by decide) ?_
        refine k_put hc hk hw (x' := (xM S (up2 ((f_X7_noComplaint a1 M).2) 0 0 2) o)) at_M rfl iX7 tyX7 tyX7_ok nmX7 0 (by decide) q1035 rfl rfl rfl (Nat.le_of_ble_eq_true rfl) dX7_extend_76 (ms_0 (by decide)) (fun H locs hw => ?_)
        refine lv_aload_n hx hb dX7_extend_79 rfl (lv_at hl 1 rfl) ?_
        refine k_get hc hk hw at_M rfl iX7 0 (by decide) q1035 (v := .int 2) rfl dX7_extend_80 ?_
        refine lv_if_le (tgt := 88) hx hb dX7_extend_83 (by decide) (fun h7 => absurd h7 (by decide)) (fun _ => ?_)
        refine lv_iconst (v := 0) hx hb dX7_extend_86 (by decide) ?_
        exact W.iret (v := 0) hx hb hr (fun t9 ht hW => ke_i hw ht (by simp only [f_X7_extend, if_pos h1, if_pos h3]) (by simp only [f_X7_extend, if_pos h1, if_pos h3])) hw.2.2.2 dX7_extend_87
    refine lv_aload_n hx hb dX7_extend_10 rfl (lv_at hl 0 rfl) ?_
    refine lv_iload_n hx hb dX7_extend_11 rfl (lv_at hl 1 rfl) ?_
    refine kc_i hw (va_runV (As := [.int a1]) (rest := []) ⟨hx, hb, hml, hc.2.2.1, hc.2.2.2⟩ (m_X7_isJoined l g S ((f_X7_noComplaint a1 M).2) o a1 _ _ (cn_X7_noComplaint hN) (noComplaint_in hN h1)) (kw_V hc 1 q1148 q1150 qs61 q8 q1151 rfl rfl (by decide +kernel) ⟨Nat.le_of_ble_eq_true rfl, Nat.le_of_ble_eq_true rfl⟩) (kp_V hk hw at_M rfl) rfl rfl hl.1 rfl (lv_room (Nat.le_of_ble_eq_true rfl)) dX7_extend_12 ⟨Nat.le_of_ble_eq_true rfl, Nat.le_of_ble_eq_true rfl⟩) (fun H locs hw => ?_)
    refine lv_if_ne (tgt := 50) hx hb dX7_extend_15 (by decide) (fun h8 => ?_) (fun h8 => ?_)
    · refine lv_iconst (v := 0) hx hb dX7_extend_50 (by decide) ?_
      exact J2 0 (by simp only [j_X7_extend_10, if_neg h8]) _ _ hw
    · refine lv_aload_n hx hb dX7_extend_18 rfl (lv_at hl 0 rfl) ?_
      refine k_get hc hk hw at_M rfl iX7 14 (by decide) q1049 (v := .ref (gA g (jM 11))) rfl dX7_extend_19 ?_
      refine lv_iload_n hx hb dX7_extend_22 rfl (lv_at hl 1 rfl) ?_
      refine k_cald (f := ((f_X7_noComplaint a1 M).2) 11) (n := ((a1).toNatClampNeg)) hc hk hw (at_Mk (k := 11) (t := 1) (n := 20) (by decide) (by decide) (by decide) (by decide)) (noComplaint_in hN h1) rfl dX7_extend_23 ?_
      refine lv_bipush (v := 97) hx hb dX7_extend_24 (by decide) ?_
      refine lv_icmp_ne (tgt := 50) hx hb dX7_extend_26 (by decide) (fun h9 => ?_) (fun h9 => ?_)
      · refine lv_iconst (v := 0) hx hb dX7_extend_50 (by decide) ?_
        exact J2 0 (by simp only [j_X7_extend_10, if_pos h8, if_neg h9]) _ _ hw
      · refine lv_aload_n hx hb dX7_extend_29 rfl (lv_at hl 0 rfl) ?_
        refine lv_iload_n hx hb dX7_extend_30 rfl (lv_at hl 1 rfl) ?_
        refine kc_i hw (va_runV (As := [.int a1]) (rest := []) ⟨hx, hb, hml, hc.2.2.1, hc.2.2.2⟩ (m_X7_isOver l g S ((f_X7_noComplaint a1 M).2) o a1 _ _ (cn_X7_noComplaint hN) (noComplaint_in hN h1)) (kw_V hc 1 q1222 q1224 qs67 q8 q1225 rfl rfl (by decide +kernel) ⟨Nat.le_of_ble_eq_true rfl, Nat.le_of_ble_eq_true rfl⟩) (kp_V hk hw at_M rfl) rfl rfl hl.1 rfl (lv_room (Nat.le_of_ble_eq_true rfl)) dX7_extend_31 ⟨Nat.le_of_ble_eq_true rfl, Nat.le_of_ble_eq_true rfl⟩) (fun H locs hw => ?_)
        refine lv_if_ne (tgt := 50) hx hb dX7_extend_34 (by decide) (fun h10 => ?_) (fun h10 => ?_)
        · refine lv_iconst (v := 0) hx hb dX7_extend_50 (by decide) ?_
          exact J2 0 (by simp only [j_X7_extend_10, if_pos h8, if_pos h9, if_neg h10]) _ _ hw
        · refine lv_aload_n hx hb dX7_extend_37 rfl (lv_at hl 0 rfl) ?_
          refine k_get hc hk hw at_M rfl iX7 20 (by decide) q1055 (v := .ref (gA g (jM 17))) rfl dX7_extend_38 ?_
          refine lv_iload_n hx hb dX7_extend_41 rfl (lv_at hl 1 rfl) ?_
          refine k_zald (f := ((f_X7_noComplaint a1 M).2) 17) (n := ((a1).toNatClampNeg)) hc hk hw (at_Mk (k := 17) (t := 2) (n := 20) (by decide) (by decide) (by decide) (by decide)) (noComplaint_in hN h1) rfl dX7_extend_42 ?_
          refine lv_if_ne (tgt := 50) hx hb dX7_extend_43 (by decide) (fun h11 => ?_) (fun h11 => ?_)
          · refine lv_iconst (v := 0) hx hb dX7_extend_50 (by decide) ?_
            exact J2 0 (by simp only [j_X7_extend_10, if_pos h8, if_pos h9, if_pos h10, if_neg h11]) _ _ hw
          · refine lv_iconst (v := 1) hx hb dX7_extend_46 (by decide) ?_
            refine lv_goto (tgt := 51) hx hb dX7_extend_47 (by decide) ?_
            exact J2 1 (by simp only [j_X7_extend_10, if_pos h8, if_pos h9, if_pos h10, if_pos h11]) _ _ hw
  · refine lv_iconst (v := 0) hx hb dX7_extend_8 (by decide) ?_
    exact W.iret (v := 0) hx hb hr (fun t9 ht hW => ke_i hw ht (by simp only [f_X7_extend, if_neg h1]) (by simp only [f_X7_extend, if_neg h1])) hw.2.2.2 dX7_extend_9
def f_X7_remind (a1 : Int32) (M : BT) : Int32 × BT :=
  (if (f_X7_isNot a1 97 M).1 = 0 then (if f_X7_isOver a1 ((f_X7_isNot a1 97 M).2) = 0 then (0, up2 ((f_X7_isNot a1 97 M).2) 0 0 2) else (if ((f_X7_isNot a1 97 M).2) 18 ((a1).toNatClampNeg) = 3 then (0, up2 ((f_X7_isNot a1 97 M).2) 0 0 2) else ((up2 (up2 ((f_X7_isNot a1 97 M).2) 0 0 0) 18 ((a1).toNatClampNeg) ((((f_X7_isNot a1 97 M).2) 18 ((a1).toNatClampNeg)) + 1)) 18 ((a1).toNatClampNeg), up2 (up2 (up2 ((f_X7_isNot a1 97 M).2) 0 0 0) 18 ((a1).toNatClampNeg) ((((f_X7_isNot a1 97 M).2) 18 ((a1).toNatClampNeg)) + 1)) 16 ((a1).toNatClampNeg) ((((f_X7_isNot a1 97 M).2) 0 1) + 7)))) else (0, (f_X7_isNot a1 97 M).2))
theorem cn_X7_remind {a1 : Int32} {M : BT} {n m9 : Nat} (hN : MN M n m9) : MN ((f_X7_remind a1 M).2) n m9 := by
  unfold f_X7_remind
  by_cases h1 : (f_X7_isNot a1 97 M).1 = 0
  · simp only [if_pos h1]
    by_cases h2 : f_X7_isOver a1 ((f_X7_isNot a1 97 M).2) = 0
    · simp only [if_pos h2]
      exact (MN.up0 (by decide) (by decide) (cn_X7_isNot hN))
    · simp only [if_neg h2]
      by_cases h4 : ((f_X7_isNot a1 97 M).2) 18 ((a1).toNatClampNeg) = 3
      · simp only [if_pos h4]
        exact (MN.up0 (by decide) (by decide) (cn_X7_isNot hN))
      · simp only [if_neg h4]
        exact (MN.upf (by decide) (by decide) (by decide) (by decide) (by decide) (by decide) (by decide) (by decide) (MN.upf (by decide) (by decide) (by decide) (by decide) (by decide) (by decide) (by decide) (by decide) (MN.up0 (by decide) (by decide) (cn_X7_isNot hN))))
  · simp only [if_neg h1]
    exact (cn_X7_isNot hN)
set_option maxHeartbeats 4000000 in
set_option maxRecDepth 100000 in
theorem m_X7_remind (l : Launch) (g : wG) (S : Nat → BT) (M : BT) (o : (Nat → Int64) × (Nat → UInt64)) (a1 : Int32) (n m9 : Nat) (hN : MN M n m9) : mI l yX7_remind cX7_remind 2 (some .int) ({ frames := 4, cells := 0, slots := 0, locals := 86 } : Room) 0 0 g (xM S M o) [.ref (gA g (jM 0)), .int a1] ((f_X7_remind a1 M).1) (xM S ((f_X7_remind a1 M).2) o) := by
  refine Met.ofW (cc := cX7_remind) (maxL := 2) (ret := some .int) (by decide) rfl ?_
  intro p9 e s m args below meth c s₁ BL hml hv
  obtain ⟨rfl, hk, hPB⟩ := hv
  have hx := BL.exec
  have hb := BL.bytes
  have hc : CX p9 c cX7_remind s _ m RX7 := ⟨hx, hb, findClass_of_methodNamed BL.named, fun w h => atoms_spec BL.pre w (List.mem_cons_of_mem _ h)⟩
  have hr := BL.returns
  have hlocks := BL.notSynchronized
  have hw : WS g s (xM S M o) s.heap [] := ⟨hPB, va_S.rf⟩
  have hl := lv_entry ([.ref (gA g (jM 0)), .int a1]) (n := 2) (Nat.le_of_ble_eq_true rfl)
  rw [lg_entry_eq]
  generalize (lg_sl ([.ref (gA g (jM 0)), .int a1]) ++ List.replicate (2 - (lg_sl ([.ref (gA g (jM 0)), .int a1])).length) Slot.unset).toArray = ls at hl ⊢
  have hl : lv_has ls 2 [(0, .ref (gA g (jM 0))), (1, .int a1)] := hl
  refine lv_aload_n hx hb dX7_remind_0 rfl (lv_at hl 0 rfl) ?_
  refine lv_iload_n hx hb dX7_remind_1 rfl (lv_at hl 1 rfl) ?_
  refine lv_bipush (v := 97) hx hb dX7_remind_2 (by decide) ?_
  refine kc_i hw (va_runV (As := [.int a1, .int 97]) (rest := []) ⟨hx, hb, hml, hc.2.2.1, hc.2.2.2⟩ (m_X7_isNot l g S M o a1 97 _ _ hN) (kw_V hc 2 q1214 q1216 qs66 q8 q1217 rfl rfl (by decide +kernel) ⟨Nat.le_of_ble_eq_true rfl, Nat.le_of_ble_eq_true rfl⟩) (kp_V hk hw at_M rfl) rfl rfl hl.1 rfl (lv_room (Nat.le_of_ble_eq_true rfl)) dX7_remind_4 ⟨Nat.le_of_ble_eq_true rfl, Nat.le_of_ble_eq_true rfl⟩) (fun H locs hw => ?_)
  refine lv_if_eq (tgt := 12) hx hb dX7_remind_7 (by decide) (fun h1 => ?_) (fun h1 => ?_)
  · refine lv_aload_n hx hb dX7_remind_12 rfl (lv_at hl 0 rfl) ?_
    refine lv_aload_n hx hb dX7_remind_13 rfl (lv_at hl 0 rfl) ?_
    refine lv_iload_n hx hb dX7_remind_14 rfl (lv_at hl 1 rfl) ?_
    refine kc_i hw (va_runV (As := [.int a1]) (rest := [.ref (gA g (jM 0))]) ⟨hx, hb, hml, hc.2.2.1, hc.2.2.2⟩ (m_X7_isOver l g S ((f_X7_isNot a1 97 M).2) o a1 _ _ (cn_X7_isNot hN) (isNot_in hN h1)) (kw_V hc 1 q1222 q1224 qs67 q8 q1225 rfl rfl (by decide +kernel) ⟨Nat.le_of_ble_eq_true rfl, Nat.le_of_ble_eq_true rfl⟩) (kp_V hk hw at_M rfl) rfl rfl hl.1 rfl (lv_room (Nat.le_of_ble_eq_true rfl)) dX7_remind_15 ⟨Nat.le_of_ble_eq_true rfl, Nat.le_of_ble_eq_true rfl⟩) (fun H locs hw => ?_)
    refine lv_if_eq (tgt := 31) hx hb dX7_remind_18 (by decide) (fun h2 => ?_) (fun h2 => ?_)
    · refine lv_iconst (v := 2) hx hb dX7_remind_31 (by decide) ?_
      refine lv_goto (tgt := 36) hx hb dX7_remind_32 (by decide) ?_
      refine k_put hc hk hw (x' := (xM S (up2 ((f_X7_isNot a1 97 M).2) 0 0 2) o)) at_M rfl iX7 tyX7 tyX7_ok nmX7 0 (by decide) q1035 rfl rfl rfl (Nat.le_of_ble_eq_true rfl) dX7_remind_36 (ms_0 (by decide)) (fun H locs hw => ?_)
      refine lv_aload_n hx hb dX7_remind_39 rfl (lv_at hl 0 rfl) ?_
      refine k_get hc hk hw at_M rfl iX7 0 (by decide) q1035 (v := .int 2) rfl dX7_remind_40 ?_
      refine lv_if_le (tgt := 48) hx hb dX7_remind_43 (by decide) (fun h3 => absurd h3 (by decide)) (fun _ => ?_)
      refine lv_iconst (v := 0) hx hb dX7_remind_46 (by decide) ?_
      exact W.iret (v := 0) hx hb hr (fun t9 ht hW => ke_i hw ht (by simp only [f_X7_remind, if_pos h1, if_pos h2]) (by simp only [f_X7_remind, if_pos h1, if_pos h2])) hw.2.2.2 dX7_remind_47
    · refine lv_aload_n hx hb dX7_remind_21 rfl (lv_at hl 0 rfl) ?_
      refine k_get hc hk hw at_M rfl iX7 21 (by decide) q1056 (v := .ref (gA g (jM 18))) rfl dX7_remind_22 ?_
      refine lv_iload_n hx hb dX7_remind_25 rfl (lv_at hl 1 rfl) ?_
      refine k_iald (f := ((f_X7_isNot a1 97 M).2) 18) (n := ((a1).toNatClampNeg)) hc hk hw (at_Mk (k := 18) (t := 0) (n := 20) (by decide) (by decide) (by decide) (by decide)) (isNot_in hN h1) rfl dX7_remind_26 ?_
      refine lv_iconst (v := 3) hx hb dX7_remind_27 (by decide) ?_
      refine lv_icmp_ne (tgt := 35) hx hb dX7_remind_28 (by decide) (fun h4 => ?_) (fun h4 => ?_)
      · refine lv_iconst (v := 0) hx hb dX7_remind_35 (by decide) ?_
        refine k_put hc hk hw (x' := (xM S (up2 ((f_X7_isNot a1 97 M).2) 0 0 0) o)) at_M rfl iX7 tyX7 tyX7_ok nmX7 0 (by decide) q1035 rfl rfl rfl (Nat.le_of_ble_eq_true rfl) dX7_remind_36 (ms_0 (by decide)) (fun H locs hw => ?_)
        refine lv_aload_n hx hb dX7_remind_39 rfl (lv_at hl 0 rfl) ?_
        refine k_get hc hk hw at_M rfl iX7 0 (by decide) q1035 (v := .int 0) rfl dX7_remind_40 ?_
        refine lv_if_le (tgt := 48) hx hb dX7_remind_43 (by decide) (fun _ => ?_) (fun h5 => absurd h5 (by decide))
        refine lv_aload_n hx hb dX7_remind_48 rfl (lv_at hl 0 rfl) ?_
        refine k_get hc hk hw at_M rfl iX7 21 (by decide) q1056 (v := .ref (gA g (jM 18))) rfl dX7_remind_49 ?_
        refine lv_iload_n hx hb dX7_remind_52 rfl (lv_at hl 1 rfl) ?_
        refine lv_dup2_11 hx hb dX7_remind_53 rfl rfl ?_
        refine k_iald (f := ((f_X7_isNot a1 97 M).2) 18) (n := ((a1).toNatClampNeg)) hc hk hw (at_Mk (k := 18) (t := 0) (n := 20) (by decide) (by decide) (by decide) (by decide)) (isNot_in hN h1) rfl dX7_remind_54 ?_
        refine lv_iconst (v := 1) hx hb dX7_remind_55 (by decide) ?_
        refine lv_iadd hx hb dX7_remind_56 ?_
        refine k_iast (x' := (xM S (up2 (up2 ((f_X7_isNot a1 97 M).2) 0 0 0) 18 ((a1).toNatClampNeg) ((((f_X7_isNot a1 97 M).2) 18 ((a1).toNatClampNeg)) + 1)) o)) (f := (up2 ((f_X7_isNot a1 97 M).2) 0 0 0) 18) (n := ((a1).toNatClampNeg)) hc hk hw (at_Mk (k := 18) (t := 0) (n := 20) (by decide) (by decide) (by decide) (by decide)) (isNot_in hN h1) rfl dX7_remind_57 (ms_k (k := 18) (t := 0) (n := 20) (by decide) (by decide) (by decide) (by decide)) (fun H locs hw => ?_)
        refine lv_aload_n hx hb dX7_remind_58 rfl (lv_at hl 0 rfl) ?_
        refine k_get hc hk hw at_M rfl iX7 19 (by decide) q1054 (v := .ref (gA g (jM 16))) rfl dX7_remind_59 ?_
        refine lv_iload_n hx hb dX7_remind_62 rfl (lv_at hl 1 rfl) ?_
        refine lv_aload_n hx hb dX7_remind_63 rfl (lv_at hl 0 rfl) ?_
        refine k_get hc hk hw at_M rfl iX7 1 (by decide) q1036 (v := .int (((f_X7_isNot a1 97 M).2) 0 1)) rfl dX7_remind_64 ?_
        refine lv_bipush (v := 7) hx hb dX7_remind_67 (by decide) ?_
        refine lv_iadd hx hb dX7_remind_69 ?_
        refine k_iast (x' := (xM S (up2 (up2 (up2 ((f_X7_isNot a1 97 M).2) 0 0 0) 18 ((a1).toNatClampNeg) ((((f_X7_isNot a1 97 M).2) 18 ((a1).toNatClampNeg)) + 1)) 16 ((a1).toNatClampNeg) ((((f_X7_isNot a1 97 M).2) 0 1) + 7)) o)) (f := (up2 (up2 ((f_X7_isNot a1 97 M).2) 0 0 0) 18 ((a1).toNatClampNeg) ((((f_X7_isNot a1 97 M).2) 18 ((a1).toNatClampNeg)) + 1)) 16) (n := ((a1).toNatClampNeg)) hc hk hw (at_Mk (k := 16) (t := 0) (n := 20) (by decide) (by decide) (by decide) (by decide)) (isNot_in hN h1) rfl dX7_remind_70 (ms_k (k := 16) (t := 0) (n := 20) (by decide) (by decide) (by decide) (by decide)) (fun H locs hw => ?_)
        refine lv_aload_n hx hb dX7_remind_71 rfl (lv_at hl 0 rfl) ?_
        refine k_get hc hk hw at_M rfl iX7 21 (by decide) q1056 (v := .ref (gA g (jM 18))) rfl dX7_remind_72 ?_
        refine lv_iload_n hx hb dX7_remind_75 rfl (lv_at hl 1 rfl) ?_
        refine k_iald (f := (up2 (up2 ((f_X7_isNot a1 97 M).2) 0 0 0) 18 ((a1).toNatClampNeg) ((((f_X7_isNot a1 97 M).2) 18 ((a1).toNatClampNeg)) + 1)) 18) (n := ((a1).toNatClampNeg)) hc hk hw (at_Mk (k := 18) (t := 0) (n := 20) (by decide) (by decide) (by decide) (by decide)) (isNot_in hN h1) rfl dX7_remind_76 ?_
        exact W.iret (v := (up2 (up2 ((f_X7_isNot a1 97 M).2) 0 0 0) 18 ((a1).toNatClampNeg) ((((f_X7_isNot a1 97 M).2) 18 ((a1).toNatClampNeg)) + 1)) 18 ((a1).toNatClampNeg)) hx hb hr (fun t9 ht hW => ke_i hw ht (by simp only [f_X7_remind, if_pos h1, if_neg h2, if_neg h4]) (by simp only [f_X7_remind, if_pos h1, if_neg h2, if_neg h4])) hw.2.2.2 dX7_remind_77
      · refine lv_iconst (v := 2) hx hb dX7_remind_31 (by decide) ?_
        refine lv_goto (tgt := 36) hx hb dX7_remind_32 (by decide) ?_
        refine k_put hc hk hw (x' := (xM S (up2 ((f_X7_isNot a1 97 M).2) 0 0 2) o)) at_M rfl iX7 tyX7 tyX7_ok nmX7 0 (by decide) q1035 rfl rfl rfl (Nat.le_of_ble_eq_true rfl) dX7_remind_36 (ms_0 (by decide)) (fun H locs hw => ?_)
        refine lv_aload_n hx hb dX7_remind_39 rfl (lv_at hl 0 rfl) ?_
        refine k_get hc hk hw at_M rfl iX7 0 (by decide) q1035 (v := .int 2) rfl dX7_remind_40 ?_
        refine lv_if_le (tgt := 48) hx hb dX7_remind_43 (by decide) (fun h6 => absurd h6 (by decide)) (fun _ => ?_)
        refine lv_iconst (v := 0) hx hb dX7_remind_46 (by decide) ?_
        exact W.iret (v := 0) hx hb hr (fun t9 ht hW => ke_i hw ht (by simp only [f_X7_remind, if_pos h1, if_neg h2, if_pos h4]) (by simp only [f_X7_remind, if_pos h1, if_neg h2, if_pos h4])) hw.2.2.2 dX7_remind_47
  · refine lv_iconst (v := 0) hx hb dX7_remind_10 (by decide) ?_
    exact W.iret (v := 0) hx hb hr (fun t9 ht hW => ke_i hw ht (by simp only [f_X7_remind, if_neg h1]) (by simp only [f_X7_remind, if_neg h1])) hw.2.2.2 dX7_remind_11
def f_X7_answer (a1 : Int32) (M : BT) : Int32 × BT :=
  (if (f_X7_isNot a1 97 M).1 = 0 then (if ((f_X7_isNot a1 97 M).2) 0 1 ≤ ((f_X7_isNot a1 97 M).2) 16 ((a1).toNatClampNeg) then (0, up2 ((f_X7_isNot a1 97 M).2) 11 ((a1).toNatClampNeg) 115) else ((((f_X7_isNot a1 97 M).2) 0 1) - (((f_X7_isNot a1 97 M).2) 16 ((a1).toNatClampNeg)), up2 ((f_X7_isNot a1 97 M).2) 11 ((a1).toNatClampNeg) 115)) else (0, (f_X7_isNot a1 97 M).2))
theorem cn_X7_answer {a1 : Int32} {M : BT} {n m9 : Nat} (hN : MN M n m9) : MN ((f_X7_answer a1 M).2) n m9 := by
  unfold f_X7_answer
  by_cases h1 : (f_X7_isNot a1 97 M).1 = 0
  · simp only [if_pos h1]
    by_cases h2 : ((f_X7_isNot a1 97 M).2) 0 1 ≤ ((f_X7_isNot a1 97 M).2) 16 ((a1).toNatClampNeg)
    · simp only [if_pos h2]
      exact (MN.up11 ⟨by decide +kernel, by decide +kernel, by decide +kernel⟩ (cn_X7_isNot hN))
    · simp only [if_neg h2]
      exact (MN.up11 ⟨by decide +kernel, by decide +kernel, by decide +kernel⟩ (cn_X7_isNot hN))
  · simp only [if_neg h1]
    exact (cn_X7_isNot hN)
set_option maxHeartbeats 4000000 in
set_option maxRecDepth 100000 in
theorem m_X7_answer (l : Launch) (g : wG) (S : Nat → BT) (M : BT) (o : (Nat → Int64) × (Nat → UInt64)) (a1 : Int32) (n m9 : Nat) (hN : MN M n m9) : mI l yX7_answer cX7_answer 3 (some .int) ({ frames := 4, cells := 0, slots := 0, locals := 86 } : Room) 0 0 g (xM S M o) [.ref (gA g (jM 0)), .int a1] ((f_X7_answer a1 M).1) (xM S ((f_X7_answer a1 M).2) o) := by
  refine Met.ofW (cc := cX7_answer) (maxL := 3) (ret := some .int) (by decide) rfl ?_
  intro p9 e s m args below meth c s₁ BL hml hv
  obtain ⟨rfl, hk, hPB⟩ := hv
  have hx := BL.exec
  have hb := BL.bytes
  have hc : CX p9 c cX7_answer s _ m RX7 := ⟨hx, hb, findClass_of_methodNamed BL.named, fun w h => atoms_spec BL.pre w (List.mem_cons_of_mem _ h)⟩
  have hr := BL.returns
  have hlocks := BL.notSynchronized
  have hw : WS g s (xM S M o) s.heap [] := ⟨hPB, va_S.rf⟩
  have hl := lv_entry ([.ref (gA g (jM 0)), .int a1]) (n := 3) (Nat.le_of_ble_eq_true rfl)
  rw [lg_entry_eq]
  generalize (lg_sl ([.ref (gA g (jM 0)), .int a1]) ++ List.replicate (3 - (lg_sl ([.ref (gA g (jM 0)), .int a1])).length) Slot.unset).toArray = ls at hl ⊢
  have hl : lv_has ls 3 [(0, .ref (gA g (jM 0))), (1, .int a1)] := hl
  refine lv_aload_n hx hb dX7_answer_0 rfl (lv_at hl 0 rfl) ?_
  refine lv_iload_n hx hb dX7_answer_1 rfl (lv_at hl 1 rfl) ?_
  refine lv_bipush (v := 97) hx hb dX7_answer_2 (by decide) ?_
  refine kc_i hw (va_runV (As := [.int a1, .int 97]) (rest := []) ⟨hx, hb, hml, hc.2.2.1, hc.2.2.2⟩ (m_X7_isNot l g S M o a1 97 _ _ hN) (kw_V hc 2 q1214 q1216 qs66 q8 q1217 rfl rfl (by decide +kernel) ⟨Nat.le_of_ble_eq_true rfl, Nat.le_of_ble_eq_true rfl⟩) (kp_V hk hw at_M rfl) rfl rfl hl.1 rfl (lv_room (Nat.le_of_ble_eq_true rfl)) dX7_answer_4 ⟨Nat.le_of_ble_eq_true rfl, Nat.le_of_ble_eq_true rfl⟩) (fun H locs hw => ?_)
  refine lv_if_eq (tgt := 12) hx hb dX7_answer_7 (by decide) (fun h1 => ?_) (fun h1 => ?_)
  · refine lv_aload_n hx hb dX7_answer_12 rfl (lv_at hl 0 rfl) ?_
    refine k_get hc hk hw at_M rfl iX7 1 (by decide) q1036 (v := .int (((f_X7_isNot a1 97 M).2) 0 1)) rfl dX7_answer_13 ?_
    refine lv_aload_n hx hb dX7_answer_16 rfl (lv_at hl 0 rfl) ?_
    refine k_get hc hk hw at_M rfl iX7 19 (by decide) q1054 (v := .ref (gA g (jM 16))) rfl dX7_answer_17 ?_
    refine lv_iload_n hx hb dX7_answer_20 rfl (lv_at hl 1 rfl) ?_
    refine k_iald (f := ((f_X7_isNot a1 97 M).2) 16) (n := ((a1).toNatClampNeg)) hc hk hw (at_Mk (k := 16) (t := 0) (n := 20) (by decide) (by decide) (by decide) (by decide)) (isNot_in hN h1) rfl dX7_answer_21 ?_
    refine lv_icmp_le (tgt := 39) hx hb dX7_answer_22 (by decide) (fun h2 => ?_) (fun h2 => ?_)
    · refine lv_iconst (v := 0) hx hb dX7_answer_39 (by decide) ?_
      refine lv_istore_n (lv' := [(2, .int 0), (0, .ref (gA g (jM 0))), (1, .int a1)]) hx hb dX7_answer_40 rfl hl (by decide) rfl (fun ls hl => ?_)
      refine lv_aload_n hx hb dX7_answer_41 rfl (lv_at hl 1 rfl) ?_
      refine k_get hc hk hw at_M rfl iX7 14 (by decide) q1049 (v := .ref (gA g (jM 11))) rfl dX7_answer_42 ?_
      refine lv_iload_n hx hb dX7_answer_45 rfl (lv_at hl 2 rfl) ?_
      refine lv_bipush (v := 115) hx hb dX7_answer_46 (by decide) ?_
      refine k_cast (x' := (xM S (up2 ((f_X7_isNot a1 97 M).2) 11 ((a1).toNatClampNeg) 115) o)) (f := ((f_X7_isNot a1 97 M).2) 11) (n := ((a1).toNatClampNeg)) hc hk hw (at_Mk (k := 11) (t := 1) (n := 20) (by decide) (by decide) (by decide) (by decide)) (isNot_in hN h1) rfl (by decide +kernel) dX7_answer_48 (ms_k (k := 11) (t := 1) (n := 20) (by decide) (by decide) (by decide) (by decide)) (fun H locs hw => ?_)
      refine lv_iload_n hx hb dX7_answer_49 rfl (lv_at hl 0 rfl) ?_
      exact W.iret (v := 0) hx hb hr (fun t9 ht hW => ke_i hw ht (by simp only [f_X7_answer, if_pos h1, if_pos h2]) (by simp only [f_X7_answer, if_pos h1, if_pos h2])) hw.2.2.2 dX7_answer_50
    · refine lv_aload_n hx hb dX7_answer_25 rfl (lv_at hl 0 rfl) ?_
      refine k_get hc hk hw at_M rfl iX7 1 (by decide) q1036 (v := .int (((f_X7_isNot a1 97 M).2) 0 1)) rfl dX7_answer_26 ?_
      refine lv_aload_n hx hb dX7_answer_29 rfl (lv_at hl 0 rfl) ?_
      refine k_get hc hk hw at_M rfl iX7 19 (by decide) q1054 (v := .ref (gA g (jM 16))) rfl dX7_answer_30 ?_
      refine lv_iload_n hx hb dX7_answer_33 rfl (lv_at hl 1 rfl) ?_
      refine k_iald (f := ((f_X7_isNot a1 97 M).2) 16) (n := ((a1).toNatClampNeg)) hc hk hw (at_Mk (k := 16) (t := 0) (n := 20) (by decide) (by decide) (by decide) (by decide)) (isNot_in hN h1) rfl dX7_answer_34 ?_
      refine lv_isub hx hb dX7_answer_35 ?_
      refine lv_goto (tgt := 40) hx hb dX7_answer_36 (by decide) ?_
      refine lv_istore_n (lv' := [(2, .int ((((f_X7_isNot a1 97 M).2) 0 1) - (((f_X7_isNot a1 97 M).2) 16 ((a1).toNatClampNeg)))), (0, .ref (gA g (jM 0))), (1, .int a1)]) hx hb dX7_answer_40 rfl hl (by decide) rfl (fun ls hl => ?_)
      refine lv_aload_n hx hb dX7_answer_41 rfl (lv_at hl 1 rfl) ?_
      refine k_get hc hk hw at_M rfl iX7 14 (by decide) q1049 (v := .ref (gA g (jM 11))) rfl dX7_answer_42 ?_
      refine lv_iload_n hx hb dX7_answer_45 rfl (lv_at hl 2 rfl) ?_
      refine lv_bipush (v := 115) hx hb dX7_answer_46 (by decide) ?_
      refine k_cast (x' := (xM S (up2 ((f_X7_isNot a1 97 M).2) 11 ((a1).toNatClampNeg) 115) o)) (f := ((f_X7_isNot a1 97 M).2) 11) (n := ((a1).toNatClampNeg)) hc hk hw (at_Mk (k := 11) (t := 1) (n := 20) (by decide) (by decide) (by decide) (by decide)) (isNot_in hN h1) rfl (by decide +kernel) dX7_answer_48 (ms_k (k := 11) (t := 1) (n := 20) (by decide) (by decide) (by decide) (by decide)) (fun H locs hw => ?_)
      refine lv_iload_n hx hb dX7_answer_49 rfl (lv_at hl 0 rfl) ?_
      exact W.iret (v := (((f_X7_isNot a1 97 M).2) 0 1) - (((f_X7_isNot a1 97 M).2) 16 ((a1).toNatClampNeg))) hx hb hr (fun t9 ht hW => ke_i hw ht (by simp only [f_X7_answer, if_pos h1, if_neg h2]) (by simp only [f_X7_answer, if_pos h1, if_neg h2])) hw.2.2.2 dX7_answer_50
  · refine lv_iconst (v := 0) hx hb dX7_answer_10 (by decide) ?_
    exact W.iret (v := 0) hx hb hr (fun t9 ht hW => ke_i hw ht (by simp only [f_X7_answer, if_neg h1]) (by simp only [f_X7_answer, if_neg h1])) hw.2.2.2 dX7_answer_11
def f_X7_takeSilence (a1 : Int32) (M : BT) : Int32 × BT :=
  (if (f_X7_isNot a1 97 M).1 = 0 then (if f_X7_isOver a1 ((f_X7_isNot a1 97 M).2) = 0 then (0, up2 ((f_X7_isNot a1 97 M).2) 0 0 2) else (if 3 ≤ ((f_X7_isNot a1 97 M).2) 18 ((a1).toNatClampNeg) then (1 + (f_X7_joinedTo a1 (up2 (up2 (up2 ((f_X7_isNot a1 97 M).2) 0 0 0) 19 ((a1).toNatClampNeg) 1) 11 ((a1).toNatClampNeg) 115)), up2 (up2 (up2 ((f_X7_isNot a1 97 M).2) 0 0 0) 19 ((a1).toNatClampNeg) 1) 11 ((a1).toNatClampNeg) 115) else (0, up2 ((f_X7_isNot a1 97 M).2) 0 0 2))) else (0, (f_X7_isNot a1 97 M).2))
theorem cn_X7_takeSilence {a1 : Int32} {M : BT} {n m9 : Nat} (hN : MN M n m9) : MN ((f_X7_takeSilence a1 M).2) n m9 := by
  unfold f_X7_takeSilence
  by_cases h1 : (f_X7_isNot a1 97 M).1 = 0
  · simp only [if_pos h1]
    by_cases h2 : f_X7_isOver a1 ((f_X7_isNot a1 97 M).2) = 0
    · simp only [if_pos h2]
      exact (MN.up0 (by decide) (by decide) (cn_X7_isNot hN))
    · simp only [if_neg h2]
      by_cases h4 : 3 ≤ ((f_X7_isNot a1 97 M).2) 18 ((a1).toNatClampNeg)
      · simp only [if_pos h4]
        exact (MN.up11 ⟨by decide +kernel, by decide +kernel, by decide +kernel⟩ (MN.upz (by decide) (by decide) (by decide) (by decide) ⟨by decide +kernel, by decide +kernel, by decide +kernel⟩ (MN.up0 (by decide) (by decide) (cn_X7_isNot hN))))
      · simp only [if_neg h4]
        exact (MN.up0 (by decide) (by decide) (cn_X7_isNot hN))
  · simp only [if_neg h1]
    exact (cn_X7_isNot hN)
set_option maxHeartbeats 4000000 in
set_option maxRecDepth 100000 in
theorem m_X7_takeSilence (l : Launch) (g : wG) (S : Nat → BT) (M : BT) (o : (Nat → Int64) × (Nat → UInt64)) (a1 : Int32) (n m9 : Nat) (hN : MN M n m9) : mI l yX7_takeSilence cX7_takeSilence 2 (some .int) ({ frames := 4, cells := 0, slots := 0, locals := 86 } : Room) 0 0 g (xM S M o) [.ref (gA g (jM 0)), .int a1] ((f_X7_takeSilence a1 M).1) (xM S ((f_X7_takeSilence a1 M).2) o) := by
  refine Met.ofW (cc := cX7_takeSilence) (maxL := 2) (ret := some .int) (by decide) rfl ?_
  intro p9 e s m args below meth c s₁ BL hml hv
  obtain ⟨rfl, hk, hPB⟩ := hv
  have hx := BL.exec
  have hb := BL.bytes
  have hc : CX p9 c cX7_takeSilence s _ m RX7 := ⟨hx, hb, findClass_of_methodNamed BL.named, fun w h => atoms_spec BL.pre w (List.mem_cons_of_mem _ h)⟩
  have hr := BL.returns
  have hlocks := BL.notSynchronized
  have hw : WS g s (xM S M o) s.heap [] := ⟨hPB, va_S.rf⟩
  have hl := lv_entry ([.ref (gA g (jM 0)), .int a1]) (n := 2) (Nat.le_of_ble_eq_true rfl)
  rw [lg_entry_eq]
  generalize (lg_sl ([.ref (gA g (jM 0)), .int a1]) ++ List.replicate (2 - (lg_sl ([.ref (gA g (jM 0)), .int a1])).length) Slot.unset).toArray = ls at hl ⊢
  have hl : lv_has ls 2 [(0, .ref (gA g (jM 0))), (1, .int a1)] := hl
  refine lv_aload_n hx hb dX7_takeSilence_0 rfl (lv_at hl 0 rfl) ?_
  refine lv_iload_n hx hb dX7_takeSilence_1 rfl (lv_at hl 1 rfl) ?_
  refine lv_bipush (v := 97) hx hb dX7_takeSilence_2 (by decide) ?_
  refine kc_i hw (va_runV (As := [.int a1, .int 97]) (rest := []) ⟨hx, hb, hml, hc.2.2.1, hc.2.2.2⟩ (m_X7_isNot l g S M o a1 97 _ _ hN) (kw_V hc 2 q1214 q1216 qs66 q8 q1217 rfl rfl (by decide +kernel) ⟨Nat.le_of_ble_eq_true rfl, Nat.le_of_ble_eq_true rfl⟩) (kp_V hk hw at_M rfl) rfl rfl hl.1 rfl (lv_room (Nat.le_of_ble_eq_true rfl)) dX7_takeSilence_4 ⟨Nat.le_of_ble_eq_true rfl, Nat.le_of_ble_eq_true rfl⟩) (fun H locs hw => ?_)
  refine lv_if_eq (tgt := 12) hx hb dX7_takeSilence_7 (by decide) (fun h1 => ?_) (fun h1 => ?_)
  · refine lv_aload_n hx hb dX7_takeSilence_12 rfl (lv_at hl 0 rfl) ?_
    refine lv_aload_n hx hb dX7_takeSilence_13 rfl (lv_at hl 0 rfl) ?_
    refine lv_iload_n hx hb dX7_takeSilence_14 rfl (lv_at hl 1 rfl) ?_
    refine kc_i hw (va_runV (As := [.int a1]) (rest := [.ref (gA g (jM 0))]) ⟨hx, hb, hml, hc.2.2.1, hc.2.2.2⟩ (m_X7_isOver l g S ((f_X7_isNot a1 97 M).2) o a1 _ _ (cn_X7_isNot hN) (isNot_in hN h1)) (kw_V hc 1 q1222 q1224 qs67 q8 q1225 rfl rfl (by decide +kernel) ⟨Nat.le_of_ble_eq_true rfl, Nat.le_of_ble_eq_true rfl⟩) (kp_V hk hw at_M rfl) rfl rfl hl.1 rfl (lv_room (Nat.le_of_ble_eq_true rfl)) dX7_takeSilence_15 ⟨Nat.le_of_ble_eq_true rfl, Nat.le_of_ble_eq_true rfl⟩) (fun H locs hw => ?_)
    refine lv_if_eq (tgt := 31) hx hb dX7_takeSilence_18 (by decide) (fun h2 => ?_) (fun h2 => ?_)
    · refine lv_iconst (v := 2) hx hb dX7_takeSilence_31 (by decide) ?_
      refine lv_goto (tgt := 36) hx hb dX7_takeSilence_32 (by decide) ?_
      refine k_put hc hk hw (x' := (xM S (up2 ((f_X7_isNot a1 97 M).2) 0 0 2) o)) at_M rfl iX7 tyX7 tyX7_ok nmX7 0 (by decide) q1035 rfl rfl rfl (Nat.le_of_ble_eq_true rfl) dX7_takeSilence_36 (ms_0 (by decide)) (fun H locs hw => ?_)
      refine lv_aload_n hx hb dX7_takeSilence_39 rfl (lv_at hl 0 rfl) ?_
      refine k_get hc hk hw at_M rfl iX7 0 (by decide) q1035 (v := .int 2) rfl dX7_takeSilence_40 ?_
      refine lv_if_le (tgt := 48) hx hb dX7_takeSilence_43 (by decide) (fun h3 => absurd h3 (by decide)) (fun _ => ?_)
      refine lv_iconst (v := 0) hx hb dX7_takeSilence_46 (by decide) ?_
      exact W.iret (v := 0) hx hb hr (fun t9 ht hW => ke_i hw ht (by simp only [f_X7_takeSilence, if_pos h1, if_pos h2]) (by simp only [f_X7_takeSilence, if_pos h1, if_pos h2])) hw.2.2.2 dX7_takeSilence_47
    · refine lv_aload_n hx hb dX7_takeSilence_21 rfl (lv_at hl 0 rfl) ?_
      refine k_get hc hk hw at_M rfl iX7 21 (by decide) q1056 (v := .ref (gA g (jM 18))) rfl dX7_takeSilence_22 ?_
      refine lv_iload_n hx hb dX7_takeSilence_25 rfl (lv_at hl 1 rfl) ?_
      refine k_iald (f := ((f_X7_isNot a1 97 M).2) 18) (n := ((a1).toNatClampNeg)) hc hk hw (at_Mk (k := 18) (t := 0) (n := 20) (by decide) (by decide) (by decide) (by decide)) (isNot_in hN h1) rfl dX7_takeSilence_26 ?_
      refine lv_iconst (v := 3) hx hb dX7_takeSilence_27 (by decide) ?_
      refine lv_icmp_ge (tgt := 35) hx hb dX7_takeSilence_28 (by decide) (fun h4 => ?_) (fun h4 => ?_)
      · refine lv_iconst (v := 0) hx hb dX7_takeSilence_35 (by decide) ?_
        refine k_put hc hk hw (x' := (xM S (up2 ((f_X7_isNot a1 97 M).2) 0 0 0) o)) at_M rfl iX7 tyX7 tyX7_ok nmX7 0 (by decide) q1035 rfl rfl rfl (Nat.le_of_ble_eq_true rfl) dX7_takeSilence_36 (ms_0 (by decide)) (fun H locs hw => ?_)
        refine lv_aload_n hx hb dX7_takeSilence_39 rfl (lv_at hl 0 rfl) ?_
        refine k_get hc hk hw at_M rfl iX7 0 (by decide) q1035 (v := .int 0) rfl dX7_takeSilence_40 ?_
        refine lv_if_le (tgt := 48) hx hb dX7_takeSilence_43 (by decide) (fun _ => ?_) (fun h5 => absurd h5 (by decide))
        refine lv_aload_n hx hb dX7_takeSilence_48 rfl (lv_at hl 0 rfl) ?_
        refine k_get hc hk hw at_M rfl iX7 22 (by decide) q1057 (v := .ref (gA g (jM 19))) rfl dX7_takeSilence_49 ?_
        refine lv_iload_n hx hb dX7_takeSilence_52 rfl (lv_at hl 1 rfl) ?_
        refine lv_iconst (v := 1) hx hb dX7_takeSilence_53 (by decide) ?_
        refine k_zast (x' := (xM S (up2 (up2 ((f_X7_isNot a1 97 M).2) 0 0 0) 19 ((a1).toNatClampNeg) 1) o)) (f := (up2 ((f_X7_isNot a1 97 M).2) 0 0 0) 19) (n := ((a1).toNatClampNeg)) hc hk hw (at_Mk (k := 19) (t := 2) (n := 20) (by decide) (by decide) (by decide) (by decide)) (isNot_in hN h1) rfl (by decide +kernel) dX7_takeSilence_54 (ms_k (k := 19) (t := 2) (n := 20) (by decide) (by decide) (by decide) (by decide)) (fun H locs hw => ?_)
        refine lv_aload_n hx hb dX7_takeSilence_55 rfl (lv_at hl 0 rfl) ?_
        refine k_get hc hk hw at_M rfl iX7 14 (by decide) q1049 (v := .ref (gA g (jM 11))) rfl dX7_takeSilence_56 ?_
        refine lv_iload_n hx hb dX7_takeSilence_59 rfl (lv_at hl 1 rfl) ?_
        refine lv_bipush (v := 115) hx hb dX7_takeSilence_60 (by decide) ?_
        refine k_cast (x' := (xM S (up2 (up2 (up2 ((f_X7_isNot a1 97 M).2) 0 0 0) 19 ((a1).toNatClampNeg) 1) 11 ((a1).toNatClampNeg) 115) o)) (f := (up2 (up2 ((f_X7_isNot a1 97 M).2) 0 0 0) 19 ((a1).toNatClampNeg) 1) 11) (n := ((a1).toNatClampNeg)) hc hk hw (at_Mk (k := 11) (t := 1) (n := 20) (by decide) (by decide) (by decide) (by decide)) (isNot_in hN h1) rfl (by decide +kernel) dX7_takeSilence_62 (ms_k (k := 11) (t := 1) (n := 20) (by decide) (by decide) (by decide) (by decide)) (fun H locs hw => ?_)
        refine lv_iconst (v := 1) hx hb dX7_takeSilence_63 (by decide) ?_
        refine lv_aload_n hx hb dX7_takeSilence_64 rfl (lv_at hl 0 rfl) ?_
        refine lv_iload_n hx hb dX7_takeSilence_65 rfl (lv_at hl 1 rfl) ?_
        refine kc_i hw (va_runV (As := [.int a1]) (rest := [.int 1]) ⟨hx, hb, hml, hc.2.2.1, hc.2.2.2⟩ (m_X7_joinedTo l g S (up2 (up2 (up2 ((f_X7_isNot a1 97 M).2) 0 0 0) 19 ((a1).toNatClampNeg) 1) 11 ((a1).toNatClampNeg) 115) o a1 _ _ (MN.up11 ⟨by decide +kernel, by decide +kernel, by decide +kernel⟩ (MN.upz (by decide) (by decide) (by decide) (by decide) ⟨by decide +kernel, by decide +kernel, by decide +kernel⟩ (MN.up0 (by decide) (by decide) (cn_X7_isNot hN))))) (kw_V hc 1 q1238 q1240 qs68 q8 q1241 rfl rfl (by decide +kernel) ⟨Nat.le_of_ble_eq_true rfl, Nat.le_of_ble_eq_true rfl⟩) (kp_V hk hw at_M rfl) rfl rfl hl.1 rfl (lv_room (Nat.le_of_ble_eq_true rfl)) dX7_takeSilence_66 ⟨Nat.le_of_ble_eq_true rfl, Nat.le_of_ble_eq_true rfl⟩) (fun H locs hw => ?_)
        refine lv_iadd hx hb dX7_takeSilence_69 ?_
        exact W.iret (v := 1 + (f_X7_joinedTo a1 (up2 (up2 (up2 ((f_X7_isNot a1 97 M).2) 0 0 0) 19 ((a1).toNatClampNeg) 1) 11 ((a1).toNatClampNeg) 115))) hx hb hr (fun t9 ht hW => ke_i hw ht (by simp only [f_X7_takeSilence, if_pos h1, if_neg h2, if_pos h4]) (by simp only [f_X7_takeSilence, if_pos h1, if_neg h2, if_pos h4])) hw.2.2.2 dX7_takeSilence_70
      · refine lv_iconst (v := 2) hx hb dX7_takeSilence_31 (by decide) ?_
        refine lv_goto (tgt := 36) hx hb dX7_takeSilence_32 (by decide) ?_
        refine k_put hc hk hw (x' := (xM S (up2 ((f_X7_isNot a1 97 M).2) 0 0 2) o)) at_M rfl iX7 tyX7 tyX7_ok nmX7 0 (by decide) q1035 rfl rfl rfl (Nat.le_of_ble_eq_true rfl) dX7_takeSilence_36 (ms_0 (by decide)) (fun H locs hw => ?_)
        refine lv_aload_n hx hb dX7_takeSilence_39 rfl (lv_at hl 0 rfl) ?_
        refine k_get hc hk hw at_M rfl iX7 0 (by decide) q1035 (v := .int 2) rfl dX7_takeSilence_40 ?_
        refine lv_if_le (tgt := 48) hx hb dX7_takeSilence_43 (by decide) (fun h6 => absurd h6 (by decide)) (fun _ => ?_)
        refine lv_iconst (v := 0) hx hb dX7_takeSilence_46 (by decide) ?_
        exact W.iret (v := 0) hx hb hr (fun t9 ht hW => ke_i hw ht (by simp only [f_X7_takeSilence, if_pos h1, if_neg h2, if_neg h4]) (by simp only [f_X7_takeSilence, if_pos h1, if_neg h2, if_neg h4])) hw.2.2.2 dX7_takeSilence_47
  · refine lv_iconst (v := 0) hx hb dX7_takeSilence_10 (by decide) ?_
    exact W.iret (v := 0) hx hb hr (fun t9 ht hW => ke_i hw ht (by simp only [f_X7_takeSilence, if_neg h1]) (by simp only [f_X7_takeSilence, if_neg h1])) hw.2.2.2 dX7_takeSilence_11
def f_X7_isOverdue (a1 : Int32) (M : BT) : Int32 × BT :=
  (if (f_X7_noComplaint a1 M).1 = 0 then (if f_X7_isOver (f_X7_leading a1 ((f_X7_noComplaint a1 M).2)) ((f_X7_noComplaint a1 M).2) = 0 then (0, (f_X7_noComplaint a1 M).2) else (1, (f_X7_noComplaint a1 M).2)) else (0, (f_X7_noComplaint a1 M).2))
theorem cn_X7_isOverdue {a1 : Int32} {M : BT} {n m9 : Nat} (hN : MN M n m9) : MN ((f_X7_isOverdue a1 M).2) n m9 := by
  unfold f_X7_isOverdue
  by_cases h1 : (f_X7_noComplaint a1 M).1 = 0
  · simp only [if_pos h1]
    by_cases h2 : f_X7_isOver (f_X7_leading a1 ((f_X7_noComplaint a1 M).2)) ((f_X7_noComplaint a1 M).2) = 0
    · simp only [if_pos h2]
      exact (cn_X7_noComplaint hN)
    · simp only [if_neg h2]
      exact (cn_X7_noComplaint hN)
  · simp only [if_neg h1]
    exact (cn_X7_noComplaint hN)
set_option maxHeartbeats 4000000 in
set_option maxRecDepth 100000 in
theorem m_X7_isOverdue (l : Launch) (g : wG) (S : Nat → BT) (M : BT) (o : (Nat → Int64) × (Nat → UInt64)) (a1 : Int32) (n m9 : Nat) (hN : MN M n m9) : mI l yX7_isOverdue cX7_isOverdue 2 (some .boolean) ({ frames := 3, cells := 0, slots := 0, locals := 64 } : Room) 0 0 g (xM S M o) [.ref (gA g (jM 0)), .int a1] ((f_X7_isOverdue a1 M).1) (xM S ((f_X7_isOverdue a1 M).2) o) := by
  refine Met.ofW (cc := cX7_isOverdue) (maxL := 2) (ret := some .boolean) (by decide) rfl ?_
  intro p9 e s m args below meth c s₁ BL hml hv
  obtain ⟨rfl, hk, hPB⟩ := hv
  have hx := BL.exec
  have hb := BL.bytes
  have hc : CX p9 c cX7_isOverdue s _ m RX7 := ⟨hx, hb, findClass_of_methodNamed BL.named, fun w h => atoms_spec BL.pre w (List.mem_cons_of_mem _ h)⟩
  have hr := BL.returns
  have hlocks := BL.notSynchronized
  have hw : WS g s (xM S M o) s.heap [] := ⟨hPB, va_S.rf⟩
  have hl := lv_entry ([.ref (gA g (jM 0)), .int a1]) (n := 2) (Nat.le_of_ble_eq_true rfl)
  rw [lg_entry_eq]
  generalize (lg_sl ([.ref (gA g (jM 0)), .int a1]) ++ List.replicate (2 - (lg_sl ([.ref (gA g (jM 0)), .int a1])).length) Slot.unset).toArray = ls at hl ⊢
  have hl : lv_has ls 2 [(0, .ref (gA g (jM 0))), (1, .int a1)] := hl
  refine lv_aload_n hx hb dX7_isOverdue_0 rfl (lv_at hl 0 rfl) ?_
  refine lv_iload_n hx hb dX7_isOverdue_1 rfl (lv_at hl 1 rfl) ?_
  refine kc_i hw (va_runV (As := [.int a1]) (rest := []) ⟨hx, hb, hml, hc.2.2.1, hc.2.2.2⟩ (m_X7_noComplaint l g S M o a1 _ _ hN) (kw_V hc 1 q1172 q1174 qs64 q8 q1175 rfl rfl (by decide +kernel) ⟨Nat.le_of_ble_eq_true rfl, Nat.le_of_ble_eq_true rfl⟩) (kp_V hk hw at_M rfl) rfl rfl hl.1 rfl (lv_room (Nat.le_of_ble_eq_true rfl)) dX7_isOverdue_2 ⟨Nat.le_of_ble_eq_true rfl, Nat.le_of_ble_eq_true rfl⟩) (fun H locs hw => ?_)
  refine lv_if_ne (tgt := 24) hx hb dX7_isOverdue_5 (by decide) (fun h1 => ?_) (fun h1 => ?_)
  · refine lv_iconst (v := 0) hx hb dX7_isOverdue_24 (by decide) ?_
    exact W.zret (v := 0) hx hb hr (by decide +kernel) (fun t9 ht hW => ke_i hw ht (by simp only [f_X7_isOverdue, if_neg h1]) (by simp only [f_X7_isOverdue, if_neg h1])) hw.2.2.2 dX7_isOverdue_25
  · refine lv_aload_n hx hb dX7_isOverdue_8 rfl (lv_at hl 0 rfl) ?_
    refine lv_aload_n hx hb dX7_isOverdue_9 rfl (lv_at hl 0 rfl) ?_
    refine lv_iload_n hx hb dX7_isOverdue_10 rfl (lv_at hl 1 rfl) ?_
    refine kc_i hw (va_runV (As := [.int a1]) (rest := [.ref (gA g (jM 0))]) ⟨hx, hb, hml, hc.2.2.1, hc.2.2.2⟩ (m_X7_leading l g S ((f_X7_noComplaint a1 M).2) o a1 _ _ (cn_X7_noComplaint hN) (noComplaint_in hN h1)) (kw_V hc 1 q1144 q1146 qs60 q8 q1147 rfl rfl (by decide +kernel) ⟨Nat.le_of_ble_eq_true rfl, Nat.le_of_ble_eq_true rfl⟩) (kp_V hk hw at_M rfl) rfl rfl hl.1 rfl (lv_room (Nat.le_of_ble_eq_true rfl)) dX7_isOverdue_11 ⟨Nat.le_of_ble_eq_true rfl, Nat.le_of_ble_eq_true rfl⟩) (fun H locs hw => ?_)
    refine kc_i hw (va_runV (As := [.int (f_X7_leading a1 ((f_X7_noComplaint a1 M).2))]) (rest := []) ⟨hx, hb, hml, hc.2.2.1, hc.2.2.2⟩ (m_X7_isOver l g S ((f_X7_noComplaint a1 M).2) o (f_X7_leading a1 ((f_X7_noComplaint a1 M).2)) _ _ (cn_X7_noComplaint hN) (leading_in (cn_X7_noComplaint hN) (noComplaint_in hN h1))) (kw_V hc 1 q1222 q1224 qs67 q8 q1225 rfl rfl (by decide +kernel) ⟨Nat.le_of_ble_eq_true rfl, Nat.le_of_ble_eq_true rfl⟩) (kp_V hk hw at_M rfl) rfl rfl hl.1 rfl (lv_room (Nat.le_of_ble_eq_true rfl)) dX7_isOverdue_14 ⟨Nat.le_of_ble_eq_true rfl, Nat.le_of_ble_eq_true rfl⟩) (fun H locs hw => ?_)
    refine lv_if_eq (tgt := 24) hx hb dX7_isOverdue_17 (by decide) (fun h2 => ?_) (fun h2 => ?_)
    · refine lv_iconst (v := 0) hx hb dX7_isOverdue_24 (by decide) ?_
      exact W.zret (v := 0) hx hb hr (by decide +kernel) (fun t9 ht hW => ke_i hw ht (by simp only [f_X7_isOverdue, if_pos h1, if_pos h2]) (by simp only [f_X7_isOverdue, if_pos h1, if_pos h2])) hw.2.2.2 dX7_isOverdue_25
    · refine lv_iconst (v := 1) hx hb dX7_isOverdue_20 (by decide) ?_
      refine lv_goto (tgt := 25) hx hb dX7_isOverdue_21 (by decide) ?_
      exact W.zret (v := 1) hx hb hr (by decide +kernel) (fun t9 ht hW => ke_i hw ht (by simp only [f_X7_isOverdue, if_pos h1, if_neg h2]) (by simp only [f_X7_isOverdue, if_pos h1, if_neg h2])) hw.2.2.2 dX7_isOverdue_25
