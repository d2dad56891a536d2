/-! the sections: each returns, and answers 1 -/
abbrev y9 : (Nat → Nat → Int32) × (Nat → Int64) × (Nat → UInt64) := (fun _ _ => 0, fun _ => 0, fun _ => 0)
abbrev mS1 (l : Launch) (y : MethodName) (cy : ByteArray) (ny : Nat) (g : wG) (Pc : Array Value → State → Prop) : Prop :=
  Met l y (ws_ y cy ny (some .boolean)) rmD Pc (va_Qi (fun v (_ : Unit) => v = 1) (fun _ _ => True) (AA g)) 2000 20000 (AA g)
set_option maxHeartbeats 4000000 in
set_option maxRecDepth 100000 in
theorem m_L_silence (l : Launch) (g0 : wG) (hfl : l.stackTraces = false) : mS1 l yL_silence cL_silence 2 g0 (va_Pc [] (prL g0)) := by
  refine Met.ofW (cc := cL_silence) (maxL := 2) (ret := some .boolean) (by decide) rfl ?_
  intro p9 e s m args below meth c s₁ BL hml hv
  obtain ⟨rfl, hp0⟩ := hv
  have hx := BL.exec
  have hb := BL.bytes
  have hc : CX p9 c cL_silence s _ m RL := ⟨hx, hb, findClass_of_methodNamed BL.named, fun w h => atoms_spec BL.pre w (List.mem_cons_of_mem _ h)⟩
  have hr := BL.returns
  have hlocks := BL.notSynchronized
  have hl := lv_entry ([]) (n := 2) (Nat.le_of_ble_eq_true rfl)
  rw [lg_entry_eq]
  generalize (lg_sl ([]) ++ List.replicate (2 - (lg_sl ([])).length) Slot.unset).toArray = ls at hl ⊢
  have hl : lv_has ls 2 [] := hl
  refine k_cre y9 hc hml hp0 hl dL_silence_0 dL_silence_3 dL_silence_4 ⟨Nat.le_of_ble_eq_true rfl, Nat.le_of_ble_eq_true rfl⟩ ⟨Nat.le_of_ble_eq_true rfl, Nat.le_of_ble_eq_true rfl⟩ (fun g hk hnb hg H locs hw => ?_)
  have hAe : AA g = AA g0 := NB.eq hp0.2.1 hnb hg
  refine lv_astore_n (lv' := [(0, .ref (gA g 0))]) hx hb dL_silence_7 rfl hl (by decide) rfl (fun ls hl => ?_)
  have X : LX p9 l s m _ c cL_silence 2 g := ⟨hc, hml, hk, hfl⟩
  refine w_sil X ?_ st_S b0 H locs ls st_VV hw ev_sil hl
  · intro S B H locs ls hV hw hr9 hl
    refine lv_iconst (v := 1) hx hb dL_silence_1031 (by decide) ?_
    refine lv_goto (tgt := 1036) hx hb dL_silence_1032 (by decide) ?_
    refine W.widen (k := 2000) (n := 20000) (Nat.le_of_ble_eq_true rfl) (Nat.le_of_ble_eq_true rfl) ?_
    exact W.zret (v := 1) hx hb hr (by decide +kernel) (fun t9 ht hW => ⟨⟨_, (), rfl, rfl, trivial⟩, by rw [← hAe]; exact hw.2.F ht⟩) (by rw [← hAe]; exact hw.2.2.2) dL_silence_1036
set_option maxHeartbeats 4000000 in
set_option maxRecDepth 100000 in
theorem m_L_full (l : Launch) (g0 : wG) (hfl : l.stackTraces = false) : mS1 l yL_full cL_full 2 g0 (va_Pc [] (prL g0)) := by
  refine Met.ofW (cc := cL_full) (maxL := 2) (ret := some .boolean) (by decide) rfl ?_
  intro p9 e s m args below meth c s₁ BL hml hv
  obtain ⟨rfl, hp0⟩ := hv
  have hx := BL.exec
  have hb := BL.bytes
  have hc : CX p9 c cL_full s _ m RL := ⟨hx, hb, findClass_of_methodNamed BL.named, fun w h => atoms_spec BL.pre w (List.mem_cons_of_mem _ h)⟩
  have hr := BL.returns
  have hlocks := BL.notSynchronized
  have hl := lv_entry ([]) (n := 2) (Nat.le_of_ble_eq_true rfl)
  rw [lg_entry_eq]
  generalize (lg_sl ([]) ++ List.replicate (2 - (lg_sl ([])).length) Slot.unset).toArray = ls at hl ⊢
  have hl : lv_has ls 2 [] := hl
  refine k_cre y9 hc hml hp0 hl dL_full_0 dL_full_3 dL_full_4 ⟨Nat.le_of_ble_eq_true rfl, Nat.le_of_ble_eq_true rfl⟩ ⟨Nat.le_of_ble_eq_true rfl, Nat.le_of_ble_eq_true rfl⟩ (fun g hk hnb hg H locs hw => ?_)
  have hAe : AA g = AA g0 := NB.eq hp0.2.1 hnb hg
  refine lv_astore_n (lv' := [(0, .ref (gA g 0))]) hx hb dL_full_7 rfl hl (by decide) rfl (fun ls hl => ?_)
  have X : LX p9 l s m _ c cL_full 2 g := ⟨hc, hml, hk, hfl⟩
  refine w_ful X ?_ st_S b0 H locs ls st_VV hw ev_ful hl
  · intro S B H locs ls hV hw hr9 hl
    refine lv_iconst (v := 1) hx hb dL_full_398 (by decide) ?_
    refine lv_goto (tgt := 403) hx hb dL_full_399 (by decide) ?_
    refine W.widen (k := 2000) (n := 20000) (Nat.le_of_ble_eq_true rfl) (Nat.le_of_ble_eq_true rfl) ?_
    exact W.zret (v := 1) hx hb hr (by decide +kernel) (fun t9 ht hW => ⟨⟨_, (), rfl, rfl, trivial⟩, by rw [← hAe]; exact hw.2.F ht⟩) (by rw [← hAe]; exact hw.2.2.2) dL_full_403
theorem k_rmd {p : Program} {l : Launch} {e : Env} {R : Room} {s : State} {m : MethodId} {args : Array Value} {below : List Frame} {meth : Method} {c : Code} {H : Heap} {locs : List Loc} {cells slots : Nat} {Q : State → Prop} {ls : Array Slot} {w h : Int32} {lv : List (Nat × Value)} (hx : p.tables.exec = Jvm.exec) (hb : c.code = cL_ladder) (hl : lv_has ls 8 ((4, .int (sm4 w h)) :: lv))
    (J : W p l e R s m args below meth c H locs cells slots Q (F0 m 75 ls [.int (rmd w h)])) : W p l e R s m args below meth c H locs cells slots Q (F0 m 42 ls []) := by
  have J : ∀ v : Int32, v = rmd w h → W p l e R s m args below meth c H locs cells slots Q (F0 m 75 ls [.int v]) := fun v hv => by subst hv; exact J
  refine lv_iload hx hb dL_ladder_42 (lv_at hl 0 rfl) ?_
  refine lv_iconst (v := 3) hx hb dL_ladder_44 (by decide) ?_
  refine lv_icmp_gt (tgt := 52) hx hb dL_ladder_45 (by decide) (fun h1 => ?_) (fun h1 => ?_)
  · refine lv_iload hx hb dL_ladder_52 (lv_at hl 0 rfl) ?_
    refine lv_bipush (v := 9) hx hb dL_ladder_54 (by decide) ?_
    refine lv_icmp_gt (tgt := 63) hx hb dL_ladder_56 (by decide) (fun h2 => ?_) (fun h2 => ?_)
    · refine lv_iload hx hb dL_ladder_63 (lv_at hl 0 rfl) ?_
      refine lv_bipush (v := 15) hx hb dL_ladder_65 (by decide) ?_
      refine lv_icmp_gt (tgt := 74) hx hb dL_ladder_67 (by decide) (fun h3 => ?_) (fun h3 => ?_)
      · refine lv_iconst (v := 4) hx hb dL_ladder_74 (by decide) ?_
        exact J _ (by unfold rmd; rw [if_pos h1, if_pos h2, if_pos h3])
      · refine lv_iconst (v := 3) hx hb dL_ladder_70 (by decide) ?_
        refine lv_goto (tgt := 75) hx hb dL_ladder_71 (by decide) ?_
        exact J _ (by unfold rmd; rw [if_pos h1, if_pos h2, if_neg h3])
    · refine lv_iconst (v := 2) hx hb dL_ladder_59 (by decide) ?_
      refine lv_goto (tgt := 75) hx hb dL_ladder_60 (by decide) ?_
      exact J _ (by unfold rmd; rw [if_pos h1, if_neg h2])
  · refine lv_iconst (v := 1) hx hb dL_ladder_48 (by decide) ?_
    refine lv_goto (tgt := 75) hx hb dL_ladder_49 (by decide) ?_
    exact J _ (by unfold rmd; rw [if_neg h1])
set_option maxHeartbeats 4000000 in
set_option maxRecDepth 100000 in
theorem m_L_ladder (l : Launch) (g0 : wG) (hfl : l.stackTraces = false) (bs L : Nat) (xs : Nat → Int32) (hL : L ≤ 260) : mS1 l yL_ladder cL_ladder 8 g0 (va_Pc [.ref bs] (fun U => prL g0 U ∧ va_X bs L xs U U.heap ∧ bs < g0.2.2.2)) := by
  refine Met.ofW (cc := cL_ladder) (maxL := 8) (ret := some .boolean) (by decide) rfl ?_
  intro p9 e s m args below meth c s₁ BL hml hv
  obtain ⟨rfl, hp0, hX, hbs⟩ := hv
  have hx := BL.exec
  have hb := BL.bytes
  have hc : CX p9 c cL_ladder s _ m RL := ⟨hx, hb, findClass_of_methodNamed BL.named, fun w h => atoms_spec BL.pre w (List.mem_cons_of_mem _ h)⟩
  have hr := BL.returns
  have hlocks := BL.notSynchronized
  have hl := lv_entry ([.ref bs]) (n := 8) (Nat.le_of_ble_eq_true rfl)
  rw [lg_entry_eq]
  generalize (lg_sl ([.ref bs]) ++ List.replicate (8 - (lg_sl ([.ref bs])).length) Slot.unset).toArray = ls at hl ⊢
  have hl : lv_has ls 8 [(0, .ref bs)] := hl
  refine k_cre y9 hc hml hp0 hl dL_ladder_0 dL_ladder_3 dL_ladder_4 ⟨Nat.le_of_ble_eq_true rfl, Nat.le_of_ble_eq_true rfl⟩ ⟨Nat.le_of_ble_eq_true rfl, Nat.le_of_ble_eq_true rfl⟩ (fun g hk hnb hg H locs hw => ?_)
  have hAe : AA g = AA g0 := NB.eq hp0.2.1 hnb hg
  have hbl : bs < s.heap.size := Nat.lt_of_lt_of_le hbs hp0.1.2.2.2.1
  have hbA : ¬ AA g bs := by rw [hnb.A, hg]; exact Nat.not_le.mpr hbs
  refine lv_astore_n (lv' := [(1, .ref (gA g 0)), (0, .ref bs)]) hx hb dL_ladder_7 rfl hl (by decide) rfl (fun ls hl => ?_)
  refine lv_iconst (v := 1) hx hb dL_ladder_8 (by decide) ?_
  refine lv_aload_n hx hb dL_ladder_9 rfl (lv_at hl 1 rfl) ?_
  refine lv_iconst (v := (nI 0)) hx hb dL_ladder_10 (by decide) ?_
  refine kc_p hw (va_runS (As := [.ref bs, .int (nI 0)]) (rest := [.int 1]) ⟨hx, hb, hml, hc.2.2.1, hc.2.2.2⟩ (m_L_at l bs L xs hL 0 (by decide)) (kw_S hc 2 q950 q951 q0 q952 rfl rfl (by decide +kernel) ⟨Nat.le_of_ble_eq_true rfl, Nat.le_of_ble_eq_true rfl⟩) (kp_A hw hX hbl hbA) rfl rfl hl.1 rfl (lv_room (Nat.le_of_ble_eq_true rfl)) dL_ladder_11 ⟨Nat.le_of_ble_eq_true rfl, Nat.le_of_ble_eq_true rfl⟩) (fun r1 H locs _ hw => ?_)
  refine lv_bipush (v := (nI 9)) hx hb dL_ladder_14 (by decide +kernel) ?_
  refine kc_p hw (va_runS (As := [.int r1, .int (nI 9)]) (rest := [.int 1]) ⟨hx, hb, hml, hc.2.2.1, hc.2.2.2⟩ (m_L_some l 9 (by decide) (by decide) r1) (kw_S hc 2 q953 q954 q0 q955 rfl rfl (by decide +kernel) ⟨Nat.le_of_ble_eq_true rfl, Nat.le_of_ble_eq_true rfl⟩) kp_T rfl rfl hl.1 rfl (lv_room (Nat.le_of_ble_eq_true rfl)) dL_ladder_16 ⟨Nat.le_of_ble_eq_true rfl, Nat.le_of_ble_eq_true rfl⟩) (fun v1 H locs hv1 hw => ?_)
  obtain ⟨i1, hi1, rfl⟩ := hv1
  refine lv_iadd hx hb dL_ladder_19 ?_
  refine vn_ (v9 := (nI (i1 + 1))) (by rw [show (1 : Int32) = nI 1 from rfl, nI_add, Nat.add_comm]) ?_
  refine lv_istore_n (lv' := [(2, .int (nI (i1 + 1))), (1, .ref (gA g 0)), (0, .ref bs)]) hx hb dL_ladder_20 rfl hl (by decide) rfl (fun ls hl => ?_)
  refine lv_iconst (v := 1) hx hb dL_ladder_21 (by decide) ?_
  refine lv_aload_n hx hb dL_ladder_22 rfl (lv_at hl 2 rfl) ?_
  refine lv_iconst (v := (nI 1)) hx hb dL_ladder_23 (by decide) ?_
  refine kc_p hw (va_runS (As := [.ref bs, .int (nI 1)]) (rest := [.int 1]) ⟨hx, hb, hml, hc.2.2.1, hc.2.2.2⟩ (m_L_at l bs L xs hL 1 (by decide)) (kw_S hc 2 q950 q951 q0 q952 rfl rfl (by decide +kernel) ⟨Nat.le_of_ble_eq_true rfl, Nat.le_of_ble_eq_true rfl⟩) (kp_A hw hX hbl hbA) rfl rfl hl.1 rfl (lv_room (Nat.le_of_ble_eq_true rfl)) dL_ladder_24 ⟨Nat.le_of_ble_eq_true rfl, Nat.le_of_ble_eq_true rfl⟩) (fun r2 H locs _ hw => ?_)
  refine lv_bipush (v := (nI 31)) hx hb dL_ladder_27 (by decide +kernel) ?_
  refine kc_p hw (va_runS (As := [.int r2, .int (nI 31)]) (rest := [.int 1]) ⟨hx, hb, hml, hc.2.2.1, hc.2.2.2⟩ (m_L_some l 31 (by decide) (by decide) r2) (kw_S hc 2 q953 q954 q0 q955 rfl rfl (by decide +kernel) ⟨Nat.le_of_ble_eq_true rfl, Nat.le_of_ble_eq_true rfl⟩) kp_T rfl rfl hl.1 rfl (lv_room (Nat.le_of_ble_eq_true rfl)) dL_ladder_29 ⟨Nat.le_of_ble_eq_true rfl, Nat.le_of_ble_eq_true rfl⟩) (fun v2 H locs hv2 hw => ?_)
  obtain ⟨i2, hi2, rfl⟩ := hv2
  refine lv_iadd hx hb dL_ladder_32 ?_
  refine vn_ (v9 := (nI (i2 + 1))) (by rw [show (1 : Int32) = nI 1 from rfl, nI_add, Nat.add_comm]) ?_
  refine lv_istore_n (lv' := [(3, .int (nI (i2 + 1))), (2, .int (nI (i1 + 1))), (1, .ref (gA g 0)), (0, .ref bs)]) hx hb dL_ladder_33 rfl hl (by decide) rfl (fun ls hl => ?_)
  refine lv_iload_n hx hb dL_ladder_34 rfl (lv_at hl 0 rfl) ?_
  refine kc_p hw (va_runS (As := [.int (nI (i2 + 1))]) (rest := []) ⟨hx, hb, hml, hc.2.2.1, hc.2.2.2⟩ (m_bitCount l (nI (i2 + 1))) (kw_S hc 1 q956 q957 q24 q958 rfl rfl (by decide +kernel) ⟨Nat.le_of_ble_eq_true rfl, Nat.le_of_ble_eq_true rfl⟩) kp_T rfl rfl hl.1 rfl (lv_room (Nat.le_of_ble_eq_true rfl)) dL_ladder_35 ⟨Nat.le_of_ble_eq_true rfl, Nat.le_of_ble_eq_true rfl⟩) (fun v3 H locs hv3 hw => ?_)
  subst hv3
  refine lv_iload_n hx hb dL_ladder_38 rfl (lv_at hl 1 rfl) ?_
  refine lv_imul hx hb dL_ladder_39 ?_
  refine vn_ (v9 := sm4 (nI (i1 + 1)) (nI (i2 + 1))) rfl ?_
  refine lv_istore (lv' := [(4, .int (sm4 (nI (i1 + 1)) (nI (i2 + 1)))), (3, .int (nI (i2 + 1))), (2, .int (nI (i1 + 1))), (1, .ref (gA g 0)), (0, .ref bs)]) hx hb dL_ladder_40 hl (by decide) rfl (fun ls hl => ?_)
  refine k_rmd hx hb hl ?_
  refine lv_istore (lv' := [(5, .int (rmd (nI (i1 + 1)) (nI (i2 + 1)))), (4, .int (sm4 (nI (i1 + 1)) (nI (i2 + 1)))), (3, .int (nI (i2 + 1))), (2, .int (nI (i1 + 1))), (1, .ref (gA g 0)), (0, .ref bs)]) hx hb dL_ladder_75 hl (by decide) rfl (fun ls hl => ?_)
  have X : LX p9 l s m _ c cL_ladder 8 g := ⟨hc, hml, hk, hfl⟩
  refine w_lad (nI (i1 + 1)) (nI (i2 + 1)) X ?_ st_S b0 H locs ls st_VV hw (ev_lad i1 hi1) hl
  intro S B H locs ls hV hw hr9 hl
  refine w_lad2 (nI (i1 + 1)) (nI (i2 + 1)) X ?_ S (nrm B) H locs ls hV.nrmV hw.nrmW (ev_lad2 i1 hi1 i2 hi2 B hr9) hl
  intro S B H locs ls hV hw hr9 hl
  refine lv_iconst (v := 1) hx hb dL_ladder_1117 (by decide) ?_
  refine lv_goto (tgt := 1122) hx hb dL_ladder_1118 (by decide) ?_
  refine W.widen (k := 2000) (n := 20000) (Nat.le_of_ble_eq_true rfl) (Nat.le_of_ble_eq_true rfl) ?_
  exact W.zret (v := 1) hx hb hr (by decide +kernel) (fun t9 ht hW => ⟨⟨_, (), rfl, rfl, trivial⟩, by rw [← hAe]; exact hw.2.F ht⟩) (by rw [← hAe]; exact hw.2.2.2) dL_ladder_1122
