/-! the law's small helpers: they touch no cell -/
abbrev rmZ0 : Room := { frames := 0, cells := 0, slots := 0, locals := 0 }
abbrev mP0 (l : Launch) (y : MethodName) (cy : ByteArray) (ny : Nat) (Pc : Array Value → State → Prop) (post : Int32 → Unit → Prop) : Prop :=
  Met l y (ws_ y cy ny (some .int)) rmZ0 Pc (va_Qi post (fun _ _ => True) (fun _ => False)) 0 0 (fun _ => False)
def prA (b L : Nat) (xs : Nat → Int32) (U : State) : Prop := va_X b L xs U U.heap ∧ b < U.heap.size
theorem prA_blind {b L : Nat} {xs : Nat → Int32} {av : List Value} : FrameBlind (va_Pc av (prA b L xs)) := fun a U f mk q => ⟨q.1, va_X.moved (u := U) (U := U.calling f mk a) (Vm.Alike.refl U.vm) q.2.1, q.2.2⟩
theorem prT_blind {av : List Value} : FrameBlind (va_Pc av (fun _ => True)) := fun _ _ _ _ q => ⟨q.1, trivial⟩
section KP0
variable {p : Program} {l : Launch} {e : Env} {R : Room} {s : State} {m : MethodId} {args : Array Value} {below : List Frame} {meth : Method} {c : Code} {H : Heap} {locs : List Loc} {cells slots : Nat} {Q : State → Prop}
variable {g : wG} {x : wSt} {pc mc ms : Nat} {ls : Array Slot} {rest st0 : List Value}
theorem kc_p {post : Int32 → Unit → Prop} {a : Array Value} (hw : WS g s x H locs) (hr : va_Run p l e R s m args below meth c H locs cells slots mc ms (F0 m pc ls st0) rest (va_Qi post (fun _ _ => True) (fun _ => False) a) (fun _ => False))
    (kk : ∀ (r : Int32) (H1 : Heap) (locs1 : List Loc), post r () → WS g s x H1 locs1 → W p l e R s m args below meth c H1 locs1 (cells + mc) (slots + ms) Q (F0 m (pc + 3) ls (.int r :: rest))) : W p l e R s m args below meth c H locs cells slots Q (F0 m pc ls st0) :=
  va_calli hr hw.2 (fun _ _ h => h.elim) (fun _ h => h.elim) (fun r u t H1 locs1 ht _ hp _ hz hq hS => kk r H1 locs1 hp ⟨hw.1.kept (fun k q h => hq q.1 (hw.1 k q h).lt (fun z => z)), hS⟩)
theorem kp_A {b L : Nat} {xs : Nat → Int32} {As : List Value} (hw : WS g s x H locs) (hX : va_X b L xs s s.heap) (hb : b < s.heap.size) (hbA : ¬ AA g b) : PreS s H (va_Pc As (prA b L xs)) As :=
  ⟨prA_blind, fun U hU hW => ⟨rfl, (hX.moved hW.alike).kept (by rw [hU]; exact hw.2.2.1 b hb hbA), by rw [hU]; exact Nat.lt_of_lt_of_le hb hw.2.1⟩⟩
theorem kp_T {As : List Value} : PreS s H (va_Pc As (fun _ => True)) As := ⟨prT_blind, fun _ _ _ => ⟨rfl, trivial⟩⟩
end KP0
set_option maxHeartbeats 4000000 in
theorem m_L_at (l : Launch) (b L : Nat) (xs : Nat → Int32) (hL : L ≤ 260) (k : Nat) (hk9 : k < 2 ^ 31) : mP0 l yL_at cL_at 2 (va_Pc [.ref b, .int (nI k)] (prA b L xs)) (fun _ _ => True) := by
  refine Met.ofW (cc := cL_at) (maxL := 2) (ret := some .int) (by decide) rfl ?_
  intro p9 e s m args below meth c s₁ BL hml hv
  obtain ⟨rfl, hX, hbl⟩ := hv
  have hx := BL.exec
  have hb := BL.bytes
  have hr := BL.returns
  have hl := lv_entry ([.ref b, .int (nI k)]) (n := 2) (Nat.le_of_ble_eq_true rfl)
  rw [lg_entry_eq]
  generalize (lg_sl ([.ref b, .int (nI k)]) ++ List.replicate (2 - (lg_sl ([.ref b, .int (nI k)])).length) Slot.unset).toArray = ls at hl ⊢
  have hl : lv_has ls 2 [(0, .ref b), (1, .int (nI k))] := hl
  have hS : va_S (fun _ => False) s.heap s.heap [] := va_S.rf
  refine lv_iload_n hx hb dL_at_0 rfl (lv_at hl 1 rfl) ?_
  refine lv_aload_n hx hb dL_at_1 rfl (lv_at hl 0 rfl) ?_
  refine va_slen hx hb hX hbl (fun z => z) hS dL_at_2 ?_
  refine lv_icmp_ge (tgt := 12) hx hb dL_at_3 (by decide) (fun h9 => ?_) (fun h9 => ?_)
  · refine lv_iconst (v := 0) hx hb dL_at_12 (by decide) ?_
    exact W.iret (v := 0) hx hb hr (fun t9 ht hW => ⟨⟨_, (), rfl, trivial, trivial⟩, hS.F ht⟩) hS.2.2 dL_at_13
  · refine lv_aload_n hx hb dL_at_6 rfl (lv_at hl 0 rfl) ?_
    refine lv_iload_n hx hb dL_at_7 rfl (lv_at hl 1 rfl) ?_
    have hlt : k < L := by
      rcases Nat.lt_or_ge k L with z | z
      · exact z
      · exact absurd ((nI_leI (by omega) hk9).mpr z) h9
    refine va_sld hx hb hX hbl (fun z => z) hS (vp_in_nI hlt (by omega)) dL_at_8 ?_
    refine lv_goto (tgt := 13) hx hb dL_at_9 (by decide) ?_
    exact W.iret (v := _) hx hb hr (fun t9 ht hW => ⟨⟨_, (), rfl, trivial, trivial⟩, hS.F ht⟩) hS.2.2 dL_at_13
theorem fm_nI {n : Nat} (h0 : 0 < n) (h1 : n < 2 ^ 31) (a : Int32) : ∃ i, i < n ∧ fmv a (nI n) = nI i := by
  have e := nI_toInt h1
  have hb := fmv_bounds (a := a) (m := nI n) (by rw [e]; omega)
  refine ⟨(fmv a (nI n)).toInt.toNat, by omega, Int32.toInt_inj.mp ?_⟩
  rw [nI_toInt (by omega)]
  omega
set_option maxHeartbeats 4000000 in
theorem m_L_some (l : Launch) (n : Nat) (h0 : 0 < n) (h1 : n < 2 ^ 31) (a : Int32) : mP0 l yL_some cL_some 3 (va_Pc [.int a, .int (nI n)] (fun _ => True)) (fun v _ => ∃ i, i < n ∧ v = nI i) := by
  refine Met.ofW (cc := cL_some) (maxL := 3) (ret := some .int) (by decide) rfl ?_
  intro p9 e s m args below meth c s₁ BL hml hv
  obtain ⟨rfl, -⟩ := hv
  have hx := BL.exec
  have hb := BL.bytes
  have hr := BL.returns
  have hl := lv_entry ([.int a, .int (nI n)]) (n := 3) (Nat.le_of_ble_eq_true rfl)
  rw [lg_entry_eq]
  generalize (lg_sl ([.int a, .int (nI n)]) ++ List.replicate (3 - (lg_sl ([.int a, .int (nI n)])).length) Slot.unset).toArray = ls at hl ⊢
  have hl : lv_has ls 3 [(0, .int a), (1, .int (nI n))] := hl
  have hS : va_S (fun _ => False) s.heap s.heap [] := va_S.rf
  refine lv_iload_n hx hb dL_some_0 rfl (lv_at hl 0 rfl) ?_
  refine lv_iload_n hx hb dL_some_1 rfl (lv_at hl 1 rfl) ?_
  refine lv_irem hx hb dL_some_2 (nI_ne0 h0 h1) ?_
  refine lv_istore_n (lv' := [(2, .int (a - a / nI n * nI n)), (0, .int a), (1, .int (nI n))]) hx hb dL_some_3 rfl hl (by decide) rfl (fun ls hl => ?_)
  refine lv_iload_n hx hb dL_some_4 rfl (lv_at hl 0 rfl) ?_
  refine lv_if_ge (tgt := 14) hx hb dL_some_5 (by decide) (fun h9 => ?_) (fun h9 => ?_)
  · refine lv_iload_n hx hb dL_some_14 rfl (lv_at hl 0 rfl) ?_
    have e9 : fmv a (nI n) = a - a / nI n * nI n := if_pos h9
    have hf := fm_nI h0 h1 a
    rw [e9] at hf
    exact W.iret (v := a - a / nI n * nI n) hx hb hr (fun t9 ht hW => ⟨⟨_, (), rfl, hf, trivial⟩, hS.F ht⟩) hS.2.2 dL_some_15
  · refine lv_iload_n hx hb dL_some_8 rfl (lv_at hl 0 rfl) ?_
    refine lv_iload_n hx hb dL_some_9 rfl (lv_at hl 2 rfl) ?_
    refine lv_iadd hx hb dL_some_10 ?_
    refine lv_goto (tgt := 15) hx hb dL_some_11 (by decide) ?_
    have e9 : fmv a (nI n) = a - a / nI n * nI n + nI n := if_neg h9
    have hf := fm_nI h0 h1 a
    rw [e9] at hf
    exact W.iret (v := a - a / nI n * nI n + nI n) hx hb hr (fun t9 ht hW => ⟨⟨_, (), rfl, hf, trivial⟩, hS.F ht⟩) hS.2.2 dL_some_15
set_option maxHeartbeats 4000000 in
theorem m_bitCount (l : Launch) (a : Int32) : mP0 l yJ6_bitCount_0f7a4 cJ6_bitCount_0f7a4 1 (va_Pc [.int a] (fun _ => True)) (fun v _ => v = bcn a) := by
  refine Met.ofW (cc := cJ6_bitCount_0f7a4) (maxL := 1) (ret := some .int) (by decide) rfl ?_
  intro p9 e s m args below meth c s₁ BL hml hv
  obtain ⟨rfl, -⟩ := hv
  have hx := BL.exec
  have hb := BL.bytes
  have hr := BL.returns
  have hc : CX p9 c cJ6_bitCount_0f7a4 s _ m RJ6 := ⟨hx, hb, findClass_of_methodNamed BL.named, fun w h => atoms_spec BL.pre w (List.mem_cons_of_mem _ h)⟩
  have hl := lv_entry ([.int a]) (n := 1) (Nat.le_of_ble_eq_true rfl)
  rw [lg_entry_eq]
  generalize (lg_sl ([.int a]) ++ List.replicate (1 - (lg_sl ([.int a])).length) Slot.unset).toArray = ls at hl ⊢
  have hl : lv_has ls 1 [(0, .int a)] := hl
  have hS : va_S (fun _ => False) s.heap s.heap [] := va_S.rf
  refine lv_iload_n hx hb dJ6_bitCount_0f7a4_0 rfl (lv_at hl 0 rfl) ?_
  refine lv_iload_n hx hb dJ6_bitCount_0f7a4_1 rfl (lv_at hl 0 rfl) ?_
  refine lv_iconst (v := 1) hx hb dJ6_bitCount_0f7a4_2 (by decide) ?_
  refine lv_iushr (v := usr a 1) hx hb dJ6_bitCount_0f7a4_3 rfl ?_
  refine lv_ldcw (v := 1431655765) hx hb hc.2.2.1 (hc.2.2.2 _ q959) dJ6_bitCount_0f7a4_4 ?_
  refine lv_iand hx hb dJ6_bitCount_0f7a4_7 ?_
  refine lv_isub hx hb dJ6_bitCount_0f7a4_8 ?_
  refine vn_ (v9 := (bc1 a)) rfl ?_
  refine lv_istore_n (lv' := [(0, .int (bc1 a))]) hx hb dJ6_bitCount_0f7a4_9 rfl hl (by decide) rfl (fun ls hl => ?_)
  refine lv_iload_n hx hb dJ6_bitCount_0f7a4_10 rfl (lv_at hl 0 rfl) ?_
  refine lv_ldcw (v := 858993459) hx hb hc.2.2.1 (hc.2.2.2 _ q960) dJ6_bitCount_0f7a4_11 ?_
  refine lv_iand hx hb dJ6_bitCount_0f7a4_14 ?_
  refine lv_iload_n hx hb dJ6_bitCount_0f7a4_15 rfl (lv_at hl 0 rfl) ?_
  refine lv_iconst (v := 2) hx hb dJ6_bitCount_0f7a4_16 (by decide) ?_
  refine lv_iushr (v := usr (bc1 a) 2) hx hb dJ6_bitCount_0f7a4_17 rfl ?_
  refine lv_ldcw (v := 858993459) hx hb hc.2.2.1 (hc.2.2.2 _ q960) dJ6_bitCount_0f7a4_18 ?_
  refine lv_iand hx hb dJ6_bitCount_0f7a4_21 ?_
  refine lv_iadd hx hb dJ6_bitCount_0f7a4_22 ?_
  refine vn_ (v9 := (bc2 (bc1 a))) rfl ?_
  refine lv_istore_n (lv' := [(0, .int (bc2 (bc1 a)))]) hx hb dJ6_bitCount_0f7a4_23 rfl hl (by decide) rfl (fun ls hl => ?_)
  refine lv_iload_n hx hb dJ6_bitCount_0f7a4_24 rfl (lv_at hl 0 rfl) ?_
  refine lv_iload_n hx hb dJ6_bitCount_0f7a4_25 rfl (lv_at hl 0 rfl) ?_
  refine lv_iconst (v := 4) hx hb dJ6_bitCount_0f7a4_26 (by decide) ?_
  refine lv_iushr (v := usr (bc2 (bc1 a)) 4) hx hb dJ6_bitCount_0f7a4_27 rfl ?_
  refine lv_iadd hx hb dJ6_bitCount_0f7a4_28 ?_
  refine lv_ldcw (v := 252645135) hx hb hc.2.2.1 (hc.2.2.2 _ q961) dJ6_bitCount_0f7a4_29 ?_
  refine lv_iand hx hb dJ6_bitCount_0f7a4_32 ?_
  refine vn_ (v9 := (bc3 (bc2 (bc1 a)))) rfl ?_
  refine lv_istore_n (lv' := [(0, .int (bc3 (bc2 (bc1 a))))]) hx hb dJ6_bitCount_0f7a4_33 rfl hl (by decide) rfl (fun ls hl => ?_)
  refine lv_iload_n hx hb dJ6_bitCount_0f7a4_34 rfl (lv_at hl 0 rfl) ?_
  refine lv_iload_n hx hb dJ6_bitCount_0f7a4_35 rfl (lv_at hl 0 rfl) ?_
  refine lv_bipush (v := 8) hx hb dJ6_bitCount_0f7a4_36 (by decide) ?_
  refine lv_iushr (v := usr (bc3 (bc2 (bc1 a))) 8) hx hb dJ6_bitCount_0f7a4_38 rfl ?_
  refine lv_iadd hx hb dJ6_bitCount_0f7a4_39 ?_
  refine vn_ (v9 := (bc4 (bc3 (bc2 (bc1 a))))) rfl ?_
  refine lv_istore_n (lv' := [(0, .int (bc4 (bc3 (bc2 (bc1 a)))))]) hx hb dJ6_bitCount_0f7a4_40 rfl hl (by decide) rfl (fun ls hl => ?_)
  refine lv_iload_n hx hb dJ6_bitCount_0f7a4_41 rfl (lv_at hl 0 rfl) ?_
  refine lv_iload_n hx hb dJ6_bitCount_0f7a4_42 rfl (lv_at hl 0 rfl) ?_
  refine lv_bipush (v := 16) hx hb dJ6_bitCount_0f7a4_43 (by decide) ?_
  refine lv_iushr (v := usr (bc4 (bc3 (bc2 (bc1 a)))) 16) hx hb dJ6_bitCount_0f7a4_45 rfl ?_
  refine lv_iadd hx hb dJ6_bitCount_0f7a4_46 ?_
  refine vn_ (v9 := (bc5 (bc4 (bc3 (bc2 (bc1 a)))))) rfl ?_
  refine lv_istore_n (lv' := [(0, .int (bc5 (bc4 (bc3 (bc2 (bc1 a))))))]) hx hb dJ6_bitCount_0f7a4_47 rfl hl (by decide) rfl (fun ls hl => ?_)
  refine lv_iload_n hx hb dJ6_bitCount_0f7a4_48 rfl (lv_at hl 0 rfl) ?_
  refine lv_bipush (v := 63) hx hb dJ6_bitCount_0f7a4_49 (by decide) ?_
  refine lv_iand hx hb dJ6_bitCount_0f7a4_51 ?_
  exact W.iret (v := (bc5 (bc4 (bc3 (bc2 (bc1 a))))) &&& 63) hx hb hr (fun t9 ht hW => ⟨⟨_, (), rfl, rfl, trivial⟩, hS.F ht⟩) hS.2.2 dJ6_bitCount_0f7a4_52
