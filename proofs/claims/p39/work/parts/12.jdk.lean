/-! the two texts: String.indexOf over them -/
def BR (g : wG) (j av : Nat) (U : State) (H : Heap) : Prop := va_T .byte av (lenJS.getD j 0) (fun k => .int ((bytJS.getD j []).getD k 0)) (AA g) U H
def SR (g : wG) (j a av : Nat) (U : State) (H : Heap) : Prop := va_O "java/lang/String" a (AA g) U H ∧ va_OF "java/lang/String" "coder" "B" (.int 0) a (AA g) U H ∧ va_OF "java/lang/String" "value" "[B" (.ref av) a (AA g) U H ∧ BR g j av U H
theorem SR.moved {g : wG} {j a av : Nat} {u U : State} {H H1 : Heap} (hvm : u.vm.Alike U.vm) (hq : ∀ a : Nat, a < H.size → ¬ AA g a → H1[a]? = H[a]?) (h : SR g j a av u H) : SR g j a av U H1 :=
  ⟨(h.1.moved hvm).kept hq, (h.2.1.moved hvm).kept hq, (h.2.2.1.moved hvm).kept hq, va_T.kept (va_T.moved hvm h.2.2.2) hq⟩
theorem BR.moved {g : wG} {j av : Nat} {u U : State} {H H1 : Heap} (hvm : u.vm.Alike U.vm) (hq : ∀ a : Nat, a < H.size → ¬ AA g a → H1[a]? = H[a]?) (h : BR g j av u H) : BR g j av U H1 := va_T.kept (va_T.moved hvm h) hq
abbrev mS (l : Launch) (y : MethodName) (cy : ByteArray) (ny : Nat) (ry : Option FieldType) (rm : Room) (g : wG) (x : wSt) (P : State → Heap → Prop) (av : List Value) (r : Int32) : Prop :=
  Met l y (ws_ y cy ny ry) rm (va_Pc av (fun U => pre_ g x U ∧ P U U.heap)) (va_Qi (fun (v : Int32) (u : wSt) => v = r ∧ u = x) (PB g) (AA g)) 0 0 (AA g)
/-- what a method asks beside the world, and how it is had at a call -/
def movable (g : wG) (P : State → Heap → Prop) : Prop := ∀ (u U : State) (H H1 : Heap), u.vm.Alike U.vm → (∀ a : Nat, a < H.size → ¬ AA g a → H1[a]? = H[a]?) → P u H → P U H1
theorem SR.mv {g : wG} {j a av : Nat} : movable g (SR g j a av) := fun _ _ _ _ h1 h2 h3 => h3.moved h1 h2
theorem BR.mv {g : wG} {j av : Nat} : movable g (BR g j av) := fun _ _ _ _ h1 h2 h3 => h3.moved h1 h2
theorem kpS_blind {g : wG} {x : wSt} {av : List Value} {P : State → Heap → Prop} (hm : movable g P) : FrameBlind (va_Pc av (fun U => pre_ g x U ∧ P U U.heap)) := fun a U f mk q => ⟨q.1, ⟨WK.same (u := U) (U := U.calling f mk a) rfl q.2.1.1, q.2.1.2⟩, hm U (U.calling f mk a) U.heap U.heap (Vm.Alike.refl _) (fun _ _ _ => rfl) q.2.2⟩
section KPS
variable {s : State} {H : Heap} {locs : List Loc} {g : wG} {x : wSt} {P : State → Heap → Prop} {As : List Value} {b : Nat}
theorem kpS_at (hm : movable g P) (hk : WK g s s.heap) (hw : WS g s x H locs) (hP : P s s.heap) {U : State} (hU : U.heap = H) (hW : s.WarmedH U.vm) : pre_ g x U ∧ P U U.heap :=
  ⟨⟨WK.at hk hw.2 hU hW, by show va_P _ _ _ U.heap; rw [hU]; exact hw.1⟩, hm s U s.heap U.heap hW.alike (fun a h1 h2 => by rw [hU]; exact hw.2.2.1 a h1 h2) hP⟩
theorem kpS_V {j av : Nat} (hm : movable g P) (hk : WK g s s.heap) (hw : WS g s x H locs) (hP : P s s.heap) (hO : SR g j b av s s.heap) : PreV s H "java/lang/String" b (va_Pc (.ref b :: As) (fun U => pre_ g x U ∧ P U U.heap)) As := by
  refine ⟨kpS_blind hm, ?_, fun U hU hW => ⟨rfl, kpS_at hm hk hw hP hU hW⟩⟩
  obtain ⟨cell, h1, h2, h3, -⟩ := hO.1.kept hw.2.2.1
  exact ⟨cell, h1, h2, h3⟩
theorem kpS_S (hm : movable g P) (hk : WK g s s.heap) (hw : WS g s x H locs) (hP : P s s.heap) : PreS s H (va_Pc As (fun U => pre_ g x U ∧ P U U.heap)) As :=
  ⟨kpS_blind hm, fun U hU hW => ⟨rfl, kpS_at hm hk hw hP hU hW⟩⟩
end KPS
/-- indexOf over the bytes from place k on -/
def ixF (c : Int32) : List Int32 → Nat → Int32
  | [], _ => -1
  | b :: l, k => if b = c then nI k else ixF c l (k + 1)
def ixB (j : Nat) (c : Int32) : Int32 := if c < 0 then -1 else if 255 < c then -1 else ixF (c.toInt8.toInt32) (bytJS.getD j []) 0
theorem js_len {j : Nat} (hj : j < 2) : (bytJS.getD j []).length = lenJS.getD j 0 ∧ lenJS.getD j 0 ≤ 12 ∧ 0 < lenJS.getD j 0 := by
  have : j = 0 ∨ j = 1 := by omega
  rcases this with rfl | rfl <;> decide
set_option maxHeartbeats 4000000 in
set_option maxRecDepth 100000 in
theorem m_J0_isLatin1_aae02 (l : Launch) (g : wG) (x : wSt) (j9 : Nat) (a9 av9 : Nat) (hj9 : j9 < 2) : mS l yJ0_isLatin1_aae02 cJ0_isLatin1_aae02 1 (some .boolean) ({ frames := 0, cells := 0, slots := 0, locals := 0 } : Room) g x (SR g j9 a9 av9) [.ref a9] (1) := by
  refine Met.ofW (cc := cJ0_isLatin1_aae02) (maxL := 1) (ret := some .boolean) (by decide) rfl ?_
  intro p9 e s m args below meth c s₁ BL hml hv
  obtain ⟨rfl, ⟨hk, hPB⟩, hP9⟩ := hv
  have hx := BL.exec
  have hb := BL.bytes
  have hc : CX p9 c cJ0_isLatin1_aae02 s _ m RJ0 := ⟨hx, hb, findClass_of_methodNamed BL.named, fun w h => atoms_spec BL.pre w (List.mem_cons_of_mem _ h)⟩
  have hr := BL.returns
  have hlocks := BL.notSynchronized
  have hw : WS g s x s.heap [] := ⟨hPB, va_S.rf⟩
  have hl := lv_entry ([.ref a9]) (n := 1) (Nat.le_of_ble_eq_true rfl)
  rw [lg_entry_eq]
  generalize (lg_sl ([.ref a9]) ++ List.replicate (1 - (lg_sl ([.ref a9])).length) Slot.unset).toArray = ls at hl ⊢
  have hl : lv_has ls 1 [(0, .ref a9)] := hl
  refine va_gets (v := .int 1) hx hb hk.2.2.2.2.2.2.2.2.1 hw.2 hc.2.2.1 (hc.2.2.2 _ q343) (fun _ h => h) dJ0_isLatin1_aae02_0 ?_
  refine lv_if_eq (tgt := 17) hx hb dJ0_isLatin1_aae02_3 (by decide) (fun h1 => absurd h1 (by decide)) (fun _ => ?_)
  refine lv_aload_n hx hb dJ0_isLatin1_aae02_6 rfl (lv_at hl 0 rfl) ?_
  refine vk_getf (v := .int 0) hx hb hP9.2.1 hw.2 hc.2.2.1 (hc.2.2.2 _ q989) (fun _ h => h) dJ0_isLatin1_aae02_7 ?_
  refine lv_if_ne (tgt := 17) hx hb dJ0_isLatin1_aae02_10 (by decide) (fun h2 => absurd h2 (by decide)) (fun _ => ?_)
  refine lv_iconst (v := 1) hx hb dJ0_isLatin1_aae02_13 (by decide) ?_
  refine lv_goto (tgt := 18) hx hb dJ0_isLatin1_aae02_14 (by decide) ?_
  exact W.zret (v := 1) hx hb hr (by decide +kernel) (fun t9 ht hW => ke_i hw ht rfl rfl) hw.2.2.2 dJ0_isLatin1_aae02_18
set_option maxHeartbeats 4000000 in
set_option maxRecDepth 100000 in
theorem m_J0_coder_7d493 (l : Launch) (g : wG) (x : wSt) (j9 : Nat) (a9 av9 : Nat) (hj9 : j9 < 2) : mS l yJ0_coder_7d493 cJ0_coder_7d493 1 (some .byte) ({ frames := 0, cells := 0, slots := 0, locals := 0 } : Room) g x (SR g j9 a9 av9) [.ref a9] (0) := by
  refine Met.ofW (cc := cJ0_coder_7d493) (maxL := 1) (ret := some .byte) (by decide) rfl ?_
  intro p9 e s m args below meth c s₁ BL hml hv
  obtain ⟨rfl, ⟨hk, hPB⟩, hP9⟩ := hv
  have hx := BL.exec
  have hb := BL.bytes
  have hc : CX p9 c cJ0_coder_7d493 s _ m RJ0 := ⟨hx, hb, findClass_of_methodNamed BL.named, fun w h => atoms_spec BL.pre w (List.mem_cons_of_mem _ h)⟩
  have hr := BL.returns
  have hlocks := BL.notSynchronized
  have hw : WS g s x s.heap [] := ⟨hPB, va_S.rf⟩
  have hl := lv_entry ([.ref a9]) (n := 1) (Nat.le_of_ble_eq_true rfl)
  rw [lg_entry_eq]
  generalize (lg_sl ([.ref a9]) ++ List.replicate (1 - (lg_sl ([.ref a9])).length) Slot.unset).toArray = ls at hl ⊢
  have hl : lv_has ls 1 [(0, .ref a9)] := hl
  refine va_gets (v := .int 1) hx hb hk.2.2.2.2.2.2.2.2.1 hw.2 hc.2.2.1 (hc.2.2.2 _ q343) (fun _ h => h) dJ0_coder_7d493_0 ?_
  refine lv_if_eq (tgt := 13) hx hb dJ0_coder_7d493_3 (by decide) (fun h1 => absurd h1 (by decide)) (fun _ => ?_)
  refine lv_aload_n hx hb dJ0_coder_7d493_6 rfl (lv_at hl 0 rfl) ?_
  refine vk_getf (v := .int 0) hx hb hP9.2.1 hw.2 hc.2.2.1 (hc.2.2.2 _ q989) (fun _ h => h) dJ0_coder_7d493_7 ?_
  refine lv_goto (tgt := 14) hx hb dJ0_coder_7d493_10 (by decide) ?_
  exact W.zret (v := 0) hx hb hr (by decide +kernel) (fun t9 ht hW => ke_i hw ht rfl rfl) hw.2.2.2 dJ0_coder_7d493_14
set_option maxHeartbeats 4000000 in
set_option maxRecDepth 100000 in
theorem m_J0_length_8abf5 (l : Launch) (g : wG) (x : wSt) (j9 : Nat) (a9 av9 : Nat) (hj9 : j9 < 2) : mS l yJ0_length_8abf5 cJ0_length_8abf5 1 (some .int) ({ frames := 1, cells := 0, slots := 0, locals := 20 } : Room) g x (SR g j9 a9 av9) [.ref a9] (nI (lenJS.getD j9 0)) := by
  refine Met.ofW (cc := cJ0_length_8abf5) (maxL := 1) (ret := some .int) (by decide) rfl ?_
  intro p9 e s m args below meth c s₁ BL hml hv
  obtain ⟨rfl, ⟨hk, hPB⟩, hP9⟩ := hv
  have hx := BL.exec
  have hb := BL.bytes
  have hc : CX p9 c cJ0_length_8abf5 s _ m RJ0 := ⟨hx, hb, findClass_of_methodNamed BL.named, fun w h => atoms_spec BL.pre w (List.mem_cons_of_mem _ h)⟩
  have hr := BL.returns
  have hlocks := BL.notSynchronized
  have hw : WS g s x s.heap [] := ⟨hPB, va_S.rf⟩
  have hl := lv_entry ([.ref a9]) (n := 1) (Nat.le_of_ble_eq_true rfl)
  rw [lg_entry_eq]
  generalize (lg_sl ([.ref a9]) ++ List.replicate (1 - (lg_sl ([.ref a9])).length) Slot.unset).toArray = ls at hl ⊢
  have hl : lv_has ls 1 [(0, .ref a9)] := hl
  refine lv_aload_n hx hb dJ0_length_8abf5_0 rfl (lv_at hl 0 rfl) ?_
  refine vk_getf (v := .ref av9) hx hb hP9.2.2.1 hw.2 hc.2.2.1 (hc.2.2.2 _ q990) (fun _ h => h) dJ0_length_8abf5_1 ?_
  refine va_tlen (v := nI (lenJS.getD j9 0)) hx hb hP9.2.2.2 hw.2 rfl dJ0_length_8abf5_4 ?_
  refine lv_aload_n hx hb dJ0_length_8abf5_5 rfl (lv_at hl 0 rfl) ?_
  refine kc_i hw (va_runV (As := []) (rest := [.int (nI (lenJS.getD j9 0))]) ⟨hx, hb, hml, hc.2.2.1, hc.2.2.2⟩ (m_J0_coder_7d493 l g x j9 a9 av9 hj9) (kw_V hc 0 q349 q350 q351 q13 q352 rfl rfl (by decide +kernel) ⟨Nat.le_of_ble_eq_true rfl, Nat.le_of_ble_eq_true rfl⟩) (kpS_V SR.mv hk hw hP9 hP9) rfl rfl hl.1 rfl (lv_room (Nat.le_of_ble_eq_true rfl)) dJ0_length_8abf5_6 ⟨Nat.le_of_ble_eq_true rfl, Nat.le_of_ble_eq_true rfl⟩) (fun H locs hw => ?_)
  refine lv_ishr hx hb dJ0_length_8abf5_9 ?_
  exact W.iret (v := (nI (lenJS.getD j9 0)) >>> (0 &&& 31)) hx hb hr (fun t9 ht hW => ke_i hw ht (sb_shr0 _) rfl) hw.2.2.2 dJ0_length_8abf5_10
def f_J1_canEncode_9a6ad (a1 : Int32) : Int32 :=
  (if a1 < 0 then 0 else (if 255 < a1 then 0 else 1))
set_option maxHeartbeats 4000000 in
set_option maxRecDepth 100000 in
theorem m_J1_canEncode_9a6ad (l : Launch) (g : wG) (x : wSt) (a1 : Int32) : mI l yJ1_canEncode_9a6ad cJ1_canEncode_9a6ad 1 (some .boolean) ({ frames := 0, cells := 0, slots := 0, locals := 0 } : Room) 0 0 g x [.int a1] (f_J1_canEncode_9a6ad a1) x := by
  refine Met.ofW (cc := cJ1_canEncode_9a6ad) (maxL := 1) (ret := some .boolean) (by decide) rfl ?_
  intro p9 e s m args below meth c s₁ BL hml hv
  obtain ⟨rfl, hk, hPB⟩ := hv
  have hx := BL.exec
  have hb := BL.bytes
  have hc : CX p9 c cJ1_canEncode_9a6ad s _ m RJ1 := ⟨hx, hb, findClass_of_methodNamed BL.named, fun w h => atoms_spec BL.pre w (List.mem_cons_of_mem _ h)⟩
  have hr := BL.returns
  have hlocks := BL.notSynchronized
  have hw : WS g s x s.heap [] := ⟨hPB, va_S.rf⟩
  have hl := lv_entry ([.int a1]) (n := 1) (Nat.le_of_ble_eq_true rfl)
  rw [lg_entry_eq]
  generalize (lg_sl ([.int a1]) ++ List.replicate (1 - (lg_sl ([.int a1])).length) Slot.unset).toArray = ls at hl ⊢
  have hl : lv_has ls 1 [(0, .int a1)] := hl
  refine lv_iload_n hx hb dJ1_canEncode_9a6ad_0 rfl (lv_at hl 0 rfl) ?_
  refine lv_if_lt (tgt := 15) hx hb dJ1_canEncode_9a6ad_1 (by decide) (fun h1 => ?_) (fun h1 => ?_)
  · refine lv_iconst (v := 0) hx hb dJ1_canEncode_9a6ad_15 (by decide) ?_
    exact W.zret (v := 0) hx hb hr (by decide +kernel) (fun t9 ht hW => ke_i hw ht (by simp only [f_J1_canEncode_9a6ad, if_pos h1]) rfl) hw.2.2.2 dJ1_canEncode_9a6ad_16
  · refine lv_iload_n hx hb dJ1_canEncode_9a6ad_4 rfl (lv_at hl 0 rfl) ?_
    refine lv_sipush (v := 255) hx hb dJ1_canEncode_9a6ad_5 (by decide) ?_
    refine lv_icmp_gt (tgt := 15) hx hb dJ1_canEncode_9a6ad_8 (by decide) (fun h2 => ?_) (fun h2 => ?_)
    · refine lv_iconst (v := 0) hx hb dJ1_canEncode_9a6ad_15 (by decide) ?_
      exact W.zret (v := 0) hx hb hr (by decide +kernel) (fun t9 ht hW => ke_i hw ht (by simp only [f_J1_canEncode_9a6ad, if_neg h1, if_pos h2]) rfl) hw.2.2.2 dJ1_canEncode_9a6ad_16
    · refine lv_iconst (v := 1) hx hb dJ1_canEncode_9a6ad_11 (by decide) ?_
      refine lv_goto (tgt := 16) hx hb dJ1_canEncode_9a6ad_12 (by decide) ?_
      exact W.zret (v := 1) hx hb hr (by decide +kernel) (fun t9 ht hW => ke_i hw ht (by simp only [f_J1_canEncode_9a6ad, if_neg h1, if_neg h2]) rfl) hw.2.2.2 dJ1_canEncode_9a6ad_16
def f_J1_ixc (j9 : Nat) (a1 : Int32) : Int32 := ixF (a1.toInt8.toInt32) (bytJS.getD j9 []) 0
theorem ixF_step {c : Int32} {l : List Int32} {k : Nat} (hk : k < l.length) : ixF c (l.drop k) k = if l.getD k 0 = c then nI k else ixF c (l.drop (k + 1)) (k + 1) := by
  have e : l.drop k = l.getD k 0 :: l.drop (k + 1) := by
    rw [List.drop_eq_getElem_cons hk]; congr 1; simp [hk]
  rw [e]; rfl
set_option maxHeartbeats 4000000 in
set_option maxRecDepth 100000 in
theorem m_J1_indexOfChar_4cfef (l : Launch) (g : wG) (x : wSt) (j9 av9 : Nat) (hj9 : j9 < 2) (a1 : Int32) : mS l yJ1_indexOfChar_4cfef cJ1_indexOfChar_4cfef 6 (some .int) ({ frames := 0, cells := 0, slots := 0, locals := 0 } : Room) g x (BR g j9 av9) [.ref av9, .int a1, .int 0, .int (nI (lenJS.getD j9 0))] (f_J1_ixc j9 a1) := by
  refine Met.ofW (cc := cJ1_indexOfChar_4cfef) (maxL := 6) (ret := some .int) (by decide) rfl ?_
  intro p9 e s m args below meth c s₁ BL hml hv
  obtain ⟨rfl, ⟨hk, hPB⟩, hP9⟩ := hv
  have hx := BL.exec
  have hb := BL.bytes
  have hc : CX p9 c cJ1_indexOfChar_4cfef s _ m RJ1 := ⟨hx, hb, findClass_of_methodNamed BL.named, fun w h => atoms_spec BL.pre w (List.mem_cons_of_mem _ h)⟩
  have hr := BL.returns
  have hlocks := BL.notSynchronized
  have hw : WS g s x s.heap [] := ⟨hPB, va_S.rf⟩
  have hl := lv_entry ([.ref av9, .int a1, .int 0, .int (nI (lenJS.getD j9 0))]) (n := 6) (Nat.le_of_ble_eq_true rfl)
  rw [lg_entry_eq]
  generalize (lg_sl ([.ref av9, .int a1, .int 0, .int (nI (lenJS.getD j9 0))]) ++ List.replicate (6 - (lg_sl ([.ref av9, .int a1, .int 0, .int (nI (lenJS.getD j9 0))])).length) Slot.unset).toArray = ls at hl ⊢
  have hl : lv_has ls 6 [(0, .ref av9), (1, .int a1), (2, .int 0), (3, .int (nI (lenJS.getD j9 0)))] := hl
  obtain ⟨q1, q2, -⟩ := js_len hj9
  refine lv_iload_n hx hb dJ1_indexOfChar_4cfef_0 rfl (lv_at hl 1 rfl) ?_
  refine lv_i2b (v := a1.toInt8.toInt32) hx hb dJ1_indexOfChar_4cfef_1 rfl ?_
  refine lv_istore (lv' := [(4, .int a1.toInt8.toInt32), (0, .ref av9), (1, .int a1), (2, .int 0), (3, .int (nI (lenJS.getD j9 0)))]) hx hb dJ1_indexOfChar_4cfef_2 hl (by decide) rfl (fun ls hl => ?_)
  refine lv_iload_n hx hb dJ1_indexOfChar_4cfef_4 rfl (lv_at hl 3 rfl) ?_
  refine lv_istore (lv' := [(5, .int (nI 0)), (4, .int a1.toInt8.toInt32), (0, .ref av9), (1, .int a1), (2, .int 0), (3, .int (nI (lenJS.getD j9 0)))]) hx hb dJ1_indexOfChar_4cfef_5 hl (by decide) rfl (fun ls hl => ?_)
  have LP : ∀ (f k : Nat), k ≤ lenJS.getD j9 0 → lenJS.getD j9 0 + 1 ≤ k + f → ixF (a1.toInt8.toInt32) ((bytJS.getD j9 []).drop k) k = f_J1_ixc j9 a1 → ∀ (ls : Array Slot), lv_has ls 6 [(5, .int (nI k)), (4, .int a1.toInt8.toInt32), (0, .ref av9), (1, .int a1), (2, .int 0), (3, .int (nI (lenJS.getD j9 0)))] → W p9 l e ({ frames := 0, cells := 0, slots := 0, locals := 0 } : Room) s m (([.ref av9, .int a1, .int 0, .int (nI (lenJS.getD j9 0))] : List Value).toArray) below meth c s.heap [] 0 0 (MQ below (va_Qi (fun (v : Int32) (u : wSt) => v = f_J1_ixc j9 a1 ∧ u = x) (PB g) (AA g)) (([.ref av9, .int a1, .int 0, .int (nI (lenJS.getD j9 0))] : List Value).toArray) s 0 0 (AA g)) (F0 m 7 ls []) := by
    intro f
    induction f with
    | zero => intro k h1 h2; exact absurd h2 (by omega)
    | succ f ih =>
      intro k hk9 hf9 hi9 ls hl
      refine lv_iload hx hb dJ1_indexOfChar_4cfef_7 (lv_at hl 0 rfl) ?_
      refine lv_iload_n hx hb dJ1_indexOfChar_4cfef_9 rfl (lv_at hl 5 rfl) ?_
      refine lv_icmp_ge (tgt := 31) hx hb dJ1_indexOfChar_4cfef_10 (by decide) (fun h1 => ?_) (fun h1 => ?_)
      · have hkn := lp_out h1 rfl hk9 (by omega)
        refine lv_iconst (v := (-1)) hx hb dJ1_indexOfChar_4cfef_31 (by decide) ?_
        exact W.iret (v := (-1)) hx hb hr (fun t9 ht hW => ke_i hw ht (by rw [← hi9, List.drop_eq_nil_of_le (by omega)]; rfl) rfl) hw.2.2.2 dJ1_indexOfChar_4cfef_32
      · have hkn := lp_in h1 rfl hk9 (by omega)
        refine lv_aload_n hx hb dJ1_indexOfChar_4cfef_13 rfl (lv_at hl 2 rfl) ?_
        refine lv_iload hx hb dJ1_indexOfChar_4cfef_14 (lv_at hl 0 rfl) ?_
        refine va_tb (v := .int ((bytJS.getD j9 []).getD k 0)) hx hb hP9 hw.2 (vp_in_nI hkn (by omega)) (by rw [nI_clamp (by omega)]) dJ1_indexOfChar_4cfef_16 ?_
        refine lv_iload hx hb dJ1_indexOfChar_4cfef_17 (lv_at hl 1 rfl) ?_
        rw [ixF_step (by omega)] at hi9
        refine lv_icmp_ne (tgt := 25) hx hb dJ1_indexOfChar_4cfef_19 (by decide) (fun h2 => ?_) (fun h2 => ?_)
        · rw [if_neg h2] at hi9
          refine lv_iinc (v := nI (k + 1)) (lv' := [(5, .int (nI (k + 1))), (4, .int a1.toInt8.toInt32), (0, .ref av9), (1, .int a1), (2, .int 0), (3, .int (nI (lenJS.getD j9 0)))]) hx hb dJ1_indexOfChar_4cfef_25 hl (k := 0) rfl (by first | exact (nI_succ _).symm | rfl) (by decide) rfl (fun ls hl => ?_)
          refine lv_goto (tgt := 7) hx hb dJ1_indexOfChar_4cfef_28 (by decide) ?_
          exact ih (k + 1) (by omega) (by omega) hi9 _ hl
        · rw [if_pos h2] at hi9
          refine lv_iload hx hb dJ1_indexOfChar_4cfef_22 (lv_at hl 0 rfl) ?_
          exact W.iret (v := nI k) hx hb hr (fun t9 ht hW => ke_i hw ht hi9 rfl) hw.2.2.2 dJ1_indexOfChar_4cfef_24
  exact LP (lenJS.getD j9 0 + 1) 0 (Nat.zero_le _) (by omega) rfl _ hl
theorem f_J1_ce0 {a1 : Int32} (h : f_J1_canEncode_9a6ad a1 = 0) (j : Nat) : (-1 : Int32) = ixB j a1 := by
  unfold f_J1_canEncode_9a6ad at h
  unfold ixB
  by_cases h1 : a1 < 0
  · rw [if_pos h1]
  · rw [if_neg h1] at h ⊢
    by_cases h2 : 255 < a1
    · rw [if_pos h2]
    · rw [if_neg h2] at h; exact absurd h (by decide)
theorem f_J1_ce1 {a1 : Int32} (h : ¬ f_J1_canEncode_9a6ad a1 = 0) (j : Nat) : f_J1_ixc j a1 = ixB j a1 := by
  unfold f_J1_canEncode_9a6ad at h
  unfold ixB f_J1_ixc
  by_cases h1 : a1 < 0
  · rw [if_pos h1] at h; exact absurd rfl h
  · rw [if_neg h1] at h ⊢
    by_cases h2 : 255 < a1
    · rw [if_pos h2] at h; exact absurd rfl h
    · rw [if_neg h2]
set_option maxHeartbeats 4000000 in
set_option maxRecDepth 100000 in
theorem m_J1_indexOf_4cfef (l : Launch) (g : wG) (x : wSt) (j9 : Nat) (av9 : Nat) (hj9 : j9 < 2) (a1 : Int32) : mS l yJ1_indexOf_4cfef cJ1_indexOf_4cfef 4 (some .int) ({ frames := 1, cells := 0, slots := 0, locals := 25 } : Room) g x (BR g j9 av9) [.ref av9, .int a1, .int 0, .int (nI (lenJS.getD j9 0))] (ixB j9 a1) := by
  refine Met.ofW (cc := cJ1_indexOf_4cfef) (maxL := 4) (ret := some .int) (by decide) rfl ?_
  intro p9 e s m args below meth c s₁ BL hml hv
  obtain ⟨rfl, ⟨hk, hPB⟩, hP9⟩ := hv
  have hx := BL.exec
  have hb := BL.bytes
  have hc : CX p9 c cJ1_indexOf_4cfef s _ m RJ1 := ⟨hx, hb, findClass_of_methodNamed BL.named, fun w h => atoms_spec BL.pre w (List.mem_cons_of_mem _ h)⟩
  have hr := BL.returns
  have hlocks := BL.notSynchronized
  have hw : WS g s x s.heap [] := ⟨hPB, va_S.rf⟩
  have hl := lv_entry ([.ref av9, .int a1, .int 0, .int (nI (lenJS.getD j9 0))]) (n := 4) (Nat.le_of_ble_eq_true rfl)
  rw [lg_entry_eq]
  generalize (lg_sl ([.ref av9, .int a1, .int 0, .int (nI (lenJS.getD j9 0))]) ++ List.replicate (4 - (lg_sl ([.ref av9, .int a1, .int 0, .int (nI (lenJS.getD j9 0))])).length) Slot.unset).toArray = ls at hl ⊢
  have hl : lv_has ls 4 [(0, .ref av9), (1, .int a1), (2, .int 0), (3, .int (nI (lenJS.getD j9 0)))] := hl
  have hlen : (0 : Int32) < nI (lenJS.getD j9 0) := by obtain ⟨q1, q2, q3⟩ := js_len hj9; rw [show (0 : Int32) = nI 0 from rfl]; exact nI_lt q3 (by omega)
  refine lv_iload_n hx hb dJ1_indexOf_4cfef_0 rfl (lv_at hl 1 rfl) ?_
  refine kc_i hw (va_runS (As := [.int a1]) (rest := []) ⟨hx, hb, hml, hc.2.2.1, hc.2.2.2⟩ (m_J1_canEncode_9a6ad l g x a1) (kw_S hc 1 q356 q357 q15 q358 rfl rfl (by decide +kernel) ⟨Nat.le_of_ble_eq_true rfl, Nat.le_of_ble_eq_true rfl⟩) (kp_S hk hw) rfl rfl hl.1 rfl (lv_room (Nat.le_of_ble_eq_true rfl)) dJ1_indexOf_4cfef_1 ⟨Nat.le_of_ble_eq_true rfl, Nat.le_of_ble_eq_true rfl⟩) (fun H locs hw => ?_)
  refine lv_if_ne (tgt := 9) hx hb dJ1_indexOf_4cfef_4 (by decide) (fun h1 => ?_) (fun h1 => ?_)
  · refine lv_iload_n hx hb dJ1_indexOf_4cfef_9 rfl (lv_at hl 2 rfl) ?_
    refine lv_iconst (v := 0) hx hb dJ1_indexOf_4cfef_10 (by decide) ?_
    refine va_mmax hx hb (hml.trans hl.1.symm) hc.2.2.1 (hc.2.2.2 _ q359) (hc.2.2.2 _ q360) (hc.2.2.2 _ q16) (hc.2.2.2 _ q361) (Nat.le_of_ble_eq_true rfl) (Nat.le_of_ble_eq_true rfl) (Nat.le_of_ble_eq_true rfl) (Nat.le_of_ble_eq_true rfl) dJ1_indexOf_4cfef_11 ?_
    rw [show (if (0 : Int32) < (0 : Int32) then (0 : Int32) else (0 : Int32)) = (0 : Int32) from ite_self _]
    refine lv_istore_n (lv' := [(2, .int 0), (0, .ref av9), (1, .int a1), (3, .int (nI (lenJS.getD j9 0)))]) hx hb dJ1_indexOf_4cfef_14 rfl hl (by decide) rfl (fun ls hl => ?_)
    refine lv_iload_n hx hb dJ1_indexOf_4cfef_15 rfl (lv_at hl 3 rfl) ?_
    refine lv_aload_n hx hb dJ1_indexOf_4cfef_16 rfl (lv_at hl 1 rfl) ?_
    refine va_tlen (v := nI (lenJS.getD j9 0)) hx hb hP9 hw.2 rfl dJ1_indexOf_4cfef_17 ?_
    refine va_mmin hx hb (hml.trans hl.1.symm) hc.2.2.1 (hc.2.2.2 _ q362) (hc.2.2.2 _ q363) (hc.2.2.2 _ q16) (hc.2.2.2 _ q364) (Nat.le_of_ble_eq_true rfl) (Nat.le_of_ble_eq_true rfl) (Nat.le_of_ble_eq_true rfl) (Nat.le_of_ble_eq_true rfl) dJ1_indexOf_4cfef_18 ?_
    rw [show (if (nI (lenJS.getD j9 0) : Int32) < (nI (lenJS.getD j9 0) : Int32) then (nI (lenJS.getD j9 0) : Int32) else (nI (lenJS.getD j9 0) : Int32)) = (nI (lenJS.getD j9 0) : Int32) from ite_self _]
    refine lv_istore_n (lv' := [(3, .int (nI (lenJS.getD j9 0))), (2, .int 0), (0, .ref av9), (1, .int a1)]) hx hb dJ1_indexOf_4cfef_21 rfl hl (by decide) rfl (fun ls hl => ?_)
    refine lv_iload_n hx hb dJ1_indexOf_4cfef_22 rfl (lv_at hl 1 rfl) ?_
    refine lv_iload_n hx hb dJ1_indexOf_4cfef_23 rfl (lv_at hl 0 rfl) ?_
    refine lv_icmp_lt (tgt := 29) hx hb dJ1_indexOf_4cfef_24 (by decide) (fun _ => ?_) (fun h2 => absurd hlen h2)
    refine lv_aload_n hx hb dJ1_indexOf_4cfef_29 rfl (lv_at hl 2 rfl) ?_
    refine lv_iload_n hx hb dJ1_indexOf_4cfef_30 rfl (lv_at hl 3 rfl) ?_
    refine lv_iload_n hx hb dJ1_indexOf_4cfef_31 rfl (lv_at hl 1 rfl) ?_
    refine lv_iload_n hx hb dJ1_indexOf_4cfef_32 rfl (lv_at hl 0 rfl) ?_
    refine kc_i hw (va_runS (As := [.ref av9, .int a1, .int 0, .int (nI (lenJS.getD j9 0))]) (rest := []) ⟨hx, hb, hml, hc.2.2.1, hc.2.2.2⟩ (m_J1_indexOfChar_4cfef l g x j9 av9 hj9 a1) (kw_S hc 4 q365 q366 q15 q367 rfl rfl (by decide +kernel) ⟨Nat.le_of_ble_eq_true rfl, Nat.le_of_ble_eq_true rfl⟩) (kpS_S BR.mv hk hw hP9) rfl rfl hl.1 rfl (lv_room (Nat.le_of_ble_eq_true rfl)) dJ1_indexOf_4cfef_33 ⟨Nat.le_of_ble_eq_true rfl, Nat.le_of_ble_eq_true rfl⟩) (fun H locs hw => ?_)
    exact W.iret (v := (f_J1_ixc j9 a1)) hx hb hr (fun t9 ht hW => ke_i hw ht (f_J1_ce1 h1 j9) rfl) hw.2.2.2 dJ1_indexOf_4cfef_36
  · refine lv_iconst (v := (-1)) hx hb dJ1_indexOf_4cfef_7 (by decide) ?_
    exact W.iret (v := (-1)) hx hb hr (fun t9 ht hW => ke_i hw ht (f_J1_ce0 h1 j9) rfl) hw.2.2.2 dJ1_indexOf_4cfef_8
set_option maxHeartbeats 4000000 in
set_option maxRecDepth 100000 in
theorem m_J0_indexOf_7cf53 (l : Launch) (g : wG) (x : wSt) (j9 : Nat) (a9 av9 : Nat) (hj9 : j9 < 2) (a1 : Int32) : mS l yJ0_indexOf_7cf53 cJ0_indexOf_7cf53 3 (some .int) ({ frames := 2, cells := 0, slots := 0, locals := 48 } : Room) g x (SR g j9 a9 av9) [.ref a9, .int a1, .int 0] (ixB j9 a1) := by
  refine Met.ofW (cc := cJ0_indexOf_7cf53) (maxL := 3) (ret := some .int) (by decide) rfl ?_
  intro p9 e s m args below meth c s₁ BL hml hv
  obtain ⟨rfl, ⟨hk, hPB⟩, hP9⟩ := hv
  have hx := BL.exec
  have hb := BL.bytes
  have hc : CX p9 c cJ0_indexOf_7cf53 s _ m RJ0 := ⟨hx, hb, findClass_of_methodNamed BL.named, fun w h => atoms_spec BL.pre w (List.mem_cons_of_mem _ h)⟩
  have hr := BL.returns
  have hlocks := BL.notSynchronized
  have hw : WS g s x s.heap [] := ⟨hPB, va_S.rf⟩
  have hl := lv_entry ([.ref a9, .int a1, .int 0]) (n := 3) (Nat.le_of_ble_eq_true rfl)
  rw [lg_entry_eq]
  generalize (lg_sl ([.ref a9, .int a1, .int 0]) ++ List.replicate (3 - (lg_sl ([.ref a9, .int a1, .int 0])).length) Slot.unset).toArray = ls at hl ⊢
  have hl : lv_has ls 3 [(0, .ref a9), (1, .int a1), (2, .int 0)] := hl
  refine lv_aload_n hx hb dJ0_indexOf_7cf53_0 rfl (lv_at hl 0 rfl) ?_
  refine kc_i hw (va_runV (As := []) (rest := []) ⟨hx, hb, hml, hc.2.2.1, hc.2.2.2⟩ (m_J0_isLatin1_aae02 l g x j9 a9 av9 hj9) (kw_V hc 0 q339 q340 q341 q13 q342 rfl rfl (by decide +kernel) ⟨Nat.le_of_ble_eq_true rfl, Nat.le_of_ble_eq_true rfl⟩) (kpS_V SR.mv hk hw hP9 hP9) rfl rfl hl.1 rfl (lv_room (Nat.le_of_ble_eq_true rfl)) dJ0_indexOf_7cf53_1 ⟨Nat.le_of_ble_eq_true rfl, Nat.le_of_ble_eq_true rfl⟩) (fun H locs hw => ?_)
  refine lv_if_eq (tgt := 23) hx hb dJ0_indexOf_7cf53_4 (by decide) (fun h1 => absurd h1 (by decide)) (fun _ => ?_)
  refine lv_aload_n hx hb dJ0_indexOf_7cf53_7 rfl (lv_at hl 0 rfl) ?_
  refine vk_getf (v := .ref av9) hx hb hP9.2.2.1 hw.2 hc.2.2.1 (hc.2.2.2 _ q990) (fun _ h => h) dJ0_indexOf_7cf53_8 ?_
  refine lv_iload_n hx hb dJ0_indexOf_7cf53_11 rfl (lv_at hl 1 rfl) ?_
  refine lv_iload_n hx hb dJ0_indexOf_7cf53_12 rfl (lv_at hl 2 rfl) ?_
  refine lv_aload_n hx hb dJ0_indexOf_7cf53_13 rfl (lv_at hl 0 rfl) ?_
  refine kc_i hw (va_runV (As := []) (rest := [.int 0, .int a1, .ref av9]) ⟨hx, hb, hml, hc.2.2.1, hc.2.2.2⟩ (m_J0_length_8abf5 l g x j9 a9 av9 hj9) (kw_V hc 0 q345 q346 q347 q13 q348 rfl rfl (by decide +kernel) ⟨Nat.le_of_ble_eq_true rfl, Nat.le_of_ble_eq_true rfl⟩) (kpS_V SR.mv hk hw hP9 hP9) rfl rfl hl.1 rfl (lv_room (Nat.le_of_ble_eq_true rfl)) dJ0_indexOf_7cf53_14 ⟨Nat.le_of_ble_eq_true rfl, Nat.le_of_ble_eq_true rfl⟩) (fun H locs hw => ?_)
  refine kc_i hw (va_runS (As := [.ref av9, .int a1, .int 0, .int (nI (lenJS.getD j9 0))]) (rest := []) ⟨hx, hb, hml, hc.2.2.1, hc.2.2.2⟩ (m_J1_indexOf_4cfef l g x j9 av9 hj9 a1) (kw_S hc 4 q353 q354 q15 q355 rfl rfl (by decide +kernel) ⟨Nat.le_of_ble_eq_true rfl, Nat.le_of_ble_eq_true rfl⟩) (kpS_S BR.mv hk hw hP9.2.2.2) rfl rfl hl.1 rfl (lv_room (Nat.le_of_ble_eq_true rfl)) dJ0_indexOf_7cf53_17 ⟨Nat.le_of_ble_eq_true rfl, Nat.le_of_ble_eq_true rfl⟩) (fun H locs hw => ?_)
  refine lv_goto (tgt := 36) hx hb dJ0_indexOf_7cf53_20 (by decide) ?_
  exact W.iret (v := (ixB j9 a1)) hx hb hr (fun t9 ht hW => ke_i hw ht rfl rfl) hw.2.2.2 dJ0_indexOf_7cf53_36
set_option maxHeartbeats 4000000 in
set_option maxRecDepth 100000 in
theorem m_J0_indexOf_0f7a4 (l : Launch) (g : wG) (x : wSt) (j9 : Nat) (a9 av9 : Nat) (hj9 : j9 < 2) (a1 : Int32) : mS l yJ0_indexOf_0f7a4 cJ0_indexOf_0f7a4 2 (some .int) ({ frames := 3, cells := 0, slots := 0, locals := 70 } : Room) g x (SR g j9 a9 av9) [.ref a9, .int a1] (ixB j9 a1) := by
  refine Met.ofW (cc := cJ0_indexOf_0f7a4) (maxL := 2) (ret := some .int) (by decide) rfl ?_
  intro p9 e s m args below meth c s₁ BL hml hv
  obtain ⟨rfl, ⟨hk, hPB⟩, hP9⟩ := hv
  have hx := BL.exec
  have hb := BL.bytes
  have hc : CX p9 c cJ0_indexOf_0f7a4 s _ m RJ0 := ⟨hx, hb, findClass_of_methodNamed BL.named, fun w h => atoms_spec BL.pre w (List.mem_cons_of_mem _ h)⟩
  have hr := BL.returns
  have hlocks := BL.notSynchronized
  have hw : WS g s x s.heap [] := ⟨hPB, va_S.rf⟩
  have hl := lv_entry ([.ref a9, .int a1]) (n := 2) (Nat.le_of_ble_eq_true rfl)
  rw [lg_entry_eq]
  generalize (lg_sl ([.ref a9, .int a1]) ++ List.replicate (2 - (lg_sl ([.ref a9, .int a1])).length) Slot.unset).toArray = ls at hl ⊢
  have hl : lv_has ls 2 [(0, .ref a9), (1, .int a1)] := hl
  refine lv_aload_n hx hb dJ0_indexOf_0f7a4_0 rfl (lv_at hl 0 rfl) ?_
  refine lv_iload_n hx hb dJ0_indexOf_0f7a4_1 rfl (lv_at hl 1 rfl) ?_
  refine lv_iconst (v := 0) hx hb dJ0_indexOf_0f7a4_2 (by decide) ?_
  refine kc_i hw (va_runV (As := [.int a1, .int 0]) (rest := []) ⟨hx, hb, hml, hc.2.2.1, hc.2.2.2⟩ (m_J0_indexOf_7cf53 l g x j9 a9 av9 hj9 a1) (kw_V hc 2 q335 q336 q337 q13 q338 rfl rfl (by decide +kernel) ⟨Nat.le_of_ble_eq_true rfl, Nat.le_of_ble_eq_true rfl⟩) (kpS_V SR.mv hk hw hP9 hP9) rfl rfl hl.1 rfl (lv_room (Nat.le_of_ble_eq_true rfl)) dJ0_indexOf_0f7a4_3 ⟨Nat.le_of_ble_eq_true rfl, Nat.le_of_ble_eq_true rfl⟩) (fun H locs hw => ?_)
  exact W.iret (v := (ixB j9 a1)) hx hb hr (fun t9 ht hW => ke_i hw ht rfl rfl) hw.2.2.2 dJ0_indexOf_0f7a4_6
