/-! constructors: the contract; those that only call Object's -/
abbrev prP (g : wG) (f : Nat → Option va_E) (z : Nat) (U : State) : Prop := WK g U U.heap ∧ PW g f U.heap ∧ U.heap.size = z
abbrev mP (l : Launch) (y : MethodName) (cy : ByteArray) (ny : Nat) (rm : Room) (mc ms : Nat) (g : wG) (f : Nat → Option va_E) (z : Nat) (av : List Value) (f' : Nat → Option va_E) (z' : Nat) : Prop :=
  Met l y (ws_ y cy ny none) rm (va_Pc av (prP g f z)) (va_Qv (fun (_ : Unit) => True) (fun _ t => PW g f' t.heap ∧ t.heap.size = z') (AA g)) mc ms (AA g)
theorem PS.ret {g : wG} {s t : State} {f : Nat → Option va_E} {z : Nat} {H : Heap} {locs : List Loc} {a : Array Value} (hp : PS g s f z H locs) (ht : t.heap = H) : va_Qv (fun (_ : Unit) => True) (fun _ t => PW g f t.heap ∧ t.heap.size = z) (AA g) a s (.returned none) t :=
  ⟨⟨(), rfl, trivial, by show PW g f t.heap ∧ t.heap.size = z; rw [ht]; exact ⟨hp.1, hp.2.2⟩⟩, hp.2.1.F ht⟩
theorem m_X5_init (l : Launch) (g : wG) (f : Nat → Option va_E) (z a : Nat) : mP l yX5_init cX5_init 1 ({ frames := 1, cells := 0, slots := 0, locals := 20 } : Room) 0 0 g f z [.ref a] f z := by
  refine Met.ofW (cc := cX5_init) (maxL := 1) (ret := none) (by decide) rfl ?_
  intro p9 e s m args below meth c s₁ BL hml hv
  obtain ⟨rfl, hk, hPW, hz⟩ := hv
  have hx := BL.exec
  have hb := BL.bytes
  have hc : CX p9 c cX5_init s _ m RX5 := ⟨hx, hb, findClass_of_methodNamed BL.named, fun w h => atoms_spec BL.pre w (List.mem_cons_of_mem _ h)⟩
  have hr := BL.returns
  have hlocks := BL.notSynchronized
  have hp : PS g s f z s.heap [] := ⟨hPW, va_S.rf, hz⟩
  have hl := lv_entry ([.ref a]) (n := 1) (Nat.le_of_ble_eq_true rfl)
  rw [lg_entry_eq]
  generalize (lg_sl ([.ref a]) ++ List.replicate (1 - (lg_sl ([.ref a])).length) Slot.unset).toArray = ls at hl ⊢
  have hl : lv_has ls 1 [(0, .ref a)] := hl
  refine lv_aload_n hx hb dX5_init_0 rfl (lv_at hl 0 rfl) ?_
  refine W.objInit hx hb hc.2.2.1 (hc.2.2.2 _ q47) (hc.2.2.2 _ q31) (hc.2.2.2 _ q32) rfl (hl.1.trans hml.symm) rfl dX5_init_1 (Nat.le_of_ble_eq_true rfl) (Nat.le_of_ble_eq_true rfl) ?_
  exact W.vret hx hb hr (fun t9 ht hW => hp.ret ht) hp.2.1.2.2 dX5_init_4
theorem m_X4_init (l : Launch) (g : wG) (f : Nat → Option va_E) (z a : Nat) : mP l yX4_init cX4_init 1 ({ frames := 1, cells := 0, slots := 0, locals := 20 } : Room) 0 0 g f z [.ref a] f z := by
  refine Met.ofW (cc := cX4_init) (maxL := 1) (ret := none) (by decide) rfl ?_
  intro p9 e s m args below meth c s₁ BL hml hv
  obtain ⟨rfl, hk, hPW, hz⟩ := hv
  have hx := BL.exec
  have hb := BL.bytes
  have hc : CX p9 c cX4_init s _ m RX4 := ⟨hx, hb, findClass_of_methodNamed BL.named, fun w h => atoms_spec BL.pre w (List.mem_cons_of_mem _ h)⟩
  have hr := BL.returns
  have hlocks := BL.notSynchronized
  have hp : PS g s f z s.heap [] := ⟨hPW, va_S.rf, hz⟩
  have hl := lv_entry ([.ref a]) (n := 1) (Nat.le_of_ble_eq_true rfl)
  rw [lg_entry_eq]
  generalize (lg_sl ([.ref a]) ++ List.replicate (1 - (lg_sl ([.ref a])).length) Slot.unset).toArray = ls at hl ⊢
  have hl : lv_has ls 1 [(0, .ref a)] := hl
  refine lv_aload_n hx hb dX4_init_0 rfl (lv_at hl 0 rfl) ?_
  refine W.objInit hx hb hc.2.2.1 (hc.2.2.2 _ q78) (hc.2.2.2 _ q31) (hc.2.2.2 _ q32) rfl (hl.1.trans hml.symm) rfl dX4_init_1 (Nat.le_of_ble_eq_true rfl) (Nat.le_of_ble_eq_true rfl) ?_
  exact W.vret hx hb hr (fun t9 ht hW => hp.ret ht) hp.2.1.2.2 dX4_init_4
theorem m_X3_init (l : Launch) (g : wG) (f : Nat → Option va_E) (z a : Nat) : mP l yX3_init cX3_init 1 ({ frames := 1, cells := 0, slots := 0, locals := 20 } : Room) 0 0 g f z [.ref a] f z := by
  refine Met.ofW (cc := cX3_init) (maxL := 1) (ret := none) (by decide) rfl ?_
  intro p9 e s m args below meth c s₁ BL hml hv
  obtain ⟨rfl, hk, hPW, hz⟩ := hv
  have hx := BL.exec
  have hb := BL.bytes
  have hc : CX p9 c cX3_init s _ m RX3 := ⟨hx, hb, findClass_of_methodNamed BL.named, fun w h => atoms_spec BL.pre w (List.mem_cons_of_mem _ h)⟩
  have hr := BL.returns
  have hlocks := BL.notSynchronized
  have hp : PS g s f z s.heap [] := ⟨hPW, va_S.rf, hz⟩
  have hl := lv_entry ([.ref a]) (n := 1) (Nat.le_of_ble_eq_true rfl)
  rw [lg_entry_eq]
  generalize (lg_sl ([.ref a]) ++ List.replicate (1 - (lg_sl ([.ref a])).length) Slot.unset).toArray = ls at hl ⊢
  have hl : lv_has ls 1 [(0, .ref a)] := hl
  refine lv_aload_n hx hb dX3_init_0 rfl (lv_at hl 0 rfl) ?_
  refine W.objInit hx hb hc.2.2.1 (hc.2.2.2 _ q103) (hc.2.2.2 _ q31) (hc.2.2.2 _ q32) rfl (hl.1.trans hml.symm) rfl dX3_init_1 (Nat.le_of_ble_eq_true rfl) (Nat.le_of_ble_eq_true rfl) ?_
  exact W.vret hx hb hr (fun t9 ht hW => hp.ret ht) hp.2.1.2.2 dX3_init_4
