/-! the constructor of the events -/
set_option maxHeartbeats 4000000 in
theorem m_X2_init (l : Launch) (g : wG) (f : Nat → Option va_E) (z : Nat) (he : f 1 = some (.inr (4, frX2))) (h1 : gA g 2 = z) :
    mP l yX2_init cX2_init 1 ({ frames := 1, cells := 1, slots := 2560, locals := 20 } : Room) 1 2560 g f z [.ref (gA g 1)] (pup (pup f 2 (.inl (g.2.1 0, 2560, .inl fun _ => 0))) 1 (.inr (4, frX2.set 0 (.ref (gA g 2))))) (z + 1) := by
  refine Met.ofW (cc := cX2_init) (maxL := 1) (ret := none) (by decide) rfl ?_
  intro p9 e s m args below meth c s₁ BL hml hv
  obtain ⟨rfl, hk, hPW, hz⟩ := hv
  have hx := BL.exec
  have hb := BL.bytes
  have hin2 : meth.name = "<init>" := (name_of_methodNamed BL.named BL.method).1
  have hc : CX p9 c cX2_init s _ m RX2 := ⟨hx, hb, findClass_of_methodNamed BL.named, fun w h => atoms_spec BL.pre w (List.mem_cons_of_mem _ h)⟩
  have hr := BL.returns
  have hlocks := BL.notSynchronized
  have hp : PS g s f z s.heap [] := ⟨hPW, va_S.rf, hz⟩
  have hl := lv_entry ([.ref (gA g 1)]) (n := 1) (Nat.le_of_ble_eq_true rfl)
  rw [lg_entry_eq]
  generalize (lg_sl ([.ref (gA g 1)]) ++ List.replicate (1 - (lg_sl ([.ref (gA g 1)])).length) Slot.unset).toArray = ls at hl ⊢
  have hl : lv_has ls 1 [(0, .ref (gA g 1))] := hl
  refine lv_aload_n hx hb dX2_init_0 rfl (lv_at hl 0 rfl) ?_
  refine W.objInit hx hb hc.2.2.1 (hc.2.2.2 _ q230) (hc.2.2.2 _ q31) (hc.2.2.2 _ q32) rfl (hl.1.trans hml.symm) rfl dX2_init_1 (Nat.le_of_ble_eq_true rfl) (Nat.le_of_ble_eq_true rfl) ?_
  refine lv_aload_n hx hb dX2_init_4 rfl (lv_at hl 0 rfl) ?_
  refine lv_sipush (v := 2560) hx hb dX2_init_5 (by decide) ?_
  refine p_newa (atype := .int) (t0 := 0) (a0 := (2560, .inl fun _ => 0)) (N := 2560) hc hk hp (j := 2) h1 q67 rfl rfl (fun _ => rfl) (fun cA => vp_cell_i cA 2560 (fun _ => 0)) (by decide) (by decide) (by decide) (Nat.le_of_ble_eq_true rfl) (Nat.le_of_ble_eq_true rfl) dX2_init_8 (fun H hp => ?_)
  refine p_putF hc hk hp (j := 1) (by decide) (fs := frX2) (by unfold pup; rw [if_neg (by decide)]; exact he) rfl iX2 tyX2 tyX2_ok nmX2 0 (by decide) q231 rfl hin2 rfl (v := .ref (gA g 2)) rfl (by rfl) (Nat.le_of_ble_eq_true rfl) dX2_init_10 (fun H locs hp => ?_)
  exact W.vret hx hb hr (fun t9 ht hW => hp.ret ht) hp.2.1.2.2 dX2_init_13
