/-! the class's own constructor -/
/-- the class's cells, as its constructor leaves them -/
def g6_f (g : wG) (f : Nat → Option va_E) : Nat → Option va_E := (pup (pup (pup (pup (pup (bp_f g 1 (pup (pup (bp_f g 0 (pup f (jB 0) (.inr (2, frX0))) 6 20 5) 0 (.inr (8, (frX6.set 0 (.ref (gA g (jB 0))))))) (jB 1) (.inr (2, frX0))) 6 20 5) 0 (.inr (8, ((frX6.set 0 (.ref (gA g (jB 0)))).set 1 (.ref (gA g (jB 1))))))) 1 (.inr (4, frX2))) 2 (.inl (g.2.1 0, 2560, .inl fun _ => 0))) 1 (.inr (4, frX2.set 0 (.ref (gA g 2))))) 0 (.inr (8, (((frX6.set 0 (.ref (gA g (jB 0)))).set 1 (.ref (gA g (jB 1)))).set 2 (.ref (gA g 1))))))
set_option maxHeartbeats 4000000 in
theorem m_X6_init (l : Launch) (g : wG) (f : Nat → Option va_E) (z : Nat) (he : f 0 = some (.inr (8, frX6))) (a0 : gA g (jB 0) = z) (b0 : ∀ c, c < 70 → c ≠ 0 → gA g (3 + 70 * 0 + c) = z + 1 + (pcB c - 1)) (a1 : gA g (jB 1) = z + 1 + 69) (b1 : ∀ c, c < 70 → c ≠ 0 → gA g (3 + 70 * 1 + c) = z + 1 + 69 + 1 + (pcB c - 1)) (a2 : gA g 1 = z + 1 + 69 + 1 + 69) (a3 : gA g 2 = z + 1 + 69 + 1 + 69 + 1) :
    mO l yX6_init cX6_init 1 ({ frames := 5, cells := 142, slots := 3724, locals := 300 } : Room) 142 3724 g f z [.ref (gA g 0)] (g6_f g f) (z + 142) := by
  refine Met.ofW (cc := cX6_init) (maxL := 1) (ret := none) (by decide) rfl ?_
  intro p9 e s m args below meth c s₁ BL hml hv
  obtain ⟨rfl, ⟨hk, hPW, hz⟩, hO1, hO2⟩ := hv
  have hx := BL.exec
  have hb := BL.bytes
  have hin2 : meth.name = "<init>" := (name_of_methodNamed BL.named BL.method).1
  have hc : CX p9 c cX6_init s _ m RX6 := ⟨hx, hb, findClass_of_methodNamed BL.named, fun w h => atoms_spec BL.pre w (List.mem_cons_of_mem _ h)⟩
  have hr := BL.returns
  have hlocks := BL.notSynchronized
  have hp : PS g s f z s.heap [] := ⟨hPW, va_S.rf, hz⟩
  have hl := lv_entry ([.ref (gA g 0)]) (n := 1) (Nat.le_of_ble_eq_true rfl)
  rw [lg_entry_eq]
  generalize (lg_sl ([.ref (gA g 0)]) ++ List.replicate (1 - (lg_sl ([.ref (gA g 0)])).length) Slot.unset).toArray = ls at hl ⊢
  have hl : lv_has ls 1 [(0, .ref (gA g 0))] := hl
  refine lv_aload_n hx hb dX6_init_0 rfl (lv_at hl 0 rfl) ?_
  refine W.objInit hx hb hc.2.2.1 (hc.2.2.2 _ q30) (hc.2.2.2 _ q31) (hc.2.2.2 _ q32) rfl (hl.1.trans hml.symm) rfl dX6_init_1 (Nat.le_of_ble_eq_true rfl) (Nat.le_of_ble_eq_true rfl) ?_
  refine lv_aload_n hx hb dX6_init_4 rfl (lv_at hl 0 rfl) ?_
  refine p_new (fs := frX0) hc hk hp (j := (jB 0)) a0 (ci := 2) rfl iX0 tyX0 tyX0_ok q33 q34 q2 frX0_ok (Nat.le_of_ble_eq_true rfl) (Nat.le_of_ble_eq_true rfl) dX6_init_5 (fun H hp => ?_)
  refine lv_dup hx hb dX6_init_8 rfl ?_
  refine pc_v hp (va_runIN (As := []) (rest := [.ref (gA g (jB 0)), .ref (gA g 0)]) ⟨hx, hb, hml, hc.2.2.1, hc.2.2.2⟩ (m_X0_init l g _ _ 0 (by decide) (pup_eq _ _ _) b0) ⟨kw_N hc hk 0 nq35 q2 q37 rfl rfl (by decide +kernel) ⟨Nat.le_of_ble_eq_true rfl, Nat.le_of_ble_eq_true rfl⟩, rfl, hc.2.2.2 _ q36⟩ (kp_O hk hp hO1 hO2) rfl rfl hl.1 rfl (lv_room (Nat.le_of_ble_eq_true rfl)) dX6_init_9 ⟨Nat.le_of_ble_eq_true rfl, Nat.le_of_ble_eq_true rfl⟩) (fun H locs hp => ?_)
  refine p_putF hc hk hp (j := 0) (by decide) (fs := frX6) (by unfold bp_f; rw [if_pos (by decide), pup_ne (by decide)]; exact he) rfl iX6 tyX6 tyX6_ok nmX6 0 (by decide) q238 rfl hin2 rfl (v := .ref (gA g (jB 0))) rfl (by rfl) (Nat.le_of_ble_eq_true rfl) dX6_init_12 (fun H locs hp => ?_)
  refine lv_aload_n hx hb dX6_init_15 rfl (lv_at hl 0 rfl) ?_
  refine p_new (fs := frX0) hc hk hp (j := (jB 1)) a1 (ci := 2) rfl iX0 tyX0 tyX0_ok q33 q34 q2 frX0_ok (Nat.le_of_ble_eq_true rfl) (Nat.le_of_ble_eq_true rfl) dX6_init_16 (fun H hp => ?_)
  refine lv_dup hx hb dX6_init_19 rfl ?_
  refine pc_v hp (va_runIN (As := []) (rest := [.ref (gA g (jB 1)), .ref (gA g 0)]) ⟨hx, hb, hml, hc.2.2.1, hc.2.2.2⟩ (m_X0_init l g _ _ 1 (by decide) (pup_eq _ _ _) b1) ⟨kw_N hc hk 0 nq35 q2 q37 rfl rfl (by decide +kernel) ⟨Nat.le_of_ble_eq_true rfl, Nat.le_of_ble_eq_true rfl⟩, rfl, hc.2.2.2 _ q36⟩ (kp_O hk hp hO1 hO2) rfl rfl hl.1 rfl (lv_room (Nat.le_of_ble_eq_true rfl)) dX6_init_20 ⟨Nat.le_of_ble_eq_true rfl, Nat.le_of_ble_eq_true rfl⟩) (fun H locs hp => ?_)
  refine p_putF hc hk hp (j := 0) (by decide) (fs := (frX6.set 0 (.ref (gA g (jB 0))))) (by unfold bp_f; rw [if_pos (by decide), pup_ne (by decide)]; exact pup_eq _ _ _) rfl iX6 tyX6 tyX6_ok nmX6 1 (by decide) q239 rfl hin2 rfl (v := .ref (gA g (jB 1))) rfl (by rfl) (Nat.le_of_ble_eq_true rfl) dX6_init_23 (fun H locs hp => ?_)
  refine lv_aload_n hx hb dX6_init_26 rfl (lv_at hl 0 rfl) ?_
  refine p_new (fs := frX2) hc hk hp (j := 1) a2 (ci := 4) rfl iX2 tyX2 tyX2_ok q225 q226 q7 frX2_ok (Nat.le_of_ble_eq_true rfl) (Nat.le_of_ble_eq_true rfl) dX6_init_27 (fun H hp => ?_)
  refine lv_dup hx hb dX6_init_30 rfl ?_
  refine pc_v hp (va_runIN (As := []) (rest := [.ref (gA g 1), .ref (gA g 0)]) ⟨hx, hb, hml, hc.2.2.1, hc.2.2.2⟩ (m_X2_init l g _ _ (pup_eq _ _ _) a3) ⟨kw_N hc hk 0 nq227 q7 q229 rfl rfl (by decide +kernel) ⟨Nat.le_of_ble_eq_true rfl, Nat.le_of_ble_eq_true rfl⟩, rfl, hc.2.2.2 _ q228⟩ (kp_P hk hp) rfl rfl hl.1 rfl (lv_room (Nat.le_of_ble_eq_true rfl)) dX6_init_31 ⟨Nat.le_of_ble_eq_true rfl, Nat.le_of_ble_eq_true rfl⟩) (fun H locs hp => ?_)
  refine p_putF hc hk hp (j := 0) (by decide) (fs := ((frX6.set 0 (.ref (gA g (jB 0)))).set 1 (.ref (gA g (jB 1))))) (by rw [pup_ne (by decide), pup_ne (by decide), pup_ne (by decide)]; exact pup_eq _ _ _) rfl iX6 tyX6 tyX6_ok nmX6 2 (by decide) q240 rfl hin2 rfl (v := .ref (gA g 1)) rfl (by rfl) (Nat.le_of_ble_eq_true rfl) dX6_init_34 (fun H locs hp => ?_)
  exact W.vret hx hb hr (fun t9 ht hW => hp.ret ht) hp.2.1.2.2 dX6_init_37
