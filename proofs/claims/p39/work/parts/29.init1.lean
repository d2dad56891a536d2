/-! the constructor of a complaint -/
abbrev frX0 : List Value := [.null, .null, .null, .int 0, .int 0, .int 0]
theorem frX0_ok : ∀ k, k < 6 → defaultValue (tyX0 k) = vp_V frX0 k := by decide +kernel
abbrev frX1 : List Value := [.int 0, .null, .null, .int 0, .int 0, .int 0, .int 0, .int 0, .int 0, .int 0, .int 0, .int 0, .int 0, .int 0, .int 0, .int 0]
theorem frX1_ok : ∀ k, k < 16 → defaultValue (tyX1 k) = vp_V frX1 k := by decide +kernel
abbrev frX2 : List Value := [.null, .int 0]
theorem frX2_ok : ∀ k, k < 2 → defaultValue (tyX2 k) = vp_V frX2 k := by decide +kernel
abbrev frX3 : List Value := [.int 0, .int 0, .int 0, .int 0, .int 0, .int 0]
theorem frX3_ok : ∀ k, k < 6 → defaultValue (tyX3 k) = vp_V frX3 k := by decide +kernel
abbrev frX4 : List Value := [.int 0, .int 0, .int 0, .int 0]
theorem frX4_ok : ∀ k, k < 4 → defaultValue (tyX4 k) = vp_V frX4 k := by decide +kernel
abbrev frX5 : List Value := [.int 0, .int 0, .int 0, .int 0]
theorem frX5_ok : ∀ k, k < 4 → defaultValue (tyX5 k) = vp_V frX5 k := by decide +kernel
abbrev frX6 : List Value := [.null, .null, .null]
theorem frX6_ok : ∀ k, k < 3 → defaultValue (tyX6 k) = vp_V frX6 k := by decide +kernel
set_option maxHeartbeats 4000000 in
theorem m_X1_init (l : Launch) (g : wG) (f : Nat → Option va_E) (z p i : Nat) (hp9 : p < 2) (hi : i < 20) (v : Int32) (he : f (jC p i) = some (.inr (3, frX1))) (h1 : gA g (jI p i) = z) (h2 : gA g (jF p i) = z + 1) :
    mP l yX1_init cX1_init 2 ({ frames := 2, cells := 2, slots := 10, locals := 60 } : Room) 2 10 g f z [.ref (gA g (jC p i)), .int v] (pup (pup (pup (pup (pup f (jI p i) (.inr (6, frX4))) (jC p i) (.inr (3, frX1.set 1 (.ref (gA g (jI p i)))))) (jF p i) (.inr (5, frX3))) (jC p i) (.inr (3, (frX1.set 1 (.ref (gA g (jI p i)))).set 2 (.ref (gA g (jF p i)))))) (jC p i) (.inr (3, ((frX1.set 1 (.ref (gA g (jI p i)))).set 2 (.ref (gA g (jF p i)))).set 0 (.int v)))) (z + 2) := by
  refine Met.ofW (cc := cX1_init) (maxL := 2) (ret := none) (by decide) rfl ?_
  intro p9 e s m args below meth c s₁ BL hml hv
  obtain ⟨rfl, hk, hPW, hz⟩ := hv
  have hx := BL.exec
  have hb := BL.bytes
  have hin2 : meth.name = "<init>" := (name_of_methodNamed BL.named BL.method).1
  have hc : CX p9 c cX1_init s _ m RX1 := ⟨hx, hb, findClass_of_methodNamed BL.named, fun w h => atoms_spec BL.pre w (List.mem_cons_of_mem _ h)⟩
  have hr := BL.returns
  have hlocks := BL.notSynchronized
  have hp : PS g s f z s.heap [] := ⟨hPW, va_S.rf, hz⟩
  have hl := lv_entry ([.ref (gA g (jC p i)), .int v]) (n := 2) (Nat.le_of_ble_eq_true rfl)
  rw [lg_entry_eq]
  generalize (lg_sl ([.ref (gA g (jC p i)), .int v]) ++ List.replicate (2 - (lg_sl ([.ref (gA g (jC p i)), .int v])).length) Slot.unset).toArray = ls at hl ⊢
  have hl : lv_has ls 2 [(0, .ref (gA g (jC p i))), (1, .int v)] := hl
  refine lv_aload_n hx hb dX1_init_0 rfl (lv_at hl 0 rfl) ?_
  refine W.objInit hx hb hc.2.2.1 (hc.2.2.2 _ q72) (hc.2.2.2 _ q31) (hc.2.2.2 _ q32) rfl (hl.1.trans hml.symm) rfl dX1_init_1 (Nat.le_of_ble_eq_true rfl) (Nat.le_of_ble_eq_true rfl) ?_
  refine lv_aload_n hx hb dX1_init_4 rfl (lv_at hl 0 rfl) ?_
  refine p_new (fs := frX4) hc hk hp (j := (jI p i)) h1 (ci := 6) rfl iX4 tyX4 tyX4_ok q73 q74 q5 frX4_ok (Nat.le_of_ble_eq_true rfl) (Nat.le_of_ble_eq_true rfl) dX1_init_5 (fun H hp => ?_)
  refine lv_dup hx hb dX1_init_8 rfl ?_
  refine pc_v hp (va_runIN (As := []) (rest := [.ref (gA g (jI p i)), .ref (gA g (jC p i))]) ⟨hx, hb, hml, hc.2.2.1, hc.2.2.2⟩ (m_X4_init l g _ _ _) ⟨kw_N hc hk 0 nq75 q5 q77 rfl rfl (by decide +kernel) ⟨Nat.le_of_ble_eq_true rfl, Nat.le_of_ble_eq_true rfl⟩, rfl, hc.2.2.2 _ q76⟩ (kp_P hk hp) rfl rfl hl.1 rfl (lv_room (Nat.le_of_ble_eq_true rfl)) dX1_init_9 ⟨Nat.le_of_ble_eq_true rfl, Nat.le_of_ble_eq_true rfl⟩) (fun H locs hp => ?_)
  refine p_putF hc hk hp (j := (jC p i)) (by unfold jC; omega) (fs := frX1) (by unfold pup; rw [if_neg (by unfold jC jI; omega)]; exact he) rfl iX1 tyX1 tyX1_ok nmX1 1 (by decide) q135 rfl hin2 rfl (v := .ref (gA g (jI p i))) rfl (by rfl) (Nat.le_of_ble_eq_true rfl) dX1_init_12 (fun H locs hp => ?_)
  refine lv_aload_n hx hb dX1_init_15 rfl (lv_at hl 0 rfl) ?_
  refine p_new (fs := frX3) hc hk hp (j := (jF p i)) h2 (ci := 5) rfl iX3 tyX3 tyX3_ok q98 q99 q6 frX3_ok (Nat.le_of_ble_eq_true rfl) (Nat.le_of_ble_eq_true rfl) dX1_init_16 (fun H hp => ?_)
  refine lv_dup hx hb dX1_init_19 rfl ?_
  refine pc_v hp (va_runIN (As := []) (rest := [.ref (gA g (jF p i)), .ref (gA g (jC p i))]) ⟨hx, hb, hml, hc.2.2.1, hc.2.2.2⟩ (m_X3_init l g _ _ _) ⟨kw_N hc hk 0 nq100 q6 q102 rfl rfl (by decide +kernel) ⟨Nat.le_of_ble_eq_true rfl, Nat.le_of_ble_eq_true rfl⟩, rfl, hc.2.2.2 _ q101⟩ (kp_P hk hp) rfl rfl hl.1 rfl (lv_room (Nat.le_of_ble_eq_true rfl)) dX1_init_20 ⟨Nat.le_of_ble_eq_true rfl, Nat.le_of_ble_eq_true rfl⟩) (fun H locs hp => ?_)
  refine p_putF hc hk hp (j := (jC p i)) (by unfold jC; omega) (fs := (frX1.set 1 (.ref (gA g (jI p i))))) (by unfold pup; rw [if_neg (by unfold jC jF; omega), if_pos rfl]) rfl iX1 tyX1 tyX1_ok nmX1 2 (by decide) q138 rfl hin2 rfl (v := .ref (gA g (jF p i))) rfl (by rfl) (Nat.le_of_ble_eq_true rfl) dX1_init_23 (fun H locs hp => ?_)
  refine lv_aload_n hx hb dX1_init_26 rfl (lv_at hl 0 rfl) ?_
  refine lv_iload_n hx hb dX1_init_27 rfl (lv_at hl 1 rfl) ?_
  refine p_putF hc hk hp (j := (jC p i)) (by unfold jC; omega) (fs := ((frX1.set 1 (.ref (gA g (jI p i)))).set 2 (.ref (gA g (jF p i))))) (by unfold pup; rw [if_pos rfl]) rfl iX1 tyX1 tyX1_ok nmX1 0 (by decide) q133 rfl hin2 rfl (v := .int v) rfl (by rfl) (Nat.le_of_ble_eq_true rfl) dX1_init_28 (fun H locs hp => ?_)
  exact W.vret hx hb hr (fun t9 ht hW => hp.ret ht) hp.2.1.2.2 dX1_init_31
