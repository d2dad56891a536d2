/-! from the law's entry -/
section KWI
variable {p : Program} {l : Launch} {e : Env} {R : Room} {s : State} {m : MethodId} {args : Array Value} {c : Code} {cc : ByteArray} {own : String}
variable {y : MethodName} {cy : ByteArray} {ny index mc ms : Nat} {rm : Room}
theorem kw_I (hc : CX p c cc s args m own) (n : Nat) (hl : Cond.methodLink own index y ∈ W0) (hi : Cond.instanceMethod y ∈ W0) (hn : Cond.initialized y.cls ∈ W0) (hcd : Cond.code y cy ny none ∈ W0) (hrc : rm.cells = mc) (hrs : rm.slots = ms) (hy1 : y.name = "<init>") (hd : y.cls ≠ "java/lang/invoke/MethodHandle" ∧ y.cls ≠ "java/lang/invoke/VarHandle" ∧ (parseMethodDescriptor y.desc).map (fun d => d.parameters.length) = some n) (hR : rm.frames + 1 ≤ R.frames ∧ 8 + (ny + 11) + rm.locals ≤ R.locals) : CallB R s args own index y cy ny none (ws_ y cy ny none) rm mc ms n ∧ y.name = "<init>" ∧ (Cond.instanceMethod y).before args s = true :=
  cwI n hc.2.2.2 (goodIn_ws (fun _ z => z) hcd) rfl hrc hrs (hc.2.2.2 _ hn) (hc.2.2.2 _ hl) (hc.2.2.2 _ hi) hy1 hd hR
end KWI
set_option maxHeartbeats 4000000 in
set_option maxRecDepth 100000 in
/-- THE LAW, from its entry -/
theorem whole_start {p : Program} {e : Env} {s : State} {m : MethodId} {below : List Frame} {meth : Method} {c : Code} (l : Launch) (hflags : l.flags = flags0) {b L : Nat} {xs : Nat → Int32} (hL : L ≤ 2560) (C0 : lw_At p s m meth c b L xs) : W p l e room_1 s m #[Value.ref b] below meth c s.heap [] 0 0 (lw_Z below #[Value.ref b] s) (entryFrame m ([Value.ref b] : List Value).toArray 9) := by
  obtain ⟨hx, hb, hr, hml, hown, hts, hX, hbl, hlocks, hgv⟩ := id C0
  obtain ⟨g, hk, hg4, hgA⟩ := wk_start C0
  have hc : CX p c cL_law s #[Value.ref b] m RL := ⟨hx, hb, hown, fun w h => hts w (List.mem_filter.mp h).1⟩
  have hAA : ∀ q, AA g q → s.heap.size ≤ q := by
    intro q h
    rcases h with ⟨j, -, rfl⟩ | h
    · rw [hgA]; omega
    · rw [← hg4]; exact h
  have hfl : l.stackTraces = false := by
    unfold Launch.stackTraces
    rw [hflags]
    decide +kernel
  have C9 : LC p l s m c b L xs g := ⟨hc, hml, hk, hX, hbl, fun h => Nat.not_le.mpr hbl (hAA b h), hfl⟩
  have hO1 : va_AO "GrievanceOmbud$Office" s := va_AO.of (hts (.arrayOver (.object "GrievanceOmbud$Office")) (List.mem_append_right _ (List.mem_of_getElem? (i := 40) (by decide +kernel))))
  have hO2 : va_AO "GrievanceOmbud$Complaint" s := va_AO.of (hts (.arrayOver (.object "GrievanceOmbud$Complaint")) (List.mem_append_right _ (List.mem_of_getElem? (i := 42) (by decide +kernel))))
  have hg0 : gA g 0 = s.heap.size := by have h9 := hgA 0; rw [show wp 0 = 0 by decide] at h9; omega
  have eb : ∀ p9 c9 : Nat, p9 < 2 → c9 < 70 → gA g (3 + 70 * p9 + c9) = s.heap.size + (1 + 70 * p9 + pcB c9) := fun p9 c9 h1 h2 => by rw [hgA, wp_b h1 h2]
  have e1 : gA g (jB 0) = s.heap.size + 1 := by have h9 := hgA (jB 0); rw [show wp (jB 0) = 1 by decide] at h9; omega
  have e2 : ∀ c, c < 70 → c ≠ 0 → gA g (3 + 70 * 0 + c) = s.heap.size + 1 + 1 + (pcB c - 1) := fun c h1 h2 => by have := pcB_0 h2; rw [eb 0 c (by decide) h1]; omega
  have e3 : gA g (jB 1) = s.heap.size + 1 + 1 + 69 := by have h9 := hgA (jB 1); rw [show wp (jB 1) = 71 by decide] at h9; omega
  have e4 : ∀ c, c < 70 → c ≠ 0 → gA g (3 + 70 * 1 + c) = s.heap.size + 1 + 1 + 69 + 1 + (pcB c - 1) := fun c h1 h2 => by have := pcB_0 h2; rw [eb 1 c (by decide) h1]; omega
  have e5 : gA g 1 = s.heap.size + 1 + 1 + 69 + 1 + 69 := by have h9 := hgA 1; rw [show wp 1 = 141 by decide] at h9; omega
  have e6 : gA g 2 = s.heap.size + 1 + 1 + 69 + 1 + 69 + 1 := by have h9 := hgA 2; rw [show wp 2 = 142 by decide] at h9; omega
  have e7 : gA g (jM 0) = s.heap.size + 1 + 142 := by have h9 := hgA (jM 0); rw [show wp (jM 0) = 143 by decide] at h9; omega
  have e8 : ∀ k, k < 25 → gA g (jM (k + 1)) = s.heap.size + 1 + 142 + 1 + k := fun k h => by
    rw [hgA]
    unfold jM wp
    rw [if_neg (by omega), if_neg (by omega)]
    omega
  have e9 : gA g 169 = s.heap.size + 1 + 142 + 1 + 25 := by have h9 := hgA 169; rw [show wp 169 = 169 by decide] at h9; omega
  have e10 : gA g 170 = s.heap.size + 1 + 142 + 1 + 25 + 1 := by have h9 := hgA 170; rw [show wp 170 = 170 by decide] at h9; omega
  have hp : PS g s (fun _ => none) s.heap.size s.heap [] := ⟨fun j hj e9 he => absurd (show (none : Option va_E) = some e9 from he) (fun z => nomatch z), va_S.rf, rfl⟩
  have hl := lv_entry ([.ref b]) (n := 9) (Nat.le_of_ble_eq_true rfl)
  rw [lg_entry_eq]
  generalize (lg_sl ([.ref b]) ++ List.replicate (9 - (lg_sl ([.ref b])).length) Slot.unset).toArray = ls at hl ⊢
  have hl : lv_has ls 9 [(0, .ref b)] := hl
  refine p_new (fs := frX6) hc hk hp (j := 0) hg0 (ci := 8) rfl iX6 tyX6 tyX6_ok q25 q26 q1 frX6_ok (Nat.le_of_ble_eq_true rfl) (Nat.le_of_ble_eq_true rfl) dL_law_0 (fun H hp => ?_)
  refine lv_dup hx hb dL_law_3 rfl ?_
  refine pc_v hp (va_runI (As := []) (rest := [.ref (gA g 0)]) ⟨hx, hb, hml, hc.2.2.1, hc.2.2.2⟩ (m_X6_init l g _ _ (pup_eq _ _ _) e1 e2 e3 e4 e5 e6) (kw_I hc 0 q27 q28 q1 q29 rfl rfl rfl (by decide +kernel) ⟨(Nat.le_of_ble_eq_true rfl), (Nat.le_of_ble_eq_true rfl)⟩) (kp_O hk hp hO1 hO2) rfl rfl hl.1 rfl (lv_room (Nat.le_of_ble_eq_true rfl)) dL_law_4 ⟨(Nat.le_of_ble_eq_true rfl), (Nat.le_of_ble_eq_true rfl)⟩) (fun H locs hp => ?_)
  refine lv_astore_n (lv' := [(1, .ref (gA g 0)), (0, .ref b)]) hx hb dL_law_7 rfl hl (by decide) rfl (fun ls hl => ?_)
  refine p_new (fs := frX7) hc hk hp (j := (jM 0)) e7 (ci := 9) rfl iX7 tyX7 tyX7_ok q1029 q1030 q8 frX7_ok (Nat.le_of_ble_eq_true rfl) (Nat.le_of_ble_eq_true rfl) dL_law_8 (fun H hp => ?_)
  refine lv_dup hx hb dL_law_11 rfl ?_
  refine pc_v hp (va_runI (As := []) (rest := [.ref (gA g (jM 0))]) ⟨hx, hb, hml, hc.2.2.1, hc.2.2.2⟩ (m_X7_init l g _ _ (pup_eq _ _ _) e8) (kw_I hc 0 q1031 q1032 q8 q1033 rfl rfl rfl (by decide +kernel) ⟨(Nat.le_of_ble_eq_true rfl), (Nat.le_of_ble_eq_true rfl)⟩) (kp_P hk hp) rfl rfl hl.1 rfl (lv_room (Nat.le_of_ble_eq_true rfl)) dL_law_12 ⟨(Nat.le_of_ble_eq_true rfl), (Nat.le_of_ble_eq_true rfl)⟩) (fun H locs hp => ?_)
  refine lv_astore_n (lv' := [(2, .ref (gA g (jM 0))), (1, .ref (gA g 0)), (0, .ref b)]) hx hb dL_law_15 rfl hl (by decide) rfl (fun ls hl => ?_)
  refine lv_iconst (v := 1) hx hb dL_law_16 (by decide) ?_
  refine p_newa (atype := .long) (t0 := 3) (a0 := (1, .inr (.inl fun _ => 0))) (N := 1) hc hk hp (j := 169) e9 q1332 rfl rfl (fun _ => rfl) (fun cA => vp_cell_l cA 1 (fun _ => 0)) (by decide) (by decide) (by decide) (Nat.le_of_ble_eq_true rfl) (Nat.le_of_ble_eq_true rfl) dL_law_17 (fun H hp => ?_)
  refine lv_astore_n (lv' := [(3, .ref (gA g 169)), (2, .ref (gA g (jM 0))), (1, .ref (gA g 0)), (0, .ref b)]) hx hb dL_law_19 rfl hl (by decide) rfl (fun ls hl => ?_)
  refine lv_iconst (v := 1) hx hb dL_law_20 (by decide) ?_
  refine p_newa (atype := .double) (t0 := 4) (a0 := (1, .inr (.inr (.inr (.inl fun _ => 0))))) (N := 1) hc hk hp (j := 170) e10 q1333 rfl rfl (fun _ => rfl) (fun cA => vp_cell_d cA 1 (fun _ => 0)) (by decide) (by decide) (by decide) (Nat.le_of_ble_eq_true rfl) (Nat.le_of_ble_eq_true rfl) dL_law_21 (fun H hp => ?_)
  refine lv_astore (lv' := [(4, .ref (gA g 170)), (3, .ref (gA g 169)), (2, .ref (gA g (jM 0))), (1, .ref (gA g 0)), (0, .ref b)]) hx hb dL_law_23 hl (by decide) rfl (fun ls hl => ?_)
  refine lv_iconst (v := 0) hx hb dL_law_25 (by decide) ?_
  refine lv_istore (lv' := lw_lv g b 0) hx hb dL_law_26 hl (by decide) rfl (fun ls hl => ?_)
  refine W.widen (k := 200 + 5 * 0) (n := 6000 + 30 * 0) (Nat.le_of_ble_eq_true rfl) (Nat.le_of_ble_eq_true rfl) ?_
  exact lw_loop C9 hL hr hlocks hAA (L + 1) 0 (by omega) (Or.inr rfl) st_S st_M st_o 0 _ _ ls rfl st_V (st_WS hp) hl
