/-! from the law's entry -/
theorem kc_b {p : Program} {l : Launch} {e : Env} {R : Room} {s : State} {m : MethodId} {args : Array Value} {below : List Frame} {meth : Method} {c : Code} {H : Heap} {locs : List Loc} {cells slots mc ms pc : Nat} {Q : State → Prop} {g : wG} {ls : Array Slot} {rest st0 : List Value} {a : Array Value} (hS : va_S (AA g) s.heap H locs) (hr : va_Run p l e R s m args below meth c H locs cells slots mc ms (F0 m pc ls st0) rest (va_Qi (fun v (_ : Unit) => v = 1) (fun _ _ => True) (AA g) a) (AA g))
    (kk : ∀ (H1 : Heap) (locs1 : List Loc), va_S (AA g) s.heap H1 locs1 → W p l e R s m args below meth c H1 locs1 (cells + mc) (slots + ms) Q (F0 m (pc + 3) ls (.int 1 :: rest))) : W p l e R s m args below meth c H locs cells slots Q (F0 m pc ls st0) :=
  va_calli hr hS (fun _ _ h => h) (fun _ h => h) (fun r u t H1 locs1 _ _ hp _ _ _ hS => by
    subst hp
    exact kk H1 locs1 hS)
theorem kp_L {s : State} {H : Heap} {locs : List Loc} {g : wG} {As : List Value} (hk : WK g s s.heap) (hnb : NB g) (h1 : va_AO "GrievanceOmbud$Office" s) (h2 : va_AO "GrievanceOmbud$Complaint" s) (hS : va_S (AA g) s.heap H locs) : PreS s H (va_Pc As (prL g)) As :=
  ⟨prL_blind, fun U hU hW => ⟨rfl, WK.at hk hS hU hW, hnb, va_AO.moved hW.alike h1, va_AO.moved hW.alike h2⟩⟩
theorem kp_LX {s : State} {H : Heap} {locs : List Loc} {g : wG} {As : List Value} {b L : Nat} {xs : Nat → Int32} (hk : WK g s s.heap) (hnb : NB g) (h1 : va_AO "GrievanceOmbud$Office" s) (h2 : va_AO "GrievanceOmbud$Complaint" s) (hS : va_S (AA g) s.heap H locs) (hX : va_X b L xs s s.heap) (hbl : b < s.heap.size) (hbA : ¬ AA g b) (hbs : b < g.2.2.2) : PreS s H (va_Pc As (fun U => prL g U ∧ va_X b L xs U U.heap ∧ b < g.2.2.2)) As :=
  ⟨fun a U f mk q => ⟨q.1, (prL_blind a U f mk ⟨q.1, q.2.1⟩).2, va_X.moved (u := U) (U := U.calling f mk a) (Vm.Alike.refl U.vm) q.2.2.1, q.2.2.2⟩,
   fun U hU hW => ⟨rfl, ((kp_L (As := As) hk hnb h1 h2 hS).2 U hU hW).2, (hX.moved hW.alike).kept (by rw [hU]; exact hS.2.1 b hbl hbA), hbs⟩⟩
set_option maxHeartbeats 4000000 in
set_option maxRecDepth 100000 in
/-- THE LAW, from its entry -/
theorem whole_start {p : Program} {e : Env} {s : State} {m : MethodId} {below : List Frame} {meth : Method} {c : Code} (l : Launch) (hflags : l.flags = flags0) {b L : Nat} {xs : Nat → Int32} (hL : L ≤ 260) (C0 : lw_At p s m meth c b L xs) : W p l e room_1 s m #[Value.ref b] below meth c s.heap [] 0 0 (lw_Z below #[Value.ref b] s) (entryFrame m ([Value.ref b] : List Value).toArray 2) := by
  obtain ⟨hx, hb, hr, hml, hown, hts, hX, hbl, hlocks, hgv⟩ := id C0
  obtain ⟨g0, hk0, hg4, hgA⟩ := wk_start C0
  have hc : CX p c cL_law s #[Value.ref b] m RL := ⟨hx, hb, hown, fun w h => hts w (List.mem_filter.mp h).1⟩
  have hfl : l.stackTraces = false := by
    unfold Launch.stackTraces
    rw [hflags]
    decide +kernel
  have hnb0 : NB g0 := fun j _ => by rw [hgA, hg4]; omega
  have hO1 : va_AO "GrievanceOmbud$Office" s := va_AO.of (hts (.arrayOver (.object "GrievanceOmbud$Office")) (List.mem_append_right _ (List.mem_of_getElem? (i := 40) (by decide +kernel))))
  have hO2 : va_AO "GrievanceOmbud$Complaint" s := va_AO.of (hts (.arrayOver (.object "GrievanceOmbud$Complaint")) (List.mem_append_right _ (List.mem_of_getElem? (i := 42) (by decide +kernel))))
  have hl := lv_entry ([.ref b]) (n := 2) (Nat.le_of_ble_eq_true rfl)
  rw [lg_entry_eq]
  generalize (lg_sl ([.ref b]) ++ List.replicate (2 - (lg_sl ([.ref b])).length) Slot.unset).toArray = ls at hl ⊢
  have hl : lv_has ls 2 [(0, .ref b)] := hl
  refine k_cre y9 hc hml ⟨hk0, hnb0, hO1, hO2⟩ hl dL_law_0 dL_law_3 dL_law_4 ⟨Nat.le_of_ble_eq_true rfl, Nat.le_of_ble_eq_true rfl⟩ ⟨Nat.le_of_ble_eq_true rfl, Nat.le_of_ble_eq_true rfl⟩ (fun g hk hnb hg H locs hw => ?_)
  have hg9 : g.2.2.2 = s.heap.size := hg.trans hg4
  have hAA : ∀ q, AA g q → s.heap.size ≤ q := fun q h => by rw [hnb.A, hg9] at h; exact h
  have hbA : ¬ AA g b := fun h => Nat.not_le.mpr hbl (hAA b h)
  refine lv_astore_n (lv' := [(1, .ref (gA g 0)), (0, .ref b)]) hx hb dL_law_7 rfl hl (by decide) rfl (fun ls hl => ?_)
  have X : LX p l s m #[Value.ref b] c cL_law 2 g := ⟨hc, hml, hk, hfl⟩
  refine w_law X ?_ st_S b0 H locs ls st_VV hw ev_law hl
  intro S B H locs ls hV hw _ hl
  have hS := hw.2
  refine lv_aload_n hx hb dL_law_967 rfl (lv_at hl 1 rfl) ?_
  refine kc_b hS (va_runS (As := [.ref b]) (rest := []) ⟨hx, hb, hml, hc.2.2.1, hc.2.2.2⟩ (m_L_ladder l g hfl b L xs hL) (kw_S hc 1 q947 q948 q0 q949 rfl rfl (by decide +kernel) ⟨Nat.le_of_ble_eq_true rfl, Nat.le_of_ble_eq_true rfl⟩) (kp_LX hk hnb hO1 hO2 hS hX hbl hbA (by rw [hg9]; exact hbl)) rfl rfl hl.1 rfl (lv_room (Nat.le_of_ble_eq_true rfl)) dL_law_968 ⟨Nat.le_of_ble_eq_true rfl, Nat.le_of_ble_eq_true rfl⟩) (fun H locs hS => ?_)
  refine lv_if_eq (tgt := 990) hx hb dL_law_971 (by decide) (fun h9 => absurd h9 (by decide)) (fun _ => ?_)
  refine kc_b hS (va_runS (As := []) (rest := []) ⟨hx, hb, hml, hc.2.2.1, hc.2.2.2⟩ (m_L_silence l g hfl) (kw_S hc 0 q963 q964 q0 q965 rfl rfl (by decide +kernel) ⟨Nat.le_of_ble_eq_true rfl, Nat.le_of_ble_eq_true rfl⟩) (kp_L hk hnb hO1 hO2 hS) rfl rfl hl.1 rfl (lv_room (Nat.le_of_ble_eq_true rfl)) dL_law_974 ⟨Nat.le_of_ble_eq_true rfl, Nat.le_of_ble_eq_true rfl⟩) (fun H locs hS => ?_)
  refine lv_if_eq (tgt := 990) hx hb dL_law_977 (by decide) (fun h9 => absurd h9 (by decide)) (fun _ => ?_)
  refine kc_b hS (va_runS (As := []) (rest := []) ⟨hx, hb, hml, hc.2.2.1, hc.2.2.2⟩ (m_L_full l g hfl) (kw_S hc 0 q967 q968 q0 q969 rfl rfl (by decide +kernel) ⟨Nat.le_of_ble_eq_true rfl, Nat.le_of_ble_eq_true rfl⟩) (kp_L hk hnb hO1 hO2 hS) rfl rfl hl.1 rfl (lv_room (Nat.le_of_ble_eq_true rfl)) dL_law_980 ⟨Nat.le_of_ble_eq_true rfl, Nat.le_of_ble_eq_true rfl⟩) (fun H locs hS => ?_)
  refine lv_if_eq (tgt := 990) hx hb dL_law_983 (by decide) (fun h9 => absurd h9 (by decide)) (fun _ => ?_)
  refine lv_iconst (v := 1) hx hb dL_law_986 (by decide) ?_
  refine lv_goto (tgt := 991) hx hb dL_law_987 (by decide) ?_
  refine va_forget (fun q hq => hAA _ (hS.2.2 q hq)) ?_
  refine W.widen (k := 600312) (n := 7290914) (Nat.le_of_ble_eq_true rfl) (Nat.le_of_ble_eq_true rfl) ?_
  exact W.base (lw_ret (Drawn.sameBut.refl s.drawn lw_cs) hx hb hr hlocks dL_law_991)
