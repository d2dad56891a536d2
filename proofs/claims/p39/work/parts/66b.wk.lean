/-! what stands at the law's entry: the tables, the texts -/
theorem iJ0 : ∀ w ∈ wsJ00, w ∈ W0 := by decide +kernel
theorem iJx00060 : ∀ w ∈ wsJx000600, w ∈ W0 := by decide +kernel
/-- what the Statement gives of the start, a list -/
abbrev nrL : List Cond := flatC (Jvm.Cond.and given_1 narrow_1)
theorem strL_ok : ∀ q ∈ strL, Cond.stringRef q.1 q.2.1 q.2.2 ∈ lw_tbl ∧ Cond.exactly (.string q.1 q.2.1) "java/lang/String" ∈ nrL :=
  (List.forall_mem_cons.mpr ⟨⟨(List.mem_append_right _ (List.mem_of_getElem? (i := 629) (by decide +kernel))), (List.mem_of_getElem? (i := 109) (by decide +kernel))⟩, (List.forall_mem_cons.mpr ⟨⟨(List.mem_append_right _ (List.mem_of_getElem? (i := 645) (by decide +kernel))), (List.mem_of_getElem? (i := 137) (by decide +kernel))⟩, (List.forall_mem_cons.mpr ⟨⟨(List.mem_append_right _ (List.mem_of_getElem? (i := 665) (by decide +kernel))), (List.mem_of_getElem? (i := 160) (by decide +kernel))⟩, (List.forall_mem_cons.mpr ⟨⟨(List.mem_append_right _ (List.mem_of_getElem? (i := 683) (by decide +kernel))), (List.mem_of_getElem? (i := 191) (by decide +kernel))⟩, (List.forall_mem_cons.mpr ⟨⟨(List.mem_append_right _ (List.mem_of_getElem? (i := 687) (by decide +kernel))), (List.mem_of_getElem? (i := 218) (by decide +kernel))⟩, (List.forall_mem_cons.mpr ⟨⟨(List.mem_append_right _ (List.mem_of_getElem? (i := 696) (by decide +kernel))), (List.mem_of_getElem? (i := 245) (by decide +kernel))⟩, (List.forall_mem_cons.mpr ⟨⟨(List.mem_append_right _ (List.mem_of_getElem? (i := 710) (by decide +kernel))), (List.mem_of_getElem? (i := 275) (by decide +kernel))⟩, (List.forall_mem_cons.mpr ⟨⟨(List.mem_append_right _ (List.mem_of_getElem? (i := 725) (by decide +kernel))), (List.mem_of_getElem? (i := 322) (by decide +kernel))⟩, (List.forall_mem_cons.mpr ⟨⟨(List.mem_append_right _ (List.mem_of_getElem? (i := 739) (by decide +kernel))), (List.mem_of_getElem? (i := 365) (by decide +kernel))⟩, (List.forall_mem_cons.mpr ⟨⟨(List.mem_append_right _ (List.mem_of_getElem? (i := 764) (by decide +kernel))), (List.mem_of_getElem? (i := 391) (by decide +kernel))⟩, (List.forall_mem_cons.mpr ⟨⟨(List.mem_append_right _ (List.mem_of_getElem? (i := 773) (by decide +kernel))), (List.mem_of_getElem? (i := 443) (by decide +kernel))⟩, (List.forall_mem_cons.mpr ⟨⟨(List.mem_append_right _ (List.mem_of_getElem? (i := 778) (by decide +kernel))), (List.mem_of_getElem? (i := 476) (by decide +kernel))⟩, (List.forall_mem_cons.mpr ⟨⟨(List.mem_append_right _ (List.mem_of_getElem? (i := 787) (by decide +kernel))), (List.mem_of_getElem? (i := 528) (by decide +kernel))⟩, (List.forall_mem_cons.mpr ⟨⟨(List.mem_append_right _ (List.mem_of_getElem? (i := 817) (by decide +kernel))), (List.mem_of_getElem? (i := 572) (by decide +kernel))⟩, (List.forall_mem_cons.mpr ⟨⟨(List.mem_append_right _ (List.mem_of_getElem? (i := 828) (by decide +kernel))), (List.mem_of_getElem? (i := 590) (by decide +kernel))⟩, (List.forall_mem_cons.mpr ⟨⟨(List.mem_append_right _ (List.mem_of_getElem? (i := 834) (by decide +kernel))), (List.mem_of_getElem? (i := 611) (by decide +kernel))⟩, (List.forall_mem_cons.mpr ⟨⟨(List.mem_append_right _ (List.mem_of_getElem? (i := 843) (by decide +kernel))), (List.mem_of_getElem? (i := 642) (by decide +kernel))⟩, (List.forall_mem_cons.mpr ⟨⟨(List.mem_append_right _ (List.mem_of_getElem? (i := 865) (by decide +kernel))), (List.mem_of_getElem? (i := 685) (by decide +kernel))⟩, (List.forall_mem_cons.mpr ⟨⟨(List.mem_append_right _ (List.mem_of_getElem? (i := 870) (by decide +kernel))), (List.mem_of_getElem? (i := 709) (by decide +kernel))⟩, (List.forall_mem_cons.mpr ⟨⟨(List.mem_append_right _ (List.mem_of_getElem? (i := 875) (by decide +kernel))), (List.mem_of_getElem? (i := 731) (by decide +kernel))⟩, (List.forall_mem_cons.mpr ⟨⟨(List.mem_append_right _ (List.mem_of_getElem? (i := 880) (by decide +kernel))), (List.mem_of_getElem? (i := 763) (by decide +kernel))⟩, (List.forall_mem_cons.mpr ⟨⟨(List.mem_append_right _ (List.mem_of_getElem? (i := 885) (by decide +kernel))), (List.mem_of_getElem? (i := 798) (by decide +kernel))⟩, (List.forall_mem_cons.mpr ⟨⟨(List.mem_append_right _ (List.mem_of_getElem? (i := 890) (by decide +kernel))), (List.mem_of_getElem? (i := 820) (by decide +kernel))⟩, (List.forall_mem_cons.mpr ⟨⟨(List.mem_append_right _ (List.mem_of_getElem? (i := 896) (by decide +kernel))), (List.mem_of_getElem? (i := 846) (by decide +kernel))⟩, (List.forall_mem_cons.mpr ⟨⟨(List.mem_append_right _ (List.mem_of_getElem? (i := 928) (by decide +kernel))), (List.mem_of_getElem? (i := 890) (by decide +kernel))⟩, (List.forall_mem_cons.mpr ⟨⟨(List.mem_append_right _ (List.mem_of_getElem? (i := 941) (by decide +kernel))), (List.mem_of_getElem? (i := 912) (by decide +kernel))⟩, (fun _ h => absurd h List.not_mem_nil)⟩)⟩)⟩)⟩)⟩)⟩)⟩)⟩)⟩)⟩)⟩)⟩)⟩)⟩)⟩)⟩)⟩)⟩)⟩)⟩)⟩)⟩)⟩)⟩)⟩)⟩)
theorem ncL_ok : ∀ q ∈ ncL, Cond.not (.castable q.1 q.2) ∈ nrL :=
  (List.forall_mem_cons.mpr ⟨(List.mem_of_getElem? (i := 33) (by decide +kernel)), (List.forall_mem_cons.mpr ⟨(List.mem_of_getElem? (i := 19) (by decide +kernel)), (List.forall_mem_cons.mpr ⟨(List.mem_of_getElem? (i := 20) (by decide +kernel)), (List.forall_mem_cons.mpr ⟨(List.mem_of_getElem? (i := 21) (by decide +kernel)), (List.forall_mem_cons.mpr ⟨(List.mem_of_getElem? (i := 22) (by decide +kernel)), (List.forall_mem_cons.mpr ⟨(List.mem_of_getElem? (i := 18) (by decide +kernel)), (List.forall_mem_cons.mpr ⟨(List.mem_of_getElem? (i := 34) (by decide +kernel)), (List.forall_mem_cons.mpr ⟨(List.mem_of_getElem? (i := 47) (by decide +kernel)), (List.forall_mem_cons.mpr ⟨(List.mem_of_getElem? (i := 35) (by decide +kernel)), (List.forall_mem_cons.mpr ⟨(List.mem_of_getElem? (i := 48) (by decide +kernel)), (List.forall_mem_cons.mpr ⟨(List.mem_of_getElem? (i := 61) (by decide +kernel)), (fun _ h => absurd h List.not_mem_nil)⟩)⟩)⟩)⟩)⟩)⟩)⟩)⟩)⟩)⟩)⟩)
theorem wk_arr {A : Array Value} {s : State} {ty : FieldType} (h : (Cond.arrayClass ty).before A s = true) : ∃ cA : ClassId, ArrOfT s cA ty ∧ s.vm.findClass ("[" ++ ty.toString) = some cA := by
  obtain ⟨c, k, cm, h1, h2, h3⟩ := Cond.arrayClass_spec (args := A) (first := s) (o := none) (s := s) (idx := []) h
  exact ⟨c, fun n z => ⟨fun k h => (by cases h), k, h2, cm, h3⟩, h1⟩
theorem wk_arrO {A : Array Value} {s : State} {C : String} (h : (Cond.arrayOver (.object C)).before A s = true) : ∃ cA : ClassId, ArrOfT s cA (.object C) ∧ va_RA s cA (.object C) := by
  obtain ⟨cm, c, k, h1, h2, h3, h4, h5⟩ := Cond.arrayOver_spec (args := A) (first := s) (o := none) (s := s) (idx := []) h
  exact ⟨c, fun n z => ⟨fun k h => (by cases h), k, h3, cm, h4⟩, ⟨k, cm, h3, h4, h1, h5⟩⟩
theorem wk_ev {A : Array Value} {s : State} {t : Term} {C : String} (h : (Cond.exactly t C).before A s = true) : ∃ a : Nat, t.eval A s none [] s = some (.ref a) := by
  obtain ⟨a, c, cell, k, e1, -⟩ := Cond.exactly_spec (args := A) (first := s) (o := none) (s := s) (idx := []) (t := t) (cls := C) h
  exact ⟨a, e1⟩
theorem wk_t89_el : ∀ j, j < 12 → nrL[353 + j]? = some (Cond.eq (.elem (.field (.string RX6 89) "java/lang/String" "value" "[B") (.int (Int32.ofNat j))) (.int (([110, 102, 114, 97, 115, 100, 111, 108, 117, 104, 105, 119] : List Int32).getD j 0))) := by decide +kernel
theorem wk_t89 {b : Nat} {s : State} {A : Nat → Prop} (hp : ∀ w ∈ nrL, w.before #[Value.ref b] s = true) (hA : ∀ a : Nat, a < s.heap.size → ¬ A a) : ∃ aK aV : Nat → Nat, vk_S 1 [12] [[110, 102, 114, 97, 115, 100, 111, 108, 117, 104, 105, 119]] aK aV A s s.heap ∧ (Term.string RX6 89).eval #[Value.ref b] s none [] s = some (.ref (aK 0)) := by
  obtain ⟨aK, aV, h1, h2⟩ := vk_Sof (args := #[Value.ref b]) (s := s) (N := 1) (tm := fun _ => .string RX6 89) (len := [12]) (byt := [[110, 102, 114, 97, 115, 100, 111, 108, 117, 104, 105, 119]]) (A := A)
    (fun i hi => by obtain rfl : i = 0 := (by omega); decide) (fun i hi => hp _ (List.mem_of_getElem? (i := 349) (by decide +kernel))) (fun i hi => hp _ (List.mem_of_getElem? (i := 350) (by decide +kernel))) (fun i hi => hp _ (List.mem_of_getElem? (i := 351) (by decide +kernel)))
    (fun i hi => by obtain rfl : i = 0 := (by omega); exact hp _ (List.mem_of_getElem? (i := 352) (by decide +kernel)))
    (fun i hi j hj => by obtain rfl : i = 0 := (by omega); exact hp _ (List.mem_of_getElem? (wk_t89_el j hj)))
    (fun i j hi hj hij => absurd (show i = j by omega) hij) hA
  exact ⟨aK, aV, h1, h2 0 (by decide)⟩
theorem wk_t272_el : ∀ j, j < 6 → nrL[102 + j]? = some (Cond.eq (.elem (.field (.string RX6 272) "java/lang/String" "value" "[B") (.int (Int32.ofNat j))) (.int (([111, 108, 117, 104, 105, 119] : List Int32).getD j 0))) := by decide +kernel
theorem wk_t272 {b : Nat} {s : State} {A : Nat → Prop} (hp : ∀ w ∈ nrL, w.before #[Value.ref b] s = true) (hA : ∀ a : Nat, a < s.heap.size → ¬ A a) : ∃ aK aV : Nat → Nat, vk_S 1 [6] [[111, 108, 117, 104, 105, 119]] aK aV A s s.heap ∧ (Term.string RX6 272).eval #[Value.ref b] s none [] s = some (.ref (aK 0)) := by
  obtain ⟨aK, aV, h1, h2⟩ := vk_Sof (args := #[Value.ref b]) (s := s) (N := 1) (tm := fun _ => .string RX6 272) (len := [6]) (byt := [[111, 108, 117, 104, 105, 119]]) (A := A)
    (fun i hi => by obtain rfl : i = 0 := (by omega); decide) (fun i hi => hp _ (List.mem_of_getElem? (i := 98) (by decide +kernel))) (fun i hi => hp _ (List.mem_of_getElem? (i := 99) (by decide +kernel))) (fun i hi => hp _ (List.mem_of_getElem? (i := 100) (by decide +kernel)))
    (fun i hi => by obtain rfl : i = 0 := (by omega); exact hp _ (List.mem_of_getElem? (i := 101) (by decide +kernel)))
    (fun i hi j hj => by obtain rfl : i = 0 := (by omega); exact hp _ (List.mem_of_getElem? (wk_t272_el j hj)))
    (fun i j hi hj hij => absurd (show i = j by omega) hij) hA
  exact ⟨aK, aV, h1, h2 0 (by decide)⟩
theorem wk_two {s : State} {A : Nat → Prop} {aK aV cK cV : Nat → Nat} (h1 : vk_S 1 [12] [[110, 102, 114, 97, 115, 100, 111, 108, 117, 104, 105, 119]] aK aV A s s.heap) (h2 : vk_S 1 [6] [[111, 108, 117, 104, 105, 119]] cK cV A s s.heap) : vk_S 2 lenJS bytJS (fun i => if i = 0 then aK 0 else cK 0) (fun i => if i = 0 then aV 0 else cV 0) A s s.heap := by
  have q1 := h1.1 0 (by decide)
  have q2 := h2.1 0 (by decide)
  have hne : aK 0 ≠ cK 0 := by
    intro e
    obtain ⟨-, -, ⟨cf, k, i, f, cell, f1, f2, f3, f4, f5, f6⟩, ⟨ca, g1, -, -, -, g5, -⟩⟩ := q1
    obtain ⟨-, -, ⟨cf', k', i', f', cell', f1', f2', f3', f4', f5', f6'⟩, ⟨ca', g1', -, -, -, g5', -⟩⟩ := q2
    have e1 := Option.some.inj (f1.symm.trans f1')
    have e2 : f = f' := congrArg (fun x => x.2.2.2) e1
    subst e2
    rw [e] at f3
    have e3 : cell = cell' := Option.some.inj (f3.symm.trans f3')
    subst e3
    have e4 : aV 0 = cV 0 := Value.ref.inj (Option.some.inj (f5.symm.trans f5'))
    rw [e4] at g1
    have e5 : ca = ca' := Option.some.inj (g1.symm.trans g1')
    subst e5
    exact absurd (g5.symm.trans g5') (by decide)
  refine ⟨fun i hi => ?_, fun i j hi hj e => ?_⟩
  · by_cases h0 : i = 0
    · subst h0; exact q1
    · obtain rfl : i = 1 := by omega
      exact q2
  · by_cases h0 : i = 0
    · by_cases h9 : j = 0
      · rw [h0, h9]
      · simp only [if_pos h0, if_neg h9] at e
        exact absurd e hne
    · by_cases h9 : j = 0
      · simp only [if_neg h0, if_pos h9] at e
        exact absurd e.symm hne
      · omega
set_option maxHeartbeats 4000000 in
theorem wk_start {p : Program} {s : State} {m : MethodId} {meth : Method} {c : Code} {b L : Nat} {xs : Nat → Int32} (C0 : lw_At p s m meth c b L xs) : ∃ g : wG, WK g s s.heap ∧ g.2.2.2 = s.heap.size ∧ ∀ j : Nat, gA g j = s.heap.size + wp j := by
  obtain ⟨hx, hb, hr, hml, hown, hts, hX, hbl, hlocks, hgv⟩ := id C0
  have hp : ∀ w ∈ nrL, w.before #[Value.ref b] s = true := flat_of_before _ hgv
  have hw : ∀ w ∈ W0, w.before #[Value.ref b] s = true := fun w h => hts w (List.mem_filter.mp h).1
  obtain ⟨c0, i0, h0⟩ := u_known (C := RJ0) (T := TJ0) (N := 2) (n := 4) hw iJ0 (hw _ q603)
  obtain ⟨c1, i1, h1⟩ := u_known (C := RJx00060) (T := TJx00060) (N := 6) (n := 6) hw iJx00060 (hw _ q530)
  obtain ⟨c2, i2, h2⟩ := u_known (C := RX0) (T := TX0) (N := 6) (n := 6) hw iX0 (hw _ q34)
  obtain ⟨c3, i3, h3⟩ := u_known (C := RX1) (T := TX1) (N := 16) (n := 16) hw iX1 (hw _ q68)
  obtain ⟨c4, i4, h4⟩ := u_known (C := RX2) (T := TX2) (N := 2) (n := 2) hw iX2 (hw _ q226)
  obtain ⟨c5, i5, h5⟩ := u_known (C := RX3) (T := TX3) (N := 6) (n := 6) hw iX3 (hw _ q99)
  obtain ⟨c6, i6, h6⟩ := u_known (C := RX4) (T := TX4) (N := 4) (n := 4) hw iX4 (hw _ q74)
  obtain ⟨c7, i7, h7⟩ := u_known (C := RX5) (T := TX5) (N := 4) (n := 4) hw iX5 (hw _ q43)
  obtain ⟨c8, i8, h8⟩ := u_known (C := RX6) (T := TX6) (N := 3) (n := 3) hw iX6 (hw _ q26)
  obtain ⟨a0, z0, y0⟩ := wk_arr (ty := .int) (hw _ q67)
  obtain ⟨a5, z5, y5⟩ := wk_arrO (hts (.arrayOver (.object "GrievanceOmbud$Complaint")) (List.mem_append_right _ (List.mem_of_getElem? (i := 42) (by decide +kernel))))
  obtain ⟨a6, z6, y6⟩ := wk_arrO (hts (.arrayOver (.object "GrievanceOmbud$Office")) (List.mem_append_right _ (List.mem_of_getElem? (i := 40) (by decide +kernel))))
  have hA : ∀ a : Nat, a < s.heap.size → ¬ ((∃ j, j < 143 ∧ a = s.heap.size + wp j) ∨ s.heap.size ≤ a) := by
    intro a h1 h2
    rcases h2 with ⟨j, -, rfl⟩ | h2
    · omega
    · omega
  obtain ⟨aK, aV, s1, e1⟩ := wk_t89 hp hA
  obtain ⟨cK, cV, s2, e2⟩ := wk_t272 hp hA
  obtain ⟨d1, e3⟩ := wk_ev (hp (.exactly (.string RX1 75) "java/lang/String") (List.mem_of_getElem? (i := 88) (by decide +kernel)))
  have e4 : d1 = cK 0 := Value.ref.inj (Option.some.inj ((va_eqR (hp (.eq (.string RX1 75) (.string RX6 272)) (List.mem_of_getElem? (i := 108) (by decide +kernel))) e3).symm.trans e2))
  refine ⟨((fun k => [c0, c1, c2, c3, c4, c5, c6, c7, c8].getD k c0, fun k => [i0, i1, i2, i3, i4, i5, i6, i7, i8].getD k i0), (fun k => [a0, a0, a0, a0, a0, a5, a6].getD k a0), (fun j => s.heap.size + wp j), s.heap.size), ⟨⟨?_, ?_⟩, ?_, ?_, Nat.le_refl _, ?_⟩, rfl, fun _ => rfl⟩
  · intro k q hq
    match k, hq with
    | 0, hq => cases hq; exact h0
    | 1, hq => cases hq; exact h1
    | 2, hq => cases hq; exact h2
    | 3, hq => cases hq; exact h3
    | 4, hq => cases hq; exact h4
    | 5, hq => cases hq; exact h5
    | 6, hq => cases hq; exact h6
    | 7, hq => cases hq; exact h7
    | 8, hq => cases hq; exact h8
    | k + 9, hq => exact absurd hq (by simp [vwCl])
  · intro k q hq
    match k, hq with
    | 0, hq => cases hq; exact ⟨z0, y0⟩
    | 1, hq => cases hq; exact ⟨z0, y0⟩
    | 2, hq => cases hq; exact ⟨z0, y0⟩
    | 3, hq => cases hq; exact ⟨z0, y0⟩
    | 4, hq => cases hq; exact ⟨z0, y0⟩
    | 5, hq => cases hq; exact ⟨z5, y5⟩
    | 6, hq => cases hq; exact ⟨z6, y6⟩
    | k + 7, hq => exact absurd hq (by simp [tysG])
  · intro w hw9
    have hq := (List.mem_filter.mp hw9).2
    have h1 := hts w (List.mem_filter.mp hw9).1
    cases w <;> first | exact va_tabs rfl rfl h1 | (simp [isNq] at hq)
  · intro i j hi hj e
    have e9 : s.heap.size + wp i = s.heap.size + wp j := e
    rw [← wq_wp i hi, ← wq_wp j hj, Nat.add_left_cancel e9]
  · refine ⟨vx_Zqof (args := #[Value.ref b]) (hts _ (List.mem_append_right _ (List.mem_of_getElem? (i := 547) (by decide +kernel)))) (hw _ q8) (hp _ (List.mem_of_getElem? (i := 9) (by decide +kernel))) hA, vx_Zqof (args := #[Value.ref b]) (hts _ (List.mem_append_right _ (List.mem_of_getElem? (i := 549) (by decide +kernel)))) (hw _ q8) (hp _ (List.mem_of_getElem? (i := 10) (by decide +kernel))) hA, ?_, fun q hq => va_Nc.of (hp _ (ncL_ok q hq)), va_Zof (args := #[Value.ref b]) (hts _ (List.mem_append_right _ (List.mem_of_getElem? (i := 344) (by decide +kernel)))) (hw _ q13) (va_eqi (hp _ (List.mem_of_getElem? (i := 4) (by decide +kernel)))) hA, _, _, wk_two s1 s2, ?_, ?_, ?_⟩
    · intro q hq
      obtain ⟨h1, h2⟩ := strL_ok q hq
      obtain ⟨a, e9⟩ := wk_ev (hp _ h2)
      exact ⟨a, vk_R.of (hts _ h1) e9⟩
    · exact vk_R.of (hts _ (List.mem_append_right _ (List.mem_of_getElem? (i := 738) (by decide +kernel)))) e1
    · exact vk_R.of (hts _ (List.mem_append_right _ (List.mem_of_getElem? (i := 487) (by decide +kernel)))) e2
    · exact vk_R.of (hts _ (List.mem_append_right _ (List.mem_of_getElem? (i := 330) (by decide +kernel)))) (by rw [e3, e4]; rfl)
