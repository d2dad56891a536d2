/-! a world of which not all cells stand yet: f tells those that do -/
def PW (g : wG) (f : Nat → Option va_E) (H : Heap) : Prop := ∀ j, j < 143 → ∀ e, f j = some e → va_at g.1 vwCl (gA g j, e) H
def pwl (g : wG) (f : Nat → Option va_E) : va_W := (List.range 143).filterMap (fun j => (f j).map (fun e => (gA g j, e)))
theorem pwl_mem {g : wG} {f : Nat → Option va_E} {q : Nat × va_E} : q ∈ pwl g f ↔ ∃ j, j < 143 ∧ ∃ e, f j = some e ∧ q = (gA g j, e) := by
  unfold pwl
  rw [List.mem_filterMap]
  constructor
  · rintro ⟨j, hj, h⟩
    cases hf : f j with
    | none => rw [hf] at h; cases h
    | some e => rw [hf] at h; exact ⟨j, List.mem_range.mp hj, e, hf, (Option.some.inj h).symm⟩
  · rintro ⟨j, hj, e, hf, rfl⟩
    exact ⟨j, List.mem_range.mpr hj, by rw [hf]; rfl⟩
theorem PW.P {g : wG} {f : Nat → Option va_E} {H : Heap} (h : PW g f H) : va_P g.1 vwCl (pwl g f) H := by
  intro k q hk
  obtain ⟨j, hj, e, he, rfl⟩ := pwl_mem.mp (List.mem_of_getElem? hk)
  exact h j hj e he
theorem pwl_apart {g : wG} (hi : ∀ i j, i < 143 → j < 143 → gA g i = gA g j → i = j) (f : Nat → Option va_E) : (pwl g f).Pairwise (fun p q => p.1 ≠ q.1) := by
  unfold pwl
  rw [List.pairwise_filterMap]
  have h1 : (List.range 143).Pairwise (fun i j => i < 143 ∧ j < 143 ∧ i ≠ j) := by
    rw [List.pairwise_iff_forall_sublist]
    intro a b hs
    have h2 : [a, b].Nodup := List.nodup_range.sublist hs
    exact ⟨List.mem_range.mp (hs.subset (by simp)), List.mem_range.mp (hs.subset (by simp)), by simpa using h2⟩
  refine h1.imp ?_
  intro i j hij p hp q hq e
  cases hfi : f i with
  | none => rw [hfi] at hp; cases hp
  | some ei =>
    cases hfj : f j with
    | none => rw [hfj] at hq; cases hq
    | some ej =>
      rw [hfi] at hp
      rw [hfj] at hq
      have e1 := Option.some.inj hp
      have e2 := Option.some.inj hq
      rw [← e1, ← e2] at e
      exact hij.2.2 (hi i j hij.1 hij.2.1 e)
theorem PW.D {g : wG} (hi : ∀ i j, i < 143 → j < 143 → gA g i = gA g j → i = j) (f : Nat → Option va_E) : va_D (AA g) (pwl g f) := by
  refine ⟨fun i j p q h1 h2 e => ?_, fun k q hk => ?_⟩
  · have hp := List.pairwise_iff_getElem.mp (pwl_apart hi f)
    obtain ⟨l1, e1⟩ := List.getElem?_eq_some_iff.mp h1
    obtain ⟨l2, e2⟩ := List.getElem?_eq_some_iff.mp h2
    by_cases hlt : i < j
    · exact absurd (by rw [e1, e2]; exact e) (hp i j l1 l2 hlt)
    · by_cases hgt : j < i
      · exact absurd (by rw [e1, e2]; exact e.symm) (hp j i l2 l1 hgt)
      · omega
  · obtain ⟨j, hj, e, -, rfl⟩ := pwl_mem.mp (List.mem_of_getElem? hk)
    exact Or.inl ⟨j, hj, rfl⟩
theorem PW.at {g : wG} {f : Nat → Option va_E} {j : Nat} {e : va_E} (hj : j < 143) (hf : f j = some e) : ∃ q0 : Nat, (pwl g f)[q0]? = some (gA g j, e) :=
  List.mem_iff_getElem?.mp (pwl_mem.mpr ⟨j, hj, e, hf, rfl⟩)
theorem PW.grow {g : wG} {f : Nat → Option va_E} {H H1 : Heap} (h : PW g f H) (hk : ∀ q : Nat, q < H.size → H1[q]? = H[q]?) : PW g f H1 := by
  intro j hj e he
  exact (h j hj e he).kept (hk _ (h j hj e he).lt)
theorem PW.set {g : wG} {f : Nat → Option va_E} {H1 : Heap} {q0 j : Nat} {e e' : va_E} (hi : ∀ i j, i < 143 → j < 143 → gA g i = gA g j → i = j) (hj : j < 143) (hq : (pwl g f)[q0]? = some (gA g j, e)) (hP : va_P g.1 vwCl ((pwl g f).set q0 (gA g j, e')) H1) : PW g (fun i => if i = j then some e' else f i) H1 := by
  have hl := (List.getElem?_eq_some_iff.mp hq).1
  intro i hi9 e9 he
  by_cases hij : i = j
  · simp only [if_pos hij] at he
    cases he
    rw [hij]
    exact hP q0 _ (by rw [List.getElem?_set_self hl])
  · simp only [if_neg hij] at he
    obtain ⟨k, hk⟩ := PW.at (g := g) hi9 he
    have hne : q0 ≠ k := by
      intro z
      rw [← z, hq] at hk
      exact hij (hi j i hj hi9 (congrArg Prod.fst (Option.some.inj hk))).symm
    exact hP k _ (by rw [List.getElem?_set_ne hne]; exact hk)
