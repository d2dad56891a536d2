/-! making cells, one behind the other -/
def PS (g : wG) (s : State) (f : Nat → Option va_E) (n : Nat) (H : Heap) (locs : List Loc) : Prop := PW g f H ∧ va_S (AA g) s.heap H locs ∧ H.size = n
def pup (f : Nat → Option va_E) (j : Nat) (e : va_E) : Nat → Option va_E := fun i => if i = j then some e else f i
section PN
variable {p : Program} {l : Launch} {e : Env} {R : Room} {s : State} {m : MethodId} {args : Array Value} {below : List Frame} {meth : Method} {c : Code} {H : Heap} {locs : List Loc} {cells slots : Nat} {Q : State → Prop}
variable {cc : ByteArray} {own : String} {g : wG} {f : Nat → Option va_E} {z : Nat} {pc : Nat} {ls : Array Slot} {rest : List Value}
theorem PW.push {H1 : Heap} {j : Nat} {e9 : va_E} (h : PW g f H) (hq : ∀ q : Nat, q < H.size → H1[q]? = H[q]?) (he : va_at g.1 vwCl (gA g j, e9) H1) : PW g (pup f j e9) H1 := by
  intro i hi e8 h8
  unfold pup at h8
  by_cases hij : i = j
  · rw [if_pos hij] at h8
    cases h8
    rw [hij]; exact he
  · rw [if_neg hij] at h8
    exact h.grow hq i hi e8 h8
theorem p_new (hc : CX p c cc s args m own) (hk : WK g s s.heap) (hp : PS g s f z H locs) {j : Nat} (hz : gA g j = z) {C : String} {T : u_T} {N ci index : Nat} (hcl : vwCl[ci]? = some (C, T, N)) (hin : ∀ w ∈ u_ws C T N, w ∈ W0) (ty0 : Nat → FieldType) (hty : ∀ k, k < N → parseFieldDescriptor (T k).2.2.1 = some (ty0 k))
    (hl : Cond.classLink own index C ∈ W0) (hinst : Cond.instantiable C N ∈ W0) (hini : Cond.initialized C ∈ W0) {fs : List Value} (hfs : ∀ k, k < N → defaultValue (ty0 k) = vp_V fs k) (hcells : cells + 1 ≤ R.cells) (hslots : slots + N ≤ R.slots) (hdg : decode cc pc = .ok (.new index, 3))
    (kk : ∀ (H1 : Heap), PS g s (pup f j (.inr (ci, fs))) (z + 1) H1 locs → W p l e R s m args below meth c H1 locs (cells + 1) (slots + N) Q (F0 m (pc + 3) ls (.ref (gA g j) :: rest))) : W p l e R s m args below meth c H locs cells slots Q (F0 m pc ls rest) := by
  have hKn := hk.1.1 ci _ hcl
  refine W.newcK hc.1 hc.2.1 hc.2.2.1 (hc.2.2.2 _ hl) (hc.2.2.2 _ hinst) (hc.2.2.2 _ hini) rfl hdg hcells hslots hKn.2.1 rfl fun H1 kC hkC e1 z1 o1 => ?_
  have hz' : gA g j = H.size := hz.trans hp.2.2.symm
  rw [← hz']
  refine kk H1 ⟨hp.1.push o1 ?_, ⟨Nat.le_trans hp.2.1.1 (by omega), fun x h1 h2 => (o1 x (Nat.lt_of_lt_of_le h1 hp.2.1.1)).trans (hp.2.1.2.1 x h1 h2), hp.2.1.2.2⟩, by rw [z1, hp.2.2]⟩
  rw [hz']
  exact ⟨_, hcl, (u_born ty0 hc.2.2.2 hin hKn hkC e1 hty).to hfs⟩
theorem p_newa (hc : CX p c cc s args m own) (hk : WK g s s.heap) (hp : PS g s f z H locs) {j : Nat} (hz : gA g j = z) {atype : ArrayType} (harr : Cond.arrayClass (newarray.typeOf atype) ∈ W0) {t0 : Nat} {ty : FieldType} (hty : newarray.typeOf atype = ty) (ht : (tysG g)[t0]? = some (g.2.1 t0, ty)) (hRA : ∀ cA : ClassId, va_RA s cA ty = (s.vm.findClass ("[" ++ ty.toString) = some cA))
    {n : Int32} {N : Nat} {a0 : vp_A} (ha : ∀ cA : ClassId, vp_cell cA a0 = arrV cA N (fun _ => defaultValue ty)) (hn : ¬ n < 0) (hN : n.toNatClampNeg = N) (hbytes : N * componentBytes ty ≤ 536870912) (hcells : cells + 1 ≤ R.cells) (hslots : slots + N ≤ R.slots) (hdg : decode cc pc = .ok (.newarray atype, 2))
    (kk : ∀ (H1 : Heap), PS g s (pup f j (.inl (g.2.1 t0, a0))) (z + 1) H1 locs → W p l e R s m args below meth c H1 locs (cells + 1) (slots + N) Q (F0 m (pc + 2) ls (.ref (gA g j) :: rest))) : W p l e R s m args below meth c H locs cells slots Q (F0 m pc ls (.int n :: rest)) := by
  subst hty
  have h9 := (hk.1.2 t0 _ ht).2
  rw [hRA] at h9
  refine va_newaK hc.1 hc.2.1 (hc.2.2.2 _ harr) rfl hdg rfl hn hN hbytes hcells hslots rfl fun H1 cA e1 z1 o1 hAr hNm => ?_
  have hcA : cA = g.2.1 t0 := Option.some.inj (hNm.symm.trans h9)
  have hz' : gA g j = H.size := hz.trans hp.2.2.symm
  rw [← hz']
  refine kk H1 ⟨hp.1.push o1 ?_, ⟨Nat.le_trans hp.2.1.1 (by omega), fun x h1 h2 => (o1 x (Nat.lt_of_lt_of_le h1 hp.2.1.1)).trans (hp.2.1.2.1 x h1 h2), hp.2.1.2.2⟩, by rw [z1, hp.2.2]⟩
  rw [hz', ← hcA]
  show H1[H.size]? = some (vp_cell _ _)
  rw [ha]
  exact e1
end PN
