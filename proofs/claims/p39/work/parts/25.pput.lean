/-! writing into cells of a world that is being made: the heap's size stays -/
section PQ
variable {p : Program} {l : Launch} {e : Env} {R : Room} {s : State} {m : MethodId} {args : Array Value} {below : List Frame} {meth : Method} {c : Code} {H : Heap} {locs : List Loc} {cells slots : Nat} {Q : State → Prop}
variable {cc : ByteArray} {own : String} {g : wG} {f : Nat → Option va_E} {z : Nat} {pc : Nat} {ls : Array Slot} {rest : List Value}
theorem PS.wr (hk : WK g s s.heap) (hp : PS g s f z H locs) {j k : Nat} (hj : j < 143) {e9 : va_E} {H1 : Heap} (hz : H1.size = H.size) (ho : ∀ q : Nat, q ≠ gA g j → H1[q]? = H[q]?) (he : va_at g.1 vwCl (gA g j, e9) H1) : PS g s (pup f j e9) z H1 (locs ++ [⟨gA g j, k⟩]) := by
  refine ⟨?_, hp.2.1.put hz ho (Or.inl ⟨j, hj, rfl⟩), hz.trans hp.2.2⟩
  intro i hi e8 h8
  unfold pup at h8
  by_cases hij : i = j
  · rw [if_pos hij] at h8
    cases h8
    rw [hij]; exact he
  · rw [if_neg hij] at h8
    exact (hp.1 i hi e8 h8).kept (ho _ (fun w => hij (hk.2.2.1 i j hi hj w)))
theorem p_putF (hc : CX p c cc s args m own) (hk : WK g s s.heap) (hp : PS g s f z H locs) {j : Nat} (hj : j < 143) {C : String} {T : u_T} {N ci index : Nat} {fs : List Value} (he : f j = some (.inr (ci, fs))) (hcl : vwCl[ci]? = some (C, T, N)) (hin : ∀ w ∈ u_ws C T N, w ∈ W0) (ty0 : Nat → FieldType) (hty : ∀ k, k < N → parseFieldDescriptor (T k).2.2.1 = some (ty0 k)) (hnm : ∀ a, a < N → ∀ b, b < N → a ≠ b → (T a).2.1 ≠ (T b).2.1)
    (k : Nat) (hkN : k < N) (hl : Cond.fieldLink own index (T k).1 (T k).2.1 (T k).2.2.1 ∈ W0) (hfin : (T k).2.2.2 = true) (hin2 : meth.name = "<init>") (hdecl : (T k).1 = own) {v : Value} (hn : narrow (ty0 k) v = v) (hfit : fits (ty0 k) v = true) (hlen : k < fs.length) (hdg : decode cc pc = .ok (.putfield index, 3))
    (kk : ∀ (H1 : Heap) (locs1 : List Loc), PS g s (pup f j (.inr (ci, fs.set k v))) z H1 locs1 → W p l e R s m args below meth c H1 locs1 cells slots Q (F0 m (pc + 3) ls rest)) : W p l e R s m args below meth c H locs cells slots Q (F0 m pc ls (v :: .ref (gA g j) :: rest)) := by
  have hap := va_apart (own := own) hc.2.2.2 hin ty0 hty hnm hk.1 hcl
  obtain ⟨r, h1, cell, q1, q2, q3, q4⟩ := hp.1 j hj _ he
  have hr : r = (C, T, N) := Option.some.inj (h1.symm.trans hcl)
  subst hr
  obtain ⟨hS, hfc, kC, hkC, hkind⟩ := hk.1.1 ci _ hcl
  obtain ⟨cf, kf, fi, f9, hi, hsl⟩ := hS k hkN
  have hlay := hc.2.2.2 _ (hin _ (u_in_lay hkN))
  unfold u_lay at hlay
  rw [if_pos hfin] at hlay
  have hst := (u_facts hfc hkC (u_lays hc.2.2.2 hin hkN) hi).1
  have hcf : m.cls = cf := by
    obtain ⟨_, _, c', _, _, _, -, -, hf', -, -, -, hown2, -⟩ := Cond.laysFinal_spec hlay
    have e1 : c' = cf := by have := hi.symm.trans hf'; simp at this; exact this.1.symm
    rw [hdecl] at hown2
    rw [← e1]; exact Option.some.inj (hc.2.2.1.symm.trans hown2)
  have h6 := u_fits hfc hkC hkind (Or.inr hlay) hi (hty k hkN) hn hfit
  refine W.putFinK hc.1 hc.2.1 hc.2.2.1 (hc.2.2.2 _ hl) hi hst hcf hin2 (by rw [q2]; exact h6) q1 q3 (by rw [hsl]; exact k2_hasslot (q4 k hkN)) rfl rfl hdg fun H' e1 e2 e3 => ?_
  rw [hsl] at e1 ⊢
  exact kk H' _ (hp.wr hk hj e2 e3 ⟨_, hcl, t_OB.to (V := updV (vp_V fs) k v) ⟨_, e1, q2, q3, t_set q4 hap hkN v⟩ (fun j _ => vp_updV_set hlen v j)⟩)
theorem p_anew (hc : CX p c cc s args m own) (hk : WK g s s.heap) (hp : PS g s f z H locs) {j : Nat} (hz : gA g j = z) {C : String} {index t0 : Nat} (hl : Cond.classLink own index C ∈ W0) (hover : (Cond.arrayOver (.object C)).before args s = true) (ht : (tysG g)[t0]? = some (g.2.1 t0, .object C))
    {n : Int32} {N : Nat} (hn : ¬ n < 0) (hN : n.toNatClampNeg = N) (hbytes : N * 4 ≤ 536870912) (hcells : cells + 1 ≤ R.cells) (hslots : slots + N ≤ R.slots) (hdg : decode cc pc = .ok (.anewarray index, 3))
    (kk : ∀ (H1 : Heap), PS g s (pup f j (.inl (g.2.1 t0, N, .inr (.inr (.inr (.inr (fun _ => none))))))) (z + 1) H1 locs → W p l e R s m args below meth c H1 locs (cells + 1) (slots + N) Q (F0 m (pc + 3) ls (.ref (gA g j) :: rest))) : W p l e R s m args below meth c H locs cells slots Q (F0 m pc ls (.int n :: rest)) := by
  subst hN
  obtain ⟨kA9, comp9, g1, g2, g3, g4⟩ := (hk.1.2 t0 _ ht).2
  refine W.anew hc.1 hc.2.1 hc.2.2.1 (hc.2.2.2 _ hl) hover rfl hdg rfl hn hbytes hcells hslots fun cA kA comp f1 f2 f3 f4 => ?_
  generalize hH1 : H.push ({ cls := cA, slots := Array.replicate n.toNatClampNeg .null, vm := .none } : Cell) = H1
  have z1 : H1.size = H.size + 1 := by rw [← hH1, Array.size_push]
  have e1 : H1[H.size]? = some (arrV cA n.toNatClampNeg (fun _ => .null)) := by rw [← hH1, Array.getElem?_push_size, ← arrV_new]
  have o1 : ∀ q : Nat, q < H.size → H1[q]? = H[q]? := fun q hq => by rw [← hH1, Array.getElem?_push, if_neg (Nat.ne_of_lt hq)]
  have hcA : cA = g.2.1 t0 := Option.some.inj (f1.symm.trans g4)
  have hz' : gA g j = H.size := hz.trans hp.2.2.symm
  rw [← hz']
  refine kk H1 ⟨hp.1.push o1 ?_, ⟨Nat.le_trans hp.2.1.1 (by omega), fun x h1 h2 => (o1 x (Nat.lt_of_lt_of_le h1 hp.2.1.1)).trans (hp.2.1.2.1 x h1 h2), hp.2.1.2.2⟩, by rw [z1, hp.2.2]⟩
  rw [hz', ← hcA]
  show H1[H.size]? = some (vp_cell _ _)
  rw [e1, vp_cell_q]
  rfl
end PQ
