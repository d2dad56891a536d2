/-! rows of a world that is being made -/
section PR
variable {p : Program} {l : Launch} {e : Env} {R : Room} {s : State} {m : MethodId} {args : Array Value} {below : List Frame} {meth : Method} {c : Code} {H : Heap} {locs : List Loc} {cells slots : Nat} {Q : State → Prop}
variable {cc : ByteArray} {own : String} {g : wG} {f : Nat → Option va_E} {z : Nat} {pc : Nat} {ls : Array Slot} {rest : List Value}
theorem p_get (hc : CX p c cc s args m own) (hk : WK g s s.heap) (hp : PS g s f z H locs) {j : Nat} (hj : j < 143) {C : String} {T : u_T} {N ci index : Nat} {fs : List Value} (he : f j = some (.inr (ci, fs))) (hcl : vwCl[ci]? = some (C, T, N)) (hin : ∀ w ∈ u_ws C T N, w ∈ W0) (k : Nat) (hkN : k < N) (hl : Cond.fieldLink own index (T k).1 (T k).2.1 (T k).2.2.1 ∈ W0) {v : Value} (hv : fs[k]? = some v) (hdg : decode cc pc = .ok (.getfield index, 3))
    (kk : W p l e R s m args below meth c H locs cells slots Q (F0 m (pc + 3) ls (v :: rest))) : W p l e R s m args below meth c H locs cells slots Q (F0 m pc ls (.ref (gA g j) :: rest)) := by
  obtain ⟨q0, hq⟩ := PW.at (g := g) hj he
  exact va_get hc.1 hc.2.1 hc.2.2.2 hin hc.2.2.1 hk.1 hp.1.P q0 hq hcl k hkN (hc.2.2.2 _ hl) (fun _ h => h) hv hdg kk
theorem p_iast (hc : CX p c cc s args m own) (hk : WK g s s.heap) (hp : PS g s f z H locs) {j N : Nat} (hj : j < 143) {h : Nat → Int32} (he : f j = some (.inl (g.2.1 0, N, .inl h))) {i v : Int32} {n : Nat} (hin : vp_in i N) (hi : i.toNatClampNeg = n) (hdg : decode cc pc = .ok (.iastore, 1))
    (kk : ∀ (H1 : Heap) (locs1 : List Loc), PS g s (pup f j (.inl (g.2.1 0, N, .inl (upd h n v)))) z H1 locs1 → W p l e R s m args below meth c H1 locs1 cells slots Q (F0 m (pc + 1) ls rest)) : W p l e R s m args below meth c H locs cells slots Q (F0 m pc ls (.int v :: .int i :: .ref (gA g j) :: rest)) := by
  refine W.iast hc.1 hc.2.1 (hp.1 j hj _ he) ((hk.1.2 0 _ rfl).1 N (fun j => .int (h j))) (fun q => by cases q) (by show ¬ (i < 0 ∨ (arrV _ _ _).slots.size ≤ _); rw [arrV_size]; exact hin) rfl rfl hdg fun H1 e1 z1 o1 => ?_
  rw [hi] at e1 ⊢
  refine kk H1 _ (hp.wr hk hj z1 o1 ?_)
  show H1[gA g j]? = some (vp_cell _ _)
  rw [e1]
  rw [vp_cell_i, vp_cell_i, arrV_store]
  congr 2
  funext q
  by_cases hq : q = n <;> simp [updV, upd, hq]
theorem p_aast (hc : CX p c cc s args m own) (hk : WK g s s.heap) (hp : PS g s f z H locs) {j jv N t0 ci : Nat} (hj : j < 143) (hjv : jv < 143) {r : vw_C} {h : Nat → Option Nat} {vs : List Value} (he : f j = some (.inl (g.2.1 t0, N, .inr (.inr (.inr (.inr h)))))) (ht : (tysG g)[t0]? = some (g.2.1 t0, .object r.1)) (hv : f jv = some (.inr (ci, vs))) (hcl : vwCl[ci]? = some r) {i : Int32} {n : Nat} (hin : vp_in i N) (hi : i.toNatClampNeg = n) (hdg : decode cc pc = .ok (.aastore, 1))
    (kk : ∀ (H1 : Heap) (locs1 : List Loc), PS g s (pup f j (.inl (g.2.1 t0, N, .inr (.inr (.inr (.inr (va_up h n (some (gA g jv)))))))) ) z H1 locs1 → W p l e R s m args below meth c H1 locs1 cells slots Q (F0 m (pc + 1) ls rest)) : W p l e R s m args below meth c H locs cells slots Q (F0 m pc ls (.ref (gA g jv) :: .int i :: .ref (gA g j) :: rest)) := by
  have hlt : i.toNatClampNeg < N := Nat.not_le.mp fun q => hin (Or.inr q)
  have h0 : ¬ i < 0 := fun q => hin (Or.inl q)
  obtain ⟨r', hr', cellV, g1, g2, g3, -⟩ := hp.1 jv hjv _ hv
  have hcls := (hk.1.1 ci r hcl).2
  obtain ⟨kA, comp, k1, k2, k3, -⟩ := (hk.1.2 t0 _ ht).2
  have hcomp : comp = g.1.1 ci := Option.some.inj (k3.symm.trans hcls.1)
  subst hcomp
  obtain ⟨kC, hkC, -⟩ := hcls.2
  refine W.aast hc.1 hc.2.1 (hp.1 j hj _ he) (fun q h => by cases h) (fun h => by cases h) k1 k2 rfl hkC ⟨h0, by show _ < (arrV _ _ _).slots.size; rw [arrV_size]; exact hlt⟩ g1 (fun q h => by rw [g3] at h; cases h) (by rw [g2]; exact hkC) (by rw [g2]; exact va_assign hcls) rfl rfl hdg fun H1 e1 z1 o1 => ?_
  rw [hi] at e1 ⊢
  refine kk H1 _ (hp.wr hk hj z1 o1 ?_)
  show H1[gA g j]? = some (vp_cell _ _)
  rw [e1]
  rw [vp_cell_q, vp_cell_q, arrV_store]
  congr 2
  funext q
  by_cases hq : q = n
  · rw [hq]
    simp [updV, va_up, va_rf]
  · simp [updV, va_up, hq]
end PR
