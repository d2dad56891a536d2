/-! calling a constructor: the cells made so far go in, those with its own come out -/
section PC
variable {p : Program} {l : Launch} {e : Env} {R : Room} {s : State} {m : MethodId} {args : Array Value} {below : List Frame} {meth : Method} {c : Code} {H : Heap} {locs : List Loc} {cells slots : Nat} {Q : State → Prop}
variable {g : wG} {f f' : Nat → Option va_E} {z z' : Nat} {pc mc ms : Nat} {ls : Array Slot} {rest st0 As : List Value}
theorem prP_blind {av : List Value} : FrameBlind (va_Pc av (prP g f z)) := fun a U fr mk q => ⟨q.1, WK.same (u := U) (U := U.calling fr mk a) rfl q.2.1, q.2.2⟩
theorem kp_P (hk : WK g s s.heap) (hp : PS g s f z H locs) : PreS s H (va_Pc As (prP g f z)) As :=
  ⟨prP_blind, fun U hU hW => ⟨rfl, WK.at hk hp.2.1 hU hW, by rw [hU]; exact hp.1, by rw [hU]; exact hp.2.2⟩⟩
theorem pc_v {a : Array Value} (hp : PS g s f z H locs) (hr : va_Run p l e R s m args below meth c H locs cells slots mc ms (F0 m pc ls st0) rest (va_Qv (fun (_ : Unit) => True) (fun _ t => PW g f' t.heap ∧ t.heap.size = z') (AA g) a) (AA g))
    (kk : ∀ (H1 : Heap) (locs1 : List Loc), PS g s f' z' H1 locs1 → W p l e R s m args below meth c H1 locs1 (cells + mc) (slots + ms) Q (F0 m (pc + 3) ls rest)) : W p l e R s m args below meth c H locs cells slots Q (F0 m pc ls st0) :=
  va_callv hr hp.2.1 (fun _ _ h => h) (fun _ h => h) (fun u t H1 locs1 ht _ _ hB _ _ hS => by
    have h : PW g f' t.heap ∧ t.heap.size = z' := hB
    rw [ht] at h
    exact kk H1 locs1 ⟨h.1, hS, h.2⟩)
end PC
