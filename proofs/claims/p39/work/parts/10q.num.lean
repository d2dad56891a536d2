/-! contracts that answer a float or a double -/
abbrev mF (l : Launch) (y : MethodName) (cy : ByteArray) (ny : Nat) (ry : Option FieldType) (rm : Room) (mc ms : Nat) (g : wG) (x : wSt) (av : List Value) (r : UInt32) (x' : wSt) : Prop :=
  Met l y (ws_ y cy ny ry) rm (va_Pc av (pre_ g x)) (va_Qf (fun (v : UInt32) (u : wSt) => v = r ∧ u = x') (PB g) (AA g)) mc ms (AA g)
abbrev xF (l : Launch) (y : MethodName) (cy : ByteArray) (ny : Nat) (ry : Option FieldType) (rm : Room) (mc ms : Nat) (g : wG) (x : wSt) (av : List Value) (o : Option String) (r : UInt32) (x' : wSt) : Prop :=
  vx_Met l y (ws_ y cy ny ry) rm (va_Pc av (pre_ g x)) (va_Qf (fun (v : UInt32) (u : wSt) => o = none ∧ v = r ∧ u = x') (PB g) (AA g)) (XX g x o) mc ms (AA g)
abbrev mD (l : Launch) (y : MethodName) (cy : ByteArray) (ny : Nat) (ry : Option FieldType) (rm : Room) (mc ms : Nat) (g : wG) (x : wSt) (av : List Value) (r : UInt64) (x' : wSt) : Prop :=
  Met l y (ws_ y cy ny ry) rm (va_Pc av (pre_ g x)) (va_Qd (fun (v : UInt64) (u : wSt) => v = r ∧ u = x') (PB g) (AA g)) mc ms (AA g)
abbrev xD (l : Launch) (y : MethodName) (cy : ByteArray) (ny : Nat) (ry : Option FieldType) (rm : Room) (mc ms : Nat) (g : wG) (x : wSt) (av : List Value) (o : Option String) (r : UInt64) (x' : wSt) : Prop :=
  vx_Met l y (ws_ y cy ny ry) rm (va_Pc av (pre_ g x)) (va_Qd (fun (v : UInt64) (u : wSt) => o = none ∧ v = r ∧ u = x') (PB g) (AA g)) (XX g x o) mc ms (AA g)
section NC
variable {p : Program} {l : Launch} {e : Env} {R : Room} {s : State} {m : MethodId} {args : Array Value} {below : List Frame} {meth : Method} {c : Code} {H : Heap} {locs : List Loc} {cells slots : Nat} {Q : State → Prop}
variable {cc : ByteArray} {own : String} {g : wG} {x x' : wSt} {pc nL : Nat} {ls : Array Slot} {rest st0 : List Value} {lv : List (Nat × Value)}
variable {y : MethodName} {cy : ByteArray} {ny n index mc ms : Nat} {ry : Option FieldType} {rm : Room} {As : List Value} {b : Nat} {Pc : Array Value → State → Prop} {Qc : Array Value → State → Outcome → State → Prop} {free : Addr → Prop}
theorem kc_f {a : Array Value} {r : UInt32} (hw : WS g s x H locs) (hr : va_Run p l e R s m args below meth c H locs cells slots mc ms (F0 m pc ls st0) rest (va_Qf (fun (v : UInt32) (u : wSt) => v = r ∧ u = x') (PB g) (AA g) a) (AA g)) (kk : ∀ (H1 : Heap) (locs1 : List Loc), WS g s x' H1 locs1 → W p l e R s m args below meth c H1 locs1 (cells + mc) (slots + ms) Q (F0 m (pc + 3) ls (.float r :: rest))) : W p l e R s m args below meth c H locs cells slots Q (F0 m pc ls st0) :=
  va_callf hr hw.2 (fun _ _ h => h) (fun _ h => h) (fun v u t H1 locs1 ht _ hp hB _ _ hS => by
    obtain ⟨rfl, rfl⟩ := hp
    exact kk H1 locs1 ⟨by have h : va_P _ _ _ t.heap := hB; rw [ht] at h; exact h, hS⟩)
theorem kc_d {a : Array Value} {r : UInt64} (hw : WS g s x H locs) (hr : va_Run p l e R s m args below meth c H locs cells slots mc ms (F0 m pc ls st0) rest (va_Qd (fun (v : UInt64) (u : wSt) => v = r ∧ u = x') (PB g) (AA g) a) (AA g)) (kk : ∀ (H1 : Heap) (locs1 : List Loc), WS g s x' H1 locs1 → W p l e R s m args below meth c H1 locs1 (cells + mc) (slots + ms) Q (F0 m (pc + 3) ls (.double r :: rest))) : W p l e R s m args below meth c H locs cells slots Q (F0 m pc ls st0) :=
  va_calld hr hw.2 (fun _ _ h => h) (fun _ h => h) (fun v u t H1 locs1 ht _ hp hB _ _ hS => by
    obtain ⟨rfl, rfl⟩ := hp
    exact kk H1 locs1 ⟨by have h : va_P _ _ _ t.heap := hB; rw [ht] at h; exact h, hS⟩)
end NC
section NX
variable {p : Program} {l : Launch} {e : Env} {R : Room} {s : State} {m : MethodId} {args : Array Value} {below : List Frame} {meth : Method} {c : Code} {H : Heap} {locs : List Loc} {cells slots : Nat} {Q : State → Prop}
variable {cc : ByteArray} {own : String} {g : wG} {x x' : wSt} {pc nL : Nat} {ls : Array Slot} {rest st0 : List Value} {lv : List (Nat × Value)}
variable {mc ms : Nat} {o : Option String}
theorem kx_f {a : Array Value} {r : UInt32} (hw : WS g s x H locs) (hr : vx_Run p l e R s m args below meth c H locs cells slots mc ms (F0 m pc ls st0) rest (va_Qf (fun (v : UInt32) (u : wSt) => o = none ∧ v = r ∧ u = x') (PB g) (AA g) a) (XX g x o) (AA g))
    (kx : ∀ (E : String) (ce : Cell) (q8 : Addr) (H1 : Heap) (locs1 : List Loc), o = some E → WS g s x H1 locs1 → H1[q8]? = some ce → ce.vm = .none → s.vm.findClass E = some ce.cls → vx_W p l e R s m args below meth c H1 locs1 (cells + mc) (slots + ms) Q (F0 m pc ls rest) q8)
    (kk : ∀ (H1 : Heap) (locs1 : List Loc), o = none → WS g s x' H1 locs1 → W p l e R s m args below meth c H1 locs1 (cells + mc) (slots + ms) Q (F0 m (pc + 3) ls (.float r :: rest))) : W p l e R s m args below meth c H locs cells slots Q (F0 m pc ls st0) :=
  vx_callf hr hw.2 (fun _ _ h => h) (fun _ h => h) (fun _ _ h => h) (fun E ce q8 u t H1 locs1 ht _ hp hB _ _ hS hq hv hE => by
      subst hp
      exact kx E ce q8 H1 locs1 hB.1 ⟨by have h : va_P _ _ _ t.heap := hB.2; rw [ht] at h; exact h, hS⟩ hq hv hE) (fun v u t H1 locs1 ht _ hp hB _ _ hS => by
    obtain ⟨ho, rfl, rfl⟩ := hp
    exact kk H1 locs1 ho ⟨by have h : va_P _ _ _ t.heap := hB; rw [ht] at h; exact h, hS⟩)
theorem kx_d {a : Array Value} {r : UInt64} (hw : WS g s x H locs) (hr : vx_Run p l e R s m args below meth c H locs cells slots mc ms (F0 m pc ls st0) rest (va_Qd (fun (v : UInt64) (u : wSt) => o = none ∧ v = r ∧ u = x') (PB g) (AA g) a) (XX g x o) (AA g))
    (kx : ∀ (E : String) (ce : Cell) (q8 : Addr) (H1 : Heap) (locs1 : List Loc), o = some E → WS g s x H1 locs1 → H1[q8]? = some ce → ce.vm = .none → s.vm.findClass E = some ce.cls → vx_W p l e R s m args below meth c H1 locs1 (cells + mc) (slots + ms) Q (F0 m pc ls rest) q8)
    (kk : ∀ (H1 : Heap) (locs1 : List Loc), o = none → WS g s x' H1 locs1 → W p l e R s m args below meth c H1 locs1 (cells + mc) (slots + ms) Q (F0 m (pc + 3) ls (.double r :: rest))) : W p l e R s m args below meth c H locs cells slots Q (F0 m pc ls st0) :=
  vx_calld hr hw.2 (fun _ _ h => h) (fun _ h => h) (fun _ _ h => h) (fun E ce q8 u t H1 locs1 ht _ hp hB _ _ hS hq hv hE => by
      subst hp
      exact kx E ce q8 H1 locs1 hB.1 ⟨by have h : va_P _ _ _ t.heap := hB.2; rw [ht] at h; exact h, hS⟩ hq hv hE) (fun v u t H1 locs1 ht _ hp hB _ _ hS => by
    obtain ⟨ho, rfl, rfl⟩ := hp
    exact kk H1 locs1 ho ⟨by have h : va_P _ _ _ t.heap := hB; rw [ht] at h; exact h, hS⟩)
end NX
section NE
variable {g : wG} {s t : State} {x x' : wSt} {H : Heap} {locs : List Loc} {a : Array Value}
theorem ke_f {r v : UInt32} (hw : WS g s x H locs) (ht : t.heap = H) (e1 : v = r) (e2 : x = x') : va_Qf (fun (v : UInt32) (u : wSt) => v = r ∧ u = x') (PB g) (AA g) a s (.returned (some (.float v))) t :=
  ⟨⟨v, x, rfl, ⟨e1, e2⟩, by show va_P _ _ _ t.heap; rw [ht]; exact hw.1⟩, hw.2.F ht⟩
theorem ke_d {r v : UInt64} (hw : WS g s x H locs) (ht : t.heap = H) (e1 : v = r) (e2 : x = x') : va_Qd (fun (v : UInt64) (u : wSt) => v = r ∧ u = x') (PB g) (AA g) a s (.returned (some (.double v))) t :=
  ⟨⟨v, x, rfl, ⟨e1, e2⟩, by show va_P _ _ _ t.heap; rw [ht]; exact hw.1⟩, hw.2.F ht⟩
end NE
section NZ2
variable {g : wG} {s t : State} {x x' : wSt} {H : Heap} {locs : List Loc} {a : Array Value} {o : Option String}
theorem kz_f {r v : UInt32} (hw : WS g s x H locs) (ht : t.heap = H) (e0 : o = none) (e1 : v = r) (e2 : x = x') : va_Qf (fun (v : UInt32) (u : wSt) => o = none ∧ v = r ∧ u = x') (PB g) (AA g) a s (.returned (some (.float v))) t :=
  ⟨⟨v, x, rfl, ⟨e0, e1, e2⟩, by show va_P _ _ _ t.heap; rw [ht]; exact hw.1⟩, hw.2.F ht⟩
theorem kz_d {r v : UInt64} (hw : WS g s x H locs) (ht : t.heap = H) (e0 : o = none) (e1 : v = r) (e2 : x = x') : va_Qd (fun (v : UInt64) (u : wSt) => o = none ∧ v = r ∧ u = x') (PB g) (AA g) a s (.returned (some (.double v))) t :=
  ⟨⟨v, x, rfl, ⟨e0, e1, e2⟩, by show va_P _ _ _ t.heap; rw [ht]; exact hw.1⟩, hw.2.F ht⟩
end NZ2
