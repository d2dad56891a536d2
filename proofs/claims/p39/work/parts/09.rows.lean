/-! what a walk carries: the tables (WK), the world (WS); each instruction that touches them as one row -/
def NW (s : State) : Prop := ∀ w ∈ NQ, va_Nw w s
theorem NW.same {u U : State} (hv : u.vm = U.vm) (h : NW u) : NW U := by
  intro w hw
  have hq := (List.mem_filter.mp hw).2
  refine va_Nw.same ?_ hv (h w hw)
  cases w <;> first | rfl | (simp [isNq] at hq)
theorem NW.warm {u U : State} (hW : u.WarmedH U.vm) (h : NW u) : NW U := by
  intro w hw
  have hq := (List.mem_filter.mp hw).2
  have h1 := h w hw
  cases w <;> first | exact va_Nw.warmF hW h1 | exact va_Nw.warmM hW h1 | exact va_Nw.warmD hW h1 | exact va_Nw.warmC hW h1 | (simp [isNq] at hq)
/-- the cells that a method may change -/
def AA (g : wG) : Nat → Prop := fun q => (∃ j, j < 143 ∧ q = gA g j) ∨ g.2.2.2 ≤ q
/-- the two texts that are looked into: ALL_STATES, CLOSED_STATES -/
def lenJS : List Nat := [12, 6]
def bytJS : List (List Int32) := [[110, 102, 114, 97, 115, 100, 111, 108, 117, 104, 105, 119], [111, 108, 117, 104, 105, 119]]
def strL : List (String × Nat × String) := [(RX6, 259, "a number is out of range"), (RX6, 36, "there are 6 offices"), (RX6, 48, "the day would be above 9999"), (RX6, 263, "there is no such office"), (RX6, 57, "there are 20 complaints"), (RX6, 266, "there is no such complaint"), (RX6, 268, "it is neither new, nor lacks its first step"), (RX6, 82, "the first step was told"), (RX6, 99, "there is no such state"), (RX6, 270, "it is joined to another one or does not stand so"), (RX6, 127, "it is overdue or was extended"), (RX6, 132, "it is not overdue or was reminded of three times"), (RX6, 134, "it is not overdue behind three reminders"), (RX6, 146, "nothing is due"), (RX6, 149, "both are the same"), (RX6, 155, "it cannot be joined to that"), (RX6, 170, "it is not joined or there was a finding"), (RX6, 179, "there was no finding"), (RX6, 187, "there is no remedy"), (RX6, 192, "that was told of this remedy"), (RX6, 194, "nothing was told of this remedy"), (RX6, 202, "it is over its day"), (RX6, 204, "it is not over its day"), (RX6, 210, "it is joined to another one or is closed"), (RX6, 226, "no remedy was told"), (RX6, 235, "no complaint is closed")]
/-- pairs of which the first is no second -/
def ncL : List (String × String) := [("java/lang/IllegalStateException", "java/lang/IllegalArgumentException"), ("java/lang/IllegalArgumentException", "java/lang/IndexOutOfBoundsException"), ("java/lang/IllegalStateException", "java/lang/IndexOutOfBoundsException"), ("java/lang/UnsupportedOperationException", "java/lang/IndexOutOfBoundsException"), ("java/util/NoSuchElementException", "java/lang/IndexOutOfBoundsException"), ("java/lang/ArithmeticException", "java/lang/IndexOutOfBoundsException"), ("java/lang/UnsupportedOperationException", "java/lang/IllegalArgumentException"), ("java/lang/UnsupportedOperationException", "java/lang/IllegalStateException"), ("java/util/NoSuchElementException", "java/lang/IllegalArgumentException"), ("java/util/NoSuchElementException", "java/lang/IllegalStateException"), ("java/util/NoSuchElementException", "java/lang/UnsupportedOperationException")]
/-- what lies outside the world and stays: the throwables' statics, the texts -/
def WT (g : wG) (s : State) (H : Heap) : Prop :=
  vx_Zq Bundle.tN "UNASSIGNED_STACK" Bundle.steD (AA g) s H ∧ vx_Zq Bundle.tN "SUPPRESSED_SENTINEL" Bundle.listD (AA g) s H ∧
  (∀ q ∈ strL, ∃ a, vk_R q.1 q.2.1 q.2.2 a s) ∧ (∀ q ∈ ncL, va_Nc q.1 q.2 s) ∧ va_Z "java/lang/String" "COMPACT_STRINGS" "Z" (.int 1) (AA g) s H ∧
  ∃ adK adV : Nat → Nat, vk_S 2 lenJS bytJS adK adV (AA g) s H ∧ vk_R RX6 89 "nfrasdoluhiw" (adK 0) s ∧ vk_R RX6 272 "oluhiw" (adK 1) s ∧ vk_R RX1 75 "oluhiw" (adK 1) s
def WK (g : wG) (s : State) (H : Heap) : Prop := va_K g.1 vwCl (tysG g) s ∧ NW s ∧ (∀ i j, i < 143 → j < 143 → gA g i = gA g j → i = j) ∧ g.2.2.2 ≤ H.size ∧ WT g s H
def PB (g : wG) (u : wSt) (t : State) : Prop := va_P g.1 vwCl (wl g u) t.heap
def WS (g : wG) (s : State) (x : wSt) (H : Heap) (locs : List Loc) : Prop := va_P g.1 vwCl (wl g x) H ∧ va_S (AA g) s.heap H locs
def pre_ (g : wG) (x : wSt) (U : State) : Prop := WK g U U.heap ∧ PB g x U
theorem WT.moved {g : wG} {u U : State} {H H1 : Heap} (hvm : u.vm.Alike U.vm) (hR : ∀ o k t a, vk_R o k t a u → vk_R o k t a U) (hq : ∀ a : Nat, a < H.size → ¬ AA g a → H1[a]? = H[a]?) (h : WT g u H) : WT g U H1 := by
  obtain ⟨h1, h2, h3, h4, h5, adK, adV, h6, h7, h8, h9⟩ := h
  exact ⟨(h1.moved hvm).kept hq, (h2.moved hvm).kept hq, fun q hq => (h3 q hq).imp fun a ha => hR _ _ _ _ ha, fun q hq => (h4 q hq).moved hvm, (h5.moved hvm).kept hq, adK, adV, (h6.moved hvm).kept hq, hR _ _ _ _ h7, hR _ _ _ _ h8, hR _ _ _ _ h9⟩
theorem WK.same {g : wG} {u U : State} {H : Heap} (hv : U.vm = u.vm) (h : WK g u H) : WK g U H := by
  have hal : u.vm.Alike U.vm := by rw [hv]; exact Vm.Alike.refl _
  exact ⟨va_K.moved hal h.1, h.2.1.same hv.symm, h.2.2.1, h.2.2.2.1, h.2.2.2.2.moved hal (fun _ _ _ _ z => vk_R.same hv z) (fun _ _ _ => rfl)⟩
theorem WK.at {g : wG} {s U : State} {H : Heap} {locs : List Loc} (h : WK g s s.heap) (hS : va_S (AA g) s.heap H locs) (hU : U.heap = H) (hW : s.WarmedH U.vm) : WK g U U.heap := by
  refine ⟨va_K.moved hW.alike h.1, h.2.1.warm hW, h.2.2.1, ?_, h.2.2.2.2.moved hW.alike (fun _ _ _ _ z => vk_R.warm hW z) (fun a h1 h2 => ?_)⟩
  · rw [hU]; exact Nat.le_trans h.2.2.2.1 hS.1
  · rw [hU]; exact hS.2.1 a h1 h2
theorem pre_blind {g : wG} {x : wSt} {av : List Value} : FrameBlind (va_Pc av (pre_ g x)) := fun a U f mk q => ⟨q.1, WK.same (u := U) (U := U.calling f mk a) rfl q.2.1, q.2.2⟩
theorem WD {g : wG} (x : wSt) (hi : ∀ i j, i < 143 → j < 143 → gA g i = gA g j → i = j) : va_D (AA g) (wl g x) := by
  have key : ∀ (k : Nat) (q : Nat × va_E), (wl g x)[k]? = some q → k < 143 ∧ q.1 = gA g k := by
    intro k q h
    have hl : k < 143 := by have := (List.getElem?_eq_some_iff.mp h).1; rw [wl_len] at this; exact this
    rw [wl_get hl] at h
    cases h
    exact ⟨hl, rfl⟩
  refine ⟨fun i j p q h1 h2 e => ?_, fun k q h => ?_⟩
  · obtain ⟨a1, a2⟩ := key i p h1
    obtain ⟨b1, b2⟩ := key j q h2
    exact hi i j a1 b1 (by rw [← a2, ← b2, e])
  · obtain ⟨a1, a2⟩ := key k q h
    exact Or.inl ⟨k, a1, a2⟩
theorem WK.D {g : wG} {s : State} {H : Heap} (h : WK g s H) (x : wSt) : va_D (AA g) (wl g x) := WD x h.2.2.1
/-- what a method's own frame knows -/
def CX (p : Program) (c : Code) (cc : ByteArray) (s : State) (args : Array Value) (m : MethodId) (own : String) : Prop :=
  p.tables.exec = Jvm.exec ∧ c.code = cc ∧ s.vm.findClass own = some m.cls ∧ ∀ w ∈ W0, w.before args s = true
section KR
variable {p : Program} {l : Launch} {e : Env} {R : Room} {s : State} {m : MethodId} {args : Array Value} {below : List Frame} {meth : Method} {c : Code} {H : Heap} {locs : List Loc} {cells slots : Nat} {Q : State → Prop}
variable {cc : ByteArray} {own : String} {g : wG} {x x' : wSt} {pc : Nat} {ls : Array Slot} {rest : List Value}
theorem k_get (hc : CX p c cc s args m own) (hk : WK g s s.heap) (hw : WS g s x H locs) {C : String} {T : u_T} {N ci index q0 a : Nat} {fs : List Value} (he : (wl g x)[q0]? = some (a, .inr (ci, fs))) (hcl : vwCl[ci]? = some (C, T, N)) (hin : ∀ w ∈ u_ws C T N, w ∈ W0) (k : Nat) (hkN : k < N) (hl : Cond.fieldLink own index (T k).1 (T k).2.1 (T k).2.2.1 ∈ W0) {v : Value} (hv : fs[k]? = some v) (hdg : decode cc pc = .ok (.getfield index, 3))
    (kk : W p l e R s m args below meth c H locs cells slots Q (F0 m (pc + 3) ls (v :: rest))) : W p l e R s m args below meth c H locs cells slots Q (F0 m pc ls (.ref a :: rest)) :=
  va_get hc.1 hc.2.1 hc.2.2.2 hin hc.2.2.1 hk.1 hw.1 q0 he hcl k hkN (hc.2.2.2 _ hl) (fun _ h => h) hv hdg kk
theorem k_getN (hc : CX p c cc s args m own) (hk : WK g s s.heap) (hw : WS g s x H locs) {C host : String} {T : u_T} {N ci index q0 a : Nat} {fs : List Value} (he : (wl g x)[q0]? = some (a, .inr (ci, fs))) (hcl : vwCl[ci]? = some (C, T, N)) (hin : ∀ w ∈ u_ws C T N, w ∈ W0) (k : Nat) (hkN : k < N) (hl : Cond.fieldLinkNest own index (T k).1 (T k).2.1 (T k).2.2.1 host ∈ NQ) {v : Value} (hv : fs[k]? = some v) (hdg : decode cc pc = .ok (.getfield index, 3))
    (kk : W p l e R s m args below meth c H locs cells slots Q (F0 m (pc + 3) ls (v :: rest))) : W p l e R s m args below meth c H locs cells slots Q (F0 m pc ls (.ref a :: rest)) :=
  va_getN hc.1 hc.2.1 hc.2.2.2 hin hc.2.2.1 hk.1 hw.1 q0 he hcl k hkN (va_Nw.use rfl (hk.2.1 _ hl)) (fun _ h => h) hv hdg kk
theorem k_put (hc : CX p c cc s args m own) (hk : WK g s s.heap) (hw : WS g s x H locs) {C : String} {T : u_T} {N ci index q0 a : Nat} {fs : List Value} (he : (wl g x)[q0]? = some (a, .inr (ci, fs))) (hcl : vwCl[ci]? = some (C, T, N)) (hin : ∀ w ∈ u_ws C T N, w ∈ W0) (ty0 : Nat → FieldType) (hty : ∀ k, k < N → parseFieldDescriptor (T k).2.2.1 = some (ty0 k)) (hnm : ∀ a, a < N → ∀ b, b < N → a ≠ b → (T a).2.1 ≠ (T b).2.1) (k : Nat) (hkN : k < N) (hl : Cond.fieldLink own index (T k).1 (T k).2.1 (T k).2.2.1 ∈ W0) (hfin : (T k).2.2.2 = false) {v : Value} (hn : narrow (ty0 k) v = v) (hfit : fits (ty0 k) v = true) (hlen : k < fs.length) (hdg : decode cc pc = .ok (.putfield index, 3))
    (hset : (wl g x).set q0 (a, .inr (ci, fs.set k v)) = wl g x') (kk : ∀ (H1 : Heap) (locs1 : List Loc), WS g s x' H1 locs1 → W p l e R s m args below meth c H1 locs1 cells slots Q (F0 m (pc + 3) ls rest)) : W p l e R s m args below meth c H locs cells slots Q (F0 m pc ls (v :: .ref a :: rest)) :=
  va_put hc.1 hc.2.1 hc.2.2.2 hin ty0 hty hnm hc.2.2.1 hk.1 hw.1 (hk.D x) hw.2 q0 he hcl k hkN (hc.2.2.2 _ hl) (fun _ h => h) hfin (hty k hkN) hn hfit hlen hdg (fun H1 locs1 hP _ hS => kk H1 locs1 ⟨hset ▸ hP, hS⟩)
theorem k_putN (hc : CX p c cc s args m own) (hk : WK g s s.heap) (hw : WS g s x H locs) {C host : String} {T : u_T} {N ci index q0 a : Nat} {fs : List Value} (he : (wl g x)[q0]? = some (a, .inr (ci, fs))) (hcl : vwCl[ci]? = some (C, T, N)) (hin : ∀ w ∈ u_ws C T N, w ∈ W0) (ty0 : Nat → FieldType) (hty : ∀ k, k < N → parseFieldDescriptor (T k).2.2.1 = some (ty0 k)) (hnm : ∀ a, a < N → ∀ b, b < N → a ≠ b → (T a).2.1 ≠ (T b).2.1) (k : Nat) (hkN : k < N) (hl : Cond.fieldLinkNest own index (T k).1 (T k).2.1 (T k).2.2.1 host ∈ NQ) (hfin : (T k).2.2.2 = false) {v : Value} (hn : narrow (ty0 k) v = v) (hfit : fits (ty0 k) v = true) (hlen : k < fs.length) (hdg : decode cc pc = .ok (.putfield index, 3))
    (hset : (wl g x).set q0 (a, .inr (ci, fs.set k v)) = wl g x') (kk : ∀ (H1 : Heap) (locs1 : List Loc), WS g s x' H1 locs1 → W p l e R s m args below meth c H1 locs1 cells slots Q (F0 m (pc + 3) ls rest)) : W p l e R s m args below meth c H locs cells slots Q (F0 m pc ls (v :: .ref a :: rest)) :=
  va_putN hc.1 hc.2.1 hc.2.2.2 hin ty0 hty hnm hc.2.2.1 hk.1 hw.1 (hk.D x) hw.2 q0 he hcl k hkN (va_Nw.use rfl (hk.2.1 _ hl)) (fun _ h => h) hfin (hty k hkN) hn hfit hlen hdg (fun H1 locs1 hP _ hS => kk H1 locs1 ⟨hset ▸ hP, hS⟩)
/-- rows of references: the place n of the row -/
theorem k_ald (hc : CX p c cc s args m own) (hk : WK g s s.heap) (hw : WS g s x H locs) {q0 a t0 N : Nat} {C : String} {f : Nat → Nat} (ht : (tysG g)[t0]? = some (g.2.1 t0, .object C)) (he : (wl g x)[q0]? = some (a, .inl (g.2.1 t0, N, .inr (.inr (.inr (.inr (fun k => some (f k)))))))) {i : Int32} {n : Nat} (hin : vp_in i N) (hi : i.toNatClampNeg = n) (hdg : decode cc pc = .ok (.aaload, 1))
    (kk : W p l e R s m args below meth c H locs cells slots Q (F0 m (pc + 1) ls (.ref (f n) :: rest))) : W p l e R s m args below meth c H locs cells slots Q (F0 m pc ls (.int i :: .ref a :: rest)) :=
  va_aldq hc.1 hc.2.1 hk.1 hw.1 q0 t0 he ht hin hdg (by rw [hi]; exact kk)
theorem k_iald (hc : CX p c cc s args m own) (hk : WK g s s.heap) (hw : WS g s x H locs) {q0 a N : Nat} {f : Nat → Int32} (he : (wl g x)[q0]? = some (a, .inl (g.2.1 0, N, .inl f))) {i : Int32} {n : Nat} (hin : vp_in i N) (hi : i.toNatClampNeg = n) (hdg : decode cc pc = .ok (.iaload, 1))
    (kk : W p l e R s m args below meth c H locs cells slots Q (F0 m (pc + 1) ls (.int (f n) :: rest))) : W p l e R s m args below meth c H locs cells slots Q (F0 m pc ls (.int i :: .ref a :: rest)) :=
  va_iald hc.1 hc.2.1 hk.1 hw.1 q0 0 he rfl hin hdg (by rw [hi]; exact kk)
theorem k_iast (hc : CX p c cc s args m own) (hk : WK g s s.heap) (hw : WS g s x H locs) {q0 a N : Nat} {f : Nat → Int32} (he : (wl g x)[q0]? = some (a, .inl (g.2.1 0, N, .inl f))) {i v : Int32} {n : Nat} (hin : vp_in i N) (hi : i.toNatClampNeg = n) (hdg : decode cc pc = .ok (.iastore, 1))
    (hset : (wl g x).set q0 (a, .inl (g.2.1 0, N, .inl (upd f n v))) = wl g x') (kk : ∀ (H1 : Heap) (locs1 : List Loc), WS g s x' H1 locs1 → W p l e R s m args below meth c H1 locs1 cells slots Q (F0 m (pc + 1) ls rest)) : W p l e R s m args below meth c H locs cells slots Q (F0 m pc ls (.int v :: .int i :: .ref a :: rest)) :=
  va_iast hc.1 hc.2.1 hk.1 hw.1 (hk.D x) hw.2 q0 0 he rfl hin hdg (fun H1 locs1 hP _ hS => kk H1 locs1 ⟨by rw [hi] at hP; rw [← hset]; exact hP, hS⟩)
end KR
-- ===== contracts that return: one answer, one world behind =====
abbrev mI (l : Launch) (y : MethodName) (cy : ByteArray) (ny : Nat) (ry : Option FieldType) (rm : Room) (mc ms : Nat) (g : wG) (x : wSt) (av : List Value) (r : Int32) (x' : wSt) : Prop :=
  Met l y (ws_ y cy ny ry) rm (va_Pc av (pre_ g x)) (va_Qi (fun (v : Int32) (u : wSt) => v = r ∧ u = x') (PB g) (AA g)) mc ms (AA g)
abbrev mV (l : Launch) (y : MethodName) (cy : ByteArray) (ny : Nat) (rm : Room) (mc ms : Nat) (g : wG) (x : wSt) (av : List Value) (x' : wSt) : Prop :=
  Met l y (ws_ y cy ny none) rm (va_Pc av (pre_ g x)) (va_Qv (fun (u : wSt) => u = x') (PB g) (AA g)) mc ms (AA g)
abbrev mR (l : Launch) (y : MethodName) (cy : ByteArray) (ny : Nat) (ry : Option FieldType) (rm : Room) (mc ms : Nat) (g : wG) (x : wSt) (av : List Value) (r : Nat) (x' : wSt) : Prop :=
  Met l y (ws_ y cy ny ry) rm (va_Pc av (pre_ g x)) (va_Qr (fun (u : wSt) => u = x') (fun u a t => a = r ∧ PB g u t) (AA g)) mc ms (AA g)
abbrev mL (l : Launch) (y : MethodName) (cy : ByteArray) (ny : Nat) (ry : Option FieldType) (rm : Room) (mc ms : Nat) (g : wG) (x : wSt) (av : List Value) (r : Int64) (x' : wSt) : Prop :=
  Met l y (ws_ y cy ny ry) rm (va_Pc av (pre_ g x)) (va_Ql (fun (v : Int64) (u : wSt) => v = r ∧ u = x') (PB g) (AA g)) mc ms (AA g)
theorem goodIn_mem {ws : List Cond} (h : ∀ w ∈ ws, w ∈ W0) : GoodIn W0 ws := fun w hw => ⟨h w hw, good_of_word (List.mem_filter.mp (h w hw)).2⟩
theorem goodIn_mm {ws : List Cond} (h : ∀ w ∈ ws, w ∈ W0) {y : MethodName} {c : ByteArray} {n : Nat} {r : Option FieldType} (hc : Cond.code y c n r ∈ W0) : GoodIn W0 (ws ++ ws_ y c n r) := by
  intro w hw
  rcases List.mem_append.mp hw with q | q
  · exact goodIn_mem h w q
  · exact goodIn_ws (fun _ z => z) hc w q
section KC
variable {p : Program} {l : Launch} {e : Env} {R : Room} {s : State} {m : MethodId} {args : Array Value} {below : List Frame} {meth : Method} {c : Code} {H : Heap} {locs : List Loc} {cells slots : Nat} {Q : State → Prop}
variable {cc : ByteArray} {own : String} {g : wG} {x x' : wSt} {pc nL : Nat} {ls : Array Slot} {rest st0 : List Value} {lv : List (Nat × Value)}
variable {y : MethodName} {cy : ByteArray} {ny n index mc ms : Nat} {ry : Option FieldType} {rm : Room} {As : List Value} {b : Nat} {Pc : Array Value → State → Prop} {Qc : Array Value → State → Outcome → State → Prop} {free : Addr → Prop}
/-- the words of a call: by the method's own link -/
theorem kw_V (hc : CX p c cc s args m own) (n : Nat) (hl : Cond.methodLink own index y ∈ W0) (hi : Cond.instanceMethod y ∈ W0) (hs : Cond.selects y.cls y y ∈ W0) (hn : Cond.initialized y.cls ∈ W0) (hcd : Cond.code y cy ny ry ∈ W0) (hrc : rm.cells = mc) (hrs : rm.slots = ms) (hd : y.cls = y.cls ∧ y.cls ≠ "java/lang/invoke/MethodHandle" ∧ y.cls ≠ "java/lang/invoke/VarHandle" ∧ (parseMethodDescriptor y.desc).map (fun d => d.parameters.length) = some n) (hR : rm.frames + 1 ≤ R.frames ∧ 8 + (ny + 11) + rm.locals ≤ R.locals) : CallW R s args own y.cls index y cy ny ry (ws_ y cy ny ry) rm mc ms n :=
  cwV n hc.2.2.2 (goodIn_mm (ws := [.methodLink own index y, .instanceMethod y, .selects y.cls y y, .initialized y.cls]) (by
    intro w hw
    simp only [List.mem_cons, List.not_mem_nil, or_false] at hw
    rcases hw with rfl | rfl | rfl | rfl <;> assumption) hcd) rfl hrc hrs hd hR
theorem kw_S (hc : CX p c cc s args m own) (n : Nat) (hl : Cond.methodLink own index y ∈ W0) (hi : Cond.static y ∈ W0) (hn : Cond.initialized y.cls ∈ W0) (hcd : Cond.code y cy ny ry ∈ W0) (hrc : rm.cells = mc) (hrs : rm.slots = ms) (hd : y.cls ≠ "java/lang/invoke/MethodHandle" ∧ y.cls ≠ "java/lang/invoke/VarHandle" ∧ (parseMethodDescriptor y.desc).map (fun d => d.parameters.length) = some n) (hR : rm.frames + 1 ≤ R.frames ∧ 8 + (ny + 11) + rm.locals ≤ R.locals) : CallB R s args own index y cy ny ry (ws_ y cy ny ry) rm mc ms n ∧ (Cond.static y).before args s = true :=
  va_cwS n hc.2.2.2 (goodIn_mm (ws := [.methodLink own index y, .static y, .initialized y.cls]) (by
    intro w hw
    simp only [List.mem_cons, List.not_mem_nil, or_false] at hw
    rcases hw with rfl | rfl | rfl <;> assumption) hcd) rfl hrc hrs hd hR
theorem kw_N (hc : CX p c cc s args m own) (hk : WK g s s.heap) (n : Nat) {host : String} (hl : Cond.methodLinkNest own index y host ∈ NQ) (hn : Cond.initialized y.cls ∈ W0) (hcd : Cond.code y cy ny ry ∈ W0) (hrc : rm.cells = mc) (hrs : rm.slots = ms) (hd : y.cls ≠ "java/lang/invoke/MethodHandle" ∧ y.cls ≠ "java/lang/invoke/VarHandle" ∧ (parseMethodDescriptor y.desc).map (fun d => d.parameters.length) = some n) (hR : rm.frames + 1 ≤ R.frames ∧ 8 + (ny + 11) + rm.locals ≤ R.locals) : va_CN R s args own index y host cy ny ry (ws_ y cy ny ry) rm mc ms n :=
  va_cnB n hc.2.2.2 (goodIn_ws (fun _ z => z) hcd) rfl hrc hrs (hk.2.1 _ hl) (hc.2.2.2 _ hn) hd hR
theorem kp_V (hk : WK g s s.heap) (hw : WS g s x H locs) {C : String} {T : u_T} {N ci q0 : Nat} {fs : List Value} (he : (wl g x)[q0]? = some (b, .inr (ci, fs))) (hcl : vwCl[ci]? = some (C, T, N)) : PreV s H C b (va_Pc (.ref b :: As) (pre_ g x)) As :=
  ⟨pre_blind, va_recv hk.1 hw.1 hcl he, fun U hU hW => ⟨rfl, WK.at hk hw.2 hU hW, by show va_P _ _ _ U.heap; rw [hU]; exact hw.1⟩⟩
theorem kp_S (hk : WK g s s.heap) (hw : WS g s x H locs) : PreS s H (va_Pc As (pre_ g x)) As :=
  ⟨pre_blind, fun U hU hW => ⟨rfl, WK.at hk hw.2 hU hW, by show va_P _ _ _ U.heap; rw [hU]; exact hw.1⟩⟩
/-- behind a call -/
theorem kc_i {a : Array Value} {r : Int32} (hw : WS g s x H locs) (hr : va_Run p l e R s m args below meth c H locs cells slots mc ms (F0 m pc ls st0) rest (va_Qi (fun (v : Int32) (u : wSt) => v = r ∧ u = x') (PB g) (AA g) a) (AA g)) (kk : ∀ (H1 : Heap) (locs1 : List Loc), WS g s x' H1 locs1 → W p l e R s m args below meth c H1 locs1 (cells + mc) (slots + ms) Q (F0 m (pc + 3) ls (.int r :: rest))) : W p l e R s m args below meth c H locs cells slots Q (F0 m pc ls st0) :=
  va_calli hr hw.2 (fun _ _ h => h) (fun _ h => h) (fun v u t H1 locs1 ht _ hp hB _ _ hS => by
    obtain ⟨rfl, rfl⟩ := hp
    exact kk H1 locs1 ⟨by have h : va_P _ _ _ t.heap := hB; rw [ht] at h; exact h, hS⟩)
theorem kc_v {a : Array Value} (hw : WS g s x H locs) (hr : va_Run p l e R s m args below meth c H locs cells slots mc ms (F0 m pc ls st0) rest (va_Qv (fun (u : wSt) => u = x') (PB g) (AA g) a) (AA g)) (kk : ∀ (H1 : Heap) (locs1 : List Loc), WS g s x' H1 locs1 → W p l e R s m args below meth c H1 locs1 (cells + mc) (slots + ms) Q (F0 m (pc + 3) ls rest)) : W p l e R s m args below meth c H locs cells slots Q (F0 m pc ls st0) :=
  va_callv hr hw.2 (fun _ _ h => h) (fun _ h => h) (fun u t H1 locs1 ht _ hp hB _ _ hS => by
    subst hp
    exact kk H1 locs1 ⟨by have h : va_P _ _ _ t.heap := hB; rw [ht] at h; exact h, hS⟩)
theorem kc_r {a : Array Value} {r : Nat} (hw : WS g s x H locs) (hr : va_Run p l e R s m args below meth c H locs cells slots mc ms (F0 m pc ls st0) rest (va_Qr (fun (u : wSt) => u = x') (fun u z t => z = r ∧ PB g u t) (AA g) a) (AA g)) (kk : ∀ (H1 : Heap) (locs1 : List Loc), WS g s x' H1 locs1 → W p l e R s m args below meth c H1 locs1 (cells + mc) (slots + ms) Q (F0 m (pc + 3) ls (.ref r :: rest))) : W p l e R s m args below meth c H locs cells slots Q (F0 m pc ls st0) :=
  va_callr hr hw.2 (fun _ _ h => h) (fun _ h => h) (fun u z t H1 locs1 ht _ hp hB _ _ hS => by
    subst hp
    obtain ⟨rfl, hB⟩ := hB
    exact kk H1 locs1 ⟨by have h : va_P _ _ _ t.heap := hB; rw [ht] at h; exact h, hS⟩)
theorem kc_l {a : Array Value} {r : Int64} (hw : WS g s x H locs) (hr : va_Run p l e R s m args below meth c H locs cells slots mc ms (F0 m pc ls st0) rest (va_Ql (fun (v : Int64) (u : wSt) => v = r ∧ u = x') (PB g) (AA g) a) (AA g)) (kk : ∀ (H1 : Heap) (locs1 : List Loc), WS g s x' H1 locs1 → W p l e R s m args below meth c H1 locs1 (cells + mc) (slots + ms) Q (F0 m (pc + 3) ls (.long r :: rest))) : W p l e R s m args below meth c H locs cells slots Q (F0 m pc ls st0) :=
  va_calll hr hw.2 (fun _ _ h => h) (fun _ h => h) (fun v u t H1 locs1 ht _ hp hB _ _ hS => by
    obtain ⟨rfl, rfl⟩ := hp
    exact kk H1 locs1 ⟨by have h : va_P _ _ _ t.heap := hB; rw [ht] at h; exact h, hS⟩)
end KC
-- ===== ends =====
section KE
variable {g : wG} {s t : State} {x x' : wSt} {H : Heap} {locs : List Loc} {a : Array Value}
theorem ke_i {r v : Int32} (hw : WS g s x H locs) (ht : t.heap = H) (e1 : v = r) (e2 : x = x') : va_Qi (fun (v : Int32) (u : wSt) => v = r ∧ u = x') (PB g) (AA g) a s (.returned (some (.int v))) t :=
  ⟨⟨v, x, rfl, ⟨e1, e2⟩, by show va_P _ _ _ t.heap; rw [ht]; exact hw.1⟩, hw.2.F ht⟩
theorem ke_v (hw : WS g s x H locs) (ht : t.heap = H) (e2 : x = x') : va_Qv (fun (u : wSt) => u = x') (PB g) (AA g) a s (.returned none) t :=
  ⟨⟨x, rfl, e2, by show va_P _ _ _ t.heap; rw [ht]; exact hw.1⟩, hw.2.F ht⟩
theorem ke_r {r q : Nat} (hw : WS g s x H locs) (ht : t.heap = H) (e1 : q = r) (e2 : x = x') : va_Qr (fun (u : wSt) => u = x') (fun u z t => z = r ∧ PB g u t) (AA g) a s (.returned (some (.ref q))) t :=
  ⟨⟨x, q, rfl, e2, e1, by show va_P _ _ _ t.heap; rw [ht]; exact hw.1⟩, hw.2.F ht⟩
theorem ke_l {r v : Int64} (hw : WS g s x H locs) (ht : t.heap = H) (e1 : v = r) (e2 : x = x') : va_Ql (fun (v : Int64) (u : wSt) => v = r ∧ u = x') (PB g) (AA g) a s (.returned (some (.long v))) t :=
  ⟨⟨v, x, rfl, ⟨e1, e2⟩, by show va_P _ _ _ t.heap; rw [ht]; exact hw.1⟩, hw.2.F ht⟩
end KE
