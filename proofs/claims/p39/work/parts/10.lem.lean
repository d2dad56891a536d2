/-! numbers, counts, chars; throwing methods -/
theorem fa_lt (a b : Int32) : a < b ↔ a.toInt < b.toInt := Int32.lt_iff_toInt_lt
theorem fa_le (a b : Int32) : a ≤ b ↔ a.toInt ≤ b.toInt := Int32.le_iff_toInt_le
theorem i32_nlt {a b : Int32} (h : a ≤ b) : ¬ b < a := by rw [fa_le] at h; rw [fa_lt]; omega
theorem i32_nle {a b : Int32} (h : a < b) : ¬ b ≤ a := by rw [fa_lt] at h; rw [fa_le]; omega
theorem i32_ne {a b : Int32} {n : Int} (h : ¬ a = b) (hb : b.toInt = n) : a.toInt ≠ n := fun z => h (Int32.toInt_inj.mp (z.trans hb.symm))
theorem vinC {x y : Int32} {m N : Nat} (h0 : ¬ x < 0) (h1 : ¬ y ≤ x) (hy : y = nI m) (hm : m ≤ N) (hN : N < 2 ^ 31) : vp_in x N ∧ x.toNatClampNeg < m := by
  have e0 : ¬ x.toInt < 0 := by
    intro z
    exact h0 ((fa_lt _ _).mpr (by rw [show (0 : Int32).toInt = 0 from rfl]; exact z))
  have e1 : x.toInt < m := by
    rw [fa_le, hy, nI_toInt (by omega)] at h1
    omega
  have e2 : x.toNatClampNeg < m := by
    rw [show x.toNatClampNeg = x.toInt.toNat from rfl]
    omega
  exact ⟨fun q => q.elim h0 (fun z => by omega), e2⟩
theorem nat_of {x : Int32} (h0 : ¬ x < 0) : x = nI x.toNatClampNeg := by
  have e0 : 0 ≤ x.toInt := by
    rcases Int.lt_or_le x.toInt 0 with z | z
    · exact absurd ((fa_lt _ _).mpr (by rw [show (0 : Int32).toInt = 0 from rfl]; exact z)) h0
    · exact z
  apply Int32.toInt_inj.mp
  have hlt : x.toInt < 2147483648 := by have := x.toInt_lt; simpa using this
  rw [nI_toInt (by show x.toInt.toNat < _; omega)]
  show x.toInt = ((x.toInt.toNat : Nat) : Int)
  omega
/-- a loop's head: not at the end, at the end -/
theorem lp_in {y : Int32} {k m : Nat} (h : ¬ y ≤ nI k) (hy : y = nI m) (hk : k ≤ m) (hm : m < 2 ^ 31) : k < m := by
  rcases Nat.lt_or_ge k m with z | z
  · exact z
  · exact absurd (by rw [hy]; exact nI_le (by omega) (by omega)) h
theorem lp_out {y : Int32} {k m : Nat} (h : y ≤ nI k) (hy : y = nI m) (hk : k ≤ m) (hm : m < 2 ^ 31) : k = m := by
  rcases Nat.lt_or_ge k m with z | z
  · rw [hy] at h; exact absurd h (nI_ge z hm)
  · omega
/-- a char, a boolean -/
def okc (v : Int32) : Prop := narrow .char (.int v) = .int v ∧ fits .char (.int v) = true ∧ vp_nar .char v = v
def okz (v : Int32) : Prop := narrow .boolean (.int v) = .int v ∧ fits .boolean (.int v) = true ∧ vp_nar .boolean v = v
theorem okz_01 {v : Int32} (h : v = 0 ∨ v = 1) : okz v := by
  rcases h with rfl | rfl
  · exact ⟨by decide +kernel, by decide +kernel, by decide +kernel⟩
  · exact ⟨by decide +kernel, by decide +kernel, by decide +kernel⟩
theorem okz_if {c : Prop} [Decidable c] : okz (if c then 1 else 0) := by
  by_cases h : c
  · rw [if_pos h]; exact okz_01 (Or.inr rfl)
  · rw [if_neg h]; exact okz_01 (Or.inl rfl)
theorem okc_nI {n : Nat} (h : n < 65536) : okc (nI n) := by
  obtain ⟨h1, h2⟩ := pk_charN h
  refine ⟨h1, h2, ?_⟩
  simp only [vp_nar, h1]
theorem okc_i2c (x : Int32) : okc ((x.toUInt32 % 65536).toInt32) := by rw [pk_char]; exact okc_nI (Nat.mod_lt _ (by decide))
/-- how many offices and complaints a book has; its states are chars -/
def STO (B : BT) : Prop := ∀ i, i < 20 → okc (B (10 + i) 11)
def CN (B : BT) (n m : Nat) : Prop := B 0 3 = nI n ∧ B 0 4 = nI m ∧ n ≤ 6 ∧ m ≤ 20 ∧ STO B
theorem STO.up {B : BT} {c k : Nat} {v : Int32} (h : STO B) (hk : (∀ i, i < 20 → c ≠ 10 + i) ∨ k ≠ 11 ∨ okc v) : STO (up2 B c k v) := by
  intro i hi
  have h1 := h i hi
  by_cases e : 10 + i = c
  · by_cases e2 : 11 = k
    · rcases hk with z | z | z
      · exact absurd e.symm (z i hi)
      · exact absurd e2.symm z
      · simp only [up2, if_pos e, if_pos e2]; exact z
    · simp only [up2, if_pos e, if_neg e2]; exact h1
  · simp only [up2, if_neg e]; exact h1
theorem CN.upx {B : BT} {n m c k : Nat} {v : Int32} (hc : c ≠ 0) (hk : (∀ i, i < 20 → c ≠ 10 + i) ∨ k ≠ 11 ∨ okc v) (h : CN B n m) : CN (up2 B c k v) n m := by
  obtain ⟨h1, h2, h3, h4, h5⟩ := h
  exact ⟨by rw [up2_ne (Ne.symm hc)]; exact h1, by rw [up2_ne (Ne.symm hc)]; exact h2, h3, h4, h5.up hk⟩
theorem CN.up {B : BT} {n m c k : Nat} {v : Int32} (hc : c ≠ 0) (hk : k ≠ 11) (h : CN B n m) : CN (up2 B c k v) n m := h.upx hc (Or.inr (Or.inl hk))
theorem CN.up11 {B : BT} {n m c k : Nat} {v : Int32} (hc : c ≠ 0) (hv : okc v) (h : CN B n m) : CN (up2 B c k v) n m := h.upx hc (Or.inr (Or.inr hv))
theorem CN.upw {B : BT} {n m k : Nat} {v : Int32} (h : CN B n m) : CN (up2 B 3 k v) n m := h.upx (by decide) (Or.inl (fun i _ => by omega))
theorem CN.up5 {B : BT} {n m : Nat} {v : Int32} (h : CN B n m) : CN (up2 B 0 5 v) n m := by
  obtain ⟨h1, h2, h3, h4, h5⟩ := h
  exact ⟨by simp [up2, h1], by simp [up2, h2], h3, h4, h5.up (Or.inr (Or.inl (by decide)))⟩
theorem NW.use {s : State} {w : Cond} (h : NW s) (hw : w ∈ NQ) {args : Array Value} : w.before args s = true := by
  have hq := (List.mem_filter.mp hw).2
  refine va_Nw.use ?_ (h w hw)
  cases w <;> first | rfl | (simp [isNq] at hq)
-- ===== methods that throw: o tells whether, and what; nothing is changed then =====
def XX (g : wG) (x : wSt) (o : Option String) : String → State → State → Prop := vx_X (fun (u : wSt) => u = x) (fun E u t => o = some E ∧ PB g u t) (AA g)
abbrev xI (l : Launch) (y : MethodName) (cy : ByteArray) (ny : Nat) (ry : Option FieldType) (rm : Room) (mc ms : Nat) (g : wG) (x : wSt) (av : List Value) (o : Option String) (r : Int32) (x' : wSt) : Prop :=
  vx_Met l y (ws_ y cy ny ry) rm (va_Pc av (pre_ g x)) (va_Qi (fun (v : Int32) (u : wSt) => o = none ∧ v = r ∧ u = x') (PB g) (AA g)) (XX g x o) mc ms (AA g)
abbrev xV (l : Launch) (y : MethodName) (cy : ByteArray) (ny : Nat) (rm : Room) (mc ms : Nat) (g : wG) (x : wSt) (av : List Value) (o : Option String) (x' : wSt) : Prop :=
  vx_Met l y (ws_ y cy ny none) rm (va_Pc av (pre_ g x)) (va_Qv (fun (u : wSt) => o = none ∧ u = x') (PB g) (AA g)) (XX g x o) mc ms (AA g)
abbrev xR (l : Launch) (y : MethodName) (cy : ByteArray) (ny : Nat) (ry : Option FieldType) (rm : Room) (mc ms : Nat) (g : wG) (x : wSt) (av : List Value) (o : Option String) (r : Nat) (x' : wSt) : Prop :=
  vx_Met l y (ws_ y cy ny ry) rm (va_Pc av (pre_ g x)) (va_Qq (fun (v : Option Nat) (u : wSt) => o = none ∧ v = some r ∧ u = x') (PB g) (AA g)) (XX g x o) mc ms (AA g)
-- (pasted: EXCEPTIONS, the call that answers a reference)
section
variable {p : Program} {l : Launch} {e : Env} {R : Room} {s : State} {m : MethodId} {args : Array Value} {below : List Frame} {meth : Method} {c : Code} {H : Heap} {locs : List Loc} {cells slots : Nat} {Q : State → Prop}
variable {mc ms : Nat} {free : Addr → Prop} {A0 A1 : Nat → Prop} {H0 : Heap} {a : Array Value} {pc : Nat} {ls : Array Slot} {st0 rest : List Value}
theorem vx_callq {S SX : Type} {post : Option Nat → S → Prop} {px : SX → Prop} {B : S → State → Prop} {BX : String → SX → State → Prop} {AX : Nat → Prop} (hr : vx_Run p l e R s m args below meth c H locs cells slots mc ms (F0 m pc ls st0) rest (va_Qq post B A1 a) (vx_X px BX AX) free) (hS : va_S A0 H0 H locs) (hA : ∀ q, q < H.size → A1 q → A0 q) (hf : ∀ q, free q → A0 q) (hAX : ∀ q, q < H.size → AX q → A0 q)
    (kx : ∀ (E : String) (ce : Cell) (q8 : Addr) (u : SX) (t : State) (H1 : Heap) (locs1 : List Loc), t.heap = H1 → s.vm.Alike t.vm → px u → BX E u t → H.size ≤ H1.size → (∀ q : Nat, q < H.size → ¬ AX q → H1[q]? = H[q]?) → va_S A0 H0 H1 locs1 → H1[q8]? = some ce → ce.vm = .none → s.vm.findClass E = some ce.cls → vx_W p l e R s m args below meth c H1 locs1 (cells + mc) (slots + ms) Q (F0 m pc ls rest) q8)
    (kk : ∀ (r : Option Nat) (u : S) (t : State) (H1 : Heap) (locs1 : List Loc), t.heap = H1 → s.vm.Alike t.vm → post r u → B u t → H.size ≤ H1.size → (∀ q : Nat, q < H.size → ¬ A1 q → H1[q]? = H[q]?) → va_S A0 H0 H1 locs1 → W p l e R s m args below meth c H1 locs1 (cells + mc) (slots + ms) Q (F0 m (pc + 3) ls (va_rf r :: rest))) : W p l e R s m args below meth c H locs cells slots Q (F0 m pc ls st0) := by
  intro T hT X
  rcases hr T hT X with ⟨v, st₀, t, T', L, h0, X', hL, e1, e2, ⟨⟨r, u, hv, hp, hb⟩, hF⟩, st⟩ | ⟨q, st₀, t, T', L, E, ce, h0, X', hL, e1, e2, ⟨u, hp, hb, hF⟩, hce, hcv, hcl, st⟩
  · cases hv
    obtain ⟨k1, k2, k3⟩ := vx_keep h0 e1 hS hA hf hL hF
    obtain ⟨t2, a1, b1⟩ := kk r u t T'.heap (locs ++ L) e1.symm (by rw [← e2]; exact X'.warmed.alike) hp hb k1 k2 k3 T' rfl X'
    exact ⟨t2, st t2 a1, b1⟩
  · obtain ⟨k1, k2, k3⟩ := vx_keep h0 e1 hS hAX hf hL hF
    obtain ⟨t2, a1, b1⟩ := kx E ce q u t T'.heap (locs ++ L) e1.symm (by rw [← e2]; exact X'.warmed.alike) hp hb k1 k2 k3 (by rw [e1]; exact hce) hcv hcl T' rfl X'
    exact ⟨t2, st.trans a1, b1⟩
end
section KX
variable {p : Program} {l : Launch} {e : Env} {R : Room} {s : State} {m : MethodId} {args : Array Value} {below : List Frame} {meth : Method} {c : Code} {H : Heap} {locs : List Loc} {cells slots : Nat} {Q : State → Prop}
variable {cc : ByteArray} {own : String} {g : wG} {x x' : wSt} {pc nL : Nat} {ls : Array Slot} {rest st0 : List Value} {lv : List (Nat × Value)}
variable {mc ms : Nat} {o : Option String}
theorem kx_i {a : Array Value} {r : Int32} (hw : WS g s x H locs) (hr : vx_Run p l e R s m args below meth c H locs cells slots mc ms (F0 m pc ls st0) rest (va_Qi (fun (v : Int32) (u : wSt) => o = none ∧ v = r ∧ u = x') (PB g) (AA g) a) (XX g x o) (AA g))
    (kx : ∀ (E : String) (ce : Cell) (q8 : Addr) (H1 : Heap) (locs1 : List Loc), o = some E → WS g s x H1 locs1 → H1[q8]? = some ce → ce.vm = .none → s.vm.findClass E = some ce.cls → vx_W p l e R s m args below meth c H1 locs1 (cells + mc) (slots + ms) Q (F0 m pc ls rest) q8)
    (kk : ∀ (H1 : Heap) (locs1 : List Loc), o = none → WS g s x' H1 locs1 → W p l e R s m args below meth c H1 locs1 (cells + mc) (slots + ms) Q (F0 m (pc + 3) ls (.int r :: rest))) : W p l e R s m args below meth c H locs cells slots Q (F0 m pc ls st0) :=
  vx_calli hr hw.2 (fun _ _ h => h) (fun _ h => h) (fun _ _ h => h) (fun E ce q8 u t H1 locs1 ht _ hp hB _ _ hS hq hv hE => by
      subst hp
      exact kx E ce q8 H1 locs1 hB.1 ⟨by have h : va_P _ _ _ t.heap := hB.2; rw [ht] at h; exact h, hS⟩ hq hv hE) (fun v u t H1 locs1 ht _ hp hB _ _ hS => by
    obtain ⟨ho, rfl, rfl⟩ := hp
    exact kk H1 locs1 ho ⟨by have h : va_P _ _ _ t.heap := hB; rw [ht] at h; exact h, hS⟩)
theorem kx_v {a : Array Value} (hw : WS g s x H locs) (hr : vx_Run p l e R s m args below meth c H locs cells slots mc ms (F0 m pc ls st0) rest (va_Qv (fun (u : wSt) => o = none ∧ u = x') (PB g) (AA g) a) (XX g x o) (AA g))
    (kx : ∀ (E : String) (ce : Cell) (q8 : Addr) (H1 : Heap) (locs1 : List Loc), o = some E → WS g s x H1 locs1 → H1[q8]? = some ce → ce.vm = .none → s.vm.findClass E = some ce.cls → vx_W p l e R s m args below meth c H1 locs1 (cells + mc) (slots + ms) Q (F0 m pc ls rest) q8)
    (kk : ∀ (H1 : Heap) (locs1 : List Loc), o = none → WS g s x' H1 locs1 → W p l e R s m args below meth c H1 locs1 (cells + mc) (slots + ms) Q (F0 m (pc + 3) ls rest)) : W p l e R s m args below meth c H locs cells slots Q (F0 m pc ls st0) :=
  vx_callv hr hw.2 (fun _ _ h => h) (fun _ h => h) (fun _ _ h => h) (fun E ce q8 u t H1 locs1 ht _ hp hB _ _ hS hq hv hE => by
      subst hp
      exact kx E ce q8 H1 locs1 hB.1 ⟨by have h : va_P _ _ _ t.heap := hB.2; rw [ht] at h; exact h, hS⟩ hq hv hE) (fun u t H1 locs1 ht _ hp hB _ _ hS => by
    obtain ⟨ho, rfl⟩ := hp
    exact kk H1 locs1 ho ⟨by have h : va_P _ _ _ t.heap := hB; rw [ht] at h; exact h, hS⟩)
theorem kx_r {a : Array Value} {r : Nat} (hw : WS g s x H locs) (hr : vx_Run p l e R s m args below meth c H locs cells slots mc ms (F0 m pc ls st0) rest (va_Qq (fun (v : Option Nat) (u : wSt) => o = none ∧ v = some r ∧ u = x') (PB g) (AA g) a) (XX g x o) (AA g))
    (kx : ∀ (E : String) (ce : Cell) (q8 : Addr) (H1 : Heap) (locs1 : List Loc), o = some E → WS g s x H1 locs1 → H1[q8]? = some ce → ce.vm = .none → s.vm.findClass E = some ce.cls → vx_W p l e R s m args below meth c H1 locs1 (cells + mc) (slots + ms) Q (F0 m pc ls rest) q8)
    (kk : ∀ (H1 : Heap) (locs1 : List Loc), o = none → WS g s x' H1 locs1 → W p l e R s m args below meth c H1 locs1 (cells + mc) (slots + ms) Q (F0 m (pc + 3) ls (.ref r :: rest))) : W p l e R s m args below meth c H locs cells slots Q (F0 m pc ls st0) :=
  vx_callq hr hw.2 (fun _ _ h => h) (fun _ h => h) (fun _ _ h => h) (fun E ce q8 u t H1 locs1 ht _ hp hB _ _ hS hq hv hE => by
      subst hp
      exact kx E ce q8 H1 locs1 hB.1 ⟨by have h : va_P _ _ _ t.heap := hB.2; rw [ht] at h; exact h, hS⟩ hq hv hE) (fun v u t H1 locs1 ht _ hp hB _ _ hS => by
    obtain ⟨ho, rfl, rfl⟩ := hp
    exact kk H1 locs1 ho ⟨by have h : va_P _ _ _ t.heap := hB; rw [ht] at h; exact h, hS⟩)
/-- an exception that goes on to the caller -/
theorem k_out {Qc : Array Value → State → Outcome → State → Prop} {E : String} {ce : Cell} {q8 : Addr} (hT : ∀ z ∈ c.exceptionTable.toList, False) (hlocks : meth.locks = false) (hw : WS g s x H locs) (hq : H[q8]? = some ce) (hv : ce.vm = .none) (hE : s.vm.findClass E = some ce.cls) (ho : o = some E) (h1 : cells ≤ mc) (h2 : slots ≤ ms) :
    vx_W p l e R s m args below meth c H locs cells slots (vx_MQ below Qc (XX g x o) args s mc ms (AA g)) (F0 m pc ls rest) q8 :=
  vx_out (fun z hz => (hT z hz).elim) hlocks hq hv hE (fun t ht _ => ⟨x, rfl, ⟨ho, by show va_P _ _ _ t.heap; rw [ht]; exact hw.1⟩, hw.2.F ht⟩) hw.2.2.2 h1 h2
theorem k_thx (hw : WS g s x H locs) {E : String} (ho : o = some E) : ∀ t : State, s.vm.Alike t.vm → H.size ≤ t.heap.size → (∀ q : Nat, q < H.size → t.heap[q]? = H[q]?) → XX g x o E s t := by
  intro t _ hz hq
  refine ⟨x, rfl, ⟨ho, fun k q h => (hw.1 k q h).kept (hq q.1 (hw.1 k q h).lt)⟩, Nat.le_trans hw.2.1 hz, fun q h1 h2 => ?_⟩
  rw [hq q (Nat.lt_of_lt_of_le h1 hw.2.1)]
  exact hw.2.2.1 q h1 h2
abbrev thN : List String := ["java/lang/RuntimeException", "java/lang/Exception"]
theorem k_throwS {Qc : Array Value → State → Outcome → State → Prop} {cls text : String} {ik is ic : Nat} (hc : CX p c cc s args m own) (hk : WK g s s.heap) (hw : WS g s x H locs) (hfl : l.stackTraces = false) (hT : ∀ z ∈ c.exceptionTable.toList, False) (hlocks : meth.locks = false) (hml : c.maxLocals = nL) (hl : lv_has ls nL lv)
    (hcls : Bundle.fit cls = true) (hq : ∀ w ∈ Cond.classLink own ik cls :: Cond.initialized cls :: vx_atS own ic cls thN, w ∈ W0 ∨ w ∈ NQ) (hstr : (own, is, text) ∈ strL)
    (d0 : decode cc pc = .ok (.new ik, 3)) (d3 : decode cc (pc + 3) = .ok (.dup, 1)) (d4 : decode cc (pc + 4) = .ok (.ldc is, 2)) (d6 : decode cc (pc + 6) = .ok (.invokespecial ic, 3)) (d9 : decode cc (pc + 9) = .ok (.athrow, 1))
    (hR : 5 < R.frames) (hR2 : (rest.map fun v => v.category).sum + 82 ≤ R.locals) (hR3 : cells + 1 ≤ R.cells) (hR4 : slots + 6 ≤ R.slots) (ho : o = some cls) (h1 : cells + 1 ≤ mc) (h2 : slots + 6 ≤ ms) :
    W p l e R s m args below meth c H locs cells slots (vx_MQ below Qc (XX g x o) args s mc ms (AA g)) (F0 m pc ls rest) := by
  have hall : ∀ w ∈ Cond.classLink own ik cls :: Cond.initialized cls :: vx_atS own ic cls thN, w.before args s = true := fun w h => (hq w h).elim (hc.2.2.2 w) (fun z => hk.2.1.use z)
  obtain ⟨sa, hsa⟩ := hk.2.2.2.2.2.2.1 _ hstr
  refine vx_throwS hc.1 hc.2.1 hfl hc.2.2.1 hcls (by decide) (hall _ List.mem_cons_self) (hall _ (List.mem_cons_of_mem _ List.mem_cons_self)) hsa (fun w h => hall w (List.mem_cons_of_mem _ (List.mem_cons_of_mem _ h))) (fun w h => ?_) hk.2.2.2.2.1 hk.2.2.2.2.2.1 hw.2 (hl.1.trans hml.symm) d0 d3 d4 d6 d9 (fun z hz => (hT z hz).elim) hR hR2 hR3 hR4 hlocks (k_thx hw ho) hw.2.2.2 h1 h2
  rcases hq w h with z | z
  · simp only [vx_ot, (List.mem_filter.mp z).2, Bool.or_true]
  · have hqq := (List.mem_filter.mp z).2
    cases w <;> first | rfl | (simp [isNq] at hqq)
theorem k_throwSW {Qc : Array Value → State → Outcome → State → Prop} {cls text : String} {ik is ic : Nat} (hc : CX p c cc s args m own) (hk : WK g s s.heap) (hw : WS g s x H locs) (hfl : l.stackTraces = false) (hT : ∀ z ∈ c.exceptionTable.toList, False) (hlocks : meth.locks = false) (hml : c.maxLocals = nL) (hl : lv_has ls nL lv)
    (hcls : Bundle.fit cls = true) (hq : ∀ w ∈ Cond.classLink own ik cls :: Cond.initialized cls :: vx_atS own ic cls thN, w ∈ W0 ∨ w ∈ NQ) (hstr : (own, is, text) ∈ strL)
    (d0 : decode cc pc = .ok (.new ik, 3)) (d3 : decode cc (pc + 3) = .ok (.dup, 1)) (d4 : decode cc (pc + 4) = .ok (.ldc_w is, 3)) (d6 : decode cc (pc + 7) = .ok (.invokespecial ic, 3)) (d9 : decode cc (pc + 10) = .ok (.athrow, 1))
    (hR : 5 < R.frames) (hR2 : (rest.map fun v => v.category).sum + 82 ≤ R.locals) (hR3 : cells + 1 ≤ R.cells) (hR4 : slots + 6 ≤ R.slots) (ho : o = some cls) (h1 : cells + 1 ≤ mc) (h2 : slots + 6 ≤ ms) :
    W p l e R s m args below meth c H locs cells slots (vx_MQ below Qc (XX g x o) args s mc ms (AA g)) (F0 m pc ls rest) := by
  have hall : ∀ w ∈ Cond.classLink own ik cls :: Cond.initialized cls :: vx_atS own ic cls thN, w.before args s = true := fun w h => (hq w h).elim (hc.2.2.2 w) (fun z => hk.2.1.use z)
  obtain ⟨sa, hsa⟩ := hk.2.2.2.2.2.2.1 _ hstr
  refine vx_throwSW hc.1 hc.2.1 hfl hc.2.2.1 hcls (by decide) (hall _ List.mem_cons_self) (hall _ (List.mem_cons_of_mem _ List.mem_cons_self)) hsa (fun w h => hall w (List.mem_cons_of_mem _ (List.mem_cons_of_mem _ h))) (fun w h => ?_) hk.2.2.2.2.1 hk.2.2.2.2.2.1 hw.2 (hl.1.trans hml.symm) d0 d3 d4 d6 d9 (fun z hz => (hT z hz).elim) hR hR2 hR3 hR4 hlocks (k_thx hw ho) hw.2.2.2 h1 h2
  rcases hq w h with z | z
  · simp only [vx_ot, (List.mem_filter.mp z).2, Bool.or_true]
  · have hqq := (List.mem_filter.mp z).2
    cases w <;> first | rfl | (simp [isNq] at hqq)
end KX
section KXE
variable {g : wG} {s t : State} {x x' : wSt} {H : Heap} {locs : List Loc} {a : Array Value} {o : Option String}
theorem kz_i {r v : Int32} (hw : WS g s x H locs) (ht : t.heap = H) (e0 : o = none) (e1 : v = r) (e2 : x = x') : va_Qi (fun (v : Int32) (u : wSt) => o = none ∧ v = r ∧ u = x') (PB g) (AA g) a s (.returned (some (.int v))) t :=
  ⟨⟨v, x, rfl, ⟨e0, e1, e2⟩, by show va_P _ _ _ t.heap; rw [ht]; exact hw.1⟩, hw.2.F ht⟩
theorem kz_v (hw : WS g s x H locs) (ht : t.heap = H) (e0 : o = none) (e2 : x = x') : va_Qv (fun (u : wSt) => o = none ∧ u = x') (PB g) (AA g) a s (.returned none) t :=
  ⟨⟨x, rfl, ⟨e0, e2⟩, by show va_P _ _ _ t.heap; rw [ht]; exact hw.1⟩, hw.2.F ht⟩
theorem kz_r {r q : Nat} (hw : WS g s x H locs) (ht : t.heap = H) (e0 : o = none) (e1 : q = r) (e2 : x = x') : va_Qq (fun (v : Option Nat) (u : wSt) => o = none ∧ v = some r ∧ u = x') (PB g) (AA g) a s (.returned (some (.ref q))) t :=
  ⟨⟨some q, x, rfl, ⟨e0, congrArg some e1, e2⟩, by show va_P _ _ _ t.heap; rw [ht]; exact hw.1⟩, hw.2.F ht⟩
end KXE
theorem CN.cc {B B' : BT} {n m : Nat} (h : CN B n m) (h' : CN B' n m) : B' 0 4 = nI (B 0 4).toNatClampNeg := by
  have := h.2.2.2.1
  rw [h'.2.1, h.2.1, nI_clamp (by omega)]
theorem CN.co {B B' : BT} {n m : Nat} (h : CN B n m) (h' : CN B' n m) : B' 0 3 = nI (B 0 3).toNatClampNeg := by
  have := h.2.2.1
  rw [h'.1, h.1, nI_clamp (by omega)]
theorem CN.l4 {B : BT} {n m : Nat} (h : CN B n m) : (B 0 4).toNatClampNeg ≤ 20 := by
  have := h.2.2.2.1
  rw [h.2.1, nI_clamp (by omega)]; exact this
theorem CN.l3 {B : BT} {n m : Nat} (h : CN B n m) : (B 0 3).toNatClampNeg ≤ 6 := by
  have := h.2.2.1
  rw [h.1, nI_clamp (by omega)]; exact this
theorem CN.sto {B : BT} {n m i : Nat} (h : CN B n m) (hi : i < 20) : okc (B (10 + i) 11) := h.2.2.2.2 i hi
/-- a value on the stack by another name -/
theorem vn_ {p : Program} {l : Launch} {e : Env} {R : Room} {s : State} {m : MethodId} {args : Array Value} {below : List Frame} {meth : Method} {c : Code} {H : Heap} {locs : List Loc} {cells slots : Nat} {Q : State → Prop} {pc : Nat} {ls : Array Slot} {rest : List Value} {v v9 : Int32} (h : v = v9)
    (k : W p l e R s m args below meth c H locs cells slots Q (F0 m pc ls (.int v9 :: rest))) : W p l e R s m args below meth c H locs cells slots Q (F0 m pc ls (.int v :: rest)) := h ▸ k
theorem CN.i3 {B : BT} {n m : Nat} (h : CN B n m) (h1 : B 0 3 < 6) : vp_in (B 0 3) 6 ∧ (B 0 3).toNatClampNeg < 6 := by
  have h2 := h.2.2.1
  refine vinC (m := 6) ?_ (i32_nle h1) rfl (Nat.le_refl _) (by decide)
  rw [h.1]; exact nI_pos (by omega)
theorem CN.i4 {B : BT} {n m : Nat} (h : CN B n m) (h1 : B 0 4 < 20) : vp_in (B 0 4) 20 ∧ (B 0 4).toNatClampNeg < 20 := by
  have h2 := h.2.2.2.1
  refine vinC (m := 20) ?_ (i32_nle h1) rfl (Nat.le_refl _) (by decide)
  rw [h.2.1]; exact nI_pos (by omega)
/-- the events' places -/
theorem ev_lt {x : Int32} (h0 : ¬ x < 0) (h1 : x < 512) : x.toNatClampNeg < 512 := (vinC (m := 512) (N := 512) h0 (i32_nle h1) rfl (Nat.le_refl _) (by decide)).2
theorem ev_at {x : Int32} {q j : Nat} (hx : x = nI q) (hq : q < 512) (hj : j < 5) {y : Int32} (hy : y = x * 5 + nI j) : vp_in y 2560 ∧ y.toNatClampNeg = q * 5 + j := by
  have e : y = nI (q * 5 + j) := by rw [hy, hx, show (5 : Int32) = nI 5 from rfl, pk_mul, nI_add]
  exact ⟨by rw [e]; exact vp_in_nI (by omega) (by omega), by rw [e]; exact nI_clamp (by omega)⟩
theorem i32_p0 (x : Int32) : x = x + nI 0 := (Int32.add_zero x).symm
