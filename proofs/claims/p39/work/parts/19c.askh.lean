/-! the law's ask: what its rows need -/
abbrev wsH (y : MethodName) (c : ByteArray) (n : Nat) (r : Option FieldType) (hh : List (Nat × Nat × Nat × Nat)) : List Cond := .codeWith y c n r hh :: W0
theorem goodIn_mh {ws : List Cond} (h : ∀ w ∈ ws, w ∈ W0) {y : MethodName} {c : ByteArray} {n : Nat} {r : Option FieldType} {hh : List (Nat × Nat × Nat × Nat)} (hc : Cond.codeWith y c n r hh ∈ W0) : GoodIn W0 (ws ++ wsH y c n r hh) := by
  intro w hw
  rcases List.mem_append.mp hw with q | q
  · exact goodIn_mem h w q
  · rcases List.mem_cons.mp q with e | z
    · rw [e]; exact goodIn_mem (ws := [.codeWith y c n r hh]) (fun w hw => by rw [List.mem_singleton.mp hw]; exact hc) _ List.mem_cons_self
    · exact goodIn_W (fun _ z => z) w z
def kX (E : String) : Int32 := if E = "java/lang/IndexOutOfBoundsException" then -2000000001 else if E = "java/lang/IllegalArgumentException" then -2000000002 else if E = "java/lang/IllegalStateException" then -2000000003 else if E = "java/lang/UnsupportedOperationException" then -2000000004 else -2000000005
theorem kX_1 : kX "java/lang/IndexOutOfBoundsException" = -2000000001 := by decide +kernel
theorem kX_2 : kX "java/lang/IllegalArgumentException" = -2000000002 := by decide +kernel
theorem kX_3 : kX "java/lang/IllegalStateException" = -2000000003 := by decide +kernel
theorem kX_4 : kX "java/lang/UnsupportedOperationException" = -2000000004 := by decide +kernel
theorem kX_5 : kX "java/util/NoSuchElementException" = -2000000005 := by decide +kernel
/-- what ask answers: the call's own answer, or the number of what is thrown -/
def kA (o : Option String) (r : Int32) : Int32 := match o with
  | none => r
  | some E => kX E
def eIn (l : List String) (o : Option String) : Prop := ∀ E, o = some E → E ∈ l
theorem eIn_none {l : List String} : eIn l none := fun _ h => nomatch h
theorem eIn_some {l : List String} {E : String} (h : E ∈ l) : eIn l (some E) := fun _ h2 => Option.some.inj h2 ▸ h
theorem eIn_ite {l : List String} {q : Prop} [Decidable q] {a b : Option String} (ha : eIn l a) (hb : eIn l b) : eIn l (if q then a else b) := by
  split
  · exact ha
  · exact hb
theorem eIn_mono {l l' : List String} {o : Option String} (h : eIn l o) (h2 : ∀ E ∈ l, E ∈ l') : eIn l' o := fun E h3 => h2 E (h E h3)
/-- the world, and the row of the call's numbers -/
abbrev vRow (g : wG) (b N : Nat) (f : Nat → Int32) : va_W := [(b, .inl (g.2.1 0, N, .inl f))]
def preV (g : wG) (x : wSt) (b N : Nat) (f : Nat → Int32) (U : State) : Prop := WK g U U.heap ∧ PB g x U ∧ va_P g.1 vwCl (vRow g b N f) U.heap
theorem preV_blind {g : wG} {x : wSt} {b N : Nat} {f : Nat → Int32} {av : List Value} : FrameBlind (va_Pc av (preV g x b N f)) := fun a U f mk q => ⟨q.1, WK.same (u := U) (U := U.calling f mk a) rfl q.2.1, q.2.2⟩
def WV (g : wG) (s : State) (x : wSt) (b N : Nat) (f : Nat → Int32) (H : Heap) (locs : List Loc) : Prop := va_P g.1 vwCl (wl g x ++ vRow g b N f) H ∧ va_D (AA g) (wl g x ++ vRow g b N f) ∧ va_S (AA g) s.heap H locs
theorem WV.w {g : wG} {s : State} {x : wSt} {b N : Nat} {f : Nat → Int32} {H : Heap} {locs : List Loc} (h : WV g s x b N f H locs) : WS g s x H locs := by
  refine ⟨fun k q hk => h.1 k q ?_, h.2.2⟩
  rw [List.getElem?_append_left (List.getElem?_eq_some_iff.mp hk).1]
  exact hk
theorem WV.v {g : wG} {s : State} {x : wSt} {b N : Nat} {f : Nat → Int32} {H : Heap} {locs : List Loc} (h : WV g s x b N f H locs) : va_P g.1 vwCl (vRow g b N f) H := by
  intro k q hk
  refine h.1 (143 + k) q ?_
  rw [List.getElem?_append_right (by rw [wl_len]; omega), wl_len, show 143 + k - 143 = k by omega]
  exact hk
section KV
variable {p : Program} {l : Launch} {e : Env} {R : Room} {s : State} {m : MethodId} {args : Array Value} {below : List Frame} {meth : Method} {c : Code} {H : Heap} {locs : List Loc} {cells slots : Nat} {Q : State → Prop}
variable {cc : ByteArray} {own : String} {g : wG} {x x' : wSt} {pc : Nat} {ls : Array Slot} {rest : List Value}
theorem k_newv (hc : CX p c cc s args m own) (hk : WK g s s.heap) (hw : WS g s x H locs) (harr : Cond.arrayClass .int ∈ W0) {n : Int32} {N : Nat} (hn : ¬ n < 0) (hN : n.toNatClampNeg = N) (hbytes : N * componentBytes .int ≤ 536870912) (hcells : cells + 1 ≤ R.cells) (hslots : slots + N ≤ R.slots) (hdg : decode cc pc = .ok (.newarray .int, 2))
    (kk : ∀ (b : Nat) (H1 : Heap), WV g s x b N (fun _ => 0) H1 locs → W p l e R s m args below meth c H1 locs (cells + 1) (slots + N) Q (F0 m (pc + 2) ls (.ref b :: rest))) : W p l e R s m args below meth c H locs cells slots Q (F0 m pc ls (.int n :: rest)) := by
  have h9 : s.vm.findClass ("[" ++ FieldType.int.toString) = some (g.2.1 0) := (hk.1.2 0 _ rfl).2
  refine va_newaK (atype := .int) hc.1 hc.2.1 (hc.2.2.2 _ harr) rfl hdg rfl hn hN hbytes hcells hslots rfl fun H1 cA e1 z1 o1 hAr hNm => ?_
  have hcA : cA = g.2.1 0 := Option.some.inj (hNm.symm.trans h9)
  subst hcA
  refine kk H.size H1 ⟨(hw.1.kept (fun k q hq => o1 q.1 (hw.1 k q hq).lt)).app (fun k q hq => ?_), (hk.D x).push hw.1 rfl (Or.inr (Nat.le_trans hk.2.2.2.1 hw.2.1)), ⟨Nat.le_trans hw.2.1 (by omega), fun z h1 h2 => (o1 z (Nat.lt_of_lt_of_le h1 hw.2.1)).trans (hw.2.2.1 z h1 h2), hw.2.2.2⟩⟩
  have hz : k < 1 := (List.getElem?_eq_some_iff.mp hq).1
  obtain rfl : k = 0 := by omega
  cases hq
  exact e1
theorem k_vst (hc : CX p c cc s args m own) (hk : WK g s s.heap) {b N : Nat} {f : Nat → Int32} (hv : WV g s x b N f H locs) {i v : Int32} {n : Nat} (hin : vp_in i N) (hi : i.toNatClampNeg = n) (hdg : decode cc pc = .ok (.iastore, 1))
    (kk : ∀ (H1 : Heap) (locs1 : List Loc), WV g s x b N (upd f n v) H1 locs1 → W p l e R s m args below meth c H1 locs1 cells slots Q (F0 m (pc + 1) ls rest)) : W p l e R s m args below meth c H locs cells slots Q (F0 m pc ls (.int v :: .int i :: .ref b :: rest)) := by
  have e9 : ∀ z : Nat × va_E, (wl g x ++ vRow g b N f).set 143 z = wl g x ++ [z] := fun z => by
    have h := List.set_append_right (s := (wl g x : List (Nat × va_E))) (t := (vRow g b N f : List (Nat × va_E))) 143 z (by rw [wl_len]; omega)
    rw [wl_len] at h
    exact h
  refine va_iast hc.1 hc.2.1 hk.1 hv.1 hv.2.1 hv.2.2 143 0 (by rw [List.getElem?_append_right (by rw [wl_len]; omega), wl_len]; rfl) rfl hin hdg (fun H1 locs1 hP hD hS => kk H1 locs1 ⟨?_, ?_, hS⟩)
  · rw [e9, hi] at hP; exact hP
  · rw [e9, hi] at hD; exact hD
theorem k_vld (hc : CX p c cc s args m own) (hk : WK g s s.heap) {b N : Nat} {f : Nat → Int32} (hv : va_P g.1 vwCl (vRow g b N f) H) {i v : Int32} {n : Nat} (hin : vp_in i N) (hi : i.toNatClampNeg = n) (hf : f n = v) (hdg : decode cc pc = .ok (.iaload, 1))
    (kk : W p l e R s m args below meth c H locs cells slots Q (F0 m (pc + 1) ls (.int v :: rest))) : W p l e R s m args below meth c H locs cells slots Q (F0 m pc ls (.int i :: .ref b :: rest)) :=
  va_iald hc.1 hc.2.1 hk.1 hv 0 0 rfl rfl hin hdg (by rw [hi, hf]; exact kk)
theorem kp_v (hk : WK g s s.heap) {b N : Nat} {f : Nat → Int32} {As : List Value} (hv : WV g s x b N f H locs) : PreS s H (va_Pc As (preV g x b N f)) As :=
  ⟨preV_blind, fun U hU hW => ⟨rfl, WK.at hk hv.w.2 hU hW, by show va_P _ _ _ U.heap; rw [hU]; exact hv.w.1, by rw [hU]; exact hv.v⟩⟩
theorem kp_v0 (hk : WK g s s.heap) (hw : WS g s x H locs) {b N : Nat} {f : Nat → Int32} {As : List Value} (hv : va_P g.1 vwCl (vRow g b N f) H) : PreS s H (va_Pc As (preV g x b N f)) As :=
  ⟨preV_blind, fun U hU hW => ⟨rfl, WK.at hk hw.2 hU hW, by show va_P _ _ _ U.heap; rw [hU]; exact hw.1, by rw [hU]; exact hv⟩⟩
variable {y : MethodName} {cy : ByteArray} {ny index mc ms : Nat} {ry : Option FieldType} {hh : List (Nat × Nat × Nat × Nat)} {rm : Room}
theorem kw_SW (hc : CX p c cc s args m own) (n : Nat) (hl : Cond.methodLink own index y ∈ W0) (hi : Cond.static y ∈ W0) (hn : Cond.initialized y.cls ∈ W0) (hcd : Cond.codeWith y cy ny ry hh ∈ W0) (hrc : rm.cells = mc) (hrs : rm.slots = ms) (hd : y.cls ≠ "java/lang/invoke/MethodHandle" ∧ y.cls ≠ "java/lang/invoke/VarHandle" ∧ (parseMethodDescriptor y.desc).map (fun d => d.parameters.length) = some n) (hR : rm.frames + 1 ≤ R.frames ∧ 8 + (ny + 11) + rm.locals ≤ R.locals) : vx_CSW R s args own index y cy ny ry hh (wsH y cy ny ry hh) rm mc ms n :=
  vx_cwSW n hc.2.2.2 (goodIn_mh (ws := [.methodLink own index y, .static y, .initialized y.cls]) (by
    intro w hw
    simp only [List.mem_cons, List.not_mem_nil, or_false] at hw
    rcases hw with rfl | rfl | rfl <;> assumption) hcd) rfl hrc hrs hd hR
end KV
def tbA : List (Nat × Nat × Nat × Nat) := [(0, 250, 411, 67), (251, 258, 411, 67), (259, 275, 411, 67), (276, 303, 411, 67), (304, 319, 411, 67), (320, 327, 411, 67), (328, 335, 411, 67), (336, 343, 411, 67), (344, 352, 411, 67), (353, 360, 411, 67), (361, 368, 411, 67), (369, 379, 411, 67), (380, 387, 411, 67), (388, 395, 411, 67), (396, 403, 411, 67), (404, 410, 411, 67), (0, 250, 415, 70), (251, 258, 415, 70), (259, 275, 415, 70), (276, 303, 415, 70), (304, 319, 415, 70), (320, 327, 415, 70), (328, 335, 415, 70), (336, 343, 415, 70), (344, 352, 415, 70), (353, 360, 415, 70), (361, 368, 415, 70), (369, 379, 415, 70), (380, 387, 415, 70), (388, 395, 415, 70), (396, 403, 415, 70), (404, 410, 415, 70), (0, 250, 419, 73), (251, 258, 419, 73), (259, 275, 419, 73), (276, 303, 419, 73), (304, 319, 419, 73), (320, 327, 419, 73), (328, 335, 419, 73), (336, 343, 419, 73), (344, 352, 419, 73), (353, 360, 419, 73), (361, 368, 419, 73), (369, 379, 419, 73), (380, 387, 419, 73), (388, 395, 419, 73), (396, 403, 419, 73), (404, 410, 419, 73), (0, 250, 423, 76), (251, 258, 423, 76), (259, 275, 423, 76), (276, 303, 423, 76), (304, 319, 423, 76), (320, 327, 423, 76), (328, 335, 423, 76), (336, 343, 423, 76), (344, 352, 423, 76), (353, 360, 423, 76), (361, 368, 423, 76), (369, 379, 423, 76), (380, 387, 423, 76), (388, 395, 423, 76), (396, 403, 423, 76), (404, 410, 423, 76), (0, 250, 427, 79), (251, 258, 427, 79), (259, 275, 427, 79), (276, 303, 427, 79), (304, 319, 427, 79), (320, 327, 427, 79), (328, 335, 427, 79), (336, 343, 427, 79), (344, 352, 427, 79), (353, 360, 427, 79), (361, 368, 427, 79), (369, 379, 427, 79), (380, 387, 427, 79), (388, 395, 427, 79), (396, 403, 427, 79), (404, 410, 427, 79)]
theorem q_ask : Cond.codeWith yL_ask cL_ask 4 (some .int) tbA ∈ W0 := q528
abbrev rmQ : Room := { frames := 11, cells := 5, slots := 30, locals := 256 }
abbrev rmA : Room := { frames := 12, cells := 5, slots := 30, locals := 278 }
theorem tb_spl {α : Type} : ∀ (l : List α) (j : Nat) (x : α), l[j]? = some x → l = l.take j ++ x :: l.drop (j + 1) := by
  intro l
  induction l with
  | nil => intro j x h; simp at h
  | cons z t ih =>
    intro j x h
    cases j with
    | zero =>
      have e : z = x := by simpa using h
      subst e
      rfl
    | succ j =>
      have e : t[j]? = some x := by simpa using h
      show z :: t = z :: (t.take j ++ x :: t.drop (j + 1))
      rw [← ih j x e]
def ctN (t : Nat) : String := if t = 67 then "java/lang/IndexOutOfBoundsException" else if t = 70 then "java/lang/IllegalArgumentException" else if t = 73 then "java/lang/IllegalStateException" else if t = 76 then "java/lang/UnsupportedOperationException" else "java/util/NoSuchElementException"
theorem ctN_ok : ∀ t ∈ [67, 70, 73, 76, 79], Cond.classLink RL t (ctN t) ∈ W0 :=
  List.forall_mem_cons.mpr ⟨q529, List.forall_mem_cons.mpr ⟨q608, List.forall_mem_cons.mpr ⟨q609, List.forall_mem_cons.mpr ⟨q610, List.forall_mem_cons.mpr ⟨q611, fun _ h => absurd h List.not_mem_nil⟩⟩⟩⟩⟩
theorem k_cat {p : Program} {l : Launch} {e : Env} {R : Room} {s : State} {m : MethodId} {args : Array Value} {below : List Frame} {meth : Method} {c : Code} {H : Heap} {locs : List Loc} {cells slots : Nat} {Q : State → Prop} {g : wG} {ls : Array Slot} {rest : List Value} {ce : Cell} {q9 : Addr} {pc : Nat} {E name : String} (hc : CX p c cL_ask s args m RL) (hk : WK g s s.heap) (hTB : c.exceptionTable.toList = tableOf tbA) (hq : H[q9]? = some ce) (hv : ce.vm = .none) (hE : s.vm.findClass E = some ce.cls)
    (j : Nat) (x : ExceptionTableEntry) (h1 : (tableOf tbA)[j]? = some x) (hps : ∀ z ∈ (tableOf tbA).take j, covers z pc = false ∨ (z.catchType ≠ 0 ∧ z.catchType ∈ [67, 70, 73, 76, 79] ∧ (E, ctN z.catchType) ∈ ncL)) (hx : covers x pc = true) (h0 : x.catchType ≠ 0) (hlink : Cond.classLink RL x.catchType name ∈ W0) (hcast : Cond.castable E name ∈ NQ)
    (kk : W p l e R s m args below meth c H locs cells slots Q (F0 m x.handlerPc ls [.ref q9])) : vx_W p l e R s m args below meth c H locs cells slots Q (F0 m pc ls rest) q9 :=
  vx_catch hc.2.2.1 ((tableOf tbA).take j) x ((tableOf tbA).drop (j + 1)) (hTB.trans (tb_spl _ _ _ h1)) (fun z hz => (hps z hz).imp id (fun h => ⟨h.1, _, hc.2.2.2 _ (ctN_ok _ h.2.1), hk.2.2.2.2.2.2.2.1 (E, ctN z.catchType) h.2.2⟩)) hx h0 (hc.2.2.2 _ hlink) (hk.2.1.use hcast) hq hv hE kk
/-- asked, of one call -/
abbrev mQ (l : Launch) (g : wG) (v N : Nat) (f : Nat → Int32) (x : wSt) (o : Option String) (r : Int32) (x' : wSt) : Prop :=
  ∀ b : Nat, vx_Met l yL_asked (ws_ yL_asked cL_asked 3 (some .int)) rmQ (va_Pc [.ref (gA g 0), .int (nI v), .ref b] (preV g x b N f)) (va_Qi (fun (v : Int32) (u : wSt) => o = none ∧ v = r ∧ u = x') (PB g) (AA g)) (XX g x o) 5 30 (AA g)
/-- ask, of one call -/
abbrev mA (l : Launch) (g : wG) (v N : Nat) (f : Nat → Int32) (x : wSt) (o : Option String) (r : Int32) (x' : wSt) : Prop :=
  ∀ b : Nat, Met l yL_ask (wsH yL_ask cL_ask 4 (some .int) tbA) rmA (va_Pc [.ref (gA g 0), .int (nI v), .ref b] (preV g x b N f)) (va_Qi (fun (v : Int32) (u : wSt) => v = kA o r ∧ u = if o = none then x' else x) (PB g) (AA g)) 5 30 (AA g)
theorem ex_X6_requireRange {a1 : Int32} {a2 : Int32} {a3 : Int32} : eIn ["java/lang/IllegalArgumentException"] (e_X6_requireRange a1 a2 a3) := by
  unfold e_X6_requireRange
  repeat' (first | exact eIn_none | exact eIn_some (by decide +kernel) | apply eIn_ite)
theorem ex_X6_addOffice {a1 : Int32} {a2 : Int32} {B : BT} : eIn ["java/lang/IllegalStateException", "java/lang/IllegalArgumentException"] (e_X6_addOffice a1 a2 B) := by
  unfold e_X6_addOffice
  repeat' (first | exact eIn_none | exact eIn_some (by decide +kernel) | exact eIn_mono ex_X6_requireRange (by decide +kernel) | apply eIn_ite)
theorem ex_X6_pass {a1 : Int32} {B : BT} : eIn ["java/lang/IllegalStateException", "java/lang/IllegalArgumentException"] (e_X6_pass a1 B) := by
  unfold e_X6_pass
  repeat' (first | exact eIn_none | exact eIn_some (by decide +kernel) | exact eIn_mono ex_X6_requireRange (by decide +kernel) | apply eIn_ite)
theorem ex_X6_requireOffice {a1 : Int32} {B : BT} : eIn ["java/lang/IndexOutOfBoundsException"] (e_X6_requireOffice a1 B) := by
  unfold e_X6_requireOffice
  repeat' (first | exact eIn_none | exact eIn_some (by decide +kernel) | apply eIn_ite)
theorem ex_X6_complain {a1 : Int32} {a2 : Int32} {a3 : Int32} {a4 : Int32} {B : BT} : eIn ["java/lang/IllegalStateException", "java/lang/IndexOutOfBoundsException", "java/lang/IllegalArgumentException"] (e_X6_complain a1 a2 a3 a4 B) := by
  unfold e_X6_complain
  repeat' (first | exact eIn_none | exact eIn_some (by decide +kernel) | exact eIn_mono ex_X6_requireOffice (by decide +kernel) | exact eIn_mono ex_X6_requireRange (by decide +kernel) | apply eIn_ite)
theorem ex_X6_known {a1 : Int32} {B : BT} : eIn ["java/lang/IndexOutOfBoundsException"] (e_X6_known a1 B) := by
  unfold e_X6_known
  repeat' (first | exact eIn_none | exact eIn_some (by decide +kernel) | apply eIn_ite)
theorem ex_X6_requireAtIntake {i1 : Nat} {B : BT} : eIn ["java/lang/UnsupportedOperationException"] (e_X6_requireAtIntake i1 B) := by
  unfold e_X6_requireAtIntake
  repeat' (first | exact eIn_none | exact eIn_some (by decide +kernel) | apply eIn_ite)
theorem ex_X6_setCourt {a1 : Int32} {a2 : Int32} {B : BT} : eIn ["java/lang/IndexOutOfBoundsException", "java/lang/UnsupportedOperationException"] (e_X6_setCourt a1 a2 B) := by
  unfold e_X6_setCourt
  repeat' (first | exact eIn_none | exact eIn_some (by decide +kernel) | exact eIn_mono ex_X6_known (by decide +kernel) | exact eIn_mono ex_X6_requireAtIntake (by decide +kernel) | apply eIn_ite)
theorem ex_X6_excuse {a1 : Int32} {B : BT} : eIn ["java/lang/IndexOutOfBoundsException", "java/lang/UnsupportedOperationException"] (e_X6_excuse a1 B) := by
  unfold e_X6_excuse
  repeat' (first | exact eIn_none | exact eIn_some (by decide +kernel) | exact eIn_mono ex_X6_known (by decide +kernel) | exact eIn_mono ex_X6_requireAtIntake (by decide +kernel) | apply eIn_ite)
theorem ex_X6_takeStep {a1 : Int32} {B : BT} : eIn ["java/lang/UnsupportedOperationException", "java/lang/IndexOutOfBoundsException"] (e_X6_takeStep a1 B) := by
  unfold e_X6_takeStep
  repeat' (first | exact eIn_none | exact eIn_some (by decide +kernel) | exact eIn_mono ex_X6_known (by decide +kernel) | exact eIn_mono ex_X6_requireAtIntake (by decide +kernel) | apply eIn_ite)
theorem ex_X6_examine {a1 : Int32} {B : BT} : eIn ["java/lang/IndexOutOfBoundsException", "java/lang/UnsupportedOperationException"] (e_X6_examine a1 B) := by
  unfold e_X6_examine
  repeat' (first | exact eIn_none | exact eIn_some (by decide +kernel) | exact eIn_mono ex_X6_known (by decide +kernel) | exact eIn_mono ex_X6_requireAtIntake (by decide +kernel) | apply eIn_ite)
theorem ex_X6_state {a1 : Int32} {B : BT} : eIn ["java/lang/IndexOutOfBoundsException"] (e_X6_state a1 B) := by
  unfold e_X6_state
  repeat' (first | exact eIn_none | exact eIn_some (by decide +kernel) | exact eIn_mono ex_X6_known (by decide +kernel) | apply eIn_ite)
theorem ex_X6_countState {a1 : Int32} {B : BT} : eIn ["java/lang/IllegalArgumentException"] (e_X6_countState a1 B) := by
  unfold e_X6_countState
  repeat' (first | exact eIn_none | exact eIn_some (by decide +kernel) | apply eIn_ite)
theorem ex_X6_countOf {a1 : Int32} {B : BT} : eIn ["java/lang/IllegalArgumentException"] (e_X6_countOf a1 B) := by
  unfold e_X6_countOf
  repeat' (first | exact eIn_none | exact eIn_some (by decide +kernel) | exact eIn_mono ex_X6_requireRange (by decide +kernel) | apply eIn_ite)
theorem ex_X6_requireOwn {i1 : Nat} {a2 : Int32} {B : BT} : eIn ["java/lang/UnsupportedOperationException"] (e_X6_requireOwn i1 a2 B) := by
  unfold e_X6_requireOwn
  repeat' (first | exact eIn_none | exact eIn_some (by decide +kernel) | apply eIn_ite)
theorem ex_X6_ask {a1 : Int32} {B : BT} : eIn ["java/lang/IndexOutOfBoundsException", "java/lang/UnsupportedOperationException"] (e_X6_ask a1 B) := by
  unfold e_X6_ask
  repeat' (first | exact eIn_none | exact eIn_some (by decide +kernel) | exact eIn_mono ex_X6_known (by decide +kernel) | exact eIn_mono ex_X6_requireOwn (by decide +kernel) | apply eIn_ite)
theorem ex_X6_extend {a1 : Int32} {a2 : Int32} {B : BT} : eIn ["java/lang/UnsupportedOperationException", "java/lang/IndexOutOfBoundsException", "java/lang/IllegalArgumentException"] (e_X6_extend a1 a2 B) := by
  unfold e_X6_extend
  repeat' (first | exact eIn_none | exact eIn_some (by decide +kernel) | exact eIn_mono ex_X6_known (by decide +kernel) | exact eIn_mono ex_X6_requireRange (by decide +kernel) | exact eIn_mono ex_X6_requireOwn (by decide +kernel) | apply eIn_ite)
theorem ex_X6_remind {a1 : Int32} {B : BT} : eIn ["java/lang/UnsupportedOperationException", "java/lang/IndexOutOfBoundsException"] (e_X6_remind a1 B) := by
  unfold e_X6_remind
  repeat' (first | exact eIn_none | exact eIn_some (by decide +kernel) | exact eIn_mono ex_X6_known (by decide +kernel) | exact eIn_mono ex_X6_requireOwn (by decide +kernel) | apply eIn_ite)
theorem ex_X6_answer {a1 : Int32} {B : BT} : eIn ["java/lang/IndexOutOfBoundsException", "java/lang/UnsupportedOperationException"] (e_X6_answer a1 B) := by
  unfold e_X6_answer
  repeat' (first | exact eIn_none | exact eIn_some (by decide +kernel) | exact eIn_mono ex_X6_known (by decide +kernel) | exact eIn_mono ex_X6_requireOwn (by decide +kernel) | apply eIn_ite)
theorem ex_X6_takeSilence {a1 : Int32} {B : BT} : eIn ["java/lang/UnsupportedOperationException", "java/lang/IndexOutOfBoundsException"] (e_X6_takeSilence a1 B) := by
  unfold e_X6_takeSilence
  repeat' (first | exact eIn_none | exact eIn_some (by decide +kernel) | exact eIn_mono ex_X6_known (by decide +kernel) | exact eIn_mono ex_X6_requireOwn (by decide +kernel) | apply eIn_ite)
theorem ex_X6_isOverdue {a1 : Int32} {B : BT} : eIn ["java/lang/IndexOutOfBoundsException"] (e_X6_isOverdue a1 B) := by
  unfold e_X6_isOverdue
  repeat' (first | exact eIn_none | exact eIn_some (by decide +kernel) | exact eIn_mono ex_X6_known (by decide +kernel) | apply eIn_ite)
theorem ex_X6_nextDue  {B : BT} : eIn ["java/util/NoSuchElementException"] (e_X6_nextDue B) := by
  unfold e_X6_nextDue
  repeat' (first | exact eIn_none | exact eIn_some (by decide +kernel) | apply eIn_ite)
theorem ex_X6_join {a1 : Int32} {a2 : Int32} {B : BT} : eIn ["java/lang/IllegalArgumentException", "java/lang/UnsupportedOperationException", "java/lang/IndexOutOfBoundsException"] (e_X6_join a1 a2 B) := by
  unfold e_X6_join
  repeat' (first | exact eIn_none | exact eIn_some (by decide +kernel) | exact eIn_mono ex_X6_known (by decide +kernel) | apply eIn_ite)
theorem ex_X6_part {a1 : Int32} {B : BT} : eIn ["java/lang/UnsupportedOperationException", "java/lang/IndexOutOfBoundsException"] (e_X6_part a1 B) := by
  unfold e_X6_part
  repeat' (first | exact eIn_none | exact eIn_some (by decide +kernel) | exact eIn_mono ex_X6_known (by decide +kernel) | apply eIn_ite)
theorem ex_X6_lead {a1 : Int32} {B : BT} : eIn ["java/lang/IndexOutOfBoundsException"] (e_X6_lead a1 B) := by
  unfold e_X6_lead
  repeat' (first | exact eIn_none | exact eIn_some (by decide +kernel) | exact eIn_mono ex_X6_known (by decide +kernel) | apply eIn_ite)
theorem ex_X6_countJoined {a1 : Int32} {B : BT} : eIn ["java/lang/IndexOutOfBoundsException"] (e_X6_countJoined a1 B) := by
  unfold e_X6_countJoined
  repeat' (first | exact eIn_none | exact eIn_some (by decide +kernel) | exact eIn_mono ex_X6_known (by decide +kernel) | apply eIn_ite)
theorem ex_X6_setWeight {a1 : Int32} {a2 : Int32} {B : BT} : eIn ["java/lang/IllegalArgumentException"] (e_X6_setWeight a1 a2 B) := by
  unfold e_X6_setWeight
  repeat' (first | exact eIn_none | exact eIn_some (by decide +kernel) | exact eIn_mono ex_X6_requireRange (by decide +kernel) | apply eIn_ite)
theorem ex_X6_find {a1 : Int32} {a2 : Int32} {B : BT} : eIn ["java/lang/IndexOutOfBoundsException", "java/lang/IllegalArgumentException", "java/lang/UnsupportedOperationException"] (e_X6_find a1 a2 B) := by
  unfold e_X6_find
  repeat' (first | exact eIn_none | exact eIn_some (by decide +kernel) | exact eIn_mono ex_X6_known (by decide +kernel) | exact eIn_mono ex_X6_requireRange (by decide +kernel) | exact eIn_mono ex_X6_requireOwn (by decide +kernel) | apply eIn_ite)
theorem ex_X6_heads {a1 : Int32} {B : BT} : eIn ["java/util/NoSuchElementException", "java/lang/IndexOutOfBoundsException"] (e_X6_heads a1 B) := by
  unfold e_X6_heads
  repeat' (first | exact eIn_none | exact eIn_some (by decide +kernel) | exact eIn_mono ex_X6_known (by decide +kernel) | apply eIn_ite)
theorem ex_X6_remedy {a1 : Int32} {B : BT} : eIn ["java/util/NoSuchElementException", "java/lang/IndexOutOfBoundsException"] (e_X6_remedy a1 B) := by
  unfold e_X6_remedy
  repeat' (first | exact eIn_none | exact eIn_some (by decide +kernel) | exact eIn_mono ex_X6_known (by decide +kernel) | apply eIn_ite)
theorem ex_X6_accept {a1 : Int32} {a2 : Int32} {B : BT} : eIn ["java/lang/UnsupportedOperationException", "java/lang/IndexOutOfBoundsException"] (e_X6_accept a1 a2 B) := by
  unfold e_X6_accept
  repeat' (first | exact eIn_none | exact eIn_some (by decide +kernel) | exact eIn_mono ex_X6_known (by decide +kernel) | exact eIn_mono ex_X6_requireOwn (by decide +kernel) | apply eIn_ite)
theorem ex_X6_isAccepted {a1 : Int32} {B : BT} : eIn ["java/util/NoSuchElementException", "java/lang/IndexOutOfBoundsException"] (e_X6_isAccepted a1 B) := by
  unfold e_X6_isAccepted
  repeat' (first | exact eIn_none | exact eIn_some (by decide +kernel) | exact eIn_mono ex_X6_known (by decide +kernel) | apply eIn_ite)
theorem ex_X6_heed {a1 : Int32} {B : BT} : eIn ["java/lang/UnsupportedOperationException", "java/lang/IndexOutOfBoundsException"] (e_X6_heed a1 B) := by
  unfold e_X6_heed
  repeat' (first | exact eIn_none | exact eIn_some (by decide +kernel) | exact eIn_mono ex_X6_known (by decide +kernel) | exact eIn_mono ex_X6_requireOwn (by decide +kernel) | apply eIn_ite)
theorem ex_X6_followUp {a1 : Int32} {B : BT} : eIn ["java/lang/UnsupportedOperationException", "java/lang/IndexOutOfBoundsException"] (e_X6_followUp a1 B) := by
  unfold e_X6_followUp
  repeat' (first | exact eIn_none | exact eIn_some (by decide +kernel) | exact eIn_mono ex_X6_known (by decide +kernel) | exact eIn_mono ex_X6_requireOwn (by decide +kernel) | apply eIn_ite)
theorem ex_X6_withdraw {a1 : Int32} {B : BT} : eIn ["java/lang/UnsupportedOperationException", "java/lang/IndexOutOfBoundsException"] (e_X6_withdraw a1 B) := by
  unfold e_X6_withdraw
  repeat' (first | exact eIn_none | exact eIn_some (by decide +kernel) | exact eIn_mono ex_X6_known (by decide +kernel) | apply eIn_ite)
theorem ex_X6_days {a1 : Int32} {B : BT} : eIn ["java/lang/IndexOutOfBoundsException"] (e_X6_days a1 B) := by
  unfold e_X6_days
  repeat' (first | exact eIn_none | exact eIn_some (by decide +kernel) | exact eIn_mono ex_X6_known (by decide +kernel) | apply eIn_ite)
theorem ex_X6_heededShare {a1 : Int32} {B : BT} : eIn ["java/lang/ArithmeticException", "java/lang/IndexOutOfBoundsException"] (e_X6_heededShare a1 B) := by
  unfold e_X6_heededShare
  repeat' (first | exact eIn_none | exact eIn_some (by decide +kernel) | exact eIn_mono ex_X6_requireOffice (by decide +kernel) | apply eIn_ite)
theorem ex_X6_meanDays  {B : BT} : eIn ["java/lang/ArithmeticException"] (e_X6_meanDays B) := by
  unfold e_X6_meanDays
  repeat' (first | exact eIn_none | exact eIn_some (by decide +kernel) | apply eIn_ite)
set_option maxHeartbeats 4000000 in
set_option maxRecDepth 100000 in
theorem cat_247_2 {p : Program} {l : Launch} {e : Env} {R : Room} {s : State} {m : MethodId} {args : Array Value} {below : List Frame} {meth : Method} {c : Code} {H : Heap} {locs : List Loc} {cells slots : Nat} {Q : State → Prop} {g : wG} {ls : Array Slot} {rest : List Value} {ce : Cell} {q9 : Addr} (hc : CX p c cL_ask s args m RL) (hk : WK g s s.heap) (hTB : c.exceptionTable.toList = tableOf tbA) (hq : H[q9]? = some ce) (hv : ce.vm = .none) (hE : s.vm.findClass "java/lang/IllegalArgumentException" = some ce.cls)
    (kk : W p l e R s m args below meth c H locs cells slots Q (F0 m 415 ls [.ref q9])) : vx_W p l e R s m args below meth c H locs cells slots Q (F0 m 247 ls rest) q9 :=
  k_cat hc hk hTB hq hv hE 16 ⟨0, 250, 415, 70⟩ rfl (by decide +kernel) rfl (by decide) q608 nq622 kk
set_option maxHeartbeats 4000000 in
set_option maxRecDepth 100000 in
theorem cat_247_3 {p : Program} {l : Launch} {e : Env} {R : Room} {s : State} {m : MethodId} {args : Array Value} {below : List Frame} {meth : Method} {c : Code} {H : Heap} {locs : List Loc} {cells slots : Nat} {Q : State → Prop} {g : wG} {ls : Array Slot} {rest : List Value} {ce : Cell} {q9 : Addr} (hc : CX p c cL_ask s args m RL) (hk : WK g s s.heap) (hTB : c.exceptionTable.toList = tableOf tbA) (hq : H[q9]? = some ce) (hv : ce.vm = .none) (hE : s.vm.findClass "java/lang/IllegalStateException" = some ce.cls)
    (kk : W p l e R s m args below meth c H locs cells slots Q (F0 m 419 ls [.ref q9])) : vx_W p l e R s m args below meth c H locs cells slots Q (F0 m 247 ls rest) q9 :=
  k_cat hc hk hTB hq hv hE 32 ⟨0, 250, 419, 73⟩ rfl (by decide +kernel) rfl (by decide) q609 nq638 kk
set_option maxHeartbeats 4000000 in
set_option maxRecDepth 100000 in
theorem cat_255_2 {p : Program} {l : Launch} {e : Env} {R : Room} {s : State} {m : MethodId} {args : Array Value} {below : List Frame} {meth : Method} {c : Code} {H : Heap} {locs : List Loc} {cells slots : Nat} {Q : State → Prop} {g : wG} {ls : Array Slot} {rest : List Value} {ce : Cell} {q9 : Addr} (hc : CX p c cL_ask s args m RL) (hk : WK g s s.heap) (hTB : c.exceptionTable.toList = tableOf tbA) (hq : H[q9]? = some ce) (hv : ce.vm = .none) (hE : s.vm.findClass "java/lang/IllegalArgumentException" = some ce.cls)
    (kk : W p l e R s m args below meth c H locs cells slots Q (F0 m 415 ls [.ref q9])) : vx_W p l e R s m args below meth c H locs cells slots Q (F0 m 255 ls rest) q9 :=
  k_cat hc hk hTB hq hv hE 17 ⟨251, 258, 415, 70⟩ rfl (by decide +kernel) rfl (by decide) q608 nq622 kk
set_option maxHeartbeats 4000000 in
set_option maxRecDepth 100000 in
theorem cat_255_3 {p : Program} {l : Launch} {e : Env} {R : Room} {s : State} {m : MethodId} {args : Array Value} {below : List Frame} {meth : Method} {c : Code} {H : Heap} {locs : List Loc} {cells slots : Nat} {Q : State → Prop} {g : wG} {ls : Array Slot} {rest : List Value} {ce : Cell} {q9 : Addr} (hc : CX p c cL_ask s args m RL) (hk : WK g s s.heap) (hTB : c.exceptionTable.toList = tableOf tbA) (hq : H[q9]? = some ce) (hv : ce.vm = .none) (hE : s.vm.findClass "java/lang/IllegalStateException" = some ce.cls)
    (kk : W p l e R s m args below meth c H locs cells slots Q (F0 m 419 ls [.ref q9])) : vx_W p l e R s m args below meth c H locs cells slots Q (F0 m 255 ls rest) q9 :=
  k_cat hc hk hTB hq hv hE 33 ⟨251, 258, 419, 73⟩ rfl (by decide +kernel) rfl (by decide) q609 nq638 kk
set_option maxHeartbeats 4000000 in
set_option maxRecDepth 100000 in
theorem cat_272_2 {p : Program} {l : Launch} {e : Env} {R : Room} {s : State} {m : MethodId} {args : Array Value} {below : List Frame} {meth : Method} {c : Code} {H : Heap} {locs : List Loc} {cells slots : Nat} {Q : State → Prop} {g : wG} {ls : Array Slot} {rest : List Value} {ce : Cell} {q9 : Addr} (hc : CX p c cL_ask s args m RL) (hk : WK g s s.heap) (hTB : c.exceptionTable.toList = tableOf tbA) (hq : H[q9]? = some ce) (hv : ce.vm = .none) (hE : s.vm.findClass "java/lang/IllegalArgumentException" = some ce.cls)
    (kk : W p l e R s m args below meth c H locs cells slots Q (F0 m 415 ls [.ref q9])) : vx_W p l e R s m args below meth c H locs cells slots Q (F0 m 272 ls rest) q9 :=
  k_cat hc hk hTB hq hv hE 18 ⟨259, 275, 415, 70⟩ rfl (by decide +kernel) rfl (by decide) q608 nq622 kk
set_option maxHeartbeats 4000000 in
set_option maxRecDepth 100000 in
theorem cat_272_3 {p : Program} {l : Launch} {e : Env} {R : Room} {s : State} {m : MethodId} {args : Array Value} {below : List Frame} {meth : Method} {c : Code} {H : Heap} {locs : List Loc} {cells slots : Nat} {Q : State → Prop} {g : wG} {ls : Array Slot} {rest : List Value} {ce : Cell} {q9 : Addr} (hc : CX p c cL_ask s args m RL) (hk : WK g s s.heap) (hTB : c.exceptionTable.toList = tableOf tbA) (hq : H[q9]? = some ce) (hv : ce.vm = .none) (hE : s.vm.findClass "java/lang/IllegalStateException" = some ce.cls)
    (kk : W p l e R s m args below meth c H locs cells slots Q (F0 m 419 ls [.ref q9])) : vx_W p l e R s m args below meth c H locs cells slots Q (F0 m 272 ls rest) q9 :=
  k_cat hc hk hTB hq hv hE 34 ⟨259, 275, 419, 73⟩ rfl (by decide +kernel) rfl (by decide) q609 nq638 kk
set_option maxHeartbeats 4000000 in
set_option maxRecDepth 100000 in
theorem cat_272_1 {p : Program} {l : Launch} {e : Env} {R : Room} {s : State} {m : MethodId} {args : Array Value} {below : List Frame} {meth : Method} {c : Code} {H : Heap} {locs : List Loc} {cells slots : Nat} {Q : State → Prop} {g : wG} {ls : Array Slot} {rest : List Value} {ce : Cell} {q9 : Addr} (hc : CX p c cL_ask s args m RL) (hk : WK g s s.heap) (hTB : c.exceptionTable.toList = tableOf tbA) (hq : H[q9]? = some ce) (hv : ce.vm = .none) (hE : s.vm.findClass "java/lang/IndexOutOfBoundsException" = some ce.cls)
    (kk : W p l e R s m args below meth c H locs cells slots Q (F0 m 411 ls [.ref q9])) : vx_W p l e R s m args below meth c H locs cells slots Q (F0 m 272 ls rest) q9 :=
  k_cat hc hk hTB hq hv hE 2 ⟨259, 275, 411, 67⟩ rfl (by decide +kernel) rfl (by decide) q529 nq676 kk
set_option maxHeartbeats 4000000 in
set_option maxRecDepth 100000 in
theorem cat_292_1 {p : Program} {l : Launch} {e : Env} {R : Room} {s : State} {m : MethodId} {args : Array Value} {below : List Frame} {meth : Method} {c : Code} {H : Heap} {locs : List Loc} {cells slots : Nat} {Q : State → Prop} {g : wG} {ls : Array Slot} {rest : List Value} {ce : Cell} {q9 : Addr} (hc : CX p c cL_ask s args m RL) (hk : WK g s s.heap) (hTB : c.exceptionTable.toList = tableOf tbA) (hq : H[q9]? = some ce) (hv : ce.vm = .none) (hE : s.vm.findClass "java/lang/IndexOutOfBoundsException" = some ce.cls)
    (kk : W p l e R s m args below meth c H locs cells slots Q (F0 m 411 ls [.ref q9])) : vx_W p l e R s m args below meth c H locs cells slots Q (F0 m 292 ls rest) q9 :=
  k_cat hc hk hTB hq hv hE 3 ⟨276, 303, 411, 67⟩ rfl (by decide +kernel) rfl (by decide) q529 nq676 kk
set_option maxHeartbeats 4000000 in
set_option maxRecDepth 100000 in
theorem cat_292_4 {p : Program} {l : Launch} {e : Env} {R : Room} {s : State} {m : MethodId} {args : Array Value} {below : List Frame} {meth : Method} {c : Code} {H : Heap} {locs : List Loc} {cells slots : Nat} {Q : State → Prop} {g : wG} {ls : Array Slot} {rest : List Value} {ce : Cell} {q9 : Addr} (hc : CX p c cL_ask s args m RL) (hk : WK g s s.heap) (hTB : c.exceptionTable.toList = tableOf tbA) (hq : H[q9]? = some ce) (hv : ce.vm = .none) (hE : s.vm.findClass "java/lang/UnsupportedOperationException" = some ce.cls)
    (kk : W p l e R s m args below meth c H locs cells slots Q (F0 m 423 ls [.ref q9])) : vx_W p l e R s m args below meth c H locs cells slots Q (F0 m 292 ls rest) q9 :=
  k_cat hc hk hTB hq hv hE 51 ⟨276, 303, 423, 76⟩ rfl (by decide +kernel) rfl (by decide) q610 nq703 kk
set_option maxHeartbeats 4000000 in
set_option maxRecDepth 100000 in
theorem cat_308_1 {p : Program} {l : Launch} {e : Env} {R : Room} {s : State} {m : MethodId} {args : Array Value} {below : List Frame} {meth : Method} {c : Code} {H : Heap} {locs : List Loc} {cells slots : Nat} {Q : State → Prop} {g : wG} {ls : Array Slot} {rest : List Value} {ce : Cell} {q9 : Addr} (hc : CX p c cL_ask s args m RL) (hk : WK g s s.heap) (hTB : c.exceptionTable.toList = tableOf tbA) (hq : H[q9]? = some ce) (hv : ce.vm = .none) (hE : s.vm.findClass "java/lang/IndexOutOfBoundsException" = some ce.cls)
    (kk : W p l e R s m args below meth c H locs cells slots Q (F0 m 411 ls [.ref q9])) : vx_W p l e R s m args below meth c H locs cells slots Q (F0 m 308 ls rest) q9 :=
  k_cat hc hk hTB hq hv hE 4 ⟨304, 319, 411, 67⟩ rfl (by decide +kernel) rfl (by decide) q529 nq676 kk
set_option maxHeartbeats 4000000 in
set_option maxRecDepth 100000 in
theorem cat_308_4 {p : Program} {l : Launch} {e : Env} {R : Room} {s : State} {m : MethodId} {args : Array Value} {below : List Frame} {meth : Method} {c : Code} {H : Heap} {locs : List Loc} {cells slots : Nat} {Q : State → Prop} {g : wG} {ls : Array Slot} {rest : List Value} {ce : Cell} {q9 : Addr} (hc : CX p c cL_ask s args m RL) (hk : WK g s s.heap) (hTB : c.exceptionTable.toList = tableOf tbA) (hq : H[q9]? = some ce) (hv : ce.vm = .none) (hE : s.vm.findClass "java/lang/UnsupportedOperationException" = some ce.cls)
    (kk : W p l e R s m args below meth c H locs cells slots Q (F0 m 423 ls [.ref q9])) : vx_W p l e R s m args below meth c H locs cells slots Q (F0 m 308 ls rest) q9 :=
  k_cat hc hk hTB hq hv hE 52 ⟨304, 319, 423, 76⟩ rfl (by decide +kernel) rfl (by decide) q610 nq703 kk
set_option maxHeartbeats 4000000 in
set_option maxRecDepth 100000 in
theorem cat_324_1 {p : Program} {l : Launch} {e : Env} {R : Room} {s : State} {m : MethodId} {args : Array Value} {below : List Frame} {meth : Method} {c : Code} {H : Heap} {locs : List Loc} {cells slots : Nat} {Q : State → Prop} {g : wG} {ls : Array Slot} {rest : List Value} {ce : Cell} {q9 : Addr} (hc : CX p c cL_ask s args m RL) (hk : WK g s s.heap) (hTB : c.exceptionTable.toList = tableOf tbA) (hq : H[q9]? = some ce) (hv : ce.vm = .none) (hE : s.vm.findClass "java/lang/IndexOutOfBoundsException" = some ce.cls)
    (kk : W p l e R s m args below meth c H locs cells slots Q (F0 m 411 ls [.ref q9])) : vx_W p l e R s m args below meth c H locs cells slots Q (F0 m 324 ls rest) q9 :=
  k_cat hc hk hTB hq hv hE 5 ⟨320, 327, 411, 67⟩ rfl (by decide +kernel) rfl (by decide) q529 nq676 kk
set_option maxHeartbeats 4000000 in
set_option maxRecDepth 100000 in
theorem cat_324_4 {p : Program} {l : Launch} {e : Env} {R : Room} {s : State} {m : MethodId} {args : Array Value} {below : List Frame} {meth : Method} {c : Code} {H : Heap} {locs : List Loc} {cells slots : Nat} {Q : State → Prop} {g : wG} {ls : Array Slot} {rest : List Value} {ce : Cell} {q9 : Addr} (hc : CX p c cL_ask s args m RL) (hk : WK g s s.heap) (hTB : c.exceptionTable.toList = tableOf tbA) (hq : H[q9]? = some ce) (hv : ce.vm = .none) (hE : s.vm.findClass "java/lang/UnsupportedOperationException" = some ce.cls)
    (kk : W p l e R s m args below meth c H locs cells slots Q (F0 m 423 ls [.ref q9])) : vx_W p l e R s m args below meth c H locs cells slots Q (F0 m 324 ls rest) q9 :=
  k_cat hc hk hTB hq hv hE 53 ⟨320, 327, 423, 76⟩ rfl (by decide +kernel) rfl (by decide) q610 nq703 kk
set_option maxHeartbeats 4000000 in
set_option maxRecDepth 100000 in
theorem cat_332_1 {p : Program} {l : Launch} {e : Env} {R : Room} {s : State} {m : MethodId} {args : Array Value} {below : List Frame} {meth : Method} {c : Code} {H : Heap} {locs : List Loc} {cells slots : Nat} {Q : State → Prop} {g : wG} {ls : Array Slot} {rest : List Value} {ce : Cell} {q9 : Addr} (hc : CX p c cL_ask s args m RL) (hk : WK g s s.heap) (hTB : c.exceptionTable.toList = tableOf tbA) (hq : H[q9]? = some ce) (hv : ce.vm = .none) (hE : s.vm.findClass "java/lang/IndexOutOfBoundsException" = some ce.cls)
    (kk : W p l e R s m args below meth c H locs cells slots Q (F0 m 411 ls [.ref q9])) : vx_W p l e R s m args below meth c H locs cells slots Q (F0 m 332 ls rest) q9 :=
  k_cat hc hk hTB hq hv hE 6 ⟨328, 335, 411, 67⟩ rfl (by decide +kernel) rfl (by decide) q529 nq676 kk
set_option maxHeartbeats 4000000 in
set_option maxRecDepth 100000 in
theorem cat_332_4 {p : Program} {l : Launch} {e : Env} {R : Room} {s : State} {m : MethodId} {args : Array Value} {below : List Frame} {meth : Method} {c : Code} {H : Heap} {locs : List Loc} {cells slots : Nat} {Q : State → Prop} {g : wG} {ls : Array Slot} {rest : List Value} {ce : Cell} {q9 : Addr} (hc : CX p c cL_ask s args m RL) (hk : WK g s s.heap) (hTB : c.exceptionTable.toList = tableOf tbA) (hq : H[q9]? = some ce) (hv : ce.vm = .none) (hE : s.vm.findClass "java/lang/UnsupportedOperationException" = some ce.cls)
    (kk : W p l e R s m args below meth c H locs cells slots Q (F0 m 423 ls [.ref q9])) : vx_W p l e R s m args below meth c H locs cells slots Q (F0 m 332 ls rest) q9 :=
  k_cat hc hk hTB hq hv hE 54 ⟨328, 335, 423, 76⟩ rfl (by decide +kernel) rfl (by decide) q610 nq703 kk
set_option maxHeartbeats 4000000 in
set_option maxRecDepth 100000 in
theorem cat_340_1 {p : Program} {l : Launch} {e : Env} {R : Room} {s : State} {m : MethodId} {args : Array Value} {below : List Frame} {meth : Method} {c : Code} {H : Heap} {locs : List Loc} {cells slots : Nat} {Q : State → Prop} {g : wG} {ls : Array Slot} {rest : List Value} {ce : Cell} {q9 : Addr} (hc : CX p c cL_ask s args m RL) (hk : WK g s s.heap) (hTB : c.exceptionTable.toList = tableOf tbA) (hq : H[q9]? = some ce) (hv : ce.vm = .none) (hE : s.vm.findClass "java/lang/IndexOutOfBoundsException" = some ce.cls)
    (kk : W p l e R s m args below meth c H locs cells slots Q (F0 m 411 ls [.ref q9])) : vx_W p l e R s m args below meth c H locs cells slots Q (F0 m 340 ls rest) q9 :=
  k_cat hc hk hTB hq hv hE 7 ⟨336, 343, 411, 67⟩ rfl (by decide +kernel) rfl (by decide) q529 nq676 kk
set_option maxHeartbeats 4000000 in
set_option maxRecDepth 100000 in
theorem cat_349_2 {p : Program} {l : Launch} {e : Env} {R : Room} {s : State} {m : MethodId} {args : Array Value} {below : List Frame} {meth : Method} {c : Code} {H : Heap} {locs : List Loc} {cells slots : Nat} {Q : State → Prop} {g : wG} {ls : Array Slot} {rest : List Value} {ce : Cell} {q9 : Addr} (hc : CX p c cL_ask s args m RL) (hk : WK g s s.heap) (hTB : c.exceptionTable.toList = tableOf tbA) (hq : H[q9]? = some ce) (hv : ce.vm = .none) (hE : s.vm.findClass "java/lang/IllegalArgumentException" = some ce.cls)
    (kk : W p l e R s m args below meth c H locs cells slots Q (F0 m 415 ls [.ref q9])) : vx_W p l e R s m args below meth c H locs cells slots Q (F0 m 349 ls rest) q9 :=
  k_cat hc hk hTB hq hv hE 24 ⟨344, 352, 415, 70⟩ rfl (by decide +kernel) rfl (by decide) q608 nq622 kk
set_option maxHeartbeats 4000000 in
set_option maxRecDepth 100000 in
theorem cat_357_2 {p : Program} {l : Launch} {e : Env} {R : Room} {s : State} {m : MethodId} {args : Array Value} {below : List Frame} {meth : Method} {c : Code} {H : Heap} {locs : List Loc} {cells slots : Nat} {Q : State → Prop} {g : wG} {ls : Array Slot} {rest : List Value} {ce : Cell} {q9 : Addr} (hc : CX p c cL_ask s args m RL) (hk : WK g s s.heap) (hTB : c.exceptionTable.toList = tableOf tbA) (hq : H[q9]? = some ce) (hv : ce.vm = .none) (hE : s.vm.findClass "java/lang/IllegalArgumentException" = some ce.cls)
    (kk : W p l e R s m args below meth c H locs cells slots Q (F0 m 415 ls [.ref q9])) : vx_W p l e R s m args below meth c H locs cells slots Q (F0 m 357 ls rest) q9 :=
  k_cat hc hk hTB hq hv hE 25 ⟨353, 360, 415, 70⟩ rfl (by decide +kernel) rfl (by decide) q608 nq622 kk
set_option maxHeartbeats 4000000 in
set_option maxRecDepth 100000 in
theorem cat_365_1 {p : Program} {l : Launch} {e : Env} {R : Room} {s : State} {m : MethodId} {args : Array Value} {below : List Frame} {meth : Method} {c : Code} {H : Heap} {locs : List Loc} {cells slots : Nat} {Q : State → Prop} {g : wG} {ls : Array Slot} {rest : List Value} {ce : Cell} {q9 : Addr} (hc : CX p c cL_ask s args m RL) (hk : WK g s s.heap) (hTB : c.exceptionTable.toList = tableOf tbA) (hq : H[q9]? = some ce) (hv : ce.vm = .none) (hE : s.vm.findClass "java/lang/IndexOutOfBoundsException" = some ce.cls)
    (kk : W p l e R s m args below meth c H locs cells slots Q (F0 m 411 ls [.ref q9])) : vx_W p l e R s m args below meth c H locs cells slots Q (F0 m 365 ls rest) q9 :=
  k_cat hc hk hTB hq hv hE 10 ⟨361, 368, 411, 67⟩ rfl (by decide +kernel) rfl (by decide) q529 nq676 kk
set_option maxHeartbeats 4000000 in
set_option maxRecDepth 100000 in
theorem cat_365_4 {p : Program} {l : Launch} {e : Env} {R : Room} {s : State} {m : MethodId} {args : Array Value} {below : List Frame} {meth : Method} {c : Code} {H : Heap} {locs : List Loc} {cells slots : Nat} {Q : State → Prop} {g : wG} {ls : Array Slot} {rest : List Value} {ce : Cell} {q9 : Addr} (hc : CX p c cL_ask s args m RL) (hk : WK g s s.heap) (hTB : c.exceptionTable.toList = tableOf tbA) (hq : H[q9]? = some ce) (hv : ce.vm = .none) (hE : s.vm.findClass "java/lang/UnsupportedOperationException" = some ce.cls)
    (kk : W p l e R s m args below meth c H locs cells slots Q (F0 m 423 ls [.ref q9])) : vx_W p l e R s m args below meth c H locs cells slots Q (F0 m 365 ls rest) q9 :=
  k_cat hc hk hTB hq hv hE 58 ⟨361, 368, 423, 76⟩ rfl (by decide +kernel) rfl (by decide) q610 nq703 kk
set_option maxHeartbeats 4000000 in
set_option maxRecDepth 100000 in
theorem cat_376_2 {p : Program} {l : Launch} {e : Env} {R : Room} {s : State} {m : MethodId} {args : Array Value} {below : List Frame} {meth : Method} {c : Code} {H : Heap} {locs : List Loc} {cells slots : Nat} {Q : State → Prop} {g : wG} {ls : Array Slot} {rest : List Value} {ce : Cell} {q9 : Addr} (hc : CX p c cL_ask s args m RL) (hk : WK g s s.heap) (hTB : c.exceptionTable.toList = tableOf tbA) (hq : H[q9]? = some ce) (hv : ce.vm = .none) (hE : s.vm.findClass "java/lang/IllegalArgumentException" = some ce.cls)
    (kk : W p l e R s m args below meth c H locs cells slots Q (F0 m 415 ls [.ref q9])) : vx_W p l e R s m args below meth c H locs cells slots Q (F0 m 376 ls rest) q9 :=
  k_cat hc hk hTB hq hv hE 27 ⟨369, 379, 415, 70⟩ rfl (by decide +kernel) rfl (by decide) q608 nq622 kk
set_option maxHeartbeats 4000000 in
set_option maxRecDepth 100000 in
theorem cat_376_1 {p : Program} {l : Launch} {e : Env} {R : Room} {s : State} {m : MethodId} {args : Array Value} {below : List Frame} {meth : Method} {c : Code} {H : Heap} {locs : List Loc} {cells slots : Nat} {Q : State → Prop} {g : wG} {ls : Array Slot} {rest : List Value} {ce : Cell} {q9 : Addr} (hc : CX p c cL_ask s args m RL) (hk : WK g s s.heap) (hTB : c.exceptionTable.toList = tableOf tbA) (hq : H[q9]? = some ce) (hv : ce.vm = .none) (hE : s.vm.findClass "java/lang/IndexOutOfBoundsException" = some ce.cls)
    (kk : W p l e R s m args below meth c H locs cells slots Q (F0 m 411 ls [.ref q9])) : vx_W p l e R s m args below meth c H locs cells slots Q (F0 m 376 ls rest) q9 :=
  k_cat hc hk hTB hq hv hE 11 ⟨369, 379, 411, 67⟩ rfl (by decide +kernel) rfl (by decide) q529 nq676 kk
set_option maxHeartbeats 4000000 in
set_option maxRecDepth 100000 in
theorem cat_376_4 {p : Program} {l : Launch} {e : Env} {R : Room} {s : State} {m : MethodId} {args : Array Value} {below : List Frame} {meth : Method} {c : Code} {H : Heap} {locs : List Loc} {cells slots : Nat} {Q : State → Prop} {g : wG} {ls : Array Slot} {rest : List Value} {ce : Cell} {q9 : Addr} (hc : CX p c cL_ask s args m RL) (hk : WK g s s.heap) (hTB : c.exceptionTable.toList = tableOf tbA) (hq : H[q9]? = some ce) (hv : ce.vm = .none) (hE : s.vm.findClass "java/lang/UnsupportedOperationException" = some ce.cls)
    (kk : W p l e R s m args below meth c H locs cells slots Q (F0 m 423 ls [.ref q9])) : vx_W p l e R s m args below meth c H locs cells slots Q (F0 m 376 ls rest) q9 :=
  k_cat hc hk hTB hq hv hE 59 ⟨369, 379, 423, 76⟩ rfl (by decide +kernel) rfl (by decide) q610 nq703 kk
set_option maxHeartbeats 4000000 in
set_option maxRecDepth 100000 in
theorem cat_384_1 {p : Program} {l : Launch} {e : Env} {R : Room} {s : State} {m : MethodId} {args : Array Value} {below : List Frame} {meth : Method} {c : Code} {H : Heap} {locs : List Loc} {cells slots : Nat} {Q : State → Prop} {g : wG} {ls : Array Slot} {rest : List Value} {ce : Cell} {q9 : Addr} (hc : CX p c cL_ask s args m RL) (hk : WK g s s.heap) (hTB : c.exceptionTable.toList = tableOf tbA) (hq : H[q9]? = some ce) (hv : ce.vm = .none) (hE : s.vm.findClass "java/lang/IndexOutOfBoundsException" = some ce.cls)
    (kk : W p l e R s m args below meth c H locs cells slots Q (F0 m 411 ls [.ref q9])) : vx_W p l e R s m args below meth c H locs cells slots Q (F0 m 384 ls rest) q9 :=
  k_cat hc hk hTB hq hv hE 12 ⟨380, 387, 411, 67⟩ rfl (by decide +kernel) rfl (by decide) q529 nq676 kk
set_option maxHeartbeats 4000000 in
set_option maxRecDepth 100000 in
theorem cat_384_4 {p : Program} {l : Launch} {e : Env} {R : Room} {s : State} {m : MethodId} {args : Array Value} {below : List Frame} {meth : Method} {c : Code} {H : Heap} {locs : List Loc} {cells slots : Nat} {Q : State → Prop} {g : wG} {ls : Array Slot} {rest : List Value} {ce : Cell} {q9 : Addr} (hc : CX p c cL_ask s args m RL) (hk : WK g s s.heap) (hTB : c.exceptionTable.toList = tableOf tbA) (hq : H[q9]? = some ce) (hv : ce.vm = .none) (hE : s.vm.findClass "java/lang/UnsupportedOperationException" = some ce.cls)
    (kk : W p l e R s m args below meth c H locs cells slots Q (F0 m 423 ls [.ref q9])) : vx_W p l e R s m args below meth c H locs cells slots Q (F0 m 384 ls rest) q9 :=
  k_cat hc hk hTB hq hv hE 60 ⟨380, 387, 423, 76⟩ rfl (by decide +kernel) rfl (by decide) q610 nq703 kk
set_option maxHeartbeats 4000000 in
set_option maxRecDepth 100000 in
theorem cat_392_1 {p : Program} {l : Launch} {e : Env} {R : Room} {s : State} {m : MethodId} {args : Array Value} {below : List Frame} {meth : Method} {c : Code} {H : Heap} {locs : List Loc} {cells slots : Nat} {Q : State → Prop} {g : wG} {ls : Array Slot} {rest : List Value} {ce : Cell} {q9 : Addr} (hc : CX p c cL_ask s args m RL) (hk : WK g s s.heap) (hTB : c.exceptionTable.toList = tableOf tbA) (hq : H[q9]? = some ce) (hv : ce.vm = .none) (hE : s.vm.findClass "java/lang/IndexOutOfBoundsException" = some ce.cls)
    (kk : W p l e R s m args below meth c H locs cells slots Q (F0 m 411 ls [.ref q9])) : vx_W p l e R s m args below meth c H locs cells slots Q (F0 m 392 ls rest) q9 :=
  k_cat hc hk hTB hq hv hE 13 ⟨388, 395, 411, 67⟩ rfl (by decide +kernel) rfl (by decide) q529 nq676 kk
set_option maxHeartbeats 4000000 in
set_option maxRecDepth 100000 in
theorem cat_392_4 {p : Program} {l : Launch} {e : Env} {R : Room} {s : State} {m : MethodId} {args : Array Value} {below : List Frame} {meth : Method} {c : Code} {H : Heap} {locs : List Loc} {cells slots : Nat} {Q : State → Prop} {g : wG} {ls : Array Slot} {rest : List Value} {ce : Cell} {q9 : Addr} (hc : CX p c cL_ask s args m RL) (hk : WK g s s.heap) (hTB : c.exceptionTable.toList = tableOf tbA) (hq : H[q9]? = some ce) (hv : ce.vm = .none) (hE : s.vm.findClass "java/lang/UnsupportedOperationException" = some ce.cls)
    (kk : W p l e R s m args below meth c H locs cells slots Q (F0 m 423 ls [.ref q9])) : vx_W p l e R s m args below meth c H locs cells slots Q (F0 m 392 ls rest) q9 :=
  k_cat hc hk hTB hq hv hE 61 ⟨388, 395, 423, 76⟩ rfl (by decide +kernel) rfl (by decide) q610 nq703 kk
set_option maxHeartbeats 4000000 in
set_option maxRecDepth 100000 in
theorem cat_400_1 {p : Program} {l : Launch} {e : Env} {R : Room} {s : State} {m : MethodId} {args : Array Value} {below : List Frame} {meth : Method} {c : Code} {H : Heap} {locs : List Loc} {cells slots : Nat} {Q : State → Prop} {g : wG} {ls : Array Slot} {rest : List Value} {ce : Cell} {q9 : Addr} (hc : CX p c cL_ask s args m RL) (hk : WK g s s.heap) (hTB : c.exceptionTable.toList = tableOf tbA) (hq : H[q9]? = some ce) (hv : ce.vm = .none) (hE : s.vm.findClass "java/lang/IndexOutOfBoundsException" = some ce.cls)
    (kk : W p l e R s m args below meth c H locs cells slots Q (F0 m 411 ls [.ref q9])) : vx_W p l e R s m args below meth c H locs cells slots Q (F0 m 400 ls rest) q9 :=
  k_cat hc hk hTB hq hv hE 14 ⟨396, 403, 411, 67⟩ rfl (by decide +kernel) rfl (by decide) q529 nq676 kk
set_option maxHeartbeats 4000000 in
set_option maxRecDepth 100000 in
theorem cat_400_4 {p : Program} {l : Launch} {e : Env} {R : Room} {s : State} {m : MethodId} {args : Array Value} {below : List Frame} {meth : Method} {c : Code} {H : Heap} {locs : List Loc} {cells slots : Nat} {Q : State → Prop} {g : wG} {ls : Array Slot} {rest : List Value} {ce : Cell} {q9 : Addr} (hc : CX p c cL_ask s args m RL) (hk : WK g s s.heap) (hTB : c.exceptionTable.toList = tableOf tbA) (hq : H[q9]? = some ce) (hv : ce.vm = .none) (hE : s.vm.findClass "java/lang/UnsupportedOperationException" = some ce.cls)
    (kk : W p l e R s m args below meth c H locs cells slots Q (F0 m 423 ls [.ref q9])) : vx_W p l e R s m args below meth c H locs cells slots Q (F0 m 400 ls rest) q9 :=
  k_cat hc hk hTB hq hv hE 62 ⟨396, 403, 423, 76⟩ rfl (by decide +kernel) rfl (by decide) q610 nq703 kk
set_option maxHeartbeats 4000000 in
set_option maxRecDepth 100000 in
theorem cat_407_2 {p : Program} {l : Launch} {e : Env} {R : Room} {s : State} {m : MethodId} {args : Array Value} {below : List Frame} {meth : Method} {c : Code} {H : Heap} {locs : List Loc} {cells slots : Nat} {Q : State → Prop} {g : wG} {ls : Array Slot} {rest : List Value} {ce : Cell} {q9 : Addr} (hc : CX p c cL_ask s args m RL) (hk : WK g s s.heap) (hTB : c.exceptionTable.toList = tableOf tbA) (hq : H[q9]? = some ce) (hv : ce.vm = .none) (hE : s.vm.findClass "java/lang/IllegalArgumentException" = some ce.cls)
    (kk : W p l e R s m args below meth c H locs cells slots Q (F0 m 415 ls [.ref q9])) : vx_W p l e R s m args below meth c H locs cells slots Q (F0 m 407 ls rest) q9 :=
  k_cat hc hk hTB hq hv hE 31 ⟨404, 410, 415, 70⟩ rfl (by decide +kernel) rfl (by decide) q608 nq622 kk
set_option maxHeartbeats 4000000 in
set_option maxRecDepth 100000 in
theorem cat_407_1 {p : Program} {l : Launch} {e : Env} {R : Room} {s : State} {m : MethodId} {args : Array Value} {below : List Frame} {meth : Method} {c : Code} {H : Heap} {locs : List Loc} {cells slots : Nat} {Q : State → Prop} {g : wG} {ls : Array Slot} {rest : List Value} {ce : Cell} {q9 : Addr} (hc : CX p c cL_ask s args m RL) (hk : WK g s s.heap) (hTB : c.exceptionTable.toList = tableOf tbA) (hq : H[q9]? = some ce) (hv : ce.vm = .none) (hE : s.vm.findClass "java/lang/IndexOutOfBoundsException" = some ce.cls)
    (kk : W p l e R s m args below meth c H locs cells slots Q (F0 m 411 ls [.ref q9])) : vx_W p l e R s m args below meth c H locs cells slots Q (F0 m 407 ls rest) q9 :=
  k_cat hc hk hTB hq hv hE 15 ⟨404, 410, 411, 67⟩ rfl (by decide +kernel) rfl (by decide) q529 nq676 kk
set_option maxHeartbeats 4000000 in
set_option maxRecDepth 100000 in
theorem cat_407_4 {p : Program} {l : Launch} {e : Env} {R : Room} {s : State} {m : MethodId} {args : Array Value} {below : List Frame} {meth : Method} {c : Code} {H : Heap} {locs : List Loc} {cells slots : Nat} {Q : State → Prop} {g : wG} {ls : Array Slot} {rest : List Value} {ce : Cell} {q9 : Addr} (hc : CX p c cL_ask s args m RL) (hk : WK g s s.heap) (hTB : c.exceptionTable.toList = tableOf tbA) (hq : H[q9]? = some ce) (hv : ce.vm = .none) (hE : s.vm.findClass "java/lang/UnsupportedOperationException" = some ce.cls)
    (kk : W p l e R s m args below meth c H locs cells slots Q (F0 m 423 ls [.ref q9])) : vx_W p l e R s m args below meth c H locs cells slots Q (F0 m 407 ls rest) q9 :=
  k_cat hc hk hTB hq hv hE 63 ⟨404, 410, 423, 76⟩ rfl (by decide +kernel) rfl (by decide) q610 nq703 kk
set_option maxHeartbeats 4000000 in
set_option maxRecDepth 100000 in
theorem cat_407_5 {p : Program} {l : Launch} {e : Env} {R : Room} {s : State} {m : MethodId} {args : Array Value} {below : List Frame} {meth : Method} {c : Code} {H : Heap} {locs : List Loc} {cells slots : Nat} {Q : State → Prop} {g : wG} {ls : Array Slot} {rest : List Value} {ce : Cell} {q9 : Addr} (hc : CX p c cL_ask s args m RL) (hk : WK g s s.heap) (hTB : c.exceptionTable.toList = tableOf tbA) (hq : H[q9]? = some ce) (hv : ce.vm = .none) (hE : s.vm.findClass "java/util/NoSuchElementException" = some ce.cls)
    (kk : W p l e R s m args below meth c H locs cells slots Q (F0 m 427 ls [.ref q9])) : vx_W p l e R s m args below meth c H locs cells slots Q (F0 m 407 ls rest) q9 :=
  k_cat hc hk hTB hq hv hE 79 ⟨404, 410, 427, 79⟩ rfl (by decide +kernel) rfl (by decide) q611 nq810 kk
