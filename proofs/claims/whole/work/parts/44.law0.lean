/-! the law's loop: what its rows need -/
theorem kE_none {o : Option String} {l : List String} (hl : l.length < 100) (h : kE o l = 0) : o = none := by
  cases o with
  | none => rfl
  | some E =>
    have h1 : kE (some E) l = nI (l.idxOf E + 1) := rfl
    rw [h1] at h
    have h2 := List.idxOf_le_length (l := l) (a := E)
    exact absurd h (nI_ne0 (by omega) (by omega))
theorem kE_0 (l : List String) : kE none l = 0 := rfl
theorem lw_self (x : Int64) : lg_cmp x x = 0 := by
  unfold lg_cmp
  rw [if_neg (Int64.lt_irrefl), if_pos rfl]
theorem fp_dn64 (n : Nat) (h2 : n % 2 ^ 63 ≤ 9218868437227405312) : FP.Core.decode FP.Core.b64 n ≠ .nan := by
  have ht : FP.Core.b64.tails = 4503599627370496 := by decide
  have he : FP.Core.b64.exps = 2048 := by decide
  unfold FP.Core.decode FP.Core.fieldE FP.Core.fieldT
  simp only [ht, he]
  by_cases h : n / 4503599627370496 % 2048 = 2048 - 1
  · rw [if_pos h, if_pos (by omega)]
    exact fun z => nomatch z
  · rw [if_neg h]
    split <;> exact fun z => nomatch z
theorem fp_cmpz (z : Int) : compare z z = Ordering.eq := by simp [compare, compareOfLessAndEq]
theorem fp_dcz {x : UInt64} (h : vf_n64 x) : Op.cmpValue (FP.dcmp x x) CmpOp.l = 0 := by
  unfold vf_n64 at h
  rw [UInt64.le_iff_toNat_le, UInt64.toNat_and] at h
  have e : (0x7fffffffffffffff : UInt64).toNat = 2 ^ 63 - 1 := by decide
  rw [e, Nat.and_two_pow_sub_one_eq_mod] at h
  have h1 := fp_dn64 x.toNat h
  have e2 : FP.dcmp x x = FP.Core.order (FP.Core.decode FP.Core.b64 x.toNat) (FP.Core.decode FP.Core.b64 x.toNat) := rfl
  rw [e2]
  generalize FP.Core.decode FP.Core.b64 x.toNat = d at h1
  cases d with
  | nan => exact absurd rfl h1
  | inf s =>
    show Op.cmpValue (some (compare (FP.Core.signed s 1) (FP.Core.signed s 1))) CmpOp.l = 0
    rw [fp_cmpz]; rfl
  | fin s c q =>
    show Op.cmpValue (some (compare (FP.Core.signed s (FP.Core.inUnits c q (min q q))) (FP.Core.signed s (FP.Core.inUnits c q (min q q))))) CmpOp.l = 0
    rw [fp_cmpz]; rfl
theorem goodIn_mh {ws : List Cond} (h : ∀ w ∈ ws, w ∈ W0) {y : MethodName} {c : ByteArray} {n : Nat} {r : Option FieldType} {hh : List (Nat × Nat × Nat × Nat)} (hc : Cond.codeWith y c n r hh ∈ W0) : GoodIn W0 (ws ++ wsH y c n r hh) := by
  intro w hw
  rcases List.mem_append.mp hw with q | q
  · exact goodIn_mem h w q
  · rcases List.mem_cons.mp q with e | z
    · rw [e]; exact goodIn_mem (ws := [.codeWith y c n r hh]) (fun w hw => by rw [List.mem_singleton.mp hw]; exact hc) _ List.mem_cons_self
    · exact goodIn_W (fun _ z => z) w z
section KSW
variable {p : Program} {l : Launch} {e : Env} {R : Room} {s : State} {m : MethodId} {args : Array Value} {below : List Frame} {meth : Method} {c : Code} {H : Heap} {locs : List Loc} {cells slots : Nat} {Q : State → Prop}
variable {cc : ByteArray} {own : String} {g : wG} {x : wSt} {pc : Nat} {ls : Array Slot} {rest : List Value}
variable {y : MethodName} {cy : ByteArray} {ny index mc ms : Nat} {ry : Option FieldType} {hh : List (Nat × Nat × Nat × Nat)} {rm : Room}
theorem kw_SW (hc : CX p c cc s args m own) (n : Nat) (hl : Cond.methodLink own index y ∈ W0) (hi : Cond.static y ∈ W0) (hn : Cond.initialized y.cls ∈ W0) (hcd : Cond.codeWith y cy ny ry hh ∈ W0) (hrc : rm.cells = mc) (hrs : rm.slots = ms) (hd : y.cls ≠ "java/lang/invoke/MethodHandle" ∧ y.cls ≠ "java/lang/invoke/VarHandle" ∧ (parseMethodDescriptor y.desc).map (fun d => d.parameters.length) = some n) (hR : rm.frames + 1 ≤ R.frames ∧ 8 + (ny + 11) + rm.locals ≤ R.locals) : vx_CSW R s args own index y cy ny ry hh (wsH y cy ny ry hh) rm mc ms n :=
  vx_cwSW n hc.2.2.2 (goodIn_mh (ws := [.methodLink own index y, .static y, .initialized y.cls]) (by
    intro w hw
    simp only [List.mem_cons, List.not_mem_nil, or_false] at hw
    rcases hw with rfl | rfl | rfl <;> assumption) hcd) rfl hrc hrs hd hR
theorem k_lald (hc : CX p c cc s args m own) (hk : WK g s s.heap) (hw : WS g s x H locs) (hdg : decode cc pc = .ok (.laload, 1))
    (kk : W p l e R s m args below meth c H locs cells slots Q (F0 m (pc + 1) ls (.long (x.2.2.1 0) :: rest))) : W p l e R s m args below meth c H locs cells slots Q (F0 m pc ls (.int 0 :: .ref (gA g 169) :: rest)) :=
  va_lald hc.1 hc.2.1 hk.1 hw.1 169 3 at_LO rfl (vp_in_nI (n := 0) (by decide) (by decide)) hdg kk
theorem k_dald (hc : CX p c cc s args m own) (hk : WK g s s.heap) (hw : WS g s x H locs) (hdg : decode cc pc = .ok (.daload, 1))
    (kk : W p l e R s m args below meth c H locs cells slots Q (F0 m (pc + 1) ls (.double (x.2.2.2 0) :: rest))) : W p l e R s m args below meth c H locs cells slots Q (F0 m pc ls (.int 0 :: .ref (gA g 170) :: rest)) :=
  va_dald hc.1 hc.2.1 hk.1 hw.1 170 4 at_DO rfl (vp_in_nI (n := 0) (by decide) (by decide)) hdg kk
theorem vn_l {v v9 : Int64} (h : v = v9) (k : W p l e R s m args below meth c H locs cells slots Q (F0 m pc ls (.long v9 :: rest))) : W p l e R s m args below meth c H locs cells slots Q (F0 m pc ls (.long v :: rest)) := h ▸ k
theorem vn_d {v v9 : UInt64} (h : v = v9) (k : W p l e R s m args below meth c H locs cells slots Q (F0 m pc ls (.double v9 :: rest))) : W p l e R s m args below meth c H locs cells slots Q (F0 m pc ls (.double v :: rest)) := h ▸ k
theorem vn_f {v v9 : UInt32} (h : v = v9) (k : W p l e R s m args below meth c H locs cells slots Q (F0 m pc ls (.float v9 :: rest))) : W p l e R s m args below meth c H locs cells slots Q (F0 m pc ls (.float v :: rest)) := h ▸ k
theorem WS.eqv {x x' : wSt} (h : WS g s x H locs) (h9 : x = x') : WS g s x' H locs := h9 ▸ h
end KSW
theorem wst_l {q : Prop} [Decidable q] {A A' : Nat → BT} {M : BT} {L L' : Nat → Int64} {D : Nat → UInt64} : (if q then ((A, (M, (L, D))) : wSt) else (A', (M, (L', D)))) = ((if q then A else A'), (M, ((if q then L else L'), D))) := by
  split <;> rfl
theorem wst_d {q : Prop} [Decidable q] {A A' : Nat → BT} {M : BT} {L : Nat → Int64} {D D' : Nat → UInt64} : (if q then ((A, (M, (L, D))) : wSt) else (A', (M, (L, D')))) = ((if q then A else A'), (M, (L, (if q then D else D')))) := by
  split <;> rfl
theorem sm_V.c {S : Nat → BT} {M : BT} {t : Nat} (h : sm_V S M t) : ∃ n m n1 m1, CN (S 0) n m ∧ CN (S 1) n1 m1 ∧ MN M n m ∧ ¬ S 2 0 1 < 0 ∧ (S 2 0 1).toNatClampNeg ≤ 512 := by
  obtain ⟨n, m, d, L, ne, n1, m1, h1, h2, h3, R, h5, h6⟩ := h
  refine ⟨n, m, n1, m1, h1, h2, h3, ?_, ?_⟩
  · rw [h5.1]; exact nI_pos (by have := h5.2.1; omega)
  · rw [h5.1, nI_clamp (by have := h5.2.1; omega)]; exact h5.2.1
/-- what the law's frame knows -/
def LC (p : Program) (l : Launch) (s : State) (m : MethodId) (c : Code) (b Ls : Nat) (xs : Nat → Int32) (g : wG) : Prop :=
  CX p c cL_law s #[Value.ref b] m RL ∧ c.maxLocals = 9 ∧ WK g s s.heap ∧ va_X b Ls xs s s.heap ∧ b < s.heap.size ∧ ¬ AA g b ∧ l.stackTraces = false
abbrev lw_lv (g : wG) (b : Nat) (z : Int32) : List (Nat × Value) := [(5, .int z), (4, .ref (gA g 170)), (3, .ref (gA g 169)), (2, .ref (gA g (jM 0))), (1, .ref (gA g 0)), (0, .ref b)]
/-- how it goes on behind a round -/
def LK (p : Program) (l : Launch) (e : Env) (s : State) (m : MethodId) (below : List Frame) (meth : Method) (c : Code) (b : Nat) (g : wG) (z : Int32) (t cells slots : Nat) (Q : State → Prop) : Prop :=
  ∀ (S : Nat → BT) (M : BT) (o : (Nat → Int64) × (Nat → UInt64)) (H : Heap) (locs : List Loc) (ls : Array Slot), sm_V S M t → WS g s (S, (M, o)) H locs → lv_has ls 9 (lw_lv g b z) → W p l e room_1 s m #[Value.ref b] below meth c H locs cells slots Q (F0 m 2293 ls [])
theorem sm_scr {t Ls j : Nat} {z : Int32} (hz : z = nI (5 * t)) (h : 5 * t + 5 ≤ Ls) (hL : Ls ≤ 2560) (hj : j < 5) : vp_in (z + nI j) Ls := by
  rw [hz, nI_add]; exact vp_in_nI (by omega) (by omega)
theorem lw_uL (f : Nat → Int64) (k : Nat) (v : Int64) : vp_updL f k v k = v := by simp [vp_updL]
theorem lw_uD (f : Nat → UInt64) (k : Nat) (v : UInt64) : vf_upd f k v k = v := by simp [vf_upd]
theorem lw_md {B : BT} (h : e_X6_meanDays B = none) : vf_n64 (f_X6_meanDays B) := by
  unfold e_X6_meanDays at h
  unfold f_X6_meanDays
  by_cases h1 : f_X0_countClosed B = 0
  · rw [if_pos h1] at h; exact absurd h (Option.some_ne_none _)
  · rw [if_neg h1]; exact fp_ddiv h1
