/-! an object is made at the beginning of each of the law's methods: a world of its own -/
def wp (j : Nat) : Nat := if j < 3 then (if j = 0 then 0 else j + 140) else 1 + 70 * ((j - 3) / 70) + pcB ((j - 3) % 70)
def wq9 (r : Nat) : Nat := if r < 10 then r else if (r - 10) % 3 = 0 then 10 + (r - 10) / 3 else if (r - 10) % 3 = 1 then 30 + (r - 10) / 3 else 50 + (r - 10) / 3
def wq (q : Nat) : Nat := if q < 141 then (if q = 0 then 0 else 3 + 70 * ((q - 1) / 70) + wq9 ((q - 1) % 70)) else q - 140
theorem wq_wp : ∀ j, j < 143 → wq (wp j) = j := by decide +kernel
theorem wp_b {p c : Nat} (hp : p < 2) (hc : c < 70) : wp (3 + 70 * p + c) = 1 + 70 * p + pcB c := by
  unfold wp
  rw [if_neg (by omega), show (3 + 70 * p + c - 3) / 70 = p by omega, show (3 + 70 * p + c - 3) % 70 = c by omega]
theorem pcB_0 {c : Nat} (h : c ≠ 0) : 1 ≤ pcB c := by
  unfold pcB
  by_cases h1 : c < 10
  · rw [if_pos h1]; omega
  · rw [if_neg h1]
    by_cases h2 : c < 30
    · rw [if_pos h2]; omega
    · rw [if_neg h2]
      by_cases h3 : c < 50
      · rw [if_pos h3]; omega
      · rw [if_neg h3]; omega
/-- no cell of the world lies below what the law began with -/
def NB (g : wG) : Prop := ∀ j, j < 143 → g.2.2.2 ≤ gA g j
theorem NB.A {g : wG} (h : NB g) : AA g = fun q => g.2.2.2 ≤ q := by
  funext q
  apply propext
  constructor
  · rintro (⟨j, hj, rfl⟩ | h1)
    · exact h j hj
    · exact h1
  · exact Or.inr
theorem NB.eq {g g' : wG} (h : NB g) (h' : NB g') (e : g'.2.2.2 = g.2.2.2) : AA g' = AA g := by rw [h.A, h'.A, e]
theorem WT.to {g g' : wG} {s : State} {H : Heap} (h : WT g s H) (e : AA g' = AA g) : WT g' s H := by
  unfold WT at h ⊢
  rw [e]
  exact h
/-- the same tables, the cells from n on -/
def gNew (g : wG) (n : Nat) : wG := (g.1, g.2.1, fun j => n + wp j, g.2.2.2)
theorem gNew_NB {g : wG} {n : Nat} (h : g.2.2.2 ≤ n) : NB (gNew g n) := fun j _ => Nat.le_trans h (Nat.le_add_right _ _)
theorem gNew_WK {g : wG} {s : State} (hk : WK g s s.heap) (hb : NB g) : WK (gNew g s.heap.size) s s.heap := by
  refine ⟨hk.1, hk.2.1, ?_, hk.2.2.2.1, hk.2.2.2.2.to (NB.eq hb (gNew_NB hk.2.2.2.1) rfl)⟩
  intro i j hi hj e
  have e9 : s.heap.size + wp i = s.heap.size + wp j := e
  rw [← wq_wp i hi, ← wq_wp j hj, Nat.add_left_cancel e9]
def st_S : Nat → BT := fun p => if p < 2 then bp_0 else fun _ _ => 0
/-- its cells, as they were made -/
def st_f (g : wG) : Nat → Option va_E := g6_f g (pup (fun _ => none) 0 (.inr (8, frX6)))
theorem st_ext {cA : ClassId} {N : Nat} {h h9 : Nat → Option Nat} (e : ∀ q, q < N → h q = h9 q) : vp_cell cA (N, .inr (.inr (.inr (.inr h)))) = vp_cell cA (N, .inr (.inr (.inr (.inr h9)))) := by
  rw [vp_cell_q, vp_cell_q]
  unfold arrV
  congr 1
  apply Array.ext_getElem?
  intro i
  by_cases hi : i < N
  · rw [Array.getElem?_ofFn, Array.getElem?_ofFn, dif_pos hi, dif_pos hi]
    exact congrArg (fun v => some (va_rf v)) (e i hi)
  · rw [Array.getElem?_ofFn, Array.getElem?_ofFn, dif_neg hi, dif_neg hi]
theorem bp_0n {c : Nat} (h : c ≠ 3) : bp_0 c = fun _ => 0 := by funext k; exact if_neg (fun z => h z.1)
theorem bp_03 : bp_0 3 = fun q => if q < 5 then (1 : Int32) else 0 := by
  funext k
  show (if 3 = 3 ∧ k < 5 then (1 : Int32) else 0) = _
  by_cases h : k < 5
  · rw [if_pos ⟨rfl, h⟩, if_pos h]
  · rw [if_neg (fun z => h z.2), if_neg h]
/-- a made book's cells are those of the numbers bp_0 -/
theorem st_b {g : wG} {p c : Nat} {f : Nat → Option va_E} {H : Heap} (hp : p < 2) (hc : c < 70) {e : va_E} (he : bp_f g p f 6 20 5 (3 + 70 * p + c) = some e) (h : va_at g.1 vwCl (gA g (3 + 70 * p + c), e) H) : va_at g.1 vwCl (gA g (3 + 70 * p + c), bkE g p bp_0 c) H := by
  have key : ∀ e9 : va_E, some e = some e9 → va_at g.1 vwCl (gA g (3 + 70 * p + c), e9) H := fun e9 h9 => by
    have := Option.some.inj h9; subst this; exact h
  unfold bp_f at he
  rw [if_neg (by omega)] at he
  by_cases h0 : c = 0
  · rw [if_pos (by omega)] at he; subst h0; exact key _ he.symm
  · rw [if_neg (by omega)] at he
    by_cases h1 : c = 1
    · rw [if_pos (by omega)] at he
      subst h1
      have h9 := key _ he.symm
      have h8 : H[gA g (3 + 70 * p + 1)]? = some (vp_cell (g.2.1 6) (6, .inr (.inr (.inr (.inr (fun q => if q < 6 then some (gA g (jO p q)) else none)))))) := h9
      show H[gA g (3 + 70 * p + 1)]? = some (vp_cell (g.2.1 6) (6, .inr (.inr (.inr (.inr (fun k => some (gA g (jO p k))))))))
      rw [h8]
      exact congrArg some (st_ext (fun q hq => if_pos hq))
    · rw [if_neg (by omega)] at he
      by_cases h2 : c = 2
      · rw [if_pos (by omega)] at he
        subst h2
        have h9 := key _ he.symm
        have h8 : H[gA g (3 + 70 * p + 2)]? = some (vp_cell (g.2.1 5) (20, .inr (.inr (.inr (.inr (fun q => if q < 20 then some (gA g (jC p q)) else none)))))) := h9
        show H[gA g (3 + 70 * p + 2)]? = some (vp_cell (g.2.1 5) (20, .inr (.inr (.inr (.inr (fun k => some (gA g (jC p k))))))))
        rw [h8]
        exact congrArg some (st_ext (fun q hq => if_pos hq))
      · rw [if_neg (by omega)] at he
        by_cases h3 : c = 3
        · rw [if_pos (by omega)] at he
          subst h3
          refine key _ (he.symm.trans ?_)
          show _ = some (Sum.inl (g.2.1 0, 5, Sum.inl (bp_0 3)))
          rw [bp_03]
        · rw [if_neg (by omega)] at he
          by_cases h4 : c < 10
          · rw [if_pos (by omega), if_pos (by omega)] at he
            refine key _ (he.symm.trans ?_)
            unfold bkE
            rw [if_pos h4, if_neg (by omega), bp_0n h3]
            rfl
          · rw [if_neg (by omega)] at he
            by_cases h5 : c < 30
            · rw [if_pos (by omega), if_pos (by omega)] at he
              refine key _ (he.symm.trans ?_)
              unfold bkE
              rw [if_neg h4, if_pos h5, bp_0n h3, show 3 + 70 * p + c - (3 + 70 * p + 10) = c - 10 by omega]
              rfl
            · rw [if_neg (by omega)] at he
              by_cases h6 : c < 50
              · rw [if_pos (by omega), if_pos (by omega)] at he
                refine key _ (he.symm.trans ?_)
                unfold bkE
                rw [if_neg h4, if_neg h5, if_pos h6, bp_0n h3]
                rfl
              · rw [if_neg (by omega), if_pos (by omega)] at he
                refine key _ (he.symm.trans ?_)
                unfold bkE
                rw [if_neg h4, if_neg h5, if_neg h6, bp_0n h3]
                rfl
theorem st_bs {g : wG} {p c : Nat} {f : Nat → Option va_E} (hc : c < 70) : ∃ e, bp_f g p f 6 20 5 (3 + 70 * p + c) = some e := by
  unfold bp_f
  rw [if_neg (by omega)]
  by_cases h0 : c = 0
  · rw [if_pos (by omega)]; exact ⟨_, rfl⟩
  · rw [if_neg (by omega)]
    by_cases h1 : c = 1
    · rw [if_pos (by omega)]; exact ⟨_, rfl⟩
    · rw [if_neg (by omega)]
      by_cases h2 : c = 2
      · rw [if_pos (by omega)]; exact ⟨_, rfl⟩
      · rw [if_neg (by omega)]
        by_cases h3 : c = 3
        · rw [if_pos (by omega)]; exact ⟨_, rfl⟩
        · rw [if_neg (by omega)]
          by_cases h4 : c < 10
          · rw [if_pos (by omega), if_pos (by omega)]; exact ⟨_, rfl⟩
          · rw [if_neg (by omega)]
            by_cases h5 : c < 30
            · rw [if_pos (by omega), if_pos (by omega)]; exact ⟨_, rfl⟩
            · rw [if_neg (by omega)]
              by_cases h6 : c < 50
              · rw [if_pos (by omega), if_pos (by omega)]; exact ⟨_, rfl⟩
              · rw [if_neg (by omega), if_pos (by omega)]; exact ⟨_, rfl⟩
theorem st_b1 {g : wG} {f : Nat → Option va_E} {j : Nat} (h0 : j ≠ 0) (h1 : j ≠ 1) (h2 : j ≠ 2) : g6_f g f j = bp_f g 1 (pup (pup (bp_f g 0 (pup f (jB 0) (.inr (2, frX0))) 6 20 5) 0 (.inr (8, (frX6.set 0 (.ref (gA g (jB 0))))))) (jB 1) (.inr (2, frX0))) 6 20 5 j := by
  unfold g6_f
  rw [pup_ne h0, pup_ne h1, pup_ne h2, pup_ne h1, pup_ne h0]
theorem st_b0 {g : wG} {f : Nat → Option va_E} {j : Nat} (h0 : j ≠ 0) (h1 : j ≠ 1) (h2 : j ≠ 2) (h : j < 73) : g6_f g f j = bp_f g 0 (pup f (jB 0) (.inr (2, frX0))) 6 20 5 j := by
  rw [st_b1 h0 h1 h2]
  have e : ∀ f9 : Nat → Option va_E, bp_f g 1 f9 6 20 5 j = f9 j := fun f9 => by unfold bp_f; rw [if_pos (by omega)]
  rw [e, pup_ne (by unfold jB; omega), pup_ne h0]
set_option maxHeartbeats 4000000 in
theorem st_at {g : wG} {y : (Nat → Nat → Int32) × (Nat → Int64) × (Nat → UInt64)} {j : Nat} (hj : j < 143) {H : Heap} (h : PW g (st_f g) H) : va_at g.1 vwCl (gA g j, wE g (st_S, y) j) H := by
  by_cases h3 : j < 3
  · have hj3 : j = 0 ∨ j = 1 ∨ j = 2 := by omega
    rcases hj3 with rfl | rfl | rfl
    · exact h 0 (by decide) _ rfl
    · exact h 1 (by decide) _ rfl
    · exact h 2 (by decide) _ rfl
  · by_cases h7 : j < 73
    · obtain ⟨c, rfl⟩ : ∃ c, j = 3 + 70 * 0 + c := ⟨j - 3, by omega⟩
      rw [wE_b (p := 0) (c := c) (by decide) (by omega)]
      show va_at g.1 vwCl (gA g (3 + 70 * 0 + c), bkE g 0 bp_0 c) H
      have hs := st_bs (g := g) (p := 0) (c := c) (f := pup (pup (fun _ => none) 0 (.inr (8, frX6))) (jB 0) (.inr (2, frX0))) (by omega)
      obtain ⟨e, he⟩ := hs
      exact st_b (by decide) (by omega) he (h _ hj e ((st_b0 (by omega) (by omega) (by omega) h7).trans he))
    · obtain ⟨c, rfl⟩ : ∃ c, j = 3 + 70 * 1 + c := ⟨j - 73, by omega⟩
      rw [wE_b (p := 1) (c := c) (by decide) (by omega)]
      show va_at g.1 vwCl (gA g (3 + 70 * 1 + c), bkE g 1 bp_0 c) H
      obtain ⟨e, he⟩ := st_bs (g := g) (p := 1) (c := c) (f := pup (pup (bp_f g 0 (pup (pup (fun _ => none) 0 (.inr (8, frX6))) (jB 0) (.inr (2, frX0))) 6 20 5) 0 (.inr (8, (frX6.set 0 (.ref (gA g (jB 0))))))) (jB 1) (.inr (2, frX0))) (by omega)
      exact st_b (by decide) (by omega) he (h _ hj e ((st_b1 (j := 3 + 70 * 1 + c) (by omega) (by omega) (by omega)).trans he))
theorem st_WS {g : wG} {s : State} {y : (Nat → Nat → Int32) × (Nat → Int64) × (Nat → UInt64)} {z : Nat} {H : Heap} {locs : List Loc} (hp : PS g s (st_f g) z H locs) : WS g s (xB st_S 0 b0 y) H locs := by
  have e : (xB st_S 0 b0 y : wSt) = (st_S, y) := by
    show (va_up st_S 0 b0, y) = (st_S, y)
    rw [show b0 = st_S 0 from rfl, va_up_id]
  rw [e]
  refine ⟨fun k q hk => ?_, hp.2.1⟩
  have hl : k < 143 := by have := (List.getElem?_eq_some_iff.mp hk).1; rw [wl_len] at this; exact this
  rw [wl_get hl] at hk
  cases hk
  exact st_at hl hp.1
theorem st_z (c k : Nat) (h : c ≠ 3) : bp_0 c k = 0 := by rw [bp_0n h]
theorem st_VV : VV 0 st_S b0 := by
  have hN : CN bp_0 0 0 := ⟨rfl, rfl, by decide, by decide, fun i hi => by rw [st_z _ _ (by omega)]; exact okc_nI (n := 0) (by decide)⟩
  refine ⟨0, 0, 0, 0, 0, hN, Or.inl rfl, hN, ⟨rfl, by decide, ?_⟩, Nat.le_refl 0⟩
  intro B1 c k h
  show bp_0 c k = f_X0_open B1 c k
  rcases h with ⟨rfl, h1, h2⟩ | ⟨rfl, h1⟩ | ⟨h1, h2, h3⟩ | ⟨h1, h2, h3⟩ | ⟨h1, h2, h3⟩ | ⟨h1, h2, h3⟩
  · have hk : k = 3 ∨ k = 4 ∨ k = 5 := by omega
    rcases hk with rfl | rfl | rfl <;> rfl
  · have hk : k = 0 ∨ k = 1 ∨ k = 2 ∨ k = 3 ∨ k = 4 := by omega
    rcases hk with rfl | rfl | rfl | rfl | rfl <;> rfl
  · exact absurd h2 (by omega)
  · exact absurd h2 (by omega)
  · exact absurd h2 (by omega)
  · exact absurd h2 (by omega)
section KWI
variable {p : Program} {l : Launch} {e : Env} {R : Room} {s : State} {m : MethodId} {args : Array Value} {c : Code} {cc : ByteArray} {own : String}
variable {y : MethodName} {cy : ByteArray} {ny index mc ms : Nat} {rm : Room}
theorem kw_I (hc : CX p c cc s args m own) (n : Nat) (hl : Cond.methodLink own index y ∈ W0) (hi : Cond.instanceMethod y ∈ W0) (hn : Cond.initialized y.cls ∈ W0) (hcd : Cond.code y cy ny none ∈ W0) (hrc : rm.cells = mc) (hrs : rm.slots = ms) (hy1 : y.name = "<init>") (hd : y.cls ≠ "java/lang/invoke/MethodHandle" ∧ y.cls ≠ "java/lang/invoke/VarHandle" ∧ (parseMethodDescriptor y.desc).map (fun d => d.parameters.length) = some n) (hR : rm.frames + 1 ≤ R.frames ∧ 8 + (ny + 11) + rm.locals ≤ R.locals) : CallB R s args own index y cy ny none (ws_ y cy ny none) rm mc ms n ∧ y.name = "<init>" ∧ (Cond.instanceMethod y).before args s = true :=
  cwI n hc.2.2.2 (goodIn_ws (fun _ z => z) hcd) rfl hrc hrs (hc.2.2.2 _ hn) (hc.2.2.2 _ hl) (hc.2.2.2 _ hi) hy1 hd hR
end KWI
/-- what each of the law's methods begins with: the tables, the words of the rows of references -/
def prL (g : wG) (U : State) : Prop := WK g U U.heap ∧ NB g ∧ va_AO "GrievanceOmbud$Office" U ∧ va_AO "GrievanceOmbud$Complaint" U
theorem prL_blind {g : wG} {av : List Value} : FrameBlind (va_Pc av (prL g)) := fun a U f mk q => ⟨q.1, WK.same (u := U) (U := U.calling f mk a) rfl q.2.1, q.2.2.1, va_AO.moved (u := U) (U := U.calling f mk a) (Vm.Alike.refl U.vm) q.2.2.2.1, va_AO.moved (u := U) (U := U.calling f mk a) (Vm.Alike.refl U.vm) q.2.2.2.2⟩
set_option maxHeartbeats 4000000 in
set_option maxRecDepth 100000 in
theorem k_cre {p : Program} {l : Launch} {e : Env} {R : Room} {s : State} {m : MethodId} {args : Array Value} {below : List Frame} {meth : Method} {c : Code} {cc : ByteArray} {nL : Nat} {g0 : wG} {Q : State → Prop} {ls : Array Slot} {lv : List (Nat × Value)} (y : (Nat → Nat → Int32) × (Nat → Int64) × (Nat → UInt64)) (hc : CX p c cc s args m RL) (hml : c.maxLocals = nL) (hp0 : prL g0 s) (hl : lv_has ls nL lv) (d0 : decode cc 0 = .ok (.new 8, 3)) (d3 : decode cc 3 = .ok (.dup, 1)) (d4 : decode cc 4 = .ok (.invokespecial 142, 3)) (hR : 7 ≤ R.frames ∧ 330 ≤ R.locals) (hf : 143 ≤ R.cells ∧ 3727 ≤ R.slots)
    (kk : ∀ (g : wG), WK g s s.heap → NB g → g.2.2.2 = g0.2.2.2 → ∀ (H : Heap) (locs : List Loc), WS g s (xB st_S 0 b0 y) H locs → W p l e R s m args below meth c H locs 143 3727 Q (F0 m 7 ls [.ref (gA g 0)])) : W p l e R s m args below meth c s.heap [] 0 0 Q (F0 m 0 ls []) := by
  obtain ⟨hk0, hnb, hO1, hO2⟩ := hp0
  have hk := gNew_WK hk0 hnb
  have hnb1 : NB (gNew g0 s.heap.size) := gNew_NB hk0.2.2.2.1
  have hgA : ∀ j : Nat, gA (gNew g0 s.heap.size) j = s.heap.size + wp j := fun _ => rfl
  have hg2 : (gNew g0 s.heap.size).2.2.2 = g0.2.2.2 := rfl
  generalize gNew g0 s.heap.size = g at hk hnb1 hgA hg2
  have hg0 : gA g 0 = s.heap.size := by have h9 := hgA 0; rw [show wp 0 = 0 by decide] at h9; omega
  have eb : ∀ p9 c9 : Nat, p9 < 2 → c9 < 70 → gA g (3 + 70 * p9 + c9) = s.heap.size + (1 + 70 * p9 + pcB c9) := fun p9 c9 h1 h2 => by rw [hgA, wp_b h1 h2]
  have e1 : gA g (jB 0) = s.heap.size + 1 := by have h9 := hgA (jB 0); rw [show wp (jB 0) = 1 by decide] at h9; omega
  have e2 : ∀ c, c < 70 → c ≠ 0 → gA g (3 + 70 * 0 + c) = s.heap.size + 1 + 1 + (pcB c - 1) := fun c h1 h2 => by have := pcB_0 h2; rw [eb 0 c (by decide) h1]; omega
  have e3 : gA g (jB 1) = s.heap.size + 1 + 1 + 69 := by have h9 := hgA (jB 1); rw [show wp (jB 1) = 71 by decide] at h9; omega
  have e4 : ∀ c, c < 70 → c ≠ 0 → gA g (3 + 70 * 1 + c) = s.heap.size + 1 + 1 + 69 + 1 + (pcB c - 1) := fun c h1 h2 => by have := pcB_0 h2; rw [eb 1 c (by decide) h1]; omega
  have e5 : gA g 1 = s.heap.size + 1 + 1 + 69 + 1 + 69 := by have h9 := hgA 1; rw [show wp 1 = 141 by decide] at h9; omega
  have e6 : gA g 2 = s.heap.size + 1 + 1 + 69 + 1 + 69 + 1 := by have h9 := hgA 2; rw [show wp 2 = 142 by decide] at h9; omega
  have hp : PS g s (fun _ => none) s.heap.size s.heap [] := ⟨fun j hj e9 he => absurd (show (none : Option va_E) = some e9 from he) (fun z => nomatch z), va_S.rf, rfl⟩
  refine p_new (fs := frX6) hc hk hp (j := 0) hg0 (ci := 8) rfl iX6 tyX6 tyX6_ok q25 q26 q1 frX6_ok (by have := hf.1; omega) (by have := hf.2; omega) d0 (fun H hp => ?_)
  refine lv_dup hc.1 hc.2.1 d3 rfl ?_
  refine pc_v hp (va_runI (As := []) (rest := [.ref (gA g 0)]) ⟨hc.1, hc.2.1, hml, hc.2.2.1, hc.2.2.2⟩ (m_X6_init l g _ _ (pup_eq _ _ _) e1 e2 e3 e4 e5 e6) (kw_I hc 0 q27 q28 q1 q29 rfl rfl rfl (by decide +kernel) ⟨Nat.le_trans (Nat.le_of_ble_eq_true rfl) hR.1, Nat.le_trans (Nat.le_of_ble_eq_true rfl) hR.2⟩) (kp_O hk hp hO1 hO2) rfl rfl hl.1 rfl (lv_room (Nat.le_of_ble_eq_true rfl)) d4 ⟨by have := hf.1; omega, by have := hf.2; omega⟩) (fun H locs hp => ?_)
  refine W.widen (k := 143) (n := 3727) (by omega) (by omega) ?_
  exact kk g hk hnb1 hg2 H locs (st_WS hp)
