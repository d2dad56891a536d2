/-! the law's frames: what each step is -/
theorem q_cf : Cond.constantFloat RL 193 1053609165 ∈ W0 := in0t (i := 966) (by decide +kernel) (by first | rfl | decide +kernel)
theorem q_ai : Cond.arrayClass .int ∈ W0 := q67
theorem okzB_e {x : Int32} (h : okzB x = true) : okz x := okz_01 (of_decide_eq_true h)
theorem and_e {a b : Bool} (h : (a && b) = true) : a = true ∧ b = true := by rw [Bool.and_eq_true] at h; exact h
theorem i32_ge_of {x : Int32} (h : ¬ 0 ≤ x) : x < 0 := by rw [fa_le] at h; rw [fa_lt]; omega
theorem lw_self (x : Int64) : lg_cmp x x = 0 := by
  unfold lg_cmp
  rw [if_neg (Int64.lt_irrefl), if_pos rfl]
theorem vi_ext {cA : ClassId} {N : Nat} {h h9 : Nat → Int32} (e : ∀ q, q < N → h q = h9 q) : vp_cell cA (N, .inl h) = vp_cell cA (N, .inl h9) := by
  rw [vp_cell_i, vp_cell_i]
  unfold arrV
  congr 1
  apply Array.ext_getElem?
  intro i
  by_cases hi : i < N
  · rw [Array.getElem?_ofFn, Array.getElem?_ofFn, dif_pos hi, dif_pos hi]
    exact congrArg (fun v => some (Value.int v)) (e i hi)
  · rw [Array.getElem?_ofFn, Array.getElem?_ofFn, dif_neg hi, dif_neg hi]
theorem bkE_nrm {g : wG} {C : BT} {c : Nat} (hc : c < 70) (h3 : c ≠ 3) : bkE g 0 (nrm C) c = bkE g 0 C c := by
  have K : ∀ k, rel c k = true → nrm C c k = C c k := fun k h => nrm_at h
  unfold bkE
  by_cases h1 : c < 10
  · rw [if_pos h1, if_pos h1]
    by_cases h2 : c < 4
    · rw [if_pos h2, if_pos h2]
      by_cases h0 : c = 0
      · subst h0
        rw [if_pos rfl, if_pos rfl]
        unfold fsB
        rw [K 3 (by decide), K 4 (by decide), K 5 (by decide)]
      · rw [if_neg h0, if_neg h0]
        by_cases h9 : c = 1
        · rw [if_pos h9, if_pos h9]
        · have h8 : c = 2 := by omega
          rw [if_neg h9, if_neg h9, if_pos h8, if_pos h8]
    · rw [if_neg h2, if_neg h2]
      have R : ∀ k, k < 4 → rel c k = true := fun k hk => by
        unfold rel; rw [if_pos h1, if_neg (by omega), if_neg (by omega)]; exact decide_eq_true (by omega)
      unfold fsO
      rw [K 0 (R 0 (by decide)), K 1 (R 1 (by decide)), K 2 (R 2 (by decide)), K 3 (R 3 (by decide))]
  · rw [if_neg h1, if_neg h1]
    by_cases h2 : c < 30
    · rw [if_pos h2, if_pos h2]
      have R : ∀ k, 3 ≤ k → k < 16 → rel c k = true := fun k hk hk2 => by
        unfold rel; rw [if_neg h1, if_pos h2]; exact decide_eq_true ⟨hk, hk2⟩
      unfold fsC
      rw [K 3 (R 3 (by decide) (by decide)), K 4 (R 4 (by decide) (by decide)), K 5 (R 5 (by decide) (by decide)), K 6 (R 6 (by decide) (by decide)), K 7 (R 7 (by decide) (by decide)), K 8 (R 8 (by decide) (by decide)), K 9 (R 9 (by decide) (by decide)), K 10 (R 10 (by decide) (by decide)), K 11 (R 11 (by decide) (by decide)), K 12 (R 12 (by decide) (by decide)), K 13 (R 13 (by decide) (by decide)), K 14 (R 14 (by decide) (by decide)), K 15 (R 15 (by decide) (by decide))]
    · rw [if_neg h2, if_neg h2]
      by_cases h5 : c < 50
      · rw [if_pos h5, if_pos h5]
        have R : ∀ k, k < 4 → rel c k = true := fun k hk => by
          unfold rel; rw [if_neg h1, if_neg h2, if_pos h5]; exact decide_eq_true hk
        unfold fsI
        rw [K 0 (R 0 (by decide)), K 1 (R 1 (by decide)), K 2 (R 2 (by decide)), K 3 (R 3 (by decide))]
      · rw [if_neg h5, if_neg h5]
        have R : ∀ k, k < 6 → rel c k = true := fun k hk => by
          unfold rel; rw [if_neg h1, if_neg h2, if_neg h5]; exact decide_eq_true ⟨hc, hk⟩
        unfold fsF
        rw [K 0 (R 0 (by decide)), K 1 (R 1 (by decide)), K 2 (R 2 (by decide)), K 3 (R 3 (by decide)), K 4 (R 4 (by decide)), K 5 (R 5 (by decide))]
theorem WS.nrmW {g : wG} {s : State} {S : Nat → BT} {C : BT} {y : (Nat → Nat → Int32) × (Nat → Int64) × (Nat → UInt64)} {H : Heap} {locs : List Loc} (hw : WS g s (xB S 0 C y) H locs) : WS g s (xB S 0 (nrm C) y) H locs := by
  refine ⟨fun k q hk => ?_, hw.2⟩
  have hl : k < 143 := by have := (List.getElem?_eq_some_iff.mp hk).1; rw [wl_len] at this; exact this
  rw [wl_get hl] at hk
  cases hk
  have h9 := hw.1 k _ (wl_get hl)
  by_cases h6 : k = 6
  · subst h6
    have h8 : H[gA g 6]? = some (vp_cell (g.2.1 0) (5, .inl (C 3))) := h9
    show H[gA g 6]? = some (vp_cell (g.2.1 0) (5, .inl (nrm C 3)))
    rw [h8]
    exact congrArg some (vi_ext (fun q hq => (nrm_at (by unfold rel; rw [if_pos (by decide), if_neg (by decide), if_pos rfl]; exact decide_eq_true hq)).symm))
  · rw [wE_up (B := C) (B' := nrm C) (by decide) (fun c hc e => bkE_nrm hc (by omega)) hl]
    exact h9
theorem VV.nrmV {t : Nat} {S : Nat → BT} {B : BT} (h : VV t S B) : VV t S (nrm B) := by
  obtain ⟨n, m, ne, n1, m1, h1, h2, h3, h4, h5⟩ := h
  refine ⟨n, m, ne, n1, m1, h1.nrm, h2, h3, ?_, h5⟩
  obtain ⟨e1, e2, e3⟩ := h4
  have e9 : ∀ X : BT, va_up S 0 X 2 = S 2 := fun X => by simp [va_up]
  refine ⟨by rw [e9] at e1 ⊢; exact e1, e2, fun B1 c q hc => ?_⟩
  have e4 := e3 B1 c q hc
  rw [va_up_at] at e4 ⊢
  rw [nrm_at (rel_lv h1.2.2.1 h1.2.2.2.1 hc), e4]
  rw [sm_tell_c (S := va_up S 0 B) (S' := va_up S 0 (nrm B)) ne (fun q _ => by rw [e9, e9])]
theorem WS.eqv {g : wG} {s : State} {x x' : wSt} {H : Heap} {locs : List Loc} (h : WS g s x H locs) (h9 : x = x') : WS g s x' H locs := h9 ▸ h
/-- what a frame of the law's knows -/
def LX (p : Program) (l : Launch) (s : State) (m : MethodId) (args : Array Value) (c : Code) (cc : ByteArray) (nL : Nat) (g : wG) : Prop := CX p c cc s args m RL ∧ c.maxLocals = nL ∧ WK g s s.heap ∧ l.stackTraces = false
abbrev FN (p : Program) (l : Launch) (e : Env) (R : Room) (s : State) (m : MethodId) (args : Array Value) (below : List Frame) (meth : Method) (c : Code) (g : wG) (y : (Nat → Nat → Int32) × (Nat → Int64) × (Nat → UInt64)) (Q : State → Prop) (t : Nat) (ch : BT → Bool) (nL : Nat) (lv : List (Nat × Value)) (cells slots pc : Nat) : Prop :=
  ∀ (S : Nat → BT) (B : BT) (H : Heap) (locs : List Loc) (ls : Array Slot), VV t S B → WS g s (xB S 0 B y) H locs → ch B = true → lv_has ls nL lv → W p l e R s m args below meth c H locs cells slots Q (F0 m pc ls [])
/-- the room of a section, and of the small helpers -/
abbrev rmD : Room := { frames := 14, cells := 2000, slots := 20000, locals := 400 }
abbrev rmS : Room := { frames := 9, cells := 5, slots := 30, locals := 180 }
def tbS : List (Nat × Nat × Nat × Nat) := [(0, 7, 8, 67), (0, 7, 12, 136)]
def tbM : List (Nat × Nat × Nat × Nat) := [(0, 6, 7, 136)]
theorem q_share : Cond.codeWith yL_share cL_share 3 (some .int) tbS ∈ W0 := q908
theorem q_hasNone : Cond.codeWith yL_hasNone cL_hasNone 3 (some .boolean) tbM ∈ W0 := q932
def kS (o : Option String) : Int32 := match o with
  | none => 1
  | some E => if E = "java/lang/ArithmeticException" then 0 else -2000000001
theorem kS_1 : kS (some "java/lang/IndexOutOfBoundsException") = -2000000001 := by decide +kernel
theorem kS_2 : kS (some "java/lang/ArithmeticException") = 0 := by decide +kernel
def kM (o : Option String) : Int32 := match o with
  | none => 0
  | some _ => 1
theorem fa_addOffice {a1 : Int32} {a2 : Int32} {B : BT} (he : e_X6_addOffice a1 a2 B = none) : (f_X6_addOffice a1 a2 B).2 = (f_X0_apply 1 a1 a2 0 0 B).2 := by
  by_cases h1 : e_X6_requireRange a1 1 60 = none
  · by_cases h2 : e_X6_requireRange a2 0 1023 = none
    · by_cases h3 : B 0 3 < 6
      · unfold f_X6_addOffice; rw [if_pos h1, if_pos h2, if_pos h3]; rfl
      · unfold e_X6_addOffice at he; rw [if_pos h1, if_pos h2, if_neg h3] at he; exact absurd he (Option.some_ne_none _)
    · unfold e_X6_addOffice at he; rw [if_pos h1, if_neg h2] at he; exact absurd he h2
  · unfold e_X6_addOffice at he; rw [if_neg h1] at he; exact absurd he h1
theorem fa_pass {a1 : Int32} {B : BT} (he : e_X6_pass a1 B = none) : (f_X6_pass a1 B).2 = (f_X0_apply 2 a1 0 0 0 B).2 := by
  by_cases h1 : e_X6_requireRange a1 1 400 = none
  · by_cases h2 : (B 0 5) + a1 ≤ 9999
    · unfold f_X6_pass; rw [if_pos h1, if_pos h2]; rfl
    · unfold e_X6_pass at he; rw [if_pos h1, if_neg h2] at he; exact absurd he (Option.some_ne_none _)
  · unfold e_X6_pass at he; rw [if_neg h1] at he; exact absurd he h1
theorem fa_complain {a1 : Int32} {a2 : Int32} {a3 : Int32} {a4 : Int32} {B : BT} (he : e_X6_complain a1 a2 a3 a4 B = none) : (f_X6_complain a1 a2 a3 a4 B).2 = (f_X0_apply 4 a1 a2 a3 a4 B).2 := by
  by_cases h1 : e_X6_requireOffice a1 B = none
  · by_cases h2 : e_X6_requireRange a2 0 9 = none
    · by_cases h3 : e_X6_requireRange a3 0 49 = none
      · by_cases h4 : e_X6_requireRange a4 0 (B 0 5) = none
        · by_cases h5 : B 0 4 < 20
          · unfold f_X6_complain; rw [if_pos h1, if_pos h2, if_pos h3, if_pos h4, if_pos h5]
          · unfold e_X6_complain at he; rw [if_pos h1, if_pos h2, if_pos h3, if_pos h4, if_neg h5] at he; exact absurd he (Option.some_ne_none _)
        · unfold e_X6_complain at he; rw [if_pos h1, if_pos h2, if_pos h3, if_neg h4] at he; exact absurd he h4
      · unfold e_X6_complain at he; rw [if_pos h1, if_pos h2, if_neg h3] at he; exact absurd he h3
    · unfold e_X6_complain at he; rw [if_pos h1, if_neg h2] at he; exact absurd he h2
  · unfold e_X6_complain at he; rw [if_neg h1] at he; exact absurd he h1
theorem fa_setCourt {a1 : Int32} {a2 : Int32} {B : BT} (he : e_X6_setCourt a1 a2 B = none) : (f_X6_setCourt a1 a2 B).2 = (f_X0_apply 5 a1 (j_X6_setCourt_12 a2) 0 0 B).2 := by
  by_cases h1 : e_X6_known a1 B = none
  · by_cases h2 : e_X6_requireAtIntake (f_X6_known a1 B) B = none
    · by_cases h3 : (f_X6_happen 5 a1 (j_X6_setCourt_12 a2) B).1 = 1
      · unfold f_X6_setCourt; rw [if_pos h1, if_pos h2, if_pos h3]; rfl
      · unfold f_X6_setCourt; rw [if_pos h1, if_pos h2, if_neg h3]; rfl
    · unfold e_X6_setCourt at he; rw [if_pos h1, if_neg h2] at he; exact absurd he h2
  · unfold e_X6_setCourt at he; rw [if_neg h1] at he; exact absurd he h1
theorem fa_excuse {a1 : Int32} {B : BT} (he : e_X6_excuse a1 B = none) : (f_X6_excuse a1 B).2 = (f_X0_apply 6 a1 0 0 0 B).2 := by
  by_cases h1 : e_X6_known a1 B = none
  · by_cases h2 : e_X6_requireAtIntake (f_X6_known a1 B) B = none
    · by_cases h3 : (f_X6_happen 6 a1 0 B).1 = 1
      · unfold f_X6_excuse; rw [if_pos h1, if_pos h2, if_pos h3]; rfl
      · unfold f_X6_excuse; rw [if_pos h1, if_pos h2, if_neg h3]; rfl
    · unfold e_X6_excuse at he; rw [if_pos h1, if_neg h2] at he; exact absurd he h2
  · unfold e_X6_excuse at he; rw [if_neg h1] at he; exact absurd he h1
theorem fa_takeStep {a1 : Int32} {B : BT} (he : e_X6_takeStep a1 B = none) : (f_X6_takeStep a1 B).2 = (f_X0_apply 7 a1 0 0 0 B).2 := by
  by_cases h1 : e_X6_known a1 B = none
  · by_cases h2 : e_X6_requireAtIntake (f_X6_known a1 B) B = none
    · by_cases h3 : B (10 + (f_X6_known a1 B)) 10 = (-1)
      · unfold f_X6_takeStep; rw [if_pos h1, if_pos h2, if_pos h3]; rfl
      · unfold e_X6_takeStep at he; rw [if_pos h1, if_pos h2, if_neg h3] at he; exact absurd he (Option.some_ne_none _)
    · unfold e_X6_takeStep at he; rw [if_pos h1, if_neg h2] at he; exact absurd he h2
  · unfold e_X6_takeStep at he; rw [if_neg h1] at he; exact absurd he h1
theorem fa_examine {a1 : Int32} {B : BT} (he : e_X6_examine a1 B = none) : (f_X6_examine a1 B).2 = (f_X0_apply 8 a1 0 0 0 B).2 := by
  by_cases h1 : e_X6_known a1 B = none
  · by_cases h2 : e_X6_requireAtIntake (f_X6_known a1 B) B = none
    · unfold f_X6_examine; rw [if_pos h1, if_pos h2]; rfl
    · unfold e_X6_examine at he; rw [if_pos h1, if_neg h2] at he; exact absurd he h2
  · unfold e_X6_examine at he; rw [if_neg h1] at he; exact absurd he h1
theorem fa_ask {a1 : Int32} {B : BT} (he : e_X6_ask a1 B = none) : (f_X6_ask a1 B).2 = (f_X0_apply 9 a1 0 0 0 B).2 := by
  by_cases h1 : e_X6_known a1 B = none
  · by_cases h2 : e_X6_requireOwn (f_X6_known a1 B) 114 B = none
    · unfold f_X6_ask; rw [if_pos h1, if_pos h2]; rfl
    · unfold e_X6_ask at he; rw [if_pos h1, if_neg h2] at he; exact absurd he h2
  · unfold e_X6_ask at he; rw [if_neg h1] at he; exact absurd he h1
theorem fa_extend {a1 : Int32} {a2 : Int32} {B : BT} (he : e_X6_extend a1 a2 B = none) : (f_X6_extend a1 a2 B).2 = (f_X0_apply 10 a1 a2 0 0 B).2 := by
  by_cases h1 : e_X6_known a1 B = none
  · by_cases h2 : e_X6_requireRange a2 1 30 = none
    · by_cases h3 : e_X6_requireOwn (f_X6_known a1 B) 97 B = none
      · by_cases h4 : f_X0_lacksAnswer (f_X6_known a1 B) B = 0
        · by_cases h5 : B (30 + (f_X6_known a1 B)) 1 = 0
          · unfold f_X6_extend; rw [if_pos h1, if_pos h2, if_pos h3, if_pos h4, if_pos h5]; rfl
          · unfold e_X6_extend at he; rw [if_pos h1, if_pos h2, if_pos h3, if_pos h4, if_neg h5] at he; exact absurd he (Option.some_ne_none _)
        · unfold e_X6_extend at he; rw [if_pos h1, if_pos h2, if_pos h3, if_neg h4] at he; exact absurd he (Option.some_ne_none _)
      · unfold e_X6_extend at he; rw [if_pos h1, if_pos h2, if_neg h3] at he; exact absurd he h3
    · unfold e_X6_extend at he; rw [if_pos h1, if_neg h2] at he; exact absurd he h2
  · unfold e_X6_extend at he; rw [if_neg h1] at he; exact absurd he h1
theorem fa_remind {a1 : Int32} {B : BT} (he : e_X6_remind a1 B = none) : (f_X6_remind a1 B).2 = (f_X0_apply 11 a1 0 0 0 B).2 := by
  by_cases h1 : e_X6_known a1 B = none
  · by_cases h2 : e_X6_requireOwn (f_X6_known a1 B) 97 B = none
    · by_cases h3 : f_X0_lacksAnswer (f_X6_known a1 B) B = 0
      · unfold e_X6_remind at he; rw [if_pos h1, if_pos h2, if_pos h3] at he; exact absurd he (Option.some_ne_none _)
      · by_cases h4 : B (30 + (f_X6_known a1 B)) 2 < 3
        · unfold f_X6_remind; rw [if_pos h1, if_pos h2, if_neg h3, if_pos h4]; rfl
        · unfold e_X6_remind at he; rw [if_pos h1, if_pos h2, if_neg h3, if_neg h4] at he; exact absurd he (Option.some_ne_none _)
    · unfold e_X6_remind at he; rw [if_pos h1, if_neg h2] at he; exact absurd he h2
  · unfold e_X6_remind at he; rw [if_neg h1] at he; exact absurd he h1
theorem fa_answer {a1 : Int32} {B : BT} (he : e_X6_answer a1 B = none) : (f_X6_answer a1 B).2 = (f_X0_apply 12 a1 0 0 0 B).2 := by
  by_cases h1 : e_X6_known a1 B = none
  · by_cases h2 : e_X6_requireOwn (f_X6_known a1 B) 97 B = none
    · unfold f_X6_answer; rw [if_pos h1, if_pos h2]; rfl
    · unfold e_X6_answer at he; rw [if_pos h1, if_neg h2] at he; exact absurd he h2
  · unfold e_X6_answer at he; rw [if_neg h1] at he; exact absurd he h1
theorem fa_takeSilence {a1 : Int32} {B : BT} (he : e_X6_takeSilence a1 B = none) : (f_X6_takeSilence a1 B).2 = (f_X0_apply 13 a1 0 0 0 B).2 := by
  by_cases h1 : e_X6_known a1 B = none
  · by_cases h2 : e_X6_requireOwn (f_X6_known a1 B) 97 B = none
    · by_cases h3 : f_X0_lacksAnswer (f_X6_known a1 B) B = 0
      · unfold e_X6_takeSilence at he; rw [if_pos h1, if_pos h2, if_pos h3] at he; exact absurd he (Option.some_ne_none _)
      · by_cases h4 : 3 ≤ B (30 + (f_X6_known a1 B)) 2
        · unfold f_X6_takeSilence; rw [if_pos h1, if_pos h2, if_neg h3, if_pos h4]; rfl
        · unfold e_X6_takeSilence at he; rw [if_pos h1, if_pos h2, if_neg h3, if_neg h4] at he; exact absurd he (Option.some_ne_none _)
    · unfold e_X6_takeSilence at he; rw [if_pos h1, if_neg h2] at he; exact absurd he h2
  · unfold e_X6_takeSilence at he; rw [if_neg h1] at he; exact absurd he h1
theorem fa_join {a1 : Int32} {a2 : Int32} {B : BT} (he : e_X6_join a1 a2 B = none) : (f_X6_join a1 a2 B).2 = (f_X0_apply 14 a1 a2 0 0 B).2 := by
  by_cases h1 : e_X6_known a1 B = none
  · by_cases h2 : e_X6_known a2 B = none
    · by_cases h3 : a1 = a2
      · unfold e_X6_join at he; rw [if_pos h1, if_pos h2, if_pos h3] at he; exact absurd he (Option.some_ne_none _)
      · by_cases h4 : f_X0_canFollow (f_X6_known a1 B) (f_X6_known a2 B) B = 0
        · unfold e_X6_join at he; rw [if_pos h1, if_pos h2, if_neg h3, if_pos h4] at he; exact absurd he (Option.some_ne_none _)
        · unfold f_X6_join; rw [if_pos h1, if_pos h2, if_neg h3, if_neg h4]; rfl
    · unfold e_X6_join at he; rw [if_pos h1, if_neg h2] at he; exact absurd he h2
  · unfold e_X6_join at he; rw [if_neg h1] at he; exact absurd he h1
theorem fa_part {a1 : Int32} {B : BT} (he : e_X6_part a1 B = none) : (f_X6_part a1 B).2 = (f_X0_apply 15 a1 0 0 0 B).2 := by
  by_cases h1 : e_X6_known a1 B = none
  · by_cases h2 : f_X1_isJoined (f_X6_known a1 B) B = 0
    · unfold e_X6_part at he; rw [if_pos h1, if_pos h2] at he; exact absurd he (Option.some_ne_none _)
    · by_cases h3 : f_X3_isTold (f_X0_leadOf (f_X6_known a1 B) B) B = 0
      · unfold f_X6_part; rw [if_pos h1, if_neg h2, if_pos h3]; rfl
      · unfold e_X6_part at he; rw [if_pos h1, if_neg h2, if_neg h3] at he; exact absurd he (Option.some_ne_none _)
  · unfold e_X6_part at he; rw [if_neg h1] at he; exact absurd he h1
theorem fa_setWeight {a1 : Int32} {a2 : Int32} {B : BT} (he : e_X6_setWeight a1 a2 B = none) : (f_X6_setWeight a1 a2 B).2 = (f_X0_apply 3 a1 a2 0 0 B).2 := by
  by_cases h1 : e_X6_requireRange a1 0 4 = none
  · by_cases h2 : e_X6_requireRange a2 1 9 = none
    · unfold f_X6_setWeight; rw [if_pos h1, if_pos h2]; rfl
    · unfold e_X6_setWeight at he; rw [if_pos h1, if_neg h2] at he; exact absurd he h2
  · unfold e_X6_setWeight at he; rw [if_neg h1] at he; exact absurd he h1
theorem fa_find {a1 : Int32} {a2 : Int32} {B : BT} (he : e_X6_find a1 a2 B = none) : (f_X6_find a1 a2 B).2 = (f_X0_apply 16 a1 a2 0 0 B).2 := by
  by_cases h1 : e_X6_known a1 B = none
  · by_cases h2 : e_X6_requireRange a2 0 31 = none
    · by_cases h3 : e_X6_requireOwn (f_X6_known a1 B) 115 B = none
      · unfold f_X6_find; rw [if_pos h1, if_pos h2, if_pos h3]; rfl
      · unfold e_X6_find at he; rw [if_pos h1, if_pos h2, if_neg h3] at he; exact absurd he h3
    · unfold e_X6_find at he; rw [if_pos h1, if_neg h2] at he; exact absurd he h2
  · unfold e_X6_find at he; rw [if_neg h1] at he; exact absurd he h1
theorem fa_accept {a1 : Int32} {a2 : Int32} {B : BT} (he : e_X6_accept a1 a2 B = none) : (f_X6_accept a1 a2 B).2 = (f_X0_apply 17 a1 (j_X6_accept_37 a2) 0 0 B).2 := by
  by_cases h1 : e_X6_known a1 B = none
  · by_cases h2 : e_X6_requireOwn (f_X6_known a1 B) 100 B = none
    · by_cases h3 : B (50 + (f_X6_known a1 B)) 4 = 0
      · unfold f_X6_accept; rw [if_pos h1, if_pos h2, if_pos h3]; rfl
      · unfold e_X6_accept at he; rw [if_pos h1, if_pos h2, if_neg h3] at he; exact absurd he (Option.some_ne_none _)
    · unfold e_X6_accept at he; rw [if_pos h1, if_neg h2] at he; exact absurd he h2
  · unfold e_X6_accept at he; rw [if_neg h1] at he; exact absurd he h1
theorem fa_heed {a1 : Int32} {B : BT} (he : e_X6_heed a1 B = none) : (f_X6_heed a1 B).2 = (f_X0_apply 18 a1 0 0 0 B).2 := by
  by_cases h1 : e_X6_known a1 B = none
  · by_cases h2 : e_X6_requireOwn (f_X6_known a1 B) 100 B = none
    · by_cases h3 : B 0 5 ≤ B (50 + (f_X6_known a1 B)) 2
      · unfold f_X6_heed; rw [if_pos h1, if_pos h2, if_pos h3]; rfl
      · unfold e_X6_heed at he; rw [if_pos h1, if_pos h2, if_neg h3] at he; exact absurd he (Option.some_ne_none _)
    · unfold e_X6_heed at he; rw [if_pos h1, if_neg h2] at he; exact absurd he h2
  · unfold e_X6_heed at he; rw [if_neg h1] at he; exact absurd he h1
theorem fa_followUp {a1 : Int32} {B : BT} (he : e_X6_followUp a1 B = none) : (f_X6_followUp a1 B).2 = (f_X0_apply 19 a1 0 0 0 B).2 := by
  by_cases h1 : e_X6_known a1 B = none
  · by_cases h2 : e_X6_requireOwn (f_X6_known a1 B) 100 B = none
    · by_cases h3 : B (50 + (f_X6_known a1 B)) 2 < B 0 5
      · unfold f_X6_followUp; rw [if_pos h1, if_pos h2, if_pos h3]; rfl
      · unfold e_X6_followUp at he; rw [if_pos h1, if_pos h2, if_neg h3] at he; exact absurd he (Option.some_ne_none _)
    · unfold e_X6_followUp at he; rw [if_pos h1, if_neg h2] at he; exact absurd he h2
  · unfold e_X6_followUp at he; rw [if_neg h1] at he; exact absurd he h1
theorem fa_withdraw {a1 : Int32} {B : BT} (he : e_X6_withdraw a1 B = none) : (f_X6_withdraw a1 B).2 = (f_X0_apply 20 a1 0 0 0 B).2 := by
  by_cases h1 : e_X6_known a1 B = none
  · by_cases h2 : f_X1_isJoined (f_X6_known a1 B) B = 0
    · by_cases h3 : f_X6_isClosing (B (10 + (f_X6_known a1 B)) 11) = 0
      · unfold f_X6_withdraw; rw [if_pos h1, if_pos h2, if_pos h3]; rfl
      · unfold e_X6_withdraw at he; rw [if_pos h1, if_pos h2, if_neg h3] at he; exact absurd he (Option.some_ne_none _)
    · unfold e_X6_withdraw at he; rw [if_pos h1, if_neg h2] at he; exact absurd he (Option.some_ne_none _)
  · unfold e_X6_withdraw at he; rw [if_neg h1] at he; exact absurd he h1
set_option maxHeartbeats 4000000 in
set_option maxRecDepth 100000 in
theorem m_L_share (l : Launch) (g : wG) (hfl : l.stackTraces = false) (S : Nat → BT) (B : BT) (y : (Nat → Nat → Int32) × (Nat → Int64) × (Nat → UInt64)) (a1 : Int32) (n m9 : Nat) (hN : CN B n m9) : Met l yL_share (wsH yL_share cL_share 3 (some .int) tbS) rmS (va_Pc [.ref (gA g 0), .int a1] (pre_ g (xB S 0 B y))) (va_Qi (fun (v : Int32) (u : wSt) => v = kS (e_X6_heededShare a1 B) ∧ u = xB S 0 B y) (PB g) (AA g)) 5 30 (AA g) := by
  refine va_MetW (cc := cL_share) (maxL := 3) (ret := some .int) (by decide) rfl ?_
  intro p9 e s m args below meth c s₁ BL hml hv
  obtain ⟨rfl, hk, hPB⟩ := hv
  have hx := BL.exec
  have hb := BL.bytes
  have hc : CX p9 c cL_share s _ m RL := ⟨hx, hb, findClass_of_methodNamed BL.named, fun w h => atoms_spec BL.pre w (List.mem_cons_of_mem _ h)⟩
  have hTB : c.exceptionTable.toList = tableOf tbS := vx_table (x := yL_share) BL (atoms_spec (ws := wsH yL_share cL_share 3 (some .int) tbS) BL.pre (Cond.codeWith yL_share cL_share 3 (some .int) tbS) List.mem_cons_self)
  have hr := BL.returns
  have hlocks := BL.notSynchronized
  have hw : WS g s (xB S 0 B y) s.heap [] := ⟨hPB, va_S.rf⟩
  have hl := lv_entry ([.ref (gA g 0), .int a1]) (n := 3) (Nat.le_of_ble_eq_true rfl)
  rw [lg_entry_eq]
  generalize (lg_sl ([.ref (gA g 0), .int a1]) ++ List.replicate (3 - (lg_sl ([.ref (gA g 0), .int a1])).length) Slot.unset).toArray = ls at hl ⊢
  have hl : lv_has ls 3 [(0, .ref (gA g 0)), (1, .int a1)] := hl
  refine lv_aload_n hx hb dL_share_0 rfl (lv_at hl 0 rfl) ?_
  refine lv_iload_n hx hb dL_share_1 rfl (lv_at hl 1 rfl) ?_
  refine kx_f hw (vx_runV (As := [.int a1]) (rest := []) ⟨hx, hb, hml, hc.2.2.1, hc.2.2.2⟩ (m_X6_heededShare l g hfl S B y a1 _ _ hN) (kw_V hc 1 q923 q924 q925 q1 q926 rfl rfl (by decide +kernel) ⟨Nat.le_of_ble_eq_true rfl, Nat.le_of_ble_eq_true rfl⟩) (kp_V hk hw at_G rfl) rfl rfl hl.1 rfl (lv_room (Nat.le_of_ble_eq_true rfl)) dL_share_2 ⟨Nat.le_of_ble_eq_true rfl, Nat.le_of_ble_eq_true rfl⟩) (fun E ce q9 H locs he hw hq hv hE => ?_) (fun H locs he hw => ?_)
  · have hE9 := ex_X6_heededShare E he
    simp only [List.mem_cons, List.not_mem_nil, or_false] at hE9
    rcases hE9 with rfl | rfl
    · refine vx_catch hc.2.2.1 [⟨0, 7, 8, 67⟩] ⟨0, 7, 12, 136⟩ [] hTB (List.forall_mem_cons.mpr ⟨Or.inr ⟨by decide, _, hc.2.2.2 _ q529, hk.2.2.2.2.2.2.2.1 ("java/lang/ArithmeticException", "java/lang/IndexOutOfBoundsException") (by decide +kernel)⟩, fun _ hz => absurd hz List.not_mem_nil⟩) (by decide) (by decide) (hc.2.2.2 _ q909) (hk.2.1.use nq921) hq hv hE ?_
      refine lv_astore_n (lv' := [(2, .ref q9), (0, .ref (gA g 0)), (1, .int a1)]) hx hb dL_share_12 rfl hl (by decide) rfl (fun ls hl => ?_)
      refine lv_iconst (v := 0) hx hb dL_share_13 (by decide) ?_
      refine W.widen (k := 5) (n := 30) (Nat.le_of_ble_eq_true rfl) (Nat.le_of_ble_eq_true rfl) ?_
      exact W.iret (v := 0) hx hb hr (fun t9 ht hW => ke_i hw ht (by rw [he]; exact kS_2.symm) rfl) hw.2.2.2 dL_share_14
    · refine vx_catch hc.2.2.1 [] ⟨0, 7, 8, 67⟩ [⟨0, 7, 12, 136⟩] hTB (fun _ hz => absurd hz List.not_mem_nil) (by decide) (by decide) (hc.2.2.2 _ q529) (hk.2.1.use nq676) hq hv hE ?_
      refine lv_astore_n (lv' := [(2, .ref q9), (0, .ref (gA g 0)), (1, .int a1)]) hx hb dL_share_8 rfl hl (by decide) rfl (fun ls hl => ?_)
      refine lv_ldc (v := (-2000000001)) hx hb hc.2.2.1 (hc.2.2.2 _ q901) dL_share_9 ?_
      refine W.widen (k := 5) (n := 30) (Nat.le_of_ble_eq_true rfl) (Nat.le_of_ble_eq_true rfl) ?_
      exact W.iret (v := (-2000000001)) hx hb hr (fun t9 ht hW => ke_i hw ht (by rw [he]; exact kS_1.symm) rfl) hw.2.2.2 dL_share_11
  · refine lv_fstore_n (lv' := [(2, .float (f_X6_heededShare a1 B)), (0, .ref (gA g 0)), (1, .int a1)]) hx hb dL_share_5 rfl hl (by decide) rfl (fun ls hl => ?_)
    refine lv_iconst (v := 1) hx hb dL_share_6 (by decide) ?_
    refine W.widen (k := 5) (n := 30) (Nat.le_of_ble_eq_true rfl) (Nat.le_of_ble_eq_true rfl) ?_
    exact W.iret (v := 1) hx hb hr (fun t9 ht hW => ke_i hw ht (by rw [he]; rfl) rfl) hw.2.2.2 dL_share_7
set_option maxHeartbeats 4000000 in
set_option maxRecDepth 100000 in
theorem m_L_hasNone (l : Launch) (g : wG) (hfl : l.stackTraces = false) (S : Nat → BT) (B : BT) (y : (Nat → Nat → Int32) × (Nat → Int64) × (Nat → UInt64)) (n m9 : Nat) (hN : CN B n m9) : Met l yL_hasNone (wsH yL_hasNone cL_hasNone 3 (some .boolean) tbM) rmS (va_Pc [.ref (gA g 0)] (pre_ g (xB S 0 B y))) (va_Qi (fun (v : Int32) (u : wSt) => v = kM (e_X6_meanDays B) ∧ u = xB S 0 B y) (PB g) (AA g)) 5 30 (AA g) := by
  refine va_MetW (cc := cL_hasNone) (maxL := 3) (ret := some .boolean) (by decide) rfl ?_
  intro p9 e s m args below meth c s₁ BL hml hv
  obtain ⟨rfl, hk, hPB⟩ := hv
  have hx := BL.exec
  have hb := BL.bytes
  have hc : CX p9 c cL_hasNone s _ m RL := ⟨hx, hb, findClass_of_methodNamed BL.named, fun w h => atoms_spec BL.pre w (List.mem_cons_of_mem _ h)⟩
  have hTB : c.exceptionTable.toList = tableOf tbM := vx_table (x := yL_hasNone) BL (atoms_spec (ws := wsH yL_hasNone cL_hasNone 3 (some .boolean) tbM) BL.pre (Cond.codeWith yL_hasNone cL_hasNone 3 (some .boolean) tbM) List.mem_cons_self)
  have hr := BL.returns
  have hlocks := BL.notSynchronized
  have hw : WS g s (xB S 0 B y) s.heap [] := ⟨hPB, va_S.rf⟩
  have hl := lv_entry ([.ref (gA g 0)]) (n := 3) (Nat.le_of_ble_eq_true rfl)
  rw [lg_entry_eq]
  generalize (lg_sl ([.ref (gA g 0)]) ++ List.replicate (3 - (lg_sl ([.ref (gA g 0)])).length) Slot.unset).toArray = ls at hl ⊢
  have hl : lv_has ls 3 [(0, .ref (gA g 0))] := hl
  refine lv_aload_n hx hb dL_hasNone_0 rfl (lv_at hl 0 rfl) ?_
  refine kx_d hw (vx_runV (As := []) (rest := []) ⟨hx, hb, hml, hc.2.2.1, hc.2.2.2⟩ (m_X6_meanDays l g hfl S B y _ _ hN) (kw_V hc 0 q933 q934 q935 q1 q936 rfl rfl (by decide +kernel) ⟨Nat.le_of_ble_eq_true rfl, Nat.le_of_ble_eq_true rfl⟩) (kp_V hk hw at_G rfl) rfl rfl hl.1 rfl (lv_room (Nat.le_of_ble_eq_true rfl)) dL_hasNone_1 ⟨Nat.le_of_ble_eq_true rfl, Nat.le_of_ble_eq_true rfl⟩) (fun E ce q9 H locs he hw hq hv hE => ?_) (fun H locs he hw => ?_)
  · have hE9 := ex_X6_meanDays E he
    simp only [List.mem_cons, List.not_mem_nil, or_false] at hE9
    subst hE9
    refine vx_catch hc.2.2.1 [] ⟨0, 6, 7, 136⟩ [] hTB (fun _ hz => absurd hz List.not_mem_nil) (by decide) (by decide) (hc.2.2.2 _ q909) (hk.2.1.use nq921) hq hv hE ?_
    refine lv_astore_n (lv' := [(1, .ref q9), (0, .ref (gA g 0))]) hx hb dL_hasNone_7 rfl hl (by decide) rfl (fun ls hl => ?_)
    refine lv_iconst (v := 1) hx hb dL_hasNone_8 (by decide) ?_
    refine W.widen (k := 5) (n := 30) (Nat.le_of_ble_eq_true rfl) (Nat.le_of_ble_eq_true rfl) ?_
    exact W.zret (v := 1) hx hb hr (by decide +kernel) (fun t9 ht hW => ke_i hw ht (by rw [he]; rfl) rfl) hw.2.2.2 dL_hasNone_9
  · refine lv_dstore_n (lv' := [(1, .double (f_X6_meanDays B)), (0, .ref (gA g 0))]) hx hb dL_hasNone_4 rfl hl (by decide) rfl (fun ls hl => ?_)
    refine lv_iconst (v := 0) hx hb dL_hasNone_5 (by decide) ?_
    refine W.widen (k := 5) (n := 30) (Nat.le_of_ble_eq_true rfl) (Nat.le_of_ble_eq_true rfl) ?_
    exact W.zret (v := 0) hx hb hr (by decide +kernel) (fun t9 ht hW => ke_i hw ht (by rw [he]; rfl) rfl) hw.2.2.2 dL_hasNone_6

section ST
variable {p : Program} {l : Launch} {e : Env} {R : Room} {s : State} {m : MethodId} {args : Array Value} {below : List Frame} {meth : Method} {c : Code} {H : Heap} {locs : List Loc} {cells slots : Nat} {Q : State → Prop}
variable {cc : ByteArray} {g : wG} {x' : wSt} {pc nL : Nat} {ls : Array Slot} {lv : List (Nat × Value)} {S : Nat → BT} {B : BT} {y : (Nat → Nat → Int32) × (Nat → Int64) × (Nat → UInt64)}
theorem ka (X : LX p l s m args c cc nL g) {v N : Nat} {f : Nat → Int32} {o : Option String} {r : Int32} {b : Nat} (hA : mA l g v N f (xB S 0 B y) o r x') (hv : WV g s (xB S 0 B y) b N f H locs) (hl : lv_has ls nL lv) (hdg : decode cc pc = .ok (.invokestatic 164, 3)) (hR : 13 ≤ R.frames ∧ 320 ≤ R.locals) (hf : cells + 5 ≤ R.cells ∧ slots + 30 ≤ R.slots)
    (kk : ∀ (H1 : Heap) (locs1 : List Loc), WS g s (if o = none then x' else xB S 0 B y) H1 locs1 → W p l e R s m args below meth c H1 locs1 (cells + 5) (slots + 30) Q (F0 m (pc + 3) ls [.int (kA o r)])) : W p l e R s m args below meth c H locs cells slots Q (F0 m pc ls [.ref b, .int (nI v), .ref (gA g 0)]) :=
  kc_i hv.w (vx_runSW (hh := tbA) (As := [.ref (gA g 0), .int (nI v), .ref b]) (rest := []) ⟨X.1.1, X.1.2.1, X.2.1, X.1.2.2.1, X.1.2.2.2⟩ (hA b) (kw_SW X.1 3 q526 q527 q0 q_ask rfl rfl (by decide +kernel) ⟨hR.1, Nat.le_trans (Nat.le_of_ble_eq_true rfl) hR.2⟩) (kp_v X.2.2.1 hv) rfl rfl hl.1 rfl (lv_room (Nat.le_of_ble_eq_true rfl)) hdg hf) kk
theorem sX (X : LX p l s m args c cc nL g) {v N : Nat} {f : Nat → Int32} {o : Option String} {r : Int32} {b : Nat} (hA : mA l g v N f (xB S 0 B y) o r x') (hv : WV g s (xB S 0 B y) b N f H locs) (hl : lv_has ls nL lv) (hdg : decode cc pc = .ok (.invokestatic 164, 3)) (hR : 13 ≤ R.frames ∧ 320 ≤ R.locals) (hf : cells + 5 ≤ R.cells ∧ slots + 30 ≤ R.slots) {E : String} (he : o = some E) {v9 : Int32} (hE : kX E = v9)
    (kk : ∀ (H1 : Heap) (locs1 : List Loc), WS g s (xB S 0 B y) H1 locs1 → W p l e R s m args below meth c H1 locs1 (cells + 5) (slots + 30) Q (F0 m (pc + 3) ls [.int v9])) : W p l e R s m args below meth c H locs cells slots Q (F0 m pc ls [.ref b, .int (nI v), .ref (gA g 0)]) := by
  refine ka X hA hv hl hdg hR hf (fun H1 locs1 hw => ?_)
  subst he
  subst hE
  exact kk H1 locs1 (hw.eqv (if_neg (Option.some_ne_none _)))
theorem sN (X : LX p l s m args c cc nL g) {v N : Nat} {f : Nat → Int32} {o : Option String} {r : Int32} {b : Nat} (hA : mA l g v N f (xB S 0 B y) o r x') (hv : WV g s (xB S 0 B y) b N f H locs) (hl : lv_has ls nL lv) (hdg : decode cc pc = .ok (.invokestatic 164, 3)) (hR : 13 ≤ R.frames ∧ 320 ≤ R.locals) (hf : cells + 5 ≤ R.cells ∧ slots + 30 ≤ R.slots) (he : o = none)
    (kk : ∀ (H1 : Heap) (locs1 : List Loc), WS g s x' H1 locs1 → W p l e R s m args below meth c H1 locs1 (cells + 5) (slots + 30) Q (F0 m (pc + 3) ls [.int r])) : W p l e R s m args below meth c H locs cells slots Q (F0 m pc ls [.ref b, .int (nI v), .ref (gA g 0)]) := by
  refine ka X hA hv hl hdg hR hf (fun H1 locs1 hw => ?_)
  subst he
  exact kk H1 locs1 (hw.eqv (if_pos rfl))
theorem sS (X : LX p l s m args c cc nL g) {n9 m9 : Nat} (hN : CN B n9 m9) (hw : WS g s (xB S 0 B y) H locs) (hl : lv_has ls nL lv) {a1 : Int32} (hdg : decode cc pc = .ok (.invokestatic 143, 3)) (hR : 13 ≤ R.frames ∧ 320 ≤ R.locals) (hf : cells + 5 ≤ R.cells ∧ slots + 30 ≤ R.slots) {E : String} (he : e_X6_heededShare a1 B = some E) {v9 : Int32} (hE : kS (some E) = v9)
    (kk : ∀ (H1 : Heap) (locs1 : List Loc), WS g s (xB S 0 B y) H1 locs1 → W p l e R s m args below meth c H1 locs1 (cells + 5) (slots + 30) Q (F0 m (pc + 3) ls [.int v9])) : W p l e R s m args below meth c H locs cells slots Q (F0 m pc ls [.int a1, .ref (gA g 0)]) := by
  refine kc_i hw (vx_runSW (hh := tbS) (As := [.ref (gA g 0), .int a1]) (rest := []) ⟨X.1.1, X.1.2.1, X.2.1, X.1.2.2.1, X.1.2.2.2⟩ (m_L_share l g X.2.2.2 S B y a1 _ _ hN) (kw_SW X.1 2 q906 q907 q0 q_share rfl rfl (by decide +kernel) ⟨Nat.le_trans (Nat.le_of_ble_eq_true rfl) hR.1, Nat.le_trans (Nat.le_of_ble_eq_true rfl) hR.2⟩) (kp_S X.2.2.1 hw) rfl rfl hl.1 rfl (lv_room (Nat.le_of_ble_eq_true rfl)) hdg hf) (fun H1 locs1 hw => ?_)
  rw [he]
  subst hE
  exact kk H1 locs1 hw
theorem sM (X : LX p l s m args c cc nL g) {n9 m9 : Nat} (hN : CN B n9 m9) (hw : WS g s (xB S 0 B y) H locs) (hl : lv_has ls nL lv) (hdg : decode cc pc = .ok (.invokestatic 147, 3)) (hR : 13 ≤ R.frames ∧ 320 ≤ R.locals) (hf : cells + 5 ≤ R.cells ∧ slots + 30 ≤ R.slots) {E : String} (he : e_X6_meanDays B = some E)
    (kk : ∀ (H1 : Heap) (locs1 : List Loc), WS g s (xB S 0 B y) H1 locs1 → W p l e R s m args below meth c H1 locs1 (cells + 5) (slots + 30) Q (F0 m (pc + 3) ls [.int 1])) : W p l e R s m args below meth c H locs cells slots Q (F0 m pc ls [.ref (gA g 0)]) := by
  refine kc_i hw (vx_runSW (hh := tbM) (As := [.ref (gA g 0)]) (rest := []) ⟨X.1.1, X.1.2.1, X.2.1, X.1.2.2.1, X.1.2.2.2⟩ (m_L_hasNone l g X.2.2.2 S B y _ _ hN) (kw_SW X.1 1 q930 q931 q0 q_hasNone rfl rfl (by decide +kernel) ⟨Nat.le_trans (Nat.le_of_ble_eq_true rfl) hR.1, Nat.le_trans (Nat.le_of_ble_eq_true rfl) hR.2⟩) (kp_S X.2.2.1 hw) rfl rfl hl.1 rfl (lv_room (Nat.le_of_ble_eq_true rfl)) hdg hf) (fun H1 locs1 hw => ?_)
  rw [he]
  exact kk H1 locs1 hw
theorem sT (X : LX p l s m args c cc nL g) {n9 m9 : Nat} (hN : CN B n9 m9) (hw : WS g s (xB S 0 B y) H locs) (hl : lv_has ls nL lv) (hdg : decode cc pc = .ok (.invokevirtual 157, 3)) (hR : 13 ≤ R.frames ∧ 320 ≤ R.locals) (hf : cells ≤ R.cells ∧ slots ≤ R.slots)
    (kk : ∀ (H1 : Heap) (locs1 : List Loc), WS g s (xB S 0 B y) H1 locs1 → W p l e R s m args below meth c H1 locs1 cells slots Q (F0 m (pc + 3) ls [.int (f_X6_today B)])) : W p l e R s m args below meth c H locs cells slots Q (F0 m pc ls [.ref (gA g 0)]) :=
  kc_i hw (va_runV (As := []) (rest := []) ⟨X.1.1, X.1.2.1, X.2.1, X.1.2.2.1, X.1.2.2.2⟩ (m_X6_today l g S B y _ _ hN) (kw_V X.1 0 q248 q249 q250 q1 q251 rfl rfl (by decide +kernel) ⟨Nat.le_trans (Nat.le_of_ble_eq_true rfl) hR.1, Nat.le_trans (Nat.le_of_ble_eq_true rfl) hR.2⟩) (kp_V X.2.2.1 hw at_G rfl) rfl rfl hl.1 rfl (lv_room (Nat.le_of_ble_eq_true rfl)) hdg hf) kk
theorem sK (X : LX p l s m args c cc nL g) {n9 m9 : Nat} (hN : CN B n9 m9) (hw : WS g s (xB S 0 B y) H locs) (hl : lv_has ls nL lv) (hdg : decode cc pc = .ok (.invokevirtual 151, 3)) (hR : 13 ≤ R.frames ∧ 320 ≤ R.locals) (hf : cells ≤ R.cells ∧ slots ≤ R.slots)
    (kk : ∀ (H1 : Heap) (locs1 : List Loc), WS g s (xB S 0 B y) H1 locs1 → W p l e R s m args below meth c H1 locs1 cells slots Q (F0 m (pc + 3) ls [.long (f_X6_checksum B)])) : W p l e R s m args below meth c H locs cells slots Q (F0 m pc ls [.ref (gA g 0)]) :=
  kc_l hw (va_runV (As := []) (rest := []) ⟨X.1.1, X.1.2.1, X.2.1, X.1.2.2.1, X.1.2.2.2⟩ (m_X6_checksum l g S B y _ _ hN) (kw_V X.1 0 q252 q253 q254 q1 q255 rfl rfl (by decide +kernel) ⟨Nat.le_trans (Nat.le_of_ble_eq_true rfl) hR.1, Nat.le_trans (Nat.le_of_ble_eq_true rfl) hR.2⟩) (kp_V X.2.2.1 hw at_G rfl) rfl rfl hl.1 rfl (lv_room (Nat.le_of_ble_eq_true rfl)) hdg hf) kk
theorem sZ (X : LX p l s m args c cc nL g) {t : Nat} (hV : VV t S B) (ho : f_X0_isOrderly B = 1) (hw : WS g s (xB S 0 B y) H locs) (hl : lv_has ls nL lv) (hdg : decode cc pc = .ok (.invokevirtual 160, 3)) (hR : 13 ≤ R.frames ∧ 320 ≤ R.locals) (hf : cells ≤ R.cells ∧ slots ≤ R.slots)
    (kk : ∀ (S1 : Nat → BT) (H1 : Heap) (locs1 : List Loc), VV t S1 B → WS g s (xB S1 0 B y) H1 locs1 → W p l e R s m args below meth c H1 locs1 cells slots Q (F0 m (pc + 3) ls [.int 1])) : W p l e R s m args below meth c H locs cells slots Q (F0 m pc ls [.ref (gA g 0)]) := by
  obtain ⟨n9, m9, ne9, n8, m8, hN, hN1, hev, hne, hne2⟩ := hV.cnt
  have e0 : va_up S 0 B 0 = B := va_up_at S 0 B
  have e1 : va_up S 0 B 1 = S 1 := by simp [va_up]
  have e2 : va_up S 0 B 2 = S 2 := by simp [va_up]
  refine kc_i hw (va_runV (As := []) (rest := []) ⟨X.1.1, X.1.2.1, X.2.1, X.1.2.2.1, X.1.2.2.2⟩ (m_X6_isSound l g (va_up S 0 B) y n9 m9 (by rw [e0]; exact hN) n8 m8 (by rw [e1]; exact hN1) (by rw [e2]; exact hev) (by rw [e2, hne, nI_clamp (by omega)]; exact hne2)) (kw_V X.1 0 q262 q263 q264 q1 q265 rfl rfl (by decide +kernel) ⟨Nat.le_trans (Nat.le_of_ble_eq_true rfl) hR.1, Nat.le_trans (Nat.le_of_ble_eq_true rfl) hR.2⟩) (kp_V X.2.2.1 hw at_G rfl) rfl rfl hl.1 rfl (lv_room (Nat.le_of_ble_eq_true rfl)) hdg hf) (fun H1 locs1 hw => ?_)
  rw [hV.one ho]
  refine kk (va_up S 1 (f_X2_tellAgain (va_up S 0 B) (S 1))) H1 locs1 hV.snd (hw.eqv ?_)
  show (va_up (va_up S 0 B) 1 (f_X2_tellAgain (va_up S 0 B) (va_up S 0 B 1)), y) = (va_up (va_up S 1 (f_X2_tellAgain (va_up S 0 B) (S 1))) 0 B, y)
  rw [e1]
  refine congrArg (fun z => (z, y)) ?_
  funext j
  by_cases h0 : j = 0
  · subst h0; simp [va_up]
  · by_cases h1 : j = 1
    · subst h1; simp [va_up]
    · simp [va_up, h0, h1]
theorem sF (X : LX p l s m args c cc nL g) {n9 m9 : Nat} (hN : CN B n9 m9) (hw : WS g s (xB S 0 B y) H locs) (hl : lv_has ls nL lv) {a1 : Int32} (hdg : decode cc pc = .ok (.invokevirtual 132, 3)) (hR : 13 ≤ R.frames ∧ 320 ≤ R.locals) (hf : cells + 5 ≤ R.cells ∧ slots + 30 ≤ R.slots) (he : e_X6_heededShare a1 B = none)
    (kk : ∀ (H1 : Heap) (locs1 : List Loc), WS g s (xB S 0 B y) H1 locs1 → W p l e R s m args below meth c H1 locs1 (cells + 5) (slots + 30) Q (F0 m (pc + 3) ls [.float (f_X6_heededShare a1 B)])) : W p l e R s m args below meth c H locs cells slots Q (F0 m pc ls [.int a1, .ref (gA g 0)]) :=
  kx_f hw (vx_runV (As := [.int a1]) (rest := []) ⟨X.1.1, X.1.2.1, X.2.1, X.1.2.2.1, X.1.2.2.2⟩ (m_X6_heededShare l g X.2.2.2 S B y a1 _ _ hN) (kw_V X.1 1 q923 q924 q925 q1 q926 rfl rfl (by decide +kernel) ⟨Nat.le_trans (Nat.le_of_ble_eq_true rfl) hR.1, Nat.le_trans (Nat.le_of_ble_eq_true rfl) hR.2⟩) (kp_V X.2.2.1 hw at_G rfl) rfl rfl hl.1 rfl (lv_room (Nat.le_of_ble_eq_true rfl)) hdg ⟨by have := hf.1; omega, by have := hf.2; omega⟩) (fun E ce q8 H1 locs1 h1 _ _ _ _ => absurd (he.symm.trans h1) (fun z => nomatch z)) (fun H1 locs1 _ hw => W.widen (k := cells + 5) (n := slots + 30) (by omega) (by omega) (kk H1 locs1 hw))
theorem sD (X : LX p l s m args c cc nL g) {n9 m9 : Nat} (hN : CN B n9 m9) (hw : WS g s (xB S 0 B y) H locs) (hl : lv_has ls nL lv) (hdg : decode cc pc = .ok (.invokevirtual 138, 3)) (hR : 13 ≤ R.frames ∧ 320 ≤ R.locals) (hf : cells + 5 ≤ R.cells ∧ slots + 30 ≤ R.slots) (he : e_X6_meanDays B = none)
    (kk : ∀ (H1 : Heap) (locs1 : List Loc), WS g s (xB S 0 B y) H1 locs1 → W p l e R s m args below meth c H1 locs1 (cells + 5) (slots + 30) Q (F0 m (pc + 3) ls [.double (f_X6_meanDays B)])) : W p l e R s m args below meth c H locs cells slots Q (F0 m pc ls [.ref (gA g 0)]) :=
  kx_d hw (vx_runV (As := []) (rest := []) ⟨X.1.1, X.1.2.1, X.2.1, X.1.2.2.1, X.1.2.2.2⟩ (m_X6_meanDays l g X.2.2.2 S B y _ _ hN) (kw_V X.1 0 q933 q934 q935 q1 q936 rfl rfl (by decide +kernel) ⟨Nat.le_trans (Nat.le_of_ble_eq_true rfl) hR.1, Nat.le_trans (Nat.le_of_ble_eq_true rfl) hR.2⟩) (kp_V X.2.2.1 hw at_G rfl) rfl rfl hl.1 rfl (lv_room (Nat.le_of_ble_eq_true rfl)) hdg ⟨by have := hf.1; omega, by have := hf.2; omega⟩) (fun E ce q8 H1 locs1 h1 _ _ _ _ => absurd (he.symm.trans h1) (fun z => nomatch z)) (fun H1 locs1 _ hw => W.widen (k := cells + 5) (n := slots + 30) (by omega) (by omega) (kk H1 locs1 hw))
end ST
