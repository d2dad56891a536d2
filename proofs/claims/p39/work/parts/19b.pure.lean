/-! a book's numbers, laid anew (nrm), and what holds behind each call (VV); checks by computing -/
def plc : List (Nat × Nat) := [(0, 3), (0, 4), (0, 5)] ++ (List.range 5).map (fun k => (3, k)) ++ (List.range 24).map (fun i => (4 + i / 4, i % 4)) ++ (List.range 260).map (fun i => (10 + i / 13, 3 + i % 13)) ++ (List.range 80).map (fun i => (30 + i / 4, i % 4)) ++ (List.range 120).map (fun i => (50 + i / 6, i % 6))
/-- the place of a number in the list -/
def jx (c k : Nat) : Nat := if c < 10 then (if c = 0 then k - 3 else if c = 3 then 3 + k else 8 + (4 * (c - 4) + k)) else if c < 30 then 32 + (13 * (c - 10) + (k - 3)) else if c < 50 then 292 + (4 * (c - 30) + k) else 372 + (6 * (c - 50) + k)
def rel (c k : Nat) : Bool := if c < 10 then (if c = 0 then decide (3 ≤ k ∧ k < 6) else if c = 3 then decide (k < 5) else decide (4 ≤ c ∧ k < 4)) else if c < 30 then decide (3 ≤ k ∧ k < 16) else if c < 50 then decide (k < 4) else decide (c < 70 ∧ k < 6)
theorem plc_len : plc.length = 492 := by decide +kernel
theorem plc_at0 : ∀ c, c < 70 → ∀ k, k < 16 → rel c k = true → plc[jx c k]? = some (c, k) ∧ jx c k < 492 := by decide +kernel
def stN (B : BT) (a : Nat) (p : Nat × Nat) : Nat := a * 4294967296 + (B p.1 p.2).toUInt32.toNat
theorem v_lt (x : Int32) : x.toUInt32.toNat < 4294967296 := x.toUInt32.toNat_lt
theorem fold_hi (B : BT) : ∀ (l : List (Nat × Nat)) (a : Nat), l.foldl (stN B) a / 2 ^ (32 * l.length) = a := by
  intro l
  induction l with
  | nil => intro a; simp
  | cons q t ih =>
    intro a
    have h := v_lt (B q.1 q.2)
    rw [List.foldl_cons, List.length_cons, show 32 * (t.length + 1) = 32 * t.length + 32 by omega, Nat.pow_add, ← Nat.div_div_eq_div_mul, ih]
    unfold stN
    omega
theorem fold_at (B : BT) : ∀ (l : List (Nat × Nat)) (a j : Nat) (q : Nat × Nat), l[j]? = some q → l.foldl (stN B) a / 2 ^ (32 * (l.length - 1 - j)) % 4294967296 = (B q.1 q.2).toUInt32.toNat := by
  intro l
  induction l with
  | nil => intro a j q h; simp at h
  | cons z t ih =>
    intro a j q h
    have h1 := v_lt (B z.1 z.2)
    cases j with
    | zero =>
      have e : z = q := by simpa using h
      subst e
      rw [List.foldl_cons, List.length_cons, show t.length + 1 - 1 - 0 = t.length by omega, fold_hi]
      unfold stN
      omega
    | succ j =>
      have e : t[j]? = some q := by simpa using h
      rw [List.foldl_cons, List.length_cons, show t.length + 1 - 1 - (j + 1) = t.length - 1 - j by omega]
      exact ih _ _ _ e
/-- a book out of one number -/
def rdN (N : Nat) : BT := fun c k => Int32.ofNat ((N >>> (32 * (491 - jx c k))) % 4294967296)
def nrm (B : BT) : BT := rdN (plc.foldl (stN B) 0)
theorem rel_k {c k : Nat} (h : rel c k = true) : c < 70 ∧ k < 16 := by
  unfold rel at h
  by_cases h1 : c < 10
  · rw [if_pos h1] at h
    by_cases h2 : c = 0
    · rw [if_pos h2] at h; have := of_decide_eq_true h; omega
    · rw [if_neg h2] at h
      by_cases h3 : c = 3
      · rw [if_pos h3] at h; have := of_decide_eq_true h; omega
      · rw [if_neg h3] at h; have := of_decide_eq_true h; omega
  · rw [if_neg h1] at h
    by_cases h2 : c < 30
    · rw [if_pos h2] at h; have := of_decide_eq_true h; omega
    · rw [if_neg h2] at h
      by_cases h3 : c < 50
      · rw [if_pos h3] at h; have := of_decide_eq_true h; omega
      · rw [if_neg h3] at h; have := of_decide_eq_true h; omega
theorem i32_rt (x : Int32) : Int32.ofNat x.toUInt32.toNat = x := by
  apply Int32.toUInt32_inj.mp
  show UInt32.ofNat x.toUInt32.toNat = x.toUInt32
  exact UInt32.ofNat_toNat
theorem nrm_at {B : BT} {c k : Nat} (h : rel c k = true) : nrm B c k = B c k := by
  obtain ⟨h1, h2⟩ := rel_k h
  obtain ⟨h3, h4⟩ := plc_at0 c h1 k h2 h
  have h5 := fold_at B plc 0 _ _ h3
  rw [plc_len] at h5
  unfold nrm rdN
  rw [Nat.shiftRight_eq_div_pow, show 491 - jx c k = 492 - 1 - jx c k by omega, h5]
  exact i32_rt _
/-- counted with the value told, not the sum to be made -/
def fcN {α : Type} (n : Nat) (k : Nat → α) : α := Nat.rec (motive := fun _ => α) (k 0) (fun m _ => k (m + 1)) n
theorem fcN_eq {α : Type} (n : Nat) (k : Nat → α) : fcN n k = k n := by cases n <;> rfl
def enc : List (Nat × Nat) → BT → Nat → (Nat → Bool) → Bool
  | [], _, a, k => k a
  | q :: t, B, a, k => fcN (stN B a q) (fun v => enc t B v k)
theorem enc_eq (B : BT) (k : Nat → Bool) : ∀ (l : List (Nat × Nat)) (a : Nat), enc l B a k = k (l.foldl (stN B) a) := by
  intro l
  induction l with
  | nil => intro a; rfl
  | cons q t ih => intro a; unfold enc; rw [fcN_eq, ih, List.foldl_cons]
def nrK (B : BT) (k : BT → Bool) : Bool := enc plc B 0 (fun N => k (rdN N))
theorem nrK_eq (B : BT) (k : BT → Bool) : nrK B k = k (nrm B) := enc_eq B _ plc 0
-- ===== the checks =====
def oIs (o : Option String) (E : String) : Bool := match o with
  | none => false
  | some x => x == E
theorem oIs_e {o : Option String} {E : String} (h : oIs o E = true) : o = some E := by
  cases o with
  | none => exact absurd h (by decide)
  | some x => exact congrArg some (eq_of_beq h)
def oNo (o : Option String) : Bool := match o with
  | none => true
  | some _ => false
theorem oNo_e {o : Option String} (h : oNo o = true) : o = none := by
  cases o with
  | none => rfl
  | some x => exact absurd h (by decide)
def okW (C : BT) : Bool := decide (C 0 4 = 0 ∨ 0 < C 0 3)
def cX (o : BT → Option String) (E : String) (k : BT → Bool) (B : BT) : Bool := oIs (o B) E && k B
def cQ (o : BT → Option String) (q : BT → Bool) (k : BT → Bool) (B : BT) : Bool := oNo (o B) && (q B && k B)
def cC (o : BT → Option String) (f : BT → Int32 × BT) (q : Int32 → Bool) (k : BT → Bool) (B : BT) : Bool := oNo (o B) && (q (f B).1 && (okW (f B).2 && nrK (f B).2 k))
theorem cX_e {o : BT → Option String} {E : String} {k : BT → Bool} {B : BT} (h : cX o E k B = true) : o B = some E ∧ k B = true := by
  unfold cX at h
  rw [Bool.and_eq_true] at h
  exact ⟨oIs_e h.1, h.2⟩
theorem cQ_e {o : BT → Option String} {q : BT → Bool} {k : BT → Bool} {B : BT} (h : cQ o q k B = true) : o B = none ∧ q B = true ∧ k B = true := by
  unfold cQ at h
  rw [Bool.and_eq_true, Bool.and_eq_true] at h
  exact ⟨oNo_e h.1, h.2⟩
theorem cC_e {o : BT → Option String} {f : BT → Int32 × BT} {q : Int32 → Bool} {k : BT → Bool} {B : BT} (h : cC o f q k B = true) : o B = none ∧ q (f B).1 = true ∧ okW (f B).2 = true ∧ k (nrm (f B).2) = true := by
  unfold cC at h
  rw [Bool.and_eq_true, Bool.and_eq_true, Bool.and_eq_true, nrK_eq] at h
  exact ⟨oNo_e h.1, h.2⟩
def vIs (v r : Int32) : Bool := decide (r = v)
theorem vIs_e {v r : Int32} (h : vIs v r = true) : r = v := of_decide_eq_true h
def vNn (r : Int32) : Bool := decide (¬ r < 0)
theorem vNn_e {r : Int32} (h : vNn r = true) : ¬ r < 0 := of_decide_eq_true h
-- ===== what holds behind t calls =====
theorem rel_lv {n m c k : Nat} (hn : n ≤ 6) (hm : m ≤ 20) (h : sm_lv n m c k) : rel c k = true := by
  unfold rel
  rcases h with ⟨rfl, h1, h2⟩ | ⟨rfl, h1⟩ | ⟨h1, h2, h3⟩ | ⟨h1, h2, h3, h4⟩ | ⟨h1, h2, h3⟩ | ⟨h1, h2, h3⟩
  · rw [if_pos (by omega), if_pos rfl]; exact decide_eq_true (by omega)
  · rw [if_pos (by omega), if_neg (by omega), if_pos rfl]; exact decide_eq_true (by omega)
  · rw [if_pos (by omega), if_neg (by omega), if_neg (by omega)]; exact decide_eq_true (by omega)
  · rw [if_neg (by omega), if_pos (by omega)]; exact decide_eq_true (by omega)
  · rw [if_neg (by omega), if_neg (by omega), if_pos (by omega)]; exact decide_eq_true (by omega)
  · rw [if_neg (by omega), if_neg (by omega), if_neg (by omega)]; exact decide_eq_true (by omega)
theorem CN.nrm {B : BT} {n m : Nat} (h : CN B n m) : CN (nrm B) n m := by
  obtain ⟨h1, h2, h3, h4, h5⟩ := h
  refine ⟨by rw [nrm_at (by decide)]; exact h1, by rw [nrm_at (by decide)]; exact h2, h3, h4, fun i hi => ?_⟩
  rw [nrm_at (by unfold rel; rw [if_neg (by omega), if_pos (by omega)]; decide)]
  exact h5 i hi
def VV (t : Nat) (S : Nat → BT) (B : BT) : Prop := ∃ n m ne n1 m1 : Nat, CN B n m ∧ (m = 0 ∨ 0 < n) ∧ CN (S 1) n1 m1 ∧ sm_E (va_up S 0 B) n m ne ∧ ne ≤ t
theorem VV.nx {t t' : Nat} {S : Nat → BT} {B : BT} (h : VV t S B) (ht : t ≤ t') : VV t' S B := by
  obtain ⟨n, m, ne, n1, m1, h1, h2, h3, h4, h5⟩ := h
  exact ⟨n, m, ne, n1, m1, h1, h2, h3, h4, by omega⟩
theorem va_up2 (S : Nat → BT) (B C : BT) : va_up (va_up S 0 B) 0 C = va_up S 0 C := by
  funext j
  by_cases h : j = 0 <;> simp [va_up, h]
theorem VV.cnt {t : Nat} {S : Nat → BT} {B : BT} (h : VV t S B) : ∃ n m ne n1 m1 : Nat, CN B n m ∧ CN (S 1) n1 m1 ∧ (¬ S 2 0 1 < 0) ∧ S 2 0 1 = nI ne ∧ ne ≤ 512 := by
  obtain ⟨n, m, ne, n1, m1, h1, h2, h3, h4, h5⟩ := h
  obtain ⟨e1, e2, -⟩ := h4
  have e3 : S 2 0 1 = nI ne := by
    have e9 : va_up S 0 B 2 = S 2 := by simp [va_up]
    rw [e9] at e1; exact e1
  exact ⟨n, m, ne, n1, m1, h1, h3, by rw [e3]; exact nI_pos (by omega), e3, e2⟩
theorem VV.ev {t : Nat} {S : Nat → BT} {B : BT} (h : VV t S B) (ht : t < 512) {k a1 a2 a3 a4 : Int32} {C : BT} (hC : C = (f_X0_apply k a1 a2 a3 a4 B).2) (hw : okW C = true) : VV (t + 1) (f_X2_keep k a1 a2 a3 a4 S) (nrm C) := by
  obtain ⟨n, m, ne, n1, m1, h1, h2, h3, h4, h5⟩ := h
  obtain ⟨n', m', hN⟩ := cnx_X0_apply (a1 := k) (a2 := a1) (a3 := a2) (a4 := a3) (a5 := a4) h1
  have hA : va_up S 0 B 0 = B := va_up_at S 0 B
  have hE := h4.ev (by rw [hA]; exact ⟨h1.1, h1.2.1, h1.2.2.1, h1.2.2.2.1, h2⟩) (by omega) k a1 a2 a3 a4 (n' := n') (m' := m') (by rw [hA]; exact hN.1) (by rw [hA]; exact hN.2.1) hN.2.2.1 hN.2.2.2.1
  rw [hA, ← hC, keep_up, va_up2] at hE
  rw [← hC] at hN
  have hk := sm_keep (S := va_up S 0 B) h4.1 (by omega) k a1 a2 a3 a4
  have hk1 : f_X2_keep k a1 a2 a3 a4 S 1 = S 1 := by
    have e := hk.1.2
    rw [keep_up] at e
    simpa [va_up] using e
  refine ⟨n', m', ne + 1, n1, m1, hN.nrm, ?_, by rw [hk1]; exact h3, ?_, by omega⟩
  · have h9 := of_decide_eq_true hw
    rw [hN.1, hN.2.1] at h9
    have q1 := hN.2.2.1
    have q2 := hN.2.2.2.1
    rcases h9 with h9 | h9
    · left; rw [show (0 : Int32) = nI 0 from rfl, nI_eq (by omega) (by omega)] at h9; exact h9
    · right; rw [show (0 : Int32) = nI 0 from rfl, nI_ltI (by omega) (by omega)] at h9; exact h9
  · obtain ⟨e1, e2, e3⟩ := hE
    have e9 : ∀ X : BT, va_up (f_X2_keep k a1 a2 a3 a4 S) 0 X 2 = f_X2_keep k a1 a2 a3 a4 S 2 := fun X => by simp [va_up]
    refine ⟨by rw [e9] at e1 ⊢; exact e1, e2, fun B1 c q hc => ?_⟩
    have e4 := e3 B1 c q hc
    rw [va_up_at] at e4 ⊢
    rw [nrm_at (rel_lv hN.2.2.1 hN.2.2.2.1 hc), e4]
    rw [sm_tell_c (S := va_up (f_X2_keep k a1 a2 a3 a4 S) 0 C) (S' := va_up (f_X2_keep k a1 a2 a3 a4 S) 0 (nrm C)) (ne + 1) (fun q _ => by rw [e9, e9])]
theorem VV.one {t : Nat} {S : Nat → BT} {B : BT} (h : VV t S B) (ho : f_X0_isOrderly B = 1) : f_X6_isSound (va_up S 0 B) = 1 := by
  obtain ⟨n, m, ne, n1, m1, h1, h2, h3, h4, h5⟩ := h
  have hA : va_up S 0 B 0 = B := va_up_at S 0 B
  obtain ⟨e1, e2, e3⟩ := h4
  unfold f_X6_isSound
  rw [hA, ho, if_neg (by decide)]
  have e0 : ∀ Y : BT, va_up (va_up S 0 B) 1 Y 0 = B := fun Y => by simp [va_up]
  have hz : sm_Z n m (va_up (va_up S 0 B) 1 (f_X2_tellAgain (va_up S 0 B) (va_up S 0 B 1)) 0) (va_up (va_up S 0 B) 1 (f_X2_tellAgain (va_up S 0 B) (va_up S 0 B 1)) 1) := by
    rw [va_up_at, e0]
    unfold f_X2_tellAgain
    rw [e1, nI_clamp (by omega)]
    have e4 := e3 (va_up S 0 B 1)
    rw [hA] at e4
    exact ⟨e4, h1.1, h1.2.1, h1.2.2.1, h1.2.2.2.1, h2⟩
  rw [sm_mat hz, if_neg (by decide)]
theorem VV.snd {t : Nat} {S : Nat → BT} {B : BT} (h : VV t S B) : VV t (va_up S 1 (f_X2_tellAgain (va_up S 0 B) (S 1))) B := by
  obtain ⟨n, m, ne, n1, m1, h1, h2, h3, h4, h5⟩ := h
  obtain ⟨e1, e2, e3⟩ := h4
  have e9 : ∀ Y : BT, va_up (va_up S 1 Y) 0 B 2 = va_up S 0 B 2 := fun Y => by simp [va_up]
  obtain ⟨n2, m2, h9⟩ := cnx_tellAgain h3 (va_up S 0 B) (((va_up S 0 B) 2 0 1).toNatClampNeg)
  refine ⟨n, m, ne, n2, m2, h1, h2, by rw [va_up_at]; exact h9, ⟨by rw [e9]; exact e1, e2, fun B1 => ?_⟩, h5⟩
  rw [va_up_at, sm_tell_c (S := va_up S 0 B) ne (fun q _ => by rw [e9])]
  have e4 := e3 B1
  rw [va_up_at] at e4
  exact e4
