/-! quotients of whole numbers are no NaN -/
theorem fp_set (f : FP.Core.Fmt) (s : Bool) (c : Nat) (q : Int) (h1 : f.tails < 2 ^ f.p) (h2 : f.tails ≠ 0) : FP.Core.settle f s c q = .inf s ∨ ∃ c' q', FP.Core.settle f s c q = .fin s c' q' ∧ c' < 2 ^ f.p ∧ q' ≤ f.qmax ∧ (c ≠ 0 → c' ≠ 0) := by
  unfold FP.Core.settle FP.Core.bound
  by_cases hc : c < 2 ^ f.p
  · rw [if_pos hc]
    by_cases hq : q ≤ f.qmax
    · rw [if_pos hq]; exact Or.inr ⟨c, q, rfl, hc, hq, id⟩
    · rw [if_neg hq]; exact Or.inl rfl
  · rw [if_neg hc]
    by_cases hq : q + 1 ≤ f.qmax
    · rw [if_pos hq]; exact Or.inr ⟨_, _, rfl, h1, hq, fun _ => h2⟩
    · rw [if_neg hq]; exact Or.inl rfl
theorem fp_rr (f : FP.Core.Fmt) (s : Bool) (x y : Nat) (e : Int) (h1 : f.tails < 2 ^ f.p) (h2 : f.tails ≠ 0) (h3 : f.qmin ≤ f.qmax) : FP.Core.roundRatio f s x y e = .inf s ∨ ∃ c' q', FP.Core.roundRatio f s x y e = .fin s c' q' ∧ c' < 2 ^ f.p ∧ q' ≤ f.qmax := by
  unfold FP.Core.roundRatio
  by_cases hx : x = 0
  · rw [if_pos hx]; exact Or.inr ⟨0, _, rfl, Nat.two_pow_pos _, h3⟩
  · rw [if_neg hx]
    rcases fp_set f s _ _ h1 h2 with h | ⟨c', q', h, a, b, _⟩
    · exact Or.inl h
    · exact Or.inr ⟨c', q', h, a, b⟩
theorem fp_near {x y : Nat} (hy : 0 < y) (h : y ≤ x) : FP.Core.nearest x y ≠ 0 := by
  have h1 : 0 < x / y := Nat.div_pos h hy
  unfold FP.Core.nearest
  generalize x / y = z at h1
  split
  · omega
  · split <;> omega
theorem fp_lead (x : Nat) : FP.Core.leading x 1 ≤ (x.log2 : Int) := by
  have h : Nat.log2 1 = 0 := by decide
  unfold FP.Core.leading
  simp only [h]
  split <;> omega
theorem fp_q (f : FP.Core.Fmt) (x : Nat) (hx : x ≠ 0) (h32 : x < 2 ^ 32) (h3 : f.qmin ≤ 0) (h4 : 1 ≤ f.p) :
    FP.Core.quantum f x 1 0 ≤ 31 ∧ (0 < FP.Core.quantum f x 1 0 → 2 ^ (FP.Core.quantum f x 1 0).toNat ≤ x) := by
  have h := fp_lead x
  have hl : x.log2 < 32 := (Nat.log2_lt hx).mpr h32
  have hs : 2 ^ x.log2 ≤ x := Nat.log2_self_le hx
  unfold FP.Core.quantum
  refine ⟨by omega, fun h0 => Nat.le_trans (Nat.pow_le_pow_right (by decide) ?_) hs⟩
  omega
theorem fp_int (f : FP.Core.Fmt) (n : Int) (hn : n.natAbs < 2 ^ 32) (h1 : f.tails < 2 ^ f.p) (h2 : f.tails ≠ 0) (h3 : f.qmin ≤ 0) (h4 : 1 ≤ f.p) (h5 : 32 ≤ f.qmax) :
    ∃ s c q, FP.Core.round f (FP.Core.ofInt n) = .fin s c q ∧ c < 2 ^ f.p ∧ q ≤ f.qmax ∧ (n ≠ 0 → c ≠ 0) := by
  unfold FP.Core.ofInt FP.Core.round FP.Core.roundRatio
  simp only []
  by_cases hx : n.natAbs = 0
  · rw [if_pos hx]; exact ⟨_, 0, _, rfl, Nat.two_pow_pos _, by omega, fun h => absurd (Int.natAbs_eq_zero.mp hx) h⟩
  · rw [if_neg hx]
    obtain ⟨hq, hq2⟩ := fp_q f _ hx hn h3 h4
    generalize FP.Core.quantum f n.natAbs 1 0 = q at hq hq2
    unfold FP.Core.roundAt
    have hc : FP.Core.nearest (FP.Core.unitsNum n.natAbs 0 q) (FP.Core.unitsDen 1 0 q) ≠ 0 := by
      unfold FP.Core.unitsNum FP.Core.unitsDen
      refine fp_near (Nat.mul_pos (by decide) (Nat.two_pow_pos _)) ?_
      by_cases h0 : 0 < q
      · rw [show (0 - q).toNat = 0 by omega, show (q - 0) = q by omega, Nat.one_mul, Nat.pow_zero, Nat.mul_one]; exact hq2 h0
      · rw [show (q - 0).toNat = 0 by omega, Nat.pow_zero, Nat.mul_one]
        exact Nat.mul_pos (Nat.pos_of_ne_zero hx) (Nat.two_pow_pos _)
    generalize FP.Core.nearest (FP.Core.unitsNum n.natAbs 0 q) (FP.Core.unitsDen 1 0 q) = c at hc
    unfold FP.Core.settle FP.Core.bound
    by_cases hcp : c < 2 ^ f.p
    · rw [if_pos hcp, if_pos (show q ≤ f.qmax by omega)]; exact ⟨_, c, q, rfl, hcp, by omega, fun _ => hc⟩
    · rw [if_neg hcp, if_pos (show q + 1 ≤ f.qmax by omega)]; exact ⟨_, _, _, rfl, h1, by omega, fun _ => h2⟩
theorem fp_de32 (s : Bool) (c : Nat) (q : Int) (hc : c < 2 ^ 24) (hq : q ≤ 104) :
    FP.Core.encode FP.Core.b32 (.fin s c q) < 2 ^ 32 ∧ FP.Core.encode FP.Core.b32 (.fin s c q) % 2 ^ 31 ≤ 2139095040 ∧ ∃ s' c' q', FP.Core.decode FP.Core.b32 (FP.Core.encode FP.Core.b32 (.fin s c q)) = .fin s' c' q' ∧ (c ≠ 0 → c' ≠ 0) := by
  have ht : FP.Core.b32.tails = 8388608 := by decide
  have he : FP.Core.b32.exps = 256 := by decide
  have hm : FP.Core.b32.qmin = -149 := by decide
  have hs : s.toNat ≤ 1 := by cases s <;> decide
  unfold FP.Core.encode FP.Core.decode FP.Core.fieldE FP.Core.fieldT FP.Core.assemble
  simp only [ht, he, hm]
  generalize s.toNat = b at hs
  by_cases hlt : c < 8388608
  · simp only [if_pos hlt]
    refine ⟨by omega, by omega, ?_⟩
    rw [if_neg (by omega), if_pos (by omega)]
    exact ⟨_, _, _, rfl, by omega⟩
  · simp only [if_neg hlt]
    refine ⟨by omega, by omega, ?_⟩
    rw [if_neg (by omega), if_neg (by omega)]
    exact ⟨_, _, _, rfl, by omega⟩
theorem fp_de64 (s : Bool) (c : Nat) (q : Int) (hc : c < 2 ^ 53) (hq : q ≤ 971) :
    FP.Core.encode FP.Core.b64 (.fin s c q) < 2 ^ 64 ∧ FP.Core.encode FP.Core.b64 (.fin s c q) % 2 ^ 63 ≤ 9218868437227405312 ∧ ∃ s' c' q', FP.Core.decode FP.Core.b64 (FP.Core.encode FP.Core.b64 (.fin s c q)) = .fin s' c' q' ∧ (c ≠ 0 → c' ≠ 0) := by
  have ht : FP.Core.b64.tails = 4503599627370496 := by decide
  have he : FP.Core.b64.exps = 2048 := by decide
  have hm : FP.Core.b64.qmin = -1074 := by decide
  have hs : s.toNat ≤ 1 := by cases s <;> decide
  unfold FP.Core.encode FP.Core.decode FP.Core.fieldE FP.Core.fieldT FP.Core.assemble
  simp only [ht, he, hm]
  generalize s.toNat = b at hs
  by_cases hlt : c < 4503599627370496
  · simp only [if_pos hlt]
    refine ⟨by omega, by omega, ?_⟩
    rw [if_neg (by omega), if_pos (by omega)]
    exact ⟨_, _, _, rfl, by omega⟩
  · simp only [if_neg hlt]
    refine ⟨by omega, by omega, ?_⟩
    rw [if_neg (by omega), if_neg (by omega)]
    exact ⟨_, _, _, rfl, by omega⟩
theorem fp_inf32 (s : Bool) : FP.Core.encode FP.Core.b32 (.inf s) < 2 ^ 32 ∧ FP.Core.encode FP.Core.b32 (.inf s) % 2 ^ 31 ≤ 2139095040 := by cases s <;> decide
theorem fp_inf64 (s : Bool) : FP.Core.encode FP.Core.b64 (.inf s) < 2 ^ 64 ∧ FP.Core.encode FP.Core.b64 (.inf s) % 2 ^ 63 ≤ 9218868437227405312 := by cases s <;> decide
theorem fp_i32 (a : Int32) : a.toInt.natAbs < 2 ^ 32 := by
  have h1 := a.toInt_lt
  have h2 := a.le_toInt
  omega
theorem fp_vn32 (n : Nat) (h : n < 2 ^ 32) (h2 : n % 2 ^ 31 ≤ 2139095040) : vf_n32 (UInt32.ofNat n) := by
  unfold vf_n32
  rw [UInt32.le_iff_toNat_le, UInt32.toNat_and, UInt32.toNat_ofNat_of_lt' (by simpa using h)]
  have e : (0x7fffffff : UInt32).toNat = 2 ^ 31 - 1 := by decide
  rw [e, Nat.and_two_pow_sub_one_eq_mod]
  exact h2
theorem fp_vn64 (n : Nat) (h : n < 2 ^ 64) (h2 : n % 2 ^ 63 ≤ 9218868437227405312) : vf_n64 (UInt64.ofNat n) := by
  unfold vf_n64
  rw [UInt64.le_iff_toNat_le, UInt64.toNat_and, UInt64.toNat_ofNat_of_lt' (by simpa using h)]
  have e : (0x7fffffffffffffff : UInt64).toNat = 2 ^ 63 - 1 := by decide
  rw [e, Nat.and_two_pow_sub_one_eq_mod]
  exact h2
theorem fp_dec32 (a : Int32) : ∃ s c q, FP.Core.decode FP.Core.b32 (FP.i2f a).toNat = .fin s c q ∧ (a ≠ 0 → c ≠ 0) := by
  obtain ⟨s, c, q, h, hc, hq, h0⟩ := fp_int FP.Core.b32 a.toInt (fp_i32 a) (by decide) (by decide) (by decide) (by decide) (by decide)
  obtain ⟨k1, k2, s', c', q', k3, k4⟩ := fp_de32 s c q hc hq
  refine ⟨s', c', q', ?_, fun ha => k4 (h0 (fun z => ha (Int32.toInt_inj.mp z)))⟩
  show FP.Core.decode FP.Core.b32 (UInt32.ofNat (FP.Core.encode FP.Core.b32 (FP.Core.round FP.Core.b32 (FP.Core.ofInt a.toInt)))).toNat = _
  rw [h, UInt32.toNat_ofNat_of_lt' (by simpa using k1), k3]
theorem fp_dec64 (a : Int32) : ∃ s c q, FP.Core.decode FP.Core.b64 (FP.i2d a).toNat = .fin s c q ∧ (a ≠ 0 → c ≠ 0) := by
  obtain ⟨s, c, q, h, hc, hq, h0⟩ := fp_int FP.Core.b64 a.toInt (fp_i32 a) (by decide) (by decide) (by decide) (by decide) (by decide)
  obtain ⟨k1, k2, s', c', q', k3, k4⟩ := fp_de64 s c q hc hq
  refine ⟨s', c', q', ?_, fun ha => k4 (h0 (fun z => ha (Int32.toInt_inj.mp z)))⟩
  show FP.Core.decode FP.Core.b64 (UInt64.ofNat (FP.Core.encode FP.Core.b64 (FP.Core.round FP.Core.b64 (FP.Core.ofInt a.toInt)))).toNat = _
  rw [h, UInt64.toNat_ofNat_of_lt' (by simpa using k1), k3]
theorem fp_fdiv {a b : Int32} (hb : b ≠ 0) : vf_n32 (FP.fdiv (FP.i2f a) (FP.i2f b)) := by
  obtain ⟨s, c, q, h, -⟩ := fp_dec32 a
  obtain ⟨s', c', q', h', hc⟩ := fp_dec32 b
  show vf_n32 (UInt32.ofNat (FP.Core.encode FP.Core.b32 (FP.Core.quotient FP.Core.b32 (FP.Core.decode FP.Core.b32 (FP.i2f a).toNat) (FP.Core.decode FP.Core.b32 (FP.i2f b).toNat))))
  rw [h, h']
  unfold FP.Core.quotient
  simp only [if_neg (hc hb)]
  rcases fp_rr FP.Core.b32 (s != s') c c' (q - q') (by decide) (by decide) (by decide) with z | ⟨c9, q8, z, z1, z2⟩
  · rw [z]; exact fp_vn32 _ (fp_inf32 _).1 (fp_inf32 _).2
  · rw [z]; obtain ⟨k1, k2, -⟩ := fp_de32 (s != s') c9 q8 z1 z2; exact fp_vn32 _ k1 k2
theorem fp_ddiv {a b : Int32} (hb : b ≠ 0) : vf_n64 (FP.ddiv (FP.i2d a) (FP.i2d b)) := by
  obtain ⟨s, c, q, h, -⟩ := fp_dec64 a
  obtain ⟨s', c', q', h', hc⟩ := fp_dec64 b
  show vf_n64 (UInt64.ofNat (FP.Core.encode FP.Core.b64 (FP.Core.quotient FP.Core.b64 (FP.Core.decode FP.Core.b64 (FP.i2d a).toNat) (FP.Core.decode FP.Core.b64 (FP.i2d b).toNat))))
  rw [h, h']
  unfold FP.Core.quotient
  simp only [if_neg (hc hb)]
  rcases fp_rr FP.Core.b64 (s != s') c c' (q - q') (by decide) (by decide) (by decide) with z | ⟨c9, q8, z, z1, z2⟩
  · rw [z]; exact fp_vn64 _ (fp_inf64 _).1 (fp_inf64 _).2
  · rw [z]; obtain ⟨k1, k2, -⟩ := fp_de64 (s != s') c9 q8 z1 z2; exact fp_vn64 _ k1 k2
