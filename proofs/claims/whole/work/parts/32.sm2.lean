/-! the relation between the class's numbers B and the reference's M: n offices, m complaints, the day d, the lead of each -/
def sm_H (B M : BT) (n m d : Nat) : Prop := (B 0 3 = nI n ∧ B 0 4 = nI m ∧ B 0 5 = nI d) ∧ (M 0 2 = nI n ∧ M 0 3 = nI m ∧ M 0 1 = nI d) ∧ n ≤ 6 ∧ m ≤ 20 ∧ d ≤ 9999 ∧ (m = 0 ∨ 0 < n) ∧ (0 < m ∨ B 50 5 = 0)
def sm_W (B M : BT) : Prop := ∀ k, k < 5 → B 3 k = M 5 k
def sm_O (B M : BT) (n : Nat) : Prop := ∀ i, i < n → B (4 + i) 0 = M 1 i ∧ B (4 + i) 1 = M 2 i ∧ B (4 + i) 2 = M 3 i ∧ B (4 + i) 3 = M 4 i ∧ ∃ q, q ≤ 60 ∧ M 1 i = nI q
def sm_P (M : BT) (n : Nat) : Prop := ∀ i, n ≤ i → i < 6 → M 3 i = 0 ∧ M 4 i = 0
def sm_N (M : BT) (m : Nat) : Prop := ∀ i, m ≤ i → i < 20 → M 13 i = 0 ∧ M 14 i = 0 ∧ M 17 i = 0 ∧ M 18 i = 0 ∧ M 19 i = 0 ∧ M 21 i = 0 ∧ M 23 i = 0 ∧ M 25 i = 0
def sm_T (B M : BT) (n m : Nat) : Prop := ∀ i, i < m → ((∃ o, o < n ∧ B (10 + i) 3 = nI o) ∧ B (10 + i) 3 = M 6 i ∧ B (10 + i) 4 = M 7 i ∧ B (10 + i) 5 = M 8 i ∧ B (10 + i) 6 = M 9 i ∧ B (10 + i) 7 = M 10 i) ∧ (B (10 + i) 8 = M 13 i ∧ (M 13 i = 0 ∨ M 13 i = 1) ∧ B (10 + i) 9 = M 14 i ∧ (M 14 i = 0 ∨ M 14 i = 1) ∧ B (10 + i) 10 = M 15 i)
def sm_L (B M : BT) (m : Nat) (L : Nat → Nat) : Prop := ∀ i, i < m → L i < m ∧ L (L i) = L i ∧ B (10 + i) 12 = nI (L i) ∧ M 12 i = (if L i = i then -1 else nI (L i)) ∧ M 6 i = M 6 (L i) ∧ M 7 i = M 7 (L i)
def sm_J (M : BT) (m : Nat) (L : Nat → Nat) : Prop := ∀ i, i < m → L i ≠ i → M 11 (L i) ≠ 110 ∧ M 11 (L i) ≠ 102 ∧ (M 11 (L i) = 114 ∨ M 11 (L i) = 97 ∨ M 11 (L i) = 115 ∨ M 20 (L i) ≠ -1)
def sm_K (B M : BT) (m : Nat) (L : Nat → Nat) : Prop := ∀ i, i < m → B (10 + i) 11 = M 11 (L i) ∧ (¬ f_X7_isClosed (M 11 (L i)) = 0 → B (10 + i) 13 = M 24 (L i) ∧ M 24 (L i) ≠ -1) ∧ (f_X7_isClosed (M 11 (L i)) = 0 → B (10 + i) 13 = -1) ∧ (M 11 (L i) = 97 → B (10 + i) 14 ≠ -1) ∧ (M 11 (L i) ≠ 97 → B (10 + i) 14 = -1) ∧ M 25 i = B (10 + i) 15 + (if B (10 + i) 14 = -1 then 0 else B 0 5 - B (10 + i) 14)
def sm_I (B M : BT) (m : Nat) (L : Nat → Nat) : Prop := ∀ i, i < m → (B (30 + i) 1 = M 17 i ∧ B (30 + i) 2 = M 18 i ∧ B (30 + i) 3 = M 19 i) ∧ (∃ r, r ≤ 3 ∧ M 18 i = nI r) ∧ (L i = i → M 11 i = 97 → B (30 + i) 0 = M 16 i ∧ ∃ q, q ≤ 10089 ∧ M 16 i = nI q ∧ (M 17 i = 0 → q ≤ 10059)) ∧ (L i = i → M 11 i = 100 → B (50 + i) 2 = M 16 i) ∧ ((L i ≠ i ∨ M 11 i = 110 ∨ M 11 i = 102 ∨ M 11 i = 114) → M 17 i = 0 ∧ M 18 i = 0 ∧ M 19 i = 0)
def sm_F (B M : BT) (m : Nat) (L : Nat → Nat) : Prop := ∀ i, i < m → (B (50 + i) 0 = M 20 i ∧ B (50 + i) 1 = M 21 i ∧ B (50 + i) 3 = M 23 i ∧ (M 23 i = 0 ∨ M 23 i = 1)) ∧ (∃ r, r ≤ 4 ∧ M 21 i = nI r) ∧ (B (50 + i) 5 = 0 ∨ B (50 + i) 5 = 1) ∧ ((B (50 + i) 4 = 0 ∧ M 22 i = -1) ∨ (B (50 + i) 4 = 1 ∧ M 22 i = B (50 + i) 5)) ∧ (M 20 i = -1 → M 21 i = 0 ∧ M 22 i = -1 ∧ M 23 i = 0) ∧ ((L i ≠ i ∨ M 11 i = 110 ∨ M 11 i = 102 ∨ M 11 i = 114 ∨ M 11 i = 97 ∨ M 11 i = 115) → M 20 i = -1) ∧ (L i = i → M 11 i = 100 → M 20 i ≠ -1)
def sm_R (B M : BT) (n m d : Nat) (L : Nat → Nat) : Prop := sm_H B M n m d ∧ sm_W B M ∧ sm_O B M n ∧ sm_P M n ∧ sm_N M m ∧ sm_T B M n m ∧ sm_L B M m L ∧ sm_J M m L ∧ sm_K B M m L ∧ sm_I B M m L ∧ sm_F B M m L
theorem sm_R.thr {B M : BT} {n m d : Nat} {L : Nat → Nat} {v : Int32} (h : sm_R B M n m d L) : sm_R B (up2 M 0 0 v) n m d L := by
  obtain ⟨⟨h1, h2, h3⟩, hW, hO, hP, hN, hT, hL, hJ, hK, hI, hF⟩ := h
  refine ⟨⟨h1, ?_, h3⟩, ?_, ?_, ?_, ?_, ?_, ?_, ?_, ?_, ?_, ?_⟩
  · simp (disch := omega) only [up2_kk, up2_cc]; exact h2
  · intro j hj; have h := hW j hj; simp (disch := omega) only [up2_cc]; exact h
  · intro j hj; have h := hO j hj; simp (disch := omega) only [up2_cc]; exact h
  · intro j hj hj2; have h := hP j hj hj2; simp (disch := omega) only [up2_cc]; exact h
  · intro j hj hj2; have h := hN j hj hj2; simp (disch := omega) only [up2_cc]; exact h
  · intro j hj; have h := hT j hj; simp (disch := omega) only [up2_cc]; exact h
  · intro j hj; have h := hL j hj; simp (disch := omega) only [up2_cc]; exact h
  · intro j hj; have h := hJ j hj; simp (disch := omega) only [up2_cc]; exact h
  · intro j hj; have h := hK j hj; simp (disch := omega) only [up2_cc]; exact h
  · intro j hj; have h := hI j hj; simp (disch := omega) only [up2_cc]; exact h
  · intro j hj; have h := hF j hj; simp (disch := omega) only [up2_cc]; exact h
theorem up2_up2 (B : BT) (c k : Nat) (v w : Int32) : up2 (up2 B c k v) c k w = up2 B c k w := by
  funext c' k'
  unfold up2
  by_cases h1 : c' = c <;> by_cases h2 : k' = k <;> simp [h1, h2]
theorem sm_icp {B M : BT} {n m d i : Nat} (h : sm_H B M n m d) (hi : i < m) : f_X7_isComplaint (nI i) M = 1 := by
  obtain ⟨-, ⟨-, h2, -⟩, -, h4, -⟩ := h
  unfold f_X7_isComplaint f_X7_in
  obtain ⟨q, rfl⟩ : ∃ q, m = q + 1 := ⟨m - 1, by omega⟩
  rw [h2, nI_pred, if_neg (nI_pos (by omega)), if_neg (fun z => by rw [nI_ltI (by omega) (by omega)] at z; omega)]
theorem sm_nc {B M : BT} {n m d i : Nat} (h : sm_H B M n m d) (hi : i < m) : f_X7_noComplaint (nI i) M = (0, up2 M 0 0 0) := by
  unfold f_X7_noComplaint
  rw [sm_icp h hi, if_neg (by decide)]
theorem sm_kn {B M : BT} {n m d : Nat} {a : Int32} (h : sm_H B M n m d) (hk : e_X6_known a B = none) : ∃ i, i < m ∧ i < 20 ∧ a = nI i ∧ f_X6_known a B = i := by
  obtain ⟨⟨-, h2, -⟩, -, -, h4, -⟩ := h
  unfold e_X6_known at hk
  by_cases h1 : a < 0
  · rw [if_pos h1] at hk; exact absurd hk (Option.some_ne_none _)
  · rw [if_neg h1] at hk
    by_cases h3 : a < B 0 4
    · obtain ⟨j, hj, rfl⟩ := nI_of h1
      have h5 := h3
      rw [h2, nI_ltI hj (by omega)] at h5
      refine ⟨j, h5, by omega, rfl, ?_⟩
      unfold f_X6_known
      rw [if_neg h1, if_pos h3, nI_clamp hj]
    · rw [if_neg h3] at hk; exact absurd hk (Option.some_ne_none _)
theorem sm_kn2 {B M : BT} {n m d i : Nat} (h : sm_H B M n m d) (hi : i < m) : e_X6_known (nI i) B = none ∧ f_X6_known (nI i) B = i := by
  obtain ⟨⟨-, h2, -⟩, -, -, h4, -⟩ := h
  have h1 : ¬ nI i < 0 := nI_pos (by omega)
  have h3 : nI i < B 0 4 := by rw [h2, nI_ltI (by omega) (by omega)]; exact hi
  constructor
  · unfold e_X6_known; rw [if_neg h1, if_pos h3]
  · unfold f_X6_known; rw [if_neg h1, if_pos h3, nI_clamp (by omega)]
theorem sm_nk {B M : BT} {n m d : Nat} {a : Int32} (h : sm_H B M n m d) (hk : ¬ e_X6_known a B = none) : e_X6_known a B = some "java/lang/IndexOutOfBoundsException" ∧ f_X7_isComplaint a M = 0 ∧ f_X7_noComplaint a M = (1, up2 M 0 0 1) := by
  obtain ⟨⟨-, h2, -⟩, ⟨-, h5, -⟩, -, h4, -⟩ := h
  have key : f_X7_isComplaint a M = 0 → f_X7_isComplaint a M = 0 ∧ f_X7_noComplaint a M = (1, up2 M 0 0 1) := fun e => ⟨e, by unfold f_X7_noComplaint; rw [if_pos e]⟩
  unfold e_X6_known at hk ⊢
  by_cases h1 : a < 0
  · rw [if_pos h1]
    exact ⟨rfl, key (by unfold f_X7_isComplaint f_X7_in; rw [if_pos h1])⟩
  · rw [if_neg h1] at hk ⊢
    by_cases h3 : a < B 0 4
    · rw [if_pos h3] at hk; exact absurd rfl hk
    · rw [if_neg h3]
      refine ⟨rfl, key ?_⟩
      obtain ⟨j, hj, rfl⟩ := nI_of h1
      rw [h2, nI_ltI hj (by omega)] at h3
      unfold f_X7_isComplaint f_X7_in
      rw [if_neg h1, h5]
      have h6 : nI m - 1 < nI j := by
        rcases Nat.eq_zero_or_pos m with z | z
        · subst z
          rw [fa_lt, nI_toInt hj, show (nI 0 - 1).toInt = -1 by decide]
          omega
        · obtain ⟨q, rfl⟩ : ∃ q, m = q + 1 := ⟨m - 1, by omega⟩
          rw [nI_pred, nI_ltI (by omega) hj]
          omega
      rw [if_pos h6]
section SR
variable {B M : BT} {n m d : Nat} {L : Nat → Nat} {i : Nat}
theorem sm_R.m20 (R : sm_R B M n m d L) : m ≤ 20 := R.1.2.2.2.1
theorem sm_R.n6 (R : sm_R B M n m d L) : n ≤ 6 := R.1.2.2.1
theorem sm_R.l12 (R : sm_R B M n m d L) (hi : i < m) : L i < m ∧ L (L i) = L i ∧ B (10 + i) 12 = nI (L i) ∧ M 12 i = (if L i = i then -1 else nI (L i)) := ⟨(R.2.2.2.2.2.2.1 i hi).1, (R.2.2.2.2.2.2.1 i hi).2.1, (R.2.2.2.2.2.2.1 i hi).2.2.1, (R.2.2.2.2.2.2.1 i hi).2.2.2.1⟩
theorem sm_jnd7 (R : sm_R B M n m d L) (hi : i < m) : f_X7_isJoined (nI i) M = if L i = i then 0 else 1 := by
  have h20 := R.m20
  obtain ⟨h1, h2, h3, h4⟩ := R.l12 hi
  unfold f_X7_isJoined
  rw [nI_clamp (by omega), h4]
  by_cases e : L i = i
  · rw [if_pos e, if_pos rfl, if_pos e]
  · rw [if_neg e, if_neg (sm_ne1 (by omega)), if_neg e]
theorem sm_jnd1 (R : sm_R B M n m d L) (hi : i < m) : f_X1_isJoined i B = if L i = i then 0 else 1 := by
  have h20 := R.m20
  obtain ⟨h1, h2, h3, h4⟩ := R.l12 hi
  unfold f_X1_isJoined
  rw [h3]
  by_cases e : L i = i
  · rw [if_pos e, if_pos (by rw [e])]
  · rw [if_neg e, if_neg (fun z => e ((nI_eq (by omega) (by omega)).mp z))]
theorem sm_ldg (R : sm_R B M n m d L) (hi : i < m) : f_X7_leading (nI i) M = nI (L i) := by
  have h20 := R.m20
  unfold f_X7_leading
  rw [sm_jnd7 R hi]
  obtain ⟨h1, h2, h3, h4⟩ := R.l12 hi
  by_cases e : L i = i
  · rw [if_pos e, if_pos rfl, e]
  · rw [if_neg e, if_neg (by decide), nI_clamp (by omega), h4, if_neg e]
theorem sm_std (R : sm_R B M n m d L) (hi : i < m) : f_X7_standing (nI i) M = M 11 (L i) := by
  have h20 := R.m20
  have h1 := (R.l12 hi).1
  unfold f_X7_standing
  rw [sm_ldg R hi, nI_clamp (by omega)]
theorem sm_ldo (R : sm_R B M n m d L) (hi : i < m) : f_X0_leadOf i B = L i := by
  have h20 := R.m20
  obtain ⟨h1, h2, h3, h4⟩ := R.l12 hi
  unfold f_X0_leadOf
  rw [h3, R.1.1.2.1, if_neg (nI_pos (by omega)), if_neg (fun z => by rw [nI_leI (by omega) (by omega)] at z; omega), nI_clamp (by omega)]
theorem sm_off (R : sm_R B M n m d L) {o : Nat} (h : B (10 + i) 3 = nI o) (ho : o < n) : f_X0_officeOf i B = o := by
  have h6 := R.n6
  unfold f_X0_officeOf
  rw [h, R.1.1.1, if_neg (nI_pos (by omega)), if_neg (fun z => by rw [nI_leI (by omega) (by omega)] at z; omega), nI_clamp (by omega)]
theorem sm_s11 (R : sm_R B M n m d L) (hi : i < m) : B (10 + i) 11 = M 11 (L i) := (R.2.2.2.2.2.2.2.2.1 i hi).1
theorem sm_past (R : sm_R B M n m d L) (hi : i < m) (h : e_X6_requireAtIntake i B = none) : f_X7_isPast (nI i) M = (0, up2 M 0 0 0) ∧ (M 11 (L i) = 110 ∨ M 11 (L i) = 102) := by
  have e := sm_s11 R hi
  have hs := sm_std (R.thr (v := 0)) hi
  unfold e_X6_requireAtIntake at h
  unfold f_X7_isPast
  simp only [sm_nc R.1 hi, hs, up2_up2]
  rw [up2_cc (by decide)]
  rw [e] at h
  by_cases h1 : M 11 (L i) = 110
  · rw [if_pos h1]; exact ⟨rfl, Or.inl h1⟩
  · rw [if_neg h1] at h ⊢
    by_cases h2 : M 11 (L i) = 102
    · rw [if_pos h2]; exact ⟨rfl, Or.inr h2⟩
    · rw [if_neg h2] at h; exact absurd h (Option.some_ne_none _)
theorem sm_pastN (R : sm_R B M n m d L) (hi : i < m) (h : ¬ e_X6_requireAtIntake i B = none) : e_X6_requireAtIntake i B = some "java/lang/UnsupportedOperationException" ∧ f_X7_isPast (nI i) M = (1, up2 M 0 0 2) := by
  have e := sm_s11 R hi
  have hs := sm_std (R.thr (v := 0)) hi
  unfold e_X6_requireAtIntake at h ⊢
  unfold f_X7_isPast
  simp only [sm_nc R.1 hi, hs, up2_up2]
  rw [up2_cc (by decide)]
  rw [e] at h ⊢
  by_cases h1 : M 11 (L i) = 110
  · rw [if_pos h1] at h; exact absurd rfl h
  · rw [if_neg h1] at h
    rw [if_neg h1, if_neg h1]
    by_cases h2 : M 11 (L i) = 102
    · rw [if_pos h2] at h; exact absurd rfl h
    · rw [if_neg h2, if_neg h2]; exact ⟨rfl, rfl⟩
theorem sm_own (R : sm_R B M n m d L) (hi : i < m) {a : Int32} (h : e_X6_requireOwn i a B = none) : f_X7_isNot (nI i) a M = (0, up2 M 0 0 0) ∧ L i = i ∧ M 11 i = a := by
  have h20 := R.m20
  have e := sm_s11 R hi
  have hj := sm_jnd7 (R.thr (v := 0)) hi
  unfold e_X6_requireOwn at h
  rw [sm_jnd1 R hi, e] at h
  unfold f_X7_isNot
  simp only [sm_nc R.1 hi, hj, up2_up2]
  rw [nI_clamp (by omega), up2_cc (by decide)]
  by_cases h1 : L i = i
  · rw [h1] at h
    simp only [if_true] at h
    by_cases h2 : M 11 i = a
    · simp only [h1, h2, if_true]; exact ⟨trivial, trivial, trivial⟩
    · rw [if_neg h2] at h; exact absurd h (Option.some_ne_none _)
  · rw [if_neg h1, if_neg (by decide)] at h; exact absurd h (Option.some_ne_none _)
theorem sm_ownN (R : sm_R B M n m d L) (hi : i < m) {a : Int32} (h : ¬ e_X6_requireOwn i a B = none) : e_X6_requireOwn i a B = some "java/lang/UnsupportedOperationException" ∧ f_X7_isNot (nI i) a M = (1, up2 M 0 0 2) := by
  have h20 := R.m20
  have e := sm_s11 R hi
  have hj := sm_jnd7 (R.thr (v := 0)) hi
  unfold e_X6_requireOwn at h ⊢
  rw [sm_jnd1 R hi, e] at h ⊢
  unfold f_X7_isNot
  simp only [sm_nc R.1 hi, hj, up2_up2]
  rw [nI_clamp (by omega), up2_cc (by decide)]
  by_cases h1 : L i = i
  · rw [h1] at h ⊢
    simp only [if_true] at h ⊢
    by_cases h2 : M 11 i = a
    · rw [if_pos h2] at h; exact absurd rfl h
    · rw [if_neg h2, if_neg h2]; exact ⟨rfl, rfl⟩
  · simp only [if_neg h1]
    exact ⟨rfl, rfl⟩
theorem sm_jt {i : Nat} (hi : i < 20) : ∀ k, k ≤ 20 → (∀ j, j < k → L j < 2 ^ 31 ∧ B (10 + j) 12 = nI (L j) ∧ M 12 j = (if L j = j then -1 else nI (L j))) → L_joinedTo (nI i) M k = L_followersOf i B k := by
  intro k
  induction k with
  | zero => intro _ _; rfl
  | succ k ih =>
    intro hk h
    show b_joinedTo (nI i) M k (L_joinedTo (nI i) M k) = b_followersOf i B k (L_followersOf i B k)
    rw [ih (by omega) (fun j hj => h j (by omega))]
    obtain ⟨h1, h2, h3⟩ := h k (by omega)
    unfold b_joinedTo b_followersOf
    rw [h2, h3]
    by_cases e : L k = k
    · rw [if_pos e, if_neg (fun z => sm_ne1 (by omega) z.symm), Int32.add_zero]
      by_cases e2 : nI k = nI i
      · rw [if_pos e2]
      · rw [if_neg e2, e, if_neg e2]
    · rw [if_neg e]
      by_cases e2 : nI (L k) = nI i
      · rw [if_pos e2, if_neg (fun z => e ((nI_eq h1 (by omega)).mp (e2.trans z.symm))), if_pos e2]
      · rw [if_neg e2, if_neg e2, Int32.add_zero, ite_self]
theorem sm_jtF (R : sm_R B M n m d L) (hi : i < 20) : f_X7_joinedTo (nI i) M = f_X0_followersOf i B := by
  have h20 := R.m20
  unfold f_X7_joinedTo f_X0_followersOf
  rw [R.1.1.2.1, R.1.2.1.2.1, nI_clamp (by omega)]
  exact sm_jt hi m h20 (fun j hj => ⟨by have := (R.l12 hj).1; omega, (R.l12 hj).2.2.1, (R.l12 hj).2.2.2⟩)
theorem sm_cntF (R : sm_R B M n m d L) (hi : i < m) (hl : L i = i) : sm_cnt i B m = 1 + f_X0_followersOf i B := by
  have h20 := R.m20
  have h1 := (R.l12 hi).2.2.1
  unfold f_X0_followersOf
  rw [R.1.1.2.1, nI_clamp (by omega), sm_cnt_gt (by omega) (by rw [h1, hl]) m hi h20, Int32.add_comm]
end SR
