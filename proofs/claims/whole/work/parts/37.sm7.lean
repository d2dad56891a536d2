/-! how the relation goes on: a lead's state moves with those joined to it; own numbers change; some are freed; one is joined -/
def sm_I1 (B M : BT) (L : Nat → Nat) (i : Nat) : Prop := (B (30 + i) 1 = M 17 i ∧ B (30 + i) 2 = M 18 i ∧ B (30 + i) 3 = M 19 i) ∧ (∃ r, r ≤ 3 ∧ M 18 i = nI r) ∧ (L i = i → M 11 i = 97 → B (30 + i) 0 = M 16 i ∧ ∃ q, q ≤ 10089 ∧ M 16 i = nI q ∧ (M 17 i = 0 → q ≤ 10059)) ∧ (L i = i → M 11 i = 100 → B (50 + i) 2 = M 16 i) ∧ ((L i ≠ i ∨ M 11 i = 110 ∨ M 11 i = 102 ∨ M 11 i = 114) → M 17 i = 0 ∧ M 18 i = 0 ∧ M 19 i = 0)
def sm_F1 (B M : BT) (L : Nat → Nat) (i : Nat) : Prop := (B (50 + i) 0 = M 20 i ∧ B (50 + i) 1 = M 21 i ∧ B (50 + i) 3 = M 23 i ∧ (M 23 i = 0 ∨ M 23 i = 1)) ∧ (∃ r, r ≤ 4 ∧ M 21 i = nI r) ∧ (B (50 + i) 5 = 0 ∨ B (50 + i) 5 = 1) ∧ ((B (50 + i) 4 = 0 ∧ M 22 i = -1) ∨ (B (50 + i) 4 = 1 ∧ M 22 i = B (50 + i) 5)) ∧ (M 20 i = -1 → M 21 i = 0 ∧ M 22 i = -1 ∧ M 23 i = 0) ∧ ((L i ≠ i ∨ M 11 i = 110 ∨ M 11 i = 102 ∨ M 11 i = 114 ∨ M 11 i = 97 ∨ M 11 i = 115) → M 20 i = -1) ∧ (L i = i → M 11 i = 100 → M 20 i ≠ -1)
theorem sm_mv_o {a d : Int32} {r : Nat → Int32} {k : Nat} (h1 : k ≠ 11) (h2 : k ≠ 13) (h3 : k ≠ 14) (h4 : k ≠ 15) : sm_mv a d r k = r k := by
  unfold sm_mv; rw [if_neg h1, if_neg h2, if_neg h3, if_neg h4]
theorem sm_mv_11 (a d : Int32) (r : Nat → Int32) : sm_mv a d r 11 = a := by unfold sm_mv; rw [if_pos rfl]
theorem sm_mv_13 (a d : Int32) (r : Nat → Int32) : sm_mv a d r 13 = (if f_X7_isClosed a = 0 then r 13 else d) := by unfold sm_mv; rw [if_neg (by decide), if_pos rfl]
theorem sm_mv_14 (a d : Int32) (r : Nat → Int32) : sm_mv a d r 14 = (if a = 97 then d else -1) := by unfold sm_mv; rw [if_neg (by decide), if_neg (by decide), if_pos rfl]
theorem sm_mv_15 (a d : Int32) (r : Nat → Int32) : sm_mv a d r 15 = (if r 14 = -1 then r 15 else r 15 + (d - r 14)) := by unfold sm_mv; rw [if_neg (by decide), if_neg (by decide), if_neg (by decide), if_pos rfl]
theorem upd_ne {f : Nat → Int32} {k j : Nat} {v : Int32} (h : j ≠ k) : upd f k v j = f j := by simp [upd, h]
theorem upd_at (f : Nat → Int32) (k : Nat) (v : Int32) : upd f k v k = v := by simp [upd]
section SU
variable {B B' M M' : BT} {n m d : Nat} {L : Nat → Nat} {i : Nat} {a : Int32}
theorem sm_R.d1 (R : sm_R B M n m d L) : B 0 5 ≠ -1 := by
  rw [R.1.1.2.2]; exact sm_ne1 (by have := R.1.2.2.2.2.1; omega)
theorem sm_rows_all (R : sm_R B M n m d L) {X : BT} (hi : i < m) (hX : ∀ j, j < m → X (10 + j) = B (10 + j)) (hX5 : X 0 5 = B 0 5) : ∀ j, j < m → sm_all i a X m (10 + j) = if L j = i then sm_mv a (B 0 5) (B (10 + j)) else B (10 + j) := by
  intro j hj
  have h20 := R.m20
  obtain ⟨l1, -, l3, -⟩ := R.l12 hj
  rw [sm_all_C hj, hX j hj, hX5, l3]
  by_cases e : L j = i
  · rw [if_pos (by rw [e]), if_pos e]
  · rw [if_neg (fun z => e ((nI_eq (by omega) (by omega)).mp z)), if_neg e]
theorem sm_K_mv (hK : sm_K B M m L) (hL : sm_L B M m L) (hi : i < m) (hcl : f_X7_isClosed (M 11 i) = 0) (hd : B 0 5 ≠ -1) (hB : ∀ j, j < m → B' (10 + j) = if L j = i then sm_mv a (B 0 5) (B (10 + j)) else B (10 + j)) (hB5 : B' 0 5 = B 0 5) (h11 : ∀ j, j < m → M' 11 j = if j = i then a else M 11 j) (h24 : ∀ j, j < m → j ≠ i → M' 24 j = M 24 j) (h24i : ¬ f_X7_isClosed a = 0 → M' 24 i = B 0 5) (h25 : ∀ j, j < m → M' 25 j = M 25 j) : sm_K B' M' m L := by
  intro j hj
  obtain ⟨k1, k2, k3, k4, k5, k6⟩ := hK j hj
  have hl := (hL j hj).1
  have hr := hB j hj
  by_cases e : L j = i
  · rw [if_pos e] at hr
    rw [e] at k1 k2 k3 k4 k5
    have m11 : M' 11 (L j) = a := by rw [e, h11 i hi, if_pos rfl]
    rw [hr, m11, hB5, h25 j hj, sm_mv_11, sm_mv_13, sm_mv_14, sm_mv_15]
    refine ⟨rfl, fun z => ?_, fun z => ?_, fun z => ?_, fun z => ?_, ?_⟩
    · rw [if_neg z, e, h24i z]; exact ⟨rfl, hd⟩
    · rw [if_pos z]; exact k3 hcl
    · rw [if_pos z]; exact hd
    · rw [if_neg z]
    · rw [k6]
      by_cases w : B (10 + j) 14 = -1
      · rw [if_pos w, if_pos w]
        by_cases z : a = 97
        · rw [if_pos z, if_neg hd, Int32.sub_self]
        · rw [if_neg z, if_pos rfl]
      · rw [if_neg w, if_neg w]
        by_cases z : a = 97
        · rw [if_pos z, if_neg hd, Int32.sub_self, Int32.add_zero]
        · rw [if_neg z, if_pos rfl, Int32.add_zero]
  · rw [if_neg e] at hr
    have m11 : M' 11 (L j) = M 11 (L j) := by rw [h11 _ hl, if_neg e]
    rw [hr, m11, hB5, h25 j hj, h24 (L j) hl e]
    exact ⟨k1, k2, k3, k4, k5, k6⟩
theorem sm_R_move (R : sm_R B M n m d L) (hi : i < m) (hLi : L i = i) (hcl : f_X7_isClosed (M 11 i) = 0)
    (hB : ∀ j, j < m → B' (10 + j) = if L j = i then sm_mv a (B 0 5) (B (10 + j)) else B (10 + j)) (hB0 : ∀ c k, c < 10 → B' c k = B c k)
    (hBq : ∀ j, j < m → j ≠ i → ∀ k, B' (30 + j) k = B (30 + j) k) (hBf : ∀ j, j < m → j ≠ i → ∀ k, B' (50 + j) k = B (50 + j) k)
    (hM : ∀ c k, c < 11 ∨ (11 < c ∧ c < 16) ∨ 24 < c → M' c k = M c k) (hMi : ∀ c j, j ≠ i → M' c j = M c j) (h11 : M' 11 i = a) (h24 : ¬ f_X7_isClosed a = 0 → M' 24 i = B 0 5)
    (hJ : (∀ j, j < m → L j = i → j = i) ∨ (a ≠ 110 ∧ a ≠ 102 ∧ (a = 114 ∨ a = 97 ∨ a = 115 ∨ M' 20 i ≠ -1)))
    (hI : sm_I1 B' M' L i) (hF : sm_F1 B' M' L i) : sm_R B' M' n m d L := by
  have hd1 := R.d1
  obtain ⟨⟨⟨a1, a2, a3⟩, ⟨b1, b2, b3⟩, b4, b5, b6, b7, b8⟩, hW, hO, hP, hN, hT, hL, hJ', hK, hI', hF'⟩ := R
  have hBo : ∀ j k, j < m → k ≠ 11 → k ≠ 13 → k ≠ 14 → k ≠ 15 → B' (10 + j) k = B (10 + j) k := by
    intro j k hj h1 h2 h3 h4
    rw [hB j hj]
    by_cases e : L j = i
    · rw [if_pos e, sm_mv_o h1 h2 h3 h4]
    · rw [if_neg e]
  refine ⟨⟨⟨?_, ?_, ?_⟩, ⟨?_, ?_, ?_⟩, b4, b5, b6, b7, Or.inl (by omega)⟩, ?_, ?_, ?_, ?_, ?_, ?_, ?_, ?_, ?_, ?_⟩
  · rw [hB0 0 3 (by decide)]; exact a1
  · rw [hB0 0 4 (by decide)]; exact a2
  · rw [hB0 0 5 (by decide)]; exact a3
  · rw [hM 0 2 (by omega)]; exact b1
  · rw [hM 0 3 (by omega)]; exact b2
  · rw [hM 0 1 (by omega)]; exact b3
  · intro k hk; rw [hB0 3 k (by decide), hM 5 k (by omega)]; exact hW k hk
  · intro o ho
    rw [hB0 (4 + o) 0 (by omega), hB0 (4 + o) 1 (by omega), hB0 (4 + o) 2 (by omega), hB0 (4 + o) 3 (by omega), hM 1 o (by omega), hM 2 o (by omega), hM 3 o (by omega), hM 4 o (by omega)]
    exact hO o ho
  · intro o h1 h2; rw [hM 3 o (by omega), hM 4 o (by omega)]; exact hP o h1 h2
  · intro j h1 h2
    have g := fun c => hMi c j (by omega)
    simp only [g]; exact hN j h1 h2
  · intro j hj
    have h := hT j hj
    simp (disch := omega) only [hBo, hM]; exact h
  · intro j hj
    have h := hL j hj
    simp (disch := omega) only [hBo, hM]; exact h
  · intro j hj hne
    by_cases e : L j = i
    · rcases hJ with q | q
      · exact absurd (by rw [e]; exact (q j hj e).symm) hne
      · rw [e, h11]; exact q
    · rw [hMi 11 (L j) e, hMi 20 (L j) e]; exact hJ' j hj hne
  · refine sm_K_mv hK hL hi hcl hd1 hB (hB0 0 5 (by decide)) (fun j hj => ?_) (fun j hj ne => hMi 24 j ne) h24 (fun j hj => hM 25 j (by omega))
    by_cases e : j = i
    · rw [if_pos e, e, h11]
    · rw [if_neg e, hMi 11 j e]
  · intro j hj
    by_cases e : j = i
    · rw [e]; exact hI
    · have g := fun c => hMi c j e
      simp only [hBq j hj e, hBf j hj e, g]; exact hI' j hj
  · intro j hj
    by_cases e : j = i
    · rw [e]; exact hF
    · have g := fun c => hMi c j e
      simp only [hBf j hj e, g]; exact hF' j hj
theorem sm_R_own (R : sm_R B M n m d L) (hi : i < m)
    (hB : ∀ c k, c ≠ 30 + i → c ≠ 50 + i → B' c k = B c k) (hM : ∀ c k, c < 16 ∨ 23 < c → M' c k = M c k) (hMi : ∀ c j, j ≠ i → M' c j = M c j) (hM20 : M' 20 i = M 20 i)
    (hI : sm_I1 B' M' L i) (hF : sm_F1 B' M' L i) : sm_R B' M' n m d L := by
  obtain ⟨⟨⟨a1, a2, a3⟩, ⟨b1, b2, b3⟩, b4, b5, b6, b7, b8⟩, hW, hO, hP, hN, hT, hL, hJ', hK, hI', hF'⟩ := R
  have hM2 : ∀ j, M' 20 j = M 20 j := by
    intro j
    by_cases e : j = i
    · rw [e, hM20]
    · exact hMi 20 j e
  refine ⟨⟨⟨?_, ?_, ?_⟩, ⟨?_, ?_, ?_⟩, b4, b5, b6, b7, Or.inl (by omega)⟩, ?_, ?_, ?_, ?_, ?_, ?_, ?_, ?_, ?_, ?_⟩
  · rw [hB 0 3 (by omega) (by omega)]; exact a1
  · rw [hB 0 4 (by omega) (by omega)]; exact a2
  · rw [hB 0 5 (by omega) (by omega)]; exact a3
  · rw [hM 0 2 (by omega)]; exact b1
  · rw [hM 0 3 (by omega)]; exact b2
  · rw [hM 0 1 (by omega)]; exact b3
  · intro k hk; have h := hW k hk; simp (disch := omega) only [hB, hM]; exact h
  · intro o ho; have h := hO o ho; simp (disch := omega) only [hB, hM]; exact h
  · intro o h1 h2; have h := hP o h1 h2; simp (disch := omega) only [hM]; exact h
  · intro j h1 h2
    have g := fun c => hMi c j (by omega)
    simp only [g]; exact hN j h1 h2
  · intro j hj; have h := hT j hj; simp (disch := omega) only [hB, hM]; exact h
  · intro j hj; have h := hL j hj; simp (disch := omega) only [hB, hM]; exact h
  · intro j hj; have h := hJ' j hj; simp (disch := omega) only [hM2, hM]; exact h
  · intro j hj; have h := hK j hj; simp (disch := omega) only [hB, hM]; exact h
  · intro j hj
    by_cases e : j = i
    · rw [e]; exact hI
    · have g := fun c => hMi c j e
      have h := hI' j hj
      simp (disch := omega) only [hB, g]; exact h
  · intro j hj
    by_cases e : j = i
    · rw [e]; exact hF
    · have g := fun c => hMi c j e
      have h := hF' j hj
      simp (disch := omega) only [hB, g]; exact h
theorem sm_R_free (R : sm_R B M n m d L) (P : Nat → Prop) [DecidablePred P] (hPj : ∀ j, j < m → P j → L j ≠ j ∧ f_X7_isClosed (M 11 (L j)) = 0)
    (hB : ∀ j, j < m → B' (10 + j) = if P j then sm_mv 114 (B 0 5) (upd (B (10 + j)) 12 (nI j)) else B (10 + j)) (hBx : ∀ c k, c < 10 ∨ 30 ≤ c → B' c k = B c k)
    (h12 : ∀ j, j < m → M' 12 j = if P j then -1 else M 12 j) (h11 : ∀ j, j < m → M' 11 j = if P j then 114 else M 11 j) (hM : ∀ c k, c ≠ 11 → c ≠ 12 → M' c k = M c k) :
    sm_R B' M' n m d (fun j => if P j then j else L j) := by
  obtain ⟨⟨⟨a1, a2, a3⟩, ⟨b1, b2, b3⟩, b4, b5, b6, b7, b8⟩, hW, hO, hP, hN, hT, hL, hJ', hK, hI', hF'⟩ := R
  have hnl : ∀ j, j < m → ¬ P (L j) := fun j hj z => (hPj (L j) (hL j hj).1 z).1 (hL j hj).2.1
  have hBo : ∀ j k, j < m → k ≠ 11 → k ≠ 12 → k ≠ 13 → k ≠ 14 → k ≠ 15 → B' (10 + j) k = B (10 + j) k := by
    intro j k hj h1 h5 h2 h3 h4
    rw [hB j hj]
    by_cases e : P j
    · rw [if_pos e, sm_mv_o h1 h2 h3 h4, upd_ne h5]
    · rw [if_neg e]
  refine ⟨⟨⟨?_, ?_, ?_⟩, ⟨?_, ?_, ?_⟩, b4, b5, b6, b7, ?_⟩, ?_, ?_, ?_, ?_, ?_, ?_, ?_, ?_, ?_, ?_⟩
  · rw [hBx 0 3 (by omega)]; exact a1
  · rw [hBx 0 4 (by omega)]; exact a2
  · rw [hBx 0 5 (by omega)]; exact a3
  · rw [hM 0 2 (by omega) (by omega)]; exact b1
  · rw [hM 0 3 (by omega) (by omega)]; exact b2
  · rw [hM 0 1 (by omega) (by omega)]; exact b3
  · rw [hBx 50 5 (by omega)]; exact b8
  · intro k hk; have h := hW k hk; simp (disch := omega) only [hBx, hM]; exact h
  · intro o ho; have h := hO o ho; simp (disch := omega) only [hBx, hM]; exact h
  · intro o h1 h2; have h := hP o h1 h2; simp (disch := omega) only [hM]; exact h
  · intro j h1 h2; have h := hN j h1 h2; simp (disch := omega) only [hM]; exact h
  · intro j hj; have h := hT j hj; simp (disch := omega) only [hBo, hM]; exact h
  · intro j hj
    obtain ⟨l1, l2, l3, l4, l5, l6⟩ := hL j hj
    by_cases e : P j
    · simp only [if_pos e]
      refine ⟨hj, trivial, ?_, ?_, trivial, trivial⟩
      · rw [hB j hj, if_pos e, sm_mv_o (by decide) (by decide) (by decide) (by decide), upd_at]
      · rw [h12 j hj, if_pos e, if_pos trivial]
    · simp only [if_neg e, if_neg (hnl j hj)]
      refine ⟨l1, l2, ?_, ?_, ?_, ?_⟩
      · rw [hB j hj, if_neg e]; exact l3
      · rw [h12 j hj, if_neg e]; exact l4
      · rw [hM 6 j (by omega) (by omega), hM 6 (L j) (by omega) (by omega)]; exact l5
      · rw [hM 7 j (by omega) (by omega), hM 7 (L j) (by omega) (by omega)]; exact l6
  · intro j hj hne
    by_cases e : P j
    · exact absurd (if_pos e) hne
    · simp only [if_neg e] at hne ⊢
      rw [h11 (L j) (hL j hj).1, if_neg (hnl j hj), hM 20 (L j) (by omega) (by omega)]
      exact hJ' j hj hne
  · intro j hj
    obtain ⟨k1, k2, k3, k4, k5, k6⟩ := hK j hj
    by_cases e : P j
    · simp only [if_pos e]
      rw [h11 j hj, if_pos e, hB j hj, if_pos e, hBx 0 5 (by omega), hM 25 j (by omega) (by omega), hM 24 j (by omega) (by omega), sm_mv_11, sm_mv_13, sm_mv_14, sm_mv_15]
      rw [upd_ne (show 13 ≠ 12 by decide), upd_ne (show 14 ≠ 12 by decide), upd_ne (show 15 ≠ 12 by decide)]
      refine ⟨rfl, fun z => absurd (show f_X7_isClosed 114 = 0 by decide) z, fun _ => ?_, fun z => absurd z (by decide), fun _ => ?_, ?_⟩
      · rw [if_pos (show f_X7_isClosed 114 = 0 by decide)]; exact k3 (hPj j hj e).2
      · rw [if_neg (by decide)]
      · rw [if_neg (show ¬ (114 : Int32) = 97 by decide), if_pos rfl, k6, Int32.add_zero]
        by_cases w : B (10 + j) 14 = -1
        · rw [if_pos w, if_pos w, Int32.add_zero]
        · rw [if_neg w, if_neg w]
    · simp only [if_neg e]
      rw [h11 (L j) (hL j hj).1, if_neg (hnl j hj), hB j hj, if_neg e, hBx 0 5 (by omega), hM 25 j (by omega) (by omega), hM 24 (L j) (by omega) (by omega)]
      exact ⟨k1, k2, k3, k4, k5, k6⟩
  · intro j hj
    obtain ⟨i1, i2, i3, i4, i5⟩ := hI' j hj
    by_cases e : P j
    · simp only [if_pos e]
      rw [h11 j hj, if_pos e]
      simp (disch := omega) only [hBx, hM]
      exact ⟨i1, i2, fun _ z => absurd z (by decide), fun _ z => absurd z (by decide), fun _ => i5 (Or.inl (hPj j hj e).1)⟩
    · simp only [if_neg e]
      rw [h11 j hj, if_neg e]
      simp (disch := omega) only [hBx, hM]
      exact ⟨i1, i2, i3, i4, i5⟩
  · intro j hj
    obtain ⟨f1, f2, f3, f4, f5, f6, f7⟩ := hF' j hj
    by_cases e : P j
    · simp only [if_pos e]
      rw [h11 j hj, if_pos e]
      simp (disch := omega) only [hBx, hM]
      exact ⟨f1, f2, f3, f4, f5, fun _ => f6 (Or.inl (hPj j hj e).1), fun _ z => absurd z (by decide)⟩
    · simp only [if_neg e]
      rw [h11 j hj, if_neg e]
      simp (disch := omega) only [hBx, hM]
      exact ⟨f1, f2, f3, f4, f5, f6, f7⟩
theorem sm_R_join (R : sm_R B M n m d L) {l : Nat} (hi : i < m) (hl : l < m) (hil : i ≠ l) (hLi : L i = i) (hLl : L l = l) (h11 : M 11 i = 114) (hno : ∀ j, j < m → L j = i → j = i) (h6 : M 6 i = M 6 l) (h7 : M 7 i = M 7 l) (hs : M 11 l = 114 ∨ M 11 l = 97 ∨ M 11 l = 115)
    (hBi : B' (10 + i) = sm_mv (M 11 l) (B 0 5) (upd (B (10 + i)) 12 (nI l))) (hBx : ∀ c k, c ≠ 10 + i → B' c k = B c k) (h12 : M' 12 i = nI l) (hM : ∀ c k, c ≠ 12 ∨ k ≠ i → M' c k = M c k) :
    sm_R B' M' n m d (fun j => if j = i then l else L j) := by
  have hd1 := R.d1
  have h20 := R.m20
  obtain ⟨⟨⟨a1, a2, a3⟩, ⟨b1, b2, b3⟩, b4, b5, b6, b7, b8⟩, hW, hO, hP, hN, hT, hL, hJ', hK, hI', hF'⟩ := R
  have hBo : ∀ j k, j < m → k ≠ 11 → k ≠ 12 → k ≠ 13 → k ≠ 14 → k ≠ 15 → B' (10 + j) k = B (10 + j) k := by
    intro j k hj h1 h5 h2 h3 h4
    by_cases e : j = i
    · rw [e, hBi, sm_mv_o h1 h2 h3 h4, upd_ne h5]
    · exact hBx _ _ (by omega)
  have hcs : f_X7_isClosed (M 11 l) = 0 := by rcases hs with z | z | z <;> rw [z] <;> decide
  refine ⟨⟨⟨?_, ?_, ?_⟩, ⟨?_, ?_, ?_⟩, b4, b5, b6, b7, Or.inl (by omega)⟩, ?_, ?_, ?_, ?_, ?_, ?_, ?_, ?_, ?_, ?_⟩
  · rw [hBx 0 3 (by omega)]; exact a1
  · rw [hBx 0 4 (by omega)]; exact a2
  · rw [hBx 0 5 (by omega)]; exact a3
  · rw [hM 0 2 (by omega)]; exact b1
  · rw [hM 0 3 (by omega)]; exact b2
  · rw [hM 0 1 (by omega)]; exact b3
  · intro k hk; have h := hW k hk; simp (disch := omega) only [hBx, hM]; exact h
  · intro o ho; have h := hO o ho; simp (disch := omega) only [hBx, hM]; exact h
  · intro o h1 h2; have h := hP o h1 h2; simp (disch := omega) only [hM]; exact h
  · intro j h1 h2; have h := hN j h1 h2; simp (disch := omega) only [hM]; exact h
  · intro j hj; have h := hT j hj; simp (disch := omega) only [hBo, hM]; exact h
  · intro j hj
    obtain ⟨l1, l2, l3, l4, l5, l6⟩ := hL j hj
    by_cases e : j = i
    · subst e
      simp only [if_true, if_neg (Ne.symm hil)]
      refine ⟨hl, hLl, ?_, ?_, ?_, ?_⟩
      · rw [hBi, sm_mv_o (by decide) (by decide) (by decide) (by decide), upd_at]
      · exact h12
      · rw [hM 6 j (by omega), hM 6 l (by omega)]; exact h6
      · rw [hM 7 j (by omega), hM 7 l (by omega)]; exact h7
    · have e2 : ¬ L j = i := fun z => e (hno j hj z)
      simp only [if_neg e, if_neg e2]
      refine ⟨l1, l2, ?_, ?_, ?_, ?_⟩
      · rw [hBx _ _ (by omega)]; exact l3
      · rw [hM 12 j (Or.inr e)]; exact l4
      · rw [hM 6 j (by omega), hM 6 (L j) (by omega)]; exact l5
      · rw [hM 7 j (by omega), hM 7 (L j) (by omega)]; exact l6
  · intro j hj hne
    by_cases e : j = i
    · subst e
      simp only [if_true]
      rw [hM 11 l (by omega), hM 20 l (by omega)]
      refine ⟨?_, ?_, ?_⟩
      · rcases hs with z | z | z <;> rw [z] <;> decide
      · rcases hs with z | z | z <;> rw [z] <;> decide
      · rcases hs with z | z | z
        · exact Or.inl z
        · exact Or.inr (Or.inl z)
        · exact Or.inr (Or.inr (Or.inl z))
    · simp only [if_neg e] at hne ⊢
      rw [hM 11 (L j) (by omega), hM 20 (L j) (by omega)]
      exact hJ' j hj hne
  · intro j hj
    obtain ⟨k1, k2, k3, k4, k5, k6⟩ := hK j hj
    by_cases e : j = i
    · subst e
      rw [hLi, h11] at k1 k2 k3 k4 k5
      have q14 := k5 (by decide)
      have q13 := k3 (by decide)
      simp only [if_true]
      rw [hM 11 l (by omega), hBi, hBx 0 5 (by omega), hM 25 j (by omega), sm_mv_11, sm_mv_13, sm_mv_14, sm_mv_15]
      rw [upd_ne (show 13 ≠ 12 by decide), upd_ne (show 14 ≠ 12 by decide), upd_ne (show 15 ≠ 12 by decide), k6, if_pos q14, if_pos q14, if_pos hcs]
      refine ⟨rfl, fun z => absurd hcs z, fun _ => q13, fun z => ?_, fun z => ?_, ?_⟩
      · rw [if_pos z]; exact hd1
      · rw [if_neg z]
      · by_cases z : M 11 l = 97
        · rw [if_pos z, if_neg hd1, Int32.sub_self]
        · rw [if_neg z, if_pos rfl]
    · simp only [if_neg e]
      rw [hM 11 (L j) (by omega), hM 24 (L j) (by omega), hM 25 j (by omega), hBx 0 5 (by omega)]
      simp (disch := omega) only [hBx]
      exact ⟨k1, k2, k3, k4, k5, k6⟩
  · intro j hj
    obtain ⟨i1, i2, i3, i4, i5⟩ := hI' j hj
    by_cases e : j = i
    · subst e
      simp only [if_true]
      simp (disch := omega) only [hBx, hM]
      exact ⟨i1, i2, fun z => absurd z.symm hil, fun z => absurd z.symm hil, fun _ => i5 (Or.inr (Or.inr (Or.inr h11)))⟩
    · simp only [if_neg e]
      simp (disch := omega) only [hBx, hM]
      exact ⟨i1, i2, i3, i4, i5⟩
  · intro j hj
    obtain ⟨f1, f2, f3, f4, f5, f6, f7⟩ := hF' j hj
    by_cases e : j = i
    · subst e
      simp only [if_true]
      simp (disch := omega) only [hBx, hM]
      exact ⟨f1, f2, f3, f4, f5, fun _ => f6 (Or.inr (Or.inr (Or.inr (Or.inl h11)))), fun z => absurd z.symm hil⟩
    · simp only [if_neg e]
      simp (disch := omega) only [hBx, hM]
      exact ⟨f1, f2, f3, f4, f5, f6, f7⟩
end SU
