/-! what changes: the relation behind each change -/
section SX
variable {B M : BT} {n m d : Nat} {L : Nat → Nat} {i : Nat}
theorem sm_Rask (R : sm_R B M n m d L) (hi : i < m) (hLi : L i = i) (h11 : M 11 i = 114) {q : Nat} (hq : q ≤ 10059) : sm_R (sm_all i 97 (f_X4_begin i (nI q) B) m) (up2 (up2 M 11 i 97) 16 i (nI q)) n m d L := by
  have h20 := R.m20
  obtain ⟨i1, i2, -, -, i5⟩ := R.2.2.2.2.2.2.2.2.2.1 i hi
  obtain ⟨f1, f2, f3, f4, f5, f6, f7⟩ := R.2.2.2.2.2.2.2.2.2.2 i hi
  obtain ⟨z17, z18, z19⟩ := i5 (Or.inr (Or.inr (Or.inr h11)))
  have e11 : up2 (up2 M 11 i 97) 16 i (nI q) 11 i = 97 := by simp (disch := omega) only [up2_cc, up2_same]
  refine sm_R_move (a := 97) R hi hLi (by rw [h11]; decide) (sm_rows_all R hi (fun j hj => ?_) ?_) (fun c k hc => ?_) (fun j hj ne k => ?_) (fun j hj ne k => ?_) (fun c k hc => ?_) (fun c j ne => ?_) e11 (fun z => absurd (show f_X7_isClosed 97 = 0 by decide) z) (Or.inr ⟨by decide, by decide, Or.inr (Or.inl rfl)⟩) ⟨⟨?_, ?_, ?_⟩, ⟨0, by omega, ?_⟩, fun _ _ => ⟨?_, q, by omega, ?_, fun _ => hq⟩, fun _ z => ?_, fun _ => ⟨?_, ?_, ?_⟩⟩ ?_
  · funext k; simp (disch := omega) only [f_X4_begin, up2_cc]
  · simp (disch := omega) only [f_X4_begin, up2_cc]
  · simp (disch := omega) only [sm_all_o, f_X4_begin, up2_cc]
  · simp (disch := omega) only [sm_all_o, f_X4_begin, up2_cc]
  · simp (disch := omega) only [sm_all_o, f_X4_begin, up2_cc]
  · simp (disch := omega) only [up2_cc]
  · simp (disch := omega) only [up2_kk]
  · simp (disch := omega) only [sm_all_o, f_X4_begin, up2_cc, up2_kk, up2_same]; exact z17.symm
  · simp (disch := omega) only [sm_all_o, f_X4_begin, up2_cc, up2_kk, up2_same]; exact z18.symm
  · simp (disch := omega) only [sm_all_o, f_X4_begin, up2_cc, up2_kk, up2_same]; exact z19.symm
  · simp (disch := omega) only [up2_cc]; exact z18
  · simp (disch := omega) only [sm_all_o, f_X4_begin, up2_cc, up2_kk, up2_same]
  · simp (disch := omega) only [up2_same]
  · rw [e11] at z; exact absurd z (by decide)
  · simp (disch := omega) only [up2_cc]; exact z17
  · simp (disch := omega) only [up2_cc]; exact z18
  · simp (disch := omega) only [up2_cc]; exact z19
  · unfold sm_F1
    rw [e11]
    simp (disch := omega) only [sm_all_o, f_X4_begin, up2_cc]
    exact ⟨f1, f2, f3, f4, f5, fun _ => f6 (Or.inr (Or.inr (Or.inr (Or.inl h11)))), fun _ z => absurd z (by decide)⟩
theorem sm_Rext (R : sm_R B M n m d L) (hi : i < m) (h11 : M 11 i = 97) (hLi : L i = i) {v : Int32} (hv : ∃ q, q ≤ 10089 ∧ v = nI q) : sm_R (up2 (up2 B (30 + i) 1 1) (30 + i) 0 v) (up2 (up2 M 17 i 1) 16 i v) n m d L := by
  have h20 := R.m20
  obtain ⟨i1, i2, -, -, i5⟩ := R.2.2.2.2.2.2.2.2.2.1 i hi
  have hF := R.2.2.2.2.2.2.2.2.2.2 i hi
  have e11 : up2 (up2 M 17 i 1) 16 i v 11 i = 97 := by simp (disch := omega) only [up2_cc]; exact h11
  refine sm_R_own R hi (fun c k h1 h2 => ?_) (fun c k hc => ?_) (fun c j ne => ?_) ?_ ⟨⟨?_, ?_, ?_⟩, ?_, fun _ _ => ?_, fun _ z => ?_, fun z => ?_⟩ ?_
  · simp (disch := omega) only [up2_cc]
  · simp (disch := omega) only [up2_cc]
  · simp (disch := omega) only [up2_kk]
  · simp (disch := omega) only [up2_cc]
  · simp (disch := omega) only [up2_cc, up2_kk, up2_same]
  · simp (disch := omega) only [up2_cc, up2_kk, up2_same]; exact i1.2.1
  · simp (disch := omega) only [up2_cc, up2_kk, up2_same]; exact i1.2.2
  · simp (disch := omega) only [up2_cc]; exact i2
  · obtain ⟨q, hq, rfl⟩ := hv
    refine ⟨?_, q, hq, ?_, fun z => ?_⟩
    · simp (disch := omega) only [up2_same]
    · simp (disch := omega) only [up2_same]
    · rw [up2_cc (by decide), up2_same] at z; exact absurd z (by decide)
  · rw [e11] at z; exact absurd z (by decide)
  · rw [e11] at z
    rcases z with z | z | z | z
    · exact absurd hLi z
    · exact absurd z (by decide)
    · exact absurd z (by decide)
    · exact absurd z (by decide)
  · unfold sm_F1
    simp (disch := omega) only [up2_cc, up2_kk]
    exact hF
theorem sm_Rrem (R : sm_R B M n m d L) (hi : i < m) (h11 : M 11 i = 97) (hLi : L i = i) {v : Int32} (hv : ∃ q, q ≤ 10059 ∧ v = nI q) {r : Nat} (hr : r ≤ 3) : sm_R (up2 (up2 B (30 + i) 2 (nI r)) (30 + i) 0 v) (up2 (up2 M 18 i (nI r)) 16 i v) n m d L := by
  have h20 := R.m20
  obtain ⟨i1, i2, -, -, i5⟩ := R.2.2.2.2.2.2.2.2.2.1 i hi
  have hF := R.2.2.2.2.2.2.2.2.2.2 i hi
  have e11 : up2 (up2 M 18 i (nI r)) 16 i v 11 i = 97 := by simp (disch := omega) only [up2_cc]; exact h11
  refine sm_R_own R hi (fun c k h1 h2 => ?_) (fun c k hc => ?_) (fun c j ne => ?_) ?_ ⟨⟨?_, ?_, ?_⟩, ⟨r, hr, ?_⟩, fun _ _ => ?_, fun _ z => ?_, fun z => ?_⟩ ?_
  · simp (disch := omega) only [up2_cc]
  · simp (disch := omega) only [up2_cc]
  · simp (disch := omega) only [up2_kk]
  · simp (disch := omega) only [up2_cc]
  · simp (disch := omega) only [up2_cc, up2_kk, up2_same]; exact i1.1
  · simp (disch := omega) only [up2_cc, up2_kk, up2_same]
  · simp (disch := omega) only [up2_cc, up2_kk, up2_same]; exact i1.2.2
  · simp (disch := omega) only [up2_cc, up2_same]
  · obtain ⟨q, hq, rfl⟩ := hv
    refine ⟨?_, q, by omega, ?_, fun _ => hq⟩
    · simp (disch := omega) only [up2_same]
    · simp (disch := omega) only [up2_same]
  · rw [e11] at z; exact absurd z (by decide)
  · rw [e11] at z
    rcases z with z | z | z | z
    · exact absurd hLi z
    · exact absurd z (by decide)
    · exact absurd z (by decide)
    · exact absurd z (by decide)
  · unfold sm_F1
    simp (disch := omega) only [up2_cc, up2_kk]
    exact hF
theorem sm_Rans (R : sm_R B M n m d L) (hi : i < m) (hLi : L i = i) (h11 : M 11 i = 97) : sm_R (sm_all i 115 B m) (up2 M 11 i 115) n m d L := by
  have h20 := R.m20
  obtain ⟨i1, i2, -, -, i5⟩ := R.2.2.2.2.2.2.2.2.2.1 i hi
  obtain ⟨f1, f2, f3, f4, f5, f6, f7⟩ := R.2.2.2.2.2.2.2.2.2.2 i hi
  have e11 : up2 M 11 i 115 11 i = 115 := up2_same _ _ _ _
  refine sm_R_move (a := 115) R hi hLi (by rw [h11]; decide) (sm_rows_all R hi (fun j hj => rfl) rfl) (fun c k hc => ?_) (fun j hj ne k => ?_) (fun j hj ne k => ?_) (fun c k hc => ?_) (fun c j ne => ?_) e11 (fun z => absurd (show f_X7_isClosed 115 = 0 by decide) z) (Or.inr ⟨by decide, by decide, Or.inr (Or.inr (Or.inl rfl))⟩) ⟨?_, ?_, fun _ z => ?_, fun _ z => ?_, fun z => ?_⟩ ?_
  · simp (disch := omega) only [sm_all_o]
  · simp (disch := omega) only [sm_all_o]
  · simp (disch := omega) only [sm_all_o]
  · simp (disch := omega) only [up2_cc]
  · simp (disch := omega) only [up2_kk]
  · simp (disch := omega) only [sm_all_o, up2_cc]; exact i1
  · simp (disch := omega) only [up2_cc]; exact i2
  · rw [e11] at z; exact absurd z (by decide)
  · rw [e11] at z; exact absurd z (by decide)
  · rw [e11] at z
    rcases z with z | z | z | z
    · exact absurd hLi z
    · exact absurd z (by decide)
    · exact absurd z (by decide)
    · exact absurd z (by decide)
  · unfold sm_F1
    rw [e11]
    simp (disch := omega) only [sm_all_o, up2_cc]
    exact ⟨f1, f2, f3, f4, f5, fun _ => f6 (Or.inr (Or.inr (Or.inr (Or.inr (Or.inl h11))))), fun _ z => absurd z (by decide)⟩
theorem sm_Rsil (R : sm_R B M n m d L) (hi : i < m) (hLi : L i = i) (h11 : M 11 i = 97) : sm_R (sm_all i 115 (up2 B (30 + i) 3 1) m) (up2 (up2 M 19 i 1) 11 i 115) n m d L := by
  have h20 := R.m20
  obtain ⟨i1, i2, -, -, i5⟩ := R.2.2.2.2.2.2.2.2.2.1 i hi
  obtain ⟨f1, f2, f3, f4, f5, f6, f7⟩ := R.2.2.2.2.2.2.2.2.2.2 i hi
  have e11 : up2 (up2 M 19 i 1) 11 i 115 11 i = 115 := up2_same _ _ _ _
  refine sm_R_move (a := 115) R hi hLi (by rw [h11]; decide) (sm_rows_all R hi (fun j hj => ?_) ?_) (fun c k hc => ?_) (fun j hj ne k => ?_) (fun j hj ne k => ?_) (fun c k hc => ?_) (fun c j ne => ?_) e11 (fun z => absurd (show f_X7_isClosed 115 = 0 by decide) z) (Or.inr ⟨by decide, by decide, Or.inr (Or.inr (Or.inl rfl))⟩) ⟨⟨?_, ?_, ?_⟩, ?_, fun _ z => ?_, fun _ z => ?_, fun z => ?_⟩ ?_
  · funext k; simp (disch := omega) only [up2_cc]
  · simp (disch := omega) only [up2_cc]
  · simp (disch := omega) only [sm_all_o, up2_cc]
  · simp (disch := omega) only [sm_all_o, up2_cc]
  · simp (disch := omega) only [sm_all_o, up2_cc]
  · simp (disch := omega) only [up2_cc]
  · simp (disch := omega) only [up2_kk]
  · simp (disch := omega) only [sm_all_o, up2_cc, up2_kk]; exact i1.1
  · simp (disch := omega) only [sm_all_o, up2_cc, up2_kk]; exact i1.2.1
  · simp (disch := omega) only [sm_all_o, up2_cc, up2_same]
  · simp (disch := omega) only [up2_cc]; exact i2
  · rw [e11] at z; exact absurd z (by decide)
  · rw [e11] at z; exact absurd z (by decide)
  · rw [e11] at z
    rcases z with z | z | z | z
    · exact absurd hLi z
    · exact absurd z (by decide)
    · exact absurd z (by decide)
    · exact absurd z (by decide)
  · unfold sm_F1
    rw [e11]
    simp (disch := omega) only [sm_all_o, up2_cc]
    exact ⟨f1, f2, f3, f4, f5, fun _ => f6 (Or.inr (Or.inr (Or.inr (Or.inr (Or.inl h11))))), fun _ z => absurd z (by decide)⟩
theorem sm_all_up (i : Nat) (a : Int32) (B : BT) (m c k : Nat) (v : Int32) (hc : c < 10) (h5 : c ≠ 0) : up2 (sm_all i a B m) c k v = sm_all i a (up2 B c k v) m := by
  funext c' k'
  by_cases h1 : 10 ≤ c' ∧ c' < 10 + m
  · obtain ⟨j, rfl⟩ : ∃ j, c' = 10 + j := ⟨c' - 10, by omega⟩
    rw [up2_cc (by omega), sm_all_C (by omega), sm_all_C (by omega), up2_ne (show 10 + j ≠ c by omega), up2_cc (show 0 ≠ c by omega)]
  · rw [sm_all_o (by omega)]
    unfold up2
    rw [sm_all_o (by omega)]
theorem sm_R_told (R : sm_R B M n m d L) (hm : 0 < m) {o : Nat} (ho : o < n) {k c : Nat} {v : Int32} (hk : (k = 2 ∧ c = 3) ∨ (k = 3 ∧ c = 4)) : sm_R (up2 B (4 + o) k v) (up2 M c o v) n m d L := by
  have h20 := R.m20
  have h6 := R.n6
  obtain ⟨⟨⟨a1, a2, a3⟩, ⟨b1, b2, b3⟩, b4, b5, b6, b7, b8⟩, hW, hO, hP, hN, hT, hL, hJ, hK, hI, hF⟩ := R
  have hkk : k = 2 ∨ k = 3 := by omega
  have hcc : c = 3 ∨ c = 4 := by omega
  refine ⟨⟨⟨?_, ?_, ?_⟩, ⟨?_, ?_, ?_⟩, b4, b5, b6, b7, Or.inl hm⟩, ?_, ?_, ?_, ?_, ?_, ?_, ?_, ?_, ?_, ?_⟩
  · simp (disch := omega) only [up2_cc]; exact a1
  · simp (disch := omega) only [up2_cc]; exact a2
  · simp (disch := omega) only [up2_cc]; exact a3
  · simp (disch := omega) only [up2_cc]; exact b1
  · simp (disch := omega) only [up2_cc]; exact b2
  · simp (disch := omega) only [up2_cc]; exact b3
  · intro j hj; have h := hW j hj; simp (disch := omega) only [up2_cc]; exact h
  · intro j hj
    obtain ⟨h1, h2, h3, h4, h5⟩ := hO j hj
    by_cases e : j = o
    · subst e
      rcases hk with ⟨rfl, rfl⟩ | ⟨rfl, rfl⟩ <;> simp (disch := omega) only [up2_cc, up2_kk, up2_same]
      · exact ⟨h1, h2, trivial, h4, h5⟩
      · exact ⟨h1, h2, h3, trivial, h5⟩
    · simp (disch := omega) only [up2_cc, up2_kk]; exact ⟨h1, h2, h3, h4, h5⟩
  · intro j hj hj2; have h := hP j hj hj2; simp (disch := omega) only [up2_kk]; exact h
  · intro j hj hj2; have h := hN j hj hj2; simp (disch := omega) only [up2_cc]; exact h
  · intro j hj; have h := hT j hj; simp (disch := omega) only [up2_cc]; exact h
  · intro j hj; have h := hL j hj; simp (disch := omega) only [up2_cc]; exact h
  · intro j hj; have h := hJ j hj; simp (disch := omega) only [up2_cc]; exact h
  · intro j hj; have h := hK j hj; simp (disch := omega) only [up2_cc]; exact h
  · intro j hj; have h := hI j hj; simp (disch := omega) only [up2_cc]; exact h
  · intro j hj; have h := hF j hj; simp (disch := omega) only [up2_cc]; exact h
/-- closing what is decided: heeded, ignored; or what has no follower -/
theorem sm_Rclose (R : sm_R B M n m d L) (hi : i < m) (hLi : L i = i) {a : Int32} (hcl : f_X7_isClosed (M 11 i) = 0) (ha : a = 104 ∨ a = 105 ∨ a = 119) (hJ : (∀ j, j < m → L j = i → j = i) ∨ M 11 i = 100) : sm_R (sm_all i a B m) (up2 (up2 M 11 i a) 24 i (M 0 1)) n m d L := by
  have h20 := R.m20
  have hd := R.1.1.2.2
  have hd2 := R.1.2.1.2.2
  obtain ⟨i1, i2, -, -, i5⟩ := R.2.2.2.2.2.2.2.2.2.1 i hi
  obtain ⟨f1, f2, f3, f4, f5, f6, f7⟩ := R.2.2.2.2.2.2.2.2.2.2 i hi
  have e11 : up2 (up2 M 11 i a) 24 i (M 0 1) 11 i = a := by simp (disch := omega) only [up2_cc, up2_same]
  have hno : ¬ (a = 110 ∨ a = 102 ∨ a = 114 ∨ a = 97 ∨ a = 115 ∨ a = 100) := by
    rcases ha with rfl | rfl | rfl <;> decide
  refine sm_R_move (a := a) R hi hLi hcl (sm_rows_all R hi (fun j hj => rfl) rfl) (fun c k hc => ?_) (fun j hj ne k => ?_) (fun j hj ne k => ?_) (fun c k hc => ?_) (fun c j ne => ?_) e11 (fun z => ?_) ?_ ⟨?_, ?_, fun _ z => ?_, fun _ z => ?_, fun z => ?_⟩ ?_
  · simp (disch := omega) only [sm_all_o]
  · simp (disch := omega) only [sm_all_o]
  · simp (disch := omega) only [sm_all_o]
  · simp (disch := omega) only [up2_cc]
  · simp (disch := omega) only [up2_kk]
  · rw [up2_same, hd, hd2]
  · rcases hJ with q | q
    · exact Or.inl q
    · refine Or.inr ⟨fun z => hno (by simp [z]), fun z => hno (by simp [z]), Or.inr (Or.inr (Or.inr ?_))⟩
      simp (disch := omega) only [up2_cc]
      exact f7 hLi q
  · simp (disch := omega) only [sm_all_o, up2_cc]; exact i1
  · simp (disch := omega) only [up2_cc]; exact i2
  · rw [e11] at z; exact absurd (by simp [z]) hno
  · rw [e11] at z; exact absurd (by simp [z]) hno
  · rw [e11] at z
    rcases z with z | z | z | z
    · exact absurd hLi z
    · exact absurd (by simp [z]) hno
    · exact absurd (by simp [z]) hno
    · exact absurd (by simp [z]) hno
  · unfold sm_F1
    rw [e11]
    simp (disch := omega) only [sm_all_o, up2_cc]
    refine ⟨f1, f2, f3, f4, f5, fun z => ?_, fun _ z => absurd (by simp [z]) hno⟩
    rcases z with z | z | z | z | z | z
    · exact absurd hLi z
    · exact absurd (by simp [z]) hno
    · exact absurd (by simp [z]) hno
    · exact absurd (by simp [z]) hno
    · exact absurd (by simp [z]) hno
    · exact absurd (by simp [z]) hno
theorem sm_Racc (R : sm_R B M n m d L) (hi : i < m) (hLi : L i = i) (h11 : M 11 i = 100) {v : Int32} (hv : v = 0 ∨ v = 1) : sm_R (up2 (up2 B (50 + i) 4 1) (50 + i) 5 v) (up2 M 22 i v) n m d L := by
  have h20 := R.m20
  have hI := R.2.2.2.2.2.2.2.2.2.1 i hi
  obtain ⟨f1, f2, f3, f4, f5, f6, f7⟩ := R.2.2.2.2.2.2.2.2.2.2 i hi
  refine sm_R_own R hi (fun c k h1 h2 => ?_) (fun c k hc => ?_) (fun c j ne => ?_) ?_ ?_ ⟨?_, ?_, ?_, Or.inr ⟨?_, ?_⟩, fun z => ?_, fun z => ?_, ?_⟩
  · simp (disch := omega) only [up2_cc]
  · simp (disch := omega) only [up2_cc]
  · simp (disch := omega) only [up2_kk]
  · simp (disch := omega) only [up2_cc]
  · unfold sm_I1; simp (disch := omega) only [up2_cc, up2_kk]; exact hI
  · simp (disch := omega) only [up2_cc, up2_kk]; exact f1
  · simp (disch := omega) only [up2_cc]; exact f2
  · simp (disch := omega) only [up2_same]; exact hv
  · simp (disch := omega) only [up2_kk, up2_same]
  · simp (disch := omega) only [up2_same]
  · rw [up2_cc (by decide)] at z; exact absurd z (f7 hLi h11)
  · rw [up2_cc (by decide)] at z ⊢; exact f6 z
  · rw [up2_cc (by decide), up2_cc (by decide)]; exact f7
theorem sm_Rfoll (R : sm_R B M n m d L) (hi : i < m) (hLi : L i = i) (h11 : M 11 i = 100) {r : Nat} (hr : r ≤ 4) : sm_R (f_X3_recommend i (nI r) (nI d) (up2 B (50 + i) 3 1)) (up2 (up2 (up2 (up2 M 23 i 1) 21 i (nI r)) 16 i (nI d + 30 * nI r)) 22 i (-1)) n m d L := by
  have h20 := R.m20
  obtain ⟨i1, i2, -, -, i5⟩ := R.2.2.2.2.2.2.2.2.2.1 i hi
  obtain ⟨f1, f2, f3, f4, f5, f6, f7⟩ := R.2.2.2.2.2.2.2.2.2.2 i hi
  have e11 : ∀ v w, up2 (up2 (up2 (up2 M 23 i 1) 21 i (nI r)) 16 i v) 22 i w 11 i = 100 := fun v w => by simp (disch := omega) only [up2_cc]; exact h11
  have e20 : ∀ v w, up2 (up2 (up2 (up2 M 23 i 1) 21 i (nI r)) 16 i v) 22 i w 20 i = M 20 i := fun v w => by simp (disch := omega) only [up2_cc]
  refine sm_R_own R hi (fun c k h1 h2 => ?_) (fun c k hc => ?_) (fun c j ne => ?_) (e20 _ _) ⟨?_, ?_, fun _ z => ?_, fun _ _ => ?_, fun z => ?_⟩ ⟨⟨?_, ?_, ?_, Or.inr ?_⟩, ⟨r, hr, ?_⟩, Or.inl ?_, Or.inl ⟨?_, ?_⟩, fun z => ?_, fun z => ?_, fun _ _ => ?_⟩
  · simp (disch := omega) only [f_X3_recommend, up2_cc]
  · simp (disch := omega) only [up2_cc]
  · simp (disch := omega) only [up2_kk]
  · simp (disch := omega) only [f_X3_recommend, up2_cc]; exact i1
  · simp (disch := omega) only [up2_cc]; exact i2
  · rw [e11] at z; exact absurd z (by decide)
  · simp (disch := omega) only [f_X3_recommend, up2_cc, up2_kk, up2_same]
  · rw [e11] at z
    rcases z with z | z | z | z
    · exact absurd hLi z
    · exact absurd z (by decide)
    · exact absurd z (by decide)
    · exact absurd z (by decide)
  · simp (disch := omega) only [f_X3_recommend, up2_cc, up2_kk, up2_same]; exact f1.1
  · simp (disch := omega) only [f_X3_recommend, up2_cc, up2_kk, up2_same]
  · simp (disch := omega) only [f_X3_recommend, up2_cc, up2_kk, up2_same]
  · simp (disch := omega) only [up2_cc, up2_same]
  · simp (disch := omega) only [up2_cc, up2_same]
  · simp (disch := omega) only [f_X3_recommend, up2_same]
  · simp (disch := omega) only [f_X3_recommend, up2_kk, up2_same]
  · simp (disch := omega) only [up2_same]
  · rw [e20] at z; exact absurd z (f7 hLi h11)
  · rw [e11] at z
    rcases z with z | z | z | z | z | z
    · exact absurd hLi z
    · exact absurd z (by decide)
    · exact absurd z (by decide)
    · exact absurd z (by decide)
    · exact absurd z (by decide)
    · exact absurd z (by decide)
  · rw [e20]; exact f7 hLi h11
theorem sm_Rfind (R : sm_R B M n m d L) (hi : i < m) (hLi : L i = i) (h11 : M 11 i = 115) {r : Nat} (hr : r ≤ 4) {hd : Int32} (hh : hd ≠ -1) : sm_R (sm_all i 100 (f_X3_recommend i (nI r) (nI d) (f_X3_begin i hd B)) m) (up2 (up2 (up2 (up2 M 20 i hd) 11 i 100) 21 i (nI r)) 16 i (nI d + 30 * nI r)) n m d L := by
  have h20 := R.m20
  obtain ⟨i1, i2, -, -, i5⟩ := R.2.2.2.2.2.2.2.2.2.1 i hi
  obtain ⟨f1, f2, f3, f4, f5, f6, f7⟩ := R.2.2.2.2.2.2.2.2.2.2 i hi
  obtain ⟨y21, y22, y23⟩ := f5 (f6 (Or.inr (Or.inr (Or.inr (Or.inr (Or.inr h11))))))
  have e11 : ∀ v, up2 (up2 (up2 (up2 M 20 i hd) 11 i 100) 21 i (nI r)) 16 i v 11 i = 100 := fun v => by simp (disch := omega) only [up2_cc, up2_same]
  have e20 : ∀ v, up2 (up2 (up2 (up2 M 20 i hd) 11 i 100) 21 i (nI r)) 16 i v 20 i = hd := fun v => by simp (disch := omega) only [up2_cc, up2_same]
  refine sm_R_move (a := 100) R hi hLi (by rw [h11]; decide) (sm_rows_all R hi (fun j hj => ?_) ?_) (fun c k hc => ?_) (fun j hj ne k => ?_) (fun j hj ne k => ?_) (fun c k hc => ?_) (fun c j ne => ?_) (e11 _) (fun z => absurd (show f_X7_isClosed 100 = 0 by decide) z) (Or.inr ⟨by decide, by decide, Or.inr (Or.inr (Or.inr (by rw [e20]; exact hh)))⟩) ⟨?_, ?_, fun _ z => ?_, fun _ _ => ?_, fun z => ?_⟩ ⟨⟨?_, ?_, ?_, Or.inl ?_⟩, ⟨r, hr, ?_⟩, Or.inl ?_, Or.inl ⟨?_, ?_⟩, fun z => ?_, fun z => ?_, fun _ _ => ?_⟩
  · funext k; simp (disch := omega) only [f_X3_recommend, f_X3_begin, up2_cc]
  · simp (disch := omega) only [f_X3_recommend, f_X3_begin, up2_cc]
  · simp (disch := omega) only [sm_all_o, f_X3_recommend, f_X3_begin, up2_cc]
  · simp (disch := omega) only [sm_all_o, f_X3_recommend, f_X3_begin, up2_cc]
  · simp (disch := omega) only [sm_all_o, f_X3_recommend, f_X3_begin, up2_cc]
  · simp (disch := omega) only [up2_cc]
  · simp (disch := omega) only [up2_kk]
  · simp (disch := omega) only [sm_all_o, f_X3_recommend, f_X3_begin, up2_cc]; exact i1
  · simp (disch := omega) only [up2_cc]; exact i2
  · rw [e11] at z; exact absurd z (by decide)
  · simp (disch := omega) only [sm_all_o, f_X3_recommend, f_X3_begin, up2_cc, up2_kk, up2_same]
  · rw [e11] at z
    rcases z with z | z | z | z
    · exact absurd hLi z
    · exact absurd z (by decide)
    · exact absurd z (by decide)
    · exact absurd z (by decide)
  · simp (disch := omega) only [sm_all_o, f_X3_recommend, f_X3_begin, up2_cc, up2_kk, up2_same]
  · simp (disch := omega) only [sm_all_o, f_X3_recommend, f_X3_begin, up2_cc, up2_kk, up2_same]
  · simp (disch := omega) only [sm_all_o, f_X3_recommend, f_X3_begin, up2_cc, up2_kk, up2_same]; exact y23.symm
  · simp (disch := omega) only [up2_cc]; exact y23
  · simp (disch := omega) only [up2_cc, up2_same]
  · simp (disch := omega) only [sm_all_o, f_X3_recommend, up2_same]
  · simp (disch := omega) only [sm_all_o, f_X3_recommend, up2_kk, up2_same]
  · simp (disch := omega) only [up2_cc]; exact y22
  · rw [e20] at z; exact absurd z hh
  · rw [e11] at z
    rcases z with z | z | z | z | z | z
    · exact absurd hLi z
    · exact absurd z (by decide)
    · exact absurd z (by decide)
    · exact absurd z (by decide)
    · exact absurd z (by decide)
    · exact absurd z (by decide)
  · rw [e20]; exact hh
theorem sm_Rfind0 (R : sm_R B M n m d L) (hi : i < m) (hLi : L i = i) (h11 : M 11 i = 115) : sm_R (sm_all i 117 (f_X3_begin i 0 B) m) (up2 (up2 (up2 M 20 i 0) 11 i 117) 24 i (M 0 1)) n m d L := by
  have h20 := R.m20
  have hd := R.1.1.2.2
  have hd2 := R.1.2.1.2.2
  obtain ⟨i1, i2, -, -, i5⟩ := R.2.2.2.2.2.2.2.2.2.1 i hi
  obtain ⟨f1, f2, f3, f4, f5, f6, f7⟩ := R.2.2.2.2.2.2.2.2.2.2 i hi
  obtain ⟨y21, y22, y23⟩ := f5 (f6 (Or.inr (Or.inr (Or.inr (Or.inr (Or.inr h11))))))
  have e11 : up2 (up2 (up2 M 20 i 0) 11 i 117) 24 i (M 0 1) 11 i = 117 := by simp (disch := omega) only [up2_cc, up2_same]
  have e20 : up2 (up2 (up2 M 20 i 0) 11 i 117) 24 i (M 0 1) 20 i = 0 := by simp (disch := omega) only [up2_cc, up2_same]
  refine sm_R_move (a := 117) R hi hLi (by rw [h11]; decide) (sm_rows_all R hi (fun j hj => ?_) ?_) (fun c k hc => ?_) (fun j hj ne k => ?_) (fun j hj ne k => ?_) (fun c k hc => ?_) (fun c j ne => ?_) e11 (fun z => ?_) (Or.inr ⟨by decide, by decide, Or.inr (Or.inr (Or.inr (by rw [e20]; decide)))⟩) ⟨?_, ?_, fun _ z => ?_, fun _ z => ?_, fun z => ?_⟩ ⟨⟨?_, ?_, ?_, Or.inl ?_⟩, ⟨0, by omega, ?_⟩, Or.inl ?_, Or.inl ⟨?_, ?_⟩, fun z => ?_, fun z => ?_, fun _ z => ?_⟩
  · funext k; simp (disch := omega) only [f_X3_begin, up2_cc]
  · simp (disch := omega) only [f_X3_begin, up2_cc]
  · simp (disch := omega) only [sm_all_o, f_X3_begin, up2_cc]
  · simp (disch := omega) only [sm_all_o, f_X3_begin, up2_cc]
  · simp (disch := omega) only [sm_all_o, f_X3_begin, up2_cc]
  · simp (disch := omega) only [up2_cc]
  · simp (disch := omega) only [up2_kk]
  · rw [up2_same, hd, hd2]
  · simp (disch := omega) only [sm_all_o, f_X3_begin, up2_cc]; exact i1
  · simp (disch := omega) only [up2_cc]; exact i2
  · rw [e11] at z; exact absurd z (by decide)
  · rw [e11] at z; exact absurd z (by decide)
  · rw [e11] at z
    rcases z with z | z | z | z
    · exact absurd hLi z
    · exact absurd z (by decide)
    · exact absurd z (by decide)
    · exact absurd z (by decide)
  · simp (disch := omega) only [sm_all_o, f_X3_begin, up2_cc, up2_kk, up2_same]
  · simp (disch := omega) only [sm_all_o, f_X3_begin, up2_cc, up2_kk, up2_same]; exact y21.symm
  · simp (disch := omega) only [sm_all_o, f_X3_begin, up2_cc, up2_kk, up2_same]; exact y23.symm
  · simp (disch := omega) only [up2_cc]; exact y23
  · simp (disch := omega) only [up2_cc]; exact y21
  · simp (disch := omega) only [sm_all_o, f_X3_begin, up2_same]
  · simp (disch := omega) only [sm_all_o, f_X3_begin, up2_kk, up2_same]
  · simp (disch := omega) only [up2_cc]; exact y22
  · rw [e20] at z; exact absurd z (by decide)
  · rw [e11] at z
    rcases z with z | z | z | z | z | z
    · exact absurd hLi z
    · exact absurd z (by decide)
    · exact absurd z (by decide)
    · exact absurd z (by decide)
    · exact absurd z (by decide)
    · exact absurd z (by decide)
  · rw [e11] at z; exact absurd z (by decide)
/-- examined: nobody follows it -/
theorem sm_Rexa (R : sm_R B M n m d L) (hi : i < m) (h11 : M 11 (L i) = 110 ∨ M 11 (L i) = 102) {a x : Int32} (ha : a = 111 ∨ a = 108 ∨ a = 102 ∨ a = 114) (hx : (f_X7_isClosed a = 0 ∧ x = M 24 i) ∨ (¬ f_X7_isClosed a = 0 ∧ x = M 0 1)) : sm_R (sm_row B (10 + i) (sm_mv a (B 0 5) (B (10 + i)))) (up2 (up2 M 11 i a) 24 i x) n m d L := by
  have h20 := R.m20
  have hd := R.1.1.2.2
  have hd2 := R.1.2.1.2.2
  have hJ := R.2.2.2.2.2.2.2.1
  have hLi : L i = i := by
    refine Classical.byContradiction fun z => ?_
    obtain ⟨y1, y2, -⟩ := hJ i hi z
    exact h11.elim y1 y2
  rw [hLi] at h11
  have hno : ∀ j, j < m → L j = i → j = i := by
    intro j hj e
    refine Classical.byContradiction fun z => ?_
    obtain ⟨y1, y2, -⟩ := hJ j hj (fun w => z (w.symm.trans e))
    rw [e] at y1 y2
    exact h11.elim y1 y2
  have hcl : f_X7_isClosed (M 11 i) = 0 := by rcases h11 with z | z <;> rw [z] <;> decide
  obtain ⟨i1, i2, -, -, i5⟩ := R.2.2.2.2.2.2.2.2.2.1 i hi
  obtain ⟨f1, f2, f3, f4, f5, f6, f7⟩ := R.2.2.2.2.2.2.2.2.2.2 i hi
  have hfr := i5 (by rcases h11 with z | z <;> simp [z])
  have hnf := f6 (by rcases h11 with z | z <;> simp [z])
  have e11 : up2 (up2 M 11 i a) 24 i x 11 i = a := by simp (disch := omega) only [up2_cc, up2_same]
  have h97 : a ≠ 97 ∧ a ≠ 100 := by rcases ha with rfl | rfl | rfl | rfl <;> decide
  refine sm_R_move (a := a) R hi hLi hcl (fun j hj => ?_) (fun c k hc => ?_) (fun j hj ne k => ?_) (fun j hj ne k => ?_) (fun c k hc => ?_) (fun c j ne => ?_) e11 (fun z => ?_) (Or.inl hno) ⟨?_, ?_, fun _ z => ?_, fun _ z => ?_, fun z => ?_⟩ ?_
  · unfold sm_row
    by_cases e : j = i
    · rw [if_pos (by omega), e, if_pos hLi]
    · rw [if_neg (by omega), if_neg (fun z => e (hno j hj z))]
  · unfold sm_row; rw [if_neg (by omega)]
  · unfold sm_row; rw [if_neg (by omega)]
  · unfold sm_row; rw [if_neg (by omega)]
  · simp (disch := omega) only [up2_cc]
  · simp (disch := omega) only [up2_kk]
  · rcases hx with ⟨y1, y2⟩ | ⟨y1, y2⟩
    · exact absurd y1 z
    · rw [up2_same, y2, hd, hd2]
  · unfold sm_row; rw [if_neg (by omega)]; simp (disch := omega) only [up2_cc]; exact i1
  · simp (disch := omega) only [up2_cc]; exact i2
  · rw [e11] at z; exact absurd z h97.1
  · rw [e11] at z; exact absurd z h97.2
  · simp (disch := omega) only [up2_cc]; exact hfr
  · unfold sm_F1 sm_row
    rw [if_neg (by omega), e11]
    simp (disch := omega) only [up2_cc]
    exact ⟨f1, f2, f3, f4, f5, fun _ => hnf, fun _ z => absurd z h97.2⟩
end SX
