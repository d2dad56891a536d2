/-! what changes: intake -/
section SI
variable {B M : BT} {n m d : Nat} {L : Nat → Nat} {i : Nat}
theorem sm_apI (h : B 0 4 = nI m) (hm : m ≤ 20) (hi : i < m) {K v a b : Int32} (h1 : K ≠ 1) (h2 : K ≠ 2) (h3 : K ≠ 3) (h4 : K ≠ 4) (h8 : ¬ 8 < K) : f_X0_apply K (nI i) v a b B = f_X0_applyAtIntake K i v B := by
  unfold f_X0_apply
  rw [if_neg h1, if_neg h2, if_neg h3, if_neg h4, if_neg (nI_pos (by omega)), if_pos (by rw [h, nI_ltI (by omega) (by omega)]; exact hi), if_neg h8, nI_clamp (by omega)]
theorem sm_apC (h : B 0 4 = nI m) (hm : m ≤ 20) (hi : i < m) {K v a b : Int32} (h1 : K ≠ 1) (h2 : K ≠ 2) (h3 : K ≠ 3) (h4 : K ≠ 4) (h8 : 8 < K) : f_X0_apply K (nI i) v a b B = f_X0_applyToCase K i v B := by
  unfold f_X0_apply
  rw [if_neg h1, if_neg h2, if_neg h3, if_neg h4, if_neg (nI_pos (by omega)), if_pos (by rw [h, nI_ltI (by omega) (by omega)]; exact hi), if_pos h8, nI_clamp (by omega)]
theorem sm_hapI (R : sm_R B M n m d L) (hi : i < m) {K v : Int32} (h1 : K ≠ 1) (h2 : K ≠ 2) (h3 : K ≠ 3) (h4 : K ≠ 4) (h8 : ¬ 8 < K) : f_X6_happen K (nI i) v B = f_X0_applyAtIntake K i v B := by
  unfold f_X6_happen
  rw [sm_apI R.1.1.2.1 R.m20 hi h1 h2 h3 h4 h8]
theorem sm_hapC (R : sm_R B M n m d L) (hi : i < m) {K v : Int32} (h1 : K ≠ 1) (h2 : K ≠ 2) (h3 : K ≠ 3) (h4 : K ≠ 4) (h8 : 8 < K) : f_X6_happen K (nI i) v B = f_X0_applyToCase K i v B := by
  unfold f_X6_happen
  rw [sm_apC R.1.1.2.1 R.m20 hi h1 h2 h3 h4 h8]
/-- one of a complaint's own numbers told at the intake: court, reason, first step -/
theorem sm_R_tell (R : sm_R B M n m d L) (hi : i < m) {k c : Nat} {v : Int32} (hk : (k = 8 ∧ c = 13 ∧ (v = 0 ∨ v = 1)) ∨ (k = 9 ∧ c = 14 ∧ (v = 0 ∨ v = 1)) ∨ (k = 10 ∧ c = 15)) : sm_R (up2 B (10 + i) k v) (up2 M c i v) n m d L := by
  have h20 := R.m20
  obtain ⟨⟨⟨a1, a2, a3⟩, ⟨b1, b2, b3⟩, b4, b5, b6, b7, b8⟩, hW, hO, hP, hN, hT, hL, hJ, hK, hI, hF⟩ := R
  have hkk : k = 8 ∨ k = 9 ∨ k = 10 := by omega
  have hcc : c = 13 ∨ c = 14 ∨ c = 15 := by omega
  refine ⟨⟨⟨?_, ?_, ?_⟩, ⟨?_, ?_, ?_⟩, b4, b5, b6, b7, Or.inl (by omega)⟩, ?_, ?_, ?_, ?_, ?_, ?_, ?_, ?_, ?_, ?_⟩
  · simp (disch := omega) only [up2_cc]; exact a1
  · simp (disch := omega) only [up2_cc]; exact a2
  · simp (disch := omega) only [up2_cc]; exact a3
  · simp (disch := omega) only [up2_cc]; exact b1
  · simp (disch := omega) only [up2_cc]; exact b2
  · simp (disch := omega) only [up2_cc]; exact b3
  · intro j hj; have h := hW j hj; simp (disch := omega) only [up2_cc]; exact h
  · intro j hj; have h := hO j hj; simp (disch := omega) only [up2_cc]; exact h
  · intro j hj hj2; have h := hP j hj hj2; simp (disch := omega) only [up2_cc]; exact h
  · intro j hj hj2; have h := hN j hj hj2; simp (disch := omega) only [up2_cc, up2_kk]; exact h
  · intro j hj
    obtain ⟨h1, h2, h3, h4, h5, h6⟩ := hT j hj
    by_cases e : j = i
    · subst e
      rcases hk with ⟨rfl, rfl, hv⟩ | ⟨rfl, rfl, hv⟩ | ⟨rfl, rfl⟩ <;> simp (disch := omega) only [up2_cc, up2_kk, up2_same]
      · exact ⟨h1, trivial, hv, h4, h5, h6⟩
      · exact ⟨h1, h2, h3, trivial, hv, h6⟩
      · exact ⟨h1, h2, h3, h4, h5, trivial⟩
    · simp (disch := omega) only [up2_cc, up2_kk]; exact ⟨h1, h2, h3, h4, h5, h6⟩
  · intro j hj; have h := hL j hj; simp (disch := omega) only [up2_cc, up2_kk]; exact h
  · intro j hj; have h := hJ j hj; simp (disch := omega) only [up2_cc, up2_kk]; exact h
  · intro j hj; have h := hK j hj; simp (disch := omega) only [up2_cc, up2_kk]; exact h
  · intro j hj; have h := hI j hj; simp (disch := omega) only [up2_cc, up2_kk]; exact h
  · intro j hj; have h := hF j hj; simp (disch := omega) only [up2_cc, up2_kk]; exact h
end SI
section SJ
variable {S : Nat → BT} {M : BT} {t : Nat}
theorem sm_01e {x : Int32} (h : x = 0 ∨ x = 1) {Y : BT} : (if x = 0 then ((0 : Int32), Y) else ((1 : Int32), Y)) = (x, Y) := by
  rcases h with e | e <;> rw [e] <;> rfl
theorem sm_01f {x : Int32} (h : x = 0 ∨ x = 1) {Y : BT} : (if x = 1 then ((1 : Int32), Y) else ((0 : Int32), Y)) = (x, Y) := by
  rcases h with e | e <;> rw [e] <;> rfl
theorem sm_setCourt (h : sm_V S M t) (ht : t < 512) (a1 a2 : Int32) (h2 : a2 = 0 ∨ a2 = 1) : sm_S S t (e_X6_setCourt a1 a2 (S 0)) ["java/lang/IndexOutOfBoundsException", "java/lang/UnsupportedOperationException"] (va_up (f_X2_keep 5 a1 (j_X6_setCourt_12 a2) 0 0 S) 0 (f_X6_setCourt a1 a2 (S 0)).2) (f_X7_setCourt a1 a2 M).2 ((f_X7_setCourt a1 a2 M).1 = (f_X6_setCourt a1 a2 (S 0)).1) := by
  obtain ⟨n, m, d, L, ne, n1, m1, q1, q2, q3, R, q5, q6⟩ := id h
  by_cases hk : e_X6_known a1 (S 0) = none
  · obtain ⟨i, hi, hi20, rfl, hf⟩ := sm_kn R.1 hk
    by_cases hp : e_X6_requireAtIntake i (S 0) = none
    · obtain ⟨p1, p2⟩ := sm_past R hi hp
      have hT := (R.2.2.2.2.2.1 i hi).2
      have hj : j_X6_setCourt_12 a2 = a2 := by rcases h2 with rfl | rfl <;> rfl
      have hap : f_X6_happen 5 (nI i) a2 (S 0) = (M 13 i, up2 (S 0) (10 + i) 8 a2) := by
        rw [sm_hapI R hi (by decide) (by decide) (by decide) (by decide) (by decide)]
        unfold f_X0_applyAtIntake f_X0_tellOfCourt
        rw [if_pos rfl]
        rcases h2 with rfl | rfl
        · rw [if_neg (by decide), hT.1]; exact sm_01e hT.2.1
        · rw [if_pos rfl, hT.1]; exact sm_01e hT.2.1
      have E6 : f_X6_setCourt (nI i) a2 (S 0) = (M 13 i, up2 (S 0) (10 + i) 8 a2) := by
        unfold f_X6_setCourt; rw [if_pos hk, hf, if_pos hp, hj, hap]; exact sm_01f hT.2.1
      have E7 : f_X7_setCourt (nI i) a2 M = (M 13 i, up2 (up2 M 0 0 0) 13 i a2) := by
        unfold f_X7_setCourt; rw [sm_i0 p1, p1, nI_clamp (by omega)]
        simp (disch := omega) only [up2_cc]
      have Ee : e_X6_setCourt (nI i) a2 (S 0) = none := by
        unfold e_X6_setCourt; rw [if_pos hk, hf, if_pos hp, ite_self]
      have hMN := cn_X7_setCourt (a1 := nI i) (okz_01 h2) q3
      rw [E7] at hMN
      rw [E7, E6, Ee]
      refine sm_S.ok rfl (by show up2 (up2 M 0 0 0) 13 i a2 0 0 = 0; simp (disch := omega) only [up2_cc, up2_same]) rfl (sm_V.ev q2 q1 R q5 q6 ht 5 (nI i) (j_X6_setCourt_12 a2) 0 0 ?_ hMN (sm_R_tell (R.thr (v := 0)) hi (Or.inl ⟨rfl, rfl, h2⟩)))
      have e2 := congrArg Prod.snd hap
      rw [hj]; exact e2.symm
    · obtain ⟨e1, e2⟩ := sm_pastN R hi hp
      refine sm_S.x h (v := 2) (show _ = some "java/lang/UnsupportedOperationException" from ?_) ?_ (by decide +kernel)
      · unfold e_X6_setCourt; rw [if_pos hk, hf, if_neg hp, e1]
      · unfold f_X7_setCourt; rw [sm_i1 e2, e2]
  · obtain ⟨e1, -, e2⟩ := sm_nk R.1 hk
    refine sm_S.x h (v := 1) (show _ = some "java/lang/IndexOutOfBoundsException" from ?_) ?_ (by decide +kernel)
    · unfold e_X6_setCourt; rw [if_neg hk, e1]
    · have e3 : f_X7_isPast a1 M = (1, up2 M 0 0 1) := by unfold f_X7_isPast; rw [sm_i1 e2, e2]
      unfold f_X7_setCourt; rw [sm_i1 e3, e3]
theorem sm_excuse (h : sm_V S M t) (ht : t < 512) (a1 : Int32) : sm_S S t (e_X6_excuse a1 (S 0)) ["java/lang/IndexOutOfBoundsException", "java/lang/UnsupportedOperationException"] (va_up (f_X2_keep 6 a1 0 0 0 S) 0 (f_X6_excuse a1 (S 0)).2) (f_X7_excuse a1 M).2 ((f_X7_excuse a1 M).1 = (f_X6_excuse a1 (S 0)).1) := by
  obtain ⟨n, m, d, L, ne, n1, m1, q1, q2, q3, R, q5, q6⟩ := id h
  by_cases hk : e_X6_known a1 (S 0) = none
  · obtain ⟨i, hi, hi20, rfl, hf⟩ := sm_kn R.1 hk
    by_cases hp : e_X6_requireAtIntake i (S 0) = none
    · obtain ⟨p1, p2⟩ := sm_past R hi hp
      have hT := (R.2.2.2.2.2.1 i hi).2.2.2
      have hap : f_X6_happen 6 (nI i) 0 (S 0) = (M 14 i, up2 (S 0) (10 + i) 9 1) := by
        rw [sm_hapI R hi (by decide) (by decide) (by decide) (by decide) (by decide)]
        unfold f_X0_applyAtIntake f_X0_tellOfReason
        rw [if_neg (by decide), if_pos rfl, hT.1]; exact sm_01e hT.2.1
      have E6 : f_X6_excuse (nI i) (S 0) = (M 14 i, up2 (S 0) (10 + i) 9 1) := by
        unfold f_X6_excuse; rw [if_pos hk, hf, if_pos hp, hap]; exact sm_01f hT.2.1
      have E7 : f_X7_excuse (nI i) M = (M 14 i, up2 (up2 M 0 0 0) 14 i 1) := by
        unfold f_X7_excuse; rw [sm_i0 p1, p1, nI_clamp (by omega)]
        simp (disch := omega) only [up2_cc]
      have Ee : e_X6_excuse (nI i) (S 0) = none := by
        unfold e_X6_excuse; rw [if_pos hk, hf, if_pos hp, ite_self]
      have hMN := cn_X7_excuse (a1 := nI i) q3
      rw [E7] at hMN
      rw [E7, E6, Ee]
      refine sm_S.ok rfl (by show up2 (up2 M 0 0 0) 14 i 1 0 0 = 0; simp (disch := omega) only [up2_cc, up2_same]) rfl (sm_V.ev q2 q1 R q5 q6 ht 6 (nI i) 0 0 0 ?_ hMN (sm_R_tell (R.thr (v := 0)) hi (Or.inr (Or.inl ⟨rfl, rfl, Or.inr rfl⟩))))
      have e2 := congrArg Prod.snd hap
      exact e2.symm
    · obtain ⟨e1, e2⟩ := sm_pastN R hi hp
      refine sm_S.x h (v := 2) (show _ = some "java/lang/UnsupportedOperationException" from ?_) ?_ (by decide +kernel)
      · unfold e_X6_excuse; rw [if_pos hk, hf, if_neg hp, e1]
      · unfold f_X7_excuse; rw [sm_i1 e2, e2]
  · obtain ⟨e1, -, e2⟩ := sm_nk R.1 hk
    refine sm_S.x h (v := 1) (show _ = some "java/lang/IndexOutOfBoundsException" from ?_) ?_ (by decide +kernel)
    · unfold e_X6_excuse; rw [if_neg hk, e1]
    · have e3 : f_X7_isPast a1 M = (1, up2 M 0 0 1) := by unfold f_X7_isPast; rw [sm_i1 e2, e2]
      unfold f_X7_excuse; rw [sm_i1 e3, e3]
theorem sm_takeStep (h : sm_V S M t) (ht : t < 512) (a1 : Int32) : sm_S S t (e_X6_takeStep a1 (S 0)) ["java/lang/IndexOutOfBoundsException", "java/lang/UnsupportedOperationException"] (va_up (f_X2_keep 7 a1 0 0 0 S) 0 (f_X6_takeStep a1 (S 0)).2) (f_X7_takeStep a1 M).2 ((f_X7_takeStep a1 M).1 = (f_X6_takeStep a1 (S 0)).1) := by
  obtain ⟨n, m, d, L, ne, n1, m1, q1, q2, q3, R, q5, q6⟩ := id h
  by_cases hk : e_X6_known a1 (S 0) = none
  · obtain ⟨i, hi, hi20, rfl, hf⟩ := sm_kn R.1 hk
    by_cases hp : e_X6_requireAtIntake i (S 0) = none
    · obtain ⟨p1, p2⟩ := sm_past R hi hp
      obtain ⟨⟨⟨o, ho, h3⟩, h6, -⟩, -, -, -, -, h10⟩ := R.2.2.2.2.2.1 i hi
      have hn6 := R.n6
      have hoo := R.2.2.1 o ho
      by_cases hs : S 0 (10 + i) 10 = -1
      · have hs7 : M 15 i = -1 := by rw [← h10]; exact hs
        have hap : f_X6_happen 7 (nI i) 0 (S 0) = (nI d + M 1 o, up2 (S 0) (10 + i) 10 (nI d)) := by
          rw [sm_hapI R hi (by decide) (by decide) (by decide) (by decide) (by decide)]
          unfold f_X0_applyAtIntake
          rw [if_neg (by decide), if_neg (by decide), if_pos rfl, R.1.1.2.2]
          have R1 := sm_R_tell R hi (k := 10) (c := 15) (v := nI d) (Or.inr (Or.inr ⟨rfl, rfl⟩))
          rw [sm_off R1 (by rw [up2_kk (by decide)]; exact h3) ho]
          simp (disch := omega) only [up2_cc]
          rw [R.1.1.2.2, hoo.1]
        have E6 : f_X6_takeStep (nI i) (S 0) = (nI d + M 1 o, up2 (S 0) (10 + i) 10 (nI d)) := by
          unfold f_X6_takeStep; rw [if_pos hk, hf, if_pos hp, if_pos hs, hap]
        have E7 : f_X7_takeStep (nI i) M = (nI d + M 1 o, up2 (up2 M 0 0 0) 15 i (nI d)) := by
          unfold f_X7_takeStep; rw [sm_i0 p1, p1, nI_clamp (by omega)]
          simp (disch := omega) only [up2_cc, up2_kk, up2_up2]
          rw [if_pos hs7, R.1.2.1.2.2, ← h6, h3, nI_clamp (by omega)]
        have Ee : e_X6_takeStep (nI i) (S 0) = none := by
          unfold e_X6_takeStep; rw [if_pos hk, hf, if_pos hp, if_pos hs]
        have hMN := cn_X7_takeStep (a1 := nI i) q3
        rw [E7] at hMN
        rw [E7, E6, Ee]
        refine sm_S.ok rfl (by show up2 (up2 M 0 0 0) 15 i (nI d) 0 0 = 0; simp (disch := omega) only [up2_cc, up2_same]) rfl (sm_V.ev q2 q1 R q5 q6 ht 7 (nI i) 0 0 0 ?_ hMN (sm_R_tell (R.thr (v := 0)) hi (Or.inr (Or.inr ⟨rfl, rfl⟩))))
        have e2 := congrArg Prod.snd hap
        exact e2.symm
      · have hs7 : ¬ M 15 i = -1 := by rw [← h10]; exact hs
        refine sm_S.x h (v := 2) (show _ = some "java/lang/UnsupportedOperationException" from ?_) ?_ (by decide +kernel)
        · unfold e_X6_takeStep; rw [if_pos hk, hf, if_pos hp, if_neg hs]
        · unfold f_X7_takeStep; rw [sm_i0 p1, p1, nI_clamp (by omega)]
          simp (disch := omega) only [up2_cc, up2_kk, up2_up2]
          rw [if_neg hs7]
    · obtain ⟨e1, e2⟩ := sm_pastN R hi hp
      refine sm_S.x h (v := 2) (show _ = some "java/lang/UnsupportedOperationException" from ?_) ?_ (by decide +kernel)
      · unfold e_X6_takeStep; rw [if_pos hk, hf, if_neg hp, e1]
      · unfold f_X7_takeStep; rw [sm_i1 e2, e2]
  · obtain ⟨e1, -, e2⟩ := sm_nk R.1 hk
    refine sm_S.x h (v := 1) (show _ = some "java/lang/IndexOutOfBoundsException" from ?_) ?_ (by decide +kernel)
    · unfold e_X6_takeStep; rw [if_neg hk, e1]
    · have e3 : f_X7_isPast a1 M = (1, up2 M 0 0 1) := by unfold f_X7_isPast; rw [sm_i1 e2, e2]
      unfold f_X7_takeStep; rw [sm_i1 e3, e3]
end SJ
