/-! what changes: findings and remedies -/
theorem sm_fol_e {B B' : BT} (i : Nat) (h4 : B' 0 4 = B 0 4) (h : ∀ j, j < 20 → B' (10 + j) 12 = B (10 + j) 12) (hm : (B 0 4).toNatClampNeg ≤ 20) : f_X0_followersOf i B' = f_X0_followersOf i B := by
  unfold f_X0_followersOf
  rw [h4]
  have key : ∀ k, k ≤ 20 → L_followersOf i B' k = L_followersOf i B k := by
    intro k
    induction k with
    | zero => intro _; rfl
    | succ k ih =>
      intro hk
      show b_followersOf i B' k (L_followersOf i B' k) = b_followersOf i B k (L_followersOf i B k)
      unfold b_followersOf
      rw [ih (by omega), h k (by omega)]
  exact key _ hm
theorem sm_wt_e {B B' : BT} (a : Int32) (h : ∀ k, k < 5 → B' 3 k = B 3 k) : f_X0_weightOf a B' = f_X0_weightOf a B := by
  unfold f_X0_weightOf
  have key : ∀ k, k ≤ 5 → L_weightOf a B' k = L_weightOf a B k := by
    intro k
    induction k with
    | zero => intro _; rfl
    | succ k ih =>
      intro hk
      show b_weightOf a B' k (L_weightOf a B' k) = b_weightOf a B k (L_weightOf a B k)
      unfold b_weightOf
      rw [ih (by omega), h k (by omega)]
  exact key 5 (Nat.le_refl _)
theorem sm_jt_e {M M' : BT} {m : Nat} (a : Int32) (h3 : M' 0 3 = M 0 3) (h : ∀ j, j < 20 → M' 12 j = M 12 j) (hm : M 0 3 = nI m) (h20 : m ≤ 20) : f_X7_joinedTo a M' = f_X7_joinedTo a M := by
  unfold f_X7_joinedTo
  rw [h3, hm, nI_clamp (by omega)]
  have key : ∀ k, k ≤ 20 → L_joinedTo a M' k = L_joinedTo a M k := by
    intro k
    induction k with
    | zero => intro _; rfl
    | succ k ih =>
      intro hk
      show b_joinedTo a M' k (L_joinedTo a M' k) = b_joinedTo a M k (L_joinedTo a M k)
      unfold b_joinedTo
      rw [ih (by omega), h k (by omega)]
  exact key m h20
section SL
variable {S : Nat → BT} {M : BT} {t : Nat}
theorem sm_accept (h : sm_V S M t) (ht : t < 512) (a1 a2 : Int32) (h2 : a2 = 0 ∨ a2 = 1) : sm_S S t (e_X6_accept a1 a2 (S 0)) ["java/lang/IndexOutOfBoundsException", "java/lang/UnsupportedOperationException"] (va_up (f_X2_keep 17 a1 (j_X6_accept_37 a2) 0 0 S) 0 (f_X6_accept a1 a2 (S 0)).2) (f_X7_accept a1 a2 M).2 ((f_X7_accept a1 a2 M).1 = (f_X6_accept a1 a2 (S 0)).1) := by
  obtain ⟨n, m, d, L, ne, n1, m1, q1, q2, q3, R, q5, q6⟩ := id h
  have h20 := R.m20
  have hn6 := R.n6
  by_cases hk : e_X6_known a1 (S 0) = none
  · obtain ⟨i, hi, hi20, rfl, hf⟩ := sm_kn R.1 hk
    by_cases hp : e_X6_requireOwn i 100 (S 0) = none
    · obtain ⟨p1, hLi, h11⟩ := sm_own R hi hp
      have hc : (nI i).toNatClampNeg = i := nI_clamp (by omega)
      have hj : j_X6_accept_37 a2 = a2 := by rcases h2 with rfl | rfl <;> rfl
      have hI := R.2.2.2.2.2.2.2.2.2.1 i hi
      have hF := R.2.2.2.2.2.2.2.2.2.2 i hi
      have h52 := hI.2.2.2.1 hLi h11
      have r22 : up2 M 0 0 0 22 i = M 22 i := up2_cc (by decide)
      rcases hF.2.2.2.1 with ⟨z4, z22⟩ | ⟨z4, z22⟩
      · have hap : f_X6_happen 17 (nI i) a2 (S 0) = (M 16 i, up2 (up2 (S 0) (50 + i) 4 1) (50 + i) 5 a2) := by
          rw [sm_hapC R hi (by decide) (by decide) (by decide) (by decide) (by decide)]
          unfold f_X0_applyToCase
          rw [if_neg (by decide), if_neg (by decide), if_neg (by decide), if_neg (by decide), if_neg (by decide), if_neg (by decide), if_neg (by decide), if_neg (by decide), if_pos rfl]
          rcases h2 with rfl | rfl
          · rw [if_neg (by decide)]
            refine Prod.ext ?_ rfl
            show up2 (up2 (S 0) (50 + i) 4 1) (50 + i) 5 0 (50 + i) 2 = M 16 i
            simp (disch := omega) only [up2_kk]; exact h52
          · rw [if_pos rfl]
            refine Prod.ext ?_ rfl
            show up2 (up2 (S 0) (50 + i) 4 1) (50 + i) 5 1 (50 + i) 2 = M 16 i
            simp (disch := omega) only [up2_kk]; exact h52
        have E6 : f_X6_accept (nI i) a2 (S 0) = (M 16 i, up2 (up2 (S 0) (50 + i) 4 1) (50 + i) 5 a2) := by
          unfold f_X6_accept; rw [if_pos hk, hf, if_pos hp, if_pos z4, hj, hap]
        have E7 : f_X7_accept (nI i) a2 M = (M 16 i, up2 (up2 M 0 0 0) 22 i a2) := by
          unfold f_X7_accept; rw [sm_i0 p1, p1, hc, if_pos (r22.trans z22), up2_up2]
          have r16 : up2 M 0 0 0 16 i = M 16 i := up2_cc (by decide)
          rcases h2 with rfl | rfl
          · rw [if_pos rfl]; exact Prod.ext r16 rfl
          · rw [if_neg (by decide)]; exact Prod.ext r16 rfl
        have Ee : e_X6_accept (nI i) a2 (S 0) = none := by
          unfold e_X6_accept; rw [if_pos hk, hf, if_pos hp, if_pos z4]
        have hMN := cn_X7_accept (a1 := nI i) (a2 := a2) q3
        rw [E7] at hMN
        rw [E7, E6, Ee]
        refine sm_S.ok rfl ?_ rfl (sm_V.ev q2 q1 R q5 q6 ht 17 (nI i) (j_X6_accept_37 a2) 0 0 (d' := d) (L' := L) ?_ hMN ?_)
        · show (up2 (up2 M 0 0 0) 22 i a2 : BT) 0 0 = 0
          simp (disch := omega) only [up2_cc, up2_kk, up2_same]
        · rw [hj]; exact (congrArg Prod.snd hap).symm
        · exact sm_Racc (R.thr (v := 0)) hi hLi (by rw [up2_cc (by decide)]; exact h11) h2
      · have z5 : ¬ S 0 (50 + i) 4 = 0 := by rw [z4]; decide
        have z9 : ¬ M 22 i = -1 := by rw [z22]; rcases hF.2.2.1 with w | w <;> rw [w] <;> decide
        refine sm_S.x h (v := 2) (show _ = some "java/lang/UnsupportedOperationException" from ?_) ?_ (by decide +kernel)
        · unfold e_X6_accept; rw [if_pos hk, hf, if_pos hp, if_neg z5]
        · unfold f_X7_accept; rw [sm_i0 p1, p1, hc, if_neg (fun w => z9 (r22.symm.trans w)), up2_up2]
    · obtain ⟨e1, e2⟩ := sm_ownN R hi hp
      refine sm_S.x h (v := 2) (show _ = some "java/lang/UnsupportedOperationException" from ?_) ?_ (by decide +kernel)
      · unfold e_X6_accept; rw [if_pos hk, hf, if_neg hp, e1]
      · unfold f_X7_accept; rw [sm_i1 e2, e2]
  · obtain ⟨e1, -, e2⟩ := sm_nk R.1 hk
    have e3 : f_X7_isNot a1 100 M = (1, up2 M 0 0 1) := by unfold f_X7_isNot; rw [sm_i1 e2, e2]
    refine sm_S.x h (v := 1) (show _ = some "java/lang/IndexOutOfBoundsException" from ?_) ?_ (by decide +kernel)
    · unfold e_X6_accept; rw [if_neg hk, e1]
    · unfold f_X7_accept; rw [sm_i1 e3, e3]
theorem sm_heed (h : sm_V S M t) (ht : t < 512) (a1 : Int32) : sm_S S t (e_X6_heed a1 (S 0)) ["java/lang/IndexOutOfBoundsException", "java/lang/UnsupportedOperationException"] (va_up (f_X2_keep 18 a1 0 0 0 S) 0 (f_X6_heed a1 (S 0)).2) (f_X7_heed a1 M).2 ((f_X7_heed a1 M).1 = (f_X6_heed a1 (S 0)).1) := by
  obtain ⟨n, m, d, L, ne, n1, m1, q1, q2, q3, R, q5, q6⟩ := id h
  have h20 := R.m20
  have hn6 := R.n6
  by_cases hk : e_X6_known a1 (S 0) = none
  · obtain ⟨i, hi, hi20, rfl, hf⟩ := sm_kn R.1 hk
    by_cases hp : e_X6_requireOwn i 100 (S 0) = none
    · obtain ⟨p1, hLi, h11⟩ := sm_own R hi hp
      have hc : (nI i).toNatClampNeg = i := nI_clamp (by omega)
      obtain ⟨⟨⟨o, ho, h3⟩, h6, -⟩, -⟩ := R.2.2.2.2.2.1 i hi
      obtain ⟨o0, o1, o2, o3, -⟩ := R.2.2.1 o ho
      have m6 : M 6 i = nI o := h6.symm.trans h3
      have ho2 : (nI o).toNatClampNeg = o := nI_clamp (by omega)
      have hI := R.2.2.2.2.2.2.2.2.2.1 i hi
      have hF := R.2.2.2.2.2.2.2.2.2.2 i hi
      have h52 := hI.2.2.2.1 hLi h11
      have hb5 := R.1.1.2.2
      have hm1 := R.1.2.1.2.2
      have r01 : up2 M 0 0 0 0 1 = M 0 1 := up2_kk (by decide)
      have r16 : up2 M 0 0 0 16 i = M 16 i := up2_cc (by decide)
      by_cases hq : S 0 0 5 ≤ S 0 (50 + i) 2
      · have hq7 : up2 M 0 0 0 0 1 ≤ up2 M 0 0 0 16 i := by rw [r01, r16, hm1, ← hb5, ← h52]; exact hq
        have hcn := sm_cntF R hi hLi
        have hap : f_X6_happen 18 (nI i) 0 (S 0) = (M 16 i - nI d, sm_all i 104 (up2 (S 0) (4 + o) 3 (M 4 o + (1 + f_X0_followersOf i (S 0)))) m) := by
          rw [sm_hapC R hi (by decide) (by decide) (by decide) (by decide) (by decide)]
          unfold f_X0_applyToCase
          rw [if_neg (by decide), if_neg (by decide), if_neg (by decide), if_neg (by decide), if_neg (by decide), if_neg (by decide), if_neg (by decide), if_neg (by decide), if_neg (by decide), if_pos rfl, sm_moveAllF i 104 R.1.1.2.1 h20, sm_off R h3 ho, o3, hcn]
          dsimp only
          rw [sm_all_up _ _ _ _ _ _ _ (by omega) (by omega)]
          simp (disch := omega) only [sm_all_o, up2_cc]
          rw [h52, hb5]
        have E6 : f_X6_heed (nI i) (S 0) = (M 16 i - nI d, sm_all i 104 (up2 (S 0) (4 + o) 3 (M 4 o + (1 + f_X0_followersOf i (S 0)))) m) := by
          unfold f_X6_heed; rw [if_pos hk, hf, if_pos hp, if_pos hq, hap]
        have E7 : f_X7_heed (nI i) M = (M 16 i - nI d, up2 (up2 (up2 (up2 M 0 0 0) 4 o (M 4 o + (1 + f_X0_followersOf i (S 0)))) 11 i 104) 24 i (up2 (up2 M 0 0 0) 4 o (M 4 o + (1 + f_X0_followersOf i (S 0))) 0 1)) := by
          unfold f_X7_heed f_X7_closes; rw [sm_i0 p1, p1, hc, if_pos hq7, up2_up2, sm_jtF (R.thr (v := 0)) hi20]
          dsimp only
          rw [up2_cc (show 6 ≠ 0 by decide), m6, ho2, up2_cc (show 4 ≠ 0 by decide)]
          simp (disch := omega) only [up2_cc, up2_kk]
          rw [hm1]
        have Ee : e_X6_heed (nI i) (S 0) = none := by
          unfold e_X6_heed; rw [if_pos hk, hf, if_pos hp, if_pos hq]
        have hMN := cn_X7_heed (a1 := nI i) q3
        rw [E7] at hMN
        rw [E7, E6, Ee]
        refine sm_S.ok rfl ?_ rfl (sm_V.ev q2 q1 R q5 q6 ht 18 (nI i) 0 0 0 (d' := d) (L' := L) ?_ hMN ?_)
        · show (up2 (up2 (up2 (up2 M 0 0 0) 4 o (M 4 o + (1 + f_X0_followersOf i (S 0)))) 11 i 104) 24 i (up2 (up2 M 0 0 0) 4 o (M 4 o + (1 + f_X0_followersOf i (S 0))) 0 1) : BT) 0 0 = 0
          simp (disch := omega) only [up2_cc, up2_kk, up2_same]
        · exact (congrArg Prod.snd hap).symm
        · exact sm_Rclose (sm_R_told (R.thr (v := 0)) (by omega) ho (Or.inr ⟨rfl, rfl⟩)) hi hLi (by simp (disch := omega) only [up2_cc]; rw [h11]; decide) (Or.inl rfl) (Or.inr (by simp (disch := omega) only [up2_cc]; exact h11))
      · have hq7 : ¬ up2 M 0 0 0 0 1 ≤ up2 M 0 0 0 16 i := by rw [r01, r16, hm1, ← hb5, ← h52]; exact hq
        refine sm_S.x h (v := 2) (show _ = some "java/lang/UnsupportedOperationException" from ?_) ?_ (by decide +kernel)
        · unfold e_X6_heed; rw [if_pos hk, hf, if_pos hp, if_neg hq]
        · unfold f_X7_heed; rw [sm_i0 p1, p1, hc, if_neg hq7, up2_up2]
    · obtain ⟨e1, e2⟩ := sm_ownN R hi hp
      refine sm_S.x h (v := 2) (show _ = some "java/lang/UnsupportedOperationException" from ?_) ?_ (by decide +kernel)
      · unfold e_X6_heed; rw [if_pos hk, hf, if_neg hp, e1]
      · unfold f_X7_heed; rw [sm_i1 e2, e2]
  · obtain ⟨e1, -, e2⟩ := sm_nk R.1 hk
    have e3 : f_X7_isNot a1 100 M = (1, up2 M 0 0 1) := by unfold f_X7_isNot; rw [sm_i1 e2, e2]
    refine sm_S.x h (v := 1) (show _ = some "java/lang/IndexOutOfBoundsException" from ?_) ?_ (by decide +kernel)
    · unfold e_X6_heed; rw [if_neg hk, e1]
    · unfold f_X7_heed; rw [sm_i1 e3, e3]
theorem sm_followUp (h : sm_V S M t) (ht : t < 512) (a1 : Int32) : sm_S S t (e_X6_followUp a1 (S 0)) ["java/lang/IndexOutOfBoundsException", "java/lang/UnsupportedOperationException"] (va_up (f_X2_keep 19 a1 0 0 0 S) 0 (f_X6_followUp a1 (S 0)).2) (f_X7_followUp a1 M).2 ((f_X7_followUp a1 M).1 = (f_X6_followUp a1 (S 0)).1) := by
  obtain ⟨n, m, d, L, ne, n1, m1, q1, q2, q3, R, q5, q6⟩ := id h
  have h20 := R.m20
  have hn6 := R.n6
  by_cases hk : e_X6_known a1 (S 0) = none
  · obtain ⟨i, hi, hi20, rfl, hf⟩ := sm_kn R.1 hk
    by_cases hp : e_X6_requireOwn i 100 (S 0) = none
    · obtain ⟨p1, hLi, h11⟩ := sm_own R hi hp
      have hc : (nI i).toNatClampNeg = i := nI_clamp (by omega)
      obtain ⟨⟨⟨o, ho, h3⟩, h6, -⟩, -⟩ := R.2.2.2.2.2.1 i hi
      obtain ⟨o0, o1, o2, o3, -⟩ := R.2.2.1 o ho
      have m6 : M 6 i = nI o := h6.symm.trans h3
      have ho2 : (nI o).toNatClampNeg = o := nI_clamp (by omega)
      have hI := R.2.2.2.2.2.2.2.2.2.1 i hi
      have hF := R.2.2.2.2.2.2.2.2.2.2 i hi
      have h52 := hI.2.2.2.1 hLi h11
      have hb5 := R.1.1.2.2
      have hm1 := R.1.2.1.2.2
      have r01 : up2 M 0 0 0 0 1 = M 0 1 := up2_kk (by decide)
      have r16 : up2 M 0 0 0 16 i = M 16 i := up2_cc (by decide)
      by_cases hq : S 0 (50 + i) 2 < S 0 0 5
      · have hq7 : ¬ up2 M 0 0 0 0 1 ≤ up2 M 0 0 0 16 i := by
          rw [r01, r16, hm1, ← hb5, ← h52]
          intro z; rw [fa_le] at z; rw [fa_lt] at hq; omega
        have r23 : up2 M 0 0 0 23 i = M 23 i := up2_cc (by decide)
        have r21 : up2 M 0 0 0 21 i = M 21 i := up2_cc (by decide)
        rcases hF.1.2.2.2 with z | z
        · have z3 : S 0 (50 + i) 3 = 0 := by rw [hF.1.2.2.1]; exact z
          have z7 : ¬ up2 M 0 0 0 23 i = 1 := by rw [r23, z]; decide
          obtain ⟨r, hr, hr1⟩ := hF.2.1
          have b51 : S 0 (50 + i) 1 = nI r := hF.1.2.1.trans hr1
          obtain ⟨r9, hr9, hc6, hc7⟩ : ∃ r9, r9 ≤ 4 ∧ (if (4 : Int32) < nI r + 1 then 4 else nI r + 1) = nI r9 ∧ ((r = 4 ∧ r9 = 4) ∨ (r ≠ 4 ∧ r9 = r + 1)) := by
            by_cases w : r = 4
            · exact ⟨4, by omega, by rw [w]; decide, Or.inl ⟨w, rfl⟩⟩
            · refine ⟨r + 1, by omega, ?_, Or.inr ⟨w, rfl⟩⟩
              rw [nI_1, if_neg]
              rw [show (4 : Int32) = nI 4 from rfl, nI_ltI (by omega) (by omega)]; omega
          have hap : f_X6_happen 19 (nI i) 0 (S 0) = (nI r9, f_X3_recommend i (nI r9) (nI d) (up2 (S 0) (50 + i) 3 1)) := by
            rw [sm_hapC R hi (by decide) (by decide) (by decide) (by decide) (by decide)]
            unfold f_X0_applyToCase f_X0_insist
            rw [if_neg (by decide), if_neg (by decide), if_neg (by decide), if_neg (by decide), if_neg (by decide), if_neg (by decide), if_neg (by decide), if_neg (by decide), if_neg (by decide), if_neg (by decide), if_pos rfl, if_pos z3]
            have u1 : up2 (S 0) (50 + i) 3 1 (50 + i) 1 = nI r := by rw [up2_kk (by decide)]; exact b51
            have u5 : up2 (S 0) (50 + i) 3 1 0 5 = nI d := by rw [up2_cc (by omega)]; exact hb5
            rw [u1, u5, hc6]
            refine Prod.ext ?_ rfl
            show f_X3_recommend i (nI r9) (nI d) (up2 (S 0) (50 + i) 3 1) (50 + i) 1 = nI r9
            simp (disch := omega) only [f_X3_recommend, up2_kk, up2_same]
          have E6 : f_X6_followUp (nI i) (S 0) = (nI r9, f_X3_recommend i (nI r9) (nI d) (up2 (S 0) (50 + i) 3 1)) := by
            unfold f_X6_followUp; rw [if_pos hk, hf, if_pos hp, if_pos hq, hap]
          have E7 : f_X7_followUp (nI i) M = (nI r9, up2 (up2 (up2 (up2 (up2 M 0 0 0) 23 i 1) 21 i (nI r9)) 16 i (nI d + 30 * nI r9)) 22 i (-1)) := by
            unfold f_X7_followUp; rw [sm_i0 p1, p1, hc, if_neg hq7, if_neg z7, up2_up2]
            rcases hc7 with ⟨w1, w2⟩ | ⟨w1, w2⟩
            · rw [if_pos (show up2 M 0 0 0 21 i = 4 by rw [r21, hr1, w1]; rfl), w2]
              dsimp only
              rw [r01, hm1, up2_same]; rfl
            · rw [if_neg (show ¬ up2 M 0 0 0 21 i = 4 by rw [r21, hr1, show (4 : Int32) = nI 4 from rfl, nI_eq (by omega) (by omega)]; exact w1), w2]
              dsimp only
              rw [r01, hm1, up2_same, r21, hr1, nI_1]
          have Ee : e_X6_followUp (nI i) (S 0) = none := by
            unfold e_X6_followUp; rw [if_pos hk, hf, if_pos hp, if_pos hq]
          have hMN := cn_X7_followUp (a1 := nI i) q3
          rw [E7] at hMN
          rw [E7, E6, Ee]
          refine sm_S.ok rfl ?_ rfl (sm_V.ev q2 q1 R q5 q6 ht 19 (nI i) 0 0 0 (d' := d) (L' := L) ?_ hMN ?_)
          · show (up2 (up2 (up2 (up2 (up2 M 0 0 0) 23 i 1) 21 i (nI r9)) 16 i (nI d + 30 * nI r9)) 22 i (-1) : BT) 0 0 = 0
            simp (disch := omega) only [up2_cc, up2_kk, up2_same]
          · exact (congrArg Prod.snd hap).symm
          · exact sm_Rfoll (R.thr (v := 0)) hi hLi (by rw [up2_cc (by decide)]; exact h11) hr9
        · have z3 : ¬ S 0 (50 + i) 3 = 0 := by rw [hF.1.2.2.1, z]; decide
          have z7 : up2 M 0 0 0 23 i = 1 := by rw [r23, z]
          have hap : f_X6_happen 19 (nI i) 0 (S 0) = (0, sm_all i 105 (S 0) m) := by
            rw [sm_hapC R hi (by decide) (by decide) (by decide) (by decide) (by decide)]
            unfold f_X0_applyToCase f_X0_insist
            rw [if_neg (by decide), if_neg (by decide), if_neg (by decide), if_neg (by decide), if_neg (by decide), if_neg (by decide), if_neg (by decide), if_neg (by decide), if_neg (by decide), if_neg (by decide), if_pos rfl, if_neg z3, sm_moveAllF i 105 R.1.1.2.1 h20]
          have E6 : f_X6_followUp (nI i) (S 0) = (0, sm_all i 105 (S 0) m) := by
            unfold f_X6_followUp; rw [if_pos hk, hf, if_pos hp, if_pos hq, hap]
          have E7 : f_X7_followUp (nI i) M = (0, up2 (up2 (up2 M 0 0 0) 11 i 105) 24 i (up2 M 0 0 0 0 1)) := by
            unfold f_X7_followUp f_X7_closes; rw [sm_i0 p1, p1, hc, if_neg hq7, if_pos z7, up2_up2]
          have Ee : e_X6_followUp (nI i) (S 0) = none := by
            unfold e_X6_followUp; rw [if_pos hk, hf, if_pos hp, if_pos hq]
          have hMN := cn_X7_followUp (a1 := nI i) q3
          rw [E7] at hMN
          rw [E7, E6, Ee]
          refine sm_S.ok rfl ?_ rfl (sm_V.ev q2 q1 R q5 q6 ht 19 (nI i) 0 0 0 (d' := d) (L' := L) ?_ hMN ?_)
          · show (up2 (up2 (up2 M 0 0 0) 11 i 105) 24 i (up2 M 0 0 0 0 1) : BT) 0 0 = 0
            simp (disch := omega) only [up2_cc, up2_kk, up2_same]
          · exact (congrArg Prod.snd hap).symm
          · exact sm_Rclose (R.thr (v := 0)) hi hLi (by rw [up2_cc (by decide), h11]; decide) (Or.inr (Or.inl rfl)) (Or.inr (by rw [up2_cc (by decide)]; exact h11))
      · have hq7 : up2 M 0 0 0 0 1 ≤ up2 M 0 0 0 16 i := by
          rw [r01, r16, hm1, ← hb5, ← h52]
          rw [fa_lt] at hq; rw [fa_le]; omega
        refine sm_S.x h (v := 2) (show _ = some "java/lang/UnsupportedOperationException" from ?_) ?_ (by decide +kernel)
        · unfold e_X6_followUp; rw [if_pos hk, hf, if_pos hp, if_neg hq]
        · unfold f_X7_followUp; rw [sm_i0 p1, p1, hc, if_pos hq7, up2_up2]
    · obtain ⟨e1, e2⟩ := sm_ownN R hi hp
      refine sm_S.x h (v := 2) (show _ = some "java/lang/UnsupportedOperationException" from ?_) ?_ (by decide +kernel)
      · unfold e_X6_followUp; rw [if_pos hk, hf, if_neg hp, e1]
      · unfold f_X7_followUp; rw [sm_i1 e2, e2]
  · obtain ⟨e1, -, e2⟩ := sm_nk R.1 hk
    have e3 : f_X7_isNot a1 100 M = (1, up2 M 0 0 1) := by unfold f_X7_isNot; rw [sm_i1 e2, e2]
    refine sm_S.x h (v := 1) (show _ = some "java/lang/IndexOutOfBoundsException" from ?_) ?_ (by decide +kernel)
    · unfold e_X6_followUp; rw [if_neg hk, e1]
    · unfold f_X7_followUp; rw [sm_i1 e3, e3]
theorem sm_hd : ∀ k, k < 32 → nI k ≠ -1 ∧ nI k ||| 1 ≠ -1 := by decide +kernel
theorem sm_rem (x : Int32) : ∃ r, r ≤ 4 ∧ f_X6_remedyFor x = nI r ∧ (if 3 < x then (if 9 < x then (if 15 < x then 4 else 3) else 2) else 1 : Int32) = nI r := by
  unfold f_X6_remedyFor
  by_cases h1 : 3 < x
  · rw [if_pos h1]
    by_cases h2 : 9 < x
    · rw [if_pos h2]
      by_cases h3 : 15 < x
      · rw [if_pos h3]; exact ⟨4, by omega, rfl, rfl⟩
      · rw [if_neg h3]; exact ⟨3, by omega, rfl, rfl⟩
    · rw [if_neg h2]; exact ⟨2, by omega, rfl, rfl⟩
  · rw [if_neg h1]; exact ⟨1, by omega, rfl, rfl⟩
theorem sm_wts {B M : BT} (hW : sm_W B M) (a x : Int32) (f : Nat → Int32) (h0 : f 0 = x) (hs : ∀ k, k < 5 → f (k + 1) = (if (a >>> (nI k &&& 31)) &&& 1 = 1 then f k + M 5 k else f k + 0)) : ∀ k, k ≤ 5 → f k = L_weightOf a B k + x := by
  intro k
  induction k with
  | zero => intro _; rw [h0]; show x = 0 + x; rw [Int32.zero_add]
  | succ k ih =>
    intro hk
    rw [hs k (by omega), ih (by omega)]
    show _ = b_weightOf a B k (L_weightOf a B k) + x
    unfold b_weightOf
    rw [hW k (by omega)]
    by_cases z : (a >>> (nI k &&& 31)) &&& 1 = 1
    · rw [if_pos z, if_pos z, Int32.add_assoc, Int32.add_assoc, Int32.add_comm x]
    · rw [if_neg z, if_neg z, Int32.add_zero]

theorem sm_find (h : sm_V S M t) (ht : t < 512) (a1 a2 : Int32) : sm_S S t (e_X6_find a1 a2 (S 0)) ["java/lang/IndexOutOfBoundsException", "java/lang/IllegalArgumentException", "java/lang/UnsupportedOperationException"] (va_up (f_X2_keep 16 a1 a2 0 0 S) 0 (f_X6_find a1 a2 (S 0)).2) (f_X7_find a1 a2 M).2 ((f_X7_find a1 a2 M).1 = (f_X6_find a1 a2 (S 0)).1) := by
  obtain ⟨n, m, d, L, ne, n1, m1, q1, q2, q3, R, q5, q6⟩ := id h
  have h20 := R.m20
  have hn6 := R.n6
  by_cases hk : e_X6_known a1 (S 0) = none
  · obtain ⟨i, hi, hi20, rfl, hf⟩ := sm_kn R.1 hk
    have hc : (nI i).toNatClampNeg = i := nI_clamp (by omega)
    have R0 := R.thr (v := 0)
    have s11 := sm_s11 R hi
    have r11 : up2 M 0 0 0 11 i = M 11 i := up2_cc (by decide)
    by_cases hr : e_X6_requireRange a2 0 31 = none
    · have r1 : ¬ f_X7_in a2 0 31 = 0 := by rw [(sm_rg hr).1]; decide
      obtain ⟨ka, -, hka, rfl⟩ := sm_rgn (lo := 0) (hi := 31) hr (by omega)
      by_cases hp : e_X6_requireOwn i 115 (S 0) = none
      · obtain ⟨-, hLi, h11⟩ := sm_own R hi hp
        obtain ⟨⟨⟨o, ho, h3⟩, h6, -⟩, -⟩ := R.2.2.2.2.2.1 i hi
        obtain ⟨o0, o1, o2, o3, -⟩ := R.2.2.1 o ho
        have m6 : M 6 i = nI o := h6.symm.trans h3
        have ho2 : (nI o).toNatClampNeg = o := nI_clamp (by omega)
        have hI := R.2.2.2.2.2.2.2.2.2.1 i hi
        have hb5 := R.1.1.2.2
        have hm1 := R.1.2.1.2.2
        have r01 : up2 M 0 0 0 0 1 = M 0 1 := up2_kk (by decide)
        have j7 : f_X7_isJoined (nI i) (up2 M 0 0 0) = 0 := by rw [sm_jnd7 R0 hi, if_pos hLi]
        have s7 : up2 M 0 0 0 11 i = 115 := r11.trans h11
        have h19 := hI.1.2.2
        have hj6 : j_X0_conclude_0 i (nI ka) (S 0) = j_X7_find_61 (nI i) (nI ka) M := by
          unfold j_X0_conclude_0 j_X7_find_61
          rw [sm_nc R.1 hi, hc, h19]
          show (if M 19 i = 0 then nI ka else nI ka ||| 1) = (if up2 M 0 0 0 19 i = 0 then nI ka else nI ka ||| 1)
          rw [up2_cc (show 19 ≠ 0 by decide)]
        obtain ⟨hd, hdj, hdn⟩ : ∃ hd, j_X7_find_61 (nI i) (nI ka) M = hd ∧ hd ≠ -1 := by
          refine ⟨_, rfl, ?_⟩
          obtain ⟨y1, y2⟩ := sm_hd ka (by omega)
          unfold j_X7_find_61
          split
          · exact y1
          · exact y2
        rw [hdj] at hj6
        have ht1 : t_conclude1 i (nI ka) (S 0) = f_X3_begin i hd (S 0) := by unfold t_conclude1; rw [hj6]
        have hm4 : f_X3_begin i hd (S 0) 0 4 = nI m := by simp (disch := omega) only [f_X3_begin, up2_cc]; exact R.1.1.2.1
        by_cases hz : hd = 0
        · subst hz
          have hap : f_X6_happen 16 (nI i) (nI ka) (S 0) = (0, sm_all i 117 (f_X3_begin i 0 (S 0)) m) := by
            rw [sm_hapC R hi (by decide) (by decide) (by decide) (by decide) (by decide)]
            unfold f_X0_applyToCase f_X0_conclude
            rw [if_neg (by decide), if_neg (by decide), if_neg (by decide), if_neg (by decide), if_neg (by decide), if_neg (by decide), if_neg (by decide), if_pos rfl, hj6, if_pos rfl, ht1, sm_moveAllF i 117 hm4 h20]
          have E6 : f_X6_find (nI i) (nI ka) (S 0) = (0, sm_all i 117 (f_X3_begin i 0 (S 0)) m) := by
            unfold f_X6_find; rw [if_pos hk, hf, if_pos hr, if_pos hp, hap]
          have E7 : f_X7_find (nI i) (nI ka) M = (0, up2 (up2 (up2 (up2 M 0 0 0) 20 i 0) 11 i 117) 24 i (up2 M 0 0 0 0 1)) := by
            unfold f_X7_find f_X7_closes; rw [sm_i0 (sm_nc R.1 hi), sm_nc R.1 hi, if_neg r1, if_pos j7, hc, if_pos s7, hdj, if_pos rfl, up2_up2, up2_cc (show 0 ≠ 20 by decide)]
          have Ee : e_X6_find (nI i) (nI ka) (S 0) = none := by
            unfold e_X6_find; rw [if_pos hk, hf, if_pos hr, if_pos hp]
          have hMN := cn_X7_find (a1 := nI i) (a2 := nI ka) q3
          rw [E7] at hMN
          rw [E7, E6, Ee]
          refine sm_S.ok rfl ?_ rfl (sm_V.ev q2 q1 R q5 q6 ht 16 (nI i) (nI ka) 0 0 (d' := d) (L' := L) ?_ hMN ?_)
          · show (up2 (up2 (up2 (up2 M 0 0 0) 20 i 0) 11 i 117) 24 i (up2 M 0 0 0 0 1) : BT) 0 0 = 0
            simp (disch := omega) only [up2_cc, up2_kk, up2_same]
          · exact (congrArg Prod.snd hap).symm
          · exact sm_Rfind0 R0 hi hLi s7
        · have hfo : f_X0_followersOf i (f_X3_begin i hd (S 0)) = f_X0_followersOf i (S 0) := sm_fol_e i (by simp (disch := omega) only [f_X3_begin, up2_cc]) (fun j hj => by
            simp (disch := omega) only [f_X3_begin, up2_cc]) (by rw [R.1.1.2.1, nI_clamp (by omega)]; omega)
          have hwo : f_X0_weightOf hd (f_X3_begin i hd (S 0)) = f_X0_weightOf hd (S 0) := sm_wt_e hd (fun k hk => by simp (disch := omega) only [f_X3_begin, up2_cc])
          have jt7 : f_X7_joinedTo (nI i) (up2 (up2 M 0 0 0) 20 i hd) = f_X0_followersOf i (S 0) := by
            rw [← sm_jtF R0 hi20]
            exact sm_jt_e (nI i) (up2_cc (by decide)) (fun j _ => up2_cc (by decide)) (R0.1.2.1.2.1) h20
          have hvv : v_conclude i (nI ka) (S 0) = f_X0_weightOf hd (S 0) + (if 5 < f_X0_followersOf i (S 0) then 5 else f_X0_followersOf i (S 0)) := by
            unfold v_conclude; rw [hj6, ht1, hwo, hfo]
          have j105 : j_X7_find_105 (nI i) (nI ka) M = (if 5 < f_X0_followersOf i (S 0) then 5 else f_X0_followersOf i (S 0)) := by
            unfold j_X7_find_105
            rw [sm_nc R.1 hi, hdj, hc, up2_up2, jt7]
            by_cases w : 5 < f_X0_followersOf i (S 0)
            · rw [if_pos w, if_pos (by rw [fa_lt] at w; rw [fa_le]; omega)]
            · rw [if_neg w]
              by_cases w2 : 5 ≤ f_X0_followersOf i (S 0)
              · rw [if_pos w2]
                apply Int32.toInt_inj.mp
                rw [fa_lt] at w; rw [fa_le] at w2; omega
              · rw [if_neg w2]
          have hL7 : L_find7 (nI i) (nI ka) M 5 = v_conclude i (nI ka) (S 0) := by
            rw [hvv]
            exact sm_wts R.2.1 hd _ (L_find7 (nI i) (nI ka) M) (show j_X7_find_105 (nI i) (nI ka) M = _ from j105) (fun k hk => by
              show b_find7 (nI i) (nI ka) M k (L_find7 (nI i) (nI ka) M k) = _
              unfold b_find7
              rw [hdj, sm_nc R.1 hi]
              show (if (hd >>> (nI k &&& 31)) &&& 1 = 1 then L_find7 (nI i) (nI ka) M k + up2 M 0 0 0 5 k else L_find7 (nI i) (nI ka) M k + 0) = _
              rw [up2_cc (show 5 ≠ 0 by decide)]) 5 (Nat.le_refl _)
          obtain ⟨r9, hr9, hr6, hr7⟩ := sm_rem (v_conclude i (nI ka) (S 0))
          have j173 : j_X7_find_173 (nI i) (nI ka) M = nI r9 := by
            unfold j_X7_find_173; rw [hL7]; exact hr7
          have ht2 : t_conclude2 i (nI ka) (S 0) = f_X3_recommend i (nI r9) (nI d) (f_X3_begin i hd (S 0)) := by
            unfold t_conclude2; rw [hr6, ht1]
            congr 1
            simp (disch := omega) only [f_X3_begin, up2_cc]; exact hb5
          have hm5 : f_X3_recommend i (nI r9) (nI d) (f_X3_begin i hd (S 0)) 0 4 = nI m := by simp (disch := omega) only [f_X3_recommend, f_X3_begin, up2_cc]; exact R.1.1.2.1
          have hoo : f_X0_officeOf i (f_X3_recommend i (nI r9) (nI d) (f_X3_begin i hd (S 0))) = o := by
            rw [← sm_off R h3 ho]
            unfold f_X0_officeOf
            simp (disch := omega) only [f_X3_recommend, f_X3_begin, up2_cc]
          have hcn : sm_cnt i (f_X3_recommend i (nI r9) (nI d) (f_X3_begin i hd (S 0))) m = 1 + f_X0_followersOf i (S 0) := by
            rw [← sm_cntF R hi hLi]
            exact (sm_cnt_e i (fun j hj => by simp (disch := omega) only [f_X3_recommend, f_X3_begin, up2_cc])).symm
          have h42 : f_X3_recommend i (nI r9) (nI d) (f_X3_begin i hd (S 0)) (4 + o) 2 = M 3 o := by
            simp (disch := omega) only [f_X3_recommend, f_X3_begin, up2_cc]; exact o2
          have hap : f_X6_happen 16 (nI i) (nI ka) (S 0) = (nI r9, up2 (sm_all i 100 (f_X3_recommend i (nI r9) (nI d) (f_X3_begin i hd (S 0))) m) (4 + o) 2 (M 3 o + (1 + f_X0_followersOf i (S 0)))) := by
            rw [sm_hapC R hi (by decide) (by decide) (by decide) (by decide) (by decide)]
            unfold f_X0_applyToCase f_X0_conclude
            rw [if_neg (by decide), if_neg (by decide), if_neg (by decide), if_neg (by decide), if_neg (by decide), if_neg (by decide), if_neg (by decide), if_pos rfl, hj6, if_neg hz, ht2, sm_moveAllF i 100 hm5 h20, hoo, hcn, h42]
            refine Prod.ext ?_ rfl
            show up2 (sm_all i 100 (f_X3_recommend i (nI r9) (nI d) (f_X3_begin i hd (S 0))) m) (4 + o) 2 (M 3 o + (1 + f_X0_followersOf i (S 0))) (50 + i) 1 = nI r9
            simp (disch := omega) only [up2_cc, sm_all_o, f_X3_recommend, up2_kk, up2_same]
          have E6 : f_X6_find (nI i) (nI ka) (S 0) = (nI r9, up2 (sm_all i 100 (f_X3_recommend i (nI r9) (nI d) (f_X3_begin i hd (S 0))) m) (4 + o) 2 (M 3 o + (1 + f_X0_followersOf i (S 0)))) := by
            unfold f_X6_find; rw [if_pos hk, hf, if_pos hr, if_pos hp, hap]
          have E7 : f_X7_find (nI i) (nI ka) M = (nI r9, up2 (up2 (up2 (up2 (up2 (up2 M 0 0 0) 20 i hd) 11 i 100) 21 i (nI r9)) 16 i (nI d + 30 * nI r9)) 3 o (M 3 o + (1 + f_X0_followersOf i (S 0)))) := by
            unfold f_X7_find; rw [sm_i0 (sm_nc R.1 hi), sm_nc R.1 hi, if_neg r1, if_pos j7, hc, if_pos s7, hdj, if_neg hz, up2_up2, j173, up2_same, jt7]
            dsimp only
            rw [up2_cc (show 6 ≠ 0 by decide), m6, ho2, up2_cc (show 3 ≠ 0 by decide), r01, hm1]
          have Ee : e_X6_find (nI i) (nI ka) (S 0) = none := by
            unfold e_X6_find; rw [if_pos hk, hf, if_pos hr, if_pos hp]
          have hMN := cn_X7_find (a1 := nI i) (a2 := nI ka) q3
          rw [E7] at hMN
          rw [E7, E6, Ee]
          refine sm_S.ok rfl ?_ rfl (sm_V.ev q2 q1 R q5 q6 ht 16 (nI i) (nI ka) 0 0 (d' := d) (L' := L) ?_ hMN ?_)
          · show (up2 (up2 (up2 (up2 (up2 (up2 M 0 0 0) 20 i hd) 11 i 100) 21 i (nI r9)) 16 i (nI d + 30 * nI r9)) 3 o (M 3 o + (1 + f_X0_followersOf i (S 0))) : BT) 0 0 = 0
            simp (disch := omega) only [up2_cc, up2_kk, up2_same]
          · exact (congrArg Prod.snd hap).symm
          · exact sm_R_told (sm_Rfind R0 hi hLi s7 hr9 hdn) (by omega) ho (Or.inl ⟨rfl, rfl⟩)
      · obtain ⟨e1, -⟩ := sm_ownN R hi hp
        have g7 : f_X7_find (nI i) (nI ka) M = (0, up2 M 0 0 3) := by
          unfold f_X7_find; rw [sm_i0 (sm_nc R.1 hi), sm_nc R.1 hi, if_neg r1, hc, up2_up2]
          by_cases z : L i = i
          · by_cases w : M 11 i = 115
            · exact absurd (show e_X6_requireOwn i 115 (S 0) = none by unfold e_X6_requireOwn; rw [sm_jnd1 R hi, s11, z, if_pos rfl, if_pos rfl, if_pos w]) hp
            · rw [if_pos (show f_X7_isJoined (nI i) (up2 M 0 0 0) = 0 by rw [sm_jnd7 R0 hi, if_pos z]), if_neg (show ¬ up2 M 0 0 0 11 i = 115 by rw [r11]; exact w)]
              exact Prod.ext rfl (up2_up2 M 0 0 0 3)
          · rw [if_neg (show ¬ f_X7_isJoined (nI i) (up2 M 0 0 0) = 0 by rw [sm_jnd7 R0 hi, if_neg z]; decide)]
            exact Prod.ext rfl (up2_up2 M 0 0 0 3)
        refine sm_S.x h (v := 3) (show _ = some "java/lang/UnsupportedOperationException" from ?_) (by rw [g7]) (by decide +kernel)
        unfold e_X6_find; rw [if_pos hk, hf, if_pos hr, if_neg hp, e1]
    · obtain ⟨e1, e2⟩ := sm_rgN hr
      refine sm_S.x h (v := 2) (show _ = some "java/lang/IllegalArgumentException" from ?_) ?_ (by decide +kernel)
      · unfold e_X6_find; rw [if_pos hk, if_neg hr, e1]
      · unfold f_X7_find; rw [sm_i0 (sm_nc R.1 hi), sm_nc R.1 hi, e2, if_pos rfl, up2_up2]
  · obtain ⟨e1, -, e2⟩ := sm_nk R.1 hk
    refine sm_S.x h (v := 1) (show _ = some "java/lang/IndexOutOfBoundsException" from ?_) ?_ (by decide +kernel)
    · unfold e_X6_find; rw [if_neg hk, e1]
    · unfold f_X7_find; rw [sm_i1 e2, e2]
theorem sm_Rw {B M : BT} {n m d : Nat} {L : Nat → Nat} (R : sm_R B M n m d L) {p : Nat} (hp : p < 5) (v : Int32) : sm_R (up2 B 3 p v) (up2 M 5 p v) n m d L := by
  have h20 := R.m20
  obtain ⟨⟨⟨a1, a2, a3⟩, ⟨b1, b2, b3⟩, b4, b5, b6, b7, b8⟩, hW, hO, hP, hN, hT, hL, hJ, hK, hI, hF⟩ := R
  refine ⟨⟨⟨?_, ?_, ?_⟩, ⟨?_, ?_, ?_⟩, b4, b5, b6, b7, ?_⟩, ?_, ?_, ?_, ?_, ?_, ?_, ?_, ?_, ?_, ?_⟩
  · simp (disch := omega) only [up2_cc]; exact a1
  · simp (disch := omega) only [up2_cc]; exact a2
  · simp (disch := omega) only [up2_cc]; exact a3
  · simp (disch := omega) only [up2_cc]; exact b1
  · simp (disch := omega) only [up2_cc]; exact b2
  · simp (disch := omega) only [up2_cc]; exact b3
  · simp (disch := omega) only [up2_cc]; exact b8
  · intro j hj
    by_cases e : j = p
    · rw [e, up2_same, up2_same]
    · rw [up2_kk e, up2_kk e]; exact hW j hj
  · intro j hj; have h := hO j hj; simp (disch := omega) only [up2_cc]; exact h
  · intro j hj hj2; have h := hP j hj hj2; simp (disch := omega) only [up2_cc]; exact h
  · intro j hj hj2; have h := hN j hj hj2; simp (disch := omega) only [up2_cc]; exact h
  · intro j hj; have h := hT j hj; simp (disch := omega) only [up2_cc]; exact h
  · intro j hj; have h := hL j hj; simp (disch := omega) only [up2_cc]; exact h
  · intro j hj; have h := hJ j hj; simp (disch := omega) only [up2_cc]; exact h
  · intro j hj; have h := hK j hj; simp (disch := omega) only [up2_cc]; exact h
  · intro j hj; have h := hI j hj; simp (disch := omega) only [up2_cc]; exact h
  · intro j hj; have h := hF j hj; simp (disch := omega) only [up2_cc]; exact h

theorem sm_setWeight (h : sm_V S M t) (ht : t < 512) (a1 a2 : Int32) : sm_S S t (e_X6_setWeight a1 a2 (S 0)) ["java/lang/IllegalArgumentException"] (va_up (f_X2_keep 3 a1 a2 0 0 S) 0 (f_X6_setWeight a1 a2 (S 0)).2) (f_X7_setWeight a1 a2 M).2 ((f_X7_setWeight a1 a2 M).1 = (f_X6_setWeight a1 a2 (S 0)).1) := by
  obtain ⟨n, m, d, L, ne, n1, m1, q1, q2, q3, R, q5, q6⟩ := id h
  have h20 := R.m20
  have hn6 := R.n6
  by_cases hr : e_X6_requireRange a1 0 4 = none
  · have r1 : ¬ f_X7_in a1 0 4 = 0 := by rw [(sm_rg hr).1]; decide
    by_cases hr2 : e_X6_requireRange a2 1 9 = none
    · have r2 : ¬ f_X7_in a2 1 9 = 0 := by rw [(sm_rg hr2).1]; decide
      obtain ⟨p, -, hp4, rfl⟩ := sm_rgn (lo := 0) (hi := 4) hr (by omega)
      have hc : (nI p).toNatClampNeg = p := nI_clamp (by omega)
      have hap : f_X6_happen 3 (nI p) a2 (S 0) = (M 5 p, up2 (S 0) 3 p a2) := by
        unfold f_X6_happen f_X0_apply f_X0_weigh
        rw [if_neg (by decide), if_neg (by decide), if_pos rfl, if_neg (nI_pos (by omega)), if_pos (by rw [show (5 : Int32) = nI 5 from rfl, nI_ltI (by omega) (by omega)]; omega), hc, R.2.1 p (by omega)]
      have E6 : f_X6_setWeight (nI p) a2 (S 0) = (M 5 p, up2 (S 0) 3 p a2) := by
        unfold f_X6_setWeight; rw [if_pos hr, if_pos hr2, hap]
      have E7 : f_X7_setWeight (nI p) a2 M = (M 5 p, up2 (up2 M 0 0 0) 5 p a2) := by
        unfold f_X7_setWeight; rw [if_neg r1, if_neg r2, hc]
      have Ee : e_X6_setWeight (nI p) a2 (S 0) = none := by
        unfold e_X6_setWeight; rw [if_pos hr, if_pos hr2]
      have hMN := cn_X7_setWeight (a1 := nI p) (a2 := a2) q3
      rw [E7] at hMN
      rw [E7, E6, Ee]
      refine sm_S.ok rfl ?_ rfl (sm_V.ev q2 q1 R q5 q6 ht 3 (nI p) a2 0 0 (d' := d) (L' := L) ?_ hMN ?_)
      · show (up2 (up2 M 0 0 0) 5 p a2 : BT) 0 0 = 0
        simp (disch := omega) only [up2_cc, up2_kk, up2_same]
      · exact (congrArg Prod.snd hap).symm
      · exact sm_Rw (R.thr (v := 0)) (by omega) a2
    · obtain ⟨e1, e2⟩ := sm_rgN hr2
      refine sm_S.x h (v := 1) (show _ = some "java/lang/IllegalArgumentException" from ?_) ?_ (by decide +kernel)
      · unfold e_X6_setWeight; rw [if_pos hr, if_neg hr2, e1]
      · unfold f_X7_setWeight; rw [if_neg r1, if_pos e2]
  · obtain ⟨e1, e2⟩ := sm_rgN hr
    refine sm_S.x h (v := 1) (show _ = some "java/lang/IllegalArgumentException" from ?_) ?_ (by decide +kernel)
    · unfold e_X6_setWeight; rw [if_neg hr, e1]
    · unfold f_X7_setWeight; rw [if_pos e2]
end SL
