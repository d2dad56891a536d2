/-! what changes: joining, parting, withdrawing -/
theorem sm_row_all {B : BT} {i m : Nat} (a : Int32) (h12 : B (10 + i) 12 = nI i) (hi : i < m) (hno : ∀ j, j < m → j ≠ i → ¬ B (10 + j) 12 = nI i) : sm_row B (10 + i) (sm_mv a (B 0 5) (B (10 + i))) = sm_all i a B m := by
  funext c k
  unfold sm_row
  by_cases hc : c = 10 + i
  · rw [if_pos hc, hc, sm_all_C hi, if_pos h12]
  · rw [if_neg hc]
    by_cases h1 : 10 ≤ c ∧ c < 10 + m
    · obtain ⟨j, rfl⟩ : ∃ j, c = 10 + j := ⟨c - 10, by omega⟩
      rw [sm_all_C (by omega), if_neg (hno j (by omega) (by omega))]
    · rw [sm_all_o (by omega)]
/-- those that follow i freed, as far as k -/
def sm_fr (i : Nat) (B : BT) (k : Nat) : BT := fun c => if 10 ≤ c ∧ c < 10 + k ∧ c ≠ 10 + i ∧ B c 12 = nI i then sm_mv 114 (B 0 5) (upd (B c) 12 (nI (c - 10))) else B c
theorem sm_takeBack {i : Nat} {B : BT} (hi : i < 20) : ∀ k, k ≤ 20 → L_takeBack i B k = (L_followersOf i B k, sm_fr i B k) := by
  intro k
  induction k with
  | zero =>
    intro _
    show (0, B) = (0, sm_fr i B 0)
    congr 1
    funext c
    unfold sm_fr
    rw [if_neg (fun z => by omega)]
  | succ k ih =>
    intro hk
    show b_takeBack i B k (L_takeBack i B k) = (b_followersOf i B k (L_followersOf i B k), sm_fr i B (k + 1))
    rw [ih (by omega)]
    unfold b_takeBack b_followersOf
    have e1 : sm_fr i B k (10 + k) = B (10 + k) := by unfold sm_fr; rw [if_neg (fun z => by omega)]
    have e2 : sm_fr i B k 0 = B 0 := by unfold sm_fr; rw [if_neg (fun z => by omega)]
    have same : (k = i ∨ ¬ B (10 + k) 12 = nI i) → sm_fr i B k = sm_fr i B (k + 1) := by
      intro hq
      funext c
      unfold sm_fr
      by_cases hh : 10 ≤ c ∧ c < 10 + k ∧ c ≠ 10 + i ∧ B c 12 = nI i
      · rw [if_pos hh, if_pos ⟨hh.1, by omega, hh.2.2⟩]
      · rw [if_neg hh, if_neg (fun z => by
          rcases Nat.lt_or_ge c (10 + k) with q | q
          · exact hh ⟨z.1, q, z.2.2⟩
          · have : c = 10 + k := by omega
            subst this
            rcases hq with w | w
            · exact z.2.2.1 (by rw [w])
            · exact w z.2.2.2)]
    by_cases e : k = i
    · rw [if_pos (by rw [e]), if_pos (by rw [e]), same (Or.inl e)]
    · have ne : ¬ nI k = nI i := fun z => e ((nI_eq (by omega) (by omega)).mp z)
      rw [if_neg ne, if_neg ne]
      simp only [e1]
      by_cases q : B (10 + k) 12 = nI i
      · rw [if_pos q, if_pos q]
        refine Prod.ext rfl ?_
        show f_X1_moveTo k 114 (up2 (sm_fr i B k) (10 + k) 12 (nI k) 0 5) (up2 (sm_fr i B k) (10 + k) 12 (nI k)) = sm_fr i B (k + 1)
        rw [sm_moveTo, up2_at, e1, up2_cc (by omega), e2]
        funext c
        unfold sm_row
        by_cases hc : c = 10 + k
        · subst hc
          rw [if_pos rfl]
          show _ = sm_fr i B (k + 1) (10 + k)
          unfold sm_fr
          rw [if_pos ⟨by omega, by omega, by omega, q⟩, show 10 + k - 10 = k by omega]
        · rw [if_neg hc, up2_ne hc]
          unfold sm_fr
          by_cases hh : 10 ≤ c ∧ c < 10 + k ∧ c ≠ 10 + i ∧ B c 12 = nI i
          · rw [if_pos hh, if_pos ⟨hh.1, by omega, hh.2.2⟩]
          · rw [if_neg hh, if_neg (fun z => hh ⟨z.1, by omega, z.2.2⟩)]
      · rw [if_neg q, if_neg q, same (Or.inr q)]
def sm_fm (a : Int32) (M : BT) (k : Nat) : BT := fun c j => if j < k ∧ M 12 j = a ∧ c = 12 then -1 else if j < k ∧ M 12 j = a ∧ c = 11 then 114 else M c j
theorem sm_withdraw7 {a : Int32} {M : BT} (hn : f_X7_noComplaint a M = (0, up2 M 0 0 0)) : ∀ k, L_withdraw7 a M k = (L_joinedTo a M k, sm_fm a (up2 M 0 0 0) k) := by
  have r12 : ∀ j, up2 M 0 0 0 12 j = M 12 j := fun j => up2_cc (by decide)
  intro k
  induction k with
  | zero =>
    show (0, up2 (f_X7_noComplaint a M).2 0 0 0) = (0, sm_fm a (up2 M 0 0 0) 0)
    rw [hn]
    refine Prod.ext rfl ?_
    show up2 (up2 M 0 0 0) 0 0 0 = sm_fm a (up2 M 0 0 0) 0
    rw [up2_up2]
    funext c j
    unfold sm_fm
    rw [if_neg (fun z => by omega), if_neg (fun z => by omega)]
  | succ k ih =>
    show b_withdraw7 a M k (L_withdraw7 a M k) = (b_joinedTo a M k (L_joinedTo a M k), sm_fm a (up2 M 0 0 0) (k + 1))
    rw [ih]
    unfold b_withdraw7 b_joinedTo
    have e1 : sm_fm a (up2 M 0 0 0) k 12 k = M 12 k := by
      unfold sm_fm; rw [if_neg (fun z => by omega), if_neg (fun z => by omega), r12]
    show (if sm_fm a (up2 M 0 0 0) k 12 k = a then _ else _) = _
    rw [e1]
    by_cases q : M 12 k = a
    · rw [if_pos q, if_pos q]
      refine Prod.ext rfl ?_
      show up2 (up2 (sm_fm a (up2 M 0 0 0) k) 12 k (-1)) 11 k 114 = sm_fm a (up2 M 0 0 0) (k + 1)
      funext c j
      by_cases hj : j = k
      · subst hj
        by_cases h11 : c = 11
        · subst h11
          rw [up2_same]
          unfold sm_fm
          rw [if_neg (fun z => by omega), if_pos ⟨by omega, by rw [r12]; exact q, rfl⟩]
        · rw [up2_cc h11]
          by_cases h12 : c = 12
          · subst h12
            rw [up2_same]
            unfold sm_fm
            rw [if_pos ⟨by omega, by rw [r12]; exact q, rfl⟩]
          · rw [up2_cc h12]
            unfold sm_fm
            rw [if_neg (fun z => by omega), if_neg (fun z => by omega), if_neg (fun z => h12 z.2.2), if_neg (fun z => h11 z.2.2)]
      · rw [up2_kk hj, up2_kk hj]
        unfold sm_fm
        have e3 : (j < k + 1) = (j < k) := propext ⟨fun z => by omega, fun z => by omega⟩
        simp only [e3]
    · rw [if_neg q, if_neg q]
      refine Prod.ext (Int32.add_zero _).symm ?_
      show sm_fm a (up2 M 0 0 0) k = sm_fm a (up2 M 0 0 0) (k + 1)
      funext c j
      unfold sm_fm
      by_cases hj : j = k
      · subst hj
        rw [r12, if_neg (fun z => q z.2.1), if_neg (fun z => q z.2.1), if_neg (fun z => q z.2.1), if_neg (fun z => q z.2.1)]
      · have e3 : (j < k + 1) = (j < k) := propext ⟨fun z => by omega, fun z => by omega⟩
        simp only [e3]
section SM
variable {S : Nat → BT} {M : BT} {t : Nat}
theorem sm_cf {B M : BT} {n m d i l : Nat} {L : Nat → Nat} (R : sm_R B M n m d L) (hi : i < m) (hl : l < m) : f_X0_canFollow i l B = (if L i = i ∧ M 11 i = 114 ∧ f_X0_followersOf i B = 0 then (if L l = l ∧ (M 11 l = 114 ∨ M 11 l = 97 ∨ M 11 l = 115) ∧ M 6 i = M 6 l ∧ M 7 i = M 7 l then 1 else 0) else 0) := by
  have ti := (R.2.2.2.2.2.1 i hi).1
  have tl := (R.2.2.2.2.2.1 l hl).1
  unfold f_X0_canFollow
  rw [sm_s11 R hi, sm_s11 R hl, sm_jnd1 R hi, sm_jnd1 R hl, ti.2.1, ti.2.2.1, tl.2.1, tl.2.2.1]
  by_cases y1 : L i = i
  · rw [y1]
    by_cases y2 : M 11 i = 114
    · by_cases y3 : f_X0_followersOf i B = 0
      · by_cases y4 : M 6 i = M 6 l
        · by_cases y5 : M 7 i = M 7 l
          · by_cases y6 : L l = l
            · rw [y6]
              by_cases y7 : M 11 l = 114 <;> by_cases y8 : M 11 l = 97 <;> by_cases y9 : M 11 l = 115 <;> simp [y2, y3, y4, y5, y7, y8, y9]
            · simp [y2, y3, y4, y5, y6]
          · simp [y2, y3, y4, y5]
        · simp [y2, y3, y4]
      · simp [y2, y3]
    · simp [y2]
  · simp [y1]

theorem sm_join (h : sm_V S M t) (ht : t < 512) (a1 a2 : Int32) : sm_S S t (e_X6_join a1 a2 (S 0)) ["java/lang/IndexOutOfBoundsException", "java/lang/IllegalArgumentException", "java/lang/UnsupportedOperationException"] (va_up (f_X2_keep 14 a1 a2 0 0 S) 0 (f_X6_join a1 a2 (S 0)).2) (f_X7_join a1 a2 M).2 ((f_X7_join a1 a2 M).1 = (f_X6_join a1 a2 (S 0)).1) := by
  obtain ⟨n, m, d, L, ne, n1, m1, q1, q2, q3, R, q5, q6⟩ := id h
  have h20 := R.m20
  have hn6 := R.n6
  have R0 := R.thr (v := 0)
  by_cases hk : e_X6_known a1 (S 0) = none
  · obtain ⟨i, hi, hi20, rfl, hf⟩ := sm_kn R.1 hk
    have hc : (nI i).toNatClampNeg = i := nI_clamp (by omega)
    have ci : ¬ f_X7_isComplaint (nI i) M = 0 := by rw [sm_icp R.1 hi]; decide
    by_cases hk2 : e_X6_known a2 (S 0) = none
    · obtain ⟨l, hl, hl20, rfl, hf2⟩ := sm_kn R.1 hk2
      have hcl : (nI l).toNatClampNeg = l := nI_clamp (by omega)
      have cl : ¬ f_X7_isComplaint (nI l) M = 0 := by rw [sm_icp R.1 hl]; decide
      by_cases he : nI i = nI l
      · refine sm_S.x h (v := 2) (show _ = some "java/lang/IllegalArgumentException" from ?_) ?_ (by decide +kernel)
        · unfold e_X6_join; rw [if_pos hk, if_pos hk2, if_pos he]
        · unfold f_X7_join; rw [if_neg ci, if_neg cl, if_pos he]
      · have hne : i ≠ l := fun z => he (by rw [z])
        have hcf := sm_cf R hi hl
        have j43 : j_X7_join_43 (nI i) M = (if L i = i ∧ M 11 i = 114 ∧ f_X0_followersOf i (S 0) = 0 then 1 else 0) := by
          unfold j_X7_join_43
          rw [sm_jnd7 R0 hi, sm_jtF R0 hi20, hc]
          by_cases y1 : L i = i <;> by_cases y2 : M 11 i = 114 <;> by_cases y3 : f_X0_followersOf i (S 0) = 0 <;> simp [y1, y2, y3]
        have j116 : j_X7_join_116 (nI i) (nI l) M = (if L l = l ∧ (M 11 l = 114 ∨ M 11 l = 97 ∨ M 11 l = 115) ∧ M 6 i = M 6 l ∧ M 7 i = M 7 l then 1 else 0) := by
          unfold j_X7_join_116 j_X7_join_76
          rw [sm_jnd7 R0 hl, hc, hcl]
          by_cases y1 : L l = l
          · by_cases y4 : M 6 i = M 6 l
            · by_cases y5 : M 7 i = M 7 l
              · by_cases y7 : M 11 l = 114 <;> by_cases y8 : M 11 l = 97 <;> by_cases y9 : M 11 l = 115 <;> simp [y1, y4, y5, y7, y8, y9]
              · simp [y1, y4, y5, Ne.symm y5]
            · simp [y1, y4, Ne.symm y4]
          · simp [y1]
        by_cases P1 : L i = i ∧ M 11 i = 114 ∧ f_X0_followersOf i (S 0) = 0
        · rw [if_pos P1] at hcf j43
          by_cases P2 : L l = l ∧ (M 11 l = 114 ∨ M 11 l = 97 ∨ M 11 l = 115) ∧ M 6 i = M 6 l ∧ M 7 i = M 7 l
          · rw [if_pos P2] at hcf j116
            have hno : ∀ j, j < m → L j = i → j = i := by
              obtain ⟨q, hq1, hq2, hq3⟩ := sm_fol0 (B := S 0) hi20 m h20
              intro j hj e
              refine Classical.byContradiction fun ne => ?_
              have hq0 : q = 0 := by
                have w := P1.2.2
                unfold f_X0_followersOf at w
                rw [R.1.1.2.1, nI_clamp (by omega), hq2, show (0 : Int32) = nI 0 from rfl, nI_eq (by omega) (by omega)] at w
                exact w
              exact hq3 hq0 j hj ne (by rw [(R.l12 hj).2.2.1, e])
            have R2 : sm_R (sm_row (up2 (S 0) (10 + i) 12 (nI l)) (10 + i) (sm_mv (M 11 l) (S 0 0 5) (upd (S 0 (10 + i)) 12 (nI l)))) (up2 (up2 M 0 0 0) 12 i (nI l)) n m d (fun j => if j = i then l else L j) := by
              have r11 : up2 M 0 0 0 11 l = M 11 l := up2_cc (by decide)
              refine sm_R_join R0 hi hl hne P1.1 P2.1 (by rw [up2_cc (by decide)]; exact P1.2.1) hno (by simp (disch := omega) only [up2_cc]; exact P2.2.2.1) (by simp (disch := omega) only [up2_cc]; exact P2.2.2.2) (by rw [r11]; exact P2.2.1) ?_ (fun c k hc => ?_) (up2_same _ _ _ _) (fun c k hc => ?_)
              · rw [r11]; unfold sm_row; rw [if_pos rfl]
              · unfold sm_row; rw [if_neg hc, up2_cc hc]
              · rcases hc with w | w
                · rw [up2_cc w]
                · rw [up2_kk w]
            have hap : f_X6_happen 14 (nI i) (nI l) (S 0) = (f_X0_followersOf l (sm_row (up2 (S 0) (10 + i) 12 (nI l)) (10 + i) (sm_mv (M 11 l) (S 0 0 5) (upd (S 0 (10 + i)) 12 (nI l)))), sm_row (up2 (S 0) (10 + i) 12 (nI l)) (10 + i) (sm_mv (M 11 l) (S 0 0 5) (upd (S 0 (10 + i)) 12 (nI l)))) := by
              rw [sm_hapC R hi (by decide) (by decide) (by decide) (by decide) (by decide)]
              unfold f_X0_applyToCase f_X0_putBehind
              rw [if_neg (by decide), if_neg (by decide), if_neg (by decide), if_neg (by decide), if_neg (by decide), if_pos rfl, if_neg (nI_pos (by omega)), if_pos (by rw [R.1.1.2.1, nI_ltI (by omega) (by omega)]; exact hl), hcl, sm_moveTo, up2_at]
              have u1 : up2 (S 0) (10 + i) 12 (nI l) (10 + l) 11 = M 11 l := by rw [up2_kk (by decide), sm_s11 R hl, P2.1]
              have u2 : up2 (S 0) (10 + i) 12 (nI l) 0 5 = S 0 0 5 := up2_kk (by decide)
              rw [u1, u2]
            have E6 : f_X6_join (nI i) (nI l) (S 0) = (f_X0_followersOf l (sm_row (up2 (S 0) (10 + i) 12 (nI l)) (10 + i) (sm_mv (M 11 l) (S 0 0 5) (upd (S 0 (10 + i)) 12 (nI l)))), sm_row (up2 (S 0) (10 + i) 12 (nI l)) (10 + i) (sm_mv (M 11 l) (S 0 0 5) (upd (S 0 (10 + i)) 12 (nI l)))) := by
              unfold f_X6_join; rw [if_pos hk, if_pos hk2, if_neg he, hf, hf2, hcf, if_neg (by decide), hap]
            have E7 : f_X7_join (nI i) (nI l) M = (f_X0_followersOf l (sm_row (up2 (S 0) (10 + i) 12 (nI l)) (10 + i) (sm_mv (M 11 l) (S 0 0 5) (upd (S 0 (10 + i)) 12 (nI l)))), up2 (up2 M 0 0 0) 12 i (nI l)) := by
              unfold f_X7_join; rw [if_neg ci, if_neg cl, if_neg he, j43, j116, if_neg (show ¬ (1 : Int32) = 0 by decide), if_neg (show ¬ (1 : Int32) = 0 by decide), up2_up2, hc, sm_jtF R2 hl20]
            have Ee : e_X6_join (nI i) (nI l) (S 0) = none := by
              unfold e_X6_join; rw [if_pos hk, if_pos hk2, if_neg he, hf, hf2, hcf, if_neg (by decide)]
            have hMN := cn_X7_join (a1 := nI i) (a2 := nI l) q3
            rw [E7] at hMN
            rw [E7, E6, Ee]
            refine sm_S.ok rfl ?_ rfl (sm_V.ev q2 q1 R q5 q6 ht 14 (nI i) (nI l) 0 0 (d' := d) (L' := fun j => if j = i then l else L j) ?_ hMN ?_)
            · show (up2 (up2 M 0 0 0) 12 i (nI l) : BT) 0 0 = 0
              simp (disch := omega) only [up2_cc, up2_kk, up2_same]
            · exact (congrArg Prod.snd hap).symm
            · exact R2
          · rw [if_neg P2] at hcf j116
            refine sm_S.x h (v := 3) (show _ = some "java/lang/UnsupportedOperationException" from ?_) ?_ (by decide +kernel)
            · unfold e_X6_join; rw [if_pos hk, if_pos hk2, if_neg he, hf, hf2, hcf, if_pos rfl]
            · unfold f_X7_join; rw [if_neg ci, if_neg cl, if_neg he, j43, j116, if_neg (show ¬ (1 : Int32) = 0 by decide), if_pos rfl, up2_up2]
        · rw [if_neg P1] at hcf j43
          refine sm_S.x h (v := 3) (show _ = some "java/lang/UnsupportedOperationException" from ?_) ?_ (by decide +kernel)
          · unfold e_X6_join; rw [if_pos hk, if_pos hk2, if_neg he, hf, hf2, hcf, if_pos rfl]
          · unfold f_X7_join; rw [if_neg ci, if_neg cl, if_neg he, j43, if_pos rfl, up2_up2]
    · obtain ⟨e1, e2, -⟩ := sm_nk R.1 hk2
      refine sm_S.x h (v := 1) (show _ = some "java/lang/IndexOutOfBoundsException" from ?_) ?_ (by decide +kernel)
      · unfold e_X6_join; rw [if_pos hk, if_neg hk2, e1]
      · unfold f_X7_join; rw [if_neg ci, if_pos e2]
  · obtain ⟨e1, e2, -⟩ := sm_nk R.1 hk
    refine sm_S.x h (v := 1) (show _ = some "java/lang/IndexOutOfBoundsException" from ?_) ?_ (by decide +kernel)
    · unfold e_X6_join; rw [if_neg hk, e1]
    · unfold f_X7_join; rw [if_pos e2]
theorem sm_part (h : sm_V S M t) (ht : t < 512) (a1 : Int32) : sm_S S t (e_X6_part a1 (S 0)) ["java/lang/IndexOutOfBoundsException", "java/lang/UnsupportedOperationException"] (va_up (f_X2_keep 15 a1 0 0 0 S) 0 (f_X6_part a1 (S 0)).2) (f_X7_part a1 M).2 ((f_X7_part a1 M).1 = (f_X6_part a1 (S 0)).1) := by
  obtain ⟨n, m, d, L, ne, n1, m1, q1, q2, q3, R, q5, q6⟩ := id h
  have h20 := R.m20
  have hn6 := R.n6
  have R0 := R.thr (v := 0)
  by_cases hk : e_X6_known a1 (S 0) = none
  · obtain ⟨i, hi, hi20, rfl, hf⟩ := sm_kn R.1 hk
    have hc : (nI i).toNatClampNeg = i := nI_clamp (by omega)
    obtain ⟨l1, l2, l3, l4⟩ := R.l12 hi
    have r12 : up2 M 0 0 0 12 i = M 12 i := up2_cc (by decide)
    have j6 := sm_jnd1 R hi
    by_cases hL : L i = i
    · rw [if_pos hL] at l4 j6
      refine sm_S.x h (v := 2) (show _ = some "java/lang/UnsupportedOperationException" from ?_) ?_ (by decide +kernel)
      · unfold e_X6_part; rw [if_pos hk, hf, j6, if_pos rfl]
      · unfold f_X7_part; rw [sm_i0 (sm_nc R.1 hi), sm_nc R.1 hi, hc, if_pos (show up2 M 0 0 0 12 i = -1 by rw [r12, l4]), up2_up2]
    · rw [if_neg hL] at l4 j6
      have n12 : ¬ up2 M 0 0 0 12 i = -1 := by rw [r12, l4]; exact sm_ne1 (by omega)
      have c12 : (up2 M 0 0 0 12 i).toNatClampNeg = L i := by rw [r12, l4, nI_clamp (by omega)]
      have r20 : up2 M 0 0 0 20 (L i) = M 20 (L i) := up2_cc (by decide)
      have f0 := (R.2.2.2.2.2.2.2.2.2.2 (L i) l1).1.1
      by_cases hh : M 20 (L i) = -1
      · have htl : f_X3_isTold (L i) (S 0) = 0 := by unfold f_X3_isTold; rw [f0, hh]; rfl
        have hst := (R.2.2.2.2.2.2.2.1 i hi hL).2.2
        have hcs : f_X7_isClosed (M 11 (L i)) = 0 := by
          rcases hst with z | z | z | z
          · rw [z]; decide
          · rw [z]; decide
          · rw [z]; decide
          · exact absurd hh z
        have R2 : sm_R (sm_row (up2 (S 0) (10 + i) 12 (nI i)) (10 + i) (sm_mv 114 (S 0 0 5) (upd (S 0 (10 + i)) 12 (nI i)))) (up2 (up2 (up2 M 0 0 0) 12 i (-1)) 11 i 114) n m d (fun j => if j = i then j else L j) := by
          refine sm_R_free R0 (fun j => j = i) (fun j hj e => ?_) (fun j hj => ?_) (fun c k hc => ?_) (fun j hj => ?_) (fun j hj => ?_) (fun c k h1 h2 => ?_)
          · subst e; exact ⟨hL, by rw [up2_cc (by decide)]; exact hcs⟩
          · unfold sm_row
            by_cases e : j = i
            · rw [if_pos (by omega), if_pos e, e]
            · rw [if_neg (by omega), if_neg e, up2_ne (by omega)]
          · unfold sm_row; rw [if_neg (by omega), up2_cc (by omega)]
          · rw [up2_cc (by decide)]
            by_cases e : j = i
            · rw [if_pos e, e, up2_same]
            · rw [if_neg e, up2_kk e]
          · by_cases e : j = i
            · rw [if_pos e, e, up2_same]
            · rw [if_neg e, up2_kk e, up2_kk e]
          · rw [up2_cc h1, up2_cc h2]
        have hap : f_X6_happen 15 (nI i) 0 (S 0) = (nI (L i), sm_row (up2 (S 0) (10 + i) 12 (nI i)) (10 + i) (sm_mv 114 (S 0 0 5) (upd (S 0 (10 + i)) 12 (nI i)))) := by
          rw [sm_hapC R hi (by decide) (by decide) (by decide) (by decide) (by decide)]
          unfold f_X0_applyToCase f_X0_setFree
          rw [if_neg (by decide), if_neg (by decide), if_neg (by decide), if_neg (by decide), if_neg (by decide), if_neg (by decide), if_pos rfl, sm_moveTo, up2_at, l3]
          have u2 : up2 (S 0) (10 + i) 12 (nI i) 0 5 = S 0 0 5 := up2_kk (by decide)
          rw [u2]
        have E6 : f_X6_part (nI i) (S 0) = (nI (L i), sm_row (up2 (S 0) (10 + i) 12 (nI i)) (10 + i) (sm_mv 114 (S 0 0 5) (upd (S 0 (10 + i)) 12 (nI i)))) := by
          unfold f_X6_part; rw [if_pos hk, hf, j6, if_neg (show ¬ (1 : Int32) = 0 by decide), sm_ldo R hi, htl, if_pos rfl, hap]
        have E7 : f_X7_part (nI i) M = (nI (L i), up2 (up2 (up2 M 0 0 0) 12 i (-1)) 11 i 114) := by
          unfold f_X7_part; rw [sm_i0 (sm_nc R.1 hi), sm_nc R.1 hi, hc, if_neg n12]
          dsimp only
          rw [c12, if_pos (r20.trans hh), up2_up2, r12, l4]
        have Ee : e_X6_part (nI i) (S 0) = none := by
          unfold e_X6_part; rw [if_pos hk, hf, j6, if_neg (show ¬ (1 : Int32) = 0 by decide), sm_ldo R hi, htl, if_pos rfl]
        have hMN := cn_X7_part (a1 := nI i) q3
        rw [E7] at hMN
        rw [E7, E6, Ee]
        refine sm_S.ok rfl ?_ rfl (sm_V.ev q2 q1 R q5 q6 ht 15 (nI i) 0 0 0 (d' := d) (L' := fun j => if j = i then j else L j) ?_ hMN ?_)
        · show (up2 (up2 (up2 M 0 0 0) 12 i (-1)) 11 i 114 : BT) 0 0 = 0
          simp (disch := omega) only [up2_cc, up2_kk, up2_same]
        · exact (congrArg Prod.snd hap).symm
        · exact R2
      · have htl : ¬ f_X3_isTold (L i) (S 0) = 0 := by unfold f_X3_isTold; rw [f0, if_neg hh]; decide
        refine sm_S.x h (v := 2) (show _ = some "java/lang/UnsupportedOperationException" from ?_) ?_ (by decide +kernel)
        · unfold e_X6_part; rw [if_pos hk, hf, j6, if_neg (show ¬ (1 : Int32) = 0 by decide), sm_ldo R hi, if_neg htl]
        · unfold f_X7_part; rw [sm_i0 (sm_nc R.1 hi), sm_nc R.1 hi, hc, if_neg n12]
          dsimp only
          rw [c12, if_neg (fun w => hh (r20.symm.trans w)), up2_up2]
  · obtain ⟨e1, -, e2⟩ := sm_nk R.1 hk
    refine sm_S.x h (v := 1) (show _ = some "java/lang/IndexOutOfBoundsException" from ?_) ?_ (by decide +kernel)
    · unfold e_X6_part; rw [if_neg hk, e1]
    · unfold f_X7_part; rw [sm_i1 e2, e2]
theorem sm_withdraw (h : sm_V S M t) (ht : t < 512) (a1 : Int32) : sm_S S t (e_X6_withdraw a1 (S 0)) ["java/lang/IndexOutOfBoundsException", "java/lang/UnsupportedOperationException"] (va_up (f_X2_keep 20 a1 0 0 0 S) 0 (f_X6_withdraw a1 (S 0)).2) (f_X7_withdraw a1 M).2 ((f_X7_withdraw a1 M).1 = (f_X6_withdraw a1 (S 0)).1) := by
  obtain ⟨n, m, d, L, ne, n1, m1, q1, q2, q3, R, q5, q6⟩ := id h
  have h20 := R.m20
  have hn6 := R.n6
  have R0 := R.thr (v := 0)
  by_cases hk : e_X6_known a1 (S 0) = none
  · obtain ⟨i, hi, hi20, rfl, hf⟩ := sm_kn R.1 hk
    have hc : (nI i).toNatClampNeg = i := nI_clamp (by omega)
    obtain ⟨l1, l2, l3, l4⟩ := R.l12 hi
    have j6 := sm_jnd1 R hi
    have j7 := sm_jnd7 R0 hi
    have s11 := sm_s11 R hi
    have r11 : up2 M 0 0 0 11 i = M 11 i := up2_cc (by decide)
    by_cases hL : L i = i
    · rw [if_pos hL] at j6 j7
      rw [hL] at s11
      by_cases hcs : f_X7_isClosed (M 11 i) = 0
      · have hc6 : f_X6_isClosing (S 0 (10 + i) 11) = 0 := by rw [s11, sm_clE]; exact hcs
        have hc7 : f_X7_isClosed (up2 M 0 0 0 11 i) = 0 := by rw [r11]; exact hcs
        have hfr : ∀ j, j < m → sm_fr i (S 0) m (10 + j) = if L j = i ∧ j ≠ i then sm_mv 114 (S 0 0 5) (upd (S 0 (10 + j)) 12 (nI j)) else S 0 (10 + j) := by
          intro j hj
          have q3 := (R.l12 hj).2.2.1
          have q1 := (R.l12 hj).1
          unfold sm_fr
          by_cases e : L j = i ∧ j ≠ i
          · rw [if_pos ⟨by omega, by omega, by omega, by rw [q3, e.1]⟩, if_pos e, show 10 + j - 10 = j by omega]
          · rw [if_neg (fun z => e ⟨(nI_eq (by omega) (by omega)).mp (q3.symm.trans z.2.2.2), by omega⟩), if_neg e]
        have hfm : ∀ j, j < m → ((up2 M 0 0 0 12 j = nI i) ↔ (L j = i ∧ j ≠ i)) := by
          intro j hj
          obtain ⟨q1, -, -, q4⟩ := R.l12 hj
          rw [up2_cc (by decide), q4]
          by_cases e : L j = j
          · rw [if_pos e]
            exact ⟨fun z => absurd z.symm (sm_ne1 (by omega)), fun z => absurd (e.symm.trans z.1) z.2⟩
          · rw [if_neg e, nI_eq (by omega) (by omega)]
            exact ⟨fun z => ⟨z, fun w => e (by rw [z, w])⟩, fun z => z.1⟩
        have R1 : sm_R (sm_fr i (S 0) m) (sm_fm (nI i) (up2 M 0 0 0) m) n m d (fun j => if L j = i ∧ j ≠ i then j else L j) := by
          refine sm_R_free R0 (fun j => L j = i ∧ j ≠ i) (fun j hj e => ?_) hfr (fun c k hc => ?_) (fun j hj => ?_) (fun j hj => ?_) (fun c k h1 h2 => ?_)
          · exact ⟨fun z => e.2 (z.symm.trans e.1), by rw [e.1, r11]; exact hcs⟩
          · unfold sm_fr; rw [if_neg (fun z => by omega)]
          · unfold sm_fm
            by_cases e : L j = i ∧ j ≠ i
            · rw [if_pos ⟨hj, (hfm j hj).mpr e, rfl⟩, if_pos e]
            · rw [if_neg (fun z => e ((hfm j hj).mp z.2.1)), if_neg (fun z => by omega), if_neg e]
          · unfold sm_fm
            by_cases e : L j = i ∧ j ≠ i
            · rw [if_neg (fun z => by omega), if_pos ⟨hj, (hfm j hj).mpr e, rfl⟩, if_pos e]
            · rw [if_neg (fun z => by omega), if_neg (fun z => e ((hfm j hj).mp z.2.1)), if_neg e]
          · unfold sm_fm; rw [if_neg (fun z => h2 z.2.2), if_neg (fun z => h1 z.2.2)]
        have hni : ¬ (L i = i ∧ i ≠ i) := fun z => z.2 rfl
        have hL1 : (fun j => if L j = i ∧ j ≠ i then j else L j) i = i := by show (if L i = i ∧ i ≠ i then i else L i) = i; rw [if_neg hni, hL]
        have hM1 : sm_fm (nI i) (up2 M 0 0 0) m 11 i = M 11 i := by
          unfold sm_fm; rw [if_neg (fun z => by omega), if_neg (fun z => hni ((hfm i hi).mp z.2.1)), r11]
        have hno : ∀ j, j < m → (fun j => if L j = i ∧ j ≠ i then j else L j) j = i → j = i := by
          intro j hj e
          have e' : (if L j = i ∧ j ≠ i then j else L j) = i := e
          by_cases z : L j = i ∧ j ≠ i
          · rw [if_pos z] at e'; exact e'
          · rw [if_neg z] at e'
            exact Classical.byContradiction fun w => z ⟨e', w⟩
        have R2 := sm_Rclose R1 hi hL1 (a := 119) (by rw [hM1]; exact hcs) (Or.inr (Or.inr rfl)) (Or.inl hno)
        have hb12 : sm_fr i (S 0) m (10 + i) 12 = nI i := (R1.l12 hi).2.2.1.trans (congrArg nI hL1)
        have hap : f_X6_happen 20 (nI i) 0 (S 0) = (f_X0_followersOf i (S 0), sm_all i 119 (sm_fr i (S 0) m) m) := by
          rw [sm_hapC R hi (by decide) (by decide) (by decide) (by decide) (by decide)]
          unfold f_X0_applyToCase f_X0_takeBack
          rw [if_neg (by decide), if_neg (by decide), if_neg (by decide), if_neg (by decide), if_neg (by decide), if_neg (by decide), if_neg (by decide), if_neg (by decide), if_neg (by decide), if_neg (by decide), if_neg (by decide), if_pos rfl, R.1.1.2.1, nI_clamp (by omega), sm_takeBack hi20 m h20]
          refine Prod.ext ?_ ?_
          · show L_followersOf i (S 0) m = f_X0_followersOf i (S 0)
            unfold f_X0_followersOf; rw [R.1.1.2.1, nI_clamp (by omega)]
          · show f_X1_moveTo i 119 (sm_fr i (S 0) m 0 5) (sm_fr i (S 0) m) = sm_all i 119 (sm_fr i (S 0) m) m
            rw [sm_moveTo]
            refine sm_row_all 119 hb12 hi (fun j hj ne z => ?_)
            rw [(R1.l12 hj).2.2.1] at z
            have w1 : (if L j = i ∧ j ≠ i then j else L j) < m := (R1.l12 hj).1
            exact ne (hno j hj ((nI_eq (a := (if L j = i ∧ j ≠ i then j else L j)) (by omega) (by omega)).mp z))
        have E6 : f_X6_withdraw (nI i) (S 0) = (f_X0_followersOf i (S 0), sm_all i 119 (sm_fr i (S 0) m) m) := by
          unfold f_X6_withdraw; rw [if_pos hk, hf, j6, if_pos rfl, hc6, if_pos rfl, hap]
        have hjt := sm_jtF R hi20
        unfold f_X7_joinedTo at hjt
        rw [R.1.2.1.2.1, nI_clamp (by omega)] at hjt
        have E7 : f_X7_withdraw (nI i) M = (f_X0_followersOf i (S 0), up2 (up2 (sm_fm (nI i) (up2 M 0 0 0) m) 11 i 119) 24 i (sm_fm (nI i) (up2 M 0 0 0) m 0 1)) := by
          unfold f_X7_withdraw f_X7_closes; rw [sm_i0 (sm_nc R.1 hi), sm_nc R.1 hi, j7, if_pos rfl, hc, if_pos hc7, R.1.2.1.2.1, nI_clamp (by omega), sm_withdraw7 (sm_nc R.1 hi), hjt]
        have Ee : e_X6_withdraw (nI i) (S 0) = none := by
          unfold e_X6_withdraw; rw [if_pos hk, hf, j6, if_pos rfl, hc6, if_pos rfl]
        have hthr : sm_fm (nI i) (up2 M 0 0 0) m 0 0 = 0 := by
          unfold sm_fm; rw [if_neg (fun z => by omega), if_neg (fun z => by omega), up2_same]
        have hMN := cn_X7_withdraw (a1 := nI i) q3
        rw [E7] at hMN
        rw [E7, E6, Ee]
        refine sm_S.ok rfl ?_ rfl (sm_V.ev q2 q1 R q5 q6 ht 20 (nI i) 0 0 0 (d' := d) (L' := fun j => if L j = i ∧ j ≠ i then j else L j) ?_ hMN ?_)
        · show (up2 (up2 (sm_fm (nI i) (up2 M 0 0 0) m) 11 i 119) 24 i (sm_fm (nI i) (up2 M 0 0 0) m 0 1) : BT) 0 0 = 0
          simp (disch := omega) only [up2_cc, hthr]
        · exact (congrArg Prod.snd hap).symm
        · exact R2
      · have hc6 : ¬ f_X6_isClosing (S 0 (10 + i) 11) = 0 := by rw [s11, sm_clE]; exact hcs
        have hc7 : ¬ f_X7_isClosed (up2 M 0 0 0 11 i) = 0 := by rw [r11]; exact hcs
        refine sm_S.x h (v := 2) (show _ = some "java/lang/UnsupportedOperationException" from ?_) ?_ (by decide +kernel)
        · unfold e_X6_withdraw; rw [if_pos hk, hf, j6, if_pos rfl, if_neg hc6]
        · unfold f_X7_withdraw; rw [sm_i0 (sm_nc R.1 hi), sm_nc R.1 hi, j7, if_pos rfl, hc, if_neg hc7, up2_up2]
    · rw [if_neg hL] at j6 j7
      refine sm_S.x h (v := 2) (show _ = some "java/lang/UnsupportedOperationException" from ?_) ?_ (by decide +kernel)
      · unfold e_X6_withdraw; rw [if_pos hk, hf, j6, if_neg (show ¬ (1 : Int32) = 0 by decide)]
      · unfold f_X7_withdraw; rw [sm_i0 (sm_nc R.1 hi), sm_nc R.1 hi, j7, if_neg (show ¬ (1 : Int32) = 0 by decide), up2_up2]
  · obtain ⟨e1, -, e2⟩ := sm_nk R.1 hk
    refine sm_S.x h (v := 1) (show _ = some "java/lang/IndexOutOfBoundsException" from ?_) ?_ (by decide +kernel)
    · unfold e_X6_withdraw; rw [if_neg hk, e1]
    · unfold f_X7_withdraw; rw [sm_i1 e2, e2]
end SM
