/-! what changes: asking -/
theorem sm_one : ∀ i, i < 32 → (1#32).getLsbD i = decide (i = 0) := by decide
theorem sm_bit1 (x : Int32) : x &&& 1 = 0 ∨ x &&& 1 = 1 := by
  by_cases h : x.toBitVec.getLsbD 0 = true
  · right
    apply Int32.toBitVec_inj.mp
    apply BitVec.eq_of_getLsbD_eq
    intro i hi
    rw [Int32.toBitVec_and, BitVec.getLsbD_and]
    show (x.toBitVec.getLsbD i && (1#32).getLsbD i) = (1#32).getLsbD i
    rw [sm_one i hi]
    by_cases e : i = 0
    · subst e; rw [h]; rfl
    · rw [decide_eq_false e, Bool.and_false]
  · left
    apply Int32.toBitVec_inj.mp
    apply BitVec.eq_of_getLsbD_eq
    intro i hi
    rw [Int32.toBitVec_and, BitVec.getLsbD_and]
    show (x.toBitVec.getLsbD i && (1#32).getLsbD i) = (0#32).getLsbD i
    rw [sm_one i hi, BitVec.getLsbD_zero]
    by_cases e : i = 0
    · subst e
      have h9 : x.toBitVec.getLsbD 0 = false := by
        cases hh : x.toBitVec.getLsbD 0 with
        | true => exact absurd hh h
        | false => rfl
      rw [h9]; rfl
    · rw [decide_eq_false e, Bool.and_false]
theorem sm_chr {a : Int32} (ha : a = 111 ∨ a = 108 ∨ a = 102 ∨ a = 114) : (a.toUInt32 % 65536).toInt32 = a := by
  rcases ha with rfl | rfl | rfl | rfl <;> decide
theorem sm_rgn {a : Int32} {lo hi : Nat} (h : e_X6_requireRange a (nI lo) (nI hi) = none) (hh : hi < 2 ^ 31) (hl : lo < 2 ^ 31 := by omega) : ∃ p, lo ≤ p ∧ p ≤ hi ∧ a = nI p := by
  obtain ⟨-, h1, h2⟩ := sm_rg h
  have h0 : ¬ a < 0 := by
    rw [fa_lt, nI_toInt hl] at h1
    rw [fa_lt, show (0 : Int32).toInt = 0 from rfl]
    omega
  obtain ⟨j, hj, rfl⟩ := nI_of h0
  rw [nI_ltI hj hl] at h1
  rw [nI_leI hj hh] at h2
  exact ⟨j, by omega, h2, rfl⟩
theorem sm_cnt_e {B B' : BT} (i : Nat) {m : Nat} (h : ∀ j, j < m → B' (10 + j) 12 = B (10 + j) 12) : sm_cnt i B m = sm_cnt i B' m := by
  have key : ∀ k, k ≤ m → sm_cnt i B k = sm_cnt i B' k := by
    intro k
    induction k with
    | zero => intro _; rfl
    | succ k ih =>
      intro hk
      show (if B (10 + k) 12 = nI i then sm_cnt i B k + 1 else sm_cnt i B k) = (if B' (10 + k) 12 = nI i then sm_cnt i B' k + 1 else sm_cnt i B' k)
      rw [ih (by omega), h k (by omega)]
  exact key m (Nat.le_refl _)
section SK
variable {S : Nat → BT} {M : BT} {t : Nat}
theorem sm_intake {B M : BT} {n m d i : Nat} {L : Nat → Nat} (R : sm_R B M n m d L) (hi : i < m) (hp : f_X7_isPast (nI i) M = (0, up2 M 0 0 0)) : f_X0_intakeOf i B = j_X7_examine_124 (nI i) M ∧ (j_X7_examine_124 (nI i) M = 111 ∨ j_X7_examine_124 (nI i) M = 108 ∨ j_X7_examine_124 (nI i) M = 102 ∨ j_X7_examine_124 (nI i) M = 114) := by
  have h20 := R.m20
  have hn6 := R.n6
  obtain ⟨⟨⟨o, ho, h3⟩, h6, h4, -, g6, g7⟩, g8, -, g9, -, g10⟩ := R.2.2.2.2.2.1 i hi
  obtain ⟨o0, o1, -, -⟩ := R.2.2.1 o ho
  have m6 : M 6 i = nI o := h6.symm.trans h3
  have hc : (nI i).toNatClampNeg = i := nI_clamp (by omega)
  have ho2 : (nI o).toNatClampNeg = o := nI_clamp (by omega)
  have e1 : j_X7_examine_18 (nI i) M = (if (M 2 o >>> (M 7 i &&& 31)) &&& 1 = 1 then (if M 13 i = 0 then 1 else 0) else 0) := by
    unfold j_X7_examine_18; rw [hp, hc]
    simp (disch := omega) only [up2_cc]
    rw [m6, ho2]
  have e2 : j_X7_examine_52 (nI i) M = (if M 10 i - M 9 i ≤ 365 then 0 else (if M 14 i = 0 then 1 else 0)) := by
    unfold j_X7_examine_52; rw [hp, hc]
    simp (disch := omega) only [up2_cc]
  have e3 : j_X7_examine_87 (nI i) M = (if M 15 i = -1 then 0 else (if M 0 1 - M 15 i < M 1 o then 0 else 1)) := by
    unfold j_X7_examine_87; rw [hp, hc]
    simp (disch := omega) only [up2_cc, up2_kk]
    rw [m6, ho2]
  have e4 : f_X0_intakeOf i B = (if (M 2 o >>> (M 7 i &&& 31)) &&& 1 = 0 then 111 else (if M 13 i = 0 then (if M 10 i - M 9 i ≤ 365 then (if M 15 i = -1 then 102 else (if M 1 o ≤ M 0 1 - M 15 i then 114 else 102)) else (if M 14 i = 0 then 108 else (if M 15 i = -1 then 102 else (if M 1 o ≤ M 0 1 - M 15 i then 114 else 102)))) else 111)) := by
    unfold f_X0_intakeOf
    rw [sm_off R h3 ho, o0, o1, h4, g6, g7, g8, g9, g10, R.1.1.2.2, R.1.2.1.2.2]
  have e5 : ∀ x y : Int32, (y ≤ x) = ¬ (x < y) := fun x y => propext ⟨fun z => i32_nlt z, fun z => by rw [fa_lt] at z; rw [fa_le]; omega⟩
  rw [e4]
  unfold j_X7_examine_124
  rw [e1, e2, e3]
  simp only [e5 (M 0 1 - M 15 i) (M 1 o)]
  rcases sm_bit1 (M 2 o >>> (M 7 i &&& 31)) with b | b <;> rcases Classical.em (M 13 i = 0) with y1 | y1 <;> rcases Classical.em (M 10 i - M 9 i ≤ 365) with y2 | y2 <;> rcases Classical.em (M 14 i = 0) with y3 | y3 <;> rcases Classical.em (M 15 i = -1) with y4 | y4 <;> rcases Classical.em (M 0 1 - M 15 i < M 1 o) with y5 | y5 <;> simp [b, y1, y2, y3, y4, y5]
theorem sm_examine (h : sm_V S M t) (ht : t < 512) (a1 : Int32) : sm_S S t (e_X6_examine a1 (S 0)) ["java/lang/IndexOutOfBoundsException", "java/lang/UnsupportedOperationException"] (va_up (f_X2_keep 8 a1 0 0 0 S) 0 (f_X6_examine a1 (S 0)).2) (f_X7_examine a1 M).2 ((f_X7_examine a1 M).1 = (f_X6_examine a1 (S 0)).1) := by
  obtain ⟨n, m, d, L, ne, n1, m1, q1, q2, q3, R, q5, q6⟩ := id h
  have h20 := R.m20
  have hn6 := R.n6
  by_cases hk : e_X6_known a1 (S 0) = none
  · obtain ⟨i, hi, hi20, rfl, hf⟩ := sm_kn R.1 hk
    by_cases hp : e_X6_requireAtIntake i (S 0) = none
    · obtain ⟨p1, p2⟩ := sm_past R hi hp
      have hc : (nI i).toNatClampNeg = i := nI_clamp (by omega)
      obtain ⟨g1, g2⟩ := sm_intake R hi p1
      have g3 : okc (j_X7_examine_124 (nI i) M) := okj_X7_examine_124
      generalize hj : j_X7_examine_124 (nI i) M = a at g1 g2 g3
      have hap : f_X6_happen 8 (nI i) 0 (S 0) = (a, sm_row (S 0) (10 + i) (sm_mv a (S 0 0 5) (S 0 (10 + i)))) := by
        rw [sm_hapI R hi (by decide) (by decide) (by decide) (by decide) (by decide)]
        unfold f_X0_applyAtIntake
        rw [if_neg (by decide), if_neg (by decide), if_neg (by decide), g1, sm_moveTo]
        refine Prod.ext ?_ rfl
        show sm_row (S 0) (10 + i) (sm_mv a (S 0 0 5) (S 0 (10 + i))) (10 + i) 11 = a
        unfold sm_row; rw [if_pos rfl, sm_mv_11]
      have E6 : f_X6_examine (nI i) (S 0) = (a, sm_row (S 0) (10 + i) (sm_mv a (S 0 0 5) (S 0 (10 + i)))) := by
        unfold f_X6_examine; rw [if_pos hk, hf, if_pos hp, hap]
        exact Prod.ext (sm_chr g2) rfl
      obtain ⟨x, hx, E7⟩ : ∃ x, ((f_X7_isClosed a = 0 ∧ x = up2 M 0 0 0 24 i) ∨ (¬ f_X7_isClosed a = 0 ∧ x = up2 M 0 0 0 0 1)) ∧ f_X7_examine (nI i) M = (a, up2 (up2 (up2 M 0 0 0) 11 i a) 24 i x) := by
        unfold f_X7_examine
        rw [sm_i0 p1, p1, hj, hc]
        by_cases z : f_X7_isClosed a = 0
        · refine ⟨_, Or.inl ⟨z, rfl⟩, ?_⟩
          rw [if_pos z]
          refine Prod.ext rfl ?_
          funext c k
          by_cases y1 : c = 24
          · by_cases y2 : k = i
            · subst y1 y2; simp (disch := omega) only [up2_cc, up2_same]
            · simp (disch := omega) only [up2_kk]
          · exact (up2_cc y1).symm
        · exact ⟨_, Or.inr ⟨z, rfl⟩, by rw [if_neg z]⟩
      have Ee : e_X6_examine (nI i) (S 0) = none := by
        unfold e_X6_examine; rw [if_pos hk, hf, if_pos hp]
      have hMN := cn_X7_examine (a1 := nI i) q3
      rw [E7] at hMN
      rw [E7, E6, Ee]
      refine sm_S.ok rfl ?_ rfl (sm_V.ev q2 q1 R q5 q6 ht 8 (nI i) 0 0 0 (d' := d) (L' := L) ?_ hMN ?_)
      · show (up2 (up2 (up2 M 0 0 0) 11 i a) 24 i x : BT) 0 0 = 0
        simp (disch := omega) only [up2_cc, up2_kk, up2_same]
      · exact (congrArg Prod.snd hap).symm
      · exact sm_Rexa (R.thr (v := 0)) hi (by rw [up2_cc (by decide)]; exact p2) g2 hx
    · obtain ⟨e1, e2⟩ := sm_pastN R hi hp
      refine sm_S.x h (v := 2) (show _ = some "java/lang/UnsupportedOperationException" from ?_) ?_ (by decide +kernel)
      · unfold e_X6_examine; rw [if_pos hk, hf, if_neg hp, e1]
      · unfold f_X7_examine; rw [sm_i1 e2, e2]
  · obtain ⟨e1, -, e2⟩ := sm_nk R.1 hk
    have e3 : f_X7_isPast a1 M = (1, up2 M 0 0 1) := by unfold f_X7_isPast; rw [sm_i1 e2, e2]
    refine sm_S.x h (v := 1) (show _ = some "java/lang/IndexOutOfBoundsException" from ?_) ?_ (by decide +kernel)
    · unfold e_X6_examine; rw [if_neg hk, e1]
    · unfold f_X7_examine; rw [sm_i1 e3, e3]
theorem sm_ask (h : sm_V S M t) (ht : t < 512) (a1 : Int32) : sm_S S t (e_X6_ask a1 (S 0)) ["java/lang/IndexOutOfBoundsException", "java/lang/UnsupportedOperationException"] (va_up (f_X2_keep 9 a1 0 0 0 S) 0 (f_X6_ask a1 (S 0)).2) (f_X7_ask a1 M).2 ((f_X7_ask a1 M).1 = (f_X6_ask a1 (S 0)).1) := by
  obtain ⟨n, m, d, L, ne, n1, m1, q1, q2, q3, R, q5, q6⟩ := id h
  have h20 := R.m20
  have hn6 := R.n6
  by_cases hk : e_X6_known a1 (S 0) = none
  · obtain ⟨i, hi, hi20, rfl, hf⟩ := sm_kn R.1 hk
    by_cases hp : e_X6_requireOwn i 114 (S 0) = none
    · obtain ⟨p1, hLi, h11⟩ := sm_own R hi hp
      have hc : (nI i).toNatClampNeg = i := nI_clamp (by omega)
      obtain ⟨⟨⟨o, ho, h3⟩, h6, -⟩, -⟩ := R.2.2.2.2.2.1 i hi
      obtain ⟨o0, -, -, -, q0, hq0, hq1⟩ := R.2.2.1 o ho
      have hd9 := R.1.2.2.2.2.1
      have hdu : nI d + M 1 o = nI (d + q0) := by rw [hq1, nI_add]
      have hap : f_X6_happen 9 (nI i) 0 (S 0) = (nI d + M 1 o, sm_all i 97 (f_X4_begin i (nI d + M 1 o) (S 0)) m) := by
        rw [sm_hapC R hi (by decide) (by decide) (by decide) (by decide) (by decide)]
        unfold f_X0_applyToCase f_X0_putToOffice
        rw [if_pos rfl, sm_off R h3 ho, R.1.1.2.2, o0, sm_moveAllF i 97 (by simp (disch := omega) only [f_X4_begin, up2_cc]; exact R.1.1.2.1) h20]
        refine Prod.ext ?_ rfl
        show sm_all i 97 (f_X4_begin i (nI d + M 1 o) (S 0)) m (30 + i) 0 = nI d + M 1 o
        simp (disch := omega) only [sm_all_o, f_X4_begin, up2_kk, up2_same]
      have E6 : f_X6_ask (nI i) (S 0) = (nI d + M 1 o, sm_all i 97 (f_X4_begin i (nI d + M 1 o) (S 0)) m) := by
        unfold f_X6_ask; rw [if_pos hk, hf, if_pos hp, hap]
      have E7 : f_X7_ask (nI i) M = (nI d + M 1 o, up2 (up2 (up2 M 0 0 0) 11 i 97) 16 i (nI d + M 1 o)) := by
        unfold f_X7_ask; rw [sm_i0 p1, p1, hc, up2_same]
        simp (disch := omega) only [up2_cc, up2_kk]
        rw [← h6, h3, nI_clamp (by omega), R.1.2.1.2.2]
      have Ee : e_X6_ask (nI i) (S 0) = none := by
        unfold e_X6_ask; rw [if_pos hk, hf, if_pos hp]
      have hMN := cn_X7_ask (a1 := nI i) q3
      rw [E7] at hMN
      rw [E7, E6, Ee]
      refine sm_S.ok rfl ?_ rfl (sm_V.ev q2 q1 R q5 q6 ht 9 (nI i) 0 0 0 (d' := d) (L' := L) ?_ hMN ?_)
      · show (up2 (up2 (up2 M 0 0 0) 11 i 97) 16 i (nI d + M 1 o) : BT) 0 0 = 0
        simp (disch := omega) only [up2_cc, up2_kk, up2_same]
      · exact (congrArg Prod.snd hap).symm
      · exact by rw [hdu]; exact sm_Rask (R.thr (v := 0)) hi hLi (by rw [up2_cc (by decide)]; exact h11) (by omega)
    · obtain ⟨e1, e2⟩ := sm_ownN R hi hp
      refine sm_S.x h (v := 2) (show _ = some "java/lang/UnsupportedOperationException" from ?_) ?_ (by decide +kernel)
      · unfold e_X6_ask; rw [if_pos hk, hf, if_neg hp, e1]
      · unfold f_X7_ask; rw [sm_i1 e2, e2]
  · obtain ⟨e1, -, e2⟩ := sm_nk R.1 hk
    have e3 : f_X7_isNot a1 114 M = (1, up2 M 0 0 1) := by unfold f_X7_isNot; rw [sm_i1 e2, e2]
    refine sm_S.x h (v := 1) (show _ = some "java/lang/IndexOutOfBoundsException" from ?_) ?_ (by decide +kernel)
    · unfold e_X6_ask; rw [if_neg hk, e1]
    · unfold f_X7_ask; rw [sm_i1 e3, e3]
theorem sm_extend (h : sm_V S M t) (ht : t < 512) (a1 a2 : Int32) : sm_S S t (e_X6_extend a1 a2 (S 0)) ["java/lang/IndexOutOfBoundsException", "java/lang/IllegalArgumentException", "java/lang/UnsupportedOperationException"] (va_up (f_X2_keep 10 a1 a2 0 0 S) 0 (f_X6_extend a1 a2 (S 0)).2) (f_X7_extend a1 a2 M).2 ((f_X7_extend a1 a2 M).1 = (f_X6_extend a1 a2 (S 0)).1) := by
  obtain ⟨n, m, d, L, ne, n1, m1, q1, q2, q3, R, q5, q6⟩ := id h
  have h20 := R.m20
  have hn6 := R.n6
  by_cases hk : e_X6_known a1 (S 0) = none
  · obtain ⟨i, hi, hi20, rfl, hf⟩ := sm_kn R.1 hk
    have hc : (nI i).toNatClampNeg = i := nI_clamp (by omega)
    have R0 := R.thr (v := 0)
    have s11 := sm_s11 R hi
    have hI := R.2.2.2.2.2.2.2.2.2.1 i hi
    by_cases hr : e_X6_requireRange a2 1 30 = none
    · have r1 := (sm_rg hr).1
      have hj10 : j_X7_extend_10 (nI i) M = (if L i = i then (if M 11 i = 97 then (if f_X0_lacksAnswer i (S 0) = 0 then (if M 17 i = 0 then 1 else 0) else 0) else 0) else 0) := by
        unfold j_X7_extend_10
        rw [sm_nc R.1 hi, sm_jnd7 R0 hi, hc]
        simp (disch := omega) only [up2_cc]
        by_cases z : L i = i
        · rw [if_pos z, if_pos rfl, if_pos z, sm_over R0 hi z]
        · rw [if_neg z, if_neg z, if_neg (by decide)]
      by_cases hp : e_X6_requireOwn i 97 (S 0) = none
      · obtain ⟨-, hLi, h11⟩ := sm_own R hi hp
        rw [if_pos hLi, if_pos h11] at hj10
        by_cases ho : f_X0_lacksAnswer i (S 0) = 0
        · rw [if_pos ho] at hj10
          by_cases hx : M 17 i = 0
          · rw [if_pos hx] at hj10
            have hx6 : S 0 (30 + i) 1 = 0 := by rw [hI.1.1]; exact hx
            have hv9 : ∃ q, q ≤ 10089 ∧ M 16 i + a2 = nI q := by
              obtain ⟨-, q, -, w1, w2⟩ := hI.2.2.1 hLi h11
              obtain ⟨p, -, hp2, hp3⟩ := sm_rgn (lo := 1) (hi := 30) hr (by omega)
              have := w2 hx
              exact ⟨q + p, by omega, by rw [w1, hp3, nI_add]⟩
            have hap : f_X6_happen 10 (nI i) a2 (S 0) = (M 16 i + a2, up2 (up2 (S 0) (30 + i) 1 1) (30 + i) 0 (M 16 i + a2)) := by
              rw [sm_hapC R hi (by decide) (by decide) (by decide) (by decide) (by decide)]
              unfold f_X0_applyToCase f_X0_giveTime
              rw [if_neg (by decide), if_pos rfl, up2_same]
              simp (disch := omega) only [up2_kk]
              rw [(hI.2.2.1 hLi h11).1]
            have E6 : f_X6_extend (nI i) a2 (S 0) = (M 16 i + a2, up2 (up2 (S 0) (30 + i) 1 1) (30 + i) 0 (M 16 i + a2)) := by
              unfold f_X6_extend; rw [if_pos hk, hf, if_pos hr, if_pos hp, if_pos ho, if_pos hx6, hap]
            have E7 : f_X7_extend (nI i) a2 M = (M 16 i + a2, up2 (up2 (up2 M 0 0 0) 17 i 1) 16 i (M 16 i + a2)) := by
              unfold f_X7_extend; rw [sm_i0 (sm_nc R.1 hi), sm_nc R.1 hi, r1, hj10, hc, if_neg (by decide), if_neg (by decide), up2_same]
              simp (disch := omega) only [up2_cc, up2_up2]
            have Ee : e_X6_extend (nI i) a2 (S 0) = none := by
              unfold e_X6_extend; rw [if_pos hk, hf, if_pos hr, if_pos hp, if_pos ho, if_pos hx6]
            have hMN := cn_X7_extend (a1 := nI i) (a2 := a2) q3
            rw [E7] at hMN
            rw [E7, E6, Ee]
            refine sm_S.ok rfl ?_ rfl (sm_V.ev q2 q1 R q5 q6 ht 10 (nI i) a2 0 0 (d' := d) (L' := L) ?_ hMN ?_)
            · show (up2 (up2 (up2 M 0 0 0) 17 i 1) 16 i (M 16 i + a2) : BT) 0 0 = 0
              simp (disch := omega) only [up2_cc, up2_kk, up2_same]
            · exact (congrArg Prod.snd hap).symm
            · exact sm_Rext R0 hi (by rw [up2_cc (by decide)]; exact h11) hLi hv9
          · rw [if_neg hx] at hj10
            have hx6 : ¬ S 0 (30 + i) 1 = 0 := by rw [hI.1.1]; exact hx
            refine sm_S.x h (v := 3) (show _ = some "java/lang/UnsupportedOperationException" from ?_) ?_ (by decide +kernel)
            · unfold e_X6_extend; rw [if_pos hk, hf, if_pos hr, if_pos hp, if_pos ho, if_neg hx6]
            · unfold f_X7_extend; rw [sm_i0 (sm_nc R.1 hi), sm_nc R.1 hi, r1, hj10, if_neg (show ¬ (1 : Int32) = 0 by decide), if_pos rfl, up2_up2]
        · rw [if_neg ho] at hj10
          refine sm_S.x h (v := 3) (show _ = some "java/lang/UnsupportedOperationException" from ?_) ?_ (by decide +kernel)
          · unfold e_X6_extend; rw [if_pos hk, hf, if_pos hr, if_pos hp, if_neg ho]
          · unfold f_X7_extend; rw [sm_i0 (sm_nc R.1 hi), sm_nc R.1 hi, r1, hj10, if_neg (show ¬ (1 : Int32) = 0 by decide), if_pos rfl, up2_up2]
      · obtain ⟨e1, -⟩ := sm_ownN R hi hp
        have hj0 : j_X7_extend_10 (nI i) M = 0 := by
          rw [hj10]
          by_cases z : L i = i
          · by_cases w : M 11 i = 97
            · exact absurd (show e_X6_requireOwn i 97 (S 0) = none by unfold e_X6_requireOwn; rw [sm_jnd1 R hi, s11, z, if_pos rfl, if_pos rfl, if_pos w]) hp
            · rw [if_pos z, if_neg w]
          · rw [if_neg z]
        refine sm_S.x h (v := 3) (show _ = some "java/lang/UnsupportedOperationException" from ?_) ?_ (by decide +kernel)
        · unfold e_X6_extend; rw [if_pos hk, hf, if_pos hr, if_neg hp, e1]
        · unfold f_X7_extend; rw [sm_i0 (sm_nc R.1 hi), sm_nc R.1 hi, r1, hj0, if_neg (show ¬ (1 : Int32) = 0 by decide), if_pos rfl, up2_up2]
    · obtain ⟨e1, e2⟩ := sm_rgN hr
      refine sm_S.x h (v := 2) (show _ = some "java/lang/IllegalArgumentException" from ?_) ?_ (by decide +kernel)
      · unfold e_X6_extend; rw [if_pos hk, if_neg hr, e1]
      · unfold f_X7_extend; rw [sm_i0 (sm_nc R.1 hi), sm_nc R.1 hi, e2, if_pos rfl, up2_up2]
  · obtain ⟨e1, -, e2⟩ := sm_nk R.1 hk
    refine sm_S.x h (v := 1) (show _ = some "java/lang/IndexOutOfBoundsException" from ?_) ?_ (by decide +kernel)
    · unfold e_X6_extend; rw [if_neg hk, e1]
    · unfold f_X7_extend; rw [sm_i1 e2, e2]
theorem sm_remind (h : sm_V S M t) (ht : t < 512) (a1 : Int32) : sm_S S t (e_X6_remind a1 (S 0)) ["java/lang/IndexOutOfBoundsException", "java/lang/UnsupportedOperationException"] (va_up (f_X2_keep 11 a1 0 0 0 S) 0 (f_X6_remind a1 (S 0)).2) (f_X7_remind a1 M).2 ((f_X7_remind a1 M).1 = (f_X6_remind a1 (S 0)).1) := by
  obtain ⟨n, m, d, L, ne, n1, m1, q1, q2, q3, R, q5, q6⟩ := id h
  have h20 := R.m20
  have hn6 := R.n6
  by_cases hk : e_X6_known a1 (S 0) = none
  · obtain ⟨i, hi, hi20, rfl, hf⟩ := sm_kn R.1 hk
    by_cases hp : e_X6_requireOwn i 97 (S 0) = none
    · obtain ⟨p1, hLi, h11⟩ := sm_own R hi hp
      have hc : (nI i).toNatClampNeg = i := nI_clamp (by omega)
      have hov := sm_over (R.thr (v := 0)) hi hLi
      have hI := R.2.2.2.2.2.2.2.2.2.1 i hi
      obtain ⟨r, hr, h18⟩ := hI.2.1
      have b2 : S 0 (30 + i) 2 = nI r := by rw [hI.1.2.1]; exact h18
      have h18' : up2 M 0 0 0 18 i = nI r := by rw [up2_cc (by decide)]; exact h18
      by_cases ho : f_X0_lacksAnswer i (S 0) = 0
      · rw [ho] at hov
        refine sm_S.x h (v := 2) (show _ = some "java/lang/UnsupportedOperationException" from ?_) ?_ (by decide +kernel)
        · unfold e_X6_remind; rw [if_pos hk, hf, if_pos hp, if_pos ho]
        · unfold f_X7_remind; rw [sm_i0 p1, p1, hov, if_pos rfl, up2_up2]
      · have ho7 : ¬ f_X7_isOver (nI i) (up2 M 0 0 0) = 0 := by rw [hov]; exact ho
        by_cases h3 : r < 3
        · have b3 : S 0 (30 + i) 2 < 3 := by rw [b2, show (3 : Int32) = nI 3 from rfl, nI_ltI (by omega) (by omega)]; exact h3
          have m3 : ¬ nI r = 3 := by rw [show (3 : Int32) = nI 3 from rfl, nI_eq (by omega) (by omega)]; omega
          have m3q : ¬ up2 M 0 0 0 18 i = 3 := by rw [h18']; exact m3
          have hap : f_X6_happen 11 (nI i) 0 (S 0) = (nI (r + 1), up2 (up2 (S 0) (30 + i) 2 (nI (r + 1))) (30 + i) 0 (nI d + 7)) := by
            rw [sm_hapC R hi (by decide) (by decide) (by decide) (by decide) (by decide)]
            unfold f_X0_applyToCase f_X0_urge
            rw [if_neg (by decide), if_neg (by decide), if_pos rfl, b2, nI_1]
            simp (disch := omega) only [up2_cc, up2_kk, up2_same]
            rw [R.1.1.2.2]
          have E6 : f_X6_remind (nI i) (S 0) = (nI (r + 1), up2 (up2 (S 0) (30 + i) 2 (nI (r + 1))) (30 + i) 0 (nI d + 7)) := by
            unfold f_X6_remind; rw [if_pos hk, hf, if_pos hp, if_neg ho, if_pos b3, hap]
          have E7 : f_X7_remind (nI i) M = (nI (r + 1), up2 (up2 (up2 M 0 0 0) 18 i (nI (r + 1))) 16 i (nI d + 7)) := by
            unfold f_X7_remind; rw [sm_i0 p1, p1, if_neg ho7, hc, if_neg m3q, up2_same]; dsimp only; rw [h18', nI_1]
            simp (disch := omega) only [up2_kk, up2_up2]
            rw [R.1.2.1.2.2]
          have Ee : e_X6_remind (nI i) (S 0) = none := by
            unfold e_X6_remind; rw [if_pos hk, hf, if_pos hp, if_neg ho, if_pos b3]
          have hMN := cn_X7_remind (a1 := nI i) q3
          rw [E7] at hMN
          rw [E7, E6, Ee]
          refine sm_S.ok rfl ?_ rfl (sm_V.ev q2 q1 R q5 q6 ht 11 (nI i) 0 0 0 (d' := d) (L' := L) ?_ hMN ?_)
          · show (up2 (up2 (up2 M 0 0 0) 18 i (nI (r + 1))) 16 i (nI d + 7) : BT) 0 0 = 0
            simp (disch := omega) only [up2_cc, up2_kk, up2_same]
          · exact (congrArg Prod.snd hap).symm
          · exact sm_Rrem (R.thr (v := 0)) hi (by rw [up2_cc (by decide)]; exact h11) hLi ⟨d + 7, by have := R.1.2.2.2.2.1; omega, nI_add d 7⟩ h3
        · have b3 : ¬ S 0 (30 + i) 2 < 3 := by rw [b2, show (3 : Int32) = nI 3 from rfl, nI_ltI (by omega) (by omega)]; exact h3
          have m3 : nI r = 3 := by rw [show (3 : Int32) = nI 3 from rfl, nI_eq (by omega) (by omega)]; omega
          have m3q : up2 M 0 0 0 18 i = 3 := by rw [h18']; exact m3
          refine sm_S.x h (v := 2) (show _ = some "java/lang/UnsupportedOperationException" from ?_) ?_ (by decide +kernel)
          · unfold e_X6_remind; rw [if_pos hk, hf, if_pos hp, if_neg ho, if_neg b3]
          · unfold f_X7_remind; rw [sm_i0 p1, p1, if_neg ho7, hc, if_pos m3q, up2_up2]
    · obtain ⟨e1, e2⟩ := sm_ownN R hi hp
      refine sm_S.x h (v := 2) (show _ = some "java/lang/UnsupportedOperationException" from ?_) ?_ (by decide +kernel)
      · unfold e_X6_remind; rw [if_pos hk, hf, if_neg hp, e1]
      · unfold f_X7_remind; rw [sm_i1 e2, e2]
  · obtain ⟨e1, -, e2⟩ := sm_nk R.1 hk
    have e3 : f_X7_isNot a1 97 M = (1, up2 M 0 0 1) := by unfold f_X7_isNot; rw [sm_i1 e2, e2]
    refine sm_S.x h (v := 1) (show _ = some "java/lang/IndexOutOfBoundsException" from ?_) ?_ (by decide +kernel)
    · unfold e_X6_remind; rw [if_neg hk, e1]
    · unfold f_X7_remind; rw [sm_i1 e3, e3]
theorem sm_answer (h : sm_V S M t) (ht : t < 512) (a1 : Int32) : sm_S S t (e_X6_answer a1 (S 0)) ["java/lang/IndexOutOfBoundsException", "java/lang/UnsupportedOperationException"] (va_up (f_X2_keep 12 a1 0 0 0 S) 0 (f_X6_answer a1 (S 0)).2) (f_X7_answer a1 M).2 ((f_X7_answer a1 M).1 = (f_X6_answer a1 (S 0)).1) := by
  obtain ⟨n, m, d, L, ne, n1, m1, q1, q2, q3, R, q5, q6⟩ := id h
  have h20 := R.m20
  have hn6 := R.n6
  by_cases hk : e_X6_known a1 (S 0) = none
  · obtain ⟨i, hi, hi20, rfl, hf⟩ := sm_kn R.1 hk
    by_cases hp : e_X6_requireOwn i 97 (S 0) = none
    · obtain ⟨p1, hLi, h11⟩ := sm_own R hi hp
      have hc : (nI i).toNatClampNeg = i := nI_clamp (by omega)
      have hI := R.2.2.2.2.2.2.2.2.2.1 i hi
      obtain ⟨hdd, q, hq, hq1, -⟩ := hI.2.2.1 hLi h11
      have hd9 := R.1.2.2.2.2.1
      have hap : f_X6_happen 12 (nI i) 0 (S 0) = ((if 0 < nI d - M 16 i then nI d - M 16 i else 0), sm_all i 115 (S 0) m) := by
        rw [sm_hapC R hi (by decide) (by decide) (by decide) (by decide) (by decide)]
        unfold f_X0_applyToCase
        rw [if_neg (by decide), if_neg (by decide), if_neg (by decide), if_pos rfl, sm_moveAllF i 115 R.1.1.2.1 h20]
        simp (disch := omega) only [sm_all_o]
        rw [hdd, R.1.1.2.2]
      have E6 : f_X6_answer (nI i) (S 0) = ((if 0 < nI d - M 16 i then nI d - M 16 i else 0), sm_all i 115 (S 0) m) := by
        unfold f_X6_answer; rw [if_pos hk, hf, if_pos hp, hap]
      have E7 : f_X7_answer (nI i) M = ((if 0 < nI d - M 16 i then nI d - M 16 i else 0), up2 (up2 M 0 0 0) 11 i 115) := by
        unfold f_X7_answer; rw [sm_i0 p1, p1, hc]
        simp (disch := omega) only [up2_cc, up2_kk]
        rw [R.1.2.1.2.2]
        by_cases z : nI d ≤ M 16 i
        · rw [if_pos z, if_neg]
          rw [hq1, nI_leI (by omega) (by omega)] at z
          rw [hq1, fa_lt, pk_sub_toInt (by omega) (by omega), show (0 : Int32).toInt = 0 from rfl]
          omega
        · rw [if_neg z, if_pos]
          rw [hq1, nI_leI (by omega) (by omega)] at z
          rw [hq1, fa_lt, pk_sub_toInt (by omega) (by omega), show (0 : Int32).toInt = 0 from rfl]
          omega
      have Ee : e_X6_answer (nI i) (S 0) = none := by
        unfold e_X6_answer; rw [if_pos hk, hf, if_pos hp]
      have hMN := cn_X7_answer (a1 := nI i) q3
      rw [E7] at hMN
      rw [E7, E6, Ee]
      refine sm_S.ok rfl ?_ rfl (sm_V.ev q2 q1 R q5 q6 ht 12 (nI i) 0 0 0 (d' := d) (L' := L) ?_ hMN ?_)
      · show (up2 (up2 M 0 0 0) 11 i 115 : BT) 0 0 = 0
        simp (disch := omega) only [up2_cc, up2_kk, up2_same]
      · exact (congrArg Prod.snd hap).symm
      · exact sm_Rans (R.thr (v := 0)) hi hLi (by rw [up2_cc (by decide)]; exact h11)
    · obtain ⟨e1, e2⟩ := sm_ownN R hi hp
      refine sm_S.x h (v := 2) (show _ = some "java/lang/UnsupportedOperationException" from ?_) ?_ (by decide +kernel)
      · unfold e_X6_answer; rw [if_pos hk, hf, if_neg hp, e1]
      · unfold f_X7_answer; rw [sm_i1 e2, e2]
  · obtain ⟨e1, -, e2⟩ := sm_nk R.1 hk
    have e3 : f_X7_isNot a1 97 M = (1, up2 M 0 0 1) := by unfold f_X7_isNot; rw [sm_i1 e2, e2]
    refine sm_S.x h (v := 1) (show _ = some "java/lang/IndexOutOfBoundsException" from ?_) ?_ (by decide +kernel)
    · unfold e_X6_answer; rw [if_neg hk, e1]
    · unfold f_X7_answer; rw [sm_i1 e3, e3]
theorem sm_takeSilence (h : sm_V S M t) (ht : t < 512) (a1 : Int32) : sm_S S t (e_X6_takeSilence a1 (S 0)) ["java/lang/IndexOutOfBoundsException", "java/lang/UnsupportedOperationException"] (va_up (f_X2_keep 13 a1 0 0 0 S) 0 (f_X6_takeSilence a1 (S 0)).2) (f_X7_takeSilence a1 M).2 ((f_X7_takeSilence a1 M).1 = (f_X6_takeSilence a1 (S 0)).1) := by
  obtain ⟨n, m, d, L, ne, n1, m1, q1, q2, q3, R, q5, q6⟩ := id h
  have h20 := R.m20
  have hn6 := R.n6
  by_cases hk : e_X6_known a1 (S 0) = none
  · obtain ⟨i, hi, hi20, rfl, hf⟩ := sm_kn R.1 hk
    by_cases hp : e_X6_requireOwn i 97 (S 0) = none
    · obtain ⟨p1, hLi, h11⟩ := sm_own R hi hp
      have hc : (nI i).toNatClampNeg = i := nI_clamp (by omega)
      have hov := sm_over (R.thr (v := 0)) hi hLi
      have hI := R.2.2.2.2.2.2.2.2.2.1 i hi
      obtain ⟨r, hr, h18⟩ := hI.2.1
      have b2 : S 0 (30 + i) 2 = nI r := by rw [hI.1.2.1]; exact h18
      have h18' : up2 M 0 0 0 18 i = nI r := by rw [up2_cc (by decide)]; exact h18
      by_cases ho : f_X0_lacksAnswer i (S 0) = 0
      · rw [ho] at hov
        refine sm_S.x h (v := 2) (show _ = some "java/lang/UnsupportedOperationException" from ?_) ?_ (by decide +kernel)
        · unfold e_X6_takeSilence; rw [if_pos hk, hf, if_pos hp, if_pos ho]
        · unfold f_X7_takeSilence; rw [sm_i0 p1, p1, hov, if_pos rfl, up2_up2]
      · have ho7 : ¬ f_X7_isOver (nI i) (up2 M 0 0 0) = 0 := by rw [hov]; exact ho
        by_cases h3 : 3 ≤ r
        · have b3 : 3 ≤ S 0 (30 + i) 2 := by rw [b2, show (3 : Int32) = nI 3 from rfl, nI_leI (by omega) (by omega)]; exact h3
          have m3 : 3 ≤ nI r := by rw [show (3 : Int32) = nI 3 from rfl, nI_leI (by omega) (by omega)]; exact h3
          have m3q : 3 ≤ up2 M 0 0 0 18 i := by rw [h18']; exact m3
          have R2 := sm_Rsil (R.thr (v := 0)) hi hLi (by rw [up2_cc (by decide)]; exact h11)
          have hcn : sm_cnt i (up2 (S 0) (30 + i) 3 1) m = 1 + f_X0_followersOf i (sm_all i 115 (up2 (S 0) (30 + i) 3 1) m) := by
            rw [← sm_cntF R2 hi hLi]
            exact sm_cnt_e i (fun j hj => by
              rw [sm_all_C hj]
              by_cases z : up2 (S 0) (30 + i) 3 1 (10 + j) 12 = nI i
              · rw [if_pos z, sm_mv_o (by decide) (by decide) (by decide) (by decide)]
              · rw [if_neg z])
          have hap : f_X6_happen 13 (nI i) 0 (S 0) = (1 + f_X0_followersOf i (sm_all i 115 (up2 (S 0) (30 + i) 3 1) m), sm_all i 115 (up2 (S 0) (30 + i) 3 1) m) := by
            rw [sm_hapC R hi (by decide) (by decide) (by decide) (by decide) (by decide)]
            unfold f_X0_applyToCase
            rw [if_neg (by decide), if_neg (by decide), if_neg (by decide), if_neg (by decide), if_pos rfl, sm_moveAllF i 115 (by simp (disch := omega) only [up2_cc]; exact R.1.1.2.1) h20, hcn]
          have E6 : f_X6_takeSilence (nI i) (S 0) = (1 + f_X0_followersOf i (sm_all i 115 (up2 (S 0) (30 + i) 3 1) m), sm_all i 115 (up2 (S 0) (30 + i) 3 1) m) := by
            unfold f_X6_takeSilence; rw [if_pos hk, hf, if_pos hp, if_neg ho, if_pos b3, hap]
          have E7 : f_X7_takeSilence (nI i) M = (1 + f_X0_followersOf i (sm_all i 115 (up2 (S 0) (30 + i) 3 1) m), up2 (up2 (up2 M 0 0 0) 19 i 1) 11 i 115) := by
            unfold f_X7_takeSilence; rw [sm_i0 p1, p1, if_neg ho7, hc, if_pos m3q, up2_up2, sm_jtF R2 hi20]
          have Ee : e_X6_takeSilence (nI i) (S 0) = none := by
            unfold e_X6_takeSilence; rw [if_pos hk, hf, if_pos hp, if_neg ho, if_pos b3]
          have hMN := cn_X7_takeSilence (a1 := nI i) q3
          rw [E7] at hMN
          rw [E7, E6, Ee]
          refine sm_S.ok rfl ?_ rfl (sm_V.ev q2 q1 R q5 q6 ht 13 (nI i) 0 0 0 (d' := d) (L' := L) ?_ hMN ?_)
          · show (up2 (up2 (up2 M 0 0 0) 19 i 1) 11 i 115 : BT) 0 0 = 0
            simp (disch := omega) only [up2_cc, up2_kk, up2_same]
          · exact (congrArg Prod.snd hap).symm
          · exact R2
        · have b3 : ¬ 3 ≤ S 0 (30 + i) 2 := by rw [b2, show (3 : Int32) = nI 3 from rfl, nI_leI (by omega) (by omega)]; exact h3
          have m3 : ¬ 3 ≤ nI r := by rw [show (3 : Int32) = nI 3 from rfl, nI_leI (by omega) (by omega)]; exact h3
          have m3q : ¬ 3 ≤ up2 M 0 0 0 18 i := by rw [h18']; exact m3
          refine sm_S.x h (v := 2) (show _ = some "java/lang/UnsupportedOperationException" from ?_) ?_ (by decide +kernel)
          · unfold e_X6_takeSilence; rw [if_pos hk, hf, if_pos hp, if_neg ho, if_neg b3]
          · unfold f_X7_takeSilence; rw [sm_i0 p1, p1, if_neg ho7, hc, if_neg m3q, up2_up2]
    · obtain ⟨e1, e2⟩ := sm_ownN R hi hp
      refine sm_S.x h (v := 2) (show _ = some "java/lang/UnsupportedOperationException" from ?_) ?_ (by decide +kernel)
      · unfold e_X6_takeSilence; rw [if_pos hk, hf, if_neg hp, e1]
      · unfold f_X7_takeSilence; rw [sm_i1 e2, e2]
  · obtain ⟨e1, -, e2⟩ := sm_nk R.1 hk
    have e3 : f_X7_isNot a1 97 M = (1, up2 M 0 0 1) := by unfold f_X7_isNot; rw [sm_i1 e2, e2]
    refine sm_S.x h (v := 1) (show _ = some "java/lang/IndexOutOfBoundsException" from ?_) ?_ (by decide +kernel)
    · unfold e_X6_takeSilence; rw [if_neg hk, e1]
    · unfold f_X7_takeSilence; rw [sm_i1 e3, e3]
end SK
