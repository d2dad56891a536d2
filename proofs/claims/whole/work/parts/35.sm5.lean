/-! what is only asked -/
theorem sm_i0 {α : Type} {x : Int32 × BT} {Y : BT} {A D : α} (h : x = (0, Y)) : (if x.1 = 0 then A else D) = A := by
  subst h; exact if_pos rfl
theorem sm_i1 {α : Type} {x : Int32 × BT} {Y : BT} {A D : α} (h : x = (1, Y)) : (if x.1 = 0 then A else D) = D := by
  subst h; exact if_neg (show ¬ (1 : Int32) = 0 by decide)
theorem sm_in1 {m i : Nat} (hi : i < m) (hm : m < 2 ^ 31) : f_X7_in (nI i) 0 (nI m - 1) = 1 := by
  unfold f_X7_in
  obtain ⟨q, rfl⟩ : ∃ q, m = q + 1 := ⟨m - 1, by omega⟩
  rw [nI_pred, if_neg (nI_pos (by omega)), if_neg (fun z => by rw [nI_ltI (by omega) (by omega)] at z; omega)]
theorem sm_in0 {m : Nat} {a : Int32} (hm : m < 2 ^ 31) (h : ¬ a < 0 → ¬ a < nI m) : f_X7_in a 0 (nI m - 1) = 0 := by
  unfold f_X7_in
  by_cases h1 : a < 0
  · rw [if_pos h1]
  · rw [if_neg h1]
    have h3 := h h1
    obtain ⟨j, hj, rfl⟩ := nI_of h1
    rw [nI_ltI hj hm] at h3
    have h6 : nI m - 1 < nI j := by
      rcases Nat.eq_zero_or_pos m with z | z
      · subst z
        rw [fa_lt, nI_toInt hj, show (nI 0 - 1).toInt = -1 by decide]
        omega
      · obtain ⟨q, rfl⟩ : ∃ q, m = q + 1 := ⟨m - 1, by omega⟩
        rw [nI_pred, nI_ltI (by omega) hj]
        omega
    rw [if_pos h6]
theorem i32_sub3 (x p q : Int32) : x - (p + q) = x - p - q := by grind
theorem sm_rg {a lo hi : Int32} (h : e_X6_requireRange a lo hi = none) : f_X7_in a lo hi = 1 ∧ ¬ a < lo ∧ a ≤ hi := by
  unfold e_X6_requireRange at h
  unfold f_X7_in
  by_cases h1 : a < lo
  · rw [if_pos h1] at h; exact absurd h (Option.some_ne_none _)
  · rw [if_neg h1] at h ⊢
    by_cases h2 : a ≤ hi
    · rw [if_neg (i32_nlt h2)]; exact ⟨rfl, h1, h2⟩
    · rw [if_neg h2] at h; exact absurd h (Option.some_ne_none _)
theorem i32_lt_of_nle {a b : Int32} (h : ¬ a ≤ b) : b < a := by rw [fa_le] at h; rw [fa_lt]; omega
theorem sm_rgN {a lo hi : Int32} (h : ¬ e_X6_requireRange a lo hi = none) : e_X6_requireRange a lo hi = some "java/lang/IllegalArgumentException" ∧ f_X7_in a lo hi = 0 := by
  unfold e_X6_requireRange at h ⊢
  unfold f_X7_in
  by_cases h1 : a < lo
  · rw [if_pos h1, if_pos h1]; exact ⟨rfl, rfl⟩
  · rw [if_neg h1] at h
    rw [if_neg h1, if_neg h1]
    by_cases h2 : a ≤ hi
    · rw [if_pos h2] at h; exact absurd rfl h
    · rw [if_neg h2, if_pos (i32_lt_of_nle h2)]; exact ⟨rfl, rfl⟩
theorem sm_S.q0 {S : Nat → BT} {M : BT} {t : Nat} {lst : List String} {q : Prop} (hq : q) (h : sm_V S M t) : sm_S S t none lst S (up2 M 0 0 0) q := sm_S.ok rfl (up2_same M 0 0 0) hq h.thr
section SQ
variable {S : Nat → BT} {M : BT} {t : Nat}
theorem sm_today (h : sm_V S M t) : (f_X7_today M).1 = f_X6_today (S 0) ∧ sm_V S (f_X7_today M).2 (t + 1) := by
  obtain ⟨n, m, d, L, ne, n1, m1, h1, h2, h3, R, h5, h6⟩ := id h
  refine ⟨?_, h.thr⟩
  show M 0 1 = S 0 0 5
  rw [R.1.1.2.2, R.1.2.1.2.2]
theorem sm_state (h : sm_V S M t) (a : Int32) : sm_S S t (e_X6_state a (S 0)) ["java/lang/IndexOutOfBoundsException"] S (f_X7_state a M).2 ((f_X7_state a M).1 = f_X6_state a (S 0)) := by
  obtain ⟨n, m, d, L, ne, n1, m1, h1, h2, h3, R, h5, h6⟩ := id h
  by_cases hk : e_X6_known a (S 0) = none
  · obtain ⟨i, hi, hi20, rfl, hf⟩ := sm_kn R.1 hk
    have E7 : f_X7_state (nI i) M = (M 11 (L i), up2 M 0 0 0) := by
      unfold f_X7_state
      rw [sm_i0 (sm_nc R.1 hi), sm_nc R.1 hi, sm_std (R.thr (v := 0)) hi]
      simp (disch := omega) only [up2_cc]
    have E6 : f_X6_state (nI i) (S 0) = M 11 (L i) := by
      unfold f_X6_state; rw [if_pos hk, hf]; exact sm_s11 R hi
    have Ee : e_X6_state (nI i) (S 0) = none := by unfold e_X6_state; rw [if_pos hk]
    rw [E7, E6, Ee]
    exact sm_S.q0 rfl h
  · obtain ⟨e1, -, e2⟩ := sm_nk R.1 hk
    refine sm_S.x h (v := 1) (show _ = some "java/lang/IndexOutOfBoundsException" from ?_) ?_ (by decide +kernel)
    · unfold e_X6_state; rw [if_neg hk, e1]
    · unfold f_X7_state; rw [sm_i1 e2, e2]
theorem sm_lead (h : sm_V S M t) (a : Int32) : sm_S S t (e_X6_lead a (S 0)) ["java/lang/IndexOutOfBoundsException"] S (f_X7_lead a M).2 ((f_X7_lead a M).1 = f_X6_lead a (S 0)) := by
  obtain ⟨n, m, d, L, ne, n1, m1, h1, h2, h3, R, h5, h6⟩ := id h
  by_cases hk : e_X6_known a (S 0) = none
  · obtain ⟨i, hi, hi20, rfl, hf⟩ := sm_kn R.1 hk
    have E7 : f_X7_lead (nI i) M = (nI (L i), up2 M 0 0 0) := by
      unfold f_X7_lead
      rw [sm_i0 (sm_nc R.1 hi), sm_nc R.1 hi, sm_ldg (R.thr (v := 0)) hi]
    have E6 : f_X6_lead (nI i) (S 0) = nI (L i) := by
      unfold f_X6_lead; rw [if_pos hk, hf]; exact (R.l12 hi).2.2.1
    have Ee : e_X6_lead (nI i) (S 0) = none := by unfold e_X6_lead; rw [if_pos hk]
    rw [E7, E6, Ee]
    exact sm_S.q0 rfl h
  · obtain ⟨e1, -, e2⟩ := sm_nk R.1 hk
    refine sm_S.x h (v := 1) (show _ = some "java/lang/IndexOutOfBoundsException" from ?_) ?_ (by decide +kernel)
    · unfold e_X6_lead; rw [if_neg hk, e1]
    · unfold f_X7_lead; rw [sm_i1 e2, e2]
theorem sm_countJoined (h : sm_V S M t) (a : Int32) : sm_S S t (e_X6_countJoined a (S 0)) ["java/lang/IndexOutOfBoundsException"] S (f_X7_countJoined a M).2 ((f_X7_countJoined a M).1 = f_X6_countJoined a (S 0)) := by
  obtain ⟨n, m, d, L, ne, n1, m1, h1, h2, h3, R, h5, h6⟩ := id h
  by_cases hk : e_X6_known a (S 0) = none
  · obtain ⟨i, hi, hi20, rfl, hf⟩ := sm_kn R.1 hk
    have E7 : f_X7_countJoined (nI i) M = (f_X0_followersOf i (S 0), up2 M 0 0 0) := by
      unfold f_X7_countJoined
      rw [sm_i0 (sm_nc R.1 hi), sm_nc R.1 hi, sm_jtF (R.thr (v := 0)) hi20]
    have E6 : f_X6_countJoined (nI i) (S 0) = f_X0_followersOf i (S 0) := by
      unfold f_X6_countJoined; rw [if_pos hk, hf]
    have Ee : e_X6_countJoined (nI i) (S 0) = none := by unfold e_X6_countJoined; rw [if_pos hk]
    rw [E7, E6, Ee]
    exact sm_S.q0 rfl h
  · obtain ⟨e1, -, e2⟩ := sm_nk R.1 hk
    refine sm_S.x h (v := 1) (show _ = some "java/lang/IndexOutOfBoundsException" from ?_) ?_ (by decide +kernel)
    · unfold e_X6_countJoined; rw [if_neg hk, e1]
    · unfold f_X7_countJoined; rw [sm_i1 e2, e2]
theorem sm_over {B M : BT} {n m d : Nat} {L : Nat → Nat} {i : Nat} (R : sm_R B M n m d L) (hi : i < m) (hl : L i = i) : f_X7_isOver (nI i) M = f_X0_lacksAnswer i B := by
  have h20 := R.m20
  have e := sm_s11 R hi
  have q := (R.2.2.2.2.2.2.2.2.2.1 i hi).2.2.1 hl
  unfold f_X7_isOver f_X0_lacksAnswer
  rw [nI_clamp (by omega), e, hl, R.1.1.2.2, R.1.2.1.2.2]
  by_cases z : M 11 i = 97
  · rw [if_pos z, if_pos z, (q z).1]
  · rw [if_neg z, if_neg z]
theorem sm_lack01 (i : Nat) (B : BT) : f_X0_lacksAnswer i B = 0 ∨ f_X0_lacksAnswer i B = 1 := by
  unfold f_X0_lacksAnswer
  (repeat' split) <;> simp
theorem sm_isOverdue (h : sm_V S M t) (a : Int32) : sm_S S t (e_X6_isOverdue a (S 0)) ["java/lang/IndexOutOfBoundsException"] S (f_X7_isOverdue a M).2 ((f_X7_isOverdue a M).1 = f_X6_isOverdue a (S 0)) := by
  obtain ⟨n, m, d, L, ne, n1, m1, h1, h2, h3, R, h5, h6⟩ := id h
  by_cases hk : e_X6_known a (S 0) = none
  · obtain ⟨i, hi, hi20, rfl, hf⟩ := sm_kn R.1 hk
    have hl := R.l12 hi
    have E7 : f_X7_isOverdue (nI i) M = (f_X0_lacksAnswer (L i) (S 0), up2 M 0 0 0) := by
      unfold f_X7_isOverdue
      rw [sm_i0 (sm_nc R.1 hi), sm_nc R.1 hi, sm_ldg (R.thr (v := 0)) hi, sm_over (R.thr (v := 0)) hl.1 hl.2.1]
      rcases sm_lack01 (L i) (S 0) with z | z <;> rw [z]
      · rw [if_pos rfl]
      · rw [if_neg (by decide)]
    have E6 : f_X6_isOverdue (nI i) (S 0) = f_X0_lacksAnswer (L i) (S 0) := by
      unfold f_X6_isOverdue; rw [if_pos hk, hf, sm_ldo R hi]
    have Ee : e_X6_isOverdue (nI i) (S 0) = none := by unfold e_X6_isOverdue; rw [if_pos hk]
    rw [E7, E6, Ee]
    exact sm_S.q0 rfl h
  · obtain ⟨e1, -, e2⟩ := sm_nk R.1 hk
    refine sm_S.x h (v := 1) (show _ = some "java/lang/IndexOutOfBoundsException" from ?_) ?_ (by decide +kernel)
    · unfold e_X6_isOverdue; rw [if_neg hk, e1]
    · unfold f_X7_isOverdue; rw [sm_i1 e2, e2]
theorem sm_heads (h : sm_V S M t) (a : Int32) : sm_S S t (e_X6_heads a (S 0)) ["java/lang/IndexOutOfBoundsException", "java/util/NoSuchElementException"] S (f_X7_heads a M).2 ((f_X7_heads a M).1 = f_X6_heads a (S 0)) := by
  obtain ⟨n, m, d, L, ne, n1, m1, h1, h2, h3, R, h5, h6⟩ := id h
  by_cases hk : e_X6_known a (S 0) = none
  · obtain ⟨i, hi, hi20, rfl, hf⟩ := sm_kn R.1 hk
    have hl := R.l12 hi
    have h20 := R.m20
    have f0 := (R.2.2.2.2.2.2.2.2.2.2 (L i) hl.1).1.1
    have c : (nI (L i)).toNatClampNeg = L i := nI_clamp (by omega)
    have r0 : ∀ v k, up2 M 0 0 v 20 k = M 20 k := fun v k => up2_cc (by decide)
    by_cases hh : M 20 (L i) = -1
    · have E7 : f_X7_heads (nI i) M = (0, up2 M 0 0 2) := by
        unfold f_X7_heads
        rw [sm_i0 (sm_nc R.1 hi), sm_nc R.1 hi, sm_ldg (R.thr (v := 0)) hi, c]
        simp only [r0, up2_up2]
        rw [if_pos hh]
      refine sm_S.x h (v := 2) (show _ = some "java/util/NoSuchElementException" from ?_) ?_ (by decide +kernel)
      · unfold e_X6_heads f_X3_isTold; rw [if_pos hk, hf, sm_ldo R hi, f0, hh]; rfl
      · rw [E7]
    · have E7 : f_X7_heads (nI i) M = (M 20 (L i), up2 M 0 0 0) := by
        unfold f_X7_heads
        rw [sm_i0 (sm_nc R.1 hi), sm_nc R.1 hi, sm_ldg (R.thr (v := 0)) hi]
        simp only [up2_up2]
        rw [sm_ldg (R.thr (v := 0)) hi, c]
        simp only [r0]
        rw [if_neg hh]
      have E6 : f_X6_heads (nI i) (S 0) = M 20 (L i) := by
        unfold f_X6_heads f_X3_isTold; rw [if_pos hk, hf, sm_ldo R hi, f0, if_neg hh]; rfl
      have Ee : e_X6_heads (nI i) (S 0) = none := by
        unfold e_X6_heads f_X3_isTold; rw [if_pos hk, hf, sm_ldo R hi, f0, if_neg hh]; rfl
      rw [E7, E6, Ee]
      exact sm_S.q0 rfl h
  · obtain ⟨e1, -, e2⟩ := sm_nk R.1 hk
    refine sm_S.x h (v := 1) (show _ = some "java/lang/IndexOutOfBoundsException" from ?_) ?_ (by decide +kernel)
    · unfold e_X6_heads; rw [if_neg hk, e1]
    · unfold f_X7_heads; rw [sm_i1 e2, e2]
theorem sm_remedy (h : sm_V S M t) (a : Int32) : sm_S S t (e_X6_remedy a (S 0)) ["java/lang/IndexOutOfBoundsException", "java/util/NoSuchElementException"] S (f_X7_remedy a M).2 ((f_X7_remedy a M).1 = f_X6_remedy a (S 0)) := by
  obtain ⟨n, m, d, L, ne, n1, m1, h1, h2, h3, R, h5, h6⟩ := id h
  by_cases hk : e_X6_known a (S 0) = none
  · obtain ⟨i, hi, hi20, rfl, hf⟩ := sm_kn R.1 hk
    have hl := R.l12 hi
    have h20 := R.m20
    have f0 := (R.2.2.2.2.2.2.2.2.2.2 (L i) hl.1).1.2.1
    have c : (nI (L i)).toNatClampNeg = L i := nI_clamp (by omega)
    have r0 : ∀ v k, up2 M 0 0 v 21 k = M 21 k := fun v k => up2_cc (by decide)
    by_cases hh : M 21 (L i) = 0
    · have E7 : f_X7_remedy (nI i) M = (0, up2 M 0 0 2) := by
        unfold f_X7_remedy
        rw [sm_i0 (sm_nc R.1 hi), sm_nc R.1 hi, sm_ldg (R.thr (v := 0)) hi, c]
        simp only [r0, up2_up2]
        rw [if_pos hh]
      refine sm_S.x h (v := 2) (show _ = some "java/util/NoSuchElementException" from ?_) ?_ (by decide +kernel)
      · unfold e_X6_remedy; rw [if_pos hk, hf, sm_ldo R hi, f0, if_pos hh]
      · rw [E7]
    · have E7 : f_X7_remedy (nI i) M = (M 21 (L i), up2 M 0 0 0) := by
        unfold f_X7_remedy
        rw [sm_i0 (sm_nc R.1 hi), sm_nc R.1 hi, sm_ldg (R.thr (v := 0)) hi]
        simp only [up2_up2]
        rw [sm_ldg (R.thr (v := 0)) hi, c]
        simp only [r0]
        rw [if_neg hh]
      have E6 : f_X6_remedy (nI i) (S 0) = M 21 (L i) := by
        unfold f_X6_remedy; rw [if_pos hk, hf, sm_ldo R hi, f0, if_neg hh]
      have Ee : e_X6_remedy (nI i) (S 0) = none := by
        unfold e_X6_remedy; rw [if_pos hk, hf, sm_ldo R hi, f0, if_neg hh]
      rw [E7, E6, Ee]
      exact sm_S.q0 rfl h
  · obtain ⟨e1, -, e2⟩ := sm_nk R.1 hk
    refine sm_S.x h (v := 1) (show _ = some "java/lang/IndexOutOfBoundsException" from ?_) ?_ (by decide +kernel)
    · unfold e_X6_remedy; rw [if_neg hk, e1]
    · unfold f_X7_remedy; rw [sm_i1 e2, e2]
theorem sm_isAccepted (h : sm_V S M t) (a : Int32) : sm_S S t (e_X6_isAccepted a (S 0)) ["java/lang/IndexOutOfBoundsException", "java/util/NoSuchElementException"] S (f_X7_isAccepted a M).2 ((f_X7_isAccepted a M).1 = f_X6_isAccepted a (S 0)) := by
  obtain ⟨n, m, d, L, ne, n1, m1, h1, h2, h3, R, h5, h6⟩ := id h
  by_cases hk : e_X6_known a (S 0) = none
  · obtain ⟨i, hi, hi20, rfl, hf⟩ := sm_kn R.1 hk
    have hl := R.l12 hi
    have h20 := R.m20
    have f0 := (R.2.2.2.2.2.2.2.2.2.2 (L i) hl.1).2.2.2.1
    have f5 := (R.2.2.2.2.2.2.2.2.2.2 (L i) hl.1).2.2.1
    have c : (nI (L i)).toNatClampNeg = L i := nI_clamp (by omega)
    have r0 : ∀ v k, up2 M 0 0 v 22 k = M 22 k := fun v k => up2_cc (by decide)
    have b : e_X6_isAccepted (nI i) (S 0) = (if S 0 (50 + L i) 4 = 0 then some "java/util/NoSuchElementException" else none) := by
      unfold e_X6_isAccepted; rw [if_pos hk, hf, sm_ldo R hi]
    have g7 : f_X7_isAccepted (nI i) M = (if M 22 (L i) = -1 then (if M 22 (L i) = 1 then (1, up2 M 0 0 2) else (0, up2 M 0 0 2)) else (if M 22 (L i) = 1 then (1, up2 M 0 0 0) else (0, up2 M 0 0 0))) := by
      unfold f_X7_isAccepted
      rw [sm_i0 (sm_nc R.1 hi), sm_nc R.1 hi, sm_ldg (R.thr (v := 0)) hi, c]
      simp only [r0, up2_up2]
    rcases f0 with ⟨z1, z2⟩ | ⟨z1, z2⟩
    · refine sm_S.x h (v := 2) (show _ = some "java/util/NoSuchElementException" from ?_) ?_ (by decide +kernel)
      · rw [b, if_pos z1]
      · rw [g7, if_pos z2]; split <;> rfl
    · have hne : ¬ M 22 (L i) = -1 := by
        rw [z2]
        rcases f5 with w | w <;> rw [w] <;> decide
      have E7 : f_X7_isAccepted (nI i) M = (S 0 (50 + L i) 5, up2 M 0 0 0) := by
        rw [g7, if_neg hne, z2]
        rcases f5 with w | w <;> rw [w] <;> rfl
      have E6 : f_X6_isAccepted (nI i) (S 0) = S 0 (50 + L i) 5 := by
        unfold f_X6_isAccepted; rw [if_pos hk, hf, sm_ldo R hi, z1]; rfl
      have Ee : e_X6_isAccepted (nI i) (S 0) = none := by
        rw [b, z1]; rfl
      rw [E7, E6, Ee]
      exact sm_S.q0 rfl h
  · obtain ⟨e1, -, e2⟩ := sm_nk R.1 hk
    refine sm_S.x h (v := 1) (show _ = some "java/lang/IndexOutOfBoundsException" from ?_) ?_ (by decide +kernel)
    · unfold e_X6_isAccepted; rw [if_neg hk, e1]
    · unfold f_X7_isAccepted; rw [sm_i1 e2, e2]
theorem sm_acz (h : sm_V S M t) (a : Int32) : okz (S 0 (50 + f_X0_leadOf (f_X6_known a (S 0)) (S 0)) 5) := by
  obtain ⟨n, m, d, L, ne, n1, m1, h1, h2, h3, R, h5, h6⟩ := id h
  have h20 := R.m20
  have key : ∀ i, i < m → okz (S 0 (50 + f_X0_leadOf i (S 0)) 5) := by
    intro i hi
    rw [sm_ldo R hi]
    exact okz_01 (R.2.2.2.2.2.2.2.2.2.2 (L i) (R.l12 hi).1).2.2.1
  by_cases hk : e_X6_known a (S 0) = none
  · obtain ⟨i, hi, hi20, rfl, hf⟩ := sm_kn R.1 hk
    rw [hf]
    exact key i hi
  · have e0 : f_X6_known a (S 0) = 0 := by
      unfold e_X6_known at hk
      unfold f_X6_known
      by_cases h1 : a < 0
      · rw [if_pos h1]
      · rw [if_neg h1] at hk ⊢
        by_cases h2 : a < S 0 0 4
        · rw [if_pos h2] at hk; exact absurd rfl hk
        · rw [if_neg h2]
    rw [e0]
    rcases R.1.2.2.2.2.2.2 with z | z
    · exact key 0 z
    · rcases Nat.eq_zero_or_pos m with w | w
      · have e4 := R.1.1.2.1
        rw [w] at e4
        have el : f_X0_leadOf 0 (S 0) = 0 := by
          unfold f_X0_leadOf
          rw [e4]
          by_cases q : S 0 (10 + 0) 12 < 0
          · rw [if_pos q]
          · rw [if_neg q, if_pos (by
              obtain ⟨j, hj, e⟩ := nI_of q
              rw [e]; exact nI_le (Nat.zero_le _) hj)]
        rw [el]
        exact okz_01 (Or.inl z)
      · exact key 0 w
theorem sm_dys {B M : BT} {n m d : Nat} {L : Nat → Nat} {i : Nat} (R : sm_R B M n m d L) (hi : i < m) : f_X7_daysOf (nI i) M = f_X1_daysBy i (B 0 5) B := by
  have h20 := R.m20
  have hl := R.l12 hi
  have c : (nI (L i)).toNatClampNeg = L i := nI_clamp (by omega)
  obtain ⟨k1, k2, k3, k4, k5, k6⟩ := R.2.2.2.2.2.2.2.2.1 i hi
  have t7 := (R.2.2.2.2.2.1 i hi).1.2.2.2.2.2
  unfold f_X7_daysOf f_X1_daysBy
  rw [sm_std R hi, sm_ldg R hi, c, nI_clamp (by omega), k6, ← t7, R.1.1.2.2, R.1.2.1.2.2]
  by_cases z : f_X7_isClosed (M 11 (L i)) = 0
  · rw [if_pos z, if_pos (k3 z)]
    by_cases w : B (10 + i) 14 = -1
    · rw [if_pos w, if_pos w]; exact i32_sub3 _ _ _
    · rw [if_neg w, if_neg w]; exact i32_sub3 _ _ _
  · have e97 : M 11 (L i) ≠ 97 := fun e => z (by rw [e]; decide)
    have w := k5 e97
    obtain ⟨y1, y2⟩ := k2 z
    rw [if_neg z, if_neg (show ¬ B (10 + i) 13 = -1 by rw [y1]; exact y2), if_pos w, if_pos w, y1]; exact i32_sub3 _ _ _
theorem sm_days (h : sm_V S M t) (a : Int32) : sm_S S t (e_X6_days a (S 0)) ["java/lang/IndexOutOfBoundsException"] S (f_X7_days a M).2 ((f_X7_days a M).1 = f_X6_days a (S 0)) := by
  obtain ⟨n, m, d, L, ne, n1, m1, h1, h2, h3, R, h5, h6⟩ := id h
  by_cases hk : e_X6_known a (S 0) = none
  · obtain ⟨i, hi, hi20, rfl, hf⟩ := sm_kn R.1 hk
    have E7 : f_X7_days (nI i) M = (f_X1_daysBy i (S 0 0 5) (S 0), up2 M 0 0 0) := by
      unfold f_X7_days
      rw [sm_i0 (sm_nc R.1 hi), sm_nc R.1 hi, sm_dys (R.thr (v := 0)) hi]
    have E6 : f_X6_days (nI i) (S 0) = f_X1_daysBy i (S 0 0 5) (S 0) := by
      unfold f_X6_days; rw [if_pos hk, hf]
    have Ee : e_X6_days (nI i) (S 0) = none := by unfold e_X6_days; rw [if_pos hk]
    rw [E7, E6, Ee]
    exact sm_S.q0 rfl h
  · obtain ⟨e1, -, e2⟩ := sm_nk R.1 hk
    refine sm_S.x h (v := 1) (show _ = some "java/lang/IndexOutOfBoundsException" from ?_) ?_ (by decide +kernel)
    · unfold e_X6_days; rw [if_neg hk, e1]
    · unfold f_X7_days; rw [sm_i1 e2, e2]
theorem sm_checksum (h : sm_V S M t) : (f_X7_checksum M).1 = f_X6_checksum (S 0) ∧ sm_V S (f_X7_checksum M).2 (t + 1) := by
  obtain ⟨n, m, d, L, ne, n1, m1, h1, h2, h3, R, h5, h6⟩ := id h
  refine ⟨?_, h.thr⟩
  have h20 := R.m20
  unfold f_X7_checksum f_X6_checksum
  rw [R.1.1.2.1, R.1.2.1.2.1, nI_clamp (by omega), R.1.1.2.2, R.1.2.1.2.2]
  have key : ∀ k, k ≤ m → L_checksum7 M k = L_checksum (S 0) k := by
    intro k
    induction k with
    | zero => intro _; rfl
    | succ k ih =>
      intro hk
      show b_checksum7 M k (L_checksum7 M k) = b_checksum (S 0) k (L_checksum (S 0) k)
      unfold b_checksum7 b_checksum
      rw [ih (by omega), sm_std (R.thr (v := 0)) (show k < m by omega), sm_dys (R.thr (v := 0)) (show k < m by omega), sm_s11 R (show k < m by omega), up2_cc (by decide)]
  rw [key m (Nat.le_refl _)]
theorem sm_soundq (h : sm_V S M t) : f_X6_isSound S = 1 ∧ (f_X7_isSound M).1 = 1 ∧ sm_V (va_up S 1 (f_X2_tellAgain S (S 1))) (f_X7_isSound M).2 (t + 1) := by
  obtain ⟨n, m, d, L, ne, n1, m1, h1, h2, h3, R, h5, h6⟩ := id h
  refine ⟨sm_mats R h5, rfl, ?_⟩
  have e0 : ∀ Y : BT, va_up S 1 Y 0 = S 0 := fun Y => by simp [va_up]
  have e2 : ∀ Y : BT, va_up S 1 Y 2 = S 2 := fun Y => by simp [va_up]
  obtain ⟨n9, m9, hC9⟩ := cnx_tellAgain h2 S ((S 2 0 1).toNatClampNeg)
  refine ⟨n, m, d, L, ne, n9, m9, ?_, ?_, h3.up0 (by decide) (by decide), ?_, ⟨?_, h5.2.1, fun B1 => ?_⟩, by omega⟩
  · rw [e0]; exact h1
  · rw [va_up_at]; exact hC9
  · rw [e0]; exact R.thr
  · rw [e2]; exact h5.1
  · rw [e0, sm_tell_c (S := S) ne (fun q _ => by rw [e2])]; exact h5.2.2 B1
end SQ
