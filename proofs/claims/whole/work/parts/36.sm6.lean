/-! counts, what is due next, means, shares -/
section SC
variable {S : Nat → BT} {M : BT} {t : Nat}
theorem sm_countState (h : sm_V S M t) (a : Int32) : sm_S S t (e_X6_countState a (S 0)) ["java/lang/IllegalArgumentException"] S (f_X7_countState a M).2 ((f_X7_countState a M).1 = f_X6_countState a (S 0)) := by
  obtain ⟨n, m, d, L, ne, n1, m1, h1, h2, h3, R, h5, h6⟩ := id h
  have h20 := R.m20
  by_cases hs : f_X7_isState a = 0
  · have hx : ¬ 0 ≤ ixB 0 a := fun z => (sm_ixs a).mp z hs
    refine sm_S.x h (v := 1) (show _ = some "java/lang/IllegalArgumentException" from ?_) ?_ (by decide +kernel)
    · unfold e_X6_countState; rw [if_neg hx]
    · unfold f_X7_countState j_X7_countState_1; rw [if_pos hs]
  · have hx : 0 ≤ ixB 0 a := (sm_ixs a).mpr hs
    have hj : j_X7_countState_1 a = 0 := by unfold j_X7_countState_1; rw [if_neg hs]
    have key : ∀ k, k ≤ m → L_countState7 a M k = L_countStanding a (S 0) k := by
      intro k
      induction k with
      | zero => intro _; rfl
      | succ k ih =>
        intro hk
        show b_countState7 a M k (L_countState7 a M k) = b_countStanding a (S 0) k (L_countStanding a (S 0) k)
        unfold b_countState7 b_countStanding
        rw [ih (by omega), hj, if_pos rfl, sm_std (R.thr (v := 0)) (show k < m by omega), sm_s11 R (show k < m by omega), up2_cc (by decide), Int32.add_zero]
    have E7 : f_X7_countState a M = (f_X0_countStanding a (S 0), up2 M 0 0 0) := by
      unfold f_X7_countState f_X0_countStanding
      rw [R.1.1.2.1, R.1.2.1.2.1, nI_clamp (by omega), key m (Nat.le_refl _), hj]
    have E6 : f_X6_countState a (S 0) = f_X0_countStanding a (S 0) := by unfold f_X6_countState; rw [if_pos hx]
    have Ee : e_X6_countState a (S 0) = none := by unfold e_X6_countState; rw [if_pos hx]
    rw [E7, E6, Ee]
    exact sm_S.q0 rfl h
theorem sm_countOf (h : sm_V S M t) (a : Int32) : sm_S S t (e_X6_countOf a (S 0)) ["java/lang/IllegalArgumentException"] S (f_X7_countOf a M).2 ((f_X7_countOf a M).1 = f_X6_countOf a (S 0)) := by
  obtain ⟨n, m, d, L, ne, n1, m1, h1, h2, h3, R, h5, h6⟩ := id h
  have h20 := R.m20
  by_cases hs : e_X6_requireRange a 0 49 = none
  · have hj : j_X7_countOf_1 a = 0 := by unfold j_X7_countOf_1; rw [(sm_rg hs).1]; rfl
    have key : ∀ k, k ≤ m → L_countOf7 a M k = L_countTold a (S 0) k := by
      intro k
      induction k with
      | zero => intro _; rfl
      | succ k ih =>
        intro hk
        show b_countOf7 a M k (L_countOf7 a M k) = b_countTold a (S 0) k (L_countTold a (S 0) k)
        unfold b_countOf7 b_countTold
        rw [ih (by omega), hj, if_pos rfl, Int32.add_zero, (R.2.2.2.2.2.1 k (by omega)).1.2.2.2.1]
    have E7 : f_X7_countOf a M = (f_X0_countTold a (S 0), up2 M 0 0 0) := by
      unfold f_X7_countOf f_X0_countTold
      rw [R.1.1.2.1, R.1.2.1.2.1, nI_clamp (by omega), key m (Nat.le_refl _), hj]
    have E6 : f_X6_countOf a (S 0) = f_X0_countTold a (S 0) := by unfold f_X6_countOf; rw [if_pos hs]
    have Ee : e_X6_countOf a (S 0) = none := by unfold e_X6_countOf; rw [if_pos hs]
    rw [E7, E6, Ee]
    exact sm_S.q0 rfl h
  · obtain ⟨e1, e2⟩ := sm_rgN hs
    refine sm_S.x h (v := 1) (show _ = some "java/lang/IllegalArgumentException" from ?_) ?_ (by decide +kernel)
    · unfold e_X6_countOf; rw [if_neg hs, e1]
    · unfold f_X7_countOf j_X7_countOf_1; rw [e2, if_pos rfl]
/-- the least of those that count: none, or one of them that none is below -/
def sm_least (k : Nat) (ok : Nat → Prop) (v : Nat → Int32) (z : Int32) : Prop := (z = -1 ∧ ∀ j, j < k → ¬ ok j) ∨ ((∃ j, j < k ∧ ok j ∧ z = v j) ∧ ∀ j, j < k → ok j → z ≤ v j)
theorem sm_least_s {k : Nat} {ok : Nat → Prop} {v : Nat → Int32} {z z' : Int32} (hv : ∀ j, ok j → ¬ v j = -1) (h : sm_least k ok v z) (hn : ¬ ok k → z' = z) (h1 : ok k → z = -1 → z' = v k) (h2 : ok k → ¬ z = -1 → z ≤ v k → z' = z) (h3 : ok k → ¬ z = -1 → ¬ z ≤ v k → z' = v k) : sm_least (k + 1) ok v z' := by
  by_cases hk : ok k
  · by_cases e : z = -1
    · rw [h1 hk e]
      refine Or.inr ⟨⟨k, by omega, hk, rfl⟩, fun j hj ho => ?_⟩
      rcases h with ⟨-, q⟩ | ⟨⟨j9, a1, a2, a3⟩, q⟩
      · have : j = k := by
          rcases Nat.lt_or_ge j k with w | w
          · exact absurd ho (q j w)
          · omega
        subst this; rw [fa_le]; omega
      · exact absurd (a3.symm.trans e) (hv j9 a2)
    · rcases h with ⟨q, -⟩ | ⟨⟨j9, a1, a2, a3⟩, q⟩
      · exact absurd q e
      · by_cases w : z ≤ v k
        · rw [h2 hk e w]
          refine Or.inr ⟨⟨j9, by omega, a2, a3⟩, fun j hj ho => ?_⟩
          rcases Nat.lt_or_ge j k with y | y
          · exact q j y ho
          · have : j = k := by omega
            subst this; exact w
        · rw [h3 hk e w]
          refine Or.inr ⟨⟨k, by omega, hk, rfl⟩, fun j hj ho => ?_⟩
          rcases Nat.lt_or_ge j k with y | y
          · have := q j y ho
            rw [fa_le] at this w ⊢
            omega
          · have : j = k := by omega
            subst this; rw [fa_le]; omega
  · rw [hn hk]
    rcases h with ⟨q1, q⟩ | ⟨⟨j9, a1, a2, a3⟩, q⟩
    · refine Or.inl ⟨q1, fun j hj => ?_⟩
      rcases Nat.lt_or_ge j k with y | y
      · exact q j y
      · have : j = k := by omega
        subst this; exact hk
    · refine Or.inr ⟨⟨j9, by omega, a2, a3⟩, fun j hj ho => ?_⟩
      rcases Nat.lt_or_ge j k with y | y
      · exact q j y ho
      · have : j = k := by omega
        subst this; exact absurd ho hk
theorem sm_least_u {k : Nat} {ok ok' : Nat → Prop} {v v' : Nat → Int32} {z z' : Int32} (h : sm_least k ok v z) (h' : sm_least k ok' v' z') (f : ∀ j, j < k → ok j → ∃ j', j' < k ∧ ok' j' ∧ v' j' = v j) (b : ∀ j, j < k → ok' j → ∃ j', j' < k ∧ ok j' ∧ v j' = v' j) : z = z' := by
  rcases h with ⟨e, q⟩ | ⟨⟨j, a1, a2, a3⟩, q⟩
  · rcases h' with ⟨e', q'⟩ | ⟨⟨j', b1, b2, b3⟩, q'⟩
    · rw [e, e']
    · obtain ⟨j9, c1, c2, -⟩ := b j' b1 b2
      exact absurd c2 (q j9 c1)
  · rcases h' with ⟨e', q'⟩ | ⟨⟨j', b1, b2, b3⟩, q'⟩
    · obtain ⟨j9, c1, c2, -⟩ := f j a1 a2
      exact absurd c2 (q' j9 c1)
    · obtain ⟨j8, d1, d2, d3⟩ := f j a1 a2
      obtain ⟨j9, c1, c2, c3⟩ := b j' b1 b2
      have g1 := q' j8 d1 d2
      have g2 := q j9 c1 c2
      rw [d3, ← a3, fa_le] at g1
      rw [c3, ← b3, fa_le] at g2
      exact Int32.toInt_inj.mp (by omega)
theorem sm_dueE {B M : BT} {n m d : Nat} {L : Nat → Nat} (R : sm_R B M n m d L) : f_X0_earliestDue B = L_nextDue7 M m := by
  have h20 := R.m20
  have hd9 := R.1.2.2.2.2.1
  have hd := R.1.1.2.2
  have hM := R.1.2.1.2.2
  have hd1 : ∀ x : Int32, ¬ x < nI d → ¬ x = -1 := by
    intro x h e
    apply h
    rw [e, fa_lt, nI_toInt (by omega), show (-1 : Int32).toInt = -1 by decide]
    omega
  have c1 : ∀ k, k ≤ m → sm_least k (fun j => ¬ f_X0_dueOf j B < nI d) (fun j => f_X0_dueOf j B) (L_earliestDue B k) := by
    intro k
    induction k with
    | zero => intro _; exact Or.inl ⟨rfl, fun j hj => by omega⟩
    | succ k ih =>
      intro hk
      show sm_least (k + 1) _ _ (b_earliestDue B k (L_earliestDue B k))
      unfold b_earliestDue
      rw [hd]
      refine sm_least_s (fun j w => hd1 _ w) (ih (by omega)) (fun w => ?_) (fun w e => ?_) (fun w e y => ?_) (fun w e y => ?_)
      · rw [if_pos (Classical.not_not.mp w)]
      · rw [if_neg w, if_pos e]
      · rw [if_neg w, if_neg e, if_pos y]
      · rw [if_neg w, if_neg e, if_neg y]
  have c2 : ∀ k, k ≤ m → sm_least k (fun j => (L j = j ∧ (M 11 j = 97 ∨ M 11 j = 100)) ∧ ¬ M 16 j < nI d) (fun j => M 16 j) (L_nextDue7 M k) := by
    intro k
    induction k with
    | zero => intro _; exact Or.inl ⟨rfl, fun j hj => by omega⟩
    | succ k ih =>
      intro hk
      show sm_least (k + 1) _ _ (b_nextDue7 M k (L_nextDue7 M k))
      unfold b_nextDue7 j_X7_nextDue_61
      have hjn := sm_jnd7 R (show k < m by omega)
      have e12 : j_X7_nextDue_12 M k = (if (L k = k ∧ (M 11 k = 97 ∨ M 11 k = 100)) ∧ ¬ M 16 k < nI d then 1 else 0) := by
        unfold j_X7_nextDue_12
        rw [hjn, hM]
        by_cases y1 : L k = k <;> by_cases y2 : M 11 k = 97 <;> by_cases y3 : M 11 k = 100 <;> by_cases y4 : M 16 k < nI d <;> simp [y1, y2, y3, y4]
      rw [e12]
      refine sm_least_s (fun j w => hd1 _ w.2) (ih (by omega)) (fun w => ?_) (fun w e => ?_) (fun w e y => ?_) (fun w e y => ?_)
      · rw [if_neg w, if_pos rfl]
      · rw [if_pos w, if_neg (by decide), if_pos e]
      · rw [if_pos w, if_neg (by decide), if_neg e, if_pos y]
      · rw [if_pos w, if_neg (by decide), if_neg e, if_neg y]
  have eq1 : ∀ j, j < m → f_X0_dueOf j B = (if M 11 (L j) = 97 then M 16 (L j) else if M 11 (L j) = 100 then M 16 (L j) else -1) := by
    intro j hj
    obtain ⟨l1, l2, -, -⟩ := R.l12 hj
    unfold f_X0_dueOf
    rw [sm_ldo R hj, sm_s11 R l1, l2]
    obtain ⟨-, -, i3, i4, -⟩ := R.2.2.2.2.2.2.2.2.2.1 (L j) l1
    by_cases y1 : M 11 (L j) = 97
    · rw [if_pos y1, if_pos y1, (i3 l2 y1).1]
    · rw [if_neg y1, if_neg y1]
      by_cases y2 : M 11 (L j) = 100
      · rw [if_pos y2, if_pos y2, i4 l2 y2]
      · rw [if_neg y2, if_neg y2]
  unfold f_X0_earliestDue
  rw [R.1.1.2.1, nI_clamp (by omega)]
  refine sm_least_u (c1 m (Nat.le_refl _)) (c2 m (Nat.le_refl _)) (fun j hj ho => ?_) (fun j hj ho => ?_)
  · obtain ⟨l1, l2, -, -⟩ := R.l12 hj
    have e := eq1 j hj
    have ho' : ¬ f_X0_dueOf j B < nI d := ho
    by_cases y1 : M 11 (L j) = 97
    · rw [if_pos y1] at e
      exact ⟨L j, l1, ⟨⟨l2, Or.inl y1⟩, by rw [← e]; exact ho'⟩, e.symm⟩
    · rw [if_neg y1] at e
      by_cases y2 : M 11 (L j) = 100
      · rw [if_pos y2] at e
        exact ⟨L j, l1, ⟨⟨l2, Or.inr y2⟩, by rw [← e]; exact ho'⟩, e.symm⟩
      · rw [if_neg y2] at e
        exact absurd e (hd1 _ ho')
  · have ho' : (L j = j ∧ (M 11 j = 97 ∨ M 11 j = 100)) ∧ ¬ M 16 j < nI d := ho
    obtain ⟨⟨y1, y2⟩, y3⟩ := ho'
    have e := eq1 j hj
    rw [y1] at e
    have e2 : f_X0_dueOf j B = M 16 j := by
      rcases y2 with w | w
      · rw [e, if_pos w]
      · rw [e]
        by_cases w2 : M 11 j = 97
        · rw [if_pos w2]
        · rw [if_neg w2, if_pos w]
    exact ⟨j, hj, by show ¬ f_X0_dueOf j B < nI d; rw [e2]; exact y3, e2⟩
theorem sm_nextDue (h : sm_V S M t) : sm_S S t (e_X6_nextDue (S 0)) ["java/util/NoSuchElementException"] S (f_X7_nextDue M).2 ((f_X7_nextDue M).1 = f_X6_nextDue (S 0)) := by
  obtain ⟨n, m, d, L, ne, n1, m1, h1, h2, h3, R, h5, h6⟩ := id h
  have h20 := R.m20
  have e := sm_dueE R
  unfold e_X6_nextDue f_X6_nextDue f_X7_nextDue
  rw [R.1.2.1.2.1, nI_clamp (by omega), e]
  by_cases z : L_nextDue7 M m = -1
  · rw [if_pos z, if_pos z, if_pos z]
    exact sm_S.x h (v := 1) rfl rfl (by decide +kernel)
  · rw [if_neg z, if_neg z, if_neg z]
    exact sm_S.q0 rfl h
theorem sm_mean {B M : BT} {n m d : Nat} {L : Nat → Nat} (R : sm_R B M n m d L) : ∀ k, k ≤ m → L_meanDays7 M k = (L_sumOfClosedDays B k, L_countClosed B k) := by
  intro k
  induction k with
  | zero => intro _; rfl
  | succ k ih =>
    intro hk
    show b_meanDays7 M k (L_meanDays7 M k) = (b_sumOfClosedDays B k (L_sumOfClosedDays B k), b_countClosed B k (L_countClosed B k))
    unfold b_meanDays7 b_sumOfClosedDays b_countClosed
    rw [ih (by omega), sm_std R (show k < m by omega), sm_dys R (show k < m by omega), sm_s11 R (show k < m by omega), sm_clE]
    by_cases z : f_X7_isClosed (M 11 (L k)) = 0
    · rw [if_pos z, if_pos z, if_pos z]
    · rw [if_neg z, if_neg z, if_neg z]
theorem sm_meanDays (h : sm_V S M t) : sm_S S t (e_X6_meanDays (S 0)) ["java/lang/ArithmeticException"] S (f_X7_meanDays M).2 ((f_X7_meanDays M).1 = f_X6_meanDays (S 0)) := by
  obtain ⟨n, m, d, L, ne, n1, m1, h1, h2, h3, R, h5, h6⟩ := id h
  have h20 := R.m20
  unfold e_X6_meanDays f_X6_meanDays f_X7_meanDays f_X0_countClosed f_X0_sumOfClosedDays
  rw [R.1.2.1.2.1, R.1.1.2.1, nI_clamp (by omega), sm_mean R m (Nat.le_refl _)]
  by_cases z : L_countClosed (S 0) m = 0
  · rw [if_pos z, if_pos z, if_pos z]
    exact sm_S.x h (v := 1) rfl rfl (by decide +kernel)
  · rw [if_neg z, if_neg z, if_neg z]
    exact sm_S.q0 rfl h
theorem sm_rof {B M : BT} {n m d : Nat} {a : Int32} (h : sm_H B M n m d) (hk : e_X6_requireOffice a B = none) : ∃ o, o < n ∧ o < 6 ∧ a = nI o ∧ f_X7_isOffice a M = 1 := by
  obtain ⟨⟨h3, -⟩, ⟨h2, -⟩, h6, -⟩ := h
  unfold e_X6_requireOffice at hk
  by_cases h1 : a < 0
  · rw [if_pos h1] at hk; exact absurd hk (Option.some_ne_none _)
  · rw [if_neg h1] at hk
    by_cases h4 : a < B 0 3
    · obtain ⟨j, hj, rfl⟩ := nI_of h1
      rw [h3, nI_ltI hj (by omega)] at h4
      exact ⟨j, h4, by omega, rfl, by unfold f_X7_isOffice; rw [h2]; exact sm_in1 h4 (by omega)⟩
    · rw [if_neg h4] at hk; exact absurd hk (Option.some_ne_none _)
theorem sm_rofN {B M : BT} {n m d : Nat} {a : Int32} (h : sm_H B M n m d) (hk : ¬ e_X6_requireOffice a B = none) : e_X6_requireOffice a B = some "java/lang/IndexOutOfBoundsException" ∧ f_X7_isOffice a M = 0 := by
  obtain ⟨⟨h3, -⟩, ⟨h2, -⟩, h6, -⟩ := h
  unfold e_X6_requireOffice at hk ⊢
  have key : (¬ a < 0 → ¬ a < nI n) → f_X7_isOffice a M = 0 := fun q => by unfold f_X7_isOffice; rw [h2]; exact sm_in0 (by omega) q
  by_cases h1 : a < 0
  · rw [if_pos h1]; exact ⟨rfl, key (fun z => absurd h1 z)⟩
  · rw [if_neg h1] at hk ⊢
    by_cases h4 : a < B 0 3
    · rw [if_pos h4] at hk; exact absurd rfl hk
    · rw [if_neg h4]; exact ⟨rfl, key (fun _ => by rw [← h3]; exact h4)⟩
theorem sm_heededShare (h : sm_V S M t) (a : Int32) : sm_S S t (e_X6_heededShare a (S 0)) ["java/lang/IndexOutOfBoundsException", "java/lang/ArithmeticException"] S (f_X7_heededShare a M).2 ((f_X7_heededShare a M).1 = f_X6_heededShare a (S 0)) := by
  obtain ⟨n, m, d, L, ne, n1, m1, h1, h2, h3, R, h5, h6⟩ := id h
  unfold e_X6_heededShare f_X6_heededShare f_X7_heededShare
  by_cases hk : e_X6_requireOffice a (S 0) = none
  · obtain ⟨o, ho, ho6, rfl, hf⟩ := sm_rof R.1 hk
    obtain ⟨-, -, o2, o3, -⟩ := R.2.2.1 o ho
    rw [if_pos hk, if_pos hk, hf, nI_clamp (by omega), o2, o3, if_neg (show ¬ (1 : Int32) = 0 by decide)]
    by_cases z : M 3 o = 0
    · rw [if_pos z, if_pos z, if_pos z]
      exact sm_S.x h (v := 2) rfl rfl (by decide +kernel)
    · rw [if_neg z, if_neg z, if_neg z]
      exact sm_S.q0 rfl h
  · obtain ⟨e1, e2⟩ := sm_rofN R.1 hk
    rw [if_neg hk, if_neg hk, e2, if_pos rfl]
    exact sm_S.x h (v := 1) e1 rfl (by decide +kernel)
end SC
