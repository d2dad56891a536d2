/-! what is told again stands as it does -/
section SY
variable {n m : Nat} {B B' : BT}
theorem sm_Z.toCase (h : sm_Z n m B B') {i : Nat} (hi : i < m) (a b : Int32) : sm_ZZ n m (f_X0_applyToCase a i b B) (f_X0_applyToCase a i b B') := by
  unfold f_X0_applyToCase
  refine sm_ZZ.ite _ (h.putToOffice hi) (sm_ZZ.ite _ (h.giveTime hi b) (sm_ZZ.ite _ (h.urge hi) (sm_ZZ.ite _ ?_ (sm_ZZ.ite _ ?_ (sm_ZZ.ite _ (h.putBehind hi b) (sm_ZZ.ite _ (h.setFree hi) (sm_ZZ.ite _ (h.conclude hi b) (sm_ZZ.ite _ (sm_ZZ.ite _ ?_ ?_) (sm_ZZ.ite _ ?_ (sm_ZZ.ite _ (h.insist hi) (sm_ZZ.ite _ (h.takeBack hi) ⟨rfl, h⟩)))))))))))
  · have z := (h.moveAll i 115).2
    refine ⟨?_, z⟩
    simp only [z.b.2.2, z.q hi (show 0 < 4 by decide)]
  · have u := h.up (c := 30 + i) (k := 3) (v := 1) (v' := 1) rfl (by omega)
    exact u.moveAll i 115
  · have u := (h.up (c := 50 + i) (k := 4) (v := 1) (v' := 1) rfl (by omega)).up (c := 50 + i) (k := 5) (v := 1) (v' := 1) rfl (by omega)
    exact ⟨u.f hi (by decide), u⟩
  · have u := (h.up (c := 50 + i) (k := 4) (v := 1) (v' := 1) rfl (by omega)).up (c := 50 + i) (k := 5) (v := 0) (v' := 0) rfl (by omega)
    exact ⟨u.f hi (by decide), u⟩
  · obtain ⟨e1, e2⟩ := h.off hi
    have z := h.moveAll i 104
    rw [← e1, ← h.o e2 (show 3 < 4 by decide), ← z.1]
    have u := z.2.up (c := 4 + f_X0_officeOf i B) (k := 3) (v := B (4 + f_X0_officeOf i B) 3 + (f_X0_moveAll i 104 B).1) rfl (by omega)
    refine ⟨?_, u⟩
    simp only [u.b.2.2, u.f hi (show 2 < 6 by decide)]
theorem sm_Z.apply (h : sm_Z n m B B') (a1 a2 a3 a4 a5 : Int32) : ∃ n' m', sm_ZZ n' m' (f_X0_apply a1 a2 a3 a4 a5 B) (f_X0_apply a1 a2 a3 a4 a5 B') := by
  unfold f_X0_apply
  by_cases h1 : a1 = 1
  · rw [if_pos h1, if_pos h1]; exact h.openOffice a2 a3
  · rw [if_neg h1, if_neg h1]
    by_cases h2 : a1 = 2
    · rw [if_pos h2, if_pos h2]
      have u := h.up (c := 0) (k := 5) (show B 0 5 + a2 = B' 0 5 + a2 by rw [h.b.2.2]) (by omega)
      exact ⟨n, m, u.b.2.2, u⟩
    · rw [if_neg h2, if_neg h2]
      by_cases h3 : a1 = 3
      · rw [if_pos h3, if_pos h3]; exact ⟨n, m, h.weigh a2 a3⟩
      · rw [if_neg h3, if_neg h3]
        by_cases h4 : a1 = 4
        · rw [if_pos h4, if_pos h4]; exact h.hear a2 a3 a4 a5
        · rw [if_neg h4, if_neg h4]
          refine ⟨n, m, ?_⟩
          by_cases h5 : a2 < 0
          · rw [if_pos h5, if_pos h5]; exact ⟨rfl, h⟩
          · rw [if_neg h5, if_neg h5, ← h.b.2.1]
            by_cases h6 : a2 < B 0 4
            · rw [if_pos h6, if_pos h6]
              have hl : a2.toNatClampNeg < m := (vinC (m := m) (N := 20) h5 (i32_nle h6) h.2.2.1 h.2.2.2.2.1 (by decide)).2
              exact sm_ZZ.ite _ (h.toCase hl a1 a3) (h.atIntake hl a1 a3)
            · rw [if_neg h6, if_neg h6]; exact ⟨rfl, h⟩
theorem sm_Z.cast {n' m' : Nat} (h : sm_Z n m B B') (h3 : B 0 3 = nI n') (h4 : B 0 4 = nI m') (hn : n' ≤ 6) (hm : m' ≤ 20) : sm_Z n' m' B B' := by
  have h6 := h.2.2.2.1
  have h20 := h.2.2.2.2.1
  have e1 : n = n' := (nI_eq (by omega) (by omega)).mp (h.2.1.symm.trans h3)
  have e2 : m = m' := (nI_eq (by omega) (by omega)).mp (h.2.2.1.symm.trans h4)
  rw [← e1, ← e2]; exact h
end SY
theorem sm_keep {S : Nat → BT} {ne : Nat} (h : S 2 0 1 = nI ne) (hne : ne < 512) (k a1 a2 a3 a4 : Int32) : (f_X2_keep k a1 a2 a3 a4 S 0 = S 0 ∧ f_X2_keep k a1 a2 a3 a4 S 1 = S 1) ∧ f_X2_keep k a1 a2 a3 a4 S 2 0 1 = nI (ne + 1) ∧ (f_X2_keep k a1 a2 a3 a4 S 2 1 (ne * 5 + 0) = k ∧ f_X2_keep k a1 a2 a3 a4 S 2 1 (ne * 5 + 1) = a1 ∧ f_X2_keep k a1 a2 a3 a4 S 2 1 (ne * 5 + 2) = a2 ∧ f_X2_keep k a1 a2 a3 a4 S 2 1 (ne * 5 + 3) = a3 ∧ f_X2_keep k a1 a2 a3 a4 S 2 1 (ne * 5 + 4) = a4) ∧ ∀ q, q < ne * 5 → f_X2_keep k a1 a2 a3 a4 S 2 1 q = S 2 1 q := by
  have hlt : nI ne < 512 := by rw [show (512 : Int32) = nI 512 from rfl, nI_ltI (by omega) (by omega)]; exact hne
  have v2 : ∀ (X : Nat → BT) (Y : BT), va_up X 2 Y 2 = Y := fun X Y => va_up_at X 2 Y
  have v0 : ∀ (X : Nat → BT) (Y : BT), va_up X 2 Y 0 = X 0 := fun X Y => by simp [va_up]
  have v1 : ∀ (X : Nat → BT) (Y : BT), va_up X 2 Y 1 = X 1 := fun X Y => by simp [va_up]
  unfold f_X2_keep
  rw [h, if_pos hlt, nI_clamp (by omega)]
  unfold ups3
  simp only [v2, v0, v1]
  refine ⟨⟨trivial, trivial⟩, ?_, ⟨?_, ?_, ?_, ?_, ?_⟩, ?_⟩
  · rw [up2_same]; simp (disch := omega) only [up2_cc]; rw [h, nI_1]
  · simp (disch := omega) only [up2_cc, up2_kk, up2_same]
  · simp (disch := omega) only [up2_cc, up2_kk, up2_same]
  · simp (disch := omega) only [up2_cc, up2_kk, up2_same]
  · simp (disch := omega) only [up2_cc, up2_kk, up2_same]
  · simp (disch := omega) only [up2_cc, up2_kk, up2_same]
  · intro q hq
    simp (disch := omega) only [up2_cc, up2_kk]
theorem sm_tell_c {S S' : Nat → BT} {B1 : BT} : ∀ k, (∀ q, q < k * 5 → S' 2 1 q = S 2 1 q) → L_tellAgain S' B1 k = L_tellAgain S B1 k := by
  intro k
  induction k with
  | zero => intro _; rfl
  | succ k ih =>
    intro h
    show b_tellAgain S' B1 k (L_tellAgain S' B1 k) = b_tellAgain S B1 k (L_tellAgain S B1 k)
    unfold b_tellAgain
    rw [ih (fun q hq => h q (by omega)), h _ (by omega), h _ (by omega), h _ (by omega), h _ (by omega), h _ (by omega)]
/-- the events, told again to any book, make one that says what the book says -/
def sm_E (S : Nat → BT) (n m ne : Nat) : Prop := S 2 0 1 = nI ne ∧ ne ≤ 512 ∧ ∀ B1 : BT, sm_A n m (S 0) (L_tellAgain S B1 ne)
theorem sm_E.ev {S : Nat → BT} {n m ne : Nat} (h : sm_E S n m ne) (hc : S 0 0 3 = nI n ∧ S 0 0 4 = nI m ∧ n ≤ 6 ∧ m ≤ 20 ∧ (m = 0 ∨ 0 < n)) (hne : ne < 512) (k a1 a2 a3 a4 : Int32) {n' m' : Nat} (h3 : (f_X0_apply k a1 a2 a3 a4 (S 0)).2 0 3 = nI n') (h4 : (f_X0_apply k a1 a2 a3 a4 (S 0)).2 0 4 = nI m') (hn : n' ≤ 6) (hm : m' ≤ 20) : sm_E (va_up (f_X2_keep k a1 a2 a3 a4 S) 0 (f_X0_apply k a1 a2 a3 a4 (S 0)).2) n' m' (ne + 1) := by
  obtain ⟨h1, h2, h5⟩ := h
  obtain ⟨-, k1, ⟨k2, k3, k4, k5, k6⟩, k7⟩ := sm_keep h1 hne k a1 a2 a3 a4
  have e2 : va_up (f_X2_keep k a1 a2 a3 a4 S) 0 (f_X0_apply k a1 a2 a3 a4 (S 0)).2 2 = f_X2_keep k a1 a2 a3 a4 S 2 := by simp [va_up]
  refine ⟨by rw [e2]; exact k1, by omega, fun B1 => ?_⟩
  rw [va_up_at]
  show sm_A n' m' _ (b_tellAgain _ B1 ne (L_tellAgain _ B1 ne))
  rw [sm_tell_c (S := S) ne (fun q hq => by rw [e2]; exact k7 q hq)]
  unfold b_tellAgain
  rw [e2, k2, k3, k4, k5, k6]
  obtain ⟨n9, m9, -, z⟩ := sm_Z.apply (show sm_Z n m (S 0) (L_tellAgain S B1 ne) from ⟨h5 B1, hc⟩) k a1 a2 a3 a4
  exact (z.cast h3 h4 hn hm).1
theorem sm_mat {X : Nat → BT} {n m : Nat} (h : sm_Z n m (X 0) (X 1)) : f_X0_matches X = 1 := by
  have h6 := h.2.2.2.1
  have h20 := h.2.2.2.2.1
  have o : f_X0_matchesInOffices X = 1 := by
    unfold f_X0_matchesInOffices
    rw [if_pos h.b.1, if_pos]
    intro j hj
    rw [h.2.1, nI_clamp (by omega)] at hj
    unfold b_X0_matchesInOffices f_X5_matches
    rw [if_pos (h.o hj (by decide)), if_pos (h.o hj (by decide)), if_pos (h.o hj (by decide)), if_pos (h.o hj (by decide)), if_neg (by decide)]
  have w : f_X0_matchesInWeights X = 1 := by
    unfold f_X0_matchesInWeights
    rw [if_pos]
    intro j hj
    unfold b_X0_matchesInWeights
    rw [if_pos (h.w hj)]
  have c : f_X0_matchesInComplaints X = 1 := by
    unfold f_X0_matchesInComplaints
    rw [if_pos h.b.2.1, if_pos]
    intro j hj
    rw [h.2.2.1, nI_clamp (by omega)] at hj
    have c1 : f_X1_matchesAsTold j j X = 1 := by
      unfold f_X1_matchesAsTold
      rw [if_pos (h.c hj (by decide) (by decide)), if_pos (h.c hj (by decide) (by decide)), if_pos (h.c hj (by decide) (by decide)), if_pos (h.c hj (by decide) (by decide)), if_pos (h.c hj (by decide) (by decide)), if_pos (h.c hj (by decide) (by decide)), if_pos (h.c hj (by decide) (by decide)), if_pos (h.c hj (by decide) (by decide))]
    have c2 : f_X4_matches j j X = 1 := by
      unfold f_X4_matches
      rw [if_pos (h.q hj (by decide)), if_pos (h.q hj (by decide)), if_pos (h.q hj (by decide)), if_pos (h.q hj (by decide))]
    have c3 : f_X3_matches j j X = 1 := by
      unfold f_X3_matches
      rw [if_pos (h.f hj (by decide)), if_pos (h.f hj (by decide)), if_pos (h.f hj (by decide)), if_pos (h.f hj (by decide)), if_pos (h.f hj (by decide)), if_pos (h.f hj (by decide))]
    unfold b_X0_matchesInComplaints f_X1_matches
    rw [c1, c2, c3, if_pos (h.c hj (k := 11) (by decide) (by decide)), if_pos (h.c hj (k := 12) (by decide) (by decide)), if_pos (h.c hj (k := 13) (by decide) (by decide)), if_pos (h.c hj (k := 14) (by decide) (by decide)), if_pos (h.c hj (k := 15) (by decide) (by decide))]
    decide
  unfold f_X0_matches
  rw [if_pos h.b.2.2, o, c, w]
  decide
theorem sm_ord {B M : BT} {n m d : Nat} {L : Nat → Nat} (R : sm_R B M n m d L) : f_X0_isOrderly B = 1 := by
  have h20 := R.m20
  unfold f_X0_isOrderly
  rw [if_pos]
  intro j hj
  rw [R.1.1.2.1, nI_clamp (by omega)] at hj
  obtain ⟨hl, hll, -, -⟩ := R.l12 hj
  have hld := sm_ldo R hj
  obtain ⟨-, -, hO, hP, hN, hT, hL, hJ, hK, -⟩ := R
  have k1 := hK j hj
  have k2 := hK (L j) hl
  have t1 := (hT j hj).1
  have t2 := (hT (L j) hl).1
  have l1 := hL j hj
  unfold b_X0_isOrderly
  rw [hld]
  rw [if_pos (by rw [k1.1, k2.1, hll]), if_pos (by rw [t1.2.1, t2.2.1]; exact l1.2.2.2.2.1), if_pos (by rw [t1.2.2.1, t2.2.2.1]; exact l1.2.2.2.2.2), sm_clE, k1.1]
  by_cases z : f_X7_isClosed (M 11 (L j)) = 0
  · rw [if_pos z]
  · rw [if_neg z, if_neg (by rw [(k1.2.1 z).1]; exact (k1.2.1 z).2)]
theorem sm_mats {S : Nat → BT} {M : BT} {n m d ne : Nat} {L : Nat → Nat} (R : sm_R (S 0) M n m d L) (hE : sm_E S n m ne) : f_X6_isSound S = 1 := by
  obtain ⟨h1, h2, h3⟩ := hE
  unfold f_X6_isSound
  rw [sm_ord R, if_neg (by decide)]
  have e0 : ∀ Y : BT, va_up S 1 Y 0 = S 0 := fun Y => by simp [va_up]
  have hz : sm_Z n m (va_up S 1 (f_X2_tellAgain S (S 1)) 0) (va_up S 1 (f_X2_tellAgain S (S 1)) 1) := by
    rw [va_up_at, e0]
    unfold f_X2_tellAgain
    rw [h1, nI_clamp (by omega)]
    exact ⟨h3 _, R.1.1.1, R.1.1.2.1, R.1.2.2.1, R.1.2.2.2.1, R.1.2.2.2.2.2.1⟩
  rw [sm_mat hz, if_neg (by decide)]
/-- what holds of the class's numbers S and the reference's M behind t calls -/
def sm_V (S : Nat → BT) (M : BT) (t : Nat) : Prop := ∃ (n m d : Nat) (L : Nat → Nat) (ne n1 m1 : Nat), CN (S 0) n m ∧ CN (S 1) n1 m1 ∧ MN M n m ∧ sm_R (S 0) M n m d L ∧ sm_E S n m ne ∧ ne ≤ t
theorem sm_V.thr {S : Nat → BT} {M : BT} {t : Nat} {v : Int32} (h : sm_V S M t) : sm_V S (up2 M 0 0 v) (t + 1) := by
  obtain ⟨n, m, d, L, ne, n1, m1, h1, h2, h3, h4, h5, h6⟩ := h
  exact ⟨n, m, d, L, ne, n1, m1, h1, h2, h3.up0 (by decide) (by decide), h4.thr, h5, by omega⟩
theorem sm_V.nxt {S : Nat → BT} {M : BT} {t : Nat} (h : sm_V S M t) : sm_V S M (t + 1) := by
  obtain ⟨n, m, d, L, ne, n1, m1, h1, h2, h3, h4, h5, h6⟩ := h
  exact ⟨n, m, d, L, ne, n1, m1, h1, h2, h3, h4, h5, by omega⟩
theorem sm_V.ev {S : Nat → BT} {M M' : BT} {t n m d ne n1 m1 : Nat} {L : Nat → Nat} (hC1 : CN (S 1) n1 m1) (hC : CN (S 0) n m) (hR : sm_R (S 0) M n m d L) (hE : sm_E S n m ne) (hne : ne ≤ t) (ht : t < 512) (k a1 a2 a3 a4 : Int32) {n' m' d' : Nat} {L' : Nat → Nat} {B' : BT} (hB : B' = (f_X0_apply k a1 a2 a3 a4 (S 0)).2) (hM : MN M' n' m') (hR' : sm_R B' M' n' m' d' L') : sm_V (va_up (f_X2_keep k a1 a2 a3 a4 S) 0 B') M' (t + 1) := by
  subst hB
  obtain ⟨n2, m2, hC2⟩ := cnx_X0_apply (a1 := k) (a2 := a1) (a3 := a2) (a4 := a3) (a5 := a4) hC
  refine ⟨n', m', d', L', ne + 1, n1, m1, ?_, ?_, hM, ?_, hE.ev ⟨hR.1.1.1, hR.1.1.2.1, hR.1.2.2.1, hR.1.2.2.2.1, hR.1.2.2.2.2.2.1⟩ (by omega) k a1 a2 a3 a4 hR'.1.1.1 hR'.1.1.2.1 hR'.n6 hR'.m20, by omega⟩
  · rw [va_up_at]
    exact ⟨hR'.1.1.1, hR'.1.1.2.1, hR'.n6, hR'.m20, hC2.2.2.2.2⟩
  · have e1 : va_up (f_X2_keep k a1 a2 a3 a4 S) 0 (f_X0_apply k a1 a2 a3 a4 (S 0)).2 1 = S 1 := by
      rw [show va_up (f_X2_keep k a1 a2 a3 a4 S) 0 (f_X0_apply k a1 a2 a3 a4 (S 0)).2 1 = f_X2_keep k a1 a2 a3 a4 S 1 by simp [va_up]]
      exact (sm_keep hE.1 (by omega) k a1 a2 a3 a4).1.2
    rw [e1]; exact hC1
  · rw [va_up_at]; exact hR'
/-- one call of both: what is thrown, what is answered, what holds behind it -/
def sm_S (S : Nat → BT) (t : Nat) (eo : Option String) (lst : List String) (S' : Nat → BT) (M' : BT) (q : Prop) : Prop := M' 0 0 = kE eo lst ∧ (eo = none → q) ∧ sm_V (if eo = none then S' else S) M' (t + 1)
theorem sm_S.x {S S' : Nat → BT} {M M' : BT} {t : Nat} {eo : Option String} {lst : List String} {E : String} {v : Int32} {q : Prop} (h : sm_V S M t) (he : eo = some E) (hM : M' = up2 M 0 0 v) (hv : v = kE (some E) lst) : sm_S S t eo lst S' M' q := by
  subst he hM
  refine ⟨by rw [up2_same]; exact hv, fun z => absurd z (Option.some_ne_none _), ?_⟩
  rw [if_neg (Option.some_ne_none _)]
  exact h.thr
theorem sm_S.ok {S S' : Nat → BT} {M' : BT} {t : Nat} {eo : Option String} {lst : List String} {q : Prop} (he : eo = none) (hM : M' 0 0 = 0) (hq : q) (h : sm_V S' M' (t + 1)) : sm_S S t eo lst S' M' q := by
  subst he
  refine ⟨hM, fun _ => hq, ?_⟩
  rw [if_pos rfl]; exact h
