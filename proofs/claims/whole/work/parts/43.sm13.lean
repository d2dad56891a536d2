/-! what changes: offices, days, complaints told -/
theorem MN.n2 {M : BT} {n m : Nat} (h : MN M n m) (hn : n < 6) : MN (up2 M 0 2 (nI (n + 1))) (n + 1) m := by
  obtain ⟨h1, h2, h3, h4, h5, h6, h7, h8⟩ := h
  refine ⟨up2_same _ _ _ _, by rw [up2_kk (by decide)]; exact h2, by omega, h4, fun i hi => ?_, fun i hi => ?_, fun i hi => ?_, fun i hi => ?_⟩
  · rw [up2_cc (by decide)]; exact h5 i hi
  · simp (disch := omega) only [up2_cc]; exact h6 i hi
  · rw [up2_cc (by decide)]; exact h7 i hi
  · rw [up2_cc (by decide)]; exact h8 i hi
theorem MN.n3 {M : BT} {n m : Nat} (h : MN M n m) (hm : m < 20) : MN (up2 M 0 3 (nI (m + 1))) n (m + 1) := by
  obtain ⟨h1, h2, h3, h4, h5, h6, h7, h8⟩ := h
  refine ⟨by rw [up2_kk (by decide)]; exact h1, up2_same _ _ _ _, h3, by omega, fun i hi => ?_, fun i hi => ?_, fun i hi => ?_, fun i hi => ?_⟩
  · rw [up2_cc (by decide)]; exact h5 i hi
  · simp (disch := omega) only [up2_cc]; exact h6 i hi
  · rw [up2_cc (by decide)]; exact h7 i hi
  · rw [up2_cc (by decide)]; exact h8 i hi
theorem sm_Roff {B M : BT} {n m d : Nat} {L : Nat → Nat} (R : sm_R B M n m d L) (hn : n < 6) (a1 a2 : Int32) (ha : ∃ q, q ≤ 60 ∧ a1 = nI q) : sm_R (up2 (f_X5_begin n a1 a2 B) 0 3 (nI (n + 1))) (up2 (up2 (up2 M 1 n a1) 2 n a2) 0 2 (nI (n + 1))) (n + 1) m d L := by
  have h20 := R.m20
  obtain ⟨⟨⟨a1', a2', a3⟩, ⟨b1, b2, b3⟩, b4, b5, b6, b7, b8⟩, hW, hO, hP, hN, hT, hL, hJ, hK, hI, hF⟩ := R
  refine ⟨⟨⟨?_, ?_, ?_⟩, ⟨?_, ?_, ?_⟩, by omega, b5, b6, by omega, ?_⟩, ?_, ?_, ?_, ?_, ?_, ?_, ?_, ?_, ?_, ?_⟩
  · exact up2_same _ _ _ _
  · simp (disch := omega) only [f_X5_begin, up2_cc, up2_kk]; exact a2'
  · simp (disch := omega) only [f_X5_begin, up2_cc, up2_kk]; exact a3
  · exact up2_same _ _ _ _
  · simp (disch := omega) only [up2_cc, up2_kk]; exact b2
  · simp (disch := omega) only [up2_cc, up2_kk]; exact b3
  · simp (disch := omega) only [f_X5_begin, up2_cc]; exact b8
  · intro j hj; have h := hW j hj; simp (disch := omega) only [f_X5_begin, up2_cc]; exact h
  · intro j hj
    by_cases e : j = n
    · subst e
      obtain ⟨p1, p2⟩ := hP j (Nat.le_refl _) hn
      simp (disch := omega) only [f_X5_begin, up2_cc, up2_kk, up2_same]
      exact ⟨trivial, trivial, p1.symm, p2.symm, ha⟩
    · have h := hO j (by omega)
      simp (disch := omega) only [f_X5_begin, up2_cc, up2_kk]; exact h
  · intro j hj hj2; have h := hP j (by omega) hj2; simp (disch := omega) only [up2_cc]; exact h
  · intro j hj hj2; have h := hN j hj hj2; simp (disch := omega) only [up2_cc]; exact h
  · intro j hj
    obtain ⟨⟨⟨o, ho, h3⟩, h4, h5⟩, h6⟩ := hT j hj
    simp (disch := omega) only [f_X5_begin, up2_cc]
    exact ⟨⟨⟨o, by omega, h3⟩, h4, h5⟩, h6⟩
  · intro j hj; have h := hL j hj; simp (disch := omega) only [f_X5_begin, up2_cc]; exact h
  · intro j hj; have h := hJ j hj; simp (disch := omega) only [up2_cc]; exact h
  · intro j hj; have h := hK j hj; simp (disch := omega) only [f_X5_begin, up2_cc, up2_kk]; exact h
  · intro j hj; have h := hI j hj; simp (disch := omega) only [f_X5_begin, up2_cc]; exact h
  · intro j hj; have h := hF j hj; simp (disch := omega) only [f_X5_begin, up2_cc]; exact h
theorem i32_pass (x d q p : Int32) : x + (d - q) + p = x + (d + p - q) := by grind
theorem sm_std_e {M M' : BT} (a : Int32) (h12 : ∀ j, M' 12 j = M 12 j) (h11 : ∀ j, M' 11 j = M 11 j) : f_X7_standing a M' = f_X7_standing a M := by
  unfold f_X7_standing f_X7_leading f_X7_isJoined
  rw [h11, h12]
theorem sm_ps {B M : BT} {n m d : Nat} {L : Nat → Nat} (R : sm_R B M n m d L) (a : Int32) : ∀ k, k ≤ m → L_pass7 a M k = fun c j => if c = 25 ∧ j < k then M 25 j + (if M 11 (L j) = 97 then a else 0) else up2 M 0 0 0 c j := by
  intro k
  induction k with
  | zero =>
    intro _
    funext c j
    show up2 M 0 0 0 c j = _
    rw [if_neg (fun z => by omega)]
  | succ k ih =>
    intro hk
    show b_pass7 a M k (L_pass7 a M k) = _
    rw [ih (by omega)]
    unfold b_pass7
    rw [sm_std_e (M := up2 M 0 0 0) (nI k) (fun j => if_neg (fun z => by omega)) (fun j => if_neg (fun z => by omega)), sm_std (R.thr (v := 0)) (show k < m by omega), up2_cc (show 11 ≠ 0 by decide)]
    have e25 : up2 M 0 0 0 25 k = M 25 k := up2_cc (by decide)
    funext c j
    by_cases hq : c = 25 ∧ j = k
    · obtain ⟨rfl, rfl⟩ := hq
      rw [if_pos (show (25 : Nat) = 25 ∧ j < j + 1 from ⟨rfl, by omega⟩)]
      have e5 : (if (25 : Nat) = 25 ∧ j < j then M 25 j + (if M 11 (L j) = 97 then a else 0) else up2 M 0 0 0 25 j) = M 25 j := by rw [if_neg (fun z => by omega), e25]
      by_cases z : M 11 (L j) = 97
      · rw [if_pos z, if_pos z, up2_same]; exact congrArg (· + a) e5
      · rw [if_neg z, if_neg z, up2_same]; exact congrArg (· + 0) e5
    · have e1 : ∀ v, up2 (fun c j => if c = 25 ∧ j < k then M 25 j + (if M 11 (L j) = 97 then a else 0) else up2 M 0 0 0 c j) 25 k v c j = (if c = 25 ∧ j < k then M 25 j + (if M 11 (L j) = 97 then a else 0) else up2 M 0 0 0 c j) := by
        intro v
        by_cases h1 : c = 25
        · rw [up2_kk (fun z => hq ⟨h1, z⟩)]
        · rw [up2_cc h1]
      have e2 : (c = 25 ∧ j < k + 1) = (c = 25 ∧ j < k) := propext ⟨fun z => ⟨z.1, by
        have : ¬ j = k := fun w => hq ⟨z.1, w⟩
        omega⟩, fun z => ⟨z.1, by omega⟩⟩
      simp only [e2]
      by_cases z : M 11 (L k) = 97
      · rw [if_pos z, e1]
      · rw [if_neg z, e1]
theorem sm_Rpass {B M M' : BT} {n m d p : Nat} {L : Nat → Nat} (R : sm_R B M n m d L) (hp : d + p ≤ 9999) (hM : ∀ c k, c ≠ 25 → (c ≠ 0 ∨ (k ≠ 0 ∧ k ≠ 1)) → M' c k = M c k) (h01 : M' 0 1 = nI (d + p)) (h25 : ∀ j, j < m → M' 25 j = M 25 j + (if M 11 (L j) = 97 then nI p else 0)) (h25' : ∀ j, m ≤ j → M' 25 j = M 25 j) : sm_R (up2 B 0 5 (nI (d + p))) M' n m (d + p) L := by
  have h20 := R.m20
  obtain ⟨⟨⟨a1, a2, a3⟩, ⟨b1, b2, b3⟩, b4, b5, b6, b7, b8⟩, hW, hO, hP, hN, hT, hL, hJ, hK, hI, hF⟩ := R
  refine ⟨⟨⟨?_, ?_, ?_⟩, ⟨?_, ?_, ?_⟩, b4, b5, hp, b7, ?_⟩, ?_, ?_, ?_, ?_, ?_, ?_, ?_, ?_, ?_, ?_⟩
  · rw [up2_kk (by decide)]; exact a1
  · rw [up2_kk (by decide)]; exact a2
  · exact up2_same _ _ _ _
  · rw [hM 0 2 (by decide) (by decide)]; exact b1
  · rw [hM 0 3 (by decide) (by decide)]; exact b2
  · exact h01
  · rw [up2_cc (by decide)]; exact b8
  · intro j hj; have h := hW j hj; simp (disch := omega) only [up2_cc, hM]; exact h
  · intro j hj; have h := hO j hj; simp (disch := omega) only [up2_cc, hM]; exact h
  · intro j hj hj2; have h := hP j hj hj2; simp (disch := omega) only [hM]; exact h
  · intro j hj hj2; have h := hN j hj hj2; rw [h25' j hj]; simp (disch := omega) only [hM]; exact h
  · intro j hj; have h := hT j hj; simp (disch := omega) only [up2_cc, hM]; exact h
  · intro j hj; have h := hL j hj; simp (disch := omega) only [up2_cc, hM]; exact h
  · intro j hj; have h := hJ j hj; simp (disch := omega) only [hM]; exact h
  · intro j hj
    obtain ⟨k1, k2, k3, k4, k5, k6⟩ := hK j hj
    rw [h25 j hj, up2_same]
    simp (disch := omega) only [up2_cc, hM]
    refine ⟨k1, k2, k3, k4, k5, ?_⟩
    rw [k6, a3]
    by_cases z : M 11 (L j) = 97
    · rw [if_neg (k4 z), if_neg (k4 z), if_pos z, i32_pass, nI_add]
    · rw [if_pos (k5 z), if_pos (k5 z), if_neg z, Int32.add_zero]
  · intro j hj; have h := hI j hj; simp (disch := omega) only [up2_cc, hM]; exact h
  · intro j hj; have h := hF j hj; simp (disch := omega) only [up2_cc, hM]; exact h
theorem sm_Rcomp {B M : BT} {n m d o : Nat} {L : Nat → Nat} (R : sm_R B M n m d L) (hm : m < 20) (ho : o < n) (a2 a3 a4 : Int32) : sm_R (up2 (f_X1_begin m (nI o) a2 a3 a4 (nI d) B) 0 4 (nI (m + 1))) (up2 (up2 (up2 (up2 (up2 (up2 (up2 (up2 (up2 (up2 (up2 M 6 m (nI o)) 7 m a2) 8 m a3) 9 m a4) 10 m (nI d)) 11 m 110) 12 m (-1)) 15 m (-1)) 20 m (-1)) 22 m (-1)) 0 3 (nI (m + 1))) n (m + 1) d (fun j => if j = m then m else L j) := by
  have h20 := R.m20
  obtain ⟨⟨⟨a1, a2', a3'⟩, ⟨b1, b2, b3⟩, b4, b5, b6, b7, b8⟩, hW, hO, hP, hN, hT, hL, hJ, hK, hI, hF⟩ := R
  obtain ⟨n13, n14, n17, n18, n19, n21, n23, n25⟩ := hN m (Nat.le_refl _) hm
  have hLm : ∀ j, j < m → ¬ L j = m := fun j hj z => by have := (hL j hj).1; omega
  refine ⟨⟨⟨?_, ?_, ?_⟩, ⟨?_, ?_, ?_⟩, b4, by omega, b6, by omega, Or.inl (by omega)⟩, ?_, ?_, ?_, ?_, ?_, ?_, ?_, ?_, ?_, ?_⟩
  · simp (disch := omega) only [f_X1_begin, f_X3_begin, f_X4_begin, up2_cc, up2_kk]; exact a1
  · exact up2_same _ _ _ _
  · simp (disch := omega) only [f_X1_begin, f_X3_begin, f_X4_begin, up2_cc, up2_kk]; exact a3'
  · simp (disch := omega) only [up2_cc, up2_kk]; exact b1
  · exact up2_same _ _ _ _
  · simp (disch := omega) only [up2_cc, up2_kk]; exact b3
  · intro j hj; have h := hW j hj; simp (disch := omega) only [f_X1_begin, f_X3_begin, f_X4_begin, up2_cc]; exact h
  · intro j hj; have h := hO j hj; simp (disch := omega) only [f_X1_begin, f_X3_begin, f_X4_begin, up2_cc]; exact h
  · intro j hj hj2; have h := hP j hj hj2; simp (disch := omega) only [up2_cc]; exact h
  · intro j hj hj2; have h := hN j (by omega) hj2; simp (disch := omega) only [up2_cc]; exact h
  · intro j hj
    by_cases e : j = m
    · subst e
      simp (disch := omega) only [f_X1_begin, f_X3_begin, f_X4_begin, up2_cc, up2_kk, up2_same]
      exact ⟨⟨⟨o, ho, rfl⟩, trivial, trivial, trivial, trivial, trivial⟩, n13.symm, Or.inl n13, n14.symm, Or.inl n14, trivial⟩
    · have h := hT j (by omega)
      simp (disch := omega) only [f_X1_begin, f_X3_begin, f_X4_begin, up2_cc, up2_kk]; exact h
  · intro j hj
    by_cases e : j = m
    · subst e
      simp (disch := omega) only [f_X1_begin, f_X3_begin, f_X4_begin, up2_cc, up2_kk, up2_same, if_true]
      exact ⟨hj, trivial, trivial, trivial, trivial, trivial⟩
    · obtain ⟨l1, l2, l3, l4, l5, l6⟩ := hL j (by omega)
      have w := hLm j (by omega)
      simp only [if_neg e, if_neg w]
      simp (disch := omega) only [f_X1_begin, f_X3_begin, f_X4_begin, up2_cc, up2_kk]
      exact ⟨by omega, l2, l3, l4, l5, l6⟩
  · intro j hj hne
    by_cases e : j = m
    · exact absurd (show (if j = m then m else L j) = j by rw [if_pos e, e]) hne
    · have w := hLm j (by omega)
      simp only [if_neg e] at hne ⊢
      simp (disch := omega) only [up2_cc, up2_kk]
      exact hJ j (by omega) hne
  · intro j hj
    by_cases e : j = m
    · subst e
      simp only [if_true]
      simp (disch := omega) only [f_X1_begin, f_X3_begin, f_X4_begin, up2_cc, up2_kk, up2_same]
      refine ⟨trivial, fun z => absurd (show f_X7_isClosed 110 = 0 by decide) z, fun _ => trivial, fun z => absurd z (by decide), fun _ => trivial, ?_⟩
      rw [n25]; rfl
    · have w := hLm j (by omega)
      have h := hK j (by omega)
      simp only [if_neg e]
      simp (disch := omega) only [f_X1_begin, f_X3_begin, f_X4_begin, up2_cc, up2_kk]
      exact h
  · intro j hj
    by_cases e : j = m
    · subst e
      simp only [if_true]
      simp (disch := omega) only [f_X1_begin, f_X3_begin, f_X4_begin, up2_cc, up2_kk, up2_same]
      exact ⟨⟨n17.symm, n18.symm, n19.symm⟩, ⟨0, by omega, n18⟩, fun _ z => absurd z (by decide), fun _ z => absurd z (by decide), fun _ => ⟨n17, n18, n19⟩⟩
    · have h := hI j (by omega)
      simp only [if_neg e]
      simp (disch := omega) only [f_X1_begin, f_X3_begin, f_X4_begin, up2_cc, up2_kk]
      exact h
  · intro j hj
    by_cases e : j = m
    · subst e
      simp only [if_true]
      simp (disch := omega) only [f_X1_begin, f_X3_begin, f_X4_begin, up2_cc, up2_kk, up2_same]
      exact ⟨⟨trivial, n21.symm, n23.symm, Or.inl n23⟩, ⟨0, by omega, n21⟩, Or.inl trivial, Or.inl ⟨trivial, trivial⟩, fun _ => ⟨n21, trivial, n23⟩, fun _ => trivial, fun _ z => absurd z (by decide)⟩
    · have h := hF j (by omega)
      simp only [if_neg e]
      simp (disch := omega) only [f_X1_begin, f_X3_begin, f_X4_begin, up2_cc, up2_kk]
      exact h
section SO
variable {S : Nat → BT} {M : BT} {t : Nat}
theorem sm_addOffice (h : sm_V S M t) (ht : t < 512) (a1 a2 : Int32) : sm_S S t (e_X6_addOffice a1 a2 (S 0)) ["java/lang/IllegalArgumentException", "java/lang/IllegalStateException"] (va_up (f_X2_keep 1 a1 a2 0 0 S) 0 (f_X6_addOffice a1 a2 (S 0)).2) (f_X7_addOffice a1 a2 M).2 ((f_X7_addOffice a1 a2 M).1 = (f_X6_addOffice a1 a2 (S 0)).1) := by
  obtain ⟨n, m, d, L, ne, n1, m1, q1, q2, q3, R, q5, q6⟩ := id h
  have h20 := R.m20
  have hn6 := R.n6
  by_cases hr : e_X6_requireRange a1 1 60 = none
  · have r1 : ¬ f_X7_in a1 1 60 = 0 := by rw [(sm_rg hr).1]; decide
    by_cases hr2 : e_X6_requireRange a2 0 1023 = none
    · have r2 : ¬ f_X7_in a2 0 1023 = 0 := by rw [(sm_rg hr2).1]; decide
      by_cases hn : n < 6
      · have b3 : S 0 0 3 < 6 := by rw [R.1.1.1, show (6 : Int32) = nI 6 from rfl, nI_ltI (by omega) (by omega)]; exact hn
        have m2 : ¬ M 0 2 = 6 := by rw [R.1.2.1.1, show (6 : Int32) = nI 6 from rfl, nI_eq (by omega) (by omega)]; omega
        have hap : f_X6_happen 1 a1 a2 (S 0) = (nI (n + 1) - 1, up2 (f_X5_begin n a1 a2 (S 0)) 0 3 (nI (n + 1))) := by
          unfold f_X6_happen f_X0_apply f_X0_openOffice
          rw [if_pos rfl, if_pos b3, R.1.1.1, nI_clamp (by omega)]
          have e3 : f_X5_begin n a1 a2 (S 0) 0 3 = nI n := by simp (disch := omega) only [f_X5_begin, up2_cc]; exact R.1.1.1
          rw [e3, nI_1, up2_same]
        have E6 : f_X6_addOffice a1 a2 (S 0) = (nI (n + 1) - 1, up2 (f_X5_begin n a1 a2 (S 0)) 0 3 (nI (n + 1))) := by
          unfold f_X6_addOffice; rw [if_pos hr, if_pos hr2, if_pos b3, hap]
        have E7 : f_X7_addOffice a1 a2 M = (nI (n + 1) - 1, up2 (up2 (up2 (up2 M 0 0 0) 1 n a1) 2 n a2) 0 2 (nI (n + 1))) := by
          unfold f_X7_addOffice; rw [if_neg r1, if_neg r2, if_neg m2, R.1.2.1.1, nI_clamp (by omega), nI_1]
        have Ee : e_X6_addOffice a1 a2 (S 0) = none := by
          unfold e_X6_addOffice; rw [if_pos hr, if_pos hr2, if_pos b3]
        obtain ⟨q, -, hq2, hq3⟩ := sm_rgn (lo := 1) (hi := 60) hr (by omega)
        rw [E7, E6, Ee]
        refine sm_S.ok rfl ?_ rfl (sm_V.ev q2 q1 R q5 q6 ht 1 a1 a2 0 0 (d' := d) (L' := L) ?_ (MN.n2 (MN.upf (by decide) (by decide) (by decide) (by decide) (by decide) (by decide) (by decide) (by decide) (MN.upf (by decide) (by decide) (by decide) (by decide) (by decide) (by decide) (by decide) (by decide) (q3.up0 (by decide) (by decide)))) hn) ?_)
        · show (up2 (up2 (up2 (up2 M 0 0 0) 1 n a1) 2 n a2) 0 2 (nI (n + 1)) : BT) 0 0 = 0
          simp (disch := omega) only [up2_cc, up2_kk, up2_same]
        · exact (congrArg Prod.snd hap).symm
        · exact sm_Roff (R.thr (v := 0)) hn a1 a2 ⟨q, hq2, hq3⟩
      · have b3 : ¬ S 0 0 3 < 6 := by rw [R.1.1.1, show (6 : Int32) = nI 6 from rfl, nI_ltI (by omega) (by omega)]; exact hn
        have m2 : M 0 2 = 6 := by rw [R.1.2.1.1, show (6 : Int32) = nI 6 from rfl, nI_eq (by omega) (by omega)]; omega
        refine sm_S.x h (v := 2) (show _ = some "java/lang/IllegalStateException" from ?_) ?_ (by decide +kernel)
        · unfold e_X6_addOffice; rw [if_pos hr, if_pos hr2, if_neg b3]
        · unfold f_X7_addOffice; rw [if_neg r1, if_neg r2, if_pos m2]
    · obtain ⟨e1, e2⟩ := sm_rgN hr2
      refine sm_S.x h (v := 1) (show _ = some "java/lang/IllegalArgumentException" from ?_) ?_ (by decide +kernel)
      · unfold e_X6_addOffice; rw [if_pos hr, if_neg hr2, e1]
      · unfold f_X7_addOffice; rw [if_neg r1, if_pos e2]
  · obtain ⟨e1, e2⟩ := sm_rgN hr
    refine sm_S.x h (v := 1) (show _ = some "java/lang/IllegalArgumentException" from ?_) ?_ (by decide +kernel)
    · unfold e_X6_addOffice; rw [if_neg hr, e1]
    · unfold f_X7_addOffice; rw [if_pos e2]
theorem sm_pass (h : sm_V S M t) (ht : t < 512) (a1 : Int32) : sm_S S t (e_X6_pass a1 (S 0)) ["java/lang/IllegalArgumentException", "java/lang/IllegalStateException"] (va_up (f_X2_keep 2 a1 0 0 0 S) 0 (f_X6_pass a1 (S 0)).2) (f_X7_pass a1 M).2 ((f_X7_pass a1 M).1 = (f_X6_pass a1 (S 0)).1) := by
  obtain ⟨n, m, d, L, ne, n1, m1, q1, q2, q3, R, q5, q6⟩ := id h
  have h20 := R.m20
  have hn6 := R.n6
  have hd9 := R.1.2.2.2.2.1
  by_cases hr : e_X6_requireRange a1 1 400 = none
  · have r1 : ¬ f_X7_in a1 1 400 = 0 := by rw [(sm_rg hr).1]; decide
    obtain ⟨p, -, hp2, rfl⟩ := sm_rgn (lo := 1) (hi := 400) hr (by omega)
    by_cases hq : d + p ≤ 9999
    · have b5 : S 0 0 5 + nI p ≤ 9999 := by rw [R.1.1.2.2, nI_add, show (9999 : Int32) = nI 9999 from rfl, nI_leI (by omega) (by omega)]; exact hq
      have m1 : M 0 1 + nI p ≤ 9999 := by rw [R.1.2.1.2.2, nI_add, show (9999 : Int32) = nI 9999 from rfl, nI_leI (by omega) (by omega)]; exact hq
      have hps := sm_ps R (nI p) m (Nat.le_refl _)
      have h01 : L_pass7 (nI p) M m 0 1 = nI d := by
        rw [hps]
        show (if (0 : Nat) = 25 ∧ 1 < m then _ else up2 M 0 0 0 0 1) = nI d
        rw [if_neg (fun z => absurd z.1 (by decide)), up2_kk (by decide)]; exact R.1.2.1.2.2
      have hap : f_X6_happen 2 (nI p) 0 (S 0) = (nI (d + p), up2 (S 0) 0 5 (nI (d + p))) := by
        unfold f_X6_happen f_X0_apply
        rw [if_neg (by decide), if_pos rfl, R.1.1.2.2, nI_add, up2_same]
      have E6 : f_X6_pass (nI p) (S 0) = (nI (d + p), up2 (S 0) 0 5 (nI (d + p))) := by
        unfold f_X6_pass; rw [if_pos hr, if_pos b5, hap]
      have E7 : f_X7_pass (nI p) M = (nI (d + p), up2 (L_pass7 (nI p) M m) 0 1 (nI (d + p))) := by
        unfold f_X7_pass; rw [if_neg r1, if_pos m1, R.1.2.1.2.1, nI_clamp (by omega), h01, nI_add]
      have Ee : e_X6_pass (nI p) (S 0) = none := by
        unfold e_X6_pass; rw [if_pos hr, if_pos b5]
      have hMN := cn_X7_pass (a1 := nI p) q3
      rw [E7] at hMN
      have hthr : L_pass7 (nI p) M m 0 0 = 0 := by
        rw [hps]
        show (if (0 : Nat) = 25 ∧ 0 < m then _ else up2 M 0 0 0 0 0) = 0
        rw [if_neg (fun z => absurd z.1 (by decide)), up2_same]
      have R2 : sm_R (up2 (S 0) 0 5 (nI (d + p))) (up2 (L_pass7 (nI p) M m) 0 1 (nI (d + p))) n m (d + p) L := by
        refine sm_Rpass R hq (fun c k h1 h2 => ?_) (up2_same _ _ _ _) (fun j hj => ?_) (fun j hj => ?_)
        · have e1 : up2 (L_pass7 (nI p) M m) 0 1 (nI (d + p)) c k = L_pass7 (nI p) M m c k := by
            rcases h2 with w | w
            · exact up2_cc w
            · exact up2_kk w.2
          rw [e1, hps]
          show (if c = 25 ∧ k < m then _ else up2 M 0 0 0 c k) = M c k
          rw [if_neg (fun z => h1 z.1)]
          rcases h2 with w | w
          · exact up2_cc w
          · exact up2_kk w.1
        · rw [up2_cc (by decide), hps]
          show (if (25 : Nat) = 25 ∧ j < m then _ else up2 M 0 0 0 25 j) = _
          rw [if_pos ⟨rfl, hj⟩]
        · rw [up2_cc (by decide), hps]
          show (if (25 : Nat) = 25 ∧ j < m then _ else up2 M 0 0 0 25 j) = _
          rw [if_neg (fun z => by omega), up2_cc (by decide)]
      rw [E7, E6, Ee]
      refine sm_S.ok rfl ?_ rfl (sm_V.ev q2 q1 R q5 q6 ht 2 (nI p) 0 0 0 (d' := d + p) (L' := L) ?_ (hMN) ?_)
      · show (up2 (L_pass7 (nI p) M m) 0 1 (nI (d + p)) : BT) 0 0 = 0
        simp (disch := omega) only [up2_kk, hthr]
      · exact (congrArg Prod.snd hap).symm
      · exact R2
    · have b5 : ¬ S 0 0 5 + nI p ≤ 9999 := by rw [R.1.1.2.2, nI_add, show (9999 : Int32) = nI 9999 from rfl, nI_leI (by omega) (by omega)]; exact hq
      have m1 : ¬ M 0 1 + nI p ≤ 9999 := by rw [R.1.2.1.2.2, nI_add, show (9999 : Int32) = nI 9999 from rfl, nI_leI (by omega) (by omega)]; exact hq
      refine sm_S.x h (v := 2) (show _ = some "java/lang/IllegalStateException" from ?_) ?_ (by decide +kernel)
      · unfold e_X6_pass; rw [if_pos hr, if_neg b5]
      · unfold f_X7_pass; rw [if_neg r1, if_neg m1]
  · obtain ⟨e1, e2⟩ := sm_rgN hr
    refine sm_S.x h (v := 1) (show _ = some "java/lang/IllegalArgumentException" from ?_) ?_ (by decide +kernel)
    · unfold e_X6_pass; rw [if_neg hr, e1]
    · unfold f_X7_pass; rw [if_pos e2]
theorem sm_complain (h : sm_V S M t) (ht : t < 512) (a1 a2 a3 a4 : Int32) : sm_S S t (e_X6_complain a1 a2 a3 a4 (S 0)) ["java/lang/IndexOutOfBoundsException", "java/lang/IllegalArgumentException", "java/lang/IllegalStateException"] (va_up (f_X2_keep 4 a1 a2 a3 a4 S) 0 (f_X6_complain a1 a2 a3 a4 (S 0)).2) (f_X7_complain a1 a2 a3 a4 M).2 ((f_X7_complain a1 a2 a3 a4 M).1 = (f_X6_complain a1 a2 a3 a4 (S 0)).1) := by
  obtain ⟨n, m, d, L, ne, n1, m1, q1, q2, q3, R, q5, q6⟩ := id h
  have h20 := R.m20
  have hn6 := R.n6
  have hb5 := R.1.1.2.2
  have hm1 := R.1.2.1.2.2
  by_cases hk : e_X6_requireOffice a1 (S 0) = none
  · obtain ⟨o, ho, ho6, rfl, hf1⟩ := sm_rof R.1 hk
    have hf : ¬ f_X7_isOffice (nI o) M = 0 := by rw [hf1]; decide
    by_cases hr2 : e_X6_requireRange a2 0 9 = none
    · have r2 : ¬ f_X7_in a2 0 9 = 0 := by rw [(sm_rg hr2).1]; decide
      by_cases hr3 : e_X6_requireRange a3 0 49 = none
      · have r3 : ¬ f_X7_in a3 0 49 = 0 := by rw [(sm_rg hr3).1]; decide
        by_cases hr4 : e_X6_requireRange a4 0 (S 0 0 5) = none
        · have r4 : ¬ f_X7_in a4 0 (M 0 1) = 0 := by rw [hm1, ← hb5, (sm_rg hr4).1]; decide
          by_cases hm : m < 20
          · have b4 : S 0 0 4 < 20 := by rw [R.1.1.2.1, show (20 : Int32) = nI 20 from rfl, nI_ltI (by omega) (by omega)]; exact hm
            have m3 : ¬ M 0 3 = 20 := by rw [R.1.2.1.2.1, show (20 : Int32) = nI 20 from rfl, nI_eq (by omega) (by omega)]; omega
            have hap : f_X0_apply 4 (nI o) a2 a3 a4 (S 0) = (nI (m + 1) - 1, up2 (f_X1_begin m (nI o) a2 a3 a4 (nI d) (S 0)) 0 4 (nI (m + 1))) := by
              unfold f_X0_apply f_X0_hear
              rw [if_neg (by decide), if_neg (by decide), if_neg (by decide), if_pos rfl, if_neg (nI_pos (by omega)), if_neg (show ¬ S 0 0 3 ≤ nI o by rw [R.1.1.1, nI_leI (by omega) (by omega)]; omega), if_pos b4, R.1.1.2.1, nI_clamp (by omega), hb5]
              have e4 : f_X1_begin m (nI o) a2 a3 a4 (nI d) (S 0) 0 4 = nI m := by simp (disch := omega) only [f_X1_begin, f_X3_begin, f_X4_begin, up2_cc]; exact R.1.1.2.1
              rw [e4, nI_1, up2_same]
            have E6 : f_X6_complain (nI o) a2 a3 a4 (S 0) = (nI (m + 1) - 1, up2 (f_X1_begin m (nI o) a2 a3 a4 (nI d) (S 0)) 0 4 (nI (m + 1))) := by
              unfold f_X6_complain; rw [if_pos hk, if_pos hr2, if_pos hr3, if_pos hr4, if_pos b4, hap]
            have E7 : f_X7_complain (nI o) a2 a3 a4 M = (nI (m + 1) - 1, up2 (up2 (up2 (up2 (up2 (up2 (up2 (up2 (up2 (up2 (up2 (up2 M 0 0 0) 6 m (nI o)) 7 m a2) 8 m a3) 9 m a4) 10 m (nI d)) 11 m 110) 12 m (-1)) 15 m (-1)) 20 m (-1)) 22 m (-1)) 0 3 (nI (m + 1))) := by
              unfold f_X7_complain; rw [if_neg r2, if_neg r3, if_neg r4, if_neg hf, if_neg m3, R.1.2.1.2.1, nI_clamp (by omega), nI_1, hm1]
            have Ee : e_X6_complain (nI o) a2 a3 a4 (S 0) = none := by
              unfold e_X6_complain; rw [if_pos hk, if_pos hr2, if_pos hr3, if_pos hr4, if_pos b4]
            rw [E7, E6, Ee]
            refine sm_S.ok rfl ?_ rfl (sm_V.ev q2 q1 R q5 q6 ht 4 (nI o) a2 a3 a4 (d' := d) (L' := fun j => if j = m then m else L j) ?_ (MN.n3 (MN.upf (by decide) (by decide) (by decide) (by decide) (by decide) (by decide) (by decide) (by decide) (MN.upf (by decide) (by decide) (by decide) (by decide) (by decide) (by decide) (by decide) (by decide) (MN.upf (by decide) (by decide) (by decide) (by decide) (by decide) (by decide) (by decide) (by decide) (MN.up12 (Or.inl rfl) (MN.up11 ⟨by decide +kernel, by decide +kernel, by decide +kernel⟩ (MN.upf (by decide) (by decide) (by decide) (by decide) (by decide) (by decide) (by decide) (by decide) (MN.upf (by decide) (by decide) (by decide) (by decide) (by decide) (by decide) (by decide) (by decide) (MN.upf (by decide) (by decide) (by decide) (by decide) (by decide) (by decide) (by decide) (by decide) (MN.upf (by decide) (by decide) (by decide) (by decide) (by decide) (by decide) (by decide) (by decide) (MN.up6 (vp_in_nI ho6 (by decide)) (q3.up0 (by decide) (by decide)))))))))))) hm) ?_)
            · show (up2 (up2 (up2 (up2 (up2 (up2 (up2 (up2 (up2 (up2 (up2 (up2 M 0 0 0) 6 m (nI o)) 7 m a2) 8 m a3) 9 m a4) 10 m (nI d)) 11 m 110) 12 m (-1)) 15 m (-1)) 20 m (-1)) 22 m (-1)) 0 3 (nI (m + 1)) : BT) 0 0 = 0
              simp (disch := omega) only [up2_cc, up2_kk, up2_same]
            · exact (congrArg Prod.snd hap).symm
            · exact sm_Rcomp (R.thr (v := 0)) hm ho a2 a3 a4
          · have b4 : ¬ S 0 0 4 < 20 := by rw [R.1.1.2.1, show (20 : Int32) = nI 20 from rfl, nI_ltI (by omega) (by omega)]; exact hm
            have m3 : M 0 3 = 20 := by rw [R.1.2.1.2.1, show (20 : Int32) = nI 20 from rfl, nI_eq (by omega) (by omega)]; omega
            refine sm_S.x h (v := 3) (show _ = some "java/lang/IllegalStateException" from ?_) ?_ (by decide +kernel)
            · unfold e_X6_complain; rw [if_pos hk, if_pos hr2, if_pos hr3, if_pos hr4, if_neg b4]
            · unfold f_X7_complain; rw [if_neg r2, if_neg r3, if_neg r4, if_neg hf, if_pos m3]
        · obtain ⟨e1, e2⟩ := sm_rgN hr4
          rw [hb5, ← hm1] at e2
          refine sm_S.x h (v := 2) (show _ = some "java/lang/IllegalArgumentException" from ?_) ?_ (by decide +kernel)
          · unfold e_X6_complain; rw [if_pos hk, if_pos hr2, if_pos hr3, if_neg hr4, e1]
          · unfold f_X7_complain; rw [if_neg r2, if_neg r3, if_pos e2, if_neg hf]
      · obtain ⟨e1, e2⟩ := sm_rgN hr3
        refine sm_S.x h (v := 2) (show _ = some "java/lang/IllegalArgumentException" from ?_) ?_ (by decide +kernel)
        · unfold e_X6_complain; rw [if_pos hk, if_pos hr2, if_neg hr3, e1]
        · unfold f_X7_complain; rw [if_neg r2, if_pos e2, if_neg hf]
    · obtain ⟨e1, e2⟩ := sm_rgN hr2
      refine sm_S.x h (v := 2) (show _ = some "java/lang/IllegalArgumentException" from ?_) ?_ (by decide +kernel)
      · unfold e_X6_complain; rw [if_pos hk, if_neg hr2, e1]
      · unfold f_X7_complain; rw [if_pos e2, if_neg hf]
  · obtain ⟨e1, e2⟩ := sm_rofN R.1 hk
    refine sm_S.x h (v := 1) (show _ = some "java/lang/IndexOutOfBoundsException" from ?_) ?_ (by decide +kernel)
    · unfold e_X6_complain; rw [if_neg hk, e1]
    · unfold f_X7_complain
      by_cases w2 : f_X7_in a2 0 9 = 0
      · rw [if_pos w2, if_pos e2]
      · rw [if_neg w2]
        by_cases w3 : f_X7_in a3 0 49 = 0
        · rw [if_pos w3, if_pos e2]
        · rw [if_neg w3]
          by_cases w4 : f_X7_in a4 0 (M 0 1) = 0
          · rw [if_pos w4, if_pos e2]
          · rw [if_neg w4, if_pos e2]
end SO
