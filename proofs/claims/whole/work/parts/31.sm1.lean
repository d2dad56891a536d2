/-! the class's numbers beside the reference's: reading, chars, moves, counts -/
theorem up2_same (B : BT) (c k : Nat) (v : Int32) : up2 B c k v c k = v := by simp [up2]
theorem up2_kk {B : BT} {c k : Nat} {v : Int32} {c' k' : Nat} (h : k' ≠ k) : up2 B c k v c' k' = B c' k' := by
  unfold up2
  by_cases e : c' = c
  · rw [if_pos e, if_neg h]
  · rw [if_neg e]
theorem up2_cc {B : BT} {c k : Nat} {v : Int32} {c' k' : Nat} (h : c' ≠ c) : up2 B c k v c' k' = B c' k' := by
  unfold up2; rw [if_neg h]
theorem sm_lit {c v : Int32} (h : c < 0) (hv : ¬ v < 0) : c ≠ v := fun e => hv (e ▸ h)
theorem sm_lit2 {c v : Int32} (h : 255 < c) (hv : ¬ 255 < v) : c ≠ v := fun e => hv (e ▸ h)
theorem sm_256 {c : Int32} (h0 : ¬ c < 0) (h1 : ¬ 255 < c) : ∃ k, k < 256 ∧ c = nI k := by
  have e0 : ¬ (256 : Int32) ≤ c := by
    intro z
    rw [fa_lt] at h1
    rw [fa_le] at z
    have e1 : (255 : Int32).toInt = 255 := by decide
    have e2 : (256 : Int32).toInt = 256 := by decide
    omega
  exact ⟨c.toNatClampNeg, (vinC (m := 256) (N := 256) h0 e0 rfl (Nat.le_refl _) (by decide)).2, nat_of h0⟩
theorem sm_cl0 {c : Int32} (h1 : c ≠ 111) (h2 : c ≠ 108) (h3 : c ≠ 117) (h4 : c ≠ 104) (h5 : c ≠ 105) (h6 : c ≠ 119) : f_X7_isClosed c = 0 := by
  unfold f_X7_isClosed
  rw [if_neg h1, if_neg h2, if_neg h3, if_neg h4, if_neg h5, if_neg h6]
theorem sm_cl01 (c : Int32) : f_X7_isClosed c = 0 ∨ f_X7_isClosed c = 1 := by
  unfold f_X7_isClosed
  (repeat' split) <;> simp
theorem sm_st0 {c : Int32} (h1 : c ≠ 110) (h2 : c ≠ 102) (h3 : c ≠ 114) (h4 : c ≠ 97) (h5 : c ≠ 115) (h6 : c ≠ 100) (h7 : f_X7_isClosed c = 0) : f_X7_isState c = 0 := by
  unfold f_X7_isState
  rw [if_neg h1, if_neg h2, if_neg h3, if_neg h4, if_neg h5, if_neg h6, if_pos h7]
theorem sm_ixk : ∀ k, k < 256 → (ixB 1 (nI k) < 0 ↔ f_X7_isClosed (nI k) = 0) := by decide +kernel
theorem sm_ixk0 : ∀ k, k < 256 → (0 ≤ ixB 0 (nI k) ↔ ¬ f_X7_isState (nI k) = 0) := by decide +kernel
theorem sm_ixc (c : Int32) : ixB 1 c < 0 ↔ f_X7_isClosed c = 0 := by
  by_cases h0 : c < 0
  · have e : ixB 1 c = -1 := by unfold ixB; rw [if_pos h0]
    have e2 : f_X7_isClosed c = 0 := sm_cl0 (sm_lit h0 (by decide)) (sm_lit h0 (by decide)) (sm_lit h0 (by decide)) (sm_lit h0 (by decide)) (sm_lit h0 (by decide)) (sm_lit h0 (by decide))
    rw [e, e2]; exact ⟨fun _ => rfl, fun _ => by decide⟩
  · by_cases h1 : 255 < c
    · have e : ixB 1 c = -1 := by unfold ixB; rw [if_neg h0, if_pos h1]
      have e2 : f_X7_isClosed c = 0 := sm_cl0 (sm_lit2 h1 (by decide)) (sm_lit2 h1 (by decide)) (sm_lit2 h1 (by decide)) (sm_lit2 h1 (by decide)) (sm_lit2 h1 (by decide)) (sm_lit2 h1 (by decide))
      rw [e, e2]; exact ⟨fun _ => rfl, fun _ => by decide⟩
    · obtain ⟨k, hk, rfl⟩ := sm_256 h0 h1
      exact sm_ixk k hk
theorem sm_ixs (c : Int32) : 0 ≤ ixB 0 c ↔ ¬ f_X7_isState c = 0 := by
  by_cases h0 : c < 0
  · have e : ixB 0 c = -1 := by unfold ixB; rw [if_pos h0]
    have e2 : f_X7_isState c = 0 := sm_st0 (sm_lit h0 (by decide)) (sm_lit h0 (by decide)) (sm_lit h0 (by decide)) (sm_lit h0 (by decide)) (sm_lit h0 (by decide)) (sm_lit h0 (by decide)) (sm_cl0 (sm_lit h0 (by decide)) (sm_lit h0 (by decide)) (sm_lit h0 (by decide)) (sm_lit h0 (by decide)) (sm_lit h0 (by decide)) (sm_lit h0 (by decide)))
    rw [e, e2]; exact ⟨fun h => absurd h (by decide), fun h => absurd rfl h⟩
  · by_cases h1 : 255 < c
    · have e : ixB 0 c = -1 := by unfold ixB; rw [if_neg h0, if_pos h1]
      have e2 : f_X7_isState c = 0 := sm_st0 (sm_lit2 h1 (by decide)) (sm_lit2 h1 (by decide)) (sm_lit2 h1 (by decide)) (sm_lit2 h1 (by decide)) (sm_lit2 h1 (by decide)) (sm_lit2 h1 (by decide)) (sm_cl0 (sm_lit2 h1 (by decide)) (sm_lit2 h1 (by decide)) (sm_lit2 h1 (by decide)) (sm_lit2 h1 (by decide)) (sm_lit2 h1 (by decide)) (sm_lit2 h1 (by decide)))
      rw [e, e2]; exact ⟨fun h => absurd h (by decide), fun h => absurd rfl h⟩
    · obtain ⟨k, hk, rfl⟩ := sm_256 h0 h1
      exact sm_ixk0 k hk
theorem sm_clE (c : Int32) : f_X6_isClosing c = f_X7_isClosed c := by
  unfold f_X6_isClosing
  rcases sm_cl01 c with h | h
  · rw [if_pos ((sm_ixc c).mpr h), h]
  · rw [if_neg (fun z => by rw [(sm_ixc c).mp z] at h; exact absurd h (by decide)), h]
/-- a complaint's row, moved to the state a on the day d -/
def sm_mv (a d : Int32) (r : Nat → Int32) : Nat → Int32 := fun k =>
  if k = 11 then a else if k = 13 then (if f_X7_isClosed a = 0 then r 13 else d) else if k = 14 then (if a = 97 then d else -1) else if k = 15 then (if r 14 = -1 then r 15 else r 15 + (d - r 14)) else r k
def sm_row (B : BT) (c : Nat) (r : Nat → Int32) : BT := fun c' => if c' = c then r else B c'
theorem sm_moveTo (i : Nat) (a d : Int32) (B : BT) : f_X1_moveTo i a d B = sm_row B (10 + i) (sm_mv a d (B (10 + i))) := by
  funext c k
  unfold f_X1_moveTo sm_row
  simp only [sm_ixc]
  by_cases hc : c = 10 + i
  · subst hc
    rw [if_pos rfl]
    unfold sm_mv
    have hk : k = 11 ∨ k = 13 ∨ k = 14 ∨ k = 15 ∨ (k ≠ 11 ∧ k ≠ 13 ∧ k ≠ 14 ∧ k ≠ 15) := by omega
    rcases hk with rfl | rfl | rfl | rfl | ⟨k1, k2, k3, k4⟩ <;> rcases Or.imp eq_true eq_false (Classical.em (B (10 + i) 14 = -1)) with h1 | h1 <;> rcases Or.imp eq_true eq_false (Classical.em (a = 97)) with h2 | h2 <;> rcases Or.imp eq_true eq_false (Classical.em (f_X7_isClosed a = 0)) with h3 | h3 <;> simp [up2, *]
  · rw [if_neg hc]
    rcases Or.imp eq_true eq_false (Classical.em (B (10 + i) 14 = -1)) with h1 | h1 <;> rcases Or.imp eq_true eq_false (Classical.em (a = 97)) with h2 | h2 <;> rcases Or.imp eq_true eq_false (Classical.em (f_X7_isClosed a = 0)) with h3 | h3 <;> simp [up2, *]
def sm_cnt (i : Nat) (B : BT) : Nat → Int32
  | 0 => 0
  | k + 1 => if B (10 + k) 12 = nI i then sm_cnt i B k + 1 else sm_cnt i B k
def sm_all (i : Nat) (a : Int32) (B : BT) (m : Nat) : BT := fun c => if 10 ≤ c ∧ c < 10 + m ∧ B c 12 = nI i then sm_mv a (B 0 5) (B c) else B c
theorem sm_all_o {i : Nat} {a : Int32} {B : BT} {m c k : Nat} (h : c < 10 ∨ 10 + m ≤ c) : sm_all i a B m c k = B c k := by
  unfold sm_all; rw [if_neg (fun z => by omega)]
theorem sm_all_C {i : Nat} {a : Int32} {B : BT} {m j : Nat} (h : j < m) : sm_all i a B m (10 + j) = if B (10 + j) 12 = nI i then sm_mv a (B 0 5) (B (10 + j)) else B (10 + j) := by
  unfold sm_all
  by_cases z : B (10 + j) 12 = nI i
  · rw [if_pos ⟨by omega, by omega, z⟩, if_pos z]
  · rw [if_neg (fun q => z q.2.2), if_neg z]
theorem sm_moveAll (i : Nat) (a : Int32) (B : BT) : ∀ k, L_moveAll i a B k = (sm_cnt i B k, sm_all i a B k) := by
  intro k
  induction k with
  | zero =>
    show (0, B) = (0, sm_all i a B 0)
    congr 1
    funext c
    unfold sm_all
    rw [if_neg (fun z => by omega)]
  | succ k ih =>
    show b_moveAll i a B k (L_moveAll i a B k) = _
    rw [ih]
    unfold b_moveAll
    have e1 : sm_all i a B k (10 + k) = B (10 + k) := by unfold sm_all; rw [if_neg (fun z => by omega)]
    have e2 : sm_all i a B k 0 = B 0 := by unfold sm_all; rw [if_neg (fun z => by omega)]
    simp only [e1, e2, sm_moveTo]
    by_cases h : B (10 + k) 12 = nI i
    · rw [if_pos h]
      refine Prod.ext ?_ ?_
      · show sm_cnt i B k + 1 = if B (10 + k) 12 = nI i then sm_cnt i B k + 1 else sm_cnt i B k
        rw [if_pos h]
      · funext c
        show sm_row (sm_all i a B k) (10 + k) (sm_mv a (B 0 5) (B (10 + k))) c = sm_all i a B (k + 1) c
        unfold sm_row
        by_cases hc : c = 10 + k
        · subst hc
          rw [if_pos rfl, sm_all_C (by omega), if_pos h]
        · rw [if_neg hc]
          unfold sm_all
          by_cases hh : 10 ≤ c ∧ c < 10 + k ∧ B c 12 = nI i
          · rw [if_pos hh, if_pos ⟨hh.1, by omega, hh.2.2⟩]
          · rw [if_neg hh, if_neg (fun z => hh ⟨z.1, by omega, z.2.2⟩)]
    · rw [if_neg h]
      refine Prod.ext ?_ ?_
      · show sm_cnt i B k = if B (10 + k) 12 = nI i then sm_cnt i B k + 1 else sm_cnt i B k
        rw [if_neg h]
      · funext c
        show sm_all i a B k c = sm_all i a B (k + 1) c
        unfold sm_all
        by_cases hh : 10 ≤ c ∧ c < 10 + k ∧ B c 12 = nI i
        · rw [if_pos hh, if_pos ⟨hh.1, by omega, hh.2.2⟩]
        · rw [if_neg hh, if_neg (fun z => hh ⟨z.1, by
            rcases Nat.lt_or_ge c (10 + k) with q | q
            · exact q
            · exact absurd (by rw [show 10 + k = c by omega]; exact z.2.2) h, z.2.2⟩)]
theorem sm_moveAllF {B : BT} {m : Nat} (i : Nat) (a : Int32) (hm : B 0 4 = nI m) (h : m ≤ 20) : f_X0_moveAll i a B = (sm_cnt i B m, sm_all i a B m) := by
  unfold f_X0_moveAll
  rw [hm, nI_clamp (by omega), sm_moveAll]
theorem sm_cnt_le {i : Nat} {B : BT} (hi : i < 20) : ∀ k, k ≤ i → sm_cnt i B k = L_followersOf i B k := by
  intro k
  induction k with
  | zero => intro _; rfl
  | succ k ih =>
    intro h
    show (if B (10 + k) 12 = nI i then sm_cnt i B k + 1 else sm_cnt i B k) = b_followersOf i B k (L_followersOf i B k)
    unfold b_followersOf
    rw [ih (by omega), if_neg (show ¬ nI k = nI i from fun z => by have := (nI_eq (by omega) (by omega)).mp z; omega)]
theorem sm_cnt_gt {i : Nat} {B : BT} (hi : i < 20) (h12 : B (10 + i) 12 = nI i) : ∀ k, i < k → k ≤ 20 → sm_cnt i B k = L_followersOf i B k + 1 := by
  intro k
  induction k with
  | zero => intro h; omega
  | succ k ih =>
    intro h1 h2
    show (if B (10 + k) 12 = nI i then sm_cnt i B k + 1 else sm_cnt i B k) = b_followersOf i B k (L_followersOf i B k) + 1
    unfold b_followersOf
    by_cases e : k = i
    · subst e
      rw [if_pos h12, if_pos rfl, sm_cnt_le hi k (Nat.le_refl _)]
    · rw [ih (by omega) (by omega), if_neg (show ¬ nI k = nI i from fun z => e ((nI_eq (by omega) (by omega)).mp z))]
      by_cases q : B (10 + k) 12 = nI i
      · rw [if_pos q, if_pos q]
      · rw [if_neg q, if_neg q]
theorem sm_fol0 {i : Nat} {B : BT} (hi : i < 20) : ∀ k, k ≤ 20 → ∃ q, q ≤ k ∧ L_followersOf i B k = nI q ∧ (q = 0 → ∀ j, j < k → j ≠ i → ¬ B (10 + j) 12 = nI i) := by
  intro k
  induction k with
  | zero => intro _; exact ⟨0, Nat.le_refl _, rfl, fun _ j h => by omega⟩
  | succ k ih =>
    intro h
    obtain ⟨q, h1, h2, h3⟩ := ih (by omega)
    show ∃ q, q ≤ k + 1 ∧ b_followersOf i B k (L_followersOf i B k) = nI q ∧ _
    unfold b_followersOf
    by_cases e : nI k = nI i
    · rw [if_pos e]
      refine ⟨q, by omega, h2, fun h0 j hj hne => ?_⟩
      rcases Nat.lt_or_ge j k with z | z
      · exact h3 h0 j z hne
      · have : j = k := by omega
        subst this
        intro w
        exact hne ((nI_eq (by omega) (by omega)).mp e)
    · rw [if_neg e]
      by_cases w : B (10 + k) 12 = nI i
      · rw [if_pos w]
        exact ⟨q + 1, by omega, by rw [h2, nI_1], fun z => by omega⟩
      · rw [if_neg w]
        refine ⟨q, by omega, h2, fun h0 j hj hne => ?_⟩
        rcases Nat.lt_or_ge j k with z | z
        · exact h3 h0 j z hne
        · have : j = k := by omega
          subst this; exact w
theorem sm_ne1 {n : Nat} (h : n < 2 ^ 31) : nI n ≠ -1 := by
  intro e
  have h5 := congrArg Int32.toInt e
  rw [nI_toInt h] at h5
  have : (-1 : Int32).toInt = -1 := by decide
  omega
