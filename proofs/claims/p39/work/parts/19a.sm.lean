/-! the class's numbers beside the reference's: reading, chars, moves, counts -/
theorem up2_same (B : BT) (c k : Nat) (v : Int32) : up2 B c k v c k = v := by simp [up2]
theorem up2_kk {B : BT} {c k : Nat} {v : Int32} {c' k' : Nat} (h : k' ≠ k) : up2 B c k v c' k' = B c' k' := by
  unfold up2
  by_cases e : c' = c
  · rw [if_pos e, if_neg h]
  · rw [if_neg e]
theorem up2_cc {B : BT} {c k : Nat} {v : Int32} {c' k' : Nat} (h : c' ≠ c) : up2 B c k v c' k' = B c' k' := by
  unfold up2; rw [if_neg h]
theorem sm_lit {c v : Int32} (h : c < 0) (hv : ¬ v < 0) : c ≠ v := fun e => hv (e ▸ h)
theorem sm_lit2 {c v : Int32} (h : 255 < c) (hv : ¬ 255 < v) : c ≠ v := fun e => hv (e ▸ h)
theorem sm_256 {c : Int32} (h0 : ¬ c < 0) (h1 : ¬ 255 < c) : ∃ k, k < 256 ∧ c = nI k := by
  have e0 : ¬ (256 : Int32) ≤ c := by
    intro z
    rw [fa_lt] at h1
    rw [fa_le] at z
    have e1 : (255 : Int32).toInt = 255 := by decide
    have e2 : (256 : Int32).toInt = 256 := by decide
    omega
  exact ⟨c.toNatClampNeg, (vinC (m := 256) (N := 256) h0 e0 rfl (Nat.le_refl _) (by decide)).2, nat_of h0⟩
/-- a complaint's row, moved to the state a on the day d -/
def sm_mv (a d : Int32) (r : Nat → Int32) : Nat → Int32 := fun k =>
  if k = 11 then a else if k = 13 then (if ixB 1 a < 0 then r 13 else d) else if k = 14 then (if a = 97 then d else -1) else if k = 15 then (if r 14 = -1 then r 15 else r 15 + (d - r 14)) else r k
def sm_row (B : BT) (c : Nat) (r : Nat → Int32) : BT := fun c' => if c' = c then r else B c'
theorem sm_moveTo (i : Nat) (a d : Int32) (B : BT) : f_X1_moveTo i a d B = sm_row B (10 + i) (sm_mv a d (B (10 + i))) := by
  funext c k
  unfold f_X1_moveTo sm_row
  by_cases hc : c = 10 + i
  · subst hc
    rw [if_pos rfl]
    unfold sm_mv
    have hk : k = 11 ∨ k = 13 ∨ k = 14 ∨ k = 15 ∨ (k ≠ 11 ∧ k ≠ 13 ∧ k ≠ 14 ∧ k ≠ 15) := by omega
    rcases hk with rfl | rfl | rfl | rfl | ⟨k1, k2, k3, k4⟩ <;> rcases Or.imp eq_true eq_false (Classical.em (B (10 + i) 14 = -1)) with h1 | h1 <;> rcases Or.imp eq_true eq_false (Classical.em (a = 97)) with h2 | h2 <;> rcases Or.imp eq_true eq_false (Classical.em (ixB 1 a < 0)) with h3 | h3 <;> simp [up2, *]
  · rw [if_neg hc]
    rcases Or.imp eq_true eq_false (Classical.em (B (10 + i) 14 = -1)) with h1 | h1 <;> rcases Or.imp eq_true eq_false (Classical.em (a = 97)) with h2 | h2 <;> rcases Or.imp eq_true eq_false (Classical.em (ixB 1 a < 0)) with h3 | h3 <;> simp [up2, *]
def sm_cnt (i : Nat) (B : BT) : Nat → Int32
  | 0 => 0
  | k + 1 => if B (10 + k) 12 = nI i then sm_cnt i B k + 1 else sm_cnt i B k
def sm_all (i : Nat) (a : Int32) (B : BT) (m : Nat) : BT := fun c => if 10 ≤ c ∧ c < 10 + m ∧ B c 12 = nI i then sm_mv a (B 0 5) (B c) else B c
theorem sm_all_o {i : Nat} {a : Int32} {B : BT} {m c k : Nat} (h : c < 10 ∨ 10 + m ≤ c) : sm_all i a B m c k = B c k := by
  unfold sm_all; rw [if_neg (fun z => by omega)]
theorem sm_all_C {i : Nat} {a : Int32} {B : BT} {m j : Nat} (h : j < m) : sm_all i a B m (10 + j) = if B (10 + j) 12 = nI i then sm_mv a (B 0 5) (B (10 + j)) else B (10 + j) := by
  unfold sm_all
  by_cases z : B (10 + j) 12 = nI i
  · rw [if_pos ⟨by omega, by omega, z⟩, if_pos z]
  · rw [if_neg (fun q => z q.2.2), if_neg z]
theorem sm_moveAll (i : Nat) (a : Int32) (B : BT) : ∀ k, L_moveAll i a B k = (sm_cnt i B k, sm_all i a B k) := by
  intro k
  induction k with
  | zero =>
    show (0, B) = (0, sm_all i a B 0)
    congr 1
    funext c
    unfold sm_all
    rw [if_neg (fun z => by omega)]
  | succ k ih =>
    show b_moveAll i a B k (L_moveAll i a B k) = _
    rw [ih]
    unfold b_moveAll
    have e1 : sm_all i a B k (10 + k) = B (10 + k) := by unfold sm_all; rw [if_neg (fun z => by omega)]
    have e2 : sm_all i a B k 0 = B 0 := by unfold sm_all; rw [if_neg (fun z => by omega)]
    simp only [e1, e2, sm_moveTo]
    by_cases h : B (10 + k) 12 = nI i
    · rw [if_pos h]
      refine Prod.ext ?_ ?_
      · show sm_cnt i B k + 1 = if B (10 + k) 12 = nI i then sm_cnt i B k + 1 else sm_cnt i B k
        rw [if_pos h]
      · funext c
        show sm_row (sm_all i a B k) (10 + k) (sm_mv a (B 0 5) (B (10 + k))) c = sm_all i a B (k + 1) c
        unfold sm_row
        by_cases hc : c = 10 + k
        · subst hc
          rw [if_pos rfl, sm_all_C (by omega), if_pos h]
        · rw [if_neg hc]
          unfold sm_all
          by_cases hh : 10 ≤ c ∧ c < 10 + k ∧ B c 12 = nI i
          · rw [if_pos hh, if_pos ⟨hh.1, by omega, hh.2.2⟩]
          · rw [if_neg hh, if_neg (fun z => hh ⟨z.1, by omega, z.2.2⟩)]
    · rw [if_neg h]
      refine Prod.ext ?_ ?_
      · show sm_cnt i B k = if B (10 + k) 12 = nI i then sm_cnt i B k + 1 else sm_cnt i B k
        rw [if_neg h]
      · funext c
        show sm_all i a B k c = sm_all i a B (k + 1) c
        unfold sm_all
        by_cases hh : 10 ≤ c ∧ c < 10 + k ∧ B c 12 = nI i
        · rw [if_pos hh, if_pos ⟨hh.1, by omega, hh.2.2⟩]
        · rw [if_neg hh, if_neg (fun z => hh ⟨z.1, by
            rcases Nat.lt_or_ge c (10 + k) with q | q
            · exact q
            · exact absurd (by rw [show 10 + k = c by omega]; exact z.2.2) h, z.2.2⟩)]
theorem sm_moveAllF {B : BT} {m : Nat} (i : Nat) (a : Int32) (hm : B 0 4 = nI m) (h : m ≤ 20) : f_X0_moveAll i a B = (sm_cnt i B m, sm_all i a B m) := by
  unfold f_X0_moveAll
  rw [hm, nI_clamp (by omega), sm_moveAll]
theorem sm_cnt_le {i : Nat} {B : BT} (hi : i < 20) : ∀ k, k ≤ i → sm_cnt i B k = L_followersOf i B k := by
  intro k
  induction k with
  | zero => intro _; rfl
  | succ k ih =>
    intro h
    show (if B (10 + k) 12 = nI i then sm_cnt i B k + 1 else sm_cnt i B k) = b_followersOf i B k (L_followersOf i B k)
    unfold b_followersOf
    rw [ih (by omega), if_neg (show ¬ nI k = nI i from fun z => by have := (nI_eq (by omega) (by omega)).mp z; omega)]
theorem sm_cnt_gt {i : Nat} {B : BT} (hi : i < 20) (h12 : B (10 + i) 12 = nI i) : ∀ k, i < k → k ≤ 20 → sm_cnt i B k = L_followersOf i B k + 1 := by
  intro k
  induction k with
  | zero => intro h; omega
  | succ k ih =>
    intro h1 h2
    show (if B (10 + k) 12 = nI i then sm_cnt i B k + 1 else sm_cnt i B k) = b_followersOf i B k (L_followersOf i B k) + 1
    unfold b_followersOf
    by_cases e : k = i
    · subst e
      rw [if_pos h12, if_pos rfl, sm_cnt_le hi k (Nat.le_refl _)]
    · rw [ih (by omega) (by omega), if_neg (show ¬ nI k = nI i from fun z => e ((nI_eq (by omega) (by omega)).mp z))]
      by_cases q : B (10 + k) 12 = nI i
      · rw [if_pos q, if_pos q]
      · rw [if_neg q, if_neg q]
theorem sm_fol0 {i : Nat} {B : BT} (hi : i < 20) : ∀ k, k ≤ 20 → ∃ q, q ≤ k ∧ L_followersOf i B k = nI q ∧ (q = 0 → ∀ j, j < k → j ≠ i → ¬ B (10 + j) 12 = nI i) := by
  intro k
  induction k with
  | zero => intro _; exact ⟨0, Nat.le_refl _, rfl, fun _ j h => by omega⟩
  | succ k ih =>
    intro h
    obtain ⟨q, h1, h2, h3⟩ := ih (by omega)
    show ∃ q, q ≤ k + 1 ∧ b_followersOf i B k (L_followersOf i B k) = nI q ∧ _
    unfold b_followersOf
    by_cases e : nI k = nI i
    · rw [if_pos e]
      refine ⟨q, by omega, h2, fun h0 j hj hne => ?_⟩
      rcases Nat.lt_or_ge j k with z | z
      · exact h3 h0 j z hne
      · have : j = k := by omega
        subst this
        intro w
        exact hne ((nI_eq (by omega) (by omega)).mp e)
    · rw [if_neg e]
      by_cases w : B (10 + k) 12 = nI i
      · rw [if_pos w]
        exact ⟨q + 1, by omega, by rw [h2, nI_1], fun z => by omega⟩
      · rw [if_neg w]
        refine ⟨q, by omega, h2, fun h0 j hj hne => ?_⟩
        rcases Nat.lt_or_ge j k with z | z
        · exact h3 h0 j z hne
        · have : j = k := by omega
          subst this; exact w
theorem sm_ne1 {n : Nat} (h : n < 2 ^ 31) : nI n ≠ -1 := by
  intro e
  have h5 := congrArg Int32.toInt e
  rw [nI_toInt h] at h5
  have : (-1 : Int32).toInt = -1 := by decide
  omega

/-! two books that say the same of what stands: what is told to both, they say the same of again -/
def sm_lv (n m c k : Nat) : Prop := (c = 0 ∧ 3 ≤ k ∧ k ≤ 5) ∨ (c = 3 ∧ k < 5) ∨ (4 ≤ c ∧ c < 4 + n ∧ k < 4) ∨ (10 ≤ c ∧ c < 10 + m ∧ 3 ≤ k ∧ k < 16) ∨ (30 ≤ c ∧ c < 30 + m ∧ k < 4) ∨ (50 ≤ c ∧ c < 50 + m ∧ k < 6)
def sm_A (n m : Nat) (B B' : BT) : Prop := ∀ c k, sm_lv n m c k → B c k = B' c k
def sm_Z (n m : Nat) (B B' : BT) : Prop := sm_A n m B B' ∧ B 0 3 = nI n ∧ B 0 4 = nI m ∧ n ≤ 6 ∧ m ≤ 20 ∧ (m = 0 ∨ 0 < n)
section SZ
variable {n m : Nat} {B B' : BT}
theorem sm_A.up (h : sm_A n m B B') {c k : Nat} {v v' : Int32} (hv : v = v') : sm_A n m (up2 B c k v) (up2 B' c k v') := by
  intro c' k' hl
  have := h c' k' hl
  unfold up2
  rw [this, hv]
theorem sm_Z.up (h : sm_Z n m B B') {c k : Nat} {v v' : Int32} (hv : v = v') (hc : c ≠ 0 ∨ (k ≠ 3 ∧ k ≠ 4)) : sm_Z n m (up2 B c k v) (up2 B' c k v') := by
  obtain ⟨h1, h2, h3, h4⟩ := h
  refine ⟨h1.up hv, ?_, ?_, h4⟩
  · rcases hc with z | z
    · rw [up2_cc (Ne.symm z)]; exact h2
    · rw [up2_kk (Ne.symm z.1)]; exact h2
  · rcases hc with z | z
    · rw [up2_cc (Ne.symm z)]; exact h3
    · rw [up2_kk (Ne.symm z.2)]; exact h3
theorem sm_Z.ite (c : Prop) [Decidable c] {X X' Y Y' : BT} (h1 : sm_Z n m X X') (h2 : sm_Z n m Y Y') : sm_Z n m (if c then X else Y) (if c then X' else Y') := by
  by_cases h : c
  · rw [if_pos h, if_pos h]; exact h1
  · rw [if_neg h, if_neg h]; exact h2
theorem sm_Z.b (h : sm_Z n m B B') : B 0 3 = B' 0 3 ∧ B 0 4 = B' 0 4 ∧ B 0 5 = B' 0 5 := ⟨h.1 _ _ (by unfold sm_lv; omega), h.1 _ _ (by unfold sm_lv; omega), h.1 _ _ (by unfold sm_lv; omega)⟩
theorem sm_Z.w (h : sm_Z n m B B') {k : Nat} (hk : k < 5) : B 3 k = B' 3 k := h.1 _ _ (by unfold sm_lv; omega)
theorem sm_Z.o (h : sm_Z n m B B') {i k : Nat} (hi : i < n) (hk : k < 4) : B (4 + i) k = B' (4 + i) k := h.1 _ _ (by unfold sm_lv; omega)
theorem sm_Z.c (h : sm_Z n m B B') {i k : Nat} (hi : i < m) (h3 : 3 ≤ k) (hk : k < 16) : B (10 + i) k = B' (10 + i) k := h.1 _ _ (by unfold sm_lv; omega)
theorem sm_Z.q (h : sm_Z n m B B') {i k : Nat} (hi : i < m) (hk : k < 4) : B (30 + i) k = B' (30 + i) k := h.1 _ _ (by unfold sm_lv; omega)
theorem sm_Z.f (h : sm_Z n m B B') {i k : Nat} (hi : i < m) (hk : k < 6) : B (50 + i) k = B' (50 + i) k := h.1 _ _ (by unfold sm_lv; omega)
theorem sm_mv_c {r r' : Nat → Int32} (h : ∀ k, 3 ≤ k → k < 16 → r k = r' k) (a d : Int32) {k : Nat} (h3 : 3 ≤ k) (hk : k < 16) : sm_mv a d r k = sm_mv a d r' k := by
  unfold sm_mv
  rw [h 13 (by decide) (by decide), h 14 (by decide) (by decide), h 15 (by decide) (by decide), h k h3 hk]
theorem sm_Z.row (h : sm_Z n m B B') {i : Nat} (hi : i < m) {r r' : Nat → Int32} (hr : ∀ k, 3 ≤ k → k < 16 → r k = r' k) : sm_Z n m (sm_row B (10 + i) r) (sm_row B' (10 + i) r') := by
  obtain ⟨h1, h2, h3, h4, h5, h6⟩ := h
  refine ⟨?_, ?_, ?_, h4, h5, h6⟩
  · intro c k hl
    unfold sm_row
    by_cases hc : c = 10 + i
    · rw [if_pos hc, if_pos hc]
      unfold sm_lv at hl
      exact hr k (by omega) (by omega)
    · rw [if_neg hc, if_neg hc]; exact h1 c k hl
  · unfold sm_row; rw [if_neg (by omega)]; exact h2
  · unfold sm_row; rw [if_neg (by omega)]; exact h3
theorem sm_Z.moveTo (h : sm_Z n m B B') {i : Nat} (hi : i < m) {a a' d d' : Int32} (ha : a = a') (hd : d = d') : sm_Z n m (f_X1_moveTo i a d B) (f_X1_moveTo i a' d' B') := by
  subst ha hd
  rw [sm_moveTo, sm_moveTo]
  exact h.row hi (fun k h3 hk => sm_mv_c (fun j z1 z2 => h.c hi z1 z2) a d h3 hk)
theorem sm_Z.cnt (h : sm_Z n m B B') (i : Nat) : ∀ k, k ≤ m → sm_cnt i B k = sm_cnt i B' k := by
  intro k
  induction k with
  | zero => intro _; rfl
  | succ k ih =>
    intro hk
    show (if B (10 + k) 12 = nI i then sm_cnt i B k + 1 else sm_cnt i B k) = (if B' (10 + k) 12 = nI i then sm_cnt i B' k + 1 else sm_cnt i B' k)
    rw [ih (by omega), h.c (show k < m by omega) (by decide) (by decide)]
theorem sm_Z.all (h : sm_Z n m B B') (i : Nat) (a : Int32) : sm_Z n m (sm_all i a B m) (sm_all i a B' m) := by
  have hh := h
  obtain ⟨h1, h2, h3, h4, h5, h6⟩ := h
  refine ⟨?_, ?_, ?_, h4, h5, h6⟩
  · intro c k hl
    by_cases hc : 10 ≤ c ∧ c < 10 + m
    · obtain ⟨j, rfl⟩ : ∃ j, c = 10 + j := ⟨c - 10, by omega⟩
      have hj : j < m := by omega
      rw [sm_all_C hj, sm_all_C hj, hh.c hj (by decide) (by decide), hh.b.2.2]
      by_cases z : B' (10 + j) 12 = nI i
      · rw [if_pos z, if_pos z]
        unfold sm_lv at hl
        exact sm_mv_c (fun q z1 z2 => hh.c hj z1 z2) _ _ (by omega) (by omega)
      · rw [if_neg z, if_neg z]; exact h1 _ _ hl
    · rw [sm_all_o (by omega), sm_all_o (by omega)]; exact h1 _ _ hl
  · rw [sm_all_o (by omega)]; exact h2
  · rw [sm_all_o (by omega)]; exact h3
theorem sm_Z.moveAll (h : sm_Z n m B B') (i : Nat) (a : Int32) : (f_X0_moveAll i a B).1 = (f_X0_moveAll i a B').1 ∧ sm_Z n m (f_X0_moveAll i a B).2 (f_X0_moveAll i a B').2 := by
  rw [sm_moveAllF i a h.2.2.1 h.2.2.2.2.1, sm_moveAllF i a (h.b.2.1.symm.trans h.2.2.1) h.2.2.2.2.1]
  exact ⟨h.cnt i m (Nat.le_refl _), h.all i a⟩
theorem sm_Z.fol (h : sm_Z n m B B') (i : Nat) : f_X0_followersOf i B = f_X0_followersOf i B' := by
  unfold f_X0_followersOf
  rw [← h.b.2.1, h.2.2.1, nI_clamp (by have := h.2.2.2.2.1; omega)]
  have key : ∀ k, k ≤ m → L_followersOf i B k = L_followersOf i B' k := by
    intro k
    induction k with
    | zero => intro _; rfl
    | succ k ih =>
      intro hk
      show b_followersOf i B k (L_followersOf i B k) = b_followersOf i B' k (L_followersOf i B' k)
      unfold b_followersOf
      rw [ih (by omega), h.c (show k < m by omega) (by decide) (by decide)]
  exact key m (Nat.le_refl _)
theorem sm_Z.wt (h : sm_Z n m B B') (a : Int32) : f_X0_weightOf a B = f_X0_weightOf a B' := by
  unfold f_X0_weightOf
  have key : ∀ k, k ≤ 5 → L_weightOf a B k = L_weightOf a B' k := by
    intro k
    induction k with
    | zero => intro _; rfl
    | succ k ih =>
      intro hk
      show b_weightOf a B k (L_weightOf a B k) = b_weightOf a B' k (L_weightOf a B' k)
      unfold b_weightOf
      rw [ih (by omega), h.w (show k < 5 by omega)]
  exact key 5 (Nat.le_refl _)
theorem sm_Z.off (h : sm_Z n m B B') {i : Nat} (hi : i < m) : f_X0_officeOf i B = f_X0_officeOf i B' ∧ f_X0_officeOf i B < n := by
  have hn : 0 < n := by have := h.2.2.2.2.2; omega
  have e : f_X0_officeOf i B = f_X0_officeOf i B' := by
    unfold f_X0_officeOf
    rw [h.c hi (by decide) (by decide), h.b.1]
  refine ⟨e, ?_⟩
  unfold f_X0_officeOf
  by_cases h1 : B (10 + i) 3 < 0
  · rw [if_pos h1]; exact hn
  · rw [if_neg h1]
    by_cases h2 : B 0 3 ≤ B (10 + i) 3
    · rw [if_pos h2]; exact hn
    · rw [if_neg h2]
      exact (vinC (m := n) (N := 6) h1 h2 h.2.1 h.2.2.2.1 (by decide)).2
theorem sm_Z.X4_begin (h : sm_Z n m B B') (i : Nat) {a a' : Int32} (ha : a = a') : sm_Z n m (f_X4_begin i a B) (f_X4_begin i a' B') := by
  unfold f_X4_begin
  exact (((h.up ha (by omega)).up rfl (by omega)).up rfl (by omega)).up rfl (by omega)
theorem sm_Z.X3_begin (h : sm_Z n m B B') (i : Nat) {a a' : Int32} (ha : a = a') : sm_Z n m (f_X3_begin i a B) (f_X3_begin i a' B') := by
  unfold f_X3_begin
  exact (((((h.up ha (by omega)).up rfl (by omega)).up rfl (by omega)).up rfl (by omega)).up rfl (by omega)).up rfl (by omega)
theorem sm_Z.X3_recommend (h : sm_Z n m B B') (i : Nat) {a a' d d' : Int32} (ha : a = a') (hd : d = d') : sm_Z n m (f_X3_recommend i a d B) (f_X3_recommend i a' d' B') := by
  unfold f_X3_recommend
  exact (((h.up ha (by omega)).up (by rw [ha, hd]) (by omega)).up rfl (by omega)).up rfl (by omega)
theorem sm_Z.intakeOf (h : sm_Z n m B B') {i : Nat} (hi : i < m) : f_X0_intakeOf i B = f_X0_intakeOf i B' := by
  obtain ⟨e1, e2⟩ := h.off hi
  unfold f_X0_intakeOf
  rw [← e1, h.o e2 (by decide), h.o e2 (by decide), h.b.2.2, h.c hi (k := 4) (by decide) (by decide), h.c hi (k := 8) (by decide) (by decide), h.c hi (k := 7) (by decide) (by decide), h.c hi (k := 6) (by decide) (by decide), h.c hi (k := 10) (by decide) (by decide), h.c hi (k := 9) (by decide) (by decide)]
/-- what the answer is, and what stands then -/
def sm_ZZ (n m : Nat) (p p' : Int32 × BT) : Prop := p.1 = p'.1 ∧ sm_Z n m p.2 p'.2
theorem sm_ZZ.ite (c : Prop) [Decidable c] {X X' Y Y' : Int32 × BT} (h1 : sm_ZZ n m X X') (h2 : sm_ZZ n m Y Y') : sm_ZZ n m (if c then X else Y) (if c then X' else Y') := by
  by_cases h : c
  · rw [if_pos h, if_pos h]; exact h1
  · rw [if_neg h, if_neg h]; exact h2
theorem sm_Z.putToOffice (h : sm_Z n m B B') {i : Nat} (hi : i < m) : sm_ZZ n m (f_X0_putToOffice i B) (f_X0_putToOffice i B') := by
  obtain ⟨e1, e2⟩ := h.off hi
  unfold f_X0_putToOffice
  rw [← e1]
  have h1 := (h.X4_begin i (show B 0 5 + B (4 + f_X0_officeOf i B) 0 = B' 0 5 + B' (4 + f_X0_officeOf i B) 0 by rw [h.b.2.2, h.o e2 (by decide)])).moveAll i 97
  exact ⟨h1.2.q hi (by decide), h1.2⟩
theorem sm_Z.giveTime (h : sm_Z n m B B') {i : Nat} (hi : i < m) (a : Int32) : sm_ZZ n m (f_X0_giveTime i a B) (f_X0_giveTime i a B') := by
  unfold f_X0_giveTime
  have h1 := h.up (c := 30 + i) (k := 1) (v := 1) (v' := 1) rfl (by omega)
  have h2 := h1.up (c := 30 + i) (k := 0) (show up2 B (30 + i) 1 1 (30 + i) 0 + a = up2 B' (30 + i) 1 1 (30 + i) 0 + a by rw [h1.q hi (by decide)]) (by omega)
  exact ⟨h2.q hi (by decide), h2⟩
theorem sm_Z.urge (h : sm_Z n m B B') {i : Nat} (hi : i < m) : sm_ZZ n m (f_X0_urge i B) (f_X0_urge i B') := by
  unfold f_X0_urge
  have h1 := h.up (c := 30 + i) (k := 2) (show B (30 + i) 2 + 1 = B' (30 + i) 2 + 1 by rw [h.q hi (by decide)]) (by omega)
  have h2 := h1.up (c := 30 + i) (k := 0) (congrArg (· + 7) h1.b.2.2) (by omega)
  exact ⟨h2.q hi (by decide), h2⟩
theorem sm_Z.putBehind (h : sm_Z n m B B') {i : Nat} (hi : i < m) (a : Int32) : sm_ZZ n m (f_X0_putBehind i a B) (f_X0_putBehind i a B') := by
  unfold f_X0_putBehind
  rw [← h.b.2.1]
  by_cases h1 : a < 0
  · rw [if_pos h1, if_pos h1]; exact ⟨rfl, h⟩
  · rw [if_neg h1, if_neg h1]
    by_cases h2 : a < B 0 4
    · rw [if_pos h2, if_pos h2]
      have hl : a.toNatClampNeg < m := (vinC (m := m) (N := 20) h1 (i32_nle h2) h.2.2.1 h.2.2.2.2.1 (by decide)).2
      have u := h.up (c := 10 + i) (k := 12) (v := a) (v' := a) rfl (by omega)
      have h3 := u.moveTo hi (u.c hl (k := 11) (by decide) (by decide)) u.b.2.2
      exact ⟨h3.fol _, h3⟩
    · rw [if_neg h2, if_neg h2]; exact ⟨rfl, h⟩
theorem sm_Z.setFree (h : sm_Z n m B B') {i : Nat} (hi : i < m) : sm_ZZ n m (f_X0_setFree i B) (f_X0_setFree i B') := by
  unfold f_X0_setFree
  have u := h.up (c := 10 + i) (k := 12) (v := nI i) (v' := nI i) rfl (by omega)
  exact ⟨h.c hi (by decide) (by decide), u.moveTo hi rfl u.b.2.2⟩
theorem sm_Z.insist (h : sm_Z n m B B') {i : Nat} (hi : i < m) : sm_ZZ n m (f_X0_insist i B) (f_X0_insist i B') := by
  unfold f_X0_insist
  rw [← h.f hi (show 3 < 6 by decide)]
  refine sm_ZZ.ite _ ?_ ⟨rfl, (h.moveAll i 105).2⟩
  have u := h.up (c := 50 + i) (k := 3) (v := 1) (v' := 1) rfl (by omega)
  have e := u.f hi (show 1 < 6 by decide)
  have h3 := u.X3_recommend i (show (if 4 < up2 B (50 + i) 3 1 (50 + i) 1 + 1 then 4 else up2 B (50 + i) 3 1 (50 + i) 1 + 1) = (if 4 < up2 B' (50 + i) 3 1 (50 + i) 1 + 1 then 4 else up2 B' (50 + i) 3 1 (50 + i) 1 + 1) by rw [e]) u.b.2.2
  exact ⟨h3.f hi (by decide), h3⟩
theorem sm_Z.takeBackL (h : sm_Z n m B B') (i : Nat) : ∀ k, k ≤ m → sm_ZZ n m (L_takeBack i B k) (L_takeBack i B' k) := by
  intro k
  induction k with
  | zero => intro _; exact ⟨rfl, h⟩
  | succ k ih =>
    intro hk
    have z := ih (by omega)
    show sm_ZZ n m (b_takeBack i B k (L_takeBack i B k)) (b_takeBack i B' k (L_takeBack i B' k))
    unfold b_takeBack
    refine sm_ZZ.ite _ z ?_
    rw [← z.2.c (show k < m by omega) (show 3 ≤ 12 by decide) (by decide)]
    have u := z.2.up (c := 10 + k) (k := 12) (v := nI k) (v' := nI k) rfl (by omega)
    exact sm_ZZ.ite _ ⟨congrArg (· + 1) z.1, u.moveTo (by omega) rfl u.b.2.2⟩ z
theorem sm_Z.takeBack (h : sm_Z n m B B') {i : Nat} (hi : i < m) : sm_ZZ n m (f_X0_takeBack i B) (f_X0_takeBack i B') := by
  unfold f_X0_takeBack
  rw [← h.b.2.1, h.2.2.1, nI_clamp (by have := h.2.2.2.2.1; omega)]
  have z := h.takeBackL i m (Nat.le_refl _)
  exact ⟨z.1, z.2.moveTo hi rfl z.2.b.2.2⟩
theorem sm_Z.conclude (h : sm_Z n m B B') {i : Nat} (hi : i < m) (a : Int32) : sm_ZZ n m (f_X0_conclude i a B) (f_X0_conclude i a B') := by
  have hj : j_X0_conclude_0 i a B = j_X0_conclude_0 i a B' := by
    unfold j_X0_conclude_0; rw [h.q hi (by decide)]
  have h1 : sm_Z n m (t_conclude1 i a B) (t_conclude1 i a B') := by
    unfold t_conclude1; exact h.X3_begin i hj
  have hv : v_conclude i a B = v_conclude i a B' := by
    unfold v_conclude; rw [hj, h1.wt, h1.fol]
  have h2 : sm_Z n m (t_conclude2 i a B) (t_conclude2 i a B') := by
    unfold t_conclude2; exact h1.X3_recommend i (by rw [hv]) h1.b.2.2
  obtain ⟨e1, e2⟩ := h2.off hi
  have h3 := h2.moveAll i 100
  unfold f_X0_conclude
  rw [← hj, ← e1, ← h2.o e2 (show 2 < 4 by decide), ← h3.1]
  refine sm_ZZ.ite _ ⟨rfl, (h1.moveAll i 117).2⟩ ?_
  have h4 := h3.2.up (c := 4 + f_X0_officeOf i (t_conclude2 i a B)) (k := 2) (v := t_conclude2 i a B (4 + f_X0_officeOf i (t_conclude2 i a B)) 2 + (f_X0_moveAll i 100 (t_conclude2 i a B)).1) rfl (by omega)
  exact ⟨h4.f hi (by decide), h4⟩
theorem sm_Z.tellOfCourt (h : sm_Z n m B B') {i : Nat} (hi : i < m) (a : Int32) : sm_ZZ n m (f_X0_tellOfCourt i a B) (f_X0_tellOfCourt i a B') := by
  unfold f_X0_tellOfCourt
  rw [← h.c hi (show 3 ≤ 8 by decide) (by decide)]
  have u := h.up (c := 10 + i) (k := 8) (v := a) (v' := a) rfl (by omega)
  exact sm_ZZ.ite _ ⟨rfl, u⟩ ⟨rfl, u⟩
theorem sm_Z.tellOfReason (h : sm_Z n m B B') {i : Nat} (hi : i < m) : sm_ZZ n m (f_X0_tellOfReason i B) (f_X0_tellOfReason i B') := by
  unfold f_X0_tellOfReason
  rw [← h.c hi (show 3 ≤ 9 by decide) (by decide)]
  have u := h.up (c := 10 + i) (k := 9) (v := 1) (v' := 1) rfl (by omega)
  exact sm_ZZ.ite _ ⟨rfl, u⟩ ⟨rfl, u⟩
theorem sm_Z.atIntake (h : sm_Z n m B B') {i : Nat} (hi : i < m) (a b : Int32) : sm_ZZ n m (f_X0_applyAtIntake a i b B) (f_X0_applyAtIntake a i b B') := by
  unfold f_X0_applyAtIntake
  refine sm_ZZ.ite _ (sm_ZZ.ite _ (h.tellOfCourt hi 1) (h.tellOfCourt hi 0)) (sm_ZZ.ite _ (h.tellOfReason hi) (sm_ZZ.ite _ ?_ ?_))
  · have u := h.up (c := 10 + i) (k := 10) h.b.2.2 (by omega)
    obtain ⟨e1, e2⟩ := u.off hi
    refine ⟨?_, u⟩
    show up2 B (10 + i) 10 (B 0 5) 0 5 + up2 B (10 + i) 10 (B 0 5) (4 + f_X0_officeOf i (up2 B (10 + i) 10 (B 0 5))) 0 = up2 B' (10 + i) 10 (B' 0 5) 0 5 + up2 B' (10 + i) 10 (B' 0 5) (4 + f_X0_officeOf i (up2 B' (10 + i) 10 (B' 0 5))) 0
    rw [← e1, u.b.2.2, u.o e2 (by decide)]
  · have u := h.moveTo hi (h.intakeOf hi) h.b.2.2
    exact ⟨u.c hi (by decide) (by decide), u⟩
theorem sm_Z.openOffice (h : sm_Z n m B B') (a b : Int32) : ∃ n' m', sm_ZZ n' m' (f_X0_openOffice a b B) (f_X0_openOffice a b B') := by
  have h6 := h.2.2.2.1
  unfold f_X0_openOffice
  rw [← h.b.1, h.2.1]
  by_cases h1 : nI n < 6
  · rw [if_pos h1, if_pos h1]
    have hn : n < 6 := by rw [show (6 : Int32) = nI 6 from rfl, nI_ltI (by omega) (by omega)] at h1; exact h1
    rw [nI_clamp (by omega)]
    have e : ∀ X : BT, f_X5_begin n a b X 0 3 = X 0 3 := fun X => by unfold f_X5_begin; simp (disch := omega) only [up2_cc]
    have e4 : ∀ X : BT, f_X5_begin n a b X 0 4 = X 0 4 := fun X => by unfold f_X5_begin; simp (disch := omega) only [up2_cc]
    refine ⟨n + 1, m, ?_, ?_, ?_, ?_, by omega, h.2.2.2.2.1, by omega⟩
    · show up2 (f_X5_begin n a b B) 0 3 _ 0 3 - 1 = up2 (f_X5_begin n a b B') 0 3 _ 0 3 - 1
      rw [up2_same, up2_same, e, e, h.b.1]
    · rw [e, e, ← h.b.1]
      refine sm_A.up ?_ rfl
      intro c k hl
      unfold f_X5_begin
      by_cases hc : c = 4 + n
      · subst hc
        unfold sm_lv at hl
        have hk : k = 0 ∨ k = 1 ∨ k = 2 ∨ k = 3 := by omega
        rcases hk with rfl | rfl | rfl | rfl <;> simp (disch := omega) only [up2_kk, up2_same]
      · simp (disch := omega) only [up2_cc]
        refine h.1 c k ?_
        unfold sm_lv at hl ⊢
        omega
    · show up2 (f_X5_begin n a b B) 0 3 (f_X5_begin n a b B 0 3 + 1) 0 3 = _
      rw [up2_same, e, h.2.1, nI_1]
    · show up2 (f_X5_begin n a b B) 0 3 (f_X5_begin n a b B 0 3 + 1) 0 4 = _
      rw [up2_kk (by decide), e4]; exact h.2.2.1
  · rw [if_neg h1, if_neg h1]; exact ⟨n, m, rfl, h⟩
theorem sm_Z.weigh (h : sm_Z n m B B') (a b : Int32) : sm_ZZ n m (f_X0_weigh a b B) (f_X0_weigh a b B') := by
  unfold f_X0_weigh
  by_cases h1 : a < 0
  · rw [if_pos h1, if_pos h1]; exact ⟨rfl, h⟩
  · rw [if_neg h1, if_neg h1]
    by_cases h2 : a < 5
    · rw [if_pos h2, if_pos h2]
      have hl : a.toNatClampNeg < 5 := (vinC (m := 5) (N := 5) h1 (i32_nle h2) rfl (Nat.le_refl _) (by decide)).2
      exact ⟨h.w hl, h.up rfl (by omega)⟩
    · rw [if_neg h2, if_neg h2]; exact ⟨rfl, h⟩
theorem sm_Z.hear (h : sm_Z n m B B') (a1 a2 a3 a4 : Int32) : ∃ n' m', sm_ZZ n' m' (f_X0_hear a1 a2 a3 a4 B) (f_X0_hear a1 a2 a3 a4 B') := by
  have h6 := h.2.2.2.1
  have h20 := h.2.2.2.2.1
  unfold f_X0_hear
  rw [← h.b.1, ← h.b.2.1, ← h.b.2.2, h.2.1, h.2.2.1]
  by_cases h1 : a1 < 0
  · rw [if_pos h1, if_pos h1]; exact ⟨n, m, rfl, h⟩
  · rw [if_neg h1, if_neg h1]
    by_cases h2 : nI n ≤ a1
    · rw [if_pos h2, if_pos h2]; exact ⟨n, m, rfl, h⟩
    · rw [if_neg h2, if_neg h2]
      have hn : 0 < n := by
        have := (vinC (m := n) (N := 6) h1 h2 rfl h6 (by decide)).2
        omega
      by_cases h3 : nI m < 20
      · rw [if_pos h3, if_pos h3]
        have hm : m < 20 := by rw [show (20 : Int32) = nI 20 from rfl, nI_ltI (by omega) (by omega)] at h3; exact h3
        rw [nI_clamp (by omega)]
        have e0 : ∀ (X : BT) (d : Int32) (k : Nat), f_X1_begin m a1 a2 a3 a4 d X 0 k = X 0 k := fun X d k => by unfold f_X1_begin f_X3_begin f_X4_begin; simp (disch := omega) only [up2_cc]
        refine ⟨n, m + 1, ?_, ?_, ?_, ?_, h6, by omega, by omega⟩
        · show up2 (f_X1_begin m a1 a2 a3 a4 (B 0 5) B) 0 4 _ 0 4 - 1 = up2 (f_X1_begin m a1 a2 a3 a4 (B 0 5) B') 0 4 _ 0 4 - 1
          rw [up2_same, up2_same, e0, e0, h.b.2.1]
        · rw [e0, e0, ← h.b.2.1]
          refine sm_A.up ?_ rfl
          intro c k hl
          unfold f_X1_begin f_X3_begin f_X4_begin
          by_cases hc : c = 10 + m
          · subst hc
            unfold sm_lv at hl
            have hk : k = 3 ∨ k = 4 ∨ k = 5 ∨ k = 6 ∨ k = 7 ∨ k = 8 ∨ k = 9 ∨ k = 10 ∨ k = 11 ∨ k = 12 ∨ k = 13 ∨ k = 14 ∨ k = 15 := by omega
            rcases hk with rfl | rfl | rfl | rfl | rfl | rfl | rfl | rfl | rfl | rfl | rfl | rfl | rfl <;> simp (disch := omega) only [up2_cc, up2_kk, up2_same]
          · by_cases hc2 : c = 30 + m
            · subst hc2
              unfold sm_lv at hl
              have hk : k = 0 ∨ k = 1 ∨ k = 2 ∨ k = 3 := by omega
              rcases hk with rfl | rfl | rfl | rfl <;> simp (disch := omega) only [up2_cc, up2_kk, up2_same]
            · by_cases hc3 : c = 50 + m
              · subst hc3
                unfold sm_lv at hl
                have hk : k = 0 ∨ k = 1 ∨ k = 2 ∨ k = 3 ∨ k = 4 ∨ k = 5 := by omega
                rcases hk with rfl | rfl | rfl | rfl | rfl | rfl <;> simp (disch := omega) only [up2_cc, up2_kk, up2_same]
              · simp (disch := omega) only [up2_cc]
                refine h.1 c k ?_
                unfold sm_lv at hl ⊢
                omega
        · show up2 (f_X1_begin m a1 a2 a3 a4 (B 0 5) B) 0 4 (f_X1_begin m a1 a2 a3 a4 (B 0 5) B 0 4 + 1) 0 3 = _
          rw [up2_kk (by decide), e0]; exact h.2.1
        · show up2 (f_X1_begin m a1 a2 a3 a4 (B 0 5) B) 0 4 (f_X1_begin m a1 a2 a3 a4 (B 0 5) B 0 4 + 1) 0 4 = _
          rw [up2_same, e0, h.2.2.1, nI_1]
      · rw [if_neg h3, if_neg h3]; exact ⟨n, m, rfl, h⟩
end SZ

/-! what is told again stands as it does -/
section SY
variable {n m : Nat} {B B' : BT}
theorem sm_Z.toCase (h : sm_Z n m B B') {i : Nat} (hi : i < m) (a b : Int32) : sm_ZZ n m (f_X0_applyToCase a i b B) (f_X0_applyToCase a i b B') := by
  unfold f_X0_applyToCase
  refine sm_ZZ.ite _ (h.putToOffice hi) (sm_ZZ.ite _ (h.giveTime hi b) (sm_ZZ.ite _ (h.urge hi) (sm_ZZ.ite _ ?_ (sm_ZZ.ite _ ?_ (sm_ZZ.ite _ (h.putBehind hi b) (sm_ZZ.ite _ (h.setFree hi) (sm_ZZ.ite _ (h.conclude hi b) (sm_ZZ.ite _ (sm_ZZ.ite _ ?_ ?_) (sm_ZZ.ite _ ?_ (sm_ZZ.ite _ (h.insist hi) (sm_ZZ.ite _ (h.takeBack hi) ⟨rfl, h⟩)))))))))))
  · have z := (h.moveAll i 115).2
    refine ⟨?_, z⟩
    simp only [z.b.2.2, z.q hi (show 0 < 4 by decide)]
  · have u := h.up (c := 30 + i) (k := 3) (v := 1) (v' := 1) rfl (by omega)
    exact u.moveAll i 115
  · have u := (h.up (c := 50 + i) (k := 4) (v := 1) (v' := 1) rfl (by omega)).up (c := 50 + i) (k := 5) (v := 1) (v' := 1) rfl (by omega)
    exact ⟨u.f hi (by decide), u⟩
  · have u := (h.up (c := 50 + i) (k := 4) (v := 1) (v' := 1) rfl (by omega)).up (c := 50 + i) (k := 5) (v := 0) (v' := 0) rfl (by omega)
    exact ⟨u.f hi (by decide), u⟩
  · obtain ⟨e1, e2⟩ := h.off hi
    have z := h.moveAll i 104
    rw [← e1, ← h.o e2 (show 3 < 4 by decide), ← z.1]
    have u := z.2.up (c := 4 + f_X0_officeOf i B) (k := 3) (v := B (4 + f_X0_officeOf i B) 3 + (f_X0_moveAll i 104 B).1) rfl (by omega)
    refine ⟨?_, u⟩
    simp only [u.b.2.2, u.f hi (show 2 < 6 by decide)]
theorem sm_Z.apply (h : sm_Z n m B B') (a1 a2 a3 a4 a5 : Int32) : ∃ n' m', sm_ZZ n' m' (f_X0_apply a1 a2 a3 a4 a5 B) (f_X0_apply a1 a2 a3 a4 a5 B') := by
  unfold f_X0_apply
  by_cases h1 : a1 = 1
  · rw [if_pos h1, if_pos h1]; exact h.openOffice a2 a3
  · rw [if_neg h1, if_neg h1]
    by_cases h2 : a1 = 2
    · rw [if_pos h2, if_pos h2]
      have u := h.up (c := 0) (k := 5) (show B 0 5 + a2 = B' 0 5 + a2 by rw [h.b.2.2]) (by omega)
      exact ⟨n, m, u.b.2.2, u⟩
    · rw [if_neg h2, if_neg h2]
      by_cases h3 : a1 = 3
      · rw [if_pos h3, if_pos h3]; exact ⟨n, m, h.weigh a2 a3⟩
      · rw [if_neg h3, if_neg h3]
        by_cases h4 : a1 = 4
        · rw [if_pos h4, if_pos h4]; exact h.hear a2 a3 a4 a5
        · rw [if_neg h4, if_neg h4]
          refine ⟨n, m, ?_⟩
          by_cases h5 : a2 < 0
          · rw [if_pos h5, if_pos h5]; exact ⟨rfl, h⟩
          · rw [if_neg h5, if_neg h5, ← h.b.2.1]
            by_cases h6 : a2 < B 0 4
            · rw [if_pos h6, if_pos h6]
              have hl : a2.toNatClampNeg < m := (vinC (m := m) (N := 20) h5 (i32_nle h6) h.2.2.1 h.2.2.2.2.1 (by decide)).2
              exact sm_ZZ.ite _ (h.toCase hl a1 a3) (h.atIntake hl a1 a3)
            · rw [if_neg h6, if_neg h6]; exact ⟨rfl, h⟩
theorem sm_Z.cast {n' m' : Nat} (h : sm_Z n m B B') (h3 : B 0 3 = nI n') (h4 : B 0 4 = nI m') (hn : n' ≤ 6) (hm : m' ≤ 20) : sm_Z n' m' B B' := by
  have h6 := h.2.2.2.1
  have h20 := h.2.2.2.2.1
  have e1 : n = n' := (nI_eq (by omega) (by omega)).mp (h.2.1.symm.trans h3)
  have e2 : m = m' := (nI_eq (by omega) (by omega)).mp (h.2.2.1.symm.trans h4)
  rw [← e1, ← e2]; exact h
end SY
theorem sm_keep {S : Nat → BT} {ne : Nat} (h : S 2 0 1 = nI ne) (hne : ne < 512) (k a1 a2 a3 a4 : Int32) : (f_X2_keep k a1 a2 a3 a4 S 0 = S 0 ∧ f_X2_keep k a1 a2 a3 a4 S 1 = S 1) ∧ f_X2_keep k a1 a2 a3 a4 S 2 0 1 = nI (ne + 1) ∧ (f_X2_keep k a1 a2 a3 a4 S 2 1 (ne * 5 + 0) = k ∧ f_X2_keep k a1 a2 a3 a4 S 2 1 (ne * 5 + 1) = a1 ∧ f_X2_keep k a1 a2 a3 a4 S 2 1 (ne * 5 + 2) = a2 ∧ f_X2_keep k a1 a2 a3 a4 S 2 1 (ne * 5 + 3) = a3 ∧ f_X2_keep k a1 a2 a3 a4 S 2 1 (ne * 5 + 4) = a4) ∧ ∀ q, q < ne * 5 → f_X2_keep k a1 a2 a3 a4 S 2 1 q = S 2 1 q := by
  have hlt : nI ne < 512 := by rw [show (512 : Int32) = nI 512 from rfl, nI_ltI (by omega) (by omega)]; exact hne
  have v2 : ∀ (X : Nat → BT) (Y : BT), va_up X 2 Y 2 = Y := fun X Y => va_up_at X 2 Y
  have v0 : ∀ (X : Nat → BT) (Y : BT), va_up X 2 Y 0 = X 0 := fun X Y => by simp [va_up]
  have v1 : ∀ (X : Nat → BT) (Y : BT), va_up X 2 Y 1 = X 1 := fun X Y => by simp [va_up]
  unfold f_X2_keep
  rw [h, if_pos hlt, nI_clamp (by omega)]
  unfold ups3
  simp only [v2, v0, v1]
  refine ⟨⟨trivial, trivial⟩, ?_, ⟨?_, ?_, ?_, ?_, ?_⟩, ?_⟩
  · rw [up2_same]; simp (disch := omega) only [up2_cc]; rw [h, nI_1]
  · simp (disch := omega) only [up2_cc, up2_kk, up2_same]
  · simp (disch := omega) only [up2_cc, up2_kk, up2_same]
  · simp (disch := omega) only [up2_cc, up2_kk, up2_same]
  · simp (disch := omega) only [up2_cc, up2_kk, up2_same]
  · simp (disch := omega) only [up2_cc, up2_kk, up2_same]
  · intro q hq
    simp (disch := omega) only [up2_cc, up2_kk]
theorem sm_tell_c {S S' : Nat → BT} {B1 : BT} : ∀ k, (∀ q, q < k * 5 → S' 2 1 q = S 2 1 q) → L_tellAgain S' B1 k = L_tellAgain S B1 k := by
  intro k
  induction k with
  | zero => intro _; rfl
  | succ k ih =>
    intro h
    show b_tellAgain S' B1 k (L_tellAgain S' B1 k) = b_tellAgain S B1 k (L_tellAgain S B1 k)
    unfold b_tellAgain
    rw [ih (fun q hq => h q (by omega)), h _ (by omega), h _ (by omega), h _ (by omega), h _ (by omega), h _ (by omega)]
/-- the events, told again to any book, make one that says what the book says -/
def sm_E (S : Nat → BT) (n m ne : Nat) : Prop := S 2 0 1 = nI ne ∧ ne ≤ 512 ∧ ∀ B1 : BT, sm_A n m (S 0) (L_tellAgain S B1 ne)
theorem sm_E.ev {S : Nat → BT} {n m ne : Nat} (h : sm_E S n m ne) (hc : S 0 0 3 = nI n ∧ S 0 0 4 = nI m ∧ n ≤ 6 ∧ m ≤ 20 ∧ (m = 0 ∨ 0 < n)) (hne : ne < 512) (k a1 a2 a3 a4 : Int32) {n' m' : Nat} (h3 : (f_X0_apply k a1 a2 a3 a4 (S 0)).2 0 3 = nI n') (h4 : (f_X0_apply k a1 a2 a3 a4 (S 0)).2 0 4 = nI m') (hn : n' ≤ 6) (hm : m' ≤ 20) : sm_E (va_up (f_X2_keep k a1 a2 a3 a4 S) 0 (f_X0_apply k a1 a2 a3 a4 (S 0)).2) n' m' (ne + 1) := by
  obtain ⟨h1, h2, h5⟩ := h
  obtain ⟨-, k1, ⟨k2, k3, k4, k5, k6⟩, k7⟩ := sm_keep h1 hne k a1 a2 a3 a4
  have e2 : va_up (f_X2_keep k a1 a2 a3 a4 S) 0 (f_X0_apply k a1 a2 a3 a4 (S 0)).2 2 = f_X2_keep k a1 a2 a3 a4 S 2 := by simp [va_up]
  refine ⟨by rw [e2]; exact k1, by omega, fun B1 => ?_⟩
  rw [va_up_at]
  show sm_A n' m' _ (b_tellAgain _ B1 ne (L_tellAgain _ B1 ne))
  rw [sm_tell_c (S := S) ne (fun q hq => by rw [e2]; exact k7 q hq)]
  unfold b_tellAgain
  rw [e2, k2, k3, k4, k5, k6]
  obtain ⟨n9, m9, -, z⟩ := sm_Z.apply (show sm_Z n m (S 0) (L_tellAgain S B1 ne) from ⟨h5 B1, hc⟩) k a1 a2 a3 a4
  exact (z.cast h3 h4 hn hm).1
theorem sm_mat {X : Nat → BT} {n m : Nat} (h : sm_Z n m (X 0) (X 1)) : f_X0_matches X = 1 := by
  have h6 := h.2.2.2.1
  have h20 := h.2.2.2.2.1
  have o : f_X0_matchesInOffices X = 1 := by
    unfold f_X0_matchesInOffices
    rw [if_pos h.b.1, if_pos]
    intro j hj
    rw [h.2.1, nI_clamp (by omega)] at hj
    unfold b_X0_matchesInOffices f_X5_matches
    rw [if_pos (h.o hj (by decide)), if_pos (h.o hj (by decide)), if_pos (h.o hj (by decide)), if_pos (h.o hj (by decide)), if_neg (by decide)]
  have w : f_X0_matchesInWeights X = 1 := by
    unfold f_X0_matchesInWeights
    rw [if_pos]
    intro j hj
    unfold b_X0_matchesInWeights
    rw [if_pos (h.w hj)]
  have c : f_X0_matchesInComplaints X = 1 := by
    unfold f_X0_matchesInComplaints
    rw [if_pos h.b.2.1, if_pos]
    intro j hj
    rw [h.2.2.1, nI_clamp (by omega)] at hj
    have c1 : f_X1_matchesAsTold j j X = 1 := by
      unfold f_X1_matchesAsTold
      rw [if_pos (h.c hj (by decide) (by decide)), if_pos (h.c hj (by decide) (by decide)), if_pos (h.c hj (by decide) (by decide)), if_pos (h.c hj (by decide) (by decide)), if_pos (h.c hj (by decide) (by decide)), if_pos (h.c hj (by decide) (by decide)), if_pos (h.c hj (by decide) (by decide)), if_pos (h.c hj (by decide) (by decide))]
    have c2 : f_X4_matches j j X = 1 := by
      unfold f_X4_matches
      rw [if_pos (h.q hj (by decide)), if_pos (h.q hj (by decide)), if_pos (h.q hj (by decide)), if_pos (h.q hj (by decide))]
    have c3 : f_X3_matches j j X = 1 := by
      unfold f_X3_matches
      rw [if_pos (h.f hj (by decide)), if_pos (h.f hj (by decide)), if_pos (h.f hj (by decide)), if_pos (h.f hj (by decide)), if_pos (h.f hj (by decide)), if_pos (h.f hj (by decide))]
    unfold b_X0_matchesInComplaints f_X1_matches
    rw [c1, c2, c3, if_pos (h.c hj (k := 11) (by decide) (by decide)), if_pos (h.c hj (k := 12) (by decide) (by decide)), if_pos (h.c hj (k := 13) (by decide) (by decide)), if_pos (h.c hj (k := 14) (by decide) (by decide)), if_pos (h.c hj (k := 15) (by decide) (by decide))]
    decide
  unfold f_X0_matches
  rw [if_pos h.b.2.2, o, c, w]
  decide
