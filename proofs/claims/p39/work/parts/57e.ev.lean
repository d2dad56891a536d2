/-! the checks of the ladder together -/
theorem ev_w : ∀ i, i < 9 → ∀ j, j < 31 → fcN (litL (nI (i + 1))) (fun N => ch_lad2_0 (nI (i + 1)) (nI (j + 1)) (rdN N)) = true := fun i hi => match i, hi with
  | 0, _ => ev_w0
  | 1, _ => ev_w1
  | 2, _ => ev_w2
  | 3, _ => ev_w3
  | 4, _ => ev_w4
  | 5, _ => ev_w5
  | 6, _ => ev_w6
  | 7, _ => ev_w7
  | 8, _ => ev_w8
  | n + 9, h => absurd h (by omega)
theorem lad_lit {w : Int32} {B : BT} (h : ch_lad_30 w B = true) : nrm B = rdN (litL w) := by
  have h1 : enc plc B 0 (fun N => Nat.beq N (litL w)) = true := h
  rw [enc_eq] at h1
  unfold nrm
  rw [Nat.eq_of_beq_eq_true h1]
theorem ev_lad2 : ∀ i, i < 9 → ∀ j, j < 31 → ∀ B : BT, ch_lad_30 (nI (i + 1)) B = true → ch_lad2_0 (nI (i + 1)) (nI (j + 1)) (nrm B) = true := by
  intro i hi j hj B h
  have h1 := ev_w i hi j hj
  rw [fcN_eq] at h1
  rw [lad_lit h]
  exact h1
