theorem ev_law : ch_law_0 b0 = true := sorry
theorem ev_ful : ch_ful_0 b0 = true := sorry
theorem ev_sil : ch_sil_0 b0 = true := sorry
theorem ev_lad : ∀ i, i < 9 → ch_lad_0 (nI (i + 1)) b0 = true := sorry
theorem ev_lad2 : ∀ i, i < 9 → ∀ j, j < 31 → ∀ B : BT, ch_lad_30 (nI (i + 1)) B = true → ch_lad2_0 (nI (i + 1)) (nI (j + 1)) (nrm B) = true := sorry
