/-! the checks, by computing -/
set_option maxRecDepth 100000 in
theorem ev_law : ch_law_0 b0 = true := by decide +kernel
set_option maxRecDepth 100000 in
theorem ev_sil : ch_sil_0 b0 = true := by decide +kernel
set_option maxRecDepth 100000 in
theorem ev_ful : ch_ful_0 b0 = true := by decide +kernel
set_option maxRecDepth 100000 in
theorem ev_lad_0 : ch_lad_0 (nI 1) b0 = true := by decide +kernel
set_option maxRecDepth 100000 in
theorem ev_lad_1 : ch_lad_0 (nI 2) b0 = true := by decide +kernel
set_option maxRecDepth 100000 in
theorem ev_lad_2 : ch_lad_0 (nI 3) b0 = true := by decide +kernel
set_option maxRecDepth 100000 in
theorem ev_lad_3 : ch_lad_0 (nI 4) b0 = true := by decide +kernel
set_option maxRecDepth 100000 in
theorem ev_lad_4 : ch_lad_0 (nI 5) b0 = true := by decide +kernel
set_option maxRecDepth 100000 in
theorem ev_lad_5 : ch_lad_0 (nI 6) b0 = true := by decide +kernel
set_option maxRecDepth 100000 in
theorem ev_lad_6 : ch_lad_0 (nI 7) b0 = true := by decide +kernel
set_option maxRecDepth 100000 in
theorem ev_lad_7 : ch_lad_0 (nI 8) b0 = true := by decide +kernel
set_option maxRecDepth 100000 in
theorem ev_lad_8 : ch_lad_0 (nI 9) b0 = true := by decide +kernel
theorem ev_lad : ∀ i, i < 9 → ch_lad_0 (nI (i + 1)) b0 = true := fun i hi => match i, hi with
  | 0, _ => ev_lad_0
  | 1, _ => ev_lad_1
  | 2, _ => ev_lad_2
  | 3, _ => ev_lad_3
  | 4, _ => ev_lad_4
  | 5, _ => ev_lad_5
  | 6, _ => ev_lad_6
  | 7, _ => ev_lad_7
  | 8, _ => ev_lad_8
  | n + 9, h => absurd h (by omega)
