/-! the checks, by computing: the ladder behind a finding, weights 4 to 6 -/
set_option maxRecDepth 100000 in
theorem ev_3_0 : fcN (litL (nI 4)) (fun N => ch_lad2_0 (nI 4) (nI 1) (rdN N)) = true := by decide +kernel
set_option maxRecDepth 100000 in
theorem ev_3_1 : fcN (litL (nI 4)) (fun N => ch_lad2_0 (nI 4) (nI 2) (rdN N)) = true := by decide +kernel
set_option maxRecDepth 100000 in
theorem ev_3_2 : fcN (litL (nI 4)) (fun N => ch_lad2_0 (nI 4) (nI 3) (rdN N)) = true := by decide +kernel
set_option maxRecDepth 100000 in
theorem ev_3_3 : fcN (litL (nI 4)) (fun N => ch_lad2_0 (nI 4) (nI 4) (rdN N)) = true := by decide +kernel
set_option maxRecDepth 100000 in
theorem ev_3_4 : fcN (litL (nI 4)) (fun N => ch_lad2_0 (nI 4) (nI 5) (rdN N)) = true := by decide +kernel
set_option maxRecDepth 100000 in
theorem ev_3_5 : fcN (litL (nI 4)) (fun N => ch_lad2_0 (nI 4) (nI 6) (rdN N)) = true := by decide +kernel
set_option maxRecDepth 100000 in
theorem ev_3_6 : fcN (litL (nI 4)) (fun N => ch_lad2_0 (nI 4) (nI 7) (rdN N)) = true := by decide +kernel
set_option maxRecDepth 100000 in
theorem ev_3_7 : fcN (litL (nI 4)) (fun N => ch_lad2_0 (nI 4) (nI 8) (rdN N)) = true := by decide +kernel
set_option maxRecDepth 100000 in
theorem ev_3_8 : fcN (litL (nI 4)) (fun N => ch_lad2_0 (nI 4) (nI 9) (rdN N)) = true := by decide +kernel
set_option maxRecDepth 100000 in
theorem ev_3_9 : fcN (litL (nI 4)) (fun N => ch_lad2_0 (nI 4) (nI 10) (rdN N)) = true := by decide +kernel
set_option maxRecDepth 100000 in
theorem ev_3_10 : fcN (litL (nI 4)) (fun N => ch_lad2_0 (nI 4) (nI 11) (rdN N)) = true := by decide +kernel
set_option maxRecDepth 100000 in
theorem ev_3_11 : fcN (litL (nI 4)) (fun N => ch_lad2_0 (nI 4) (nI 12) (rdN N)) = true := by decide +kernel
set_option maxRecDepth 100000 in
theorem ev_3_12 : fcN (litL (nI 4)) (fun N => ch_lad2_0 (nI 4) (nI 13) (rdN N)) = true := by decide +kernel
set_option maxRecDepth 100000 in
theorem ev_3_13 : fcN (litL (nI 4)) (fun N => ch_lad2_0 (nI 4) (nI 14) (rdN N)) = true := by decide +kernel
set_option maxRecDepth 100000 in
theorem ev_3_14 : fcN (litL (nI 4)) (fun N => ch_lad2_0 (nI 4) (nI 15) (rdN N)) = true := by decide +kernel
set_option maxRecDepth 100000 in
theorem ev_3_15 : fcN (litL (nI 4)) (fun N => ch_lad2_0 (nI 4) (nI 16) (rdN N)) = true := by decide +kernel
set_option maxRecDepth 100000 in
theorem ev_3_16 : fcN (litL (nI 4)) (fun N => ch_lad2_0 (nI 4) (nI 17) (rdN N)) = true := by decide +kernel
set_option maxRecDepth 100000 in
theorem ev_3_17 : fcN (litL (nI 4)) (fun N => ch_lad2_0 (nI 4) (nI 18) (rdN N)) = true := by decide +kernel
set_option maxRecDepth 100000 in
theorem ev_3_18 : fcN (litL (nI 4)) (fun N => ch_lad2_0 (nI 4) (nI 19) (rdN N)) = true := by decide +kernel
set_option maxRecDepth 100000 in
theorem ev_3_19 : fcN (litL (nI 4)) (fun N => ch_lad2_0 (nI 4) (nI 20) (rdN N)) = true := by decide +kernel
set_option maxRecDepth 100000 in
theorem ev_3_20 : fcN (litL (nI 4)) (fun N => ch_lad2_0 (nI 4) (nI 21) (rdN N)) = true := by decide +kernel
set_option maxRecDepth 100000 in
theorem ev_3_21 : fcN (litL (nI 4)) (fun N => ch_lad2_0 (nI 4) (nI 22) (rdN N)) = true := by decide +kernel
set_option maxRecDepth 100000 in
theorem ev_3_22 : fcN (litL (nI 4)) (fun N => ch_lad2_0 (nI 4) (nI 23) (rdN N)) = true := by decide +kernel
set_option maxRecDepth 100000 in
theorem ev_3_23 : fcN (litL (nI 4)) (fun N => ch_lad2_0 (nI 4) (nI 24) (rdN N)) = true := by decide +kernel
set_option maxRecDepth 100000 in
theorem ev_3_24 : fcN (litL (nI 4)) (fun N => ch_lad2_0 (nI 4) (nI 25) (rdN N)) = true := by decide +kernel
set_option maxRecDepth 100000 in
theorem ev_3_25 : fcN (litL (nI 4)) (fun N => ch_lad2_0 (nI 4) (nI 26) (rdN N)) = true := by decide +kernel
set_option maxRecDepth 100000 in
theorem ev_3_26 : fcN (litL (nI 4)) (fun N => ch_lad2_0 (nI 4) (nI 27) (rdN N)) = true := by decide +kernel
set_option maxRecDepth 100000 in
theorem ev_3_27 : fcN (litL (nI 4)) (fun N => ch_lad2_0 (nI 4) (nI 28) (rdN N)) = true := by decide +kernel
set_option maxRecDepth 100000 in
theorem ev_3_28 : fcN (litL (nI 4)) (fun N => ch_lad2_0 (nI 4) (nI 29) (rdN N)) = true := by decide +kernel
set_option maxRecDepth 100000 in
theorem ev_3_29 : fcN (litL (nI 4)) (fun N => ch_lad2_0 (nI 4) (nI 30) (rdN N)) = true := by decide +kernel
set_option maxRecDepth 100000 in
theorem ev_3_30 : fcN (litL (nI 4)) (fun N => ch_lad2_0 (nI 4) (nI 31) (rdN N)) = true := by decide +kernel
theorem ev_w3 : ∀ j, j < 31 → fcN (litL (nI 4)) (fun N => ch_lad2_0 (nI 4) (nI (j + 1)) (rdN N)) = true := fun j hj => match j, hj with
  | 0, _ => ev_3_0
  | 1, _ => ev_3_1
  | 2, _ => ev_3_2
  | 3, _ => ev_3_3
  | 4, _ => ev_3_4
  | 5, _ => ev_3_5
  | 6, _ => ev_3_6
  | 7, _ => ev_3_7
  | 8, _ => ev_3_8
  | 9, _ => ev_3_9
  | 10, _ => ev_3_10
  | 11, _ => ev_3_11
  | 12, _ => ev_3_12
  | 13, _ => ev_3_13
  | 14, _ => ev_3_14
  | 15, _ => ev_3_15
  | 16, _ => ev_3_16
  | 17, _ => ev_3_17
  | 18, _ => ev_3_18
  | 19, _ => ev_3_19
  | 20, _ => ev_3_20
  | 21, _ => ev_3_21
  | 22, _ => ev_3_22
  | 23, _ => ev_3_23
  | 24, _ => ev_3_24
  | 25, _ => ev_3_25
  | 26, _ => ev_3_26
  | 27, _ => ev_3_27
  | 28, _ => ev_3_28
  | 29, _ => ev_3_29
  | 30, _ => ev_3_30
  | n + 31, h => absurd h (by omega)
set_option maxRecDepth 100000 in
theorem ev_4_0 : fcN (litL (nI 5)) (fun N => ch_lad2_0 (nI 5) (nI 1) (rdN N)) = true := by decide +kernel
set_option maxRecDepth 100000 in
theorem ev_4_1 : fcN (litL (nI 5)) (fun N => ch_lad2_0 (nI 5) (nI 2) (rdN N)) = true := by decide +kernel
set_option maxRecDepth 100000 in
theorem ev_4_2 : fcN (litL (nI 5)) (fun N => ch_lad2_0 (nI 5) (nI 3) (rdN N)) = true := by decide +kernel
set_option maxRecDepth 100000 in
theorem ev_4_3 : fcN (litL (nI 5)) (fun N => ch_lad2_0 (nI 5) (nI 4) (rdN N)) = true := by decide +kernel
set_option maxRecDepth 100000 in
theorem ev_4_4 : fcN (litL (nI 5)) (fun N => ch_lad2_0 (nI 5) (nI 5) (rdN N)) = true := by decide +kernel
set_option maxRecDepth 100000 in
theorem ev_4_5 : fcN (litL (nI 5)) (fun N => ch_lad2_0 (nI 5) (nI 6) (rdN N)) = true := by decide +kernel
set_option maxRecDepth 100000 in
theorem ev_4_6 : fcN (litL (nI 5)) (fun N => ch_lad2_0 (nI 5) (nI 7) (rdN N)) = true := by decide +kernel
set_option maxRecDepth 100000 in
theorem ev_4_7 : fcN (litL (nI 5)) (fun N => ch_lad2_0 (nI 5) (nI 8) (rdN N)) = true := by decide +kernel
set_option maxRecDepth 100000 in
theorem ev_4_8 : fcN (litL (nI 5)) (fun N => ch_lad2_0 (nI 5) (nI 9) (rdN N)) = true := by decide +kernel
set_option maxRecDepth 100000 in
theorem ev_4_9 : fcN (litL (nI 5)) (fun N => ch_lad2_0 (nI 5) (nI 10) (rdN N)) = true := by decide +kernel
set_option maxRecDepth 100000 in
theorem ev_4_10 : fcN (litL (nI 5)) (fun N => ch_lad2_0 (nI 5) (nI 11) (rdN N)) = true := by decide +kernel
set_option maxRecDepth 100000 in
theorem ev_4_11 : fcN (litL (nI 5)) (fun N => ch_lad2_0 (nI 5) (nI 12) (rdN N)) = true := by decide +kernel
set_option maxRecDepth 100000 in
theorem ev_4_12 : fcN (litL (nI 5)) (fun N => ch_lad2_0 (nI 5) (nI 13) (rdN N)) = true := by decide +kernel
set_option maxRecDepth 100000 in
theorem ev_4_13 : fcN (litL (nI 5)) (fun N => ch_lad2_0 (nI 5) (nI 14) (rdN N)) = true := by decide +kernel
set_option maxRecDepth 100000 in
theorem ev_4_14 : fcN (litL (nI 5)) (fun N => ch_lad2_0 (nI 5) (nI 15) (rdN N)) = true := by decide +kernel
set_option maxRecDepth 100000 in
theorem ev_4_15 : fcN (litL (nI 5)) (fun N => ch_lad2_0 (nI 5) (nI 16) (rdN N)) = true := by decide +kernel
set_option maxRecDepth 100000 in
theorem ev_4_16 : fcN (litL (nI 5)) (fun N => ch_lad2_0 (nI 5) (nI 17) (rdN N)) = true := by decide +kernel
set_option maxRecDepth 100000 in
theorem ev_4_17 : fcN (litL (nI 5)) (fun N => ch_lad2_0 (nI 5) (nI 18) (rdN N)) = true := by decide +kernel
set_option maxRecDepth 100000 in
theorem ev_4_18 : fcN (litL (nI 5)) (fun N => ch_lad2_0 (nI 5) (nI 19) (rdN N)) = true := by decide +kernel
set_option maxRecDepth 100000 in
theorem ev_4_19 : fcN (litL (nI 5)) (fun N => ch_lad2_0 (nI 5) (nI 20) (rdN N)) = true := by decide +kernel
set_option maxRecDepth 100000 in
theorem ev_4_20 : fcN (litL (nI 5)) (fun N => ch_lad2_0 (nI 5) (nI 21) (rdN N)) = true := by decide +kernel
set_option maxRecDepth 100000 in
theorem ev_4_21 : fcN (litL (nI 5)) (fun N => ch_lad2_0 (nI 5) (nI 22) (rdN N)) = true := by decide +kernel
set_option maxRecDepth 100000 in
theorem ev_4_22 : fcN (litL (nI 5)) (fun N => ch_lad2_0 (nI 5) (nI 23) (rdN N)) = true := by decide +kernel
set_option maxRecDepth 100000 in
theorem ev_4_23 : fcN (litL (nI 5)) (fun N => ch_lad2_0 (nI 5) (nI 24) (rdN N)) = true := by decide +kernel
set_option maxRecDepth 100000 in
theorem ev_4_24 : fcN (litL (nI 5)) (fun N => ch_lad2_0 (nI 5) (nI 25) (rdN N)) = true := by decide +kernel
set_option maxRecDepth 100000 in
theorem ev_4_25 : fcN (litL (nI 5)) (fun N => ch_lad2_0 (nI 5) (nI 26) (rdN N)) = true := by decide +kernel
set_option maxRecDepth 100000 in
theorem ev_4_26 : fcN (litL (nI 5)) (fun N => ch_lad2_0 (nI 5) (nI 27) (rdN N)) = true := by decide +kernel
set_option maxRecDepth 100000 in
theorem ev_4_27 : fcN (litL (nI 5)) (fun N => ch_lad2_0 (nI 5) (nI 28) (rdN N)) = true := by decide +kernel
set_option maxRecDepth 100000 in
theorem ev_4_28 : fcN (litL (nI 5)) (fun N => ch_lad2_0 (nI 5) (nI 29) (rdN N)) = true := by decide +kernel
set_option maxRecDepth 100000 in
theorem ev_4_29 : fcN (litL (nI 5)) (fun N => ch_lad2_0 (nI 5) (nI 30) (rdN N)) = true := by decide +kernel
set_option maxRecDepth 100000 in
theorem ev_4_30 : fcN (litL (nI 5)) (fun N => ch_lad2_0 (nI 5) (nI 31) (rdN N)) = true := by decide +kernel
theorem ev_w4 : ∀ j, j < 31 → fcN (litL (nI 5)) (fun N => ch_lad2_0 (nI 5) (nI (j + 1)) (rdN N)) = true := fun j hj => match j, hj with
  | 0, _ => ev_4_0
  | 1, _ => ev_4_1
  | 2, _ => ev_4_2
  | 3, _ => ev_4_3
  | 4, _ => ev_4_4
  | 5, _ => ev_4_5
  | 6, _ => ev_4_6
  | 7, _ => ev_4_7
  | 8, _ => ev_4_8
  | 9, _ => ev_4_9
  | 10, _ => ev_4_10
  | 11, _ => ev_4_11
  | 12, _ => ev_4_12
  | 13, _ => ev_4_13
  | 14, _ => ev_4_14
  | 15, _ => ev_4_15
  | 16, _ => ev_4_16
  | 17, _ => ev_4_17
  | 18, _ => ev_4_18
  | 19, _ => ev_4_19
  | 20, _ => ev_4_20
  | 21, _ => ev_4_21
  | 22, _ => ev_4_22
  | 23, _ => ev_4_23
  | 24, _ => ev_4_24
  | 25, _ => ev_4_25
  | 26, _ => ev_4_26
  | 27, _ => ev_4_27
  | 28, _ => ev_4_28
  | 29, _ => ev_4_29
  | 30, _ => ev_4_30
  | n + 31, h => absurd h (by omega)
set_option maxRecDepth 100000 in
theorem ev_5_0 : fcN (litL (nI 6)) (fun N => ch_lad2_0 (nI 6) (nI 1) (rdN N)) = true := by decide +kernel
set_option maxRecDepth 100000 in
theorem ev_5_1 : fcN (litL (nI 6)) (fun N => ch_lad2_0 (nI 6) (nI 2) (rdN N)) = true := by decide +kernel
set_option maxRecDepth 100000 in
theorem ev_5_2 : fcN (litL (nI 6)) (fun N => ch_lad2_0 (nI 6) (nI 3) (rdN N)) = true := by decide +kernel
set_option maxRecDepth 100000 in
theorem ev_5_3 : fcN (litL (nI 6)) (fun N => ch_lad2_0 (nI 6) (nI 4) (rdN N)) = true := by decide +kernel
set_option maxRecDepth 100000 in
theorem ev_5_4 : fcN (litL (nI 6)) (fun N => ch_lad2_0 (nI 6) (nI 5) (rdN N)) = true := by decide +kernel
set_option maxRecDepth 100000 in
theorem ev_5_5 : fcN (litL (nI 6)) (fun N => ch_lad2_0 (nI 6) (nI 6) (rdN N)) = true := by decide +kernel
set_option maxRecDepth 100000 in
theorem ev_5_6 : fcN (litL (nI 6)) (fun N => ch_lad2_0 (nI 6) (nI 7) (rdN N)) = true := by decide +kernel
set_option maxRecDepth 100000 in
theorem ev_5_7 : fcN (litL (nI 6)) (fun N => ch_lad2_0 (nI 6) (nI 8) (rdN N)) = true := by decide +kernel
set_option maxRecDepth 100000 in
theorem ev_5_8 : fcN (litL (nI 6)) (fun N => ch_lad2_0 (nI 6) (nI 9) (rdN N)) = true := by decide +kernel
set_option maxRecDepth 100000 in
theorem ev_5_9 : fcN (litL (nI 6)) (fun N => ch_lad2_0 (nI 6) (nI 10) (rdN N)) = true := by decide +kernel
set_option maxRecDepth 100000 in
theorem ev_5_10 : fcN (litL (nI 6)) (fun N => ch_lad2_0 (nI 6) (nI 11) (rdN N)) = true := by decide +kernel
set_option maxRecDepth 100000 in
theorem ev_5_11 : fcN (litL (nI 6)) (fun N => ch_lad2_0 (nI 6) (nI 12) (rdN N)) = true := by decide +kernel
set_option maxRecDepth 100000 in
theorem ev_5_12 : fcN (litL (nI 6)) (fun N => ch_lad2_0 (nI 6) (nI 13) (rdN N)) = true := by decide +kernel
set_option maxRecDepth 100000 in
theorem ev_5_13 : fcN (litL (nI 6)) (fun N => ch_lad2_0 (nI 6) (nI 14) (rdN N)) = true := by decide +kernel
set_option maxRecDepth 100000 in
theorem ev_5_14 : fcN (litL (nI 6)) (fun N => ch_lad2_0 (nI 6) (nI 15) (rdN N)) = true := by decide +kernel
set_option maxRecDepth 100000 in
theorem ev_5_15 : fcN (litL (nI 6)) (fun N => ch_lad2_0 (nI 6) (nI 16) (rdN N)) = true := by decide +kernel
set_option maxRecDepth 100000 in
theorem ev_5_16 : fcN (litL (nI 6)) (fun N => ch_lad2_0 (nI 6) (nI 17) (rdN N)) = true := by decide +kernel
set_option maxRecDepth 100000 in
theorem ev_5_17 : fcN (litL (nI 6)) (fun N => ch_lad2_0 (nI 6) (nI 18) (rdN N)) = true := by decide +kernel
set_option maxRecDepth 100000 in
theorem ev_5_18 : fcN (litL (nI 6)) (fun N => ch_lad2_0 (nI 6) (nI 19) (rdN N)) = true := by decide +kernel
set_option maxRecDepth 100000 in
theorem ev_5_19 : fcN (litL (nI 6)) (fun N => ch_lad2_0 (nI 6) (nI 20) (rdN N)) = true := by decide +kernel
set_option maxRecDepth 100000 in
theorem ev_5_20 : fcN (litL (nI 6)) (fun N => ch_lad2_0 (nI 6) (nI 21) (rdN N)) = true := by decide +kernel
set_option maxRecDepth 100000 in
theorem ev_5_21 : fcN (litL (nI 6)) (fun N => ch_lad2_0 (nI 6) (nI 22) (rdN N)) = true := by decide +kernel
set_option maxRecDepth 100000 in
theorem ev_5_22 : fcN (litL (nI 6)) (fun N => ch_lad2_0 (nI 6) (nI 23) (rdN N)) = true := by decide +kernel
set_option maxRecDepth 100000 in
theorem ev_5_23 : fcN (litL (nI 6)) (fun N => ch_lad2_0 (nI 6) (nI 24) (rdN N)) = true := by decide +kernel
set_option maxRecDepth 100000 in
theorem ev_5_24 : fcN (litL (nI 6)) (fun N => ch_lad2_0 (nI 6) (nI 25) (rdN N)) = true := by decide +kernel
set_option maxRecDepth 100000 in
theorem ev_5_25 : fcN (litL (nI 6)) (fun N => ch_lad2_0 (nI 6) (nI 26) (rdN N)) = true := by decide +kernel
set_option maxRecDepth 100000 in
theorem ev_5_26 : fcN (litL (nI 6)) (fun N => ch_lad2_0 (nI 6) (nI 27) (rdN N)) = true := by decide +kernel
set_option maxRecDepth 100000 in
theorem ev_5_27 : fcN (litL (nI 6)) (fun N => ch_lad2_0 (nI 6) (nI 28) (rdN N)) = true := by decide +kernel
set_option maxRecDepth 100000 in
theorem ev_5_28 : fcN (litL (nI 6)) (fun N => ch_lad2_0 (nI 6) (nI 29) (rdN N)) = true := by decide +kernel
set_option maxRecDepth 100000 in
theorem ev_5_29 : fcN (litL (nI 6)) (fun N => ch_lad2_0 (nI 6) (nI 30) (rdN N)) = true := by decide +kernel
set_option maxRecDepth 100000 in
theorem ev_5_30 : fcN (litL (nI 6)) (fun N => ch_lad2_0 (nI 6) (nI 31) (rdN N)) = true := by decide +kernel
theorem ev_w5 : ∀ j, j < 31 → fcN (litL (nI 6)) (fun N => ch_lad2_0 (nI 6) (nI (j + 1)) (rdN N)) = true := fun j hj => match j, hj with
  | 0, _ => ev_5_0
  | 1, _ => ev_5_1
  | 2, _ => ev_5_2
  | 3, _ => ev_5_3
  | 4, _ => ev_5_4
  | 5, _ => ev_5_5
  | 6, _ => ev_5_6
  | 7, _ => ev_5_7
  | 8, _ => ev_5_8
  | 9, _ => ev_5_9
  | 10, _ => ev_5_10
  | 11, _ => ev_5_11
  | 12, _ => ev_5_12
  | 13, _ => ev_5_13
  | 14, _ => ev_5_14
  | 15, _ => ev_5_15
  | 16, _ => ev_5_16
  | 17, _ => ev_5_17
  | 18, _ => ev_5_18
  | 19, _ => ev_5_19
  | 20, _ => ev_5_20
  | 21, _ => ev_5_21
  | 22, _ => ev_5_22
  | 23, _ => ev_5_23
  | 24, _ => ev_5_24
  | 25, _ => ev_5_25
  | 26, _ => ev_5_26
  | 27, _ => ev_5_27
  | 28, _ => ev_5_28
  | 29, _ => ev_5_29
  | 30, _ => ev_5_30
  | n + 31, h => absurd h (by omega)
