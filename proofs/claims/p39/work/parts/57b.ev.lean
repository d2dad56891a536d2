/-! the checks, by computing: the ladder behind a finding, weights 1 to 3 -/
set_option maxRecDepth 100000 in
theorem ev_0_0 : fcN (litL (nI 1)) (fun N => ch_lad2_0 (nI 1) (nI 1) (rdN N)) = true := by decide +kernel
set_option maxRecDepth 100000 in
theorem ev_0_1 : fcN (litL (nI 1)) (fun N => ch_lad2_0 (nI 1) (nI 2) (rdN N)) = true := by decide +kernel
set_option maxRecDepth 100000 in
theorem ev_0_2 : fcN (litL (nI 1)) (fun N => ch_lad2_0 (nI 1) (nI 3) (rdN N)) = true := by decide +kernel
set_option maxRecDepth 100000 in
theorem ev_0_3 : fcN (litL (nI 1)) (fun N => ch_lad2_0 (nI 1) (nI 4) (rdN N)) = true := by decide +kernel
set_option maxRecDepth 100000 in
theorem ev_0_4 : fcN (litL (nI 1)) (fun N => ch_lad2_0 (nI 1) (nI 5) (rdN N)) = true := by decide +kernel
set_option maxRecDepth 100000 in
theorem ev_0_5 : fcN (litL (nI 1)) (fun N => ch_lad2_0 (nI 1) (nI 6) (rdN N)) = true := by decide +kernel
set_option maxRecDepth 100000 in
theorem ev_0_6 : fcN (litL (nI 1)) (fun N => ch_lad2_0 (nI 1) (nI 7) (rdN N)) = true := by decide +kernel
set_option maxRecDepth 100000 in
theorem ev_0_7 : fcN (litL (nI 1)) (fun N => ch_lad2_0 (nI 1) (nI 8) (rdN N)) = true := by decide +kernel
set_option maxRecDepth 100000 in
theorem ev_0_8 : fcN (litL (nI 1)) (fun N => ch_lad2_0 (nI 1) (nI 9) (rdN N)) = true := by decide +kernel
set_option maxRecDepth 100000 in
theorem ev_0_9 : fcN (litL (nI 1)) (fun N => ch_lad2_0 (nI 1) (nI 10) (rdN N)) = true := by decide +kernel
set_option maxRecDepth 100000 in
theorem ev_0_10 : fcN (litL (nI 1)) (fun N => ch_lad2_0 (nI 1) (nI 11) (rdN N)) = true := by decide +kernel
set_option maxRecDepth 100000 in
theorem ev_0_11 : fcN (litL (nI 1)) (fun N => ch_lad2_0 (nI 1) (nI 12) (rdN N)) = true := by decide +kernel
set_option maxRecDepth 100000 in
theorem ev_0_12 : fcN (litL (nI 1)) (fun N => ch_lad2_0 (nI 1) (nI 13) (rdN N)) = true := by decide +kernel
set_option maxRecDepth 100000 in
theorem ev_0_13 : fcN (litL (nI 1)) (fun N => ch_lad2_0 (nI 1) (nI 14) (rdN N)) = true := by decide +kernel
set_option maxRecDepth 100000 in
theorem ev_0_14 : fcN (litL (nI 1)) (fun N => ch_lad2_0 (nI 1) (nI 15) (rdN N)) = true := by decide +kernel
set_option maxRecDepth 100000 in
theorem ev_0_15 : fcN (litL (nI 1)) (fun N => ch_lad2_0 (nI 1) (nI 16) (rdN N)) = true := by decide +kernel
set_option maxRecDepth 100000 in
theorem ev_0_16 : fcN (litL (nI 1)) (fun N => ch_lad2_0 (nI 1) (nI 17) (rdN N)) = true := by decide +kernel
set_option maxRecDepth 100000 in
theorem ev_0_17 : fcN (litL (nI 1)) (fun N => ch_lad2_0 (nI 1) (nI 18) (rdN N)) = true := by decide +kernel
set_option maxRecDepth 100000 in
theorem ev_0_18 : fcN (litL (nI 1)) (fun N => ch_lad2_0 (nI 1) (nI 19) (rdN N)) = true := by decide +kernel
set_option maxRecDepth 100000 in
theorem ev_0_19 : fcN (litL (nI 1)) (fun N => ch_lad2_0 (nI 1) (nI 20) (rdN N)) = true := by decide +kernel
set_option maxRecDepth 100000 in
theorem ev_0_20 : fcN (litL (nI 1)) (fun N => ch_lad2_0 (nI 1) (nI 21) (rdN N)) = true := by decide +kernel
set_option maxRecDepth 100000 in
theorem ev_0_21 : fcN (litL (nI 1)) (fun N => ch_lad2_0 (nI 1) (nI 22) (rdN N)) = true := by decide +kernel
set_option maxRecDepth 100000 in
theorem ev_0_22 : fcN (litL (nI 1)) (fun N => ch_lad2_0 (nI 1) (nI 23) (rdN N)) = true := by decide +kernel
set_option maxRecDepth 100000 in
theorem ev_0_23 : fcN (litL (nI 1)) (fun N => ch_lad2_0 (nI 1) (nI 24) (rdN N)) = true := by decide +kernel
set_option maxRecDepth 100000 in
theorem ev_0_24 : fcN (litL (nI 1)) (fun N => ch_lad2_0 (nI 1) (nI 25) (rdN N)) = true := by decide +kernel
set_option maxRecDepth 100000 in
theorem ev_0_25 : fcN (litL (nI 1)) (fun N => ch_lad2_0 (nI 1) (nI 26) (rdN N)) = true := by decide +kernel
set_option maxRecDepth 100000 in
theorem ev_0_26 : fcN (litL (nI 1)) (fun N => ch_lad2_0 (nI 1) (nI 27) (rdN N)) = true := by decide +kernel
set_option maxRecDepth 100000 in
theorem ev_0_27 : fcN (litL (nI 1)) (fun N => ch_lad2_0 (nI 1) (nI 28) (rdN N)) = true := by decide +kernel
set_option maxRecDepth 100000 in
theorem ev_0_28 : fcN (litL (nI 1)) (fun N => ch_lad2_0 (nI 1) (nI 29) (rdN N)) = true := by decide +kernel
set_option maxRecDepth 100000 in
theorem ev_0_29 : fcN (litL (nI 1)) (fun N => ch_lad2_0 (nI 1) (nI 30) (rdN N)) = true := by decide +kernel
set_option maxRecDepth 100000 in
theorem ev_0_30 : fcN (litL (nI 1)) (fun N => ch_lad2_0 (nI 1) (nI 31) (rdN N)) = true := by decide +kernel
theorem ev_w0 : ∀ j, j < 31 → fcN (litL (nI 1)) (fun N => ch_lad2_0 (nI 1) (nI (j + 1)) (rdN N)) = true := fun j hj => match j, hj with
  | 0, _ => ev_0_0
  | 1, _ => ev_0_1
  | 2, _ => ev_0_2
  | 3, _ => ev_0_3
  | 4, _ => ev_0_4
  | 5, _ => ev_0_5
  | 6, _ => ev_0_6
  | 7, _ => ev_0_7
  | 8, _ => ev_0_8
  | 9, _ => ev_0_9
  | 10, _ => ev_0_10
  | 11, _ => ev_0_11
  | 12, _ => ev_0_12
  | 13, _ => ev_0_13
  | 14, _ => ev_0_14
  | 15, _ => ev_0_15
  | 16, _ => ev_0_16
  | 17, _ => ev_0_17
  | 18, _ => ev_0_18
  | 19, _ => ev_0_19
  | 20, _ => ev_0_20
  | 21, _ => ev_0_21
  | 22, _ => ev_0_22
  | 23, _ => ev_0_23
  | 24, _ => ev_0_24
  | 25, _ => ev_0_25
  | 26, _ => ev_0_26
  | 27, _ => ev_0_27
  | 28, _ => ev_0_28
  | 29, _ => ev_0_29
  | 30, _ => ev_0_30
  | n + 31, h => absurd h (by omega)
set_option maxRecDepth 100000 in
theorem ev_1_0 : fcN (litL (nI 2)) (fun N => ch_lad2_0 (nI 2) (nI 1) (rdN N)) = true := by decide +kernel
set_option maxRecDepth 100000 in
theorem ev_1_1 : fcN (litL (nI 2)) (fun N => ch_lad2_0 (nI 2) (nI 2) (rdN N)) = true := by decide +kernel
set_option maxRecDepth 100000 in
theorem ev_1_2 : fcN (litL (nI 2)) (fun N => ch_lad2_0 (nI 2) (nI 3) (rdN N)) = true := by decide +kernel
set_option maxRecDepth 100000 in
theorem ev_1_3 : fcN (litL (nI 2)) (fun N => ch_lad2_0 (nI 2) (nI 4) (rdN N)) = true := by decide +kernel
set_option maxRecDepth 100000 in
theorem ev_1_4 : fcN (litL (nI 2)) (fun N => ch_lad2_0 (nI 2) (nI 5) (rdN N)) = true := by decide +kernel
set_option maxRecDepth 100000 in
theorem ev_1_5 : fcN (litL (nI 2)) (fun N => ch_lad2_0 (nI 2) (nI 6) (rdN N)) = true := by decide +kernel
set_option maxRecDepth 100000 in
theorem ev_1_6 : fcN (litL (nI 2)) (fun N => ch_lad2_0 (nI 2) (nI 7) (rdN N)) = true := by decide +kernel
set_option maxRecDepth 100000 in
theorem ev_1_7 : fcN (litL (nI 2)) (fun N => ch_lad2_0 (nI 2) (nI 8) (rdN N)) = true := by decide +kernel
set_option maxRecDepth 100000 in
theorem ev_1_8 : fcN (litL (nI 2)) (fun N => ch_lad2_0 (nI 2) (nI 9) (rdN N)) = true := by decide +kernel
set_option maxRecDepth 100000 in
theorem ev_1_9 : fcN (litL (nI 2)) (fun N => ch_lad2_0 (nI 2) (nI 10) (rdN N)) = true := by decide +kernel
set_option maxRecDepth 100000 in
theorem ev_1_10 : fcN (litL (nI 2)) (fun N => ch_lad2_0 (nI 2) (nI 11) (rdN N)) = true := by decide +kernel
set_option maxRecDepth 100000 in
theorem ev_1_11 : fcN (litL (nI 2)) (fun N => ch_lad2_0 (nI 2) (nI 12) (rdN N)) = true := by decide +kernel
set_option maxRecDepth 100000 in
theorem ev_1_12 : fcN (litL (nI 2)) (fun N => ch_lad2_0 (nI 2) (nI 13) (rdN N)) = true := by decide +kernel
set_option maxRecDepth 100000 in
theorem ev_1_13 : fcN (litL (nI 2)) (fun N => ch_lad2_0 (nI 2) (nI 14) (rdN N)) = true := by decide +kernel
set_option maxRecDepth 100000 in
theorem ev_1_14 : fcN (litL (nI 2)) (fun N => ch_lad2_0 (nI 2) (nI 15) (rdN N)) = true := by decide +kernel
set_option maxRecDepth 100000 in
theorem ev_1_15 : fcN (litL (nI 2)) (fun N => ch_lad2_0 (nI 2) (nI 16) (rdN N)) = true := by decide +kernel
set_option maxRecDepth 100000 in
theorem ev_1_16 : fcN (litL (nI 2)) (fun N => ch_lad2_0 (nI 2) (nI 17) (rdN N)) = true := by decide +kernel
set_option maxRecDepth 100000 in
theorem ev_1_17 : fcN (litL (nI 2)) (fun N => ch_lad2_0 (nI 2) (nI 18) (rdN N)) = true := by decide +kernel
set_option maxRecDepth 100000 in
theorem ev_1_18 : fcN (litL (nI 2)) (fun N => ch_lad2_0 (nI 2) (nI 19) (rdN N)) = true := by decide +kernel
set_option maxRecDepth 100000 in
theorem ev_1_19 : fcN (litL (nI 2)) (fun N => ch_lad2_0 (nI 2) (nI 20) (rdN N)) = true := by decide +kernel
set_option maxRecDepth 100000 in
theorem ev_1_20 : fcN (litL (nI 2)) (fun N => ch_lad2_0 (nI 2) (nI 21) (rdN N)) = true := by decide +kernel
set_option maxRecDepth 100000 in
theorem ev_1_21 : fcN (litL (nI 2)) (fun N => ch_lad2_0 (nI 2) (nI 22) (rdN N)) = true := by decide +kernel
set_option maxRecDepth 100000 in
theorem ev_1_22 : fcN (litL (nI 2)) (fun N => ch_lad2_0 (nI 2) (nI 23) (rdN N)) = true := by decide +kernel
set_option maxRecDepth 100000 in
theorem ev_1_23 : fcN (litL (nI 2)) (fun N => ch_lad2_0 (nI 2) (nI 24) (rdN N)) = true := by decide +kernel
set_option maxRecDepth 100000 in
theorem ev_1_24 : fcN (litL (nI 2)) (fun N => ch_lad2_0 (nI 2) (nI 25) (rdN N)) = true := by decide +kernel
set_option maxRecDepth 100000 in
theorem ev_1_25 : fcN (litL (nI 2)) (fun N => ch_lad2_0 (nI 2) (nI 26) (rdN N)) = true := by decide +kernel
set_option maxRecDepth 100000 in
theorem ev_1_26 : fcN (litL (nI 2)) (fun N => ch_lad2_0 (nI 2) (nI 27) (rdN N)) = true := by decide +kernel
set_option maxRecDepth 100000 in
theorem ev_1_27 : fcN (litL (nI 2)) (fun N => ch_lad2_0 (nI 2) (nI 28) (rdN N)) = true := by decide +kernel
set_option maxRecDepth 100000 in
theorem ev_1_28 : fcN (litL (nI 2)) (fun N => ch_lad2_0 (nI 2) (nI 29) (rdN N)) = true := by decide +kernel
set_option maxRecDepth 100000 in
theorem ev_1_29 : fcN (litL (nI 2)) (fun N => ch_lad2_0 (nI 2) (nI 30) (rdN N)) = true := by decide +kernel
set_option maxRecDepth 100000 in
theorem ev_1_30 : fcN (litL (nI 2)) (fun N => ch_lad2_0 (nI 2) (nI 31) (rdN N)) = true := by decide +kernel
theorem ev_w1 : ∀ j, j < 31 → fcN (litL (nI 2)) (fun N => ch_lad2_0 (nI 2) (nI (j + 1)) (rdN N)) = true := fun j hj => match j, hj with
  | 0, _ => ev_1_0
  | 1, _ => ev_1_1
  | 2, _ => ev_1_2
  | 3, _ => ev_1_3
  | 4, _ => ev_1_4
  | 5, _ => ev_1_5
  | 6, _ => ev_1_6
  | 7, _ => ev_1_7
  | 8, _ => ev_1_8
  | 9, _ => ev_1_9
  | 10, _ => ev_1_10
  | 11, _ => ev_1_11
  | 12, _ => ev_1_12
  | 13, _ => ev_1_13
  | 14, _ => ev_1_14
  | 15, _ => ev_1_15
  | 16, _ => ev_1_16
  | 17, _ => ev_1_17
  | 18, _ => ev_1_18
  | 19, _ => ev_1_19
  | 20, _ => ev_1_20
  | 21, _ => ev_1_21
  | 22, _ => ev_1_22
  | 23, _ => ev_1_23
  | 24, _ => ev_1_24
  | 25, _ => ev_1_25
  | 26, _ => ev_1_26
  | 27, _ => ev_1_27
  | 28, _ => ev_1_28
  | 29, _ => ev_1_29
  | 30, _ => ev_1_30
  | n + 31, h => absurd h (by omega)
set_option maxRecDepth 100000 in
theorem ev_2_0 : fcN (litL (nI 3)) (fun N => ch_lad2_0 (nI 3) (nI 1) (rdN N)) = true := by decide +kernel
set_option maxRecDepth 100000 in
theorem ev_2_1 : fcN (litL (nI 3)) (fun N => ch_lad2_0 (nI 3) (nI 2) (rdN N)) = true := by decide +kernel
set_option maxRecDepth 100000 in
theorem ev_2_2 : fcN (litL (nI 3)) (fun N => ch_lad2_0 (nI 3) (nI 3) (rdN N)) = true := by decide +kernel
set_option maxRecDepth 100000 in
theorem ev_2_3 : fcN (litL (nI 3)) (fun N => ch_lad2_0 (nI 3) (nI 4) (rdN N)) = true := by decide +kernel
set_option maxRecDepth 100000 in
theorem ev_2_4 : fcN (litL (nI 3)) (fun N => ch_lad2_0 (nI 3) (nI 5) (rdN N)) = true := by decide +kernel
set_option maxRecDepth 100000 in
theorem ev_2_5 : fcN (litL (nI 3)) (fun N => ch_lad2_0 (nI 3) (nI 6) (rdN N)) = true := by decide +kernel
set_option maxRecDepth 100000 in
theorem ev_2_6 : fcN (litL (nI 3)) (fun N => ch_lad2_0 (nI 3) (nI 7) (rdN N)) = true := by decide +kernel
set_option maxRecDepth 100000 in
theorem ev_2_7 : fcN (litL (nI 3)) (fun N => ch_lad2_0 (nI 3) (nI 8) (rdN N)) = true := by decide +kernel
set_option maxRecDepth 100000 in
theorem ev_2_8 : fcN (litL (nI 3)) (fun N => ch_lad2_0 (nI 3) (nI 9) (rdN N)) = true := by decide +kernel
set_option maxRecDepth 100000 in
theorem ev_2_9 : fcN (litL (nI 3)) (fun N => ch_lad2_0 (nI 3) (nI 10) (rdN N)) = true := by decide +kernel
set_option maxRecDepth 100000 in
theorem ev_2_10 : fcN (litL (nI 3)) (fun N => ch_lad2_0 (nI 3) (nI 11) (rdN N)) = true := by decide +kernel
set_option maxRecDepth 100000 in
theorem ev_2_11 : fcN (litL (nI 3)) (fun N => ch_lad2_0 (nI 3) (nI 12) (rdN N)) = true := by decide +kernel
set_option maxRecDepth 100000 in
theorem ev_2_12 : fcN (litL (nI 3)) (fun N => ch_lad2_0 (nI 3) (nI 13) (rdN N)) = true := by decide +kernel
set_option maxRecDepth 100000 in
theorem ev_2_13 : fcN (litL (nI 3)) (fun N => ch_lad2_0 (nI 3) (nI 14) (rdN N)) = true := by decide +kernel
set_option maxRecDepth 100000 in
theorem ev_2_14 : fcN (litL (nI 3)) (fun N => ch_lad2_0 (nI 3) (nI 15) (rdN N)) = true := by decide +kernel
set_option maxRecDepth 100000 in
theorem ev_2_15 : fcN (litL (nI 3)) (fun N => ch_lad2_0 (nI 3) (nI 16) (rdN N)) = true := by decide +kernel
set_option maxRecDepth 100000 in
theorem ev_2_16 : fcN (litL (nI 3)) (fun N => ch_lad2_0 (nI 3) (nI 17) (rdN N)) = true := by decide +kernel
set_option maxRecDepth 100000 in
theorem ev_2_17 : fcN (litL (nI 3)) (fun N => ch_lad2_0 (nI 3) (nI 18) (rdN N)) = true := by decide +kernel
set_option maxRecDepth 100000 in
theorem ev_2_18 : fcN (litL (nI 3)) (fun N => ch_lad2_0 (nI 3) (nI 19) (rdN N)) = true := by decide +kernel
set_option maxRecDepth 100000 in
theorem ev_2_19 : fcN (litL (nI 3)) (fun N => ch_lad2_0 (nI 3) (nI 20) (rdN N)) = true := by decide +kernel
set_option maxRecDepth 100000 in
theorem ev_2_20 : fcN (litL (nI 3)) (fun N => ch_lad2_0 (nI 3) (nI 21) (rdN N)) = true := by decide +kernel
set_option maxRecDepth 100000 in
theorem ev_2_21 : fcN (litL (nI 3)) (fun N => ch_lad2_0 (nI 3) (nI 22) (rdN N)) = true := by decide +kernel
set_option maxRecDepth 100000 in
theorem ev_2_22 : fcN (litL (nI 3)) (fun N => ch_lad2_0 (nI 3) (nI 23) (rdN N)) = true := by decide +kernel
set_option maxRecDepth 100000 in
theorem ev_2_23 : fcN (litL (nI 3)) (fun N => ch_lad2_0 (nI 3) (nI 24) (rdN N)) = true := by decide +kernel
set_option maxRecDepth 100000 in
theorem ev_2_24 : fcN (litL (nI 3)) (fun N => ch_lad2_0 (nI 3) (nI 25) (rdN N)) = true := by decide +kernel
set_option maxRecDepth 100000 in
theorem ev_2_25 : fcN (litL (nI 3)) (fun N => ch_lad2_0 (nI 3) (nI 26) (rdN N)) = true := by decide +kernel
set_option maxRecDepth 100000 in
theorem ev_2_26 : fcN (litL (nI 3)) (fun N => ch_lad2_0 (nI 3) (nI 27) (rdN N)) = true := by decide +kernel
set_option maxRecDepth 100000 in
theorem ev_2_27 : fcN (litL (nI 3)) (fun N => ch_lad2_0 (nI 3) (nI 28) (rdN N)) = true := by decide +kernel
set_option maxRecDepth 100000 in
theorem ev_2_28 : fcN (litL (nI 3)) (fun N => ch_lad2_0 (nI 3) (nI 29) (rdN N)) = true := by decide +kernel
set_option maxRecDepth 100000 in
theorem ev_2_29 : fcN (litL (nI 3)) (fun N => ch_lad2_0 (nI 3) (nI 30) (rdN N)) = true := by decide +kernel
set_option maxRecDepth 100000 in
theorem ev_2_30 : fcN (litL (nI 3)) (fun N => ch_lad2_0 (nI 3) (nI 31) (rdN N)) = true := by decide +kernel
theorem ev_w2 : ∀ j, j < 31 → fcN (litL (nI 3)) (fun N => ch_lad2_0 (nI 3) (nI (j + 1)) (rdN N)) = true := fun j hj => match j, hj with
  | 0, _ => ev_2_0
  | 1, _ => ev_2_1
  | 2, _ => ev_2_2
  | 3, _ => ev_2_3
  | 4, _ => ev_2_4
  | 5, _ => ev_2_5
  | 6, _ => ev_2_6
  | 7, _ => ev_2_7
  | 8, _ => ev_2_8
  | 9, _ => ev_2_9
  | 10, _ => ev_2_10
  | 11, _ => ev_2_11
  | 12, _ => ev_2_12
  | 13, _ => ev_2_13
  | 14, _ => ev_2_14
  | 15, _ => ev_2_15
  | 16, _ => ev_2_16
  | 17, _ => ev_2_17
  | 18, _ => ev_2_18
  | 19, _ => ev_2_19
  | 20, _ => ev_2_20
  | 21, _ => ev_2_21
  | 22, _ => ev_2_22
  | 23, _ => ev_2_23
  | 24, _ => ev_2_24
  | 25, _ => ev_2_25
  | 26, _ => ev_2_26
  | 27, _ => ev_2_27
  | 28, _ => ev_2_28
  | 29, _ => ev_2_29
  | 30, _ => ev_2_30
  | n + 31, h => absurd h (by omega)
