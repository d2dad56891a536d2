/-! the checks, by computing: the ladder behind a finding, weights 7 to 9 -/
set_option maxRecDepth 100000 in
theorem ev_6_0 : fcN (litL (nI 7)) (fun N => ch_lad2_0 (nI 7) (nI 1) (rdN N)) = true := by decide +kernel
set_option maxRecDepth 100000 in
theorem ev_6_1 : fcN (litL (nI 7)) (fun N => ch_lad2_0 (nI 7) (nI 2) (rdN N)) = true := by decide +kernel
set_option maxRecDepth 100000 in
theorem ev_6_2 : fcN (litL (nI 7)) (fun N => ch_lad2_0 (nI 7) (nI 3) (rdN N)) = true := by decide +kernel
set_option maxRecDepth 100000 in
theorem ev_6_3 : fcN (litL (nI 7)) (fun N => ch_lad2_0 (nI 7) (nI 4) (rdN N)) = true := by decide +kernel
set_option maxRecDepth 100000 in
theorem ev_6_4 : fcN (litL (nI 7)) (fun N => ch_lad2_0 (nI 7) (nI 5) (rdN N)) = true := by decide +kernel
set_option maxRecDepth 100000 in
theorem ev_6_5 : fcN (litL (nI 7)) (fun N => ch_lad2_0 (nI 7) (nI 6) (rdN N)) = true := by decide +kernel
set_option maxRecDepth 100000 in
theorem ev_6_6 : fcN (litL (nI 7)) (fun N => ch_lad2_0 (nI 7) (nI 7) (rdN N)) = true := by decide +kernel
set_option maxRecDepth 100000 in
theorem ev_6_7 : fcN (litL (nI 7)) (fun N => ch_lad2_0 (nI 7) (nI 8) (rdN N)) = true := by decide +kernel
set_option maxRecDepth 100000 in
theorem ev_6_8 : fcN (litL (nI 7)) (fun N => ch_lad2_0 (nI 7) (nI 9) (rdN N)) = true := by decide +kernel
set_option maxRecDepth 100000 in
theorem ev_6_9 : fcN (litL (nI 7)) (fun N => ch_lad2_0 (nI 7) (nI 10) (rdN N)) = true := by decide +kernel
set_option maxRecDepth 100000 in
theorem ev_6_10 : fcN (litL (nI 7)) (fun N => ch_lad2_0 (nI 7) (nI 11) (rdN N)) = true := by decide +kernel
set_option maxRecDepth 100000 in
theorem ev_6_11 : fcN (litL (nI 7)) (fun N => ch_lad2_0 (nI 7) (nI 12) (rdN N)) = true := by decide +kernel
set_option maxRecDepth 100000 in
theorem ev_6_12 : fcN (litL (nI 7)) (fun N => ch_lad2_0 (nI 7) (nI 13) (rdN N)) = true := by decide +kernel
set_option maxRecDepth 100000 in
theorem ev_6_13 : fcN (litL (nI 7)) (fun N => ch_lad2_0 (nI 7) (nI 14) (rdN N)) = true := by decide +kernel
set_option maxRecDepth 100000 in
theorem ev_6_14 : fcN (litL (nI 7)) (fun N => ch_lad2_0 (nI 7) (nI 15) (rdN N)) = true := by decide +kernel
set_option maxRecDepth 100000 in
theorem ev_6_15 : fcN (litL (nI 7)) (fun N => ch_lad2_0 (nI 7) (nI 16) (rdN N)) = true := by decide +kernel
set_option maxRecDepth 100000 in
theorem ev_6_16 : fcN (litL (nI 7)) (fun N => ch_lad2_0 (nI 7) (nI 17) (rdN N)) = true := by decide +kernel
set_option maxRecDepth 100000 in
theorem ev_6_17 : fcN (litL (nI 7)) (fun N => ch_lad2_0 (nI 7) (nI 18) (rdN N)) = true := by decide +kernel
set_option maxRecDepth 100000 in
theorem ev_6_18 : fcN (litL (nI 7)) (fun N => ch_lad2_0 (nI 7) (nI 19) (rdN N)) = true := by decide +kernel
set_option maxRecDepth 100000 in
theorem ev_6_19 : fcN (litL (nI 7)) (fun N => ch_lad2_0 (nI 7) (nI 20) (rdN N)) = true := by decide +kernel
set_option maxRecDepth 100000 in
theorem ev_6_20 : fcN (litL (nI 7)) (fun N => ch_lad2_0 (nI 7) (nI 21) (rdN N)) = true := by decide +kernel
set_option maxRecDepth 100000 in
theorem ev_6_21 : fcN (litL (nI 7)) (fun N => ch_lad2_0 (nI 7) (nI 22) (rdN N)) = true := by decide +kernel
set_option maxRecDepth 100000 in
theorem ev_6_22 : fcN (litL (nI 7)) (fun N => ch_lad2_0 (nI 7) (nI 23) (rdN N)) = true := by decide +kernel
set_option maxRecDepth 100000 in
theorem ev_6_23 : fcN (litL (nI 7)) (fun N => ch_lad2_0 (nI 7) (nI 24) (rdN N)) = true := by decide +kernel
set_option maxRecDepth 100000 in
theorem ev_6_24 : fcN (litL (nI 7)) (fun N => ch_lad2_0 (nI 7) (nI 25) (rdN N)) = true := by decide +kernel
set_option maxRecDepth 100000 in
theorem ev_6_25 : fcN (litL (nI 7)) (fun N => ch_lad2_0 (nI 7) (nI 26) (rdN N)) = true := by decide +kernel
set_option maxRecDepth 100000 in
theorem ev_6_26 : fcN (litL (nI 7)) (fun N => ch_lad2_0 (nI 7) (nI 27) (rdN N)) = true := by decide +kernel
set_option maxRecDepth 100000 in
theorem ev_6_27 : fcN (litL (nI 7)) (fun N => ch_lad2_0 (nI 7) (nI 28) (rdN N)) = true := by decide +kernel
set_option maxRecDepth 100000 in
theorem ev_6_28 : fcN (litL (nI 7)) (fun N => ch_lad2_0 (nI 7) (nI 29) (rdN N)) = true := by decide +kernel
set_option maxRecDepth 100000 in
theorem ev_6_29 : fcN (litL (nI 7)) (fun N => ch_lad2_0 (nI 7) (nI 30) (rdN N)) = true := by decide +kernel
set_option maxRecDepth 100000 in
theorem ev_6_30 : fcN (litL (nI 7)) (fun N => ch_lad2_0 (nI 7) (nI 31) (rdN N)) = true := by decide +kernel
theorem ev_w6 : ∀ j, j < 31 → fcN (litL (nI 7)) (fun N => ch_lad2_0 (nI 7) (nI (j + 1)) (rdN N)) = true := fun j hj => match j, hj with
  | 0, _ => ev_6_0
  | 1, _ => ev_6_1
  | 2, _ => ev_6_2
  | 3, _ => ev_6_3
  | 4, _ => ev_6_4
  | 5, _ => ev_6_5
  | 6, _ => ev_6_6
  | 7, _ => ev_6_7
  | 8, _ => ev_6_8
  | 9, _ => ev_6_9
  | 10, _ => ev_6_10
  | 11, _ => ev_6_11
  | 12, _ => ev_6_12
  | 13, _ => ev_6_13
  | 14, _ => ev_6_14
  | 15, _ => ev_6_15
  | 16, _ => ev_6_16
  | 17, _ => ev_6_17
  | 18, _ => ev_6_18
  | 19, _ => ev_6_19
  | 20, _ => ev_6_20
  | 21, _ => ev_6_21
  | 22, _ => ev_6_22
  | 23, _ => ev_6_23
  | 24, _ => ev_6_24
  | 25, _ => ev_6_25
  | 26, _ => ev_6_26
  | 27, _ => ev_6_27
  | 28, _ => ev_6_28
  | 29, _ => ev_6_29
  | 30, _ => ev_6_30
  | n + 31, h => absurd h (by omega)
set_option maxRecDepth 100000 in
theorem ev_7_0 : fcN (litL (nI 8)) (fun N => ch_lad2_0 (nI 8) (nI 1) (rdN N)) = true := by decide +kernel
set_option maxRecDepth 100000 in
theorem ev_7_1 : fcN (litL (nI 8)) (fun N => ch_lad2_0 (nI 8) (nI 2) (rdN N)) = true := by decide +kernel
set_option maxRecDepth 100000 in
theorem ev_7_2 : fcN (litL (nI 8)) (fun N => ch_lad2_0 (nI 8) (nI 3) (rdN N)) = true := by decide +kernel
set_option maxRecDepth 100000 in
theorem ev_7_3 : fcN (litL (nI 8)) (fun N => ch_lad2_0 (nI 8) (nI 4) (rdN N)) = true := by decide +kernel
set_option maxRecDepth 100000 in
theorem ev_7_4 : fcN (litL (nI 8)) (fun N => ch_lad2_0 (nI 8) (nI 5) (rdN N)) = true := by decide +kernel
set_option maxRecDepth 100000 in
theorem ev_7_5 : fcN (litL (nI 8)) (fun N => ch_lad2_0 (nI 8) (nI 6) (rdN N)) = true := by decide +kernel
set_option maxRecDepth 100000 in
theorem ev_7_6 : fcN (litL (nI 8)) (fun N => ch_lad2_0 (nI 8) (nI 7) (rdN N)) = true := by decide +kernel
set_option maxRecDepth 100000 in
theorem ev_7_7 : fcN (litL (nI 8)) (fun N => ch_lad2_0 (nI 8) (nI 8) (rdN N)) = true := by decide +kernel
set_option maxRecDepth 100000 in
theorem ev_7_8 : fcN (litL (nI 8)) (fun N => ch_lad2_0 (nI 8) (nI 9) (rdN N)) = true := by decide +kernel
set_option maxRecDepth 100000 in
theorem ev_7_9 : fcN (litL (nI 8)) (fun N => ch_lad2_0 (nI 8) (nI 10) (rdN N)) = true := by decide +kernel
set_option maxRecDepth 100000 in
theorem ev_7_10 : fcN (litL (nI 8)) (fun N => ch_lad2_0 (nI 8) (nI 11) (rdN N)) = true := by decide +kernel
set_option maxRecDepth 100000 in
theorem ev_7_11 : fcN (litL (nI 8)) (fun N => ch_lad2_0 (nI 8) (nI 12) (rdN N)) = true := by decide +kernel
set_option maxRecDepth 100000 in
theorem ev_7_12 : fcN (litL (nI 8)) (fun N => ch_lad2_0 (nI 8) (nI 13) (rdN N)) = true := by decide +kernel
set_option maxRecDepth 100000 in
theorem ev_7_13 : fcN (litL (nI 8)) (fun N => ch_lad2_0 (nI 8) (nI 14) (rdN N)) = true := by decide +kernel
set_option maxRecDepth 100000 in
theorem ev_7_14 : fcN (litL (nI 8)) (fun N => ch_lad2_0 (nI 8) (nI 15) (rdN N)) = true := by decide +kernel
set_option maxRecDepth 100000 in
theorem ev_7_15 : fcN (litL (nI 8)) (fun N => ch_lad2_0 (nI 8) (nI 16) (rdN N)) = true := by decide +kernel
set_option maxRecDepth 100000 in
theorem ev_7_16 : fcN (litL (nI 8)) (fun N => ch_lad2_0 (nI 8) (nI 17) (rdN N)) = true := by decide +kernel
set_option maxRecDepth 100000 in
theorem ev_7_17 : fcN (litL (nI 8)) (fun N => ch_lad2_0 (nI 8) (nI 18) (rdN N)) = true := by decide +kernel
set_option maxRecDepth 100000 in
theorem ev_7_18 : fcN (litL (nI 8)) (fun N => ch_lad2_0 (nI 8) (nI 19) (rdN N)) = true := by decide +kernel
set_option maxRecDepth 100000 in
theorem ev_7_19 : fcN (litL (nI 8)) (fun N => ch_lad2_0 (nI 8) (nI 20) (rdN N)) = true := by decide +kernel
set_option maxRecDepth 100000 in
theorem ev_7_20 : fcN (litL (nI 8)) (fun N => ch_lad2_0 (nI 8) (nI 21) (rdN N)) = true := by decide +kernel
set_option maxRecDepth 100000 in
theorem ev_7_21 : fcN (litL (nI 8)) (fun N => ch_lad2_0 (nI 8) (nI 22) (rdN N)) = true := by decide +kernel
set_option maxRecDepth 100000 in
theorem ev_7_22 : fcN (litL (nI 8)) (fun N => ch_lad2_0 (nI 8) (nI 23) (rdN N)) = true := by decide +kernel
set_option maxRecDepth 100000 in
theorem ev_7_23 : fcN (litL (nI 8)) (fun N => ch_lad2_0 (nI 8) (nI 24) (rdN N)) = true := by decide +kernel
set_option maxRecDepth 100000 in
theorem ev_7_24 : fcN (litL (nI 8)) (fun N => ch_lad2_0 (nI 8) (nI 25) (rdN N)) = true := by decide +kernel
set_option maxRecDepth 100000 in
theorem ev_7_25 : fcN (litL (nI 8)) (fun N => ch_lad2_0 (nI 8) (nI 26) (rdN N)) = true := by decide +kernel
set_option maxRecDepth 100000 in
theorem ev_7_26 : fcN (litL (nI 8)) (fun N => ch_lad2_0 (nI 8) (nI 27) (rdN N)) = true := by decide +kernel
set_option maxRecDepth 100000 in
theorem ev_7_27 : fcN (litL (nI 8)) (fun N => ch_lad2_0 (nI 8) (nI 28) (rdN N)) = true := by decide +kernel
set_option maxRecDepth 100000 in
theorem ev_7_28 : fcN (litL (nI 8)) (fun N => ch_lad2_0 (nI 8) (nI 29) (rdN N)) = true := by decide +kernel
set_option maxRecDepth 100000 in
theorem ev_7_29 : fcN (litL (nI 8)) (fun N => ch_lad2_0 (nI 8) (nI 30) (rdN N)) = true := by decide +kernel
set_option maxRecDepth 100000 in
theorem ev_7_30 : fcN (litL (nI 8)) (fun N => ch_lad2_0 (nI 8) (nI 31) (rdN N)) = true := by decide +kernel
theorem ev_w7 : ∀ j, j < 31 → fcN (litL (nI 8)) (fun N => ch_lad2_0 (nI 8) (nI (j + 1)) (rdN N)) = true := fun j hj => match j, hj with
  | 0, _ => ev_7_0
  | 1, _ => ev_7_1
  | 2, _ => ev_7_2
  | 3, _ => ev_7_3
  | 4, _ => ev_7_4
  | 5, _ => ev_7_5
  | 6, _ => ev_7_6
  | 7, _ => ev_7_7
  | 8, _ => ev_7_8
  | 9, _ => ev_7_9
  | 10, _ => ev_7_10
  | 11, _ => ev_7_11
  | 12, _ => ev_7_12
  | 13, _ => ev_7_13
  | 14, _ => ev_7_14
  | 15, _ => ev_7_15
  | 16, _ => ev_7_16
  | 17, _ => ev_7_17
  | 18, _ => ev_7_18
  | 19, _ => ev_7_19
  | 20, _ => ev_7_20
  | 21, _ => ev_7_21
  | 22, _ => ev_7_22
  | 23, _ => ev_7_23
  | 24, _ => ev_7_24
  | 25, _ => ev_7_25
  | 26, _ => ev_7_26
  | 27, _ => ev_7_27
  | 28, _ => ev_7_28
  | 29, _ => ev_7_29
  | 30, _ => ev_7_30
  | n + 31, h => absurd h (by omega)
set_option maxRecDepth 100000 in
theorem ev_8_0 : fcN (litL (nI 9)) (fun N => ch_lad2_0 (nI 9) (nI 1) (rdN N)) = true := by decide +kernel
set_option maxRecDepth 100000 in
theorem ev_8_1 : fcN (litL (nI 9)) (fun N => ch_lad2_0 (nI 9) (nI 2) (rdN N)) = true := by decide +kernel
set_option maxRecDepth 100000 in
theorem ev_8_2 : fcN (litL (nI 9)) (fun N => ch_lad2_0 (nI 9) (nI 3) (rdN N)) = true := by decide +kernel
set_option maxRecDepth 100000 in
theorem ev_8_3 : fcN (litL (nI 9)) (fun N => ch_lad2_0 (nI 9) (nI 4) (rdN N)) = true := by decide +kernel
set_option maxRecDepth 100000 in
theorem ev_8_4 : fcN (litL (nI 9)) (fun N => ch_lad2_0 (nI 9) (nI 5) (rdN N)) = true := by decide +kernel
set_option maxRecDepth 100000 in
theorem ev_8_5 : fcN (litL (nI 9)) (fun N => ch_lad2_0 (nI 9) (nI 6) (rdN N)) = true := by decide +kernel
set_option maxRecDepth 100000 in
theorem ev_8_6 : fcN (litL (nI 9)) (fun N => ch_lad2_0 (nI 9) (nI 7) (rdN N)) = true := by decide +kernel
set_option maxRecDepth 100000 in
theorem ev_8_7 : fcN (litL (nI 9)) (fun N => ch_lad2_0 (nI 9) (nI 8) (rdN N)) = true := by decide +kernel
set_option maxRecDepth 100000 in
theorem ev_8_8 : fcN (litL (nI 9)) (fun N => ch_lad2_0 (nI 9) (nI 9) (rdN N)) = true := by decide +kernel
set_option maxRecDepth 100000 in
theorem ev_8_9 : fcN (litL (nI 9)) (fun N => ch_lad2_0 (nI 9) (nI 10) (rdN N)) = true := by decide +kernel
set_option maxRecDepth 100000 in
theorem ev_8_10 : fcN (litL (nI 9)) (fun N => ch_lad2_0 (nI 9) (nI 11) (rdN N)) = true := by decide +kernel
set_option maxRecDepth 100000 in
theorem ev_8_11 : fcN (litL (nI 9)) (fun N => ch_lad2_0 (nI 9) (nI 12) (rdN N)) = true := by decide +kernel
set_option maxRecDepth 100000 in
theorem ev_8_12 : fcN (litL (nI 9)) (fun N => ch_lad2_0 (nI 9) (nI 13) (rdN N)) = true := by decide +kernel
set_option maxRecDepth 100000 in
theorem ev_8_13 : fcN (litL (nI 9)) (fun N => ch_lad2_0 (nI 9) (nI 14) (rdN N)) = true := by decide +kernel
set_option maxRecDepth 100000 in
theorem ev_8_14 : fcN (litL (nI 9)) (fun N => ch_lad2_0 (nI 9) (nI 15) (rdN N)) = true := by decide +kernel
set_option maxRecDepth 100000 in
theorem ev_8_15 : fcN (litL (nI 9)) (fun N => ch_lad2_0 (nI 9) (nI 16) (rdN N)) = true := by decide +kernel
set_option maxRecDepth 100000 in
theorem ev_8_16 : fcN (litL (nI 9)) (fun N => ch_lad2_0 (nI 9) (nI 17) (rdN N)) = true := by decide +kernel
set_option maxRecDepth 100000 in
theorem ev_8_17 : fcN (litL (nI 9)) (fun N => ch_lad2_0 (nI 9) (nI 18) (rdN N)) = true := by decide +kernel
set_option maxRecDepth 100000 in
theorem ev_8_18 : fcN (litL (nI 9)) (fun N => ch_lad2_0 (nI 9) (nI 19) (rdN N)) = true := by decide +kernel
set_option maxRecDepth 100000 in
theorem ev_8_19 : fcN (litL (nI 9)) (fun N => ch_lad2_0 (nI 9) (nI 20) (rdN N)) = true := by decide +kernel
set_option maxRecDepth 100000 in
theorem ev_8_20 : fcN (litL (nI 9)) (fun N => ch_lad2_0 (nI 9) (nI 21) (rdN N)) = true := by decide +kernel
set_option maxRecDepth 100000 in
theorem ev_8_21 : fcN (litL (nI 9)) (fun N => ch_lad2_0 (nI 9) (nI 22) (rdN N)) = true := by decide +kernel
set_option maxRecDepth 100000 in
theorem ev_8_22 : fcN (litL (nI 9)) (fun N => ch_lad2_0 (nI 9) (nI 23) (rdN N)) = true := by decide +kernel
set_option maxRecDepth 100000 in
theorem ev_8_23 : fcN (litL (nI 9)) (fun N => ch_lad2_0 (nI 9) (nI 24) (rdN N)) = true := by decide +kernel
set_option maxRecDepth 100000 in
theorem ev_8_24 : fcN (litL (nI 9)) (fun N => ch_lad2_0 (nI 9) (nI 25) (rdN N)) = true := by decide +kernel
set_option maxRecDepth 100000 in
theorem ev_8_25 : fcN (litL (nI 9)) (fun N => ch_lad2_0 (nI 9) (nI 26) (rdN N)) = true := by decide +kernel
set_option maxRecDepth 100000 in
theorem ev_8_26 : fcN (litL (nI 9)) (fun N => ch_lad2_0 (nI 9) (nI 27) (rdN N)) = true := by decide +kernel
set_option maxRecDepth 100000 in
theorem ev_8_27 : fcN (litL (nI 9)) (fun N => ch_lad2_0 (nI 9) (nI 28) (rdN N)) = true := by decide +kernel
set_option maxRecDepth 100000 in
theorem ev_8_28 : fcN (litL (nI 9)) (fun N => ch_lad2_0 (nI 9) (nI 29) (rdN N)) = true := by decide +kernel
set_option maxRecDepth 100000 in
theorem ev_8_29 : fcN (litL (nI 9)) (fun N => ch_lad2_0 (nI 9) (nI 30) (rdN N)) = true := by decide +kernel
set_option maxRecDepth 100000 in
theorem ev_8_30 : fcN (litL (nI 9)) (fun N => ch_lad2_0 (nI 9) (nI 31) (rdN N)) = true := by decide +kernel
theorem ev_w8 : ∀ j, j < 31 → fcN (litL (nI 9)) (fun N => ch_lad2_0 (nI 9) (nI (j + 1)) (rdN N)) = true := fun j hj => match j, hj with
  | 0, _ => ev_8_0
  | 1, _ => ev_8_1
  | 2, _ => ev_8_2
  | 3, _ => ev_8_3
  | 4, _ => ev_8_4
  | 5, _ => ev_8_5
  | 6, _ => ev_8_6
  | 7, _ => ev_8_7
  | 8, _ => ev_8_8
  | 9, _ => ev_8_9
  | 10, _ => ev_8_10
  | 11, _ => ev_8_11
  | 12, _ => ev_8_12
  | 13, _ => ev_8_13
  | 14, _ => ev_8_14
  | 15, _ => ev_8_15
  | 16, _ => ev_8_16
  | 17, _ => ev_8_17
  | 18, _ => ev_8_18
  | 19, _ => ev_8_19
  | 20, _ => ev_8_20
  | 21, _ => ev_8_21
  | 22, _ => ev_8_22
  | 23, _ => ev_8_23
  | 24, _ => ev_8_24
  | 25, _ => ev_8_25
  | 26, _ => ev_8_26
  | 27, _ => ev_8_27
  | 28, _ => ev_8_28
  | 29, _ => ev_8_29
  | 30, _ => ev_8_30
  | n + 31, h => absurd h (by omega)
