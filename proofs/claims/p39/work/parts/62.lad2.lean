/-! the law, call by call: lad2 -/
set_option maxHeartbeats 4000000 in
set_option maxRecDepth 100000 in
theorem w_lad2_0 {p : Program} {l : Launch} {e : Env} {s : State} {m : MethodId} {args : Array Value} {below : List Frame} {meth : Method} {c : Code} {g : wG} {Q : State → Prop} {y : (Nat → Nat → Int32) × (Nat → Int64) × (Nat → UInt64)} {bs : Nat} (w : Int32) (h : Int32) (X : LX p l s m args c cL_ladder 8 g)
    (fin : FN p l e rmD s m args below meth c g y Q 19 (ch_lad2_1 w h) 8 [(6, .int 5), (5, .int (rmd w h)), (4, .int (sm4 w h)), (3, .int h), (2, .int w), (1, .ref (gA g 0)), (0, .ref bs)] 329 4701 607) : FN p l e rmD s m args below meth c g y Q 18 (ch_lad2_0 w h) 8 [(6, .int 5), (5, .int (rmd w h)), (4, .int (sm4 w h)), (3, .int h), (2, .int w), (1, .ref (gA g 0)), (0, .ref bs)] 323 4669 585 := by
  intro S B H locs ls hV hw hr hl
  obtain ⟨n9, m9, ne9, n8, m8, hN, hN1, hev, hne, hne2⟩ := hV.cnt
  obtain ⟨he, hq, hz, hr⟩ := cC_e hr
  refine lv_aload_n X.1.1 X.1.2.1 dL_ladder_585 rfl (lv_at hl 5 rfl) ?_
  refine lv_bipush (v := (nI 102)) X.1.1 X.1.2.1 dL_ladder_586 (by decide +kernel) ?_
  refine lv_iconst (v := 2) X.1.1 X.1.2.1 dL_ladder_588 (by decide) ?_
  refine k_newv (n := 2) (N := 2) X.1 X.2.2.1 hw q_ai (by decide) (by decide) (by decide) (Nat.le_of_ble_eq_true rfl) (Nat.le_of_ble_eq_true rfl) dL_ladder_589 (fun b H hv => ?_)
  refine lv_dup X.1.1 X.1.2.1 dL_ladder_591 rfl ?_
  refine lv_iconst (v := 0) X.1.1 X.1.2.1 dL_ladder_592 (by decide) ?_
  refine lv_iconst (v := 0) X.1.1 X.1.2.1 dL_ladder_593 (by decide) ?_
  refine k_vst (v := 0) (n := 0) X.1 X.2.2.1 hv (vp_in_nI (n := 0) (by decide) (by decide)) (by decide) dL_ladder_594 (fun H locs hv => ?_)
  refine lv_dup X.1.1 X.1.2.1 dL_ladder_595 rfl ?_
  refine lv_iconst (v := 1) X.1.1 X.1.2.1 dL_ladder_596 (by decide) ?_
  refine lv_iload_n X.1.1 X.1.2.1 dL_ladder_597 rfl (lv_at hl 3 rfl) ?_
  refine k_vst (v := h) (n := 1) X.1 X.2.2.1 hv (vp_in_nI (n := 1) (by decide) (by decide)) (by decide) dL_ladder_598 (fun H locs hv => ?_)
  refine sN X (mA_find l g X.2.2.2 S B y (upd (upd (fun _ => 0) 0 0) 1 h) 0 h rfl rfl _ _ hN hev) hv hl dL_ladder_599 ⟨Nat.le_of_ble_eq_true rfl, Nat.le_of_ble_eq_true rfl⟩ ⟨Nat.le_of_ble_eq_true rfl, Nat.le_of_ble_eq_true rfl⟩ he (fun H locs hw => ?_)
  have hV := hV.ev (by decide) (fa_find he) hz
  have hw := hw.nrmW
  refine vn_ (v9 := (rmd w h)) (vIs_e hq) ?_
  refine lv_iload X.1.1 X.1.2.1 dL_ladder_602 (lv_at hl 1 rfl) ?_
  refine lv_icmp_ne (tgt := 739) X.1.1 X.1.2.1 dL_ladder_604 (by decide) (fun h9 => absurd rfl h9) (fun _ => ?_)
  refine W.widen (k := 329) (n := 4701) (Nat.le_of_ble_eq_true rfl) (Nat.le_of_ble_eq_true rfl) ?_
  exact fin _ _ _ _ _ hV hw hr hl
set_option maxHeartbeats 4000000 in
set_option maxRecDepth 100000 in
theorem w_lad2_1 {p : Program} {l : Launch} {e : Env} {s : State} {m : MethodId} {args : Array Value} {below : List Frame} {meth : Method} {c : Code} {g : wG} {Q : State → Prop} {y : (Nat → Nat → Int32) × (Nat → Int64) × (Nat → UInt64)} {bs : Nat} (w : Int32) (h : Int32) (X : LX p l s m args c cL_ladder 8 g)
    (fin : FN p l e rmD s m args below meth c g y Q 19 (ch_lad2_2 w h) 8 [(6, .int 5), (5, .int (rmd w h)), (4, .int (sm4 w h)), (3, .int h), (2, .int w), (1, .ref (gA g 0)), (0, .ref bs)] 335 4731 627) : FN p l e rmD s m args below meth c g y Q 19 (ch_lad2_1 w h) 8 [(6, .int 5), (5, .int (rmd w h)), (4, .int (sm4 w h)), (3, .int h), (2, .int w), (1, .ref (gA g 0)), (0, .ref bs)] 329 4701 607 := by
  intro S B H locs ls hV hw hr hl
  obtain ⟨n9, m9, ne9, n8, m8, hN, hN1, hev, hne, hne2⟩ := hV.cnt
  obtain ⟨he, hq, hr⟩ := cQ_e hr
  refine lv_aload_n X.1.1 X.1.2.1 dL_ladder_607 rfl (lv_at hl 5 rfl) ?_
  refine lv_bipush (v := (nI 110)) X.1.1 X.1.2.1 dL_ladder_608 (by decide +kernel) ?_
  refine lv_iconst (v := 0) X.1.1 X.1.2.1 dL_ladder_610 (by decide) ?_
  refine k_newv (n := 0) (N := 0) X.1 X.2.2.1 hw q_ai (by decide) (by decide) (by decide) (Nat.le_of_ble_eq_true rfl) (Nat.le_of_ble_eq_true rfl) dL_ladder_611 (fun b H hv => ?_)
  refine sN X (mA_nextDue l g X.2.2.2 S B y (fun _ => 0)  _ _ hN) hv hl dL_ladder_613 ⟨Nat.le_of_ble_eq_true rfl, Nat.le_of_ble_eq_true rfl⟩ ⟨Nat.le_of_ble_eq_true rfl, Nat.le_of_ble_eq_true rfl⟩ he (fun H locs hw => ?_)
  refine vn_ (v9 := (10 + (30 * (rmd w h)))) (vIs_e hq) ?_
  refine lv_bipush (v := 10) X.1.1 X.1.2.1 dL_ladder_616 (by decide +kernel) ?_
  refine lv_bipush (v := 30) X.1.1 X.1.2.1 dL_ladder_618 (by decide +kernel) ?_
  refine lv_iload X.1.1 X.1.2.1 dL_ladder_620 (lv_at hl 1 rfl) ?_
  refine lv_imul X.1.1 X.1.2.1 dL_ladder_622 ?_
  refine lv_iadd X.1.1 X.1.2.1 dL_ladder_623 ?_
  refine lv_icmp_ne (tgt := 739) X.1.1 X.1.2.1 dL_ladder_624 (by decide) (fun h9 => absurd rfl h9) (fun _ => ?_)
  refine W.widen (k := 335) (n := 4731) (Nat.le_of_ble_eq_true rfl) (Nat.le_of_ble_eq_true rfl) ?_
  exact fin _ _ _ _ _ hV hw hr hl
set_option maxHeartbeats 4000000 in
set_option maxRecDepth 100000 in
theorem w_lad2_2 {p : Program} {l : Launch} {e : Env} {s : State} {m : MethodId} {args : Array Value} {below : List Frame} {meth : Method} {c : Code} {g : wG} {Q : State → Prop} {y : (Nat → Nat → Int32) × (Nat → Int64) × (Nat → UInt64)} {bs : Nat} (w : Int32) (h : Int32) (X : LX p l s m args c cL_ladder 8 g)
    (fin : FN p l e rmD s m args below meth c g y Q 19 (ch_lad2_3 w h) 8 [(6, .int 5), (5, .int (rmd w h)), (4, .int (sm4 w h)), (3, .int h), (2, .int w), (1, .ref (gA g 0)), (0, .ref bs)] 341 4762 645) : FN p l e rmD s m args below meth c g y Q 19 (ch_lad2_2 w h) 8 [(6, .int 5), (5, .int (rmd w h)), (4, .int (sm4 w h)), (3, .int h), (2, .int w), (1, .ref (gA g 0)), (0, .ref bs)] 335 4731 627 := by
  intro S B H locs ls hV hw hr hl
  obtain ⟨n9, m9, ne9, n8, m8, hN, hN1, hev, hne, hne2⟩ := hV.cnt
  obtain ⟨-, hoz, hr⟩ := cQ_e hr
  obtain ⟨he, hr⟩ := cX_e hr
  have hoz := okzB_e hoz
  refine lv_aload_n X.1.1 X.1.2.1 dL_ladder_627 rfl (lv_at hl 5 rfl) ?_
  refine lv_bipush (v := (nI 89)) X.1.1 X.1.2.1 dL_ladder_628 (by decide +kernel) ?_
  refine lv_iconst (v := 1) X.1.1 X.1.2.1 dL_ladder_630 (by decide) ?_
  refine k_newv (n := 1) (N := 1) X.1 X.2.2.1 hw q_ai (by decide) (by decide) (by decide) (Nat.le_of_ble_eq_true rfl) (Nat.le_of_ble_eq_true rfl) dL_ladder_631 (fun b H hv => ?_)
  refine lv_dup X.1.1 X.1.2.1 dL_ladder_633 rfl ?_
  refine lv_iconst (v := 0) X.1.1 X.1.2.1 dL_ladder_634 (by decide) ?_
  refine lv_iconst (v := 0) X.1.1 X.1.2.1 dL_ladder_635 (by decide) ?_
  refine k_vst (v := 0) (n := 0) X.1 X.2.2.1 hv (vp_in_nI (n := 0) (by decide) (by decide)) (by decide) dL_ladder_636 (fun H locs hv => ?_)
  refine sX X (mA_isAccepted l g X.2.2.2 S B y (upd (fun _ => 0) 0 0) 0 rfl _ _ hN hoz) hv hl dL_ladder_637 ⟨Nat.le_of_ble_eq_true rfl, Nat.le_of_ble_eq_true rfl⟩ ⟨Nat.le_of_ble_eq_true rfl, Nat.le_of_ble_eq_true rfl⟩ he kX_5 (fun H locs hw => ?_)
  refine lv_ldc (v := (-2000000005)) X.1.1 X.1.2.1 X.1.2.2.1 (X.1.2.2.2 _ q905) dL_ladder_640 ?_
  refine lv_icmp_ne (tgt := 739) X.1.1 X.1.2.1 dL_ladder_642 (by decide) (fun h9 => absurd rfl h9) (fun _ => ?_)
  refine W.widen (k := 341) (n := 4762) (Nat.le_of_ble_eq_true rfl) (Nat.le_of_ble_eq_true rfl) ?_
  exact fin _ _ _ _ _ hV hw hr hl
set_option maxHeartbeats 4000000 in
set_option maxRecDepth 100000 in
theorem w_lad2_3 {p : Program} {l : Launch} {e : Env} {s : State} {m : MethodId} {args : Array Value} {below : List Frame} {meth : Method} {c : Code} {g : wG} {Q : State → Prop} {y : (Nat → Nat → Int32) × (Nat → Int64) × (Nat → UInt64)} {bs : Nat} (w : Int32) (h : Int32) (X : LX p l s m args c cL_ladder 8 g)
    (fin : FN p l e rmD s m args below meth c g y Q 20 (ch_lad2_4 w h) 8 [(6, .int 5), (5, .int (rmd w h)), (4, .int (sm4 w h)), (3, .int h), (2, .int w), (1, .ref (gA g 0)), (0, .ref bs)] 347 4794 673) : FN p l e rmD s m args below meth c g y Q 19 (ch_lad2_3 w h) 8 [(6, .int 5), (5, .int (rmd w h)), (4, .int (sm4 w h)), (3, .int h), (2, .int w), (1, .ref (gA g 0)), (0, .ref bs)] 341 4762 645 := by
  intro S B H locs ls hV hw hr hl
  obtain ⟨n9, m9, ne9, n8, m8, hN, hN1, hev, hne, hne2⟩ := hV.cnt
  obtain ⟨he, hq, hz, hr⟩ := cC_e hr
  refine lv_aload_n X.1.1 X.1.2.1 dL_ladder_645 rfl (lv_at hl 5 rfl) ?_
  refine lv_bipush (v := (nI 121)) X.1.1 X.1.2.1 dL_ladder_646 (by decide +kernel) ?_
  refine lv_iconst (v := 2) X.1.1 X.1.2.1 dL_ladder_648 (by decide) ?_
  refine k_newv (n := 2) (N := 2) X.1 X.2.2.1 hw q_ai (by decide) (by decide) (by decide) (Nat.le_of_ble_eq_true rfl) (Nat.le_of_ble_eq_true rfl) dL_ladder_649 (fun b H hv => ?_)
  refine lv_dup X.1.1 X.1.2.1 dL_ladder_651 rfl ?_
  refine lv_iconst (v := 0) X.1.1 X.1.2.1 dL_ladder_652 (by decide) ?_
  refine lv_iconst (v := 0) X.1.1 X.1.2.1 dL_ladder_653 (by decide) ?_
  refine k_vst (v := 0) (n := 0) X.1 X.2.2.1 hv (vp_in_nI (n := 0) (by decide) (by decide)) (by decide) dL_ladder_654 (fun H locs hv => ?_)
  refine lv_dup X.1.1 X.1.2.1 dL_ladder_655 rfl ?_
  refine lv_iconst (v := 1) X.1.1 X.1.2.1 dL_ladder_656 (by decide) ?_
  refine lv_iconst (v := 0) X.1.1 X.1.2.1 dL_ladder_657 (by decide) ?_
  refine k_vst (v := 0) (n := 1) X.1 X.2.2.1 hv (vp_in_nI (n := 1) (by decide) (by decide)) (by decide) dL_ladder_658 (fun H locs hv => ?_)
  refine sN X (mA_accept l g X.2.2.2 S B y (upd (upd (fun _ => 0) 0 0) 1 0) 0 0 rfl rfl _ _ hN hev (Or.inl rfl)) hv hl dL_ladder_659 ⟨Nat.le_of_ble_eq_true rfl, Nat.le_of_ble_eq_true rfl⟩ ⟨Nat.le_of_ble_eq_true rfl, Nat.le_of_ble_eq_true rfl⟩ he (fun H locs hw => ?_)
  have hV := hV.ev (by decide) (fa_accept he) hz
  have hw := hw.nrmW
  refine vn_ (v9 := (10 + (30 * (rmd w h)))) (vIs_e hq) ?_
  refine lv_bipush (v := 10) X.1.1 X.1.2.1 dL_ladder_662 (by decide +kernel) ?_
  refine lv_bipush (v := 30) X.1.1 X.1.2.1 dL_ladder_664 (by decide +kernel) ?_
  refine lv_iload X.1.1 X.1.2.1 dL_ladder_666 (lv_at hl 1 rfl) ?_
  refine lv_imul X.1.1 X.1.2.1 dL_ladder_668 ?_
  refine lv_iadd X.1.1 X.1.2.1 dL_ladder_669 ?_
  refine lv_icmp_ne (tgt := 739) X.1.1 X.1.2.1 dL_ladder_670 (by decide) (fun h9 => absurd rfl h9) (fun _ => ?_)
  refine W.widen (k := 347) (n := 4794) (Nat.le_of_ble_eq_true rfl) (Nat.le_of_ble_eq_true rfl) ?_
  exact fin _ _ _ _ _ hV hw hr hl
set_option maxHeartbeats 4000000 in
set_option maxRecDepth 100000 in
theorem w_lad2_4 {p : Program} {l : Launch} {e : Env} {s : State} {m : MethodId} {args : Array Value} {below : List Frame} {meth : Method} {c : Code} {g : wG} {Q : State → Prop} {y : (Nat → Nat → Int32) × (Nat → Int64) × (Nat → UInt64)} {bs : Nat} (w : Int32) (h : Int32) (X : LX p l s m args c cL_ladder 8 g)
    (fin : FN p l e rmD s m args below meth c g y Q 20 (ch_lad2_5 w h) 8 [(6, .int 5), (5, .int (rmd w h)), (4, .int (sm4 w h)), (3, .int h), (2, .int w), (1, .ref (gA g 0)), (0, .ref bs)] 353 4825 689) : FN p l e rmD s m args below meth c g y Q 20 (ch_lad2_4 w h) 8 [(6, .int 5), (5, .int (rmd w h)), (4, .int (sm4 w h)), (3, .int h), (2, .int w), (1, .ref (gA g 0)), (0, .ref bs)] 347 4794 673 := by
  intro S B H locs ls hV hw hr hl
  obtain ⟨n9, m9, ne9, n8, m8, hN, hN1, hev, hne, hne2⟩ := hV.cnt
  obtain ⟨he, hq, hr⟩ := cQ_e hr
  obtain ⟨hoz, hq⟩ := and_e hq
  have hoz := okzB_e hoz
  refine lv_aload_n X.1.1 X.1.2.1 dL_ladder_673 rfl (lv_at hl 5 rfl) ?_
  refine lv_bipush (v := (nI 89)) X.1.1 X.1.2.1 dL_ladder_674 (by decide +kernel) ?_
  refine lv_iconst (v := 1) X.1.1 X.1.2.1 dL_ladder_676 (by decide) ?_
  refine k_newv (n := 1) (N := 1) X.1 X.2.2.1 hw q_ai (by decide) (by decide) (by decide) (Nat.le_of_ble_eq_true rfl) (Nat.le_of_ble_eq_true rfl) dL_ladder_677 (fun b H hv => ?_)
  refine lv_dup X.1.1 X.1.2.1 dL_ladder_679 rfl ?_
  refine lv_iconst (v := 0) X.1.1 X.1.2.1 dL_ladder_680 (by decide) ?_
  refine lv_iconst (v := 0) X.1.1 X.1.2.1 dL_ladder_681 (by decide) ?_
  refine k_vst (v := 0) (n := 0) X.1 X.2.2.1 hv (vp_in_nI (n := 0) (by decide) (by decide)) (by decide) dL_ladder_682 (fun H locs hv => ?_)
  refine sN X (mA_isAccepted l g X.2.2.2 S B y (upd (fun _ => 0) 0 0) 0 rfl _ _ hN hoz) hv hl dL_ladder_683 ⟨Nat.le_of_ble_eq_true rfl, Nat.le_of_ble_eq_true rfl⟩ ⟨Nat.le_of_ble_eq_true rfl, Nat.le_of_ble_eq_true rfl⟩ he (fun H locs hw => ?_)
  refine vn_ (v9 := 0) (vIs_e hq) ?_
  refine lv_if_ne (tgt := 739) X.1.1 X.1.2.1 dL_ladder_686 (by decide) (fun h9 => absurd rfl h9) (fun _ => ?_)
  refine W.widen (k := 353) (n := 4825) (Nat.le_of_ble_eq_true rfl) (Nat.le_of_ble_eq_true rfl) ?_
  exact fin _ _ _ _ _ hV hw hr hl
set_option maxHeartbeats 4000000 in
set_option maxRecDepth 100000 in
theorem w_lad2_5 {p : Program} {l : Launch} {e : Env} {s : State} {m : MethodId} {args : Array Value} {below : List Frame} {meth : Method} {c : Code} {g : wG} {Q : State → Prop} {y : (Nat → Nat → Int32) × (Nat → Int64) × (Nat → UInt64)} {bs : Nat} (w : Int32) (h : Int32) (X : LX p l s m args c cL_ladder 8 g)
    (fin : FN p l e rmD s m args below meth c g y Q 20 (ch_lad2_6 w h) 8 [(6, .int 5), (5, .int (rmd w h)), (4, .int (sm4 w h)), (3, .int h), (2, .int w), (1, .ref (gA g 0)), (0, .ref bs)] 359 4857 711) : FN p l e rmD s m args below meth c g y Q 20 (ch_lad2_5 w h) 8 [(6, .int 5), (5, .int (rmd w h)), (4, .int (sm4 w h)), (3, .int h), (2, .int w), (1, .ref (gA g 0)), (0, .ref bs)] 353 4825 689 := by
  intro S B H locs ls hV hw hr hl
  obtain ⟨n9, m9, ne9, n8, m8, hN, hN1, hev, hne, hne2⟩ := hV.cnt
  obtain ⟨he, hr⟩ := cX_e hr
  refine lv_aload_n X.1.1 X.1.2.1 dL_ladder_689 rfl (lv_at hl 5 rfl) ?_
  refine lv_bipush (v := (nI 121)) X.1.1 X.1.2.1 dL_ladder_690 (by decide +kernel) ?_
  refine lv_iconst (v := 2) X.1.1 X.1.2.1 dL_ladder_692 (by decide) ?_
  refine k_newv (n := 2) (N := 2) X.1 X.2.2.1 hw q_ai (by decide) (by decide) (by decide) (Nat.le_of_ble_eq_true rfl) (Nat.le_of_ble_eq_true rfl) dL_ladder_693 (fun b H hv => ?_)
  refine lv_dup X.1.1 X.1.2.1 dL_ladder_695 rfl ?_
  refine lv_iconst (v := 0) X.1.1 X.1.2.1 dL_ladder_696 (by decide) ?_
  refine lv_iconst (v := 0) X.1.1 X.1.2.1 dL_ladder_697 (by decide) ?_
  refine k_vst (v := 0) (n := 0) X.1 X.2.2.1 hv (vp_in_nI (n := 0) (by decide) (by decide)) (by decide) dL_ladder_698 (fun H locs hv => ?_)
  refine lv_dup X.1.1 X.1.2.1 dL_ladder_699 rfl ?_
  refine lv_iconst (v := 1) X.1.1 X.1.2.1 dL_ladder_700 (by decide) ?_
  refine lv_iconst (v := 1) X.1.1 X.1.2.1 dL_ladder_701 (by decide) ?_
  refine k_vst (v := 1) (n := 1) X.1 X.2.2.1 hv (vp_in_nI (n := 1) (by decide) (by decide)) (by decide) dL_ladder_702 (fun H locs hv => ?_)
  refine sX X (mA_accept l g X.2.2.2 S B y (upd (upd (fun _ => 0) 0 0) 1 1) 0 1 rfl rfl _ _ hN hev (Or.inr rfl)) hv hl dL_ladder_703 ⟨Nat.le_of_ble_eq_true rfl, Nat.le_of_ble_eq_true rfl⟩ ⟨Nat.le_of_ble_eq_true rfl, Nat.le_of_ble_eq_true rfl⟩ he kX_4 (fun H locs hw => ?_)
  refine lv_ldc (v := (-2000000004)) X.1.1 X.1.2.1 X.1.2.2.1 (X.1.2.2.2 _ q904) dL_ladder_706 ?_
  refine lv_icmp_ne (tgt := 739) X.1.1 X.1.2.1 dL_ladder_708 (by decide) (fun h9 => absurd rfl h9) (fun _ => ?_)
  refine W.widen (k := 359) (n := 4857) (Nat.le_of_ble_eq_true rfl) (Nat.le_of_ble_eq_true rfl) ?_
  exact fin _ _ _ _ _ hV hw hr hl
set_option maxHeartbeats 4000000 in
set_option maxRecDepth 100000 in
theorem w_lad2_6 {p : Program} {l : Launch} {e : Env} {s : State} {m : MethodId} {args : Array Value} {below : List Frame} {meth : Method} {c : Code} {g : wG} {Q : State → Prop} {y : (Nat → Nat → Int32) × (Nat → Int64) × (Nat → UInt64)} {bs : Nat} (w : Int32) (h : Int32) (X : LX p l s m args c cL_ladder 8 g)
    (fin : FN p l e rmD s m args below meth c g y Q 20 (ch_lad2_7 w h) 8 [(6, .int 5), (5, .int (rmd w h)), (4, .int (sm4 w h)), (3, .int h), (2, .int w), (1, .ref (gA g 0)), (0, .ref bs)] 365 4888 729) : FN p l e rmD s m args below meth c g y Q 20 (ch_lad2_6 w h) 8 [(6, .int 5), (5, .int (rmd w h)), (4, .int (sm4 w h)), (3, .int h), (2, .int w), (1, .ref (gA g 0)), (0, .ref bs)] 359 4857 711 := by
  intro S B H locs ls hV hw hr hl
  obtain ⟨n9, m9, ne9, n8, m8, hN, hN1, hev, hne, hne2⟩ := hV.cnt
  obtain ⟨he, hr⟩ := cX_e hr
  refine lv_aload_n X.1.1 X.1.2.1 dL_ladder_711 rfl (lv_at hl 5 rfl) ?_
  refine lv_bipush (v := (nI 70)) X.1.1 X.1.2.1 dL_ladder_712 (by decide +kernel) ?_
  refine lv_iconst (v := 1) X.1.1 X.1.2.1 dL_ladder_714 (by decide) ?_
  refine k_newv (n := 1) (N := 1) X.1 X.2.2.1 hw q_ai (by decide) (by decide) (by decide) (Nat.le_of_ble_eq_true rfl) (Nat.le_of_ble_eq_true rfl) dL_ladder_715 (fun b H hv => ?_)
  refine lv_dup X.1.1 X.1.2.1 dL_ladder_717 rfl ?_
  refine lv_iconst (v := 0) X.1.1 X.1.2.1 dL_ladder_718 (by decide) ?_
  refine lv_iconst (v := 0) X.1.1 X.1.2.1 dL_ladder_719 (by decide) ?_
  refine k_vst (v := 0) (n := 0) X.1 X.2.2.1 hv (vp_in_nI (n := 0) (by decide) (by decide)) (by decide) dL_ladder_720 (fun H locs hv => ?_)
  refine sX X (mA_followUp l g X.2.2.2 S B y (upd (fun _ => 0) 0 0) 0 rfl _ _ hN hev) hv hl dL_ladder_721 ⟨Nat.le_of_ble_eq_true rfl, Nat.le_of_ble_eq_true rfl⟩ ⟨Nat.le_of_ble_eq_true rfl, Nat.le_of_ble_eq_true rfl⟩ he kX_4 (fun H locs hw => ?_)
  refine lv_ldc (v := (-2000000004)) X.1.1 X.1.2.1 X.1.2.2.1 (X.1.2.2.2 _ q904) dL_ladder_724 ?_
  refine lv_icmp_ne (tgt := 739) X.1.1 X.1.2.1 dL_ladder_726 (by decide) (fun h9 => absurd rfl h9) (fun _ => ?_)
  refine W.widen (k := 365) (n := 4888) (Nat.le_of_ble_eq_true rfl) (Nat.le_of_ble_eq_true rfl) ?_
  exact fin _ _ _ _ _ hV hw hr hl
set_option maxHeartbeats 4000000 in
set_option maxRecDepth 100000 in
theorem w_lad2_7 {p : Program} {l : Launch} {e : Env} {s : State} {m : MethodId} {args : Array Value} {below : List Frame} {meth : Method} {c : Code} {g : wG} {Q : State → Prop} {y : (Nat → Nat → Int32) × (Nat → Int64) × (Nat → UInt64)} {bs : Nat} (w : Int32) (h : Int32) (X : LX p l s m args c cL_ladder 8 g)
    (fin : FN p l e rmD s m args below meth c g y Q 20 (ch_lad2_8 w h) 8 [(6, .int 5), (5, .int (rmd w h)), (4, .int (sm4 w h)), (3, .int h), (2, .int w), (1, .ref (gA g 0)), (0, .ref bs)] 370 4918 741) : FN p l e rmD s m args below meth c g y Q 20 (ch_lad2_7 w h) 8 [(6, .int 5), (5, .int (rmd w h)), (4, .int (sm4 w h)), (3, .int h), (2, .int w), (1, .ref (gA g 0)), (0, .ref bs)] 365 4888 729 := by
  intro S B H locs ls hV hw hr hl
  obtain ⟨n9, m9, ne9, n8, m8, hN, hN1, hev, hne, hne2⟩ := hV.cnt
  obtain ⟨he, hq, hr⟩ := cQ_e hr
  refine lv_aload_n X.1.1 X.1.2.1 dL_ladder_729 rfl (lv_at hl 5 rfl) ?_
  refine lv_iconst (v := 0) X.1.1 X.1.2.1 dL_ladder_730 (by decide) ?_
  refine sF X hN hw hl dL_ladder_731 ⟨Nat.le_of_ble_eq_true rfl, Nat.le_of_ble_eq_true rfl⟩ ⟨Nat.le_of_ble_eq_true rfl, Nat.le_of_ble_eq_true rfl⟩ he (fun H locs hw => ?_)
  refine lv_fconst0 X.1.1 X.1.2.1 dL_ladder_734 ?_
  refine lv_fcmp X.1.1 X.1.2.1 dL_ladder_735 ?_
  refine vn_ (v9 := 0) (vIs_e hq) ?_
  refine lv_if_eq (tgt := 741) X.1.1 X.1.2.1 dL_ladder_736 (by decide) (fun _ => ?_) (fun h9 => absurd rfl h9)
  refine W.widen (k := 370) (n := 4918) (Nat.le_of_ble_eq_true rfl) (Nat.le_of_ble_eq_true rfl) ?_
  exact fin _ _ _ _ _ hV hw hr hl
set_option maxHeartbeats 4000000 in
set_option maxRecDepth 100000 in
theorem w_lad2_8 {p : Program} {l : Launch} {e : Env} {s : State} {m : MethodId} {args : Array Value} {below : List Frame} {meth : Method} {c : Code} {g : wG} {Q : State → Prop} {y : (Nat → Nat → Int32) × (Nat → Int64) × (Nat → UInt64)} {bs : Nat} (w : Int32) (h : Int32) (X : LX p l s m args c cL_ladder 8 g)
    (fin : FN p l e rmD s m args below meth c g y Q 21 (ch_lad2_9 w h) 8 [(7, .int (11 + (30 * (rmd w h)))), (6, .int (if ((rmd w h) + 1) < 4 then ((rmd w h) + 1) else 4)), (5, .int (rmd w h)), (4, .int (sm4 w h)), (3, .int h), (2, .int w), (1, .ref (gA g 0)), (0, .ref bs)] 376 4949 785) : FN p l e rmD s m args below meth c g y Q 20 (ch_lad2_8 w h) 8 [(6, .int 5), (5, .int (rmd w h)), (4, .int (sm4 w h)), (3, .int h), (2, .int w), (1, .ref (gA g 0)), (0, .ref bs)] 370 4918 741 := by
  intro S B H locs ls hV hw hr hl
  obtain ⟨n9, m9, ne9, n8, m8, hN, hN1, hev, hne, hne2⟩ := hV.cnt
  obtain ⟨he, hq, hz, hr⟩ := cC_e hr
  refine lv_iconst (v := 4) X.1.1 X.1.2.1 dL_ladder_741 (by decide) ?_
  refine lv_iload X.1.1 X.1.2.1 dL_ladder_742 (lv_at hl 1 rfl) ?_
  refine lv_iconst (v := 1) X.1.1 X.1.2.1 dL_ladder_744 (by decide) ?_
  refine lv_iadd X.1.1 X.1.2.1 dL_ladder_745 ?_
  refine va_mmin X.1.1 X.1.2.1 (X.2.1.trans hl.1.symm) X.1.2.2.1 (X.1.2.2.2 _ q962) (X.1.2.2.2 _ q363) (X.1.2.2.2 _ q16) (X.1.2.2.2 _ q364) (Nat.le_of_ble_eq_true rfl) (Nat.le_of_ble_eq_true rfl) (Nat.le_of_ble_eq_true rfl) (Nat.le_of_ble_eq_true rfl) dL_ladder_746 ?_
  refine lv_istore (lv' := [(6, .int (if ((rmd w h) + 1) < 4 then ((rmd w h) + 1) else 4)), (5, .int (rmd w h)), (4, .int (sm4 w h)), (3, .int h), (2, .int w), (1, .ref (gA g 0)), (0, .ref bs)]) X.1.1 X.1.2.1 dL_ladder_749 hl (by decide) rfl (fun ls hl => ?_)
  refine lv_bipush (v := 11) X.1.1 X.1.2.1 dL_ladder_751 (by decide +kernel) ?_
  refine lv_bipush (v := 30) X.1.1 X.1.2.1 dL_ladder_753 (by decide +kernel) ?_
  refine lv_iload X.1.1 X.1.2.1 dL_ladder_755 (lv_at hl 1 rfl) ?_
  refine lv_imul X.1.1 X.1.2.1 dL_ladder_757 ?_
  refine lv_iadd X.1.1 X.1.2.1 dL_ladder_758 ?_
  refine lv_istore (lv' := [(7, .int (11 + (30 * (rmd w h)))), (6, .int (if ((rmd w h) + 1) < 4 then ((rmd w h) + 1) else 4)), (5, .int (rmd w h)), (4, .int (sm4 w h)), (3, .int h), (2, .int w), (1, .ref (gA g 0)), (0, .ref bs)]) X.1.1 X.1.2.1 dL_ladder_759 hl (by decide) rfl (fun ls hl => ?_)
  refine lv_aload_n X.1.1 X.1.2.1 dL_ladder_761 rfl (lv_at hl 6 rfl) ?_
  refine lv_bipush (v := (nI 112)) X.1.1 X.1.2.1 dL_ladder_762 (by decide +kernel) ?_
  refine lv_iconst (v := 1) X.1.1 X.1.2.1 dL_ladder_764 (by decide) ?_
  refine k_newv (n := 1) (N := 1) X.1 X.2.2.1 hw q_ai (by decide) (by decide) (by decide) (Nat.le_of_ble_eq_true rfl) (Nat.le_of_ble_eq_true rfl) dL_ladder_765 (fun b H hv => ?_)
  refine lv_dup X.1.1 X.1.2.1 dL_ladder_767 rfl ?_
  refine lv_iconst (v := 0) X.1.1 X.1.2.1 dL_ladder_768 (by decide) ?_
  refine lv_iconst (v := 1) X.1.1 X.1.2.1 dL_ladder_769 (by decide) ?_
  refine lv_bipush (v := 30) X.1.1 X.1.2.1 dL_ladder_770 (by decide +kernel) ?_
  refine lv_iload X.1.1 X.1.2.1 dL_ladder_772 (lv_at hl 2 rfl) ?_
  refine lv_imul X.1.1 X.1.2.1 dL_ladder_774 ?_
  refine lv_iadd X.1.1 X.1.2.1 dL_ladder_775 ?_
  refine k_vst (v := (1 + (30 * (rmd w h)))) (n := 0) X.1 X.2.2.1 hv (vp_in_nI (n := 0) (by decide) (by decide)) (by decide) dL_ladder_776 (fun H locs hv => ?_)
  refine sN X (mA_pass l g X.2.2.2 S B y (upd (fun _ => 0) 0 (1 + (30 * (rmd w h)))) (1 + (30 * (rmd w h))) rfl _ _ hN hev) hv hl dL_ladder_777 ⟨Nat.le_of_ble_eq_true rfl, Nat.le_of_ble_eq_true rfl⟩ ⟨Nat.le_of_ble_eq_true rfl, Nat.le_of_ble_eq_true rfl⟩ he (fun H locs hw => ?_)
  have hV := hV.ev (by decide) (fa_pass he) hz
  have hw := hw.nrmW
  refine vn_ (v9 := (11 + (30 * (rmd w h)))) (vIs_e hq) ?_
  refine lv_iload X.1.1 X.1.2.1 dL_ladder_780 (lv_at hl 0 rfl) ?_
  refine lv_icmp_ne (tgt := 1029) X.1.1 X.1.2.1 dL_ladder_782 (by decide) (fun h9 => absurd rfl h9) (fun _ => ?_)
  refine W.widen (k := 376) (n := 4949) (Nat.le_of_ble_eq_true rfl) (Nat.le_of_ble_eq_true rfl) ?_
  exact fin _ _ _ _ _ hV hw hr hl
set_option maxHeartbeats 4000000 in
set_option maxRecDepth 100000 in
theorem w_lad2_9 {p : Program} {l : Launch} {e : Env} {s : State} {m : MethodId} {args : Array Value} {below : List Frame} {meth : Method} {c : Code} {g : wG} {Q : State → Prop} {y : (Nat → Nat → Int32) × (Nat → Int64) × (Nat → UInt64)} {bs : Nat} (w : Int32) (h : Int32) (X : LX p l s m args c cL_ladder 8 g)
    (fin : FN p l e rmD s m args below meth c g y Q 21 (ch_lad2_10 w h) 8 [(7, .int (11 + (30 * (rmd w h)))), (6, .int (if ((rmd w h) + 1) < 4 then ((rmd w h) + 1) else 4)), (5, .int (rmd w h)), (4, .int (sm4 w h)), (3, .int h), (2, .int w), (1, .ref (gA g 0)), (0, .ref bs)] 382 4980 803) : FN p l e rmD s m args below meth c g y Q 21 (ch_lad2_9 w h) 8 [(7, .int (11 + (30 * (rmd w h)))), (6, .int (if ((rmd w h) + 1) < 4 then ((rmd w h) + 1) else 4)), (5, .int (rmd w h)), (4, .int (sm4 w h)), (3, .int h), (2, .int w), (1, .ref (gA g 0)), (0, .ref bs)] 376 4949 785 := by
  intro S B H locs ls hV hw hr hl
  obtain ⟨n9, m9, ne9, n8, m8, hN, hN1, hev, hne, hne2⟩ := hV.cnt
  obtain ⟨he, hr⟩ := cX_e hr
  refine lv_aload_n X.1.1 X.1.2.1 dL_ladder_785 rfl (lv_at hl 6 rfl) ?_
  refine lv_bipush (v := (nI 72)) X.1.1 X.1.2.1 dL_ladder_786 (by decide +kernel) ?_
  refine lv_iconst (v := 1) X.1.1 X.1.2.1 dL_ladder_788 (by decide) ?_
  refine k_newv (n := 1) (N := 1) X.1 X.2.2.1 hw q_ai (by decide) (by decide) (by decide) (Nat.le_of_ble_eq_true rfl) (Nat.le_of_ble_eq_true rfl) dL_ladder_789 (fun b H hv => ?_)
  refine lv_dup X.1.1 X.1.2.1 dL_ladder_791 rfl ?_
  refine lv_iconst (v := 0) X.1.1 X.1.2.1 dL_ladder_792 (by decide) ?_
  refine lv_iconst (v := 0) X.1.1 X.1.2.1 dL_ladder_793 (by decide) ?_
  refine k_vst (v := 0) (n := 0) X.1 X.2.2.1 hv (vp_in_nI (n := 0) (by decide) (by decide)) (by decide) dL_ladder_794 (fun H locs hv => ?_)
  refine sX X (mA_heed l g X.2.2.2 S B y (upd (fun _ => 0) 0 0) 0 rfl _ _ hN hev) hv hl dL_ladder_795 ⟨Nat.le_of_ble_eq_true rfl, Nat.le_of_ble_eq_true rfl⟩ ⟨Nat.le_of_ble_eq_true rfl, Nat.le_of_ble_eq_true rfl⟩ he kX_4 (fun H locs hw => ?_)
  refine lv_ldc (v := (-2000000004)) X.1.1 X.1.2.1 X.1.2.2.1 (X.1.2.2.2 _ q904) dL_ladder_798 ?_
  refine lv_icmp_ne (tgt := 1029) X.1.1 X.1.2.1 dL_ladder_800 (by decide) (fun h9 => absurd rfl h9) (fun _ => ?_)
  refine W.widen (k := 382) (n := 4980) (Nat.le_of_ble_eq_true rfl) (Nat.le_of_ble_eq_true rfl) ?_
  exact fin _ _ _ _ _ hV hw hr hl
set_option maxHeartbeats 4000000 in
set_option maxRecDepth 100000 in
theorem w_lad2_10 {p : Program} {l : Launch} {e : Env} {s : State} {m : MethodId} {args : Array Value} {below : List Frame} {meth : Method} {c : Code} {g : wG} {Q : State → Prop} {y : (Nat → Nat → Int32) × (Nat → Int64) × (Nat → UInt64)} {bs : Nat} (w : Int32) (h : Int32) (X : LX p l s m args c cL_ladder 8 g)
    (fin : FN p l e rmD s m args below meth c g y Q 22 (ch_lad2_11 w h) 8 [(7, .int (11 + (30 * (rmd w h)))), (6, .int (if ((rmd w h) + 1) < 4 then ((rmd w h) + 1) else 4)), (5, .int (rmd w h)), (4, .int (sm4 w h)), (3, .int h), (2, .int w), (1, .ref (gA g 0)), (0, .ref bs)] 388 5011 821) : FN p l e rmD s m args below meth c g y Q 21 (ch_lad2_10 w h) 8 [(7, .int (11 + (30 * (rmd w h)))), (6, .int (if ((rmd w h) + 1) < 4 then ((rmd w h) + 1) else 4)), (5, .int (rmd w h)), (4, .int (sm4 w h)), (3, .int h), (2, .int w), (1, .ref (gA g 0)), (0, .ref bs)] 382 4980 803 := by
  intro S B H locs ls hV hw hr hl
  obtain ⟨n9, m9, ne9, n8, m8, hN, hN1, hev, hne, hne2⟩ := hV.cnt
  obtain ⟨he, hq, hz, hr⟩ := cC_e hr
  refine lv_aload_n X.1.1 X.1.2.1 dL_ladder_803 rfl (lv_at hl 6 rfl) ?_
  refine lv_bipush (v := (nI 70)) X.1.1 X.1.2.1 dL_ladder_804 (by decide +kernel) ?_
  refine lv_iconst (v := 1) X.1.1 X.1.2.1 dL_ladder_806 (by decide) ?_
  refine k_newv (n := 1) (N := 1) X.1 X.2.2.1 hw q_ai (by decide) (by decide) (by decide) (Nat.le_of_ble_eq_true rfl) (Nat.le_of_ble_eq_true rfl) dL_ladder_807 (fun b H hv => ?_)
  refine lv_dup X.1.1 X.1.2.1 dL_ladder_809 rfl ?_
  refine lv_iconst (v := 0) X.1.1 X.1.2.1 dL_ladder_810 (by decide) ?_
  refine lv_iconst (v := 0) X.1.1 X.1.2.1 dL_ladder_811 (by decide) ?_
  refine k_vst (v := 0) (n := 0) X.1 X.2.2.1 hv (vp_in_nI (n := 0) (by decide) (by decide)) (by decide) dL_ladder_812 (fun H locs hv => ?_)
  refine sN X (mA_followUp l g X.2.2.2 S B y (upd (fun _ => 0) 0 0) 0 rfl _ _ hN hev) hv hl dL_ladder_813 ⟨Nat.le_of_ble_eq_true rfl, Nat.le_of_ble_eq_true rfl⟩ ⟨Nat.le_of_ble_eq_true rfl, Nat.le_of_ble_eq_true rfl⟩ he (fun H locs hw => ?_)
  have hV := hV.ev (by decide) (fa_followUp he) hz
  have hw := hw.nrmW
  refine vn_ (v9 := (if ((rmd w h) + 1) < 4 then ((rmd w h) + 1) else 4)) (vIs_e hq) ?_
  refine lv_iload X.1.1 X.1.2.1 dL_ladder_816 (lv_at hl 1 rfl) ?_
  refine lv_icmp_ne (tgt := 1029) X.1.1 X.1.2.1 dL_ladder_818 (by decide) (fun h9 => absurd rfl h9) (fun _ => ?_)
  refine W.widen (k := 388) (n := 5011) (Nat.le_of_ble_eq_true rfl) (Nat.le_of_ble_eq_true rfl) ?_
  exact fin _ _ _ _ _ hV hw hr hl
set_option maxHeartbeats 4000000 in
set_option maxRecDepth 100000 in
theorem w_lad2_11 {p : Program} {l : Launch} {e : Env} {s : State} {m : MethodId} {args : Array Value} {below : List Frame} {meth : Method} {c : Code} {g : wG} {Q : State → Prop} {y : (Nat → Nat → Int32) × (Nat → Int64) × (Nat → UInt64)} {bs : Nat} (w : Int32) (h : Int32) (X : LX p l s m args c cL_ladder 8 g)
    (fin : FN p l e rmD s m args below meth c g y Q 22 (ch_lad2_12 w h) 8 [(7, .int (11 + (30 * (rmd w h)))), (6, .int (if ((rmd w h) + 1) < 4 then ((rmd w h) + 1) else 4)), (5, .int (rmd w h)), (4, .int (sm4 w h)), (3, .int h), (2, .int w), (1, .ref (gA g 0)), (0, .ref bs)] 394 5042 839) : FN p l e rmD s m args below meth c g y Q 22 (ch_lad2_11 w h) 8 [(7, .int (11 + (30 * (rmd w h)))), (6, .int (if ((rmd w h) + 1) < 4 then ((rmd w h) + 1) else 4)), (5, .int (rmd w h)), (4, .int (sm4 w h)), (3, .int h), (2, .int w), (1, .ref (gA g 0)), (0, .ref bs)] 388 5011 821 := by
  intro S B H locs ls hV hw hr hl
  obtain ⟨n9, m9, ne9, n8, m8, hN, hN1, hev, hne, hne2⟩ := hV.cnt
  obtain ⟨he, hq, hr⟩ := cQ_e hr
  refine lv_aload_n X.1.1 X.1.2.1 dL_ladder_821 rfl (lv_at hl 6 rfl) ?_
  refine lv_bipush (v := (nI 82)) X.1.1 X.1.2.1 dL_ladder_822 (by decide +kernel) ?_
  refine lv_iconst (v := 1) X.1.1 X.1.2.1 dL_ladder_824 (by decide) ?_
  refine k_newv (n := 1) (N := 1) X.1 X.2.2.1 hw q_ai (by decide) (by decide) (by decide) (Nat.le_of_ble_eq_true rfl) (Nat.le_of_ble_eq_true rfl) dL_ladder_825 (fun b H hv => ?_)
  refine lv_dup X.1.1 X.1.2.1 dL_ladder_827 rfl ?_
  refine lv_iconst (v := 0) X.1.1 X.1.2.1 dL_ladder_828 (by decide) ?_
  refine lv_iconst (v := 0) X.1.1 X.1.2.1 dL_ladder_829 (by decide) ?_
  refine k_vst (v := 0) (n := 0) X.1 X.2.2.1 hv (vp_in_nI (n := 0) (by decide) (by decide)) (by decide) dL_ladder_830 (fun H locs hv => ?_)
  refine sN X (mA_remedy l g X.2.2.2 S B y (upd (fun _ => 0) 0 0) 0 rfl _ _ hN) hv hl dL_ladder_831 ⟨Nat.le_of_ble_eq_true rfl, Nat.le_of_ble_eq_true rfl⟩ ⟨Nat.le_of_ble_eq_true rfl, Nat.le_of_ble_eq_true rfl⟩ he (fun H locs hw => ?_)
  refine vn_ (v9 := (if ((rmd w h) + 1) < 4 then ((rmd w h) + 1) else 4)) (vIs_e hq) ?_
  refine lv_iload X.1.1 X.1.2.1 dL_ladder_834 (lv_at hl 1 rfl) ?_
  refine lv_icmp_ne (tgt := 1029) X.1.1 X.1.2.1 dL_ladder_836 (by decide) (fun h9 => absurd rfl h9) (fun _ => ?_)
  refine W.widen (k := 394) (n := 5042) (Nat.le_of_ble_eq_true rfl) (Nat.le_of_ble_eq_true rfl) ?_
  exact fin _ _ _ _ _ hV hw hr hl
set_option maxHeartbeats 4000000 in
set_option maxRecDepth 100000 in
theorem w_lad2_12 {p : Program} {l : Launch} {e : Env} {s : State} {m : MethodId} {args : Array Value} {below : List Frame} {meth : Method} {c : Code} {g : wG} {Q : State → Prop} {y : (Nat → Nat → Int32) × (Nat → Int64) × (Nat → UInt64)} {bs : Nat} (w : Int32) (h : Int32) (X : LX p l s m args c cL_ladder 8 g)
    (fin : FN p l e rmD s m args below meth c g y Q 22 (ch_lad2_13 w h) 8 [(7, .int (11 + (30 * (rmd w h)))), (6, .int (if ((rmd w h) + 1) < 4 then ((rmd w h) + 1) else 4)), (5, .int (rmd w h)), (4, .int (sm4 w h)), (3, .int h), (2, .int w), (1, .ref (gA g 0)), (0, .ref bs)] 400 5073 857) : FN p l e rmD s m args below meth c g y Q 22 (ch_lad2_12 w h) 8 [(7, .int (11 + (30 * (rmd w h)))), (6, .int (if ((rmd w h) + 1) < 4 then ((rmd w h) + 1) else 4)), (5, .int (rmd w h)), (4, .int (sm4 w h)), (3, .int h), (2, .int w), (1, .ref (gA g 0)), (0, .ref bs)] 394 5042 839 := by
  intro S B H locs ls hV hw hr hl
  obtain ⟨n9, m9, ne9, n8, m8, hN, hN1, hev, hne, hne2⟩ := hV.cnt
  obtain ⟨-, hoz, hr⟩ := cQ_e hr
  obtain ⟨he, hr⟩ := cX_e hr
  have hoz := okzB_e hoz
  refine lv_aload_n X.1.1 X.1.2.1 dL_ladder_839 rfl (lv_at hl 6 rfl) ?_
  refine lv_bipush (v := (nI 89)) X.1.1 X.1.2.1 dL_ladder_840 (by decide +kernel) ?_
  refine lv_iconst (v := 1) X.1.1 X.1.2.1 dL_ladder_842 (by decide) ?_
  refine k_newv (n := 1) (N := 1) X.1 X.2.2.1 hw q_ai (by decide) (by decide) (by decide) (Nat.le_of_ble_eq_true rfl) (Nat.le_of_ble_eq_true rfl) dL_ladder_843 (fun b H hv => ?_)
  refine lv_dup X.1.1 X.1.2.1 dL_ladder_845 rfl ?_
  refine lv_iconst (v := 0) X.1.1 X.1.2.1 dL_ladder_846 (by decide) ?_
  refine lv_iconst (v := 0) X.1.1 X.1.2.1 dL_ladder_847 (by decide) ?_
  refine k_vst (v := 0) (n := 0) X.1 X.2.2.1 hv (vp_in_nI (n := 0) (by decide) (by decide)) (by decide) dL_ladder_848 (fun H locs hv => ?_)
  refine sX X (mA_isAccepted l g X.2.2.2 S B y (upd (fun _ => 0) 0 0) 0 rfl _ _ hN hoz) hv hl dL_ladder_849 ⟨Nat.le_of_ble_eq_true rfl, Nat.le_of_ble_eq_true rfl⟩ ⟨Nat.le_of_ble_eq_true rfl, Nat.le_of_ble_eq_true rfl⟩ he kX_5 (fun H locs hw => ?_)
  refine lv_ldc (v := (-2000000005)) X.1.1 X.1.2.1 X.1.2.2.1 (X.1.2.2.2 _ q905) dL_ladder_852 ?_
  refine lv_icmp_ne (tgt := 1029) X.1.1 X.1.2.1 dL_ladder_854 (by decide) (fun h9 => absurd rfl h9) (fun _ => ?_)
  refine W.widen (k := 400) (n := 5073) (Nat.le_of_ble_eq_true rfl) (Nat.le_of_ble_eq_true rfl) ?_
  exact fin _ _ _ _ _ hV hw hr hl
set_option maxHeartbeats 4000000 in
set_option maxRecDepth 100000 in
theorem w_lad2_13 {p : Program} {l : Launch} {e : Env} {s : State} {m : MethodId} {args : Array Value} {below : List Frame} {meth : Method} {c : Code} {g : wG} {Q : State → Prop} {y : (Nat → Nat → Int32) × (Nat → Int64) × (Nat → UInt64)} {bs : Nat} (w : Int32) (h : Int32) (X : LX p l s m args c cL_ladder 8 g)
    (fin : FN p l e rmD s m args below meth c g y Q 23 (ch_lad2_14 w h) 8 [(7, .int (11 + (30 * (rmd w h)))), (6, .int (if ((rmd w h) + 1) < 4 then ((rmd w h) + 1) else 4)), (5, .int (rmd w h)), (4, .int (sm4 w h)), (3, .int h), (2, .int w), (1, .ref (gA g 0)), (0, .ref bs)] 406 5105 885) : FN p l e rmD s m args below meth c g y Q 22 (ch_lad2_13 w h) 8 [(7, .int (11 + (30 * (rmd w h)))), (6, .int (if ((rmd w h) + 1) < 4 then ((rmd w h) + 1) else 4)), (5, .int (rmd w h)), (4, .int (sm4 w h)), (3, .int h), (2, .int w), (1, .ref (gA g 0)), (0, .ref bs)] 400 5073 857 := by
  intro S B H locs ls hV hw hr hl
  obtain ⟨n9, m9, ne9, n8, m8, hN, hN1, hev, hne, hne2⟩ := hV.cnt
  obtain ⟨he, hq, hz, hr⟩ := cC_e hr
  refine lv_aload_n X.1.1 X.1.2.1 dL_ladder_857 rfl (lv_at hl 6 rfl) ?_
  refine lv_bipush (v := (nI 121)) X.1.1 X.1.2.1 dL_ladder_858 (by decide +kernel) ?_
  refine lv_iconst (v := 2) X.1.1 X.1.2.1 dL_ladder_860 (by decide) ?_
  refine k_newv (n := 2) (N := 2) X.1 X.2.2.1 hw q_ai (by decide) (by decide) (by decide) (Nat.le_of_ble_eq_true rfl) (Nat.le_of_ble_eq_true rfl) dL_ladder_861 (fun b H hv => ?_)
  refine lv_dup X.1.1 X.1.2.1 dL_ladder_863 rfl ?_
  refine lv_iconst (v := 0) X.1.1 X.1.2.1 dL_ladder_864 (by decide) ?_
  refine lv_iconst (v := 0) X.1.1 X.1.2.1 dL_ladder_865 (by decide) ?_
  refine k_vst (v := 0) (n := 0) X.1 X.2.2.1 hv (vp_in_nI (n := 0) (by decide) (by decide)) (by decide) dL_ladder_866 (fun H locs hv => ?_)
  refine lv_dup X.1.1 X.1.2.1 dL_ladder_867 rfl ?_
  refine lv_iconst (v := 1) X.1.1 X.1.2.1 dL_ladder_868 (by decide) ?_
  refine lv_iconst (v := 1) X.1.1 X.1.2.1 dL_ladder_869 (by decide) ?_
  refine k_vst (v := 1) (n := 1) X.1 X.2.2.1 hv (vp_in_nI (n := 1) (by decide) (by decide)) (by decide) dL_ladder_870 (fun H locs hv => ?_)
  refine sN X (mA_accept l g X.2.2.2 S B y (upd (upd (fun _ => 0) 0 0) 1 1) 0 1 rfl rfl _ _ hN hev (Or.inr rfl)) hv hl dL_ladder_871 ⟨Nat.le_of_ble_eq_true rfl, Nat.le_of_ble_eq_true rfl⟩ ⟨Nat.le_of_ble_eq_true rfl, Nat.le_of_ble_eq_true rfl⟩ he (fun H locs hw => ?_)
  have hV := hV.ev (by decide) (fa_accept he) hz
  have hw := hw.nrmW
  refine vn_ (v9 := ((11 + (30 * (rmd w h))) + (30 * (if ((rmd w h) + 1) < 4 then ((rmd w h) + 1) else 4)))) (vIs_e hq) ?_
  refine lv_iload X.1.1 X.1.2.1 dL_ladder_874 (lv_at hl 0 rfl) ?_
  refine lv_bipush (v := 30) X.1.1 X.1.2.1 dL_ladder_876 (by decide +kernel) ?_
  refine lv_iload X.1.1 X.1.2.1 dL_ladder_878 (lv_at hl 1 rfl) ?_
  refine lv_imul X.1.1 X.1.2.1 dL_ladder_880 ?_
  refine lv_iadd X.1.1 X.1.2.1 dL_ladder_881 ?_
  refine lv_icmp_ne (tgt := 1029) X.1.1 X.1.2.1 dL_ladder_882 (by decide) (fun h9 => absurd rfl h9) (fun _ => ?_)
  refine W.widen (k := 406) (n := 5105) (Nat.le_of_ble_eq_true rfl) (Nat.le_of_ble_eq_true rfl) ?_
  exact fin _ _ _ _ _ hV hw hr hl
set_option maxHeartbeats 4000000 in
set_option maxRecDepth 100000 in
theorem w_lad2_14 {p : Program} {l : Launch} {e : Env} {s : State} {m : MethodId} {args : Array Value} {below : List Frame} {meth : Method} {c : Code} {g : wG} {Q : State → Prop} {y : (Nat → Nat → Int32) × (Nat → Int64) × (Nat → UInt64)} {bs : Nat} (w : Int32) (h : Int32) (X : LX p l s m args c cL_ladder 8 g)
    (fin : FN p l e rmD s m args below meth c g y Q 23 (ch_lad2_15 w h) 8 [(7, .int (11 + (30 * (rmd w h)))), (6, .int (if ((rmd w h) + 1) < 4 then ((rmd w h) + 1) else 4)), (5, .int (rmd w h)), (4, .int (sm4 w h)), (3, .int h), (2, .int w), (1, .ref (gA g 0)), (0, .ref bs)] 412 5136 902) : FN p l e rmD s m args below meth c g y Q 23 (ch_lad2_14 w h) 8 [(7, .int (11 + (30 * (rmd w h)))), (6, .int (if ((rmd w h) + 1) < 4 then ((rmd w h) + 1) else 4)), (5, .int (rmd w h)), (4, .int (sm4 w h)), (3, .int h), (2, .int w), (1, .ref (gA g 0)), (0, .ref bs)] 406 5105 885 := by
  intro S B H locs ls hV hw hr hl
  obtain ⟨n9, m9, ne9, n8, m8, hN, hN1, hev, hne, hne2⟩ := hV.cnt
  obtain ⟨he, hq, hr⟩ := cQ_e hr
  obtain ⟨hoz, hq⟩ := and_e hq
  have hoz := okzB_e hoz
  refine lv_aload_n X.1.1 X.1.2.1 dL_ladder_885 rfl (lv_at hl 6 rfl) ?_
  refine lv_bipush (v := (nI 89)) X.1.1 X.1.2.1 dL_ladder_886 (by decide +kernel) ?_
  refine lv_iconst (v := 1) X.1.1 X.1.2.1 dL_ladder_888 (by decide) ?_
  refine k_newv (n := 1) (N := 1) X.1 X.2.2.1 hw q_ai (by decide) (by decide) (by decide) (Nat.le_of_ble_eq_true rfl) (Nat.le_of_ble_eq_true rfl) dL_ladder_889 (fun b H hv => ?_)
  refine lv_dup X.1.1 X.1.2.1 dL_ladder_891 rfl ?_
  refine lv_iconst (v := 0) X.1.1 X.1.2.1 dL_ladder_892 (by decide) ?_
  refine lv_iconst (v := 0) X.1.1 X.1.2.1 dL_ladder_893 (by decide) ?_
  refine k_vst (v := 0) (n := 0) X.1 X.2.2.1 hv (vp_in_nI (n := 0) (by decide) (by decide)) (by decide) dL_ladder_894 (fun H locs hv => ?_)
  refine sN X (mA_isAccepted l g X.2.2.2 S B y (upd (fun _ => 0) 0 0) 0 rfl _ _ hN hoz) hv hl dL_ladder_895 ⟨Nat.le_of_ble_eq_true rfl, Nat.le_of_ble_eq_true rfl⟩ ⟨Nat.le_of_ble_eq_true rfl, Nat.le_of_ble_eq_true rfl⟩ he (fun H locs hw => ?_)
  refine vn_ (v9 := 1) (vIs_e hq) ?_
  refine lv_iconst (v := 1) X.1.1 X.1.2.1 dL_ladder_898 (by decide) ?_
  refine lv_icmp_ne (tgt := 1029) X.1.1 X.1.2.1 dL_ladder_899 (by decide) (fun h9 => absurd rfl h9) (fun _ => ?_)
  refine W.widen (k := 412) (n := 5136) (Nat.le_of_ble_eq_true rfl) (Nat.le_of_ble_eq_true rfl) ?_
  exact fin _ _ _ _ _ hV hw hr hl
set_option maxHeartbeats 4000000 in
set_option maxRecDepth 100000 in
theorem w_lad2_15 {p : Program} {l : Launch} {e : Env} {s : State} {m : MethodId} {args : Array Value} {below : List Frame} {meth : Method} {c : Code} {g : wG} {Q : State → Prop} {y : (Nat → Nat → Int32) × (Nat → Int64) × (Nat → UInt64)} {bs : Nat} (w : Int32) (h : Int32) (X : LX p l s m args c cL_ladder 8 g)
    (fin : FN p l e rmD s m args below meth c g y Q 24 (ch_lad2_16 w h) 8 [(7, .int (11 + (30 * (rmd w h)))), (6, .int (if ((rmd w h) + 1) < 4 then ((rmd w h) + 1) else 4)), (5, .int (rmd w h)), (4, .int (sm4 w h)), (3, .int h), (2, .int w), (1, .ref (gA g 0)), (0, .ref bs)] 418 5167 924) : FN p l e rmD s m args below meth c g y Q 23 (ch_lad2_15 w h) 8 [(7, .int (11 + (30 * (rmd w h)))), (6, .int (if ((rmd w h) + 1) < 4 then ((rmd w h) + 1) else 4)), (5, .int (rmd w h)), (4, .int (sm4 w h)), (3, .int h), (2, .int w), (1, .ref (gA g 0)), (0, .ref bs)] 412 5136 902 := by
  intro S B H locs ls hV hw hr hl
  obtain ⟨n9, m9, ne9, n8, m8, hN, hN1, hev, hne, hne2⟩ := hV.cnt
  obtain ⟨he, hq, hz, hr⟩ := cC_e hr
  refine lv_aload_n X.1.1 X.1.2.1 dL_ladder_902 rfl (lv_at hl 6 rfl) ?_
  refine lv_bipush (v := (nI 112)) X.1.1 X.1.2.1 dL_ladder_903 (by decide +kernel) ?_
  refine lv_iconst (v := 1) X.1.1 X.1.2.1 dL_ladder_905 (by decide) ?_
  refine k_newv (n := 1) (N := 1) X.1 X.2.2.1 hw q_ai (by decide) (by decide) (by decide) (Nat.le_of_ble_eq_true rfl) (Nat.le_of_ble_eq_true rfl) dL_ladder_906 (fun b H hv => ?_)
  refine lv_dup X.1.1 X.1.2.1 dL_ladder_908 rfl ?_
  refine lv_iconst (v := 0) X.1.1 X.1.2.1 dL_ladder_909 (by decide) ?_
  refine lv_iconst (v := 1) X.1.1 X.1.2.1 dL_ladder_910 (by decide) ?_
  refine lv_bipush (v := 30) X.1.1 X.1.2.1 dL_ladder_911 (by decide +kernel) ?_
  refine lv_iload X.1.1 X.1.2.1 dL_ladder_913 (lv_at hl 1 rfl) ?_
  refine lv_imul X.1.1 X.1.2.1 dL_ladder_915 ?_
  refine lv_iadd X.1.1 X.1.2.1 dL_ladder_916 ?_
  refine k_vst (v := (1 + (30 * (if ((rmd w h) + 1) < 4 then ((rmd w h) + 1) else 4)))) (n := 0) X.1 X.2.2.1 hv (vp_in_nI (n := 0) (by decide) (by decide)) (by decide) dL_ladder_917 (fun H locs hv => ?_)
  refine sN X (mA_pass l g X.2.2.2 S B y (upd (fun _ => 0) 0 (1 + (30 * (if ((rmd w h) + 1) < 4 then ((rmd w h) + 1) else 4)))) (1 + (30 * (if ((rmd w h) + 1) < 4 then ((rmd w h) + 1) else 4))) rfl _ _ hN hev) hv hl dL_ladder_918 ⟨Nat.le_of_ble_eq_true rfl, Nat.le_of_ble_eq_true rfl⟩ ⟨Nat.le_of_ble_eq_true rfl, Nat.le_of_ble_eq_true rfl⟩ he (fun H locs hw => ?_)
  have hV := hV.ev (by decide) (fa_pass he) hz
  have hw := hw.nrmW
  refine lv_if_lt (tgt := 1029) X.1.1 X.1.2.1 dL_ladder_921 (by decide) (fun h9 => absurd h9 (vNn_e hq)) (fun _ => ?_)
  refine W.widen (k := 418) (n := 5167) (Nat.le_of_ble_eq_true rfl) (Nat.le_of_ble_eq_true rfl) ?_
  exact fin _ _ _ _ _ hV hw hr hl
set_option maxHeartbeats 4000000 in
set_option maxRecDepth 100000 in
theorem w_lad2_16 {p : Program} {l : Launch} {e : Env} {s : State} {m : MethodId} {args : Array Value} {below : List Frame} {meth : Method} {c : Code} {g : wG} {Q : State → Prop} {y : (Nat → Nat → Int32) × (Nat → Int64) × (Nat → UInt64)} {bs : Nat} (w : Int32) (h : Int32) (X : LX p l s m args c cL_ladder 8 g)
    (fin : FN p l e rmD s m args below meth c g y Q 25 (ch_lad2_17 w h) 8 [(7, .int (11 + (30 * (rmd w h)))), (6, .int (if ((rmd w h) + 1) < 4 then ((rmd w h) + 1) else 4)), (5, .int (rmd w h)), (4, .int (sm4 w h)), (3, .int h), (2, .int w), (1, .ref (gA g 0)), (0, .ref bs)] 424 5198 940) : FN p l e rmD s m args below meth c g y Q 24 (ch_lad2_16 w h) 8 [(7, .int (11 + (30 * (rmd w h)))), (6, .int (if ((rmd w h) + 1) < 4 then ((rmd w h) + 1) else 4)), (5, .int (rmd w h)), (4, .int (sm4 w h)), (3, .int h), (2, .int w), (1, .ref (gA g 0)), (0, .ref bs)] 418 5167 924 := by
  intro S B H locs ls hV hw hr hl
  obtain ⟨n9, m9, ne9, n8, m8, hN, hN1, hev, hne, hne2⟩ := hV.cnt
  obtain ⟨he, hq, hz, hr⟩ := cC_e hr
  refine lv_aload_n X.1.1 X.1.2.1 dL_ladder_924 rfl (lv_at hl 6 rfl) ?_
  refine lv_bipush (v := (nI 70)) X.1.1 X.1.2.1 dL_ladder_925 (by decide +kernel) ?_
  refine lv_iconst (v := 1) X.1.1 X.1.2.1 dL_ladder_927 (by decide) ?_
  refine k_newv (n := 1) (N := 1) X.1 X.2.2.1 hw q_ai (by decide) (by decide) (by decide) (Nat.le_of_ble_eq_true rfl) (Nat.le_of_ble_eq_true rfl) dL_ladder_928 (fun b H hv => ?_)
  refine lv_dup X.1.1 X.1.2.1 dL_ladder_930 rfl ?_
  refine lv_iconst (v := 0) X.1.1 X.1.2.1 dL_ladder_931 (by decide) ?_
  refine lv_iconst (v := 0) X.1.1 X.1.2.1 dL_ladder_932 (by decide) ?_
  refine k_vst (v := 0) (n := 0) X.1 X.2.2.1 hv (vp_in_nI (n := 0) (by decide) (by decide)) (by decide) dL_ladder_933 (fun H locs hv => ?_)
  refine sN X (mA_followUp l g X.2.2.2 S B y (upd (fun _ => 0) 0 0) 0 rfl _ _ hN hev) hv hl dL_ladder_934 ⟨Nat.le_of_ble_eq_true rfl, Nat.le_of_ble_eq_true rfl⟩ ⟨Nat.le_of_ble_eq_true rfl, Nat.le_of_ble_eq_true rfl⟩ he (fun H locs hw => ?_)
  have hV := hV.ev (by decide) (fa_followUp he) hz
  have hw := hw.nrmW
  refine vn_ (v9 := 0) (vIs_e hq) ?_
  refine lv_if_ne (tgt := 1029) X.1.1 X.1.2.1 dL_ladder_937 (by decide) (fun h9 => absurd rfl h9) (fun _ => ?_)
  refine W.widen (k := 424) (n := 5198) (Nat.le_of_ble_eq_true rfl) (Nat.le_of_ble_eq_true rfl) ?_
  exact fin _ _ _ _ _ hV hw hr hl
set_option maxHeartbeats 4000000 in
set_option maxRecDepth 100000 in
theorem w_lad2_17 {p : Program} {l : Launch} {e : Env} {s : State} {m : MethodId} {args : Array Value} {below : List Frame} {meth : Method} {c : Code} {g : wG} {Q : State → Prop} {y : (Nat → Nat → Int32) × (Nat → Int64) × (Nat → UInt64)} {bs : Nat} (w : Int32) (h : Int32) (X : LX p l s m args c cL_ladder 8 g)
    (fin : FN p l e rmD s m args below meth c g y Q 25 (ch_lad2_18 w h) 8 [(7, .int (11 + (30 * (rmd w h)))), (6, .int (if ((rmd w h) + 1) < 4 then ((rmd w h) + 1) else 4)), (5, .int (rmd w h)), (4, .int (sm4 w h)), (3, .int h), (2, .int w), (1, .ref (gA g 0)), (0, .ref bs)] 430 5229 958) : FN p l e rmD s m args below meth c g y Q 25 (ch_lad2_17 w h) 8 [(7, .int (11 + (30 * (rmd w h)))), (6, .int (if ((rmd w h) + 1) < 4 then ((rmd w h) + 1) else 4)), (5, .int (rmd w h)), (4, .int (sm4 w h)), (3, .int h), (2, .int w), (1, .ref (gA g 0)), (0, .ref bs)] 424 5198 940 := by
  intro S B H locs ls hV hw hr hl
  obtain ⟨n9, m9, ne9, n8, m8, hN, hN1, hev, hne, hne2⟩ := hV.cnt
  obtain ⟨he, hq, hr⟩ := cQ_e hr
  refine lv_aload_n X.1.1 X.1.2.1 dL_ladder_940 rfl (lv_at hl 6 rfl) ?_
  refine lv_bipush (v := (nI 115)) X.1.1 X.1.2.1 dL_ladder_941 (by decide +kernel) ?_
  refine lv_iconst (v := 1) X.1.1 X.1.2.1 dL_ladder_943 (by decide) ?_
  refine k_newv (n := 1) (N := 1) X.1 X.2.2.1 hw q_ai (by decide) (by decide) (by decide) (Nat.le_of_ble_eq_true rfl) (Nat.le_of_ble_eq_true rfl) dL_ladder_944 (fun b H hv => ?_)
  refine lv_dup X.1.1 X.1.2.1 dL_ladder_946 rfl ?_
  refine lv_iconst (v := 0) X.1.1 X.1.2.1 dL_ladder_947 (by decide) ?_
  refine lv_iconst (v := 0) X.1.1 X.1.2.1 dL_ladder_948 (by decide) ?_
  refine k_vst (v := 0) (n := 0) X.1 X.2.2.1 hv (vp_in_nI (n := 0) (by decide) (by decide)) (by decide) dL_ladder_949 (fun H locs hv => ?_)
  refine sN X (mA_state l g X.2.2.2 S B y (upd (fun _ => 0) 0 0) 0 rfl _ _ hN) hv hl dL_ladder_950 ⟨Nat.le_of_ble_eq_true rfl, Nat.le_of_ble_eq_true rfl⟩ ⟨Nat.le_of_ble_eq_true rfl, Nat.le_of_ble_eq_true rfl⟩ he (fun H locs hw => ?_)
  refine vn_ (v9 := 105) (vIs_e hq) ?_
  refine lv_bipush (v := 105) X.1.1 X.1.2.1 dL_ladder_953 (by decide +kernel) ?_
  refine lv_icmp_ne (tgt := 1029) X.1.1 X.1.2.1 dL_ladder_955 (by decide) (fun h9 => absurd rfl h9) (fun _ => ?_)
  refine W.widen (k := 430) (n := 5229) (Nat.le_of_ble_eq_true rfl) (Nat.le_of_ble_eq_true rfl) ?_
  exact fin _ _ _ _ _ hV hw hr hl
set_option maxHeartbeats 4000000 in
set_option maxRecDepth 100000 in
theorem w_lad2_18 {p : Program} {l : Launch} {e : Env} {s : State} {m : MethodId} {args : Array Value} {below : List Frame} {meth : Method} {c : Code} {g : wG} {Q : State → Prop} {y : (Nat → Nat → Int32) × (Nat → Int64) × (Nat → UInt64)} {bs : Nat} (w : Int32) (h : Int32) (X : LX p l s m args c cL_ladder 8 g)
    (fin : FN p l e rmD s m args below meth c g y Q 25 (ch_lad2_19 w h) 8 [(7, .int (11 + (30 * (rmd w h)))), (6, .int (if ((rmd w h) + 1) < 4 then ((rmd w h) + 1) else 4)), (5, .int (rmd w h)), (4, .int (sm4 w h)), (3, .int h), (2, .int w), (1, .ref (gA g 0)), (0, .ref bs)] 436 5260 976) : FN p l e rmD s m args below meth c g y Q 25 (ch_lad2_18 w h) 8 [(7, .int (11 + (30 * (rmd w h)))), (6, .int (if ((rmd w h) + 1) < 4 then ((rmd w h) + 1) else 4)), (5, .int (rmd w h)), (4, .int (sm4 w h)), (3, .int h), (2, .int w), (1, .ref (gA g 0)), (0, .ref bs)] 430 5229 958 := by
  intro S B H locs ls hV hw hr hl
  obtain ⟨n9, m9, ne9, n8, m8, hN, hN1, hev, hne, hne2⟩ := hV.cnt
  obtain ⟨he, hq, hr⟩ := cQ_e hr
  refine lv_aload_n X.1.1 X.1.2.1 dL_ladder_958 rfl (lv_at hl 6 rfl) ?_
  refine lv_bipush (v := (nI 82)) X.1.1 X.1.2.1 dL_ladder_959 (by decide +kernel) ?_
  refine lv_iconst (v := 1) X.1.1 X.1.2.1 dL_ladder_961 (by decide) ?_
  refine k_newv (n := 1) (N := 1) X.1 X.2.2.1 hw q_ai (by decide) (by decide) (by decide) (Nat.le_of_ble_eq_true rfl) (Nat.le_of_ble_eq_true rfl) dL_ladder_962 (fun b H hv => ?_)
  refine lv_dup X.1.1 X.1.2.1 dL_ladder_964 rfl ?_
  refine lv_iconst (v := 0) X.1.1 X.1.2.1 dL_ladder_965 (by decide) ?_
  refine lv_iconst (v := 0) X.1.1 X.1.2.1 dL_ladder_966 (by decide) ?_
  refine k_vst (v := 0) (n := 0) X.1 X.2.2.1 hv (vp_in_nI (n := 0) (by decide) (by decide)) (by decide) dL_ladder_967 (fun H locs hv => ?_)
  refine sN X (mA_remedy l g X.2.2.2 S B y (upd (fun _ => 0) 0 0) 0 rfl _ _ hN) hv hl dL_ladder_968 ⟨Nat.le_of_ble_eq_true rfl, Nat.le_of_ble_eq_true rfl⟩ ⟨Nat.le_of_ble_eq_true rfl, Nat.le_of_ble_eq_true rfl⟩ he (fun H locs hw => ?_)
  refine vn_ (v9 := (if ((rmd w h) + 1) < 4 then ((rmd w h) + 1) else 4)) (vIs_e hq) ?_
  refine lv_iload X.1.1 X.1.2.1 dL_ladder_971 (lv_at hl 1 rfl) ?_
  refine lv_icmp_ne (tgt := 1029) X.1.1 X.1.2.1 dL_ladder_973 (by decide) (fun h9 => absurd rfl h9) (fun _ => ?_)
  refine W.widen (k := 436) (n := 5260) (Nat.le_of_ble_eq_true rfl) (Nat.le_of_ble_eq_true rfl) ?_
  exact fin _ _ _ _ _ hV hw hr hl
set_option maxHeartbeats 4000000 in
set_option maxRecDepth 100000 in
theorem w_lad2_19 {p : Program} {l : Launch} {e : Env} {s : State} {m : MethodId} {args : Array Value} {below : List Frame} {meth : Method} {c : Code} {g : wG} {Q : State → Prop} {y : (Nat → Nat → Int32) × (Nat → Int64) × (Nat → UInt64)} {bs : Nat} (w : Int32) (h : Int32) (X : LX p l s m args c cL_ladder 8 g)
    (fin : FN p l e rmD s m args below meth c g y Q 25 (ch_lad2_20 w h) 8 [(7, .int (11 + (30 * (rmd w h)))), (6, .int (if ((rmd w h) + 1) < 4 then ((rmd w h) + 1) else 4)), (5, .int (rmd w h)), (4, .int (sm4 w h)), (3, .int h), (2, .int w), (1, .ref (gA g 0)), (0, .ref bs)] 442 5291 994) : FN p l e rmD s m args below meth c g y Q 25 (ch_lad2_19 w h) 8 [(7, .int (11 + (30 * (rmd w h)))), (6, .int (if ((rmd w h) + 1) < 4 then ((rmd w h) + 1) else 4)), (5, .int (rmd w h)), (4, .int (sm4 w h)), (3, .int h), (2, .int w), (1, .ref (gA g 0)), (0, .ref bs)] 436 5260 976 := by
  intro S B H locs ls hV hw hr hl
  obtain ⟨n9, m9, ne9, n8, m8, hN, hN1, hev, hne, hne2⟩ := hV.cnt
  obtain ⟨he, hr⟩ := cX_e hr
  refine lv_aload_n X.1.1 X.1.2.1 dL_ladder_976 rfl (lv_at hl 6 rfl) ?_
  refine lv_bipush (v := (nI 70)) X.1.1 X.1.2.1 dL_ladder_977 (by decide +kernel) ?_
  refine lv_iconst (v := 1) X.1.1 X.1.2.1 dL_ladder_979 (by decide) ?_
  refine k_newv (n := 1) (N := 1) X.1 X.2.2.1 hw q_ai (by decide) (by decide) (by decide) (Nat.le_of_ble_eq_true rfl) (Nat.le_of_ble_eq_true rfl) dL_ladder_980 (fun b H hv => ?_)
  refine lv_dup X.1.1 X.1.2.1 dL_ladder_982 rfl ?_
  refine lv_iconst (v := 0) X.1.1 X.1.2.1 dL_ladder_983 (by decide) ?_
  refine lv_iconst (v := 0) X.1.1 X.1.2.1 dL_ladder_984 (by decide) ?_
  refine k_vst (v := 0) (n := 0) X.1 X.2.2.1 hv (vp_in_nI (n := 0) (by decide) (by decide)) (by decide) dL_ladder_985 (fun H locs hv => ?_)
  refine sX X (mA_followUp l g X.2.2.2 S B y (upd (fun _ => 0) 0 0) 0 rfl _ _ hN hev) hv hl dL_ladder_986 ⟨Nat.le_of_ble_eq_true rfl, Nat.le_of_ble_eq_true rfl⟩ ⟨Nat.le_of_ble_eq_true rfl, Nat.le_of_ble_eq_true rfl⟩ he kX_4 (fun H locs hw => ?_)
  refine lv_ldc (v := (-2000000004)) X.1.1 X.1.2.1 X.1.2.2.1 (X.1.2.2.2 _ q904) dL_ladder_989 ?_
  refine lv_icmp_ne (tgt := 1029) X.1.1 X.1.2.1 dL_ladder_991 (by decide) (fun h9 => absurd rfl h9) (fun _ => ?_)
  refine W.widen (k := 442) (n := 5291) (Nat.le_of_ble_eq_true rfl) (Nat.le_of_ble_eq_true rfl) ?_
  exact fin _ _ _ _ _ hV hw hr hl
set_option maxHeartbeats 4000000 in
set_option maxRecDepth 100000 in
theorem w_lad2_20 {p : Program} {l : Launch} {e : Env} {s : State} {m : MethodId} {args : Array Value} {below : List Frame} {meth : Method} {c : Code} {g : wG} {Q : State → Prop} {y : (Nat → Nat → Int32) × (Nat → Int64) × (Nat → UInt64)} {bs : Nat} (w : Int32) (h : Int32) (X : LX p l s m args c cL_ladder 8 g)
    (fin : FN p l e rmD s m args below meth c g y Q 25 (ch_lad2_21 w h) 8 [(7, .int (11 + (30 * (rmd w h)))), (6, .int (if ((rmd w h) + 1) < 4 then ((rmd w h) + 1) else 4)), (5, .int (rmd w h)), (4, .int (sm4 w h)), (3, .int h), (2, .int w), (1, .ref (gA g 0)), (0, .ref bs)] 448 5322 1012) : FN p l e rmD s m args below meth c g y Q 25 (ch_lad2_20 w h) 8 [(7, .int (11 + (30 * (rmd w h)))), (6, .int (if ((rmd w h) + 1) < 4 then ((rmd w h) + 1) else 4)), (5, .int (rmd w h)), (4, .int (sm4 w h)), (3, .int h), (2, .int w), (1, .ref (gA g 0)), (0, .ref bs)] 442 5291 994 := by
  intro S B H locs ls hV hw hr hl
  obtain ⟨n9, m9, ne9, n8, m8, hN, hN1, hev, hne, hne2⟩ := hV.cnt
  obtain ⟨he, hr⟩ := cX_e hr
  refine lv_aload_n X.1.1 X.1.2.1 dL_ladder_994 rfl (lv_at hl 6 rfl) ?_
  refine lv_bipush (v := (nI 87)) X.1.1 X.1.2.1 dL_ladder_995 (by decide +kernel) ?_
  refine lv_iconst (v := 1) X.1.1 X.1.2.1 dL_ladder_997 (by decide) ?_
  refine k_newv (n := 1) (N := 1) X.1 X.2.2.1 hw q_ai (by decide) (by decide) (by decide) (Nat.le_of_ble_eq_true rfl) (Nat.le_of_ble_eq_true rfl) dL_ladder_998 (fun b H hv => ?_)
  refine lv_dup X.1.1 X.1.2.1 dL_ladder_1000 rfl ?_
  refine lv_iconst (v := 0) X.1.1 X.1.2.1 dL_ladder_1001 (by decide) ?_
  refine lv_iconst (v := 0) X.1.1 X.1.2.1 dL_ladder_1002 (by decide) ?_
  refine k_vst (v := 0) (n := 0) X.1 X.2.2.1 hv (vp_in_nI (n := 0) (by decide) (by decide)) (by decide) dL_ladder_1003 (fun H locs hv => ?_)
  refine sX X (mA_withdraw l g X.2.2.2 S B y (upd (fun _ => 0) 0 0) 0 rfl _ _ hN hev) hv hl dL_ladder_1004 ⟨Nat.le_of_ble_eq_true rfl, Nat.le_of_ble_eq_true rfl⟩ ⟨Nat.le_of_ble_eq_true rfl, Nat.le_of_ble_eq_true rfl⟩ he kX_4 (fun H locs hw => ?_)
  refine lv_ldc (v := (-2000000004)) X.1.1 X.1.2.1 X.1.2.2.1 (X.1.2.2.2 _ q904) dL_ladder_1007 ?_
  refine lv_icmp_ne (tgt := 1029) X.1.1 X.1.2.1 dL_ladder_1009 (by decide) (fun h9 => absurd rfl h9) (fun _ => ?_)
  refine W.widen (k := 448) (n := 5322) (Nat.le_of_ble_eq_true rfl) (Nat.le_of_ble_eq_true rfl) ?_
  exact fin _ _ _ _ _ hV hw hr hl
set_option maxHeartbeats 4000000 in
set_option maxRecDepth 100000 in
theorem w_lad2_21 {p : Program} {l : Launch} {e : Env} {s : State} {m : MethodId} {args : Array Value} {below : List Frame} {meth : Method} {c : Code} {g : wG} {Q : State → Prop} {y : (Nat → Nat → Int32) × (Nat → Int64) × (Nat → UInt64)} {bs : Nat} (w : Int32) (h : Int32) (X : LX p l s m args c cL_ladder 8 g)
    (fin : FN p l e rmD s m args below meth c g y Q 26 (ch_lad2_22 w h) 8 [(7, .int (11 + (30 * (rmd w h)))), (6, .int (if ((rmd w h) + 1) < 4 then ((rmd w h) + 1) else 4)), (5, .int (rmd w h)), (4, .int (sm4 w h)), (3, .int h), (2, .int w), (1, .ref (gA g 0)), (0, .ref bs)] 454 5353 1031) : FN p l e rmD s m args below meth c g y Q 25 (ch_lad2_21 w h) 8 [(7, .int (11 + (30 * (rmd w h)))), (6, .int (if ((rmd w h) + 1) < 4 then ((rmd w h) + 1) else 4)), (5, .int (rmd w h)), (4, .int (sm4 w h)), (3, .int h), (2, .int w), (1, .ref (gA g 0)), (0, .ref bs)] 448 5322 1012 := by
  intro S B H locs ls hV hw hr hl
  obtain ⟨n9, m9, ne9, n8, m8, hN, hN1, hev, hne, hne2⟩ := hV.cnt
  obtain ⟨he, hq, hz, hr⟩ := cC_e hr
  refine lv_aload_n X.1.1 X.1.2.1 dL_ladder_1012 rfl (lv_at hl 6 rfl) ?_
  refine lv_bipush (v := (nI 112)) X.1.1 X.1.2.1 dL_ladder_1013 (by decide +kernel) ?_
  refine lv_iconst (v := 1) X.1.1 X.1.2.1 dL_ladder_1015 (by decide) ?_
  refine k_newv (n := 1) (N := 1) X.1 X.2.2.1 hw q_ai (by decide) (by decide) (by decide) (Nat.le_of_ble_eq_true rfl) (Nat.le_of_ble_eq_true rfl) dL_ladder_1016 (fun b H hv => ?_)
  refine lv_dup X.1.1 X.1.2.1 dL_ladder_1018 rfl ?_
  refine lv_iconst (v := 0) X.1.1 X.1.2.1 dL_ladder_1019 (by decide) ?_
  refine lv_bipush (v := 9) X.1.1 X.1.2.1 dL_ladder_1020 (by decide +kernel) ?_
  refine k_vst (v := 9) (n := 0) X.1 X.2.2.1 hv (vp_in_nI (n := 0) (by decide) (by decide)) (by decide) dL_ladder_1022 (fun H locs hv => ?_)
  refine sN X (mA_pass l g X.2.2.2 S B y (upd (fun _ => 0) 0 9) 9 rfl _ _ hN hev) hv hl dL_ladder_1023 ⟨Nat.le_of_ble_eq_true rfl, Nat.le_of_ble_eq_true rfl⟩ ⟨Nat.le_of_ble_eq_true rfl, Nat.le_of_ble_eq_true rfl⟩ he (fun H locs hw => ?_)
  have hV := hV.ev (by decide) (fa_pass he) hz
  have hw := hw.nrmW
  refine lv_if_ge (tgt := 1031) X.1.1 X.1.2.1 dL_ladder_1026 (by decide) (fun _ => ?_) (fun h9 => absurd (i32_ge_of h9) (vNn_e hq))
  refine W.widen (k := 454) (n := 5353) (Nat.le_of_ble_eq_true rfl) (Nat.le_of_ble_eq_true rfl) ?_
  exact fin _ _ _ _ _ hV hw hr hl
set_option maxHeartbeats 4000000 in
set_option maxRecDepth 100000 in
theorem w_lad2_22 {p : Program} {l : Launch} {e : Env} {s : State} {m : MethodId} {args : Array Value} {below : List Frame} {meth : Method} {c : Code} {g : wG} {Q : State → Prop} {y : (Nat → Nat → Int32) × (Nat → Int64) × (Nat → UInt64)} {bs : Nat} (w : Int32) (h : Int32) (X : LX p l s m args c cL_ladder 8 g)
    (fin : FN p l e rmD s m args below meth c g y Q 26 (ch_lad2_23 w h) 8 [(7, .int (11 + (30 * (rmd w h)))), (6, .int (if ((rmd w h) + 1) < 4 then ((rmd w h) + 1) else 4)), (5, .int (rmd w h)), (4, .int (sm4 w h)), (3, .int h), (2, .int w), (1, .ref (gA g 0)), (0, .ref bs)] 460 5384 1060) : FN p l e rmD s m args below meth c g y Q 26 (ch_lad2_22 w h) 8 [(7, .int (11 + (30 * (rmd w h)))), (6, .int (if ((rmd w h) + 1) < 4 then ((rmd w h) + 1) else 4)), (5, .int (rmd w h)), (4, .int (sm4 w h)), (3, .int h), (2, .int w), (1, .ref (gA g 0)), (0, .ref bs)] 454 5353 1031 := by
  intro S B H locs ls hV hw hr hl
  obtain ⟨n9, m9, ne9, n8, m8, hN, hN1, hev, hne, hne2⟩ := hV.cnt
  obtain ⟨he, hq, hr⟩ := cQ_e hr
  refine lv_aload_n X.1.1 X.1.2.1 dL_ladder_1031 rfl (lv_at hl 6 rfl) ?_
  refine lv_bipush (v := (nI 100)) X.1.1 X.1.2.1 dL_ladder_1032 (by decide +kernel) ?_
  refine lv_iconst (v := 1) X.1.1 X.1.2.1 dL_ladder_1034 (by decide) ?_
  refine k_newv (n := 1) (N := 1) X.1 X.2.2.1 hw q_ai (by decide) (by decide) (by decide) (Nat.le_of_ble_eq_true rfl) (Nat.le_of_ble_eq_true rfl) dL_ladder_1035 (fun b H hv => ?_)
  refine lv_dup X.1.1 X.1.2.1 dL_ladder_1037 rfl ?_
  refine lv_iconst (v := 0) X.1.1 X.1.2.1 dL_ladder_1038 (by decide) ?_
  refine lv_iconst (v := 0) X.1.1 X.1.2.1 dL_ladder_1039 (by decide) ?_
  refine k_vst (v := 0) (n := 0) X.1 X.2.2.1 hv (vp_in_nI (n := 0) (by decide) (by decide)) (by decide) dL_ladder_1040 (fun H locs hv => ?_)
  refine sN X (mA_days l g X.2.2.2 S B y (upd (fun _ => 0) 0 0) 0 rfl _ _ hN) hv hl dL_ladder_1041 ⟨Nat.le_of_ble_eq_true rfl, Nat.le_of_ble_eq_true rfl⟩ ⟨Nat.le_of_ble_eq_true rfl, Nat.le_of_ble_eq_true rfl⟩ he (fun H locs hw => ?_)
  refine vn_ (v9 := ((((11 + (30 * (rmd w h))) + 1) + (30 * (if ((rmd w h) + 1) < 4 then ((rmd w h) + 1) else 4))) - 7)) (vIs_e hq) ?_
  refine lv_iload X.1.1 X.1.2.1 dL_ladder_1044 (lv_at hl 0 rfl) ?_
  refine lv_iconst (v := 1) X.1.1 X.1.2.1 dL_ladder_1046 (by decide) ?_
  refine lv_iadd X.1.1 X.1.2.1 dL_ladder_1047 ?_
  refine lv_bipush (v := 30) X.1.1 X.1.2.1 dL_ladder_1048 (by decide +kernel) ?_
  refine lv_iload X.1.1 X.1.2.1 dL_ladder_1050 (lv_at hl 1 rfl) ?_
  refine lv_imul X.1.1 X.1.2.1 dL_ladder_1052 ?_
  refine lv_iadd X.1.1 X.1.2.1 dL_ladder_1053 ?_
  refine lv_bipush (v := 7) X.1.1 X.1.2.1 dL_ladder_1054 (by decide +kernel) ?_
  refine lv_isub X.1.1 X.1.2.1 dL_ladder_1056 ?_
  refine lv_icmp_ne (tgt := 1121) X.1.1 X.1.2.1 dL_ladder_1057 (by decide) (fun h9 => absurd rfl h9) (fun _ => ?_)
  refine W.widen (k := 460) (n := 5384) (Nat.le_of_ble_eq_true rfl) (Nat.le_of_ble_eq_true rfl) ?_
  exact fin _ _ _ _ _ hV hw hr hl
set_option maxHeartbeats 4000000 in
set_option maxRecDepth 100000 in
theorem w_lad2_23 {p : Program} {l : Launch} {e : Env} {s : State} {m : MethodId} {args : Array Value} {below : List Frame} {meth : Method} {c : Code} {g : wG} {Q : State → Prop} {y : (Nat → Nat → Int32) × (Nat → Int64) × (Nat → UInt64)} {bs : Nat} (w : Int32) (h : Int32) (X : LX p l s m args c cL_ladder 8 g)
    (fin : FN p l e rmD s m args below meth c g y Q 26 (ch_lad2_24 w h) 8 [(7, .int (11 + (30 * (rmd w h)))), (6, .int (if ((rmd w h) + 1) < 4 then ((rmd w h) + 1) else 4)), (5, .int (rmd w h)), (4, .int (sm4 w h)), (3, .int h), (2, .int w), (1, .ref (gA g 0)), (0, .ref bs)] 465 5414 1082) : FN p l e rmD s m args below meth c g y Q 26 (ch_lad2_23 w h) 8 [(7, .int (11 + (30 * (rmd w h)))), (6, .int (if ((rmd w h) + 1) < 4 then ((rmd w h) + 1) else 4)), (5, .int (rmd w h)), (4, .int (sm4 w h)), (3, .int h), (2, .int w), (1, .ref (gA g 0)), (0, .ref bs)] 460 5384 1060 := by
  intro S B H locs ls hV hw hr hl
  obtain ⟨n9, m9, ne9, n8, m8, hN, hN1, hev, hne, hne2⟩ := hV.cnt
  obtain ⟨he, hq, hr⟩ := cQ_e hr
  refine lv_aload_n X.1.1 X.1.2.1 dL_ladder_1060 rfl (lv_at hl 6 rfl) ?_
  refine sD X hN hw hl dL_ladder_1061 ⟨Nat.le_of_ble_eq_true rfl, Nat.le_of_ble_eq_true rfl⟩ ⟨Nat.le_of_ble_eq_true rfl, Nat.le_of_ble_eq_true rfl⟩ he (fun H locs hw => ?_)
  refine lv_iload X.1.1 X.1.2.1 dL_ladder_1064 (lv_at hl 0 rfl) ?_
  refine lv_iconst (v := 1) X.1.1 X.1.2.1 dL_ladder_1066 (by decide) ?_
  refine lv_iadd X.1.1 X.1.2.1 dL_ladder_1067 ?_
  refine lv_bipush (v := 30) X.1.1 X.1.2.1 dL_ladder_1068 (by decide +kernel) ?_
  refine lv_iload X.1.1 X.1.2.1 dL_ladder_1070 (lv_at hl 1 rfl) ?_
  refine lv_imul X.1.1 X.1.2.1 dL_ladder_1072 ?_
  refine lv_iadd X.1.1 X.1.2.1 dL_ladder_1073 ?_
  refine lv_bipush (v := 7) X.1.1 X.1.2.1 dL_ladder_1074 (by decide +kernel) ?_
  refine lv_isub X.1.1 X.1.2.1 dL_ladder_1076 ?_
  refine lv_i2d X.1.1 X.1.2.1 dL_ladder_1077 ?_
  refine lv_dcmp X.1.1 X.1.2.1 dL_ladder_1078 ?_
  refine vn_ (v9 := 0) (vIs_e hq) ?_
  refine lv_if_ne (tgt := 1121) X.1.1 X.1.2.1 dL_ladder_1079 (by decide) (fun h9 => absurd rfl h9) (fun _ => ?_)
  refine W.widen (k := 465) (n := 5414) (Nat.le_of_ble_eq_true rfl) (Nat.le_of_ble_eq_true rfl) ?_
  exact fin _ _ _ _ _ hV hw hr hl
set_option maxHeartbeats 4000000 in
set_option maxRecDepth 100000 in
theorem w_lad2_24 {p : Program} {l : Launch} {e : Env} {s : State} {m : MethodId} {args : Array Value} {below : List Frame} {meth : Method} {c : Code} {g : wG} {Q : State → Prop} {y : (Nat → Nat → Int32) × (Nat → Int64) × (Nat → UInt64)} {bs : Nat} (w : Int32) (h : Int32) (X : LX p l s m args c cL_ladder 8 g)
    (fin : FN p l e rmD s m args below meth c g y Q 26 (ch_lad2_25 w h) 8 [(7, .int (11 + (30 * (rmd w h)))), (6, .int (if ((rmd w h) + 1) < 4 then ((rmd w h) + 1) else 4)), (5, .int (rmd w h)), (4, .int (sm4 w h)), (3, .int h), (2, .int w), (1, .ref (gA g 0)), (0, .ref bs)] 470 5444 1092) : FN p l e rmD s m args below meth c g y Q 26 (ch_lad2_24 w h) 8 [(7, .int (11 + (30 * (rmd w h)))), (6, .int (if ((rmd w h) + 1) < 4 then ((rmd w h) + 1) else 4)), (5, .int (rmd w h)), (4, .int (sm4 w h)), (3, .int h), (2, .int w), (1, .ref (gA g 0)), (0, .ref bs)] 465 5414 1082 := by
  intro S B H locs ls hV hw hr hl
  obtain ⟨n9, m9, ne9, n8, m8, hN, hN1, hev, hne, hne2⟩ := hV.cnt
  obtain ⟨he, hq, hr⟩ := cQ_e hr
  refine lv_aload_n X.1.1 X.1.2.1 dL_ladder_1082 rfl (lv_at hl 6 rfl) ?_
  refine lv_iconst (v := 0) X.1.1 X.1.2.1 dL_ladder_1083 (by decide) ?_
  refine sF X hN hw hl dL_ladder_1084 ⟨Nat.le_of_ble_eq_true rfl, Nat.le_of_ble_eq_true rfl⟩ ⟨Nat.le_of_ble_eq_true rfl, Nat.le_of_ble_eq_true rfl⟩ he (fun H locs hw => ?_)
  refine lv_fconst0 X.1.1 X.1.2.1 dL_ladder_1087 ?_
  refine lv_fcmp X.1.1 X.1.2.1 dL_ladder_1088 ?_
  refine vn_ (v9 := 0) (vIs_e hq) ?_
  refine lv_if_ne (tgt := 1121) X.1.1 X.1.2.1 dL_ladder_1089 (by decide) (fun h9 => absurd rfl h9) (fun _ => ?_)
  refine W.widen (k := 470) (n := 5444) (Nat.le_of_ble_eq_true rfl) (Nat.le_of_ble_eq_true rfl) ?_
  exact fin _ _ _ _ _ hV hw hr hl
set_option maxHeartbeats 4000000 in
set_option maxRecDepth 100000 in
theorem w_lad2_25 {p : Program} {l : Launch} {e : Env} {s : State} {m : MethodId} {args : Array Value} {below : List Frame} {meth : Method} {c : Code} {g : wG} {Q : State → Prop} {y : (Nat → Nat → Int32) × (Nat → Int64) × (Nat → UInt64)} {bs : Nat} (w : Int32) (h : Int32) (X : LX p l s m args c cL_ladder 8 g)
    (fin : FN p l e rmD s m args below meth c g y Q 26 (ch_lad2_26 w h) 8 [(7, .int (11 + (30 * (rmd w h)))), (6, .int (if ((rmd w h) + 1) < 4 then ((rmd w h) + 1) else 4)), (5, .int (rmd w h)), (4, .int (sm4 w h)), (3, .int h), (2, .int w), (1, .ref (gA g 0)), (0, .ref bs)] 476 5475 1110) : FN p l e rmD s m args below meth c g y Q 26 (ch_lad2_25 w h) 8 [(7, .int (11 + (30 * (rmd w h)))), (6, .int (if ((rmd w h) + 1) < 4 then ((rmd w h) + 1) else 4)), (5, .int (rmd w h)), (4, .int (sm4 w h)), (3, .int h), (2, .int w), (1, .ref (gA g 0)), (0, .ref bs)] 470 5444 1092 := by
  intro S B H locs ls hV hw hr hl
  obtain ⟨n9, m9, ne9, n8, m8, hN, hN1, hev, hne, hne2⟩ := hV.cnt
  obtain ⟨he, hq, hr⟩ := cQ_e hr
  refine lv_aload_n X.1.1 X.1.2.1 dL_ladder_1092 rfl (lv_at hl 6 rfl) ?_
  refine lv_bipush (v := (nI 78)) X.1.1 X.1.2.1 dL_ladder_1093 (by decide +kernel) ?_
  refine lv_iconst (v := 1) X.1.1 X.1.2.1 dL_ladder_1095 (by decide) ?_
  refine k_newv (n := 1) (N := 1) X.1 X.2.2.1 hw q_ai (by decide) (by decide) (by decide) (Nat.le_of_ble_eq_true rfl) (Nat.le_of_ble_eq_true rfl) dL_ladder_1096 (fun b H hv => ?_)
  refine lv_dup X.1.1 X.1.2.1 dL_ladder_1098 rfl ?_
  refine lv_iconst (v := 0) X.1.1 X.1.2.1 dL_ladder_1099 (by decide) ?_
  refine lv_bipush (v := 105) X.1.1 X.1.2.1 dL_ladder_1100 (by decide +kernel) ?_
  refine k_vst (v := 105) (n := 0) X.1 X.2.2.1 hv (vp_in_nI (n := 0) (by decide) (by decide)) (by decide) dL_ladder_1102 (fun H locs hv => ?_)
  refine sN X (mA_countState l g X.2.2.2 S B y (upd (fun _ => 0) 0 105) 105 rfl _ _ hN) hv hl dL_ladder_1103 ⟨Nat.le_of_ble_eq_true rfl, Nat.le_of_ble_eq_true rfl⟩ ⟨Nat.le_of_ble_eq_true rfl, Nat.le_of_ble_eq_true rfl⟩ he (fun H locs hw => ?_)
  refine vn_ (v9 := 1) (vIs_e hq) ?_
  refine lv_iconst (v := 1) X.1.1 X.1.2.1 dL_ladder_1106 (by decide) ?_
  refine lv_icmp_ne (tgt := 1121) X.1.1 X.1.2.1 dL_ladder_1107 (by decide) (fun h9 => absurd rfl h9) (fun _ => ?_)
  refine W.widen (k := 476) (n := 5475) (Nat.le_of_ble_eq_true rfl) (Nat.le_of_ble_eq_true rfl) ?_
  exact fin _ _ _ _ _ hV hw hr hl
set_option maxHeartbeats 4000000 in
set_option maxRecDepth 100000 in
theorem w_lad2_26 {p : Program} {l : Launch} {e : Env} {s : State} {m : MethodId} {args : Array Value} {below : List Frame} {meth : Method} {c : Code} {g : wG} {Q : State → Prop} {y : (Nat → Nat → Int32) × (Nat → Int64) × (Nat → UInt64)} {bs : Nat} (w : Int32) (h : Int32) (X : LX p l s m args c cL_ladder 8 g)
    (fin : FN p l e rmD s m args below meth c g y Q 26 (ch_lad2_27 w h) 8 [(7, .int (11 + (30 * (rmd w h)))), (6, .int (if ((rmd w h) + 1) < 4 then ((rmd w h) + 1) else 4)), (5, .int (rmd w h)), (4, .int (sm4 w h)), (3, .int h), (2, .int w), (1, .ref (gA g 0)), (0, .ref bs)] 476 5475 1117) : FN p l e rmD s m args below meth c g y Q 26 (ch_lad2_26 w h) 8 [(7, .int (11 + (30 * (rmd w h)))), (6, .int (if ((rmd w h) + 1) < 4 then ((rmd w h) + 1) else 4)), (5, .int (rmd w h)), (4, .int (sm4 w h)), (3, .int h), (2, .int w), (1, .ref (gA g 0)), (0, .ref bs)] 476 5475 1110 := by
  intro S B H locs ls hV hw hr hl
  obtain ⟨n9, m9, ne9, n8, m8, hN, hN1, hev, hne, hne2⟩ := hV.cnt
  obtain ⟨-, hq, hr⟩ := cQ_e hr
  refine lv_aload_n X.1.1 X.1.2.1 dL_ladder_1110 rfl (lv_at hl 6 rfl) ?_
  refine sZ X hV (vIs_e hq) hw hl dL_ladder_1111 ⟨Nat.le_of_ble_eq_true rfl, Nat.le_of_ble_eq_true rfl⟩ ⟨Nat.le_of_ble_eq_true rfl, Nat.le_of_ble_eq_true rfl⟩ (fun S H locs hV hw => ?_)
  refine lv_if_eq (tgt := 1121) X.1.1 X.1.2.1 dL_ladder_1114 (by decide) (fun h9 => absurd h9 (by decide)) (fun _ => ?_)
  refine W.widen (k := 476) (n := 5475) (Nat.le_of_ble_eq_true rfl) (Nat.le_of_ble_eq_true rfl) ?_
  exact fin _ _ _ _ _ hV hw hr hl
set_option maxHeartbeats 4000000 in
set_option maxRecDepth 100000 in
theorem w_lad2 {p : Program} {l : Launch} {e : Env} {s : State} {m : MethodId} {args : Array Value} {below : List Frame} {meth : Method} {c : Code} {g : wG} {Q : State → Prop} {y : (Nat → Nat → Int32) × (Nat → Int64) × (Nat → UInt64)} {bs : Nat} (w : Int32) (h : Int32) (X : LX p l s m args c cL_ladder 8 g)
    (fin : FN p l e rmD s m args below meth c g y Q 26 (ch_lad2_27 w h) 8 [(7, .int (11 + (30 * (rmd w h)))), (6, .int (if ((rmd w h) + 1) < 4 then ((rmd w h) + 1) else 4)), (5, .int (rmd w h)), (4, .int (sm4 w h)), (3, .int h), (2, .int w), (1, .ref (gA g 0)), (0, .ref bs)] 476 5475 1117) : FN p l e rmD s m args below meth c g y Q 18 (ch_lad2_0 w h) 8 [(6, .int 5), (5, .int (rmd w h)), (4, .int (sm4 w h)), (3, .int h), (2, .int w), (1, .ref (gA g 0)), (0, .ref bs)] 323 4669 585 :=
  w_lad2_0 w h X (w_lad2_1 w h X (w_lad2_2 w h X (w_lad2_3 w h X (w_lad2_4 w h X (w_lad2_5 w h X (w_lad2_6 w h X (w_lad2_7 w h X (w_lad2_8 w h X (w_lad2_9 w h X (w_lad2_10 w h X (w_lad2_11 w h X (w_lad2_12 w h X (w_lad2_13 w h X (w_lad2_14 w h X (w_lad2_15 w h X (w_lad2_16 w h X (w_lad2_17 w h X (w_lad2_18 w h X (w_lad2_19 w h X (w_lad2_20 w h X (w_lad2_21 w h X (w_lad2_22 w h X (w_lad2_23 w h X (w_lad2_24 w h X (w_lad2_25 w h X (w_lad2_26 w h X (fin)))))))))))))))))))))))))))
