/-! the law, call by call: ful -/
set_option maxHeartbeats 4000000 in
set_option maxRecDepth 100000 in
theorem w_ful_0 {p : Program} {l : Launch} {e : Env} {s : State} {m : MethodId} {args : Array Value} {below : List Frame} {meth : Method} {c : Code} {g : wG} {Q : State → Prop} {y : (Nat → Nat → Int32) × (Nat → Int64) × (Nat → UInt64)} (X : LX p l s m args c cL_full 2 g)
    (fin : FN p l e rmD s m args below meth c g y Q 1 (ch_ful_1) 2 [(1, .int 0), (0, .ref (gA g 0))] 149 3759 46) : FN p l e rmD s m args below meth c g y Q 0 (ch_ful_0) 2 [(0, .ref (gA g 0))] 143 3727 8 := by
  intro S B H locs ls hV hw hr hl
  obtain ⟨n9, m9, ne9, n8, m8, hN, hN1, hev, hne, hne2⟩ := hV.cnt
  obtain ⟨he, hq, hz, hr⟩ := cC_e hr
  refine lv_iconst (v := 0) X.1.1 X.1.2.1 dL_full_8 (by decide) ?_
  refine lv_istore_n (lv' := [(1, .int 0), (0, .ref (gA g 0))]) X.1.1 X.1.2.1 dL_full_9 rfl hl (by decide) rfl (fun ls hl => ?_)
  refine lv_iload_n X.1.1 X.1.2.1 dL_full_10 rfl (lv_at hl 0 rfl) ?_
  refine lv_bipush (v := 20) X.1.1 X.1.2.1 dL_full_11 (by decide +kernel) ?_
  refine lv_icmp_ge (tgt := 85) X.1.1 X.1.2.1 dL_full_13 (by decide) (fun h9 => absurd h9 (by decide)) (fun _ => ?_)
  refine lv_iload_n X.1.1 X.1.2.1 dL_full_16 rfl (lv_at hl 0 rfl) ?_
  refine lv_bipush (v := 6) X.1.1 X.1.2.1 dL_full_17 (by decide +kernel) ?_
  refine lv_icmp_ge (tgt := 46) X.1.1 X.1.2.1 dL_full_19 (by decide) (fun h9 => absurd h9 (by decide)) (fun _ => ?_)
  refine lv_aload_n X.1.1 X.1.2.1 dL_full_22 rfl (lv_at hl 1 rfl) ?_
  refine lv_bipush (v := (nI 79)) X.1.1 X.1.2.1 dL_full_23 (by decide +kernel) ?_
  refine lv_iconst (v := 2) X.1.1 X.1.2.1 dL_full_25 (by decide) ?_
  refine k_newv (n := 2) (N := 2) X.1 X.2.2.1 hw q_ai (by decide) (by decide) (by decide) (Nat.le_of_ble_eq_true rfl) (Nat.le_of_ble_eq_true rfl) dL_full_26 (fun b H hv => ?_)
  refine lv_dup X.1.1 X.1.2.1 dL_full_28 rfl ?_
  refine lv_iconst (v := 0) X.1.1 X.1.2.1 dL_full_29 (by decide) ?_
  refine lv_bipush (v := 60) X.1.1 X.1.2.1 dL_full_30 (by decide +kernel) ?_
  refine k_vst (v := 60) (n := 0) X.1 X.2.2.1 hv (vp_in_nI (n := 0) (by decide) (by decide)) (by decide) dL_full_32 (fun H locs hv => ?_)
  refine lv_dup X.1.1 X.1.2.1 dL_full_33 rfl ?_
  refine lv_iconst (v := 1) X.1.1 X.1.2.1 dL_full_34 (by decide) ?_
  refine lv_sipush (v := 1023) X.1.1 X.1.2.1 dL_full_35 (by decide +kernel) ?_
  refine k_vst (v := 1023) (n := 1) X.1 X.2.2.1 hv (vp_in_nI (n := 1) (by decide) (by decide)) (by decide) dL_full_38 (fun H locs hv => ?_)
  refine sN X (mA_addOffice l g X.2.2.2 S B y (upd (upd (fun _ => 0) 0 60) 1 1023) 60 1023 rfl rfl _ _ hN hev) hv hl dL_full_39 ⟨Nat.le_of_ble_eq_true rfl, Nat.le_of_ble_eq_true rfl⟩ ⟨Nat.le_of_ble_eq_true rfl, Nat.le_of_ble_eq_true rfl⟩ he (fun H locs hw => ?_)
  have hV := hV.ev (by decide) (fa_addOffice he) hz
  have hw := hw.nrmW
  refine vn_ (v9 := 0) (vIs_e hq) ?_
  refine lv_iload_n X.1.1 X.1.2.1 dL_full_42 rfl (lv_at hl 0 rfl) ?_
  refine lv_icmp_ne (tgt := 77) X.1.1 X.1.2.1 dL_full_43 (by decide) (fun h9 => absurd rfl h9) (fun _ => ?_)
  refine W.widen (k := 149) (n := 3759) (Nat.le_of_ble_eq_true rfl) (Nat.le_of_ble_eq_true rfl) ?_
  exact fin _ _ _ _ _ hV hw hr hl
set_option maxHeartbeats 4000000 in
set_option maxRecDepth 100000 in
theorem w_ful_1 {p : Program} {l : Launch} {e : Env} {s : State} {m : MethodId} {args : Array Value} {below : List Frame} {meth : Method} {c : Code} {g : wG} {Q : State → Prop} {y : (Nat → Nat → Int32) × (Nat → Int64) × (Nat → UInt64)} (X : LX p l s m args c cL_full 2 g)
    (fin : FN p l e rmD s m args below meth c g y Q 2 (ch_ful_2) 2 [(1, .int 0), (0, .ref (gA g 0))] 155 3793 79) : FN p l e rmD s m args below meth c g y Q 1 (ch_ful_1) 2 [(1, .int 0), (0, .ref (gA g 0))] 149 3759 46 := by
  intro S B H locs ls hV hw hr hl
  obtain ⟨n9, m9, ne9, n8, m8, hN, hN1, hev, hne, hne2⟩ := hV.cnt
  obtain ⟨he, hq, hz, hr⟩ := cC_e hr
  refine lv_aload_n X.1.1 X.1.2.1 dL_full_46 rfl (lv_at hl 1 rfl) ?_
  refine lv_bipush (v := (nI 99)) X.1.1 X.1.2.1 dL_full_47 (by decide +kernel) ?_
  refine lv_iconst (v := 4) X.1.1 X.1.2.1 dL_full_49 (by decide) ?_
  refine k_newv (n := 4) (N := 4) X.1 X.2.2.1 hw q_ai (by decide) (by decide) (by decide) (Nat.le_of_ble_eq_true rfl) (Nat.le_of_ble_eq_true rfl) dL_full_50 (fun b H hv => ?_)
  refine lv_dup X.1.1 X.1.2.1 dL_full_52 rfl ?_
  refine lv_iconst (v := 0) X.1.1 X.1.2.1 dL_full_53 (by decide) ?_
  refine lv_iconst (v := 0) X.1.1 X.1.2.1 dL_full_54 (by decide) ?_
  refine k_vst (v := 0) (n := 0) X.1 X.2.2.1 hv (vp_in_nI (n := 0) (by decide) (by decide)) (by decide) dL_full_55 (fun H locs hv => ?_)
  refine lv_dup X.1.1 X.1.2.1 dL_full_56 rfl ?_
  refine lv_iconst (v := 1) X.1.1 X.1.2.1 dL_full_57 (by decide) ?_
  refine lv_bipush (v := 9) X.1.1 X.1.2.1 dL_full_58 (by decide +kernel) ?_
  refine k_vst (v := 9) (n := 1) X.1 X.2.2.1 hv (vp_in_nI (n := 1) (by decide) (by decide)) (by decide) dL_full_60 (fun H locs hv => ?_)
  refine lv_dup X.1.1 X.1.2.1 dL_full_61 rfl ?_
  refine lv_iconst (v := 2) X.1.1 X.1.2.1 dL_full_62 (by decide) ?_
  refine lv_bipush (v := 49) X.1.1 X.1.2.1 dL_full_63 (by decide +kernel) ?_
  refine k_vst (v := 49) (n := 2) X.1 X.2.2.1 hv (vp_in_nI (n := 2) (by decide) (by decide)) (by decide) dL_full_65 (fun H locs hv => ?_)
  refine lv_dup X.1.1 X.1.2.1 dL_full_66 rfl ?_
  refine lv_iconst (v := 3) X.1.1 X.1.2.1 dL_full_67 (by decide) ?_
  refine lv_iconst (v := 0) X.1.1 X.1.2.1 dL_full_68 (by decide) ?_
  refine k_vst (v := 0) (n := 3) X.1 X.2.2.1 hv (vp_in_nI (n := 3) (by decide) (by decide)) (by decide) dL_full_69 (fun H locs hv => ?_)
  refine sN X (mA_complain l g X.2.2.2 S B y (upd (upd (upd (upd (fun _ => 0) 0 0) 1 9) 2 49) 3 0) 0 9 49 0 rfl rfl rfl rfl _ _ hN hev) hv hl dL_full_70 ⟨Nat.le_of_ble_eq_true rfl, Nat.le_of_ble_eq_true rfl⟩ ⟨Nat.le_of_ble_eq_true rfl, Nat.le_of_ble_eq_true rfl⟩ he (fun H locs hw => ?_)
  have hV := hV.ev (by decide) (fa_complain he) hz
  have hw := hw.nrmW
  refine vn_ (v9 := 0) (vIs_e hq) ?_
  refine lv_iload_n X.1.1 X.1.2.1 dL_full_73 rfl (lv_at hl 0 rfl) ?_
  refine lv_icmp_eq (tgt := 79) X.1.1 X.1.2.1 dL_full_74 (by decide) (fun _ => ?_) (fun h9 => absurd rfl h9)
  refine W.widen (k := 155) (n := 3793) (Nat.le_of_ble_eq_true rfl) (Nat.le_of_ble_eq_true rfl) ?_
  exact fin _ _ _ _ _ hV hw hr hl
set_option maxHeartbeats 4000000 in
set_option maxRecDepth 100000 in
theorem w_ful_2 {p : Program} {l : Launch} {e : Env} {s : State} {m : MethodId} {args : Array Value} {below : List Frame} {meth : Method} {c : Code} {g : wG} {Q : State → Prop} {y : (Nat → Nat → Int32) × (Nat → Int64) × (Nat → UInt64)} (X : LX p l s m args c cL_full 2 g)
    (fin : FN p l e rmD s m args below meth c g y Q 3 (ch_ful_3) 2 [(1, .int 1), (0, .ref (gA g 0))] 161 3825 46) : FN p l e rmD s m args below meth c g y Q 2 (ch_ful_2) 2 [(1, .int 0), (0, .ref (gA g 0))] 155 3793 79 := by
  intro S B H locs ls hV hw hr hl
  obtain ⟨n9, m9, ne9, n8, m8, hN, hN1, hev, hne, hne2⟩ := hV.cnt
  obtain ⟨he, hq, hz, hr⟩ := cC_e hr
  refine lv_iinc (v := 1) (lv' := [(1, .int 1), (0, .ref (gA g 0))]) X.1.1 X.1.2.1 dL_full_79 hl (k := 0) rfl (by decide) (by decide) rfl (fun ls hl => ?_)
  refine lv_goto (tgt := 10) X.1.1 X.1.2.1 dL_full_82 (by decide) ?_
  refine lv_iload_n X.1.1 X.1.2.1 dL_full_10 rfl (lv_at hl 0 rfl) ?_
  refine lv_bipush (v := 20) X.1.1 X.1.2.1 dL_full_11 (by decide +kernel) ?_
  refine lv_icmp_ge (tgt := 85) X.1.1 X.1.2.1 dL_full_13 (by decide) (fun h9 => absurd h9 (by decide)) (fun _ => ?_)
  refine lv_iload_n X.1.1 X.1.2.1 dL_full_16 rfl (lv_at hl 0 rfl) ?_
  refine lv_bipush (v := 6) X.1.1 X.1.2.1 dL_full_17 (by decide +kernel) ?_
  refine lv_icmp_ge (tgt := 46) X.1.1 X.1.2.1 dL_full_19 (by decide) (fun h9 => absurd h9 (by decide)) (fun _ => ?_)
  refine lv_aload_n X.1.1 X.1.2.1 dL_full_22 rfl (lv_at hl 1 rfl) ?_
  refine lv_bipush (v := (nI 79)) X.1.1 X.1.2.1 dL_full_23 (by decide +kernel) ?_
  refine lv_iconst (v := 2) X.1.1 X.1.2.1 dL_full_25 (by decide) ?_
  refine k_newv (n := 2) (N := 2) X.1 X.2.2.1 hw q_ai (by decide) (by decide) (by decide) (Nat.le_of_ble_eq_true rfl) (Nat.le_of_ble_eq_true rfl) dL_full_26 (fun b H hv => ?_)
  refine lv_dup X.1.1 X.1.2.1 dL_full_28 rfl ?_
  refine lv_iconst (v := 0) X.1.1 X.1.2.1 dL_full_29 (by decide) ?_
  refine lv_bipush (v := 60) X.1.1 X.1.2.1 dL_full_30 (by decide +kernel) ?_
  refine k_vst (v := 60) (n := 0) X.1 X.2.2.1 hv (vp_in_nI (n := 0) (by decide) (by decide)) (by decide) dL_full_32 (fun H locs hv => ?_)
  refine lv_dup X.1.1 X.1.2.1 dL_full_33 rfl ?_
  refine lv_iconst (v := 1) X.1.1 X.1.2.1 dL_full_34 (by decide) ?_
  refine lv_sipush (v := 1023) X.1.1 X.1.2.1 dL_full_35 (by decide +kernel) ?_
  refine k_vst (v := 1023) (n := 1) X.1 X.2.2.1 hv (vp_in_nI (n := 1) (by decide) (by decide)) (by decide) dL_full_38 (fun H locs hv => ?_)
  refine sN X (mA_addOffice l g X.2.2.2 S B y (upd (upd (fun _ => 0) 0 60) 1 1023) 60 1023 rfl rfl _ _ hN hev) hv hl dL_full_39 ⟨Nat.le_of_ble_eq_true rfl, Nat.le_of_ble_eq_true rfl⟩ ⟨Nat.le_of_ble_eq_true rfl, Nat.le_of_ble_eq_true rfl⟩ he (fun H locs hw => ?_)
  have hV := hV.ev (by decide) (fa_addOffice he) hz
  have hw := hw.nrmW
  refine vn_ (v9 := 1) (vIs_e hq) ?_
  refine lv_iload_n X.1.1 X.1.2.1 dL_full_42 rfl (lv_at hl 0 rfl) ?_
  refine lv_icmp_ne (tgt := 77) X.1.1 X.1.2.1 dL_full_43 (by decide) (fun h9 => absurd rfl h9) (fun _ => ?_)
  refine W.widen (k := 161) (n := 3825) (Nat.le_of_ble_eq_true rfl) (Nat.le_of_ble_eq_true rfl) ?_
  exact fin _ _ _ _ _ hV hw hr hl
set_option maxHeartbeats 4000000 in
set_option maxRecDepth 100000 in
theorem w_ful_3 {p : Program} {l : Launch} {e : Env} {s : State} {m : MethodId} {args : Array Value} {below : List Frame} {meth : Method} {c : Code} {g : wG} {Q : State → Prop} {y : (Nat → Nat → Int32) × (Nat → Int64) × (Nat → UInt64)} (X : LX p l s m args c cL_full 2 g)
    (fin : FN p l e rmD s m args below meth c g y Q 4 (ch_ful_4) 2 [(1, .int 1), (0, .ref (gA g 0))] 167 3859 79) : FN p l e rmD s m args below meth c g y Q 3 (ch_ful_3) 2 [(1, .int 1), (0, .ref (gA g 0))] 161 3825 46 := by
  intro S B H locs ls hV hw hr hl
  obtain ⟨n9, m9, ne9, n8, m8, hN, hN1, hev, hne, hne2⟩ := hV.cnt
  obtain ⟨he, hq, hz, hr⟩ := cC_e hr
  refine lv_aload_n X.1.1 X.1.2.1 dL_full_46 rfl (lv_at hl 1 rfl) ?_
  refine lv_bipush (v := (nI 99)) X.1.1 X.1.2.1 dL_full_47 (by decide +kernel) ?_
  refine lv_iconst (v := 4) X.1.1 X.1.2.1 dL_full_49 (by decide) ?_
  refine k_newv (n := 4) (N := 4) X.1 X.2.2.1 hw q_ai (by decide) (by decide) (by decide) (Nat.le_of_ble_eq_true rfl) (Nat.le_of_ble_eq_true rfl) dL_full_50 (fun b H hv => ?_)
  refine lv_dup X.1.1 X.1.2.1 dL_full_52 rfl ?_
  refine lv_iconst (v := 0) X.1.1 X.1.2.1 dL_full_53 (by decide) ?_
  refine lv_iconst (v := 0) X.1.1 X.1.2.1 dL_full_54 (by decide) ?_
  refine k_vst (v := 0) (n := 0) X.1 X.2.2.1 hv (vp_in_nI (n := 0) (by decide) (by decide)) (by decide) dL_full_55 (fun H locs hv => ?_)
  refine lv_dup X.1.1 X.1.2.1 dL_full_56 rfl ?_
  refine lv_iconst (v := 1) X.1.1 X.1.2.1 dL_full_57 (by decide) ?_
  refine lv_bipush (v := 9) X.1.1 X.1.2.1 dL_full_58 (by decide +kernel) ?_
  refine k_vst (v := 9) (n := 1) X.1 X.2.2.1 hv (vp_in_nI (n := 1) (by decide) (by decide)) (by decide) dL_full_60 (fun H locs hv => ?_)
  refine lv_dup X.1.1 X.1.2.1 dL_full_61 rfl ?_
  refine lv_iconst (v := 2) X.1.1 X.1.2.1 dL_full_62 (by decide) ?_
  refine lv_bipush (v := 49) X.1.1 X.1.2.1 dL_full_63 (by decide +kernel) ?_
  refine k_vst (v := 49) (n := 2) X.1 X.2.2.1 hv (vp_in_nI (n := 2) (by decide) (by decide)) (by decide) dL_full_65 (fun H locs hv => ?_)
  refine lv_dup X.1.1 X.1.2.1 dL_full_66 rfl ?_
  refine lv_iconst (v := 3) X.1.1 X.1.2.1 dL_full_67 (by decide) ?_
  refine lv_iconst (v := 0) X.1.1 X.1.2.1 dL_full_68 (by decide) ?_
  refine k_vst (v := 0) (n := 3) X.1 X.2.2.1 hv (vp_in_nI (n := 3) (by decide) (by decide)) (by decide) dL_full_69 (fun H locs hv => ?_)
  refine sN X (mA_complain l g X.2.2.2 S B y (upd (upd (upd (upd (fun _ => 0) 0 0) 1 9) 2 49) 3 0) 0 9 49 0 rfl rfl rfl rfl _ _ hN hev) hv hl dL_full_70 ⟨Nat.le_of_ble_eq_true rfl, Nat.le_of_ble_eq_true rfl⟩ ⟨Nat.le_of_ble_eq_true rfl, Nat.le_of_ble_eq_true rfl⟩ he (fun H locs hw => ?_)
  have hV := hV.ev (by decide) (fa_complain he) hz
  have hw := hw.nrmW
  refine vn_ (v9 := 1) (vIs_e hq) ?_
  refine lv_iload_n X.1.1 X.1.2.1 dL_full_73 rfl (lv_at hl 0 rfl) ?_
  refine lv_icmp_eq (tgt := 79) X.1.1 X.1.2.1 dL_full_74 (by decide) (fun _ => ?_) (fun h9 => absurd rfl h9)
  refine W.widen (k := 167) (n := 3859) (Nat.le_of_ble_eq_true rfl) (Nat.le_of_ble_eq_true rfl) ?_
  exact fin _ _ _ _ _ hV hw hr hl
set_option maxHeartbeats 4000000 in
set_option maxRecDepth 100000 in
theorem w_ful_4 {p : Program} {l : Launch} {e : Env} {s : State} {m : MethodId} {args : Array Value} {below : List Frame} {meth : Method} {c : Code} {g : wG} {Q : State → Prop} {y : (Nat → Nat → Int32) × (Nat → Int64) × (Nat → UInt64)} (X : LX p l s m args c cL_full 2 g)
    (fin : FN p l e rmD s m args below meth c g y Q 5 (ch_ful_5) 2 [(1, .int 2), (0, .ref (gA g 0))] 173 3891 46) : FN p l e rmD s m args below meth c g y Q 4 (ch_ful_4) 2 [(1, .int 1), (0, .ref (gA g 0))] 167 3859 79 := by
  intro S B H locs ls hV hw hr hl
  obtain ⟨n9, m9, ne9, n8, m8, hN, hN1, hev, hne, hne2⟩ := hV.cnt
  obtain ⟨he, hq, hz, hr⟩ := cC_e hr
  refine lv_iinc (v := 2) (lv' := [(1, .int 2), (0, .ref (gA g 0))]) X.1.1 X.1.2.1 dL_full_79 hl (k := 0) rfl (by decide) (by decide) rfl (fun ls hl => ?_)
  refine lv_goto (tgt := 10) X.1.1 X.1.2.1 dL_full_82 (by decide) ?_
  refine lv_iload_n X.1.1 X.1.2.1 dL_full_10 rfl (lv_at hl 0 rfl) ?_
  refine lv_bipush (v := 20) X.1.1 X.1.2.1 dL_full_11 (by decide +kernel) ?_
  refine lv_icmp_ge (tgt := 85) X.1.1 X.1.2.1 dL_full_13 (by decide) (fun h9 => absurd h9 (by decide)) (fun _ => ?_)
  refine lv_iload_n X.1.1 X.1.2.1 dL_full_16 rfl (lv_at hl 0 rfl) ?_
  refine lv_bipush (v := 6) X.1.1 X.1.2.1 dL_full_17 (by decide +kernel) ?_
  refine lv_icmp_ge (tgt := 46) X.1.1 X.1.2.1 dL_full_19 (by decide) (fun h9 => absurd h9 (by decide)) (fun _ => ?_)
  refine lv_aload_n X.1.1 X.1.2.1 dL_full_22 rfl (lv_at hl 1 rfl) ?_
  refine lv_bipush (v := (nI 79)) X.1.1 X.1.2.1 dL_full_23 (by decide +kernel) ?_
  refine lv_iconst (v := 2) X.1.1 X.1.2.1 dL_full_25 (by decide) ?_
  refine k_newv (n := 2) (N := 2) X.1 X.2.2.1 hw q_ai (by decide) (by decide) (by decide) (Nat.le_of_ble_eq_true rfl) (Nat.le_of_ble_eq_true rfl) dL_full_26 (fun b H hv => ?_)
  refine lv_dup X.1.1 X.1.2.1 dL_full_28 rfl ?_
  refine lv_iconst (v := 0) X.1.1 X.1.2.1 dL_full_29 (by decide) ?_
  refine lv_bipush (v := 60) X.1.1 X.1.2.1 dL_full_30 (by decide +kernel) ?_
  refine k_vst (v := 60) (n := 0) X.1 X.2.2.1 hv (vp_in_nI (n := 0) (by decide) (by decide)) (by decide) dL_full_32 (fun H locs hv => ?_)
  refine lv_dup X.1.1 X.1.2.1 dL_full_33 rfl ?_
  refine lv_iconst (v := 1) X.1.1 X.1.2.1 dL_full_34 (by decide) ?_
  refine lv_sipush (v := 1023) X.1.1 X.1.2.1 dL_full_35 (by decide +kernel) ?_
  refine k_vst (v := 1023) (n := 1) X.1 X.2.2.1 hv (vp_in_nI (n := 1) (by decide) (by decide)) (by decide) dL_full_38 (fun H locs hv => ?_)
  refine sN X (mA_addOffice l g X.2.2.2 S B y (upd (upd (fun _ => 0) 0 60) 1 1023) 60 1023 rfl rfl _ _ hN hev) hv hl dL_full_39 ⟨Nat.le_of_ble_eq_true rfl, Nat.le_of_ble_eq_true rfl⟩ ⟨Nat.le_of_ble_eq_true rfl, Nat.le_of_ble_eq_true rfl⟩ he (fun H locs hw => ?_)
  have hV := hV.ev (by decide) (fa_addOffice he) hz
  have hw := hw.nrmW
  refine vn_ (v9 := 2) (vIs_e hq) ?_
  refine lv_iload_n X.1.1 X.1.2.1 dL_full_42 rfl (lv_at hl 0 rfl) ?_
  refine lv_icmp_ne (tgt := 77) X.1.1 X.1.2.1 dL_full_43 (by decide) (fun h9 => absurd rfl h9) (fun _ => ?_)
  refine W.widen (k := 173) (n := 3891) (Nat.le_of_ble_eq_true rfl) (Nat.le_of_ble_eq_true rfl) ?_
  exact fin _ _ _ _ _ hV hw hr hl
set_option maxHeartbeats 4000000 in
set_option maxRecDepth 100000 in
theorem w_ful_5 {p : Program} {l : Launch} {e : Env} {s : State} {m : MethodId} {args : Array Value} {below : List Frame} {meth : Method} {c : Code} {g : wG} {Q : State → Prop} {y : (Nat → Nat → Int32) × (Nat → Int64) × (Nat → UInt64)} (X : LX p l s m args c cL_full 2 g)
    (fin : FN p l e rmD s m args below meth c g y Q 6 (ch_ful_6) 2 [(1, .int 2), (0, .ref (gA g 0))] 179 3925 79) : FN p l e rmD s m args below meth c g y Q 5 (ch_ful_5) 2 [(1, .int 2), (0, .ref (gA g 0))] 173 3891 46 := by
  intro S B H locs ls hV hw hr hl
  obtain ⟨n9, m9, ne9, n8, m8, hN, hN1, hev, hne, hne2⟩ := hV.cnt
  obtain ⟨he, hq, hz, hr⟩ := cC_e hr
  refine lv_aload_n X.1.1 X.1.2.1 dL_full_46 rfl (lv_at hl 1 rfl) ?_
  refine lv_bipush (v := (nI 99)) X.1.1 X.1.2.1 dL_full_47 (by decide +kernel) ?_
  refine lv_iconst (v := 4) X.1.1 X.1.2.1 dL_full_49 (by decide) ?_
  refine k_newv (n := 4) (N := 4) X.1 X.2.2.1 hw q_ai (by decide) (by decide) (by decide) (Nat.le_of_ble_eq_true rfl) (Nat.le_of_ble_eq_true rfl) dL_full_50 (fun b H hv => ?_)
  refine lv_dup X.1.1 X.1.2.1 dL_full_52 rfl ?_
  refine lv_iconst (v := 0) X.1.1 X.1.2.1 dL_full_53 (by decide) ?_
  refine lv_iconst (v := 0) X.1.1 X.1.2.1 dL_full_54 (by decide) ?_
  refine k_vst (v := 0) (n := 0) X.1 X.2.2.1 hv (vp_in_nI (n := 0) (by decide) (by decide)) (by decide) dL_full_55 (fun H locs hv => ?_)
  refine lv_dup X.1.1 X.1.2.1 dL_full_56 rfl ?_
  refine lv_iconst (v := 1) X.1.1 X.1.2.1 dL_full_57 (by decide) ?_
  refine lv_bipush (v := 9) X.1.1 X.1.2.1 dL_full_58 (by decide +kernel) ?_
  refine k_vst (v := 9) (n := 1) X.1 X.2.2.1 hv (vp_in_nI (n := 1) (by decide) (by decide)) (by decide) dL_full_60 (fun H locs hv => ?_)
  refine lv_dup X.1.1 X.1.2.1 dL_full_61 rfl ?_
  refine lv_iconst (v := 2) X.1.1 X.1.2.1 dL_full_62 (by decide) ?_
  refine lv_bipush (v := 49) X.1.1 X.1.2.1 dL_full_63 (by decide +kernel) ?_
  refine k_vst (v := 49) (n := 2) X.1 X.2.2.1 hv (vp_in_nI (n := 2) (by decide) (by decide)) (by decide) dL_full_65 (fun H locs hv => ?_)
  refine lv_dup X.1.1 X.1.2.1 dL_full_66 rfl ?_
  refine lv_iconst (v := 3) X.1.1 X.1.2.1 dL_full_67 (by decide) ?_
  refine lv_iconst (v := 0) X.1.1 X.1.2.1 dL_full_68 (by decide) ?_
  refine k_vst (v := 0) (n := 3) X.1 X.2.2.1 hv (vp_in_nI (n := 3) (by decide) (by decide)) (by decide) dL_full_69 (fun H locs hv => ?_)
  refine sN X (mA_complain l g X.2.2.2 S B y (upd (upd (upd (upd (fun _ => 0) 0 0) 1 9) 2 49) 3 0) 0 9 49 0 rfl rfl rfl rfl _ _ hN hev) hv hl dL_full_70 ⟨Nat.le_of_ble_eq_true rfl, Nat.le_of_ble_eq_true rfl⟩ ⟨Nat.le_of_ble_eq_true rfl, Nat.le_of_ble_eq_true rfl⟩ he (fun H locs hw => ?_)
  have hV := hV.ev (by decide) (fa_complain he) hz
  have hw := hw.nrmW
  refine vn_ (v9 := 2) (vIs_e hq) ?_
  refine lv_iload_n X.1.1 X.1.2.1 dL_full_73 rfl (lv_at hl 0 rfl) ?_
  refine lv_icmp_eq (tgt := 79) X.1.1 X.1.2.1 dL_full_74 (by decide) (fun _ => ?_) (fun h9 => absurd rfl h9)
  refine W.widen (k := 179) (n := 3925) (Nat.le_of_ble_eq_true rfl) (Nat.le_of_ble_eq_true rfl) ?_
  exact fin _ _ _ _ _ hV hw hr hl
set_option maxHeartbeats 4000000 in
set_option maxRecDepth 100000 in
theorem w_ful_6 {p : Program} {l : Launch} {e : Env} {s : State} {m : MethodId} {args : Array Value} {below : List Frame} {meth : Method} {c : Code} {g : wG} {Q : State → Prop} {y : (Nat → Nat → Int32) × (Nat → Int64) × (Nat → UInt64)} (X : LX p l s m args c cL_full 2 g)
    (fin : FN p l e rmD s m args below meth c g y Q 7 (ch_ful_7) 2 [(1, .int 3), (0, .ref (gA g 0))] 185 3957 46) : FN p l e rmD s m args below meth c g y Q 6 (ch_ful_6) 2 [(1, .int 2), (0, .ref (gA g 0))] 179 3925 79 := by
  intro S B H locs ls hV hw hr hl
  obtain ⟨n9, m9, ne9, n8, m8, hN, hN1, hev, hne, hne2⟩ := hV.cnt
  obtain ⟨he, hq, hz, hr⟩ := cC_e hr
  refine lv_iinc (v := 3) (lv' := [(1, .int 3), (0, .ref (gA g 0))]) X.1.1 X.1.2.1 dL_full_79 hl (k := 0) rfl (by decide) (by decide) rfl (fun ls hl => ?_)
  refine lv_goto (tgt := 10) X.1.1 X.1.2.1 dL_full_82 (by decide) ?_
  refine lv_iload_n X.1.1 X.1.2.1 dL_full_10 rfl (lv_at hl 0 rfl) ?_
  refine lv_bipush (v := 20) X.1.1 X.1.2.1 dL_full_11 (by decide +kernel) ?_
  refine lv_icmp_ge (tgt := 85) X.1.1 X.1.2.1 dL_full_13 (by decide) (fun h9 => absurd h9 (by decide)) (fun _ => ?_)
  refine lv_iload_n X.1.1 X.1.2.1 dL_full_16 rfl (lv_at hl 0 rfl) ?_
  refine lv_bipush (v := 6) X.1.1 X.1.2.1 dL_full_17 (by decide +kernel) ?_
  refine lv_icmp_ge (tgt := 46) X.1.1 X.1.2.1 dL_full_19 (by decide) (fun h9 => absurd h9 (by decide)) (fun _ => ?_)
  refine lv_aload_n X.1.1 X.1.2.1 dL_full_22 rfl (lv_at hl 1 rfl) ?_
  refine lv_bipush (v := (nI 79)) X.1.1 X.1.2.1 dL_full_23 (by decide +kernel) ?_
  refine lv_iconst (v := 2) X.1.1 X.1.2.1 dL_full_25 (by decide) ?_
  refine k_newv (n := 2) (N := 2) X.1 X.2.2.1 hw q_ai (by decide) (by decide) (by decide) (Nat.le_of_ble_eq_true rfl) (Nat.le_of_ble_eq_true rfl) dL_full_26 (fun b H hv => ?_)
  refine lv_dup X.1.1 X.1.2.1 dL_full_28 rfl ?_
  refine lv_iconst (v := 0) X.1.1 X.1.2.1 dL_full_29 (by decide) ?_
  refine lv_bipush (v := 60) X.1.1 X.1.2.1 dL_full_30 (by decide +kernel) ?_
  refine k_vst (v := 60) (n := 0) X.1 X.2.2.1 hv (vp_in_nI (n := 0) (by decide) (by decide)) (by decide) dL_full_32 (fun H locs hv => ?_)
  refine lv_dup X.1.1 X.1.2.1 dL_full_33 rfl ?_
  refine lv_iconst (v := 1) X.1.1 X.1.2.1 dL_full_34 (by decide) ?_
  refine lv_sipush (v := 1023) X.1.1 X.1.2.1 dL_full_35 (by decide +kernel) ?_
  refine k_vst (v := 1023) (n := 1) X.1 X.2.2.1 hv (vp_in_nI (n := 1) (by decide) (by decide)) (by decide) dL_full_38 (fun H locs hv => ?_)
  refine sN X (mA_addOffice l g X.2.2.2 S B y (upd (upd (fun _ => 0) 0 60) 1 1023) 60 1023 rfl rfl _ _ hN hev) hv hl dL_full_39 ⟨Nat.le_of_ble_eq_true rfl, Nat.le_of_ble_eq_true rfl⟩ ⟨Nat.le_of_ble_eq_true rfl, Nat.le_of_ble_eq_true rfl⟩ he (fun H locs hw => ?_)
  have hV := hV.ev (by decide) (fa_addOffice he) hz
  have hw := hw.nrmW
  refine vn_ (v9 := 3) (vIs_e hq) ?_
  refine lv_iload_n X.1.1 X.1.2.1 dL_full_42 rfl (lv_at hl 0 rfl) ?_
  refine lv_icmp_ne (tgt := 77) X.1.1 X.1.2.1 dL_full_43 (by decide) (fun h9 => absurd rfl h9) (fun _ => ?_)
  refine W.widen (k := 185) (n := 3957) (Nat.le_of_ble_eq_true rfl) (Nat.le_of_ble_eq_true rfl) ?_
  exact fin _ _ _ _ _ hV hw hr hl
set_option maxHeartbeats 4000000 in
set_option maxRecDepth 100000 in
theorem w_ful_7 {p : Program} {l : Launch} {e : Env} {s : State} {m : MethodId} {args : Array Value} {below : List Frame} {meth : Method} {c : Code} {g : wG} {Q : State → Prop} {y : (Nat → Nat → Int32) × (Nat → Int64) × (Nat → UInt64)} (X : LX p l s m args c cL_full 2 g)
    (fin : FN p l e rmD s m args below meth c g y Q 8 (ch_ful_8) 2 [(1, .int 3), (0, .ref (gA g 0))] 191 3991 79) : FN p l e rmD s m args below meth c g y Q 7 (ch_ful_7) 2 [(1, .int 3), (0, .ref (gA g 0))] 185 3957 46 := by
  intro S B H locs ls hV hw hr hl
  obtain ⟨n9, m9, ne9, n8, m8, hN, hN1, hev, hne, hne2⟩ := hV.cnt
  obtain ⟨he, hq, hz, hr⟩ := cC_e hr
  refine lv_aload_n X.1.1 X.1.2.1 dL_full_46 rfl (lv_at hl 1 rfl) ?_
  refine lv_bipush (v := (nI 99)) X.1.1 X.1.2.1 dL_full_47 (by decide +kernel) ?_
  refine lv_iconst (v := 4) X.1.1 X.1.2.1 dL_full_49 (by decide) ?_
  refine k_newv (n := 4) (N := 4) X.1 X.2.2.1 hw q_ai (by decide) (by decide) (by decide) (Nat.le_of_ble_eq_true rfl) (Nat.le_of_ble_eq_true rfl) dL_full_50 (fun b H hv => ?_)
  refine lv_dup X.1.1 X.1.2.1 dL_full_52 rfl ?_
  refine lv_iconst (v := 0) X.1.1 X.1.2.1 dL_full_53 (by decide) ?_
  refine lv_iconst (v := 0) X.1.1 X.1.2.1 dL_full_54 (by decide) ?_
  refine k_vst (v := 0) (n := 0) X.1 X.2.2.1 hv (vp_in_nI (n := 0) (by decide) (by decide)) (by decide) dL_full_55 (fun H locs hv => ?_)
  refine lv_dup X.1.1 X.1.2.1 dL_full_56 rfl ?_
  refine lv_iconst (v := 1) X.1.1 X.1.2.1 dL_full_57 (by decide) ?_
  refine lv_bipush (v := 9) X.1.1 X.1.2.1 dL_full_58 (by decide +kernel) ?_
  refine k_vst (v := 9) (n := 1) X.1 X.2.2.1 hv (vp_in_nI (n := 1) (by decide) (by decide)) (by decide) dL_full_60 (fun H locs hv => ?_)
  refine lv_dup X.1.1 X.1.2.1 dL_full_61 rfl ?_
  refine lv_iconst (v := 2) X.1.1 X.1.2.1 dL_full_62 (by decide) ?_
  refine lv_bipush (v := 49) X.1.1 X.1.2.1 dL_full_63 (by decide +kernel) ?_
  refine k_vst (v := 49) (n := 2) X.1 X.2.2.1 hv (vp_in_nI (n := 2) (by decide) (by decide)) (by decide) dL_full_65 (fun H locs hv => ?_)
  refine lv_dup X.1.1 X.1.2.1 dL_full_66 rfl ?_
  refine lv_iconst (v := 3) X.1.1 X.1.2.1 dL_full_67 (by decide) ?_
  refine lv_iconst (v := 0) X.1.1 X.1.2.1 dL_full_68 (by decide) ?_
  refine k_vst (v := 0) (n := 3) X.1 X.2.2.1 hv (vp_in_nI (n := 3) (by decide) (by decide)) (by decide) dL_full_69 (fun H locs hv => ?_)
  refine sN X (mA_complain l g X.2.2.2 S B y (upd (upd (upd (upd (fun _ => 0) 0 0) 1 9) 2 49) 3 0) 0 9 49 0 rfl rfl rfl rfl _ _ hN hev) hv hl dL_full_70 ⟨Nat.le_of_ble_eq_true rfl, Nat.le_of_ble_eq_true rfl⟩ ⟨Nat.le_of_ble_eq_true rfl, Nat.le_of_ble_eq_true rfl⟩ he (fun H locs hw => ?_)
  have hV := hV.ev (by decide) (fa_complain he) hz
  have hw := hw.nrmW
  refine vn_ (v9 := 3) (vIs_e hq) ?_
  refine lv_iload_n X.1.1 X.1.2.1 dL_full_73 rfl (lv_at hl 0 rfl) ?_
  refine lv_icmp_eq (tgt := 79) X.1.1 X.1.2.1 dL_full_74 (by decide) (fun _ => ?_) (fun h9 => absurd rfl h9)
  refine W.widen (k := 191) (n := 3991) (Nat.le_of_ble_eq_true rfl) (Nat.le_of_ble_eq_true rfl) ?_
  exact fin _ _ _ _ _ hV hw hr hl
set_option maxHeartbeats 4000000 in
set_option maxRecDepth 100000 in
theorem w_ful_8 {p : Program} {l : Launch} {e : Env} {s : State} {m : MethodId} {args : Array Value} {below : List Frame} {meth : Method} {c : Code} {g : wG} {Q : State → Prop} {y : (Nat → Nat → Int32) × (Nat → Int64) × (Nat → UInt64)} (X : LX p l s m args c cL_full 2 g)
    (fin : FN p l e rmD s m args below meth c g y Q 9 (ch_ful_9) 2 [(1, .int 4), (0, .ref (gA g 0))] 197 4023 46) : FN p l e rmD s m args below meth c g y Q 8 (ch_ful_8) 2 [(1, .int 3), (0, .ref (gA g 0))] 191 3991 79 := by
  intro S B H locs ls hV hw hr hl
  obtain ⟨n9, m9, ne9, n8, m8, hN, hN1, hev, hne, hne2⟩ := hV.cnt
  obtain ⟨he, hq, hz, hr⟩ := cC_e hr
  refine lv_iinc (v := 4) (lv' := [(1, .int 4), (0, .ref (gA g 0))]) X.1.1 X.1.2.1 dL_full_79 hl (k := 0) rfl (by decide) (by decide) rfl (fun ls hl => ?_)
  refine lv_goto (tgt := 10) X.1.1 X.1.2.1 dL_full_82 (by decide) ?_
  refine lv_iload_n X.1.1 X.1.2.1 dL_full_10 rfl (lv_at hl 0 rfl) ?_
  refine lv_bipush (v := 20) X.1.1 X.1.2.1 dL_full_11 (by decide +kernel) ?_
  refine lv_icmp_ge (tgt := 85) X.1.1 X.1.2.1 dL_full_13 (by decide) (fun h9 => absurd h9 (by decide)) (fun _ => ?_)
  refine lv_iload_n X.1.1 X.1.2.1 dL_full_16 rfl (lv_at hl 0 rfl) ?_
  refine lv_bipush (v := 6) X.1.1 X.1.2.1 dL_full_17 (by decide +kernel) ?_
  refine lv_icmp_ge (tgt := 46) X.1.1 X.1.2.1 dL_full_19 (by decide) (fun h9 => absurd h9 (by decide)) (fun _ => ?_)
  refine lv_aload_n X.1.1 X.1.2.1 dL_full_22 rfl (lv_at hl 1 rfl) ?_
  refine lv_bipush (v := (nI 79)) X.1.1 X.1.2.1 dL_full_23 (by decide +kernel) ?_
  refine lv_iconst (v := 2) X.1.1 X.1.2.1 dL_full_25 (by decide) ?_
  refine k_newv (n := 2) (N := 2) X.1 X.2.2.1 hw q_ai (by decide) (by decide) (by decide) (Nat.le_of_ble_eq_true rfl) (Nat.le_of_ble_eq_true rfl) dL_full_26 (fun b H hv => ?_)
  refine lv_dup X.1.1 X.1.2.1 dL_full_28 rfl ?_
  refine lv_iconst (v := 0) X.1.1 X.1.2.1 dL_full_29 (by decide) ?_
  refine lv_bipush (v := 60) X.1.1 X.1.2.1 dL_full_30 (by decide +kernel) ?_
  refine k_vst (v := 60) (n := 0) X.1 X.2.2.1 hv (vp_in_nI (n := 0) (by decide) (by decide)) (by decide) dL_full_32 (fun H locs hv => ?_)
  refine lv_dup X.1.1 X.1.2.1 dL_full_33 rfl ?_
  refine lv_iconst (v := 1) X.1.1 X.1.2.1 dL_full_34 (by decide) ?_
  refine lv_sipush (v := 1023) X.1.1 X.1.2.1 dL_full_35 (by decide +kernel) ?_
  refine k_vst (v := 1023) (n := 1) X.1 X.2.2.1 hv (vp_in_nI (n := 1) (by decide) (by decide)) (by decide) dL_full_38 (fun H locs hv => ?_)
  refine sN X (mA_addOffice l g X.2.2.2 S B y (upd (upd (fun _ => 0) 0 60) 1 1023) 60 1023 rfl rfl _ _ hN hev) hv hl dL_full_39 ⟨Nat.le_of_ble_eq_true rfl, Nat.le_of_ble_eq_true rfl⟩ ⟨Nat.le_of_ble_eq_true rfl, Nat.le_of_ble_eq_true rfl⟩ he (fun H locs hw => ?_)
  have hV := hV.ev (by decide) (fa_addOffice he) hz
  have hw := hw.nrmW
  refine vn_ (v9 := 4) (vIs_e hq) ?_
  refine lv_iload_n X.1.1 X.1.2.1 dL_full_42 rfl (lv_at hl 0 rfl) ?_
  refine lv_icmp_ne (tgt := 77) X.1.1 X.1.2.1 dL_full_43 (by decide) (fun h9 => absurd rfl h9) (fun _ => ?_)
  refine W.widen (k := 197) (n := 4023) (Nat.le_of_ble_eq_true rfl) (Nat.le_of_ble_eq_true rfl) ?_
  exact fin _ _ _ _ _ hV hw hr hl
set_option maxHeartbeats 4000000 in
set_option maxRecDepth 100000 in
theorem w_ful_9 {p : Program} {l : Launch} {e : Env} {s : State} {m : MethodId} {args : Array Value} {below : List Frame} {meth : Method} {c : Code} {g : wG} {Q : State → Prop} {y : (Nat → Nat → Int32) × (Nat → Int64) × (Nat → UInt64)} (X : LX p l s m args c cL_full 2 g)
    (fin : FN p l e rmD s m args below meth c g y Q 10 (ch_ful_10) 2 [(1, .int 4), (0, .ref (gA g 0))] 203 4057 79) : FN p l e rmD s m args below meth c g y Q 9 (ch_ful_9) 2 [(1, .int 4), (0, .ref (gA g 0))] 197 4023 46 := by
  intro S B H locs ls hV hw hr hl
  obtain ⟨n9, m9, ne9, n8, m8, hN, hN1, hev, hne, hne2⟩ := hV.cnt
  obtain ⟨he, hq, hz, hr⟩ := cC_e hr
  refine lv_aload_n X.1.1 X.1.2.1 dL_full_46 rfl (lv_at hl 1 rfl) ?_
  refine lv_bipush (v := (nI 99)) X.1.1 X.1.2.1 dL_full_47 (by decide +kernel) ?_
  refine lv_iconst (v := 4) X.1.1 X.1.2.1 dL_full_49 (by decide) ?_
  refine k_newv (n := 4) (N := 4) X.1 X.2.2.1 hw q_ai (by decide) (by decide) (by decide) (Nat.le_of_ble_eq_true rfl) (Nat.le_of_ble_eq_true rfl) dL_full_50 (fun b H hv => ?_)
  refine lv_dup X.1.1 X.1.2.1 dL_full_52 rfl ?_
  refine lv_iconst (v := 0) X.1.1 X.1.2.1 dL_full_53 (by decide) ?_
  refine lv_iconst (v := 0) X.1.1 X.1.2.1 dL_full_54 (by decide) ?_
  refine k_vst (v := 0) (n := 0) X.1 X.2.2.1 hv (vp_in_nI (n := 0) (by decide) (by decide)) (by decide) dL_full_55 (fun H locs hv => ?_)
  refine lv_dup X.1.1 X.1.2.1 dL_full_56 rfl ?_
  refine lv_iconst (v := 1) X.1.1 X.1.2.1 dL_full_57 (by decide) ?_
  refine lv_bipush (v := 9) X.1.1 X.1.2.1 dL_full_58 (by decide +kernel) ?_
  refine k_vst (v := 9) (n := 1) X.1 X.2.2.1 hv (vp_in_nI (n := 1) (by decide) (by decide)) (by decide) dL_full_60 (fun H locs hv => ?_)
  refine lv_dup X.1.1 X.1.2.1 dL_full_61 rfl ?_
  refine lv_iconst (v := 2) X.1.1 X.1.2.1 dL_full_62 (by decide) ?_
  refine lv_bipush (v := 49) X.1.1 X.1.2.1 dL_full_63 (by decide +kernel) ?_
  refine k_vst (v := 49) (n := 2) X.1 X.2.2.1 hv (vp_in_nI (n := 2) (by decide) (by decide)) (by decide) dL_full_65 (fun H locs hv => ?_)
  refine lv_dup X.1.1 X.1.2.1 dL_full_66 rfl ?_
  refine lv_iconst (v := 3) X.1.1 X.1.2.1 dL_full_67 (by decide) ?_
  refine lv_iconst (v := 0) X.1.1 X.1.2.1 dL_full_68 (by decide) ?_
  refine k_vst (v := 0) (n := 3) X.1 X.2.2.1 hv (vp_in_nI (n := 3) (by decide) (by decide)) (by decide) dL_full_69 (fun H locs hv => ?_)
  refine sN X (mA_complain l g X.2.2.2 S B y (upd (upd (upd (upd (fun _ => 0) 0 0) 1 9) 2 49) 3 0) 0 9 49 0 rfl rfl rfl rfl _ _ hN hev) hv hl dL_full_70 ⟨Nat.le_of_ble_eq_true rfl, Nat.le_of_ble_eq_true rfl⟩ ⟨Nat.le_of_ble_eq_true rfl, Nat.le_of_ble_eq_true rfl⟩ he (fun H locs hw => ?_)
  have hV := hV.ev (by decide) (fa_complain he) hz
  have hw := hw.nrmW
  refine vn_ (v9 := 4) (vIs_e hq) ?_
  refine lv_iload_n X.1.1 X.1.2.1 dL_full_73 rfl (lv_at hl 0 rfl) ?_
  refine lv_icmp_eq (tgt := 79) X.1.1 X.1.2.1 dL_full_74 (by decide) (fun _ => ?_) (fun h9 => absurd rfl h9)
  refine W.widen (k := 203) (n := 4057) (Nat.le_of_ble_eq_true rfl) (Nat.le_of_ble_eq_true rfl) ?_
  exact fin _ _ _ _ _ hV hw hr hl
set_option maxHeartbeats 4000000 in
set_option maxRecDepth 100000 in
theorem w_ful_10 {p : Program} {l : Launch} {e : Env} {s : State} {m : MethodId} {args : Array Value} {below : List Frame} {meth : Method} {c : Code} {g : wG} {Q : State → Prop} {y : (Nat → Nat → Int32) × (Nat → Int64) × (Nat → UInt64)} (X : LX p l s m args c cL_full 2 g)
    (fin : FN p l e rmD s m args below meth c g y Q 11 (ch_ful_11) 2 [(1, .int 5), (0, .ref (gA g 0))] 209 4089 46) : FN p l e rmD s m args below meth c g y Q 10 (ch_ful_10) 2 [(1, .int 4), (0, .ref (gA g 0))] 203 4057 79 := by
  intro S B H locs ls hV hw hr hl
  obtain ⟨n9, m9, ne9, n8, m8, hN, hN1, hev, hne, hne2⟩ := hV.cnt
  obtain ⟨he, hq, hz, hr⟩ := cC_e hr
  refine lv_iinc (v := 5) (lv' := [(1, .int 5), (0, .ref (gA g 0))]) X.1.1 X.1.2.1 dL_full_79 hl (k := 0) rfl (by decide) (by decide) rfl (fun ls hl => ?_)
  refine lv_goto (tgt := 10) X.1.1 X.1.2.1 dL_full_82 (by decide) ?_
  refine lv_iload_n X.1.1 X.1.2.1 dL_full_10 rfl (lv_at hl 0 rfl) ?_
  refine lv_bipush (v := 20) X.1.1 X.1.2.1 dL_full_11 (by decide +kernel) ?_
  refine lv_icmp_ge (tgt := 85) X.1.1 X.1.2.1 dL_full_13 (by decide) (fun h9 => absurd h9 (by decide)) (fun _ => ?_)
  refine lv_iload_n X.1.1 X.1.2.1 dL_full_16 rfl (lv_at hl 0 rfl) ?_
  refine lv_bipush (v := 6) X.1.1 X.1.2.1 dL_full_17 (by decide +kernel) ?_
  refine lv_icmp_ge (tgt := 46) X.1.1 X.1.2.1 dL_full_19 (by decide) (fun h9 => absurd h9 (by decide)) (fun _ => ?_)
  refine lv_aload_n X.1.1 X.1.2.1 dL_full_22 rfl (lv_at hl 1 rfl) ?_
  refine lv_bipush (v := (nI 79)) X.1.1 X.1.2.1 dL_full_23 (by decide +kernel) ?_
  refine lv_iconst (v := 2) X.1.1 X.1.2.1 dL_full_25 (by decide) ?_
  refine k_newv (n := 2) (N := 2) X.1 X.2.2.1 hw q_ai (by decide) (by decide) (by decide) (Nat.le_of_ble_eq_true rfl) (Nat.le_of_ble_eq_true rfl) dL_full_26 (fun b H hv => ?_)
  refine lv_dup X.1.1 X.1.2.1 dL_full_28 rfl ?_
  refine lv_iconst (v := 0) X.1.1 X.1.2.1 dL_full_29 (by decide) ?_
  refine lv_bipush (v := 60) X.1.1 X.1.2.1 dL_full_30 (by decide +kernel) ?_
  refine k_vst (v := 60) (n := 0) X.1 X.2.2.1 hv (vp_in_nI (n := 0) (by decide) (by decide)) (by decide) dL_full_32 (fun H locs hv => ?_)
  refine lv_dup X.1.1 X.1.2.1 dL_full_33 rfl ?_
  refine lv_iconst (v := 1) X.1.1 X.1.2.1 dL_full_34 (by decide) ?_
  refine lv_sipush (v := 1023) X.1.1 X.1.2.1 dL_full_35 (by decide +kernel) ?_
  refine k_vst (v := 1023) (n := 1) X.1 X.2.2.1 hv (vp_in_nI (n := 1) (by decide) (by decide)) (by decide) dL_full_38 (fun H locs hv => ?_)
  refine sN X (mA_addOffice l g X.2.2.2 S B y (upd (upd (fun _ => 0) 0 60) 1 1023) 60 1023 rfl rfl _ _ hN hev) hv hl dL_full_39 ⟨Nat.le_of_ble_eq_true rfl, Nat.le_of_ble_eq_true rfl⟩ ⟨Nat.le_of_ble_eq_true rfl, Nat.le_of_ble_eq_true rfl⟩ he (fun H locs hw => ?_)
  have hV := hV.ev (by decide) (fa_addOffice he) hz
  have hw := hw.nrmW
  refine vn_ (v9 := 5) (vIs_e hq) ?_
  refine lv_iload_n X.1.1 X.1.2.1 dL_full_42 rfl (lv_at hl 0 rfl) ?_
  refine lv_icmp_ne (tgt := 77) X.1.1 X.1.2.1 dL_full_43 (by decide) (fun h9 => absurd rfl h9) (fun _ => ?_)
  refine W.widen (k := 209) (n := 4089) (Nat.le_of_ble_eq_true rfl) (Nat.le_of_ble_eq_true rfl) ?_
  exact fin _ _ _ _ _ hV hw hr hl
set_option maxHeartbeats 4000000 in
set_option maxRecDepth 100000 in
theorem w_ful_11 {p : Program} {l : Launch} {e : Env} {s : State} {m : MethodId} {args : Array Value} {below : List Frame} {meth : Method} {c : Code} {g : wG} {Q : State → Prop} {y : (Nat → Nat → Int32) × (Nat → Int64) × (Nat → UInt64)} (X : LX p l s m args c cL_full 2 g)
    (fin : FN p l e rmD s m args below meth c g y Q 12 (ch_ful_12) 2 [(1, .int 5), (0, .ref (gA g 0))] 215 4123 79) : FN p l e rmD s m args below meth c g y Q 11 (ch_ful_11) 2 [(1, .int 5), (0, .ref (gA g 0))] 209 4089 46 := by
  intro S B H locs ls hV hw hr hl
  obtain ⟨n9, m9, ne9, n8, m8, hN, hN1, hev, hne, hne2⟩ := hV.cnt
  obtain ⟨he, hq, hz, hr⟩ := cC_e hr
  refine lv_aload_n X.1.1 X.1.2.1 dL_full_46 rfl (lv_at hl 1 rfl) ?_
  refine lv_bipush (v := (nI 99)) X.1.1 X.1.2.1 dL_full_47 (by decide +kernel) ?_
  refine lv_iconst (v := 4) X.1.1 X.1.2.1 dL_full_49 (by decide) ?_
  refine k_newv (n := 4) (N := 4) X.1 X.2.2.1 hw q_ai (by decide) (by decide) (by decide) (Nat.le_of_ble_eq_true rfl) (Nat.le_of_ble_eq_true rfl) dL_full_50 (fun b H hv => ?_)
  refine lv_dup X.1.1 X.1.2.1 dL_full_52 rfl ?_
  refine lv_iconst (v := 0) X.1.1 X.1.2.1 dL_full_53 (by decide) ?_
  refine lv_iconst (v := 0) X.1.1 X.1.2.1 dL_full_54 (by decide) ?_
  refine k_vst (v := 0) (n := 0) X.1 X.2.2.1 hv (vp_in_nI (n := 0) (by decide) (by decide)) (by decide) dL_full_55 (fun H locs hv => ?_)
  refine lv_dup X.1.1 X.1.2.1 dL_full_56 rfl ?_
  refine lv_iconst (v := 1) X.1.1 X.1.2.1 dL_full_57 (by decide) ?_
  refine lv_bipush (v := 9) X.1.1 X.1.2.1 dL_full_58 (by decide +kernel) ?_
  refine k_vst (v := 9) (n := 1) X.1 X.2.2.1 hv (vp_in_nI (n := 1) (by decide) (by decide)) (by decide) dL_full_60 (fun H locs hv => ?_)
  refine lv_dup X.1.1 X.1.2.1 dL_full_61 rfl ?_
  refine lv_iconst (v := 2) X.1.1 X.1.2.1 dL_full_62 (by decide) ?_
  refine lv_bipush (v := 49) X.1.1 X.1.2.1 dL_full_63 (by decide +kernel) ?_
  refine k_vst (v := 49) (n := 2) X.1 X.2.2.1 hv (vp_in_nI (n := 2) (by decide) (by decide)) (by decide) dL_full_65 (fun H locs hv => ?_)
  refine lv_dup X.1.1 X.1.2.1 dL_full_66 rfl ?_
  refine lv_iconst (v := 3) X.1.1 X.1.2.1 dL_full_67 (by decide) ?_
  refine lv_iconst (v := 0) X.1.1 X.1.2.1 dL_full_68 (by decide) ?_
  refine k_vst (v := 0) (n := 3) X.1 X.2.2.1 hv (vp_in_nI (n := 3) (by decide) (by decide)) (by decide) dL_full_69 (fun H locs hv => ?_)
  refine sN X (mA_complain l g X.2.2.2 S B y (upd (upd (upd (upd (fun _ => 0) 0 0) 1 9) 2 49) 3 0) 0 9 49 0 rfl rfl rfl rfl _ _ hN hev) hv hl dL_full_70 ⟨Nat.le_of_ble_eq_true rfl, Nat.le_of_ble_eq_true rfl⟩ ⟨Nat.le_of_ble_eq_true rfl, Nat.le_of_ble_eq_true rfl⟩ he (fun H locs hw => ?_)
  have hV := hV.ev (by decide) (fa_complain he) hz
  have hw := hw.nrmW
  refine vn_ (v9 := 5) (vIs_e hq) ?_
  refine lv_iload_n X.1.1 X.1.2.1 dL_full_73 rfl (lv_at hl 0 rfl) ?_
  refine lv_icmp_eq (tgt := 79) X.1.1 X.1.2.1 dL_full_74 (by decide) (fun _ => ?_) (fun h9 => absurd rfl h9)
  refine W.widen (k := 215) (n := 4123) (Nat.le_of_ble_eq_true rfl) (Nat.le_of_ble_eq_true rfl) ?_
  exact fin _ _ _ _ _ hV hw hr hl
set_option maxHeartbeats 4000000 in
set_option maxRecDepth 100000 in
theorem w_ful_12 {p : Program} {l : Launch} {e : Env} {s : State} {m : MethodId} {args : Array Value} {below : List Frame} {meth : Method} {c : Code} {g : wG} {Q : State → Prop} {y : (Nat → Nat → Int32) × (Nat → Int64) × (Nat → UInt64)} (X : LX p l s m args c cL_full 2 g)
    (fin : FN p l e rmD s m args below meth c g y Q 13 (ch_ful_13) 2 [(1, .int 6), (0, .ref (gA g 0))] 221 4157 79) : FN p l e rmD s m args below meth c g y Q 12 (ch_ful_12) 2 [(1, .int 5), (0, .ref (gA g 0))] 215 4123 79 := by
  intro S B H locs ls hV hw hr hl
  obtain ⟨n9, m9, ne9, n8, m8, hN, hN1, hev, hne, hne2⟩ := hV.cnt
  obtain ⟨he, hq, hz, hr⟩ := cC_e hr
  refine lv_iinc (v := 6) (lv' := [(1, .int 6), (0, .ref (gA g 0))]) X.1.1 X.1.2.1 dL_full_79 hl (k := 0) rfl (by decide) (by decide) rfl (fun ls hl => ?_)
  refine lv_goto (tgt := 10) X.1.1 X.1.2.1 dL_full_82 (by decide) ?_
  refine lv_iload_n X.1.1 X.1.2.1 dL_full_10 rfl (lv_at hl 0 rfl) ?_
  refine lv_bipush (v := 20) X.1.1 X.1.2.1 dL_full_11 (by decide +kernel) ?_
  refine lv_icmp_ge (tgt := 85) X.1.1 X.1.2.1 dL_full_13 (by decide) (fun h9 => absurd h9 (by decide)) (fun _ => ?_)
  refine lv_iload_n X.1.1 X.1.2.1 dL_full_16 rfl (lv_at hl 0 rfl) ?_
  refine lv_bipush (v := 6) X.1.1 X.1.2.1 dL_full_17 (by decide +kernel) ?_
  refine lv_icmp_ge (tgt := 46) X.1.1 X.1.2.1 dL_full_19 (by decide) (fun _ => ?_) (fun h9 => absurd h9 (by decide))
  refine lv_aload_n X.1.1 X.1.2.1 dL_full_46 rfl (lv_at hl 1 rfl) ?_
  refine lv_bipush (v := (nI 99)) X.1.1 X.1.2.1 dL_full_47 (by decide +kernel) ?_
  refine lv_iconst (v := 4) X.1.1 X.1.2.1 dL_full_49 (by decide) ?_
  refine k_newv (n := 4) (N := 4) X.1 X.2.2.1 hw q_ai (by decide) (by decide) (by decide) (Nat.le_of_ble_eq_true rfl) (Nat.le_of_ble_eq_true rfl) dL_full_50 (fun b H hv => ?_)
  refine lv_dup X.1.1 X.1.2.1 dL_full_52 rfl ?_
  refine lv_iconst (v := 0) X.1.1 X.1.2.1 dL_full_53 (by decide) ?_
  refine lv_iconst (v := 0) X.1.1 X.1.2.1 dL_full_54 (by decide) ?_
  refine k_vst (v := 0) (n := 0) X.1 X.2.2.1 hv (vp_in_nI (n := 0) (by decide) (by decide)) (by decide) dL_full_55 (fun H locs hv => ?_)
  refine lv_dup X.1.1 X.1.2.1 dL_full_56 rfl ?_
  refine lv_iconst (v := 1) X.1.1 X.1.2.1 dL_full_57 (by decide) ?_
  refine lv_bipush (v := 9) X.1.1 X.1.2.1 dL_full_58 (by decide +kernel) ?_
  refine k_vst (v := 9) (n := 1) X.1 X.2.2.1 hv (vp_in_nI (n := 1) (by decide) (by decide)) (by decide) dL_full_60 (fun H locs hv => ?_)
  refine lv_dup X.1.1 X.1.2.1 dL_full_61 rfl ?_
  refine lv_iconst (v := 2) X.1.1 X.1.2.1 dL_full_62 (by decide) ?_
  refine lv_bipush (v := 49) X.1.1 X.1.2.1 dL_full_63 (by decide +kernel) ?_
  refine k_vst (v := 49) (n := 2) X.1 X.2.2.1 hv (vp_in_nI (n := 2) (by decide) (by decide)) (by decide) dL_full_65 (fun H locs hv => ?_)
  refine lv_dup X.1.1 X.1.2.1 dL_full_66 rfl ?_
  refine lv_iconst (v := 3) X.1.1 X.1.2.1 dL_full_67 (by decide) ?_
  refine lv_iconst (v := 0) X.1.1 X.1.2.1 dL_full_68 (by decide) ?_
  refine k_vst (v := 0) (n := 3) X.1 X.2.2.1 hv (vp_in_nI (n := 3) (by decide) (by decide)) (by decide) dL_full_69 (fun H locs hv => ?_)
  refine sN X (mA_complain l g X.2.2.2 S B y (upd (upd (upd (upd (fun _ => 0) 0 0) 1 9) 2 49) 3 0) 0 9 49 0 rfl rfl rfl rfl _ _ hN hev) hv hl dL_full_70 ⟨Nat.le_of_ble_eq_true rfl, Nat.le_of_ble_eq_true rfl⟩ ⟨Nat.le_of_ble_eq_true rfl, Nat.le_of_ble_eq_true rfl⟩ he (fun H locs hw => ?_)
  have hV := hV.ev (by decide) (fa_complain he) hz
  have hw := hw.nrmW
  refine vn_ (v9 := 6) (vIs_e hq) ?_
  refine lv_iload_n X.1.1 X.1.2.1 dL_full_73 rfl (lv_at hl 0 rfl) ?_
  refine lv_icmp_eq (tgt := 79) X.1.1 X.1.2.1 dL_full_74 (by decide) (fun _ => ?_) (fun h9 => absurd rfl h9)
  refine W.widen (k := 221) (n := 4157) (Nat.le_of_ble_eq_true rfl) (Nat.le_of_ble_eq_true rfl) ?_
  exact fin _ _ _ _ _ hV hw hr hl
set_option maxHeartbeats 4000000 in
set_option maxRecDepth 100000 in
theorem w_ful_13 {p : Program} {l : Launch} {e : Env} {s : State} {m : MethodId} {args : Array Value} {below : List Frame} {meth : Method} {c : Code} {g : wG} {Q : State → Prop} {y : (Nat → Nat → Int32) × (Nat → Int64) × (Nat → UInt64)} (X : LX p l s m args c cL_full 2 g)
    (fin : FN p l e rmD s m args below meth c g y Q 14 (ch_ful_14) 2 [(1, .int 7), (0, .ref (gA g 0))] 227 4191 79) : FN p l e rmD s m args below meth c g y Q 13 (ch_ful_13) 2 [(1, .int 6), (0, .ref (gA g 0))] 221 4157 79 := by
  intro S B H locs ls hV hw hr hl
  obtain ⟨n9, m9, ne9, n8, m8, hN, hN1, hev, hne, hne2⟩ := hV.cnt
  obtain ⟨he, hq, hz, hr⟩ := cC_e hr
  refine lv_iinc (v := 7) (lv' := [(1, .int 7), (0, .ref (gA g 0))]) X.1.1 X.1.2.1 dL_full_79 hl (k := 0) rfl (by decide) (by decide) rfl (fun ls hl => ?_)
  refine lv_goto (tgt := 10) X.1.1 X.1.2.1 dL_full_82 (by decide) ?_
  refine lv_iload_n X.1.1 X.1.2.1 dL_full_10 rfl (lv_at hl 0 rfl) ?_
  refine lv_bipush (v := 20) X.1.1 X.1.2.1 dL_full_11 (by decide +kernel) ?_
  refine lv_icmp_ge (tgt := 85) X.1.1 X.1.2.1 dL_full_13 (by decide) (fun h9 => absurd h9 (by decide)) (fun _ => ?_)
  refine lv_iload_n X.1.1 X.1.2.1 dL_full_16 rfl (lv_at hl 0 rfl) ?_
  refine lv_bipush (v := 6) X.1.1 X.1.2.1 dL_full_17 (by decide +kernel) ?_
  refine lv_icmp_ge (tgt := 46) X.1.1 X.1.2.1 dL_full_19 (by decide) (fun _ => ?_) (fun h9 => absurd h9 (by decide))
  refine lv_aload_n X.1.1 X.1.2.1 dL_full_46 rfl (lv_at hl 1 rfl) ?_
  refine lv_bipush (v := (nI 99)) X.1.1 X.1.2.1 dL_full_47 (by decide +kernel) ?_
  refine lv_iconst (v := 4) X.1.1 X.1.2.1 dL_full_49 (by decide) ?_
  refine k_newv (n := 4) (N := 4) X.1 X.2.2.1 hw q_ai (by decide) (by decide) (by decide) (Nat.le_of_ble_eq_true rfl) (Nat.le_of_ble_eq_true rfl) dL_full_50 (fun b H hv => ?_)
  refine lv_dup X.1.1 X.1.2.1 dL_full_52 rfl ?_
  refine lv_iconst (v := 0) X.1.1 X.1.2.1 dL_full_53 (by decide) ?_
  refine lv_iconst (v := 0) X.1.1 X.1.2.1 dL_full_54 (by decide) ?_
  refine k_vst (v := 0) (n := 0) X.1 X.2.2.1 hv (vp_in_nI (n := 0) (by decide) (by decide)) (by decide) dL_full_55 (fun H locs hv => ?_)
  refine lv_dup X.1.1 X.1.2.1 dL_full_56 rfl ?_
  refine lv_iconst (v := 1) X.1.1 X.1.2.1 dL_full_57 (by decide) ?_
  refine lv_bipush (v := 9) X.1.1 X.1.2.1 dL_full_58 (by decide +kernel) ?_
  refine k_vst (v := 9) (n := 1) X.1 X.2.2.1 hv (vp_in_nI (n := 1) (by decide) (by decide)) (by decide) dL_full_60 (fun H locs hv => ?_)
  refine lv_dup X.1.1 X.1.2.1 dL_full_61 rfl ?_
  refine lv_iconst (v := 2) X.1.1 X.1.2.1 dL_full_62 (by decide) ?_
  refine lv_bipush (v := 49) X.1.1 X.1.2.1 dL_full_63 (by decide +kernel) ?_
  refine k_vst (v := 49) (n := 2) X.1 X.2.2.1 hv (vp_in_nI (n := 2) (by decide) (by decide)) (by decide) dL_full_65 (fun H locs hv => ?_)
  refine lv_dup X.1.1 X.1.2.1 dL_full_66 rfl ?_
  refine lv_iconst (v := 3) X.1.1 X.1.2.1 dL_full_67 (by decide) ?_
  refine lv_iconst (v := 0) X.1.1 X.1.2.1 dL_full_68 (by decide) ?_
  refine k_vst (v := 0) (n := 3) X.1 X.2.2.1 hv (vp_in_nI (n := 3) (by decide) (by decide)) (by decide) dL_full_69 (fun H locs hv => ?_)
  refine sN X (mA_complain l g X.2.2.2 S B y (upd (upd (upd (upd (fun _ => 0) 0 0) 1 9) 2 49) 3 0) 0 9 49 0 rfl rfl rfl rfl _ _ hN hev) hv hl dL_full_70 ⟨Nat.le_of_ble_eq_true rfl, Nat.le_of_ble_eq_true rfl⟩ ⟨Nat.le_of_ble_eq_true rfl, Nat.le_of_ble_eq_true rfl⟩ he (fun H locs hw => ?_)
  have hV := hV.ev (by decide) (fa_complain he) hz
  have hw := hw.nrmW
  refine vn_ (v9 := 7) (vIs_e hq) ?_
  refine lv_iload_n X.1.1 X.1.2.1 dL_full_73 rfl (lv_at hl 0 rfl) ?_
  refine lv_icmp_eq (tgt := 79) X.1.1 X.1.2.1 dL_full_74 (by decide) (fun _ => ?_) (fun h9 => absurd rfl h9)
  refine W.widen (k := 227) (n := 4191) (Nat.le_of_ble_eq_true rfl) (Nat.le_of_ble_eq_true rfl) ?_
  exact fin _ _ _ _ _ hV hw hr hl
set_option maxHeartbeats 4000000 in
set_option maxRecDepth 100000 in
theorem w_ful_14 {p : Program} {l : Launch} {e : Env} {s : State} {m : MethodId} {args : Array Value} {below : List Frame} {meth : Method} {c : Code} {g : wG} {Q : State → Prop} {y : (Nat → Nat → Int32) × (Nat → Int64) × (Nat → UInt64)} (X : LX p l s m args c cL_full 2 g)
    (fin : FN p l e rmD s m args below meth c g y Q 15 (ch_ful_15) 2 [(1, .int 8), (0, .ref (gA g 0))] 233 4225 79) : FN p l e rmD s m args below meth c g y Q 14 (ch_ful_14) 2 [(1, .int 7), (0, .ref (gA g 0))] 227 4191 79 := by
  intro S B H locs ls hV hw hr hl
  obtain ⟨n9, m9, ne9, n8, m8, hN, hN1, hev, hne, hne2⟩ := hV.cnt
  obtain ⟨he, hq, hz, hr⟩ := cC_e hr
  refine lv_iinc (v := 8) (lv' := [(1, .int 8), (0, .ref (gA g 0))]) X.1.1 X.1.2.1 dL_full_79 hl (k := 0) rfl (by decide) (by decide) rfl (fun ls hl => ?_)
  refine lv_goto (tgt := 10) X.1.1 X.1.2.1 dL_full_82 (by decide) ?_
  refine lv_iload_n X.1.1 X.1.2.1 dL_full_10 rfl (lv_at hl 0 rfl) ?_
  refine lv_bipush (v := 20) X.1.1 X.1.2.1 dL_full_11 (by decide +kernel) ?_
  refine lv_icmp_ge (tgt := 85) X.1.1 X.1.2.1 dL_full_13 (by decide) (fun h9 => absurd h9 (by decide)) (fun _ => ?_)
  refine lv_iload_n X.1.1 X.1.2.1 dL_full_16 rfl (lv_at hl 0 rfl) ?_
  refine lv_bipush (v := 6) X.1.1 X.1.2.1 dL_full_17 (by decide +kernel) ?_
  refine lv_icmp_ge (tgt := 46) X.1.1 X.1.2.1 dL_full_19 (by decide) (fun _ => ?_) (fun h9 => absurd h9 (by decide))
  refine lv_aload_n X.1.1 X.1.2.1 dL_full_46 rfl (lv_at hl 1 rfl) ?_
  refine lv_bipush (v := (nI 99)) X.1.1 X.1.2.1 dL_full_47 (by decide +kernel) ?_
  refine lv_iconst (v := 4) X.1.1 X.1.2.1 dL_full_49 (by decide) ?_
  refine k_newv (n := 4) (N := 4) X.1 X.2.2.1 hw q_ai (by decide) (by decide) (by decide) (Nat.le_of_ble_eq_true rfl) (Nat.le_of_ble_eq_true rfl) dL_full_50 (fun b H hv => ?_)
  refine lv_dup X.1.1 X.1.2.1 dL_full_52 rfl ?_
  refine lv_iconst (v := 0) X.1.1 X.1.2.1 dL_full_53 (by decide) ?_
  refine lv_iconst (v := 0) X.1.1 X.1.2.1 dL_full_54 (by decide) ?_
  refine k_vst (v := 0) (n := 0) X.1 X.2.2.1 hv (vp_in_nI (n := 0) (by decide) (by decide)) (by decide) dL_full_55 (fun H locs hv => ?_)
  refine lv_dup X.1.1 X.1.2.1 dL_full_56 rfl ?_
  refine lv_iconst (v := 1) X.1.1 X.1.2.1 dL_full_57 (by decide) ?_
  refine lv_bipush (v := 9) X.1.1 X.1.2.1 dL_full_58 (by decide +kernel) ?_
  refine k_vst (v := 9) (n := 1) X.1 X.2.2.1 hv (vp_in_nI (n := 1) (by decide) (by decide)) (by decide) dL_full_60 (fun H locs hv => ?_)
  refine lv_dup X.1.1 X.1.2.1 dL_full_61 rfl ?_
  refine lv_iconst (v := 2) X.1.1 X.1.2.1 dL_full_62 (by decide) ?_
  refine lv_bipush (v := 49) X.1.1 X.1.2.1 dL_full_63 (by decide +kernel) ?_
  refine k_vst (v := 49) (n := 2) X.1 X.2.2.1 hv (vp_in_nI (n := 2) (by decide) (by decide)) (by decide) dL_full_65 (fun H locs hv => ?_)
  refine lv_dup X.1.1 X.1.2.1 dL_full_66 rfl ?_
  refine lv_iconst (v := 3) X.1.1 X.1.2.1 dL_full_67 (by decide) ?_
  refine lv_iconst (v := 0) X.1.1 X.1.2.1 dL_full_68 (by decide) ?_
  refine k_vst (v := 0) (n := 3) X.1 X.2.2.1 hv (vp_in_nI (n := 3) (by decide) (by decide)) (by decide) dL_full_69 (fun H locs hv => ?_)
  refine sN X (mA_complain l g X.2.2.2 S B y (upd (upd (upd (upd (fun _ => 0) 0 0) 1 9) 2 49) 3 0) 0 9 49 0 rfl rfl rfl rfl _ _ hN hev) hv hl dL_full_70 ⟨Nat.le_of_ble_eq_true rfl, Nat.le_of_ble_eq_true rfl⟩ ⟨Nat.le_of_ble_eq_true rfl, Nat.le_of_ble_eq_true rfl⟩ he (fun H locs hw => ?_)
  have hV := hV.ev (by decide) (fa_complain he) hz
  have hw := hw.nrmW
  refine vn_ (v9 := 8) (vIs_e hq) ?_
  refine lv_iload_n X.1.1 X.1.2.1 dL_full_73 rfl (lv_at hl 0 rfl) ?_
  refine lv_icmp_eq (tgt := 79) X.1.1 X.1.2.1 dL_full_74 (by decide) (fun _ => ?_) (fun h9 => absurd rfl h9)
  refine W.widen (k := 233) (n := 4225) (Nat.le_of_ble_eq_true rfl) (Nat.le_of_ble_eq_true rfl) ?_
  exact fin _ _ _ _ _ hV hw hr hl
set_option maxHeartbeats 4000000 in
set_option maxRecDepth 100000 in
theorem w_ful_15 {p : Program} {l : Launch} {e : Env} {s : State} {m : MethodId} {args : Array Value} {below : List Frame} {meth : Method} {c : Code} {g : wG} {Q : State → Prop} {y : (Nat → Nat → Int32) × (Nat → Int64) × (Nat → UInt64)} (X : LX p l s m args c cL_full 2 g)
    (fin : FN p l e rmD s m args below meth c g y Q 16 (ch_ful_16) 2 [(1, .int 9), (0, .ref (gA g 0))] 239 4259 79) : FN p l e rmD s m args below meth c g y Q 15 (ch_ful_15) 2 [(1, .int 8), (0, .ref (gA g 0))] 233 4225 79 := by
  intro S B H locs ls hV hw hr hl
  obtain ⟨n9, m9, ne9, n8, m8, hN, hN1, hev, hne, hne2⟩ := hV.cnt
  obtain ⟨he, hq, hz, hr⟩ := cC_e hr
  refine lv_iinc (v := 9) (lv' := [(1, .int 9), (0, .ref (gA g 0))]) X.1.1 X.1.2.1 dL_full_79 hl (k := 0) rfl (by decide) (by decide) rfl (fun ls hl => ?_)
  refine lv_goto (tgt := 10) X.1.1 X.1.2.1 dL_full_82 (by decide) ?_
  refine lv_iload_n X.1.1 X.1.2.1 dL_full_10 rfl (lv_at hl 0 rfl) ?_
  refine lv_bipush (v := 20) X.1.1 X.1.2.1 dL_full_11 (by decide +kernel) ?_
  refine lv_icmp_ge (tgt := 85) X.1.1 X.1.2.1 dL_full_13 (by decide) (fun h9 => absurd h9 (by decide)) (fun _ => ?_)
  refine lv_iload_n X.1.1 X.1.2.1 dL_full_16 rfl (lv_at hl 0 rfl) ?_
  refine lv_bipush (v := 6) X.1.1 X.1.2.1 dL_full_17 (by decide +kernel) ?_
  refine lv_icmp_ge (tgt := 46) X.1.1 X.1.2.1 dL_full_19 (by decide) (fun _ => ?_) (fun h9 => absurd h9 (by decide))
  refine lv_aload_n X.1.1 X.1.2.1 dL_full_46 rfl (lv_at hl 1 rfl) ?_
  refine lv_bipush (v := (nI 99)) X.1.1 X.1.2.1 dL_full_47 (by decide +kernel) ?_
  refine lv_iconst (v := 4) X.1.1 X.1.2.1 dL_full_49 (by decide) ?_
  refine k_newv (n := 4) (N := 4) X.1 X.2.2.1 hw q_ai (by decide) (by decide) (by decide) (Nat.le_of_ble_eq_true rfl) (Nat.le_of_ble_eq_true rfl) dL_full_50 (fun b H hv => ?_)
  refine lv_dup X.1.1 X.1.2.1 dL_full_52 rfl ?_
  refine lv_iconst (v := 0) X.1.1 X.1.2.1 dL_full_53 (by decide) ?_
  refine lv_iconst (v := 0) X.1.1 X.1.2.1 dL_full_54 (by decide) ?_
  refine k_vst (v := 0) (n := 0) X.1 X.2.2.1 hv (vp_in_nI (n := 0) (by decide) (by decide)) (by decide) dL_full_55 (fun H locs hv => ?_)
  refine lv_dup X.1.1 X.1.2.1 dL_full_56 rfl ?_
  refine lv_iconst (v := 1) X.1.1 X.1.2.1 dL_full_57 (by decide) ?_
  refine lv_bipush (v := 9) X.1.1 X.1.2.1 dL_full_58 (by decide +kernel) ?_
  refine k_vst (v := 9) (n := 1) X.1 X.2.2.1 hv (vp_in_nI (n := 1) (by decide) (by decide)) (by decide) dL_full_60 (fun H locs hv => ?_)
  refine lv_dup X.1.1 X.1.2.1 dL_full_61 rfl ?_
  refine lv_iconst (v := 2) X.1.1 X.1.2.1 dL_full_62 (by decide) ?_
  refine lv_bipush (v := 49) X.1.1 X.1.2.1 dL_full_63 (by decide +kernel) ?_
  refine k_vst (v := 49) (n := 2) X.1 X.2.2.1 hv (vp_in_nI (n := 2) (by decide) (by decide)) (by decide) dL_full_65 (fun H locs hv => ?_)
  refine lv_dup X.1.1 X.1.2.1 dL_full_66 rfl ?_
  refine lv_iconst (v := 3) X.1.1 X.1.2.1 dL_full_67 (by decide) ?_
  refine lv_iconst (v := 0) X.1.1 X.1.2.1 dL_full_68 (by decide) ?_
  refine k_vst (v := 0) (n := 3) X.1 X.2.2.1 hv (vp_in_nI (n := 3) (by decide) (by decide)) (by decide) dL_full_69 (fun H locs hv => ?_)
  refine sN X (mA_complain l g X.2.2.2 S B y (upd (upd (upd (upd (fun _ => 0) 0 0) 1 9) 2 49) 3 0) 0 9 49 0 rfl rfl rfl rfl _ _ hN hev) hv hl dL_full_70 ⟨Nat.le_of_ble_eq_true rfl, Nat.le_of_ble_eq_true rfl⟩ ⟨Nat.le_of_ble_eq_true rfl, Nat.le_of_ble_eq_true rfl⟩ he (fun H locs hw => ?_)
  have hV := hV.ev (by decide) (fa_complain he) hz
  have hw := hw.nrmW
  refine vn_ (v9 := 9) (vIs_e hq) ?_
  refine lv_iload_n X.1.1 X.1.2.1 dL_full_73 rfl (lv_at hl 0 rfl) ?_
  refine lv_icmp_eq (tgt := 79) X.1.1 X.1.2.1 dL_full_74 (by decide) (fun _ => ?_) (fun h9 => absurd rfl h9)
  refine W.widen (k := 239) (n := 4259) (Nat.le_of_ble_eq_true rfl) (Nat.le_of_ble_eq_true rfl) ?_
  exact fin _ _ _ _ _ hV hw hr hl
set_option maxHeartbeats 4000000 in
set_option maxRecDepth 100000 in
theorem w_ful_16 {p : Program} {l : Launch} {e : Env} {s : State} {m : MethodId} {args : Array Value} {below : List Frame} {meth : Method} {c : Code} {g : wG} {Q : State → Prop} {y : (Nat → Nat → Int32) × (Nat → Int64) × (Nat → UInt64)} (X : LX p l s m args c cL_full 2 g)
    (fin : FN p l e rmD s m args below meth c g y Q 17 (ch_ful_17) 2 [(1, .int 10), (0, .ref (gA g 0))] 245 4293 79) : FN p l e rmD s m args below meth c g y Q 16 (ch_ful_16) 2 [(1, .int 9), (0, .ref (gA g 0))] 239 4259 79 := by
  intro S B H locs ls hV hw hr hl
  obtain ⟨n9, m9, ne9, n8, m8, hN, hN1, hev, hne, hne2⟩ := hV.cnt
  obtain ⟨he, hq, hz, hr⟩ := cC_e hr
  refine lv_iinc (v := 10) (lv' := [(1, .int 10), (0, .ref (gA g 0))]) X.1.1 X.1.2.1 dL_full_79 hl (k := 0) rfl (by decide) (by decide) rfl (fun ls hl => ?_)
  refine lv_goto (tgt := 10) X.1.1 X.1.2.1 dL_full_82 (by decide) ?_
  refine lv_iload_n X.1.1 X.1.2.1 dL_full_10 rfl (lv_at hl 0 rfl) ?_
  refine lv_bipush (v := 20) X.1.1 X.1.2.1 dL_full_11 (by decide +kernel) ?_
  refine lv_icmp_ge (tgt := 85) X.1.1 X.1.2.1 dL_full_13 (by decide) (fun h9 => absurd h9 (by decide)) (fun _ => ?_)
  refine lv_iload_n X.1.1 X.1.2.1 dL_full_16 rfl (lv_at hl 0 rfl) ?_
  refine lv_bipush (v := 6) X.1.1 X.1.2.1 dL_full_17 (by decide +kernel) ?_
  refine lv_icmp_ge (tgt := 46) X.1.1 X.1.2.1 dL_full_19 (by decide) (fun _ => ?_) (fun h9 => absurd h9 (by decide))
  refine lv_aload_n X.1.1 X.1.2.1 dL_full_46 rfl (lv_at hl 1 rfl) ?_
  refine lv_bipush (v := (nI 99)) X.1.1 X.1.2.1 dL_full_47 (by decide +kernel) ?_
  refine lv_iconst (v := 4) X.1.1 X.1.2.1 dL_full_49 (by decide) ?_
  refine k_newv (n := 4) (N := 4) X.1 X.2.2.1 hw q_ai (by decide) (by decide) (by decide) (Nat.le_of_ble_eq_true rfl) (Nat.le_of_ble_eq_true rfl) dL_full_50 (fun b H hv => ?_)
  refine lv_dup X.1.1 X.1.2.1 dL_full_52 rfl ?_
  refine lv_iconst (v := 0) X.1.1 X.1.2.1 dL_full_53 (by decide) ?_
  refine lv_iconst (v := 0) X.1.1 X.1.2.1 dL_full_54 (by decide) ?_
  refine k_vst (v := 0) (n := 0) X.1 X.2.2.1 hv (vp_in_nI (n := 0) (by decide) (by decide)) (by decide) dL_full_55 (fun H locs hv => ?_)
  refine lv_dup X.1.1 X.1.2.1 dL_full_56 rfl ?_
  refine lv_iconst (v := 1) X.1.1 X.1.2.1 dL_full_57 (by decide) ?_
  refine lv_bipush (v := 9) X.1.1 X.1.2.1 dL_full_58 (by decide +kernel) ?_
  refine k_vst (v := 9) (n := 1) X.1 X.2.2.1 hv (vp_in_nI (n := 1) (by decide) (by decide)) (by decide) dL_full_60 (fun H locs hv => ?_)
  refine lv_dup X.1.1 X.1.2.1 dL_full_61 rfl ?_
  refine lv_iconst (v := 2) X.1.1 X.1.2.1 dL_full_62 (by decide) ?_
  refine lv_bipush (v := 49) X.1.1 X.1.2.1 dL_full_63 (by decide +kernel) ?_
  refine k_vst (v := 49) (n := 2) X.1 X.2.2.1 hv (vp_in_nI (n := 2) (by decide) (by decide)) (by decide) dL_full_65 (fun H locs hv => ?_)
  refine lv_dup X.1.1 X.1.2.1 dL_full_66 rfl ?_
  refine lv_iconst (v := 3) X.1.1 X.1.2.1 dL_full_67 (by decide) ?_
  refine lv_iconst (v := 0) X.1.1 X.1.2.1 dL_full_68 (by decide) ?_
  refine k_vst (v := 0) (n := 3) X.1 X.2.2.1 hv (vp_in_nI (n := 3) (by decide) (by decide)) (by decide) dL_full_69 (fun H locs hv => ?_)
  refine sN X (mA_complain l g X.2.2.2 S B y (upd (upd (upd (upd (fun _ => 0) 0 0) 1 9) 2 49) 3 0) 0 9 49 0 rfl rfl rfl rfl _ _ hN hev) hv hl dL_full_70 ⟨Nat.le_of_ble_eq_true rfl, Nat.le_of_ble_eq_true rfl⟩ ⟨Nat.le_of_ble_eq_true rfl, Nat.le_of_ble_eq_true rfl⟩ he (fun H locs hw => ?_)
  have hV := hV.ev (by decide) (fa_complain he) hz
  have hw := hw.nrmW
  refine vn_ (v9 := 10) (vIs_e hq) ?_
  refine lv_iload_n X.1.1 X.1.2.1 dL_full_73 rfl (lv_at hl 0 rfl) ?_
  refine lv_icmp_eq (tgt := 79) X.1.1 X.1.2.1 dL_full_74 (by decide) (fun _ => ?_) (fun h9 => absurd rfl h9)
  refine W.widen (k := 245) (n := 4293) (Nat.le_of_ble_eq_true rfl) (Nat.le_of_ble_eq_true rfl) ?_
  exact fin _ _ _ _ _ hV hw hr hl
set_option maxHeartbeats 4000000 in
set_option maxRecDepth 100000 in
theorem w_ful_17 {p : Program} {l : Launch} {e : Env} {s : State} {m : MethodId} {args : Array Value} {below : List Frame} {meth : Method} {c : Code} {g : wG} {Q : State → Prop} {y : (Nat → Nat → Int32) × (Nat → Int64) × (Nat → UInt64)} (X : LX p l s m args c cL_full 2 g)
    (fin : FN p l e rmD s m args below meth c g y Q 18 (ch_ful_18) 2 [(1, .int 11), (0, .ref (gA g 0))] 251 4327 79) : FN p l e rmD s m args below meth c g y Q 17 (ch_ful_17) 2 [(1, .int 10), (0, .ref (gA g 0))] 245 4293 79 := by
  intro S B H locs ls hV hw hr hl
  obtain ⟨n9, m9, ne9, n8, m8, hN, hN1, hev, hne, hne2⟩ := hV.cnt
  obtain ⟨he, hq, hz, hr⟩ := cC_e hr
  refine lv_iinc (v := 11) (lv' := [(1, .int 11), (0, .ref (gA g 0))]) X.1.1 X.1.2.1 dL_full_79 hl (k := 0) rfl (by decide) (by decide) rfl (fun ls hl => ?_)
  refine lv_goto (tgt := 10) X.1.1 X.1.2.1 dL_full_82 (by decide) ?_
  refine lv_iload_n X.1.1 X.1.2.1 dL_full_10 rfl (lv_at hl 0 rfl) ?_
  refine lv_bipush (v := 20) X.1.1 X.1.2.1 dL_full_11 (by decide +kernel) ?_
  refine lv_icmp_ge (tgt := 85) X.1.1 X.1.2.1 dL_full_13 (by decide) (fun h9 => absurd h9 (by decide)) (fun _ => ?_)
  refine lv_iload_n X.1.1 X.1.2.1 dL_full_16 rfl (lv_at hl 0 rfl) ?_
  refine lv_bipush (v := 6) X.1.1 X.1.2.1 dL_full_17 (by decide +kernel) ?_
  refine lv_icmp_ge (tgt := 46) X.1.1 X.1.2.1 dL_full_19 (by decide) (fun _ => ?_) (fun h9 => absurd h9 (by decide))
  refine lv_aload_n X.1.1 X.1.2.1 dL_full_46 rfl (lv_at hl 1 rfl) ?_
  refine lv_bipush (v := (nI 99)) X.1.1 X.1.2.1 dL_full_47 (by decide +kernel) ?_
  refine lv_iconst (v := 4) X.1.1 X.1.2.1 dL_full_49 (by decide) ?_
  refine k_newv (n := 4) (N := 4) X.1 X.2.2.1 hw q_ai (by decide) (by decide) (by decide) (Nat.le_of_ble_eq_true rfl) (Nat.le_of_ble_eq_true rfl) dL_full_50 (fun b H hv => ?_)
  refine lv_dup X.1.1 X.1.2.1 dL_full_52 rfl ?_
  refine lv_iconst (v := 0) X.1.1 X.1.2.1 dL_full_53 (by decide) ?_
  refine lv_iconst (v := 0) X.1.1 X.1.2.1 dL_full_54 (by decide) ?_
  refine k_vst (v := 0) (n := 0) X.1 X.2.2.1 hv (vp_in_nI (n := 0) (by decide) (by decide)) (by decide) dL_full_55 (fun H locs hv => ?_)
  refine lv_dup X.1.1 X.1.2.1 dL_full_56 rfl ?_
  refine lv_iconst (v := 1) X.1.1 X.1.2.1 dL_full_57 (by decide) ?_
  refine lv_bipush (v := 9) X.1.1 X.1.2.1 dL_full_58 (by decide +kernel) ?_
  refine k_vst (v := 9) (n := 1) X.1 X.2.2.1 hv (vp_in_nI (n := 1) (by decide) (by decide)) (by decide) dL_full_60 (fun H locs hv => ?_)
  refine lv_dup X.1.1 X.1.2.1 dL_full_61 rfl ?_
  refine lv_iconst (v := 2) X.1.1 X.1.2.1 dL_full_62 (by decide) ?_
  refine lv_bipush (v := 49) X.1.1 X.1.2.1 dL_full_63 (by decide +kernel) ?_
  refine k_vst (v := 49) (n := 2) X.1 X.2.2.1 hv (vp_in_nI (n := 2) (by decide) (by decide)) (by decide) dL_full_65 (fun H locs hv => ?_)
  refine lv_dup X.1.1 X.1.2.1 dL_full_66 rfl ?_
  refine lv_iconst (v := 3) X.1.1 X.1.2.1 dL_full_67 (by decide) ?_
  refine lv_iconst (v := 0) X.1.1 X.1.2.1 dL_full_68 (by decide) ?_
  refine k_vst (v := 0) (n := 3) X.1 X.2.2.1 hv (vp_in_nI (n := 3) (by decide) (by decide)) (by decide) dL_full_69 (fun H locs hv => ?_)
  refine sN X (mA_complain l g X.2.2.2 S B y (upd (upd (upd (upd (fun _ => 0) 0 0) 1 9) 2 49) 3 0) 0 9 49 0 rfl rfl rfl rfl _ _ hN hev) hv hl dL_full_70 ⟨Nat.le_of_ble_eq_true rfl, Nat.le_of_ble_eq_true rfl⟩ ⟨Nat.le_of_ble_eq_true rfl, Nat.le_of_ble_eq_true rfl⟩ he (fun H locs hw => ?_)
  have hV := hV.ev (by decide) (fa_complain he) hz
  have hw := hw.nrmW
  refine vn_ (v9 := 11) (vIs_e hq) ?_
  refine lv_iload_n X.1.1 X.1.2.1 dL_full_73 rfl (lv_at hl 0 rfl) ?_
  refine lv_icmp_eq (tgt := 79) X.1.1 X.1.2.1 dL_full_74 (by decide) (fun _ => ?_) (fun h9 => absurd rfl h9)
  refine W.widen (k := 251) (n := 4327) (Nat.le_of_ble_eq_true rfl) (Nat.le_of_ble_eq_true rfl) ?_
  exact fin _ _ _ _ _ hV hw hr hl
set_option maxHeartbeats 4000000 in
set_option maxRecDepth 100000 in
theorem w_ful_18 {p : Program} {l : Launch} {e : Env} {s : State} {m : MethodId} {args : Array Value} {below : List Frame} {meth : Method} {c : Code} {g : wG} {Q : State → Prop} {y : (Nat → Nat → Int32) × (Nat → Int64) × (Nat → UInt64)} (X : LX p l s m args c cL_full 2 g)
    (fin : FN p l e rmD s m args below meth c g y Q 19 (ch_ful_19) 2 [(1, .int 12), (0, .ref (gA g 0))] 257 4361 79) : FN p l e rmD s m args below meth c g y Q 18 (ch_ful_18) 2 [(1, .int 11), (0, .ref (gA g 0))] 251 4327 79 := by
  intro S B H locs ls hV hw hr hl
  obtain ⟨n9, m9, ne9, n8, m8, hN, hN1, hev, hne, hne2⟩ := hV.cnt
  obtain ⟨he, hq, hz, hr⟩ := cC_e hr
  refine lv_iinc (v := 12) (lv' := [(1, .int 12), (0, .ref (gA g 0))]) X.1.1 X.1.2.1 dL_full_79 hl (k := 0) rfl (by decide) (by decide) rfl (fun ls hl => ?_)
  refine lv_goto (tgt := 10) X.1.1 X.1.2.1 dL_full_82 (by decide) ?_
  refine lv_iload_n X.1.1 X.1.2.1 dL_full_10 rfl (lv_at hl 0 rfl) ?_
  refine lv_bipush (v := 20) X.1.1 X.1.2.1 dL_full_11 (by decide +kernel) ?_
  refine lv_icmp_ge (tgt := 85) X.1.1 X.1.2.1 dL_full_13 (by decide) (fun h9 => absurd h9 (by decide)) (fun _ => ?_)
  refine lv_iload_n X.1.1 X.1.2.1 dL_full_16 rfl (lv_at hl 0 rfl) ?_
  refine lv_bipush (v := 6) X.1.1 X.1.2.1 dL_full_17 (by decide +kernel) ?_
  refine lv_icmp_ge (tgt := 46) X.1.1 X.1.2.1 dL_full_19 (by decide) (fun _ => ?_) (fun h9 => absurd h9 (by decide))
  refine lv_aload_n X.1.1 X.1.2.1 dL_full_46 rfl (lv_at hl 1 rfl) ?_
  refine lv_bipush (v := (nI 99)) X.1.1 X.1.2.1 dL_full_47 (by decide +kernel) ?_
  refine lv_iconst (v := 4) X.1.1 X.1.2.1 dL_full_49 (by decide) ?_
  refine k_newv (n := 4) (N := 4) X.1 X.2.2.1 hw q_ai (by decide) (by decide) (by decide) (Nat.le_of_ble_eq_true rfl) (Nat.le_of_ble_eq_true rfl) dL_full_50 (fun b H hv => ?_)
  refine lv_dup X.1.1 X.1.2.1 dL_full_52 rfl ?_
  refine lv_iconst (v := 0) X.1.1 X.1.2.1 dL_full_53 (by decide) ?_
  refine lv_iconst (v := 0) X.1.1 X.1.2.1 dL_full_54 (by decide) ?_
  refine k_vst (v := 0) (n := 0) X.1 X.2.2.1 hv (vp_in_nI (n := 0) (by decide) (by decide)) (by decide) dL_full_55 (fun H locs hv => ?_)
  refine lv_dup X.1.1 X.1.2.1 dL_full_56 rfl ?_
  refine lv_iconst (v := 1) X.1.1 X.1.2.1 dL_full_57 (by decide) ?_
  refine lv_bipush (v := 9) X.1.1 X.1.2.1 dL_full_58 (by decide +kernel) ?_
  refine k_vst (v := 9) (n := 1) X.1 X.2.2.1 hv (vp_in_nI (n := 1) (by decide) (by decide)) (by decide) dL_full_60 (fun H locs hv => ?_)
  refine lv_dup X.1.1 X.1.2.1 dL_full_61 rfl ?_
  refine lv_iconst (v := 2) X.1.1 X.1.2.1 dL_full_62 (by decide) ?_
  refine lv_bipush (v := 49) X.1.1 X.1.2.1 dL_full_63 (by decide +kernel) ?_
  refine k_vst (v := 49) (n := 2) X.1 X.2.2.1 hv (vp_in_nI (n := 2) (by decide) (by decide)) (by decide) dL_full_65 (fun H locs hv => ?_)
  refine lv_dup X.1.1 X.1.2.1 dL_full_66 rfl ?_
  refine lv_iconst (v := 3) X.1.1 X.1.2.1 dL_full_67 (by decide) ?_
  refine lv_iconst (v := 0) X.1.1 X.1.2.1 dL_full_68 (by decide) ?_
  refine k_vst (v := 0) (n := 3) X.1 X.2.2.1 hv (vp_in_nI (n := 3) (by decide) (by decide)) (by decide) dL_full_69 (fun H locs hv => ?_)
  refine sN X (mA_complain l g X.2.2.2 S B y (upd (upd (upd (upd (fun _ => 0) 0 0) 1 9) 2 49) 3 0) 0 9 49 0 rfl rfl rfl rfl _ _ hN hev) hv hl dL_full_70 ⟨Nat.le_of_ble_eq_true rfl, Nat.le_of_ble_eq_true rfl⟩ ⟨Nat.le_of_ble_eq_true rfl, Nat.le_of_ble_eq_true rfl⟩ he (fun H locs hw => ?_)
  have hV := hV.ev (by decide) (fa_complain he) hz
  have hw := hw.nrmW
  refine vn_ (v9 := 12) (vIs_e hq) ?_
  refine lv_iload_n X.1.1 X.1.2.1 dL_full_73 rfl (lv_at hl 0 rfl) ?_
  refine lv_icmp_eq (tgt := 79) X.1.1 X.1.2.1 dL_full_74 (by decide) (fun _ => ?_) (fun h9 => absurd rfl h9)
  refine W.widen (k := 257) (n := 4361) (Nat.le_of_ble_eq_true rfl) (Nat.le_of_ble_eq_true rfl) ?_
  exact fin _ _ _ _ _ hV hw hr hl
set_option maxHeartbeats 4000000 in
set_option maxRecDepth 100000 in
theorem w_ful_19 {p : Program} {l : Launch} {e : Env} {s : State} {m : MethodId} {args : Array Value} {below : List Frame} {meth : Method} {c : Code} {g : wG} {Q : State → Prop} {y : (Nat → Nat → Int32) × (Nat → Int64) × (Nat → UInt64)} (X : LX p l s m args c cL_full 2 g)
    (fin : FN p l e rmD s m args below meth c g y Q 20 (ch_ful_20) 2 [(1, .int 13), (0, .ref (gA g 0))] 263 4395 79) : FN p l e rmD s m args below meth c g y Q 19 (ch_ful_19) 2 [(1, .int 12), (0, .ref (gA g 0))] 257 4361 79 := by
  intro S B H locs ls hV hw hr hl
  obtain ⟨n9, m9, ne9, n8, m8, hN, hN1, hev, hne, hne2⟩ := hV.cnt
  obtain ⟨he, hq, hz, hr⟩ := cC_e hr
  refine lv_iinc (v := 13) (lv' := [(1, .int 13), (0, .ref (gA g 0))]) X.1.1 X.1.2.1 dL_full_79 hl (k := 0) rfl (by decide) (by decide) rfl (fun ls hl => ?_)
  refine lv_goto (tgt := 10) X.1.1 X.1.2.1 dL_full_82 (by decide) ?_
  refine lv_iload_n X.1.1 X.1.2.1 dL_full_10 rfl (lv_at hl 0 rfl) ?_
  refine lv_bipush (v := 20) X.1.1 X.1.2.1 dL_full_11 (by decide +kernel) ?_
  refine lv_icmp_ge (tgt := 85) X.1.1 X.1.2.1 dL_full_13 (by decide) (fun h9 => absurd h9 (by decide)) (fun _ => ?_)
  refine lv_iload_n X.1.1 X.1.2.1 dL_full_16 rfl (lv_at hl 0 rfl) ?_
  refine lv_bipush (v := 6) X.1.1 X.1.2.1 dL_full_17 (by decide +kernel) ?_
  refine lv_icmp_ge (tgt := 46) X.1.1 X.1.2.1 dL_full_19 (by decide) (fun _ => ?_) (fun h9 => absurd h9 (by decide))
  refine lv_aload_n X.1.1 X.1.2.1 dL_full_46 rfl (lv_at hl 1 rfl) ?_
  refine lv_bipush (v := (nI 99)) X.1.1 X.1.2.1 dL_full_47 (by decide +kernel) ?_
  refine lv_iconst (v := 4) X.1.1 X.1.2.1 dL_full_49 (by decide) ?_
  refine k_newv (n := 4) (N := 4) X.1 X.2.2.1 hw q_ai (by decide) (by decide) (by decide) (Nat.le_of_ble_eq_true rfl) (Nat.le_of_ble_eq_true rfl) dL_full_50 (fun b H hv => ?_)
  refine lv_dup X.1.1 X.1.2.1 dL_full_52 rfl ?_
  refine lv_iconst (v := 0) X.1.1 X.1.2.1 dL_full_53 (by decide) ?_
  refine lv_iconst (v := 0) X.1.1 X.1.2.1 dL_full_54 (by decide) ?_
  refine k_vst (v := 0) (n := 0) X.1 X.2.2.1 hv (vp_in_nI (n := 0) (by decide) (by decide)) (by decide) dL_full_55 (fun H locs hv => ?_)
  refine lv_dup X.1.1 X.1.2.1 dL_full_56 rfl ?_
  refine lv_iconst (v := 1) X.1.1 X.1.2.1 dL_full_57 (by decide) ?_
  refine lv_bipush (v := 9) X.1.1 X.1.2.1 dL_full_58 (by decide +kernel) ?_
  refine k_vst (v := 9) (n := 1) X.1 X.2.2.1 hv (vp_in_nI (n := 1) (by decide) (by decide)) (by decide) dL_full_60 (fun H locs hv => ?_)
  refine lv_dup X.1.1 X.1.2.1 dL_full_61 rfl ?_
  refine lv_iconst (v := 2) X.1.1 X.1.2.1 dL_full_62 (by decide) ?_
  refine lv_bipush (v := 49) X.1.1 X.1.2.1 dL_full_63 (by decide +kernel) ?_
  refine k_vst (v := 49) (n := 2) X.1 X.2.2.1 hv (vp_in_nI (n := 2) (by decide) (by decide)) (by decide) dL_full_65 (fun H locs hv => ?_)
  refine lv_dup X.1.1 X.1.2.1 dL_full_66 rfl ?_
  refine lv_iconst (v := 3) X.1.1 X.1.2.1 dL_full_67 (by decide) ?_
  refine lv_iconst (v := 0) X.1.1 X.1.2.1 dL_full_68 (by decide) ?_
  refine k_vst (v := 0) (n := 3) X.1 X.2.2.1 hv (vp_in_nI (n := 3) (by decide) (by decide)) (by decide) dL_full_69 (fun H locs hv => ?_)
  refine sN X (mA_complain l g X.2.2.2 S B y (upd (upd (upd (upd (fun _ => 0) 0 0) 1 9) 2 49) 3 0) 0 9 49 0 rfl rfl rfl rfl _ _ hN hev) hv hl dL_full_70 ⟨Nat.le_of_ble_eq_true rfl, Nat.le_of_ble_eq_true rfl⟩ ⟨Nat.le_of_ble_eq_true rfl, Nat.le_of_ble_eq_true rfl⟩ he (fun H locs hw => ?_)
  have hV := hV.ev (by decide) (fa_complain he) hz
  have hw := hw.nrmW
  refine vn_ (v9 := 13) (vIs_e hq) ?_
  refine lv_iload_n X.1.1 X.1.2.1 dL_full_73 rfl (lv_at hl 0 rfl) ?_
  refine lv_icmp_eq (tgt := 79) X.1.1 X.1.2.1 dL_full_74 (by decide) (fun _ => ?_) (fun h9 => absurd rfl h9)
  refine W.widen (k := 263) (n := 4395) (Nat.le_of_ble_eq_true rfl) (Nat.le_of_ble_eq_true rfl) ?_
  exact fin _ _ _ _ _ hV hw hr hl
set_option maxHeartbeats 4000000 in
set_option maxRecDepth 100000 in
theorem w_ful_20 {p : Program} {l : Launch} {e : Env} {s : State} {m : MethodId} {args : Array Value} {below : List Frame} {meth : Method} {c : Code} {g : wG} {Q : State → Prop} {y : (Nat → Nat → Int32) × (Nat → Int64) × (Nat → UInt64)} (X : LX p l s m args c cL_full 2 g)
    (fin : FN p l e rmD s m args below meth c g y Q 21 (ch_ful_21) 2 [(1, .int 14), (0, .ref (gA g 0))] 269 4429 79) : FN p l e rmD s m args below meth c g y Q 20 (ch_ful_20) 2 [(1, .int 13), (0, .ref (gA g 0))] 263 4395 79 := by
  intro S B H locs ls hV hw hr hl
  obtain ⟨n9, m9, ne9, n8, m8, hN, hN1, hev, hne, hne2⟩ := hV.cnt
  obtain ⟨he, hq, hz, hr⟩ := cC_e hr
  refine lv_iinc (v := 14) (lv' := [(1, .int 14), (0, .ref (gA g 0))]) X.1.1 X.1.2.1 dL_full_79 hl (k := 0) rfl (by decide) (by decide) rfl (fun ls hl => ?_)
  refine lv_goto (tgt := 10) X.1.1 X.1.2.1 dL_full_82 (by decide) ?_
  refine lv_iload_n X.1.1 X.1.2.1 dL_full_10 rfl (lv_at hl 0 rfl) ?_
  refine lv_bipush (v := 20) X.1.1 X.1.2.1 dL_full_11 (by decide +kernel) ?_
  refine lv_icmp_ge (tgt := 85) X.1.1 X.1.2.1 dL_full_13 (by decide) (fun h9 => absurd h9 (by decide)) (fun _ => ?_)
  refine lv_iload_n X.1.1 X.1.2.1 dL_full_16 rfl (lv_at hl 0 rfl) ?_
  refine lv_bipush (v := 6) X.1.1 X.1.2.1 dL_full_17 (by decide +kernel) ?_
  refine lv_icmp_ge (tgt := 46) X.1.1 X.1.2.1 dL_full_19 (by decide) (fun _ => ?_) (fun h9 => absurd h9 (by decide))
  refine lv_aload_n X.1.1 X.1.2.1 dL_full_46 rfl (lv_at hl 1 rfl) ?_
  refine lv_bipush (v := (nI 99)) X.1.1 X.1.2.1 dL_full_47 (by decide +kernel) ?_
  refine lv_iconst (v := 4) X.1.1 X.1.2.1 dL_full_49 (by decide) ?_
  refine k_newv (n := 4) (N := 4) X.1 X.2.2.1 hw q_ai (by decide) (by decide) (by decide) (Nat.le_of_ble_eq_true rfl) (Nat.le_of_ble_eq_true rfl) dL_full_50 (fun b H hv => ?_)
  refine lv_dup X.1.1 X.1.2.1 dL_full_52 rfl ?_
  refine lv_iconst (v := 0) X.1.1 X.1.2.1 dL_full_53 (by decide) ?_
  refine lv_iconst (v := 0) X.1.1 X.1.2.1 dL_full_54 (by decide) ?_
  refine k_vst (v := 0) (n := 0) X.1 X.2.2.1 hv (vp_in_nI (n := 0) (by decide) (by decide)) (by decide) dL_full_55 (fun H locs hv => ?_)
  refine lv_dup X.1.1 X.1.2.1 dL_full_56 rfl ?_
  refine lv_iconst (v := 1) X.1.1 X.1.2.1 dL_full_57 (by decide) ?_
  refine lv_bipush (v := 9) X.1.1 X.1.2.1 dL_full_58 (by decide +kernel) ?_
  refine k_vst (v := 9) (n := 1) X.1 X.2.2.1 hv (vp_in_nI (n := 1) (by decide) (by decide)) (by decide) dL_full_60 (fun H locs hv => ?_)
  refine lv_dup X.1.1 X.1.2.1 dL_full_61 rfl ?_
  refine lv_iconst (v := 2) X.1.1 X.1.2.1 dL_full_62 (by decide) ?_
  refine lv_bipush (v := 49) X.1.1 X.1.2.1 dL_full_63 (by decide +kernel) ?_
  refine k_vst (v := 49) (n := 2) X.1 X.2.2.1 hv (vp_in_nI (n := 2) (by decide) (by decide)) (by decide) dL_full_65 (fun H locs hv => ?_)
  refine lv_dup X.1.1 X.1.2.1 dL_full_66 rfl ?_
  refine lv_iconst (v := 3) X.1.1 X.1.2.1 dL_full_67 (by decide) ?_
  refine lv_iconst (v := 0) X.1.1 X.1.2.1 dL_full_68 (by decide) ?_
  refine k_vst (v := 0) (n := 3) X.1 X.2.2.1 hv (vp_in_nI (n := 3) (by decide) (by decide)) (by decide) dL_full_69 (fun H locs hv => ?_)
  refine sN X (mA_complain l g X.2.2.2 S B y (upd (upd (upd (upd (fun _ => 0) 0 0) 1 9) 2 49) 3 0) 0 9 49 0 rfl rfl rfl rfl _ _ hN hev) hv hl dL_full_70 ⟨Nat.le_of_ble_eq_true rfl, Nat.le_of_ble_eq_true rfl⟩ ⟨Nat.le_of_ble_eq_true rfl, Nat.le_of_ble_eq_true rfl⟩ he (fun H locs hw => ?_)
  have hV := hV.ev (by decide) (fa_complain he) hz
  have hw := hw.nrmW
  refine vn_ (v9 := 14) (vIs_e hq) ?_
  refine lv_iload_n X.1.1 X.1.2.1 dL_full_73 rfl (lv_at hl 0 rfl) ?_
  refine lv_icmp_eq (tgt := 79) X.1.1 X.1.2.1 dL_full_74 (by decide) (fun _ => ?_) (fun h9 => absurd rfl h9)
  refine W.widen (k := 269) (n := 4429) (Nat.le_of_ble_eq_true rfl) (Nat.le_of_ble_eq_true rfl) ?_
  exact fin _ _ _ _ _ hV hw hr hl
set_option maxHeartbeats 4000000 in
set_option maxRecDepth 100000 in
theorem w_ful_21 {p : Program} {l : Launch} {e : Env} {s : State} {m : MethodId} {args : Array Value} {below : List Frame} {meth : Method} {c : Code} {g : wG} {Q : State → Prop} {y : (Nat → Nat → Int32) × (Nat → Int64) × (Nat → UInt64)} (X : LX p l s m args c cL_full 2 g)
    (fin : FN p l e rmD s m args below meth c g y Q 22 (ch_ful_22) 2 [(1, .int 15), (0, .ref (gA g 0))] 275 4463 79) : FN p l e rmD s m args below meth c g y Q 21 (ch_ful_21) 2 [(1, .int 14), (0, .ref (gA g 0))] 269 4429 79 := by
  intro S B H locs ls hV hw hr hl
  obtain ⟨n9, m9, ne9, n8, m8, hN, hN1, hev, hne, hne2⟩ := hV.cnt
  obtain ⟨he, hq, hz, hr⟩ := cC_e hr
  refine lv_iinc (v := 15) (lv' := [(1, .int 15), (0, .ref (gA g 0))]) X.1.1 X.1.2.1 dL_full_79 hl (k := 0) rfl (by decide) (by decide) rfl (fun ls hl => ?_)
  refine lv_goto (tgt := 10) X.1.1 X.1.2.1 dL_full_82 (by decide) ?_
  refine lv_iload_n X.1.1 X.1.2.1 dL_full_10 rfl (lv_at hl 0 rfl) ?_
  refine lv_bipush (v := 20) X.1.1 X.1.2.1 dL_full_11 (by decide +kernel) ?_
  refine lv_icmp_ge (tgt := 85) X.1.1 X.1.2.1 dL_full_13 (by decide) (fun h9 => absurd h9 (by decide)) (fun _ => ?_)
  refine lv_iload_n X.1.1 X.1.2.1 dL_full_16 rfl (lv_at hl 0 rfl) ?_
  refine lv_bipush (v := 6) X.1.1 X.1.2.1 dL_full_17 (by decide +kernel) ?_
  refine lv_icmp_ge (tgt := 46) X.1.1 X.1.2.1 dL_full_19 (by decide) (fun _ => ?_) (fun h9 => absurd h9 (by decide))
  refine lv_aload_n X.1.1 X.1.2.1 dL_full_46 rfl (lv_at hl 1 rfl) ?_
  refine lv_bipush (v := (nI 99)) X.1.1 X.1.2.1 dL_full_47 (by decide +kernel) ?_
  refine lv_iconst (v := 4) X.1.1 X.1.2.1 dL_full_49 (by decide) ?_
  refine k_newv (n := 4) (N := 4) X.1 X.2.2.1 hw q_ai (by decide) (by decide) (by decide) (Nat.le_of_ble_eq_true rfl) (Nat.le_of_ble_eq_true rfl) dL_full_50 (fun b H hv => ?_)
  refine lv_dup X.1.1 X.1.2.1 dL_full_52 rfl ?_
  refine lv_iconst (v := 0) X.1.1 X.1.2.1 dL_full_53 (by decide) ?_
  refine lv_iconst (v := 0) X.1.1 X.1.2.1 dL_full_54 (by decide) ?_
  refine k_vst (v := 0) (n := 0) X.1 X.2.2.1 hv (vp_in_nI (n := 0) (by decide) (by decide)) (by decide) dL_full_55 (fun H locs hv => ?_)
  refine lv_dup X.1.1 X.1.2.1 dL_full_56 rfl ?_
  refine lv_iconst (v := 1) X.1.1 X.1.2.1 dL_full_57 (by decide) ?_
  refine lv_bipush (v := 9) X.1.1 X.1.2.1 dL_full_58 (by decide +kernel) ?_
  refine k_vst (v := 9) (n := 1) X.1 X.2.2.1 hv (vp_in_nI (n := 1) (by decide) (by decide)) (by decide) dL_full_60 (fun H locs hv => ?_)
  refine lv_dup X.1.1 X.1.2.1 dL_full_61 rfl ?_
  refine lv_iconst (v := 2) X.1.1 X.1.2.1 dL_full_62 (by decide) ?_
  refine lv_bipush (v := 49) X.1.1 X.1.2.1 dL_full_63 (by decide +kernel) ?_
  refine k_vst (v := 49) (n := 2) X.1 X.2.2.1 hv (vp_in_nI (n := 2) (by decide) (by decide)) (by decide) dL_full_65 (fun H locs hv => ?_)
  refine lv_dup X.1.1 X.1.2.1 dL_full_66 rfl ?_
  refine lv_iconst (v := 3) X.1.1 X.1.2.1 dL_full_67 (by decide) ?_
  refine lv_iconst (v := 0) X.1.1 X.1.2.1 dL_full_68 (by decide) ?_
  refine k_vst (v := 0) (n := 3) X.1 X.2.2.1 hv (vp_in_nI (n := 3) (by decide) (by decide)) (by decide) dL_full_69 (fun H locs hv => ?_)
  refine sN X (mA_complain l g X.2.2.2 S B y (upd (upd (upd (upd (fun _ => 0) 0 0) 1 9) 2 49) 3 0) 0 9 49 0 rfl rfl rfl rfl _ _ hN hev) hv hl dL_full_70 ⟨Nat.le_of_ble_eq_true rfl, Nat.le_of_ble_eq_true rfl⟩ ⟨Nat.le_of_ble_eq_true rfl, Nat.le_of_ble_eq_true rfl⟩ he (fun H locs hw => ?_)
  have hV := hV.ev (by decide) (fa_complain he) hz
  have hw := hw.nrmW
  refine vn_ (v9 := 15) (vIs_e hq) ?_
  refine lv_iload_n X.1.1 X.1.2.1 dL_full_73 rfl (lv_at hl 0 rfl) ?_
  refine lv_icmp_eq (tgt := 79) X.1.1 X.1.2.1 dL_full_74 (by decide) (fun _ => ?_) (fun h9 => absurd rfl h9)
  refine W.widen (k := 275) (n := 4463) (Nat.le_of_ble_eq_true rfl) (Nat.le_of_ble_eq_true rfl) ?_
  exact fin _ _ _ _ _ hV hw hr hl
set_option maxHeartbeats 4000000 in
set_option maxRecDepth 100000 in
theorem w_ful_22 {p : Program} {l : Launch} {e : Env} {s : State} {m : MethodId} {args : Array Value} {below : List Frame} {meth : Method} {c : Code} {g : wG} {Q : State → Prop} {y : (Nat → Nat → Int32) × (Nat → Int64) × (Nat → UInt64)} (X : LX p l s m args c cL_full 2 g)
    (fin : FN p l e rmD s m args below meth c g y Q 23 (ch_ful_23) 2 [(1, .int 16), (0, .ref (gA g 0))] 281 4497 79) : FN p l e rmD s m args below meth c g y Q 22 (ch_ful_22) 2 [(1, .int 15), (0, .ref (gA g 0))] 275 4463 79 := by
  intro S B H locs ls hV hw hr hl
  obtain ⟨n9, m9, ne9, n8, m8, hN, hN1, hev, hne, hne2⟩ := hV.cnt
  obtain ⟨he, hq, hz, hr⟩ := cC_e hr
  refine lv_iinc (v := 16) (lv' := [(1, .int 16), (0, .ref (gA g 0))]) X.1.1 X.1.2.1 dL_full_79 hl (k := 0) rfl (by decide) (by decide) rfl (fun ls hl => ?_)
  refine lv_goto (tgt := 10) X.1.1 X.1.2.1 dL_full_82 (by decide) ?_
  refine lv_iload_n X.1.1 X.1.2.1 dL_full_10 rfl (lv_at hl 0 rfl) ?_
  refine lv_bipush (v := 20) X.1.1 X.1.2.1 dL_full_11 (by decide +kernel) ?_
  refine lv_icmp_ge (tgt := 85) X.1.1 X.1.2.1 dL_full_13 (by decide) (fun h9 => absurd h9 (by decide)) (fun _ => ?_)
  refine lv_iload_n X.1.1 X.1.2.1 dL_full_16 rfl (lv_at hl 0 rfl) ?_
  refine lv_bipush (v := 6) X.1.1 X.1.2.1 dL_full_17 (by decide +kernel) ?_
  refine lv_icmp_ge (tgt := 46) X.1.1 X.1.2.1 dL_full_19 (by decide) (fun _ => ?_) (fun h9 => absurd h9 (by decide))
  refine lv_aload_n X.1.1 X.1.2.1 dL_full_46 rfl (lv_at hl 1 rfl) ?_
  refine lv_bipush (v := (nI 99)) X.1.1 X.1.2.1 dL_full_47 (by decide +kernel) ?_
  refine lv_iconst (v := 4) X.1.1 X.1.2.1 dL_full_49 (by decide) ?_
  refine k_newv (n := 4) (N := 4) X.1 X.2.2.1 hw q_ai (by decide) (by decide) (by decide) (Nat.le_of_ble_eq_true rfl) (Nat.le_of_ble_eq_true rfl) dL_full_50 (fun b H hv => ?_)
  refine lv_dup X.1.1 X.1.2.1 dL_full_52 rfl ?_
  refine lv_iconst (v := 0) X.1.1 X.1.2.1 dL_full_53 (by decide) ?_
  refine lv_iconst (v := 0) X.1.1 X.1.2.1 dL_full_54 (by decide) ?_
  refine k_vst (v := 0) (n := 0) X.1 X.2.2.1 hv (vp_in_nI (n := 0) (by decide) (by decide)) (by decide) dL_full_55 (fun H locs hv => ?_)
  refine lv_dup X.1.1 X.1.2.1 dL_full_56 rfl ?_
  refine lv_iconst (v := 1) X.1.1 X.1.2.1 dL_full_57 (by decide) ?_
  refine lv_bipush (v := 9) X.1.1 X.1.2.1 dL_full_58 (by decide +kernel) ?_
  refine k_vst (v := 9) (n := 1) X.1 X.2.2.1 hv (vp_in_nI (n := 1) (by decide) (by decide)) (by decide) dL_full_60 (fun H locs hv => ?_)
  refine lv_dup X.1.1 X.1.2.1 dL_full_61 rfl ?_
  refine lv_iconst (v := 2) X.1.1 X.1.2.1 dL_full_62 (by decide) ?_
  refine lv_bipush (v := 49) X.1.1 X.1.2.1 dL_full_63 (by decide +kernel) ?_
  refine k_vst (v := 49) (n := 2) X.1 X.2.2.1 hv (vp_in_nI (n := 2) (by decide) (by decide)) (by decide) dL_full_65 (fun H locs hv => ?_)
  refine lv_dup X.1.1 X.1.2.1 dL_full_66 rfl ?_
  refine lv_iconst (v := 3) X.1.1 X.1.2.1 dL_full_67 (by decide) ?_
  refine lv_iconst (v := 0) X.1.1 X.1.2.1 dL_full_68 (by decide) ?_
  refine k_vst (v := 0) (n := 3) X.1 X.2.2.1 hv (vp_in_nI (n := 3) (by decide) (by decide)) (by decide) dL_full_69 (fun H locs hv => ?_)
  refine sN X (mA_complain l g X.2.2.2 S B y (upd (upd (upd (upd (fun _ => 0) 0 0) 1 9) 2 49) 3 0) 0 9 49 0 rfl rfl rfl rfl _ _ hN hev) hv hl dL_full_70 ⟨Nat.le_of_ble_eq_true rfl, Nat.le_of_ble_eq_true rfl⟩ ⟨Nat.le_of_ble_eq_true rfl, Nat.le_of_ble_eq_true rfl⟩ he (fun H locs hw => ?_)
  have hV := hV.ev (by decide) (fa_complain he) hz
  have hw := hw.nrmW
  refine vn_ (v9 := 16) (vIs_e hq) ?_
  refine lv_iload_n X.1.1 X.1.2.1 dL_full_73 rfl (lv_at hl 0 rfl) ?_
  refine lv_icmp_eq (tgt := 79) X.1.1 X.1.2.1 dL_full_74 (by decide) (fun _ => ?_) (fun h9 => absurd rfl h9)
  refine W.widen (k := 281) (n := 4497) (Nat.le_of_ble_eq_true rfl) (Nat.le_of_ble_eq_true rfl) ?_
  exact fin _ _ _ _ _ hV hw hr hl
set_option maxHeartbeats 4000000 in
set_option maxRecDepth 100000 in
theorem w_ful_23 {p : Program} {l : Launch} {e : Env} {s : State} {m : MethodId} {args : Array Value} {below : List Frame} {meth : Method} {c : Code} {g : wG} {Q : State → Prop} {y : (Nat → Nat → Int32) × (Nat → Int64) × (Nat → UInt64)} (X : LX p l s m args c cL_full 2 g)
    (fin : FN p l e rmD s m args below meth c g y Q 24 (ch_ful_24) 2 [(1, .int 17), (0, .ref (gA g 0))] 287 4531 79) : FN p l e rmD s m args below meth c g y Q 23 (ch_ful_23) 2 [(1, .int 16), (0, .ref (gA g 0))] 281 4497 79 := by
  intro S B H locs ls hV hw hr hl
  obtain ⟨n9, m9, ne9, n8, m8, hN, hN1, hev, hne, hne2⟩ := hV.cnt
  obtain ⟨he, hq, hz, hr⟩ := cC_e hr
  refine lv_iinc (v := 17) (lv' := [(1, .int 17), (0, .ref (gA g 0))]) X.1.1 X.1.2.1 dL_full_79 hl (k := 0) rfl (by decide) (by decide) rfl (fun ls hl => ?_)
  refine lv_goto (tgt := 10) X.1.1 X.1.2.1 dL_full_82 (by decide) ?_
  refine lv_iload_n X.1.1 X.1.2.1 dL_full_10 rfl (lv_at hl 0 rfl) ?_
  refine lv_bipush (v := 20) X.1.1 X.1.2.1 dL_full_11 (by decide +kernel) ?_
  refine lv_icmp_ge (tgt := 85) X.1.1 X.1.2.1 dL_full_13 (by decide) (fun h9 => absurd h9 (by decide)) (fun _ => ?_)
  refine lv_iload_n X.1.1 X.1.2.1 dL_full_16 rfl (lv_at hl 0 rfl) ?_
  refine lv_bipush (v := 6) X.1.1 X.1.2.1 dL_full_17 (by decide +kernel) ?_
  refine lv_icmp_ge (tgt := 46) X.1.1 X.1.2.1 dL_full_19 (by decide) (fun _ => ?_) (fun h9 => absurd h9 (by decide))
  refine lv_aload_n X.1.1 X.1.2.1 dL_full_46 rfl (lv_at hl 1 rfl) ?_
  refine lv_bipush (v := (nI 99)) X.1.1 X.1.2.1 dL_full_47 (by decide +kernel) ?_
  refine lv_iconst (v := 4) X.1.1 X.1.2.1 dL_full_49 (by decide) ?_
  refine k_newv (n := 4) (N := 4) X.1 X.2.2.1 hw q_ai (by decide) (by decide) (by decide) (Nat.le_of_ble_eq_true rfl) (Nat.le_of_ble_eq_true rfl) dL_full_50 (fun b H hv => ?_)
  refine lv_dup X.1.1 X.1.2.1 dL_full_52 rfl ?_
  refine lv_iconst (v := 0) X.1.1 X.1.2.1 dL_full_53 (by decide) ?_
  refine lv_iconst (v := 0) X.1.1 X.1.2.1 dL_full_54 (by decide) ?_
  refine k_vst (v := 0) (n := 0) X.1 X.2.2.1 hv (vp_in_nI (n := 0) (by decide) (by decide)) (by decide) dL_full_55 (fun H locs hv => ?_)
  refine lv_dup X.1.1 X.1.2.1 dL_full_56 rfl ?_
  refine lv_iconst (v := 1) X.1.1 X.1.2.1 dL_full_57 (by decide) ?_
  refine lv_bipush (v := 9) X.1.1 X.1.2.1 dL_full_58 (by decide +kernel) ?_
  refine k_vst (v := 9) (n := 1) X.1 X.2.2.1 hv (vp_in_nI (n := 1) (by decide) (by decide)) (by decide) dL_full_60 (fun H locs hv => ?_)
  refine lv_dup X.1.1 X.1.2.1 dL_full_61 rfl ?_
  refine lv_iconst (v := 2) X.1.1 X.1.2.1 dL_full_62 (by decide) ?_
  refine lv_bipush (v := 49) X.1.1 X.1.2.1 dL_full_63 (by decide +kernel) ?_
  refine k_vst (v := 49) (n := 2) X.1 X.2.2.1 hv (vp_in_nI (n := 2) (by decide) (by decide)) (by decide) dL_full_65 (fun H locs hv => ?_)
  refine lv_dup X.1.1 X.1.2.1 dL_full_66 rfl ?_
  refine lv_iconst (v := 3) X.1.1 X.1.2.1 dL_full_67 (by decide) ?_
  refine lv_iconst (v := 0) X.1.1 X.1.2.1 dL_full_68 (by decide) ?_
  refine k_vst (v := 0) (n := 3) X.1 X.2.2.1 hv (vp_in_nI (n := 3) (by decide) (by decide)) (by decide) dL_full_69 (fun H locs hv => ?_)
  refine sN X (mA_complain l g X.2.2.2 S B y (upd (upd (upd (upd (fun _ => 0) 0 0) 1 9) 2 49) 3 0) 0 9 49 0 rfl rfl rfl rfl _ _ hN hev) hv hl dL_full_70 ⟨Nat.le_of_ble_eq_true rfl, Nat.le_of_ble_eq_true rfl⟩ ⟨Nat.le_of_ble_eq_true rfl, Nat.le_of_ble_eq_true rfl⟩ he (fun H locs hw => ?_)
  have hV := hV.ev (by decide) (fa_complain he) hz
  have hw := hw.nrmW
  refine vn_ (v9 := 17) (vIs_e hq) ?_
  refine lv_iload_n X.1.1 X.1.2.1 dL_full_73 rfl (lv_at hl 0 rfl) ?_
  refine lv_icmp_eq (tgt := 79) X.1.1 X.1.2.1 dL_full_74 (by decide) (fun _ => ?_) (fun h9 => absurd rfl h9)
  refine W.widen (k := 287) (n := 4531) (Nat.le_of_ble_eq_true rfl) (Nat.le_of_ble_eq_true rfl) ?_
  exact fin _ _ _ _ _ hV hw hr hl
set_option maxHeartbeats 4000000 in
set_option maxRecDepth 100000 in
theorem w_ful_24 {p : Program} {l : Launch} {e : Env} {s : State} {m : MethodId} {args : Array Value} {below : List Frame} {meth : Method} {c : Code} {g : wG} {Q : State → Prop} {y : (Nat → Nat → Int32) × (Nat → Int64) × (Nat → UInt64)} (X : LX p l s m args c cL_full 2 g)
    (fin : FN p l e rmD s m args below meth c g y Q 25 (ch_ful_25) 2 [(1, .int 18), (0, .ref (gA g 0))] 293 4565 79) : FN p l e rmD s m args below meth c g y Q 24 (ch_ful_24) 2 [(1, .int 17), (0, .ref (gA g 0))] 287 4531 79 := by
  intro S B H locs ls hV hw hr hl
  obtain ⟨n9, m9, ne9, n8, m8, hN, hN1, hev, hne, hne2⟩ := hV.cnt
  obtain ⟨he, hq, hz, hr⟩ := cC_e hr
  refine lv_iinc (v := 18) (lv' := [(1, .int 18), (0, .ref (gA g 0))]) X.1.1 X.1.2.1 dL_full_79 hl (k := 0) rfl (by decide) (by decide) rfl (fun ls hl => ?_)
  refine lv_goto (tgt := 10) X.1.1 X.1.2.1 dL_full_82 (by decide) ?_
  refine lv_iload_n X.1.1 X.1.2.1 dL_full_10 rfl (lv_at hl 0 rfl) ?_
  refine lv_bipush (v := 20) X.1.1 X.1.2.1 dL_full_11 (by decide +kernel) ?_
  refine lv_icmp_ge (tgt := 85) X.1.1 X.1.2.1 dL_full_13 (by decide) (fun h9 => absurd h9 (by decide)) (fun _ => ?_)
  refine lv_iload_n X.1.1 X.1.2.1 dL_full_16 rfl (lv_at hl 0 rfl) ?_
  refine lv_bipush (v := 6) X.1.1 X.1.2.1 dL_full_17 (by decide +kernel) ?_
  refine lv_icmp_ge (tgt := 46) X.1.1 X.1.2.1 dL_full_19 (by decide) (fun _ => ?_) (fun h9 => absurd h9 (by decide))
  refine lv_aload_n X.1.1 X.1.2.1 dL_full_46 rfl (lv_at hl 1 rfl) ?_
  refine lv_bipush (v := (nI 99)) X.1.1 X.1.2.1 dL_full_47 (by decide +kernel) ?_
  refine lv_iconst (v := 4) X.1.1 X.1.2.1 dL_full_49 (by decide) ?_
  refine k_newv (n := 4) (N := 4) X.1 X.2.2.1 hw q_ai (by decide) (by decide) (by decide) (Nat.le_of_ble_eq_true rfl) (Nat.le_of_ble_eq_true rfl) dL_full_50 (fun b H hv => ?_)
  refine lv_dup X.1.1 X.1.2.1 dL_full_52 rfl ?_
  refine lv_iconst (v := 0) X.1.1 X.1.2.1 dL_full_53 (by decide) ?_
  refine lv_iconst (v := 0) X.1.1 X.1.2.1 dL_full_54 (by decide) ?_
  refine k_vst (v := 0) (n := 0) X.1 X.2.2.1 hv (vp_in_nI (n := 0) (by decide) (by decide)) (by decide) dL_full_55 (fun H locs hv => ?_)
  refine lv_dup X.1.1 X.1.2.1 dL_full_56 rfl ?_
  refine lv_iconst (v := 1) X.1.1 X.1.2.1 dL_full_57 (by decide) ?_
  refine lv_bipush (v := 9) X.1.1 X.1.2.1 dL_full_58 (by decide +kernel) ?_
  refine k_vst (v := 9) (n := 1) X.1 X.2.2.1 hv (vp_in_nI (n := 1) (by decide) (by decide)) (by decide) dL_full_60 (fun H locs hv => ?_)
  refine lv_dup X.1.1 X.1.2.1 dL_full_61 rfl ?_
  refine lv_iconst (v := 2) X.1.1 X.1.2.1 dL_full_62 (by decide) ?_
  refine lv_bipush (v := 49) X.1.1 X.1.2.1 dL_full_63 (by decide +kernel) ?_
  refine k_vst (v := 49) (n := 2) X.1 X.2.2.1 hv (vp_in_nI (n := 2) (by decide) (by decide)) (by decide) dL_full_65 (fun H locs hv => ?_)
  refine lv_dup X.1.1 X.1.2.1 dL_full_66 rfl ?_
  refine lv_iconst (v := 3) X.1.1 X.1.2.1 dL_full_67 (by decide) ?_
  refine lv_iconst (v := 0) X.1.1 X.1.2.1 dL_full_68 (by decide) ?_
  refine k_vst (v := 0) (n := 3) X.1 X.2.2.1 hv (vp_in_nI (n := 3) (by decide) (by decide)) (by decide) dL_full_69 (fun H locs hv => ?_)
  refine sN X (mA_complain l g X.2.2.2 S B y (upd (upd (upd (upd (fun _ => 0) 0 0) 1 9) 2 49) 3 0) 0 9 49 0 rfl rfl rfl rfl _ _ hN hev) hv hl dL_full_70 ⟨Nat.le_of_ble_eq_true rfl, Nat.le_of_ble_eq_true rfl⟩ ⟨Nat.le_of_ble_eq_true rfl, Nat.le_of_ble_eq_true rfl⟩ he (fun H locs hw => ?_)
  have hV := hV.ev (by decide) (fa_complain he) hz
  have hw := hw.nrmW
  refine vn_ (v9 := 18) (vIs_e hq) ?_
  refine lv_iload_n X.1.1 X.1.2.1 dL_full_73 rfl (lv_at hl 0 rfl) ?_
  refine lv_icmp_eq (tgt := 79) X.1.1 X.1.2.1 dL_full_74 (by decide) (fun _ => ?_) (fun h9 => absurd rfl h9)
  refine W.widen (k := 293) (n := 4565) (Nat.le_of_ble_eq_true rfl) (Nat.le_of_ble_eq_true rfl) ?_
  exact fin _ _ _ _ _ hV hw hr hl
set_option maxHeartbeats 4000000 in
set_option maxRecDepth 100000 in
theorem w_ful_25 {p : Program} {l : Launch} {e : Env} {s : State} {m : MethodId} {args : Array Value} {below : List Frame} {meth : Method} {c : Code} {g : wG} {Q : State → Prop} {y : (Nat → Nat → Int32) × (Nat → Int64) × (Nat → UInt64)} (X : LX p l s m args c cL_full 2 g)
    (fin : FN p l e rmD s m args below meth c g y Q 26 (ch_ful_26) 2 [(1, .int 19), (0, .ref (gA g 0))] 299 4599 79) : FN p l e rmD s m args below meth c g y Q 25 (ch_ful_25) 2 [(1, .int 18), (0, .ref (gA g 0))] 293 4565 79 := by
  intro S B H locs ls hV hw hr hl
  obtain ⟨n9, m9, ne9, n8, m8, hN, hN1, hev, hne, hne2⟩ := hV.cnt
  obtain ⟨he, hq, hz, hr⟩ := cC_e hr
  refine lv_iinc (v := 19) (lv' := [(1, .int 19), (0, .ref (gA g 0))]) X.1.1 X.1.2.1 dL_full_79 hl (k := 0) rfl (by decide) (by decide) rfl (fun ls hl => ?_)
  refine lv_goto (tgt := 10) X.1.1 X.1.2.1 dL_full_82 (by decide) ?_
  refine lv_iload_n X.1.1 X.1.2.1 dL_full_10 rfl (lv_at hl 0 rfl) ?_
  refine lv_bipush (v := 20) X.1.1 X.1.2.1 dL_full_11 (by decide +kernel) ?_
  refine lv_icmp_ge (tgt := 85) X.1.1 X.1.2.1 dL_full_13 (by decide) (fun h9 => absurd h9 (by decide)) (fun _ => ?_)
  refine lv_iload_n X.1.1 X.1.2.1 dL_full_16 rfl (lv_at hl 0 rfl) ?_
  refine lv_bipush (v := 6) X.1.1 X.1.2.1 dL_full_17 (by decide +kernel) ?_
  refine lv_icmp_ge (tgt := 46) X.1.1 X.1.2.1 dL_full_19 (by decide) (fun _ => ?_) (fun h9 => absurd h9 (by decide))
  refine lv_aload_n X.1.1 X.1.2.1 dL_full_46 rfl (lv_at hl 1 rfl) ?_
  refine lv_bipush (v := (nI 99)) X.1.1 X.1.2.1 dL_full_47 (by decide +kernel) ?_
  refine lv_iconst (v := 4) X.1.1 X.1.2.1 dL_full_49 (by decide) ?_
  refine k_newv (n := 4) (N := 4) X.1 X.2.2.1 hw q_ai (by decide) (by decide) (by decide) (Nat.le_of_ble_eq_true rfl) (Nat.le_of_ble_eq_true rfl) dL_full_50 (fun b H hv => ?_)
  refine lv_dup X.1.1 X.1.2.1 dL_full_52 rfl ?_
  refine lv_iconst (v := 0) X.1.1 X.1.2.1 dL_full_53 (by decide) ?_
  refine lv_iconst (v := 0) X.1.1 X.1.2.1 dL_full_54 (by decide) ?_
  refine k_vst (v := 0) (n := 0) X.1 X.2.2.1 hv (vp_in_nI (n := 0) (by decide) (by decide)) (by decide) dL_full_55 (fun H locs hv => ?_)
  refine lv_dup X.1.1 X.1.2.1 dL_full_56 rfl ?_
  refine lv_iconst (v := 1) X.1.1 X.1.2.1 dL_full_57 (by decide) ?_
  refine lv_bipush (v := 9) X.1.1 X.1.2.1 dL_full_58 (by decide +kernel) ?_
  refine k_vst (v := 9) (n := 1) X.1 X.2.2.1 hv (vp_in_nI (n := 1) (by decide) (by decide)) (by decide) dL_full_60 (fun H locs hv => ?_)
  refine lv_dup X.1.1 X.1.2.1 dL_full_61 rfl ?_
  refine lv_iconst (v := 2) X.1.1 X.1.2.1 dL_full_62 (by decide) ?_
  refine lv_bipush (v := 49) X.1.1 X.1.2.1 dL_full_63 (by decide +kernel) ?_
  refine k_vst (v := 49) (n := 2) X.1 X.2.2.1 hv (vp_in_nI (n := 2) (by decide) (by decide)) (by decide) dL_full_65 (fun H locs hv => ?_)
  refine lv_dup X.1.1 X.1.2.1 dL_full_66 rfl ?_
  refine lv_iconst (v := 3) X.1.1 X.1.2.1 dL_full_67 (by decide) ?_
  refine lv_iconst (v := 0) X.1.1 X.1.2.1 dL_full_68 (by decide) ?_
  refine k_vst (v := 0) (n := 3) X.1 X.2.2.1 hv (vp_in_nI (n := 3) (by decide) (by decide)) (by decide) dL_full_69 (fun H locs hv => ?_)
  refine sN X (mA_complain l g X.2.2.2 S B y (upd (upd (upd (upd (fun _ => 0) 0 0) 1 9) 2 49) 3 0) 0 9 49 0 rfl rfl rfl rfl _ _ hN hev) hv hl dL_full_70 ⟨Nat.le_of_ble_eq_true rfl, Nat.le_of_ble_eq_true rfl⟩ ⟨Nat.le_of_ble_eq_true rfl, Nat.le_of_ble_eq_true rfl⟩ he (fun H locs hw => ?_)
  have hV := hV.ev (by decide) (fa_complain he) hz
  have hw := hw.nrmW
  refine vn_ (v9 := 19) (vIs_e hq) ?_
  refine lv_iload_n X.1.1 X.1.2.1 dL_full_73 rfl (lv_at hl 0 rfl) ?_
  refine lv_icmp_eq (tgt := 79) X.1.1 X.1.2.1 dL_full_74 (by decide) (fun _ => ?_) (fun h9 => absurd rfl h9)
  refine W.widen (k := 299) (n := 4599) (Nat.le_of_ble_eq_true rfl) (Nat.le_of_ble_eq_true rfl) ?_
  exact fin _ _ _ _ _ hV hw hr hl
set_option maxHeartbeats 4000000 in
set_option maxRecDepth 100000 in
theorem w_ful_26 {p : Program} {l : Launch} {e : Env} {s : State} {m : MethodId} {args : Array Value} {below : List Frame} {meth : Method} {c : Code} {g : wG} {Q : State → Prop} {y : (Nat → Nat → Int32) × (Nat → Int64) × (Nat → UInt64)} (X : LX p l s m args c cL_full 2 g)
    (fin : FN p l e rmD s m args below meth c g y Q 26 (ch_ful_27) 2 [(1, .int 20), (0, .ref (gA g 0))] 305 4631 108) : FN p l e rmD s m args below meth c g y Q 26 (ch_ful_26) 2 [(1, .int 19), (0, .ref (gA g 0))] 299 4599 79 := by
  intro S B H locs ls hV hw hr hl
  obtain ⟨n9, m9, ne9, n8, m8, hN, hN1, hev, hne, hne2⟩ := hV.cnt
  obtain ⟨he, hr⟩ := cX_e hr
  refine lv_iinc (v := 20) (lv' := [(1, .int 20), (0, .ref (gA g 0))]) X.1.1 X.1.2.1 dL_full_79 hl (k := 0) rfl (by decide) (by decide) rfl (fun ls hl => ?_)
  refine lv_goto (tgt := 10) X.1.1 X.1.2.1 dL_full_82 (by decide) ?_
  refine lv_iload_n X.1.1 X.1.2.1 dL_full_10 rfl (lv_at hl 0 rfl) ?_
  refine lv_bipush (v := 20) X.1.1 X.1.2.1 dL_full_11 (by decide +kernel) ?_
  refine lv_icmp_ge (tgt := 85) X.1.1 X.1.2.1 dL_full_13 (by decide) (fun _ => ?_) (fun h9 => absurd h9 (by decide))
  refine lv_aload_n X.1.1 X.1.2.1 dL_full_85 rfl (lv_at hl 1 rfl) ?_
  refine lv_bipush (v := (nI 79)) X.1.1 X.1.2.1 dL_full_86 (by decide +kernel) ?_
  refine lv_iconst (v := 2) X.1.1 X.1.2.1 dL_full_88 (by decide) ?_
  refine k_newv (n := 2) (N := 2) X.1 X.2.2.1 hw q_ai (by decide) (by decide) (by decide) (Nat.le_of_ble_eq_true rfl) (Nat.le_of_ble_eq_true rfl) dL_full_89 (fun b H hv => ?_)
  refine lv_dup X.1.1 X.1.2.1 dL_full_91 rfl ?_
  refine lv_iconst (v := 0) X.1.1 X.1.2.1 dL_full_92 (by decide) ?_
  refine lv_bipush (v := 60) X.1.1 X.1.2.1 dL_full_93 (by decide +kernel) ?_
  refine k_vst (v := 60) (n := 0) X.1 X.2.2.1 hv (vp_in_nI (n := 0) (by decide) (by decide)) (by decide) dL_full_95 (fun H locs hv => ?_)
  refine lv_dup X.1.1 X.1.2.1 dL_full_96 rfl ?_
  refine lv_iconst (v := 1) X.1.1 X.1.2.1 dL_full_97 (by decide) ?_
  refine lv_iconst (v := 0) X.1.1 X.1.2.1 dL_full_98 (by decide) ?_
  refine k_vst (v := 0) (n := 1) X.1 X.2.2.1 hv (vp_in_nI (n := 1) (by decide) (by decide)) (by decide) dL_full_99 (fun H locs hv => ?_)
  refine sX X (mA_addOffice l g X.2.2.2 S B y (upd (upd (fun _ => 0) 0 60) 1 0) 60 0 rfl rfl _ _ hN hev) hv hl dL_full_100 ⟨Nat.le_of_ble_eq_true rfl, Nat.le_of_ble_eq_true rfl⟩ ⟨Nat.le_of_ble_eq_true rfl, Nat.le_of_ble_eq_true rfl⟩ he kX_3 (fun H locs hw => ?_)
  refine lv_ldc (v := (-2000000003)) X.1.1 X.1.2.1 X.1.2.2.1 (X.1.2.2.2 _ q903) dL_full_103 ?_
  refine lv_icmp_ne (tgt := 159) X.1.1 X.1.2.1 dL_full_105 (by decide) (fun h9 => absurd rfl h9) (fun _ => ?_)
  refine W.widen (k := 305) (n := 4631) (Nat.le_of_ble_eq_true rfl) (Nat.le_of_ble_eq_true rfl) ?_
  exact fin _ _ _ _ _ hV hw hr hl
set_option maxHeartbeats 4000000 in
set_option maxRecDepth 100000 in
theorem w_ful_27 {p : Program} {l : Launch} {e : Env} {s : State} {m : MethodId} {args : Array Value} {below : List Frame} {meth : Method} {c : Code} {g : wG} {Q : State → Prop} {y : (Nat → Nat → Int32) × (Nat → Int64) × (Nat → UInt64)} (X : LX p l s m args c cL_full 2 g)
    (fin : FN p l e rmD s m args below meth c g y Q 26 (ch_ful_28) 2 [(1, .int 20), (0, .ref (gA g 0))] 311 4665 140) : FN p l e rmD s m args below meth c g y Q 26 (ch_ful_27) 2 [(1, .int 20), (0, .ref (gA g 0))] 305 4631 108 := by
  intro S B H locs ls hV hw hr hl
  obtain ⟨n9, m9, ne9, n8, m8, hN, hN1, hev, hne, hne2⟩ := hV.cnt
  obtain ⟨he, hr⟩ := cX_e hr
  refine lv_aload_n X.1.1 X.1.2.1 dL_full_108 rfl (lv_at hl 1 rfl) ?_
  refine lv_bipush (v := (nI 99)) X.1.1 X.1.2.1 dL_full_109 (by decide +kernel) ?_
  refine lv_iconst (v := 4) X.1.1 X.1.2.1 dL_full_111 (by decide) ?_
  refine k_newv (n := 4) (N := 4) X.1 X.2.2.1 hw q_ai (by decide) (by decide) (by decide) (Nat.le_of_ble_eq_true rfl) (Nat.le_of_ble_eq_true rfl) dL_full_112 (fun b H hv => ?_)
  refine lv_dup X.1.1 X.1.2.1 dL_full_114 rfl ?_
  refine lv_iconst (v := 0) X.1.1 X.1.2.1 dL_full_115 (by decide) ?_
  refine lv_iconst (v := 0) X.1.1 X.1.2.1 dL_full_116 (by decide) ?_
  refine k_vst (v := 0) (n := 0) X.1 X.2.2.1 hv (vp_in_nI (n := 0) (by decide) (by decide)) (by decide) dL_full_117 (fun H locs hv => ?_)
  refine lv_dup X.1.1 X.1.2.1 dL_full_118 rfl ?_
  refine lv_iconst (v := 1) X.1.1 X.1.2.1 dL_full_119 (by decide) ?_
  refine lv_bipush (v := 9) X.1.1 X.1.2.1 dL_full_120 (by decide +kernel) ?_
  refine k_vst (v := 9) (n := 1) X.1 X.2.2.1 hv (vp_in_nI (n := 1) (by decide) (by decide)) (by decide) dL_full_122 (fun H locs hv => ?_)
  refine lv_dup X.1.1 X.1.2.1 dL_full_123 rfl ?_
  refine lv_iconst (v := 2) X.1.1 X.1.2.1 dL_full_124 (by decide) ?_
  refine lv_bipush (v := 49) X.1.1 X.1.2.1 dL_full_125 (by decide +kernel) ?_
  refine k_vst (v := 49) (n := 2) X.1 X.2.2.1 hv (vp_in_nI (n := 2) (by decide) (by decide)) (by decide) dL_full_127 (fun H locs hv => ?_)
  refine lv_dup X.1.1 X.1.2.1 dL_full_128 rfl ?_
  refine lv_iconst (v := 3) X.1.1 X.1.2.1 dL_full_129 (by decide) ?_
  refine lv_iconst (v := 0) X.1.1 X.1.2.1 dL_full_130 (by decide) ?_
  refine k_vst (v := 0) (n := 3) X.1 X.2.2.1 hv (vp_in_nI (n := 3) (by decide) (by decide)) (by decide) dL_full_131 (fun H locs hv => ?_)
  refine sX X (mA_complain l g X.2.2.2 S B y (upd (upd (upd (upd (fun _ => 0) 0 0) 1 9) 2 49) 3 0) 0 9 49 0 rfl rfl rfl rfl _ _ hN hev) hv hl dL_full_132 ⟨Nat.le_of_ble_eq_true rfl, Nat.le_of_ble_eq_true rfl⟩ ⟨Nat.le_of_ble_eq_true rfl, Nat.le_of_ble_eq_true rfl⟩ he kX_3 (fun H locs hw => ?_)
  refine lv_ldc (v := (-2000000003)) X.1.1 X.1.2.1 X.1.2.2.1 (X.1.2.2.2 _ q903) dL_full_135 ?_
  refine lv_icmp_ne (tgt := 159) X.1.1 X.1.2.1 dL_full_137 (by decide) (fun h9 => absurd rfl h9) (fun _ => ?_)
  refine W.widen (k := 311) (n := 4665) (Nat.le_of_ble_eq_true rfl) (Nat.le_of_ble_eq_true rfl) ?_
  exact fin _ _ _ _ _ hV hw hr hl
set_option maxHeartbeats 4000000 in
set_option maxRecDepth 100000 in
theorem w_ful_28 {p : Program} {l : Launch} {e : Env} {s : State} {m : MethodId} {args : Array Value} {below : List Frame} {meth : Method} {c : Code} {g : wG} {Q : State → Prop} {y : (Nat → Nat → Int32) × (Nat → Int64) × (Nat → UInt64)} (X : LX p l s m args c cL_full 2 g)
    (fin : FN p l e rmD s m args below meth c g y Q 26 (ch_ful_29) 2 [(1, .int 20), (0, .ref (gA g 0))] 317 4696 161) : FN p l e rmD s m args below meth c g y Q 26 (ch_ful_28) 2 [(1, .int 20), (0, .ref (gA g 0))] 311 4665 140 := by
  intro S B H locs ls hV hw hr hl
  obtain ⟨n9, m9, ne9, n8, m8, hN, hN1, hev, hne, hne2⟩ := hV.cnt
  obtain ⟨he, hq, hr⟩ := cQ_e hr
  refine lv_aload_n X.1.1 X.1.2.1 dL_full_140 rfl (lv_at hl 1 rfl) ?_
  refine lv_bipush (v := (nI 80)) X.1.1 X.1.2.1 dL_full_141 (by decide +kernel) ?_
  refine lv_iconst (v := 1) X.1.1 X.1.2.1 dL_full_143 (by decide) ?_
  refine k_newv (n := 1) (N := 1) X.1 X.2.2.1 hw q_ai (by decide) (by decide) (by decide) (Nat.le_of_ble_eq_true rfl) (Nat.le_of_ble_eq_true rfl) dL_full_144 (fun b H hv => ?_)
  refine lv_dup X.1.1 X.1.2.1 dL_full_146 rfl ?_
  refine lv_iconst (v := 0) X.1.1 X.1.2.1 dL_full_147 (by decide) ?_
  refine lv_bipush (v := 49) X.1.1 X.1.2.1 dL_full_148 (by decide +kernel) ?_
  refine k_vst (v := 49) (n := 0) X.1 X.2.2.1 hv (vp_in_nI (n := 0) (by decide) (by decide)) (by decide) dL_full_150 (fun H locs hv => ?_)
  refine sN X (mA_countOf l g X.2.2.2 S B y (upd (fun _ => 0) 0 49) 49 rfl _ _ hN) hv hl dL_full_151 ⟨Nat.le_of_ble_eq_true rfl, Nat.le_of_ble_eq_true rfl⟩ ⟨Nat.le_of_ble_eq_true rfl, Nat.le_of_ble_eq_true rfl⟩ he (fun H locs hw => ?_)
  refine vn_ (v9 := 20) (vIs_e hq) ?_
  refine lv_bipush (v := 20) X.1.1 X.1.2.1 dL_full_154 (by decide +kernel) ?_
  refine lv_icmp_eq (tgt := 161) X.1.1 X.1.2.1 dL_full_156 (by decide) (fun _ => ?_) (fun h9 => absurd rfl h9)
  refine W.widen (k := 317) (n := 4696) (Nat.le_of_ble_eq_true rfl) (Nat.le_of_ble_eq_true rfl) ?_
  exact fin _ _ _ _ _ hV hw hr hl
set_option maxHeartbeats 4000000 in
set_option maxRecDepth 100000 in
theorem w_ful_29 {p : Program} {l : Launch} {e : Env} {s : State} {m : MethodId} {args : Array Value} {below : List Frame} {meth : Method} {c : Code} {g : wG} {Q : State → Prop} {y : (Nat → Nat → Int32) × (Nat → Int64) × (Nat → UInt64)} (X : LX p l s m args c cL_full 2 g)
    (fin : FN p l e rmD s m args below meth c g y Q 27 (ch_ful_30) 2 [(1, .int 0), (0, .ref (gA g 0))] 323 4727 196) : FN p l e rmD s m args below meth c g y Q 26 (ch_ful_29) 2 [(1, .int 20), (0, .ref (gA g 0))] 317 4696 161 := by
  intro S B H locs ls hV hw hr hl
  obtain ⟨n9, m9, ne9, n8, m8, hN, hN1, hev, hne, hne2⟩ := hV.cnt
  obtain ⟨he, hq, hz, hr⟩ := cC_e hr
  refine lv_iconst (v := 0) X.1.1 X.1.2.1 dL_full_161 (by decide) ?_
  refine lv_istore_n (lv' := [(1, .int 0), (0, .ref (gA g 0))]) X.1.1 X.1.2.1 dL_full_162 rfl hl (by decide) rfl (fun ls hl => ?_)
  refine lv_iload_n X.1.1 X.1.2.1 dL_full_163 rfl (lv_at hl 0 rfl) ?_
  refine lv_bipush (v := 24) X.1.1 X.1.2.1 dL_full_164 (by decide +kernel) ?_
  refine lv_icmp_ge (tgt := 202) X.1.1 X.1.2.1 dL_full_166 (by decide) (fun h9 => absurd h9 (by decide)) (fun _ => ?_)
  refine lv_aload_n X.1.1 X.1.2.1 dL_full_169 rfl (lv_at hl 1 rfl) ?_
  refine lv_bipush (v := (nI 112)) X.1.1 X.1.2.1 dL_full_170 (by decide +kernel) ?_
  refine lv_iconst (v := 1) X.1.1 X.1.2.1 dL_full_172 (by decide) ?_
  refine k_newv (n := 1) (N := 1) X.1 X.2.2.1 hw q_ai (by decide) (by decide) (by decide) (Nat.le_of_ble_eq_true rfl) (Nat.le_of_ble_eq_true rfl) dL_full_173 (fun b H hv => ?_)
  refine lv_dup X.1.1 X.1.2.1 dL_full_175 rfl ?_
  refine lv_iconst (v := 0) X.1.1 X.1.2.1 dL_full_176 (by decide) ?_
  refine lv_sipush (v := 400) X.1.1 X.1.2.1 dL_full_177 (by decide +kernel) ?_
  refine k_vst (v := 400) (n := 0) X.1 X.2.2.1 hv (vp_in_nI (n := 0) (by decide) (by decide)) (by decide) dL_full_180 (fun H locs hv => ?_)
  refine sN X (mA_pass l g X.2.2.2 S B y (upd (fun _ => 0) 0 400) 400 rfl _ _ hN hev) hv hl dL_full_181 ⟨Nat.le_of_ble_eq_true rfl, Nat.le_of_ble_eq_true rfl⟩ ⟨Nat.le_of_ble_eq_true rfl, Nat.le_of_ble_eq_true rfl⟩ he (fun H locs hw => ?_)
  have hV := hV.ev (by decide) (fa_pass he) hz
  have hw := hw.nrmW
  refine vn_ (v9 := 400) (vIs_e hq) ?_
  refine lv_sipush (v := 400) X.1.1 X.1.2.1 dL_full_184 (by decide +kernel) ?_
  refine lv_iload_n X.1.1 X.1.2.1 dL_full_187 rfl (lv_at hl 0 rfl) ?_
  refine lv_iconst (v := 1) X.1.1 X.1.2.1 dL_full_188 (by decide) ?_
  refine lv_iadd X.1.1 X.1.2.1 dL_full_189 ?_
  refine vn_ (v9 := 1) (by decide +kernel) ?_
  refine lv_imul X.1.1 X.1.2.1 dL_full_190 ?_
  refine vn_ (v9 := 400) (by decide +kernel) ?_
  refine lv_icmp_eq (tgt := 196) X.1.1 X.1.2.1 dL_full_191 (by decide) (fun _ => ?_) (fun h9 => absurd rfl h9)
  refine W.widen (k := 323) (n := 4727) (Nat.le_of_ble_eq_true rfl) (Nat.le_of_ble_eq_true rfl) ?_
  exact fin _ _ _ _ _ hV hw hr hl
set_option maxHeartbeats 4000000 in
set_option maxRecDepth 100000 in
theorem w_ful_30 {p : Program} {l : Launch} {e : Env} {s : State} {m : MethodId} {args : Array Value} {below : List Frame} {meth : Method} {c : Code} {g : wG} {Q : State → Prop} {y : (Nat → Nat → Int32) × (Nat → Int64) × (Nat → UInt64)} (X : LX p l s m args c cL_full 2 g)
    (fin : FN p l e rmD s m args below meth c g y Q 28 (ch_ful_31) 2 [(1, .int 1), (0, .ref (gA g 0))] 329 4758 196) : FN p l e rmD s m args below meth c g y Q 27 (ch_ful_30) 2 [(1, .int 0), (0, .ref (gA g 0))] 323 4727 196 := by
  intro S B H locs ls hV hw hr hl
  obtain ⟨n9, m9, ne9, n8, m8, hN, hN1, hev, hne, hne2⟩ := hV.cnt
  obtain ⟨he, hq, hz, hr⟩ := cC_e hr
  refine lv_iinc (v := 1) (lv' := [(1, .int 1), (0, .ref (gA g 0))]) X.1.1 X.1.2.1 dL_full_196 hl (k := 0) rfl (by decide) (by decide) rfl (fun ls hl => ?_)
  refine lv_goto (tgt := 163) X.1.1 X.1.2.1 dL_full_199 (by decide) ?_
  refine lv_iload_n X.1.1 X.1.2.1 dL_full_163 rfl (lv_at hl 0 rfl) ?_
  refine lv_bipush (v := 24) X.1.1 X.1.2.1 dL_full_164 (by decide +kernel) ?_
  refine lv_icmp_ge (tgt := 202) X.1.1 X.1.2.1 dL_full_166 (by decide) (fun h9 => absurd h9 (by decide)) (fun _ => ?_)
  refine lv_aload_n X.1.1 X.1.2.1 dL_full_169 rfl (lv_at hl 1 rfl) ?_
  refine lv_bipush (v := (nI 112)) X.1.1 X.1.2.1 dL_full_170 (by decide +kernel) ?_
  refine lv_iconst (v := 1) X.1.1 X.1.2.1 dL_full_172 (by decide) ?_
  refine k_newv (n := 1) (N := 1) X.1 X.2.2.1 hw q_ai (by decide) (by decide) (by decide) (Nat.le_of_ble_eq_true rfl) (Nat.le_of_ble_eq_true rfl) dL_full_173 (fun b H hv => ?_)
  refine lv_dup X.1.1 X.1.2.1 dL_full_175 rfl ?_
  refine lv_iconst (v := 0) X.1.1 X.1.2.1 dL_full_176 (by decide) ?_
  refine lv_sipush (v := 400) X.1.1 X.1.2.1 dL_full_177 (by decide +kernel) ?_
  refine k_vst (v := 400) (n := 0) X.1 X.2.2.1 hv (vp_in_nI (n := 0) (by decide) (by decide)) (by decide) dL_full_180 (fun H locs hv => ?_)
  refine sN X (mA_pass l g X.2.2.2 S B y (upd (fun _ => 0) 0 400) 400 rfl _ _ hN hev) hv hl dL_full_181 ⟨Nat.le_of_ble_eq_true rfl, Nat.le_of_ble_eq_true rfl⟩ ⟨Nat.le_of_ble_eq_true rfl, Nat.le_of_ble_eq_true rfl⟩ he (fun H locs hw => ?_)
  have hV := hV.ev (by decide) (fa_pass he) hz
  have hw := hw.nrmW
  refine vn_ (v9 := 800) (vIs_e hq) ?_
  refine lv_sipush (v := 400) X.1.1 X.1.2.1 dL_full_184 (by decide +kernel) ?_
  refine lv_iload_n X.1.1 X.1.2.1 dL_full_187 rfl (lv_at hl 0 rfl) ?_
  refine lv_iconst (v := 1) X.1.1 X.1.2.1 dL_full_188 (by decide) ?_
  refine lv_iadd X.1.1 X.1.2.1 dL_full_189 ?_
  refine vn_ (v9 := 2) (by decide +kernel) ?_
  refine lv_imul X.1.1 X.1.2.1 dL_full_190 ?_
  refine vn_ (v9 := 800) (by decide +kernel) ?_
  refine lv_icmp_eq (tgt := 196) X.1.1 X.1.2.1 dL_full_191 (by decide) (fun _ => ?_) (fun h9 => absurd rfl h9)
  refine W.widen (k := 329) (n := 4758) (Nat.le_of_ble_eq_true rfl) (Nat.le_of_ble_eq_true rfl) ?_
  exact fin _ _ _ _ _ hV hw hr hl
set_option maxHeartbeats 4000000 in
set_option maxRecDepth 100000 in
theorem w_ful_31 {p : Program} {l : Launch} {e : Env} {s : State} {m : MethodId} {args : Array Value} {below : List Frame} {meth : Method} {c : Code} {g : wG} {Q : State → Prop} {y : (Nat → Nat → Int32) × (Nat → Int64) × (Nat → UInt64)} (X : LX p l s m args c cL_full 2 g)
    (fin : FN p l e rmD s m args below meth c g y Q 29 (ch_ful_32) 2 [(1, .int 2), (0, .ref (gA g 0))] 335 4789 196) : FN p l e rmD s m args below meth c g y Q 28 (ch_ful_31) 2 [(1, .int 1), (0, .ref (gA g 0))] 329 4758 196 := by
  intro S B H locs ls hV hw hr hl
  obtain ⟨n9, m9, ne9, n8, m8, hN, hN1, hev, hne, hne2⟩ := hV.cnt
  obtain ⟨he, hq, hz, hr⟩ := cC_e hr
  refine lv_iinc (v := 2) (lv' := [(1, .int 2), (0, .ref (gA g 0))]) X.1.1 X.1.2.1 dL_full_196 hl (k := 0) rfl (by decide) (by decide) rfl (fun ls hl => ?_)
  refine lv_goto (tgt := 163) X.1.1 X.1.2.1 dL_full_199 (by decide) ?_
  refine lv_iload_n X.1.1 X.1.2.1 dL_full_163 rfl (lv_at hl 0 rfl) ?_
  refine lv_bipush (v := 24) X.1.1 X.1.2.1 dL_full_164 (by decide +kernel) ?_
  refine lv_icmp_ge (tgt := 202) X.1.1 X.1.2.1 dL_full_166 (by decide) (fun h9 => absurd h9 (by decide)) (fun _ => ?_)
  refine lv_aload_n X.1.1 X.1.2.1 dL_full_169 rfl (lv_at hl 1 rfl) ?_
  refine lv_bipush (v := (nI 112)) X.1.1 X.1.2.1 dL_full_170 (by decide +kernel) ?_
  refine lv_iconst (v := 1) X.1.1 X.1.2.1 dL_full_172 (by decide) ?_
  refine k_newv (n := 1) (N := 1) X.1 X.2.2.1 hw q_ai (by decide) (by decide) (by decide) (Nat.le_of_ble_eq_true rfl) (Nat.le_of_ble_eq_true rfl) dL_full_173 (fun b H hv => ?_)
  refine lv_dup X.1.1 X.1.2.1 dL_full_175 rfl ?_
  refine lv_iconst (v := 0) X.1.1 X.1.2.1 dL_full_176 (by decide) ?_
  refine lv_sipush (v := 400) X.1.1 X.1.2.1 dL_full_177 (by decide +kernel) ?_
  refine k_vst (v := 400) (n := 0) X.1 X.2.2.1 hv (vp_in_nI (n := 0) (by decide) (by decide)) (by decide) dL_full_180 (fun H locs hv => ?_)
  refine sN X (mA_pass l g X.2.2.2 S B y (upd (fun _ => 0) 0 400) 400 rfl _ _ hN hev) hv hl dL_full_181 ⟨Nat.le_of_ble_eq_true rfl, Nat.le_of_ble_eq_true rfl⟩ ⟨Nat.le_of_ble_eq_true rfl, Nat.le_of_ble_eq_true rfl⟩ he (fun H locs hw => ?_)
  have hV := hV.ev (by decide) (fa_pass he) hz
  have hw := hw.nrmW
  refine vn_ (v9 := 1200) (vIs_e hq) ?_
  refine lv_sipush (v := 400) X.1.1 X.1.2.1 dL_full_184 (by decide +kernel) ?_
  refine lv_iload_n X.1.1 X.1.2.1 dL_full_187 rfl (lv_at hl 0 rfl) ?_
  refine lv_iconst (v := 1) X.1.1 X.1.2.1 dL_full_188 (by decide) ?_
  refine lv_iadd X.1.1 X.1.2.1 dL_full_189 ?_
  refine vn_ (v9 := 3) (by decide +kernel) ?_
  refine lv_imul X.1.1 X.1.2.1 dL_full_190 ?_
  refine vn_ (v9 := 1200) (by decide +kernel) ?_
  refine lv_icmp_eq (tgt := 196) X.1.1 X.1.2.1 dL_full_191 (by decide) (fun _ => ?_) (fun h9 => absurd rfl h9)
  refine W.widen (k := 335) (n := 4789) (Nat.le_of_ble_eq_true rfl) (Nat.le_of_ble_eq_true rfl) ?_
  exact fin _ _ _ _ _ hV hw hr hl
set_option maxHeartbeats 4000000 in
set_option maxRecDepth 100000 in
theorem w_ful_32 {p : Program} {l : Launch} {e : Env} {s : State} {m : MethodId} {args : Array Value} {below : List Frame} {meth : Method} {c : Code} {g : wG} {Q : State → Prop} {y : (Nat → Nat → Int32) × (Nat → Int64) × (Nat → UInt64)} (X : LX p l s m args c cL_full 2 g)
    (fin : FN p l e rmD s m args below meth c g y Q 30 (ch_ful_33) 2 [(1, .int 3), (0, .ref (gA g 0))] 341 4820 196) : FN p l e rmD s m args below meth c g y Q 29 (ch_ful_32) 2 [(1, .int 2), (0, .ref (gA g 0))] 335 4789 196 := by
  intro S B H locs ls hV hw hr hl
  obtain ⟨n9, m9, ne9, n8, m8, hN, hN1, hev, hne, hne2⟩ := hV.cnt
  obtain ⟨he, hq, hz, hr⟩ := cC_e hr
  refine lv_iinc (v := 3) (lv' := [(1, .int 3), (0, .ref (gA g 0))]) X.1.1 X.1.2.1 dL_full_196 hl (k := 0) rfl (by decide) (by decide) rfl (fun ls hl => ?_)
  refine lv_goto (tgt := 163) X.1.1 X.1.2.1 dL_full_199 (by decide) ?_
  refine lv_iload_n X.1.1 X.1.2.1 dL_full_163 rfl (lv_at hl 0 rfl) ?_
  refine lv_bipush (v := 24) X.1.1 X.1.2.1 dL_full_164 (by decide +kernel) ?_
  refine lv_icmp_ge (tgt := 202) X.1.1 X.1.2.1 dL_full_166 (by decide) (fun h9 => absurd h9 (by decide)) (fun _ => ?_)
  refine lv_aload_n X.1.1 X.1.2.1 dL_full_169 rfl (lv_at hl 1 rfl) ?_
  refine lv_bipush (v := (nI 112)) X.1.1 X.1.2.1 dL_full_170 (by decide +kernel) ?_
  refine lv_iconst (v := 1) X.1.1 X.1.2.1 dL_full_172 (by decide) ?_
  refine k_newv (n := 1) (N := 1) X.1 X.2.2.1 hw q_ai (by decide) (by decide) (by decide) (Nat.le_of_ble_eq_true rfl) (Nat.le_of_ble_eq_true rfl) dL_full_173 (fun b H hv => ?_)
  refine lv_dup X.1.1 X.1.2.1 dL_full_175 rfl ?_
  refine lv_iconst (v := 0) X.1.1 X.1.2.1 dL_full_176 (by decide) ?_
  refine lv_sipush (v := 400) X.1.1 X.1.2.1 dL_full_177 (by decide +kernel) ?_
  refine k_vst (v := 400) (n := 0) X.1 X.2.2.1 hv (vp_in_nI (n := 0) (by decide) (by decide)) (by decide) dL_full_180 (fun H locs hv => ?_)
  refine sN X (mA_pass l g X.2.2.2 S B y (upd (fun _ => 0) 0 400) 400 rfl _ _ hN hev) hv hl dL_full_181 ⟨Nat.le_of_ble_eq_true rfl, Nat.le_of_ble_eq_true rfl⟩ ⟨Nat.le_of_ble_eq_true rfl, Nat.le_of_ble_eq_true rfl⟩ he (fun H locs hw => ?_)
  have hV := hV.ev (by decide) (fa_pass he) hz
  have hw := hw.nrmW
  refine vn_ (v9 := 1600) (vIs_e hq) ?_
  refine lv_sipush (v := 400) X.1.1 X.1.2.1 dL_full_184 (by decide +kernel) ?_
  refine lv_iload_n X.1.1 X.1.2.1 dL_full_187 rfl (lv_at hl 0 rfl) ?_
  refine lv_iconst (v := 1) X.1.1 X.1.2.1 dL_full_188 (by decide) ?_
  refine lv_iadd X.1.1 X.1.2.1 dL_full_189 ?_
  refine vn_ (v9 := 4) (by decide +kernel) ?_
  refine lv_imul X.1.1 X.1.2.1 dL_full_190 ?_
  refine vn_ (v9 := 1600) (by decide +kernel) ?_
  refine lv_icmp_eq (tgt := 196) X.1.1 X.1.2.1 dL_full_191 (by decide) (fun _ => ?_) (fun h9 => absurd rfl h9)
  refine W.widen (k := 341) (n := 4820) (Nat.le_of_ble_eq_true rfl) (Nat.le_of_ble_eq_true rfl) ?_
  exact fin _ _ _ _ _ hV hw hr hl
set_option maxHeartbeats 4000000 in
set_option maxRecDepth 100000 in
theorem w_ful_33 {p : Program} {l : Launch} {e : Env} {s : State} {m : MethodId} {args : Array Value} {below : List Frame} {meth : Method} {c : Code} {g : wG} {Q : State → Prop} {y : (Nat → Nat → Int32) × (Nat → Int64) × (Nat → UInt64)} (X : LX p l s m args c cL_full 2 g)
    (fin : FN p l e rmD s m args below meth c g y Q 31 (ch_ful_34) 2 [(1, .int 4), (0, .ref (gA g 0))] 347 4851 196) : FN p l e rmD s m args below meth c g y Q 30 (ch_ful_33) 2 [(1, .int 3), (0, .ref (gA g 0))] 341 4820 196 := by
  intro S B H locs ls hV hw hr hl
  obtain ⟨n9, m9, ne9, n8, m8, hN, hN1, hev, hne, hne2⟩ := hV.cnt
  obtain ⟨he, hq, hz, hr⟩ := cC_e hr
  refine lv_iinc (v := 4) (lv' := [(1, .int 4), (0, .ref (gA g 0))]) X.1.1 X.1.2.1 dL_full_196 hl (k := 0) rfl (by decide) (by decide) rfl (fun ls hl => ?_)
  refine lv_goto (tgt := 163) X.1.1 X.1.2.1 dL_full_199 (by decide) ?_
  refine lv_iload_n X.1.1 X.1.2.1 dL_full_163 rfl (lv_at hl 0 rfl) ?_
  refine lv_bipush (v := 24) X.1.1 X.1.2.1 dL_full_164 (by decide +kernel) ?_
  refine lv_icmp_ge (tgt := 202) X.1.1 X.1.2.1 dL_full_166 (by decide) (fun h9 => absurd h9 (by decide)) (fun _ => ?_)
  refine lv_aload_n X.1.1 X.1.2.1 dL_full_169 rfl (lv_at hl 1 rfl) ?_
  refine lv_bipush (v := (nI 112)) X.1.1 X.1.2.1 dL_full_170 (by decide +kernel) ?_
  refine lv_iconst (v := 1) X.1.1 X.1.2.1 dL_full_172 (by decide) ?_
  refine k_newv (n := 1) (N := 1) X.1 X.2.2.1 hw q_ai (by decide) (by decide) (by decide) (Nat.le_of_ble_eq_true rfl) (Nat.le_of_ble_eq_true rfl) dL_full_173 (fun b H hv => ?_)
  refine lv_dup X.1.1 X.1.2.1 dL_full_175 rfl ?_
  refine lv_iconst (v := 0) X.1.1 X.1.2.1 dL_full_176 (by decide) ?_
  refine lv_sipush (v := 400) X.1.1 X.1.2.1 dL_full_177 (by decide +kernel) ?_
  refine k_vst (v := 400) (n := 0) X.1 X.2.2.1 hv (vp_in_nI (n := 0) (by decide) (by decide)) (by decide) dL_full_180 (fun H locs hv => ?_)
  refine sN X (mA_pass l g X.2.2.2 S B y (upd (fun _ => 0) 0 400) 400 rfl _ _ hN hev) hv hl dL_full_181 ⟨Nat.le_of_ble_eq_true rfl, Nat.le_of_ble_eq_true rfl⟩ ⟨Nat.le_of_ble_eq_true rfl, Nat.le_of_ble_eq_true rfl⟩ he (fun H locs hw => ?_)
  have hV := hV.ev (by decide) (fa_pass he) hz
  have hw := hw.nrmW
  refine vn_ (v9 := 2000) (vIs_e hq) ?_
  refine lv_sipush (v := 400) X.1.1 X.1.2.1 dL_full_184 (by decide +kernel) ?_
  refine lv_iload_n X.1.1 X.1.2.1 dL_full_187 rfl (lv_at hl 0 rfl) ?_
  refine lv_iconst (v := 1) X.1.1 X.1.2.1 dL_full_188 (by decide) ?_
  refine lv_iadd X.1.1 X.1.2.1 dL_full_189 ?_
  refine vn_ (v9 := 5) (by decide +kernel) ?_
  refine lv_imul X.1.1 X.1.2.1 dL_full_190 ?_
  refine vn_ (v9 := 2000) (by decide +kernel) ?_
  refine lv_icmp_eq (tgt := 196) X.1.1 X.1.2.1 dL_full_191 (by decide) (fun _ => ?_) (fun h9 => absurd rfl h9)
  refine W.widen (k := 347) (n := 4851) (Nat.le_of_ble_eq_true rfl) (Nat.le_of_ble_eq_true rfl) ?_
  exact fin _ _ _ _ _ hV hw hr hl
set_option maxHeartbeats 4000000 in
set_option maxRecDepth 100000 in
theorem w_ful_34 {p : Program} {l : Launch} {e : Env} {s : State} {m : MethodId} {args : Array Value} {below : List Frame} {meth : Method} {c : Code} {g : wG} {Q : State → Prop} {y : (Nat → Nat → Int32) × (Nat → Int64) × (Nat → UInt64)} (X : LX p l s m args c cL_full 2 g)
    (fin : FN p l e rmD s m args below meth c g y Q 32 (ch_ful_35) 2 [(1, .int 5), (0, .ref (gA g 0))] 353 4882 196) : FN p l e rmD s m args below meth c g y Q 31 (ch_ful_34) 2 [(1, .int 4), (0, .ref (gA g 0))] 347 4851 196 := by
  intro S B H locs ls hV hw hr hl
  obtain ⟨n9, m9, ne9, n8, m8, hN, hN1, hev, hne, hne2⟩ := hV.cnt
  obtain ⟨he, hq, hz, hr⟩ := cC_e hr
  refine lv_iinc (v := 5) (lv' := [(1, .int 5), (0, .ref (gA g 0))]) X.1.1 X.1.2.1 dL_full_196 hl (k := 0) rfl (by decide) (by decide) rfl (fun ls hl => ?_)
  refine lv_goto (tgt := 163) X.1.1 X.1.2.1 dL_full_199 (by decide) ?_
  refine lv_iload_n X.1.1 X.1.2.1 dL_full_163 rfl (lv_at hl 0 rfl) ?_
  refine lv_bipush (v := 24) X.1.1 X.1.2.1 dL_full_164 (by decide +kernel) ?_
  refine lv_icmp_ge (tgt := 202) X.1.1 X.1.2.1 dL_full_166 (by decide) (fun h9 => absurd h9 (by decide)) (fun _ => ?_)
  refine lv_aload_n X.1.1 X.1.2.1 dL_full_169 rfl (lv_at hl 1 rfl) ?_
  refine lv_bipush (v := (nI 112)) X.1.1 X.1.2.1 dL_full_170 (by decide +kernel) ?_
  refine lv_iconst (v := 1) X.1.1 X.1.2.1 dL_full_172 (by decide) ?_
  refine k_newv (n := 1) (N := 1) X.1 X.2.2.1 hw q_ai (by decide) (by decide) (by decide) (Nat.le_of_ble_eq_true rfl) (Nat.le_of_ble_eq_true rfl) dL_full_173 (fun b H hv => ?_)
  refine lv_dup X.1.1 X.1.2.1 dL_full_175 rfl ?_
  refine lv_iconst (v := 0) X.1.1 X.1.2.1 dL_full_176 (by decide) ?_
  refine lv_sipush (v := 400) X.1.1 X.1.2.1 dL_full_177 (by decide +kernel) ?_
  refine k_vst (v := 400) (n := 0) X.1 X.2.2.1 hv (vp_in_nI (n := 0) (by decide) (by decide)) (by decide) dL_full_180 (fun H locs hv => ?_)
  refine sN X (mA_pass l g X.2.2.2 S B y (upd (fun _ => 0) 0 400) 400 rfl _ _ hN hev) hv hl dL_full_181 ⟨Nat.le_of_ble_eq_true rfl, Nat.le_of_ble_eq_true rfl⟩ ⟨Nat.le_of_ble_eq_true rfl, Nat.le_of_ble_eq_true rfl⟩ he (fun H locs hw => ?_)
  have hV := hV.ev (by decide) (fa_pass he) hz
  have hw := hw.nrmW
  refine vn_ (v9 := 2400) (vIs_e hq) ?_
  refine lv_sipush (v := 400) X.1.1 X.1.2.1 dL_full_184 (by decide +kernel) ?_
  refine lv_iload_n X.1.1 X.1.2.1 dL_full_187 rfl (lv_at hl 0 rfl) ?_
  refine lv_iconst (v := 1) X.1.1 X.1.2.1 dL_full_188 (by decide) ?_
  refine lv_iadd X.1.1 X.1.2.1 dL_full_189 ?_
  refine vn_ (v9 := 6) (by decide +kernel) ?_
  refine lv_imul X.1.1 X.1.2.1 dL_full_190 ?_
  refine vn_ (v9 := 2400) (by decide +kernel) ?_
  refine lv_icmp_eq (tgt := 196) X.1.1 X.1.2.1 dL_full_191 (by decide) (fun _ => ?_) (fun h9 => absurd rfl h9)
  refine W.widen (k := 353) (n := 4882) (Nat.le_of_ble_eq_true rfl) (Nat.le_of_ble_eq_true rfl) ?_
  exact fin _ _ _ _ _ hV hw hr hl
set_option maxHeartbeats 4000000 in
set_option maxRecDepth 100000 in
theorem w_ful_35 {p : Program} {l : Launch} {e : Env} {s : State} {m : MethodId} {args : Array Value} {below : List Frame} {meth : Method} {c : Code} {g : wG} {Q : State → Prop} {y : (Nat → Nat → Int32) × (Nat → Int64) × (Nat → UInt64)} (X : LX p l s m args c cL_full 2 g)
    (fin : FN p l e rmD s m args below meth c g y Q 33 (ch_ful_36) 2 [(1, .int 6), (0, .ref (gA g 0))] 359 4913 196) : FN p l e rmD s m args below meth c g y Q 32 (ch_ful_35) 2 [(1, .int 5), (0, .ref (gA g 0))] 353 4882 196 := by
  intro S B H locs ls hV hw hr hl
  obtain ⟨n9, m9, ne9, n8, m8, hN, hN1, hev, hne, hne2⟩ := hV.cnt
  obtain ⟨he, hq, hz, hr⟩ := cC_e hr
  refine lv_iinc (v := 6) (lv' := [(1, .int 6), (0, .ref (gA g 0))]) X.1.1 X.1.2.1 dL_full_196 hl (k := 0) rfl (by decide) (by decide) rfl (fun ls hl => ?_)
  refine lv_goto (tgt := 163) X.1.1 X.1.2.1 dL_full_199 (by decide) ?_
  refine lv_iload_n X.1.1 X.1.2.1 dL_full_163 rfl (lv_at hl 0 rfl) ?_
  refine lv_bipush (v := 24) X.1.1 X.1.2.1 dL_full_164 (by decide +kernel) ?_
  refine lv_icmp_ge (tgt := 202) X.1.1 X.1.2.1 dL_full_166 (by decide) (fun h9 => absurd h9 (by decide)) (fun _ => ?_)
  refine lv_aload_n X.1.1 X.1.2.1 dL_full_169 rfl (lv_at hl 1 rfl) ?_
  refine lv_bipush (v := (nI 112)) X.1.1 X.1.2.1 dL_full_170 (by decide +kernel) ?_
  refine lv_iconst (v := 1) X.1.1 X.1.2.1 dL_full_172 (by decide) ?_
  refine k_newv (n := 1) (N := 1) X.1 X.2.2.1 hw q_ai (by decide) (by decide) (by decide) (Nat.le_of_ble_eq_true rfl) (Nat.le_of_ble_eq_true rfl) dL_full_173 (fun b H hv => ?_)
  refine lv_dup X.1.1 X.1.2.1 dL_full_175 rfl ?_
  refine lv_iconst (v := 0) X.1.1 X.1.2.1 dL_full_176 (by decide) ?_
  refine lv_sipush (v := 400) X.1.1 X.1.2.1 dL_full_177 (by decide +kernel) ?_
  refine k_vst (v := 400) (n := 0) X.1 X.2.2.1 hv (vp_in_nI (n := 0) (by decide) (by decide)) (by decide) dL_full_180 (fun H locs hv => ?_)
  refine sN X (mA_pass l g X.2.2.2 S B y (upd (fun _ => 0) 0 400) 400 rfl _ _ hN hev) hv hl dL_full_181 ⟨Nat.le_of_ble_eq_true rfl, Nat.le_of_ble_eq_true rfl⟩ ⟨Nat.le_of_ble_eq_true rfl, Nat.le_of_ble_eq_true rfl⟩ he (fun H locs hw => ?_)
  have hV := hV.ev (by decide) (fa_pass he) hz
  have hw := hw.nrmW
  refine vn_ (v9 := 2800) (vIs_e hq) ?_
  refine lv_sipush (v := 400) X.1.1 X.1.2.1 dL_full_184 (by decide +kernel) ?_
  refine lv_iload_n X.1.1 X.1.2.1 dL_full_187 rfl (lv_at hl 0 rfl) ?_
  refine lv_iconst (v := 1) X.1.1 X.1.2.1 dL_full_188 (by decide) ?_
  refine lv_iadd X.1.1 X.1.2.1 dL_full_189 ?_
  refine vn_ (v9 := 7) (by decide +kernel) ?_
  refine lv_imul X.1.1 X.1.2.1 dL_full_190 ?_
  refine vn_ (v9 := 2800) (by decide +kernel) ?_
  refine lv_icmp_eq (tgt := 196) X.1.1 X.1.2.1 dL_full_191 (by decide) (fun _ => ?_) (fun h9 => absurd rfl h9)
  refine W.widen (k := 359) (n := 4913) (Nat.le_of_ble_eq_true rfl) (Nat.le_of_ble_eq_true rfl) ?_
  exact fin _ _ _ _ _ hV hw hr hl
set_option maxHeartbeats 4000000 in
set_option maxRecDepth 100000 in
theorem w_ful_36 {p : Program} {l : Launch} {e : Env} {s : State} {m : MethodId} {args : Array Value} {below : List Frame} {meth : Method} {c : Code} {g : wG} {Q : State → Prop} {y : (Nat → Nat → Int32) × (Nat → Int64) × (Nat → UInt64)} (X : LX p l s m args c cL_full 2 g)
    (fin : FN p l e rmD s m args below meth c g y Q 34 (ch_ful_37) 2 [(1, .int 7), (0, .ref (gA g 0))] 365 4944 196) : FN p l e rmD s m args below meth c g y Q 33 (ch_ful_36) 2 [(1, .int 6), (0, .ref (gA g 0))] 359 4913 196 := by
  intro S B H locs ls hV hw hr hl
  obtain ⟨n9, m9, ne9, n8, m8, hN, hN1, hev, hne, hne2⟩ := hV.cnt
  obtain ⟨he, hq, hz, hr⟩ := cC_e hr
  refine lv_iinc (v := 7) (lv' := [(1, .int 7), (0, .ref (gA g 0))]) X.1.1 X.1.2.1 dL_full_196 hl (k := 0) rfl (by decide) (by decide) rfl (fun ls hl => ?_)
  refine lv_goto (tgt := 163) X.1.1 X.1.2.1 dL_full_199 (by decide) ?_
  refine lv_iload_n X.1.1 X.1.2.1 dL_full_163 rfl (lv_at hl 0 rfl) ?_
  refine lv_bipush (v := 24) X.1.1 X.1.2.1 dL_full_164 (by decide +kernel) ?_
  refine lv_icmp_ge (tgt := 202) X.1.1 X.1.2.1 dL_full_166 (by decide) (fun h9 => absurd h9 (by decide)) (fun _ => ?_)
  refine lv_aload_n X.1.1 X.1.2.1 dL_full_169 rfl (lv_at hl 1 rfl) ?_
  refine lv_bipush (v := (nI 112)) X.1.1 X.1.2.1 dL_full_170 (by decide +kernel) ?_
  refine lv_iconst (v := 1) X.1.1 X.1.2.1 dL_full_172 (by decide) ?_
  refine k_newv (n := 1) (N := 1) X.1 X.2.2.1 hw q_ai (by decide) (by decide) (by decide) (Nat.le_of_ble_eq_true rfl) (Nat.le_of_ble_eq_true rfl) dL_full_173 (fun b H hv => ?_)
  refine lv_dup X.1.1 X.1.2.1 dL_full_175 rfl ?_
  refine lv_iconst (v := 0) X.1.1 X.1.2.1 dL_full_176 (by decide) ?_
  refine lv_sipush (v := 400) X.1.1 X.1.2.1 dL_full_177 (by decide +kernel) ?_
  refine k_vst (v := 400) (n := 0) X.1 X.2.2.1 hv (vp_in_nI (n := 0) (by decide) (by decide)) (by decide) dL_full_180 (fun H locs hv => ?_)
  refine sN X (mA_pass l g X.2.2.2 S B y (upd (fun _ => 0) 0 400) 400 rfl _ _ hN hev) hv hl dL_full_181 ⟨Nat.le_of_ble_eq_true rfl, Nat.le_of_ble_eq_true rfl⟩ ⟨Nat.le_of_ble_eq_true rfl, Nat.le_of_ble_eq_true rfl⟩ he (fun H locs hw => ?_)
  have hV := hV.ev (by decide) (fa_pass he) hz
  have hw := hw.nrmW
  refine vn_ (v9 := 3200) (vIs_e hq) ?_
  refine lv_sipush (v := 400) X.1.1 X.1.2.1 dL_full_184 (by decide +kernel) ?_
  refine lv_iload_n X.1.1 X.1.2.1 dL_full_187 rfl (lv_at hl 0 rfl) ?_
  refine lv_iconst (v := 1) X.1.1 X.1.2.1 dL_full_188 (by decide) ?_
  refine lv_iadd X.1.1 X.1.2.1 dL_full_189 ?_
  refine vn_ (v9 := 8) (by decide +kernel) ?_
  refine lv_imul X.1.1 X.1.2.1 dL_full_190 ?_
  refine vn_ (v9 := 3200) (by decide +kernel) ?_
  refine lv_icmp_eq (tgt := 196) X.1.1 X.1.2.1 dL_full_191 (by decide) (fun _ => ?_) (fun h9 => absurd rfl h9)
  refine W.widen (k := 365) (n := 4944) (Nat.le_of_ble_eq_true rfl) (Nat.le_of_ble_eq_true rfl) ?_
  exact fin _ _ _ _ _ hV hw hr hl
set_option maxHeartbeats 4000000 in
set_option maxRecDepth 100000 in
theorem w_ful_37 {p : Program} {l : Launch} {e : Env} {s : State} {m : MethodId} {args : Array Value} {below : List Frame} {meth : Method} {c : Code} {g : wG} {Q : State → Prop} {y : (Nat → Nat → Int32) × (Nat → Int64) × (Nat → UInt64)} (X : LX p l s m args c cL_full 2 g)
    (fin : FN p l e rmD s m args below meth c g y Q 35 (ch_ful_38) 2 [(1, .int 8), (0, .ref (gA g 0))] 371 4975 196) : FN p l e rmD s m args below meth c g y Q 34 (ch_ful_37) 2 [(1, .int 7), (0, .ref (gA g 0))] 365 4944 196 := by
  intro S B H locs ls hV hw hr hl
  obtain ⟨n9, m9, ne9, n8, m8, hN, hN1, hev, hne, hne2⟩ := hV.cnt
  obtain ⟨he, hq, hz, hr⟩ := cC_e hr
  refine lv_iinc (v := 8) (lv' := [(1, .int 8), (0, .ref (gA g 0))]) X.1.1 X.1.2.1 dL_full_196 hl (k := 0) rfl (by decide) (by decide) rfl (fun ls hl => ?_)
  refine lv_goto (tgt := 163) X.1.1 X.1.2.1 dL_full_199 (by decide) ?_
  refine lv_iload_n X.1.1 X.1.2.1 dL_full_163 rfl (lv_at hl 0 rfl) ?_
  refine lv_bipush (v := 24) X.1.1 X.1.2.1 dL_full_164 (by decide +kernel) ?_
  refine lv_icmp_ge (tgt := 202) X.1.1 X.1.2.1 dL_full_166 (by decide) (fun h9 => absurd h9 (by decide)) (fun _ => ?_)
  refine lv_aload_n X.1.1 X.1.2.1 dL_full_169 rfl (lv_at hl 1 rfl) ?_
  refine lv_bipush (v := (nI 112)) X.1.1 X.1.2.1 dL_full_170 (by decide +kernel) ?_
  refine lv_iconst (v := 1) X.1.1 X.1.2.1 dL_full_172 (by decide) ?_
  refine k_newv (n := 1) (N := 1) X.1 X.2.2.1 hw q_ai (by decide) (by decide) (by decide) (Nat.le_of_ble_eq_true rfl) (Nat.le_of_ble_eq_true rfl) dL_full_173 (fun b H hv => ?_)
  refine lv_dup X.1.1 X.1.2.1 dL_full_175 rfl ?_
  refine lv_iconst (v := 0) X.1.1 X.1.2.1 dL_full_176 (by decide) ?_
  refine lv_sipush (v := 400) X.1.1 X.1.2.1 dL_full_177 (by decide +kernel) ?_
  refine k_vst (v := 400) (n := 0) X.1 X.2.2.1 hv (vp_in_nI (n := 0) (by decide) (by decide)) (by decide) dL_full_180 (fun H locs hv => ?_)
  refine sN X (mA_pass l g X.2.2.2 S B y (upd (fun _ => 0) 0 400) 400 rfl _ _ hN hev) hv hl dL_full_181 ⟨Nat.le_of_ble_eq_true rfl, Nat.le_of_ble_eq_true rfl⟩ ⟨Nat.le_of_ble_eq_true rfl, Nat.le_of_ble_eq_true rfl⟩ he (fun H locs hw => ?_)
  have hV := hV.ev (by decide) (fa_pass he) hz
  have hw := hw.nrmW
  refine vn_ (v9 := 3600) (vIs_e hq) ?_
  refine lv_sipush (v := 400) X.1.1 X.1.2.1 dL_full_184 (by decide +kernel) ?_
  refine lv_iload_n X.1.1 X.1.2.1 dL_full_187 rfl (lv_at hl 0 rfl) ?_
  refine lv_iconst (v := 1) X.1.1 X.1.2.1 dL_full_188 (by decide) ?_
  refine lv_iadd X.1.1 X.1.2.1 dL_full_189 ?_
  refine vn_ (v9 := 9) (by decide +kernel) ?_
  refine lv_imul X.1.1 X.1.2.1 dL_full_190 ?_
  refine vn_ (v9 := 3600) (by decide +kernel) ?_
  refine lv_icmp_eq (tgt := 196) X.1.1 X.1.2.1 dL_full_191 (by decide) (fun _ => ?_) (fun h9 => absurd rfl h9)
  refine W.widen (k := 371) (n := 4975) (Nat.le_of_ble_eq_true rfl) (Nat.le_of_ble_eq_true rfl) ?_
  exact fin _ _ _ _ _ hV hw hr hl
set_option maxHeartbeats 4000000 in
set_option maxRecDepth 100000 in
theorem w_ful_38 {p : Program} {l : Launch} {e : Env} {s : State} {m : MethodId} {args : Array Value} {below : List Frame} {meth : Method} {c : Code} {g : wG} {Q : State → Prop} {y : (Nat → Nat → Int32) × (Nat → Int64) × (Nat → UInt64)} (X : LX p l s m args c cL_full 2 g)
    (fin : FN p l e rmD s m args below meth c g y Q 36 (ch_ful_39) 2 [(1, .int 9), (0, .ref (gA g 0))] 377 5006 196) : FN p l e rmD s m args below meth c g y Q 35 (ch_ful_38) 2 [(1, .int 8), (0, .ref (gA g 0))] 371 4975 196 := by
  intro S B H locs ls hV hw hr hl
  obtain ⟨n9, m9, ne9, n8, m8, hN, hN1, hev, hne, hne2⟩ := hV.cnt
  obtain ⟨he, hq, hz, hr⟩ := cC_e hr
  refine lv_iinc (v := 9) (lv' := [(1, .int 9), (0, .ref (gA g 0))]) X.1.1 X.1.2.1 dL_full_196 hl (k := 0) rfl (by decide) (by decide) rfl (fun ls hl => ?_)
  refine lv_goto (tgt := 163) X.1.1 X.1.2.1 dL_full_199 (by decide) ?_
  refine lv_iload_n X.1.1 X.1.2.1 dL_full_163 rfl (lv_at hl 0 rfl) ?_
  refine lv_bipush (v := 24) X.1.1 X.1.2.1 dL_full_164 (by decide +kernel) ?_
  refine lv_icmp_ge (tgt := 202) X.1.1 X.1.2.1 dL_full_166 (by decide) (fun h9 => absurd h9 (by decide)) (fun _ => ?_)
  refine lv_aload_n X.1.1 X.1.2.1 dL_full_169 rfl (lv_at hl 1 rfl) ?_
  refine lv_bipush (v := (nI 112)) X.1.1 X.1.2.1 dL_full_170 (by decide +kernel) ?_
  refine lv_iconst (v := 1) X.1.1 X.1.2.1 dL_full_172 (by decide) ?_
  refine k_newv (n := 1) (N := 1) X.1 X.2.2.1 hw q_ai (by decide) (by decide) (by decide) (Nat.le_of_ble_eq_true rfl) (Nat.le_of_ble_eq_true rfl) dL_full_173 (fun b H hv => ?_)
  refine lv_dup X.1.1 X.1.2.1 dL_full_175 rfl ?_
  refine lv_iconst (v := 0) X.1.1 X.1.2.1 dL_full_176 (by decide) ?_
  refine lv_sipush (v := 400) X.1.1 X.1.2.1 dL_full_177 (by decide +kernel) ?_
  refine k_vst (v := 400) (n := 0) X.1 X.2.2.1 hv (vp_in_nI (n := 0) (by decide) (by decide)) (by decide) dL_full_180 (fun H locs hv => ?_)
  refine sN X (mA_pass l g X.2.2.2 S B y (upd (fun _ => 0) 0 400) 400 rfl _ _ hN hev) hv hl dL_full_181 ⟨Nat.le_of_ble_eq_true rfl, Nat.le_of_ble_eq_true rfl⟩ ⟨Nat.le_of_ble_eq_true rfl, Nat.le_of_ble_eq_true rfl⟩ he (fun H locs hw => ?_)
  have hV := hV.ev (by decide) (fa_pass he) hz
  have hw := hw.nrmW
  refine vn_ (v9 := 4000) (vIs_e hq) ?_
  refine lv_sipush (v := 400) X.1.1 X.1.2.1 dL_full_184 (by decide +kernel) ?_
  refine lv_iload_n X.1.1 X.1.2.1 dL_full_187 rfl (lv_at hl 0 rfl) ?_
  refine lv_iconst (v := 1) X.1.1 X.1.2.1 dL_full_188 (by decide) ?_
  refine lv_iadd X.1.1 X.1.2.1 dL_full_189 ?_
  refine vn_ (v9 := 10) (by decide +kernel) ?_
  refine lv_imul X.1.1 X.1.2.1 dL_full_190 ?_
  refine vn_ (v9 := 4000) (by decide +kernel) ?_
  refine lv_icmp_eq (tgt := 196) X.1.1 X.1.2.1 dL_full_191 (by decide) (fun _ => ?_) (fun h9 => absurd rfl h9)
  refine W.widen (k := 377) (n := 5006) (Nat.le_of_ble_eq_true rfl) (Nat.le_of_ble_eq_true rfl) ?_
  exact fin _ _ _ _ _ hV hw hr hl
set_option maxHeartbeats 4000000 in
set_option maxRecDepth 100000 in
theorem w_ful_39 {p : Program} {l : Launch} {e : Env} {s : State} {m : MethodId} {args : Array Value} {below : List Frame} {meth : Method} {c : Code} {g : wG} {Q : State → Prop} {y : (Nat → Nat → Int32) × (Nat → Int64) × (Nat → UInt64)} (X : LX p l s m args c cL_full 2 g)
    (fin : FN p l e rmD s m args below meth c g y Q 37 (ch_ful_40) 2 [(1, .int 10), (0, .ref (gA g 0))] 383 5037 196) : FN p l e rmD s m args below meth c g y Q 36 (ch_ful_39) 2 [(1, .int 9), (0, .ref (gA g 0))] 377 5006 196 := by
  intro S B H locs ls hV hw hr hl
  obtain ⟨n9, m9, ne9, n8, m8, hN, hN1, hev, hne, hne2⟩ := hV.cnt
  obtain ⟨he, hq, hz, hr⟩ := cC_e hr
  refine lv_iinc (v := 10) (lv' := [(1, .int 10), (0, .ref (gA g 0))]) X.1.1 X.1.2.1 dL_full_196 hl (k := 0) rfl (by decide) (by decide) rfl (fun ls hl => ?_)
  refine lv_goto (tgt := 163) X.1.1 X.1.2.1 dL_full_199 (by decide) ?_
  refine lv_iload_n X.1.1 X.1.2.1 dL_full_163 rfl (lv_at hl 0 rfl) ?_
  refine lv_bipush (v := 24) X.1.1 X.1.2.1 dL_full_164 (by decide +kernel) ?_
  refine lv_icmp_ge (tgt := 202) X.1.1 X.1.2.1 dL_full_166 (by decide) (fun h9 => absurd h9 (by decide)) (fun _ => ?_)
  refine lv_aload_n X.1.1 X.1.2.1 dL_full_169 rfl (lv_at hl 1 rfl) ?_
  refine lv_bipush (v := (nI 112)) X.1.1 X.1.2.1 dL_full_170 (by decide +kernel) ?_
  refine lv_iconst (v := 1) X.1.1 X.1.2.1 dL_full_172 (by decide) ?_
  refine k_newv (n := 1) (N := 1) X.1 X.2.2.1 hw q_ai (by decide) (by decide) (by decide) (Nat.le_of_ble_eq_true rfl) (Nat.le_of_ble_eq_true rfl) dL_full_173 (fun b H hv => ?_)
  refine lv_dup X.1.1 X.1.2.1 dL_full_175 rfl ?_
  refine lv_iconst (v := 0) X.1.1 X.1.2.1 dL_full_176 (by decide) ?_
  refine lv_sipush (v := 400) X.1.1 X.1.2.1 dL_full_177 (by decide +kernel) ?_
  refine k_vst (v := 400) (n := 0) X.1 X.2.2.1 hv (vp_in_nI (n := 0) (by decide) (by decide)) (by decide) dL_full_180 (fun H locs hv => ?_)
  refine sN X (mA_pass l g X.2.2.2 S B y (upd (fun _ => 0) 0 400) 400 rfl _ _ hN hev) hv hl dL_full_181 ⟨Nat.le_of_ble_eq_true rfl, Nat.le_of_ble_eq_true rfl⟩ ⟨Nat.le_of_ble_eq_true rfl, Nat.le_of_ble_eq_true rfl⟩ he (fun H locs hw => ?_)
  have hV := hV.ev (by decide) (fa_pass he) hz
  have hw := hw.nrmW
  refine vn_ (v9 := 4400) (vIs_e hq) ?_
  refine lv_sipush (v := 400) X.1.1 X.1.2.1 dL_full_184 (by decide +kernel) ?_
  refine lv_iload_n X.1.1 X.1.2.1 dL_full_187 rfl (lv_at hl 0 rfl) ?_
  refine lv_iconst (v := 1) X.1.1 X.1.2.1 dL_full_188 (by decide) ?_
  refine lv_iadd X.1.1 X.1.2.1 dL_full_189 ?_
  refine vn_ (v9 := 11) (by decide +kernel) ?_
  refine lv_imul X.1.1 X.1.2.1 dL_full_190 ?_
  refine vn_ (v9 := 4400) (by decide +kernel) ?_
  refine lv_icmp_eq (tgt := 196) X.1.1 X.1.2.1 dL_full_191 (by decide) (fun _ => ?_) (fun h9 => absurd rfl h9)
  refine W.widen (k := 383) (n := 5037) (Nat.le_of_ble_eq_true rfl) (Nat.le_of_ble_eq_true rfl) ?_
  exact fin _ _ _ _ _ hV hw hr hl
set_option maxHeartbeats 4000000 in
set_option maxRecDepth 100000 in
theorem w_ful_40 {p : Program} {l : Launch} {e : Env} {s : State} {m : MethodId} {args : Array Value} {below : List Frame} {meth : Method} {c : Code} {g : wG} {Q : State → Prop} {y : (Nat → Nat → Int32) × (Nat → Int64) × (Nat → UInt64)} (X : LX p l s m args c cL_full 2 g)
    (fin : FN p l e rmD s m args below meth c g y Q 38 (ch_ful_41) 2 [(1, .int 11), (0, .ref (gA g 0))] 389 5068 196) : FN p l e rmD s m args below meth c g y Q 37 (ch_ful_40) 2 [(1, .int 10), (0, .ref (gA g 0))] 383 5037 196 := by
  intro S B H locs ls hV hw hr hl
  obtain ⟨n9, m9, ne9, n8, m8, hN, hN1, hev, hne, hne2⟩ := hV.cnt
  obtain ⟨he, hq, hz, hr⟩ := cC_e hr
  refine lv_iinc (v := 11) (lv' := [(1, .int 11), (0, .ref (gA g 0))]) X.1.1 X.1.2.1 dL_full_196 hl (k := 0) rfl (by decide) (by decide) rfl (fun ls hl => ?_)
  refine lv_goto (tgt := 163) X.1.1 X.1.2.1 dL_full_199 (by decide) ?_
  refine lv_iload_n X.1.1 X.1.2.1 dL_full_163 rfl (lv_at hl 0 rfl) ?_
  refine lv_bipush (v := 24) X.1.1 X.1.2.1 dL_full_164 (by decide +kernel) ?_
  refine lv_icmp_ge (tgt := 202) X.1.1 X.1.2.1 dL_full_166 (by decide) (fun h9 => absurd h9 (by decide)) (fun _ => ?_)
  refine lv_aload_n X.1.1 X.1.2.1 dL_full_169 rfl (lv_at hl 1 rfl) ?_
  refine lv_bipush (v := (nI 112)) X.1.1 X.1.2.1 dL_full_170 (by decide +kernel) ?_
  refine lv_iconst (v := 1) X.1.1 X.1.2.1 dL_full_172 (by decide) ?_
  refine k_newv (n := 1) (N := 1) X.1 X.2.2.1 hw q_ai (by decide) (by decide) (by decide) (Nat.le_of_ble_eq_true rfl) (Nat.le_of_ble_eq_true rfl) dL_full_173 (fun b H hv => ?_)
  refine lv_dup X.1.1 X.1.2.1 dL_full_175 rfl ?_
  refine lv_iconst (v := 0) X.1.1 X.1.2.1 dL_full_176 (by decide) ?_
  refine lv_sipush (v := 400) X.1.1 X.1.2.1 dL_full_177 (by decide +kernel) ?_
  refine k_vst (v := 400) (n := 0) X.1 X.2.2.1 hv (vp_in_nI (n := 0) (by decide) (by decide)) (by decide) dL_full_180 (fun H locs hv => ?_)
  refine sN X (mA_pass l g X.2.2.2 S B y (upd (fun _ => 0) 0 400) 400 rfl _ _ hN hev) hv hl dL_full_181 ⟨Nat.le_of_ble_eq_true rfl, Nat.le_of_ble_eq_true rfl⟩ ⟨Nat.le_of_ble_eq_true rfl, Nat.le_of_ble_eq_true rfl⟩ he (fun H locs hw => ?_)
  have hV := hV.ev (by decide) (fa_pass he) hz
  have hw := hw.nrmW
  refine vn_ (v9 := 4800) (vIs_e hq) ?_
  refine lv_sipush (v := 400) X.1.1 X.1.2.1 dL_full_184 (by decide +kernel) ?_
  refine lv_iload_n X.1.1 X.1.2.1 dL_full_187 rfl (lv_at hl 0 rfl) ?_
  refine lv_iconst (v := 1) X.1.1 X.1.2.1 dL_full_188 (by decide) ?_
  refine lv_iadd X.1.1 X.1.2.1 dL_full_189 ?_
  refine vn_ (v9 := 12) (by decide +kernel) ?_
  refine lv_imul X.1.1 X.1.2.1 dL_full_190 ?_
  refine vn_ (v9 := 4800) (by decide +kernel) ?_
  refine lv_icmp_eq (tgt := 196) X.1.1 X.1.2.1 dL_full_191 (by decide) (fun _ => ?_) (fun h9 => absurd rfl h9)
  refine W.widen (k := 389) (n := 5068) (Nat.le_of_ble_eq_true rfl) (Nat.le_of_ble_eq_true rfl) ?_
  exact fin _ _ _ _ _ hV hw hr hl
set_option maxHeartbeats 4000000 in
set_option maxRecDepth 100000 in
theorem w_ful_41 {p : Program} {l : Launch} {e : Env} {s : State} {m : MethodId} {args : Array Value} {below : List Frame} {meth : Method} {c : Code} {g : wG} {Q : State → Prop} {y : (Nat → Nat → Int32) × (Nat → Int64) × (Nat → UInt64)} (X : LX p l s m args c cL_full 2 g)
    (fin : FN p l e rmD s m args below meth c g y Q 39 (ch_ful_42) 2 [(1, .int 12), (0, .ref (gA g 0))] 395 5099 196) : FN p l e rmD s m args below meth c g y Q 38 (ch_ful_41) 2 [(1, .int 11), (0, .ref (gA g 0))] 389 5068 196 := by
  intro S B H locs ls hV hw hr hl
  obtain ⟨n9, m9, ne9, n8, m8, hN, hN1, hev, hne, hne2⟩ := hV.cnt
  obtain ⟨he, hq, hz, hr⟩ := cC_e hr
  refine lv_iinc (v := 12) (lv' := [(1, .int 12), (0, .ref (gA g 0))]) X.1.1 X.1.2.1 dL_full_196 hl (k := 0) rfl (by decide) (by decide) rfl (fun ls hl => ?_)
  refine lv_goto (tgt := 163) X.1.1 X.1.2.1 dL_full_199 (by decide) ?_
  refine lv_iload_n X.1.1 X.1.2.1 dL_full_163 rfl (lv_at hl 0 rfl) ?_
  refine lv_bipush (v := 24) X.1.1 X.1.2.1 dL_full_164 (by decide +kernel) ?_
  refine lv_icmp_ge (tgt := 202) X.1.1 X.1.2.1 dL_full_166 (by decide) (fun h9 => absurd h9 (by decide)) (fun _ => ?_)
  refine lv_aload_n X.1.1 X.1.2.1 dL_full_169 rfl (lv_at hl 1 rfl) ?_
  refine lv_bipush (v := (nI 112)) X.1.1 X.1.2.1 dL_full_170 (by decide +kernel) ?_
  refine lv_iconst (v := 1) X.1.1 X.1.2.1 dL_full_172 (by decide) ?_
  refine k_newv (n := 1) (N := 1) X.1 X.2.2.1 hw q_ai (by decide) (by decide) (by decide) (Nat.le_of_ble_eq_true rfl) (Nat.le_of_ble_eq_true rfl) dL_full_173 (fun b H hv => ?_)
  refine lv_dup X.1.1 X.1.2.1 dL_full_175 rfl ?_
  refine lv_iconst (v := 0) X.1.1 X.1.2.1 dL_full_176 (by decide) ?_
  refine lv_sipush (v := 400) X.1.1 X.1.2.1 dL_full_177 (by decide +kernel) ?_
  refine k_vst (v := 400) (n := 0) X.1 X.2.2.1 hv (vp_in_nI (n := 0) (by decide) (by decide)) (by decide) dL_full_180 (fun H locs hv => ?_)
  refine sN X (mA_pass l g X.2.2.2 S B y (upd (fun _ => 0) 0 400) 400 rfl _ _ hN hev) hv hl dL_full_181 ⟨Nat.le_of_ble_eq_true rfl, Nat.le_of_ble_eq_true rfl⟩ ⟨Nat.le_of_ble_eq_true rfl, Nat.le_of_ble_eq_true rfl⟩ he (fun H locs hw => ?_)
  have hV := hV.ev (by decide) (fa_pass he) hz
  have hw := hw.nrmW
  refine vn_ (v9 := 5200) (vIs_e hq) ?_
  refine lv_sipush (v := 400) X.1.1 X.1.2.1 dL_full_184 (by decide +kernel) ?_
  refine lv_iload_n X.1.1 X.1.2.1 dL_full_187 rfl (lv_at hl 0 rfl) ?_
  refine lv_iconst (v := 1) X.1.1 X.1.2.1 dL_full_188 (by decide) ?_
  refine lv_iadd X.1.1 X.1.2.1 dL_full_189 ?_
  refine vn_ (v9 := 13) (by decide +kernel) ?_
  refine lv_imul X.1.1 X.1.2.1 dL_full_190 ?_
  refine vn_ (v9 := 5200) (by decide +kernel) ?_
  refine lv_icmp_eq (tgt := 196) X.1.1 X.1.2.1 dL_full_191 (by decide) (fun _ => ?_) (fun h9 => absurd rfl h9)
  refine W.widen (k := 395) (n := 5099) (Nat.le_of_ble_eq_true rfl) (Nat.le_of_ble_eq_true rfl) ?_
  exact fin _ _ _ _ _ hV hw hr hl
set_option maxHeartbeats 4000000 in
set_option maxRecDepth 100000 in
theorem w_ful_42 {p : Program} {l : Launch} {e : Env} {s : State} {m : MethodId} {args : Array Value} {below : List Frame} {meth : Method} {c : Code} {g : wG} {Q : State → Prop} {y : (Nat → Nat → Int32) × (Nat → Int64) × (Nat → UInt64)} (X : LX p l s m args c cL_full 2 g)
    (fin : FN p l e rmD s m args below meth c g y Q 40 (ch_ful_43) 2 [(1, .int 13), (0, .ref (gA g 0))] 401 5130 196) : FN p l e rmD s m args below meth c g y Q 39 (ch_ful_42) 2 [(1, .int 12), (0, .ref (gA g 0))] 395 5099 196 := by
  intro S B H locs ls hV hw hr hl
  obtain ⟨n9, m9, ne9, n8, m8, hN, hN1, hev, hne, hne2⟩ := hV.cnt
  obtain ⟨he, hq, hz, hr⟩ := cC_e hr
  refine lv_iinc (v := 13) (lv' := [(1, .int 13), (0, .ref (gA g 0))]) X.1.1 X.1.2.1 dL_full_196 hl (k := 0) rfl (by decide) (by decide) rfl (fun ls hl => ?_)
  refine lv_goto (tgt := 163) X.1.1 X.1.2.1 dL_full_199 (by decide) ?_
  refine lv_iload_n X.1.1 X.1.2.1 dL_full_163 rfl (lv_at hl 0 rfl) ?_
  refine lv_bipush (v := 24) X.1.1 X.1.2.1 dL_full_164 (by decide +kernel) ?_
  refine lv_icmp_ge (tgt := 202) X.1.1 X.1.2.1 dL_full_166 (by decide) (fun h9 => absurd h9 (by decide)) (fun _ => ?_)
  refine lv_aload_n X.1.1 X.1.2.1 dL_full_169 rfl (lv_at hl 1 rfl) ?_
  refine lv_bipush (v := (nI 112)) X.1.1 X.1.2.1 dL_full_170 (by decide +kernel) ?_
  refine lv_iconst (v := 1) X.1.1 X.1.2.1 dL_full_172 (by decide) ?_
  refine k_newv (n := 1) (N := 1) X.1 X.2.2.1 hw q_ai (by decide) (by decide) (by decide) (Nat.le_of_ble_eq_true rfl) (Nat.le_of_ble_eq_true rfl) dL_full_173 (fun b H hv => ?_)
  refine lv_dup X.1.1 X.1.2.1 dL_full_175 rfl ?_
  refine lv_iconst (v := 0) X.1.1 X.1.2.1 dL_full_176 (by decide) ?_
  refine lv_sipush (v := 400) X.1.1 X.1.2.1 dL_full_177 (by decide +kernel) ?_
  refine k_vst (v := 400) (n := 0) X.1 X.2.2.1 hv (vp_in_nI (n := 0) (by decide) (by decide)) (by decide) dL_full_180 (fun H locs hv => ?_)
  refine sN X (mA_pass l g X.2.2.2 S B y (upd (fun _ => 0) 0 400) 400 rfl _ _ hN hev) hv hl dL_full_181 ⟨Nat.le_of_ble_eq_true rfl, Nat.le_of_ble_eq_true rfl⟩ ⟨Nat.le_of_ble_eq_true rfl, Nat.le_of_ble_eq_true rfl⟩ he (fun H locs hw => ?_)
  have hV := hV.ev (by decide) (fa_pass he) hz
  have hw := hw.nrmW
  refine vn_ (v9 := 5600) (vIs_e hq) ?_
  refine lv_sipush (v := 400) X.1.1 X.1.2.1 dL_full_184 (by decide +kernel) ?_
  refine lv_iload_n X.1.1 X.1.2.1 dL_full_187 rfl (lv_at hl 0 rfl) ?_
  refine lv_iconst (v := 1) X.1.1 X.1.2.1 dL_full_188 (by decide) ?_
  refine lv_iadd X.1.1 X.1.2.1 dL_full_189 ?_
  refine vn_ (v9 := 14) (by decide +kernel) ?_
  refine lv_imul X.1.1 X.1.2.1 dL_full_190 ?_
  refine vn_ (v9 := 5600) (by decide +kernel) ?_
  refine lv_icmp_eq (tgt := 196) X.1.1 X.1.2.1 dL_full_191 (by decide) (fun _ => ?_) (fun h9 => absurd rfl h9)
  refine W.widen (k := 401) (n := 5130) (Nat.le_of_ble_eq_true rfl) (Nat.le_of_ble_eq_true rfl) ?_
  exact fin _ _ _ _ _ hV hw hr hl
set_option maxHeartbeats 4000000 in
set_option maxRecDepth 100000 in
theorem w_ful_43 {p : Program} {l : Launch} {e : Env} {s : State} {m : MethodId} {args : Array Value} {below : List Frame} {meth : Method} {c : Code} {g : wG} {Q : State → Prop} {y : (Nat → Nat → Int32) × (Nat → Int64) × (Nat → UInt64)} (X : LX p l s m args c cL_full 2 g)
    (fin : FN p l e rmD s m args below meth c g y Q 41 (ch_ful_44) 2 [(1, .int 14), (0, .ref (gA g 0))] 407 5161 196) : FN p l e rmD s m args below meth c g y Q 40 (ch_ful_43) 2 [(1, .int 13), (0, .ref (gA g 0))] 401 5130 196 := by
  intro S B H locs ls hV hw hr hl
  obtain ⟨n9, m9, ne9, n8, m8, hN, hN1, hev, hne, hne2⟩ := hV.cnt
  obtain ⟨he, hq, hz, hr⟩ := cC_e hr
  refine lv_iinc (v := 14) (lv' := [(1, .int 14), (0, .ref (gA g 0))]) X.1.1 X.1.2.1 dL_full_196 hl (k := 0) rfl (by decide) (by decide) rfl (fun ls hl => ?_)
  refine lv_goto (tgt := 163) X.1.1 X.1.2.1 dL_full_199 (by decide) ?_
  refine lv_iload_n X.1.1 X.1.2.1 dL_full_163 rfl (lv_at hl 0 rfl) ?_
  refine lv_bipush (v := 24) X.1.1 X.1.2.1 dL_full_164 (by decide +kernel) ?_
  refine lv_icmp_ge (tgt := 202) X.1.1 X.1.2.1 dL_full_166 (by decide) (fun h9 => absurd h9 (by decide)) (fun _ => ?_)
  refine lv_aload_n X.1.1 X.1.2.1 dL_full_169 rfl (lv_at hl 1 rfl) ?_
  refine lv_bipush (v := (nI 112)) X.1.1 X.1.2.1 dL_full_170 (by decide +kernel) ?_
  refine lv_iconst (v := 1) X.1.1 X.1.2.1 dL_full_172 (by decide) ?_
  refine k_newv (n := 1) (N := 1) X.1 X.2.2.1 hw q_ai (by decide) (by decide) (by decide) (Nat.le_of_ble_eq_true rfl) (Nat.le_of_ble_eq_true rfl) dL_full_173 (fun b H hv => ?_)
  refine lv_dup X.1.1 X.1.2.1 dL_full_175 rfl ?_
  refine lv_iconst (v := 0) X.1.1 X.1.2.1 dL_full_176 (by decide) ?_
  refine lv_sipush (v := 400) X.1.1 X.1.2.1 dL_full_177 (by decide +kernel) ?_
  refine k_vst (v := 400) (n := 0) X.1 X.2.2.1 hv (vp_in_nI (n := 0) (by decide) (by decide)) (by decide) dL_full_180 (fun H locs hv => ?_)
  refine sN X (mA_pass l g X.2.2.2 S B y (upd (fun _ => 0) 0 400) 400 rfl _ _ hN hev) hv hl dL_full_181 ⟨Nat.le_of_ble_eq_true rfl, Nat.le_of_ble_eq_true rfl⟩ ⟨Nat.le_of_ble_eq_true rfl, Nat.le_of_ble_eq_true rfl⟩ he (fun H locs hw => ?_)
  have hV := hV.ev (by decide) (fa_pass he) hz
  have hw := hw.nrmW
  refine vn_ (v9 := 6000) (vIs_e hq) ?_
  refine lv_sipush (v := 400) X.1.1 X.1.2.1 dL_full_184 (by decide +kernel) ?_
  refine lv_iload_n X.1.1 X.1.2.1 dL_full_187 rfl (lv_at hl 0 rfl) ?_
  refine lv_iconst (v := 1) X.1.1 X.1.2.1 dL_full_188 (by decide) ?_
  refine lv_iadd X.1.1 X.1.2.1 dL_full_189 ?_
  refine vn_ (v9 := 15) (by decide +kernel) ?_
  refine lv_imul X.1.1 X.1.2.1 dL_full_190 ?_
  refine vn_ (v9 := 6000) (by decide +kernel) ?_
  refine lv_icmp_eq (tgt := 196) X.1.1 X.1.2.1 dL_full_191 (by decide) (fun _ => ?_) (fun h9 => absurd rfl h9)
  refine W.widen (k := 407) (n := 5161) (Nat.le_of_ble_eq_true rfl) (Nat.le_of_ble_eq_true rfl) ?_
  exact fin _ _ _ _ _ hV hw hr hl
set_option maxHeartbeats 4000000 in
set_option maxRecDepth 100000 in
theorem w_ful_44 {p : Program} {l : Launch} {e : Env} {s : State} {m : MethodId} {args : Array Value} {below : List Frame} {meth : Method} {c : Code} {g : wG} {Q : State → Prop} {y : (Nat → Nat → Int32) × (Nat → Int64) × (Nat → UInt64)} (X : LX p l s m args c cL_full 2 g)
    (fin : FN p l e rmD s m args below meth c g y Q 42 (ch_ful_45) 2 [(1, .int 15), (0, .ref (gA g 0))] 413 5192 196) : FN p l e rmD s m args below meth c g y Q 41 (ch_ful_44) 2 [(1, .int 14), (0, .ref (gA g 0))] 407 5161 196 := by
  intro S B H locs ls hV hw hr hl
  obtain ⟨n9, m9, ne9, n8, m8, hN, hN1, hev, hne, hne2⟩ := hV.cnt
  obtain ⟨he, hq, hz, hr⟩ := cC_e hr
  refine lv_iinc (v := 15) (lv' := [(1, .int 15), (0, .ref (gA g 0))]) X.1.1 X.1.2.1 dL_full_196 hl (k := 0) rfl (by decide) (by decide) rfl (fun ls hl => ?_)
  refine lv_goto (tgt := 163) X.1.1 X.1.2.1 dL_full_199 (by decide) ?_
  refine lv_iload_n X.1.1 X.1.2.1 dL_full_163 rfl (lv_at hl 0 rfl) ?_
  refine lv_bipush (v := 24) X.1.1 X.1.2.1 dL_full_164 (by decide +kernel) ?_
  refine lv_icmp_ge (tgt := 202) X.1.1 X.1.2.1 dL_full_166 (by decide) (fun h9 => absurd h9 (by decide)) (fun _ => ?_)
  refine lv_aload_n X.1.1 X.1.2.1 dL_full_169 rfl (lv_at hl 1 rfl) ?_
  refine lv_bipush (v := (nI 112)) X.1.1 X.1.2.1 dL_full_170 (by decide +kernel) ?_
  refine lv_iconst (v := 1) X.1.1 X.1.2.1 dL_full_172 (by decide) ?_
  refine k_newv (n := 1) (N := 1) X.1 X.2.2.1 hw q_ai (by decide) (by decide) (by decide) (Nat.le_of_ble_eq_true rfl) (Nat.le_of_ble_eq_true rfl) dL_full_173 (fun b H hv => ?_)
  refine lv_dup X.1.1 X.1.2.1 dL_full_175 rfl ?_
  refine lv_iconst (v := 0) X.1.1 X.1.2.1 dL_full_176 (by decide) ?_
  refine lv_sipush (v := 400) X.1.1 X.1.2.1 dL_full_177 (by decide +kernel) ?_
  refine k_vst (v := 400) (n := 0) X.1 X.2.2.1 hv (vp_in_nI (n := 0) (by decide) (by decide)) (by decide) dL_full_180 (fun H locs hv => ?_)
  refine sN X (mA_pass l g X.2.2.2 S B y (upd (fun _ => 0) 0 400) 400 rfl _ _ hN hev) hv hl dL_full_181 ⟨Nat.le_of_ble_eq_true rfl, Nat.le_of_ble_eq_true rfl⟩ ⟨Nat.le_of_ble_eq_true rfl, Nat.le_of_ble_eq_true rfl⟩ he (fun H locs hw => ?_)
  have hV := hV.ev (by decide) (fa_pass he) hz
  have hw := hw.nrmW
  refine vn_ (v9 := 6400) (vIs_e hq) ?_
  refine lv_sipush (v := 400) X.1.1 X.1.2.1 dL_full_184 (by decide +kernel) ?_
  refine lv_iload_n X.1.1 X.1.2.1 dL_full_187 rfl (lv_at hl 0 rfl) ?_
  refine lv_iconst (v := 1) X.1.1 X.1.2.1 dL_full_188 (by decide) ?_
  refine lv_iadd X.1.1 X.1.2.1 dL_full_189 ?_
  refine vn_ (v9 := 16) (by decide +kernel) ?_
  refine lv_imul X.1.1 X.1.2.1 dL_full_190 ?_
  refine vn_ (v9 := 6400) (by decide +kernel) ?_
  refine lv_icmp_eq (tgt := 196) X.1.1 X.1.2.1 dL_full_191 (by decide) (fun _ => ?_) (fun h9 => absurd rfl h9)
  refine W.widen (k := 413) (n := 5192) (Nat.le_of_ble_eq_true rfl) (Nat.le_of_ble_eq_true rfl) ?_
  exact fin _ _ _ _ _ hV hw hr hl
set_option maxHeartbeats 4000000 in
set_option maxRecDepth 100000 in
theorem w_ful_45 {p : Program} {l : Launch} {e : Env} {s : State} {m : MethodId} {args : Array Value} {below : List Frame} {meth : Method} {c : Code} {g : wG} {Q : State → Prop} {y : (Nat → Nat → Int32) × (Nat → Int64) × (Nat → UInt64)} (X : LX p l s m args c cL_full 2 g)
    (fin : FN p l e rmD s m args below meth c g y Q 43 (ch_ful_46) 2 [(1, .int 16), (0, .ref (gA g 0))] 419 5223 196) : FN p l e rmD s m args below meth c g y Q 42 (ch_ful_45) 2 [(1, .int 15), (0, .ref (gA g 0))] 413 5192 196 := by
  intro S B H locs ls hV hw hr hl
  obtain ⟨n9, m9, ne9, n8, m8, hN, hN1, hev, hne, hne2⟩ := hV.cnt
  obtain ⟨he, hq, hz, hr⟩ := cC_e hr
  refine lv_iinc (v := 16) (lv' := [(1, .int 16), (0, .ref (gA g 0))]) X.1.1 X.1.2.1 dL_full_196 hl (k := 0) rfl (by decide) (by decide) rfl (fun ls hl => ?_)
  refine lv_goto (tgt := 163) X.1.1 X.1.2.1 dL_full_199 (by decide) ?_
  refine lv_iload_n X.1.1 X.1.2.1 dL_full_163 rfl (lv_at hl 0 rfl) ?_
  refine lv_bipush (v := 24) X.1.1 X.1.2.1 dL_full_164 (by decide +kernel) ?_
  refine lv_icmp_ge (tgt := 202) X.1.1 X.1.2.1 dL_full_166 (by decide) (fun h9 => absurd h9 (by decide)) (fun _ => ?_)
  refine lv_aload_n X.1.1 X.1.2.1 dL_full_169 rfl (lv_at hl 1 rfl) ?_
  refine lv_bipush (v := (nI 112)) X.1.1 X.1.2.1 dL_full_170 (by decide +kernel) ?_
  refine lv_iconst (v := 1) X.1.1 X.1.2.1 dL_full_172 (by decide) ?_
  refine k_newv (n := 1) (N := 1) X.1 X.2.2.1 hw q_ai (by decide) (by decide) (by decide) (Nat.le_of_ble_eq_true rfl) (Nat.le_of_ble_eq_true rfl) dL_full_173 (fun b H hv => ?_)
  refine lv_dup X.1.1 X.1.2.1 dL_full_175 rfl ?_
  refine lv_iconst (v := 0) X.1.1 X.1.2.1 dL_full_176 (by decide) ?_
  refine lv_sipush (v := 400) X.1.1 X.1.2.1 dL_full_177 (by decide +kernel) ?_
  refine k_vst (v := 400) (n := 0) X.1 X.2.2.1 hv (vp_in_nI (n := 0) (by decide) (by decide)) (by decide) dL_full_180 (fun H locs hv => ?_)
  refine sN X (mA_pass l g X.2.2.2 S B y (upd (fun _ => 0) 0 400) 400 rfl _ _ hN hev) hv hl dL_full_181 ⟨Nat.le_of_ble_eq_true rfl, Nat.le_of_ble_eq_true rfl⟩ ⟨Nat.le_of_ble_eq_true rfl, Nat.le_of_ble_eq_true rfl⟩ he (fun H locs hw => ?_)
  have hV := hV.ev (by decide) (fa_pass he) hz
  have hw := hw.nrmW
  refine vn_ (v9 := 6800) (vIs_e hq) ?_
  refine lv_sipush (v := 400) X.1.1 X.1.2.1 dL_full_184 (by decide +kernel) ?_
  refine lv_iload_n X.1.1 X.1.2.1 dL_full_187 rfl (lv_at hl 0 rfl) ?_
  refine lv_iconst (v := 1) X.1.1 X.1.2.1 dL_full_188 (by decide) ?_
  refine lv_iadd X.1.1 X.1.2.1 dL_full_189 ?_
  refine vn_ (v9 := 17) (by decide +kernel) ?_
  refine lv_imul X.1.1 X.1.2.1 dL_full_190 ?_
  refine vn_ (v9 := 6800) (by decide +kernel) ?_
  refine lv_icmp_eq (tgt := 196) X.1.1 X.1.2.1 dL_full_191 (by decide) (fun _ => ?_) (fun h9 => absurd rfl h9)
  refine W.widen (k := 419) (n := 5223) (Nat.le_of_ble_eq_true rfl) (Nat.le_of_ble_eq_true rfl) ?_
  exact fin _ _ _ _ _ hV hw hr hl
set_option maxHeartbeats 4000000 in
set_option maxRecDepth 100000 in
theorem w_ful_46 {p : Program} {l : Launch} {e : Env} {s : State} {m : MethodId} {args : Array Value} {below : List Frame} {meth : Method} {c : Code} {g : wG} {Q : State → Prop} {y : (Nat → Nat → Int32) × (Nat → Int64) × (Nat → UInt64)} (X : LX p l s m args c cL_full 2 g)
    (fin : FN p l e rmD s m args below meth c g y Q 44 (ch_ful_47) 2 [(1, .int 17), (0, .ref (gA g 0))] 425 5254 196) : FN p l e rmD s m args below meth c g y Q 43 (ch_ful_46) 2 [(1, .int 16), (0, .ref (gA g 0))] 419 5223 196 := by
  intro S B H locs ls hV hw hr hl
  obtain ⟨n9, m9, ne9, n8, m8, hN, hN1, hev, hne, hne2⟩ := hV.cnt
  obtain ⟨he, hq, hz, hr⟩ := cC_e hr
  refine lv_iinc (v := 17) (lv' := [(1, .int 17), (0, .ref (gA g 0))]) X.1.1 X.1.2.1 dL_full_196 hl (k := 0) rfl (by decide) (by decide) rfl (fun ls hl => ?_)
  refine lv_goto (tgt := 163) X.1.1 X.1.2.1 dL_full_199 (by decide) ?_
  refine lv_iload_n X.1.1 X.1.2.1 dL_full_163 rfl (lv_at hl 0 rfl) ?_
  refine lv_bipush (v := 24) X.1.1 X.1.2.1 dL_full_164 (by decide +kernel) ?_
  refine lv_icmp_ge (tgt := 202) X.1.1 X.1.2.1 dL_full_166 (by decide) (fun h9 => absurd h9 (by decide)) (fun _ => ?_)
  refine lv_aload_n X.1.1 X.1.2.1 dL_full_169 rfl (lv_at hl 1 rfl) ?_
  refine lv_bipush (v := (nI 112)) X.1.1 X.1.2.1 dL_full_170 (by decide +kernel) ?_
  refine lv_iconst (v := 1) X.1.1 X.1.2.1 dL_full_172 (by decide) ?_
  refine k_newv (n := 1) (N := 1) X.1 X.2.2.1 hw q_ai (by decide) (by decide) (by decide) (Nat.le_of_ble_eq_true rfl) (Nat.le_of_ble_eq_true rfl) dL_full_173 (fun b H hv => ?_)
  refine lv_dup X.1.1 X.1.2.1 dL_full_175 rfl ?_
  refine lv_iconst (v := 0) X.1.1 X.1.2.1 dL_full_176 (by decide) ?_
  refine lv_sipush (v := 400) X.1.1 X.1.2.1 dL_full_177 (by decide +kernel) ?_
  refine k_vst (v := 400) (n := 0) X.1 X.2.2.1 hv (vp_in_nI (n := 0) (by decide) (by decide)) (by decide) dL_full_180 (fun H locs hv => ?_)
  refine sN X (mA_pass l g X.2.2.2 S B y (upd (fun _ => 0) 0 400) 400 rfl _ _ hN hev) hv hl dL_full_181 ⟨Nat.le_of_ble_eq_true rfl, Nat.le_of_ble_eq_true rfl⟩ ⟨Nat.le_of_ble_eq_true rfl, Nat.le_of_ble_eq_true rfl⟩ he (fun H locs hw => ?_)
  have hV := hV.ev (by decide) (fa_pass he) hz
  have hw := hw.nrmW
  refine vn_ (v9 := 7200) (vIs_e hq) ?_
  refine lv_sipush (v := 400) X.1.1 X.1.2.1 dL_full_184 (by decide +kernel) ?_
  refine lv_iload_n X.1.1 X.1.2.1 dL_full_187 rfl (lv_at hl 0 rfl) ?_
  refine lv_iconst (v := 1) X.1.1 X.1.2.1 dL_full_188 (by decide) ?_
  refine lv_iadd X.1.1 X.1.2.1 dL_full_189 ?_
  refine vn_ (v9 := 18) (by decide +kernel) ?_
  refine lv_imul X.1.1 X.1.2.1 dL_full_190 ?_
  refine vn_ (v9 := 7200) (by decide +kernel) ?_
  refine lv_icmp_eq (tgt := 196) X.1.1 X.1.2.1 dL_full_191 (by decide) (fun _ => ?_) (fun h9 => absurd rfl h9)
  refine W.widen (k := 425) (n := 5254) (Nat.le_of_ble_eq_true rfl) (Nat.le_of_ble_eq_true rfl) ?_
  exact fin _ _ _ _ _ hV hw hr hl
set_option maxHeartbeats 4000000 in
set_option maxRecDepth 100000 in
theorem w_ful_47 {p : Program} {l : Launch} {e : Env} {s : State} {m : MethodId} {args : Array Value} {below : List Frame} {meth : Method} {c : Code} {g : wG} {Q : State → Prop} {y : (Nat → Nat → Int32) × (Nat → Int64) × (Nat → UInt64)} (X : LX p l s m args c cL_full 2 g)
    (fin : FN p l e rmD s m args below meth c g y Q 45 (ch_ful_48) 2 [(1, .int 18), (0, .ref (gA g 0))] 431 5285 196) : FN p l e rmD s m args below meth c g y Q 44 (ch_ful_47) 2 [(1, .int 17), (0, .ref (gA g 0))] 425 5254 196 := by
  intro S B H locs ls hV hw hr hl
  obtain ⟨n9, m9, ne9, n8, m8, hN, hN1, hev, hne, hne2⟩ := hV.cnt
  obtain ⟨he, hq, hz, hr⟩ := cC_e hr
  refine lv_iinc (v := 18) (lv' := [(1, .int 18), (0, .ref (gA g 0))]) X.1.1 X.1.2.1 dL_full_196 hl (k := 0) rfl (by decide) (by decide) rfl (fun ls hl => ?_)
  refine lv_goto (tgt := 163) X.1.1 X.1.2.1 dL_full_199 (by decide) ?_
  refine lv_iload_n X.1.1 X.1.2.1 dL_full_163 rfl (lv_at hl 0 rfl) ?_
  refine lv_bipush (v := 24) X.1.1 X.1.2.1 dL_full_164 (by decide +kernel) ?_
  refine lv_icmp_ge (tgt := 202) X.1.1 X.1.2.1 dL_full_166 (by decide) (fun h9 => absurd h9 (by decide)) (fun _ => ?_)
  refine lv_aload_n X.1.1 X.1.2.1 dL_full_169 rfl (lv_at hl 1 rfl) ?_
  refine lv_bipush (v := (nI 112)) X.1.1 X.1.2.1 dL_full_170 (by decide +kernel) ?_
  refine lv_iconst (v := 1) X.1.1 X.1.2.1 dL_full_172 (by decide) ?_
  refine k_newv (n := 1) (N := 1) X.1 X.2.2.1 hw q_ai (by decide) (by decide) (by decide) (Nat.le_of_ble_eq_true rfl) (Nat.le_of_ble_eq_true rfl) dL_full_173 (fun b H hv => ?_)
  refine lv_dup X.1.1 X.1.2.1 dL_full_175 rfl ?_
  refine lv_iconst (v := 0) X.1.1 X.1.2.1 dL_full_176 (by decide) ?_
  refine lv_sipush (v := 400) X.1.1 X.1.2.1 dL_full_177 (by decide +kernel) ?_
  refine k_vst (v := 400) (n := 0) X.1 X.2.2.1 hv (vp_in_nI (n := 0) (by decide) (by decide)) (by decide) dL_full_180 (fun H locs hv => ?_)
  refine sN X (mA_pass l g X.2.2.2 S B y (upd (fun _ => 0) 0 400) 400 rfl _ _ hN hev) hv hl dL_full_181 ⟨Nat.le_of_ble_eq_true rfl, Nat.le_of_ble_eq_true rfl⟩ ⟨Nat.le_of_ble_eq_true rfl, Nat.le_of_ble_eq_true rfl⟩ he (fun H locs hw => ?_)
  have hV := hV.ev (by decide) (fa_pass he) hz
  have hw := hw.nrmW
  refine vn_ (v9 := 7600) (vIs_e hq) ?_
  refine lv_sipush (v := 400) X.1.1 X.1.2.1 dL_full_184 (by decide +kernel) ?_
  refine lv_iload_n X.1.1 X.1.2.1 dL_full_187 rfl (lv_at hl 0 rfl) ?_
  refine lv_iconst (v := 1) X.1.1 X.1.2.1 dL_full_188 (by decide) ?_
  refine lv_iadd X.1.1 X.1.2.1 dL_full_189 ?_
  refine vn_ (v9 := 19) (by decide +kernel) ?_
  refine lv_imul X.1.1 X.1.2.1 dL_full_190 ?_
  refine vn_ (v9 := 7600) (by decide +kernel) ?_
  refine lv_icmp_eq (tgt := 196) X.1.1 X.1.2.1 dL_full_191 (by decide) (fun _ => ?_) (fun h9 => absurd rfl h9)
  refine W.widen (k := 431) (n := 5285) (Nat.le_of_ble_eq_true rfl) (Nat.le_of_ble_eq_true rfl) ?_
  exact fin _ _ _ _ _ hV hw hr hl
set_option maxHeartbeats 4000000 in
set_option maxRecDepth 100000 in
theorem w_ful_48 {p : Program} {l : Launch} {e : Env} {s : State} {m : MethodId} {args : Array Value} {below : List Frame} {meth : Method} {c : Code} {g : wG} {Q : State → Prop} {y : (Nat → Nat → Int32) × (Nat → Int64) × (Nat → UInt64)} (X : LX p l s m args c cL_full 2 g)
    (fin : FN p l e rmD s m args below meth c g y Q 46 (ch_ful_49) 2 [(1, .int 19), (0, .ref (gA g 0))] 437 5316 196) : FN p l e rmD s m args below meth c g y Q 45 (ch_ful_48) 2 [(1, .int 18), (0, .ref (gA g 0))] 431 5285 196 := by
  intro S B H locs ls hV hw hr hl
  obtain ⟨n9, m9, ne9, n8, m8, hN, hN1, hev, hne, hne2⟩ := hV.cnt
  obtain ⟨he, hq, hz, hr⟩ := cC_e hr
  refine lv_iinc (v := 19) (lv' := [(1, .int 19), (0, .ref (gA g 0))]) X.1.1 X.1.2.1 dL_full_196 hl (k := 0) rfl (by decide) (by decide) rfl (fun ls hl => ?_)
  refine lv_goto (tgt := 163) X.1.1 X.1.2.1 dL_full_199 (by decide) ?_
  refine lv_iload_n X.1.1 X.1.2.1 dL_full_163 rfl (lv_at hl 0 rfl) ?_
  refine lv_bipush (v := 24) X.1.1 X.1.2.1 dL_full_164 (by decide +kernel) ?_
  refine lv_icmp_ge (tgt := 202) X.1.1 X.1.2.1 dL_full_166 (by decide) (fun h9 => absurd h9 (by decide)) (fun _ => ?_)
  refine lv_aload_n X.1.1 X.1.2.1 dL_full_169 rfl (lv_at hl 1 rfl) ?_
  refine lv_bipush (v := (nI 112)) X.1.1 X.1.2.1 dL_full_170 (by decide +kernel) ?_
  refine lv_iconst (v := 1) X.1.1 X.1.2.1 dL_full_172 (by decide) ?_
  refine k_newv (n := 1) (N := 1) X.1 X.2.2.1 hw q_ai (by decide) (by decide) (by decide) (Nat.le_of_ble_eq_true rfl) (Nat.le_of_ble_eq_true rfl) dL_full_173 (fun b H hv => ?_)
  refine lv_dup X.1.1 X.1.2.1 dL_full_175 rfl ?_
  refine lv_iconst (v := 0) X.1.1 X.1.2.1 dL_full_176 (by decide) ?_
  refine lv_sipush (v := 400) X.1.1 X.1.2.1 dL_full_177 (by decide +kernel) ?_
  refine k_vst (v := 400) (n := 0) X.1 X.2.2.1 hv (vp_in_nI (n := 0) (by decide) (by decide)) (by decide) dL_full_180 (fun H locs hv => ?_)
  refine sN X (mA_pass l g X.2.2.2 S B y (upd (fun _ => 0) 0 400) 400 rfl _ _ hN hev) hv hl dL_full_181 ⟨Nat.le_of_ble_eq_true rfl, Nat.le_of_ble_eq_true rfl⟩ ⟨Nat.le_of_ble_eq_true rfl, Nat.le_of_ble_eq_true rfl⟩ he (fun H locs hw => ?_)
  have hV := hV.ev (by decide) (fa_pass he) hz
  have hw := hw.nrmW
  refine vn_ (v9 := 8000) (vIs_e hq) ?_
  refine lv_sipush (v := 400) X.1.1 X.1.2.1 dL_full_184 (by decide +kernel) ?_
  refine lv_iload_n X.1.1 X.1.2.1 dL_full_187 rfl (lv_at hl 0 rfl) ?_
  refine lv_iconst (v := 1) X.1.1 X.1.2.1 dL_full_188 (by decide) ?_
  refine lv_iadd X.1.1 X.1.2.1 dL_full_189 ?_
  refine vn_ (v9 := 20) (by decide +kernel) ?_
  refine lv_imul X.1.1 X.1.2.1 dL_full_190 ?_
  refine vn_ (v9 := 8000) (by decide +kernel) ?_
  refine lv_icmp_eq (tgt := 196) X.1.1 X.1.2.1 dL_full_191 (by decide) (fun _ => ?_) (fun h9 => absurd rfl h9)
  refine W.widen (k := 437) (n := 5316) (Nat.le_of_ble_eq_true rfl) (Nat.le_of_ble_eq_true rfl) ?_
  exact fin _ _ _ _ _ hV hw hr hl
set_option maxHeartbeats 4000000 in
set_option maxRecDepth 100000 in
theorem w_ful_49 {p : Program} {l : Launch} {e : Env} {s : State} {m : MethodId} {args : Array Value} {below : List Frame} {meth : Method} {c : Code} {g : wG} {Q : State → Prop} {y : (Nat → Nat → Int32) × (Nat → Int64) × (Nat → UInt64)} (X : LX p l s m args c cL_full 2 g)
    (fin : FN p l e rmD s m args below meth c g y Q 47 (ch_ful_50) 2 [(1, .int 20), (0, .ref (gA g 0))] 443 5347 196) : FN p l e rmD s m args below meth c g y Q 46 (ch_ful_49) 2 [(1, .int 19), (0, .ref (gA g 0))] 437 5316 196 := by
  intro S B H locs ls hV hw hr hl
  obtain ⟨n9, m9, ne9, n8, m8, hN, hN1, hev, hne, hne2⟩ := hV.cnt
  obtain ⟨he, hq, hz, hr⟩ := cC_e hr
  refine lv_iinc (v := 20) (lv' := [(1, .int 20), (0, .ref (gA g 0))]) X.1.1 X.1.2.1 dL_full_196 hl (k := 0) rfl (by decide) (by decide) rfl (fun ls hl => ?_)
  refine lv_goto (tgt := 163) X.1.1 X.1.2.1 dL_full_199 (by decide) ?_
  refine lv_iload_n X.1.1 X.1.2.1 dL_full_163 rfl (lv_at hl 0 rfl) ?_
  refine lv_bipush (v := 24) X.1.1 X.1.2.1 dL_full_164 (by decide +kernel) ?_
  refine lv_icmp_ge (tgt := 202) X.1.1 X.1.2.1 dL_full_166 (by decide) (fun h9 => absurd h9 (by decide)) (fun _ => ?_)
  refine lv_aload_n X.1.1 X.1.2.1 dL_full_169 rfl (lv_at hl 1 rfl) ?_
  refine lv_bipush (v := (nI 112)) X.1.1 X.1.2.1 dL_full_170 (by decide +kernel) ?_
  refine lv_iconst (v := 1) X.1.1 X.1.2.1 dL_full_172 (by decide) ?_
  refine k_newv (n := 1) (N := 1) X.1 X.2.2.1 hw q_ai (by decide) (by decide) (by decide) (Nat.le_of_ble_eq_true rfl) (Nat.le_of_ble_eq_true rfl) dL_full_173 (fun b H hv => ?_)
  refine lv_dup X.1.1 X.1.2.1 dL_full_175 rfl ?_
  refine lv_iconst (v := 0) X.1.1 X.1.2.1 dL_full_176 (by decide) ?_
  refine lv_sipush (v := 400) X.1.1 X.1.2.1 dL_full_177 (by decide +kernel) ?_
  refine k_vst (v := 400) (n := 0) X.1 X.2.2.1 hv (vp_in_nI (n := 0) (by decide) (by decide)) (by decide) dL_full_180 (fun H locs hv => ?_)
  refine sN X (mA_pass l g X.2.2.2 S B y (upd (fun _ => 0) 0 400) 400 rfl _ _ hN hev) hv hl dL_full_181 ⟨Nat.le_of_ble_eq_true rfl, Nat.le_of_ble_eq_true rfl⟩ ⟨Nat.le_of_ble_eq_true rfl, Nat.le_of_ble_eq_true rfl⟩ he (fun H locs hw => ?_)
  have hV := hV.ev (by decide) (fa_pass he) hz
  have hw := hw.nrmW
  refine vn_ (v9 := 8400) (vIs_e hq) ?_
  refine lv_sipush (v := 400) X.1.1 X.1.2.1 dL_full_184 (by decide +kernel) ?_
  refine lv_iload_n X.1.1 X.1.2.1 dL_full_187 rfl (lv_at hl 0 rfl) ?_
  refine lv_iconst (v := 1) X.1.1 X.1.2.1 dL_full_188 (by decide) ?_
  refine lv_iadd X.1.1 X.1.2.1 dL_full_189 ?_
  refine vn_ (v9 := 21) (by decide +kernel) ?_
  refine lv_imul X.1.1 X.1.2.1 dL_full_190 ?_
  refine vn_ (v9 := 8400) (by decide +kernel) ?_
  refine lv_icmp_eq (tgt := 196) X.1.1 X.1.2.1 dL_full_191 (by decide) (fun _ => ?_) (fun h9 => absurd rfl h9)
  refine W.widen (k := 443) (n := 5347) (Nat.le_of_ble_eq_true rfl) (Nat.le_of_ble_eq_true rfl) ?_
  exact fin _ _ _ _ _ hV hw hr hl
set_option maxHeartbeats 4000000 in
set_option maxRecDepth 100000 in
theorem w_ful_50 {p : Program} {l : Launch} {e : Env} {s : State} {m : MethodId} {args : Array Value} {below : List Frame} {meth : Method} {c : Code} {g : wG} {Q : State → Prop} {y : (Nat → Nat → Int32) × (Nat → Int64) × (Nat → UInt64)} (X : LX p l s m args c cL_full 2 g)
    (fin : FN p l e rmD s m args below meth c g y Q 48 (ch_ful_51) 2 [(1, .int 21), (0, .ref (gA g 0))] 449 5378 196) : FN p l e rmD s m args below meth c g y Q 47 (ch_ful_50) 2 [(1, .int 20), (0, .ref (gA g 0))] 443 5347 196 := by
  intro S B H locs ls hV hw hr hl
  obtain ⟨n9, m9, ne9, n8, m8, hN, hN1, hev, hne, hne2⟩ := hV.cnt
  obtain ⟨he, hq, hz, hr⟩ := cC_e hr
  refine lv_iinc (v := 21) (lv' := [(1, .int 21), (0, .ref (gA g 0))]) X.1.1 X.1.2.1 dL_full_196 hl (k := 0) rfl (by decide) (by decide) rfl (fun ls hl => ?_)
  refine lv_goto (tgt := 163) X.1.1 X.1.2.1 dL_full_199 (by decide) ?_
  refine lv_iload_n X.1.1 X.1.2.1 dL_full_163 rfl (lv_at hl 0 rfl) ?_
  refine lv_bipush (v := 24) X.1.1 X.1.2.1 dL_full_164 (by decide +kernel) ?_
  refine lv_icmp_ge (tgt := 202) X.1.1 X.1.2.1 dL_full_166 (by decide) (fun h9 => absurd h9 (by decide)) (fun _ => ?_)
  refine lv_aload_n X.1.1 X.1.2.1 dL_full_169 rfl (lv_at hl 1 rfl) ?_
  refine lv_bipush (v := (nI 112)) X.1.1 X.1.2.1 dL_full_170 (by decide +kernel) ?_
  refine lv_iconst (v := 1) X.1.1 X.1.2.1 dL_full_172 (by decide) ?_
  refine k_newv (n := 1) (N := 1) X.1 X.2.2.1 hw q_ai (by decide) (by decide) (by decide) (Nat.le_of_ble_eq_true rfl) (Nat.le_of_ble_eq_true rfl) dL_full_173 (fun b H hv => ?_)
  refine lv_dup X.1.1 X.1.2.1 dL_full_175 rfl ?_
  refine lv_iconst (v := 0) X.1.1 X.1.2.1 dL_full_176 (by decide) ?_
  refine lv_sipush (v := 400) X.1.1 X.1.2.1 dL_full_177 (by decide +kernel) ?_
  refine k_vst (v := 400) (n := 0) X.1 X.2.2.1 hv (vp_in_nI (n := 0) (by decide) (by decide)) (by decide) dL_full_180 (fun H locs hv => ?_)
  refine sN X (mA_pass l g X.2.2.2 S B y (upd (fun _ => 0) 0 400) 400 rfl _ _ hN hev) hv hl dL_full_181 ⟨Nat.le_of_ble_eq_true rfl, Nat.le_of_ble_eq_true rfl⟩ ⟨Nat.le_of_ble_eq_true rfl, Nat.le_of_ble_eq_true rfl⟩ he (fun H locs hw => ?_)
  have hV := hV.ev (by decide) (fa_pass he) hz
  have hw := hw.nrmW
  refine vn_ (v9 := 8800) (vIs_e hq) ?_
  refine lv_sipush (v := 400) X.1.1 X.1.2.1 dL_full_184 (by decide +kernel) ?_
  refine lv_iload_n X.1.1 X.1.2.1 dL_full_187 rfl (lv_at hl 0 rfl) ?_
  refine lv_iconst (v := 1) X.1.1 X.1.2.1 dL_full_188 (by decide) ?_
  refine lv_iadd X.1.1 X.1.2.1 dL_full_189 ?_
  refine vn_ (v9 := 22) (by decide +kernel) ?_
  refine lv_imul X.1.1 X.1.2.1 dL_full_190 ?_
  refine vn_ (v9 := 8800) (by decide +kernel) ?_
  refine lv_icmp_eq (tgt := 196) X.1.1 X.1.2.1 dL_full_191 (by decide) (fun _ => ?_) (fun h9 => absurd rfl h9)
  refine W.widen (k := 449) (n := 5378) (Nat.le_of_ble_eq_true rfl) (Nat.le_of_ble_eq_true rfl) ?_
  exact fin _ _ _ _ _ hV hw hr hl
set_option maxHeartbeats 4000000 in
set_option maxRecDepth 100000 in
theorem w_ful_51 {p : Program} {l : Launch} {e : Env} {s : State} {m : MethodId} {args : Array Value} {below : List Frame} {meth : Method} {c : Code} {g : wG} {Q : State → Prop} {y : (Nat → Nat → Int32) × (Nat → Int64) × (Nat → UInt64)} (X : LX p l s m args c cL_full 2 g)
    (fin : FN p l e rmD s m args below meth c g y Q 49 (ch_ful_52) 2 [(1, .int 22), (0, .ref (gA g 0))] 455 5409 196) : FN p l e rmD s m args below meth c g y Q 48 (ch_ful_51) 2 [(1, .int 21), (0, .ref (gA g 0))] 449 5378 196 := by
  intro S B H locs ls hV hw hr hl
  obtain ⟨n9, m9, ne9, n8, m8, hN, hN1, hev, hne, hne2⟩ := hV.cnt
  obtain ⟨he, hq, hz, hr⟩ := cC_e hr
  refine lv_iinc (v := 22) (lv' := [(1, .int 22), (0, .ref (gA g 0))]) X.1.1 X.1.2.1 dL_full_196 hl (k := 0) rfl (by decide) (by decide) rfl (fun ls hl => ?_)
  refine lv_goto (tgt := 163) X.1.1 X.1.2.1 dL_full_199 (by decide) ?_
  refine lv_iload_n X.1.1 X.1.2.1 dL_full_163 rfl (lv_at hl 0 rfl) ?_
  refine lv_bipush (v := 24) X.1.1 X.1.2.1 dL_full_164 (by decide +kernel) ?_
  refine lv_icmp_ge (tgt := 202) X.1.1 X.1.2.1 dL_full_166 (by decide) (fun h9 => absurd h9 (by decide)) (fun _ => ?_)
  refine lv_aload_n X.1.1 X.1.2.1 dL_full_169 rfl (lv_at hl 1 rfl) ?_
  refine lv_bipush (v := (nI 112)) X.1.1 X.1.2.1 dL_full_170 (by decide +kernel) ?_
  refine lv_iconst (v := 1) X.1.1 X.1.2.1 dL_full_172 (by decide) ?_
  refine k_newv (n := 1) (N := 1) X.1 X.2.2.1 hw q_ai (by decide) (by decide) (by decide) (Nat.le_of_ble_eq_true rfl) (Nat.le_of_ble_eq_true rfl) dL_full_173 (fun b H hv => ?_)
  refine lv_dup X.1.1 X.1.2.1 dL_full_175 rfl ?_
  refine lv_iconst (v := 0) X.1.1 X.1.2.1 dL_full_176 (by decide) ?_
  refine lv_sipush (v := 400) X.1.1 X.1.2.1 dL_full_177 (by decide +kernel) ?_
  refine k_vst (v := 400) (n := 0) X.1 X.2.2.1 hv (vp_in_nI (n := 0) (by decide) (by decide)) (by decide) dL_full_180 (fun H locs hv => ?_)
  refine sN X (mA_pass l g X.2.2.2 S B y (upd (fun _ => 0) 0 400) 400 rfl _ _ hN hev) hv hl dL_full_181 ⟨Nat.le_of_ble_eq_true rfl, Nat.le_of_ble_eq_true rfl⟩ ⟨Nat.le_of_ble_eq_true rfl, Nat.le_of_ble_eq_true rfl⟩ he (fun H locs hw => ?_)
  have hV := hV.ev (by decide) (fa_pass he) hz
  have hw := hw.nrmW
  refine vn_ (v9 := 9200) (vIs_e hq) ?_
  refine lv_sipush (v := 400) X.1.1 X.1.2.1 dL_full_184 (by decide +kernel) ?_
  refine lv_iload_n X.1.1 X.1.2.1 dL_full_187 rfl (lv_at hl 0 rfl) ?_
  refine lv_iconst (v := 1) X.1.1 X.1.2.1 dL_full_188 (by decide) ?_
  refine lv_iadd X.1.1 X.1.2.1 dL_full_189 ?_
  refine vn_ (v9 := 23) (by decide +kernel) ?_
  refine lv_imul X.1.1 X.1.2.1 dL_full_190 ?_
  refine vn_ (v9 := 9200) (by decide +kernel) ?_
  refine lv_icmp_eq (tgt := 196) X.1.1 X.1.2.1 dL_full_191 (by decide) (fun _ => ?_) (fun h9 => absurd rfl h9)
  refine W.widen (k := 455) (n := 5409) (Nat.le_of_ble_eq_true rfl) (Nat.le_of_ble_eq_true rfl) ?_
  exact fin _ _ _ _ _ hV hw hr hl
set_option maxHeartbeats 4000000 in
set_option maxRecDepth 100000 in
theorem w_ful_52 {p : Program} {l : Launch} {e : Env} {s : State} {m : MethodId} {args : Array Value} {below : List Frame} {meth : Method} {c : Code} {g : wG} {Q : State → Prop} {y : (Nat → Nat → Int32) × (Nat → Int64) × (Nat → UInt64)} (X : LX p l s m args c cL_full 2 g)
    (fin : FN p l e rmD s m args below meth c g y Q 50 (ch_ful_53) 2 [(1, .int 23), (0, .ref (gA g 0))] 461 5440 196) : FN p l e rmD s m args below meth c g y Q 49 (ch_ful_52) 2 [(1, .int 22), (0, .ref (gA g 0))] 455 5409 196 := by
  intro S B H locs ls hV hw hr hl
  obtain ⟨n9, m9, ne9, n8, m8, hN, hN1, hev, hne, hne2⟩ := hV.cnt
  obtain ⟨he, hq, hz, hr⟩ := cC_e hr
  refine lv_iinc (v := 23) (lv' := [(1, .int 23), (0, .ref (gA g 0))]) X.1.1 X.1.2.1 dL_full_196 hl (k := 0) rfl (by decide) (by decide) rfl (fun ls hl => ?_)
  refine lv_goto (tgt := 163) X.1.1 X.1.2.1 dL_full_199 (by decide) ?_
  refine lv_iload_n X.1.1 X.1.2.1 dL_full_163 rfl (lv_at hl 0 rfl) ?_
  refine lv_bipush (v := 24) X.1.1 X.1.2.1 dL_full_164 (by decide +kernel) ?_
  refine lv_icmp_ge (tgt := 202) X.1.1 X.1.2.1 dL_full_166 (by decide) (fun h9 => absurd h9 (by decide)) (fun _ => ?_)
  refine lv_aload_n X.1.1 X.1.2.1 dL_full_169 rfl (lv_at hl 1 rfl) ?_
  refine lv_bipush (v := (nI 112)) X.1.1 X.1.2.1 dL_full_170 (by decide +kernel) ?_
  refine lv_iconst (v := 1) X.1.1 X.1.2.1 dL_full_172 (by decide) ?_
  refine k_newv (n := 1) (N := 1) X.1 X.2.2.1 hw q_ai (by decide) (by decide) (by decide) (Nat.le_of_ble_eq_true rfl) (Nat.le_of_ble_eq_true rfl) dL_full_173 (fun b H hv => ?_)
  refine lv_dup X.1.1 X.1.2.1 dL_full_175 rfl ?_
  refine lv_iconst (v := 0) X.1.1 X.1.2.1 dL_full_176 (by decide) ?_
  refine lv_sipush (v := 400) X.1.1 X.1.2.1 dL_full_177 (by decide +kernel) ?_
  refine k_vst (v := 400) (n := 0) X.1 X.2.2.1 hv (vp_in_nI (n := 0) (by decide) (by decide)) (by decide) dL_full_180 (fun H locs hv => ?_)
  refine sN X (mA_pass l g X.2.2.2 S B y (upd (fun _ => 0) 0 400) 400 rfl _ _ hN hev) hv hl dL_full_181 ⟨Nat.le_of_ble_eq_true rfl, Nat.le_of_ble_eq_true rfl⟩ ⟨Nat.le_of_ble_eq_true rfl, Nat.le_of_ble_eq_true rfl⟩ he (fun H locs hw => ?_)
  have hV := hV.ev (by decide) (fa_pass he) hz
  have hw := hw.nrmW
  refine vn_ (v9 := 9600) (vIs_e hq) ?_
  refine lv_sipush (v := 400) X.1.1 X.1.2.1 dL_full_184 (by decide +kernel) ?_
  refine lv_iload_n X.1.1 X.1.2.1 dL_full_187 rfl (lv_at hl 0 rfl) ?_
  refine lv_iconst (v := 1) X.1.1 X.1.2.1 dL_full_188 (by decide) ?_
  refine lv_iadd X.1.1 X.1.2.1 dL_full_189 ?_
  refine vn_ (v9 := 24) (by decide +kernel) ?_
  refine lv_imul X.1.1 X.1.2.1 dL_full_190 ?_
  refine vn_ (v9 := 9600) (by decide +kernel) ?_
  refine lv_icmp_eq (tgt := 196) X.1.1 X.1.2.1 dL_full_191 (by decide) (fun _ => ?_) (fun h9 => absurd rfl h9)
  refine W.widen (k := 461) (n := 5440) (Nat.le_of_ble_eq_true rfl) (Nat.le_of_ble_eq_true rfl) ?_
  exact fin _ _ _ _ _ hV hw hr hl
set_option maxHeartbeats 4000000 in
set_option maxRecDepth 100000 in
theorem w_ful_53 {p : Program} {l : Launch} {e : Env} {s : State} {m : MethodId} {args : Array Value} {below : List Frame} {meth : Method} {c : Code} {g : wG} {Q : State → Prop} {y : (Nat → Nat → Int32) × (Nat → Int64) × (Nat → UInt64)} (X : LX p l s m args c cL_full 2 g)
    (fin : FN p l e rmD s m args below meth c g y Q 50 (ch_ful_54) 2 [(1, .int 24), (0, .ref (gA g 0))] 467 5471 222) : FN p l e rmD s m args below meth c g y Q 50 (ch_ful_53) 2 [(1, .int 23), (0, .ref (gA g 0))] 461 5440 196 := by
  intro S B H locs ls hV hw hr hl
  obtain ⟨n9, m9, ne9, n8, m8, hN, hN1, hev, hne, hne2⟩ := hV.cnt
  obtain ⟨he, hr⟩ := cX_e hr
  refine lv_iinc (v := 24) (lv' := [(1, .int 24), (0, .ref (gA g 0))]) X.1.1 X.1.2.1 dL_full_196 hl (k := 0) rfl (by decide) (by decide) rfl (fun ls hl => ?_)
  refine lv_goto (tgt := 163) X.1.1 X.1.2.1 dL_full_199 (by decide) ?_
  refine lv_iload_n X.1.1 X.1.2.1 dL_full_163 rfl (lv_at hl 0 rfl) ?_
  refine lv_bipush (v := 24) X.1.1 X.1.2.1 dL_full_164 (by decide +kernel) ?_
  refine lv_icmp_ge (tgt := 202) X.1.1 X.1.2.1 dL_full_166 (by decide) (fun _ => ?_) (fun h9 => absurd h9 (by decide))
  refine lv_aload_n X.1.1 X.1.2.1 dL_full_202 rfl (lv_at hl 1 rfl) ?_
  refine lv_bipush (v := (nI 112)) X.1.1 X.1.2.1 dL_full_203 (by decide +kernel) ?_
  refine lv_iconst (v := 1) X.1.1 X.1.2.1 dL_full_205 (by decide) ?_
  refine k_newv (n := 1) (N := 1) X.1 X.2.2.1 hw q_ai (by decide) (by decide) (by decide) (Nat.le_of_ble_eq_true rfl) (Nat.le_of_ble_eq_true rfl) dL_full_206 (fun b H hv => ?_)
  refine lv_dup X.1.1 X.1.2.1 dL_full_208 rfl ?_
  refine lv_iconst (v := 0) X.1.1 X.1.2.1 dL_full_209 (by decide) ?_
  refine lv_sipush (v := 400) X.1.1 X.1.2.1 dL_full_210 (by decide +kernel) ?_
  refine k_vst (v := 400) (n := 0) X.1 X.2.2.1 hv (vp_in_nI (n := 0) (by decide) (by decide)) (by decide) dL_full_213 (fun H locs hv => ?_)
  refine sX X (mA_pass l g X.2.2.2 S B y (upd (fun _ => 0) 0 400) 400 rfl _ _ hN hev) hv hl dL_full_214 ⟨Nat.le_of_ble_eq_true rfl, Nat.le_of_ble_eq_true rfl⟩ ⟨Nat.le_of_ble_eq_true rfl, Nat.le_of_ble_eq_true rfl⟩ he kX_3 (fun H locs hw => ?_)
  refine lv_ldc (v := (-2000000003)) X.1.1 X.1.2.1 X.1.2.2.1 (X.1.2.2.2 _ q903) dL_full_217 ?_
  refine lv_icmp_ne (tgt := 402) X.1.1 X.1.2.1 dL_full_219 (by decide) (fun h9 => absurd rfl h9) (fun _ => ?_)
  refine W.widen (k := 467) (n := 5471) (Nat.le_of_ble_eq_true rfl) (Nat.le_of_ble_eq_true rfl) ?_
  exact fin _ _ _ _ _ hV hw hr hl
set_option maxHeartbeats 4000000 in
set_option maxRecDepth 100000 in
theorem w_ful_54 {p : Program} {l : Launch} {e : Env} {s : State} {m : MethodId} {args : Array Value} {below : List Frame} {meth : Method} {c : Code} {g : wG} {Q : State → Prop} {y : (Nat → Nat → Int32) × (Nat → Int64) × (Nat → UInt64)} (X : LX p l s m args c cL_full 2 g)
    (fin : FN p l e rmD s m args below meth c g y Q 51 (ch_ful_55) 2 [(1, .int 24), (0, .ref (gA g 0))] 473 5502 243) : FN p l e rmD s m args below meth c g y Q 50 (ch_ful_54) 2 [(1, .int 24), (0, .ref (gA g 0))] 467 5471 222 := by
  intro S B H locs ls hV hw hr hl
  obtain ⟨n9, m9, ne9, n8, m8, hN, hN1, hev, hne, hne2⟩ := hV.cnt
  obtain ⟨he, hq, hz, hr⟩ := cC_e hr
  refine lv_aload_n X.1.1 X.1.2.1 dL_full_222 rfl (lv_at hl 1 rfl) ?_
  refine lv_bipush (v := (nI 112)) X.1.1 X.1.2.1 dL_full_223 (by decide +kernel) ?_
  refine lv_iconst (v := 1) X.1.1 X.1.2.1 dL_full_225 (by decide) ?_
  refine k_newv (n := 1) (N := 1) X.1 X.2.2.1 hw q_ai (by decide) (by decide) (by decide) (Nat.le_of_ble_eq_true rfl) (Nat.le_of_ble_eq_true rfl) dL_full_226 (fun b H hv => ?_)
  refine lv_dup X.1.1 X.1.2.1 dL_full_228 rfl ?_
  refine lv_iconst (v := 0) X.1.1 X.1.2.1 dL_full_229 (by decide) ?_
  refine lv_sipush (v := 399) X.1.1 X.1.2.1 dL_full_230 (by decide +kernel) ?_
  refine k_vst (v := 399) (n := 0) X.1 X.2.2.1 hv (vp_in_nI (n := 0) (by decide) (by decide)) (by decide) dL_full_233 (fun H locs hv => ?_)
  refine sN X (mA_pass l g X.2.2.2 S B y (upd (fun _ => 0) 0 399) 399 rfl _ _ hN hev) hv hl dL_full_234 ⟨Nat.le_of_ble_eq_true rfl, Nat.le_of_ble_eq_true rfl⟩ ⟨Nat.le_of_ble_eq_true rfl, Nat.le_of_ble_eq_true rfl⟩ he (fun H locs hw => ?_)
  have hV := hV.ev (by decide) (fa_pass he) hz
  have hw := hw.nrmW
  refine vn_ (v9 := 9999) (vIs_e hq) ?_
  refine lv_sipush (v := 9999) X.1.1 X.1.2.1 dL_full_237 (by decide +kernel) ?_
  refine lv_icmp_ne (tgt := 402) X.1.1 X.1.2.1 dL_full_240 (by decide) (fun h9 => absurd rfl h9) (fun _ => ?_)
  refine W.widen (k := 473) (n := 5502) (Nat.le_of_ble_eq_true rfl) (Nat.le_of_ble_eq_true rfl) ?_
  exact fin _ _ _ _ _ hV hw hr hl
set_option maxHeartbeats 4000000 in
set_option maxRecDepth 100000 in
theorem w_ful_55 {p : Program} {l : Launch} {e : Env} {s : State} {m : MethodId} {args : Array Value} {below : List Frame} {meth : Method} {c : Code} {g : wG} {Q : State → Prop} {y : (Nat → Nat → Int32) × (Nat → Int64) × (Nat → UInt64)} (X : LX p l s m args c cL_full 2 g)
    (fin : FN p l e rmD s m args below meth c g y Q 51 (ch_ful_56) 2 [(1, .int 24), (0, .ref (gA g 0))] 479 5533 261) : FN p l e rmD s m args below meth c g y Q 51 (ch_ful_55) 2 [(1, .int 24), (0, .ref (gA g 0))] 473 5502 243 := by
  intro S B H locs ls hV hw hr hl
  obtain ⟨n9, m9, ne9, n8, m8, hN, hN1, hev, hne, hne2⟩ := hV.cnt
  obtain ⟨he, hr⟩ := cX_e hr
  refine lv_aload_n X.1.1 X.1.2.1 dL_full_243 rfl (lv_at hl 1 rfl) ?_
  refine lv_bipush (v := (nI 112)) X.1.1 X.1.2.1 dL_full_244 (by decide +kernel) ?_
  refine lv_iconst (v := 1) X.1.1 X.1.2.1 dL_full_246 (by decide) ?_
  refine k_newv (n := 1) (N := 1) X.1 X.2.2.1 hw q_ai (by decide) (by decide) (by decide) (Nat.le_of_ble_eq_true rfl) (Nat.le_of_ble_eq_true rfl) dL_full_247 (fun b H hv => ?_)
  refine lv_dup X.1.1 X.1.2.1 dL_full_249 rfl ?_
  refine lv_iconst (v := 0) X.1.1 X.1.2.1 dL_full_250 (by decide) ?_
  refine lv_iconst (v := 1) X.1.1 X.1.2.1 dL_full_251 (by decide) ?_
  refine k_vst (v := 1) (n := 0) X.1 X.2.2.1 hv (vp_in_nI (n := 0) (by decide) (by decide)) (by decide) dL_full_252 (fun H locs hv => ?_)
  refine sX X (mA_pass l g X.2.2.2 S B y (upd (fun _ => 0) 0 1) 1 rfl _ _ hN hev) hv hl dL_full_253 ⟨Nat.le_of_ble_eq_true rfl, Nat.le_of_ble_eq_true rfl⟩ ⟨Nat.le_of_ble_eq_true rfl, Nat.le_of_ble_eq_true rfl⟩ he kX_3 (fun H locs hw => ?_)
  refine lv_ldc (v := (-2000000003)) X.1.1 X.1.2.1 X.1.2.2.1 (X.1.2.2.2 _ q903) dL_full_256 ?_
  refine lv_icmp_ne (tgt := 402) X.1.1 X.1.2.1 dL_full_258 (by decide) (fun h9 => absurd rfl h9) (fun _ => ?_)
  refine W.widen (k := 479) (n := 5533) (Nat.le_of_ble_eq_true rfl) (Nat.le_of_ble_eq_true rfl) ?_
  exact fin _ _ _ _ _ hV hw hr hl
set_option maxHeartbeats 4000000 in
set_option maxRecDepth 100000 in
theorem w_ful_56 {p : Program} {l : Launch} {e : Env} {s : State} {m : MethodId} {args : Array Value} {below : List Frame} {meth : Method} {c : Code} {g : wG} {Q : State → Prop} {y : (Nat → Nat → Int32) × (Nat → Int64) × (Nat → UInt64)} (X : LX p l s m args c cL_full 2 g)
    (fin : FN p l e rmD s m args below meth c g y Q 52 (ch_ful_57) 2 [(1, .int 24), (0, .ref (gA g 0))] 485 5564 279) : FN p l e rmD s m args below meth c g y Q 51 (ch_ful_56) 2 [(1, .int 24), (0, .ref (gA g 0))] 479 5533 261 := by
  intro S B H locs ls hV hw hr hl
  obtain ⟨n9, m9, ne9, n8, m8, hN, hN1, hev, hne, hne2⟩ := hV.cnt
  obtain ⟨he, hq, hz, hr⟩ := cC_e hr
  refine lv_aload_n X.1.1 X.1.2.1 dL_full_261 rfl (lv_at hl 1 rfl) ?_
  refine lv_bipush (v := (nI 101)) X.1.1 X.1.2.1 dL_full_262 (by decide +kernel) ?_
  refine lv_iconst (v := 1) X.1.1 X.1.2.1 dL_full_264 (by decide) ?_
  refine k_newv (n := 1) (N := 1) X.1 X.2.2.1 hw q_ai (by decide) (by decide) (by decide) (Nat.le_of_ble_eq_true rfl) (Nat.le_of_ble_eq_true rfl) dL_full_265 (fun b H hv => ?_)
  refine lv_dup X.1.1 X.1.2.1 dL_full_267 rfl ?_
  refine lv_iconst (v := 0) X.1.1 X.1.2.1 dL_full_268 (by decide) ?_
  refine lv_iconst (v := 0) X.1.1 X.1.2.1 dL_full_269 (by decide) ?_
  refine k_vst (v := 0) (n := 0) X.1 X.2.2.1 hv (vp_in_nI (n := 0) (by decide) (by decide)) (by decide) dL_full_270 (fun H locs hv => ?_)
  refine sN X (mA_examine l g X.2.2.2 S B y (upd (fun _ => 0) 0 0) 0 rfl _ _ hN hev) hv hl dL_full_271 ⟨Nat.le_of_ble_eq_true rfl, Nat.le_of_ble_eq_true rfl⟩ ⟨Nat.le_of_ble_eq_true rfl, Nat.le_of_ble_eq_true rfl⟩ he (fun H locs hw => ?_)
  have hV := hV.ev (by decide) (fa_examine he) hz
  have hw := hw.nrmW
  refine vn_ (v9 := 102) (vIs_e hq) ?_
  refine lv_bipush (v := 102) X.1.1 X.1.2.1 dL_full_274 (by decide +kernel) ?_
  refine lv_icmp_ne (tgt := 402) X.1.1 X.1.2.1 dL_full_276 (by decide) (fun h9 => absurd rfl h9) (fun _ => ?_)
  refine W.widen (k := 485) (n := 5564) (Nat.le_of_ble_eq_true rfl) (Nat.le_of_ble_eq_true rfl) ?_
  exact fin _ _ _ _ _ hV hw hr hl
set_option maxHeartbeats 4000000 in
set_option maxRecDepth 100000 in
theorem w_ful_57 {p : Program} {l : Launch} {e : Env} {s : State} {m : MethodId} {args : Array Value} {below : List Frame} {meth : Method} {c : Code} {g : wG} {Q : State → Prop} {y : (Nat → Nat → Int32) × (Nat → Int64) × (Nat → UInt64)} (X : LX p l s m args c cL_full 2 g)
    (fin : FN p l e rmD s m args below meth c g y Q 53 (ch_ful_58) 2 [(1, .int 24), (0, .ref (gA g 0))] 491 5595 295) : FN p l e rmD s m args below meth c g y Q 52 (ch_ful_57) 2 [(1, .int 24), (0, .ref (gA g 0))] 485 5564 279 := by
  intro S B H locs ls hV hw hr hl
  obtain ⟨n9, m9, ne9, n8, m8, hN, hN1, hev, hne, hne2⟩ := hV.cnt
  obtain ⟨he, hq, hz, hr⟩ := cC_e hr
  refine lv_aload_n X.1.1 X.1.2.1 dL_full_279 rfl (lv_at hl 1 rfl) ?_
  refine lv_bipush (v := (nI 120)) X.1.1 X.1.2.1 dL_full_280 (by decide +kernel) ?_
  refine lv_iconst (v := 1) X.1.1 X.1.2.1 dL_full_282 (by decide) ?_
  refine k_newv (n := 1) (N := 1) X.1 X.2.2.1 hw q_ai (by decide) (by decide) (by decide) (Nat.le_of_ble_eq_true rfl) (Nat.le_of_ble_eq_true rfl) dL_full_283 (fun b H hv => ?_)
  refine lv_dup X.1.1 X.1.2.1 dL_full_285 rfl ?_
  refine lv_iconst (v := 0) X.1.1 X.1.2.1 dL_full_286 (by decide) ?_
  refine lv_iconst (v := 0) X.1.1 X.1.2.1 dL_full_287 (by decide) ?_
  refine k_vst (v := 0) (n := 0) X.1 X.2.2.1 hv (vp_in_nI (n := 0) (by decide) (by decide)) (by decide) dL_full_288 (fun H locs hv => ?_)
  refine sN X (mA_excuse l g X.2.2.2 S B y (upd (fun _ => 0) 0 0) 0 rfl _ _ hN hev) hv hl dL_full_289 ⟨Nat.le_of_ble_eq_true rfl, Nat.le_of_ble_eq_true rfl⟩ ⟨Nat.le_of_ble_eq_true rfl, Nat.le_of_ble_eq_true rfl⟩ he (fun H locs hw => ?_)
  have hV := hV.ev (by decide) (fa_excuse he) hz
  have hw := hw.nrmW
  refine vn_ (v9 := 0) (vIs_e hq) ?_
  refine lv_if_ne (tgt := 402) X.1.1 X.1.2.1 dL_full_292 (by decide) (fun h9 => absurd rfl h9) (fun _ => ?_)
  refine W.widen (k := 491) (n := 5595) (Nat.le_of_ble_eq_true rfl) (Nat.le_of_ble_eq_true rfl) ?_
  exact fin _ _ _ _ _ hV hw hr hl
set_option maxHeartbeats 4000000 in
set_option maxRecDepth 100000 in
theorem w_ful_58 {p : Program} {l : Launch} {e : Env} {s : State} {m : MethodId} {args : Array Value} {below : List Frame} {meth : Method} {c : Code} {g : wG} {Q : State → Prop} {y : (Nat → Nat → Int32) × (Nat → Int64) × (Nat → UInt64)} (X : LX p l s m args c cL_full 2 g)
    (fin : FN p l e rmD s m args below meth c g y Q 54 (ch_ful_59) 2 [(1, .int 24), (0, .ref (gA g 0))] 497 5626 312) : FN p l e rmD s m args below meth c g y Q 53 (ch_ful_58) 2 [(1, .int 24), (0, .ref (gA g 0))] 491 5595 295 := by
  intro S B H locs ls hV hw hr hl
  obtain ⟨n9, m9, ne9, n8, m8, hN, hN1, hev, hne, hne2⟩ := hV.cnt
  obtain ⟨he, hq, hz, hr⟩ := cC_e hr
  refine lv_aload_n X.1.1 X.1.2.1 dL_full_295 rfl (lv_at hl 1 rfl) ?_
  refine lv_bipush (v := (nI 120)) X.1.1 X.1.2.1 dL_full_296 (by decide +kernel) ?_
  refine lv_iconst (v := 1) X.1.1 X.1.2.1 dL_full_298 (by decide) ?_
  refine k_newv (n := 1) (N := 1) X.1 X.2.2.1 hw q_ai (by decide) (by decide) (by decide) (Nat.le_of_ble_eq_true rfl) (Nat.le_of_ble_eq_true rfl) dL_full_299 (fun b H hv => ?_)
  refine lv_dup X.1.1 X.1.2.1 dL_full_301 rfl ?_
  refine lv_iconst (v := 0) X.1.1 X.1.2.1 dL_full_302 (by decide) ?_
  refine lv_iconst (v := 0) X.1.1 X.1.2.1 dL_full_303 (by decide) ?_
  refine k_vst (v := 0) (n := 0) X.1 X.2.2.1 hv (vp_in_nI (n := 0) (by decide) (by decide)) (by decide) dL_full_304 (fun H locs hv => ?_)
  refine sN X (mA_excuse l g X.2.2.2 S B y (upd (fun _ => 0) 0 0) 0 rfl _ _ hN hev) hv hl dL_full_305 ⟨Nat.le_of_ble_eq_true rfl, Nat.le_of_ble_eq_true rfl⟩ ⟨Nat.le_of_ble_eq_true rfl, Nat.le_of_ble_eq_true rfl⟩ he (fun H locs hw => ?_)
  have hV := hV.ev (by decide) (fa_excuse he) hz
  have hw := hw.nrmW
  refine vn_ (v9 := 1) (vIs_e hq) ?_
  refine lv_iconst (v := 1) X.1.1 X.1.2.1 dL_full_308 (by decide) ?_
  refine lv_icmp_ne (tgt := 402) X.1.1 X.1.2.1 dL_full_309 (by decide) (fun h9 => absurd rfl h9) (fun _ => ?_)
  refine W.widen (k := 497) (n := 5626) (Nat.le_of_ble_eq_true rfl) (Nat.le_of_ble_eq_true rfl) ?_
  exact fin _ _ _ _ _ hV hw hr hl
set_option maxHeartbeats 4000000 in
set_option maxRecDepth 100000 in
theorem w_ful_59 {p : Program} {l : Launch} {e : Env} {s : State} {m : MethodId} {args : Array Value} {below : List Frame} {meth : Method} {c : Code} {g : wG} {Q : State → Prop} {y : (Nat → Nat → Int32) × (Nat → Int64) × (Nat → UInt64)} (X : LX p l s m args c cL_full 2 g)
    (fin : FN p l e rmD s m args below meth c g y Q 55 (ch_ful_60) 2 [(1, .int 24), (0, .ref (gA g 0))] 503 5658 332) : FN p l e rmD s m args below meth c g y Q 54 (ch_ful_59) 2 [(1, .int 24), (0, .ref (gA g 0))] 497 5626 312 := by
  intro S B H locs ls hV hw hr hl
  obtain ⟨n9, m9, ne9, n8, m8, hN, hN1, hev, hne, hne2⟩ := hV.cnt
  obtain ⟨he, hq, hz, hr⟩ := cC_e hr
  refine lv_aload_n X.1.1 X.1.2.1 dL_full_312 rfl (lv_at hl 1 rfl) ?_
  refine lv_bipush (v := (nI 67)) X.1.1 X.1.2.1 dL_full_313 (by decide +kernel) ?_
  refine lv_iconst (v := 2) X.1.1 X.1.2.1 dL_full_315 (by decide) ?_
  refine k_newv (n := 2) (N := 2) X.1 X.2.2.1 hw q_ai (by decide) (by decide) (by decide) (Nat.le_of_ble_eq_true rfl) (Nat.le_of_ble_eq_true rfl) dL_full_316 (fun b H hv => ?_)
  refine lv_dup X.1.1 X.1.2.1 dL_full_318 rfl ?_
  refine lv_iconst (v := 0) X.1.1 X.1.2.1 dL_full_319 (by decide) ?_
  refine lv_iconst (v := 0) X.1.1 X.1.2.1 dL_full_320 (by decide) ?_
  refine k_vst (v := 0) (n := 0) X.1 X.2.2.1 hv (vp_in_nI (n := 0) (by decide) (by decide)) (by decide) dL_full_321 (fun H locs hv => ?_)
  refine lv_dup X.1.1 X.1.2.1 dL_full_322 rfl ?_
  refine lv_iconst (v := 1) X.1.1 X.1.2.1 dL_full_323 (by decide) ?_
  refine lv_iconst (v := 1) X.1.1 X.1.2.1 dL_full_324 (by decide) ?_
  refine k_vst (v := 1) (n := 1) X.1 X.2.2.1 hv (vp_in_nI (n := 1) (by decide) (by decide)) (by decide) dL_full_325 (fun H locs hv => ?_)
  refine sN X (mA_setCourt l g X.2.2.2 S B y (upd (upd (fun _ => 0) 0 0) 1 1) 0 1 rfl rfl _ _ hN hev (Or.inr rfl)) hv hl dL_full_326 ⟨Nat.le_of_ble_eq_true rfl, Nat.le_of_ble_eq_true rfl⟩ ⟨Nat.le_of_ble_eq_true rfl, Nat.le_of_ble_eq_true rfl⟩ he (fun H locs hw => ?_)
  have hV := hV.ev (by decide) (fa_setCourt he) hz
  have hw := hw.nrmW
  refine vn_ (v9 := 0) (vIs_e hq) ?_
  refine lv_if_ne (tgt := 402) X.1.1 X.1.2.1 dL_full_329 (by decide) (fun h9 => absurd rfl h9) (fun _ => ?_)
  refine W.widen (k := 503) (n := 5658) (Nat.le_of_ble_eq_true rfl) (Nat.le_of_ble_eq_true rfl) ?_
  exact fin _ _ _ _ _ hV hw hr hl
set_option maxHeartbeats 4000000 in
set_option maxRecDepth 100000 in
theorem w_ful_60 {p : Program} {l : Launch} {e : Env} {s : State} {m : MethodId} {args : Array Value} {below : List Frame} {meth : Method} {c : Code} {g : wG} {Q : State → Prop} {y : (Nat → Nat → Int32) × (Nat → Int64) × (Nat → UInt64)} (X : LX p l s m args c cL_full 2 g)
    (fin : FN p l e rmD s m args below meth c g y Q 56 (ch_ful_61) 2 [(1, .int 24), (0, .ref (gA g 0))] 509 5689 350) : FN p l e rmD s m args below meth c g y Q 55 (ch_ful_60) 2 [(1, .int 24), (0, .ref (gA g 0))] 503 5658 332 := by
  intro S B H locs ls hV hw hr hl
  obtain ⟨n9, m9, ne9, n8, m8, hN, hN1, hev, hne, hne2⟩ := hV.cnt
  obtain ⟨he, hq, hz, hr⟩ := cC_e hr
  refine lv_aload_n X.1.1 X.1.2.1 dL_full_332 rfl (lv_at hl 1 rfl) ?_
  refine lv_bipush (v := (nI 101)) X.1.1 X.1.2.1 dL_full_333 (by decide +kernel) ?_
  refine lv_iconst (v := 1) X.1.1 X.1.2.1 dL_full_335 (by decide) ?_
  refine k_newv (n := 1) (N := 1) X.1 X.2.2.1 hw q_ai (by decide) (by decide) (by decide) (Nat.le_of_ble_eq_true rfl) (Nat.le_of_ble_eq_true rfl) dL_full_336 (fun b H hv => ?_)
  refine lv_dup X.1.1 X.1.2.1 dL_full_338 rfl ?_
  refine lv_iconst (v := 0) X.1.1 X.1.2.1 dL_full_339 (by decide) ?_
  refine lv_iconst (v := 0) X.1.1 X.1.2.1 dL_full_340 (by decide) ?_
  refine k_vst (v := 0) (n := 0) X.1 X.2.2.1 hv (vp_in_nI (n := 0) (by decide) (by decide)) (by decide) dL_full_341 (fun H locs hv => ?_)
  refine sN X (mA_examine l g X.2.2.2 S B y (upd (fun _ => 0) 0 0) 0 rfl _ _ hN hev) hv hl dL_full_342 ⟨Nat.le_of_ble_eq_true rfl, Nat.le_of_ble_eq_true rfl⟩ ⟨Nat.le_of_ble_eq_true rfl, Nat.le_of_ble_eq_true rfl⟩ he (fun H locs hw => ?_)
  have hV := hV.ev (by decide) (fa_examine he) hz
  have hw := hw.nrmW
  refine vn_ (v9 := 111) (vIs_e hq) ?_
  refine lv_bipush (v := 111) X.1.1 X.1.2.1 dL_full_345 (by decide +kernel) ?_
  refine lv_icmp_ne (tgt := 402) X.1.1 X.1.2.1 dL_full_347 (by decide) (fun h9 => absurd rfl h9) (fun _ => ?_)
  refine W.widen (k := 509) (n := 5689) (Nat.le_of_ble_eq_true rfl) (Nat.le_of_ble_eq_true rfl) ?_
  exact fin _ _ _ _ _ hV hw hr hl
set_option maxHeartbeats 4000000 in
set_option maxRecDepth 100000 in
theorem w_ful_61 {p : Program} {l : Launch} {e : Env} {s : State} {m : MethodId} {args : Array Value} {below : List Frame} {meth : Method} {c : Code} {g : wG} {Q : State → Prop} {y : (Nat → Nat → Int32) × (Nat → Int64) × (Nat → UInt64)} (X : LX p l s m args c cL_full 2 g)
    (fin : FN p l e rmD s m args below meth c g y Q 56 (ch_ful_62) 2 [(1, .int 24), (0, .ref (gA g 0))] 515 5721 372) : FN p l e rmD s m args below meth c g y Q 56 (ch_ful_61) 2 [(1, .int 24), (0, .ref (gA g 0))] 509 5689 350 := by
  intro S B H locs ls hV hw hr hl
  obtain ⟨n9, m9, ne9, n8, m8, hN, hN1, hev, hne, hne2⟩ := hV.cnt
  obtain ⟨he, hr⟩ := cX_e hr
  refine lv_aload_n X.1.1 X.1.2.1 dL_full_350 rfl (lv_at hl 1 rfl) ?_
  refine lv_bipush (v := (nI 67)) X.1.1 X.1.2.1 dL_full_351 (by decide +kernel) ?_
  refine lv_iconst (v := 2) X.1.1 X.1.2.1 dL_full_353 (by decide) ?_
  refine k_newv (n := 2) (N := 2) X.1 X.2.2.1 hw q_ai (by decide) (by decide) (by decide) (Nat.le_of_ble_eq_true rfl) (Nat.le_of_ble_eq_true rfl) dL_full_354 (fun b H hv => ?_)
  refine lv_dup X.1.1 X.1.2.1 dL_full_356 rfl ?_
  refine lv_iconst (v := 0) X.1.1 X.1.2.1 dL_full_357 (by decide) ?_
  refine lv_iconst (v := 0) X.1.1 X.1.2.1 dL_full_358 (by decide) ?_
  refine k_vst (v := 0) (n := 0) X.1 X.2.2.1 hv (vp_in_nI (n := 0) (by decide) (by decide)) (by decide) dL_full_359 (fun H locs hv => ?_)
  refine lv_dup X.1.1 X.1.2.1 dL_full_360 rfl ?_
  refine lv_iconst (v := 1) X.1.1 X.1.2.1 dL_full_361 (by decide) ?_
  refine lv_iconst (v := 0) X.1.1 X.1.2.1 dL_full_362 (by decide) ?_
  refine k_vst (v := 0) (n := 1) X.1 X.2.2.1 hv (vp_in_nI (n := 1) (by decide) (by decide)) (by decide) dL_full_363 (fun H locs hv => ?_)
  refine sX X (mA_setCourt l g X.2.2.2 S B y (upd (upd (fun _ => 0) 0 0) 1 0) 0 0 rfl rfl _ _ hN hev (Or.inl rfl)) hv hl dL_full_364 ⟨Nat.le_of_ble_eq_true rfl, Nat.le_of_ble_eq_true rfl⟩ ⟨Nat.le_of_ble_eq_true rfl, Nat.le_of_ble_eq_true rfl⟩ he kX_4 (fun H locs hw => ?_)
  refine lv_ldc (v := (-2000000004)) X.1.1 X.1.2.1 X.1.2.2.1 (X.1.2.2.2 _ q904) dL_full_367 ?_
  refine lv_icmp_ne (tgt := 402) X.1.1 X.1.2.1 dL_full_369 (by decide) (fun h9 => absurd rfl h9) (fun _ => ?_)
  refine W.widen (k := 515) (n := 5721) (Nat.le_of_ble_eq_true rfl) (Nat.le_of_ble_eq_true rfl) ?_
  exact fin _ _ _ _ _ hV hw hr hl
set_option maxHeartbeats 4000000 in
set_option maxRecDepth 100000 in
theorem w_ful_62 {p : Program} {l : Launch} {e : Env} {s : State} {m : MethodId} {args : Array Value} {below : List Frame} {meth : Method} {c : Code} {g : wG} {Q : State → Prop} {y : (Nat → Nat → Int32) × (Nat → Int64) × (Nat → UInt64)} (X : LX p l s m args c cL_full 2 g)
    (fin : FN p l e rmD s m args below meth c g y Q 56 (ch_ful_63) 2 [(1, .int 24), (0, .ref (gA g 0))] 521 5752 391) : FN p l e rmD s m args below meth c g y Q 56 (ch_ful_62) 2 [(1, .int 24), (0, .ref (gA g 0))] 515 5721 372 := by
  intro S B H locs ls hV hw hr hl
  obtain ⟨n9, m9, ne9, n8, m8, hN, hN1, hev, hne, hne2⟩ := hV.cnt
  obtain ⟨he, hq, hr⟩ := cQ_e hr
  refine lv_aload_n X.1.1 X.1.2.1 dL_full_372 rfl (lv_at hl 1 rfl) ?_
  refine lv_bipush (v := (nI 100)) X.1.1 X.1.2.1 dL_full_373 (by decide +kernel) ?_
  refine lv_iconst (v := 1) X.1.1 X.1.2.1 dL_full_375 (by decide) ?_
  refine k_newv (n := 1) (N := 1) X.1 X.2.2.1 hw q_ai (by decide) (by decide) (by decide) (Nat.le_of_ble_eq_true rfl) (Nat.le_of_ble_eq_true rfl) dL_full_376 (fun b H hv => ?_)
  refine lv_dup X.1.1 X.1.2.1 dL_full_378 rfl ?_
  refine lv_iconst (v := 0) X.1.1 X.1.2.1 dL_full_379 (by decide) ?_
  refine lv_iconst (v := 0) X.1.1 X.1.2.1 dL_full_380 (by decide) ?_
  refine k_vst (v := 0) (n := 0) X.1 X.2.2.1 hv (vp_in_nI (n := 0) (by decide) (by decide)) (by decide) dL_full_381 (fun H locs hv => ?_)
  refine sN X (mA_days l g X.2.2.2 S B y (upd (fun _ => 0) 0 0) 0 rfl _ _ hN) hv hl dL_full_382 ⟨Nat.le_of_ble_eq_true rfl, Nat.le_of_ble_eq_true rfl⟩ ⟨Nat.le_of_ble_eq_true rfl, Nat.le_of_ble_eq_true rfl⟩ he (fun H locs hw => ?_)
  refine vn_ (v9 := 9999) (vIs_e hq) ?_
  refine lv_sipush (v := 9999) X.1.1 X.1.2.1 dL_full_385 (by decide +kernel) ?_
  refine lv_icmp_ne (tgt := 402) X.1.1 X.1.2.1 dL_full_388 (by decide) (fun h9 => absurd rfl h9) (fun _ => ?_)
  refine W.widen (k := 521) (n := 5752) (Nat.le_of_ble_eq_true rfl) (Nat.le_of_ble_eq_true rfl) ?_
  exact fin _ _ _ _ _ hV hw hr hl
set_option maxHeartbeats 4000000 in
set_option maxRecDepth 100000 in
theorem w_ful_63 {p : Program} {l : Launch} {e : Env} {s : State} {m : MethodId} {args : Array Value} {below : List Frame} {meth : Method} {c : Code} {g : wG} {Q : State → Prop} {y : (Nat → Nat → Int32) × (Nat → Int64) × (Nat → UInt64)} (X : LX p l s m args c cL_full 2 g)
    (fin : FN p l e rmD s m args below meth c g y Q 56 (ch_ful_64) 2 [(1, .int 24), (0, .ref (gA g 0))] 521 5752 398) : FN p l e rmD s m args below meth c g y Q 56 (ch_ful_63) 2 [(1, .int 24), (0, .ref (gA g 0))] 521 5752 391 := by
  intro S B H locs ls hV hw hr hl
  obtain ⟨n9, m9, ne9, n8, m8, hN, hN1, hev, hne, hne2⟩ := hV.cnt
  obtain ⟨-, hq, hr⟩ := cQ_e hr
  refine lv_aload_n X.1.1 X.1.2.1 dL_full_391 rfl (lv_at hl 1 rfl) ?_
  refine sZ X hV (vIs_e hq) hw hl dL_full_392 ⟨Nat.le_of_ble_eq_true rfl, Nat.le_of_ble_eq_true rfl⟩ ⟨Nat.le_of_ble_eq_true rfl, Nat.le_of_ble_eq_true rfl⟩ (fun S H locs hV hw => ?_)
  refine lv_if_eq (tgt := 402) X.1.1 X.1.2.1 dL_full_395 (by decide) (fun h9 => absurd h9 (by decide)) (fun _ => ?_)
  refine W.widen (k := 521) (n := 5752) (Nat.le_of_ble_eq_true rfl) (Nat.le_of_ble_eq_true rfl) ?_
  exact fin _ _ _ _ _ hV hw hr hl
set_option maxHeartbeats 4000000 in
set_option maxRecDepth 100000 in
theorem w_ful {p : Program} {l : Launch} {e : Env} {s : State} {m : MethodId} {args : Array Value} {below : List Frame} {meth : Method} {c : Code} {g : wG} {Q : State → Prop} {y : (Nat → Nat → Int32) × (Nat → Int64) × (Nat → UInt64)} (X : LX p l s m args c cL_full 2 g)
    (fin : FN p l e rmD s m args below meth c g y Q 56 (ch_ful_64) 2 [(1, .int 24), (0, .ref (gA g 0))] 521 5752 398) : FN p l e rmD s m args below meth c g y Q 0 (ch_ful_0) 2 [(0, .ref (gA g 0))] 143 3727 8 :=
  w_ful_0 X (w_ful_1 X (w_ful_2 X (w_ful_3 X (w_ful_4 X (w_ful_5 X (w_ful_6 X (w_ful_7 X (w_ful_8 X (w_ful_9 X (w_ful_10 X (w_ful_11 X (w_ful_12 X (w_ful_13 X (w_ful_14 X (w_ful_15 X (w_ful_16 X (w_ful_17 X (w_ful_18 X (w_ful_19 X (w_ful_20 X (w_ful_21 X (w_ful_22 X (w_ful_23 X (w_ful_24 X (w_ful_25 X (w_ful_26 X (w_ful_27 X (w_ful_28 X (w_ful_29 X (w_ful_30 X (w_ful_31 X (w_ful_32 X (w_ful_33 X (w_ful_34 X (w_ful_35 X (w_ful_36 X (w_ful_37 X (w_ful_38 X (w_ful_39 X (w_ful_40 X (w_ful_41 X (w_ful_42 X (w_ful_43 X (w_ful_44 X (w_ful_45 X (w_ful_46 X (w_ful_47 X (w_ful_48 X (w_ful_49 X (w_ful_50 X (w_ful_51 X (w_ful_52 X (w_ful_53 X (w_ful_54 X (w_ful_55 X (w_ful_56 X (w_ful_57 X (w_ful_58 X (w_ful_59 X (w_ful_60 X (w_ful_61 X (w_ful_62 X (w_ful_63 X (fin))))))))))))))))))))))))))))))))))))))))))))))))))))))))))))))))
