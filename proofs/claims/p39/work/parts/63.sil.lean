/-! the law, call by call: sil -/
set_option maxHeartbeats 4000000 in
set_option maxRecDepth 100000 in
theorem w_sil_0 {p : Program} {l : Launch} {e : Env} {s : State} {m : MethodId} {args : Array Value} {below : List Frame} {meth : Method} {c : Code} {g : wG} {Q : State → Prop} {y : (Nat → Nat → Int32) × (Nat → Int64) × (Nat → UInt64)} (X : LX p l s m args c cL_silence 2 g)
    (fin : FN p l e rmD s m args below meth c g y Q 1 (ch_sil_1) 2 [(0, .ref (gA g 0))] 149 3759 30) : FN p l e rmD s m args below meth c g y Q 0 (ch_sil_0) 2 [(0, .ref (gA g 0))] 143 3727 8 := by
  intro S B H locs ls hV hw hr hl
  obtain ⟨n9, m9, ne9, n8, m8, hN, hN1, hev, hne, hne2⟩ := hV.cnt
  obtain ⟨he, hq, hz, hr⟩ := cC_e hr
  refine lv_aload_n X.1.1 X.1.2.1 dL_silence_8 rfl (lv_at hl 0 rfl) ?_
  refine lv_bipush (v := (nI 79)) X.1.1 X.1.2.1 dL_silence_9 (by decide +kernel) ?_
  refine lv_iconst (v := 2) X.1.1 X.1.2.1 dL_silence_11 (by decide) ?_
  refine k_newv (n := 2) (N := 2) X.1 X.2.2.1 hw q_ai (by decide) (by decide) (by decide) (Nat.le_of_ble_eq_true rfl) (Nat.le_of_ble_eq_true rfl) dL_silence_12 (fun b H hv => ?_)
  refine lv_dup X.1.1 X.1.2.1 dL_silence_14 rfl ?_
  refine lv_iconst (v := 0) X.1.1 X.1.2.1 dL_silence_15 (by decide) ?_
  refine lv_iconst (v := 1) X.1.1 X.1.2.1 dL_silence_16 (by decide) ?_
  refine k_vst (v := 1) (n := 0) X.1 X.2.2.1 hv (vp_in_nI (n := 0) (by decide) (by decide)) (by decide) dL_silence_17 (fun H locs hv => ?_)
  refine lv_dup X.1.1 X.1.2.1 dL_silence_18 rfl ?_
  refine lv_iconst (v := 1) X.1.1 X.1.2.1 dL_silence_19 (by decide) ?_
  refine lv_iconst (v := 3) X.1.1 X.1.2.1 dL_silence_20 (by decide) ?_
  refine k_vst (v := 3) (n := 1) X.1 X.2.2.1 hv (vp_in_nI (n := 1) (by decide) (by decide)) (by decide) dL_silence_21 (fun H locs hv => ?_)
  refine sN X (mA_addOffice l g X.2.2.2 S B y (upd (upd (fun _ => 0) 0 1) 1 3) 1 3 rfl rfl _ _ hN hev) hv hl dL_silence_22 ⟨Nat.le_of_ble_eq_true rfl, Nat.le_of_ble_eq_true rfl⟩ ⟨Nat.le_of_ble_eq_true rfl, Nat.le_of_ble_eq_true rfl⟩ he (fun H locs hw => ?_)
  have hV := hV.ev (by decide) (fa_addOffice he) hz
  have hw := hw.nrmW
  refine vn_ (v9 := 0) (vIs_e hq) ?_
  refine lv_if_eq (tgt := 30) X.1.1 X.1.2.1 dL_silence_25 (by decide) (fun _ => ?_) (fun h9 => absurd rfl h9)
  refine W.widen (k := 149) (n := 3759) (Nat.le_of_ble_eq_true rfl) (Nat.le_of_ble_eq_true rfl) ?_
  exact fin _ _ _ _ _ hV hw hr hl
set_option maxHeartbeats 4000000 in
set_option maxRecDepth 100000 in
theorem w_sil_1 {p : Program} {l : Launch} {e : Env} {s : State} {m : MethodId} {args : Array Value} {below : List Frame} {meth : Method} {c : Code} {g : wG} {Q : State → Prop} {y : (Nat → Nat → Int32) × (Nat → Int64) × (Nat → UInt64)} (X : LX p l s m args c cL_silence 2 g)
    (fin : FN p l e rmD s m args below meth c g y Q 2 (ch_sil_2) 2 [(1, .int 0), (0, .ref (gA g 0))] 155 3793 75) : FN p l e rmD s m args below meth c g y Q 1 (ch_sil_1) 2 [(0, .ref (gA g 0))] 149 3759 30 := by
  intro S B H locs ls hV hw hr hl
  obtain ⟨n9, m9, ne9, n8, m8, hN, hN1, hev, hne, hne2⟩ := hV.cnt
  obtain ⟨he, hq, hz, hr⟩ := cC_e hr
  refine lv_iconst (v := 0) X.1.1 X.1.2.1 dL_silence_30 (by decide) ?_
  refine lv_istore_n (lv' := [(1, .int 0), (0, .ref (gA g 0))]) X.1.1 X.1.2.1 dL_silence_31 rfl hl (by decide) rfl (fun ls hl => ?_)
  refine lv_iload_n X.1.1 X.1.2.1 dL_silence_32 rfl (lv_at hl 0 rfl) ?_
  refine lv_iconst (v := 4) X.1.1 X.1.2.1 dL_silence_33 (by decide) ?_
  refine lv_icmp_ge (tgt := 100) X.1.1 X.1.2.1 dL_silence_34 (by decide) (fun h9 => absurd h9 (by decide)) (fun _ => ?_)
  refine lv_aload_n X.1.1 X.1.2.1 dL_silence_37 rfl (lv_at hl 1 rfl) ?_
  refine lv_bipush (v := (nI 99)) X.1.1 X.1.2.1 dL_silence_38 (by decide +kernel) ?_
  refine lv_iconst (v := 4) X.1.1 X.1.2.1 dL_silence_40 (by decide) ?_
  refine k_newv (n := 4) (N := 4) X.1 X.2.2.1 hw q_ai (by decide) (by decide) (by decide) (Nat.le_of_ble_eq_true rfl) (Nat.le_of_ble_eq_true rfl) dL_silence_41 (fun b H hv => ?_)
  refine lv_dup X.1.1 X.1.2.1 dL_silence_43 rfl ?_
  refine lv_iconst (v := 0) X.1.1 X.1.2.1 dL_silence_44 (by decide) ?_
  refine lv_iconst (v := 0) X.1.1 X.1.2.1 dL_silence_45 (by decide) ?_
  refine k_vst (v := 0) (n := 0) X.1 X.2.2.1 hv (vp_in_nI (n := 0) (by decide) (by decide)) (by decide) dL_silence_46 (fun H locs hv => ?_)
  refine lv_dup X.1.1 X.1.2.1 dL_silence_47 rfl ?_
  refine lv_iconst (v := 1) X.1.1 X.1.2.1 dL_silence_48 (by decide) ?_
  refine lv_iload_n X.1.1 X.1.2.1 dL_silence_49 rfl (lv_at hl 0 rfl) ?_
  refine lv_iconst (v := 3) X.1.1 X.1.2.1 dL_silence_50 (by decide) ?_
  refine lv_icmp_ne (tgt := 58) X.1.1 X.1.2.1 dL_silence_51 (by decide) (fun _ => ?_) (fun h9 => absurd h9 (by decide))
  refine lv_iconst (v := 0) X.1.1 X.1.2.1 dL_silence_58 (by decide) ?_
  refine k_vst (v := 0) (n := 1) X.1 X.2.2.1 hv (vp_in_nI (n := 1) (by decide) (by decide)) (by decide) dL_silence_59 (fun H locs hv => ?_)
  refine lv_dup X.1.1 X.1.2.1 dL_silence_60 rfl ?_
  refine lv_iconst (v := 2) X.1.1 X.1.2.1 dL_silence_61 (by decide) ?_
  refine lv_iload_n X.1.1 X.1.2.1 dL_silence_62 rfl (lv_at hl 0 rfl) ?_
  refine k_vst (v := 0) (n := 2) X.1 X.2.2.1 hv (vp_in_nI (n := 2) (by decide) (by decide)) (by decide) dL_silence_63 (fun H locs hv => ?_)
  refine lv_dup X.1.1 X.1.2.1 dL_silence_64 rfl ?_
  refine lv_iconst (v := 3) X.1.1 X.1.2.1 dL_silence_65 (by decide) ?_
  refine lv_iconst (v := 0) X.1.1 X.1.2.1 dL_silence_66 (by decide) ?_
  refine k_vst (v := 0) (n := 3) X.1 X.2.2.1 hv (vp_in_nI (n := 3) (by decide) (by decide)) (by decide) dL_silence_67 (fun H locs hv => ?_)
  refine sN X (mA_complain l g X.2.2.2 S B y (upd (upd (upd (upd (fun _ => 0) 0 0) 1 0) 2 0) 3 0) 0 0 0 0 rfl rfl rfl rfl _ _ hN hev) hv hl dL_silence_68 ⟨Nat.le_of_ble_eq_true rfl, Nat.le_of_ble_eq_true rfl⟩ ⟨Nat.le_of_ble_eq_true rfl, Nat.le_of_ble_eq_true rfl⟩ he (fun H locs hw => ?_)
  have hV := hV.ev (by decide) (fa_complain he) hz
  have hw := hw.nrmW
  refine vn_ (v9 := 0) (vIs_e hq) ?_
  refine lv_iload_n X.1.1 X.1.2.1 dL_silence_71 rfl (lv_at hl 0 rfl) ?_
  refine lv_icmp_ne (tgt := 92) X.1.1 X.1.2.1 dL_silence_72 (by decide) (fun h9 => absurd rfl h9) (fun _ => ?_)
  refine W.widen (k := 155) (n := 3793) (Nat.le_of_ble_eq_true rfl) (Nat.le_of_ble_eq_true rfl) ?_
  exact fin _ _ _ _ _ hV hw hr hl
set_option maxHeartbeats 4000000 in
set_option maxRecDepth 100000 in
theorem w_sil_2 {p : Program} {l : Launch} {e : Env} {s : State} {m : MethodId} {args : Array Value} {below : List Frame} {meth : Method} {c : Code} {g : wG} {Q : State → Prop} {y : (Nat → Nat → Int32) × (Nat → Int64) × (Nat → UInt64)} (X : LX p l s m args c cL_silence 2 g)
    (fin : FN p l e rmD s m args below meth c g y Q 3 (ch_sil_3) 2 [(1, .int 0), (0, .ref (gA g 0))] 161 3824 94) : FN p l e rmD s m args below meth c g y Q 2 (ch_sil_2) 2 [(1, .int 0), (0, .ref (gA g 0))] 155 3793 75 := by
  intro S B H locs ls hV hw hr hl
  obtain ⟨n9, m9, ne9, n8, m8, hN, hN1, hev, hne, hne2⟩ := hV.cnt
  obtain ⟨he, hq, hz, hr⟩ := cC_e hr
  refine lv_aload_n X.1.1 X.1.2.1 dL_silence_75 rfl (lv_at hl 1 rfl) ?_
  refine lv_bipush (v := (nI 116)) X.1.1 X.1.2.1 dL_silence_76 (by decide +kernel) ?_
  refine lv_iconst (v := 1) X.1.1 X.1.2.1 dL_silence_78 (by decide) ?_
  refine k_newv (n := 1) (N := 1) X.1 X.2.2.1 hw q_ai (by decide) (by decide) (by decide) (Nat.le_of_ble_eq_true rfl) (Nat.le_of_ble_eq_true rfl) dL_silence_79 (fun b H hv => ?_)
  refine lv_dup X.1.1 X.1.2.1 dL_silence_81 rfl ?_
  refine lv_iconst (v := 0) X.1.1 X.1.2.1 dL_silence_82 (by decide) ?_
  refine lv_iload_n X.1.1 X.1.2.1 dL_silence_83 rfl (lv_at hl 0 rfl) ?_
  refine k_vst (v := 0) (n := 0) X.1 X.2.2.1 hv (vp_in_nI (n := 0) (by decide) (by decide)) (by decide) dL_silence_84 (fun H locs hv => ?_)
  refine sN X (mA_takeStep l g X.2.2.2 S B y (upd (fun _ => 0) 0 0) 0 rfl _ _ hN hev) hv hl dL_silence_85 ⟨Nat.le_of_ble_eq_true rfl, Nat.le_of_ble_eq_true rfl⟩ ⟨Nat.le_of_ble_eq_true rfl, Nat.le_of_ble_eq_true rfl⟩ he (fun H locs hw => ?_)
  have hV := hV.ev (by decide) (fa_takeStep he) hz
  have hw := hw.nrmW
  refine vn_ (v9 := 1) (vIs_e hq) ?_
  refine lv_iconst (v := 1) X.1.1 X.1.2.1 dL_silence_88 (by decide) ?_
  refine lv_icmp_eq (tgt := 94) X.1.1 X.1.2.1 dL_silence_89 (by decide) (fun _ => ?_) (fun h9 => absurd rfl h9)
  refine W.widen (k := 161) (n := 3824) (Nat.le_of_ble_eq_true rfl) (Nat.le_of_ble_eq_true rfl) ?_
  exact fin _ _ _ _ _ hV hw hr hl
set_option maxHeartbeats 4000000 in
set_option maxRecDepth 100000 in
theorem w_sil_3 {p : Program} {l : Launch} {e : Env} {s : State} {m : MethodId} {args : Array Value} {below : List Frame} {meth : Method} {c : Code} {g : wG} {Q : State → Prop} {y : (Nat → Nat → Int32) × (Nat → Int64) × (Nat → UInt64)} (X : LX p l s m args c cL_silence 2 g)
    (fin : FN p l e rmD s m args below meth c g y Q 4 (ch_sil_4) 2 [(1, .int 1), (0, .ref (gA g 0))] 167 3858 75) : FN p l e rmD s m args below meth c g y Q 3 (ch_sil_3) 2 [(1, .int 0), (0, .ref (gA g 0))] 161 3824 94 := by
  intro S B H locs ls hV hw hr hl
  obtain ⟨n9, m9, ne9, n8, m8, hN, hN1, hev, hne, hne2⟩ := hV.cnt
  obtain ⟨he, hq, hz, hr⟩ := cC_e hr
  refine lv_iinc (v := 1) (lv' := [(1, .int 1), (0, .ref (gA g 0))]) X.1.1 X.1.2.1 dL_silence_94 hl (k := 0) rfl (by decide) (by decide) rfl (fun ls hl => ?_)
  refine lv_goto (tgt := 32) X.1.1 X.1.2.1 dL_silence_97 (by decide) ?_
  refine lv_iload_n X.1.1 X.1.2.1 dL_silence_32 rfl (lv_at hl 0 rfl) ?_
  refine lv_iconst (v := 4) X.1.1 X.1.2.1 dL_silence_33 (by decide) ?_
  refine lv_icmp_ge (tgt := 100) X.1.1 X.1.2.1 dL_silence_34 (by decide) (fun h9 => absurd h9 (by decide)) (fun _ => ?_)
  refine lv_aload_n X.1.1 X.1.2.1 dL_silence_37 rfl (lv_at hl 1 rfl) ?_
  refine lv_bipush (v := (nI 99)) X.1.1 X.1.2.1 dL_silence_38 (by decide +kernel) ?_
  refine lv_iconst (v := 4) X.1.1 X.1.2.1 dL_silence_40 (by decide) ?_
  refine k_newv (n := 4) (N := 4) X.1 X.2.2.1 hw q_ai (by decide) (by decide) (by decide) (Nat.le_of_ble_eq_true rfl) (Nat.le_of_ble_eq_true rfl) dL_silence_41 (fun b H hv => ?_)
  refine lv_dup X.1.1 X.1.2.1 dL_silence_43 rfl ?_
  refine lv_iconst (v := 0) X.1.1 X.1.2.1 dL_silence_44 (by decide) ?_
  refine lv_iconst (v := 0) X.1.1 X.1.2.1 dL_silence_45 (by decide) ?_
  refine k_vst (v := 0) (n := 0) X.1 X.2.2.1 hv (vp_in_nI (n := 0) (by decide) (by decide)) (by decide) dL_silence_46 (fun H locs hv => ?_)
  refine lv_dup X.1.1 X.1.2.1 dL_silence_47 rfl ?_
  refine lv_iconst (v := 1) X.1.1 X.1.2.1 dL_silence_48 (by decide) ?_
  refine lv_iload_n X.1.1 X.1.2.1 dL_silence_49 rfl (lv_at hl 0 rfl) ?_
  refine lv_iconst (v := 3) X.1.1 X.1.2.1 dL_silence_50 (by decide) ?_
  refine lv_icmp_ne (tgt := 58) X.1.1 X.1.2.1 dL_silence_51 (by decide) (fun _ => ?_) (fun h9 => absurd h9 (by decide))
  refine lv_iconst (v := 0) X.1.1 X.1.2.1 dL_silence_58 (by decide) ?_
  refine k_vst (v := 0) (n := 1) X.1 X.2.2.1 hv (vp_in_nI (n := 1) (by decide) (by decide)) (by decide) dL_silence_59 (fun H locs hv => ?_)
  refine lv_dup X.1.1 X.1.2.1 dL_silence_60 rfl ?_
  refine lv_iconst (v := 2) X.1.1 X.1.2.1 dL_silence_61 (by decide) ?_
  refine lv_iload_n X.1.1 X.1.2.1 dL_silence_62 rfl (lv_at hl 0 rfl) ?_
  refine k_vst (v := 1) (n := 2) X.1 X.2.2.1 hv (vp_in_nI (n := 2) (by decide) (by decide)) (by decide) dL_silence_63 (fun H locs hv => ?_)
  refine lv_dup X.1.1 X.1.2.1 dL_silence_64 rfl ?_
  refine lv_iconst (v := 3) X.1.1 X.1.2.1 dL_silence_65 (by decide) ?_
  refine lv_iconst (v := 0) X.1.1 X.1.2.1 dL_silence_66 (by decide) ?_
  refine k_vst (v := 0) (n := 3) X.1 X.2.2.1 hv (vp_in_nI (n := 3) (by decide) (by decide)) (by decide) dL_silence_67 (fun H locs hv => ?_)
  refine sN X (mA_complain l g X.2.2.2 S B y (upd (upd (upd (upd (fun _ => 0) 0 0) 1 0) 2 1) 3 0) 0 0 1 0 rfl rfl rfl rfl _ _ hN hev) hv hl dL_silence_68 ⟨Nat.le_of_ble_eq_true rfl, Nat.le_of_ble_eq_true rfl⟩ ⟨Nat.le_of_ble_eq_true rfl, Nat.le_of_ble_eq_true rfl⟩ he (fun H locs hw => ?_)
  have hV := hV.ev (by decide) (fa_complain he) hz
  have hw := hw.nrmW
  refine vn_ (v9 := 1) (vIs_e hq) ?_
  refine lv_iload_n X.1.1 X.1.2.1 dL_silence_71 rfl (lv_at hl 0 rfl) ?_
  refine lv_icmp_ne (tgt := 92) X.1.1 X.1.2.1 dL_silence_72 (by decide) (fun h9 => absurd rfl h9) (fun _ => ?_)
  refine W.widen (k := 167) (n := 3858) (Nat.le_of_ble_eq_true rfl) (Nat.le_of_ble_eq_true rfl) ?_
  exact fin _ _ _ _ _ hV hw hr hl
set_option maxHeartbeats 4000000 in
set_option maxRecDepth 100000 in
theorem w_sil_4 {p : Program} {l : Launch} {e : Env} {s : State} {m : MethodId} {args : Array Value} {below : List Frame} {meth : Method} {c : Code} {g : wG} {Q : State → Prop} {y : (Nat → Nat → Int32) × (Nat → Int64) × (Nat → UInt64)} (X : LX p l s m args c cL_silence 2 g)
    (fin : FN p l e rmD s m args below meth c g y Q 5 (ch_sil_5) 2 [(1, .int 1), (0, .ref (gA g 0))] 173 3889 94) : FN p l e rmD s m args below meth c g y Q 4 (ch_sil_4) 2 [(1, .int 1), (0, .ref (gA g 0))] 167 3858 75 := by
  intro S B H locs ls hV hw hr hl
  obtain ⟨n9, m9, ne9, n8, m8, hN, hN1, hev, hne, hne2⟩ := hV.cnt
  obtain ⟨he, hq, hz, hr⟩ := cC_e hr
  refine lv_aload_n X.1.1 X.1.2.1 dL_silence_75 rfl (lv_at hl 1 rfl) ?_
  refine lv_bipush (v := (nI 116)) X.1.1 X.1.2.1 dL_silence_76 (by decide +kernel) ?_
  refine lv_iconst (v := 1) X.1.1 X.1.2.1 dL_silence_78 (by decide) ?_
  refine k_newv (n := 1) (N := 1) X.1 X.2.2.1 hw q_ai (by decide) (by decide) (by decide) (Nat.le_of_ble_eq_true rfl) (Nat.le_of_ble_eq_true rfl) dL_silence_79 (fun b H hv => ?_)
  refine lv_dup X.1.1 X.1.2.1 dL_silence_81 rfl ?_
  refine lv_iconst (v := 0) X.1.1 X.1.2.1 dL_silence_82 (by decide) ?_
  refine lv_iload_n X.1.1 X.1.2.1 dL_silence_83 rfl (lv_at hl 0 rfl) ?_
  refine k_vst (v := 1) (n := 0) X.1 X.2.2.1 hv (vp_in_nI (n := 0) (by decide) (by decide)) (by decide) dL_silence_84 (fun H locs hv => ?_)
  refine sN X (mA_takeStep l g X.2.2.2 S B y (upd (fun _ => 0) 0 1) 1 rfl _ _ hN hev) hv hl dL_silence_85 ⟨Nat.le_of_ble_eq_true rfl, Nat.le_of_ble_eq_true rfl⟩ ⟨Nat.le_of_ble_eq_true rfl, Nat.le_of_ble_eq_true rfl⟩ he (fun H locs hw => ?_)
  have hV := hV.ev (by decide) (fa_takeStep he) hz
  have hw := hw.nrmW
  refine vn_ (v9 := 1) (vIs_e hq) ?_
  refine lv_iconst (v := 1) X.1.1 X.1.2.1 dL_silence_88 (by decide) ?_
  refine lv_icmp_eq (tgt := 94) X.1.1 X.1.2.1 dL_silence_89 (by decide) (fun _ => ?_) (fun h9 => absurd rfl h9)
  refine W.widen (k := 173) (n := 3889) (Nat.le_of_ble_eq_true rfl) (Nat.le_of_ble_eq_true rfl) ?_
  exact fin _ _ _ _ _ hV hw hr hl
set_option maxHeartbeats 4000000 in
set_option maxRecDepth 100000 in
theorem w_sil_5 {p : Program} {l : Launch} {e : Env} {s : State} {m : MethodId} {args : Array Value} {below : List Frame} {meth : Method} {c : Code} {g : wG} {Q : State → Prop} {y : (Nat → Nat → Int32) × (Nat → Int64) × (Nat → UInt64)} (X : LX p l s m args c cL_silence 2 g)
    (fin : FN p l e rmD s m args below meth c g y Q 6 (ch_sil_6) 2 [(1, .int 2), (0, .ref (gA g 0))] 179 3923 75) : FN p l e rmD s m args below meth c g y Q 5 (ch_sil_5) 2 [(1, .int 1), (0, .ref (gA g 0))] 173 3889 94 := by
  intro S B H locs ls hV hw hr hl
  obtain ⟨n9, m9, ne9, n8, m8, hN, hN1, hev, hne, hne2⟩ := hV.cnt
  obtain ⟨he, hq, hz, hr⟩ := cC_e hr
  refine lv_iinc (v := 2) (lv' := [(1, .int 2), (0, .ref (gA g 0))]) X.1.1 X.1.2.1 dL_silence_94 hl (k := 0) rfl (by decide) (by decide) rfl (fun ls hl => ?_)
  refine lv_goto (tgt := 32) X.1.1 X.1.2.1 dL_silence_97 (by decide) ?_
  refine lv_iload_n X.1.1 X.1.2.1 dL_silence_32 rfl (lv_at hl 0 rfl) ?_
  refine lv_iconst (v := 4) X.1.1 X.1.2.1 dL_silence_33 (by decide) ?_
  refine lv_icmp_ge (tgt := 100) X.1.1 X.1.2.1 dL_silence_34 (by decide) (fun h9 => absurd h9 (by decide)) (fun _ => ?_)
  refine lv_aload_n X.1.1 X.1.2.1 dL_silence_37 rfl (lv_at hl 1 rfl) ?_
  refine lv_bipush (v := (nI 99)) X.1.1 X.1.2.1 dL_silence_38 (by decide +kernel) ?_
  refine lv_iconst (v := 4) X.1.1 X.1.2.1 dL_silence_40 (by decide) ?_
  refine k_newv (n := 4) (N := 4) X.1 X.2.2.1 hw q_ai (by decide) (by decide) (by decide) (Nat.le_of_ble_eq_true rfl) (Nat.le_of_ble_eq_true rfl) dL_silence_41 (fun b H hv => ?_)
  refine lv_dup X.1.1 X.1.2.1 dL_silence_43 rfl ?_
  refine lv_iconst (v := 0) X.1.1 X.1.2.1 dL_silence_44 (by decide) ?_
  refine lv_iconst (v := 0) X.1.1 X.1.2.1 dL_silence_45 (by decide) ?_
  refine k_vst (v := 0) (n := 0) X.1 X.2.2.1 hv (vp_in_nI (n := 0) (by decide) (by decide)) (by decide) dL_silence_46 (fun H locs hv => ?_)
  refine lv_dup X.1.1 X.1.2.1 dL_silence_47 rfl ?_
  refine lv_iconst (v := 1) X.1.1 X.1.2.1 dL_silence_48 (by decide) ?_
  refine lv_iload_n X.1.1 X.1.2.1 dL_silence_49 rfl (lv_at hl 0 rfl) ?_
  refine lv_iconst (v := 3) X.1.1 X.1.2.1 dL_silence_50 (by decide) ?_
  refine lv_icmp_ne (tgt := 58) X.1.1 X.1.2.1 dL_silence_51 (by decide) (fun _ => ?_) (fun h9 => absurd h9 (by decide))
  refine lv_iconst (v := 0) X.1.1 X.1.2.1 dL_silence_58 (by decide) ?_
  refine k_vst (v := 0) (n := 1) X.1 X.2.2.1 hv (vp_in_nI (n := 1) (by decide) (by decide)) (by decide) dL_silence_59 (fun H locs hv => ?_)
  refine lv_dup X.1.1 X.1.2.1 dL_silence_60 rfl ?_
  refine lv_iconst (v := 2) X.1.1 X.1.2.1 dL_silence_61 (by decide) ?_
  refine lv_iload_n X.1.1 X.1.2.1 dL_silence_62 rfl (lv_at hl 0 rfl) ?_
  refine k_vst (v := 2) (n := 2) X.1 X.2.2.1 hv (vp_in_nI (n := 2) (by decide) (by decide)) (by decide) dL_silence_63 (fun H locs hv => ?_)
  refine lv_dup X.1.1 X.1.2.1 dL_silence_64 rfl ?_
  refine lv_iconst (v := 3) X.1.1 X.1.2.1 dL_silence_65 (by decide) ?_
  refine lv_iconst (v := 0) X.1.1 X.1.2.1 dL_silence_66 (by decide) ?_
  refine k_vst (v := 0) (n := 3) X.1 X.2.2.1 hv (vp_in_nI (n := 3) (by decide) (by decide)) (by decide) dL_silence_67 (fun H locs hv => ?_)
  refine sN X (mA_complain l g X.2.2.2 S B y (upd (upd (upd (upd (fun _ => 0) 0 0) 1 0) 2 2) 3 0) 0 0 2 0 rfl rfl rfl rfl _ _ hN hev) hv hl dL_silence_68 ⟨Nat.le_of_ble_eq_true rfl, Nat.le_of_ble_eq_true rfl⟩ ⟨Nat.le_of_ble_eq_true rfl, Nat.le_of_ble_eq_true rfl⟩ he (fun H locs hw => ?_)
  have hV := hV.ev (by decide) (fa_complain he) hz
  have hw := hw.nrmW
  refine vn_ (v9 := 2) (vIs_e hq) ?_
  refine lv_iload_n X.1.1 X.1.2.1 dL_silence_71 rfl (lv_at hl 0 rfl) ?_
  refine lv_icmp_ne (tgt := 92) X.1.1 X.1.2.1 dL_silence_72 (by decide) (fun h9 => absurd rfl h9) (fun _ => ?_)
  refine W.widen (k := 179) (n := 3923) (Nat.le_of_ble_eq_true rfl) (Nat.le_of_ble_eq_true rfl) ?_
  exact fin _ _ _ _ _ hV hw hr hl
set_option maxHeartbeats 4000000 in
set_option maxRecDepth 100000 in
theorem w_sil_6 {p : Program} {l : Launch} {e : Env} {s : State} {m : MethodId} {args : Array Value} {below : List Frame} {meth : Method} {c : Code} {g : wG} {Q : State → Prop} {y : (Nat → Nat → Int32) × (Nat → Int64) × (Nat → UInt64)} (X : LX p l s m args c cL_silence 2 g)
    (fin : FN p l e rmD s m args below meth c g y Q 7 (ch_sil_7) 2 [(1, .int 2), (0, .ref (gA g 0))] 185 3954 94) : FN p l e rmD s m args below meth c g y Q 6 (ch_sil_6) 2 [(1, .int 2), (0, .ref (gA g 0))] 179 3923 75 := by
  intro S B H locs ls hV hw hr hl
  obtain ⟨n9, m9, ne9, n8, m8, hN, hN1, hev, hne, hne2⟩ := hV.cnt
  obtain ⟨he, hq, hz, hr⟩ := cC_e hr
  refine lv_aload_n X.1.1 X.1.2.1 dL_silence_75 rfl (lv_at hl 1 rfl) ?_
  refine lv_bipush (v := (nI 116)) X.1.1 X.1.2.1 dL_silence_76 (by decide +kernel) ?_
  refine lv_iconst (v := 1) X.1.1 X.1.2.1 dL_silence_78 (by decide) ?_
  refine k_newv (n := 1) (N := 1) X.1 X.2.2.1 hw q_ai (by decide) (by decide) (by decide) (Nat.le_of_ble_eq_true rfl) (Nat.le_of_ble_eq_true rfl) dL_silence_79 (fun b H hv => ?_)
  refine lv_dup X.1.1 X.1.2.1 dL_silence_81 rfl ?_
  refine lv_iconst (v := 0) X.1.1 X.1.2.1 dL_silence_82 (by decide) ?_
  refine lv_iload_n X.1.1 X.1.2.1 dL_silence_83 rfl (lv_at hl 0 rfl) ?_
  refine k_vst (v := 2) (n := 0) X.1 X.2.2.1 hv (vp_in_nI (n := 0) (by decide) (by decide)) (by decide) dL_silence_84 (fun H locs hv => ?_)
  refine sN X (mA_takeStep l g X.2.2.2 S B y (upd (fun _ => 0) 0 2) 2 rfl _ _ hN hev) hv hl dL_silence_85 ⟨Nat.le_of_ble_eq_true rfl, Nat.le_of_ble_eq_true rfl⟩ ⟨Nat.le_of_ble_eq_true rfl, Nat.le_of_ble_eq_true rfl⟩ he (fun H locs hw => ?_)
  have hV := hV.ev (by decide) (fa_takeStep he) hz
  have hw := hw.nrmW
  refine vn_ (v9 := 1) (vIs_e hq) ?_
  refine lv_iconst (v := 1) X.1.1 X.1.2.1 dL_silence_88 (by decide) ?_
  refine lv_icmp_eq (tgt := 94) X.1.1 X.1.2.1 dL_silence_89 (by decide) (fun _ => ?_) (fun h9 => absurd rfl h9)
  refine W.widen (k := 185) (n := 3954) (Nat.le_of_ble_eq_true rfl) (Nat.le_of_ble_eq_true rfl) ?_
  exact fin _ _ _ _ _ hV hw hr hl
set_option maxHeartbeats 4000000 in
set_option maxRecDepth 100000 in
theorem w_sil_7 {p : Program} {l : Launch} {e : Env} {s : State} {m : MethodId} {args : Array Value} {below : List Frame} {meth : Method} {c : Code} {g : wG} {Q : State → Prop} {y : (Nat → Nat → Int32) × (Nat → Int64) × (Nat → UInt64)} (X : LX p l s m args c cL_silence 2 g)
    (fin : FN p l e rmD s m args below meth c g y Q 8 (ch_sil_8) 2 [(1, .int 3), (0, .ref (gA g 0))] 191 3988 75) : FN p l e rmD s m args below meth c g y Q 7 (ch_sil_7) 2 [(1, .int 2), (0, .ref (gA g 0))] 185 3954 94 := by
  intro S B H locs ls hV hw hr hl
  obtain ⟨n9, m9, ne9, n8, m8, hN, hN1, hev, hne, hne2⟩ := hV.cnt
  obtain ⟨he, hq, hz, hr⟩ := cC_e hr
  refine lv_iinc (v := 3) (lv' := [(1, .int 3), (0, .ref (gA g 0))]) X.1.1 X.1.2.1 dL_silence_94 hl (k := 0) rfl (by decide) (by decide) rfl (fun ls hl => ?_)
  refine lv_goto (tgt := 32) X.1.1 X.1.2.1 dL_silence_97 (by decide) ?_
  refine lv_iload_n X.1.1 X.1.2.1 dL_silence_32 rfl (lv_at hl 0 rfl) ?_
  refine lv_iconst (v := 4) X.1.1 X.1.2.1 dL_silence_33 (by decide) ?_
  refine lv_icmp_ge (tgt := 100) X.1.1 X.1.2.1 dL_silence_34 (by decide) (fun h9 => absurd h9 (by decide)) (fun _ => ?_)
  refine lv_aload_n X.1.1 X.1.2.1 dL_silence_37 rfl (lv_at hl 1 rfl) ?_
  refine lv_bipush (v := (nI 99)) X.1.1 X.1.2.1 dL_silence_38 (by decide +kernel) ?_
  refine lv_iconst (v := 4) X.1.1 X.1.2.1 dL_silence_40 (by decide) ?_
  refine k_newv (n := 4) (N := 4) X.1 X.2.2.1 hw q_ai (by decide) (by decide) (by decide) (Nat.le_of_ble_eq_true rfl) (Nat.le_of_ble_eq_true rfl) dL_silence_41 (fun b H hv => ?_)
  refine lv_dup X.1.1 X.1.2.1 dL_silence_43 rfl ?_
  refine lv_iconst (v := 0) X.1.1 X.1.2.1 dL_silence_44 (by decide) ?_
  refine lv_iconst (v := 0) X.1.1 X.1.2.1 dL_silence_45 (by decide) ?_
  refine k_vst (v := 0) (n := 0) X.1 X.2.2.1 hv (vp_in_nI (n := 0) (by decide) (by decide)) (by decide) dL_silence_46 (fun H locs hv => ?_)
  refine lv_dup X.1.1 X.1.2.1 dL_silence_47 rfl ?_
  refine lv_iconst (v := 1) X.1.1 X.1.2.1 dL_silence_48 (by decide) ?_
  refine lv_iload_n X.1.1 X.1.2.1 dL_silence_49 rfl (lv_at hl 0 rfl) ?_
  refine lv_iconst (v := 3) X.1.1 X.1.2.1 dL_silence_50 (by decide) ?_
  refine lv_icmp_ne (tgt := 58) X.1.1 X.1.2.1 dL_silence_51 (by decide) (fun h9 => absurd h9 (by decide)) (fun _ => ?_)
  refine lv_iconst (v := 1) X.1.1 X.1.2.1 dL_silence_54 (by decide) ?_
  refine lv_goto (tgt := 59) X.1.1 X.1.2.1 dL_silence_55 (by decide) ?_
  refine k_vst (v := 1) (n := 1) X.1 X.2.2.1 hv (vp_in_nI (n := 1) (by decide) (by decide)) (by decide) dL_silence_59 (fun H locs hv => ?_)
  refine lv_dup X.1.1 X.1.2.1 dL_silence_60 rfl ?_
  refine lv_iconst (v := 2) X.1.1 X.1.2.1 dL_silence_61 (by decide) ?_
  refine lv_iload_n X.1.1 X.1.2.1 dL_silence_62 rfl (lv_at hl 0 rfl) ?_
  refine k_vst (v := 3) (n := 2) X.1 X.2.2.1 hv (vp_in_nI (n := 2) (by decide) (by decide)) (by decide) dL_silence_63 (fun H locs hv => ?_)
  refine lv_dup X.1.1 X.1.2.1 dL_silence_64 rfl ?_
  refine lv_iconst (v := 3) X.1.1 X.1.2.1 dL_silence_65 (by decide) ?_
  refine lv_iconst (v := 0) X.1.1 X.1.2.1 dL_silence_66 (by decide) ?_
  refine k_vst (v := 0) (n := 3) X.1 X.2.2.1 hv (vp_in_nI (n := 3) (by decide) (by decide)) (by decide) dL_silence_67 (fun H locs hv => ?_)
  refine sN X (mA_complain l g X.2.2.2 S B y (upd (upd (upd (upd (fun _ => 0) 0 0) 1 1) 2 3) 3 0) 0 1 3 0 rfl rfl rfl rfl _ _ hN hev) hv hl dL_silence_68 ⟨Nat.le_of_ble_eq_true rfl, Nat.le_of_ble_eq_true rfl⟩ ⟨Nat.le_of_ble_eq_true rfl, Nat.le_of_ble_eq_true rfl⟩ he (fun H locs hw => ?_)
  have hV := hV.ev (by decide) (fa_complain he) hz
  have hw := hw.nrmW
  refine vn_ (v9 := 3) (vIs_e hq) ?_
  refine lv_iload_n X.1.1 X.1.2.1 dL_silence_71 rfl (lv_at hl 0 rfl) ?_
  refine lv_icmp_ne (tgt := 92) X.1.1 X.1.2.1 dL_silence_72 (by decide) (fun h9 => absurd rfl h9) (fun _ => ?_)
  refine W.widen (k := 191) (n := 3988) (Nat.le_of_ble_eq_true rfl) (Nat.le_of_ble_eq_true rfl) ?_
  exact fin _ _ _ _ _ hV hw hr hl
set_option maxHeartbeats 4000000 in
set_option maxRecDepth 100000 in
theorem w_sil_8 {p : Program} {l : Launch} {e : Env} {s : State} {m : MethodId} {args : Array Value} {below : List Frame} {meth : Method} {c : Code} {g : wG} {Q : State → Prop} {y : (Nat → Nat → Int32) × (Nat → Int64) × (Nat → UInt64)} (X : LX p l s m args c cL_silence 2 g)
    (fin : FN p l e rmD s m args below meth c g y Q 9 (ch_sil_9) 2 [(1, .int 3), (0, .ref (gA g 0))] 197 4019 94) : FN p l e rmD s m args below meth c g y Q 8 (ch_sil_8) 2 [(1, .int 3), (0, .ref (gA g 0))] 191 3988 75 := by
  intro S B H locs ls hV hw hr hl
  obtain ⟨n9, m9, ne9, n8, m8, hN, hN1, hev, hne, hne2⟩ := hV.cnt
  obtain ⟨he, hq, hz, hr⟩ := cC_e hr
  refine lv_aload_n X.1.1 X.1.2.1 dL_silence_75 rfl (lv_at hl 1 rfl) ?_
  refine lv_bipush (v := (nI 116)) X.1.1 X.1.2.1 dL_silence_76 (by decide +kernel) ?_
  refine lv_iconst (v := 1) X.1.1 X.1.2.1 dL_silence_78 (by decide) ?_
  refine k_newv (n := 1) (N := 1) X.1 X.2.2.1 hw q_ai (by decide) (by decide) (by decide) (Nat.le_of_ble_eq_true rfl) (Nat.le_of_ble_eq_true rfl) dL_silence_79 (fun b H hv => ?_)
  refine lv_dup X.1.1 X.1.2.1 dL_silence_81 rfl ?_
  refine lv_iconst (v := 0) X.1.1 X.1.2.1 dL_silence_82 (by decide) ?_
  refine lv_iload_n X.1.1 X.1.2.1 dL_silence_83 rfl (lv_at hl 0 rfl) ?_
  refine k_vst (v := 3) (n := 0) X.1 X.2.2.1 hv (vp_in_nI (n := 0) (by decide) (by decide)) (by decide) dL_silence_84 (fun H locs hv => ?_)
  refine sN X (mA_takeStep l g X.2.2.2 S B y (upd (fun _ => 0) 0 3) 3 rfl _ _ hN hev) hv hl dL_silence_85 ⟨Nat.le_of_ble_eq_true rfl, Nat.le_of_ble_eq_true rfl⟩ ⟨Nat.le_of_ble_eq_true rfl, Nat.le_of_ble_eq_true rfl⟩ he (fun H locs hw => ?_)
  have hV := hV.ev (by decide) (fa_takeStep he) hz
  have hw := hw.nrmW
  refine vn_ (v9 := 1) (vIs_e hq) ?_
  refine lv_iconst (v := 1) X.1.1 X.1.2.1 dL_silence_88 (by decide) ?_
  refine lv_icmp_eq (tgt := 94) X.1.1 X.1.2.1 dL_silence_89 (by decide) (fun _ => ?_) (fun h9 => absurd rfl h9)
  refine W.widen (k := 197) (n := 4019) (Nat.le_of_ble_eq_true rfl) (Nat.le_of_ble_eq_true rfl) ?_
  exact fin _ _ _ _ _ hV hw hr hl
set_option maxHeartbeats 4000000 in
set_option maxRecDepth 100000 in
theorem w_sil_9 {p : Program} {l : Launch} {e : Env} {s : State} {m : MethodId} {args : Array Value} {below : List Frame} {meth : Method} {c : Code} {g : wG} {Q : State → Prop} {y : (Nat → Nat → Int32) × (Nat → Int64) × (Nat → UInt64)} (X : LX p l s m args c cL_silence 2 g)
    (fin : FN p l e rmD s m args below meth c g y Q 10 (ch_sil_10) 2 [(1, .int 4), (0, .ref (gA g 0))] 203 4050 119) : FN p l e rmD s m args below meth c g y Q 9 (ch_sil_9) 2 [(1, .int 3), (0, .ref (gA g 0))] 197 4019 94 := by
  intro S B H locs ls hV hw hr hl
  obtain ⟨n9, m9, ne9, n8, m8, hN, hN1, hev, hne, hne2⟩ := hV.cnt
  obtain ⟨he, hq, hz, hr⟩ := cC_e hr
  refine lv_iinc (v := 4) (lv' := [(1, .int 4), (0, .ref (gA g 0))]) X.1.1 X.1.2.1 dL_silence_94 hl (k := 0) rfl (by decide) (by decide) rfl (fun ls hl => ?_)
  refine lv_goto (tgt := 32) X.1.1 X.1.2.1 dL_silence_97 (by decide) ?_
  refine lv_iload_n X.1.1 X.1.2.1 dL_silence_32 rfl (lv_at hl 0 rfl) ?_
  refine lv_iconst (v := 4) X.1.1 X.1.2.1 dL_silence_33 (by decide) ?_
  refine lv_icmp_ge (tgt := 100) X.1.1 X.1.2.1 dL_silence_34 (by decide) (fun _ => ?_) (fun h9 => absurd h9 (by decide))
  refine lv_aload_n X.1.1 X.1.2.1 dL_silence_100 rfl (lv_at hl 1 rfl) ?_
  refine lv_bipush (v := (nI 112)) X.1.1 X.1.2.1 dL_silence_101 (by decide +kernel) ?_
  refine lv_iconst (v := 1) X.1.1 X.1.2.1 dL_silence_103 (by decide) ?_
  refine k_newv (n := 1) (N := 1) X.1 X.2.2.1 hw q_ai (by decide) (by decide) (by decide) (Nat.le_of_ble_eq_true rfl) (Nat.le_of_ble_eq_true rfl) dL_silence_104 (fun b H hv => ?_)
  refine lv_dup X.1.1 X.1.2.1 dL_silence_106 rfl ?_
  refine lv_iconst (v := 0) X.1.1 X.1.2.1 dL_silence_107 (by decide) ?_
  refine lv_iconst (v := 1) X.1.1 X.1.2.1 dL_silence_108 (by decide) ?_
  refine k_vst (v := 1) (n := 0) X.1 X.2.2.1 hv (vp_in_nI (n := 0) (by decide) (by decide)) (by decide) dL_silence_109 (fun H locs hv => ?_)
  refine sN X (mA_pass l g X.2.2.2 S B y (upd (fun _ => 0) 0 1) 1 rfl _ _ hN hev) hv hl dL_silence_110 ⟨Nat.le_of_ble_eq_true rfl, Nat.le_of_ble_eq_true rfl⟩ ⟨Nat.le_of_ble_eq_true rfl, Nat.le_of_ble_eq_true rfl⟩ he (fun H locs hw => ?_)
  have hV := hV.ev (by decide) (fa_pass he) hz
  have hw := hw.nrmW
  refine vn_ (v9 := 1) (vIs_e hq) ?_
  refine lv_iconst (v := 1) X.1.1 X.1.2.1 dL_silence_113 (by decide) ?_
  refine lv_icmp_eq (tgt := 119) X.1.1 X.1.2.1 dL_silence_114 (by decide) (fun _ => ?_) (fun h9 => absurd rfl h9)
  refine W.widen (k := 203) (n := 4050) (Nat.le_of_ble_eq_true rfl) (Nat.le_of_ble_eq_true rfl) ?_
  exact fin _ _ _ _ _ hV hw hr hl
set_option maxHeartbeats 4000000 in
set_option maxRecDepth 100000 in
theorem w_sil_10 {p : Program} {l : Launch} {e : Env} {s : State} {m : MethodId} {args : Array Value} {below : List Frame} {meth : Method} {c : Code} {g : wG} {Q : State → Prop} {y : (Nat → Nat → Int32) × (Nat → Int64) × (Nat → UInt64)} (X : LX p l s m args c cL_silence 2 g)
    (fin : FN p l e rmD s m args below meth c g y Q 11 (ch_sil_11) 2 [(1, .int 0), (0, .ref (gA g 0))] 209 4081 146) : FN p l e rmD s m args below meth c g y Q 10 (ch_sil_10) 2 [(1, .int 4), (0, .ref (gA g 0))] 203 4050 119 := by
  intro S B H locs ls hV hw hr hl
  obtain ⟨n9, m9, ne9, n8, m8, hN, hN1, hev, hne, hne2⟩ := hV.cnt
  obtain ⟨he, hq, hz, hr⟩ := cC_e hr
  refine lv_iconst (v := 0) X.1.1 X.1.2.1 dL_silence_119 (by decide) ?_
  refine lv_istore_n (lv' := [(1, .int 0), (0, .ref (gA g 0))]) X.1.1 X.1.2.1 dL_silence_120 rfl hl (by decide) rfl (fun ls hl => ?_)
  refine lv_iload_n X.1.1 X.1.2.1 dL_silence_121 rfl (lv_at hl 0 rfl) ?_
  refine lv_iconst (v := 4) X.1.1 X.1.2.1 dL_silence_122 (by decide) ?_
  refine lv_icmp_ge (tgt := 152) X.1.1 X.1.2.1 dL_silence_123 (by decide) (fun h9 => absurd h9 (by decide)) (fun _ => ?_)
  refine lv_aload_n X.1.1 X.1.2.1 dL_silence_126 rfl (lv_at hl 1 rfl) ?_
  refine lv_bipush (v := (nI 101)) X.1.1 X.1.2.1 dL_silence_127 (by decide +kernel) ?_
  refine lv_iconst (v := 1) X.1.1 X.1.2.1 dL_silence_129 (by decide) ?_
  refine k_newv (n := 1) (N := 1) X.1 X.2.2.1 hw q_ai (by decide) (by decide) (by decide) (Nat.le_of_ble_eq_true rfl) (Nat.le_of_ble_eq_true rfl) dL_silence_130 (fun b H hv => ?_)
  refine lv_dup X.1.1 X.1.2.1 dL_silence_132 rfl ?_
  refine lv_iconst (v := 0) X.1.1 X.1.2.1 dL_silence_133 (by decide) ?_
  refine lv_iload_n X.1.1 X.1.2.1 dL_silence_134 rfl (lv_at hl 0 rfl) ?_
  refine k_vst (v := 0) (n := 0) X.1 X.2.2.1 hv (vp_in_nI (n := 0) (by decide) (by decide)) (by decide) dL_silence_135 (fun H locs hv => ?_)
  refine sN X (mA_examine l g X.2.2.2 S B y (upd (fun _ => 0) 0 0) 0 rfl _ _ hN hev) hv hl dL_silence_136 ⟨Nat.le_of_ble_eq_true rfl, Nat.le_of_ble_eq_true rfl⟩ ⟨Nat.le_of_ble_eq_true rfl, Nat.le_of_ble_eq_true rfl⟩ he (fun H locs hw => ?_)
  have hV := hV.ev (by decide) (fa_examine he) hz
  have hw := hw.nrmW
  refine vn_ (v9 := 114) (vIs_e hq) ?_
  refine lv_bipush (v := 114) X.1.1 X.1.2.1 dL_silence_139 (by decide +kernel) ?_
  refine lv_icmp_eq (tgt := 146) X.1.1 X.1.2.1 dL_silence_141 (by decide) (fun _ => ?_) (fun h9 => absurd rfl h9)
  refine W.widen (k := 209) (n := 4081) (Nat.le_of_ble_eq_true rfl) (Nat.le_of_ble_eq_true rfl) ?_
  exact fin _ _ _ _ _ hV hw hr hl
set_option maxHeartbeats 4000000 in
set_option maxRecDepth 100000 in
theorem w_sil_11 {p : Program} {l : Launch} {e : Env} {s : State} {m : MethodId} {args : Array Value} {below : List Frame} {meth : Method} {c : Code} {g : wG} {Q : State → Prop} {y : (Nat → Nat → Int32) × (Nat → Int64) × (Nat → UInt64)} (X : LX p l s m args c cL_silence 2 g)
    (fin : FN p l e rmD s m args below meth c g y Q 12 (ch_sil_12) 2 [(1, .int 1), (0, .ref (gA g 0))] 215 4112 146) : FN p l e rmD s m args below meth c g y Q 11 (ch_sil_11) 2 [(1, .int 0), (0, .ref (gA g 0))] 209 4081 146 := by
  intro S B H locs ls hV hw hr hl
  obtain ⟨n9, m9, ne9, n8, m8, hN, hN1, hev, hne, hne2⟩ := hV.cnt
  obtain ⟨he, hq, hz, hr⟩ := cC_e hr
  refine lv_iinc (v := 1) (lv' := [(1, .int 1), (0, .ref (gA g 0))]) X.1.1 X.1.2.1 dL_silence_146 hl (k := 0) rfl (by decide) (by decide) rfl (fun ls hl => ?_)
  refine lv_goto (tgt := 121) X.1.1 X.1.2.1 dL_silence_149 (by decide) ?_
  refine lv_iload_n X.1.1 X.1.2.1 dL_silence_121 rfl (lv_at hl 0 rfl) ?_
  refine lv_iconst (v := 4) X.1.1 X.1.2.1 dL_silence_122 (by decide) ?_
  refine lv_icmp_ge (tgt := 152) X.1.1 X.1.2.1 dL_silence_123 (by decide) (fun h9 => absurd h9 (by decide)) (fun _ => ?_)
  refine lv_aload_n X.1.1 X.1.2.1 dL_silence_126 rfl (lv_at hl 1 rfl) ?_
  refine lv_bipush (v := (nI 101)) X.1.1 X.1.2.1 dL_silence_127 (by decide +kernel) ?_
  refine lv_iconst (v := 1) X.1.1 X.1.2.1 dL_silence_129 (by decide) ?_
  refine k_newv (n := 1) (N := 1) X.1 X.2.2.1 hw q_ai (by decide) (by decide) (by decide) (Nat.le_of_ble_eq_true rfl) (Nat.le_of_ble_eq_true rfl) dL_silence_130 (fun b H hv => ?_)
  refine lv_dup X.1.1 X.1.2.1 dL_silence_132 rfl ?_
  refine lv_iconst (v := 0) X.1.1 X.1.2.1 dL_silence_133 (by decide) ?_
  refine lv_iload_n X.1.1 X.1.2.1 dL_silence_134 rfl (lv_at hl 0 rfl) ?_
  refine k_vst (v := 1) (n := 0) X.1 X.2.2.1 hv (vp_in_nI (n := 0) (by decide) (by decide)) (by decide) dL_silence_135 (fun H locs hv => ?_)
  refine sN X (mA_examine l g X.2.2.2 S B y (upd (fun _ => 0) 0 1) 1 rfl _ _ hN hev) hv hl dL_silence_136 ⟨Nat.le_of_ble_eq_true rfl, Nat.le_of_ble_eq_true rfl⟩ ⟨Nat.le_of_ble_eq_true rfl, Nat.le_of_ble_eq_true rfl⟩ he (fun H locs hw => ?_)
  have hV := hV.ev (by decide) (fa_examine he) hz
  have hw := hw.nrmW
  refine vn_ (v9 := 114) (vIs_e hq) ?_
  refine lv_bipush (v := 114) X.1.1 X.1.2.1 dL_silence_139 (by decide +kernel) ?_
  refine lv_icmp_eq (tgt := 146) X.1.1 X.1.2.1 dL_silence_141 (by decide) (fun _ => ?_) (fun h9 => absurd rfl h9)
  refine W.widen (k := 215) (n := 4112) (Nat.le_of_ble_eq_true rfl) (Nat.le_of_ble_eq_true rfl) ?_
  exact fin _ _ _ _ _ hV hw hr hl
set_option maxHeartbeats 4000000 in
set_option maxRecDepth 100000 in
theorem w_sil_12 {p : Program} {l : Launch} {e : Env} {s : State} {m : MethodId} {args : Array Value} {below : List Frame} {meth : Method} {c : Code} {g : wG} {Q : State → Prop} {y : (Nat → Nat → Int32) × (Nat → Int64) × (Nat → UInt64)} (X : LX p l s m args c cL_silence 2 g)
    (fin : FN p l e rmD s m args below meth c g y Q 13 (ch_sil_13) 2 [(1, .int 2), (0, .ref (gA g 0))] 221 4143 146) : FN p l e rmD s m args below meth c g y Q 12 (ch_sil_12) 2 [(1, .int 1), (0, .ref (gA g 0))] 215 4112 146 := by
  intro S B H locs ls hV hw hr hl
  obtain ⟨n9, m9, ne9, n8, m8, hN, hN1, hev, hne, hne2⟩ := hV.cnt
  obtain ⟨he, hq, hz, hr⟩ := cC_e hr
  refine lv_iinc (v := 2) (lv' := [(1, .int 2), (0, .ref (gA g 0))]) X.1.1 X.1.2.1 dL_silence_146 hl (k := 0) rfl (by decide) (by decide) rfl (fun ls hl => ?_)
  refine lv_goto (tgt := 121) X.1.1 X.1.2.1 dL_silence_149 (by decide) ?_
  refine lv_iload_n X.1.1 X.1.2.1 dL_silence_121 rfl (lv_at hl 0 rfl) ?_
  refine lv_iconst (v := 4) X.1.1 X.1.2.1 dL_silence_122 (by decide) ?_
  refine lv_icmp_ge (tgt := 152) X.1.1 X.1.2.1 dL_silence_123 (by decide) (fun h9 => absurd h9 (by decide)) (fun _ => ?_)
  refine lv_aload_n X.1.1 X.1.2.1 dL_silence_126 rfl (lv_at hl 1 rfl) ?_
  refine lv_bipush (v := (nI 101)) X.1.1 X.1.2.1 dL_silence_127 (by decide +kernel) ?_
  refine lv_iconst (v := 1) X.1.1 X.1.2.1 dL_silence_129 (by decide) ?_
  refine k_newv (n := 1) (N := 1) X.1 X.2.2.1 hw q_ai (by decide) (by decide) (by decide) (Nat.le_of_ble_eq_true rfl) (Nat.le_of_ble_eq_true rfl) dL_silence_130 (fun b H hv => ?_)
  refine lv_dup X.1.1 X.1.2.1 dL_silence_132 rfl ?_
  refine lv_iconst (v := 0) X.1.1 X.1.2.1 dL_silence_133 (by decide) ?_
  refine lv_iload_n X.1.1 X.1.2.1 dL_silence_134 rfl (lv_at hl 0 rfl) ?_
  refine k_vst (v := 2) (n := 0) X.1 X.2.2.1 hv (vp_in_nI (n := 0) (by decide) (by decide)) (by decide) dL_silence_135 (fun H locs hv => ?_)
  refine sN X (mA_examine l g X.2.2.2 S B y (upd (fun _ => 0) 0 2) 2 rfl _ _ hN hev) hv hl dL_silence_136 ⟨Nat.le_of_ble_eq_true rfl, Nat.le_of_ble_eq_true rfl⟩ ⟨Nat.le_of_ble_eq_true rfl, Nat.le_of_ble_eq_true rfl⟩ he (fun H locs hw => ?_)
  have hV := hV.ev (by decide) (fa_examine he) hz
  have hw := hw.nrmW
  refine vn_ (v9 := 114) (vIs_e hq) ?_
  refine lv_bipush (v := 114) X.1.1 X.1.2.1 dL_silence_139 (by decide +kernel) ?_
  refine lv_icmp_eq (tgt := 146) X.1.1 X.1.2.1 dL_silence_141 (by decide) (fun _ => ?_) (fun h9 => absurd rfl h9)
  refine W.widen (k := 221) (n := 4143) (Nat.le_of_ble_eq_true rfl) (Nat.le_of_ble_eq_true rfl) ?_
  exact fin _ _ _ _ _ hV hw hr hl
set_option maxHeartbeats 4000000 in
set_option maxRecDepth 100000 in
theorem w_sil_13 {p : Program} {l : Launch} {e : Env} {s : State} {m : MethodId} {args : Array Value} {below : List Frame} {meth : Method} {c : Code} {g : wG} {Q : State → Prop} {y : (Nat → Nat → Int32) × (Nat → Int64) × (Nat → UInt64)} (X : LX p l s m args c cL_silence 2 g)
    (fin : FN p l e rmD s m args below meth c g y Q 14 (ch_sil_14) 2 [(1, .int 3), (0, .ref (gA g 0))] 227 4174 146) : FN p l e rmD s m args below meth c g y Q 13 (ch_sil_13) 2 [(1, .int 2), (0, .ref (gA g 0))] 221 4143 146 := by
  intro S B H locs ls hV hw hr hl
  obtain ⟨n9, m9, ne9, n8, m8, hN, hN1, hev, hne, hne2⟩ := hV.cnt
  obtain ⟨he, hq, hz, hr⟩ := cC_e hr
  refine lv_iinc (v := 3) (lv' := [(1, .int 3), (0, .ref (gA g 0))]) X.1.1 X.1.2.1 dL_silence_146 hl (k := 0) rfl (by decide) (by decide) rfl (fun ls hl => ?_)
  refine lv_goto (tgt := 121) X.1.1 X.1.2.1 dL_silence_149 (by decide) ?_
  refine lv_iload_n X.1.1 X.1.2.1 dL_silence_121 rfl (lv_at hl 0 rfl) ?_
  refine lv_iconst (v := 4) X.1.1 X.1.2.1 dL_silence_122 (by decide) ?_
  refine lv_icmp_ge (tgt := 152) X.1.1 X.1.2.1 dL_silence_123 (by decide) (fun h9 => absurd h9 (by decide)) (fun _ => ?_)
  refine lv_aload_n X.1.1 X.1.2.1 dL_silence_126 rfl (lv_at hl 1 rfl) ?_
  refine lv_bipush (v := (nI 101)) X.1.1 X.1.2.1 dL_silence_127 (by decide +kernel) ?_
  refine lv_iconst (v := 1) X.1.1 X.1.2.1 dL_silence_129 (by decide) ?_
  refine k_newv (n := 1) (N := 1) X.1 X.2.2.1 hw q_ai (by decide) (by decide) (by decide) (Nat.le_of_ble_eq_true rfl) (Nat.le_of_ble_eq_true rfl) dL_silence_130 (fun b H hv => ?_)
  refine lv_dup X.1.1 X.1.2.1 dL_silence_132 rfl ?_
  refine lv_iconst (v := 0) X.1.1 X.1.2.1 dL_silence_133 (by decide) ?_
  refine lv_iload_n X.1.1 X.1.2.1 dL_silence_134 rfl (lv_at hl 0 rfl) ?_
  refine k_vst (v := 3) (n := 0) X.1 X.2.2.1 hv (vp_in_nI (n := 0) (by decide) (by decide)) (by decide) dL_silence_135 (fun H locs hv => ?_)
  refine sN X (mA_examine l g X.2.2.2 S B y (upd (fun _ => 0) 0 3) 3 rfl _ _ hN hev) hv hl dL_silence_136 ⟨Nat.le_of_ble_eq_true rfl, Nat.le_of_ble_eq_true rfl⟩ ⟨Nat.le_of_ble_eq_true rfl, Nat.le_of_ble_eq_true rfl⟩ he (fun H locs hw => ?_)
  have hV := hV.ev (by decide) (fa_examine he) hz
  have hw := hw.nrmW
  refine vn_ (v9 := 114) (vIs_e hq) ?_
  refine lv_bipush (v := 114) X.1.1 X.1.2.1 dL_silence_139 (by decide +kernel) ?_
  refine lv_icmp_eq (tgt := 146) X.1.1 X.1.2.1 dL_silence_141 (by decide) (fun _ => ?_) (fun h9 => absurd rfl h9)
  refine W.widen (k := 227) (n := 4174) (Nat.le_of_ble_eq_true rfl) (Nat.le_of_ble_eq_true rfl) ?_
  exact fin _ _ _ _ _ hV hw hr hl
set_option maxHeartbeats 4000000 in
set_option maxRecDepth 100000 in
theorem w_sil_14 {p : Program} {l : Launch} {e : Env} {s : State} {m : MethodId} {args : Array Value} {below : List Frame} {meth : Method} {c : Code} {g : wG} {Q : State → Prop} {y : (Nat → Nat → Int32) × (Nat → Int64) × (Nat → UInt64)} (X : LX p l s m args c cL_silence 2 g)
    (fin : FN p l e rmD s m args below meth c g y Q 15 (ch_sil_15) 2 [(1, .int 4), (0, .ref (gA g 0))] 233 4206 173) : FN p l e rmD s m args below meth c g y Q 14 (ch_sil_14) 2 [(1, .int 3), (0, .ref (gA g 0))] 227 4174 146 := by
  intro S B H locs ls hV hw hr hl
  obtain ⟨n9, m9, ne9, n8, m8, hN, hN1, hev, hne, hne2⟩ := hV.cnt
  obtain ⟨he, hq, hz, hr⟩ := cC_e hr
  refine lv_iinc (v := 4) (lv' := [(1, .int 4), (0, .ref (gA g 0))]) X.1.1 X.1.2.1 dL_silence_146 hl (k := 0) rfl (by decide) (by decide) rfl (fun ls hl => ?_)
  refine lv_goto (tgt := 121) X.1.1 X.1.2.1 dL_silence_149 (by decide) ?_
  refine lv_iload_n X.1.1 X.1.2.1 dL_silence_121 rfl (lv_at hl 0 rfl) ?_
  refine lv_iconst (v := 4) X.1.1 X.1.2.1 dL_silence_122 (by decide) ?_
  refine lv_icmp_ge (tgt := 152) X.1.1 X.1.2.1 dL_silence_123 (by decide) (fun _ => ?_) (fun h9 => absurd h9 (by decide))
  refine lv_aload_n X.1.1 X.1.2.1 dL_silence_152 rfl (lv_at hl 1 rfl) ?_
  refine lv_bipush (v := (nI 106)) X.1.1 X.1.2.1 dL_silence_153 (by decide +kernel) ?_
  refine lv_iconst (v := 2) X.1.1 X.1.2.1 dL_silence_155 (by decide) ?_
  refine k_newv (n := 2) (N := 2) X.1 X.2.2.1 hw q_ai (by decide) (by decide) (by decide) (Nat.le_of_ble_eq_true rfl) (Nat.le_of_ble_eq_true rfl) dL_silence_156 (fun b H hv => ?_)
  refine lv_dup X.1.1 X.1.2.1 dL_silence_158 rfl ?_
  refine lv_iconst (v := 0) X.1.1 X.1.2.1 dL_silence_159 (by decide) ?_
  refine lv_iconst (v := 1) X.1.1 X.1.2.1 dL_silence_160 (by decide) ?_
  refine k_vst (v := 1) (n := 0) X.1 X.2.2.1 hv (vp_in_nI (n := 0) (by decide) (by decide)) (by decide) dL_silence_161 (fun H locs hv => ?_)
  refine lv_dup X.1.1 X.1.2.1 dL_silence_162 rfl ?_
  refine lv_iconst (v := 1) X.1.1 X.1.2.1 dL_silence_163 (by decide) ?_
  refine lv_iconst (v := 0) X.1.1 X.1.2.1 dL_silence_164 (by decide) ?_
  refine k_vst (v := 0) (n := 1) X.1 X.2.2.1 hv (vp_in_nI (n := 1) (by decide) (by decide)) (by decide) dL_silence_165 (fun H locs hv => ?_)
  refine sN X (mA_join l g X.2.2.2 S B y (upd (upd (fun _ => 0) 0 1) 1 0) 1 0 rfl rfl _ _ hN hev) hv hl dL_silence_166 ⟨Nat.le_of_ble_eq_true rfl, Nat.le_of_ble_eq_true rfl⟩ ⟨Nat.le_of_ble_eq_true rfl, Nat.le_of_ble_eq_true rfl⟩ he (fun H locs hw => ?_)
  have hV := hV.ev (by decide) (fa_join he) hz
  have hw := hw.nrmW
  refine vn_ (v9 := 1) (vIs_e hq) ?_
  refine lv_iconst (v := 1) X.1.1 X.1.2.1 dL_silence_169 (by decide) ?_
  refine lv_icmp_ne (tgt := 614) X.1.1 X.1.2.1 dL_silence_170 (by decide) (fun h9 => absurd rfl h9) (fun _ => ?_)
  refine W.widen (k := 233) (n := 4206) (Nat.le_of_ble_eq_true rfl) (Nat.le_of_ble_eq_true rfl) ?_
  exact fin _ _ _ _ _ hV hw hr hl
set_option maxHeartbeats 4000000 in
set_option maxRecDepth 100000 in
theorem w_sil_15 {p : Program} {l : Launch} {e : Env} {s : State} {m : MethodId} {args : Array Value} {below : List Frame} {meth : Method} {c : Code} {g : wG} {Q : State → Prop} {y : (Nat → Nat → Int32) × (Nat → Int64) × (Nat → UInt64)} (X : LX p l s m args c cL_silence 2 g)
    (fin : FN p l e rmD s m args below meth c g y Q 15 (ch_sil_16) 2 [(1, .int 4), (0, .ref (gA g 0))] 239 4238 195) : FN p l e rmD s m args below meth c g y Q 15 (ch_sil_15) 2 [(1, .int 4), (0, .ref (gA g 0))] 233 4206 173 := by
  intro S B H locs ls hV hw hr hl
  obtain ⟨n9, m9, ne9, n8, m8, hN, hN1, hev, hne, hne2⟩ := hV.cnt
  obtain ⟨he, hr⟩ := cX_e hr
  refine lv_aload_n X.1.1 X.1.2.1 dL_silence_173 rfl (lv_at hl 1 rfl) ?_
  refine lv_bipush (v := (nI 106)) X.1.1 X.1.2.1 dL_silence_174 (by decide +kernel) ?_
  refine lv_iconst (v := 2) X.1.1 X.1.2.1 dL_silence_176 (by decide) ?_
  refine k_newv (n := 2) (N := 2) X.1 X.2.2.1 hw q_ai (by decide) (by decide) (by decide) (Nat.le_of_ble_eq_true rfl) (Nat.le_of_ble_eq_true rfl) dL_silence_177 (fun b H hv => ?_)
  refine lv_dup X.1.1 X.1.2.1 dL_silence_179 rfl ?_
  refine lv_iconst (v := 0) X.1.1 X.1.2.1 dL_silence_180 (by decide) ?_
  refine lv_iconst (v := 0) X.1.1 X.1.2.1 dL_silence_181 (by decide) ?_
  refine k_vst (v := 0) (n := 0) X.1 X.2.2.1 hv (vp_in_nI (n := 0) (by decide) (by decide)) (by decide) dL_silence_182 (fun H locs hv => ?_)
  refine lv_dup X.1.1 X.1.2.1 dL_silence_183 rfl ?_
  refine lv_iconst (v := 1) X.1.1 X.1.2.1 dL_silence_184 (by decide) ?_
  refine lv_iconst (v := 2) X.1.1 X.1.2.1 dL_silence_185 (by decide) ?_
  refine k_vst (v := 2) (n := 1) X.1 X.2.2.1 hv (vp_in_nI (n := 1) (by decide) (by decide)) (by decide) dL_silence_186 (fun H locs hv => ?_)
  refine sX X (mA_join l g X.2.2.2 S B y (upd (upd (fun _ => 0) 0 0) 1 2) 0 2 rfl rfl _ _ hN hev) hv hl dL_silence_187 ⟨Nat.le_of_ble_eq_true rfl, Nat.le_of_ble_eq_true rfl⟩ ⟨Nat.le_of_ble_eq_true rfl, Nat.le_of_ble_eq_true rfl⟩ he kX_4 (fun H locs hw => ?_)
  refine lv_ldc (v := (-2000000004)) X.1.1 X.1.2.1 X.1.2.2.1 (X.1.2.2.2 _ q904) dL_silence_190 ?_
  refine lv_icmp_ne (tgt := 614) X.1.1 X.1.2.1 dL_silence_192 (by decide) (fun h9 => absurd rfl h9) (fun _ => ?_)
  refine W.widen (k := 239) (n := 4238) (Nat.le_of_ble_eq_true rfl) (Nat.le_of_ble_eq_true rfl) ?_
  exact fin _ _ _ _ _ hV hw hr hl
set_option maxHeartbeats 4000000 in
set_option maxRecDepth 100000 in
theorem w_sil_16 {p : Program} {l : Launch} {e : Env} {s : State} {m : MethodId} {args : Array Value} {below : List Frame} {meth : Method} {c : Code} {g : wG} {Q : State → Prop} {y : (Nat → Nat → Int32) × (Nat → Int64) × (Nat → UInt64)} (X : LX p l s m args c cL_silence 2 g)
    (fin : FN p l e rmD s m args below meth c g y Q 15 (ch_sil_17) 2 [(1, .int 4), (0, .ref (gA g 0))] 245 4270 217) : FN p l e rmD s m args below meth c g y Q 15 (ch_sil_16) 2 [(1, .int 4), (0, .ref (gA g 0))] 239 4238 195 := by
  intro S B H locs ls hV hw hr hl
  obtain ⟨n9, m9, ne9, n8, m8, hN, hN1, hev, hne, hne2⟩ := hV.cnt
  obtain ⟨he, hr⟩ := cX_e hr
  refine lv_aload_n X.1.1 X.1.2.1 dL_silence_195 rfl (lv_at hl 1 rfl) ?_
  refine lv_bipush (v := (nI 106)) X.1.1 X.1.2.1 dL_silence_196 (by decide +kernel) ?_
  refine lv_iconst (v := 2) X.1.1 X.1.2.1 dL_silence_198 (by decide) ?_
  refine k_newv (n := 2) (N := 2) X.1 X.2.2.1 hw q_ai (by decide) (by decide) (by decide) (Nat.le_of_ble_eq_true rfl) (Nat.le_of_ble_eq_true rfl) dL_silence_199 (fun b H hv => ?_)
  refine lv_dup X.1.1 X.1.2.1 dL_silence_201 rfl ?_
  refine lv_iconst (v := 0) X.1.1 X.1.2.1 dL_silence_202 (by decide) ?_
  refine lv_iconst (v := 2) X.1.1 X.1.2.1 dL_silence_203 (by decide) ?_
  refine k_vst (v := 2) (n := 0) X.1 X.2.2.1 hv (vp_in_nI (n := 0) (by decide) (by decide)) (by decide) dL_silence_204 (fun H locs hv => ?_)
  refine lv_dup X.1.1 X.1.2.1 dL_silence_205 rfl ?_
  refine lv_iconst (v := 1) X.1.1 X.1.2.1 dL_silence_206 (by decide) ?_
  refine lv_iconst (v := 1) X.1.1 X.1.2.1 dL_silence_207 (by decide) ?_
  refine k_vst (v := 1) (n := 1) X.1 X.2.2.1 hv (vp_in_nI (n := 1) (by decide) (by decide)) (by decide) dL_silence_208 (fun H locs hv => ?_)
  refine sX X (mA_join l g X.2.2.2 S B y (upd (upd (fun _ => 0) 0 2) 1 1) 2 1 rfl rfl _ _ hN hev) hv hl dL_silence_209 ⟨Nat.le_of_ble_eq_true rfl, Nat.le_of_ble_eq_true rfl⟩ ⟨Nat.le_of_ble_eq_true rfl, Nat.le_of_ble_eq_true rfl⟩ he kX_4 (fun H locs hw => ?_)
  refine lv_ldc (v := (-2000000004)) X.1.1 X.1.2.1 X.1.2.2.1 (X.1.2.2.2 _ q904) dL_silence_212 ?_
  refine lv_icmp_ne (tgt := 614) X.1.1 X.1.2.1 dL_silence_214 (by decide) (fun h9 => absurd rfl h9) (fun _ => ?_)
  refine W.widen (k := 245) (n := 4270) (Nat.le_of_ble_eq_true rfl) (Nat.le_of_ble_eq_true rfl) ?_
  exact fin _ _ _ _ _ hV hw hr hl
set_option maxHeartbeats 4000000 in
set_option maxRecDepth 100000 in
theorem w_sil_17 {p : Program} {l : Launch} {e : Env} {s : State} {m : MethodId} {args : Array Value} {below : List Frame} {meth : Method} {c : Code} {g : wG} {Q : State → Prop} {y : (Nat → Nat → Int32) × (Nat → Int64) × (Nat → UInt64)} (X : LX p l s m args c cL_silence 2 g)
    (fin : FN p l e rmD s m args below meth c g y Q 15 (ch_sil_18) 2 [(1, .int 4), (0, .ref (gA g 0))] 251 4302 239) : FN p l e rmD s m args below meth c g y Q 15 (ch_sil_17) 2 [(1, .int 4), (0, .ref (gA g 0))] 245 4270 217 := by
  intro S B H locs ls hV hw hr hl
  obtain ⟨n9, m9, ne9, n8, m8, hN, hN1, hev, hne, hne2⟩ := hV.cnt
  obtain ⟨he, hr⟩ := cX_e hr
  refine lv_aload_n X.1.1 X.1.2.1 dL_silence_217 rfl (lv_at hl 1 rfl) ?_
  refine lv_bipush (v := (nI 106)) X.1.1 X.1.2.1 dL_silence_218 (by decide +kernel) ?_
  refine lv_iconst (v := 2) X.1.1 X.1.2.1 dL_silence_220 (by decide) ?_
  refine k_newv (n := 2) (N := 2) X.1 X.2.2.1 hw q_ai (by decide) (by decide) (by decide) (Nat.le_of_ble_eq_true rfl) (Nat.le_of_ble_eq_true rfl) dL_silence_221 (fun b H hv => ?_)
  refine lv_dup X.1.1 X.1.2.1 dL_silence_223 rfl ?_
  refine lv_iconst (v := 0) X.1.1 X.1.2.1 dL_silence_224 (by decide) ?_
  refine lv_iconst (v := 3) X.1.1 X.1.2.1 dL_silence_225 (by decide) ?_
  refine k_vst (v := 3) (n := 0) X.1 X.2.2.1 hv (vp_in_nI (n := 0) (by decide) (by decide)) (by decide) dL_silence_226 (fun H locs hv => ?_)
  refine lv_dup X.1.1 X.1.2.1 dL_silence_227 rfl ?_
  refine lv_iconst (v := 1) X.1.1 X.1.2.1 dL_silence_228 (by decide) ?_
  refine lv_iconst (v := 0) X.1.1 X.1.2.1 dL_silence_229 (by decide) ?_
  refine k_vst (v := 0) (n := 1) X.1 X.2.2.1 hv (vp_in_nI (n := 1) (by decide) (by decide)) (by decide) dL_silence_230 (fun H locs hv => ?_)
  refine sX X (mA_join l g X.2.2.2 S B y (upd (upd (fun _ => 0) 0 3) 1 0) 3 0 rfl rfl _ _ hN hev) hv hl dL_silence_231 ⟨Nat.le_of_ble_eq_true rfl, Nat.le_of_ble_eq_true rfl⟩ ⟨Nat.le_of_ble_eq_true rfl, Nat.le_of_ble_eq_true rfl⟩ he kX_4 (fun H locs hw => ?_)
  refine lv_ldc (v := (-2000000004)) X.1.1 X.1.2.1 X.1.2.2.1 (X.1.2.2.2 _ q904) dL_silence_234 ?_
  refine lv_icmp_ne (tgt := 614) X.1.1 X.1.2.1 dL_silence_236 (by decide) (fun h9 => absurd rfl h9) (fun _ => ?_)
  refine W.widen (k := 251) (n := 4302) (Nat.le_of_ble_eq_true rfl) (Nat.le_of_ble_eq_true rfl) ?_
  exact fin _ _ _ _ _ hV hw hr hl
set_option maxHeartbeats 4000000 in
set_option maxRecDepth 100000 in
theorem w_sil_18 {p : Program} {l : Launch} {e : Env} {s : State} {m : MethodId} {args : Array Value} {below : List Frame} {meth : Method} {c : Code} {g : wG} {Q : State → Prop} {y : (Nat → Nat → Int32) × (Nat → Int64) × (Nat → UInt64)} (X : LX p l s m args c cL_silence 2 g)
    (fin : FN p l e rmD s m args below meth c g y Q 15 (ch_sil_19) 2 [(1, .int 4), (0, .ref (gA g 0))] 257 4333 257) : FN p l e rmD s m args below meth c g y Q 15 (ch_sil_18) 2 [(1, .int 4), (0, .ref (gA g 0))] 251 4302 239 := by
  intro S B H locs ls hV hw hr hl
  obtain ⟨n9, m9, ne9, n8, m8, hN, hN1, hev, hne, hne2⟩ := hV.cnt
  obtain ⟨he, hr⟩ := cX_e hr
  refine lv_aload_n X.1.1 X.1.2.1 dL_silence_239 rfl (lv_at hl 1 rfl) ?_
  refine lv_bipush (v := (nI 97)) X.1.1 X.1.2.1 dL_silence_240 (by decide +kernel) ?_
  refine lv_iconst (v := 1) X.1.1 X.1.2.1 dL_silence_242 (by decide) ?_
  refine k_newv (n := 1) (N := 1) X.1 X.2.2.1 hw q_ai (by decide) (by decide) (by decide) (Nat.le_of_ble_eq_true rfl) (Nat.le_of_ble_eq_true rfl) dL_silence_243 (fun b H hv => ?_)
  refine lv_dup X.1.1 X.1.2.1 dL_silence_245 rfl ?_
  refine lv_iconst (v := 0) X.1.1 X.1.2.1 dL_silence_246 (by decide) ?_
  refine lv_iconst (v := 1) X.1.1 X.1.2.1 dL_silence_247 (by decide) ?_
  refine k_vst (v := 1) (n := 0) X.1 X.2.2.1 hv (vp_in_nI (n := 0) (by decide) (by decide)) (by decide) dL_silence_248 (fun H locs hv => ?_)
  refine sX X (mA_ask l g X.2.2.2 S B y (upd (fun _ => 0) 0 1) 1 rfl _ _ hN hev) hv hl dL_silence_249 ⟨Nat.le_of_ble_eq_true rfl, Nat.le_of_ble_eq_true rfl⟩ ⟨Nat.le_of_ble_eq_true rfl, Nat.le_of_ble_eq_true rfl⟩ he kX_4 (fun H locs hw => ?_)
  refine lv_ldc (v := (-2000000004)) X.1.1 X.1.2.1 X.1.2.2.1 (X.1.2.2.2 _ q904) dL_silence_252 ?_
  refine lv_icmp_ne (tgt := 614) X.1.1 X.1.2.1 dL_silence_254 (by decide) (fun h9 => absurd rfl h9) (fun _ => ?_)
  refine W.widen (k := 257) (n := 4333) (Nat.le_of_ble_eq_true rfl) (Nat.le_of_ble_eq_true rfl) ?_
  exact fin _ _ _ _ _ hV hw hr hl
set_option maxHeartbeats 4000000 in
set_option maxRecDepth 100000 in
theorem w_sil_19 {p : Program} {l : Launch} {e : Env} {s : State} {m : MethodId} {args : Array Value} {below : List Frame} {meth : Method} {c : Code} {g : wG} {Q : State → Prop} {y : (Nat → Nat → Int32) × (Nat → Int64) × (Nat → UInt64)} (X : LX p l s m args c cL_silence 2 g)
    (fin : FN p l e rmD s m args below meth c g y Q 16 (ch_sil_20) 2 [(1, .int 4), (0, .ref (gA g 0))] 263 4364 274) : FN p l e rmD s m args below meth c g y Q 15 (ch_sil_19) 2 [(1, .int 4), (0, .ref (gA g 0))] 257 4333 257 := by
  intro S B H locs ls hV hw hr hl
  obtain ⟨n9, m9, ne9, n8, m8, hN, hN1, hev, hne, hne2⟩ := hV.cnt
  obtain ⟨he, hq, hz, hr⟩ := cC_e hr
  refine lv_aload_n X.1.1 X.1.2.1 dL_silence_257 rfl (lv_at hl 1 rfl) ?_
  refine lv_bipush (v := (nI 97)) X.1.1 X.1.2.1 dL_silence_258 (by decide +kernel) ?_
  refine lv_iconst (v := 1) X.1.1 X.1.2.1 dL_silence_260 (by decide) ?_
  refine k_newv (n := 1) (N := 1) X.1 X.2.2.1 hw q_ai (by decide) (by decide) (by decide) (Nat.le_of_ble_eq_true rfl) (Nat.le_of_ble_eq_true rfl) dL_silence_261 (fun b H hv => ?_)
  refine lv_dup X.1.1 X.1.2.1 dL_silence_263 rfl ?_
  refine lv_iconst (v := 0) X.1.1 X.1.2.1 dL_silence_264 (by decide) ?_
  refine lv_iconst (v := 0) X.1.1 X.1.2.1 dL_silence_265 (by decide) ?_
  refine k_vst (v := 0) (n := 0) X.1 X.2.2.1 hv (vp_in_nI (n := 0) (by decide) (by decide)) (by decide) dL_silence_266 (fun H locs hv => ?_)
  refine sN X (mA_ask l g X.2.2.2 S B y (upd (fun _ => 0) 0 0) 0 rfl _ _ hN hev) hv hl dL_silence_267 ⟨Nat.le_of_ble_eq_true rfl, Nat.le_of_ble_eq_true rfl⟩ ⟨Nat.le_of_ble_eq_true rfl, Nat.le_of_ble_eq_true rfl⟩ he (fun H locs hw => ?_)
  have hV := hV.ev (by decide) (fa_ask he) hz
  have hw := hw.nrmW
  refine vn_ (v9 := 2) (vIs_e hq) ?_
  refine lv_iconst (v := 2) X.1.1 X.1.2.1 dL_silence_270 (by decide) ?_
  refine lv_icmp_ne (tgt := 614) X.1.1 X.1.2.1 dL_silence_271 (by decide) (fun h9 => absurd rfl h9) (fun _ => ?_)
  refine W.widen (k := 263) (n := 4364) (Nat.le_of_ble_eq_true rfl) (Nat.le_of_ble_eq_true rfl) ?_
  exact fin _ _ _ _ _ hV hw hr hl
set_option maxHeartbeats 4000000 in
set_option maxRecDepth 100000 in
theorem w_sil_20 {p : Program} {l : Launch} {e : Env} {s : State} {m : MethodId} {args : Array Value} {below : List Frame} {meth : Method} {c : Code} {g : wG} {Q : State → Prop} {y : (Nat → Nat → Int32) × (Nat → Int64) × (Nat → UInt64)} (X : LX p l s m args c cL_silence 2 g)
    (fin : FN p l e rmD s m args below meth c g y Q 16 (ch_sil_21) 2 [(1, .int 4), (0, .ref (gA g 0))] 269 4395 292) : FN p l e rmD s m args below meth c g y Q 16 (ch_sil_20) 2 [(1, .int 4), (0, .ref (gA g 0))] 263 4364 274 := by
  intro S B H locs ls hV hw hr hl
  obtain ⟨n9, m9, ne9, n8, m8, hN, hN1, hev, hne, hne2⟩ := hV.cnt
  obtain ⟨he, hq, hr⟩ := cQ_e hr
  refine lv_aload_n X.1.1 X.1.2.1 dL_silence_274 rfl (lv_at hl 1 rfl) ?_
  refine lv_bipush (v := (nI 115)) X.1.1 X.1.2.1 dL_silence_275 (by decide +kernel) ?_
  refine lv_iconst (v := 1) X.1.1 X.1.2.1 dL_silence_277 (by decide) ?_
  refine k_newv (n := 1) (N := 1) X.1 X.2.2.1 hw q_ai (by decide) (by decide) (by decide) (Nat.le_of_ble_eq_true rfl) (Nat.le_of_ble_eq_true rfl) dL_silence_278 (fun b H hv => ?_)
  refine lv_dup X.1.1 X.1.2.1 dL_silence_280 rfl ?_
  refine lv_iconst (v := 0) X.1.1 X.1.2.1 dL_silence_281 (by decide) ?_
  refine lv_iconst (v := 1) X.1.1 X.1.2.1 dL_silence_282 (by decide) ?_
  refine k_vst (v := 1) (n := 0) X.1 X.2.2.1 hv (vp_in_nI (n := 0) (by decide) (by decide)) (by decide) dL_silence_283 (fun H locs hv => ?_)
  refine sN X (mA_state l g X.2.2.2 S B y (upd (fun _ => 0) 0 1) 1 rfl _ _ hN) hv hl dL_silence_284 ⟨Nat.le_of_ble_eq_true rfl, Nat.le_of_ble_eq_true rfl⟩ ⟨Nat.le_of_ble_eq_true rfl, Nat.le_of_ble_eq_true rfl⟩ he (fun H locs hw => ?_)
  refine vn_ (v9 := 97) (vIs_e hq) ?_
  refine lv_bipush (v := 97) X.1.1 X.1.2.1 dL_silence_287 (by decide +kernel) ?_
  refine lv_icmp_ne (tgt := 614) X.1.1 X.1.2.1 dL_silence_289 (by decide) (fun h9 => absurd rfl h9) (fun _ => ?_)
  refine W.widen (k := 269) (n := 4395) (Nat.le_of_ble_eq_true rfl) (Nat.le_of_ble_eq_true rfl) ?_
  exact fin _ _ _ _ _ hV hw hr hl
set_option maxHeartbeats 4000000 in
set_option maxRecDepth 100000 in
theorem w_sil_21 {p : Program} {l : Launch} {e : Env} {s : State} {m : MethodId} {args : Array Value} {below : List Frame} {meth : Method} {c : Code} {g : wG} {Q : State → Prop} {y : (Nat → Nat → Int32) × (Nat → Int64) × (Nat → UInt64)} (X : LX p l s m args c cL_silence 2 g)
    (fin : FN p l e rmD s m args below meth c g y Q 17 (ch_sil_22) 2 [(1, .int 4), (0, .ref (gA g 0))] 275 4426 309) : FN p l e rmD s m args below meth c g y Q 16 (ch_sil_21) 2 [(1, .int 4), (0, .ref (gA g 0))] 269 4395 292 := by
  intro S B H locs ls hV hw hr hl
  obtain ⟨n9, m9, ne9, n8, m8, hN, hN1, hev, hne, hne2⟩ := hV.cnt
  obtain ⟨he, hq, hz, hr⟩ := cC_e hr
  refine lv_aload_n X.1.1 X.1.2.1 dL_silence_292 rfl (lv_at hl 1 rfl) ?_
  refine lv_bipush (v := (nI 112)) X.1.1 X.1.2.1 dL_silence_293 (by decide +kernel) ?_
  refine lv_iconst (v := 1) X.1.1 X.1.2.1 dL_silence_295 (by decide) ?_
  refine k_newv (n := 1) (N := 1) X.1 X.2.2.1 hw q_ai (by decide) (by decide) (by decide) (Nat.le_of_ble_eq_true rfl) (Nat.le_of_ble_eq_true rfl) dL_silence_296 (fun b H hv => ?_)
  refine lv_dup X.1.1 X.1.2.1 dL_silence_298 rfl ?_
  refine lv_iconst (v := 0) X.1.1 X.1.2.1 dL_silence_299 (by decide) ?_
  refine lv_iconst (v := 2) X.1.1 X.1.2.1 dL_silence_300 (by decide) ?_
  refine k_vst (v := 2) (n := 0) X.1 X.2.2.1 hv (vp_in_nI (n := 0) (by decide) (by decide)) (by decide) dL_silence_301 (fun H locs hv => ?_)
  refine sN X (mA_pass l g X.2.2.2 S B y (upd (fun _ => 0) 0 2) 2 rfl _ _ hN hev) hv hl dL_silence_302 ⟨Nat.le_of_ble_eq_true rfl, Nat.le_of_ble_eq_true rfl⟩ ⟨Nat.le_of_ble_eq_true rfl, Nat.le_of_ble_eq_true rfl⟩ he (fun H locs hw => ?_)
  have hV := hV.ev (by decide) (fa_pass he) hz
  have hw := hw.nrmW
  refine vn_ (v9 := 3) (vIs_e hq) ?_
  refine lv_iconst (v := 3) X.1.1 X.1.2.1 dL_silence_305 (by decide) ?_
  refine lv_icmp_ne (tgt := 614) X.1.1 X.1.2.1 dL_silence_306 (by decide) (fun h9 => absurd rfl h9) (fun _ => ?_)
  refine W.widen (k := 275) (n := 4426) (Nat.le_of_ble_eq_true rfl) (Nat.le_of_ble_eq_true rfl) ?_
  exact fin _ _ _ _ _ hV hw hr hl
set_option maxHeartbeats 4000000 in
set_option maxRecDepth 100000 in
theorem w_sil_22 {p : Program} {l : Launch} {e : Env} {s : State} {m : MethodId} {args : Array Value} {below : List Frame} {meth : Method} {c : Code} {g : wG} {Q : State → Prop} {y : (Nat → Nat → Int32) × (Nat → Int64) × (Nat → UInt64)} (X : LX p l s m args c cL_silence 2 g)
    (fin : FN p l e rmD s m args below meth c g y Q 18 (ch_sil_23) 2 [(1, .int 4), (0, .ref (gA g 0))] 281 4458 330) : FN p l e rmD s m args below meth c g y Q 17 (ch_sil_22) 2 [(1, .int 4), (0, .ref (gA g 0))] 275 4426 309 := by
  intro S B H locs ls hV hw hr hl
  obtain ⟨n9, m9, ne9, n8, m8, hN, hN1, hev, hne, hne2⟩ := hV.cnt
  obtain ⟨he, hq, hz, hr⟩ := cC_e hr
  refine lv_aload_n X.1.1 X.1.2.1 dL_silence_309 rfl (lv_at hl 1 rfl) ?_
  refine lv_bipush (v := (nI 106)) X.1.1 X.1.2.1 dL_silence_310 (by decide +kernel) ?_
  refine lv_iconst (v := 2) X.1.1 X.1.2.1 dL_silence_312 (by decide) ?_
  refine k_newv (n := 2) (N := 2) X.1 X.2.2.1 hw q_ai (by decide) (by decide) (by decide) (Nat.le_of_ble_eq_true rfl) (Nat.le_of_ble_eq_true rfl) dL_silence_313 (fun b H hv => ?_)
  refine lv_dup X.1.1 X.1.2.1 dL_silence_315 rfl ?_
  refine lv_iconst (v := 0) X.1.1 X.1.2.1 dL_silence_316 (by decide) ?_
  refine lv_iconst (v := 2) X.1.1 X.1.2.1 dL_silence_317 (by decide) ?_
  refine k_vst (v := 2) (n := 0) X.1 X.2.2.1 hv (vp_in_nI (n := 0) (by decide) (by decide)) (by decide) dL_silence_318 (fun H locs hv => ?_)
  refine lv_dup X.1.1 X.1.2.1 dL_silence_319 rfl ?_
  refine lv_iconst (v := 1) X.1.1 X.1.2.1 dL_silence_320 (by decide) ?_
  refine lv_iconst (v := 0) X.1.1 X.1.2.1 dL_silence_321 (by decide) ?_
  refine k_vst (v := 0) (n := 1) X.1 X.2.2.1 hv (vp_in_nI (n := 1) (by decide) (by decide)) (by decide) dL_silence_322 (fun H locs hv => ?_)
  refine sN X (mA_join l g X.2.2.2 S B y (upd (upd (fun _ => 0) 0 2) 1 0) 2 0 rfl rfl _ _ hN hev) hv hl dL_silence_323 ⟨Nat.le_of_ble_eq_true rfl, Nat.le_of_ble_eq_true rfl⟩ ⟨Nat.le_of_ble_eq_true rfl, Nat.le_of_ble_eq_true rfl⟩ he (fun H locs hw => ?_)
  have hV := hV.ev (by decide) (fa_join he) hz
  have hw := hw.nrmW
  refine vn_ (v9 := 2) (vIs_e hq) ?_
  refine lv_iconst (v := 2) X.1.1 X.1.2.1 dL_silence_326 (by decide) ?_
  refine lv_icmp_ne (tgt := 614) X.1.1 X.1.2.1 dL_silence_327 (by decide) (fun h9 => absurd rfl h9) (fun _ => ?_)
  refine W.widen (k := 281) (n := 4458) (Nat.le_of_ble_eq_true rfl) (Nat.le_of_ble_eq_true rfl) ?_
  exact fin _ _ _ _ _ hV hw hr hl
set_option maxHeartbeats 4000000 in
set_option maxRecDepth 100000 in
theorem w_sil_23 {p : Program} {l : Launch} {e : Env} {s : State} {m : MethodId} {args : Array Value} {below : List Frame} {meth : Method} {c : Code} {g : wG} {Q : State → Prop} {y : (Nat → Nat → Int32) × (Nat → Int64) × (Nat → UInt64)} (X : LX p l s m args c cL_silence 2 g)
    (fin : FN p l e rmD s m args below meth c g y Q 18 (ch_sil_24) 2 [(1, .int 4), (0, .ref (gA g 0))] 287 4489 348) : FN p l e rmD s m args below meth c g y Q 18 (ch_sil_23) 2 [(1, .int 4), (0, .ref (gA g 0))] 281 4458 330 := by
  intro S B H locs ls hV hw hr hl
  obtain ⟨n9, m9, ne9, n8, m8, hN, hN1, hev, hne, hne2⟩ := hV.cnt
  obtain ⟨he, hr⟩ := cX_e hr
  refine lv_aload_n X.1.1 X.1.2.1 dL_silence_330 rfl (lv_at hl 1 rfl) ?_
  refine lv_bipush (v := (nI 83)) X.1.1 X.1.2.1 dL_silence_331 (by decide +kernel) ?_
  refine lv_iconst (v := 1) X.1.1 X.1.2.1 dL_silence_333 (by decide) ?_
  refine k_newv (n := 1) (N := 1) X.1 X.2.2.1 hw q_ai (by decide) (by decide) (by decide) (Nat.le_of_ble_eq_true rfl) (Nat.le_of_ble_eq_true rfl) dL_silence_334 (fun b H hv => ?_)
  refine lv_dup X.1.1 X.1.2.1 dL_silence_336 rfl ?_
  refine lv_iconst (v := 0) X.1.1 X.1.2.1 dL_silence_337 (by decide) ?_
  refine lv_iconst (v := 0) X.1.1 X.1.2.1 dL_silence_338 (by decide) ?_
  refine k_vst (v := 0) (n := 0) X.1 X.2.2.1 hv (vp_in_nI (n := 0) (by decide) (by decide)) (by decide) dL_silence_339 (fun H locs hv => ?_)
  refine sX X (mA_takeSilence l g X.2.2.2 S B y (upd (fun _ => 0) 0 0) 0 rfl _ _ hN hev) hv hl dL_silence_340 ⟨Nat.le_of_ble_eq_true rfl, Nat.le_of_ble_eq_true rfl⟩ ⟨Nat.le_of_ble_eq_true rfl, Nat.le_of_ble_eq_true rfl⟩ he kX_4 (fun H locs hw => ?_)
  refine lv_ldc (v := (-2000000004)) X.1.1 X.1.2.1 X.1.2.2.1 (X.1.2.2.2 _ q904) dL_silence_343 ?_
  refine lv_icmp_ne (tgt := 614) X.1.1 X.1.2.1 dL_silence_345 (by decide) (fun h9 => absurd rfl h9) (fun _ => ?_)
  refine W.widen (k := 287) (n := 4489) (Nat.le_of_ble_eq_true rfl) (Nat.le_of_ble_eq_true rfl) ?_
  exact fin _ _ _ _ _ hV hw hr hl
set_option maxHeartbeats 4000000 in
set_option maxRecDepth 100000 in
theorem w_sil_24 {p : Program} {l : Launch} {e : Env} {s : State} {m : MethodId} {args : Array Value} {below : List Frame} {meth : Method} {c : Code} {g : wG} {Q : State → Prop} {y : (Nat → Nat → Int32) × (Nat → Int64) × (Nat → UInt64)} (X : LX p l s m args c cL_silence 2 g)
    (fin : FN p l e rmD s m args below meth c g y Q 19 (ch_sil_25) 2 [(1, .int 4), (0, .ref (gA g 0))] 293 4520 365) : FN p l e rmD s m args below meth c g y Q 18 (ch_sil_24) 2 [(1, .int 4), (0, .ref (gA g 0))] 287 4489 348 := by
  intro S B H locs ls hV hw hr hl
  obtain ⟨n9, m9, ne9, n8, m8, hN, hN1, hev, hne, hne2⟩ := hV.cnt
  obtain ⟨he, hq, hz, hr⟩ := cC_e hr
  refine lv_aload_n X.1.1 X.1.2.1 dL_silence_348 rfl (lv_at hl 1 rfl) ?_
  refine lv_bipush (v := (nI 114)) X.1.1 X.1.2.1 dL_silence_349 (by decide +kernel) ?_
  refine lv_iconst (v := 1) X.1.1 X.1.2.1 dL_silence_351 (by decide) ?_
  refine k_newv (n := 1) (N := 1) X.1 X.2.2.1 hw q_ai (by decide) (by decide) (by decide) (Nat.le_of_ble_eq_true rfl) (Nat.le_of_ble_eq_true rfl) dL_silence_352 (fun b H hv => ?_)
  refine lv_dup X.1.1 X.1.2.1 dL_silence_354 rfl ?_
  refine lv_iconst (v := 0) X.1.1 X.1.2.1 dL_silence_355 (by decide) ?_
  refine lv_iconst (v := 0) X.1.1 X.1.2.1 dL_silence_356 (by decide) ?_
  refine k_vst (v := 0) (n := 0) X.1 X.2.2.1 hv (vp_in_nI (n := 0) (by decide) (by decide)) (by decide) dL_silence_357 (fun H locs hv => ?_)
  refine sN X (mA_remind l g X.2.2.2 S B y (upd (fun _ => 0) 0 0) 0 rfl _ _ hN hev) hv hl dL_silence_358 ⟨Nat.le_of_ble_eq_true rfl, Nat.le_of_ble_eq_true rfl⟩ ⟨Nat.le_of_ble_eq_true rfl, Nat.le_of_ble_eq_true rfl⟩ he (fun H locs hw => ?_)
  have hV := hV.ev (by decide) (fa_remind he) hz
  have hw := hw.nrmW
  refine vn_ (v9 := 1) (vIs_e hq) ?_
  refine lv_iconst (v := 1) X.1.1 X.1.2.1 dL_silence_361 (by decide) ?_
  refine lv_icmp_ne (tgt := 614) X.1.1 X.1.2.1 dL_silence_362 (by decide) (fun h9 => absurd rfl h9) (fun _ => ?_)
  refine W.widen (k := 293) (n := 4520) (Nat.le_of_ble_eq_true rfl) (Nat.le_of_ble_eq_true rfl) ?_
  exact fin _ _ _ _ _ hV hw hr hl
set_option maxHeartbeats 4000000 in
set_option maxRecDepth 100000 in
theorem w_sil_25 {p : Program} {l : Launch} {e : Env} {s : State} {m : MethodId} {args : Array Value} {below : List Frame} {meth : Method} {c : Code} {g : wG} {Q : State → Prop} {y : (Nat → Nat → Int32) × (Nat → Int64) × (Nat → UInt64)} (X : LX p l s m args c cL_silence 2 g)
    (fin : FN p l e rmD s m args below meth c g y Q 19 (ch_sil_26) 2 [(1, .int 4), (0, .ref (gA g 0))] 299 4551 383) : FN p l e rmD s m args below meth c g y Q 19 (ch_sil_25) 2 [(1, .int 4), (0, .ref (gA g 0))] 293 4520 365 := by
  intro S B H locs ls hV hw hr hl
  obtain ⟨n9, m9, ne9, n8, m8, hN, hN1, hev, hne, hne2⟩ := hV.cnt
  obtain ⟨he, hr⟩ := cX_e hr
  refine lv_aload_n X.1.1 X.1.2.1 dL_silence_365 rfl (lv_at hl 1 rfl) ?_
  refine lv_bipush (v := (nI 114)) X.1.1 X.1.2.1 dL_silence_366 (by decide +kernel) ?_
  refine lv_iconst (v := 1) X.1.1 X.1.2.1 dL_silence_368 (by decide) ?_
  refine k_newv (n := 1) (N := 1) X.1 X.2.2.1 hw q_ai (by decide) (by decide) (by decide) (Nat.le_of_ble_eq_true rfl) (Nat.le_of_ble_eq_true rfl) dL_silence_369 (fun b H hv => ?_)
  refine lv_dup X.1.1 X.1.2.1 dL_silence_371 rfl ?_
  refine lv_iconst (v := 0) X.1.1 X.1.2.1 dL_silence_372 (by decide) ?_
  refine lv_iconst (v := 0) X.1.1 X.1.2.1 dL_silence_373 (by decide) ?_
  refine k_vst (v := 0) (n := 0) X.1 X.2.2.1 hv (vp_in_nI (n := 0) (by decide) (by decide)) (by decide) dL_silence_374 (fun H locs hv => ?_)
  refine sX X (mA_remind l g X.2.2.2 S B y (upd (fun _ => 0) 0 0) 0 rfl _ _ hN hev) hv hl dL_silence_375 ⟨Nat.le_of_ble_eq_true rfl, Nat.le_of_ble_eq_true rfl⟩ ⟨Nat.le_of_ble_eq_true rfl, Nat.le_of_ble_eq_true rfl⟩ he kX_4 (fun H locs hw => ?_)
  refine lv_ldc (v := (-2000000004)) X.1.1 X.1.2.1 X.1.2.2.1 (X.1.2.2.2 _ q904) dL_silence_378 ?_
  refine lv_icmp_ne (tgt := 614) X.1.1 X.1.2.1 dL_silence_380 (by decide) (fun h9 => absurd rfl h9) (fun _ => ?_)
  refine W.widen (k := 299) (n := 4551) (Nat.le_of_ble_eq_true rfl) (Nat.le_of_ble_eq_true rfl) ?_
  exact fin _ _ _ _ _ hV hw hr hl
set_option maxHeartbeats 4000000 in
set_option maxRecDepth 100000 in
theorem w_sil_26 {p : Program} {l : Launch} {e : Env} {s : State} {m : MethodId} {args : Array Value} {below : List Frame} {meth : Method} {c : Code} {g : wG} {Q : State → Prop} {y : (Nat → Nat → Int32) × (Nat → Int64) × (Nat → UInt64)} (X : LX p l s m args c cL_silence 2 g)
    (fin : FN p l e rmD s m args below meth c g y Q 20 (ch_sil_27) 2 [(1, .int 4), (0, .ref (gA g 0))] 305 4582 402) : FN p l e rmD s m args below meth c g y Q 19 (ch_sil_26) 2 [(1, .int 4), (0, .ref (gA g 0))] 299 4551 383 := by
  intro S B H locs ls hV hw hr hl
  obtain ⟨n9, m9, ne9, n8, m8, hN, hN1, hev, hne, hne2⟩ := hV.cnt
  obtain ⟨he, hq, hz, hr⟩ := cC_e hr
  refine lv_aload_n X.1.1 X.1.2.1 dL_silence_383 rfl (lv_at hl 1 rfl) ?_
  refine lv_bipush (v := (nI 112)) X.1.1 X.1.2.1 dL_silence_384 (by decide +kernel) ?_
  refine lv_iconst (v := 1) X.1.1 X.1.2.1 dL_silence_386 (by decide) ?_
  refine k_newv (n := 1) (N := 1) X.1 X.2.2.1 hw q_ai (by decide) (by decide) (by decide) (Nat.le_of_ble_eq_true rfl) (Nat.le_of_ble_eq_true rfl) dL_silence_387 (fun b H hv => ?_)
  refine lv_dup X.1.1 X.1.2.1 dL_silence_389 rfl ?_
  refine lv_iconst (v := 0) X.1.1 X.1.2.1 dL_silence_390 (by decide) ?_
  refine lv_bipush (v := 8) X.1.1 X.1.2.1 dL_silence_391 (by decide +kernel) ?_
  refine k_vst (v := 8) (n := 0) X.1 X.2.2.1 hv (vp_in_nI (n := 0) (by decide) (by decide)) (by decide) dL_silence_393 (fun H locs hv => ?_)
  refine sN X (mA_pass l g X.2.2.2 S B y (upd (fun _ => 0) 0 8) 8 rfl _ _ hN hev) hv hl dL_silence_394 ⟨Nat.le_of_ble_eq_true rfl, Nat.le_of_ble_eq_true rfl⟩ ⟨Nat.le_of_ble_eq_true rfl, Nat.le_of_ble_eq_true rfl⟩ he (fun H locs hw => ?_)
  have hV := hV.ev (by decide) (fa_pass he) hz
  have hw := hw.nrmW
  refine vn_ (v9 := 11) (vIs_e hq) ?_
  refine lv_bipush (v := 11) X.1.1 X.1.2.1 dL_silence_397 (by decide +kernel) ?_
  refine lv_icmp_ne (tgt := 614) X.1.1 X.1.2.1 dL_silence_399 (by decide) (fun h9 => absurd rfl h9) (fun _ => ?_)
  refine W.widen (k := 305) (n := 4582) (Nat.le_of_ble_eq_true rfl) (Nat.le_of_ble_eq_true rfl) ?_
  exact fin _ _ _ _ _ hV hw hr hl
set_option maxHeartbeats 4000000 in
set_option maxRecDepth 100000 in
theorem w_sil_27 {p : Program} {l : Launch} {e : Env} {s : State} {m : MethodId} {args : Array Value} {below : List Frame} {meth : Method} {c : Code} {g : wG} {Q : State → Prop} {y : (Nat → Nat → Int32) × (Nat → Int64) × (Nat → UInt64)} (X : LX p l s m args c cL_silence 2 g)
    (fin : FN p l e rmD s m args below meth c g y Q 21 (ch_sil_28) 2 [(1, .int 4), (0, .ref (gA g 0))] 311 4613 419) : FN p l e rmD s m args below meth c g y Q 20 (ch_sil_27) 2 [(1, .int 4), (0, .ref (gA g 0))] 305 4582 402 := by
  intro S B H locs ls hV hw hr hl
  obtain ⟨n9, m9, ne9, n8, m8, hN, hN1, hev, hne, hne2⟩ := hV.cnt
  obtain ⟨he, hq, hz, hr⟩ := cC_e hr
  refine lv_aload_n X.1.1 X.1.2.1 dL_silence_402 rfl (lv_at hl 1 rfl) ?_
  refine lv_bipush (v := (nI 114)) X.1.1 X.1.2.1 dL_silence_403 (by decide +kernel) ?_
  refine lv_iconst (v := 1) X.1.1 X.1.2.1 dL_silence_405 (by decide) ?_
  refine k_newv (n := 1) (N := 1) X.1 X.2.2.1 hw q_ai (by decide) (by decide) (by decide) (Nat.le_of_ble_eq_true rfl) (Nat.le_of_ble_eq_true rfl) dL_silence_406 (fun b H hv => ?_)
  refine lv_dup X.1.1 X.1.2.1 dL_silence_408 rfl ?_
  refine lv_iconst (v := 0) X.1.1 X.1.2.1 dL_silence_409 (by decide) ?_
  refine lv_iconst (v := 0) X.1.1 X.1.2.1 dL_silence_410 (by decide) ?_
  refine k_vst (v := 0) (n := 0) X.1 X.2.2.1 hv (vp_in_nI (n := 0) (by decide) (by decide)) (by decide) dL_silence_411 (fun H locs hv => ?_)
  refine sN X (mA_remind l g X.2.2.2 S B y (upd (fun _ => 0) 0 0) 0 rfl _ _ hN hev) hv hl dL_silence_412 ⟨Nat.le_of_ble_eq_true rfl, Nat.le_of_ble_eq_true rfl⟩ ⟨Nat.le_of_ble_eq_true rfl, Nat.le_of_ble_eq_true rfl⟩ he (fun H locs hw => ?_)
  have hV := hV.ev (by decide) (fa_remind he) hz
  have hw := hw.nrmW
  refine vn_ (v9 := 2) (vIs_e hq) ?_
  refine lv_iconst (v := 2) X.1.1 X.1.2.1 dL_silence_415 (by decide) ?_
  refine lv_icmp_ne (tgt := 614) X.1.1 X.1.2.1 dL_silence_416 (by decide) (fun h9 => absurd rfl h9) (fun _ => ?_)
  refine W.widen (k := 311) (n := 4613) (Nat.le_of_ble_eq_true rfl) (Nat.le_of_ble_eq_true rfl) ?_
  exact fin _ _ _ _ _ hV hw hr hl
set_option maxHeartbeats 4000000 in
set_option maxRecDepth 100000 in
theorem w_sil_28 {p : Program} {l : Launch} {e : Env} {s : State} {m : MethodId} {args : Array Value} {below : List Frame} {meth : Method} {c : Code} {g : wG} {Q : State → Prop} {y : (Nat → Nat → Int32) × (Nat → Int64) × (Nat → UInt64)} (X : LX p l s m args c cL_silence 2 g)
    (fin : FN p l e rmD s m args below meth c g y Q 22 (ch_sil_29) 2 [(1, .int 4), (0, .ref (gA g 0))] 317 4644 438) : FN p l e rmD s m args below meth c g y Q 21 (ch_sil_28) 2 [(1, .int 4), (0, .ref (gA g 0))] 311 4613 419 := by
  intro S B H locs ls hV hw hr hl
  obtain ⟨n9, m9, ne9, n8, m8, hN, hN1, hev, hne, hne2⟩ := hV.cnt
  obtain ⟨he, hq, hz, hr⟩ := cC_e hr
  refine lv_aload_n X.1.1 X.1.2.1 dL_silence_419 rfl (lv_at hl 1 rfl) ?_
  refine lv_bipush (v := (nI 112)) X.1.1 X.1.2.1 dL_silence_420 (by decide +kernel) ?_
  refine lv_iconst (v := 1) X.1.1 X.1.2.1 dL_silence_422 (by decide) ?_
  refine k_newv (n := 1) (N := 1) X.1 X.2.2.1 hw q_ai (by decide) (by decide) (by decide) (Nat.le_of_ble_eq_true rfl) (Nat.le_of_ble_eq_true rfl) dL_silence_423 (fun b H hv => ?_)
  refine lv_dup X.1.1 X.1.2.1 dL_silence_425 rfl ?_
  refine lv_iconst (v := 0) X.1.1 X.1.2.1 dL_silence_426 (by decide) ?_
  refine lv_bipush (v := 8) X.1.1 X.1.2.1 dL_silence_427 (by decide +kernel) ?_
  refine k_vst (v := 8) (n := 0) X.1 X.2.2.1 hv (vp_in_nI (n := 0) (by decide) (by decide)) (by decide) dL_silence_429 (fun H locs hv => ?_)
  refine sN X (mA_pass l g X.2.2.2 S B y (upd (fun _ => 0) 0 8) 8 rfl _ _ hN hev) hv hl dL_silence_430 ⟨Nat.le_of_ble_eq_true rfl, Nat.le_of_ble_eq_true rfl⟩ ⟨Nat.le_of_ble_eq_true rfl, Nat.le_of_ble_eq_true rfl⟩ he (fun H locs hw => ?_)
  have hV := hV.ev (by decide) (fa_pass he) hz
  have hw := hw.nrmW
  refine vn_ (v9 := 19) (vIs_e hq) ?_
  refine lv_bipush (v := 19) X.1.1 X.1.2.1 dL_silence_433 (by decide +kernel) ?_
  refine lv_icmp_ne (tgt := 614) X.1.1 X.1.2.1 dL_silence_435 (by decide) (fun h9 => absurd rfl h9) (fun _ => ?_)
  refine W.widen (k := 317) (n := 4644) (Nat.le_of_ble_eq_true rfl) (Nat.le_of_ble_eq_true rfl) ?_
  exact fin _ _ _ _ _ hV hw hr hl
set_option maxHeartbeats 4000000 in
set_option maxRecDepth 100000 in
theorem w_sil_29 {p : Program} {l : Launch} {e : Env} {s : State} {m : MethodId} {args : Array Value} {below : List Frame} {meth : Method} {c : Code} {g : wG} {Q : State → Prop} {y : (Nat → Nat → Int32) × (Nat → Int64) × (Nat → UInt64)} (X : LX p l s m args c cL_silence 2 g)
    (fin : FN p l e rmD s m args below meth c g y Q 23 (ch_sil_30) 2 [(1, .int 4), (0, .ref (gA g 0))] 323 4675 455) : FN p l e rmD s m args below meth c g y Q 22 (ch_sil_29) 2 [(1, .int 4), (0, .ref (gA g 0))] 317 4644 438 := by
  intro S B H locs ls hV hw hr hl
  obtain ⟨n9, m9, ne9, n8, m8, hN, hN1, hev, hne, hne2⟩ := hV.cnt
  obtain ⟨he, hq, hz, hr⟩ := cC_e hr
  refine lv_aload_n X.1.1 X.1.2.1 dL_silence_438 rfl (lv_at hl 1 rfl) ?_
  refine lv_bipush (v := (nI 114)) X.1.1 X.1.2.1 dL_silence_439 (by decide +kernel) ?_
  refine lv_iconst (v := 1) X.1.1 X.1.2.1 dL_silence_441 (by decide) ?_
  refine k_newv (n := 1) (N := 1) X.1 X.2.2.1 hw q_ai (by decide) (by decide) (by decide) (Nat.le_of_ble_eq_true rfl) (Nat.le_of_ble_eq_true rfl) dL_silence_442 (fun b H hv => ?_)
  refine lv_dup X.1.1 X.1.2.1 dL_silence_444 rfl ?_
  refine lv_iconst (v := 0) X.1.1 X.1.2.1 dL_silence_445 (by decide) ?_
  refine lv_iconst (v := 0) X.1.1 X.1.2.1 dL_silence_446 (by decide) ?_
  refine k_vst (v := 0) (n := 0) X.1 X.2.2.1 hv (vp_in_nI (n := 0) (by decide) (by decide)) (by decide) dL_silence_447 (fun H locs hv => ?_)
  refine sN X (mA_remind l g X.2.2.2 S B y (upd (fun _ => 0) 0 0) 0 rfl _ _ hN hev) hv hl dL_silence_448 ⟨Nat.le_of_ble_eq_true rfl, Nat.le_of_ble_eq_true rfl⟩ ⟨Nat.le_of_ble_eq_true rfl, Nat.le_of_ble_eq_true rfl⟩ he (fun H locs hw => ?_)
  have hV := hV.ev (by decide) (fa_remind he) hz
  have hw := hw.nrmW
  refine vn_ (v9 := 3) (vIs_e hq) ?_
  refine lv_iconst (v := 3) X.1.1 X.1.2.1 dL_silence_451 (by decide) ?_
  refine lv_icmp_ne (tgt := 614) X.1.1 X.1.2.1 dL_silence_452 (by decide) (fun h9 => absurd rfl h9) (fun _ => ?_)
  refine W.widen (k := 323) (n := 4675) (Nat.le_of_ble_eq_true rfl) (Nat.le_of_ble_eq_true rfl) ?_
  exact fin _ _ _ _ _ hV hw hr hl
set_option maxHeartbeats 4000000 in
set_option maxRecDepth 100000 in
theorem w_sil_30 {p : Program} {l : Launch} {e : Env} {s : State} {m : MethodId} {args : Array Value} {below : List Frame} {meth : Method} {c : Code} {g : wG} {Q : State → Prop} {y : (Nat → Nat → Int32) × (Nat → Int64) × (Nat → UInt64)} (X : LX p l s m args c cL_silence 2 g)
    (fin : FN p l e rmD s m args below meth c g y Q 24 (ch_sil_31) 2 [(1, .int 4), (0, .ref (gA g 0))] 329 4706 474) : FN p l e rmD s m args below meth c g y Q 23 (ch_sil_30) 2 [(1, .int 4), (0, .ref (gA g 0))] 323 4675 455 := by
  intro S B H locs ls hV hw hr hl
  obtain ⟨n9, m9, ne9, n8, m8, hN, hN1, hev, hne, hne2⟩ := hV.cnt
  obtain ⟨he, hq, hz, hr⟩ := cC_e hr
  refine lv_aload_n X.1.1 X.1.2.1 dL_silence_455 rfl (lv_at hl 1 rfl) ?_
  refine lv_bipush (v := (nI 112)) X.1.1 X.1.2.1 dL_silence_456 (by decide +kernel) ?_
  refine lv_iconst (v := 1) X.1.1 X.1.2.1 dL_silence_458 (by decide) ?_
  refine k_newv (n := 1) (N := 1) X.1 X.2.2.1 hw q_ai (by decide) (by decide) (by decide) (Nat.le_of_ble_eq_true rfl) (Nat.le_of_ble_eq_true rfl) dL_silence_459 (fun b H hv => ?_)
  refine lv_dup X.1.1 X.1.2.1 dL_silence_461 rfl ?_
  refine lv_iconst (v := 0) X.1.1 X.1.2.1 dL_silence_462 (by decide) ?_
  refine lv_bipush (v := 7) X.1.1 X.1.2.1 dL_silence_463 (by decide +kernel) ?_
  refine k_vst (v := 7) (n := 0) X.1 X.2.2.1 hv (vp_in_nI (n := 0) (by decide) (by decide)) (by decide) dL_silence_465 (fun H locs hv => ?_)
  refine sN X (mA_pass l g X.2.2.2 S B y (upd (fun _ => 0) 0 7) 7 rfl _ _ hN hev) hv hl dL_silence_466 ⟨Nat.le_of_ble_eq_true rfl, Nat.le_of_ble_eq_true rfl⟩ ⟨Nat.le_of_ble_eq_true rfl, Nat.le_of_ble_eq_true rfl⟩ he (fun H locs hw => ?_)
  have hV := hV.ev (by decide) (fa_pass he) hz
  have hw := hw.nrmW
  refine vn_ (v9 := 26) (vIs_e hq) ?_
  refine lv_bipush (v := 26) X.1.1 X.1.2.1 dL_silence_469 (by decide +kernel) ?_
  refine lv_icmp_ne (tgt := 614) X.1.1 X.1.2.1 dL_silence_471 (by decide) (fun h9 => absurd rfl h9) (fun _ => ?_)
  refine W.widen (k := 329) (n := 4706) (Nat.le_of_ble_eq_true rfl) (Nat.le_of_ble_eq_true rfl) ?_
  exact fin _ _ _ _ _ hV hw hr hl
set_option maxHeartbeats 4000000 in
set_option maxRecDepth 100000 in
theorem w_sil_31 {p : Program} {l : Launch} {e : Env} {s : State} {m : MethodId} {args : Array Value} {below : List Frame} {meth : Method} {c : Code} {g : wG} {Q : State → Prop} {y : (Nat → Nat → Int32) × (Nat → Int64) × (Nat → UInt64)} (X : LX p l s m args c cL_silence 2 g)
    (fin : FN p l e rmD s m args below meth c g y Q 24 (ch_sil_32) 2 [(1, .int 4), (0, .ref (gA g 0))] 335 4737 492) : FN p l e rmD s m args below meth c g y Q 24 (ch_sil_31) 2 [(1, .int 4), (0, .ref (gA g 0))] 329 4706 474 := by
  intro S B H locs ls hV hw hr hl
  obtain ⟨n9, m9, ne9, n8, m8, hN, hN1, hev, hne, hne2⟩ := hV.cnt
  obtain ⟨he, hr⟩ := cX_e hr
  refine lv_aload_n X.1.1 X.1.2.1 dL_silence_474 rfl (lv_at hl 1 rfl) ?_
  refine lv_bipush (v := (nI 83)) X.1.1 X.1.2.1 dL_silence_475 (by decide +kernel) ?_
  refine lv_iconst (v := 1) X.1.1 X.1.2.1 dL_silence_477 (by decide) ?_
  refine k_newv (n := 1) (N := 1) X.1 X.2.2.1 hw q_ai (by decide) (by decide) (by decide) (Nat.le_of_ble_eq_true rfl) (Nat.le_of_ble_eq_true rfl) dL_silence_478 (fun b H hv => ?_)
  refine lv_dup X.1.1 X.1.2.1 dL_silence_480 rfl ?_
  refine lv_iconst (v := 0) X.1.1 X.1.2.1 dL_silence_481 (by decide) ?_
  refine lv_iconst (v := 0) X.1.1 X.1.2.1 dL_silence_482 (by decide) ?_
  refine k_vst (v := 0) (n := 0) X.1 X.2.2.1 hv (vp_in_nI (n := 0) (by decide) (by decide)) (by decide) dL_silence_483 (fun H locs hv => ?_)
  refine sX X (mA_takeSilence l g X.2.2.2 S B y (upd (fun _ => 0) 0 0) 0 rfl _ _ hN hev) hv hl dL_silence_484 ⟨Nat.le_of_ble_eq_true rfl, Nat.le_of_ble_eq_true rfl⟩ ⟨Nat.le_of_ble_eq_true rfl, Nat.le_of_ble_eq_true rfl⟩ he kX_4 (fun H locs hw => ?_)
  refine lv_ldc (v := (-2000000004)) X.1.1 X.1.2.1 X.1.2.2.1 (X.1.2.2.2 _ q904) dL_silence_487 ?_
  refine lv_icmp_ne (tgt := 614) X.1.1 X.1.2.1 dL_silence_489 (by decide) (fun h9 => absurd rfl h9) (fun _ => ?_)
  refine W.widen (k := 335) (n := 4737) (Nat.le_of_ble_eq_true rfl) (Nat.le_of_ble_eq_true rfl) ?_
  exact fin _ _ _ _ _ hV hw hr hl
set_option maxHeartbeats 4000000 in
set_option maxRecDepth 100000 in
theorem w_sil_32 {p : Program} {l : Launch} {e : Env} {s : State} {m : MethodId} {args : Array Value} {below : List Frame} {meth : Method} {c : Code} {g : wG} {Q : State → Prop} {y : (Nat → Nat → Int32) × (Nat → Int64) × (Nat → UInt64)} (X : LX p l s m args c cL_silence 2 g)
    (fin : FN p l e rmD s m args below meth c g y Q 25 (ch_sil_33) 2 [(1, .int 4), (0, .ref (gA g 0))] 341 4768 510) : FN p l e rmD s m args below meth c g y Q 24 (ch_sil_32) 2 [(1, .int 4), (0, .ref (gA g 0))] 335 4737 492 := by
  intro S B H locs ls hV hw hr hl
  obtain ⟨n9, m9, ne9, n8, m8, hN, hN1, hev, hne, hne2⟩ := hV.cnt
  obtain ⟨he, hq, hz, hr⟩ := cC_e hr
  refine lv_aload_n X.1.1 X.1.2.1 dL_silence_492 rfl (lv_at hl 1 rfl) ?_
  refine lv_bipush (v := (nI 112)) X.1.1 X.1.2.1 dL_silence_493 (by decide +kernel) ?_
  refine lv_iconst (v := 1) X.1.1 X.1.2.1 dL_silence_495 (by decide) ?_
  refine k_newv (n := 1) (N := 1) X.1 X.2.2.1 hw q_ai (by decide) (by decide) (by decide) (Nat.le_of_ble_eq_true rfl) (Nat.le_of_ble_eq_true rfl) dL_silence_496 (fun b H hv => ?_)
  refine lv_dup X.1.1 X.1.2.1 dL_silence_498 rfl ?_
  refine lv_iconst (v := 0) X.1.1 X.1.2.1 dL_silence_499 (by decide) ?_
  refine lv_iconst (v := 1) X.1.1 X.1.2.1 dL_silence_500 (by decide) ?_
  refine k_vst (v := 1) (n := 0) X.1 X.2.2.1 hv (vp_in_nI (n := 0) (by decide) (by decide)) (by decide) dL_silence_501 (fun H locs hv => ?_)
  refine sN X (mA_pass l g X.2.2.2 S B y (upd (fun _ => 0) 0 1) 1 rfl _ _ hN hev) hv hl dL_silence_502 ⟨Nat.le_of_ble_eq_true rfl, Nat.le_of_ble_eq_true rfl⟩ ⟨Nat.le_of_ble_eq_true rfl, Nat.le_of_ble_eq_true rfl⟩ he (fun H locs hw => ?_)
  have hV := hV.ev (by decide) (fa_pass he) hz
  have hw := hw.nrmW
  refine vn_ (v9 := 27) (vIs_e hq) ?_
  refine lv_bipush (v := 27) X.1.1 X.1.2.1 dL_silence_505 (by decide +kernel) ?_
  refine lv_icmp_ne (tgt := 614) X.1.1 X.1.2.1 dL_silence_507 (by decide) (fun h9 => absurd rfl h9) (fun _ => ?_)
  refine W.widen (k := 341) (n := 4768) (Nat.le_of_ble_eq_true rfl) (Nat.le_of_ble_eq_true rfl) ?_
  exact fin _ _ _ _ _ hV hw hr hl
set_option maxHeartbeats 4000000 in
set_option maxRecDepth 100000 in
theorem w_sil_33 {p : Program} {l : Launch} {e : Env} {s : State} {m : MethodId} {args : Array Value} {below : List Frame} {meth : Method} {c : Code} {g : wG} {Q : State → Prop} {y : (Nat → Nat → Int32) × (Nat → Int64) × (Nat → UInt64)} (X : LX p l s m args c cL_silence 2 g)
    (fin : FN p l e rmD s m args below meth c g y Q 25 (ch_sil_34) 2 [(1, .int 4), (0, .ref (gA g 0))] 347 4799 528) : FN p l e rmD s m args below meth c g y Q 25 (ch_sil_33) 2 [(1, .int 4), (0, .ref (gA g 0))] 341 4768 510 := by
  intro S B H locs ls hV hw hr hl
  obtain ⟨n9, m9, ne9, n8, m8, hN, hN1, hev, hne, hne2⟩ := hV.cnt
  obtain ⟨he, hr⟩ := cX_e hr
  refine lv_aload_n X.1.1 X.1.2.1 dL_silence_510 rfl (lv_at hl 1 rfl) ?_
  refine lv_bipush (v := (nI 114)) X.1.1 X.1.2.1 dL_silence_511 (by decide +kernel) ?_
  refine lv_iconst (v := 1) X.1.1 X.1.2.1 dL_silence_513 (by decide) ?_
  refine k_newv (n := 1) (N := 1) X.1 X.2.2.1 hw q_ai (by decide) (by decide) (by decide) (Nat.le_of_ble_eq_true rfl) (Nat.le_of_ble_eq_true rfl) dL_silence_514 (fun b H hv => ?_)
  refine lv_dup X.1.1 X.1.2.1 dL_silence_516 rfl ?_
  refine lv_iconst (v := 0) X.1.1 X.1.2.1 dL_silence_517 (by decide) ?_
  refine lv_iconst (v := 0) X.1.1 X.1.2.1 dL_silence_518 (by decide) ?_
  refine k_vst (v := 0) (n := 0) X.1 X.2.2.1 hv (vp_in_nI (n := 0) (by decide) (by decide)) (by decide) dL_silence_519 (fun H locs hv => ?_)
  refine sX X (mA_remind l g X.2.2.2 S B y (upd (fun _ => 0) 0 0) 0 rfl _ _ hN hev) hv hl dL_silence_520 ⟨Nat.le_of_ble_eq_true rfl, Nat.le_of_ble_eq_true rfl⟩ ⟨Nat.le_of_ble_eq_true rfl, Nat.le_of_ble_eq_true rfl⟩ he kX_4 (fun H locs hw => ?_)
  refine lv_ldc (v := (-2000000004)) X.1.1 X.1.2.1 X.1.2.2.1 (X.1.2.2.2 _ q904) dL_silence_523 ?_
  refine lv_icmp_ne (tgt := 614) X.1.1 X.1.2.1 dL_silence_525 (by decide) (fun h9 => absurd rfl h9) (fun _ => ?_)
  refine W.widen (k := 347) (n := 4799) (Nat.le_of_ble_eq_true rfl) (Nat.le_of_ble_eq_true rfl) ?_
  exact fin _ _ _ _ _ hV hw hr hl
set_option maxHeartbeats 4000000 in
set_option maxRecDepth 100000 in
theorem w_sil_34 {p : Program} {l : Launch} {e : Env} {s : State} {m : MethodId} {args : Array Value} {below : List Frame} {meth : Method} {c : Code} {g : wG} {Q : State → Prop} {y : (Nat → Nat → Int32) × (Nat → Int64) × (Nat → UInt64)} (X : LX p l s m args c cL_silence 2 g)
    (fin : FN p l e rmD s m args below meth c g y Q 26 (ch_sil_35) 2 [(1, .int 4), (0, .ref (gA g 0))] 353 4830 545) : FN p l e rmD s m args below meth c g y Q 25 (ch_sil_34) 2 [(1, .int 4), (0, .ref (gA g 0))] 347 4799 528 := by
  intro S B H locs ls hV hw hr hl
  obtain ⟨n9, m9, ne9, n8, m8, hN, hN1, hev, hne, hne2⟩ := hV.cnt
  obtain ⟨he, hq, hz, hr⟩ := cC_e hr
  refine lv_aload_n X.1.1 X.1.2.1 dL_silence_528 rfl (lv_at hl 1 rfl) ?_
  refine lv_bipush (v := (nI 83)) X.1.1 X.1.2.1 dL_silence_529 (by decide +kernel) ?_
  refine lv_iconst (v := 1) X.1.1 X.1.2.1 dL_silence_531 (by decide) ?_
  refine k_newv (n := 1) (N := 1) X.1 X.2.2.1 hw q_ai (by decide) (by decide) (by decide) (Nat.le_of_ble_eq_true rfl) (Nat.le_of_ble_eq_true rfl) dL_silence_532 (fun b H hv => ?_)
  refine lv_dup X.1.1 X.1.2.1 dL_silence_534 rfl ?_
  refine lv_iconst (v := 0) X.1.1 X.1.2.1 dL_silence_535 (by decide) ?_
  refine lv_iconst (v := 0) X.1.1 X.1.2.1 dL_silence_536 (by decide) ?_
  refine k_vst (v := 0) (n := 0) X.1 X.2.2.1 hv (vp_in_nI (n := 0) (by decide) (by decide)) (by decide) dL_silence_537 (fun H locs hv => ?_)
  refine sN X (mA_takeSilence l g X.2.2.2 S B y (upd (fun _ => 0) 0 0) 0 rfl _ _ hN hev) hv hl dL_silence_538 ⟨Nat.le_of_ble_eq_true rfl, Nat.le_of_ble_eq_true rfl⟩ ⟨Nat.le_of_ble_eq_true rfl, Nat.le_of_ble_eq_true rfl⟩ he (fun H locs hw => ?_)
  have hV := hV.ev (by decide) (fa_takeSilence he) hz
  have hw := hw.nrmW
  refine vn_ (v9 := 3) (vIs_e hq) ?_
  refine lv_iconst (v := 3) X.1.1 X.1.2.1 dL_silence_541 (by decide) ?_
  refine lv_icmp_ne (tgt := 614) X.1.1 X.1.2.1 dL_silence_542 (by decide) (fun h9 => absurd rfl h9) (fun _ => ?_)
  refine W.widen (k := 353) (n := 4830) (Nat.le_of_ble_eq_true rfl) (Nat.le_of_ble_eq_true rfl) ?_
  exact fin _ _ _ _ _ hV hw hr hl
set_option maxHeartbeats 4000000 in
set_option maxRecDepth 100000 in
theorem w_sil_35 {p : Program} {l : Launch} {e : Env} {s : State} {m : MethodId} {args : Array Value} {below : List Frame} {meth : Method} {c : Code} {g : wG} {Q : State → Prop} {y : (Nat → Nat → Int32) × (Nat → Int64) × (Nat → UInt64)} (X : LX p l s m args c cL_silence 2 g)
    (fin : FN p l e rmD s m args below meth c g y Q 26 (ch_sil_36) 2 [(1, .int 4), (0, .ref (gA g 0))] 359 4861 562) : FN p l e rmD s m args below meth c g y Q 26 (ch_sil_35) 2 [(1, .int 4), (0, .ref (gA g 0))] 353 4830 545 := by
  intro S B H locs ls hV hw hr hl
  obtain ⟨n9, m9, ne9, n8, m8, hN, hN1, hev, hne, hne2⟩ := hV.cnt
  obtain ⟨he, hq, hr⟩ := cQ_e hr
  refine lv_aload_n X.1.1 X.1.2.1 dL_silence_545 rfl (lv_at hl 1 rfl) ?_
  refine lv_bipush (v := (nI 100)) X.1.1 X.1.2.1 dL_silence_546 (by decide +kernel) ?_
  refine lv_iconst (v := 1) X.1.1 X.1.2.1 dL_silence_548 (by decide) ?_
  refine k_newv (n := 1) (N := 1) X.1 X.2.2.1 hw q_ai (by decide) (by decide) (by decide) (Nat.le_of_ble_eq_true rfl) (Nat.le_of_ble_eq_true rfl) dL_silence_549 (fun b H hv => ?_)
  refine lv_dup X.1.1 X.1.2.1 dL_silence_551 rfl ?_
  refine lv_iconst (v := 0) X.1.1 X.1.2.1 dL_silence_552 (by decide) ?_
  refine lv_iconst (v := 0) X.1.1 X.1.2.1 dL_silence_553 (by decide) ?_
  refine k_vst (v := 0) (n := 0) X.1 X.2.2.1 hv (vp_in_nI (n := 0) (by decide) (by decide)) (by decide) dL_silence_554 (fun H locs hv => ?_)
  refine sN X (mA_days l g X.2.2.2 S B y (upd (fun _ => 0) 0 0) 0 rfl _ _ hN) hv hl dL_silence_555 ⟨Nat.le_of_ble_eq_true rfl, Nat.le_of_ble_eq_true rfl⟩ ⟨Nat.le_of_ble_eq_true rfl, Nat.le_of_ble_eq_true rfl⟩ he (fun H locs hw => ?_)
  refine vn_ (v9 := 1) (vIs_e hq) ?_
  refine lv_iconst (v := 1) X.1.1 X.1.2.1 dL_silence_558 (by decide) ?_
  refine lv_icmp_ne (tgt := 614) X.1.1 X.1.2.1 dL_silence_559 (by decide) (fun h9 => absurd rfl h9) (fun _ => ?_)
  refine W.widen (k := 359) (n := 4861) (Nat.le_of_ble_eq_true rfl) (Nat.le_of_ble_eq_true rfl) ?_
  exact fin _ _ _ _ _ hV hw hr hl
set_option maxHeartbeats 4000000 in
set_option maxRecDepth 100000 in
theorem w_sil_36 {p : Program} {l : Launch} {e : Env} {s : State} {m : MethodId} {args : Array Value} {below : List Frame} {meth : Method} {c : Code} {g : wG} {Q : State → Prop} {y : (Nat → Nat → Int32) × (Nat → Int64) × (Nat → UInt64)} (X : LX p l s m args c cL_silence 2 g)
    (fin : FN p l e rmD s m args below meth c g y Q 26 (ch_sil_37) 2 [(1, .int 4), (0, .ref (gA g 0))] 365 4892 579) : FN p l e rmD s m args below meth c g y Q 26 (ch_sil_36) 2 [(1, .int 4), (0, .ref (gA g 0))] 359 4861 562 := by
  intro S B H locs ls hV hw hr hl
  obtain ⟨n9, m9, ne9, n8, m8, hN, hN1, hev, hne, hne2⟩ := hV.cnt
  obtain ⟨he, hq, hr⟩ := cQ_e hr
  refine lv_aload_n X.1.1 X.1.2.1 dL_silence_562 rfl (lv_at hl 1 rfl) ?_
  refine lv_bipush (v := (nI 100)) X.1.1 X.1.2.1 dL_silence_563 (by decide +kernel) ?_
  refine lv_iconst (v := 1) X.1.1 X.1.2.1 dL_silence_565 (by decide) ?_
  refine k_newv (n := 1) (N := 1) X.1 X.2.2.1 hw q_ai (by decide) (by decide) (by decide) (Nat.le_of_ble_eq_true rfl) (Nat.le_of_ble_eq_true rfl) dL_silence_566 (fun b H hv => ?_)
  refine lv_dup X.1.1 X.1.2.1 dL_silence_568 rfl ?_
  refine lv_iconst (v := 0) X.1.1 X.1.2.1 dL_silence_569 (by decide) ?_
  refine lv_iconst (v := 1) X.1.1 X.1.2.1 dL_silence_570 (by decide) ?_
  refine k_vst (v := 1) (n := 0) X.1 X.2.2.1 hv (vp_in_nI (n := 0) (by decide) (by decide)) (by decide) dL_silence_571 (fun H locs hv => ?_)
  refine sN X (mA_days l g X.2.2.2 S B y (upd (fun _ => 0) 0 1) 1 rfl _ _ hN) hv hl dL_silence_572 ⟨Nat.le_of_ble_eq_true rfl, Nat.le_of_ble_eq_true rfl⟩ ⟨Nat.le_of_ble_eq_true rfl, Nat.le_of_ble_eq_true rfl⟩ he (fun H locs hw => ?_)
  refine vn_ (v9 := 1) (vIs_e hq) ?_
  refine lv_iconst (v := 1) X.1.1 X.1.2.1 dL_silence_575 (by decide) ?_
  refine lv_icmp_ne (tgt := 614) X.1.1 X.1.2.1 dL_silence_576 (by decide) (fun h9 => absurd rfl h9) (fun _ => ?_)
  refine W.widen (k := 365) (n := 4892) (Nat.le_of_ble_eq_true rfl) (Nat.le_of_ble_eq_true rfl) ?_
  exact fin _ _ _ _ _ hV hw hr hl
set_option maxHeartbeats 4000000 in
set_option maxRecDepth 100000 in
theorem w_sil_37 {p : Program} {l : Launch} {e : Env} {s : State} {m : MethodId} {args : Array Value} {below : List Frame} {meth : Method} {c : Code} {g : wG} {Q : State → Prop} {y : (Nat → Nat → Int32) × (Nat → Int64) × (Nat → UInt64)} (X : LX p l s m args c cL_silence 2 g)
    (fin : FN p l e rmD s m args below meth c g y Q 26 (ch_sil_38) 2 [(1, .int 4), (0, .ref (gA g 0))] 371 4923 596) : FN p l e rmD s m args below meth c g y Q 26 (ch_sil_37) 2 [(1, .int 4), (0, .ref (gA g 0))] 365 4892 579 := by
  intro S B H locs ls hV hw hr hl
  obtain ⟨n9, m9, ne9, n8, m8, hN, hN1, hev, hne, hne2⟩ := hV.cnt
  obtain ⟨he, hq, hr⟩ := cQ_e hr
  refine lv_aload_n X.1.1 X.1.2.1 dL_silence_579 rfl (lv_at hl 1 rfl) ?_
  refine lv_bipush (v := (nI 100)) X.1.1 X.1.2.1 dL_silence_580 (by decide +kernel) ?_
  refine lv_iconst (v := 1) X.1.1 X.1.2.1 dL_silence_582 (by decide) ?_
  refine k_newv (n := 1) (N := 1) X.1 X.2.2.1 hw q_ai (by decide) (by decide) (by decide) (Nat.le_of_ble_eq_true rfl) (Nat.le_of_ble_eq_true rfl) dL_silence_583 (fun b H hv => ?_)
  refine lv_dup X.1.1 X.1.2.1 dL_silence_585 rfl ?_
  refine lv_iconst (v := 0) X.1.1 X.1.2.1 dL_silence_586 (by decide) ?_
  refine lv_iconst (v := 2) X.1.1 X.1.2.1 dL_silence_587 (by decide) ?_
  refine k_vst (v := 2) (n := 0) X.1 X.2.2.1 hv (vp_in_nI (n := 0) (by decide) (by decide)) (by decide) dL_silence_588 (fun H locs hv => ?_)
  refine sN X (mA_days l g X.2.2.2 S B y (upd (fun _ => 0) 0 2) 2 rfl _ _ hN) hv hl dL_silence_589 ⟨Nat.le_of_ble_eq_true rfl, Nat.le_of_ble_eq_true rfl⟩ ⟨Nat.le_of_ble_eq_true rfl, Nat.le_of_ble_eq_true rfl⟩ he (fun H locs hw => ?_)
  refine vn_ (v9 := 3) (vIs_e hq) ?_
  refine lv_iconst (v := 3) X.1.1 X.1.2.1 dL_silence_592 (by decide) ?_
  refine lv_icmp_ne (tgt := 614) X.1.1 X.1.2.1 dL_silence_593 (by decide) (fun h9 => absurd rfl h9) (fun _ => ?_)
  refine W.widen (k := 371) (n := 4923) (Nat.le_of_ble_eq_true rfl) (Nat.le_of_ble_eq_true rfl) ?_
  exact fin _ _ _ _ _ hV hw hr hl
set_option maxHeartbeats 4000000 in
set_option maxRecDepth 100000 in
theorem w_sil_38 {p : Program} {l : Launch} {e : Env} {s : State} {m : MethodId} {args : Array Value} {below : List Frame} {meth : Method} {c : Code} {g : wG} {Q : State → Prop} {y : (Nat → Nat → Int32) × (Nat → Int64) × (Nat → UInt64)} (X : LX p l s m args c cL_silence 2 g)
    (fin : FN p l e rmD s m args below meth c g y Q 26 (ch_sil_39) 2 [(1, .int 4), (0, .ref (gA g 0))] 377 4954 616) : FN p l e rmD s m args below meth c g y Q 26 (ch_sil_38) 2 [(1, .int 4), (0, .ref (gA g 0))] 371 4923 596 := by
  intro S B H locs ls hV hw hr hl
  obtain ⟨n9, m9, ne9, n8, m8, hN, hN1, hev, hne, hne2⟩ := hV.cnt
  obtain ⟨he, hq, hr⟩ := cQ_e hr
  refine lv_aload_n X.1.1 X.1.2.1 dL_silence_596 rfl (lv_at hl 1 rfl) ?_
  refine lv_bipush (v := (nI 100)) X.1.1 X.1.2.1 dL_silence_597 (by decide +kernel) ?_
  refine lv_iconst (v := 1) X.1.1 X.1.2.1 dL_silence_599 (by decide) ?_
  refine k_newv (n := 1) (N := 1) X.1 X.2.2.1 hw q_ai (by decide) (by decide) (by decide) (Nat.le_of_ble_eq_true rfl) (Nat.le_of_ble_eq_true rfl) dL_silence_600 (fun b H hv => ?_)
  refine lv_dup X.1.1 X.1.2.1 dL_silence_602 rfl ?_
  refine lv_iconst (v := 0) X.1.1 X.1.2.1 dL_silence_603 (by decide) ?_
  refine lv_iconst (v := 3) X.1.1 X.1.2.1 dL_silence_604 (by decide) ?_
  refine k_vst (v := 3) (n := 0) X.1 X.2.2.1 hv (vp_in_nI (n := 0) (by decide) (by decide)) (by decide) dL_silence_605 (fun H locs hv => ?_)
  refine sN X (mA_days l g X.2.2.2 S B y (upd (fun _ => 0) 0 3) 3 rfl _ _ hN) hv hl dL_silence_606 ⟨Nat.le_of_ble_eq_true rfl, Nat.le_of_ble_eq_true rfl⟩ ⟨Nat.le_of_ble_eq_true rfl, Nat.le_of_ble_eq_true rfl⟩ he (fun H locs hw => ?_)
  refine vn_ (v9 := 27) (vIs_e hq) ?_
  refine lv_bipush (v := 27) X.1.1 X.1.2.1 dL_silence_609 (by decide +kernel) ?_
  refine lv_icmp_eq (tgt := 616) X.1.1 X.1.2.1 dL_silence_611 (by decide) (fun _ => ?_) (fun h9 => absurd rfl h9)
  refine W.widen (k := 377) (n := 4954) (Nat.le_of_ble_eq_true rfl) (Nat.le_of_ble_eq_true rfl) ?_
  exact fin _ _ _ _ _ hV hw hr hl
set_option maxHeartbeats 4000000 in
set_option maxRecDepth 100000 in
theorem w_sil_39 {p : Program} {l : Launch} {e : Env} {s : State} {m : MethodId} {args : Array Value} {below : List Frame} {meth : Method} {c : Code} {g : wG} {Q : State → Prop} {y : (Nat → Nat → Int32) × (Nat → Int64) × (Nat → UInt64)} (X : LX p l s m args c cL_silence 2 g)
    (fin : FN p l e rmD s m args below meth c g y Q 27 (ch_sil_40) 2 [(1, .int 4), (0, .ref (gA g 0))] 383 4986 637) : FN p l e rmD s m args below meth c g y Q 26 (ch_sil_39) 2 [(1, .int 4), (0, .ref (gA g 0))] 377 4954 616 := by
  intro S B H locs ls hV hw hr hl
  obtain ⟨n9, m9, ne9, n8, m8, hN, hN1, hev, hne, hne2⟩ := hV.cnt
  obtain ⟨he, hq, hz, hr⟩ := cC_e hr
  refine lv_aload_n X.1.1 X.1.2.1 dL_silence_616 rfl (lv_at hl 1 rfl) ?_
  refine lv_bipush (v := (nI 102)) X.1.1 X.1.2.1 dL_silence_617 (by decide +kernel) ?_
  refine lv_iconst (v := 2) X.1.1 X.1.2.1 dL_silence_619 (by decide) ?_
  refine k_newv (n := 2) (N := 2) X.1 X.2.2.1 hw q_ai (by decide) (by decide) (by decide) (Nat.le_of_ble_eq_true rfl) (Nat.le_of_ble_eq_true rfl) dL_silence_620 (fun b H hv => ?_)
  refine lv_dup X.1.1 X.1.2.1 dL_silence_622 rfl ?_
  refine lv_iconst (v := 0) X.1.1 X.1.2.1 dL_silence_623 (by decide) ?_
  refine lv_iconst (v := 0) X.1.1 X.1.2.1 dL_silence_624 (by decide) ?_
  refine k_vst (v := 0) (n := 0) X.1 X.2.2.1 hv (vp_in_nI (n := 0) (by decide) (by decide)) (by decide) dL_silence_625 (fun H locs hv => ?_)
  refine lv_dup X.1.1 X.1.2.1 dL_silence_626 rfl ?_
  refine lv_iconst (v := 1) X.1.1 X.1.2.1 dL_silence_627 (by decide) ?_
  refine lv_iconst (v := 0) X.1.1 X.1.2.1 dL_silence_628 (by decide) ?_
  refine k_vst (v := 0) (n := 1) X.1 X.2.2.1 hv (vp_in_nI (n := 1) (by decide) (by decide)) (by decide) dL_silence_629 (fun H locs hv => ?_)
  refine sN X (mA_find l g X.2.2.2 S B y (upd (upd (fun _ => 0) 0 0) 1 0) 0 0 rfl rfl _ _ hN hev) hv hl dL_silence_630 ⟨Nat.le_of_ble_eq_true rfl, Nat.le_of_ble_eq_true rfl⟩ ⟨Nat.le_of_ble_eq_true rfl, Nat.le_of_ble_eq_true rfl⟩ he (fun H locs hw => ?_)
  have hV := hV.ev (by decide) (fa_find he) hz
  have hw := hw.nrmW
  refine vn_ (v9 := 1) (vIs_e hq) ?_
  refine lv_iconst (v := 1) X.1.1 X.1.2.1 dL_silence_633 (by decide) ?_
  refine lv_icmp_ne (tgt := 959) X.1.1 X.1.2.1 dL_silence_634 (by decide) (fun h9 => absurd rfl h9) (fun _ => ?_)
  refine W.widen (k := 383) (n := 4986) (Nat.le_of_ble_eq_true rfl) (Nat.le_of_ble_eq_true rfl) ?_
  exact fin _ _ _ _ _ hV hw hr hl
set_option maxHeartbeats 4000000 in
set_option maxRecDepth 100000 in
theorem w_sil_40 {p : Program} {l : Launch} {e : Env} {s : State} {m : MethodId} {args : Array Value} {below : List Frame} {meth : Method} {c : Code} {g : wG} {Q : State → Prop} {y : (Nat → Nat → Int32) × (Nat → Int64) × (Nat → UInt64)} (X : LX p l s m args c cL_silence 2 g)
    (fin : FN p l e rmD s m args below meth c g y Q 27 (ch_sil_41) 2 [(1, .int 4), (0, .ref (gA g 0))] 389 5017 654) : FN p l e rmD s m args below meth c g y Q 27 (ch_sil_40) 2 [(1, .int 4), (0, .ref (gA g 0))] 383 4986 637 := by
  intro S B H locs ls hV hw hr hl
  obtain ⟨n9, m9, ne9, n8, m8, hN, hN1, hev, hne, hne2⟩ := hV.cnt
  obtain ⟨he, hq, hr⟩ := cQ_e hr
  refine lv_aload_n X.1.1 X.1.2.1 dL_silence_637 rfl (lv_at hl 1 rfl) ?_
  refine lv_bipush (v := (nI 104)) X.1.1 X.1.2.1 dL_silence_638 (by decide +kernel) ?_
  refine lv_iconst (v := 1) X.1.1 X.1.2.1 dL_silence_640 (by decide) ?_
  refine k_newv (n := 1) (N := 1) X.1 X.2.2.1 hw q_ai (by decide) (by decide) (by decide) (Nat.le_of_ble_eq_true rfl) (Nat.le_of_ble_eq_true rfl) dL_silence_641 (fun b H hv => ?_)
  refine lv_dup X.1.1 X.1.2.1 dL_silence_643 rfl ?_
  refine lv_iconst (v := 0) X.1.1 X.1.2.1 dL_silence_644 (by decide) ?_
  refine lv_iconst (v := 2) X.1.1 X.1.2.1 dL_silence_645 (by decide) ?_
  refine k_vst (v := 2) (n := 0) X.1 X.2.2.1 hv (vp_in_nI (n := 0) (by decide) (by decide)) (by decide) dL_silence_646 (fun H locs hv => ?_)
  refine sN X (mA_heads l g X.2.2.2 S B y (upd (fun _ => 0) 0 2) 2 rfl _ _ hN) hv hl dL_silence_647 ⟨Nat.le_of_ble_eq_true rfl, Nat.le_of_ble_eq_true rfl⟩ ⟨Nat.le_of_ble_eq_true rfl, Nat.le_of_ble_eq_true rfl⟩ he (fun H locs hw => ?_)
  refine vn_ (v9 := 1) (vIs_e hq) ?_
  refine lv_iconst (v := 1) X.1.1 X.1.2.1 dL_silence_650 (by decide) ?_
  refine lv_icmp_ne (tgt := 959) X.1.1 X.1.2.1 dL_silence_651 (by decide) (fun h9 => absurd rfl h9) (fun _ => ?_)
  refine W.widen (k := 389) (n := 5017) (Nat.le_of_ble_eq_true rfl) (Nat.le_of_ble_eq_true rfl) ?_
  exact fin _ _ _ _ _ hV hw hr hl
set_option maxHeartbeats 4000000 in
set_option maxRecDepth 100000 in
theorem w_sil_41 {p : Program} {l : Launch} {e : Env} {s : State} {m : MethodId} {args : Array Value} {below : List Frame} {meth : Method} {c : Code} {g : wG} {Q : State → Prop} {y : (Nat → Nat → Int32) × (Nat → Int64) × (Nat → UInt64)} (X : LX p l s m args c cL_silence 2 g)
    (fin : FN p l e rmD s m args below meth c g y Q 27 (ch_sil_42) 2 [(1, .int 4), (0, .ref (gA g 0))] 395 5048 671) : FN p l e rmD s m args below meth c g y Q 27 (ch_sil_41) 2 [(1, .int 4), (0, .ref (gA g 0))] 389 5017 654 := by
  intro S B H locs ls hV hw hr hl
  obtain ⟨n9, m9, ne9, n8, m8, hN, hN1, hev, hne, hne2⟩ := hV.cnt
  obtain ⟨he, hq, hr⟩ := cQ_e hr
  refine lv_aload_n X.1.1 X.1.2.1 dL_silence_654 rfl (lv_at hl 1 rfl) ?_
  refine lv_bipush (v := (nI 82)) X.1.1 X.1.2.1 dL_silence_655 (by decide +kernel) ?_
  refine lv_iconst (v := 1) X.1.1 X.1.2.1 dL_silence_657 (by decide) ?_
  refine k_newv (n := 1) (N := 1) X.1 X.2.2.1 hw q_ai (by decide) (by decide) (by decide) (Nat.le_of_ble_eq_true rfl) (Nat.le_of_ble_eq_true rfl) dL_silence_658 (fun b H hv => ?_)
  refine lv_dup X.1.1 X.1.2.1 dL_silence_660 rfl ?_
  refine lv_iconst (v := 0) X.1.1 X.1.2.1 dL_silence_661 (by decide) ?_
  refine lv_iconst (v := 1) X.1.1 X.1.2.1 dL_silence_662 (by decide) ?_
  refine k_vst (v := 1) (n := 0) X.1 X.2.2.1 hv (vp_in_nI (n := 0) (by decide) (by decide)) (by decide) dL_silence_663 (fun H locs hv => ?_)
  refine sN X (mA_remedy l g X.2.2.2 S B y (upd (fun _ => 0) 0 1) 1 rfl _ _ hN) hv hl dL_silence_664 ⟨Nat.le_of_ble_eq_true rfl, Nat.le_of_ble_eq_true rfl⟩ ⟨Nat.le_of_ble_eq_true rfl, Nat.le_of_ble_eq_true rfl⟩ he (fun H locs hw => ?_)
  refine vn_ (v9 := 1) (vIs_e hq) ?_
  refine lv_iconst (v := 1) X.1.1 X.1.2.1 dL_silence_667 (by decide) ?_
  refine lv_icmp_ne (tgt := 959) X.1.1 X.1.2.1 dL_silence_668 (by decide) (fun h9 => absurd rfl h9) (fun _ => ?_)
  refine W.widen (k := 395) (n := 5048) (Nat.le_of_ble_eq_true rfl) (Nat.le_of_ble_eq_true rfl) ?_
  exact fin _ _ _ _ _ hV hw hr hl
set_option maxHeartbeats 4000000 in
set_option maxRecDepth 100000 in
theorem w_sil_42 {p : Program} {l : Launch} {e : Env} {s : State} {m : MethodId} {args : Array Value} {below : List Frame} {meth : Method} {c : Code} {g : wG} {Q : State → Prop} {y : (Nat → Nat → Int32) × (Nat → Int64) × (Nat → UInt64)} (X : LX p l s m args c cL_silence 2 g)
    (fin : FN p l e rmD s m args below meth c g y Q 27 (ch_sil_43) 2 [(1, .int 4), (0, .ref (gA g 0))] 401 5079 689) : FN p l e rmD s m args below meth c g y Q 27 (ch_sil_42) 2 [(1, .int 4), (0, .ref (gA g 0))] 395 5048 671 := by
  intro S B H locs ls hV hw hr hl
  obtain ⟨n9, m9, ne9, n8, m8, hN, hN1, hev, hne, hne2⟩ := hV.cnt
  obtain ⟨he, hr⟩ := cX_e hr
  refine lv_aload_n X.1.1 X.1.2.1 dL_silence_671 rfl (lv_at hl 1 rfl) ?_
  refine lv_bipush (v := (nI 113)) X.1.1 X.1.2.1 dL_silence_672 (by decide +kernel) ?_
  refine lv_iconst (v := 1) X.1.1 X.1.2.1 dL_silence_674 (by decide) ?_
  refine k_newv (n := 1) (N := 1) X.1 X.2.2.1 hw q_ai (by decide) (by decide) (by decide) (Nat.le_of_ble_eq_true rfl) (Nat.le_of_ble_eq_true rfl) dL_silence_675 (fun b H hv => ?_)
  refine lv_dup X.1.1 X.1.2.1 dL_silence_677 rfl ?_
  refine lv_iconst (v := 0) X.1.1 X.1.2.1 dL_silence_678 (by decide) ?_
  refine lv_iconst (v := 1) X.1.1 X.1.2.1 dL_silence_679 (by decide) ?_
  refine k_vst (v := 1) (n := 0) X.1 X.2.2.1 hv (vp_in_nI (n := 0) (by decide) (by decide)) (by decide) dL_silence_680 (fun H locs hv => ?_)
  refine sX X (mA_part l g X.2.2.2 S B y (upd (fun _ => 0) 0 1) 1 rfl _ _ hN hev) hv hl dL_silence_681 ⟨Nat.le_of_ble_eq_true rfl, Nat.le_of_ble_eq_true rfl⟩ ⟨Nat.le_of_ble_eq_true rfl, Nat.le_of_ble_eq_true rfl⟩ he kX_4 (fun H locs hw => ?_)
  refine lv_ldc (v := (-2000000004)) X.1.1 X.1.2.1 X.1.2.2.1 (X.1.2.2.2 _ q904) dL_silence_684 ?_
  refine lv_icmp_ne (tgt := 959) X.1.1 X.1.2.1 dL_silence_686 (by decide) (fun h9 => absurd rfl h9) (fun _ => ?_)
  refine W.widen (k := 401) (n := 5079) (Nat.le_of_ble_eq_true rfl) (Nat.le_of_ble_eq_true rfl) ?_
  exact fin _ _ _ _ _ hV hw hr hl
set_option maxHeartbeats 4000000 in
set_option maxRecDepth 100000 in
theorem w_sil_43 {p : Program} {l : Launch} {e : Env} {s : State} {m : MethodId} {args : Array Value} {below : List Frame} {meth : Method} {c : Code} {g : wG} {Q : State → Prop} {y : (Nat → Nat → Int32) × (Nat → Int64) × (Nat → UInt64)} (X : LX p l s m args c cL_silence 2 g)
    (fin : FN p l e rmD s m args below meth c g y Q 27 (ch_sil_44) 2 [(1, .int 4), (0, .ref (gA g 0))] 407 5110 707) : FN p l e rmD s m args below meth c g y Q 27 (ch_sil_43) 2 [(1, .int 4), (0, .ref (gA g 0))] 401 5079 689 := by
  intro S B H locs ls hV hw hr hl
  obtain ⟨n9, m9, ne9, n8, m8, hN, hN1, hev, hne, hne2⟩ := hV.cnt
  obtain ⟨he, hr⟩ := cX_e hr
  refine lv_aload_n X.1.1 X.1.2.1 dL_silence_689 rfl (lv_at hl 1 rfl) ?_
  refine lv_bipush (v := (nI 72)) X.1.1 X.1.2.1 dL_silence_690 (by decide +kernel) ?_
  refine lv_iconst (v := 1) X.1.1 X.1.2.1 dL_silence_692 (by decide) ?_
  refine k_newv (n := 1) (N := 1) X.1 X.2.2.1 hw q_ai (by decide) (by decide) (by decide) (Nat.le_of_ble_eq_true rfl) (Nat.le_of_ble_eq_true rfl) dL_silence_693 (fun b H hv => ?_)
  refine lv_dup X.1.1 X.1.2.1 dL_silence_695 rfl ?_
  refine lv_iconst (v := 0) X.1.1 X.1.2.1 dL_silence_696 (by decide) ?_
  refine lv_iconst (v := 2) X.1.1 X.1.2.1 dL_silence_697 (by decide) ?_
  refine k_vst (v := 2) (n := 0) X.1 X.2.2.1 hv (vp_in_nI (n := 0) (by decide) (by decide)) (by decide) dL_silence_698 (fun H locs hv => ?_)
  refine sX X (mA_heed l g X.2.2.2 S B y (upd (fun _ => 0) 0 2) 2 rfl _ _ hN hev) hv hl dL_silence_699 ⟨Nat.le_of_ble_eq_true rfl, Nat.le_of_ble_eq_true rfl⟩ ⟨Nat.le_of_ble_eq_true rfl, Nat.le_of_ble_eq_true rfl⟩ he kX_4 (fun H locs hw => ?_)
  refine lv_ldc (v := (-2000000004)) X.1.1 X.1.2.1 X.1.2.2.1 (X.1.2.2.2 _ q904) dL_silence_702 ?_
  refine lv_icmp_ne (tgt := 959) X.1.1 X.1.2.1 dL_silence_704 (by decide) (fun h9 => absurd rfl h9) (fun _ => ?_)
  refine W.widen (k := 407) (n := 5110) (Nat.le_of_ble_eq_true rfl) (Nat.le_of_ble_eq_true rfl) ?_
  exact fin _ _ _ _ _ hV hw hr hl
set_option maxHeartbeats 4000000 in
set_option maxRecDepth 100000 in
theorem w_sil_44 {p : Program} {l : Launch} {e : Env} {s : State} {m : MethodId} {args : Array Value} {below : List Frame} {meth : Method} {c : Code} {g : wG} {Q : State → Prop} {y : (Nat → Nat → Int32) × (Nat → Int64) × (Nat → UInt64)} (X : LX p l s m args c cL_silence 2 g)
    (fin : FN p l e rmD s m args below meth c g y Q 27 (ch_sil_45) 2 [(1, .int 4), (0, .ref (gA g 0))] 413 5141 725) : FN p l e rmD s m args below meth c g y Q 27 (ch_sil_44) 2 [(1, .int 4), (0, .ref (gA g 0))] 407 5110 707 := by
  intro S B H locs ls hV hw hr hl
  obtain ⟨n9, m9, ne9, n8, m8, hN, hN1, hev, hne, hne2⟩ := hV.cnt
  obtain ⟨he, hr⟩ := cX_e hr
  refine lv_aload_n X.1.1 X.1.2.1 dL_silence_707 rfl (lv_at hl 1 rfl) ?_
  refine lv_bipush (v := (nI 87)) X.1.1 X.1.2.1 dL_silence_708 (by decide +kernel) ?_
  refine lv_iconst (v := 1) X.1.1 X.1.2.1 dL_silence_710 (by decide) ?_
  refine k_newv (n := 1) (N := 1) X.1 X.2.2.1 hw q_ai (by decide) (by decide) (by decide) (Nat.le_of_ble_eq_true rfl) (Nat.le_of_ble_eq_true rfl) dL_silence_711 (fun b H hv => ?_)
  refine lv_dup X.1.1 X.1.2.1 dL_silence_713 rfl ?_
  refine lv_iconst (v := 0) X.1.1 X.1.2.1 dL_silence_714 (by decide) ?_
  refine lv_iconst (v := 1) X.1.1 X.1.2.1 dL_silence_715 (by decide) ?_
  refine k_vst (v := 1) (n := 0) X.1 X.2.2.1 hv (vp_in_nI (n := 0) (by decide) (by decide)) (by decide) dL_silence_716 (fun H locs hv => ?_)
  refine sX X (mA_withdraw l g X.2.2.2 S B y (upd (fun _ => 0) 0 1) 1 rfl _ _ hN hev) hv hl dL_silence_717 ⟨Nat.le_of_ble_eq_true rfl, Nat.le_of_ble_eq_true rfl⟩ ⟨Nat.le_of_ble_eq_true rfl, Nat.le_of_ble_eq_true rfl⟩ he kX_4 (fun H locs hw => ?_)
  refine lv_ldc (v := (-2000000004)) X.1.1 X.1.2.1 X.1.2.2.1 (X.1.2.2.2 _ q904) dL_silence_720 ?_
  refine lv_icmp_ne (tgt := 959) X.1.1 X.1.2.1 dL_silence_722 (by decide) (fun h9 => absurd rfl h9) (fun _ => ?_)
  refine W.widen (k := 413) (n := 5141) (Nat.le_of_ble_eq_true rfl) (Nat.le_of_ble_eq_true rfl) ?_
  exact fin _ _ _ _ _ hV hw hr hl
set_option maxHeartbeats 4000000 in
set_option maxRecDepth 100000 in
theorem w_sil_45 {p : Program} {l : Launch} {e : Env} {s : State} {m : MethodId} {args : Array Value} {below : List Frame} {meth : Method} {c : Code} {g : wG} {Q : State → Prop} {y : (Nat → Nat → Int32) × (Nat → Int64) × (Nat → UInt64)} (X : LX p l s m args c cL_silence 2 g)
    (fin : FN p l e rmD s m args below meth c g y Q 27 (ch_sil_46) 2 [(1, .int 4), (0, .ref (gA g 0))] 419 5172 743) : FN p l e rmD s m args below meth c g y Q 27 (ch_sil_45) 2 [(1, .int 4), (0, .ref (gA g 0))] 413 5141 725 := by
  intro S B H locs ls hV hw hr hl
  obtain ⟨n9, m9, ne9, n8, m8, hN, hN1, hev, hne, hne2⟩ := hV.cnt
  obtain ⟨he, hq, hr⟩ := cQ_e hr
  refine lv_aload_n X.1.1 X.1.2.1 dL_silence_725 rfl (lv_at hl 1 rfl) ?_
  refine lv_bipush (v := (nI 78)) X.1.1 X.1.2.1 dL_silence_726 (by decide +kernel) ?_
  refine lv_iconst (v := 1) X.1.1 X.1.2.1 dL_silence_728 (by decide) ?_
  refine k_newv (n := 1) (N := 1) X.1 X.2.2.1 hw q_ai (by decide) (by decide) (by decide) (Nat.le_of_ble_eq_true rfl) (Nat.le_of_ble_eq_true rfl) dL_silence_729 (fun b H hv => ?_)
  refine lv_dup X.1.1 X.1.2.1 dL_silence_731 rfl ?_
  refine lv_iconst (v := 0) X.1.1 X.1.2.1 dL_silence_732 (by decide) ?_
  refine lv_bipush (v := 100) X.1.1 X.1.2.1 dL_silence_733 (by decide +kernel) ?_
  refine k_vst (v := 100) (n := 0) X.1 X.2.2.1 hv (vp_in_nI (n := 0) (by decide) (by decide)) (by decide) dL_silence_735 (fun H locs hv => ?_)
  refine sN X (mA_countState l g X.2.2.2 S B y (upd (fun _ => 0) 0 100) 100 rfl _ _ hN) hv hl dL_silence_736 ⟨Nat.le_of_ble_eq_true rfl, Nat.le_of_ble_eq_true rfl⟩ ⟨Nat.le_of_ble_eq_true rfl, Nat.le_of_ble_eq_true rfl⟩ he (fun H locs hw => ?_)
  refine vn_ (v9 := 3) (vIs_e hq) ?_
  refine lv_iconst (v := 3) X.1.1 X.1.2.1 dL_silence_739 (by decide) ?_
  refine lv_icmp_ne (tgt := 959) X.1.1 X.1.2.1 dL_silence_740 (by decide) (fun h9 => absurd rfl h9) (fun _ => ?_)
  refine W.widen (k := 419) (n := 5172) (Nat.le_of_ble_eq_true rfl) (Nat.le_of_ble_eq_true rfl) ?_
  exact fin _ _ _ _ _ hV hw hr hl
set_option maxHeartbeats 4000000 in
set_option maxRecDepth 100000 in
theorem w_sil_46 {p : Program} {l : Launch} {e : Env} {s : State} {m : MethodId} {args : Array Value} {below : List Frame} {meth : Method} {c : Code} {g : wG} {Q : State → Prop} {y : (Nat → Nat → Int32) × (Nat → Int64) × (Nat → UInt64)} (X : LX p l s m args c cL_silence 2 g)
    (fin : FN p l e rmD s m args below meth c g y Q 28 (ch_sil_47) 2 [(1, .int 4), (0, .ref (gA g 0))] 425 5203 760) : FN p l e rmD s m args below meth c g y Q 27 (ch_sil_46) 2 [(1, .int 4), (0, .ref (gA g 0))] 419 5172 743 := by
  intro S B H locs ls hV hw hr hl
  obtain ⟨n9, m9, ne9, n8, m8, hN, hN1, hev, hne, hne2⟩ := hV.cnt
  obtain ⟨he, hq, hz, hr⟩ := cC_e hr
  refine lv_aload_n X.1.1 X.1.2.1 dL_silence_743 rfl (lv_at hl 1 rfl) ?_
  refine lv_bipush (v := (nI 87)) X.1.1 X.1.2.1 dL_silence_744 (by decide +kernel) ?_
  refine lv_iconst (v := 1) X.1.1 X.1.2.1 dL_silence_746 (by decide) ?_
  refine k_newv (n := 1) (N := 1) X.1 X.2.2.1 hw q_ai (by decide) (by decide) (by decide) (Nat.le_of_ble_eq_true rfl) (Nat.le_of_ble_eq_true rfl) dL_silence_747 (fun b H hv => ?_)
  refine lv_dup X.1.1 X.1.2.1 dL_silence_749 rfl ?_
  refine lv_iconst (v := 0) X.1.1 X.1.2.1 dL_silence_750 (by decide) ?_
  refine lv_iconst (v := 0) X.1.1 X.1.2.1 dL_silence_751 (by decide) ?_
  refine k_vst (v := 0) (n := 0) X.1 X.2.2.1 hv (vp_in_nI (n := 0) (by decide) (by decide)) (by decide) dL_silence_752 (fun H locs hv => ?_)
  refine sN X (mA_withdraw l g X.2.2.2 S B y (upd (fun _ => 0) 0 0) 0 rfl _ _ hN hev) hv hl dL_silence_753 ⟨Nat.le_of_ble_eq_true rfl, Nat.le_of_ble_eq_true rfl⟩ ⟨Nat.le_of_ble_eq_true rfl, Nat.le_of_ble_eq_true rfl⟩ he (fun H locs hw => ?_)
  have hV := hV.ev (by decide) (fa_withdraw he) hz
  have hw := hw.nrmW
  refine vn_ (v9 := 2) (vIs_e hq) ?_
  refine lv_iconst (v := 2) X.1.1 X.1.2.1 dL_silence_756 (by decide) ?_
  refine lv_icmp_ne (tgt := 959) X.1.1 X.1.2.1 dL_silence_757 (by decide) (fun h9 => absurd rfl h9) (fun _ => ?_)
  refine W.widen (k := 425) (n := 5203) (Nat.le_of_ble_eq_true rfl) (Nat.le_of_ble_eq_true rfl) ?_
  exact fin _ _ _ _ _ hV hw hr hl
set_option maxHeartbeats 4000000 in
set_option maxRecDepth 100000 in
theorem w_sil_47 {p : Program} {l : Launch} {e : Env} {s : State} {m : MethodId} {args : Array Value} {below : List Frame} {meth : Method} {c : Code} {g : wG} {Q : State → Prop} {y : (Nat → Nat → Int32) × (Nat → Int64) × (Nat → UInt64)} (X : LX p l s m args c cL_silence 2 g)
    (fin : FN p l e rmD s m args below meth c g y Q 28 (ch_sil_48) 2 [(1, .int 4), (0, .ref (gA g 0))] 431 5234 778) : FN p l e rmD s m args below meth c g y Q 28 (ch_sil_47) 2 [(1, .int 4), (0, .ref (gA g 0))] 425 5203 760 := by
  intro S B H locs ls hV hw hr hl
  obtain ⟨n9, m9, ne9, n8, m8, hN, hN1, hev, hne, hne2⟩ := hV.cnt
  obtain ⟨he, hq, hr⟩ := cQ_e hr
  refine lv_aload_n X.1.1 X.1.2.1 dL_silence_760 rfl (lv_at hl 1 rfl) ?_
  refine lv_bipush (v := (nI 115)) X.1.1 X.1.2.1 dL_silence_761 (by decide +kernel) ?_
  refine lv_iconst (v := 1) X.1.1 X.1.2.1 dL_silence_763 (by decide) ?_
  refine k_newv (n := 1) (N := 1) X.1 X.2.2.1 hw q_ai (by decide) (by decide) (by decide) (Nat.le_of_ble_eq_true rfl) (Nat.le_of_ble_eq_true rfl) dL_silence_764 (fun b H hv => ?_)
  refine lv_dup X.1.1 X.1.2.1 dL_silence_766 rfl ?_
  refine lv_iconst (v := 0) X.1.1 X.1.2.1 dL_silence_767 (by decide) ?_
  refine lv_iconst (v := 1) X.1.1 X.1.2.1 dL_silence_768 (by decide) ?_
  refine k_vst (v := 1) (n := 0) X.1 X.2.2.1 hv (vp_in_nI (n := 0) (by decide) (by decide)) (by decide) dL_silence_769 (fun H locs hv => ?_)
  refine sN X (mA_state l g X.2.2.2 S B y (upd (fun _ => 0) 0 1) 1 rfl _ _ hN) hv hl dL_silence_770 ⟨Nat.le_of_ble_eq_true rfl, Nat.le_of_ble_eq_true rfl⟩ ⟨Nat.le_of_ble_eq_true rfl, Nat.le_of_ble_eq_true rfl⟩ he (fun H locs hw => ?_)
  refine vn_ (v9 := 114) (vIs_e hq) ?_
  refine lv_bipush (v := 114) X.1.1 X.1.2.1 dL_silence_773 (by decide +kernel) ?_
  refine lv_icmp_ne (tgt := 959) X.1.1 X.1.2.1 dL_silence_775 (by decide) (fun h9 => absurd rfl h9) (fun _ => ?_)
  refine W.widen (k := 431) (n := 5234) (Nat.le_of_ble_eq_true rfl) (Nat.le_of_ble_eq_true rfl) ?_
  exact fin _ _ _ _ _ hV hw hr hl
set_option maxHeartbeats 4000000 in
set_option maxRecDepth 100000 in
theorem w_sil_48 {p : Program} {l : Launch} {e : Env} {s : State} {m : MethodId} {args : Array Value} {below : List Frame} {meth : Method} {c : Code} {g : wG} {Q : State → Prop} {y : (Nat → Nat → Int32) × (Nat → Int64) × (Nat → UInt64)} (X : LX p l s m args c cL_silence 2 g)
    (fin : FN p l e rmD s m args below meth c g y Q 28 (ch_sil_49) 2 [(1, .int 4), (0, .ref (gA g 0))] 437 5265 796) : FN p l e rmD s m args below meth c g y Q 28 (ch_sil_48) 2 [(1, .int 4), (0, .ref (gA g 0))] 431 5234 778 := by
  intro S B H locs ls hV hw hr hl
  obtain ⟨n9, m9, ne9, n8, m8, hN, hN1, hev, hne, hne2⟩ := hV.cnt
  obtain ⟨he, hr⟩ := cX_e hr
  refine lv_aload_n X.1.1 X.1.2.1 dL_silence_778 rfl (lv_at hl 1 rfl) ?_
  refine lv_bipush (v := (nI 104)) X.1.1 X.1.2.1 dL_silence_779 (by decide +kernel) ?_
  refine lv_iconst (v := 1) X.1.1 X.1.2.1 dL_silence_781 (by decide) ?_
  refine k_newv (n := 1) (N := 1) X.1 X.2.2.1 hw q_ai (by decide) (by decide) (by decide) (Nat.le_of_ble_eq_true rfl) (Nat.le_of_ble_eq_true rfl) dL_silence_782 (fun b H hv => ?_)
  refine lv_dup X.1.1 X.1.2.1 dL_silence_784 rfl ?_
  refine lv_iconst (v := 0) X.1.1 X.1.2.1 dL_silence_785 (by decide) ?_
  refine lv_iconst (v := 1) X.1.1 X.1.2.1 dL_silence_786 (by decide) ?_
  refine k_vst (v := 1) (n := 0) X.1 X.2.2.1 hv (vp_in_nI (n := 0) (by decide) (by decide)) (by decide) dL_silence_787 (fun H locs hv => ?_)
  refine sX X (mA_heads l g X.2.2.2 S B y (upd (fun _ => 0) 0 1) 1 rfl _ _ hN) hv hl dL_silence_788 ⟨Nat.le_of_ble_eq_true rfl, Nat.le_of_ble_eq_true rfl⟩ ⟨Nat.le_of_ble_eq_true rfl, Nat.le_of_ble_eq_true rfl⟩ he kX_5 (fun H locs hw => ?_)
  refine lv_ldc (v := (-2000000005)) X.1.1 X.1.2.1 X.1.2.2.1 (X.1.2.2.2 _ q905) dL_silence_791 ?_
  refine lv_icmp_ne (tgt := 959) X.1.1 X.1.2.1 dL_silence_793 (by decide) (fun h9 => absurd rfl h9) (fun _ => ?_)
  refine W.widen (k := 437) (n := 5265) (Nat.le_of_ble_eq_true rfl) (Nat.le_of_ble_eq_true rfl) ?_
  exact fin _ _ _ _ _ hV hw hr hl
set_option maxHeartbeats 4000000 in
set_option maxRecDepth 100000 in
theorem w_sil_49 {p : Program} {l : Launch} {e : Env} {s : State} {m : MethodId} {args : Array Value} {below : List Frame} {meth : Method} {c : Code} {g : wG} {Q : State → Prop} {y : (Nat → Nat → Int32) × (Nat → Int64) × (Nat → UInt64)} (X : LX p l s m args c cL_silence 2 g)
    (fin : FN p l e rmD s m args below meth c g y Q 28 (ch_sil_50) 2 [(1, .int 4), (0, .ref (gA g 0))] 443 5296 813) : FN p l e rmD s m args below meth c g y Q 28 (ch_sil_49) 2 [(1, .int 4), (0, .ref (gA g 0))] 437 5265 796 := by
  intro S B H locs ls hV hw hr hl
  obtain ⟨n9, m9, ne9, n8, m8, hN, hN1, hev, hne, hne2⟩ := hV.cnt
  obtain ⟨he, hq, hr⟩ := cQ_e hr
  refine lv_aload_n X.1.1 X.1.2.1 dL_silence_796 rfl (lv_at hl 1 rfl) ?_
  refine lv_bipush (v := (nI 104)) X.1.1 X.1.2.1 dL_silence_797 (by decide +kernel) ?_
  refine lv_iconst (v := 1) X.1.1 X.1.2.1 dL_silence_799 (by decide) ?_
  refine k_newv (n := 1) (N := 1) X.1 X.2.2.1 hw q_ai (by decide) (by decide) (by decide) (Nat.le_of_ble_eq_true rfl) (Nat.le_of_ble_eq_true rfl) dL_silence_800 (fun b H hv => ?_)
  refine lv_dup X.1.1 X.1.2.1 dL_silence_802 rfl ?_
  refine lv_iconst (v := 0) X.1.1 X.1.2.1 dL_silence_803 (by decide) ?_
  refine lv_iconst (v := 0) X.1.1 X.1.2.1 dL_silence_804 (by decide) ?_
  refine k_vst (v := 0) (n := 0) X.1 X.2.2.1 hv (vp_in_nI (n := 0) (by decide) (by decide)) (by decide) dL_silence_805 (fun H locs hv => ?_)
  refine sN X (mA_heads l g X.2.2.2 S B y (upd (fun _ => 0) 0 0) 0 rfl _ _ hN) hv hl dL_silence_806 ⟨Nat.le_of_ble_eq_true rfl, Nat.le_of_ble_eq_true rfl⟩ ⟨Nat.le_of_ble_eq_true rfl, Nat.le_of_ble_eq_true rfl⟩ he (fun H locs hw => ?_)
  refine vn_ (v9 := 1) (vIs_e hq) ?_
  refine lv_iconst (v := 1) X.1.1 X.1.2.1 dL_silence_809 (by decide) ?_
  refine lv_icmp_ne (tgt := 959) X.1.1 X.1.2.1 dL_silence_810 (by decide) (fun h9 => absurd rfl h9) (fun _ => ?_)
  refine W.widen (k := 443) (n := 5296) (Nat.le_of_ble_eq_true rfl) (Nat.le_of_ble_eq_true rfl) ?_
  exact fin _ _ _ _ _ hV hw hr hl
set_option maxHeartbeats 4000000 in
set_option maxRecDepth 100000 in
theorem w_sil_50 {p : Program} {l : Launch} {e : Env} {s : State} {m : MethodId} {args : Array Value} {below : List Frame} {meth : Method} {c : Code} {g : wG} {Q : State → Prop} {y : (Nat → Nat → Int32) × (Nat → Int64) × (Nat → UInt64)} (X : LX p l s m args c cL_silence 2 g)
    (fin : FN p l e rmD s m args below meth c g y Q 28 (ch_sil_51) 2 [(1, .int 4), (0, .ref (gA g 0))] 449 5327 830) : FN p l e rmD s m args below meth c g y Q 28 (ch_sil_50) 2 [(1, .int 4), (0, .ref (gA g 0))] 443 5296 813 := by
  intro S B H locs ls hV hw hr hl
  obtain ⟨n9, m9, ne9, n8, m8, hN, hN1, hev, hne, hne2⟩ := hV.cnt
  obtain ⟨he, hq, hr⟩ := cQ_e hr
  refine lv_aload_n X.1.1 X.1.2.1 dL_silence_813 rfl (lv_at hl 1 rfl) ?_
  refine lv_bipush (v := (nI 108)) X.1.1 X.1.2.1 dL_silence_814 (by decide +kernel) ?_
  refine lv_iconst (v := 1) X.1.1 X.1.2.1 dL_silence_816 (by decide) ?_
  refine k_newv (n := 1) (N := 1) X.1 X.2.2.1 hw q_ai (by decide) (by decide) (by decide) (Nat.le_of_ble_eq_true rfl) (Nat.le_of_ble_eq_true rfl) dL_silence_817 (fun b H hv => ?_)
  refine lv_dup X.1.1 X.1.2.1 dL_silence_819 rfl ?_
  refine lv_iconst (v := 0) X.1.1 X.1.2.1 dL_silence_820 (by decide) ?_
  refine lv_iconst (v := 2) X.1.1 X.1.2.1 dL_silence_821 (by decide) ?_
  refine k_vst (v := 2) (n := 0) X.1 X.2.2.1 hv (vp_in_nI (n := 0) (by decide) (by decide)) (by decide) dL_silence_822 (fun H locs hv => ?_)
  refine sN X (mA_lead l g X.2.2.2 S B y (upd (fun _ => 0) 0 2) 2 rfl _ _ hN) hv hl dL_silence_823 ⟨Nat.le_of_ble_eq_true rfl, Nat.le_of_ble_eq_true rfl⟩ ⟨Nat.le_of_ble_eq_true rfl, Nat.le_of_ble_eq_true rfl⟩ he (fun H locs hw => ?_)
  refine vn_ (v9 := 2) (vIs_e hq) ?_
  refine lv_iconst (v := 2) X.1.1 X.1.2.1 dL_silence_826 (by decide) ?_
  refine lv_icmp_ne (tgt := 959) X.1.1 X.1.2.1 dL_silence_827 (by decide) (fun h9 => absurd rfl h9) (fun _ => ?_)
  refine W.widen (k := 449) (n := 5327) (Nat.le_of_ble_eq_true rfl) (Nat.le_of_ble_eq_true rfl) ?_
  exact fin _ _ _ _ _ hV hw hr hl
set_option maxHeartbeats 4000000 in
set_option maxRecDepth 100000 in
theorem w_sil_51 {p : Program} {l : Launch} {e : Env} {s : State} {m : MethodId} {args : Array Value} {below : List Frame} {meth : Method} {c : Code} {g : wG} {Q : State → Prop} {y : (Nat → Nat → Int32) × (Nat → Int64) × (Nat → UInt64)} (X : LX p l s m args c cL_silence 2 g)
    (fin : FN p l e rmD s m args below meth c g y Q 29 (ch_sil_52) 2 [(1, .int 4), (0, .ref (gA g 0))] 455 5359 851) : FN p l e rmD s m args below meth c g y Q 28 (ch_sil_51) 2 [(1, .int 4), (0, .ref (gA g 0))] 449 5327 830 := by
  intro S B H locs ls hV hw hr hl
  obtain ⟨n9, m9, ne9, n8, m8, hN, hN1, hev, hne, hne2⟩ := hV.cnt
  obtain ⟨he, hq, hz, hr⟩ := cC_e hr
  refine lv_aload_n X.1.1 X.1.2.1 dL_silence_830 rfl (lv_at hl 1 rfl) ?_
  refine lv_bipush (v := (nI 106)) X.1.1 X.1.2.1 dL_silence_831 (by decide +kernel) ?_
  refine lv_iconst (v := 2) X.1.1 X.1.2.1 dL_silence_833 (by decide) ?_
  refine k_newv (n := 2) (N := 2) X.1 X.2.2.1 hw q_ai (by decide) (by decide) (by decide) (Nat.le_of_ble_eq_true rfl) (Nat.le_of_ble_eq_true rfl) dL_silence_834 (fun b H hv => ?_)
  refine lv_dup X.1.1 X.1.2.1 dL_silence_836 rfl ?_
  refine lv_iconst (v := 0) X.1.1 X.1.2.1 dL_silence_837 (by decide) ?_
  refine lv_iconst (v := 1) X.1.1 X.1.2.1 dL_silence_838 (by decide) ?_
  refine k_vst (v := 1) (n := 0) X.1 X.2.2.1 hv (vp_in_nI (n := 0) (by decide) (by decide)) (by decide) dL_silence_839 (fun H locs hv => ?_)
  refine lv_dup X.1.1 X.1.2.1 dL_silence_840 rfl ?_
  refine lv_iconst (v := 1) X.1.1 X.1.2.1 dL_silence_841 (by decide) ?_
  refine lv_iconst (v := 2) X.1.1 X.1.2.1 dL_silence_842 (by decide) ?_
  refine k_vst (v := 2) (n := 1) X.1 X.2.2.1 hv (vp_in_nI (n := 1) (by decide) (by decide)) (by decide) dL_silence_843 (fun H locs hv => ?_)
  refine sN X (mA_join l g X.2.2.2 S B y (upd (upd (fun _ => 0) 0 1) 1 2) 1 2 rfl rfl _ _ hN hev) hv hl dL_silence_844 ⟨Nat.le_of_ble_eq_true rfl, Nat.le_of_ble_eq_true rfl⟩ ⟨Nat.le_of_ble_eq_true rfl, Nat.le_of_ble_eq_true rfl⟩ he (fun H locs hw => ?_)
  have hV := hV.ev (by decide) (fa_join he) hz
  have hw := hw.nrmW
  refine vn_ (v9 := 1) (vIs_e hq) ?_
  refine lv_iconst (v := 1) X.1.1 X.1.2.1 dL_silence_847 (by decide) ?_
  refine lv_icmp_ne (tgt := 959) X.1.1 X.1.2.1 dL_silence_848 (by decide) (fun h9 => absurd rfl h9) (fun _ => ?_)
  refine W.widen (k := 455) (n := 5359) (Nat.le_of_ble_eq_true rfl) (Nat.le_of_ble_eq_true rfl) ?_
  exact fin _ _ _ _ _ hV hw hr hl
set_option maxHeartbeats 4000000 in
set_option maxRecDepth 100000 in
theorem w_sil_52 {p : Program} {l : Launch} {e : Env} {s : State} {m : MethodId} {args : Array Value} {below : List Frame} {meth : Method} {c : Code} {g : wG} {Q : State → Prop} {y : (Nat → Nat → Int32) × (Nat → Int64) × (Nat → UInt64)} (X : LX p l s m args c cL_silence 2 g)
    (fin : FN p l e rmD s m args below meth c g y Q 30 (ch_sil_53) 2 [(1, .int 4), (0, .ref (gA g 0))] 461 5390 869) : FN p l e rmD s m args below meth c g y Q 29 (ch_sil_52) 2 [(1, .int 4), (0, .ref (gA g 0))] 455 5359 851 := by
  intro S B H locs ls hV hw hr hl
  obtain ⟨n9, m9, ne9, n8, m8, hN, hN1, hev, hne, hne2⟩ := hV.cnt
  obtain ⟨he, hq, hz, hr⟩ := cC_e hr
  refine lv_aload_n X.1.1 X.1.2.1 dL_silence_851 rfl (lv_at hl 1 rfl) ?_
  refine lv_bipush (v := (nI 97)) X.1.1 X.1.2.1 dL_silence_852 (by decide +kernel) ?_
  refine lv_iconst (v := 1) X.1.1 X.1.2.1 dL_silence_854 (by decide) ?_
  refine k_newv (n := 1) (N := 1) X.1 X.2.2.1 hw q_ai (by decide) (by decide) (by decide) (Nat.le_of_ble_eq_true rfl) (Nat.le_of_ble_eq_true rfl) dL_silence_855 (fun b H hv => ?_)
  refine lv_dup X.1.1 X.1.2.1 dL_silence_857 rfl ?_
  refine lv_iconst (v := 0) X.1.1 X.1.2.1 dL_silence_858 (by decide) ?_
  refine lv_iconst (v := 2) X.1.1 X.1.2.1 dL_silence_859 (by decide) ?_
  refine k_vst (v := 2) (n := 0) X.1 X.2.2.1 hv (vp_in_nI (n := 0) (by decide) (by decide)) (by decide) dL_silence_860 (fun H locs hv => ?_)
  refine sN X (mA_ask l g X.2.2.2 S B y (upd (fun _ => 0) 0 2) 2 rfl _ _ hN hev) hv hl dL_silence_861 ⟨Nat.le_of_ble_eq_true rfl, Nat.le_of_ble_eq_true rfl⟩ ⟨Nat.le_of_ble_eq_true rfl, Nat.le_of_ble_eq_true rfl⟩ he (fun H locs hw => ?_)
  have hV := hV.ev (by decide) (fa_ask he) hz
  have hw := hw.nrmW
  refine vn_ (v9 := 28) (vIs_e hq) ?_
  refine lv_bipush (v := 28) X.1.1 X.1.2.1 dL_silence_864 (by decide +kernel) ?_
  refine lv_icmp_ne (tgt := 959) X.1.1 X.1.2.1 dL_silence_866 (by decide) (fun h9 => absurd rfl h9) (fun _ => ?_)
  refine W.widen (k := 461) (n := 5390) (Nat.le_of_ble_eq_true rfl) (Nat.le_of_ble_eq_true rfl) ?_
  exact fin _ _ _ _ _ hV hw hr hl
set_option maxHeartbeats 4000000 in
set_option maxRecDepth 100000 in
theorem w_sil_53 {p : Program} {l : Launch} {e : Env} {s : State} {m : MethodId} {args : Array Value} {below : List Frame} {meth : Method} {c : Code} {g : wG} {Q : State → Prop} {y : (Nat → Nat → Int32) × (Nat → Int64) × (Nat → UInt64)} (X : LX p l s m args c cL_silence 2 g)
    (fin : FN p l e rmD s m args below meth c g y Q 31 (ch_sil_54) 2 [(1, .int 4), (0, .ref (gA g 0))] 467 5421 885) : FN p l e rmD s m args below meth c g y Q 30 (ch_sil_53) 2 [(1, .int 4), (0, .ref (gA g 0))] 461 5390 869 := by
  intro S B H locs ls hV hw hr hl
  obtain ⟨n9, m9, ne9, n8, m8, hN, hN1, hev, hne, hne2⟩ := hV.cnt
  obtain ⟨he, hq, hz, hr⟩ := cC_e hr
  refine lv_aload_n X.1.1 X.1.2.1 dL_silence_869 rfl (lv_at hl 1 rfl) ?_
  refine lv_bipush (v := (nI 65)) X.1.1 X.1.2.1 dL_silence_870 (by decide +kernel) ?_
  refine lv_iconst (v := 1) X.1.1 X.1.2.1 dL_silence_872 (by decide) ?_
  refine k_newv (n := 1) (N := 1) X.1 X.2.2.1 hw q_ai (by decide) (by decide) (by decide) (Nat.le_of_ble_eq_true rfl) (Nat.le_of_ble_eq_true rfl) dL_silence_873 (fun b H hv => ?_)
  refine lv_dup X.1.1 X.1.2.1 dL_silence_875 rfl ?_
  refine lv_iconst (v := 0) X.1.1 X.1.2.1 dL_silence_876 (by decide) ?_
  refine lv_iconst (v := 2) X.1.1 X.1.2.1 dL_silence_877 (by decide) ?_
  refine k_vst (v := 2) (n := 0) X.1 X.2.2.1 hv (vp_in_nI (n := 0) (by decide) (by decide)) (by decide) dL_silence_878 (fun H locs hv => ?_)
  refine sN X (mA_answer l g X.2.2.2 S B y (upd (fun _ => 0) 0 2) 2 rfl _ _ hN hev) hv hl dL_silence_879 ⟨Nat.le_of_ble_eq_true rfl, Nat.le_of_ble_eq_true rfl⟩ ⟨Nat.le_of_ble_eq_true rfl, Nat.le_of_ble_eq_true rfl⟩ he (fun H locs hw => ?_)
  have hV := hV.ev (by decide) (fa_answer he) hz
  have hw := hw.nrmW
  refine vn_ (v9 := 0) (vIs_e hq) ?_
  refine lv_if_ne (tgt := 959) X.1.1 X.1.2.1 dL_silence_882 (by decide) (fun h9 => absurd rfl h9) (fun _ => ?_)
  refine W.widen (k := 467) (n := 5421) (Nat.le_of_ble_eq_true rfl) (Nat.le_of_ble_eq_true rfl) ?_
  exact fin _ _ _ _ _ hV hw hr hl
set_option maxHeartbeats 4000000 in
set_option maxRecDepth 100000 in
theorem w_sil_54 {p : Program} {l : Launch} {e : Env} {s : State} {m : MethodId} {args : Array Value} {below : List Frame} {meth : Method} {c : Code} {g : wG} {Q : State → Prop} {y : (Nat → Nat → Int32) × (Nat → Int64) × (Nat → UInt64)} (X : LX p l s m args c cL_silence 2 g)
    (fin : FN p l e rmD s m args below meth c g y Q 32 (ch_sil_55) 2 [(1, .int 4), (0, .ref (gA g 0))] 473 5453 906) : FN p l e rmD s m args below meth c g y Q 31 (ch_sil_54) 2 [(1, .int 4), (0, .ref (gA g 0))] 467 5421 885 := by
  intro S B H locs ls hV hw hr hl
  obtain ⟨n9, m9, ne9, n8, m8, hN, hN1, hev, hne, hne2⟩ := hV.cnt
  obtain ⟨he, hq, hz, hr⟩ := cC_e hr
  refine lv_aload_n X.1.1 X.1.2.1 dL_silence_885 rfl (lv_at hl 1 rfl) ?_
  refine lv_bipush (v := (nI 102)) X.1.1 X.1.2.1 dL_silence_886 (by decide +kernel) ?_
  refine lv_iconst (v := 2) X.1.1 X.1.2.1 dL_silence_888 (by decide) ?_
  refine k_newv (n := 2) (N := 2) X.1 X.2.2.1 hw q_ai (by decide) (by decide) (by decide) (Nat.le_of_ble_eq_true rfl) (Nat.le_of_ble_eq_true rfl) dL_silence_889 (fun b H hv => ?_)
  refine lv_dup X.1.1 X.1.2.1 dL_silence_891 rfl ?_
  refine lv_iconst (v := 0) X.1.1 X.1.2.1 dL_silence_892 (by decide) ?_
  refine lv_iconst (v := 2) X.1.1 X.1.2.1 dL_silence_893 (by decide) ?_
  refine k_vst (v := 2) (n := 0) X.1 X.2.2.1 hv (vp_in_nI (n := 0) (by decide) (by decide)) (by decide) dL_silence_894 (fun H locs hv => ?_)
  refine lv_dup X.1.1 X.1.2.1 dL_silence_895 rfl ?_
  refine lv_iconst (v := 1) X.1.1 X.1.2.1 dL_silence_896 (by decide) ?_
  refine lv_iconst (v := 3) X.1.1 X.1.2.1 dL_silence_897 (by decide) ?_
  refine k_vst (v := 3) (n := 1) X.1 X.2.2.1 hv (vp_in_nI (n := 1) (by decide) (by decide)) (by decide) dL_silence_898 (fun H locs hv => ?_)
  refine sN X (mA_find l g X.2.2.2 S B y (upd (upd (fun _ => 0) 0 2) 1 3) 2 3 rfl rfl _ _ hN hev) hv hl dL_silence_899 ⟨Nat.le_of_ble_eq_true rfl, Nat.le_of_ble_eq_true rfl⟩ ⟨Nat.le_of_ble_eq_true rfl, Nat.le_of_ble_eq_true rfl⟩ he (fun H locs hw => ?_)
  have hV := hV.ev (by decide) (fa_find he) hz
  have hw := hw.nrmW
  refine vn_ (v9 := 1) (vIs_e hq) ?_
  refine lv_iconst (v := 1) X.1.1 X.1.2.1 dL_silence_902 (by decide) ?_
  refine lv_icmp_ne (tgt := 959) X.1.1 X.1.2.1 dL_silence_903 (by decide) (fun h9 => absurd rfl h9) (fun _ => ?_)
  refine W.widen (k := 473) (n := 5453) (Nat.le_of_ble_eq_true rfl) (Nat.le_of_ble_eq_true rfl) ?_
  exact fin _ _ _ _ _ hV hw hr hl
set_option maxHeartbeats 4000000 in
set_option maxRecDepth 100000 in
theorem w_sil_55 {p : Program} {l : Launch} {e : Env} {s : State} {m : MethodId} {args : Array Value} {below : List Frame} {meth : Method} {c : Code} {g : wG} {Q : State → Prop} {y : (Nat → Nat → Int32) × (Nat → Int64) × (Nat → UInt64)} (X : LX p l s m args c cL_silence 2 g)
    (fin : FN p l e rmD s m args below meth c g y Q 33 (ch_sil_56) 2 [(1, .int 4), (0, .ref (gA g 0))] 479 5484 925) : FN p l e rmD s m args below meth c g y Q 32 (ch_sil_55) 2 [(1, .int 4), (0, .ref (gA g 0))] 473 5453 906 := by
  intro S B H locs ls hV hw hr hl
  obtain ⟨n9, m9, ne9, n8, m8, hN, hN1, hev, hne, hne2⟩ := hV.cnt
  obtain ⟨he, hq, hz, hr⟩ := cC_e hr
  refine lv_aload_n X.1.1 X.1.2.1 dL_silence_906 rfl (lv_at hl 1 rfl) ?_
  refine lv_bipush (v := (nI 112)) X.1.1 X.1.2.1 dL_silence_907 (by decide +kernel) ?_
  refine lv_iconst (v := 1) X.1.1 X.1.2.1 dL_silence_909 (by decide) ?_
  refine k_newv (n := 1) (N := 1) X.1 X.2.2.1 hw q_ai (by decide) (by decide) (by decide) (Nat.le_of_ble_eq_true rfl) (Nat.le_of_ble_eq_true rfl) dL_silence_910 (fun b H hv => ?_)
  refine lv_dup X.1.1 X.1.2.1 dL_silence_912 rfl ?_
  refine lv_iconst (v := 0) X.1.1 X.1.2.1 dL_silence_913 (by decide) ?_
  refine lv_bipush (v := 30) X.1.1 X.1.2.1 dL_silence_914 (by decide +kernel) ?_
  refine k_vst (v := 30) (n := 0) X.1 X.2.2.1 hv (vp_in_nI (n := 0) (by decide) (by decide)) (by decide) dL_silence_916 (fun H locs hv => ?_)
  refine sN X (mA_pass l g X.2.2.2 S B y (upd (fun _ => 0) 0 30) 30 rfl _ _ hN hev) hv hl dL_silence_917 ⟨Nat.le_of_ble_eq_true rfl, Nat.le_of_ble_eq_true rfl⟩ ⟨Nat.le_of_ble_eq_true rfl, Nat.le_of_ble_eq_true rfl⟩ he (fun H locs hw => ?_)
  have hV := hV.ev (by decide) (fa_pass he) hz
  have hw := hw.nrmW
  refine vn_ (v9 := 57) (vIs_e hq) ?_
  refine lv_bipush (v := 57) X.1.1 X.1.2.1 dL_silence_920 (by decide +kernel) ?_
  refine lv_icmp_ne (tgt := 959) X.1.1 X.1.2.1 dL_silence_922 (by decide) (fun h9 => absurd rfl h9) (fun _ => ?_)
  refine W.widen (k := 479) (n := 5484) (Nat.le_of_ble_eq_true rfl) (Nat.le_of_ble_eq_true rfl) ?_
  exact fin _ _ _ _ _ hV hw hr hl
set_option maxHeartbeats 4000000 in
set_option maxRecDepth 100000 in
theorem w_sil_56 {p : Program} {l : Launch} {e : Env} {s : State} {m : MethodId} {args : Array Value} {below : List Frame} {meth : Method} {c : Code} {g : wG} {Q : State → Prop} {y : (Nat → Nat → Int32) × (Nat → Int64) × (Nat → UInt64)} (X : LX p l s m args c cL_silence 2 g)
    (fin : FN p l e rmD s m args below meth c g y Q 34 (ch_sil_57) 2 [(1, .int 4), (0, .ref (gA g 0))] 485 5515 941) : FN p l e rmD s m args below meth c g y Q 33 (ch_sil_56) 2 [(1, .int 4), (0, .ref (gA g 0))] 479 5484 925 := by
  intro S B H locs ls hV hw hr hl
  obtain ⟨n9, m9, ne9, n8, m8, hN, hN1, hev, hne, hne2⟩ := hV.cnt
  obtain ⟨he, hq, hz, hr⟩ := cC_e hr
  refine lv_aload_n X.1.1 X.1.2.1 dL_silence_925 rfl (lv_at hl 1 rfl) ?_
  refine lv_bipush (v := (nI 72)) X.1.1 X.1.2.1 dL_silence_926 (by decide +kernel) ?_
  refine lv_iconst (v := 1) X.1.1 X.1.2.1 dL_silence_928 (by decide) ?_
  refine k_newv (n := 1) (N := 1) X.1 X.2.2.1 hw q_ai (by decide) (by decide) (by decide) (Nat.le_of_ble_eq_true rfl) (Nat.le_of_ble_eq_true rfl) dL_silence_929 (fun b H hv => ?_)
  refine lv_dup X.1.1 X.1.2.1 dL_silence_931 rfl ?_
  refine lv_iconst (v := 0) X.1.1 X.1.2.1 dL_silence_932 (by decide) ?_
  refine lv_iconst (v := 2) X.1.1 X.1.2.1 dL_silence_933 (by decide) ?_
  refine k_vst (v := 2) (n := 0) X.1 X.2.2.1 hv (vp_in_nI (n := 0) (by decide) (by decide)) (by decide) dL_silence_934 (fun H locs hv => ?_)
  refine sN X (mA_heed l g X.2.2.2 S B y (upd (fun _ => 0) 0 2) 2 rfl _ _ hN hev) hv hl dL_silence_935 ⟨Nat.le_of_ble_eq_true rfl, Nat.le_of_ble_eq_true rfl⟩ ⟨Nat.le_of_ble_eq_true rfl, Nat.le_of_ble_eq_true rfl⟩ he (fun H locs hw => ?_)
  have hV := hV.ev (by decide) (fa_heed he) hz
  have hw := hw.nrmW
  refine vn_ (v9 := 0) (vIs_e hq) ?_
  refine lv_if_ne (tgt := 959) X.1.1 X.1.2.1 dL_silence_938 (by decide) (fun h9 => absurd rfl h9) (fun _ => ?_)
  refine W.widen (k := 485) (n := 5515) (Nat.le_of_ble_eq_true rfl) (Nat.le_of_ble_eq_true rfl) ?_
  exact fin _ _ _ _ _ hV hw hr hl
set_option maxHeartbeats 4000000 in
set_option maxRecDepth 100000 in
theorem w_sil_57 {p : Program} {l : Launch} {e : Env} {s : State} {m : MethodId} {args : Array Value} {below : List Frame} {meth : Method} {c : Code} {g : wG} {Q : State → Prop} {y : (Nat → Nat → Int32) × (Nat → Int64) × (Nat → UInt64)} (X : LX p l s m args c cL_silence 2 g)
    (fin : FN p l e rmD s m args below meth c g y Q 34 (ch_sil_58) 2 [(1, .int 4), (0, .ref (gA g 0))] 491 5546 961) : FN p l e rmD s m args below meth c g y Q 34 (ch_sil_57) 2 [(1, .int 4), (0, .ref (gA g 0))] 485 5515 941 := by
  intro S B H locs ls hV hw hr hl
  obtain ⟨n9, m9, ne9, n8, m8, hN, hN1, hev, hne, hne2⟩ := hV.cnt
  obtain ⟨he, hq, hr⟩ := cQ_e hr
  refine lv_aload_n X.1.1 X.1.2.1 dL_silence_941 rfl (lv_at hl 1 rfl) ?_
  refine lv_bipush (v := (nI 115)) X.1.1 X.1.2.1 dL_silence_942 (by decide +kernel) ?_
  refine lv_iconst (v := 1) X.1.1 X.1.2.1 dL_silence_944 (by decide) ?_
  refine k_newv (n := 1) (N := 1) X.1 X.2.2.1 hw q_ai (by decide) (by decide) (by decide) (Nat.le_of_ble_eq_true rfl) (Nat.le_of_ble_eq_true rfl) dL_silence_945 (fun b H hv => ?_)
  refine lv_dup X.1.1 X.1.2.1 dL_silence_947 rfl ?_
  refine lv_iconst (v := 0) X.1.1 X.1.2.1 dL_silence_948 (by decide) ?_
  refine lv_iconst (v := 1) X.1.1 X.1.2.1 dL_silence_949 (by decide) ?_
  refine k_vst (v := 1) (n := 0) X.1 X.2.2.1 hv (vp_in_nI (n := 0) (by decide) (by decide)) (by decide) dL_silence_950 (fun H locs hv => ?_)
  refine sN X (mA_state l g X.2.2.2 S B y (upd (fun _ => 0) 0 1) 1 rfl _ _ hN) hv hl dL_silence_951 ⟨Nat.le_of_ble_eq_true rfl, Nat.le_of_ble_eq_true rfl⟩ ⟨Nat.le_of_ble_eq_true rfl, Nat.le_of_ble_eq_true rfl⟩ he (fun H locs hw => ?_)
  refine vn_ (v9 := 104) (vIs_e hq) ?_
  refine lv_bipush (v := 104) X.1.1 X.1.2.1 dL_silence_954 (by decide +kernel) ?_
  refine lv_icmp_eq (tgt := 961) X.1.1 X.1.2.1 dL_silence_956 (by decide) (fun _ => ?_) (fun h9 => absurd rfl h9)
  refine W.widen (k := 491) (n := 5546) (Nat.le_of_ble_eq_true rfl) (Nat.le_of_ble_eq_true rfl) ?_
  exact fin _ _ _ _ _ hV hw hr hl
set_option maxHeartbeats 4000000 in
set_option maxRecDepth 100000 in
theorem w_sil_58 {p : Program} {l : Launch} {e : Env} {s : State} {m : MethodId} {args : Array Value} {below : List Frame} {meth : Method} {c : Code} {g : wG} {Q : State → Prop} {y : (Nat → Nat → Int32) × (Nat → Int64) × (Nat → UInt64)} (X : LX p l s m args c cL_silence 2 g)
    (fin : FN p l e rmD s m args below meth c g y Q 34 (ch_sil_59) 2 [(1, .int 4), (0, .ref (gA g 0))] 496 5576 972) : FN p l e rmD s m args below meth c g y Q 34 (ch_sil_58) 2 [(1, .int 4), (0, .ref (gA g 0))] 491 5546 961 := by
  intro S B H locs ls hV hw hr hl
  obtain ⟨n9, m9, ne9, n8, m8, hN, hN1, hev, hne, hne2⟩ := hV.cnt
  obtain ⟨he, hq, hr⟩ := cQ_e hr
  refine lv_aload_n X.1.1 X.1.2.1 dL_silence_961 rfl (lv_at hl 1 rfl) ?_
  refine lv_iconst (v := 0) X.1.1 X.1.2.1 dL_silence_962 (by decide) ?_
  refine sF X hN hw hl dL_silence_963 ⟨Nat.le_of_ble_eq_true rfl, Nat.le_of_ble_eq_true rfl⟩ ⟨Nat.le_of_ble_eq_true rfl, Nat.le_of_ble_eq_true rfl⟩ he (fun H locs hw => ?_)
  refine lv_ldcf (v := 1053609165) X.1.1 X.1.2.1 X.1.2.2.1 (X.1.2.2.2 _ q_cf) dL_silence_966 ?_
  refine lv_fcmp X.1.1 X.1.2.1 dL_silence_968 ?_
  refine vn_ (v9 := 0) (vIs_e hq) ?_
  refine lv_if_ne (tgt := 1035) X.1.1 X.1.2.1 dL_silence_969 (by decide) (fun h9 => absurd rfl h9) (fun _ => ?_)
  refine W.widen (k := 496) (n := 5576) (Nat.le_of_ble_eq_true rfl) (Nat.le_of_ble_eq_true rfl) ?_
  exact fin _ _ _ _ _ hV hw hr hl
set_option maxHeartbeats 4000000 in
set_option maxRecDepth 100000 in
theorem w_sil_59 {p : Program} {l : Launch} {e : Env} {s : State} {m : MethodId} {args : Array Value} {below : List Frame} {meth : Method} {c : Code} {g : wG} {Q : State → Prop} {y : (Nat → Nat → Int32) × (Nat → Int64) × (Nat → UInt64)} (X : LX p l s m args c cL_silence 2 g)
    (fin : FN p l e rmD s m args below meth c g y Q 34 (ch_sil_60) 2 [(1, .int 4), (0, .ref (gA g 0))] 502 5607 990) : FN p l e rmD s m args below meth c g y Q 34 (ch_sil_59) 2 [(1, .int 4), (0, .ref (gA g 0))] 496 5576 972 := by
  intro S B H locs ls hV hw hr hl
  obtain ⟨n9, m9, ne9, n8, m8, hN, hN1, hev, hne, hne2⟩ := hV.cnt
  obtain ⟨he, hq, hr⟩ := cQ_e hr
  refine lv_aload_n X.1.1 X.1.2.1 dL_silence_972 rfl (lv_at hl 1 rfl) ?_
  refine lv_bipush (v := (nI 100)) X.1.1 X.1.2.1 dL_silence_973 (by decide +kernel) ?_
  refine lv_iconst (v := 1) X.1.1 X.1.2.1 dL_silence_975 (by decide) ?_
  refine k_newv (n := 1) (N := 1) X.1 X.2.2.1 hw q_ai (by decide) (by decide) (by decide) (Nat.le_of_ble_eq_true rfl) (Nat.le_of_ble_eq_true rfl) dL_silence_976 (fun b H hv => ?_)
  refine lv_dup X.1.1 X.1.2.1 dL_silence_978 rfl ?_
  refine lv_iconst (v := 0) X.1.1 X.1.2.1 dL_silence_979 (by decide) ?_
  refine lv_iconst (v := 1) X.1.1 X.1.2.1 dL_silence_980 (by decide) ?_
  refine k_vst (v := 1) (n := 0) X.1 X.2.2.1 hv (vp_in_nI (n := 0) (by decide) (by decide)) (by decide) dL_silence_981 (fun H locs hv => ?_)
  refine sN X (mA_days l g X.2.2.2 S B y (upd (fun _ => 0) 0 1) 1 rfl _ _ hN) hv hl dL_silence_982 ⟨Nat.le_of_ble_eq_true rfl, Nat.le_of_ble_eq_true rfl⟩ ⟨Nat.le_of_ble_eq_true rfl, Nat.le_of_ble_eq_true rfl⟩ he (fun H locs hw => ?_)
  refine vn_ (v9 := 31) (vIs_e hq) ?_
  refine lv_bipush (v := 31) X.1.1 X.1.2.1 dL_silence_985 (by decide +kernel) ?_
  refine lv_icmp_ne (tgt := 1035) X.1.1 X.1.2.1 dL_silence_987 (by decide) (fun h9 => absurd rfl h9) (fun _ => ?_)
  refine W.widen (k := 502) (n := 5607) (Nat.le_of_ble_eq_true rfl) (Nat.le_of_ble_eq_true rfl) ?_
  exact fin _ _ _ _ _ hV hw hr hl
set_option maxHeartbeats 4000000 in
set_option maxRecDepth 100000 in
theorem w_sil_60 {p : Program} {l : Launch} {e : Env} {s : State} {m : MethodId} {args : Array Value} {below : List Frame} {meth : Method} {c : Code} {g : wG} {Q : State → Prop} {y : (Nat → Nat → Int32) × (Nat → Int64) × (Nat → UInt64)} (X : LX p l s m args c cL_silence 2 g)
    (fin : FN p l e rmD s m args below meth c g y Q 35 (ch_sil_61) 2 [(1, .int 4), (0, .ref (gA g 0))] 508 5638 1006) : FN p l e rmD s m args below meth c g y Q 34 (ch_sil_60) 2 [(1, .int 4), (0, .ref (gA g 0))] 502 5607 990 := by
  intro S B H locs ls hV hw hr hl
  obtain ⟨n9, m9, ne9, n8, m8, hN, hN1, hev, hne, hne2⟩ := hV.cnt
  obtain ⟨he, hq, hz, hr⟩ := cC_e hr
  refine lv_aload_n X.1.1 X.1.2.1 dL_silence_990 rfl (lv_at hl 1 rfl) ?_
  refine lv_bipush (v := (nI 87)) X.1.1 X.1.2.1 dL_silence_991 (by decide +kernel) ?_
  refine lv_iconst (v := 1) X.1.1 X.1.2.1 dL_silence_993 (by decide) ?_
  refine k_newv (n := 1) (N := 1) X.1 X.2.2.1 hw q_ai (by decide) (by decide) (by decide) (Nat.le_of_ble_eq_true rfl) (Nat.le_of_ble_eq_true rfl) dL_silence_994 (fun b H hv => ?_)
  refine lv_dup X.1.1 X.1.2.1 dL_silence_996 rfl ?_
  refine lv_iconst (v := 0) X.1.1 X.1.2.1 dL_silence_997 (by decide) ?_
  refine lv_iconst (v := 3) X.1.1 X.1.2.1 dL_silence_998 (by decide) ?_
  refine k_vst (v := 3) (n := 0) X.1 X.2.2.1 hv (vp_in_nI (n := 0) (by decide) (by decide)) (by decide) dL_silence_999 (fun H locs hv => ?_)
  refine sN X (mA_withdraw l g X.2.2.2 S B y (upd (fun _ => 0) 0 3) 3 rfl _ _ hN hev) hv hl dL_silence_1000 ⟨Nat.le_of_ble_eq_true rfl, Nat.le_of_ble_eq_true rfl⟩ ⟨Nat.le_of_ble_eq_true rfl, Nat.le_of_ble_eq_true rfl⟩ he (fun H locs hw => ?_)
  have hV := hV.ev (by decide) (fa_withdraw he) hz
  have hw := hw.nrmW
  refine vn_ (v9 := 0) (vIs_e hq) ?_
  refine lv_if_ne (tgt := 1035) X.1.1 X.1.2.1 dL_silence_1003 (by decide) (fun h9 => absurd rfl h9) (fun _ => ?_)
  refine W.widen (k := 508) (n := 5638) (Nat.le_of_ble_eq_true rfl) (Nat.le_of_ble_eq_true rfl) ?_
  exact fin _ _ _ _ _ hV hw hr hl
set_option maxHeartbeats 4000000 in
set_option maxRecDepth 100000 in
theorem w_sil_61 {p : Program} {l : Launch} {e : Env} {s : State} {m : MethodId} {args : Array Value} {below : List Frame} {meth : Method} {c : Code} {g : wG} {Q : State → Prop} {y : (Nat → Nat → Int32) × (Nat → Int64) × (Nat → UInt64)} (X : LX p l s m args c cL_silence 2 g)
    (fin : FN p l e rmD s m args below meth c g y Q 35 (ch_sil_62) 2 [(1, .int 4), (0, .ref (gA g 0))] 514 5669 1024) : FN p l e rmD s m args below meth c g y Q 35 (ch_sil_61) 2 [(1, .int 4), (0, .ref (gA g 0))] 508 5638 1006 := by
  intro S B H locs ls hV hw hr hl
  obtain ⟨n9, m9, ne9, n8, m8, hN, hN1, hev, hne, hne2⟩ := hV.cnt
  obtain ⟨he, hq, hr⟩ := cQ_e hr
  refine lv_aload_n X.1.1 X.1.2.1 dL_silence_1006 rfl (lv_at hl 1 rfl) ?_
  refine lv_bipush (v := (nI 100)) X.1.1 X.1.2.1 dL_silence_1007 (by decide +kernel) ?_
  refine lv_iconst (v := 1) X.1.1 X.1.2.1 dL_silence_1009 (by decide) ?_
  refine k_newv (n := 1) (N := 1) X.1 X.2.2.1 hw q_ai (by decide) (by decide) (by decide) (Nat.le_of_ble_eq_true rfl) (Nat.le_of_ble_eq_true rfl) dL_silence_1010 (fun b H hv => ?_)
  refine lv_dup X.1.1 X.1.2.1 dL_silence_1012 rfl ?_
  refine lv_iconst (v := 0) X.1.1 X.1.2.1 dL_silence_1013 (by decide) ?_
  refine lv_iconst (v := 3) X.1.1 X.1.2.1 dL_silence_1014 (by decide) ?_
  refine k_vst (v := 3) (n := 0) X.1 X.2.2.1 hv (vp_in_nI (n := 0) (by decide) (by decide)) (by decide) dL_silence_1015 (fun H locs hv => ?_)
  refine sN X (mA_days l g X.2.2.2 S B y (upd (fun _ => 0) 0 3) 3 rfl _ _ hN) hv hl dL_silence_1016 ⟨Nat.le_of_ble_eq_true rfl, Nat.le_of_ble_eq_true rfl⟩ ⟨Nat.le_of_ble_eq_true rfl, Nat.le_of_ble_eq_true rfl⟩ he (fun H locs hw => ?_)
  refine vn_ (v9 := 57) (vIs_e hq) ?_
  refine lv_bipush (v := 57) X.1.1 X.1.2.1 dL_silence_1019 (by decide +kernel) ?_
  refine lv_icmp_ne (tgt := 1035) X.1.1 X.1.2.1 dL_silence_1021 (by decide) (fun h9 => absurd rfl h9) (fun _ => ?_)
  refine W.widen (k := 514) (n := 5669) (Nat.le_of_ble_eq_true rfl) (Nat.le_of_ble_eq_true rfl) ?_
  exact fin _ _ _ _ _ hV hw hr hl
set_option maxHeartbeats 4000000 in
set_option maxRecDepth 100000 in
theorem w_sil_62 {p : Program} {l : Launch} {e : Env} {s : State} {m : MethodId} {args : Array Value} {below : List Frame} {meth : Method} {c : Code} {g : wG} {Q : State → Prop} {y : (Nat → Nat → Int32) × (Nat → Int64) × (Nat → UInt64)} (X : LX p l s m args c cL_silence 2 g)
    (fin : FN p l e rmD s m args below meth c g y Q 35 (ch_sil_63) 2 [(1, .int 4), (0, .ref (gA g 0))] 514 5669 1031) : FN p l e rmD s m args below meth c g y Q 35 (ch_sil_62) 2 [(1, .int 4), (0, .ref (gA g 0))] 514 5669 1024 := by
  intro S B H locs ls hV hw hr hl
  obtain ⟨n9, m9, ne9, n8, m8, hN, hN1, hev, hne, hne2⟩ := hV.cnt
  obtain ⟨-, hq, hr⟩ := cQ_e hr
  refine lv_aload_n X.1.1 X.1.2.1 dL_silence_1024 rfl (lv_at hl 1 rfl) ?_
  refine sZ X hV (vIs_e hq) hw hl dL_silence_1025 ⟨Nat.le_of_ble_eq_true rfl, Nat.le_of_ble_eq_true rfl⟩ ⟨Nat.le_of_ble_eq_true rfl, Nat.le_of_ble_eq_true rfl⟩ (fun S H locs hV hw => ?_)
  refine lv_if_eq (tgt := 1035) X.1.1 X.1.2.1 dL_silence_1028 (by decide) (fun h9 => absurd h9 (by decide)) (fun _ => ?_)
  refine W.widen (k := 514) (n := 5669) (Nat.le_of_ble_eq_true rfl) (Nat.le_of_ble_eq_true rfl) ?_
  exact fin _ _ _ _ _ hV hw hr hl
set_option maxHeartbeats 4000000 in
set_option maxRecDepth 100000 in
theorem w_sil {p : Program} {l : Launch} {e : Env} {s : State} {m : MethodId} {args : Array Value} {below : List Frame} {meth : Method} {c : Code} {g : wG} {Q : State → Prop} {y : (Nat → Nat → Int32) × (Nat → Int64) × (Nat → UInt64)} (X : LX p l s m args c cL_silence 2 g)
    (fin : FN p l e rmD s m args below meth c g y Q 35 (ch_sil_63) 2 [(1, .int 4), (0, .ref (gA g 0))] 514 5669 1031) : FN p l e rmD s m args below meth c g y Q 0 (ch_sil_0) 2 [(0, .ref (gA g 0))] 143 3727 8 :=
  w_sil_0 X (w_sil_1 X (w_sil_2 X (w_sil_3 X (w_sil_4 X (w_sil_5 X (w_sil_6 X (w_sil_7 X (w_sil_8 X (w_sil_9 X (w_sil_10 X (w_sil_11 X (w_sil_12 X (w_sil_13 X (w_sil_14 X (w_sil_15 X (w_sil_16 X (w_sil_17 X (w_sil_18 X (w_sil_19 X (w_sil_20 X (w_sil_21 X (w_sil_22 X (w_sil_23 X (w_sil_24 X (w_sil_25 X (w_sil_26 X (w_sil_27 X (w_sil_28 X (w_sil_29 X (w_sil_30 X (w_sil_31 X (w_sil_32 X (w_sil_33 X (w_sil_34 X (w_sil_35 X (w_sil_36 X (w_sil_37 X (w_sil_38 X (w_sil_39 X (w_sil_40 X (w_sil_41 X (w_sil_42 X (w_sil_43 X (w_sil_44 X (w_sil_45 X (w_sil_46 X (w_sil_47 X (w_sil_48 X (w_sil_49 X (w_sil_50 X (w_sil_51 X (w_sil_52 X (w_sil_53 X (w_sil_54 X (w_sil_55 X (w_sil_56 X (w_sil_57 X (w_sil_58 X (w_sil_59 X (w_sil_60 X (w_sil_61 X (w_sil_62 X (fin)))))))))))))))))))))))))))))))))))))))))))))))))))))))))))))))
