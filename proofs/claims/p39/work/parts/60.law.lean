/-! the law, call by call: law -/
set_option maxHeartbeats 4000000 in
set_option maxRecDepth 100000 in
theorem w_law_0 {p : Program} {l : Launch} {e : Env} {s : State} {m : MethodId} {args : Array Value} {below : List Frame} {meth : Method} {c : Code} {g : wG} {Q : State → Prop} {y : (Nat → Nat → Int32) × (Nat → Int64) × (Nat → UInt64)} {bs : Nat} (X : LX p l s m args c cL_law 2 g)
    (fin : FN p l e room_1 s m args below meth c g y Q 0 (ch_law_1) 2 [(1, .ref (gA g 0)), (0, .ref bs)] 148 3757 18) : FN p l e room_1 s m args below meth c g y Q 0 (ch_law_0) 2 [(1, .ref (gA g 0)), (0, .ref bs)] 143 3727 8 := by
  intro S B H locs ls hV hw hr hl
  obtain ⟨n9, m9, ne9, n8, m8, hN, hN1, hev, hne, hne2⟩ := hV.cnt
  obtain ⟨he, hr⟩ := cX_e hr
  refine lv_aload_n X.1.1 X.1.2.1 dL_law_8 rfl (lv_at hl 0 rfl) ?_
  refine lv_iconst (v := 0) X.1.1 X.1.2.1 dL_law_9 (by decide) ?_
  refine sS X hN hw hl dL_law_10 ⟨Nat.le_of_ble_eq_true rfl, Nat.le_of_ble_eq_true rfl⟩ ⟨Nat.le_of_ble_eq_true rfl, Nat.le_of_ble_eq_true rfl⟩ he kS_1 (fun H locs hw => ?_)
  refine lv_ldc (v := (-2000000001)) X.1.1 X.1.2.1 X.1.2.2.1 (X.1.2.2.2 _ q901) dL_law_13 ?_
  refine lv_icmp_ne (tgt := 965) X.1.1 X.1.2.1 dL_law_15 (by decide) (fun h9 => absurd rfl h9) (fun _ => ?_)
  refine W.widen (k := 148) (n := 3757) (Nat.le_of_ble_eq_true rfl) (Nat.le_of_ble_eq_true rfl) ?_
  exact fin _ _ _ _ _ hV hw hr hl
set_option maxHeartbeats 4000000 in
set_option maxRecDepth 100000 in
theorem w_law_1 {p : Program} {l : Launch} {e : Env} {s : State} {m : MethodId} {args : Array Value} {below : List Frame} {meth : Method} {c : Code} {g : wG} {Q : State → Prop} {y : (Nat → Nat → Int32) × (Nat → Int64) × (Nat → UInt64)} {bs : Nat} (X : LX p l s m args c cL_law 2 g)
    (fin : FN p l e room_1 s m args below meth c g y Q 0 (ch_law_2) 2 [(1, .ref (gA g 0)), (0, .ref bs)] 153 3787 25) : FN p l e room_1 s m args below meth c g y Q 0 (ch_law_1) 2 [(1, .ref (gA g 0)), (0, .ref bs)] 148 3757 18 := by
  intro S B H locs ls hV hw hr hl
  obtain ⟨n9, m9, ne9, n8, m8, hN, hN1, hev, hne, hne2⟩ := hV.cnt
  obtain ⟨he, hr⟩ := cX_e hr
  refine lv_aload_n X.1.1 X.1.2.1 dL_law_18 rfl (lv_at hl 0 rfl) ?_
  refine sM X hN hw hl dL_law_19 ⟨Nat.le_of_ble_eq_true rfl, Nat.le_of_ble_eq_true rfl⟩ ⟨Nat.le_of_ble_eq_true rfl, Nat.le_of_ble_eq_true rfl⟩ he (fun H locs hw => ?_)
  refine lv_if_eq (tgt := 965) X.1.1 X.1.2.1 dL_law_22 (by decide) (fun h9 => absurd h9 (by decide)) (fun _ => ?_)
  refine W.widen (k := 153) (n := 3787) (Nat.le_of_ble_eq_true rfl) (Nat.le_of_ble_eq_true rfl) ?_
  exact fin _ _ _ _ _ hV hw hr hl
set_option maxHeartbeats 4000000 in
set_option maxRecDepth 100000 in
theorem w_law_2 {p : Program} {l : Launch} {e : Env} {s : State} {m : MethodId} {args : Array Value} {below : List Frame} {meth : Method} {c : Code} {g : wG} {Q : State → Prop} {y : (Nat → Nat → Int32) × (Nat → Int64) × (Nat → UInt64)} {bs : Nat} (X : LX p l s m args c cL_law 2 g)
    (fin : FN p l e room_1 s m args below meth c g y Q 0 (ch_law_3) 2 [(1, .ref (gA g 0)), (0, .ref bs)] 153 3787 36) : FN p l e room_1 s m args below meth c g y Q 0 (ch_law_2) 2 [(1, .ref (gA g 0)), (0, .ref bs)] 153 3787 25 := by
  intro S B H locs ls hV hw hr hl
  obtain ⟨n9, m9, ne9, n8, m8, hN, hN1, hev, hne, hne2⟩ := hV.cnt
  obtain ⟨-, hq, hr⟩ := cQ_e hr
  refine lv_aload_n X.1.1 X.1.2.1 dL_law_25 rfl (lv_at hl 0 rfl) ?_
  refine sK X hN hw hl dL_law_26 ⟨Nat.le_of_ble_eq_true rfl, Nat.le_of_ble_eq_true rfl⟩ ⟨Nat.le_of_ble_eq_true rfl, Nat.le_of_ble_eq_true rfl⟩ (fun H locs hw => ?_)
  refine lv_ldc2 (v := 217) X.1.1 X.1.2.1 X.1.2.2.1 (X.1.2.2.2 _ q970) dL_law_29 ?_
  refine W.lcmp X.1.1 X.1.2.1 dL_law_32 ?_
  refine vn_ (v9 := 0) (by rw [of_decide_eq_true hq]; exact lw_self _) ?_
  refine lv_if_ne (tgt := 965) X.1.1 X.1.2.1 dL_law_33 (by decide) (fun h9 => absurd rfl h9) (fun _ => ?_)
  refine W.widen (k := 153) (n := 3787) (Nat.le_of_ble_eq_true rfl) (Nat.le_of_ble_eq_true rfl) ?_
  exact fin _ _ _ _ _ hV hw hr hl
set_option maxHeartbeats 4000000 in
set_option maxRecDepth 100000 in
theorem w_law_3 {p : Program} {l : Launch} {e : Env} {s : State} {m : MethodId} {args : Array Value} {below : List Frame} {meth : Method} {c : Code} {g : wG} {Q : State → Prop} {y : (Nat → Nat → Int32) × (Nat → Int64) × (Nat → UInt64)} {bs : Nat} (X : LX p l s m args c cL_law 2 g)
    (fin : FN p l e room_1 s m args below meth c g y Q 0 (ch_law_4) 2 [(1, .ref (gA g 0)), (0, .ref bs)] 153 3787 43) : FN p l e room_1 s m args below meth c g y Q 0 (ch_law_3) 2 [(1, .ref (gA g 0)), (0, .ref bs)] 153 3787 36 := by
  intro S B H locs ls hV hw hr hl
  obtain ⟨n9, m9, ne9, n8, m8, hN, hN1, hev, hne, hne2⟩ := hV.cnt
  obtain ⟨-, hq, hr⟩ := cQ_e hr
  refine lv_aload_n X.1.1 X.1.2.1 dL_law_36 rfl (lv_at hl 0 rfl) ?_
  refine sT X hN hw hl dL_law_37 ⟨Nat.le_of_ble_eq_true rfl, Nat.le_of_ble_eq_true rfl⟩ ⟨Nat.le_of_ble_eq_true rfl, Nat.le_of_ble_eq_true rfl⟩ (fun H locs hw => ?_)
  refine vn_ (v9 := 0) (vIs_e hq) ?_
  refine lv_if_ne (tgt := 965) X.1.1 X.1.2.1 dL_law_40 (by decide) (fun h9 => absurd rfl h9) (fun _ => ?_)
  refine W.widen (k := 153) (n := 3787) (Nat.le_of_ble_eq_true rfl) (Nat.le_of_ble_eq_true rfl) ?_
  exact fin _ _ _ _ _ hV hw hr hl
set_option maxHeartbeats 4000000 in
set_option maxRecDepth 100000 in
theorem w_law_4 {p : Program} {l : Launch} {e : Env} {s : State} {m : MethodId} {args : Array Value} {below : List Frame} {meth : Method} {c : Code} {g : wG} {Q : State → Prop} {y : (Nat → Nat → Int32) × (Nat → Int64) × (Nat → UInt64)} {bs : Nat} (X : LX p l s m args c cL_law 2 g)
    (fin : FN p l e room_1 s m args below meth c g y Q 0 (ch_law_5) 2 [(1, .ref (gA g 0)), (0, .ref bs)] 153 3787 50) : FN p l e room_1 s m args below meth c g y Q 0 (ch_law_4) 2 [(1, .ref (gA g 0)), (0, .ref bs)] 153 3787 43 := by
  intro S B H locs ls hV hw hr hl
  obtain ⟨n9, m9, ne9, n8, m8, hN, hN1, hev, hne, hne2⟩ := hV.cnt
  obtain ⟨-, hq, hr⟩ := cQ_e hr
  refine lv_aload_n X.1.1 X.1.2.1 dL_law_43 rfl (lv_at hl 0 rfl) ?_
  refine sZ X hV (vIs_e hq) hw hl dL_law_44 ⟨Nat.le_of_ble_eq_true rfl, Nat.le_of_ble_eq_true rfl⟩ ⟨Nat.le_of_ble_eq_true rfl, Nat.le_of_ble_eq_true rfl⟩ (fun S H locs hV hw => ?_)
  refine lv_if_eq (tgt := 965) X.1.1 X.1.2.1 dL_law_47 (by decide) (fun h9 => absurd h9 (by decide)) (fun _ => ?_)
  refine W.widen (k := 153) (n := 3787) (Nat.le_of_ble_eq_true rfl) (Nat.le_of_ble_eq_true rfl) ?_
  exact fin _ _ _ _ _ hV hw hr hl
set_option maxHeartbeats 4000000 in
set_option maxRecDepth 100000 in
theorem w_law_5 {p : Program} {l : Launch} {e : Env} {s : State} {m : MethodId} {args : Array Value} {below : List Frame} {meth : Method} {c : Code} {g : wG} {Q : State → Prop} {y : (Nat → Nat → Int32) × (Nat → Int64) × (Nat → UInt64)} {bs : Nat} (X : LX p l s m args c cL_law 2 g)
    (fin : FN p l e room_1 s m args below meth c g y Q 0 (ch_law_6) 2 [(1, .ref (gA g 0)), (0, .ref bs)] 159 3819 72) : FN p l e room_1 s m args below meth c g y Q 0 (ch_law_5) 2 [(1, .ref (gA g 0)), (0, .ref bs)] 153 3787 50 := by
  intro S B H locs ls hV hw hr hl
  obtain ⟨n9, m9, ne9, n8, m8, hN, hN1, hev, hne, hne2⟩ := hV.cnt
  obtain ⟨he, hr⟩ := cX_e hr
  refine lv_aload_n X.1.1 X.1.2.1 dL_law_50 rfl (lv_at hl 0 rfl) ?_
  refine lv_bipush (v := (nI 79)) X.1.1 X.1.2.1 dL_law_51 (by decide +kernel) ?_
  refine lv_iconst (v := 2) X.1.1 X.1.2.1 dL_law_53 (by decide) ?_
  refine k_newv (n := 2) (N := 2) X.1 X.2.2.1 hw q_ai (by decide) (by decide) (by decide) (Nat.le_of_ble_eq_true rfl) (Nat.le_of_ble_eq_true rfl) dL_law_54 (fun b H hv => ?_)
  refine lv_dup X.1.1 X.1.2.1 dL_law_56 rfl ?_
  refine lv_iconst (v := 0) X.1.1 X.1.2.1 dL_law_57 (by decide) ?_
  refine lv_iconst (v := 0) X.1.1 X.1.2.1 dL_law_58 (by decide) ?_
  refine k_vst (v := 0) (n := 0) X.1 X.2.2.1 hv (vp_in_nI (n := 0) (by decide) (by decide)) (by decide) dL_law_59 (fun H locs hv => ?_)
  refine lv_dup X.1.1 X.1.2.1 dL_law_60 rfl ?_
  refine lv_iconst (v := 1) X.1.1 X.1.2.1 dL_law_61 (by decide) ?_
  refine lv_iconst (v := 0) X.1.1 X.1.2.1 dL_law_62 (by decide) ?_
  refine k_vst (v := 0) (n := 1) X.1 X.2.2.1 hv (vp_in_nI (n := 1) (by decide) (by decide)) (by decide) dL_law_63 (fun H locs hv => ?_)
  refine sX X (mA_addOffice l g X.2.2.2 S B y (upd (upd (fun _ => 0) 0 0) 1 0) 0 0 rfl rfl _ _ hN hev) hv hl dL_law_64 ⟨Nat.le_of_ble_eq_true rfl, Nat.le_of_ble_eq_true rfl⟩ ⟨Nat.le_of_ble_eq_true rfl, Nat.le_of_ble_eq_true rfl⟩ he kX_2 (fun H locs hw => ?_)
  refine lv_ldc (v := (-2000000002)) X.1.1 X.1.2.1 X.1.2.2.1 (X.1.2.2.2 _ q902) dL_law_67 ?_
  refine lv_icmp_ne (tgt := 965) X.1.1 X.1.2.1 dL_law_69 (by decide) (fun h9 => absurd rfl h9) (fun _ => ?_)
  refine W.widen (k := 159) (n := 3819) (Nat.le_of_ble_eq_true rfl) (Nat.le_of_ble_eq_true rfl) ?_
  exact fin _ _ _ _ _ hV hw hr hl
set_option maxHeartbeats 4000000 in
set_option maxRecDepth 100000 in
theorem w_law_6 {p : Program} {l : Launch} {e : Env} {s : State} {m : MethodId} {args : Array Value} {below : List Frame} {meth : Method} {c : Code} {g : wG} {Q : State → Prop} {y : (Nat → Nat → Int32) × (Nat → Int64) × (Nat → UInt64)} {bs : Nat} (X : LX p l s m args c cL_law 2 g)
    (fin : FN p l e room_1 s m args below meth c g y Q 0 (ch_law_7) 2 [(1, .ref (gA g 0)), (0, .ref bs)] 165 3851 95) : FN p l e room_1 s m args below meth c g y Q 0 (ch_law_6) 2 [(1, .ref (gA g 0)), (0, .ref bs)] 159 3819 72 := by
  intro S B H locs ls hV hw hr hl
  obtain ⟨n9, m9, ne9, n8, m8, hN, hN1, hev, hne, hne2⟩ := hV.cnt
  obtain ⟨he, hr⟩ := cX_e hr
  refine lv_aload_n X.1.1 X.1.2.1 dL_law_72 rfl (lv_at hl 0 rfl) ?_
  refine lv_bipush (v := (nI 79)) X.1.1 X.1.2.1 dL_law_73 (by decide +kernel) ?_
  refine lv_iconst (v := 2) X.1.1 X.1.2.1 dL_law_75 (by decide) ?_
  refine k_newv (n := 2) (N := 2) X.1 X.2.2.1 hw q_ai (by decide) (by decide) (by decide) (Nat.le_of_ble_eq_true rfl) (Nat.le_of_ble_eq_true rfl) dL_law_76 (fun b H hv => ?_)
  refine lv_dup X.1.1 X.1.2.1 dL_law_78 rfl ?_
  refine lv_iconst (v := 0) X.1.1 X.1.2.1 dL_law_79 (by decide) ?_
  refine lv_bipush (v := 61) X.1.1 X.1.2.1 dL_law_80 (by decide +kernel) ?_
  refine k_vst (v := 61) (n := 0) X.1 X.2.2.1 hv (vp_in_nI (n := 0) (by decide) (by decide)) (by decide) dL_law_82 (fun H locs hv => ?_)
  refine lv_dup X.1.1 X.1.2.1 dL_law_83 rfl ?_
  refine lv_iconst (v := 1) X.1.1 X.1.2.1 dL_law_84 (by decide) ?_
  refine lv_iconst (v := 0) X.1.1 X.1.2.1 dL_law_85 (by decide) ?_
  refine k_vst (v := 0) (n := 1) X.1 X.2.2.1 hv (vp_in_nI (n := 1) (by decide) (by decide)) (by decide) dL_law_86 (fun H locs hv => ?_)
  refine sX X (mA_addOffice l g X.2.2.2 S B y (upd (upd (fun _ => 0) 0 61) 1 0) 61 0 rfl rfl _ _ hN hev) hv hl dL_law_87 ⟨Nat.le_of_ble_eq_true rfl, Nat.le_of_ble_eq_true rfl⟩ ⟨Nat.le_of_ble_eq_true rfl, Nat.le_of_ble_eq_true rfl⟩ he kX_2 (fun H locs hw => ?_)
  refine lv_ldc (v := (-2000000002)) X.1.1 X.1.2.1 X.1.2.2.1 (X.1.2.2.2 _ q902) dL_law_90 ?_
  refine lv_icmp_ne (tgt := 965) X.1.1 X.1.2.1 dL_law_92 (by decide) (fun h9 => absurd rfl h9) (fun _ => ?_)
  refine W.widen (k := 165) (n := 3851) (Nat.le_of_ble_eq_true rfl) (Nat.le_of_ble_eq_true rfl) ?_
  exact fin _ _ _ _ _ hV hw hr hl
set_option maxHeartbeats 4000000 in
set_option maxRecDepth 100000 in
theorem w_law_7 {p : Program} {l : Launch} {e : Env} {s : State} {m : MethodId} {args : Array Value} {below : List Frame} {meth : Method} {c : Code} {g : wG} {Q : State → Prop} {y : (Nat → Nat → Int32) × (Nat → Int64) × (Nat → UInt64)} {bs : Nat} (X : LX p l s m args c cL_law 2 g)
    (fin : FN p l e room_1 s m args below meth c g y Q 0 (ch_law_8) 2 [(1, .ref (gA g 0)), (0, .ref bs)] 171 3883 119) : FN p l e room_1 s m args below meth c g y Q 0 (ch_law_7) 2 [(1, .ref (gA g 0)), (0, .ref bs)] 165 3851 95 := by
  intro S B H locs ls hV hw hr hl
  obtain ⟨n9, m9, ne9, n8, m8, hN, hN1, hev, hne, hne2⟩ := hV.cnt
  obtain ⟨he, hr⟩ := cX_e hr
  refine lv_aload_n X.1.1 X.1.2.1 dL_law_95 rfl (lv_at hl 0 rfl) ?_
  refine lv_bipush (v := (nI 79)) X.1.1 X.1.2.1 dL_law_96 (by decide +kernel) ?_
  refine lv_iconst (v := 2) X.1.1 X.1.2.1 dL_law_98 (by decide) ?_
  refine k_newv (n := 2) (N := 2) X.1 X.2.2.1 hw q_ai (by decide) (by decide) (by decide) (Nat.le_of_ble_eq_true rfl) (Nat.le_of_ble_eq_true rfl) dL_law_99 (fun b H hv => ?_)
  refine lv_dup X.1.1 X.1.2.1 dL_law_101 rfl ?_
  refine lv_iconst (v := 0) X.1.1 X.1.2.1 dL_law_102 (by decide) ?_
  refine lv_iconst (v := 1) X.1.1 X.1.2.1 dL_law_103 (by decide) ?_
  refine k_vst (v := 1) (n := 0) X.1 X.2.2.1 hv (vp_in_nI (n := 0) (by decide) (by decide)) (by decide) dL_law_104 (fun H locs hv => ?_)
  refine lv_dup X.1.1 X.1.2.1 dL_law_105 rfl ?_
  refine lv_iconst (v := 1) X.1.1 X.1.2.1 dL_law_106 (by decide) ?_
  refine lv_sipush (v := 1024) X.1.1 X.1.2.1 dL_law_107 (by decide +kernel) ?_
  refine k_vst (v := 1024) (n := 1) X.1 X.2.2.1 hv (vp_in_nI (n := 1) (by decide) (by decide)) (by decide) dL_law_110 (fun H locs hv => ?_)
  refine sX X (mA_addOffice l g X.2.2.2 S B y (upd (upd (fun _ => 0) 0 1) 1 1024) 1 1024 rfl rfl _ _ hN hev) hv hl dL_law_111 ⟨Nat.le_of_ble_eq_true rfl, Nat.le_of_ble_eq_true rfl⟩ ⟨Nat.le_of_ble_eq_true rfl, Nat.le_of_ble_eq_true rfl⟩ he kX_2 (fun H locs hw => ?_)
  refine lv_ldc (v := (-2000000002)) X.1.1 X.1.2.1 X.1.2.2.1 (X.1.2.2.2 _ q902) dL_law_114 ?_
  refine lv_icmp_ne (tgt := 965) X.1.1 X.1.2.1 dL_law_116 (by decide) (fun h9 => absurd rfl h9) (fun _ => ?_)
  refine W.widen (k := 171) (n := 3883) (Nat.le_of_ble_eq_true rfl) (Nat.le_of_ble_eq_true rfl) ?_
  exact fin _ _ _ _ _ hV hw hr hl
set_option maxHeartbeats 4000000 in
set_option maxRecDepth 100000 in
theorem w_law_8 {p : Program} {l : Launch} {e : Env} {s : State} {m : MethodId} {args : Array Value} {below : List Frame} {meth : Method} {c : Code} {g : wG} {Q : State → Prop} {y : (Nat → Nat → Int32) × (Nat → Int64) × (Nat → UInt64)} {bs : Nat} (X : LX p l s m args c cL_law 2 g)
    (fin : FN p l e room_1 s m args below meth c g y Q 0 (ch_law_9) 2 [(1, .ref (gA g 0)), (0, .ref bs)] 177 3914 137) : FN p l e room_1 s m args below meth c g y Q 0 (ch_law_8) 2 [(1, .ref (gA g 0)), (0, .ref bs)] 171 3883 119 := by
  intro S B H locs ls hV hw hr hl
  obtain ⟨n9, m9, ne9, n8, m8, hN, hN1, hev, hne, hne2⟩ := hV.cnt
  obtain ⟨he, hr⟩ := cX_e hr
  refine lv_aload_n X.1.1 X.1.2.1 dL_law_119 rfl (lv_at hl 0 rfl) ?_
  refine lv_bipush (v := (nI 112)) X.1.1 X.1.2.1 dL_law_120 (by decide +kernel) ?_
  refine lv_iconst (v := 1) X.1.1 X.1.2.1 dL_law_122 (by decide) ?_
  refine k_newv (n := 1) (N := 1) X.1 X.2.2.1 hw q_ai (by decide) (by decide) (by decide) (Nat.le_of_ble_eq_true rfl) (Nat.le_of_ble_eq_true rfl) dL_law_123 (fun b H hv => ?_)
  refine lv_dup X.1.1 X.1.2.1 dL_law_125 rfl ?_
  refine lv_iconst (v := 0) X.1.1 X.1.2.1 dL_law_126 (by decide) ?_
  refine lv_iconst (v := 0) X.1.1 X.1.2.1 dL_law_127 (by decide) ?_
  refine k_vst (v := 0) (n := 0) X.1 X.2.2.1 hv (vp_in_nI (n := 0) (by decide) (by decide)) (by decide) dL_law_128 (fun H locs hv => ?_)
  refine sX X (mA_pass l g X.2.2.2 S B y (upd (fun _ => 0) 0 0) 0 rfl _ _ hN hev) hv hl dL_law_129 ⟨Nat.le_of_ble_eq_true rfl, Nat.le_of_ble_eq_true rfl⟩ ⟨Nat.le_of_ble_eq_true rfl, Nat.le_of_ble_eq_true rfl⟩ he kX_2 (fun H locs hw => ?_)
  refine lv_ldc (v := (-2000000002)) X.1.1 X.1.2.1 X.1.2.2.1 (X.1.2.2.2 _ q902) dL_law_132 ?_
  refine lv_icmp_ne (tgt := 965) X.1.1 X.1.2.1 dL_law_134 (by decide) (fun h9 => absurd rfl h9) (fun _ => ?_)
  refine W.widen (k := 177) (n := 3914) (Nat.le_of_ble_eq_true rfl) (Nat.le_of_ble_eq_true rfl) ?_
  exact fin _ _ _ _ _ hV hw hr hl
set_option maxHeartbeats 4000000 in
set_option maxRecDepth 100000 in
theorem w_law_9 {p : Program} {l : Launch} {e : Env} {s : State} {m : MethodId} {args : Array Value} {below : List Frame} {meth : Method} {c : Code} {g : wG} {Q : State → Prop} {y : (Nat → Nat → Int32) × (Nat → Int64) × (Nat → UInt64)} {bs : Nat} (X : LX p l s m args c cL_law 2 g)
    (fin : FN p l e room_1 s m args below meth c g y Q 0 (ch_law_10) 2 [(1, .ref (gA g 0)), (0, .ref bs)] 183 3945 157) : FN p l e room_1 s m args below meth c g y Q 0 (ch_law_9) 2 [(1, .ref (gA g 0)), (0, .ref bs)] 177 3914 137 := by
  intro S B H locs ls hV hw hr hl
  obtain ⟨n9, m9, ne9, n8, m8, hN, hN1, hev, hne, hne2⟩ := hV.cnt
  obtain ⟨he, hr⟩ := cX_e hr
  refine lv_aload_n X.1.1 X.1.2.1 dL_law_137 rfl (lv_at hl 0 rfl) ?_
  refine lv_bipush (v := (nI 112)) X.1.1 X.1.2.1 dL_law_138 (by decide +kernel) ?_
  refine lv_iconst (v := 1) X.1.1 X.1.2.1 dL_law_140 (by decide) ?_
  refine k_newv (n := 1) (N := 1) X.1 X.2.2.1 hw q_ai (by decide) (by decide) (by decide) (Nat.le_of_ble_eq_true rfl) (Nat.le_of_ble_eq_true rfl) dL_law_141 (fun b H hv => ?_)
  refine lv_dup X.1.1 X.1.2.1 dL_law_143 rfl ?_
  refine lv_iconst (v := 0) X.1.1 X.1.2.1 dL_law_144 (by decide) ?_
  refine lv_sipush (v := 401) X.1.1 X.1.2.1 dL_law_145 (by decide +kernel) ?_
  refine k_vst (v := 401) (n := 0) X.1 X.2.2.1 hv (vp_in_nI (n := 0) (by decide) (by decide)) (by decide) dL_law_148 (fun H locs hv => ?_)
  refine sX X (mA_pass l g X.2.2.2 S B y (upd (fun _ => 0) 0 401) 401 rfl _ _ hN hev) hv hl dL_law_149 ⟨Nat.le_of_ble_eq_true rfl, Nat.le_of_ble_eq_true rfl⟩ ⟨Nat.le_of_ble_eq_true rfl, Nat.le_of_ble_eq_true rfl⟩ he kX_2 (fun H locs hw => ?_)
  refine lv_ldc (v := (-2000000002)) X.1.1 X.1.2.1 X.1.2.2.1 (X.1.2.2.2 _ q902) dL_law_152 ?_
  refine lv_icmp_ne (tgt := 965) X.1.1 X.1.2.1 dL_law_154 (by decide) (fun h9 => absurd rfl h9) (fun _ => ?_)
  refine W.widen (k := 183) (n := 3945) (Nat.le_of_ble_eq_true rfl) (Nat.le_of_ble_eq_true rfl) ?_
  exact fin _ _ _ _ _ hV hw hr hl
set_option maxHeartbeats 4000000 in
set_option maxRecDepth 100000 in
theorem w_law_10 {p : Program} {l : Launch} {e : Env} {s : State} {m : MethodId} {args : Array Value} {below : List Frame} {meth : Method} {c : Code} {g : wG} {Q : State → Prop} {y : (Nat → Nat → Int32) × (Nat → Int64) × (Nat → UInt64)} {bs : Nat} (X : LX p l s m args c cL_law 2 g)
    (fin : FN p l e room_1 s m args below meth c g y Q 0 (ch_law_11) 2 [(1, .ref (gA g 0)), (0, .ref bs)] 189 3979 188) : FN p l e room_1 s m args below meth c g y Q 0 (ch_law_10) 2 [(1, .ref (gA g 0)), (0, .ref bs)] 183 3945 157 := by
  intro S B H locs ls hV hw hr hl
  obtain ⟨n9, m9, ne9, n8, m8, hN, hN1, hev, hne, hne2⟩ := hV.cnt
  obtain ⟨he, hr⟩ := cX_e hr
  refine lv_aload_n X.1.1 X.1.2.1 dL_law_157 rfl (lv_at hl 0 rfl) ?_
  refine lv_bipush (v := (nI 99)) X.1.1 X.1.2.1 dL_law_158 (by decide +kernel) ?_
  refine lv_iconst (v := 4) X.1.1 X.1.2.1 dL_law_160 (by decide) ?_
  refine k_newv (n := 4) (N := 4) X.1 X.2.2.1 hw q_ai (by decide) (by decide) (by decide) (Nat.le_of_ble_eq_true rfl) (Nat.le_of_ble_eq_true rfl) dL_law_161 (fun b H hv => ?_)
  refine lv_dup X.1.1 X.1.2.1 dL_law_163 rfl ?_
  refine lv_iconst (v := 0) X.1.1 X.1.2.1 dL_law_164 (by decide) ?_
  refine lv_iconst (v := 0) X.1.1 X.1.2.1 dL_law_165 (by decide) ?_
  refine k_vst (v := 0) (n := 0) X.1 X.2.2.1 hv (vp_in_nI (n := 0) (by decide) (by decide)) (by decide) dL_law_166 (fun H locs hv => ?_)
  refine lv_dup X.1.1 X.1.2.1 dL_law_167 rfl ?_
  refine lv_iconst (v := 1) X.1.1 X.1.2.1 dL_law_168 (by decide) ?_
  refine lv_bipush (v := 10) X.1.1 X.1.2.1 dL_law_169 (by decide +kernel) ?_
  refine k_vst (v := 10) (n := 1) X.1 X.2.2.1 hv (vp_in_nI (n := 1) (by decide) (by decide)) (by decide) dL_law_171 (fun H locs hv => ?_)
  refine lv_dup X.1.1 X.1.2.1 dL_law_172 rfl ?_
  refine lv_iconst (v := 2) X.1.1 X.1.2.1 dL_law_173 (by decide) ?_
  refine lv_iconst (v := 0) X.1.1 X.1.2.1 dL_law_174 (by decide) ?_
  refine k_vst (v := 0) (n := 2) X.1 X.2.2.1 hv (vp_in_nI (n := 2) (by decide) (by decide)) (by decide) dL_law_175 (fun H locs hv => ?_)
  refine lv_dup X.1.1 X.1.2.1 dL_law_176 rfl ?_
  refine lv_iconst (v := 3) X.1.1 X.1.2.1 dL_law_177 (by decide) ?_
  refine lv_iconst (v := 0) X.1.1 X.1.2.1 dL_law_178 (by decide) ?_
  refine k_vst (v := 0) (n := 3) X.1 X.2.2.1 hv (vp_in_nI (n := 3) (by decide) (by decide)) (by decide) dL_law_179 (fun H locs hv => ?_)
  refine sX X (mA_complain l g X.2.2.2 S B y (upd (upd (upd (upd (fun _ => 0) 0 0) 1 10) 2 0) 3 0) 0 10 0 0 rfl rfl rfl rfl _ _ hN hev) hv hl dL_law_180 ⟨Nat.le_of_ble_eq_true rfl, Nat.le_of_ble_eq_true rfl⟩ ⟨Nat.le_of_ble_eq_true rfl, Nat.le_of_ble_eq_true rfl⟩ he kX_1 (fun H locs hw => ?_)
  refine lv_ldc (v := (-2000000001)) X.1.1 X.1.2.1 X.1.2.2.1 (X.1.2.2.2 _ q901) dL_law_183 ?_
  refine lv_icmp_ne (tgt := 965) X.1.1 X.1.2.1 dL_law_185 (by decide) (fun h9 => absurd rfl h9) (fun _ => ?_)
  refine W.widen (k := 189) (n := 3979) (Nat.le_of_ble_eq_true rfl) (Nat.le_of_ble_eq_true rfl) ?_
  exact fin _ _ _ _ _ hV hw hr hl
set_option maxHeartbeats 4000000 in
set_option maxRecDepth 100000 in
theorem w_law_11 {p : Program} {l : Launch} {e : Env} {s : State} {m : MethodId} {args : Array Value} {below : List Frame} {meth : Method} {c : Code} {g : wG} {Q : State → Prop} {y : (Nat → Nat → Int32) × (Nat → Int64) × (Nat → UInt64)} {bs : Nat} (X : LX p l s m args c cL_law 2 g)
    (fin : FN p l e room_1 s m args below meth c g y Q 0 (ch_law_12) 2 [(1, .ref (gA g 0)), (0, .ref bs)] 195 4011 210) : FN p l e room_1 s m args below meth c g y Q 0 (ch_law_11) 2 [(1, .ref (gA g 0)), (0, .ref bs)] 189 3979 188 := by
  intro S B H locs ls hV hw hr hl
  obtain ⟨n9, m9, ne9, n8, m8, hN, hN1, hev, hne, hne2⟩ := hV.cnt
  obtain ⟨he, hr⟩ := cX_e hr
  refine lv_aload_n X.1.1 X.1.2.1 dL_law_188 rfl (lv_at hl 0 rfl) ?_
  refine lv_bipush (v := (nI 67)) X.1.1 X.1.2.1 dL_law_189 (by decide +kernel) ?_
  refine lv_iconst (v := 2) X.1.1 X.1.2.1 dL_law_191 (by decide) ?_
  refine k_newv (n := 2) (N := 2) X.1 X.2.2.1 hw q_ai (by decide) (by decide) (by decide) (Nat.le_of_ble_eq_true rfl) (Nat.le_of_ble_eq_true rfl) dL_law_192 (fun b H hv => ?_)
  refine lv_dup X.1.1 X.1.2.1 dL_law_194 rfl ?_
  refine lv_iconst (v := 0) X.1.1 X.1.2.1 dL_law_195 (by decide) ?_
  refine lv_iconst (v := 0) X.1.1 X.1.2.1 dL_law_196 (by decide) ?_
  refine k_vst (v := 0) (n := 0) X.1 X.2.2.1 hv (vp_in_nI (n := 0) (by decide) (by decide)) (by decide) dL_law_197 (fun H locs hv => ?_)
  refine lv_dup X.1.1 X.1.2.1 dL_law_198 rfl ?_
  refine lv_iconst (v := 1) X.1.1 X.1.2.1 dL_law_199 (by decide) ?_
  refine lv_iconst (v := 1) X.1.1 X.1.2.1 dL_law_200 (by decide) ?_
  refine k_vst (v := 1) (n := 1) X.1 X.2.2.1 hv (vp_in_nI (n := 1) (by decide) (by decide)) (by decide) dL_law_201 (fun H locs hv => ?_)
  refine sX X (mA_setCourt l g X.2.2.2 S B y (upd (upd (fun _ => 0) 0 0) 1 1) 0 1 rfl rfl _ _ hN hev (Or.inr rfl)) hv hl dL_law_202 ⟨Nat.le_of_ble_eq_true rfl, Nat.le_of_ble_eq_true rfl⟩ ⟨Nat.le_of_ble_eq_true rfl, Nat.le_of_ble_eq_true rfl⟩ he kX_1 (fun H locs hw => ?_)
  refine lv_ldc (v := (-2000000001)) X.1.1 X.1.2.1 X.1.2.2.1 (X.1.2.2.2 _ q901) dL_law_205 ?_
  refine lv_icmp_ne (tgt := 965) X.1.1 X.1.2.1 dL_law_207 (by decide) (fun h9 => absurd rfl h9) (fun _ => ?_)
  refine W.widen (k := 195) (n := 4011) (Nat.le_of_ble_eq_true rfl) (Nat.le_of_ble_eq_true rfl) ?_
  exact fin _ _ _ _ _ hV hw hr hl
set_option maxHeartbeats 4000000 in
set_option maxRecDepth 100000 in
theorem w_law_12 {p : Program} {l : Launch} {e : Env} {s : State} {m : MethodId} {args : Array Value} {below : List Frame} {meth : Method} {c : Code} {g : wG} {Q : State → Prop} {y : (Nat → Nat → Int32) × (Nat → Int64) × (Nat → UInt64)} {bs : Nat} (X : LX p l s m args c cL_law 2 g)
    (fin : FN p l e room_1 s m args below meth c g y Q 0 (ch_law_13) 2 [(1, .ref (gA g 0)), (0, .ref bs)] 201 4042 228) : FN p l e room_1 s m args below meth c g y Q 0 (ch_law_12) 2 [(1, .ref (gA g 0)), (0, .ref bs)] 195 4011 210 := by
  intro S B H locs ls hV hw hr hl
  obtain ⟨n9, m9, ne9, n8, m8, hN, hN1, hev, hne, hne2⟩ := hV.cnt
  obtain ⟨he, hr⟩ := cX_e hr
  refine lv_aload_n X.1.1 X.1.2.1 dL_law_210 rfl (lv_at hl 0 rfl) ?_
  refine lv_bipush (v := (nI 120)) X.1.1 X.1.2.1 dL_law_211 (by decide +kernel) ?_
  refine lv_iconst (v := 1) X.1.1 X.1.2.1 dL_law_213 (by decide) ?_
  refine k_newv (n := 1) (N := 1) X.1 X.2.2.1 hw q_ai (by decide) (by decide) (by decide) (Nat.le_of_ble_eq_true rfl) (Nat.le_of_ble_eq_true rfl) dL_law_214 (fun b H hv => ?_)
  refine lv_dup X.1.1 X.1.2.1 dL_law_216 rfl ?_
  refine lv_iconst (v := 0) X.1.1 X.1.2.1 dL_law_217 (by decide) ?_
  refine lv_iconst (v := 0) X.1.1 X.1.2.1 dL_law_218 (by decide) ?_
  refine k_vst (v := 0) (n := 0) X.1 X.2.2.1 hv (vp_in_nI (n := 0) (by decide) (by decide)) (by decide) dL_law_219 (fun H locs hv => ?_)
  refine sX X (mA_excuse l g X.2.2.2 S B y (upd (fun _ => 0) 0 0) 0 rfl _ _ hN hev) hv hl dL_law_220 ⟨Nat.le_of_ble_eq_true rfl, Nat.le_of_ble_eq_true rfl⟩ ⟨Nat.le_of_ble_eq_true rfl, Nat.le_of_ble_eq_true rfl⟩ he kX_1 (fun H locs hw => ?_)
  refine lv_ldc (v := (-2000000001)) X.1.1 X.1.2.1 X.1.2.2.1 (X.1.2.2.2 _ q901) dL_law_223 ?_
  refine lv_icmp_ne (tgt := 965) X.1.1 X.1.2.1 dL_law_225 (by decide) (fun h9 => absurd rfl h9) (fun _ => ?_)
  refine W.widen (k := 201) (n := 4042) (Nat.le_of_ble_eq_true rfl) (Nat.le_of_ble_eq_true rfl) ?_
  exact fin _ _ _ _ _ hV hw hr hl
set_option maxHeartbeats 4000000 in
set_option maxRecDepth 100000 in
theorem w_law_13 {p : Program} {l : Launch} {e : Env} {s : State} {m : MethodId} {args : Array Value} {below : List Frame} {meth : Method} {c : Code} {g : wG} {Q : State → Prop} {y : (Nat → Nat → Int32) × (Nat → Int64) × (Nat → UInt64)} {bs : Nat} (X : LX p l s m args c cL_law 2 g)
    (fin : FN p l e room_1 s m args below meth c g y Q 0 (ch_law_14) 2 [(1, .ref (gA g 0)), (0, .ref bs)] 207 4073 246) : FN p l e room_1 s m args below meth c g y Q 0 (ch_law_13) 2 [(1, .ref (gA g 0)), (0, .ref bs)] 201 4042 228 := by
  intro S B H locs ls hV hw hr hl
  obtain ⟨n9, m9, ne9, n8, m8, hN, hN1, hev, hne, hne2⟩ := hV.cnt
  obtain ⟨he, hr⟩ := cX_e hr
  refine lv_aload_n X.1.1 X.1.2.1 dL_law_228 rfl (lv_at hl 0 rfl) ?_
  refine lv_bipush (v := (nI 116)) X.1.1 X.1.2.1 dL_law_229 (by decide +kernel) ?_
  refine lv_iconst (v := 1) X.1.1 X.1.2.1 dL_law_231 (by decide) ?_
  refine k_newv (n := 1) (N := 1) X.1 X.2.2.1 hw q_ai (by decide) (by decide) (by decide) (Nat.le_of_ble_eq_true rfl) (Nat.le_of_ble_eq_true rfl) dL_law_232 (fun b H hv => ?_)
  refine lv_dup X.1.1 X.1.2.1 dL_law_234 rfl ?_
  refine lv_iconst (v := 0) X.1.1 X.1.2.1 dL_law_235 (by decide) ?_
  refine lv_iconst (v := 0) X.1.1 X.1.2.1 dL_law_236 (by decide) ?_
  refine k_vst (v := 0) (n := 0) X.1 X.2.2.1 hv (vp_in_nI (n := 0) (by decide) (by decide)) (by decide) dL_law_237 (fun H locs hv => ?_)
  refine sX X (mA_takeStep l g X.2.2.2 S B y (upd (fun _ => 0) 0 0) 0 rfl _ _ hN hev) hv hl dL_law_238 ⟨Nat.le_of_ble_eq_true rfl, Nat.le_of_ble_eq_true rfl⟩ ⟨Nat.le_of_ble_eq_true rfl, Nat.le_of_ble_eq_true rfl⟩ he kX_1 (fun H locs hw => ?_)
  refine lv_ldc (v := (-2000000001)) X.1.1 X.1.2.1 X.1.2.2.1 (X.1.2.2.2 _ q901) dL_law_241 ?_
  refine lv_icmp_ne (tgt := 965) X.1.1 X.1.2.1 dL_law_243 (by decide) (fun h9 => absurd rfl h9) (fun _ => ?_)
  refine W.widen (k := 207) (n := 4073) (Nat.le_of_ble_eq_true rfl) (Nat.le_of_ble_eq_true rfl) ?_
  exact fin _ _ _ _ _ hV hw hr hl
set_option maxHeartbeats 4000000 in
set_option maxRecDepth 100000 in
theorem w_law_14 {p : Program} {l : Launch} {e : Env} {s : State} {m : MethodId} {args : Array Value} {below : List Frame} {meth : Method} {c : Code} {g : wG} {Q : State → Prop} {y : (Nat → Nat → Int32) × (Nat → Int64) × (Nat → UInt64)} {bs : Nat} (X : LX p l s m args c cL_law 2 g)
    (fin : FN p l e room_1 s m args below meth c g y Q 0 (ch_law_15) 2 [(1, .ref (gA g 0)), (0, .ref bs)] 213 4104 264) : FN p l e room_1 s m args below meth c g y Q 0 (ch_law_14) 2 [(1, .ref (gA g 0)), (0, .ref bs)] 207 4073 246 := by
  intro S B H locs ls hV hw hr hl
  obtain ⟨n9, m9, ne9, n8, m8, hN, hN1, hev, hne, hne2⟩ := hV.cnt
  obtain ⟨he, hr⟩ := cX_e hr
  refine lv_aload_n X.1.1 X.1.2.1 dL_law_246 rfl (lv_at hl 0 rfl) ?_
  refine lv_bipush (v := (nI 101)) X.1.1 X.1.2.1 dL_law_247 (by decide +kernel) ?_
  refine lv_iconst (v := 1) X.1.1 X.1.2.1 dL_law_249 (by decide) ?_
  refine k_newv (n := 1) (N := 1) X.1 X.2.2.1 hw q_ai (by decide) (by decide) (by decide) (Nat.le_of_ble_eq_true rfl) (Nat.le_of_ble_eq_true rfl) dL_law_250 (fun b H hv => ?_)
  refine lv_dup X.1.1 X.1.2.1 dL_law_252 rfl ?_
  refine lv_iconst (v := 0) X.1.1 X.1.2.1 dL_law_253 (by decide) ?_
  refine lv_iconst (v := 0) X.1.1 X.1.2.1 dL_law_254 (by decide) ?_
  refine k_vst (v := 0) (n := 0) X.1 X.2.2.1 hv (vp_in_nI (n := 0) (by decide) (by decide)) (by decide) dL_law_255 (fun H locs hv => ?_)
  refine sX X (mA_examine l g X.2.2.2 S B y (upd (fun _ => 0) 0 0) 0 rfl _ _ hN hev) hv hl dL_law_256 ⟨Nat.le_of_ble_eq_true rfl, Nat.le_of_ble_eq_true rfl⟩ ⟨Nat.le_of_ble_eq_true rfl, Nat.le_of_ble_eq_true rfl⟩ he kX_1 (fun H locs hw => ?_)
  refine lv_ldc (v := (-2000000001)) X.1.1 X.1.2.1 X.1.2.2.1 (X.1.2.2.2 _ q901) dL_law_259 ?_
  refine lv_icmp_ne (tgt := 965) X.1.1 X.1.2.1 dL_law_261 (by decide) (fun h9 => absurd rfl h9) (fun _ => ?_)
  refine W.widen (k := 213) (n := 4104) (Nat.le_of_ble_eq_true rfl) (Nat.le_of_ble_eq_true rfl) ?_
  exact fin _ _ _ _ _ hV hw hr hl
set_option maxHeartbeats 4000000 in
set_option maxRecDepth 100000 in
theorem w_law_15 {p : Program} {l : Launch} {e : Env} {s : State} {m : MethodId} {args : Array Value} {below : List Frame} {meth : Method} {c : Code} {g : wG} {Q : State → Prop} {y : (Nat → Nat → Int32) × (Nat → Int64) × (Nat → UInt64)} {bs : Nat} (X : LX p l s m args c cL_law 2 g)
    (fin : FN p l e room_1 s m args below meth c g y Q 0 (ch_law_16) 2 [(1, .ref (gA g 0)), (0, .ref bs)] 219 4135 282) : FN p l e room_1 s m args below meth c g y Q 0 (ch_law_15) 2 [(1, .ref (gA g 0)), (0, .ref bs)] 213 4104 264 := by
  intro S B H locs ls hV hw hr hl
  obtain ⟨n9, m9, ne9, n8, m8, hN, hN1, hev, hne, hne2⟩ := hV.cnt
  obtain ⟨he, hr⟩ := cX_e hr
  refine lv_aload_n X.1.1 X.1.2.1 dL_law_264 rfl (lv_at hl 0 rfl) ?_
  refine lv_bipush (v := (nI 115)) X.1.1 X.1.2.1 dL_law_265 (by decide +kernel) ?_
  refine lv_iconst (v := 1) X.1.1 X.1.2.1 dL_law_267 (by decide) ?_
  refine k_newv (n := 1) (N := 1) X.1 X.2.2.1 hw q_ai (by decide) (by decide) (by decide) (Nat.le_of_ble_eq_true rfl) (Nat.le_of_ble_eq_true rfl) dL_law_268 (fun b H hv => ?_)
  refine lv_dup X.1.1 X.1.2.1 dL_law_270 rfl ?_
  refine lv_iconst (v := 0) X.1.1 X.1.2.1 dL_law_271 (by decide) ?_
  refine lv_iconst (v := 0) X.1.1 X.1.2.1 dL_law_272 (by decide) ?_
  refine k_vst (v := 0) (n := 0) X.1 X.2.2.1 hv (vp_in_nI (n := 0) (by decide) (by decide)) (by decide) dL_law_273 (fun H locs hv => ?_)
  refine sX X (mA_state l g X.2.2.2 S B y (upd (fun _ => 0) 0 0) 0 rfl _ _ hN) hv hl dL_law_274 ⟨Nat.le_of_ble_eq_true rfl, Nat.le_of_ble_eq_true rfl⟩ ⟨Nat.le_of_ble_eq_true rfl, Nat.le_of_ble_eq_true rfl⟩ he kX_1 (fun H locs hw => ?_)
  refine lv_ldc (v := (-2000000001)) X.1.1 X.1.2.1 X.1.2.2.1 (X.1.2.2.2 _ q901) dL_law_277 ?_
  refine lv_icmp_ne (tgt := 965) X.1.1 X.1.2.1 dL_law_279 (by decide) (fun h9 => absurd rfl h9) (fun _ => ?_)
  refine W.widen (k := 219) (n := 4135) (Nat.le_of_ble_eq_true rfl) (Nat.le_of_ble_eq_true rfl) ?_
  exact fin _ _ _ _ _ hV hw hr hl
set_option maxHeartbeats 4000000 in
set_option maxRecDepth 100000 in
theorem w_law_16 {p : Program} {l : Launch} {e : Env} {s : State} {m : MethodId} {args : Array Value} {below : List Frame} {meth : Method} {c : Code} {g : wG} {Q : State → Prop} {y : (Nat → Nat → Int32) × (Nat → Int64) × (Nat → UInt64)} {bs : Nat} (X : LX p l s m args c cL_law 2 g)
    (fin : FN p l e room_1 s m args below meth c g y Q 0 (ch_law_17) 2 [(1, .ref (gA g 0)), (0, .ref bs)] 225 4166 301) : FN p l e room_1 s m args below meth c g y Q 0 (ch_law_16) 2 [(1, .ref (gA g 0)), (0, .ref bs)] 219 4135 282 := by
  intro S B H locs ls hV hw hr hl
  obtain ⟨n9, m9, ne9, n8, m8, hN, hN1, hev, hne, hne2⟩ := hV.cnt
  obtain ⟨he, hr⟩ := cX_e hr
  refine lv_aload_n X.1.1 X.1.2.1 dL_law_282 rfl (lv_at hl 0 rfl) ?_
  refine lv_bipush (v := (nI 78)) X.1.1 X.1.2.1 dL_law_283 (by decide +kernel) ?_
  refine lv_iconst (v := 1) X.1.1 X.1.2.1 dL_law_285 (by decide) ?_
  refine k_newv (n := 1) (N := 1) X.1 X.2.2.1 hw q_ai (by decide) (by decide) (by decide) (Nat.le_of_ble_eq_true rfl) (Nat.le_of_ble_eq_true rfl) dL_law_286 (fun b H hv => ?_)
  refine lv_dup X.1.1 X.1.2.1 dL_law_288 rfl ?_
  refine lv_iconst (v := 0) X.1.1 X.1.2.1 dL_law_289 (by decide) ?_
  refine lv_bipush (v := 120) X.1.1 X.1.2.1 dL_law_290 (by decide +kernel) ?_
  refine k_vst (v := 120) (n := 0) X.1 X.2.2.1 hv (vp_in_nI (n := 0) (by decide) (by decide)) (by decide) dL_law_292 (fun H locs hv => ?_)
  refine sX X (mA_countState l g X.2.2.2 S B y (upd (fun _ => 0) 0 120) 120 rfl _ _ hN) hv hl dL_law_293 ⟨Nat.le_of_ble_eq_true rfl, Nat.le_of_ble_eq_true rfl⟩ ⟨Nat.le_of_ble_eq_true rfl, Nat.le_of_ble_eq_true rfl⟩ he kX_2 (fun H locs hw => ?_)
  refine lv_ldc (v := (-2000000002)) X.1.1 X.1.2.1 X.1.2.2.1 (X.1.2.2.2 _ q902) dL_law_296 ?_
  refine lv_icmp_ne (tgt := 965) X.1.1 X.1.2.1 dL_law_298 (by decide) (fun h9 => absurd rfl h9) (fun _ => ?_)
  refine W.widen (k := 225) (n := 4166) (Nat.le_of_ble_eq_true rfl) (Nat.le_of_ble_eq_true rfl) ?_
  exact fin _ _ _ _ _ hV hw hr hl
set_option maxHeartbeats 4000000 in
set_option maxRecDepth 100000 in
theorem w_law_17 {p : Program} {l : Launch} {e : Env} {s : State} {m : MethodId} {args : Array Value} {below : List Frame} {meth : Method} {c : Code} {g : wG} {Q : State → Prop} {y : (Nat → Nat → Int32) × (Nat → Int64) × (Nat → UInt64)} {bs : Nat} (X : LX p l s m args c cL_law 2 g)
    (fin : FN p l e room_1 s m args below meth c g y Q 0 (ch_law_18) 2 [(1, .ref (gA g 0)), (0, .ref bs)] 231 4197 318) : FN p l e room_1 s m args below meth c g y Q 0 (ch_law_17) 2 [(1, .ref (gA g 0)), (0, .ref bs)] 225 4166 301 := by
  intro S B H locs ls hV hw hr hl
  obtain ⟨n9, m9, ne9, n8, m8, hN, hN1, hev, hne, hne2⟩ := hV.cnt
  obtain ⟨he, hq, hr⟩ := cQ_e hr
  refine lv_aload_n X.1.1 X.1.2.1 dL_law_301 rfl (lv_at hl 0 rfl) ?_
  refine lv_bipush (v := (nI 78)) X.1.1 X.1.2.1 dL_law_302 (by decide +kernel) ?_
  refine lv_iconst (v := 1) X.1.1 X.1.2.1 dL_law_304 (by decide) ?_
  refine k_newv (n := 1) (N := 1) X.1 X.2.2.1 hw q_ai (by decide) (by decide) (by decide) (Nat.le_of_ble_eq_true rfl) (Nat.le_of_ble_eq_true rfl) dL_law_305 (fun b H hv => ?_)
  refine lv_dup X.1.1 X.1.2.1 dL_law_307 rfl ?_
  refine lv_iconst (v := 0) X.1.1 X.1.2.1 dL_law_308 (by decide) ?_
  refine lv_bipush (v := 110) X.1.1 X.1.2.1 dL_law_309 (by decide +kernel) ?_
  refine k_vst (v := 110) (n := 0) X.1 X.2.2.1 hv (vp_in_nI (n := 0) (by decide) (by decide)) (by decide) dL_law_311 (fun H locs hv => ?_)
  refine sN X (mA_countState l g X.2.2.2 S B y (upd (fun _ => 0) 0 110) 110 rfl _ _ hN) hv hl dL_law_312 ⟨Nat.le_of_ble_eq_true rfl, Nat.le_of_ble_eq_true rfl⟩ ⟨Nat.le_of_ble_eq_true rfl, Nat.le_of_ble_eq_true rfl⟩ he (fun H locs hw => ?_)
  refine vn_ (v9 := 0) (vIs_e hq) ?_
  refine lv_if_ne (tgt := 965) X.1.1 X.1.2.1 dL_law_315 (by decide) (fun h9 => absurd rfl h9) (fun _ => ?_)
  refine W.widen (k := 231) (n := 4197) (Nat.le_of_ble_eq_true rfl) (Nat.le_of_ble_eq_true rfl) ?_
  exact fin _ _ _ _ _ hV hw hr hl
set_option maxHeartbeats 4000000 in
set_option maxRecDepth 100000 in
theorem w_law_18 {p : Program} {l : Launch} {e : Env} {s : State} {m : MethodId} {args : Array Value} {below : List Frame} {meth : Method} {c : Code} {g : wG} {Q : State → Prop} {y : (Nat → Nat → Int32) × (Nat → Int64) × (Nat → UInt64)} {bs : Nat} (X : LX p l s m args c cL_law 2 g)
    (fin : FN p l e room_1 s m args below meth c g y Q 0 (ch_law_19) 2 [(1, .ref (gA g 0)), (0, .ref bs)] 237 4228 337) : FN p l e room_1 s m args below meth c g y Q 0 (ch_law_18) 2 [(1, .ref (gA g 0)), (0, .ref bs)] 231 4197 318 := by
  intro S B H locs ls hV hw hr hl
  obtain ⟨n9, m9, ne9, n8, m8, hN, hN1, hev, hne, hne2⟩ := hV.cnt
  obtain ⟨he, hr⟩ := cX_e hr
  refine lv_aload_n X.1.1 X.1.2.1 dL_law_318 rfl (lv_at hl 0 rfl) ?_
  refine lv_bipush (v := (nI 80)) X.1.1 X.1.2.1 dL_law_319 (by decide +kernel) ?_
  refine lv_iconst (v := 1) X.1.1 X.1.2.1 dL_law_321 (by decide) ?_
  refine k_newv (n := 1) (N := 1) X.1 X.2.2.1 hw q_ai (by decide) (by decide) (by decide) (Nat.le_of_ble_eq_true rfl) (Nat.le_of_ble_eq_true rfl) dL_law_322 (fun b H hv => ?_)
  refine lv_dup X.1.1 X.1.2.1 dL_law_324 rfl ?_
  refine lv_iconst (v := 0) X.1.1 X.1.2.1 dL_law_325 (by decide) ?_
  refine lv_bipush (v := 50) X.1.1 X.1.2.1 dL_law_326 (by decide +kernel) ?_
  refine k_vst (v := 50) (n := 0) X.1 X.2.2.1 hv (vp_in_nI (n := 0) (by decide) (by decide)) (by decide) dL_law_328 (fun H locs hv => ?_)
  refine sX X (mA_countOf l g X.2.2.2 S B y (upd (fun _ => 0) 0 50) 50 rfl _ _ hN) hv hl dL_law_329 ⟨Nat.le_of_ble_eq_true rfl, Nat.le_of_ble_eq_true rfl⟩ ⟨Nat.le_of_ble_eq_true rfl, Nat.le_of_ble_eq_true rfl⟩ he kX_2 (fun H locs hw => ?_)
  refine lv_ldc (v := (-2000000002)) X.1.1 X.1.2.1 X.1.2.2.1 (X.1.2.2.2 _ q902) dL_law_332 ?_
  refine lv_icmp_ne (tgt := 965) X.1.1 X.1.2.1 dL_law_334 (by decide) (fun h9 => absurd rfl h9) (fun _ => ?_)
  refine W.widen (k := 237) (n := 4228) (Nat.le_of_ble_eq_true rfl) (Nat.le_of_ble_eq_true rfl) ?_
  exact fin _ _ _ _ _ hV hw hr hl
set_option maxHeartbeats 4000000 in
set_option maxRecDepth 100000 in
theorem w_law_19 {p : Program} {l : Launch} {e : Env} {s : State} {m : MethodId} {args : Array Value} {below : List Frame} {meth : Method} {c : Code} {g : wG} {Q : State → Prop} {y : (Nat → Nat → Int32) × (Nat → Int64) × (Nat → UInt64)} {bs : Nat} (X : LX p l s m args c cL_law 2 g)
    (fin : FN p l e room_1 s m args below meth c g y Q 0 (ch_law_20) 2 [(1, .ref (gA g 0)), (0, .ref bs)] 243 4259 353) : FN p l e room_1 s m args below meth c g y Q 0 (ch_law_19) 2 [(1, .ref (gA g 0)), (0, .ref bs)] 237 4228 337 := by
  intro S B H locs ls hV hw hr hl
  obtain ⟨n9, m9, ne9, n8, m8, hN, hN1, hev, hne, hne2⟩ := hV.cnt
  obtain ⟨he, hq, hr⟩ := cQ_e hr
  refine lv_aload_n X.1.1 X.1.2.1 dL_law_337 rfl (lv_at hl 0 rfl) ?_
  refine lv_bipush (v := (nI 80)) X.1.1 X.1.2.1 dL_law_338 (by decide +kernel) ?_
  refine lv_iconst (v := 1) X.1.1 X.1.2.1 dL_law_340 (by decide) ?_
  refine k_newv (n := 1) (N := 1) X.1 X.2.2.1 hw q_ai (by decide) (by decide) (by decide) (Nat.le_of_ble_eq_true rfl) (Nat.le_of_ble_eq_true rfl) dL_law_341 (fun b H hv => ?_)
  refine lv_dup X.1.1 X.1.2.1 dL_law_343 rfl ?_
  refine lv_iconst (v := 0) X.1.1 X.1.2.1 dL_law_344 (by decide) ?_
  refine lv_iconst (v := 0) X.1.1 X.1.2.1 dL_law_345 (by decide) ?_
  refine k_vst (v := 0) (n := 0) X.1 X.2.2.1 hv (vp_in_nI (n := 0) (by decide) (by decide)) (by decide) dL_law_346 (fun H locs hv => ?_)
  refine sN X (mA_countOf l g X.2.2.2 S B y (upd (fun _ => 0) 0 0) 0 rfl _ _ hN) hv hl dL_law_347 ⟨Nat.le_of_ble_eq_true rfl, Nat.le_of_ble_eq_true rfl⟩ ⟨Nat.le_of_ble_eq_true rfl, Nat.le_of_ble_eq_true rfl⟩ he (fun H locs hw => ?_)
  refine vn_ (v9 := 0) (vIs_e hq) ?_
  refine lv_if_ne (tgt := 965) X.1.1 X.1.2.1 dL_law_350 (by decide) (fun h9 => absurd rfl h9) (fun _ => ?_)
  refine W.widen (k := 243) (n := 4259) (Nat.le_of_ble_eq_true rfl) (Nat.le_of_ble_eq_true rfl) ?_
  exact fin _ _ _ _ _ hV hw hr hl
set_option maxHeartbeats 4000000 in
set_option maxRecDepth 100000 in
theorem w_law_20 {p : Program} {l : Launch} {e : Env} {s : State} {m : MethodId} {args : Array Value} {below : List Frame} {meth : Method} {c : Code} {g : wG} {Q : State → Prop} {y : (Nat → Nat → Int32) × (Nat → Int64) × (Nat → UInt64)} {bs : Nat} (X : LX p l s m args c cL_law 2 g)
    (fin : FN p l e room_1 s m args below meth c g y Q 0 (ch_law_21) 2 [(1, .ref (gA g 0)), (0, .ref bs)] 249 4290 371) : FN p l e room_1 s m args below meth c g y Q 0 (ch_law_20) 2 [(1, .ref (gA g 0)), (0, .ref bs)] 243 4259 353 := by
  intro S B H locs ls hV hw hr hl
  obtain ⟨n9, m9, ne9, n8, m8, hN, hN1, hev, hne, hne2⟩ := hV.cnt
  obtain ⟨he, hr⟩ := cX_e hr
  refine lv_aload_n X.1.1 X.1.2.1 dL_law_353 rfl (lv_at hl 0 rfl) ?_
  refine lv_bipush (v := (nI 97)) X.1.1 X.1.2.1 dL_law_354 (by decide +kernel) ?_
  refine lv_iconst (v := 1) X.1.1 X.1.2.1 dL_law_356 (by decide) ?_
  refine k_newv (n := 1) (N := 1) X.1 X.2.2.1 hw q_ai (by decide) (by decide) (by decide) (Nat.le_of_ble_eq_true rfl) (Nat.le_of_ble_eq_true rfl) dL_law_357 (fun b H hv => ?_)
  refine lv_dup X.1.1 X.1.2.1 dL_law_359 rfl ?_
  refine lv_iconst (v := 0) X.1.1 X.1.2.1 dL_law_360 (by decide) ?_
  refine lv_iconst (v := 0) X.1.1 X.1.2.1 dL_law_361 (by decide) ?_
  refine k_vst (v := 0) (n := 0) X.1 X.2.2.1 hv (vp_in_nI (n := 0) (by decide) (by decide)) (by decide) dL_law_362 (fun H locs hv => ?_)
  refine sX X (mA_ask l g X.2.2.2 S B y (upd (fun _ => 0) 0 0) 0 rfl _ _ hN hev) hv hl dL_law_363 ⟨Nat.le_of_ble_eq_true rfl, Nat.le_of_ble_eq_true rfl⟩ ⟨Nat.le_of_ble_eq_true rfl, Nat.le_of_ble_eq_true rfl⟩ he kX_1 (fun H locs hw => ?_)
  refine lv_ldc (v := (-2000000001)) X.1.1 X.1.2.1 X.1.2.2.1 (X.1.2.2.2 _ q901) dL_law_366 ?_
  refine lv_icmp_ne (tgt := 965) X.1.1 X.1.2.1 dL_law_368 (by decide) (fun h9 => absurd rfl h9) (fun _ => ?_)
  refine W.widen (k := 249) (n := 4290) (Nat.le_of_ble_eq_true rfl) (Nat.le_of_ble_eq_true rfl) ?_
  exact fin _ _ _ _ _ hV hw hr hl
set_option maxHeartbeats 4000000 in
set_option maxRecDepth 100000 in
theorem w_law_21 {p : Program} {l : Launch} {e : Env} {s : State} {m : MethodId} {args : Array Value} {below : List Frame} {meth : Method} {c : Code} {g : wG} {Q : State → Prop} {y : (Nat → Nat → Int32) × (Nat → Int64) × (Nat → UInt64)} {bs : Nat} (X : LX p l s m args c cL_law 2 g)
    (fin : FN p l e room_1 s m args below meth c g y Q 0 (ch_law_22) 2 [(1, .ref (gA g 0)), (0, .ref bs)] 255 4322 393) : FN p l e room_1 s m args below meth c g y Q 0 (ch_law_21) 2 [(1, .ref (gA g 0)), (0, .ref bs)] 249 4290 371 := by
  intro S B H locs ls hV hw hr hl
  obtain ⟨n9, m9, ne9, n8, m8, hN, hN1, hev, hne, hne2⟩ := hV.cnt
  obtain ⟨he, hr⟩ := cX_e hr
  refine lv_aload_n X.1.1 X.1.2.1 dL_law_371 rfl (lv_at hl 0 rfl) ?_
  refine lv_bipush (v := (nI 69)) X.1.1 X.1.2.1 dL_law_372 (by decide +kernel) ?_
  refine lv_iconst (v := 2) X.1.1 X.1.2.1 dL_law_374 (by decide) ?_
  refine k_newv (n := 2) (N := 2) X.1 X.2.2.1 hw q_ai (by decide) (by decide) (by decide) (Nat.le_of_ble_eq_true rfl) (Nat.le_of_ble_eq_true rfl) dL_law_375 (fun b H hv => ?_)
  refine lv_dup X.1.1 X.1.2.1 dL_law_377 rfl ?_
  refine lv_iconst (v := 0) X.1.1 X.1.2.1 dL_law_378 (by decide) ?_
  refine lv_iconst (v := 0) X.1.1 X.1.2.1 dL_law_379 (by decide) ?_
  refine k_vst (v := 0) (n := 0) X.1 X.2.2.1 hv (vp_in_nI (n := 0) (by decide) (by decide)) (by decide) dL_law_380 (fun H locs hv => ?_)
  refine lv_dup X.1.1 X.1.2.1 dL_law_381 rfl ?_
  refine lv_iconst (v := 1) X.1.1 X.1.2.1 dL_law_382 (by decide) ?_
  refine lv_iconst (v := 0) X.1.1 X.1.2.1 dL_law_383 (by decide) ?_
  refine k_vst (v := 0) (n := 1) X.1 X.2.2.1 hv (vp_in_nI (n := 1) (by decide) (by decide)) (by decide) dL_law_384 (fun H locs hv => ?_)
  refine sX X (mA_extend l g X.2.2.2 S B y (upd (upd (fun _ => 0) 0 0) 1 0) 0 0 rfl rfl _ _ hN hev) hv hl dL_law_385 ⟨Nat.le_of_ble_eq_true rfl, Nat.le_of_ble_eq_true rfl⟩ ⟨Nat.le_of_ble_eq_true rfl, Nat.le_of_ble_eq_true rfl⟩ he kX_1 (fun H locs hw => ?_)
  refine lv_ldc (v := (-2000000001)) X.1.1 X.1.2.1 X.1.2.2.1 (X.1.2.2.2 _ q901) dL_law_388 ?_
  refine lv_icmp_ne (tgt := 965) X.1.1 X.1.2.1 dL_law_390 (by decide) (fun h9 => absurd rfl h9) (fun _ => ?_)
  refine W.widen (k := 255) (n := 4322) (Nat.le_of_ble_eq_true rfl) (Nat.le_of_ble_eq_true rfl) ?_
  exact fin _ _ _ _ _ hV hw hr hl
set_option maxHeartbeats 4000000 in
set_option maxRecDepth 100000 in
theorem w_law_22 {p : Program} {l : Launch} {e : Env} {s : State} {m : MethodId} {args : Array Value} {below : List Frame} {meth : Method} {c : Code} {g : wG} {Q : State → Prop} {y : (Nat → Nat → Int32) × (Nat → Int64) × (Nat → UInt64)} {bs : Nat} (X : LX p l s m args c cL_law 2 g)
    (fin : FN p l e room_1 s m args below meth c g y Q 0 (ch_law_23) 2 [(1, .ref (gA g 0)), (0, .ref bs)] 261 4353 411) : FN p l e room_1 s m args below meth c g y Q 0 (ch_law_22) 2 [(1, .ref (gA g 0)), (0, .ref bs)] 255 4322 393 := by
  intro S B H locs ls hV hw hr hl
  obtain ⟨n9, m9, ne9, n8, m8, hN, hN1, hev, hne, hne2⟩ := hV.cnt
  obtain ⟨he, hr⟩ := cX_e hr
  refine lv_aload_n X.1.1 X.1.2.1 dL_law_393 rfl (lv_at hl 0 rfl) ?_
  refine lv_bipush (v := (nI 114)) X.1.1 X.1.2.1 dL_law_394 (by decide +kernel) ?_
  refine lv_iconst (v := 1) X.1.1 X.1.2.1 dL_law_396 (by decide) ?_
  refine k_newv (n := 1) (N := 1) X.1 X.2.2.1 hw q_ai (by decide) (by decide) (by decide) (Nat.le_of_ble_eq_true rfl) (Nat.le_of_ble_eq_true rfl) dL_law_397 (fun b H hv => ?_)
  refine lv_dup X.1.1 X.1.2.1 dL_law_399 rfl ?_
  refine lv_iconst (v := 0) X.1.1 X.1.2.1 dL_law_400 (by decide) ?_
  refine lv_iconst (v := 0) X.1.1 X.1.2.1 dL_law_401 (by decide) ?_
  refine k_vst (v := 0) (n := 0) X.1 X.2.2.1 hv (vp_in_nI (n := 0) (by decide) (by decide)) (by decide) dL_law_402 (fun H locs hv => ?_)
  refine sX X (mA_remind l g X.2.2.2 S B y (upd (fun _ => 0) 0 0) 0 rfl _ _ hN hev) hv hl dL_law_403 ⟨Nat.le_of_ble_eq_true rfl, Nat.le_of_ble_eq_true rfl⟩ ⟨Nat.le_of_ble_eq_true rfl, Nat.le_of_ble_eq_true rfl⟩ he kX_1 (fun H locs hw => ?_)
  refine lv_ldc (v := (-2000000001)) X.1.1 X.1.2.1 X.1.2.2.1 (X.1.2.2.2 _ q901) dL_law_406 ?_
  refine lv_icmp_ne (tgt := 965) X.1.1 X.1.2.1 dL_law_408 (by decide) (fun h9 => absurd rfl h9) (fun _ => ?_)
  refine W.widen (k := 261) (n := 4353) (Nat.le_of_ble_eq_true rfl) (Nat.le_of_ble_eq_true rfl) ?_
  exact fin _ _ _ _ _ hV hw hr hl
set_option maxHeartbeats 4000000 in
set_option maxRecDepth 100000 in
theorem w_law_23 {p : Program} {l : Launch} {e : Env} {s : State} {m : MethodId} {args : Array Value} {below : List Frame} {meth : Method} {c : Code} {g : wG} {Q : State → Prop} {y : (Nat → Nat → Int32) × (Nat → Int64) × (Nat → UInt64)} {bs : Nat} (X : LX p l s m args c cL_law 2 g)
    (fin : FN p l e room_1 s m args below meth c g y Q 0 (ch_law_24) 2 [(1, .ref (gA g 0)), (0, .ref bs)] 267 4384 429) : FN p l e room_1 s m args below meth c g y Q 0 (ch_law_23) 2 [(1, .ref (gA g 0)), (0, .ref bs)] 261 4353 411 := by
  intro S B H locs ls hV hw hr hl
  obtain ⟨n9, m9, ne9, n8, m8, hN, hN1, hev, hne, hne2⟩ := hV.cnt
  obtain ⟨he, hr⟩ := cX_e hr
  refine lv_aload_n X.1.1 X.1.2.1 dL_law_411 rfl (lv_at hl 0 rfl) ?_
  refine lv_bipush (v := (nI 65)) X.1.1 X.1.2.1 dL_law_412 (by decide +kernel) ?_
  refine lv_iconst (v := 1) X.1.1 X.1.2.1 dL_law_414 (by decide) ?_
  refine k_newv (n := 1) (N := 1) X.1 X.2.2.1 hw q_ai (by decide) (by decide) (by decide) (Nat.le_of_ble_eq_true rfl) (Nat.le_of_ble_eq_true rfl) dL_law_415 (fun b H hv => ?_)
  refine lv_dup X.1.1 X.1.2.1 dL_law_417 rfl ?_
  refine lv_iconst (v := 0) X.1.1 X.1.2.1 dL_law_418 (by decide) ?_
  refine lv_iconst (v := 0) X.1.1 X.1.2.1 dL_law_419 (by decide) ?_
  refine k_vst (v := 0) (n := 0) X.1 X.2.2.1 hv (vp_in_nI (n := 0) (by decide) (by decide)) (by decide) dL_law_420 (fun H locs hv => ?_)
  refine sX X (mA_answer l g X.2.2.2 S B y (upd (fun _ => 0) 0 0) 0 rfl _ _ hN hev) hv hl dL_law_421 ⟨Nat.le_of_ble_eq_true rfl, Nat.le_of_ble_eq_true rfl⟩ ⟨Nat.le_of_ble_eq_true rfl, Nat.le_of_ble_eq_true rfl⟩ he kX_1 (fun H locs hw => ?_)
  refine lv_ldc (v := (-2000000001)) X.1.1 X.1.2.1 X.1.2.2.1 (X.1.2.2.2 _ q901) dL_law_424 ?_
  refine lv_icmp_ne (tgt := 965) X.1.1 X.1.2.1 dL_law_426 (by decide) (fun h9 => absurd rfl h9) (fun _ => ?_)
  refine W.widen (k := 267) (n := 4384) (Nat.le_of_ble_eq_true rfl) (Nat.le_of_ble_eq_true rfl) ?_
  exact fin _ _ _ _ _ hV hw hr hl
set_option maxHeartbeats 4000000 in
set_option maxRecDepth 100000 in
theorem w_law_24 {p : Program} {l : Launch} {e : Env} {s : State} {m : MethodId} {args : Array Value} {below : List Frame} {meth : Method} {c : Code} {g : wG} {Q : State → Prop} {y : (Nat → Nat → Int32) × (Nat → Int64) × (Nat → UInt64)} {bs : Nat} (X : LX p l s m args c cL_law 2 g)
    (fin : FN p l e room_1 s m args below meth c g y Q 0 (ch_law_25) 2 [(1, .ref (gA g 0)), (0, .ref bs)] 273 4415 447) : FN p l e room_1 s m args below meth c g y Q 0 (ch_law_24) 2 [(1, .ref (gA g 0)), (0, .ref bs)] 267 4384 429 := by
  intro S B H locs ls hV hw hr hl
  obtain ⟨n9, m9, ne9, n8, m8, hN, hN1, hev, hne, hne2⟩ := hV.cnt
  obtain ⟨he, hr⟩ := cX_e hr
  refine lv_aload_n X.1.1 X.1.2.1 dL_law_429 rfl (lv_at hl 0 rfl) ?_
  refine lv_bipush (v := (nI 83)) X.1.1 X.1.2.1 dL_law_430 (by decide +kernel) ?_
  refine lv_iconst (v := 1) X.1.1 X.1.2.1 dL_law_432 (by decide) ?_
  refine k_newv (n := 1) (N := 1) X.1 X.2.2.1 hw q_ai (by decide) (by decide) (by decide) (Nat.le_of_ble_eq_true rfl) (Nat.le_of_ble_eq_true rfl) dL_law_433 (fun b H hv => ?_)
  refine lv_dup X.1.1 X.1.2.1 dL_law_435 rfl ?_
  refine lv_iconst (v := 0) X.1.1 X.1.2.1 dL_law_436 (by decide) ?_
  refine lv_iconst (v := 0) X.1.1 X.1.2.1 dL_law_437 (by decide) ?_
  refine k_vst (v := 0) (n := 0) X.1 X.2.2.1 hv (vp_in_nI (n := 0) (by decide) (by decide)) (by decide) dL_law_438 (fun H locs hv => ?_)
  refine sX X (mA_takeSilence l g X.2.2.2 S B y (upd (fun _ => 0) 0 0) 0 rfl _ _ hN hev) hv hl dL_law_439 ⟨Nat.le_of_ble_eq_true rfl, Nat.le_of_ble_eq_true rfl⟩ ⟨Nat.le_of_ble_eq_true rfl, Nat.le_of_ble_eq_true rfl⟩ he kX_1 (fun H locs hw => ?_)
  refine lv_ldc (v := (-2000000001)) X.1.1 X.1.2.1 X.1.2.2.1 (X.1.2.2.2 _ q901) dL_law_442 ?_
  refine lv_icmp_ne (tgt := 965) X.1.1 X.1.2.1 dL_law_444 (by decide) (fun h9 => absurd rfl h9) (fun _ => ?_)
  refine W.widen (k := 273) (n := 4415) (Nat.le_of_ble_eq_true rfl) (Nat.le_of_ble_eq_true rfl) ?_
  exact fin _ _ _ _ _ hV hw hr hl
set_option maxHeartbeats 4000000 in
set_option maxRecDepth 100000 in
theorem w_law_25 {p : Program} {l : Launch} {e : Env} {s : State} {m : MethodId} {args : Array Value} {below : List Frame} {meth : Method} {c : Code} {g : wG} {Q : State → Prop} {y : (Nat → Nat → Int32) × (Nat → Int64) × (Nat → UInt64)} {bs : Nat} (X : LX p l s m args c cL_law 2 g)
    (fin : FN p l e room_1 s m args below meth c g y Q 0 (ch_law_26) 2 [(1, .ref (gA g 0)), (0, .ref bs)] 279 4446 465) : FN p l e room_1 s m args below meth c g y Q 0 (ch_law_25) 2 [(1, .ref (gA g 0)), (0, .ref bs)] 273 4415 447 := by
  intro S B H locs ls hV hw hr hl
  obtain ⟨n9, m9, ne9, n8, m8, hN, hN1, hev, hne, hne2⟩ := hV.cnt
  obtain ⟨he, hr⟩ := cX_e hr
  refine lv_aload_n X.1.1 X.1.2.1 dL_law_447 rfl (lv_at hl 0 rfl) ?_
  refine lv_bipush (v := (nI 111)) X.1.1 X.1.2.1 dL_law_448 (by decide +kernel) ?_
  refine lv_iconst (v := 1) X.1.1 X.1.2.1 dL_law_450 (by decide) ?_
  refine k_newv (n := 1) (N := 1) X.1 X.2.2.1 hw q_ai (by decide) (by decide) (by decide) (Nat.le_of_ble_eq_true rfl) (Nat.le_of_ble_eq_true rfl) dL_law_451 (fun b H hv => ?_)
  refine lv_dup X.1.1 X.1.2.1 dL_law_453 rfl ?_
  refine lv_iconst (v := 0) X.1.1 X.1.2.1 dL_law_454 (by decide) ?_
  refine lv_iconst (v := 0) X.1.1 X.1.2.1 dL_law_455 (by decide) ?_
  refine k_vst (v := 0) (n := 0) X.1 X.2.2.1 hv (vp_in_nI (n := 0) (by decide) (by decide)) (by decide) dL_law_456 (fun H locs hv => ?_)
  refine sX X (mA_isOverdue l g X.2.2.2 S B y (upd (fun _ => 0) 0 0) 0 rfl _ _ hN) hv hl dL_law_457 ⟨Nat.le_of_ble_eq_true rfl, Nat.le_of_ble_eq_true rfl⟩ ⟨Nat.le_of_ble_eq_true rfl, Nat.le_of_ble_eq_true rfl⟩ he kX_1 (fun H locs hw => ?_)
  refine lv_ldc (v := (-2000000001)) X.1.1 X.1.2.1 X.1.2.2.1 (X.1.2.2.2 _ q901) dL_law_460 ?_
  refine lv_icmp_ne (tgt := 965) X.1.1 X.1.2.1 dL_law_462 (by decide) (fun h9 => absurd rfl h9) (fun _ => ?_)
  refine W.widen (k := 279) (n := 4446) (Nat.le_of_ble_eq_true rfl) (Nat.le_of_ble_eq_true rfl) ?_
  exact fin _ _ _ _ _ hV hw hr hl
set_option maxHeartbeats 4000000 in
set_option maxRecDepth 100000 in
theorem w_law_26 {p : Program} {l : Launch} {e : Env} {s : State} {m : MethodId} {args : Array Value} {below : List Frame} {meth : Method} {c : Code} {g : wG} {Q : State → Prop} {y : (Nat → Nat → Int32) × (Nat → Int64) × (Nat → UInt64)} {bs : Nat} (X : LX p l s m args c cL_law 2 g)
    (fin : FN p l e room_1 s m args below meth c g y Q 0 (ch_law_27) 2 [(1, .ref (gA g 0)), (0, .ref bs)] 285 4476 479) : FN p l e room_1 s m args below meth c g y Q 0 (ch_law_26) 2 [(1, .ref (gA g 0)), (0, .ref bs)] 279 4446 465 := by
  intro S B H locs ls hV hw hr hl
  obtain ⟨n9, m9, ne9, n8, m8, hN, hN1, hev, hne, hne2⟩ := hV.cnt
  obtain ⟨he, hr⟩ := cX_e hr
  refine lv_aload_n X.1.1 X.1.2.1 dL_law_465 rfl (lv_at hl 0 rfl) ?_
  refine lv_bipush (v := (nI 110)) X.1.1 X.1.2.1 dL_law_466 (by decide +kernel) ?_
  refine lv_iconst (v := 0) X.1.1 X.1.2.1 dL_law_468 (by decide) ?_
  refine k_newv (n := 0) (N := 0) X.1 X.2.2.1 hw q_ai (by decide) (by decide) (by decide) (Nat.le_of_ble_eq_true rfl) (Nat.le_of_ble_eq_true rfl) dL_law_469 (fun b H hv => ?_)
  refine sX X (mA_nextDue l g X.2.2.2 S B y (fun _ => 0)  _ _ hN) hv hl dL_law_471 ⟨Nat.le_of_ble_eq_true rfl, Nat.le_of_ble_eq_true rfl⟩ ⟨Nat.le_of_ble_eq_true rfl, Nat.le_of_ble_eq_true rfl⟩ he kX_5 (fun H locs hw => ?_)
  refine lv_ldc (v := (-2000000005)) X.1.1 X.1.2.1 X.1.2.2.1 (X.1.2.2.2 _ q905) dL_law_474 ?_
  refine lv_icmp_ne (tgt := 965) X.1.1 X.1.2.1 dL_law_476 (by decide) (fun h9 => absurd rfl h9) (fun _ => ?_)
  refine W.widen (k := 285) (n := 4476) (Nat.le_of_ble_eq_true rfl) (Nat.le_of_ble_eq_true rfl) ?_
  exact fin _ _ _ _ _ hV hw hr hl
set_option maxHeartbeats 4000000 in
set_option maxRecDepth 100000 in
theorem w_law_27 {p : Program} {l : Launch} {e : Env} {s : State} {m : MethodId} {args : Array Value} {below : List Frame} {meth : Method} {c : Code} {g : wG} {Q : State → Prop} {y : (Nat → Nat → Int32) × (Nat → Int64) × (Nat → UInt64)} {bs : Nat} (X : LX p l s m args c cL_law 2 g)
    (fin : FN p l e room_1 s m args below meth c g y Q 0 (ch_law_28) 2 [(1, .ref (gA g 0)), (0, .ref bs)] 291 4508 501) : FN p l e room_1 s m args below meth c g y Q 0 (ch_law_27) 2 [(1, .ref (gA g 0)), (0, .ref bs)] 285 4476 479 := by
  intro S B H locs ls hV hw hr hl
  obtain ⟨n9, m9, ne9, n8, m8, hN, hN1, hev, hne, hne2⟩ := hV.cnt
  obtain ⟨he, hr⟩ := cX_e hr
  refine lv_aload_n X.1.1 X.1.2.1 dL_law_479 rfl (lv_at hl 0 rfl) ?_
  refine lv_bipush (v := (nI 106)) X.1.1 X.1.2.1 dL_law_480 (by decide +kernel) ?_
  refine lv_iconst (v := 2) X.1.1 X.1.2.1 dL_law_482 (by decide) ?_
  refine k_newv (n := 2) (N := 2) X.1 X.2.2.1 hw q_ai (by decide) (by decide) (by decide) (Nat.le_of_ble_eq_true rfl) (Nat.le_of_ble_eq_true rfl) dL_law_483 (fun b H hv => ?_)
  refine lv_dup X.1.1 X.1.2.1 dL_law_485 rfl ?_
  refine lv_iconst (v := 0) X.1.1 X.1.2.1 dL_law_486 (by decide) ?_
  refine lv_iconst (v := 0) X.1.1 X.1.2.1 dL_law_487 (by decide) ?_
  refine k_vst (v := 0) (n := 0) X.1 X.2.2.1 hv (vp_in_nI (n := 0) (by decide) (by decide)) (by decide) dL_law_488 (fun H locs hv => ?_)
  refine lv_dup X.1.1 X.1.2.1 dL_law_489 rfl ?_
  refine lv_iconst (v := 1) X.1.1 X.1.2.1 dL_law_490 (by decide) ?_
  refine lv_iconst (v := 0) X.1.1 X.1.2.1 dL_law_491 (by decide) ?_
  refine k_vst (v := 0) (n := 1) X.1 X.2.2.1 hv (vp_in_nI (n := 1) (by decide) (by decide)) (by decide) dL_law_492 (fun H locs hv => ?_)
  refine sX X (mA_join l g X.2.2.2 S B y (upd (upd (fun _ => 0) 0 0) 1 0) 0 0 rfl rfl _ _ hN hev) hv hl dL_law_493 ⟨Nat.le_of_ble_eq_true rfl, Nat.le_of_ble_eq_true rfl⟩ ⟨Nat.le_of_ble_eq_true rfl, Nat.le_of_ble_eq_true rfl⟩ he kX_1 (fun H locs hw => ?_)
  refine lv_ldc (v := (-2000000001)) X.1.1 X.1.2.1 X.1.2.2.1 (X.1.2.2.2 _ q901) dL_law_496 ?_
  refine lv_icmp_ne (tgt := 965) X.1.1 X.1.2.1 dL_law_498 (by decide) (fun h9 => absurd rfl h9) (fun _ => ?_)
  refine W.widen (k := 291) (n := 4508) (Nat.le_of_ble_eq_true rfl) (Nat.le_of_ble_eq_true rfl) ?_
  exact fin _ _ _ _ _ hV hw hr hl
set_option maxHeartbeats 4000000 in
set_option maxRecDepth 100000 in
theorem w_law_28 {p : Program} {l : Launch} {e : Env} {s : State} {m : MethodId} {args : Array Value} {below : List Frame} {meth : Method} {c : Code} {g : wG} {Q : State → Prop} {y : (Nat → Nat → Int32) × (Nat → Int64) × (Nat → UInt64)} {bs : Nat} (X : LX p l s m args c cL_law 2 g)
    (fin : FN p l e room_1 s m args below meth c g y Q 0 (ch_law_29) 2 [(1, .ref (gA g 0)), (0, .ref bs)] 297 4539 519) : FN p l e room_1 s m args below meth c g y Q 0 (ch_law_28) 2 [(1, .ref (gA g 0)), (0, .ref bs)] 291 4508 501 := by
  intro S B H locs ls hV hw hr hl
  obtain ⟨n9, m9, ne9, n8, m8, hN, hN1, hev, hne, hne2⟩ := hV.cnt
  obtain ⟨he, hr⟩ := cX_e hr
  refine lv_aload_n X.1.1 X.1.2.1 dL_law_501 rfl (lv_at hl 0 rfl) ?_
  refine lv_bipush (v := (nI 113)) X.1.1 X.1.2.1 dL_law_502 (by decide +kernel) ?_
  refine lv_iconst (v := 1) X.1.1 X.1.2.1 dL_law_504 (by decide) ?_
  refine k_newv (n := 1) (N := 1) X.1 X.2.2.1 hw q_ai (by decide) (by decide) (by decide) (Nat.le_of_ble_eq_true rfl) (Nat.le_of_ble_eq_true rfl) dL_law_505 (fun b H hv => ?_)
  refine lv_dup X.1.1 X.1.2.1 dL_law_507 rfl ?_
  refine lv_iconst (v := 0) X.1.1 X.1.2.1 dL_law_508 (by decide) ?_
  refine lv_iconst (v := 0) X.1.1 X.1.2.1 dL_law_509 (by decide) ?_
  refine k_vst (v := 0) (n := 0) X.1 X.2.2.1 hv (vp_in_nI (n := 0) (by decide) (by decide)) (by decide) dL_law_510 (fun H locs hv => ?_)
  refine sX X (mA_part l g X.2.2.2 S B y (upd (fun _ => 0) 0 0) 0 rfl _ _ hN hev) hv hl dL_law_511 ⟨Nat.le_of_ble_eq_true rfl, Nat.le_of_ble_eq_true rfl⟩ ⟨Nat.le_of_ble_eq_true rfl, Nat.le_of_ble_eq_true rfl⟩ he kX_1 (fun H locs hw => ?_)
  refine lv_ldc (v := (-2000000001)) X.1.1 X.1.2.1 X.1.2.2.1 (X.1.2.2.2 _ q901) dL_law_514 ?_
  refine lv_icmp_ne (tgt := 965) X.1.1 X.1.2.1 dL_law_516 (by decide) (fun h9 => absurd rfl h9) (fun _ => ?_)
  refine W.widen (k := 297) (n := 4539) (Nat.le_of_ble_eq_true rfl) (Nat.le_of_ble_eq_true rfl) ?_
  exact fin _ _ _ _ _ hV hw hr hl
set_option maxHeartbeats 4000000 in
set_option maxRecDepth 100000 in
theorem w_law_29 {p : Program} {l : Launch} {e : Env} {s : State} {m : MethodId} {args : Array Value} {below : List Frame} {meth : Method} {c : Code} {g : wG} {Q : State → Prop} {y : (Nat → Nat → Int32) × (Nat → Int64) × (Nat → UInt64)} {bs : Nat} (X : LX p l s m args c cL_law 2 g)
    (fin : FN p l e room_1 s m args below meth c g y Q 0 (ch_law_30) 2 [(1, .ref (gA g 0)), (0, .ref bs)] 303 4570 537) : FN p l e room_1 s m args below meth c g y Q 0 (ch_law_29) 2 [(1, .ref (gA g 0)), (0, .ref bs)] 297 4539 519 := by
  intro S B H locs ls hV hw hr hl
  obtain ⟨n9, m9, ne9, n8, m8, hN, hN1, hev, hne, hne2⟩ := hV.cnt
  obtain ⟨he, hr⟩ := cX_e hr
  refine lv_aload_n X.1.1 X.1.2.1 dL_law_519 rfl (lv_at hl 0 rfl) ?_
  refine lv_bipush (v := (nI 108)) X.1.1 X.1.2.1 dL_law_520 (by decide +kernel) ?_
  refine lv_iconst (v := 1) X.1.1 X.1.2.1 dL_law_522 (by decide) ?_
  refine k_newv (n := 1) (N := 1) X.1 X.2.2.1 hw q_ai (by decide) (by decide) (by decide) (Nat.le_of_ble_eq_true rfl) (Nat.le_of_ble_eq_true rfl) dL_law_523 (fun b H hv => ?_)
  refine lv_dup X.1.1 X.1.2.1 dL_law_525 rfl ?_
  refine lv_iconst (v := 0) X.1.1 X.1.2.1 dL_law_526 (by decide) ?_
  refine lv_iconst (v := 0) X.1.1 X.1.2.1 dL_law_527 (by decide) ?_
  refine k_vst (v := 0) (n := 0) X.1 X.2.2.1 hv (vp_in_nI (n := 0) (by decide) (by decide)) (by decide) dL_law_528 (fun H locs hv => ?_)
  refine sX X (mA_lead l g X.2.2.2 S B y (upd (fun _ => 0) 0 0) 0 rfl _ _ hN) hv hl dL_law_529 ⟨Nat.le_of_ble_eq_true rfl, Nat.le_of_ble_eq_true rfl⟩ ⟨Nat.le_of_ble_eq_true rfl, Nat.le_of_ble_eq_true rfl⟩ he kX_1 (fun H locs hw => ?_)
  refine lv_ldc (v := (-2000000001)) X.1.1 X.1.2.1 X.1.2.2.1 (X.1.2.2.2 _ q901) dL_law_532 ?_
  refine lv_icmp_ne (tgt := 965) X.1.1 X.1.2.1 dL_law_534 (by decide) (fun h9 => absurd rfl h9) (fun _ => ?_)
  refine W.widen (k := 303) (n := 4570) (Nat.le_of_ble_eq_true rfl) (Nat.le_of_ble_eq_true rfl) ?_
  exact fin _ _ _ _ _ hV hw hr hl
set_option maxHeartbeats 4000000 in
set_option maxRecDepth 100000 in
theorem w_law_30 {p : Program} {l : Launch} {e : Env} {s : State} {m : MethodId} {args : Array Value} {below : List Frame} {meth : Method} {c : Code} {g : wG} {Q : State → Prop} {y : (Nat → Nat → Int32) × (Nat → Int64) × (Nat → UInt64)} {bs : Nat} (X : LX p l s m args c cL_law 2 g)
    (fin : FN p l e room_1 s m args below meth c g y Q 0 (ch_law_31) 2 [(1, .ref (gA g 0)), (0, .ref bs)] 309 4601 555) : FN p l e room_1 s m args below meth c g y Q 0 (ch_law_30) 2 [(1, .ref (gA g 0)), (0, .ref bs)] 303 4570 537 := by
  intro S B H locs ls hV hw hr hl
  obtain ⟨n9, m9, ne9, n8, m8, hN, hN1, hev, hne, hne2⟩ := hV.cnt
  obtain ⟨he, hr⟩ := cX_e hr
  refine lv_aload_n X.1.1 X.1.2.1 dL_law_537 rfl (lv_at hl 0 rfl) ?_
  refine lv_bipush (v := (nI 74)) X.1.1 X.1.2.1 dL_law_538 (by decide +kernel) ?_
  refine lv_iconst (v := 1) X.1.1 X.1.2.1 dL_law_540 (by decide) ?_
  refine k_newv (n := 1) (N := 1) X.1 X.2.2.1 hw q_ai (by decide) (by decide) (by decide) (Nat.le_of_ble_eq_true rfl) (Nat.le_of_ble_eq_true rfl) dL_law_541 (fun b H hv => ?_)
  refine lv_dup X.1.1 X.1.2.1 dL_law_543 rfl ?_
  refine lv_iconst (v := 0) X.1.1 X.1.2.1 dL_law_544 (by decide) ?_
  refine lv_iconst (v := 0) X.1.1 X.1.2.1 dL_law_545 (by decide) ?_
  refine k_vst (v := 0) (n := 0) X.1 X.2.2.1 hv (vp_in_nI (n := 0) (by decide) (by decide)) (by decide) dL_law_546 (fun H locs hv => ?_)
  refine sX X (mA_countJoined l g X.2.2.2 S B y (upd (fun _ => 0) 0 0) 0 rfl _ _ hN) hv hl dL_law_547 ⟨Nat.le_of_ble_eq_true rfl, Nat.le_of_ble_eq_true rfl⟩ ⟨Nat.le_of_ble_eq_true rfl, Nat.le_of_ble_eq_true rfl⟩ he kX_1 (fun H locs hw => ?_)
  refine lv_ldc (v := (-2000000001)) X.1.1 X.1.2.1 X.1.2.2.1 (X.1.2.2.2 _ q901) dL_law_550 ?_
  refine lv_icmp_ne (tgt := 965) X.1.1 X.1.2.1 dL_law_552 (by decide) (fun h9 => absurd rfl h9) (fun _ => ?_)
  refine W.widen (k := 309) (n := 4601) (Nat.le_of_ble_eq_true rfl) (Nat.le_of_ble_eq_true rfl) ?_
  exact fin _ _ _ _ _ hV hw hr hl
set_option maxHeartbeats 4000000 in
set_option maxRecDepth 100000 in
theorem w_law_31 {p : Program} {l : Launch} {e : Env} {s : State} {m : MethodId} {args : Array Value} {below : List Frame} {meth : Method} {c : Code} {g : wG} {Q : State → Prop} {y : (Nat → Nat → Int32) × (Nat → Int64) × (Nat → UInt64)} {bs : Nat} (X : LX p l s m args c cL_law 2 g)
    (fin : FN p l e room_1 s m args below meth c g y Q 0 (ch_law_32) 2 [(1, .ref (gA g 0)), (0, .ref bs)] 315 4633 577) : FN p l e room_1 s m args below meth c g y Q 0 (ch_law_31) 2 [(1, .ref (gA g 0)), (0, .ref bs)] 309 4601 555 := by
  intro S B H locs ls hV hw hr hl
  obtain ⟨n9, m9, ne9, n8, m8, hN, hN1, hev, hne, hne2⟩ := hV.cnt
  obtain ⟨he, hr⟩ := cX_e hr
  refine lv_aload_n X.1.1 X.1.2.1 dL_law_555 rfl (lv_at hl 0 rfl) ?_
  refine lv_bipush (v := (nI 119)) X.1.1 X.1.2.1 dL_law_556 (by decide +kernel) ?_
  refine lv_iconst (v := 2) X.1.1 X.1.2.1 dL_law_558 (by decide) ?_
  refine k_newv (n := 2) (N := 2) X.1 X.2.2.1 hw q_ai (by decide) (by decide) (by decide) (Nat.le_of_ble_eq_true rfl) (Nat.le_of_ble_eq_true rfl) dL_law_559 (fun b H hv => ?_)
  refine lv_dup X.1.1 X.1.2.1 dL_law_561 rfl ?_
  refine lv_iconst (v := 0) X.1.1 X.1.2.1 dL_law_562 (by decide) ?_
  refine lv_iconst (v := 5) X.1.1 X.1.2.1 dL_law_563 (by decide) ?_
  refine k_vst (v := 5) (n := 0) X.1 X.2.2.1 hv (vp_in_nI (n := 0) (by decide) (by decide)) (by decide) dL_law_564 (fun H locs hv => ?_)
  refine lv_dup X.1.1 X.1.2.1 dL_law_565 rfl ?_
  refine lv_iconst (v := 1) X.1.1 X.1.2.1 dL_law_566 (by decide) ?_
  refine lv_iconst (v := 1) X.1.1 X.1.2.1 dL_law_567 (by decide) ?_
  refine k_vst (v := 1) (n := 1) X.1 X.2.2.1 hv (vp_in_nI (n := 1) (by decide) (by decide)) (by decide) dL_law_568 (fun H locs hv => ?_)
  refine sX X (mA_setWeight l g X.2.2.2 S B y (upd (upd (fun _ => 0) 0 5) 1 1) 5 1 rfl rfl _ _ hN hev) hv hl dL_law_569 ⟨Nat.le_of_ble_eq_true rfl, Nat.le_of_ble_eq_true rfl⟩ ⟨Nat.le_of_ble_eq_true rfl, Nat.le_of_ble_eq_true rfl⟩ he kX_2 (fun H locs hw => ?_)
  refine lv_ldc (v := (-2000000002)) X.1.1 X.1.2.1 X.1.2.2.1 (X.1.2.2.2 _ q902) dL_law_572 ?_
  refine lv_icmp_ne (tgt := 965) X.1.1 X.1.2.1 dL_law_574 (by decide) (fun h9 => absurd rfl h9) (fun _ => ?_)
  refine W.widen (k := 315) (n := 4633) (Nat.le_of_ble_eq_true rfl) (Nat.le_of_ble_eq_true rfl) ?_
  exact fin _ _ _ _ _ hV hw hr hl
set_option maxHeartbeats 4000000 in
set_option maxRecDepth 100000 in
theorem w_law_32 {p : Program} {l : Launch} {e : Env} {s : State} {m : MethodId} {args : Array Value} {below : List Frame} {meth : Method} {c : Code} {g : wG} {Q : State → Prop} {y : (Nat → Nat → Int32) × (Nat → Int64) × (Nat → UInt64)} {bs : Nat} (X : LX p l s m args c cL_law 2 g)
    (fin : FN p l e room_1 s m args below meth c g y Q 0 (ch_law_33) 2 [(1, .ref (gA g 0)), (0, .ref bs)] 321 4665 600) : FN p l e room_1 s m args below meth c g y Q 0 (ch_law_32) 2 [(1, .ref (gA g 0)), (0, .ref bs)] 315 4633 577 := by
  intro S B H locs ls hV hw hr hl
  obtain ⟨n9, m9, ne9, n8, m8, hN, hN1, hev, hne, hne2⟩ := hV.cnt
  obtain ⟨he, hr⟩ := cX_e hr
  refine lv_aload_n X.1.1 X.1.2.1 dL_law_577 rfl (lv_at hl 0 rfl) ?_
  refine lv_bipush (v := (nI 119)) X.1.1 X.1.2.1 dL_law_578 (by decide +kernel) ?_
  refine lv_iconst (v := 2) X.1.1 X.1.2.1 dL_law_580 (by decide) ?_
  refine k_newv (n := 2) (N := 2) X.1 X.2.2.1 hw q_ai (by decide) (by decide) (by decide) (Nat.le_of_ble_eq_true rfl) (Nat.le_of_ble_eq_true rfl) dL_law_581 (fun b H hv => ?_)
  refine lv_dup X.1.1 X.1.2.1 dL_law_583 rfl ?_
  refine lv_iconst (v := 0) X.1.1 X.1.2.1 dL_law_584 (by decide) ?_
  refine lv_iconst (v := 0) X.1.1 X.1.2.1 dL_law_585 (by decide) ?_
  refine k_vst (v := 0) (n := 0) X.1 X.2.2.1 hv (vp_in_nI (n := 0) (by decide) (by decide)) (by decide) dL_law_586 (fun H locs hv => ?_)
  refine lv_dup X.1.1 X.1.2.1 dL_law_587 rfl ?_
  refine lv_iconst (v := 1) X.1.1 X.1.2.1 dL_law_588 (by decide) ?_
  refine lv_bipush (v := 10) X.1.1 X.1.2.1 dL_law_589 (by decide +kernel) ?_
  refine k_vst (v := 10) (n := 1) X.1 X.2.2.1 hv (vp_in_nI (n := 1) (by decide) (by decide)) (by decide) dL_law_591 (fun H locs hv => ?_)
  refine sX X (mA_setWeight l g X.2.2.2 S B y (upd (upd (fun _ => 0) 0 0) 1 10) 0 10 rfl rfl _ _ hN hev) hv hl dL_law_592 ⟨Nat.le_of_ble_eq_true rfl, Nat.le_of_ble_eq_true rfl⟩ ⟨Nat.le_of_ble_eq_true rfl, Nat.le_of_ble_eq_true rfl⟩ he kX_2 (fun H locs hw => ?_)
  refine lv_ldc (v := (-2000000002)) X.1.1 X.1.2.1 X.1.2.2.1 (X.1.2.2.2 _ q902) dL_law_595 ?_
  refine lv_icmp_ne (tgt := 965) X.1.1 X.1.2.1 dL_law_597 (by decide) (fun h9 => absurd rfl h9) (fun _ => ?_)
  refine W.widen (k := 321) (n := 4665) (Nat.le_of_ble_eq_true rfl) (Nat.le_of_ble_eq_true rfl) ?_
  exact fin _ _ _ _ _ hV hw hr hl
set_option maxHeartbeats 4000000 in
set_option maxRecDepth 100000 in
theorem w_law_33 {p : Program} {l : Launch} {e : Env} {s : State} {m : MethodId} {args : Array Value} {below : List Frame} {meth : Method} {c : Code} {g : wG} {Q : State → Prop} {y : (Nat → Nat → Int32) × (Nat → Int64) × (Nat → UInt64)} {bs : Nat} (X : LX p l s m args c cL_law 2 g)
    (fin : FN p l e room_1 s m args below meth c g y Q 1 (ch_law_34) 2 [(1, .ref (gA g 0)), (0, .ref bs)] 327 4697 622) : FN p l e room_1 s m args below meth c g y Q 0 (ch_law_33) 2 [(1, .ref (gA g 0)), (0, .ref bs)] 321 4665 600 := by
  intro S B H locs ls hV hw hr hl
  obtain ⟨n9, m9, ne9, n8, m8, hN, hN1, hev, hne, hne2⟩ := hV.cnt
  obtain ⟨he, hq, hz, hr⟩ := cC_e hr
  refine lv_aload_n X.1.1 X.1.2.1 dL_law_600 rfl (lv_at hl 0 rfl) ?_
  refine lv_bipush (v := (nI 119)) X.1.1 X.1.2.1 dL_law_601 (by decide +kernel) ?_
  refine lv_iconst (v := 2) X.1.1 X.1.2.1 dL_law_603 (by decide) ?_
  refine k_newv (n := 2) (N := 2) X.1 X.2.2.1 hw q_ai (by decide) (by decide) (by decide) (Nat.le_of_ble_eq_true rfl) (Nat.le_of_ble_eq_true rfl) dL_law_604 (fun b H hv => ?_)
  refine lv_dup X.1.1 X.1.2.1 dL_law_606 rfl ?_
  refine lv_iconst (v := 0) X.1.1 X.1.2.1 dL_law_607 (by decide) ?_
  refine lv_iconst (v := 4) X.1.1 X.1.2.1 dL_law_608 (by decide) ?_
  refine k_vst (v := 4) (n := 0) X.1 X.2.2.1 hv (vp_in_nI (n := 0) (by decide) (by decide)) (by decide) dL_law_609 (fun H locs hv => ?_)
  refine lv_dup X.1.1 X.1.2.1 dL_law_610 rfl ?_
  refine lv_iconst (v := 1) X.1.1 X.1.2.1 dL_law_611 (by decide) ?_
  refine lv_bipush (v := 9) X.1.1 X.1.2.1 dL_law_612 (by decide +kernel) ?_
  refine k_vst (v := 9) (n := 1) X.1 X.2.2.1 hv (vp_in_nI (n := 1) (by decide) (by decide)) (by decide) dL_law_614 (fun H locs hv => ?_)
  refine sN X (mA_setWeight l g X.2.2.2 S B y (upd (upd (fun _ => 0) 0 4) 1 9) 4 9 rfl rfl _ _ hN hev) hv hl dL_law_615 ⟨Nat.le_of_ble_eq_true rfl, Nat.le_of_ble_eq_true rfl⟩ ⟨Nat.le_of_ble_eq_true rfl, Nat.le_of_ble_eq_true rfl⟩ he (fun H locs hw => ?_)
  have hV := hV.ev (by decide) (fa_setWeight he) hz
  have hw := hw.nrmW
  refine vn_ (v9 := 1) (vIs_e hq) ?_
  refine lv_iconst (v := 1) X.1.1 X.1.2.1 dL_law_618 (by decide) ?_
  refine lv_icmp_ne (tgt := 965) X.1.1 X.1.2.1 dL_law_619 (by decide) (fun h9 => absurd rfl h9) (fun _ => ?_)
  refine W.widen (k := 327) (n := 4697) (Nat.le_of_ble_eq_true rfl) (Nat.le_of_ble_eq_true rfl) ?_
  exact fin _ _ _ _ _ hV hw hr hl
set_option maxHeartbeats 4000000 in
set_option maxRecDepth 100000 in
theorem w_law_34 {p : Program} {l : Launch} {e : Env} {s : State} {m : MethodId} {args : Array Value} {below : List Frame} {meth : Method} {c : Code} {g : wG} {Q : State → Prop} {y : (Nat → Nat → Int32) × (Nat → Int64) × (Nat → UInt64)} {bs : Nat} (X : LX p l s m args c cL_law 2 g)
    (fin : FN p l e room_1 s m args below meth c g y Q 2 (ch_law_35) 2 [(1, .ref (gA g 0)), (0, .ref bs)] 333 4729 644) : FN p l e room_1 s m args below meth c g y Q 1 (ch_law_34) 2 [(1, .ref (gA g 0)), (0, .ref bs)] 327 4697 622 := by
  intro S B H locs ls hV hw hr hl
  obtain ⟨n9, m9, ne9, n8, m8, hN, hN1, hev, hne, hne2⟩ := hV.cnt
  obtain ⟨he, hq, hz, hr⟩ := cC_e hr
  refine lv_aload_n X.1.1 X.1.2.1 dL_law_622 rfl (lv_at hl 0 rfl) ?_
  refine lv_bipush (v := (nI 119)) X.1.1 X.1.2.1 dL_law_623 (by decide +kernel) ?_
  refine lv_iconst (v := 2) X.1.1 X.1.2.1 dL_law_625 (by decide) ?_
  refine k_newv (n := 2) (N := 2) X.1 X.2.2.1 hw q_ai (by decide) (by decide) (by decide) (Nat.le_of_ble_eq_true rfl) (Nat.le_of_ble_eq_true rfl) dL_law_626 (fun b H hv => ?_)
  refine lv_dup X.1.1 X.1.2.1 dL_law_628 rfl ?_
  refine lv_iconst (v := 0) X.1.1 X.1.2.1 dL_law_629 (by decide) ?_
  refine lv_iconst (v := 4) X.1.1 X.1.2.1 dL_law_630 (by decide) ?_
  refine k_vst (v := 4) (n := 0) X.1 X.2.2.1 hv (vp_in_nI (n := 0) (by decide) (by decide)) (by decide) dL_law_631 (fun H locs hv => ?_)
  refine lv_dup X.1.1 X.1.2.1 dL_law_632 rfl ?_
  refine lv_iconst (v := 1) X.1.1 X.1.2.1 dL_law_633 (by decide) ?_
  refine lv_iconst (v := 1) X.1.1 X.1.2.1 dL_law_634 (by decide) ?_
  refine k_vst (v := 1) (n := 1) X.1 X.2.2.1 hv (vp_in_nI (n := 1) (by decide) (by decide)) (by decide) dL_law_635 (fun H locs hv => ?_)
  refine sN X (mA_setWeight l g X.2.2.2 S B y (upd (upd (fun _ => 0) 0 4) 1 1) 4 1 rfl rfl _ _ hN hev) hv hl dL_law_636 ⟨Nat.le_of_ble_eq_true rfl, Nat.le_of_ble_eq_true rfl⟩ ⟨Nat.le_of_ble_eq_true rfl, Nat.le_of_ble_eq_true rfl⟩ he (fun H locs hw => ?_)
  have hV := hV.ev (by decide) (fa_setWeight he) hz
  have hw := hw.nrmW
  refine vn_ (v9 := 9) (vIs_e hq) ?_
  refine lv_bipush (v := 9) X.1.1 X.1.2.1 dL_law_639 (by decide +kernel) ?_
  refine lv_icmp_ne (tgt := 965) X.1.1 X.1.2.1 dL_law_641 (by decide) (fun h9 => absurd rfl h9) (fun _ => ?_)
  refine W.widen (k := 333) (n := 4729) (Nat.le_of_ble_eq_true rfl) (Nat.le_of_ble_eq_true rfl) ?_
  exact fin _ _ _ _ _ hV hw hr hl
set_option maxHeartbeats 4000000 in
set_option maxRecDepth 100000 in
theorem w_law_35 {p : Program} {l : Launch} {e : Env} {s : State} {m : MethodId} {args : Array Value} {below : List Frame} {meth : Method} {c : Code} {g : wG} {Q : State → Prop} {y : (Nat → Nat → Int32) × (Nat → Int64) × (Nat → UInt64)} {bs : Nat} (X : LX p l s m args c cL_law 2 g)
    (fin : FN p l e room_1 s m args below meth c g y Q 2 (ch_law_36) 2 [(1, .ref (gA g 0)), (0, .ref bs)] 339 4761 667) : FN p l e room_1 s m args below meth c g y Q 2 (ch_law_35) 2 [(1, .ref (gA g 0)), (0, .ref bs)] 333 4729 644 := by
  intro S B H locs ls hV hw hr hl
  obtain ⟨n9, m9, ne9, n8, m8, hN, hN1, hev, hne, hne2⟩ := hV.cnt
  obtain ⟨he, hr⟩ := cX_e hr
  refine lv_aload_n X.1.1 X.1.2.1 dL_law_644 rfl (lv_at hl 0 rfl) ?_
  refine lv_bipush (v := (nI 102)) X.1.1 X.1.2.1 dL_law_645 (by decide +kernel) ?_
  refine lv_iconst (v := 2) X.1.1 X.1.2.1 dL_law_647 (by decide) ?_
  refine k_newv (n := 2) (N := 2) X.1 X.2.2.1 hw q_ai (by decide) (by decide) (by decide) (Nat.le_of_ble_eq_true rfl) (Nat.le_of_ble_eq_true rfl) dL_law_648 (fun b H hv => ?_)
  refine lv_dup X.1.1 X.1.2.1 dL_law_650 rfl ?_
  refine lv_iconst (v := 0) X.1.1 X.1.2.1 dL_law_651 (by decide) ?_
  refine lv_iconst (v := 0) X.1.1 X.1.2.1 dL_law_652 (by decide) ?_
  refine k_vst (v := 0) (n := 0) X.1 X.2.2.1 hv (vp_in_nI (n := 0) (by decide) (by decide)) (by decide) dL_law_653 (fun H locs hv => ?_)
  refine lv_dup X.1.1 X.1.2.1 dL_law_654 rfl ?_
  refine lv_iconst (v := 1) X.1.1 X.1.2.1 dL_law_655 (by decide) ?_
  refine lv_bipush (v := 32) X.1.1 X.1.2.1 dL_law_656 (by decide +kernel) ?_
  refine k_vst (v := 32) (n := 1) X.1 X.2.2.1 hv (vp_in_nI (n := 1) (by decide) (by decide)) (by decide) dL_law_658 (fun H locs hv => ?_)
  refine sX X (mA_find l g X.2.2.2 S B y (upd (upd (fun _ => 0) 0 0) 1 32) 0 32 rfl rfl _ _ hN hev) hv hl dL_law_659 ⟨Nat.le_of_ble_eq_true rfl, Nat.le_of_ble_eq_true rfl⟩ ⟨Nat.le_of_ble_eq_true rfl, Nat.le_of_ble_eq_true rfl⟩ he kX_1 (fun H locs hw => ?_)
  refine lv_ldc (v := (-2000000001)) X.1.1 X.1.2.1 X.1.2.2.1 (X.1.2.2.2 _ q901) dL_law_662 ?_
  refine lv_icmp_ne (tgt := 965) X.1.1 X.1.2.1 dL_law_664 (by decide) (fun h9 => absurd rfl h9) (fun _ => ?_)
  refine W.widen (k := 339) (n := 4761) (Nat.le_of_ble_eq_true rfl) (Nat.le_of_ble_eq_true rfl) ?_
  exact fin _ _ _ _ _ hV hw hr hl
set_option maxHeartbeats 4000000 in
set_option maxRecDepth 100000 in
theorem w_law_36 {p : Program} {l : Launch} {e : Env} {s : State} {m : MethodId} {args : Array Value} {below : List Frame} {meth : Method} {c : Code} {g : wG} {Q : State → Prop} {y : (Nat → Nat → Int32) × (Nat → Int64) × (Nat → UInt64)} {bs : Nat} (X : LX p l s m args c cL_law 2 g)
    (fin : FN p l e room_1 s m args below meth c g y Q 2 (ch_law_37) 2 [(1, .ref (gA g 0)), (0, .ref bs)] 345 4792 685) : FN p l e room_1 s m args below meth c g y Q 2 (ch_law_36) 2 [(1, .ref (gA g 0)), (0, .ref bs)] 339 4761 667 := by
  intro S B H locs ls hV hw hr hl
  obtain ⟨n9, m9, ne9, n8, m8, hN, hN1, hev, hne, hne2⟩ := hV.cnt
  obtain ⟨he, hr⟩ := cX_e hr
  refine lv_aload_n X.1.1 X.1.2.1 dL_law_667 rfl (lv_at hl 0 rfl) ?_
  refine lv_bipush (v := (nI 104)) X.1.1 X.1.2.1 dL_law_668 (by decide +kernel) ?_
  refine lv_iconst (v := 1) X.1.1 X.1.2.1 dL_law_670 (by decide) ?_
  refine k_newv (n := 1) (N := 1) X.1 X.2.2.1 hw q_ai (by decide) (by decide) (by decide) (Nat.le_of_ble_eq_true rfl) (Nat.le_of_ble_eq_true rfl) dL_law_671 (fun b H hv => ?_)
  refine lv_dup X.1.1 X.1.2.1 dL_law_673 rfl ?_
  refine lv_iconst (v := 0) X.1.1 X.1.2.1 dL_law_674 (by decide) ?_
  refine lv_iconst (v := 0) X.1.1 X.1.2.1 dL_law_675 (by decide) ?_
  refine k_vst (v := 0) (n := 0) X.1 X.2.2.1 hv (vp_in_nI (n := 0) (by decide) (by decide)) (by decide) dL_law_676 (fun H locs hv => ?_)
  refine sX X (mA_heads l g X.2.2.2 S B y (upd (fun _ => 0) 0 0) 0 rfl _ _ hN) hv hl dL_law_677 ⟨Nat.le_of_ble_eq_true rfl, Nat.le_of_ble_eq_true rfl⟩ ⟨Nat.le_of_ble_eq_true rfl, Nat.le_of_ble_eq_true rfl⟩ he kX_1 (fun H locs hw => ?_)
  refine lv_ldc (v := (-2000000001)) X.1.1 X.1.2.1 X.1.2.2.1 (X.1.2.2.2 _ q901) dL_law_680 ?_
  refine lv_icmp_ne (tgt := 965) X.1.1 X.1.2.1 dL_law_682 (by decide) (fun h9 => absurd rfl h9) (fun _ => ?_)
  refine W.widen (k := 345) (n := 4792) (Nat.le_of_ble_eq_true rfl) (Nat.le_of_ble_eq_true rfl) ?_
  exact fin _ _ _ _ _ hV hw hr hl
set_option maxHeartbeats 4000000 in
set_option maxRecDepth 100000 in
theorem w_law_37 {p : Program} {l : Launch} {e : Env} {s : State} {m : MethodId} {args : Array Value} {below : List Frame} {meth : Method} {c : Code} {g : wG} {Q : State → Prop} {y : (Nat → Nat → Int32) × (Nat → Int64) × (Nat → UInt64)} {bs : Nat} (X : LX p l s m args c cL_law 2 g)
    (fin : FN p l e room_1 s m args below meth c g y Q 2 (ch_law_38) 2 [(1, .ref (gA g 0)), (0, .ref bs)] 351 4823 703) : FN p l e room_1 s m args below meth c g y Q 2 (ch_law_37) 2 [(1, .ref (gA g 0)), (0, .ref bs)] 345 4792 685 := by
  intro S B H locs ls hV hw hr hl
  obtain ⟨n9, m9, ne9, n8, m8, hN, hN1, hev, hne, hne2⟩ := hV.cnt
  obtain ⟨he, hr⟩ := cX_e hr
  refine lv_aload_n X.1.1 X.1.2.1 dL_law_685 rfl (lv_at hl 0 rfl) ?_
  refine lv_bipush (v := (nI 82)) X.1.1 X.1.2.1 dL_law_686 (by decide +kernel) ?_
  refine lv_iconst (v := 1) X.1.1 X.1.2.1 dL_law_688 (by decide) ?_
  refine k_newv (n := 1) (N := 1) X.1 X.2.2.1 hw q_ai (by decide) (by decide) (by decide) (Nat.le_of_ble_eq_true rfl) (Nat.le_of_ble_eq_true rfl) dL_law_689 (fun b H hv => ?_)
  refine lv_dup X.1.1 X.1.2.1 dL_law_691 rfl ?_
  refine lv_iconst (v := 0) X.1.1 X.1.2.1 dL_law_692 (by decide) ?_
  refine lv_iconst (v := 0) X.1.1 X.1.2.1 dL_law_693 (by decide) ?_
  refine k_vst (v := 0) (n := 0) X.1 X.2.2.1 hv (vp_in_nI (n := 0) (by decide) (by decide)) (by decide) dL_law_694 (fun H locs hv => ?_)
  refine sX X (mA_remedy l g X.2.2.2 S B y (upd (fun _ => 0) 0 0) 0 rfl _ _ hN) hv hl dL_law_695 ⟨Nat.le_of_ble_eq_true rfl, Nat.le_of_ble_eq_true rfl⟩ ⟨Nat.le_of_ble_eq_true rfl, Nat.le_of_ble_eq_true rfl⟩ he kX_1 (fun H locs hw => ?_)
  refine lv_ldc (v := (-2000000001)) X.1.1 X.1.2.1 X.1.2.2.1 (X.1.2.2.2 _ q901) dL_law_698 ?_
  refine lv_icmp_ne (tgt := 965) X.1.1 X.1.2.1 dL_law_700 (by decide) (fun h9 => absurd rfl h9) (fun _ => ?_)
  refine W.widen (k := 351) (n := 4823) (Nat.le_of_ble_eq_true rfl) (Nat.le_of_ble_eq_true rfl) ?_
  exact fin _ _ _ _ _ hV hw hr hl
set_option maxHeartbeats 4000000 in
set_option maxRecDepth 100000 in
theorem w_law_38 {p : Program} {l : Launch} {e : Env} {s : State} {m : MethodId} {args : Array Value} {below : List Frame} {meth : Method} {c : Code} {g : wG} {Q : State → Prop} {y : (Nat → Nat → Int32) × (Nat → Int64) × (Nat → UInt64)} {bs : Nat} (X : LX p l s m args c cL_law 2 g)
    (fin : FN p l e room_1 s m args below meth c g y Q 2 (ch_law_39) 2 [(1, .ref (gA g 0)), (0, .ref bs)] 357 4855 725) : FN p l e room_1 s m args below meth c g y Q 2 (ch_law_38) 2 [(1, .ref (gA g 0)), (0, .ref bs)] 351 4823 703 := by
  intro S B H locs ls hV hw hr hl
  obtain ⟨n9, m9, ne9, n8, m8, hN, hN1, hev, hne, hne2⟩ := hV.cnt
  obtain ⟨he, hr⟩ := cX_e hr
  refine lv_aload_n X.1.1 X.1.2.1 dL_law_703 rfl (lv_at hl 0 rfl) ?_
  refine lv_bipush (v := (nI 121)) X.1.1 X.1.2.1 dL_law_704 (by decide +kernel) ?_
  refine lv_iconst (v := 2) X.1.1 X.1.2.1 dL_law_706 (by decide) ?_
  refine k_newv (n := 2) (N := 2) X.1 X.2.2.1 hw q_ai (by decide) (by decide) (by decide) (Nat.le_of_ble_eq_true rfl) (Nat.le_of_ble_eq_true rfl) dL_law_707 (fun b H hv => ?_)
  refine lv_dup X.1.1 X.1.2.1 dL_law_709 rfl ?_
  refine lv_iconst (v := 0) X.1.1 X.1.2.1 dL_law_710 (by decide) ?_
  refine lv_iconst (v := 0) X.1.1 X.1.2.1 dL_law_711 (by decide) ?_
  refine k_vst (v := 0) (n := 0) X.1 X.2.2.1 hv (vp_in_nI (n := 0) (by decide) (by decide)) (by decide) dL_law_712 (fun H locs hv => ?_)
  refine lv_dup X.1.1 X.1.2.1 dL_law_713 rfl ?_
  refine lv_iconst (v := 1) X.1.1 X.1.2.1 dL_law_714 (by decide) ?_
  refine lv_iconst (v := 1) X.1.1 X.1.2.1 dL_law_715 (by decide) ?_
  refine k_vst (v := 1) (n := 1) X.1 X.2.2.1 hv (vp_in_nI (n := 1) (by decide) (by decide)) (by decide) dL_law_716 (fun H locs hv => ?_)
  refine sX X (mA_accept l g X.2.2.2 S B y (upd (upd (fun _ => 0) 0 0) 1 1) 0 1 rfl rfl _ _ hN hev (Or.inr rfl)) hv hl dL_law_717 ⟨Nat.le_of_ble_eq_true rfl, Nat.le_of_ble_eq_true rfl⟩ ⟨Nat.le_of_ble_eq_true rfl, Nat.le_of_ble_eq_true rfl⟩ he kX_1 (fun H locs hw => ?_)
  refine lv_ldc (v := (-2000000001)) X.1.1 X.1.2.1 X.1.2.2.1 (X.1.2.2.2 _ q901) dL_law_720 ?_
  refine lv_icmp_ne (tgt := 965) X.1.1 X.1.2.1 dL_law_722 (by decide) (fun h9 => absurd rfl h9) (fun _ => ?_)
  refine W.widen (k := 357) (n := 4855) (Nat.le_of_ble_eq_true rfl) (Nat.le_of_ble_eq_true rfl) ?_
  exact fin _ _ _ _ _ hV hw hr hl
set_option maxHeartbeats 4000000 in
set_option maxRecDepth 100000 in
theorem w_law_39 {p : Program} {l : Launch} {e : Env} {s : State} {m : MethodId} {args : Array Value} {below : List Frame} {meth : Method} {c : Code} {g : wG} {Q : State → Prop} {y : (Nat → Nat → Int32) × (Nat → Int64) × (Nat → UInt64)} {bs : Nat} (X : LX p l s m args c cL_law 2 g)
    (fin : FN p l e room_1 s m args below meth c g y Q 2 (ch_law_40) 2 [(1, .ref (gA g 0)), (0, .ref bs)] 363 4886 743) : FN p l e room_1 s m args below meth c g y Q 2 (ch_law_39) 2 [(1, .ref (gA g 0)), (0, .ref bs)] 357 4855 725 := by
  intro S B H locs ls hV hw hr hl
  obtain ⟨n9, m9, ne9, n8, m8, hN, hN1, hev, hne, hne2⟩ := hV.cnt
  obtain ⟨-, hoz, hr⟩ := cQ_e hr
  obtain ⟨he, hr⟩ := cX_e hr
  have hoz := okzB_e hoz
  refine lv_aload_n X.1.1 X.1.2.1 dL_law_725 rfl (lv_at hl 0 rfl) ?_
  refine lv_bipush (v := (nI 89)) X.1.1 X.1.2.1 dL_law_726 (by decide +kernel) ?_
  refine lv_iconst (v := 1) X.1.1 X.1.2.1 dL_law_728 (by decide) ?_
  refine k_newv (n := 1) (N := 1) X.1 X.2.2.1 hw q_ai (by decide) (by decide) (by decide) (Nat.le_of_ble_eq_true rfl) (Nat.le_of_ble_eq_true rfl) dL_law_729 (fun b H hv => ?_)
  refine lv_dup X.1.1 X.1.2.1 dL_law_731 rfl ?_
  refine lv_iconst (v := 0) X.1.1 X.1.2.1 dL_law_732 (by decide) ?_
  refine lv_iconst (v := 0) X.1.1 X.1.2.1 dL_law_733 (by decide) ?_
  refine k_vst (v := 0) (n := 0) X.1 X.2.2.1 hv (vp_in_nI (n := 0) (by decide) (by decide)) (by decide) dL_law_734 (fun H locs hv => ?_)
  refine sX X (mA_isAccepted l g X.2.2.2 S B y (upd (fun _ => 0) 0 0) 0 rfl _ _ hN hoz) hv hl dL_law_735 ⟨Nat.le_of_ble_eq_true rfl, Nat.le_of_ble_eq_true rfl⟩ ⟨Nat.le_of_ble_eq_true rfl, Nat.le_of_ble_eq_true rfl⟩ he kX_1 (fun H locs hw => ?_)
  refine lv_ldc (v := (-2000000001)) X.1.1 X.1.2.1 X.1.2.2.1 (X.1.2.2.2 _ q901) dL_law_738 ?_
  refine lv_icmp_ne (tgt := 965) X.1.1 X.1.2.1 dL_law_740 (by decide) (fun h9 => absurd rfl h9) (fun _ => ?_)
  refine W.widen (k := 363) (n := 4886) (Nat.le_of_ble_eq_true rfl) (Nat.le_of_ble_eq_true rfl) ?_
  exact fin _ _ _ _ _ hV hw hr hl
set_option maxHeartbeats 4000000 in
set_option maxRecDepth 100000 in
theorem w_law_40 {p : Program} {l : Launch} {e : Env} {s : State} {m : MethodId} {args : Array Value} {below : List Frame} {meth : Method} {c : Code} {g : wG} {Q : State → Prop} {y : (Nat → Nat → Int32) × (Nat → Int64) × (Nat → UInt64)} {bs : Nat} (X : LX p l s m args c cL_law 2 g)
    (fin : FN p l e room_1 s m args below meth c g y Q 2 (ch_law_41) 2 [(1, .ref (gA g 0)), (0, .ref bs)] 369 4917 761) : FN p l e room_1 s m args below meth c g y Q 2 (ch_law_40) 2 [(1, .ref (gA g 0)), (0, .ref bs)] 363 4886 743 := by
  intro S B H locs ls hV hw hr hl
  obtain ⟨n9, m9, ne9, n8, m8, hN, hN1, hev, hne, hne2⟩ := hV.cnt
  obtain ⟨he, hr⟩ := cX_e hr
  refine lv_aload_n X.1.1 X.1.2.1 dL_law_743 rfl (lv_at hl 0 rfl) ?_
  refine lv_bipush (v := (nI 72)) X.1.1 X.1.2.1 dL_law_744 (by decide +kernel) ?_
  refine lv_iconst (v := 1) X.1.1 X.1.2.1 dL_law_746 (by decide) ?_
  refine k_newv (n := 1) (N := 1) X.1 X.2.2.1 hw q_ai (by decide) (by decide) (by decide) (Nat.le_of_ble_eq_true rfl) (Nat.le_of_ble_eq_true rfl) dL_law_747 (fun b H hv => ?_)
  refine lv_dup X.1.1 X.1.2.1 dL_law_749 rfl ?_
  refine lv_iconst (v := 0) X.1.1 X.1.2.1 dL_law_750 (by decide) ?_
  refine lv_iconst (v := 0) X.1.1 X.1.2.1 dL_law_751 (by decide) ?_
  refine k_vst (v := 0) (n := 0) X.1 X.2.2.1 hv (vp_in_nI (n := 0) (by decide) (by decide)) (by decide) dL_law_752 (fun H locs hv => ?_)
  refine sX X (mA_heed l g X.2.2.2 S B y (upd (fun _ => 0) 0 0) 0 rfl _ _ hN hev) hv hl dL_law_753 ⟨Nat.le_of_ble_eq_true rfl, Nat.le_of_ble_eq_true rfl⟩ ⟨Nat.le_of_ble_eq_true rfl, Nat.le_of_ble_eq_true rfl⟩ he kX_1 (fun H locs hw => ?_)
  refine lv_ldc (v := (-2000000001)) X.1.1 X.1.2.1 X.1.2.2.1 (X.1.2.2.2 _ q901) dL_law_756 ?_
  refine lv_icmp_ne (tgt := 965) X.1.1 X.1.2.1 dL_law_758 (by decide) (fun h9 => absurd rfl h9) (fun _ => ?_)
  refine W.widen (k := 369) (n := 4917) (Nat.le_of_ble_eq_true rfl) (Nat.le_of_ble_eq_true rfl) ?_
  exact fin _ _ _ _ _ hV hw hr hl
set_option maxHeartbeats 4000000 in
set_option maxRecDepth 100000 in
theorem w_law_41 {p : Program} {l : Launch} {e : Env} {s : State} {m : MethodId} {args : Array Value} {below : List Frame} {meth : Method} {c : Code} {g : wG} {Q : State → Prop} {y : (Nat → Nat → Int32) × (Nat → Int64) × (Nat → UInt64)} {bs : Nat} (X : LX p l s m args c cL_law 2 g)
    (fin : FN p l e room_1 s m args below meth c g y Q 2 (ch_law_42) 2 [(1, .ref (gA g 0)), (0, .ref bs)] 375 4948 779) : FN p l e room_1 s m args below meth c g y Q 2 (ch_law_41) 2 [(1, .ref (gA g 0)), (0, .ref bs)] 369 4917 761 := by
  intro S B H locs ls hV hw hr hl
  obtain ⟨n9, m9, ne9, n8, m8, hN, hN1, hev, hne, hne2⟩ := hV.cnt
  obtain ⟨he, hr⟩ := cX_e hr
  refine lv_aload_n X.1.1 X.1.2.1 dL_law_761 rfl (lv_at hl 0 rfl) ?_
  refine lv_bipush (v := (nI 70)) X.1.1 X.1.2.1 dL_law_762 (by decide +kernel) ?_
  refine lv_iconst (v := 1) X.1.1 X.1.2.1 dL_law_764 (by decide) ?_
  refine k_newv (n := 1) (N := 1) X.1 X.2.2.1 hw q_ai (by decide) (by decide) (by decide) (Nat.le_of_ble_eq_true rfl) (Nat.le_of_ble_eq_true rfl) dL_law_765 (fun b H hv => ?_)
  refine lv_dup X.1.1 X.1.2.1 dL_law_767 rfl ?_
  refine lv_iconst (v := 0) X.1.1 X.1.2.1 dL_law_768 (by decide) ?_
  refine lv_iconst (v := 0) X.1.1 X.1.2.1 dL_law_769 (by decide) ?_
  refine k_vst (v := 0) (n := 0) X.1 X.2.2.1 hv (vp_in_nI (n := 0) (by decide) (by decide)) (by decide) dL_law_770 (fun H locs hv => ?_)
  refine sX X (mA_followUp l g X.2.2.2 S B y (upd (fun _ => 0) 0 0) 0 rfl _ _ hN hev) hv hl dL_law_771 ⟨Nat.le_of_ble_eq_true rfl, Nat.le_of_ble_eq_true rfl⟩ ⟨Nat.le_of_ble_eq_true rfl, Nat.le_of_ble_eq_true rfl⟩ he kX_1 (fun H locs hw => ?_)
  refine lv_ldc (v := (-2000000001)) X.1.1 X.1.2.1 X.1.2.2.1 (X.1.2.2.2 _ q901) dL_law_774 ?_
  refine lv_icmp_ne (tgt := 965) X.1.1 X.1.2.1 dL_law_776 (by decide) (fun h9 => absurd rfl h9) (fun _ => ?_)
  refine W.widen (k := 375) (n := 4948) (Nat.le_of_ble_eq_true rfl) (Nat.le_of_ble_eq_true rfl) ?_
  exact fin _ _ _ _ _ hV hw hr hl
set_option maxHeartbeats 4000000 in
set_option maxRecDepth 100000 in
theorem w_law_42 {p : Program} {l : Launch} {e : Env} {s : State} {m : MethodId} {args : Array Value} {below : List Frame} {meth : Method} {c : Code} {g : wG} {Q : State → Prop} {y : (Nat → Nat → Int32) × (Nat → Int64) × (Nat → UInt64)} {bs : Nat} (X : LX p l s m args c cL_law 2 g)
    (fin : FN p l e room_1 s m args below meth c g y Q 2 (ch_law_43) 2 [(1, .ref (gA g 0)), (0, .ref bs)] 381 4979 797) : FN p l e room_1 s m args below meth c g y Q 2 (ch_law_42) 2 [(1, .ref (gA g 0)), (0, .ref bs)] 375 4948 779 := by
  intro S B H locs ls hV hw hr hl
  obtain ⟨n9, m9, ne9, n8, m8, hN, hN1, hev, hne, hne2⟩ := hV.cnt
  obtain ⟨he, hr⟩ := cX_e hr
  refine lv_aload_n X.1.1 X.1.2.1 dL_law_779 rfl (lv_at hl 0 rfl) ?_
  refine lv_bipush (v := (nI 87)) X.1.1 X.1.2.1 dL_law_780 (by decide +kernel) ?_
  refine lv_iconst (v := 1) X.1.1 X.1.2.1 dL_law_782 (by decide) ?_
  refine k_newv (n := 1) (N := 1) X.1 X.2.2.1 hw q_ai (by decide) (by decide) (by decide) (Nat.le_of_ble_eq_true rfl) (Nat.le_of_ble_eq_true rfl) dL_law_783 (fun b H hv => ?_)
  refine lv_dup X.1.1 X.1.2.1 dL_law_785 rfl ?_
  refine lv_iconst (v := 0) X.1.1 X.1.2.1 dL_law_786 (by decide) ?_
  refine lv_iconst (v := 0) X.1.1 X.1.2.1 dL_law_787 (by decide) ?_
  refine k_vst (v := 0) (n := 0) X.1 X.2.2.1 hv (vp_in_nI (n := 0) (by decide) (by decide)) (by decide) dL_law_788 (fun H locs hv => ?_)
  refine sX X (mA_withdraw l g X.2.2.2 S B y (upd (fun _ => 0) 0 0) 0 rfl _ _ hN hev) hv hl dL_law_789 ⟨Nat.le_of_ble_eq_true rfl, Nat.le_of_ble_eq_true rfl⟩ ⟨Nat.le_of_ble_eq_true rfl, Nat.le_of_ble_eq_true rfl⟩ he kX_1 (fun H locs hw => ?_)
  refine lv_ldc (v := (-2000000001)) X.1.1 X.1.2.1 X.1.2.2.1 (X.1.2.2.2 _ q901) dL_law_792 ?_
  refine lv_icmp_ne (tgt := 965) X.1.1 X.1.2.1 dL_law_794 (by decide) (fun h9 => absurd rfl h9) (fun _ => ?_)
  refine W.widen (k := 381) (n := 4979) (Nat.le_of_ble_eq_true rfl) (Nat.le_of_ble_eq_true rfl) ?_
  exact fin _ _ _ _ _ hV hw hr hl
set_option maxHeartbeats 4000000 in
set_option maxRecDepth 100000 in
theorem w_law_43 {p : Program} {l : Launch} {e : Env} {s : State} {m : MethodId} {args : Array Value} {below : List Frame} {meth : Method} {c : Code} {g : wG} {Q : State → Prop} {y : (Nat → Nat → Int32) × (Nat → Int64) × (Nat → UInt64)} {bs : Nat} (X : LX p l s m args c cL_law 2 g)
    (fin : FN p l e room_1 s m args below meth c g y Q 2 (ch_law_44) 2 [(1, .ref (gA g 0)), (0, .ref bs)] 387 5010 815) : FN p l e room_1 s m args below meth c g y Q 2 (ch_law_43) 2 [(1, .ref (gA g 0)), (0, .ref bs)] 381 4979 797 := by
  intro S B H locs ls hV hw hr hl
  obtain ⟨n9, m9, ne9, n8, m8, hN, hN1, hev, hne, hne2⟩ := hV.cnt
  obtain ⟨he, hr⟩ := cX_e hr
  refine lv_aload_n X.1.1 X.1.2.1 dL_law_797 rfl (lv_at hl 0 rfl) ?_
  refine lv_bipush (v := (nI 100)) X.1.1 X.1.2.1 dL_law_798 (by decide +kernel) ?_
  refine lv_iconst (v := 1) X.1.1 X.1.2.1 dL_law_800 (by decide) ?_
  refine k_newv (n := 1) (N := 1) X.1 X.2.2.1 hw q_ai (by decide) (by decide) (by decide) (Nat.le_of_ble_eq_true rfl) (Nat.le_of_ble_eq_true rfl) dL_law_801 (fun b H hv => ?_)
  refine lv_dup X.1.1 X.1.2.1 dL_law_803 rfl ?_
  refine lv_iconst (v := 0) X.1.1 X.1.2.1 dL_law_804 (by decide) ?_
  refine lv_iconst (v := 0) X.1.1 X.1.2.1 dL_law_805 (by decide) ?_
  refine k_vst (v := 0) (n := 0) X.1 X.2.2.1 hv (vp_in_nI (n := 0) (by decide) (by decide)) (by decide) dL_law_806 (fun H locs hv => ?_)
  refine sX X (mA_days l g X.2.2.2 S B y (upd (fun _ => 0) 0 0) 0 rfl _ _ hN) hv hl dL_law_807 ⟨Nat.le_of_ble_eq_true rfl, Nat.le_of_ble_eq_true rfl⟩ ⟨Nat.le_of_ble_eq_true rfl, Nat.le_of_ble_eq_true rfl⟩ he kX_1 (fun H locs hw => ?_)
  refine lv_ldc (v := (-2000000001)) X.1.1 X.1.2.1 X.1.2.2.1 (X.1.2.2.2 _ q901) dL_law_810 ?_
  refine lv_icmp_ne (tgt := 965) X.1.1 X.1.2.1 dL_law_812 (by decide) (fun h9 => absurd rfl h9) (fun _ => ?_)
  refine W.widen (k := 387) (n := 5010) (Nat.le_of_ble_eq_true rfl) (Nat.le_of_ble_eq_true rfl) ?_
  exact fin _ _ _ _ _ hV hw hr hl
set_option maxHeartbeats 4000000 in
set_option maxRecDepth 100000 in
theorem w_law_44 {p : Program} {l : Launch} {e : Env} {s : State} {m : MethodId} {args : Array Value} {below : List Frame} {meth : Method} {c : Code} {g : wG} {Q : State → Prop} {y : (Nat → Nat → Int32) × (Nat → Int64) × (Nat → UInt64)} {bs : Nat} (X : LX p l s m args c cL_law 2 g)
    (fin : FN p l e room_1 s m args below meth c g y Q 3 (ch_law_45) 2 [(1, .ref (gA g 0)), (0, .ref bs)] 393 5042 835) : FN p l e room_1 s m args below meth c g y Q 2 (ch_law_44) 2 [(1, .ref (gA g 0)), (0, .ref bs)] 387 5010 815 := by
  intro S B H locs ls hV hw hr hl
  obtain ⟨n9, m9, ne9, n8, m8, hN, hN1, hev, hne, hne2⟩ := hV.cnt
  obtain ⟨he, hq, hz, hr⟩ := cC_e hr
  refine lv_aload_n X.1.1 X.1.2.1 dL_law_815 rfl (lv_at hl 0 rfl) ?_
  refine lv_bipush (v := (nI 79)) X.1.1 X.1.2.1 dL_law_816 (by decide +kernel) ?_
  refine lv_iconst (v := 2) X.1.1 X.1.2.1 dL_law_818 (by decide) ?_
  refine k_newv (n := 2) (N := 2) X.1 X.2.2.1 hw q_ai (by decide) (by decide) (by decide) (Nat.le_of_ble_eq_true rfl) (Nat.le_of_ble_eq_true rfl) dL_law_819 (fun b H hv => ?_)
  refine lv_dup X.1.1 X.1.2.1 dL_law_821 rfl ?_
  refine lv_iconst (v := 0) X.1.1 X.1.2.1 dL_law_822 (by decide) ?_
  refine lv_iconst (v := 5) X.1.1 X.1.2.1 dL_law_823 (by decide) ?_
  refine k_vst (v := 5) (n := 0) X.1 X.2.2.1 hv (vp_in_nI (n := 0) (by decide) (by decide)) (by decide) dL_law_824 (fun H locs hv => ?_)
  refine lv_dup X.1.1 X.1.2.1 dL_law_825 rfl ?_
  refine lv_iconst (v := 1) X.1.1 X.1.2.1 dL_law_826 (by decide) ?_
  refine lv_iconst (v := 3) X.1.1 X.1.2.1 dL_law_827 (by decide) ?_
  refine k_vst (v := 3) (n := 1) X.1 X.2.2.1 hv (vp_in_nI (n := 1) (by decide) (by decide)) (by decide) dL_law_828 (fun H locs hv => ?_)
  refine sN X (mA_addOffice l g X.2.2.2 S B y (upd (upd (fun _ => 0) 0 5) 1 3) 5 3 rfl rfl _ _ hN hev) hv hl dL_law_829 ⟨Nat.le_of_ble_eq_true rfl, Nat.le_of_ble_eq_true rfl⟩ ⟨Nat.le_of_ble_eq_true rfl, Nat.le_of_ble_eq_true rfl⟩ he (fun H locs hw => ?_)
  have hV := hV.ev (by decide) (fa_addOffice he) hz
  have hw := hw.nrmW
  refine vn_ (v9 := 0) (vIs_e hq) ?_
  refine lv_if_ne (tgt := 965) X.1.1 X.1.2.1 dL_law_832 (by decide) (fun h9 => absurd rfl h9) (fun _ => ?_)
  refine W.widen (k := 393) (n := 5042) (Nat.le_of_ble_eq_true rfl) (Nat.le_of_ble_eq_true rfl) ?_
  exact fin _ _ _ _ _ hV hw hr hl
set_option maxHeartbeats 4000000 in
set_option maxRecDepth 100000 in
theorem w_law_45 {p : Program} {l : Launch} {e : Env} {s : State} {m : MethodId} {args : Array Value} {below : List Frame} {meth : Method} {c : Code} {g : wG} {Q : State → Prop} {y : (Nat → Nat → Int32) × (Nat → Int64) × (Nat → UInt64)} {bs : Nat} (X : LX p l s m args c cL_law 2 g)
    (fin : FN p l e room_1 s m args below meth c g y Q 3 (ch_law_46) 2 [(1, .ref (gA g 0)), (0, .ref bs)] 398 5072 843) : FN p l e room_1 s m args below meth c g y Q 3 (ch_law_45) 2 [(1, .ref (gA g 0)), (0, .ref bs)] 393 5042 835 := by
  intro S B H locs ls hV hw hr hl
  obtain ⟨n9, m9, ne9, n8, m8, hN, hN1, hev, hne, hne2⟩ := hV.cnt
  obtain ⟨he, hr⟩ := cX_e hr
  refine lv_aload_n X.1.1 X.1.2.1 dL_law_835 rfl (lv_at hl 0 rfl) ?_
  refine lv_iconst (v := 0) X.1.1 X.1.2.1 dL_law_836 (by decide) ?_
  refine sS X hN hw hl dL_law_837 ⟨Nat.le_of_ble_eq_true rfl, Nat.le_of_ble_eq_true rfl⟩ ⟨Nat.le_of_ble_eq_true rfl, Nat.le_of_ble_eq_true rfl⟩ he kS_2 (fun H locs hw => ?_)
  refine lv_if_ne (tgt := 965) X.1.1 X.1.2.1 dL_law_840 (by decide) (fun h9 => absurd rfl h9) (fun _ => ?_)
  refine W.widen (k := 398) (n := 5072) (Nat.le_of_ble_eq_true rfl) (Nat.le_of_ble_eq_true rfl) ?_
  exact fin _ _ _ _ _ hV hw hr hl
set_option maxHeartbeats 4000000 in
set_option maxRecDepth 100000 in
theorem w_law_46 {p : Program} {l : Launch} {e : Env} {s : State} {m : MethodId} {args : Array Value} {below : List Frame} {meth : Method} {c : Code} {g : wG} {Q : State → Prop} {y : (Nat → Nat → Int32) × (Nat → Int64) × (Nat → UInt64)} {bs : Nat} (X : LX p l s m args c cL_law 2 g)
    (fin : FN p l e room_1 s m args below meth c g y Q 3 (ch_law_47) 2 [(1, .ref (gA g 0)), (0, .ref bs)] 404 5106 874) : FN p l e room_1 s m args below meth c g y Q 3 (ch_law_46) 2 [(1, .ref (gA g 0)), (0, .ref bs)] 398 5072 843 := by
  intro S B H locs ls hV hw hr hl
  obtain ⟨n9, m9, ne9, n8, m8, hN, hN1, hev, hne, hne2⟩ := hV.cnt
  obtain ⟨he, hr⟩ := cX_e hr
  refine lv_aload_n X.1.1 X.1.2.1 dL_law_843 rfl (lv_at hl 0 rfl) ?_
  refine lv_bipush (v := (nI 99)) X.1.1 X.1.2.1 dL_law_844 (by decide +kernel) ?_
  refine lv_iconst (v := 4) X.1.1 X.1.2.1 dL_law_846 (by decide) ?_
  refine k_newv (n := 4) (N := 4) X.1 X.2.2.1 hw q_ai (by decide) (by decide) (by decide) (Nat.le_of_ble_eq_true rfl) (Nat.le_of_ble_eq_true rfl) dL_law_847 (fun b H hv => ?_)
  refine lv_dup X.1.1 X.1.2.1 dL_law_849 rfl ?_
  refine lv_iconst (v := 0) X.1.1 X.1.2.1 dL_law_850 (by decide) ?_
  refine lv_iconst (v := 0) X.1.1 X.1.2.1 dL_law_851 (by decide) ?_
  refine k_vst (v := 0) (n := 0) X.1 X.2.2.1 hv (vp_in_nI (n := 0) (by decide) (by decide)) (by decide) dL_law_852 (fun H locs hv => ?_)
  refine lv_dup X.1.1 X.1.2.1 dL_law_853 rfl ?_
  refine lv_iconst (v := 1) X.1.1 X.1.2.1 dL_law_854 (by decide) ?_
  refine lv_bipush (v := 10) X.1.1 X.1.2.1 dL_law_855 (by decide +kernel) ?_
  refine k_vst (v := 10) (n := 1) X.1 X.2.2.1 hv (vp_in_nI (n := 1) (by decide) (by decide)) (by decide) dL_law_857 (fun H locs hv => ?_)
  refine lv_dup X.1.1 X.1.2.1 dL_law_858 rfl ?_
  refine lv_iconst (v := 2) X.1.1 X.1.2.1 dL_law_859 (by decide) ?_
  refine lv_iconst (v := 0) X.1.1 X.1.2.1 dL_law_860 (by decide) ?_
  refine k_vst (v := 0) (n := 2) X.1 X.2.2.1 hv (vp_in_nI (n := 2) (by decide) (by decide)) (by decide) dL_law_861 (fun H locs hv => ?_)
  refine lv_dup X.1.1 X.1.2.1 dL_law_862 rfl ?_
  refine lv_iconst (v := 3) X.1.1 X.1.2.1 dL_law_863 (by decide) ?_
  refine lv_iconst (v := 0) X.1.1 X.1.2.1 dL_law_864 (by decide) ?_
  refine k_vst (v := 0) (n := 3) X.1 X.2.2.1 hv (vp_in_nI (n := 3) (by decide) (by decide)) (by decide) dL_law_865 (fun H locs hv => ?_)
  refine sX X (mA_complain l g X.2.2.2 S B y (upd (upd (upd (upd (fun _ => 0) 0 0) 1 10) 2 0) 3 0) 0 10 0 0 rfl rfl rfl rfl _ _ hN hev) hv hl dL_law_866 ⟨Nat.le_of_ble_eq_true rfl, Nat.le_of_ble_eq_true rfl⟩ ⟨Nat.le_of_ble_eq_true rfl, Nat.le_of_ble_eq_true rfl⟩ he kX_2 (fun H locs hw => ?_)
  refine lv_ldc (v := (-2000000002)) X.1.1 X.1.2.1 X.1.2.2.1 (X.1.2.2.2 _ q902) dL_law_869 ?_
  refine lv_icmp_ne (tgt := 965) X.1.1 X.1.2.1 dL_law_871 (by decide) (fun h9 => absurd rfl h9) (fun _ => ?_)
  refine W.widen (k := 404) (n := 5106) (Nat.le_of_ble_eq_true rfl) (Nat.le_of_ble_eq_true rfl) ?_
  exact fin _ _ _ _ _ hV hw hr hl
set_option maxHeartbeats 4000000 in
set_option maxRecDepth 100000 in
theorem w_law_47 {p : Program} {l : Launch} {e : Env} {s : State} {m : MethodId} {args : Array Value} {below : List Frame} {meth : Method} {c : Code} {g : wG} {Q : State → Prop} {y : (Nat → Nat → Int32) × (Nat → Int64) × (Nat → UInt64)} {bs : Nat} (X : LX p l s m args c cL_law 2 g)
    (fin : FN p l e room_1 s m args below meth c g y Q 3 (ch_law_48) 2 [(1, .ref (gA g 0)), (0, .ref bs)] 410 5140 905) : FN p l e room_1 s m args below meth c g y Q 3 (ch_law_47) 2 [(1, .ref (gA g 0)), (0, .ref bs)] 404 5106 874 := by
  intro S B H locs ls hV hw hr hl
  obtain ⟨n9, m9, ne9, n8, m8, hN, hN1, hev, hne, hne2⟩ := hV.cnt
  obtain ⟨he, hr⟩ := cX_e hr
  refine lv_aload_n X.1.1 X.1.2.1 dL_law_874 rfl (lv_at hl 0 rfl) ?_
  refine lv_bipush (v := (nI 99)) X.1.1 X.1.2.1 dL_law_875 (by decide +kernel) ?_
  refine lv_iconst (v := 4) X.1.1 X.1.2.1 dL_law_877 (by decide) ?_
  refine k_newv (n := 4) (N := 4) X.1 X.2.2.1 hw q_ai (by decide) (by decide) (by decide) (Nat.le_of_ble_eq_true rfl) (Nat.le_of_ble_eq_true rfl) dL_law_878 (fun b H hv => ?_)
  refine lv_dup X.1.1 X.1.2.1 dL_law_880 rfl ?_
  refine lv_iconst (v := 0) X.1.1 X.1.2.1 dL_law_881 (by decide) ?_
  refine lv_iconst (v := 0) X.1.1 X.1.2.1 dL_law_882 (by decide) ?_
  refine k_vst (v := 0) (n := 0) X.1 X.2.2.1 hv (vp_in_nI (n := 0) (by decide) (by decide)) (by decide) dL_law_883 (fun H locs hv => ?_)
  refine lv_dup X.1.1 X.1.2.1 dL_law_884 rfl ?_
  refine lv_iconst (v := 1) X.1.1 X.1.2.1 dL_law_885 (by decide) ?_
  refine lv_iconst (v := 0) X.1.1 X.1.2.1 dL_law_886 (by decide) ?_
  refine k_vst (v := 0) (n := 1) X.1 X.2.2.1 hv (vp_in_nI (n := 1) (by decide) (by decide)) (by decide) dL_law_887 (fun H locs hv => ?_)
  refine lv_dup X.1.1 X.1.2.1 dL_law_888 rfl ?_
  refine lv_iconst (v := 2) X.1.1 X.1.2.1 dL_law_889 (by decide) ?_
  refine lv_bipush (v := 50) X.1.1 X.1.2.1 dL_law_890 (by decide +kernel) ?_
  refine k_vst (v := 50) (n := 2) X.1 X.2.2.1 hv (vp_in_nI (n := 2) (by decide) (by decide)) (by decide) dL_law_892 (fun H locs hv => ?_)
  refine lv_dup X.1.1 X.1.2.1 dL_law_893 rfl ?_
  refine lv_iconst (v := 3) X.1.1 X.1.2.1 dL_law_894 (by decide) ?_
  refine lv_iconst (v := 0) X.1.1 X.1.2.1 dL_law_895 (by decide) ?_
  refine k_vst (v := 0) (n := 3) X.1 X.2.2.1 hv (vp_in_nI (n := 3) (by decide) (by decide)) (by decide) dL_law_896 (fun H locs hv => ?_)
  refine sX X (mA_complain l g X.2.2.2 S B y (upd (upd (upd (upd (fun _ => 0) 0 0) 1 0) 2 50) 3 0) 0 0 50 0 rfl rfl rfl rfl _ _ hN hev) hv hl dL_law_897 ⟨Nat.le_of_ble_eq_true rfl, Nat.le_of_ble_eq_true rfl⟩ ⟨Nat.le_of_ble_eq_true rfl, Nat.le_of_ble_eq_true rfl⟩ he kX_2 (fun H locs hw => ?_)
  refine lv_ldc (v := (-2000000002)) X.1.1 X.1.2.1 X.1.2.2.1 (X.1.2.2.2 _ q902) dL_law_900 ?_
  refine lv_icmp_ne (tgt := 965) X.1.1 X.1.2.1 dL_law_902 (by decide) (fun h9 => absurd rfl h9) (fun _ => ?_)
  refine W.widen (k := 410) (n := 5140) (Nat.le_of_ble_eq_true rfl) (Nat.le_of_ble_eq_true rfl) ?_
  exact fin _ _ _ _ _ hV hw hr hl
set_option maxHeartbeats 4000000 in
set_option maxRecDepth 100000 in
theorem w_law_48 {p : Program} {l : Launch} {e : Env} {s : State} {m : MethodId} {args : Array Value} {below : List Frame} {meth : Method} {c : Code} {g : wG} {Q : State → Prop} {y : (Nat → Nat → Int32) × (Nat → Int64) × (Nat → UInt64)} {bs : Nat} (X : LX p l s m args c cL_law 2 g)
    (fin : FN p l e room_1 s m args below meth c g y Q 3 (ch_law_49) 2 [(1, .ref (gA g 0)), (0, .ref bs)] 416 5174 935) : FN p l e room_1 s m args below meth c g y Q 3 (ch_law_48) 2 [(1, .ref (gA g 0)), (0, .ref bs)] 410 5140 905 := by
  intro S B H locs ls hV hw hr hl
  obtain ⟨n9, m9, ne9, n8, m8, hN, hN1, hev, hne, hne2⟩ := hV.cnt
  obtain ⟨he, hr⟩ := cX_e hr
  refine lv_aload_n X.1.1 X.1.2.1 dL_law_905 rfl (lv_at hl 0 rfl) ?_
  refine lv_bipush (v := (nI 99)) X.1.1 X.1.2.1 dL_law_906 (by decide +kernel) ?_
  refine lv_iconst (v := 4) X.1.1 X.1.2.1 dL_law_908 (by decide) ?_
  refine k_newv (n := 4) (N := 4) X.1 X.2.2.1 hw q_ai (by decide) (by decide) (by decide) (Nat.le_of_ble_eq_true rfl) (Nat.le_of_ble_eq_true rfl) dL_law_909 (fun b H hv => ?_)
  refine lv_dup X.1.1 X.1.2.1 dL_law_911 rfl ?_
  refine lv_iconst (v := 0) X.1.1 X.1.2.1 dL_law_912 (by decide) ?_
  refine lv_iconst (v := 0) X.1.1 X.1.2.1 dL_law_913 (by decide) ?_
  refine k_vst (v := 0) (n := 0) X.1 X.2.2.1 hv (vp_in_nI (n := 0) (by decide) (by decide)) (by decide) dL_law_914 (fun H locs hv => ?_)
  refine lv_dup X.1.1 X.1.2.1 dL_law_915 rfl ?_
  refine lv_iconst (v := 1) X.1.1 X.1.2.1 dL_law_916 (by decide) ?_
  refine lv_iconst (v := 0) X.1.1 X.1.2.1 dL_law_917 (by decide) ?_
  refine k_vst (v := 0) (n := 1) X.1 X.2.2.1 hv (vp_in_nI (n := 1) (by decide) (by decide)) (by decide) dL_law_918 (fun H locs hv => ?_)
  refine lv_dup X.1.1 X.1.2.1 dL_law_919 rfl ?_
  refine lv_iconst (v := 2) X.1.1 X.1.2.1 dL_law_920 (by decide) ?_
  refine lv_iconst (v := 0) X.1.1 X.1.2.1 dL_law_921 (by decide) ?_
  refine k_vst (v := 0) (n := 2) X.1 X.2.2.1 hv (vp_in_nI (n := 2) (by decide) (by decide)) (by decide) dL_law_922 (fun H locs hv => ?_)
  refine lv_dup X.1.1 X.1.2.1 dL_law_923 rfl ?_
  refine lv_iconst (v := 3) X.1.1 X.1.2.1 dL_law_924 (by decide) ?_
  refine lv_iconst (v := 1) X.1.1 X.1.2.1 dL_law_925 (by decide) ?_
  refine k_vst (v := 1) (n := 3) X.1 X.2.2.1 hv (vp_in_nI (n := 3) (by decide) (by decide)) (by decide) dL_law_926 (fun H locs hv => ?_)
  refine sX X (mA_complain l g X.2.2.2 S B y (upd (upd (upd (upd (fun _ => 0) 0 0) 1 0) 2 0) 3 1) 0 0 0 1 rfl rfl rfl rfl _ _ hN hev) hv hl dL_law_927 ⟨Nat.le_of_ble_eq_true rfl, Nat.le_of_ble_eq_true rfl⟩ ⟨Nat.le_of_ble_eq_true rfl, Nat.le_of_ble_eq_true rfl⟩ he kX_2 (fun H locs hw => ?_)
  refine lv_ldc (v := (-2000000002)) X.1.1 X.1.2.1 X.1.2.2.1 (X.1.2.2.2 _ q902) dL_law_930 ?_
  refine lv_icmp_ne (tgt := 965) X.1.1 X.1.2.1 dL_law_932 (by decide) (fun h9 => absurd rfl h9) (fun _ => ?_)
  refine W.widen (k := 416) (n := 5174) (Nat.le_of_ble_eq_true rfl) (Nat.le_of_ble_eq_true rfl) ?_
  exact fin _ _ _ _ _ hV hw hr hl
set_option maxHeartbeats 4000000 in
set_option maxRecDepth 100000 in
theorem w_law_49 {p : Program} {l : Launch} {e : Env} {s : State} {m : MethodId} {args : Array Value} {below : List Frame} {meth : Method} {c : Code} {g : wG} {Q : State → Prop} {y : (Nat → Nat → Int32) × (Nat → Int64) × (Nat → UInt64)} {bs : Nat} (X : LX p l s m args c cL_law 2 g)
    (fin : FN p l e room_1 s m args below meth c g y Q 3 (ch_law_50) 2 [(1, .ref (gA g 0)), (0, .ref bs)] 422 5208 967) : FN p l e room_1 s m args below meth c g y Q 3 (ch_law_49) 2 [(1, .ref (gA g 0)), (0, .ref bs)] 416 5174 935 := by
  intro S B H locs ls hV hw hr hl
  obtain ⟨n9, m9, ne9, n8, m8, hN, hN1, hev, hne, hne2⟩ := hV.cnt
  obtain ⟨he, hr⟩ := cX_e hr
  refine lv_aload_n X.1.1 X.1.2.1 dL_law_935 rfl (lv_at hl 0 rfl) ?_
  refine lv_bipush (v := (nI 99)) X.1.1 X.1.2.1 dL_law_936 (by decide +kernel) ?_
  refine lv_iconst (v := 4) X.1.1 X.1.2.1 dL_law_938 (by decide) ?_
  refine k_newv (n := 4) (N := 4) X.1 X.2.2.1 hw q_ai (by decide) (by decide) (by decide) (Nat.le_of_ble_eq_true rfl) (Nat.le_of_ble_eq_true rfl) dL_law_939 (fun b H hv => ?_)
  refine lv_dup X.1.1 X.1.2.1 dL_law_941 rfl ?_
  refine lv_iconst (v := 0) X.1.1 X.1.2.1 dL_law_942 (by decide) ?_
  refine lv_iconst (v := 1) X.1.1 X.1.2.1 dL_law_943 (by decide) ?_
  refine k_vst (v := 1) (n := 0) X.1 X.2.2.1 hv (vp_in_nI (n := 0) (by decide) (by decide)) (by decide) dL_law_944 (fun H locs hv => ?_)
  refine lv_dup X.1.1 X.1.2.1 dL_law_945 rfl ?_
  refine lv_iconst (v := 1) X.1.1 X.1.2.1 dL_law_946 (by decide) ?_
  refine lv_iconst (v := 0) X.1.1 X.1.2.1 dL_law_947 (by decide) ?_
  refine k_vst (v := 0) (n := 1) X.1 X.2.2.1 hv (vp_in_nI (n := 1) (by decide) (by decide)) (by decide) dL_law_948 (fun H locs hv => ?_)
  refine lv_dup X.1.1 X.1.2.1 dL_law_949 rfl ?_
  refine lv_iconst (v := 2) X.1.1 X.1.2.1 dL_law_950 (by decide) ?_
  refine lv_iconst (v := 0) X.1.1 X.1.2.1 dL_law_951 (by decide) ?_
  refine k_vst (v := 0) (n := 2) X.1 X.2.2.1 hv (vp_in_nI (n := 2) (by decide) (by decide)) (by decide) dL_law_952 (fun H locs hv => ?_)
  refine lv_dup X.1.1 X.1.2.1 dL_law_953 rfl ?_
  refine lv_iconst (v := 3) X.1.1 X.1.2.1 dL_law_954 (by decide) ?_
  refine lv_iconst (v := 0) X.1.1 X.1.2.1 dL_law_955 (by decide) ?_
  refine k_vst (v := 0) (n := 3) X.1 X.2.2.1 hv (vp_in_nI (n := 3) (by decide) (by decide)) (by decide) dL_law_956 (fun H locs hv => ?_)
  refine sX X (mA_complain l g X.2.2.2 S B y (upd (upd (upd (upd (fun _ => 0) 0 1) 1 0) 2 0) 3 0) 1 0 0 0 rfl rfl rfl rfl _ _ hN hev) hv hl dL_law_957 ⟨Nat.le_of_ble_eq_true rfl, Nat.le_of_ble_eq_true rfl⟩ ⟨Nat.le_of_ble_eq_true rfl, Nat.le_of_ble_eq_true rfl⟩ he kX_1 (fun H locs hw => ?_)
  refine lv_ldc (v := (-2000000001)) X.1.1 X.1.2.1 X.1.2.2.1 (X.1.2.2.2 _ q901) dL_law_960 ?_
  refine lv_icmp_eq (tgt := 967) X.1.1 X.1.2.1 dL_law_962 (by decide) (fun _ => ?_) (fun h9 => absurd rfl h9)
  refine W.widen (k := 422) (n := 5208) (Nat.le_of_ble_eq_true rfl) (Nat.le_of_ble_eq_true rfl) ?_
  exact fin _ _ _ _ _ hV hw hr hl
set_option maxHeartbeats 4000000 in
set_option maxRecDepth 100000 in
theorem w_law {p : Program} {l : Launch} {e : Env} {s : State} {m : MethodId} {args : Array Value} {below : List Frame} {meth : Method} {c : Code} {g : wG} {Q : State → Prop} {y : (Nat → Nat → Int32) × (Nat → Int64) × (Nat → UInt64)} {bs : Nat} (X : LX p l s m args c cL_law 2 g)
    (fin : FN p l e room_1 s m args below meth c g y Q 3 (ch_law_50) 2 [(1, .ref (gA g 0)), (0, .ref bs)] 422 5208 967) : FN p l e room_1 s m args below meth c g y Q 0 (ch_law_0) 2 [(1, .ref (gA g 0)), (0, .ref bs)] 143 3727 8 :=
  w_law_0 X (w_law_1 X (w_law_2 X (w_law_3 X (w_law_4 X (w_law_5 X (w_law_6 X (w_law_7 X (w_law_8 X (w_law_9 X (w_law_10 X (w_law_11 X (w_law_12 X (w_law_13 X (w_law_14 X (w_law_15 X (w_law_16 X (w_law_17 X (w_law_18 X (w_law_19 X (w_law_20 X (w_law_21 X (w_law_22 X (w_law_23 X (w_law_24 X (w_law_25 X (w_law_26 X (w_law_27 X (w_law_28 X (w_law_29 X (w_law_30 X (w_law_31 X (w_law_32 X (w_law_33 X (w_law_34 X (w_law_35 X (w_law_36 X (w_law_37 X (w_law_38 X (w_law_39 X (w_law_40 X (w_law_41 X (w_law_42 X (w_law_43 X (w_law_44 X (w_law_45 X (w_law_46 X (w_law_47 X (w_law_48 X (w_law_49 X (fin))))))))))))))))))))))))))))))))))))))))))))))))))
