/-! the law, call by call: lad -/
set_option maxHeartbeats 4000000 in
set_option maxRecDepth 100000 in
theorem w_lad_0 {p : Program} {l : Launch} {e : Env} {s : State} {m : MethodId} {args : Array Value} {below : List Frame} {meth : Method} {c : Code} {g : wG} {Q : State → Prop} {y : (Nat → Nat → Int32) × (Nat → Int64) × (Nat → UInt64)} {bs : Nat} (w : Int32) (h : Int32) (X : LX p l s m args c cL_ladder 8 g)
    (fin : FN p l e rmD s m args below meth c g y Q 1 (ch_lad_1 w) 8 [(6, .int 0), (5, .int (rmd w h)), (4, .int (sm4 w h)), (3, .int h), (2, .int w), (1, .ref (gA g 0)), (0, .ref bs)] 149 3759 110) : FN p l e rmD s m args below meth c g y Q 0 (ch_lad_0 w) 8 [(5, .int (rmd w h)), (4, .int (sm4 w h)), (3, .int h), (2, .int w), (1, .ref (gA g 0)), (0, .ref bs)] 143 3727 77 := by
  intro S B H locs ls hV hw hr hl
  obtain ⟨n9, m9, ne9, n8, m8, hN, hN1, hev, hne, hne2⟩ := hV.cnt
  obtain ⟨he, hq, hz, hr⟩ := cC_e hr
  refine lv_iconst (v := 0) X.1.1 X.1.2.1 dL_ladder_77 (by decide) ?_
  refine lv_istore (lv' := [(6, .int 0), (5, .int (rmd w h)), (4, .int (sm4 w h)), (3, .int h), (2, .int w), (1, .ref (gA g 0)), (0, .ref bs)]) X.1.1 X.1.2.1 dL_ladder_78 hl (by decide) rfl (fun ls hl => ?_)
  refine lv_iload X.1.1 X.1.2.1 dL_ladder_80 (lv_at hl 0 rfl) ?_
  refine lv_iconst (v := 5) X.1.1 X.1.2.1 dL_ladder_82 (by decide) ?_
  refine lv_icmp_ge (tgt := 116) X.1.1 X.1.2.1 dL_ladder_83 (by decide) (fun h9 => absurd h9 (by decide)) (fun _ => ?_)
  refine lv_aload_n X.1.1 X.1.2.1 dL_ladder_86 rfl (lv_at hl 5 rfl) ?_
  refine lv_bipush (v := (nI 119)) X.1.1 X.1.2.1 dL_ladder_87 (by decide +kernel) ?_
  refine lv_iconst (v := 2) X.1.1 X.1.2.1 dL_ladder_89 (by decide) ?_
  refine k_newv (n := 2) (N := 2) X.1 X.2.2.1 hw q_ai (by decide) (by decide) (by decide) (Nat.le_of_ble_eq_true rfl) (Nat.le_of_ble_eq_true rfl) dL_ladder_90 (fun b H hv => ?_)
  refine lv_dup X.1.1 X.1.2.1 dL_ladder_92 rfl ?_
  refine lv_iconst (v := 0) X.1.1 X.1.2.1 dL_ladder_93 (by decide) ?_
  refine lv_iload X.1.1 X.1.2.1 dL_ladder_94 (lv_at hl 0 rfl) ?_
  refine k_vst (v := 0) (n := 0) X.1 X.2.2.1 hv (vp_in_nI (n := 0) (by decide) (by decide)) (by decide) dL_ladder_96 (fun H locs hv => ?_)
  refine lv_dup X.1.1 X.1.2.1 dL_ladder_97 rfl ?_
  refine lv_iconst (v := 1) X.1.1 X.1.2.1 dL_ladder_98 (by decide) ?_
  refine lv_iload_n X.1.1 X.1.2.1 dL_ladder_99 rfl (lv_at hl 4 rfl) ?_
  refine k_vst (v := w) (n := 1) X.1 X.2.2.1 hv (vp_in_nI (n := 1) (by decide) (by decide)) (by decide) dL_ladder_100 (fun H locs hv => ?_)
  refine sN X (mA_setWeight l g X.2.2.2 S B y (upd (upd (fun _ => 0) 0 0) 1 w) 0 w rfl rfl _ _ hN hev) hv hl dL_ladder_101 ⟨Nat.le_of_ble_eq_true rfl, Nat.le_of_ble_eq_true rfl⟩ ⟨Nat.le_of_ble_eq_true rfl, Nat.le_of_ble_eq_true rfl⟩ he (fun H locs hw => ?_)
  have hV := hV.ev (by decide) (fa_setWeight he) hz
  have hw := hw.nrmW
  refine vn_ (v9 := 1) (vIs_e hq) ?_
  refine lv_iconst (v := 1) X.1.1 X.1.2.1 dL_ladder_104 (by decide) ?_
  refine lv_icmp_eq (tgt := 110) X.1.1 X.1.2.1 dL_ladder_105 (by decide) (fun _ => ?_) (fun h9 => absurd rfl h9)
  refine W.widen (k := 149) (n := 3759) (Nat.le_of_ble_eq_true rfl) (Nat.le_of_ble_eq_true rfl) ?_
  exact fin _ _ _ _ _ hV hw hr hl
set_option maxHeartbeats 4000000 in
set_option maxRecDepth 100000 in
theorem w_lad_1 {p : Program} {l : Launch} {e : Env} {s : State} {m : MethodId} {args : Array Value} {below : List Frame} {meth : Method} {c : Code} {g : wG} {Q : State → Prop} {y : (Nat → Nat → Int32) × (Nat → Int64) × (Nat → UInt64)} {bs : Nat} (w : Int32) (h : Int32) (X : LX p l s m args c cL_ladder 8 g)
    (fin : FN p l e rmD s m args below meth c g y Q 2 (ch_lad_2 w) 8 [(6, .int 1), (5, .int (rmd w h)), (4, .int (sm4 w h)), (3, .int h), (2, .int w), (1, .ref (gA g 0)), (0, .ref bs)] 155 3791 110) : FN p l e rmD s m args below meth c g y Q 1 (ch_lad_1 w) 8 [(6, .int 0), (5, .int (rmd w h)), (4, .int (sm4 w h)), (3, .int h), (2, .int w), (1, .ref (gA g 0)), (0, .ref bs)] 149 3759 110 := by
  intro S B H locs ls hV hw hr hl
  obtain ⟨n9, m9, ne9, n8, m8, hN, hN1, hev, hne, hne2⟩ := hV.cnt
  obtain ⟨he, hq, hz, hr⟩ := cC_e hr
  refine lv_iinc (v := 1) (lv' := [(6, .int 1), (5, .int (rmd w h)), (4, .int (sm4 w h)), (3, .int h), (2, .int w), (1, .ref (gA g 0)), (0, .ref bs)]) X.1.1 X.1.2.1 dL_ladder_110 hl (k := 0) rfl (by decide) (by decide) rfl (fun ls hl => ?_)
  refine lv_goto (tgt := 80) X.1.1 X.1.2.1 dL_ladder_113 (by decide) ?_
  refine lv_iload X.1.1 X.1.2.1 dL_ladder_80 (lv_at hl 0 rfl) ?_
  refine lv_iconst (v := 5) X.1.1 X.1.2.1 dL_ladder_82 (by decide) ?_
  refine lv_icmp_ge (tgt := 116) X.1.1 X.1.2.1 dL_ladder_83 (by decide) (fun h9 => absurd h9 (by decide)) (fun _ => ?_)
  refine lv_aload_n X.1.1 X.1.2.1 dL_ladder_86 rfl (lv_at hl 5 rfl) ?_
  refine lv_bipush (v := (nI 119)) X.1.1 X.1.2.1 dL_ladder_87 (by decide +kernel) ?_
  refine lv_iconst (v := 2) X.1.1 X.1.2.1 dL_ladder_89 (by decide) ?_
  refine k_newv (n := 2) (N := 2) X.1 X.2.2.1 hw q_ai (by decide) (by decide) (by decide) (Nat.le_of_ble_eq_true rfl) (Nat.le_of_ble_eq_true rfl) dL_ladder_90 (fun b H hv => ?_)
  refine lv_dup X.1.1 X.1.2.1 dL_ladder_92 rfl ?_
  refine lv_iconst (v := 0) X.1.1 X.1.2.1 dL_ladder_93 (by decide) ?_
  refine lv_iload X.1.1 X.1.2.1 dL_ladder_94 (lv_at hl 0 rfl) ?_
  refine k_vst (v := 1) (n := 0) X.1 X.2.2.1 hv (vp_in_nI (n := 0) (by decide) (by decide)) (by decide) dL_ladder_96 (fun H locs hv => ?_)
  refine lv_dup X.1.1 X.1.2.1 dL_ladder_97 rfl ?_
  refine lv_iconst (v := 1) X.1.1 X.1.2.1 dL_ladder_98 (by decide) ?_
  refine lv_iload_n X.1.1 X.1.2.1 dL_ladder_99 rfl (lv_at hl 4 rfl) ?_
  refine k_vst (v := w) (n := 1) X.1 X.2.2.1 hv (vp_in_nI (n := 1) (by decide) (by decide)) (by decide) dL_ladder_100 (fun H locs hv => ?_)
  refine sN X (mA_setWeight l g X.2.2.2 S B y (upd (upd (fun _ => 0) 0 1) 1 w) 1 w rfl rfl _ _ hN hev) hv hl dL_ladder_101 ⟨Nat.le_of_ble_eq_true rfl, Nat.le_of_ble_eq_true rfl⟩ ⟨Nat.le_of_ble_eq_true rfl, Nat.le_of_ble_eq_true rfl⟩ he (fun H locs hw => ?_)
  have hV := hV.ev (by decide) (fa_setWeight he) hz
  have hw := hw.nrmW
  refine vn_ (v9 := 1) (vIs_e hq) ?_
  refine lv_iconst (v := 1) X.1.1 X.1.2.1 dL_ladder_104 (by decide) ?_
  refine lv_icmp_eq (tgt := 110) X.1.1 X.1.2.1 dL_ladder_105 (by decide) (fun _ => ?_) (fun h9 => absurd rfl h9)
  refine W.widen (k := 155) (n := 3791) (Nat.le_of_ble_eq_true rfl) (Nat.le_of_ble_eq_true rfl) ?_
  exact fin _ _ _ _ _ hV hw hr hl
set_option maxHeartbeats 4000000 in
set_option maxRecDepth 100000 in
theorem w_lad_2 {p : Program} {l : Launch} {e : Env} {s : State} {m : MethodId} {args : Array Value} {below : List Frame} {meth : Method} {c : Code} {g : wG} {Q : State → Prop} {y : (Nat → Nat → Int32) × (Nat → Int64) × (Nat → UInt64)} {bs : Nat} (w : Int32) (h : Int32) (X : LX p l s m args c cL_ladder 8 g)
    (fin : FN p l e rmD s m args below meth c g y Q 3 (ch_lad_3 w) 8 [(6, .int 2), (5, .int (rmd w h)), (4, .int (sm4 w h)), (3, .int h), (2, .int w), (1, .ref (gA g 0)), (0, .ref bs)] 161 3823 110) : FN p l e rmD s m args below meth c g y Q 2 (ch_lad_2 w) 8 [(6, .int 1), (5, .int (rmd w h)), (4, .int (sm4 w h)), (3, .int h), (2, .int w), (1, .ref (gA g 0)), (0, .ref bs)] 155 3791 110 := by
  intro S B H locs ls hV hw hr hl
  obtain ⟨n9, m9, ne9, n8, m8, hN, hN1, hev, hne, hne2⟩ := hV.cnt
  obtain ⟨he, hq, hz, hr⟩ := cC_e hr
  refine lv_iinc (v := 2) (lv' := [(6, .int 2), (5, .int (rmd w h)), (4, .int (sm4 w h)), (3, .int h), (2, .int w), (1, .ref (gA g 0)), (0, .ref bs)]) X.1.1 X.1.2.1 dL_ladder_110 hl (k := 0) rfl (by decide) (by decide) rfl (fun ls hl => ?_)
  refine lv_goto (tgt := 80) X.1.1 X.1.2.1 dL_ladder_113 (by decide) ?_
  refine lv_iload X.1.1 X.1.2.1 dL_ladder_80 (lv_at hl 0 rfl) ?_
  refine lv_iconst (v := 5) X.1.1 X.1.2.1 dL_ladder_82 (by decide) ?_
  refine lv_icmp_ge (tgt := 116) X.1.1 X.1.2.1 dL_ladder_83 (by decide) (fun h9 => absurd h9 (by decide)) (fun _ => ?_)
  refine lv_aload_n X.1.1 X.1.2.1 dL_ladder_86 rfl (lv_at hl 5 rfl) ?_
  refine lv_bipush (v := (nI 119)) X.1.1 X.1.2.1 dL_ladder_87 (by decide +kernel) ?_
  refine lv_iconst (v := 2) X.1.1 X.1.2.1 dL_ladder_89 (by decide) ?_
  refine k_newv (n := 2) (N := 2) X.1 X.2.2.1 hw q_ai (by decide) (by decide) (by decide) (Nat.le_of_ble_eq_true rfl) (Nat.le_of_ble_eq_true rfl) dL_ladder_90 (fun b H hv => ?_)
  refine lv_dup X.1.1 X.1.2.1 dL_ladder_92 rfl ?_
  refine lv_iconst (v := 0) X.1.1 X.1.2.1 dL_ladder_93 (by decide) ?_
  refine lv_iload X.1.1 X.1.2.1 dL_ladder_94 (lv_at hl 0 rfl) ?_
  refine k_vst (v := 2) (n := 0) X.1 X.2.2.1 hv (vp_in_nI (n := 0) (by decide) (by decide)) (by decide) dL_ladder_96 (fun H locs hv => ?_)
  refine lv_dup X.1.1 X.1.2.1 dL_ladder_97 rfl ?_
  refine lv_iconst (v := 1) X.1.1 X.1.2.1 dL_ladder_98 (by decide) ?_
  refine lv_iload_n X.1.1 X.1.2.1 dL_ladder_99 rfl (lv_at hl 4 rfl) ?_
  refine k_vst (v := w) (n := 1) X.1 X.2.2.1 hv (vp_in_nI (n := 1) (by decide) (by decide)) (by decide) dL_ladder_100 (fun H locs hv => ?_)
  refine sN X (mA_setWeight l g X.2.2.2 S B y (upd (upd (fun _ => 0) 0 2) 1 w) 2 w rfl rfl _ _ hN hev) hv hl dL_ladder_101 ⟨Nat.le_of_ble_eq_true rfl, Nat.le_of_ble_eq_true rfl⟩ ⟨Nat.le_of_ble_eq_true rfl, Nat.le_of_ble_eq_true rfl⟩ he (fun H locs hw => ?_)
  have hV := hV.ev (by decide) (fa_setWeight he) hz
  have hw := hw.nrmW
  refine vn_ (v9 := 1) (vIs_e hq) ?_
  refine lv_iconst (v := 1) X.1.1 X.1.2.1 dL_ladder_104 (by decide) ?_
  refine lv_icmp_eq (tgt := 110) X.1.1 X.1.2.1 dL_ladder_105 (by decide) (fun _ => ?_) (fun h9 => absurd rfl h9)
  refine W.widen (k := 161) (n := 3823) (Nat.le_of_ble_eq_true rfl) (Nat.le_of_ble_eq_true rfl) ?_
  exact fin _ _ _ _ _ hV hw hr hl
set_option maxHeartbeats 4000000 in
set_option maxRecDepth 100000 in
theorem w_lad_3 {p : Program} {l : Launch} {e : Env} {s : State} {m : MethodId} {args : Array Value} {below : List Frame} {meth : Method} {c : Code} {g : wG} {Q : State → Prop} {y : (Nat → Nat → Int32) × (Nat → Int64) × (Nat → UInt64)} {bs : Nat} (w : Int32) (h : Int32) (X : LX p l s m args c cL_ladder 8 g)
    (fin : FN p l e rmD s m args below meth c g y Q 4 (ch_lad_4 w) 8 [(6, .int 3), (5, .int (rmd w h)), (4, .int (sm4 w h)), (3, .int h), (2, .int w), (1, .ref (gA g 0)), (0, .ref bs)] 167 3855 110) : FN p l e rmD s m args below meth c g y Q 3 (ch_lad_3 w) 8 [(6, .int 2), (5, .int (rmd w h)), (4, .int (sm4 w h)), (3, .int h), (2, .int w), (1, .ref (gA g 0)), (0, .ref bs)] 161 3823 110 := by
  intro S B H locs ls hV hw hr hl
  obtain ⟨n9, m9, ne9, n8, m8, hN, hN1, hev, hne, hne2⟩ := hV.cnt
  obtain ⟨he, hq, hz, hr⟩ := cC_e hr
  refine lv_iinc (v := 3) (lv' := [(6, .int 3), (5, .int (rmd w h)), (4, .int (sm4 w h)), (3, .int h), (2, .int w), (1, .ref (gA g 0)), (0, .ref bs)]) X.1.1 X.1.2.1 dL_ladder_110 hl (k := 0) rfl (by decide) (by decide) rfl (fun ls hl => ?_)
  refine lv_goto (tgt := 80) X.1.1 X.1.2.1 dL_ladder_113 (by decide) ?_
  refine lv_iload X.1.1 X.1.2.1 dL_ladder_80 (lv_at hl 0 rfl) ?_
  refine lv_iconst (v := 5) X.1.1 X.1.2.1 dL_ladder_82 (by decide) ?_
  refine lv_icmp_ge (tgt := 116) X.1.1 X.1.2.1 dL_ladder_83 (by decide) (fun h9 => absurd h9 (by decide)) (fun _ => ?_)
  refine lv_aload_n X.1.1 X.1.2.1 dL_ladder_86 rfl (lv_at hl 5 rfl) ?_
  refine lv_bipush (v := (nI 119)) X.1.1 X.1.2.1 dL_ladder_87 (by decide +kernel) ?_
  refine lv_iconst (v := 2) X.1.1 X.1.2.1 dL_ladder_89 (by decide) ?_
  refine k_newv (n := 2) (N := 2) X.1 X.2.2.1 hw q_ai (by decide) (by decide) (by decide) (Nat.le_of_ble_eq_true rfl) (Nat.le_of_ble_eq_true rfl) dL_ladder_90 (fun b H hv => ?_)
  refine lv_dup X.1.1 X.1.2.1 dL_ladder_92 rfl ?_
  refine lv_iconst (v := 0) X.1.1 X.1.2.1 dL_ladder_93 (by decide) ?_
  refine lv_iload X.1.1 X.1.2.1 dL_ladder_94 (lv_at hl 0 rfl) ?_
  refine k_vst (v := 3) (n := 0) X.1 X.2.2.1 hv (vp_in_nI (n := 0) (by decide) (by decide)) (by decide) dL_ladder_96 (fun H locs hv => ?_)
  refine lv_dup X.1.1 X.1.2.1 dL_ladder_97 rfl ?_
  refine lv_iconst (v := 1) X.1.1 X.1.2.1 dL_ladder_98 (by decide) ?_
  refine lv_iload_n X.1.1 X.1.2.1 dL_ladder_99 rfl (lv_at hl 4 rfl) ?_
  refine k_vst (v := w) (n := 1) X.1 X.2.2.1 hv (vp_in_nI (n := 1) (by decide) (by decide)) (by decide) dL_ladder_100 (fun H locs hv => ?_)
  refine sN X (mA_setWeight l g X.2.2.2 S B y (upd (upd (fun _ => 0) 0 3) 1 w) 3 w rfl rfl _ _ hN hev) hv hl dL_ladder_101 ⟨Nat.le_of_ble_eq_true rfl, Nat.le_of_ble_eq_true rfl⟩ ⟨Nat.le_of_ble_eq_true rfl, Nat.le_of_ble_eq_true rfl⟩ he (fun H locs hw => ?_)
  have hV := hV.ev (by decide) (fa_setWeight he) hz
  have hw := hw.nrmW
  refine vn_ (v9 := 1) (vIs_e hq) ?_
  refine lv_iconst (v := 1) X.1.1 X.1.2.1 dL_ladder_104 (by decide) ?_
  refine lv_icmp_eq (tgt := 110) X.1.1 X.1.2.1 dL_ladder_105 (by decide) (fun _ => ?_) (fun h9 => absurd rfl h9)
  refine W.widen (k := 167) (n := 3855) (Nat.le_of_ble_eq_true rfl) (Nat.le_of_ble_eq_true rfl) ?_
  exact fin _ _ _ _ _ hV hw hr hl
set_option maxHeartbeats 4000000 in
set_option maxRecDepth 100000 in
theorem w_lad_4 {p : Program} {l : Launch} {e : Env} {s : State} {m : MethodId} {args : Array Value} {below : List Frame} {meth : Method} {c : Code} {g : wG} {Q : State → Prop} {y : (Nat → Nat → Int32) × (Nat → Int64) × (Nat → UInt64)} {bs : Nat} (w : Int32) (h : Int32) (X : LX p l s m args c cL_ladder 8 g)
    (fin : FN p l e rmD s m args below meth c g y Q 5 (ch_lad_5 w) 8 [(6, .int 4), (5, .int (rmd w h)), (4, .int (sm4 w h)), (3, .int h), (2, .int w), (1, .ref (gA g 0)), (0, .ref bs)] 173 3887 110) : FN p l e rmD s m args below meth c g y Q 4 (ch_lad_4 w) 8 [(6, .int 3), (5, .int (rmd w h)), (4, .int (sm4 w h)), (3, .int h), (2, .int w), (1, .ref (gA g 0)), (0, .ref bs)] 167 3855 110 := by
  intro S B H locs ls hV hw hr hl
  obtain ⟨n9, m9, ne9, n8, m8, hN, hN1, hev, hne, hne2⟩ := hV.cnt
  obtain ⟨he, hq, hz, hr⟩ := cC_e hr
  refine lv_iinc (v := 4) (lv' := [(6, .int 4), (5, .int (rmd w h)), (4, .int (sm4 w h)), (3, .int h), (2, .int w), (1, .ref (gA g 0)), (0, .ref bs)]) X.1.1 X.1.2.1 dL_ladder_110 hl (k := 0) rfl (by decide) (by decide) rfl (fun ls hl => ?_)
  refine lv_goto (tgt := 80) X.1.1 X.1.2.1 dL_ladder_113 (by decide) ?_
  refine lv_iload X.1.1 X.1.2.1 dL_ladder_80 (lv_at hl 0 rfl) ?_
  refine lv_iconst (v := 5) X.1.1 X.1.2.1 dL_ladder_82 (by decide) ?_
  refine lv_icmp_ge (tgt := 116) X.1.1 X.1.2.1 dL_ladder_83 (by decide) (fun h9 => absurd h9 (by decide)) (fun _ => ?_)
  refine lv_aload_n X.1.1 X.1.2.1 dL_ladder_86 rfl (lv_at hl 5 rfl) ?_
  refine lv_bipush (v := (nI 119)) X.1.1 X.1.2.1 dL_ladder_87 (by decide +kernel) ?_
  refine lv_iconst (v := 2) X.1.1 X.1.2.1 dL_ladder_89 (by decide) ?_
  refine k_newv (n := 2) (N := 2) X.1 X.2.2.1 hw q_ai (by decide) (by decide) (by decide) (Nat.le_of_ble_eq_true rfl) (Nat.le_of_ble_eq_true rfl) dL_ladder_90 (fun b H hv => ?_)
  refine lv_dup X.1.1 X.1.2.1 dL_ladder_92 rfl ?_
  refine lv_iconst (v := 0) X.1.1 X.1.2.1 dL_ladder_93 (by decide) ?_
  refine lv_iload X.1.1 X.1.2.1 dL_ladder_94 (lv_at hl 0 rfl) ?_
  refine k_vst (v := 4) (n := 0) X.1 X.2.2.1 hv (vp_in_nI (n := 0) (by decide) (by decide)) (by decide) dL_ladder_96 (fun H locs hv => ?_)
  refine lv_dup X.1.1 X.1.2.1 dL_ladder_97 rfl ?_
  refine lv_iconst (v := 1) X.1.1 X.1.2.1 dL_ladder_98 (by decide) ?_
  refine lv_iload_n X.1.1 X.1.2.1 dL_ladder_99 rfl (lv_at hl 4 rfl) ?_
  refine k_vst (v := w) (n := 1) X.1 X.2.2.1 hv (vp_in_nI (n := 1) (by decide) (by decide)) (by decide) dL_ladder_100 (fun H locs hv => ?_)
  refine sN X (mA_setWeight l g X.2.2.2 S B y (upd (upd (fun _ => 0) 0 4) 1 w) 4 w rfl rfl _ _ hN hev) hv hl dL_ladder_101 ⟨Nat.le_of_ble_eq_true rfl, Nat.le_of_ble_eq_true rfl⟩ ⟨Nat.le_of_ble_eq_true rfl, Nat.le_of_ble_eq_true rfl⟩ he (fun H locs hw => ?_)
  have hV := hV.ev (by decide) (fa_setWeight he) hz
  have hw := hw.nrmW
  refine vn_ (v9 := 1) (vIs_e hq) ?_
  refine lv_iconst (v := 1) X.1.1 X.1.2.1 dL_ladder_104 (by decide) ?_
  refine lv_icmp_eq (tgt := 110) X.1.1 X.1.2.1 dL_ladder_105 (by decide) (fun _ => ?_) (fun h9 => absurd rfl h9)
  refine W.widen (k := 173) (n := 3887) (Nat.le_of_ble_eq_true rfl) (Nat.le_of_ble_eq_true rfl) ?_
  exact fin _ _ _ _ _ hV hw hr hl
set_option maxHeartbeats 4000000 in
set_option maxRecDepth 100000 in
theorem w_lad_5 {p : Program} {l : Launch} {e : Env} {s : State} {m : MethodId} {args : Array Value} {below : List Frame} {meth : Method} {c : Code} {g : wG} {Q : State → Prop} {y : (Nat → Nat → Int32) × (Nat → Int64) × (Nat → UInt64)} {bs : Nat} (w : Int32) (h : Int32) (X : LX p l s m args c cL_ladder 8 g)
    (fin : FN p l e rmD s m args below meth c g y Q 6 (ch_lad_6 w) 8 [(6, .int 5), (5, .int (rmd w h)), (4, .int (sm4 w h)), (3, .int h), (2, .int w), (1, .ref (gA g 0)), (0, .ref bs)] 179 3919 136) : FN p l e rmD s m args below meth c g y Q 5 (ch_lad_5 w) 8 [(6, .int 4), (5, .int (rmd w h)), (4, .int (sm4 w h)), (3, .int h), (2, .int w), (1, .ref (gA g 0)), (0, .ref bs)] 173 3887 110 := by
  intro S B H locs ls hV hw hr hl
  obtain ⟨n9, m9, ne9, n8, m8, hN, hN1, hev, hne, hne2⟩ := hV.cnt
  obtain ⟨he, hq, hz, hr⟩ := cC_e hr
  refine lv_iinc (v := 5) (lv' := [(6, .int 5), (5, .int (rmd w h)), (4, .int (sm4 w h)), (3, .int h), (2, .int w), (1, .ref (gA g 0)), (0, .ref bs)]) X.1.1 X.1.2.1 dL_ladder_110 hl (k := 0) rfl (by decide) (by decide) rfl (fun ls hl => ?_)
  refine lv_goto (tgt := 80) X.1.1 X.1.2.1 dL_ladder_113 (by decide) ?_
  refine lv_iload X.1.1 X.1.2.1 dL_ladder_80 (lv_at hl 0 rfl) ?_
  refine lv_iconst (v := 5) X.1.1 X.1.2.1 dL_ladder_82 (by decide) ?_
  refine lv_icmp_ge (tgt := 116) X.1.1 X.1.2.1 dL_ladder_83 (by decide) (fun _ => ?_) (fun h9 => absurd h9 (by decide))
  refine lv_aload_n X.1.1 X.1.2.1 dL_ladder_116 rfl (lv_at hl 5 rfl) ?_
  refine lv_bipush (v := (nI 79)) X.1.1 X.1.2.1 dL_ladder_117 (by decide +kernel) ?_
  refine lv_iconst (v := 2) X.1.1 X.1.2.1 dL_ladder_119 (by decide) ?_
  refine k_newv (n := 2) (N := 2) X.1 X.2.2.1 hw q_ai (by decide) (by decide) (by decide) (Nat.le_of_ble_eq_true rfl) (Nat.le_of_ble_eq_true rfl) dL_ladder_120 (fun b H hv => ?_)
  refine lv_dup X.1.1 X.1.2.1 dL_ladder_122 rfl ?_
  refine lv_iconst (v := 0) X.1.1 X.1.2.1 dL_ladder_123 (by decide) ?_
  refine lv_iconst (v := 3) X.1.1 X.1.2.1 dL_ladder_124 (by decide) ?_
  refine k_vst (v := 3) (n := 0) X.1 X.2.2.1 hv (vp_in_nI (n := 0) (by decide) (by decide)) (by decide) dL_ladder_125 (fun H locs hv => ?_)
  refine lv_dup X.1.1 X.1.2.1 dL_ladder_126 rfl ?_
  refine lv_iconst (v := 1) X.1.1 X.1.2.1 dL_ladder_127 (by decide) ?_
  refine lv_iconst (v := 1) X.1.1 X.1.2.1 dL_ladder_128 (by decide) ?_
  refine k_vst (v := 1) (n := 1) X.1 X.2.2.1 hv (vp_in_nI (n := 1) (by decide) (by decide)) (by decide) dL_ladder_129 (fun H locs hv => ?_)
  refine sN X (mA_addOffice l g X.2.2.2 S B y (upd (upd (fun _ => 0) 0 3) 1 1) 3 1 rfl rfl _ _ hN hev) hv hl dL_ladder_130 ⟨Nat.le_of_ble_eq_true rfl, Nat.le_of_ble_eq_true rfl⟩ ⟨Nat.le_of_ble_eq_true rfl, Nat.le_of_ble_eq_true rfl⟩ he (fun H locs hw => ?_)
  have hV := hV.ev (by decide) (fa_addOffice he) hz
  have hw := hw.nrmW
  refine vn_ (v9 := 0) (vIs_e hq) ?_
  refine lv_if_ne (tgt := 739) X.1.1 X.1.2.1 dL_ladder_133 (by decide) (fun h9 => absurd rfl h9) (fun _ => ?_)
  refine W.widen (k := 179) (n := 3919) (Nat.le_of_ble_eq_true rfl) (Nat.le_of_ble_eq_true rfl) ?_
  exact fin _ _ _ _ _ hV hw hr hl
set_option maxHeartbeats 4000000 in
set_option maxRecDepth 100000 in
theorem w_lad_6 {p : Program} {l : Launch} {e : Env} {s : State} {m : MethodId} {args : Array Value} {below : List Frame} {meth : Method} {c : Code} {g : wG} {Q : State → Prop} {y : (Nat → Nat → Int32) × (Nat → Int64) × (Nat → UInt64)} {bs : Nat} (w : Int32) (h : Int32) (X : LX p l s m args c cL_ladder 8 g)
    (fin : FN p l e rmD s m args below meth c g y Q 7 (ch_lad_7 w) 8 [(6, .int 5), (5, .int (rmd w h)), (4, .int (sm4 w h)), (3, .int h), (2, .int w), (1, .ref (gA g 0)), (0, .ref bs)] 185 3953 165) : FN p l e rmD s m args below meth c g y Q 6 (ch_lad_6 w) 8 [(6, .int 5), (5, .int (rmd w h)), (4, .int (sm4 w h)), (3, .int h), (2, .int w), (1, .ref (gA g 0)), (0, .ref bs)] 179 3919 136 := by
  intro S B H locs ls hV hw hr hl
  obtain ⟨n9, m9, ne9, n8, m8, hN, hN1, hev, hne, hne2⟩ := hV.cnt
  obtain ⟨he, hq, hz, hr⟩ := cC_e hr
  refine lv_aload_n X.1.1 X.1.2.1 dL_ladder_136 rfl (lv_at hl 5 rfl) ?_
  refine lv_bipush (v := (nI 99)) X.1.1 X.1.2.1 dL_ladder_137 (by decide +kernel) ?_
  refine lv_iconst (v := 4) X.1.1 X.1.2.1 dL_ladder_139 (by decide) ?_
  refine k_newv (n := 4) (N := 4) X.1 X.2.2.1 hw q_ai (by decide) (by decide) (by decide) (Nat.le_of_ble_eq_true rfl) (Nat.le_of_ble_eq_true rfl) dL_ladder_140 (fun b H hv => ?_)
  refine lv_dup X.1.1 X.1.2.1 dL_ladder_142 rfl ?_
  refine lv_iconst (v := 0) X.1.1 X.1.2.1 dL_ladder_143 (by decide) ?_
  refine lv_iconst (v := 0) X.1.1 X.1.2.1 dL_ladder_144 (by decide) ?_
  refine k_vst (v := 0) (n := 0) X.1 X.2.2.1 hv (vp_in_nI (n := 0) (by decide) (by decide)) (by decide) dL_ladder_145 (fun H locs hv => ?_)
  refine lv_dup X.1.1 X.1.2.1 dL_ladder_146 rfl ?_
  refine lv_iconst (v := 1) X.1.1 X.1.2.1 dL_ladder_147 (by decide) ?_
  refine lv_iconst (v := 0) X.1.1 X.1.2.1 dL_ladder_148 (by decide) ?_
  refine k_vst (v := 0) (n := 1) X.1 X.2.2.1 hv (vp_in_nI (n := 1) (by decide) (by decide)) (by decide) dL_ladder_149 (fun H locs hv => ?_)
  refine lv_dup X.1.1 X.1.2.1 dL_ladder_150 rfl ?_
  refine lv_iconst (v := 2) X.1.1 X.1.2.1 dL_ladder_151 (by decide) ?_
  refine lv_bipush (v := 7) X.1.1 X.1.2.1 dL_ladder_152 (by decide +kernel) ?_
  refine k_vst (v := 7) (n := 2) X.1 X.2.2.1 hv (vp_in_nI (n := 2) (by decide) (by decide)) (by decide) dL_ladder_154 (fun H locs hv => ?_)
  refine lv_dup X.1.1 X.1.2.1 dL_ladder_155 rfl ?_
  refine lv_iconst (v := 3) X.1.1 X.1.2.1 dL_ladder_156 (by decide) ?_
  refine lv_iconst (v := 0) X.1.1 X.1.2.1 dL_ladder_157 (by decide) ?_
  refine k_vst (v := 0) (n := 3) X.1 X.2.2.1 hv (vp_in_nI (n := 3) (by decide) (by decide)) (by decide) dL_ladder_158 (fun H locs hv => ?_)
  refine sN X (mA_complain l g X.2.2.2 S B y (upd (upd (upd (upd (fun _ => 0) 0 0) 1 0) 2 7) 3 0) 0 0 7 0 rfl rfl rfl rfl _ _ hN hev) hv hl dL_ladder_159 ⟨Nat.le_of_ble_eq_true rfl, Nat.le_of_ble_eq_true rfl⟩ ⟨Nat.le_of_ble_eq_true rfl, Nat.le_of_ble_eq_true rfl⟩ he (fun H locs hw => ?_)
  have hV := hV.ev (by decide) (fa_complain he) hz
  have hw := hw.nrmW
  refine vn_ (v9 := 0) (vIs_e hq) ?_
  refine lv_if_ne (tgt := 739) X.1.1 X.1.2.1 dL_ladder_162 (by decide) (fun h9 => absurd rfl h9) (fun _ => ?_)
  refine W.widen (k := 185) (n := 3953) (Nat.le_of_ble_eq_true rfl) (Nat.le_of_ble_eq_true rfl) ?_
  exact fin _ _ _ _ _ hV hw hr hl
set_option maxHeartbeats 4000000 in
set_option maxRecDepth 100000 in
theorem w_lad_7 {p : Program} {l : Launch} {e : Env} {s : State} {m : MethodId} {args : Array Value} {below : List Frame} {meth : Method} {c : Code} {g : wG} {Q : State → Prop} {y : (Nat → Nat → Int32) × (Nat → Int64) × (Nat → UInt64)} {bs : Nat} (w : Int32) (h : Int32) (X : LX p l s m args c cL_ladder 8 g)
    (fin : FN p l e rmD s m args below meth c g y Q 8 (ch_lad_8 w) 8 [(6, .int 5), (5, .int (rmd w h)), (4, .int (sm4 w h)), (3, .int h), (2, .int w), (1, .ref (gA g 0)), (0, .ref bs)] 191 3984 183) : FN p l e rmD s m args below meth c g y Q 7 (ch_lad_7 w) 8 [(6, .int 5), (5, .int (rmd w h)), (4, .int (sm4 w h)), (3, .int h), (2, .int w), (1, .ref (gA g 0)), (0, .ref bs)] 185 3953 165 := by
  intro S B H locs ls hV hw hr hl
  obtain ⟨n9, m9, ne9, n8, m8, hN, hN1, hev, hne, hne2⟩ := hV.cnt
  obtain ⟨he, hq, hz, hr⟩ := cC_e hr
  refine lv_aload_n X.1.1 X.1.2.1 dL_ladder_165 rfl (lv_at hl 5 rfl) ?_
  refine lv_bipush (v := (nI 101)) X.1.1 X.1.2.1 dL_ladder_166 (by decide +kernel) ?_
  refine lv_iconst (v := 1) X.1.1 X.1.2.1 dL_ladder_168 (by decide) ?_
  refine k_newv (n := 1) (N := 1) X.1 X.2.2.1 hw q_ai (by decide) (by decide) (by decide) (Nat.le_of_ble_eq_true rfl) (Nat.le_of_ble_eq_true rfl) dL_ladder_169 (fun b H hv => ?_)
  refine lv_dup X.1.1 X.1.2.1 dL_ladder_171 rfl ?_
  refine lv_iconst (v := 0) X.1.1 X.1.2.1 dL_ladder_172 (by decide) ?_
  refine lv_iconst (v := 0) X.1.1 X.1.2.1 dL_ladder_173 (by decide) ?_
  refine k_vst (v := 0) (n := 0) X.1 X.2.2.1 hv (vp_in_nI (n := 0) (by decide) (by decide)) (by decide) dL_ladder_174 (fun H locs hv => ?_)
  refine sN X (mA_examine l g X.2.2.2 S B y (upd (fun _ => 0) 0 0) 0 rfl _ _ hN hev) hv hl dL_ladder_175 ⟨Nat.le_of_ble_eq_true rfl, Nat.le_of_ble_eq_true rfl⟩ ⟨Nat.le_of_ble_eq_true rfl, Nat.le_of_ble_eq_true rfl⟩ he (fun H locs hw => ?_)
  have hV := hV.ev (by decide) (fa_examine he) hz
  have hw := hw.nrmW
  refine vn_ (v9 := 102) (vIs_e hq) ?_
  refine lv_bipush (v := 102) X.1.1 X.1.2.1 dL_ladder_178 (by decide +kernel) ?_
  refine lv_icmp_ne (tgt := 739) X.1.1 X.1.2.1 dL_ladder_180 (by decide) (fun h9 => absurd rfl h9) (fun _ => ?_)
  refine W.widen (k := 191) (n := 3984) (Nat.le_of_ble_eq_true rfl) (Nat.le_of_ble_eq_true rfl) ?_
  exact fin _ _ _ _ _ hV hw hr hl
set_option maxHeartbeats 4000000 in
set_option maxRecDepth 100000 in
theorem w_lad_8 {p : Program} {l : Launch} {e : Env} {s : State} {m : MethodId} {args : Array Value} {below : List Frame} {meth : Method} {c : Code} {g : wG} {Q : State → Prop} {y : (Nat → Nat → Int32) × (Nat → Int64) × (Nat → UInt64)} {bs : Nat} (w : Int32) (h : Int32) (X : LX p l s m args c cL_ladder 8 g)
    (fin : FN p l e rmD s m args below meth c g y Q 9 (ch_lad_9 w) 8 [(6, .int 5), (5, .int (rmd w h)), (4, .int (sm4 w h)), (3, .int h), (2, .int w), (1, .ref (gA g 0)), (0, .ref bs)] 197 4015 200) : FN p l e rmD s m args below meth c g y Q 8 (ch_lad_8 w) 8 [(6, .int 5), (5, .int (rmd w h)), (4, .int (sm4 w h)), (3, .int h), (2, .int w), (1, .ref (gA g 0)), (0, .ref bs)] 191 3984 183 := by
  intro S B H locs ls hV hw hr hl
  obtain ⟨n9, m9, ne9, n8, m8, hN, hN1, hev, hne, hne2⟩ := hV.cnt
  obtain ⟨he, hq, hz, hr⟩ := cC_e hr
  refine lv_aload_n X.1.1 X.1.2.1 dL_ladder_183 rfl (lv_at hl 5 rfl) ?_
  refine lv_bipush (v := (nI 116)) X.1.1 X.1.2.1 dL_ladder_184 (by decide +kernel) ?_
  refine lv_iconst (v := 1) X.1.1 X.1.2.1 dL_ladder_186 (by decide) ?_
  refine k_newv (n := 1) (N := 1) X.1 X.2.2.1 hw q_ai (by decide) (by decide) (by decide) (Nat.le_of_ble_eq_true rfl) (Nat.le_of_ble_eq_true rfl) dL_ladder_187 (fun b H hv => ?_)
  refine lv_dup X.1.1 X.1.2.1 dL_ladder_189 rfl ?_
  refine lv_iconst (v := 0) X.1.1 X.1.2.1 dL_ladder_190 (by decide) ?_
  refine lv_iconst (v := 0) X.1.1 X.1.2.1 dL_ladder_191 (by decide) ?_
  refine k_vst (v := 0) (n := 0) X.1 X.2.2.1 hv (vp_in_nI (n := 0) (by decide) (by decide)) (by decide) dL_ladder_192 (fun H locs hv => ?_)
  refine sN X (mA_takeStep l g X.2.2.2 S B y (upd (fun _ => 0) 0 0) 0 rfl _ _ hN hev) hv hl dL_ladder_193 ⟨Nat.le_of_ble_eq_true rfl, Nat.le_of_ble_eq_true rfl⟩ ⟨Nat.le_of_ble_eq_true rfl, Nat.le_of_ble_eq_true rfl⟩ he (fun H locs hw => ?_)
  have hV := hV.ev (by decide) (fa_takeStep he) hz
  have hw := hw.nrmW
  refine vn_ (v9 := 3) (vIs_e hq) ?_
  refine lv_iconst (v := 3) X.1.1 X.1.2.1 dL_ladder_196 (by decide) ?_
  refine lv_icmp_ne (tgt := 739) X.1.1 X.1.2.1 dL_ladder_197 (by decide) (fun h9 => absurd rfl h9) (fun _ => ?_)
  refine W.widen (k := 197) (n := 4015) (Nat.le_of_ble_eq_true rfl) (Nat.le_of_ble_eq_true rfl) ?_
  exact fin _ _ _ _ _ hV hw hr hl
set_option maxHeartbeats 4000000 in
set_option maxRecDepth 100000 in
theorem w_lad_9 {p : Program} {l : Launch} {e : Env} {s : State} {m : MethodId} {args : Array Value} {below : List Frame} {meth : Method} {c : Code} {g : wG} {Q : State → Prop} {y : (Nat → Nat → Int32) × (Nat → Int64) × (Nat → UInt64)} {bs : Nat} (w : Int32) (h : Int32) (X : LX p l s m args c cL_ladder 8 g)
    (fin : FN p l e rmD s m args below meth c g y Q 9 (ch_lad_10 w) 8 [(6, .int 5), (5, .int (rmd w h)), (4, .int (sm4 w h)), (3, .int h), (2, .int w), (1, .ref (gA g 0)), (0, .ref bs)] 203 4046 218) : FN p l e rmD s m args below meth c g y Q 9 (ch_lad_9 w) 8 [(6, .int 5), (5, .int (rmd w h)), (4, .int (sm4 w h)), (3, .int h), (2, .int w), (1, .ref (gA g 0)), (0, .ref bs)] 197 4015 200 := by
  intro S B H locs ls hV hw hr hl
  obtain ⟨n9, m9, ne9, n8, m8, hN, hN1, hev, hne, hne2⟩ := hV.cnt
  obtain ⟨he, hr⟩ := cX_e hr
  refine lv_aload_n X.1.1 X.1.2.1 dL_ladder_200 rfl (lv_at hl 5 rfl) ?_
  refine lv_bipush (v := (nI 116)) X.1.1 X.1.2.1 dL_ladder_201 (by decide +kernel) ?_
  refine lv_iconst (v := 1) X.1.1 X.1.2.1 dL_ladder_203 (by decide) ?_
  refine k_newv (n := 1) (N := 1) X.1 X.2.2.1 hw q_ai (by decide) (by decide) (by decide) (Nat.le_of_ble_eq_true rfl) (Nat.le_of_ble_eq_true rfl) dL_ladder_204 (fun b H hv => ?_)
  refine lv_dup X.1.1 X.1.2.1 dL_ladder_206 rfl ?_
  refine lv_iconst (v := 0) X.1.1 X.1.2.1 dL_ladder_207 (by decide) ?_
  refine lv_iconst (v := 0) X.1.1 X.1.2.1 dL_ladder_208 (by decide) ?_
  refine k_vst (v := 0) (n := 0) X.1 X.2.2.1 hv (vp_in_nI (n := 0) (by decide) (by decide)) (by decide) dL_ladder_209 (fun H locs hv => ?_)
  refine sX X (mA_takeStep l g X.2.2.2 S B y (upd (fun _ => 0) 0 0) 0 rfl _ _ hN hev) hv hl dL_ladder_210 ⟨Nat.le_of_ble_eq_true rfl, Nat.le_of_ble_eq_true rfl⟩ ⟨Nat.le_of_ble_eq_true rfl, Nat.le_of_ble_eq_true rfl⟩ he kX_4 (fun H locs hw => ?_)
  refine lv_ldc (v := (-2000000004)) X.1.1 X.1.2.1 X.1.2.2.1 (X.1.2.2.2 _ q904) dL_ladder_213 ?_
  refine lv_icmp_ne (tgt := 739) X.1.1 X.1.2.1 dL_ladder_215 (by decide) (fun h9 => absurd rfl h9) (fun _ => ?_)
  refine W.widen (k := 203) (n := 4046) (Nat.le_of_ble_eq_true rfl) (Nat.le_of_ble_eq_true rfl) ?_
  exact fin _ _ _ _ _ hV hw hr hl
set_option maxHeartbeats 4000000 in
set_option maxRecDepth 100000 in
theorem w_lad_10 {p : Program} {l : Launch} {e : Env} {s : State} {m : MethodId} {args : Array Value} {below : List Frame} {meth : Method} {c : Code} {g : wG} {Q : State → Prop} {y : (Nat → Nat → Int32) × (Nat → Int64) × (Nat → UInt64)} {bs : Nat} (w : Int32) (h : Int32) (X : LX p l s m args c cL_ladder 8 g)
    (fin : FN p l e rmD s m args below meth c g y Q 10 (ch_lad_11 w) 8 [(6, .int 5), (5, .int (rmd w h)), (4, .int (sm4 w h)), (3, .int h), (2, .int w), (1, .ref (gA g 0)), (0, .ref bs)] 209 4077 235) : FN p l e rmD s m args below meth c g y Q 9 (ch_lad_10 w) 8 [(6, .int 5), (5, .int (rmd w h)), (4, .int (sm4 w h)), (3, .int h), (2, .int w), (1, .ref (gA g 0)), (0, .ref bs)] 203 4046 218 := by
  intro S B H locs ls hV hw hr hl
  obtain ⟨n9, m9, ne9, n8, m8, hN, hN1, hev, hne, hne2⟩ := hV.cnt
  obtain ⟨he, hq, hz, hr⟩ := cC_e hr
  refine lv_aload_n X.1.1 X.1.2.1 dL_ladder_218 rfl (lv_at hl 5 rfl) ?_
  refine lv_bipush (v := (nI 112)) X.1.1 X.1.2.1 dL_ladder_219 (by decide +kernel) ?_
  refine lv_iconst (v := 1) X.1.1 X.1.2.1 dL_ladder_221 (by decide) ?_
  refine k_newv (n := 1) (N := 1) X.1 X.2.2.1 hw q_ai (by decide) (by decide) (by decide) (Nat.le_of_ble_eq_true rfl) (Nat.le_of_ble_eq_true rfl) dL_ladder_222 (fun b H hv => ?_)
  refine lv_dup X.1.1 X.1.2.1 dL_ladder_224 rfl ?_
  refine lv_iconst (v := 0) X.1.1 X.1.2.1 dL_ladder_225 (by decide) ?_
  refine lv_iconst (v := 2) X.1.1 X.1.2.1 dL_ladder_226 (by decide) ?_
  refine k_vst (v := 2) (n := 0) X.1 X.2.2.1 hv (vp_in_nI (n := 0) (by decide) (by decide)) (by decide) dL_ladder_227 (fun H locs hv => ?_)
  refine sN X (mA_pass l g X.2.2.2 S B y (upd (fun _ => 0) 0 2) 2 rfl _ _ hN hev) hv hl dL_ladder_228 ⟨Nat.le_of_ble_eq_true rfl, Nat.le_of_ble_eq_true rfl⟩ ⟨Nat.le_of_ble_eq_true rfl, Nat.le_of_ble_eq_true rfl⟩ he (fun H locs hw => ?_)
  have hV := hV.ev (by decide) (fa_pass he) hz
  have hw := hw.nrmW
  refine vn_ (v9 := 2) (vIs_e hq) ?_
  refine lv_iconst (v := 2) X.1.1 X.1.2.1 dL_ladder_231 (by decide) ?_
  refine lv_icmp_ne (tgt := 739) X.1.1 X.1.2.1 dL_ladder_232 (by decide) (fun h9 => absurd rfl h9) (fun _ => ?_)
  refine W.widen (k := 209) (n := 4077) (Nat.le_of_ble_eq_true rfl) (Nat.le_of_ble_eq_true rfl) ?_
  exact fin _ _ _ _ _ hV hw hr hl
set_option maxHeartbeats 4000000 in
set_option maxRecDepth 100000 in
theorem w_lad_11 {p : Program} {l : Launch} {e : Env} {s : State} {m : MethodId} {args : Array Value} {below : List Frame} {meth : Method} {c : Code} {g : wG} {Q : State → Prop} {y : (Nat → Nat → Int32) × (Nat → Int64) × (Nat → UInt64)} {bs : Nat} (w : Int32) (h : Int32) (X : LX p l s m args c cL_ladder 8 g)
    (fin : FN p l e rmD s m args below meth c g y Q 11 (ch_lad_12 w) 8 [(6, .int 5), (5, .int (rmd w h)), (4, .int (sm4 w h)), (3, .int h), (2, .int w), (1, .ref (gA g 0)), (0, .ref bs)] 215 4108 253) : FN p l e rmD s m args below meth c g y Q 10 (ch_lad_11 w) 8 [(6, .int 5), (5, .int (rmd w h)), (4, .int (sm4 w h)), (3, .int h), (2, .int w), (1, .ref (gA g 0)), (0, .ref bs)] 209 4077 235 := by
  intro S B H locs ls hV hw hr hl
  obtain ⟨n9, m9, ne9, n8, m8, hN, hN1, hev, hne, hne2⟩ := hV.cnt
  obtain ⟨he, hq, hz, hr⟩ := cC_e hr
  refine lv_aload_n X.1.1 X.1.2.1 dL_ladder_235 rfl (lv_at hl 5 rfl) ?_
  refine lv_bipush (v := (nI 101)) X.1.1 X.1.2.1 dL_ladder_236 (by decide +kernel) ?_
  refine lv_iconst (v := 1) X.1.1 X.1.2.1 dL_ladder_238 (by decide) ?_
  refine k_newv (n := 1) (N := 1) X.1 X.2.2.1 hw q_ai (by decide) (by decide) (by decide) (Nat.le_of_ble_eq_true rfl) (Nat.le_of_ble_eq_true rfl) dL_ladder_239 (fun b H hv => ?_)
  refine lv_dup X.1.1 X.1.2.1 dL_ladder_241 rfl ?_
  refine lv_iconst (v := 0) X.1.1 X.1.2.1 dL_ladder_242 (by decide) ?_
  refine lv_iconst (v := 0) X.1.1 X.1.2.1 dL_ladder_243 (by decide) ?_
  refine k_vst (v := 0) (n := 0) X.1 X.2.2.1 hv (vp_in_nI (n := 0) (by decide) (by decide)) (by decide) dL_ladder_244 (fun H locs hv => ?_)
  refine sN X (mA_examine l g X.2.2.2 S B y (upd (fun _ => 0) 0 0) 0 rfl _ _ hN hev) hv hl dL_ladder_245 ⟨Nat.le_of_ble_eq_true rfl, Nat.le_of_ble_eq_true rfl⟩ ⟨Nat.le_of_ble_eq_true rfl, Nat.le_of_ble_eq_true rfl⟩ he (fun H locs hw => ?_)
  have hV := hV.ev (by decide) (fa_examine he) hz
  have hw := hw.nrmW
  refine vn_ (v9 := 102) (vIs_e hq) ?_
  refine lv_bipush (v := 102) X.1.1 X.1.2.1 dL_ladder_248 (by decide +kernel) ?_
  refine lv_icmp_ne (tgt := 739) X.1.1 X.1.2.1 dL_ladder_250 (by decide) (fun h9 => absurd rfl h9) (fun _ => ?_)
  refine W.widen (k := 215) (n := 4108) (Nat.le_of_ble_eq_true rfl) (Nat.le_of_ble_eq_true rfl) ?_
  exact fin _ _ _ _ _ hV hw hr hl
set_option maxHeartbeats 4000000 in
set_option maxRecDepth 100000 in
theorem w_lad_12 {p : Program} {l : Launch} {e : Env} {s : State} {m : MethodId} {args : Array Value} {below : List Frame} {meth : Method} {c : Code} {g : wG} {Q : State → Prop} {y : (Nat → Nat → Int32) × (Nat → Int64) × (Nat → UInt64)} {bs : Nat} (w : Int32) (h : Int32) (X : LX p l s m args c cL_ladder 8 g)
    (fin : FN p l e rmD s m args below meth c g y Q 12 (ch_lad_13 w) 8 [(6, .int 5), (5, .int (rmd w h)), (4, .int (sm4 w h)), (3, .int h), (2, .int w), (1, .ref (gA g 0)), (0, .ref bs)] 221 4139 270) : FN p l e rmD s m args below meth c g y Q 11 (ch_lad_12 w) 8 [(6, .int 5), (5, .int (rmd w h)), (4, .int (sm4 w h)), (3, .int h), (2, .int w), (1, .ref (gA g 0)), (0, .ref bs)] 215 4108 253 := by
  intro S B H locs ls hV hw hr hl
  obtain ⟨n9, m9, ne9, n8, m8, hN, hN1, hev, hne, hne2⟩ := hV.cnt
  obtain ⟨he, hq, hz, hr⟩ := cC_e hr
  refine lv_aload_n X.1.1 X.1.2.1 dL_ladder_253 rfl (lv_at hl 5 rfl) ?_
  refine lv_bipush (v := (nI 112)) X.1.1 X.1.2.1 dL_ladder_254 (by decide +kernel) ?_
  refine lv_iconst (v := 1) X.1.1 X.1.2.1 dL_ladder_256 (by decide) ?_
  refine k_newv (n := 1) (N := 1) X.1 X.2.2.1 hw q_ai (by decide) (by decide) (by decide) (Nat.le_of_ble_eq_true rfl) (Nat.le_of_ble_eq_true rfl) dL_ladder_257 (fun b H hv => ?_)
  refine lv_dup X.1.1 X.1.2.1 dL_ladder_259 rfl ?_
  refine lv_iconst (v := 0) X.1.1 X.1.2.1 dL_ladder_260 (by decide) ?_
  refine lv_iconst (v := 1) X.1.1 X.1.2.1 dL_ladder_261 (by decide) ?_
  refine k_vst (v := 1) (n := 0) X.1 X.2.2.1 hv (vp_in_nI (n := 0) (by decide) (by decide)) (by decide) dL_ladder_262 (fun H locs hv => ?_)
  refine sN X (mA_pass l g X.2.2.2 S B y (upd (fun _ => 0) 0 1) 1 rfl _ _ hN hev) hv hl dL_ladder_263 ⟨Nat.le_of_ble_eq_true rfl, Nat.le_of_ble_eq_true rfl⟩ ⟨Nat.le_of_ble_eq_true rfl, Nat.le_of_ble_eq_true rfl⟩ he (fun H locs hw => ?_)
  have hV := hV.ev (by decide) (fa_pass he) hz
  have hw := hw.nrmW
  refine vn_ (v9 := 3) (vIs_e hq) ?_
  refine lv_iconst (v := 3) X.1.1 X.1.2.1 dL_ladder_266 (by decide) ?_
  refine lv_icmp_ne (tgt := 739) X.1.1 X.1.2.1 dL_ladder_267 (by decide) (fun h9 => absurd rfl h9) (fun _ => ?_)
  refine W.widen (k := 221) (n := 4139) (Nat.le_of_ble_eq_true rfl) (Nat.le_of_ble_eq_true rfl) ?_
  exact fin _ _ _ _ _ hV hw hr hl
set_option maxHeartbeats 4000000 in
set_option maxRecDepth 100000 in
theorem w_lad_13 {p : Program} {l : Launch} {e : Env} {s : State} {m : MethodId} {args : Array Value} {below : List Frame} {meth : Method} {c : Code} {g : wG} {Q : State → Prop} {y : (Nat → Nat → Int32) × (Nat → Int64) × (Nat → UInt64)} {bs : Nat} (w : Int32) (h : Int32) (X : LX p l s m args c cL_ladder 8 g)
    (fin : FN p l e rmD s m args below meth c g y Q 13 (ch_lad_14 w) 8 [(6, .int 5), (5, .int (rmd w h)), (4, .int (sm4 w h)), (3, .int h), (2, .int w), (1, .ref (gA g 0)), (0, .ref bs)] 227 4170 288) : FN p l e rmD s m args below meth c g y Q 12 (ch_lad_13 w) 8 [(6, .int 5), (5, .int (rmd w h)), (4, .int (sm4 w h)), (3, .int h), (2, .int w), (1, .ref (gA g 0)), (0, .ref bs)] 221 4139 270 := by
  intro S B H locs ls hV hw hr hl
  obtain ⟨n9, m9, ne9, n8, m8, hN, hN1, hev, hne, hne2⟩ := hV.cnt
  obtain ⟨he, hq, hz, hr⟩ := cC_e hr
  refine lv_aload_n X.1.1 X.1.2.1 dL_ladder_270 rfl (lv_at hl 5 rfl) ?_
  refine lv_bipush (v := (nI 101)) X.1.1 X.1.2.1 dL_ladder_271 (by decide +kernel) ?_
  refine lv_iconst (v := 1) X.1.1 X.1.2.1 dL_ladder_273 (by decide) ?_
  refine k_newv (n := 1) (N := 1) X.1 X.2.2.1 hw q_ai (by decide) (by decide) (by decide) (Nat.le_of_ble_eq_true rfl) (Nat.le_of_ble_eq_true rfl) dL_ladder_274 (fun b H hv => ?_)
  refine lv_dup X.1.1 X.1.2.1 dL_ladder_276 rfl ?_
  refine lv_iconst (v := 0) X.1.1 X.1.2.1 dL_ladder_277 (by decide) ?_
  refine lv_iconst (v := 0) X.1.1 X.1.2.1 dL_ladder_278 (by decide) ?_
  refine k_vst (v := 0) (n := 0) X.1 X.2.2.1 hv (vp_in_nI (n := 0) (by decide) (by decide)) (by decide) dL_ladder_279 (fun H locs hv => ?_)
  refine sN X (mA_examine l g X.2.2.2 S B y (upd (fun _ => 0) 0 0) 0 rfl _ _ hN hev) hv hl dL_ladder_280 ⟨Nat.le_of_ble_eq_true rfl, Nat.le_of_ble_eq_true rfl⟩ ⟨Nat.le_of_ble_eq_true rfl, Nat.le_of_ble_eq_true rfl⟩ he (fun H locs hw => ?_)
  have hV := hV.ev (by decide) (fa_examine he) hz
  have hw := hw.nrmW
  refine vn_ (v9 := 114) (vIs_e hq) ?_
  refine lv_bipush (v := 114) X.1.1 X.1.2.1 dL_ladder_283 (by decide +kernel) ?_
  refine lv_icmp_ne (tgt := 739) X.1.1 X.1.2.1 dL_ladder_285 (by decide) (fun h9 => absurd rfl h9) (fun _ => ?_)
  refine W.widen (k := 227) (n := 4170) (Nat.le_of_ble_eq_true rfl) (Nat.le_of_ble_eq_true rfl) ?_
  exact fin _ _ _ _ _ hV hw hr hl
set_option maxHeartbeats 4000000 in
set_option maxRecDepth 100000 in
theorem w_lad_14 {p : Program} {l : Launch} {e : Env} {s : State} {m : MethodId} {args : Array Value} {below : List Frame} {meth : Method} {c : Code} {g : wG} {Q : State → Prop} {y : (Nat → Nat → Int32) × (Nat → Int64) × (Nat → UInt64)} {bs : Nat} (w : Int32) (h : Int32) (X : LX p l s m args c cL_ladder 8 g)
    (fin : FN p l e rmD s m args below meth c g y Q 13 (ch_lad_15 w) 8 [(6, .int 5), (5, .int (rmd w h)), (4, .int (sm4 w h)), (3, .int h), (2, .int w), (1, .ref (gA g 0)), (0, .ref bs)] 233 4201 306) : FN p l e rmD s m args below meth c g y Q 13 (ch_lad_14 w) 8 [(6, .int 5), (5, .int (rmd w h)), (4, .int (sm4 w h)), (3, .int h), (2, .int w), (1, .ref (gA g 0)), (0, .ref bs)] 227 4170 288 := by
  intro S B H locs ls hV hw hr hl
  obtain ⟨n9, m9, ne9, n8, m8, hN, hN1, hev, hne, hne2⟩ := hV.cnt
  obtain ⟨he, hr⟩ := cX_e hr
  refine lv_aload_n X.1.1 X.1.2.1 dL_ladder_288 rfl (lv_at hl 5 rfl) ?_
  refine lv_bipush (v := (nI 101)) X.1.1 X.1.2.1 dL_ladder_289 (by decide +kernel) ?_
  refine lv_iconst (v := 1) X.1.1 X.1.2.1 dL_ladder_291 (by decide) ?_
  refine k_newv (n := 1) (N := 1) X.1 X.2.2.1 hw q_ai (by decide) (by decide) (by decide) (Nat.le_of_ble_eq_true rfl) (Nat.le_of_ble_eq_true rfl) dL_ladder_292 (fun b H hv => ?_)
  refine lv_dup X.1.1 X.1.2.1 dL_ladder_294 rfl ?_
  refine lv_iconst (v := 0) X.1.1 X.1.2.1 dL_ladder_295 (by decide) ?_
  refine lv_iconst (v := 0) X.1.1 X.1.2.1 dL_ladder_296 (by decide) ?_
  refine k_vst (v := 0) (n := 0) X.1 X.2.2.1 hv (vp_in_nI (n := 0) (by decide) (by decide)) (by decide) dL_ladder_297 (fun H locs hv => ?_)
  refine sX X (mA_examine l g X.2.2.2 S B y (upd (fun _ => 0) 0 0) 0 rfl _ _ hN hev) hv hl dL_ladder_298 ⟨Nat.le_of_ble_eq_true rfl, Nat.le_of_ble_eq_true rfl⟩ ⟨Nat.le_of_ble_eq_true rfl, Nat.le_of_ble_eq_true rfl⟩ he kX_4 (fun H locs hw => ?_)
  refine lv_ldc (v := (-2000000004)) X.1.1 X.1.2.1 X.1.2.2.1 (X.1.2.2.2 _ q904) dL_ladder_301 ?_
  refine lv_icmp_ne (tgt := 739) X.1.1 X.1.2.1 dL_ladder_303 (by decide) (fun h9 => absurd rfl h9) (fun _ => ?_)
  refine W.widen (k := 233) (n := 4201) (Nat.le_of_ble_eq_true rfl) (Nat.le_of_ble_eq_true rfl) ?_
  exact fin _ _ _ _ _ hV hw hr hl
set_option maxHeartbeats 4000000 in
set_option maxRecDepth 100000 in
theorem w_lad_15 {p : Program} {l : Launch} {e : Env} {s : State} {m : MethodId} {args : Array Value} {below : List Frame} {meth : Method} {c : Code} {g : wG} {Q : State → Prop} {y : (Nat → Nat → Int32) × (Nat → Int64) × (Nat → UInt64)} {bs : Nat} (w : Int32) (h : Int32) (X : LX p l s m args c cL_ladder 8 g)
    (fin : FN p l e rmD s m args below meth c g y Q 14 (ch_lad_16 w) 8 [(6, .int 5), (5, .int (rmd w h)), (4, .int (sm4 w h)), (3, .int h), (2, .int w), (1, .ref (gA g 0)), (0, .ref bs)] 239 4232 324) : FN p l e rmD s m args below meth c g y Q 13 (ch_lad_15 w) 8 [(6, .int 5), (5, .int (rmd w h)), (4, .int (sm4 w h)), (3, .int h), (2, .int w), (1, .ref (gA g 0)), (0, .ref bs)] 233 4201 306 := by
  intro S B H locs ls hV hw hr hl
  obtain ⟨n9, m9, ne9, n8, m8, hN, hN1, hev, hne, hne2⟩ := hV.cnt
  obtain ⟨he, hq, hz, hr⟩ := cC_e hr
  refine lv_aload_n X.1.1 X.1.2.1 dL_ladder_306 rfl (lv_at hl 5 rfl) ?_
  refine lv_bipush (v := (nI 97)) X.1.1 X.1.2.1 dL_ladder_307 (by decide +kernel) ?_
  refine lv_iconst (v := 1) X.1.1 X.1.2.1 dL_ladder_309 (by decide) ?_
  refine k_newv (n := 1) (N := 1) X.1 X.2.2.1 hw q_ai (by decide) (by decide) (by decide) (Nat.le_of_ble_eq_true rfl) (Nat.le_of_ble_eq_true rfl) dL_ladder_310 (fun b H hv => ?_)
  refine lv_dup X.1.1 X.1.2.1 dL_ladder_312 rfl ?_
  refine lv_iconst (v := 0) X.1.1 X.1.2.1 dL_ladder_313 (by decide) ?_
  refine lv_iconst (v := 0) X.1.1 X.1.2.1 dL_ladder_314 (by decide) ?_
  refine k_vst (v := 0) (n := 0) X.1 X.2.2.1 hv (vp_in_nI (n := 0) (by decide) (by decide)) (by decide) dL_ladder_315 (fun H locs hv => ?_)
  refine sN X (mA_ask l g X.2.2.2 S B y (upd (fun _ => 0) 0 0) 0 rfl _ _ hN hev) hv hl dL_ladder_316 ⟨Nat.le_of_ble_eq_true rfl, Nat.le_of_ble_eq_true rfl⟩ ⟨Nat.le_of_ble_eq_true rfl, Nat.le_of_ble_eq_true rfl⟩ he (fun H locs hw => ?_)
  have hV := hV.ev (by decide) (fa_ask he) hz
  have hw := hw.nrmW
  refine vn_ (v9 := 6) (vIs_e hq) ?_
  refine lv_bipush (v := 6) X.1.1 X.1.2.1 dL_ladder_319 (by decide +kernel) ?_
  refine lv_icmp_ne (tgt := 739) X.1.1 X.1.2.1 dL_ladder_321 (by decide) (fun h9 => absurd rfl h9) (fun _ => ?_)
  refine W.widen (k := 239) (n := 4232) (Nat.le_of_ble_eq_true rfl) (Nat.le_of_ble_eq_true rfl) ?_
  exact fin _ _ _ _ _ hV hw hr hl
set_option maxHeartbeats 4000000 in
set_option maxRecDepth 100000 in
theorem w_lad_16 {p : Program} {l : Launch} {e : Env} {s : State} {m : MethodId} {args : Array Value} {below : List Frame} {meth : Method} {c : Code} {g : wG} {Q : State → Prop} {y : (Nat → Nat → Int32) × (Nat → Int64) × (Nat → UInt64)} {bs : Nat} (w : Int32) (h : Int32) (X : LX p l s m args c cL_ladder 8 g)
    (fin : FN p l e rmD s m args below meth c g y Q 14 (ch_lad_17 w) 8 [(6, .int 5), (5, .int (rmd w h)), (4, .int (sm4 w h)), (3, .int h), (2, .int w), (1, .ref (gA g 0)), (0, .ref bs)] 245 4262 338) : FN p l e rmD s m args below meth c g y Q 14 (ch_lad_16 w) 8 [(6, .int 5), (5, .int (rmd w h)), (4, .int (sm4 w h)), (3, .int h), (2, .int w), (1, .ref (gA g 0)), (0, .ref bs)] 239 4232 324 := by
  intro S B H locs ls hV hw hr hl
  obtain ⟨n9, m9, ne9, n8, m8, hN, hN1, hev, hne, hne2⟩ := hV.cnt
  obtain ⟨he, hq, hr⟩ := cQ_e hr
  refine lv_aload_n X.1.1 X.1.2.1 dL_ladder_324 rfl (lv_at hl 5 rfl) ?_
  refine lv_bipush (v := (nI 110)) X.1.1 X.1.2.1 dL_ladder_325 (by decide +kernel) ?_
  refine lv_iconst (v := 0) X.1.1 X.1.2.1 dL_ladder_327 (by decide) ?_
  refine k_newv (n := 0) (N := 0) X.1 X.2.2.1 hw q_ai (by decide) (by decide) (by decide) (Nat.le_of_ble_eq_true rfl) (Nat.le_of_ble_eq_true rfl) dL_ladder_328 (fun b H hv => ?_)
  refine sN X (mA_nextDue l g X.2.2.2 S B y (fun _ => 0)  _ _ hN) hv hl dL_ladder_330 ⟨Nat.le_of_ble_eq_true rfl, Nat.le_of_ble_eq_true rfl⟩ ⟨Nat.le_of_ble_eq_true rfl, Nat.le_of_ble_eq_true rfl⟩ he (fun H locs hw => ?_)
  refine vn_ (v9 := 6) (vIs_e hq) ?_
  refine lv_bipush (v := 6) X.1.1 X.1.2.1 dL_ladder_333 (by decide +kernel) ?_
  refine lv_icmp_ne (tgt := 739) X.1.1 X.1.2.1 dL_ladder_335 (by decide) (fun h9 => absurd rfl h9) (fun _ => ?_)
  refine W.widen (k := 245) (n := 4262) (Nat.le_of_ble_eq_true rfl) (Nat.le_of_ble_eq_true rfl) ?_
  exact fin _ _ _ _ _ hV hw hr hl
set_option maxHeartbeats 4000000 in
set_option maxRecDepth 100000 in
theorem w_lad_17 {p : Program} {l : Launch} {e : Env} {s : State} {m : MethodId} {args : Array Value} {below : List Frame} {meth : Method} {c : Code} {g : wG} {Q : State → Prop} {y : (Nat → Nat → Int32) × (Nat → Int64) × (Nat → UInt64)} {bs : Nat} (w : Int32) (h : Int32) (X : LX p l s m args c cL_ladder 8 g)
    (fin : FN p l e rmD s m args below meth c g y Q 15 (ch_lad_18 w) 8 [(6, .int 5), (5, .int (rmd w h)), (4, .int (sm4 w h)), (3, .int h), (2, .int w), (1, .ref (gA g 0)), (0, .ref bs)] 251 4293 356) : FN p l e rmD s m args below meth c g y Q 14 (ch_lad_17 w) 8 [(6, .int 5), (5, .int (rmd w h)), (4, .int (sm4 w h)), (3, .int h), (2, .int w), (1, .ref (gA g 0)), (0, .ref bs)] 245 4262 338 := by
  intro S B H locs ls hV hw hr hl
  obtain ⟨n9, m9, ne9, n8, m8, hN, hN1, hev, hne, hne2⟩ := hV.cnt
  obtain ⟨he, hq, hz, hr⟩ := cC_e hr
  refine lv_aload_n X.1.1 X.1.2.1 dL_ladder_338 rfl (lv_at hl 5 rfl) ?_
  refine lv_bipush (v := (nI 112)) X.1.1 X.1.2.1 dL_ladder_339 (by decide +kernel) ?_
  refine lv_iconst (v := 1) X.1.1 X.1.2.1 dL_ladder_341 (by decide) ?_
  refine k_newv (n := 1) (N := 1) X.1 X.2.2.1 hw q_ai (by decide) (by decide) (by decide) (Nat.le_of_ble_eq_true rfl) (Nat.le_of_ble_eq_true rfl) dL_ladder_342 (fun b H hv => ?_)
  refine lv_dup X.1.1 X.1.2.1 dL_ladder_344 rfl ?_
  refine lv_iconst (v := 0) X.1.1 X.1.2.1 dL_ladder_345 (by decide) ?_
  refine lv_iconst (v := 3) X.1.1 X.1.2.1 dL_ladder_346 (by decide) ?_
  refine k_vst (v := 3) (n := 0) X.1 X.2.2.1 hv (vp_in_nI (n := 0) (by decide) (by decide)) (by decide) dL_ladder_347 (fun H locs hv => ?_)
  refine sN X (mA_pass l g X.2.2.2 S B y (upd (fun _ => 0) 0 3) 3 rfl _ _ hN hev) hv hl dL_ladder_348 ⟨Nat.le_of_ble_eq_true rfl, Nat.le_of_ble_eq_true rfl⟩ ⟨Nat.le_of_ble_eq_true rfl, Nat.le_of_ble_eq_true rfl⟩ he (fun H locs hw => ?_)
  have hV := hV.ev (by decide) (fa_pass he) hz
  have hw := hw.nrmW
  refine vn_ (v9 := 6) (vIs_e hq) ?_
  refine lv_bipush (v := 6) X.1.1 X.1.2.1 dL_ladder_351 (by decide +kernel) ?_
  refine lv_icmp_ne (tgt := 739) X.1.1 X.1.2.1 dL_ladder_353 (by decide) (fun h9 => absurd rfl h9) (fun _ => ?_)
  refine W.widen (k := 251) (n := 4293) (Nat.le_of_ble_eq_true rfl) (Nat.le_of_ble_eq_true rfl) ?_
  exact fin _ _ _ _ _ hV hw hr hl
set_option maxHeartbeats 4000000 in
set_option maxRecDepth 100000 in
theorem w_lad_18 {p : Program} {l : Launch} {e : Env} {s : State} {m : MethodId} {args : Array Value} {below : List Frame} {meth : Method} {c : Code} {g : wG} {Q : State → Prop} {y : (Nat → Nat → Int32) × (Nat → Int64) × (Nat → UInt64)} {bs : Nat} (w : Int32) (h : Int32) (X : LX p l s m args c cL_ladder 8 g)
    (fin : FN p l e rmD s m args below meth c g y Q 15 (ch_lad_19 w) 8 [(6, .int 5), (5, .int (rmd w h)), (4, .int (sm4 w h)), (3, .int h), (2, .int w), (1, .ref (gA g 0)), (0, .ref bs)] 257 4324 372) : FN p l e rmD s m args below meth c g y Q 15 (ch_lad_18 w) 8 [(6, .int 5), (5, .int (rmd w h)), (4, .int (sm4 w h)), (3, .int h), (2, .int w), (1, .ref (gA g 0)), (0, .ref bs)] 251 4293 356 := by
  intro S B H locs ls hV hw hr hl
  obtain ⟨n9, m9, ne9, n8, m8, hN, hN1, hev, hne, hne2⟩ := hV.cnt
  obtain ⟨he, hq, hr⟩ := cQ_e hr
  refine lv_aload_n X.1.1 X.1.2.1 dL_ladder_356 rfl (lv_at hl 5 rfl) ?_
  refine lv_bipush (v := (nI 111)) X.1.1 X.1.2.1 dL_ladder_357 (by decide +kernel) ?_
  refine lv_iconst (v := 1) X.1.1 X.1.2.1 dL_ladder_359 (by decide) ?_
  refine k_newv (n := 1) (N := 1) X.1 X.2.2.1 hw q_ai (by decide) (by decide) (by decide) (Nat.le_of_ble_eq_true rfl) (Nat.le_of_ble_eq_true rfl) dL_ladder_360 (fun b H hv => ?_)
  refine lv_dup X.1.1 X.1.2.1 dL_ladder_362 rfl ?_
  refine lv_iconst (v := 0) X.1.1 X.1.2.1 dL_ladder_363 (by decide) ?_
  refine lv_iconst (v := 0) X.1.1 X.1.2.1 dL_ladder_364 (by decide) ?_
  refine k_vst (v := 0) (n := 0) X.1 X.2.2.1 hv (vp_in_nI (n := 0) (by decide) (by decide)) (by decide) dL_ladder_365 (fun H locs hv => ?_)
  refine sN X (mA_isOverdue l g X.2.2.2 S B y (upd (fun _ => 0) 0 0) 0 rfl _ _ hN) hv hl dL_ladder_366 ⟨Nat.le_of_ble_eq_true rfl, Nat.le_of_ble_eq_true rfl⟩ ⟨Nat.le_of_ble_eq_true rfl, Nat.le_of_ble_eq_true rfl⟩ he (fun H locs hw => ?_)
  refine vn_ (v9 := 0) (vIs_e hq) ?_
  refine lv_if_ne (tgt := 739) X.1.1 X.1.2.1 dL_ladder_369 (by decide) (fun h9 => absurd rfl h9) (fun _ => ?_)
  refine W.widen (k := 257) (n := 4324) (Nat.le_of_ble_eq_true rfl) (Nat.le_of_ble_eq_true rfl) ?_
  exact fin _ _ _ _ _ hV hw hr hl
set_option maxHeartbeats 4000000 in
set_option maxRecDepth 100000 in
theorem w_lad_19 {p : Program} {l : Launch} {e : Env} {s : State} {m : MethodId} {args : Array Value} {below : List Frame} {meth : Method} {c : Code} {g : wG} {Q : State → Prop} {y : (Nat → Nat → Int32) × (Nat → Int64) × (Nat → UInt64)} {bs : Nat} (w : Int32) (h : Int32) (X : LX p l s m args c cL_ladder 8 g)
    (fin : FN p l e rmD s m args below meth c g y Q 15 (ch_lad_20 w) 8 [(6, .int 5), (5, .int (rmd w h)), (4, .int (sm4 w h)), (3, .int h), (2, .int w), (1, .ref (gA g 0)), (0, .ref bs)] 263 4356 395) : FN p l e rmD s m args below meth c g y Q 15 (ch_lad_19 w) 8 [(6, .int 5), (5, .int (rmd w h)), (4, .int (sm4 w h)), (3, .int h), (2, .int w), (1, .ref (gA g 0)), (0, .ref bs)] 257 4324 372 := by
  intro S B H locs ls hV hw hr hl
  obtain ⟨n9, m9, ne9, n8, m8, hN, hN1, hev, hne, hne2⟩ := hV.cnt
  obtain ⟨he, hr⟩ := cX_e hr
  refine lv_aload_n X.1.1 X.1.2.1 dL_ladder_372 rfl (lv_at hl 5 rfl) ?_
  refine lv_bipush (v := (nI 69)) X.1.1 X.1.2.1 dL_ladder_373 (by decide +kernel) ?_
  refine lv_iconst (v := 2) X.1.1 X.1.2.1 dL_ladder_375 (by decide) ?_
  refine k_newv (n := 2) (N := 2) X.1 X.2.2.1 hw q_ai (by decide) (by decide) (by decide) (Nat.le_of_ble_eq_true rfl) (Nat.le_of_ble_eq_true rfl) dL_ladder_376 (fun b H hv => ?_)
  refine lv_dup X.1.1 X.1.2.1 dL_ladder_378 rfl ?_
  refine lv_iconst (v := 0) X.1.1 X.1.2.1 dL_ladder_379 (by decide) ?_
  refine lv_iconst (v := 0) X.1.1 X.1.2.1 dL_ladder_380 (by decide) ?_
  refine k_vst (v := 0) (n := 0) X.1 X.2.2.1 hv (vp_in_nI (n := 0) (by decide) (by decide)) (by decide) dL_ladder_381 (fun H locs hv => ?_)
  refine lv_dup X.1.1 X.1.2.1 dL_ladder_382 rfl ?_
  refine lv_iconst (v := 1) X.1.1 X.1.2.1 dL_ladder_383 (by decide) ?_
  refine lv_bipush (v := 31) X.1.1 X.1.2.1 dL_ladder_384 (by decide +kernel) ?_
  refine k_vst (v := 31) (n := 1) X.1 X.2.2.1 hv (vp_in_nI (n := 1) (by decide) (by decide)) (by decide) dL_ladder_386 (fun H locs hv => ?_)
  refine sX X (mA_extend l g X.2.2.2 S B y (upd (upd (fun _ => 0) 0 0) 1 31) 0 31 rfl rfl _ _ hN hev) hv hl dL_ladder_387 ⟨Nat.le_of_ble_eq_true rfl, Nat.le_of_ble_eq_true rfl⟩ ⟨Nat.le_of_ble_eq_true rfl, Nat.le_of_ble_eq_true rfl⟩ he kX_2 (fun H locs hw => ?_)
  refine lv_ldc (v := (-2000000002)) X.1.1 X.1.2.1 X.1.2.2.1 (X.1.2.2.2 _ q902) dL_ladder_390 ?_
  refine lv_icmp_ne (tgt := 739) X.1.1 X.1.2.1 dL_ladder_392 (by decide) (fun h9 => absurd rfl h9) (fun _ => ?_)
  refine W.widen (k := 263) (n := 4356) (Nat.le_of_ble_eq_true rfl) (Nat.le_of_ble_eq_true rfl) ?_
  exact fin _ _ _ _ _ hV hw hr hl
set_option maxHeartbeats 4000000 in
set_option maxRecDepth 100000 in
theorem w_lad_20 {p : Program} {l : Launch} {e : Env} {s : State} {m : MethodId} {args : Array Value} {below : List Frame} {meth : Method} {c : Code} {g : wG} {Q : State → Prop} {y : (Nat → Nat → Int32) × (Nat → Int64) × (Nat → UInt64)} {bs : Nat} (w : Int32) (h : Int32) (X : LX p l s m args c cL_ladder 8 g)
    (fin : FN p l e rmD s m args below meth c g y Q 16 (ch_lad_21 w) 8 [(6, .int 5), (5, .int (rmd w h)), (4, .int (sm4 w h)), (3, .int h), (2, .int w), (1, .ref (gA g 0)), (0, .ref bs)] 269 4388 417) : FN p l e rmD s m args below meth c g y Q 15 (ch_lad_20 w) 8 [(6, .int 5), (5, .int (rmd w h)), (4, .int (sm4 w h)), (3, .int h), (2, .int w), (1, .ref (gA g 0)), (0, .ref bs)] 263 4356 395 := by
  intro S B H locs ls hV hw hr hl
  obtain ⟨n9, m9, ne9, n8, m8, hN, hN1, hev, hne, hne2⟩ := hV.cnt
  obtain ⟨he, hq, hz, hr⟩ := cC_e hr
  refine lv_aload_n X.1.1 X.1.2.1 dL_ladder_395 rfl (lv_at hl 5 rfl) ?_
  refine lv_bipush (v := (nI 69)) X.1.1 X.1.2.1 dL_ladder_396 (by decide +kernel) ?_
  refine lv_iconst (v := 2) X.1.1 X.1.2.1 dL_ladder_398 (by decide) ?_
  refine k_newv (n := 2) (N := 2) X.1 X.2.2.1 hw q_ai (by decide) (by decide) (by decide) (Nat.le_of_ble_eq_true rfl) (Nat.le_of_ble_eq_true rfl) dL_ladder_399 (fun b H hv => ?_)
  refine lv_dup X.1.1 X.1.2.1 dL_ladder_401 rfl ?_
  refine lv_iconst (v := 0) X.1.1 X.1.2.1 dL_ladder_402 (by decide) ?_
  refine lv_iconst (v := 0) X.1.1 X.1.2.1 dL_ladder_403 (by decide) ?_
  refine k_vst (v := 0) (n := 0) X.1 X.2.2.1 hv (vp_in_nI (n := 0) (by decide) (by decide)) (by decide) dL_ladder_404 (fun H locs hv => ?_)
  refine lv_dup X.1.1 X.1.2.1 dL_ladder_405 rfl ?_
  refine lv_iconst (v := 1) X.1.1 X.1.2.1 dL_ladder_406 (by decide) ?_
  refine lv_iconst (v := 2) X.1.1 X.1.2.1 dL_ladder_407 (by decide) ?_
  refine k_vst (v := 2) (n := 1) X.1 X.2.2.1 hv (vp_in_nI (n := 1) (by decide) (by decide)) (by decide) dL_ladder_408 (fun H locs hv => ?_)
  refine sN X (mA_extend l g X.2.2.2 S B y (upd (upd (fun _ => 0) 0 0) 1 2) 0 2 rfl rfl _ _ hN hev) hv hl dL_ladder_409 ⟨Nat.le_of_ble_eq_true rfl, Nat.le_of_ble_eq_true rfl⟩ ⟨Nat.le_of_ble_eq_true rfl, Nat.le_of_ble_eq_true rfl⟩ he (fun H locs hw => ?_)
  have hV := hV.ev (by decide) (fa_extend he) hz
  have hw := hw.nrmW
  refine vn_ (v9 := 8) (vIs_e hq) ?_
  refine lv_bipush (v := 8) X.1.1 X.1.2.1 dL_ladder_412 (by decide +kernel) ?_
  refine lv_icmp_ne (tgt := 739) X.1.1 X.1.2.1 dL_ladder_414 (by decide) (fun h9 => absurd rfl h9) (fun _ => ?_)
  refine W.widen (k := 269) (n := 4388) (Nat.le_of_ble_eq_true rfl) (Nat.le_of_ble_eq_true rfl) ?_
  exact fin _ _ _ _ _ hV hw hr hl
set_option maxHeartbeats 4000000 in
set_option maxRecDepth 100000 in
theorem w_lad_21 {p : Program} {l : Launch} {e : Env} {s : State} {m : MethodId} {args : Array Value} {below : List Frame} {meth : Method} {c : Code} {g : wG} {Q : State → Prop} {y : (Nat → Nat → Int32) × (Nat → Int64) × (Nat → UInt64)} {bs : Nat} (w : Int32) (h : Int32) (X : LX p l s m args c cL_ladder 8 g)
    (fin : FN p l e rmD s m args below meth c g y Q 16 (ch_lad_22 w) 8 [(6, .int 5), (5, .int (rmd w h)), (4, .int (sm4 w h)), (3, .int h), (2, .int w), (1, .ref (gA g 0)), (0, .ref bs)] 275 4420 439) : FN p l e rmD s m args below meth c g y Q 16 (ch_lad_21 w) 8 [(6, .int 5), (5, .int (rmd w h)), (4, .int (sm4 w h)), (3, .int h), (2, .int w), (1, .ref (gA g 0)), (0, .ref bs)] 269 4388 417 := by
  intro S B H locs ls hV hw hr hl
  obtain ⟨n9, m9, ne9, n8, m8, hN, hN1, hev, hne, hne2⟩ := hV.cnt
  obtain ⟨he, hr⟩ := cX_e hr
  refine lv_aload_n X.1.1 X.1.2.1 dL_ladder_417 rfl (lv_at hl 5 rfl) ?_
  refine lv_bipush (v := (nI 69)) X.1.1 X.1.2.1 dL_ladder_418 (by decide +kernel) ?_
  refine lv_iconst (v := 2) X.1.1 X.1.2.1 dL_ladder_420 (by decide) ?_
  refine k_newv (n := 2) (N := 2) X.1 X.2.2.1 hw q_ai (by decide) (by decide) (by decide) (Nat.le_of_ble_eq_true rfl) (Nat.le_of_ble_eq_true rfl) dL_ladder_421 (fun b H hv => ?_)
  refine lv_dup X.1.1 X.1.2.1 dL_ladder_423 rfl ?_
  refine lv_iconst (v := 0) X.1.1 X.1.2.1 dL_ladder_424 (by decide) ?_
  refine lv_iconst (v := 0) X.1.1 X.1.2.1 dL_ladder_425 (by decide) ?_
  refine k_vst (v := 0) (n := 0) X.1 X.2.2.1 hv (vp_in_nI (n := 0) (by decide) (by decide)) (by decide) dL_ladder_426 (fun H locs hv => ?_)
  refine lv_dup X.1.1 X.1.2.1 dL_ladder_427 rfl ?_
  refine lv_iconst (v := 1) X.1.1 X.1.2.1 dL_ladder_428 (by decide) ?_
  refine lv_iconst (v := 2) X.1.1 X.1.2.1 dL_ladder_429 (by decide) ?_
  refine k_vst (v := 2) (n := 1) X.1 X.2.2.1 hv (vp_in_nI (n := 1) (by decide) (by decide)) (by decide) dL_ladder_430 (fun H locs hv => ?_)
  refine sX X (mA_extend l g X.2.2.2 S B y (upd (upd (fun _ => 0) 0 0) 1 2) 0 2 rfl rfl _ _ hN hev) hv hl dL_ladder_431 ⟨Nat.le_of_ble_eq_true rfl, Nat.le_of_ble_eq_true rfl⟩ ⟨Nat.le_of_ble_eq_true rfl, Nat.le_of_ble_eq_true rfl⟩ he kX_4 (fun H locs hw => ?_)
  refine lv_ldc (v := (-2000000004)) X.1.1 X.1.2.1 X.1.2.2.1 (X.1.2.2.2 _ q904) dL_ladder_434 ?_
  refine lv_icmp_ne (tgt := 739) X.1.1 X.1.2.1 dL_ladder_436 (by decide) (fun h9 => absurd rfl h9) (fun _ => ?_)
  refine W.widen (k := 275) (n := 4420) (Nat.le_of_ble_eq_true rfl) (Nat.le_of_ble_eq_true rfl) ?_
  exact fin _ _ _ _ _ hV hw hr hl
set_option maxHeartbeats 4000000 in
set_option maxRecDepth 100000 in
theorem w_lad_22 {p : Program} {l : Launch} {e : Env} {s : State} {m : MethodId} {args : Array Value} {below : List Frame} {meth : Method} {c : Code} {g : wG} {Q : State → Prop} {y : (Nat → Nat → Int32) × (Nat → Int64) × (Nat → UInt64)} {bs : Nat} (w : Int32) (h : Int32) (X : LX p l s m args c cL_ladder 8 g)
    (fin : FN p l e rmD s m args below meth c g y Q 17 (ch_lad_23 w) 8 [(6, .int 5), (5, .int (rmd w h)), (4, .int (sm4 w h)), (3, .int h), (2, .int w), (1, .ref (gA g 0)), (0, .ref bs)] 281 4451 457) : FN p l e rmD s m args below meth c g y Q 16 (ch_lad_22 w) 8 [(6, .int 5), (5, .int (rmd w h)), (4, .int (sm4 w h)), (3, .int h), (2, .int w), (1, .ref (gA g 0)), (0, .ref bs)] 275 4420 439 := by
  intro S B H locs ls hV hw hr hl
  obtain ⟨n9, m9, ne9, n8, m8, hN, hN1, hev, hne, hne2⟩ := hV.cnt
  obtain ⟨he, hq, hz, hr⟩ := cC_e hr
  refine lv_aload_n X.1.1 X.1.2.1 dL_ladder_439 rfl (lv_at hl 5 rfl) ?_
  refine lv_bipush (v := (nI 112)) X.1.1 X.1.2.1 dL_ladder_440 (by decide +kernel) ?_
  refine lv_iconst (v := 1) X.1.1 X.1.2.1 dL_ladder_442 (by decide) ?_
  refine k_newv (n := 1) (N := 1) X.1 X.2.2.1 hw q_ai (by decide) (by decide) (by decide) (Nat.le_of_ble_eq_true rfl) (Nat.le_of_ble_eq_true rfl) dL_ladder_443 (fun b H hv => ?_)
  refine lv_dup X.1.1 X.1.2.1 dL_ladder_445 rfl ?_
  refine lv_iconst (v := 0) X.1.1 X.1.2.1 dL_ladder_446 (by decide) ?_
  refine lv_iconst (v := 4) X.1.1 X.1.2.1 dL_ladder_447 (by decide) ?_
  refine k_vst (v := 4) (n := 0) X.1 X.2.2.1 hv (vp_in_nI (n := 0) (by decide) (by decide)) (by decide) dL_ladder_448 (fun H locs hv => ?_)
  refine sN X (mA_pass l g X.2.2.2 S B y (upd (fun _ => 0) 0 4) 4 rfl _ _ hN hev) hv hl dL_ladder_449 ⟨Nat.le_of_ble_eq_true rfl, Nat.le_of_ble_eq_true rfl⟩ ⟨Nat.le_of_ble_eq_true rfl, Nat.le_of_ble_eq_true rfl⟩ he (fun H locs hw => ?_)
  have hV := hV.ev (by decide) (fa_pass he) hz
  have hw := hw.nrmW
  refine vn_ (v9 := 10) (vIs_e hq) ?_
  refine lv_bipush (v := 10) X.1.1 X.1.2.1 dL_ladder_452 (by decide +kernel) ?_
  refine lv_icmp_ne (tgt := 739) X.1.1 X.1.2.1 dL_ladder_454 (by decide) (fun h9 => absurd rfl h9) (fun _ => ?_)
  refine W.widen (k := 281) (n := 4451) (Nat.le_of_ble_eq_true rfl) (Nat.le_of_ble_eq_true rfl) ?_
  exact fin _ _ _ _ _ hV hw hr hl
set_option maxHeartbeats 4000000 in
set_option maxRecDepth 100000 in
theorem w_lad_23 {p : Program} {l : Launch} {e : Env} {s : State} {m : MethodId} {args : Array Value} {below : List Frame} {meth : Method} {c : Code} {g : wG} {Q : State → Prop} {y : (Nat → Nat → Int32) × (Nat → Int64) × (Nat → UInt64)} {bs : Nat} (w : Int32) (h : Int32) (X : LX p l s m args c cL_ladder 8 g)
    (fin : FN p l e rmD s m args below meth c g y Q 17 (ch_lad_24 w) 8 [(6, .int 5), (5, .int (rmd w h)), (4, .int (sm4 w h)), (3, .int h), (2, .int w), (1, .ref (gA g 0)), (0, .ref bs)] 287 4482 474) : FN p l e rmD s m args below meth c g y Q 17 (ch_lad_23 w) 8 [(6, .int 5), (5, .int (rmd w h)), (4, .int (sm4 w h)), (3, .int h), (2, .int w), (1, .ref (gA g 0)), (0, .ref bs)] 281 4451 457 := by
  intro S B H locs ls hV hw hr hl
  obtain ⟨n9, m9, ne9, n8, m8, hN, hN1, hev, hne, hne2⟩ := hV.cnt
  obtain ⟨he, hq, hr⟩ := cQ_e hr
  refine lv_aload_n X.1.1 X.1.2.1 dL_ladder_457 rfl (lv_at hl 5 rfl) ?_
  refine lv_bipush (v := (nI 111)) X.1.1 X.1.2.1 dL_ladder_458 (by decide +kernel) ?_
  refine lv_iconst (v := 1) X.1.1 X.1.2.1 dL_ladder_460 (by decide) ?_
  refine k_newv (n := 1) (N := 1) X.1 X.2.2.1 hw q_ai (by decide) (by decide) (by decide) (Nat.le_of_ble_eq_true rfl) (Nat.le_of_ble_eq_true rfl) dL_ladder_461 (fun b H hv => ?_)
  refine lv_dup X.1.1 X.1.2.1 dL_ladder_463 rfl ?_
  refine lv_iconst (v := 0) X.1.1 X.1.2.1 dL_ladder_464 (by decide) ?_
  refine lv_iconst (v := 0) X.1.1 X.1.2.1 dL_ladder_465 (by decide) ?_
  refine k_vst (v := 0) (n := 0) X.1 X.2.2.1 hv (vp_in_nI (n := 0) (by decide) (by decide)) (by decide) dL_ladder_466 (fun H locs hv => ?_)
  refine sN X (mA_isOverdue l g X.2.2.2 S B y (upd (fun _ => 0) 0 0) 0 rfl _ _ hN) hv hl dL_ladder_467 ⟨Nat.le_of_ble_eq_true rfl, Nat.le_of_ble_eq_true rfl⟩ ⟨Nat.le_of_ble_eq_true rfl, Nat.le_of_ble_eq_true rfl⟩ he (fun H locs hw => ?_)
  refine vn_ (v9 := 1) (vIs_e hq) ?_
  refine lv_iconst (v := 1) X.1.1 X.1.2.1 dL_ladder_470 (by decide) ?_
  refine lv_icmp_ne (tgt := 739) X.1.1 X.1.2.1 dL_ladder_471 (by decide) (fun h9 => absurd rfl h9) (fun _ => ?_)
  refine W.widen (k := 287) (n := 4482) (Nat.le_of_ble_eq_true rfl) (Nat.le_of_ble_eq_true rfl) ?_
  exact fin _ _ _ _ _ hV hw hr hl
set_option maxHeartbeats 4000000 in
set_option maxRecDepth 100000 in
theorem w_lad_24 {p : Program} {l : Launch} {e : Env} {s : State} {m : MethodId} {args : Array Value} {below : List Frame} {meth : Method} {c : Code} {g : wG} {Q : State → Prop} {y : (Nat → Nat → Int32) × (Nat → Int64) × (Nat → UInt64)} {bs : Nat} (w : Int32) (h : Int32) (X : LX p l s m args c cL_ladder 8 g)
    (fin : FN p l e rmD s m args below meth c g y Q 17 (ch_lad_25 w) 8 [(6, .int 5), (5, .int (rmd w h)), (4, .int (sm4 w h)), (3, .int h), (2, .int w), (1, .ref (gA g 0)), (0, .ref bs)] 293 4512 488) : FN p l e rmD s m args below meth c g y Q 17 (ch_lad_24 w) 8 [(6, .int 5), (5, .int (rmd w h)), (4, .int (sm4 w h)), (3, .int h), (2, .int w), (1, .ref (gA g 0)), (0, .ref bs)] 287 4482 474 := by
  intro S B H locs ls hV hw hr hl
  obtain ⟨n9, m9, ne9, n8, m8, hN, hN1, hev, hne, hne2⟩ := hV.cnt
  obtain ⟨he, hr⟩ := cX_e hr
  refine lv_aload_n X.1.1 X.1.2.1 dL_ladder_474 rfl (lv_at hl 5 rfl) ?_
  refine lv_bipush (v := (nI 110)) X.1.1 X.1.2.1 dL_ladder_475 (by decide +kernel) ?_
  refine lv_iconst (v := 0) X.1.1 X.1.2.1 dL_ladder_477 (by decide) ?_
  refine k_newv (n := 0) (N := 0) X.1 X.2.2.1 hw q_ai (by decide) (by decide) (by decide) (Nat.le_of_ble_eq_true rfl) (Nat.le_of_ble_eq_true rfl) dL_ladder_478 (fun b H hv => ?_)
  refine sX X (mA_nextDue l g X.2.2.2 S B y (fun _ => 0)  _ _ hN) hv hl dL_ladder_480 ⟨Nat.le_of_ble_eq_true rfl, Nat.le_of_ble_eq_true rfl⟩ ⟨Nat.le_of_ble_eq_true rfl, Nat.le_of_ble_eq_true rfl⟩ he kX_5 (fun H locs hw => ?_)
  refine lv_ldc (v := (-2000000005)) X.1.1 X.1.2.1 X.1.2.2.1 (X.1.2.2.2 _ q905) dL_ladder_483 ?_
  refine lv_icmp_ne (tgt := 739) X.1.1 X.1.2.1 dL_ladder_485 (by decide) (fun h9 => absurd rfl h9) (fun _ => ?_)
  refine W.widen (k := 293) (n := 4512) (Nat.le_of_ble_eq_true rfl) (Nat.le_of_ble_eq_true rfl) ?_
  exact fin _ _ _ _ _ hV hw hr hl
set_option maxHeartbeats 4000000 in
set_option maxRecDepth 100000 in
theorem w_lad_25 {p : Program} {l : Launch} {e : Env} {s : State} {m : MethodId} {args : Array Value} {below : List Frame} {meth : Method} {c : Code} {g : wG} {Q : State → Prop} {y : (Nat → Nat → Int32) × (Nat → Int64) × (Nat → UInt64)} {bs : Nat} (w : Int32) (h : Int32) (X : LX p l s m args c cL_ladder 8 g)
    (fin : FN p l e rmD s m args below meth c g y Q 17 (ch_lad_26 w) 8 [(6, .int 5), (5, .int (rmd w h)), (4, .int (sm4 w h)), (3, .int h), (2, .int w), (1, .ref (gA g 0)), (0, .ref bs)] 299 4544 510) : FN p l e rmD s m args below meth c g y Q 17 (ch_lad_25 w) 8 [(6, .int 5), (5, .int (rmd w h)), (4, .int (sm4 w h)), (3, .int h), (2, .int w), (1, .ref (gA g 0)), (0, .ref bs)] 293 4512 488 := by
  intro S B H locs ls hV hw hr hl
  obtain ⟨n9, m9, ne9, n8, m8, hN, hN1, hev, hne, hne2⟩ := hV.cnt
  obtain ⟨he, hr⟩ := cX_e hr
  refine lv_aload_n X.1.1 X.1.2.1 dL_ladder_488 rfl (lv_at hl 5 rfl) ?_
  refine lv_bipush (v := (nI 102)) X.1.1 X.1.2.1 dL_ladder_489 (by decide +kernel) ?_
  refine lv_iconst (v := 2) X.1.1 X.1.2.1 dL_ladder_491 (by decide) ?_
  refine k_newv (n := 2) (N := 2) X.1 X.2.2.1 hw q_ai (by decide) (by decide) (by decide) (Nat.le_of_ble_eq_true rfl) (Nat.le_of_ble_eq_true rfl) dL_ladder_492 (fun b H hv => ?_)
  refine lv_dup X.1.1 X.1.2.1 dL_ladder_494 rfl ?_
  refine lv_iconst (v := 0) X.1.1 X.1.2.1 dL_ladder_495 (by decide) ?_
  refine lv_iconst (v := 0) X.1.1 X.1.2.1 dL_ladder_496 (by decide) ?_
  refine k_vst (v := 0) (n := 0) X.1 X.2.2.1 hv (vp_in_nI (n := 0) (by decide) (by decide)) (by decide) dL_ladder_497 (fun H locs hv => ?_)
  refine lv_dup X.1.1 X.1.2.1 dL_ladder_498 rfl ?_
  refine lv_iconst (v := 1) X.1.1 X.1.2.1 dL_ladder_499 (by decide) ?_
  refine lv_iconst (v := 1) X.1.1 X.1.2.1 dL_ladder_500 (by decide) ?_
  refine k_vst (v := 1) (n := 1) X.1 X.2.2.1 hv (vp_in_nI (n := 1) (by decide) (by decide)) (by decide) dL_ladder_501 (fun H locs hv => ?_)
  refine sX X (mA_find l g X.2.2.2 S B y (upd (upd (fun _ => 0) 0 0) 1 1) 0 1 rfl rfl _ _ hN hev) hv hl dL_ladder_502 ⟨Nat.le_of_ble_eq_true rfl, Nat.le_of_ble_eq_true rfl⟩ ⟨Nat.le_of_ble_eq_true rfl, Nat.le_of_ble_eq_true rfl⟩ he kX_4 (fun H locs hw => ?_)
  refine lv_ldc (v := (-2000000004)) X.1.1 X.1.2.1 X.1.2.2.1 (X.1.2.2.2 _ q904) dL_ladder_505 ?_
  refine lv_icmp_ne (tgt := 739) X.1.1 X.1.2.1 dL_ladder_507 (by decide) (fun h9 => absurd rfl h9) (fun _ => ?_)
  refine W.widen (k := 299) (n := 4544) (Nat.le_of_ble_eq_true rfl) (Nat.le_of_ble_eq_true rfl) ?_
  exact fin _ _ _ _ _ hV hw hr hl
set_option maxHeartbeats 4000000 in
set_option maxRecDepth 100000 in
theorem w_lad_26 {p : Program} {l : Launch} {e : Env} {s : State} {m : MethodId} {args : Array Value} {below : List Frame} {meth : Method} {c : Code} {g : wG} {Q : State → Prop} {y : (Nat → Nat → Int32) × (Nat → Int64) × (Nat → UInt64)} {bs : Nat} (w : Int32) (h : Int32) (X : LX p l s m args c cL_ladder 8 g)
    (fin : FN p l e rmD s m args below meth c g y Q 18 (ch_lad_27 w) 8 [(6, .int 5), (5, .int (rmd w h)), (4, .int (sm4 w h)), (3, .int h), (2, .int w), (1, .ref (gA g 0)), (0, .ref bs)] 305 4575 527) : FN p l e rmD s m args below meth c g y Q 17 (ch_lad_26 w) 8 [(6, .int 5), (5, .int (rmd w h)), (4, .int (sm4 w h)), (3, .int h), (2, .int w), (1, .ref (gA g 0)), (0, .ref bs)] 299 4544 510 := by
  intro S B H locs ls hV hw hr hl
  obtain ⟨n9, m9, ne9, n8, m8, hN, hN1, hev, hne, hne2⟩ := hV.cnt
  obtain ⟨he, hq, hz, hr⟩ := cC_e hr
  refine lv_aload_n X.1.1 X.1.2.1 dL_ladder_510 rfl (lv_at hl 5 rfl) ?_
  refine lv_bipush (v := (nI 65)) X.1.1 X.1.2.1 dL_ladder_511 (by decide +kernel) ?_
  refine lv_iconst (v := 1) X.1.1 X.1.2.1 dL_ladder_513 (by decide) ?_
  refine k_newv (n := 1) (N := 1) X.1 X.2.2.1 hw q_ai (by decide) (by decide) (by decide) (Nat.le_of_ble_eq_true rfl) (Nat.le_of_ble_eq_true rfl) dL_ladder_514 (fun b H hv => ?_)
  refine lv_dup X.1.1 X.1.2.1 dL_ladder_516 rfl ?_
  refine lv_iconst (v := 0) X.1.1 X.1.2.1 dL_ladder_517 (by decide) ?_
  refine lv_iconst (v := 0) X.1.1 X.1.2.1 dL_ladder_518 (by decide) ?_
  refine k_vst (v := 0) (n := 0) X.1 X.2.2.1 hv (vp_in_nI (n := 0) (by decide) (by decide)) (by decide) dL_ladder_519 (fun H locs hv => ?_)
  refine sN X (mA_answer l g X.2.2.2 S B y (upd (fun _ => 0) 0 0) 0 rfl _ _ hN hev) hv hl dL_ladder_520 ⟨Nat.le_of_ble_eq_true rfl, Nat.le_of_ble_eq_true rfl⟩ ⟨Nat.le_of_ble_eq_true rfl, Nat.le_of_ble_eq_true rfl⟩ he (fun H locs hw => ?_)
  have hV := hV.ev (by decide) (fa_answer he) hz
  have hw := hw.nrmW
  refine vn_ (v9 := 2) (vIs_e hq) ?_
  refine lv_iconst (v := 2) X.1.1 X.1.2.1 dL_ladder_523 (by decide) ?_
  refine lv_icmp_ne (tgt := 739) X.1.1 X.1.2.1 dL_ladder_524 (by decide) (fun h9 => absurd rfl h9) (fun _ => ?_)
  refine W.widen (k := 305) (n := 4575) (Nat.le_of_ble_eq_true rfl) (Nat.le_of_ble_eq_true rfl) ?_
  exact fin _ _ _ _ _ hV hw hr hl
set_option maxHeartbeats 4000000 in
set_option maxRecDepth 100000 in
theorem w_lad_27 {p : Program} {l : Launch} {e : Env} {s : State} {m : MethodId} {args : Array Value} {below : List Frame} {meth : Method} {c : Code} {g : wG} {Q : State → Prop} {y : (Nat → Nat → Int32) × (Nat → Int64) × (Nat → UInt64)} {bs : Nat} (w : Int32) (h : Int32) (X : LX p l s m args c cL_ladder 8 g)
    (fin : FN p l e rmD s m args below meth c g y Q 18 (ch_lad_28 w) 8 [(6, .int 5), (5, .int (rmd w h)), (4, .int (sm4 w h)), (3, .int h), (2, .int w), (1, .ref (gA g 0)), (0, .ref bs)] 311 4606 545) : FN p l e rmD s m args below meth c g y Q 18 (ch_lad_27 w) 8 [(6, .int 5), (5, .int (rmd w h)), (4, .int (sm4 w h)), (3, .int h), (2, .int w), (1, .ref (gA g 0)), (0, .ref bs)] 305 4575 527 := by
  intro S B H locs ls hV hw hr hl
  obtain ⟨n9, m9, ne9, n8, m8, hN, hN1, hev, hne, hne2⟩ := hV.cnt
  obtain ⟨he, hr⟩ := cX_e hr
  refine lv_aload_n X.1.1 X.1.2.1 dL_ladder_527 rfl (lv_at hl 5 rfl) ?_
  refine lv_bipush (v := (nI 104)) X.1.1 X.1.2.1 dL_ladder_528 (by decide +kernel) ?_
  refine lv_iconst (v := 1) X.1.1 X.1.2.1 dL_ladder_530 (by decide) ?_
  refine k_newv (n := 1) (N := 1) X.1 X.2.2.1 hw q_ai (by decide) (by decide) (by decide) (Nat.le_of_ble_eq_true rfl) (Nat.le_of_ble_eq_true rfl) dL_ladder_531 (fun b H hv => ?_)
  refine lv_dup X.1.1 X.1.2.1 dL_ladder_533 rfl ?_
  refine lv_iconst (v := 0) X.1.1 X.1.2.1 dL_ladder_534 (by decide) ?_
  refine lv_iconst (v := 0) X.1.1 X.1.2.1 dL_ladder_535 (by decide) ?_
  refine k_vst (v := 0) (n := 0) X.1 X.2.2.1 hv (vp_in_nI (n := 0) (by decide) (by decide)) (by decide) dL_ladder_536 (fun H locs hv => ?_)
  refine sX X (mA_heads l g X.2.2.2 S B y (upd (fun _ => 0) 0 0) 0 rfl _ _ hN) hv hl dL_ladder_537 ⟨Nat.le_of_ble_eq_true rfl, Nat.le_of_ble_eq_true rfl⟩ ⟨Nat.le_of_ble_eq_true rfl, Nat.le_of_ble_eq_true rfl⟩ he kX_5 (fun H locs hw => ?_)
  refine lv_ldc (v := (-2000000005)) X.1.1 X.1.2.1 X.1.2.2.1 (X.1.2.2.2 _ q905) dL_ladder_540 ?_
  refine lv_icmp_ne (tgt := 739) X.1.1 X.1.2.1 dL_ladder_542 (by decide) (fun h9 => absurd rfl h9) (fun _ => ?_)
  refine W.widen (k := 311) (n := 4606) (Nat.le_of_ble_eq_true rfl) (Nat.le_of_ble_eq_true rfl) ?_
  exact fin _ _ _ _ _ hV hw hr hl
set_option maxHeartbeats 4000000 in
set_option maxRecDepth 100000 in
theorem w_lad_28 {p : Program} {l : Launch} {e : Env} {s : State} {m : MethodId} {args : Array Value} {below : List Frame} {meth : Method} {c : Code} {g : wG} {Q : State → Prop} {y : (Nat → Nat → Int32) × (Nat → Int64) × (Nat → UInt64)} {bs : Nat} (w : Int32) (h : Int32) (X : LX p l s m args c cL_ladder 8 g)
    (fin : FN p l e rmD s m args below meth c g y Q 18 (ch_lad_29 w) 8 [(6, .int 5), (5, .int (rmd w h)), (4, .int (sm4 w h)), (3, .int h), (2, .int w), (1, .ref (gA g 0)), (0, .ref bs)] 317 4637 562) : FN p l e rmD s m args below meth c g y Q 18 (ch_lad_28 w) 8 [(6, .int 5), (5, .int (rmd w h)), (4, .int (sm4 w h)), (3, .int h), (2, .int w), (1, .ref (gA g 0)), (0, .ref bs)] 311 4606 545 := by
  intro S B H locs ls hV hw hr hl
  obtain ⟨n9, m9, ne9, n8, m8, hN, hN1, hev, hne, hne2⟩ := hV.cnt
  obtain ⟨he, hq, hr⟩ := cQ_e hr
  refine lv_aload_n X.1.1 X.1.2.1 dL_ladder_545 rfl (lv_at hl 5 rfl) ?_
  refine lv_bipush (v := (nI 100)) X.1.1 X.1.2.1 dL_ladder_546 (by decide +kernel) ?_
  refine lv_iconst (v := 1) X.1.1 X.1.2.1 dL_ladder_548 (by decide) ?_
  refine k_newv (n := 1) (N := 1) X.1 X.2.2.1 hw q_ai (by decide) (by decide) (by decide) (Nat.le_of_ble_eq_true rfl) (Nat.le_of_ble_eq_true rfl) dL_ladder_549 (fun b H hv => ?_)
  refine lv_dup X.1.1 X.1.2.1 dL_ladder_551 rfl ?_
  refine lv_iconst (v := 0) X.1.1 X.1.2.1 dL_ladder_552 (by decide) ?_
  refine lv_iconst (v := 0) X.1.1 X.1.2.1 dL_ladder_553 (by decide) ?_
  refine k_vst (v := 0) (n := 0) X.1 X.2.2.1 hv (vp_in_nI (n := 0) (by decide) (by decide)) (by decide) dL_ladder_554 (fun H locs hv => ?_)
  refine sN X (mA_days l g X.2.2.2 S B y (upd (fun _ => 0) 0 0) 0 rfl _ _ hN) hv hl dL_ladder_555 ⟨Nat.le_of_ble_eq_true rfl, Nat.le_of_ble_eq_true rfl⟩ ⟨Nat.le_of_ble_eq_true rfl, Nat.le_of_ble_eq_true rfl⟩ he (fun H locs hw => ?_)
  refine vn_ (v9 := 3) (vIs_e hq) ?_
  refine lv_iconst (v := 3) X.1.1 X.1.2.1 dL_ladder_558 (by decide) ?_
  refine lv_icmp_ne (tgt := 739) X.1.1 X.1.2.1 dL_ladder_559 (by decide) (fun h9 => absurd rfl h9) (fun _ => ?_)
  refine W.widen (k := 317) (n := 4637) (Nat.le_of_ble_eq_true rfl) (Nat.le_of_ble_eq_true rfl) ?_
  exact fin _ _ _ _ _ hV hw hr hl
set_option maxHeartbeats 4000000 in
set_option maxRecDepth 100000 in
theorem w_lad_29 {p : Program} {l : Launch} {e : Env} {s : State} {m : MethodId} {args : Array Value} {below : List Frame} {meth : Method} {c : Code} {g : wG} {Q : State → Prop} {y : (Nat → Nat → Int32) × (Nat → Int64) × (Nat → UInt64)} {bs : Nat} (w : Int32) (h : Int32) (X : LX p l s m args c cL_ladder 8 g)
    (fin : FN p l e rmD s m args below meth c g y Q 18 (ch_lad_30 w) 8 [(6, .int 5), (5, .int (rmd w h)), (4, .int (sm4 w h)), (3, .int h), (2, .int w), (1, .ref (gA g 0)), (0, .ref bs)] 323 4669 585) : FN p l e rmD s m args below meth c g y Q 18 (ch_lad_29 w) 8 [(6, .int 5), (5, .int (rmd w h)), (4, .int (sm4 w h)), (3, .int h), (2, .int w), (1, .ref (gA g 0)), (0, .ref bs)] 317 4637 562 := by
  intro S B H locs ls hV hw hr hl
  obtain ⟨n9, m9, ne9, n8, m8, hN, hN1, hev, hne, hne2⟩ := hV.cnt
  obtain ⟨he, hr⟩ := cX_e hr
  refine lv_aload_n X.1.1 X.1.2.1 dL_ladder_562 rfl (lv_at hl 5 rfl) ?_
  refine lv_bipush (v := (nI 102)) X.1.1 X.1.2.1 dL_ladder_563 (by decide +kernel) ?_
  refine lv_iconst (v := 2) X.1.1 X.1.2.1 dL_ladder_565 (by decide) ?_
  refine k_newv (n := 2) (N := 2) X.1 X.2.2.1 hw q_ai (by decide) (by decide) (by decide) (Nat.le_of_ble_eq_true rfl) (Nat.le_of_ble_eq_true rfl) dL_ladder_566 (fun b H hv => ?_)
  refine lv_dup X.1.1 X.1.2.1 dL_ladder_568 rfl ?_
  refine lv_iconst (v := 0) X.1.1 X.1.2.1 dL_ladder_569 (by decide) ?_
  refine lv_iconst (v := 0) X.1.1 X.1.2.1 dL_ladder_570 (by decide) ?_
  refine k_vst (v := 0) (n := 0) X.1 X.2.2.1 hv (vp_in_nI (n := 0) (by decide) (by decide)) (by decide) dL_ladder_571 (fun H locs hv => ?_)
  refine lv_dup X.1.1 X.1.2.1 dL_ladder_572 rfl ?_
  refine lv_iconst (v := 1) X.1.1 X.1.2.1 dL_ladder_573 (by decide) ?_
  refine lv_bipush (v := 32) X.1.1 X.1.2.1 dL_ladder_574 (by decide +kernel) ?_
  refine k_vst (v := 32) (n := 1) X.1 X.2.2.1 hv (vp_in_nI (n := 1) (by decide) (by decide)) (by decide) dL_ladder_576 (fun H locs hv => ?_)
  refine sX X (mA_find l g X.2.2.2 S B y (upd (upd (fun _ => 0) 0 0) 1 32) 0 32 rfl rfl _ _ hN hev) hv hl dL_ladder_577 ⟨Nat.le_of_ble_eq_true rfl, Nat.le_of_ble_eq_true rfl⟩ ⟨Nat.le_of_ble_eq_true rfl, Nat.le_of_ble_eq_true rfl⟩ he kX_2 (fun H locs hw => ?_)
  refine lv_ldc (v := (-2000000002)) X.1.1 X.1.2.1 X.1.2.2.1 (X.1.2.2.2 _ q902) dL_ladder_580 ?_
  refine lv_icmp_ne (tgt := 739) X.1.1 X.1.2.1 dL_ladder_582 (by decide) (fun h9 => absurd rfl h9) (fun _ => ?_)
  refine W.widen (k := 323) (n := 4669) (Nat.le_of_ble_eq_true rfl) (Nat.le_of_ble_eq_true rfl) ?_
  exact fin _ _ _ _ _ hV hw hr hl
set_option maxHeartbeats 4000000 in
set_option maxRecDepth 100000 in
theorem w_lad {p : Program} {l : Launch} {e : Env} {s : State} {m : MethodId} {args : Array Value} {below : List Frame} {meth : Method} {c : Code} {g : wG} {Q : State → Prop} {y : (Nat → Nat → Int32) × (Nat → Int64) × (Nat → UInt64)} {bs : Nat} (w : Int32) (h : Int32) (X : LX p l s m args c cL_ladder 8 g)
    (fin : FN p l e rmD s m args below meth c g y Q 18 (ch_lad_30 w) 8 [(6, .int 5), (5, .int (rmd w h)), (4, .int (sm4 w h)), (3, .int h), (2, .int w), (1, .ref (gA g 0)), (0, .ref bs)] 323 4669 585) : FN p l e rmD s m args below meth c g y Q 0 (ch_lad_0 w) 8 [(5, .int (rmd w h)), (4, .int (sm4 w h)), (3, .int h), (2, .int w), (1, .ref (gA g 0)), (0, .ref bs)] 143 3727 77 :=
  w_lad_0 w h X (w_lad_1 w h X (w_lad_2 w h X (w_lad_3 w h X (w_lad_4 w h X (w_lad_5 w h X (w_lad_6 w h X (w_lad_7 w h X (w_lad_8 w h X (w_lad_9 w h X (w_lad_10 w h X (w_lad_11 w h X (w_lad_12 w h X (w_lad_13 w h X (w_lad_14 w h X (w_lad_15 w h X (w_lad_16 w h X (w_lad_17 w h X (w_lad_18 w h X (w_lad_19 w h X (w_lad_20 w h X (w_lad_21 w h X (w_lad_22 w h X (w_lad_23 w h X (w_lad_24 w h X (w_lad_25 w h X (w_lad_26 w h X (w_lad_27 w h X (w_lad_28 w h X (w_lad_29 w h X (fin))))))))))))))))))))))))))))))
