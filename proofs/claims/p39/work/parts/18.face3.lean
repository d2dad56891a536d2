/-! the face, third part -/
theorem xB_at0 {S : Nat → BT} {C : BT} {y : (Nat → Nat → Int32) × (Nat → Int64) × (Nat → UInt64)} : xB (va_up S 1 C) 0 (S 0) y = xB S 1 C y := by
  show (va_up (va_up S 1 C) 0 (S 0), y) = _
  rw [show S 0 = va_up S 1 C 0 from rfl, va_up_id]
theorem xB_one {S : Nat → BT} {y : (Nat → Nat → Int32) × (Nat → Int64) × (Nat → UInt64)} : xB S 1 (S 1) y = (S, y) := by
  show (va_up S 1 (S 1), y) = _
  rw [va_up_id]
theorem re_of {a1 : Int32} {B : BT} (h : e_X6_requireOffice a1 B = none) : ¬ a1 < 0 ∧ a1 < B 0 3 := by
  unfold e_X6_requireOffice at h
  by_cases h1 : a1 < 0
  · rw [if_pos h1] at h; exact absurd h (Option.some_ne_none _)
  · rw [if_neg h1] at h
    by_cases h2 : a1 < B 0 3
    · exact ⟨h1, h2⟩
    · rw [if_neg h2] at h; exact absurd h (Option.some_ne_none _)
def b_checksum (B : BT) (k : Nat) (z : Int64) : Int64 :=
  (31 * ((31 * z) + ((B (10 + k) 11).toInt64))) + ((f_X1_daysBy k (B 0 5) B).toInt64)
def L_checksum (B : BT) : Nat → Int64
  | 0 => 7
  | k + 1 => b_checksum B k (L_checksum B k)
def f_X6_checksum  (B : BT) : Int64 :=
  (31 * (L_checksum B ((B 0 4).toNatClampNeg))) + ((B 0 5).toInt64)
set_option maxHeartbeats 4000000 in
set_option maxRecDepth 100000 in
theorem m_X6_checksum (l : Launch) (g : wG) (S : Nat → BT) (B : BT) (y : (Nat → Nat → Int32) × (Nat → Int64) × (Nat → UInt64)) (n m9 : Nat) (hN : CN B n m9) : mL l yX6_checksum cX6_checksum 5 (some .long) ({ frames := 1, cells := 0, slots := 0, locals := 23 } : Room) 0 0 g (xB S 0 B y) [.ref (gA g 0)] (f_X6_checksum B) (xB S 0 B y) := by
  refine Met.ofW (cc := cX6_checksum) (maxL := 5) (ret := some .long) (by decide) rfl ?_
  intro p9 e s m args below meth c s₁ BL hml hv
  obtain ⟨rfl, hk, hPB⟩ := hv
  have hx := BL.exec
  have hb := BL.bytes
  have hc : CX p9 c cX6_checksum s _ m RX6 := ⟨hx, hb, findClass_of_methodNamed BL.named, fun w h => atoms_spec BL.pre w (List.mem_cons_of_mem _ h)⟩
  have hr := BL.returns
  have hlocks := BL.notSynchronized
  have hw : WS g s (xB S 0 B y) s.heap [] := ⟨hPB, va_S.rf⟩
  have hl := lv_entry ([.ref (gA g 0)]) (n := 5) (Nat.le_of_ble_eq_true rfl)
  rw [lg_entry_eq]
  generalize (lg_sl ([.ref (gA g 0)]) ++ List.replicate (5 - (lg_sl ([.ref (gA g 0)])).length) Slot.unset).toArray = ls at hl ⊢
  have hl : lv_has ls 5 [(0, .ref (gA g 0))] := hl
  refine lv_ldc2 (v := 7) hx hb hc.2.2.1 (hc.2.2.2 _ q256) dX6_checksum_0 ?_
  refine lv_lstore_n (lv' := [(1, .long 7), (0, .ref (gA g 0))]) hx hb dX6_checksum_3 rfl hl (by decide) rfl (fun ls hl => ?_)
  refine lv_iconst (v := 0) hx hb dX6_checksum_4 (by decide) ?_
  refine lv_istore_n (lv' := [(3, .int 0), (1, .long 7), (0, .ref (gA g 0))]) hx hb dX6_checksum_5 rfl hl (by decide) rfl (fun ls hl => ?_)
  have LP1 : ∀ (f k : Nat), k ≤ (B 0 4).toNatClampNeg → (B 0 4).toNatClampNeg + 1 ≤ k + f → ∀ (H : Heap) (locs : List Loc), WS g s (xB S 0 B y) H locs → ∀ (ls : Array Slot), lv_has ls 5 [(3, .int (nI k)), (1, .long (L_checksum B k)), (0, .ref (gA g 0))] → W p9 l e ({ frames := 1, cells := 0, slots := 0, locals := 23 } : Room) s m ([.ref (gA g 0)] : List Value).toArray below meth c H locs 0 0 (MQ below (va_Ql (fun (v : Int64) (u : wSt) => v = f_X6_checksum B ∧ u = (xB S 0 B y)) (PB g) (AA g)) (([.ref (gA g 0)] : List Value).toArray) s 0 0 (AA g)) (F0 m 6 ls []) := by
    intro f
    induction f with
    | zero => intro k h1 h2; exact absurd h2 (by omega)
    | succ f ih =>
      intro k hk9 hf9 H locs hw ls hl
      have hl9a := hN.l4
      refine lv_iload_n hx hb dX6_checksum_6 rfl (lv_at hl 0 rfl) ?_
      refine lv_aload_n hx hb dX6_checksum_7 rfl (lv_at hl 2 rfl) ?_
      refine k_get hc hk hw at_G rfl iX6 0 (by decide) q238 (v := .ref (gA g (jB 0))) rfl dX6_checksum_8 ?_
      refine k_getN hc hk hw (bt_B (by decide : 0 < 2)) rfl iX0 4 (by decide) nq209 (v := .int (B 0 4)) rfl dX6_checksum_11 ?_
      refine lv_icmp_ge (tgt := 67) hx hb dX6_checksum_14 (by decide) (fun h2 => ?_) (fun h2 => ?_)
      · have hkn := lp_out h2 (CN.cc hN hN) hk9 (by omega)
        subst hkn
        refine lv_ldc2 (v := 31) hx hb hc.2.2.1 (hc.2.2.2 _ q257) dX6_checksum_67 ?_
        refine lv_lload_n hx hb dX6_checksum_70 rfl (lv_at hl 1 rfl) ?_
        refine lv_lmul hx hb dX6_checksum_71 ?_
        refine lv_aload_n hx hb dX6_checksum_72 rfl (lv_at hl 2 rfl) ?_
        refine k_get hc hk hw at_G rfl iX6 0 (by decide) q238 (v := .ref (gA g (jB 0))) rfl dX6_checksum_73 ?_
        refine k_getN hc hk hw (bt_B (by decide : 0 < 2)) rfl iX0 5 (by decide) nq211 (v := .int (B 0 5)) rfl dX6_checksum_76 ?_
        refine lv_i2l hx hb dX6_checksum_79 rfl ?_
        refine lv_ladd hx hb dX6_checksum_80 ?_
        exact W.lret (v := (31 * (L_checksum B ((B 0 4).toNatClampNeg))) + ((B 0 5).toInt64)) hx hb hr (fun t9 ht hW => ke_l hw ht (by simp only [f_X6_checksum]) rfl) hw.2.2.2 dX6_checksum_81
      · have hkn := lp_in h2 (CN.cc hN hN) hk9 (by omega)
        refine lv_aload_n hx hb dX6_checksum_17 rfl (lv_at hl 2 rfl) ?_
        refine k_get hc hk hw at_G rfl iX6 0 (by decide) q238 (v := .ref (gA g (jB 0))) rfl dX6_checksum_18 ?_
        refine k_getN hc hk hw (bt_B (by decide : 0 < 2)) rfl iX0 1 (by decide) nq204 (v := .ref (gA g (jCs 0))) rfl dX6_checksum_21 ?_
        refine lv_iload_n hx hb dX6_checksum_24 rfl (lv_at hl 0 rfl) ?_
        refine k_ald (t0 := 5) (f := fun k => gA g (jC 0 k)) (n := k) hc hk hw rfl (at_Cs (by decide : 0 < 2)) (vp_in_nI (Nat.lt_of_lt_of_le hkn (by omega)) (by omega)) (nI_clamp (by have := hkn; omega)) dX6_checksum_25 ?_
        refine lv_astore (lv' := [(4, .ref (gA g (jC 0 k))), (3, .int (nI k)), (1, .long (L_checksum B k)), (0, .ref (gA g 0))]) hx hb dX6_checksum_26 hl (by decide) rfl (fun ls hl => ?_)
        refine lv_ldc2 (v := 31) hx hb hc.2.2.1 (hc.2.2.2 _ q257) dX6_checksum_28 ?_
        refine lv_lload_n hx hb dX6_checksum_31 rfl (lv_at hl 2 rfl) ?_
        refine lv_lmul hx hb dX6_checksum_32 ?_
        refine lv_aload hx hb dX6_checksum_33 (lv_at hl 0 rfl) ?_
        refine k_getN hc hk hw (bt_C (by decide : 0 < 2) (Nat.lt_of_lt_of_le hkn (by omega))) rfl iX1 11 (by decide) nq160 (v := .int (B (10 + k) 11)) rfl dX6_checksum_35 ?_
        refine lv_i2l hx hb dX6_checksum_38 rfl ?_
        refine lv_ladd hx hb dX6_checksum_39 ?_
        refine lv_lstore_n (lv' := [(1, .long ((31 * (L_checksum B k)) + ((B (10 + k) 11).toInt64))), (4, .ref (gA g (jC 0 k))), (3, .int (nI k)), (0, .ref (gA g 0))]) hx hb dX6_checksum_40 rfl hl (by decide) rfl (fun ls hl => ?_)
        refine lv_ldc2 (v := 31) hx hb hc.2.2.1 (hc.2.2.2 _ q257) dX6_checksum_41 ?_
        refine lv_lload_n hx hb dX6_checksum_44 rfl (lv_at hl 0 rfl) ?_
        refine lv_lmul hx hb dX6_checksum_45 ?_
        refine lv_aload hx hb dX6_checksum_46 (lv_at hl 1 rfl) ?_
        refine lv_aload_n hx hb dX6_checksum_48 rfl (lv_at hl 3 rfl) ?_
        refine k_get hc hk hw at_G rfl iX6 0 (by decide) q238 (v := .ref (gA g (jB 0))) rfl dX6_checksum_49 ?_
        refine k_getN hc hk hw (bt_B (by decide : 0 < 2)) rfl iX0 5 (by decide) nq211 (v := .int (B 0 5)) rfl dX6_checksum_52 ?_
        refine kc_i hw (va_runVN (As := [.int (B 0 5)]) (rest := [.long (31 * ((31 * (L_checksum B k)) + ((B (10 + k) 11).toInt64)))]) ⟨hx, hb, hml, hc.2.2.1, hc.2.2.2⟩ (m_X1_daysBy l g S 0 B y (by decide : 0 < 2) k (Nat.lt_of_lt_of_le hkn (by omega)) (B 0 5)) ⟨kw_N hc hk 1 nq258 q4 q261 rfl rfl (by decide +kernel) ⟨Nat.le_of_ble_eq_true rfl, Nat.le_of_ble_eq_true rfl⟩, hc.2.2.2 _ q260, hc.2.2.2 _ qs0⟩ (kp_V hk hw (bt_C (by decide : 0 < 2) (Nat.lt_of_lt_of_le hkn (by omega))) rfl) rfl rfl hl.1 rfl (lv_room (Nat.le_of_ble_eq_true rfl)) dX6_checksum_55 ⟨Nat.le_of_ble_eq_true rfl, Nat.le_of_ble_eq_true rfl⟩) (fun H locs hw => ?_)
        refine lv_i2l hx hb dX6_checksum_58 rfl ?_
        refine lv_ladd hx hb dX6_checksum_59 ?_
        refine lv_lstore_n (lv' := [(1, .long ((31 * ((31 * (L_checksum B k)) + ((B (10 + k) 11).toInt64))) + ((f_X1_daysBy k (B 0 5) B).toInt64))), (4, .ref (gA g (jC 0 k))), (3, .int (nI k)), (0, .ref (gA g 0))]) hx hb dX6_checksum_60 rfl hl (by decide) rfl (fun ls hl => ?_)
        refine lv_iinc (v := nI (k + 1)) (lv' := [(3, .int (nI (k + 1))), (1, .long ((31 * ((31 * (L_checksum B k)) + ((B (10 + k) 11).toInt64))) + ((f_X1_daysBy k (B 0 5) B).toInt64))), (4, .ref (gA g (jC 0 k))), (0, .ref (gA g 0))]) hx hb dX6_checksum_61 hl (k := 2) rfl (by first | exact (nI_succ _).symm | rfl) (by decide) rfl (fun ls hl => ?_)
        refine lv_goto (tgt := 6) hx hb dX6_checksum_64 (by decide) ?_
        have hw9 : WS g s (xB S 0 B y) H locs := by
          exact hw
        have hl9 := lv_sub hl [0, 1, 3] rfl
        have e8 : (31 * ((31 * (L_checksum B k)) + ((B (10 + k) 11).toInt64))) + ((f_X1_daysBy k (B 0 5) B).toInt64) = (L_checksum B (k + 1)) := by simp only [L_checksum, b_checksum]
        rw [e8] at hl9
        exact ih (k + 1) (by omega) (by omega) _ _ hw9 _ hl9
  exact LP1 ((B 0 4).toNatClampNeg + 1) 0 (Nat.zero_le _) (by omega) _ _ hw _ (lv_sub hl [0, 1, 2] rfl)
def f_X6_heededShare (a1 : Int32) (B : BT) : UInt32 :=
  (if e_X6_requireOffice a1 B = none then (if B (4 + ((a1).toNatClampNeg)) 2 = 0 then 0 else FP.fdiv (FP.i2f (B (4 + ((a1).toNatClampNeg)) 3)) (FP.i2f (B (4 + ((a1).toNatClampNeg)) 2))) else 0)
def e_X6_heededShare (a1 : Int32) (B : BT) : Option String :=
  (if e_X6_requireOffice a1 B = none then (if B (4 + ((a1).toNatClampNeg)) 2 = 0 then some "java/lang/ArithmeticException" else none) else e_X6_requireOffice a1 B)
set_option maxHeartbeats 4000000 in
set_option maxRecDepth 100000 in
theorem m_X6_heededShare (l : Launch) (g : wG) (hfl : l.stackTraces = false) (S : Nat → BT) (B : BT) (y : (Nat → Nat → Int32) × (Nat → Int64) × (Nat → UInt64)) (a1 : Int32) (n m9 : Nat) (hN : CN B n m9) : xF l yX6_heededShare cX6_heededShare 3 (some .float) ({ frames := 7, cells := 2, slots := 12, locals := 121 } : Room) 2 12 g (xB S 0 B y) [.ref (gA g 0), .int a1] (e_X6_heededShare a1 B) (f_X6_heededShare a1 B) (xB S 0 B y) := by
  refine vx_ofW (cc := cX6_heededShare) (maxL := 3) (ret := some .float) (by decide) rfl ?_
  intro p9 e s m args below meth c s₁ BL hml hT hv
  obtain ⟨rfl, hk, hPB⟩ := hv
  have hx := BL.exec
  have hb := BL.bytes
  have hc : CX p9 c cX6_heededShare s _ m RX6 := ⟨hx, hb, findClass_of_methodNamed BL.named, fun w h => atoms_spec BL.pre w (List.mem_cons_of_mem _ h)⟩
  have hr := BL.returns
  have hlocks := BL.notSynchronized
  have hw : WS g s (xB S 0 B y) s.heap [] := ⟨hPB, va_S.rf⟩
  have hl := lv_entry ([.ref (gA g 0), .int a1]) (n := 3) (Nat.le_of_ble_eq_true rfl)
  rw [lg_entry_eq]
  generalize (lg_sl ([.ref (gA g 0), .int a1]) ++ List.replicate (3 - (lg_sl ([.ref (gA g 0), .int a1])).length) Slot.unset).toArray = ls at hl ⊢
  have hl : lv_has ls 3 [(0, .ref (gA g 0)), (1, .int a1)] := hl
  refine lv_aload_n hx hb dX6_heededShare_0 rfl (lv_at hl 0 rfl) ?_
  refine lv_iload_n hx hb dX6_heededShare_1 rfl (lv_at hl 1 rfl) ?_
  refine kx_v hw (vx_runV (As := [.int a1]) (rest := []) ⟨hx, hb, hml, hc.2.2.1, hc.2.2.2⟩ (m_X6_requireOffice l g hfl S B y a1 _ _ hN) (kw_V hc 1 q670 q672 qs45 q1 q673 rfl rfl (by decide +kernel) ⟨Nat.le_of_ble_eq_true rfl, Nat.le_of_ble_eq_true rfl⟩) (kp_V hk hw at_G rfl) rfl rfl hl.1 rfl (lv_room (Nat.le_of_ble_eq_true rfl)) dX6_heededShare_2 ⟨Nat.le_of_ble_eq_true rfl, Nat.le_of_ble_eq_true rfl⟩) (fun E ce q8 H locs h1 hw hq hv hE => ?_) (fun H locs h1 hw => ?_)
  · have hn : ¬ e_X6_requireOffice a1 B = none := by rw [h1]; exact Option.some_ne_none _
    exact k_out hT hlocks hw hq hv hE (Eq.trans (b := e_X6_requireOffice a1 B) (by simp only [e_X6_heededShare, if_neg hn]) h1) (Nat.le_of_ble_eq_true rfl) (Nat.le_of_ble_eq_true rfl)
  · obtain ⟨re1, re2⟩ := re_of h1
    refine lv_aload_n hx hb dX6_heededShare_5 rfl (lv_at hl 0 rfl) ?_
    refine k_get hc hk hw at_G rfl iX6 0 (by decide) q238 (v := .ref (gA g (jB 0))) rfl dX6_heededShare_6 ?_
    refine k_getN hc hk hw (bt_B (by decide : 0 < 2)) rfl iX0 0 (by decide) nq202 (v := .ref (gA g (jOs 0))) rfl dX6_heededShare_9 ?_
    refine lv_iload_n hx hb dX6_heededShare_12 rfl (lv_at hl 1 rfl) ?_
    refine k_ald (t0 := 6) (f := fun k => gA g (jO 0 k)) (n := ((a1).toNatClampNeg)) hc hk hw rfl (at_Os (by decide : 0 < 2)) (vinC re1 (i32_nle re2) hN.1 (by have := hN.2.2.1; omega) (by omega)).1 rfl dX6_heededShare_13 ?_
    refine lv_astore_n (lv' := [(2, .ref (gA g (jO 0 ((a1).toNatClampNeg)))), (0, .ref (gA g 0)), (1, .int a1)]) hx hb dX6_heededShare_14 rfl hl (by decide) rfl (fun ls hl => ?_)
    refine lv_aload_n hx hb dX6_heededShare_15 rfl (lv_at hl 0 rfl) ?_
    refine k_getN hc hk hw (bt_O (by decide : 0 < 2) (Nat.lt_of_lt_of_le (vinC re1 (i32_nle re2) hN.1 (Nat.le_refl _) (by have := hN.2.2.1; omega)).2 (by have := hN.2.2.1; omega))) rfl iX5 2 (by decide) nq54 (v := .int (B (4 + ((a1).toNatClampNeg)) 2)) rfl dX6_heededShare_16 ?_
    refine lv_if_ne (tgt := 32) hx hb dX6_heededShare_19 (by decide) (fun h3 => ?_) (fun h3 => ?_)
    · refine lv_aload_n hx hb dX6_heededShare_32 rfl (lv_at hl 0 rfl) ?_
      refine k_getN hc hk hw (bt_O (by decide : 0 < 2) (Nat.lt_of_lt_of_le (vinC re1 (i32_nle re2) hN.1 (Nat.le_refl _) (by have := hN.2.2.1; omega)).2 (by have := hN.2.2.1; omega))) rfl iX5 3 (by decide) nq57 (v := .int (B (4 + ((a1).toNatClampNeg)) 3)) rfl dX6_heededShare_33 ?_
      refine lv_i2f hx hb dX6_heededShare_36 ?_
      refine lv_aload_n hx hb dX6_heededShare_37 rfl (lv_at hl 0 rfl) ?_
      refine k_getN hc hk hw (bt_O (by decide : 0 < 2) (Nat.lt_of_lt_of_le (vinC re1 (i32_nle re2) hN.1 (Nat.le_refl _) (by have := hN.2.2.1; omega)).2 (by have := hN.2.2.1; omega))) rfl iX5 2 (by decide) nq54 (v := .int (B (4 + ((a1).toNatClampNeg)) 2)) rfl dX6_heededShare_38 ?_
      refine lv_i2f hx hb dX6_heededShare_41 ?_
      refine lv_fdiv hx hb dX6_heededShare_42 (fp_fdiv h3) ?_
      refine vx_ret ?_
      refine W.widen (k := 2) (n := 12) (Nat.le_of_ble_eq_true rfl) (Nat.le_of_ble_eq_true rfl) ?_
      exact W.fret (v := FP.fdiv (FP.i2f (B (4 + ((a1).toNatClampNeg)) 3)) (FP.i2f (B (4 + ((a1).toNatClampNeg)) 2))) hx hb hr (fun t9 ht hW => kz_f hw ht (by simp only [e_X6_heededShare, if_pos h1, if_neg re1, if_pos re2, if_neg h3]) (by simp only [f_X6_heededShare, if_pos h1, if_neg re1, if_pos re2, if_neg h3]) rfl) hw.2.2.2 dX6_heededShare_43
    · exact k_throwS (text := "no remedy was told") hc hk hw hfl hT hlocks hml hl (by decide) tw_224_228 (by decide) dX6_heededShare_22 dX6_heededShare_25 dX6_heededShare_26 dX6_heededShare_28 dX6_heededShare_31 (Nat.le_of_ble_eq_true rfl) (Nat.le_of_ble_eq_true rfl) (Nat.le_of_ble_eq_true rfl) (Nat.le_of_ble_eq_true rfl) (by simp only [e_X6_heededShare, if_pos h1, if_neg re1, if_pos re2, if_pos h3]) (Nat.le_of_ble_eq_true rfl) (Nat.le_of_ble_eq_true rfl)
def f_X6_meanDays  (B : BT) : UInt64 :=
  (if f_X0_countClosed B = 0 then 0 else FP.ddiv (FP.i2d (f_X0_sumOfClosedDays B)) (FP.i2d (f_X0_countClosed B)))
def e_X6_meanDays  (B : BT) : Option String :=
  (if f_X0_countClosed B = 0 then some "java/lang/ArithmeticException" else none)
set_option maxHeartbeats 4000000 in
set_option maxRecDepth 100000 in
theorem m_X6_meanDays (l : Launch) (g : wG) (hfl : l.stackTraces = false) (S : Nat → BT) (B : BT) (y : (Nat → Nat → Int32) × (Nat → Int64) × (Nat → UInt64)) (n m9 : Nat) (hN : CN B n m9) : xD l yX6_meanDays cX6_meanDays 2 (some .double) ({ frames := 6, cells := 1, slots := 6, locals := 133 } : Room) 1 6 g (xB S 0 B y) [.ref (gA g 0)] (e_X6_meanDays B) (f_X6_meanDays B) (xB S 0 B y) := by
  refine vx_ofW (cc := cX6_meanDays) (maxL := 2) (ret := some .double) (by decide) rfl ?_
  intro p9 e s m args below meth c s₁ BL hml hT hv
  obtain ⟨rfl, hk, hPB⟩ := hv
  have hx := BL.exec
  have hb := BL.bytes
  have hc : CX p9 c cX6_meanDays s _ m RX6 := ⟨hx, hb, findClass_of_methodNamed BL.named, fun w h => atoms_spec BL.pre w (List.mem_cons_of_mem _ h)⟩
  have hr := BL.returns
  have hlocks := BL.notSynchronized
  have hw : WS g s (xB S 0 B y) s.heap [] := ⟨hPB, va_S.rf⟩
  have hl := lv_entry ([.ref (gA g 0)]) (n := 2) (Nat.le_of_ble_eq_true rfl)
  rw [lg_entry_eq]
  generalize (lg_sl ([.ref (gA g 0)]) ++ List.replicate (2 - (lg_sl ([.ref (gA g 0)])).length) Slot.unset).toArray = ls at hl ⊢
  have hl : lv_has ls 2 [(0, .ref (gA g 0))] := hl
  refine lv_aload_n hx hb dX6_meanDays_0 rfl (lv_at hl 0 rfl) ?_
  refine k_get hc hk hw at_G rfl iX6 0 (by decide) q238 (v := .ref (gA g (jB 0))) rfl dX6_meanDays_1 ?_
  refine kc_i hw (va_runVN (As := []) (rest := []) ⟨hx, hb, hml, hc.2.2.1, hc.2.2.2⟩ (m_X0_countClosed l g S 0 B y (by decide : 0 < 2) _ _ hN) ⟨kw_N hc hk 0 nq937 q2 q940 rfl rfl (by decide +kernel) ⟨Nat.le_of_ble_eq_true rfl, Nat.le_of_ble_eq_true rfl⟩, hc.2.2.2 _ q939, hc.2.2.2 _ qs57⟩ (kp_V hk hw (bt_B (by decide : 0 < 2)) rfl) rfl rfl hl.1 rfl (lv_room (Nat.le_of_ble_eq_true rfl)) dX6_meanDays_4 ⟨Nat.le_of_ble_eq_true rfl, Nat.le_of_ble_eq_true rfl⟩) (fun H locs hw => ?_)
  refine lv_istore_n (lv' := [(1, .int (f_X0_countClosed B)), (0, .ref (gA g 0))]) hx hb dX6_meanDays_7 rfl hl (by decide) rfl (fun ls hl => ?_)
  refine lv_iload_n hx hb dX6_meanDays_8 rfl (lv_at hl 0 rfl) ?_
  refine lv_if_ne (tgt := 22) hx hb dX6_meanDays_9 (by decide) (fun h1 => ?_) (fun h1 => ?_)
  · refine lv_aload_n hx hb dX6_meanDays_22 rfl (lv_at hl 1 rfl) ?_
    refine k_get hc hk hw at_G rfl iX6 0 (by decide) q238 (v := .ref (gA g (jB 0))) rfl dX6_meanDays_23 ?_
    refine kc_i hw (va_runVN (As := []) (rest := []) ⟨hx, hb, hml, hc.2.2.1, hc.2.2.2⟩ (m_X0_sumOfClosedDays l g S 0 B y (by decide : 0 < 2) _ _ hN) ⟨kw_N hc hk 0 nq942 q2 q945 rfl rfl (by decide +kernel) ⟨Nat.le_of_ble_eq_true rfl, Nat.le_of_ble_eq_true rfl⟩, hc.2.2.2 _ q944, hc.2.2.2 _ qs58⟩ (kp_V hk hw (bt_B (by decide : 0 < 2)) rfl) rfl rfl hl.1 rfl (lv_room (Nat.le_of_ble_eq_true rfl)) dX6_meanDays_26 ⟨Nat.le_of_ble_eq_true rfl, Nat.le_of_ble_eq_true rfl⟩) (fun H locs hw => ?_)
    refine lv_i2d hx hb dX6_meanDays_29 ?_
    refine lv_iload_n hx hb dX6_meanDays_30 rfl (lv_at hl 0 rfl) ?_
    refine lv_i2d hx hb dX6_meanDays_31 ?_
    refine lv_ddiv hx hb dX6_meanDays_32 (fp_ddiv h1) ?_
    refine vx_ret ?_
    refine W.widen (k := 1) (n := 6) (Nat.le_of_ble_eq_true rfl) (Nat.le_of_ble_eq_true rfl) ?_
    exact W.dret (v := FP.ddiv (FP.i2d (f_X0_sumOfClosedDays B)) (FP.i2d (f_X0_countClosed B))) hx hb hr (fun t9 ht hW => kz_d hw ht (by simp only [e_X6_meanDays, if_neg h1]) (by simp only [f_X6_meanDays, if_neg h1]) rfl) hw.2.2.2 dX6_meanDays_33
  · exact k_throwS (text := "no complaint is closed") hc hk hw hfl hT hlocks hml hl (by decide) tw_224_228 (by decide) dX6_meanDays_12 dX6_meanDays_15 dX6_meanDays_16 dX6_meanDays_18 dX6_meanDays_21 (Nat.le_of_ble_eq_true rfl) (Nat.le_of_ble_eq_true rfl) (Nat.le_of_ble_eq_true rfl) (Nat.le_of_ble_eq_true rfl) (by simp only [e_X6_meanDays, if_pos h1]) (Nat.le_of_ble_eq_true rfl) (Nat.le_of_ble_eq_true rfl)
def f_X6_isSound  (S : Nat → BT) : Int32 :=
  (if f_X0_isOrderly (S 0) = 0 then 0 else (if f_X0_matches (va_up S 1 (f_X2_tellAgain S (S 1))) = 0 then 0 else 1))
set_option maxHeartbeats 4000000 in
set_option maxRecDepth 100000 in
theorem m_X6_isSound (l : Launch) (g : wG) (S : Nat → BT) (y : (Nat → Nat → Int32) × (Nat → Int64) × (Nat → UInt64)) (n m9 : Nat) (hN0 : CN (S 0) n m9) (n1 m1 : Nat) (hN1 : CN (S 1) n1 m1) (hev : ¬ S 2 0 1 < 0) (hev2 : (S 2 0 1).toNatClampNeg ≤ 512) : mI l yX6_isSound cX6_isSound 1 (some .boolean) ({ frames := 10, cells := 0, slots := 0, locals := 232 } : Room) 0 0 g (S, y) [.ref (gA g 0)] (f_X6_isSound S) ((va_up S 1 (f_X2_tellAgain S (S 1))), y) := by
  refine Met.ofW (cc := cX6_isSound) (maxL := 1) (ret := some .boolean) (by decide) rfl ?_
  intro p9 e s m args below meth c s₁ BL hml hv
  obtain ⟨rfl, hk, hPB⟩ := hv
  have hx := BL.exec
  have hb := BL.bytes
  have hc : CX p9 c cX6_isSound s _ m RX6 := ⟨hx, hb, findClass_of_methodNamed BL.named, fun w h => atoms_spec BL.pre w (List.mem_cons_of_mem _ h)⟩
  have hr := BL.returns
  have hlocks := BL.notSynchronized
  have hw : WS g s (S, y) s.heap [] := ⟨hPB, va_S.rf⟩
  have hl := lv_entry ([.ref (gA g 0)]) (n := 1) (Nat.le_of_ble_eq_true rfl)
  rw [lg_entry_eq]
  generalize (lg_sl ([.ref (gA g 0)]) ++ List.replicate (1 - (lg_sl ([.ref (gA g 0)])).length) Slot.unset).toArray = ls at hl ⊢
  have hl : lv_has ls 1 [(0, .ref (gA g 0))] := hl
  refine lv_aload_n hx hb dX6_isSound_0 rfl (lv_at hl 0 rfl) ?_
  refine k_get hc hk hw at_G rfl iX6 2 (by decide) q240 (v := .ref (gA g 1)) rfl dX6_isSound_1 ?_
  refine lv_aload_n hx hb dX6_isSound_4 rfl (lv_at hl 0 rfl) ?_
  refine k_get hc hk hw at_G rfl iX6 1 (by decide) q239 (v := .ref (gA g (jB 1))) rfl dX6_isSound_5 ?_
  rw [← xB_one (S := S) (y := y)] at hw
  refine kc_v hw (va_runVN (As := [.ref (gA g (jB 1))]) (rest := []) ⟨hx, hb, hml, hc.2.2.1, hc.2.2.2⟩ (m_X2_tellAgain l g S (S 1) y _ _ hN1 hev hev2) ⟨kw_N hc hk 1 nq266 q7 q269 rfl rfl (by decide +kernel) ⟨Nat.le_of_ble_eq_true rfl, Nat.le_of_ble_eq_true rfl⟩, hc.2.2.2 _ q268, hc.2.2.2 _ qs1⟩ (kp_V hk hw at_E rfl) rfl rfl hl.1 rfl (lv_room (Nat.le_of_ble_eq_true rfl)) dX6_isSound_8 ⟨Nat.le_of_ble_eq_true rfl, Nat.le_of_ble_eq_true rfl⟩) (fun H locs hw => ?_)
  refine lv_aload_n hx hb dX6_isSound_11 rfl (lv_at hl 0 rfl) ?_
  refine k_get hc hk hw at_G rfl iX6 0 (by decide) q238 (v := .ref (gA g (jB 0))) rfl dX6_isSound_12 ?_
  rw [← xB_at0 (S := S) (C := f_X2_tellAgain S (S 1)) (y := y)] at hw
  refine kc_i hw (va_runVN (As := []) (rest := []) ⟨hx, hb, hml, hc.2.2.1, hc.2.2.2⟩ (m_X0_isOrderly l g (va_up S 1 (f_X2_tellAgain S (S 1))) 0 (S 0) y (by decide : 0 < 2) _ _ hN0) ⟨kw_N hc hk 0 nq476 q2 q479 rfl rfl (by decide +kernel) ⟨Nat.le_of_ble_eq_true rfl, Nat.le_of_ble_eq_true rfl⟩, hc.2.2.2 _ q478, hc.2.2.2 _ qs30⟩ (kp_V hk hw (bt_B (by decide : 0 < 2)) rfl) rfl rfl hl.1 rfl (lv_room (Nat.le_of_ble_eq_true rfl)) dX6_isSound_15 ⟨Nat.le_of_ble_eq_true rfl, Nat.le_of_ble_eq_true rfl⟩) (fun H locs hw => ?_)
  rw [xB_at0] at hw
  refine lv_if_eq (tgt := 39) hx hb dX6_isSound_18 (by decide) (fun h1 => ?_) (fun h1 => ?_)
  · refine lv_iconst (v := 0) hx hb dX6_isSound_39 (by decide) ?_
    exact W.zret (v := 0) hx hb hr (by decide +kernel) (fun t9 ht hW => ke_i hw ht (by simp only [f_X6_isSound, if_pos h1]) rfl) hw.2.2.2 dX6_isSound_40
  · refine lv_aload_n hx hb dX6_isSound_21 rfl (lv_at hl 0 rfl) ?_
    refine k_get hc hk hw at_G rfl iX6 0 (by decide) q238 (v := .ref (gA g (jB 0))) rfl dX6_isSound_22 ?_
    refine lv_aload_n hx hb dX6_isSound_25 rfl (lv_at hl 0 rfl) ?_
    refine k_get hc hk hw at_G rfl iX6 1 (by decide) q239 (v := .ref (gA g (jB 1))) rfl dX6_isSound_26 ?_
    refine kc_i hw (va_runVN (As := [.ref (gA g (jB 1))]) (rest := []) ⟨hx, hb, hml, hc.2.2.1, hc.2.2.2⟩ (m_X0_matches l g (va_up S 1 (f_X2_tellAgain S (S 1))) y _ _ hN0) ⟨kw_N hc hk 1 nq489 q2 q492 rfl rfl (by decide +kernel) ⟨Nat.le_of_ble_eq_true rfl, Nat.le_of_ble_eq_true rfl⟩, hc.2.2.2 _ q491, hc.2.2.2 _ qs32⟩ (kp_V hk hw (at_B (by decide : 0 < 2)) rfl) rfl rfl hl.1 rfl (lv_room (Nat.le_of_ble_eq_true rfl)) dX6_isSound_29 ⟨Nat.le_of_ble_eq_true rfl, Nat.le_of_ble_eq_true rfl⟩) (fun H locs hw => ?_)
    refine lv_if_eq (tgt := 39) hx hb dX6_isSound_32 (by decide) (fun h2 => ?_) (fun h2 => ?_)
    · refine lv_iconst (v := 0) hx hb dX6_isSound_39 (by decide) ?_
      exact W.zret (v := 0) hx hb hr (by decide +kernel) (fun t9 ht hW => ke_i hw ht (by simp only [f_X6_isSound, if_neg h1, if_pos h2]) rfl) hw.2.2.2 dX6_isSound_40
    · refine lv_iconst (v := 1) hx hb dX6_isSound_35 (by decide) ?_
      refine lv_goto (tgt := 40) hx hb dX6_isSound_36 (by decide) ?_
      exact W.zret (v := 1) hx hb hr (by decide +kernel) (fun t9 ht hW => ke_i hw ht (by simp only [f_X6_isSound, if_neg h1, if_neg h2]) rfl) hw.2.2.2 dX6_isSound_40
