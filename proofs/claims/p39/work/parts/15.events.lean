/-! the events -/
theorem CN.add3 {B : BT} {n m : Nat} (h : CN B n m) (hn : n < 6) : CN (up2 B 0 3 (B 0 3 + 1)) (n + 1) m := by
  obtain ⟨h1, h2, h3, h4, h5⟩ := h
  exact ⟨by simp only [up2, if_true]; rw [h1, nI_1], by simp [up2, h2], hn, h4, h5.up (Or.inr (Or.inl (by decide)))⟩
theorem CN.add4 {B : BT} {n m : Nat} (h : CN B n m) (hm : m < 20) : CN (up2 B 0 4 (B 0 4 + 1)) n (m + 1) := by
  obtain ⟨h1, h2, h3, h4, h5⟩ := h
  exact ⟨by simp [up2, h1], by simp only [up2, if_true]; rw [h2, nI_1], h3, hm, h5.up (Or.inr (Or.inl (by decide)))⟩
theorem CN.lt3 {B : BT} {n m : Nat} (h : CN B n m) (h1 : B 0 3 < 6) : n < 6 := by
  have := (h.i3 h1).2
  have h3 := h.2.2.1
  rw [h.1, nI_clamp (by omega)] at this
  exact this
theorem CN.lt4 {B : BT} {n m : Nat} (h : CN B n m) (h1 : B 0 4 < 20) : m < 20 := by
  have := (h.i4 h1).2
  have h3 := h.2.2.2.1
  rw [h.2.1, nI_clamp (by omega)] at this
  exact this
theorem cnx_X0_openOffice {a1 a2 : Int32} {B : BT} {n m9 : Nat} (hN : CN B n m9) : ∃ n1 m1, CN (f_X0_openOffice a1 a2 B).2 n1 m1 := by
  unfold f_X0_openOffice
  by_cases h : B 0 3 < 6
  · rw [if_pos h]
    exact ⟨_, _, CN.add3 (cn_X5_begin hN) (hN.lt3 h)⟩
  · rw [if_neg h]
    exact ⟨_, _, hN⟩
theorem cnx_X0_hear {a1 a2 a3 a4 : Int32} {B : BT} {n m9 : Nat} (hN : CN B n m9) : ∃ n1 m1, CN (f_X0_hear a1 a2 a3 a4 B).2 n1 m1 := by
  unfold f_X0_hear
  by_cases h1 : a1 < 0
  · rw [if_pos h1]; exact ⟨_, _, hN⟩
  · rw [if_neg h1]
    by_cases h2 : B 0 3 ≤ a1
    · rw [if_pos h2]; exact ⟨_, _, hN⟩
    · rw [if_neg h2]
      by_cases h : B 0 4 < 20
      · rw [if_pos h]
        exact ⟨_, _, CN.add4 (cn_X1_begin hN) (hN.lt4 h)⟩
      · rw [if_neg h]
        exact ⟨_, _, hN⟩
theorem cnx_X0_apply {a1 a2 a3 a4 a5 : Int32} {B : BT} {n m9 : Nat} (hN : CN B n m9) : ∃ n1 m1, CN (f_X0_apply a1 a2 a3 a4 a5 B).2 n1 m1 := by
  unfold f_X0_apply
  by_cases h1 : a1 = 1
  · rw [if_pos h1]; exact cnx_X0_openOffice hN
  · rw [if_neg h1]
    by_cases h2 : a1 = 2
    · rw [if_pos h2]; exact ⟨_, _, CN.up5 hN⟩
    · rw [if_neg h2]
      by_cases h3 : a1 = 3
      · rw [if_pos h3]; exact ⟨_, _, cn_X0_weigh hN⟩
      · rw [if_neg h3]
        by_cases h4 : a1 = 4
        · rw [if_pos h4]; exact cnx_X0_hear hN
        · rw [if_neg h4]
          by_cases h5 : a2 < 0
          · rw [if_pos h5]; exact ⟨_, _, hN⟩
          · rw [if_neg h5]
            by_cases h6 : a2 < B 0 4
            · rw [if_pos h6]
              by_cases h7 : 8 < a1
              · rw [if_pos h7]; exact ⟨_, _, cn_X0_applyToCase hN⟩
              · rw [if_neg h7]; exact ⟨_, _, cn_X0_applyAtIntake hN⟩
            · rw [if_neg h6]; exact ⟨_, _, hN⟩
theorem cn_L_open {B : BT} {n m9 : Nat} (hN : CN B n m9) : ∀ k, CN (L_open B k) 0 0 := by
  intro k
  induction k with
  | zero => exact ⟨by simp [L_open, up2]; rfl, by simp [L_open, up2]; rfl, by omega, by omega, ((hN.2.2.2.2.up (Or.inr (Or.inl (by decide)))).up (Or.inr (Or.inl (by decide)))).up (Or.inr (Or.inl (by decide)))⟩
  | succ k ih => exact CN.upw ih
theorem cn_X0_open {B : BT} {n m9 : Nat} (hN : CN B n m9) : CN (f_X0_open B) 0 0 := cn_L_open hN 5

def f_X2_keep (a1 : Int32) (a2 : Int32) (a3 : Int32) (a4 : Int32) (a5 : Int32) (S : Nat → BT) : Nat → BT :=
  (if S 2 0 1 < 512 then (ups3 (ups3 (ups3 (ups3 (ups3 (ups3 S 1 ((S 2 0 1).toNatClampNeg * 5 + 0) a1) 1 ((S 2 0 1).toNatClampNeg * 5 + 1) a2) 1 ((S 2 0 1).toNatClampNeg * 5 + 2) a3) 1 ((S 2 0 1).toNatClampNeg * 5 + 3) a4) 1 ((S 2 0 1).toNatClampNeg * 5 + 4) a5) 0 1 (((ups3 (ups3 (ups3 (ups3 (ups3 S 1 ((S 2 0 1).toNatClampNeg * 5 + 0) a1) 1 ((S 2 0 1).toNatClampNeg * 5 + 1) a2) 1 ((S 2 0 1).toNatClampNeg * 5 + 2) a3) 1 ((S 2 0 1).toNatClampNeg * 5 + 3) a4) 1 ((S 2 0 1).toNatClampNeg * 5 + 4) a5) 2 0 1) + 1)) else S)
set_option maxHeartbeats 4000000 in
set_option maxRecDepth 100000 in
theorem m_X2_keep (l : Launch) (g : wG) (S : Nat → BT) (y : (Nat → Nat → Int32) × (Nat → Int64) × (Nat → UInt64)) (a1 : Int32) (a2 : Int32) (a3 : Int32) (a4 : Int32) (a5 : Int32) (hev : ¬ S 2 0 1 < 0) : mV l yX2_keep cX2_keep 7 ({ frames := 0, cells := 0, slots := 0, locals := 0 } : Room) 0 0 g (S, y) [.ref (gA g 1), .int a1, .int a2, .int a3, .int a4, .int a5] (f_X2_keep a1 a2 a3 a4 a5 S, y) := by
  refine Met.ofW (cc := cX2_keep) (maxL := 7) (ret := none) (by decide) rfl ?_
  intro p9 e s m args below meth c s₁ BL hml hv
  obtain ⟨rfl, hk, hPB⟩ := hv
  have hx := BL.exec
  have hb := BL.bytes
  have hc : CX p9 c cX2_keep s _ m RX2 := ⟨hx, hb, findClass_of_methodNamed BL.named, fun w h => atoms_spec BL.pre w (List.mem_cons_of_mem _ h)⟩
  have hr := BL.returns
  have hlocks := BL.notSynchronized
  have hw : WS g s (S, y) s.heap [] := ⟨hPB, va_S.rf⟩
  have hl := lv_entry ([.ref (gA g 1), .int a1, .int a2, .int a3, .int a4, .int a5]) (n := 7) (Nat.le_of_ble_eq_true rfl)
  rw [lg_entry_eq]
  generalize (lg_sl ([.ref (gA g 1), .int a1, .int a2, .int a3, .int a4, .int a5]) ++ List.replicate (7 - (lg_sl ([.ref (gA g 1), .int a1, .int a2, .int a3, .int a4, .int a5])).length) Slot.unset).toArray = ls at hl ⊢
  have hl : lv_has ls 7 [(0, .ref (gA g 1)), (1, .int a1), (2, .int a2), (3, .int a3), (4, .int a4), (5, .int a5)] := hl
  refine lv_aload_n hx hb dX2_keep_0 rfl (lv_at hl 0 rfl) ?_
  refine k_get hc hk hw at_E rfl iX2 1 (by decide) q232 (v := .int (S 2 0 1)) rfl dX2_keep_1 ?_
  refine lv_sipush (v := 512) hx hb dX2_keep_4 (by decide) ?_
  refine lv_icmp_lt (tgt := 11) hx hb dX2_keep_7 (by decide) (fun h1 => ?_) (fun h1 => ?_)
  · refine lv_aload_n hx hb dX2_keep_11 rfl (lv_at hl 0 rfl) ?_
    refine k_get hc hk hw at_E rfl iX2 1 (by decide) q232 (v := .int (S 2 0 1)) rfl dX2_keep_12 ?_
    refine lv_iconst (v := 5) hx hb dX2_keep_15 (by decide) ?_
    refine lv_imul hx hb dX2_keep_16 ?_
    refine lv_istore (lv' := [(6, .int ((S 2 0 1) * 5)), (0, .ref (gA g 1)), (1, .int a1), (2, .int a2), (3, .int a3), (4, .int a4), (5, .int a5)]) hx hb dX2_keep_17 hl (by decide) rfl (fun ls hl => ?_)
    refine lv_aload_n hx hb dX2_keep_19 rfl (lv_at hl 1 rfl) ?_
    refine k_get hc hk hw at_E rfl iX2 0 (by decide) q231 (v := .ref (gA g 2)) rfl dX2_keep_20 ?_
    refine lv_iload hx hb dX2_keep_23 (lv_at hl 0 rfl) ?_
    refine lv_iload_n hx hb dX2_keep_25 rfl (lv_at hl 2 rfl) ?_
    refine k_iast (x' := ((ups3 S 1 ((S 2 0 1).toNatClampNeg * 5 + 0) a1), y)) (f := S 2 1) (n := ((S 2 0 1).toNatClampNeg * 5 + 0)) hc hk hw at_R (ev_at (q := (S 2 0 1).toNatClampNeg) (j := 0) (nat_of hev) (ev_lt hev h1) (by decide) (i32_p0 _)).1 (ev_at (q := (S 2 0 1).toNatClampNeg) (j := 0) (nat_of hev) (ev_lt hev h1) (by decide) (i32_p0 _)).2 dX2_keep_26 es_R (fun H locs hw => ?_)
    refine lv_aload_n hx hb dX2_keep_27 rfl (lv_at hl 1 rfl) ?_
    refine k_get hc hk hw at_E rfl iX2 0 (by decide) q231 (v := .ref (gA g 2)) rfl dX2_keep_28 ?_
    refine lv_iload hx hb dX2_keep_31 (lv_at hl 0 rfl) ?_
    refine lv_iconst (v := 1) hx hb dX2_keep_33 (by decide) ?_
    refine lv_iadd hx hb dX2_keep_34 ?_
    refine lv_iload_n hx hb dX2_keep_35 rfl (lv_at hl 3 rfl) ?_
    refine k_iast (x' := ((ups3 (ups3 S 1 ((S 2 0 1).toNatClampNeg * 5 + 0) a1) 1 ((S 2 0 1).toNatClampNeg * 5 + 1) a2), y)) (f := (ups3 S 1 ((S 2 0 1).toNatClampNeg * 5 + 0) a1) 2 1) (n := ((S 2 0 1).toNatClampNeg * 5 + 1)) hc hk hw at_R (ev_at (q := (S 2 0 1).toNatClampNeg) (j := 1) (nat_of hev) (ev_lt hev h1) (by decide) rfl).1 (ev_at (q := (S 2 0 1).toNatClampNeg) (j := 1) (nat_of hev) (ev_lt hev h1) (by decide) rfl).2 dX2_keep_36 es_R (fun H locs hw => ?_)
    refine lv_aload_n hx hb dX2_keep_37 rfl (lv_at hl 1 rfl) ?_
    refine k_get hc hk hw at_E rfl iX2 0 (by decide) q231 (v := .ref (gA g 2)) rfl dX2_keep_38 ?_
    refine lv_iload hx hb dX2_keep_41 (lv_at hl 0 rfl) ?_
    refine lv_iconst (v := 2) hx hb dX2_keep_43 (by decide) ?_
    refine lv_iadd hx hb dX2_keep_44 ?_
    refine lv_iload_n hx hb dX2_keep_45 rfl (lv_at hl 4 rfl) ?_
    refine k_iast (x' := ((ups3 (ups3 (ups3 S 1 ((S 2 0 1).toNatClampNeg * 5 + 0) a1) 1 ((S 2 0 1).toNatClampNeg * 5 + 1) a2) 1 ((S 2 0 1).toNatClampNeg * 5 + 2) a3), y)) (f := (ups3 (ups3 S 1 ((S 2 0 1).toNatClampNeg * 5 + 0) a1) 1 ((S 2 0 1).toNatClampNeg * 5 + 1) a2) 2 1) (n := ((S 2 0 1).toNatClampNeg * 5 + 2)) hc hk hw at_R (ev_at (q := (S 2 0 1).toNatClampNeg) (j := 2) (nat_of hev) (ev_lt hev h1) (by decide) rfl).1 (ev_at (q := (S 2 0 1).toNatClampNeg) (j := 2) (nat_of hev) (ev_lt hev h1) (by decide) rfl).2 dX2_keep_46 es_R (fun H locs hw => ?_)
    refine lv_aload_n hx hb dX2_keep_47 rfl (lv_at hl 1 rfl) ?_
    refine k_get hc hk hw at_E rfl iX2 0 (by decide) q231 (v := .ref (gA g 2)) rfl dX2_keep_48 ?_
    refine lv_iload hx hb dX2_keep_51 (lv_at hl 0 rfl) ?_
    refine lv_iconst (v := 3) hx hb dX2_keep_53 (by decide) ?_
    refine lv_iadd hx hb dX2_keep_54 ?_
    refine lv_iload hx hb dX2_keep_55 (lv_at hl 5 rfl) ?_
    refine k_iast (x' := ((ups3 (ups3 (ups3 (ups3 S 1 ((S 2 0 1).toNatClampNeg * 5 + 0) a1) 1 ((S 2 0 1).toNatClampNeg * 5 + 1) a2) 1 ((S 2 0 1).toNatClampNeg * 5 + 2) a3) 1 ((S 2 0 1).toNatClampNeg * 5 + 3) a4), y)) (f := (ups3 (ups3 (ups3 S 1 ((S 2 0 1).toNatClampNeg * 5 + 0) a1) 1 ((S 2 0 1).toNatClampNeg * 5 + 1) a2) 1 ((S 2 0 1).toNatClampNeg * 5 + 2) a3) 2 1) (n := ((S 2 0 1).toNatClampNeg * 5 + 3)) hc hk hw at_R (ev_at (q := (S 2 0 1).toNatClampNeg) (j := 3) (nat_of hev) (ev_lt hev h1) (by decide) rfl).1 (ev_at (q := (S 2 0 1).toNatClampNeg) (j := 3) (nat_of hev) (ev_lt hev h1) (by decide) rfl).2 dX2_keep_57 es_R (fun H locs hw => ?_)
    refine lv_aload_n hx hb dX2_keep_58 rfl (lv_at hl 1 rfl) ?_
    refine k_get hc hk hw at_E rfl iX2 0 (by decide) q231 (v := .ref (gA g 2)) rfl dX2_keep_59 ?_
    refine lv_iload hx hb dX2_keep_62 (lv_at hl 0 rfl) ?_
    refine lv_iconst (v := 4) hx hb dX2_keep_64 (by decide) ?_
    refine lv_iadd hx hb dX2_keep_65 ?_
    refine lv_iload hx hb dX2_keep_66 (lv_at hl 6 rfl) ?_
    refine k_iast (x' := ((ups3 (ups3 (ups3 (ups3 (ups3 S 1 ((S 2 0 1).toNatClampNeg * 5 + 0) a1) 1 ((S 2 0 1).toNatClampNeg * 5 + 1) a2) 1 ((S 2 0 1).toNatClampNeg * 5 + 2) a3) 1 ((S 2 0 1).toNatClampNeg * 5 + 3) a4) 1 ((S 2 0 1).toNatClampNeg * 5 + 4) a5), y)) (f := (ups3 (ups3 (ups3 (ups3 S 1 ((S 2 0 1).toNatClampNeg * 5 + 0) a1) 1 ((S 2 0 1).toNatClampNeg * 5 + 1) a2) 1 ((S 2 0 1).toNatClampNeg * 5 + 2) a3) 1 ((S 2 0 1).toNatClampNeg * 5 + 3) a4) 2 1) (n := ((S 2 0 1).toNatClampNeg * 5 + 4)) hc hk hw at_R (ev_at (q := (S 2 0 1).toNatClampNeg) (j := 4) (nat_of hev) (ev_lt hev h1) (by decide) rfl).1 (ev_at (q := (S 2 0 1).toNatClampNeg) (j := 4) (nat_of hev) (ev_lt hev h1) (by decide) rfl).2 dX2_keep_68 es_R (fun H locs hw => ?_)
    refine lv_aload_n hx hb dX2_keep_69 rfl (lv_at hl 1 rfl) ?_
    refine lv_dup hx hb dX2_keep_70 rfl ?_
    refine k_get hc hk hw at_E rfl iX2 1 (by decide) q232 (v := .int ((ups3 (ups3 (ups3 (ups3 (ups3 S 1 ((S 2 0 1).toNatClampNeg * 5 + 0) a1) 1 ((S 2 0 1).toNatClampNeg * 5 + 1) a2) 1 ((S 2 0 1).toNatClampNeg * 5 + 2) a3) 1 ((S 2 0 1).toNatClampNeg * 5 + 3) a4) 1 ((S 2 0 1).toNatClampNeg * 5 + 4) a5) 2 0 1)) rfl dX2_keep_71 ?_
    refine lv_iconst (v := 1) hx hb dX2_keep_74 (by decide) ?_
    refine lv_iadd hx hb dX2_keep_75 ?_
    refine k_put hc hk hw (x' := ((ups3 (ups3 (ups3 (ups3 (ups3 (ups3 S 1 ((S 2 0 1).toNatClampNeg * 5 + 0) a1) 1 ((S 2 0 1).toNatClampNeg * 5 + 1) a2) 1 ((S 2 0 1).toNatClampNeg * 5 + 2) a3) 1 ((S 2 0 1).toNatClampNeg * 5 + 3) a4) 1 ((S 2 0 1).toNatClampNeg * 5 + 4) a5) 0 1 (((ups3 (ups3 (ups3 (ups3 (ups3 S 1 ((S 2 0 1).toNatClampNeg * 5 + 0) a1) 1 ((S 2 0 1).toNatClampNeg * 5 + 1) a2) 1 ((S 2 0 1).toNatClampNeg * 5 + 2) a3) 1 ((S 2 0 1).toNatClampNeg * 5 + 3) a4) 1 ((S 2 0 1).toNatClampNeg * 5 + 4) a5) 2 0 1) + 1)), y)) at_E rfl iX2 tyX2 tyX2_ok nmX2 1 (by decide) q232 rfl rfl rfl (Nat.le_of_ble_eq_true rfl) dX2_keep_76 es_E (fun H locs hw => ?_)
    exact W.vret hx hb hr (fun t9 ht hW => ke_v hw ht (by simp only [f_X2_keep, if_pos h1])) hw.2.2.2 dX2_keep_79
  · exact W.vret hx hb hr (fun t9 ht hW => ke_v hw ht (by simp only [f_X2_keep, if_neg h1])) hw.2.2.2 dX2_keep_10
def b_tellAgain (S : Nat → BT) (B : BT) (k : Nat) (z : BT) : BT :=
  (f_X0_apply (S 2 1 (k * 5 + 0)) (S 2 1 (k * 5 + 1)) (S 2 1 (k * 5 + 2)) (S 2 1 (k * 5 + 3)) (S 2 1 (k * 5 + 4)) z).2
def L_tellAgain (S : Nat → BT) (B : BT) : Nat → BT
  | 0 => f_X0_open B
  | k + 1 => b_tellAgain S B k (L_tellAgain S B k)
theorem cnx_tellAgain {B : BT} {n m9 : Nat} (hN : CN B n m9) (S : Nat → BT) : ∀ k, ∃ n1 m1, CN (L_tellAgain S B k) n1 m1 := by
  intro k
  induction k with
  | zero => exact ⟨0, 0, cn_X0_open hN⟩
  | succ k ih =>
    obtain ⟨n1, m1, h⟩ := ih
    exact cnx_X0_apply h
def f_X2_tellAgain (S : Nat → BT) (B : BT) : BT :=
  (L_tellAgain S B ((S 2 0 1).toNatClampNeg))
set_option maxHeartbeats 4000000 in
set_option maxRecDepth 100000 in
theorem m_X2_tellAgain (l : Launch) (g : wG) (S : Nat → BT) (B : BT) (y : (Nat → Nat → Int32) × (Nat → Int64) × (Nat → UInt64)) (n m9 : Nat) (hN : CN B n m9) (hev : ¬ S 2 0 1 < 0) (hev2 : (S 2 0 1).toNatClampNeg ≤ 512) : mV l yX2_tellAgain cX2_tellAgain 4 ({ frames := 9, cells := 0, slots := 0, locals := 209 } : Room) 0 0 g (xB S 1 B y) [.ref (gA g 1), .ref (gA g (jB 1))] (xB S 1 (f_X2_tellAgain S B) y) := by
  refine Met.ofW (cc := cX2_tellAgain) (maxL := 4) (ret := none) (by decide) rfl ?_
  intro p9 e s m args below meth c s₁ BL hml hv
  obtain ⟨rfl, hk, hPB⟩ := hv
  have hx := BL.exec
  have hb := BL.bytes
  have hc : CX p9 c cX2_tellAgain s _ m RX2 := ⟨hx, hb, findClass_of_methodNamed BL.named, fun w h => atoms_spec BL.pre w (List.mem_cons_of_mem _ h)⟩
  have hr := BL.returns
  have hlocks := BL.notSynchronized
  have hw : WS g s (xB S 1 B y) s.heap [] := ⟨hPB, va_S.rf⟩
  have hl := lv_entry ([.ref (gA g 1), .ref (gA g (jB 1))]) (n := 4) (Nat.le_of_ble_eq_true rfl)
  rw [lg_entry_eq]
  generalize (lg_sl ([.ref (gA g 1), .ref (gA g (jB 1))]) ++ List.replicate (4 - (lg_sl ([.ref (gA g 1), .ref (gA g (jB 1))])).length) Slot.unset).toArray = ls at hl ⊢
  have hl : lv_has ls 4 [(0, .ref (gA g 1)), (1, .ref (gA g (jB 1)))] := hl
  refine lv_aload_n hx hb dX2_tellAgain_0 rfl (lv_at hl 1 rfl) ?_
  refine kc_v hw (va_runVN (As := []) (rest := []) ⟨hx, hb, hml, hc.2.2.1, hc.2.2.2⟩ (m_X0_open l g S 1 B y (by decide : 1 < 2)) ⟨kw_N hc hk 0 nq270 q2 q273 rfl rfl (by decide +kernel) ⟨Nat.le_of_ble_eq_true rfl, Nat.le_of_ble_eq_true rfl⟩, hc.2.2.2 _ q272, hc.2.2.2 _ qs2⟩ (kp_V hk hw (bt_B (by decide : 1 < 2)) rfl) rfl rfl hl.1 rfl (lv_room (Nat.le_of_ble_eq_true rfl)) dX2_tellAgain_1 ⟨Nat.le_of_ble_eq_true rfl, Nat.le_of_ble_eq_true rfl⟩) (fun H locs hw => ?_)
  refine lv_iconst (v := 0) hx hb dX2_tellAgain_4 (by decide) ?_
  refine lv_istore_n (lv' := [(2, .int 0), (0, .ref (gA g 1)), (1, .ref (gA g (jB 1)))]) hx hb dX2_tellAgain_5 rfl hl (by decide) rfl (fun ls hl => ?_)
  have LP1 : ∀ (f k : Nat), k ≤ (S 2 0 1).toNatClampNeg → (S 2 0 1).toNatClampNeg + 1 ≤ k + f → ∀ (H : Heap) (locs : List Loc), WS g s (xB S 1 (L_tellAgain S B k) y) H locs → ∀ (ls : Array Slot), lv_has ls 4 [(2, .int (nI k)), (0, .ref (gA g 1)), (1, .ref (gA g (jB 1)))] → W p9 l e ({ frames := 9, cells := 0, slots := 0, locals := 209 } : Room) s m ([.ref (gA g 1), .ref (gA g (jB 1))] : List Value).toArray below meth c H locs 0 0 (MQ below (va_Qv (fun (u : wSt) => u = (xB S 1 (f_X2_tellAgain S B) y)) (PB g) (AA g)) (([.ref (gA g 1), .ref (gA g (jB 1))] : List Value).toArray) s 0 0 (AA g)) (F0 m 6 ls []) := by
    intro f
    induction f with
    | zero => intro k h1 h2; exact absurd h2 (by omega)
    | succ f ih =>
      intro k hk9 hf9 H locs hw ls hl
      obtain ⟨n1, m1, hN1⟩ := cnx_tellAgain hN S k
      refine lv_iload_n hx hb dX2_tellAgain_6 rfl (lv_at hl 0 rfl) ?_
      refine lv_aload_n hx hb dX2_tellAgain_7 rfl (lv_at hl 1 rfl) ?_
      refine k_get hc hk hw at_E rfl iX2 1 (by decide) q232 (v := .int (S 2 0 1)) rfl dX2_tellAgain_8 ?_
      refine lv_icmp_ge (tgt := 67) hx hb dX2_tellAgain_11 (by decide) (fun h2 => ?_) (fun h2 => ?_)
      · have hkn := lp_out h2 (nat_of hev) hk9 (by omega)
        subst hkn
        exact W.vret hx hb hr (fun t9 ht hW => ke_v hw ht (by simp only [f_X2_tellAgain])) hw.2.2.2 dX2_tellAgain_67
      · have hkn := lp_in h2 (nat_of hev) hk9 (by omega)
        refine lv_iload_n hx hb dX2_tellAgain_14 rfl (lv_at hl 0 rfl) ?_
        refine lv_iconst (v := 5) hx hb dX2_tellAgain_15 (by decide) ?_
        refine lv_imul hx hb dX2_tellAgain_16 ?_
        refine lv_istore_n (lv' := [(3, .int ((nI k) * 5)), (2, .int (nI k)), (0, .ref (gA g 1)), (1, .ref (gA g (jB 1)))]) hx hb dX2_tellAgain_17 rfl hl (by decide) rfl (fun ls hl => ?_)
        refine lv_aload_n hx hb dX2_tellAgain_18 rfl (lv_at hl 3 rfl) ?_
        refine lv_aload_n hx hb dX2_tellAgain_19 rfl (lv_at hl 2 rfl) ?_
        refine k_get hc hk hw at_E rfl iX2 0 (by decide) q231 (v := .ref (gA g 2)) rfl dX2_tellAgain_20 ?_
        refine lv_iload_n hx hb dX2_tellAgain_23 rfl (lv_at hl 0 rfl) ?_
        refine k_iald (f := S 2 1) (n := (k * 5 + 0)) hc hk hw at_R (ev_at (q := k) (j := 0) rfl (by omega) (by decide) (i32_p0 _)).1 (ev_at (q := k) (j := 0) rfl (by omega) (by decide) (i32_p0 _)).2 dX2_tellAgain_24 ?_
        refine lv_aload_n hx hb dX2_tellAgain_25 rfl (lv_at hl 2 rfl) ?_
        refine k_get hc hk hw at_E rfl iX2 0 (by decide) q231 (v := .ref (gA g 2)) rfl dX2_tellAgain_26 ?_
        refine lv_iload_n hx hb dX2_tellAgain_29 rfl (lv_at hl 0 rfl) ?_
        refine lv_iconst (v := 1) hx hb dX2_tellAgain_30 (by decide) ?_
        refine lv_iadd hx hb dX2_tellAgain_31 ?_
        refine k_iald (f := S 2 1) (n := (k * 5 + 1)) hc hk hw at_R (ev_at (q := k) (j := 1) rfl (by omega) (by decide) rfl).1 (ev_at (q := k) (j := 1) rfl (by omega) (by decide) rfl).2 dX2_tellAgain_32 ?_
        refine lv_aload_n hx hb dX2_tellAgain_33 rfl (lv_at hl 2 rfl) ?_
        refine k_get hc hk hw at_E rfl iX2 0 (by decide) q231 (v := .ref (gA g 2)) rfl dX2_tellAgain_34 ?_
        refine lv_iload_n hx hb dX2_tellAgain_37 rfl (lv_at hl 0 rfl) ?_
        refine lv_iconst (v := 2) hx hb dX2_tellAgain_38 (by decide) ?_
        refine lv_iadd hx hb dX2_tellAgain_39 ?_
        refine k_iald (f := S 2 1) (n := (k * 5 + 2)) hc hk hw at_R (ev_at (q := k) (j := 2) rfl (by omega) (by decide) rfl).1 (ev_at (q := k) (j := 2) rfl (by omega) (by decide) rfl).2 dX2_tellAgain_40 ?_
        refine lv_aload_n hx hb dX2_tellAgain_41 rfl (lv_at hl 2 rfl) ?_
        refine k_get hc hk hw at_E rfl iX2 0 (by decide) q231 (v := .ref (gA g 2)) rfl dX2_tellAgain_42 ?_
        refine lv_iload_n hx hb dX2_tellAgain_45 rfl (lv_at hl 0 rfl) ?_
        refine lv_iconst (v := 3) hx hb dX2_tellAgain_46 (by decide) ?_
        refine lv_iadd hx hb dX2_tellAgain_47 ?_
        refine k_iald (f := S 2 1) (n := (k * 5 + 3)) hc hk hw at_R (ev_at (q := k) (j := 3) rfl (by omega) (by decide) rfl).1 (ev_at (q := k) (j := 3) rfl (by omega) (by decide) rfl).2 dX2_tellAgain_48 ?_
        refine lv_aload_n hx hb dX2_tellAgain_49 rfl (lv_at hl 2 rfl) ?_
        refine k_get hc hk hw at_E rfl iX2 0 (by decide) q231 (v := .ref (gA g 2)) rfl dX2_tellAgain_50 ?_
        refine lv_iload_n hx hb dX2_tellAgain_53 rfl (lv_at hl 0 rfl) ?_
        refine lv_iconst (v := 4) hx hb dX2_tellAgain_54 (by decide) ?_
        refine lv_iadd hx hb dX2_tellAgain_55 ?_
        refine k_iald (f := S 2 1) (n := (k * 5 + 4)) hc hk hw at_R (ev_at (q := k) (j := 4) rfl (by omega) (by decide) rfl).1 (ev_at (q := k) (j := 4) rfl (by omega) (by decide) rfl).2 dX2_tellAgain_56 ?_
        refine kc_i hw (va_runVN (As := [.int (S 2 1 (k * 5 + 0)), .int (S 2 1 (k * 5 + 1)), .int (S 2 1 (k * 5 + 2)), .int (S 2 1 (k * 5 + 3)), .int (S 2 1 (k * 5 + 4))]) (rest := []) ⟨hx, hb, hml, hc.2.2.1, hc.2.2.2⟩ (m_X0_apply l g S 1 (L_tellAgain S B k) y (by decide : 1 < 2) (S 2 1 (k * 5 + 0)) (S 2 1 (k * 5 + 1)) (S 2 1 (k * 5 + 2)) (S 2 1 (k * 5 + 3)) (S 2 1 (k * 5 + 4)) _ _ hN1) ⟨kw_N hc hk 5 nq274 q2 q277 rfl rfl (by decide +kernel) ⟨Nat.le_of_ble_eq_true rfl, Nat.le_of_ble_eq_true rfl⟩, hc.2.2.2 _ q276, hc.2.2.2 _ qs3⟩ (kp_V hk hw (bt_B (by decide : 1 < 2)) rfl) rfl rfl hl.1 rfl (lv_room (Nat.le_of_ble_eq_true rfl)) dX2_tellAgain_57 ⟨Nat.le_of_ble_eq_true rfl, Nat.le_of_ble_eq_true rfl⟩) (fun H locs hw => ?_)
        refine lv_pop hx hb dX2_tellAgain_60 rfl ?_
        refine lv_iinc (v := nI (k + 1)) (lv' := [(2, .int (nI (k + 1))), (3, .int ((nI k) * 5)), (0, .ref (gA g 1)), (1, .ref (gA g (jB 1)))]) hx hb dX2_tellAgain_61 hl (k := 1) rfl (by first | exact (nI_succ _).symm | rfl) (by decide) rfl (fun ls hl => ?_)
        refine lv_goto (tgt := 6) hx hb dX2_tellAgain_64 (by decide) ?_
        have hw9 : WS g s (xB S 1 (L_tellAgain S B (k + 1)) y) H locs := by
          have e9 : (f_X0_apply (S 2 1 (k * 5 + 0)) (S 2 1 (k * 5 + 1)) (S 2 1 (k * 5 + 2)) (S 2 1 (k * 5 + 3)) (S 2 1 (k * 5 + 4)) (L_tellAgain S B k)).2 = (L_tellAgain S B (k + 1)) := by simp only [L_tellAgain, b_tellAgain]
          rw [← e9]; exact hw
        have hl9 := lv_sub hl [0, 2, 3] rfl
        exact ih (k + 1) (by omega) (by omega) _ _ hw9 _ hl9
  exact LP1 ((S 2 0 1).toNatClampNeg + 1) 0 (Nat.zero_le _) (by omega) _ _ hw _ (lv_sub hl [0, 1, 2] rfl)
