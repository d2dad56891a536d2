/-! the reference's constructor -/
/-- the reference's fields, k rows of them made -/
def m7_fs (g : wG) : Nat → List Value
  | 0 => frX7
  | k + 1 => (m7_fs g k).set (k + 4) (.ref (gA g (jM (k + 1))))
/-- the reference's cells, k rows of them made -/
def m7_f (g : wG) (f : Nat → Option va_E) (k : Nat) : Nat → Option va_E := fun j =>
  if j = 143 then some (.inr (9, m7_fs g k))
  else if 143 < j ∧ j ≤ 143 + k then some (.inl (g.2.1 (mTy (j - 143)), mLen (j - 143), .inl (fun _ => 0)))
  else f j
def m7_w (g : wG) (f : Nat → Option va_E) (kw : Nat) : Nat → Option va_E := fun j =>
  if j = 148 then some (.inl (g.2.1 0, 5, .inl (fun q => if q < kw then 1 else 0))) else m7_f g f 25 j
theorem m7_0 {g : wG} {f : Nat → Option va_E} {k : Nat} : m7_f g f k (jM 0) = some (.inr (9, m7_fs g k)) := by unfold m7_f jM; rw [if_pos rfl]
theorem m7_step {g : wG} {s : State} {f : Nat → Option va_E} {k z : Nat} {H : Heap} {locs : List Loc} (h : PS g s (pup (pup (m7_f g f k) (jM (k + 1)) (.inl (g.2.1 (mTy (k + 1)), mLen (k + 1), .inl (fun _ => 0)))) (jM 0) (.inr (9, (m7_fs g k).set (k + 4) (.ref (gA g (jM (k + 1))))))) z H locs) : PS g s (m7_f g f (k + 1)) z H locs := by
  refine h.of rfl (fun j hj e9 he => ?_)
  by_cases q1 : j = jM 0
  · subst q1; rw [m7_0] at he; rw [pup_eq, ← he]; rfl
  · rw [pup_ne q1]
    by_cases q2 : j = jM (k + 1)
    · subst q2
      rw [pup_eq, ← he]
      unfold m7_f jM
      rw [if_neg (by omega), if_pos (by omega), show 143 + (k + 1) - 143 = k + 1 by omega]
    · rw [pup_ne q2, ← he]
      unfold jM at q1 q2
      have q1 : ¬ j = 143 := q1
      unfold m7_f
      rw [if_neg q1, if_neg q1]
      by_cases q3 : 143 < j ∧ j ≤ 143 + k
      · rw [if_pos q3, if_pos (show 143 < j ∧ j ≤ 143 + (k + 1) by omega)]
      · rw [if_neg q3, if_neg (show ¬ (143 < j ∧ j ≤ 143 + (k + 1)) by omega)]
theorem m7_len {g : wG} : ∀ k : Nat, (m7_fs g k).length = 29
  | 0 => rfl
  | k + 1 => by
    show ((m7_fs g k).set (k + 4) (.ref (gA g (jM (k + 1))))).length = 29
    rw [List.length_set]
    exact m7_len k
theorem m7_get {g : wG} : ∀ k i : Nat, i < k → k ≤ 25 → (m7_fs g k)[i + 4]? = some (.ref (gA g (jM (i + 1))))
  | 0, i, h, _ => absurd h (Nat.not_lt_zero _)
  | k + 1, i, h, h2 => by
    show ((m7_fs g k).set (k + 4) (.ref (gA g (jM (k + 1)))))[i + 4]? = _
    by_cases e : i = k
    · subst e
      rw [List.getElem?_set_self (by rw [m7_len]; omega)]
    · rw [List.getElem?_set_ne (show k + 4 ≠ i + 4 by omega)]
      exact m7_get k i (by omega) (by omega)
theorem m7_lo {g : wG} : ∀ k i : Nat, i < 4 → (m7_fs g k)[i]? = some (.int 0)
  | 0, i, h => by
    have hi : i = 0 ∨ i = 1 ∨ i = 2 ∨ i = 3 := by omega
    rcases hi with rfl | rfl | rfl | rfl <;> rfl
  | k + 1, i, h => by
    show ((m7_fs g k).set (k + 4) (.ref (gA g (jM (k + 1)))))[i]? = _
    rw [List.getElem?_set_ne (show k + 4 ≠ i by omega)]
    exact m7_lo k i h
theorem m7_25 {g : wG} : m7_fs g 25 = fsM g (fun _ => 0) := by
  apply List.ext_getElem?
  intro i
  by_cases h4 : i < 4
  · rw [m7_lo 25 i h4]
    have hi : i = 0 ∨ i = 1 ∨ i = 2 ∨ i = 3 := by omega
    rcases hi with rfl | rfl | rfl | rfl <;> rfl
  · by_cases h9 : i < 29
    · obtain ⟨q, rfl⟩ : ∃ q, i = q + 4 := ⟨i - 4, by omega⟩
      rw [m7_get 25 q (by omega) (by decide)]
      have hq : q = 0 ∨ q = 1 ∨ q = 2 ∨ q = 3 ∨ q = 4 ∨ q = 5 ∨ q = 6 ∨ q = 7 ∨ q = 8 ∨ q = 9 ∨ q = 10 ∨ q = 11 ∨ q = 12 ∨ q = 13 ∨ q = 14 ∨ q = 15 ∨ q = 16 ∨ q = 17 ∨ q = 18 ∨ q = 19 ∨ q = 20 ∨ q = 21 ∨ q = 22 ∨ q = 23 ∨ q = 24 := by omega
      rcases hq with rfl | rfl | rfl | rfl | rfl | rfl | rfl | rfl | rfl | rfl | rfl | rfl | rfl | rfl | rfl | rfl | rfl | rfl | rfl | rfl | rfl | rfl | rfl | rfl | rfl <;> rfl
    · rw [List.getElem?_eq_none (by rw [m7_len]; omega), List.getElem?_eq_none (show 29 ≤ i by omega)]
theorem m7_w5 {g : wG} {f : Nat → Option va_E} {kw : Nat} : m7_w g f kw (jM 5) = some (.inl (g.2.1 0, 5, .inl (fun q => if q < kw then 1 else 0))) := by unfold m7_w jM; rw [if_pos rfl]
theorem m7_wo {g : wG} {f : Nat → Option va_E} {kw : Nat} : m7_w g f kw (jM 0) = some (.inr (9, m7_fs g 25)) := by unfold m7_w; rw [if_neg (by decide)]; exact m7_0

set_option maxHeartbeats 4000000 in
theorem X7_l1 {p9 : Program} {l : Launch} {e : Env} {R : Room} {s : State} {m : MethodId} {args : Array Value} {below : List Frame} {meth : Method} {c : Code} {cells slots : Nat} {Q : State → Prop} {g : wG} {f : Nat → Option va_E} {z : Nat} (hc : CX p9 c cX7_init s args m RX7) (hk : WK g s s.heap)
    (kk : ∀ (H : Heap) (locs : List Loc) (ls : Array Slot), PS g s (m7_w g f 5) z H locs → lv_has ls 2 [(1, .int (nI 5)), (0, .ref (gA g (jM 0)))] → W p9 l e R s m args below meth c H locs cells slots Q (F0 m 223 ls [])) :
    ∀ (fu k : Nat), k ≤ 5 → 6 ≤ k + fu → ∀ (H : Heap) (locs : List Loc) (ls : Array Slot), PS g s (m7_w g f k) z H locs → lv_has ls 2 [(1, .int (nI k)), (0, .ref (gA g (jM 0)))] → W p9 l e R s m args below meth c H locs cells slots Q (F0 m 205 ls []) := by
  have hx := hc.1
  have hb := hc.2.1
  intro fu
  induction fu with
  | zero => intro k h1 h2; exact absurd h2 (by omega)
  | succ fu ih =>
    intro k hk9 hf9 H locs ls hp hl
    refine lv_iload_n hx hb dX7_init_205 rfl (lv_at hl 0 rfl) ?_
    refine lv_iconst (v := 5) hx hb dX7_init_206 (by decide) ?_
    refine lv_icmp_ge (tgt := 223) hx hb dX7_init_207 (by decide) (fun h1 => ?_) (fun h1 => ?_)
    · have hkn := lp_out (m := 5) h1 rfl hk9 (by decide)
      subst hkn
      exact kk H locs ls hp hl
    · have hkn := lp_in (m := 5) h1 rfl hk9 (by decide)
      refine lv_aload_n hx hb dX7_init_210 rfl (lv_at hl 1 rfl) ?_
      refine p_get hc hk hp (j := (jM 0)) (by decide) m7_wo rfl iX7 8 (by decide) q1043 (v := .ref (gA g (jM 5))) (m7_get 25 4 (by decide) (by decide)) dX7_init_211 ?_
      refine lv_iload_n hx hb dX7_init_214 rfl (lv_at hl 0 rfl) ?_
      refine lv_iconst (v := 1) hx hb dX7_init_215 (by decide) ?_
      refine p_iast hc hk hp (j := (jM 5)) (by decide) m7_w5 (vp_in_nI hkn (by decide)) (nI_clamp (by omega)) dX7_init_216 (fun H locs hp => ?_)
      refine lv_iinc (v := nI (k + 1)) (lv' := [(1, .int (nI (k + 1))), (0, .ref (gA g (jM 0)))]) hx hb dX7_init_217 hl (k := 0) rfl (by first | exact (nI_succ _).symm | rfl) (by decide) rfl (fun ls hl => ?_)
      refine lv_goto (tgt := 205) hx hb dX7_init_220 (by decide) ?_
      refine ih (k + 1) (by omega) (by omega) H locs ls (hp.of rfl (fun j hj e9 he => ?_)) hl
      by_cases q1 : j = jM 5
      · subst q1
        rw [m7_w5] at he
        rw [pup_eq, ← he, upW]
      · rw [pup_ne q1, ← he]
        unfold jM at q1
        unfold m7_w
        rw [if_neg q1, if_neg q1]
set_option maxHeartbeats 8000000 in
theorem m_X7_init (l : Launch) (g : wG) (f : Nat → Option va_E) (z : Nat) (he : f (jM 0) = some (.inr (9, frX7))) (ha : ∀ k, k < 25 → gA g (jM (k + 1)) = z + k) :
    mP l yX7_init cX7_init 2 ({ frames := 1, cells := 25, slots := 429, locals := 100 } : Room) 25 429 g f z [.ref (gA g (jM 0))] (m7_w g f 5) (z + 25) := by
  refine Met.ofW (cc := cX7_init) (maxL := 2) (ret := none) (by decide) rfl ?_
  intro p9 e s m args below meth c s₁ BL hml hv
  obtain ⟨rfl, hk, hPW, hz⟩ := hv
  have hx := BL.exec
  have hb := BL.bytes
  have hin2 : meth.name = "<init>" := (name_of_methodNamed BL.named BL.method).1
  have hc : CX p9 c cX7_init s _ m RX7 := ⟨hx, hb, findClass_of_methodNamed BL.named, fun w h => atoms_spec BL.pre w (List.mem_cons_of_mem _ h)⟩
  have hr := BL.returns
  have hlocks := BL.notSynchronized
  have hp : PS g s f z s.heap [] := ⟨hPW, va_S.rf, hz⟩
  have hl := lv_entry ([.ref (gA g (jM 0))]) (n := 2) (Nat.le_of_ble_eq_true rfl)
  rw [lg_entry_eq]
  generalize (lg_sl ([.ref (gA g (jM 0))]) ++ List.replicate (2 - (lg_sl ([.ref (gA g (jM 0))])).length) Slot.unset).toArray = ls at hl ⊢
  have hl : lv_has ls 2 [(0, .ref (gA g (jM 0)))] := hl
  have hp : PS g s (m7_f g f 0) z s.heap [] := by
    refine hp.of rfl (fun j hj e9 h9 => ?_)
    unfold m7_f at h9
    by_cases q1 : j = 143
    · subst q1; rw [if_pos rfl] at h9; rw [← h9]; exact he
    · rw [if_neg q1, if_neg (by omega)] at h9; exact h9
  refine lv_aload_n hx hb dX7_init_0 rfl (lv_at hl 0 rfl) ?_
  refine W.objInit hx hb hc.2.2.1 (hc.2.2.2 _ q1034) (hc.2.2.2 _ q31) (hc.2.2.2 _ q32) rfl (hl.1.trans hml.symm) rfl dX7_init_1 (Nat.le_of_ble_eq_true rfl) (Nat.le_of_ble_eq_true rfl) ?_
  refine lv_aload_n hx hb dX7_init_4 rfl (lv_at hl 0 rfl) ?_
  refine lv_bipush (v := 6) hx hb dX7_init_5 (by decide) ?_
  refine p_newa (atype := .int) (t0 := 0) (a0 := (6, .inl fun _ => 0)) (N := 6) hc hk hp (j := (jM 1)) (ha 0 (by decide)) q67 rfl rfl (fun _ => rfl) (fun cA => vp_cell_i cA 6 (fun _ => 0)) (by decide) (by decide) (by decide) (Nat.le_of_ble_eq_true rfl) (Nat.le_of_ble_eq_true rfl) dX7_init_7 (fun H hp => ?_)
  refine p_putF hc hk hp (j := (jM 0)) (by decide) (fs := (m7_fs g 0)) (by rw [pup_ne (by decide)]; exact m7_0) rfl iX7 tyX7 tyX7_ok nmX7 4 (by decide) q1039 rfl hin2 rfl (v := .ref (gA g (jM 1))) rfl (by rfl) (by rw [m7_len]; decide) dX7_init_9 (fun H locs hp => ?_)
  have hp : PS g s (m7_f g f 1) (z + 1) H locs := m7_step (k := 0) hp
  refine lv_aload_n hx hb dX7_init_12 rfl (lv_at hl 0 rfl) ?_
  refine lv_bipush (v := 6) hx hb dX7_init_13 (by decide) ?_
  refine p_newa (atype := .int) (t0 := 0) (a0 := (6, .inl fun _ => 0)) (N := 6) hc hk hp (j := (jM 2)) (ha 1 (by decide)) q67 rfl rfl (fun _ => rfl) (fun cA => vp_cell_i cA 6 (fun _ => 0)) (by decide) (by decide) (by decide) (Nat.le_of_ble_eq_true rfl) (Nat.le_of_ble_eq_true rfl) dX7_init_15 (fun H hp => ?_)
  refine p_putF hc hk hp (j := (jM 0)) (by decide) (fs := (m7_fs g 1)) (by rw [pup_ne (by decide)]; exact m7_0) rfl iX7 tyX7 tyX7_ok nmX7 5 (by decide) q1040 rfl hin2 rfl (v := .ref (gA g (jM 2))) rfl (by rfl) (by rw [m7_len]; decide) dX7_init_17 (fun H locs hp => ?_)
  have hp : PS g s (m7_f g f 2) (z + 2) H locs := m7_step (k := 1) hp
  refine lv_aload_n hx hb dX7_init_20 rfl (lv_at hl 0 rfl) ?_
  refine lv_bipush (v := 6) hx hb dX7_init_21 (by decide) ?_
  refine p_newa (atype := .int) (t0 := 0) (a0 := (6, .inl fun _ => 0)) (N := 6) hc hk hp (j := (jM 3)) (ha 2 (by decide)) q67 rfl rfl (fun _ => rfl) (fun cA => vp_cell_i cA 6 (fun _ => 0)) (by decide) (by decide) (by decide) (Nat.le_of_ble_eq_true rfl) (Nat.le_of_ble_eq_true rfl) dX7_init_23 (fun H hp => ?_)
  refine p_putF hc hk hp (j := (jM 0)) (by decide) (fs := (m7_fs g 2)) (by rw [pup_ne (by decide)]; exact m7_0) rfl iX7 tyX7 tyX7_ok nmX7 6 (by decide) q1041 rfl hin2 rfl (v := .ref (gA g (jM 3))) rfl (by rfl) (by rw [m7_len]; decide) dX7_init_25 (fun H locs hp => ?_)
  have hp : PS g s (m7_f g f 3) (z + 3) H locs := m7_step (k := 2) hp
  refine lv_aload_n hx hb dX7_init_28 rfl (lv_at hl 0 rfl) ?_
  refine lv_bipush (v := 6) hx hb dX7_init_29 (by decide) ?_
  refine p_newa (atype := .int) (t0 := 0) (a0 := (6, .inl fun _ => 0)) (N := 6) hc hk hp (j := (jM 4)) (ha 3 (by decide)) q67 rfl rfl (fun _ => rfl) (fun cA => vp_cell_i cA 6 (fun _ => 0)) (by decide) (by decide) (by decide) (Nat.le_of_ble_eq_true rfl) (Nat.le_of_ble_eq_true rfl) dX7_init_31 (fun H hp => ?_)
  refine p_putF hc hk hp (j := (jM 0)) (by decide) (fs := (m7_fs g 3)) (by rw [pup_ne (by decide)]; exact m7_0) rfl iX7 tyX7 tyX7_ok nmX7 7 (by decide) q1042 rfl hin2 rfl (v := .ref (gA g (jM 4))) rfl (by rfl) (by rw [m7_len]; decide) dX7_init_33 (fun H locs hp => ?_)
  have hp : PS g s (m7_f g f 4) (z + 4) H locs := m7_step (k := 3) hp
  refine lv_aload_n hx hb dX7_init_36 rfl (lv_at hl 0 rfl) ?_
  refine lv_iconst (v := 5) hx hb dX7_init_37 (by decide) ?_
  refine p_newa (atype := .int) (t0 := 0) (a0 := (5, .inl fun _ => 0)) (N := 5) hc hk hp (j := (jM 5)) (ha 4 (by decide)) q67 rfl rfl (fun _ => rfl) (fun cA => vp_cell_i cA 5 (fun _ => 0)) (by decide) (by decide) (by decide) (Nat.le_of_ble_eq_true rfl) (Nat.le_of_ble_eq_true rfl) dX7_init_38 (fun H hp => ?_)
  refine p_putF hc hk hp (j := (jM 0)) (by decide) (fs := (m7_fs g 4)) (by rw [pup_ne (by decide)]; exact m7_0) rfl iX7 tyX7 tyX7_ok nmX7 8 (by decide) q1043 rfl hin2 rfl (v := .ref (gA g (jM 5))) rfl (by rfl) (by rw [m7_len]; decide) dX7_init_40 (fun H locs hp => ?_)
  have hp : PS g s (m7_f g f 5) (z + 5) H locs := m7_step (k := 4) hp
  refine lv_aload_n hx hb dX7_init_43 rfl (lv_at hl 0 rfl) ?_
  refine lv_bipush (v := 20) hx hb dX7_init_44 (by decide) ?_
  refine p_newa (atype := .int) (t0 := 0) (a0 := (20, .inl fun _ => 0)) (N := 20) hc hk hp (j := (jM 6)) (ha 5 (by decide)) q67 rfl rfl (fun _ => rfl) (fun cA => vp_cell_i cA 20 (fun _ => 0)) (by decide) (by decide) (by decide) (Nat.le_of_ble_eq_true rfl) (Nat.le_of_ble_eq_true rfl) dX7_init_46 (fun H hp => ?_)
  refine p_putF hc hk hp (j := (jM 0)) (by decide) (fs := (m7_fs g 5)) (by rw [pup_ne (by decide)]; exact m7_0) rfl iX7 tyX7 tyX7_ok nmX7 9 (by decide) q1044 rfl hin2 rfl (v := .ref (gA g (jM 6))) rfl (by rfl) (by rw [m7_len]; decide) dX7_init_48 (fun H locs hp => ?_)
  have hp : PS g s (m7_f g f 6) (z + 6) H locs := m7_step (k := 5) hp
  refine lv_aload_n hx hb dX7_init_51 rfl (lv_at hl 0 rfl) ?_
  refine lv_bipush (v := 20) hx hb dX7_init_52 (by decide) ?_
  refine p_newa (atype := .int) (t0 := 0) (a0 := (20, .inl fun _ => 0)) (N := 20) hc hk hp (j := (jM 7)) (ha 6 (by decide)) q67 rfl rfl (fun _ => rfl) (fun cA => vp_cell_i cA 20 (fun _ => 0)) (by decide) (by decide) (by decide) (Nat.le_of_ble_eq_true rfl) (Nat.le_of_ble_eq_true rfl) dX7_init_54 (fun H hp => ?_)
  refine p_putF hc hk hp (j := (jM 0)) (by decide) (fs := (m7_fs g 6)) (by rw [pup_ne (by decide)]; exact m7_0) rfl iX7 tyX7 tyX7_ok nmX7 10 (by decide) q1045 rfl hin2 rfl (v := .ref (gA g (jM 7))) rfl (by rfl) (by rw [m7_len]; decide) dX7_init_56 (fun H locs hp => ?_)
  have hp : PS g s (m7_f g f 7) (z + 7) H locs := m7_step (k := 6) hp
  refine lv_aload_n hx hb dX7_init_59 rfl (lv_at hl 0 rfl) ?_
  refine lv_bipush (v := 20) hx hb dX7_init_60 (by decide) ?_
  refine p_newa (atype := .int) (t0 := 0) (a0 := (20, .inl fun _ => 0)) (N := 20) hc hk hp (j := (jM 8)) (ha 7 (by decide)) q67 rfl rfl (fun _ => rfl) (fun cA => vp_cell_i cA 20 (fun _ => 0)) (by decide) (by decide) (by decide) (Nat.le_of_ble_eq_true rfl) (Nat.le_of_ble_eq_true rfl) dX7_init_62 (fun H hp => ?_)
  refine p_putF hc hk hp (j := (jM 0)) (by decide) (fs := (m7_fs g 7)) (by rw [pup_ne (by decide)]; exact m7_0) rfl iX7 tyX7 tyX7_ok nmX7 11 (by decide) q1046 rfl hin2 rfl (v := .ref (gA g (jM 8))) rfl (by rfl) (by rw [m7_len]; decide) dX7_init_64 (fun H locs hp => ?_)
  have hp : PS g s (m7_f g f 8) (z + 8) H locs := m7_step (k := 7) hp
  refine lv_aload_n hx hb dX7_init_67 rfl (lv_at hl 0 rfl) ?_
  refine lv_bipush (v := 20) hx hb dX7_init_68 (by decide) ?_
  refine p_newa (atype := .int) (t0 := 0) (a0 := (20, .inl fun _ => 0)) (N := 20) hc hk hp (j := (jM 9)) (ha 8 (by decide)) q67 rfl rfl (fun _ => rfl) (fun cA => vp_cell_i cA 20 (fun _ => 0)) (by decide) (by decide) (by decide) (Nat.le_of_ble_eq_true rfl) (Nat.le_of_ble_eq_true rfl) dX7_init_70 (fun H hp => ?_)
  refine p_putF hc hk hp (j := (jM 0)) (by decide) (fs := (m7_fs g 8)) (by rw [pup_ne (by decide)]; exact m7_0) rfl iX7 tyX7 tyX7_ok nmX7 12 (by decide) q1047 rfl hin2 rfl (v := .ref (gA g (jM 9))) rfl (by rfl) (by rw [m7_len]; decide) dX7_init_72 (fun H locs hp => ?_)
  have hp : PS g s (m7_f g f 9) (z + 9) H locs := m7_step (k := 8) hp
  refine lv_aload_n hx hb dX7_init_75 rfl (lv_at hl 0 rfl) ?_
  refine lv_bipush (v := 20) hx hb dX7_init_76 (by decide) ?_
  refine p_newa (atype := .int) (t0 := 0) (a0 := (20, .inl fun _ => 0)) (N := 20) hc hk hp (j := (jM 10)) (ha 9 (by decide)) q67 rfl rfl (fun _ => rfl) (fun cA => vp_cell_i cA 20 (fun _ => 0)) (by decide) (by decide) (by decide) (Nat.le_of_ble_eq_true rfl) (Nat.le_of_ble_eq_true rfl) dX7_init_78 (fun H hp => ?_)
  refine p_putF hc hk hp (j := (jM 0)) (by decide) (fs := (m7_fs g 9)) (by rw [pup_ne (by decide)]; exact m7_0) rfl iX7 tyX7 tyX7_ok nmX7 13 (by decide) q1048 rfl hin2 rfl (v := .ref (gA g (jM 10))) rfl (by rfl) (by rw [m7_len]; decide) dX7_init_80 (fun H locs hp => ?_)
  have hp : PS g s (m7_f g f 10) (z + 10) H locs := m7_step (k := 9) hp
  refine lv_aload_n hx hb dX7_init_83 rfl (lv_at hl 0 rfl) ?_
  refine lv_bipush (v := 20) hx hb dX7_init_84 (by decide) ?_
  refine p_newa (atype := .char) (t0 := 1) (a0 := (20, .inl fun _ => 0)) (N := 20) hc hk hp (j := (jM 11)) (ha 10 (by decide)) q1123 rfl rfl (fun _ => rfl) (fun cA => vp_cell_i cA 20 (fun _ => 0)) (by decide) (by decide) (by decide) (Nat.le_of_ble_eq_true rfl) (Nat.le_of_ble_eq_true rfl) dX7_init_86 (fun H hp => ?_)
  refine p_putF hc hk hp (j := (jM 0)) (by decide) (fs := (m7_fs g 10)) (by rw [pup_ne (by decide)]; exact m7_0) rfl iX7 tyX7 tyX7_ok nmX7 14 (by decide) q1049 rfl hin2 rfl (v := .ref (gA g (jM 11))) rfl (by rfl) (by rw [m7_len]; decide) dX7_init_88 (fun H locs hp => ?_)
  have hp : PS g s (m7_f g f 11) (z + 11) H locs := m7_step (k := 10) hp
  refine lv_aload_n hx hb dX7_init_91 rfl (lv_at hl 0 rfl) ?_
  refine lv_bipush (v := 20) hx hb dX7_init_92 (by decide) ?_
  refine p_newa (atype := .int) (t0 := 0) (a0 := (20, .inl fun _ => 0)) (N := 20) hc hk hp (j := (jM 12)) (ha 11 (by decide)) q67 rfl rfl (fun _ => rfl) (fun cA => vp_cell_i cA 20 (fun _ => 0)) (by decide) (by decide) (by decide) (Nat.le_of_ble_eq_true rfl) (Nat.le_of_ble_eq_true rfl) dX7_init_94 (fun H hp => ?_)
  refine p_putF hc hk hp (j := (jM 0)) (by decide) (fs := (m7_fs g 11)) (by rw [pup_ne (by decide)]; exact m7_0) rfl iX7 tyX7 tyX7_ok nmX7 15 (by decide) q1050 rfl hin2 rfl (v := .ref (gA g (jM 12))) rfl (by rfl) (by rw [m7_len]; decide) dX7_init_96 (fun H locs hp => ?_)
  have hp : PS g s (m7_f g f 12) (z + 12) H locs := m7_step (k := 11) hp
  refine lv_aload_n hx hb dX7_init_99 rfl (lv_at hl 0 rfl) ?_
  refine lv_bipush (v := 20) hx hb dX7_init_100 (by decide) ?_
  refine p_newa (atype := .boolean) (t0 := 2) (a0 := (20, .inl fun _ => 0)) (N := 20) hc hk hp (j := (jM 13)) (ha 12 (by decide)) q1124 rfl rfl (fun _ => rfl) (fun cA => vp_cell_i cA 20 (fun _ => 0)) (by decide) (by decide) (by decide) (Nat.le_of_ble_eq_true rfl) (Nat.le_of_ble_eq_true rfl) dX7_init_102 (fun H hp => ?_)
  refine p_putF hc hk hp (j := (jM 0)) (by decide) (fs := (m7_fs g 12)) (by rw [pup_ne (by decide)]; exact m7_0) rfl iX7 tyX7 tyX7_ok nmX7 16 (by decide) q1051 rfl hin2 rfl (v := .ref (gA g (jM 13))) rfl (by rfl) (by rw [m7_len]; decide) dX7_init_104 (fun H locs hp => ?_)
  have hp : PS g s (m7_f g f 13) (z + 13) H locs := m7_step (k := 12) hp
  refine lv_aload_n hx hb dX7_init_107 rfl (lv_at hl 0 rfl) ?_
  refine lv_bipush (v := 20) hx hb dX7_init_108 (by decide) ?_
  refine p_newa (atype := .boolean) (t0 := 2) (a0 := (20, .inl fun _ => 0)) (N := 20) hc hk hp (j := (jM 14)) (ha 13 (by decide)) q1124 rfl rfl (fun _ => rfl) (fun cA => vp_cell_i cA 20 (fun _ => 0)) (by decide) (by decide) (by decide) (Nat.le_of_ble_eq_true rfl) (Nat.le_of_ble_eq_true rfl) dX7_init_110 (fun H hp => ?_)
  refine p_putF hc hk hp (j := (jM 0)) (by decide) (fs := (m7_fs g 13)) (by rw [pup_ne (by decide)]; exact m7_0) rfl iX7 tyX7 tyX7_ok nmX7 17 (by decide) q1052 rfl hin2 rfl (v := .ref (gA g (jM 14))) rfl (by rfl) (by rw [m7_len]; decide) dX7_init_112 (fun H locs hp => ?_)
  have hp : PS g s (m7_f g f 14) (z + 14) H locs := m7_step (k := 13) hp
  refine lv_aload_n hx hb dX7_init_115 rfl (lv_at hl 0 rfl) ?_
  refine lv_bipush (v := 20) hx hb dX7_init_116 (by decide) ?_
  refine p_newa (atype := .int) (t0 := 0) (a0 := (20, .inl fun _ => 0)) (N := 20) hc hk hp (j := (jM 15)) (ha 14 (by decide)) q67 rfl rfl (fun _ => rfl) (fun cA => vp_cell_i cA 20 (fun _ => 0)) (by decide) (by decide) (by decide) (Nat.le_of_ble_eq_true rfl) (Nat.le_of_ble_eq_true rfl) dX7_init_118 (fun H hp => ?_)
  refine p_putF hc hk hp (j := (jM 0)) (by decide) (fs := (m7_fs g 14)) (by rw [pup_ne (by decide)]; exact m7_0) rfl iX7 tyX7 tyX7_ok nmX7 18 (by decide) q1053 rfl hin2 rfl (v := .ref (gA g (jM 15))) rfl (by rfl) (by rw [m7_len]; decide) dX7_init_120 (fun H locs hp => ?_)
  have hp : PS g s (m7_f g f 15) (z + 15) H locs := m7_step (k := 14) hp
  refine lv_aload_n hx hb dX7_init_123 rfl (lv_at hl 0 rfl) ?_
  refine lv_bipush (v := 20) hx hb dX7_init_124 (by decide) ?_
  refine p_newa (atype := .int) (t0 := 0) (a0 := (20, .inl fun _ => 0)) (N := 20) hc hk hp (j := (jM 16)) (ha 15 (by decide)) q67 rfl rfl (fun _ => rfl) (fun cA => vp_cell_i cA 20 (fun _ => 0)) (by decide) (by decide) (by decide) (Nat.le_of_ble_eq_true rfl) (Nat.le_of_ble_eq_true rfl) dX7_init_126 (fun H hp => ?_)
  refine p_putF hc hk hp (j := (jM 0)) (by decide) (fs := (m7_fs g 15)) (by rw [pup_ne (by decide)]; exact m7_0) rfl iX7 tyX7 tyX7_ok nmX7 19 (by decide) q1054 rfl hin2 rfl (v := .ref (gA g (jM 16))) rfl (by rfl) (by rw [m7_len]; decide) dX7_init_128 (fun H locs hp => ?_)
  have hp : PS g s (m7_f g f 16) (z + 16) H locs := m7_step (k := 15) hp
  refine lv_aload_n hx hb dX7_init_131 rfl (lv_at hl 0 rfl) ?_
  refine lv_bipush (v := 20) hx hb dX7_init_132 (by decide) ?_
  refine p_newa (atype := .boolean) (t0 := 2) (a0 := (20, .inl fun _ => 0)) (N := 20) hc hk hp (j := (jM 17)) (ha 16 (by decide)) q1124 rfl rfl (fun _ => rfl) (fun cA => vp_cell_i cA 20 (fun _ => 0)) (by decide) (by decide) (by decide) (Nat.le_of_ble_eq_true rfl) (Nat.le_of_ble_eq_true rfl) dX7_init_134 (fun H hp => ?_)
  refine p_putF hc hk hp (j := (jM 0)) (by decide) (fs := (m7_fs g 16)) (by rw [pup_ne (by decide)]; exact m7_0) rfl iX7 tyX7 tyX7_ok nmX7 20 (by decide) q1055 rfl hin2 rfl (v := .ref (gA g (jM 17))) rfl (by rfl) (by rw [m7_len]; decide) dX7_init_136 (fun H locs hp => ?_)
  have hp : PS g s (m7_f g f 17) (z + 17) H locs := m7_step (k := 16) hp
  refine lv_aload_n hx hb dX7_init_139 rfl (lv_at hl 0 rfl) ?_
  refine lv_bipush (v := 20) hx hb dX7_init_140 (by decide) ?_
  refine p_newa (atype := .int) (t0 := 0) (a0 := (20, .inl fun _ => 0)) (N := 20) hc hk hp (j := (jM 18)) (ha 17 (by decide)) q67 rfl rfl (fun _ => rfl) (fun cA => vp_cell_i cA 20 (fun _ => 0)) (by decide) (by decide) (by decide) (Nat.le_of_ble_eq_true rfl) (Nat.le_of_ble_eq_true rfl) dX7_init_142 (fun H hp => ?_)
  refine p_putF hc hk hp (j := (jM 0)) (by decide) (fs := (m7_fs g 17)) (by rw [pup_ne (by decide)]; exact m7_0) rfl iX7 tyX7 tyX7_ok nmX7 21 (by decide) q1056 rfl hin2 rfl (v := .ref (gA g (jM 18))) rfl (by rfl) (by rw [m7_len]; decide) dX7_init_144 (fun H locs hp => ?_)
  have hp : PS g s (m7_f g f 18) (z + 18) H locs := m7_step (k := 17) hp
  refine lv_aload_n hx hb dX7_init_147 rfl (lv_at hl 0 rfl) ?_
  refine lv_bipush (v := 20) hx hb dX7_init_148 (by decide) ?_
  refine p_newa (atype := .boolean) (t0 := 2) (a0 := (20, .inl fun _ => 0)) (N := 20) hc hk hp (j := (jM 19)) (ha 18 (by decide)) q1124 rfl rfl (fun _ => rfl) (fun cA => vp_cell_i cA 20 (fun _ => 0)) (by decide) (by decide) (by decide) (Nat.le_of_ble_eq_true rfl) (Nat.le_of_ble_eq_true rfl) dX7_init_150 (fun H hp => ?_)
  refine p_putF hc hk hp (j := (jM 0)) (by decide) (fs := (m7_fs g 18)) (by rw [pup_ne (by decide)]; exact m7_0) rfl iX7 tyX7 tyX7_ok nmX7 22 (by decide) q1057 rfl hin2 rfl (v := .ref (gA g (jM 19))) rfl (by rfl) (by rw [m7_len]; decide) dX7_init_152 (fun H locs hp => ?_)
  have hp : PS g s (m7_f g f 19) (z + 19) H locs := m7_step (k := 18) hp
  refine lv_aload_n hx hb dX7_init_155 rfl (lv_at hl 0 rfl) ?_
  refine lv_bipush (v := 20) hx hb dX7_init_156 (by decide) ?_
  refine p_newa (atype := .int) (t0 := 0) (a0 := (20, .inl fun _ => 0)) (N := 20) hc hk hp (j := (jM 20)) (ha 19 (by decide)) q67 rfl rfl (fun _ => rfl) (fun cA => vp_cell_i cA 20 (fun _ => 0)) (by decide) (by decide) (by decide) (Nat.le_of_ble_eq_true rfl) (Nat.le_of_ble_eq_true rfl) dX7_init_158 (fun H hp => ?_)
  refine p_putF hc hk hp (j := (jM 0)) (by decide) (fs := (m7_fs g 19)) (by rw [pup_ne (by decide)]; exact m7_0) rfl iX7 tyX7 tyX7_ok nmX7 23 (by decide) q1058 rfl hin2 rfl (v := .ref (gA g (jM 20))) rfl (by rfl) (by rw [m7_len]; decide) dX7_init_160 (fun H locs hp => ?_)
  have hp : PS g s (m7_f g f 20) (z + 20) H locs := m7_step (k := 19) hp
  refine lv_aload_n hx hb dX7_init_163 rfl (lv_at hl 0 rfl) ?_
  refine lv_bipush (v := 20) hx hb dX7_init_164 (by decide) ?_
  refine p_newa (atype := .int) (t0 := 0) (a0 := (20, .inl fun _ => 0)) (N := 20) hc hk hp (j := (jM 21)) (ha 20 (by decide)) q67 rfl rfl (fun _ => rfl) (fun cA => vp_cell_i cA 20 (fun _ => 0)) (by decide) (by decide) (by decide) (Nat.le_of_ble_eq_true rfl) (Nat.le_of_ble_eq_true rfl) dX7_init_166 (fun H hp => ?_)
  refine p_putF hc hk hp (j := (jM 0)) (by decide) (fs := (m7_fs g 20)) (by rw [pup_ne (by decide)]; exact m7_0) rfl iX7 tyX7 tyX7_ok nmX7 24 (by decide) q1059 rfl hin2 rfl (v := .ref (gA g (jM 21))) rfl (by rfl) (by rw [m7_len]; decide) dX7_init_168 (fun H locs hp => ?_)
  have hp : PS g s (m7_f g f 21) (z + 21) H locs := m7_step (k := 20) hp
  refine lv_aload_n hx hb dX7_init_171 rfl (lv_at hl 0 rfl) ?_
  refine lv_bipush (v := 20) hx hb dX7_init_172 (by decide) ?_
  refine p_newa (atype := .int) (t0 := 0) (a0 := (20, .inl fun _ => 0)) (N := 20) hc hk hp (j := (jM 22)) (ha 21 (by decide)) q67 rfl rfl (fun _ => rfl) (fun cA => vp_cell_i cA 20 (fun _ => 0)) (by decide) (by decide) (by decide) (Nat.le_of_ble_eq_true rfl) (Nat.le_of_ble_eq_true rfl) dX7_init_174 (fun H hp => ?_)
  refine p_putF hc hk hp (j := (jM 0)) (by decide) (fs := (m7_fs g 21)) (by rw [pup_ne (by decide)]; exact m7_0) rfl iX7 tyX7 tyX7_ok nmX7 25 (by decide) q1060 rfl hin2 rfl (v := .ref (gA g (jM 22))) rfl (by rfl) (by rw [m7_len]; decide) dX7_init_176 (fun H locs hp => ?_)
  have hp : PS g s (m7_f g f 22) (z + 22) H locs := m7_step (k := 21) hp
  refine lv_aload_n hx hb dX7_init_179 rfl (lv_at hl 0 rfl) ?_
  refine lv_bipush (v := 20) hx hb dX7_init_180 (by decide) ?_
  refine p_newa (atype := .int) (t0 := 0) (a0 := (20, .inl fun _ => 0)) (N := 20) hc hk hp (j := (jM 23)) (ha 22 (by decide)) q67 rfl rfl (fun _ => rfl) (fun cA => vp_cell_i cA 20 (fun _ => 0)) (by decide) (by decide) (by decide) (Nat.le_of_ble_eq_true rfl) (Nat.le_of_ble_eq_true rfl) dX7_init_182 (fun H hp => ?_)
  refine p_putF hc hk hp (j := (jM 0)) (by decide) (fs := (m7_fs g 22)) (by rw [pup_ne (by decide)]; exact m7_0) rfl iX7 tyX7 tyX7_ok nmX7 26 (by decide) q1061 rfl hin2 rfl (v := .ref (gA g (jM 23))) rfl (by rfl) (by rw [m7_len]; decide) dX7_init_184 (fun H locs hp => ?_)
  have hp : PS g s (m7_f g f 23) (z + 23) H locs := m7_step (k := 22) hp
  refine lv_aload_n hx hb dX7_init_187 rfl (lv_at hl 0 rfl) ?_
  refine lv_bipush (v := 20) hx hb dX7_init_188 (by decide) ?_
  refine p_newa (atype := .int) (t0 := 0) (a0 := (20, .inl fun _ => 0)) (N := 20) hc hk hp (j := (jM 24)) (ha 23 (by decide)) q67 rfl rfl (fun _ => rfl) (fun cA => vp_cell_i cA 20 (fun _ => 0)) (by decide) (by decide) (by decide) (Nat.le_of_ble_eq_true rfl) (Nat.le_of_ble_eq_true rfl) dX7_init_190 (fun H hp => ?_)
  refine p_putF hc hk hp (j := (jM 0)) (by decide) (fs := (m7_fs g 23)) (by rw [pup_ne (by decide)]; exact m7_0) rfl iX7 tyX7 tyX7_ok nmX7 27 (by decide) q1062 rfl hin2 rfl (v := .ref (gA g (jM 24))) rfl (by rfl) (by rw [m7_len]; decide) dX7_init_192 (fun H locs hp => ?_)
  have hp : PS g s (m7_f g f 24) (z + 24) H locs := m7_step (k := 23) hp
  refine lv_aload_n hx hb dX7_init_195 rfl (lv_at hl 0 rfl) ?_
  refine lv_bipush (v := 20) hx hb dX7_init_196 (by decide) ?_
  refine p_newa (atype := .int) (t0 := 0) (a0 := (20, .inl fun _ => 0)) (N := 20) hc hk hp (j := (jM 25)) (ha 24 (by decide)) q67 rfl rfl (fun _ => rfl) (fun cA => vp_cell_i cA 20 (fun _ => 0)) (by decide) (by decide) (by decide) (Nat.le_of_ble_eq_true rfl) (Nat.le_of_ble_eq_true rfl) dX7_init_198 (fun H hp => ?_)
  refine p_putF hc hk hp (j := (jM 0)) (by decide) (fs := (m7_fs g 24)) (by rw [pup_ne (by decide)]; exact m7_0) rfl iX7 tyX7 tyX7_ok nmX7 28 (by decide) q1063 rfl hin2 rfl (v := .ref (gA g (jM 25))) rfl (by rfl) (by rw [m7_len]; decide) dX7_init_200 (fun H locs hp => ?_)
  have hp : PS g s (m7_f g f 25) (z + 25) H locs := m7_step (k := 24) hp
  refine lv_iconst (v := 0) hx hb dX7_init_203 (by decide) ?_
  refine lv_istore_n (lv' := [(1, .int 0), (0, .ref (gA g (jM 0)))]) hx hb dX7_init_204 rfl hl (by decide) rfl (fun ls hl => ?_)
  have hp : PS g s (m7_w g f 0) (z + 25) H locs := by
    refine hp.of rfl (fun j hj e9 h9 => ?_)
    rw [← h9]
    unfold m7_w
    by_cases q1 : j = 148
    · subst q1; rw [if_pos rfl]; rfl
    · rw [if_neg q1]
  refine X7_l1 (cells := 25) (slots := 429) (f := f) (z := z + 25) hc hk (fun H locs ls hp hl => ?_) 6 0 (by omega) (by omega) H locs ls hp hl
  exact W.vret hx hb hr (fun t9 ht hW => hp.ret ht) hp.2.1.2.2 dX7_init_223
