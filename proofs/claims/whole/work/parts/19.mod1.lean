/-! the model, first part -/
/-! the model: what its numbers keep -/
def MN (M : BT) (n m : Nat) : Prop :=
  M 0 2 = nI n ∧ M 0 3 = nI m ∧ n ≤ 6 ∧ m ≤ 20 ∧ (∀ i, i < 20 → okc (M 11 i)) ∧ (∀ i, i < 20 → okz (M 13 i) ∧ okz (M 14 i) ∧ okz (M 17 i) ∧ okz (M 19 i)) ∧ (∀ i, i < 20 → M 12 i = -1 ∨ vp_in (M 12 i) 20) ∧ (∀ i, i < 20 → vp_in (M 6 i) 6)
theorem up2_z {M : BT} {c k : Nat} {v : Int32} {q : Nat → Int32 → Prop} {c' : Nat} (hv : c = c' → q k v) (h : ∀ i, i < 20 → q i (M c' i)) : ∀ i, i < 20 → q i (up2 M c k v c' i) := by
  intro i hi
  unfold up2
  by_cases e : c' = c
  · rw [if_pos e]
    by_cases e2 : i = k
    · rw [if_pos e2, e2]; exact hv e.symm
    · rw [if_neg e2]; exact h i hi
  · rw [if_neg e]; exact h i hi
theorem MN.upx {M : BT} {n m c k : Nat} {v : Int32} (h0 : c ≠ 0 ∨ (k ≠ 2 ∧ k ≠ 3)) (h11 : c = 11 → okc v) (h13 : c = 13 ∨ c = 14 ∨ c = 17 ∨ c = 19 → okz v) (h12 : c = 12 → v = -1 ∨ vp_in v 20) (h6 : c = 6 → vp_in v 6) (h : MN M n m) : MN (up2 M c k v) n m := by
  obtain ⟨a1, a2, a3, a4, a5, a6, a7, a8⟩ := h
  refine ⟨?_, ?_, a3, a4, up2_z (q := fun _ w => okc w) h11 a5, fun i hi => ⟨?_, ?_, ?_, ?_⟩, up2_z (q := fun _ w => w = -1 ∨ vp_in w 20) h12 a7, up2_z (q := fun _ w => vp_in w 6) h6 a8⟩
  · rw [← a1]; unfold up2
    by_cases e : 0 = c
    · rw [if_pos e, if_neg (by rcases h0 with z | z; exact absurd e.symm z; exact Ne.symm z.1)]
    · rw [if_neg e]
  · rw [← a2]; unfold up2
    by_cases e : 0 = c
    · rw [if_pos e, if_neg (by rcases h0 with z | z; exact absurd e.symm z; exact Ne.symm z.2)]
    · rw [if_neg e]
  · exact up2_z (q := fun _ w => okz w) (fun e => h13 (Or.inl e)) (fun i hi => (a6 i hi).1) i hi
  · exact up2_z (q := fun _ w => okz w) (fun e => h13 (Or.inr (Or.inl e))) (fun i hi => (a6 i hi).2.1) i hi
  · exact up2_z (q := fun _ w => okz w) (fun e => h13 (Or.inr (Or.inr (Or.inl e)))) (fun i hi => (a6 i hi).2.2.1) i hi
  · exact up2_z (q := fun _ w => okz w) (fun e => h13 (Or.inr (Or.inr (Or.inr e)))) (fun i hi => (a6 i hi).2.2.2) i hi
theorem MN.up0 {M : BT} {n m k : Nat} {v : Int32} (h2 : k ≠ 2) (h3 : k ≠ 3) (h : MN M n m) : MN (up2 M 0 k v) n m :=
  MN.upx (Or.inr ⟨h2, h3⟩) (fun e => absurd e (by decide)) (fun e => absurd e (by decide)) (fun e => absurd e (by decide)) (fun e => absurd e (by decide)) h
theorem MN.up11 {M : BT} {n m k : Nat} {v : Int32} (hv : okc v) (h : MN M n m) : MN (up2 M 11 k v) n m :=
  MN.upx (Or.inl (by decide)) (fun _ => hv) (fun e => absurd e (by decide)) (fun e => absurd e (by decide)) (fun e => absurd e (by decide)) h
theorem MN.up12 {M : BT} {n m k : Nat} {v : Int32} (hv : v = -1 ∨ vp_in v 20) (h : MN M n m) : MN (up2 M 12 k v) n m :=
  MN.upx (Or.inl (by decide)) (fun e => absurd e (by decide)) (fun e => absurd e (by decide)) (fun _ => hv) (fun e => absurd e (by decide)) h
theorem MN.up6 {M : BT} {n m k : Nat} {v : Int32} (hv : vp_in v 6) (h : MN M n m) : MN (up2 M 6 k v) n m :=
  MN.upx (Or.inl (by decide)) (fun e => absurd e (by decide)) (fun e => absurd e (by decide)) (fun e => absurd e (by decide)) (fun _ => hv) h
theorem MN.upz {M : BT} {n m c k : Nat} {v : Int32} (h0 : c ≠ 0) (h11 : c ≠ 11) (h12 : c ≠ 12) (h6 : c ≠ 6) (hv : okz v) (h : MN M n m) : MN (up2 M c k v) n m :=
  MN.upx (Or.inl h0) (fun e => absurd e h11) (fun _ => hv) (fun e => absurd e h12) (fun e => absurd e h6) h
theorem MN.upf {M : BT} {n m c k : Nat} {v : Int32} (h0 : c ≠ 0) (h11 : c ≠ 11) (h12 : c ≠ 12) (h6 : c ≠ 6) (z1 : c ≠ 13) (z2 : c ≠ 14) (z3 : c ≠ 17) (z4 : c ≠ 19) (h : MN M n m) : MN (up2 M c k v) n m :=
  MN.upx (Or.inl h0) (fun e => absurd e h11) (fun e => by rcases e with e | e | e | e <;> contradiction) (fun e => absurd e h12) (fun e => absurd e h6) h
theorem MN.ch {M : BT} {n m k : Nat} (h : MN M n m) (hk : k < 20) : okc (M 11 k) := h.2.2.2.2.1 k hk
theorem MN.z13 {M : BT} {n m k : Nat} (h : MN M n m) (hk : k < 20) : okz (M 13 k) := (h.2.2.2.2.2.1 k hk).1
theorem MN.z14 {M : BT} {n m k : Nat} (h : MN M n m) (hk : k < 20) : okz (M 14 k) := (h.2.2.2.2.2.1 k hk).2.1
theorem MN.z17 {M : BT} {n m k : Nat} (h : MN M n m) (hk : k < 20) : okz (M 17 k) := (h.2.2.2.2.2.1 k hk).2.2.1
theorem MN.z19 {M : BT} {n m k : Nat} (h : MN M n m) (hk : k < 20) : okz (M 19 k) := (h.2.2.2.2.2.1 k hk).2.2.2
theorem MN.off {M : BT} {n m k : Nat} (h : MN M n m) (hk : k < 20) : vp_in (M 6 k) 6 := h.2.2.2.2.2.2.2 k hk
theorem MN.ld {M : BT} {n m k : Nat} (h : MN M n m) (hk : k < 20) (hne : ¬ M 12 k = -1) : vp_in (M 12 k) 20 := (h.2.2.2.2.2.2.1 k hk).resolve_left hne
theorem MN.l4 {M : BT} {n m : Nat} (h : MN M n m) : (M 0 3).toNatClampNeg ≤ 20 := by
  have := h.2.2.2.1
  rw [h.2.1, nI_clamp (by omega)]; exact this
theorem MN.cc {M M' : BT} {n m : Nat} (h : MN M n m) (h' : MN M' n m) : M' 0 3 = nI (M 0 3).toNatClampNeg := by
  have := h.2.2.2.1
  rw [h'.2.1, h.2.1, nI_clamp (by omega)]
theorem MN.i2 {M : BT} {n m : Nat} (h : MN M n m) (hne : ¬ M 0 2 = 6) : vp_in (M 0 2) 6 := by
  have h1 := h.1; have h2 := h.2.2.1
  rw [h1] at hne ⊢
  refine vp_in_nI ?_ (by decide)
  by_cases e : n = 6
  · rw [e] at hne; exact absurd rfl hne
  · omega
theorem MN.i3 {M : BT} {n m : Nat} (h : MN M n m) (hne : ¬ M 0 3 = 20) : vp_in (M 0 3) 20 := by
  have h1 := h.2.1; have h2 := h.2.2.2.1
  rw [h1] at hne ⊢
  refine vp_in_nI ?_ (by decide)
  by_cases e : m = 20
  · rw [e] at hne; exact absurd rfl hne
  · omega
theorem vp_lt {v : Int32} {N : Nat} (h : vp_in v N) : v.toNatClampNeg < N := Nat.lt_of_not_le fun z => h (Or.inr z)
theorem nI_pr9 : ∀ n, n ≤ 20 → (nI n - 1).toInt = (n : Int) - 1 := by decide +kernel
theorem okz_0 : okz 0 := ⟨by decide +kernel, by decide +kernel, by decide +kernel⟩
theorem okz_1 : okz 1 := ⟨by decide +kernel, by decide +kernel, by decide +kernel⟩
def f_X7_thrown  (M : BT) : Int32 :=
  M 0 0
set_option maxHeartbeats 4000000 in
set_option maxRecDepth 100000 in
theorem m_X7_thrown (l : Launch) (g : wG) (S : Nat → BT) (M : BT) (o : (Nat → Int64) × (Nat → UInt64)) : mI l yX7_thrown cX7_thrown 1 (some .int) ({ frames := 0, cells := 0, slots := 0, locals := 0 } : Room) 0 0 g (xM S M o) [.ref (gA g (jM 0))] (f_X7_thrown M) (xM S M o) := by
  refine Met.ofW (cc := cX7_thrown) (maxL := 1) (ret := some .int) (by decide) rfl ?_
  intro p9 e s m args below meth c s₁ BL hml hv
  obtain ⟨rfl, hk, hPB⟩ := hv
  have hx := BL.exec
  have hb := BL.bytes
  have hc : CX p9 c cX7_thrown s _ m RX7 := ⟨hx, hb, findClass_of_methodNamed BL.named, fun w h => atoms_spec BL.pre w (List.mem_cons_of_mem _ h)⟩
  have hr := BL.returns
  have hlocks := BL.notSynchronized
  have hw : WS g s (xM S M o) s.heap [] := ⟨hPB, va_S.rf⟩
  have hl := lv_entry ([.ref (gA g (jM 0))]) (n := 1) (Nat.le_of_ble_eq_true rfl)
  rw [lg_entry_eq]
  generalize (lg_sl ([.ref (gA g (jM 0))]) ++ List.replicate (1 - (lg_sl ([.ref (gA g (jM 0))])).length) Slot.unset).toArray = ls at hl ⊢
  have hl : lv_has ls 1 [(0, .ref (gA g (jM 0)))] := hl
  refine lv_aload_n hx hb dX7_thrown_0 rfl (lv_at hl 0 rfl) ?_
  refine k_get hc hk hw at_M rfl iX7 0 (by decide) q1035 (v := .int (M 0 0)) rfl dX7_thrown_1 ?_
  exact W.iret (v := M 0 0) hx hb hr (fun t9 ht hW => ke_i hw ht (by simp only [f_X7_thrown]) rfl) hw.2.2.2 dX7_thrown_4
def f_X7_in (a1 : Int32) (a2 : Int32) (a3 : Int32) : Int32 :=
  (if a1 < a2 then 0 else (if a3 < a1 then 0 else 1))
set_option maxHeartbeats 4000000 in
set_option maxRecDepth 100000 in
theorem m_X7_in (l : Launch) (g : wG) (S : Nat → BT) (M : BT) (o : (Nat → Int64) × (Nat → UInt64)) (a1 : Int32) (a2 : Int32) (a3 : Int32) : mI l yX7_in cX7_in 3 (some .boolean) ({ frames := 0, cells := 0, slots := 0, locals := 0 } : Room) 0 0 g (xM S M o) [.int a1, .int a2, .int a3] (f_X7_in a1 a2 a3) (xM S M o) := by
  refine Met.ofW (cc := cX7_in) (maxL := 3) (ret := some .boolean) (by decide) rfl ?_
  intro p9 e s m args below meth c s₁ BL hml hv
  obtain ⟨rfl, hk, hPB⟩ := hv
  have hx := BL.exec
  have hb := BL.bytes
  have hc : CX p9 c cX7_in s _ m RX7 := ⟨hx, hb, findClass_of_methodNamed BL.named, fun w h => atoms_spec BL.pre w (List.mem_cons_of_mem _ h)⟩
  have hr := BL.returns
  have hlocks := BL.notSynchronized
  have hw : WS g s (xM S M o) s.heap [] := ⟨hPB, va_S.rf⟩
  have hl := lv_entry ([.int a1, .int a2, .int a3]) (n := 3) (Nat.le_of_ble_eq_true rfl)
  rw [lg_entry_eq]
  generalize (lg_sl ([.int a1, .int a2, .int a3]) ++ List.replicate (3 - (lg_sl ([.int a1, .int a2, .int a3])).length) Slot.unset).toArray = ls at hl ⊢
  have hl : lv_has ls 3 [(0, .int a1), (1, .int a2), (2, .int a3)] := hl
  refine lv_iload_n hx hb dX7_in_0 rfl (lv_at hl 0 rfl) ?_
  refine lv_iload_n hx hb dX7_in_1 rfl (lv_at hl 1 rfl) ?_
  refine lv_icmp_lt (tgt := 14) hx hb dX7_in_2 (by decide) (fun h1 => ?_) (fun h1 => ?_)
  · refine lv_iconst (v := 0) hx hb dX7_in_14 (by decide) ?_
    exact W.zret (v := 0) hx hb hr (by decide +kernel) (fun t9 ht hW => ke_i hw ht (by simp only [f_X7_in, if_pos h1]) rfl) hw.2.2.2 dX7_in_15
  · refine lv_iload_n hx hb dX7_in_5 rfl (lv_at hl 0 rfl) ?_
    refine lv_iload_n hx hb dX7_in_6 rfl (lv_at hl 2 rfl) ?_
    refine lv_icmp_gt (tgt := 14) hx hb dX7_in_7 (by decide) (fun h2 => ?_) (fun h2 => ?_)
    · refine lv_iconst (v := 0) hx hb dX7_in_14 (by decide) ?_
      exact W.zret (v := 0) hx hb hr (by decide +kernel) (fun t9 ht hW => ke_i hw ht (by simp only [f_X7_in, if_neg h1, if_pos h2]) rfl) hw.2.2.2 dX7_in_15
    · refine lv_iconst (v := 1) hx hb dX7_in_10 (by decide) ?_
      refine lv_goto (tgt := 15) hx hb dX7_in_11 (by decide) ?_
      exact W.zret (v := 1) hx hb hr (by decide +kernel) (fun t9 ht hW => ke_i hw ht (by simp only [f_X7_in, if_neg h1, if_neg h2]) rfl) hw.2.2.2 dX7_in_15
theorem okz_X7_in {a1 a2 a3 : Int32} : okz (f_X7_in a1 a2 a3) := by
  unfold f_X7_in
  (repeat' split) <;> first | exact okz_0 | exact okz_1
def f_X7_isOffice (a1 : Int32) (M : BT) : Int32 :=
  f_X7_in a1 0 ((M 0 2) - 1)
set_option maxHeartbeats 4000000 in
set_option maxRecDepth 100000 in
theorem m_X7_isOffice (l : Launch) (g : wG) (S : Nat → BT) (M : BT) (o : (Nat → Int64) × (Nat → UInt64)) (a1 : Int32) (n m9 : Nat) (hN : MN M n m9) : mI l yX7_isOffice cX7_isOffice 2 (some .boolean) ({ frames := 1, cells := 0, slots := 0, locals := 22 } : Room) 0 0 g (xM S M o) [.ref (gA g (jM 0)), .int a1] (f_X7_isOffice a1 M) (xM S M o) := by
  refine Met.ofW (cc := cX7_isOffice) (maxL := 2) (ret := some .boolean) (by decide) rfl ?_
  intro p9 e s m args below meth c s₁ BL hml hv
  obtain ⟨rfl, hk, hPB⟩ := hv
  have hx := BL.exec
  have hb := BL.bytes
  have hc : CX p9 c cX7_isOffice s _ m RX7 := ⟨hx, hb, findClass_of_methodNamed BL.named, fun w h => atoms_spec BL.pre w (List.mem_cons_of_mem _ h)⟩
  have hr := BL.returns
  have hlocks := BL.notSynchronized
  have hw : WS g s (xM S M o) s.heap [] := ⟨hPB, va_S.rf⟩
  have hl := lv_entry ([.ref (gA g (jM 0)), .int a1]) (n := 2) (Nat.le_of_ble_eq_true rfl)
  rw [lg_entry_eq]
  generalize (lg_sl ([.ref (gA g (jM 0)), .int a1]) ++ List.replicate (2 - (lg_sl ([.ref (gA g (jM 0)), .int a1])).length) Slot.unset).toArray = ls at hl ⊢
  have hl : lv_has ls 2 [(0, .ref (gA g (jM 0))), (1, .int a1)] := hl
  refine lv_iload_n hx hb dX7_isOffice_0 rfl (lv_at hl 1 rfl) ?_
  refine lv_iconst (v := 0) hx hb dX7_isOffice_1 (by decide) ?_
  refine lv_aload_n hx hb dX7_isOffice_2 rfl (lv_at hl 0 rfl) ?_
  refine k_get hc hk hw at_M rfl iX7 2 (by decide) q1037 (v := .int (M 0 2)) rfl dX7_isOffice_3 ?_
  refine lv_iconst (v := 1) hx hb dX7_isOffice_6 (by decide) ?_
  refine lv_isub hx hb dX7_isOffice_7 ?_
  refine kc_i hw (va_runS (As := [.int a1, .int 0, .int ((M 0 2) - 1)]) (rest := []) ⟨hx, hb, hml, hc.2.2.1, hc.2.2.2⟩ (m_X7_in l g S M o a1 0 ((M 0 2) - 1)) (kw_S hc 3 q1133 q1134 q8 q1135 rfl rfl (by decide +kernel) ⟨Nat.le_of_ble_eq_true rfl, Nat.le_of_ble_eq_true rfl⟩) (kp_S hk hw) rfl rfl hl.1 rfl (lv_room (Nat.le_of_ble_eq_true rfl)) dX7_isOffice_8 ⟨Nat.le_of_ble_eq_true rfl, Nat.le_of_ble_eq_true rfl⟩) (fun H locs hw => ?_)
  exact W.zret (v := f_X7_in a1 0 ((M 0 2) - 1)) hx hb hr okz_X7_in.1 (fun t9 ht hW => ke_i hw ht (by simp only [f_X7_isOffice]) rfl) hw.2.2.2 dX7_isOffice_11
theorem okz_X7_isOffice {a1 : Int32} {M : BT} : okz (f_X7_isOffice a1 M) := by
  unfold f_X7_isOffice
  exact okz_X7_in
def f_X7_isComplaint (a1 : Int32) (M : BT) : Int32 :=
  f_X7_in a1 0 ((M 0 3) - 1)
set_option maxHeartbeats 4000000 in
set_option maxRecDepth 100000 in
theorem m_X7_isComplaint (l : Launch) (g : wG) (S : Nat → BT) (M : BT) (o : (Nat → Int64) × (Nat → UInt64)) (a1 : Int32) (n m9 : Nat) (hN : MN M n m9) : mI l yX7_isComplaint cX7_isComplaint 2 (some .boolean) ({ frames := 1, cells := 0, slots := 0, locals := 22 } : Room) 0 0 g (xM S M o) [.ref (gA g (jM 0)), .int a1] (f_X7_isComplaint a1 M) (xM S M o) := by
  refine Met.ofW (cc := cX7_isComplaint) (maxL := 2) (ret := some .boolean) (by decide) rfl ?_
  intro p9 e s m args below meth c s₁ BL hml hv
  obtain ⟨rfl, hk, hPB⟩ := hv
  have hx := BL.exec
  have hb := BL.bytes
  have hc : CX p9 c cX7_isComplaint s _ m RX7 := ⟨hx, hb, findClass_of_methodNamed BL.named, fun w h => atoms_spec BL.pre w (List.mem_cons_of_mem _ h)⟩
  have hr := BL.returns
  have hlocks := BL.notSynchronized
  have hw : WS g s (xM S M o) s.heap [] := ⟨hPB, va_S.rf⟩
  have hl := lv_entry ([.ref (gA g (jM 0)), .int a1]) (n := 2) (Nat.le_of_ble_eq_true rfl)
  rw [lg_entry_eq]
  generalize (lg_sl ([.ref (gA g (jM 0)), .int a1]) ++ List.replicate (2 - (lg_sl ([.ref (gA g (jM 0)), .int a1])).length) Slot.unset).toArray = ls at hl ⊢
  have hl : lv_has ls 2 [(0, .ref (gA g (jM 0))), (1, .int a1)] := hl
  refine lv_iload_n hx hb dX7_isComplaint_0 rfl (lv_at hl 1 rfl) ?_
  refine lv_iconst (v := 0) hx hb dX7_isComplaint_1 (by decide) ?_
  refine lv_aload_n hx hb dX7_isComplaint_2 rfl (lv_at hl 0 rfl) ?_
  refine k_get hc hk hw at_M rfl iX7 3 (by decide) q1038 (v := .int (M 0 3)) rfl dX7_isComplaint_3 ?_
  refine lv_iconst (v := 1) hx hb dX7_isComplaint_6 (by decide) ?_
  refine lv_isub hx hb dX7_isComplaint_7 ?_
  refine kc_i hw (va_runS (As := [.int a1, .int 0, .int ((M 0 3) - 1)]) (rest := []) ⟨hx, hb, hml, hc.2.2.1, hc.2.2.2⟩ (m_X7_in l g S M o a1 0 ((M 0 3) - 1)) (kw_S hc 3 q1133 q1134 q8 q1135 rfl rfl (by decide +kernel) ⟨Nat.le_of_ble_eq_true rfl, Nat.le_of_ble_eq_true rfl⟩) (kp_S hk hw) rfl rfl hl.1 rfl (lv_room (Nat.le_of_ble_eq_true rfl)) dX7_isComplaint_8 ⟨Nat.le_of_ble_eq_true rfl, Nat.le_of_ble_eq_true rfl⟩) (fun H locs hw => ?_)
  exact W.zret (v := f_X7_in a1 0 ((M 0 3) - 1)) hx hb hr okz_X7_in.1 (fun t9 ht hW => ke_i hw ht (by simp only [f_X7_isComplaint]) rfl) hw.2.2.2 dX7_isComplaint_11
theorem okz_X7_isComplaint {a1 : Int32} {M : BT} : okz (f_X7_isComplaint a1 M) := by
  unfold f_X7_isComplaint
  exact okz_X7_in
def f_X7_noComplaint (a1 : Int32) (M : BT) : Int32 × BT :=
  (if f_X7_isComplaint a1 M = 0 then (1, up2 M 0 0 1) else (0, up2 M 0 0 0))
theorem cn_X7_noComplaint {a1 : Int32} {M : BT} {n m9 : Nat} (hN : MN M n m9) : MN ((f_X7_noComplaint a1 M).2) n m9 := by
  unfold f_X7_noComplaint
  by_cases h1 : f_X7_isComplaint a1 M = 0
  · simp only [if_pos h1]
    exact (MN.up0 (by decide) (by decide) hN)
  · simp only [if_neg h1]
    exact (MN.up0 (by decide) (by decide) hN)
set_option maxHeartbeats 4000000 in
set_option maxRecDepth 100000 in
theorem m_X7_noComplaint (l : Launch) (g : wG) (S : Nat → BT) (M : BT) (o : (Nat → Int64) × (Nat → UInt64)) (a1 : Int32) (n m9 : Nat) (hN : MN M n m9) : mI l yX7_noComplaint cX7_noComplaint 2 (some .boolean) ({ frames := 2, cells := 0, slots := 0, locals := 43 } : Room) 0 0 g (xM S M o) [.ref (gA g (jM 0)), .int a1] ((f_X7_noComplaint a1 M).1) (xM S ((f_X7_noComplaint a1 M).2) o) := by
  refine Met.ofW (cc := cX7_noComplaint) (maxL := 2) (ret := some .boolean) (by decide) rfl ?_
  intro p9 e s m args below meth c s₁ BL hml hv
  obtain ⟨rfl, hk, hPB⟩ := hv
  have hx := BL.exec
  have hb := BL.bytes
  have hc : CX p9 c cX7_noComplaint s _ m RX7 := ⟨hx, hb, findClass_of_methodNamed BL.named, fun w h => atoms_spec BL.pre w (List.mem_cons_of_mem _ h)⟩
  have hr := BL.returns
  have hlocks := BL.notSynchronized
  have hw : WS g s (xM S M o) s.heap [] := ⟨hPB, va_S.rf⟩
  have hl := lv_entry ([.ref (gA g (jM 0)), .int a1]) (n := 2) (Nat.le_of_ble_eq_true rfl)
  rw [lg_entry_eq]
  generalize (lg_sl ([.ref (gA g (jM 0)), .int a1]) ++ List.replicate (2 - (lg_sl ([.ref (gA g (jM 0)), .int a1])).length) Slot.unset).toArray = ls at hl ⊢
  have hl : lv_has ls 2 [(0, .ref (gA g (jM 0))), (1, .int a1)] := hl
  refine lv_aload_n hx hb dX7_noComplaint_0 rfl (lv_at hl 0 rfl) ?_
  refine lv_aload_n hx hb dX7_noComplaint_1 rfl (lv_at hl 0 rfl) ?_
  refine lv_iload_n hx hb dX7_noComplaint_2 rfl (lv_at hl 1 rfl) ?_
  refine kc_i hw (va_runV (As := [.int a1]) (rest := [.ref (gA g (jM 0))]) ⟨hx, hb, hml, hc.2.2.1, hc.2.2.2⟩ (m_X7_isComplaint l g S M o a1 _ _ hN) (kw_V hc 1 q1176 q1178 qs65 q8 q1179 rfl rfl (by decide +kernel) ⟨Nat.le_of_ble_eq_true rfl, Nat.le_of_ble_eq_true rfl⟩) (kp_V hk hw at_M rfl) rfl rfl hl.1 rfl (lv_room (Nat.le_of_ble_eq_true rfl)) dX7_noComplaint_3 ⟨Nat.le_of_ble_eq_true rfl, Nat.le_of_ble_eq_true rfl⟩) (fun H locs hw => ?_)
  refine lv_if_eq (tgt := 13) hx hb dX7_noComplaint_6 (by decide) (fun h1 => ?_) (fun h1 => ?_)
  · refine lv_iconst (v := 1) hx hb dX7_noComplaint_13 (by decide) ?_
    refine k_put hc hk hw (x' := (xM S (up2 M 0 0 1) o)) at_M rfl iX7 tyX7 tyX7_ok nmX7 0 (by decide) q1035 rfl rfl rfl (Nat.le_of_ble_eq_true rfl) dX7_noComplaint_14 (ms_0 (by decide)) (fun H locs hw => ?_)
    refine lv_aload_n hx hb dX7_noComplaint_17 rfl (lv_at hl 0 rfl) ?_
    refine k_get hc hk hw at_M rfl iX7 0 (by decide) q1035 (v := .int 1) rfl dX7_noComplaint_18 ?_
    refine lv_if_le (tgt := 28) hx hb dX7_noComplaint_21 (by decide) (fun h2 => absurd h2 (by decide)) (fun _ => ?_)
    refine lv_iconst (v := 1) hx hb dX7_noComplaint_24 (by decide) ?_
    refine lv_goto (tgt := 29) hx hb dX7_noComplaint_25 (by decide) ?_
    exact W.zret (v := 1) hx hb hr (by decide +kernel) (fun t9 ht hW => ke_i hw ht (by simp only [f_X7_noComplaint, if_pos h1]) (by simp only [f_X7_noComplaint, if_pos h1])) hw.2.2.2 dX7_noComplaint_29
  · refine lv_iconst (v := 0) hx hb dX7_noComplaint_9 (by decide) ?_
    refine lv_goto (tgt := 14) hx hb dX7_noComplaint_10 (by decide) ?_
    refine k_put hc hk hw (x' := (xM S (up2 M 0 0 0) o)) at_M rfl iX7 tyX7 tyX7_ok nmX7 0 (by decide) q1035 rfl rfl rfl (Nat.le_of_ble_eq_true rfl) dX7_noComplaint_14 (ms_0 (by decide)) (fun H locs hw => ?_)
    refine lv_aload_n hx hb dX7_noComplaint_17 rfl (lv_at hl 0 rfl) ?_
    refine k_get hc hk hw at_M rfl iX7 0 (by decide) q1035 (v := .int 0) rfl dX7_noComplaint_18 ?_
    refine lv_if_le (tgt := 28) hx hb dX7_noComplaint_21 (by decide) (fun _ => ?_) (fun h3 => absurd h3 (by decide))
    refine lv_iconst (v := 0) hx hb dX7_noComplaint_28 (by decide) ?_
    exact W.zret (v := 0) hx hb hr (by decide +kernel) (fun t9 ht hW => ke_i hw ht (by simp only [f_X7_noComplaint, if_neg h1]) (by simp only [f_X7_noComplaint, if_neg h1])) hw.2.2.2 dX7_noComplaint_29
theorem okz_X7_noComplaint {a1 : Int32} {M : BT} : okz (f_X7_noComplaint a1 M).1 := by
  unfold f_X7_noComplaint
  (repeat' split) <;> first | exact okz_0 | exact okz_1
theorem in_of {a1 a2 a3 : Int32} (h : ¬ f_X7_in a1 a2 a3 = 0) : ¬ a1 < a2 ∧ ¬ a3 < a1 := by
  unfold f_X7_in at h
  by_cases h1 : a1 < a2
  · rw [if_pos h1] at h; exact absurd rfl h
  · rw [if_neg h1] at h
    by_cases h2 : a3 < a1
    · rw [if_pos h2] at h; exact absurd rfl h
    · exact ⟨h1, h2⟩
theorem in_N {a1 : Int32} {n N : Nat} (hn : n ≤ N) (hN : N ≤ 20) (h : ¬ f_X7_in a1 0 (nI n - 1) = 0) : vp_in a1 N := by
  obtain ⟨h1, h2⟩ := in_of h
  rw [fa_lt] at h1 h2
  rw [nI_pr9 n (by omega)] at h2
  rw [vp_in_iff]
  have e : (0 : Int32).toInt = 0 := by decide
  omega
theorem in_in {a1 : Int32} (h : ¬ f_X7_in a1 0 4 = 0) : vp_in a1 5 := in_N (n := 5) (by decide) (by decide) h
theorem isOffice_in {a1 : Int32} {M : BT} {n m : Nat} (hN : MN M n m) (h : ¬ f_X7_isOffice a1 M = 0) : vp_in a1 6 := by
  unfold f_X7_isOffice at h
  rw [hN.1] at h
  exact in_N hN.2.2.1 (by decide) h
theorem isComplaint_in {a1 : Int32} {M : BT} {n m : Nat} (hN : MN M n m) (h : ¬ f_X7_isComplaint a1 M = 0) : vp_in a1 20 := by
  unfold f_X7_isComplaint at h
  rw [hN.2.1] at h
  exact in_N hN.2.2.2.1 (by decide) h
theorem noComplaint_in {a1 : Int32} {M : BT} {n m : Nat} (hN : MN M n m) (h : (f_X7_noComplaint a1 M).1 = 0) : vp_in a1 20 := by
  unfold f_X7_noComplaint at h
  by_cases h1 : f_X7_isComplaint a1 M = 0
  · simp only [if_pos h1] at h
    exact absurd h (by decide)
  · exact isComplaint_in hN h1
def f_X7_isJoined (a1 : Int32) (M : BT) : Int32 :=
  (if M 12 a1.toNatClampNeg = (-1) then 0 else 1)
set_option maxHeartbeats 4000000 in
set_option maxRecDepth 100000 in
theorem m_X7_isJoined (l : Launch) (g : wG) (S : Nat → BT) (M : BT) (o : (Nat → Int64) × (Nat → UInt64)) (a1 : Int32) (n m9 : Nat) (hN : MN M n m9) (hi : vp_in a1 20) : mI l yX7_isJoined cX7_isJoined 2 (some .boolean) ({ frames := 0, cells := 0, slots := 0, locals := 0 } : Room) 0 0 g (xM S M o) [.ref (gA g (jM 0)), .int a1] (f_X7_isJoined a1 M) (xM S M o) := by
  refine Met.ofW (cc := cX7_isJoined) (maxL := 2) (ret := some .boolean) (by decide) rfl ?_
  intro p9 e s m args below meth c s₁ BL hml hv
  obtain ⟨rfl, hk, hPB⟩ := hv
  have hx := BL.exec
  have hb := BL.bytes
  have hc : CX p9 c cX7_isJoined s _ m RX7 := ⟨hx, hb, findClass_of_methodNamed BL.named, fun w h => atoms_spec BL.pre w (List.mem_cons_of_mem _ h)⟩
  have hr := BL.returns
  have hlocks := BL.notSynchronized
  have hw : WS g s (xM S M o) s.heap [] := ⟨hPB, va_S.rf⟩
  have hl := lv_entry ([.ref (gA g (jM 0)), .int a1]) (n := 2) (Nat.le_of_ble_eq_true rfl)
  rw [lg_entry_eq]
  generalize (lg_sl ([.ref (gA g (jM 0)), .int a1]) ++ List.replicate (2 - (lg_sl ([.ref (gA g (jM 0)), .int a1])).length) Slot.unset).toArray = ls at hl ⊢
  have hl : lv_has ls 2 [(0, .ref (gA g (jM 0))), (1, .int a1)] := hl
  refine lv_aload_n hx hb dX7_isJoined_0 rfl (lv_at hl 0 rfl) ?_
  refine k_get hc hk hw at_M rfl iX7 15 (by decide) q1050 (v := .ref (gA g (jM 12))) rfl dX7_isJoined_1 ?_
  refine lv_iload_n hx hb dX7_isJoined_4 rfl (lv_at hl 1 rfl) ?_
  refine k_iald (f := M 12) (n := a1.toNatClampNeg) hc hk hw (at_Mk (k := 12) (t := 0) (n := 20) (by decide) (by decide) (by decide) (by decide)) hi rfl dX7_isJoined_5 ?_
  refine lv_iconst (v := (-1)) hx hb dX7_isJoined_6 (by decide) ?_
  refine lv_icmp_eq (tgt := 14) hx hb dX7_isJoined_7 (by decide) (fun h1 => ?_) (fun h1 => ?_)
  · refine lv_iconst (v := 0) hx hb dX7_isJoined_14 (by decide) ?_
    exact W.zret (v := 0) hx hb hr (by decide +kernel) (fun t9 ht hW => ke_i hw ht (by simp only [f_X7_isJoined, if_pos h1]) rfl) hw.2.2.2 dX7_isJoined_15
  · refine lv_iconst (v := 1) hx hb dX7_isJoined_10 (by decide) ?_
    refine lv_goto (tgt := 15) hx hb dX7_isJoined_11 (by decide) ?_
    exact W.zret (v := 1) hx hb hr (by decide +kernel) (fun t9 ht hW => ke_i hw ht (by simp only [f_X7_isJoined, if_neg h1]) rfl) hw.2.2.2 dX7_isJoined_15
def f_X7_leading (a1 : Int32) (M : BT) : Int32 :=
  (if f_X7_isJoined a1 M = 0 then a1 else M 12 a1.toNatClampNeg)
set_option maxHeartbeats 4000000 in
set_option maxRecDepth 100000 in
theorem m_X7_leading (l : Launch) (g : wG) (S : Nat → BT) (M : BT) (o : (Nat → Int64) × (Nat → UInt64)) (a1 : Int32) (n m9 : Nat) (hN : MN M n m9) (hi : vp_in a1 20) : mI l yX7_leading cX7_leading 2 (some .int) ({ frames := 1, cells := 0, slots := 0, locals := 21 } : Room) 0 0 g (xM S M o) [.ref (gA g (jM 0)), .int a1] (f_X7_leading a1 M) (xM S M o) := by
  refine Met.ofW (cc := cX7_leading) (maxL := 2) (ret := some .int) (by decide) rfl ?_
  intro p9 e s m args below meth c s₁ BL hml hv
  obtain ⟨rfl, hk, hPB⟩ := hv
  have hx := BL.exec
  have hb := BL.bytes
  have hc : CX p9 c cX7_leading s _ m RX7 := ⟨hx, hb, findClass_of_methodNamed BL.named, fun w h => atoms_spec BL.pre w (List.mem_cons_of_mem _ h)⟩
  have hr := BL.returns
  have hlocks := BL.notSynchronized
  have hw : WS g s (xM S M o) s.heap [] := ⟨hPB, va_S.rf⟩
  have hl := lv_entry ([.ref (gA g (jM 0)), .int a1]) (n := 2) (Nat.le_of_ble_eq_true rfl)
  rw [lg_entry_eq]
  generalize (lg_sl ([.ref (gA g (jM 0)), .int a1]) ++ List.replicate (2 - (lg_sl ([.ref (gA g (jM 0)), .int a1])).length) Slot.unset).toArray = ls at hl ⊢
  have hl : lv_has ls 2 [(0, .ref (gA g (jM 0))), (1, .int a1)] := hl
  refine lv_aload_n hx hb dX7_leading_0 rfl (lv_at hl 0 rfl) ?_
  refine lv_iload_n hx hb dX7_leading_1 rfl (lv_at hl 1 rfl) ?_
  refine kc_i hw (va_runV (As := [.int a1]) (rest := []) ⟨hx, hb, hml, hc.2.2.1, hc.2.2.2⟩ (m_X7_isJoined l g S M o a1 _ _ hN hi) (kw_V hc 1 q1148 q1150 qs61 q8 q1151 rfl rfl (by decide +kernel) ⟨Nat.le_of_ble_eq_true rfl, Nat.le_of_ble_eq_true rfl⟩) (kp_V hk hw at_M rfl) rfl rfl hl.1 rfl (lv_room (Nat.le_of_ble_eq_true rfl)) dX7_leading_2 ⟨Nat.le_of_ble_eq_true rfl, Nat.le_of_ble_eq_true rfl⟩) (fun H locs hw => ?_)
  refine lv_if_eq (tgt := 17) hx hb dX7_leading_5 (by decide) (fun h1 => ?_) (fun h1 => ?_)
  · refine lv_iload_n hx hb dX7_leading_17 rfl (lv_at hl 1 rfl) ?_
    exact W.iret (v := a1) hx hb hr (fun t9 ht hW => ke_i hw ht (by simp only [f_X7_leading, if_pos h1]) rfl) hw.2.2.2 dX7_leading_18
  · refine lv_aload_n hx hb dX7_leading_8 rfl (lv_at hl 0 rfl) ?_
    refine k_get hc hk hw at_M rfl iX7 15 (by decide) q1050 (v := .ref (gA g (jM 12))) rfl dX7_leading_9 ?_
    refine lv_iload_n hx hb dX7_leading_12 rfl (lv_at hl 1 rfl) ?_
    refine k_iald (f := M 12) (n := a1.toNatClampNeg) hc hk hw (at_Mk (k := 12) (t := 0) (n := 20) (by decide) (by decide) (by decide) (by decide)) hi rfl dX7_leading_13 ?_
    refine lv_goto (tgt := 18) hx hb dX7_leading_14 (by decide) ?_
    exact W.iret (v := M 12 a1.toNatClampNeg) hx hb hr (fun t9 ht hW => ke_i hw ht (by simp only [f_X7_leading, if_neg h1]) rfl) hw.2.2.2 dX7_leading_18
theorem leading_in {a1 : Int32} {M : BT} {n m : Nat} (hN : MN M n m) (hi : vp_in a1 20) : vp_in (f_X7_leading a1 M) 20 := by
  unfold f_X7_leading f_X7_isJoined
  by_cases h : M 12 a1.toNatClampNeg = -1
  · simp [h, hi]
  · simp [h, MN.ld hN (vp_lt hi) h]
def f_X7_standing (a1 : Int32) (M : BT) : Int32 :=
  M 11 ((f_X7_leading a1 M).toNatClampNeg)
set_option maxHeartbeats 4000000 in
set_option maxRecDepth 100000 in
theorem m_X7_standing (l : Launch) (g : wG) (S : Nat → BT) (M : BT) (o : (Nat → Int64) × (Nat → UInt64)) (a1 : Int32) (n m9 : Nat) (hN : MN M n m9) (hi : vp_in a1 20) : mI l yX7_standing cX7_standing 2 (some .char) ({ frames := 2, cells := 0, slots := 0, locals := 42 } : Room) 0 0 g (xM S M o) [.ref (gA g (jM 0)), .int a1] (f_X7_standing a1 M) (xM S M o) := by
  refine Met.ofW (cc := cX7_standing) (maxL := 2) (ret := some .char) (by decide) rfl ?_
  intro p9 e s m args below meth c s₁ BL hml hv
  obtain ⟨rfl, hk, hPB⟩ := hv
  have hx := BL.exec
  have hb := BL.bytes
  have hc : CX p9 c cX7_standing s _ m RX7 := ⟨hx, hb, findClass_of_methodNamed BL.named, fun w h => atoms_spec BL.pre w (List.mem_cons_of_mem _ h)⟩
  have hr := BL.returns
  have hlocks := BL.notSynchronized
  have hw : WS g s (xM S M o) s.heap [] := ⟨hPB, va_S.rf⟩
  have hl := lv_entry ([.ref (gA g (jM 0)), .int a1]) (n := 2) (Nat.le_of_ble_eq_true rfl)
  rw [lg_entry_eq]
  generalize (lg_sl ([.ref (gA g (jM 0)), .int a1]) ++ List.replicate (2 - (lg_sl ([.ref (gA g (jM 0)), .int a1])).length) Slot.unset).toArray = ls at hl ⊢
  have hl : lv_has ls 2 [(0, .ref (gA g (jM 0))), (1, .int a1)] := hl
  refine lv_aload_n hx hb dX7_standing_0 rfl (lv_at hl 0 rfl) ?_
  refine k_get hc hk hw at_M rfl iX7 14 (by decide) q1049 (v := .ref (gA g (jM 11))) rfl dX7_standing_1 ?_
  refine lv_aload_n hx hb dX7_standing_4 rfl (lv_at hl 0 rfl) ?_
  refine lv_iload_n hx hb dX7_standing_5 rfl (lv_at hl 1 rfl) ?_
  refine kc_i hw (va_runV (As := [.int a1]) (rest := [.ref (gA g (jM 11))]) ⟨hx, hb, hml, hc.2.2.1, hc.2.2.2⟩ (m_X7_leading l g S M o a1 _ _ hN hi) (kw_V hc 1 q1144 q1146 qs60 q8 q1147 rfl rfl (by decide +kernel) ⟨Nat.le_of_ble_eq_true rfl, Nat.le_of_ble_eq_true rfl⟩) (kp_V hk hw at_M rfl) rfl rfl hl.1 rfl (lv_room (Nat.le_of_ble_eq_true rfl)) dX7_standing_6 ⟨Nat.le_of_ble_eq_true rfl, Nat.le_of_ble_eq_true rfl⟩) (fun H locs hw => ?_)
  refine k_cald (f := M 11) (n := ((f_X7_leading a1 M).toNatClampNeg)) hc hk hw (at_Mk (k := 11) (t := 1) (n := 20) (by decide) (by decide) (by decide) (by decide)) (leading_in hN hi) rfl dX7_standing_9 ?_
  exact W.zret (v := M 11 ((f_X7_leading a1 M).toNatClampNeg)) hx hb hr (MN.ch hN (vp_lt (leading_in hN hi))).1 (fun t9 ht hW => ke_i hw ht (by simp only [f_X7_standing]) rfl) hw.2.2.2 dX7_standing_10
theorem standing_ok {a1 : Int32} {M : BT} {n m : Nat} (hN : MN M n m) (hi : vp_in a1 20) : okc (f_X7_standing a1 M) := hN.ch (vp_lt (leading_in hN hi))
def f_X7_isClosed (a1 : Int32) : Int32 :=
  (if a1 = 111 then 1 else (if a1 = 108 then 1 else (if a1 = 117 then 1 else (if a1 = 104 then 1 else (if a1 = 105 then 1 else (if a1 = 119 then 1 else 0))))))
set_option maxHeartbeats 4000000 in
set_option maxRecDepth 100000 in
theorem m_X7_isClosed (l : Launch) (g : wG) (S : Nat → BT) (M : BT) (o : (Nat → Int64) × (Nat → UInt64)) (a1 : Int32) : mI l yX7_isClosed cX7_isClosed 1 (some .boolean) ({ frames := 0, cells := 0, slots := 0, locals := 0 } : Room) 0 0 g (xM S M o) [.int a1] (f_X7_isClosed a1) (xM S M o) := by
  refine Met.ofW (cc := cX7_isClosed) (maxL := 1) (ret := some .boolean) (by decide) rfl ?_
  intro p9 e s m args below meth c s₁ BL hml hv
  obtain ⟨rfl, hk, hPB⟩ := hv
  have hx := BL.exec
  have hb := BL.bytes
  have hc : CX p9 c cX7_isClosed s _ m RX7 := ⟨hx, hb, findClass_of_methodNamed BL.named, fun w h => atoms_spec BL.pre w (List.mem_cons_of_mem _ h)⟩
  have hr := BL.returns
  have hlocks := BL.notSynchronized
  have hw : WS g s (xM S M o) s.heap [] := ⟨hPB, va_S.rf⟩
  have hl := lv_entry ([.int a1]) (n := 1) (Nat.le_of_ble_eq_true rfl)
  rw [lg_entry_eq]
  generalize (lg_sl ([.int a1]) ++ List.replicate (1 - (lg_sl ([.int a1])).length) Slot.unset).toArray = ls at hl ⊢
  have hl : lv_has ls 1 [(0, .int a1)] := hl
  refine lv_iload_n hx hb dX7_isClosed_0 rfl (lv_at hl 0 rfl) ?_
  refine lv_bipush (v := 111) hx hb dX7_isClosed_1 (by decide) ?_
  refine lv_icmp_eq (tgt := 36) hx hb dX7_isClosed_3 (by decide) (fun h1 => ?_) (fun h1 => ?_)
  · refine lv_iconst (v := 1) hx hb dX7_isClosed_36 (by decide) ?_
    refine lv_goto (tgt := 41) hx hb dX7_isClosed_37 (by decide) ?_
    exact W.zret (v := 1) hx hb hr (by decide +kernel) (fun t9 ht hW => ke_i hw ht (by simp only [f_X7_isClosed, if_pos h1]) rfl) hw.2.2.2 dX7_isClosed_41
  · refine lv_iload_n hx hb dX7_isClosed_6 rfl (lv_at hl 0 rfl) ?_
    refine lv_bipush (v := 108) hx hb dX7_isClosed_7 (by decide) ?_
    refine lv_icmp_eq (tgt := 36) hx hb dX7_isClosed_9 (by decide) (fun h2 => ?_) (fun h2 => ?_)
    · refine lv_iconst (v := 1) hx hb dX7_isClosed_36 (by decide) ?_
      refine lv_goto (tgt := 41) hx hb dX7_isClosed_37 (by decide) ?_
      exact W.zret (v := 1) hx hb hr (by decide +kernel) (fun t9 ht hW => ke_i hw ht (by simp only [f_X7_isClosed, if_neg h1, if_pos h2]) rfl) hw.2.2.2 dX7_isClosed_41
    · refine lv_iload_n hx hb dX7_isClosed_12 rfl (lv_at hl 0 rfl) ?_
      refine lv_bipush (v := 117) hx hb dX7_isClosed_13 (by decide) ?_
      refine lv_icmp_eq (tgt := 36) hx hb dX7_isClosed_15 (by decide) (fun h3 => ?_) (fun h3 => ?_)
      · refine lv_iconst (v := 1) hx hb dX7_isClosed_36 (by decide) ?_
        refine lv_goto (tgt := 41) hx hb dX7_isClosed_37 (by decide) ?_
        exact W.zret (v := 1) hx hb hr (by decide +kernel) (fun t9 ht hW => ke_i hw ht (by simp only [f_X7_isClosed, if_neg h1, if_neg h2, if_pos h3]) rfl) hw.2.2.2 dX7_isClosed_41
      · refine lv_iload_n hx hb dX7_isClosed_18 rfl (lv_at hl 0 rfl) ?_
        refine lv_bipush (v := 104) hx hb dX7_isClosed_19 (by decide) ?_
        refine lv_icmp_eq (tgt := 36) hx hb dX7_isClosed_21 (by decide) (fun h4 => ?_) (fun h4 => ?_)
        · refine lv_iconst (v := 1) hx hb dX7_isClosed_36 (by decide) ?_
          refine lv_goto (tgt := 41) hx hb dX7_isClosed_37 (by decide) ?_
          exact W.zret (v := 1) hx hb hr (by decide +kernel) (fun t9 ht hW => ke_i hw ht (by simp only [f_X7_isClosed, if_neg h1, if_neg h2, if_neg h3, if_pos h4]) rfl) hw.2.2.2 dX7_isClosed_41
        · refine lv_iload_n hx hb dX7_isClosed_24 rfl (lv_at hl 0 rfl) ?_
          refine lv_bipush (v := 105) hx hb dX7_isClosed_25 (by decide) ?_
          refine lv_icmp_eq (tgt := 36) hx hb dX7_isClosed_27 (by decide) (fun h5 => ?_) (fun h5 => ?_)
          · refine lv_iconst (v := 1) hx hb dX7_isClosed_36 (by decide) ?_
            refine lv_goto (tgt := 41) hx hb dX7_isClosed_37 (by decide) ?_
            exact W.zret (v := 1) hx hb hr (by decide +kernel) (fun t9 ht hW => ke_i hw ht (by simp only [f_X7_isClosed, if_neg h1, if_neg h2, if_neg h3, if_neg h4, if_pos h5]) rfl) hw.2.2.2 dX7_isClosed_41
          · refine lv_iload_n hx hb dX7_isClosed_30 rfl (lv_at hl 0 rfl) ?_
            refine lv_bipush (v := 119) hx hb dX7_isClosed_31 (by decide) ?_
            refine lv_icmp_ne (tgt := 40) hx hb dX7_isClosed_33 (by decide) (fun h6 => ?_) (fun h6 => ?_)
            · refine lv_iconst (v := 0) hx hb dX7_isClosed_40 (by decide) ?_
              exact W.zret (v := 0) hx hb hr (by decide +kernel) (fun t9 ht hW => ke_i hw ht (by simp only [f_X7_isClosed, if_neg h1, if_neg h2, if_neg h3, if_neg h4, if_neg h5, if_neg h6]) rfl) hw.2.2.2 dX7_isClosed_41
            · refine lv_iconst (v := 1) hx hb dX7_isClosed_36 (by decide) ?_
              refine lv_goto (tgt := 41) hx hb dX7_isClosed_37 (by decide) ?_
              exact W.zret (v := 1) hx hb hr (by decide +kernel) (fun t9 ht hW => ke_i hw ht (by simp only [f_X7_isClosed, if_neg h1, if_neg h2, if_neg h3, if_neg h4, if_neg h5, if_pos h6]) rfl) hw.2.2.2 dX7_isClosed_41
theorem okz_X7_isClosed {a1 : Int32} : okz (f_X7_isClosed a1) := by
  unfold f_X7_isClosed
  (repeat' split) <;> first | exact okz_0 | exact okz_1
def f_X7_isState (a1 : Int32) : Int32 :=
  (if a1 = 110 then 1 else (if a1 = 102 then 1 else (if a1 = 114 then 1 else (if a1 = 97 then 1 else (if a1 = 115 then 1 else (if a1 = 100 then 1 else (if f_X7_isClosed a1 = 0 then 0 else 1)))))))
set_option maxHeartbeats 4000000 in
set_option maxRecDepth 100000 in
theorem m_X7_isState (l : Launch) (g : wG) (S : Nat → BT) (M : BT) (o : (Nat → Int64) × (Nat → UInt64)) (a1 : Int32) : mI l yX7_isState cX7_isState 1 (some .boolean) ({ frames := 1, cells := 0, slots := 0, locals := 20 } : Room) 0 0 g (xM S M o) [.int a1] (f_X7_isState a1) (xM S M o) := by
  refine Met.ofW (cc := cX7_isState) (maxL := 1) (ret := some .boolean) (by decide) rfl ?_
  intro p9 e s m args below meth c s₁ BL hml hv
  obtain ⟨rfl, hk, hPB⟩ := hv
  have hx := BL.exec
  have hb := BL.bytes
  have hc : CX p9 c cX7_isState s _ m RX7 := ⟨hx, hb, findClass_of_methodNamed BL.named, fun w h => atoms_spec BL.pre w (List.mem_cons_of_mem _ h)⟩
  have hr := BL.returns
  have hlocks := BL.notSynchronized
  have hw : WS g s (xM S M o) s.heap [] := ⟨hPB, va_S.rf⟩
  have hl := lv_entry ([.int a1]) (n := 1) (Nat.le_of_ble_eq_true rfl)
  rw [lg_entry_eq]
  generalize (lg_sl ([.int a1]) ++ List.replicate (1 - (lg_sl ([.int a1])).length) Slot.unset).toArray = ls at hl ⊢
  have hl : lv_has ls 1 [(0, .int a1)] := hl
  refine lv_iload_n hx hb dX7_isState_0 rfl (lv_at hl 0 rfl) ?_
  refine lv_bipush (v := 110) hx hb dX7_isState_1 (by decide) ?_
  refine lv_icmp_eq (tgt := 43) hx hb dX7_isState_3 (by decide) (fun h1 => ?_) (fun h1 => ?_)
  · refine lv_iconst (v := 1) hx hb dX7_isState_43 (by decide) ?_
    refine lv_goto (tgt := 48) hx hb dX7_isState_44 (by decide) ?_
    exact W.zret (v := 1) hx hb hr (by decide +kernel) (fun t9 ht hW => ke_i hw ht (by simp only [f_X7_isState, if_pos h1]) rfl) hw.2.2.2 dX7_isState_48
  · refine lv_iload_n hx hb dX7_isState_6 rfl (lv_at hl 0 rfl) ?_
    refine lv_bipush (v := 102) hx hb dX7_isState_7 (by decide) ?_
    refine lv_icmp_eq (tgt := 43) hx hb dX7_isState_9 (by decide) (fun h2 => ?_) (fun h2 => ?_)
    · refine lv_iconst (v := 1) hx hb dX7_isState_43 (by decide) ?_
      refine lv_goto (tgt := 48) hx hb dX7_isState_44 (by decide) ?_
      exact W.zret (v := 1) hx hb hr (by decide +kernel) (fun t9 ht hW => ke_i hw ht (by simp only [f_X7_isState, if_neg h1, if_pos h2]) rfl) hw.2.2.2 dX7_isState_48
    · refine lv_iload_n hx hb dX7_isState_12 rfl (lv_at hl 0 rfl) ?_
      refine lv_bipush (v := 114) hx hb dX7_isState_13 (by decide) ?_
      refine lv_icmp_eq (tgt := 43) hx hb dX7_isState_15 (by decide) (fun h3 => ?_) (fun h3 => ?_)
      · refine lv_iconst (v := 1) hx hb dX7_isState_43 (by decide) ?_
        refine lv_goto (tgt := 48) hx hb dX7_isState_44 (by decide) ?_
        exact W.zret (v := 1) hx hb hr (by decide +kernel) (fun t9 ht hW => ke_i hw ht (by simp only [f_X7_isState, if_neg h1, if_neg h2, if_pos h3]) rfl) hw.2.2.2 dX7_isState_48
      · refine lv_iload_n hx hb dX7_isState_18 rfl (lv_at hl 0 rfl) ?_
        refine lv_bipush (v := 97) hx hb dX7_isState_19 (by decide) ?_
        refine lv_icmp_eq (tgt := 43) hx hb dX7_isState_21 (by decide) (fun h4 => ?_) (fun h4 => ?_)
        · refine lv_iconst (v := 1) hx hb dX7_isState_43 (by decide) ?_
          refine lv_goto (tgt := 48) hx hb dX7_isState_44 (by decide) ?_
          exact W.zret (v := 1) hx hb hr (by decide +kernel) (fun t9 ht hW => ke_i hw ht (by simp only [f_X7_isState, if_neg h1, if_neg h2, if_neg h3, if_pos h4]) rfl) hw.2.2.2 dX7_isState_48
        · refine lv_iload_n hx hb dX7_isState_24 rfl (lv_at hl 0 rfl) ?_
          refine lv_bipush (v := 115) hx hb dX7_isState_25 (by decide) ?_
          refine lv_icmp_eq (tgt := 43) hx hb dX7_isState_27 (by decide) (fun h5 => ?_) (fun h5 => ?_)
          · refine lv_iconst (v := 1) hx hb dX7_isState_43 (by decide) ?_
            refine lv_goto (tgt := 48) hx hb dX7_isState_44 (by decide) ?_
            exact W.zret (v := 1) hx hb hr (by decide +kernel) (fun t9 ht hW => ke_i hw ht (by simp only [f_X7_isState, if_neg h1, if_neg h2, if_neg h3, if_neg h4, if_pos h5]) rfl) hw.2.2.2 dX7_isState_48
          · refine lv_iload_n hx hb dX7_isState_30 rfl (lv_at hl 0 rfl) ?_
            refine lv_bipush (v := 100) hx hb dX7_isState_31 (by decide) ?_
            refine lv_icmp_eq (tgt := 43) hx hb dX7_isState_33 (by decide) (fun h6 => ?_) (fun h6 => ?_)
            · refine lv_iconst (v := 1) hx hb dX7_isState_43 (by decide) ?_
              refine lv_goto (tgt := 48) hx hb dX7_isState_44 (by decide) ?_
              exact W.zret (v := 1) hx hb hr (by decide +kernel) (fun t9 ht hW => ke_i hw ht (by simp only [f_X7_isState, if_neg h1, if_neg h2, if_neg h3, if_neg h4, if_neg h5, if_pos h6]) rfl) hw.2.2.2 dX7_isState_48
            · refine lv_iload_n hx hb dX7_isState_36 rfl (lv_at hl 0 rfl) ?_
              refine kc_i hw (va_runS (As := [.int a1]) (rest := []) ⟨hx, hb, hml, hc.2.2.1, hc.2.2.2⟩ (m_X7_isClosed l g S M o a1) (kw_S hc 1 q1192 q1193 q8 q1194 rfl rfl (by decide +kernel) ⟨Nat.le_of_ble_eq_true rfl, Nat.le_of_ble_eq_true rfl⟩) (kp_S hk hw) rfl rfl hl.1 rfl (lv_room (Nat.le_of_ble_eq_true rfl)) dX7_isState_37 ⟨Nat.le_of_ble_eq_true rfl, Nat.le_of_ble_eq_true rfl⟩) (fun H locs hw => ?_)
              refine lv_if_eq (tgt := 47) hx hb dX7_isState_40 (by decide) (fun h7 => ?_) (fun h7 => ?_)
              · refine lv_iconst (v := 0) hx hb dX7_isState_47 (by decide) ?_
                exact W.zret (v := 0) hx hb hr (by decide +kernel) (fun t9 ht hW => ke_i hw ht (by simp only [f_X7_isState, if_neg h1, if_neg h2, if_neg h3, if_neg h4, if_neg h5, if_neg h6, if_pos h7]) rfl) hw.2.2.2 dX7_isState_48
              · refine lv_iconst (v := 1) hx hb dX7_isState_43 (by decide) ?_
                refine lv_goto (tgt := 48) hx hb dX7_isState_44 (by decide) ?_
                exact W.zret (v := 1) hx hb hr (by decide +kernel) (fun t9 ht hW => ke_i hw ht (by simp only [f_X7_isState, if_neg h1, if_neg h2, if_neg h3, if_neg h4, if_neg h5, if_neg h6, if_neg h7]) rfl) hw.2.2.2 dX7_isState_48
theorem okz_X7_isState {a1 : Int32} : okz (f_X7_isState a1) := by
  unfold f_X7_isState
  (repeat' split) <;> first | exact okz_0 | exact okz_1
def b_joinedTo (a1 : Int32) (M : BT) (k : Nat) (z : Int32) : Int32 :=
  (if M 12 k = a1 then z + 1 else z + 0)
def L_joinedTo (a1 : Int32) (M : BT) : Nat → Int32
  | 0 => 0
  | k + 1 => b_joinedTo a1 M k (L_joinedTo a1 M k)
def f_X7_joinedTo (a1 : Int32) (M : BT) : Int32 :=
  (L_joinedTo a1 M ((M 0 3).toNatClampNeg))
set_option maxHeartbeats 4000000 in
set_option maxRecDepth 100000 in
theorem m_X7_joinedTo (l : Launch) (g : wG) (S : Nat → BT) (M : BT) (o : (Nat → Int64) × (Nat → UInt64)) (a1 : Int32) (n m9 : Nat) (hN : MN M n m9) : mI l yX7_joinedTo cX7_joinedTo 4 (some .int) ({ frames := 0, cells := 0, slots := 0, locals := 0 } : Room) 0 0 g (xM S M o) [.ref (gA g (jM 0)), .int a1] (f_X7_joinedTo a1 M) (xM S M o) := by
  refine Met.ofW (cc := cX7_joinedTo) (maxL := 4) (ret := some .int) (by decide) rfl ?_
  intro p9 e s m args below meth c s₁ BL hml hv
  obtain ⟨rfl, hk, hPB⟩ := hv
  have hx := BL.exec
  have hb := BL.bytes
  have hc : CX p9 c cX7_joinedTo s _ m RX7 := ⟨hx, hb, findClass_of_methodNamed BL.named, fun w h => atoms_spec BL.pre w (List.mem_cons_of_mem _ h)⟩
  have hr := BL.returns
  have hlocks := BL.notSynchronized
  have hw : WS g s (xM S M o) s.heap [] := ⟨hPB, va_S.rf⟩
  have hl := lv_entry ([.ref (gA g (jM 0)), .int a1]) (n := 4) (Nat.le_of_ble_eq_true rfl)
  rw [lg_entry_eq]
  generalize (lg_sl ([.ref (gA g (jM 0)), .int a1]) ++ List.replicate (4 - (lg_sl ([.ref (gA g (jM 0)), .int a1])).length) Slot.unset).toArray = ls at hl ⊢
  have hl : lv_has ls 4 [(0, .ref (gA g (jM 0))), (1, .int a1)] := hl
  refine lv_iconst (v := 0) hx hb dX7_joinedTo_0 (by decide) ?_
  refine lv_istore_n (lv' := [(2, .int 0), (0, .ref (gA g (jM 0))), (1, .int a1)]) hx hb dX7_joinedTo_1 rfl hl (by decide) rfl (fun ls hl => ?_)
  refine lv_iconst (v := 0) hx hb dX7_joinedTo_2 (by decide) ?_
  refine lv_istore_n (lv' := [(3, .int 0), (2, .int 0), (0, .ref (gA g (jM 0))), (1, .int a1)]) hx hb dX7_joinedTo_3 rfl hl (by decide) rfl (fun ls hl => ?_)
  have LP1 : ∀ (f k : Nat), k ≤ (M 0 3).toNatClampNeg → (M 0 3).toNatClampNeg + 1 ≤ k + f → ∀ (H : Heap) (locs : List Loc), WS g s (xM S M o) H locs → ∀ (ls : Array Slot), lv_has ls 4 [(3, .int (nI k)), (2, .int (L_joinedTo a1 M k)), (0, .ref (gA g (jM 0))), (1, .int a1)] → W p9 l e ({ frames := 0, cells := 0, slots := 0, locals := 0 } : Room) s m ([.ref (gA g (jM 0)), .int a1] : List Value).toArray below meth c H locs 0 0 (MQ below (va_Qi (fun (v : Int32) (u : wSt) => v = f_X7_joinedTo a1 M ∧ u = (xM S M o)) (PB g) (AA g)) (([.ref (gA g (jM 0)), .int a1] : List Value).toArray) s 0 0 (AA g)) (F0 m 4 ls []) := by
    intro f
    induction f with
    | zero => intro k h1 h2; exact absurd h2 (by omega)
    | succ f ih =>
      intro k hk9 hf9 H locs hw ls hl
      have hl4 := MN.l4 hN
      refine lv_iload_n hx hb dX7_joinedTo_4 rfl (lv_at hl 0 rfl) ?_
      refine lv_aload_n hx hb dX7_joinedTo_5 rfl (lv_at hl 2 rfl) ?_
      refine k_get hc hk hw at_M rfl iX7 3 (by decide) q1038 (v := .int (M 0 3)) rfl dX7_joinedTo_6 ?_
      refine lv_icmp_ge (tgt := 36) hx hb dX7_joinedTo_9 (by decide) (fun h2 => ?_) (fun h2 => ?_)
      · have hkn := lp_out h2 (MN.cc hN hN) hk9 (by omega)
        subst hkn
        refine lv_iload_n hx hb dX7_joinedTo_36 rfl (lv_at hl 1 rfl) ?_
        exact W.iret (v := (L_joinedTo a1 M ((M 0 3).toNatClampNeg))) hx hb hr (fun t9 ht hW => ke_i hw ht (by simp only [f_X7_joinedTo]) rfl) hw.2.2.2 dX7_joinedTo_37
      · have hkn := lp_in h2 (MN.cc hN hN) hk9 (by omega)
        refine lv_iload_n hx hb dX7_joinedTo_12 rfl (lv_at hl 1 rfl) ?_
        refine lv_aload_n hx hb dX7_joinedTo_13 rfl (lv_at hl 2 rfl) ?_
        refine k_get hc hk hw at_M rfl iX7 15 (by decide) q1050 (v := .ref (gA g (jM 12))) rfl dX7_joinedTo_14 ?_
        refine lv_iload_n hx hb dX7_joinedTo_17 rfl (lv_at hl 0 rfl) ?_
        refine k_iald (f := M 12) (n := k) hc hk hw (at_Mk (k := 12) (t := 0) (n := 20) (by decide) (by decide) (by decide) (by decide)) (vp_in_nI (Nat.lt_of_lt_of_le hkn (by omega)) (by omega)) (nI_clamp (by have := hkn; omega)) dX7_joinedTo_18 ?_
        refine lv_iload_n hx hb dX7_joinedTo_19 rfl (lv_at hl 3 rfl) ?_
        refine lv_icmp_ne (tgt := 27) hx hb dX7_joinedTo_20 (by decide) (fun h3 => ?_) (fun h3 => ?_)
        · refine lv_iconst (v := 0) hx hb dX7_joinedTo_27 (by decide) ?_
          refine lv_iadd hx hb dX7_joinedTo_28 ?_
          refine lv_istore_n (lv' := [(2, .int ((L_joinedTo a1 M k) + 0)), (3, .int (nI k)), (0, .ref (gA g (jM 0))), (1, .int a1)]) hx hb dX7_joinedTo_29 rfl hl (by decide) rfl (fun ls hl => ?_)
          refine lv_iinc (v := nI (k + 1)) (lv' := [(3, .int (nI (k + 1))), (2, .int ((L_joinedTo a1 M k) + 0)), (0, .ref (gA g (jM 0))), (1, .int a1)]) hx hb dX7_joinedTo_30 hl (k := 1) rfl (by first | exact (nI_succ _).symm | rfl) (by decide) rfl (fun ls hl => ?_)
          refine lv_goto (tgt := 4) hx hb dX7_joinedTo_33 (by decide) ?_
          have hw9 : WS g s (xM S M o) H locs := by
            exact hw
          have hl9 := lv_sub hl [0, 1, 2, 3] rfl
          have e8 : (L_joinedTo a1 M k) + 0 = (L_joinedTo a1 M (k + 1)) := by simp only [L_joinedTo, b_joinedTo, if_neg h3]
          rw [e8] at hl9
          exact ih (k + 1) (by omega) (by omega) _ _ hw9 _ hl9
        · refine lv_iconst (v := 1) hx hb dX7_joinedTo_23 (by decide) ?_
          refine lv_goto (tgt := 28) hx hb dX7_joinedTo_24 (by decide) ?_
          refine lv_iadd hx hb dX7_joinedTo_28 ?_
          refine lv_istore_n (lv' := [(2, .int ((L_joinedTo a1 M k) + 1)), (3, .int (nI k)), (0, .ref (gA g (jM 0))), (1, .int a1)]) hx hb dX7_joinedTo_29 rfl hl (by decide) rfl (fun ls hl => ?_)
          refine lv_iinc (v := nI (k + 1)) (lv' := [(3, .int (nI (k + 1))), (2, .int ((L_joinedTo a1 M k) + 1)), (0, .ref (gA g (jM 0))), (1, .int a1)]) hx hb dX7_joinedTo_30 hl (k := 1) rfl (by first | exact (nI_succ _).symm | rfl) (by decide) rfl (fun ls hl => ?_)
          refine lv_goto (tgt := 4) hx hb dX7_joinedTo_33 (by decide) ?_
          have hw9 : WS g s (xM S M o) H locs := by
            exact hw
          have hl9 := lv_sub hl [0, 1, 2, 3] rfl
          have e8 : (L_joinedTo a1 M k) + 1 = (L_joinedTo a1 M (k + 1)) := by simp only [L_joinedTo, b_joinedTo, if_pos h3]
          rw [e8] at hl9
          exact ih (k + 1) (by omega) (by omega) _ _ hw9 _ hl9
  exact LP1 ((M 0 3).toNatClampNeg + 1) 0 (Nat.zero_le _) (by omega) _ _ hw _ (lv_sub hl [0, 1, 2, 3] rfl)
def f_X7_closes (a1 : Int32) (a2 : Int32) (M : BT) : BT :=
  up2 (up2 M 11 a1.toNatClampNeg a2) 24 a1.toNatClampNeg (M 0 1)
theorem cn_X7_closes {a1 : Int32} {a2 : Int32} {M : BT} {n m9 : Nat} (ha2 : okc a2) (hN : MN M n m9) : MN (f_X7_closes a1 a2 M) n m9 := by
  unfold f_X7_closes
  exact (MN.upf (by decide) (by decide) (by decide) (by decide) (by decide) (by decide) (by decide) (by decide) (MN.up11 ha2 hN))
set_option maxHeartbeats 4000000 in
set_option maxRecDepth 100000 in
theorem m_X7_closes (l : Launch) (g : wG) (S : Nat → BT) (M : BT) (o : (Nat → Int64) × (Nat → UInt64)) (a1 : Int32) (a2 : Int32) (ha2 : okc a2) (n m9 : Nat) (hN : MN M n m9) (hi : vp_in a1 20) : mV l yX7_closes cX7_closes 3 ({ frames := 0, cells := 0, slots := 0, locals := 0 } : Room) 0 0 g (xM S M o) [.ref (gA g (jM 0)), .int a1, .int a2] (xM S (f_X7_closes a1 a2 M) o) := by
  refine Met.ofW (cc := cX7_closes) (maxL := 3) (ret := none) (by decide) rfl ?_
  intro p9 e s m args below meth c s₁ BL hml hv
  obtain ⟨rfl, hk, hPB⟩ := hv
  have hx := BL.exec
  have hb := BL.bytes
  have hc : CX p9 c cX7_closes s _ m RX7 := ⟨hx, hb, findClass_of_methodNamed BL.named, fun w h => atoms_spec BL.pre w (List.mem_cons_of_mem _ h)⟩
  have hr := BL.returns
  have hlocks := BL.notSynchronized
  have hw : WS g s (xM S M o) s.heap [] := ⟨hPB, va_S.rf⟩
  have hl := lv_entry ([.ref (gA g (jM 0)), .int a1, .int a2]) (n := 3) (Nat.le_of_ble_eq_true rfl)
  rw [lg_entry_eq]
  generalize (lg_sl ([.ref (gA g (jM 0)), .int a1, .int a2]) ++ List.replicate (3 - (lg_sl ([.ref (gA g (jM 0)), .int a1, .int a2])).length) Slot.unset).toArray = ls at hl ⊢
  have hl : lv_has ls 3 [(0, .ref (gA g (jM 0))), (1, .int a1), (2, .int a2)] := hl
  refine lv_aload_n hx hb dX7_closes_0 rfl (lv_at hl 0 rfl) ?_
  refine k_get hc hk hw at_M rfl iX7 14 (by decide) q1049 (v := .ref (gA g (jM 11))) rfl dX7_closes_1 ?_
  refine lv_iload_n hx hb dX7_closes_4 rfl (lv_at hl 1 rfl) ?_
  refine lv_iload_n hx hb dX7_closes_5 rfl (lv_at hl 2 rfl) ?_
  refine k_cast (x' := (xM S (up2 M 11 a1.toNatClampNeg a2) o)) (f := M 11) (n := a1.toNatClampNeg) hc hk hw (at_Mk (k := 11) (t := 1) (n := 20) (by decide) (by decide) (by decide) (by decide)) hi rfl ha2.2.2 dX7_closes_6 (ms_k (k := 11) (t := 1) (n := 20) (by decide) (by decide) (by decide) (by decide)) (fun H locs hw => ?_)
  refine lv_aload_n hx hb dX7_closes_7 rfl (lv_at hl 0 rfl) ?_
  refine k_get hc hk hw at_M rfl iX7 27 (by decide) q1062 (v := .ref (gA g (jM 24))) rfl dX7_closes_8 ?_
  refine lv_iload_n hx hb dX7_closes_11 rfl (lv_at hl 1 rfl) ?_
  refine lv_aload_n hx hb dX7_closes_12 rfl (lv_at hl 0 rfl) ?_
  refine k_get hc hk hw at_M rfl iX7 1 (by decide) q1036 (v := .int (M 0 1)) rfl dX7_closes_13 ?_
  refine k_iast (x' := (xM S (up2 (up2 M 11 a1.toNatClampNeg a2) 24 a1.toNatClampNeg (M 0 1)) o)) (f := (up2 M 11 a1.toNatClampNeg a2) 24) (n := a1.toNatClampNeg) hc hk hw (at_Mk (k := 24) (t := 0) (n := 20) (by decide) (by decide) (by decide) (by decide)) hi rfl dX7_closes_16 (ms_k (k := 24) (t := 0) (n := 20) (by decide) (by decide) (by decide) (by decide)) (fun H locs hw => ?_)
  exact W.vret hx hb hr (fun t9 ht hW => ke_v hw ht (by simp only [f_X7_closes])) hw.2.2.2 dX7_closes_17
def f_X7_addOffice (a1 : Int32) (a2 : Int32) (M : BT) : Int32 × BT :=
  (if f_X7_in a1 1 60 = 0 then (0, up2 M 0 0 1) else (if f_X7_in a2 0 1023 = 0 then (0, up2 M 0 0 1) else (if M 0 2 = 6 then (0, up2 M 0 0 2) else (((M 0 2) + 1) - 1, up2 (up2 (up2 (up2 M 0 0 0) 1 ((M 0 2).toNatClampNeg) a1) 2 ((M 0 2).toNatClampNeg) a2) 0 2 ((M 0 2) + 1)))))
set_option maxHeartbeats 4000000 in
set_option maxRecDepth 100000 in
theorem m_X7_addOffice (l : Launch) (g : wG) (S : Nat → BT) (M : BT) (o : (Nat → Int64) × (Nat → UInt64)) (a1 : Int32) (a2 : Int32) (n m9 : Nat) (hN : MN M n m9) : mI l yX7_addOffice cX7_addOffice 3 (some .int) ({ frames := 1, cells := 0, slots := 0, locals := 22 } : Room) 0 0 g (xM S M o) [.ref (gA g (jM 0)), .int a1, .int a2] ((f_X7_addOffice a1 a2 M).1) (xM S ((f_X7_addOffice a1 a2 M).2) o) := by
  refine Met.ofW (cc := cX7_addOffice) (maxL := 3) (ret := some .int) (by decide) rfl ?_
  intro p9 e s m args below meth c s₁ BL hml hv
  obtain ⟨rfl, hk, hPB⟩ := hv
  have hx := BL.exec
  have hb := BL.bytes
  have hc : CX p9 c cX7_addOffice s _ m RX7 := ⟨hx, hb, findClass_of_methodNamed BL.named, fun w h => atoms_spec BL.pre w (List.mem_cons_of_mem _ h)⟩
  have hr := BL.returns
  have hlocks := BL.notSynchronized
  have hw : WS g s (xM S M o) s.heap [] := ⟨hPB, va_S.rf⟩
  have hl := lv_entry ([.ref (gA g (jM 0)), .int a1, .int a2]) (n := 3) (Nat.le_of_ble_eq_true rfl)
  rw [lg_entry_eq]
  generalize (lg_sl ([.ref (gA g (jM 0)), .int a1, .int a2]) ++ List.replicate (3 - (lg_sl ([.ref (gA g (jM 0)), .int a1, .int a2])).length) Slot.unset).toArray = ls at hl ⊢
  have hl : lv_has ls 3 [(0, .ref (gA g (jM 0))), (1, .int a1), (2, .int a2)] := hl
  refine lv_aload_n hx hb dX7_addOffice_0 rfl (lv_at hl 0 rfl) ?_
  refine lv_iload_n hx hb dX7_addOffice_1 rfl (lv_at hl 1 rfl) ?_
  refine lv_iconst (v := 1) hx hb dX7_addOffice_2 (by decide) ?_
  refine lv_bipush (v := 60) hx hb dX7_addOffice_3 (by decide) ?_
  refine kc_i hw (va_runS (As := [.int a1, .int 1, .int 60]) (rest := [.ref (gA g (jM 0))]) ⟨hx, hb, hml, hc.2.2.1, hc.2.2.2⟩ (m_X7_in l g S M o a1 1 60) (kw_S hc 3 q1133 q1134 q8 q1135 rfl rfl (by decide +kernel) ⟨Nat.le_of_ble_eq_true rfl, Nat.le_of_ble_eq_true rfl⟩) (kp_S hk hw) rfl rfl hl.1 rfl (lv_room (Nat.le_of_ble_eq_true rfl)) dX7_addOffice_5 ⟨Nat.le_of_ble_eq_true rfl, Nat.le_of_ble_eq_true rfl⟩) (fun H locs hw => ?_)
  refine lv_if_eq (tgt := 22) hx hb dX7_addOffice_8 (by decide) (fun h1 => ?_) (fun h1 => ?_)
  · refine lv_iconst (v := 1) hx hb dX7_addOffice_22 (by decide) ?_
    refine lv_goto (tgt := 40) hx hb dX7_addOffice_23 (by decide) ?_
    refine k_put hc hk hw (x' := (xM S (up2 M 0 0 1) o)) at_M rfl iX7 tyX7 tyX7_ok nmX7 0 (by decide) q1035 rfl rfl rfl (Nat.le_of_ble_eq_true rfl) dX7_addOffice_40 (ms_0 (by decide)) (fun H locs hw => ?_)
    refine lv_aload_n hx hb dX7_addOffice_43 rfl (lv_at hl 0 rfl) ?_
    refine k_get hc hk hw at_M rfl iX7 0 (by decide) q1035 (v := .int 1) rfl dX7_addOffice_44 ?_
    refine lv_if_le (tgt := 52) hx hb dX7_addOffice_47 (by decide) (fun h2 => absurd h2 (by decide)) (fun _ => ?_)
    refine lv_iconst (v := 0) hx hb dX7_addOffice_50 (by decide) ?_
    exact W.iret (v := 0) hx hb hr (fun t9 ht hW => ke_i hw ht (by simp only [f_X7_addOffice, if_pos h1]) (by simp only [f_X7_addOffice, if_pos h1])) hw.2.2.2 dX7_addOffice_51
  · refine lv_iload_n hx hb dX7_addOffice_11 rfl (lv_at hl 2 rfl) ?_
    refine lv_iconst (v := 0) hx hb dX7_addOffice_12 (by decide) ?_
    refine lv_sipush (v := 1023) hx hb dX7_addOffice_13 (by decide) ?_
    refine kc_i hw (va_runS (As := [.int a2, .int 0, .int 1023]) (rest := [.ref (gA g (jM 0))]) ⟨hx, hb, hml, hc.2.2.1, hc.2.2.2⟩ (m_X7_in l g S M o a2 0 1023) (kw_S hc 3 q1133 q1134 q8 q1135 rfl rfl (by decide +kernel) ⟨Nat.le_of_ble_eq_true rfl, Nat.le_of_ble_eq_true rfl⟩) (kp_S hk hw) rfl rfl hl.1 rfl (lv_room (Nat.le_of_ble_eq_true rfl)) dX7_addOffice_16 ⟨Nat.le_of_ble_eq_true rfl, Nat.le_of_ble_eq_true rfl⟩) (fun H locs hw => ?_)
    refine lv_if_ne (tgt := 26) hx hb dX7_addOffice_19 (by decide) (fun h3 => ?_) (fun h3 => ?_)
    · refine lv_aload_n hx hb dX7_addOffice_26 rfl (lv_at hl 0 rfl) ?_
      refine k_get hc hk hw at_M rfl iX7 2 (by decide) q1037 (v := .int (M 0 2)) rfl dX7_addOffice_27 ?_
      refine lv_bipush (v := 6) hx hb dX7_addOffice_30 (by decide) ?_
      refine lv_icmp_ne (tgt := 39) hx hb dX7_addOffice_32 (by decide) (fun h4 => ?_) (fun h4 => ?_)
      · refine lv_iconst (v := 0) hx hb dX7_addOffice_39 (by decide) ?_
        refine k_put hc hk hw (x' := (xM S (up2 M 0 0 0) o)) at_M rfl iX7 tyX7 tyX7_ok nmX7 0 (by decide) q1035 rfl rfl rfl (Nat.le_of_ble_eq_true rfl) dX7_addOffice_40 (ms_0 (by decide)) (fun H locs hw => ?_)
        refine lv_aload_n hx hb dX7_addOffice_43 rfl (lv_at hl 0 rfl) ?_
        refine k_get hc hk hw at_M rfl iX7 0 (by decide) q1035 (v := .int 0) rfl dX7_addOffice_44 ?_
        refine lv_if_le (tgt := 52) hx hb dX7_addOffice_47 (by decide) (fun _ => ?_) (fun h5 => absurd h5 (by decide))
        refine lv_aload_n hx hb dX7_addOffice_52 rfl (lv_at hl 0 rfl) ?_
        refine k_get hc hk hw at_M rfl iX7 4 (by decide) q1039 (v := .ref (gA g (jM 1))) rfl dX7_addOffice_53 ?_
        refine lv_aload_n hx hb dX7_addOffice_56 rfl (lv_at hl 0 rfl) ?_
        refine k_get hc hk hw at_M rfl iX7 2 (by decide) q1037 (v := .int (M 0 2)) rfl dX7_addOffice_57 ?_
        refine lv_iload_n hx hb dX7_addOffice_60 rfl (lv_at hl 1 rfl) ?_
        refine k_iast (x' := (xM S (up2 (up2 M 0 0 0) 1 ((M 0 2).toNatClampNeg) a1) o)) (f := (up2 M 0 0 0) 1) (n := ((M 0 2).toNatClampNeg)) hc hk hw (at_Mk (k := 1) (t := 0) (n := 6) (by decide) (by decide) (by decide) (by decide)) (MN.i2 hN h4) rfl dX7_addOffice_61 (ms_k (k := 1) (t := 0) (n := 6) (by decide) (by decide) (by decide) (by decide)) (fun H locs hw => ?_)
        refine lv_aload_n hx hb dX7_addOffice_62 rfl (lv_at hl 0 rfl) ?_
        refine k_get hc hk hw at_M rfl iX7 5 (by decide) q1040 (v := .ref (gA g (jM 2))) rfl dX7_addOffice_63 ?_
        refine lv_aload_n hx hb dX7_addOffice_66 rfl (lv_at hl 0 rfl) ?_
        refine k_get hc hk hw at_M rfl iX7 2 (by decide) q1037 (v := .int (M 0 2)) rfl dX7_addOffice_67 ?_
        refine lv_iload_n hx hb dX7_addOffice_70 rfl (lv_at hl 2 rfl) ?_
        refine k_iast (x' := (xM S (up2 (up2 (up2 M 0 0 0) 1 ((M 0 2).toNatClampNeg) a1) 2 ((M 0 2).toNatClampNeg) a2) o)) (f := (up2 (up2 M 0 0 0) 1 ((M 0 2).toNatClampNeg) a1) 2) (n := ((M 0 2).toNatClampNeg)) hc hk hw (at_Mk (k := 2) (t := 0) (n := 6) (by decide) (by decide) (by decide) (by decide)) (MN.i2 hN h4) rfl dX7_addOffice_71 (ms_k (k := 2) (t := 0) (n := 6) (by decide) (by decide) (by decide) (by decide)) (fun H locs hw => ?_)
        refine lv_aload_n hx hb dX7_addOffice_72 rfl (lv_at hl 0 rfl) ?_
        refine lv_dup hx hb dX7_addOffice_73 rfl ?_
        refine k_get hc hk hw at_M rfl iX7 2 (by decide) q1037 (v := .int (M 0 2)) rfl dX7_addOffice_74 ?_
        refine lv_iconst (v := 1) hx hb dX7_addOffice_77 (by decide) ?_
        refine lv_iadd hx hb dX7_addOffice_78 ?_
        refine k_put hc hk hw (x' := (xM S (up2 (up2 (up2 (up2 M 0 0 0) 1 ((M 0 2).toNatClampNeg) a1) 2 ((M 0 2).toNatClampNeg) a2) 0 2 ((M 0 2) + 1)) o)) at_M rfl iX7 tyX7 tyX7_ok nmX7 2 (by decide) q1037 rfl rfl rfl (Nat.le_of_ble_eq_true rfl) dX7_addOffice_79 (ms_0 (by decide)) (fun H locs hw => ?_)
        refine lv_aload_n hx hb dX7_addOffice_82 rfl (lv_at hl 0 rfl) ?_
        refine k_get hc hk hw at_M rfl iX7 2 (by decide) q1037 (v := .int ((M 0 2) + 1)) rfl dX7_addOffice_83 ?_
        refine lv_iconst (v := 1) hx hb dX7_addOffice_86 (by decide) ?_
        refine lv_isub hx hb dX7_addOffice_87 ?_
        exact W.iret (v := ((M 0 2) + 1) - 1) hx hb hr (fun t9 ht hW => ke_i hw ht (by simp only [f_X7_addOffice, if_neg h1, if_neg h3, if_neg h4]) (by simp only [f_X7_addOffice, if_neg h1, if_neg h3, if_neg h4])) hw.2.2.2 dX7_addOffice_88
      · refine lv_iconst (v := 2) hx hb dX7_addOffice_35 (by decide) ?_
        refine lv_goto (tgt := 40) hx hb dX7_addOffice_36 (by decide) ?_
        refine k_put hc hk hw (x' := (xM S (up2 M 0 0 2) o)) at_M rfl iX7 tyX7 tyX7_ok nmX7 0 (by decide) q1035 rfl rfl rfl (Nat.le_of_ble_eq_true rfl) dX7_addOffice_40 (ms_0 (by decide)) (fun H locs hw => ?_)
        refine lv_aload_n hx hb dX7_addOffice_43 rfl (lv_at hl 0 rfl) ?_
        refine k_get hc hk hw at_M rfl iX7 0 (by decide) q1035 (v := .int 2) rfl dX7_addOffice_44 ?_
        refine lv_if_le (tgt := 52) hx hb dX7_addOffice_47 (by decide) (fun h6 => absurd h6 (by decide)) (fun _ => ?_)
        refine lv_iconst (v := 0) hx hb dX7_addOffice_50 (by decide) ?_
        exact W.iret (v := 0) hx hb hr (fun t9 ht hW => ke_i hw ht (by simp only [f_X7_addOffice, if_neg h1, if_neg h3, if_pos h4]) (by simp only [f_X7_addOffice, if_neg h1, if_neg h3, if_pos h4])) hw.2.2.2 dX7_addOffice_51
    · refine lv_iconst (v := 1) hx hb dX7_addOffice_22 (by decide) ?_
      refine lv_goto (tgt := 40) hx hb dX7_addOffice_23 (by decide) ?_
      refine k_put hc hk hw (x' := (xM S (up2 M 0 0 1) o)) at_M rfl iX7 tyX7 tyX7_ok nmX7 0 (by decide) q1035 rfl rfl rfl (Nat.le_of_ble_eq_true rfl) dX7_addOffice_40 (ms_0 (by decide)) (fun H locs hw => ?_)
      refine lv_aload_n hx hb dX7_addOffice_43 rfl (lv_at hl 0 rfl) ?_
      refine k_get hc hk hw at_M rfl iX7 0 (by decide) q1035 (v := .int 1) rfl dX7_addOffice_44 ?_
      refine lv_if_le (tgt := 52) hx hb dX7_addOffice_47 (by decide) (fun h7 => absurd h7 (by decide)) (fun _ => ?_)
      refine lv_iconst (v := 0) hx hb dX7_addOffice_50 (by decide) ?_
      exact W.iret (v := 0) hx hb hr (fun t9 ht hW => ke_i hw ht (by simp only [f_X7_addOffice, if_neg h1, if_pos h3]) (by simp only [f_X7_addOffice, if_neg h1, if_pos h3])) hw.2.2.2 dX7_addOffice_51
def b_pass7 (a1 : Int32) (M : BT) (k : Nat) (z : BT) : BT :=
  (if f_X7_standing (nI k) z = 97 then up2 z 25 k ((z 25 k) + a1) else up2 z 25 k ((z 25 k) + 0))
def L_pass7 (a1 : Int32) (M : BT) : Nat → BT
  | 0 => up2 M 0 0 0
  | k + 1 => b_pass7 a1 M k (L_pass7 a1 M k)
theorem cn_b_pass7 {a1 : Int32} {M : BT} {k n m9 : Nat} {z : BT} (hN : MN z n m9) : MN (b_pass7 a1 M k z) n m9 := by
  unfold b_pass7
  by_cases h5 : f_X7_standing (nI k) z = 97
  · simp only [if_pos h5]
    exact (MN.upf (by decide) (by decide) (by decide) (by decide) (by decide) (by decide) (by decide) (by decide) hN)
  · simp only [if_neg h5]
    exact (MN.upf (by decide) (by decide) (by decide) (by decide) (by decide) (by decide) (by decide) (by decide) hN)
theorem cn_L_pass7 {a1 : Int32} {M : BT} {n m9 : Nat} (hN : MN M n m9) : ∀ k, MN (L_pass7 a1 M k) n m9 := by
  intro k
  induction k with
  | zero => exact (MN.up0 (by decide) (by decide) hN)
  | succ k ih => exact cn_b_pass7 ih
def f_X7_pass (a1 : Int32) (M : BT) : Int32 × BT :=
  (if f_X7_in a1 1 400 = 0 then (0, up2 M 0 0 1) else (if (M 0 1) + a1 ≤ 9999 then (((L_pass7 a1 M ((M 0 3).toNatClampNeg)) 0 1) + a1, up2 (L_pass7 a1 M ((M 0 3).toNatClampNeg)) 0 1 (((L_pass7 a1 M ((M 0 3).toNatClampNeg)) 0 1) + a1)) else (0, up2 M 0 0 2)))
theorem cn_X7_pass {a1 : Int32} {M : BT} {n m9 : Nat} (hN : MN M n m9) : MN ((f_X7_pass a1 M).2) n m9 := by
  unfold f_X7_pass
  by_cases h1 : f_X7_in a1 1 400 = 0
  · simp only [if_pos h1]
    exact (MN.up0 (by decide) (by decide) hN)
  · simp only [if_neg h1]
    by_cases h2 : (M 0 1) + a1 ≤ 9999
    · simp only [if_pos h2]
      exact (MN.up0 (by decide) (by decide) (cn_L_pass7 hN ((M 0 3).toNatClampNeg)))
    · simp only [if_neg h2]
      exact (MN.up0 (by decide) (by decide) hN)
set_option maxHeartbeats 4000000 in
set_option maxRecDepth 100000 in
theorem m_X7_pass (l : Launch) (g : wG) (S : Nat → BT) (M : BT) (o : (Nat → Int64) × (Nat → UInt64)) (a1 : Int32) (n m9 : Nat) (hN : MN M n m9) : mI l yX7_pass cX7_pass 3 (some .int) ({ frames := 3, cells := 0, slots := 0, locals := 63 } : Room) 0 0 g (xM S M o) [.ref (gA g (jM 0)), .int a1] ((f_X7_pass a1 M).1) (xM S ((f_X7_pass a1 M).2) o) := by
  refine Met.ofW (cc := cX7_pass) (maxL := 3) (ret := some .int) (by decide) rfl ?_
  intro p9 e s m args below meth c s₁ BL hml hv
  obtain ⟨rfl, hk, hPB⟩ := hv
  have hx := BL.exec
  have hb := BL.bytes
  have hc : CX p9 c cX7_pass s _ m RX7 := ⟨hx, hb, findClass_of_methodNamed BL.named, fun w h => atoms_spec BL.pre w (List.mem_cons_of_mem _ h)⟩
  have hr := BL.returns
  have hlocks := BL.notSynchronized
  have hw : WS g s (xM S M o) s.heap [] := ⟨hPB, va_S.rf⟩
  have hl := lv_entry ([.ref (gA g (jM 0)), .int a1]) (n := 3) (Nat.le_of_ble_eq_true rfl)
  rw [lg_entry_eq]
  generalize (lg_sl ([.ref (gA g (jM 0)), .int a1]) ++ List.replicate (3 - (lg_sl ([.ref (gA g (jM 0)), .int a1])).length) Slot.unset).toArray = ls at hl ⊢
  have hl : lv_has ls 3 [(0, .ref (gA g (jM 0))), (1, .int a1)] := hl
  refine lv_aload_n hx hb dX7_pass_0 rfl (lv_at hl 0 rfl) ?_
  refine lv_iload_n hx hb dX7_pass_1 rfl (lv_at hl 1 rfl) ?_
  refine lv_iconst (v := 1) hx hb dX7_pass_2 (by decide) ?_
  refine lv_sipush (v := 400) hx hb dX7_pass_3 (by decide) ?_
  refine kc_i hw (va_runS (As := [.int a1, .int 1, .int 400]) (rest := [.ref (gA g (jM 0))]) ⟨hx, hb, hml, hc.2.2.1, hc.2.2.2⟩ (m_X7_in l g S M o a1 1 400) (kw_S hc 3 q1133 q1134 q8 q1135 rfl rfl (by decide +kernel) ⟨Nat.le_of_ble_eq_true rfl, Nat.le_of_ble_eq_true rfl⟩) (kp_S hk hw) rfl rfl hl.1 rfl (lv_room (Nat.le_of_ble_eq_true rfl)) dX7_pass_6 ⟨Nat.le_of_ble_eq_true rfl, Nat.le_of_ble_eq_true rfl⟩) (fun H locs hw => ?_)
  refine lv_if_ne (tgt := 16) hx hb dX7_pass_9 (by decide) (fun h1 => ?_) (fun h1 => ?_)
  · refine lv_aload_n hx hb dX7_pass_16 rfl (lv_at hl 0 rfl) ?_
    refine k_get hc hk hw at_M rfl iX7 1 (by decide) q1036 (v := .int (M 0 1)) rfl dX7_pass_17 ?_
    refine lv_iload_n hx hb dX7_pass_20 rfl (lv_at hl 1 rfl) ?_
    refine lv_iadd hx hb dX7_pass_21 ?_
    refine lv_sipush (v := 9999) hx hb dX7_pass_22 (by decide) ?_
    refine lv_icmp_le (tgt := 32) hx hb dX7_pass_25 (by decide) (fun h2 => ?_) (fun h2 => ?_)
    · refine lv_iconst (v := 0) hx hb dX7_pass_32 (by decide) ?_
      refine k_put hc hk hw (x' := (xM S (up2 M 0 0 0) o)) at_M rfl iX7 tyX7 tyX7_ok nmX7 0 (by decide) q1035 rfl rfl rfl (Nat.le_of_ble_eq_true rfl) dX7_pass_33 (ms_0 (by decide)) (fun H locs hw => ?_)
      refine lv_aload_n hx hb dX7_pass_36 rfl (lv_at hl 0 rfl) ?_
      refine k_get hc hk hw at_M rfl iX7 0 (by decide) q1035 (v := .int 0) rfl dX7_pass_37 ?_
      refine lv_if_le (tgt := 45) hx hb dX7_pass_40 (by decide) (fun _ => ?_) (fun h3 => absurd h3 (by decide))
      refine lv_iconst (v := 0) hx hb dX7_pass_45 (by decide) ?_
      refine lv_istore_n (lv' := [(2, .int 0), (0, .ref (gA g (jM 0))), (1, .int a1)]) hx hb dX7_pass_46 rfl hl (by decide) rfl (fun ls hl => ?_)
      have LP4 : ∀ (f k : Nat), k ≤ (M 0 3).toNatClampNeg → (M 0 3).toNatClampNeg + 1 ≤ k + f → ∀ (H : Heap) (locs : List Loc), WS g s (xM S (L_pass7 a1 M k) o) H locs → ∀ (ls : Array Slot), lv_has ls 3 [(2, .int (nI k)), (0, .ref (gA g (jM 0))), (1, .int a1)] → W p9 l e ({ frames := 3, cells := 0, slots := 0, locals := 63 } : Room) s m ([.ref (gA g (jM 0)), .int a1] : List Value).toArray below meth c H locs 0 0 (MQ below (va_Qi (fun (v : Int32) (u : wSt) => v = (f_X7_pass a1 M).1 ∧ u = (xM S ((f_X7_pass a1 M).2) o)) (PB g) (AA g)) (([.ref (gA g (jM 0)), .int a1] : List Value).toArray) s 0 0 (AA g)) (F0 m 47 ls []) := by
        intro f
        induction f with
        | zero => intro k h1 h2; exact absurd h2 (by omega)
        | succ f ih =>
          intro k hk9 hf9 H locs hw ls hl
          have hl4 := MN.l4 hN
          refine lv_iload_n hx hb dX7_pass_47 rfl (lv_at hl 0 rfl) ?_
          refine lv_aload_n hx hb dX7_pass_48 rfl (lv_at hl 1 rfl) ?_
          refine k_get hc hk hw at_M rfl iX7 3 (by decide) q1038 (v := .int ((L_pass7 a1 M k) 0 3)) rfl dX7_pass_49 ?_
          refine lv_icmp_ge (tgt := 85) hx hb dX7_pass_52 (by decide) (fun h5 => ?_) (fun h5 => ?_)
          · have hkn := lp_out h5 (MN.cc hN (cn_L_pass7 hN k)) hk9 (by omega)
            subst hkn
            refine lv_aload_n hx hb dX7_pass_85 rfl (lv_at hl 1 rfl) ?_
            refine lv_dup hx hb dX7_pass_86 rfl ?_
            refine k_get hc hk hw at_M rfl iX7 1 (by decide) q1036 (v := .int ((L_pass7 a1 M ((M 0 3).toNatClampNeg)) 0 1)) rfl dX7_pass_87 ?_
            refine lv_iload_n hx hb dX7_pass_90 rfl (lv_at hl 2 rfl) ?_
            refine lv_iadd hx hb dX7_pass_91 ?_
            refine k_put hc hk hw (x' := (xM S (up2 (L_pass7 a1 M ((M 0 3).toNatClampNeg)) 0 1 (((L_pass7 a1 M ((M 0 3).toNatClampNeg)) 0 1) + a1)) o)) at_M rfl iX7 tyX7 tyX7_ok nmX7 1 (by decide) q1036 rfl rfl rfl (Nat.le_of_ble_eq_true rfl) dX7_pass_92 (ms_0 (by decide)) (fun H locs hw => ?_)
            refine lv_aload_n hx hb dX7_pass_95 rfl (lv_at hl 1 rfl) ?_
            refine k_get hc hk hw at_M rfl iX7 1 (by decide) q1036 (v := .int (((L_pass7 a1 M ((M 0 3).toNatClampNeg)) 0 1) + a1)) rfl dX7_pass_96 ?_
            exact W.iret (v := ((L_pass7 a1 M ((M 0 3).toNatClampNeg)) 0 1) + a1) hx hb hr (fun t9 ht hW => ke_i hw ht (by simp only [f_X7_pass, if_neg h1, if_pos h2]) (by simp only [f_X7_pass, if_neg h1, if_pos h2])) hw.2.2.2 dX7_pass_99
          · have hkn := lp_in h5 (MN.cc hN (cn_L_pass7 hN k)) hk9 (by omega)
            refine lv_aload_n hx hb dX7_pass_55 rfl (lv_at hl 1 rfl) ?_
            refine k_get hc hk hw at_M rfl iX7 28 (by decide) q1063 (v := .ref (gA g (jM 25))) rfl dX7_pass_56 ?_
            refine lv_iload_n hx hb dX7_pass_59 rfl (lv_at hl 0 rfl) ?_
            refine lv_dup2_11 hx hb dX7_pass_60 rfl rfl ?_
            refine k_iald (f := (L_pass7 a1 M k) 25) (n := k) hc hk hw (at_Mk (k := 25) (t := 0) (n := 20) (by decide) (by decide) (by decide) (by decide)) (vp_in_nI (Nat.lt_of_lt_of_le hkn (by omega)) (by omega)) (nI_clamp (by have := hkn; omega)) dX7_pass_61 ?_
            refine lv_aload_n hx hb dX7_pass_62 rfl (lv_at hl 1 rfl) ?_
            refine lv_iload_n hx hb dX7_pass_63 rfl (lv_at hl 0 rfl) ?_
            refine kc_i hw (va_runV (As := [.int (nI k)]) (rest := [.int ((L_pass7 a1 M k) 25 k), .int (nI k), .ref (gA g (jM 25))]) ⟨hx, hb, hml, hc.2.2.1, hc.2.2.2⟩ (m_X7_standing l g S (L_pass7 a1 M k) o (nI k) _ _ (cn_L_pass7 hN k) (vp_in_nI (Nat.lt_of_lt_of_le hkn (by omega)) (by omega))) (kw_V hc 1 q1140 q1142 qs59 q8 q1143 rfl rfl (by decide +kernel) ⟨Nat.le_of_ble_eq_true rfl, Nat.le_of_ble_eq_true rfl⟩) (kp_V hk hw at_M rfl) rfl rfl hl.1 rfl (lv_room (Nat.le_of_ble_eq_true rfl)) dX7_pass_64 ⟨Nat.le_of_ble_eq_true rfl, Nat.le_of_ble_eq_true rfl⟩) (fun H locs hw => ?_)
            refine lv_bipush (v := 97) hx hb dX7_pass_67 (by decide) ?_
            refine lv_icmp_ne (tgt := 76) hx hb dX7_pass_69 (by decide) (fun h6 => ?_) (fun h6 => ?_)
            · refine lv_iconst (v := 0) hx hb dX7_pass_76 (by decide) ?_
              refine lv_iadd hx hb dX7_pass_77 ?_
              refine k_iast (x' := (xM S (up2 (L_pass7 a1 M k) 25 k (((L_pass7 a1 M k) 25 k) + 0)) o)) (f := (L_pass7 a1 M k) 25) (n := k) hc hk hw (at_Mk (k := 25) (t := 0) (n := 20) (by decide) (by decide) (by decide) (by decide)) (vp_in_nI (Nat.lt_of_lt_of_le hkn (by omega)) (by omega)) (nI_clamp (by have := hkn; omega)) dX7_pass_78 (ms_k (k := 25) (t := 0) (n := 20) (by decide) (by decide) (by decide) (by decide)) (fun H locs hw => ?_)
              refine lv_iinc (v := nI (k + 1)) (lv' := [(2, .int (nI (k + 1))), (0, .ref (gA g (jM 0))), (1, .int a1)]) hx hb dX7_pass_79 hl (k := 0) rfl (by first | exact (nI_succ _).symm | rfl) (by decide) rfl (fun ls hl => ?_)
              refine lv_goto (tgt := 47) hx hb dX7_pass_82 (by decide) ?_
              have hw9 : WS g s (xM S (L_pass7 a1 M (k + 1)) o) H locs := by
                have e9 : up2 (L_pass7 a1 M k) 25 k (((L_pass7 a1 M k) 25 k) + 0) = (L_pass7 a1 M (k + 1)) := by simp only [L_pass7, b_pass7, if_neg h6]
                rw [← e9]; exact hw
              have hl9 := lv_sub hl [0, 1, 2] rfl
              exact ih (k + 1) (by omega) (by omega) _ _ hw9 _ hl9
            · refine lv_iload_n hx hb dX7_pass_72 rfl (lv_at hl 2 rfl) ?_
              refine lv_goto (tgt := 77) hx hb dX7_pass_73 (by decide) ?_
              refine lv_iadd hx hb dX7_pass_77 ?_
              refine k_iast (x' := (xM S (up2 (L_pass7 a1 M k) 25 k (((L_pass7 a1 M k) 25 k) + a1)) o)) (f := (L_pass7 a1 M k) 25) (n := k) hc hk hw (at_Mk (k := 25) (t := 0) (n := 20) (by decide) (by decide) (by decide) (by decide)) (vp_in_nI (Nat.lt_of_lt_of_le hkn (by omega)) (by omega)) (nI_clamp (by have := hkn; omega)) dX7_pass_78 (ms_k (k := 25) (t := 0) (n := 20) (by decide) (by decide) (by decide) (by decide)) (fun H locs hw => ?_)
              refine lv_iinc (v := nI (k + 1)) (lv' := [(2, .int (nI (k + 1))), (0, .ref (gA g (jM 0))), (1, .int a1)]) hx hb dX7_pass_79 hl (k := 0) rfl (by first | exact (nI_succ _).symm | rfl) (by decide) rfl (fun ls hl => ?_)
              refine lv_goto (tgt := 47) hx hb dX7_pass_82 (by decide) ?_
              have hw9 : WS g s (xM S (L_pass7 a1 M (k + 1)) o) H locs := by
                have e9 : up2 (L_pass7 a1 M k) 25 k (((L_pass7 a1 M k) 25 k) + a1) = (L_pass7 a1 M (k + 1)) := by simp only [L_pass7, b_pass7, if_pos h6]
                rw [← e9]; exact hw
              have hl9 := lv_sub hl [0, 1, 2] rfl
              exact ih (k + 1) (by omega) (by omega) _ _ hw9 _ hl9
      exact LP4 ((M 0 3).toNatClampNeg + 1) 0 (Nat.zero_le _) (by omega) _ _ hw _ (lv_sub hl [0, 1, 2] rfl)
    · refine lv_iconst (v := 2) hx hb dX7_pass_28 (by decide) ?_
      refine lv_goto (tgt := 33) hx hb dX7_pass_29 (by decide) ?_
      refine k_put hc hk hw (x' := (xM S (up2 M 0 0 2) o)) at_M rfl iX7 tyX7 tyX7_ok nmX7 0 (by decide) q1035 rfl rfl rfl (Nat.le_of_ble_eq_true rfl) dX7_pass_33 (ms_0 (by decide)) (fun H locs hw => ?_)
      refine lv_aload_n hx hb dX7_pass_36 rfl (lv_at hl 0 rfl) ?_
      refine k_get hc hk hw at_M rfl iX7 0 (by decide) q1035 (v := .int 2) rfl dX7_pass_37 ?_
      refine lv_if_le (tgt := 45) hx hb dX7_pass_40 (by decide) (fun h9 => absurd h9 (by decide)) (fun _ => ?_)
      refine lv_iconst (v := 0) hx hb dX7_pass_43 (by decide) ?_
      exact W.iret (v := 0) hx hb hr (fun t9 ht hW => ke_i hw ht (by simp only [f_X7_pass, if_neg h1, if_neg h2]) (by simp only [f_X7_pass, if_neg h1, if_neg h2])) hw.2.2.2 dX7_pass_44
  · refine lv_iconst (v := 1) hx hb dX7_pass_12 (by decide) ?_
    refine lv_goto (tgt := 33) hx hb dX7_pass_13 (by decide) ?_
    refine k_put hc hk hw (x' := (xM S (up2 M 0 0 1) o)) at_M rfl iX7 tyX7 tyX7_ok nmX7 0 (by decide) q1035 rfl rfl rfl (Nat.le_of_ble_eq_true rfl) dX7_pass_33 (ms_0 (by decide)) (fun H locs hw => ?_)
    refine lv_aload_n hx hb dX7_pass_36 rfl (lv_at hl 0 rfl) ?_
    refine k_get hc hk hw at_M rfl iX7 0 (by decide) q1035 (v := .int 1) rfl dX7_pass_37 ?_
    refine lv_if_le (tgt := 45) hx hb dX7_pass_40 (by decide) (fun h10 => absurd h10 (by decide)) (fun _ => ?_)
    refine lv_iconst (v := 0) hx hb dX7_pass_43 (by decide) ?_
    exact W.iret (v := 0) hx hb hr (fun t9 ht hW => ke_i hw ht (by simp only [f_X7_pass, if_pos h1]) (by simp only [f_X7_pass, if_pos h1])) hw.2.2.2 dX7_pass_44
def f_X7_today  (M : BT) : Int32 × BT :=
  (M 0 1, up2 M 0 0 0)
theorem cn_X7_today  {M : BT} {n m9 : Nat} (hN : MN M n m9) : MN ((f_X7_today M).2) n m9 := by
  unfold f_X7_today
  exact (MN.up0 (by decide) (by decide) hN)
set_option maxHeartbeats 4000000 in
set_option maxRecDepth 100000 in
theorem m_X7_today (l : Launch) (g : wG) (S : Nat → BT) (M : BT) (o : (Nat → Int64) × (Nat → UInt64)) (n m9 : Nat) (hN : MN M n m9) : mI l yX7_today cX7_today 1 (some .int) ({ frames := 0, cells := 0, slots := 0, locals := 0 } : Room) 0 0 g (xM S M o) [.ref (gA g (jM 0))] ((f_X7_today M).1) (xM S ((f_X7_today M).2) o) := by
  refine Met.ofW (cc := cX7_today) (maxL := 1) (ret := some .int) (by decide) rfl ?_
  intro p9 e s m args below meth c s₁ BL hml hv
  obtain ⟨rfl, hk, hPB⟩ := hv
  have hx := BL.exec
  have hb := BL.bytes
  have hc : CX p9 c cX7_today s _ m RX7 := ⟨hx, hb, findClass_of_methodNamed BL.named, fun w h => atoms_spec BL.pre w (List.mem_cons_of_mem _ h)⟩
  have hr := BL.returns
  have hlocks := BL.notSynchronized
  have hw : WS g s (xM S M o) s.heap [] := ⟨hPB, va_S.rf⟩
  have hl := lv_entry ([.ref (gA g (jM 0))]) (n := 1) (Nat.le_of_ble_eq_true rfl)
  rw [lg_entry_eq]
  generalize (lg_sl ([.ref (gA g (jM 0))]) ++ List.replicate (1 - (lg_sl ([.ref (gA g (jM 0))])).length) Slot.unset).toArray = ls at hl ⊢
  have hl : lv_has ls 1 [(0, .ref (gA g (jM 0)))] := hl
  refine lv_aload_n hx hb dX7_today_0 rfl (lv_at hl 0 rfl) ?_
  refine lv_iconst (v := 0) hx hb dX7_today_1 (by decide) ?_
  refine k_put hc hk hw (x' := (xM S (up2 M 0 0 0) o)) at_M rfl iX7 tyX7 tyX7_ok nmX7 0 (by decide) q1035 rfl rfl rfl (Nat.le_of_ble_eq_true rfl) dX7_today_2 (ms_0 (by decide)) (fun H locs hw => ?_)
  refine lv_aload_n hx hb dX7_today_5 rfl (lv_at hl 0 rfl) ?_
  refine k_get hc hk hw at_M rfl iX7 1 (by decide) q1036 (v := .int (M 0 1)) rfl dX7_today_6 ?_
  exact W.iret (v := M 0 1) hx hb hr (fun t9 ht hW => ke_i hw ht (by simp only [f_X7_today]) (by simp only [f_X7_today])) hw.2.2.2 dX7_today_9
def f_X7_complain (a1 : Int32) (a2 : Int32) (a3 : Int32) (a4 : Int32) (M : BT) : Int32 × BT :=
  (if f_X7_in a2 0 9 = 0 then (if f_X7_isOffice a1 M = 0 then (0, up2 M 0 0 1) else (0, up2 M 0 0 2)) else (if f_X7_in a3 0 49 = 0 then (if f_X7_isOffice a1 M = 0 then (0, up2 M 0 0 1) else (0, up2 M 0 0 2)) else (if f_X7_in a4 0 (M 0 1) = 0 then (if f_X7_isOffice a1 M = 0 then (0, up2 M 0 0 1) else (0, up2 M 0 0 2)) else (if f_X7_isOffice a1 M = 0 then (0, up2 M 0 0 1) else (if M 0 3 = 20 then (0, up2 M 0 0 3) else (((M 0 3) + 1) - 1, up2 (up2 (up2 (up2 (up2 (up2 (up2 (up2 (up2 (up2 (up2 (up2 M 0 0 0) 6 ((M 0 3).toNatClampNeg) a1) 7 ((M 0 3).toNatClampNeg) a2) 8 ((M 0 3).toNatClampNeg) a3) 9 ((M 0 3).toNatClampNeg) a4) 10 ((M 0 3).toNatClampNeg) (M 0 1)) 11 ((M 0 3).toNatClampNeg) 110) 12 ((M 0 3).toNatClampNeg) (-1)) 15 ((M 0 3).toNatClampNeg) (-1)) 20 ((M 0 3).toNatClampNeg) (-1)) 22 ((M 0 3).toNatClampNeg) (-1)) 0 3 ((M 0 3) + 1)))))))
set_option maxHeartbeats 4000000 in
set_option maxRecDepth 100000 in
theorem m_X7_complain (l : Launch) (g : wG) (S : Nat → BT) (M : BT) (o : (Nat → Int64) × (Nat → UInt64)) (a1 : Int32) (a2 : Int32) (a3 : Int32) (a4 : Int32) (n m9 : Nat) (hN : MN M n m9) : mI l yX7_complain cX7_complain 6 (some .int) ({ frames := 2, cells := 0, slots := 0, locals := 43 } : Room) 0 0 g (xM S M o) [.ref (gA g (jM 0)), .int a1, .int a2, .int a3, .int a4] ((f_X7_complain a1 a2 a3 a4 M).1) (xM S ((f_X7_complain a1 a2 a3 a4 M).2) o) := by
  refine Met.ofW (cc := cX7_complain) (maxL := 6) (ret := some .int) (by decide) rfl ?_
  intro p9 e s m args below meth c s₁ BL hml hv
  obtain ⟨rfl, hk, hPB⟩ := hv
  have hx := BL.exec
  have hb := BL.bytes
  have hc : CX p9 c cX7_complain s _ m RX7 := ⟨hx, hb, findClass_of_methodNamed BL.named, fun w h => atoms_spec BL.pre w (List.mem_cons_of_mem _ h)⟩
  have hr := BL.returns
  have hlocks := BL.notSynchronized
  have hw : WS g s (xM S M o) s.heap [] := ⟨hPB, va_S.rf⟩
  have hl := lv_entry ([.ref (gA g (jM 0)), .int a1, .int a2, .int a3, .int a4]) (n := 6) (Nat.le_of_ble_eq_true rfl)
  rw [lg_entry_eq]
  generalize (lg_sl ([.ref (gA g (jM 0)), .int a1, .int a2, .int a3, .int a4]) ++ List.replicate (6 - (lg_sl ([.ref (gA g (jM 0)), .int a1, .int a2, .int a3, .int a4])).length) Slot.unset).toArray = ls at hl ⊢
  have hl : lv_has ls 6 [(0, .ref (gA g (jM 0))), (1, .int a1), (2, .int a2), (3, .int a3), (4, .int a4)] := hl
  refine lv_iload_n hx hb dX7_complain_0 rfl (lv_at hl 2 rfl) ?_
  refine lv_iconst (v := 0) hx hb dX7_complain_1 (by decide) ?_
  refine lv_bipush (v := 9) hx hb dX7_complain_2 (by decide) ?_
  refine kc_i hw (va_runS (As := [.int a2, .int 0, .int 9]) (rest := []) ⟨hx, hb, hml, hc.2.2.1, hc.2.2.2⟩ (m_X7_in l g S M o a2 0 9) (kw_S hc 3 q1133 q1134 q8 q1135 rfl rfl (by decide +kernel) ⟨Nat.le_of_ble_eq_true rfl, Nat.le_of_ble_eq_true rfl⟩) (kp_S hk hw) rfl rfl hl.1 rfl (lv_room (Nat.le_of_ble_eq_true rfl)) dX7_complain_4 ⟨Nat.le_of_ble_eq_true rfl, Nat.le_of_ble_eq_true rfl⟩) (fun H locs hw => ?_)
  refine lv_if_eq (tgt := 37) hx hb dX7_complain_7 (by decide) (fun h1 => ?_) (fun h1 => ?_)
  · refine lv_iconst (v := 0) hx hb dX7_complain_37 (by decide) ?_
    refine lv_istore (lv' := [(5, .int 0), (0, .ref (gA g (jM 0))), (1, .int a1), (2, .int a2), (3, .int a3), (4, .int a4)]) hx hb dX7_complain_38 hl (by decide) rfl (fun ls hl => ?_)
    refine lv_aload_n hx hb dX7_complain_40 rfl (lv_at hl 1 rfl) ?_
    refine lv_aload_n hx hb dX7_complain_41 rfl (lv_at hl 1 rfl) ?_
    refine lv_iload_n hx hb dX7_complain_42 rfl (lv_at hl 2 rfl) ?_
    refine kc_i hw (va_runV (As := [.int a1]) (rest := [.ref (gA g (jM 0))]) ⟨hx, hb, hml, hc.2.2.1, hc.2.2.2⟩ (m_X7_isOffice l g S M o a1 _ _ hN) (kw_V hc 1 q1160 q1162 qs62 q8 q1163 rfl rfl (by decide +kernel) ⟨Nat.le_of_ble_eq_true rfl, Nat.le_of_ble_eq_true rfl⟩) (kp_V hk hw at_M rfl) rfl rfl hl.1 rfl (lv_room (Nat.le_of_ble_eq_true rfl)) dX7_complain_43 ⟨Nat.le_of_ble_eq_true rfl, Nat.le_of_ble_eq_true rfl⟩) (fun H locs hw => ?_)
    refine lv_if_ne (tgt := 53) hx hb dX7_complain_46 (by decide) (fun h2 => ?_) (fun h2 => ?_)
    · refine lv_iload hx hb dX7_complain_53 (lv_at hl 0 rfl) ?_
      refine lv_if_ne (tgt := 62) hx hb dX7_complain_55 (by decide) (fun h3 => absurd h3 (by decide)) (fun _ => ?_)
      refine lv_iconst (v := 2) hx hb dX7_complain_58 (by decide) ?_
      refine lv_goto (tgt := 76) hx hb dX7_complain_59 (by decide) ?_
      refine k_put hc hk hw (x' := (xM S (up2 M 0 0 2) o)) at_M rfl iX7 tyX7 tyX7_ok nmX7 0 (by decide) q1035 rfl rfl rfl (Nat.le_of_ble_eq_true rfl) dX7_complain_76 (ms_0 (by decide)) (fun H locs hw => ?_)
      refine lv_aload_n hx hb dX7_complain_79 rfl (lv_at hl 1 rfl) ?_
      refine k_get hc hk hw at_M rfl iX7 0 (by decide) q1035 (v := .int 2) rfl dX7_complain_80 ?_
      refine lv_if_le (tgt := 88) hx hb dX7_complain_83 (by decide) (fun h4 => absurd h4 (by decide)) (fun _ => ?_)
      refine lv_iconst (v := 0) hx hb dX7_complain_86 (by decide) ?_
      exact W.iret (v := 0) hx hb hr (fun t9 ht hW => ke_i hw ht (by simp only [f_X7_complain, if_pos h1, if_neg h2]) (by simp only [f_X7_complain, if_pos h1, if_neg h2])) hw.2.2.2 dX7_complain_87
    · refine lv_iconst (v := 1) hx hb dX7_complain_49 (by decide) ?_
      refine lv_goto (tgt := 76) hx hb dX7_complain_50 (by decide) ?_
      refine k_put hc hk hw (x' := (xM S (up2 M 0 0 1) o)) at_M rfl iX7 tyX7 tyX7_ok nmX7 0 (by decide) q1035 rfl rfl rfl (Nat.le_of_ble_eq_true rfl) dX7_complain_76 (ms_0 (by decide)) (fun H locs hw => ?_)
      refine lv_aload_n hx hb dX7_complain_79 rfl (lv_at hl 1 rfl) ?_
      refine k_get hc hk hw at_M rfl iX7 0 (by decide) q1035 (v := .int 1) rfl dX7_complain_80 ?_
      refine lv_if_le (tgt := 88) hx hb dX7_complain_83 (by decide) (fun h5 => absurd h5 (by decide)) (fun _ => ?_)
      refine lv_iconst (v := 0) hx hb dX7_complain_86 (by decide) ?_
      exact W.iret (v := 0) hx hb hr (fun t9 ht hW => ke_i hw ht (by simp only [f_X7_complain, if_pos h1, if_pos h2]) (by simp only [f_X7_complain, if_pos h1, if_pos h2])) hw.2.2.2 dX7_complain_87
  · refine lv_iload_n hx hb dX7_complain_10 rfl (lv_at hl 3 rfl) ?_
    refine lv_iconst (v := 0) hx hb dX7_complain_11 (by decide) ?_
    refine lv_bipush (v := 49) hx hb dX7_complain_12 (by decide) ?_
    refine kc_i hw (va_runS (As := [.int a3, .int 0, .int 49]) (rest := []) ⟨hx, hb, hml, hc.2.2.1, hc.2.2.2⟩ (m_X7_in l g S M o a3 0 49) (kw_S hc 3 q1133 q1134 q8 q1135 rfl rfl (by decide +kernel) ⟨Nat.le_of_ble_eq_true rfl, Nat.le_of_ble_eq_true rfl⟩) (kp_S hk hw) rfl rfl hl.1 rfl (lv_room (Nat.le_of_ble_eq_true rfl)) dX7_complain_14 ⟨Nat.le_of_ble_eq_true rfl, Nat.le_of_ble_eq_true rfl⟩) (fun H locs hw => ?_)
    refine lv_if_eq (tgt := 37) hx hb dX7_complain_17 (by decide) (fun h6 => ?_) (fun h6 => ?_)
    · refine lv_iconst (v := 0) hx hb dX7_complain_37 (by decide) ?_
      refine lv_istore (lv' := [(5, .int 0), (0, .ref (gA g (jM 0))), (1, .int a1), (2, .int a2), (3, .int a3), (4, .int a4)]) hx hb dX7_complain_38 hl (by decide) rfl (fun ls hl => ?_)
      refine lv_aload_n hx hb dX7_complain_40 rfl (lv_at hl 1 rfl) ?_
      refine lv_aload_n hx hb dX7_complain_41 rfl (lv_at hl 1 rfl) ?_
      refine lv_iload_n hx hb dX7_complain_42 rfl (lv_at hl 2 rfl) ?_
      refine kc_i hw (va_runV (As := [.int a1]) (rest := [.ref (gA g (jM 0))]) ⟨hx, hb, hml, hc.2.2.1, hc.2.2.2⟩ (m_X7_isOffice l g S M o a1 _ _ hN) (kw_V hc 1 q1160 q1162 qs62 q8 q1163 rfl rfl (by decide +kernel) ⟨Nat.le_of_ble_eq_true rfl, Nat.le_of_ble_eq_true rfl⟩) (kp_V hk hw at_M rfl) rfl rfl hl.1 rfl (lv_room (Nat.le_of_ble_eq_true rfl)) dX7_complain_43 ⟨Nat.le_of_ble_eq_true rfl, Nat.le_of_ble_eq_true rfl⟩) (fun H locs hw => ?_)
      refine lv_if_ne (tgt := 53) hx hb dX7_complain_46 (by decide) (fun h7 => ?_) (fun h7 => ?_)
      · refine lv_iload hx hb dX7_complain_53 (lv_at hl 0 rfl) ?_
        refine lv_if_ne (tgt := 62) hx hb dX7_complain_55 (by decide) (fun h8 => absurd h8 (by decide)) (fun _ => ?_)
        refine lv_iconst (v := 2) hx hb dX7_complain_58 (by decide) ?_
        refine lv_goto (tgt := 76) hx hb dX7_complain_59 (by decide) ?_
        refine k_put hc hk hw (x' := (xM S (up2 M 0 0 2) o)) at_M rfl iX7 tyX7 tyX7_ok nmX7 0 (by decide) q1035 rfl rfl rfl (Nat.le_of_ble_eq_true rfl) dX7_complain_76 (ms_0 (by decide)) (fun H locs hw => ?_)
        refine lv_aload_n hx hb dX7_complain_79 rfl (lv_at hl 1 rfl) ?_
        refine k_get hc hk hw at_M rfl iX7 0 (by decide) q1035 (v := .int 2) rfl dX7_complain_80 ?_
        refine lv_if_le (tgt := 88) hx hb dX7_complain_83 (by decide) (fun h9 => absurd h9 (by decide)) (fun _ => ?_)
        refine lv_iconst (v := 0) hx hb dX7_complain_86 (by decide) ?_
        exact W.iret (v := 0) hx hb hr (fun t9 ht hW => ke_i hw ht (by simp only [f_X7_complain, if_neg h1, if_pos h6, if_neg h7]) (by simp only [f_X7_complain, if_neg h1, if_pos h6, if_neg h7])) hw.2.2.2 dX7_complain_87
      · refine lv_iconst (v := 1) hx hb dX7_complain_49 (by decide) ?_
        refine lv_goto (tgt := 76) hx hb dX7_complain_50 (by decide) ?_
        refine k_put hc hk hw (x' := (xM S (up2 M 0 0 1) o)) at_M rfl iX7 tyX7 tyX7_ok nmX7 0 (by decide) q1035 rfl rfl rfl (Nat.le_of_ble_eq_true rfl) dX7_complain_76 (ms_0 (by decide)) (fun H locs hw => ?_)
        refine lv_aload_n hx hb dX7_complain_79 rfl (lv_at hl 1 rfl) ?_
        refine k_get hc hk hw at_M rfl iX7 0 (by decide) q1035 (v := .int 1) rfl dX7_complain_80 ?_
        refine lv_if_le (tgt := 88) hx hb dX7_complain_83 (by decide) (fun h10 => absurd h10 (by decide)) (fun _ => ?_)
        refine lv_iconst (v := 0) hx hb dX7_complain_86 (by decide) ?_
        exact W.iret (v := 0) hx hb hr (fun t9 ht hW => ke_i hw ht (by simp only [f_X7_complain, if_neg h1, if_pos h6, if_pos h7]) (by simp only [f_X7_complain, if_neg h1, if_pos h6, if_pos h7])) hw.2.2.2 dX7_complain_87
    · refine lv_iload hx hb dX7_complain_20 (lv_at hl 4 rfl) ?_
      refine lv_iconst (v := 0) hx hb dX7_complain_22 (by decide) ?_
      refine lv_aload_n hx hb dX7_complain_23 rfl (lv_at hl 0 rfl) ?_
      refine k_get hc hk hw at_M rfl iX7 1 (by decide) q1036 (v := .int (M 0 1)) rfl dX7_complain_24 ?_
      refine kc_i hw (va_runS (As := [.int a4, .int 0, .int (M 0 1)]) (rest := []) ⟨hx, hb, hml, hc.2.2.1, hc.2.2.2⟩ (m_X7_in l g S M o a4 0 (M 0 1)) (kw_S hc 3 q1133 q1134 q8 q1135 rfl rfl (by decide +kernel) ⟨Nat.le_of_ble_eq_true rfl, Nat.le_of_ble_eq_true rfl⟩) (kp_S hk hw) rfl rfl hl.1 rfl (lv_room (Nat.le_of_ble_eq_true rfl)) dX7_complain_27 ⟨Nat.le_of_ble_eq_true rfl, Nat.le_of_ble_eq_true rfl⟩) (fun H locs hw => ?_)
      refine lv_if_eq (tgt := 37) hx hb dX7_complain_30 (by decide) (fun h11 => ?_) (fun h11 => ?_)
      · refine lv_iconst (v := 0) hx hb dX7_complain_37 (by decide) ?_
        refine lv_istore (lv' := [(5, .int 0), (0, .ref (gA g (jM 0))), (1, .int a1), (2, .int a2), (3, .int a3), (4, .int a4)]) hx hb dX7_complain_38 hl (by decide) rfl (fun ls hl => ?_)
        refine lv_aload_n hx hb dX7_complain_40 rfl (lv_at hl 1 rfl) ?_
        refine lv_aload_n hx hb dX7_complain_41 rfl (lv_at hl 1 rfl) ?_
        refine lv_iload_n hx hb dX7_complain_42 rfl (lv_at hl 2 rfl) ?_
        refine kc_i hw (va_runV (As := [.int a1]) (rest := [.ref (gA g (jM 0))]) ⟨hx, hb, hml, hc.2.2.1, hc.2.2.2⟩ (m_X7_isOffice l g S M o a1 _ _ hN) (kw_V hc 1 q1160 q1162 qs62 q8 q1163 rfl rfl (by decide +kernel) ⟨Nat.le_of_ble_eq_true rfl, Nat.le_of_ble_eq_true rfl⟩) (kp_V hk hw at_M rfl) rfl rfl hl.1 rfl (lv_room (Nat.le_of_ble_eq_true rfl)) dX7_complain_43 ⟨Nat.le_of_ble_eq_true rfl, Nat.le_of_ble_eq_true rfl⟩) (fun H locs hw => ?_)
        refine lv_if_ne (tgt := 53) hx hb dX7_complain_46 (by decide) (fun h12 => ?_) (fun h12 => ?_)
        · refine lv_iload hx hb dX7_complain_53 (lv_at hl 0 rfl) ?_
          refine lv_if_ne (tgt := 62) hx hb dX7_complain_55 (by decide) (fun h13 => absurd h13 (by decide)) (fun _ => ?_)
          refine lv_iconst (v := 2) hx hb dX7_complain_58 (by decide) ?_
          refine lv_goto (tgt := 76) hx hb dX7_complain_59 (by decide) ?_
          refine k_put hc hk hw (x' := (xM S (up2 M 0 0 2) o)) at_M rfl iX7 tyX7 tyX7_ok nmX7 0 (by decide) q1035 rfl rfl rfl (Nat.le_of_ble_eq_true rfl) dX7_complain_76 (ms_0 (by decide)) (fun H locs hw => ?_)
          refine lv_aload_n hx hb dX7_complain_79 rfl (lv_at hl 1 rfl) ?_
          refine k_get hc hk hw at_M rfl iX7 0 (by decide) q1035 (v := .int 2) rfl dX7_complain_80 ?_
          refine lv_if_le (tgt := 88) hx hb dX7_complain_83 (by decide) (fun h14 => absurd h14 (by decide)) (fun _ => ?_)
          refine lv_iconst (v := 0) hx hb dX7_complain_86 (by decide) ?_
          exact W.iret (v := 0) hx hb hr (fun t9 ht hW => ke_i hw ht (by simp only [f_X7_complain, if_neg h1, if_neg h6, if_pos h11, if_neg h12]) (by simp only [f_X7_complain, if_neg h1, if_neg h6, if_pos h11, if_neg h12])) hw.2.2.2 dX7_complain_87
        · refine lv_iconst (v := 1) hx hb dX7_complain_49 (by decide) ?_
          refine lv_goto (tgt := 76) hx hb dX7_complain_50 (by decide) ?_
          refine k_put hc hk hw (x' := (xM S (up2 M 0 0 1) o)) at_M rfl iX7 tyX7 tyX7_ok nmX7 0 (by decide) q1035 rfl rfl rfl (Nat.le_of_ble_eq_true rfl) dX7_complain_76 (ms_0 (by decide)) (fun H locs hw => ?_)
          refine lv_aload_n hx hb dX7_complain_79 rfl (lv_at hl 1 rfl) ?_
          refine k_get hc hk hw at_M rfl iX7 0 (by decide) q1035 (v := .int 1) rfl dX7_complain_80 ?_
          refine lv_if_le (tgt := 88) hx hb dX7_complain_83 (by decide) (fun h15 => absurd h15 (by decide)) (fun _ => ?_)
          refine lv_iconst (v := 0) hx hb dX7_complain_86 (by decide) ?_
          exact W.iret (v := 0) hx hb hr (fun t9 ht hW => ke_i hw ht (by simp only [f_X7_complain, if_neg h1, if_neg h6, if_pos h11, if_pos h12]) (by simp only [f_X7_complain, if_neg h1, if_neg h6, if_pos h11, if_pos h12])) hw.2.2.2 dX7_complain_87
      · refine lv_iconst (v := 1) hx hb dX7_complain_33 (by decide) ?_
        refine lv_goto (tgt := 38) hx hb dX7_complain_34 (by decide) ?_
        refine lv_istore (lv' := [(5, .int 1), (0, .ref (gA g (jM 0))), (1, .int a1), (2, .int a2), (3, .int a3), (4, .int a4)]) hx hb dX7_complain_38 hl (by decide) rfl (fun ls hl => ?_)
        refine lv_aload_n hx hb dX7_complain_40 rfl (lv_at hl 1 rfl) ?_
        refine lv_aload_n hx hb dX7_complain_41 rfl (lv_at hl 1 rfl) ?_
        refine lv_iload_n hx hb dX7_complain_42 rfl (lv_at hl 2 rfl) ?_
        refine kc_i hw (va_runV (As := [.int a1]) (rest := [.ref (gA g (jM 0))]) ⟨hx, hb, hml, hc.2.2.1, hc.2.2.2⟩ (m_X7_isOffice l g S M o a1 _ _ hN) (kw_V hc 1 q1160 q1162 qs62 q8 q1163 rfl rfl (by decide +kernel) ⟨Nat.le_of_ble_eq_true rfl, Nat.le_of_ble_eq_true rfl⟩) (kp_V hk hw at_M rfl) rfl rfl hl.1 rfl (lv_room (Nat.le_of_ble_eq_true rfl)) dX7_complain_43 ⟨Nat.le_of_ble_eq_true rfl, Nat.le_of_ble_eq_true rfl⟩) (fun H locs hw => ?_)
        refine lv_if_ne (tgt := 53) hx hb dX7_complain_46 (by decide) (fun h16 => ?_) (fun h16 => ?_)
        · refine lv_iload hx hb dX7_complain_53 (lv_at hl 0 rfl) ?_
          refine lv_if_ne (tgt := 62) hx hb dX7_complain_55 (by decide) (fun _ => ?_) (fun h17 => absurd h17 (by decide))
          refine lv_aload_n hx hb dX7_complain_62 rfl (lv_at hl 1 rfl) ?_
          refine k_get hc hk hw at_M rfl iX7 3 (by decide) q1038 (v := .int (M 0 3)) rfl dX7_complain_63 ?_
          refine lv_bipush (v := 20) hx hb dX7_complain_66 (by decide) ?_
          refine lv_icmp_ne (tgt := 75) hx hb dX7_complain_68 (by decide) (fun h18 => ?_) (fun h18 => ?_)
          · refine lv_iconst (v := 0) hx hb dX7_complain_75 (by decide) ?_
            refine k_put hc hk hw (x' := (xM S (up2 M 0 0 0) o)) at_M rfl iX7 tyX7 tyX7_ok nmX7 0 (by decide) q1035 rfl rfl rfl (Nat.le_of_ble_eq_true rfl) dX7_complain_76 (ms_0 (by decide)) (fun H locs hw => ?_)
            refine lv_aload_n hx hb dX7_complain_79 rfl (lv_at hl 1 rfl) ?_
            refine k_get hc hk hw at_M rfl iX7 0 (by decide) q1035 (v := .int 0) rfl dX7_complain_80 ?_
            refine lv_if_le (tgt := 88) hx hb dX7_complain_83 (by decide) (fun _ => ?_) (fun h19 => absurd h19 (by decide))
            refine lv_aload_n hx hb dX7_complain_88 rfl (lv_at hl 1 rfl) ?_
            refine k_get hc hk hw at_M rfl iX7 9 (by decide) q1044 (v := .ref (gA g (jM 6))) rfl dX7_complain_89 ?_
            refine lv_aload_n hx hb dX7_complain_92 rfl (lv_at hl 1 rfl) ?_
            refine k_get hc hk hw at_M rfl iX7 3 (by decide) q1038 (v := .int (M 0 3)) rfl dX7_complain_93 ?_
            refine lv_iload_n hx hb dX7_complain_96 rfl (lv_at hl 2 rfl) ?_
            refine k_iast (x' := (xM S (up2 (up2 M 0 0 0) 6 ((M 0 3).toNatClampNeg) a1) o)) (f := (up2 M 0 0 0) 6) (n := ((M 0 3).toNatClampNeg)) hc hk hw (at_Mk (k := 6) (t := 0) (n := 20) (by decide) (by decide) (by decide) (by decide)) (MN.i3 hN h18) rfl dX7_complain_97 (ms_k (k := 6) (t := 0) (n := 20) (by decide) (by decide) (by decide) (by decide)) (fun H locs hw => ?_)
            refine lv_aload_n hx hb dX7_complain_98 rfl (lv_at hl 1 rfl) ?_
            refine k_get hc hk hw at_M rfl iX7 10 (by decide) q1045 (v := .ref (gA g (jM 7))) rfl dX7_complain_99 ?_
            refine lv_aload_n hx hb dX7_complain_102 rfl (lv_at hl 1 rfl) ?_
            refine k_get hc hk hw at_M rfl iX7 3 (by decide) q1038 (v := .int (M 0 3)) rfl dX7_complain_103 ?_
            refine lv_iload_n hx hb dX7_complain_106 rfl (lv_at hl 3 rfl) ?_
            refine k_iast (x' := (xM S (up2 (up2 (up2 M 0 0 0) 6 ((M 0 3).toNatClampNeg) a1) 7 ((M 0 3).toNatClampNeg) a2) o)) (f := (up2 (up2 M 0 0 0) 6 ((M 0 3).toNatClampNeg) a1) 7) (n := ((M 0 3).toNatClampNeg)) hc hk hw (at_Mk (k := 7) (t := 0) (n := 20) (by decide) (by decide) (by decide) (by decide)) (MN.i3 hN h18) rfl dX7_complain_107 (ms_k (k := 7) (t := 0) (n := 20) (by decide) (by decide) (by decide) (by decide)) (fun H locs hw => ?_)
            refine lv_aload_n hx hb dX7_complain_108 rfl (lv_at hl 1 rfl) ?_
            refine k_get hc hk hw at_M rfl iX7 11 (by decide) q1046 (v := .ref (gA g (jM 8))) rfl dX7_complain_109 ?_
            refine lv_aload_n hx hb dX7_complain_112 rfl (lv_at hl 1 rfl) ?_
            refine k_get hc hk hw at_M rfl iX7 3 (by decide) q1038 (v := .int (M 0 3)) rfl dX7_complain_113 ?_
            refine lv_iload_n hx hb dX7_complain_116 rfl (lv_at hl 4 rfl) ?_
            refine k_iast (x' := (xM S (up2 (up2 (up2 (up2 M 0 0 0) 6 ((M 0 3).toNatClampNeg) a1) 7 ((M 0 3).toNatClampNeg) a2) 8 ((M 0 3).toNatClampNeg) a3) o)) (f := (up2 (up2 (up2 M 0 0 0) 6 ((M 0 3).toNatClampNeg) a1) 7 ((M 0 3).toNatClampNeg) a2) 8) (n := ((M 0 3).toNatClampNeg)) hc hk hw (at_Mk (k := 8) (t := 0) (n := 20) (by decide) (by decide) (by decide) (by decide)) (MN.i3 hN h18) rfl dX7_complain_117 (ms_k (k := 8) (t := 0) (n := 20) (by decide) (by decide) (by decide) (by decide)) (fun H locs hw => ?_)
            refine lv_aload_n hx hb dX7_complain_118 rfl (lv_at hl 1 rfl) ?_
            refine k_get hc hk hw at_M rfl iX7 12 (by decide) q1047 (v := .ref (gA g (jM 9))) rfl dX7_complain_119 ?_
            refine lv_aload_n hx hb dX7_complain_122 rfl (lv_at hl 1 rfl) ?_
            refine k_get hc hk hw at_M rfl iX7 3 (by decide) q1038 (v := .int (M 0 3)) rfl dX7_complain_123 ?_
            refine lv_iload hx hb dX7_complain_126 (lv_at hl 5 rfl) ?_
            refine k_iast (x' := (xM S (up2 (up2 (up2 (up2 (up2 M 0 0 0) 6 ((M 0 3).toNatClampNeg) a1) 7 ((M 0 3).toNatClampNeg) a2) 8 ((M 0 3).toNatClampNeg) a3) 9 ((M 0 3).toNatClampNeg) a4) o)) (f := (up2 (up2 (up2 (up2 M 0 0 0) 6 ((M 0 3).toNatClampNeg) a1) 7 ((M 0 3).toNatClampNeg) a2) 8 ((M 0 3).toNatClampNeg) a3) 9) (n := ((M 0 3).toNatClampNeg)) hc hk hw (at_Mk (k := 9) (t := 0) (n := 20) (by decide) (by decide) (by decide) (by decide)) (MN.i3 hN h18) rfl dX7_complain_128 (ms_k (k := 9) (t := 0) (n := 20) (by decide) (by decide) (by decide) (by decide)) (fun H locs hw => ?_)
            refine lv_aload_n hx hb dX7_complain_129 rfl (lv_at hl 1 rfl) ?_
            refine k_get hc hk hw at_M rfl iX7 13 (by decide) q1048 (v := .ref (gA g (jM 10))) rfl dX7_complain_130 ?_
            refine lv_aload_n hx hb dX7_complain_133 rfl (lv_at hl 1 rfl) ?_
            refine k_get hc hk hw at_M rfl iX7 3 (by decide) q1038 (v := .int (M 0 3)) rfl dX7_complain_134 ?_
            refine lv_aload_n hx hb dX7_complain_137 rfl (lv_at hl 1 rfl) ?_
            refine k_get hc hk hw at_M rfl iX7 1 (by decide) q1036 (v := .int (M 0 1)) rfl dX7_complain_138 ?_
            refine k_iast (x' := (xM S (up2 (up2 (up2 (up2 (up2 (up2 M 0 0 0) 6 ((M 0 3).toNatClampNeg) a1) 7 ((M 0 3).toNatClampNeg) a2) 8 ((M 0 3).toNatClampNeg) a3) 9 ((M 0 3).toNatClampNeg) a4) 10 ((M 0 3).toNatClampNeg) (M 0 1)) o)) (f := (up2 (up2 (up2 (up2 (up2 M 0 0 0) 6 ((M 0 3).toNatClampNeg) a1) 7 ((M 0 3).toNatClampNeg) a2) 8 ((M 0 3).toNatClampNeg) a3) 9 ((M 0 3).toNatClampNeg) a4) 10) (n := ((M 0 3).toNatClampNeg)) hc hk hw (at_Mk (k := 10) (t := 0) (n := 20) (by decide) (by decide) (by decide) (by decide)) (MN.i3 hN h18) rfl dX7_complain_141 (ms_k (k := 10) (t := 0) (n := 20) (by decide) (by decide) (by decide) (by decide)) (fun H locs hw => ?_)
            refine lv_aload_n hx hb dX7_complain_142 rfl (lv_at hl 1 rfl) ?_
            refine k_get hc hk hw at_M rfl iX7 14 (by decide) q1049 (v := .ref (gA g (jM 11))) rfl dX7_complain_143 ?_
            refine lv_aload_n hx hb dX7_complain_146 rfl (lv_at hl 1 rfl) ?_
            refine k_get hc hk hw at_M rfl iX7 3 (by decide) q1038 (v := .int (M 0 3)) rfl dX7_complain_147 ?_
            refine lv_bipush (v := 110) hx hb dX7_complain_150 (by decide) ?_
            refine k_cast (x' := (xM S (up2 (up2 (up2 (up2 (up2 (up2 (up2 M 0 0 0) 6 ((M 0 3).toNatClampNeg) a1) 7 ((M 0 3).toNatClampNeg) a2) 8 ((M 0 3).toNatClampNeg) a3) 9 ((M 0 3).toNatClampNeg) a4) 10 ((M 0 3).toNatClampNeg) (M 0 1)) 11 ((M 0 3).toNatClampNeg) 110) o)) (f := (up2 (up2 (up2 (up2 (up2 (up2 M 0 0 0) 6 ((M 0 3).toNatClampNeg) a1) 7 ((M 0 3).toNatClampNeg) a2) 8 ((M 0 3).toNatClampNeg) a3) 9 ((M 0 3).toNatClampNeg) a4) 10 ((M 0 3).toNatClampNeg) (M 0 1)) 11) (n := ((M 0 3).toNatClampNeg)) hc hk hw (at_Mk (k := 11) (t := 1) (n := 20) (by decide) (by decide) (by decide) (by decide)) (MN.i3 hN h18) rfl (by decide +kernel) dX7_complain_152 (ms_k (k := 11) (t := 1) (n := 20) (by decide) (by decide) (by decide) (by decide)) (fun H locs hw => ?_)
            refine lv_aload_n hx hb dX7_complain_153 rfl (lv_at hl 1 rfl) ?_
            refine k_get hc hk hw at_M rfl iX7 15 (by decide) q1050 (v := .ref (gA g (jM 12))) rfl dX7_complain_154 ?_
            refine lv_aload_n hx hb dX7_complain_157 rfl (lv_at hl 1 rfl) ?_
            refine k_get hc hk hw at_M rfl iX7 3 (by decide) q1038 (v := .int (M 0 3)) rfl dX7_complain_158 ?_
            refine lv_iconst (v := (-1)) hx hb dX7_complain_161 (by decide) ?_
            refine k_iast (x' := (xM S (up2 (up2 (up2 (up2 (up2 (up2 (up2 (up2 M 0 0 0) 6 ((M 0 3).toNatClampNeg) a1) 7 ((M 0 3).toNatClampNeg) a2) 8 ((M 0 3).toNatClampNeg) a3) 9 ((M 0 3).toNatClampNeg) a4) 10 ((M 0 3).toNatClampNeg) (M 0 1)) 11 ((M 0 3).toNatClampNeg) 110) 12 ((M 0 3).toNatClampNeg) (-1)) o)) (f := (up2 (up2 (up2 (up2 (up2 (up2 (up2 M 0 0 0) 6 ((M 0 3).toNatClampNeg) a1) 7 ((M 0 3).toNatClampNeg) a2) 8 ((M 0 3).toNatClampNeg) a3) 9 ((M 0 3).toNatClampNeg) a4) 10 ((M 0 3).toNatClampNeg) (M 0 1)) 11 ((M 0 3).toNatClampNeg) 110) 12) (n := ((M 0 3).toNatClampNeg)) hc hk hw (at_Mk (k := 12) (t := 0) (n := 20) (by decide) (by decide) (by decide) (by decide)) (MN.i3 hN h18) rfl dX7_complain_162 (ms_k (k := 12) (t := 0) (n := 20) (by decide) (by decide) (by decide) (by decide)) (fun H locs hw => ?_)
            refine lv_aload_n hx hb dX7_complain_163 rfl (lv_at hl 1 rfl) ?_
            refine k_get hc hk hw at_M rfl iX7 18 (by decide) q1053 (v := .ref (gA g (jM 15))) rfl dX7_complain_164 ?_
            refine lv_aload_n hx hb dX7_complain_167 rfl (lv_at hl 1 rfl) ?_
            refine k_get hc hk hw at_M rfl iX7 3 (by decide) q1038 (v := .int (M 0 3)) rfl dX7_complain_168 ?_
            refine lv_iconst (v := (-1)) hx hb dX7_complain_171 (by decide) ?_
            refine k_iast (x' := (xM S (up2 (up2 (up2 (up2 (up2 (up2 (up2 (up2 (up2 M 0 0 0) 6 ((M 0 3).toNatClampNeg) a1) 7 ((M 0 3).toNatClampNeg) a2) 8 ((M 0 3).toNatClampNeg) a3) 9 ((M 0 3).toNatClampNeg) a4) 10 ((M 0 3).toNatClampNeg) (M 0 1)) 11 ((M 0 3).toNatClampNeg) 110) 12 ((M 0 3).toNatClampNeg) (-1)) 15 ((M 0 3).toNatClampNeg) (-1)) o)) (f := (up2 (up2 (up2 (up2 (up2 (up2 (up2 (up2 M 0 0 0) 6 ((M 0 3).toNatClampNeg) a1) 7 ((M 0 3).toNatClampNeg) a2) 8 ((M 0 3).toNatClampNeg) a3) 9 ((M 0 3).toNatClampNeg) a4) 10 ((M 0 3).toNatClampNeg) (M 0 1)) 11 ((M 0 3).toNatClampNeg) 110) 12 ((M 0 3).toNatClampNeg) (-1)) 15) (n := ((M 0 3).toNatClampNeg)) hc hk hw (at_Mk (k := 15) (t := 0) (n := 20) (by decide) (by decide) (by decide) (by decide)) (MN.i3 hN h18) rfl dX7_complain_172 (ms_k (k := 15) (t := 0) (n := 20) (by decide) (by decide) (by decide) (by decide)) (fun H locs hw => ?_)
            refine lv_aload_n hx hb dX7_complain_173 rfl (lv_at hl 1 rfl) ?_
            refine k_get hc hk hw at_M rfl iX7 23 (by decide) q1058 (v := .ref (gA g (jM 20))) rfl dX7_complain_174 ?_
            refine lv_aload_n hx hb dX7_complain_177 rfl (lv_at hl 1 rfl) ?_
            refine k_get hc hk hw at_M rfl iX7 3 (by decide) q1038 (v := .int (M 0 3)) rfl dX7_complain_178 ?_
            refine lv_iconst (v := (-1)) hx hb dX7_complain_181 (by decide) ?_
            refine k_iast (x' := (xM S (up2 (up2 (up2 (up2 (up2 (up2 (up2 (up2 (up2 (up2 M 0 0 0) 6 ((M 0 3).toNatClampNeg) a1) 7 ((M 0 3).toNatClampNeg) a2) 8 ((M 0 3).toNatClampNeg) a3) 9 ((M 0 3).toNatClampNeg) a4) 10 ((M 0 3).toNatClampNeg) (M 0 1)) 11 ((M 0 3).toNatClampNeg) 110) 12 ((M 0 3).toNatClampNeg) (-1)) 15 ((M 0 3).toNatClampNeg) (-1)) 20 ((M 0 3).toNatClampNeg) (-1)) o)) (f := (up2 (up2 (up2 (up2 (up2 (up2 (up2 (up2 (up2 M 0 0 0) 6 ((M 0 3).toNatClampNeg) a1) 7 ((M 0 3).toNatClampNeg) a2) 8 ((M 0 3).toNatClampNeg) a3) 9 ((M 0 3).toNatClampNeg) a4) 10 ((M 0 3).toNatClampNeg) (M 0 1)) 11 ((M 0 3).toNatClampNeg) 110) 12 ((M 0 3).toNatClampNeg) (-1)) 15 ((M 0 3).toNatClampNeg) (-1)) 20) (n := ((M 0 3).toNatClampNeg)) hc hk hw (at_Mk (k := 20) (t := 0) (n := 20) (by decide) (by decide) (by decide) (by decide)) (MN.i3 hN h18) rfl dX7_complain_182 (ms_k (k := 20) (t := 0) (n := 20) (by decide) (by decide) (by decide) (by decide)) (fun H locs hw => ?_)
            refine lv_aload_n hx hb dX7_complain_183 rfl (lv_at hl 1 rfl) ?_
            refine k_get hc hk hw at_M rfl iX7 25 (by decide) q1060 (v := .ref (gA g (jM 22))) rfl dX7_complain_184 ?_
            refine lv_aload_n hx hb dX7_complain_187 rfl (lv_at hl 1 rfl) ?_
            refine k_get hc hk hw at_M rfl iX7 3 (by decide) q1038 (v := .int (M 0 3)) rfl dX7_complain_188 ?_
            refine lv_iconst (v := (-1)) hx hb dX7_complain_191 (by decide) ?_
            refine k_iast (x' := (xM S (up2 (up2 (up2 (up2 (up2 (up2 (up2 (up2 (up2 (up2 (up2 M 0 0 0) 6 ((M 0 3).toNatClampNeg) a1) 7 ((M 0 3).toNatClampNeg) a2) 8 ((M 0 3).toNatClampNeg) a3) 9 ((M 0 3).toNatClampNeg) a4) 10 ((M 0 3).toNatClampNeg) (M 0 1)) 11 ((M 0 3).toNatClampNeg) 110) 12 ((M 0 3).toNatClampNeg) (-1)) 15 ((M 0 3).toNatClampNeg) (-1)) 20 ((M 0 3).toNatClampNeg) (-1)) 22 ((M 0 3).toNatClampNeg) (-1)) o)) (f := (up2 (up2 (up2 (up2 (up2 (up2 (up2 (up2 (up2 (up2 M 0 0 0) 6 ((M 0 3).toNatClampNeg) a1) 7 ((M 0 3).toNatClampNeg) a2) 8 ((M 0 3).toNatClampNeg) a3) 9 ((M 0 3).toNatClampNeg) a4) 10 ((M 0 3).toNatClampNeg) (M 0 1)) 11 ((M 0 3).toNatClampNeg) 110) 12 ((M 0 3).toNatClampNeg) (-1)) 15 ((M 0 3).toNatClampNeg) (-1)) 20 ((M 0 3).toNatClampNeg) (-1)) 22) (n := ((M 0 3).toNatClampNeg)) hc hk hw (at_Mk (k := 22) (t := 0) (n := 20) (by decide) (by decide) (by decide) (by decide)) (MN.i3 hN h18) rfl dX7_complain_192 (ms_k (k := 22) (t := 0) (n := 20) (by decide) (by decide) (by decide) (by decide)) (fun H locs hw => ?_)
            refine lv_aload_n hx hb dX7_complain_193 rfl (lv_at hl 1 rfl) ?_
            refine lv_dup hx hb dX7_complain_194 rfl ?_
            refine k_get hc hk hw at_M rfl iX7 3 (by decide) q1038 (v := .int (M 0 3)) rfl dX7_complain_195 ?_
            refine lv_iconst (v := 1) hx hb dX7_complain_198 (by decide) ?_
            refine lv_iadd hx hb dX7_complain_199 ?_
            refine k_put hc hk hw (x' := (xM S (up2 (up2 (up2 (up2 (up2 (up2 (up2 (up2 (up2 (up2 (up2 (up2 M 0 0 0) 6 ((M 0 3).toNatClampNeg) a1) 7 ((M 0 3).toNatClampNeg) a2) 8 ((M 0 3).toNatClampNeg) a3) 9 ((M 0 3).toNatClampNeg) a4) 10 ((M 0 3).toNatClampNeg) (M 0 1)) 11 ((M 0 3).toNatClampNeg) 110) 12 ((M 0 3).toNatClampNeg) (-1)) 15 ((M 0 3).toNatClampNeg) (-1)) 20 ((M 0 3).toNatClampNeg) (-1)) 22 ((M 0 3).toNatClampNeg) (-1)) 0 3 ((M 0 3) + 1)) o)) at_M rfl iX7 tyX7 tyX7_ok nmX7 3 (by decide) q1038 rfl rfl rfl (Nat.le_of_ble_eq_true rfl) dX7_complain_200 (ms_0 (by decide)) (fun H locs hw => ?_)
            refine lv_aload_n hx hb dX7_complain_203 rfl (lv_at hl 1 rfl) ?_
            refine k_get hc hk hw at_M rfl iX7 3 (by decide) q1038 (v := .int ((M 0 3) + 1)) rfl dX7_complain_204 ?_
            refine lv_iconst (v := 1) hx hb dX7_complain_207 (by decide) ?_
            refine lv_isub hx hb dX7_complain_208 ?_
            exact W.iret (v := ((M 0 3) + 1) - 1) hx hb hr (fun t9 ht hW => ke_i hw ht (by simp only [f_X7_complain, if_neg h1, if_neg h6, if_neg h11, if_neg h16, if_neg h18]) (by simp only [f_X7_complain, if_neg h1, if_neg h6, if_neg h11, if_neg h16, if_neg h18])) hw.2.2.2 dX7_complain_209
          · refine lv_iconst (v := 3) hx hb dX7_complain_71 (by decide) ?_
            refine lv_goto (tgt := 76) hx hb dX7_complain_72 (by decide) ?_
            refine k_put hc hk hw (x' := (xM S (up2 M 0 0 3) o)) at_M rfl iX7 tyX7 tyX7_ok nmX7 0 (by decide) q1035 rfl rfl rfl (Nat.le_of_ble_eq_true rfl) dX7_complain_76 (ms_0 (by decide)) (fun H locs hw => ?_)
            refine lv_aload_n hx hb dX7_complain_79 rfl (lv_at hl 1 rfl) ?_
            refine k_get hc hk hw at_M rfl iX7 0 (by decide) q1035 (v := .int 3) rfl dX7_complain_80 ?_
            refine lv_if_le (tgt := 88) hx hb dX7_complain_83 (by decide) (fun h20 => absurd h20 (by decide)) (fun _ => ?_)
            refine lv_iconst (v := 0) hx hb dX7_complain_86 (by decide) ?_
            exact W.iret (v := 0) hx hb hr (fun t9 ht hW => ke_i hw ht (by simp only [f_X7_complain, if_neg h1, if_neg h6, if_neg h11, if_neg h16, if_pos h18]) (by simp only [f_X7_complain, if_neg h1, if_neg h6, if_neg h11, if_neg h16, if_pos h18])) hw.2.2.2 dX7_complain_87
        · refine lv_iconst (v := 1) hx hb dX7_complain_49 (by decide) ?_
          refine lv_goto (tgt := 76) hx hb dX7_complain_50 (by decide) ?_
          refine k_put hc hk hw (x' := (xM S (up2 M 0 0 1) o)) at_M rfl iX7 tyX7 tyX7_ok nmX7 0 (by decide) q1035 rfl rfl rfl (Nat.le_of_ble_eq_true rfl) dX7_complain_76 (ms_0 (by decide)) (fun H locs hw => ?_)
          refine lv_aload_n hx hb dX7_complain_79 rfl (lv_at hl 1 rfl) ?_
          refine k_get hc hk hw at_M rfl iX7 0 (by decide) q1035 (v := .int 1) rfl dX7_complain_80 ?_
          refine lv_if_le (tgt := 88) hx hb dX7_complain_83 (by decide) (fun h21 => absurd h21 (by decide)) (fun _ => ?_)
          refine lv_iconst (v := 0) hx hb dX7_complain_86 (by decide) ?_
          exact W.iret (v := 0) hx hb hr (fun t9 ht hW => ke_i hw ht (by simp only [f_X7_complain, if_neg h1, if_neg h6, if_neg h11, if_pos h16]) (by simp only [f_X7_complain, if_neg h1, if_neg h6, if_neg h11, if_pos h16])) hw.2.2.2 dX7_complain_87
def f_X7_isPast (a1 : Int32) (M : BT) : Int32 × BT :=
  (if (f_X7_noComplaint a1 M).1 = 0 then (if f_X7_standing a1 ((f_X7_noComplaint a1 M).2) = 110 then (0, up2 ((f_X7_noComplaint a1 M).2) 0 0 0) else (if f_X7_standing a1 ((f_X7_noComplaint a1 M).2) = 102 then (0, up2 ((f_X7_noComplaint a1 M).2) 0 0 0) else (1, up2 ((f_X7_noComplaint a1 M).2) 0 0 2))) else (1, (f_X7_noComplaint a1 M).2))
theorem cn_X7_isPast {a1 : Int32} {M : BT} {n m9 : Nat} (hN : MN M n m9) : MN ((f_X7_isPast a1 M).2) n m9 := by
  unfold f_X7_isPast
  by_cases h1 : (f_X7_noComplaint a1 M).1 = 0
  · simp only [if_pos h1]
    by_cases h2 : f_X7_standing a1 ((f_X7_noComplaint a1 M).2) = 110
    · simp only [if_pos h2]
      exact (MN.up0 (by decide) (by decide) (cn_X7_noComplaint hN))
    · simp only [if_neg h2]
      by_cases h4 : f_X7_standing a1 ((f_X7_noComplaint a1 M).2) = 102
      · simp only [if_pos h4]
        exact (MN.up0 (by decide) (by decide) (cn_X7_noComplaint hN))
      · simp only [if_neg h4]
        exact (MN.up0 (by decide) (by decide) (cn_X7_noComplaint hN))
  · simp only [if_neg h1]
    exact (cn_X7_noComplaint hN)
set_option maxHeartbeats 4000000 in
set_option maxRecDepth 100000 in
theorem m_X7_isPast (l : Launch) (g : wG) (S : Nat → BT) (M : BT) (o : (Nat → Int64) × (Nat → UInt64)) (a1 : Int32) (n m9 : Nat) (hN : MN M n m9) : mI l yX7_isPast cX7_isPast 2 (some .boolean) ({ frames := 3, cells := 0, slots := 0, locals := 64 } : Room) 0 0 g (xM S M o) [.ref (gA g (jM 0)), .int a1] ((f_X7_isPast a1 M).1) (xM S ((f_X7_isPast a1 M).2) o) := by
  refine Met.ofW (cc := cX7_isPast) (maxL := 2) (ret := some .boolean) (by decide) rfl ?_
  intro p9 e s m args below meth c s₁ BL hml hv
  obtain ⟨rfl, hk, hPB⟩ := hv
  have hx := BL.exec
  have hb := BL.bytes
  have hc : CX p9 c cX7_isPast s _ m RX7 := ⟨hx, hb, findClass_of_methodNamed BL.named, fun w h => atoms_spec BL.pre w (List.mem_cons_of_mem _ h)⟩
  have hr := BL.returns
  have hlocks := BL.notSynchronized
  have hw : WS g s (xM S M o) s.heap [] := ⟨hPB, va_S.rf⟩
  have hl := lv_entry ([.ref (gA g (jM 0)), .int a1]) (n := 2) (Nat.le_of_ble_eq_true rfl)
  rw [lg_entry_eq]
  generalize (lg_sl ([.ref (gA g (jM 0)), .int a1]) ++ List.replicate (2 - (lg_sl ([.ref (gA g (jM 0)), .int a1])).length) Slot.unset).toArray = ls at hl ⊢
  have hl : lv_has ls 2 [(0, .ref (gA g (jM 0))), (1, .int a1)] := hl
  refine lv_aload_n hx hb dX7_isPast_0 rfl (lv_at hl 0 rfl) ?_
  refine lv_iload_n hx hb dX7_isPast_1 rfl (lv_at hl 1 rfl) ?_
  refine kc_i hw (va_runV (As := [.int a1]) (rest := []) ⟨hx, hb, hml, hc.2.2.1, hc.2.2.2⟩ (m_X7_noComplaint l g S M o a1 _ _ hN) (kw_V hc 1 q1172 q1174 qs64 q8 q1175 rfl rfl (by decide +kernel) ⟨Nat.le_of_ble_eq_true rfl, Nat.le_of_ble_eq_true rfl⟩) (kp_V hk hw at_M rfl) rfl rfl hl.1 rfl (lv_room (Nat.le_of_ble_eq_true rfl)) dX7_isPast_2 ⟨Nat.le_of_ble_eq_true rfl, Nat.le_of_ble_eq_true rfl⟩) (fun H locs hw => ?_)
  refine lv_if_eq (tgt := 10) hx hb dX7_isPast_5 (by decide) (fun h1 => ?_) (fun h1 => ?_)
  · refine lv_aload_n hx hb dX7_isPast_10 rfl (lv_at hl 0 rfl) ?_
    refine lv_aload_n hx hb dX7_isPast_11 rfl (lv_at hl 0 rfl) ?_
    refine lv_iload_n hx hb dX7_isPast_12 rfl (lv_at hl 1 rfl) ?_
    refine kc_i hw (va_runV (As := [.int a1]) (rest := [.ref (gA g (jM 0))]) ⟨hx, hb, hml, hc.2.2.1, hc.2.2.2⟩ (m_X7_standing l g S ((f_X7_noComplaint a1 M).2) o a1 _ _ (cn_X7_noComplaint hN) (noComplaint_in hN h1)) (kw_V hc 1 q1140 q1142 qs59 q8 q1143 rfl rfl (by decide +kernel) ⟨Nat.le_of_ble_eq_true rfl, Nat.le_of_ble_eq_true rfl⟩) (kp_V hk hw at_M rfl) rfl rfl hl.1 rfl (lv_room (Nat.le_of_ble_eq_true rfl)) dX7_isPast_13 ⟨Nat.le_of_ble_eq_true rfl, Nat.le_of_ble_eq_true rfl⟩) (fun H locs hw => ?_)
    refine lv_bipush (v := 110) hx hb dX7_isPast_16 (by decide) ?_
    refine lv_icmp_eq (tgt := 31) hx hb dX7_isPast_18 (by decide) (fun h2 => ?_) (fun h2 => ?_)
    · refine lv_iconst (v := 0) hx hb dX7_isPast_31 (by decide) ?_
      refine lv_goto (tgt := 36) hx hb dX7_isPast_32 (by decide) ?_
      refine k_put hc hk hw (x' := (xM S (up2 ((f_X7_noComplaint a1 M).2) 0 0 0) o)) at_M rfl iX7 tyX7 tyX7_ok nmX7 0 (by decide) q1035 rfl rfl rfl (Nat.le_of_ble_eq_true rfl) dX7_isPast_36 (ms_0 (by decide)) (fun H locs hw => ?_)
      refine lv_aload_n hx hb dX7_isPast_39 rfl (lv_at hl 0 rfl) ?_
      refine k_get hc hk hw at_M rfl iX7 0 (by decide) q1035 (v := .int 0) rfl dX7_isPast_40 ?_
      refine lv_if_le (tgt := 50) hx hb dX7_isPast_43 (by decide) (fun _ => ?_) (fun h3 => absurd h3 (by decide))
      refine lv_iconst (v := 0) hx hb dX7_isPast_50 (by decide) ?_
      exact W.zret (v := 0) hx hb hr (by decide +kernel) (fun t9 ht hW => ke_i hw ht (by simp only [f_X7_isPast, if_pos h1, if_pos h2]) (by simp only [f_X7_isPast, if_pos h1, if_pos h2])) hw.2.2.2 dX7_isPast_51
    · refine lv_aload_n hx hb dX7_isPast_21 rfl (lv_at hl 0 rfl) ?_
      refine lv_iload_n hx hb dX7_isPast_22 rfl (lv_at hl 1 rfl) ?_
      refine kc_i hw (va_runV (As := [.int a1]) (rest := [.ref (gA g (jM 0))]) ⟨hx, hb, hml, hc.2.2.1, hc.2.2.2⟩ (m_X7_standing l g S ((f_X7_noComplaint a1 M).2) o a1 _ _ (cn_X7_noComplaint hN) (noComplaint_in hN h1)) (kw_V hc 1 q1140 q1142 qs59 q8 q1143 rfl rfl (by decide +kernel) ⟨Nat.le_of_ble_eq_true rfl, Nat.le_of_ble_eq_true rfl⟩) (kp_V hk hw at_M rfl) rfl rfl hl.1 rfl (lv_room (Nat.le_of_ble_eq_true rfl)) dX7_isPast_23 ⟨Nat.le_of_ble_eq_true rfl, Nat.le_of_ble_eq_true rfl⟩) (fun H locs hw => ?_)
      refine lv_bipush (v := 102) hx hb dX7_isPast_26 (by decide) ?_
      refine lv_icmp_ne (tgt := 35) hx hb dX7_isPast_28 (by decide) (fun h4 => ?_) (fun h4 => ?_)
      · refine lv_iconst (v := 2) hx hb dX7_isPast_35 (by decide) ?_
        refine k_put hc hk hw (x' := (xM S (up2 ((f_X7_noComplaint a1 M).2) 0 0 2) o)) at_M rfl iX7 tyX7 tyX7_ok nmX7 0 (by decide) q1035 rfl rfl rfl (Nat.le_of_ble_eq_true rfl) dX7_isPast_36 (ms_0 (by decide)) (fun H locs hw => ?_)
        refine lv_aload_n hx hb dX7_isPast_39 rfl (lv_at hl 0 rfl) ?_
        refine k_get hc hk hw at_M rfl iX7 0 (by decide) q1035 (v := .int 2) rfl dX7_isPast_40 ?_
        refine lv_if_le (tgt := 50) hx hb dX7_isPast_43 (by decide) (fun h5 => absurd h5 (by decide)) (fun _ => ?_)
        refine lv_iconst (v := 1) hx hb dX7_isPast_46 (by decide) ?_
        refine lv_goto (tgt := 51) hx hb dX7_isPast_47 (by decide) ?_
        exact W.zret (v := 1) hx hb hr (by decide +kernel) (fun t9 ht hW => ke_i hw ht (by simp only [f_X7_isPast, if_pos h1, if_neg h2, if_neg h4]) (by simp only [f_X7_isPast, if_pos h1, if_neg h2, if_neg h4])) hw.2.2.2 dX7_isPast_51
      · refine lv_iconst (v := 0) hx hb dX7_isPast_31 (by decide) ?_
        refine lv_goto (tgt := 36) hx hb dX7_isPast_32 (by decide) ?_
        refine k_put hc hk hw (x' := (xM S (up2 ((f_X7_noComplaint a1 M).2) 0 0 0) o)) at_M rfl iX7 tyX7 tyX7_ok nmX7 0 (by decide) q1035 rfl rfl rfl (Nat.le_of_ble_eq_true rfl) dX7_isPast_36 (ms_0 (by decide)) (fun H locs hw => ?_)
        refine lv_aload_n hx hb dX7_isPast_39 rfl (lv_at hl 0 rfl) ?_
        refine k_get hc hk hw at_M rfl iX7 0 (by decide) q1035 (v := .int 0) rfl dX7_isPast_40 ?_
        refine lv_if_le (tgt := 50) hx hb dX7_isPast_43 (by decide) (fun _ => ?_) (fun h6 => absurd h6 (by decide))
        refine lv_iconst (v := 0) hx hb dX7_isPast_50 (by decide) ?_
        exact W.zret (v := 0) hx hb hr (by decide +kernel) (fun t9 ht hW => ke_i hw ht (by simp only [f_X7_isPast, if_pos h1, if_neg h2, if_pos h4]) (by simp only [f_X7_isPast, if_pos h1, if_neg h2, if_pos h4])) hw.2.2.2 dX7_isPast_51
  · refine lv_iconst (v := 1) hx hb dX7_isPast_8 (by decide) ?_
    exact W.zret (v := 1) hx hb hr (by decide +kernel) (fun t9 ht hW => ke_i hw ht (by simp only [f_X7_isPast, if_neg h1]) (by simp only [f_X7_isPast, if_neg h1])) hw.2.2.2 dX7_isPast_9
theorem isPast_in {a1 : Int32} {M : BT} {n m : Nat} (hN : MN M n m) (h : (f_X7_isPast a1 M).1 = 0) : vp_in a1 20 := by
  unfold f_X7_isPast at h
  by_cases h1 : (f_X7_noComplaint a1 M).1 = 0
  · exact noComplaint_in hN h1
  · simp only [if_neg h1] at h
    exact absurd h (by decide)
def f_X7_setCourt (a1 : Int32) (a2 : Int32) (M : BT) : Int32 × BT :=
  (if (f_X7_isPast a1 M).1 = 0 then (((f_X7_isPast a1 M).2) 13 ((a1).toNatClampNeg), up2 ((f_X7_isPast a1 M).2) 13 ((a1).toNatClampNeg) a2) else (0, (f_X7_isPast a1 M).2))
theorem cn_X7_setCourt {a1 : Int32} {a2 : Int32} {M : BT} {n m9 : Nat} (ha2 : okz a2) (hN : MN M n m9) : MN ((f_X7_setCourt a1 a2 M).2) n m9 := by
  unfold f_X7_setCourt
  by_cases h1 : (f_X7_isPast a1 M).1 = 0
  · simp only [if_pos h1]
    exact (MN.upz (by decide) (by decide) (by decide) (by decide) ha2 (cn_X7_isPast hN))
  · simp only [if_neg h1]
    exact (cn_X7_isPast hN)
set_option maxHeartbeats 4000000 in
set_option maxRecDepth 100000 in
theorem m_X7_setCourt (l : Launch) (g : wG) (S : Nat → BT) (M : BT) (o : (Nat → Int64) × (Nat → UInt64)) (a1 : Int32) (a2 : Int32) (ha2 : okz a2) (n m9 : Nat) (hN : MN M n m9) : mI l yX7_setCourt cX7_setCourt 4 (some .boolean) ({ frames := 4, cells := 0, slots := 0, locals := 85 } : Room) 0 0 g (xM S M o) [.ref (gA g (jM 0)), .int a1, .int a2] ((f_X7_setCourt a1 a2 M).1) (xM S ((f_X7_setCourt a1 a2 M).2) o) := by
  refine Met.ofW (cc := cX7_setCourt) (maxL := 4) (ret := some .boolean) (by decide) rfl ?_
  intro p9 e s m args below meth c s₁ BL hml hv
  obtain ⟨rfl, hk, hPB⟩ := hv
  have hx := BL.exec
  have hb := BL.bytes
  have hc : CX p9 c cX7_setCourt s _ m RX7 := ⟨hx, hb, findClass_of_methodNamed BL.named, fun w h => atoms_spec BL.pre w (List.mem_cons_of_mem _ h)⟩
  have hr := BL.returns
  have hlocks := BL.notSynchronized
  have hw : WS g s (xM S M o) s.heap [] := ⟨hPB, va_S.rf⟩
  have hl := lv_entry ([.ref (gA g (jM 0)), .int a1, .int a2]) (n := 4) (Nat.le_of_ble_eq_true rfl)
  rw [lg_entry_eq]
  generalize (lg_sl ([.ref (gA g (jM 0)), .int a1, .int a2]) ++ List.replicate (4 - (lg_sl ([.ref (gA g (jM 0)), .int a1, .int a2])).length) Slot.unset).toArray = ls at hl ⊢
  have hl : lv_has ls 4 [(0, .ref (gA g (jM 0))), (1, .int a1), (2, .int a2)] := hl
  refine lv_aload_n hx hb dX7_setCourt_0 rfl (lv_at hl 0 rfl) ?_
  refine lv_iload_n hx hb dX7_setCourt_1 rfl (lv_at hl 1 rfl) ?_
  refine kc_i hw (va_runV (As := [.int a1]) (rest := []) ⟨hx, hb, hml, hc.2.2.1, hc.2.2.2⟩ (m_X7_isPast l g S M o a1 _ _ hN) (kw_V hc 1 q1168 q1170 qs63 q8 q1171 rfl rfl (by decide +kernel) ⟨Nat.le_of_ble_eq_true rfl, Nat.le_of_ble_eq_true rfl⟩) (kp_V hk hw at_M rfl) rfl rfl hl.1 rfl (lv_room (Nat.le_of_ble_eq_true rfl)) dX7_setCourt_2 ⟨Nat.le_of_ble_eq_true rfl, Nat.le_of_ble_eq_true rfl⟩) (fun H locs hw => ?_)
  refine lv_if_eq (tgt := 10) hx hb dX7_setCourt_5 (by decide) (fun h1 => ?_) (fun h1 => ?_)
  · refine lv_aload_n hx hb dX7_setCourt_10 rfl (lv_at hl 0 rfl) ?_
    refine k_get hc hk hw at_M rfl iX7 16 (by decide) q1051 (v := .ref (gA g (jM 13))) rfl dX7_setCourt_11 ?_
    refine lv_iload_n hx hb dX7_setCourt_14 rfl (lv_at hl 1 rfl) ?_
    refine k_zald (f := ((f_X7_isPast a1 M).2) 13) (n := ((a1).toNatClampNeg)) hc hk hw (at_Mk (k := 13) (t := 2) (n := 20) (by decide) (by decide) (by decide) (by decide)) (isPast_in hN h1) rfl dX7_setCourt_15 ?_
    refine lv_istore_n (lv' := [(3, .int (((f_X7_isPast a1 M).2) 13 ((a1).toNatClampNeg))), (0, .ref (gA g (jM 0))), (1, .int a1), (2, .int a2)]) hx hb dX7_setCourt_16 rfl hl (by decide) rfl (fun ls hl => ?_)
    refine lv_aload_n hx hb dX7_setCourt_17 rfl (lv_at hl 1 rfl) ?_
    refine k_get hc hk hw at_M rfl iX7 16 (by decide) q1051 (v := .ref (gA g (jM 13))) rfl dX7_setCourt_18 ?_
    refine lv_iload_n hx hb dX7_setCourt_21 rfl (lv_at hl 2 rfl) ?_
    refine lv_iload_n hx hb dX7_setCourt_22 rfl (lv_at hl 3 rfl) ?_
    refine k_zast (x' := (xM S (up2 ((f_X7_isPast a1 M).2) 13 ((a1).toNatClampNeg) a2) o)) (f := ((f_X7_isPast a1 M).2) 13) (n := ((a1).toNatClampNeg)) hc hk hw (at_Mk (k := 13) (t := 2) (n := 20) (by decide) (by decide) (by decide) (by decide)) (isPast_in hN h1) rfl ha2.2.2 dX7_setCourt_23 (ms_k (k := 13) (t := 2) (n := 20) (by decide) (by decide) (by decide) (by decide)) (fun H locs hw => ?_)
    refine lv_iload_n hx hb dX7_setCourt_24 rfl (lv_at hl 0 rfl) ?_
    exact W.zret (v := ((f_X7_isPast a1 M).2) 13 ((a1).toNatClampNeg)) hx hb hr (MN.z13 (cn_X7_isPast hN) (vp_lt (isPast_in hN h1))).1 (fun t9 ht hW => ke_i hw ht (by simp only [f_X7_setCourt, if_pos h1]) (by simp only [f_X7_setCourt, if_pos h1])) hw.2.2.2 dX7_setCourt_25
  · refine lv_iconst (v := 0) hx hb dX7_setCourt_8 (by decide) ?_
    exact W.zret (v := 0) hx hb hr (by decide +kernel) (fun t9 ht hW => ke_i hw ht (by simp only [f_X7_setCourt, if_neg h1]) (by simp only [f_X7_setCourt, if_neg h1])) hw.2.2.2 dX7_setCourt_9
def f_X7_excuse (a1 : Int32) (M : BT) : Int32 × BT :=
  (if (f_X7_isPast a1 M).1 = 0 then (((f_X7_isPast a1 M).2) 14 ((a1).toNatClampNeg), up2 ((f_X7_isPast a1 M).2) 14 ((a1).toNatClampNeg) 1) else (0, (f_X7_isPast a1 M).2))
theorem cn_X7_excuse {a1 : Int32} {M : BT} {n m9 : Nat} (hN : MN M n m9) : MN ((f_X7_excuse a1 M).2) n m9 := by
  unfold f_X7_excuse
  by_cases h1 : (f_X7_isPast a1 M).1 = 0
  · simp only [if_pos h1]
    exact (MN.upz (by decide) (by decide) (by decide) (by decide) ⟨by decide +kernel, by decide +kernel, by decide +kernel⟩ (cn_X7_isPast hN))
  · simp only [if_neg h1]
    exact (cn_X7_isPast hN)
set_option maxHeartbeats 4000000 in
set_option maxRecDepth 100000 in
theorem m_X7_excuse (l : Launch) (g : wG) (S : Nat → BT) (M : BT) (o : (Nat → Int64) × (Nat → UInt64)) (a1 : Int32) (n m9 : Nat) (hN : MN M n m9) : mI l yX7_excuse cX7_excuse 3 (some .boolean) ({ frames := 4, cells := 0, slots := 0, locals := 85 } : Room) 0 0 g (xM S M o) [.ref (gA g (jM 0)), .int a1] ((f_X7_excuse a1 M).1) (xM S ((f_X7_excuse a1 M).2) o) := by
  refine Met.ofW (cc := cX7_excuse) (maxL := 3) (ret := some .boolean) (by decide) rfl ?_
  intro p9 e s m args below meth c s₁ BL hml hv
  obtain ⟨rfl, hk, hPB⟩ := hv
  have hx := BL.exec
  have hb := BL.bytes
  have hc : CX p9 c cX7_excuse s _ m RX7 := ⟨hx, hb, findClass_of_methodNamed BL.named, fun w h => atoms_spec BL.pre w (List.mem_cons_of_mem _ h)⟩
  have hr := BL.returns
  have hlocks := BL.notSynchronized
  have hw : WS g s (xM S M o) s.heap [] := ⟨hPB, va_S.rf⟩
  have hl := lv_entry ([.ref (gA g (jM 0)), .int a1]) (n := 3) (Nat.le_of_ble_eq_true rfl)
  rw [lg_entry_eq]
  generalize (lg_sl ([.ref (gA g (jM 0)), .int a1]) ++ List.replicate (3 - (lg_sl ([.ref (gA g (jM 0)), .int a1])).length) Slot.unset).toArray = ls at hl ⊢
  have hl : lv_has ls 3 [(0, .ref (gA g (jM 0))), (1, .int a1)] := hl
  refine lv_aload_n hx hb dX7_excuse_0 rfl (lv_at hl 0 rfl) ?_
  refine lv_iload_n hx hb dX7_excuse_1 rfl (lv_at hl 1 rfl) ?_
  refine kc_i hw (va_runV (As := [.int a1]) (rest := []) ⟨hx, hb, hml, hc.2.2.1, hc.2.2.2⟩ (m_X7_isPast l g S M o a1 _ _ hN) (kw_V hc 1 q1168 q1170 qs63 q8 q1171 rfl rfl (by decide +kernel) ⟨Nat.le_of_ble_eq_true rfl, Nat.le_of_ble_eq_true rfl⟩) (kp_V hk hw at_M rfl) rfl rfl hl.1 rfl (lv_room (Nat.le_of_ble_eq_true rfl)) dX7_excuse_2 ⟨Nat.le_of_ble_eq_true rfl, Nat.le_of_ble_eq_true rfl⟩) (fun H locs hw => ?_)
  refine lv_if_eq (tgt := 10) hx hb dX7_excuse_5 (by decide) (fun h1 => ?_) (fun h1 => ?_)
  · refine lv_aload_n hx hb dX7_excuse_10 rfl (lv_at hl 0 rfl) ?_
    refine k_get hc hk hw at_M rfl iX7 17 (by decide) q1052 (v := .ref (gA g (jM 14))) rfl dX7_excuse_11 ?_
    refine lv_iload_n hx hb dX7_excuse_14 rfl (lv_at hl 1 rfl) ?_
    refine k_zald (f := ((f_X7_isPast a1 M).2) 14) (n := ((a1).toNatClampNeg)) hc hk hw (at_Mk (k := 14) (t := 2) (n := 20) (by decide) (by decide) (by decide) (by decide)) (isPast_in hN h1) rfl dX7_excuse_15 ?_
    refine lv_istore_n (lv' := [(2, .int (((f_X7_isPast a1 M).2) 14 ((a1).toNatClampNeg))), (0, .ref (gA g (jM 0))), (1, .int a1)]) hx hb dX7_excuse_16 rfl hl (by decide) rfl (fun ls hl => ?_)
    refine lv_aload_n hx hb dX7_excuse_17 rfl (lv_at hl 1 rfl) ?_
    refine k_get hc hk hw at_M rfl iX7 17 (by decide) q1052 (v := .ref (gA g (jM 14))) rfl dX7_excuse_18 ?_
    refine lv_iload_n hx hb dX7_excuse_21 rfl (lv_at hl 2 rfl) ?_
    refine lv_iconst (v := 1) hx hb dX7_excuse_22 (by decide) ?_
    refine k_zast (x' := (xM S (up2 ((f_X7_isPast a1 M).2) 14 ((a1).toNatClampNeg) 1) o)) (f := ((f_X7_isPast a1 M).2) 14) (n := ((a1).toNatClampNeg)) hc hk hw (at_Mk (k := 14) (t := 2) (n := 20) (by decide) (by decide) (by decide) (by decide)) (isPast_in hN h1) rfl (by decide +kernel) dX7_excuse_23 (ms_k (k := 14) (t := 2) (n := 20) (by decide) (by decide) (by decide) (by decide)) (fun H locs hw => ?_)
    refine lv_iload_n hx hb dX7_excuse_24 rfl (lv_at hl 0 rfl) ?_
    exact W.zret (v := ((f_X7_isPast a1 M).2) 14 ((a1).toNatClampNeg)) hx hb hr (MN.z14 (cn_X7_isPast hN) (vp_lt (isPast_in hN h1))).1 (fun t9 ht hW => ke_i hw ht (by simp only [f_X7_excuse, if_pos h1]) (by simp only [f_X7_excuse, if_pos h1])) hw.2.2.2 dX7_excuse_25
  · refine lv_iconst (v := 0) hx hb dX7_excuse_8 (by decide) ?_
    exact W.zret (v := 0) hx hb hr (by decide +kernel) (fun t9 ht hW => ke_i hw ht (by simp only [f_X7_excuse, if_neg h1]) (by simp only [f_X7_excuse, if_neg h1])) hw.2.2.2 dX7_excuse_9
def f_X7_takeStep (a1 : Int32) (M : BT) : Int32 × BT :=
  (if (f_X7_isPast a1 M).1 = 0 then (if ((f_X7_isPast a1 M).2) 15 ((a1).toNatClampNeg) = (-1) then ((((f_X7_isPast a1 M).2) 0 1) + (((f_X7_isPast a1 M).2) 1 ((((f_X7_isPast a1 M).2) 6 ((a1).toNatClampNeg)).toNatClampNeg)), up2 (up2 ((f_X7_isPast a1 M).2) 0 0 0) 15 ((a1).toNatClampNeg) (((f_X7_isPast a1 M).2) 0 1)) else (0, up2 ((f_X7_isPast a1 M).2) 0 0 2)) else (0, (f_X7_isPast a1 M).2))
theorem cn_X7_takeStep {a1 : Int32} {M : BT} {n m9 : Nat} (hN : MN M n m9) : MN ((f_X7_takeStep a1 M).2) n m9 := by
  unfold f_X7_takeStep
  by_cases h1 : (f_X7_isPast a1 M).1 = 0
  · simp only [if_pos h1]
    by_cases h2 : ((f_X7_isPast a1 M).2) 15 ((a1).toNatClampNeg) = (-1)
    · simp only [if_pos h2]
      exact (MN.upf (by decide) (by decide) (by decide) (by decide) (by decide) (by decide) (by decide) (by decide) (MN.up0 (by decide) (by decide) (cn_X7_isPast hN)))
    · simp only [if_neg h2]
      exact (MN.up0 (by decide) (by decide) (cn_X7_isPast hN))
  · simp only [if_neg h1]
    exact (cn_X7_isPast hN)
set_option maxHeartbeats 4000000 in
set_option maxRecDepth 100000 in
theorem m_X7_takeStep (l : Launch) (g : wG) (S : Nat → BT) (M : BT) (o : (Nat → Int64) × (Nat → UInt64)) (a1 : Int32) (n m9 : Nat) (hN : MN M n m9) : mI l yX7_takeStep cX7_takeStep 2 (some .int) ({ frames := 4, cells := 0, slots := 0, locals := 85 } : Room) 0 0 g (xM S M o) [.ref (gA g (jM 0)), .int a1] ((f_X7_takeStep a1 M).1) (xM S ((f_X7_takeStep a1 M).2) o) := by
  refine Met.ofW (cc := cX7_takeStep) (maxL := 2) (ret := some .int) (by decide) rfl ?_
  intro p9 e s m args below meth c s₁ BL hml hv
  obtain ⟨rfl, hk, hPB⟩ := hv
  have hx := BL.exec
  have hb := BL.bytes
  have hc : CX p9 c cX7_takeStep s _ m RX7 := ⟨hx, hb, findClass_of_methodNamed BL.named, fun w h => atoms_spec BL.pre w (List.mem_cons_of_mem _ h)⟩
  have hr := BL.returns
  have hlocks := BL.notSynchronized
  have hw : WS g s (xM S M o) s.heap [] := ⟨hPB, va_S.rf⟩
  have hl := lv_entry ([.ref (gA g (jM 0)), .int a1]) (n := 2) (Nat.le_of_ble_eq_true rfl)
  rw [lg_entry_eq]
  generalize (lg_sl ([.ref (gA g (jM 0)), .int a1]) ++ List.replicate (2 - (lg_sl ([.ref (gA g (jM 0)), .int a1])).length) Slot.unset).toArray = ls at hl ⊢
  have hl : lv_has ls 2 [(0, .ref (gA g (jM 0))), (1, .int a1)] := hl
  refine lv_aload_n hx hb dX7_takeStep_0 rfl (lv_at hl 0 rfl) ?_
  refine lv_iload_n hx hb dX7_takeStep_1 rfl (lv_at hl 1 rfl) ?_
  refine kc_i hw (va_runV (As := [.int a1]) (rest := []) ⟨hx, hb, hml, hc.2.2.1, hc.2.2.2⟩ (m_X7_isPast l g S M o a1 _ _ hN) (kw_V hc 1 q1168 q1170 qs63 q8 q1171 rfl rfl (by decide +kernel) ⟨Nat.le_of_ble_eq_true rfl, Nat.le_of_ble_eq_true rfl⟩) (kp_V hk hw at_M rfl) rfl rfl hl.1 rfl (lv_room (Nat.le_of_ble_eq_true rfl)) dX7_takeStep_2 ⟨Nat.le_of_ble_eq_true rfl, Nat.le_of_ble_eq_true rfl⟩) (fun H locs hw => ?_)
  refine lv_if_eq (tgt := 10) hx hb dX7_takeStep_5 (by decide) (fun h1 => ?_) (fun h1 => ?_)
  · refine lv_aload_n hx hb dX7_takeStep_10 rfl (lv_at hl 0 rfl) ?_
    refine lv_aload_n hx hb dX7_takeStep_11 rfl (lv_at hl 0 rfl) ?_
    refine k_get hc hk hw at_M rfl iX7 18 (by decide) q1053 (v := .ref (gA g (jM 15))) rfl dX7_takeStep_12 ?_
    refine lv_iload_n hx hb dX7_takeStep_15 rfl (lv_at hl 1 rfl) ?_
    refine k_iald (f := ((f_X7_isPast a1 M).2) 15) (n := ((a1).toNatClampNeg)) hc hk hw (at_Mk (k := 15) (t := 0) (n := 20) (by decide) (by decide) (by decide) (by decide)) (isPast_in hN h1) rfl dX7_takeStep_16 ?_
    refine lv_iconst (v := (-1)) hx hb dX7_takeStep_17 (by decide) ?_
    refine lv_icmp_eq (tgt := 25) hx hb dX7_takeStep_18 (by decide) (fun h2 => ?_) (fun h2 => ?_)
    · refine lv_iconst (v := 0) hx hb dX7_takeStep_25 (by decide) ?_
      refine k_put hc hk hw (x' := (xM S (up2 ((f_X7_isPast a1 M).2) 0 0 0) o)) at_M rfl iX7 tyX7 tyX7_ok nmX7 0 (by decide) q1035 rfl rfl rfl (Nat.le_of_ble_eq_true rfl) dX7_takeStep_26 (ms_0 (by decide)) (fun H locs hw => ?_)
      refine lv_aload_n hx hb dX7_takeStep_29 rfl (lv_at hl 0 rfl) ?_
      refine k_get hc hk hw at_M rfl iX7 0 (by decide) q1035 (v := .int 0) rfl dX7_takeStep_30 ?_
      refine lv_if_le (tgt := 38) hx hb dX7_takeStep_33 (by decide) (fun _ => ?_) (fun h3 => absurd h3 (by decide))
      refine lv_aload_n hx hb dX7_takeStep_38 rfl (lv_at hl 0 rfl) ?_
      refine k_get hc hk hw at_M rfl iX7 18 (by decide) q1053 (v := .ref (gA g (jM 15))) rfl dX7_takeStep_39 ?_
      refine lv_iload_n hx hb dX7_takeStep_42 rfl (lv_at hl 1 rfl) ?_
      refine lv_aload_n hx hb dX7_takeStep_43 rfl (lv_at hl 0 rfl) ?_
      refine k_get hc hk hw at_M rfl iX7 1 (by decide) q1036 (v := .int (((f_X7_isPast a1 M).2) 0 1)) rfl dX7_takeStep_44 ?_
      refine k_iast (x' := (xM S (up2 (up2 ((f_X7_isPast a1 M).2) 0 0 0) 15 ((a1).toNatClampNeg) (((f_X7_isPast a1 M).2) 0 1)) o)) (f := (up2 ((f_X7_isPast a1 M).2) 0 0 0) 15) (n := ((a1).toNatClampNeg)) hc hk hw (at_Mk (k := 15) (t := 0) (n := 20) (by decide) (by decide) (by decide) (by decide)) (isPast_in hN h1) rfl dX7_takeStep_47 (ms_k (k := 15) (t := 0) (n := 20) (by decide) (by decide) (by decide) (by decide)) (fun H locs hw => ?_)
      refine lv_aload_n hx hb dX7_takeStep_48 rfl (lv_at hl 0 rfl) ?_
      refine k_get hc hk hw at_M rfl iX7 1 (by decide) q1036 (v := .int (((f_X7_isPast a1 M).2) 0 1)) rfl dX7_takeStep_49 ?_
      refine lv_aload_n hx hb dX7_takeStep_52 rfl (lv_at hl 0 rfl) ?_
      refine k_get hc hk hw at_M rfl iX7 4 (by decide) q1039 (v := .ref (gA g (jM 1))) rfl dX7_takeStep_53 ?_
      refine lv_aload_n hx hb dX7_takeStep_56 rfl (lv_at hl 0 rfl) ?_
      refine k_get hc hk hw at_M rfl iX7 9 (by decide) q1044 (v := .ref (gA g (jM 6))) rfl dX7_takeStep_57 ?_
      refine lv_iload_n hx hb dX7_takeStep_60 rfl (lv_at hl 1 rfl) ?_
      refine k_iald (f := ((f_X7_isPast a1 M).2) 6) (n := ((a1).toNatClampNeg)) hc hk hw (at_Mk (k := 6) (t := 0) (n := 20) (by decide) (by decide) (by decide) (by decide)) (isPast_in hN h1) rfl dX7_takeStep_61 ?_
      refine k_iald (f := ((f_X7_isPast a1 M).2) 1) (n := ((((f_X7_isPast a1 M).2) 6 ((a1).toNatClampNeg)).toNatClampNeg)) hc hk hw (at_Mk (k := 1) (t := 0) (n := 6) (by decide) (by decide) (by decide) (by decide)) (MN.off (cn_X7_isPast hN) (vp_lt (isPast_in hN h1))) rfl dX7_takeStep_62 ?_
      refine lv_iadd hx hb dX7_takeStep_63 ?_
      exact W.iret (v := (((f_X7_isPast a1 M).2) 0 1) + (((f_X7_isPast a1 M).2) 1 ((((f_X7_isPast a1 M).2) 6 ((a1).toNatClampNeg)).toNatClampNeg))) hx hb hr (fun t9 ht hW => ke_i hw ht (by simp only [f_X7_takeStep, if_pos h1, if_pos h2]) (by simp only [f_X7_takeStep, if_pos h1, if_pos h2])) hw.2.2.2 dX7_takeStep_64
    · refine lv_iconst (v := 2) hx hb dX7_takeStep_21 (by decide) ?_
      refine lv_goto (tgt := 26) hx hb dX7_takeStep_22 (by decide) ?_
      refine k_put hc hk hw (x' := (xM S (up2 ((f_X7_isPast a1 M).2) 0 0 2) o)) at_M rfl iX7 tyX7 tyX7_ok nmX7 0 (by decide) q1035 rfl rfl rfl (Nat.le_of_ble_eq_true rfl) dX7_takeStep_26 (ms_0 (by decide)) (fun H locs hw => ?_)
      refine lv_aload_n hx hb dX7_takeStep_29 rfl (lv_at hl 0 rfl) ?_
      refine k_get hc hk hw at_M rfl iX7 0 (by decide) q1035 (v := .int 2) rfl dX7_takeStep_30 ?_
      refine lv_if_le (tgt := 38) hx hb dX7_takeStep_33 (by decide) (fun h4 => absurd h4 (by decide)) (fun _ => ?_)
      refine lv_iconst (v := 0) hx hb dX7_takeStep_36 (by decide) ?_
      exact W.iret (v := 0) hx hb hr (fun t9 ht hW => ke_i hw ht (by simp only [f_X7_takeStep, if_pos h1, if_neg h2]) (by simp only [f_X7_takeStep, if_pos h1, if_neg h2])) hw.2.2.2 dX7_takeStep_37
  · refine lv_iconst (v := 0) hx hb dX7_takeStep_8 (by decide) ?_
    exact W.iret (v := 0) hx hb hr (fun t9 ht hW => ke_i hw ht (by simp only [f_X7_takeStep, if_neg h1]) (by simp only [f_X7_takeStep, if_neg h1])) hw.2.2.2 dX7_takeStep_9
