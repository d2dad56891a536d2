/-! the book's constructor -/
theorem upd_ne {f : Nat → Int32} {k j : Nat} {v : Int32} (h : j ≠ k) : upd f k v j = f j := by simp [upd, h]
theorem upd_at (f : Nat → Int32) (k : Nat) (v : Int32) : upd f k v k = v := by simp [upd]
theorem pup_eq (f : Nat → Option va_E) (j : Nat) (e : va_E) : pup f j e j = some e := by unfold pup; rw [if_pos rfl]
theorem pup_ne {f : Nat → Option va_E} {j : Nat} {e : va_E} {i : Nat} (h : i ≠ j) : pup f j e i = f i := by unfold pup; rw [if_neg h]
theorem PS.of {g : wG} {s : State} {f f' : Nat → Option va_E} {z z' : Nat} {H : Heap} {locs : List Loc} (h : PS g s f z H locs) (hz : z = z') (hf : ∀ j, j < 143 → ∀ e, f' j = some e → f j = some e) : PS g s f' z' H locs :=
  ⟨fun j hj e he => h.1 j hj e (hf j hj e he), h.2.1, h.2.2.trans hz⟩
/-- the contract of a constructor that makes rows of objects -/
abbrev prO (g : wG) (f : Nat → Option va_E) (z : Nat) (U : State) : Prop := prP g f z U ∧ va_AO "GrievanceOmbud$Office" U ∧ va_AO "GrievanceOmbud$Complaint" U
abbrev mO (l : Launch) (y : MethodName) (cy : ByteArray) (ny : Nat) (rm : Room) (mc ms : Nat) (g : wG) (f : Nat → Option va_E) (z : Nat) (av : List Value) (f' : Nat → Option va_E) (z' : Nat) : Prop :=
  Met l y (ws_ y cy ny none) rm (va_Pc av (prO g f z)) (va_Qv (fun (_ : Unit) => True) (fun _ t => PW g f' t.heap ∧ t.heap.size = z') (AA g)) mc ms (AA g)
theorem kp_O {s : State} {H : Heap} {locs : List Loc} {g : wG} {f : Nat → Option va_E} {z : Nat} {As : List Value} (hk : WK g s s.heap) (hp : PS g s f z H locs) (h1 : va_AO "GrievanceOmbud$Office" s) (h2 : va_AO "GrievanceOmbud$Complaint" s) : PreS s H (va_Pc As (prO g f z)) As :=
  ⟨fun a U fr mk q => ⟨q.1, prP_blind a U fr mk ⟨q.1, q.2.1⟩ |>.2, va_AO.moved (u := U) (U := U.calling fr mk a) (Vm.Alike.refl U.vm) q.2.2.1, va_AO.moved (u := U) (U := U.calling fr mk a) (Vm.Alike.refl U.vm) q.2.2.2⟩,
   fun U hU hW => ⟨rfl, ⟨WK.at hk hp.2.1 hU hW, by rw [hU]; exact hp.1, by rw [hU]; exact hp.2.2⟩, va_AO.moved hW.alike h1, va_AO.moved hW.alike h2⟩⟩
/-- the numbers of a book that is made -/
def bp_0 : BT := fun c k => if c = 3 ∧ k < 5 then 1 else 0
/-- the book p's cells, ko offices and kc complaints of them made, kw weights written -/
def bp_f (g : wG) (p : Nat) (f : Nat → Option va_E) (ko kc kw : Nat) : Nat → Option va_E := fun j =>
  if j < 3 + 70 * p ∨ 3 + 70 * p + 70 ≤ j then f j
  else if j = 3 + 70 * p then some (bkE g p bp_0 0)
  else if j = 3 + 70 * p + 1 then some (.inl (g.2.1 6, 6, .inr (.inr (.inr (.inr (fun q => if q < ko then some (gA g (jO p q)) else none))))))
  else if j = 3 + 70 * p + 2 then some (.inl (g.2.1 5, 20, .inr (.inr (.inr (.inr (fun q => if q < kc then some (gA g (jC p q)) else none))))))
  else if j = 3 + 70 * p + 3 then some (.inl (g.2.1 0, 5, .inl (fun q => if q < kw then 1 else 0)))
  else if j < 3 + 70 * p + 10 then (if j < 3 + 70 * p + 4 + ko then some (.inr (7, frX5)) else none)
  else if j < 3 + 70 * p + 30 then (if j < 3 + 70 * p + 10 + kc then some (.inr (3, [.int (nI (j - (3 + 70 * p + 10))), .ref (gA g (jI p (j - (3 + 70 * p + 10)))), .ref (gA g (jF p (j - (3 + 70 * p + 10)))), .int 0, .int 0, .int 0, .int 0, .int 0, .int 0, .int 0, .int 0, .int 0, .int 0, .int 0, .int 0, .int 0])) else none)
  else if j < 3 + 70 * p + 50 then (if j < 3 + 70 * p + 30 + kc then some (.inr (6, frX4)) else none)
  else (if j < 3 + 70 * p + 50 + kc then some (.inr (5, frX3)) else none)
/-- where the book's cell c lies, counted from the book -/
def pcB (c : Nat) : Nat := if c < 10 then c else if c < 30 then 10 + 3 * (c - 10) else if c < 50 then 11 + 3 * (c - 30) else 12 + 3 * (c - 50)
theorem upK {k : Nat} {v : Nat → Option Nat} : va_up (fun q => if q < k then v q else none) k (v k) = (fun q => if q < k + 1 then v q else none) := by
  funext q
  unfold va_up
  by_cases h : q = k
  · subst h; rw [if_pos rfl, if_pos (by omega)]
  · rw [if_neg h]
    show (if q < k then v q else none) = (if q < k + 1 then v q else none)
    by_cases h2 : q < k
    · rw [if_pos h2, if_pos (by omega)]
    · rw [if_neg h2, if_neg (by omega)]
theorem upW {k : Nat} : upd (fun q => if q < k then (1 : Int32) else 0) k 1 = (fun q => if q < k + 1 then 1 else 0) := by
  funext q
  by_cases h : q = k
  · subst h; rw [upd_at, if_pos (by omega)]
  · rw [upd_ne h]
    show (if q < k then (1 : Int32) else 0) = (if q < k + 1 then 1 else 0)
    by_cases h2 : q < k
    · rw [if_pos h2, if_pos (by omega)]
    · rw [if_neg h2, if_neg (by omega)]
section BP
variable {g : wG} {p : Nat} {f : Nat → Option va_E} {ko kc kw : Nat}
theorem bp_B : bp_f g p f ko kc kw (jB p) = some (bkE g p bp_0 0) := by unfold bp_f jB; rw [if_neg (by omega), if_pos rfl]
theorem bp_Os : bp_f g p f ko kc kw (jOs p) = some (.inl (g.2.1 6, 6, .inr (.inr (.inr (.inr (fun q => if q < ko then some (gA g (jO p q)) else none)))))) := by unfold bp_f jOs; rw [if_neg (by omega), if_neg (by omega), if_pos rfl]
theorem bp_Cs : bp_f g p f ko kc kw (jCs p) = some (.inl (g.2.1 5, 20, .inr (.inr (.inr (.inr (fun q => if q < kc then some (gA g (jC p q)) else none)))))) := by unfold bp_f jCs; rw [if_neg (by omega), if_neg (by omega), if_neg (by omega), if_pos rfl]
theorem bp_W : bp_f g p f ko kc kw (jW p) = some (.inl (g.2.1 0, 5, .inl (fun q => if q < kw then 1 else 0))) := by unfold bp_f jW; rw [if_neg (by omega), if_neg (by omega), if_neg (by omega), if_neg (by omega), if_pos rfl]
end BP
set_option maxHeartbeats 4000000 in
theorem X0_l1 {p9 : Program} {l : Launch} {e : Env} {R : Room} {s : State} {m : MethodId} {args : Array Value} {below : List Frame} {meth : Method} {c : Code} {cells slots : Nat} {Q : State → Prop} {g : wG} {f : Nat → Option va_E} {z p : Nat} (hc : CX p9 c cX0_init s args m RX0) (hk : WK g s s.heap) (hml : c.maxLocals = 2) (hp9 : p < 2) (ha : ∀ c, c < 70 → c ≠ 0 → gA g (3 + 70 * p + c) = z + (pcB c - 1)) (hRf : 4 ≤ R.frames) (hRl : 200 ≤ R.locals) (hC : cells + 6 ≤ R.cells) (hS : slots + 24 ≤ R.slots)
    (kk : ∀ (H : Heap) (locs : List Loc) (ls : Array Slot), PS g s (bp_f g p f 6 0 0) (z + 9) H locs → lv_has ls 2 [(1, .int (nI 6)), (0, .ref (gA g (jB p)))] → W p9 l e R s m args below meth c H locs (cells + 6) (slots + 24) Q (F0 m 56 ls [])) :
    ∀ (fu k : Nat), k ≤ 6 → 7 ≤ k + fu → ∀ (H : Heap) (locs : List Loc) (ls : Array Slot), PS g s (bp_f g p f k 0 0) (z + 3 + k) H locs → lv_has ls 2 [(1, .int (nI k)), (0, .ref (gA g (jB p)))] → W p9 l e R s m args below meth c H locs (cells + k) (slots + 4 * k) Q (F0 m 31 ls []) := by
  have hx := hc.1
  have hb := hc.2.1
  intro fu
  induction fu with
  | zero => intro k h1 h2; exact absurd h2 (by omega)
  | succ fu ih =>
    intro k hk9 hf9 H locs ls hp hl
    refine lv_iload_n hx hb dX0_init_31 rfl (lv_at hl 0 rfl) ?_
    refine lv_bipush (v := 6) hx hb dX0_init_32 (by decide) ?_
    refine lv_icmp_ge (tgt := 56) hx hb dX0_init_34 (by decide) (fun h1 => ?_) (fun h1 => ?_)
    · have hkn := lp_out (m := 6) h1 rfl hk9 (by decide)
      subst hkn
      exact kk H locs ls (hp.of (by omega) (fun _ _ _ h => h)) hl
    · have hkn := lp_in (m := 6) h1 rfl hk9 (by decide)
      have hRc : cells + k + 1 ≤ R.cells := by omega
      have hRs : slots + 4 * k + 4 ≤ R.slots := by omega
      refine lv_aload_n hx hb dX0_init_37 rfl (lv_at hl 1 rfl) ?_
      refine p_get hc hk hp (j := (jB p)) (by unfold jB; omega) bp_B rfl iX0 0 (by decide) q201 (v := .ref (gA g (jOs p))) rfl dX0_init_38 ?_
      refine lv_iload_n hx hb dX0_init_41 rfl (lv_at hl 0 rfl) ?_
      refine p_new (fs := frX5) hc hk hp (j := (jO p k)) (by rw [show jO p k = 3 + 70 * p + (4 + k) from rfl, ha (4 + k) (by omega) (by omega)]; unfold pcB; rw [if_pos (by omega)]; omega) (ci := 7) rfl iX5 tyX5 tyX5_ok q39 q43 q3 frX5_ok hRc hRs dX0_init_42 (fun H hp => ?_)
      refine lv_dup hx hb dX0_init_45 rfl ?_
      refine pc_v hp (va_runIN (As := []) (rest := [.ref (gA g (jO p k)), .int (nI k), .ref (gA g (jOs p))]) ⟨hx, hb, hml, hc.2.2.1, hc.2.2.2⟩ (m_X5_init l g _ _ _) ⟨kw_N hc hk 0 nq44 q3 q46 rfl rfl (by decide +kernel) ⟨by show 1 + 1 ≤ R.frames; omega, by show 8 + (1 + 11) + 20 ≤ R.locals; omega⟩, rfl, hc.2.2.2 _ q45⟩ (kp_P hk hp) rfl rfl hl.1 rfl (lv_room (Nat.le_of_ble_eq_true rfl)) dX0_init_46 ⟨by show _ + 0 ≤ _; omega, by show _ + 0 ≤ _; omega⟩) (fun H locs hp => ?_)
      refine p_aast hc hk hp (j := (jOs p)) (jv := (jO p k)) (t0 := 6) (ci := 7) (by unfold jOs; omega) (by unfold jO; omega) (r := (RX5, TX5, 4)) (by rw [pup_ne (by unfold jOs jO; omega)]; exact bp_Os) rfl (pup_eq _ _ _) rfl (vp_in_nI hkn (by decide)) (nI_clamp (by omega)) dX0_init_49 (fun H locs hp => ?_)
      refine lv_iinc (v := nI (k + 1)) (lv' := [(1, .int (nI (k + 1))), (0, .ref (gA g (jB p)))]) hx hb dX0_init_50 hl (k := 0) rfl (by first | exact (nI_succ _).symm | rfl) (by decide) rfl (fun ls hl => ?_)
      refine lv_goto (tgt := 31) hx hb dX0_init_53 (by decide) ?_
      refine W.widen (k := cells + (k + 1)) (n := slots + 4 * (k + 1)) (by omega) (by omega) ?_
      refine ih (k + 1) (by omega) (by omega) H locs ls (hp.of (by omega) (fun j hj e9 he => ?_)) hl
      by_cases q1 : j = jOs p
      · subst q1
        rw [bp_Os] at he
        rw [pup_eq, ← he, upK]
      · rw [pup_ne q1]
        by_cases q2 : j = jO p k
        · subst q2
          rw [pup_eq, ← he]
          unfold bp_f jO
          rw [if_neg (by omega), if_neg (by omega), if_neg (by omega), if_neg (by omega), if_neg (by omega), if_pos (by omega), if_pos (by omega)]
        · rw [pup_ne q2, ← he]
          unfold jOs at q1
          unfold jO at q2
          unfold bp_f
          by_cases w1 : j < 3 + 70 * p ∨ 3 + 70 * p + 70 ≤ j
          · rw [if_pos w1, if_pos w1]
          · rw [if_neg w1, if_neg w1]
            by_cases w2 : j = 3 + 70 * p
            · rw [if_pos w2, if_pos w2]
            · rw [if_neg w2, if_neg w2, if_neg q1, if_neg q1]
              by_cases w3 : j < 3 + 70 * p + 4 + k
              · simp only [if_pos w3, if_pos (show j < 3 + 70 * p + 4 + (k + 1) by omega)]
              · simp only [if_neg w3, if_neg (show ¬ j < 3 + 70 * p + 4 + (k + 1) by omega)]
set_option maxHeartbeats 4000000 in
theorem X0_l2 {p9 : Program} {l : Launch} {e : Env} {R : Room} {s : State} {m : MethodId} {args : Array Value} {below : List Frame} {meth : Method} {c : Code} {cells slots : Nat} {Q : State → Prop} {g : wG} {f : Nat → Option va_E} {z p : Nat} (hc : CX p9 c cX0_init s args m RX0) (hk : WK g s s.heap) (hml : c.maxLocals = 2) (hp9 : p < 2) (ha : ∀ c, c < 70 → c ≠ 0 → gA g (3 + 70 * p + c) = z + (pcB c - 1)) (hRf : 4 ≤ R.frames) (hRl : 200 ≤ R.locals) (hC : cells + 60 ≤ R.cells) (hS : slots + 520 ≤ R.slots)
    (kk : ∀ (H : Heap) (locs : List Loc) (ls : Array Slot), PS g s (bp_f g p f 6 20 0) (z + 69) H locs → lv_has ls 2 [(1, .int (nI 20)), (0, .ref (gA g (jB p)))] → W p9 l e R s m args below meth c H locs (cells + 60) (slots + 520) Q (F0 m 84 ls [])) :
    ∀ (fu k : Nat), k ≤ 20 → 21 ≤ k + fu → ∀ (H : Heap) (locs : List Loc) (ls : Array Slot), PS g s (bp_f g p f 6 k 0) (z + 9 + 3 * k) H locs → lv_has ls 2 [(1, .int (nI k)), (0, .ref (gA g (jB p)))] → W p9 l e R s m args below meth c H locs (cells + 3 * k) (slots + 26 * k) Q (F0 m 58 ls []) := by
  have hx := hc.1
  have hb := hc.2.1
  intro fu
  induction fu with
  | zero => intro k h1 h2; exact absurd h2 (by omega)
  | succ fu ih =>
    intro k hk9 hf9 H locs ls hp hl
    refine lv_iload_n hx hb dX0_init_58 rfl (lv_at hl 0 rfl) ?_
    refine lv_bipush (v := 20) hx hb dX0_init_59 (by decide) ?_
    refine lv_icmp_ge (tgt := 84) hx hb dX0_init_61 (by decide) (fun h1 => ?_) (fun h1 => ?_)
    · have hkn := lp_out (m := 20) h1 rfl hk9 (by decide)
      subst hkn
      exact kk H locs ls (hp.of (by omega) (fun _ _ _ h => h)) hl
    · have hkn := lp_in (m := 20) h1 rfl hk9 (by decide)
      have hRc : cells + 3 * k + 1 ≤ R.cells := by omega
      have hRs : slots + 26 * k + 16 ≤ R.slots := by omega
      refine lv_aload_n hx hb dX0_init_64 rfl (lv_at hl 1 rfl) ?_
      refine p_get hc hk hp (j := (jB p)) (by unfold jB; omega) bp_B rfl iX0 1 (by decide) q203 (v := .ref (gA g (jCs p))) rfl dX0_init_65 ?_
      refine lv_iload_n hx hb dX0_init_68 rfl (lv_at hl 0 rfl) ?_
      refine p_new (fs := frX1) hc hk hp (j := (jC p k)) (by rw [show jC p k = 3 + 70 * p + (10 + k) from rfl, ha (10 + k) (by omega) (by omega)]; unfold pcB; rw [if_neg (by omega), if_pos (by omega)]; omega) (ci := 3) rfl iX1 tyX1 tyX1_ok q41 q68 q4 frX1_ok hRc hRs dX0_init_69 (fun H hp => ?_)
      refine lv_dup hx hb dX0_init_72 rfl ?_
      refine lv_iload_n hx hb dX0_init_73 rfl (lv_at hl 0 rfl) ?_
      refine pc_v hp (va_runIN (As := [.int (nI k)]) (rest := [.ref (gA g (jC p k)), .int (nI k), .ref (gA g (jCs p))]) ⟨hx, hb, hml, hc.2.2.1, hc.2.2.2⟩ (m_X1_init l g _ _ p k hp9 hkn (nI k) (pup_eq _ _ _) (by rw [show jI p k = 3 + 70 * p + (30 + k) from rfl, ha (30 + k) (by omega) (by omega)]; unfold pcB; rw [if_neg (by omega), if_neg (by omega), if_pos (by omega)]; omega) (by rw [show jF p k = 3 + 70 * p + (50 + k) from rfl, ha (50 + k) (by omega) (by omega)]; unfold pcB; rw [if_neg (by omega), if_neg (by omega), if_neg (by omega)]; omega)) ⟨kw_N hc hk 1 nq69 q4 q71 rfl rfl (by decide +kernel) ⟨by show 2 + 1 ≤ R.frames; omega, by show 8 + (2 + 11) + 60 ≤ R.locals; omega⟩, rfl, hc.2.2.2 _ q70⟩ (kp_P hk hp) rfl rfl hl.1 rfl (lv_room (Nat.le_of_ble_eq_true rfl)) dX0_init_74 ⟨by show _ + 2 ≤ _; omega, by show _ + 10 ≤ _; omega⟩) (fun H locs hp => ?_)
      refine p_aast hc hk hp (j := (jCs p)) (jv := (jC p k)) (t0 := 5) (ci := 3) (by unfold jCs; omega) (by unfold jC; omega) (r := (RX1, TX1, 16)) (by rw [pup_ne (by unfold jCs jC; omega), pup_ne (by unfold jCs jC; omega), pup_ne (by unfold jCs jF; omega), pup_ne (by unfold jCs jC; omega), pup_ne (by unfold jCs jI; omega), pup_ne (by unfold jCs jC; omega)]; exact bp_Cs) rfl (pup_eq _ _ _) rfl (vp_in_nI hkn (by decide)) (nI_clamp (by omega)) dX0_init_77 (fun H locs hp => ?_)
      refine lv_iinc (v := nI (k + 1)) (lv' := [(1, .int (nI (k + 1))), (0, .ref (gA g (jB p)))]) hx hb dX0_init_78 hl (k := 0) rfl (by first | exact (nI_succ _).symm | rfl) (by decide) rfl (fun ls hl => ?_)
      refine lv_goto (tgt := 58) hx hb dX0_init_81 (by decide) ?_
      refine W.widen (k := cells + 3 * (k + 1)) (n := slots + 26 * (k + 1)) (by omega) (by omega) ?_
      refine ih (k + 1) (by omega) (by omega) H locs ls (hp.of (by omega) (fun j hj e9 he => ?_)) hl
      by_cases q1 : j = jCs p
      · subst q1
        rw [bp_Cs] at he
        rw [pup_eq, ← he, upK]
      · rw [pup_ne q1]
        by_cases q2 : j = jC p k
        · subst q2
          rw [pup_eq, ← he]
          unfold bp_f
          have eC : jC p k = 3 + 70 * p + (10 + k) := rfl
          rw [if_neg (by omega), if_neg (by omega), if_neg (by omega), if_neg (by omega), if_neg (by omega), if_neg (by omega), if_pos (by omega), if_pos (by omega), show jC p k - (3 + 70 * p + 10) = k by omega]
          rfl
        · rw [pup_ne q2, pup_ne q2]
          by_cases q3 : j = jF p k
          · subst q3
            rw [pup_eq, ← he]
            unfold bp_f jF
            rw [if_neg (by omega), if_neg (by omega), if_neg (by omega), if_neg (by omega), if_neg (by omega), if_neg (by omega), if_neg (by omega), if_neg (by omega), if_pos (by omega)]
          · rw [pup_ne q3, pup_ne q2]
            by_cases q4 : j = jI p k
            · subst q4
              rw [pup_eq, ← he]
              unfold bp_f jI
              rw [if_neg (by omega), if_neg (by omega), if_neg (by omega), if_neg (by omega), if_neg (by omega), if_neg (by omega), if_neg (by omega), if_pos (by omega), if_pos (by omega)]
            · rw [pup_ne q4, pup_ne q2, ← he]
              unfold jCs at q1
              unfold jC at q2
              unfold jF at q3
              unfold jI at q4
              unfold bp_f
              by_cases w1 : j < 3 + 70 * p ∨ 3 + 70 * p + 70 ≤ j
              · rw [if_pos w1, if_pos w1]
              · rw [if_neg w1, if_neg w1]
                by_cases w2 : j = 3 + 70 * p
                · rw [if_pos w2, if_pos w2]
                · rw [if_neg w2, if_neg w2]
                  by_cases w3 : j = 3 + 70 * p + 1
                  · rw [if_pos w3, if_pos w3]
                  · rw [if_neg w3, if_neg w3, if_neg q1, if_neg q1]
                    by_cases w4 : j = 3 + 70 * p + 3
                    · rw [if_pos w4, if_pos w4]
                    · rw [if_neg w4, if_neg w4]
                      by_cases w5 : j < 3 + 70 * p + 10
                      · simp only [if_pos w5]
                      · rw [if_neg w5, if_neg w5]
                        have e1 : (j < 3 + 70 * p + 30 → (j < 3 + 70 * p + 10 + k ↔ j < 3 + 70 * p + 10 + (k + 1))) := fun _ => by omega
                        have e2 : (j < 3 + 70 * p + 50 → ¬ j < 3 + 70 * p + 30 → (j < 3 + 70 * p + 30 + k ↔ j < 3 + 70 * p + 30 + (k + 1))) := fun _ _ => by omega
                        have e3 : (j < 3 + 70 * p + 50 + k ↔ j < 3 + 70 * p + 50 + (k + 1)) := by omega
                        by_cases w6 : j < 3 + 70 * p + 30
                        · rw [if_pos w6, if_pos w6]; simp only [e1 w6]
                        · rw [if_neg w6, if_neg w6]
                          by_cases w7 : j < 3 + 70 * p + 50
                          · rw [if_pos w7, if_pos w7]; simp only [e2 w7 w6]
                          · rw [if_neg w7, if_neg w7]; simp only [e3]
set_option maxHeartbeats 4000000 in
theorem X0_l3 {p9 : Program} {l : Launch} {e : Env} {R : Room} {s : State} {m : MethodId} {args : Array Value} {below : List Frame} {meth : Method} {c : Code} {cells slots : Nat} {Q : State → Prop} {g : wG} {f : Nat → Option va_E} {z p : Nat} (hc : CX p9 c cX0_init s args m RX0) (hk : WK g s s.heap) (hml : c.maxLocals = 2) (hp9 : p < 2) (ha : ∀ c, c < 70 → c ≠ 0 → gA g (3 + 70 * p + c) = z + (pcB c - 1)) (hRf : 4 ≤ R.frames) (hRl : 200 ≤ R.locals)
    (kk : ∀ (H : Heap) (locs : List Loc) (ls : Array Slot), PS g s (bp_f g p f 6 20 5) (z + 69) H locs → lv_has ls 2 [(1, .int (nI 5)), (0, .ref (gA g (jB p)))] → W p9 l e R s m args below meth c H locs cells slots Q (F0 m 104 ls [])) :
    ∀ (fu k : Nat), k ≤ 5 → 6 ≤ k + fu → ∀ (H : Heap) (locs : List Loc) (ls : Array Slot), PS g s (bp_f g p f 6 20 k) (z + 69) H locs → lv_has ls 2 [(1, .int (nI k)), (0, .ref (gA g (jB p)))] → W p9 l e R s m args below meth c H locs cells slots Q (F0 m 86 ls []) := by
  have hx := hc.1
  have hb := hc.2.1
  intro fu
  induction fu with
  | zero => intro k h1 h2; exact absurd h2 (by omega)
  | succ fu ih =>
    intro k hk9 hf9 H locs ls hp hl
    refine lv_iload_n hx hb dX0_init_86 rfl (lv_at hl 0 rfl) ?_
    refine lv_iconst (v := 5) hx hb dX0_init_87 (by decide) ?_
    refine lv_icmp_ge (tgt := 104) hx hb dX0_init_88 (by decide) (fun h1 => ?_) (fun h1 => ?_)
    · have hkn := lp_out (m := 5) h1 rfl hk9 (by decide)
      subst hkn
      exact kk H locs ls hp hl
    · have hkn := lp_in (m := 5) h1 rfl hk9 (by decide)
      refine lv_aload_n hx hb dX0_init_91 rfl (lv_at hl 1 rfl) ?_
      refine p_get hc hk hp (j := (jB p)) (by unfold jB; omega) bp_B rfl iX0 2 (by decide) q205 (v := .ref (gA g (jW p))) rfl dX0_init_92 ?_
      refine lv_iload_n hx hb dX0_init_95 rfl (lv_at hl 0 rfl) ?_
      refine lv_iconst (v := 1) hx hb dX0_init_96 (by decide) ?_
      refine p_iast hc hk hp (j := (jW p)) (by unfold jW; omega) bp_W (vp_in_nI hkn (by decide)) (nI_clamp (by omega)) dX0_init_97 (fun H locs hp => ?_)
      refine lv_iinc (v := nI (k + 1)) (lv' := [(1, .int (nI (k + 1))), (0, .ref (gA g (jB p)))]) hx hb dX0_init_98 hl (k := 0) rfl (by first | exact (nI_succ _).symm | rfl) (by decide) rfl (fun ls hl => ?_)
      refine lv_goto (tgt := 86) hx hb dX0_init_101 (by decide) ?_
      refine ih (k + 1) (by omega) (by omega) H locs ls (hp.of rfl (fun j hj e9 he => ?_)) hl
      by_cases q1 : j = jW p
      · subst q1
        rw [bp_W] at he
        rw [pup_eq, ← he, upW]
      · rw [pup_ne q1, ← he]
        unfold jW at q1
        unfold bp_f
        by_cases w1 : j < 3 + 70 * p ∨ 3 + 70 * p + 70 ≤ j
        · rw [if_pos w1, if_pos w1]
        · rw [if_neg w1, if_neg w1]
          by_cases w2 : j = 3 + 70 * p
          · rw [if_pos w2, if_pos w2]
          · rw [if_neg w2, if_neg w2]
            by_cases w3 : j = 3 + 70 * p + 1
            · rw [if_pos w3, if_pos w3]
            · rw [if_neg w3, if_neg w3]
              by_cases w4 : j = 3 + 70 * p + 2
              · rw [if_pos w4, if_pos w4]
              · rw [if_neg w4, if_neg w4, if_neg q1, if_neg q1]
set_option maxHeartbeats 4000000 in
theorem m_X0_init (l : Launch) (g : wG) (f : Nat → Option va_E) (z p : Nat) (hp9 : p < 2) (he : f (jB p) = some (.inr (2, frX0))) (ha : ∀ c, c < 70 → c ≠ 0 → gA g (3 + 70 * p + c) = z + (pcB c - 1)) :
    mO l yX0_init cX0_init 2 ({ frames := 4, cells := 69, slots := 575, locals := 200 } : Room) 69 575 g f z [.ref (gA g (jB p))] (bp_f g p f 6 20 5) (z + 69) := by
  refine Met.ofW (cc := cX0_init) (maxL := 2) (ret := none) (by decide) rfl ?_
  intro p9 e s m args below meth c s₁ BL hml hv
  obtain ⟨rfl, ⟨hk, hPW, hz⟩, hO1, hO2⟩ := hv
  have hx := BL.exec
  have hb := BL.bytes
  have hin2 : meth.name = "<init>" := (name_of_methodNamed BL.named BL.method).1
  have hc : CX p9 c cX0_init s _ m RX0 := ⟨hx, hb, findClass_of_methodNamed BL.named, fun w h => atoms_spec BL.pre w (List.mem_cons_of_mem _ h)⟩
  have hr := BL.returns
  have hlocks := BL.notSynchronized
  have hp : PS g s f z s.heap [] := ⟨hPW, va_S.rf, hz⟩
  have hl := lv_entry ([.ref (gA g (jB p))]) (n := 2) (Nat.le_of_ble_eq_true rfl)
  rw [lg_entry_eq]
  generalize (lg_sl ([.ref (gA g (jB p))]) ++ List.replicate (2 - (lg_sl ([.ref (gA g (jB p))])).length) Slot.unset).toArray = ls at hl ⊢
  have hl : lv_has ls 2 [(0, .ref (gA g (jB p)))] := hl
  refine lv_aload_n hx hb dX0_init_0 rfl (lv_at hl 0 rfl) ?_
  refine W.objInit hx hb hc.2.2.1 (hc.2.2.2 _ q38) (hc.2.2.2 _ q31) (hc.2.2.2 _ q32) rfl (hl.1.trans hml.symm) rfl dX0_init_1 (Nat.le_of_ble_eq_true rfl) (Nat.le_of_ble_eq_true rfl) ?_
  refine lv_aload_n hx hb dX0_init_4 rfl (lv_at hl 0 rfl) ?_
  refine lv_bipush (v := 6) hx hb dX0_init_5 (by decide) ?_
  refine p_anew hc hk hp (j := (jOs p)) (by rw [show jOs p = 3 + 70 * p + 1 from rfl, ha 1 (by omega) (by omega)]; rfl) (t0 := 6) (N := 6) q39 (va_AO.use hO1) rfl (by decide) (by decide) (by decide) (Nat.le_of_ble_eq_true rfl) (Nat.le_of_ble_eq_true rfl) dX0_init_7 (fun H hp => ?_)
  refine p_putF hc hk hp (j := (jB p)) (by unfold jB; omega) (fs := frX0) (by rw [pup_ne (by simp only [jB, jOs, jCs, jW]; omega)]; exact he) rfl iX0 tyX0 tyX0_ok nmX0 0 (by decide) q201 rfl hin2 rfl (v := .ref (gA g (jOs p))) rfl (by rfl) (Nat.le_of_ble_eq_true rfl) dX0_init_10 (fun H locs hp => ?_)
  refine lv_aload_n hx hb dX0_init_13 rfl (lv_at hl 0 rfl) ?_
  refine lv_bipush (v := 20) hx hb dX0_init_14 (by decide) ?_
  refine p_anew hc hk hp (j := (jCs p)) (by rw [show jCs p = 3 + 70 * p + 2 from rfl, ha 2 (by omega) (by omega)]; rfl) (t0 := 5) (N := 20) q41 (va_AO.use hO2) rfl (by decide) (by decide) (by decide) (Nat.le_of_ble_eq_true rfl) (Nat.le_of_ble_eq_true rfl) dX0_init_16 (fun H hp => ?_)
  refine p_putF hc hk hp (j := (jB p)) (by unfold jB; omega) (fs := (frX0.set 0 (.ref (gA g (jOs p))))) (by rw [pup_ne (by simp only [jB, jOs, jCs, jW]; omega), pup_eq]) rfl iX0 tyX0 tyX0_ok nmX0 1 (by decide) q203 rfl hin2 rfl (v := .ref (gA g (jCs p))) rfl (by rfl) (Nat.le_of_ble_eq_true rfl) dX0_init_19 (fun H locs hp => ?_)
  refine lv_aload_n hx hb dX0_init_22 rfl (lv_at hl 0 rfl) ?_
  refine lv_iconst (v := 5) hx hb dX0_init_23 (by decide) ?_
  refine p_newa (atype := .int) (t0 := 0) (a0 := (5, .inl fun _ => 0)) (N := 5) hc hk hp (j := (jW p)) (by rw [show jW p = 3 + 70 * p + 3 from rfl, ha 3 (by omega) (by omega)]; rfl) q67 rfl rfl (fun _ => rfl) (fun cA => vp_cell_i cA 5 (fun _ => 0)) (by decide) (by decide) (by decide) (Nat.le_of_ble_eq_true rfl) (Nat.le_of_ble_eq_true rfl) dX0_init_24 (fun H hp => ?_)
  refine p_putF hc hk hp (j := (jB p)) (by unfold jB; omega) (fs := ((frX0.set 0 (.ref (gA g (jOs p)))).set 1 (.ref (gA g (jCs p))))) (by rw [pup_ne (by simp only [jB, jOs, jCs, jW]; omega), pup_eq]) rfl iX0 tyX0 tyX0_ok nmX0 2 (by decide) q205 rfl hin2 rfl (v := .ref (gA g (jW p))) rfl (by rfl) (Nat.le_of_ble_eq_true rfl) dX0_init_26 (fun H locs hp => ?_)
  refine lv_iconst (v := 0) hx hb dX0_init_29 (by decide) ?_
  refine lv_istore_n (lv' := [(1, .int 0), (0, .ref (gA g (jB p)))]) hx hb dX0_init_30 rfl hl (by decide) rfl (fun ls hl => ?_)
  have hp : PS g s (bp_f g p f 0 0 0) (z + 3 + 0) H locs := by
    refine hp.of (by omega) (fun j hj e9 he9 => ?_)
    rw [← he9]
    by_cases q0 : j = jB p
    · subst q0; rw [pup_eq, bp_B]; rfl
    · rw [pup_ne q0]
      by_cases q3 : j = jW p
      · subst q3; rw [pup_eq, bp_W]; rfl
      · rw [pup_ne q3, pup_ne q0]
        by_cases q2 : j = jCs p
        · subst q2; rw [pup_eq, bp_Cs]; rfl
        · rw [pup_ne q2, pup_ne q0]
          by_cases q1 : j = jOs p
          · subst q1; rw [pup_eq, bp_Os]; rfl
          · rw [pup_ne q1]
            unfold jB at q0
            unfold jOs at q1
            unfold jCs at q2
            unfold jW at q3
            unfold bp_f at he9 ⊢
            rw [if_neg q0, if_neg q1, if_neg q2, if_neg q3] at he9 ⊢
            by_cases w1 : j < 3 + 70 * p ∨ 3 + 70 * p + 70 ≤ j
            · rw [if_pos w1]
            · rw [if_neg w1] at he9
              exfalso
              by_cases w5 : j < 3 + 70 * p + 10
              · rw [if_pos w5, if_neg (by omega)] at he9; exact absurd he9 (fun h => nomatch h)
              · rw [if_neg w5] at he9
                by_cases w6 : j < 3 + 70 * p + 30
                · rw [if_pos w6, if_neg (by omega)] at he9; exact absurd he9 (fun h => nomatch h)
                · rw [if_neg w6] at he9
                  by_cases w7 : j < 3 + 70 * p + 50
                  · rw [if_pos w7, if_neg (by omega)] at he9; exact absurd he9 (fun h => nomatch h)
                  · rw [if_neg w7, if_neg (by omega)] at he9; exact absurd he9 (fun h => nomatch h)
  refine W.widen (k := 3 + 0) (n := 31 + 4 * 0) (Nat.le_of_ble_eq_true rfl) (Nat.le_of_ble_eq_true rfl) ?_
  refine X0_l1 (cells := 3) (slots := 31) (f := f) (z := z) hc hk hml hp9 ha (Nat.le_of_ble_eq_true rfl) (Nat.le_of_ble_eq_true rfl) (Nat.le_of_ble_eq_true rfl) (Nat.le_of_ble_eq_true rfl) (fun H locs ls hp hl => ?_) 7 0 (by omega) (by omega) H locs ls hp hl
  refine lv_iconst (v := 0) hx hb dX0_init_56 (by decide) ?_
  refine lv_istore_n (lv' := [(1, .int 0), (0, .ref (gA g (jB p)))]) hx hb dX0_init_57 rfl hl (by decide) rfl (fun ls hl => ?_)
  refine X0_l2 (cells := 9) (slots := 55) (f := f) (z := z) hc hk hml hp9 ha (Nat.le_of_ble_eq_true rfl) (Nat.le_of_ble_eq_true rfl) (Nat.le_of_ble_eq_true rfl) (Nat.le_of_ble_eq_true rfl) (fun H locs ls hp hl => ?_) 21 0 (by omega) (by omega) H locs ls hp hl
  refine lv_iconst (v := 0) hx hb dX0_init_84 (by decide) ?_
  refine lv_istore_n (lv' := [(1, .int 0), (0, .ref (gA g (jB p)))]) hx hb dX0_init_85 rfl hl (by decide) rfl (fun ls hl => ?_)
  refine X0_l3 (cells := 69) (slots := 575) (f := f) (z := z) hc hk hml hp9 ha (Nat.le_of_ble_eq_true rfl) (Nat.le_of_ble_eq_true rfl) (fun H locs ls hp hl => ?_) 6 0 (by omega) (by omega) H locs ls hp hl
  exact W.vret hx hb hr (fun t9 ht hW => hp.ret ht) hp.2.1.2.2 dX0_init_104
