/-! the world that the law makes before its loop -/
/-- its numbers -/
def st_S : Nat → BT := fun p => if p < 2 then bp_0 else fun _ _ => 0
def st_M : BT := fun c => if c = 5 then (fun k => if k < 5 then 1 else 0) else fun _ => 0
def st_o : (Nat → Int64) × (Nat → UInt64) := (fun _ => 0, fun _ => 0)
/-- its cells, as they were made -/
def st_f (g : wG) : Nat → Option va_E := pup (pup (m7_w g (pup (g6_f g (pup (fun _ => none) 0 (.inr (8, frX6)))) (jM 0) (.inr (9, frX7))) 5) 169 (.inl (g.2.1 3, 1, .inr (.inl (fun _ => 0))))) 170 (.inl (g.2.1 4, 1, .inr (.inr (.inr (.inl (fun _ => 0))))))
theorem st_ext {cA : ClassId} {N : Nat} {h h9 : Nat → Option Nat} (e : ∀ q, q < N → h q = h9 q) : vp_cell cA (N, .inr (.inr (.inr (.inr h)))) = vp_cell cA (N, .inr (.inr (.inr (.inr h9)))) := by
  rw [vp_cell_q, vp_cell_q]
  unfold arrV
  congr 1
  apply Array.ext_getElem?
  intro i
  by_cases hi : i < N
  · rw [Array.getElem?_ofFn, Array.getElem?_ofFn, dif_pos hi, dif_pos hi]
    exact congrArg (fun v => some (va_rf v)) (e i hi)
  · rw [Array.getElem?_ofFn, Array.getElem?_ofFn, dif_neg hi, dif_neg hi]
theorem bp_0n {c : Nat} (h : c ≠ 3) : bp_0 c = fun _ => 0 := by funext k; exact if_neg (fun z => h z.1)
theorem bp_03 : bp_0 3 = fun q => if q < 5 then (1 : Int32) else 0 := by
  funext k
  show (if 3 = 3 ∧ k < 5 then (1 : Int32) else 0) = _
  by_cases h : k < 5
  · rw [if_pos ⟨rfl, h⟩, if_pos h]
  · rw [if_neg (fun z => h z.2), if_neg h]
/-- a made book's cells are those of the numbers bp_0 -/
theorem st_b {g : wG} {p c : Nat} {f : Nat → Option va_E} {H : Heap} (hp : p < 2) (hc : c < 70) {e : va_E} (he : bp_f g p f 6 20 5 (3 + 70 * p + c) = some e) (h : va_at g.1 vwCl (gA g (3 + 70 * p + c), e) H) : va_at g.1 vwCl (gA g (3 + 70 * p + c), bkE g p bp_0 c) H := by
  have key : ∀ e9 : va_E, some e = some e9 → va_at g.1 vwCl (gA g (3 + 70 * p + c), e9) H := fun e9 h9 => by
    have := Option.some.inj h9; subst this; exact h
  unfold bp_f at he
  rw [if_neg (by omega)] at he
  by_cases h0 : c = 0
  · rw [if_pos (by omega)] at he; subst h0; exact key _ he.symm
  · rw [if_neg (by omega)] at he
    by_cases h1 : c = 1
    · rw [if_pos (by omega)] at he
      subst h1
      have h9 := key _ he.symm
      have h8 : H[gA g (3 + 70 * p + 1)]? = some (vp_cell (g.2.1 6) (6, .inr (.inr (.inr (.inr (fun q => if q < 6 then some (gA g (jO p q)) else none)))))) := h9
      show H[gA g (3 + 70 * p + 1)]? = some (vp_cell (g.2.1 6) (6, .inr (.inr (.inr (.inr (fun k => some (gA g (jO p k))))))))
      rw [h8]
      exact congrArg some (st_ext (fun q hq => if_pos hq))
    · rw [if_neg (by omega)] at he
      by_cases h2 : c = 2
      · rw [if_pos (by omega)] at he
        subst h2
        have h9 := key _ he.symm
        have h8 : H[gA g (3 + 70 * p + 2)]? = some (vp_cell (g.2.1 5) (20, .inr (.inr (.inr (.inr (fun q => if q < 20 then some (gA g (jC p q)) else none)))))) := h9
        show H[gA g (3 + 70 * p + 2)]? = some (vp_cell (g.2.1 5) (20, .inr (.inr (.inr (.inr (fun k => some (gA g (jC p k))))))))
        rw [h8]
        exact congrArg some (st_ext (fun q hq => if_pos hq))
      · rw [if_neg (by omega)] at he
        by_cases h3 : c = 3
        · rw [if_pos (by omega)] at he
          subst h3
          refine key _ (he.symm.trans ?_)
          show _ = some (Sum.inl (g.2.1 0, 5, Sum.inl (bp_0 3)))
          rw [bp_03]
        · rw [if_neg (by omega)] at he
          by_cases h4 : c < 10
          · rw [if_pos (by omega), if_pos (by omega)] at he
            refine key _ (he.symm.trans ?_)
            unfold bkE
            rw [if_pos h4, if_neg (by omega), bp_0n h3]
            rfl
          · rw [if_neg (by omega)] at he
            by_cases h5 : c < 30
            · rw [if_pos (by omega), if_pos (by omega)] at he
              refine key _ (he.symm.trans ?_)
              unfold bkE
              rw [if_neg h4, if_pos h5, bp_0n h3, show 3 + 70 * p + c - (3 + 70 * p + 10) = c - 10 by omega]
              rfl
            · rw [if_neg (by omega)] at he
              by_cases h6 : c < 50
              · rw [if_pos (by omega), if_pos (by omega)] at he
                refine key _ (he.symm.trans ?_)
                unfold bkE
                rw [if_neg h4, if_neg h5, if_pos h6, bp_0n h3]
                rfl
              · rw [if_neg (by omega), if_pos (by omega)] at he
                refine key _ (he.symm.trans ?_)
                unfold bkE
                rw [if_neg h4, if_neg h5, if_neg h6, bp_0n h3]
                rfl
theorem st_bs {g : wG} {p c : Nat} {f : Nat → Option va_E} (hc : c < 70) : ∃ e, bp_f g p f 6 20 5 (3 + 70 * p + c) = some e := by
  unfold bp_f
  rw [if_neg (by omega)]
  by_cases h0 : c = 0
  · rw [if_pos (by omega)]; exact ⟨_, rfl⟩
  · rw [if_neg (by omega)]
    by_cases h1 : c = 1
    · rw [if_pos (by omega)]; exact ⟨_, rfl⟩
    · rw [if_neg (by omega)]
      by_cases h2 : c = 2
      · rw [if_pos (by omega)]; exact ⟨_, rfl⟩
      · rw [if_neg (by omega)]
        by_cases h3 : c = 3
        · rw [if_pos (by omega)]; exact ⟨_, rfl⟩
        · rw [if_neg (by omega)]
          by_cases h4 : c < 10
          · rw [if_pos (by omega), if_pos (by omega)]; exact ⟨_, rfl⟩
          · rw [if_neg (by omega)]
            by_cases h5 : c < 30
            · rw [if_pos (by omega), if_pos (by omega)]; exact ⟨_, rfl⟩
            · rw [if_neg (by omega)]
              by_cases h6 : c < 50
              · rw [if_pos (by omega), if_pos (by omega)]; exact ⟨_, rfl⟩
              · rw [if_neg (by omega), if_pos (by omega)]; exact ⟨_, rfl⟩
theorem st_lo {g : wG} {j : Nat} (h : j < 143) : st_f g j = g6_f g (pup (fun _ => none) 0 (.inr (8, frX6))) j := by
  unfold st_f
  rw [pup_ne (by omega), pup_ne (by omega)]
  unfold m7_w
  rw [if_neg (by omega)]
  unfold m7_f
  rw [if_neg (by omega), if_neg (by omega), pup_ne (by unfold jM; omega)]
theorem st_b1 {g : wG} {f : Nat → Option va_E} {j : Nat} (h0 : j ≠ 0) (h1 : j ≠ 1) (h2 : j ≠ 2) : g6_f g f j = bp_f g 1 (pup (pup (bp_f g 0 (pup f (jB 0) (.inr (2, frX0))) 6 20 5) 0 (.inr (8, (frX6.set 0 (.ref (gA g (jB 0))))))) (jB 1) (.inr (2, frX0))) 6 20 5 j := by
  unfold g6_f
  rw [pup_ne h0, pup_ne h1, pup_ne h2, pup_ne h1, pup_ne h0]
theorem st_b0 {g : wG} {f : Nat → Option va_E} {j : Nat} (h0 : j ≠ 0) (h1 : j ≠ 1) (h2 : j ≠ 2) (h : j < 73) : g6_f g f j = bp_f g 0 (pup f (jB 0) (.inr (2, frX0))) 6 20 5 j := by
  rw [st_b1 h0 h1 h2]
  have e : ∀ f9 : Nat → Option va_E, bp_f g 1 f9 6 20 5 j = f9 j := fun f9 => by unfold bp_f; rw [if_pos (by omega)]
  rw [e, pup_ne (by unfold jB; omega), pup_ne h0]
set_option maxHeartbeats 4000000 in
theorem st_at {g : wG} {j : Nat} (hj : j < 171) {H : Heap} (h : PW g (st_f g) H) : va_at g.1 vwCl (gA g j, wE g (st_S, (st_M, st_o)) j) H := by
  by_cases h3 : j < 3
  · have hj3 : j = 0 ∨ j = 1 ∨ j = 2 := by omega
    rcases hj3 with rfl | rfl | rfl
    · exact h 0 (by decide) _ (by rw [st_lo (j := 0) (by decide)]; rfl)
    · exact h 1 (by decide) _ (by rw [st_lo (j := 1) (by decide)]; rfl)
    · exact h 2 (by decide) _ (by rw [st_lo (j := 2) (by decide)]; rfl)
  · by_cases h7 : j < 73
    · obtain ⟨c, rfl⟩ : ∃ c, j = 3 + 70 * 0 + c := ⟨j - 3, by omega⟩
      rw [wE_b (p := 0) (c := c) (by decide) (by omega)]
      show va_at g.1 vwCl (gA g (3 + 70 * 0 + c), bkE g 0 bp_0 c) H
      have hs := st_bs (g := g) (p := 0) (c := c) (f := pup (pup (fun _ => none) 0 (.inr (8, frX6))) (jB 0) (.inr (2, frX0))) (by omega)
      obtain ⟨e, he⟩ := hs
      exact st_b (by decide) (by omega) he (h _ hj e (by rw [st_lo (j := 3 + 70 * 0 + c) (by omega), st_b0 (by omega) (by omega) (by omega) h7]; exact he))
    · by_cases h8 : j < 143
      · obtain ⟨c, rfl⟩ : ∃ c, j = 3 + 70 * 1 + c := ⟨j - 73, by omega⟩
        rw [wE_b (p := 1) (c := c) (by decide) (by omega)]
        show va_at g.1 vwCl (gA g (3 + 70 * 1 + c), bkE g 1 bp_0 c) H
        obtain ⟨e, he⟩ := st_bs (g := g) (p := 1) (c := c) (f := pup (pup (bp_f g 0 (pup (pup (fun _ => none) 0 (.inr (8, frX6))) (jB 0) (.inr (2, frX0))) 6 20 5) 0 (.inr (8, (frX6.set 0 (.ref (gA g (jB 0))))))) (jB 1) (.inr (2, frX0))) (by omega)
        exact st_b (by decide) (by omega) he (h _ hj e (by rw [st_lo h8, st_b1 (j := 3 + 70 * 1 + c) (by omega) (by omega) (by omega)]; exact he))
      · by_cases h9 : j < 169
        · obtain ⟨k, rfl⟩ : ∃ k, j = jM k := ⟨j - 143, by unfold jM; omega⟩
          have hk : k < 26 := by unfold jM at h9; omega
          rw [wE_m hk]
          have e0 : st_f g (jM k) = m7_w g (pup (g6_f g (pup (fun _ => none) 0 (.inr (8, frX6)))) (jM 0) (.inr (9, frX7))) 5 (jM k) := by
            unfold st_f
            rw [pup_ne (by unfold jM; omega), pup_ne (by unfold jM; omega)]
          refine h _ hj _ (e0.trans ?_)
          by_cases h5 : k = 5
          · subst h5; rw [m7_w5]; rfl
          · by_cases h0 : k = 0
            · subst h0; rw [m7_wo, m7_25]; rfl
            · unfold m7_w
              rw [if_neg (by unfold jM; omega)]
              unfold m7_f
              rw [if_neg (by unfold jM; omega), if_pos (by unfold jM; omega), show jM k - 143 = k by unfold jM; omega]
              unfold mE
              rw [if_neg h0]
              show _ = some (Sum.inl (g.2.1 (mTy k), mLen k, Sum.inl (st_M k)))
              rw [show st_M k = fun _ => 0 from if_neg h5]
        · have hj9 : j = 169 ∨ j = 170 := by omega
          rcases hj9 with rfl | rfl
          · exact h 169 (by decide) _ rfl
          · exact h 170 (by decide) _ rfl
theorem st_WS {g : wG} {s : State} {z : Nat} {H : Heap} {locs : List Loc} (hp : PS g s (st_f g) z H locs) : WS g s (st_S, (st_M, st_o)) H locs := by
  refine ⟨fun k q hk => ?_, hp.2.1⟩
  have hl : k < 171 := by have := (List.getElem?_eq_some_iff.mp hk).1; rw [wl_len] at this; exact this
  rw [wl_get hl] at hk
  cases hk
  exact st_at hl hp.1
theorem st_z (c k : Nat) (h : c ≠ 3) : bp_0 c k = 0 := by rw [bp_0n h]
/-- at the beginning both agree -/
theorem st_V : sm_V st_S st_M 0 := by
  have hN : CN bp_0 0 0 := ⟨rfl, rfl, by decide, by decide, fun i hi => by rw [st_z _ _ (by omega)]; exact okc_nI (n := 0) (by decide)⟩
  have hM : ∀ c k, c ≠ 5 → st_M c k = 0 := fun c k h => by unfold st_M; rw [if_neg h]
  refine ⟨0, 0, 0, fun i => i, 0, 0, 0, hN, hN, ⟨rfl, rfl, by decide, by decide, ?_, ?_, ?_, ?_⟩, ⟨⟨⟨rfl, rfl, rfl⟩, ⟨rfl, rfl, rfl⟩, by decide, by decide, by decide, Or.inl rfl, Or.inr rfl⟩, ?_, ?_, ?_, ?_, ?_, ?_, ?_, ?_, ?_, ?_⟩, ⟨rfl, by decide, ?_⟩, Nat.le_refl 0⟩
  · intro i hi; rw [hM _ _ (by decide)]; exact okc_nI (n := 0) (by decide)
  · intro i hi; rw [hM _ _ (by decide), hM _ _ (by decide), hM _ _ (by decide), hM _ _ (by decide)]; exact ⟨okz_01 (Or.inl rfl), okz_01 (Or.inl rfl), okz_01 (Or.inl rfl), okz_01 (Or.inl rfl)⟩
  · intro i hi; rw [hM _ _ (by decide)]; exact Or.inr (vp_in_nI (n := 0) (by decide) (by decide))
  · intro i hi; rw [hM _ _ (by decide)]; exact vp_in_nI (n := 0) (by decide) (by decide)
  · intro k hk
    show bp_0 3 k = st_M 5 k
    rw [bp_03]; rfl
  · intro i hi; exact absurd hi (Nat.not_lt_zero _)
  · intro i h1 h2; exact ⟨hM _ _ (by decide), hM _ _ (by decide)⟩
  · intro i h1 h2; exact ⟨hM _ _ (by decide), hM _ _ (by decide), hM _ _ (by decide), hM _ _ (by decide), hM _ _ (by decide), hM _ _ (by decide), hM _ _ (by decide), hM _ _ (by decide)⟩
  · intro i hi; exact absurd hi (Nat.not_lt_zero _)
  · intro i hi; exact absurd hi (Nat.not_lt_zero _)
  · intro i hi; exact absurd hi (Nat.not_lt_zero _)
  · intro i hi; exact absurd hi (Nat.not_lt_zero _)
  · intro i hi; exact absurd hi (Nat.not_lt_zero _)
  · intro i hi; exact absurd hi (Nat.not_lt_zero _)
  · intro B1 c k h
    show bp_0 c k = f_X0_open B1 c k
    rcases h with ⟨rfl, h1, h2⟩ | ⟨rfl, h1⟩ | ⟨h1, h2, h3⟩ | ⟨h1, h2, h3⟩ | ⟨h1, h2, h3⟩ | ⟨h1, h2, h3⟩
    · have hk : k = 3 ∨ k = 4 ∨ k = 5 := by omega
      rcases hk with rfl | rfl | rfl <;> rfl
    · have hk : k = 0 ∨ k = 1 ∨ k = 2 ∨ k = 3 ∨ k = 4 := by omega
      rcases hk with rfl | rfl | rfl | rfl | rfl <;> rfl
    · exact absurd h2 (by omega)
    · exact absurd h2 (by omega)
    · exact absurd h2 (by omega)
    · exact absurd h2 (by omega)
