/-! the law's loop -/
set_option maxHeartbeats 4000000 in
set_option maxRecDepth 100000 in
theorem lw_round {p : Program} {l : Launch} {e : Env} {s : State} {m : MethodId} {below : List Frame} {meth : Method} {c : Code} {b Ls : Nat} {xs : Nat → Int32} {g : wG} {Q : State → Prop} {S : Nat → BT} {M : BT} {o : (Nat → Int64) × (Nat → UInt64)} {t cells slots : Nat} {z : Int32} {H : Heap} {locs : List Loc} {ls : Array Slot}
    (C9 : LC p l s m c b Ls xs g) (hz : z = nI (5 * t)) (hlt : 5 * t + 5 ≤ Ls) (hL : Ls ≤ 2560) (hV : sm_V S M t) (hcs : cells + 5 ≤ 603072) (hss : slots + 30 ≤ 7190634) (hw : WS g s (S, (M, o)) H locs) (hl : lv_has ls 9 (lw_lv g b z))
    (kk : LK p l e s m below meth c b g z (t + 1) (cells + 5) (slots + 30) Q) : W p l e room_1 s m #[Value.ref b] below meth c H locs cells slots Q (F0 m 37 ls []) := by
  obtain ⟨hc, hml, hk, hX, hbl, hbA, hfl⟩ := id C9
  have hx := hc.1
  have hb := hc.2.1
  refine lv_aload_n hx hb dL_law_37 rfl (lv_at hl 5 rfl) ?_
  refine lv_iload hx hb dL_law_38 (lv_at hl 0 rfl) ?_
  refine va_sld hx hb hX hbl hbA hw.2 (show vp_in z Ls by rw [hz]; exact vp_in_nI (by omega) (by omega)) dL_law_40 ?_
  refine lv_bipush (v := 63) hx hb dL_law_41 (by decide) ?_
  refine lv_iand hx hb dL_law_43 ?_
  generalize xs z.toNatClampNeg &&& 63 = v
  by_cases h0 : v = 0
  · refine lv_tableIn (off := 160) (tgt := 204) hx hb dL_law_44 (by rw [h0]; decide) (by rw [h0]; decide) (by rw [h0]; decide) (by decide) ?_
    exact lc_0 C9 hz hlt hL hV hcs hss hw hl kk
  by_cases h1 : v = 1
  · refine lv_tableIn (off := 228) (tgt := 272) hx hb dL_law_44 (by rw [h1]; decide) (by rw [h1]; decide) (by rw [h1]; decide) (by decide) ?_
    exact lc_1 C9 hz hlt hL hV hcs hss hw hl kk
  by_cases h2 : v = 2
  · refine lv_tableIn (off := 284) (tgt := 328) hx hb dL_law_44 (by rw [h2]; decide) (by rw [h2]; decide) (by rw [h2]; decide) (by decide) ?_
    exact lc_2 C9 hz hlt hL hV hcs hss hw hl kk
  by_cases h3 : v = 3
  · refine lv_tableIn (off := 297) (tgt := 341) hx hb dL_law_44 (by rw [h3]; decide) (by rw [h3]; decide) (by rw [h3]; decide) (by decide) ?_
    exact lc_3 C9 hz hlt hL hV hcs hss hw hl kk
  by_cases h4 : v = 4
  · refine lv_tableIn (off := 389) (tgt := 433) hx hb dL_law_44 (by rw [h4]; decide) (by rw [h4]; decide) (by rw [h4]; decide) (by decide) ?_
    exact lc_4 C9 hz hlt hL hV hcs hss hw hl kk
  by_cases h5 : v = 5
  · refine lv_tableIn (off := 480) (tgt := 524) hx hb dL_law_44 (by rw [h5]; decide) (by rw [h5]; decide) (by rw [h5]; decide) (by decide) ?_
    exact lc_5 C9 hz hlt hL hV hcs hss hw hl kk
  by_cases h6 : v = 6
  · refine lv_tableIn (off := 543) (tgt := 587) hx hb dL_law_44 (by rw [h6]; decide) (by rw [h6]; decide) (by rw [h6]; decide) (by decide) ?_
    exact lc_6 C9 hz hlt hL hV hcs hss hw hl kk
  by_cases h7 : v = 7
  · refine lv_tableIn (off := 599) (tgt := 643) hx hb dL_law_44 (by rw [h7]; decide) (by rw [h7]; decide) (by rw [h7]; decide) (by decide) ?_
    exact lc_7 C9 hz hlt hL hV hcs hss hw hl kk
  by_cases h8 : v = 8
  · refine lv_tableIn (off := 655) (tgt := 699) hx hb dL_law_44 (by rw [h8]; decide) (by rw [h8]; decide) (by rw [h8]; decide) (by decide) ?_
    exact lc_8 C9 hz hlt hL hV hcs hss hw hl kk
  by_cases h9 : v = 9
  · refine lv_tableIn (off := 711) (tgt := 755) hx hb dL_law_44 (by rw [h9]; decide) (by rw [h9]; decide) (by rw [h9]; decide) (by decide) ?_
    exact lc_9 C9 hz hlt hL hV hcs hss hw hl kk
  by_cases h10 : v = 10
  · refine lv_tableIn (off := 769) (tgt := 813) hx hb dL_law_44 (by rw [h10]; decide) (by rw [h10]; decide) (by rw [h10]; decide) (by decide) ?_
    exact lc_10 C9 hz hlt hL hV hcs hss hw hl kk
  by_cases h11 : v = 11
  · refine lv_tableIn (off := 825) (tgt := 869) hx hb dL_law_44 (by rw [h11]; decide) (by rw [h11]; decide) (by rw [h11]; decide) (by decide) ?_
    exact lc_11 C9 hz hlt hL hV hcs hss hw hl kk
  by_cases h12 : v = 12
  · refine lv_tableIn (off := 881) (tgt := 925) hx hb dL_law_44 (by rw [h12]; decide) (by rw [h12]; decide) (by rw [h12]; decide) (by decide) ?_
    exact lc_12 C9 hz hlt hL hV hcs hss hw hl kk
  by_cases h13 : v = 13
  · refine lv_tableIn (off := 949) (tgt := 993) hx hb dL_law_44 (by rw [h13]; decide) (by rw [h13]; decide) (by rw [h13]; decide) (by decide) ?_
    exact lc_13 C9 hz hlt hL hV hcs hss hw hl kk
  by_cases h14 : v = 14
  · refine lv_tableIn (off := 1005) (tgt := 1049) hx hb dL_law_44 (by rw [h14]; decide) (by rw [h14]; decide) (by rw [h14]; decide) (by decide) ?_
    exact lc_14 C9 hz hlt hL hV hcs hss hw hl kk
  by_cases h15 : v = 15
  · refine lv_tableIn (off := 1061) (tgt := 1105) hx hb dL_law_44 (by rw [h15]; decide) (by rw [h15]; decide) (by rw [h15]; decide) (by decide) ?_
    exact lc_15 C9 hz hlt hL hV hcs hss hw hl kk
  by_cases h16 : v = 16
  · refine lv_tableIn (off := 1117) (tgt := 1161) hx hb dL_law_44 (by rw [h16]; decide) (by rw [h16]; decide) (by rw [h16]; decide) (by decide) ?_
    exact lc_16 C9 hz hlt hL hV hcs hss hw hl kk
  by_cases h17 : v = 17
  · refine lv_tableIn (off := 1180) (tgt := 1224) hx hb dL_law_44 (by rw [h17]; decide) (by rw [h17]; decide) (by rw [h17]; decide) (by decide) ?_
    exact lc_17 C9 hz hlt hL hV hcs hss hw hl kk
  by_cases h18 : v = 18
  · refine lv_tableIn (off := 1224) (tgt := 1268) hx hb dL_law_44 (by rw [h18]; decide) (by rw [h18]; decide) (by rw [h18]; decide) (by decide) ?_
    exact lc_18 C9 hz hlt hL hV hcs hss hw hl kk
  by_cases h19 : v = 19
  · refine lv_tableIn (off := 1292) (tgt := 1336) hx hb dL_law_44 (by rw [h19]; decide) (by rw [h19]; decide) (by rw [h19]; decide) (by decide) ?_
    exact lc_19 C9 hz hlt hL hV hcs hss hw hl kk
  by_cases h20 : v = 20
  · refine lv_tableIn (off := 1348) (tgt := 1392) hx hb dL_law_44 (by rw [h20]; decide) (by rw [h20]; decide) (by rw [h20]; decide) (by decide) ?_
    exact lc_20 C9 hz hlt hL hV hcs hss hw hl kk
  by_cases h21 : v = 21
  · refine lv_tableIn (off := 1404) (tgt := 1448) hx hb dL_law_44 (by rw [h21]; decide) (by rw [h21]; decide) (by rw [h21]; decide) (by decide) ?_
    exact lc_21 C9 hz hlt hL hV hcs hss hw hl kk
  by_cases h22 : v = 22
  · refine lv_tableIn (off := 1460) (tgt := 1504) hx hb dL_law_44 (by rw [h22]; decide) (by rw [h22]; decide) (by rw [h22]; decide) (by decide) ?_
    exact lc_22 C9 hz hlt hL hV hcs hss hw hl kk
  by_cases h23 : v = 23
  · refine lv_tableIn (off := 1528) (tgt := 1572) hx hb dL_law_44 (by rw [h23]; decide) (by rw [h23]; decide) (by rw [h23]; decide) (by decide) ?_
    exact lc_23 C9 hz hlt hL hV hcs hss hw hl kk
  by_cases h24 : v = 24
  · refine lv_tableIn (off := 1596) (tgt := 1640) hx hb dL_law_44 (by rw [h24]; decide) (by rw [h24]; decide) (by rw [h24]; decide) (by decide) ?_
    exact lc_24 C9 hz hlt hL hV hcs hss hw hl kk
  by_cases h25 : v = 25
  · refine lv_tableIn (off := 1652) (tgt := 1696) hx hb dL_law_44 (by rw [h25]; decide) (by rw [h25]; decide) (by rw [h25]; decide) (by decide) ?_
    exact lc_25 C9 hz hlt hL hV hcs hss hw hl kk
  by_cases h26 : v = 26
  · refine lv_tableIn (off := 1708) (tgt := 1752) hx hb dL_law_44 (by rw [h26]; decide) (by rw [h26]; decide) (by rw [h26]; decide) (by decide) ?_
    exact lc_26 C9 hz hlt hL hV hcs hss hw hl kk
  by_cases h27 : v = 27
  · refine lv_tableIn (off := 1792) (tgt := 1836) hx hb dL_law_44 (by rw [h27]; decide) (by rw [h27]; decide) (by rw [h27]; decide) (by decide) ?_
    exact lc_27 C9 hz hlt hL hV hcs hss hw hl kk
  by_cases h28 : v = 28
  · refine lv_tableIn (off := 1855) (tgt := 1899) hx hb dL_law_44 (by rw [h28]; decide) (by rw [h28]; decide) (by rw [h28]; decide) (by decide) ?_
    exact lc_28 C9 hz hlt hL hV hcs hss hw hl kk
  by_cases h29 : v = 29
  · refine lv_tableIn (off := 1911) (tgt := 1955) hx hb dL_law_44 (by rw [h29]; decide) (by rw [h29]; decide) (by rw [h29]; decide) (by decide) ?_
    exact lc_29 C9 hz hlt hL hV hcs hss hw hl kk
  by_cases h30 : v = 30
  · refine lv_tableIn (off := 1967) (tgt := 2011) hx hb dL_law_44 (by rw [h30]; decide) (by rw [h30]; decide) (by rw [h30]; decide) (by decide) ?_
    exact lc_30 C9 hz hlt hL hV hcs hss hw hl kk
  by_cases h31 : v = 31
  · refine lv_tableIn (off := 2023) (tgt := 2067) hx hb dL_law_44 (by rw [h31]; decide) (by rw [h31]; decide) (by rw [h31]; decide) (by decide) ?_
    exact lc_31 C9 hz hlt hL hV hcs hss hw hl kk
  by_cases h32 : v = 32
  · refine lv_tableIn (off := 2079) (tgt := 2123) hx hb dL_law_44 (by rw [h32]; decide) (by rw [h32]; decide) (by rw [h32]; decide) (by decide) ?_
    exact lc_32 C9 hz hlt hL hV hcs hss hw hl kk
  by_cases h33 : v = 33
  · refine lv_tableIn (off := 2157) (tgt := 2201) hx hb dL_law_44 (by rw [h33]; decide) (by rw [h33]; decide) (by rw [h33]; decide) (by decide) ?_
    exact lc_33 C9 hz hlt hL hV hcs hss hw hl kk
  by_cases h34 : v = 34
  · refine lv_tableIn (off := 2222) (tgt := 2266) hx hb dL_law_44 (by rw [h34]; decide) (by rw [h34]; decide) (by rw [h34]; decide) (by decide) ?_
    exact lc_34 C9 hz hlt hL hV hcs hss hw hl kk
  by_cases h35 : v = 35
  · refine lv_tableIn (off := 2236) (tgt := 2280) hx hb dL_law_44 (by rw [h35]; decide) (by rw [h35]; decide) (by rw [h35]; decide) (by decide) ?_
    exact lc_35 C9 hz hlt hL hV hcs hss hw hl kk
  refine lv_tableOut (tgt := 2293) hx hb dL_law_44 (by
    have z0 := i32_ne h0 (by decide : (0 : Int32).toInt = 0)
    have z1 := i32_ne h1 (by decide : (1 : Int32).toInt = 1)
    have z2 := i32_ne h2 (by decide : (2 : Int32).toInt = 2)
    have z3 := i32_ne h3 (by decide : (3 : Int32).toInt = 3)
    have z4 := i32_ne h4 (by decide : (4 : Int32).toInt = 4)
    have z5 := i32_ne h5 (by decide : (5 : Int32).toInt = 5)
    have z6 := i32_ne h6 (by decide : (6 : Int32).toInt = 6)
    have z7 := i32_ne h7 (by decide : (7 : Int32).toInt = 7)
    have z8 := i32_ne h8 (by decide : (8 : Int32).toInt = 8)
    have z9 := i32_ne h9 (by decide : (9 : Int32).toInt = 9)
    have z10 := i32_ne h10 (by decide : (10 : Int32).toInt = 10)
    have z11 := i32_ne h11 (by decide : (11 : Int32).toInt = 11)
    have z12 := i32_ne h12 (by decide : (12 : Int32).toInt = 12)
    have z13 := i32_ne h13 (by decide : (13 : Int32).toInt = 13)
    have z14 := i32_ne h14 (by decide : (14 : Int32).toInt = 14)
    have z15 := i32_ne h15 (by decide : (15 : Int32).toInt = 15)
    have z16 := i32_ne h16 (by decide : (16 : Int32).toInt = 16)
    have z17 := i32_ne h17 (by decide : (17 : Int32).toInt = 17)
    have z18 := i32_ne h18 (by decide : (18 : Int32).toInt = 18)
    have z19 := i32_ne h19 (by decide : (19 : Int32).toInt = 19)
    have z20 := i32_ne h20 (by decide : (20 : Int32).toInt = 20)
    have z21 := i32_ne h21 (by decide : (21 : Int32).toInt = 21)
    have z22 := i32_ne h22 (by decide : (22 : Int32).toInt = 22)
    have z23 := i32_ne h23 (by decide : (23 : Int32).toInt = 23)
    have z24 := i32_ne h24 (by decide : (24 : Int32).toInt = 24)
    have z25 := i32_ne h25 (by decide : (25 : Int32).toInt = 25)
    have z26 := i32_ne h26 (by decide : (26 : Int32).toInt = 26)
    have z27 := i32_ne h27 (by decide : (27 : Int32).toInt = 27)
    have z28 := i32_ne h28 (by decide : (28 : Int32).toInt = 28)
    have z29 := i32_ne h29 (by decide : (29 : Int32).toInt = 29)
    have z30 := i32_ne h30 (by decide : (30 : Int32).toInt = 30)
    have z31 := i32_ne h31 (by decide : (31 : Int32).toInt = 31)
    have z32 := i32_ne h32 (by decide : (32 : Int32).toInt = 32)
    have z33 := i32_ne h33 (by decide : (33 : Int32).toInt = 33)
    have z34 := i32_ne h34 (by decide : (34 : Int32).toInt = 34)
    have z35 := i32_ne h35 (by decide : (35 : Int32).toInt = 35)
    omega) (by decide) ?_
  refine W.widen (k := cells + 5) (n := slots + 30) (by omega) (by omega) ?_
  exact kk _ _ _ _ _ _ hV.nxt hw hl
set_option maxHeartbeats 4000000 in
set_option maxRecDepth 100000 in
theorem lw_loop {p : Program} {l : Launch} {e : Env} {s : State} {m : MethodId} {below : List Frame} {meth : Method} {c : Code} {b Ls : Nat} {xs : Nat → Int32} {g : wG}
    (C9 : LC p l s m c b Ls xs g) (hL : Ls ≤ 2560) (hr : meth.sig.returnType = ret) (hlocks : meth.locks = false) (hAA : ∀ q, AA g q → s.heap.size ≤ q) : ∀ (f t : Nat), Ls < 5 * t + f → 5 * t ≤ Ls ∨ t = 0 → ∀ (S : Nat → BT) (M : BT) (o : (Nat → Int64) × (Nat → UInt64)) (z : Int32) (H : Heap) (locs : List Loc) (ls : Array Slot), z = nI (5 * t) → sm_V S M t → WS g s (S, (M, o)) H locs → lv_has ls 9 (lw_lv g b z) → W p l e room_1 s m #[Value.ref b] below meth c H locs (200 + 5 * t) (6000 + 30 * t) (lw_Z below #[Value.ref b] s) (F0 m 28 ls []) := by
  obtain ⟨hc, hml, hk, hX, hbl, hbA, hfl⟩ := id C9
  have hx := hc.1
  have hb := hc.2.1
  intro f
  induction f with
  | zero => intro t h1 h2; exact absurd h1 (by omega)
  | succ f ih =>
    intro t h1 h2 S M o z H locs ls hz hV hw hl
    have ht : 5 * t ≤ 2560 := by omega
    refine lv_iload hx hb dL_law_28 (lv_at hl 0 rfl) ?_
    refine lv_aload_n hx hb dL_law_30 rfl (lv_at hl 5 rfl) ?_
    refine va_slen hx hb hX hbl hbA hw.2 dL_law_31 ?_
    refine lv_iconst (v := 5) hx hb dL_law_32 (by decide) ?_
    refine lv_isub hx hb dL_law_33 ?_
    have e5 : (Int32.ofNat Ls - 5).toInt = (Ls : Int) - 5 := pk_sub_toInt (a := Ls) (b := 5) (by omega) (by omega)
    have ez : z.toInt = ((5 * t : Nat) : Int) := by rw [hz]; exact nI_toInt (by omega)
    refine lv_icmp_gt (tgt := 2299) hx hb dL_law_34 (by decide) (fun h9 => ?_) (fun h9 => ?_)
    · refine lv_iconst (v := 1) hx hb dL_law_2299 (by decide) ?_
      refine va_forget (fun q hq => hAA _ (hw.2.2.2 q hq)) ?_
      refine W.widen (k := 603072) (n := 7190634) (by omega) (by omega) ?_
      exact W.base (lw_ret (Drawn.sameBut.refl s.drawn lw_cs) hx hb hr hlocks dL_law_2300)
    · have hlt : 5 * t + 5 ≤ Ls := by
        rw [fa_lt, e5, ez] at h9
        omega
      refine lw_round C9 hz hlt hL hV (by omega) (by omega) hw hl ?_
      intro S' M' o' H' locs' ls' hV' hw' hl'
      refine lv_iinc (v := z + 5) (lv' := lw_lv g b (z + 5)) hx hb dL_law_2293 hl' (k := 0) rfl rfl (by decide) rfl (fun ls hl => ?_)
      refine lv_goto (tgt := 28) hx hb dL_law_2296 (by decide) ?_
      exact ih (t + 1) (by omega) (Or.inl (by omega)) S' M' o' (z + 5) H' locs' ls (by rw [hz]; exact nI_add (5 * t) 5) hV' hw' hl
