/-! the world: every cell of the system (the class's, the reference's, the law's two answer rows) at an address of its own; what they hold is told by numbers -/
/-- the tables, the array classes, the addresses, the least address of what the law made -/
abbrev wG : Type := va_G × (Nat → ClassId) × (Nat → Nat) × Nat
/-- the class's numbers (part, cell, place): part 0 the book, part 1 the book told again, part 2 the events; the reference's numbers (row, place); the law's answers -/
abbrev wSt : Type := (Nat → Nat → Nat → Int32) × (Nat → Nat → Int32) × (Nat → Int64) × (Nat → UInt64)
abbrev BT : Type := Nat → Nat → Int32
abbrev gA (g : wG) (j : Nat) : Nat := g.2.2.1 j
def tysG (g : wG) : List (ClassId × FieldType) := [(g.2.1 0, .int), (g.2.1 1, .int), (g.2.1 2, .int), (g.2.1 3, .int), (g.2.1 4, .int), (g.2.1 5, .object "GrievanceOmbud$Complaint"), (g.2.1 6, .object "GrievanceOmbud$Office")]
def jB (p : Nat) : Nat := 3 + 70 * p
def jOs (p : Nat) : Nat := 3 + 70 * p + 1
def jCs (p : Nat) : Nat := 3 + 70 * p + 2
def jW (p : Nat) : Nat := 3 + 70 * p + 3
def jO (p i : Nat) : Nat := 3 + 70 * p + (4 + i)
def jC (p i : Nat) : Nat := 3 + 70 * p + (10 + i)
def jI (p i : Nat) : Nat := 3 + 70 * p + (30 + i)
def jF (p i : Nat) : Nat := 3 + 70 * p + (50 + i)
def fsG (g : wG) : List Value := [.ref (gA g (jB 0)), .ref (gA g (jB 1)), .ref (gA g 1)]
def fsE (g : wG) (f : Nat → Int32) : List Value := [.ref (gA g 2), .int (f 1)]
def fsB (g : wG) (p : Nat) (f : Nat → Int32) : List Value := [.ref (gA g (jOs p)), .ref (gA g (jCs p)), .ref (gA g (jW p)), .int (f 3), .int (f 4), .int (f 5)]
def fsO (f : Nat → Int32) : List Value := [.int (f 0), .int (f 1), .int (f 2), .int (f 3)]
def fsC (g : wG) (p i : Nat) (f : Nat → Int32) : List Value := [.int (nI i), .ref (gA g (jI p i)), .ref (gA g (jF p i)), .int (f 3), .int (f 4), .int (f 5), .int (f 6), .int (f 7), .int (f 8), .int (f 9), .int (f 10), .int (f 11), .int (f 12), .int (f 13), .int (f 14), .int (f 15)]
def fsI (f : Nat → Int32) : List Value := [.int (f 0), .int (f 1), .int (f 2), .int (f 3)]
def fsF (f : Nat → Int32) : List Value := [.int (f 0), .int (f 1), .int (f 2), .int (f 3), .int (f 4), .int (f 5)]
/-- the cell c of the book p -/
def bkE (g : wG) (p : Nat) (B : BT) (c : Nat) : va_E :=
  if c < 10 then (if c < 4 then (if c = 0 then .inr (2, fsB g p (B 0)) else if c = 1 then .inl (g.2.1 6, 6, .inr (.inr (.inr (.inr (fun k => some (gA g (jO p k))))))) else if c = 2 then .inl (g.2.1 5, 20, .inr (.inr (.inr (.inr (fun k => some (gA g (jC p k))))))) else .inl (g.2.1 0, 5, .inl (B 3)))
    else .inr (7, fsO (B c)))
  else if c < 30 then .inr (3, fsC g p (c - 10) (B c)) else if c < 50 then .inr (6, fsI (B c)) else .inr (5, fsF (B c))
def wE (g : wG) (x : wSt) (j : Nat) : va_E :=
  if j < 3 then (if j = 0 then .inr (8, fsG g) else if j = 1 then .inr (4, fsE g (x.1 2 0)) else .inl (g.2.1 0, 2560, .inl (x.1 2 1)))
  else if j < 143 then bkE g ((j - 3) / 70) (x.1 ((j - 3) / 70)) ((j - 3) % 70)
  else .inl (g.2.1 0, 0, .inl (fun _ => 0))
def wl (g : wG) (x : wSt) : va_W := (List.range 143).map (fun j => (gA g j, wE g x j))
theorem wl_get {g : wG} {x : wSt} {j : Nat} (h : j < 143) : (wl g x)[j]? = some (gA g j, wE g x j) := by simp [wl, h]
theorem wl_len (g : wG) (x : wSt) : (wl g x).length = 143 := by simp [wl]
theorem wl_set {g : wG} {x x' : wSt} {j : Nat} {e : va_E} (h : j < 143) (he : wE g x' j = e) (ho : ∀ i, i < 143 → i ≠ j → wE g x' i = wE g x i) : (wl g x).set j (gA g j, e) = wl g x' := by
  apply List.ext_getElem?
  intro i
  by_cases hi : i < 143
  · by_cases hij : i = j
    · subst hij
      rw [List.getElem?_set_self (by rw [wl_len]; exact hi), wl_get hi, he]
    · rw [List.getElem?_set_ne (Ne.symm hij), wl_get hi, wl_get hi, ho i hi hij]
  · rw [List.getElem?_eq_none (by rw [List.length_set, wl_len]; omega), List.getElem?_eq_none (by rw [wl_len]; omega)]
/-- one number of a table of numbers told anew -/
def up2 (B : BT) (c k : Nat) (v : Int32) : BT := fun c' k' => if c' = c then (if k' = k then v else B c' k') else B c' k'
theorem up2_at (B : BT) (c k : Nat) (v : Int32) : up2 B c k v c = upd (B c) k v := by funext q; simp [up2, upd]
theorem up2_ne {B : BT} {c k : Nat} {v : Int32} {c' : Nat} (h : c' ≠ c) : up2 B c k v c' = B c' := by funext q; simp [up2, h]
/-- the class's numbers, the book p's being B -/
abbrev xB (S : Nat → BT) (p : Nat) (B : BT) (y : (Nat → Nat → Int32) × (Nat → Int64) × (Nat → UInt64)) : wSt := (va_up S p B, y)
theorem va_up_at {α : Type} (f : Nat → α) (k : Nat) (v : α) : va_up f k v k = v := by simp [va_up]
theorem va_up_id {α : Type} (f : Nat → α) (k : Nat) : va_up f k (f k) = f := by funext j; by_cases h : j = k <;> simp [va_up, h]
-- ===== what lies where =====
theorem wE_b {g : wG} {x : wSt} {p c : Nat} (hp : p < 2) (hc : c < 70) : wE g x (3 + 70 * p + c) = bkE g p (x.1 p) c := by
  have e1 : (3 + 70 * p + c - 3) / 70 = p := by omega
  have e2 : (3 + 70 * p + c - 3) % 70 = c := by omega
  unfold wE
  rw [if_neg (by omega), if_pos (by omega), e1, e2]
theorem at_G {g : wG} {x : wSt} : (wl g x)[0]? = some (gA g 0, .inr (8, fsG g)) := by rw [wl_get (by omega)]; rfl
theorem at_E {g : wG} {x : wSt} : (wl g x)[1]? = some (gA g 1, .inr (4, fsE g (x.1 2 0))) := by rw [wl_get (by omega)]; rfl
theorem at_R {g : wG} {x : wSt} : (wl g x)[2]? = some (gA g 2, .inl (g.2.1 0, 2560, .inl (x.1 2 1))) := by rw [wl_get (by omega)]; rfl
theorem at_b {g : wG} {x : wSt} {p c : Nat} {e : va_E} (hp : p < 2) (hc : c < 70) (he : bkE g p (x.1 p) c = e) : (wl g x)[3 + 70 * p + c]? = some (gA g (3 + 70 * p + c), e) := by rw [wl_get (by omega), wE_b hp hc, he]
theorem at_B {g : wG} {x : wSt} {p : Nat} (hp : p < 2) : (wl g x)[jB p]? = some (gA g (jB p), .inr (2, fsB g p (x.1 p 0))) := at_b (c := 0) hp (by omega) rfl
theorem at_Os {g : wG} {x : wSt} {p : Nat} (hp : p < 2) : (wl g x)[jOs p]? = some (gA g (jOs p), .inl (g.2.1 6, 6, .inr (.inr (.inr (.inr (fun k => some (gA g (jO p k)))))))) := at_b (c := 1) hp (by omega) rfl
theorem at_Cs {g : wG} {x : wSt} {p : Nat} (hp : p < 2) : (wl g x)[jCs p]? = some (gA g (jCs p), .inl (g.2.1 5, 20, .inr (.inr (.inr (.inr (fun k => some (gA g (jC p k)))))))) := at_b (c := 2) hp (by omega) rfl
theorem at_W {g : wG} {x : wSt} {p : Nat} (hp : p < 2) : (wl g x)[jW p]? = some (gA g (jW p), .inl (g.2.1 0, 5, .inl (x.1 p 3))) := at_b (c := 3) hp (by omega) rfl
theorem at_O {g : wG} {x : wSt} {p i : Nat} (hp : p < 2) (hi : i < 6) : (wl g x)[jO p i]? = some (gA g (jO p i), .inr (7, fsO (x.1 p (4 + i)))) := at_b (c := 4 + i) hp (by omega) (by unfold bkE; rw [if_pos (by omega), if_neg (by omega)])
theorem at_C {g : wG} {x : wSt} {p i : Nat} (hp : p < 2) (hi : i < 20) : (wl g x)[jC p i]? = some (gA g (jC p i), .inr (3, fsC g p i (x.1 p (10 + i)))) := at_b (c := 10 + i) hp (by omega) (by unfold bkE; rw [if_neg (by omega), if_pos (by omega), show 10 + i - 10 = i by omega])
theorem at_I {g : wG} {x : wSt} {p i : Nat} (hp : p < 2) (hi : i < 20) : (wl g x)[jI p i]? = some (gA g (jI p i), .inr (6, fsI (x.1 p (30 + i)))) := at_b (c := 30 + i) hp (by omega) (by unfold bkE; rw [if_neg (by omega), if_neg (by omega), if_pos (by omega)])
theorem at_F {g : wG} {x : wSt} {p i : Nat} (hp : p < 2) (hi : i < 20) : (wl g x)[jF p i]? = some (gA g (jF p i), .inr (5, fsF (x.1 p (50 + i)))) := at_b (c := 50 + i) hp (by omega) (by unfold bkE; rw [if_neg (by omega), if_neg (by omega), if_neg (by omega)])
-- the same, the book p's numbers being B
theorem bt_B {g : wG} {S p B y} (hp : p < 2) : (wl g (xB S p B y))[jB p]? = some (gA g (jB p), .inr (2, fsB g p (B 0))) := by have h := at_B (g := g) (x := xB S p B y) hp; rw [show (xB S p B y).1 p = B from va_up_at S p B] at h; exact h
theorem bt_W {g : wG} {S p B y} (hp : p < 2) : (wl g (xB S p B y))[jW p]? = some (gA g (jW p), .inl (g.2.1 0, 5, .inl (B 3))) := by have h := at_W (g := g) (x := xB S p B y) hp; rw [show (xB S p B y).1 p = B from va_up_at S p B] at h; exact h
theorem bt_O {g : wG} {S p B y} {i : Nat} (hp : p < 2) (hi : i < 6) : (wl g (xB S p B y))[jO p i]? = some (gA g (jO p i), .inr (7, fsO (B (4 + i)))) := by have h := at_O (g := g) (x := xB S p B y) hp hi; rw [show (xB S p B y).1 p = B from va_up_at S p B] at h; exact h
theorem bt_C {g : wG} {S p B y} {i : Nat} (hp : p < 2) (hi : i < 20) : (wl g (xB S p B y))[jC p i]? = some (gA g (jC p i), .inr (3, fsC g p i (B (10 + i)))) := by have h := at_C (g := g) (x := xB S p B y) hp hi; rw [show (xB S p B y).1 p = B from va_up_at S p B] at h; exact h
theorem bt_I {g : wG} {S p B y} {i : Nat} (hp : p < 2) (hi : i < 20) : (wl g (xB S p B y))[jI p i]? = some (gA g (jI p i), .inr (6, fsI (B (30 + i)))) := by have h := at_I (g := g) (x := xB S p B y) hp hi; rw [show (xB S p B y).1 p = B from va_up_at S p B] at h; exact h
theorem bt_F {g : wG} {S p B y} {i : Nat} (hp : p < 2) (hi : i < 20) : (wl g (xB S p B y))[jF p i]? = some (gA g (jF p i), .inr (5, fsF (B (50 + i)))) := by have h := at_F (g := g) (x := xB S p B y) hp hi; rw [show (xB S p B y).1 p = B from va_up_at S p B] at h; exact h
-- ===== what a write makes of the world =====
theorem ups_fsB {g : wG} {p k : Nat} {f : Nat → Int32} {v : Int32} (h1 : 3 ≤ k) (h2 : k < 6) : (fsB g p f).set k (.int v) = fsB g p (upd f k v) := by
  have : k = 3 ∨ k = 4 ∨ k = 5 := by omega
  rcases this with rfl | rfl | rfl <;> rfl
theorem ups_fsO {k : Nat} {f : Nat → Int32} {v : Int32} (h2 : k < 4) : (fsO f).set k (.int v) = fsO (upd f k v) := by
  have : k = 0 ∨ k = 1 ∨ k = 2 ∨ k = 3 := by omega
  rcases this with rfl | rfl | rfl | rfl <;> rfl
theorem ups_fsI {k : Nat} {f : Nat → Int32} {v : Int32} (h2 : k < 4) : (fsI f).set k (.int v) = fsI (upd f k v) := by
  have : k = 0 ∨ k = 1 ∨ k = 2 ∨ k = 3 := by omega
  rcases this with rfl | rfl | rfl | rfl <;> rfl
theorem ups_fsF {k : Nat} {f : Nat → Int32} {v : Int32} (h2 : k < 6) : (fsF f).set k (.int v) = fsF (upd f k v) := by
  have : k = 0 ∨ k = 1 ∨ k = 2 ∨ k = 3 ∨ k = 4 ∨ k = 5 := by omega
  rcases this with rfl | rfl | rfl | rfl | rfl | rfl <;> rfl
theorem ups_fsC {g : wG} {p i k : Nat} {f : Nat → Int32} {v : Int32} (h1 : 3 ≤ k) (h2 : k < 16) : (fsC g p i f).set k (.int v) = fsC g p i (upd f k v) := by
  have : k = 3 ∨ k = 4 ∨ k = 5 ∨ k = 6 ∨ k = 7 ∨ k = 8 ∨ k = 9 ∨ k = 10 ∨ k = 11 ∨ k = 12 ∨ k = 13 ∨ k = 14 ∨ k = 15 := by omega
  rcases this with rfl | rfl | rfl | rfl | rfl | rfl | rfl | rfl | rfl | rfl | rfl | rfl | rfl <;> rfl
theorem bkE_ne {g : wG} {p : Nat} {B : BT} {c k : Nat} {v : Int32} {c' : Nat} (h : c' ≠ c) : bkE g p (up2 B c k v) c' = bkE g p B c' := by
  unfold bkE
  rw [up2_ne h]
  by_cases h1 : c' < 10
  · rw [if_pos h1, if_pos h1]
    by_cases h2 : c' < 4
    · rw [if_pos h2, if_pos h2]
      by_cases h3 : c' = 0
      · subst h3; rw [if_pos rfl, if_pos rfl, up2_ne h]
      · rw [if_neg h3, if_neg h3]
        by_cases h4 : c' = 1
        · rw [if_pos h4, if_pos h4]
        · rw [if_neg h4, if_neg h4]
          by_cases h5 : c' = 2
          · rw [if_pos h5, if_pos h5]
          · have h6 : c' = 3 := by omega
            subst h6
            rw [if_neg h5, if_neg h5, up2_ne h]
    · rw [if_neg h2, if_neg h2]
  · rw [if_neg h1, if_neg h1]
theorem wE_up {g : wG} {S : Nat → BT} {p : Nat} {B B' : BT} {y} {j : Nat} (hp : p < 2) (h : ∀ c, c < 70 → j = 3 + 70 * p + c → bkE g p B' c = bkE g p B c) (hj : j < 143) : wE g (xB S p B' y) j = wE g (xB S p B y) j := by
  have e2 : va_up S p B' 2 = va_up S p B 2 := by simp [va_up, show ¬ 2 = p by omega]
  unfold wE
  by_cases h1 : j < 3
  · rw [if_pos h1, if_pos h1]
    show (if j = 0 then _ else if j = 1 then Sum.inr (4, fsE g (va_up S p B' 2 0)) else Sum.inl (g.2.1 0, 2560, Sum.inl (va_up S p B' 2 1))) = _
    rw [e2]
  · rw [if_neg h1, if_neg h1]
    by_cases h2 : j < 143
    · rw [if_pos h2, if_pos h2]
      by_cases h3 : (j - 3) / 70 = p
      · rw [h3]
        show bkE g p (va_up S p B' p) _ = bkE g p (va_up S p B p) _
        rw [va_up_at, va_up_at]
        exact h _ (by omega) (by omega)
      · show bkE g _ (va_up S p B' _) _ = bkE g _ (va_up S p B _) _
        simp only [va_up, if_neg h3]
    · rw [if_neg h2, if_neg h2]
theorem bs_ {g : wG} {S p B y} {c k : Nat} {v : Int32} {e : va_E} (hp : p < 2) (hc : c < 70) (he : bkE g p (up2 B c k v) c = e) : (wl g (xB S p B y)).set (3 + 70 * p + c) (gA g (3 + 70 * p + c), e) = wl g (xB S p (up2 B c k v) y) := by
  refine wl_set (by omega) ?_ ?_
  · rw [wE_b hp hc, show (xB S p (up2 B c k v) y).1 p = up2 B c k v from va_up_at S p _, he]
  · intro i hi hne
    refine wE_up hp (fun c' hc' e' => bkE_ne (fun z => hne ?_)) hi
    rw [e', z]
theorem bs_B {g : wG} {S p B y} {k : Nat} {v : Int32} (hp : p < 2) (h1 : 3 ≤ k) (h2 : k < 6) : (wl g (xB S p B y)).set (jB p) (gA g (jB p), .inr (2, (fsB g p (B 0)).set k (.int v))) = wl g (xB S p (up2 B 0 k v) y) :=
  bs_ (c := 0) hp (by omega) (by rw [ups_fsB h1 h2, ← up2_at]; rfl)
theorem bs_W {g : wG} {S p B y} {k : Nat} {v : Int32} (hp : p < 2) : (wl g (xB S p B y)).set (jW p) (gA g (jW p), .inl (g.2.1 0, 5, .inl (upd (B 3) k v))) = wl g (xB S p (up2 B 3 k v) y) :=
  bs_ (c := 3) hp (by omega) (by rw [← up2_at]; rfl)
theorem bs_O {g : wG} {S p B y} {i k : Nat} {v : Int32} (hp : p < 2) (hi : i < 6) (h2 : k < 4) : (wl g (xB S p B y)).set (jO p i) (gA g (jO p i), .inr (7, (fsO (B (4 + i))).set k (.int v))) = wl g (xB S p (up2 B (4 + i) k v) y) :=
  bs_ (c := 4 + i) hp (by omega) (by rw [ups_fsO h2, ← up2_at]; unfold bkE; rw [if_pos (by omega), if_neg (by omega)])
theorem bs_C {g : wG} {S p B y} {i k : Nat} {v : Int32} (hp : p < 2) (hi : i < 20) (h1 : 3 ≤ k) (h2 : k < 16) : (wl g (xB S p B y)).set (jC p i) (gA g (jC p i), .inr (3, (fsC g p i (B (10 + i))).set k (.int v))) = wl g (xB S p (up2 B (10 + i) k v) y) :=
  bs_ (c := 10 + i) hp (by omega) (by rw [ups_fsC h1 h2, ← up2_at]; unfold bkE; rw [if_neg (by omega), if_pos (by omega), show 10 + i - 10 = i by omega])
theorem bs_I {g : wG} {S p B y} {i k : Nat} {v : Int32} (hp : p < 2) (hi : i < 20) (h2 : k < 4) : (wl g (xB S p B y)).set (jI p i) (gA g (jI p i), .inr (6, (fsI (B (30 + i))).set k (.int v))) = wl g (xB S p (up2 B (30 + i) k v) y) :=
  bs_ (c := 30 + i) hp (by omega) (by rw [ups_fsI h2, ← up2_at]; unfold bkE; rw [if_neg (by omega), if_neg (by omega), if_pos (by omega)])
theorem bs_F {g : wG} {S p B y} {i k : Nat} {v : Int32} (hp : p < 2) (hi : i < 20) (h2 : k < 6) : (wl g (xB S p B y)).set (jF p i) (gA g (jF p i), .inr (5, (fsF (B (50 + i))).set k (.int v))) = wl g (xB S p (up2 B (50 + i) k v) y) :=
  bs_ (c := 50 + i) hp (by omega) (by rw [ups_fsF h2, ← up2_at]; unfold bkE; rw [if_neg (by omega), if_neg (by omega), if_neg (by omega)])
/-- the events -/
def ups3 (S : Nat → BT) (c k : Nat) (v : Int32) : Nat → BT := va_up S 2 (up2 (S 2) c k v)
theorem wE_upE {g : wG} {S : Nat → BT} {E : BT} {y} {j : Nat} (h0 : 2 < j) : wE g (va_up S 2 E, y) j = wE g (S, y) j := by
  unfold wE
  rw [if_neg (show ¬ j < 3 by omega), if_neg (show ¬ j < 3 by omega)]
  by_cases h2 : j < 143
  · rw [if_pos h2, if_pos h2]
    show bkE g _ (va_up S 2 E ((j - 3) / 70)) _ = bkE g _ (S ((j - 3) / 70)) _
    rw [show va_up S 2 E ((j - 3) / 70) = S ((j - 3) / 70) by simp only [va_up]; rw [if_neg (by omega)]]
  · rw [if_neg h2, if_neg h2]
theorem es_E {g : wG} {S : Nat → BT} {y} {v : Int32} : (wl g (S, y)).set 1 (gA g 1, .inr (4, (fsE g (S 2 0)).set 1 (.int v))) = wl g (ups3 S 0 1 v, y) := by
  refine wl_set (by omega) ?_ ?_
  · rw [show wE g (ups3 S 0 1 v, y) 1 = .inr (4, fsE g (ups3 S 0 1 v 2 0)) from rfl]
    simp [ups3, va_up, up2, fsE]
  · intro i hi hne
    by_cases h : 2 < i
    · exact wE_upE h
    · have : i = 0 ∨ i = 2 := by omega
      rcases this with rfl | rfl
      · rfl
      · rw [show wE g (ups3 S 0 1 v, y) 2 = .inl (g.2.1 0, 2560, .inl (ups3 S 0 1 v 2 1)) from rfl, show wE g (S, y) 2 = .inl (g.2.1 0, 2560, .inl (S 2 1)) from rfl]
        rw [show ups3 S 0 1 v 2 1 = S 2 1 by rw [ups3, va_up_at]; exact up2_ne (by decide)]
theorem es_R {g : wG} {S : Nat → BT} {y} {k : Nat} {v : Int32} : (wl g (S, y)).set 2 (gA g 2, .inl (g.2.1 0, 2560, .inl (upd (S 2 1) k v))) = wl g (ups3 S 1 k v, y) := by
  refine wl_set (by omega) ?_ ?_
  · rw [show wE g (ups3 S 1 k v, y) 2 = .inl (g.2.1 0, 2560, .inl (ups3 S 1 k v 2 1)) from rfl]
    simp [ups3, va_up, up2_at]
  · intro i hi hne
    by_cases h : 2 < i
    · exact wE_upE h
    · have : i = 0 ∨ i = 1 := by omega
      rcases this with rfl | rfl
      · rfl
      · rw [show wE g (ups3 S 1 k v, y) 1 = .inr (4, fsE g (ups3 S 1 k v 2 0)) from rfl, show wE g (S, y) 1 = .inr (4, fsE g (S 2 0)) from rfl]
        rw [show ups3 S 1 k v 2 0 = S 2 0 by rw [ups3, va_up_at]; exact up2_ne (by decide)]