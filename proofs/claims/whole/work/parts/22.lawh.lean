/-! the law's helpers: what they need -/
abbrev wsH (y : MethodName) (c : ByteArray) (n : Nat) (r : Option FieldType) (hh : List (Nat × Nat × Nat × Nat)) : List Cond := .codeWith y c n r hh :: W0
abbrev mW (l : Launch) (y : MethodName) (cy : ByteArray) (ny : Nat) (hh : List (Nat × Nat × Nat × Nat)) (rm : Room) (mc ms : Nat) (g : wG) (x : wSt) (av : List Value) (r : Int32) (x' : wSt) : Prop :=
  Met l y (wsH y cy ny (some .int) hh) rm (va_Pc av (pre_ g x)) (va_Qi (fun (v : Int32) (u : wSt) => v = r ∧ u = x') (PB g) (AA g)) mc ms (AA g)
/-- which of the classes l an exception is, counted from 1; 0 where there is none -/
def kE (o : Option String) (l : List String) : Int32 := match o with
  | none => 0
  | some E => nI (l.idxOf E + 1)
def eIn (l : List String) (o : Option String) : Prop := ∀ E, o = some E → E ∈ l
theorem eIn_none {l : List String} : eIn l none := fun _ h => nomatch h
theorem eIn_some {l : List String} {E : String} (h : E ∈ l) : eIn l (some E) := fun _ h2 => Option.some.inj h2 ▸ h
theorem eIn_ite {l : List String} {q : Prop} [Decidable q] {a b : Option String} (ha : eIn l a) (hb : eIn l b) : eIn l (if q then a else b) := by
  split
  · exact ha
  · exact hb
theorem eIn_mono {l l' : List String} {o : Option String} (h : eIn l o) (h2 : ∀ E ∈ l, E ∈ l') : eIn l' o := fun E h3 => h2 E (h E h3)
section KL
variable {p : Program} {l : Launch} {e : Env} {R : Room} {s : State} {m : MethodId} {args : Array Value} {below : List Frame} {meth : Method} {c : Code} {H : Heap} {locs : List Loc} {cells slots : Nat} {Q : State → Prop}
variable {cc : ByteArray} {own : String} {g : wG} {x : wSt} {pc : Nat} {ls : Array Slot} {rest : List Value}
theorem k_last (hc : CX p c cc s args m own) (hk : WK g s s.heap) (hw : WS g s x H locs) {v : Int64} {x' : wSt} (hx' : x' = (x.1, x.2.1, vp_updL x.2.2.1 0 v, x.2.2.2)) (hdg : decode cc pc = .ok (.lastore, 1))
    (kk : ∀ (H1 : Heap) (locs1 : List Loc), WS g s x' H1 locs1 → W p l e R s m args below meth c H1 locs1 cells slots Q (F0 m (pc + 1) ls rest)) : W p l e R s m args below meth c H locs cells slots Q (F0 m pc ls (.long v :: .int 0 :: .ref (gA g 169) :: rest)) :=
  va_last hc.1 hc.2.1 hk.1 hw.1 (hk.D x) hw.2 169 3 at_LO rfl (vp_in_nI (n := 0) (by decide) (by decide)) hdg (fun H1 locs1 hP _ hS => kk H1 locs1 ⟨by rw [hx']; rw [show (0 : Int32).toNatClampNeg = 0 from by decide, os_L] at hP; exact hP, hS⟩)
theorem k_dast (hc : CX p c cc s args m own) (hk : WK g s s.heap) (hw : WS g s x H locs) {v : UInt64} {x' : wSt} (hx' : x' = (x.1, x.2.1, x.2.2.1, vf_upd x.2.2.2 0 v)) (hdg : decode cc pc = .ok (.dastore, 1))
    (kk : ∀ (H1 : Heap) (locs1 : List Loc), WS g s x' H1 locs1 → W p l e R s m args below meth c H1 locs1 cells slots Q (F0 m (pc + 1) ls rest)) : W p l e R s m args below meth c H locs cells slots Q (F0 m pc ls (.double v :: .int 0 :: .ref (gA g 170) :: rest)) :=
  va_dast hc.1 hc.2.1 hk.1 hw.1 (hk.D x) hw.2 170 4 at_DO rfl (vp_in_nI (n := 0) (by decide) (by decide)) hdg (fun H1 locs1 hP _ hS => kk H1 locs1 ⟨by rw [hx']; rw [show (0 : Int32).toNatClampNeg = 0 from by decide, os_D] at hP; exact hP, hS⟩)
end KL
theorem fp_dn32 (n : Nat) (h2 : n % 2 ^ 31 ≤ 2139095040) : FP.Core.decode FP.Core.b32 n ≠ .nan := by
  have ht : FP.Core.b32.tails = 8388608 := by decide
  have he : FP.Core.b32.exps = 256 := by decide
  unfold FP.Core.decode FP.Core.fieldE FP.Core.fieldT
  simp only [ht, he]
  by_cases h : n / 8388608 % 256 = 256 - 1
  · rw [if_pos h, if_pos (by omega)]
    exact fun z => nomatch z
  · rw [if_neg h]
    split <;> exact fun z => nomatch z
theorem fp_f2d {x : UInt32} (h : vf_n32 x) : vf_n64 (FP.f2d x) := by
  unfold vf_n32 at h
  rw [UInt32.le_iff_toNat_le, UInt32.toNat_and] at h
  have e : (0x7fffffff : UInt32).toNat = 2 ^ 31 - 1 := by decide
  rw [e, Nat.and_two_pow_sub_one_eq_mod] at h
  have h1 := fp_dn32 x.toNat h
  have hf : FP.Core.fIsNaN x = false := by
    unfold FP.Core.fIsNaN FP.Core.isNaN
    exact decide_eq_false h1
  have e9 : FP.f2d x = FP.Core.f2d x := by
    unfold FP.f2d
    rw [if_neg (by rw [hf]; decide)]
  rw [e9]
  show vf_n64 (UInt64.ofNat (FP.Core.encode FP.Core.b64 (FP.Core.round FP.Core.b64 (FP.Core.decode FP.Core.b32 x.toNat))))
  generalize FP.Core.decode FP.Core.b32 x.toNat = d at h1
  cases d with
  | nan => exact absurd rfl h1
  | inf s => exact fp_vn64 _ (fp_inf64 s).1 (fp_inf64 s).2
  | fin s c q =>
    show vf_n64 (UInt64.ofNat (FP.Core.encode FP.Core.b64 (FP.Core.roundRatio FP.Core.b64 s c 1 q)))
    rcases fp_rr FP.Core.b64 s c 1 q (by decide) (by decide) (by decide) with z | ⟨c9, q9, z, z1, z2⟩
    · rw [z]; exact fp_vn64 _ (fp_inf64 _).1 (fp_inf64 _).2
    · rw [z]; obtain ⟨k1, k2, -⟩ := fp_de64 s c9 q9 z1 z2; exact fp_vn64 _ k1 k2
theorem f2d_heededShare {a1 : Int32} {B : BT} (h : e_X6_heededShare a1 B = none) : vf_n64 (FP.f2d (f_X6_heededShare a1 B)) := by
  unfold e_X6_heededShare at h
  unfold f_X6_heededShare
  refine fp_f2d ?_
  by_cases h1 : e_X6_requireOffice a1 B = none
  · simp only [if_pos h1] at h ⊢
    by_cases h2 : B (4 + a1.toNatClampNeg) 2 = 0
    · rw [if_pos h2] at h; exact absurd h (Option.some_ne_none _)
    · rw [if_neg h2]; exact fp_fdiv h2
  · rw [if_neg h1] at h; exact absurd h h1
theorem ex_X6_requireRange {a1 : Int32} {a2 : Int32} {a3 : Int32} : eIn ["java/lang/IllegalArgumentException"] (e_X6_requireRange a1 a2 a3) := by
  unfold e_X6_requireRange
  repeat' (first | exact eIn_none | exact eIn_some (by decide +kernel) | apply eIn_ite)
theorem ex_X6_addOffice {a1 : Int32} {a2 : Int32} {B : BT} : eIn ["java/lang/IllegalStateException", "java/lang/IllegalArgumentException"] (e_X6_addOffice a1 a2 B) := by
  unfold e_X6_addOffice
  repeat' (first | exact eIn_none | exact eIn_some (by decide +kernel) | exact eIn_mono ex_X6_requireRange (by decide +kernel) | apply eIn_ite)
theorem ex_X6_pass {a1 : Int32} {B : BT} : eIn ["java/lang/IllegalStateException", "java/lang/IllegalArgumentException"] (e_X6_pass a1 B) := by
  unfold e_X6_pass
  repeat' (first | exact eIn_none | exact eIn_some (by decide +kernel) | exact eIn_mono ex_X6_requireRange (by decide +kernel) | apply eIn_ite)
theorem ex_X6_requireOffice {a1 : Int32} {B : BT} : eIn ["java/lang/IndexOutOfBoundsException"] (e_X6_requireOffice a1 B) := by
  unfold e_X6_requireOffice
  repeat' (first | exact eIn_none | exact eIn_some (by decide +kernel) | apply eIn_ite)
theorem ex_X6_complain {a1 : Int32} {a2 : Int32} {a3 : Int32} {a4 : Int32} {B : BT} : eIn ["java/lang/IllegalStateException", "java/lang/IndexOutOfBoundsException", "java/lang/IllegalArgumentException"] (e_X6_complain a1 a2 a3 a4 B) := by
  unfold e_X6_complain
  repeat' (first | exact eIn_none | exact eIn_some (by decide +kernel) | exact eIn_mono ex_X6_requireOffice (by decide +kernel) | exact eIn_mono ex_X6_requireRange (by decide +kernel) | apply eIn_ite)
theorem ex_X6_known {a1 : Int32} {B : BT} : eIn ["java/lang/IndexOutOfBoundsException"] (e_X6_known a1 B) := by
  unfold e_X6_known
  repeat' (first | exact eIn_none | exact eIn_some (by decide +kernel) | apply eIn_ite)
theorem ex_X6_requireAtIntake {i1 : Nat} {B : BT} : eIn ["java/lang/UnsupportedOperationException"] (e_X6_requireAtIntake i1 B) := by
  unfold e_X6_requireAtIntake
  repeat' (first | exact eIn_none | exact eIn_some (by decide +kernel) | apply eIn_ite)
theorem ex_X6_setCourt {a1 : Int32} {a2 : Int32} {B : BT} : eIn ["java/lang/IndexOutOfBoundsException", "java/lang/UnsupportedOperationException"] (e_X6_setCourt a1 a2 B) := by
  unfold e_X6_setCourt
  repeat' (first | exact eIn_none | exact eIn_some (by decide +kernel) | exact eIn_mono ex_X6_known (by decide +kernel) | exact eIn_mono ex_X6_requireAtIntake (by decide +kernel) | apply eIn_ite)
theorem ex_X6_excuse {a1 : Int32} {B : BT} : eIn ["java/lang/IndexOutOfBoundsException", "java/lang/UnsupportedOperationException"] (e_X6_excuse a1 B) := by
  unfold e_X6_excuse
  repeat' (first | exact eIn_none | exact eIn_some (by decide +kernel) | exact eIn_mono ex_X6_known (by decide +kernel) | exact eIn_mono ex_X6_requireAtIntake (by decide +kernel) | apply eIn_ite)
theorem ex_X6_takeStep {a1 : Int32} {B : BT} : eIn ["java/lang/UnsupportedOperationException", "java/lang/IndexOutOfBoundsException"] (e_X6_takeStep a1 B) := by
  unfold e_X6_takeStep
  repeat' (first | exact eIn_none | exact eIn_some (by decide +kernel) | exact eIn_mono ex_X6_known (by decide +kernel) | exact eIn_mono ex_X6_requireAtIntake (by decide +kernel) | apply eIn_ite)
theorem ex_X6_examine {a1 : Int32} {B : BT} : eIn ["java/lang/IndexOutOfBoundsException", "java/lang/UnsupportedOperationException"] (e_X6_examine a1 B) := by
  unfold e_X6_examine
  repeat' (first | exact eIn_none | exact eIn_some (by decide +kernel) | exact eIn_mono ex_X6_known (by decide +kernel) | exact eIn_mono ex_X6_requireAtIntake (by decide +kernel) | apply eIn_ite)
theorem ex_X6_state {a1 : Int32} {B : BT} : eIn ["java/lang/IndexOutOfBoundsException"] (e_X6_state a1 B) := by
  unfold e_X6_state
  repeat' (first | exact eIn_none | exact eIn_some (by decide +kernel) | exact eIn_mono ex_X6_known (by decide +kernel) | apply eIn_ite)
theorem ex_X6_countState {a1 : Int32} {B : BT} : eIn ["java/lang/IllegalArgumentException"] (e_X6_countState a1 B) := by
  unfold e_X6_countState
  repeat' (first | exact eIn_none | exact eIn_some (by decide +kernel) | apply eIn_ite)
theorem ex_X6_countOf {a1 : Int32} {B : BT} : eIn ["java/lang/IllegalArgumentException"] (e_X6_countOf a1 B) := by
  unfold e_X6_countOf
  repeat' (first | exact eIn_none | exact eIn_some (by decide +kernel) | exact eIn_mono ex_X6_requireRange (by decide +kernel) | apply eIn_ite)
theorem ex_X6_requireOwn {i1 : Nat} {a2 : Int32} {B : BT} : eIn ["java/lang/UnsupportedOperationException"] (e_X6_requireOwn i1 a2 B) := by
  unfold e_X6_requireOwn
  repeat' (first | exact eIn_none | exact eIn_some (by decide +kernel) | apply eIn_ite)
theorem ex_X6_ask {a1 : Int32} {B : BT} : eIn ["java/lang/IndexOutOfBoundsException", "java/lang/UnsupportedOperationException"] (e_X6_ask a1 B) := by
  unfold e_X6_ask
  repeat' (first | exact eIn_none | exact eIn_some (by decide +kernel) | exact eIn_mono ex_X6_known (by decide +kernel) | exact eIn_mono ex_X6_requireOwn (by decide +kernel) | apply eIn_ite)
theorem ex_X6_extend {a1 : Int32} {a2 : Int32} {B : BT} : eIn ["java/lang/UnsupportedOperationException", "java/lang/IndexOutOfBoundsException", "java/lang/IllegalArgumentException"] (e_X6_extend a1 a2 B) := by
  unfold e_X6_extend
  repeat' (first | exact eIn_none | exact eIn_some (by decide +kernel) | exact eIn_mono ex_X6_known (by decide +kernel) | exact eIn_mono ex_X6_requireRange (by decide +kernel) | exact eIn_mono ex_X6_requireOwn (by decide +kernel) | apply eIn_ite)
theorem ex_X6_remind {a1 : Int32} {B : BT} : eIn ["java/lang/UnsupportedOperationException", "java/lang/IndexOutOfBoundsException"] (e_X6_remind a1 B) := by
  unfold e_X6_remind
  repeat' (first | exact eIn_none | exact eIn_some (by decide +kernel) | exact eIn_mono ex_X6_known (by decide +kernel) | exact eIn_mono ex_X6_requireOwn (by decide +kernel) | apply eIn_ite)
theorem ex_X6_answer {a1 : Int32} {B : BT} : eIn ["java/lang/IndexOutOfBoundsException", "java/lang/UnsupportedOperationException"] (e_X6_answer a1 B) := by
  unfold e_X6_answer
  repeat' (first | exact eIn_none | exact eIn_some (by decide +kernel) | exact eIn_mono ex_X6_known (by decide +kernel) | exact eIn_mono ex_X6_requireOwn (by decide +kernel) | apply eIn_ite)
theorem ex_X6_takeSilence {a1 : Int32} {B : BT} : eIn ["java/lang/UnsupportedOperationException", "java/lang/IndexOutOfBoundsException"] (e_X6_takeSilence a1 B) := by
  unfold e_X6_takeSilence
  repeat' (first | exact eIn_none | exact eIn_some (by decide +kernel) | exact eIn_mono ex_X6_known (by decide +kernel) | exact eIn_mono ex_X6_requireOwn (by decide +kernel) | apply eIn_ite)
theorem ex_X6_isOverdue {a1 : Int32} {B : BT} : eIn ["java/lang/IndexOutOfBoundsException"] (e_X6_isOverdue a1 B) := by
  unfold e_X6_isOverdue
  repeat' (first | exact eIn_none | exact eIn_some (by decide +kernel) | exact eIn_mono ex_X6_known (by decide +kernel) | apply eIn_ite)
theorem ex_X6_nextDue  {B : BT} : eIn ["java/util/NoSuchElementException"] (e_X6_nextDue B) := by
  unfold e_X6_nextDue
  repeat' (first | exact eIn_none | exact eIn_some (by decide +kernel) | apply eIn_ite)
theorem ex_X6_join {a1 : Int32} {a2 : Int32} {B : BT} : eIn ["java/lang/IllegalArgumentException", "java/lang/UnsupportedOperationException", "java/lang/IndexOutOfBoundsException"] (e_X6_join a1 a2 B) := by
  unfold e_X6_join
  repeat' (first | exact eIn_none | exact eIn_some (by decide +kernel) | exact eIn_mono ex_X6_known (by decide +kernel) | apply eIn_ite)
theorem ex_X6_part {a1 : Int32} {B : BT} : eIn ["java/lang/UnsupportedOperationException", "java/lang/IndexOutOfBoundsException"] (e_X6_part a1 B) := by
  unfold e_X6_part
  repeat' (first | exact eIn_none | exact eIn_some (by decide +kernel) | exact eIn_mono ex_X6_known (by decide +kernel) | apply eIn_ite)
theorem ex_X6_lead {a1 : Int32} {B : BT} : eIn ["java/lang/IndexOutOfBoundsException"] (e_X6_lead a1 B) := by
  unfold e_X6_lead
  repeat' (first | exact eIn_none | exact eIn_some (by decide +kernel) | exact eIn_mono ex_X6_known (by decide +kernel) | apply eIn_ite)
theorem ex_X6_countJoined {a1 : Int32} {B : BT} : eIn ["java/lang/IndexOutOfBoundsException"] (e_X6_countJoined a1 B) := by
  unfold e_X6_countJoined
  repeat' (first | exact eIn_none | exact eIn_some (by decide +kernel) | exact eIn_mono ex_X6_known (by decide +kernel) | apply eIn_ite)
theorem ex_X6_setWeight {a1 : Int32} {a2 : Int32} {B : BT} : eIn ["java/lang/IllegalArgumentException"] (e_X6_setWeight a1 a2 B) := by
  unfold e_X6_setWeight
  repeat' (first | exact eIn_none | exact eIn_some (by decide +kernel) | exact eIn_mono ex_X6_requireRange (by decide +kernel) | apply eIn_ite)
theorem ex_X6_find {a1 : Int32} {a2 : Int32} {B : BT} : eIn ["java/lang/IndexOutOfBoundsException", "java/lang/IllegalArgumentException", "java/lang/UnsupportedOperationException"] (e_X6_find a1 a2 B) := by
  unfold e_X6_find
  repeat' (first | exact eIn_none | exact eIn_some (by decide +kernel) | exact eIn_mono ex_X6_known (by decide +kernel) | exact eIn_mono ex_X6_requireRange (by decide +kernel) | exact eIn_mono ex_X6_requireOwn (by decide +kernel) | apply eIn_ite)
theorem ex_X6_heads {a1 : Int32} {B : BT} : eIn ["java/util/NoSuchElementException", "java/lang/IndexOutOfBoundsException"] (e_X6_heads a1 B) := by
  unfold e_X6_heads
  repeat' (first | exact eIn_none | exact eIn_some (by decide +kernel) | exact eIn_mono ex_X6_known (by decide +kernel) | apply eIn_ite)
theorem ex_X6_remedy {a1 : Int32} {B : BT} : eIn ["java/util/NoSuchElementException", "java/lang/IndexOutOfBoundsException"] (e_X6_remedy a1 B) := by
  unfold e_X6_remedy
  repeat' (first | exact eIn_none | exact eIn_some (by decide +kernel) | exact eIn_mono ex_X6_known (by decide +kernel) | apply eIn_ite)
theorem ex_X6_accept {a1 : Int32} {a2 : Int32} {B : BT} : eIn ["java/lang/UnsupportedOperationException", "java/lang/IndexOutOfBoundsException"] (e_X6_accept a1 a2 B) := by
  unfold e_X6_accept
  repeat' (first | exact eIn_none | exact eIn_some (by decide +kernel) | exact eIn_mono ex_X6_known (by decide +kernel) | exact eIn_mono ex_X6_requireOwn (by decide +kernel) | apply eIn_ite)
theorem ex_X6_isAccepted {a1 : Int32} {B : BT} : eIn ["java/util/NoSuchElementException", "java/lang/IndexOutOfBoundsException"] (e_X6_isAccepted a1 B) := by
  unfold e_X6_isAccepted
  repeat' (first | exact eIn_none | exact eIn_some (by decide +kernel) | exact eIn_mono ex_X6_known (by decide +kernel) | apply eIn_ite)
theorem ex_X6_heed {a1 : Int32} {B : BT} : eIn ["java/lang/UnsupportedOperationException", "java/lang/IndexOutOfBoundsException"] (e_X6_heed a1 B) := by
  unfold e_X6_heed
  repeat' (first | exact eIn_none | exact eIn_some (by decide +kernel) | exact eIn_mono ex_X6_known (by decide +kernel) | exact eIn_mono ex_X6_requireOwn (by decide +kernel) | apply eIn_ite)
theorem ex_X6_followUp {a1 : Int32} {B : BT} : eIn ["java/lang/UnsupportedOperationException", "java/lang/IndexOutOfBoundsException"] (e_X6_followUp a1 B) := by
  unfold e_X6_followUp
  repeat' (first | exact eIn_none | exact eIn_some (by decide +kernel) | exact eIn_mono ex_X6_known (by decide +kernel) | exact eIn_mono ex_X6_requireOwn (by decide +kernel) | apply eIn_ite)
theorem ex_X6_withdraw {a1 : Int32} {B : BT} : eIn ["java/lang/UnsupportedOperationException", "java/lang/IndexOutOfBoundsException"] (e_X6_withdraw a1 B) := by
  unfold e_X6_withdraw
  repeat' (first | exact eIn_none | exact eIn_some (by decide +kernel) | exact eIn_mono ex_X6_known (by decide +kernel) | apply eIn_ite)
theorem ex_X6_days {a1 : Int32} {B : BT} : eIn ["java/lang/IndexOutOfBoundsException"] (e_X6_days a1 B) := by
  unfold e_X6_days
  repeat' (first | exact eIn_none | exact eIn_some (by decide +kernel) | exact eIn_mono ex_X6_known (by decide +kernel) | apply eIn_ite)
theorem ex_X6_heededShare {a1 : Int32} {B : BT} : eIn ["java/lang/ArithmeticException", "java/lang/IndexOutOfBoundsException"] (e_X6_heededShare a1 B) := by
  unfold e_X6_heededShare
  repeat' (first | exact eIn_none | exact eIn_some (by decide +kernel) | exact eIn_mono ex_X6_requireOffice (by decide +kernel) | apply eIn_ite)
theorem ex_X6_meanDays  {B : BT} : eIn ["java/lang/ArithmeticException"] (e_X6_meanDays B) := by
  unfold e_X6_meanDays
  repeat' (first | exact eIn_none | exact eIn_some (by decide +kernel) | apply eIn_ite)
set_option maxHeartbeats 4000000 in
set_option maxRecDepth 100000 in
theorem m_L_addOffice (l : Launch) (g : wG) (hfl : l.stackTraces = false) (S : Nat → BT) (B : BT) (y : (Nat → Nat → Int32) × (Nat → Int64) × (Nat → UInt64)) (a1 : Int32) (a2 : Int32) (n m9 : Nat) (hN : CN B n m9) (hev : ¬ S 2 0 1 < 0) : mW l yL_addOffice cL_addOffice 5 [(0, 10, 13, 13), (0, 10, 17, 15)] ({ frames := 11, cells := 3, slots := 18, locals := 254 } : Room) 3 18 g (xB S 0 B y) [.ref (gA g 0), .int a1, .int a2, .ref (gA g 169)] (kE (e_X6_addOffice a1 a2 B) ["java/lang/IllegalArgumentException", "java/lang/IllegalStateException"]) (if e_X6_addOffice a1 a2 B = none then (xB (f_X2_keep 1 a1 a2 0 0 S) 0 ((f_X6_addOffice a1 a2 B).2) (y.1, vp_updL y.2.1 0 (((f_X6_addOffice a1 a2 B).1).toInt64), y.2.2)) else (xB S 0 B y)) := by
  refine va_MetW (cc := cL_addOffice) (maxL := 5) (ret := some .int) (by decide) rfl ?_
  intro p9 e s m args below meth c s₁ BL hml hv
  obtain ⟨rfl, hk, hPB⟩ := hv
  have hx := BL.exec
  have hb := BL.bytes
  have hc : CX p9 c cL_addOffice s _ m RL := ⟨hx, hb, findClass_of_methodNamed BL.named, fun w h => atoms_spec BL.pre w (List.mem_cons_of_mem _ h)⟩
  have hTB : c.exceptionTable.toList = tableOf [(0, 10, 13, 13), (0, 10, 17, 15)] := vx_table (x := yL_addOffice) BL (atoms_spec (ws := wsH yL_addOffice cL_addOffice 5 (some .int) [(0, 10, 13, 13), (0, 10, 17, 15)]) BL.pre (Cond.codeWith yL_addOffice cL_addOffice 5 (some .int) [(0, 10, 13, 13), (0, 10, 17, 15)]) List.mem_cons_self)
  have hr := BL.returns
  have hlocks := BL.notSynchronized
  have hw : WS g s (xB S 0 B y) s.heap [] := ⟨hPB, va_S.rf⟩
  have hl := lv_entry ([.ref (gA g 0), .int a1, .int a2, .ref (gA g 169)]) (n := 5) (Nat.le_of_ble_eq_true rfl)
  rw [lg_entry_eq]
  generalize (lg_sl ([.ref (gA g 0), .int a1, .int a2, .ref (gA g 169)]) ++ List.replicate (5 - (lg_sl ([.ref (gA g 0), .int a1, .int a2, .ref (gA g 169)])).length) Slot.unset).toArray = ls at hl ⊢
  have hl : lv_has ls 5 [(0, .ref (gA g 0)), (1, .int a1), (2, .int a2), (3, .ref (gA g 169))] := hl
  refine lv_aload_n hx hb dL_addOffice_0 rfl (lv_at hl 3 rfl) ?_
  refine lv_iconst (v := 0) hx hb dL_addOffice_1 (by decide) ?_
  refine lv_aload_n hx hb dL_addOffice_2 rfl (lv_at hl 0 rfl) ?_
  refine lv_iload_n hx hb dL_addOffice_3 rfl (lv_at hl 1 rfl) ?_
  refine lv_iload_n hx hb dL_addOffice_4 rfl (lv_at hl 2 rfl) ?_
  refine kx_i hw (vx_runV (As := [.int a1, .int a2]) (rest := [.int 0, .ref (gA g 169)]) ⟨hx, hb, hml, hc.2.2.1, hc.2.2.2⟩ (m_X6_addOffice l g hfl S B y a1 a2 _ _ hN hev) (kw_V hc 2 q531 q532 q533 q1 q534 rfl rfl (by decide +kernel) ⟨Nat.le_of_ble_eq_true rfl, Nat.le_of_ble_eq_true rfl⟩) (kp_V hk hw at_G rfl) rfl rfl hl.1 rfl (lv_room (Nat.le_of_ble_eq_true rfl)) dL_addOffice_5 ⟨Nat.le_of_ble_eq_true rfl, Nat.le_of_ble_eq_true rfl⟩) (fun E ce q9 H locs h1 hw hq hv hE => ?_) (fun H locs h1 hw => ?_)
  · have hE9 := ex_X6_addOffice E h1
    simp only [List.mem_cons, List.not_mem_nil, or_false] at hE9
    rcases hE9 with rfl | rfl
    · refine vx_catch hc.2.2.1 [⟨0, 10, 13, 13⟩] ⟨0, 10, 17, 15⟩ [] hTB (List.forall_mem_cons.mpr ⟨Or.inr ⟨by decide, _, hc.2.2.2 _ q529, hk.2.2.2.2.2.2.2.1 ("java/lang/IllegalStateException", "java/lang/IllegalArgumentException") (by decide +kernel)⟩, fun _ hz => absurd hz List.not_mem_nil⟩) (by decide) (by decide) (hc.2.2.2 _ q530) (hk.2.1.use nq612) hq hv hE ?_
      refine lv_astore (lv' := [(4, .ref q9), (0, .ref (gA g 0)), (1, .int a1), (2, .int a2), (3, .ref (gA g 169))]) hx hb dL_addOffice_17 hl (by decide) rfl (fun ls hl => ?_)
      refine lv_iconst (v := 2) hx hb dL_addOffice_19 (by decide) ?_
      refine W.widen (k := 3) (n := 18) (Nat.le_of_ble_eq_true rfl) (Nat.le_of_ble_eq_true rfl) ?_
      exact W.iret (v := 2) hx hb hr (fun t9 ht hW => ke_i hw ht (by rw [h1]; decide +kernel) (if_neg (by rw [h1]; exact Option.some_ne_none _)).symm) hw.2.2.2 dL_addOffice_20
    · refine vx_catch hc.2.2.1 [] ⟨0, 10, 13, 13⟩ [⟨0, 10, 17, 15⟩] hTB (fun _ hz => absurd hz List.not_mem_nil) (by decide) (by decide) (hc.2.2.2 _ q529) (hk.2.1.use nq541) hq hv hE ?_
      refine lv_astore (lv' := [(4, .ref q9), (0, .ref (gA g 0)), (1, .int a1), (2, .int a2), (3, .ref (gA g 169))]) hx hb dL_addOffice_13 hl (by decide) rfl (fun ls hl => ?_)
      refine lv_iconst (v := 1) hx hb dL_addOffice_15 (by decide) ?_
      refine W.widen (k := 3) (n := 18) (Nat.le_of_ble_eq_true rfl) (Nat.le_of_ble_eq_true rfl) ?_
      exact W.iret (v := 1) hx hb hr (fun t9 ht hW => ke_i hw ht (by rw [h1]; decide +kernel) (if_neg (by rw [h1]; exact Option.some_ne_none _)).symm) hw.2.2.2 dL_addOffice_16
  · refine lv_i2l hx hb dL_addOffice_8 rfl ?_
    refine k_last hc hk hw (v := ((f_X6_addOffice a1 a2 B).1).toInt64) (x' := (xB (f_X2_keep 1 a1 a2 0 0 S) 0 ((f_X6_addOffice a1 a2 B).2) (y.1, vp_updL y.2.1 0 (((f_X6_addOffice a1 a2 B).1).toInt64), y.2.2))) rfl dL_addOffice_9 (fun H locs hw => ?_)
    refine lv_goto (tgt := 21) hx hb dL_addOffice_10 (by decide) ?_
    refine lv_iconst (v := 0) hx hb dL_addOffice_21 (by decide) ?_
    refine W.widen (k := 3) (n := 18) (Nat.le_of_ble_eq_true rfl) (Nat.le_of_ble_eq_true rfl) ?_
    exact W.iret (v := 0) hx hb hr (fun t9 ht hW => ke_i hw ht (by rw [h1]; rfl) (by simp only [if_pos h1])) hw.2.2.2 dL_addOffice_22
set_option maxHeartbeats 4000000 in
set_option maxRecDepth 100000 in
theorem m_L_pass (l : Launch) (g : wG) (hfl : l.stackTraces = false) (S : Nat → BT) (B : BT) (y : (Nat → Nat → Int32) × (Nat → Int64) × (Nat → UInt64)) (a1 : Int32) (n m9 : Nat) (hN : CN B n m9) (hev : ¬ S 2 0 1 < 0) : mW l yL_pass cL_pass 4 [(0, 9, 12, 13), (0, 9, 15, 15)] ({ frames := 11, cells := 2, slots := 12, locals := 253 } : Room) 2 12 g (xB S 0 B y) [.ref (gA g 0), .int a1, .ref (gA g 169)] (kE (e_X6_pass a1 B) ["java/lang/IllegalArgumentException", "java/lang/IllegalStateException"]) (if e_X6_pass a1 B = none then (xB (f_X2_keep 2 a1 0 0 0 S) 0 ((f_X6_pass a1 B).2) (y.1, vp_updL y.2.1 0 (((f_X6_pass a1 B).1).toInt64), y.2.2)) else (xB S 0 B y)) := by
  refine va_MetW (cc := cL_pass) (maxL := 4) (ret := some .int) (by decide) rfl ?_
  intro p9 e s m args below meth c s₁ BL hml hv
  obtain ⟨rfl, hk, hPB⟩ := hv
  have hx := BL.exec
  have hb := BL.bytes
  have hc : CX p9 c cL_pass s _ m RL := ⟨hx, hb, findClass_of_methodNamed BL.named, fun w h => atoms_spec BL.pre w (List.mem_cons_of_mem _ h)⟩
  have hTB : c.exceptionTable.toList = tableOf [(0, 9, 12, 13), (0, 9, 15, 15)] := vx_table (x := yL_pass) BL (atoms_spec (ws := wsH yL_pass cL_pass 4 (some .int) [(0, 9, 12, 13), (0, 9, 15, 15)]) BL.pre (Cond.codeWith yL_pass cL_pass 4 (some .int) [(0, 9, 12, 13), (0, 9, 15, 15)]) List.mem_cons_self)
  have hr := BL.returns
  have hlocks := BL.notSynchronized
  have hw : WS g s (xB S 0 B y) s.heap [] := ⟨hPB, va_S.rf⟩
  have hl := lv_entry ([.ref (gA g 0), .int a1, .ref (gA g 169)]) (n := 4) (Nat.le_of_ble_eq_true rfl)
  rw [lg_entry_eq]
  generalize (lg_sl ([.ref (gA g 0), .int a1, .ref (gA g 169)]) ++ List.replicate (4 - (lg_sl ([.ref (gA g 0), .int a1, .ref (gA g 169)])).length) Slot.unset).toArray = ls at hl ⊢
  have hl : lv_has ls 4 [(0, .ref (gA g 0)), (1, .int a1), (2, .ref (gA g 169))] := hl
  refine lv_aload_n hx hb dL_pass_0 rfl (lv_at hl 2 rfl) ?_
  refine lv_iconst (v := 0) hx hb dL_pass_1 (by decide) ?_
  refine lv_aload_n hx hb dL_pass_2 rfl (lv_at hl 0 rfl) ?_
  refine lv_iload_n hx hb dL_pass_3 rfl (lv_at hl 1 rfl) ?_
  refine kx_i hw (vx_runV (As := [.int a1]) (rest := [.int 0, .ref (gA g 169)]) ⟨hx, hb, hml, hc.2.2.1, hc.2.2.2⟩ (m_X6_pass l g hfl S B y a1 _ _ hN hev) (kw_V hc 1 q638 q639 q640 q1 q641 rfl rfl (by decide +kernel) ⟨Nat.le_of_ble_eq_true rfl, Nat.le_of_ble_eq_true rfl⟩) (kp_V hk hw at_G rfl) rfl rfl hl.1 rfl (lv_room (Nat.le_of_ble_eq_true rfl)) dL_pass_4 ⟨Nat.le_of_ble_eq_true rfl, Nat.le_of_ble_eq_true rfl⟩) (fun E ce q9 H locs h1 hw hq hv hE => ?_) (fun H locs h1 hw => ?_)
  · have hE9 := ex_X6_pass E h1
    simp only [List.mem_cons, List.not_mem_nil, or_false] at hE9
    rcases hE9 with rfl | rfl
    · refine vx_catch hc.2.2.1 [⟨0, 9, 12, 13⟩] ⟨0, 9, 15, 15⟩ [] hTB (List.forall_mem_cons.mpr ⟨Or.inr ⟨by decide, _, hc.2.2.2 _ q529, hk.2.2.2.2.2.2.2.1 ("java/lang/IllegalStateException", "java/lang/IllegalArgumentException") (by decide +kernel)⟩, fun _ hz => absurd hz List.not_mem_nil⟩) (by decide) (by decide) (hc.2.2.2 _ q530) (hk.2.1.use nq612) hq hv hE ?_
      refine lv_astore_n (lv' := [(3, .ref q9), (0, .ref (gA g 0)), (1, .int a1), (2, .ref (gA g 169))]) hx hb dL_pass_15 rfl hl (by decide) rfl (fun ls hl => ?_)
      refine lv_iconst (v := 2) hx hb dL_pass_16 (by decide) ?_
      refine W.widen (k := 2) (n := 12) (Nat.le_of_ble_eq_true rfl) (Nat.le_of_ble_eq_true rfl) ?_
      exact W.iret (v := 2) hx hb hr (fun t9 ht hW => ke_i hw ht (by rw [h1]; decide +kernel) (if_neg (by rw [h1]; exact Option.some_ne_none _)).symm) hw.2.2.2 dL_pass_17
    · refine vx_catch hc.2.2.1 [] ⟨0, 9, 12, 13⟩ [⟨0, 9, 15, 15⟩] hTB (fun _ hz => absurd hz List.not_mem_nil) (by decide) (by decide) (hc.2.2.2 _ q529) (hk.2.1.use nq541) hq hv hE ?_
      refine lv_astore_n (lv' := [(3, .ref q9), (0, .ref (gA g 0)), (1, .int a1), (2, .ref (gA g 169))]) hx hb dL_pass_12 rfl hl (by decide) rfl (fun ls hl => ?_)
      refine lv_iconst (v := 1) hx hb dL_pass_13 (by decide) ?_
      refine W.widen (k := 2) (n := 12) (Nat.le_of_ble_eq_true rfl) (Nat.le_of_ble_eq_true rfl) ?_
      exact W.iret (v := 1) hx hb hr (fun t9 ht hW => ke_i hw ht (by rw [h1]; decide +kernel) (if_neg (by rw [h1]; exact Option.some_ne_none _)).symm) hw.2.2.2 dL_pass_14
  · refine lv_i2l hx hb dL_pass_7 rfl ?_
    refine k_last hc hk hw (v := ((f_X6_pass a1 B).1).toInt64) (x' := (xB (f_X2_keep 2 a1 0 0 0 S) 0 ((f_X6_pass a1 B).2) (y.1, vp_updL y.2.1 0 (((f_X6_pass a1 B).1).toInt64), y.2.2))) rfl dL_pass_8 (fun H locs hw => ?_)
    refine lv_goto (tgt := 18) hx hb dL_pass_9 (by decide) ?_
    refine lv_iconst (v := 0) hx hb dL_pass_18 (by decide) ?_
    refine W.widen (k := 2) (n := 12) (Nat.le_of_ble_eq_true rfl) (Nat.le_of_ble_eq_true rfl) ?_
    exact W.iret (v := 0) hx hb hr (fun t9 ht hW => ke_i hw ht (by rw [h1]; rfl) (by simp only [if_pos h1])) hw.2.2.2 dL_pass_19
set_option maxHeartbeats 4000000 in
set_option maxRecDepth 100000 in
theorem m_L_complain (l : Launch) (g : wG) (hfl : l.stackTraces = false) (S : Nat → BT) (B : BT) (y : (Nat → Nat → Int32) × (Nat → Int64) × (Nat → UInt64)) (a1 : Int32) (a2 : Int32) (a3 : Int32) (a4 : Int32) (n m9 : Nat) (hN : CN B n m9) (hev : ¬ S 2 0 1 < 0) : mW l yL_complain cL_complain 7 [(0, 14, 17, 25), (0, 14, 21, 13), (0, 14, 25, 15)] ({ frames := 10, cells := 5, slots := 30, locals := 233 } : Room) 5 30 g (xB S 0 B y) [.ref (gA g 0), .int a1, .int a2, .int a3, .int a4, .ref (gA g 169)] (kE (e_X6_complain a1 a2 a3 a4 B) ["java/lang/IndexOutOfBoundsException", "java/lang/IllegalArgumentException", "java/lang/IllegalStateException"]) (if e_X6_complain a1 a2 a3 a4 B = none then (xB (f_X2_keep 4 a1 a2 a3 a4 S) 0 ((f_X6_complain a1 a2 a3 a4 B).2) (y.1, vp_updL y.2.1 0 (((f_X6_complain a1 a2 a3 a4 B).1).toInt64), y.2.2)) else (xB S 0 B y)) := by
  refine va_MetW (cc := cL_complain) (maxL := 7) (ret := some .int) (by decide) rfl ?_
  intro p9 e s m args below meth c s₁ BL hml hv
  obtain ⟨rfl, hk, hPB⟩ := hv
  have hx := BL.exec
  have hb := BL.bytes
  have hc : CX p9 c cL_complain s _ m RL := ⟨hx, hb, findClass_of_methodNamed BL.named, fun w h => atoms_spec BL.pre w (List.mem_cons_of_mem _ h)⟩
  have hTB : c.exceptionTable.toList = tableOf [(0, 14, 17, 25), (0, 14, 21, 13), (0, 14, 25, 15)] := vx_table (x := yL_complain) BL (atoms_spec (ws := wsH yL_complain cL_complain 7 (some .int) [(0, 14, 17, 25), (0, 14, 21, 13), (0, 14, 25, 15)]) BL.pre (Cond.codeWith yL_complain cL_complain 7 (some .int) [(0, 14, 17, 25), (0, 14, 21, 13), (0, 14, 25, 15)]) List.mem_cons_self)
  have hr := BL.returns
  have hlocks := BL.notSynchronized
  have hw : WS g s (xB S 0 B y) s.heap [] := ⟨hPB, va_S.rf⟩
  have hl := lv_entry ([.ref (gA g 0), .int a1, .int a2, .int a3, .int a4, .ref (gA g 169)]) (n := 7) (Nat.le_of_ble_eq_true rfl)
  rw [lg_entry_eq]
  generalize (lg_sl ([.ref (gA g 0), .int a1, .int a2, .int a3, .int a4, .ref (gA g 169)]) ++ List.replicate (7 - (lg_sl ([.ref (gA g 0), .int a1, .int a2, .int a3, .int a4, .ref (gA g 169)])).length) Slot.unset).toArray = ls at hl ⊢
  have hl : lv_has ls 7 [(0, .ref (gA g 0)), (1, .int a1), (2, .int a2), (3, .int a3), (4, .int a4), (5, .ref (gA g 169))] := hl
  refine lv_aload hx hb dL_complain_0 (lv_at hl 5 rfl) ?_
  refine lv_iconst (v := 0) hx hb dL_complain_2 (by decide) ?_
  refine lv_aload_n hx hb dL_complain_3 rfl (lv_at hl 0 rfl) ?_
  refine lv_iload_n hx hb dL_complain_4 rfl (lv_at hl 1 rfl) ?_
  refine lv_iload_n hx hb dL_complain_5 rfl (lv_at hl 2 rfl) ?_
  refine lv_iload_n hx hb dL_complain_6 rfl (lv_at hl 3 rfl) ?_
  refine lv_iload hx hb dL_complain_7 (lv_at hl 4 rfl) ?_
  refine kx_i hw (vx_runV (As := [.int a1, .int a2, .int a3, .int a4]) (rest := [.int 0, .ref (gA g 169)]) ⟨hx, hb, hml, hc.2.2.1, hc.2.2.2⟩ (m_X6_complain l g hfl S B y a1 a2 a3 a4 _ _ hN hev) (kw_V hc 4 q670 q671 q672 q1 q673 rfl rfl (by decide +kernel) ⟨Nat.le_of_ble_eq_true rfl, Nat.le_of_ble_eq_true rfl⟩) (kp_V hk hw at_G rfl) rfl rfl hl.1 rfl (lv_room (Nat.le_of_ble_eq_true rfl)) dL_complain_9 ⟨Nat.le_of_ble_eq_true rfl, Nat.le_of_ble_eq_true rfl⟩) (fun E ce q9 H locs h1 hw hq hv hE => ?_) (fun H locs h1 hw => ?_)
  · have hE9 := ex_X6_complain E h1
    simp only [List.mem_cons, List.not_mem_nil, or_false] at hE9
    rcases hE9 with rfl | rfl | rfl
    · refine vx_catch hc.2.2.1 [⟨0, 14, 17, 25⟩, ⟨0, 14, 21, 13⟩] ⟨0, 14, 25, 15⟩ [] hTB (List.forall_mem_cons.mpr ⟨Or.inr ⟨by decide, _, hc.2.2.2 _ q646, hk.2.2.2.2.2.2.2.1 ("java/lang/IllegalStateException", "java/lang/IndexOutOfBoundsException") (by decide +kernel)⟩, List.forall_mem_cons.mpr ⟨Or.inr ⟨by decide, _, hc.2.2.2 _ q529, hk.2.2.2.2.2.2.2.1 ("java/lang/IllegalStateException", "java/lang/IllegalArgumentException") (by decide +kernel)⟩, fun _ hz => absurd hz List.not_mem_nil⟩⟩) (by decide) (by decide) (hc.2.2.2 _ q530) (hk.2.1.use nq612) hq hv hE ?_
      refine lv_astore (lv' := [(6, .ref q9), (0, .ref (gA g 0)), (1, .int a1), (2, .int a2), (3, .int a3), (4, .int a4), (5, .ref (gA g 169))]) hx hb dL_complain_25 hl (by decide) rfl (fun ls hl => ?_)
      refine lv_iconst (v := 3) hx hb dL_complain_27 (by decide) ?_
      refine W.widen (k := 5) (n := 30) (Nat.le_of_ble_eq_true rfl) (Nat.le_of_ble_eq_true rfl) ?_
      exact W.iret (v := 3) hx hb hr (fun t9 ht hW => ke_i hw ht (by rw [h1]; decide +kernel) (if_neg (by rw [h1]; exact Option.some_ne_none _)).symm) hw.2.2.2 dL_complain_28
    · refine vx_catch hc.2.2.1 [] ⟨0, 14, 17, 25⟩ [⟨0, 14, 21, 13⟩, ⟨0, 14, 25, 15⟩] hTB (fun _ hz => absurd hz List.not_mem_nil) (by decide) (by decide) (hc.2.2.2 _ q646) (hk.2.1.use nq680) hq hv hE ?_
      refine lv_astore (lv' := [(6, .ref q9), (0, .ref (gA g 0)), (1, .int a1), (2, .int a2), (3, .int a3), (4, .int a4), (5, .ref (gA g 169))]) hx hb dL_complain_17 hl (by decide) rfl (fun ls hl => ?_)
      refine lv_iconst (v := 1) hx hb dL_complain_19 (by decide) ?_
      refine W.widen (k := 5) (n := 30) (Nat.le_of_ble_eq_true rfl) (Nat.le_of_ble_eq_true rfl) ?_
      exact W.iret (v := 1) hx hb hr (fun t9 ht hW => ke_i hw ht (by rw [h1]; decide +kernel) (if_neg (by rw [h1]; exact Option.some_ne_none _)).symm) hw.2.2.2 dL_complain_20
    · refine vx_catch hc.2.2.1 [⟨0, 14, 17, 25⟩] ⟨0, 14, 21, 13⟩ [⟨0, 14, 25, 15⟩] hTB (List.forall_mem_cons.mpr ⟨Or.inr ⟨by decide, _, hc.2.2.2 _ q646, hk.2.2.2.2.2.2.2.1 ("java/lang/IllegalArgumentException", "java/lang/IndexOutOfBoundsException") (by decide +kernel)⟩, fun _ hz => absurd hz List.not_mem_nil⟩) (by decide) (by decide) (hc.2.2.2 _ q529) (hk.2.1.use nq541) hq hv hE ?_
      refine lv_astore (lv' := [(6, .ref q9), (0, .ref (gA g 0)), (1, .int a1), (2, .int a2), (3, .int a3), (4, .int a4), (5, .ref (gA g 169))]) hx hb dL_complain_21 hl (by decide) rfl (fun ls hl => ?_)
      refine lv_iconst (v := 2) hx hb dL_complain_23 (by decide) ?_
      refine W.widen (k := 5) (n := 30) (Nat.le_of_ble_eq_true rfl) (Nat.le_of_ble_eq_true rfl) ?_
      exact W.iret (v := 2) hx hb hr (fun t9 ht hW => ke_i hw ht (by rw [h1]; decide +kernel) (if_neg (by rw [h1]; exact Option.some_ne_none _)).symm) hw.2.2.2 dL_complain_24
  · refine lv_i2l hx hb dL_complain_12 rfl ?_
    refine k_last hc hk hw (v := ((f_X6_complain a1 a2 a3 a4 B).1).toInt64) (x' := (xB (f_X2_keep 4 a1 a2 a3 a4 S) 0 ((f_X6_complain a1 a2 a3 a4 B).2) (y.1, vp_updL y.2.1 0 (((f_X6_complain a1 a2 a3 a4 B).1).toInt64), y.2.2))) rfl dL_complain_13 (fun H locs hw => ?_)
    refine lv_goto (tgt := 29) hx hb dL_complain_14 (by decide) ?_
    refine lv_iconst (v := 0) hx hb dL_complain_29 (by decide) ?_
    refine W.widen (k := 5) (n := 30) (Nat.le_of_ble_eq_true rfl) (Nat.le_of_ble_eq_true rfl) ?_
    exact W.iret (v := 0) hx hb hr (fun t9 ht hW => ke_i hw ht (by rw [h1]; rfl) (by simp only [if_pos h1])) hw.2.2.2 dL_complain_30
set_option maxHeartbeats 4000000 in
set_option maxRecDepth 100000 in
theorem m_L_setCourt (l : Launch) (g : wG) (hfl : l.stackTraces = false) (S : Nat → BT) (B : BT) (y : (Nat → Nat → Int32) × (Nat → Int64) × (Nat → UInt64)) (a1 : Int32) (a2 : Int32) (n m9 : Nat) (hN : CN B n m9) (hev : ¬ S 2 0 1 < 0) : mW l yL_setCourt cL_setCourt 5 [(0, 17, 20, 25), (0, 17, 24, 31)] ({ frames := 11, cells := 2, slots := 12, locals := 254 } : Room) 2 12 g (xB S 0 B y) [.ref (gA g 0), .int a1, .int a2, .ref (gA g 169)] (kE (e_X6_setCourt a1 a2 B) ["java/lang/IndexOutOfBoundsException", "java/lang/UnsupportedOperationException"]) (if e_X6_setCourt a1 a2 B = none then (xB (f_X2_keep 5 a1 (j_X6_setCourt_12 a2) 0 0 S) 0 ((f_X6_setCourt a1 a2 B).2) (y.1, vp_updL y.2.1 0 (if (f_X6_setCourt a1 a2 B).1 = 0 then 0 else 1), y.2.2)) else (xB S 0 B y)) := by
  refine va_MetW (cc := cL_setCourt) (maxL := 5) (ret := some .int) (by decide) rfl ?_
  intro p9 e s m args below meth c s₁ BL hml hv
  obtain ⟨rfl, hk, hPB⟩ := hv
  have hx := BL.exec
  have hb := BL.bytes
  have hc : CX p9 c cL_setCourt s _ m RL := ⟨hx, hb, findClass_of_methodNamed BL.named, fun w h => atoms_spec BL.pre w (List.mem_cons_of_mem _ h)⟩
  have hTB : c.exceptionTable.toList = tableOf [(0, 17, 20, 25), (0, 17, 24, 31)] := vx_table (x := yL_setCourt) BL (atoms_spec (ws := wsH yL_setCourt cL_setCourt 5 (some .int) [(0, 17, 20, 25), (0, 17, 24, 31)]) BL.pre (Cond.codeWith yL_setCourt cL_setCourt 5 (some .int) [(0, 17, 20, 25), (0, 17, 24, 31)]) List.mem_cons_self)
  have hr := BL.returns
  have hlocks := BL.notSynchronized
  have hw : WS g s (xB S 0 B y) s.heap [] := ⟨hPB, va_S.rf⟩
  have hl := lv_entry ([.ref (gA g 0), .int a1, .int a2, .ref (gA g 169)]) (n := 5) (Nat.le_of_ble_eq_true rfl)
  rw [lg_entry_eq]
  generalize (lg_sl ([.ref (gA g 0), .int a1, .int a2, .ref (gA g 169)]) ++ List.replicate (5 - (lg_sl ([.ref (gA g 0), .int a1, .int a2, .ref (gA g 169)])).length) Slot.unset).toArray = ls at hl ⊢
  have hl : lv_has ls 5 [(0, .ref (gA g 0)), (1, .int a1), (2, .int a2), (3, .ref (gA g 169))] := hl
  refine lv_aload_n hx hb dL_setCourt_0 rfl (lv_at hl 3 rfl) ?_
  refine lv_iconst (v := 0) hx hb dL_setCourt_1 (by decide) ?_
  refine lv_aload_n hx hb dL_setCourt_2 rfl (lv_at hl 0 rfl) ?_
  refine lv_iload_n hx hb dL_setCourt_3 rfl (lv_at hl 1 rfl) ?_
  refine lv_iload_n hx hb dL_setCourt_4 rfl (lv_at hl 2 rfl) ?_
  refine kx_i hw (vx_runV (As := [.int a1, .int a2]) (rest := [.int 0, .ref (gA g 169)]) ⟨hx, hb, hml, hc.2.2.1, hc.2.2.2⟩ (m_X6_setCourt l g hfl S B y a1 a2 _ _ hN hev) (kw_V hc 2 q696 q697 q698 q1 q699 rfl rfl (by decide +kernel) ⟨Nat.le_of_ble_eq_true rfl, Nat.le_of_ble_eq_true rfl⟩) (kp_V hk hw at_G rfl) rfl rfl hl.1 rfl (lv_room (Nat.le_of_ble_eq_true rfl)) dL_setCourt_5 ⟨Nat.le_of_ble_eq_true rfl, Nat.le_of_ble_eq_true rfl⟩) (fun E ce q9 H locs h1 hw hq hv hE => ?_) (fun H locs h1 hw => ?_)
  · have hE9 := ex_X6_setCourt E h1
    simp only [List.mem_cons, List.not_mem_nil, or_false] at hE9
    rcases hE9 with rfl | rfl
    · refine vx_catch hc.2.2.1 [] ⟨0, 17, 20, 25⟩ [⟨0, 17, 24, 31⟩] hTB (fun _ hz => absurd hz List.not_mem_nil) (by decide) (by decide) (hc.2.2.2 _ q646) (hk.2.1.use nq680) hq hv hE ?_
      refine lv_astore (lv' := [(4, .ref q9), (0, .ref (gA g 0)), (1, .int a1), (2, .int a2), (3, .ref (gA g 169))]) hx hb dL_setCourt_20 hl (by decide) rfl (fun ls hl => ?_)
      refine lv_iconst (v := 1) hx hb dL_setCourt_22 (by decide) ?_
      refine W.widen (k := 2) (n := 12) (Nat.le_of_ble_eq_true rfl) (Nat.le_of_ble_eq_true rfl) ?_
      exact W.iret (v := 1) hx hb hr (fun t9 ht hW => ke_i hw ht (by rw [h1]; decide +kernel) (if_neg (by rw [h1]; exact Option.some_ne_none _)).symm) hw.2.2.2 dL_setCourt_23
    · refine vx_catch hc.2.2.1 [⟨0, 17, 20, 25⟩] ⟨0, 17, 24, 31⟩ [] hTB (List.forall_mem_cons.mpr ⟨Or.inr ⟨by decide, _, hc.2.2.2 _ q646, hk.2.2.2.2.2.2.2.1 ("java/lang/UnsupportedOperationException", "java/lang/IndexOutOfBoundsException") (by decide +kernel)⟩, fun _ hz => absurd hz List.not_mem_nil⟩) (by decide) (by decide) (hc.2.2.2 _ q695) (hk.2.1.use nq711) hq hv hE ?_
      refine lv_astore (lv' := [(4, .ref q9), (0, .ref (gA g 0)), (1, .int a1), (2, .int a2), (3, .ref (gA g 169))]) hx hb dL_setCourt_24 hl (by decide) rfl (fun ls hl => ?_)
      refine lv_iconst (v := 2) hx hb dL_setCourt_26 (by decide) ?_
      refine W.widen (k := 2) (n := 12) (Nat.le_of_ble_eq_true rfl) (Nat.le_of_ble_eq_true rfl) ?_
      exact W.iret (v := 2) hx hb hr (fun t9 ht hW => ke_i hw ht (by rw [h1]; decide +kernel) (if_neg (by rw [h1]; exact Option.some_ne_none _)).symm) hw.2.2.2 dL_setCourt_27
  · refine lv_if_eq (tgt := 15) hx hb dL_setCourt_8 (by decide) (fun h3 => ?_) (fun h3 => ?_)
    · refine lv_lconst (v := 0) hx hb dL_setCourt_15 (by decide) ?_
      refine k_last hc hk hw (v := 0) (x' := (xB (f_X2_keep 5 a1 (j_X6_setCourt_12 a2) 0 0 S) 0 ((f_X6_setCourt a1 a2 B).2) (y.1, vp_updL y.2.1 0 0, y.2.2))) rfl dL_setCourt_16 (fun H locs hw => ?_)
      refine lv_goto (tgt := 28) hx hb dL_setCourt_17 (by decide) ?_
      refine lv_iconst (v := 0) hx hb dL_setCourt_28 (by decide) ?_
      refine W.widen (k := 2) (n := 12) (Nat.le_of_ble_eq_true rfl) (Nat.le_of_ble_eq_true rfl) ?_
      exact W.iret (v := 0) hx hb hr (fun t9 ht hW => ke_i hw ht (by rw [h1]; rfl) (by simp only [if_pos h1, if_pos h3])) hw.2.2.2 dL_setCourt_29
    · refine lv_lconst (v := 1) hx hb dL_setCourt_11 (by decide) ?_
      refine lv_goto (tgt := 16) hx hb dL_setCourt_12 (by decide) ?_
      refine k_last hc hk hw (v := 1) (x' := (xB (f_X2_keep 5 a1 (j_X6_setCourt_12 a2) 0 0 S) 0 ((f_X6_setCourt a1 a2 B).2) (y.1, vp_updL y.2.1 0 1, y.2.2))) rfl dL_setCourt_16 (fun H locs hw => ?_)
      refine lv_goto (tgt := 28) hx hb dL_setCourt_17 (by decide) ?_
      refine lv_iconst (v := 0) hx hb dL_setCourt_28 (by decide) ?_
      refine W.widen (k := 2) (n := 12) (Nat.le_of_ble_eq_true rfl) (Nat.le_of_ble_eq_true rfl) ?_
      exact W.iret (v := 0) hx hb hr (fun t9 ht hW => ke_i hw ht (by rw [h1]; rfl) (by simp only [if_pos h1, if_neg h3])) hw.2.2.2 dL_setCourt_29
set_option maxHeartbeats 4000000 in
set_option maxRecDepth 100000 in
theorem m_L_excuse (l : Launch) (g : wG) (hfl : l.stackTraces = false) (S : Nat → BT) (B : BT) (y : (Nat → Nat → Int32) × (Nat → Int64) × (Nat → UInt64)) (a1 : Int32) (n m9 : Nat) (hN : CN B n m9) (hev : ¬ S 2 0 1 < 0) : mW l yL_excuse cL_excuse 4 [(0, 16, 19, 25), (0, 16, 22, 31)] ({ frames := 11, cells := 2, slots := 12, locals := 253 } : Room) 2 12 g (xB S 0 B y) [.ref (gA g 0), .int a1, .ref (gA g 169)] (kE (e_X6_excuse a1 B) ["java/lang/IndexOutOfBoundsException", "java/lang/UnsupportedOperationException"]) (if e_X6_excuse a1 B = none then (xB (f_X2_keep 6 a1 0 0 0 S) 0 ((f_X6_excuse a1 B).2) (y.1, vp_updL y.2.1 0 (if (f_X6_excuse a1 B).1 = 0 then 0 else 1), y.2.2)) else (xB S 0 B y)) := by
  refine va_MetW (cc := cL_excuse) (maxL := 4) (ret := some .int) (by decide) rfl ?_
  intro p9 e s m args below meth c s₁ BL hml hv
  obtain ⟨rfl, hk, hPB⟩ := hv
  have hx := BL.exec
  have hb := BL.bytes
  have hc : CX p9 c cL_excuse s _ m RL := ⟨hx, hb, findClass_of_methodNamed BL.named, fun w h => atoms_spec BL.pre w (List.mem_cons_of_mem _ h)⟩
  have hTB : c.exceptionTable.toList = tableOf [(0, 16, 19, 25), (0, 16, 22, 31)] := vx_table (x := yL_excuse) BL (atoms_spec (ws := wsH yL_excuse cL_excuse 4 (some .int) [(0, 16, 19, 25), (0, 16, 22, 31)]) BL.pre (Cond.codeWith yL_excuse cL_excuse 4 (some .int) [(0, 16, 19, 25), (0, 16, 22, 31)]) List.mem_cons_self)
  have hr := BL.returns
  have hlocks := BL.notSynchronized
  have hw : WS g s (xB S 0 B y) s.heap [] := ⟨hPB, va_S.rf⟩
  have hl := lv_entry ([.ref (gA g 0), .int a1, .ref (gA g 169)]) (n := 4) (Nat.le_of_ble_eq_true rfl)
  rw [lg_entry_eq]
  generalize (lg_sl ([.ref (gA g 0), .int a1, .ref (gA g 169)]) ++ List.replicate (4 - (lg_sl ([.ref (gA g 0), .int a1, .ref (gA g 169)])).length) Slot.unset).toArray = ls at hl ⊢
  have hl : lv_has ls 4 [(0, .ref (gA g 0)), (1, .int a1), (2, .ref (gA g 169))] := hl
  refine lv_aload_n hx hb dL_excuse_0 rfl (lv_at hl 2 rfl) ?_
  refine lv_iconst (v := 0) hx hb dL_excuse_1 (by decide) ?_
  refine lv_aload_n hx hb dL_excuse_2 rfl (lv_at hl 0 rfl) ?_
  refine lv_iload_n hx hb dL_excuse_3 rfl (lv_at hl 1 rfl) ?_
  refine kx_i hw (vx_runV (As := [.int a1]) (rest := [.int 0, .ref (gA g 169)]) ⟨hx, hb, hml, hc.2.2.1, hc.2.2.2⟩ (m_X6_excuse l g hfl S B y a1 _ _ hN hev) (kw_V hc 1 q728 q729 q730 q1 q731 rfl rfl (by decide +kernel) ⟨Nat.le_of_ble_eq_true rfl, Nat.le_of_ble_eq_true rfl⟩) (kp_V hk hw at_G rfl) rfl rfl hl.1 rfl (lv_room (Nat.le_of_ble_eq_true rfl)) dL_excuse_4 ⟨Nat.le_of_ble_eq_true rfl, Nat.le_of_ble_eq_true rfl⟩) (fun E ce q9 H locs h1 hw hq hv hE => ?_) (fun H locs h1 hw => ?_)
  · have hE9 := ex_X6_excuse E h1
    simp only [List.mem_cons, List.not_mem_nil, or_false] at hE9
    rcases hE9 with rfl | rfl
    · refine vx_catch hc.2.2.1 [] ⟨0, 16, 19, 25⟩ [⟨0, 16, 22, 31⟩] hTB (fun _ hz => absurd hz List.not_mem_nil) (by decide) (by decide) (hc.2.2.2 _ q646) (hk.2.1.use nq680) hq hv hE ?_
      refine lv_astore_n (lv' := [(3, .ref q9), (0, .ref (gA g 0)), (1, .int a1), (2, .ref (gA g 169))]) hx hb dL_excuse_19 rfl hl (by decide) rfl (fun ls hl => ?_)
      refine lv_iconst (v := 1) hx hb dL_excuse_20 (by decide) ?_
      refine W.widen (k := 2) (n := 12) (Nat.le_of_ble_eq_true rfl) (Nat.le_of_ble_eq_true rfl) ?_
      exact W.iret (v := 1) hx hb hr (fun t9 ht hW => ke_i hw ht (by rw [h1]; decide +kernel) (if_neg (by rw [h1]; exact Option.some_ne_none _)).symm) hw.2.2.2 dL_excuse_21
    · refine vx_catch hc.2.2.1 [⟨0, 16, 19, 25⟩] ⟨0, 16, 22, 31⟩ [] hTB (List.forall_mem_cons.mpr ⟨Or.inr ⟨by decide, _, hc.2.2.2 _ q646, hk.2.2.2.2.2.2.2.1 ("java/lang/UnsupportedOperationException", "java/lang/IndexOutOfBoundsException") (by decide +kernel)⟩, fun _ hz => absurd hz List.not_mem_nil⟩) (by decide) (by decide) (hc.2.2.2 _ q695) (hk.2.1.use nq711) hq hv hE ?_
      refine lv_astore_n (lv' := [(3, .ref q9), (0, .ref (gA g 0)), (1, .int a1), (2, .ref (gA g 169))]) hx hb dL_excuse_22 rfl hl (by decide) rfl (fun ls hl => ?_)
      refine lv_iconst (v := 2) hx hb dL_excuse_23 (by decide) ?_
      refine W.widen (k := 2) (n := 12) (Nat.le_of_ble_eq_true rfl) (Nat.le_of_ble_eq_true rfl) ?_
      exact W.iret (v := 2) hx hb hr (fun t9 ht hW => ke_i hw ht (by rw [h1]; decide +kernel) (if_neg (by rw [h1]; exact Option.some_ne_none _)).symm) hw.2.2.2 dL_excuse_24
  · refine lv_if_eq (tgt := 14) hx hb dL_excuse_7 (by decide) (fun h3 => ?_) (fun h3 => ?_)
    · refine lv_lconst (v := 0) hx hb dL_excuse_14 (by decide) ?_
      refine k_last hc hk hw (v := 0) (x' := (xB (f_X2_keep 6 a1 0 0 0 S) 0 ((f_X6_excuse a1 B).2) (y.1, vp_updL y.2.1 0 0, y.2.2))) rfl dL_excuse_15 (fun H locs hw => ?_)
      refine lv_goto (tgt := 25) hx hb dL_excuse_16 (by decide) ?_
      refine lv_iconst (v := 0) hx hb dL_excuse_25 (by decide) ?_
      refine W.widen (k := 2) (n := 12) (Nat.le_of_ble_eq_true rfl) (Nat.le_of_ble_eq_true rfl) ?_
      exact W.iret (v := 0) hx hb hr (fun t9 ht hW => ke_i hw ht (by rw [h1]; rfl) (by simp only [if_pos h1, if_pos h3])) hw.2.2.2 dL_excuse_26
    · refine lv_lconst (v := 1) hx hb dL_excuse_10 (by decide) ?_
      refine lv_goto (tgt := 15) hx hb dL_excuse_11 (by decide) ?_
      refine k_last hc hk hw (v := 1) (x' := (xB (f_X2_keep 6 a1 0 0 0 S) 0 ((f_X6_excuse a1 B).2) (y.1, vp_updL y.2.1 0 1, y.2.2))) rfl dL_excuse_15 (fun H locs hw => ?_)
      refine lv_goto (tgt := 25) hx hb dL_excuse_16 (by decide) ?_
      refine lv_iconst (v := 0) hx hb dL_excuse_25 (by decide) ?_
      refine W.widen (k := 2) (n := 12) (Nat.le_of_ble_eq_true rfl) (Nat.le_of_ble_eq_true rfl) ?_
      exact W.iret (v := 0) hx hb hr (fun t9 ht hW => ke_i hw ht (by rw [h1]; rfl) (by simp only [if_pos h1, if_neg h3])) hw.2.2.2 dL_excuse_26
set_option maxHeartbeats 4000000 in
set_option maxRecDepth 100000 in
theorem m_L_takeStep (l : Launch) (g : wG) (hfl : l.stackTraces = false) (S : Nat → BT) (B : BT) (y : (Nat → Nat → Int32) × (Nat → Int64) × (Nat → UInt64)) (a1 : Int32) (n m9 : Nat) (hN : CN B n m9) (hev : ¬ S 2 0 1 < 0) : mW l yL_takeStep cL_takeStep 4 [(0, 9, 12, 25), (0, 9, 15, 31)] ({ frames := 11, cells := 3, slots := 18, locals := 254 } : Room) 3 18 g (xB S 0 B y) [.ref (gA g 0), .int a1, .ref (gA g 169)] (kE (e_X6_takeStep a1 B) ["java/lang/IndexOutOfBoundsException", "java/lang/UnsupportedOperationException"]) (if e_X6_takeStep a1 B = none then (xB (f_X2_keep 7 a1 0 0 0 S) 0 ((f_X6_takeStep a1 B).2) (y.1, vp_updL y.2.1 0 (((f_X6_takeStep a1 B).1).toInt64), y.2.2)) else (xB S 0 B y)) := by
  refine va_MetW (cc := cL_takeStep) (maxL := 4) (ret := some .int) (by decide) rfl ?_
  intro p9 e s m args below meth c s₁ BL hml hv
  obtain ⟨rfl, hk, hPB⟩ := hv
  have hx := BL.exec
  have hb := BL.bytes
  have hc : CX p9 c cL_takeStep s _ m RL := ⟨hx, hb, findClass_of_methodNamed BL.named, fun w h => atoms_spec BL.pre w (List.mem_cons_of_mem _ h)⟩
  have hTB : c.exceptionTable.toList = tableOf [(0, 9, 12, 25), (0, 9, 15, 31)] := vx_table (x := yL_takeStep) BL (atoms_spec (ws := wsH yL_takeStep cL_takeStep 4 (some .int) [(0, 9, 12, 25), (0, 9, 15, 31)]) BL.pre (Cond.codeWith yL_takeStep cL_takeStep 4 (some .int) [(0, 9, 12, 25), (0, 9, 15, 31)]) List.mem_cons_self)
  have hr := BL.returns
  have hlocks := BL.notSynchronized
  have hw : WS g s (xB S 0 B y) s.heap [] := ⟨hPB, va_S.rf⟩
  have hl := lv_entry ([.ref (gA g 0), .int a1, .ref (gA g 169)]) (n := 4) (Nat.le_of_ble_eq_true rfl)
  rw [lg_entry_eq]
  generalize (lg_sl ([.ref (gA g 0), .int a1, .ref (gA g 169)]) ++ List.replicate (4 - (lg_sl ([.ref (gA g 0), .int a1, .ref (gA g 169)])).length) Slot.unset).toArray = ls at hl ⊢
  have hl : lv_has ls 4 [(0, .ref (gA g 0)), (1, .int a1), (2, .ref (gA g 169))] := hl
  refine lv_aload_n hx hb dL_takeStep_0 rfl (lv_at hl 2 rfl) ?_
  refine lv_iconst (v := 0) hx hb dL_takeStep_1 (by decide) ?_
  refine lv_aload_n hx hb dL_takeStep_2 rfl (lv_at hl 0 rfl) ?_
  refine lv_iload_n hx hb dL_takeStep_3 rfl (lv_at hl 1 rfl) ?_
  refine kx_i hw (vx_runV (As := [.int a1]) (rest := [.int 0, .ref (gA g 169)]) ⟨hx, hb, hml, hc.2.2.1, hc.2.2.2⟩ (m_X6_takeStep l g hfl S B y a1 _ _ hN hev) (kw_V hc 1 q735 q736 q737 q1 q738 rfl rfl (by decide +kernel) ⟨Nat.le_of_ble_eq_true rfl, Nat.le_of_ble_eq_true rfl⟩) (kp_V hk hw at_G rfl) rfl rfl hl.1 rfl (lv_room (Nat.le_of_ble_eq_true rfl)) dL_takeStep_4 ⟨Nat.le_of_ble_eq_true rfl, Nat.le_of_ble_eq_true rfl⟩) (fun E ce q9 H locs h1 hw hq hv hE => ?_) (fun H locs h1 hw => ?_)
  · have hE9 := ex_X6_takeStep E h1
    simp only [List.mem_cons, List.not_mem_nil, or_false] at hE9
    rcases hE9 with rfl | rfl
    · refine vx_catch hc.2.2.1 [⟨0, 9, 12, 25⟩] ⟨0, 9, 15, 31⟩ [] hTB (List.forall_mem_cons.mpr ⟨Or.inr ⟨by decide, _, hc.2.2.2 _ q646, hk.2.2.2.2.2.2.2.1 ("java/lang/UnsupportedOperationException", "java/lang/IndexOutOfBoundsException") (by decide +kernel)⟩, fun _ hz => absurd hz List.not_mem_nil⟩) (by decide) (by decide) (hc.2.2.2 _ q695) (hk.2.1.use nq711) hq hv hE ?_
      refine lv_astore_n (lv' := [(3, .ref q9), (0, .ref (gA g 0)), (1, .int a1), (2, .ref (gA g 169))]) hx hb dL_takeStep_15 rfl hl (by decide) rfl (fun ls hl => ?_)
      refine lv_iconst (v := 2) hx hb dL_takeStep_16 (by decide) ?_
      refine W.widen (k := 3) (n := 18) (Nat.le_of_ble_eq_true rfl) (Nat.le_of_ble_eq_true rfl) ?_
      exact W.iret (v := 2) hx hb hr (fun t9 ht hW => ke_i hw ht (by rw [h1]; decide +kernel) (if_neg (by rw [h1]; exact Option.some_ne_none _)).symm) hw.2.2.2 dL_takeStep_17
    · refine vx_catch hc.2.2.1 [] ⟨0, 9, 12, 25⟩ [⟨0, 9, 15, 31⟩] hTB (fun _ hz => absurd hz List.not_mem_nil) (by decide) (by decide) (hc.2.2.2 _ q646) (hk.2.1.use nq680) hq hv hE ?_
      refine lv_astore_n (lv' := [(3, .ref q9), (0, .ref (gA g 0)), (1, .int a1), (2, .ref (gA g 169))]) hx hb dL_takeStep_12 rfl hl (by decide) rfl (fun ls hl => ?_)
      refine lv_iconst (v := 1) hx hb dL_takeStep_13 (by decide) ?_
      refine W.widen (k := 3) (n := 18) (Nat.le_of_ble_eq_true rfl) (Nat.le_of_ble_eq_true rfl) ?_
      exact W.iret (v := 1) hx hb hr (fun t9 ht hW => ke_i hw ht (by rw [h1]; decide +kernel) (if_neg (by rw [h1]; exact Option.some_ne_none _)).symm) hw.2.2.2 dL_takeStep_14
  · refine lv_i2l hx hb dL_takeStep_7 rfl ?_
    refine k_last hc hk hw (v := ((f_X6_takeStep a1 B).1).toInt64) (x' := (xB (f_X2_keep 7 a1 0 0 0 S) 0 ((f_X6_takeStep a1 B).2) (y.1, vp_updL y.2.1 0 (((f_X6_takeStep a1 B).1).toInt64), y.2.2))) rfl dL_takeStep_8 (fun H locs hw => ?_)
    refine lv_goto (tgt := 18) hx hb dL_takeStep_9 (by decide) ?_
    refine lv_iconst (v := 0) hx hb dL_takeStep_18 (by decide) ?_
    refine W.widen (k := 3) (n := 18) (Nat.le_of_ble_eq_true rfl) (Nat.le_of_ble_eq_true rfl) ?_
    exact W.iret (v := 0) hx hb hr (fun t9 ht hW => ke_i hw ht (by rw [h1]; rfl) (by simp only [if_pos h1])) hw.2.2.2 dL_takeStep_19
set_option maxHeartbeats 4000000 in
set_option maxRecDepth 100000 in
theorem m_L_examine (l : Launch) (g : wG) (hfl : l.stackTraces = false) (S : Nat → BT) (B : BT) (y : (Nat → Nat → Int32) × (Nat → Int64) × (Nat → UInt64)) (a1 : Int32) (n m9 : Nat) (hN : CN B n m9) (hev : ¬ S 2 0 1 < 0) : mW l yL_examine cL_examine 4 [(0, 9, 12, 25), (0, 9, 15, 31)] ({ frames := 11, cells := 2, slots := 12, locals := 253 } : Room) 2 12 g (xB S 0 B y) [.ref (gA g 0), .int a1, .ref (gA g 169)] (kE (e_X6_examine a1 B) ["java/lang/IndexOutOfBoundsException", "java/lang/UnsupportedOperationException"]) (if e_X6_examine a1 B = none then (xB (f_X2_keep 8 a1 0 0 0 S) 0 ((f_X6_examine a1 B).2) (y.1, vp_updL y.2.1 0 (((f_X6_examine a1 B).1).toInt64), y.2.2)) else (xB S 0 B y)) := by
  refine va_MetW (cc := cL_examine) (maxL := 4) (ret := some .int) (by decide) rfl ?_
  intro p9 e s m args below meth c s₁ BL hml hv
  obtain ⟨rfl, hk, hPB⟩ := hv
  have hx := BL.exec
  have hb := BL.bytes
  have hc : CX p9 c cL_examine s _ m RL := ⟨hx, hb, findClass_of_methodNamed BL.named, fun w h => atoms_spec BL.pre w (List.mem_cons_of_mem _ h)⟩
  have hTB : c.exceptionTable.toList = tableOf [(0, 9, 12, 25), (0, 9, 15, 31)] := vx_table (x := yL_examine) BL (atoms_spec (ws := wsH yL_examine cL_examine 4 (some .int) [(0, 9, 12, 25), (0, 9, 15, 31)]) BL.pre (Cond.codeWith yL_examine cL_examine 4 (some .int) [(0, 9, 12, 25), (0, 9, 15, 31)]) List.mem_cons_self)
  have hr := BL.returns
  have hlocks := BL.notSynchronized
  have hw : WS g s (xB S 0 B y) s.heap [] := ⟨hPB, va_S.rf⟩
  have hl := lv_entry ([.ref (gA g 0), .int a1, .ref (gA g 169)]) (n := 4) (Nat.le_of_ble_eq_true rfl)
  rw [lg_entry_eq]
  generalize (lg_sl ([.ref (gA g 0), .int a1, .ref (gA g 169)]) ++ List.replicate (4 - (lg_sl ([.ref (gA g 0), .int a1, .ref (gA g 169)])).length) Slot.unset).toArray = ls at hl ⊢
  have hl : lv_has ls 4 [(0, .ref (gA g 0)), (1, .int a1), (2, .ref (gA g 169))] := hl
  refine lv_aload_n hx hb dL_examine_0 rfl (lv_at hl 2 rfl) ?_
  refine lv_iconst (v := 0) hx hb dL_examine_1 (by decide) ?_
  refine lv_aload_n hx hb dL_examine_2 rfl (lv_at hl 0 rfl) ?_
  refine lv_iload_n hx hb dL_examine_3 rfl (lv_at hl 1 rfl) ?_
  refine kx_i hw (vx_runV (As := [.int a1]) (rest := [.int 0, .ref (gA g 169)]) ⟨hx, hb, hml, hc.2.2.1, hc.2.2.2⟩ (m_X6_examine l g hfl S B y a1 _ _ hN hev) (kw_V hc 1 q743 q744 q745 q1 q746 rfl rfl (by decide +kernel) ⟨Nat.le_of_ble_eq_true rfl, Nat.le_of_ble_eq_true rfl⟩) (kp_V hk hw at_G rfl) rfl rfl hl.1 rfl (lv_room (Nat.le_of_ble_eq_true rfl)) dL_examine_4 ⟨Nat.le_of_ble_eq_true rfl, Nat.le_of_ble_eq_true rfl⟩) (fun E ce q9 H locs h1 hw hq hv hE => ?_) (fun H locs h1 hw => ?_)
  · have hE9 := ex_X6_examine E h1
    simp only [List.mem_cons, List.not_mem_nil, or_false] at hE9
    rcases hE9 with rfl | rfl
    · refine vx_catch hc.2.2.1 [] ⟨0, 9, 12, 25⟩ [⟨0, 9, 15, 31⟩] hTB (fun _ hz => absurd hz List.not_mem_nil) (by decide) (by decide) (hc.2.2.2 _ q646) (hk.2.1.use nq680) hq hv hE ?_
      refine lv_astore_n (lv' := [(3, .ref q9), (0, .ref (gA g 0)), (1, .int a1), (2, .ref (gA g 169))]) hx hb dL_examine_12 rfl hl (by decide) rfl (fun ls hl => ?_)
      refine lv_iconst (v := 1) hx hb dL_examine_13 (by decide) ?_
      refine W.widen (k := 2) (n := 12) (Nat.le_of_ble_eq_true rfl) (Nat.le_of_ble_eq_true rfl) ?_
      exact W.iret (v := 1) hx hb hr (fun t9 ht hW => ke_i hw ht (by rw [h1]; decide +kernel) (if_neg (by rw [h1]; exact Option.some_ne_none _)).symm) hw.2.2.2 dL_examine_14
    · refine vx_catch hc.2.2.1 [⟨0, 9, 12, 25⟩] ⟨0, 9, 15, 31⟩ [] hTB (List.forall_mem_cons.mpr ⟨Or.inr ⟨by decide, _, hc.2.2.2 _ q646, hk.2.2.2.2.2.2.2.1 ("java/lang/UnsupportedOperationException", "java/lang/IndexOutOfBoundsException") (by decide +kernel)⟩, fun _ hz => absurd hz List.not_mem_nil⟩) (by decide) (by decide) (hc.2.2.2 _ q695) (hk.2.1.use nq711) hq hv hE ?_
      refine lv_astore_n (lv' := [(3, .ref q9), (0, .ref (gA g 0)), (1, .int a1), (2, .ref (gA g 169))]) hx hb dL_examine_15 rfl hl (by decide) rfl (fun ls hl => ?_)
      refine lv_iconst (v := 2) hx hb dL_examine_16 (by decide) ?_
      refine W.widen (k := 2) (n := 12) (Nat.le_of_ble_eq_true rfl) (Nat.le_of_ble_eq_true rfl) ?_
      exact W.iret (v := 2) hx hb hr (fun t9 ht hW => ke_i hw ht (by rw [h1]; decide +kernel) (if_neg (by rw [h1]; exact Option.some_ne_none _)).symm) hw.2.2.2 dL_examine_17
  · refine lv_i2l hx hb dL_examine_7 rfl ?_
    refine k_last hc hk hw (v := ((f_X6_examine a1 B).1).toInt64) (x' := (xB (f_X2_keep 8 a1 0 0 0 S) 0 ((f_X6_examine a1 B).2) (y.1, vp_updL y.2.1 0 (((f_X6_examine a1 B).1).toInt64), y.2.2))) rfl dL_examine_8 (fun H locs hw => ?_)
    refine lv_goto (tgt := 18) hx hb dL_examine_9 (by decide) ?_
    refine lv_iconst (v := 0) hx hb dL_examine_18 (by decide) ?_
    refine W.widen (k := 2) (n := 12) (Nat.le_of_ble_eq_true rfl) (Nat.le_of_ble_eq_true rfl) ?_
    exact W.iret (v := 0) hx hb hr (fun t9 ht hW => ke_i hw ht (by rw [h1]; rfl) (by simp only [if_pos h1])) hw.2.2.2 dL_examine_19
set_option maxHeartbeats 4000000 in
set_option maxRecDepth 100000 in
theorem m_L_state (l : Launch) (g : wG) (hfl : l.stackTraces = false) (S : Nat → BT) (B : BT) (y : (Nat → Nat → Int32) × (Nat → Int64) × (Nat → UInt64)) (a1 : Int32) (n m9 : Nat) (hN : CN B n m9) (hev : ¬ S 2 0 1 < 0) : mW l yL_state cL_state 4 [(0, 9, 12, 25)] ({ frames := 8, cells := 1, slots := 6, locals := 142 } : Room) 1 6 g (xB S 0 B y) [.ref (gA g 0), .int a1, .ref (gA g 169)] (kE (e_X6_state a1 B) ["java/lang/IndexOutOfBoundsException"]) (if e_X6_state a1 B = none then (xB S 0 B (y.1, vp_updL y.2.1 0 ((f_X6_state a1 B).toInt64), y.2.2)) else (xB S 0 B y)) := by
  refine va_MetW (cc := cL_state) (maxL := 4) (ret := some .int) (by decide) rfl ?_
  intro p9 e s m args below meth c s₁ BL hml hv
  obtain ⟨rfl, hk, hPB⟩ := hv
  have hx := BL.exec
  have hb := BL.bytes
  have hc : CX p9 c cL_state s _ m RL := ⟨hx, hb, findClass_of_methodNamed BL.named, fun w h => atoms_spec BL.pre w (List.mem_cons_of_mem _ h)⟩
  have hTB : c.exceptionTable.toList = tableOf [(0, 9, 12, 25)] := vx_table (x := yL_state) BL (atoms_spec (ws := wsH yL_state cL_state 4 (some .int) [(0, 9, 12, 25)]) BL.pre (Cond.codeWith yL_state cL_state 4 (some .int) [(0, 9, 12, 25)]) List.mem_cons_self)
  have hr := BL.returns
  have hlocks := BL.notSynchronized
  have hw : WS g s (xB S 0 B y) s.heap [] := ⟨hPB, va_S.rf⟩
  have hl := lv_entry ([.ref (gA g 0), .int a1, .ref (gA g 169)]) (n := 4) (Nat.le_of_ble_eq_true rfl)
  rw [lg_entry_eq]
  generalize (lg_sl ([.ref (gA g 0), .int a1, .ref (gA g 169)]) ++ List.replicate (4 - (lg_sl ([.ref (gA g 0), .int a1, .ref (gA g 169)])).length) Slot.unset).toArray = ls at hl ⊢
  have hl : lv_has ls 4 [(0, .ref (gA g 0)), (1, .int a1), (2, .ref (gA g 169))] := hl
  refine lv_aload_n hx hb dL_state_0 rfl (lv_at hl 2 rfl) ?_
  refine lv_iconst (v := 0) hx hb dL_state_1 (by decide) ?_
  refine lv_aload_n hx hb dL_state_2 rfl (lv_at hl 0 rfl) ?_
  refine lv_iload_n hx hb dL_state_3 rfl (lv_at hl 1 rfl) ?_
  refine kx_i hw (vx_runV (As := [.int a1]) (rest := [.int 0, .ref (gA g 169)]) ⟨hx, hb, hml, hc.2.2.1, hc.2.2.2⟩ (m_X6_state l g hfl S B y a1 _ _ hN) (kw_V hc 1 q750 q751 q752 q1 q753 rfl rfl (by decide +kernel) ⟨Nat.le_of_ble_eq_true rfl, Nat.le_of_ble_eq_true rfl⟩) (kp_V hk hw at_G rfl) rfl rfl hl.1 rfl (lv_room (Nat.le_of_ble_eq_true rfl)) dL_state_4 ⟨Nat.le_of_ble_eq_true rfl, Nat.le_of_ble_eq_true rfl⟩) (fun E ce q9 H locs h1 hw hq hv hE => ?_) (fun H locs h1 hw => ?_)
  · have hE9 := ex_X6_state E h1
    simp only [List.mem_cons, List.not_mem_nil, or_false] at hE9
    obtain rfl := hE9
    refine vx_catch hc.2.2.1 [] ⟨0, 9, 12, 25⟩ [] hTB (fun _ hz => absurd hz List.not_mem_nil) (by decide) (by decide) (hc.2.2.2 _ q646) (hk.2.1.use nq680) hq hv hE ?_
    refine lv_astore_n (lv' := [(3, .ref q9), (0, .ref (gA g 0)), (1, .int a1), (2, .ref (gA g 169))]) hx hb dL_state_12 rfl hl (by decide) rfl (fun ls hl => ?_)
    refine lv_iconst (v := 1) hx hb dL_state_13 (by decide) ?_
    refine W.widen (k := 1) (n := 6) (Nat.le_of_ble_eq_true rfl) (Nat.le_of_ble_eq_true rfl) ?_
    exact W.iret (v := 1) hx hb hr (fun t9 ht hW => ke_i hw ht (by rw [h1]; decide +kernel) (if_neg (by rw [h1]; exact Option.some_ne_none _)).symm) hw.2.2.2 dL_state_14
  · refine lv_i2l hx hb dL_state_7 rfl ?_
    refine k_last hc hk hw (v := (f_X6_state a1 B).toInt64) (x' := (xB S 0 B (y.1, vp_updL y.2.1 0 ((f_X6_state a1 B).toInt64), y.2.2))) rfl dL_state_8 (fun H locs hw => ?_)
    refine lv_goto (tgt := 15) hx hb dL_state_9 (by decide) ?_
    refine lv_iconst (v := 0) hx hb dL_state_15 (by decide) ?_
    refine W.widen (k := 1) (n := 6) (Nat.le_of_ble_eq_true rfl) (Nat.le_of_ble_eq_true rfl) ?_
    exact W.iret (v := 0) hx hb hr (fun t9 ht hW => ke_i hw ht (by rw [h1]; rfl) (by simp only [if_pos h1])) hw.2.2.2 dL_state_16
set_option maxHeartbeats 4000000 in
set_option maxRecDepth 100000 in
theorem m_L_countState (l : Launch) (g : wG) (hfl : l.stackTraces = false) (S : Nat → BT) (B : BT) (y : (Nat → Nat → Int32) × (Nat → Int64) × (Nat → UInt64)) (a1 : Int32) (n m9 : Nat) (hN : CN B n m9) (hev : ¬ S 2 0 1 < 0) : mW l yL_countState cL_countState 4 [(0, 9, 12, 13)] ({ frames := 7, cells := 1, slots := 6, locals := 121 } : Room) 1 6 g (xB S 0 B y) [.ref (gA g 0), .int a1, .ref (gA g 169)] (kE (e_X6_countState a1 B) ["java/lang/IllegalArgumentException"]) (if e_X6_countState a1 B = none then (xB S 0 B (y.1, vp_updL y.2.1 0 ((f_X6_countState a1 B).toInt64), y.2.2)) else (xB S 0 B y)) := by
  refine va_MetW (cc := cL_countState) (maxL := 4) (ret := some .int) (by decide) rfl ?_
  intro p9 e s m args below meth c s₁ BL hml hv
  obtain ⟨rfl, hk, hPB⟩ := hv
  have hx := BL.exec
  have hb := BL.bytes
  have hc : CX p9 c cL_countState s _ m RL := ⟨hx, hb, findClass_of_methodNamed BL.named, fun w h => atoms_spec BL.pre w (List.mem_cons_of_mem _ h)⟩
  have hTB : c.exceptionTable.toList = tableOf [(0, 9, 12, 13)] := vx_table (x := yL_countState) BL (atoms_spec (ws := wsH yL_countState cL_countState 4 (some .int) [(0, 9, 12, 13)]) BL.pre (Cond.codeWith yL_countState cL_countState 4 (some .int) [(0, 9, 12, 13)]) List.mem_cons_self)
  have hr := BL.returns
  have hlocks := BL.notSynchronized
  have hw : WS g s (xB S 0 B y) s.heap [] := ⟨hPB, va_S.rf⟩
  have hl := lv_entry ([.ref (gA g 0), .int a1, .ref (gA g 169)]) (n := 4) (Nat.le_of_ble_eq_true rfl)
  rw [lg_entry_eq]
  generalize (lg_sl ([.ref (gA g 0), .int a1, .ref (gA g 169)]) ++ List.replicate (4 - (lg_sl ([.ref (gA g 0), .int a1, .ref (gA g 169)])).length) Slot.unset).toArray = ls at hl ⊢
  have hl : lv_has ls 4 [(0, .ref (gA g 0)), (1, .int a1), (2, .ref (gA g 169))] := hl
  refine lv_aload_n hx hb dL_countState_0 rfl (lv_at hl 2 rfl) ?_
  refine lv_iconst (v := 0) hx hb dL_countState_1 (by decide) ?_
  refine lv_aload_n hx hb dL_countState_2 rfl (lv_at hl 0 rfl) ?_
  refine lv_iload_n hx hb dL_countState_3 rfl (lv_at hl 1 rfl) ?_
  refine kx_i hw (vx_runV (As := [.int a1]) (rest := [.int 0, .ref (gA g 169)]) ⟨hx, hb, hml, hc.2.2.1, hc.2.2.2⟩ (m_X6_countState l g hfl S B y a1 _ _ hN) (kw_V hc 1 q757 q758 q759 q1 q760 rfl rfl (by decide +kernel) ⟨Nat.le_of_ble_eq_true rfl, Nat.le_of_ble_eq_true rfl⟩) (kp_V hk hw at_G rfl) rfl rfl hl.1 rfl (lv_room (Nat.le_of_ble_eq_true rfl)) dL_countState_4 ⟨Nat.le_of_ble_eq_true rfl, Nat.le_of_ble_eq_true rfl⟩) (fun E ce q9 H locs h1 hw hq hv hE => ?_) (fun H locs h1 hw => ?_)
  · have hE9 := ex_X6_countState E h1
    simp only [List.mem_cons, List.not_mem_nil, or_false] at hE9
    obtain rfl := hE9
    refine vx_catch hc.2.2.1 [] ⟨0, 9, 12, 13⟩ [] hTB (fun _ hz => absurd hz List.not_mem_nil) (by decide) (by decide) (hc.2.2.2 _ q529) (hk.2.1.use nq541) hq hv hE ?_
    refine lv_astore_n (lv' := [(3, .ref q9), (0, .ref (gA g 0)), (1, .int a1), (2, .ref (gA g 169))]) hx hb dL_countState_12 rfl hl (by decide) rfl (fun ls hl => ?_)
    refine lv_iconst (v := 1) hx hb dL_countState_13 (by decide) ?_
    refine W.widen (k := 1) (n := 6) (Nat.le_of_ble_eq_true rfl) (Nat.le_of_ble_eq_true rfl) ?_
    exact W.iret (v := 1) hx hb hr (fun t9 ht hW => ke_i hw ht (by rw [h1]; decide +kernel) (if_neg (by rw [h1]; exact Option.some_ne_none _)).symm) hw.2.2.2 dL_countState_14
  · refine lv_i2l hx hb dL_countState_7 rfl ?_
    refine k_last hc hk hw (v := (f_X6_countState a1 B).toInt64) (x' := (xB S 0 B (y.1, vp_updL y.2.1 0 ((f_X6_countState a1 B).toInt64), y.2.2))) rfl dL_countState_8 (fun H locs hw => ?_)
    refine lv_goto (tgt := 15) hx hb dL_countState_9 (by decide) ?_
    refine lv_iconst (v := 0) hx hb dL_countState_15 (by decide) ?_
    refine W.widen (k := 1) (n := 6) (Nat.le_of_ble_eq_true rfl) (Nat.le_of_ble_eq_true rfl) ?_
    exact W.iret (v := 0) hx hb hr (fun t9 ht hW => ke_i hw ht (by rw [h1]; rfl) (by simp only [if_pos h1])) hw.2.2.2 dL_countState_16
set_option maxHeartbeats 4000000 in
set_option maxRecDepth 100000 in
theorem m_L_countOf (l : Launch) (g : wG) (hfl : l.stackTraces = false) (S : Nat → BT) (B : BT) (y : (Nat → Nat → Int32) × (Nat → Int64) × (Nat → UInt64)) (a1 : Int32) (n m9 : Nat) (hN : CN B n m9) (hev : ¬ S 2 0 1 < 0) : mW l yL_countOf cL_countOf 4 [(0, 9, 12, 13)] ({ frames := 8, cells := 1, slots := 6, locals := 144 } : Room) 1 6 g (xB S 0 B y) [.ref (gA g 0), .int a1, .ref (gA g 169)] (kE (e_X6_countOf a1 B) ["java/lang/IllegalArgumentException"]) (if e_X6_countOf a1 B = none then (xB S 0 B (y.1, vp_updL y.2.1 0 ((f_X6_countOf a1 B).toInt64), y.2.2)) else (xB S 0 B y)) := by
  refine va_MetW (cc := cL_countOf) (maxL := 4) (ret := some .int) (by decide) rfl ?_
  intro p9 e s m args below meth c s₁ BL hml hv
  obtain ⟨rfl, hk, hPB⟩ := hv
  have hx := BL.exec
  have hb := BL.bytes
  have hc : CX p9 c cL_countOf s _ m RL := ⟨hx, hb, findClass_of_methodNamed BL.named, fun w h => atoms_spec BL.pre w (List.mem_cons_of_mem _ h)⟩
  have hTB : c.exceptionTable.toList = tableOf [(0, 9, 12, 13)] := vx_table (x := yL_countOf) BL (atoms_spec (ws := wsH yL_countOf cL_countOf 4 (some .int) [(0, 9, 12, 13)]) BL.pre (Cond.codeWith yL_countOf cL_countOf 4 (some .int) [(0, 9, 12, 13)]) List.mem_cons_self)
  have hr := BL.returns
  have hlocks := BL.notSynchronized
  have hw : WS g s (xB S 0 B y) s.heap [] := ⟨hPB, va_S.rf⟩
  have hl := lv_entry ([.ref (gA g 0), .int a1, .ref (gA g 169)]) (n := 4) (Nat.le_of_ble_eq_true rfl)
  rw [lg_entry_eq]
  generalize (lg_sl ([.ref (gA g 0), .int a1, .ref (gA g 169)]) ++ List.replicate (4 - (lg_sl ([.ref (gA g 0), .int a1, .ref (gA g 169)])).length) Slot.unset).toArray = ls at hl ⊢
  have hl : lv_has ls 4 [(0, .ref (gA g 0)), (1, .int a1), (2, .ref (gA g 169))] := hl
  refine lv_aload_n hx hb dL_countOf_0 rfl (lv_at hl 2 rfl) ?_
  refine lv_iconst (v := 0) hx hb dL_countOf_1 (by decide) ?_
  refine lv_aload_n hx hb dL_countOf_2 rfl (lv_at hl 0 rfl) ?_
  refine lv_iload_n hx hb dL_countOf_3 rfl (lv_at hl 1 rfl) ?_
  refine kx_i hw (vx_runV (As := [.int a1]) (rest := [.int 0, .ref (gA g 169)]) ⟨hx, hb, hml, hc.2.2.1, hc.2.2.2⟩ (m_X6_countOf l g hfl S B y a1 _ _ hN) (kw_V hc 1 q770 q771 q772 q1 q773 rfl rfl (by decide +kernel) ⟨Nat.le_of_ble_eq_true rfl, Nat.le_of_ble_eq_true rfl⟩) (kp_V hk hw at_G rfl) rfl rfl hl.1 rfl (lv_room (Nat.le_of_ble_eq_true rfl)) dL_countOf_4 ⟨Nat.le_of_ble_eq_true rfl, Nat.le_of_ble_eq_true rfl⟩) (fun E ce q9 H locs h1 hw hq hv hE => ?_) (fun H locs h1 hw => ?_)
  · have hE9 := ex_X6_countOf E h1
    simp only [List.mem_cons, List.not_mem_nil, or_false] at hE9
    obtain rfl := hE9
    refine vx_catch hc.2.2.1 [] ⟨0, 9, 12, 13⟩ [] hTB (fun _ hz => absurd hz List.not_mem_nil) (by decide) (by decide) (hc.2.2.2 _ q529) (hk.2.1.use nq541) hq hv hE ?_
    refine lv_astore_n (lv' := [(3, .ref q9), (0, .ref (gA g 0)), (1, .int a1), (2, .ref (gA g 169))]) hx hb dL_countOf_12 rfl hl (by decide) rfl (fun ls hl => ?_)
    refine lv_iconst (v := 1) hx hb dL_countOf_13 (by decide) ?_
    refine W.widen (k := 1) (n := 6) (Nat.le_of_ble_eq_true rfl) (Nat.le_of_ble_eq_true rfl) ?_
    exact W.iret (v := 1) hx hb hr (fun t9 ht hW => ke_i hw ht (by rw [h1]; decide +kernel) (if_neg (by rw [h1]; exact Option.some_ne_none _)).symm) hw.2.2.2 dL_countOf_14
  · refine lv_i2l hx hb dL_countOf_7 rfl ?_
    refine k_last hc hk hw (v := (f_X6_countOf a1 B).toInt64) (x' := (xB S 0 B (y.1, vp_updL y.2.1 0 ((f_X6_countOf a1 B).toInt64), y.2.2))) rfl dL_countOf_8 (fun H locs hw => ?_)
    refine lv_goto (tgt := 15) hx hb dL_countOf_9 (by decide) ?_
    refine lv_iconst (v := 0) hx hb dL_countOf_15 (by decide) ?_
    refine W.widen (k := 1) (n := 6) (Nat.le_of_ble_eq_true rfl) (Nat.le_of_ble_eq_true rfl) ?_
    exact W.iret (v := 0) hx hb hr (fun t9 ht hW => ke_i hw ht (by rw [h1]; rfl) (by simp only [if_pos h1])) hw.2.2.2 dL_countOf_16
set_option maxHeartbeats 4000000 in
set_option maxRecDepth 100000 in
theorem m_L_ask (l : Launch) (g : wG) (hfl : l.stackTraces = false) (S : Nat → BT) (B : BT) (y : (Nat → Nat → Int32) × (Nat → Int64) × (Nat → UInt64)) (a1 : Int32) (n m9 : Nat) (hN : CN B n m9) (hev : ¬ S 2 0 1 < 0) : mW l yL_ask cL_ask 4 [(0, 9, 12, 25), (0, 9, 15, 31)] ({ frames := 11, cells := 2, slots := 12, locals := 253 } : Room) 2 12 g (xB S 0 B y) [.ref (gA g 0), .int a1, .ref (gA g 169)] (kE (e_X6_ask a1 B) ["java/lang/IndexOutOfBoundsException", "java/lang/UnsupportedOperationException"]) (if e_X6_ask a1 B = none then (xB (f_X2_keep 9 a1 0 0 0 S) 0 ((f_X6_ask a1 B).2) (y.1, vp_updL y.2.1 0 (((f_X6_ask a1 B).1).toInt64), y.2.2)) else (xB S 0 B y)) := by
  refine va_MetW (cc := cL_ask) (maxL := 4) (ret := some .int) (by decide) rfl ?_
  intro p9 e s m args below meth c s₁ BL hml hv
  obtain ⟨rfl, hk, hPB⟩ := hv
  have hx := BL.exec
  have hb := BL.bytes
  have hc : CX p9 c cL_ask s _ m RL := ⟨hx, hb, findClass_of_methodNamed BL.named, fun w h => atoms_spec BL.pre w (List.mem_cons_of_mem _ h)⟩
  have hTB : c.exceptionTable.toList = tableOf [(0, 9, 12, 25), (0, 9, 15, 31)] := vx_table (x := yL_ask) BL (atoms_spec (ws := wsH yL_ask cL_ask 4 (some .int) [(0, 9, 12, 25), (0, 9, 15, 31)]) BL.pre (Cond.codeWith yL_ask cL_ask 4 (some .int) [(0, 9, 12, 25), (0, 9, 15, 31)]) List.mem_cons_self)
  have hr := BL.returns
  have hlocks := BL.notSynchronized
  have hw : WS g s (xB S 0 B y) s.heap [] := ⟨hPB, va_S.rf⟩
  have hl := lv_entry ([.ref (gA g 0), .int a1, .ref (gA g 169)]) (n := 4) (Nat.le_of_ble_eq_true rfl)
  rw [lg_entry_eq]
  generalize (lg_sl ([.ref (gA g 0), .int a1, .ref (gA g 169)]) ++ List.replicate (4 - (lg_sl ([.ref (gA g 0), .int a1, .ref (gA g 169)])).length) Slot.unset).toArray = ls at hl ⊢
  have hl : lv_has ls 4 [(0, .ref (gA g 0)), (1, .int a1), (2, .ref (gA g 169))] := hl
  refine lv_aload_n hx hb dL_ask_0 rfl (lv_at hl 2 rfl) ?_
  refine lv_iconst (v := 0) hx hb dL_ask_1 (by decide) ?_
  refine lv_aload_n hx hb dL_ask_2 rfl (lv_at hl 0 rfl) ?_
  refine lv_iload_n hx hb dL_ask_3 rfl (lv_at hl 1 rfl) ?_
  refine kx_i hw (vx_runV (As := [.int a1]) (rest := [.int 0, .ref (gA g 169)]) ⟨hx, hb, hml, hc.2.2.1, hc.2.2.2⟩ (m_X6_ask l g hfl S B y a1 _ _ hN hev) (kw_V hc 1 q781 q782 q783 q1 q784 rfl rfl (by decide +kernel) ⟨Nat.le_of_ble_eq_true rfl, Nat.le_of_ble_eq_true rfl⟩) (kp_V hk hw at_G rfl) rfl rfl hl.1 rfl (lv_room (Nat.le_of_ble_eq_true rfl)) dL_ask_4 ⟨Nat.le_of_ble_eq_true rfl, Nat.le_of_ble_eq_true rfl⟩) (fun E ce q9 H locs h1 hw hq hv hE => ?_) (fun H locs h1 hw => ?_)
  · have hE9 := ex_X6_ask E h1
    simp only [List.mem_cons, List.not_mem_nil, or_false] at hE9
    rcases hE9 with rfl | rfl
    · refine vx_catch hc.2.2.1 [] ⟨0, 9, 12, 25⟩ [⟨0, 9, 15, 31⟩] hTB (fun _ hz => absurd hz List.not_mem_nil) (by decide) (by decide) (hc.2.2.2 _ q646) (hk.2.1.use nq680) hq hv hE ?_
      refine lv_astore_n (lv' := [(3, .ref q9), (0, .ref (gA g 0)), (1, .int a1), (2, .ref (gA g 169))]) hx hb dL_ask_12 rfl hl (by decide) rfl (fun ls hl => ?_)
      refine lv_iconst (v := 1) hx hb dL_ask_13 (by decide) ?_
      refine W.widen (k := 2) (n := 12) (Nat.le_of_ble_eq_true rfl) (Nat.le_of_ble_eq_true rfl) ?_
      exact W.iret (v := 1) hx hb hr (fun t9 ht hW => ke_i hw ht (by rw [h1]; decide +kernel) (if_neg (by rw [h1]; exact Option.some_ne_none _)).symm) hw.2.2.2 dL_ask_14
    · refine vx_catch hc.2.2.1 [⟨0, 9, 12, 25⟩] ⟨0, 9, 15, 31⟩ [] hTB (List.forall_mem_cons.mpr ⟨Or.inr ⟨by decide, _, hc.2.2.2 _ q646, hk.2.2.2.2.2.2.2.1 ("java/lang/UnsupportedOperationException", "java/lang/IndexOutOfBoundsException") (by decide +kernel)⟩, fun _ hz => absurd hz List.not_mem_nil⟩) (by decide) (by decide) (hc.2.2.2 _ q695) (hk.2.1.use nq711) hq hv hE ?_
      refine lv_astore_n (lv' := [(3, .ref q9), (0, .ref (gA g 0)), (1, .int a1), (2, .ref (gA g 169))]) hx hb dL_ask_15 rfl hl (by decide) rfl (fun ls hl => ?_)
      refine lv_iconst (v := 2) hx hb dL_ask_16 (by decide) ?_
      refine W.widen (k := 2) (n := 12) (Nat.le_of_ble_eq_true rfl) (Nat.le_of_ble_eq_true rfl) ?_
      exact W.iret (v := 2) hx hb hr (fun t9 ht hW => ke_i hw ht (by rw [h1]; decide +kernel) (if_neg (by rw [h1]; exact Option.some_ne_none _)).symm) hw.2.2.2 dL_ask_17
  · refine lv_i2l hx hb dL_ask_7 rfl ?_
    refine k_last hc hk hw (v := ((f_X6_ask a1 B).1).toInt64) (x' := (xB (f_X2_keep 9 a1 0 0 0 S) 0 ((f_X6_ask a1 B).2) (y.1, vp_updL y.2.1 0 (((f_X6_ask a1 B).1).toInt64), y.2.2))) rfl dL_ask_8 (fun H locs hw => ?_)
    refine lv_goto (tgt := 18) hx hb dL_ask_9 (by decide) ?_
    refine lv_iconst (v := 0) hx hb dL_ask_18 (by decide) ?_
    refine W.widen (k := 2) (n := 12) (Nat.le_of_ble_eq_true rfl) (Nat.le_of_ble_eq_true rfl) ?_
    exact W.iret (v := 0) hx hb hr (fun t9 ht hW => ke_i hw ht (by rw [h1]; rfl) (by simp only [if_pos h1])) hw.2.2.2 dL_ask_19
set_option maxHeartbeats 4000000 in
set_option maxRecDepth 100000 in
theorem m_L_extend (l : Launch) (g : wG) (hfl : l.stackTraces = false) (S : Nat → BT) (B : BT) (y : (Nat → Nat → Int32) × (Nat → Int64) × (Nat → UInt64)) (a1 : Int32) (a2 : Int32) (n m9 : Nat) (hN : CN B n m9) (hev : ¬ S 2 0 1 < 0) : mW l yL_extend cL_extend 5 [(0, 10, 13, 25), (0, 10, 17, 13), (0, 10, 21, 31)] ({ frames := 11, cells := 4, slots := 24, locals := 255 } : Room) 4 24 g (xB S 0 B y) [.ref (gA g 0), .int a1, .int a2, .ref (gA g 169)] (kE (e_X6_extend a1 a2 B) ["java/lang/IndexOutOfBoundsException", "java/lang/IllegalArgumentException", "java/lang/UnsupportedOperationException"]) (if e_X6_extend a1 a2 B = none then (xB (f_X2_keep 10 a1 a2 0 0 S) 0 ((f_X6_extend a1 a2 B).2) (y.1, vp_updL y.2.1 0 (((f_X6_extend a1 a2 B).1).toInt64), y.2.2)) else (xB S 0 B y)) := by
  refine va_MetW (cc := cL_extend) (maxL := 5) (ret := some .int) (by decide) rfl ?_
  intro p9 e s m args below meth c s₁ BL hml hv
  obtain ⟨rfl, hk, hPB⟩ := hv
  have hx := BL.exec
  have hb := BL.bytes
  have hc : CX p9 c cL_extend s _ m RL := ⟨hx, hb, findClass_of_methodNamed BL.named, fun w h => atoms_spec BL.pre w (List.mem_cons_of_mem _ h)⟩
  have hTB : c.exceptionTable.toList = tableOf [(0, 10, 13, 25), (0, 10, 17, 13), (0, 10, 21, 31)] := vx_table (x := yL_extend) BL (atoms_spec (ws := wsH yL_extend cL_extend 5 (some .int) [(0, 10, 13, 25), (0, 10, 17, 13), (0, 10, 21, 31)]) BL.pre (Cond.codeWith yL_extend cL_extend 5 (some .int) [(0, 10, 13, 25), (0, 10, 17, 13), (0, 10, 21, 31)]) List.mem_cons_self)
  have hr := BL.returns
  have hlocks := BL.notSynchronized
  have hw : WS g s (xB S 0 B y) s.heap [] := ⟨hPB, va_S.rf⟩
  have hl := lv_entry ([.ref (gA g 0), .int a1, .int a2, .ref (gA g 169)]) (n := 5) (Nat.le_of_ble_eq_true rfl)
  rw [lg_entry_eq]
  generalize (lg_sl ([.ref (gA g 0), .int a1, .int a2, .ref (gA g 169)]) ++ List.replicate (5 - (lg_sl ([.ref (gA g 0), .int a1, .int a2, .ref (gA g 169)])).length) Slot.unset).toArray = ls at hl ⊢
  have hl : lv_has ls 5 [(0, .ref (gA g 0)), (1, .int a1), (2, .int a2), (3, .ref (gA g 169))] := hl
  refine lv_aload_n hx hb dL_extend_0 rfl (lv_at hl 3 rfl) ?_
  refine lv_iconst (v := 0) hx hb dL_extend_1 (by decide) ?_
  refine lv_aload_n hx hb dL_extend_2 rfl (lv_at hl 0 rfl) ?_
  refine lv_iload_n hx hb dL_extend_3 rfl (lv_at hl 1 rfl) ?_
  refine lv_iload_n hx hb dL_extend_4 rfl (lv_at hl 2 rfl) ?_
  refine kx_i hw (vx_runV (As := [.int a1, .int a2]) (rest := [.int 0, .ref (gA g 169)]) ⟨hx, hb, hml, hc.2.2.1, hc.2.2.2⟩ (m_X6_extend l g hfl S B y a1 a2 _ _ hN hev) (kw_V hc 2 q797 q798 q799 q1 q800 rfl rfl (by decide +kernel) ⟨Nat.le_of_ble_eq_true rfl, Nat.le_of_ble_eq_true rfl⟩) (kp_V hk hw at_G rfl) rfl rfl hl.1 rfl (lv_room (Nat.le_of_ble_eq_true rfl)) dL_extend_5 ⟨Nat.le_of_ble_eq_true rfl, Nat.le_of_ble_eq_true rfl⟩) (fun E ce q9 H locs h1 hw hq hv hE => ?_) (fun H locs h1 hw => ?_)
  · have hE9 := ex_X6_extend E h1
    simp only [List.mem_cons, List.not_mem_nil, or_false] at hE9
    rcases hE9 with rfl | rfl | rfl
    · refine vx_catch hc.2.2.1 [⟨0, 10, 13, 25⟩, ⟨0, 10, 17, 13⟩] ⟨0, 10, 21, 31⟩ [] hTB (List.forall_mem_cons.mpr ⟨Or.inr ⟨by decide, _, hc.2.2.2 _ q646, hk.2.2.2.2.2.2.2.1 ("java/lang/UnsupportedOperationException", "java/lang/IndexOutOfBoundsException") (by decide +kernel)⟩, List.forall_mem_cons.mpr ⟨Or.inr ⟨by decide, _, hc.2.2.2 _ q529, hk.2.2.2.2.2.2.2.1 ("java/lang/UnsupportedOperationException", "java/lang/IllegalArgumentException") (by decide +kernel)⟩, fun _ hz => absurd hz List.not_mem_nil⟩⟩) (by decide) (by decide) (hc.2.2.2 _ q695) (hk.2.1.use nq711) hq hv hE ?_
      refine lv_astore (lv' := [(4, .ref q9), (0, .ref (gA g 0)), (1, .int a1), (2, .int a2), (3, .ref (gA g 169))]) hx hb dL_extend_21 hl (by decide) rfl (fun ls hl => ?_)
      refine lv_iconst (v := 3) hx hb dL_extend_23 (by decide) ?_
      refine W.widen (k := 4) (n := 24) (Nat.le_of_ble_eq_true rfl) (Nat.le_of_ble_eq_true rfl) ?_
      exact W.iret (v := 3) hx hb hr (fun t9 ht hW => ke_i hw ht (by rw [h1]; decide +kernel) (if_neg (by rw [h1]; exact Option.some_ne_none _)).symm) hw.2.2.2 dL_extend_24
    · refine vx_catch hc.2.2.1 [] ⟨0, 10, 13, 25⟩ [⟨0, 10, 17, 13⟩, ⟨0, 10, 21, 31⟩] hTB (fun _ hz => absurd hz List.not_mem_nil) (by decide) (by decide) (hc.2.2.2 _ q646) (hk.2.1.use nq680) hq hv hE ?_
      refine lv_astore (lv' := [(4, .ref q9), (0, .ref (gA g 0)), (1, .int a1), (2, .int a2), (3, .ref (gA g 169))]) hx hb dL_extend_13 hl (by decide) rfl (fun ls hl => ?_)
      refine lv_iconst (v := 1) hx hb dL_extend_15 (by decide) ?_
      refine W.widen (k := 4) (n := 24) (Nat.le_of_ble_eq_true rfl) (Nat.le_of_ble_eq_true rfl) ?_
      exact W.iret (v := 1) hx hb hr (fun t9 ht hW => ke_i hw ht (by rw [h1]; decide +kernel) (if_neg (by rw [h1]; exact Option.some_ne_none _)).symm) hw.2.2.2 dL_extend_16
    · refine vx_catch hc.2.2.1 [⟨0, 10, 13, 25⟩] ⟨0, 10, 17, 13⟩ [⟨0, 10, 21, 31⟩] hTB (List.forall_mem_cons.mpr ⟨Or.inr ⟨by decide, _, hc.2.2.2 _ q646, hk.2.2.2.2.2.2.2.1 ("java/lang/IllegalArgumentException", "java/lang/IndexOutOfBoundsException") (by decide +kernel)⟩, fun _ hz => absurd hz List.not_mem_nil⟩) (by decide) (by decide) (hc.2.2.2 _ q529) (hk.2.1.use nq541) hq hv hE ?_
      refine lv_astore (lv' := [(4, .ref q9), (0, .ref (gA g 0)), (1, .int a1), (2, .int a2), (3, .ref (gA g 169))]) hx hb dL_extend_17 hl (by decide) rfl (fun ls hl => ?_)
      refine lv_iconst (v := 2) hx hb dL_extend_19 (by decide) ?_
      refine W.widen (k := 4) (n := 24) (Nat.le_of_ble_eq_true rfl) (Nat.le_of_ble_eq_true rfl) ?_
      exact W.iret (v := 2) hx hb hr (fun t9 ht hW => ke_i hw ht (by rw [h1]; decide +kernel) (if_neg (by rw [h1]; exact Option.some_ne_none _)).symm) hw.2.2.2 dL_extend_20
  · refine lv_i2l hx hb dL_extend_8 rfl ?_
    refine k_last hc hk hw (v := ((f_X6_extend a1 a2 B).1).toInt64) (x' := (xB (f_X2_keep 10 a1 a2 0 0 S) 0 ((f_X6_extend a1 a2 B).2) (y.1, vp_updL y.2.1 0 (((f_X6_extend a1 a2 B).1).toInt64), y.2.2))) rfl dL_extend_9 (fun H locs hw => ?_)
    refine lv_goto (tgt := 25) hx hb dL_extend_10 (by decide) ?_
    refine lv_iconst (v := 0) hx hb dL_extend_25 (by decide) ?_
    refine W.widen (k := 4) (n := 24) (Nat.le_of_ble_eq_true rfl) (Nat.le_of_ble_eq_true rfl) ?_
    exact W.iret (v := 0) hx hb hr (fun t9 ht hW => ke_i hw ht (by rw [h1]; rfl) (by simp only [if_pos h1])) hw.2.2.2 dL_extend_26
set_option maxHeartbeats 4000000 in
set_option maxRecDepth 100000 in
theorem m_L_remind (l : Launch) (g : wG) (hfl : l.stackTraces = false) (S : Nat → BT) (B : BT) (y : (Nat → Nat → Int32) × (Nat → Int64) × (Nat → UInt64)) (a1 : Int32) (n m9 : Nat) (hN : CN B n m9) (hev : ¬ S 2 0 1 < 0) : mW l yL_remind cL_remind 4 [(0, 9, 12, 25), (0, 9, 15, 31)] ({ frames := 11, cells := 3, slots := 18, locals := 254 } : Room) 3 18 g (xB S 0 B y) [.ref (gA g 0), .int a1, .ref (gA g 169)] (kE (e_X6_remind a1 B) ["java/lang/IndexOutOfBoundsException", "java/lang/UnsupportedOperationException"]) (if e_X6_remind a1 B = none then (xB (f_X2_keep 11 a1 0 0 0 S) 0 ((f_X6_remind a1 B).2) (y.1, vp_updL y.2.1 0 (((f_X6_remind a1 B).1).toInt64), y.2.2)) else (xB S 0 B y)) := by
  refine va_MetW (cc := cL_remind) (maxL := 4) (ret := some .int) (by decide) rfl ?_
  intro p9 e s m args below meth c s₁ BL hml hv
  obtain ⟨rfl, hk, hPB⟩ := hv
  have hx := BL.exec
  have hb := BL.bytes
  have hc : CX p9 c cL_remind s _ m RL := ⟨hx, hb, findClass_of_methodNamed BL.named, fun w h => atoms_spec BL.pre w (List.mem_cons_of_mem _ h)⟩
  have hTB : c.exceptionTable.toList = tableOf [(0, 9, 12, 25), (0, 9, 15, 31)] := vx_table (x := yL_remind) BL (atoms_spec (ws := wsH yL_remind cL_remind 4 (some .int) [(0, 9, 12, 25), (0, 9, 15, 31)]) BL.pre (Cond.codeWith yL_remind cL_remind 4 (some .int) [(0, 9, 12, 25), (0, 9, 15, 31)]) List.mem_cons_self)
  have hr := BL.returns
  have hlocks := BL.notSynchronized
  have hw : WS g s (xB S 0 B y) s.heap [] := ⟨hPB, va_S.rf⟩
  have hl := lv_entry ([.ref (gA g 0), .int a1, .ref (gA g 169)]) (n := 4) (Nat.le_of_ble_eq_true rfl)
  rw [lg_entry_eq]
  generalize (lg_sl ([.ref (gA g 0), .int a1, .ref (gA g 169)]) ++ List.replicate (4 - (lg_sl ([.ref (gA g 0), .int a1, .ref (gA g 169)])).length) Slot.unset).toArray = ls at hl ⊢
  have hl : lv_has ls 4 [(0, .ref (gA g 0)), (1, .int a1), (2, .ref (gA g 169))] := hl
  refine lv_aload_n hx hb dL_remind_0 rfl (lv_at hl 2 rfl) ?_
  refine lv_iconst (v := 0) hx hb dL_remind_1 (by decide) ?_
  refine lv_aload_n hx hb dL_remind_2 rfl (lv_at hl 0 rfl) ?_
  refine lv_iload_n hx hb dL_remind_3 rfl (lv_at hl 1 rfl) ?_
  refine kx_i hw (vx_runV (As := [.int a1]) (rest := [.int 0, .ref (gA g 169)]) ⟨hx, hb, hml, hc.2.2.1, hc.2.2.2⟩ (m_X6_remind l g hfl S B y a1 _ _ hN hev) (kw_V hc 1 q809 q810 q811 q1 q812 rfl rfl (by decide +kernel) ⟨Nat.le_of_ble_eq_true rfl, Nat.le_of_ble_eq_true rfl⟩) (kp_V hk hw at_G rfl) rfl rfl hl.1 rfl (lv_room (Nat.le_of_ble_eq_true rfl)) dL_remind_4 ⟨Nat.le_of_ble_eq_true rfl, Nat.le_of_ble_eq_true rfl⟩) (fun E ce q9 H locs h1 hw hq hv hE => ?_) (fun H locs h1 hw => ?_)
  · have hE9 := ex_X6_remind E h1
    simp only [List.mem_cons, List.not_mem_nil, or_false] at hE9
    rcases hE9 with rfl | rfl
    · refine vx_catch hc.2.2.1 [⟨0, 9, 12, 25⟩] ⟨0, 9, 15, 31⟩ [] hTB (List.forall_mem_cons.mpr ⟨Or.inr ⟨by decide, _, hc.2.2.2 _ q646, hk.2.2.2.2.2.2.2.1 ("java/lang/UnsupportedOperationException", "java/lang/IndexOutOfBoundsException") (by decide +kernel)⟩, fun _ hz => absurd hz List.not_mem_nil⟩) (by decide) (by decide) (hc.2.2.2 _ q695) (hk.2.1.use nq711) hq hv hE ?_
      refine lv_astore_n (lv' := [(3, .ref q9), (0, .ref (gA g 0)), (1, .int a1), (2, .ref (gA g 169))]) hx hb dL_remind_15 rfl hl (by decide) rfl (fun ls hl => ?_)
      refine lv_iconst (v := 2) hx hb dL_remind_16 (by decide) ?_
      refine W.widen (k := 3) (n := 18) (Nat.le_of_ble_eq_true rfl) (Nat.le_of_ble_eq_true rfl) ?_
      exact W.iret (v := 2) hx hb hr (fun t9 ht hW => ke_i hw ht (by rw [h1]; decide +kernel) (if_neg (by rw [h1]; exact Option.some_ne_none _)).symm) hw.2.2.2 dL_remind_17
    · refine vx_catch hc.2.2.1 [] ⟨0, 9, 12, 25⟩ [⟨0, 9, 15, 31⟩] hTB (fun _ hz => absurd hz List.not_mem_nil) (by decide) (by decide) (hc.2.2.2 _ q646) (hk.2.1.use nq680) hq hv hE ?_
      refine lv_astore_n (lv' := [(3, .ref q9), (0, .ref (gA g 0)), (1, .int a1), (2, .ref (gA g 169))]) hx hb dL_remind_12 rfl hl (by decide) rfl (fun ls hl => ?_)
      refine lv_iconst (v := 1) hx hb dL_remind_13 (by decide) ?_
      refine W.widen (k := 3) (n := 18) (Nat.le_of_ble_eq_true rfl) (Nat.le_of_ble_eq_true rfl) ?_
      exact W.iret (v := 1) hx hb hr (fun t9 ht hW => ke_i hw ht (by rw [h1]; decide +kernel) (if_neg (by rw [h1]; exact Option.some_ne_none _)).symm) hw.2.2.2 dL_remind_14
  · refine lv_i2l hx hb dL_remind_7 rfl ?_
    refine k_last hc hk hw (v := ((f_X6_remind a1 B).1).toInt64) (x' := (xB (f_X2_keep 11 a1 0 0 0 S) 0 ((f_X6_remind a1 B).2) (y.1, vp_updL y.2.1 0 (((f_X6_remind a1 B).1).toInt64), y.2.2))) rfl dL_remind_8 (fun H locs hw => ?_)
    refine lv_goto (tgt := 18) hx hb dL_remind_9 (by decide) ?_
    refine lv_iconst (v := 0) hx hb dL_remind_18 (by decide) ?_
    refine W.widen (k := 3) (n := 18) (Nat.le_of_ble_eq_true rfl) (Nat.le_of_ble_eq_true rfl) ?_
    exact W.iret (v := 0) hx hb hr (fun t9 ht hW => ke_i hw ht (by rw [h1]; rfl) (by simp only [if_pos h1])) hw.2.2.2 dL_remind_19
set_option maxHeartbeats 4000000 in
set_option maxRecDepth 100000 in
theorem m_L_answer (l : Launch) (g : wG) (hfl : l.stackTraces = false) (S : Nat → BT) (B : BT) (y : (Nat → Nat → Int32) × (Nat → Int64) × (Nat → UInt64)) (a1 : Int32) (n m9 : Nat) (hN : CN B n m9) (hev : ¬ S 2 0 1 < 0) : mW l yL_answer cL_answer 4 [(0, 9, 12, 25), (0, 9, 15, 31)] ({ frames := 11, cells := 2, slots := 12, locals := 253 } : Room) 2 12 g (xB S 0 B y) [.ref (gA g 0), .int a1, .ref (gA g 169)] (kE (e_X6_answer a1 B) ["java/lang/IndexOutOfBoundsException", "java/lang/UnsupportedOperationException"]) (if e_X6_answer a1 B = none then (xB (f_X2_keep 12 a1 0 0 0 S) 0 ((f_X6_answer a1 B).2) (y.1, vp_updL y.2.1 0 (((f_X6_answer a1 B).1).toInt64), y.2.2)) else (xB S 0 B y)) := by
  refine va_MetW (cc := cL_answer) (maxL := 4) (ret := some .int) (by decide) rfl ?_
  intro p9 e s m args below meth c s₁ BL hml hv
  obtain ⟨rfl, hk, hPB⟩ := hv
  have hx := BL.exec
  have hb := BL.bytes
  have hc : CX p9 c cL_answer s _ m RL := ⟨hx, hb, findClass_of_methodNamed BL.named, fun w h => atoms_spec BL.pre w (List.mem_cons_of_mem _ h)⟩
  have hTB : c.exceptionTable.toList = tableOf [(0, 9, 12, 25), (0, 9, 15, 31)] := vx_table (x := yL_answer) BL (atoms_spec (ws := wsH yL_answer cL_answer 4 (some .int) [(0, 9, 12, 25), (0, 9, 15, 31)]) BL.pre (Cond.codeWith yL_answer cL_answer 4 (some .int) [(0, 9, 12, 25), (0, 9, 15, 31)]) List.mem_cons_self)
  have hr := BL.returns
  have hlocks := BL.notSynchronized
  have hw : WS g s (xB S 0 B y) s.heap [] := ⟨hPB, va_S.rf⟩
  have hl := lv_entry ([.ref (gA g 0), .int a1, .ref (gA g 169)]) (n := 4) (Nat.le_of_ble_eq_true rfl)
  rw [lg_entry_eq]
  generalize (lg_sl ([.ref (gA g 0), .int a1, .ref (gA g 169)]) ++ List.replicate (4 - (lg_sl ([.ref (gA g 0), .int a1, .ref (gA g 169)])).length) Slot.unset).toArray = ls at hl ⊢
  have hl : lv_has ls 4 [(0, .ref (gA g 0)), (1, .int a1), (2, .ref (gA g 169))] := hl
  refine lv_aload_n hx hb dL_answer_0 rfl (lv_at hl 2 rfl) ?_
  refine lv_iconst (v := 0) hx hb dL_answer_1 (by decide) ?_
  refine lv_aload_n hx hb dL_answer_2 rfl (lv_at hl 0 rfl) ?_
  refine lv_iload_n hx hb dL_answer_3 rfl (lv_at hl 1 rfl) ?_
  refine kx_i hw (vx_runV (As := [.int a1]) (rest := [.int 0, .ref (gA g 169)]) ⟨hx, hb, hml, hc.2.2.1, hc.2.2.2⟩ (m_X6_answer l g hfl S B y a1 _ _ hN hev) (kw_V hc 1 q817 q818 q819 q1 q820 rfl rfl (by decide +kernel) ⟨Nat.le_of_ble_eq_true rfl, Nat.le_of_ble_eq_true rfl⟩) (kp_V hk hw at_G rfl) rfl rfl hl.1 rfl (lv_room (Nat.le_of_ble_eq_true rfl)) dL_answer_4 ⟨Nat.le_of_ble_eq_true rfl, Nat.le_of_ble_eq_true rfl⟩) (fun E ce q9 H locs h1 hw hq hv hE => ?_) (fun H locs h1 hw => ?_)
  · have hE9 := ex_X6_answer E h1
    simp only [List.mem_cons, List.not_mem_nil, or_false] at hE9
    rcases hE9 with rfl | rfl
    · refine vx_catch hc.2.2.1 [] ⟨0, 9, 12, 25⟩ [⟨0, 9, 15, 31⟩] hTB (fun _ hz => absurd hz List.not_mem_nil) (by decide) (by decide) (hc.2.2.2 _ q646) (hk.2.1.use nq680) hq hv hE ?_
      refine lv_astore_n (lv' := [(3, .ref q9), (0, .ref (gA g 0)), (1, .int a1), (2, .ref (gA g 169))]) hx hb dL_answer_12 rfl hl (by decide) rfl (fun ls hl => ?_)
      refine lv_iconst (v := 1) hx hb dL_answer_13 (by decide) ?_
      refine W.widen (k := 2) (n := 12) (Nat.le_of_ble_eq_true rfl) (Nat.le_of_ble_eq_true rfl) ?_
      exact W.iret (v := 1) hx hb hr (fun t9 ht hW => ke_i hw ht (by rw [h1]; decide +kernel) (if_neg (by rw [h1]; exact Option.some_ne_none _)).symm) hw.2.2.2 dL_answer_14
    · refine vx_catch hc.2.2.1 [⟨0, 9, 12, 25⟩] ⟨0, 9, 15, 31⟩ [] hTB (List.forall_mem_cons.mpr ⟨Or.inr ⟨by decide, _, hc.2.2.2 _ q646, hk.2.2.2.2.2.2.2.1 ("java/lang/UnsupportedOperationException", "java/lang/IndexOutOfBoundsException") (by decide +kernel)⟩, fun _ hz => absurd hz List.not_mem_nil⟩) (by decide) (by decide) (hc.2.2.2 _ q695) (hk.2.1.use nq711) hq hv hE ?_
      refine lv_astore_n (lv' := [(3, .ref q9), (0, .ref (gA g 0)), (1, .int a1), (2, .ref (gA g 169))]) hx hb dL_answer_15 rfl hl (by decide) rfl (fun ls hl => ?_)
      refine lv_iconst (v := 2) hx hb dL_answer_16 (by decide) ?_
      refine W.widen (k := 2) (n := 12) (Nat.le_of_ble_eq_true rfl) (Nat.le_of_ble_eq_true rfl) ?_
      exact W.iret (v := 2) hx hb hr (fun t9 ht hW => ke_i hw ht (by rw [h1]; decide +kernel) (if_neg (by rw [h1]; exact Option.some_ne_none _)).symm) hw.2.2.2 dL_answer_17
  · refine lv_i2l hx hb dL_answer_7 rfl ?_
    refine k_last hc hk hw (v := ((f_X6_answer a1 B).1).toInt64) (x' := (xB (f_X2_keep 12 a1 0 0 0 S) 0 ((f_X6_answer a1 B).2) (y.1, vp_updL y.2.1 0 (((f_X6_answer a1 B).1).toInt64), y.2.2))) rfl dL_answer_8 (fun H locs hw => ?_)
    refine lv_goto (tgt := 18) hx hb dL_answer_9 (by decide) ?_
    refine lv_iconst (v := 0) hx hb dL_answer_18 (by decide) ?_
    refine W.widen (k := 2) (n := 12) (Nat.le_of_ble_eq_true rfl) (Nat.le_of_ble_eq_true rfl) ?_
    exact W.iret (v := 0) hx hb hr (fun t9 ht hW => ke_i hw ht (by rw [h1]; rfl) (by simp only [if_pos h1])) hw.2.2.2 dL_answer_19
set_option maxHeartbeats 4000000 in
set_option maxRecDepth 100000 in
theorem m_L_takeSilence (l : Launch) (g : wG) (hfl : l.stackTraces = false) (S : Nat → BT) (B : BT) (y : (Nat → Nat → Int32) × (Nat → Int64) × (Nat → UInt64)) (a1 : Int32) (n m9 : Nat) (hN : CN B n m9) (hev : ¬ S 2 0 1 < 0) : mW l yL_takeSilence cL_takeSilence 4 [(0, 9, 12, 25), (0, 9, 15, 31)] ({ frames := 11, cells := 3, slots := 18, locals := 254 } : Room) 3 18 g (xB S 0 B y) [.ref (gA g 0), .int a1, .ref (gA g 169)] (kE (e_X6_takeSilence a1 B) ["java/lang/IndexOutOfBoundsException", "java/lang/UnsupportedOperationException"]) (if e_X6_takeSilence a1 B = none then (xB (f_X2_keep 13 a1 0 0 0 S) 0 ((f_X6_takeSilence a1 B).2) (y.1, vp_updL y.2.1 0 (((f_X6_takeSilence a1 B).1).toInt64), y.2.2)) else (xB S 0 B y)) := by
  refine va_MetW (cc := cL_takeSilence) (maxL := 4) (ret := some .int) (by decide) rfl ?_
  intro p9 e s m args below meth c s₁ BL hml hv
  obtain ⟨rfl, hk, hPB⟩ := hv
  have hx := BL.exec
  have hb := BL.bytes
  have hc : CX p9 c cL_takeSilence s _ m RL := ⟨hx, hb, findClass_of_methodNamed BL.named, fun w h => atoms_spec BL.pre w (List.mem_cons_of_mem _ h)⟩
  have hTB : c.exceptionTable.toList = tableOf [(0, 9, 12, 25), (0, 9, 15, 31)] := vx_table (x := yL_takeSilence) BL (atoms_spec (ws := wsH yL_takeSilence cL_takeSilence 4 (some .int) [(0, 9, 12, 25), (0, 9, 15, 31)]) BL.pre (Cond.codeWith yL_takeSilence cL_takeSilence 4 (some .int) [(0, 9, 12, 25), (0, 9, 15, 31)]) List.mem_cons_self)
  have hr := BL.returns
  have hlocks := BL.notSynchronized
  have hw : WS g s (xB S 0 B y) s.heap [] := ⟨hPB, va_S.rf⟩
  have hl := lv_entry ([.ref (gA g 0), .int a1, .ref (gA g 169)]) (n := 4) (Nat.le_of_ble_eq_true rfl)
  rw [lg_entry_eq]
  generalize (lg_sl ([.ref (gA g 0), .int a1, .ref (gA g 169)]) ++ List.replicate (4 - (lg_sl ([.ref (gA g 0), .int a1, .ref (gA g 169)])).length) Slot.unset).toArray = ls at hl ⊢
  have hl : lv_has ls 4 [(0, .ref (gA g 0)), (1, .int a1), (2, .ref (gA g 169))] := hl
  refine lv_aload_n hx hb dL_takeSilence_0 rfl (lv_at hl 2 rfl) ?_
  refine lv_iconst (v := 0) hx hb dL_takeSilence_1 (by decide) ?_
  refine lv_aload_n hx hb dL_takeSilence_2 rfl (lv_at hl 0 rfl) ?_
  refine lv_iload_n hx hb dL_takeSilence_3 rfl (lv_at hl 1 rfl) ?_
  refine kx_i hw (vx_runV (As := [.int a1]) (rest := [.int 0, .ref (gA g 169)]) ⟨hx, hb, hml, hc.2.2.1, hc.2.2.2⟩ (m_X6_takeSilence l g hfl S B y a1 _ _ hN hev) (kw_V hc 1 q824 q825 q826 q1 q827 rfl rfl (by decide +kernel) ⟨Nat.le_of_ble_eq_true rfl, Nat.le_of_ble_eq_true rfl⟩) (kp_V hk hw at_G rfl) rfl rfl hl.1 rfl (lv_room (Nat.le_of_ble_eq_true rfl)) dL_takeSilence_4 ⟨Nat.le_of_ble_eq_true rfl, Nat.le_of_ble_eq_true rfl⟩) (fun E ce q9 H locs h1 hw hq hv hE => ?_) (fun H locs h1 hw => ?_)
  · have hE9 := ex_X6_takeSilence E h1
    simp only [List.mem_cons, List.not_mem_nil, or_false] at hE9
    rcases hE9 with rfl | rfl
    · refine vx_catch hc.2.2.1 [⟨0, 9, 12, 25⟩] ⟨0, 9, 15, 31⟩ [] hTB (List.forall_mem_cons.mpr ⟨Or.inr ⟨by decide, _, hc.2.2.2 _ q646, hk.2.2.2.2.2.2.2.1 ("java/lang/UnsupportedOperationException", "java/lang/IndexOutOfBoundsException") (by decide +kernel)⟩, fun _ hz => absurd hz List.not_mem_nil⟩) (by decide) (by decide) (hc.2.2.2 _ q695) (hk.2.1.use nq711) hq hv hE ?_
      refine lv_astore_n (lv' := [(3, .ref q9), (0, .ref (gA g 0)), (1, .int a1), (2, .ref (gA g 169))]) hx hb dL_takeSilence_15 rfl hl (by decide) rfl (fun ls hl => ?_)
      refine lv_iconst (v := 2) hx hb dL_takeSilence_16 (by decide) ?_
      refine W.widen (k := 3) (n := 18) (Nat.le_of_ble_eq_true rfl) (Nat.le_of_ble_eq_true rfl) ?_
      exact W.iret (v := 2) hx hb hr (fun t9 ht hW => ke_i hw ht (by rw [h1]; decide +kernel) (if_neg (by rw [h1]; exact Option.some_ne_none _)).symm) hw.2.2.2 dL_takeSilence_17
    · refine vx_catch hc.2.2.1 [] ⟨0, 9, 12, 25⟩ [⟨0, 9, 15, 31⟩] hTB (fun _ hz => absurd hz List.not_mem_nil) (by decide) (by decide) (hc.2.2.2 _ q646) (hk.2.1.use nq680) hq hv hE ?_
      refine lv_astore_n (lv' := [(3, .ref q9), (0, .ref (gA g 0)), (1, .int a1), (2, .ref (gA g 169))]) hx hb dL_takeSilence_12 rfl hl (by decide) rfl (fun ls hl => ?_)
      refine lv_iconst (v := 1) hx hb dL_takeSilence_13 (by decide) ?_
      refine W.widen (k := 3) (n := 18) (Nat.le_of_ble_eq_true rfl) (Nat.le_of_ble_eq_true rfl) ?_
      exact W.iret (v := 1) hx hb hr (fun t9 ht hW => ke_i hw ht (by rw [h1]; decide +kernel) (if_neg (by rw [h1]; exact Option.some_ne_none _)).symm) hw.2.2.2 dL_takeSilence_14
  · refine lv_i2l hx hb dL_takeSilence_7 rfl ?_
    refine k_last hc hk hw (v := ((f_X6_takeSilence a1 B).1).toInt64) (x' := (xB (f_X2_keep 13 a1 0 0 0 S) 0 ((f_X6_takeSilence a1 B).2) (y.1, vp_updL y.2.1 0 (((f_X6_takeSilence a1 B).1).toInt64), y.2.2))) rfl dL_takeSilence_8 (fun H locs hw => ?_)
    refine lv_goto (tgt := 18) hx hb dL_takeSilence_9 (by decide) ?_
    refine lv_iconst (v := 0) hx hb dL_takeSilence_18 (by decide) ?_
    refine W.widen (k := 3) (n := 18) (Nat.le_of_ble_eq_true rfl) (Nat.le_of_ble_eq_true rfl) ?_
    exact W.iret (v := 0) hx hb hr (fun t9 ht hW => ke_i hw ht (by rw [h1]; rfl) (by simp only [if_pos h1])) hw.2.2.2 dL_takeSilence_19
set_option maxHeartbeats 4000000 in
set_option maxRecDepth 100000 in
theorem m_L_isOverdue (l : Launch) (g : wG) (hfl : l.stackTraces = false) (S : Nat → BT) (B : BT) (y : (Nat → Nat → Int32) × (Nat → Int64) × (Nat → UInt64)) (a1 : Int32) (n m9 : Nat) (hN : CN B n m9) (hev : ¬ S 2 0 1 < 0) : mW l yL_isOverdue cL_isOverdue 4 [(0, 16, 19, 25)] ({ frames := 8, cells := 1, slots := 6, locals := 142 } : Room) 1 6 g (xB S 0 B y) [.ref (gA g 0), .int a1, .ref (gA g 169)] (kE (e_X6_isOverdue a1 B) ["java/lang/IndexOutOfBoundsException"]) (if e_X6_isOverdue a1 B = none then (xB S 0 B (y.1, vp_updL y.2.1 0 (if (f_X6_isOverdue a1 B) = 0 then 0 else 1), y.2.2)) else (xB S 0 B y)) := by
  refine va_MetW (cc := cL_isOverdue) (maxL := 4) (ret := some .int) (by decide) rfl ?_
  intro p9 e s m args below meth c s₁ BL hml hv
  obtain ⟨rfl, hk, hPB⟩ := hv
  have hx := BL.exec
  have hb := BL.bytes
  have hc : CX p9 c cL_isOverdue s _ m RL := ⟨hx, hb, findClass_of_methodNamed BL.named, fun w h => atoms_spec BL.pre w (List.mem_cons_of_mem _ h)⟩
  have hTB : c.exceptionTable.toList = tableOf [(0, 16, 19, 25)] := vx_table (x := yL_isOverdue) BL (atoms_spec (ws := wsH yL_isOverdue cL_isOverdue 4 (some .int) [(0, 16, 19, 25)]) BL.pre (Cond.codeWith yL_isOverdue cL_isOverdue 4 (some .int) [(0, 16, 19, 25)]) List.mem_cons_self)
  have hr := BL.returns
  have hlocks := BL.notSynchronized
  have hw : WS g s (xB S 0 B y) s.heap [] := ⟨hPB, va_S.rf⟩
  have hl := lv_entry ([.ref (gA g 0), .int a1, .ref (gA g 169)]) (n := 4) (Nat.le_of_ble_eq_true rfl)
  rw [lg_entry_eq]
  generalize (lg_sl ([.ref (gA g 0), .int a1, .ref (gA g 169)]) ++ List.replicate (4 - (lg_sl ([.ref (gA g 0), .int a1, .ref (gA g 169)])).length) Slot.unset).toArray = ls at hl ⊢
  have hl : lv_has ls 4 [(0, .ref (gA g 0)), (1, .int a1), (2, .ref (gA g 169))] := hl
  refine lv_aload_n hx hb dL_isOverdue_0 rfl (lv_at hl 2 rfl) ?_
  refine lv_iconst (v := 0) hx hb dL_isOverdue_1 (by decide) ?_
  refine lv_aload_n hx hb dL_isOverdue_2 rfl (lv_at hl 0 rfl) ?_
  refine lv_iload_n hx hb dL_isOverdue_3 rfl (lv_at hl 1 rfl) ?_
  refine kx_i hw (vx_runV (As := [.int a1]) (rest := [.int 0, .ref (gA g 169)]) ⟨hx, hb, hml, hc.2.2.1, hc.2.2.2⟩ (m_X6_isOverdue l g hfl S B y a1 _ _ hN) (kw_V hc 1 q832 q833 q834 q1 q835 rfl rfl (by decide +kernel) ⟨Nat.le_of_ble_eq_true rfl, Nat.le_of_ble_eq_true rfl⟩) (kp_V hk hw at_G rfl) rfl rfl hl.1 rfl (lv_room (Nat.le_of_ble_eq_true rfl)) dL_isOverdue_4 ⟨Nat.le_of_ble_eq_true rfl, Nat.le_of_ble_eq_true rfl⟩) (fun E ce q9 H locs h1 hw hq hv hE => ?_) (fun H locs h1 hw => ?_)
  · have hE9 := ex_X6_isOverdue E h1
    simp only [List.mem_cons, List.not_mem_nil, or_false] at hE9
    obtain rfl := hE9
    refine vx_catch hc.2.2.1 [] ⟨0, 16, 19, 25⟩ [] hTB (fun _ hz => absurd hz List.not_mem_nil) (by decide) (by decide) (hc.2.2.2 _ q646) (hk.2.1.use nq680) hq hv hE ?_
    refine lv_astore_n (lv' := [(3, .ref q9), (0, .ref (gA g 0)), (1, .int a1), (2, .ref (gA g 169))]) hx hb dL_isOverdue_19 rfl hl (by decide) rfl (fun ls hl => ?_)
    refine lv_iconst (v := 1) hx hb dL_isOverdue_20 (by decide) ?_
    refine W.widen (k := 1) (n := 6) (Nat.le_of_ble_eq_true rfl) (Nat.le_of_ble_eq_true rfl) ?_
    exact W.iret (v := 1) hx hb hr (fun t9 ht hW => ke_i hw ht (by rw [h1]; decide +kernel) (if_neg (by rw [h1]; exact Option.some_ne_none _)).symm) hw.2.2.2 dL_isOverdue_21
  · refine lv_if_eq (tgt := 14) hx hb dL_isOverdue_7 (by decide) (fun h3 => ?_) (fun h3 => ?_)
    · refine lv_lconst (v := 0) hx hb dL_isOverdue_14 (by decide) ?_
      refine k_last hc hk hw (v := 0) (x' := (xB S 0 B (y.1, vp_updL y.2.1 0 0, y.2.2))) rfl dL_isOverdue_15 (fun H locs hw => ?_)
      refine lv_goto (tgt := 22) hx hb dL_isOverdue_16 (by decide) ?_
      refine lv_iconst (v := 0) hx hb dL_isOverdue_22 (by decide) ?_
      refine W.widen (k := 1) (n := 6) (Nat.le_of_ble_eq_true rfl) (Nat.le_of_ble_eq_true rfl) ?_
      exact W.iret (v := 0) hx hb hr (fun t9 ht hW => ke_i hw ht (by rw [h1]; rfl) (by simp only [if_pos h1, if_pos h3])) hw.2.2.2 dL_isOverdue_23
    · refine lv_lconst (v := 1) hx hb dL_isOverdue_10 (by decide) ?_
      refine lv_goto (tgt := 15) hx hb dL_isOverdue_11 (by decide) ?_
      refine k_last hc hk hw (v := 1) (x' := (xB S 0 B (y.1, vp_updL y.2.1 0 1, y.2.2))) rfl dL_isOverdue_15 (fun H locs hw => ?_)
      refine lv_goto (tgt := 22) hx hb dL_isOverdue_16 (by decide) ?_
      refine lv_iconst (v := 0) hx hb dL_isOverdue_22 (by decide) ?_
      refine W.widen (k := 1) (n := 6) (Nat.le_of_ble_eq_true rfl) (Nat.le_of_ble_eq_true rfl) ?_
      exact W.iret (v := 0) hx hb hr (fun t9 ht hW => ke_i hw ht (by rw [h1]; rfl) (by simp only [if_pos h1, if_neg h3])) hw.2.2.2 dL_isOverdue_23
set_option maxHeartbeats 4000000 in
set_option maxRecDepth 100000 in
theorem m_L_nextDue (l : Launch) (g : wG) (hfl : l.stackTraces = false) (S : Nat → BT) (B : BT) (y : (Nat → Nat → Int32) × (Nat → Int64) × (Nat → UInt64)) (n m9 : Nat) (hN : CN B n m9) (hev : ¬ S 2 0 1 < 0) : mW l yL_nextDue cL_nextDue 3 [(0, 8, 11, 76)] ({ frames := 7, cells := 1, slots := 6, locals := 121 } : Room) 1 6 g (xB S 0 B y) [.ref (gA g 0), .ref (gA g 169)] (kE (e_X6_nextDue B) ["java/util/NoSuchElementException"]) (if e_X6_nextDue B = none then (xB S 0 B (y.1, vp_updL y.2.1 0 ((f_X6_nextDue B).toInt64), y.2.2)) else (xB S 0 B y)) := by
  refine va_MetW (cc := cL_nextDue) (maxL := 3) (ret := some .int) (by decide) rfl ?_
  intro p9 e s m args below meth c s₁ BL hml hv
  obtain ⟨rfl, hk, hPB⟩ := hv
  have hx := BL.exec
  have hb := BL.bytes
  have hc : CX p9 c cL_nextDue s _ m RL := ⟨hx, hb, findClass_of_methodNamed BL.named, fun w h => atoms_spec BL.pre w (List.mem_cons_of_mem _ h)⟩
  have hTB : c.exceptionTable.toList = tableOf [(0, 8, 11, 76)] := vx_table (x := yL_nextDue) BL (atoms_spec (ws := wsH yL_nextDue cL_nextDue 3 (some .int) [(0, 8, 11, 76)]) BL.pre (Cond.codeWith yL_nextDue cL_nextDue 3 (some .int) [(0, 8, 11, 76)]) List.mem_cons_self)
  have hr := BL.returns
  have hlocks := BL.notSynchronized
  have hw : WS g s (xB S 0 B y) s.heap [] := ⟨hPB, va_S.rf⟩
  have hl := lv_entry ([.ref (gA g 0), .ref (gA g 169)]) (n := 3) (Nat.le_of_ble_eq_true rfl)
  rw [lg_entry_eq]
  generalize (lg_sl ([.ref (gA g 0), .ref (gA g 169)]) ++ List.replicate (3 - (lg_sl ([.ref (gA g 0), .ref (gA g 169)])).length) Slot.unset).toArray = ls at hl ⊢
  have hl : lv_has ls 3 [(0, .ref (gA g 0)), (1, .ref (gA g 169))] := hl
  refine lv_aload_n hx hb dL_nextDue_0 rfl (lv_at hl 1 rfl) ?_
  refine lv_iconst (v := 0) hx hb dL_nextDue_1 (by decide) ?_
  refine lv_aload_n hx hb dL_nextDue_2 rfl (lv_at hl 0 rfl) ?_
  refine kx_i hw (vx_runV (As := []) (rest := [.int 0, .ref (gA g 169)]) ⟨hx, hb, hml, hc.2.2.1, hc.2.2.2⟩ (m_X6_nextDue l g hfl S B y _ _ hN) (kw_V hc 0 q841 q842 q843 q1 q844 rfl rfl (by decide +kernel) ⟨Nat.le_of_ble_eq_true rfl, Nat.le_of_ble_eq_true rfl⟩) (kp_V hk hw at_G rfl) rfl rfl hl.1 rfl (lv_room (Nat.le_of_ble_eq_true rfl)) dL_nextDue_3 ⟨Nat.le_of_ble_eq_true rfl, Nat.le_of_ble_eq_true rfl⟩) (fun E ce q9 H locs h1 hw hq hv hE => ?_) (fun H locs h1 hw => ?_)
  · have hE9 := ex_X6_nextDue E h1
    simp only [List.mem_cons, List.not_mem_nil, or_false] at hE9
    obtain rfl := hE9
    refine vx_catch hc.2.2.1 [] ⟨0, 8, 11, 76⟩ [] hTB (fun _ hz => absurd hz List.not_mem_nil) (by decide) (by decide) (hc.2.2.2 _ q840) (hk.2.1.use nq855) hq hv hE ?_
    refine lv_astore_n (lv' := [(2, .ref q9), (0, .ref (gA g 0)), (1, .ref (gA g 169))]) hx hb dL_nextDue_11 rfl hl (by decide) rfl (fun ls hl => ?_)
    refine lv_iconst (v := 1) hx hb dL_nextDue_12 (by decide) ?_
    refine W.widen (k := 1) (n := 6) (Nat.le_of_ble_eq_true rfl) (Nat.le_of_ble_eq_true rfl) ?_
    exact W.iret (v := 1) hx hb hr (fun t9 ht hW => ke_i hw ht (by rw [h1]; decide +kernel) (if_neg (by rw [h1]; exact Option.some_ne_none _)).symm) hw.2.2.2 dL_nextDue_13
  · refine lv_i2l hx hb dL_nextDue_6 rfl ?_
    refine k_last hc hk hw (v := (f_X6_nextDue B).toInt64) (x' := (xB S 0 B (y.1, vp_updL y.2.1 0 ((f_X6_nextDue B).toInt64), y.2.2))) rfl dL_nextDue_7 (fun H locs hw => ?_)
    refine lv_goto (tgt := 14) hx hb dL_nextDue_8 (by decide) ?_
    refine lv_iconst (v := 0) hx hb dL_nextDue_14 (by decide) ?_
    refine W.widen (k := 1) (n := 6) (Nat.le_of_ble_eq_true rfl) (Nat.le_of_ble_eq_true rfl) ?_
    exact W.iret (v := 0) hx hb hr (fun t9 ht hW => ke_i hw ht (by rw [h1]; rfl) (by simp only [if_pos h1])) hw.2.2.2 dL_nextDue_15
set_option maxHeartbeats 4000000 in
set_option maxRecDepth 100000 in
theorem m_L_join (l : Launch) (g : wG) (hfl : l.stackTraces = false) (S : Nat → BT) (B : BT) (y : (Nat → Nat → Int32) × (Nat → Int64) × (Nat → UInt64)) (a1 : Int32) (a2 : Int32) (n m9 : Nat) (hN : CN B n m9) (hev : ¬ S 2 0 1 < 0) : mW l yL_join cL_join 5 [(0, 10, 13, 25), (0, 10, 17, 13), (0, 10, 21, 31)] ({ frames := 11, cells := 3, slots := 18, locals := 256 } : Room) 3 18 g (xB S 0 B y) [.ref (gA g 0), .int a1, .int a2, .ref (gA g 169)] (kE (e_X6_join a1 a2 B) ["java/lang/IndexOutOfBoundsException", "java/lang/IllegalArgumentException", "java/lang/UnsupportedOperationException"]) (if e_X6_join a1 a2 B = none then (xB (f_X2_keep 14 a1 a2 0 0 S) 0 ((f_X6_join a1 a2 B).2) (y.1, vp_updL y.2.1 0 (((f_X6_join a1 a2 B).1).toInt64), y.2.2)) else (xB S 0 B y)) := by
  refine va_MetW (cc := cL_join) (maxL := 5) (ret := some .int) (by decide) rfl ?_
  intro p9 e s m args below meth c s₁ BL hml hv
  obtain ⟨rfl, hk, hPB⟩ := hv
  have hx := BL.exec
  have hb := BL.bytes
  have hc : CX p9 c cL_join s _ m RL := ⟨hx, hb, findClass_of_methodNamed BL.named, fun w h => atoms_spec BL.pre w (List.mem_cons_of_mem _ h)⟩
  have hTB : c.exceptionTable.toList = tableOf [(0, 10, 13, 25), (0, 10, 17, 13), (0, 10, 21, 31)] := vx_table (x := yL_join) BL (atoms_spec (ws := wsH yL_join cL_join 5 (some .int) [(0, 10, 13, 25), (0, 10, 17, 13), (0, 10, 21, 31)]) BL.pre (Cond.codeWith yL_join cL_join 5 (some .int) [(0, 10, 13, 25), (0, 10, 17, 13), (0, 10, 21, 31)]) List.mem_cons_self)
  have hr := BL.returns
  have hlocks := BL.notSynchronized
  have hw : WS g s (xB S 0 B y) s.heap [] := ⟨hPB, va_S.rf⟩
  have hl := lv_entry ([.ref (gA g 0), .int a1, .int a2, .ref (gA g 169)]) (n := 5) (Nat.le_of_ble_eq_true rfl)
  rw [lg_entry_eq]
  generalize (lg_sl ([.ref (gA g 0), .int a1, .int a2, .ref (gA g 169)]) ++ List.replicate (5 - (lg_sl ([.ref (gA g 0), .int a1, .int a2, .ref (gA g 169)])).length) Slot.unset).toArray = ls at hl ⊢
  have hl : lv_has ls 5 [(0, .ref (gA g 0)), (1, .int a1), (2, .int a2), (3, .ref (gA g 169))] := hl
  refine lv_aload_n hx hb dL_join_0 rfl (lv_at hl 3 rfl) ?_
  refine lv_iconst (v := 0) hx hb dL_join_1 (by decide) ?_
  refine lv_aload_n hx hb dL_join_2 rfl (lv_at hl 0 rfl) ?_
  refine lv_iload_n hx hb dL_join_3 rfl (lv_at hl 1 rfl) ?_
  refine lv_iload_n hx hb dL_join_4 rfl (lv_at hl 2 rfl) ?_
  refine kx_i hw (vx_runV (As := [.int a1, .int a2]) (rest := [.int 0, .ref (gA g 169)]) ⟨hx, hb, hml, hc.2.2.1, hc.2.2.2⟩ (m_X6_join l g hfl S B y a1 a2 _ _ hN hev) (kw_V hc 2 q872 q873 q874 q1 q875 rfl rfl (by decide +kernel) ⟨Nat.le_of_ble_eq_true rfl, Nat.le_of_ble_eq_true rfl⟩) (kp_V hk hw at_G rfl) rfl rfl hl.1 rfl (lv_room (Nat.le_of_ble_eq_true rfl)) dL_join_5 ⟨Nat.le_of_ble_eq_true rfl, Nat.le_of_ble_eq_true rfl⟩) (fun E ce q9 H locs h1 hw hq hv hE => ?_) (fun H locs h1 hw => ?_)
  · have hE9 := ex_X6_join E h1
    simp only [List.mem_cons, List.not_mem_nil, or_false] at hE9
    rcases hE9 with rfl | rfl | rfl
    · refine vx_catch hc.2.2.1 [⟨0, 10, 13, 25⟩] ⟨0, 10, 17, 13⟩ [⟨0, 10, 21, 31⟩] hTB (List.forall_mem_cons.mpr ⟨Or.inr ⟨by decide, _, hc.2.2.2 _ q646, hk.2.2.2.2.2.2.2.1 ("java/lang/IllegalArgumentException", "java/lang/IndexOutOfBoundsException") (by decide +kernel)⟩, fun _ hz => absurd hz List.not_mem_nil⟩) (by decide) (by decide) (hc.2.2.2 _ q529) (hk.2.1.use nq541) hq hv hE ?_
      refine lv_astore (lv' := [(4, .ref q9), (0, .ref (gA g 0)), (1, .int a1), (2, .int a2), (3, .ref (gA g 169))]) hx hb dL_join_17 hl (by decide) rfl (fun ls hl => ?_)
      refine lv_iconst (v := 2) hx hb dL_join_19 (by decide) ?_
      refine W.widen (k := 3) (n := 18) (Nat.le_of_ble_eq_true rfl) (Nat.le_of_ble_eq_true rfl) ?_
      exact W.iret (v := 2) hx hb hr (fun t9 ht hW => ke_i hw ht (by rw [h1]; decide +kernel) (if_neg (by rw [h1]; exact Option.some_ne_none _)).symm) hw.2.2.2 dL_join_20
    · refine vx_catch hc.2.2.1 [⟨0, 10, 13, 25⟩, ⟨0, 10, 17, 13⟩] ⟨0, 10, 21, 31⟩ [] hTB (List.forall_mem_cons.mpr ⟨Or.inr ⟨by decide, _, hc.2.2.2 _ q646, hk.2.2.2.2.2.2.2.1 ("java/lang/UnsupportedOperationException", "java/lang/IndexOutOfBoundsException") (by decide +kernel)⟩, List.forall_mem_cons.mpr ⟨Or.inr ⟨by decide, _, hc.2.2.2 _ q529, hk.2.2.2.2.2.2.2.1 ("java/lang/UnsupportedOperationException", "java/lang/IllegalArgumentException") (by decide +kernel)⟩, fun _ hz => absurd hz List.not_mem_nil⟩⟩) (by decide) (by decide) (hc.2.2.2 _ q695) (hk.2.1.use nq711) hq hv hE ?_
      refine lv_astore (lv' := [(4, .ref q9), (0, .ref (gA g 0)), (1, .int a1), (2, .int a2), (3, .ref (gA g 169))]) hx hb dL_join_21 hl (by decide) rfl (fun ls hl => ?_)
      refine lv_iconst (v := 3) hx hb dL_join_23 (by decide) ?_
      refine W.widen (k := 3) (n := 18) (Nat.le_of_ble_eq_true rfl) (Nat.le_of_ble_eq_true rfl) ?_
      exact W.iret (v := 3) hx hb hr (fun t9 ht hW => ke_i hw ht (by rw [h1]; decide +kernel) (if_neg (by rw [h1]; exact Option.some_ne_none _)).symm) hw.2.2.2 dL_join_24
    · refine vx_catch hc.2.2.1 [] ⟨0, 10, 13, 25⟩ [⟨0, 10, 17, 13⟩, ⟨0, 10, 21, 31⟩] hTB (fun _ hz => absurd hz List.not_mem_nil) (by decide) (by decide) (hc.2.2.2 _ q646) (hk.2.1.use nq680) hq hv hE ?_
      refine lv_astore (lv' := [(4, .ref q9), (0, .ref (gA g 0)), (1, .int a1), (2, .int a2), (3, .ref (gA g 169))]) hx hb dL_join_13 hl (by decide) rfl (fun ls hl => ?_)
      refine lv_iconst (v := 1) hx hb dL_join_15 (by decide) ?_
      refine W.widen (k := 3) (n := 18) (Nat.le_of_ble_eq_true rfl) (Nat.le_of_ble_eq_true rfl) ?_
      exact W.iret (v := 1) hx hb hr (fun t9 ht hW => ke_i hw ht (by rw [h1]; decide +kernel) (if_neg (by rw [h1]; exact Option.some_ne_none _)).symm) hw.2.2.2 dL_join_16
  · refine lv_i2l hx hb dL_join_8 rfl ?_
    refine k_last hc hk hw (v := ((f_X6_join a1 a2 B).1).toInt64) (x' := (xB (f_X2_keep 14 a1 a2 0 0 S) 0 ((f_X6_join a1 a2 B).2) (y.1, vp_updL y.2.1 0 (((f_X6_join a1 a2 B).1).toInt64), y.2.2))) rfl dL_join_9 (fun H locs hw => ?_)
    refine lv_goto (tgt := 25) hx hb dL_join_10 (by decide) ?_
    refine lv_iconst (v := 0) hx hb dL_join_25 (by decide) ?_
    refine W.widen (k := 3) (n := 18) (Nat.le_of_ble_eq_true rfl) (Nat.le_of_ble_eq_true rfl) ?_
    exact W.iret (v := 0) hx hb hr (fun t9 ht hW => ke_i hw ht (by rw [h1]; rfl) (by simp only [if_pos h1])) hw.2.2.2 dL_join_26
set_option maxHeartbeats 4000000 in
set_option maxRecDepth 100000 in
theorem m_L_part (l : Launch) (g : wG) (hfl : l.stackTraces = false) (S : Nat → BT) (B : BT) (y : (Nat → Nat → Int32) × (Nat → Int64) × (Nat → UInt64)) (a1 : Int32) (n m9 : Nat) (hN : CN B n m9) (hev : ¬ S 2 0 1 < 0) : mW l yL_part cL_part 4 [(0, 9, 12, 25), (0, 9, 15, 31)] ({ frames := 11, cells := 2, slots := 12, locals := 254 } : Room) 2 12 g (xB S 0 B y) [.ref (gA g 0), .int a1, .ref (gA g 169)] (kE (e_X6_part a1 B) ["java/lang/IndexOutOfBoundsException", "java/lang/UnsupportedOperationException"]) (if e_X6_part a1 B = none then (xB (f_X2_keep 15 a1 0 0 0 S) 0 ((f_X6_part a1 B).2) (y.1, vp_updL y.2.1 0 (((f_X6_part a1 B).1).toInt64), y.2.2)) else (xB S 0 B y)) := by
  refine va_MetW (cc := cL_part) (maxL := 4) (ret := some .int) (by decide) rfl ?_
  intro p9 e s m args below meth c s₁ BL hml hv
  obtain ⟨rfl, hk, hPB⟩ := hv
  have hx := BL.exec
  have hb := BL.bytes
  have hc : CX p9 c cL_part s _ m RL := ⟨hx, hb, findClass_of_methodNamed BL.named, fun w h => atoms_spec BL.pre w (List.mem_cons_of_mem _ h)⟩
  have hTB : c.exceptionTable.toList = tableOf [(0, 9, 12, 25), (0, 9, 15, 31)] := vx_table (x := yL_part) BL (atoms_spec (ws := wsH yL_part cL_part 4 (some .int) [(0, 9, 12, 25), (0, 9, 15, 31)]) BL.pre (Cond.codeWith yL_part cL_part 4 (some .int) [(0, 9, 12, 25), (0, 9, 15, 31)]) List.mem_cons_self)
  have hr := BL.returns
  have hlocks := BL.notSynchronized
  have hw : WS g s (xB S 0 B y) s.heap [] := ⟨hPB, va_S.rf⟩
  have hl := lv_entry ([.ref (gA g 0), .int a1, .ref (gA g 169)]) (n := 4) (Nat.le_of_ble_eq_true rfl)
  rw [lg_entry_eq]
  generalize (lg_sl ([.ref (gA g 0), .int a1, .ref (gA g 169)]) ++ List.replicate (4 - (lg_sl ([.ref (gA g 0), .int a1, .ref (gA g 169)])).length) Slot.unset).toArray = ls at hl ⊢
  have hl : lv_has ls 4 [(0, .ref (gA g 0)), (1, .int a1), (2, .ref (gA g 169))] := hl
  refine lv_aload_n hx hb dL_part_0 rfl (lv_at hl 2 rfl) ?_
  refine lv_iconst (v := 0) hx hb dL_part_1 (by decide) ?_
  refine lv_aload_n hx hb dL_part_2 rfl (lv_at hl 0 rfl) ?_
  refine lv_iload_n hx hb dL_part_3 rfl (lv_at hl 1 rfl) ?_
  refine kx_i hw (vx_runV (As := [.int a1]) (rest := [.int 0, .ref (gA g 169)]) ⟨hx, hb, hml, hc.2.2.1, hc.2.2.2⟩ (m_X6_part l g hfl S B y a1 _ _ hN hev) (kw_V hc 1 q886 q887 q888 q1 q889 rfl rfl (by decide +kernel) ⟨Nat.le_of_ble_eq_true rfl, Nat.le_of_ble_eq_true rfl⟩) (kp_V hk hw at_G rfl) rfl rfl hl.1 rfl (lv_room (Nat.le_of_ble_eq_true rfl)) dL_part_4 ⟨Nat.le_of_ble_eq_true rfl, Nat.le_of_ble_eq_true rfl⟩) (fun E ce q9 H locs h1 hw hq hv hE => ?_) (fun H locs h1 hw => ?_)
  · have hE9 := ex_X6_part E h1
    simp only [List.mem_cons, List.not_mem_nil, or_false] at hE9
    rcases hE9 with rfl | rfl
    · refine vx_catch hc.2.2.1 [⟨0, 9, 12, 25⟩] ⟨0, 9, 15, 31⟩ [] hTB (List.forall_mem_cons.mpr ⟨Or.inr ⟨by decide, _, hc.2.2.2 _ q646, hk.2.2.2.2.2.2.2.1 ("java/lang/UnsupportedOperationException", "java/lang/IndexOutOfBoundsException") (by decide +kernel)⟩, fun _ hz => absurd hz List.not_mem_nil⟩) (by decide) (by decide) (hc.2.2.2 _ q695) (hk.2.1.use nq711) hq hv hE ?_
      refine lv_astore_n (lv' := [(3, .ref q9), (0, .ref (gA g 0)), (1, .int a1), (2, .ref (gA g 169))]) hx hb dL_part_15 rfl hl (by decide) rfl (fun ls hl => ?_)
      refine lv_iconst (v := 2) hx hb dL_part_16 (by decide) ?_
      refine W.widen (k := 2) (n := 12) (Nat.le_of_ble_eq_true rfl) (Nat.le_of_ble_eq_true rfl) ?_
      exact W.iret (v := 2) hx hb hr (fun t9 ht hW => ke_i hw ht (by rw [h1]; decide +kernel) (if_neg (by rw [h1]; exact Option.some_ne_none _)).symm) hw.2.2.2 dL_part_17
    · refine vx_catch hc.2.2.1 [] ⟨0, 9, 12, 25⟩ [⟨0, 9, 15, 31⟩] hTB (fun _ hz => absurd hz List.not_mem_nil) (by decide) (by decide) (hc.2.2.2 _ q646) (hk.2.1.use nq680) hq hv hE ?_
      refine lv_astore_n (lv' := [(3, .ref q9), (0, .ref (gA g 0)), (1, .int a1), (2, .ref (gA g 169))]) hx hb dL_part_12 rfl hl (by decide) rfl (fun ls hl => ?_)
      refine lv_iconst (v := 1) hx hb dL_part_13 (by decide) ?_
      refine W.widen (k := 2) (n := 12) (Nat.le_of_ble_eq_true rfl) (Nat.le_of_ble_eq_true rfl) ?_
      exact W.iret (v := 1) hx hb hr (fun t9 ht hW => ke_i hw ht (by rw [h1]; decide +kernel) (if_neg (by rw [h1]; exact Option.some_ne_none _)).symm) hw.2.2.2 dL_part_14
  · refine lv_i2l hx hb dL_part_7 rfl ?_
    refine k_last hc hk hw (v := ((f_X6_part a1 B).1).toInt64) (x' := (xB (f_X2_keep 15 a1 0 0 0 S) 0 ((f_X6_part a1 B).2) (y.1, vp_updL y.2.1 0 (((f_X6_part a1 B).1).toInt64), y.2.2))) rfl dL_part_8 (fun H locs hw => ?_)
    refine lv_goto (tgt := 18) hx hb dL_part_9 (by decide) ?_
    refine lv_iconst (v := 0) hx hb dL_part_18 (by decide) ?_
    refine W.widen (k := 2) (n := 12) (Nat.le_of_ble_eq_true rfl) (Nat.le_of_ble_eq_true rfl) ?_
    exact W.iret (v := 0) hx hb hr (fun t9 ht hW => ke_i hw ht (by rw [h1]; rfl) (by simp only [if_pos h1])) hw.2.2.2 dL_part_19
set_option maxHeartbeats 4000000 in
set_option maxRecDepth 100000 in
theorem m_L_lead (l : Launch) (g : wG) (hfl : l.stackTraces = false) (S : Nat → BT) (B : BT) (y : (Nat → Nat → Int32) × (Nat → Int64) × (Nat → UInt64)) (a1 : Int32) (n m9 : Nat) (hN : CN B n m9) (hev : ¬ S 2 0 1 < 0) : mW l yL_lead cL_lead 4 [(0, 9, 12, 25)] ({ frames := 8, cells := 1, slots := 6, locals := 142 } : Room) 1 6 g (xB S 0 B y) [.ref (gA g 0), .int a1, .ref (gA g 169)] (kE (e_X6_lead a1 B) ["java/lang/IndexOutOfBoundsException"]) (if e_X6_lead a1 B = none then (xB S 0 B (y.1, vp_updL y.2.1 0 ((f_X6_lead a1 B).toInt64), y.2.2)) else (xB S 0 B y)) := by
  refine va_MetW (cc := cL_lead) (maxL := 4) (ret := some .int) (by decide) rfl ?_
  intro p9 e s m args below meth c s₁ BL hml hv
  obtain ⟨rfl, hk, hPB⟩ := hv
  have hx := BL.exec
  have hb := BL.bytes
  have hc : CX p9 c cL_lead s _ m RL := ⟨hx, hb, findClass_of_methodNamed BL.named, fun w h => atoms_spec BL.pre w (List.mem_cons_of_mem _ h)⟩
  have hTB : c.exceptionTable.toList = tableOf [(0, 9, 12, 25)] := vx_table (x := yL_lead) BL (atoms_spec (ws := wsH yL_lead cL_lead 4 (some .int) [(0, 9, 12, 25)]) BL.pre (Cond.codeWith yL_lead cL_lead 4 (some .int) [(0, 9, 12, 25)]) List.mem_cons_self)
  have hr := BL.returns
  have hlocks := BL.notSynchronized
  have hw : WS g s (xB S 0 B y) s.heap [] := ⟨hPB, va_S.rf⟩
  have hl := lv_entry ([.ref (gA g 0), .int a1, .ref (gA g 169)]) (n := 4) (Nat.le_of_ble_eq_true rfl)
  rw [lg_entry_eq]
  generalize (lg_sl ([.ref (gA g 0), .int a1, .ref (gA g 169)]) ++ List.replicate (4 - (lg_sl ([.ref (gA g 0), .int a1, .ref (gA g 169)])).length) Slot.unset).toArray = ls at hl ⊢
  have hl : lv_has ls 4 [(0, .ref (gA g 0)), (1, .int a1), (2, .ref (gA g 169))] := hl
  refine lv_aload_n hx hb dL_lead_0 rfl (lv_at hl 2 rfl) ?_
  refine lv_iconst (v := 0) hx hb dL_lead_1 (by decide) ?_
  refine lv_aload_n hx hb dL_lead_2 rfl (lv_at hl 0 rfl) ?_
  refine lv_iload_n hx hb dL_lead_3 rfl (lv_at hl 1 rfl) ?_
  refine kx_i hw (vx_runV (As := [.int a1]) (rest := [.int 0, .ref (gA g 169)]) ⟨hx, hb, hml, hc.2.2.1, hc.2.2.2⟩ (m_X6_lead l g hfl S B y a1 _ _ hN) (kw_V hc 1 q898 q899 q900 q1 q901 rfl rfl (by decide +kernel) ⟨Nat.le_of_ble_eq_true rfl, Nat.le_of_ble_eq_true rfl⟩) (kp_V hk hw at_G rfl) rfl rfl hl.1 rfl (lv_room (Nat.le_of_ble_eq_true rfl)) dL_lead_4 ⟨Nat.le_of_ble_eq_true rfl, Nat.le_of_ble_eq_true rfl⟩) (fun E ce q9 H locs h1 hw hq hv hE => ?_) (fun H locs h1 hw => ?_)
  · have hE9 := ex_X6_lead E h1
    simp only [List.mem_cons, List.not_mem_nil, or_false] at hE9
    obtain rfl := hE9
    refine vx_catch hc.2.2.1 [] ⟨0, 9, 12, 25⟩ [] hTB (fun _ hz => absurd hz List.not_mem_nil) (by decide) (by decide) (hc.2.2.2 _ q646) (hk.2.1.use nq680) hq hv hE ?_
    refine lv_astore_n (lv' := [(3, .ref q9), (0, .ref (gA g 0)), (1, .int a1), (2, .ref (gA g 169))]) hx hb dL_lead_12 rfl hl (by decide) rfl (fun ls hl => ?_)
    refine lv_iconst (v := 1) hx hb dL_lead_13 (by decide) ?_
    refine W.widen (k := 1) (n := 6) (Nat.le_of_ble_eq_true rfl) (Nat.le_of_ble_eq_true rfl) ?_
    exact W.iret (v := 1) hx hb hr (fun t9 ht hW => ke_i hw ht (by rw [h1]; decide +kernel) (if_neg (by rw [h1]; exact Option.some_ne_none _)).symm) hw.2.2.2 dL_lead_14
  · refine lv_i2l hx hb dL_lead_7 rfl ?_
    refine k_last hc hk hw (v := (f_X6_lead a1 B).toInt64) (x' := (xB S 0 B (y.1, vp_updL y.2.1 0 ((f_X6_lead a1 B).toInt64), y.2.2))) rfl dL_lead_8 (fun H locs hw => ?_)
    refine lv_goto (tgt := 15) hx hb dL_lead_9 (by decide) ?_
    refine lv_iconst (v := 0) hx hb dL_lead_15 (by decide) ?_
    refine W.widen (k := 1) (n := 6) (Nat.le_of_ble_eq_true rfl) (Nat.le_of_ble_eq_true rfl) ?_
    exact W.iret (v := 0) hx hb hr (fun t9 ht hW => ke_i hw ht (by rw [h1]; rfl) (by simp only [if_pos h1])) hw.2.2.2 dL_lead_16
set_option maxHeartbeats 4000000 in
set_option maxRecDepth 100000 in
theorem m_L_countJoined (l : Launch) (g : wG) (hfl : l.stackTraces = false) (S : Nat → BT) (B : BT) (y : (Nat → Nat → Int32) × (Nat → Int64) × (Nat → UInt64)) (a1 : Int32) (n m9 : Nat) (hN : CN B n m9) (hev : ¬ S 2 0 1 < 0) : mW l yL_countJoined cL_countJoined 4 [(0, 9, 12, 25)] ({ frames := 8, cells := 1, slots := 6, locals := 142 } : Room) 1 6 g (xB S 0 B y) [.ref (gA g 0), .int a1, .ref (gA g 169)] (kE (e_X6_countJoined a1 B) ["java/lang/IndexOutOfBoundsException"]) (if e_X6_countJoined a1 B = none then (xB S 0 B (y.1, vp_updL y.2.1 0 ((f_X6_countJoined a1 B).toInt64), y.2.2)) else (xB S 0 B y)) := by
  refine va_MetW (cc := cL_countJoined) (maxL := 4) (ret := some .int) (by decide) rfl ?_
  intro p9 e s m args below meth c s₁ BL hml hv
  obtain ⟨rfl, hk, hPB⟩ := hv
  have hx := BL.exec
  have hb := BL.bytes
  have hc : CX p9 c cL_countJoined s _ m RL := ⟨hx, hb, findClass_of_methodNamed BL.named, fun w h => atoms_spec BL.pre w (List.mem_cons_of_mem _ h)⟩
  have hTB : c.exceptionTable.toList = tableOf [(0, 9, 12, 25)] := vx_table (x := yL_countJoined) BL (atoms_spec (ws := wsH yL_countJoined cL_countJoined 4 (some .int) [(0, 9, 12, 25)]) BL.pre (Cond.codeWith yL_countJoined cL_countJoined 4 (some .int) [(0, 9, 12, 25)]) List.mem_cons_self)
  have hr := BL.returns
  have hlocks := BL.notSynchronized
  have hw : WS g s (xB S 0 B y) s.heap [] := ⟨hPB, va_S.rf⟩
  have hl := lv_entry ([.ref (gA g 0), .int a1, .ref (gA g 169)]) (n := 4) (Nat.le_of_ble_eq_true rfl)
  rw [lg_entry_eq]
  generalize (lg_sl ([.ref (gA g 0), .int a1, .ref (gA g 169)]) ++ List.replicate (4 - (lg_sl ([.ref (gA g 0), .int a1, .ref (gA g 169)])).length) Slot.unset).toArray = ls at hl ⊢
  have hl : lv_has ls 4 [(0, .ref (gA g 0)), (1, .int a1), (2, .ref (gA g 169))] := hl
  refine lv_aload_n hx hb dL_countJoined_0 rfl (lv_at hl 2 rfl) ?_
  refine lv_iconst (v := 0) hx hb dL_countJoined_1 (by decide) ?_
  refine lv_aload_n hx hb dL_countJoined_2 rfl (lv_at hl 0 rfl) ?_
  refine lv_iload_n hx hb dL_countJoined_3 rfl (lv_at hl 1 rfl) ?_
  refine kx_i hw (vx_runV (As := [.int a1]) (rest := [.int 0, .ref (gA g 169)]) ⟨hx, hb, hml, hc.2.2.1, hc.2.2.2⟩ (m_X6_countJoined l g hfl S B y a1 _ _ hN) (kw_V hc 1 q905 q906 q907 q1 q908 rfl rfl (by decide +kernel) ⟨Nat.le_of_ble_eq_true rfl, Nat.le_of_ble_eq_true rfl⟩) (kp_V hk hw at_G rfl) rfl rfl hl.1 rfl (lv_room (Nat.le_of_ble_eq_true rfl)) dL_countJoined_4 ⟨Nat.le_of_ble_eq_true rfl, Nat.le_of_ble_eq_true rfl⟩) (fun E ce q9 H locs h1 hw hq hv hE => ?_) (fun H locs h1 hw => ?_)
  · have hE9 := ex_X6_countJoined E h1
    simp only [List.mem_cons, List.not_mem_nil, or_false] at hE9
    obtain rfl := hE9
    refine vx_catch hc.2.2.1 [] ⟨0, 9, 12, 25⟩ [] hTB (fun _ hz => absurd hz List.not_mem_nil) (by decide) (by decide) (hc.2.2.2 _ q646) (hk.2.1.use nq680) hq hv hE ?_
    refine lv_astore_n (lv' := [(3, .ref q9), (0, .ref (gA g 0)), (1, .int a1), (2, .ref (gA g 169))]) hx hb dL_countJoined_12 rfl hl (by decide) rfl (fun ls hl => ?_)
    refine lv_iconst (v := 1) hx hb dL_countJoined_13 (by decide) ?_
    refine W.widen (k := 1) (n := 6) (Nat.le_of_ble_eq_true rfl) (Nat.le_of_ble_eq_true rfl) ?_
    exact W.iret (v := 1) hx hb hr (fun t9 ht hW => ke_i hw ht (by rw [h1]; decide +kernel) (if_neg (by rw [h1]; exact Option.some_ne_none _)).symm) hw.2.2.2 dL_countJoined_14
  · refine lv_i2l hx hb dL_countJoined_7 rfl ?_
    refine k_last hc hk hw (v := (f_X6_countJoined a1 B).toInt64) (x' := (xB S 0 B (y.1, vp_updL y.2.1 0 ((f_X6_countJoined a1 B).toInt64), y.2.2))) rfl dL_countJoined_8 (fun H locs hw => ?_)
    refine lv_goto (tgt := 15) hx hb dL_countJoined_9 (by decide) ?_
    refine lv_iconst (v := 0) hx hb dL_countJoined_15 (by decide) ?_
    refine W.widen (k := 1) (n := 6) (Nat.le_of_ble_eq_true rfl) (Nat.le_of_ble_eq_true rfl) ?_
    exact W.iret (v := 0) hx hb hr (fun t9 ht hW => ke_i hw ht (by rw [h1]; rfl) (by simp only [if_pos h1])) hw.2.2.2 dL_countJoined_16
set_option maxHeartbeats 4000000 in
set_option maxRecDepth 100000 in
theorem m_L_setWeight (l : Launch) (g : wG) (hfl : l.stackTraces = false) (S : Nat → BT) (B : BT) (y : (Nat → Nat → Int32) × (Nat → Int64) × (Nat → UInt64)) (a1 : Int32) (a2 : Int32) (n m9 : Nat) (hN : CN B n m9) (hev : ¬ S 2 0 1 < 0) : mW l yL_setWeight cL_setWeight 5 [(0, 10, 13, 13)] ({ frames := 11, cells := 2, slots := 12, locals := 254 } : Room) 2 12 g (xB S 0 B y) [.ref (gA g 0), .int a1, .int a2, .ref (gA g 169)] (kE (e_X6_setWeight a1 a2 B) ["java/lang/IllegalArgumentException"]) (if e_X6_setWeight a1 a2 B = none then (xB (f_X2_keep 3 a1 a2 0 0 S) 0 ((f_X6_setWeight a1 a2 B).2) (y.1, vp_updL y.2.1 0 (((f_X6_setWeight a1 a2 B).1).toInt64), y.2.2)) else (xB S 0 B y)) := by
  refine va_MetW (cc := cL_setWeight) (maxL := 5) (ret := some .int) (by decide) rfl ?_
  intro p9 e s m args below meth c s₁ BL hml hv
  obtain ⟨rfl, hk, hPB⟩ := hv
  have hx := BL.exec
  have hb := BL.bytes
  have hc : CX p9 c cL_setWeight s _ m RL := ⟨hx, hb, findClass_of_methodNamed BL.named, fun w h => atoms_spec BL.pre w (List.mem_cons_of_mem _ h)⟩
  have hTB : c.exceptionTable.toList = tableOf [(0, 10, 13, 13)] := vx_table (x := yL_setWeight) BL (atoms_spec (ws := wsH yL_setWeight cL_setWeight 5 (some .int) [(0, 10, 13, 13)]) BL.pre (Cond.codeWith yL_setWeight cL_setWeight 5 (some .int) [(0, 10, 13, 13)]) List.mem_cons_self)
  have hr := BL.returns
  have hlocks := BL.notSynchronized
  have hw : WS g s (xB S 0 B y) s.heap [] := ⟨hPB, va_S.rf⟩
  have hl := lv_entry ([.ref (gA g 0), .int a1, .int a2, .ref (gA g 169)]) (n := 5) (Nat.le_of_ble_eq_true rfl)
  rw [lg_entry_eq]
  generalize (lg_sl ([.ref (gA g 0), .int a1, .int a2, .ref (gA g 169)]) ++ List.replicate (5 - (lg_sl ([.ref (gA g 0), .int a1, .int a2, .ref (gA g 169)])).length) Slot.unset).toArray = ls at hl ⊢
  have hl : lv_has ls 5 [(0, .ref (gA g 0)), (1, .int a1), (2, .int a2), (3, .ref (gA g 169))] := hl
  refine lv_aload_n hx hb dL_setWeight_0 rfl (lv_at hl 3 rfl) ?_
  refine lv_iconst (v := 0) hx hb dL_setWeight_1 (by decide) ?_
  refine lv_aload_n hx hb dL_setWeight_2 rfl (lv_at hl 0 rfl) ?_
  refine lv_iload_n hx hb dL_setWeight_3 rfl (lv_at hl 1 rfl) ?_
  refine lv_iload_n hx hb dL_setWeight_4 rfl (lv_at hl 2 rfl) ?_
  refine kx_i hw (vx_runV (As := [.int a1, .int a2]) (rest := [.int 0, .ref (gA g 169)]) ⟨hx, hb, hml, hc.2.2.1, hc.2.2.2⟩ (m_X6_setWeight l g hfl S B y a1 a2 _ _ hN hev) (kw_V hc 2 q913 q914 q915 q1 q916 rfl rfl (by decide +kernel) ⟨Nat.le_of_ble_eq_true rfl, Nat.le_of_ble_eq_true rfl⟩) (kp_V hk hw at_G rfl) rfl rfl hl.1 rfl (lv_room (Nat.le_of_ble_eq_true rfl)) dL_setWeight_5 ⟨Nat.le_of_ble_eq_true rfl, Nat.le_of_ble_eq_true rfl⟩) (fun E ce q9 H locs h1 hw hq hv hE => ?_) (fun H locs h1 hw => ?_)
  · have hE9 := ex_X6_setWeight E h1
    simp only [List.mem_cons, List.not_mem_nil, or_false] at hE9
    obtain rfl := hE9
    refine vx_catch hc.2.2.1 [] ⟨0, 10, 13, 13⟩ [] hTB (fun _ hz => absurd hz List.not_mem_nil) (by decide) (by decide) (hc.2.2.2 _ q529) (hk.2.1.use nq541) hq hv hE ?_
    refine lv_astore (lv' := [(4, .ref q9), (0, .ref (gA g 0)), (1, .int a1), (2, .int a2), (3, .ref (gA g 169))]) hx hb dL_setWeight_13 hl (by decide) rfl (fun ls hl => ?_)
    refine lv_iconst (v := 1) hx hb dL_setWeight_15 (by decide) ?_
    refine W.widen (k := 2) (n := 12) (Nat.le_of_ble_eq_true rfl) (Nat.le_of_ble_eq_true rfl) ?_
    exact W.iret (v := 1) hx hb hr (fun t9 ht hW => ke_i hw ht (by rw [h1]; decide +kernel) (if_neg (by rw [h1]; exact Option.some_ne_none _)).symm) hw.2.2.2 dL_setWeight_16
  · refine lv_i2l hx hb dL_setWeight_8 rfl ?_
    refine k_last hc hk hw (v := ((f_X6_setWeight a1 a2 B).1).toInt64) (x' := (xB (f_X2_keep 3 a1 a2 0 0 S) 0 ((f_X6_setWeight a1 a2 B).2) (y.1, vp_updL y.2.1 0 (((f_X6_setWeight a1 a2 B).1).toInt64), y.2.2))) rfl dL_setWeight_9 (fun H locs hw => ?_)
    refine lv_goto (tgt := 17) hx hb dL_setWeight_10 (by decide) ?_
    refine lv_iconst (v := 0) hx hb dL_setWeight_17 (by decide) ?_
    refine W.widen (k := 2) (n := 12) (Nat.le_of_ble_eq_true rfl) (Nat.le_of_ble_eq_true rfl) ?_
    exact W.iret (v := 0) hx hb hr (fun t9 ht hW => ke_i hw ht (by rw [h1]; rfl) (by simp only [if_pos h1])) hw.2.2.2 dL_setWeight_18
set_option maxHeartbeats 4000000 in
set_option maxRecDepth 100000 in
theorem m_L_find (l : Launch) (g : wG) (hfl : l.stackTraces = false) (S : Nat → BT) (B : BT) (y : (Nat → Nat → Int32) × (Nat → Int64) × (Nat → UInt64)) (a1 : Int32) (a2 : Int32) (n m9 : Nat) (hN : CN B n m9) (hev : ¬ S 2 0 1 < 0) : mW l yL_find cL_find 5 [(0, 10, 13, 25), (0, 10, 17, 13), (0, 10, 21, 31)] ({ frames := 11, cells := 3, slots := 18, locals := 255 } : Room) 3 18 g (xB S 0 B y) [.ref (gA g 0), .int a1, .int a2, .ref (gA g 169)] (kE (e_X6_find a1 a2 B) ["java/lang/IndexOutOfBoundsException", "java/lang/IllegalArgumentException", "java/lang/UnsupportedOperationException"]) (if e_X6_find a1 a2 B = none then (xB (f_X2_keep 16 a1 a2 0 0 S) 0 ((f_X6_find a1 a2 B).2) (y.1, vp_updL y.2.1 0 (((f_X6_find a1 a2 B).1).toInt64), y.2.2)) else (xB S 0 B y)) := by
  refine va_MetW (cc := cL_find) (maxL := 5) (ret := some .int) (by decide) rfl ?_
  intro p9 e s m args below meth c s₁ BL hml hv
  obtain ⟨rfl, hk, hPB⟩ := hv
  have hx := BL.exec
  have hb := BL.bytes
  have hc : CX p9 c cL_find s _ m RL := ⟨hx, hb, findClass_of_methodNamed BL.named, fun w h => atoms_spec BL.pre w (List.mem_cons_of_mem _ h)⟩
  have hTB : c.exceptionTable.toList = tableOf [(0, 10, 13, 25), (0, 10, 17, 13), (0, 10, 21, 31)] := vx_table (x := yL_find) BL (atoms_spec (ws := wsH yL_find cL_find 5 (some .int) [(0, 10, 13, 25), (0, 10, 17, 13), (0, 10, 21, 31)]) BL.pre (Cond.codeWith yL_find cL_find 5 (some .int) [(0, 10, 13, 25), (0, 10, 17, 13), (0, 10, 21, 31)]) List.mem_cons_self)
  have hr := BL.returns
  have hlocks := BL.notSynchronized
  have hw : WS g s (xB S 0 B y) s.heap [] := ⟨hPB, va_S.rf⟩
  have hl := lv_entry ([.ref (gA g 0), .int a1, .int a2, .ref (gA g 169)]) (n := 5) (Nat.le_of_ble_eq_true rfl)
  rw [lg_entry_eq]
  generalize (lg_sl ([.ref (gA g 0), .int a1, .int a2, .ref (gA g 169)]) ++ List.replicate (5 - (lg_sl ([.ref (gA g 0), .int a1, .int a2, .ref (gA g 169)])).length) Slot.unset).toArray = ls at hl ⊢
  have hl : lv_has ls 5 [(0, .ref (gA g 0)), (1, .int a1), (2, .int a2), (3, .ref (gA g 169))] := hl
  refine lv_aload_n hx hb dL_find_0 rfl (lv_at hl 3 rfl) ?_
  refine lv_iconst (v := 0) hx hb dL_find_1 (by decide) ?_
  refine lv_aload_n hx hb dL_find_2 rfl (lv_at hl 0 rfl) ?_
  refine lv_iload_n hx hb dL_find_3 rfl (lv_at hl 1 rfl) ?_
  refine lv_iload_n hx hb dL_find_4 rfl (lv_at hl 2 rfl) ?_
  refine kx_i hw (vx_runV (As := [.int a1, .int a2]) (rest := [.int 0, .ref (gA g 169)]) ⟨hx, hb, hml, hc.2.2.1, hc.2.2.2⟩ (m_X6_find l g hfl S B y a1 a2 _ _ hN hev) (kw_V hc 2 q920 q921 q922 q1 q923 rfl rfl (by decide +kernel) ⟨Nat.le_of_ble_eq_true rfl, Nat.le_of_ble_eq_true rfl⟩) (kp_V hk hw at_G rfl) rfl rfl hl.1 rfl (lv_room (Nat.le_of_ble_eq_true rfl)) dL_find_5 ⟨Nat.le_of_ble_eq_true rfl, Nat.le_of_ble_eq_true rfl⟩) (fun E ce q9 H locs h1 hw hq hv hE => ?_) (fun H locs h1 hw => ?_)
  · have hE9 := ex_X6_find E h1
    simp only [List.mem_cons, List.not_mem_nil, or_false] at hE9
    rcases hE9 with rfl | rfl | rfl
    · refine vx_catch hc.2.2.1 [] ⟨0, 10, 13, 25⟩ [⟨0, 10, 17, 13⟩, ⟨0, 10, 21, 31⟩] hTB (fun _ hz => absurd hz List.not_mem_nil) (by decide) (by decide) (hc.2.2.2 _ q646) (hk.2.1.use nq680) hq hv hE ?_
      refine lv_astore (lv' := [(4, .ref q9), (0, .ref (gA g 0)), (1, .int a1), (2, .int a2), (3, .ref (gA g 169))]) hx hb dL_find_13 hl (by decide) rfl (fun ls hl => ?_)
      refine lv_iconst (v := 1) hx hb dL_find_15 (by decide) ?_
      refine W.widen (k := 3) (n := 18) (Nat.le_of_ble_eq_true rfl) (Nat.le_of_ble_eq_true rfl) ?_
      exact W.iret (v := 1) hx hb hr (fun t9 ht hW => ke_i hw ht (by rw [h1]; decide +kernel) (if_neg (by rw [h1]; exact Option.some_ne_none _)).symm) hw.2.2.2 dL_find_16
    · refine vx_catch hc.2.2.1 [⟨0, 10, 13, 25⟩] ⟨0, 10, 17, 13⟩ [⟨0, 10, 21, 31⟩] hTB (List.forall_mem_cons.mpr ⟨Or.inr ⟨by decide, _, hc.2.2.2 _ q646, hk.2.2.2.2.2.2.2.1 ("java/lang/IllegalArgumentException", "java/lang/IndexOutOfBoundsException") (by decide +kernel)⟩, fun _ hz => absurd hz List.not_mem_nil⟩) (by decide) (by decide) (hc.2.2.2 _ q529) (hk.2.1.use nq541) hq hv hE ?_
      refine lv_astore (lv' := [(4, .ref q9), (0, .ref (gA g 0)), (1, .int a1), (2, .int a2), (3, .ref (gA g 169))]) hx hb dL_find_17 hl (by decide) rfl (fun ls hl => ?_)
      refine lv_iconst (v := 2) hx hb dL_find_19 (by decide) ?_
      refine W.widen (k := 3) (n := 18) (Nat.le_of_ble_eq_true rfl) (Nat.le_of_ble_eq_true rfl) ?_
      exact W.iret (v := 2) hx hb hr (fun t9 ht hW => ke_i hw ht (by rw [h1]; decide +kernel) (if_neg (by rw [h1]; exact Option.some_ne_none _)).symm) hw.2.2.2 dL_find_20
    · refine vx_catch hc.2.2.1 [⟨0, 10, 13, 25⟩, ⟨0, 10, 17, 13⟩] ⟨0, 10, 21, 31⟩ [] hTB (List.forall_mem_cons.mpr ⟨Or.inr ⟨by decide, _, hc.2.2.2 _ q646, hk.2.2.2.2.2.2.2.1 ("java/lang/UnsupportedOperationException", "java/lang/IndexOutOfBoundsException") (by decide +kernel)⟩, List.forall_mem_cons.mpr ⟨Or.inr ⟨by decide, _, hc.2.2.2 _ q529, hk.2.2.2.2.2.2.2.1 ("java/lang/UnsupportedOperationException", "java/lang/IllegalArgumentException") (by decide +kernel)⟩, fun _ hz => absurd hz List.not_mem_nil⟩⟩) (by decide) (by decide) (hc.2.2.2 _ q695) (hk.2.1.use nq711) hq hv hE ?_
      refine lv_astore (lv' := [(4, .ref q9), (0, .ref (gA g 0)), (1, .int a1), (2, .int a2), (3, .ref (gA g 169))]) hx hb dL_find_21 hl (by decide) rfl (fun ls hl => ?_)
      refine lv_iconst (v := 3) hx hb dL_find_23 (by decide) ?_
      refine W.widen (k := 3) (n := 18) (Nat.le_of_ble_eq_true rfl) (Nat.le_of_ble_eq_true rfl) ?_
      exact W.iret (v := 3) hx hb hr (fun t9 ht hW => ke_i hw ht (by rw [h1]; decide +kernel) (if_neg (by rw [h1]; exact Option.some_ne_none _)).symm) hw.2.2.2 dL_find_24
  · refine lv_i2l hx hb dL_find_8 rfl ?_
    refine k_last hc hk hw (v := ((f_X6_find a1 a2 B).1).toInt64) (x' := (xB (f_X2_keep 16 a1 a2 0 0 S) 0 ((f_X6_find a1 a2 B).2) (y.1, vp_updL y.2.1 0 (((f_X6_find a1 a2 B).1).toInt64), y.2.2))) rfl dL_find_9 (fun H locs hw => ?_)
    refine lv_goto (tgt := 25) hx hb dL_find_10 (by decide) ?_
    refine lv_iconst (v := 0) hx hb dL_find_25 (by decide) ?_
    refine W.widen (k := 3) (n := 18) (Nat.le_of_ble_eq_true rfl) (Nat.le_of_ble_eq_true rfl) ?_
    exact W.iret (v := 0) hx hb hr (fun t9 ht hW => ke_i hw ht (by rw [h1]; rfl) (by simp only [if_pos h1])) hw.2.2.2 dL_find_26
set_option maxHeartbeats 4000000 in
set_option maxRecDepth 100000 in
theorem m_L_heads (l : Launch) (g : wG) (hfl : l.stackTraces = false) (S : Nat → BT) (B : BT) (y : (Nat → Nat → Int32) × (Nat → Int64) × (Nat → UInt64)) (a1 : Int32) (n m9 : Nat) (hN : CN B n m9) (hev : ¬ S 2 0 1 < 0) : mW l yL_heads cL_heads 4 [(0, 9, 12, 25), (0, 9, 15, 76)] ({ frames := 8, cells := 2, slots := 12, locals := 143 } : Room) 2 12 g (xB S 0 B y) [.ref (gA g 0), .int a1, .ref (gA g 169)] (kE (e_X6_heads a1 B) ["java/lang/IndexOutOfBoundsException", "java/util/NoSuchElementException"]) (if e_X6_heads a1 B = none then (xB S 0 B (y.1, vp_updL y.2.1 0 ((f_X6_heads a1 B).toInt64), y.2.2)) else (xB S 0 B y)) := by
  refine va_MetW (cc := cL_heads) (maxL := 4) (ret := some .int) (by decide) rfl ?_
  intro p9 e s m args below meth c s₁ BL hml hv
  obtain ⟨rfl, hk, hPB⟩ := hv
  have hx := BL.exec
  have hb := BL.bytes
  have hc : CX p9 c cL_heads s _ m RL := ⟨hx, hb, findClass_of_methodNamed BL.named, fun w h => atoms_spec BL.pre w (List.mem_cons_of_mem _ h)⟩
  have hTB : c.exceptionTable.toList = tableOf [(0, 9, 12, 25), (0, 9, 15, 76)] := vx_table (x := yL_heads) BL (atoms_spec (ws := wsH yL_heads cL_heads 4 (some .int) [(0, 9, 12, 25), (0, 9, 15, 76)]) BL.pre (Cond.codeWith yL_heads cL_heads 4 (some .int) [(0, 9, 12, 25), (0, 9, 15, 76)]) List.mem_cons_self)
  have hr := BL.returns
  have hlocks := BL.notSynchronized
  have hw : WS g s (xB S 0 B y) s.heap [] := ⟨hPB, va_S.rf⟩
  have hl := lv_entry ([.ref (gA g 0), .int a1, .ref (gA g 169)]) (n := 4) (Nat.le_of_ble_eq_true rfl)
  rw [lg_entry_eq]
  generalize (lg_sl ([.ref (gA g 0), .int a1, .ref (gA g 169)]) ++ List.replicate (4 - (lg_sl ([.ref (gA g 0), .int a1, .ref (gA g 169)])).length) Slot.unset).toArray = ls at hl ⊢
  have hl : lv_has ls 4 [(0, .ref (gA g 0)), (1, .int a1), (2, .ref (gA g 169))] := hl
  refine lv_aload_n hx hb dL_heads_0 rfl (lv_at hl 2 rfl) ?_
  refine lv_iconst (v := 0) hx hb dL_heads_1 (by decide) ?_
  refine lv_aload_n hx hb dL_heads_2 rfl (lv_at hl 0 rfl) ?_
  refine lv_iload_n hx hb dL_heads_3 rfl (lv_at hl 1 rfl) ?_
  refine kx_i hw (vx_runV (As := [.int a1]) (rest := [.int 0, .ref (gA g 169)]) ⟨hx, hb, hml, hc.2.2.1, hc.2.2.2⟩ (m_X6_heads l g hfl S B y a1 _ _ hN) (kw_V hc 1 q927 q928 q929 q1 q930 rfl rfl (by decide +kernel) ⟨Nat.le_of_ble_eq_true rfl, Nat.le_of_ble_eq_true rfl⟩) (kp_V hk hw at_G rfl) rfl rfl hl.1 rfl (lv_room (Nat.le_of_ble_eq_true rfl)) dL_heads_4 ⟨Nat.le_of_ble_eq_true rfl, Nat.le_of_ble_eq_true rfl⟩) (fun E ce q9 H locs h1 hw hq hv hE => ?_) (fun H locs h1 hw => ?_)
  · have hE9 := ex_X6_heads E h1
    simp only [List.mem_cons, List.not_mem_nil, or_false] at hE9
    rcases hE9 with rfl | rfl
    · refine vx_catch hc.2.2.1 [⟨0, 9, 12, 25⟩] ⟨0, 9, 15, 76⟩ [] hTB (List.forall_mem_cons.mpr ⟨Or.inr ⟨by decide, _, hc.2.2.2 _ q646, hk.2.2.2.2.2.2.2.1 ("java/util/NoSuchElementException", "java/lang/IndexOutOfBoundsException") (by decide +kernel)⟩, fun _ hz => absurd hz List.not_mem_nil⟩) (by decide) (by decide) (hc.2.2.2 _ q840) (hk.2.1.use nq855) hq hv hE ?_
      refine lv_astore_n (lv' := [(3, .ref q9), (0, .ref (gA g 0)), (1, .int a1), (2, .ref (gA g 169))]) hx hb dL_heads_15 rfl hl (by decide) rfl (fun ls hl => ?_)
      refine lv_iconst (v := 2) hx hb dL_heads_16 (by decide) ?_
      refine W.widen (k := 2) (n := 12) (Nat.le_of_ble_eq_true rfl) (Nat.le_of_ble_eq_true rfl) ?_
      exact W.iret (v := 2) hx hb hr (fun t9 ht hW => ke_i hw ht (by rw [h1]; decide +kernel) (if_neg (by rw [h1]; exact Option.some_ne_none _)).symm) hw.2.2.2 dL_heads_17
    · refine vx_catch hc.2.2.1 [] ⟨0, 9, 12, 25⟩ [⟨0, 9, 15, 76⟩] hTB (fun _ hz => absurd hz List.not_mem_nil) (by decide) (by decide) (hc.2.2.2 _ q646) (hk.2.1.use nq680) hq hv hE ?_
      refine lv_astore_n (lv' := [(3, .ref q9), (0, .ref (gA g 0)), (1, .int a1), (2, .ref (gA g 169))]) hx hb dL_heads_12 rfl hl (by decide) rfl (fun ls hl => ?_)
      refine lv_iconst (v := 1) hx hb dL_heads_13 (by decide) ?_
      refine W.widen (k := 2) (n := 12) (Nat.le_of_ble_eq_true rfl) (Nat.le_of_ble_eq_true rfl) ?_
      exact W.iret (v := 1) hx hb hr (fun t9 ht hW => ke_i hw ht (by rw [h1]; decide +kernel) (if_neg (by rw [h1]; exact Option.some_ne_none _)).symm) hw.2.2.2 dL_heads_14
  · refine lv_i2l hx hb dL_heads_7 rfl ?_
    refine k_last hc hk hw (v := (f_X6_heads a1 B).toInt64) (x' := (xB S 0 B (y.1, vp_updL y.2.1 0 ((f_X6_heads a1 B).toInt64), y.2.2))) rfl dL_heads_8 (fun H locs hw => ?_)
    refine lv_goto (tgt := 18) hx hb dL_heads_9 (by decide) ?_
    refine lv_iconst (v := 0) hx hb dL_heads_18 (by decide) ?_
    refine W.widen (k := 2) (n := 12) (Nat.le_of_ble_eq_true rfl) (Nat.le_of_ble_eq_true rfl) ?_
    exact W.iret (v := 0) hx hb hr (fun t9 ht hW => ke_i hw ht (by rw [h1]; rfl) (by simp only [if_pos h1])) hw.2.2.2 dL_heads_19
set_option maxHeartbeats 4000000 in
set_option maxRecDepth 100000 in
theorem m_L_remedy (l : Launch) (g : wG) (hfl : l.stackTraces = false) (S : Nat → BT) (B : BT) (y : (Nat → Nat → Int32) × (Nat → Int64) × (Nat → UInt64)) (a1 : Int32) (n m9 : Nat) (hN : CN B n m9) (hev : ¬ S 2 0 1 < 0) : mW l yL_remedy cL_remedy 4 [(0, 9, 12, 25), (0, 9, 15, 76)] ({ frames := 8, cells := 2, slots := 12, locals := 143 } : Room) 2 12 g (xB S 0 B y) [.ref (gA g 0), .int a1, .ref (gA g 169)] (kE (e_X6_remedy a1 B) ["java/lang/IndexOutOfBoundsException", "java/util/NoSuchElementException"]) (if e_X6_remedy a1 B = none then (xB S 0 B (y.1, vp_updL y.2.1 0 ((f_X6_remedy a1 B).toInt64), y.2.2)) else (xB S 0 B y)) := by
  refine va_MetW (cc := cL_remedy) (maxL := 4) (ret := some .int) (by decide) rfl ?_
  intro p9 e s m args below meth c s₁ BL hml hv
  obtain ⟨rfl, hk, hPB⟩ := hv
  have hx := BL.exec
  have hb := BL.bytes
  have hc : CX p9 c cL_remedy s _ m RL := ⟨hx, hb, findClass_of_methodNamed BL.named, fun w h => atoms_spec BL.pre w (List.mem_cons_of_mem _ h)⟩
  have hTB : c.exceptionTable.toList = tableOf [(0, 9, 12, 25), (0, 9, 15, 76)] := vx_table (x := yL_remedy) BL (atoms_spec (ws := wsH yL_remedy cL_remedy 4 (some .int) [(0, 9, 12, 25), (0, 9, 15, 76)]) BL.pre (Cond.codeWith yL_remedy cL_remedy 4 (some .int) [(0, 9, 12, 25), (0, 9, 15, 76)]) List.mem_cons_self)
  have hr := BL.returns
  have hlocks := BL.notSynchronized
  have hw : WS g s (xB S 0 B y) s.heap [] := ⟨hPB, va_S.rf⟩
  have hl := lv_entry ([.ref (gA g 0), .int a1, .ref (gA g 169)]) (n := 4) (Nat.le_of_ble_eq_true rfl)
  rw [lg_entry_eq]
  generalize (lg_sl ([.ref (gA g 0), .int a1, .ref (gA g 169)]) ++ List.replicate (4 - (lg_sl ([.ref (gA g 0), .int a1, .ref (gA g 169)])).length) Slot.unset).toArray = ls at hl ⊢
  have hl : lv_has ls 4 [(0, .ref (gA g 0)), (1, .int a1), (2, .ref (gA g 169))] := hl
  refine lv_aload_n hx hb dL_remedy_0 rfl (lv_at hl 2 rfl) ?_
  refine lv_iconst (v := 0) hx hb dL_remedy_1 (by decide) ?_
  refine lv_aload_n hx hb dL_remedy_2 rfl (lv_at hl 0 rfl) ?_
  refine lv_iload_n hx hb dL_remedy_3 rfl (lv_at hl 1 rfl) ?_
  refine kx_i hw (vx_runV (As := [.int a1]) (rest := [.int 0, .ref (gA g 169)]) ⟨hx, hb, hml, hc.2.2.1, hc.2.2.2⟩ (m_X6_remedy l g hfl S B y a1 _ _ hN) (kw_V hc 1 q935 q936 q937 q1 q938 rfl rfl (by decide +kernel) ⟨Nat.le_of_ble_eq_true rfl, Nat.le_of_ble_eq_true rfl⟩) (kp_V hk hw at_G rfl) rfl rfl hl.1 rfl (lv_room (Nat.le_of_ble_eq_true rfl)) dL_remedy_4 ⟨Nat.le_of_ble_eq_true rfl, Nat.le_of_ble_eq_true rfl⟩) (fun E ce q9 H locs h1 hw hq hv hE => ?_) (fun H locs h1 hw => ?_)
  · have hE9 := ex_X6_remedy E h1
    simp only [List.mem_cons, List.not_mem_nil, or_false] at hE9
    rcases hE9 with rfl | rfl
    · refine vx_catch hc.2.2.1 [⟨0, 9, 12, 25⟩] ⟨0, 9, 15, 76⟩ [] hTB (List.forall_mem_cons.mpr ⟨Or.inr ⟨by decide, _, hc.2.2.2 _ q646, hk.2.2.2.2.2.2.2.1 ("java/util/NoSuchElementException", "java/lang/IndexOutOfBoundsException") (by decide +kernel)⟩, fun _ hz => absurd hz List.not_mem_nil⟩) (by decide) (by decide) (hc.2.2.2 _ q840) (hk.2.1.use nq855) hq hv hE ?_
      refine lv_astore_n (lv' := [(3, .ref q9), (0, .ref (gA g 0)), (1, .int a1), (2, .ref (gA g 169))]) hx hb dL_remedy_15 rfl hl (by decide) rfl (fun ls hl => ?_)
      refine lv_iconst (v := 2) hx hb dL_remedy_16 (by decide) ?_
      refine W.widen (k := 2) (n := 12) (Nat.le_of_ble_eq_true rfl) (Nat.le_of_ble_eq_true rfl) ?_
      exact W.iret (v := 2) hx hb hr (fun t9 ht hW => ke_i hw ht (by rw [h1]; decide +kernel) (if_neg (by rw [h1]; exact Option.some_ne_none _)).symm) hw.2.2.2 dL_remedy_17
    · refine vx_catch hc.2.2.1 [] ⟨0, 9, 12, 25⟩ [⟨0, 9, 15, 76⟩] hTB (fun _ hz => absurd hz List.not_mem_nil) (by decide) (by decide) (hc.2.2.2 _ q646) (hk.2.1.use nq680) hq hv hE ?_
      refine lv_astore_n (lv' := [(3, .ref q9), (0, .ref (gA g 0)), (1, .int a1), (2, .ref (gA g 169))]) hx hb dL_remedy_12 rfl hl (by decide) rfl (fun ls hl => ?_)
      refine lv_iconst (v := 1) hx hb dL_remedy_13 (by decide) ?_
      refine W.widen (k := 2) (n := 12) (Nat.le_of_ble_eq_true rfl) (Nat.le_of_ble_eq_true rfl) ?_
      exact W.iret (v := 1) hx hb hr (fun t9 ht hW => ke_i hw ht (by rw [h1]; decide +kernel) (if_neg (by rw [h1]; exact Option.some_ne_none _)).symm) hw.2.2.2 dL_remedy_14
  · refine lv_i2l hx hb dL_remedy_7 rfl ?_
    refine k_last hc hk hw (v := (f_X6_remedy a1 B).toInt64) (x' := (xB S 0 B (y.1, vp_updL y.2.1 0 ((f_X6_remedy a1 B).toInt64), y.2.2))) rfl dL_remedy_8 (fun H locs hw => ?_)
    refine lv_goto (tgt := 18) hx hb dL_remedy_9 (by decide) ?_
    refine lv_iconst (v := 0) hx hb dL_remedy_18 (by decide) ?_
    refine W.widen (k := 2) (n := 12) (Nat.le_of_ble_eq_true rfl) (Nat.le_of_ble_eq_true rfl) ?_
    exact W.iret (v := 0) hx hb hr (fun t9 ht hW => ke_i hw ht (by rw [h1]; rfl) (by simp only [if_pos h1])) hw.2.2.2 dL_remedy_19
set_option maxHeartbeats 4000000 in
set_option maxRecDepth 100000 in
theorem m_L_accept (l : Launch) (g : wG) (hfl : l.stackTraces = false) (S : Nat → BT) (B : BT) (y : (Nat → Nat → Int32) × (Nat → Int64) × (Nat → UInt64)) (a1 : Int32) (a2 : Int32) (n m9 : Nat) (hN : CN B n m9) (hev : ¬ S 2 0 1 < 0) : mW l yL_accept cL_accept 5 [(0, 10, 13, 25), (0, 10, 17, 31)] ({ frames := 11, cells := 3, slots := 18, locals := 255 } : Room) 3 18 g (xB S 0 B y) [.ref (gA g 0), .int a1, .int a2, .ref (gA g 169)] (kE (e_X6_accept a1 a2 B) ["java/lang/IndexOutOfBoundsException", "java/lang/UnsupportedOperationException"]) (if e_X6_accept a1 a2 B = none then (xB (f_X2_keep 17 a1 (j_X6_accept_37 a2) 0 0 S) 0 ((f_X6_accept a1 a2 B).2) (y.1, vp_updL y.2.1 0 (((f_X6_accept a1 a2 B).1).toInt64), y.2.2)) else (xB S 0 B y)) := by
  refine va_MetW (cc := cL_accept) (maxL := 5) (ret := some .int) (by decide) rfl ?_
  intro p9 e s m args below meth c s₁ BL hml hv
  obtain ⟨rfl, hk, hPB⟩ := hv
  have hx := BL.exec
  have hb := BL.bytes
  have hc : CX p9 c cL_accept s _ m RL := ⟨hx, hb, findClass_of_methodNamed BL.named, fun w h => atoms_spec BL.pre w (List.mem_cons_of_mem _ h)⟩
  have hTB : c.exceptionTable.toList = tableOf [(0, 10, 13, 25), (0, 10, 17, 31)] := vx_table (x := yL_accept) BL (atoms_spec (ws := wsH yL_accept cL_accept 5 (some .int) [(0, 10, 13, 25), (0, 10, 17, 31)]) BL.pre (Cond.codeWith yL_accept cL_accept 5 (some .int) [(0, 10, 13, 25), (0, 10, 17, 31)]) List.mem_cons_self)
  have hr := BL.returns
  have hlocks := BL.notSynchronized
  have hw : WS g s (xB S 0 B y) s.heap [] := ⟨hPB, va_S.rf⟩
  have hl := lv_entry ([.ref (gA g 0), .int a1, .int a2, .ref (gA g 169)]) (n := 5) (Nat.le_of_ble_eq_true rfl)
  rw [lg_entry_eq]
  generalize (lg_sl ([.ref (gA g 0), .int a1, .int a2, .ref (gA g 169)]) ++ List.replicate (5 - (lg_sl ([.ref (gA g 0), .int a1, .int a2, .ref (gA g 169)])).length) Slot.unset).toArray = ls at hl ⊢
  have hl : lv_has ls 5 [(0, .ref (gA g 0)), (1, .int a1), (2, .int a2), (3, .ref (gA g 169))] := hl
  refine lv_aload_n hx hb dL_accept_0 rfl (lv_at hl 3 rfl) ?_
  refine lv_iconst (v := 0) hx hb dL_accept_1 (by decide) ?_
  refine lv_aload_n hx hb dL_accept_2 rfl (lv_at hl 0 rfl) ?_
  refine lv_iload_n hx hb dL_accept_3 rfl (lv_at hl 1 rfl) ?_
  refine lv_iload_n hx hb dL_accept_4 rfl (lv_at hl 2 rfl) ?_
  refine kx_i hw (vx_runV (As := [.int a1, .int a2]) (rest := [.int 0, .ref (gA g 169)]) ⟨hx, hb, hml, hc.2.2.1, hc.2.2.2⟩ (m_X6_accept l g hfl S B y a1 a2 _ _ hN hev) (kw_V hc 2 q943 q944 q945 q1 q946 rfl rfl (by decide +kernel) ⟨Nat.le_of_ble_eq_true rfl, Nat.le_of_ble_eq_true rfl⟩) (kp_V hk hw at_G rfl) rfl rfl hl.1 rfl (lv_room (Nat.le_of_ble_eq_true rfl)) dL_accept_5 ⟨Nat.le_of_ble_eq_true rfl, Nat.le_of_ble_eq_true rfl⟩) (fun E ce q9 H locs h1 hw hq hv hE => ?_) (fun H locs h1 hw => ?_)
  · have hE9 := ex_X6_accept E h1
    simp only [List.mem_cons, List.not_mem_nil, or_false] at hE9
    rcases hE9 with rfl | rfl
    · refine vx_catch hc.2.2.1 [⟨0, 10, 13, 25⟩] ⟨0, 10, 17, 31⟩ [] hTB (List.forall_mem_cons.mpr ⟨Or.inr ⟨by decide, _, hc.2.2.2 _ q646, hk.2.2.2.2.2.2.2.1 ("java/lang/UnsupportedOperationException", "java/lang/IndexOutOfBoundsException") (by decide +kernel)⟩, fun _ hz => absurd hz List.not_mem_nil⟩) (by decide) (by decide) (hc.2.2.2 _ q695) (hk.2.1.use nq711) hq hv hE ?_
      refine lv_astore (lv' := [(4, .ref q9), (0, .ref (gA g 0)), (1, .int a1), (2, .int a2), (3, .ref (gA g 169))]) hx hb dL_accept_17 hl (by decide) rfl (fun ls hl => ?_)
      refine lv_iconst (v := 2) hx hb dL_accept_19 (by decide) ?_
      refine W.widen (k := 3) (n := 18) (Nat.le_of_ble_eq_true rfl) (Nat.le_of_ble_eq_true rfl) ?_
      exact W.iret (v := 2) hx hb hr (fun t9 ht hW => ke_i hw ht (by rw [h1]; decide +kernel) (if_neg (by rw [h1]; exact Option.some_ne_none _)).symm) hw.2.2.2 dL_accept_20
    · refine vx_catch hc.2.2.1 [] ⟨0, 10, 13, 25⟩ [⟨0, 10, 17, 31⟩] hTB (fun _ hz => absurd hz List.not_mem_nil) (by decide) (by decide) (hc.2.2.2 _ q646) (hk.2.1.use nq680) hq hv hE ?_
      refine lv_astore (lv' := [(4, .ref q9), (0, .ref (gA g 0)), (1, .int a1), (2, .int a2), (3, .ref (gA g 169))]) hx hb dL_accept_13 hl (by decide) rfl (fun ls hl => ?_)
      refine lv_iconst (v := 1) hx hb dL_accept_15 (by decide) ?_
      refine W.widen (k := 3) (n := 18) (Nat.le_of_ble_eq_true rfl) (Nat.le_of_ble_eq_true rfl) ?_
      exact W.iret (v := 1) hx hb hr (fun t9 ht hW => ke_i hw ht (by rw [h1]; decide +kernel) (if_neg (by rw [h1]; exact Option.some_ne_none _)).symm) hw.2.2.2 dL_accept_16
  · refine lv_i2l hx hb dL_accept_8 rfl ?_
    refine k_last hc hk hw (v := ((f_X6_accept a1 a2 B).1).toInt64) (x' := (xB (f_X2_keep 17 a1 (j_X6_accept_37 a2) 0 0 S) 0 ((f_X6_accept a1 a2 B).2) (y.1, vp_updL y.2.1 0 (((f_X6_accept a1 a2 B).1).toInt64), y.2.2))) rfl dL_accept_9 (fun H locs hw => ?_)
    refine lv_goto (tgt := 21) hx hb dL_accept_10 (by decide) ?_
    refine lv_iconst (v := 0) hx hb dL_accept_21 (by decide) ?_
    refine W.widen (k := 3) (n := 18) (Nat.le_of_ble_eq_true rfl) (Nat.le_of_ble_eq_true rfl) ?_
    exact W.iret (v := 0) hx hb hr (fun t9 ht hW => ke_i hw ht (by rw [h1]; rfl) (by simp only [if_pos h1])) hw.2.2.2 dL_accept_22
set_option maxHeartbeats 4000000 in
set_option maxRecDepth 100000 in
theorem m_L_isAccepted (l : Launch) (g : wG) (hfl : l.stackTraces = false) (S : Nat → BT) (B : BT) (y : (Nat → Nat → Int32) × (Nat → Int64) × (Nat → UInt64)) (a1 : Int32) (n m9 : Nat) (hN : CN B n m9) (hev : ¬ S 2 0 1 < 0) (hz : okz (B (50 + (f_X0_leadOf (f_X6_known a1 B) B)) 5)) : mW l yL_isAccepted cL_isAccepted 4 [(0, 16, 19, 25), (0, 16, 22, 76)] ({ frames := 8, cells := 2, slots := 12, locals := 143 } : Room) 2 12 g (xB S 0 B y) [.ref (gA g 0), .int a1, .ref (gA g 169)] (kE (e_X6_isAccepted a1 B) ["java/lang/IndexOutOfBoundsException", "java/util/NoSuchElementException"]) (if e_X6_isAccepted a1 B = none then (xB S 0 B (y.1, vp_updL y.2.1 0 (if (f_X6_isAccepted a1 B) = 0 then 0 else 1), y.2.2)) else (xB S 0 B y)) := by
  refine va_MetW (cc := cL_isAccepted) (maxL := 4) (ret := some .int) (by decide) rfl ?_
  intro p9 e s m args below meth c s₁ BL hml hv
  obtain ⟨rfl, hk, hPB⟩ := hv
  have hx := BL.exec
  have hb := BL.bytes
  have hc : CX p9 c cL_isAccepted s _ m RL := ⟨hx, hb, findClass_of_methodNamed BL.named, fun w h => atoms_spec BL.pre w (List.mem_cons_of_mem _ h)⟩
  have hTB : c.exceptionTable.toList = tableOf [(0, 16, 19, 25), (0, 16, 22, 76)] := vx_table (x := yL_isAccepted) BL (atoms_spec (ws := wsH yL_isAccepted cL_isAccepted 4 (some .int) [(0, 16, 19, 25), (0, 16, 22, 76)]) BL.pre (Cond.codeWith yL_isAccepted cL_isAccepted 4 (some .int) [(0, 16, 19, 25), (0, 16, 22, 76)]) List.mem_cons_self)
  have hr := BL.returns
  have hlocks := BL.notSynchronized
  have hw : WS g s (xB S 0 B y) s.heap [] := ⟨hPB, va_S.rf⟩
  have hl := lv_entry ([.ref (gA g 0), .int a1, .ref (gA g 169)]) (n := 4) (Nat.le_of_ble_eq_true rfl)
  rw [lg_entry_eq]
  generalize (lg_sl ([.ref (gA g 0), .int a1, .ref (gA g 169)]) ++ List.replicate (4 - (lg_sl ([.ref (gA g 0), .int a1, .ref (gA g 169)])).length) Slot.unset).toArray = ls at hl ⊢
  have hl : lv_has ls 4 [(0, .ref (gA g 0)), (1, .int a1), (2, .ref (gA g 169))] := hl
  refine lv_aload_n hx hb dL_isAccepted_0 rfl (lv_at hl 2 rfl) ?_
  refine lv_iconst (v := 0) hx hb dL_isAccepted_1 (by decide) ?_
  refine lv_aload_n hx hb dL_isAccepted_2 rfl (lv_at hl 0 rfl) ?_
  refine lv_iload_n hx hb dL_isAccepted_3 rfl (lv_at hl 1 rfl) ?_
  refine kx_i hw (vx_runV (As := [.int a1]) (rest := [.int 0, .ref (gA g 169)]) ⟨hx, hb, hml, hc.2.2.1, hc.2.2.2⟩ (m_X6_isAccepted l g hfl S B y a1 _ _ hN hz) (kw_V hc 1 q951 q952 q953 q1 q954 rfl rfl (by decide +kernel) ⟨Nat.le_of_ble_eq_true rfl, Nat.le_of_ble_eq_true rfl⟩) (kp_V hk hw at_G rfl) rfl rfl hl.1 rfl (lv_room (Nat.le_of_ble_eq_true rfl)) dL_isAccepted_4 ⟨Nat.le_of_ble_eq_true rfl, Nat.le_of_ble_eq_true rfl⟩) (fun E ce q9 H locs h1 hw hq hv hE => ?_) (fun H locs h1 hw => ?_)
  · have hE9 := ex_X6_isAccepted E h1
    simp only [List.mem_cons, List.not_mem_nil, or_false] at hE9
    rcases hE9 with rfl | rfl
    · refine vx_catch hc.2.2.1 [⟨0, 16, 19, 25⟩] ⟨0, 16, 22, 76⟩ [] hTB (List.forall_mem_cons.mpr ⟨Or.inr ⟨by decide, _, hc.2.2.2 _ q646, hk.2.2.2.2.2.2.2.1 ("java/util/NoSuchElementException", "java/lang/IndexOutOfBoundsException") (by decide +kernel)⟩, fun _ hz => absurd hz List.not_mem_nil⟩) (by decide) (by decide) (hc.2.2.2 _ q840) (hk.2.1.use nq855) hq hv hE ?_
      refine lv_astore_n (lv' := [(3, .ref q9), (0, .ref (gA g 0)), (1, .int a1), (2, .ref (gA g 169))]) hx hb dL_isAccepted_22 rfl hl (by decide) rfl (fun ls hl => ?_)
      refine lv_iconst (v := 2) hx hb dL_isAccepted_23 (by decide) ?_
      refine W.widen (k := 2) (n := 12) (Nat.le_of_ble_eq_true rfl) (Nat.le_of_ble_eq_true rfl) ?_
      exact W.iret (v := 2) hx hb hr (fun t9 ht hW => ke_i hw ht (by rw [h1]; decide +kernel) (if_neg (by rw [h1]; exact Option.some_ne_none _)).symm) hw.2.2.2 dL_isAccepted_24
    · refine vx_catch hc.2.2.1 [] ⟨0, 16, 19, 25⟩ [⟨0, 16, 22, 76⟩] hTB (fun _ hz => absurd hz List.not_mem_nil) (by decide) (by decide) (hc.2.2.2 _ q646) (hk.2.1.use nq680) hq hv hE ?_
      refine lv_astore_n (lv' := [(3, .ref q9), (0, .ref (gA g 0)), (1, .int a1), (2, .ref (gA g 169))]) hx hb dL_isAccepted_19 rfl hl (by decide) rfl (fun ls hl => ?_)
      refine lv_iconst (v := 1) hx hb dL_isAccepted_20 (by decide) ?_
      refine W.widen (k := 2) (n := 12) (Nat.le_of_ble_eq_true rfl) (Nat.le_of_ble_eq_true rfl) ?_
      exact W.iret (v := 1) hx hb hr (fun t9 ht hW => ke_i hw ht (by rw [h1]; decide +kernel) (if_neg (by rw [h1]; exact Option.some_ne_none _)).symm) hw.2.2.2 dL_isAccepted_21
  · refine lv_if_eq (tgt := 14) hx hb dL_isAccepted_7 (by decide) (fun h3 => ?_) (fun h3 => ?_)
    · refine lv_lconst (v := 0) hx hb dL_isAccepted_14 (by decide) ?_
      refine k_last hc hk hw (v := 0) (x' := (xB S 0 B (y.1, vp_updL y.2.1 0 0, y.2.2))) rfl dL_isAccepted_15 (fun H locs hw => ?_)
      refine lv_goto (tgt := 25) hx hb dL_isAccepted_16 (by decide) ?_
      refine lv_iconst (v := 0) hx hb dL_isAccepted_25 (by decide) ?_
      refine W.widen (k := 2) (n := 12) (Nat.le_of_ble_eq_true rfl) (Nat.le_of_ble_eq_true rfl) ?_
      exact W.iret (v := 0) hx hb hr (fun t9 ht hW => ke_i hw ht (by rw [h1]; rfl) (by simp only [if_pos h1, if_pos h3])) hw.2.2.2 dL_isAccepted_26
    · refine lv_lconst (v := 1) hx hb dL_isAccepted_10 (by decide) ?_
      refine lv_goto (tgt := 15) hx hb dL_isAccepted_11 (by decide) ?_
      refine k_last hc hk hw (v := 1) (x' := (xB S 0 B (y.1, vp_updL y.2.1 0 1, y.2.2))) rfl dL_isAccepted_15 (fun H locs hw => ?_)
      refine lv_goto (tgt := 25) hx hb dL_isAccepted_16 (by decide) ?_
      refine lv_iconst (v := 0) hx hb dL_isAccepted_25 (by decide) ?_
      refine W.widen (k := 2) (n := 12) (Nat.le_of_ble_eq_true rfl) (Nat.le_of_ble_eq_true rfl) ?_
      exact W.iret (v := 0) hx hb hr (fun t9 ht hW => ke_i hw ht (by rw [h1]; rfl) (by simp only [if_pos h1, if_neg h3])) hw.2.2.2 dL_isAccepted_26
set_option maxHeartbeats 4000000 in
set_option maxRecDepth 100000 in
theorem m_L_heed (l : Launch) (g : wG) (hfl : l.stackTraces = false) (S : Nat → BT) (B : BT) (y : (Nat → Nat → Int32) × (Nat → Int64) × (Nat → UInt64)) (a1 : Int32) (n m9 : Nat) (hN : CN B n m9) (hev : ¬ S 2 0 1 < 0) : mW l yL_heed cL_heed 4 [(0, 9, 12, 25), (0, 9, 15, 31)] ({ frames := 11, cells := 3, slots := 18, locals := 254 } : Room) 3 18 g (xB S 0 B y) [.ref (gA g 0), .int a1, .ref (gA g 169)] (kE (e_X6_heed a1 B) ["java/lang/IndexOutOfBoundsException", "java/lang/UnsupportedOperationException"]) (if e_X6_heed a1 B = none then (xB (f_X2_keep 18 a1 0 0 0 S) 0 ((f_X6_heed a1 B).2) (y.1, vp_updL y.2.1 0 (((f_X6_heed a1 B).1).toInt64), y.2.2)) else (xB S 0 B y)) := by
  refine va_MetW (cc := cL_heed) (maxL := 4) (ret := some .int) (by decide) rfl ?_
  intro p9 e s m args below meth c s₁ BL hml hv
  obtain ⟨rfl, hk, hPB⟩ := hv
  have hx := BL.exec
  have hb := BL.bytes
  have hc : CX p9 c cL_heed s _ m RL := ⟨hx, hb, findClass_of_methodNamed BL.named, fun w h => atoms_spec BL.pre w (List.mem_cons_of_mem _ h)⟩
  have hTB : c.exceptionTable.toList = tableOf [(0, 9, 12, 25), (0, 9, 15, 31)] := vx_table (x := yL_heed) BL (atoms_spec (ws := wsH yL_heed cL_heed 4 (some .int) [(0, 9, 12, 25), (0, 9, 15, 31)]) BL.pre (Cond.codeWith yL_heed cL_heed 4 (some .int) [(0, 9, 12, 25), (0, 9, 15, 31)]) List.mem_cons_self)
  have hr := BL.returns
  have hlocks := BL.notSynchronized
  have hw : WS g s (xB S 0 B y) s.heap [] := ⟨hPB, va_S.rf⟩
  have hl := lv_entry ([.ref (gA g 0), .int a1, .ref (gA g 169)]) (n := 4) (Nat.le_of_ble_eq_true rfl)
  rw [lg_entry_eq]
  generalize (lg_sl ([.ref (gA g 0), .int a1, .ref (gA g 169)]) ++ List.replicate (4 - (lg_sl ([.ref (gA g 0), .int a1, .ref (gA g 169)])).length) Slot.unset).toArray = ls at hl ⊢
  have hl : lv_has ls 4 [(0, .ref (gA g 0)), (1, .int a1), (2, .ref (gA g 169))] := hl
  refine lv_aload_n hx hb dL_heed_0 rfl (lv_at hl 2 rfl) ?_
  refine lv_iconst (v := 0) hx hb dL_heed_1 (by decide) ?_
  refine lv_aload_n hx hb dL_heed_2 rfl (lv_at hl 0 rfl) ?_
  refine lv_iload_n hx hb dL_heed_3 rfl (lv_at hl 1 rfl) ?_
  refine kx_i hw (vx_runV (As := [.int a1]) (rest := [.int 0, .ref (gA g 169)]) ⟨hx, hb, hml, hc.2.2.1, hc.2.2.2⟩ (m_X6_heed l g hfl S B y a1 _ _ hN hev) (kw_V hc 1 q959 q960 q961 q1 q962 rfl rfl (by decide +kernel) ⟨Nat.le_of_ble_eq_true rfl, Nat.le_of_ble_eq_true rfl⟩) (kp_V hk hw at_G rfl) rfl rfl hl.1 rfl (lv_room (Nat.le_of_ble_eq_true rfl)) dL_heed_4 ⟨Nat.le_of_ble_eq_true rfl, Nat.le_of_ble_eq_true rfl⟩) (fun E ce q9 H locs h1 hw hq hv hE => ?_) (fun H locs h1 hw => ?_)
  · have hE9 := ex_X6_heed E h1
    simp only [List.mem_cons, List.not_mem_nil, or_false] at hE9
    rcases hE9 with rfl | rfl
    · refine vx_catch hc.2.2.1 [⟨0, 9, 12, 25⟩] ⟨0, 9, 15, 31⟩ [] hTB (List.forall_mem_cons.mpr ⟨Or.inr ⟨by decide, _, hc.2.2.2 _ q646, hk.2.2.2.2.2.2.2.1 ("java/lang/UnsupportedOperationException", "java/lang/IndexOutOfBoundsException") (by decide +kernel)⟩, fun _ hz => absurd hz List.not_mem_nil⟩) (by decide) (by decide) (hc.2.2.2 _ q695) (hk.2.1.use nq711) hq hv hE ?_
      refine lv_astore_n (lv' := [(3, .ref q9), (0, .ref (gA g 0)), (1, .int a1), (2, .ref (gA g 169))]) hx hb dL_heed_15 rfl hl (by decide) rfl (fun ls hl => ?_)
      refine lv_iconst (v := 2) hx hb dL_heed_16 (by decide) ?_
      refine W.widen (k := 3) (n := 18) (Nat.le_of_ble_eq_true rfl) (Nat.le_of_ble_eq_true rfl) ?_
      exact W.iret (v := 2) hx hb hr (fun t9 ht hW => ke_i hw ht (by rw [h1]; decide +kernel) (if_neg (by rw [h1]; exact Option.some_ne_none _)).symm) hw.2.2.2 dL_heed_17
    · refine vx_catch hc.2.2.1 [] ⟨0, 9, 12, 25⟩ [⟨0, 9, 15, 31⟩] hTB (fun _ hz => absurd hz List.not_mem_nil) (by decide) (by decide) (hc.2.2.2 _ q646) (hk.2.1.use nq680) hq hv hE ?_
      refine lv_astore_n (lv' := [(3, .ref q9), (0, .ref (gA g 0)), (1, .int a1), (2, .ref (gA g 169))]) hx hb dL_heed_12 rfl hl (by decide) rfl (fun ls hl => ?_)
      refine lv_iconst (v := 1) hx hb dL_heed_13 (by decide) ?_
      refine W.widen (k := 3) (n := 18) (Nat.le_of_ble_eq_true rfl) (Nat.le_of_ble_eq_true rfl) ?_
      exact W.iret (v := 1) hx hb hr (fun t9 ht hW => ke_i hw ht (by rw [h1]; decide +kernel) (if_neg (by rw [h1]; exact Option.some_ne_none _)).symm) hw.2.2.2 dL_heed_14
  · refine lv_i2l hx hb dL_heed_7 rfl ?_
    refine k_last hc hk hw (v := ((f_X6_heed a1 B).1).toInt64) (x' := (xB (f_X2_keep 18 a1 0 0 0 S) 0 ((f_X6_heed a1 B).2) (y.1, vp_updL y.2.1 0 (((f_X6_heed a1 B).1).toInt64), y.2.2))) rfl dL_heed_8 (fun H locs hw => ?_)
    refine lv_goto (tgt := 18) hx hb dL_heed_9 (by decide) ?_
    refine lv_iconst (v := 0) hx hb dL_heed_18 (by decide) ?_
    refine W.widen (k := 3) (n := 18) (Nat.le_of_ble_eq_true rfl) (Nat.le_of_ble_eq_true rfl) ?_
    exact W.iret (v := 0) hx hb hr (fun t9 ht hW => ke_i hw ht (by rw [h1]; rfl) (by simp only [if_pos h1])) hw.2.2.2 dL_heed_19
set_option maxHeartbeats 4000000 in
set_option maxRecDepth 100000 in
theorem m_L_followUp (l : Launch) (g : wG) (hfl : l.stackTraces = false) (S : Nat → BT) (B : BT) (y : (Nat → Nat → Int32) × (Nat → Int64) × (Nat → UInt64)) (a1 : Int32) (n m9 : Nat) (hN : CN B n m9) (hev : ¬ S 2 0 1 < 0) : mW l yL_followUp cL_followUp 4 [(0, 9, 12, 25), (0, 9, 15, 31)] ({ frames := 11, cells := 3, slots := 18, locals := 254 } : Room) 3 18 g (xB S 0 B y) [.ref (gA g 0), .int a1, .ref (gA g 169)] (kE (e_X6_followUp a1 B) ["java/lang/IndexOutOfBoundsException", "java/lang/UnsupportedOperationException"]) (if e_X6_followUp a1 B = none then (xB (f_X2_keep 19 a1 0 0 0 S) 0 ((f_X6_followUp a1 B).2) (y.1, vp_updL y.2.1 0 (((f_X6_followUp a1 B).1).toInt64), y.2.2)) else (xB S 0 B y)) := by
  refine va_MetW (cc := cL_followUp) (maxL := 4) (ret := some .int) (by decide) rfl ?_
  intro p9 e s m args below meth c s₁ BL hml hv
  obtain ⟨rfl, hk, hPB⟩ := hv
  have hx := BL.exec
  have hb := BL.bytes
  have hc : CX p9 c cL_followUp s _ m RL := ⟨hx, hb, findClass_of_methodNamed BL.named, fun w h => atoms_spec BL.pre w (List.mem_cons_of_mem _ h)⟩
  have hTB : c.exceptionTable.toList = tableOf [(0, 9, 12, 25), (0, 9, 15, 31)] := vx_table (x := yL_followUp) BL (atoms_spec (ws := wsH yL_followUp cL_followUp 4 (some .int) [(0, 9, 12, 25), (0, 9, 15, 31)]) BL.pre (Cond.codeWith yL_followUp cL_followUp 4 (some .int) [(0, 9, 12, 25), (0, 9, 15, 31)]) List.mem_cons_self)
  have hr := BL.returns
  have hlocks := BL.notSynchronized
  have hw : WS g s (xB S 0 B y) s.heap [] := ⟨hPB, va_S.rf⟩
  have hl := lv_entry ([.ref (gA g 0), .int a1, .ref (gA g 169)]) (n := 4) (Nat.le_of_ble_eq_true rfl)
  rw [lg_entry_eq]
  generalize (lg_sl ([.ref (gA g 0), .int a1, .ref (gA g 169)]) ++ List.replicate (4 - (lg_sl ([.ref (gA g 0), .int a1, .ref (gA g 169)])).length) Slot.unset).toArray = ls at hl ⊢
  have hl : lv_has ls 4 [(0, .ref (gA g 0)), (1, .int a1), (2, .ref (gA g 169))] := hl
  refine lv_aload_n hx hb dL_followUp_0 rfl (lv_at hl 2 rfl) ?_
  refine lv_iconst (v := 0) hx hb dL_followUp_1 (by decide) ?_
  refine lv_aload_n hx hb dL_followUp_2 rfl (lv_at hl 0 rfl) ?_
  refine lv_iload_n hx hb dL_followUp_3 rfl (lv_at hl 1 rfl) ?_
  refine kx_i hw (vx_runV (As := [.int a1]) (rest := [.int 0, .ref (gA g 169)]) ⟨hx, hb, hml, hc.2.2.1, hc.2.2.2⟩ (m_X6_followUp l g hfl S B y a1 _ _ hN hev) (kw_V hc 1 q967 q968 q969 q1 q970 rfl rfl (by decide +kernel) ⟨Nat.le_of_ble_eq_true rfl, Nat.le_of_ble_eq_true rfl⟩) (kp_V hk hw at_G rfl) rfl rfl hl.1 rfl (lv_room (Nat.le_of_ble_eq_true rfl)) dL_followUp_4 ⟨Nat.le_of_ble_eq_true rfl, Nat.le_of_ble_eq_true rfl⟩) (fun E ce q9 H locs h1 hw hq hv hE => ?_) (fun H locs h1 hw => ?_)
  · have hE9 := ex_X6_followUp E h1
    simp only [List.mem_cons, List.not_mem_nil, or_false] at hE9
    rcases hE9 with rfl | rfl
    · refine vx_catch hc.2.2.1 [⟨0, 9, 12, 25⟩] ⟨0, 9, 15, 31⟩ [] hTB (List.forall_mem_cons.mpr ⟨Or.inr ⟨by decide, _, hc.2.2.2 _ q646, hk.2.2.2.2.2.2.2.1 ("java/lang/UnsupportedOperationException", "java/lang/IndexOutOfBoundsException") (by decide +kernel)⟩, fun _ hz => absurd hz List.not_mem_nil⟩) (by decide) (by decide) (hc.2.2.2 _ q695) (hk.2.1.use nq711) hq hv hE ?_
      refine lv_astore_n (lv' := [(3, .ref q9), (0, .ref (gA g 0)), (1, .int a1), (2, .ref (gA g 169))]) hx hb dL_followUp_15 rfl hl (by decide) rfl (fun ls hl => ?_)
      refine lv_iconst (v := 2) hx hb dL_followUp_16 (by decide) ?_
      refine W.widen (k := 3) (n := 18) (Nat.le_of_ble_eq_true rfl) (Nat.le_of_ble_eq_true rfl) ?_
      exact W.iret (v := 2) hx hb hr (fun t9 ht hW => ke_i hw ht (by rw [h1]; decide +kernel) (if_neg (by rw [h1]; exact Option.some_ne_none _)).symm) hw.2.2.2 dL_followUp_17
    · refine vx_catch hc.2.2.1 [] ⟨0, 9, 12, 25⟩ [⟨0, 9, 15, 31⟩] hTB (fun _ hz => absurd hz List.not_mem_nil) (by decide) (by decide) (hc.2.2.2 _ q646) (hk.2.1.use nq680) hq hv hE ?_
      refine lv_astore_n (lv' := [(3, .ref q9), (0, .ref (gA g 0)), (1, .int a1), (2, .ref (gA g 169))]) hx hb dL_followUp_12 rfl hl (by decide) rfl (fun ls hl => ?_)
      refine lv_iconst (v := 1) hx hb dL_followUp_13 (by decide) ?_
      refine W.widen (k := 3) (n := 18) (Nat.le_of_ble_eq_true rfl) (Nat.le_of_ble_eq_true rfl) ?_
      exact W.iret (v := 1) hx hb hr (fun t9 ht hW => ke_i hw ht (by rw [h1]; decide +kernel) (if_neg (by rw [h1]; exact Option.some_ne_none _)).symm) hw.2.2.2 dL_followUp_14
  · refine lv_i2l hx hb dL_followUp_7 rfl ?_
    refine k_last hc hk hw (v := ((f_X6_followUp a1 B).1).toInt64) (x' := (xB (f_X2_keep 19 a1 0 0 0 S) 0 ((f_X6_followUp a1 B).2) (y.1, vp_updL y.2.1 0 (((f_X6_followUp a1 B).1).toInt64), y.2.2))) rfl dL_followUp_8 (fun H locs hw => ?_)
    refine lv_goto (tgt := 18) hx hb dL_followUp_9 (by decide) ?_
    refine lv_iconst (v := 0) hx hb dL_followUp_18 (by decide) ?_
    refine W.widen (k := 3) (n := 18) (Nat.le_of_ble_eq_true rfl) (Nat.le_of_ble_eq_true rfl) ?_
    exact W.iret (v := 0) hx hb hr (fun t9 ht hW => ke_i hw ht (by rw [h1]; rfl) (by simp only [if_pos h1])) hw.2.2.2 dL_followUp_19
set_option maxHeartbeats 4000000 in
set_option maxRecDepth 100000 in
theorem m_L_withdraw (l : Launch) (g : wG) (hfl : l.stackTraces = false) (S : Nat → BT) (B : BT) (y : (Nat → Nat → Int32) × (Nat → Int64) × (Nat → UInt64)) (a1 : Int32) (n m9 : Nat) (hN : CN B n m9) (hev : ¬ S 2 0 1 < 0) : mW l yL_withdraw cL_withdraw 4 [(0, 9, 12, 25), (0, 9, 15, 31)] ({ frames := 11, cells := 2, slots := 12, locals := 254 } : Room) 2 12 g (xB S 0 B y) [.ref (gA g 0), .int a1, .ref (gA g 169)] (kE (e_X6_withdraw a1 B) ["java/lang/IndexOutOfBoundsException", "java/lang/UnsupportedOperationException"]) (if e_X6_withdraw a1 B = none then (xB (f_X2_keep 20 a1 0 0 0 S) 0 ((f_X6_withdraw a1 B).2) (y.1, vp_updL y.2.1 0 (((f_X6_withdraw a1 B).1).toInt64), y.2.2)) else (xB S 0 B y)) := by
  refine va_MetW (cc := cL_withdraw) (maxL := 4) (ret := some .int) (by decide) rfl ?_
  intro p9 e s m args below meth c s₁ BL hml hv
  obtain ⟨rfl, hk, hPB⟩ := hv
  have hx := BL.exec
  have hb := BL.bytes
  have hc : CX p9 c cL_withdraw s _ m RL := ⟨hx, hb, findClass_of_methodNamed BL.named, fun w h => atoms_spec BL.pre w (List.mem_cons_of_mem _ h)⟩
  have hTB : c.exceptionTable.toList = tableOf [(0, 9, 12, 25), (0, 9, 15, 31)] := vx_table (x := yL_withdraw) BL (atoms_spec (ws := wsH yL_withdraw cL_withdraw 4 (some .int) [(0, 9, 12, 25), (0, 9, 15, 31)]) BL.pre (Cond.codeWith yL_withdraw cL_withdraw 4 (some .int) [(0, 9, 12, 25), (0, 9, 15, 31)]) List.mem_cons_self)
  have hr := BL.returns
  have hlocks := BL.notSynchronized
  have hw : WS g s (xB S 0 B y) s.heap [] := ⟨hPB, va_S.rf⟩
  have hl := lv_entry ([.ref (gA g 0), .int a1, .ref (gA g 169)]) (n := 4) (Nat.le_of_ble_eq_true rfl)
  rw [lg_entry_eq]
  generalize (lg_sl ([.ref (gA g 0), .int a1, .ref (gA g 169)]) ++ List.replicate (4 - (lg_sl ([.ref (gA g 0), .int a1, .ref (gA g 169)])).length) Slot.unset).toArray = ls at hl ⊢
  have hl : lv_has ls 4 [(0, .ref (gA g 0)), (1, .int a1), (2, .ref (gA g 169))] := hl
  refine lv_aload_n hx hb dL_withdraw_0 rfl (lv_at hl 2 rfl) ?_
  refine lv_iconst (v := 0) hx hb dL_withdraw_1 (by decide) ?_
  refine lv_aload_n hx hb dL_withdraw_2 rfl (lv_at hl 0 rfl) ?_
  refine lv_iload_n hx hb dL_withdraw_3 rfl (lv_at hl 1 rfl) ?_
  refine kx_i hw (vx_runV (As := [.int a1]) (rest := [.int 0, .ref (gA g 169)]) ⟨hx, hb, hml, hc.2.2.1, hc.2.2.2⟩ (m_X6_withdraw l g hfl S B y a1 _ _ hN hev) (kw_V hc 1 q975 q976 q977 q1 q978 rfl rfl (by decide +kernel) ⟨Nat.le_of_ble_eq_true rfl, Nat.le_of_ble_eq_true rfl⟩) (kp_V hk hw at_G rfl) rfl rfl hl.1 rfl (lv_room (Nat.le_of_ble_eq_true rfl)) dL_withdraw_4 ⟨Nat.le_of_ble_eq_true rfl, Nat.le_of_ble_eq_true rfl⟩) (fun E ce q9 H locs h1 hw hq hv hE => ?_) (fun H locs h1 hw => ?_)
  · have hE9 := ex_X6_withdraw E h1
    simp only [List.mem_cons, List.not_mem_nil, or_false] at hE9
    rcases hE9 with rfl | rfl
    · refine vx_catch hc.2.2.1 [⟨0, 9, 12, 25⟩] ⟨0, 9, 15, 31⟩ [] hTB (List.forall_mem_cons.mpr ⟨Or.inr ⟨by decide, _, hc.2.2.2 _ q646, hk.2.2.2.2.2.2.2.1 ("java/lang/UnsupportedOperationException", "java/lang/IndexOutOfBoundsException") (by decide +kernel)⟩, fun _ hz => absurd hz List.not_mem_nil⟩) (by decide) (by decide) (hc.2.2.2 _ q695) (hk.2.1.use nq711) hq hv hE ?_
      refine lv_astore_n (lv' := [(3, .ref q9), (0, .ref (gA g 0)), (1, .int a1), (2, .ref (gA g 169))]) hx hb dL_withdraw_15 rfl hl (by decide) rfl (fun ls hl => ?_)
      refine lv_iconst (v := 2) hx hb dL_withdraw_16 (by decide) ?_
      refine W.widen (k := 2) (n := 12) (Nat.le_of_ble_eq_true rfl) (Nat.le_of_ble_eq_true rfl) ?_
      exact W.iret (v := 2) hx hb hr (fun t9 ht hW => ke_i hw ht (by rw [h1]; decide +kernel) (if_neg (by rw [h1]; exact Option.some_ne_none _)).symm) hw.2.2.2 dL_withdraw_17
    · refine vx_catch hc.2.2.1 [] ⟨0, 9, 12, 25⟩ [⟨0, 9, 15, 31⟩] hTB (fun _ hz => absurd hz List.not_mem_nil) (by decide) (by decide) (hc.2.2.2 _ q646) (hk.2.1.use nq680) hq hv hE ?_
      refine lv_astore_n (lv' := [(3, .ref q9), (0, .ref (gA g 0)), (1, .int a1), (2, .ref (gA g 169))]) hx hb dL_withdraw_12 rfl hl (by decide) rfl (fun ls hl => ?_)
      refine lv_iconst (v := 1) hx hb dL_withdraw_13 (by decide) ?_
      refine W.widen (k := 2) (n := 12) (Nat.le_of_ble_eq_true rfl) (Nat.le_of_ble_eq_true rfl) ?_
      exact W.iret (v := 1) hx hb hr (fun t9 ht hW => ke_i hw ht (by rw [h1]; decide +kernel) (if_neg (by rw [h1]; exact Option.some_ne_none _)).symm) hw.2.2.2 dL_withdraw_14
  · refine lv_i2l hx hb dL_withdraw_7 rfl ?_
    refine k_last hc hk hw (v := ((f_X6_withdraw a1 B).1).toInt64) (x' := (xB (f_X2_keep 20 a1 0 0 0 S) 0 ((f_X6_withdraw a1 B).2) (y.1, vp_updL y.2.1 0 (((f_X6_withdraw a1 B).1).toInt64), y.2.2))) rfl dL_withdraw_8 (fun H locs hw => ?_)
    refine lv_goto (tgt := 18) hx hb dL_withdraw_9 (by decide) ?_
    refine lv_iconst (v := 0) hx hb dL_withdraw_18 (by decide) ?_
    refine W.widen (k := 2) (n := 12) (Nat.le_of_ble_eq_true rfl) (Nat.le_of_ble_eq_true rfl) ?_
    exact W.iret (v := 0) hx hb hr (fun t9 ht hW => ke_i hw ht (by rw [h1]; rfl) (by simp only [if_pos h1])) hw.2.2.2 dL_withdraw_19
set_option maxHeartbeats 4000000 in
set_option maxRecDepth 100000 in
theorem m_L_days (l : Launch) (g : wG) (hfl : l.stackTraces = false) (S : Nat → BT) (B : BT) (y : (Nat → Nat → Int32) × (Nat → Int64) × (Nat → UInt64)) (a1 : Int32) (n m9 : Nat) (hN : CN B n m9) (hev : ¬ S 2 0 1 < 0) : mW l yL_days cL_days 4 [(0, 9, 12, 25)] ({ frames := 8, cells := 1, slots := 6, locals := 142 } : Room) 1 6 g (xB S 0 B y) [.ref (gA g 0), .int a1, .ref (gA g 169)] (kE (e_X6_days a1 B) ["java/lang/IndexOutOfBoundsException"]) (if e_X6_days a1 B = none then (xB S 0 B (y.1, vp_updL y.2.1 0 ((f_X6_days a1 B).toInt64), y.2.2)) else (xB S 0 B y)) := by
  refine va_MetW (cc := cL_days) (maxL := 4) (ret := some .int) (by decide) rfl ?_
  intro p9 e s m args below meth c s₁ BL hml hv
  obtain ⟨rfl, hk, hPB⟩ := hv
  have hx := BL.exec
  have hb := BL.bytes
  have hc : CX p9 c cL_days s _ m RL := ⟨hx, hb, findClass_of_methodNamed BL.named, fun w h => atoms_spec BL.pre w (List.mem_cons_of_mem _ h)⟩
  have hTB : c.exceptionTable.toList = tableOf [(0, 9, 12, 25)] := vx_table (x := yL_days) BL (atoms_spec (ws := wsH yL_days cL_days 4 (some .int) [(0, 9, 12, 25)]) BL.pre (Cond.codeWith yL_days cL_days 4 (some .int) [(0, 9, 12, 25)]) List.mem_cons_self)
  have hr := BL.returns
  have hlocks := BL.notSynchronized
  have hw : WS g s (xB S 0 B y) s.heap [] := ⟨hPB, va_S.rf⟩
  have hl := lv_entry ([.ref (gA g 0), .int a1, .ref (gA g 169)]) (n := 4) (Nat.le_of_ble_eq_true rfl)
  rw [lg_entry_eq]
  generalize (lg_sl ([.ref (gA g 0), .int a1, .ref (gA g 169)]) ++ List.replicate (4 - (lg_sl ([.ref (gA g 0), .int a1, .ref (gA g 169)])).length) Slot.unset).toArray = ls at hl ⊢
  have hl : lv_has ls 4 [(0, .ref (gA g 0)), (1, .int a1), (2, .ref (gA g 169))] := hl
  refine lv_aload_n hx hb dL_days_0 rfl (lv_at hl 2 rfl) ?_
  refine lv_iconst (v := 0) hx hb dL_days_1 (by decide) ?_
  refine lv_aload_n hx hb dL_days_2 rfl (lv_at hl 0 rfl) ?_
  refine lv_iload_n hx hb dL_days_3 rfl (lv_at hl 1 rfl) ?_
  refine kx_i hw (vx_runV (As := [.int a1]) (rest := [.int 0, .ref (gA g 169)]) ⟨hx, hb, hml, hc.2.2.1, hc.2.2.2⟩ (m_X6_days l g hfl S B y a1 _ _ hN) (kw_V hc 1 q984 q985 q986 q1 q987 rfl rfl (by decide +kernel) ⟨Nat.le_of_ble_eq_true rfl, Nat.le_of_ble_eq_true rfl⟩) (kp_V hk hw at_G rfl) rfl rfl hl.1 rfl (lv_room (Nat.le_of_ble_eq_true rfl)) dL_days_4 ⟨Nat.le_of_ble_eq_true rfl, Nat.le_of_ble_eq_true rfl⟩) (fun E ce q9 H locs h1 hw hq hv hE => ?_) (fun H locs h1 hw => ?_)
  · have hE9 := ex_X6_days E h1
    simp only [List.mem_cons, List.not_mem_nil, or_false] at hE9
    obtain rfl := hE9
    refine vx_catch hc.2.2.1 [] ⟨0, 9, 12, 25⟩ [] hTB (fun _ hz => absurd hz List.not_mem_nil) (by decide) (by decide) (hc.2.2.2 _ q646) (hk.2.1.use nq680) hq hv hE ?_
    refine lv_astore_n (lv' := [(3, .ref q9), (0, .ref (gA g 0)), (1, .int a1), (2, .ref (gA g 169))]) hx hb dL_days_12 rfl hl (by decide) rfl (fun ls hl => ?_)
    refine lv_iconst (v := 1) hx hb dL_days_13 (by decide) ?_
    refine W.widen (k := 1) (n := 6) (Nat.le_of_ble_eq_true rfl) (Nat.le_of_ble_eq_true rfl) ?_
    exact W.iret (v := 1) hx hb hr (fun t9 ht hW => ke_i hw ht (by rw [h1]; decide +kernel) (if_neg (by rw [h1]; exact Option.some_ne_none _)).symm) hw.2.2.2 dL_days_14
  · refine lv_i2l hx hb dL_days_7 rfl ?_
    refine k_last hc hk hw (v := (f_X6_days a1 B).toInt64) (x' := (xB S 0 B (y.1, vp_updL y.2.1 0 ((f_X6_days a1 B).toInt64), y.2.2))) rfl dL_days_8 (fun H locs hw => ?_)
    refine lv_goto (tgt := 15) hx hb dL_days_9 (by decide) ?_
    refine lv_iconst (v := 0) hx hb dL_days_15 (by decide) ?_
    refine W.widen (k := 1) (n := 6) (Nat.le_of_ble_eq_true rfl) (Nat.le_of_ble_eq_true rfl) ?_
    exact W.iret (v := 0) hx hb hr (fun t9 ht hW => ke_i hw ht (by rw [h1]; rfl) (by simp only [if_pos h1])) hw.2.2.2 dL_days_16
set_option maxHeartbeats 4000000 in
set_option maxRecDepth 100000 in
theorem m_L_heededShare (l : Launch) (g : wG) (hfl : l.stackTraces = false) (S : Nat → BT) (B : BT) (y : (Nat → Nat → Int32) × (Nat → Int64) × (Nat → UInt64)) (a1 : Int32) (n m9 : Nat) (hN : CN B n m9) (hev : ¬ S 2 0 1 < 0) : mW l yL_heededShare cL_heededShare 4 [(0, 9, 12, 25), (0, 9, 15, 125)] ({ frames := 8, cells := 2, slots := 12, locals := 143 } : Room) 2 12 g (xB S 0 B y) [.ref (gA g 0), .int a1, .ref (gA g 170)] (kE (e_X6_heededShare a1 B) ["java/lang/IndexOutOfBoundsException", "java/lang/ArithmeticException"]) (if e_X6_heededShare a1 B = none then (xB S 0 B (y.1, y.2.1, vf_upd y.2.2 0 (FP.f2d (f_X6_heededShare a1 B)))) else (xB S 0 B y)) := by
  refine va_MetW (cc := cL_heededShare) (maxL := 4) (ret := some .int) (by decide) rfl ?_
  intro p9 e s m args below meth c s₁ BL hml hv
  obtain ⟨rfl, hk, hPB⟩ := hv
  have hx := BL.exec
  have hb := BL.bytes
  have hc : CX p9 c cL_heededShare s _ m RL := ⟨hx, hb, findClass_of_methodNamed BL.named, fun w h => atoms_spec BL.pre w (List.mem_cons_of_mem _ h)⟩
  have hTB : c.exceptionTable.toList = tableOf [(0, 9, 12, 25), (0, 9, 15, 125)] := vx_table (x := yL_heededShare) BL (atoms_spec (ws := wsH yL_heededShare cL_heededShare 4 (some .int) [(0, 9, 12, 25), (0, 9, 15, 125)]) BL.pre (Cond.codeWith yL_heededShare cL_heededShare 4 (some .int) [(0, 9, 12, 25), (0, 9, 15, 125)]) List.mem_cons_self)
  have hr := BL.returns
  have hlocks := BL.notSynchronized
  have hw : WS g s (xB S 0 B y) s.heap [] := ⟨hPB, va_S.rf⟩
  have hl := lv_entry ([.ref (gA g 0), .int a1, .ref (gA g 170)]) (n := 4) (Nat.le_of_ble_eq_true rfl)
  rw [lg_entry_eq]
  generalize (lg_sl ([.ref (gA g 0), .int a1, .ref (gA g 170)]) ++ List.replicate (4 - (lg_sl ([.ref (gA g 0), .int a1, .ref (gA g 170)])).length) Slot.unset).toArray = ls at hl ⊢
  have hl : lv_has ls 4 [(0, .ref (gA g 0)), (1, .int a1), (2, .ref (gA g 170))] := hl
  refine lv_aload_n hx hb dL_heededShare_0 rfl (lv_at hl 2 rfl) ?_
  refine lv_iconst (v := 0) hx hb dL_heededShare_1 (by decide) ?_
  refine lv_aload_n hx hb dL_heededShare_2 rfl (lv_at hl 0 rfl) ?_
  refine lv_iload_n hx hb dL_heededShare_3 rfl (lv_at hl 1 rfl) ?_
  refine kx_f hw (vx_runV (As := [.int a1]) (rest := [.int 0, .ref (gA g 170)]) ⟨hx, hb, hml, hc.2.2.1, hc.2.2.2⟩ (m_X6_heededShare l g hfl S B y a1 _ _ hN) (kw_V hc 1 q1005 q1006 q1007 q1 q1008 rfl rfl (by decide +kernel) ⟨Nat.le_of_ble_eq_true rfl, Nat.le_of_ble_eq_true rfl⟩) (kp_V hk hw at_G rfl) rfl rfl hl.1 rfl (lv_room (Nat.le_of_ble_eq_true rfl)) dL_heededShare_4 ⟨Nat.le_of_ble_eq_true rfl, Nat.le_of_ble_eq_true rfl⟩) (fun E ce q9 H locs h1 hw hq hv hE => ?_) (fun H locs h1 hw => ?_)
  · have hE9 := ex_X6_heededShare E h1
    simp only [List.mem_cons, List.not_mem_nil, or_false] at hE9
    rcases hE9 with rfl | rfl
    · refine vx_catch hc.2.2.1 [⟨0, 9, 12, 25⟩] ⟨0, 9, 15, 125⟩ [] hTB (List.forall_mem_cons.mpr ⟨Or.inr ⟨by decide, _, hc.2.2.2 _ q646, hk.2.2.2.2.2.2.2.1 ("java/lang/ArithmeticException", "java/lang/IndexOutOfBoundsException") (by decide +kernel)⟩, fun _ hz => absurd hz List.not_mem_nil⟩) (by decide) (by decide) (hc.2.2.2 _ q991) (hk.2.1.use nq1003) hq hv hE ?_
      refine lv_astore_n (lv' := [(3, .ref q9), (0, .ref (gA g 0)), (1, .int a1), (2, .ref (gA g 170))]) hx hb dL_heededShare_15 rfl hl (by decide) rfl (fun ls hl => ?_)
      refine lv_iconst (v := 2) hx hb dL_heededShare_16 (by decide) ?_
      refine W.widen (k := 2) (n := 12) (Nat.le_of_ble_eq_true rfl) (Nat.le_of_ble_eq_true rfl) ?_
      exact W.iret (v := 2) hx hb hr (fun t9 ht hW => ke_i hw ht (by rw [h1]; decide +kernel) (if_neg (by rw [h1]; exact Option.some_ne_none _)).symm) hw.2.2.2 dL_heededShare_17
    · refine vx_catch hc.2.2.1 [] ⟨0, 9, 12, 25⟩ [⟨0, 9, 15, 125⟩] hTB (fun _ hz => absurd hz List.not_mem_nil) (by decide) (by decide) (hc.2.2.2 _ q646) (hk.2.1.use nq680) hq hv hE ?_
      refine lv_astore_n (lv' := [(3, .ref q9), (0, .ref (gA g 0)), (1, .int a1), (2, .ref (gA g 170))]) hx hb dL_heededShare_12 rfl hl (by decide) rfl (fun ls hl => ?_)
      refine lv_iconst (v := 1) hx hb dL_heededShare_13 (by decide) ?_
      refine W.widen (k := 2) (n := 12) (Nat.le_of_ble_eq_true rfl) (Nat.le_of_ble_eq_true rfl) ?_
      exact W.iret (v := 1) hx hb hr (fun t9 ht hW => ke_i hw ht (by rw [h1]; decide +kernel) (if_neg (by rw [h1]; exact Option.some_ne_none _)).symm) hw.2.2.2 dL_heededShare_14
  · refine lv_f2d hx hb dL_heededShare_7 (f2d_heededShare h1) ?_
    refine k_dast hc hk hw (v := FP.f2d (f_X6_heededShare a1 B)) (x' := (xB S 0 B (y.1, y.2.1, vf_upd y.2.2 0 (FP.f2d (f_X6_heededShare a1 B))))) rfl dL_heededShare_8 (fun H locs hw => ?_)
    refine lv_goto (tgt := 18) hx hb dL_heededShare_9 (by decide) ?_
    refine lv_iconst (v := 0) hx hb dL_heededShare_18 (by decide) ?_
    refine W.widen (k := 2) (n := 12) (Nat.le_of_ble_eq_true rfl) (Nat.le_of_ble_eq_true rfl) ?_
    exact W.iret (v := 0) hx hb hr (fun t9 ht hW => ke_i hw ht (by rw [h1]; rfl) (by simp only [if_pos h1])) hw.2.2.2 dL_heededShare_19
set_option maxHeartbeats 4000000 in
set_option maxRecDepth 100000 in
theorem m_L_meanDays (l : Launch) (g : wG) (hfl : l.stackTraces = false) (S : Nat → BT) (B : BT) (y : (Nat → Nat → Int32) × (Nat → Int64) × (Nat → UInt64)) (n m9 : Nat) (hN : CN B n m9) (hev : ¬ S 2 0 1 < 0) : mW l yL_meanDays cL_meanDays 3 [(0, 7, 10, 125)] ({ frames := 7, cells := 1, slots := 6, locals := 154 } : Room) 1 6 g (xB S 0 B y) [.ref (gA g 0), .ref (gA g 170)] (kE (e_X6_meanDays B) ["java/lang/ArithmeticException"]) (if e_X6_meanDays B = none then (xB S 0 B (y.1, y.2.1, vf_upd y.2.2 0 (f_X6_meanDays B))) else (xB S 0 B y)) := by
  refine va_MetW (cc := cL_meanDays) (maxL := 3) (ret := some .int) (by decide) rfl ?_
  intro p9 e s m args below meth c s₁ BL hml hv
  obtain ⟨rfl, hk, hPB⟩ := hv
  have hx := BL.exec
  have hb := BL.bytes
  have hc : CX p9 c cL_meanDays s _ m RL := ⟨hx, hb, findClass_of_methodNamed BL.named, fun w h => atoms_spec BL.pre w (List.mem_cons_of_mem _ h)⟩
  have hTB : c.exceptionTable.toList = tableOf [(0, 7, 10, 125)] := vx_table (x := yL_meanDays) BL (atoms_spec (ws := wsH yL_meanDays cL_meanDays 3 (some .int) [(0, 7, 10, 125)]) BL.pre (Cond.codeWith yL_meanDays cL_meanDays 3 (some .int) [(0, 7, 10, 125)]) List.mem_cons_self)
  have hr := BL.returns
  have hlocks := BL.notSynchronized
  have hw : WS g s (xB S 0 B y) s.heap [] := ⟨hPB, va_S.rf⟩
  have hl := lv_entry ([.ref (gA g 0), .ref (gA g 170)]) (n := 3) (Nat.le_of_ble_eq_true rfl)
  rw [lg_entry_eq]
  generalize (lg_sl ([.ref (gA g 0), .ref (gA g 170)]) ++ List.replicate (3 - (lg_sl ([.ref (gA g 0), .ref (gA g 170)])).length) Slot.unset).toArray = ls at hl ⊢
  have hl : lv_has ls 3 [(0, .ref (gA g 0)), (1, .ref (gA g 170))] := hl
  refine lv_aload_n hx hb dL_meanDays_0 rfl (lv_at hl 1 rfl) ?_
  refine lv_iconst (v := 0) hx hb dL_meanDays_1 (by decide) ?_
  refine lv_aload_n hx hb dL_meanDays_2 rfl (lv_at hl 0 rfl) ?_
  refine kx_d hw (vx_runV (As := []) (rest := [.int 0, .ref (gA g 170)]) ⟨hx, hb, hml, hc.2.2.1, hc.2.2.2⟩ (m_X6_meanDays l g hfl S B y _ _ hN) (kw_V hc 0 q1015 q1016 q1017 q1 q1018 rfl rfl (by decide +kernel) ⟨Nat.le_of_ble_eq_true rfl, Nat.le_of_ble_eq_true rfl⟩) (kp_V hk hw at_G rfl) rfl rfl hl.1 rfl (lv_room (Nat.le_of_ble_eq_true rfl)) dL_meanDays_3 ⟨Nat.le_of_ble_eq_true rfl, Nat.le_of_ble_eq_true rfl⟩) (fun E ce q9 H locs h1 hw hq hv hE => ?_) (fun H locs h1 hw => ?_)
  · have hE9 := ex_X6_meanDays E h1
    simp only [List.mem_cons, List.not_mem_nil, or_false] at hE9
    obtain rfl := hE9
    refine vx_catch hc.2.2.1 [] ⟨0, 7, 10, 125⟩ [] hTB (fun _ hz => absurd hz List.not_mem_nil) (by decide) (by decide) (hc.2.2.2 _ q991) (hk.2.1.use nq1003) hq hv hE ?_
    refine lv_astore_n (lv' := [(2, .ref q9), (0, .ref (gA g 0)), (1, .ref (gA g 170))]) hx hb dL_meanDays_10 rfl hl (by decide) rfl (fun ls hl => ?_)
    refine lv_iconst (v := 1) hx hb dL_meanDays_11 (by decide) ?_
    refine W.widen (k := 1) (n := 6) (Nat.le_of_ble_eq_true rfl) (Nat.le_of_ble_eq_true rfl) ?_
    exact W.iret (v := 1) hx hb hr (fun t9 ht hW => ke_i hw ht (by rw [h1]; decide +kernel) (if_neg (by rw [h1]; exact Option.some_ne_none _)).symm) hw.2.2.2 dL_meanDays_12
  · refine k_dast hc hk hw (v := f_X6_meanDays B) (x' := (xB S 0 B (y.1, y.2.1, vf_upd y.2.2 0 (f_X6_meanDays B)))) rfl dL_meanDays_6 (fun H locs hw => ?_)
    refine lv_goto (tgt := 13) hx hb dL_meanDays_7 (by decide) ?_
    refine lv_iconst (v := 0) hx hb dL_meanDays_13 (by decide) ?_
    refine W.widen (k := 1) (n := 6) (Nat.le_of_ble_eq_true rfl) (Nat.le_of_ble_eq_true rfl) ?_
    exact W.iret (v := 0) hx hb hr (fun t9 ht hW => ke_i hw ht (by rw [h1]; rfl) (by simp only [if_pos h1])) hw.2.2.2 dL_meanDays_14
