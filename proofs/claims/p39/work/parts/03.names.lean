def RX0 : String := "GrievanceOmbud$Book"
def TX0 : u_T := fun k => match k with
  | 0 => ("GrievanceOmbud$Book", "offices", "[LGrievanceOmbud$Office;", true)
  | 1 => ("GrievanceOmbud$Book", "complaints", "[LGrievanceOmbud$Complaint;", true)
  | 2 => ("GrievanceOmbud$Book", "weights", "[I", true)
  | 3 => ("GrievanceOmbud$Book", "officeCount", "I", false)
  | 4 => ("GrievanceOmbud$Book", "complaintCount", "I", false)
  | _ => ("GrievanceOmbud$Book", "day", "I", false)
def tyX0 : Nat → FieldType := fun k => match k with
  | 0 => .array (.object "GrievanceOmbud$Office")
  | 1 => .array (.object "GrievanceOmbud$Complaint")
  | 2 => .array .int
  | 3 => .int
  | 4 => .int
  | _ => .int
abbrev wsX00 : List Cond := u_ws RX0 TX0 6
theorem nmX0 : ∀ a, a < 6 → ∀ b, b < 6 → a ≠ b → (TX0 a).2.1 ≠ (TX0 b).2.1 := by decide +kernel
theorem tyX0_ok : ∀ k, k < 6 → parseFieldDescriptor (TX0 k).2.2.1 = some (tyX0 k) := by decide +kernel
abbrev cX0_init : ByteArray := prog_2_method_1_code
def yX0_init : MethodName := ⟨RX0, "<init>", "()V"⟩
abbrev cX0_open : ByteArray := prog_2_method_2_code
def yX0_open : MethodName := ⟨RX0, "open", "()V"⟩
abbrev cX0_apply : ByteArray := prog_2_method_3_code
def yX0_apply : MethodName := ⟨RX0, "apply", "(IIIII)I"⟩
abbrev cX0_applyAtIntake : ByteArray := prog_2_method_4_code
def yX0_applyAtIntake : MethodName := ⟨RX0, "applyAtIntake", "(ILGrievanceOmbud$Complaint;I)I"⟩
abbrev cX0_applyToCase : ByteArray := prog_2_method_5_code
def yX0_applyToCase : MethodName := ⟨RX0, "applyToCase", "(ILGrievanceOmbud$Complaint;I)I"⟩
abbrev cX0_openOffice : ByteArray := prog_2_method_6_code
def yX0_openOffice : MethodName := ⟨RX0, "openOffice", "(II)I"⟩
abbrev cX0_weigh : ByteArray := prog_2_method_7_code
def yX0_weigh : MethodName := ⟨RX0, "weigh", "(II)I"⟩
abbrev cX0_hear : ByteArray := prog_2_method_8_code
def yX0_hear : MethodName := ⟨RX0, "hear", "(IIII)I"⟩
abbrev cX0_tellOfCourt : ByteArray := prog_2_method_9_code
def yX0_tellOfCourt : MethodName := ⟨RX0, "tellOfCourt", "(LGrievanceOmbud$Complaint;Z)I"⟩
abbrev cX0_tellOfReason : ByteArray := prog_2_method_10_code
def yX0_tellOfReason : MethodName := ⟨RX0, "tellOfReason", "(LGrievanceOmbud$Complaint;)I"⟩
abbrev cX0_intakeOf : ByteArray := prog_2_method_11_code
def yX0_intakeOf : MethodName := ⟨RX0, "intakeOf", "(LGrievanceOmbud$Complaint;)C"⟩
abbrev cX0_putToOffice : ByteArray := prog_2_method_12_code
def yX0_putToOffice : MethodName := ⟨RX0, "putToOffice", "(LGrievanceOmbud$Complaint;)I"⟩
abbrev cX0_giveTime : ByteArray := prog_2_method_13_code
def yX0_giveTime : MethodName := ⟨RX0, "giveTime", "(LGrievanceOmbud$Complaint;I)I"⟩
abbrev cX0_urge : ByteArray := prog_2_method_14_code
def yX0_urge : MethodName := ⟨RX0, "urge", "(LGrievanceOmbud$Complaint;)I"⟩
abbrev cX0_putBehind : ByteArray := prog_2_method_15_code
def yX0_putBehind : MethodName := ⟨RX0, "putBehind", "(LGrievanceOmbud$Complaint;I)I"⟩
abbrev cX0_setFree : ByteArray := prog_2_method_16_code
def yX0_setFree : MethodName := ⟨RX0, "setFree", "(LGrievanceOmbud$Complaint;)I"⟩
abbrev cX0_conclude : ByteArray := prog_2_method_17_code
def yX0_conclude : MethodName := ⟨RX0, "conclude", "(LGrievanceOmbud$Complaint;I)I"⟩
abbrev cX0_insist : ByteArray := prog_2_method_18_code
def yX0_insist : MethodName := ⟨RX0, "insist", "(LGrievanceOmbud$Complaint;)I"⟩
abbrev cX0_takeBack : ByteArray := prog_2_method_19_code
def yX0_takeBack : MethodName := ⟨RX0, "takeBack", "(LGrievanceOmbud$Complaint;)I"⟩
abbrev cX0_moveAll : ByteArray := prog_2_method_20_code
def yX0_moveAll : MethodName := ⟨RX0, "moveAll", "(LGrievanceOmbud$Complaint;C)I"⟩
abbrev cX0_leadOf : ByteArray := prog_2_method_21_code
def yX0_leadOf : MethodName := ⟨RX0, "leadOf", "(LGrievanceOmbud$Complaint;)LGrievanceOmbud$Complaint;"⟩
abbrev cX0_officeOf : ByteArray := prog_2_method_22_code
def yX0_officeOf : MethodName := ⟨RX0, "officeOf", "(LGrievanceOmbud$Complaint;)LGrievanceOmbud$Office;"⟩
abbrev cX0_followersOf : ByteArray := prog_2_method_23_code
def yX0_followersOf : MethodName := ⟨RX0, "followersOf", "(LGrievanceOmbud$Complaint;)I"⟩
abbrev cX0_canFollow : ByteArray := prog_2_method_24_code
def yX0_canFollow : MethodName := ⟨RX0, "canFollow", "(LGrievanceOmbud$Complaint;LGrievanceOmbud$Complaint;)Z"⟩
abbrev cX0_lacksAnswer : ByteArray := prog_2_method_25_code
def yX0_lacksAnswer : MethodName := ⟨RX0, "lacksAnswer", "(LGrievanceOmbud$Complaint;)Z"⟩
abbrev cX0_weightOf : ByteArray := prog_2_method_26_code
def yX0_weightOf : MethodName := ⟨RX0, "weightOf", "(I)I"⟩
abbrev cX0_earliestDue : ByteArray := prog_2_method_27_code
def yX0_earliestDue : MethodName := ⟨RX0, "earliestDue", "()I"⟩
abbrev cX0_dueOf : ByteArray := prog_2_method_28_code
def yX0_dueOf : MethodName := ⟨RX0, "dueOf", "(LGrievanceOmbud$Complaint;)I"⟩
abbrev cX0_countStanding : ByteArray := prog_2_method_29_code
def yX0_countStanding : MethodName := ⟨RX0, "countStanding", "(C)I"⟩
abbrev cX0_countTold : ByteArray := prog_2_method_30_code
def yX0_countTold : MethodName := ⟨RX0, "countTold", "(I)I"⟩
abbrev cX0_countClosed : ByteArray := prog_2_method_31_code
def yX0_countClosed : MethodName := ⟨RX0, "countClosed", "()I"⟩
abbrev cX0_sumOfClosedDays : ByteArray := prog_2_method_32_code
def yX0_sumOfClosedDays : MethodName := ⟨RX0, "sumOfClosedDays", "()I"⟩
abbrev cX0_isOrderly : ByteArray := prog_2_method_33_code
def yX0_isOrderly : MethodName := ⟨RX0, "isOrderly", "()Z"⟩
abbrev cX0_matches : ByteArray := prog_2_method_34_code
def yX0_matches : MethodName := ⟨RX0, "matches", "(LGrievanceOmbud$Book;)Z"⟩
abbrev cX0_matchesInOffices : ByteArray := prog_2_method_35_code
def yX0_matchesInOffices : MethodName := ⟨RX0, "matchesInOffices", "(LGrievanceOmbud$Book;)Z"⟩
abbrev cX0_matchesInComplaints : ByteArray := prog_2_method_36_code
def yX0_matchesInComplaints : MethodName := ⟨RX0, "matchesInComplaints", "(LGrievanceOmbud$Book;)Z"⟩
abbrev cX0_matchesInWeights : ByteArray := prog_2_method_37_code
def yX0_matchesInWeights : MethodName := ⟨RX0, "matchesInWeights", "(LGrievanceOmbud$Book;)Z"⟩
def RX1 : String := "GrievanceOmbud$Complaint"
def TX1 : u_T := fun k => match k with
  | 0 => ("GrievanceOmbud$Complaint", "number", "I", true)
  | 1 => ("GrievanceOmbud$Complaint", "inquiry", "LGrievanceOmbud$Inquiry;", true)
  | 2 => ("GrievanceOmbud$Complaint", "finding", "LGrievanceOmbud$Finding;", true)
  | 3 => ("GrievanceOmbud$Complaint", "office", "I", false)
  | 4 => ("GrievanceOmbud$Complaint", "matter", "I", false)
  | 5 => ("GrievanceOmbud$Complaint", "person", "I", false)
  | 6 => ("GrievanceOmbud$Complaint", "happened", "I", false)
  | 7 => ("GrievanceOmbud$Complaint", "toldDay", "I", false)
  | 8 => ("GrievanceOmbud$Complaint", "atCourt", "Z", false)
  | 9 => ("GrievanceOmbud$Complaint", "excused", "Z", false)
  | 10 => ("GrievanceOmbud$Complaint", "stepDay", "I", false)
  | 11 => ("GrievanceOmbud$Complaint", "state", "C", false)
  | 12 => ("GrievanceOmbud$Complaint", "lead", "I", false)
  | 13 => ("GrievanceOmbud$Complaint", "closedDay", "I", false)
  | 14 => ("GrievanceOmbud$Complaint", "pausedSince", "I", false)
  | _ => ("GrievanceOmbud$Complaint", "pausedDays", "I", false)
def tyX1 : Nat → FieldType := fun k => match k with
  | 0 => .int
  | 1 => .object "GrievanceOmbud$Inquiry"
  | 2 => .object "GrievanceOmbud$Finding"
  | 3 => .int
  | 4 => .int
  | 5 => .int
  | 6 => .int
  | 7 => .int
  | 8 => .boolean
  | 9 => .boolean
  | 10 => .int
  | 11 => .char
  | 12 => .int
  | 13 => .int
  | 14 => .int
  | _ => .int
abbrev wsX10 : List Cond := u_ws RX1 TX1 16
theorem nmX1 : ∀ a, a < 16 → ∀ b, b < 16 → a ≠ b → (TX1 a).2.1 ≠ (TX1 b).2.1 := by decide +kernel
theorem tyX1_ok : ∀ k, k < 16 → parseFieldDescriptor (TX1 k).2.2.1 = some (tyX1 k) := by decide +kernel
abbrev cX1_init : ByteArray := prog_3_method_1_code
def yX1_init : MethodName := ⟨RX1, "<init>", "(I)V"⟩
abbrev cX1_begin : ByteArray := prog_3_method_2_code
def yX1_begin : MethodName := ⟨RX1, "begin", "(IIIII)V"⟩
abbrev cX1_isJoined : ByteArray := prog_3_method_3_code
def yX1_isJoined : MethodName := ⟨RX1, "isJoined", "()Z"⟩
abbrev cX1_moveTo : ByteArray := prog_3_method_4_code
def yX1_moveTo : MethodName := ⟨RX1, "moveTo", "(CI)V"⟩
abbrev cX1_daysBy : ByteArray := prog_3_method_5_code
def yX1_daysBy : MethodName := ⟨RX1, "daysBy", "(I)I"⟩
abbrev cX1_matches : ByteArray := prog_3_method_6_code
def yX1_matches : MethodName := ⟨RX1, "matches", "(LGrievanceOmbud$Complaint;)Z"⟩
abbrev cX1_matchesAsTold : ByteArray := prog_3_method_7_code
def yX1_matchesAsTold : MethodName := ⟨RX1, "matchesAsTold", "(LGrievanceOmbud$Complaint;)Z"⟩
def RX2 : String := "GrievanceOmbud$Events"
def TX2 : u_T := fun k => match k with
  | 0 => ("GrievanceOmbud$Events", "rows", "[I", true)
  | _ => ("GrievanceOmbud$Events", "count", "I", false)
def tyX2 : Nat → FieldType := fun k => match k with
  | 0 => .array .int
  | _ => .int
abbrev wsX20 : List Cond := u_ws RX2 TX2 2
theorem nmX2 : ∀ a, a < 2 → ∀ b, b < 2 → a ≠ b → (TX2 a).2.1 ≠ (TX2 b).2.1 := by decide +kernel
theorem tyX2_ok : ∀ k, k < 2 → parseFieldDescriptor (TX2 k).2.2.1 = some (tyX2 k) := by decide +kernel
abbrev cX2_init : ByteArray := prog_4_method_1_code
def yX2_init : MethodName := ⟨RX2, "<init>", "()V"⟩
abbrev cX2_keep : ByteArray := prog_4_method_2_code
def yX2_keep : MethodName := ⟨RX2, "keep", "(IIIII)V"⟩
abbrev cX2_tellAgain : ByteArray := prog_4_method_3_code
def yX2_tellAgain : MethodName := ⟨RX2, "tellAgain", "(LGrievanceOmbud$Book;)V"⟩
def RX3 : String := "GrievanceOmbud$Finding"
def TX3 : u_T := fun k => match k with
  | 0 => ("GrievanceOmbud$Finding", "heads", "I", false)
  | 1 => ("GrievanceOmbud$Finding", "remedy", "I", false)
  | 2 => ("GrievanceOmbud$Finding", "heedBy", "I", false)
  | 3 => ("GrievanceOmbud$Finding", "followed", "Z", false)
  | 4 => ("GrievanceOmbud$Finding", "acceptanceTold", "Z", false)
  | _ => ("GrievanceOmbud$Finding", "accepted", "Z", false)
def tyX3 : Nat → FieldType := fun k => match k with
  | 0 => .int
  | 1 => .int
  | 2 => .int
  | 3 => .boolean
  | 4 => .boolean
  | _ => .boolean
abbrev wsX30 : List Cond := u_ws RX3 TX3 6
theorem nmX3 : ∀ a, a < 6 → ∀ b, b < 6 → a ≠ b → (TX3 a).2.1 ≠ (TX3 b).2.1 := by decide +kernel
theorem tyX3_ok : ∀ k, k < 6 → parseFieldDescriptor (TX3 k).2.2.1 = some (tyX3 k) := by decide +kernel
abbrev cX3_init : ByteArray := prog_5_method_1_code
def yX3_init : MethodName := ⟨RX3, "<init>", "()V"⟩
abbrev cX3_begin : ByteArray := prog_5_method_2_code
def yX3_begin : MethodName := ⟨RX3, "begin", "(I)V"⟩
abbrev cX3_isTold : ByteArray := prog_5_method_3_code
def yX3_isTold : MethodName := ⟨RX3, "isTold", "()Z"⟩
abbrev cX3_recommend : ByteArray := prog_5_method_4_code
def yX3_recommend : MethodName := ⟨RX3, "recommend", "(II)V"⟩
abbrev cX3_matches : ByteArray := prog_5_method_5_code
def yX3_matches : MethodName := ⟨RX3, "matches", "(LGrievanceOmbud$Finding;)Z"⟩
def RX4 : String := "GrievanceOmbud$Inquiry"
def TX4 : u_T := fun k => match k with
  | 0 => ("GrievanceOmbud$Inquiry", "due", "I", false)
  | 1 => ("GrievanceOmbud$Inquiry", "extended", "Z", false)
  | 2 => ("GrievanceOmbud$Inquiry", "reminders", "I", false)
  | _ => ("GrievanceOmbud$Inquiry", "silent", "Z", false)
def tyX4 : Nat → FieldType := fun k => match k with
  | 0 => .int
  | 1 => .boolean
  | 2 => .int
  | _ => .boolean
abbrev wsX40 : List Cond := u_ws RX4 TX4 4
theorem nmX4 : ∀ a, a < 4 → ∀ b, b < 4 → a ≠ b → (TX4 a).2.1 ≠ (TX4 b).2.1 := by decide +kernel
theorem tyX4_ok : ∀ k, k < 4 → parseFieldDescriptor (TX4 k).2.2.1 = some (tyX4 k) := by decide +kernel
abbrev cX4_init : ByteArray := prog_6_method_1_code
def yX4_init : MethodName := ⟨RX4, "<init>", "()V"⟩
abbrev cX4_begin : ByteArray := prog_6_method_2_code
def yX4_begin : MethodName := ⟨RX4, "begin", "(I)V"⟩
abbrev cX4_matches : ByteArray := prog_6_method_3_code
def yX4_matches : MethodName := ⟨RX4, "matches", "(LGrievanceOmbud$Inquiry;)Z"⟩
def RX5 : String := "GrievanceOmbud$Office"
def TX5 : u_T := fun k => match k with
  | 0 => ("GrievanceOmbud$Office", "days", "I", false)
  | 1 => ("GrievanceOmbud$Office", "matters", "I", false)
  | 2 => ("GrievanceOmbud$Office", "remediesTold", "I", false)
  | _ => ("GrievanceOmbud$Office", "remediesHeeded", "I", false)
def tyX5 : Nat → FieldType := fun k => match k with
  | 0 => .int
  | 1 => .int
  | 2 => .int
  | _ => .int
abbrev wsX50 : List Cond := u_ws RX5 TX5 4
theorem nmX5 : ∀ a, a < 4 → ∀ b, b < 4 → a ≠ b → (TX5 a).2.1 ≠ (TX5 b).2.1 := by decide +kernel
theorem tyX5_ok : ∀ k, k < 4 → parseFieldDescriptor (TX5 k).2.2.1 = some (tyX5 k) := by decide +kernel
abbrev cX5_init : ByteArray := prog_7_method_1_code
def yX5_init : MethodName := ⟨RX5, "<init>", "()V"⟩
abbrev cX5_begin : ByteArray := prog_7_method_2_code
def yX5_begin : MethodName := ⟨RX5, "begin", "(II)V"⟩
abbrev cX5_matches : ByteArray := prog_7_method_3_code
def yX5_matches : MethodName := ⟨RX5, "matches", "(LGrievanceOmbud$Office;)Z"⟩
def RX6 : String := "GrievanceOmbud"
def TX6 : u_T := fun k => match k with
  | 0 => ("GrievanceOmbud", "book", "LGrievanceOmbud$Book;", true)
  | 1 => ("GrievanceOmbud", "retold", "LGrievanceOmbud$Book;", true)
  | _ => ("GrievanceOmbud", "events", "LGrievanceOmbud$Events;", true)
def tyX6 : Nat → FieldType := fun k => match k with
  | 0 => .object "GrievanceOmbud$Book"
  | 1 => .object "GrievanceOmbud$Book"
  | _ => .object "GrievanceOmbud$Events"
abbrev wsX60 : List Cond := u_ws RX6 TX6 3
theorem nmX6 : ∀ a, a < 3 → ∀ b, b < 3 → a ≠ b → (TX6 a).2.1 ≠ (TX6 b).2.1 := by decide +kernel
theorem tyX6_ok : ∀ k, k < 3 → parseFieldDescriptor (TX6 k).2.2.1 = some (tyX6 k) := by decide +kernel
abbrev cX6_init : ByteArray := prog_1_method_1_code
def yX6_init : MethodName := ⟨RX6, "<init>", "()V"⟩
abbrev cX6_addOffice : ByteArray := prog_1_method_2_code
def yX6_addOffice : MethodName := ⟨RX6, "addOffice", "(II)I"⟩
abbrev cX6_pass : ByteArray := prog_1_method_3_code
def yX6_pass : MethodName := ⟨RX6, "pass", "(I)I"⟩
abbrev cX6_today : ByteArray := prog_1_method_4_code
def yX6_today : MethodName := ⟨RX6, "today", "()I"⟩
abbrev cX6_complain : ByteArray := prog_1_method_5_code
def yX6_complain : MethodName := ⟨RX6, "complain", "(IIII)I"⟩
abbrev cX6_setCourt : ByteArray := prog_1_method_6_code
def yX6_setCourt : MethodName := ⟨RX6, "setCourt", "(IZ)Z"⟩
abbrev cX6_excuse : ByteArray := prog_1_method_7_code
def yX6_excuse : MethodName := ⟨RX6, "excuse", "(I)Z"⟩
abbrev cX6_takeStep : ByteArray := prog_1_method_8_code
def yX6_takeStep : MethodName := ⟨RX6, "takeStep", "(I)I"⟩
abbrev cX6_examine : ByteArray := prog_1_method_9_code
def yX6_examine : MethodName := ⟨RX6, "examine", "(I)C"⟩
abbrev cX6_state : ByteArray := prog_1_method_10_code
def yX6_state : MethodName := ⟨RX6, "state", "(I)C"⟩
abbrev cX6_countState : ByteArray := prog_1_method_11_code
def yX6_countState : MethodName := ⟨RX6, "countState", "(C)I"⟩
abbrev cX6_countOf : ByteArray := prog_1_method_12_code
def yX6_countOf : MethodName := ⟨RX6, "countOf", "(I)I"⟩
abbrev cX6_ask : ByteArray := prog_1_method_13_code
def yX6_ask : MethodName := ⟨RX6, "ask", "(I)I"⟩
abbrev cX6_extend : ByteArray := prog_1_method_14_code
def yX6_extend : MethodName := ⟨RX6, "extend", "(II)I"⟩
abbrev cX6_remind : ByteArray := prog_1_method_15_code
def yX6_remind : MethodName := ⟨RX6, "remind", "(I)I"⟩
abbrev cX6_answer : ByteArray := prog_1_method_16_code
def yX6_answer : MethodName := ⟨RX6, "answer", "(I)I"⟩
abbrev cX6_takeSilence : ByteArray := prog_1_method_17_code
def yX6_takeSilence : MethodName := ⟨RX6, "takeSilence", "(I)I"⟩
abbrev cX6_isOverdue : ByteArray := prog_1_method_18_code
def yX6_isOverdue : MethodName := ⟨RX6, "isOverdue", "(I)Z"⟩
abbrev cX6_nextDue : ByteArray := prog_1_method_19_code
def yX6_nextDue : MethodName := ⟨RX6, "nextDue", "()I"⟩
abbrev cX6_join : ByteArray := prog_1_method_20_code
def yX6_join : MethodName := ⟨RX6, "join", "(II)I"⟩
abbrev cX6_part : ByteArray := prog_1_method_21_code
def yX6_part : MethodName := ⟨RX6, "part", "(I)I"⟩
abbrev cX6_lead : ByteArray := prog_1_method_22_code
def yX6_lead : MethodName := ⟨RX6, "lead", "(I)I"⟩
abbrev cX6_countJoined : ByteArray := prog_1_method_23_code
def yX6_countJoined : MethodName := ⟨RX6, "countJoined", "(I)I"⟩
abbrev cX6_setWeight : ByteArray := prog_1_method_24_code
def yX6_setWeight : MethodName := ⟨RX6, "setWeight", "(II)I"⟩
abbrev cX6_find : ByteArray := prog_1_method_25_code
def yX6_find : MethodName := ⟨RX6, "find", "(II)I"⟩
abbrev cX6_heads : ByteArray := prog_1_method_26_code
def yX6_heads : MethodName := ⟨RX6, "heads", "(I)I"⟩
abbrev cX6_remedy : ByteArray := prog_1_method_27_code
def yX6_remedy : MethodName := ⟨RX6, "remedy", "(I)I"⟩
abbrev cX6_accept : ByteArray := prog_1_method_28_code
def yX6_accept : MethodName := ⟨RX6, "accept", "(IZ)I"⟩
abbrev cX6_isAccepted : ByteArray := prog_1_method_29_code
def yX6_isAccepted : MethodName := ⟨RX6, "isAccepted", "(I)Z"⟩
abbrev cX6_heed : ByteArray := prog_1_method_30_code
def yX6_heed : MethodName := ⟨RX6, "heed", "(I)I"⟩
abbrev cX6_followUp : ByteArray := prog_1_method_31_code
def yX6_followUp : MethodName := ⟨RX6, "followUp", "(I)I"⟩
abbrev cX6_withdraw : ByteArray := prog_1_method_32_code
def yX6_withdraw : MethodName := ⟨RX6, "withdraw", "(I)I"⟩
abbrev cX6_days : ByteArray := prog_1_method_33_code
def yX6_days : MethodName := ⟨RX6, "days", "(I)I"⟩
abbrev cX6_heededShare : ByteArray := prog_1_method_34_code
def yX6_heededShare : MethodName := ⟨RX6, "heededShare", "(I)F"⟩
abbrev cX6_meanDays : ByteArray := prog_1_method_35_code
def yX6_meanDays : MethodName := ⟨RX6, "meanDays", "()D"⟩
abbrev cX6_checksum : ByteArray := prog_1_method_36_code
def yX6_checksum : MethodName := ⟨RX6, "checksum", "()J"⟩
abbrev cX6_isSound : ByteArray := prog_1_method_37_code
def yX6_isSound : MethodName := ⟨RX6, "isSound", "()Z"⟩
abbrev cX6_happen : ByteArray := prog_1_method_38_code
def yX6_happen : MethodName := ⟨RX6, "happen", "(III)I"⟩
abbrev cX6_requireRange : ByteArray := prog_1_method_39_code
def yX6_requireRange : MethodName := ⟨RX6, "requireRange", "(III)V"⟩
abbrev cX6_requireOffice : ByteArray := prog_1_method_40_code
def yX6_requireOffice : MethodName := ⟨RX6, "requireOffice", "(I)V"⟩
abbrev cX6_known : ByteArray := prog_1_method_41_code
def yX6_known : MethodName := ⟨RX6, "known", "(I)LGrievanceOmbud$Complaint;"⟩
abbrev cX6_requireAtIntake : ByteArray := prog_1_method_42_code
def yX6_requireAtIntake : MethodName := ⟨RX6, "requireAtIntake", "(LGrievanceOmbud$Complaint;)V"⟩
abbrev cX6_requireOwn : ByteArray := prog_1_method_43_code
def yX6_requireOwn : MethodName := ⟨RX6, "requireOwn", "(LGrievanceOmbud$Complaint;C)V"⟩
abbrev cX6_isClosing : ByteArray := prog_1_method_44_code
def yX6_isClosing : MethodName := ⟨RX6, "isClosing", "(C)Z"⟩
abbrev cX6_remedyFor : ByteArray := prog_1_method_45_code
def yX6_remedyFor : MethodName := ⟨RX6, "remedyFor", "(I)I"⟩
def RX7 : String := "GrievanceOmbudModel"
def TX7 : u_T := fun k => match k with
  | _ => ("", "", "", false)
def tyX7 : Nat → FieldType := fun k => match k with
  | _ => .int
abbrev wsX70 : List Cond := u_ws RX7 TX7 0
theorem nmX7 : ∀ a, a < 0 → ∀ b, b < 0 → a ≠ b → (TX7 a).2.1 ≠ (TX7 b).2.1 := by decide +kernel
theorem tyX7_ok : ∀ k, k < 0 → parseFieldDescriptor (TX7 k).2.2.1 = some (tyX7 k) := by decide +kernel
def RJx145de : String := "java/io/Serializable"
def TJx145de : u_T := fun k => match k with
  | _ => ("", "", "", false)
def tyJx145de : Nat → FieldType := fun k => match k with
  | _ => .int
abbrev wsJx145de0 : List Cond := u_ws RJx145de TJx145de 0
theorem nmJx145de : ∀ a, a < 0 → ∀ b, b < 0 → a ≠ b → (TJx145de a).2.1 ≠ (TJx145de b).2.1 := by decide +kernel
theorem tyJx145de_ok : ∀ k, k < 0 → parseFieldDescriptor (TJx145de k).2.2.1 = some (tyJx145de k) := by decide +kernel
def RJx00060 : String := "java/lang/ArrayIndexOutOfBoundsException"
def TJx00060 : u_T := fun k => match k with
  | 0 => ("java/lang/Throwable", "backtrace", "Ljava/lang/Object;", false)
  | 1 => ("java/lang/Throwable", "detailMessage", "Ljava/lang/String;", false)
  | 2 => ("java/lang/Throwable", "cause", "Ljava/lang/Throwable;", false)
  | 3 => ("java/lang/Throwable", "stackTrace", "[Ljava/lang/StackTraceElement;", false)
  | 4 => ("java/lang/Throwable", "depth", "I", false)
  | _ => ("java/lang/Throwable", "suppressedExceptions", "Ljava/util/List;", false)
def tyJx00060 : Nat → FieldType := fun k => match k with
  | 0 => .object "java/lang/Object"
  | 1 => .object "java/lang/String"
  | 2 => .object "java/lang/Throwable"
  | 3 => .array (.object "java/lang/StackTraceElement")
  | 4 => .int
  | _ => .object "java/util/List"
abbrev wsJx000600 : List Cond := u_ws RJx00060 TJx00060 6
theorem nmJx00060 : ∀ a, a < 6 → ∀ b, b < 6 → a ≠ b → (TJx00060 a).2.1 ≠ (TJx00060 b).2.1 := by decide +kernel
theorem tyJx00060_ok : ∀ k, k < 6 → parseFieldDescriptor (TJx00060 k).2.2.1 = some (tyJx00060 k) := by decide +kernel
abbrev cJx00060_init_a7421 : ByteArray := prog_12_method_2_code
def yJx00060_init_a7421 : MethodName := ⟨RJx00060, "<init>", "(Ljava/lang/String;)V"⟩
def RJx9f9b0 : String := "java/lang/CharSequence"
def TJx9f9b0 : u_T := fun k => match k with
  | _ => ("", "", "", false)
def tyJx9f9b0 : Nat → FieldType := fun k => match k with
  | _ => .int
abbrev wsJx9f9b00 : List Cond := u_ws RJx9f9b0 TJx9f9b0 0
theorem nmJx9f9b0 : ∀ a, a < 0 → ∀ b, b < 0 → a ≠ b → (TJx9f9b0 a).2.1 ≠ (TJx9f9b0 b).2.1 := by decide +kernel
theorem tyJx9f9b0_ok : ∀ k, k < 0 → parseFieldDescriptor (TJx9f9b0 k).2.2.1 = some (tyJx9f9b0 k) := by decide +kernel
def RJ11 : String := "java/lang/Character"
def TJ11 : u_T := fun k => match k with
  | _ => ("", "", "", false)
def tyJ11 : Nat → FieldType := fun k => match k with
  | _ => .int
abbrev wsJ110 : List Cond := u_ws RJ11 TJ11 0
theorem nmJ11 : ∀ a, a < 0 → ∀ b, b < 0 → a ≠ b → (TJ11 a).2.1 ≠ (TJ11 b).2.1 := by decide +kernel
theorem tyJ11_ok : ∀ k, k < 0 → parseFieldDescriptor (TJ11 k).2.2.1 = some (tyJ11 k) := by decide +kernel
abbrev cJ11_isValidCodePoint_9a6ad : ByteArray := prog_14_method_11_code
def yJ11_isValidCodePoint_9a6ad : MethodName := ⟨RJ11, "isValidCodePoint", "(I)Z"⟩
abbrev cJ11_highSurrogate_5068e : ByteArray := prog_14_method_28_code
def yJ11_highSurrogate_5068e : MethodName := ⟨RJ11, "highSurrogate", "(I)C"⟩
abbrev cJ11_lowSurrogate_5068e : ByteArray := prog_14_method_29_code
def yJ11_lowSurrogate_5068e : MethodName := ⟨RJ11, "lowSurrogate", "(I)C"⟩
def RJxb160c : String := "java/lang/Comparable"
def TJxb160c : u_T := fun k => match k with
  | _ => ("", "", "", false)
def tyJxb160c : Nat → FieldType := fun k => match k with
  | _ => .int
abbrev wsJxb160c0 : List Cond := u_ws RJxb160c TJxb160c 0
theorem nmJxb160c : ∀ a, a < 0 → ∀ b, b < 0 → a ≠ b → (TJxb160c a).2.1 ≠ (TJxb160c b).2.1 := by decide +kernel
theorem tyJxb160c_ok : ∀ k, k < 0 → parseFieldDescriptor (TJxb160c k).2.2.1 = some (tyJxb160c k) := by decide +kernel
def RJ6 : String := "java/lang/Integer"
def TJ6 : u_T := fun k => match k with
  | _ => ("", "", "", false)
def tyJ6 : Nat → FieldType := fun k => match k with
  | _ => .int
abbrev wsJ60 : List Cond := u_ws RJ6 TJ6 0
theorem nmJ6 : ∀ a, a < 0 → ∀ b, b < 0 → a ≠ b → (TJ6 a).2.1 ≠ (TJ6 b).2.1 := by decide +kernel
theorem tyJ6_ok : ∀ k, k < 0 → parseFieldDescriptor (TJ6 k).2.2.1 = some (tyJ6 k) := by decide +kernel
abbrev cJ6_bitCount_0f7a4 : ByteArray := prog_20_method_49_code
def yJ6_bitCount_0f7a4 : MethodName := ⟨RJ6, "bitCount", "(I)I"⟩
def RJ9 : String := "java/lang/Math"
def TJ9 : u_T := fun k => match k with
  | _ => ("", "", "", false)
def tyJ9 : Nat → FieldType := fun k => match k with
  | _ => .int
abbrev wsJ90 : List Cond := u_ws RJ9 TJ9 0
theorem nmJ9 : ∀ a, a < 0 → ∀ b, b < 0 → a ≠ b → (TJ9 a).2.1 ≠ (TJ9 b).2.1 := by decide +kernel
theorem tyJ9_ok : ∀ k, k < 0 → parseFieldDescriptor (TJ9 k).2.2.1 = some (tyJ9 k) := by decide +kernel
abbrev cJ9_max_7cf53 : ByteArray := prog_21_method_65_code
def yJ9_max_7cf53 : MethodName := ⟨RJ9, "max", "(II)I"⟩
abbrev cJ9_min_7cf53 : ByteArray := prog_21_method_69_code
def yJ9_min_7cf53 : MethodName := ⟨RJ9, "min", "(II)I"⟩
def RJ0 : String := "java/lang/String"
def TJ0 : u_T := fun k => match k with
  | 0 => ("java/lang/String", "value", "[B", true)
  | _ => ("java/lang/String", "coder", "B", true)
def tyJ0 : Nat → FieldType := fun k => match k with
  | 0 => .array .byte
  | _ => .byte
abbrev wsJ00 : List Cond := u_ws RJ0 TJ0 2
theorem nmJ0 : ∀ a, a < 2 → ∀ b, b < 2 → a ≠ b → (TJ0 a).2.1 ≠ (TJ0 b).2.1 := by decide +kernel
theorem tyJ0_ok : ∀ k, k < 2 → parseFieldDescriptor (TJ0 k).2.2.1 = some (tyJ0 k) := by decide +kernel
abbrev cJ0_length_8abf5 : ByteArray := prog_23_method_54_code
def yJ0_length_8abf5 : MethodName := ⟨RJ0, "length", "()I"⟩
abbrev cJ0_indexOf_0f7a4 : ByteArray := prog_23_method_79_code
def yJ0_indexOf_0f7a4 : MethodName := ⟨RJ0, "indexOf", "(I)I"⟩
abbrev cJ0_indexOf_7cf53 : ByteArray := prog_23_method_80_code
def yJ0_indexOf_7cf53 : MethodName := ⟨RJ0, "indexOf", "(II)I"⟩
abbrev cJ0_coder_7d493 : ByteArray := prog_23_method_152_code
def yJ0_coder_7d493 : MethodName := ⟨RJ0, "coder", "()B"⟩
abbrev cJ0_isLatin1_aae02 : ByteArray := prog_23_method_154_code
def yJ0_isLatin1_aae02 : MethodName := ⟨RJ0, "isLatin1", "()Z"⟩
abbrev cJ0_checkBoundsBeginEnd_23922 : ByteArray := prog_23_method_158_code
def yJ0_checkBoundsBeginEnd_23922 : MethodName := ⟨RJ0, "checkBoundsBeginEnd", "(III)V"⟩
def RJ1 : String := "java/lang/StringLatin1"
def TJ1 : u_T := fun k => match k with
  | _ => ("", "", "", false)
def tyJ1 : Nat → FieldType := fun k => match k with
  | _ => .int
abbrev wsJ10 : List Cond := u_ws RJ1 TJ1 0
theorem nmJ1 : ∀ a, a < 0 → ∀ b, b < 0 → a ≠ b → (TJ1 a).2.1 ≠ (TJ1 b).2.1 := by decide +kernel
theorem tyJ1_ok : ∀ k, k < 0 → parseFieldDescriptor (TJ1 k).2.2.1 = some (tyJ1 k) := by decide +kernel
abbrev cJ1_canEncode_9a6ad : ByteArray := prog_24_method_4_code
def yJ1_canEncode_9a6ad : MethodName := ⟨RJ1, "canEncode", "(I)Z"⟩
abbrev cJ1_indexOf_4cfef : ByteArray := prog_24_method_22_code
def yJ1_indexOf_4cfef : MethodName := ⟨RJ1, "indexOf", "([BIII)I"⟩
abbrev cJ1_indexOfChar_4cfef : ByteArray := prog_24_method_23_code
def yJ1_indexOfChar_4cfef : MethodName := ⟨RJ1, "indexOfChar", "([BIII)I"⟩
def RJ2 : String := "java/lang/StringUTF16"
def TJ2 : u_T := fun k => match k with
  | _ => ("", "", "", false)
def tyJ2 : Nat → FieldType := fun k => match k with
  | _ => .int
abbrev wsJ20 : List Cond := u_ws RJ2 TJ2 0
theorem nmJ2 : ∀ a, a < 0 → ∀ b, b < 0 → a ≠ b → (TJ2 a).2.1 ≠ (TJ2 b).2.1 := by decide +kernel
theorem tyJ2_ok : ∀ k, k < 0 → parseFieldDescriptor (TJ2 k).2.2.1 = some (tyJ2 k) := by decide +kernel
abbrev cJ2_getChar_3b067 : ByteArray := prog_25_method_5_code
def yJ2_getChar_3b067 : MethodName := ⟨RJ2, "getChar", "([BI)C"⟩
abbrev cJ2_length_9d52b : ByteArray := prog_25_method_6_code
def yJ2_length_9d52b : MethodName := ⟨RJ2, "length", "([B)I"⟩
abbrev cJ2_indexOf_4cfef : ByteArray := prog_25_method_40_code
def yJ2_indexOf_4cfef : MethodName := ⟨RJ2, "indexOf", "([BIII)I"⟩
abbrev cJ2_indexOfChar_4cfef : ByteArray := prog_25_method_47_code
def yJ2_indexOfChar_4cfef : MethodName := ⟨RJ2, "indexOfChar", "([BIII)I"⟩
abbrev cJ2_indexOfCharUnsafe_4cfef : ByteArray := prog_25_method_48_code
def yJ2_indexOfCharUnsafe_4cfef : MethodName := ⟨RJ2, "indexOfCharUnsafe", "([BIII)I"⟩
abbrev cJ2_indexOfSupplementary_4cfef : ByteArray := prog_25_method_49_code
def yJ2_indexOfSupplementary_4cfef : MethodName := ⟨RJ2, "indexOfSupplementary", "([BIII)I"⟩
abbrev cJ2_checkBoundsBeginEnd_d044e : ByteArray := prog_25_method_93_code
def yJ2_checkBoundsBeginEnd_d044e : MethodName := ⟨RJ2, "checkBoundsBeginEnd", "(II[B)V"⟩
def RJxfd54e : String := "java/lang/constant/Constable"
def TJxfd54e : u_T := fun k => match k with
  | _ => ("", "", "", false)
def tyJxfd54e : Nat → FieldType := fun k => match k with
  | _ => .int
abbrev wsJxfd54e0 : List Cond := u_ws RJxfd54e TJxfd54e 0
theorem nmJxfd54e : ∀ a, a < 0 → ∀ b, b < 0 → a ≠ b → (TJxfd54e a).2.1 ≠ (TJxfd54e b).2.1 := by decide +kernel
theorem tyJxfd54e_ok : ∀ k, k < 0 → parseFieldDescriptor (TJxfd54e k).2.2.1 = some (tyJxfd54e k) := by decide +kernel
def RJx3cf43 : String := "java/lang/constant/ConstantDesc"
def TJx3cf43 : u_T := fun k => match k with
  | _ => ("", "", "", false)
def tyJx3cf43 : Nat → FieldType := fun k => match k with
  | _ => .int
abbrev wsJx3cf430 : List Cond := u_ws RJx3cf43 TJx3cf43 0
theorem nmJx3cf43 : ∀ a, a < 0 → ∀ b, b < 0 → a ≠ b → (TJx3cf43 a).2.1 ≠ (TJx3cf43 b).2.1 := by decide +kernel
theorem tyJx3cf43_ok : ∀ k, k < 0 → parseFieldDescriptor (TJx3cf43 k).2.2.1 = some (tyJx3cf43 k) := by decide +kernel
def RJ3 : String := "jdk/internal/util/Preconditions"
def TJ3 : u_T := fun k => match k with
  | _ => ("", "", "", false)
def tyJ3 : Nat → FieldType := fun k => match k with
  | _ => .int
abbrev wsJ30 : List Cond := u_ws RJ3 TJ3 0
theorem nmJ3 : ∀ a, a < 0 → ∀ b, b < 0 → a ≠ b → (TJ3 a).2.1 ≠ (TJ3 b).2.1 := by decide +kernel
theorem tyJ3_ok : ∀ k, k < 0 → parseFieldDescriptor (TJ3 k).2.2.1 = some (tyJ3 k) := by decide +kernel
abbrev cJ3_checkFromToIndex_8c36e : ByteArray := prog_31_method_12_code
def yJ3_checkFromToIndex_8c36e : MethodName := ⟨RJ3, "checkFromToIndex", "(IIILjava/util/function/BiFunction;)I"⟩
def RL : String := "GrievanceOmbudLaw"
abbrev cL_at : ByteArray := method_2_code
def yL_at : MethodName := ⟨RL, "at", "([II)I"⟩
abbrev cL_some : ByteArray := method_3_code
def yL_some : MethodName := ⟨RL, "some", "(II)I"⟩
abbrev cL_ask : ByteArray := method_4_code
def yL_ask : MethodName := ⟨RL, "ask", "(LGrievanceOmbud;C[I)I"⟩
abbrev cL_asked : ByteArray := method_5_code
def yL_asked : MethodName := ⟨RL, "asked", "(LGrievanceOmbud;C[I)I"⟩
abbrev cL_share : ByteArray := method_6_code
def yL_share : MethodName := ⟨RL, "share", "(LGrievanceOmbud;I)I"⟩
abbrev cL_hasNone : ByteArray := method_7_code
def yL_hasNone : MethodName := ⟨RL, "hasNone", "(LGrievanceOmbud;)Z"⟩
abbrev cL_law : ByteArray := code
def yL_law : MethodName := ⟨RL, "law", "([I)Z"⟩
abbrev cL_ladder : ByteArray := method_9_code
def yL_ladder : MethodName := ⟨RL, "ladder", "([I)Z"⟩
abbrev cL_silence : ByteArray := method_10_code
def yL_silence : MethodName := ⟨RL, "silence", "()Z"⟩
abbrev cL_full : ByteArray := method_11_code
def yL_full : MethodName := ⟨RL, "full", "()Z"⟩
abbrev vwCl : List vw_C := [(RJ0, TJ0, 2), (RJx00060, TJx00060, 6), (RX0, TX0, 6), (RX1, TX1, 16), (RX2, TX2, 2), (RX3, TX3, 6), (RX4, TX4, 4), (RX5, TX5, 4), (RX6, TX6, 3)]
