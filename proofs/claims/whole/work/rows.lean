section
-- ===== PART A: goes FIRST, ahead of the names: the tables' words, and 'selects' of the private methods out of them =====
/-- a private method of a class that the tables say can be made, by its rows of tables_1 -/
def lw_okq (q : MethodName × Nat) : Prop := (q.1.cls ≠ "java/lang/invoke/MethodHandle" ∧ q.1.cls ≠ "java/lang/invoke/VarHandle") ∧ Cond.instantiable q.1.cls q.2 ∈ tables_1 ∧ Cond.privateMethod q.1 ∈ tables_1 ∧ Cond.instanceMethod q.1 ∈ tables_1
theorem lw_p0 : lw_okq (⟨"GrievanceOmbud$Complaint", "daysBy", "(I)I"⟩, 16) := ⟨⟨by decide +kernel, by decide +kernel⟩, List.mem_of_getElem? (i := 68) (by decide +kernel), List.mem_of_getElem? (i := 259) (by decide +kernel), List.mem_of_getElem? (i := 260) (by decide +kernel)⟩
theorem lw_p1 : lw_okq (⟨"GrievanceOmbud$Events", "tellAgain", "(LGrievanceOmbud$Book;)V"⟩, 2) := ⟨⟨by decide +kernel, by decide +kernel⟩, List.mem_of_getElem? (i := 226) (by decide +kernel), List.mem_of_getElem? (i := 267) (by decide +kernel), List.mem_of_getElem? (i := 268) (by decide +kernel)⟩
theorem lw_p2 : lw_okq (⟨"GrievanceOmbud$Book", "open", "()V"⟩, 6) := ⟨⟨by decide +kernel, by decide +kernel⟩, List.mem_of_getElem? (i := 34) (by decide +kernel), List.mem_of_getElem? (i := 271) (by decide +kernel), List.mem_of_getElem? (i := 272) (by decide +kernel)⟩
theorem lw_p3 : lw_okq (⟨"GrievanceOmbud$Book", "apply", "(IIIII)I"⟩, 6) := ⟨⟨by decide +kernel, by decide +kernel⟩, List.mem_of_getElem? (i := 34) (by decide +kernel), List.mem_of_getElem? (i := 275) (by decide +kernel), List.mem_of_getElem? (i := 276) (by decide +kernel)⟩
theorem lw_p4 : lw_okq (⟨"GrievanceOmbud$Book", "openOffice", "(II)I"⟩, 6) := ⟨⟨by decide +kernel, by decide +kernel⟩, List.mem_of_getElem? (i := 34) (by decide +kernel), List.mem_of_getElem? (i := 279) (by decide +kernel), List.mem_of_getElem? (i := 280) (by decide +kernel)⟩
theorem lw_p5 : lw_okq (⟨"GrievanceOmbud$Office", "begin", "(II)V"⟩, 4) := ⟨⟨by decide +kernel, by decide +kernel⟩, List.mem_of_getElem? (i := 43) (by decide +kernel), List.mem_of_getElem? (i := 283) (by decide +kernel), List.mem_of_getElem? (i := 284) (by decide +kernel)⟩
theorem lw_p6 : lw_okq (⟨"GrievanceOmbud$Book", "weigh", "(II)I"⟩, 6) := ⟨⟨by decide +kernel, by decide +kernel⟩, List.mem_of_getElem? (i := 34) (by decide +kernel), List.mem_of_getElem? (i := 287) (by decide +kernel), List.mem_of_getElem? (i := 288) (by decide +kernel)⟩
theorem lw_p7 : lw_okq (⟨"GrievanceOmbud$Book", "hear", "(IIII)I"⟩, 6) := ⟨⟨by decide +kernel, by decide +kernel⟩, List.mem_of_getElem? (i := 34) (by decide +kernel), List.mem_of_getElem? (i := 291) (by decide +kernel), List.mem_of_getElem? (i := 292) (by decide +kernel)⟩
theorem lw_p8 : lw_okq (⟨"GrievanceOmbud$Complaint", "begin", "(IIIII)V"⟩, 16) := ⟨⟨by decide +kernel, by decide +kernel⟩, List.mem_of_getElem? (i := 68) (by decide +kernel), List.mem_of_getElem? (i := 295) (by decide +kernel), List.mem_of_getElem? (i := 296) (by decide +kernel)⟩
theorem lw_p9 : lw_okq (⟨"GrievanceOmbud$Inquiry", "begin", "(I)V"⟩, 4) := ⟨⟨by decide +kernel, by decide +kernel⟩, List.mem_of_getElem? (i := 74) (by decide +kernel), List.mem_of_getElem? (i := 299) (by decide +kernel), List.mem_of_getElem? (i := 300) (by decide +kernel)⟩
theorem lw_p10 : lw_okq (⟨"GrievanceOmbud$Finding", "begin", "(I)V"⟩, 6) := ⟨⟨by decide +kernel, by decide +kernel⟩, List.mem_of_getElem? (i := 99) (by decide +kernel), List.mem_of_getElem? (i := 303) (by decide +kernel), List.mem_of_getElem? (i := 304) (by decide +kernel)⟩
theorem lw_p11 : lw_okq (⟨"GrievanceOmbud$Book", "applyAtIntake", "(ILGrievanceOmbud$Complaint;I)I"⟩, 6) := ⟨⟨by decide +kernel, by decide +kernel⟩, List.mem_of_getElem? (i := 34) (by decide +kernel), List.mem_of_getElem? (i := 307) (by decide +kernel), List.mem_of_getElem? (i := 308) (by decide +kernel)⟩
theorem lw_p12 : lw_okq (⟨"GrievanceOmbud$Book", "tellOfCourt", "(LGrievanceOmbud$Complaint;Z)I"⟩, 6) := ⟨⟨by decide +kernel, by decide +kernel⟩, List.mem_of_getElem? (i := 34) (by decide +kernel), List.mem_of_getElem? (i := 311) (by decide +kernel), List.mem_of_getElem? (i := 312) (by decide +kernel)⟩
theorem lw_p13 : lw_okq (⟨"GrievanceOmbud$Book", "tellOfReason", "(LGrievanceOmbud$Complaint;)I"⟩, 6) := ⟨⟨by decide +kernel, by decide +kernel⟩, List.mem_of_getElem? (i := 34) (by decide +kernel), List.mem_of_getElem? (i := 315) (by decide +kernel), List.mem_of_getElem? (i := 316) (by decide +kernel)⟩
theorem lw_p14 : lw_okq (⟨"GrievanceOmbud$Book", "officeOf", "(LGrievanceOmbud$Complaint;)LGrievanceOmbud$Office;"⟩, 6) := ⟨⟨by decide +kernel, by decide +kernel⟩, List.mem_of_getElem? (i := 34) (by decide +kernel), List.mem_of_getElem? (i := 319) (by decide +kernel), List.mem_of_getElem? (i := 320) (by decide +kernel)⟩
theorem lw_p15 : lw_okq (⟨"GrievanceOmbud$Book", "intakeOf", "(LGrievanceOmbud$Complaint;)C"⟩, 6) := ⟨⟨by decide +kernel, by decide +kernel⟩, List.mem_of_getElem? (i := 34) (by decide +kernel), List.mem_of_getElem? (i := 323) (by decide +kernel), List.mem_of_getElem? (i := 324) (by decide +kernel)⟩
def lw_privs_1 : List (MethodName × Nat) := [(⟨"GrievanceOmbud$Complaint", "daysBy", "(I)I"⟩, 16), (⟨"GrievanceOmbud$Events", "tellAgain", "(LGrievanceOmbud$Book;)V"⟩, 2), (⟨"GrievanceOmbud$Book", "open", "()V"⟩, 6), (⟨"GrievanceOmbud$Book", "apply", "(IIIII)I"⟩, 6), (⟨"GrievanceOmbud$Book", "openOffice", "(II)I"⟩, 6), (⟨"GrievanceOmbud$Office", "begin", "(II)V"⟩, 4), (⟨"GrievanceOmbud$Book", "weigh", "(II)I"⟩, 6), (⟨"GrievanceOmbud$Book", "hear", "(IIII)I"⟩, 6), (⟨"GrievanceOmbud$Complaint", "begin", "(IIIII)V"⟩, 16), (⟨"GrievanceOmbud$Inquiry", "begin", "(I)V"⟩, 4), (⟨"GrievanceOmbud$Finding", "begin", "(I)V"⟩, 6), (⟨"GrievanceOmbud$Book", "applyAtIntake", "(ILGrievanceOmbud$Complaint;I)I"⟩, 6), (⟨"GrievanceOmbud$Book", "tellOfCourt", "(LGrievanceOmbud$Complaint;Z)I"⟩, 6), (⟨"GrievanceOmbud$Book", "tellOfReason", "(LGrievanceOmbud$Complaint;)I"⟩, 6), (⟨"GrievanceOmbud$Book", "officeOf", "(LGrievanceOmbud$Complaint;)LGrievanceOmbud$Office;"⟩, 6), (⟨"GrievanceOmbud$Book", "intakeOf", "(LGrievanceOmbud$Complaint;)C"⟩, 6)]
theorem lw_r1 : ∀ q ∈ lw_privs_1, lw_okq q := List.forall_mem_cons.mpr ⟨lw_p0, List.forall_mem_cons.mpr ⟨lw_p1, List.forall_mem_cons.mpr ⟨lw_p2, List.forall_mem_cons.mpr ⟨lw_p3, List.forall_mem_cons.mpr ⟨lw_p4, List.forall_mem_cons.mpr ⟨lw_p5, List.forall_mem_cons.mpr ⟨lw_p6, List.forall_mem_cons.mpr ⟨lw_p7, List.forall_mem_cons.mpr ⟨lw_p8, List.forall_mem_cons.mpr ⟨lw_p9, List.forall_mem_cons.mpr ⟨lw_p10, List.forall_mem_cons.mpr ⟨lw_p11, List.forall_mem_cons.mpr ⟨lw_p12, List.forall_mem_cons.mpr ⟨lw_p13, List.forall_mem_cons.mpr ⟨lw_p14, List.forall_mem_cons.mpr ⟨lw_p15, fun _ h => absurd h List.not_mem_nil⟩⟩⟩⟩⟩⟩⟩⟩⟩⟩⟩⟩⟩⟩⟩⟩
theorem lw_p16 : lw_okq (⟨"GrievanceOmbud$Complaint", "moveTo", "(CI)V"⟩, 16) := ⟨⟨by decide +kernel, by decide +kernel⟩, List.mem_of_getElem? (i := 68) (by decide +kernel), List.mem_of_getElem? (i := 327) (by decide +kernel), List.mem_of_getElem? (i := 328) (by decide +kernel)⟩
theorem lw_p17 : lw_okq (⟨"GrievanceOmbud$Book", "applyToCase", "(ILGrievanceOmbud$Complaint;I)I"⟩, 6) := ⟨⟨by decide +kernel, by decide +kernel⟩, List.mem_of_getElem? (i := 34) (by decide +kernel), List.mem_of_getElem? (i := 418) (by decide +kernel), List.mem_of_getElem? (i := 419) (by decide +kernel)⟩
theorem lw_p18 : lw_okq (⟨"GrievanceOmbud$Book", "putToOffice", "(LGrievanceOmbud$Complaint;)I"⟩, 6) := ⟨⟨by decide +kernel, by decide +kernel⟩, List.mem_of_getElem? (i := 34) (by decide +kernel), List.mem_of_getElem? (i := 422) (by decide +kernel), List.mem_of_getElem? (i := 423) (by decide +kernel)⟩
theorem lw_p19 : lw_okq (⟨"GrievanceOmbud$Book", "moveAll", "(LGrievanceOmbud$Complaint;C)I"⟩, 6) := ⟨⟨by decide +kernel, by decide +kernel⟩, List.mem_of_getElem? (i := 34) (by decide +kernel), List.mem_of_getElem? (i := 427) (by decide +kernel), List.mem_of_getElem? (i := 428) (by decide +kernel)⟩
theorem lw_p20 : lw_okq (⟨"GrievanceOmbud$Book", "giveTime", "(LGrievanceOmbud$Complaint;I)I"⟩, 6) := ⟨⟨by decide +kernel, by decide +kernel⟩, List.mem_of_getElem? (i := 34) (by decide +kernel), List.mem_of_getElem? (i := 431) (by decide +kernel), List.mem_of_getElem? (i := 432) (by decide +kernel)⟩
theorem lw_p21 : lw_okq (⟨"GrievanceOmbud$Book", "urge", "(LGrievanceOmbud$Complaint;)I"⟩, 6) := ⟨⟨by decide +kernel, by decide +kernel⟩, List.mem_of_getElem? (i := 34) (by decide +kernel), List.mem_of_getElem? (i := 435) (by decide +kernel), List.mem_of_getElem? (i := 436) (by decide +kernel)⟩
theorem lw_p22 : lw_okq (⟨"GrievanceOmbud$Book", "putBehind", "(LGrievanceOmbud$Complaint;I)I"⟩, 6) := ⟨⟨by decide +kernel, by decide +kernel⟩, List.mem_of_getElem? (i := 34) (by decide +kernel), List.mem_of_getElem? (i := 440) (by decide +kernel), List.mem_of_getElem? (i := 441) (by decide +kernel)⟩
theorem lw_p23 : lw_okq (⟨"GrievanceOmbud$Book", "followersOf", "(LGrievanceOmbud$Complaint;)I"⟩, 6) := ⟨⟨by decide +kernel, by decide +kernel⟩, List.mem_of_getElem? (i := 34) (by decide +kernel), List.mem_of_getElem? (i := 444) (by decide +kernel), List.mem_of_getElem? (i := 445) (by decide +kernel)⟩
theorem lw_p24 : lw_okq (⟨"GrievanceOmbud$Book", "setFree", "(LGrievanceOmbud$Complaint;)I"⟩, 6) := ⟨⟨by decide +kernel, by decide +kernel⟩, List.mem_of_getElem? (i := 34) (by decide +kernel), List.mem_of_getElem? (i := 448) (by decide +kernel), List.mem_of_getElem? (i := 449) (by decide +kernel)⟩
theorem lw_p25 : lw_okq (⟨"GrievanceOmbud$Book", "conclude", "(LGrievanceOmbud$Complaint;I)I"⟩, 6) := ⟨⟨by decide +kernel, by decide +kernel⟩, List.mem_of_getElem? (i := 34) (by decide +kernel), List.mem_of_getElem? (i := 452) (by decide +kernel), List.mem_of_getElem? (i := 453) (by decide +kernel)⟩
theorem lw_p26 : lw_okq (⟨"GrievanceOmbud$Book", "weightOf", "(I)I"⟩, 6) := ⟨⟨by decide +kernel, by decide +kernel⟩, List.mem_of_getElem? (i := 34) (by decide +kernel), List.mem_of_getElem? (i := 457) (by decide +kernel), List.mem_of_getElem? (i := 458) (by decide +kernel)⟩
theorem lw_p27 : lw_okq (⟨"GrievanceOmbud$Finding", "recommend", "(II)V"⟩, 6) := ⟨⟨by decide +kernel, by decide +kernel⟩, List.mem_of_getElem? (i := 99) (by decide +kernel), List.mem_of_getElem? (i := 465) (by decide +kernel), List.mem_of_getElem? (i := 466) (by decide +kernel)⟩
theorem lw_p28 : lw_okq (⟨"GrievanceOmbud$Book", "insist", "(LGrievanceOmbud$Complaint;)I"⟩, 6) := ⟨⟨by decide +kernel, by decide +kernel⟩, List.mem_of_getElem? (i := 34) (by decide +kernel), List.mem_of_getElem? (i := 469) (by decide +kernel), List.mem_of_getElem? (i := 470) (by decide +kernel)⟩
theorem lw_p29 : lw_okq (⟨"GrievanceOmbud$Book", "takeBack", "(LGrievanceOmbud$Complaint;)I"⟩, 6) := ⟨⟨by decide +kernel, by decide +kernel⟩, List.mem_of_getElem? (i := 34) (by decide +kernel), List.mem_of_getElem? (i := 473) (by decide +kernel), List.mem_of_getElem? (i := 474) (by decide +kernel)⟩
theorem lw_p30 : lw_okq (⟨"GrievanceOmbud$Book", "isOrderly", "()Z"⟩, 6) := ⟨⟨by decide +kernel, by decide +kernel⟩, List.mem_of_getElem? (i := 34) (by decide +kernel), List.mem_of_getElem? (i := 477) (by decide +kernel), List.mem_of_getElem? (i := 478) (by decide +kernel)⟩
theorem lw_p31 : lw_okq (⟨"GrievanceOmbud$Book", "leadOf", "(LGrievanceOmbud$Complaint;)LGrievanceOmbud$Complaint;"⟩, 6) := ⟨⟨by decide +kernel, by decide +kernel⟩, List.mem_of_getElem? (i := 34) (by decide +kernel), List.mem_of_getElem? (i := 481) (by decide +kernel), List.mem_of_getElem? (i := 482) (by decide +kernel)⟩
def lw_privs_2 : List (MethodName × Nat) := [(⟨"GrievanceOmbud$Complaint", "moveTo", "(CI)V"⟩, 16), (⟨"GrievanceOmbud$Book", "applyToCase", "(ILGrievanceOmbud$Complaint;I)I"⟩, 6), (⟨"GrievanceOmbud$Book", "putToOffice", "(LGrievanceOmbud$Complaint;)I"⟩, 6), (⟨"GrievanceOmbud$Book", "moveAll", "(LGrievanceOmbud$Complaint;C)I"⟩, 6), (⟨"GrievanceOmbud$Book", "giveTime", "(LGrievanceOmbud$Complaint;I)I"⟩, 6), (⟨"GrievanceOmbud$Book", "urge", "(LGrievanceOmbud$Complaint;)I"⟩, 6), (⟨"GrievanceOmbud$Book", "putBehind", "(LGrievanceOmbud$Complaint;I)I"⟩, 6), (⟨"GrievanceOmbud$Book", "followersOf", "(LGrievanceOmbud$Complaint;)I"⟩, 6), (⟨"GrievanceOmbud$Book", "setFree", "(LGrievanceOmbud$Complaint;)I"⟩, 6), (⟨"GrievanceOmbud$Book", "conclude", "(LGrievanceOmbud$Complaint;I)I"⟩, 6), (⟨"GrievanceOmbud$Book", "weightOf", "(I)I"⟩, 6), (⟨"GrievanceOmbud$Finding", "recommend", "(II)V"⟩, 6), (⟨"GrievanceOmbud$Book", "insist", "(LGrievanceOmbud$Complaint;)I"⟩, 6), (⟨"GrievanceOmbud$Book", "takeBack", "(LGrievanceOmbud$Complaint;)I"⟩, 6), (⟨"GrievanceOmbud$Book", "isOrderly", "()Z"⟩, 6), (⟨"GrievanceOmbud$Book", "leadOf", "(LGrievanceOmbud$Complaint;)LGrievanceOmbud$Complaint;"⟩, 6)]
theorem lw_r2 : ∀ q ∈ lw_privs_2, lw_okq q := List.forall_mem_cons.mpr ⟨lw_p16, List.forall_mem_cons.mpr ⟨lw_p17, List.forall_mem_cons.mpr ⟨lw_p18, List.forall_mem_cons.mpr ⟨lw_p19, List.forall_mem_cons.mpr ⟨lw_p20, List.forall_mem_cons.mpr ⟨lw_p21, List.forall_mem_cons.mpr ⟨lw_p22, List.forall_mem_cons.mpr ⟨lw_p23, List.forall_mem_cons.mpr ⟨lw_p24, List.forall_mem_cons.mpr ⟨lw_p25, List.forall_mem_cons.mpr ⟨lw_p26, List.forall_mem_cons.mpr ⟨lw_p27, List.forall_mem_cons.mpr ⟨lw_p28, List.forall_mem_cons.mpr ⟨lw_p29, List.forall_mem_cons.mpr ⟨lw_p30, List.forall_mem_cons.mpr ⟨lw_p31, fun _ h => absurd h List.not_mem_nil⟩⟩⟩⟩⟩⟩⟩⟩⟩⟩⟩⟩⟩⟩⟩⟩
theorem lw_p32 : lw_okq (⟨"GrievanceOmbud$Book", "matches", "(LGrievanceOmbud$Book;)Z"⟩, 6) := ⟨⟨by decide +kernel, by decide +kernel⟩, List.mem_of_getElem? (i := 34) (by decide +kernel), List.mem_of_getElem? (i := 490) (by decide +kernel), List.mem_of_getElem? (i := 491) (by decide +kernel)⟩
theorem lw_p33 : lw_okq (⟨"GrievanceOmbud$Book", "matchesInOffices", "(LGrievanceOmbud$Book;)Z"⟩, 6) := ⟨⟨by decide +kernel, by decide +kernel⟩, List.mem_of_getElem? (i := 34) (by decide +kernel), List.mem_of_getElem? (i := 494) (by decide +kernel), List.mem_of_getElem? (i := 495) (by decide +kernel)⟩
theorem lw_p34 : lw_okq (⟨"GrievanceOmbud$Office", "matches", "(LGrievanceOmbud$Office;)Z"⟩, 4) := ⟨⟨by decide +kernel, by decide +kernel⟩, List.mem_of_getElem? (i := 43) (by decide +kernel), List.mem_of_getElem? (i := 498) (by decide +kernel), List.mem_of_getElem? (i := 499) (by decide +kernel)⟩
theorem lw_p35 : lw_okq (⟨"GrievanceOmbud$Book", "matchesInComplaints", "(LGrievanceOmbud$Book;)Z"⟩, 6) := ⟨⟨by decide +kernel, by decide +kernel⟩, List.mem_of_getElem? (i := 34) (by decide +kernel), List.mem_of_getElem? (i := 502) (by decide +kernel), List.mem_of_getElem? (i := 503) (by decide +kernel)⟩
theorem lw_p36 : lw_okq (⟨"GrievanceOmbud$Complaint", "matches", "(LGrievanceOmbud$Complaint;)Z"⟩, 16) := ⟨⟨by decide +kernel, by decide +kernel⟩, List.mem_of_getElem? (i := 68) (by decide +kernel), List.mem_of_getElem? (i := 506) (by decide +kernel), List.mem_of_getElem? (i := 507) (by decide +kernel)⟩
theorem lw_p37 : lw_okq (⟨"GrievanceOmbud$Complaint", "matchesAsTold", "(LGrievanceOmbud$Complaint;)Z"⟩, 16) := ⟨⟨by decide +kernel, by decide +kernel⟩, List.mem_of_getElem? (i := 68) (by decide +kernel), List.mem_of_getElem? (i := 510) (by decide +kernel), List.mem_of_getElem? (i := 511) (by decide +kernel)⟩
theorem lw_p38 : lw_okq (⟨"GrievanceOmbud$Inquiry", "matches", "(LGrievanceOmbud$Inquiry;)Z"⟩, 4) := ⟨⟨by decide +kernel, by decide +kernel⟩, List.mem_of_getElem? (i := 74) (by decide +kernel), List.mem_of_getElem? (i := 514) (by decide +kernel), List.mem_of_getElem? (i := 515) (by decide +kernel)⟩
theorem lw_p39 : lw_okq (⟨"GrievanceOmbud$Finding", "matches", "(LGrievanceOmbud$Finding;)Z"⟩, 6) := ⟨⟨by decide +kernel, by decide +kernel⟩, List.mem_of_getElem? (i := 99) (by decide +kernel), List.mem_of_getElem? (i := 518) (by decide +kernel), List.mem_of_getElem? (i := 519) (by decide +kernel)⟩
theorem lw_p40 : lw_okq (⟨"GrievanceOmbud$Book", "matchesInWeights", "(LGrievanceOmbud$Book;)Z"⟩, 6) := ⟨⟨by decide +kernel, by decide +kernel⟩, List.mem_of_getElem? (i := 34) (by decide +kernel), List.mem_of_getElem? (i := 522) (by decide +kernel), List.mem_of_getElem? (i := 523) (by decide +kernel)⟩
theorem lw_p41 : lw_okq (⟨"GrievanceOmbud", "requireRange", "(III)V"⟩, 3) := ⟨⟨by decide +kernel, by decide +kernel⟩, List.mem_of_getElem? (i := 26) (by decide +kernel), List.mem_of_getElem? (i := 536) (by decide +kernel), List.mem_of_getElem? (i := 537) (by decide +kernel)⟩
theorem lw_p42 : lw_okq (⟨"java/lang/Throwable", "fillInStackTrace", "(I)Ljava/lang/Throwable;"⟩, 6) := ⟨⟨by decide +kernel, by decide +kernel⟩, List.mem_of_getElem? (i := 582) (by decide +kernel), List.mem_of_getElem? (i := 580) (by decide +kernel), List.mem_of_getElem? (i := 581) (by decide +kernel)⟩
theorem lw_p43 : lw_okq (⟨"GrievanceOmbud", "happen", "(III)I"⟩, 3) := ⟨⟨by decide +kernel, by decide +kernel⟩, List.mem_of_getElem? (i := 26) (by decide +kernel), List.mem_of_getElem? (i := 627) (by decide +kernel), List.mem_of_getElem? (i := 628) (by decide +kernel)⟩
theorem lw_p44 : lw_okq (⟨"GrievanceOmbud$Events", "keep", "(IIIII)V"⟩, 2) := ⟨⟨by decide +kernel, by decide +kernel⟩, List.mem_of_getElem? (i := 226) (by decide +kernel), List.mem_of_getElem? (i := 631) (by decide +kernel), List.mem_of_getElem? (i := 632) (by decide +kernel)⟩
theorem lw_p45 : lw_okq (⟨"GrievanceOmbud", "requireOffice", "(I)V"⟩, 3) := ⟨⟨by decide +kernel, by decide +kernel⟩, List.mem_of_getElem? (i := 26) (by decide +kernel), List.mem_of_getElem? (i := 675) (by decide +kernel), List.mem_of_getElem? (i := 676) (by decide +kernel)⟩
theorem lw_p46 : lw_okq (⟨"GrievanceOmbud", "known", "(I)LGrievanceOmbud$Complaint;"⟩, 3) := ⟨⟨by decide +kernel, by decide +kernel⟩, List.mem_of_getElem? (i := 26) (by decide +kernel), List.mem_of_getElem? (i := 701) (by decide +kernel), List.mem_of_getElem? (i := 702) (by decide +kernel)⟩
theorem lw_p47 : lw_okq (⟨"GrievanceOmbud", "requireAtIntake", "(LGrievanceOmbud$Complaint;)V"⟩, 3) := ⟨⟨by decide +kernel, by decide +kernel⟩, List.mem_of_getElem? (i := 26) (by decide +kernel), List.mem_of_getElem? (i := 706) (by decide +kernel), List.mem_of_getElem? (i := 707) (by decide +kernel)⟩
def lw_privs_3 : List (MethodName × Nat) := [(⟨"GrievanceOmbud$Book", "matches", "(LGrievanceOmbud$Book;)Z"⟩, 6), (⟨"GrievanceOmbud$Book", "matchesInOffices", "(LGrievanceOmbud$Book;)Z"⟩, 6), (⟨"GrievanceOmbud$Office", "matches", "(LGrievanceOmbud$Office;)Z"⟩, 4), (⟨"GrievanceOmbud$Book", "matchesInComplaints", "(LGrievanceOmbud$Book;)Z"⟩, 6), (⟨"GrievanceOmbud$Complaint", "matches", "(LGrievanceOmbud$Complaint;)Z"⟩, 16), (⟨"GrievanceOmbud$Complaint", "matchesAsTold", "(LGrievanceOmbud$Complaint;)Z"⟩, 16), (⟨"GrievanceOmbud$Inquiry", "matches", "(LGrievanceOmbud$Inquiry;)Z"⟩, 4), (⟨"GrievanceOmbud$Finding", "matches", "(LGrievanceOmbud$Finding;)Z"⟩, 6), (⟨"GrievanceOmbud$Book", "matchesInWeights", "(LGrievanceOmbud$Book;)Z"⟩, 6), (⟨"GrievanceOmbud", "requireRange", "(III)V"⟩, 3), (⟨"java/lang/Throwable", "fillInStackTrace", "(I)Ljava/lang/Throwable;"⟩, 6), (⟨"GrievanceOmbud", "happen", "(III)I"⟩, 3), (⟨"GrievanceOmbud$Events", "keep", "(IIIII)V"⟩, 2), (⟨"GrievanceOmbud", "requireOffice", "(I)V"⟩, 3), (⟨"GrievanceOmbud", "known", "(I)LGrievanceOmbud$Complaint;"⟩, 3), (⟨"GrievanceOmbud", "requireAtIntake", "(LGrievanceOmbud$Complaint;)V"⟩, 3)]
theorem lw_r3 : ∀ q ∈ lw_privs_3, lw_okq q := List.forall_mem_cons.mpr ⟨lw_p32, List.forall_mem_cons.mpr ⟨lw_p33, List.forall_mem_cons.mpr ⟨lw_p34, List.forall_mem_cons.mpr ⟨lw_p35, List.forall_mem_cons.mpr ⟨lw_p36, List.forall_mem_cons.mpr ⟨lw_p37, List.forall_mem_cons.mpr ⟨lw_p38, List.forall_mem_cons.mpr ⟨lw_p39, List.forall_mem_cons.mpr ⟨lw_p40, List.forall_mem_cons.mpr ⟨lw_p41, List.forall_mem_cons.mpr ⟨lw_p42, List.forall_mem_cons.mpr ⟨lw_p43, List.forall_mem_cons.mpr ⟨lw_p44, List.forall_mem_cons.mpr ⟨lw_p45, List.forall_mem_cons.mpr ⟨lw_p46, List.forall_mem_cons.mpr ⟨lw_p47, fun _ h => absurd h List.not_mem_nil⟩⟩⟩⟩⟩⟩⟩⟩⟩⟩⟩⟩⟩⟩⟩⟩
theorem lw_p48 : lw_okq (⟨"GrievanceOmbud$Book", "countStanding", "(C)I"⟩, 6) := ⟨⟨by decide +kernel, by decide +kernel⟩, List.mem_of_getElem? (i := 34) (by decide +kernel), List.mem_of_getElem? (i := 764) (by decide +kernel), List.mem_of_getElem? (i := 765) (by decide +kernel)⟩
theorem lw_p49 : lw_okq (⟨"GrievanceOmbud$Book", "countTold", "(I)I"⟩, 6) := ⟨⟨by decide +kernel, by decide +kernel⟩, List.mem_of_getElem? (i := 34) (by decide +kernel), List.mem_of_getElem? (i := 775) (by decide +kernel), List.mem_of_getElem? (i := 776) (by decide +kernel)⟩
theorem lw_p50 : lw_okq (⟨"GrievanceOmbud", "requireOwn", "(LGrievanceOmbud$Complaint;C)V"⟩, 3) := ⟨⟨by decide +kernel, by decide +kernel⟩, List.mem_of_getElem? (i := 26) (by decide +kernel), List.mem_of_getElem? (i := 786) (by decide +kernel), List.mem_of_getElem? (i := 787) (by decide +kernel)⟩
theorem lw_p51 : lw_okq (⟨"GrievanceOmbud$Complaint", "isJoined", "()Z"⟩, 16) := ⟨⟨by decide +kernel, by decide +kernel⟩, List.mem_of_getElem? (i := 68) (by decide +kernel), List.mem_of_getElem? (i := 790) (by decide +kernel), List.mem_of_getElem? (i := 791) (by decide +kernel)⟩
theorem lw_p52 : lw_okq (⟨"GrievanceOmbud$Book", "lacksAnswer", "(LGrievanceOmbud$Complaint;)Z"⟩, 6) := ⟨⟨by decide +kernel, by decide +kernel⟩, List.mem_of_getElem? (i := 34) (by decide +kernel), List.mem_of_getElem? (i := 802) (by decide +kernel), List.mem_of_getElem? (i := 803) (by decide +kernel)⟩
theorem lw_p53 : lw_okq (⟨"GrievanceOmbud$Book", "earliestDue", "()I"⟩, 6) := ⟨⟨by decide +kernel, by decide +kernel⟩, List.mem_of_getElem? (i := 34) (by decide +kernel), List.mem_of_getElem? (i := 846) (by decide +kernel), List.mem_of_getElem? (i := 847) (by decide +kernel)⟩
theorem lw_p54 : lw_okq (⟨"GrievanceOmbud$Book", "dueOf", "(LGrievanceOmbud$Complaint;)I"⟩, 6) := ⟨⟨by decide +kernel, by decide +kernel⟩, List.mem_of_getElem? (i := 34) (by decide +kernel), List.mem_of_getElem? (i := 850) (by decide +kernel), List.mem_of_getElem? (i := 851) (by decide +kernel)⟩
theorem lw_p55 : lw_okq (⟨"GrievanceOmbud$Book", "canFollow", "(LGrievanceOmbud$Complaint;LGrievanceOmbud$Complaint;)Z"⟩, 6) := ⟨⟨by decide +kernel, by decide +kernel⟩, List.mem_of_getElem? (i := 34) (by decide +kernel), List.mem_of_getElem? (i := 878) (by decide +kernel), List.mem_of_getElem? (i := 879) (by decide +kernel)⟩
theorem lw_p56 : lw_okq (⟨"GrievanceOmbud$Finding", "isTold", "()Z"⟩, 6) := ⟨⟨by decide +kernel, by decide +kernel⟩, List.mem_of_getElem? (i := 99) (by decide +kernel), List.mem_of_getElem? (i := 891) (by decide +kernel), List.mem_of_getElem? (i := 892) (by decide +kernel)⟩
theorem lw_p57 : lw_okq (⟨"GrievanceOmbud$Book", "countClosed", "()I"⟩, 6) := ⟨⟨by decide +kernel, by decide +kernel⟩, List.mem_of_getElem? (i := 34) (by decide +kernel), List.mem_of_getElem? (i := 1020) (by decide +kernel), List.mem_of_getElem? (i := 1021) (by decide +kernel)⟩
theorem lw_p58 : lw_okq (⟨"GrievanceOmbud$Book", "sumOfClosedDays", "()I"⟩, 6) := ⟨⟨by decide +kernel, by decide +kernel⟩, List.mem_of_getElem? (i := 34) (by decide +kernel), List.mem_of_getElem? (i := 1025) (by decide +kernel), List.mem_of_getElem? (i := 1026) (by decide +kernel)⟩
theorem lw_p59 : lw_okq (⟨"GrievanceOmbudModel", "standing", "(I)C"⟩, 29) := ⟨⟨by decide +kernel, by decide +kernel⟩, List.mem_of_getElem? (i := 1030) (by decide +kernel), List.mem_of_getElem? (i := 1141) (by decide +kernel), List.mem_of_getElem? (i := 1142) (by decide +kernel)⟩
theorem lw_p60 : lw_okq (⟨"GrievanceOmbudModel", "leading", "(I)I"⟩, 29) := ⟨⟨by decide +kernel, by decide +kernel⟩, List.mem_of_getElem? (i := 1030) (by decide +kernel), List.mem_of_getElem? (i := 1145) (by decide +kernel), List.mem_of_getElem? (i := 1146) (by decide +kernel)⟩
theorem lw_p61 : lw_okq (⟨"GrievanceOmbudModel", "isJoined", "(I)Z"⟩, 29) := ⟨⟨by decide +kernel, by decide +kernel⟩, List.mem_of_getElem? (i := 1030) (by decide +kernel), List.mem_of_getElem? (i := 1149) (by decide +kernel), List.mem_of_getElem? (i := 1150) (by decide +kernel)⟩
theorem lw_p62 : lw_okq (⟨"GrievanceOmbudModel", "isOffice", "(I)Z"⟩, 29) := ⟨⟨by decide +kernel, by decide +kernel⟩, List.mem_of_getElem? (i := 1030) (by decide +kernel), List.mem_of_getElem? (i := 1161) (by decide +kernel), List.mem_of_getElem? (i := 1162) (by decide +kernel)⟩
theorem lw_p63 : lw_okq (⟨"GrievanceOmbudModel", "isPast", "(I)Z"⟩, 29) := ⟨⟨by decide +kernel, by decide +kernel⟩, List.mem_of_getElem? (i := 1030) (by decide +kernel), List.mem_of_getElem? (i := 1169) (by decide +kernel), List.mem_of_getElem? (i := 1170) (by decide +kernel)⟩
def lw_privs_4 : List (MethodName × Nat) := [(⟨"GrievanceOmbud$Book", "countStanding", "(C)I"⟩, 6), (⟨"GrievanceOmbud$Book", "countTold", "(I)I"⟩, 6), (⟨"GrievanceOmbud", "requireOwn", "(LGrievanceOmbud$Complaint;C)V"⟩, 3), (⟨"GrievanceOmbud$Complaint", "isJoined", "()Z"⟩, 16), (⟨"GrievanceOmbud$Book", "lacksAnswer", "(LGrievanceOmbud$Complaint;)Z"⟩, 6), (⟨"GrievanceOmbud$Book", "earliestDue", "()I"⟩, 6), (⟨"GrievanceOmbud$Book", "dueOf", "(LGrievanceOmbud$Complaint;)I"⟩, 6), (⟨"GrievanceOmbud$Book", "canFollow", "(LGrievanceOmbud$Complaint;LGrievanceOmbud$Complaint;)Z"⟩, 6), (⟨"GrievanceOmbud$Finding", "isTold", "()Z"⟩, 6), (⟨"GrievanceOmbud$Book", "countClosed", "()I"⟩, 6), (⟨"GrievanceOmbud$Book", "sumOfClosedDays", "()I"⟩, 6), (⟨"GrievanceOmbudModel", "standing", "(I)C"⟩, 29), (⟨"GrievanceOmbudModel", "leading", "(I)I"⟩, 29), (⟨"GrievanceOmbudModel", "isJoined", "(I)Z"⟩, 29), (⟨"GrievanceOmbudModel", "isOffice", "(I)Z"⟩, 29), (⟨"GrievanceOmbudModel", "isPast", "(I)Z"⟩, 29)]
theorem lw_r4 : ∀ q ∈ lw_privs_4, lw_okq q := List.forall_mem_cons.mpr ⟨lw_p48, List.forall_mem_cons.mpr ⟨lw_p49, List.forall_mem_cons.mpr ⟨lw_p50, List.forall_mem_cons.mpr ⟨lw_p51, List.forall_mem_cons.mpr ⟨lw_p52, List.forall_mem_cons.mpr ⟨lw_p53, List.forall_mem_cons.mpr ⟨lw_p54, List.forall_mem_cons.mpr ⟨lw_p55, List.forall_mem_cons.mpr ⟨lw_p56, List.forall_mem_cons.mpr ⟨lw_p57, List.forall_mem_cons.mpr ⟨lw_p58, List.forall_mem_cons.mpr ⟨lw_p59, List.forall_mem_cons.mpr ⟨lw_p60, List.forall_mem_cons.mpr ⟨lw_p61, List.forall_mem_cons.mpr ⟨lw_p62, List.forall_mem_cons.mpr ⟨lw_p63, fun _ h => absurd h List.not_mem_nil⟩⟩⟩⟩⟩⟩⟩⟩⟩⟩⟩⟩⟩⟩⟩⟩
theorem lw_p64 : lw_okq (⟨"GrievanceOmbudModel", "noComplaint", "(I)Z"⟩, 29) := ⟨⟨by decide +kernel, by decide +kernel⟩, List.mem_of_getElem? (i := 1030) (by decide +kernel), List.mem_of_getElem? (i := 1173) (by decide +kernel), List.mem_of_getElem? (i := 1174) (by decide +kernel)⟩
theorem lw_p65 : lw_okq (⟨"GrievanceOmbudModel", "isComplaint", "(I)Z"⟩, 29) := ⟨⟨by decide +kernel, by decide +kernel⟩, List.mem_of_getElem? (i := 1030) (by decide +kernel), List.mem_of_getElem? (i := 1177) (by decide +kernel), List.mem_of_getElem? (i := 1178) (by decide +kernel)⟩
theorem lw_p66 : lw_okq (⟨"GrievanceOmbudModel", "isNot", "(IC)Z"⟩, 29) := ⟨⟨by decide +kernel, by decide +kernel⟩, List.mem_of_getElem? (i := 1030) (by decide +kernel), List.mem_of_getElem? (i := 1215) (by decide +kernel), List.mem_of_getElem? (i := 1216) (by decide +kernel)⟩
theorem lw_p67 : lw_okq (⟨"GrievanceOmbudModel", "isOver", "(I)Z"⟩, 29) := ⟨⟨by decide +kernel, by decide +kernel⟩, List.mem_of_getElem? (i := 1030) (by decide +kernel), List.mem_of_getElem? (i := 1223) (by decide +kernel), List.mem_of_getElem? (i := 1224) (by decide +kernel)⟩
theorem lw_p68 : lw_okq (⟨"GrievanceOmbudModel", "joinedTo", "(I)I"⟩, 29) := ⟨⟨by decide +kernel, by decide +kernel⟩, List.mem_of_getElem? (i := 1030) (by decide +kernel), List.mem_of_getElem? (i := 1239) (by decide +kernel), List.mem_of_getElem? (i := 1240) (by decide +kernel)⟩
theorem lw_p69 : lw_okq (⟨"GrievanceOmbudModel", "closes", "(IC)V"⟩, 29) := ⟨⟨by decide +kernel, by decide +kernel⟩, List.mem_of_getElem? (i := 1030) (by decide +kernel), List.mem_of_getElem? (i := 1275) (by decide +kernel), List.mem_of_getElem? (i := 1276) (by decide +kernel)⟩
theorem lw_p70 : lw_okq (⟨"GrievanceOmbudModel", "daysOf", "(I)I"⟩, 29) := ⟨⟨by decide +kernel, by decide +kernel⟩, List.mem_of_getElem? (i := 1030) (by decide +kernel), List.mem_of_getElem? (i := 1311) (by decide +kernel), List.mem_of_getElem? (i := 1312) (by decide +kernel)⟩
def lw_privs_5 : List (MethodName × Nat) := [(⟨"GrievanceOmbudModel", "noComplaint", "(I)Z"⟩, 29), (⟨"GrievanceOmbudModel", "isComplaint", "(I)Z"⟩, 29), (⟨"GrievanceOmbudModel", "isNot", "(IC)Z"⟩, 29), (⟨"GrievanceOmbudModel", "isOver", "(I)Z"⟩, 29), (⟨"GrievanceOmbudModel", "joinedTo", "(I)I"⟩, 29), (⟨"GrievanceOmbudModel", "closes", "(IC)V"⟩, 29), (⟨"GrievanceOmbudModel", "daysOf", "(I)I"⟩, 29)]
theorem lw_r5 : ∀ q ∈ lw_privs_5, lw_okq q := List.forall_mem_cons.mpr ⟨lw_p64, List.forall_mem_cons.mpr ⟨lw_p65, List.forall_mem_cons.mpr ⟨lw_p66, List.forall_mem_cons.mpr ⟨lw_p67, List.forall_mem_cons.mpr ⟨lw_p68, List.forall_mem_cons.mpr ⟨lw_p69, List.forall_mem_cons.mpr ⟨lw_p70, fun _ h => absurd h List.not_mem_nil⟩⟩⟩⟩⟩⟩⟩
def lw_privs : List (MethodName × Nat) := lw_privs_1 ++ (lw_privs_2 ++ (lw_privs_3 ++ (lw_privs_4 ++ (lw_privs_5))))
def lw_tbl : List Cond := k2_sels lw_privs ++ tables_1
theorem lw_privs_ok : ∀ q ∈ lw_privs, lw_okq q := by
  show ∀ q ∈ lw_privs_1 ++ (lw_privs_2 ++ (lw_privs_3 ++ (lw_privs_4 ++ (lw_privs_5)))), lw_okq q
  exact List.forall_mem_append.mpr ⟨lw_r1, List.forall_mem_append.mpr ⟨lw_r2, List.forall_mem_append.mpr ⟨lw_r3, List.forall_mem_append.mpr ⟨lw_r4, lw_r5⟩⟩⟩⟩
/-- the streams that the claim lets the run draw from -/
abbrev lw_cs : List Choice := [Jvm.Choice.named "NaN.bits"]
theorem lw_bits : nanBits ∈ lw_cs := by first | decide | exact List.mem_cons_self | simp [lw_cs, nanBits]
end
section
/-! ===== BEGIN words of one list among another's, by their places ===== -/
theorem goodIn_r {big : List Cond} (ws : List Cond) (ps : List Nat) (hp : ws = ps.filterMap (fun i => big[i]?)) (h : ws.all goodWord = true) : GoodIn big ws := by
  intro w hw
  have h1 := List.all_eq_true.mp h w hw
  rw [hp] at hw
  obtain ⟨i, -, hi⟩ := List.mem_filterMap.mp hw
  have hm : w ∈ big := by first | exact List.mem_of_getElem? hi | exact List.getElem?_mem hi
  exact ⟨hm, good_of_word h1⟩
theorem goodIn_app {big a b : List Cond} (ha : GoodIn big a) (hb : GoodIn big b) : GoodIn big (a ++ b) := fun w h => (List.mem_append.mp h).elim (ha w) (hb w)
theorem goodIn_ca {big a b : List Cond} {c : Cond} (ha : GoodIn big (c :: a)) (hb : GoodIn big b) : GoodIn big (c :: (a ++ b)) := fun w h => (List.mem_cons.mp h).elim (fun e => ha w (List.mem_cons.mpr (Or.inl e))) (fun h => (List.mem_append.mp h).elim (fun h => ha w (List.mem_cons.mpr (Or.inr h))) (hb w))
theorem goodIn_sub {big ws : List Cond} (hm : ∀ w ∈ ws, w ∈ big) (h : ws.all goodWord = true) : GoodIn big ws := fun w hw => ⟨hm w hw, good_of_word (List.all_eq_true.mp h w hw)⟩
/-! ===== END ===== -/

/-! ===== BEGIN exceptions that leave a method, and their catching by the caller (launches without stack traces) ===== -/
section VXA
/-! The laws vx_back, vx_callV, vx_callS, vx_callSW, vx_throw0, vx_throwS follow proofs of the library, with one case more: JvmDerived/Free/Laws.lean (Back.of_free), Shelf42/LK1.lean (callV, callS), Shelf/KitTraced.lean (throwNew0V, throwNewS). -/
/-- where a method has thrown q: the class by its name, the cell, what was written, the world -/
def vx_T (XC : String → State → State → Prop) (st : State) (q : Addr) (t : State) (mc ms : Nat) (free : Addr → Prop) : Prop :=
  ∃ (E : String) (ce : Cell) (L : List Loc), XC E st t ∧ t.heap[q]? = some ce ∧ ce.vm = .none ∧ st.vm.findClass E = some ce.cls ∧ st.WarmedH t.vm ∧ st.sameButNew ({ t with vm := st.vm } : State) L mc ms ∧ ∀ z ∈ L, free z.base
def vx_Q (Qc : Array Value → State → Outcome → State → Prop) (XC : String → State → State → Prop) (mc ms : Nat) (free : Addr → Prop) : Array Value → State → Outcome → State → Prop := fun a st o t =>
  (Qc a st o t ∧ ∃ L, FrameEnd st o t L mc ms ∧ ∀ q ∈ L, free q.base) ∨ ∃ q, o = .threw q ∧ vx_T XC st q t mc ms free
/-- a callee that returns or throws -/
def vx_Met (l : Launch) (y : MethodName) (ws : List Cond) (rm : Room) (Pc : Array Value → State → Prop) (Qc : Array Value → State → Outcome → State → Prop) (XC : String → State → State → Prop) (mc ms : Nat) (free : Addr → Prop) : Prop :=
  MetFree l y (headSpec ws rm) Pc (fun _ _ _ _ _ => True) (vx_Q Qc XC mc ms free)
def vx_Post (XC : String → State → State → Prop) (mc ms : Nat) (free : Addr → Prop) : Pt → Array Value → Addr → Pt → Prop := fun A a q B =>
  ∃ (g : JFrame) (mk : MethodId) (t : State) (L : List Loc) (E : String) (ce : Cell), B.U.heap = t.heap ∧ B.U.vm = t.vm ∧ XC E (A.U.calling g mk a) t ∧ t.heap[q]? = some ce ∧ ce.vm = .none ∧ A.U.vm.findClass E = some ce.cls ∧ B.locs = A.locs ++ L ∧ (∀ z ∈ L, free z.base) ∧ B.cells = A.cells + mc ∧ B.slots = A.slots + ms
def vx_Back (l : Launch) (R : Room) (p : Program) (e : Env) (below : List Frame) (s : State) (sargs : Array Value) (y : MethodName) (len W9 : Nat)
    (Pre : Pt → Array Value → Prop) (Post : Pt → Array Value → Option Value → Pt → Prop) (PostX : Pt → Array Value → Addr → Pt → Prop) : Prop :=
  ∀ (m : MethodId) (meth : Method) (c : Code) (A : Pt) (g : JFrame) (ig : Instr) (mk : MethodId) (a : Array Value),
    Stand p l e R s m sargs below meth c A.U A.locs A.cells A.slots → g.method = m → g.locals.size = c.maxLocals → decode c.code g.pc = .ok (ig, len) →
    2 * g.monitorRoom + (g.stack.map fun v => v.category).sum ≤ W9 → A.U.methodNamed? y = some mk → Pre A a →
    (∃ (v : Option Value) (B : Pt), Stand p l e R s m sargs below meth c B.U B.locs B.cells B.slots ∧ Post A a v B ∧
      Steps p.tables e below (doInvoke e (A.U.setTop g) [] mk a).1 (B.U.setTop { g with pc := g.pc + len, stack := v.toList ++ g.stack })) ∨
    (∃ (q : Addr) (B : Pt), Stand p l e R s m sargs below meth c B.U B.locs B.cells B.slots ∧ PostX A a q B ∧
      Steps p.tables e below (doInvoke e (A.U.setTop g) [] mk a).1 ((B.U.setTop g).pushFrame (.throwing q)))
section Payer
variable {l : Launch} {R : Room} {p : Program} {e : Env} {below : List Frame} {s : State} {sargs : Array Value} {y : MethodName} {len W9 : Nat}
theorem vx_back {ws : List Cond} {rm : Room} {Pc : Array Value → State → Prop} {Qc : Array Value → State → Outcome → State → Prop} {XC : String → State → State → Prop} {mc ms : Nat} {free : Addr → Prop} {bytes : ByteArray} {maxL : Nat} {ret : Option FieldType}
    (hM : vx_Met l y ws rm Pc Qc XC mc ms free) (hblind : FrameBlind Pc) (hrc : rm.cells = mc) (hrs : rm.slots = ms)
    (hframes : rm.frames + 1 ≤ R.frames) (hlocals : W9 + (maxL + 11) + rm.locals ≤ R.locals)
    (hws : ∀ w ∈ ws, ∀ a' U, s.WarmedH U.vm → w.before a' U = true) (hcode : Cond.code y bytes maxL ret ∈ ws) (hinit : ∀ a' U, s.WarmedH U.vm → (Cond.initialized y.cls).before a' U = true) :
    vx_Back l R p e below s sargs y len W9 (PreOf R mc ms Pc) (PostOf Qc mc ms free) (vx_Post XC mc ms free) := by
  intro m meth c A g ig mk a X hg hsize hdg hW hn hp
  have h1 : (headSpec ws rm).pre.before a A.U = true := atoms_intro fun w hw => hws w hw _ _ X.warmed
  have h2 : (Cond.code y bytes maxL ret).before a A.U = true := hws _ hcode _ _ X.warmed
  have h3 : (Cond.initialized y.cls).before a A.U = true := hinit _ _ X.warmed
  have h4 : A.cells + (headSpec ws rm).room.cells ≤ R.cells := by rw [show (headSpec ws rm).room.cells = mc from hrc]; exact hp.1
  have h5 : A.slots + (headSpec ws rm).room.slots ≤ R.slots := by rw [show (headSpec ws rm).room.slots = ms from hrs]; exact hp.2.1
  have hPc : Pc a (A.U.calling g mk a) := hblind _ _ _ _ hp.2.2
  obtain ⟨U, Ls, c0, s0⟩ := A
  dsimp only [Pt.U, Pt.locs, Pt.cells, Pt.slots] at h1 h2 h3 h4 h5 X hn hPc ⊢
  obtain ⟨methY, cY, hmY, hcY, -, hlY, -, -, -, -⟩ := Cond.code_spec hn h2
  obtain ⟨kY, hkY, -⟩ := className_of_methodNamed hn
  have hinitY : kY.init = .initialized := Cond.initialized_spec (findClass_of_methodNamed hn) hkY h3
  have h : At U g.method c below := by rw [hg]; exact X.here
  have hlocals9 : W9 + (maxL + 11) + (headSpec ws rm).room.locals ≤ R.locals := hlocals
  have happ : (headSpec ws rm).appliesLoose y e.platform (U.calling g mk a) = true :=
    Spec.appliesLoose_calling (g := g) h hdg hn hkY hinitY
      (X.room_calling (g := g) (R' := (headSpec ws rm).room) hsize hmY hcY hframes (by rw [hlY]; omega) h4 h5) h1
  obtain ⟨mid, hmid⟩ := h.above
  have hfr : (U.setTop g).frames = (.java g :: mid) ++ below := by rw [State.frames_setTop' g h.top, hmid]; rfl
  obtain ⟨o, s₂, hsteps, -, hend, hq⟩ := Steps.callFree hM p X.admits X.cas X.clock (acts := []) hfr happ hPc trivial
  have hq' : vx_Q Qc XC mc ms free a (U.calling g mk a) o s₂ := hq
  rw [State.frames_setTop' g h.top] at hend
  obtain ⟨g₀, hg0⟩ := Option.isSome_iff_exists.mp h.top
  obtain ⟨r, hr⟩ := State.topJava?_eq_some.mp hg0
  have hr' : (({ U with heap := s₂.heap, slotsUsed := s₂.slotsUsed } : State).setVm s₂.vm).frames = .java g₀ :: r := hr
  rcases hq' with ⟨hqc, L, hfe, hL⟩ | ⟨q, rfl, E, ce, L, hx, hce, hcv, hcl, hW₂, hsm, hL⟩
  · obtain ⟨⟨v, rfl⟩, hW₂, e2, q2, q3, q4, q5, q6⟩ := id hfe
    have e3 : s₂ = ({ (U.calling g mk a).setFrames s₂.frames with heap := s₂.heap, slotsUsed := s₂.slotsUsed } : State).setVm s₂.vm := by
      have : s₂ = ({ s₂ with vm := (U.calling g mk a).vm } : State).setVm s₂.vm := rfl
      rw [e2] at this
      exact this
    obtain ⟨c₂, i₂, len₂, hc₂, hd₂, hf₂⟩ := hend
    have hW' : U.WarmedH s₂.vm := hW₂
    have hcc : c₂ = c := by
      have h1 : s₂.code? g.method = U.code? g.method := by
        rw [State.code?_eq, State.code?_eq, hW'.alike.method?]
      exact Option.some.inj (hc₂.symm.trans (h1.trans h.code))
    subst hcc
    have hlen : len₂ = len := by rw [hdg] at hd₂; cases hd₂; rfl
    subst hlen
    have hs₂ : s₂ = (({ U with heap := s₂.heap, slotsUsed := s₂.slotsUsed } : State).setVm s₂.vm).setTop { g with pc := g.pc + len₂, stack := v.toList ++ g.stack } := by
      refine e3.trans ?_
      rw [hf₂, State.calling_eq h.top, State.setFrames_setFrames, State.setTop_of_frames _ hr', hr]
      rfl
    have hsame : U.sameButNew ({ U with heap := s₂.heap, slotsUsed := s₂.slotsUsed } : State) L mc ms := by
      refine ⟨?_, q2, q3, q4, q5, q6⟩
      obtain ⟨t, ht, -⟩ := State.frames_cons hr
      show ({ U with heap := s₂.heap, slotsUsed := s₂.slotsUsed } : State) = { U.setFrames U.frames with heap := s₂.heap, slotsUsed := s₂.slotsUsed }
      rw [State.setFrames_self ht]
    subst hg
    refine Or.inl ⟨v, ⟨(({ U with heap := s₂.heap, slotsUsed := s₂.slotsUsed } : State).setVm s₂.vm), Ls ++ L, c0 + mc, s0 + ms⟩,
      ⟨X.admits, X.cas, X.clock, X.frames, X.room, X.hears, X.method, X.code, (X.here.setHeapUsed s₂.heap s₂.slotsUsed).setVm hW'.alike, X.tail, State.WarmedH.trans X.warmed hW', X.limits, X.bytes, X.same.trans (hsame.setVm s.vm)⟩,
      ⟨g, mk, s₂, L, rfl, rfl, hqc, rfl, hL, rfl, rfl⟩, ?_⟩
    show Steps p.tables e below _ ((({ U with heap := s₂.heap, slotsUsed := s₂.slotsUsed } : State).setVm s₂.vm).setTop { g with pc := g.pc + len₂, stack := v.toList ++ g.stack })
    rw [← hs₂]
    exact hsteps
  · obtain ⟨e2, q2, q3, q4, q5, q6⟩ := id hsm
    have e3 : s₂ = ({ (U.calling g mk a).setFrames s₂.frames with heap := s₂.heap, slotsUsed := s₂.slotsUsed } : State).setVm s₂.vm := by
      have : s₂ = ({ s₂ with vm := (U.calling g mk a).vm } : State).setVm s₂.vm := rfl
      rw [e2] at this
      exact this
    have hf₂ : s₂.frames = .throwing q :: .java g :: U.frames.tail := hend
    have hW' : U.WarmedH s₂.vm := hW₂
    have hs₂ : s₂ = ((({ U with heap := s₂.heap, slotsUsed := s₂.slotsUsed } : State).setVm s₂.vm).setTop g).pushFrame (.throwing q) := by
      refine e3.trans ?_
      rw [hf₂, State.calling_eq h.top, State.setFrames_setFrames, State.pushFrame, State.frames_setTop _ hr', State.setTop_of_frames _ hr', State.setFrames_setFrames, hr]
      rfl
    have hsame : U.sameButNew ({ U with heap := s₂.heap, slotsUsed := s₂.slotsUsed } : State) L mc ms := by
      refine ⟨?_, q2, q3, q4, q5, q6⟩
      obtain ⟨t, ht, -⟩ := State.frames_cons hr
      show ({ U with heap := s₂.heap, slotsUsed := s₂.slotsUsed } : State) = { U.setFrames U.frames with heap := s₂.heap, slotsUsed := s₂.slotsUsed }
      rw [State.setFrames_self ht]
    subst hg
    refine Or.inr ⟨q, ⟨(({ U with heap := s₂.heap, slotsUsed := s₂.slotsUsed } : State).setVm s₂.vm), Ls ++ L, c0 + mc, s0 + ms⟩,
      ⟨X.admits, X.cas, X.clock, X.frames, X.room, X.hears, X.method, X.code, (X.here.setHeapUsed s₂.heap s₂.slotsUsed).setVm hW'.alike, X.tail, State.WarmedH.trans X.warmed hW', X.limits, X.bytes, X.same.trans (hsame.setVm s.vm)⟩,
      ⟨g, mk, s₂, L, E, ce, rfl, rfl, hx, hce, hcv, hcl, rfl, hL, rfl, rfl⟩, ?_⟩
    show Steps p.tables e below _ (((({ U with heap := s₂.heap, slotsUsed := s₂.slotsUsed } : State).setVm s₂.vm).setTop g).pushFrame (.throwing q))
    rw [← hs₂]
    exact hsteps
end Payer
section Calls
variable {p : Program} {l : Launch} {e : Env} {R : Room} {s : State} {m : MethodId} {args : Array Value} {below : List Frame} {meth : Method} {c : Code} {T : State} {locs : List Loc} {cells slots : Nat}
theorem vx_callV (X : Stand p l e R s m args below meth c T locs cells slots) (hexec : p.tables.exec = Jvm.exec) {own C : String} {index : Nat} {y : MethodName} {bytes : ByteArray} {maxL : Nat} {ret : Option FieldType}
    (hown : s.vm.findClass own = some m.cls) (hlink : (Cond.methodLink own index y).before args s = true) (hinst : (Cond.instanceMethod y).before args s = true) (hsel : (Cond.selects C y y).before args s = true)
    (hcode : (Cond.code y bytes maxL ret).before args s = true) (hy : y.cls ≠ "java/lang/invoke/MethodHandle" ∧ y.cls ≠ "java/lang/invoke/VarHandle")
    {W9 : Nat} {Pre : Pt → Array Value → Prop} {Post : Pt → Array Value → Option Value → Pt → Prop} {PostX : Pt → Array Value → Addr → Pt → Prop} (hK : vx_Back l R p e below s args y 3 W9 Pre Post PostX)
    {b : Addr} {cellB : Cell} (hcell : T.heap[b]? = some cellB) (hobj : cellB.vm.isStatics = false) (hcls : s.vm.findClass C = some cellB.cls)
    {g : JFrame} (hg : g.method = m) (hsize : g.locals.size = c.maxLocals) {argsL rest : List Value} (hlen : ∀ sig, parseMethodDescriptor y.desc = some sig → argsL.length = sig.parameters.length)
    (hstack : g.stack = argsL.reverse ++ .ref b :: rest) (hW : 2 * g.monitorRoom + (rest.map fun v => v.category).sum ≤ W9) (hdg : decode c.code g.pc = .ok (.invokevirtual index, 3))
    (hpre : ∀ vm₁, s.WarmedH vm₁ → Pre ⟨T.setVm vm₁, locs, cells, slots⟩ (Value.ref b :: argsL).toArray) :
    (∃ (v : Option Value) (vm₁ : Vm) (B : Pt), s.WarmedH vm₁ ∧ Stand p l e R s m args below meth c B.U B.locs B.cells B.slots ∧ Post ⟨T.setVm vm₁, locs, cells, slots⟩ (Value.ref b :: argsL).toArray v B ∧
      ∀ target, Steps p.tables e below (B.U.setTop { g with pc := g.pc + 3, stack := v.toList ++ rest }) target → Steps p.tables e below (T.setTop g) target) ∨
    (∃ (q : Addr) (vm₁ : Vm) (B : Pt), s.WarmedH vm₁ ∧ Stand p l e R s m args below meth c B.U B.locs B.cells B.slots ∧ PostX ⟨T.setVm vm₁, locs, cells, slots⟩ (Value.ref b :: argsL).toArray q B ∧
      Steps p.tables e below (T.setTop g) ((B.U.setTop { g with stack := rest }).pushFrame (.throwing q))) := by
  obtain ⟨mk, methM, hnamed, hmethM, hstM, habM⟩ := Cond.instanceMethod_spec hinst
  obtain ⟨methM', cM, hmethM', -, -, -, -, -, -, hsigM⟩ := Cond.code_spec hnamed hcode
  cases hmethM.symm.trans hmethM'
  obtain ⟨c2, r2, m2, q1, q2, q3, q4, kP, hkP, hkPi⟩ := Cond.selects_spec hsel
  cases hcls.symm.trans q1
  cases (State.methodFound?_of_named hnamed hy).symm.trans q2
  cases hnamed.symm.trans q3
  have hselP : selectMethod e.platform s.vm cellB.cls mk = .method mk := by rw [Launch.admits_selectMethod X.admits]; exact q4
  obtain ⟨vm₁, X₁, hstep₁⟩ := X.invokevirtual hexec hown hlink hnamed hmethM hstM hkP hkPi hy (a := b) (cell := cellB) hcell
    (fun z h => by rw [h] at hobj; cases hobj) hselP hmethM habM hkP hkPi (g := g) hg (argsL := argsL) (rest := rest) (hlen _ hsigM) hstack hdg
  rcases hK m meth c ⟨T.setVm vm₁, locs, cells, slots⟩ { g with stack := rest } (.invokevirtual index) mk (Value.ref b :: argsL).toArray X₁ hg hsize hdg hW (X₁.named hnamed) (hpre vm₁ X₁.warmed) with ⟨v, B, X', hpost, hsteps⟩ | ⟨q, B, X', hpost, hsteps⟩
  · exact Or.inl ⟨v, vm₁, B, X₁.warmed, X', hpost, fun target h => hstep₁ _ fun acts => by rw [doInvoke_state]; exact hsteps.trans h⟩
  · exact Or.inr ⟨q, vm₁, B, X₁.warmed, X', hpost, hstep₁ _ fun acts => by rw [doInvoke_state]; exact hsteps⟩
theorem vx_callS (X : Stand p l e R s m args below meth c T locs cells slots) (hexec : p.tables.exec = Jvm.exec) {own : String} {index : Nat} {y : MethodName} {bytes : ByteArray} {maxL : Nat} {ret : Option FieldType}
    (hown : s.vm.findClass own = some m.cls) (hlink : (Cond.methodLink own index y).before args s = true) (hstat : (Cond.static y).before args s = true) (hinit : (Cond.initialized y.cls).before args s = true)
    (hcode : (Cond.code y bytes maxL ret).before args s = true) (hy : y.cls ≠ "java/lang/invoke/MethodHandle" ∧ y.cls ≠ "java/lang/invoke/VarHandle")
    {W9 : Nat} {Pre : Pt → Array Value → Prop} {Post : Pt → Array Value → Option Value → Pt → Prop} {PostX : Pt → Array Value → Addr → Pt → Prop} (hK : vx_Back l R p e below s args y 3 W9 Pre Post PostX)
    {g : JFrame} (hg : g.method = m) (hsize : g.locals.size = c.maxLocals) {argsL rest : List Value} (hlen : ∀ sig, parseMethodDescriptor y.desc = some sig → argsL.length = sig.parameters.length)
    (hstack : g.stack = argsL.reverse ++ rest) (hW : 2 * g.monitorRoom + (rest.map fun v => v.category).sum ≤ W9) (hdg : decode c.code g.pc = .ok (.invokestatic index, 3))
    (hpre : ∀ vm₁, s.WarmedH vm₁ → Pre ⟨T.setVm vm₁, locs, cells, slots⟩ argsL.toArray) :
    (∃ (v : Option Value) (vm₁ : Vm) (B : Pt), s.WarmedH vm₁ ∧ Stand p l e R s m args below meth c B.U B.locs B.cells B.slots ∧ Post ⟨T.setVm vm₁, locs, cells, slots⟩ argsL.toArray v B ∧
      ∀ target, Steps p.tables e below (B.U.setTop { g with pc := g.pc + 3, stack := v.toList ++ rest }) target → Steps p.tables e below (T.setTop g) target) ∨
    (∃ (q : Addr) (vm₁ : Vm) (B : Pt), s.WarmedH vm₁ ∧ Stand p l e R s m args below meth c B.U B.locs B.cells B.slots ∧ PostX ⟨T.setVm vm₁, locs, cells, slots⟩ argsL.toArray q B ∧
      Steps p.tables e below (T.setTop g) ((B.U.setTop { g with stack := rest }).pushFrame (.throwing q))) := by
  obtain ⟨mk, hnamed⟩ := Cond.code_named hcode
  obtain ⟨methM, cM, hmethM, -, -, -, -, -, -, hsigM⟩ := Cond.code_spec hnamed hcode
  have hstatic : methM.isStatic = true := Cond.static_spec hnamed hmethM hstat
  obtain ⟨kP, hkP, -⟩ := className_of_methodNamed hnamed
  have hinitP : kP.init = .initialized := Cond.initialized_spec (findClass_of_methodNamed hnamed) hkP hinit
  obtain ⟨vm₁, X₁, hstep₁⟩ := X.invokestatic hexec hown hlink hnamed hmethM hstatic hkP hinitP hy (g := g) hg (argsL := argsL) (rest := rest) (hlen _ hsigM) hstack hdg
  rcases hK m meth c ⟨T.setVm vm₁, locs, cells, slots⟩ { g with stack := rest } (.invokestatic index) mk argsL.toArray X₁ hg hsize hdg hW (X₁.named hnamed) (hpre vm₁ X₁.warmed) with ⟨v, B, X', hpost, hsteps⟩ | ⟨q, B, X', hpost, hsteps⟩
  · exact Or.inl ⟨v, vm₁, B, X₁.warmed, X', hpost, fun target h => hstep₁ _ fun acts => by rw [doInvoke_state]; exact hsteps.trans h⟩
  · exact Or.inr ⟨q, vm₁, B, X₁.warmed, X', hpost, hstep₁ _ fun acts => by rw [doInvoke_state]; exact hsteps⟩
end Calls
theorem vx_cls {s : State} {T : State} {vm₁ : Vm} {E : String} {k : ClassId} (hW : s.WarmedH vm₁) (h : (T.setVm vm₁).vm.findClass E = some k) : s.vm.findClass E = some k := by
  have h1 : vm₁.findClass E = some k := h
  rw [hW.alike.findClass] at h1
  exact h1
/-- the method's frame g, with q thrown over it -/
def vx_W (p : Program) (l : Launch) (e : Env) (R : Room) (s : State) (m : MethodId) (args : Array Value) (below : List Frame) (meth : Method) (c : Code) (H : Heap) (locs : List Loc) (cells slots : Nat) (Q : State → Prop) (g : JFrame) (q : Addr) : Prop :=
  ∀ T : State, T.heap = H → Stand p l e R s m args below meth c T locs cells slots → ∃ t, Steps p.tables e below ((T.setTop g).pushFrame (.throwing q)) t ∧ Q t
def vx_Run (p : Program) (l : Launch) (e : Env) (R : Room) (s : State) (m : MethodId) (args : Array Value) (below : List Frame) (meth : Method) (c : Code) (H : Heap) (locs : List Loc) (cells slots mc ms : Nat) (g : JFrame) (rest : List Value) (Qa : State → Outcome → State → Prop) (XC : String → State → State → Prop) (free : Addr → Prop) : Prop :=
  ∀ T : State, T.heap = H → Stand p l e R s m args below meth c T locs cells slots →
    (∃ (v : Option Value) (st₀ t T' : State) (L : List Loc), st₀.heap = H ∧ Stand p l e R s m args below meth c T' (locs ++ L) (cells + mc) (slots + ms) ∧ (∀ q ∈ L, free q.base) ∧ T'.heap = t.heap ∧ T'.vm = t.vm ∧ Qa st₀ (.returned v) t ∧
      Goes p e below T g T' { g with pc := g.pc + 3, stack := v.toList ++ rest }) ∨
    (∃ (q : Addr) (st₀ t T' : State) (L : List Loc) (E : String) (ce : Cell), st₀.heap = H ∧ Stand p l e R s m args below meth c T' (locs ++ L) (cells + mc) (slots + ms) ∧ (∀ z ∈ L, free z.base) ∧ T'.heap = t.heap ∧ T'.vm = t.vm ∧ XC E st₀ t ∧ t.heap[q]? = some ce ∧ ce.vm = .none ∧ s.vm.findClass E = some ce.cls ∧
      Steps p.tables e below (T.setTop g) ((T'.setTop { g with stack := rest }).pushFrame (.throwing q)))
def vx_X {S : Type} (px : S → Prop) (B : String → S → State → Prop) (A : Nat → Prop) : String → State → State → Prop := fun E st t => ∃ u : S, px u ∧ B E u t ∧ va_F A st t
section Runs
variable {p : Program} {l : Launch} {e : Env} {R : Room} {s : State} {m : MethodId} {args : Array Value} {below : List Frame} {meth : Method} {c : Code} {H : Heap} {locs : List Loc} {cells slots : Nat}
variable {y : MethodName} {bytes cc : ByteArray} {maxL nL mc ms n index : Nat} {ret : Option FieldType} {ws : List Cond} {rm : Room} {Pc : Array Value → State → Prop} {Qc : Array Value → State → Outcome → State → Prop} {XC : String → State → State → Prop} {free : Addr → Prop} {Ts : List Cond} {own C : String} {b : Addr} {As rest : List Value} {g : JFrame}
theorem vx_callBack (cb : CallB R s args own index y bytes maxL ret ws rm mc ms n) (hM : vx_Met l y ws rm Pc Qc XC mc ms free) (hbl : FrameBlind Pc) : vx_Back l R p e below s args y 3 8 (PreOf R mc ms Pc) (PostOf Qc mc ms free) (vx_Post XC mc ms free) := by
  obtain ⟨hrc, hrs, hfr, hlo, hws, hcw, -, hini, -⟩ := cb
  exact vx_back (bytes := bytes) (maxL := maxL) (ret := ret) hM hbl hrc hrs hfr hlo hws hcw (fun a' U hW => word_at hW (Or.inl (by first | rfl | simp [Cond.onTables, Cond.keeps, Cond.steady])) hini)
theorem vx_runV (S : CallFix p m c cc nL s args Ts own) (hM : vx_Met l y ws rm Pc Qc XC mc ms free) (cw : CallW R s args own C index y bytes maxL ret ws rm mc ms n) (hp : PreV s H C b Pc As)
    (hg : g.method = m) (hn : As.length = n) (hsize : g.locals.size = nL) (hstack : g.stack = As.reverse ++ .ref b :: rest) (hW : 2 * g.monitorRoom + (rest.map fun v => v.category).sum ≤ 8) (hdg : decode cc g.pc = .ok (.invokevirtual index, 3)) (hf : cells + mc ≤ R.cells ∧ slots + ms ≤ R.slots) :
    vx_Run p l e R s m args below meth c H locs cells slots mc ms g rest (Qc (Value.ref b :: As).toArray) XC free := by
  have hK : vx_Back l R p e below s args y 3 8 (PreOf R mc ms Pc) (PostOf Qc mc ms free) (vx_Post XC mc ms free) := vx_callBack cw.1 hM hp.1
  obtain ⟨⟨-, -, -, -, -, -, hcode, -, hy, hlen, hl⟩, hin, hse⟩ := cw
  obtain ⟨hx, hb, hml, ho, -⟩ := S
  obtain ⟨-, ⟨cellB, hcB, hoB, hclB⟩, hPc⟩ := hp
  intro T hT X
  rcases vx_callV X hx (C := C) (bytes := bytes) (maxL := maxL) (ret := ret) ho hl hin hse hcode hy hK (by rw [hT]; exact hcB) hoB hclB hg (hsize.trans hml.symm) (argsL := As) (rest := rest) (fun sig h => hn.trans (hlen sig h)) hstack hW (by rw [hb]; exact hdg)
    (fun vm₁ hW₁ => ⟨hf.1, hf.2, hPc (T.setVm vm₁) hT hW₁⟩) with ⟨v, vm₁, ⟨U', l2, c2, s2⟩, hW₁, X', ⟨g', mk, t, L, e1, e2, hq, h1, hL, h2, h3⟩, st⟩ | ⟨q, vm₁, ⟨U', l2, c2, s2⟩, hW₁, X', ⟨g', mk, t, L, E, ce, e1, e2, hq, hce, hcv, hcl, h1, hL, h2, h3⟩, st⟩
  · dsimp only [Pt.U, Pt.locs, Pt.cells, Pt.slots] at X' e1 e2 h1 h2 h3 st
    subst h1; subst h2; subst h3
    exact Or.inl ⟨v, (T.setVm vm₁).calling g' mk (Value.ref b :: As).toArray, t, U', L, hT, X', hL, e1, e2, hq, st⟩
  · dsimp only [Pt.U, Pt.locs, Pt.cells, Pt.slots] at X' e1 e2 h1 h2 h3 st hcl
    subst h1; subst h2; subst h3
    exact Or.inr ⟨q, (T.setVm vm₁).calling g' mk (Value.ref b :: As).toArray, t, U', L, E, ce, hT, X', hL, e1, e2, hq, hce, hcv, vx_cls hW₁ hcl, st⟩
theorem vx_runS (S : CallFix p m c cc nL s args Ts own) (hM : vx_Met l y ws rm Pc Qc XC mc ms free) (cw : CallB R s args own index y bytes maxL ret ws rm mc ms n ∧ (Cond.static y).before args s = true) (hp : PreS s H Pc As)
    (hg : g.method = m) (hn : As.length = n) (hsize : g.locals.size = nL) (hstack : g.stack = As.reverse ++ rest) (hW : 2 * g.monitorRoom + (rest.map fun v => v.category).sum ≤ 8) (hdg : decode cc g.pc = .ok (.invokestatic index, 3)) (hf : cells + mc ≤ R.cells ∧ slots + ms ≤ R.slots) :
    vx_Run p l e R s m args below meth c H locs cells slots mc ms g rest (Qc As.toArray) XC free := by
  have hK : vx_Back l R p e below s args y 3 8 (PreOf R mc ms Pc) (PostOf Qc mc ms free) (vx_Post XC mc ms free) := vx_callBack cw.1 hM hp.1
  obtain ⟨⟨-, -, -, -, -, -, hcode, hini, hy, hlen, hl⟩, hstt⟩ := cw
  obtain ⟨hx, hb, hml, ho, -⟩ := S
  intro T hT X
  rcases vx_callS X hx (bytes := bytes) (maxL := maxL) (ret := ret) ho hl hstt hini hcode hy hK hg (hsize.trans hml.symm) (argsL := As) (rest := rest) (fun sig h => hn.trans (hlen sig h)) hstack hW (by rw [hb]; exact hdg)
    (fun vm₁ hW₁ => ⟨hf.1, hf.2, hp.2 (T.setVm vm₁) hT hW₁⟩) with ⟨v, vm₁, ⟨U', l2, c2, s2⟩, hW₁, X', ⟨g', mk, t, L, e1, e2, hq, h1, hL, h2, h3⟩, st⟩ | ⟨q, vm₁, ⟨U', l2, c2, s2⟩, hW₁, X', ⟨g', mk, t, L, E, ce, e1, e2, hq, hce, hcv, hcl, h1, hL, h2, h3⟩, st⟩
  · dsimp only [Pt.U, Pt.locs, Pt.cells, Pt.slots] at X' e1 e2 h1 h2 h3 st
    subst h1; subst h2; subst h3
    exact Or.inl ⟨v, (T.setVm vm₁).calling g' mk As.toArray, t, U', L, hT, X', hL, e1, e2, hq, st⟩
  · dsimp only [Pt.U, Pt.locs, Pt.cells, Pt.slots] at X' e1 e2 h1 h2 h3 st hcl
    subst h1; subst h2; subst h3
    exact Or.inr ⟨q, (T.setVm vm₁).calling g' mk As.toArray, t, U', L, E, ce, hT, X', hL, e1, e2, hq, hce, hcv, vx_cls hW₁ hcl, st⟩
end Runs
section Rows
variable {p : Program} {l : Launch} {e : Env} {R : Room} {s : State} {m : MethodId} {args : Array Value} {below : List Frame} {meth : Method} {c : Code} {H : Heap} {locs : List Loc} {cells slots : Nat} {Q : State → Prop}
variable {mc ms : Nat} {free : Addr → Prop} {A0 A1 : Nat → Prop} {H0 : Heap} {a : Array Value} {pc : Nat} {ls : Array Slot} {st0 rest : List Value}
theorem vx_keep {st₀ t T' : State} {L : List Loc} (h0 : st₀.heap = H) (e1 : T'.heap = t.heap) (hS : va_S A0 H0 H locs) (hA : ∀ q, q < H.size → A1 q → A0 q) (hf : ∀ q, free q → A0 q) (hL : ∀ q ∈ L, free q.base) (hF : va_F A1 st₀ t) :
    H.size ≤ T'.heap.size ∧ (∀ q : Nat, q < H.size → ¬ A1 q → T'.heap[q]? = H[q]?) ∧ va_S A0 H0 T'.heap (locs ++ L) := by
  obtain ⟨hz, hk⟩ := hF
  rw [h0] at hz hk
  exact ⟨by rw [e1]; exact hz, fun q h1 h2 => by rw [e1]; exact hk q h1 h2,
    ⟨Nat.le_trans hS.1 (by rw [e1]; exact hz), fun q h1 h2 => by rw [e1, hk q (Nat.lt_of_lt_of_le h1 hS.1) (fun z => h2 (hA q (Nat.lt_of_lt_of_le h1 hS.1) z))]; exact hS.2.1 q h1 h2, fun q hq => by
      rcases List.mem_append.mp hq with h | h
      · exact hS.2.2 q h
      · exact hf _ (hL q h)⟩⟩
theorem vx_calli {S SX : Type} {post : Int32 → S → Prop} {px : SX → Prop} {B : S → State → Prop} {BX : String → SX → State → Prop} {AX : Nat → Prop} (hr : vx_Run p l e R s m args below meth c H locs cells slots mc ms (F0 m pc ls st0) rest (va_Qi post B A1 a) (vx_X px BX AX) free) (hS : va_S A0 H0 H locs) (hA : ∀ q, q < H.size → A1 q → A0 q) (hf : ∀ q, free q → A0 q) (hAX : ∀ q, q < H.size → AX q → A0 q)
    (kx : ∀ (E : String) (ce : Cell) (q9 : Addr) (u : SX) (t : State) (H1 : Heap) (locs1 : List Loc), t.heap = H1 → s.vm.Alike t.vm → px u → BX E u t → H.size ≤ H1.size → (∀ q : Nat, q < H.size → ¬ AX q → H1[q]? = H[q]?) → va_S A0 H0 H1 locs1 → H1[q9]? = some ce → ce.vm = .none → s.vm.findClass E = some ce.cls → vx_W p l e R s m args below meth c H1 locs1 (cells + mc) (slots + ms) Q (F0 m pc ls rest) q9)
    (kk : ∀ (r : Int32) (u : S) (t : State) (H1 : Heap) (locs1 : List Loc), t.heap = H1 → s.vm.Alike t.vm → post r u → B u t → H.size ≤ H1.size → (∀ q : Nat, q < H.size → ¬ A1 q → H1[q]? = H[q]?) → va_S A0 H0 H1 locs1 → W p l e R s m args below meth c H1 locs1 (cells + mc) (slots + ms) Q (F0 m (pc + 3) ls (.int r :: rest))) : W p l e R s m args below meth c H locs cells slots Q (F0 m pc ls st0) := by
  intro T hT X
  rcases hr T hT X with ⟨v, st₀, t, T', L, h0, X', hL, e1, e2, ⟨⟨r, u, hv, hp, hb⟩, hF⟩, st⟩ | ⟨q, st₀, t, T', L, E, ce, h0, X', hL, e1, e2, ⟨u, hp, hb, hF⟩, hce, hcv, hcl, st⟩
  · cases hv
    obtain ⟨k1, k2, k3⟩ := vx_keep h0 e1 hS hA hf hL hF
    obtain ⟨t2, a1, b1⟩ := kk r u t T'.heap (locs ++ L) e1.symm (by rw [← e2]; exact X'.warmed.alike) hp hb k1 k2 k3 T' rfl X'
    exact ⟨t2, st t2 a1, b1⟩
  · obtain ⟨k1, k2, k3⟩ := vx_keep h0 e1 hS hAX hf hL hF
    obtain ⟨t2, a1, b1⟩ := kx E ce q u t T'.heap (locs ++ L) e1.symm (by rw [← e2]; exact X'.warmed.alike) hp hb k1 k2 k3 (by rw [e1]; exact hce) hcv hcl T' rfl X'
    exact ⟨t2, st.trans a1, b1⟩
theorem vx_calll {S SX : Type} {post : Int64 → S → Prop} {px : SX → Prop} {B : S → State → Prop} {BX : String → SX → State → Prop} {AX : Nat → Prop} (hr : vx_Run p l e R s m args below meth c H locs cells slots mc ms (F0 m pc ls st0) rest (va_Ql post B A1 a) (vx_X px BX AX) free) (hS : va_S A0 H0 H locs) (hA : ∀ q, q < H.size → A1 q → A0 q) (hf : ∀ q, free q → A0 q) (hAX : ∀ q, q < H.size → AX q → A0 q)
    (kx : ∀ (E : String) (ce : Cell) (q9 : Addr) (u : SX) (t : State) (H1 : Heap) (locs1 : List Loc), t.heap = H1 → s.vm.Alike t.vm → px u → BX E u t → H.size ≤ H1.size → (∀ q : Nat, q < H.size → ¬ AX q → H1[q]? = H[q]?) → va_S A0 H0 H1 locs1 → H1[q9]? = some ce → ce.vm = .none → s.vm.findClass E = some ce.cls → vx_W p l e R s m args below meth c H1 locs1 (cells + mc) (slots + ms) Q (F0 m pc ls rest) q9)
    (kk : ∀ (r : Int64) (u : S) (t : State) (H1 : Heap) (locs1 : List Loc), t.heap = H1 → s.vm.Alike t.vm → post r u → B u t → H.size ≤ H1.size → (∀ q : Nat, q < H.size → ¬ A1 q → H1[q]? = H[q]?) → va_S A0 H0 H1 locs1 → W p l e R s m args below meth c H1 locs1 (cells + mc) (slots + ms) Q (F0 m (pc + 3) ls (.long r :: rest))) : W p l e R s m args below meth c H locs cells slots Q (F0 m pc ls st0) := by
  intro T hT X
  rcases hr T hT X with ⟨v, st₀, t, T', L, h0, X', hL, e1, e2, ⟨⟨r, u, hv, hp, hb⟩, hF⟩, st⟩ | ⟨q, st₀, t, T', L, E, ce, h0, X', hL, e1, e2, ⟨u, hp, hb, hF⟩, hce, hcv, hcl, st⟩
  · cases hv
    obtain ⟨k1, k2, k3⟩ := vx_keep h0 e1 hS hA hf hL hF
    obtain ⟨t2, a1, b1⟩ := kk r u t T'.heap (locs ++ L) e1.symm (by rw [← e2]; exact X'.warmed.alike) hp hb k1 k2 k3 T' rfl X'
    exact ⟨t2, st t2 a1, b1⟩
  · obtain ⟨k1, k2, k3⟩ := vx_keep h0 e1 hS hAX hf hL hF
    obtain ⟨t2, a1, b1⟩ := kx E ce q u t T'.heap (locs ++ L) e1.symm (by rw [← e2]; exact X'.warmed.alike) hp hb k1 k2 k3 (by rw [e1]; exact hce) hcv hcl T' rfl X'
    exact ⟨t2, st.trans a1, b1⟩
theorem vx_callf {S SX : Type} {post : UInt32 → S → Prop} {px : SX → Prop} {B : S → State → Prop} {BX : String → SX → State → Prop} {AX : Nat → Prop} (hr : vx_Run p l e R s m args below meth c H locs cells slots mc ms (F0 m pc ls st0) rest (va_Qf post B A1 a) (vx_X px BX AX) free) (hS : va_S A0 H0 H locs) (hA : ∀ q, q < H.size → A1 q → A0 q) (hf : ∀ q, free q → A0 q) (hAX : ∀ q, q < H.size → AX q → A0 q)
    (kx : ∀ (E : String) (ce : Cell) (q9 : Addr) (u : SX) (t : State) (H1 : Heap) (locs1 : List Loc), t.heap = H1 → s.vm.Alike t.vm → px u → BX E u t → H.size ≤ H1.size → (∀ q : Nat, q < H.size → ¬ AX q → H1[q]? = H[q]?) → va_S A0 H0 H1 locs1 → H1[q9]? = some ce → ce.vm = .none → s.vm.findClass E = some ce.cls → vx_W p l e R s m args below meth c H1 locs1 (cells + mc) (slots + ms) Q (F0 m pc ls rest) q9)
    (kk : ∀ (r : UInt32) (u : S) (t : State) (H1 : Heap) (locs1 : List Loc), t.heap = H1 → s.vm.Alike t.vm → post r u → B u t → H.size ≤ H1.size → (∀ q : Nat, q < H.size → ¬ A1 q → H1[q]? = H[q]?) → va_S A0 H0 H1 locs1 → W p l e R s m args below meth c H1 locs1 (cells + mc) (slots + ms) Q (F0 m (pc + 3) ls (.float r :: rest))) : W p l e R s m args below meth c H locs cells slots Q (F0 m pc ls st0) := by
  intro T hT X
  rcases hr T hT X with ⟨v, st₀, t, T', L, h0, X', hL, e1, e2, ⟨⟨r, u, hv, hp, hb⟩, hF⟩, st⟩ | ⟨q, st₀, t, T', L, E, ce, h0, X', hL, e1, e2, ⟨u, hp, hb, hF⟩, hce, hcv, hcl, st⟩
  · cases hv
    obtain ⟨k1, k2, k3⟩ := vx_keep h0 e1 hS hA hf hL hF
    obtain ⟨t2, a1, b1⟩ := kk r u t T'.heap (locs ++ L) e1.symm (by rw [← e2]; exact X'.warmed.alike) hp hb k1 k2 k3 T' rfl X'
    exact ⟨t2, st t2 a1, b1⟩
  · obtain ⟨k1, k2, k3⟩ := vx_keep h0 e1 hS hAX hf hL hF
    obtain ⟨t2, a1, b1⟩ := kx E ce q u t T'.heap (locs ++ L) e1.symm (by rw [← e2]; exact X'.warmed.alike) hp hb k1 k2 k3 (by rw [e1]; exact hce) hcv hcl T' rfl X'
    exact ⟨t2, st.trans a1, b1⟩
theorem vx_calld {S SX : Type} {post : UInt64 → S → Prop} {px : SX → Prop} {B : S → State → Prop} {BX : String → SX → State → Prop} {AX : Nat → Prop} (hr : vx_Run p l e R s m args below meth c H locs cells slots mc ms (F0 m pc ls st0) rest (va_Qd post B A1 a) (vx_X px BX AX) free) (hS : va_S A0 H0 H locs) (hA : ∀ q, q < H.size → A1 q → A0 q) (hf : ∀ q, free q → A0 q) (hAX : ∀ q, q < H.size → AX q → A0 q)
    (kx : ∀ (E : String) (ce : Cell) (q9 : Addr) (u : SX) (t : State) (H1 : Heap) (locs1 : List Loc), t.heap = H1 → s.vm.Alike t.vm → px u → BX E u t → H.size ≤ H1.size → (∀ q : Nat, q < H.size → ¬ AX q → H1[q]? = H[q]?) → va_S A0 H0 H1 locs1 → H1[q9]? = some ce → ce.vm = .none → s.vm.findClass E = some ce.cls → vx_W p l e R s m args below meth c H1 locs1 (cells + mc) (slots + ms) Q (F0 m pc ls rest) q9)
    (kk : ∀ (r : UInt64) (u : S) (t : State) (H1 : Heap) (locs1 : List Loc), t.heap = H1 → s.vm.Alike t.vm → post r u → B u t → H.size ≤ H1.size → (∀ q : Nat, q < H.size → ¬ A1 q → H1[q]? = H[q]?) → va_S A0 H0 H1 locs1 → W p l e R s m args below meth c H1 locs1 (cells + mc) (slots + ms) Q (F0 m (pc + 3) ls (.double r :: rest))) : W p l e R s m args below meth c H locs cells slots Q (F0 m pc ls st0) := by
  intro T hT X
  rcases hr T hT X with ⟨v, st₀, t, T', L, h0, X', hL, e1, e2, ⟨⟨r, u, hv, hp, hb⟩, hF⟩, st⟩ | ⟨q, st₀, t, T', L, E, ce, h0, X', hL, e1, e2, ⟨u, hp, hb, hF⟩, hce, hcv, hcl, st⟩
  · cases hv
    obtain ⟨k1, k2, k3⟩ := vx_keep h0 e1 hS hA hf hL hF
    obtain ⟨t2, a1, b1⟩ := kk r u t T'.heap (locs ++ L) e1.symm (by rw [← e2]; exact X'.warmed.alike) hp hb k1 k2 k3 T' rfl X'
    exact ⟨t2, st t2 a1, b1⟩
  · obtain ⟨k1, k2, k3⟩ := vx_keep h0 e1 hS hAX hf hL hF
    obtain ⟨t2, a1, b1⟩ := kx E ce q u t T'.heap (locs ++ L) e1.symm (by rw [← e2]; exact X'.warmed.alike) hp hb k1 k2 k3 (by rw [e1]; exact hce) hcv hcl T' rfl X'
    exact ⟨t2, st.trans a1, b1⟩
theorem vx_callv {S SX : Type} {post : S → Prop} {px : SX → Prop} {B : S → State → Prop} {BX : String → SX → State → Prop} {AX : Nat → Prop} (hr : vx_Run p l e R s m args below meth c H locs cells slots mc ms (F0 m pc ls st0) rest (va_Qv post B A1 a) (vx_X px BX AX) free) (hS : va_S A0 H0 H locs) (hA : ∀ q, q < H.size → A1 q → A0 q) (hf : ∀ q, free q → A0 q) (hAX : ∀ q, q < H.size → AX q → A0 q)
    (kx : ∀ (E : String) (ce : Cell) (q9 : Addr) (u : SX) (t : State) (H1 : Heap) (locs1 : List Loc), t.heap = H1 → s.vm.Alike t.vm → px u → BX E u t → H.size ≤ H1.size → (∀ q : Nat, q < H.size → ¬ AX q → H1[q]? = H[q]?) → va_S A0 H0 H1 locs1 → H1[q9]? = some ce → ce.vm = .none → s.vm.findClass E = some ce.cls → vx_W p l e R s m args below meth c H1 locs1 (cells + mc) (slots + ms) Q (F0 m pc ls rest) q9)
    (kk : ∀ (u : S) (t : State) (H1 : Heap) (locs1 : List Loc), t.heap = H1 → s.vm.Alike t.vm → post u → B u t → H.size ≤ H1.size → (∀ q : Nat, q < H.size → ¬ A1 q → H1[q]? = H[q]?) → va_S A0 H0 H1 locs1 → W p l e R s m args below meth c H1 locs1 (cells + mc) (slots + ms) Q (F0 m (pc + 3) ls (rest))) : W p l e R s m args below meth c H locs cells slots Q (F0 m pc ls st0) := by
  intro T hT X
  rcases hr T hT X with ⟨v, st₀, t, T', L, h0, X', hL, e1, e2, ⟨⟨u, hv, hp, hb⟩, hF⟩, st⟩ | ⟨q, st₀, t, T', L, E, ce, h0, X', hL, e1, e2, ⟨u, hp, hb, hF⟩, hce, hcv, hcl, st⟩
  · cases hv
    obtain ⟨k1, k2, k3⟩ := vx_keep h0 e1 hS hA hf hL hF
    obtain ⟨t2, a1, b1⟩ := kk u t T'.heap (locs ++ L) e1.symm (by rw [← e2]; exact X'.warmed.alike) hp hb k1 k2 k3 T' rfl X'
    exact ⟨t2, st t2 a1, b1⟩
  · obtain ⟨k1, k2, k3⟩ := vx_keep h0 e1 hS hAX hf hL hF
    obtain ⟨t2, a1, b1⟩ := kx E ce q u t T'.heap (locs ++ L) e1.symm (by rw [← e2]; exact X'.warmed.alike) hp hb k1 k2 k3 (by rw [e1]; exact hce) hcv hcl T' rfl X'
    exact ⟨t2, st.trans a1, b1⟩
/-- caught by the row x of this method's table; the rows ahead don't take it -/
theorem vx_catch {own name : String} {E : String} {ce : Cell} {q : Addr} (hown : s.vm.findClass own = some m.cls) (pre : List ExceptionTableEntry) (x : ExceptionTableEntry) (suf : List ExceptionTableEntry) (hsplit : c.exceptionTable.toList = pre ++ x :: suf)
    (hpass : ∀ z ∈ pre, covers z pc = false ∨ (z.catchType ≠ 0 ∧ ∃ nm : String, (Cond.classLink own z.catchType nm).before args s = true ∧ va_Nc E nm s)) (hx : covers x pc = true) (h0 : x.catchType ≠ 0)
    (hlink : (Cond.classLink own x.catchType name).before args s = true) (hcast : (Cond.castable E name).before args s = true) (hcell : H[q]? = some ce) (hv : ce.vm = .none) (hcl : s.vm.findClass E = some ce.cls)
    (kk : W p l e R s m args below meth c H locs cells slots Q (F0 m x.handlerPc ls [.ref q])) : vx_W p l e R s m args below meth c H locs cells slots Q (F0 m pc ls rest) q := by
  intro T hT X
  have hpl : e.platform.magicAccessors = ({} : Platform).magicAccessors := by rw [X.admits.platform]
  obtain ⟨c3, c4, hc3, hc4, hasg⟩ := Cond.castable_spec hcast
  cases Option.some.inj (hc3.symm.trans hcl)
  obtain ⟨c5, hc5, hcl5⟩ := Cond.classLink_spec hown hlink e.platform hpl
  cases Option.some.inj (hc4.symm.trans hc5)
  obtain ⟨vm', X', st⟩ := X.thenCaughtThrough q (g := F0 m pc ls rest) rfl (Steps.refl _) (by rw [hT]; exact hcell) (by rw [hv]; rfl) (by obtain ⟨k9, h9, -⟩ := Vm.findClass_spec hcl; exact ⟨k9, h9⟩) pre x suf hsplit
    (fun z hz => by
      rcases hpass z hz with h | ⟨hz0, nm, hl1, hn1⟩
      · exact Or.inl h
      · obtain ⟨c6, hc6, hcl6⟩ := Cond.classLink_spec hown hl1 e.platform hpl
        obtain ⟨a8, b8, h1, h2, h3⟩ := hn1
        cases Option.some.inj (h1.symm.trans hcl)
        cases Option.some.inj (h2.symm.trans hc6)
        exact Or.inr ⟨hz0, _, hcl6, h3⟩) hx (Or.inr ⟨h0, c4, hcl5, hasg⟩)
  obtain ⟨t, a1, b1⟩ := kk (T.setVm vm') hT X'
  exact ⟨t, st.trans a1, b1⟩
end Rows
section Ends
variable {p : Program} {l : Launch} {e : Env} {R : Room} {s : State} {m : MethodId} {args : Array Value} {below : List Frame} {meth : Method} {c : Code} {H : Heap} {locs : List Loc} {cells slots : Nat} {Q : State → Prop}
variable {mc ms : Nat} {free : Addr → Prop} {A0 A1 : Nat → Prop} {H0 : Heap} {a : Array Value} {ls : Array Slot} {st0 rest : List Value}
variable {Qc : Array Value → State → Outcome → State → Prop} {XC : String → State → State → Prop}
/-- what a body that may throw owes at its end -/
def vx_MQ (below : List Frame) (Qc : Array Value → State → Outcome → State → Prop) (XC : String → State → State → Prop) (a : Array Value) (s : State) (mc ms : Nat) (free : Addr → Prop) : State → Prop := fun t =>
  ∃ o, t.status = .running ∧ Ended t below o ∧ vx_Q Qc XC mc ms free a s o t
theorem vx_ret {g : JFrame} {mc ms : Nat} (k : W p l e R s m args below meth c H locs cells slots (MQ below Qc args s mc ms free) g) : W p l e R s m args below meth c H locs cells slots (vx_MQ below Qc XC args s mc ms free) g := by
  intro T hT X
  obtain ⟨t, a1, o, b1, b2, b3, b4⟩ := k T hT X
  exact ⟨t, a1, o, b1, b2, Or.inl ⟨b3, b4⟩⟩
/-- not caught here: it goes on to the caller -/
theorem vx_widen {g : JFrame} {q : Addr} {k n : Nat} (h1 : cells ≤ k) (h2 : slots ≤ n) (kk : vx_W p l e R s m args below meth c H locs k n Q g q) : vx_W p l e R s m args below meth c H locs cells slots Q g q := fun T hT X => kk T hT (stand_widen X h1 h2)
theorem vx_out {pc : Nat} {E : String} {ce : Cell} {q : Addr} {mc ms : Nat} (hout : ∀ x ∈ c.exceptionTable.toList, covers x pc = false) (hlocks : meth.locks = false) (hcell : H[q]? = some ce) (hv : ce.vm = .none) (hcl : s.vm.findClass E = some ce.cls)
    (hx : ∀ t : State, t.heap = H → s.vm.Alike t.vm → XC E s t) (hf : ∀ z ∈ locs, free z.base) (hc : cells ≤ mc) (hs : slots ≤ ms) :
    vx_W p l e R s m args below meth c H locs cells slots (vx_MQ below Qc XC args s mc ms free) (F0 m pc ls rest) q := by
  intro T hT X
  obtain ⟨st1, hrun, hend, hW, hsm⟩ := X.leaveThrown q (g := F0 m pc ls rest) rfl rfl rfl hout hlocks
  have hcell9 : (T.setFrames (.throwing q :: below)).heap[q]? = some ce := by
    show T.heap[q]? = some ce
    rw [hT]; exact hcell
  exact ⟨_, st1, .threw q, hrun, hend, Or.inr ⟨q, rfl, E, ce, locs, hx _ hT hW.alike, hcell9, hv, hcl, hW, hsm.mono hc hs, hf⟩⟩
theorem vx_frame {U : State} {k n : Nat} (h : s.sameButNew ({ U with vm := s.vm } : State) locs k n) : s.heap.size ≤ U.heap.size ∧ ∀ q : Nat, q < s.heap.size → (∀ z ∈ locs, z.base ≠ q) → U.heap[q]? = s.heap[q]? := by
  obtain ⟨-, h2, -, -, -, h6⟩ := h
  refine ⟨h2, fun q hq hz => ?_⟩
  obtain ⟨c9, e1, e2, e3, e4⟩ := h6 q _ (Array.getElem?_eq_getElem hq)
  have hs : c9.slots = (s.heap[q]).slots := Array.ext_getElem? fun i => e4 i fun hm => hz _ hm rfl
  have h9 : c9 = s.heap[q] := by
    rw [hs] at e2
    exact e2
  have e5 : U.heap[q]? = some c9 := e1
  rw [e5, h9, Array.getElem?_eq_getElem hq]
/-- the words of a throw but the four that speak of the heap -/
def vx_no (w : Cond) : Bool := decide (w ≠ .isRef (.static Bundle.tN "UNASSIGNED_STACK" Bundle.steD)) && decide (w ≠ .isRef (.static Bundle.tN "SUPPRESSED_SENTINEL" Bundle.listD)) && decide (w ≠ .laysStatic Bundle.tN "UNASSIGNED_STACK" Bundle.steD) && decide (w ≠ .laysStatic Bundle.tN "SUPPRESSED_SENTINEL" Bundle.listD)
def vx_at0 (own : String) (ic : Nat) (X : String) (names : List String) : List Cond := (Bundle.ownAtoms0 own ic X names).filter vx_no
def vx_atS (own : String) (ic : Nat) (X : String) (names : List String) : List Cond := (Bundle.ownAtoms own ic X names).filter vx_no
/-- a word that the tables alone decide, or a good one -/
def vx_ot (w : Cond) : Bool := w.onTables || goodWord w
theorem vx_ot_at {args a' : Array Value} {s U : State} {w : Cond} (hW : s.WarmedH U.vm) (hvm : s.vm = U.vm) (hg : vx_ot w = true) (h : w.before args s = true) : w.before a' U = true := by
  simp only [vx_ot, Bool.or_eq_true] at hg
  rcases hg with hg | hg
  · exact va_tabs hg hvm h
  · exact word_at hW (good_of_word hg) h
/-- a list's words: the good ones out of the method's own list, the others by premises of their own -/
theorem vx_hat {args : Array Value} {s : State} {L B : List Cond} (h1 : ∀ w ∈ L.filter goodWord, w.before args s = true) (h2 : ∀ w ∈ L.filter (fun w => !goodWord w), w ∈ B) (h3 : ∀ w ∈ B, w.before args s = true) : ∀ w ∈ L, w.before args s = true := by
  intro w hw
  by_cases g : goodWord w = true
  · exact h1 w (List.mem_filter.mpr ⟨hw, g⟩)
  · refine h3 w (h2 w (List.mem_filter.mpr ⟨hw, ?_⟩))
    show (!goodWord w) = true
    cases hgw : goodWord w
    · rfl
    · exact absurd hgw g
theorem vx_c {args : Array Value} {s : State} {w : Cond} {B : List Cond} (h : w.before args s = true) (t : ∀ w ∈ B, w.before args s = true) : ∀ w' ∈ w :: B, w'.before args s = true := fun w' h' => (List.mem_cons.mp h').elim (fun e => by rw [e]; exact h) (t w')
theorem vx_n {args : Array Value} {s : State} : ∀ w ∈ ([] : List Cond), w.before args s = true := fun _ h => nomatch h
theorem vx_own {args : Array Value} {s : State} {L : List Cond} (h1 : ∀ w ∈ L.filter vx_no, w.before args s = true)
    (hU : (Cond.isRef (.static Bundle.tN "UNASSIGNED_STACK" Bundle.steD)).before args s = true) (hN : (Cond.isRef (.static Bundle.tN "SUPPRESSED_SENTINEL" Bundle.listD)).before args s = true)
    (lU : (Cond.laysStatic Bundle.tN "UNASSIGNED_STACK" Bundle.steD).before args s = true) (lN : (Cond.laysStatic Bundle.tN "SUPPRESSED_SENTINEL" Bundle.listD).before args s = true) : ∀ w ∈ L, w.before args s = true := by
  intro w hw
  by_cases e1 : w = .isRef (.static Bundle.tN "UNASSIGNED_STACK" Bundle.steD)
  · rw [e1]; exact hU
  · by_cases e2 : w = .isRef (.static Bundle.tN "SUPPRESSED_SENTINEL" Bundle.listD)
    · rw [e2]; exact hN
    · by_cases e3 : w = .laysStatic Bundle.tN "UNASSIGNED_STACK" Bundle.steD
      · rw [e3]; exact lU
      · by_cases e4 : w = .laysStatic Bundle.tN "SUPPRESSED_SENTINEL" Bundle.listD
        · rw [e4]; exact lN
        · exact h1 w (List.mem_filter.mpr ⟨hw, by unfold vx_no; rw [decide_eq_true e1, decide_eq_true e2, decide_eq_true e3, decide_eq_true e4]; rfl⟩)
/-- where a static field lies, its class's statics cell in H -/
def vx_L (C n d : String) (A : Nat → Prop) (U : State) (H : Heap) : Prop := ∃ (c : ClassId) (k : Class) (i : Nat) (f : Field) (a : Nat) (cell : Cell), U.vm.findClass C = some c ∧ U.fieldFound? C n d = some (c, k, i, f) ∧ f.isStatic = true ∧ k.statics = some a ∧ H[a]? = some cell ∧ cell.vm.isStatics = true ∧ cell.cls = c ∧ f.slot < cell.slots.size ∧ k.staticTypes[f.slot]? = some f.type ∧ ¬ A a
theorem vx_L.moved {C n d : String} {A : Nat → Prop} {u U : State} {H : Heap} (hvm : u.vm.Alike U.vm) (h : vx_L C n d A u H) : vx_L C n d A U H := by
  obtain ⟨c, k, i, f, a, cell, h1, h2, h3, h4, h5, h6, h7, h8, h9, h10⟩ := h
  obtain ⟨k', hi', he⟩ := State.fieldFound?_setVm hvm h2
  exact ⟨c, k', i, f, a, cell, by rw [hvm.findClass]; exact h1, hi', h3, by rw [he]; exact h4, h5, h6, h7, h8, by rw [he]; exact h9, h10⟩
theorem vx_L.kept {C n d : String} {A : Nat → Prop} {U : State} {H H1 : Heap} (h : vx_L C n d A U H) (hq : ∀ a : Nat, a < H.size → ¬ A a → H1[a]? = H[a]?) : vx_L C n d A U H1 := by
  obtain ⟨c, k, i, f, a, cell, h1, h2, h3, h4, h5, h6, h7, h8, h9, h10⟩ := h
  exact ⟨c, k, i, f, a, cell, h1, h2, h3, h4, by rw [hq a (Array.getElem?_eq_some_iff.mp h5).1 h10]; exact h5, h6, h7, h8, h9, h10⟩
theorem vx_L.narrow {C n d : String} {A B : Nat → Prop} {U : State} {H : Heap} (h : vx_L C n d A U H) (hAB : ∀ q, B q → A q) : vx_L C n d B U H := by
  obtain ⟨c, k, i, f, a, cell, h1, h2, h3, h4, h5, h6, h7, h8, h9, h10⟩ := h
  exact ⟨c, k, i, f, a, cell, h1, h2, h3, h4, h5, h6, h7, h8, h9, fun z => h10 (hAB _ z)⟩
theorem vx_L.word {C n d : String} {A : Nat → Prop} {s : State} {args : Array Value} (h : vx_L C n d A s s.heap) : (Cond.laysStatic C n d).before args s = true := by
  obtain ⟨c, k, i, f, a, cell, h1, h2, h3, h4, h5, h6, h7, h8, h9, -⟩ := h
  show (Cond.laysStatic C n d).holds args s none s [] = true
  exact Cond.laysStatic_of h1 h2 h3 h4 h5 h6 h7 h8 h9
/-- .. and what it holds: null or some reference -/
def vx_Zq (C n d : String) (A : Nat → Prop) (U : State) (H : Heap) : Prop := va_Zq C n d A U H ∧ vx_L C n d A U H
theorem vx_Zq.moved {C n d : String} {A : Nat → Prop} {u U : State} {H : Heap} (hvm : u.vm.Alike U.vm) (h : vx_Zq C n d A u H) : vx_Zq C n d A U H := ⟨va_Zq.moved hvm h.1, vx_L.moved hvm h.2⟩
theorem vx_Zq.kept {C n d : String} {A : Nat → Prop} {U : State} {H H1 : Heap} (h : vx_Zq C n d A U H) (hq : ∀ a : Nat, a < H.size → ¬ A a → H1[a]? = H[a]?) : vx_Zq C n d A U H1 := ⟨va_Zq.kept h.1 hq, vx_L.kept h.2 hq⟩
theorem vx_Zq.narrow {C n d : String} {A B : Nat → Prop} {U : State} {H : Heap} (h : vx_Zq C n d A U H) (hAB : ∀ q, B q → A q) : vx_Zq C n d B U H := ⟨va_Zq.narrow h.1 hAB, vx_L.narrow h.2 hAB⟩
theorem vx_Zqof {args : Array Value} {s : State} {C n d : String} {A : Nat → Prop} (hl : (Cond.laysStatic C n d).before args s = true) (hini : (Cond.initialized C).before args s = true) (h : (Cond.isRef (.static C n d)).before args s = true) (hA : ∀ a : Nat, a < s.heap.size → ¬ A a) : vx_Zq C n d A s s.heap := by
  refine ⟨va_Zqof hl hini h hA, ?_⟩
  obtain ⟨c, k, i, f, a, cell, h1, h2, h3, h4, h5, h6, h7, h8, h9⟩ := Cond.laysStatic_spec hl
  exact ⟨c, k, i, f, a, cell, h1, h2, h3, h4, h5, h6, h7, h8, h9, hA a (Array.getElem?_eq_some_iff.mp h5).1⟩
theorem vx_isRef {C n d : String} {v : Value} {A : Nat → Prop} {s : State} {args : Array Value} (h : va_Z C n d v A s s.heap) (hv : v.isRef = true) : (Cond.isRef (.static C n d)).before args s = true := by
  obtain ⟨cf, kf, fi, f, a, cell, h1, h2, h3, h4, h5, h6, h7, -⟩ := h
  have he : (Term.static C n d).eval args s none [] s = some v := by
    simp [Term.eval, State.fieldNamed?, h1, h2, h4, h5, h6, h7]
  simp only [Cond.before, Cond.holds, Cond.value, he]
  cases v <;> simp_all [Value.isRef]
theorem vx_isRefq {C n d : String} {A : Nat → Prop} {s : State} {args : Array Value} (h : va_Zq C n d A s s.heap) : (Cond.isRef (.static C n d)).before args s = true := by
  rcases h with h | ⟨t, h⟩
  · exact vx_isRef h rfl
  · exact vx_isRef h rfl
/-- the same frame, seen from here: as if the method were called anew in this heap -/
theorem vx_rebase {T : State} (X : Stand p l e R s m args below meth c T locs cells slots) {R' : Room} (hf : R'.frames ≤ R.frames) (hl : R'.locals ≤ R.locals) (hc : cells + R'.cells ≤ R.cells) (hs : slots + R'.slots ≤ R.slots) :
    Stand p l e R' ((T.setVm s.vm).setFrames (.invoking m args :: below)) m args below meth c T [] 0 0 := by
  have htop : (T.setVm s.vm).topJava?.isSome := X.here.top
  have hF : ((T.setVm s.vm).setFrames (.invoking m args :: below)).frames = .invoking m args :: below := State.frames_setFrames _ (State.cur_lt_of_top htop)
  obtain ⟨g₀, hg0⟩ := Option.isSome_iff_exists.mp htop
  obtain ⟨r, hr⟩ := State.topJava?_eq_some.mp hg0
  have hl9 : e.platform.stackLimits (T.setVm s.vm).me = e.platform.stackLimits s.me := X.limits
  have hb9 : (T.setVm s.vm).me.stackBytes = s.me.stackBytes := X.bytes
  refine ⟨X.admits, X.cas, X.clock, hF, ?_, X.hears, X.method, X.code, X.here, X.tail, X.warmed, ?_, ?_, ?_⟩
  · have h := X.room
    have hU : ((T.setVm s.vm).setFrames (.invoking m args :: below)).localsInUse = s.localsInUse := by
      rw [State.localsInUse_invoking hF (meth := meth) (c := c) X.method X.code, State.localsInUse_invoking X.frames X.method X.code]
    simp only [State.hasRoom, Bool.and_eq_true, decide_eq_true_eq] at h ⊢
    obtain ⟨⟨⟨⟨h1, h2, h3, h4, h5, h6⟩, h7⟩, h8⟩, h9⟩ := h
    rw [X.frames, List.length_cons] at h2 h3
    have q1 := X.heapSize
    have q2 := X.used
    simp only [hF, hU, List.length_cons, State.stackLimits_setFrames, State.stackBytes_setFrames, hl9, hb9]
    refine ⟨⟨⟨⟨by omega, by omega, by omega, by omega, by omega, h6⟩, ?_⟩, ?_⟩, X.book⟩
    · show T.heap.size + R'.cells ≤ e.platform.maxCells
      omega
    · show T.slotsUsed + R'.slots ≤ e.platform.maxSlots
      omega
  · rw [State.stackLimits_setFrames]; rfl
  · rw [State.stackBytes_setFrames]; rfl
  · refine ⟨?_, Nat.le_refl _, Nat.le_refl _, ?_, ?_, fun a c9 h9 => ⟨c9, h9, rfl, rfl, fun _ _ => rfl⟩⟩
    · obtain ⟨t, ht, -⟩ := State.frames_cons hr
      show T.setVm s.vm = { ((T.setVm s.vm).setFrames (.invoking m args :: below)).setFrames (T.setVm s.vm).frames with heap := T.heap, slotsUsed := T.slotsUsed }
      rw [State.setFrames_setFrames, State.setFrames_self ht]
      rfl
    · show T.slotsUsed = T.slotsUsed + ((T.heap.toList.drop T.heap.size).map (·.slots.size)).sum
      rw [List.drop_eq_nil_of_le (Nat.le_of_eq Array.length_toList)]
      rfl
    · show ((T.heap.toList.drop T.heap.size).map (·.slots.size)).sum ≤ 0
      rw [List.drop_eq_nil_of_le (Nat.le_of_eq Array.length_toList)]
      exact Nat.le_refl _
/-- 'throw new E()': new; dup; invokespecial; athrow -/
theorem vx_throw0 {cc : ByteArray} {pc : Nat} (hexec : p.tables.exec = Jvm.exec) (hb : c.code = cc) (hl : l.stackTraces = false) {own cls : String} {names : List String} {ik ic mc ms : Nat} {A : Nat → Prop}
    (hown : s.vm.findClass own = some m.cls) (hcls : Bundle.fit cls = true) (hnames : ∀ n ∈ names, Bundle.fit n = true)
    (hk : (Cond.classLink own ik cls).before args s = true) (hini : (Cond.initialized cls).before args s = true) (hat : ∀ w ∈ vx_at0 own ic cls names, w.before args s = true)
    (hgood : ∀ w ∈ Cond.classLink own ik cls :: Cond.initialized cls :: vx_at0 own ic cls names, vx_ot w = true)
    (hU : vx_Zq Bundle.tN "UNASSIGNED_STACK" Bundle.steD A s s.heap) (hN : vx_Zq Bundle.tN "SUPPRESSED_SENTINEL" Bundle.listD A s s.heap) (hS : va_S A s.heap H locs) (hsize : ls.size = c.maxLocals)
    (d0 : decode cc pc = .ok (.new ik, 3)) (d3 : decode cc (pc + 3) = .ok (.dup, 1)) (d4 : decode cc (pc + 4) = .ok (.invokespecial ic, 3)) (d7 : decode cc (pc + 7) = .ok (.athrow, 1))
    (hout : ∀ x ∈ c.exceptionTable.toList, covers x (pc + 7) = false)
    (hRframes : names.length + 3 < R.frames) (hRlocals : (rest.map fun v => v.category).sum + (13 * (names.length + 1) + 42) ≤ R.locals) (hRcells : cells + 1 ≤ R.cells) (hRslots : slots + 6 ≤ R.slots) (hlocks : meth.locks = false)
    (hx : ∀ t : State, s.vm.Alike t.vm → H.size ≤ t.heap.size → (∀ q : Nat, q < H.size → t.heap[q]? = H[q]?) → XC cls s t)
    (hf : ∀ z ∈ locs, free z.base) (hc : cells + 1 ≤ mc) (hs : slots + 6 ≤ ms) :
    W p l e R s m args below meth c H locs cells slots (vx_MQ below Qc XC args s mc ms free) (F0 m pc ls rest) := by
  intro T hT X
  have htr : e.platform.stackTraces = false := (show e.platform.stackTraces = l.stackTraces by rw [X.admits.platform]).trans hl
  have Y := vx_rebase X (R' := { frames := R.frames, locals := R.locals, cells := 1, slots := 6 }) (Nat.le_refl _) (Nat.le_refl _) hRcells hRslots
  obtain ⟨s', hA⟩ : ∃ z, z = (T.setVm s.vm).setFrames (.invoking m args :: below) := ⟨_, rfl⟩
  rw [← hA] at Y
  have hvm : s'.vm = s.vm := by rw [hA]; rfl
  have hhp : s'.heap = H := by rw [hA]; exact hT
  have hW0 : s.WarmedH s'.vm := by rw [hvm]; exact State.WarmedH.refl s
  have hat' : ∀ w ∈ vx_at0 own ic cls names, w.before args s' = true := fun w hw => vx_ot_at hW0 hvm.symm (hgood w (List.mem_cons_of_mem _ (List.mem_cons_of_mem _ hw))) (hat w hw)
  have hk' : (Cond.classLink own ik cls).before args s' = true := vx_ot_at hW0 hvm.symm (hgood _ List.mem_cons_self) hk
  have hini' : (Cond.initialized cls).before args s' = true := vx_ot_at hW0 hvm.symm (hgood _ (List.mem_cons_of_mem _ List.mem_cons_self)) hini
  have hU' : vx_Zq Bundle.tN "UNASSIGNED_STACK" Bundle.steD A s' s'.heap := by rw [hhp]; exact vx_Zq.moved hW0.alike (hU.kept hS.2.1)
  have hN' : vx_Zq Bundle.tN "SUPPRESSED_SENTINEL" Bundle.listD A s' s'.heap := by rw [hhp]; exact vx_Zq.moved hW0.alike (hN.kept hS.2.1)
  have h : ∀ w ∈ Bundle.ownAtoms0 own ic cls names, w.before args s' = true := vx_own hat' (vx_isRefq hU'.1) (vx_isRefq hN'.1) hU'.2.word hN'.2.word
  have hown' : s'.vm.findClass own = some m.cls := by rw [hvm]; exact hown
  have hins : (Cond.instantiable cls 6).before args s' = true := h _ (by simp [Bundle.ownAtoms0])
  obtain ⟨vm₁, cX, kX, hfX, hkX, -, -, X₁, st1⟩ := Y.newCold hexec (own := own) (C := cls) (index := ik) (n := 6) hown' hk' hins hini'
    (g := F0 m pc ls rest) rfl (by rw [hb]; exact d0) (Nat.le_refl _) (Nat.le_refl _)
  generalize hT1 : (T.setVm vm₁).pushCell { cls := cX, slots := kX.instanceTypes.map defaultValue, vm := .none } = T1 at X₁ st1
  have hcat : (Value.ref T.heap.size).category = 1 := rfl
  have hcellA : T1.heap[T.heap.size]? = some (freshCell cX kX) := by rw [← hT1]; exact State.heap_pushCell_size _ _
  have d3' : decode c.code (pc + 3) = .ok (.dup, 1) := by rw [hb]; exact d3
  obtain ⟨U, hsteps, hrun, hend, hW, hsame, ce, hce, hO⟩ := X₁.ctorThrow0 hexec htr (own := own) (cls := cls) (names := names) (ic := ic) hown' hcls hnames h (fun x hx => nomatch hx) hfX hkX hcellA (by rw [hhp, hT]; exact Nat.le_refl _)
    (g := { method := m, pc := pc + 4, locals := ls, stack := .ref T.heap.size :: .ref T.heap.size :: rest, locked := none }) rfl hsize rfl rfl (rest := rest) rfl
    (by rw [hb]; exact d4) (by rw [hb]; exact d7) hout hRframes (by simp only [List.map_cons, List.sum_cons, hcat]; omega) hlocks
  obtain ⟨f1, f2⟩ := vx_frame hsame
  rw [hhp] at f1 f2
  have hWs : s.WarmedH U.vm := State.WarmedH.trans hW0 hW
  have hcl : s.vm.findClass cls = some ce.cls := by
    have h9 := hO.cls
    rw [hvm] at h9
    exact h9
  have hall : s.sameButNew ({ U with vm := s.vm } : State) locs mc ms := by
    subst hA
    obtain ⟨e1, e2⟩ := hsame
    rw [State.setFrames_setFrames] at e1
    have h2 : (T.setVm s.vm).sameButNew ({ U with vm := s.vm } : State) [] (0 + 1) (0 + 6) := ⟨e1, e2⟩
    have h3 := X.same.trans h2
    rw [List.append_nil] at h3
    exact h3.mono hc hs
  refine ⟨U, ?_, .threw T.heap.size, hrun, hend, Or.inr ⟨T.heap.size, rfl, cls, ce, locs, hx U hWs.alike f1 (fun q hq => f2 q hq (fun z hz => nomatch hz)), hce, hO.vm, hcl, hWs, hall, hf⟩⟩
  refine st1 _ ?_
  show Steps p.tables e below (T1.setTop { method := m, pc := pc + 3, locals := ls, stack := .ref T.heap.size :: rest, locked := none }) _
  jvm_step X₁.here [X₁.here.top, hexec, d3', Value.category]
  exact hsteps
/-- 'throw new E("text")': new; dup; ldc; invokespecial; athrow -/
theorem vx_throwS {cc : ByteArray} {pc : Nat} (hexec : p.tables.exec = Jvm.exec) (hb : c.code = cc) (hl : l.stackTraces = false) {own cls text : String} {names : List String} {ik is ic mc ms sa : Nat} {A : Nat → Prop}
    (hown : s.vm.findClass own = some m.cls) (hcls : Bundle.fit cls = true) (hnames : ∀ n ∈ names, Bundle.fit n = true)
    (hk : (Cond.classLink own ik cls).before args s = true) (hini : (Cond.initialized cls).before args s = true) (hstr : vk_R own is text sa s) (hat : ∀ w ∈ vx_atS own ic cls names, w.before args s = true)
    (hgood : ∀ w ∈ Cond.classLink own ik cls :: Cond.initialized cls :: vx_atS own ic cls names, vx_ot w = true)
    (hU : vx_Zq Bundle.tN "UNASSIGNED_STACK" Bundle.steD A s s.heap) (hN : vx_Zq Bundle.tN "SUPPRESSED_SENTINEL" Bundle.listD A s s.heap) (hS : va_S A s.heap H locs) (hsize : ls.size = c.maxLocals)
    (d0 : decode cc pc = .ok (.new ik, 3)) (d3 : decode cc (pc + 3) = .ok (.dup, 1)) (d4 : decode cc (pc + 4) = .ok (.ldc is, 2)) (d6 : decode cc (pc + 6) = .ok (.invokespecial ic, 3)) (d9 : decode cc (pc + 9) = .ok (.athrow, 1))
    (hout : ∀ x ∈ c.exceptionTable.toList, covers x (pc + 9) = false)
    (hRframes : names.length + 3 < R.frames) (hRlocals : (rest.map fun v => v.category).sum + (13 * (names.length + 1) + 43) ≤ R.locals) (hRcells : cells + 1 ≤ R.cells) (hRslots : slots + 6 ≤ R.slots) (hlocks : meth.locks = false)
    (hx : ∀ t : State, s.vm.Alike t.vm → H.size ≤ t.heap.size → (∀ q : Nat, q < H.size → t.heap[q]? = H[q]?) → XC cls s t)
    (hf : ∀ z ∈ locs, free z.base) (hc : cells + 1 ≤ mc) (hs : slots + 6 ≤ ms) :
    W p l e R s m args below meth c H locs cells slots (vx_MQ below Qc XC args s mc ms free) (F0 m pc ls rest) := by
  intro T hT X
  have htr : e.platform.stackTraces = false := (show e.platform.stackTraces = l.stackTraces by rw [X.admits.platform]).trans hl
  have Y := vx_rebase X (R' := { frames := R.frames, locals := R.locals, cells := 1, slots := 6 }) (Nat.le_refl _) (Nat.le_refl _) hRcells hRslots
  obtain ⟨s', hA⟩ : ∃ z, z = (T.setVm s.vm).setFrames (.invoking m args :: below) := ⟨_, rfl⟩
  rw [← hA] at Y
  have hvm : s'.vm = s.vm := by rw [hA]; rfl
  have hhp : s'.heap = H := by rw [hA]; exact hT
  have hW0 : s.WarmedH s'.vm := by rw [hvm]; exact State.WarmedH.refl s
  have hat' : ∀ w ∈ vx_atS own ic cls names, w.before args s' = true := fun w hw => vx_ot_at hW0 hvm.symm (hgood w (List.mem_cons_of_mem _ (List.mem_cons_of_mem _ hw))) (hat w hw)
  have hk' : (Cond.classLink own ik cls).before args s' = true := vx_ot_at hW0 hvm.symm (hgood _ List.mem_cons_self) hk
  have hini' : (Cond.initialized cls).before args s' = true := vx_ot_at hW0 hvm.symm (hgood _ (List.mem_cons_of_mem _ List.mem_cons_self)) hini
  have hU' : vx_Zq Bundle.tN "UNASSIGNED_STACK" Bundle.steD A s' s'.heap := by rw [hhp]; exact vx_Zq.moved hW0.alike (hU.kept hS.2.1)
  have hN' : vx_Zq Bundle.tN "SUPPRESSED_SENTINEL" Bundle.listD A s' s'.heap := by rw [hhp]; exact vx_Zq.moved hW0.alike (hN.kept hS.2.1)
  have h : ∀ w ∈ Bundle.ownAtoms own ic cls names, w.before args s' = true := vx_own hat' (vx_isRefq hU'.1) (vx_isRefq hN'.1) hU'.2.word hN'.2.word
  have hown' : s'.vm.findClass own = some m.cls := by rw [hvm]; exact hown
  have hins : (Cond.instantiable cls 6).before args s' = true := h _ (by simp [Bundle.ownAtoms])
  obtain ⟨vm₁, cX, kX, hfX, hkX, -, -, X₁, st1⟩ := Y.newCold hexec (own := own) (C := cls) (index := ik) (n := 6) hown' hk' hins hini'
    (g := F0 m pc ls rest) rfl (by rw [hb]; exact d0) (Nat.le_refl _) (Nat.le_refl _)
  generalize hT1 : (T.setVm vm₁).pushCell { cls := cX, slots := kX.instanceTypes.map defaultValue, vm := .none } = T1 at X₁ st1
  have hcat : (Value.ref T.heap.size).category = 1 := rfl
  have hcellA : T1.heap[T.heap.size]? = some (freshCell cX kX) := by rw [← hT1]; exact State.heap_pushCell_size _ _
  have d3' : decode c.code (pc + 3) = .ok (.dup, 1) := by rw [hb]; exact d3
  have d4' : decode c.code (pc + 4) = .ok (.ldc is, 2) := by rw [hb]; exact d4
  have hstr' : vk_R own is text sa s' := vk_R.warm hW0 hstr
  obtain ⟨U, hsteps, hrun, hend, hW, hsame, ce, hce, hO⟩ := X₁.ctorThrowS hexec htr (own := own) (cls := cls) (names := names) (ic := ic) hown' hcls hnames h (fun x hx => nomatch hx) hfX hkX hcellA (by rw [hhp, hT]; exact Nat.le_refl _) (msg := .ref sa) rfl
    (g := { method := m, pc := pc + 6, locals := ls, stack := .ref sa :: .ref T.heap.size :: .ref T.heap.size :: rest, locked := none }) rfl hsize rfl rfl (rest := rest) rfl
    (by rw [hb]; exact d6) (by rw [hb]; exact d9) hout hRframes (by simp only [List.map_cons, List.sum_cons, hcat]; omega) hlocks
  obtain ⟨f1, f2⟩ := vx_frame hsame
  rw [hhp] at f1 f2
  have hWs : s.WarmedH U.vm := State.WarmedH.trans hW0 hW
  have hcl : s.vm.findClass cls = some ce.cls := by
    have h9 := hO.cls
    rw [hvm] at h9
    exact h9
  have hall : s.sameButNew ({ U with vm := s.vm } : State) locs mc ms := by
    subst hA
    obtain ⟨e1, e2⟩ := hsame
    rw [State.setFrames_setFrames] at e1
    have h2 : (T.setVm s.vm).sameButNew ({ U with vm := s.vm } : State) [] (0 + 1) (0 + 6) := ⟨e1, e2⟩
    have h3 := X.same.trans h2
    rw [List.append_nil] at h3
    exact h3.mono hc hs
  refine ⟨U, ?_, .threw T.heap.size, hrun, hend, Or.inr ⟨T.heap.size, rfl, cls, ce, locs, hx U hWs.alike f1 (fun q hq => f2 q hq (fun z hz => nomatch hz)), hce, hO.vm, hcl, hWs, hall, hf⟩⟩
  refine st1 _ ?_
  show Steps p.tables e below (T1.setTop { method := m, pc := pc + 3, locals := ls, stack := .ref T.heap.size :: rest, locked := none }) _
  jvm_step X₁.here [X₁.here.top, hexec, d3', Value.category]
  exact X₁.ldcString hexec (own := own) (text := text) (index := is) (a := sa) hown' hstr'.1 hstr'.2
    (g := { method := m, pc := pc + 4, locals := ls, stack := .ref T.heap.size :: .ref T.heap.size :: rest, locked := none }) rfl d4' _ hsteps
/-- 'throw new E("text")', the text by a wide index -/
theorem vx_throwSW {cc : ByteArray} {pc : Nat} (hexec : p.tables.exec = Jvm.exec) (hb : c.code = cc) (hl : l.stackTraces = false) {own cls text : String} {names : List String} {ik is ic mc ms sa : Nat} {A : Nat → Prop}
    (hown : s.vm.findClass own = some m.cls) (hcls : Bundle.fit cls = true) (hnames : ∀ n ∈ names, Bundle.fit n = true)
    (hk : (Cond.classLink own ik cls).before args s = true) (hini : (Cond.initialized cls).before args s = true) (hstr : vk_R own is text sa s) (hat : ∀ w ∈ vx_atS own ic cls names, w.before args s = true)
    (hgood : ∀ w ∈ Cond.classLink own ik cls :: Cond.initialized cls :: vx_atS own ic cls names, vx_ot w = true)
    (hU : vx_Zq Bundle.tN "UNASSIGNED_STACK" Bundle.steD A s s.heap) (hN : vx_Zq Bundle.tN "SUPPRESSED_SENTINEL" Bundle.listD A s s.heap) (hS : va_S A s.heap H locs) (hsize : ls.size = c.maxLocals)
    (d0 : decode cc pc = .ok (.new ik, 3)) (d3 : decode cc (pc + 3) = .ok (.dup, 1)) (d4 : decode cc (pc + 4) = .ok (.ldc_w is, 3)) (d7 : decode cc (pc + 7) = .ok (.invokespecial ic, 3)) (d10 : decode cc (pc + 10) = .ok (.athrow, 1))
    (hout : ∀ x ∈ c.exceptionTable.toList, covers x (pc + 10) = false)
    (hRframes : names.length + 3 < R.frames) (hRlocals : (rest.map fun v => v.category).sum + (13 * (names.length + 1) + 43) ≤ R.locals) (hRcells : cells + 1 ≤ R.cells) (hRslots : slots + 6 ≤ R.slots) (hlocks : meth.locks = false)
    (hx : ∀ t : State, s.vm.Alike t.vm → H.size ≤ t.heap.size → (∀ q : Nat, q < H.size → t.heap[q]? = H[q]?) → XC cls s t)
    (hf : ∀ z ∈ locs, free z.base) (hc : cells + 1 ≤ mc) (hs : slots + 6 ≤ ms) :
    W p l e R s m args below meth c H locs cells slots (vx_MQ below Qc XC args s mc ms free) (F0 m pc ls rest) := by
  intro T hT X
  have htr : e.platform.stackTraces = false := (show e.platform.stackTraces = l.stackTraces by rw [X.admits.platform]).trans hl
  have Y := vx_rebase X (R' := { frames := R.frames, locals := R.locals, cells := 1, slots := 6 }) (Nat.le_refl _) (Nat.le_refl _) hRcells hRslots
  obtain ⟨s', hA⟩ : ∃ z, z = (T.setVm s.vm).setFrames (.invoking m args :: below) := ⟨_, rfl⟩
  rw [← hA] at Y
  have hvm : s'.vm = s.vm := by rw [hA]; rfl
  have hhp : s'.heap = H := by rw [hA]; exact hT
  have hW0 : s.WarmedH s'.vm := by rw [hvm]; exact State.WarmedH.refl s
  have hat' : ∀ w ∈ vx_atS own ic cls names, w.before args s' = true := fun w hw => vx_ot_at hW0 hvm.symm (hgood w (List.mem_cons_of_mem _ (List.mem_cons_of_mem _ hw))) (hat w hw)
  have hk' : (Cond.classLink own ik cls).before args s' = true := vx_ot_at hW0 hvm.symm (hgood _ List.mem_cons_self) hk
  have hini' : (Cond.initialized cls).before args s' = true := vx_ot_at hW0 hvm.symm (hgood _ (List.mem_cons_of_mem _ List.mem_cons_self)) hini
  have hU' : vx_Zq Bundle.tN "UNASSIGNED_STACK" Bundle.steD A s' s'.heap := by rw [hhp]; exact vx_Zq.moved hW0.alike (hU.kept hS.2.1)
  have hN' : vx_Zq Bundle.tN "SUPPRESSED_SENTINEL" Bundle.listD A s' s'.heap := by rw [hhp]; exact vx_Zq.moved hW0.alike (hN.kept hS.2.1)
  have h : ∀ w ∈ Bundle.ownAtoms own ic cls names, w.before args s' = true := vx_own hat' (vx_isRefq hU'.1) (vx_isRefq hN'.1) hU'.2.word hN'.2.word
  have hown' : s'.vm.findClass own = some m.cls := by rw [hvm]; exact hown
  have hins : (Cond.instantiable cls 6).before args s' = true := h _ (by simp [Bundle.ownAtoms])
  obtain ⟨vm₁, cX, kX, hfX, hkX, -, -, X₁, st1⟩ := Y.newCold hexec (own := own) (C := cls) (index := ik) (n := 6) hown' hk' hins hini'
    (g := F0 m pc ls rest) rfl (by rw [hb]; exact d0) (Nat.le_refl _) (Nat.le_refl _)
  generalize hT1 : (T.setVm vm₁).pushCell { cls := cX, slots := kX.instanceTypes.map defaultValue, vm := .none } = T1 at X₁ st1
  have hcat : (Value.ref T.heap.size).category = 1 := rfl
  have hcellA : T1.heap[T.heap.size]? = some (freshCell cX kX) := by rw [← hT1]; exact State.heap_pushCell_size _ _
  have d3' : decode c.code (pc + 3) = .ok (.dup, 1) := by rw [hb]; exact d3
  have d4' : decode c.code (pc + 4) = .ok (.ldc_w is, 3) := by rw [hb]; exact d4
  have hstr' : vk_R own is text sa s' := vk_R.warm hW0 hstr
  obtain ⟨U, hsteps, hrun, hend, hW, hsame, ce, hce, hO⟩ := X₁.ctorThrowS hexec htr (own := own) (cls := cls) (names := names) (ic := ic) hown' hcls hnames h (fun x hx => nomatch hx) hfX hkX hcellA (by rw [hhp, hT]; exact Nat.le_refl _) (msg := .ref sa) rfl
    (g := { method := m, pc := pc + 7, locals := ls, stack := .ref sa :: .ref T.heap.size :: .ref T.heap.size :: rest, locked := none }) rfl hsize rfl rfl (rest := rest) rfl
    (by rw [hb]; exact d7) (by rw [hb]; exact d10) hout hRframes (by simp only [List.map_cons, List.sum_cons, hcat]; omega) hlocks
  obtain ⟨f1, f2⟩ := vx_frame hsame
  rw [hhp] at f1 f2
  have hWs : s.WarmedH U.vm := State.WarmedH.trans hW0 hW
  have hcl : s.vm.findClass cls = some ce.cls := by
    have h9 := hO.cls
    rw [hvm] at h9
    exact h9
  have hall : s.sameButNew ({ U with vm := s.vm } : State) locs mc ms := by
    subst hA
    obtain ⟨e1, e2⟩ := hsame
    rw [State.setFrames_setFrames] at e1
    have h2 : (T.setVm s.vm).sameButNew ({ U with vm := s.vm } : State) [] (0 + 1) (0 + 6) := ⟨e1, e2⟩
    have h3 := X.same.trans h2
    rw [List.append_nil] at h3
    exact h3.mono hc hs
  refine ⟨U, ?_, .threw T.heap.size, hrun, hend, Or.inr ⟨T.heap.size, rfl, cls, ce, locs, hx U hWs.alike f1 (fun q hq => f2 q hq (fun z hz => nomatch hz)), hce, hO.vm, hcl, hWs, hall, hf⟩⟩
  refine st1 _ ?_
  show Steps p.tables e below (T1.setTop { method := m, pc := pc + 3, locals := ls, stack := .ref T.heap.size :: rest, locked := none }) _
  jvm_step X₁.here [X₁.here.top, hexec, d3', Value.category]
  exact X₁.ldcStringW hexec (own := own) (text := text) (index := is) (a := sa) hown' hstr'.1 hstr'.2
    (g := { method := m, pc := pc + 4, locals := ls, stack := .ref T.heap.size :: .ref T.heap.size :: rest, locked := none }) rfl d4' _ hsteps
end Ends
section Bodies
variable {l : Launch}
theorem vx_ofW {y : MethodName} {ws ws' : List Cond} {rm : Room} {Pc : Array Value → State → Prop} {Qc : Array Value → State → Outcome → State → Prop} {XC : String → State → State → Prop} {mc ms : Nat} {free : Addr → Prop} {cc : ByteArray} {maxL : Nat} {ret : Option FieldType}
    (hy : plainName y.cls = true) (hw : ws = Cond.code y cc maxL ret :: ws')
    (body : ∀ p e s m args below meth c s₁, BodyLoose p l y (headSpec ws rm) cc maxL ret e s m args below meth c s₁ → c.maxLocals = maxL → (∀ x ∈ c.exceptionTable.toList, False) → Pc args s →
      W p l e (headSpec ws rm).room s m args below meth c s.heap [] 0 0 (vx_MQ below Qc XC args s mc ms free) (entryFrame m args maxL)) : vx_Met l y ws rm Pc Qc XC mc ms free := by
  refine MetFree.of_bodyS (code := cc) (maxLocals := maxL) (ret := ret) hy ?_ ?_
  · intro args s m h hn
    obtain ⟨meth, c, h1, h2, h3, h4, h5, h6, -, -⟩ := Cond.code_spec hn (atoms_spec (ws := ws) h _ (by rw [hw]; exact List.mem_cons_self))
    exact ⟨meth, c, h1, h2, h3, h4, h5, h6⟩
  · intro p e s m args below meth c s₁ B hml hP _
    have hh0 : s₁.heap = s.heap := by rw [B.state]; rfl
    have ht : ∀ x ∈ c.exceptionTable.toList, False := by
      obtain ⟨meth9, c9, h1, h2, -, -, -, -, h7, -⟩ := Cond.code_spec B.named (atoms_spec (ws := ws) B.pre _ (by rw [hw]; exact List.mem_cons_self))
      cases Option.some.inj (h1.symm.trans B.method)
      cases Option.some.inj (h2.symm.trans (Stand.of_body B).code)
      intro x hx
      rw [Array.isEmpty_iff.mp h7] at hx
      cases hx
    obtain ⟨t, a1, o, b1, b2, b3⟩ := body p e s m args below meth c s₁ B hml ht hP s₁ hh0 (Stand.of_body B)
    exact ⟨t, o, a1, b1, b2, b3⟩
/-- the table of a body with handlers -/
theorem vx_table {p : Program} {x y : MethodName} {S : Spec} {cc bytes : ByteArray} {maxL maxL' : Nat} {ret ret' : Option FieldType} {e : Env} {s s₁ : State} {m : MethodId} {args : Array Value} {below : List Frame} {meth : Method} {c : Code} {hh : List (Nat × Nat × Nat × Nat)}
    (B : BodyLoose p l y S cc maxL ret e s m args below meth c s₁) (h : (Cond.codeWith y bytes maxL' ret' hh).before args s = true) : c.exceptionTable.toList = tableOf hh := by
  obtain ⟨m9, meth9, c9, hn9, h1, h2, -, -, h6, -⟩ := Cond.codeWith_spec h
  cases Option.some.inj (hn9.symm.trans B.named)
  cases Option.some.inj (h1.symm.trans B.method)
  cases Option.some.inj (h2.symm.trans (Stand.of_body B).code)
  rw [← h6, table_eq]
end Bodies
end VXA
/-! ===== END ===== -/
/-! ===== BEGIN a static call of a method with an exception table ===== -/
section VXS
variable {p : Program} {l : Launch} {e : Env} {R : Room} {s : State} {m : MethodId} {args : Array Value} {below : List Frame} {meth : Method} {c : Code} {T : State} {H : Heap} {locs : List Loc} {cells slots : Nat}
abbrev vx_CSW (R : Room) (s : State) (args : Array Value) (own : String) (index : Nat) (y : MethodName) (bytes : ByteArray) (maxL : Nat) (ret : Option FieldType) (hh : List (Nat × Nat × Nat × Nat)) (ws : List Cond) (rm : Room) (mc ms n : Nat) : Prop :=
  (rm.cells = mc ∧ rm.slots = ms ∧ rm.frames + 1 ≤ R.frames ∧ 8 + (maxL + 11) + rm.locals ≤ R.locals ∧ (∀ w ∈ ws, ∀ (a' : Array Value) (U : State), s.WarmedH U.vm → w.before a' U = true) ∧ Cond.codeWith y bytes maxL ret hh ∈ ws) ∧
  (Cond.codeWith y bytes maxL ret hh).before args s = true ∧ (Cond.initialized y.cls).before args s = true ∧ (y.cls ≠ "java/lang/invoke/MethodHandle" ∧ y.cls ≠ "java/lang/invoke/VarHandle") ∧
  (∀ sig, parseMethodDescriptor y.desc = some sig → n = sig.parameters.length) ∧ (Cond.methodLink own index y).before args s = true ∧ (Cond.static y).before args s = true
theorem vx_cwSW {own : String} {index maxL mc ms : Nat} {y : MethodName} {bytes : ByteArray} {ret : Option FieldType} {hh : List (Nat × Nat × Nat × Nat)} {Ts ws ws' : List Cond} {rm : Room} (n : Nat) (ht : ∀ w ∈ Ts, w.before args s = true) (hT : GoodIn Ts (va_wsS own index y ws)) (hw : ws = Cond.codeWith y bytes maxL ret hh :: ws') (hrc : rm.cells = mc) (hrs : rm.slots = ms)
    (hd : y.cls ≠ "java/lang/invoke/MethodHandle" ∧ y.cls ≠ "java/lang/invoke/VarHandle" ∧ (parseMethodDescriptor y.desc).map (fun d => d.parameters.length) = some n) (hR : rm.frames + 1 ≤ R.frames ∧ 8 + (maxL + 11) + rm.locals ≤ R.locals) :
    vx_CSW R s args own index y bytes maxL ret hh ws rm mc ms n := by
  have ok : ∀ w ∈ va_wsS own index y ws, w.before args s = true := fun w h => ht w (hT w h).1
  have hG : GoodIn Ts ws := fun w h => hT w (by unfold va_wsS; exact List.mem_append_right _ h)
  have hc : Cond.codeWith y bytes maxL ret hh ∈ ws := by rw [hw]; exact List.mem_cons_self
  refine ⟨⟨hrc, hrs, hR.1, hR.2, pay_in ht hG, hc⟩, ht _ (hG _ hc).1, ok _ (by simp [va_wsS]), ⟨hd.1, hd.2.1⟩, fun sig h => ?_, ok _ (by simp [va_wsS]), ok _ (by simp [va_wsS])⟩
  have h2 := hd.2.2
  rw [h] at h2
  exact (Option.some.inj h2).symm
theorem vx_callSW (X : Stand p l e R s m args below meth c T locs cells slots) (hexec : p.tables.exec = Jvm.exec) {own : String} {index : Nat} {y : MethodName} {bytes : ByteArray} {maxL : Nat} {ret : Option FieldType} {hh : List (Nat × Nat × Nat × Nat)}
    (hown : s.vm.findClass own = some m.cls) (hlink : (Cond.methodLink own index y).before args s = true) (hstat : (Cond.static y).before args s = true) (hinit : (Cond.initialized y.cls).before args s = true)
    (hcode : (Cond.codeWith y bytes maxL ret hh).before args s = true) (hy : y.cls ≠ "java/lang/invoke/MethodHandle" ∧ y.cls ≠ "java/lang/invoke/VarHandle")
    {W9 : Nat} {Pre : Pt → Array Value → Prop} {Post : Pt → Array Value → Option Value → Pt → Prop} (hK : Back l R p e below s args y 3 W9 Pre Post)
    {g : JFrame} (hg : g.method = m) (hsize : g.locals.size = c.maxLocals) {argsL rest : List Value} (hlen : ∀ sig, parseMethodDescriptor y.desc = some sig → argsL.length = sig.parameters.length)
    (hstack : g.stack = argsL.reverse ++ rest) (hW : 2 * g.monitorRoom + (rest.map fun v => v.category).sum ≤ W9) (hdg : decode c.code g.pc = .ok (.invokestatic index, 3))
    (hpre : ∀ vm₁, s.WarmedH vm₁ → Pre ⟨T.setVm vm₁, locs, cells, slots⟩ argsL.toArray) :
    ∃ (v : Option Value) (vm₁ : Vm) (B : Pt), s.WarmedH vm₁ ∧ Stand p l e R s m args below meth c B.U B.locs B.cells B.slots ∧ Post ⟨T.setVm vm₁, locs, cells, slots⟩ argsL.toArray v B ∧
      ∀ target, Steps p.tables e below (B.U.setTop { g with pc := g.pc + 3, stack := v.toList ++ rest }) target → Steps p.tables e below (T.setTop g) target := by
  obtain ⟨mk, methM, cM, hnamed, hmethM, -, -, -, -, -, -, hsigM⟩ := Cond.codeWith_spec hcode
  have hstatic : methM.isStatic = true := Cond.static_spec hnamed hmethM hstat
  obtain ⟨kP, hkP, -⟩ := className_of_methodNamed hnamed
  have hinitP : kP.init = .initialized := Cond.initialized_spec (findClass_of_methodNamed hnamed) hkP hinit
  obtain ⟨vm₁, X₁, hstep₁⟩ := X.invokestatic hexec hown hlink hnamed hmethM hstatic hkP hinitP hy (g := g) hg (argsL := argsL) (rest := rest) (hlen _ hsigM) hstack hdg
  obtain ⟨v, B, X', hpost, hsteps⟩ := hK m meth c ⟨T.setVm vm₁, locs, cells, slots⟩ { g with stack := rest } (.invokestatic index) mk argsL.toArray X₁ hg hsize hdg hW (X₁.named hnamed) (hpre vm₁ X₁.warmed)
  exact ⟨v, vm₁, B, X₁.warmed, X', hpost, fun target h => hstep₁ _ fun acts => by rw [doInvoke_state]; exact hsteps.trans h⟩
theorem vx_runSW {y : MethodName} {bytes cc : ByteArray} {maxL nL mc ms n index : Nat} {ret : Option FieldType} {hh : List (Nat × Nat × Nat × Nat)} {ws : List Cond} {rm : Room} {Pc : Array Value → State → Prop} {Qc : Array Value → State → Outcome → State → Prop} {free : Addr → Prop} {Ts : List Cond} {own : String} {As rest : List Value} {g : JFrame}
    (S : CallFix p m c cc nL s args Ts own) (hM : Met l y ws rm Pc Qc mc ms free) (cw : vx_CSW R s args own index y bytes maxL ret hh ws rm mc ms n) (hp : PreS s H Pc As)
    (hg : g.method = m) (hn : As.length = n) (hsize : g.locals.size = nL) (hstack : g.stack = As.reverse ++ rest) (hW : 2 * g.monitorRoom + (rest.map fun v => v.category).sum ≤ 8) (hdg : decode cc g.pc = .ok (.invokestatic index, 3)) (hf : cells + mc ≤ R.cells ∧ slots + ms ≤ R.slots) :
    va_Run p l e R s m args below meth c H locs cells slots mc ms g rest (Qc As.toArray) (free) := by
  obtain ⟨⟨hrc, hrs, hfr, hlo, hws, hcw⟩, hcode, hini, hy, hlen, hl, hstt⟩ := cw
  have hK : Back l R p e below s args y 3 8 (PreOf R mc ms Pc) (PostOf Qc mc ms free) := va_backW (hh := hh) (bytes := bytes) (maxL := maxL) (ret := ret) hM hp.1 hrc hrs hfr hlo hws hcw (fun a' U hW => word_at hW (Or.inl (by first | rfl | simp [Cond.onTables, Cond.keeps, Cond.steady])) hini)
  obtain ⟨hx, hb, hml, ho, -⟩ := S
  intro T hT X
  obtain ⟨v, vm₁, ⟨U', l2, c2, s2⟩, hW₁, X', ⟨g', mk, t, L, e1, e2, hq, h1, hL, h2, h3⟩, st⟩ := vx_callSW X hx (hh := hh) (bytes := bytes) (maxL := maxL) (ret := ret) ho hl hstt hini hcode hy hK hg (hsize.trans hml.symm) (argsL := As) (rest := rest) (fun sig h => hn.trans (hlen sig h)) hstack hW (by rw [hb]; exact hdg)
    (fun vm₁ hW₁ => ⟨hf.1, hf.2, hp.2 (T.setVm vm₁) hT hW₁⟩)
  dsimp only [Pt.U, Pt.locs, Pt.cells, Pt.slots] at X' e1 e2 h1 h2 h3 st
  subst h1; subst h2; subst h3
  exact ⟨v, (T.setVm vm₁).calling g' mk As.toArray, t, U', L, hT, X', hL, e1, e2, hq, st⟩
/-- not caught here, past rows that name other classes: it goes on to the caller -/
theorem vx_outP {p : Program} {l : Launch} {e : Env} {R : Room} {s : State} {m : MethodId} {args : Array Value} {below : List Frame} {meth : Method} {c : Code} {H : Heap} {locs : List Loc} {cells slots : Nat} {free : Addr → Prop} {ls : Array Slot} {rest : List Value} {Qc : Array Value → State → Outcome → State → Prop} {XC : String → State → State → Prop}
    {pc : Nat} {own E : String} {ce : Cell} {q : Addr} {mc ms : Nat} (hown : s.vm.findClass own = some m.cls) (hlocks : meth.locks = false)
    (hpass : ∀ z ∈ c.exceptionTable.toList, covers z pc = false ∨ (z.catchType ≠ 0 ∧ ∃ nm : String, (Cond.classLink own z.catchType nm).before args s = true ∧ va_Nc E nm s)) (hcell : H[q]? = some ce) (hv : ce.vm = .none) (hcl : s.vm.findClass E = some ce.cls)
    (hx : ∀ t : State, t.heap = H → s.vm.Alike t.vm → XC E s t) (hf : ∀ z ∈ locs, free z.base) (hc : cells ≤ mc) (hs : slots ≤ ms) :
    vx_W p l e R s m args below meth c H locs cells slots (vx_MQ below Qc XC args s mc ms free) (F0 m pc ls rest) q := by
  intro T hT X
  have hpl : e.platform.magicAccessors = ({} : Platform).magicAccessors := by rw [X.admits.platform]
  obtain ⟨vm', hW', X', st⟩ := X.outThrough hlocks q (g := F0 m pc ls rest) rfl rfl rfl (cell := ce) (by rw [hT]; exact hcell) (by rw [hv]; rfl)
    (by obtain ⟨k9, h9, -⟩ := Vm.findClass_spec hcl; exact ⟨k9, h9⟩) (fun z hz => by
      rcases hpass z hz with h | ⟨hz0, nm, hl1, hn1⟩
      · exact Or.inl h
      · obtain ⟨c6, hc6, hcl6⟩ := Cond.classLink_spec hown hl1 e.platform hpl
        obtain ⟨a8, b8, h1, h2, h3⟩ := hn1
        cases Option.some.inj (h1.symm.trans hcl)
        cases Option.some.inj (h2.symm.trans hc6)
        exact Or.inr ⟨hz0, _, hcl6, h3⟩)
  obtain ⟨g₀, hfr⟩ := X'.frames_eq
  have hcell9 : ((T.setVm vm').setFrames (.throwing q :: below)).heap[q]? = some ce := by
    show T.heap[q]? = some ce
    rw [hT]; exact hcell
  have hend : Ended ((T.setVm vm').setFrames (.throwing q :: below)) below (.threw q) := State.frames_setFrames _ (State.cur_lt_of_frames hfr)
  refine ⟨(T.setVm vm').setFrames (.throwing q :: below), ?_, .threw q, X'.here.running, hend, Or.inr ⟨q, rfl, E, ce, locs, hx _ hT (X'.ends _).1.alike, hcell9, hv, hcl, (X'.ends _).1, (X'.ends _).2.mono hc hs, hf⟩⟩
  rw [X.pushThrowing_eq]
  exact st
/-- a thing of a world lies in the heap -/
theorem vx_lt {D : va_G} {cl : List vw_C} {ws : va_W} {H1 : Heap} (h : va_P D cl ws H1) {k : Nat} {q : Nat × va_E} (hk : ws[k]? = some q) : q.1 < H1.size := (h k q hk).lt
end VXS
/-! ===== END ===== -/
/-! ===== BEGIN methods with a table of their own: called by a name, returning or throwing ===== -/
section VXH
/-! vx_backW, vx_callVX, vx_callSX, vx_callVW, vx_runVW, vx_runVX, vx_runSX, vx_ofWH follow the same proofs as their sisters above (Free/Laws.lean, Shelf42/LK1.lean); vx_outP calls Shelf42/NT130.lean (outThrough). -/
section
variable {l : Launch} {R : Room} {p : Program} {e : Env} {below : List Frame} {s : State} {sargs : Array Value} {y : MethodName} {len W9 : Nat}
theorem vx_backW {ws : List Cond} {rm : Room} {Pc : Array Value → State → Prop} {Qc : Array Value → State → Outcome → State → Prop} {XC : String → State → State → Prop} {mc ms : Nat} {free : Addr → Prop} {bytes : ByteArray} {maxL : Nat} {ret : Option FieldType} {hh : List (Nat × Nat × Nat × Nat)}
    (hM : vx_Met l y ws rm Pc Qc XC mc ms free) (hblind : FrameBlind Pc) (hrc : rm.cells = mc) (hrs : rm.slots = ms)
    (hframes : rm.frames + 1 ≤ R.frames) (hlocals : W9 + (maxL + 11) + rm.locals ≤ R.locals)
    (hws : ∀ w ∈ ws, ∀ a' U, s.WarmedH U.vm → w.before a' U = true) (hcode : Cond.codeWith y bytes maxL ret hh ∈ ws) (hinit : ∀ a' U, s.WarmedH U.vm → (Cond.initialized y.cls).before a' U = true) :
    vx_Back l R p e below s sargs y len W9 (PreOf R mc ms Pc) (PostOf Qc mc ms free) (vx_Post XC mc ms free) := by
  intro m meth c A g ig mk a X hg hsize hdg hW hn hp
  have h1 : (headSpec ws rm).pre.before a A.U = true := atoms_intro fun w hw => hws w hw _ _ X.warmed
  have h2 : (Cond.codeWith y bytes maxL ret hh).before a A.U = true := hws _ hcode _ _ X.warmed
  have h3 : (Cond.initialized y.cls).before a A.U = true := hinit _ _ X.warmed
  have h4 : A.cells + (headSpec ws rm).room.cells ≤ R.cells := by rw [show (headSpec ws rm).room.cells = mc from hrc]; exact hp.1
  have h5 : A.slots + (headSpec ws rm).room.slots ≤ R.slots := by rw [show (headSpec ws rm).room.slots = ms from hrs]; exact hp.2.1
  have hPc : Pc a (A.U.calling g mk a) := hblind _ _ _ _ hp.2.2
  obtain ⟨U, Ls, c0, s0⟩ := A
  dsimp only [Pt.U, Pt.locs, Pt.cells, Pt.slots] at h1 h2 h3 h4 h5 X hn hPc ⊢
  obtain ⟨m9, methY, cY, hn9, hmY, hcY, -, hlY, -⟩ := Cond.codeWith_spec h2
  cases Option.some.inj (hn9.symm.trans hn)
  obtain ⟨kY, hkY, -⟩ := className_of_methodNamed hn
  have hinitY : kY.init = .initialized := Cond.initialized_spec (findClass_of_methodNamed hn) hkY h3
  have h : At U g.method c below := by rw [hg]; exact X.here
  have hlocals9 : W9 + (maxL + 11) + (headSpec ws rm).room.locals ≤ R.locals := hlocals
  have happ : (headSpec ws rm).appliesLoose y e.platform (U.calling g mk a) = true :=
    Spec.appliesLoose_calling (g := g) h hdg hn hkY hinitY
      (X.room_calling (g := g) (R' := (headSpec ws rm).room) hsize hmY hcY hframes (by rw [hlY]; omega) h4 h5) h1
  obtain ⟨mid, hmid⟩ := h.above
  have hfr : (U.setTop g).frames = (.java g :: mid) ++ below := by rw [State.frames_setTop' g h.top, hmid]; rfl
  obtain ⟨o, s₂, hsteps, -, hend, hq⟩ := Steps.callFree hM p X.admits X.cas X.clock (acts := []) hfr happ hPc trivial
  have hq' : vx_Q Qc XC mc ms free a (U.calling g mk a) o s₂ := hq
  rw [State.frames_setTop' g h.top] at hend
  obtain ⟨g₀, hg0⟩ := Option.isSome_iff_exists.mp h.top
  obtain ⟨r, hr⟩ := State.topJava?_eq_some.mp hg0
  have hr' : (({ U with heap := s₂.heap, slotsUsed := s₂.slotsUsed } : State).setVm s₂.vm).frames = .java g₀ :: r := hr
  rcases hq' with ⟨hqc, L, hfe, hL⟩ | ⟨q, rfl, E, ce, L, hx, hce, hcv, hcl, hW₂, hsm, hL⟩
  · obtain ⟨⟨v, rfl⟩, hW₂, e2, q2, q3, q4, q5, q6⟩ := id hfe
    have e3 : s₂ = ({ (U.calling g mk a).setFrames s₂.frames with heap := s₂.heap, slotsUsed := s₂.slotsUsed } : State).setVm s₂.vm := by
      have : s₂ = ({ s₂ with vm := (U.calling g mk a).vm } : State).setVm s₂.vm := rfl
      rw [e2] at this
      exact this
    obtain ⟨c₂, i₂, len₂, hc₂, hd₂, hf₂⟩ := hend
    have hW' : U.WarmedH s₂.vm := hW₂
    have hcc : c₂ = c := by
      have h1 : s₂.code? g.method = U.code? g.method := by
        rw [State.code?_eq, State.code?_eq, hW'.alike.method?]
      exact Option.some.inj (hc₂.symm.trans (h1.trans h.code))
    subst hcc
    have hlen : len₂ = len := by rw [hdg] at hd₂; cases hd₂; rfl
    subst hlen
    have hs₂ : s₂ = (({ U with heap := s₂.heap, slotsUsed := s₂.slotsUsed } : State).setVm s₂.vm).setTop { g with pc := g.pc + len₂, stack := v.toList ++ g.stack } := by
      refine e3.trans ?_
      rw [hf₂, State.calling_eq h.top, State.setFrames_setFrames, State.setTop_of_frames _ hr', hr]
      rfl
    have hsame : U.sameButNew ({ U with heap := s₂.heap, slotsUsed := s₂.slotsUsed } : State) L mc ms := by
      refine ⟨?_, q2, q3, q4, q5, q6⟩
      obtain ⟨t, ht, -⟩ := State.frames_cons hr
      show ({ U with heap := s₂.heap, slotsUsed := s₂.slotsUsed } : State) = { U.setFrames U.frames with heap := s₂.heap, slotsUsed := s₂.slotsUsed }
      rw [State.setFrames_self ht]
    subst hg
    refine Or.inl ⟨v, ⟨(({ U with heap := s₂.heap, slotsUsed := s₂.slotsUsed } : State).setVm s₂.vm), Ls ++ L, c0 + mc, s0 + ms⟩,
      ⟨X.admits, X.cas, X.clock, X.frames, X.room, X.hears, X.method, X.code, (X.here.setHeapUsed s₂.heap s₂.slotsUsed).setVm hW'.alike, X.tail, State.WarmedH.trans X.warmed hW', X.limits, X.bytes, X.same.trans (hsame.setVm s.vm)⟩,
      ⟨g, mk, s₂, L, rfl, rfl, hqc, rfl, hL, rfl, rfl⟩, ?_⟩
    show Steps p.tables e below _ ((({ U with heap := s₂.heap, slotsUsed := s₂.slotsUsed } : State).setVm s₂.vm).setTop { g with pc := g.pc + len₂, stack := v.toList ++ g.stack })
    rw [← hs₂]
    exact hsteps
  · obtain ⟨e2, q2, q3, q4, q5, q6⟩ := id hsm
    have e3 : s₂ = ({ (U.calling g mk a).setFrames s₂.frames with heap := s₂.heap, slotsUsed := s₂.slotsUsed } : State).setVm s₂.vm := by
      have : s₂ = ({ s₂ with vm := (U.calling g mk a).vm } : State).setVm s₂.vm := rfl
      rw [e2] at this
      exact this
    have hf₂ : s₂.frames = .throwing q :: .java g :: U.frames.tail := hend
    have hW' : U.WarmedH s₂.vm := hW₂
    have hs₂ : s₂ = ((({ U with heap := s₂.heap, slotsUsed := s₂.slotsUsed } : State).setVm s₂.vm).setTop g).pushFrame (.throwing q) := by
      refine e3.trans ?_
      rw [hf₂, State.calling_eq h.top, State.setFrames_setFrames, State.pushFrame, State.frames_setTop _ hr', State.setTop_of_frames _ hr', State.setFrames_setFrames, hr]
      rfl
    have hsame : U.sameButNew ({ U with heap := s₂.heap, slotsUsed := s₂.slotsUsed } : State) L mc ms := by
      refine ⟨?_, q2, q3, q4, q5, q6⟩
      obtain ⟨t, ht, -⟩ := State.frames_cons hr
      show ({ U with heap := s₂.heap, slotsUsed := s₂.slotsUsed } : State) = { U.setFrames U.frames with heap := s₂.heap, slotsUsed := s₂.slotsUsed }
      rw [State.setFrames_self ht]
    subst hg
    refine Or.inr ⟨q, ⟨(({ U with heap := s₂.heap, slotsUsed := s₂.slotsUsed } : State).setVm s₂.vm), Ls ++ L, c0 + mc, s0 + ms⟩,
      ⟨X.admits, X.cas, X.clock, X.frames, X.room, X.hears, X.method, X.code, (X.here.setHeapUsed s₂.heap s₂.slotsUsed).setVm hW'.alike, X.tail, State.WarmedH.trans X.warmed hW', X.limits, X.bytes, X.same.trans (hsame.setVm s.vm)⟩,
      ⟨g, mk, s₂, L, E, ce, rfl, rfl, hx, hce, hcv, hcl, rfl, hL, rfl, rfl⟩, ?_⟩
    show Steps p.tables e below _ (((({ U with heap := s₂.heap, slotsUsed := s₂.slotsUsed } : State).setVm s₂.vm).setTop g).pushFrame (.throwing q))
    rw [← hs₂]
    exact hsteps
end
variable {p : Program} {l : Launch} {e : Env} {R : Room} {s : State} {m : MethodId} {args : Array Value} {below : List Frame} {meth : Method} {c : Code} {T : State} {H : Heap} {locs : List Loc} {cells slots : Nat}
theorem vx_callVX (X : Stand p l e R s m args below meth c T locs cells slots) (hexec : p.tables.exec = Jvm.exec) {own C : String} {index : Nat} {y : MethodName} {bytes : ByteArray} {maxL : Nat} {ret : Option FieldType} {hh : List (Nat × Nat × Nat × Nat)}
    (hown : s.vm.findClass own = some m.cls) (hlink : (Cond.methodLink own index y).before args s = true) (hinst : (Cond.instanceMethod y).before args s = true) (hsel : (Cond.selects C y y).before args s = true)
    (hcode : (Cond.codeWith y bytes maxL ret hh).before args s = true) (hy : y.cls ≠ "java/lang/invoke/MethodHandle" ∧ y.cls ≠ "java/lang/invoke/VarHandle")
    {W9 : Nat} {Pre : Pt → Array Value → Prop} {Post : Pt → Array Value → Option Value → Pt → Prop} {PostX : Pt → Array Value → Addr → Pt → Prop} (hK : vx_Back l R p e below s args y 3 W9 Pre Post PostX)
    {b : Addr} {cellB : Cell} (hcell : T.heap[b]? = some cellB) (hobj : cellB.vm.isStatics = false) (hcls : s.vm.findClass C = some cellB.cls)
    {g : JFrame} (hg : g.method = m) (hsize : g.locals.size = c.maxLocals) {argsL rest : List Value} (hlen : ∀ sig, parseMethodDescriptor y.desc = some sig → argsL.length = sig.parameters.length)
    (hstack : g.stack = argsL.reverse ++ .ref b :: rest) (hW : 2 * g.monitorRoom + (rest.map fun v => v.category).sum ≤ W9) (hdg : decode c.code g.pc = .ok (.invokevirtual index, 3))
    (hpre : ∀ vm₁, s.WarmedH vm₁ → Pre ⟨T.setVm vm₁, locs, cells, slots⟩ (Value.ref b :: argsL).toArray) :
    (∃ (v : Option Value) (vm₁ : Vm) (B : Pt), s.WarmedH vm₁ ∧ Stand p l e R s m args below meth c B.U B.locs B.cells B.slots ∧ Post ⟨T.setVm vm₁, locs, cells, slots⟩ (Value.ref b :: argsL).toArray v B ∧
      ∀ target, Steps p.tables e below (B.U.setTop { g with pc := g.pc + 3, stack := v.toList ++ rest }) target → Steps p.tables e below (T.setTop g) target) ∨
    (∃ (q : Addr) (vm₁ : Vm) (B : Pt), s.WarmedH vm₁ ∧ Stand p l e R s m args below meth c B.U B.locs B.cells B.slots ∧ PostX ⟨T.setVm vm₁, locs, cells, slots⟩ (Value.ref b :: argsL).toArray q B ∧
      Steps p.tables e below (T.setTop g) ((B.U.setTop { g with stack := rest }).pushFrame (.throwing q))) := by
  obtain ⟨mk, methM, hnamed, hmethM, hstM, habM⟩ := Cond.instanceMethod_spec hinst
  obtain ⟨m8, methM', cM, hn8, hmethM', -, -, -, -, -, -, hsigM⟩ := Cond.codeWith_spec hcode
  cases Option.some.inj (hn8.symm.trans hnamed)
  cases hmethM.symm.trans hmethM'
  obtain ⟨c2, r2, m2, q1, q2, q3, q4, kP, hkP, hkPi⟩ := Cond.selects_spec hsel
  cases hcls.symm.trans q1
  cases (State.methodFound?_of_named hnamed hy).symm.trans q2
  cases hnamed.symm.trans q3
  have hselP : selectMethod e.platform s.vm cellB.cls mk = .method mk := by rw [Launch.admits_selectMethod X.admits]; exact q4
  obtain ⟨vm₁, X₁, hstep₁⟩ := X.invokevirtual hexec hown hlink hnamed hmethM hstM hkP hkPi hy (a := b) (cell := cellB) hcell
    (fun z h => by rw [h] at hobj; cases hobj) hselP hmethM habM hkP hkPi (g := g) hg (argsL := argsL) (rest := rest) (hlen _ hsigM) hstack hdg
  rcases hK m meth c ⟨T.setVm vm₁, locs, cells, slots⟩ { g with stack := rest } (.invokevirtual index) mk (Value.ref b :: argsL).toArray X₁ hg hsize hdg hW (X₁.named hnamed) (hpre vm₁ X₁.warmed) with ⟨v, B, X', hpost, hsteps⟩ | ⟨q, B, X', hpost, hsteps⟩
  · exact Or.inl ⟨v, vm₁, B, X₁.warmed, X', hpost, fun target h => hstep₁ _ fun acts => by rw [doInvoke_state]; exact hsteps.trans h⟩
  · exact Or.inr ⟨q, vm₁, B, X₁.warmed, X', hpost, hstep₁ _ fun acts => by rw [doInvoke_state]; exact hsteps⟩
theorem vx_callSX (X : Stand p l e R s m args below meth c T locs cells slots) (hexec : p.tables.exec = Jvm.exec) {own : String} {index : Nat} {y : MethodName} {bytes : ByteArray} {maxL : Nat} {ret : Option FieldType} {hh : List (Nat × Nat × Nat × Nat)}
    (hown : s.vm.findClass own = some m.cls) (hlink : (Cond.methodLink own index y).before args s = true) (hstat : (Cond.static y).before args s = true) (hinit : (Cond.initialized y.cls).before args s = true)
    (hcode : (Cond.codeWith y bytes maxL ret hh).before args s = true) (hy : y.cls ≠ "java/lang/invoke/MethodHandle" ∧ y.cls ≠ "java/lang/invoke/VarHandle")
    {W9 : Nat} {Pre : Pt → Array Value → Prop} {Post : Pt → Array Value → Option Value → Pt → Prop} {PostX : Pt → Array Value → Addr → Pt → Prop} (hK : vx_Back l R p e below s args y 3 W9 Pre Post PostX)
    {g : JFrame} (hg : g.method = m) (hsize : g.locals.size = c.maxLocals) {argsL rest : List Value} (hlen : ∀ sig, parseMethodDescriptor y.desc = some sig → argsL.length = sig.parameters.length)
    (hstack : g.stack = argsL.reverse ++ rest) (hW : 2 * g.monitorRoom + (rest.map fun v => v.category).sum ≤ W9) (hdg : decode c.code g.pc = .ok (.invokestatic index, 3))
    (hpre : ∀ vm₁, s.WarmedH vm₁ → Pre ⟨T.setVm vm₁, locs, cells, slots⟩ argsL.toArray) :
    (∃ (v : Option Value) (vm₁ : Vm) (B : Pt), s.WarmedH vm₁ ∧ Stand p l e R s m args below meth c B.U B.locs B.cells B.slots ∧ Post ⟨T.setVm vm₁, locs, cells, slots⟩ argsL.toArray v B ∧
      ∀ target, Steps p.tables e below (B.U.setTop { g with pc := g.pc + 3, stack := v.toList ++ rest }) target → Steps p.tables e below (T.setTop g) target) ∨
    (∃ (q : Addr) (vm₁ : Vm) (B : Pt), s.WarmedH vm₁ ∧ Stand p l e R s m args below meth c B.U B.locs B.cells B.slots ∧ PostX ⟨T.setVm vm₁, locs, cells, slots⟩ argsL.toArray q B ∧
      Steps p.tables e below (T.setTop g) ((B.U.setTop { g with stack := rest }).pushFrame (.throwing q))) := by
  obtain ⟨mk, methM, cM, hnamed, hmethM, -, -, -, -, -, -, hsigM⟩ := Cond.codeWith_spec hcode
  have hstatic : methM.isStatic = true := Cond.static_spec hnamed hmethM hstat
  obtain ⟨kP, hkP, -⟩ := className_of_methodNamed hnamed
  have hinitP : kP.init = .initialized := Cond.initialized_spec (findClass_of_methodNamed hnamed) hkP hinit
  obtain ⟨vm₁, X₁, hstep₁⟩ := X.invokestatic hexec hown hlink hnamed hmethM hstatic hkP hinitP hy (g := g) hg (argsL := argsL) (rest := rest) (hlen _ hsigM) hstack hdg
  rcases hK m meth c ⟨T.setVm vm₁, locs, cells, slots⟩ { g with stack := rest } (.invokestatic index) mk argsL.toArray X₁ hg hsize hdg hW (X₁.named hnamed) (hpre vm₁ X₁.warmed) with ⟨v, B, X', hpost, hsteps⟩ | ⟨q, B, X', hpost, hsteps⟩
  · exact Or.inl ⟨v, vm₁, B, X₁.warmed, X', hpost, fun target h => hstep₁ _ fun acts => by rw [doInvoke_state]; exact hsteps.trans h⟩
  · exact Or.inr ⟨q, vm₁, B, X₁.warmed, X', hpost, hstep₁ _ fun acts => by rw [doInvoke_state]; exact hsteps⟩
theorem vx_callVW (X : Stand p l e R s m args below meth c T locs cells slots) (hexec : p.tables.exec = Jvm.exec) {own C : String} {index : Nat} {y : MethodName} {bytes : ByteArray} {maxL : Nat} {ret : Option FieldType} {hh : List (Nat × Nat × Nat × Nat)}
    (hown : s.vm.findClass own = some m.cls) (hlink : (Cond.methodLink own index y).before args s = true) (hinst : (Cond.instanceMethod y).before args s = true) (hsel : (Cond.selects C y y).before args s = true)
    (hcode : (Cond.codeWith y bytes maxL ret hh).before args s = true) (hy : y.cls ≠ "java/lang/invoke/MethodHandle" ∧ y.cls ≠ "java/lang/invoke/VarHandle")
    {W9 : Nat} {Pre : Pt → Array Value → Prop} {Post : Pt → Array Value → Option Value → Pt → Prop} (hK : Back l R p e below s args y 3 W9 Pre Post)
    {b : Addr} {cellB : Cell} (hcell : T.heap[b]? = some cellB) (hobj : cellB.vm.isStatics = false) (hcls : s.vm.findClass C = some cellB.cls)
    {g : JFrame} (hg : g.method = m) (hsize : g.locals.size = c.maxLocals) {argsL rest : List Value} (hlen : ∀ sig, parseMethodDescriptor y.desc = some sig → argsL.length = sig.parameters.length)
    (hstack : g.stack = argsL.reverse ++ .ref b :: rest) (hW : 2 * g.monitorRoom + (rest.map fun v => v.category).sum ≤ W9) (hdg : decode c.code g.pc = .ok (.invokevirtual index, 3))
    (hpre : ∀ vm₁, s.WarmedH vm₁ → Pre ⟨T.setVm vm₁, locs, cells, slots⟩ (Value.ref b :: argsL).toArray) :
    ∃ (v : Option Value) (vm₁ : Vm) (B : Pt), s.WarmedH vm₁ ∧ Stand p l e R s m args below meth c B.U B.locs B.cells B.slots ∧ Post ⟨T.setVm vm₁, locs, cells, slots⟩ (Value.ref b :: argsL).toArray v B ∧
      ∀ target, Steps p.tables e below (B.U.setTop { g with pc := g.pc + 3, stack := v.toList ++ rest }) target → Steps p.tables e below (T.setTop g) target := by
  obtain ⟨mk, methM, hnamed, hmethM, hstM, habM⟩ := Cond.instanceMethod_spec hinst
  obtain ⟨m8, methM', cM, hn8, hmethM', -, -, -, -, -, -, hsigM⟩ := Cond.codeWith_spec hcode
  cases Option.some.inj (hn8.symm.trans hnamed)
  cases hmethM.symm.trans hmethM'
  obtain ⟨c2, r2, m2, q1, q2, q3, q4, kP, hkP, hkPi⟩ := Cond.selects_spec hsel
  cases hcls.symm.trans q1
  cases (State.methodFound?_of_named hnamed hy).symm.trans q2
  cases hnamed.symm.trans q3
  have hselP : selectMethod e.platform s.vm cellB.cls mk = .method mk := by rw [Launch.admits_selectMethod X.admits]; exact q4
  obtain ⟨vm₁, X₁, hstep₁⟩ := X.invokevirtual hexec hown hlink hnamed hmethM hstM hkP hkPi hy (a := b) (cell := cellB) hcell
    (fun z h => by rw [h] at hobj; cases hobj) hselP hmethM habM hkP hkPi (g := g) hg (argsL := argsL) (rest := rest) (hlen _ hsigM) hstack hdg
  obtain ⟨v, B, X', hpost, hsteps⟩ := hK m meth c ⟨T.setVm vm₁, locs, cells, slots⟩ { g with stack := rest } (.invokevirtual index) mk (Value.ref b :: argsL).toArray X₁ hg hsize hdg hW (X₁.named hnamed) (hpre vm₁ X₁.warmed)
  exact ⟨v, vm₁, B, X₁.warmed, X', hpost, fun target h => hstep₁ _ fun acts => by rw [doInvoke_state]; exact hsteps.trans h⟩
abbrev vx_CVW (R : Room) (s : State) (args : Array Value) (own C : String) (index : Nat) (y : MethodName) (bytes : ByteArray) (maxL : Nat) (ret : Option FieldType) (hh : List (Nat × Nat × Nat × Nat)) (ws : List Cond) (rm : Room) (mc ms n : Nat) : Prop :=
  (rm.cells = mc ∧ rm.slots = ms ∧ rm.frames + 1 ≤ R.frames ∧ 8 + (maxL + 11) + rm.locals ≤ R.locals ∧ (∀ w ∈ ws, ∀ (a' : Array Value) (U : State), s.WarmedH U.vm → w.before a' U = true) ∧ Cond.codeWith y bytes maxL ret hh ∈ ws) ∧
  (Cond.codeWith y bytes maxL ret hh).before args s = true ∧ (Cond.initialized y.cls).before args s = true ∧ (y.cls ≠ "java/lang/invoke/MethodHandle" ∧ y.cls ≠ "java/lang/invoke/VarHandle") ∧
  (∀ sig, parseMethodDescriptor y.desc = some sig → n = sig.parameters.length) ∧ (Cond.methodLink own index y).before args s = true ∧ (Cond.instanceMethod y).before args s = true ∧ (Cond.selects C y y).before args s = true
theorem vx_cwVW {own C : String} {index maxL mc ms : Nat} {y : MethodName} {bytes : ByteArray} {ret : Option FieldType} {hh : List (Nat × Nat × Nat × Nat)} {Ts ws ws' : List Cond} {rm : Room} (n : Nat) (ht : ∀ w ∈ Ts, w.before args s = true) (hT : GoodIn Ts (wsV own index C y ws)) (hw : ws = Cond.codeWith y bytes maxL ret hh :: ws') (hrc : rm.cells = mc) (hrs : rm.slots = ms)
    (hd : y.cls = C ∧ y.cls ≠ "java/lang/invoke/MethodHandle" ∧ y.cls ≠ "java/lang/invoke/VarHandle" ∧ (parseMethodDescriptor y.desc).map (fun d => d.parameters.length) = some n) (hR : rm.frames + 1 ≤ R.frames ∧ 8 + (maxL + 11) + rm.locals ≤ R.locals) :
    vx_CVW R s args own C index y bytes maxL ret hh ws rm mc ms n := by
  obtain ⟨hC, hd⟩ := hd
  subst hC
  have ok : ∀ w ∈ wsV own index y.cls y ws, w.before args s = true := fun w h => ht w (hT w h).1
  have hG : GoodIn Ts ws := fun w h => hT w (by unfold wsV; exact List.mem_append_right _ h)
  have hc : Cond.codeWith y bytes maxL ret hh ∈ ws := by rw [hw]; exact List.mem_cons_self
  refine ⟨⟨hrc, hrs, hR.1, hR.2, pay_in ht hG, hc⟩, ht _ (hG _ hc).1, ok _ (by simp [wsV]), ⟨hd.1, hd.2.1⟩, fun sig h => ?_, ok _ (by simp [wsV]), ok _ (by simp [wsV]), ok _ (by simp [wsV])⟩
  have h2 := hd.2.2
  rw [h] at h2
  exact (Option.some.inj h2).symm
theorem vx_runVW {y : MethodName} {bytes cc : ByteArray} {maxL nL mc ms n index : Nat} {ret : Option FieldType} {hh : List (Nat × Nat × Nat × Nat)} {ws : List Cond} {rm : Room} {Pc : Array Value → State → Prop} {Qc : Array Value → State → Outcome → State → Prop} {free : Addr → Prop} {Ts : List Cond} {own C : String} {b : Addr} {As rest : List Value} {g : JFrame}
    (S : CallFix p m c cc nL s args Ts own) (hM : Met l y ws rm Pc Qc mc ms free) (cw : vx_CVW R s args own C index y bytes maxL ret hh ws rm mc ms n) (hp : PreV s H C b Pc As)
    (hg : g.method = m) (hn : As.length = n) (hsize : g.locals.size = nL) (hstack : g.stack = As.reverse ++ .ref b :: rest) (hW : 2 * g.monitorRoom + (rest.map fun v => v.category).sum ≤ 8) (hdg : decode cc g.pc = .ok (.invokevirtual index, 3)) (hf : cells + mc ≤ R.cells ∧ slots + ms ≤ R.slots) :
    va_Run p l e R s m args below meth c H locs cells slots mc ms g rest (Qc (Value.ref b :: As).toArray) free := by
  obtain ⟨⟨hrc, hrs, hfr, hlo, hws, hcw⟩, hcode, hini, hy, hlen, hl, hin, hse⟩ := cw
  have hK : Back l R p e below s args y 3 8 (PreOf R mc ms Pc) (PostOf Qc mc ms free) := va_backW (hh := hh) (bytes := bytes) (maxL := maxL) (ret := ret) hM hp.1 hrc hrs hfr hlo hws hcw (fun a' U hW => word_at hW (Or.inl (by first | rfl | simp [Cond.onTables, Cond.keeps, Cond.steady])) hini)
  obtain ⟨hx, hb, hml, ho, -⟩ := S
  obtain ⟨-, ⟨cellB, hcB, hoB, hclB⟩, hPc⟩ := hp
  intro T hT X
  obtain ⟨v, vm₁, ⟨U', l2, c2, s2⟩, hW₁, X', ⟨g', mk, t, L, e1, e2, hq, h1, hL, h2, h3⟩, st⟩ := vx_callVW X hx (C := C) (hh := hh) (bytes := bytes) (maxL := maxL) (ret := ret) ho hl hin hse hcode hy hK (by rw [hT]; exact hcB) hoB hclB hg (hsize.trans hml.symm) (argsL := As) (rest := rest) (fun sig h => hn.trans (hlen sig h)) hstack hW (by rw [hb]; exact hdg)
    (fun vm₁ hW₁ => ⟨hf.1, hf.2, hPc (T.setVm vm₁) hT hW₁⟩)
  dsimp only [Pt.U, Pt.locs, Pt.cells, Pt.slots] at X' e1 e2 h1 h2 h3 st
  subst h1; subst h2; subst h3
  exact ⟨v, (T.setVm vm₁).calling g' mk (Value.ref b :: As).toArray, t, U', L, hT, X', hL, e1, e2, hq, st⟩
section
variable {y : MethodName} {bytes cc : ByteArray} {maxL nL mc ms n index : Nat} {ret : Option FieldType} {ws : List Cond} {rm : Room} {Pc : Array Value → State → Prop} {Qc : Array Value → State → Outcome → State → Prop} {XC : String → State → State → Prop} {free : Addr → Prop} {Ts : List Cond} {own C : String} {b : Addr} {As rest : List Value} {g : JFrame}
theorem vx_runVX {hh : List (Nat × Nat × Nat × Nat)} (S : CallFix p m c cc nL s args Ts own) (hM : vx_Met l y ws rm Pc Qc XC mc ms free) (cw : vx_CVW R s args own C index y bytes maxL ret hh ws rm mc ms n) (hp : PreV s H C b Pc As)
    (hg : g.method = m) (hn : As.length = n) (hsize : g.locals.size = nL) (hstack : g.stack = As.reverse ++ .ref b :: rest) (hW : 2 * g.monitorRoom + (rest.map fun v => v.category).sum ≤ 8) (hdg : decode cc g.pc = .ok (.invokevirtual index, 3)) (hf : cells + mc ≤ R.cells ∧ slots + ms ≤ R.slots) :
    vx_Run p l e R s m args below meth c H locs cells slots mc ms g rest (Qc (Value.ref b :: As).toArray) XC free := by
  obtain ⟨⟨hrc, hrs, hfr, hlo, hws, hcw⟩, hcode, hini, hy, hlen, hl, hin, hse⟩ := cw
  have hK : vx_Back l R p e below s args y 3 8 (PreOf R mc ms Pc) (PostOf Qc mc ms free) (vx_Post XC mc ms free) := vx_backW (hh := hh) (bytes := bytes) (maxL := maxL) (ret := ret) hM hp.1 hrc hrs hfr hlo hws hcw (fun a' U hW => word_at hW (Or.inl (by first | rfl | simp [Cond.onTables, Cond.keeps, Cond.steady])) hini)
  obtain ⟨hx, hb, hml, ho, -⟩ := S
  obtain ⟨-, ⟨cellB, hcB, hoB, hclB⟩, hPc⟩ := hp
  intro T hT X
  rcases vx_callVX X hx (C := C) (hh := hh) (bytes := bytes) (maxL := maxL) (ret := ret) ho hl hin hse hcode hy hK (by rw [hT]; exact hcB) hoB hclB hg (hsize.trans hml.symm) (argsL := As) (rest := rest) (fun sig h => hn.trans (hlen sig h)) hstack hW (by rw [hb]; exact hdg)
    (fun vm₁ hW₁ => ⟨hf.1, hf.2, hPc (T.setVm vm₁) hT hW₁⟩) with ⟨v, vm₁, ⟨U', l2, c2, s2⟩, hW₁, X', ⟨g', mk, t, L, e1, e2, hq, h1, hL, h2, h3⟩, st⟩ | ⟨q, vm₁, ⟨U', l2, c2, s2⟩, hW₁, X', ⟨g', mk, t, L, E, ce, e1, e2, hq, hce, hcv, hcl, h1, hL, h2, h3⟩, st⟩
  · dsimp only [Pt.U, Pt.locs, Pt.cells, Pt.slots] at X' e1 e2 h1 h2 h3 st
    subst h1; subst h2; subst h3
    exact Or.inl ⟨v, (T.setVm vm₁).calling g' mk (Value.ref b :: As).toArray, t, U', L, hT, X', hL, e1, e2, hq, st⟩
  · dsimp only [Pt.U, Pt.locs, Pt.cells, Pt.slots] at X' e1 e2 h1 h2 h3 st hcl
    subst h1; subst h2; subst h3
    exact Or.inr ⟨q, (T.setVm vm₁).calling g' mk (Value.ref b :: As).toArray, t, U', L, E, ce, hT, X', hL, e1, e2, hq, hce, hcv, vx_cls hW₁ hcl, st⟩
theorem vx_runSX {hh : List (Nat × Nat × Nat × Nat)} (S : CallFix p m c cc nL s args Ts own) (hM : vx_Met l y ws rm Pc Qc XC mc ms free) (cw : vx_CSW R s args own index y bytes maxL ret hh ws rm mc ms n) (hp : PreS s H Pc As)
    (hg : g.method = m) (hn : As.length = n) (hsize : g.locals.size = nL) (hstack : g.stack = As.reverse ++ rest) (hW : 2 * g.monitorRoom + (rest.map fun v => v.category).sum ≤ 8) (hdg : decode cc g.pc = .ok (.invokestatic index, 3)) (hf : cells + mc ≤ R.cells ∧ slots + ms ≤ R.slots) :
    vx_Run p l e R s m args below meth c H locs cells slots mc ms g rest (Qc As.toArray) XC free := by
  obtain ⟨⟨hrc, hrs, hfr, hlo, hws, hcw⟩, hcode, hini, hy, hlen, hl, hstt⟩ := cw
  have hK : vx_Back l R p e below s args y 3 8 (PreOf R mc ms Pc) (PostOf Qc mc ms free) (vx_Post XC mc ms free) := vx_backW (hh := hh) (bytes := bytes) (maxL := maxL) (ret := ret) hM hp.1 hrc hrs hfr hlo hws hcw (fun a' U hW => word_at hW (Or.inl (by first | rfl | simp [Cond.onTables, Cond.keeps, Cond.steady])) hini)
  obtain ⟨hx, hb, hml, ho, -⟩ := S
  intro T hT X
  rcases vx_callSX X hx (hh := hh) (bytes := bytes) (maxL := maxL) (ret := ret) ho hl hstt hini hcode hy hK hg (hsize.trans hml.symm) (argsL := As) (rest := rest) (fun sig h => hn.trans (hlen sig h)) hstack hW (by rw [hb]; exact hdg)
    (fun vm₁ hW₁ => ⟨hf.1, hf.2, hp.2 (T.setVm vm₁) hT hW₁⟩) with ⟨v, vm₁, ⟨U', l2, c2, s2⟩, hW₁, X', ⟨g', mk, t, L, e1, e2, hq, h1, hL, h2, h3⟩, st⟩ | ⟨q, vm₁, ⟨U', l2, c2, s2⟩, hW₁, X', ⟨g', mk, t, L, E, ce, e1, e2, hq, hce, hcv, hcl, h1, hL, h2, h3⟩, st⟩
  · dsimp only [Pt.U, Pt.locs, Pt.cells, Pt.slots] at X' e1 e2 h1 h2 h3 st
    subst h1; subst h2; subst h3
    exact Or.inl ⟨v, (T.setVm vm₁).calling g' mk As.toArray, t, U', L, hT, X', hL, e1, e2, hq, st⟩
  · dsimp only [Pt.U, Pt.locs, Pt.cells, Pt.slots] at X' e1 e2 h1 h2 h3 st hcl
    subst h1; subst h2; subst h3
    exact Or.inr ⟨q, (T.setVm vm₁).calling g' mk As.toArray, t, U', L, E, ce, hT, X', hL, e1, e2, hq, hce, hcv, vx_cls hW₁ hcl, st⟩
end
end VXH
theorem vx_ofWH {l : Launch} {y : MethodName} {ws ws' : List Cond} {rm : Room} {Pc : Array Value → State → Prop} {Qc : Array Value → State → Outcome → State → Prop} {XC : String → State → State → Prop} {mc ms : Nat} {free : Addr → Prop} {cc : ByteArray} {maxL : Nat} {ret : Option FieldType} {hh : List (Nat × Nat × Nat × Nat)}
    (hy : plainName y.cls = true) (hw : ws = Cond.codeWith y cc maxL ret hh :: ws')
    (body : ∀ p e s m args below meth c s₁, BodyLoose p l y (headSpec ws rm) cc maxL ret e s m args below meth c s₁ → c.maxLocals = maxL → Pc args s →
      W p l e (headSpec ws rm).room s m args below meth c s.heap [] 0 0 (vx_MQ below Qc XC args s mc ms free) (entryFrame m args maxL)) : vx_Met l y ws rm Pc Qc XC mc ms free := by
  refine MetFree.of_bodyS (code := cc) (maxLocals := maxL) (ret := ret) hy ?_ ?_
  · intro args s m h hn
    obtain ⟨m9, meth, c, hn9, h1, h2, h3, h4, -, h5, h6, -⟩ := Cond.codeWith_spec (atoms_spec (ws := ws) h _ (by rw [hw]; exact List.mem_cons_self))
    cases hn.symm.trans hn9
    exact ⟨meth, c, h1, h2, h3, h4, h5, h6⟩
  · intro p e s m args below meth c s₁ B hml hP _
    have hh0 : s₁.heap = s.heap := by rw [B.state]; rfl
    obtain ⟨t, a1, o, b1, b2, b3⟩ := body p e s m args below meth c s₁ B hml hP s₁ hh0 (Stand.of_body B)
    exact ⟨t, o, a1, b1, b2, b3⟩
/-! ===== END ===== -/

/-! ===== BEGIN what the machine throws by itself, no traces kept ===== -/
section VXM
set_option maxHeartbeats 1000000 in
/-- the machine throws cls with the message text, no traces kept: from its note over the frame g to 'throwing' over the same frame (follows the proofs of Stand.vmThrowsMessage, Shelf/KitTracedVmS.lean, and Stand.throwsMessageColdBareV, StandMessageColdV.lean, without the step out of the frame) -/
theorem vx_vmAt {p : Program} {l : Launch} {e : Env} {R : Room} {s : State} {m₀ : MethodId} {args : Array Value} {below : List Frame} {meth : Method} {c : Code} {W : State} {locs : List Loc} {cells slots : Nat}
    (X : Stand p l e R s m₀ args below meth c W locs cells slots) (hexec : p.tables.exec = Jvm.exec) (htr : e.platform.stackTraces = false) {cls : String} {names : List String} {text : String}
    (hcls : Bundle.fit cls = true) (hnames : ∀ n ∈ names, Bundle.fit n = true) (hsoe : (cls == "java/lang/StackOverflowError") = false) (hoom : (cls == "java/lang/OutOfMemoryError") = false)
    (h : ∀ a ∈ Bundle.messageArmAtoms cls names, a.before args s = true)
    (hlocs : ∀ x ∈ locs, ∀ cell, s.heap[x.base]? = some cell → cell.vm.isStatics = false)
    (htext : (text == notModelled) = false) (hlimit : ¬ (stringBytes (stringToUtf16 text)).size > e.platform.arrayLengthLimit) (hheap : ¬ (stringBytes (stringToUtf16 text)).size * componentBytes .byte > e.platform.maxHeapBytes)
    {g : JFrame} (hg : g.method = m₀) (hsize : g.locals.size = c.maxLocals)
    (hRframes : names.length + 4 < R.frames) (hRlocals : 2 * g.monitorRoom + (g.stack.map fun v => v.category).sum + 10240 ≤ R.locals) (hshort : 13 * names.length + 55 ≤ 10240)
    (hRcells : cells + 3 ≤ R.cells) (hRslots : slots + ((stringBytes (stringToUtf16 text)).size + 4 + 6) ≤ R.slots) (hlocks : meth.locks = false) :
    ∃ (S : State) (q : Addr) (ce : Cell), (∀ target, Steps p.tables e below ((S.setTop g).pushFrame (.throwing q)) target → Steps p.tables e below ((W.setTop g).pushFrame (.throwNew cls (some text) none)) target) ∧
      Stand p l e R s m₀ args below meth c S locs (cells + 3) (slots + ((stringBytes (stringToUtf16 text)).size + 4 + 6)) ∧ S.heap[q]? = some ce ∧ s.vm.findClass cls = some ce.cls ∧ ce.vm = .none := by
  have howns : e.platform.frameOwnsMonitors = true := by rw [X.admits.platform]
  have hfin : e.platform.finalization = false := by rw [X.admits.platform]
  have hpl : e.platform.magicAccessors = ({} : Platform).magicAccessors := by rw [X.admits.platform]
  have a : ∀ x, x ∈ Bundle.messageArmAtoms cls names → x.holds args s none s [] = true := fun x hx => h x hx
  obtain ⟨T, Z0, L, -, Y⟩ := ThrowableC.of_atoms (args := args) howns hfin hpl (fun x hx => h x (by simp [Bundle.messageArmAtoms, hx]))
  obtain ⟨Z, M, LZ, LM, hnZ⟩ := Init0T.ofS_atoms (args := args) hpl L Y (fun x hx => h x (by simp [Bundle.messageArmAtoms, hx]))
  obtain ⟨P1, Ps, hlen, L1, hL, hP1m, hlink1, hlink⟩ := Bundle.chainS (args := args) hpl hnZ names cls hcls hnames (fun x hx => h x (by simp [Bundle.messageArmAtoms, hx]))
  obtain ⟨Zs, LZs, hn4, hfitv, hfitc⟩ := StringT.of_atoms (args := args) (fun x hx => h x (by simp [Bundle.messageArmAtoms, hx]))
  have hfound : s.vm.findClass cls = some P1.m.cls := findClass_of_methodNamed hP1m
  obtain ⟨c1, kX, hc1, hk, hord, -, -, hn6⟩ := Cond.instantiable_spec (a (.instantiable cls 6) (by simp [Bundle.messageArmAtoms]))
  cases Option.some.inj (hc1.symm.trans hfound)
  have hinit := Cond.initialized_spec hfound hk (a (.initialized cls) (by simp [Bundle.messageArmAtoms]))
  have hctor : kX.findMethod "<init>" "(Ljava/lang/String;)V" = some P1.m.idx := findMethod_of_methodNamed hP1m hk
  have hsel0 : selectMethod e.platform s.vm P1.m.cls T.fill0 = .method T.fill0 := by
    obtain ⟨c2, r2, m2, q1, q2, q3, q4, -⟩ := Cond.selects_spec (a (.selects cls Bundle.tFill0 Bundle.tFill0) (by simp [Bundle.messageArmAtoms]))
    cases Option.some.inj (q1.symm.trans hfound)
    cases Option.some.inj (q2.symm.trans (State.methodFound?_of_named Y.fill0 (by decide)))
    cases Option.some.inj (q3.symm.trans Y.fill0)
    rw [Launch.admits_selectMethod X.admits]; exact q4
  have hselF : selectMethod e.platform s.vm P1.m.cls T.fill = .method T.fill := by
    obtain ⟨c2, r2, m2, q1, q2, q3, q4, -⟩ := Cond.selects_spec (a (.selects cls Bundle.tFill Bundle.tFill) (by simp [Bundle.messageArmAtoms]))
    cases Option.some.inj (q1.symm.trans hfound)
    cases Option.some.inj (q2.symm.trans (State.methodFound?_of_named Y.fill (by decide)))
    cases Option.some.inj (q3.symm.trans Y.fill)
    rw [Launch.admits_selectMethod X.admits]; exact q4
  obtain ⟨cellS0, hcS0, hiss⟩ := Y.statics
  obtain ⟨u0, hu0⟩ := Cond.staticRefV Y.unassigned L.unassignedStatic L.statics hcS0 hiss (a (.isRef (.static Bundle.tN "UNASSIGNED_STACK" Bundle.steD)) (by simp [Bundle.messageArmAtoms]))
  obtain ⟨sen, hsen⟩ := Cond.staticRefV Y.sentinel L.sentinelStatic L.statics hcS0 hiss (a (.isRef (.static Bundle.tN "SUPPRESSED_SENTINEL" Bundle.listD)) (by simp [Bundle.messageArmAtoms]))
  obtain ⟨ci198, i198, fB, hk198, hg198, ha198, hsB, -, hnB, htB, hffB⟩ := Cond.ownField (t := .object "java/lang/Object") Y.found L.cls (by decide +kernel) (a (.fieldLink Bundle.tN 198 Bundle.tN "backtrace" "Ljava/lang/Object;") (by simp [Bundle.messageArmAtoms])) (a (.lays Bundle.tN Bundle.tN "backtrace" "Ljava/lang/Object;") (by simp [Bundle.messageArmAtoms])) e.platform hpl
  obtain ⟨cellS, hcS', heS, -, hkeep⟩ := X.same.2.2.2.2.2 T.aS cellS0 hcS0
  have hcellS : W.heap[T.aS]? = some cellS := hcS'
  have hout' : ∀ i, (⟨T.aS, i⟩ : Loc) ∉ locs := fun i hmem => by
    have := hlocs _ hmem cellS0 hcS0
    rw [hiss] at this; cases this
  have hknownS : cellS.vm ≠ .unknown := by
    rw [heS]; intro hu
    rw [show cellS0.vm = .unknown from hu] at hiss
    cases hiss
  have hvU : cellS.slots[T.fUnassigned.slot]? = some u0.v := by rw [hkeep _ (hout' _)]; exact hu0
  have hvSen : cellS.slots[T.fSentinel.slot]? = some sen.v := by rw [hkeep _ (hout' _)]; exact hsen
  obtain ⟨iM, hffM⟩ := Y.msg
  obtain ⟨tyC, dC, hdC, hdnC⟩ := Cond.laysAt hfound hk Y.cause (a (.lays cls Bundle.tN "cause" "Ljava/lang/Throwable;") (by simp [Bundle.messageArmAtoms]))
  obtain ⟨tyS, dS, hdS, hdnS⟩ := Cond.laysAt hfound hk Y.stack (a (.lays cls Bundle.tN "stackTrace" Bundle.steD) (by simp [Bundle.messageArmAtoms]))
  obtain ⟨tyP, dP, hdP, hdnP⟩ := Cond.laysAt hfound hk Y.supp (a (.lays cls Bundle.tN "suppressedExceptions" Bundle.listD) (by simp [Bundle.messageArmAtoms]))
  obtain ⟨tyM, dM, hdM, hdnM⟩ := Cond.laysAt hfound hk hffM (a (.lays cls Bundle.tN "detailMessage" "Ljava/lang/String;") (by simp [Bundle.messageArmAtoms]))
  obtain ⟨tyB, dB, hdB, hdnB⟩ := Cond.laysAt hfound hk hffB (a (.lays cls Bundle.tN "backtrace" "Ljava/lang/Object;") (by simp [Bundle.messageArmAtoms]))
  have bC := Cond.laysApart hdB hdC hdnB hdnC (by rw [hnB, Y.causeName]; decide)
  have bS := Cond.laysApart hdB hdS hdnB hdnS (by rw [hnB, Y.stackName]; decide)
  have bP := Cond.laysApart hdB hdP hdnB hdnP (by rw [hnB, Y.suppName]; decide)
  have hbk : ((preparedCellV T.toThrowableT (freshCell P1.m.cls kX) (W.heap.size + 2) u0 sen).withEntry W.cur).slots[fB.slot]? = some .null := by
    have := fresh_default (c := P1.m.cls) tyB
    rw [htB] at this
    simpa [preparedCellV, Cell.setSlot, Cell.withEntry, Array.getElem?_setIfInBounds, bC, bS, bP, bC.symm, bS.symm, bP.symm, defaultValue] using this
  have tkC := Takes.of_laid (v := .ref (W.heap.size + 2)) hk hord tyC (by rw [Y.causeType]; rfl)
  have tkS := Takes.of_laid (v := u0.v) hk hord tyS (by rw [Y.stackType]; exact fits_refV_array _ u0)
  have tkP := Takes.of_laid (v := sen.v) hk hord tyP (by rw [Y.suppType]; exact fits_refV_object _ sen)
  have tkM := Takes.of_laid (v := .ref (W.heap.size + 1)) hk hord tyM (by rw [Y.msgType]; rfl)
  have hskip : SkipFacts T e.platform s (fun u => u) u0 ((preparedCellV T.toThrowableT (freshCell P1.m.cls kX) (W.heap.size + 2) u0 sen).withEntry W.cur) := ⟨{ ci198 := ci198, i198 := i198, fBack := fB }, ⟨hk198, hg198, ha198, hsB⟩, hbk, fun _ _ => rfl⟩
  have h0 : At W g.method c below := by rw [hg]; exact X.here
  obtain ⟨hbeyond, hfreeW⟩ := X.vmMayThrow hsize (.throwNew cls (some text) none) (fun f hf => by cases hf) rfl hRlocals
  have hfr' : W.frames.length + Ps.length + 4 < (e.platform.stackLimits W.me).1 := by have := X.framesAbove hRframes; omega
  have hwd' : (stackUse (.java g :: W.frames.tail)).2 + 13 * Ps.length + 55 ≤ (e.platform.stackLimits W.me).2 := by have := X.stackAbove hsize (K := 13 * Ps.length + 55) (by omega); omega
  have hslots : W.slotsUsed + (stringBytes (stringToUtf16 text)).size + Zs.kS.instanceTypes.size + kX.instanceTypes.size ≤ e.platform.maxSlots := by
    have := X.slotsAbove hRslots
    rw [hn4, hn6]
    omega
  obtain ⟨vm', hW', st⟩ := Steps.vmThrowsMessageColdByV p (s₀ := s) (S := W) (g := g) h0 hexec T L Z LZ M LM X.warmed (t := W.cur) rfl Zs LZs P1 L1 Ps hL hlink1 hlink hsoe hoom hfound hk hinit hord hctor
    (Launch.admits_hotImplicitExceptions X.admits) hbeyond hfreeW htext hlimit hheap (X.cellsAbove hRcells) hslots (hfitv _) (hfitc _)
    (Nn := fun u => u) heapOnly_id (fun _ _ => rfl) (fun _ => rfl) (fun u x y => setCell_twice _ _ _ _) (fun _ => Nat.le_refl _) (cN := ((preparedCellV T.toThrowableT (freshCell P1.m.cls kX) (W.heap.size + 2) u0 sen).withEntry W.cur))
    hsel0 hcellS hknownS hvU tkS (fun _ hu => hu) (fun _ hu => hu) rfl rfl rfl (by simp [preparedCellV, Cell.setSlot, Cell.withEntry]) hskip (fun _ _ hA hW _ hroom _ hrest => L.nativeOff p htr hA hW hroom hrest) hselF hvSen tkC tkP tkM Y.objLocals rfl hfr' hwd'
  rw [plainBareV_eq T.toThrowableT (W.heap.size + 2) u0 sen (.ref (W.heap.size + 1)) W.cur rfl rfl] at st
  obtain ⟨-, -, w3, w4, -, -, -⟩ := withThrown_facts e.platform W Zs text P1.m.cls kX
  have X3 := ((X.pushed (bytesOf Zs.cB (stringToUtf16 text))).pushed (stringAt Zs.cS Zs.kS Zs.fv Zs.fc (stringToUtf16 text) W.heap.size)).pushed (freshCell P1.m.cls kX)
  rw [← withString_eq] at X3
  have X4 := X3.noted hW'
  have ha : (W.heap.size + 2) < ((withThrown W Zs text P1.m.cls kX).setVm vm').heap.size := by show _ < (withThrown W Zs text P1.m.cls kX).heap.size; rw [w3]; omega
  have hcell : ((withThrown W Zs text P1.m.cls kX).setVm vm').heap[(W.heap.size + 2)]? = some (freshCell P1.m.cls kX) := w4
  have X5 := ((((X4.stored hcell T.fCause.slot (.ref (W.heap.size + 2))).storedAgain ha T.fStack.slot u0.v).storedAgain ha T.fSupp.slot sen.v).storedAgain ha T.fStack.slot u0.v).storedAgain ha T.fMsg.slot (.ref (W.heap.size + 1))
  obtain ⟨g₁, hfrM⟩ := X5.frames_eq
  have hU : ((((withThrown W Zs text P1.m.cls kX).setVm vm').setCell (W.heap.size + 2) (plainBareV T.toThrowableT (freshCell P1.m.cls kX) (W.heap.size + 2) u0 sen (.ref (W.heap.size + 1)))).setTop g).pushFrame (.throwing (W.heap.size + 2)) = (((withThrown W Zs text P1.m.cls kX).setVm vm').setCell (W.heap.size + 2) (plainBareV T.toThrowableT (freshCell P1.m.cls kX) (W.heap.size + 2) u0 sen (.ref (W.heap.size + 1)))).setFrames (.throwing (W.heap.size + 2) :: .java g :: below) := by
    rw [State.pushFrame, State.frames_setTop _ hfrM, State.setTop_of_frames _ hfrM, State.setFrames_setFrames]
  have b1 : (bytesOf Zs.cB (stringToUtf16 text)).slots.size = (stringBytes (stringToUtf16 text)).size := by
    rw [(Cell.writeAll_facts _ _).2.2]; simp [bytes0]
  have b2 : (stringAt Zs.cS Zs.kS Zs.fv Zs.fc (stringToUtf16 text) W.heap.size).slots.size = 4 := by simp [string0, Cell.setSlot, hn4]
  have b3 : (freshCell P1.m.cls kX).slots.size = 6 := by simp [hn6]
  rw [b1, b2, b3] at X5
  have e9 : slots + (stringBytes (stringToUtf16 text)).size + 4 + 6 = slots + ((stringBytes (stringToUtf16 text)).size + 4 + 6) := by omega
  rw [e9] at X5
  simp only [List.append_assoc, List.cons_append, List.nil_append] at X5
  refine ⟨((withThrown W Zs text P1.m.cls kX).setVm vm').setCell (W.heap.size + 2) (plainBareV T.toThrowableT (freshCell P1.m.cls kX) (W.heap.size + 2) u0 sen (.ref (W.heap.size + 1))), W.heap.size + 2, _, fun target ht => st _ (by rw [X.tail, ← hU]; exact ht),
    X5.forget (fun y hy => ?_), heapAt_setCell_self _ ha, hfound, rfl⟩
  simp only [List.mem_cons, List.not_mem_nil, or_false] at hy
  have hge : s.heap.size ≤ W.heap.size := X.same.2.1
  rcases hy with rfl | rfl | rfl | rfl | rfl <;> exact Nat.le_trans hge (Nat.le_add_right _ 2)
set_option maxHeartbeats 1000000 in
/-- the machine throws NullPointerException, no traces kept: from its note over the frame g to 'throwing' over the same frame (follows the proof of Stand.vmThrowsNpe, Shelf42/KT2.lean; throwsNpeColdBareVAt, Shelf42/NT91.lean, called) -/
theorem vx_npeAt {p : Program} {l : Launch} {e : Env} {R : Room} {s : State} {m₀ : MethodId} {args : Array Value} {below : List Frame} {meth : Method} {c : Code} {W : State} {locs : List Loc} {cells slots : Nat}
    (X : Stand p l e R s m₀ args below meth c W locs cells slots) (hexec : p.tables.exec = Jvm.exec) (htr : e.platform.stackTraces = false) {n : Nat}
    (h : ∀ a ∈ Bundle.npeArmAtoms n, a.before args s = true)
    (hlocs : ∀ x ∈ locs, ∀ cell, s.heap[x.base]? = some cell → cell.vm.isStatics = false)
    {g : JFrame} (hg : g.method = m₀) (hsize : g.locals.size = c.maxLocals)
    (hRframes : 7 < R.frames) (hRlocals : 2 * g.monitorRoom + (g.stack.map fun v => v.category).sum + 10240 ≤ R.locals)
    (hRcells : cells + 1 ≤ R.cells) (hRslots : slots + n ≤ R.slots) (hlocks : meth.locks = false) :
    ∃ (S : State) (q : Addr) (ce : Cell), (∀ target, Steps p.tables e below ((S.setTop g).pushFrame (.throwing q)) target → Steps p.tables e below ((W.setTop g).pushFrame (.throwNew "java/lang/NullPointerException" none none)) target) ∧
      Stand p l e R s m₀ args below meth c S locs (cells + 1) (slots + n) ∧ S.heap[q]? = some ce ∧ s.vm.findClass "java/lang/NullPointerException" = some ce.cls ∧ ce.vm = .none := by
  have howns : e.platform.frameOwnsMonitors = true := by rw [X.admits.platform]
  have hfin : e.platform.finalization = false := by rw [X.admits.platform]
  have hpl : e.platform.magicAccessors = ({} : Platform).magicAccessors := by rw [X.admits.platform]
  have hpl2 : e.platform.arrayCloneIsPublic = true := by rw [X.admits.platform]
  have a' : ∀ x, x ∈ Bundle.npeArmAtoms n → x.holds args s none s [] = true := fun x hx => h x hx
  obtain ⟨T, Z, L, LZ, Y⟩ := ThrowableC.of_atoms (args := args) howns hfin hpl (fun x hx => h x (by simp [Bundle.npeArmAtoms, hx]))
  obtain ⟨N, LN, hcN, hnNF, hordN, hffS⟩ := NpeC.of_atoms (args := args) hpl hpl2 L Y (fun x hx => h x (by simp [Bundle.npeArmAtoms, hx]))
  obtain ⟨P1, L1, hP1m, hP1s⟩ := PassC.of_atoms (args := args) (s := s) hpl (X := Bundle.nN) (Y := Bundle.rN) (by decide) (by decide) LibCode.NullPointerException.Init0.at_0 LibCode.NullPointerException.Init0.at_1 LibCode.NullPointerException.Init0.at_4 (fun x hx => h x (by simp [Bundle.npeArmAtoms, hx]))
  obtain ⟨PR, LR, hPRm, hPRs⟩ := PassC.of_atoms (args := args) (s := s) hpl (X := Bundle.rN) (Y := Bundle.eN) (by decide) (by decide) LibCode.RuntimeException.Init0.at_0 LibCode.RuntimeException.Init0.at_1 LibCode.RuntimeException.Init0.at_4 (fun x hx => h x (by simp [Bundle.npeArmAtoms, hx]))
  obtain ⟨PE, LEx, hPEm, hPEs⟩ := PassC.of_atoms (args := args) (s := s) hpl (X := Bundle.eN) (Y := Bundle.tN) (by decide) (by decide) LibCode.Exception.Init0.at_0 LibCode.Exception.Init0.at_1 LibCode.Exception.Init0.at_4 (fun x hx => h x (by simp [Bundle.npeArmAtoms, hx]))
  have hfound : s.vm.findClass Bundle.nN = some P1.m.cls := findClass_of_methodNamed hP1m
  have ecls : N.cN = P1.m.cls := Option.some.inj (hcN.symm.trans hfound)
  have hk : s.vm.classes[P1.m.cls]? = some N.kN := by rw [← ecls]; exact LN.cls
  have hinit := Cond.initialized_spec hfound hk (a' (.initialized Bundle.nN) (by simp [Bundle.npeArmAtoms]))
  have hctor : N.kN.findMethod "<init>" "()V" = some P1.m.idx := findMethod_of_methodNamed hP1m hk
  obtain ⟨c1, k1, hc1, hk1, -, -, -, hn⟩ := Cond.instantiable_spec (a' (.instantiable Bundle.nN n) (by simp [Bundle.npeArmAtoms]))
  cases Option.some.inj (hc1.symm.trans hfound)
  cases Option.some.inj (hk1.symm.trans hk)
  have hfsz : (freshCell P1.m.cls N.kN).slots.size = n := by simp [hn]
  have hlink1 : P1.sup = PR.m := Option.some.inj (hP1s.symm.trans hPRm)
  have hlinkR : PR.sup = PE.m := Option.some.inj (hPRs.symm.trans hPEm)
  have hlinkE : PE.sup = Z.m T.toThrowableT := Option.some.inj (hPEs.symm.trans Y.init0)
  have hLs : ∀ P, P ∈ [PR, PE] → P.Links0 e.platform s := fun P hP => by
    simp only [List.mem_cons, List.not_mem_nil, or_false] at hP
    rcases hP with rfl | rfl
    · exact LR
    · exact LEx
  have hsel0 : selectMethod e.platform s.vm P1.m.cls T.fill0 = .method T.fill0 := by
    obtain ⟨c2, r2, m2, q1, q2, q3, q4, -⟩ := Cond.selects_spec (a' (.selects Bundle.nN Bundle.tFill0 Bundle.tFill0) (by simp [Bundle.npeArmAtoms]))
    cases Option.some.inj (q1.symm.trans hfound)
    cases Option.some.inj (q2.symm.trans (State.methodFound?_of_named Y.fill0 (by decide)))
    cases Option.some.inj (q3.symm.trans Y.fill0)
    rw [Launch.admits_selectMethod X.admits]; exact q4
  have hselF : selectMethod e.platform s.vm P1.m.cls T.fill = .method N.fill := by
    obtain ⟨c2, r2, m2, q1, q2, q3, q4, -⟩ := Cond.selects_spec (a' (.selects Bundle.nN Bundle.tFill Bundle.nFill) (by simp [Bundle.npeArmAtoms]))
    cases Option.some.inj (q1.symm.trans hfound)
    cases Option.some.inj (q2.symm.trans (State.methodFound?_of_named Y.fill (by decide)))
    cases Option.some.inj (q3.symm.trans hnNF)
    rw [Launch.admits_selectMethod X.admits]; exact q4
  obtain ⟨cellS0, hcS0, hiss⟩ := Y.statics
  obtain ⟨u0, hu0⟩ := Cond.staticRefV Y.unassigned L.unassignedStatic L.statics hcS0 hiss (a' (.isRef (.static Bundle.tN "UNASSIGNED_STACK" Bundle.steD)) (by simp [Bundle.npeArmAtoms]))
  obtain ⟨sen, hsen⟩ := Cond.staticRefV Y.sentinel L.sentinelStatic L.statics hcS0 hiss (a' (.isRef (.static Bundle.tN "SUPPRESSED_SENTINEL" Bundle.listD)) (by simp [Bundle.npeArmAtoms]))
  obtain ⟨ci198, i198, fB, hk198, hg198, ha198, hsB, -, hnB, htB, hffB⟩ := Cond.ownField (t := .object "java/lang/Object") Y.found L.cls (by decide +kernel) (a' (.fieldLink Bundle.tN 198 Bundle.tN "backtrace" Bundle.objD) (by simp [Bundle.npeArmAtoms])) (a' (.lays Bundle.tN Bundle.tN "backtrace" Bundle.objD) (by simp [Bundle.npeArmAtoms])) e.platform hpl
  obtain ⟨cellS, hcS', heS, -, hkeep⟩ := X.same.2.2.2.2.2 T.aS cellS0 hcS0
  have hcellS : W.heap[T.aS]? = some cellS := hcS'
  have hout' : ∀ i, (⟨T.aS, i⟩ : Loc) ∉ locs := fun i hmem => by
    have := hlocs _ hmem cellS0 hcS0
    rw [hiss] at this; cases this
  have hknownS : cellS.vm ≠ .unknown := by
    rw [heS]; intro hu
    rw [show cellS0.vm = .unknown from hu] at hiss
    cases hiss
  have hvU : cellS.slots[T.fUnassigned.slot]? = some u0.v := by rw [hkeep _ (hout' _)]; exact hu0
  have hvSen : cellS.slots[T.fSentinel.slot]? = some sen.v := by rw [hkeep _ (hout' _)]; exact hsen
  obtain ⟨tyC, dC, hdC, hdnC⟩ := Cond.laysAt hfound hk Y.cause (a' (.lays Bundle.nN Bundle.tN "cause" "Ljava/lang/Throwable;") (by simp [Bundle.npeArmAtoms]))
  obtain ⟨tyS, dS, hdS, hdnS⟩ := Cond.laysAt hfound hk Y.stack (a' (.lays Bundle.nN Bundle.tN "stackTrace" Bundle.steD) (by simp [Bundle.npeArmAtoms]))
  obtain ⟨tyP, dP, hdP, hdnP⟩ := Cond.laysAt hfound hk Y.supp (a' (.lays Bundle.nN Bundle.tN "suppressedExceptions" Bundle.listD) (by simp [Bundle.npeArmAtoms]))
  obtain ⟨tyX, dX, hdX, hdnX⟩ := Cond.laysAt hfound hk hffS (a' (.lays Bundle.nN Bundle.nN "extendedMessageState" "I") (by simp [Bundle.npeArmAtoms, Bundle.npeAtoms]))
  obtain ⟨hnX, htX⟩ := State.fieldFound?_type hffS (t := .int) (by decide +kernel)
  have xC := Cond.laysApart hdC hdX hdnC hdnX (by rw [hnX, Y.causeName]; decide)
  have xS := Cond.laysApart hdS hdX hdnS hdnX (by rw [hnX, Y.stackName]; decide)
  have xP := Cond.laysApart hdP hdX hdnP hdnX (by rw [hnX, Y.suppName]; decide)
  have hv0 : (freshCell P1.m.cls N.kN).slots[N.fState.slot]? = some (.int 0) := by
    have := fresh_default (c := P1.m.cls) tyX
    rw [htX] at this; exact this
  obtain ⟨tyB, dB, hdB, hdnB⟩ := Cond.laysAt hfound hk hffB (a' (.lays Bundle.nN Bundle.tN "backtrace" Bundle.objD) (by simp [Bundle.npeArmAtoms]))
  have bC := Cond.laysApart hdB hdC hdnB hdnC (by rw [hnB, Y.causeName]; decide)
  have bS := Cond.laysApart hdB hdS hdnB hdnS (by rw [hnB, Y.stackName]; decide)
  have bP := Cond.laysApart hdB hdP hdnB hdnP (by rw [hnB, Y.suppName]; decide)
  have bX := Cond.laysApart hdB hdX hdnB hdnX (by rw [hnB, hnX]; decide)
  have hbk : ((npeCell N.toNpeT (preparedCellV T.toThrowableT (freshCell P1.m.cls N.kN) W.heap.size u0 sen) W.cur).withEntry W.cur).slots[fB.slot]? = some .null := by
    have := fresh_default (c := P1.m.cls) tyB
    rw [htB] at this
    simpa [npeCell, preparedCellV, Cell.setSlot, Cell.withEntry, Array.getElem?_setIfInBounds, bC, bS, bP, bX, bC.symm, bS.symm, bP.symm, bX.symm, defaultValue] using this
  have tkC := Takes.of_laid (v := .ref W.heap.size) hk hordN tyC (by rw [Y.causeType]; rfl)
  have tkS := Takes.of_laid (v := u0.v) hk hordN tyS (by rw [Y.stackType]; exact fits_refV_array _ u0)
  have tkP := Takes.of_laid (v := sen.v) hk hordN tyP (by rw [Y.suppType]; exact fits_refV_object _ sen)
  have tkX := Takes.of_laid (v := .int 1) hk hordN tyX (by rw [htX]; rfl)
  have hskip : SkipFacts T e.platform s (fun u => u) u0 ((npeCell N.toNpeT (preparedCellV T.toThrowableT (freshCell P1.m.cls N.kN) W.heap.size u0 sen) W.cur).withEntry W.cur) := ⟨{ ci198 := ci198, i198 := i198, fBack := fB }, ⟨hk198, hg198, ha198, hsB⟩, hbk, fun _ _ => rfl⟩
  obtain ⟨vm', X3, st, -⟩ := X.throwsNpeColdBareVAt hexec hg hsize T L Z LZ N LN P1 L1 [PR, PE] hLs hlink1 ⟨hlinkR, hlinkE, trivial⟩ hfound hk hinit hordN hctor hsel0 hselF hcellS hknownS hvU hvSen
    hv0 xC xS xP tkC tkS tkP tkX Y.objLocals hskip (fun _ _ hA hW _ hroom _ hrest => L.nativeOff p htr hA hW hroom hrest) (by simpa using hRframes) hRlocals (by simp) hRcells (by rw [hn]; exact hRslots)
  have hlt : W.heap.size < ((W.pushCell (freshCell P1.m.cls N.kN)).setVm vm').heap.size := by
    show W.heap.size < (W.pushCell (freshCell P1.m.cls N.kN)).heap.size
    rw [State.heap_size_pushCell]; omega
  rw [hfsz] at X3
  obtain ⟨g₁, hfrM⟩ := X3.frames_eq
  have hU : ((((W.pushCell (freshCell P1.m.cls N.kN)).setVm vm').setCell W.heap.size (npeBareV T.toThrowableT N.toNpeT (freshCell P1.m.cls N.kN) W.heap.size u0 sen)).setTop g).pushFrame (.throwing W.heap.size) = (((W.pushCell (freshCell P1.m.cls N.kN)).setVm vm').setCell W.heap.size (npeBareV T.toThrowableT N.toNpeT (freshCell P1.m.cls N.kN) W.heap.size u0 sen)).setFrames (.throwing W.heap.size :: .java g :: below) := by
    rw [State.pushFrame, State.frames_setTop _ hfrM, State.setTop_of_frames _ hfrM, State.setFrames_setFrames]
  refine ⟨_, W.heap.size, _, fun target ht => st.trans (by rw [← hU]; exact ht), X3.forget (fun y hy => ?_), heapAt_setCell_self _ hlt, hfound, rfl⟩
  simp only [List.mem_cons, List.not_mem_nil, or_false] at hy
  have hge : s.heap.size ≤ W.heap.size := X.same.2.1
  rcases hy with rfl | rfl | rfl | rfl | rfl <;> exact hge
/-- the words of a machine's NullPointerException, but the four that speak of the heap -/
def vx_atN (n : Nat) : List Cond := (Bundle.npeArmAtoms n).filter vx_no
/-- the words of a machine's throw with a message, but the four that speak of the heap -/
def vx_atM (X : String) (names : List String) : List Cond := (Bundle.messageArmAtoms X names).filter vx_no
section
variable {p : Program} {l : Launch} {e : Env} {R : Room} {s : State} {m : MethodId} {args : Array Value} {below : List Frame} {meth : Method} {c : Code} {H : Heap} {locs : List Loc} {cells slots : Nat}
/-- a frame seen from a rebased start, seen from the first start again -/
theorem vx_back9 {T S : State} {R' : Room} {k n : Nat} (X : Stand p l e R s m args below meth c T locs cells slots) (Y : Stand p l e R' ((T.setVm s.vm).setFrames (.invoking m args :: below)) m args below meth c T [] 0 0) (Z : Stand p l e R' ((T.setVm s.vm).setFrames (.invoking m args :: below)) m args below meth c S [] k n) :
    Stand p l e R s m args below meth c S locs (cells + k) (slots + n) := by
  have hW0 : s.WarmedH ((T.setVm s.vm).setFrames (.invoking m args :: below)).vm := State.WarmedH.refl s
  refine { admits := X.admits, cas := X.cas, clock := X.clock, frames := X.frames, room := X.room, hears := X.hears, method := X.method, code := X.code, here := Z.here, tail := Z.tail, warmed := State.WarmedH.trans hW0 Z.warmed, limits := Z.limits.trans (Y.limits.symm.trans X.limits), bytes := Z.bytes.trans (Y.bytes.symm.trans X.bytes), same := ?_ }
  obtain ⟨e1, e2⟩ := Z.same
  rw [State.setFrames_setFrames] at e1
  have h2 : (T.setVm s.vm).sameButNew (S.setVm s.vm) [] k n := ⟨e1, e2⟩
  have h3 := X.same.trans h2
  rw [List.append_nil] at h3
  exact h3
/-- from the machine's note that E is thrown here with this text -/
def vx_Note (p : Program) (l : Launch) (e : Env) (R : Room) (s : State) (m : MethodId) (args : Array Value) (below : List Frame) (meth : Method) (c : Code) (H : Heap) (locs : List Loc) (cells slots : Nat) (Q : State → Prop) (g : JFrame) (E text : String) : Prop :=
  ∀ T : State, T.heap = H → Stand p l e R s m args below meth c T locs cells slots → ∃ t, Steps p.tables e below ((T.setTop g).pushFrame (.throwNew E (some text) none)) t ∧ Q t
theorem vx_vm {pc : Nat} {ls : Array Slot} {rest : List Value} {Q : State → Prop} (hexec : p.tables.exec = Jvm.exec) (hl : l.stackTraces = false) {cls text : String} {names : List String} {nb : Nat} {A : Nat → Prop}
    (hcls : Bundle.fit cls = true) (hnames : ∀ n ∈ names, Bundle.fit n = true) (hsoe : (cls == "java/lang/StackOverflowError") = false) (hoom : (cls == "java/lang/OutOfMemoryError") = false)
    (hat : ∀ w ∈ vx_atM cls names, w.before args s = true) (hgood : ∀ w ∈ vx_atM cls names, vx_ot w = true)
    (hU : vx_Zq Bundle.tN "UNASSIGNED_STACK" Bundle.steD A s s.heap) (hN : vx_Zq Bundle.tN "SUPPRESSED_SENTINEL" Bundle.listD A s s.heap) (hS : va_S A s.heap H locs) (hsize : ls.size = c.maxLocals)
    (htext : (text == notModelled) = false) (hnb : (stringBytes (stringToUtf16 text)).size ≤ nb) (hnb1 : nb ≤ 1000)
    (hRframes : names.length + 4 < R.frames) (hRlocals : (rest.map fun v => v.category).sum + 10240 ≤ R.locals) (hshort : 13 * names.length + 55 ≤ 10240) (hRcells : cells + 3 ≤ R.cells) (hRslots : slots + (nb + 10) ≤ R.slots) (hlocks : meth.locks = false)
    (k : ∀ (H1 : Heap) (q9 : Addr) (ce : Cell), H.size ≤ H1.size → (∀ q : Nat, q < H.size → H1[q]? = H[q]?) → va_S A s.heap H1 locs → H1[q9]? = some ce → ce.vm = .none → s.vm.findClass cls = some ce.cls → vx_W p l e R s m args below meth c H1 locs (cells + 3) (slots + (nb + 10)) Q (F0 m pc ls rest) q9) :
    vx_Note p l e R s m args below meth c H locs cells slots Q (F0 m pc ls rest) cls text := by
  intro T hT X
  have htr : e.platform.stackTraces = false := (show e.platform.stackTraces = l.stackTraces by rw [X.admits.platform]).trans hl
  have Y := vx_rebase X (R' := { frames := R.frames, locals := R.locals, cells := 3, slots := nb + 10 }) (Nat.le_refl _) (Nat.le_refl _) hRcells hRslots
  have hhp : ((T.setVm s.vm).setFrames (.invoking m args :: below)).heap = H := hT
  have hW0 : s.WarmedH ((T.setVm s.vm).setFrames (.invoking m args :: below)).vm := State.WarmedH.refl s
  have hat' : ∀ w ∈ vx_atM cls names, w.before args ((T.setVm s.vm).setFrames (.invoking m args :: below)) = true := fun w hw => vx_ot_at hW0 rfl (hgood w hw) (hat w hw)
  have hU' : vx_Zq Bundle.tN "UNASSIGNED_STACK" Bundle.steD A ((T.setVm s.vm).setFrames (.invoking m args :: below)) ((T.setVm s.vm).setFrames (.invoking m args :: below)).heap := by rw [hhp]; exact vx_Zq.moved hW0.alike (hU.kept hS.2.1)
  have hN' : vx_Zq Bundle.tN "SUPPRESSED_SENTINEL" Bundle.listD A ((T.setVm s.vm).setFrames (.invoking m args :: below)) ((T.setVm s.vm).setFrames (.invoking m args :: below)).heap := by rw [hhp]; exact vx_Zq.moved hW0.alike (hN.kept hS.2.1)
  obtain ⟨S, q, ce, st, Z, hce, hcl', hv⟩ := vx_vmAt Y hexec htr (cls := cls) (names := names) (text := text) hcls hnames hsoe hoom (vx_own hat' (vx_isRefq hU'.1) (vx_isRefq hN'.1) hU'.2.word hN'.2.word) (fun x hx => nomatch hx) htext
    (by rw [Launch.admits_arrayLengthLimit X.admits]; omega) (by rw [Launch.admits_maxHeapBytes X.admits]; simp only [componentBytes]; omega)
    (g := F0 m pc ls rest) rfl hsize hRframes (by show 2 * 0 + (rest.map fun v => v.category).sum + 10240 ≤ R.locals; omega) hshort (by show 0 + 3 ≤ 3; omega) (by show 0 + (_ + 4 + 6) ≤ nb + 10; omega) hlocks
  obtain ⟨f1, f2⟩ := vx_frame Z.same
  have f1' : H.size ≤ S.heap.size := by rw [← hT]; exact f1
  have f2' : ∀ q : Nat, q < H.size → S.heap[q]? = H[q]? := fun q hq => by
    rw [← hT]
    exact f2 q (by rw [← hT] at hq; exact hq) (fun z hz => nomatch hz)
  have X5 := vx_back9 X Y Z
  have X6 : Stand p l e R s m args below meth c S locs (cells + 3) (slots + (nb + 10)) := { X5 with same := X5.same.mono (by omega) (by omega) }
  obtain ⟨t, a1, b1⟩ := k S.heap q ce f1' f2' ⟨Nat.le_trans hS.1 f1', fun q h1 h2 => (f2' q (Nat.lt_of_lt_of_le h1 hS.1)).trans (hS.2.1 q h1 h2), hS.2.2⟩ hce hv hcl' S rfl X6
  exact ⟨t, st t a1, b1⟩
/-- from the machine's note that NullPointerException is thrown here -/
def vx_NoteN (p : Program) (l : Launch) (e : Env) (R : Room) (s : State) (m : MethodId) (args : Array Value) (below : List Frame) (meth : Method) (c : Code) (H : Heap) (locs : List Loc) (cells slots : Nat) (Q : State → Prop) (g : JFrame) : Prop :=
  ∀ T : State, T.heap = H → Stand p l e R s m args below meth c T locs cells slots → ∃ t, Steps p.tables e below ((T.setTop g).pushFrame (.throwNew "java/lang/NullPointerException" none none)) t ∧ Q t
theorem vx_npe {pc : Nat} {ls : Array Slot} {rest : List Value} {Q : State → Prop} (hexec : p.tables.exec = Jvm.exec) (hl : l.stackTraces = false) {nb : Nat} {A : Nat → Prop}
    (hat : ∀ w ∈ vx_atN nb, w.before args s = true) (hgood : ∀ w ∈ vx_atN nb, vx_ot w = true)
    (hU : vx_Zq Bundle.tN "UNASSIGNED_STACK" Bundle.steD A s s.heap) (hN : vx_Zq Bundle.tN "SUPPRESSED_SENTINEL" Bundle.listD A s s.heap) (hS : va_S A s.heap H locs) (hsize : ls.size = c.maxLocals)
    (hRframes : 7 < R.frames) (hRlocals : (rest.map fun v => v.category).sum + 10240 ≤ R.locals) (hRcells : cells + 1 ≤ R.cells) (hRslots : slots + nb ≤ R.slots) (hlocks : meth.locks = false)
    (k : ∀ (H1 : Heap) (q9 : Addr) (ce : Cell), H.size ≤ H1.size → (∀ q : Nat, q < H.size → H1[q]? = H[q]?) → va_S A s.heap H1 locs → H1[q9]? = some ce → ce.vm = .none → s.vm.findClass "java/lang/NullPointerException" = some ce.cls → vx_W p l e R s m args below meth c H1 locs (cells + 1) (slots + nb) Q (F0 m pc ls rest) q9) :
    vx_NoteN p l e R s m args below meth c H locs cells slots Q (F0 m pc ls rest) := by
  intro T hT X
  have htr : e.platform.stackTraces = false := (show e.platform.stackTraces = l.stackTraces by rw [X.admits.platform]).trans hl
  have Y := vx_rebase X (R' := { frames := R.frames, locals := R.locals, cells := 1, slots := nb }) (Nat.le_refl _) (Nat.le_refl _) hRcells hRslots
  have hhp : ((T.setVm s.vm).setFrames (.invoking m args :: below)).heap = H := hT
  have hW0 : s.WarmedH ((T.setVm s.vm).setFrames (.invoking m args :: below)).vm := State.WarmedH.refl s
  have hat' : ∀ w ∈ vx_atN nb, w.before args ((T.setVm s.vm).setFrames (.invoking m args :: below)) = true := fun w hw => vx_ot_at hW0 rfl (hgood w hw) (hat w hw)
  have hU' : vx_Zq Bundle.tN "UNASSIGNED_STACK" Bundle.steD A ((T.setVm s.vm).setFrames (.invoking m args :: below)) ((T.setVm s.vm).setFrames (.invoking m args :: below)).heap := by rw [hhp]; exact vx_Zq.moved hW0.alike (hU.kept hS.2.1)
  have hN' : vx_Zq Bundle.tN "SUPPRESSED_SENTINEL" Bundle.listD A ((T.setVm s.vm).setFrames (.invoking m args :: below)) ((T.setVm s.vm).setFrames (.invoking m args :: below)).heap := by rw [hhp]; exact vx_Zq.moved hW0.alike (hN.kept hS.2.1)
  obtain ⟨S, q, ce, st, Z, hce, hcl', hv⟩ := vx_npeAt Y hexec htr (n := nb) (vx_own hat' (vx_isRefq hU'.1) (vx_isRefq hN'.1) hU'.2.word hN'.2.word) (fun x hx => nomatch hx)
    (g := F0 m pc ls rest) rfl hsize hRframes (by show 2 * 0 + (rest.map fun v => v.category).sum + 10240 ≤ R.locals; omega) (by show 0 + 1 ≤ 1; omega) (by show 0 + nb ≤ nb; omega) hlocks
  obtain ⟨f1, f2⟩ := vx_frame Z.same
  have f1' : H.size ≤ S.heap.size := by rw [← hT]; exact f1
  have f2' : ∀ q : Nat, q < H.size → S.heap[q]? = H[q]? := fun q hq => by
    rw [← hT]
    exact f2 q (by rw [← hT] at hq; exact hq) (fun z hz => nomatch hz)
  have X5 := vx_back9 X Y Z
  have X6 : Stand p l e R s m args below meth c S locs (cells + 1) (slots + nb) := { X5 with same := X5.same.mono (by omega) (by omega) }
  obtain ⟨t, a1, b1⟩ := k S.heap q ce f1' f2' ⟨Nat.le_trans hS.1 f1', fun q h1 h2 => (f2' q (Nat.lt_of_lt_of_le h1 hS.1)).trans (hS.2.1 q h1 h2), hS.2.2⟩ hce hv hcl' S rfl X6
  exact ⟨t, st t a1, b1⟩
variable {Q : State → Prop} {cc : ByteArray} {pc : Nat} {ls : Array Slot} {rest : List Value}
theorem vx_idivZ (hexec : p.tables.exec = Jvm.exec) (hb : c.code = cc) {a b : Int32} (h0 : b = 0) (d : decode cc pc = .ok (.idiv, 1)) (k : vx_Note p l e R s m args below meth c H locs cells slots Q (F0 m pc ls rest) "java/lang/ArithmeticException" "/ by zero") :
    W p l e R s m args below meth c H locs cells slots Q (F0 m pc ls (.int b :: .int a :: rest)) := by
  intro T hT X
  obtain ⟨t, st, q⟩ := k T hT X
  exact ⟨t, X.idivZero hexec (g := F0 m pc ls (.int b :: .int a :: rest)) rfl (a := a) (rest := rest) (by rw [h0]) (by rw [hb]; exact d) t st, q⟩
theorem vx_iremZ (hexec : p.tables.exec = Jvm.exec) (hb : c.code = cc) {a b : Int32} (h0 : b = 0) (d : decode cc pc = .ok (.irem, 1)) (k : vx_Note p l e R s m args below meth c H locs cells slots Q (F0 m pc ls rest) "java/lang/ArithmeticException" "/ by zero") :
    W p l e R s m args below meth c H locs cells slots Q (F0 m pc ls (.int b :: .int a :: rest)) := by
  intro T hT X
  obtain ⟨t, st, q⟩ := k T hT X
  exact ⟨t, X.iremZero hexec (g := F0 m pc ls (.int b :: .int a :: rest)) rfl (a := a) (rest := rest) (by rw [h0]) (by rw [hb]; exact d) t st, q⟩
theorem vx_ldivZ (hexec : p.tables.exec = Jvm.exec) (hb : c.code = cc) {a b : Int64} (h0 : b = 0) (d : decode cc pc = .ok (.ldiv, 1)) (k : vx_Note p l e R s m args below meth c H locs cells slots Q (F0 m pc ls rest) "java/lang/ArithmeticException" "/ by zero") :
    W p l e R s m args below meth c H locs cells slots Q (F0 m pc ls (.long b :: .long a :: rest)) := by
  intro T hT X
  obtain ⟨t, st, q⟩ := k T hT X
  exact ⟨t, X.ldivZero hexec (g := F0 m pc ls (.long b :: .long a :: rest)) rfl (a := a) (rest := rest) (by rw [h0]) (by rw [hb]; exact d) t st, q⟩
theorem vx_lremZ (hexec : p.tables.exec = Jvm.exec) (hb : c.code = cc) {a b : Int64} (h0 : b = 0) (d : decode cc pc = .ok (.lrem, 1)) (k : vx_Note p l e R s m args below meth c H locs cells slots Q (F0 m pc ls rest) "java/lang/ArithmeticException" "/ by zero") :
    W p l e R s m args below meth c H locs cells slots Q (F0 m pc ls (.long b :: .long a :: rest)) := by
  intro T hT X
  obtain ⟨t, st, q⟩ := k T hT X
  exact ⟨t, X.lremZero hexec (g := F0 m pc ls (.long b :: .long a :: rest)) rfl (a := a) (rest := rest) (by rw [h0]) (by rw [hb]; exact d) t st, q⟩
theorem vx_ialdZ {D : va_G} {cl : List vw_C} {ws : va_W} {tys : List (ClassId × FieldType)} {a : Nat} (hexec : p.tables.exec = Jvm.exec) (hb : c.code = cc) (hK : va_K D cl tys s) (hP : va_P D cl ws H) (q0 t0 : Nat) {cA : ClassId} {n : Nat} {f : Nat → Int32} (ha : ws[q0]? = some (a, .inl (cA, n, .inl f))) (ht : tys[t0]? = some (cA, .int)) {i : Int32} (hout : ¬ vp_in i n) (hdg : decode cc pc = .ok (.iaload, 1))
    (k : ∀ tx : String, tx = (toString "Index " ++ toString i ++ toString " out of bounds for length " ++ toString n : String) → vx_Note p l e R s m args below meth c H locs cells slots Q (F0 m pc ls rest) "java/lang/ArrayIndexOutOfBoundsException" tx) : W p l e R s m args below meth c H locs cells slots Q (F0 m pc ls (.int i :: .ref a :: rest)) := by
  intro T hT X
  obtain ⟨t, st, q⟩ := k _ rfl T hT X
  refine ⟨t, ?_, q⟩
  have h1 := X.ialoadOut hexec (by rw [hT]; exact hP q0 _ ha) ((hK.2 t0 _ ht).1 n (fun j => .int (f j))) (j := i) (by show (i < 0 ∨ (arrV _ _ _).slots.size ≤ _); rw [arrV_size]; exact Classical.byContradiction hout) (g := F0 m pc ls (.int i :: .ref a :: rest)) rfl (rest := rest) rfl (by rw [hb]; exact hdg) t
  simp only [arrV_size] at h1
  exact h1 st
theorem vx_iastZ {D : va_G} {cl : List vw_C} {ws : va_W} {tys : List (ClassId × FieldType)} {a : Nat} (hexec : p.tables.exec = Jvm.exec) (hb : c.code = cc) (hK : va_K D cl tys s) (hP : va_P D cl ws H) (q0 t0 : Nat) {cA : ClassId} {n : Nat} {f : Nat → Int32} (ha : ws[q0]? = some (a, .inl (cA, n, .inl f))) (ht : tys[t0]? = some (cA, .int)) {i : Int32} {x : Int32} (hout : ¬ vp_in i n) (hdg : decode cc pc = .ok (.iastore, 1))
    (k : ∀ tx : String, tx = (toString "Index " ++ toString i ++ toString " out of bounds for length " ++ toString n : String) → vx_Note p l e R s m args below meth c H locs cells slots Q (F0 m pc ls rest) "java/lang/ArrayIndexOutOfBoundsException" tx) : W p l e R s m args below meth c H locs cells slots Q (F0 m pc ls (.int x :: .int i :: .ref a :: rest)) := by
  intro T hT X
  obtain ⟨t, st, q⟩ := k _ rfl T hT X
  refine ⟨t, ?_, q⟩
  have h1 := X.iastoreOut hexec (by rw [hT]; exact hP q0 _ ha) ((hK.2 t0 _ ht).1 n (fun j => .int (f j))) (j := i) (by show (i < 0 ∨ (arrV _ _ _).slots.size ≤ _); rw [arrV_size]; exact Classical.byContradiction hout) (g := F0 m pc ls (.int x :: .int i :: .ref a :: rest)) rfl (rest := rest) rfl (by rw [hb]; exact hdg) t
  simp only [arrV_size] at h1
  exact h1 st
theorem vx_baldZ {D : va_G} {cl : List vw_C} {ws : va_W} {tys : List (ClassId × FieldType)} {a : Nat} (hexec : p.tables.exec = Jvm.exec) (hb : c.code = cc) (hK : va_K D cl tys s) (hP : va_P D cl ws H) (q0 t0 : Nat) {cA : ClassId} {n : Nat} {f : Nat → Int32} (ha : ws[q0]? = some (a, .inl (cA, n, .inl f))) (ht : tys[t0]? = some (cA, .byte)) {i : Int32} (hout : ¬ vp_in i n) (hdg : decode cc pc = .ok (.baload, 1))
    (k : ∀ tx : String, tx = (toString "Index " ++ toString i ++ toString " out of bounds for length " ++ toString n : String) → vx_Note p l e R s m args below meth c H locs cells slots Q (F0 m pc ls rest) "java/lang/ArrayIndexOutOfBoundsException" tx) : W p l e R s m args below meth c H locs cells slots Q (F0 m pc ls (.int i :: .ref a :: rest)) := by
  intro T hT X
  obtain ⟨t, st, q⟩ := k _ rfl T hT X
  refine ⟨t, ?_, q⟩
  have h1 := X.baloadOut hexec (by rw [hT]; exact hP q0 _ ha) ((hK.2 t0 _ ht).1 n (fun j => .int (f j))) (j := i) (by show (i < 0 ∨ (arrV _ _ _).slots.size ≤ _); rw [arrV_size]; exact Classical.byContradiction hout) (g := F0 m pc ls (.int i :: .ref a :: rest)) rfl (rest := rest) rfl (by rw [hb]; exact hdg) t
  simp only [arrV_size] at h1
  exact h1 st
theorem vx_bastZ {D : va_G} {cl : List vw_C} {ws : va_W} {tys : List (ClassId × FieldType)} {a : Nat} (hexec : p.tables.exec = Jvm.exec) (hb : c.code = cc) (hK : va_K D cl tys s) (hP : va_P D cl ws H) (q0 t0 : Nat) {cA : ClassId} {n : Nat} {f : Nat → Int32} (ha : ws[q0]? = some (a, .inl (cA, n, .inl f))) (ht : tys[t0]? = some (cA, .byte)) {i : Int32} {x : Int32} (hout : ¬ vp_in i n) (hdg : decode cc pc = .ok (.bastore, 1))
    (k : ∀ tx : String, tx = (toString "Index " ++ toString i ++ toString " out of bounds for length " ++ toString n : String) → vx_Note p l e R s m args below meth c H locs cells slots Q (F0 m pc ls rest) "java/lang/ArrayIndexOutOfBoundsException" tx) : W p l e R s m args below meth c H locs cells slots Q (F0 m pc ls (.int x :: .int i :: .ref a :: rest)) := by
  intro T hT X
  obtain ⟨t, st, q⟩ := k _ rfl T hT X
  refine ⟨t, ?_, q⟩
  have h1 := X.bastoreOut hexec (by rw [hT]; exact hP q0 _ ha) ((hK.2 t0 _ ht).1 n (fun j => .int (f j))) (j := i) (by show (i < 0 ∨ (arrV _ _ _).slots.size ≤ _); rw [arrV_size]; exact Classical.byContradiction hout) (g := F0 m pc ls (.int x :: .int i :: .ref a :: rest)) rfl (rest := rest) rfl (by rw [hb]; exact hdg) t
  simp only [arrV_size] at h1
  exact h1 st
theorem vx_zaldZ {D : va_G} {cl : List vw_C} {ws : va_W} {tys : List (ClassId × FieldType)} {a : Nat} (hexec : p.tables.exec = Jvm.exec) (hb : c.code = cc) (hK : va_K D cl tys s) (hP : va_P D cl ws H) (q0 t0 : Nat) {cA : ClassId} {n : Nat} {f : Nat → Int32} (ha : ws[q0]? = some (a, .inl (cA, n, .inl f))) (ht : tys[t0]? = some (cA, .boolean)) {i : Int32} (hout : ¬ vp_in i n) (hdg : decode cc pc = .ok (.baload, 1))
    (k : ∀ tx : String, tx = (toString "Index " ++ toString i ++ toString " out of bounds for length " ++ toString n : String) → vx_Note p l e R s m args below meth c H locs cells slots Q (F0 m pc ls rest) "java/lang/ArrayIndexOutOfBoundsException" tx) : W p l e R s m args below meth c H locs cells slots Q (F0 m pc ls (.int i :: .ref a :: rest)) := by
  intro T hT X
  obtain ⟨t, st, q⟩ := k _ rfl T hT X
  refine ⟨t, ?_, q⟩
  have h1 := X.baloadOut hexec (by rw [hT]; exact hP q0 _ ha) ((hK.2 t0 _ ht).1 n (fun j => .int (f j))) (j := i) (by show (i < 0 ∨ (arrV _ _ _).slots.size ≤ _); rw [arrV_size]; exact Classical.byContradiction hout) (g := F0 m pc ls (.int i :: .ref a :: rest)) rfl (rest := rest) rfl (by rw [hb]; exact hdg) t
  simp only [arrV_size] at h1
  exact h1 st
theorem vx_zastZ {D : va_G} {cl : List vw_C} {ws : va_W} {tys : List (ClassId × FieldType)} {a : Nat} (hexec : p.tables.exec = Jvm.exec) (hb : c.code = cc) (hK : va_K D cl tys s) (hP : va_P D cl ws H) (q0 t0 : Nat) {cA : ClassId} {n : Nat} {f : Nat → Int32} (ha : ws[q0]? = some (a, .inl (cA, n, .inl f))) (ht : tys[t0]? = some (cA, .boolean)) {i : Int32} {x : Int32} (hout : ¬ vp_in i n) (hdg : decode cc pc = .ok (.bastore, 1))
    (k : ∀ tx : String, tx = (toString "Index " ++ toString i ++ toString " out of bounds for length " ++ toString n : String) → vx_Note p l e R s m args below meth c H locs cells slots Q (F0 m pc ls rest) "java/lang/ArrayIndexOutOfBoundsException" tx) : W p l e R s m args below meth c H locs cells slots Q (F0 m pc ls (.int x :: .int i :: .ref a :: rest)) := by
  intro T hT X
  obtain ⟨t, st, q⟩ := k _ rfl T hT X
  refine ⟨t, ?_, q⟩
  have h1 := X.bastoreOut hexec (by rw [hT]; exact hP q0 _ ha) ((hK.2 t0 _ ht).1 n (fun j => .int (f j))) (j := i) (by show (i < 0 ∨ (arrV _ _ _).slots.size ≤ _); rw [arrV_size]; exact Classical.byContradiction hout) (g := F0 m pc ls (.int x :: .int i :: .ref a :: rest)) rfl (rest := rest) rfl (by rw [hb]; exact hdg) t
  simp only [arrV_size] at h1
  exact h1 st
theorem vx_caldZ {D : va_G} {cl : List vw_C} {ws : va_W} {tys : List (ClassId × FieldType)} {a : Nat} (hexec : p.tables.exec = Jvm.exec) (hb : c.code = cc) (hK : va_K D cl tys s) (hP : va_P D cl ws H) (q0 t0 : Nat) {cA : ClassId} {n : Nat} {f : Nat → Int32} (ha : ws[q0]? = some (a, .inl (cA, n, .inl f))) (ht : tys[t0]? = some (cA, .char)) {i : Int32} (hout : ¬ vp_in i n) (hdg : decode cc pc = .ok (.caload, 1))
    (k : ∀ tx : String, tx = (toString "Index " ++ toString i ++ toString " out of bounds for length " ++ toString n : String) → vx_Note p l e R s m args below meth c H locs cells slots Q (F0 m pc ls rest) "java/lang/ArrayIndexOutOfBoundsException" tx) : W p l e R s m args below meth c H locs cells slots Q (F0 m pc ls (.int i :: .ref a :: rest)) := by
  intro T hT X
  obtain ⟨t, st, q⟩ := k _ rfl T hT X
  refine ⟨t, ?_, q⟩
  have h1 := X.caloadOut hexec (by rw [hT]; exact hP q0 _ ha) ((hK.2 t0 _ ht).1 n (fun j => .int (f j))) (j := i) (by show (i < 0 ∨ (arrV _ _ _).slots.size ≤ _); rw [arrV_size]; exact Classical.byContradiction hout) (g := F0 m pc ls (.int i :: .ref a :: rest)) rfl (rest := rest) rfl (by rw [hb]; exact hdg) t
  simp only [arrV_size] at h1
  exact h1 st
theorem vx_castZ {D : va_G} {cl : List vw_C} {ws : va_W} {tys : List (ClassId × FieldType)} {a : Nat} (hexec : p.tables.exec = Jvm.exec) (hb : c.code = cc) (hK : va_K D cl tys s) (hP : va_P D cl ws H) (q0 t0 : Nat) {cA : ClassId} {n : Nat} {f : Nat → Int32} (ha : ws[q0]? = some (a, .inl (cA, n, .inl f))) (ht : tys[t0]? = some (cA, .char)) {i : Int32} {x : Int32} (hout : ¬ vp_in i n) (hdg : decode cc pc = .ok (.castore, 1))
    (k : ∀ tx : String, tx = (toString "Index " ++ toString i ++ toString " out of bounds for length " ++ toString n : String) → vx_Note p l e R s m args below meth c H locs cells slots Q (F0 m pc ls rest) "java/lang/ArrayIndexOutOfBoundsException" tx) : W p l e R s m args below meth c H locs cells slots Q (F0 m pc ls (.int x :: .int i :: .ref a :: rest)) := by
  intro T hT X
  obtain ⟨t, st, q⟩ := k _ rfl T hT X
  refine ⟨t, ?_, q⟩
  have h1 := X.castoreOut hexec (by rw [hT]; exact hP q0 _ ha) ((hK.2 t0 _ ht).1 n (fun j => .int (f j))) (j := i) (by show (i < 0 ∨ (arrV _ _ _).slots.size ≤ _); rw [arrV_size]; exact Classical.byContradiction hout) (g := F0 m pc ls (.int x :: .int i :: .ref a :: rest)) rfl (rest := rest) rfl (by rw [hb]; exact hdg) t
  simp only [arrV_size] at h1
  exact h1 st
theorem vx_saldZ {D : va_G} {cl : List vw_C} {ws : va_W} {tys : List (ClassId × FieldType)} {a : Nat} (hexec : p.tables.exec = Jvm.exec) (hb : c.code = cc) (hK : va_K D cl tys s) (hP : va_P D cl ws H) (q0 t0 : Nat) {cA : ClassId} {n : Nat} {f : Nat → Int32} (ha : ws[q0]? = some (a, .inl (cA, n, .inl f))) (ht : tys[t0]? = some (cA, .short)) {i : Int32} (hout : ¬ vp_in i n) (hdg : decode cc pc = .ok (.saload, 1))
    (k : ∀ tx : String, tx = (toString "Index " ++ toString i ++ toString " out of bounds for length " ++ toString n : String) → vx_Note p l e R s m args below meth c H locs cells slots Q (F0 m pc ls rest) "java/lang/ArrayIndexOutOfBoundsException" tx) : W p l e R s m args below meth c H locs cells slots Q (F0 m pc ls (.int i :: .ref a :: rest)) := by
  intro T hT X
  obtain ⟨t, st, q⟩ := k _ rfl T hT X
  refine ⟨t, ?_, q⟩
  have h1 := X.saloadOut hexec (by rw [hT]; exact hP q0 _ ha) ((hK.2 t0 _ ht).1 n (fun j => .int (f j))) (j := i) (by show (i < 0 ∨ (arrV _ _ _).slots.size ≤ _); rw [arrV_size]; exact Classical.byContradiction hout) (g := F0 m pc ls (.int i :: .ref a :: rest)) rfl (rest := rest) rfl (by rw [hb]; exact hdg) t
  simp only [arrV_size] at h1
  exact h1 st
theorem vx_sastZ {D : va_G} {cl : List vw_C} {ws : va_W} {tys : List (ClassId × FieldType)} {a : Nat} (hexec : p.tables.exec = Jvm.exec) (hb : c.code = cc) (hK : va_K D cl tys s) (hP : va_P D cl ws H) (q0 t0 : Nat) {cA : ClassId} {n : Nat} {f : Nat → Int32} (ha : ws[q0]? = some (a, .inl (cA, n, .inl f))) (ht : tys[t0]? = some (cA, .short)) {i : Int32} {x : Int32} (hout : ¬ vp_in i n) (hdg : decode cc pc = .ok (.sastore, 1))
    (k : ∀ tx : String, tx = (toString "Index " ++ toString i ++ toString " out of bounds for length " ++ toString n : String) → vx_Note p l e R s m args below meth c H locs cells slots Q (F0 m pc ls rest) "java/lang/ArrayIndexOutOfBoundsException" tx) : W p l e R s m args below meth c H locs cells slots Q (F0 m pc ls (.int x :: .int i :: .ref a :: rest)) := by
  intro T hT X
  obtain ⟨t, st, q⟩ := k _ rfl T hT X
  refine ⟨t, ?_, q⟩
  have h1 := X.sastoreOut hexec (by rw [hT]; exact hP q0 _ ha) ((hK.2 t0 _ ht).1 n (fun j => .int (f j))) (j := i) (by show (i < 0 ∨ (arrV _ _ _).slots.size ≤ _); rw [arrV_size]; exact Classical.byContradiction hout) (g := F0 m pc ls (.int x :: .int i :: .ref a :: rest)) rfl (rest := rest) rfl (by rw [hb]; exact hdg) t
  simp only [arrV_size] at h1
  exact h1 st
theorem vx_laldZ {D : va_G} {cl : List vw_C} {ws : va_W} {tys : List (ClassId × FieldType)} {a : Nat} (hexec : p.tables.exec = Jvm.exec) (hb : c.code = cc) (hK : va_K D cl tys s) (hP : va_P D cl ws H) (q0 t0 : Nat) {cA : ClassId} {n : Nat} {f : Nat → Int64} (ha : ws[q0]? = some (a, .inl (cA, n, .inr (.inl f)))) (ht : tys[t0]? = some (cA, .long)) {i : Int32} (hout : ¬ vp_in i n) (hdg : decode cc pc = .ok (.laload, 1))
    (k : ∀ tx : String, tx = (toString "Index " ++ toString i ++ toString " out of bounds for length " ++ toString n : String) → vx_Note p l e R s m args below meth c H locs cells slots Q (F0 m pc ls rest) "java/lang/ArrayIndexOutOfBoundsException" tx) : W p l e R s m args below meth c H locs cells slots Q (F0 m pc ls (.int i :: .ref a :: rest)) := by
  intro T hT X
  obtain ⟨t, st, q⟩ := k _ rfl T hT X
  refine ⟨t, ?_, q⟩
  have h1 := X.laloadOut hexec (by rw [hT]; exact hP q0 _ ha) ((hK.2 t0 _ ht).1 n (fun j => .long (f j))) (j := i) (by show (i < 0 ∨ (arrV _ _ _).slots.size ≤ _); rw [arrV_size]; exact Classical.byContradiction hout) (g := F0 m pc ls (.int i :: .ref a :: rest)) rfl (rest := rest) rfl (by rw [hb]; exact hdg) t
  simp only [arrV_size] at h1
  exact h1 st
theorem vx_lastZ {D : va_G} {cl : List vw_C} {ws : va_W} {tys : List (ClassId × FieldType)} {a : Nat} (hexec : p.tables.exec = Jvm.exec) (hb : c.code = cc) (hK : va_K D cl tys s) (hP : va_P D cl ws H) (q0 t0 : Nat) {cA : ClassId} {n : Nat} {f : Nat → Int64} (ha : ws[q0]? = some (a, .inl (cA, n, .inr (.inl f)))) (ht : tys[t0]? = some (cA, .long)) {i : Int32} {x : Int64} (hout : ¬ vp_in i n) (hdg : decode cc pc = .ok (.lastore, 1))
    (k : ∀ tx : String, tx = (toString "Index " ++ toString i ++ toString " out of bounds for length " ++ toString n : String) → vx_Note p l e R s m args below meth c H locs cells slots Q (F0 m pc ls rest) "java/lang/ArrayIndexOutOfBoundsException" tx) : W p l e R s m args below meth c H locs cells slots Q (F0 m pc ls (.long x :: .int i :: .ref a :: rest)) := by
  intro T hT X
  obtain ⟨t, st, q⟩ := k _ rfl T hT X
  refine ⟨t, ?_, q⟩
  have h1 := X.lastoreOut hexec (by rw [hT]; exact hP q0 _ ha) ((hK.2 t0 _ ht).1 n (fun j => .long (f j))) (j := i) (by show (i < 0 ∨ (arrV _ _ _).slots.size ≤ _); rw [arrV_size]; exact Classical.byContradiction hout) (g := F0 m pc ls (.long x :: .int i :: .ref a :: rest)) rfl (rest := rest) rfl (by rw [hb]; exact hdg) t
  simp only [arrV_size] at h1
  exact h1 st
theorem vx_faldZ {D : va_G} {cl : List vw_C} {ws : va_W} {tys : List (ClassId × FieldType)} {a : Nat} (hexec : p.tables.exec = Jvm.exec) (hb : c.code = cc) (hK : va_K D cl tys s) (hP : va_P D cl ws H) (q0 t0 : Nat) {cA : ClassId} {n : Nat} {f : Nat → UInt32} (ha : ws[q0]? = some (a, .inl (cA, n, .inr (.inr (.inl f))))) (ht : tys[t0]? = some (cA, .float)) {i : Int32} (hout : ¬ vp_in i n) (hdg : decode cc pc = .ok (.faload, 1))
    (k : ∀ tx : String, tx = (toString "Index " ++ toString i ++ toString " out of bounds for length " ++ toString n : String) → vx_Note p l e R s m args below meth c H locs cells slots Q (F0 m pc ls rest) "java/lang/ArrayIndexOutOfBoundsException" tx) : W p l e R s m args below meth c H locs cells slots Q (F0 m pc ls (.int i :: .ref a :: rest)) := by
  intro T hT X
  obtain ⟨t, st, q⟩ := k _ rfl T hT X
  refine ⟨t, ?_, q⟩
  have h1 := X.faloadOut hexec (by rw [hT]; exact hP q0 _ ha) ((hK.2 t0 _ ht).1 n (fun j => .float (f j))) (j := i) (by show (i < 0 ∨ (arrV _ _ _).slots.size ≤ _); rw [arrV_size]; exact Classical.byContradiction hout) (g := F0 m pc ls (.int i :: .ref a :: rest)) rfl (rest := rest) rfl (by rw [hb]; exact hdg) t
  simp only [arrV_size] at h1
  exact h1 st
theorem vx_fastZ {D : va_G} {cl : List vw_C} {ws : va_W} {tys : List (ClassId × FieldType)} {a : Nat} (hexec : p.tables.exec = Jvm.exec) (hb : c.code = cc) (hK : va_K D cl tys s) (hP : va_P D cl ws H) (q0 t0 : Nat) {cA : ClassId} {n : Nat} {f : Nat → UInt32} (ha : ws[q0]? = some (a, .inl (cA, n, .inr (.inr (.inl f))))) (ht : tys[t0]? = some (cA, .float)) {i : Int32} {x : UInt32} (hout : ¬ vp_in i n) (hdg : decode cc pc = .ok (.fastore, 1))
    (k : ∀ tx : String, tx = (toString "Index " ++ toString i ++ toString " out of bounds for length " ++ toString n : String) → vx_Note p l e R s m args below meth c H locs cells slots Q (F0 m pc ls rest) "java/lang/ArrayIndexOutOfBoundsException" tx) : W p l e R s m args below meth c H locs cells slots Q (F0 m pc ls (.float x :: .int i :: .ref a :: rest)) := by
  intro T hT X
  obtain ⟨t, st, q⟩ := k _ rfl T hT X
  refine ⟨t, ?_, q⟩
  have h1 := X.fastoreOut hexec (by rw [hT]; exact hP q0 _ ha) ((hK.2 t0 _ ht).1 n (fun j => .float (f j))) (j := i) (by show (i < 0 ∨ (arrV _ _ _).slots.size ≤ _); rw [arrV_size]; exact Classical.byContradiction hout) (g := F0 m pc ls (.float x :: .int i :: .ref a :: rest)) rfl (rest := rest) rfl (by rw [hb]; exact hdg) t
  simp only [arrV_size] at h1
  exact h1 st
theorem vx_daldZ {D : va_G} {cl : List vw_C} {ws : va_W} {tys : List (ClassId × FieldType)} {a : Nat} (hexec : p.tables.exec = Jvm.exec) (hb : c.code = cc) (hK : va_K D cl tys s) (hP : va_P D cl ws H) (q0 t0 : Nat) {cA : ClassId} {n : Nat} {f : Nat → UInt64} (ha : ws[q0]? = some (a, .inl (cA, n, .inr (.inr (.inr (.inl f)))))) (ht : tys[t0]? = some (cA, .double)) {i : Int32} (hout : ¬ vp_in i n) (hdg : decode cc pc = .ok (.daload, 1))
    (k : ∀ tx : String, tx = (toString "Index " ++ toString i ++ toString " out of bounds for length " ++ toString n : String) → vx_Note p l e R s m args below meth c H locs cells slots Q (F0 m pc ls rest) "java/lang/ArrayIndexOutOfBoundsException" tx) : W p l e R s m args below meth c H locs cells slots Q (F0 m pc ls (.int i :: .ref a :: rest)) := by
  intro T hT X
  obtain ⟨t, st, q⟩ := k _ rfl T hT X
  refine ⟨t, ?_, q⟩
  have h1 := X.daloadOut hexec (by rw [hT]; exact hP q0 _ ha) ((hK.2 t0 _ ht).1 n (fun j => .double (f j))) (j := i) (by show (i < 0 ∨ (arrV _ _ _).slots.size ≤ _); rw [arrV_size]; exact Classical.byContradiction hout) (g := F0 m pc ls (.int i :: .ref a :: rest)) rfl (rest := rest) rfl (by rw [hb]; exact hdg) t
  simp only [arrV_size] at h1
  exact h1 st
theorem vx_dastZ {D : va_G} {cl : List vw_C} {ws : va_W} {tys : List (ClassId × FieldType)} {a : Nat} (hexec : p.tables.exec = Jvm.exec) (hb : c.code = cc) (hK : va_K D cl tys s) (hP : va_P D cl ws H) (q0 t0 : Nat) {cA : ClassId} {n : Nat} {f : Nat → UInt64} (ha : ws[q0]? = some (a, .inl (cA, n, .inr (.inr (.inr (.inl f)))))) (ht : tys[t0]? = some (cA, .double)) {i : Int32} {x : UInt64} (hout : ¬ vp_in i n) (hdg : decode cc pc = .ok (.dastore, 1))
    (k : ∀ tx : String, tx = (toString "Index " ++ toString i ++ toString " out of bounds for length " ++ toString n : String) → vx_Note p l e R s m args below meth c H locs cells slots Q (F0 m pc ls rest) "java/lang/ArrayIndexOutOfBoundsException" tx) : W p l e R s m args below meth c H locs cells slots Q (F0 m pc ls (.double x :: .int i :: .ref a :: rest)) := by
  intro T hT X
  obtain ⟨t, st, q⟩ := k _ rfl T hT X
  refine ⟨t, ?_, q⟩
  have h1 := X.dastoreOut hexec (by rw [hT]; exact hP q0 _ ha) ((hK.2 t0 _ ht).1 n (fun j => .double (f j))) (j := i) (by show (i < 0 ∨ (arrV _ _ _).slots.size ≤ _); rw [arrV_size]; exact Classical.byContradiction hout) (g := F0 m pc ls (.double x :: .int i :: .ref a :: rest)) rfl (rest := rest) rfl (by rw [hb]; exact hdg) t
  simp only [arrV_size] at h1
  exact h1 st
theorem vx_arraylengthN (hexec : p.tables.exec = Jvm.exec) (hb : c.code = cc) (hdg : decode cc pc = .ok (.arraylength, 1)) (k : vx_NoteN p l e R s m args below meth c H locs cells slots Q (F0 m pc ls rest)) : W p l e R s m args below meth c H locs cells slots Q (F0 m pc ls (.null :: rest)) := by
  intro T hT X
  obtain ⟨t, st, q⟩ := k T hT X
  exact ⟨t, X.arraylengthNull hexec (g := F0 m pc ls (.null :: rest)) rfl (rest := rest) rfl (by rw [hb]; exact hdg) t st, q⟩
theorem vx_ialoadN (hexec : p.tables.exec = Jvm.exec) (hb : c.code = cc) {i : Int32} (hdg : decode cc pc = .ok (.iaload, 1)) (k : vx_NoteN p l e R s m args below meth c H locs cells slots Q (F0 m pc ls rest)) : W p l e R s m args below meth c H locs cells slots Q (F0 m pc ls (.int i :: .null :: rest)) := by
  intro T hT X
  obtain ⟨t, st, q⟩ := k T hT X
  exact ⟨t, X.ialoadNull hexec (g := F0 m pc ls (.int i :: .null :: rest)) rfl (rest := rest) rfl (by rw [hb]; exact hdg) t st, q⟩
theorem vx_laloadN (hexec : p.tables.exec = Jvm.exec) (hb : c.code = cc) {i : Int32} (hdg : decode cc pc = .ok (.laload, 1)) (k : vx_NoteN p l e R s m args below meth c H locs cells slots Q (F0 m pc ls rest)) : W p l e R s m args below meth c H locs cells slots Q (F0 m pc ls (.int i :: .null :: rest)) := by
  intro T hT X
  obtain ⟨t, st, q⟩ := k T hT X
  exact ⟨t, X.laloadNull hexec (g := F0 m pc ls (.int i :: .null :: rest)) rfl (rest := rest) rfl (by rw [hb]; exact hdg) t st, q⟩
theorem vx_faloadN (hexec : p.tables.exec = Jvm.exec) (hb : c.code = cc) {i : Int32} (hdg : decode cc pc = .ok (.faload, 1)) (k : vx_NoteN p l e R s m args below meth c H locs cells slots Q (F0 m pc ls rest)) : W p l e R s m args below meth c H locs cells slots Q (F0 m pc ls (.int i :: .null :: rest)) := by
  intro T hT X
  obtain ⟨t, st, q⟩ := k T hT X
  exact ⟨t, X.faloadNull hexec (g := F0 m pc ls (.int i :: .null :: rest)) rfl (rest := rest) rfl (by rw [hb]; exact hdg) t st, q⟩
theorem vx_daloadN (hexec : p.tables.exec = Jvm.exec) (hb : c.code = cc) {i : Int32} (hdg : decode cc pc = .ok (.daload, 1)) (k : vx_NoteN p l e R s m args below meth c H locs cells slots Q (F0 m pc ls rest)) : W p l e R s m args below meth c H locs cells slots Q (F0 m pc ls (.int i :: .null :: rest)) := by
  intro T hT X
  obtain ⟨t, st, q⟩ := k T hT X
  exact ⟨t, X.daloadNull hexec (g := F0 m pc ls (.int i :: .null :: rest)) rfl (rest := rest) rfl (by rw [hb]; exact hdg) t st, q⟩
theorem vx_aaloadN (hexec : p.tables.exec = Jvm.exec) (hb : c.code = cc) {i : Int32} (hdg : decode cc pc = .ok (.aaload, 1)) (k : vx_NoteN p l e R s m args below meth c H locs cells slots Q (F0 m pc ls rest)) : W p l e R s m args below meth c H locs cells slots Q (F0 m pc ls (.int i :: .null :: rest)) := by
  intro T hT X
  obtain ⟨t, st, q⟩ := k T hT X
  exact ⟨t, X.aaloadNull hexec (g := F0 m pc ls (.int i :: .null :: rest)) rfl (rest := rest) rfl (by rw [hb]; exact hdg) t st, q⟩
theorem vx_baloadN (hexec : p.tables.exec = Jvm.exec) (hb : c.code = cc) {i : Int32} (hdg : decode cc pc = .ok (.baload, 1)) (k : vx_NoteN p l e R s m args below meth c H locs cells slots Q (F0 m pc ls rest)) : W p l e R s m args below meth c H locs cells slots Q (F0 m pc ls (.int i :: .null :: rest)) := by
  intro T hT X
  obtain ⟨t, st, q⟩ := k T hT X
  exact ⟨t, X.baloadNull hexec (g := F0 m pc ls (.int i :: .null :: rest)) rfl (rest := rest) rfl (by rw [hb]; exact hdg) t st, q⟩
theorem vx_caloadN (hexec : p.tables.exec = Jvm.exec) (hb : c.code = cc) {i : Int32} (hdg : decode cc pc = .ok (.caload, 1)) (k : vx_NoteN p l e R s m args below meth c H locs cells slots Q (F0 m pc ls rest)) : W p l e R s m args below meth c H locs cells slots Q (F0 m pc ls (.int i :: .null :: rest)) := by
  intro T hT X
  obtain ⟨t, st, q⟩ := k T hT X
  exact ⟨t, X.caloadNull hexec (g := F0 m pc ls (.int i :: .null :: rest)) rfl (rest := rest) rfl (by rw [hb]; exact hdg) t st, q⟩
theorem vx_saloadN (hexec : p.tables.exec = Jvm.exec) (hb : c.code = cc) {i : Int32} (hdg : decode cc pc = .ok (.saload, 1)) (k : vx_NoteN p l e R s m args below meth c H locs cells slots Q (F0 m pc ls rest)) : W p l e R s m args below meth c H locs cells slots Q (F0 m pc ls (.int i :: .null :: rest)) := by
  intro T hT X
  obtain ⟨t, st, q⟩ := k T hT X
  exact ⟨t, X.saloadNull hexec (g := F0 m pc ls (.int i :: .null :: rest)) rfl (rest := rest) rfl (by rw [hb]; exact hdg) t st, q⟩
theorem vx_iastoreN (hexec : p.tables.exec = Jvm.exec) (hb : c.code = cc) {x : Int32} {i : Int32} (hdg : decode cc pc = .ok (.iastore, 1)) (k : vx_NoteN p l e R s m args below meth c H locs cells slots Q (F0 m pc ls rest)) : W p l e R s m args below meth c H locs cells slots Q (F0 m pc ls (.int x :: .int i :: .null :: rest)) := by
  intro T hT X
  obtain ⟨t, st, q⟩ := k T hT X
  exact ⟨t, X.iastoreNull hexec (g := F0 m pc ls (.int x :: .int i :: .null :: rest)) rfl (rest := rest) rfl (by rw [hb]; exact hdg) t st, q⟩
theorem vx_lastoreN (hexec : p.tables.exec = Jvm.exec) (hb : c.code = cc) {x : Int64} {i : Int32} (hdg : decode cc pc = .ok (.lastore, 1)) (k : vx_NoteN p l e R s m args below meth c H locs cells slots Q (F0 m pc ls rest)) : W p l e R s m args below meth c H locs cells slots Q (F0 m pc ls (.long x :: .int i :: .null :: rest)) := by
  intro T hT X
  obtain ⟨t, st, q⟩ := k T hT X
  exact ⟨t, X.lastoreNull hexec (g := F0 m pc ls (.long x :: .int i :: .null :: rest)) rfl (rest := rest) rfl (by rw [hb]; exact hdg) t st, q⟩
theorem vx_fastoreN (hexec : p.tables.exec = Jvm.exec) (hb : c.code = cc) {x : UInt32} {i : Int32} (hdg : decode cc pc = .ok (.fastore, 1)) (k : vx_NoteN p l e R s m args below meth c H locs cells slots Q (F0 m pc ls rest)) : W p l e R s m args below meth c H locs cells slots Q (F0 m pc ls (.float x :: .int i :: .null :: rest)) := by
  intro T hT X
  obtain ⟨t, st, q⟩ := k T hT X
  exact ⟨t, X.fastoreNull hexec (g := F0 m pc ls (.float x :: .int i :: .null :: rest)) rfl (rest := rest) rfl (by rw [hb]; exact hdg) t st, q⟩
theorem vx_dastoreN (hexec : p.tables.exec = Jvm.exec) (hb : c.code = cc) {x : UInt64} {i : Int32} (hdg : decode cc pc = .ok (.dastore, 1)) (k : vx_NoteN p l e R s m args below meth c H locs cells slots Q (F0 m pc ls rest)) : W p l e R s m args below meth c H locs cells slots Q (F0 m pc ls (.double x :: .int i :: .null :: rest)) := by
  intro T hT X
  obtain ⟨t, st, q⟩ := k T hT X
  exact ⟨t, X.dastoreNull hexec (g := F0 m pc ls (.double x :: .int i :: .null :: rest)) rfl (rest := rest) rfl (by rw [hb]; exact hdg) t st, q⟩
theorem vx_bastoreN (hexec : p.tables.exec = Jvm.exec) (hb : c.code = cc) {x : Int32} {i : Int32} (hdg : decode cc pc = .ok (.bastore, 1)) (k : vx_NoteN p l e R s m args below meth c H locs cells slots Q (F0 m pc ls rest)) : W p l e R s m args below meth c H locs cells slots Q (F0 m pc ls (.int x :: .int i :: .null :: rest)) := by
  intro T hT X
  obtain ⟨t, st, q⟩ := k T hT X
  exact ⟨t, X.bastoreNull hexec (g := F0 m pc ls (.int x :: .int i :: .null :: rest)) rfl (rest := rest) rfl (by rw [hb]; exact hdg) t st, q⟩
theorem vx_castoreN (hexec : p.tables.exec = Jvm.exec) (hb : c.code = cc) {x : Int32} {i : Int32} (hdg : decode cc pc = .ok (.castore, 1)) (k : vx_NoteN p l e R s m args below meth c H locs cells slots Q (F0 m pc ls rest)) : W p l e R s m args below meth c H locs cells slots Q (F0 m pc ls (.int x :: .int i :: .null :: rest)) := by
  intro T hT X
  obtain ⟨t, st, q⟩ := k T hT X
  exact ⟨t, X.castoreNull hexec (g := F0 m pc ls (.int x :: .int i :: .null :: rest)) rfl (rest := rest) rfl (by rw [hb]; exact hdg) t st, q⟩
theorem vx_sastoreN (hexec : p.tables.exec = Jvm.exec) (hb : c.code = cc) {x : Int32} {i : Int32} (hdg : decode cc pc = .ok (.sastore, 1)) (k : vx_NoteN p l e R s m args below meth c H locs cells slots Q (F0 m pc ls rest)) : W p l e R s m args below meth c H locs cells slots Q (F0 m pc ls (.int x :: .int i :: .null :: rest)) := by
  intro T hT X
  obtain ⟨t, st, q⟩ := k T hT X
  exact ⟨t, X.sastoreNull hexec (g := F0 m pc ls (.int x :: .int i :: .null :: rest)) rfl (rest := rest) rfl (by rw [hb]; exact hdg) t st, q⟩
theorem vx_invokeN {own C : String} {index maxL : Nat} {y : MethodName} {bytes : ByteArray} {ret : Option FieldType} (hexec : p.tables.exec = Jvm.exec) (hb : c.code = cc) (hown : s.vm.findClass own = some m.cls) (hlink : (Cond.methodLink own index y).before args s = true) (hinst : (Cond.instanceMethod y).before args s = true) (hcode : (Cond.code y bytes maxL ret).before args s = true) (hsel : (Cond.selects C y y).before args s = true)
    (hx : y.cls ≠ "java/lang/invoke/MethodHandle" ∧ y.cls ≠ "java/lang/invoke/VarHandle") {As : List Value} (hlen : (parseMethodDescriptor y.desc).map (fun d => d.parameters.length) = some As.length) (hdg : decode cc pc = .ok (.invokevirtual index, 3))
    (k : vx_NoteN p l e R s m args below meth c H locs cells slots Q (F0 m pc ls rest)) {st0 : List Value} (hst : st0 = As.reverse ++ .null :: rest) : W p l e R s m args below meth c H locs cells slots Q (F0 m pc ls st0) := by
  intro T hT X
  obtain ⟨r0, r, hn, hrm, hstR, hsigR⟩ := va_Decl.of hinst hcode
  obtain ⟨c2, r2, m2, q1, q2, q3, q4, kP, hkP, hkPi⟩ := Cond.selects_spec hsel
  cases hn.symm.trans q3
  have hl9 : As.length = r.sig.parameters.length := by
    rw [hsigR] at hlen
    exact (Option.some.inj hlen).symm
  obtain ⟨vm', X1, st1⟩ := X.invokevirtualNull hexec hown hlink hn hrm hstR hkP hkPi hx (g := F0 m pc ls st0) rfl (argsL := As) (rest := rest) hl9 hst (by rw [hb]; exact hdg)
  obtain ⟨t, st, q⟩ := k (T.setVm vm') hT X1
  exact ⟨t, st1 t st, q⟩
theorem vx_newarrayZ {atype : ArrayType} (hexec : p.tables.exec = Jvm.exec) (hb : c.code = cc) {n : Int32} (h0 : n < 0) (hdg : decode cc pc = .ok (.newarray atype, 2)) (k : ∀ tx : String, tx = toString n → vx_Note p l e R s m args below meth c H locs cells slots Q (F0 m pc ls rest) "java/lang/NegativeArraySizeException" tx) : W p l e R s m args below meth c H locs cells slots Q (F0 m pc ls (.int n :: rest)) := by
  intro T hT X
  obtain ⟨t, st, q⟩ := k _ rfl T hT X
  exact ⟨t, X.newarrayNegative hexec (g := F0 m pc ls (.int n :: rest)) rfl h0 (rest := rest) rfl (by rw [hb]; exact hdg) t st, q⟩
end
end VXM
/-! ===== END ===== -/
end
section
def RX0 : String := "GrievanceOmbud$Book"
def TX0 : u_T := fun k => match k with
  | 0 => ("GrievanceOmbud$Book", "offices", "[LGrievanceOmbud$Office;", true)
  | 1 => ("GrievanceOmbud$Book", "complaints", "[LGrievanceOmbud$Complaint;", true)
  | 2 => ("GrievanceOmbud$Book", "weights", "[I", true)
  | 3 => ("GrievanceOmbud$Book", "officeCount", "I", false)
  | 4 => ("GrievanceOmbud$Book", "complaintCount", "I", false)
  | _ => ("GrievanceOmbud$Book", "day", "I", false)
def tyX0 : Nat → FieldType := fun k => match k with
  | 0 => .array (.object "GrievanceOmbud$Office")
  | 1 => .array (.object "GrievanceOmbud$Complaint")
  | 2 => .array .int
  | 3 => .int
  | 4 => .int
  | _ => .int
abbrev wsX00 : List Cond := u_ws RX0 TX0 6
theorem nmX0 : ∀ a, a < 6 → ∀ b, b < 6 → a ≠ b → (TX0 a).2.1 ≠ (TX0 b).2.1 := by decide +kernel
theorem tyX0_ok : ∀ k, k < 6 → parseFieldDescriptor (TX0 k).2.2.1 = some (tyX0 k) := by decide +kernel
abbrev cX0_init : ByteArray := prog_2_method_1_code
def yX0_init : MethodName := ⟨RX0, "<init>", "()V"⟩
abbrev cX0_open : ByteArray := prog_2_method_2_code
def yX0_open : MethodName := ⟨RX0, "open", "()V"⟩
abbrev cX0_apply : ByteArray := prog_2_method_3_code
def yX0_apply : MethodName := ⟨RX0, "apply", "(IIIII)I"⟩
abbrev cX0_applyAtIntake : ByteArray := prog_2_method_4_code
def yX0_applyAtIntake : MethodName := ⟨RX0, "applyAtIntake", "(ILGrievanceOmbud$Complaint;I)I"⟩
abbrev cX0_applyToCase : ByteArray := prog_2_method_5_code
def yX0_applyToCase : MethodName := ⟨RX0, "applyToCase", "(ILGrievanceOmbud$Complaint;I)I"⟩
abbrev cX0_openOffice : ByteArray := prog_2_method_6_code
def yX0_openOffice : MethodName := ⟨RX0, "openOffice", "(II)I"⟩
abbrev cX0_weigh : ByteArray := prog_2_method_7_code
def yX0_weigh : MethodName := ⟨RX0, "weigh", "(II)I"⟩
abbrev cX0_hear : ByteArray := prog_2_method_8_code
def yX0_hear : MethodName := ⟨RX0, "hear", "(IIII)I"⟩
abbrev cX0_tellOfCourt : ByteArray := prog_2_method_9_code
def yX0_tellOfCourt : MethodName := ⟨RX0, "tellOfCourt", "(LGrievanceOmbud$Complaint;Z)I"⟩
abbrev cX0_tellOfReason : ByteArray := prog_2_method_10_code
def yX0_tellOfReason : MethodName := ⟨RX0, "tellOfReason", "(LGrievanceOmbud$Complaint;)I"⟩
abbrev cX0_intakeOf : ByteArray := prog_2_method_11_code
def yX0_intakeOf : MethodName := ⟨RX0, "intakeOf", "(LGrievanceOmbud$Complaint;)C"⟩
abbrev cX0_putToOffice : ByteArray := prog_2_method_12_code
def yX0_putToOffice : MethodName := ⟨RX0, "putToOffice", "(LGrievanceOmbud$Complaint;)I"⟩
abbrev cX0_giveTime : ByteArray := prog_2_method_13_code
def yX0_giveTime : MethodName := ⟨RX0, "giveTime", "(LGrievanceOmbud$Complaint;I)I"⟩
abbrev cX0_urge : ByteArray := prog_2_method_14_code
def yX0_urge : MethodName := ⟨RX0, "urge", "(LGrievanceOmbud$Complaint;)I"⟩
abbrev cX0_putBehind : ByteArray := prog_2_method_15_code
def yX0_putBehind : MethodName := ⟨RX0, "putBehind", "(LGrievanceOmbud$Complaint;I)I"⟩
abbrev cX0_setFree : ByteArray := prog_2_method_16_code
def yX0_setFree : MethodName := ⟨RX0, "setFree", "(LGrievanceOmbud$Complaint;)I"⟩
abbrev cX0_conclude : ByteArray := prog_2_method_17_code
def yX0_conclude : MethodName := ⟨RX0, "conclude", "(LGrievanceOmbud$Complaint;I)I"⟩
abbrev cX0_insist : ByteArray := prog_2_method_18_code
def yX0_insist : MethodName := ⟨RX0, "insist", "(LGrievanceOmbud$Complaint;)I"⟩
abbrev cX0_takeBack : ByteArray := prog_2_method_19_code
def yX0_takeBack : MethodName := ⟨RX0, "takeBack", "(LGrievanceOmbud$Complaint;)I"⟩
abbrev cX0_moveAll : ByteArray := prog_2_method_20_code
def yX0_moveAll : MethodName := ⟨RX0, "moveAll", "(LGrievanceOmbud$Complaint;C)I"⟩
abbrev cX0_leadOf : ByteArray := prog_2_method_21_code
def yX0_leadOf : MethodName := ⟨RX0, "leadOf", "(LGrievanceOmbud$Complaint;)LGrievanceOmbud$Complaint;"⟩
abbrev cX0_officeOf : ByteArray := prog_2_method_22_code
def yX0_officeOf : MethodName := ⟨RX0, "officeOf", "(LGrievanceOmbud$Complaint;)LGrievanceOmbud$Office;"⟩
abbrev cX0_followersOf : ByteArray := prog_2_method_23_code
def yX0_followersOf : MethodName := ⟨RX0, "followersOf", "(LGrievanceOmbud$Complaint;)I"⟩
abbrev cX0_canFollow : ByteArray := prog_2_method_24_code
def yX0_canFollow : MethodName := ⟨RX0, "canFollow", "(LGrievanceOmbud$Complaint;LGrievanceOmbud$Complaint;)Z"⟩
abbrev cX0_lacksAnswer : ByteArray := prog_2_method_25_code
def yX0_lacksAnswer : MethodName := ⟨RX0, "lacksAnswer", "(LGrievanceOmbud$Complaint;)Z"⟩
abbrev cX0_weightOf : ByteArray := prog_2_method_26_code
def yX0_weightOf : MethodName := ⟨RX0, "weightOf", "(I)I"⟩
abbrev cX0_earliestDue : ByteArray := prog_2_method_27_code
def yX0_earliestDue : MethodName := ⟨RX0, "earliestDue", "()I"⟩
abbrev cX0_dueOf : ByteArray := prog_2_method_28_code
def yX0_dueOf : MethodName := ⟨RX0, "dueOf", "(LGrievanceOmbud$Complaint;)I"⟩
abbrev cX0_countStanding : ByteArray := prog_2_method_29_code
def yX0_countStanding : MethodName := ⟨RX0, "countStanding", "(C)I"⟩
abbrev cX0_countTold : ByteArray := prog_2_method_30_code
def yX0_countTold : MethodName := ⟨RX0, "countTold", "(I)I"⟩
abbrev cX0_countClosed : ByteArray := prog_2_method_31_code
def yX0_countClosed : MethodName := ⟨RX0, "countClosed", "()I"⟩
abbrev cX0_sumOfClosedDays : ByteArray := prog_2_method_32_code
def yX0_sumOfClosedDays : MethodName := ⟨RX0, "sumOfClosedDays", "()I"⟩
abbrev cX0_isOrderly : ByteArray := prog_2_method_33_code
def yX0_isOrderly : MethodName := ⟨RX0, "isOrderly", "()Z"⟩
abbrev cX0_matches : ByteArray := prog_2_method_34_code
def yX0_matches : MethodName := ⟨RX0, "matches", "(LGrievanceOmbud$Book;)Z"⟩
abbrev cX0_matchesInOffices : ByteArray := prog_2_method_35_code
def yX0_matchesInOffices : MethodName := ⟨RX0, "matchesInOffices", "(LGrievanceOmbud$Book;)Z"⟩
abbrev cX0_matchesInComplaints : ByteArray := prog_2_method_36_code
def yX0_matchesInComplaints : MethodName := ⟨RX0, "matchesInComplaints", "(LGrievanceOmbud$Book;)Z"⟩
abbrev cX0_matchesInWeights : ByteArray := prog_2_method_37_code
def yX0_matchesInWeights : MethodName := ⟨RX0, "matchesInWeights", "(LGrievanceOmbud$Book;)Z"⟩
def RX1 : String := "GrievanceOmbud$Complaint"
def TX1 : u_T := fun k => match k with
  | 0 => ("GrievanceOmbud$Complaint", "number", "I", true)
  | 1 => ("GrievanceOmbud$Complaint", "inquiry", "LGrievanceOmbud$Inquiry;", true)
  | 2 => ("GrievanceOmbud$Complaint", "finding", "LGrievanceOmbud$Finding;", true)
  | 3 => ("GrievanceOmbud$Complaint", "office", "I", false)
  | 4 => ("GrievanceOmbud$Complaint", "matter", "I", false)
  | 5 => ("GrievanceOmbud$Complaint", "person", "I", false)
  | 6 => ("GrievanceOmbud$Complaint", "happened", "I", false)
  | 7 => ("GrievanceOmbud$Complaint", "toldDay", "I", false)
  | 8 => ("GrievanceOmbud$Complaint", "atCourt", "Z", false)
  | 9 => ("GrievanceOmbud$Complaint", "excused", "Z", false)
  | 10 => ("GrievanceOmbud$Complaint", "stepDay", "I", false)
  | 11 => ("GrievanceOmbud$Complaint", "state", "C", false)
  | 12 => ("GrievanceOmbud$Complaint", "lead", "I", false)
  | 13 => ("GrievanceOmbud$Complaint", "closedDay", "I", false)
  | 14 => ("GrievanceOmbud$Complaint", "pausedSince", "I", false)
  | _ => ("GrievanceOmbud$Complaint", "pausedDays", "I", false)
def tyX1 : Nat → FieldType := fun k => match k with
  | 0 => .int
  | 1 => .object "GrievanceOmbud$Inquiry"
  | 2 => .object "GrievanceOmbud$Finding"
  | 3 => .int
  | 4 => .int
  | 5 => .int
  | 6 => .int
  | 7 => .int
  | 8 => .boolean
  | 9 => .boolean
  | 10 => .int
  | 11 => .char
  | 12 => .int
  | 13 => .int
  | 14 => .int
  | _ => .int
abbrev wsX10 : List Cond := u_ws RX1 TX1 16
theorem nmX1 : ∀ a, a < 16 → ∀ b, b < 16 → a ≠ b → (TX1 a).2.1 ≠ (TX1 b).2.1 := by decide +kernel
theorem tyX1_ok : ∀ k, k < 16 → parseFieldDescriptor (TX1 k).2.2.1 = some (tyX1 k) := by decide +kernel
abbrev cX1_init : ByteArray := prog_3_method_1_code
def yX1_init : MethodName := ⟨RX1, "<init>", "(I)V"⟩
abbrev cX1_begin : ByteArray := prog_3_method_2_code
def yX1_begin : MethodName := ⟨RX1, "begin", "(IIIII)V"⟩
abbrev cX1_isJoined : ByteArray := prog_3_method_3_code
def yX1_isJoined : MethodName := ⟨RX1, "isJoined", "()Z"⟩
abbrev cX1_moveTo : ByteArray := prog_3_method_4_code
def yX1_moveTo : MethodName := ⟨RX1, "moveTo", "(CI)V"⟩
abbrev cX1_daysBy : ByteArray := prog_3_method_5_code
def yX1_daysBy : MethodName := ⟨RX1, "daysBy", "(I)I"⟩
abbrev cX1_matches : ByteArray := prog_3_method_6_code
def yX1_matches : MethodName := ⟨RX1, "matches", "(LGrievanceOmbud$Complaint;)Z"⟩
abbrev cX1_matchesAsTold : ByteArray := prog_3_method_7_code
def yX1_matchesAsTold : MethodName := ⟨RX1, "matchesAsTold", "(LGrievanceOmbud$Complaint;)Z"⟩
def RX2 : String := "GrievanceOmbud$Events"
def TX2 : u_T := fun k => match k with
  | 0 => ("GrievanceOmbud$Events", "rows", "[I", true)
  | _ => ("GrievanceOmbud$Events", "count", "I", false)
def tyX2 : Nat → FieldType := fun k => match k with
  | 0 => .array .int
  | _ => .int
abbrev wsX20 : List Cond := u_ws RX2 TX2 2
theorem nmX2 : ∀ a, a < 2 → ∀ b, b < 2 → a ≠ b → (TX2 a).2.1 ≠ (TX2 b).2.1 := by decide +kernel
theorem tyX2_ok : ∀ k, k < 2 → parseFieldDescriptor (TX2 k).2.2.1 = some (tyX2 k) := by decide +kernel
abbrev cX2_init : ByteArray := prog_4_method_1_code
def yX2_init : MethodName := ⟨RX2, "<init>", "()V"⟩
abbrev cX2_keep : ByteArray := prog_4_method_2_code
def yX2_keep : MethodName := ⟨RX2, "keep", "(IIIII)V"⟩
abbrev cX2_tellAgain : ByteArray := prog_4_method_3_code
def yX2_tellAgain : MethodName := ⟨RX2, "tellAgain", "(LGrievanceOmbud$Book;)V"⟩
def RX3 : String := "GrievanceOmbud$Finding"
def TX3 : u_T := fun k => match k with
  | 0 => ("GrievanceOmbud$Finding", "heads", "I", false)
  | 1 => ("GrievanceOmbud$Finding", "remedy", "I", false)
  | 2 => ("GrievanceOmbud$Finding", "heedBy", "I", false)
  | 3 => ("GrievanceOmbud$Finding", "followed", "Z", false)
  | 4 => ("GrievanceOmbud$Finding", "acceptanceTold", "Z", false)
  | _ => ("GrievanceOmbud$Finding", "accepted", "Z", false)
def tyX3 : Nat → FieldType := fun k => match k with
  | 0 => .int
  | 1 => .int
  | 2 => .int
  | 3 => .boolean
  | 4 => .boolean
  | _ => .boolean
abbrev wsX30 : List Cond := u_ws RX3 TX3 6
theorem nmX3 : ∀ a, a < 6 → ∀ b, b < 6 → a ≠ b → (TX3 a).2.1 ≠ (TX3 b).2.1 := by decide +kernel
theorem tyX3_ok : ∀ k, k < 6 → parseFieldDescriptor (TX3 k).2.2.1 = some (tyX3 k) := by decide +kernel
abbrev cX3_init : ByteArray := prog_5_method_1_code
def yX3_init : MethodName := ⟨RX3, "<init>", "()V"⟩
abbrev cX3_begin : ByteArray := prog_5_method_2_code
def yX3_begin : MethodName := ⟨RX3, "begin", "(I)V"⟩
abbrev cX3_isTold : ByteArray := prog_5_method_3_code
def yX3_isTold : MethodName := ⟨RX3, "isTold", "()Z"⟩
abbrev cX3_recommend : ByteArray := prog_5_method_4_code
def yX3_recommend : MethodName := ⟨RX3, "recommend", "(II)V"⟩
abbrev cX3_matches : ByteArray := prog_5_method_5_code
def yX3_matches : MethodName := ⟨RX3, "matches", "(LGrievanceOmbud$Finding;)Z"⟩
def RX4 : String := "GrievanceOmbud$Inquiry"
def TX4 : u_T := fun k => match k with
  | 0 => ("GrievanceOmbud$Inquiry", "due", "I", false)
  | 1 => ("GrievanceOmbud$Inquiry", "extended", "Z", false)
  | 2 => ("GrievanceOmbud$Inquiry", "reminders", "I", false)
  | _ => ("GrievanceOmbud$Inquiry", "silent", "Z", false)
def tyX4 : Nat → FieldType := fun k => match k with
  | 0 => .int
  | 1 => .boolean
  | 2 => .int
  | _ => .boolean
abbrev wsX40 : List Cond := u_ws RX4 TX4 4
theorem nmX4 : ∀ a, a < 4 → ∀ b, b < 4 → a ≠ b → (TX4 a).2.1 ≠ (TX4 b).2.1 := by decide +kernel
theorem tyX4_ok : ∀ k, k < 4 → parseFieldDescriptor (TX4 k).2.2.1 = some (tyX4 k) := by decide +kernel
abbrev cX4_init : ByteArray := prog_6_method_1_code
def yX4_init : MethodName := ⟨RX4, "<init>", "()V"⟩
abbrev cX4_begin : ByteArray := prog_6_method_2_code
def yX4_begin : MethodName := ⟨RX4, "begin", "(I)V"⟩
abbrev cX4_matches : ByteArray := prog_6_method_3_code
def yX4_matches : MethodName := ⟨RX4, "matches", "(LGrievanceOmbud$Inquiry;)Z"⟩
def RX5 : String := "GrievanceOmbud$Office"
def TX5 : u_T := fun k => match k with
  | 0 => ("GrievanceOmbud$Office", "days", "I", false)
  | 1 => ("GrievanceOmbud$Office", "matters", "I", false)
  | 2 => ("GrievanceOmbud$Office", "remediesTold", "I", false)
  | _ => ("GrievanceOmbud$Office", "remediesHeeded", "I", false)
def tyX5 : Nat → FieldType := fun k => match k with
  | 0 => .int
  | 1 => .int
  | 2 => .int
  | _ => .int
abbrev wsX50 : List Cond := u_ws RX5 TX5 4
theorem nmX5 : ∀ a, a < 4 → ∀ b, b < 4 → a ≠ b → (TX5 a).2.1 ≠ (TX5 b).2.1 := by decide +kernel
theorem tyX5_ok : ∀ k, k < 4 → parseFieldDescriptor (TX5 k).2.2.1 = some (tyX5 k) := by decide +kernel
abbrev cX5_init : ByteArray := prog_7_method_1_code
def yX5_init : MethodName := ⟨RX5, "<init>", "()V"⟩
abbrev cX5_begin : ByteArray := prog_7_method_2_code
def yX5_begin : MethodName := ⟨RX5, "begin", "(II)V"⟩
abbrev cX5_matches : ByteArray := prog_7_method_3_code
def yX5_matches : MethodName := ⟨RX5, "matches", "(LGrievanceOmbud$Office;)Z"⟩
def RX6 : String := "GrievanceOmbud"
def TX6 : u_T := fun k => match k with
  | 0 => ("GrievanceOmbud", "book", "LGrievanceOmbud$Book;", true)
  | 1 => ("GrievanceOmbud", "retold", "LGrievanceOmbud$Book;", true)
  | _ => ("GrievanceOmbud", "events", "LGrievanceOmbud$Events;", true)
def tyX6 : Nat → FieldType := fun k => match k with
  | 0 => .object "GrievanceOmbud$Book"
  | 1 => .object "GrievanceOmbud$Book"
  | _ => .object "GrievanceOmbud$Events"
abbrev wsX60 : List Cond := u_ws RX6 TX6 3
theorem nmX6 : ∀ a, a < 3 → ∀ b, b < 3 → a ≠ b → (TX6 a).2.1 ≠ (TX6 b).2.1 := by decide +kernel
theorem tyX6_ok : ∀ k, k < 3 → parseFieldDescriptor (TX6 k).2.2.1 = some (tyX6 k) := by decide +kernel
abbrev cX6_init : ByteArray := prog_1_method_1_code
def yX6_init : MethodName := ⟨RX6, "<init>", "()V"⟩
abbrev cX6_addOffice : ByteArray := prog_1_method_2_code
def yX6_addOffice : MethodName := ⟨RX6, "addOffice", "(II)I"⟩
abbrev cX6_pass : ByteArray := prog_1_method_3_code
def yX6_pass : MethodName := ⟨RX6, "pass", "(I)I"⟩
abbrev cX6_today : ByteArray := prog_1_method_4_code
def yX6_today : MethodName := ⟨RX6, "today", "()I"⟩
abbrev cX6_complain : ByteArray := prog_1_method_5_code
def yX6_complain : MethodName := ⟨RX6, "complain", "(IIII)I"⟩
abbrev cX6_setCourt : ByteArray := prog_1_method_6_code
def yX6_setCourt : MethodName := ⟨RX6, "setCourt", "(IZ)Z"⟩
abbrev cX6_excuse : ByteArray := prog_1_method_7_code
def yX6_excuse : MethodName := ⟨RX6, "excuse", "(I)Z"⟩
abbrev cX6_takeStep : ByteArray := prog_1_method_8_code
def yX6_takeStep : MethodName := ⟨RX6, "takeStep", "(I)I"⟩
abbrev cX6_examine : ByteArray := prog_1_method_9_code
def yX6_examine : MethodName := ⟨RX6, "examine", "(I)C"⟩
abbrev cX6_state : ByteArray := prog_1_method_10_code
def yX6_state : MethodName := ⟨RX6, "state", "(I)C"⟩
abbrev cX6_countState : ByteArray := prog_1_method_11_code
def yX6_countState : MethodName := ⟨RX6, "countState", "(C)I"⟩
abbrev cX6_countOf : ByteArray := prog_1_method_12_code
def yX6_countOf : MethodName := ⟨RX6, "countOf", "(I)I"⟩
abbrev cX6_ask : ByteArray := prog_1_method_13_code
def yX6_ask : MethodName := ⟨RX6, "ask", "(I)I"⟩
abbrev cX6_extend : ByteArray := prog_1_method_14_code
def yX6_extend : MethodName := ⟨RX6, "extend", "(II)I"⟩
abbrev cX6_remind : ByteArray := prog_1_method_15_code
def yX6_remind : MethodName := ⟨RX6, "remind", "(I)I"⟩
abbrev cX6_answer : ByteArray := prog_1_method_16_code
def yX6_answer : MethodName := ⟨RX6, "answer", "(I)I"⟩
abbrev cX6_takeSilence : ByteArray := prog_1_method_17_code
def yX6_takeSilence : MethodName := ⟨RX6, "takeSilence", "(I)I"⟩
abbrev cX6_isOverdue : ByteArray := prog_1_method_18_code
def yX6_isOverdue : MethodName := ⟨RX6, "isOverdue", "(I)Z"⟩
abbrev cX6_nextDue : ByteArray := prog_1_method_19_code
def yX6_nextDue : MethodName := ⟨RX6, "nextDue", "()I"⟩
abbrev cX6_join : ByteArray := prog_1_method_20_code
def yX6_join : MethodName := ⟨RX6, "join", "(II)I"⟩
abbrev cX6_part : ByteArray := prog_1_method_21_code
def yX6_part : MethodName := ⟨RX6, "part", "(I)I"⟩
abbrev cX6_lead : ByteArray := prog_1_method_22_code
def yX6_lead : MethodName := ⟨RX6, "lead", "(I)I"⟩
abbrev cX6_countJoined : ByteArray := prog_1_method_23_code
def yX6_countJoined : MethodName := ⟨RX6, "countJoined", "(I)I"⟩
abbrev cX6_setWeight : ByteArray := prog_1_method_24_code
def yX6_setWeight : MethodName := ⟨RX6, "setWeight", "(II)I"⟩
abbrev cX6_find : ByteArray := prog_1_method_25_code
def yX6_find : MethodName := ⟨RX6, "find", "(II)I"⟩
abbrev cX6_heads : ByteArray := prog_1_method_26_code
def yX6_heads : MethodName := ⟨RX6, "heads", "(I)I"⟩
abbrev cX6_remedy : ByteArray := prog_1_method_27_code
def yX6_remedy : MethodName := ⟨RX6, "remedy", "(I)I"⟩
abbrev cX6_accept : ByteArray := prog_1_method_28_code
def yX6_accept : MethodName := ⟨RX6, "accept", "(IZ)I"⟩
abbrev cX6_isAccepted : ByteArray := prog_1_method_29_code
def yX6_isAccepted : MethodName := ⟨RX6, "isAccepted", "(I)Z"⟩
abbrev cX6_heed : ByteArray := prog_1_method_30_code
def yX6_heed : MethodName := ⟨RX6, "heed", "(I)I"⟩
abbrev cX6_followUp : ByteArray := prog_1_method_31_code
def yX6_followUp : MethodName := ⟨RX6, "followUp", "(I)I"⟩
abbrev cX6_withdraw : ByteArray := prog_1_method_32_code
def yX6_withdraw : MethodName := ⟨RX6, "withdraw", "(I)I"⟩
abbrev cX6_days : ByteArray := prog_1_method_33_code
def yX6_days : MethodName := ⟨RX6, "days", "(I)I"⟩
abbrev cX6_heededShare : ByteArray := prog_1_method_34_code
def yX6_heededShare : MethodName := ⟨RX6, "heededShare", "(I)F"⟩
abbrev cX6_meanDays : ByteArray := prog_1_method_35_code
def yX6_meanDays : MethodName := ⟨RX6, "meanDays", "()D"⟩
abbrev cX6_checksum : ByteArray := prog_1_method_36_code
def yX6_checksum : MethodName := ⟨RX6, "checksum", "()J"⟩
abbrev cX6_isSound : ByteArray := prog_1_method_37_code
def yX6_isSound : MethodName := ⟨RX6, "isSound", "()Z"⟩
abbrev cX6_happen : ByteArray := prog_1_method_38_code
def yX6_happen : MethodName := ⟨RX6, "happen", "(III)I"⟩
abbrev cX6_requireRange : ByteArray := prog_1_method_39_code
def yX6_requireRange : MethodName := ⟨RX6, "requireRange", "(III)V"⟩
abbrev cX6_requireOffice : ByteArray := prog_1_method_40_code
def yX6_requireOffice : MethodName := ⟨RX6, "requireOffice", "(I)V"⟩
abbrev cX6_known : ByteArray := prog_1_method_41_code
def yX6_known : MethodName := ⟨RX6, "known", "(I)LGrievanceOmbud$Complaint;"⟩
abbrev cX6_requireAtIntake : ByteArray := prog_1_method_42_code
def yX6_requireAtIntake : MethodName := ⟨RX6, "requireAtIntake", "(LGrievanceOmbud$Complaint;)V"⟩
abbrev cX6_requireOwn : ByteArray := prog_1_method_43_code
def yX6_requireOwn : MethodName := ⟨RX6, "requireOwn", "(LGrievanceOmbud$Complaint;C)V"⟩
abbrev cX6_isClosing : ByteArray := prog_1_method_44_code
def yX6_isClosing : MethodName := ⟨RX6, "isClosing", "(C)Z"⟩
abbrev cX6_remedyFor : ByteArray := prog_1_method_45_code
def yX6_remedyFor : MethodName := ⟨RX6, "remedyFor", "(I)I"⟩
def RX7 : String := "GrievanceOmbudModel"
def TX7 : u_T := fun k => match k with
  | 0 => ("GrievanceOmbudModel", "thrown", "I", false)
  | 1 => ("GrievanceOmbudModel", "now", "I", false)
  | 2 => ("GrievanceOmbudModel", "offices", "I", false)
  | 3 => ("GrievanceOmbudModel", "complaints", "I", false)
  | 4 => ("GrievanceOmbudModel", "answerDays", "[I", true)
  | 5 => ("GrievanceOmbudModel", "reach", "[I", true)
  | 6 => ("GrievanceOmbudModel", "toldOf", "[I", true)
  | 7 => ("GrievanceOmbudModel", "heededOf", "[I", true)
  | 8 => ("GrievanceOmbudModel", "weights", "[I", true)
  | 9 => ("GrievanceOmbudModel", "officeOf", "[I", true)
  | 10 => ("GrievanceOmbudModel", "matterOf", "[I", true)
  | 11 => ("GrievanceOmbudModel", "personOf", "[I", true)
  | 12 => ("GrievanceOmbudModel", "happenedOn", "[I", true)
  | 13 => ("GrievanceOmbudModel", "toldOn", "[I", true)
  | 14 => ("GrievanceOmbudModel", "states", "[C", true)
  | 15 => ("GrievanceOmbudModel", "leads", "[I", true)
  | 16 => ("GrievanceOmbudModel", "hasCourt", "[Z", true)
  | 17 => ("GrievanceOmbudModel", "isExcused", "[Z", true)
  | 18 => ("GrievanceOmbudModel", "steps", "[I", true)
  | 19 => ("GrievanceOmbudModel", "dues", "[I", true)
  | 20 => ("GrievanceOmbudModel", "isExtended", "[Z", true)
  | 21 => ("GrievanceOmbudModel", "reminders", "[I", true)
  | 22 => ("GrievanceOmbudModel", "isSilent", "[Z", true)
  | 23 => ("GrievanceOmbudModel", "headsOf", "[I", true)
  | 24 => ("GrievanceOmbudModel", "remedies", "[I", true)
  | 25 => ("GrievanceOmbudModel", "acceptances", "[I", true)
  | 26 => ("GrievanceOmbudModel", "follows", "[I", true)
  | 27 => ("GrievanceOmbudModel", "closedOn", "[I", true)
  | _ => ("GrievanceOmbudModel", "leftOut", "[I", true)
def tyX7 : Nat → FieldType := fun k => match k with
  | 0 => .int
  | 1 => .int
  | 2 => .int
  | 3 => .int
  | 4 => .array .int
  | 5 => .array .int
  | 6 => .array .int
  | 7 => .array .int
  | 8 => .array .int
  | 9 => .array .int
  | 10 => .array .int
  | 11 => .array .int
  | 12 => .array .int
  | 13 => .array .int
  | 14 => .array .char
  | 15 => .array .int
  | 16 => .array .boolean
  | 17 => .array .boolean
  | 18 => .array .int
  | 19 => .array .int
  | 20 => .array .boolean
  | 21 => .array .int
  | 22 => .array .boolean
  | 23 => .array .int
  | 24 => .array .int
  | 25 => .array .int
  | 26 => .array .int
  | 27 => .array .int
  | _ => .array .int
abbrev wsX70 : List Cond := u_ws RX7 TX7 29
theorem nmX7 : ∀ a, a < 29 → ∀ b, b < 29 → a ≠ b → (TX7 a).2.1 ≠ (TX7 b).2.1 := by decide +kernel
theorem tyX7_ok : ∀ k, k < 29 → parseFieldDescriptor (TX7 k).2.2.1 = some (tyX7 k) := by decide +kernel
abbrev cX7_init : ByteArray := prog_9_method_1_code
def yX7_init : MethodName := ⟨RX7, "<init>", "()V"⟩
abbrev cX7_thrown : ByteArray := prog_9_method_2_code
def yX7_thrown : MethodName := ⟨RX7, "thrown", "()I"⟩
abbrev cX7_in : ByteArray := prog_9_method_3_code
def yX7_in : MethodName := ⟨RX7, "in", "(III)Z"⟩
abbrev cX7_isOffice : ByteArray := prog_9_method_4_code
def yX7_isOffice : MethodName := ⟨RX7, "isOffice", "(I)Z"⟩
abbrev cX7_isComplaint : ByteArray := prog_9_method_5_code
def yX7_isComplaint : MethodName := ⟨RX7, "isComplaint", "(I)Z"⟩
abbrev cX7_noComplaint : ByteArray := prog_9_method_6_code
def yX7_noComplaint : MethodName := ⟨RX7, "noComplaint", "(I)Z"⟩
abbrev cX7_isJoined : ByteArray := prog_9_method_7_code
def yX7_isJoined : MethodName := ⟨RX7, "isJoined", "(I)Z"⟩
abbrev cX7_leading : ByteArray := prog_9_method_8_code
def yX7_leading : MethodName := ⟨RX7, "leading", "(I)I"⟩
abbrev cX7_standing : ByteArray := prog_9_method_9_code
def yX7_standing : MethodName := ⟨RX7, "standing", "(I)C"⟩
abbrev cX7_isClosed : ByteArray := prog_9_method_10_code
def yX7_isClosed : MethodName := ⟨RX7, "isClosed", "(C)Z"⟩
abbrev cX7_isState : ByteArray := prog_9_method_11_code
def yX7_isState : MethodName := ⟨RX7, "isState", "(C)Z"⟩
abbrev cX7_joinedTo : ByteArray := prog_9_method_12_code
def yX7_joinedTo : MethodName := ⟨RX7, "joinedTo", "(I)I"⟩
abbrev cX7_closes : ByteArray := prog_9_method_13_code
def yX7_closes : MethodName := ⟨RX7, "closes", "(IC)V"⟩
abbrev cX7_addOffice : ByteArray := prog_9_method_14_code
def yX7_addOffice : MethodName := ⟨RX7, "addOffice", "(II)I"⟩
abbrev cX7_pass : ByteArray := prog_9_method_15_code
def yX7_pass : MethodName := ⟨RX7, "pass", "(I)I"⟩
abbrev cX7_today : ByteArray := prog_9_method_16_code
def yX7_today : MethodName := ⟨RX7, "today", "()I"⟩
abbrev cX7_complain : ByteArray := prog_9_method_17_code
def yX7_complain : MethodName := ⟨RX7, "complain", "(IIII)I"⟩
abbrev cX7_isPast : ByteArray := prog_9_method_18_code
def yX7_isPast : MethodName := ⟨RX7, "isPast", "(I)Z"⟩
abbrev cX7_setCourt : ByteArray := prog_9_method_19_code
def yX7_setCourt : MethodName := ⟨RX7, "setCourt", "(IZ)Z"⟩
abbrev cX7_excuse : ByteArray := prog_9_method_20_code
def yX7_excuse : MethodName := ⟨RX7, "excuse", "(I)Z"⟩
abbrev cX7_takeStep : ByteArray := prog_9_method_21_code
def yX7_takeStep : MethodName := ⟨RX7, "takeStep", "(I)I"⟩
abbrev cX7_examine : ByteArray := prog_9_method_22_code
def yX7_examine : MethodName := ⟨RX7, "examine", "(I)C"⟩
abbrev cX7_state : ByteArray := prog_9_method_23_code
def yX7_state : MethodName := ⟨RX7, "state", "(I)C"⟩
abbrev cX7_countState : ByteArray := prog_9_method_24_code
def yX7_countState : MethodName := ⟨RX7, "countState", "(C)I"⟩
abbrev cX7_countOf : ByteArray := prog_9_method_25_code
def yX7_countOf : MethodName := ⟨RX7, "countOf", "(I)I"⟩
abbrev cX7_isNot : ByteArray := prog_9_method_26_code
def yX7_isNot : MethodName := ⟨RX7, "isNot", "(IC)Z"⟩
abbrev cX7_isOver : ByteArray := prog_9_method_27_code
def yX7_isOver : MethodName := ⟨RX7, "isOver", "(I)Z"⟩
abbrev cX7_ask : ByteArray := prog_9_method_28_code
def yX7_ask : MethodName := ⟨RX7, "ask", "(I)I"⟩
abbrev cX7_extend : ByteArray := prog_9_method_29_code
def yX7_extend : MethodName := ⟨RX7, "extend", "(II)I"⟩
abbrev cX7_remind : ByteArray := prog_9_method_30_code
def yX7_remind : MethodName := ⟨RX7, "remind", "(I)I"⟩
abbrev cX7_answer : ByteArray := prog_9_method_31_code
def yX7_answer : MethodName := ⟨RX7, "answer", "(I)I"⟩
abbrev cX7_takeSilence : ByteArray := prog_9_method_32_code
def yX7_takeSilence : MethodName := ⟨RX7, "takeSilence", "(I)I"⟩
abbrev cX7_isOverdue : ByteArray := prog_9_method_33_code
def yX7_isOverdue : MethodName := ⟨RX7, "isOverdue", "(I)Z"⟩
abbrev cX7_nextDue : ByteArray := prog_9_method_34_code
def yX7_nextDue : MethodName := ⟨RX7, "nextDue", "()I"⟩
abbrev cX7_join : ByteArray := prog_9_method_35_code
def yX7_join : MethodName := ⟨RX7, "join", "(II)I"⟩
abbrev cX7_part : ByteArray := prog_9_method_36_code
def yX7_part : MethodName := ⟨RX7, "part", "(I)I"⟩
abbrev cX7_lead : ByteArray := prog_9_method_37_code
def yX7_lead : MethodName := ⟨RX7, "lead", "(I)I"⟩
abbrev cX7_countJoined : ByteArray := prog_9_method_38_code
def yX7_countJoined : MethodName := ⟨RX7, "countJoined", "(I)I"⟩
abbrev cX7_setWeight : ByteArray := prog_9_method_39_code
def yX7_setWeight : MethodName := ⟨RX7, "setWeight", "(II)I"⟩
abbrev cX7_find : ByteArray := prog_9_method_40_code
def yX7_find : MethodName := ⟨RX7, "find", "(II)I"⟩
abbrev cX7_heads : ByteArray := prog_9_method_41_code
def yX7_heads : MethodName := ⟨RX7, "heads", "(I)I"⟩
abbrev cX7_remedy : ByteArray := prog_9_method_42_code
def yX7_remedy : MethodName := ⟨RX7, "remedy", "(I)I"⟩
abbrev cX7_accept : ByteArray := prog_9_method_43_code
def yX7_accept : MethodName := ⟨RX7, "accept", "(IZ)I"⟩
abbrev cX7_isAccepted : ByteArray := prog_9_method_44_code
def yX7_isAccepted : MethodName := ⟨RX7, "isAccepted", "(I)Z"⟩
abbrev cX7_heed : ByteArray := prog_9_method_45_code
def yX7_heed : MethodName := ⟨RX7, "heed", "(I)I"⟩
abbrev cX7_followUp : ByteArray := prog_9_method_46_code
def yX7_followUp : MethodName := ⟨RX7, "followUp", "(I)I"⟩
abbrev cX7_withdraw : ByteArray := prog_9_method_47_code
def yX7_withdraw : MethodName := ⟨RX7, "withdraw", "(I)I"⟩
abbrev cX7_daysOf : ByteArray := prog_9_method_48_code
def yX7_daysOf : MethodName := ⟨RX7, "daysOf", "(I)I"⟩
abbrev cX7_days : ByteArray := prog_9_method_49_code
def yX7_days : MethodName := ⟨RX7, "days", "(I)I"⟩
abbrev cX7_heededShare : ByteArray := prog_9_method_50_code
def yX7_heededShare : MethodName := ⟨RX7, "heededShare", "(I)F"⟩
abbrev cX7_meanDays : ByteArray := prog_9_method_51_code
def yX7_meanDays : MethodName := ⟨RX7, "meanDays", "()D"⟩
abbrev cX7_checksum : ByteArray := prog_9_method_52_code
def yX7_checksum : MethodName := ⟨RX7, "checksum", "()J"⟩
abbrev cX7_isSound : ByteArray := prog_9_method_53_code
def yX7_isSound : MethodName := ⟨RX7, "isSound", "()Z"⟩
def RJx145de : String := "java/io/Serializable"
def TJx145de : u_T := fun k => match k with
  | _ => ("", "", "", false)
def tyJx145de : Nat → FieldType := fun k => match k with
  | _ => .int
abbrev wsJx145de0 : List Cond := u_ws RJx145de TJx145de 0
theorem nmJx145de : ∀ a, a < 0 → ∀ b, b < 0 → a ≠ b → (TJx145de a).2.1 ≠ (TJx145de b).2.1 := by decide +kernel
theorem tyJx145de_ok : ∀ k, k < 0 → parseFieldDescriptor (TJx145de k).2.2.1 = some (tyJx145de k) := by decide +kernel
def RJx00060 : String := "java/lang/ArrayIndexOutOfBoundsException"
def TJx00060 : u_T := fun k => match k with
  | 0 => ("java/lang/Throwable", "backtrace", "Ljava/lang/Object;", false)
  | 1 => ("java/lang/Throwable", "detailMessage", "Ljava/lang/String;", false)
  | 2 => ("java/lang/Throwable", "cause", "Ljava/lang/Throwable;", false)
  | 3 => ("java/lang/Throwable", "stackTrace", "[Ljava/lang/StackTraceElement;", false)
  | 4 => ("java/lang/Throwable", "depth", "I", false)
  | _ => ("java/lang/Throwable", "suppressedExceptions", "Ljava/util/List;", false)
def tyJx00060 : Nat → FieldType := fun k => match k with
  | 0 => .object "java/lang/Object"
  | 1 => .object "java/lang/String"
  | 2 => .object "java/lang/Throwable"
  | 3 => .array (.object "java/lang/StackTraceElement")
  | 4 => .int
  | _ => .object "java/util/List"
abbrev wsJx000600 : List Cond := u_ws RJx00060 TJx00060 6
theorem nmJx00060 : ∀ a, a < 6 → ∀ b, b < 6 → a ≠ b → (TJx00060 a).2.1 ≠ (TJx00060 b).2.1 := by decide +kernel
theorem tyJx00060_ok : ∀ k, k < 6 → parseFieldDescriptor (TJx00060 k).2.2.1 = some (tyJx00060 k) := by decide +kernel
abbrev cJx00060_init_a7421 : ByteArray := prog_12_method_2_code
def yJx00060_init_a7421 : MethodName := ⟨RJx00060, "<init>", "(Ljava/lang/String;)V"⟩
def RJx9f9b0 : String := "java/lang/CharSequence"
def TJx9f9b0 : u_T := fun k => match k with
  | _ => ("", "", "", false)
def tyJx9f9b0 : Nat → FieldType := fun k => match k with
  | _ => .int
abbrev wsJx9f9b00 : List Cond := u_ws RJx9f9b0 TJx9f9b0 0
theorem nmJx9f9b0 : ∀ a, a < 0 → ∀ b, b < 0 → a ≠ b → (TJx9f9b0 a).2.1 ≠ (TJx9f9b0 b).2.1 := by decide +kernel
theorem tyJx9f9b0_ok : ∀ k, k < 0 → parseFieldDescriptor (TJx9f9b0 k).2.2.1 = some (tyJx9f9b0 k) := by decide +kernel
def RJ11 : String := "java/lang/Character"
def TJ11 : u_T := fun k => match k with
  | _ => ("", "", "", false)
def tyJ11 : Nat → FieldType := fun k => match k with
  | _ => .int
abbrev wsJ110 : List Cond := u_ws RJ11 TJ11 0
theorem nmJ11 : ∀ a, a < 0 → ∀ b, b < 0 → a ≠ b → (TJ11 a).2.1 ≠ (TJ11 b).2.1 := by decide +kernel
theorem tyJ11_ok : ∀ k, k < 0 → parseFieldDescriptor (TJ11 k).2.2.1 = some (tyJ11 k) := by decide +kernel
abbrev cJ11_isValidCodePoint_9a6ad : ByteArray := prog_14_method_11_code
def yJ11_isValidCodePoint_9a6ad : MethodName := ⟨RJ11, "isValidCodePoint", "(I)Z"⟩
abbrev cJ11_highSurrogate_5068e : ByteArray := prog_14_method_28_code
def yJ11_highSurrogate_5068e : MethodName := ⟨RJ11, "highSurrogate", "(I)C"⟩
abbrev cJ11_lowSurrogate_5068e : ByteArray := prog_14_method_29_code
def yJ11_lowSurrogate_5068e : MethodName := ⟨RJ11, "lowSurrogate", "(I)C"⟩
def RJxb160c : String := "java/lang/Comparable"
def TJxb160c : u_T := fun k => match k with
  | _ => ("", "", "", false)
def tyJxb160c : Nat → FieldType := fun k => match k with
  | _ => .int
abbrev wsJxb160c0 : List Cond := u_ws RJxb160c TJxb160c 0
theorem nmJxb160c : ∀ a, a < 0 → ∀ b, b < 0 → a ≠ b → (TJxb160c a).2.1 ≠ (TJxb160c b).2.1 := by decide +kernel
theorem tyJxb160c_ok : ∀ k, k < 0 → parseFieldDescriptor (TJxb160c k).2.2.1 = some (tyJxb160c k) := by decide +kernel
def RJ9 : String := "java/lang/Math"
def TJ9 : u_T := fun k => match k with
  | _ => ("", "", "", false)
def tyJ9 : Nat → FieldType := fun k => match k with
  | _ => .int
abbrev wsJ90 : List Cond := u_ws RJ9 TJ9 0
theorem nmJ9 : ∀ a, a < 0 → ∀ b, b < 0 → a ≠ b → (TJ9 a).2.1 ≠ (TJ9 b).2.1 := by decide +kernel
theorem tyJ9_ok : ∀ k, k < 0 → parseFieldDescriptor (TJ9 k).2.2.1 = some (tyJ9 k) := by decide +kernel
abbrev cJ9_max_7cf53 : ByteArray := prog_20_method_65_code
def yJ9_max_7cf53 : MethodName := ⟨RJ9, "max", "(II)I"⟩
abbrev cJ9_min_7cf53 : ByteArray := prog_20_method_69_code
def yJ9_min_7cf53 : MethodName := ⟨RJ9, "min", "(II)I"⟩
def RJ0 : String := "java/lang/String"
def TJ0 : u_T := fun k => match k with
  | 0 => ("java/lang/String", "value", "[B", true)
  | _ => ("java/lang/String", "coder", "B", true)
def tyJ0 : Nat → FieldType := fun k => match k with
  | 0 => .array .byte
  | _ => .byte
abbrev wsJ00 : List Cond := u_ws RJ0 TJ0 2
theorem nmJ0 : ∀ a, a < 2 → ∀ b, b < 2 → a ≠ b → (TJ0 a).2.1 ≠ (TJ0 b).2.1 := by decide +kernel
theorem tyJ0_ok : ∀ k, k < 2 → parseFieldDescriptor (TJ0 k).2.2.1 = some (tyJ0 k) := by decide +kernel
abbrev cJ0_length_8abf5 : ByteArray := prog_22_method_54_code
def yJ0_length_8abf5 : MethodName := ⟨RJ0, "length", "()I"⟩
abbrev cJ0_indexOf_0f7a4 : ByteArray := prog_22_method_79_code
def yJ0_indexOf_0f7a4 : MethodName := ⟨RJ0, "indexOf", "(I)I"⟩
abbrev cJ0_indexOf_7cf53 : ByteArray := prog_22_method_80_code
def yJ0_indexOf_7cf53 : MethodName := ⟨RJ0, "indexOf", "(II)I"⟩
abbrev cJ0_coder_7d493 : ByteArray := prog_22_method_152_code
def yJ0_coder_7d493 : MethodName := ⟨RJ0, "coder", "()B"⟩
abbrev cJ0_isLatin1_aae02 : ByteArray := prog_22_method_154_code
def yJ0_isLatin1_aae02 : MethodName := ⟨RJ0, "isLatin1", "()Z"⟩
abbrev cJ0_checkBoundsBeginEnd_23922 : ByteArray := prog_22_method_158_code
def yJ0_checkBoundsBeginEnd_23922 : MethodName := ⟨RJ0, "checkBoundsBeginEnd", "(III)V"⟩
def RJ1 : String := "java/lang/StringLatin1"
def TJ1 : u_T := fun k => match k with
  | _ => ("", "", "", false)
def tyJ1 : Nat → FieldType := fun k => match k with
  | _ => .int
abbrev wsJ10 : List Cond := u_ws RJ1 TJ1 0
theorem nmJ1 : ∀ a, a < 0 → ∀ b, b < 0 → a ≠ b → (TJ1 a).2.1 ≠ (TJ1 b).2.1 := by decide +kernel
theorem tyJ1_ok : ∀ k, k < 0 → parseFieldDescriptor (TJ1 k).2.2.1 = some (tyJ1 k) := by decide +kernel
abbrev cJ1_canEncode_9a6ad : ByteArray := prog_23_method_4_code
def yJ1_canEncode_9a6ad : MethodName := ⟨RJ1, "canEncode", "(I)Z"⟩
abbrev cJ1_indexOf_4cfef : ByteArray := prog_23_method_22_code
def yJ1_indexOf_4cfef : MethodName := ⟨RJ1, "indexOf", "([BIII)I"⟩
abbrev cJ1_indexOfChar_4cfef : ByteArray := prog_23_method_23_code
def yJ1_indexOfChar_4cfef : MethodName := ⟨RJ1, "indexOfChar", "([BIII)I"⟩
def RJ2 : String := "java/lang/StringUTF16"
def TJ2 : u_T := fun k => match k with
  | _ => ("", "", "", false)
def tyJ2 : Nat → FieldType := fun k => match k with
  | _ => .int
abbrev wsJ20 : List Cond := u_ws RJ2 TJ2 0
theorem nmJ2 : ∀ a, a < 0 → ∀ b, b < 0 → a ≠ b → (TJ2 a).2.1 ≠ (TJ2 b).2.1 := by decide +kernel
theorem tyJ2_ok : ∀ k, k < 0 → parseFieldDescriptor (TJ2 k).2.2.1 = some (tyJ2 k) := by decide +kernel
abbrev cJ2_getChar_3b067 : ByteArray := prog_24_method_5_code
def yJ2_getChar_3b067 : MethodName := ⟨RJ2, "getChar", "([BI)C"⟩
abbrev cJ2_length_9d52b : ByteArray := prog_24_method_6_code
def yJ2_length_9d52b : MethodName := ⟨RJ2, "length", "([B)I"⟩
abbrev cJ2_indexOf_4cfef : ByteArray := prog_24_method_40_code
def yJ2_indexOf_4cfef : MethodName := ⟨RJ2, "indexOf", "([BIII)I"⟩
abbrev cJ2_indexOfChar_4cfef : ByteArray := prog_24_method_47_code
def yJ2_indexOfChar_4cfef : MethodName := ⟨RJ2, "indexOfChar", "([BIII)I"⟩
abbrev cJ2_indexOfCharUnsafe_4cfef : ByteArray := prog_24_method_48_code
def yJ2_indexOfCharUnsafe_4cfef : MethodName := ⟨RJ2, "indexOfCharUnsafe", "([BIII)I"⟩
abbrev cJ2_indexOfSupplementary_4cfef : ByteArray := prog_24_method_49_code
def yJ2_indexOfSupplementary_4cfef : MethodName := ⟨RJ2, "indexOfSupplementary", "([BIII)I"⟩
abbrev cJ2_checkBoundsBeginEnd_d044e : ByteArray := prog_24_method_93_code
def yJ2_checkBoundsBeginEnd_d044e : MethodName := ⟨RJ2, "checkBoundsBeginEnd", "(II[B)V"⟩
def RJxfd54e : String := "java/lang/constant/Constable"
def TJxfd54e : u_T := fun k => match k with
  | _ => ("", "", "", false)
def tyJxfd54e : Nat → FieldType := fun k => match k with
  | _ => .int
abbrev wsJxfd54e0 : List Cond := u_ws RJxfd54e TJxfd54e 0
theorem nmJxfd54e : ∀ a, a < 0 → ∀ b, b < 0 → a ≠ b → (TJxfd54e a).2.1 ≠ (TJxfd54e b).2.1 := by decide +kernel
theorem tyJxfd54e_ok : ∀ k, k < 0 → parseFieldDescriptor (TJxfd54e k).2.2.1 = some (tyJxfd54e k) := by decide +kernel
def RJx3cf43 : String := "java/lang/constant/ConstantDesc"
def TJx3cf43 : u_T := fun k => match k with
  | _ => ("", "", "", false)
def tyJx3cf43 : Nat → FieldType := fun k => match k with
  | _ => .int
abbrev wsJx3cf430 : List Cond := u_ws RJx3cf43 TJx3cf43 0
theorem nmJx3cf43 : ∀ a, a < 0 → ∀ b, b < 0 → a ≠ b → (TJx3cf43 a).2.1 ≠ (TJx3cf43 b).2.1 := by decide +kernel
theorem tyJx3cf43_ok : ∀ k, k < 0 → parseFieldDescriptor (TJx3cf43 k).2.2.1 = some (tyJx3cf43 k) := by decide +kernel
def RJ3 : String := "jdk/internal/util/Preconditions"
def TJ3 : u_T := fun k => match k with
  | _ => ("", "", "", false)
def tyJ3 : Nat → FieldType := fun k => match k with
  | _ => .int
abbrev wsJ30 : List Cond := u_ws RJ3 TJ3 0
theorem nmJ3 : ∀ a, a < 0 → ∀ b, b < 0 → a ≠ b → (TJ3 a).2.1 ≠ (TJ3 b).2.1 := by decide +kernel
theorem tyJ3_ok : ∀ k, k < 0 → parseFieldDescriptor (TJ3 k).2.2.1 = some (tyJ3 k) := by decide +kernel
abbrev cJ3_checkFromToIndex_8c36e : ByteArray := prog_30_method_12_code
def yJ3_checkFromToIndex_8c36e : MethodName := ⟨RJ3, "checkFromToIndex", "(IIILjava/util/function/BiFunction;)I"⟩
def RL : String := "GrievanceOmbudLaw"
abbrev cL_addOffice : ByteArray := method_3_code
def yL_addOffice : MethodName := ⟨RL, "addOffice", "(LGrievanceOmbud;II[J)I"⟩
abbrev cL_pass : ByteArray := method_4_code
def yL_pass : MethodName := ⟨RL, "pass", "(LGrievanceOmbud;I[J)I"⟩
abbrev cL_complain : ByteArray := method_5_code
def yL_complain : MethodName := ⟨RL, "complain", "(LGrievanceOmbud;IIII[J)I"⟩
abbrev cL_setCourt : ByteArray := method_6_code
def yL_setCourt : MethodName := ⟨RL, "setCourt", "(LGrievanceOmbud;IZ[J)I"⟩
abbrev cL_excuse : ByteArray := method_7_code
def yL_excuse : MethodName := ⟨RL, "excuse", "(LGrievanceOmbud;I[J)I"⟩
abbrev cL_takeStep : ByteArray := method_8_code
def yL_takeStep : MethodName := ⟨RL, "takeStep", "(LGrievanceOmbud;I[J)I"⟩
abbrev cL_examine : ByteArray := method_9_code
def yL_examine : MethodName := ⟨RL, "examine", "(LGrievanceOmbud;I[J)I"⟩
abbrev cL_state : ByteArray := method_10_code
def yL_state : MethodName := ⟨RL, "state", "(LGrievanceOmbud;I[J)I"⟩
abbrev cL_countState : ByteArray := method_11_code
def yL_countState : MethodName := ⟨RL, "countState", "(LGrievanceOmbud;C[J)I"⟩
abbrev cL_countOf : ByteArray := method_12_code
def yL_countOf : MethodName := ⟨RL, "countOf", "(LGrievanceOmbud;I[J)I"⟩
abbrev cL_ask : ByteArray := method_13_code
def yL_ask : MethodName := ⟨RL, "ask", "(LGrievanceOmbud;I[J)I"⟩
abbrev cL_extend : ByteArray := method_14_code
def yL_extend : MethodName := ⟨RL, "extend", "(LGrievanceOmbud;II[J)I"⟩
abbrev cL_remind : ByteArray := method_15_code
def yL_remind : MethodName := ⟨RL, "remind", "(LGrievanceOmbud;I[J)I"⟩
abbrev cL_answer : ByteArray := method_16_code
def yL_answer : MethodName := ⟨RL, "answer", "(LGrievanceOmbud;I[J)I"⟩
abbrev cL_takeSilence : ByteArray := method_17_code
def yL_takeSilence : MethodName := ⟨RL, "takeSilence", "(LGrievanceOmbud;I[J)I"⟩
abbrev cL_isOverdue : ByteArray := method_18_code
def yL_isOverdue : MethodName := ⟨RL, "isOverdue", "(LGrievanceOmbud;I[J)I"⟩
abbrev cL_nextDue : ByteArray := method_19_code
def yL_nextDue : MethodName := ⟨RL, "nextDue", "(LGrievanceOmbud;[J)I"⟩
abbrev cL_join : ByteArray := method_20_code
def yL_join : MethodName := ⟨RL, "join", "(LGrievanceOmbud;II[J)I"⟩
abbrev cL_part : ByteArray := method_21_code
def yL_part : MethodName := ⟨RL, "part", "(LGrievanceOmbud;I[J)I"⟩
abbrev cL_lead : ByteArray := method_22_code
def yL_lead : MethodName := ⟨RL, "lead", "(LGrievanceOmbud;I[J)I"⟩
abbrev cL_countJoined : ByteArray := method_23_code
def yL_countJoined : MethodName := ⟨RL, "countJoined", "(LGrievanceOmbud;I[J)I"⟩
abbrev cL_setWeight : ByteArray := method_24_code
def yL_setWeight : MethodName := ⟨RL, "setWeight", "(LGrievanceOmbud;II[J)I"⟩
abbrev cL_find : ByteArray := method_25_code
def yL_find : MethodName := ⟨RL, "find", "(LGrievanceOmbud;II[J)I"⟩
abbrev cL_heads : ByteArray := method_26_code
def yL_heads : MethodName := ⟨RL, "heads", "(LGrievanceOmbud;I[J)I"⟩
abbrev cL_remedy : ByteArray := method_27_code
def yL_remedy : MethodName := ⟨RL, "remedy", "(LGrievanceOmbud;I[J)I"⟩
abbrev cL_accept : ByteArray := method_28_code
def yL_accept : MethodName := ⟨RL, "accept", "(LGrievanceOmbud;IZ[J)I"⟩
abbrev cL_isAccepted : ByteArray := method_29_code
def yL_isAccepted : MethodName := ⟨RL, "isAccepted", "(LGrievanceOmbud;I[J)I"⟩
abbrev cL_heed : ByteArray := method_30_code
def yL_heed : MethodName := ⟨RL, "heed", "(LGrievanceOmbud;I[J)I"⟩
abbrev cL_followUp : ByteArray := method_31_code
def yL_followUp : MethodName := ⟨RL, "followUp", "(LGrievanceOmbud;I[J)I"⟩
abbrev cL_withdraw : ByteArray := method_32_code
def yL_withdraw : MethodName := ⟨RL, "withdraw", "(LGrievanceOmbud;I[J)I"⟩
abbrev cL_days : ByteArray := method_33_code
def yL_days : MethodName := ⟨RL, "days", "(LGrievanceOmbud;I[J)I"⟩
abbrev cL_heededShare : ByteArray := method_34_code
def yL_heededShare : MethodName := ⟨RL, "heededShare", "(LGrievanceOmbud;I[D)I"⟩
abbrev cL_meanDays : ByteArray := method_35_code
def yL_meanDays : MethodName := ⟨RL, "meanDays", "(LGrievanceOmbud;[D)I"⟩
abbrev cL_law : ByteArray := code
def yL_law : MethodName := ⟨RL, "law", "([I)Z"⟩
abbrev vwCl : List vw_C := [(RJ0, TJ0, 2), (RJx00060, TJx00060, 6), (RX0, TX0, 6), (RX1, TX1, 16), (RX2, TX2, 2), (RX3, TX3, 6), (RX4, TX4, 4), (RX5, TX5, 4), (RX6, TX6, 3), (RX7, TX7, 29)]
end
section
theorem dX0_init_0 : decode cX0_init 0 = .ok (.aload_n 0, 1) := by decide +kernel
theorem dX0_init_1 : decode cX0_init 1 = .ok (.invokespecial 3, 3) := by decide +kernel
theorem dX0_init_4 : decode cX0_init 4 = .ok (.aload_n 0, 1) := by decide +kernel
theorem dX0_init_5 : decode cX0_init 5 = .ok (.bipush 6, 2) := by decide +kernel
theorem dX0_init_7 : decode cX0_init 7 = .ok (.anewarray 9, 3) := by decide +kernel
theorem dX0_init_10 : decode cX0_init 10 = .ok (.putfield 11, 3) := by decide +kernel
theorem dX0_init_13 : decode cX0_init 13 = .ok (.aload_n 0, 1) := by decide +kernel
theorem dX0_init_14 : decode cX0_init 14 = .ok (.bipush 20, 2) := by decide +kernel
theorem dX0_init_16 : decode cX0_init 16 = .ok (.anewarray 17, 3) := by decide +kernel
theorem dX0_init_19 : decode cX0_init 19 = .ok (.putfield 19, 3) := by decide +kernel
theorem dX0_init_22 : decode cX0_init 22 = .ok (.aload_n 0, 1) := by decide +kernel
theorem dX0_init_23 : decode cX0_init 23 = .ok (.iconst 5, 1) := by decide +kernel
theorem dX0_init_24 : decode cX0_init 24 = .ok (.newarray .int, 2) := by decide +kernel
theorem dX0_init_26 : decode cX0_init 26 = .ok (.putfield 23, 3) := by decide +kernel
theorem dX0_init_29 : decode cX0_init 29 = .ok (.iconst 0, 1) := by decide +kernel
theorem dX0_init_30 : decode cX0_init 30 = .ok (.istore_n 1, 1) := by decide +kernel
theorem dX0_init_31 : decode cX0_init 31 = .ok (.iload_n 1, 1) := by decide +kernel
theorem dX0_init_32 : decode cX0_init 32 = .ok (.bipush 6, 2) := by decide +kernel
theorem dX0_init_34 : decode cX0_init 34 = .ok (.if_icmp .ge 22, 3) := by decide +kernel
theorem dX0_init_37 : decode cX0_init 37 = .ok (.aload_n 0, 1) := by decide +kernel
theorem dX0_init_38 : decode cX0_init 38 = .ok (.getfield 11, 3) := by decide +kernel
theorem dX0_init_41 : decode cX0_init 41 = .ok (.iload_n 1, 1) := by decide +kernel
theorem dX0_init_42 : decode cX0_init 42 = .ok (.new 9, 3) := by decide +kernel
theorem dX0_init_45 : decode cX0_init 45 = .ok (.dup, 1) := by decide +kernel
theorem dX0_init_46 : decode cX0_init 46 = .ok (.invokespecial 27, 3) := by decide +kernel
theorem dX0_init_49 : decode cX0_init 49 = .ok (.aastore, 1) := by decide +kernel
theorem dX0_init_50 : decode cX0_init 50 = .ok (.iinc 1 1, 3) := by decide +kernel
theorem dX0_init_53 : decode cX0_init 53 = .ok (.goto (-22), 3) := by decide +kernel
theorem dX0_init_56 : decode cX0_init 56 = .ok (.iconst 0, 1) := by decide +kernel
theorem dX0_init_57 : decode cX0_init 57 = .ok (.istore_n 1, 1) := by decide +kernel
theorem dX0_init_58 : decode cX0_init 58 = .ok (.iload_n 1, 1) := by decide +kernel
theorem dX0_init_59 : decode cX0_init 59 = .ok (.bipush 20, 2) := by decide +kernel
theorem dX0_init_61 : decode cX0_init 61 = .ok (.if_icmp .ge 23, 3) := by decide +kernel
theorem dX0_init_64 : decode cX0_init 64 = .ok (.aload_n 0, 1) := by decide +kernel
theorem dX0_init_65 : decode cX0_init 65 = .ok (.getfield 19, 3) := by decide +kernel
theorem dX0_init_68 : decode cX0_init 68 = .ok (.iload_n 1, 1) := by decide +kernel
theorem dX0_init_69 : decode cX0_init 69 = .ok (.new 17, 3) := by decide +kernel
theorem dX0_init_72 : decode cX0_init 72 = .ok (.dup, 1) := by decide +kernel
theorem dX0_init_73 : decode cX0_init 73 = .ok (.iload_n 1, 1) := by decide +kernel
theorem dX0_init_74 : decode cX0_init 74 = .ok (.invokespecial 28, 3) := by decide +kernel
theorem dX0_init_77 : decode cX0_init 77 = .ok (.aastore, 1) := by decide +kernel
theorem dX0_init_78 : decode cX0_init 78 = .ok (.iinc 1 1, 3) := by decide +kernel
theorem dX0_init_81 : decode cX0_init 81 = .ok (.goto (-23), 3) := by decide +kernel
theorem dX0_init_84 : decode cX0_init 84 = .ok (.iconst 0, 1) := by decide +kernel
theorem dX0_init_85 : decode cX0_init 85 = .ok (.istore_n 1, 1) := by decide +kernel
theorem dX0_init_86 : decode cX0_init 86 = .ok (.iload_n 1, 1) := by decide +kernel
theorem dX0_init_87 : decode cX0_init 87 = .ok (.iconst 5, 1) := by decide +kernel
theorem dX0_init_88 : decode cX0_init 88 = .ok (.if_icmp .ge 16, 3) := by decide +kernel
theorem dX0_init_91 : decode cX0_init 91 = .ok (.aload_n 0, 1) := by decide +kernel
theorem dX0_init_92 : decode cX0_init 92 = .ok (.getfield 23, 3) := by decide +kernel
theorem dX0_init_95 : decode cX0_init 95 = .ok (.iload_n 1, 1) := by decide +kernel
theorem dX0_init_96 : decode cX0_init 96 = .ok (.iconst 1, 1) := by decide +kernel
theorem dX0_init_97 : decode cX0_init 97 = .ok (.iastore, 1) := by decide +kernel
theorem dX0_init_98 : decode cX0_init 98 = .ok (.iinc 1 1, 3) := by decide +kernel
theorem dX0_init_101 : decode cX0_init 101 = .ok (.goto (-15), 3) := by decide +kernel
theorem dX0_init_104 : decode cX0_init 104 = .ok (.return_, 1) := by decide +kernel
theorem dX0_open_0 : decode cX0_open 0 = .ok (.aload_n 0, 1) := by decide +kernel
theorem dX0_open_1 : decode cX0_open 1 = .ok (.iconst 0, 1) := by decide +kernel
theorem dX0_open_2 : decode cX0_open 2 = .ok (.putfield 31, 3) := by decide +kernel
theorem dX0_open_5 : decode cX0_open 5 = .ok (.aload_n 0, 1) := by decide +kernel
theorem dX0_open_6 : decode cX0_open 6 = .ok (.iconst 0, 1) := by decide +kernel
theorem dX0_open_7 : decode cX0_open 7 = .ok (.putfield 35, 3) := by decide +kernel
theorem dX0_open_10 : decode cX0_open 10 = .ok (.aload_n 0, 1) := by decide +kernel
theorem dX0_open_11 : decode cX0_open 11 = .ok (.iconst 0, 1) := by decide +kernel
theorem dX0_open_12 : decode cX0_open 12 = .ok (.putfield 38, 3) := by decide +kernel
theorem dX0_open_15 : decode cX0_open 15 = .ok (.iconst 0, 1) := by decide +kernel
theorem dX0_open_16 : decode cX0_open 16 = .ok (.istore_n 1, 1) := by decide +kernel
theorem dX0_open_17 : decode cX0_open 17 = .ok (.iload_n 1, 1) := by decide +kernel
theorem dX0_open_18 : decode cX0_open 18 = .ok (.iconst 5, 1) := by decide +kernel
theorem dX0_open_19 : decode cX0_open 19 = .ok (.if_icmp .ge 16, 3) := by decide +kernel
theorem dX0_open_22 : decode cX0_open 22 = .ok (.aload_n 0, 1) := by decide +kernel
theorem dX0_open_23 : decode cX0_open 23 = .ok (.getfield 23, 3) := by decide +kernel
theorem dX0_open_26 : decode cX0_open 26 = .ok (.iload_n 1, 1) := by decide +kernel
theorem dX0_open_27 : decode cX0_open 27 = .ok (.iconst 1, 1) := by decide +kernel
theorem dX0_open_28 : decode cX0_open 28 = .ok (.iastore, 1) := by decide +kernel
theorem dX0_open_29 : decode cX0_open 29 = .ok (.iinc 1 1, 3) := by decide +kernel
theorem dX0_open_32 : decode cX0_open 32 = .ok (.goto (-15), 3) := by decide +kernel
theorem dX0_open_35 : decode cX0_open 35 = .ok (.return_, 1) := by decide +kernel
theorem dX0_apply_0 : decode cX0_apply 0 = .ok (.iload_n 1, 1) := by decide +kernel
theorem dX0_apply_1 : decode cX0_apply 1 = .ok (.tableswitch 71 1 4 #[31, 38, 53, 60], 31) := by decide +kernel
theorem dX0_apply_32 : decode cX0_apply 32 = .ok (.aload_n 0, 1) := by decide +kernel
theorem dX0_apply_33 : decode cX0_apply 33 = .ok (.iload_n 2, 1) := by decide +kernel
theorem dX0_apply_34 : decode cX0_apply 34 = .ok (.iload_n 3, 1) := by decide +kernel
theorem dX0_apply_35 : decode cX0_apply 35 = .ok (.invokevirtual 41, 3) := by decide +kernel
theorem dX0_apply_38 : decode cX0_apply 38 = .ok (.ireturn, 1) := by decide +kernel
theorem dX0_apply_39 : decode cX0_apply 39 = .ok (.aload_n 0, 1) := by decide +kernel
theorem dX0_apply_40 : decode cX0_apply 40 = .ok (.dup, 1) := by decide +kernel
theorem dX0_apply_41 : decode cX0_apply 41 = .ok (.getfield 38, 3) := by decide +kernel
theorem dX0_apply_44 : decode cX0_apply 44 = .ok (.iload_n 2, 1) := by decide +kernel
theorem dX0_apply_45 : decode cX0_apply 45 = .ok (.iadd, 1) := by decide +kernel
theorem dX0_apply_46 : decode cX0_apply 46 = .ok (.putfield 38, 3) := by decide +kernel
theorem dX0_apply_49 : decode cX0_apply 49 = .ok (.aload_n 0, 1) := by decide +kernel
theorem dX0_apply_50 : decode cX0_apply 50 = .ok (.getfield 38, 3) := by decide +kernel
theorem dX0_apply_53 : decode cX0_apply 53 = .ok (.ireturn, 1) := by decide +kernel
theorem dX0_apply_54 : decode cX0_apply 54 = .ok (.aload_n 0, 1) := by decide +kernel
theorem dX0_apply_55 : decode cX0_apply 55 = .ok (.iload_n 2, 1) := by decide +kernel
theorem dX0_apply_56 : decode cX0_apply 56 = .ok (.iload_n 3, 1) := by decide +kernel
theorem dX0_apply_57 : decode cX0_apply 57 = .ok (.invokevirtual 45, 3) := by decide +kernel
theorem dX0_apply_60 : decode cX0_apply 60 = .ok (.ireturn, 1) := by decide +kernel
theorem dX0_apply_61 : decode cX0_apply 61 = .ok (.aload_n 0, 1) := by decide +kernel
theorem dX0_apply_62 : decode cX0_apply 62 = .ok (.iload_n 2, 1) := by decide +kernel
theorem dX0_apply_63 : decode cX0_apply 63 = .ok (.iload_n 3, 1) := by decide +kernel
theorem dX0_apply_64 : decode cX0_apply 64 = .ok (.iload 4, 2) := by decide +kernel
theorem dX0_apply_66 : decode cX0_apply 66 = .ok (.iload 5, 2) := by decide +kernel
theorem dX0_apply_68 : decode cX0_apply 68 = .ok (.invokevirtual 48, 3) := by decide +kernel
theorem dX0_apply_71 : decode cX0_apply 71 = .ok (.ireturn, 1) := by decide +kernel
theorem dX0_apply_72 : decode cX0_apply 72 = .ok (.iload_n 2, 1) := by decide +kernel
theorem dX0_apply_73 : decode cX0_apply 73 = .ok (.ifCond .lt 11, 3) := by decide +kernel
theorem dX0_apply_76 : decode cX0_apply 76 = .ok (.iload_n 2, 1) := by decide +kernel
theorem dX0_apply_77 : decode cX0_apply 77 = .ok (.aload_n 0, 1) := by decide +kernel
theorem dX0_apply_78 : decode cX0_apply 78 = .ok (.getfield 35, 3) := by decide +kernel
theorem dX0_apply_81 : decode cX0_apply 81 = .ok (.if_icmp .lt 5, 3) := by decide +kernel
theorem dX0_apply_84 : decode cX0_apply 84 = .ok (.iconst (-1), 1) := by decide +kernel
theorem dX0_apply_85 : decode cX0_apply 85 = .ok (.ireturn, 1) := by decide +kernel
theorem dX0_apply_86 : decode cX0_apply 86 = .ok (.iload_n 1, 1) := by decide +kernel
theorem dX0_apply_87 : decode cX0_apply 87 = .ok (.bipush 8, 2) := by decide +kernel
theorem dX0_apply_89 : decode cX0_apply 89 = .ok (.if_icmp .gt 18, 3) := by decide +kernel
theorem dX0_apply_92 : decode cX0_apply 92 = .ok (.aload_n 0, 1) := by decide +kernel
theorem dX0_apply_93 : decode cX0_apply 93 = .ok (.iload_n 1, 1) := by decide +kernel
theorem dX0_apply_94 : decode cX0_apply 94 = .ok (.aload_n 0, 1) := by decide +kernel
theorem dX0_apply_95 : decode cX0_apply 95 = .ok (.getfield 19, 3) := by decide +kernel
theorem dX0_apply_98 : decode cX0_apply 98 = .ok (.iload_n 2, 1) := by decide +kernel
theorem dX0_apply_99 : decode cX0_apply 99 = .ok (.aaload, 1) := by decide +kernel
theorem dX0_apply_100 : decode cX0_apply 100 = .ok (.iload_n 3, 1) := by decide +kernel
theorem dX0_apply_101 : decode cX0_apply 101 = .ok (.invokevirtual 52, 3) := by decide +kernel
theorem dX0_apply_104 : decode cX0_apply 104 = .ok (.goto 15, 3) := by decide +kernel
theorem dX0_apply_107 : decode cX0_apply 107 = .ok (.aload_n 0, 1) := by decide +kernel
theorem dX0_apply_108 : decode cX0_apply 108 = .ok (.iload_n 1, 1) := by decide +kernel
theorem dX0_apply_109 : decode cX0_apply 109 = .ok (.aload_n 0, 1) := by decide +kernel
theorem dX0_apply_110 : decode cX0_apply 110 = .ok (.getfield 19, 3) := by decide +kernel
theorem dX0_apply_113 : decode cX0_apply 113 = .ok (.iload_n 2, 1) := by decide +kernel
theorem dX0_apply_114 : decode cX0_apply 114 = .ok (.aaload, 1) := by decide +kernel
theorem dX0_apply_115 : decode cX0_apply 115 = .ok (.iload_n 3, 1) := by decide +kernel
theorem dX0_apply_116 : decode cX0_apply 116 = .ok (.invokevirtual 56, 3) := by decide +kernel
theorem dX0_apply_119 : decode cX0_apply 119 = .ok (.ireturn, 1) := by decide +kernel
theorem dX0_applyAtIntake_0 : decode cX0_applyAtIntake 0 = .ok (.iload_n 1, 1) := by decide +kernel
theorem dX0_applyAtIntake_1 : decode cX0_applyAtIntake 1 = .ok (.tableswitch 71 5 7 #[27, 43, 49], 27) := by decide +kernel
theorem dX0_applyAtIntake_28 : decode cX0_applyAtIntake 28 = .ok (.aload_n 0, 1) := by decide +kernel
theorem dX0_applyAtIntake_29 : decode cX0_applyAtIntake 29 = .ok (.aload_n 2, 1) := by decide +kernel
theorem dX0_applyAtIntake_30 : decode cX0_applyAtIntake 30 = .ok (.iload_n 3, 1) := by decide +kernel
theorem dX0_applyAtIntake_31 : decode cX0_applyAtIntake 31 = .ok (.iconst 1, 1) := by decide +kernel
theorem dX0_applyAtIntake_32 : decode cX0_applyAtIntake 32 = .ok (.if_icmp .ne 7, 3) := by decide +kernel
theorem dX0_applyAtIntake_35 : decode cX0_applyAtIntake 35 = .ok (.iconst 1, 1) := by decide +kernel
theorem dX0_applyAtIntake_36 : decode cX0_applyAtIntake 36 = .ok (.goto 4, 3) := by decide +kernel
theorem dX0_applyAtIntake_39 : decode cX0_applyAtIntake 39 = .ok (.iconst 0, 1) := by decide +kernel
theorem dX0_applyAtIntake_40 : decode cX0_applyAtIntake 40 = .ok (.invokevirtual 59, 3) := by decide +kernel
theorem dX0_applyAtIntake_43 : decode cX0_applyAtIntake 43 = .ok (.ireturn, 1) := by decide +kernel
theorem dX0_applyAtIntake_44 : decode cX0_applyAtIntake 44 = .ok (.aload_n 0, 1) := by decide +kernel
theorem dX0_applyAtIntake_45 : decode cX0_applyAtIntake 45 = .ok (.aload_n 2, 1) := by decide +kernel
theorem dX0_applyAtIntake_46 : decode cX0_applyAtIntake 46 = .ok (.invokevirtual 63, 3) := by decide +kernel
theorem dX0_applyAtIntake_49 : decode cX0_applyAtIntake 49 = .ok (.ireturn, 1) := by decide +kernel
theorem dX0_applyAtIntake_50 : decode cX0_applyAtIntake 50 = .ok (.aload_n 2, 1) := by decide +kernel
theorem dX0_applyAtIntake_51 : decode cX0_applyAtIntake 51 = .ok (.aload_n 0, 1) := by decide +kernel
theorem dX0_applyAtIntake_52 : decode cX0_applyAtIntake 52 = .ok (.getfield 38, 3) := by decide +kernel
theorem dX0_applyAtIntake_55 : decode cX0_applyAtIntake 55 = .ok (.putfield 67, 3) := by decide +kernel
theorem dX0_applyAtIntake_58 : decode cX0_applyAtIntake 58 = .ok (.aload_n 0, 1) := by decide +kernel
theorem dX0_applyAtIntake_59 : decode cX0_applyAtIntake 59 = .ok (.getfield 38, 3) := by decide +kernel
theorem dX0_applyAtIntake_62 : decode cX0_applyAtIntake 62 = .ok (.aload_n 0, 1) := by decide +kernel
theorem dX0_applyAtIntake_63 : decode cX0_applyAtIntake 63 = .ok (.aload_n 2, 1) := by decide +kernel
theorem dX0_applyAtIntake_64 : decode cX0_applyAtIntake 64 = .ok (.invokevirtual 70, 3) := by decide +kernel
theorem dX0_applyAtIntake_67 : decode cX0_applyAtIntake 67 = .ok (.getfield 74, 3) := by decide +kernel
theorem dX0_applyAtIntake_70 : decode cX0_applyAtIntake 70 = .ok (.iadd, 1) := by decide +kernel
theorem dX0_applyAtIntake_71 : decode cX0_applyAtIntake 71 = .ok (.ireturn, 1) := by decide +kernel
theorem dX0_applyAtIntake_72 : decode cX0_applyAtIntake 72 = .ok (.aload_n 2, 1) := by decide +kernel
theorem dX0_applyAtIntake_73 : decode cX0_applyAtIntake 73 = .ok (.aload_n 0, 1) := by decide +kernel
theorem dX0_applyAtIntake_74 : decode cX0_applyAtIntake 74 = .ok (.aload_n 2, 1) := by decide +kernel
theorem dX0_applyAtIntake_75 : decode cX0_applyAtIntake 75 = .ok (.invokevirtual 77, 3) := by decide +kernel
theorem dX0_applyAtIntake_78 : decode cX0_applyAtIntake 78 = .ok (.aload_n 0, 1) := by decide +kernel
theorem dX0_applyAtIntake_79 : decode cX0_applyAtIntake 79 = .ok (.getfield 38, 3) := by decide +kernel
theorem dX0_applyAtIntake_82 : decode cX0_applyAtIntake 82 = .ok (.invokevirtual 81, 3) := by decide +kernel
theorem dX0_applyAtIntake_85 : decode cX0_applyAtIntake 85 = .ok (.aload_n 2, 1) := by decide +kernel
theorem dX0_applyAtIntake_86 : decode cX0_applyAtIntake 86 = .ok (.getfield 85, 3) := by decide +kernel
theorem dX0_applyAtIntake_89 : decode cX0_applyAtIntake 89 = .ok (.ireturn, 1) := by decide +kernel
theorem dX0_applyToCase_0 : decode cX0_applyToCase 0 = .ok (.iload_n 1, 1) := by decide +kernel
theorem dX0_applyToCase_1 : decode cX0_applyToCase 1 = .ok (.tableswitch 221 9 20 #[63, 69, 76, 82, 107, 123, 130, 136, 143, 176, 209, 215], 63) := by decide +kernel
theorem dX0_applyToCase_64 : decode cX0_applyToCase 64 = .ok (.aload_n 0, 1) := by decide +kernel
theorem dX0_applyToCase_65 : decode cX0_applyToCase 65 = .ok (.aload_n 2, 1) := by decide +kernel
theorem dX0_applyToCase_66 : decode cX0_applyToCase 66 = .ok (.invokevirtual 89, 3) := by decide +kernel
theorem dX0_applyToCase_69 : decode cX0_applyToCase 69 = .ok (.ireturn, 1) := by decide +kernel
theorem dX0_applyToCase_70 : decode cX0_applyToCase 70 = .ok (.aload_n 0, 1) := by decide +kernel
theorem dX0_applyToCase_71 : decode cX0_applyToCase 71 = .ok (.aload_n 2, 1) := by decide +kernel
theorem dX0_applyToCase_72 : decode cX0_applyToCase 72 = .ok (.iload_n 3, 1) := by decide +kernel
theorem dX0_applyToCase_73 : decode cX0_applyToCase 73 = .ok (.invokevirtual 92, 3) := by decide +kernel
theorem dX0_applyToCase_76 : decode cX0_applyToCase 76 = .ok (.ireturn, 1) := by decide +kernel
theorem dX0_applyToCase_77 : decode cX0_applyToCase 77 = .ok (.aload_n 0, 1) := by decide +kernel
theorem dX0_applyToCase_78 : decode cX0_applyToCase 78 = .ok (.aload_n 2, 1) := by decide +kernel
theorem dX0_applyToCase_79 : decode cX0_applyToCase 79 = .ok (.invokevirtual 96, 3) := by decide +kernel
theorem dX0_applyToCase_82 : decode cX0_applyToCase 82 = .ok (.ireturn, 1) := by decide +kernel
theorem dX0_applyToCase_83 : decode cX0_applyToCase 83 = .ok (.aload_n 0, 1) := by decide +kernel
theorem dX0_applyToCase_84 : decode cX0_applyToCase 84 = .ok (.aload_n 2, 1) := by decide +kernel
theorem dX0_applyToCase_85 : decode cX0_applyToCase 85 = .ok (.bipush 115, 2) := by decide +kernel
theorem dX0_applyToCase_87 : decode cX0_applyToCase 87 = .ok (.invokevirtual 99, 3) := by decide +kernel
theorem dX0_applyToCase_90 : decode cX0_applyToCase 90 = .ok (.pop, 1) := by decide +kernel
theorem dX0_applyToCase_91 : decode cX0_applyToCase 91 = .ok (.iconst 0, 1) := by decide +kernel
theorem dX0_applyToCase_92 : decode cX0_applyToCase 92 = .ok (.aload_n 0, 1) := by decide +kernel
theorem dX0_applyToCase_93 : decode cX0_applyToCase 93 = .ok (.getfield 38, 3) := by decide +kernel
theorem dX0_applyToCase_96 : decode cX0_applyToCase 96 = .ok (.aload_n 2, 1) := by decide +kernel
theorem dX0_applyToCase_97 : decode cX0_applyToCase 97 = .ok (.getfield 103, 3) := by decide +kernel
theorem dX0_applyToCase_100 : decode cX0_applyToCase 100 = .ok (.getfield 107, 3) := by decide +kernel
theorem dX0_applyToCase_103 : decode cX0_applyToCase 103 = .ok (.isub, 1) := by decide +kernel
theorem dX0_applyToCase_104 : decode cX0_applyToCase 104 = .ok (.invokestatic 112, 3) := by decide +kernel
theorem dX0_applyToCase_107 : decode cX0_applyToCase 107 = .ok (.ireturn, 1) := by decide +kernel
theorem dX0_applyToCase_108 : decode cX0_applyToCase 108 = .ok (.aload_n 2, 1) := by decide +kernel
theorem dX0_applyToCase_109 : decode cX0_applyToCase 109 = .ok (.getfield 103, 3) := by decide +kernel
theorem dX0_applyToCase_112 : decode cX0_applyToCase 112 = .ok (.iconst 1, 1) := by decide +kernel
theorem dX0_applyToCase_113 : decode cX0_applyToCase 113 = .ok (.putfield 117, 3) := by decide +kernel
theorem dX0_applyToCase_116 : decode cX0_applyToCase 116 = .ok (.aload_n 0, 1) := by decide +kernel
theorem dX0_applyToCase_117 : decode cX0_applyToCase 117 = .ok (.aload_n 2, 1) := by decide +kernel
theorem dX0_applyToCase_118 : decode cX0_applyToCase 118 = .ok (.bipush 115, 2) := by decide +kernel
theorem dX0_applyToCase_120 : decode cX0_applyToCase 120 = .ok (.invokevirtual 99, 3) := by decide +kernel
theorem dX0_applyToCase_123 : decode cX0_applyToCase 123 = .ok (.ireturn, 1) := by decide +kernel
theorem dX0_applyToCase_124 : decode cX0_applyToCase 124 = .ok (.aload_n 0, 1) := by decide +kernel
theorem dX0_applyToCase_125 : decode cX0_applyToCase 125 = .ok (.aload_n 2, 1) := by decide +kernel
theorem dX0_applyToCase_126 : decode cX0_applyToCase 126 = .ok (.iload_n 3, 1) := by decide +kernel
theorem dX0_applyToCase_127 : decode cX0_applyToCase 127 = .ok (.invokevirtual 121, 3) := by decide +kernel
theorem dX0_applyToCase_130 : decode cX0_applyToCase 130 = .ok (.ireturn, 1) := by decide +kernel
theorem dX0_applyToCase_131 : decode cX0_applyToCase 131 = .ok (.aload_n 0, 1) := by decide +kernel
theorem dX0_applyToCase_132 : decode cX0_applyToCase 132 = .ok (.aload_n 2, 1) := by decide +kernel
theorem dX0_applyToCase_133 : decode cX0_applyToCase 133 = .ok (.invokevirtual 124, 3) := by decide +kernel
theorem dX0_applyToCase_136 : decode cX0_applyToCase 136 = .ok (.ireturn, 1) := by decide +kernel
theorem dX0_applyToCase_137 : decode cX0_applyToCase 137 = .ok (.aload_n 0, 1) := by decide +kernel
theorem dX0_applyToCase_138 : decode cX0_applyToCase 138 = .ok (.aload_n 2, 1) := by decide +kernel
theorem dX0_applyToCase_139 : decode cX0_applyToCase 139 = .ok (.iload_n 3, 1) := by decide +kernel
theorem dX0_applyToCase_140 : decode cX0_applyToCase 140 = .ok (.invokevirtual 127, 3) := by decide +kernel
theorem dX0_applyToCase_143 : decode cX0_applyToCase 143 = .ok (.ireturn, 1) := by decide +kernel
theorem dX0_applyToCase_144 : decode cX0_applyToCase 144 = .ok (.aload_n 2, 1) := by decide +kernel
theorem dX0_applyToCase_145 : decode cX0_applyToCase 145 = .ok (.getfield 130, 3) := by decide +kernel
theorem dX0_applyToCase_148 : decode cX0_applyToCase 148 = .ok (.iconst 1, 1) := by decide +kernel
theorem dX0_applyToCase_149 : decode cX0_applyToCase 149 = .ok (.putfield 134, 3) := by decide +kernel
theorem dX0_applyToCase_152 : decode cX0_applyToCase 152 = .ok (.aload_n 2, 1) := by decide +kernel
theorem dX0_applyToCase_153 : decode cX0_applyToCase 153 = .ok (.getfield 130, 3) := by decide +kernel
theorem dX0_applyToCase_156 : decode cX0_applyToCase 156 = .ok (.iload_n 3, 1) := by decide +kernel
theorem dX0_applyToCase_157 : decode cX0_applyToCase 157 = .ok (.iconst 1, 1) := by decide +kernel
theorem dX0_applyToCase_158 : decode cX0_applyToCase 158 = .ok (.if_icmp .ne 7, 3) := by decide +kernel
theorem dX0_applyToCase_161 : decode cX0_applyToCase 161 = .ok (.iconst 1, 1) := by decide +kernel
theorem dX0_applyToCase_162 : decode cX0_applyToCase 162 = .ok (.goto 4, 3) := by decide +kernel
theorem dX0_applyToCase_165 : decode cX0_applyToCase 165 = .ok (.iconst 0, 1) := by decide +kernel
theorem dX0_applyToCase_166 : decode cX0_applyToCase 166 = .ok (.putfield 139, 3) := by decide +kernel
theorem dX0_applyToCase_169 : decode cX0_applyToCase 169 = .ok (.aload_n 2, 1) := by decide +kernel
theorem dX0_applyToCase_170 : decode cX0_applyToCase 170 = .ok (.getfield 130, 3) := by decide +kernel
theorem dX0_applyToCase_173 : decode cX0_applyToCase 173 = .ok (.getfield 142, 3) := by decide +kernel
theorem dX0_applyToCase_176 : decode cX0_applyToCase 176 = .ok (.ireturn, 1) := by decide +kernel
theorem dX0_applyToCase_177 : decode cX0_applyToCase 177 = .ok (.aload_n 0, 1) := by decide +kernel
theorem dX0_applyToCase_178 : decode cX0_applyToCase 178 = .ok (.aload_n 2, 1) := by decide +kernel
theorem dX0_applyToCase_179 : decode cX0_applyToCase 179 = .ok (.invokevirtual 70, 3) := by decide +kernel
theorem dX0_applyToCase_182 : decode cX0_applyToCase 182 = .ok (.dup, 1) := by decide +kernel
theorem dX0_applyToCase_183 : decode cX0_applyToCase 183 = .ok (.getfield 145, 3) := by decide +kernel
theorem dX0_applyToCase_186 : decode cX0_applyToCase 186 = .ok (.aload_n 0, 1) := by decide +kernel
theorem dX0_applyToCase_187 : decode cX0_applyToCase 187 = .ok (.aload_n 2, 1) := by decide +kernel
theorem dX0_applyToCase_188 : decode cX0_applyToCase 188 = .ok (.bipush 104, 2) := by decide +kernel
theorem dX0_applyToCase_190 : decode cX0_applyToCase 190 = .ok (.invokevirtual 99, 3) := by decide +kernel
theorem dX0_applyToCase_193 : decode cX0_applyToCase 193 = .ok (.iadd, 1) := by decide +kernel
theorem dX0_applyToCase_194 : decode cX0_applyToCase 194 = .ok (.putfield 145, 3) := by decide +kernel
theorem dX0_applyToCase_197 : decode cX0_applyToCase 197 = .ok (.aload_n 2, 1) := by decide +kernel
theorem dX0_applyToCase_198 : decode cX0_applyToCase 198 = .ok (.getfield 130, 3) := by decide +kernel
theorem dX0_applyToCase_201 : decode cX0_applyToCase 201 = .ok (.getfield 142, 3) := by decide +kernel
theorem dX0_applyToCase_204 : decode cX0_applyToCase 204 = .ok (.aload_n 0, 1) := by decide +kernel
theorem dX0_applyToCase_205 : decode cX0_applyToCase 205 = .ok (.getfield 38, 3) := by decide +kernel
theorem dX0_applyToCase_208 : decode cX0_applyToCase 208 = .ok (.isub, 1) := by decide +kernel
theorem dX0_applyToCase_209 : decode cX0_applyToCase 209 = .ok (.ireturn, 1) := by decide +kernel
theorem dX0_applyToCase_210 : decode cX0_applyToCase 210 = .ok (.aload_n 0, 1) := by decide +kernel
theorem dX0_applyToCase_211 : decode cX0_applyToCase 211 = .ok (.aload_n 2, 1) := by decide +kernel
theorem dX0_applyToCase_212 : decode cX0_applyToCase 212 = .ok (.invokevirtual 148, 3) := by decide +kernel
theorem dX0_applyToCase_215 : decode cX0_applyToCase 215 = .ok (.ireturn, 1) := by decide +kernel
theorem dX0_applyToCase_216 : decode cX0_applyToCase 216 = .ok (.aload_n 0, 1) := by decide +kernel
theorem dX0_applyToCase_217 : decode cX0_applyToCase 217 = .ok (.aload_n 2, 1) := by decide +kernel
theorem dX0_applyToCase_218 : decode cX0_applyToCase 218 = .ok (.invokevirtual 151, 3) := by decide +kernel
theorem dX0_applyToCase_221 : decode cX0_applyToCase 221 = .ok (.ireturn, 1) := by decide +kernel
theorem dX0_applyToCase_222 : decode cX0_applyToCase 222 = .ok (.iconst (-1), 1) := by decide +kernel
theorem dX0_applyToCase_223 : decode cX0_applyToCase 223 = .ok (.ireturn, 1) := by decide +kernel
theorem dX0_openOffice_0 : decode cX0_openOffice 0 = .ok (.aload_n 0, 1) := by decide +kernel
theorem dX0_openOffice_1 : decode cX0_openOffice 1 = .ok (.getfield 31, 3) := by decide +kernel
theorem dX0_openOffice_4 : decode cX0_openOffice 4 = .ok (.bipush 6, 2) := by decide +kernel
theorem dX0_openOffice_6 : decode cX0_openOffice 6 = .ok (.if_icmp .lt 5, 3) := by decide +kernel
theorem dX0_openOffice_9 : decode cX0_openOffice 9 = .ok (.iconst (-1), 1) := by decide +kernel
theorem dX0_openOffice_10 : decode cX0_openOffice 10 = .ok (.ireturn, 1) := by decide +kernel
theorem dX0_openOffice_11 : decode cX0_openOffice 11 = .ok (.aload_n 0, 1) := by decide +kernel
theorem dX0_openOffice_12 : decode cX0_openOffice 12 = .ok (.getfield 11, 3) := by decide +kernel
theorem dX0_openOffice_15 : decode cX0_openOffice 15 = .ok (.aload_n 0, 1) := by decide +kernel
theorem dX0_openOffice_16 : decode cX0_openOffice 16 = .ok (.getfield 31, 3) := by decide +kernel
theorem dX0_openOffice_19 : decode cX0_openOffice 19 = .ok (.aaload, 1) := by decide +kernel
theorem dX0_openOffice_20 : decode cX0_openOffice 20 = .ok (.iload_n 1, 1) := by decide +kernel
theorem dX0_openOffice_21 : decode cX0_openOffice 21 = .ok (.iload_n 2, 1) := by decide +kernel
theorem dX0_openOffice_22 : decode cX0_openOffice 22 = .ok (.invokevirtual 154, 3) := by decide +kernel
theorem dX0_openOffice_25 : decode cX0_openOffice 25 = .ok (.aload_n 0, 1) := by decide +kernel
theorem dX0_openOffice_26 : decode cX0_openOffice 26 = .ok (.dup, 1) := by decide +kernel
theorem dX0_openOffice_27 : decode cX0_openOffice 27 = .ok (.getfield 31, 3) := by decide +kernel
theorem dX0_openOffice_30 : decode cX0_openOffice 30 = .ok (.iconst 1, 1) := by decide +kernel
theorem dX0_openOffice_31 : decode cX0_openOffice 31 = .ok (.iadd, 1) := by decide +kernel
theorem dX0_openOffice_32 : decode cX0_openOffice 32 = .ok (.putfield 31, 3) := by decide +kernel
theorem dX0_openOffice_35 : decode cX0_openOffice 35 = .ok (.aload_n 0, 1) := by decide +kernel
theorem dX0_openOffice_36 : decode cX0_openOffice 36 = .ok (.getfield 31, 3) := by decide +kernel
theorem dX0_openOffice_39 : decode cX0_openOffice 39 = .ok (.iconst 1, 1) := by decide +kernel
theorem dX0_openOffice_40 : decode cX0_openOffice 40 = .ok (.isub, 1) := by decide +kernel
theorem dX0_openOffice_41 : decode cX0_openOffice 41 = .ok (.ireturn, 1) := by decide +kernel
theorem dX0_weigh_0 : decode cX0_weigh 0 = .ok (.iload_n 1, 1) := by decide +kernel
theorem dX0_weigh_1 : decode cX0_weigh 1 = .ok (.ifCond .lt 8, 3) := by decide +kernel
theorem dX0_weigh_4 : decode cX0_weigh 4 = .ok (.iload_n 1, 1) := by decide +kernel
theorem dX0_weigh_5 : decode cX0_weigh 5 = .ok (.iconst 5, 1) := by decide +kernel
theorem dX0_weigh_6 : decode cX0_weigh 6 = .ok (.if_icmp .lt 5, 3) := by decide +kernel
theorem dX0_weigh_9 : decode cX0_weigh 9 = .ok (.iconst (-1), 1) := by decide +kernel
theorem dX0_weigh_10 : decode cX0_weigh 10 = .ok (.ireturn, 1) := by decide +kernel
theorem dX0_weigh_11 : decode cX0_weigh 11 = .ok (.aload_n 0, 1) := by decide +kernel
theorem dX0_weigh_12 : decode cX0_weigh 12 = .ok (.getfield 23, 3) := by decide +kernel
theorem dX0_weigh_15 : decode cX0_weigh 15 = .ok (.iload_n 1, 1) := by decide +kernel
theorem dX0_weigh_16 : decode cX0_weigh 16 = .ok (.iaload, 1) := by decide +kernel
theorem dX0_weigh_17 : decode cX0_weigh 17 = .ok (.istore_n 3, 1) := by decide +kernel
theorem dX0_weigh_18 : decode cX0_weigh 18 = .ok (.aload_n 0, 1) := by decide +kernel
theorem dX0_weigh_19 : decode cX0_weigh 19 = .ok (.getfield 23, 3) := by decide +kernel
theorem dX0_weigh_22 : decode cX0_weigh 22 = .ok (.iload_n 1, 1) := by decide +kernel
theorem dX0_weigh_23 : decode cX0_weigh 23 = .ok (.iload_n 2, 1) := by decide +kernel
theorem dX0_weigh_24 : decode cX0_weigh 24 = .ok (.iastore, 1) := by decide +kernel
theorem dX0_weigh_25 : decode cX0_weigh 25 = .ok (.iload_n 3, 1) := by decide +kernel
theorem dX0_weigh_26 : decode cX0_weigh 26 = .ok (.ireturn, 1) := by decide +kernel
theorem dX0_hear_0 : decode cX0_hear 0 = .ok (.iload_n 1, 1) := by decide +kernel
theorem dX0_hear_1 : decode cX0_hear 1 = .ok (.ifCond .lt 20, 3) := by decide +kernel
theorem dX0_hear_4 : decode cX0_hear 4 = .ok (.iload_n 1, 1) := by decide +kernel
theorem dX0_hear_5 : decode cX0_hear 5 = .ok (.aload_n 0, 1) := by decide +kernel
theorem dX0_hear_6 : decode cX0_hear 6 = .ok (.getfield 31, 3) := by decide +kernel
theorem dX0_hear_9 : decode cX0_hear 9 = .ok (.if_icmp .ge 12, 3) := by decide +kernel
theorem dX0_hear_12 : decode cX0_hear 12 = .ok (.aload_n 0, 1) := by decide +kernel
theorem dX0_hear_13 : decode cX0_hear 13 = .ok (.getfield 35, 3) := by decide +kernel
theorem dX0_hear_16 : decode cX0_hear 16 = .ok (.bipush 20, 2) := by decide +kernel
theorem dX0_hear_18 : decode cX0_hear 18 = .ok (.if_icmp .lt 5, 3) := by decide +kernel
theorem dX0_hear_21 : decode cX0_hear 21 = .ok (.iconst (-1), 1) := by decide +kernel
theorem dX0_hear_22 : decode cX0_hear 22 = .ok (.ireturn, 1) := by decide +kernel
theorem dX0_hear_23 : decode cX0_hear 23 = .ok (.aload_n 0, 1) := by decide +kernel
theorem dX0_hear_24 : decode cX0_hear 24 = .ok (.getfield 19, 3) := by decide +kernel
theorem dX0_hear_27 : decode cX0_hear 27 = .ok (.aload_n 0, 1) := by decide +kernel
theorem dX0_hear_28 : decode cX0_hear 28 = .ok (.getfield 35, 3) := by decide +kernel
theorem dX0_hear_31 : decode cX0_hear 31 = .ok (.aaload, 1) := by decide +kernel
theorem dX0_hear_32 : decode cX0_hear 32 = .ok (.iload_n 1, 1) := by decide +kernel
theorem dX0_hear_33 : decode cX0_hear 33 = .ok (.iload_n 2, 1) := by decide +kernel
theorem dX0_hear_34 : decode cX0_hear 34 = .ok (.iload_n 3, 1) := by decide +kernel
theorem dX0_hear_35 : decode cX0_hear 35 = .ok (.iload 4, 2) := by decide +kernel
theorem dX0_hear_37 : decode cX0_hear 37 = .ok (.aload_n 0, 1) := by decide +kernel
theorem dX0_hear_38 : decode cX0_hear 38 = .ok (.getfield 38, 3) := by decide +kernel
theorem dX0_hear_41 : decode cX0_hear 41 = .ok (.invokevirtual 158, 3) := by decide +kernel
theorem dX0_hear_44 : decode cX0_hear 44 = .ok (.aload_n 0, 1) := by decide +kernel
theorem dX0_hear_45 : decode cX0_hear 45 = .ok (.dup, 1) := by decide +kernel
theorem dX0_hear_46 : decode cX0_hear 46 = .ok (.getfield 35, 3) := by decide +kernel
theorem dX0_hear_49 : decode cX0_hear 49 = .ok (.iconst 1, 1) := by decide +kernel
theorem dX0_hear_50 : decode cX0_hear 50 = .ok (.iadd, 1) := by decide +kernel
theorem dX0_hear_51 : decode cX0_hear 51 = .ok (.putfield 35, 3) := by decide +kernel
theorem dX0_hear_54 : decode cX0_hear 54 = .ok (.aload_n 0, 1) := by decide +kernel
theorem dX0_hear_55 : decode cX0_hear 55 = .ok (.getfield 35, 3) := by decide +kernel
theorem dX0_hear_58 : decode cX0_hear 58 = .ok (.iconst 1, 1) := by decide +kernel
theorem dX0_hear_59 : decode cX0_hear 59 = .ok (.isub, 1) := by decide +kernel
theorem dX0_hear_60 : decode cX0_hear 60 = .ok (.ireturn, 1) := by decide +kernel
theorem dX0_tellOfCourt_0 : decode cX0_tellOfCourt 0 = .ok (.aload_n 1, 1) := by decide +kernel
theorem dX0_tellOfCourt_1 : decode cX0_tellOfCourt 1 = .ok (.getfield 161, 3) := by decide +kernel
theorem dX0_tellOfCourt_4 : decode cX0_tellOfCourt 4 = .ok (.ifCond .eq 7, 3) := by decide +kernel
theorem dX0_tellOfCourt_7 : decode cX0_tellOfCourt 7 = .ok (.iconst 1, 1) := by decide +kernel
theorem dX0_tellOfCourt_8 : decode cX0_tellOfCourt 8 = .ok (.goto 4, 3) := by decide +kernel
theorem dX0_tellOfCourt_11 : decode cX0_tellOfCourt 11 = .ok (.iconst 0, 1) := by decide +kernel
theorem dX0_tellOfCourt_12 : decode cX0_tellOfCourt 12 = .ok (.istore_n 3, 1) := by decide +kernel
theorem dX0_tellOfCourt_13 : decode cX0_tellOfCourt 13 = .ok (.aload_n 1, 1) := by decide +kernel
theorem dX0_tellOfCourt_14 : decode cX0_tellOfCourt 14 = .ok (.iload_n 2, 1) := by decide +kernel
theorem dX0_tellOfCourt_15 : decode cX0_tellOfCourt 15 = .ok (.putfield 161, 3) := by decide +kernel
theorem dX0_tellOfCourt_18 : decode cX0_tellOfCourt 18 = .ok (.iload_n 3, 1) := by decide +kernel
theorem dX0_tellOfCourt_19 : decode cX0_tellOfCourt 19 = .ok (.ireturn, 1) := by decide +kernel
theorem dX0_tellOfReason_0 : decode cX0_tellOfReason 0 = .ok (.aload_n 1, 1) := by decide +kernel
theorem dX0_tellOfReason_1 : decode cX0_tellOfReason 1 = .ok (.getfield 164, 3) := by decide +kernel
theorem dX0_tellOfReason_4 : decode cX0_tellOfReason 4 = .ok (.ifCond .eq 7, 3) := by decide +kernel
theorem dX0_tellOfReason_7 : decode cX0_tellOfReason 7 = .ok (.iconst 1, 1) := by decide +kernel
theorem dX0_tellOfReason_8 : decode cX0_tellOfReason 8 = .ok (.goto 4, 3) := by decide +kernel
theorem dX0_tellOfReason_11 : decode cX0_tellOfReason 11 = .ok (.iconst 0, 1) := by decide +kernel
theorem dX0_tellOfReason_12 : decode cX0_tellOfReason 12 = .ok (.istore_n 2, 1) := by decide +kernel
theorem dX0_tellOfReason_13 : decode cX0_tellOfReason 13 = .ok (.aload_n 1, 1) := by decide +kernel
theorem dX0_tellOfReason_14 : decode cX0_tellOfReason 14 = .ok (.iconst 1, 1) := by decide +kernel
theorem dX0_tellOfReason_15 : decode cX0_tellOfReason 15 = .ok (.putfield 164, 3) := by decide +kernel
theorem dX0_tellOfReason_18 : decode cX0_tellOfReason 18 = .ok (.iload_n 2, 1) := by decide +kernel
theorem dX0_tellOfReason_19 : decode cX0_tellOfReason 19 = .ok (.ireturn, 1) := by decide +kernel
theorem dX0_intakeOf_0 : decode cX0_intakeOf 0 = .ok (.aload_n 0, 1) := by decide +kernel
theorem dX0_intakeOf_1 : decode cX0_intakeOf 1 = .ok (.aload_n 1, 1) := by decide +kernel
theorem dX0_intakeOf_2 : decode cX0_intakeOf 2 = .ok (.invokevirtual 70, 3) := by decide +kernel
theorem dX0_intakeOf_5 : decode cX0_intakeOf 5 = .ok (.astore_n 2, 1) := by decide +kernel
theorem dX0_intakeOf_6 : decode cX0_intakeOf 6 = .ok (.aload_n 2, 1) := by decide +kernel
theorem dX0_intakeOf_7 : decode cX0_intakeOf 7 = .ok (.getfield 167, 3) := by decide +kernel
theorem dX0_intakeOf_10 : decode cX0_intakeOf 10 = .ok (.aload_n 1, 1) := by decide +kernel
theorem dX0_intakeOf_11 : decode cX0_intakeOf 11 = .ok (.getfield 170, 3) := by decide +kernel
theorem dX0_intakeOf_14 : decode cX0_intakeOf 14 = .ok (.ishr, 1) := by decide +kernel
theorem dX0_intakeOf_15 : decode cX0_intakeOf 15 = .ok (.iconst 1, 1) := by decide +kernel
theorem dX0_intakeOf_16 : decode cX0_intakeOf 16 = .ok (.iand, 1) := by decide +kernel
theorem dX0_intakeOf_17 : decode cX0_intakeOf 17 = .ok (.ifCond .eq 10, 3) := by decide +kernel
theorem dX0_intakeOf_20 : decode cX0_intakeOf 20 = .ok (.aload_n 1, 1) := by decide +kernel
theorem dX0_intakeOf_21 : decode cX0_intakeOf 21 = .ok (.getfield 161, 3) := by decide +kernel
theorem dX0_intakeOf_24 : decode cX0_intakeOf 24 = .ok (.ifCond .eq 6, 3) := by decide +kernel
theorem dX0_intakeOf_27 : decode cX0_intakeOf 27 = .ok (.bipush 111, 2) := by decide +kernel
theorem dX0_intakeOf_29 : decode cX0_intakeOf 29 = .ok (.ireturn, 1) := by decide +kernel
theorem dX0_intakeOf_30 : decode cX0_intakeOf 30 = .ok (.aload_n 1, 1) := by decide +kernel
theorem dX0_intakeOf_31 : decode cX0_intakeOf 31 = .ok (.getfield 173, 3) := by decide +kernel
theorem dX0_intakeOf_34 : decode cX0_intakeOf 34 = .ok (.aload_n 1, 1) := by decide +kernel
theorem dX0_intakeOf_35 : decode cX0_intakeOf 35 = .ok (.getfield 176, 3) := by decide +kernel
theorem dX0_intakeOf_38 : decode cX0_intakeOf 38 = .ok (.isub, 1) := by decide +kernel
theorem dX0_intakeOf_39 : decode cX0_intakeOf 39 = .ok (.sipush 365, 3) := by decide +kernel
theorem dX0_intakeOf_42 : decode cX0_intakeOf 42 = .ok (.if_icmp .le 13, 3) := by decide +kernel
theorem dX0_intakeOf_45 : decode cX0_intakeOf 45 = .ok (.aload_n 1, 1) := by decide +kernel
theorem dX0_intakeOf_46 : decode cX0_intakeOf 46 = .ok (.getfield 164, 3) := by decide +kernel
theorem dX0_intakeOf_49 : decode cX0_intakeOf 49 = .ok (.ifCond .ne 6, 3) := by decide +kernel
theorem dX0_intakeOf_52 : decode cX0_intakeOf 52 = .ok (.bipush 108, 2) := by decide +kernel
theorem dX0_intakeOf_54 : decode cX0_intakeOf 54 = .ok (.ireturn, 1) := by decide +kernel
theorem dX0_intakeOf_55 : decode cX0_intakeOf 55 = .ok (.aload_n 1, 1) := by decide +kernel
theorem dX0_intakeOf_56 : decode cX0_intakeOf 56 = .ok (.getfield 67, 3) := by decide +kernel
theorem dX0_intakeOf_59 : decode cX0_intakeOf 59 = .ok (.iconst (-1), 1) := by decide +kernel
theorem dX0_intakeOf_60 : decode cX0_intakeOf 60 = .ok (.if_icmp .eq 19, 3) := by decide +kernel
theorem dX0_intakeOf_63 : decode cX0_intakeOf 63 = .ok (.aload_n 0, 1) := by decide +kernel
theorem dX0_intakeOf_64 : decode cX0_intakeOf 64 = .ok (.getfield 38, 3) := by decide +kernel
theorem dX0_intakeOf_67 : decode cX0_intakeOf 67 = .ok (.aload_n 1, 1) := by decide +kernel
theorem dX0_intakeOf_68 : decode cX0_intakeOf 68 = .ok (.getfield 67, 3) := by decide +kernel
theorem dX0_intakeOf_71 : decode cX0_intakeOf 71 = .ok (.isub, 1) := by decide +kernel
theorem dX0_intakeOf_72 : decode cX0_intakeOf 72 = .ok (.aload_n 2, 1) := by decide +kernel
theorem dX0_intakeOf_73 : decode cX0_intakeOf 73 = .ok (.getfield 74, 3) := by decide +kernel
theorem dX0_intakeOf_76 : decode cX0_intakeOf 76 = .ok (.if_icmp .ge 6, 3) := by decide +kernel
theorem dX0_intakeOf_79 : decode cX0_intakeOf 79 = .ok (.bipush 102, 2) := by decide +kernel
theorem dX0_intakeOf_81 : decode cX0_intakeOf 81 = .ok (.ireturn, 1) := by decide +kernel
theorem dX0_intakeOf_82 : decode cX0_intakeOf 82 = .ok (.bipush 114, 2) := by decide +kernel
theorem dX0_intakeOf_84 : decode cX0_intakeOf 84 = .ok (.ireturn, 1) := by decide +kernel
theorem dX0_putToOffice_0 : decode cX0_putToOffice 0 = .ok (.aload_n 1, 1) := by decide +kernel
theorem dX0_putToOffice_1 : decode cX0_putToOffice 1 = .ok (.getfield 103, 3) := by decide +kernel
theorem dX0_putToOffice_4 : decode cX0_putToOffice 4 = .ok (.aload_n 0, 1) := by decide +kernel
theorem dX0_putToOffice_5 : decode cX0_putToOffice 5 = .ok (.getfield 38, 3) := by decide +kernel
theorem dX0_putToOffice_8 : decode cX0_putToOffice 8 = .ok (.aload_n 0, 1) := by decide +kernel
theorem dX0_putToOffice_9 : decode cX0_putToOffice 9 = .ok (.aload_n 1, 1) := by decide +kernel
theorem dX0_putToOffice_10 : decode cX0_putToOffice 10 = .ok (.invokevirtual 70, 3) := by decide +kernel
theorem dX0_putToOffice_13 : decode cX0_putToOffice 13 = .ok (.getfield 74, 3) := by decide +kernel
theorem dX0_putToOffice_16 : decode cX0_putToOffice 16 = .ok (.iadd, 1) := by decide +kernel
theorem dX0_putToOffice_17 : decode cX0_putToOffice 17 = .ok (.invokevirtual 179, 3) := by decide +kernel
theorem dX0_putToOffice_20 : decode cX0_putToOffice 20 = .ok (.aload_n 0, 1) := by decide +kernel
theorem dX0_putToOffice_21 : decode cX0_putToOffice 21 = .ok (.aload_n 1, 1) := by decide +kernel
theorem dX0_putToOffice_22 : decode cX0_putToOffice 22 = .ok (.bipush 97, 2) := by decide +kernel
theorem dX0_putToOffice_24 : decode cX0_putToOffice 24 = .ok (.invokevirtual 99, 3) := by decide +kernel
theorem dX0_putToOffice_27 : decode cX0_putToOffice 27 = .ok (.pop, 1) := by decide +kernel
theorem dX0_putToOffice_28 : decode cX0_putToOffice 28 = .ok (.aload_n 1, 1) := by decide +kernel
theorem dX0_putToOffice_29 : decode cX0_putToOffice 29 = .ok (.getfield 103, 3) := by decide +kernel
theorem dX0_putToOffice_32 : decode cX0_putToOffice 32 = .ok (.getfield 107, 3) := by decide +kernel
theorem dX0_putToOffice_35 : decode cX0_putToOffice 35 = .ok (.ireturn, 1) := by decide +kernel
theorem dX0_giveTime_0 : decode cX0_giveTime 0 = .ok (.aload_n 1, 1) := by decide +kernel
theorem dX0_giveTime_1 : decode cX0_giveTime 1 = .ok (.getfield 103, 3) := by decide +kernel
theorem dX0_giveTime_4 : decode cX0_giveTime 4 = .ok (.iconst 1, 1) := by decide +kernel
theorem dX0_giveTime_5 : decode cX0_giveTime 5 = .ok (.putfield 181, 3) := by decide +kernel
theorem dX0_giveTime_8 : decode cX0_giveTime 8 = .ok (.aload_n 1, 1) := by decide +kernel
theorem dX0_giveTime_9 : decode cX0_giveTime 9 = .ok (.getfield 103, 3) := by decide +kernel
theorem dX0_giveTime_12 : decode cX0_giveTime 12 = .ok (.dup, 1) := by decide +kernel
theorem dX0_giveTime_13 : decode cX0_giveTime 13 = .ok (.getfield 107, 3) := by decide +kernel
theorem dX0_giveTime_16 : decode cX0_giveTime 16 = .ok (.iload_n 2, 1) := by decide +kernel
theorem dX0_giveTime_17 : decode cX0_giveTime 17 = .ok (.iadd, 1) := by decide +kernel
theorem dX0_giveTime_18 : decode cX0_giveTime 18 = .ok (.putfield 107, 3) := by decide +kernel
theorem dX0_giveTime_21 : decode cX0_giveTime 21 = .ok (.aload_n 1, 1) := by decide +kernel
theorem dX0_giveTime_22 : decode cX0_giveTime 22 = .ok (.getfield 103, 3) := by decide +kernel
theorem dX0_giveTime_25 : decode cX0_giveTime 25 = .ok (.getfield 107, 3) := by decide +kernel
theorem dX0_giveTime_28 : decode cX0_giveTime 28 = .ok (.ireturn, 1) := by decide +kernel
theorem dX0_urge_0 : decode cX0_urge 0 = .ok (.aload_n 1, 1) := by decide +kernel
theorem dX0_urge_1 : decode cX0_urge 1 = .ok (.getfield 103, 3) := by decide +kernel
theorem dX0_urge_4 : decode cX0_urge 4 = .ok (.dup, 1) := by decide +kernel
theorem dX0_urge_5 : decode cX0_urge 5 = .ok (.getfield 184, 3) := by decide +kernel
theorem dX0_urge_8 : decode cX0_urge 8 = .ok (.iconst 1, 1) := by decide +kernel
theorem dX0_urge_9 : decode cX0_urge 9 = .ok (.iadd, 1) := by decide +kernel
theorem dX0_urge_10 : decode cX0_urge 10 = .ok (.putfield 184, 3) := by decide +kernel
theorem dX0_urge_13 : decode cX0_urge 13 = .ok (.aload_n 1, 1) := by decide +kernel
theorem dX0_urge_14 : decode cX0_urge 14 = .ok (.getfield 103, 3) := by decide +kernel
theorem dX0_urge_17 : decode cX0_urge 17 = .ok (.aload_n 0, 1) := by decide +kernel
theorem dX0_urge_18 : decode cX0_urge 18 = .ok (.getfield 38, 3) := by decide +kernel
theorem dX0_urge_21 : decode cX0_urge 21 = .ok (.bipush 7, 2) := by decide +kernel
theorem dX0_urge_23 : decode cX0_urge 23 = .ok (.iadd, 1) := by decide +kernel
theorem dX0_urge_24 : decode cX0_urge 24 = .ok (.putfield 107, 3) := by decide +kernel
theorem dX0_urge_27 : decode cX0_urge 27 = .ok (.aload_n 1, 1) := by decide +kernel
theorem dX0_urge_28 : decode cX0_urge 28 = .ok (.getfield 103, 3) := by decide +kernel
theorem dX0_urge_31 : decode cX0_urge 31 = .ok (.getfield 184, 3) := by decide +kernel
theorem dX0_urge_34 : decode cX0_urge 34 = .ok (.ireturn, 1) := by decide +kernel
theorem dX0_putBehind_0 : decode cX0_putBehind 0 = .ok (.iload_n 2, 1) := by decide +kernel
theorem dX0_putBehind_1 : decode cX0_putBehind 1 = .ok (.ifCond .lt 11, 3) := by decide +kernel
theorem dX0_putBehind_4 : decode cX0_putBehind 4 = .ok (.iload_n 2, 1) := by decide +kernel
theorem dX0_putBehind_5 : decode cX0_putBehind 5 = .ok (.aload_n 0, 1) := by decide +kernel
theorem dX0_putBehind_6 : decode cX0_putBehind 6 = .ok (.getfield 35, 3) := by decide +kernel
theorem dX0_putBehind_9 : decode cX0_putBehind 9 = .ok (.if_icmp .lt 5, 3) := by decide +kernel
theorem dX0_putBehind_12 : decode cX0_putBehind 12 = .ok (.iconst (-1), 1) := by decide +kernel
theorem dX0_putBehind_13 : decode cX0_putBehind 13 = .ok (.ireturn, 1) := by decide +kernel
theorem dX0_putBehind_14 : decode cX0_putBehind 14 = .ok (.aload_n 0, 1) := by decide +kernel
theorem dX0_putBehind_15 : decode cX0_putBehind 15 = .ok (.getfield 19, 3) := by decide +kernel
theorem dX0_putBehind_18 : decode cX0_putBehind 18 = .ok (.iload_n 2, 1) := by decide +kernel
theorem dX0_putBehind_19 : decode cX0_putBehind 19 = .ok (.aaload, 1) := by decide +kernel
theorem dX0_putBehind_20 : decode cX0_putBehind 20 = .ok (.astore_n 3, 1) := by decide +kernel
theorem dX0_putBehind_21 : decode cX0_putBehind 21 = .ok (.aload_n 1, 1) := by decide +kernel
theorem dX0_putBehind_22 : decode cX0_putBehind 22 = .ok (.iload_n 2, 1) := by decide +kernel
theorem dX0_putBehind_23 : decode cX0_putBehind 23 = .ok (.putfield 187, 3) := by decide +kernel
theorem dX0_putBehind_26 : decode cX0_putBehind 26 = .ok (.aload_n 1, 1) := by decide +kernel
theorem dX0_putBehind_27 : decode cX0_putBehind 27 = .ok (.aload_n 3, 1) := by decide +kernel
theorem dX0_putBehind_28 : decode cX0_putBehind 28 = .ok (.getfield 85, 3) := by decide +kernel
theorem dX0_putBehind_31 : decode cX0_putBehind 31 = .ok (.aload_n 0, 1) := by decide +kernel
theorem dX0_putBehind_32 : decode cX0_putBehind 32 = .ok (.getfield 38, 3) := by decide +kernel
theorem dX0_putBehind_35 : decode cX0_putBehind 35 = .ok (.invokevirtual 81, 3) := by decide +kernel
theorem dX0_putBehind_38 : decode cX0_putBehind 38 = .ok (.aload_n 0, 1) := by decide +kernel
theorem dX0_putBehind_39 : decode cX0_putBehind 39 = .ok (.aload_n 3, 1) := by decide +kernel
theorem dX0_putBehind_40 : decode cX0_putBehind 40 = .ok (.invokevirtual 190, 3) := by decide +kernel
theorem dX0_putBehind_43 : decode cX0_putBehind 43 = .ok (.ireturn, 1) := by decide +kernel
theorem dX0_setFree_0 : decode cX0_setFree 0 = .ok (.aload_n 1, 1) := by decide +kernel
theorem dX0_setFree_1 : decode cX0_setFree 1 = .ok (.getfield 187, 3) := by decide +kernel
theorem dX0_setFree_4 : decode cX0_setFree 4 = .ok (.istore_n 2, 1) := by decide +kernel
theorem dX0_setFree_5 : decode cX0_setFree 5 = .ok (.aload_n 1, 1) := by decide +kernel
theorem dX0_setFree_6 : decode cX0_setFree 6 = .ok (.aload_n 1, 1) := by decide +kernel
theorem dX0_setFree_7 : decode cX0_setFree 7 = .ok (.getfield 193, 3) := by decide +kernel
theorem dX0_setFree_10 : decode cX0_setFree 10 = .ok (.putfield 187, 3) := by decide +kernel
theorem dX0_setFree_13 : decode cX0_setFree 13 = .ok (.aload_n 1, 1) := by decide +kernel
theorem dX0_setFree_14 : decode cX0_setFree 14 = .ok (.bipush 114, 2) := by decide +kernel
theorem dX0_setFree_16 : decode cX0_setFree 16 = .ok (.aload_n 0, 1) := by decide +kernel
theorem dX0_setFree_17 : decode cX0_setFree 17 = .ok (.getfield 38, 3) := by decide +kernel
theorem dX0_setFree_20 : decode cX0_setFree 20 = .ok (.invokevirtual 81, 3) := by decide +kernel
theorem dX0_setFree_23 : decode cX0_setFree 23 = .ok (.iload_n 2, 1) := by decide +kernel
theorem dX0_setFree_24 : decode cX0_setFree 24 = .ok (.ireturn, 1) := by decide +kernel
theorem dX0_conclude_0 : decode cX0_conclude 0 = .ok (.aload_n 1, 1) := by decide +kernel
theorem dX0_conclude_1 : decode cX0_conclude 1 = .ok (.getfield 103, 3) := by decide +kernel
theorem dX0_conclude_4 : decode cX0_conclude 4 = .ok (.getfield 117, 3) := by decide +kernel
theorem dX0_conclude_7 : decode cX0_conclude 7 = .ok (.ifCond .eq 9, 3) := by decide +kernel
theorem dX0_conclude_10 : decode cX0_conclude 10 = .ok (.iload_n 2, 1) := by decide +kernel
theorem dX0_conclude_11 : decode cX0_conclude 11 = .ok (.iconst 1, 1) := by decide +kernel
theorem dX0_conclude_12 : decode cX0_conclude 12 = .ok (.ior, 1) := by decide +kernel
theorem dX0_conclude_13 : decode cX0_conclude 13 = .ok (.goto 4, 3) := by decide +kernel
theorem dX0_conclude_16 : decode cX0_conclude 16 = .ok (.iload_n 2, 1) := by decide +kernel
theorem dX0_conclude_17 : decode cX0_conclude 17 = .ok (.istore_n 3, 1) := by decide +kernel
theorem dX0_conclude_18 : decode cX0_conclude 18 = .ok (.aload_n 1, 1) := by decide +kernel
theorem dX0_conclude_19 : decode cX0_conclude 19 = .ok (.getfield 130, 3) := by decide +kernel
theorem dX0_conclude_22 : decode cX0_conclude 22 = .ok (.iload_n 3, 1) := by decide +kernel
theorem dX0_conclude_23 : decode cX0_conclude 23 = .ok (.invokevirtual 196, 3) := by decide +kernel
theorem dX0_conclude_26 : decode cX0_conclude 26 = .ok (.iload_n 3, 1) := by decide +kernel
theorem dX0_conclude_27 : decode cX0_conclude 27 = .ok (.ifCond .ne 13, 3) := by decide +kernel
theorem dX0_conclude_30 : decode cX0_conclude 30 = .ok (.aload_n 0, 1) := by decide +kernel
theorem dX0_conclude_31 : decode cX0_conclude 31 = .ok (.aload_n 1, 1) := by decide +kernel
theorem dX0_conclude_32 : decode cX0_conclude 32 = .ok (.bipush 117, 2) := by decide +kernel
theorem dX0_conclude_34 : decode cX0_conclude 34 = .ok (.invokevirtual 99, 3) := by decide +kernel
theorem dX0_conclude_37 : decode cX0_conclude 37 = .ok (.pop, 1) := by decide +kernel
theorem dX0_conclude_38 : decode cX0_conclude 38 = .ok (.iconst 0, 1) := by decide +kernel
theorem dX0_conclude_39 : decode cX0_conclude 39 = .ok (.ireturn, 1) := by decide +kernel
theorem dX0_conclude_40 : decode cX0_conclude 40 = .ok (.aload_n 0, 1) := by decide +kernel
theorem dX0_conclude_41 : decode cX0_conclude 41 = .ok (.iload_n 3, 1) := by decide +kernel
theorem dX0_conclude_42 : decode cX0_conclude 42 = .ok (.invokevirtual 197, 3) := by decide +kernel
theorem dX0_conclude_45 : decode cX0_conclude 45 = .ok (.aload_n 0, 1) := by decide +kernel
theorem dX0_conclude_46 : decode cX0_conclude 46 = .ok (.aload_n 1, 1) := by decide +kernel
theorem dX0_conclude_47 : decode cX0_conclude 47 = .ok (.invokevirtual 190, 3) := by decide +kernel
theorem dX0_conclude_50 : decode cX0_conclude 50 = .ok (.iconst 5, 1) := by decide +kernel
theorem dX0_conclude_51 : decode cX0_conclude 51 = .ok (.invokestatic 201, 3) := by decide +kernel
theorem dX0_conclude_54 : decode cX0_conclude 54 = .ok (.iadd, 1) := by decide +kernel
theorem dX0_conclude_55 : decode cX0_conclude 55 = .ok (.istore 4, 2) := by decide +kernel
theorem dX0_conclude_57 : decode cX0_conclude 57 = .ok (.aload_n 1, 1) := by decide +kernel
theorem dX0_conclude_58 : decode cX0_conclude 58 = .ok (.getfield 130, 3) := by decide +kernel
theorem dX0_conclude_61 : decode cX0_conclude 61 = .ok (.iload 4, 2) := by decide +kernel
theorem dX0_conclude_63 : decode cX0_conclude 63 = .ok (.invokestatic 204, 3) := by decide +kernel
theorem dX0_conclude_66 : decode cX0_conclude 66 = .ok (.aload_n 0, 1) := by decide +kernel
theorem dX0_conclude_67 : decode cX0_conclude 67 = .ok (.getfield 38, 3) := by decide +kernel
theorem dX0_conclude_70 : decode cX0_conclude 70 = .ok (.invokevirtual 207, 3) := by decide +kernel
theorem dX0_conclude_73 : decode cX0_conclude 73 = .ok (.aload_n 0, 1) := by decide +kernel
theorem dX0_conclude_74 : decode cX0_conclude 74 = .ok (.aload_n 1, 1) := by decide +kernel
theorem dX0_conclude_75 : decode cX0_conclude 75 = .ok (.invokevirtual 70, 3) := by decide +kernel
theorem dX0_conclude_78 : decode cX0_conclude 78 = .ok (.dup, 1) := by decide +kernel
theorem dX0_conclude_79 : decode cX0_conclude 79 = .ok (.getfield 210, 3) := by decide +kernel
theorem dX0_conclude_82 : decode cX0_conclude 82 = .ok (.aload_n 0, 1) := by decide +kernel
theorem dX0_conclude_83 : decode cX0_conclude 83 = .ok (.aload_n 1, 1) := by decide +kernel
theorem dX0_conclude_84 : decode cX0_conclude 84 = .ok (.bipush 100, 2) := by decide +kernel
theorem dX0_conclude_86 : decode cX0_conclude 86 = .ok (.invokevirtual 99, 3) := by decide +kernel
theorem dX0_conclude_89 : decode cX0_conclude 89 = .ok (.iadd, 1) := by decide +kernel
theorem dX0_conclude_90 : decode cX0_conclude 90 = .ok (.putfield 210, 3) := by decide +kernel
theorem dX0_conclude_93 : decode cX0_conclude 93 = .ok (.aload_n 1, 1) := by decide +kernel
theorem dX0_conclude_94 : decode cX0_conclude 94 = .ok (.getfield 130, 3) := by decide +kernel
theorem dX0_conclude_97 : decode cX0_conclude 97 = .ok (.getfield 213, 3) := by decide +kernel
theorem dX0_conclude_100 : decode cX0_conclude 100 = .ok (.ireturn, 1) := by decide +kernel
theorem dX0_insist_0 : decode cX0_insist 0 = .ok (.aload_n 1, 1) := by decide +kernel
theorem dX0_insist_1 : decode cX0_insist 1 = .ok (.getfield 130, 3) := by decide +kernel
theorem dX0_insist_4 : decode cX0_insist 4 = .ok (.getfield 216, 3) := by decide +kernel
theorem dX0_insist_7 : decode cX0_insist 7 = .ok (.ifCond .eq 13, 3) := by decide +kernel
theorem dX0_insist_10 : decode cX0_insist 10 = .ok (.aload_n 0, 1) := by decide +kernel
theorem dX0_insist_11 : decode cX0_insist 11 = .ok (.aload_n 1, 1) := by decide +kernel
theorem dX0_insist_12 : decode cX0_insist 12 = .ok (.bipush 105, 2) := by decide +kernel
theorem dX0_insist_14 : decode cX0_insist 14 = .ok (.invokevirtual 99, 3) := by decide +kernel
theorem dX0_insist_17 : decode cX0_insist 17 = .ok (.pop, 1) := by decide +kernel
theorem dX0_insist_18 : decode cX0_insist 18 = .ok (.iconst 0, 1) := by decide +kernel
theorem dX0_insist_19 : decode cX0_insist 19 = .ok (.ireturn, 1) := by decide +kernel
theorem dX0_insist_20 : decode cX0_insist 20 = .ok (.aload_n 1, 1) := by decide +kernel
theorem dX0_insist_21 : decode cX0_insist 21 = .ok (.getfield 130, 3) := by decide +kernel
theorem dX0_insist_24 : decode cX0_insist 24 = .ok (.iconst 1, 1) := by decide +kernel
theorem dX0_insist_25 : decode cX0_insist 25 = .ok (.putfield 216, 3) := by decide +kernel
theorem dX0_insist_28 : decode cX0_insist 28 = .ok (.aload_n 1, 1) := by decide +kernel
theorem dX0_insist_29 : decode cX0_insist 29 = .ok (.getfield 130, 3) := by decide +kernel
theorem dX0_insist_32 : decode cX0_insist 32 = .ok (.aload_n 1, 1) := by decide +kernel
theorem dX0_insist_33 : decode cX0_insist 33 = .ok (.getfield 130, 3) := by decide +kernel
theorem dX0_insist_36 : decode cX0_insist 36 = .ok (.getfield 213, 3) := by decide +kernel
theorem dX0_insist_39 : decode cX0_insist 39 = .ok (.iconst 1, 1) := by decide +kernel
theorem dX0_insist_40 : decode cX0_insist 40 = .ok (.iadd, 1) := by decide +kernel
theorem dX0_insist_41 : decode cX0_insist 41 = .ok (.iconst 4, 1) := by decide +kernel
theorem dX0_insist_42 : decode cX0_insist 42 = .ok (.invokestatic 201, 3) := by decide +kernel
theorem dX0_insist_45 : decode cX0_insist 45 = .ok (.aload_n 0, 1) := by decide +kernel
theorem dX0_insist_46 : decode cX0_insist 46 = .ok (.getfield 38, 3) := by decide +kernel
theorem dX0_insist_49 : decode cX0_insist 49 = .ok (.invokevirtual 207, 3) := by decide +kernel
theorem dX0_insist_52 : decode cX0_insist 52 = .ok (.aload_n 1, 1) := by decide +kernel
theorem dX0_insist_53 : decode cX0_insist 53 = .ok (.getfield 130, 3) := by decide +kernel
theorem dX0_insist_56 : decode cX0_insist 56 = .ok (.getfield 213, 3) := by decide +kernel
theorem dX0_insist_59 : decode cX0_insist 59 = .ok (.ireturn, 1) := by decide +kernel
theorem dX0_takeBack_0 : decode cX0_takeBack 0 = .ok (.iconst 0, 1) := by decide +kernel
theorem dX0_takeBack_1 : decode cX0_takeBack 1 = .ok (.istore_n 2, 1) := by decide +kernel
theorem dX0_takeBack_2 : decode cX0_takeBack 2 = .ok (.iconst 0, 1) := by decide +kernel
theorem dX0_takeBack_3 : decode cX0_takeBack 3 = .ok (.istore_n 3, 1) := by decide +kernel
theorem dX0_takeBack_4 : decode cX0_takeBack 4 = .ok (.iload_n 3, 1) := by decide +kernel
theorem dX0_takeBack_5 : decode cX0_takeBack 5 = .ok (.aload_n 0, 1) := by decide +kernel
theorem dX0_takeBack_6 : decode cX0_takeBack 6 = .ok (.getfield 35, 3) := by decide +kernel
theorem dX0_takeBack_9 : decode cX0_takeBack 9 = .ok (.if_icmp .ge 61, 3) := by decide +kernel
theorem dX0_takeBack_12 : decode cX0_takeBack 12 = .ok (.iload_n 3, 1) := by decide +kernel
theorem dX0_takeBack_13 : decode cX0_takeBack 13 = .ok (.aload_n 1, 1) := by decide +kernel
theorem dX0_takeBack_14 : decode cX0_takeBack 14 = .ok (.getfield 193, 3) := by decide +kernel
theorem dX0_takeBack_17 : decode cX0_takeBack 17 = .ok (.if_icmp .eq 47, 3) := by decide +kernel
theorem dX0_takeBack_20 : decode cX0_takeBack 20 = .ok (.aload_n 0, 1) := by decide +kernel
theorem dX0_takeBack_21 : decode cX0_takeBack 21 = .ok (.getfield 19, 3) := by decide +kernel
theorem dX0_takeBack_24 : decode cX0_takeBack 24 = .ok (.iload_n 3, 1) := by decide +kernel
theorem dX0_takeBack_25 : decode cX0_takeBack 25 = .ok (.aaload, 1) := by decide +kernel
theorem dX0_takeBack_26 : decode cX0_takeBack 26 = .ok (.getfield 187, 3) := by decide +kernel
theorem dX0_takeBack_29 : decode cX0_takeBack 29 = .ok (.aload_n 1, 1) := by decide +kernel
theorem dX0_takeBack_30 : decode cX0_takeBack 30 = .ok (.getfield 193, 3) := by decide +kernel
theorem dX0_takeBack_33 : decode cX0_takeBack 33 = .ok (.if_icmp .ne 31, 3) := by decide +kernel
theorem dX0_takeBack_36 : decode cX0_takeBack 36 = .ok (.aload_n 0, 1) := by decide +kernel
theorem dX0_takeBack_37 : decode cX0_takeBack 37 = .ok (.getfield 19, 3) := by decide +kernel
theorem dX0_takeBack_40 : decode cX0_takeBack 40 = .ok (.iload_n 3, 1) := by decide +kernel
theorem dX0_takeBack_41 : decode cX0_takeBack 41 = .ok (.aaload, 1) := by decide +kernel
theorem dX0_takeBack_42 : decode cX0_takeBack 42 = .ok (.iload_n 3, 1) := by decide +kernel
theorem dX0_takeBack_43 : decode cX0_takeBack 43 = .ok (.putfield 187, 3) := by decide +kernel
theorem dX0_takeBack_46 : decode cX0_takeBack 46 = .ok (.aload_n 0, 1) := by decide +kernel
theorem dX0_takeBack_47 : decode cX0_takeBack 47 = .ok (.getfield 19, 3) := by decide +kernel
theorem dX0_takeBack_50 : decode cX0_takeBack 50 = .ok (.iload_n 3, 1) := by decide +kernel
theorem dX0_takeBack_51 : decode cX0_takeBack 51 = .ok (.aaload, 1) := by decide +kernel
theorem dX0_takeBack_52 : decode cX0_takeBack 52 = .ok (.bipush 114, 2) := by decide +kernel
theorem dX0_takeBack_54 : decode cX0_takeBack 54 = .ok (.aload_n 0, 1) := by decide +kernel
theorem dX0_takeBack_55 : decode cX0_takeBack 55 = .ok (.getfield 38, 3) := by decide +kernel
theorem dX0_takeBack_58 : decode cX0_takeBack 58 = .ok (.invokevirtual 81, 3) := by decide +kernel
theorem dX0_takeBack_61 : decode cX0_takeBack 61 = .ok (.iinc 2 1, 3) := by decide +kernel
theorem dX0_takeBack_64 : decode cX0_takeBack 64 = .ok (.iinc 3 1, 3) := by decide +kernel
theorem dX0_takeBack_67 : decode cX0_takeBack 67 = .ok (.goto (-63), 3) := by decide +kernel
theorem dX0_takeBack_70 : decode cX0_takeBack 70 = .ok (.aload_n 1, 1) := by decide +kernel
theorem dX0_takeBack_71 : decode cX0_takeBack 71 = .ok (.bipush 119, 2) := by decide +kernel
theorem dX0_takeBack_73 : decode cX0_takeBack 73 = .ok (.aload_n 0, 1) := by decide +kernel
theorem dX0_takeBack_74 : decode cX0_takeBack 74 = .ok (.getfield 38, 3) := by decide +kernel
theorem dX0_takeBack_77 : decode cX0_takeBack 77 = .ok (.invokevirtual 81, 3) := by decide +kernel
theorem dX0_takeBack_80 : decode cX0_takeBack 80 = .ok (.iload_n 2, 1) := by decide +kernel
theorem dX0_takeBack_81 : decode cX0_takeBack 81 = .ok (.ireturn, 1) := by decide +kernel
theorem dX0_moveAll_0 : decode cX0_moveAll 0 = .ok (.iconst 0, 1) := by decide +kernel
theorem dX0_moveAll_1 : decode cX0_moveAll 1 = .ok (.istore_n 3, 1) := by decide +kernel
theorem dX0_moveAll_2 : decode cX0_moveAll 2 = .ok (.iconst 0, 1) := by decide +kernel
theorem dX0_moveAll_3 : decode cX0_moveAll 3 = .ok (.istore 4, 2) := by decide +kernel
theorem dX0_moveAll_5 : decode cX0_moveAll 5 = .ok (.iload 4, 2) := by decide +kernel
theorem dX0_moveAll_7 : decode cX0_moveAll 7 = .ok (.aload_n 0, 1) := by decide +kernel
theorem dX0_moveAll_8 : decode cX0_moveAll 8 = .ok (.getfield 35, 3) := by decide +kernel
theorem dX0_moveAll_11 : decode cX0_moveAll 11 = .ok (.if_icmp .ge 44, 3) := by decide +kernel
theorem dX0_moveAll_14 : decode cX0_moveAll 14 = .ok (.aload_n 0, 1) := by decide +kernel
theorem dX0_moveAll_15 : decode cX0_moveAll 15 = .ok (.getfield 19, 3) := by decide +kernel
theorem dX0_moveAll_18 : decode cX0_moveAll 18 = .ok (.iload 4, 2) := by decide +kernel
theorem dX0_moveAll_20 : decode cX0_moveAll 20 = .ok (.aaload, 1) := by decide +kernel
theorem dX0_moveAll_21 : decode cX0_moveAll 21 = .ok (.getfield 187, 3) := by decide +kernel
theorem dX0_moveAll_24 : decode cX0_moveAll 24 = .ok (.aload_n 1, 1) := by decide +kernel
theorem dX0_moveAll_25 : decode cX0_moveAll 25 = .ok (.getfield 193, 3) := by decide +kernel
theorem dX0_moveAll_28 : decode cX0_moveAll 28 = .ok (.if_icmp .ne 21, 3) := by decide +kernel
theorem dX0_moveAll_31 : decode cX0_moveAll 31 = .ok (.aload_n 0, 1) := by decide +kernel
theorem dX0_moveAll_32 : decode cX0_moveAll 32 = .ok (.getfield 19, 3) := by decide +kernel
theorem dX0_moveAll_35 : decode cX0_moveAll 35 = .ok (.iload 4, 2) := by decide +kernel
theorem dX0_moveAll_37 : decode cX0_moveAll 37 = .ok (.aaload, 1) := by decide +kernel
theorem dX0_moveAll_38 : decode cX0_moveAll 38 = .ok (.iload_n 2, 1) := by decide +kernel
theorem dX0_moveAll_39 : decode cX0_moveAll 39 = .ok (.aload_n 0, 1) := by decide +kernel
theorem dX0_moveAll_40 : decode cX0_moveAll 40 = .ok (.getfield 38, 3) := by decide +kernel
theorem dX0_moveAll_43 : decode cX0_moveAll 43 = .ok (.invokevirtual 81, 3) := by decide +kernel
theorem dX0_moveAll_46 : decode cX0_moveAll 46 = .ok (.iinc 3 1, 3) := by decide +kernel
theorem dX0_moveAll_49 : decode cX0_moveAll 49 = .ok (.iinc 4 1, 3) := by decide +kernel
theorem dX0_moveAll_52 : decode cX0_moveAll 52 = .ok (.goto (-47), 3) := by decide +kernel
theorem dX0_moveAll_55 : decode cX0_moveAll 55 = .ok (.iload_n 3, 1) := by decide +kernel
theorem dX0_moveAll_56 : decode cX0_moveAll 56 = .ok (.ireturn, 1) := by decide +kernel
theorem dX0_leadOf_0 : decode cX0_leadOf 0 = .ok (.aload_n 1, 1) := by decide +kernel
theorem dX0_leadOf_1 : decode cX0_leadOf 1 = .ok (.getfield 187, 3) := by decide +kernel
theorem dX0_leadOf_4 : decode cX0_leadOf 4 = .ok (.ifCond .lt 26, 3) := by decide +kernel
theorem dX0_leadOf_7 : decode cX0_leadOf 7 = .ok (.aload_n 1, 1) := by decide +kernel
theorem dX0_leadOf_8 : decode cX0_leadOf 8 = .ok (.getfield 187, 3) := by decide +kernel
theorem dX0_leadOf_11 : decode cX0_leadOf 11 = .ok (.aload_n 0, 1) := by decide +kernel
theorem dX0_leadOf_12 : decode cX0_leadOf 12 = .ok (.getfield 35, 3) := by decide +kernel
theorem dX0_leadOf_15 : decode cX0_leadOf 15 = .ok (.if_icmp .ge 15, 3) := by decide +kernel
theorem dX0_leadOf_18 : decode cX0_leadOf 18 = .ok (.aload_n 0, 1) := by decide +kernel
theorem dX0_leadOf_19 : decode cX0_leadOf 19 = .ok (.getfield 19, 3) := by decide +kernel
theorem dX0_leadOf_22 : decode cX0_leadOf 22 = .ok (.aload_n 1, 1) := by decide +kernel
theorem dX0_leadOf_23 : decode cX0_leadOf 23 = .ok (.getfield 187, 3) := by decide +kernel
theorem dX0_leadOf_26 : decode cX0_leadOf 26 = .ok (.aaload, 1) := by decide +kernel
theorem dX0_leadOf_27 : decode cX0_leadOf 27 = .ok (.goto 4, 3) := by decide +kernel
theorem dX0_leadOf_30 : decode cX0_leadOf 30 = .ok (.aload_n 1, 1) := by decide +kernel
theorem dX0_leadOf_31 : decode cX0_leadOf 31 = .ok (.areturn, 1) := by decide +kernel
theorem dX0_officeOf_0 : decode cX0_officeOf 0 = .ok (.aload_n 1, 1) := by decide +kernel
theorem dX0_officeOf_1 : decode cX0_officeOf 1 = .ok (.getfield 219, 3) := by decide +kernel
theorem dX0_officeOf_4 : decode cX0_officeOf 4 = .ok (.ifCond .lt 26, 3) := by decide +kernel
theorem dX0_officeOf_7 : decode cX0_officeOf 7 = .ok (.aload_n 1, 1) := by decide +kernel
theorem dX0_officeOf_8 : decode cX0_officeOf 8 = .ok (.getfield 219, 3) := by decide +kernel
theorem dX0_officeOf_11 : decode cX0_officeOf 11 = .ok (.aload_n 0, 1) := by decide +kernel
theorem dX0_officeOf_12 : decode cX0_officeOf 12 = .ok (.getfield 31, 3) := by decide +kernel
theorem dX0_officeOf_15 : decode cX0_officeOf 15 = .ok (.if_icmp .ge 15, 3) := by decide +kernel
theorem dX0_officeOf_18 : decode cX0_officeOf 18 = .ok (.aload_n 0, 1) := by decide +kernel
theorem dX0_officeOf_19 : decode cX0_officeOf 19 = .ok (.getfield 11, 3) := by decide +kernel
theorem dX0_officeOf_22 : decode cX0_officeOf 22 = .ok (.aload_n 1, 1) := by decide +kernel
theorem dX0_officeOf_23 : decode cX0_officeOf 23 = .ok (.getfield 219, 3) := by decide +kernel
theorem dX0_officeOf_26 : decode cX0_officeOf 26 = .ok (.aaload, 1) := by decide +kernel
theorem dX0_officeOf_27 : decode cX0_officeOf 27 = .ok (.goto 9, 3) := by decide +kernel
theorem dX0_officeOf_30 : decode cX0_officeOf 30 = .ok (.aload_n 0, 1) := by decide +kernel
theorem dX0_officeOf_31 : decode cX0_officeOf 31 = .ok (.getfield 11, 3) := by decide +kernel
theorem dX0_officeOf_34 : decode cX0_officeOf 34 = .ok (.iconst 0, 1) := by decide +kernel
theorem dX0_officeOf_35 : decode cX0_officeOf 35 = .ok (.aaload, 1) := by decide +kernel
theorem dX0_officeOf_36 : decode cX0_officeOf 36 = .ok (.areturn, 1) := by decide +kernel
theorem dX0_followersOf_0 : decode cX0_followersOf 0 = .ok (.iconst 0, 1) := by decide +kernel
theorem dX0_followersOf_1 : decode cX0_followersOf 1 = .ok (.istore_n 2, 1) := by decide +kernel
theorem dX0_followersOf_2 : decode cX0_followersOf 2 = .ok (.iconst 0, 1) := by decide +kernel
theorem dX0_followersOf_3 : decode cX0_followersOf 3 = .ok (.istore_n 3, 1) := by decide +kernel
theorem dX0_followersOf_4 : decode cX0_followersOf 4 = .ok (.iload_n 3, 1) := by decide +kernel
theorem dX0_followersOf_5 : decode cX0_followersOf 5 = .ok (.aload_n 0, 1) := by decide +kernel
theorem dX0_followersOf_6 : decode cX0_followersOf 6 = .ok (.getfield 35, 3) := by decide +kernel
theorem dX0_followersOf_9 : decode cX0_followersOf 9 = .ok (.if_icmp .ge 36, 3) := by decide +kernel
theorem dX0_followersOf_12 : decode cX0_followersOf 12 = .ok (.iload_n 3, 1) := by decide +kernel
theorem dX0_followersOf_13 : decode cX0_followersOf 13 = .ok (.aload_n 1, 1) := by decide +kernel
theorem dX0_followersOf_14 : decode cX0_followersOf 14 = .ok (.getfield 193, 3) := by decide +kernel
theorem dX0_followersOf_17 : decode cX0_followersOf 17 = .ok (.if_icmp .eq 22, 3) := by decide +kernel
theorem dX0_followersOf_20 : decode cX0_followersOf 20 = .ok (.aload_n 0, 1) := by decide +kernel
theorem dX0_followersOf_21 : decode cX0_followersOf 21 = .ok (.getfield 19, 3) := by decide +kernel
theorem dX0_followersOf_24 : decode cX0_followersOf 24 = .ok (.iload_n 3, 1) := by decide +kernel
theorem dX0_followersOf_25 : decode cX0_followersOf 25 = .ok (.aaload, 1) := by decide +kernel
theorem dX0_followersOf_26 : decode cX0_followersOf 26 = .ok (.getfield 187, 3) := by decide +kernel
theorem dX0_followersOf_29 : decode cX0_followersOf 29 = .ok (.aload_n 1, 1) := by decide +kernel
theorem dX0_followersOf_30 : decode cX0_followersOf 30 = .ok (.getfield 193, 3) := by decide +kernel
theorem dX0_followersOf_33 : decode cX0_followersOf 33 = .ok (.if_icmp .ne 6, 3) := by decide +kernel
theorem dX0_followersOf_36 : decode cX0_followersOf 36 = .ok (.iinc 2 1, 3) := by decide +kernel
theorem dX0_followersOf_39 : decode cX0_followersOf 39 = .ok (.iinc 3 1, 3) := by decide +kernel
theorem dX0_followersOf_42 : decode cX0_followersOf 42 = .ok (.goto (-38), 3) := by decide +kernel
theorem dX0_followersOf_45 : decode cX0_followersOf 45 = .ok (.iload_n 2, 1) := by decide +kernel
theorem dX0_followersOf_46 : decode cX0_followersOf 46 = .ok (.ireturn, 1) := by decide +kernel
theorem dX0_canFollow_0 : decode cX0_canFollow 0 = .ok (.aload_n 1, 1) := by decide +kernel
theorem dX0_canFollow_1 : decode cX0_canFollow 1 = .ok (.getfield 85, 3) := by decide +kernel
theorem dX0_canFollow_4 : decode cX0_canFollow 4 = .ok (.bipush 114, 2) := by decide +kernel
theorem dX0_canFollow_6 : decode cX0_canFollow 6 = .ok (.if_icmp .ne 78, 3) := by decide +kernel
theorem dX0_canFollow_9 : decode cX0_canFollow 9 = .ok (.aload_n 1, 1) := by decide +kernel
theorem dX0_canFollow_10 : decode cX0_canFollow 10 = .ok (.invokevirtual 222, 3) := by decide +kernel
theorem dX0_canFollow_13 : decode cX0_canFollow 13 = .ok (.ifCond .ne 71, 3) := by decide +kernel
theorem dX0_canFollow_16 : decode cX0_canFollow 16 = .ok (.aload_n 0, 1) := by decide +kernel
theorem dX0_canFollow_17 : decode cX0_canFollow 17 = .ok (.aload_n 1, 1) := by decide +kernel
theorem dX0_canFollow_18 : decode cX0_canFollow 18 = .ok (.invokevirtual 190, 3) := by decide +kernel
theorem dX0_canFollow_21 : decode cX0_canFollow 21 = .ok (.ifCond .ne 63, 3) := by decide +kernel
theorem dX0_canFollow_24 : decode cX0_canFollow 24 = .ok (.aload_n 1, 1) := by decide +kernel
theorem dX0_canFollow_25 : decode cX0_canFollow 25 = .ok (.getfield 219, 3) := by decide +kernel
theorem dX0_canFollow_28 : decode cX0_canFollow 28 = .ok (.aload_n 2, 1) := by decide +kernel
theorem dX0_canFollow_29 : decode cX0_canFollow 29 = .ok (.getfield 219, 3) := by decide +kernel
theorem dX0_canFollow_32 : decode cX0_canFollow 32 = .ok (.if_icmp .ne 52, 3) := by decide +kernel
theorem dX0_canFollow_35 : decode cX0_canFollow 35 = .ok (.aload_n 1, 1) := by decide +kernel
theorem dX0_canFollow_36 : decode cX0_canFollow 36 = .ok (.getfield 170, 3) := by decide +kernel
theorem dX0_canFollow_39 : decode cX0_canFollow 39 = .ok (.aload_n 2, 1) := by decide +kernel
theorem dX0_canFollow_40 : decode cX0_canFollow 40 = .ok (.getfield 170, 3) := by decide +kernel
theorem dX0_canFollow_43 : decode cX0_canFollow 43 = .ok (.if_icmp .ne 41, 3) := by decide +kernel
theorem dX0_canFollow_46 : decode cX0_canFollow 46 = .ok (.aload_n 2, 1) := by decide +kernel
theorem dX0_canFollow_47 : decode cX0_canFollow 47 = .ok (.invokevirtual 222, 3) := by decide +kernel
theorem dX0_canFollow_50 : decode cX0_canFollow 50 = .ok (.ifCond .ne 34, 3) := by decide +kernel
theorem dX0_canFollow_53 : decode cX0_canFollow 53 = .ok (.aload_n 2, 1) := by decide +kernel
theorem dX0_canFollow_54 : decode cX0_canFollow 54 = .ok (.getfield 85, 3) := by decide +kernel
theorem dX0_canFollow_57 : decode cX0_canFollow 57 = .ok (.bipush 114, 2) := by decide +kernel
theorem dX0_canFollow_59 : decode cX0_canFollow 59 = .ok (.if_icmp .eq 21, 3) := by decide +kernel
theorem dX0_canFollow_62 : decode cX0_canFollow 62 = .ok (.aload_n 2, 1) := by decide +kernel
theorem dX0_canFollow_63 : decode cX0_canFollow 63 = .ok (.getfield 85, 3) := by decide +kernel
theorem dX0_canFollow_66 : decode cX0_canFollow 66 = .ok (.bipush 97, 2) := by decide +kernel
theorem dX0_canFollow_68 : decode cX0_canFollow 68 = .ok (.if_icmp .eq 12, 3) := by decide +kernel
theorem dX0_canFollow_71 : decode cX0_canFollow 71 = .ok (.aload_n 2, 1) := by decide +kernel
theorem dX0_canFollow_72 : decode cX0_canFollow 72 = .ok (.getfield 85, 3) := by decide +kernel
theorem dX0_canFollow_75 : decode cX0_canFollow 75 = .ok (.bipush 115, 2) := by decide +kernel
theorem dX0_canFollow_77 : decode cX0_canFollow 77 = .ok (.if_icmp .ne 7, 3) := by decide +kernel
theorem dX0_canFollow_80 : decode cX0_canFollow 80 = .ok (.iconst 1, 1) := by decide +kernel
theorem dX0_canFollow_81 : decode cX0_canFollow 81 = .ok (.goto 4, 3) := by decide +kernel
theorem dX0_canFollow_84 : decode cX0_canFollow 84 = .ok (.iconst 0, 1) := by decide +kernel
theorem dX0_canFollow_85 : decode cX0_canFollow 85 = .ok (.ireturn, 1) := by decide +kernel
theorem dX0_lacksAnswer_0 : decode cX0_lacksAnswer 0 = .ok (.aload_n 1, 1) := by decide +kernel
theorem dX0_lacksAnswer_1 : decode cX0_lacksAnswer 1 = .ok (.getfield 85, 3) := by decide +kernel
theorem dX0_lacksAnswer_4 : decode cX0_lacksAnswer 4 = .ok (.bipush 97, 2) := by decide +kernel
theorem dX0_lacksAnswer_6 : decode cX0_lacksAnswer 6 = .ok (.if_icmp .ne 21, 3) := by decide +kernel
theorem dX0_lacksAnswer_9 : decode cX0_lacksAnswer 9 = .ok (.aload_n 0, 1) := by decide +kernel
theorem dX0_lacksAnswer_10 : decode cX0_lacksAnswer 10 = .ok (.getfield 38, 3) := by decide +kernel
theorem dX0_lacksAnswer_13 : decode cX0_lacksAnswer 13 = .ok (.aload_n 1, 1) := by decide +kernel
theorem dX0_lacksAnswer_14 : decode cX0_lacksAnswer 14 = .ok (.getfield 103, 3) := by decide +kernel
theorem dX0_lacksAnswer_17 : decode cX0_lacksAnswer 17 = .ok (.getfield 107, 3) := by decide +kernel
theorem dX0_lacksAnswer_20 : decode cX0_lacksAnswer 20 = .ok (.if_icmp .le 7, 3) := by decide +kernel
theorem dX0_lacksAnswer_23 : decode cX0_lacksAnswer 23 = .ok (.iconst 1, 1) := by decide +kernel
theorem dX0_lacksAnswer_24 : decode cX0_lacksAnswer 24 = .ok (.goto 4, 3) := by decide +kernel
theorem dX0_lacksAnswer_27 : decode cX0_lacksAnswer 27 = .ok (.iconst 0, 1) := by decide +kernel
theorem dX0_lacksAnswer_28 : decode cX0_lacksAnswer 28 = .ok (.ireturn, 1) := by decide +kernel
theorem dX0_weightOf_0 : decode cX0_weightOf 0 = .ok (.iconst 0, 1) := by decide +kernel
theorem dX0_weightOf_1 : decode cX0_weightOf 1 = .ok (.istore_n 2, 1) := by decide +kernel
theorem dX0_weightOf_2 : decode cX0_weightOf 2 = .ok (.iconst 0, 1) := by decide +kernel
theorem dX0_weightOf_3 : decode cX0_weightOf 3 = .ok (.istore_n 3, 1) := by decide +kernel
theorem dX0_weightOf_4 : decode cX0_weightOf 4 = .ok (.iload_n 3, 1) := by decide +kernel
theorem dX0_weightOf_5 : decode cX0_weightOf 5 = .ok (.iconst 5, 1) := by decide +kernel
theorem dX0_weightOf_6 : decode cX0_weightOf 6 = .ok (.if_icmp .ge 27, 3) := by decide +kernel
theorem dX0_weightOf_9 : decode cX0_weightOf 9 = .ok (.iload_n 1, 1) := by decide +kernel
theorem dX0_weightOf_10 : decode cX0_weightOf 10 = .ok (.iload_n 3, 1) := by decide +kernel
theorem dX0_weightOf_11 : decode cX0_weightOf 11 = .ok (.ishr, 1) := by decide +kernel
theorem dX0_weightOf_12 : decode cX0_weightOf 12 = .ok (.iconst 1, 1) := by decide +kernel
theorem dX0_weightOf_13 : decode cX0_weightOf 13 = .ok (.iand, 1) := by decide +kernel
theorem dX0_weightOf_14 : decode cX0_weightOf 14 = .ok (.iconst 1, 1) := by decide +kernel
theorem dX0_weightOf_15 : decode cX0_weightOf 15 = .ok (.if_icmp .ne 12, 3) := by decide +kernel
theorem dX0_weightOf_18 : decode cX0_weightOf 18 = .ok (.iload_n 2, 1) := by decide +kernel
theorem dX0_weightOf_19 : decode cX0_weightOf 19 = .ok (.aload_n 0, 1) := by decide +kernel
theorem dX0_weightOf_20 : decode cX0_weightOf 20 = .ok (.getfield 23, 3) := by decide +kernel
theorem dX0_weightOf_23 : decode cX0_weightOf 23 = .ok (.iload_n 3, 1) := by decide +kernel
theorem dX0_weightOf_24 : decode cX0_weightOf 24 = .ok (.iaload, 1) := by decide +kernel
theorem dX0_weightOf_25 : decode cX0_weightOf 25 = .ok (.iadd, 1) := by decide +kernel
theorem dX0_weightOf_26 : decode cX0_weightOf 26 = .ok (.istore_n 2, 1) := by decide +kernel
theorem dX0_weightOf_27 : decode cX0_weightOf 27 = .ok (.iinc 3 1, 3) := by decide +kernel
theorem dX0_weightOf_30 : decode cX0_weightOf 30 = .ok (.goto (-26), 3) := by decide +kernel
theorem dX0_weightOf_33 : decode cX0_weightOf 33 = .ok (.iload_n 2, 1) := by decide +kernel
theorem dX0_weightOf_34 : decode cX0_weightOf 34 = .ok (.ireturn, 1) := by decide +kernel
theorem dX0_earliestDue_0 : decode cX0_earliestDue 0 = .ok (.iconst (-1), 1) := by decide +kernel
theorem dX0_earliestDue_1 : decode cX0_earliestDue 1 = .ok (.istore_n 1, 1) := by decide +kernel
theorem dX0_earliestDue_2 : decode cX0_earliestDue 2 = .ok (.iconst 0, 1) := by decide +kernel
theorem dX0_earliestDue_3 : decode cX0_earliestDue 3 = .ok (.istore_n 2, 1) := by decide +kernel
theorem dX0_earliestDue_4 : decode cX0_earliestDue 4 = .ok (.iload_n 2, 1) := by decide +kernel
theorem dX0_earliestDue_5 : decode cX0_earliestDue 5 = .ok (.aload_n 0, 1) := by decide +kernel
theorem dX0_earliestDue_6 : decode cX0_earliestDue 6 = .ok (.getfield 35, 3) := by decide +kernel
theorem dX0_earliestDue_9 : decode cX0_earliestDue 9 = .ok (.if_icmp .ge 40, 3) := by decide +kernel
theorem dX0_earliestDue_12 : decode cX0_earliestDue 12 = .ok (.aload_n 0, 1) := by decide +kernel
theorem dX0_earliestDue_13 : decode cX0_earliestDue 13 = .ok (.aload_n 0, 1) := by decide +kernel
theorem dX0_earliestDue_14 : decode cX0_earliestDue 14 = .ok (.getfield 19, 3) := by decide +kernel
theorem dX0_earliestDue_17 : decode cX0_earliestDue 17 = .ok (.iload_n 2, 1) := by decide +kernel
theorem dX0_earliestDue_18 : decode cX0_earliestDue 18 = .ok (.aaload, 1) := by decide +kernel
theorem dX0_earliestDue_19 : decode cX0_earliestDue 19 = .ok (.invokevirtual 226, 3) := by decide +kernel
theorem dX0_earliestDue_22 : decode cX0_earliestDue 22 = .ok (.istore_n 3, 1) := by decide +kernel
theorem dX0_earliestDue_23 : decode cX0_earliestDue 23 = .ok (.iload_n 3, 1) := by decide +kernel
theorem dX0_earliestDue_24 : decode cX0_earliestDue 24 = .ok (.aload_n 0, 1) := by decide +kernel
theorem dX0_earliestDue_25 : decode cX0_earliestDue 25 = .ok (.getfield 38, 3) := by decide +kernel
theorem dX0_earliestDue_28 : decode cX0_earliestDue 28 = .ok (.if_icmp .lt 15, 3) := by decide +kernel
theorem dX0_earliestDue_31 : decode cX0_earliestDue 31 = .ok (.iload_n 1, 1) := by decide +kernel
theorem dX0_earliestDue_32 : decode cX0_earliestDue 32 = .ok (.iconst (-1), 1) := by decide +kernel
theorem dX0_earliestDue_33 : decode cX0_earliestDue 33 = .ok (.if_icmp .eq 8, 3) := by decide +kernel
theorem dX0_earliestDue_36 : decode cX0_earliestDue 36 = .ok (.iload_n 3, 1) := by decide +kernel
theorem dX0_earliestDue_37 : decode cX0_earliestDue 37 = .ok (.iload_n 1, 1) := by decide +kernel
theorem dX0_earliestDue_38 : decode cX0_earliestDue 38 = .ok (.if_icmp .ge 5, 3) := by decide +kernel
theorem dX0_earliestDue_41 : decode cX0_earliestDue 41 = .ok (.iload_n 3, 1) := by decide +kernel
theorem dX0_earliestDue_42 : decode cX0_earliestDue 42 = .ok (.istore_n 1, 1) := by decide +kernel
theorem dX0_earliestDue_43 : decode cX0_earliestDue 43 = .ok (.iinc 2 1, 3) := by decide +kernel
theorem dX0_earliestDue_46 : decode cX0_earliestDue 46 = .ok (.goto (-42), 3) := by decide +kernel
theorem dX0_earliestDue_49 : decode cX0_earliestDue 49 = .ok (.iload_n 1, 1) := by decide +kernel
theorem dX0_earliestDue_50 : decode cX0_earliestDue 50 = .ok (.ireturn, 1) := by decide +kernel
theorem dX0_dueOf_0 : decode cX0_dueOf 0 = .ok (.aload_n 0, 1) := by decide +kernel
theorem dX0_dueOf_1 : decode cX0_dueOf 1 = .ok (.aload_n 1, 1) := by decide +kernel
theorem dX0_dueOf_2 : decode cX0_dueOf 2 = .ok (.invokevirtual 229, 3) := by decide +kernel
theorem dX0_dueOf_5 : decode cX0_dueOf 5 = .ok (.astore_n 2, 1) := by decide +kernel
theorem dX0_dueOf_6 : decode cX0_dueOf 6 = .ok (.aload_n 2, 1) := by decide +kernel
theorem dX0_dueOf_7 : decode cX0_dueOf 7 = .ok (.getfield 85, 3) := by decide +kernel
theorem dX0_dueOf_10 : decode cX0_dueOf 10 = .ok (.bipush 97, 2) := by decide +kernel
theorem dX0_dueOf_12 : decode cX0_dueOf 12 = .ok (.if_icmp .ne 11, 3) := by decide +kernel
theorem dX0_dueOf_15 : decode cX0_dueOf 15 = .ok (.aload_n 2, 1) := by decide +kernel
theorem dX0_dueOf_16 : decode cX0_dueOf 16 = .ok (.getfield 103, 3) := by decide +kernel
theorem dX0_dueOf_19 : decode cX0_dueOf 19 = .ok (.getfield 107, 3) := by decide +kernel
theorem dX0_dueOf_22 : decode cX0_dueOf 22 = .ok (.ireturn, 1) := by decide +kernel
theorem dX0_dueOf_23 : decode cX0_dueOf 23 = .ok (.aload_n 2, 1) := by decide +kernel
theorem dX0_dueOf_24 : decode cX0_dueOf 24 = .ok (.getfield 85, 3) := by decide +kernel
theorem dX0_dueOf_27 : decode cX0_dueOf 27 = .ok (.bipush 100, 2) := by decide +kernel
theorem dX0_dueOf_29 : decode cX0_dueOf 29 = .ok (.if_icmp .ne 13, 3) := by decide +kernel
theorem dX0_dueOf_32 : decode cX0_dueOf 32 = .ok (.aload_n 2, 1) := by decide +kernel
theorem dX0_dueOf_33 : decode cX0_dueOf 33 = .ok (.getfield 130, 3) := by decide +kernel
theorem dX0_dueOf_36 : decode cX0_dueOf 36 = .ok (.getfield 142, 3) := by decide +kernel
theorem dX0_dueOf_39 : decode cX0_dueOf 39 = .ok (.goto 4, 3) := by decide +kernel
theorem dX0_dueOf_42 : decode cX0_dueOf 42 = .ok (.iconst (-1), 1) := by decide +kernel
theorem dX0_dueOf_43 : decode cX0_dueOf 43 = .ok (.ireturn, 1) := by decide +kernel
theorem dX0_countStanding_0 : decode cX0_countStanding 0 = .ok (.iconst 0, 1) := by decide +kernel
theorem dX0_countStanding_1 : decode cX0_countStanding 1 = .ok (.istore_n 2, 1) := by decide +kernel
theorem dX0_countStanding_2 : decode cX0_countStanding 2 = .ok (.iconst 0, 1) := by decide +kernel
theorem dX0_countStanding_3 : decode cX0_countStanding 3 = .ok (.istore_n 3, 1) := by decide +kernel
theorem dX0_countStanding_4 : decode cX0_countStanding 4 = .ok (.iload_n 3, 1) := by decide +kernel
theorem dX0_countStanding_5 : decode cX0_countStanding 5 = .ok (.aload_n 0, 1) := by decide +kernel
theorem dX0_countStanding_6 : decode cX0_countStanding 6 = .ok (.getfield 35, 3) := by decide +kernel
theorem dX0_countStanding_9 : decode cX0_countStanding 9 = .ok (.if_icmp .ge 25, 3) := by decide +kernel
theorem dX0_countStanding_12 : decode cX0_countStanding 12 = .ok (.aload_n 0, 1) := by decide +kernel
theorem dX0_countStanding_13 : decode cX0_countStanding 13 = .ok (.getfield 19, 3) := by decide +kernel
theorem dX0_countStanding_16 : decode cX0_countStanding 16 = .ok (.iload_n 3, 1) := by decide +kernel
theorem dX0_countStanding_17 : decode cX0_countStanding 17 = .ok (.aaload, 1) := by decide +kernel
theorem dX0_countStanding_18 : decode cX0_countStanding 18 = .ok (.getfield 85, 3) := by decide +kernel
theorem dX0_countStanding_21 : decode cX0_countStanding 21 = .ok (.iload_n 1, 1) := by decide +kernel
theorem dX0_countStanding_22 : decode cX0_countStanding 22 = .ok (.if_icmp .ne 6, 3) := by decide +kernel
theorem dX0_countStanding_25 : decode cX0_countStanding 25 = .ok (.iinc 2 1, 3) := by decide +kernel
theorem dX0_countStanding_28 : decode cX0_countStanding 28 = .ok (.iinc 3 1, 3) := by decide +kernel
theorem dX0_countStanding_31 : decode cX0_countStanding 31 = .ok (.goto (-27), 3) := by decide +kernel
theorem dX0_countStanding_34 : decode cX0_countStanding 34 = .ok (.iload_n 2, 1) := by decide +kernel
theorem dX0_countStanding_35 : decode cX0_countStanding 35 = .ok (.ireturn, 1) := by decide +kernel
theorem dX0_countTold_0 : decode cX0_countTold 0 = .ok (.iconst 0, 1) := by decide +kernel
theorem dX0_countTold_1 : decode cX0_countTold 1 = .ok (.istore_n 2, 1) := by decide +kernel
theorem dX0_countTold_2 : decode cX0_countTold 2 = .ok (.iconst 0, 1) := by decide +kernel
theorem dX0_countTold_3 : decode cX0_countTold 3 = .ok (.istore_n 3, 1) := by decide +kernel
theorem dX0_countTold_4 : decode cX0_countTold 4 = .ok (.iload_n 3, 1) := by decide +kernel
theorem dX0_countTold_5 : decode cX0_countTold 5 = .ok (.aload_n 0, 1) := by decide +kernel
theorem dX0_countTold_6 : decode cX0_countTold 6 = .ok (.getfield 35, 3) := by decide +kernel
theorem dX0_countTold_9 : decode cX0_countTold 9 = .ok (.if_icmp .ge 25, 3) := by decide +kernel
theorem dX0_countTold_12 : decode cX0_countTold 12 = .ok (.aload_n 0, 1) := by decide +kernel
theorem dX0_countTold_13 : decode cX0_countTold 13 = .ok (.getfield 19, 3) := by decide +kernel
theorem dX0_countTold_16 : decode cX0_countTold 16 = .ok (.iload_n 3, 1) := by decide +kernel
theorem dX0_countTold_17 : decode cX0_countTold 17 = .ok (.aaload, 1) := by decide +kernel
theorem dX0_countTold_18 : decode cX0_countTold 18 = .ok (.getfield 233, 3) := by decide +kernel
theorem dX0_countTold_21 : decode cX0_countTold 21 = .ok (.iload_n 1, 1) := by decide +kernel
theorem dX0_countTold_22 : decode cX0_countTold 22 = .ok (.if_icmp .ne 6, 3) := by decide +kernel
theorem dX0_countTold_25 : decode cX0_countTold 25 = .ok (.iinc 2 1, 3) := by decide +kernel
theorem dX0_countTold_28 : decode cX0_countTold 28 = .ok (.iinc 3 1, 3) := by decide +kernel
theorem dX0_countTold_31 : decode cX0_countTold 31 = .ok (.goto (-27), 3) := by decide +kernel
theorem dX0_countTold_34 : decode cX0_countTold 34 = .ok (.iload_n 2, 1) := by decide +kernel
theorem dX0_countTold_35 : decode cX0_countTold 35 = .ok (.ireturn, 1) := by decide +kernel
theorem dX0_countClosed_0 : decode cX0_countClosed 0 = .ok (.iconst 0, 1) := by decide +kernel
theorem dX0_countClosed_1 : decode cX0_countClosed 1 = .ok (.istore_n 1, 1) := by decide +kernel
theorem dX0_countClosed_2 : decode cX0_countClosed 2 = .ok (.iconst 0, 1) := by decide +kernel
theorem dX0_countClosed_3 : decode cX0_countClosed 3 = .ok (.istore_n 2, 1) := by decide +kernel
theorem dX0_countClosed_4 : decode cX0_countClosed 4 = .ok (.iload_n 2, 1) := by decide +kernel
theorem dX0_countClosed_5 : decode cX0_countClosed 5 = .ok (.aload_n 0, 1) := by decide +kernel
theorem dX0_countClosed_6 : decode cX0_countClosed 6 = .ok (.getfield 35, 3) := by decide +kernel
theorem dX0_countClosed_9 : decode cX0_countClosed 9 = .ok (.if_icmp .ge 27, 3) := by decide +kernel
theorem dX0_countClosed_12 : decode cX0_countClosed 12 = .ok (.aload_n 0, 1) := by decide +kernel
theorem dX0_countClosed_13 : decode cX0_countClosed 13 = .ok (.getfield 19, 3) := by decide +kernel
theorem dX0_countClosed_16 : decode cX0_countClosed 16 = .ok (.iload_n 2, 1) := by decide +kernel
theorem dX0_countClosed_17 : decode cX0_countClosed 17 = .ok (.aaload, 1) := by decide +kernel
theorem dX0_countClosed_18 : decode cX0_countClosed 18 = .ok (.getfield 85, 3) := by decide +kernel
theorem dX0_countClosed_21 : decode cX0_countClosed 21 = .ok (.invokestatic 236, 3) := by decide +kernel
theorem dX0_countClosed_24 : decode cX0_countClosed 24 = .ok (.ifCond .eq 6, 3) := by decide +kernel
theorem dX0_countClosed_27 : decode cX0_countClosed 27 = .ok (.iinc 1 1, 3) := by decide +kernel
theorem dX0_countClosed_30 : decode cX0_countClosed 30 = .ok (.iinc 2 1, 3) := by decide +kernel
theorem dX0_countClosed_33 : decode cX0_countClosed 33 = .ok (.goto (-29), 3) := by decide +kernel
theorem dX0_countClosed_36 : decode cX0_countClosed 36 = .ok (.iload_n 1, 1) := by decide +kernel
theorem dX0_countClosed_37 : decode cX0_countClosed 37 = .ok (.ireturn, 1) := by decide +kernel
theorem dX0_sumOfClosedDays_0 : decode cX0_sumOfClosedDays 0 = .ok (.iconst 0, 1) := by decide +kernel
theorem dX0_sumOfClosedDays_1 : decode cX0_sumOfClosedDays 1 = .ok (.istore_n 1, 1) := by decide +kernel
theorem dX0_sumOfClosedDays_2 : decode cX0_sumOfClosedDays 2 = .ok (.iconst 0, 1) := by decide +kernel
theorem dX0_sumOfClosedDays_3 : decode cX0_sumOfClosedDays 3 = .ok (.istore_n 2, 1) := by decide +kernel
theorem dX0_sumOfClosedDays_4 : decode cX0_sumOfClosedDays 4 = .ok (.iload_n 2, 1) := by decide +kernel
theorem dX0_sumOfClosedDays_5 : decode cX0_sumOfClosedDays 5 = .ok (.aload_n 0, 1) := by decide +kernel
theorem dX0_sumOfClosedDays_6 : decode cX0_sumOfClosedDays 6 = .ok (.getfield 35, 3) := by decide +kernel
theorem dX0_sumOfClosedDays_9 : decode cX0_sumOfClosedDays 9 = .ok (.if_icmp .ge 40, 3) := by decide +kernel
theorem dX0_sumOfClosedDays_12 : decode cX0_sumOfClosedDays 12 = .ok (.aload_n 0, 1) := by decide +kernel
theorem dX0_sumOfClosedDays_13 : decode cX0_sumOfClosedDays 13 = .ok (.getfield 19, 3) := by decide +kernel
theorem dX0_sumOfClosedDays_16 : decode cX0_sumOfClosedDays 16 = .ok (.iload_n 2, 1) := by decide +kernel
theorem dX0_sumOfClosedDays_17 : decode cX0_sumOfClosedDays 17 = .ok (.aaload, 1) := by decide +kernel
theorem dX0_sumOfClosedDays_18 : decode cX0_sumOfClosedDays 18 = .ok (.getfield 85, 3) := by decide +kernel
theorem dX0_sumOfClosedDays_21 : decode cX0_sumOfClosedDays 21 = .ok (.invokestatic 236, 3) := by decide +kernel
theorem dX0_sumOfClosedDays_24 : decode cX0_sumOfClosedDays 24 = .ok (.ifCond .eq 19, 3) := by decide +kernel
theorem dX0_sumOfClosedDays_27 : decode cX0_sumOfClosedDays 27 = .ok (.iload_n 1, 1) := by decide +kernel
theorem dX0_sumOfClosedDays_28 : decode cX0_sumOfClosedDays 28 = .ok (.aload_n 0, 1) := by decide +kernel
theorem dX0_sumOfClosedDays_29 : decode cX0_sumOfClosedDays 29 = .ok (.getfield 19, 3) := by decide +kernel
theorem dX0_sumOfClosedDays_32 : decode cX0_sumOfClosedDays 32 = .ok (.iload_n 2, 1) := by decide +kernel
theorem dX0_sumOfClosedDays_33 : decode cX0_sumOfClosedDays 33 = .ok (.aaload, 1) := by decide +kernel
theorem dX0_sumOfClosedDays_34 : decode cX0_sumOfClosedDays 34 = .ok (.aload_n 0, 1) := by decide +kernel
theorem dX0_sumOfClosedDays_35 : decode cX0_sumOfClosedDays 35 = .ok (.getfield 38, 3) := by decide +kernel
theorem dX0_sumOfClosedDays_38 : decode cX0_sumOfClosedDays 38 = .ok (.invokevirtual 240, 3) := by decide +kernel
theorem dX0_sumOfClosedDays_41 : decode cX0_sumOfClosedDays 41 = .ok (.iadd, 1) := by decide +kernel
theorem dX0_sumOfClosedDays_42 : decode cX0_sumOfClosedDays 42 = .ok (.istore_n 1, 1) := by decide +kernel
theorem dX0_sumOfClosedDays_43 : decode cX0_sumOfClosedDays 43 = .ok (.iinc 2 1, 3) := by decide +kernel
theorem dX0_sumOfClosedDays_46 : decode cX0_sumOfClosedDays 46 = .ok (.goto (-42), 3) := by decide +kernel
theorem dX0_sumOfClosedDays_49 : decode cX0_sumOfClosedDays 49 = .ok (.iload_n 1, 1) := by decide +kernel
theorem dX0_sumOfClosedDays_50 : decode cX0_sumOfClosedDays 50 = .ok (.ireturn, 1) := by decide +kernel
theorem dX0_isOrderly_0 : decode cX0_isOrderly 0 = .ok (.iconst 0, 1) := by decide +kernel
theorem dX0_isOrderly_1 : decode cX0_isOrderly 1 = .ok (.istore_n 1, 1) := by decide +kernel
theorem dX0_isOrderly_2 : decode cX0_isOrderly 2 = .ok (.iload_n 1, 1) := by decide +kernel
theorem dX0_isOrderly_3 : decode cX0_isOrderly 3 = .ok (.aload_n 0, 1) := by decide +kernel
theorem dX0_isOrderly_4 : decode cX0_isOrderly 4 = .ok (.getfield 35, 3) := by decide +kernel
theorem dX0_isOrderly_7 : decode cX0_isOrderly 7 = .ok (.if_icmp .ge 77, 3) := by decide +kernel
theorem dX0_isOrderly_10 : decode cX0_isOrderly 10 = .ok (.aload_n 0, 1) := by decide +kernel
theorem dX0_isOrderly_11 : decode cX0_isOrderly 11 = .ok (.getfield 19, 3) := by decide +kernel
theorem dX0_isOrderly_14 : decode cX0_isOrderly 14 = .ok (.iload_n 1, 1) := by decide +kernel
theorem dX0_isOrderly_15 : decode cX0_isOrderly 15 = .ok (.aaload, 1) := by decide +kernel
theorem dX0_isOrderly_16 : decode cX0_isOrderly 16 = .ok (.astore_n 2, 1) := by decide +kernel
theorem dX0_isOrderly_17 : decode cX0_isOrderly 17 = .ok (.aload_n 0, 1) := by decide +kernel
theorem dX0_isOrderly_18 : decode cX0_isOrderly 18 = .ok (.aload_n 2, 1) := by decide +kernel
theorem dX0_isOrderly_19 : decode cX0_isOrderly 19 = .ok (.invokevirtual 229, 3) := by decide +kernel
theorem dX0_isOrderly_22 : decode cX0_isOrderly 22 = .ok (.astore_n 3, 1) := by decide +kernel
theorem dX0_isOrderly_23 : decode cX0_isOrderly 23 = .ok (.aload_n 2, 1) := by decide +kernel
theorem dX0_isOrderly_24 : decode cX0_isOrderly 24 = .ok (.getfield 85, 3) := by decide +kernel
theorem dX0_isOrderly_27 : decode cX0_isOrderly 27 = .ok (.aload_n 3, 1) := by decide +kernel
theorem dX0_isOrderly_28 : decode cX0_isOrderly 28 = .ok (.getfield 85, 3) := by decide +kernel
theorem dX0_isOrderly_31 : decode cX0_isOrderly 31 = .ok (.if_icmp .ne 25, 3) := by decide +kernel
theorem dX0_isOrderly_34 : decode cX0_isOrderly 34 = .ok (.aload_n 2, 1) := by decide +kernel
theorem dX0_isOrderly_35 : decode cX0_isOrderly 35 = .ok (.getfield 219, 3) := by decide +kernel
theorem dX0_isOrderly_38 : decode cX0_isOrderly 38 = .ok (.aload_n 3, 1) := by decide +kernel
theorem dX0_isOrderly_39 : decode cX0_isOrderly 39 = .ok (.getfield 219, 3) := by decide +kernel
theorem dX0_isOrderly_42 : decode cX0_isOrderly 42 = .ok (.if_icmp .ne 14, 3) := by decide +kernel
theorem dX0_isOrderly_45 : decode cX0_isOrderly 45 = .ok (.aload_n 2, 1) := by decide +kernel
theorem dX0_isOrderly_46 : decode cX0_isOrderly 46 = .ok (.getfield 170, 3) := by decide +kernel
theorem dX0_isOrderly_49 : decode cX0_isOrderly 49 = .ok (.aload_n 3, 1) := by decide +kernel
theorem dX0_isOrderly_50 : decode cX0_isOrderly 50 = .ok (.getfield 170, 3) := by decide +kernel
theorem dX0_isOrderly_53 : decode cX0_isOrderly 53 = .ok (.if_icmp .eq 5, 3) := by decide +kernel
theorem dX0_isOrderly_56 : decode cX0_isOrderly 56 = .ok (.iconst 0, 1) := by decide +kernel
theorem dX0_isOrderly_57 : decode cX0_isOrderly 57 = .ok (.ireturn, 1) := by decide +kernel
theorem dX0_isOrderly_58 : decode cX0_isOrderly 58 = .ok (.aload_n 2, 1) := by decide +kernel
theorem dX0_isOrderly_59 : decode cX0_isOrderly 59 = .ok (.getfield 85, 3) := by decide +kernel
theorem dX0_isOrderly_62 : decode cX0_isOrderly 62 = .ok (.invokestatic 236, 3) := by decide +kernel
theorem dX0_isOrderly_65 : decode cX0_isOrderly 65 = .ok (.ifCond .eq 13, 3) := by decide +kernel
theorem dX0_isOrderly_68 : decode cX0_isOrderly 68 = .ok (.aload_n 2, 1) := by decide +kernel
theorem dX0_isOrderly_69 : decode cX0_isOrderly 69 = .ok (.getfield 243, 3) := by decide +kernel
theorem dX0_isOrderly_72 : decode cX0_isOrderly 72 = .ok (.iconst (-1), 1) := by decide +kernel
theorem dX0_isOrderly_73 : decode cX0_isOrderly 73 = .ok (.if_icmp .ne 5, 3) := by decide +kernel
theorem dX0_isOrderly_76 : decode cX0_isOrderly 76 = .ok (.iconst 0, 1) := by decide +kernel
theorem dX0_isOrderly_77 : decode cX0_isOrderly 77 = .ok (.ireturn, 1) := by decide +kernel
theorem dX0_isOrderly_78 : decode cX0_isOrderly 78 = .ok (.iinc 1 1, 3) := by decide +kernel
theorem dX0_isOrderly_81 : decode cX0_isOrderly 81 = .ok (.goto (-79), 3) := by decide +kernel
theorem dX0_isOrderly_84 : decode cX0_isOrderly 84 = .ok (.iconst 1, 1) := by decide +kernel
theorem dX0_isOrderly_85 : decode cX0_isOrderly 85 = .ok (.ireturn, 1) := by decide +kernel
theorem dX0_matches_0 : decode cX0_matches 0 = .ok (.aload_n 0, 1) := by decide +kernel
theorem dX0_matches_1 : decode cX0_matches 1 = .ok (.getfield 38, 3) := by decide +kernel
theorem dX0_matches_4 : decode cX0_matches 4 = .ok (.aload_n 1, 1) := by decide +kernel
theorem dX0_matches_5 : decode cX0_matches 5 = .ok (.getfield 38, 3) := by decide +kernel
theorem dX0_matches_8 : decode cX0_matches 8 = .ok (.if_icmp .ne 31, 3) := by decide +kernel
theorem dX0_matches_11 : decode cX0_matches 11 = .ok (.aload_n 0, 1) := by decide +kernel
theorem dX0_matches_12 : decode cX0_matches 12 = .ok (.aload_n 1, 1) := by decide +kernel
theorem dX0_matches_13 : decode cX0_matches 13 = .ok (.invokevirtual 246, 3) := by decide +kernel
theorem dX0_matches_16 : decode cX0_matches 16 = .ok (.ifCond .eq 23, 3) := by decide +kernel
theorem dX0_matches_19 : decode cX0_matches 19 = .ok (.aload_n 0, 1) := by decide +kernel
theorem dX0_matches_20 : decode cX0_matches 20 = .ok (.aload_n 1, 1) := by decide +kernel
theorem dX0_matches_21 : decode cX0_matches 21 = .ok (.invokevirtual 250, 3) := by decide +kernel
theorem dX0_matches_24 : decode cX0_matches 24 = .ok (.ifCond .eq 15, 3) := by decide +kernel
theorem dX0_matches_27 : decode cX0_matches 27 = .ok (.aload_n 0, 1) := by decide +kernel
theorem dX0_matches_28 : decode cX0_matches 28 = .ok (.aload_n 1, 1) := by decide +kernel
theorem dX0_matches_29 : decode cX0_matches 29 = .ok (.invokevirtual 253, 3) := by decide +kernel
theorem dX0_matches_32 : decode cX0_matches 32 = .ok (.ifCond .eq 7, 3) := by decide +kernel
theorem dX0_matches_35 : decode cX0_matches 35 = .ok (.iconst 1, 1) := by decide +kernel
theorem dX0_matches_36 : decode cX0_matches 36 = .ok (.goto 4, 3) := by decide +kernel
theorem dX0_matches_39 : decode cX0_matches 39 = .ok (.iconst 0, 1) := by decide +kernel
theorem dX0_matches_40 : decode cX0_matches 40 = .ok (.ireturn, 1) := by decide +kernel
theorem dX0_matchesInOffices_0 : decode cX0_matchesInOffices 0 = .ok (.aload_n 0, 1) := by decide +kernel
theorem dX0_matchesInOffices_1 : decode cX0_matchesInOffices 1 = .ok (.getfield 31, 3) := by decide +kernel
theorem dX0_matchesInOffices_4 : decode cX0_matchesInOffices 4 = .ok (.aload_n 1, 1) := by decide +kernel
theorem dX0_matchesInOffices_5 : decode cX0_matchesInOffices 5 = .ok (.getfield 31, 3) := by decide +kernel
theorem dX0_matchesInOffices_8 : decode cX0_matchesInOffices 8 = .ok (.if_icmp .eq 5, 3) := by decide +kernel
theorem dX0_matchesInOffices_11 : decode cX0_matchesInOffices 11 = .ok (.iconst 0, 1) := by decide +kernel
theorem dX0_matchesInOffices_12 : decode cX0_matchesInOffices 12 = .ok (.ireturn, 1) := by decide +kernel
theorem dX0_matchesInOffices_13 : decode cX0_matchesInOffices 13 = .ok (.iconst 0, 1) := by decide +kernel
theorem dX0_matchesInOffices_14 : decode cX0_matchesInOffices 14 = .ok (.istore_n 2, 1) := by decide +kernel
theorem dX0_matchesInOffices_15 : decode cX0_matchesInOffices 15 = .ok (.iload_n 2, 1) := by decide +kernel
theorem dX0_matchesInOffices_16 : decode cX0_matchesInOffices 16 = .ok (.aload_n 0, 1) := by decide +kernel
theorem dX0_matchesInOffices_17 : decode cX0_matchesInOffices 17 = .ok (.getfield 31, 3) := by decide +kernel
theorem dX0_matchesInOffices_20 : decode cX0_matchesInOffices 20 = .ok (.if_icmp .ge 29, 3) := by decide +kernel
theorem dX0_matchesInOffices_23 : decode cX0_matchesInOffices 23 = .ok (.aload_n 0, 1) := by decide +kernel
theorem dX0_matchesInOffices_24 : decode cX0_matchesInOffices 24 = .ok (.getfield 11, 3) := by decide +kernel
theorem dX0_matchesInOffices_27 : decode cX0_matchesInOffices 27 = .ok (.iload_n 2, 1) := by decide +kernel
theorem dX0_matchesInOffices_28 : decode cX0_matchesInOffices 28 = .ok (.aaload, 1) := by decide +kernel
theorem dX0_matchesInOffices_29 : decode cX0_matchesInOffices 29 = .ok (.aload_n 1, 1) := by decide +kernel
theorem dX0_matchesInOffices_30 : decode cX0_matchesInOffices 30 = .ok (.getfield 11, 3) := by decide +kernel
theorem dX0_matchesInOffices_33 : decode cX0_matchesInOffices 33 = .ok (.iload_n 2, 1) := by decide +kernel
theorem dX0_matchesInOffices_34 : decode cX0_matchesInOffices 34 = .ok (.aaload, 1) := by decide +kernel
theorem dX0_matchesInOffices_35 : decode cX0_matchesInOffices 35 = .ok (.invokevirtual 256, 3) := by decide +kernel
theorem dX0_matchesInOffices_38 : decode cX0_matchesInOffices 38 = .ok (.ifCond .ne 5, 3) := by decide +kernel
theorem dX0_matchesInOffices_41 : decode cX0_matchesInOffices 41 = .ok (.iconst 0, 1) := by decide +kernel
theorem dX0_matchesInOffices_42 : decode cX0_matchesInOffices 42 = .ok (.ireturn, 1) := by decide +kernel
theorem dX0_matchesInOffices_43 : decode cX0_matchesInOffices 43 = .ok (.iinc 2 1, 3) := by decide +kernel
theorem dX0_matchesInOffices_46 : decode cX0_matchesInOffices 46 = .ok (.goto (-31), 3) := by decide +kernel
theorem dX0_matchesInOffices_49 : decode cX0_matchesInOffices 49 = .ok (.iconst 1, 1) := by decide +kernel
theorem dX0_matchesInOffices_50 : decode cX0_matchesInOffices 50 = .ok (.ireturn, 1) := by decide +kernel
theorem dX0_matchesInComplaints_0 : decode cX0_matchesInComplaints 0 = .ok (.aload_n 0, 1) := by decide +kernel
theorem dX0_matchesInComplaints_1 : decode cX0_matchesInComplaints 1 = .ok (.getfield 35, 3) := by decide +kernel
theorem dX0_matchesInComplaints_4 : decode cX0_matchesInComplaints 4 = .ok (.aload_n 1, 1) := by decide +kernel
theorem dX0_matchesInComplaints_5 : decode cX0_matchesInComplaints 5 = .ok (.getfield 35, 3) := by decide +kernel
theorem dX0_matchesInComplaints_8 : decode cX0_matchesInComplaints 8 = .ok (.if_icmp .eq 5, 3) := by decide +kernel
theorem dX0_matchesInComplaints_11 : decode cX0_matchesInComplaints 11 = .ok (.iconst 0, 1) := by decide +kernel
theorem dX0_matchesInComplaints_12 : decode cX0_matchesInComplaints 12 = .ok (.ireturn, 1) := by decide +kernel
theorem dX0_matchesInComplaints_13 : decode cX0_matchesInComplaints 13 = .ok (.iconst 0, 1) := by decide +kernel
theorem dX0_matchesInComplaints_14 : decode cX0_matchesInComplaints 14 = .ok (.istore_n 2, 1) := by decide +kernel
theorem dX0_matchesInComplaints_15 : decode cX0_matchesInComplaints 15 = .ok (.iload_n 2, 1) := by decide +kernel
theorem dX0_matchesInComplaints_16 : decode cX0_matchesInComplaints 16 = .ok (.aload_n 0, 1) := by decide +kernel
theorem dX0_matchesInComplaints_17 : decode cX0_matchesInComplaints 17 = .ok (.getfield 35, 3) := by decide +kernel
theorem dX0_matchesInComplaints_20 : decode cX0_matchesInComplaints 20 = .ok (.if_icmp .ge 29, 3) := by decide +kernel
theorem dX0_matchesInComplaints_23 : decode cX0_matchesInComplaints 23 = .ok (.aload_n 0, 1) := by decide +kernel
theorem dX0_matchesInComplaints_24 : decode cX0_matchesInComplaints 24 = .ok (.getfield 19, 3) := by decide +kernel
theorem dX0_matchesInComplaints_27 : decode cX0_matchesInComplaints 27 = .ok (.iload_n 2, 1) := by decide +kernel
theorem dX0_matchesInComplaints_28 : decode cX0_matchesInComplaints 28 = .ok (.aaload, 1) := by decide +kernel
theorem dX0_matchesInComplaints_29 : decode cX0_matchesInComplaints 29 = .ok (.aload_n 1, 1) := by decide +kernel
theorem dX0_matchesInComplaints_30 : decode cX0_matchesInComplaints 30 = .ok (.getfield 19, 3) := by decide +kernel
theorem dX0_matchesInComplaints_33 : decode cX0_matchesInComplaints 33 = .ok (.iload_n 2, 1) := by decide +kernel
theorem dX0_matchesInComplaints_34 : decode cX0_matchesInComplaints 34 = .ok (.aaload, 1) := by decide +kernel
theorem dX0_matchesInComplaints_35 : decode cX0_matchesInComplaints 35 = .ok (.invokevirtual 260, 3) := by decide +kernel
theorem dX0_matchesInComplaints_38 : decode cX0_matchesInComplaints 38 = .ok (.ifCond .ne 5, 3) := by decide +kernel
theorem dX0_matchesInComplaints_41 : decode cX0_matchesInComplaints 41 = .ok (.iconst 0, 1) := by decide +kernel
theorem dX0_matchesInComplaints_42 : decode cX0_matchesInComplaints 42 = .ok (.ireturn, 1) := by decide +kernel
theorem dX0_matchesInComplaints_43 : decode cX0_matchesInComplaints 43 = .ok (.iinc 2 1, 3) := by decide +kernel
theorem dX0_matchesInComplaints_46 : decode cX0_matchesInComplaints 46 = .ok (.goto (-31), 3) := by decide +kernel
theorem dX0_matchesInComplaints_49 : decode cX0_matchesInComplaints 49 = .ok (.iconst 1, 1) := by decide +kernel
theorem dX0_matchesInComplaints_50 : decode cX0_matchesInComplaints 50 = .ok (.ireturn, 1) := by decide +kernel
theorem dX0_matchesInWeights_0 : decode cX0_matchesInWeights 0 = .ok (.iconst 0, 1) := by decide +kernel
theorem dX0_matchesInWeights_1 : decode cX0_matchesInWeights 1 = .ok (.istore_n 2, 1) := by decide +kernel
theorem dX0_matchesInWeights_2 : decode cX0_matchesInWeights 2 = .ok (.iload_n 2, 1) := by decide +kernel
theorem dX0_matchesInWeights_3 : decode cX0_matchesInWeights 3 = .ok (.iconst 5, 1) := by decide +kernel
theorem dX0_matchesInWeights_4 : decode cX0_matchesInWeights 4 = .ok (.if_icmp .ge 26, 3) := by decide +kernel
theorem dX0_matchesInWeights_7 : decode cX0_matchesInWeights 7 = .ok (.aload_n 0, 1) := by decide +kernel
theorem dX0_matchesInWeights_8 : decode cX0_matchesInWeights 8 = .ok (.getfield 23, 3) := by decide +kernel
theorem dX0_matchesInWeights_11 : decode cX0_matchesInWeights 11 = .ok (.iload_n 2, 1) := by decide +kernel
theorem dX0_matchesInWeights_12 : decode cX0_matchesInWeights 12 = .ok (.iaload, 1) := by decide +kernel
theorem dX0_matchesInWeights_13 : decode cX0_matchesInWeights 13 = .ok (.aload_n 1, 1) := by decide +kernel
theorem dX0_matchesInWeights_14 : decode cX0_matchesInWeights 14 = .ok (.getfield 23, 3) := by decide +kernel
theorem dX0_matchesInWeights_17 : decode cX0_matchesInWeights 17 = .ok (.iload_n 2, 1) := by decide +kernel
theorem dX0_matchesInWeights_18 : decode cX0_matchesInWeights 18 = .ok (.iaload, 1) := by decide +kernel
theorem dX0_matchesInWeights_19 : decode cX0_matchesInWeights 19 = .ok (.if_icmp .eq 5, 3) := by decide +kernel
theorem dX0_matchesInWeights_22 : decode cX0_matchesInWeights 22 = .ok (.iconst 0, 1) := by decide +kernel
theorem dX0_matchesInWeights_23 : decode cX0_matchesInWeights 23 = .ok (.ireturn, 1) := by decide +kernel
theorem dX0_matchesInWeights_24 : decode cX0_matchesInWeights 24 = .ok (.iinc 2 1, 3) := by decide +kernel
theorem dX0_matchesInWeights_27 : decode cX0_matchesInWeights 27 = .ok (.goto (-25), 3) := by decide +kernel
theorem dX0_matchesInWeights_30 : decode cX0_matchesInWeights 30 = .ok (.iconst 1, 1) := by decide +kernel
theorem dX0_matchesInWeights_31 : decode cX0_matchesInWeights 31 = .ok (.ireturn, 1) := by decide +kernel
theorem dX1_init_0 : decode cX1_init 0 = .ok (.aload_n 0, 1) := by decide +kernel
theorem dX1_init_1 : decode cX1_init 1 = .ok (.invokespecial 3, 3) := by decide +kernel
theorem dX1_init_4 : decode cX1_init 4 = .ok (.aload_n 0, 1) := by decide +kernel
theorem dX1_init_5 : decode cX1_init 5 = .ok (.new 9, 3) := by decide +kernel
theorem dX1_init_8 : decode cX1_init 8 = .ok (.dup, 1) := by decide +kernel
theorem dX1_init_9 : decode cX1_init 9 = .ok (.invokespecial 11, 3) := by decide +kernel
theorem dX1_init_12 : decode cX1_init 12 = .ok (.putfield 12, 3) := by decide +kernel
theorem dX1_init_15 : decode cX1_init 15 = .ok (.aload_n 0, 1) := by decide +kernel
theorem dX1_init_16 : decode cX1_init 16 = .ok (.new 18, 3) := by decide +kernel
theorem dX1_init_19 : decode cX1_init 19 = .ok (.dup, 1) := by decide +kernel
theorem dX1_init_20 : decode cX1_init 20 = .ok (.invokespecial 20, 3) := by decide +kernel
theorem dX1_init_23 : decode cX1_init 23 = .ok (.putfield 21, 3) := by decide +kernel
theorem dX1_init_26 : decode cX1_init 26 = .ok (.aload_n 0, 1) := by decide +kernel
theorem dX1_init_27 : decode cX1_init 27 = .ok (.iload_n 1, 1) := by decide +kernel
theorem dX1_init_28 : decode cX1_init 28 = .ok (.putfield 25, 3) := by decide +kernel
theorem dX1_init_31 : decode cX1_init 31 = .ok (.return_, 1) := by decide +kernel
theorem dX1_begin_0 : decode cX1_begin 0 = .ok (.aload_n 0, 1) := by decide +kernel
theorem dX1_begin_1 : decode cX1_begin 1 = .ok (.iload_n 1, 1) := by decide +kernel
theorem dX1_begin_2 : decode cX1_begin 2 = .ok (.putfield 29, 3) := by decide +kernel
theorem dX1_begin_5 : decode cX1_begin 5 = .ok (.aload_n 0, 1) := by decide +kernel
theorem dX1_begin_6 : decode cX1_begin 6 = .ok (.iload_n 2, 1) := by decide +kernel
theorem dX1_begin_7 : decode cX1_begin 7 = .ok (.putfield 32, 3) := by decide +kernel
theorem dX1_begin_10 : decode cX1_begin 10 = .ok (.aload_n 0, 1) := by decide +kernel
theorem dX1_begin_11 : decode cX1_begin 11 = .ok (.iload_n 3, 1) := by decide +kernel
theorem dX1_begin_12 : decode cX1_begin 12 = .ok (.putfield 35, 3) := by decide +kernel
theorem dX1_begin_15 : decode cX1_begin 15 = .ok (.aload_n 0, 1) := by decide +kernel
theorem dX1_begin_16 : decode cX1_begin 16 = .ok (.iload 4, 2) := by decide +kernel
theorem dX1_begin_18 : decode cX1_begin 18 = .ok (.putfield 38, 3) := by decide +kernel
theorem dX1_begin_21 : decode cX1_begin 21 = .ok (.aload_n 0, 1) := by decide +kernel
theorem dX1_begin_22 : decode cX1_begin 22 = .ok (.iload 5, 2) := by decide +kernel
theorem dX1_begin_24 : decode cX1_begin 24 = .ok (.putfield 41, 3) := by decide +kernel
theorem dX1_begin_27 : decode cX1_begin 27 = .ok (.aload_n 0, 1) := by decide +kernel
theorem dX1_begin_28 : decode cX1_begin 28 = .ok (.iconst 0, 1) := by decide +kernel
theorem dX1_begin_29 : decode cX1_begin 29 = .ok (.putfield 44, 3) := by decide +kernel
theorem dX1_begin_32 : decode cX1_begin 32 = .ok (.aload_n 0, 1) := by decide +kernel
theorem dX1_begin_33 : decode cX1_begin 33 = .ok (.iconst 0, 1) := by decide +kernel
theorem dX1_begin_34 : decode cX1_begin 34 = .ok (.putfield 48, 3) := by decide +kernel
theorem dX1_begin_37 : decode cX1_begin 37 = .ok (.aload_n 0, 1) := by decide +kernel
theorem dX1_begin_38 : decode cX1_begin 38 = .ok (.iconst (-1), 1) := by decide +kernel
theorem dX1_begin_39 : decode cX1_begin 39 = .ok (.putfield 51, 3) := by decide +kernel
theorem dX1_begin_42 : decode cX1_begin 42 = .ok (.aload_n 0, 1) := by decide +kernel
theorem dX1_begin_43 : decode cX1_begin 43 = .ok (.bipush 110, 2) := by decide +kernel
theorem dX1_begin_45 : decode cX1_begin 45 = .ok (.putfield 54, 3) := by decide +kernel
theorem dX1_begin_48 : decode cX1_begin 48 = .ok (.aload_n 0, 1) := by decide +kernel
theorem dX1_begin_49 : decode cX1_begin 49 = .ok (.aload_n 0, 1) := by decide +kernel
theorem dX1_begin_50 : decode cX1_begin 50 = .ok (.getfield 25, 3) := by decide +kernel
theorem dX1_begin_53 : decode cX1_begin 53 = .ok (.putfield 58, 3) := by decide +kernel
theorem dX1_begin_56 : decode cX1_begin 56 = .ok (.aload_n 0, 1) := by decide +kernel
theorem dX1_begin_57 : decode cX1_begin 57 = .ok (.iconst (-1), 1) := by decide +kernel
theorem dX1_begin_58 : decode cX1_begin 58 = .ok (.putfield 61, 3) := by decide +kernel
theorem dX1_begin_61 : decode cX1_begin 61 = .ok (.aload_n 0, 1) := by decide +kernel
theorem dX1_begin_62 : decode cX1_begin 62 = .ok (.iconst (-1), 1) := by decide +kernel
theorem dX1_begin_63 : decode cX1_begin 63 = .ok (.putfield 64, 3) := by decide +kernel
theorem dX1_begin_66 : decode cX1_begin 66 = .ok (.aload_n 0, 1) := by decide +kernel
theorem dX1_begin_67 : decode cX1_begin 67 = .ok (.iconst 0, 1) := by decide +kernel
theorem dX1_begin_68 : decode cX1_begin 68 = .ok (.putfield 67, 3) := by decide +kernel
theorem dX1_begin_71 : decode cX1_begin 71 = .ok (.aload_n 0, 1) := by decide +kernel
theorem dX1_begin_72 : decode cX1_begin 72 = .ok (.getfield 12, 3) := by decide +kernel
theorem dX1_begin_75 : decode cX1_begin 75 = .ok (.iconst (-1), 1) := by decide +kernel
theorem dX1_begin_76 : decode cX1_begin 76 = .ok (.invokevirtual 70, 3) := by decide +kernel
theorem dX1_begin_79 : decode cX1_begin 79 = .ok (.aload_n 0, 1) := by decide +kernel
theorem dX1_begin_80 : decode cX1_begin 80 = .ok (.getfield 21, 3) := by decide +kernel
theorem dX1_begin_83 : decode cX1_begin 83 = .ok (.iconst (-1), 1) := by decide +kernel
theorem dX1_begin_84 : decode cX1_begin 84 = .ok (.invokevirtual 74, 3) := by decide +kernel
theorem dX1_begin_87 : decode cX1_begin 87 = .ok (.return_, 1) := by decide +kernel
theorem dX1_isJoined_0 : decode cX1_isJoined 0 = .ok (.aload_n 0, 1) := by decide +kernel
theorem dX1_isJoined_1 : decode cX1_isJoined 1 = .ok (.getfield 58, 3) := by decide +kernel
theorem dX1_isJoined_4 : decode cX1_isJoined 4 = .ok (.aload_n 0, 1) := by decide +kernel
theorem dX1_isJoined_5 : decode cX1_isJoined 5 = .ok (.getfield 25, 3) := by decide +kernel
theorem dX1_isJoined_8 : decode cX1_isJoined 8 = .ok (.if_icmp .eq 7, 3) := by decide +kernel
theorem dX1_isJoined_11 : decode cX1_isJoined 11 = .ok (.iconst 1, 1) := by decide +kernel
theorem dX1_isJoined_12 : decode cX1_isJoined 12 = .ok (.goto 4, 3) := by decide +kernel
theorem dX1_isJoined_15 : decode cX1_isJoined 15 = .ok (.iconst 0, 1) := by decide +kernel
theorem dX1_isJoined_16 : decode cX1_isJoined 16 = .ok (.ireturn, 1) := by decide +kernel
theorem dX1_moveTo_0 : decode cX1_moveTo 0 = .ok (.aload_n 0, 1) := by decide +kernel
theorem dX1_moveTo_1 : decode cX1_moveTo 1 = .ok (.getfield 64, 3) := by decide +kernel
theorem dX1_moveTo_4 : decode cX1_moveTo 4 = .ok (.iconst (-1), 1) := by decide +kernel
theorem dX1_moveTo_5 : decode cX1_moveTo 5 = .ok (.if_icmp .eq 23, 3) := by decide +kernel
theorem dX1_moveTo_8 : decode cX1_moveTo 8 = .ok (.aload_n 0, 1) := by decide +kernel
theorem dX1_moveTo_9 : decode cX1_moveTo 9 = .ok (.dup, 1) := by decide +kernel
theorem dX1_moveTo_10 : decode cX1_moveTo 10 = .ok (.getfield 67, 3) := by decide +kernel
theorem dX1_moveTo_13 : decode cX1_moveTo 13 = .ok (.iload_n 2, 1) := by decide +kernel
theorem dX1_moveTo_14 : decode cX1_moveTo 14 = .ok (.aload_n 0, 1) := by decide +kernel
theorem dX1_moveTo_15 : decode cX1_moveTo 15 = .ok (.getfield 64, 3) := by decide +kernel
theorem dX1_moveTo_18 : decode cX1_moveTo 18 = .ok (.isub, 1) := by decide +kernel
theorem dX1_moveTo_19 : decode cX1_moveTo 19 = .ok (.iadd, 1) := by decide +kernel
theorem dX1_moveTo_20 : decode cX1_moveTo 20 = .ok (.putfield 67, 3) := by decide +kernel
theorem dX1_moveTo_23 : decode cX1_moveTo 23 = .ok (.aload_n 0, 1) := by decide +kernel
theorem dX1_moveTo_24 : decode cX1_moveTo 24 = .ok (.iconst (-1), 1) := by decide +kernel
theorem dX1_moveTo_25 : decode cX1_moveTo 25 = .ok (.putfield 64, 3) := by decide +kernel
theorem dX1_moveTo_28 : decode cX1_moveTo 28 = .ok (.iload_n 1, 1) := by decide +kernel
theorem dX1_moveTo_29 : decode cX1_moveTo 29 = .ok (.bipush 97, 2) := by decide +kernel
theorem dX1_moveTo_31 : decode cX1_moveTo 31 = .ok (.if_icmp .ne 8, 3) := by decide +kernel
theorem dX1_moveTo_34 : decode cX1_moveTo 34 = .ok (.aload_n 0, 1) := by decide +kernel
theorem dX1_moveTo_35 : decode cX1_moveTo 35 = .ok (.iload_n 2, 1) := by decide +kernel
theorem dX1_moveTo_36 : decode cX1_moveTo 36 = .ok (.putfield 64, 3) := by decide +kernel
theorem dX1_moveTo_39 : decode cX1_moveTo 39 = .ok (.ldc 75, 2) := by decide +kernel
theorem dX1_moveTo_41 : decode cX1_moveTo 41 = .ok (.iload_n 1, 1) := by decide +kernel
theorem dX1_moveTo_42 : decode cX1_moveTo 42 = .ok (.invokevirtual 77, 3) := by decide +kernel
theorem dX1_moveTo_45 : decode cX1_moveTo 45 = .ok (.ifCond .lt 8, 3) := by decide +kernel
theorem dX1_moveTo_48 : decode cX1_moveTo 48 = .ok (.aload_n 0, 1) := by decide +kernel
theorem dX1_moveTo_49 : decode cX1_moveTo 49 = .ok (.iload_n 2, 1) := by decide +kernel
theorem dX1_moveTo_50 : decode cX1_moveTo 50 = .ok (.putfield 61, 3) := by decide +kernel
theorem dX1_moveTo_53 : decode cX1_moveTo 53 = .ok (.aload_n 0, 1) := by decide +kernel
theorem dX1_moveTo_54 : decode cX1_moveTo 54 = .ok (.iload_n 1, 1) := by decide +kernel
theorem dX1_moveTo_55 : decode cX1_moveTo 55 = .ok (.putfield 54, 3) := by decide +kernel
theorem dX1_moveTo_58 : decode cX1_moveTo 58 = .ok (.return_, 1) := by decide +kernel
theorem dX1_daysBy_0 : decode cX1_daysBy 0 = .ok (.aload_n 0, 1) := by decide +kernel
theorem dX1_daysBy_1 : decode cX1_daysBy 1 = .ok (.getfield 61, 3) := by decide +kernel
theorem dX1_daysBy_4 : decode cX1_daysBy 4 = .ok (.iconst (-1), 1) := by decide +kernel
theorem dX1_daysBy_5 : decode cX1_daysBy 5 = .ok (.if_icmp .ne 7, 3) := by decide +kernel
theorem dX1_daysBy_8 : decode cX1_daysBy 8 = .ok (.iload_n 1, 1) := by decide +kernel
theorem dX1_daysBy_9 : decode cX1_daysBy 9 = .ok (.goto 7, 3) := by decide +kernel
theorem dX1_daysBy_12 : decode cX1_daysBy 12 = .ok (.aload_n 0, 1) := by decide +kernel
theorem dX1_daysBy_13 : decode cX1_daysBy 13 = .ok (.getfield 61, 3) := by decide +kernel
theorem dX1_daysBy_16 : decode cX1_daysBy 16 = .ok (.istore_n 2, 1) := by decide +kernel
theorem dX1_daysBy_17 : decode cX1_daysBy 17 = .ok (.aload_n 0, 1) := by decide +kernel
theorem dX1_daysBy_18 : decode cX1_daysBy 18 = .ok (.getfield 64, 3) := by decide +kernel
theorem dX1_daysBy_21 : decode cX1_daysBy 21 = .ok (.iconst (-1), 1) := by decide +kernel
theorem dX1_daysBy_22 : decode cX1_daysBy 22 = .ok (.if_icmp .ne 7, 3) := by decide +kernel
theorem dX1_daysBy_25 : decode cX1_daysBy 25 = .ok (.iconst 0, 1) := by decide +kernel
theorem dX1_daysBy_26 : decode cX1_daysBy 26 = .ok (.goto 9, 3) := by decide +kernel
theorem dX1_daysBy_29 : decode cX1_daysBy 29 = .ok (.iload_n 2, 1) := by decide +kernel
theorem dX1_daysBy_30 : decode cX1_daysBy 30 = .ok (.aload_n 0, 1) := by decide +kernel
theorem dX1_daysBy_31 : decode cX1_daysBy 31 = .ok (.getfield 64, 3) := by decide +kernel
theorem dX1_daysBy_34 : decode cX1_daysBy 34 = .ok (.isub, 1) := by decide +kernel
theorem dX1_daysBy_35 : decode cX1_daysBy 35 = .ok (.istore_n 3, 1) := by decide +kernel
theorem dX1_daysBy_36 : decode cX1_daysBy 36 = .ok (.iload_n 2, 1) := by decide +kernel
theorem dX1_daysBy_37 : decode cX1_daysBy 37 = .ok (.aload_n 0, 1) := by decide +kernel
theorem dX1_daysBy_38 : decode cX1_daysBy 38 = .ok (.getfield 41, 3) := by decide +kernel
theorem dX1_daysBy_41 : decode cX1_daysBy 41 = .ok (.isub, 1) := by decide +kernel
theorem dX1_daysBy_42 : decode cX1_daysBy 42 = .ok (.aload_n 0, 1) := by decide +kernel
theorem dX1_daysBy_43 : decode cX1_daysBy 43 = .ok (.getfield 67, 3) := by decide +kernel
theorem dX1_daysBy_46 : decode cX1_daysBy 46 = .ok (.isub, 1) := by decide +kernel
theorem dX1_daysBy_47 : decode cX1_daysBy 47 = .ok (.iload_n 3, 1) := by decide +kernel
theorem dX1_daysBy_48 : decode cX1_daysBy 48 = .ok (.isub, 1) := by decide +kernel
theorem dX1_daysBy_49 : decode cX1_daysBy 49 = .ok (.ireturn, 1) := by decide +kernel
theorem dX1_matches_0 : decode cX1_matches 0 = .ok (.aload_n 0, 1) := by decide +kernel
theorem dX1_matches_1 : decode cX1_matches 1 = .ok (.aload_n 1, 1) := by decide +kernel
theorem dX1_matches_2 : decode cX1_matches 2 = .ok (.invokevirtual 83, 3) := by decide +kernel
theorem dX1_matches_5 : decode cX1_matches 5 = .ok (.ifCond .eq 90, 3) := by decide +kernel
theorem dX1_matches_8 : decode cX1_matches 8 = .ok (.aload_n 0, 1) := by decide +kernel
theorem dX1_matches_9 : decode cX1_matches 9 = .ok (.getfield 54, 3) := by decide +kernel
theorem dX1_matches_12 : decode cX1_matches 12 = .ok (.aload_n 1, 1) := by decide +kernel
theorem dX1_matches_13 : decode cX1_matches 13 = .ok (.getfield 54, 3) := by decide +kernel
theorem dX1_matches_16 : decode cX1_matches 16 = .ok (.if_icmp .ne 79, 3) := by decide +kernel
theorem dX1_matches_19 : decode cX1_matches 19 = .ok (.aload_n 0, 1) := by decide +kernel
theorem dX1_matches_20 : decode cX1_matches 20 = .ok (.getfield 58, 3) := by decide +kernel
theorem dX1_matches_23 : decode cX1_matches 23 = .ok (.aload_n 1, 1) := by decide +kernel
theorem dX1_matches_24 : decode cX1_matches 24 = .ok (.getfield 58, 3) := by decide +kernel
theorem dX1_matches_27 : decode cX1_matches 27 = .ok (.if_icmp .ne 68, 3) := by decide +kernel
theorem dX1_matches_30 : decode cX1_matches 30 = .ok (.aload_n 0, 1) := by decide +kernel
theorem dX1_matches_31 : decode cX1_matches 31 = .ok (.getfield 61, 3) := by decide +kernel
theorem dX1_matches_34 : decode cX1_matches 34 = .ok (.aload_n 1, 1) := by decide +kernel
theorem dX1_matches_35 : decode cX1_matches 35 = .ok (.getfield 61, 3) := by decide +kernel
theorem dX1_matches_38 : decode cX1_matches 38 = .ok (.if_icmp .ne 57, 3) := by decide +kernel
theorem dX1_matches_41 : decode cX1_matches 41 = .ok (.aload_n 0, 1) := by decide +kernel
theorem dX1_matches_42 : decode cX1_matches 42 = .ok (.getfield 64, 3) := by decide +kernel
theorem dX1_matches_45 : decode cX1_matches 45 = .ok (.aload_n 1, 1) := by decide +kernel
theorem dX1_matches_46 : decode cX1_matches 46 = .ok (.getfield 64, 3) := by decide +kernel
theorem dX1_matches_49 : decode cX1_matches 49 = .ok (.if_icmp .ne 46, 3) := by decide +kernel
theorem dX1_matches_52 : decode cX1_matches 52 = .ok (.aload_n 0, 1) := by decide +kernel
theorem dX1_matches_53 : decode cX1_matches 53 = .ok (.getfield 67, 3) := by decide +kernel
theorem dX1_matches_56 : decode cX1_matches 56 = .ok (.aload_n 1, 1) := by decide +kernel
theorem dX1_matches_57 : decode cX1_matches 57 = .ok (.getfield 67, 3) := by decide +kernel
theorem dX1_matches_60 : decode cX1_matches 60 = .ok (.if_icmp .ne 35, 3) := by decide +kernel
theorem dX1_matches_63 : decode cX1_matches 63 = .ok (.aload_n 0, 1) := by decide +kernel
theorem dX1_matches_64 : decode cX1_matches 64 = .ok (.getfield 12, 3) := by decide +kernel
theorem dX1_matches_67 : decode cX1_matches 67 = .ok (.aload_n 1, 1) := by decide +kernel
theorem dX1_matches_68 : decode cX1_matches 68 = .ok (.getfield 12, 3) := by decide +kernel
theorem dX1_matches_71 : decode cX1_matches 71 = .ok (.invokevirtual 87, 3) := by decide +kernel
theorem dX1_matches_74 : decode cX1_matches 74 = .ok (.ifCond .eq 21, 3) := by decide +kernel
theorem dX1_matches_77 : decode cX1_matches 77 = .ok (.aload_n 0, 1) := by decide +kernel
theorem dX1_matches_78 : decode cX1_matches 78 = .ok (.getfield 21, 3) := by decide +kernel
theorem dX1_matches_81 : decode cX1_matches 81 = .ok (.aload_n 1, 1) := by decide +kernel
theorem dX1_matches_82 : decode cX1_matches 82 = .ok (.getfield 21, 3) := by decide +kernel
theorem dX1_matches_85 : decode cX1_matches 85 = .ok (.invokevirtual 91, 3) := by decide +kernel
theorem dX1_matches_88 : decode cX1_matches 88 = .ok (.ifCond .eq 7, 3) := by decide +kernel
theorem dX1_matches_91 : decode cX1_matches 91 = .ok (.iconst 1, 1) := by decide +kernel
theorem dX1_matches_92 : decode cX1_matches 92 = .ok (.goto 4, 3) := by decide +kernel
theorem dX1_matches_95 : decode cX1_matches 95 = .ok (.iconst 0, 1) := by decide +kernel
theorem dX1_matches_96 : decode cX1_matches 96 = .ok (.ireturn, 1) := by decide +kernel
theorem dX1_matchesAsTold_0 : decode cX1_matchesAsTold 0 = .ok (.aload_n 0, 1) := by decide +kernel
theorem dX1_matchesAsTold_1 : decode cX1_matchesAsTold 1 = .ok (.getfield 29, 3) := by decide +kernel
theorem dX1_matchesAsTold_4 : decode cX1_matchesAsTold 4 = .ok (.aload_n 1, 1) := by decide +kernel
theorem dX1_matchesAsTold_5 : decode cX1_matchesAsTold 5 = .ok (.getfield 29, 3) := by decide +kernel
theorem dX1_matchesAsTold_8 : decode cX1_matchesAsTold 8 = .ok (.if_icmp .ne 84, 3) := by decide +kernel
theorem dX1_matchesAsTold_11 : decode cX1_matchesAsTold 11 = .ok (.aload_n 0, 1) := by decide +kernel
theorem dX1_matchesAsTold_12 : decode cX1_matchesAsTold 12 = .ok (.getfield 32, 3) := by decide +kernel
theorem dX1_matchesAsTold_15 : decode cX1_matchesAsTold 15 = .ok (.aload_n 1, 1) := by decide +kernel
theorem dX1_matchesAsTold_16 : decode cX1_matchesAsTold 16 = .ok (.getfield 32, 3) := by decide +kernel
theorem dX1_matchesAsTold_19 : decode cX1_matchesAsTold 19 = .ok (.if_icmp .ne 73, 3) := by decide +kernel
theorem dX1_matchesAsTold_22 : decode cX1_matchesAsTold 22 = .ok (.aload_n 0, 1) := by decide +kernel
theorem dX1_matchesAsTold_23 : decode cX1_matchesAsTold 23 = .ok (.getfield 35, 3) := by decide +kernel
theorem dX1_matchesAsTold_26 : decode cX1_matchesAsTold 26 = .ok (.aload_n 1, 1) := by decide +kernel
theorem dX1_matchesAsTold_27 : decode cX1_matchesAsTold 27 = .ok (.getfield 35, 3) := by decide +kernel
theorem dX1_matchesAsTold_30 : decode cX1_matchesAsTold 30 = .ok (.if_icmp .ne 62, 3) := by decide +kernel
theorem dX1_matchesAsTold_33 : decode cX1_matchesAsTold 33 = .ok (.aload_n 0, 1) := by decide +kernel
theorem dX1_matchesAsTold_34 : decode cX1_matchesAsTold 34 = .ok (.getfield 38, 3) := by decide +kernel
theorem dX1_matchesAsTold_37 : decode cX1_matchesAsTold 37 = .ok (.aload_n 1, 1) := by decide +kernel
theorem dX1_matchesAsTold_38 : decode cX1_matchesAsTold 38 = .ok (.getfield 38, 3) := by decide +kernel
theorem dX1_matchesAsTold_41 : decode cX1_matchesAsTold 41 = .ok (.if_icmp .ne 51, 3) := by decide +kernel
theorem dX1_matchesAsTold_44 : decode cX1_matchesAsTold 44 = .ok (.aload_n 0, 1) := by decide +kernel
theorem dX1_matchesAsTold_45 : decode cX1_matchesAsTold 45 = .ok (.getfield 41, 3) := by decide +kernel
theorem dX1_matchesAsTold_48 : decode cX1_matchesAsTold 48 = .ok (.aload_n 1, 1) := by decide +kernel
theorem dX1_matchesAsTold_49 : decode cX1_matchesAsTold 49 = .ok (.getfield 41, 3) := by decide +kernel
theorem dX1_matchesAsTold_52 : decode cX1_matchesAsTold 52 = .ok (.if_icmp .ne 40, 3) := by decide +kernel
theorem dX1_matchesAsTold_55 : decode cX1_matchesAsTold 55 = .ok (.aload_n 0, 1) := by decide +kernel
theorem dX1_matchesAsTold_56 : decode cX1_matchesAsTold 56 = .ok (.getfield 44, 3) := by decide +kernel
theorem dX1_matchesAsTold_59 : decode cX1_matchesAsTold 59 = .ok (.aload_n 1, 1) := by decide +kernel
theorem dX1_matchesAsTold_60 : decode cX1_matchesAsTold 60 = .ok (.getfield 44, 3) := by decide +kernel
theorem dX1_matchesAsTold_63 : decode cX1_matchesAsTold 63 = .ok (.if_icmp .ne 29, 3) := by decide +kernel
theorem dX1_matchesAsTold_66 : decode cX1_matchesAsTold 66 = .ok (.aload_n 0, 1) := by decide +kernel
theorem dX1_matchesAsTold_67 : decode cX1_matchesAsTold 67 = .ok (.getfield 48, 3) := by decide +kernel
theorem dX1_matchesAsTold_70 : decode cX1_matchesAsTold 70 = .ok (.aload_n 1, 1) := by decide +kernel
theorem dX1_matchesAsTold_71 : decode cX1_matchesAsTold 71 = .ok (.getfield 48, 3) := by decide +kernel
theorem dX1_matchesAsTold_74 : decode cX1_matchesAsTold 74 = .ok (.if_icmp .ne 18, 3) := by decide +kernel
theorem dX1_matchesAsTold_77 : decode cX1_matchesAsTold 77 = .ok (.aload_n 0, 1) := by decide +kernel
theorem dX1_matchesAsTold_78 : decode cX1_matchesAsTold 78 = .ok (.getfield 51, 3) := by decide +kernel
theorem dX1_matchesAsTold_81 : decode cX1_matchesAsTold 81 = .ok (.aload_n 1, 1) := by decide +kernel
theorem dX1_matchesAsTold_82 : decode cX1_matchesAsTold 82 = .ok (.getfield 51, 3) := by decide +kernel
theorem dX1_matchesAsTold_85 : decode cX1_matchesAsTold 85 = .ok (.if_icmp .ne 7, 3) := by decide +kernel
theorem dX1_matchesAsTold_88 : decode cX1_matchesAsTold 88 = .ok (.iconst 1, 1) := by decide +kernel
theorem dX1_matchesAsTold_89 : decode cX1_matchesAsTold 89 = .ok (.goto 4, 3) := by decide +kernel
theorem dX1_matchesAsTold_92 : decode cX1_matchesAsTold 92 = .ok (.iconst 0, 1) := by decide +kernel
theorem dX1_matchesAsTold_93 : decode cX1_matchesAsTold 93 = .ok (.ireturn, 1) := by decide +kernel
theorem dX2_init_0 : decode cX2_init 0 = .ok (.aload_n 0, 1) := by decide +kernel
theorem dX2_init_1 : decode cX2_init 1 = .ok (.invokespecial 3, 3) := by decide +kernel
theorem dX2_init_4 : decode cX2_init 4 = .ok (.aload_n 0, 1) := by decide +kernel
theorem dX2_init_5 : decode cX2_init 5 = .ok (.sipush 2560, 3) := by decide +kernel
theorem dX2_init_8 : decode cX2_init 8 = .ok (.newarray .int, 2) := by decide +kernel
theorem dX2_init_10 : decode cX2_init 10 = .ok (.putfield 11, 3) := by decide +kernel
theorem dX2_init_13 : decode cX2_init 13 = .ok (.return_, 1) := by decide +kernel
theorem dX2_keep_0 : decode cX2_keep 0 = .ok (.aload_n 0, 1) := by decide +kernel
theorem dX2_keep_1 : decode cX2_keep 1 = .ok (.getfield 15, 3) := by decide +kernel
theorem dX2_keep_4 : decode cX2_keep 4 = .ok (.sipush 512, 3) := by decide +kernel
theorem dX2_keep_7 : decode cX2_keep 7 = .ok (.if_icmp .lt 4, 3) := by decide +kernel
theorem dX2_keep_10 : decode cX2_keep 10 = .ok (.return_, 1) := by decide +kernel
theorem dX2_keep_11 : decode cX2_keep 11 = .ok (.aload_n 0, 1) := by decide +kernel
theorem dX2_keep_12 : decode cX2_keep 12 = .ok (.getfield 15, 3) := by decide +kernel
theorem dX2_keep_15 : decode cX2_keep 15 = .ok (.iconst 5, 1) := by decide +kernel
theorem dX2_keep_16 : decode cX2_keep 16 = .ok (.imul, 1) := by decide +kernel
theorem dX2_keep_17 : decode cX2_keep 17 = .ok (.istore 6, 2) := by decide +kernel
theorem dX2_keep_19 : decode cX2_keep 19 = .ok (.aload_n 0, 1) := by decide +kernel
theorem dX2_keep_20 : decode cX2_keep 20 = .ok (.getfield 11, 3) := by decide +kernel
theorem dX2_keep_23 : decode cX2_keep 23 = .ok (.iload 6, 2) := by decide +kernel
theorem dX2_keep_25 : decode cX2_keep 25 = .ok (.iload_n 1, 1) := by decide +kernel
theorem dX2_keep_26 : decode cX2_keep 26 = .ok (.iastore, 1) := by decide +kernel
theorem dX2_keep_27 : decode cX2_keep 27 = .ok (.aload_n 0, 1) := by decide +kernel
theorem dX2_keep_28 : decode cX2_keep 28 = .ok (.getfield 11, 3) := by decide +kernel
theorem dX2_keep_31 : decode cX2_keep 31 = .ok (.iload 6, 2) := by decide +kernel
theorem dX2_keep_33 : decode cX2_keep 33 = .ok (.iconst 1, 1) := by decide +kernel
theorem dX2_keep_34 : decode cX2_keep 34 = .ok (.iadd, 1) := by decide +kernel
theorem dX2_keep_35 : decode cX2_keep 35 = .ok (.iload_n 2, 1) := by decide +kernel
theorem dX2_keep_36 : decode cX2_keep 36 = .ok (.iastore, 1) := by decide +kernel
theorem dX2_keep_37 : decode cX2_keep 37 = .ok (.aload_n 0, 1) := by decide +kernel
theorem dX2_keep_38 : decode cX2_keep 38 = .ok (.getfield 11, 3) := by decide +kernel
theorem dX2_keep_41 : decode cX2_keep 41 = .ok (.iload 6, 2) := by decide +kernel
theorem dX2_keep_43 : decode cX2_keep 43 = .ok (.iconst 2, 1) := by decide +kernel
theorem dX2_keep_44 : decode cX2_keep 44 = .ok (.iadd, 1) := by decide +kernel
theorem dX2_keep_45 : decode cX2_keep 45 = .ok (.iload_n 3, 1) := by decide +kernel
theorem dX2_keep_46 : decode cX2_keep 46 = .ok (.iastore, 1) := by decide +kernel
theorem dX2_keep_47 : decode cX2_keep 47 = .ok (.aload_n 0, 1) := by decide +kernel
theorem dX2_keep_48 : decode cX2_keep 48 = .ok (.getfield 11, 3) := by decide +kernel
theorem dX2_keep_51 : decode cX2_keep 51 = .ok (.iload 6, 2) := by decide +kernel
theorem dX2_keep_53 : decode cX2_keep 53 = .ok (.iconst 3, 1) := by decide +kernel
theorem dX2_keep_54 : decode cX2_keep 54 = .ok (.iadd, 1) := by decide +kernel
theorem dX2_keep_55 : decode cX2_keep 55 = .ok (.iload 4, 2) := by decide +kernel
theorem dX2_keep_57 : decode cX2_keep 57 = .ok (.iastore, 1) := by decide +kernel
theorem dX2_keep_58 : decode cX2_keep 58 = .ok (.aload_n 0, 1) := by decide +kernel
theorem dX2_keep_59 : decode cX2_keep 59 = .ok (.getfield 11, 3) := by decide +kernel
theorem dX2_keep_62 : decode cX2_keep 62 = .ok (.iload 6, 2) := by decide +kernel
theorem dX2_keep_64 : decode cX2_keep 64 = .ok (.iconst 4, 1) := by decide +kernel
theorem dX2_keep_65 : decode cX2_keep 65 = .ok (.iadd, 1) := by decide +kernel
theorem dX2_keep_66 : decode cX2_keep 66 = .ok (.iload 5, 2) := by decide +kernel
theorem dX2_keep_68 : decode cX2_keep 68 = .ok (.iastore, 1) := by decide +kernel
theorem dX2_keep_69 : decode cX2_keep 69 = .ok (.aload_n 0, 1) := by decide +kernel
theorem dX2_keep_70 : decode cX2_keep 70 = .ok (.dup, 1) := by decide +kernel
theorem dX2_keep_71 : decode cX2_keep 71 = .ok (.getfield 15, 3) := by decide +kernel
theorem dX2_keep_74 : decode cX2_keep 74 = .ok (.iconst 1, 1) := by decide +kernel
theorem dX2_keep_75 : decode cX2_keep 75 = .ok (.iadd, 1) := by decide +kernel
theorem dX2_keep_76 : decode cX2_keep 76 = .ok (.putfield 15, 3) := by decide +kernel
theorem dX2_keep_79 : decode cX2_keep 79 = .ok (.return_, 1) := by decide +kernel
theorem dX2_tellAgain_0 : decode cX2_tellAgain 0 = .ok (.aload_n 1, 1) := by decide +kernel
theorem dX2_tellAgain_1 : decode cX2_tellAgain 1 = .ok (.invokevirtual 19, 3) := by decide +kernel
theorem dX2_tellAgain_4 : decode cX2_tellAgain 4 = .ok (.iconst 0, 1) := by decide +kernel
theorem dX2_tellAgain_5 : decode cX2_tellAgain 5 = .ok (.istore_n 2, 1) := by decide +kernel
theorem dX2_tellAgain_6 : decode cX2_tellAgain 6 = .ok (.iload_n 2, 1) := by decide +kernel
theorem dX2_tellAgain_7 : decode cX2_tellAgain 7 = .ok (.aload_n 0, 1) := by decide +kernel
theorem dX2_tellAgain_8 : decode cX2_tellAgain 8 = .ok (.getfield 15, 3) := by decide +kernel
theorem dX2_tellAgain_11 : decode cX2_tellAgain 11 = .ok (.if_icmp .ge 56, 3) := by decide +kernel
theorem dX2_tellAgain_14 : decode cX2_tellAgain 14 = .ok (.iload_n 2, 1) := by decide +kernel
theorem dX2_tellAgain_15 : decode cX2_tellAgain 15 = .ok (.iconst 5, 1) := by decide +kernel
theorem dX2_tellAgain_16 : decode cX2_tellAgain 16 = .ok (.imul, 1) := by decide +kernel
theorem dX2_tellAgain_17 : decode cX2_tellAgain 17 = .ok (.istore_n 3, 1) := by decide +kernel
theorem dX2_tellAgain_18 : decode cX2_tellAgain 18 = .ok (.aload_n 1, 1) := by decide +kernel
theorem dX2_tellAgain_19 : decode cX2_tellAgain 19 = .ok (.aload_n 0, 1) := by decide +kernel
theorem dX2_tellAgain_20 : decode cX2_tellAgain 20 = .ok (.getfield 11, 3) := by decide +kernel
theorem dX2_tellAgain_23 : decode cX2_tellAgain 23 = .ok (.iload_n 3, 1) := by decide +kernel
theorem dX2_tellAgain_24 : decode cX2_tellAgain 24 = .ok (.iaload, 1) := by decide +kernel
theorem dX2_tellAgain_25 : decode cX2_tellAgain 25 = .ok (.aload_n 0, 1) := by decide +kernel
theorem dX2_tellAgain_26 : decode cX2_tellAgain 26 = .ok (.getfield 11, 3) := by decide +kernel
theorem dX2_tellAgain_29 : decode cX2_tellAgain 29 = .ok (.iload_n 3, 1) := by decide +kernel
theorem dX2_tellAgain_30 : decode cX2_tellAgain 30 = .ok (.iconst 1, 1) := by decide +kernel
theorem dX2_tellAgain_31 : decode cX2_tellAgain 31 = .ok (.iadd, 1) := by decide +kernel
theorem dX2_tellAgain_32 : decode cX2_tellAgain 32 = .ok (.iaload, 1) := by decide +kernel
theorem dX2_tellAgain_33 : decode cX2_tellAgain 33 = .ok (.aload_n 0, 1) := by decide +kernel
theorem dX2_tellAgain_34 : decode cX2_tellAgain 34 = .ok (.getfield 11, 3) := by decide +kernel
theorem dX2_tellAgain_37 : decode cX2_tellAgain 37 = .ok (.iload_n 3, 1) := by decide +kernel
theorem dX2_tellAgain_38 : decode cX2_tellAgain 38 = .ok (.iconst 2, 1) := by decide +kernel
theorem dX2_tellAgain_39 : decode cX2_tellAgain 39 = .ok (.iadd, 1) := by decide +kernel
theorem dX2_tellAgain_40 : decode cX2_tellAgain 40 = .ok (.iaload, 1) := by decide +kernel
theorem dX2_tellAgain_41 : decode cX2_tellAgain 41 = .ok (.aload_n 0, 1) := by decide +kernel
theorem dX2_tellAgain_42 : decode cX2_tellAgain 42 = .ok (.getfield 11, 3) := by decide +kernel
theorem dX2_tellAgain_45 : decode cX2_tellAgain 45 = .ok (.iload_n 3, 1) := by decide +kernel
theorem dX2_tellAgain_46 : decode cX2_tellAgain 46 = .ok (.iconst 3, 1) := by decide +kernel
theorem dX2_tellAgain_47 : decode cX2_tellAgain 47 = .ok (.iadd, 1) := by decide +kernel
theorem dX2_tellAgain_48 : decode cX2_tellAgain 48 = .ok (.iaload, 1) := by decide +kernel
theorem dX2_tellAgain_49 : decode cX2_tellAgain 49 = .ok (.aload_n 0, 1) := by decide +kernel
theorem dX2_tellAgain_50 : decode cX2_tellAgain 50 = .ok (.getfield 11, 3) := by decide +kernel
theorem dX2_tellAgain_53 : decode cX2_tellAgain 53 = .ok (.iload_n 3, 1) := by decide +kernel
theorem dX2_tellAgain_54 : decode cX2_tellAgain 54 = .ok (.iconst 4, 1) := by decide +kernel
theorem dX2_tellAgain_55 : decode cX2_tellAgain 55 = .ok (.iadd, 1) := by decide +kernel
theorem dX2_tellAgain_56 : decode cX2_tellAgain 56 = .ok (.iaload, 1) := by decide +kernel
theorem dX2_tellAgain_57 : decode cX2_tellAgain 57 = .ok (.invokevirtual 24, 3) := by decide +kernel
theorem dX2_tellAgain_60 : decode cX2_tellAgain 60 = .ok (.pop, 1) := by decide +kernel
theorem dX2_tellAgain_61 : decode cX2_tellAgain 61 = .ok (.iinc 2 1, 3) := by decide +kernel
theorem dX2_tellAgain_64 : decode cX2_tellAgain 64 = .ok (.goto (-58), 3) := by decide +kernel
theorem dX2_tellAgain_67 : decode cX2_tellAgain 67 = .ok (.return_, 1) := by decide +kernel
theorem dX3_init_0 : decode cX3_init 0 = .ok (.aload_n 0, 1) := by decide +kernel
theorem dX3_init_1 : decode cX3_init 1 = .ok (.invokespecial 3, 3) := by decide +kernel
theorem dX3_init_4 : decode cX3_init 4 = .ok (.return_, 1) := by decide +kernel
theorem dX3_begin_0 : decode cX3_begin 0 = .ok (.aload_n 0, 1) := by decide +kernel
theorem dX3_begin_1 : decode cX3_begin 1 = .ok (.iload_n 1, 1) := by decide +kernel
theorem dX3_begin_2 : decode cX3_begin 2 = .ok (.putfield 9, 3) := by decide +kernel
theorem dX3_begin_5 : decode cX3_begin 5 = .ok (.aload_n 0, 1) := by decide +kernel
theorem dX3_begin_6 : decode cX3_begin 6 = .ok (.iconst 0, 1) := by decide +kernel
theorem dX3_begin_7 : decode cX3_begin 7 = .ok (.putfield 15, 3) := by decide +kernel
theorem dX3_begin_10 : decode cX3_begin 10 = .ok (.aload_n 0, 1) := by decide +kernel
theorem dX3_begin_11 : decode cX3_begin 11 = .ok (.iconst (-1), 1) := by decide +kernel
theorem dX3_begin_12 : decode cX3_begin 12 = .ok (.putfield 18, 3) := by decide +kernel
theorem dX3_begin_15 : decode cX3_begin 15 = .ok (.aload_n 0, 1) := by decide +kernel
theorem dX3_begin_16 : decode cX3_begin 16 = .ok (.iconst 0, 1) := by decide +kernel
theorem dX3_begin_17 : decode cX3_begin 17 = .ok (.putfield 21, 3) := by decide +kernel
theorem dX3_begin_20 : decode cX3_begin 20 = .ok (.aload_n 0, 1) := by decide +kernel
theorem dX3_begin_21 : decode cX3_begin 21 = .ok (.iconst 0, 1) := by decide +kernel
theorem dX3_begin_22 : decode cX3_begin 22 = .ok (.putfield 25, 3) := by decide +kernel
theorem dX3_begin_25 : decode cX3_begin 25 = .ok (.aload_n 0, 1) := by decide +kernel
theorem dX3_begin_26 : decode cX3_begin 26 = .ok (.iconst 0, 1) := by decide +kernel
theorem dX3_begin_27 : decode cX3_begin 27 = .ok (.putfield 28, 3) := by decide +kernel
theorem dX3_begin_30 : decode cX3_begin 30 = .ok (.return_, 1) := by decide +kernel
theorem dX3_isTold_0 : decode cX3_isTold 0 = .ok (.aload_n 0, 1) := by decide +kernel
theorem dX3_isTold_1 : decode cX3_isTold 1 = .ok (.getfield 9, 3) := by decide +kernel
theorem dX3_isTold_4 : decode cX3_isTold 4 = .ok (.iconst (-1), 1) := by decide +kernel
theorem dX3_isTold_5 : decode cX3_isTold 5 = .ok (.if_icmp .eq 7, 3) := by decide +kernel
theorem dX3_isTold_8 : decode cX3_isTold 8 = .ok (.iconst 1, 1) := by decide +kernel
theorem dX3_isTold_9 : decode cX3_isTold 9 = .ok (.goto 4, 3) := by decide +kernel
theorem dX3_isTold_12 : decode cX3_isTold 12 = .ok (.iconst 0, 1) := by decide +kernel
theorem dX3_isTold_13 : decode cX3_isTold 13 = .ok (.ireturn, 1) := by decide +kernel
theorem dX3_recommend_0 : decode cX3_recommend 0 = .ok (.aload_n 0, 1) := by decide +kernel
theorem dX3_recommend_1 : decode cX3_recommend 1 = .ok (.iload_n 1, 1) := by decide +kernel
theorem dX3_recommend_2 : decode cX3_recommend 2 = .ok (.putfield 15, 3) := by decide +kernel
theorem dX3_recommend_5 : decode cX3_recommend 5 = .ok (.aload_n 0, 1) := by decide +kernel
theorem dX3_recommend_6 : decode cX3_recommend 6 = .ok (.iload_n 2, 1) := by decide +kernel
theorem dX3_recommend_7 : decode cX3_recommend 7 = .ok (.bipush 30, 2) := by decide +kernel
theorem dX3_recommend_9 : decode cX3_recommend 9 = .ok (.iload_n 1, 1) := by decide +kernel
theorem dX3_recommend_10 : decode cX3_recommend 10 = .ok (.imul, 1) := by decide +kernel
theorem dX3_recommend_11 : decode cX3_recommend 11 = .ok (.iadd, 1) := by decide +kernel
theorem dX3_recommend_12 : decode cX3_recommend 12 = .ok (.putfield 18, 3) := by decide +kernel
theorem dX3_recommend_15 : decode cX3_recommend 15 = .ok (.aload_n 0, 1) := by decide +kernel
theorem dX3_recommend_16 : decode cX3_recommend 16 = .ok (.iconst 0, 1) := by decide +kernel
theorem dX3_recommend_17 : decode cX3_recommend 17 = .ok (.putfield 25, 3) := by decide +kernel
theorem dX3_recommend_20 : decode cX3_recommend 20 = .ok (.aload_n 0, 1) := by decide +kernel
theorem dX3_recommend_21 : decode cX3_recommend 21 = .ok (.iconst 0, 1) := by decide +kernel
theorem dX3_recommend_22 : decode cX3_recommend 22 = .ok (.putfield 28, 3) := by decide +kernel
theorem dX3_recommend_25 : decode cX3_recommend 25 = .ok (.return_, 1) := by decide +kernel
theorem dX3_matches_0 : decode cX3_matches 0 = .ok (.aload_n 0, 1) := by decide +kernel
theorem dX3_matches_1 : decode cX3_matches 1 = .ok (.getfield 9, 3) := by decide +kernel
theorem dX3_matches_4 : decode cX3_matches 4 = .ok (.aload_n 1, 1) := by decide +kernel
theorem dX3_matches_5 : decode cX3_matches 5 = .ok (.getfield 9, 3) := by decide +kernel
theorem dX3_matches_8 : decode cX3_matches 8 = .ok (.if_icmp .ne 62, 3) := by decide +kernel
theorem dX3_matches_11 : decode cX3_matches 11 = .ok (.aload_n 0, 1) := by decide +kernel
theorem dX3_matches_12 : decode cX3_matches 12 = .ok (.getfield 15, 3) := by decide +kernel
theorem dX3_matches_15 : decode cX3_matches 15 = .ok (.aload_n 1, 1) := by decide +kernel
theorem dX3_matches_16 : decode cX3_matches 16 = .ok (.getfield 15, 3) := by decide +kernel
theorem dX3_matches_19 : decode cX3_matches 19 = .ok (.if_icmp .ne 51, 3) := by decide +kernel
theorem dX3_matches_22 : decode cX3_matches 22 = .ok (.aload_n 0, 1) := by decide +kernel
theorem dX3_matches_23 : decode cX3_matches 23 = .ok (.getfield 18, 3) := by decide +kernel
theorem dX3_matches_26 : decode cX3_matches 26 = .ok (.aload_n 1, 1) := by decide +kernel
theorem dX3_matches_27 : decode cX3_matches 27 = .ok (.getfield 18, 3) := by decide +kernel
theorem dX3_matches_30 : decode cX3_matches 30 = .ok (.if_icmp .ne 40, 3) := by decide +kernel
theorem dX3_matches_33 : decode cX3_matches 33 = .ok (.aload_n 0, 1) := by decide +kernel
theorem dX3_matches_34 : decode cX3_matches 34 = .ok (.getfield 21, 3) := by decide +kernel
theorem dX3_matches_37 : decode cX3_matches 37 = .ok (.aload_n 1, 1) := by decide +kernel
theorem dX3_matches_38 : decode cX3_matches 38 = .ok (.getfield 21, 3) := by decide +kernel
theorem dX3_matches_41 : decode cX3_matches 41 = .ok (.if_icmp .ne 29, 3) := by decide +kernel
theorem dX3_matches_44 : decode cX3_matches 44 = .ok (.aload_n 0, 1) := by decide +kernel
theorem dX3_matches_45 : decode cX3_matches 45 = .ok (.getfield 25, 3) := by decide +kernel
theorem dX3_matches_48 : decode cX3_matches 48 = .ok (.aload_n 1, 1) := by decide +kernel
theorem dX3_matches_49 : decode cX3_matches 49 = .ok (.getfield 25, 3) := by decide +kernel
theorem dX3_matches_52 : decode cX3_matches 52 = .ok (.if_icmp .ne 18, 3) := by decide +kernel
theorem dX3_matches_55 : decode cX3_matches 55 = .ok (.aload_n 0, 1) := by decide +kernel
theorem dX3_matches_56 : decode cX3_matches 56 = .ok (.getfield 28, 3) := by decide +kernel
theorem dX3_matches_59 : decode cX3_matches 59 = .ok (.aload_n 1, 1) := by decide +kernel
theorem dX3_matches_60 : decode cX3_matches 60 = .ok (.getfield 28, 3) := by decide +kernel
theorem dX3_matches_63 : decode cX3_matches 63 = .ok (.if_icmp .ne 7, 3) := by decide +kernel
theorem dX3_matches_66 : decode cX3_matches 66 = .ok (.iconst 1, 1) := by decide +kernel
theorem dX3_matches_67 : decode cX3_matches 67 = .ok (.goto 4, 3) := by decide +kernel
theorem dX3_matches_70 : decode cX3_matches 70 = .ok (.iconst 0, 1) := by decide +kernel
theorem dX3_matches_71 : decode cX3_matches 71 = .ok (.ireturn, 1) := by decide +kernel
theorem dX4_init_0 : decode cX4_init 0 = .ok (.aload_n 0, 1) := by decide +kernel
theorem dX4_init_1 : decode cX4_init 1 = .ok (.invokespecial 1, 3) := by decide +kernel
theorem dX4_init_4 : decode cX4_init 4 = .ok (.return_, 1) := by decide +kernel
theorem dX4_begin_0 : decode cX4_begin 0 = .ok (.aload_n 0, 1) := by decide +kernel
theorem dX4_begin_1 : decode cX4_begin 1 = .ok (.iload_n 1, 1) := by decide +kernel
theorem dX4_begin_2 : decode cX4_begin 2 = .ok (.putfield 7, 3) := by decide +kernel
theorem dX4_begin_5 : decode cX4_begin 5 = .ok (.aload_n 0, 1) := by decide +kernel
theorem dX4_begin_6 : decode cX4_begin 6 = .ok (.iconst 0, 1) := by decide +kernel
theorem dX4_begin_7 : decode cX4_begin 7 = .ok (.putfield 13, 3) := by decide +kernel
theorem dX4_begin_10 : decode cX4_begin 10 = .ok (.aload_n 0, 1) := by decide +kernel
theorem dX4_begin_11 : decode cX4_begin 11 = .ok (.iconst 0, 1) := by decide +kernel
theorem dX4_begin_12 : decode cX4_begin 12 = .ok (.putfield 17, 3) := by decide +kernel
theorem dX4_begin_15 : decode cX4_begin 15 = .ok (.aload_n 0, 1) := by decide +kernel
theorem dX4_begin_16 : decode cX4_begin 16 = .ok (.iconst 0, 1) := by decide +kernel
theorem dX4_begin_17 : decode cX4_begin 17 = .ok (.putfield 20, 3) := by decide +kernel
theorem dX4_begin_20 : decode cX4_begin 20 = .ok (.return_, 1) := by decide +kernel
theorem dX4_matches_0 : decode cX4_matches 0 = .ok (.aload_n 0, 1) := by decide +kernel
theorem dX4_matches_1 : decode cX4_matches 1 = .ok (.getfield 7, 3) := by decide +kernel
theorem dX4_matches_4 : decode cX4_matches 4 = .ok (.aload_n 1, 1) := by decide +kernel
theorem dX4_matches_5 : decode cX4_matches 5 = .ok (.getfield 7, 3) := by decide +kernel
theorem dX4_matches_8 : decode cX4_matches 8 = .ok (.if_icmp .ne 40, 3) := by decide +kernel
theorem dX4_matches_11 : decode cX4_matches 11 = .ok (.aload_n 0, 1) := by decide +kernel
theorem dX4_matches_12 : decode cX4_matches 12 = .ok (.getfield 13, 3) := by decide +kernel
theorem dX4_matches_15 : decode cX4_matches 15 = .ok (.aload_n 1, 1) := by decide +kernel
theorem dX4_matches_16 : decode cX4_matches 16 = .ok (.getfield 13, 3) := by decide +kernel
theorem dX4_matches_19 : decode cX4_matches 19 = .ok (.if_icmp .ne 29, 3) := by decide +kernel
theorem dX4_matches_22 : decode cX4_matches 22 = .ok (.aload_n 0, 1) := by decide +kernel
theorem dX4_matches_23 : decode cX4_matches 23 = .ok (.getfield 17, 3) := by decide +kernel
theorem dX4_matches_26 : decode cX4_matches 26 = .ok (.aload_n 1, 1) := by decide +kernel
theorem dX4_matches_27 : decode cX4_matches 27 = .ok (.getfield 17, 3) := by decide +kernel
theorem dX4_matches_30 : decode cX4_matches 30 = .ok (.if_icmp .ne 18, 3) := by decide +kernel
theorem dX4_matches_33 : decode cX4_matches 33 = .ok (.aload_n 0, 1) := by decide +kernel
theorem dX4_matches_34 : decode cX4_matches 34 = .ok (.getfield 20, 3) := by decide +kernel
theorem dX4_matches_37 : decode cX4_matches 37 = .ok (.aload_n 1, 1) := by decide +kernel
theorem dX4_matches_38 : decode cX4_matches 38 = .ok (.getfield 20, 3) := by decide +kernel
theorem dX4_matches_41 : decode cX4_matches 41 = .ok (.if_icmp .ne 7, 3) := by decide +kernel
theorem dX4_matches_44 : decode cX4_matches 44 = .ok (.iconst 1, 1) := by decide +kernel
theorem dX4_matches_45 : decode cX4_matches 45 = .ok (.goto 4, 3) := by decide +kernel
theorem dX4_matches_48 : decode cX4_matches 48 = .ok (.iconst 0, 1) := by decide +kernel
theorem dX4_matches_49 : decode cX4_matches 49 = .ok (.ireturn, 1) := by decide +kernel
theorem dX5_init_0 : decode cX5_init 0 = .ok (.aload_n 0, 1) := by decide +kernel
theorem dX5_init_1 : decode cX5_init 1 = .ok (.invokespecial 1, 3) := by decide +kernel
theorem dX5_init_4 : decode cX5_init 4 = .ok (.return_, 1) := by decide +kernel
theorem dX5_begin_0 : decode cX5_begin 0 = .ok (.aload_n 0, 1) := by decide +kernel
theorem dX5_begin_1 : decode cX5_begin 1 = .ok (.iload_n 1, 1) := by decide +kernel
theorem dX5_begin_2 : decode cX5_begin 2 = .ok (.putfield 7, 3) := by decide +kernel
theorem dX5_begin_5 : decode cX5_begin 5 = .ok (.aload_n 0, 1) := by decide +kernel
theorem dX5_begin_6 : decode cX5_begin 6 = .ok (.iload_n 2, 1) := by decide +kernel
theorem dX5_begin_7 : decode cX5_begin 7 = .ok (.putfield 13, 3) := by decide +kernel
theorem dX5_begin_10 : decode cX5_begin 10 = .ok (.aload_n 0, 1) := by decide +kernel
theorem dX5_begin_11 : decode cX5_begin 11 = .ok (.iconst 0, 1) := by decide +kernel
theorem dX5_begin_12 : decode cX5_begin 12 = .ok (.putfield 16, 3) := by decide +kernel
theorem dX5_begin_15 : decode cX5_begin 15 = .ok (.aload_n 0, 1) := by decide +kernel
theorem dX5_begin_16 : decode cX5_begin 16 = .ok (.iconst 0, 1) := by decide +kernel
theorem dX5_begin_17 : decode cX5_begin 17 = .ok (.putfield 19, 3) := by decide +kernel
theorem dX5_begin_20 : decode cX5_begin 20 = .ok (.return_, 1) := by decide +kernel
theorem dX5_matches_0 : decode cX5_matches 0 = .ok (.aload_n 0, 1) := by decide +kernel
theorem dX5_matches_1 : decode cX5_matches 1 = .ok (.getfield 7, 3) := by decide +kernel
theorem dX5_matches_4 : decode cX5_matches 4 = .ok (.aload_n 1, 1) := by decide +kernel
theorem dX5_matches_5 : decode cX5_matches 5 = .ok (.getfield 7, 3) := by decide +kernel
theorem dX5_matches_8 : decode cX5_matches 8 = .ok (.if_icmp .ne 40, 3) := by decide +kernel
theorem dX5_matches_11 : decode cX5_matches 11 = .ok (.aload_n 0, 1) := by decide +kernel
theorem dX5_matches_12 : decode cX5_matches 12 = .ok (.getfield 13, 3) := by decide +kernel
theorem dX5_matches_15 : decode cX5_matches 15 = .ok (.aload_n 1, 1) := by decide +kernel
theorem dX5_matches_16 : decode cX5_matches 16 = .ok (.getfield 13, 3) := by decide +kernel
theorem dX5_matches_19 : decode cX5_matches 19 = .ok (.if_icmp .ne 29, 3) := by decide +kernel
theorem dX5_matches_22 : decode cX5_matches 22 = .ok (.aload_n 0, 1) := by decide +kernel
theorem dX5_matches_23 : decode cX5_matches 23 = .ok (.getfield 16, 3) := by decide +kernel
theorem dX5_matches_26 : decode cX5_matches 26 = .ok (.aload_n 1, 1) := by decide +kernel
theorem dX5_matches_27 : decode cX5_matches 27 = .ok (.getfield 16, 3) := by decide +kernel
theorem dX5_matches_30 : decode cX5_matches 30 = .ok (.if_icmp .ne 18, 3) := by decide +kernel
theorem dX5_matches_33 : decode cX5_matches 33 = .ok (.aload_n 0, 1) := by decide +kernel
theorem dX5_matches_34 : decode cX5_matches 34 = .ok (.getfield 19, 3) := by decide +kernel
theorem dX5_matches_37 : decode cX5_matches 37 = .ok (.aload_n 1, 1) := by decide +kernel
theorem dX5_matches_38 : decode cX5_matches 38 = .ok (.getfield 19, 3) := by decide +kernel
theorem dX5_matches_41 : decode cX5_matches 41 = .ok (.if_icmp .ne 7, 3) := by decide +kernel
theorem dX5_matches_44 : decode cX5_matches 44 = .ok (.iconst 1, 1) := by decide +kernel
theorem dX5_matches_45 : decode cX5_matches 45 = .ok (.goto 4, 3) := by decide +kernel
theorem dX5_matches_48 : decode cX5_matches 48 = .ok (.iconst 0, 1) := by decide +kernel
theorem dX5_matches_49 : decode cX5_matches 49 = .ok (.ireturn, 1) := by decide +kernel
theorem dX6_init_0 : decode cX6_init 0 = .ok (.aload_n 0, 1) := by decide +kernel
theorem dX6_init_1 : decode cX6_init 1 = .ok (.invokespecial 1, 3) := by decide +kernel
theorem dX6_init_4 : decode cX6_init 4 = .ok (.aload_n 0, 1) := by decide +kernel
theorem dX6_init_5 : decode cX6_init 5 = .ok (.new 7, 3) := by decide +kernel
theorem dX6_init_8 : decode cX6_init 8 = .ok (.dup, 1) := by decide +kernel
theorem dX6_init_9 : decode cX6_init 9 = .ok (.invokespecial 9, 3) := by decide +kernel
theorem dX6_init_12 : decode cX6_init 12 = .ok (.putfield 10, 3) := by decide +kernel
theorem dX6_init_15 : decode cX6_init 15 = .ok (.aload_n 0, 1) := by decide +kernel
theorem dX6_init_16 : decode cX6_init 16 = .ok (.new 7, 3) := by decide +kernel
theorem dX6_init_19 : decode cX6_init 19 = .ok (.dup, 1) := by decide +kernel
theorem dX6_init_20 : decode cX6_init 20 = .ok (.invokespecial 9, 3) := by decide +kernel
theorem dX6_init_23 : decode cX6_init 23 = .ok (.putfield 16, 3) := by decide +kernel
theorem dX6_init_26 : decode cX6_init 26 = .ok (.aload_n 0, 1) := by decide +kernel
theorem dX6_init_27 : decode cX6_init 27 = .ok (.new 19, 3) := by decide +kernel
theorem dX6_init_30 : decode cX6_init 30 = .ok (.dup, 1) := by decide +kernel
theorem dX6_init_31 : decode cX6_init 31 = .ok (.invokespecial 21, 3) := by decide +kernel
theorem dX6_init_34 : decode cX6_init 34 = .ok (.putfield 22, 3) := by decide +kernel
theorem dX6_init_37 : decode cX6_init 37 = .ok (.return_, 1) := by decide +kernel
theorem dX6_addOffice_0 : decode cX6_addOffice 0 = .ok (.aload_n 0, 1) := by decide +kernel
theorem dX6_addOffice_1 : decode cX6_addOffice 1 = .ok (.iload_n 1, 1) := by decide +kernel
theorem dX6_addOffice_2 : decode cX6_addOffice 2 = .ok (.iconst 1, 1) := by decide +kernel
theorem dX6_addOffice_3 : decode cX6_addOffice 3 = .ok (.bipush 60, 2) := by decide +kernel
theorem dX6_addOffice_5 : decode cX6_addOffice 5 = .ok (.invokevirtual 26, 3) := by decide +kernel
theorem dX6_addOffice_8 : decode cX6_addOffice 8 = .ok (.aload_n 0, 1) := by decide +kernel
theorem dX6_addOffice_9 : decode cX6_addOffice 9 = .ok (.iload_n 2, 1) := by decide +kernel
theorem dX6_addOffice_10 : decode cX6_addOffice 10 = .ok (.iconst 0, 1) := by decide +kernel
theorem dX6_addOffice_11 : decode cX6_addOffice 11 = .ok (.sipush 1023, 3) := by decide +kernel
theorem dX6_addOffice_14 : decode cX6_addOffice 14 = .ok (.invokevirtual 26, 3) := by decide +kernel
theorem dX6_addOffice_17 : decode cX6_addOffice 17 = .ok (.aload_n 0, 1) := by decide +kernel
theorem dX6_addOffice_18 : decode cX6_addOffice 18 = .ok (.getfield 10, 3) := by decide +kernel
theorem dX6_addOffice_21 : decode cX6_addOffice 21 = .ok (.getfield 30, 3) := by decide +kernel
theorem dX6_addOffice_24 : decode cX6_addOffice 24 = .ok (.bipush 6, 2) := by decide +kernel
theorem dX6_addOffice_26 : decode cX6_addOffice 26 = .ok (.if_icmp .lt 13, 3) := by decide +kernel
theorem dX6_addOffice_29 : decode cX6_addOffice 29 = .ok (.new 34, 3) := by decide +kernel
theorem dX6_addOffice_32 : decode cX6_addOffice 32 = .ok (.dup, 1) := by decide +kernel
theorem dX6_addOffice_33 : decode cX6_addOffice 33 = .ok (.ldc 36, 2) := by decide +kernel
theorem dX6_addOffice_35 : decode cX6_addOffice 35 = .ok (.invokespecial 38, 3) := by decide +kernel
theorem dX6_addOffice_38 : decode cX6_addOffice 38 = .ok (.athrow, 1) := by decide +kernel
theorem dX6_addOffice_39 : decode cX6_addOffice 39 = .ok (.aload_n 0, 1) := by decide +kernel
theorem dX6_addOffice_40 : decode cX6_addOffice 40 = .ok (.iconst 1, 1) := by decide +kernel
theorem dX6_addOffice_41 : decode cX6_addOffice 41 = .ok (.iload_n 1, 1) := by decide +kernel
theorem dX6_addOffice_42 : decode cX6_addOffice 42 = .ok (.iload_n 2, 1) := by decide +kernel
theorem dX6_addOffice_43 : decode cX6_addOffice 43 = .ok (.invokevirtual 41, 3) := by decide +kernel
theorem dX6_addOffice_46 : decode cX6_addOffice 46 = .ok (.ireturn, 1) := by decide +kernel
theorem dX6_pass_0 : decode cX6_pass 0 = .ok (.aload_n 0, 1) := by decide +kernel
theorem dX6_pass_1 : decode cX6_pass 1 = .ok (.iload_n 1, 1) := by decide +kernel
theorem dX6_pass_2 : decode cX6_pass 2 = .ok (.iconst 1, 1) := by decide +kernel
theorem dX6_pass_3 : decode cX6_pass 3 = .ok (.sipush 400, 3) := by decide +kernel
theorem dX6_pass_6 : decode cX6_pass 6 = .ok (.invokevirtual 26, 3) := by decide +kernel
theorem dX6_pass_9 : decode cX6_pass 9 = .ok (.aload_n 0, 1) := by decide +kernel
theorem dX6_pass_10 : decode cX6_pass 10 = .ok (.getfield 10, 3) := by decide +kernel
theorem dX6_pass_13 : decode cX6_pass 13 = .ok (.getfield 45, 3) := by decide +kernel
theorem dX6_pass_16 : decode cX6_pass 16 = .ok (.iload_n 1, 1) := by decide +kernel
theorem dX6_pass_17 : decode cX6_pass 17 = .ok (.iadd, 1) := by decide +kernel
theorem dX6_pass_18 : decode cX6_pass 18 = .ok (.sipush 9999, 3) := by decide +kernel
theorem dX6_pass_21 : decode cX6_pass 21 = .ok (.if_icmp .le 13, 3) := by decide +kernel
theorem dX6_pass_24 : decode cX6_pass 24 = .ok (.new 34, 3) := by decide +kernel
theorem dX6_pass_27 : decode cX6_pass 27 = .ok (.dup, 1) := by decide +kernel
theorem dX6_pass_28 : decode cX6_pass 28 = .ok (.ldc 48, 2) := by decide +kernel
theorem dX6_pass_30 : decode cX6_pass 30 = .ok (.invokespecial 38, 3) := by decide +kernel
theorem dX6_pass_33 : decode cX6_pass 33 = .ok (.athrow, 1) := by decide +kernel
theorem dX6_pass_34 : decode cX6_pass 34 = .ok (.aload_n 0, 1) := by decide +kernel
theorem dX6_pass_35 : decode cX6_pass 35 = .ok (.iconst 2, 1) := by decide +kernel
theorem dX6_pass_36 : decode cX6_pass 36 = .ok (.iload_n 1, 1) := by decide +kernel
theorem dX6_pass_37 : decode cX6_pass 37 = .ok (.iconst 0, 1) := by decide +kernel
theorem dX6_pass_38 : decode cX6_pass 38 = .ok (.invokevirtual 41, 3) := by decide +kernel
theorem dX6_pass_41 : decode cX6_pass 41 = .ok (.ireturn, 1) := by decide +kernel
theorem dX6_today_0 : decode cX6_today 0 = .ok (.aload_n 0, 1) := by decide +kernel
theorem dX6_today_1 : decode cX6_today 1 = .ok (.getfield 10, 3) := by decide +kernel
theorem dX6_today_4 : decode cX6_today 4 = .ok (.getfield 45, 3) := by decide +kernel
theorem dX6_today_7 : decode cX6_today 7 = .ok (.ireturn, 1) := by decide +kernel
theorem dX6_complain_0 : decode cX6_complain 0 = .ok (.aload_n 0, 1) := by decide +kernel
theorem dX6_complain_1 : decode cX6_complain 1 = .ok (.iload_n 1, 1) := by decide +kernel
theorem dX6_complain_2 : decode cX6_complain 2 = .ok (.invokevirtual 50, 3) := by decide +kernel
theorem dX6_complain_5 : decode cX6_complain 5 = .ok (.aload_n 0, 1) := by decide +kernel
theorem dX6_complain_6 : decode cX6_complain 6 = .ok (.iload_n 2, 1) := by decide +kernel
theorem dX6_complain_7 : decode cX6_complain 7 = .ok (.iconst 0, 1) := by decide +kernel
theorem dX6_complain_8 : decode cX6_complain 8 = .ok (.bipush 9, 2) := by decide +kernel
theorem dX6_complain_10 : decode cX6_complain 10 = .ok (.invokevirtual 26, 3) := by decide +kernel
theorem dX6_complain_13 : decode cX6_complain 13 = .ok (.aload_n 0, 1) := by decide +kernel
theorem dX6_complain_14 : decode cX6_complain 14 = .ok (.iload_n 3, 1) := by decide +kernel
theorem dX6_complain_15 : decode cX6_complain 15 = .ok (.iconst 0, 1) := by decide +kernel
theorem dX6_complain_16 : decode cX6_complain 16 = .ok (.bipush 49, 2) := by decide +kernel
theorem dX6_complain_18 : decode cX6_complain 18 = .ok (.invokevirtual 26, 3) := by decide +kernel
theorem dX6_complain_21 : decode cX6_complain 21 = .ok (.aload_n 0, 1) := by decide +kernel
theorem dX6_complain_22 : decode cX6_complain 22 = .ok (.iload 4, 2) := by decide +kernel
theorem dX6_complain_24 : decode cX6_complain 24 = .ok (.iconst 0, 1) := by decide +kernel
theorem dX6_complain_25 : decode cX6_complain 25 = .ok (.aload_n 0, 1) := by decide +kernel
theorem dX6_complain_26 : decode cX6_complain 26 = .ok (.getfield 10, 3) := by decide +kernel
theorem dX6_complain_29 : decode cX6_complain 29 = .ok (.getfield 45, 3) := by decide +kernel
theorem dX6_complain_32 : decode cX6_complain 32 = .ok (.invokevirtual 26, 3) := by decide +kernel
theorem dX6_complain_35 : decode cX6_complain 35 = .ok (.aload_n 0, 1) := by decide +kernel
theorem dX6_complain_36 : decode cX6_complain 36 = .ok (.getfield 10, 3) := by decide +kernel
theorem dX6_complain_39 : decode cX6_complain 39 = .ok (.getfield 54, 3) := by decide +kernel
theorem dX6_complain_42 : decode cX6_complain 42 = .ok (.bipush 20, 2) := by decide +kernel
theorem dX6_complain_44 : decode cX6_complain 44 = .ok (.if_icmp .lt 13, 3) := by decide +kernel
theorem dX6_complain_47 : decode cX6_complain 47 = .ok (.new 34, 3) := by decide +kernel
theorem dX6_complain_50 : decode cX6_complain 50 = .ok (.dup, 1) := by decide +kernel
theorem dX6_complain_51 : decode cX6_complain 51 = .ok (.ldc 57, 2) := by decide +kernel
theorem dX6_complain_53 : decode cX6_complain 53 = .ok (.invokespecial 38, 3) := by decide +kernel
theorem dX6_complain_56 : decode cX6_complain 56 = .ok (.athrow, 1) := by decide +kernel
theorem dX6_complain_57 : decode cX6_complain 57 = .ok (.aload_n 0, 1) := by decide +kernel
theorem dX6_complain_58 : decode cX6_complain 58 = .ok (.getfield 22, 3) := by decide +kernel
theorem dX6_complain_61 : decode cX6_complain 61 = .ok (.iconst 4, 1) := by decide +kernel
theorem dX6_complain_62 : decode cX6_complain 62 = .ok (.iload_n 1, 1) := by decide +kernel
theorem dX6_complain_63 : decode cX6_complain 63 = .ok (.iload_n 2, 1) := by decide +kernel
theorem dX6_complain_64 : decode cX6_complain 64 = .ok (.iload_n 3, 1) := by decide +kernel
theorem dX6_complain_65 : decode cX6_complain 65 = .ok (.iload 4, 2) := by decide +kernel
theorem dX6_complain_67 : decode cX6_complain 67 = .ok (.invokevirtual 59, 3) := by decide +kernel
theorem dX6_complain_70 : decode cX6_complain 70 = .ok (.aload_n 0, 1) := by decide +kernel
theorem dX6_complain_71 : decode cX6_complain 71 = .ok (.getfield 10, 3) := by decide +kernel
theorem dX6_complain_74 : decode cX6_complain 74 = .ok (.iconst 4, 1) := by decide +kernel
theorem dX6_complain_75 : decode cX6_complain 75 = .ok (.iload_n 1, 1) := by decide +kernel
theorem dX6_complain_76 : decode cX6_complain 76 = .ok (.iload_n 2, 1) := by decide +kernel
theorem dX6_complain_77 : decode cX6_complain 77 = .ok (.iload_n 3, 1) := by decide +kernel
theorem dX6_complain_78 : decode cX6_complain 78 = .ok (.iload 4, 2) := by decide +kernel
theorem dX6_complain_80 : decode cX6_complain 80 = .ok (.invokevirtual 63, 3) := by decide +kernel
theorem dX6_complain_83 : decode cX6_complain 83 = .ok (.ireturn, 1) := by decide +kernel
theorem dX6_setCourt_0 : decode cX6_setCourt 0 = .ok (.aload_n 0, 1) := by decide +kernel
theorem dX6_setCourt_1 : decode cX6_setCourt 1 = .ok (.aload_n 0, 1) := by decide +kernel
theorem dX6_setCourt_2 : decode cX6_setCourt 2 = .ok (.iload_n 1, 1) := by decide +kernel
theorem dX6_setCourt_3 : decode cX6_setCourt 3 = .ok (.invokevirtual 67, 3) := by decide +kernel
theorem dX6_setCourt_6 : decode cX6_setCourt 6 = .ok (.invokevirtual 71, 3) := by decide +kernel
theorem dX6_setCourt_9 : decode cX6_setCourt 9 = .ok (.aload_n 0, 1) := by decide +kernel
theorem dX6_setCourt_10 : decode cX6_setCourt 10 = .ok (.iconst 5, 1) := by decide +kernel
theorem dX6_setCourt_11 : decode cX6_setCourt 11 = .ok (.iload_n 1, 1) := by decide +kernel
theorem dX6_setCourt_12 : decode cX6_setCourt 12 = .ok (.iload_n 2, 1) := by decide +kernel
theorem dX6_setCourt_13 : decode cX6_setCourt 13 = .ok (.ifCond .eq 7, 3) := by decide +kernel
theorem dX6_setCourt_16 : decode cX6_setCourt 16 = .ok (.iconst 1, 1) := by decide +kernel
theorem dX6_setCourt_17 : decode cX6_setCourt 17 = .ok (.goto 4, 3) := by decide +kernel
theorem dX6_setCourt_20 : decode cX6_setCourt 20 = .ok (.iconst 0, 1) := by decide +kernel
theorem dX6_setCourt_21 : decode cX6_setCourt 21 = .ok (.invokevirtual 41, 3) := by decide +kernel
theorem dX6_setCourt_24 : decode cX6_setCourt 24 = .ok (.iconst 1, 1) := by decide +kernel
theorem dX6_setCourt_25 : decode cX6_setCourt 25 = .ok (.if_icmp .ne 7, 3) := by decide +kernel
theorem dX6_setCourt_28 : decode cX6_setCourt 28 = .ok (.iconst 1, 1) := by decide +kernel
theorem dX6_setCourt_29 : decode cX6_setCourt 29 = .ok (.goto 4, 3) := by decide +kernel
theorem dX6_setCourt_32 : decode cX6_setCourt 32 = .ok (.iconst 0, 1) := by decide +kernel
theorem dX6_setCourt_33 : decode cX6_setCourt 33 = .ok (.ireturn, 1) := by decide +kernel
theorem dX6_excuse_0 : decode cX6_excuse 0 = .ok (.aload_n 0, 1) := by decide +kernel
theorem dX6_excuse_1 : decode cX6_excuse 1 = .ok (.aload_n 0, 1) := by decide +kernel
theorem dX6_excuse_2 : decode cX6_excuse 2 = .ok (.iload_n 1, 1) := by decide +kernel
theorem dX6_excuse_3 : decode cX6_excuse 3 = .ok (.invokevirtual 67, 3) := by decide +kernel
theorem dX6_excuse_6 : decode cX6_excuse 6 = .ok (.invokevirtual 71, 3) := by decide +kernel
theorem dX6_excuse_9 : decode cX6_excuse 9 = .ok (.aload_n 0, 1) := by decide +kernel
theorem dX6_excuse_10 : decode cX6_excuse 10 = .ok (.bipush 6, 2) := by decide +kernel
theorem dX6_excuse_12 : decode cX6_excuse 12 = .ok (.iload_n 1, 1) := by decide +kernel
theorem dX6_excuse_13 : decode cX6_excuse 13 = .ok (.iconst 0, 1) := by decide +kernel
theorem dX6_excuse_14 : decode cX6_excuse 14 = .ok (.invokevirtual 41, 3) := by decide +kernel
theorem dX6_excuse_17 : decode cX6_excuse 17 = .ok (.iconst 1, 1) := by decide +kernel
theorem dX6_excuse_18 : decode cX6_excuse 18 = .ok (.if_icmp .ne 7, 3) := by decide +kernel
theorem dX6_excuse_21 : decode cX6_excuse 21 = .ok (.iconst 1, 1) := by decide +kernel
theorem dX6_excuse_22 : decode cX6_excuse 22 = .ok (.goto 4, 3) := by decide +kernel
theorem dX6_excuse_25 : decode cX6_excuse 25 = .ok (.iconst 0, 1) := by decide +kernel
theorem dX6_excuse_26 : decode cX6_excuse 26 = .ok (.ireturn, 1) := by decide +kernel
theorem dX6_takeStep_0 : decode cX6_takeStep 0 = .ok (.aload_n 0, 1) := by decide +kernel
theorem dX6_takeStep_1 : decode cX6_takeStep 1 = .ok (.iload_n 1, 1) := by decide +kernel
theorem dX6_takeStep_2 : decode cX6_takeStep 2 = .ok (.invokevirtual 67, 3) := by decide +kernel
theorem dX6_takeStep_5 : decode cX6_takeStep 5 = .ok (.astore_n 2, 1) := by decide +kernel
theorem dX6_takeStep_6 : decode cX6_takeStep 6 = .ok (.aload_n 0, 1) := by decide +kernel
theorem dX6_takeStep_7 : decode cX6_takeStep 7 = .ok (.aload_n 2, 1) := by decide +kernel
theorem dX6_takeStep_8 : decode cX6_takeStep 8 = .ok (.invokevirtual 71, 3) := by decide +kernel
theorem dX6_takeStep_11 : decode cX6_takeStep 11 = .ok (.aload_n 2, 1) := by decide +kernel
theorem dX6_takeStep_12 : decode cX6_takeStep 12 = .ok (.getfield 75, 3) := by decide +kernel
theorem dX6_takeStep_15 : decode cX6_takeStep 15 = .ok (.iconst (-1), 1) := by decide +kernel
theorem dX6_takeStep_16 : decode cX6_takeStep 16 = .ok (.if_icmp .eq 13, 3) := by decide +kernel
theorem dX6_takeStep_19 : decode cX6_takeStep 19 = .ok (.new 80, 3) := by decide +kernel
theorem dX6_takeStep_22 : decode cX6_takeStep 22 = .ok (.dup, 1) := by decide +kernel
theorem dX6_takeStep_23 : decode cX6_takeStep 23 = .ok (.ldc 82, 2) := by decide +kernel
theorem dX6_takeStep_25 : decode cX6_takeStep 25 = .ok (.invokespecial 84, 3) := by decide +kernel
theorem dX6_takeStep_28 : decode cX6_takeStep 28 = .ok (.athrow, 1) := by decide +kernel
theorem dX6_takeStep_29 : decode cX6_takeStep 29 = .ok (.aload_n 0, 1) := by decide +kernel
theorem dX6_takeStep_30 : decode cX6_takeStep 30 = .ok (.bipush 7, 2) := by decide +kernel
theorem dX6_takeStep_32 : decode cX6_takeStep 32 = .ok (.iload_n 1, 1) := by decide +kernel
theorem dX6_takeStep_33 : decode cX6_takeStep 33 = .ok (.iconst 0, 1) := by decide +kernel
theorem dX6_takeStep_34 : decode cX6_takeStep 34 = .ok (.invokevirtual 41, 3) := by decide +kernel
theorem dX6_takeStep_37 : decode cX6_takeStep 37 = .ok (.ireturn, 1) := by decide +kernel
theorem dX6_examine_0 : decode cX6_examine 0 = .ok (.aload_n 0, 1) := by decide +kernel
theorem dX6_examine_1 : decode cX6_examine 1 = .ok (.aload_n 0, 1) := by decide +kernel
theorem dX6_examine_2 : decode cX6_examine 2 = .ok (.iload_n 1, 1) := by decide +kernel
theorem dX6_examine_3 : decode cX6_examine 3 = .ok (.invokevirtual 67, 3) := by decide +kernel
theorem dX6_examine_6 : decode cX6_examine 6 = .ok (.invokevirtual 71, 3) := by decide +kernel
theorem dX6_examine_9 : decode cX6_examine 9 = .ok (.aload_n 0, 1) := by decide +kernel
theorem dX6_examine_10 : decode cX6_examine 10 = .ok (.bipush 8, 2) := by decide +kernel
theorem dX6_examine_12 : decode cX6_examine 12 = .ok (.iload_n 1, 1) := by decide +kernel
theorem dX6_examine_13 : decode cX6_examine 13 = .ok (.iconst 0, 1) := by decide +kernel
theorem dX6_examine_14 : decode cX6_examine 14 = .ok (.invokevirtual 41, 3) := by decide +kernel
theorem dX6_examine_17 : decode cX6_examine 17 = .ok (.i2c, 1) := by decide +kernel
theorem dX6_examine_18 : decode cX6_examine 18 = .ok (.ireturn, 1) := by decide +kernel
theorem dX6_state_0 : decode cX6_state 0 = .ok (.aload_n 0, 1) := by decide +kernel
theorem dX6_state_1 : decode cX6_state 1 = .ok (.iload_n 1, 1) := by decide +kernel
theorem dX6_state_2 : decode cX6_state 2 = .ok (.invokevirtual 67, 3) := by decide +kernel
theorem dX6_state_5 : decode cX6_state 5 = .ok (.getfield 85, 3) := by decide +kernel
theorem dX6_state_8 : decode cX6_state 8 = .ok (.ireturn, 1) := by decide +kernel
theorem dX6_countState_0 : decode cX6_countState 0 = .ok (.ldc 89, 2) := by decide +kernel
theorem dX6_countState_2 : decode cX6_countState 2 = .ok (.iload_n 1, 1) := by decide +kernel
theorem dX6_countState_3 : decode cX6_countState 3 = .ok (.invokevirtual 91, 3) := by decide +kernel
theorem dX6_countState_6 : decode cX6_countState 6 = .ok (.ifCond .ge 13, 3) := by decide +kernel
theorem dX6_countState_9 : decode cX6_countState 9 = .ok (.new 97, 3) := by decide +kernel
theorem dX6_countState_12 : decode cX6_countState 12 = .ok (.dup, 1) := by decide +kernel
theorem dX6_countState_13 : decode cX6_countState 13 = .ok (.ldc 99, 2) := by decide +kernel
theorem dX6_countState_15 : decode cX6_countState 15 = .ok (.invokespecial 101, 3) := by decide +kernel
theorem dX6_countState_18 : decode cX6_countState 18 = .ok (.athrow, 1) := by decide +kernel
theorem dX6_countState_19 : decode cX6_countState 19 = .ok (.aload_n 0, 1) := by decide +kernel
theorem dX6_countState_20 : decode cX6_countState 20 = .ok (.getfield 10, 3) := by decide +kernel
theorem dX6_countState_23 : decode cX6_countState 23 = .ok (.iload_n 1, 1) := by decide +kernel
theorem dX6_countState_24 : decode cX6_countState 24 = .ok (.invokevirtual 102, 3) := by decide +kernel
theorem dX6_countState_27 : decode cX6_countState 27 = .ok (.ireturn, 1) := by decide +kernel
theorem dX6_countOf_0 : decode cX6_countOf 0 = .ok (.aload_n 0, 1) := by decide +kernel
theorem dX6_countOf_1 : decode cX6_countOf 1 = .ok (.iload_n 1, 1) := by decide +kernel
theorem dX6_countOf_2 : decode cX6_countOf 2 = .ok (.iconst 0, 1) := by decide +kernel
theorem dX6_countOf_3 : decode cX6_countOf 3 = .ok (.bipush 49, 2) := by decide +kernel
theorem dX6_countOf_5 : decode cX6_countOf 5 = .ok (.invokevirtual 26, 3) := by decide +kernel
theorem dX6_countOf_8 : decode cX6_countOf 8 = .ok (.aload_n 0, 1) := by decide +kernel
theorem dX6_countOf_9 : decode cX6_countOf 9 = .ok (.getfield 10, 3) := by decide +kernel
theorem dX6_countOf_12 : decode cX6_countOf 12 = .ok (.iload_n 1, 1) := by decide +kernel
theorem dX6_countOf_13 : decode cX6_countOf 13 = .ok (.invokevirtual 106, 3) := by decide +kernel
theorem dX6_countOf_16 : decode cX6_countOf 16 = .ok (.ireturn, 1) := by decide +kernel
theorem dX6_ask_0 : decode cX6_ask 0 = .ok (.aload_n 0, 1) := by decide +kernel
theorem dX6_ask_1 : decode cX6_ask 1 = .ok (.aload_n 0, 1) := by decide +kernel
theorem dX6_ask_2 : decode cX6_ask 2 = .ok (.iload_n 1, 1) := by decide +kernel
theorem dX6_ask_3 : decode cX6_ask 3 = .ok (.invokevirtual 67, 3) := by decide +kernel
theorem dX6_ask_6 : decode cX6_ask 6 = .ok (.bipush 114, 2) := by decide +kernel
theorem dX6_ask_8 : decode cX6_ask 8 = .ok (.invokevirtual 109, 3) := by decide +kernel
theorem dX6_ask_11 : decode cX6_ask 11 = .ok (.aload_n 0, 1) := by decide +kernel
theorem dX6_ask_12 : decode cX6_ask 12 = .ok (.bipush 9, 2) := by decide +kernel
theorem dX6_ask_14 : decode cX6_ask 14 = .ok (.iload_n 1, 1) := by decide +kernel
theorem dX6_ask_15 : decode cX6_ask 15 = .ok (.iconst 0, 1) := by decide +kernel
theorem dX6_ask_16 : decode cX6_ask 16 = .ok (.invokevirtual 41, 3) := by decide +kernel
theorem dX6_ask_19 : decode cX6_ask 19 = .ok (.ireturn, 1) := by decide +kernel
theorem dX6_extend_0 : decode cX6_extend 0 = .ok (.aload_n 0, 1) := by decide +kernel
theorem dX6_extend_1 : decode cX6_extend 1 = .ok (.iload_n 1, 1) := by decide +kernel
theorem dX6_extend_2 : decode cX6_extend 2 = .ok (.invokevirtual 67, 3) := by decide +kernel
theorem dX6_extend_5 : decode cX6_extend 5 = .ok (.astore_n 3, 1) := by decide +kernel
theorem dX6_extend_6 : decode cX6_extend 6 = .ok (.aload_n 0, 1) := by decide +kernel
theorem dX6_extend_7 : decode cX6_extend 7 = .ok (.iload_n 2, 1) := by decide +kernel
theorem dX6_extend_8 : decode cX6_extend 8 = .ok (.iconst 1, 1) := by decide +kernel
theorem dX6_extend_9 : decode cX6_extend 9 = .ok (.bipush 30, 2) := by decide +kernel
theorem dX6_extend_11 : decode cX6_extend 11 = .ok (.invokevirtual 26, 3) := by decide +kernel
theorem dX6_extend_14 : decode cX6_extend 14 = .ok (.aload_n 0, 1) := by decide +kernel
theorem dX6_extend_15 : decode cX6_extend 15 = .ok (.aload_n 3, 1) := by decide +kernel
theorem dX6_extend_16 : decode cX6_extend 16 = .ok (.bipush 97, 2) := by decide +kernel
theorem dX6_extend_18 : decode cX6_extend 18 = .ok (.invokevirtual 109, 3) := by decide +kernel
theorem dX6_extend_21 : decode cX6_extend 21 = .ok (.aload_n 0, 1) := by decide +kernel
theorem dX6_extend_22 : decode cX6_extend 22 = .ok (.getfield 10, 3) := by decide +kernel
theorem dX6_extend_25 : decode cX6_extend 25 = .ok (.aload_n 3, 1) := by decide +kernel
theorem dX6_extend_26 : decode cX6_extend 26 = .ok (.invokevirtual 113, 3) := by decide +kernel
theorem dX6_extend_29 : decode cX6_extend 29 = .ok (.ifCond .ne 13, 3) := by decide +kernel
theorem dX6_extend_32 : decode cX6_extend 32 = .ok (.aload_n 3, 1) := by decide +kernel
theorem dX6_extend_33 : decode cX6_extend 33 = .ok (.getfield 117, 3) := by decide +kernel
theorem dX6_extend_36 : decode cX6_extend 36 = .ok (.getfield 121, 3) := by decide +kernel
theorem dX6_extend_39 : decode cX6_extend 39 = .ok (.ifCond .eq 13, 3) := by decide +kernel
theorem dX6_extend_42 : decode cX6_extend 42 = .ok (.new 80, 3) := by decide +kernel
theorem dX6_extend_45 : decode cX6_extend 45 = .ok (.dup, 1) := by decide +kernel
theorem dX6_extend_46 : decode cX6_extend 46 = .ok (.ldc 127, 2) := by decide +kernel
theorem dX6_extend_48 : decode cX6_extend 48 = .ok (.invokespecial 84, 3) := by decide +kernel
theorem dX6_extend_51 : decode cX6_extend 51 = .ok (.athrow, 1) := by decide +kernel
theorem dX6_extend_52 : decode cX6_extend 52 = .ok (.aload_n 0, 1) := by decide +kernel
theorem dX6_extend_53 : decode cX6_extend 53 = .ok (.bipush 10, 2) := by decide +kernel
theorem dX6_extend_55 : decode cX6_extend 55 = .ok (.iload_n 1, 1) := by decide +kernel
theorem dX6_extend_56 : decode cX6_extend 56 = .ok (.iload_n 2, 1) := by decide +kernel
theorem dX6_extend_57 : decode cX6_extend 57 = .ok (.invokevirtual 41, 3) := by decide +kernel
theorem dX6_extend_60 : decode cX6_extend 60 = .ok (.ireturn, 1) := by decide +kernel
theorem dX6_remind_0 : decode cX6_remind 0 = .ok (.aload_n 0, 1) := by decide +kernel
theorem dX6_remind_1 : decode cX6_remind 1 = .ok (.iload_n 1, 1) := by decide +kernel
theorem dX6_remind_2 : decode cX6_remind 2 = .ok (.invokevirtual 67, 3) := by decide +kernel
theorem dX6_remind_5 : decode cX6_remind 5 = .ok (.astore_n 2, 1) := by decide +kernel
theorem dX6_remind_6 : decode cX6_remind 6 = .ok (.aload_n 0, 1) := by decide +kernel
theorem dX6_remind_7 : decode cX6_remind 7 = .ok (.aload_n 2, 1) := by decide +kernel
theorem dX6_remind_8 : decode cX6_remind 8 = .ok (.bipush 97, 2) := by decide +kernel
theorem dX6_remind_10 : decode cX6_remind 10 = .ok (.invokevirtual 109, 3) := by decide +kernel
theorem dX6_remind_13 : decode cX6_remind 13 = .ok (.aload_n 0, 1) := by decide +kernel
theorem dX6_remind_14 : decode cX6_remind 14 = .ok (.getfield 10, 3) := by decide +kernel
theorem dX6_remind_17 : decode cX6_remind 17 = .ok (.aload_n 2, 1) := by decide +kernel
theorem dX6_remind_18 : decode cX6_remind 18 = .ok (.invokevirtual 113, 3) := by decide +kernel
theorem dX6_remind_21 : decode cX6_remind 21 = .ok (.ifCond .eq 14, 3) := by decide +kernel
theorem dX6_remind_24 : decode cX6_remind 24 = .ok (.aload_n 2, 1) := by decide +kernel
theorem dX6_remind_25 : decode cX6_remind 25 = .ok (.getfield 117, 3) := by decide +kernel
theorem dX6_remind_28 : decode cX6_remind 28 = .ok (.getfield 129, 3) := by decide +kernel
theorem dX6_remind_31 : decode cX6_remind 31 = .ok (.iconst 3, 1) := by decide +kernel
theorem dX6_remind_32 : decode cX6_remind 32 = .ok (.if_icmp .lt 13, 3) := by decide +kernel
theorem dX6_remind_35 : decode cX6_remind 35 = .ok (.new 80, 3) := by decide +kernel
theorem dX6_remind_38 : decode cX6_remind 38 = .ok (.dup, 1) := by decide +kernel
theorem dX6_remind_39 : decode cX6_remind 39 = .ok (.ldc 132, 2) := by decide +kernel
theorem dX6_remind_41 : decode cX6_remind 41 = .ok (.invokespecial 84, 3) := by decide +kernel
theorem dX6_remind_44 : decode cX6_remind 44 = .ok (.athrow, 1) := by decide +kernel
theorem dX6_remind_45 : decode cX6_remind 45 = .ok (.aload_n 0, 1) := by decide +kernel
theorem dX6_remind_46 : decode cX6_remind 46 = .ok (.bipush 11, 2) := by decide +kernel
theorem dX6_remind_48 : decode cX6_remind 48 = .ok (.iload_n 1, 1) := by decide +kernel
theorem dX6_remind_49 : decode cX6_remind 49 = .ok (.iconst 0, 1) := by decide +kernel
theorem dX6_remind_50 : decode cX6_remind 50 = .ok (.invokevirtual 41, 3) := by decide +kernel
theorem dX6_remind_53 : decode cX6_remind 53 = .ok (.ireturn, 1) := by decide +kernel
theorem dX6_answer_0 : decode cX6_answer 0 = .ok (.aload_n 0, 1) := by decide +kernel
theorem dX6_answer_1 : decode cX6_answer 1 = .ok (.aload_n 0, 1) := by decide +kernel
theorem dX6_answer_2 : decode cX6_answer 2 = .ok (.iload_n 1, 1) := by decide +kernel
theorem dX6_answer_3 : decode cX6_answer 3 = .ok (.invokevirtual 67, 3) := by decide +kernel
theorem dX6_answer_6 : decode cX6_answer 6 = .ok (.bipush 97, 2) := by decide +kernel
theorem dX6_answer_8 : decode cX6_answer 8 = .ok (.invokevirtual 109, 3) := by decide +kernel
theorem dX6_answer_11 : decode cX6_answer 11 = .ok (.aload_n 0, 1) := by decide +kernel
theorem dX6_answer_12 : decode cX6_answer 12 = .ok (.bipush 12, 2) := by decide +kernel
theorem dX6_answer_14 : decode cX6_answer 14 = .ok (.iload_n 1, 1) := by decide +kernel
theorem dX6_answer_15 : decode cX6_answer 15 = .ok (.iconst 0, 1) := by decide +kernel
theorem dX6_answer_16 : decode cX6_answer 16 = .ok (.invokevirtual 41, 3) := by decide +kernel
theorem dX6_answer_19 : decode cX6_answer 19 = .ok (.ireturn, 1) := by decide +kernel
theorem dX6_takeSilence_0 : decode cX6_takeSilence 0 = .ok (.aload_n 0, 1) := by decide +kernel
theorem dX6_takeSilence_1 : decode cX6_takeSilence 1 = .ok (.iload_n 1, 1) := by decide +kernel
theorem dX6_takeSilence_2 : decode cX6_takeSilence 2 = .ok (.invokevirtual 67, 3) := by decide +kernel
theorem dX6_takeSilence_5 : decode cX6_takeSilence 5 = .ok (.astore_n 2, 1) := by decide +kernel
theorem dX6_takeSilence_6 : decode cX6_takeSilence 6 = .ok (.aload_n 0, 1) := by decide +kernel
theorem dX6_takeSilence_7 : decode cX6_takeSilence 7 = .ok (.aload_n 2, 1) := by decide +kernel
theorem dX6_takeSilence_8 : decode cX6_takeSilence 8 = .ok (.bipush 97, 2) := by decide +kernel
theorem dX6_takeSilence_10 : decode cX6_takeSilence 10 = .ok (.invokevirtual 109, 3) := by decide +kernel
theorem dX6_takeSilence_13 : decode cX6_takeSilence 13 = .ok (.aload_n 0, 1) := by decide +kernel
theorem dX6_takeSilence_14 : decode cX6_takeSilence 14 = .ok (.getfield 10, 3) := by decide +kernel
theorem dX6_takeSilence_17 : decode cX6_takeSilence 17 = .ok (.aload_n 2, 1) := by decide +kernel
theorem dX6_takeSilence_18 : decode cX6_takeSilence 18 = .ok (.invokevirtual 113, 3) := by decide +kernel
theorem dX6_takeSilence_21 : decode cX6_takeSilence 21 = .ok (.ifCond .eq 14, 3) := by decide +kernel
theorem dX6_takeSilence_24 : decode cX6_takeSilence 24 = .ok (.aload_n 2, 1) := by decide +kernel
theorem dX6_takeSilence_25 : decode cX6_takeSilence 25 = .ok (.getfield 117, 3) := by decide +kernel
theorem dX6_takeSilence_28 : decode cX6_takeSilence 28 = .ok (.getfield 129, 3) := by decide +kernel
theorem dX6_takeSilence_31 : decode cX6_takeSilence 31 = .ok (.iconst 3, 1) := by decide +kernel
theorem dX6_takeSilence_32 : decode cX6_takeSilence 32 = .ok (.if_icmp .ge 13, 3) := by decide +kernel
theorem dX6_takeSilence_35 : decode cX6_takeSilence 35 = .ok (.new 80, 3) := by decide +kernel
theorem dX6_takeSilence_38 : decode cX6_takeSilence 38 = .ok (.dup, 1) := by decide +kernel
theorem dX6_takeSilence_39 : decode cX6_takeSilence 39 = .ok (.ldc 134, 2) := by decide +kernel
theorem dX6_takeSilence_41 : decode cX6_takeSilence 41 = .ok (.invokespecial 84, 3) := by decide +kernel
theorem dX6_takeSilence_44 : decode cX6_takeSilence 44 = .ok (.athrow, 1) := by decide +kernel
theorem dX6_takeSilence_45 : decode cX6_takeSilence 45 = .ok (.aload_n 0, 1) := by decide +kernel
theorem dX6_takeSilence_46 : decode cX6_takeSilence 46 = .ok (.bipush 13, 2) := by decide +kernel
theorem dX6_takeSilence_48 : decode cX6_takeSilence 48 = .ok (.iload_n 1, 1) := by decide +kernel
theorem dX6_takeSilence_49 : decode cX6_takeSilence 49 = .ok (.iconst 0, 1) := by decide +kernel
theorem dX6_takeSilence_50 : decode cX6_takeSilence 50 = .ok (.invokevirtual 41, 3) := by decide +kernel
theorem dX6_takeSilence_53 : decode cX6_takeSilence 53 = .ok (.ireturn, 1) := by decide +kernel
theorem dX6_isOverdue_0 : decode cX6_isOverdue 0 = .ok (.aload_n 0, 1) := by decide +kernel
theorem dX6_isOverdue_1 : decode cX6_isOverdue 1 = .ok (.getfield 10, 3) := by decide +kernel
theorem dX6_isOverdue_4 : decode cX6_isOverdue 4 = .ok (.aload_n 0, 1) := by decide +kernel
theorem dX6_isOverdue_5 : decode cX6_isOverdue 5 = .ok (.getfield 10, 3) := by decide +kernel
theorem dX6_isOverdue_8 : decode cX6_isOverdue 8 = .ok (.aload_n 0, 1) := by decide +kernel
theorem dX6_isOverdue_9 : decode cX6_isOverdue 9 = .ok (.iload_n 1, 1) := by decide +kernel
theorem dX6_isOverdue_10 : decode cX6_isOverdue 10 = .ok (.invokevirtual 67, 3) := by decide +kernel
theorem dX6_isOverdue_13 : decode cX6_isOverdue 13 = .ok (.invokevirtual 136, 3) := by decide +kernel
theorem dX6_isOverdue_16 : decode cX6_isOverdue 16 = .ok (.invokevirtual 113, 3) := by decide +kernel
theorem dX6_isOverdue_19 : decode cX6_isOverdue 19 = .ok (.ireturn, 1) := by decide +kernel
theorem dX6_nextDue_0 : decode cX6_nextDue 0 = .ok (.aload_n 0, 1) := by decide +kernel
theorem dX6_nextDue_1 : decode cX6_nextDue 1 = .ok (.getfield 10, 3) := by decide +kernel
theorem dX6_nextDue_4 : decode cX6_nextDue 4 = .ok (.invokevirtual 140, 3) := by decide +kernel
theorem dX6_nextDue_7 : decode cX6_nextDue 7 = .ok (.istore_n 1, 1) := by decide +kernel
theorem dX6_nextDue_8 : decode cX6_nextDue 8 = .ok (.iload_n 1, 1) := by decide +kernel
theorem dX6_nextDue_9 : decode cX6_nextDue 9 = .ok (.iconst (-1), 1) := by decide +kernel
theorem dX6_nextDue_10 : decode cX6_nextDue 10 = .ok (.if_icmp .ne 13, 3) := by decide +kernel
theorem dX6_nextDue_13 : decode cX6_nextDue 13 = .ok (.new 144, 3) := by decide +kernel
theorem dX6_nextDue_16 : decode cX6_nextDue 16 = .ok (.dup, 1) := by decide +kernel
theorem dX6_nextDue_17 : decode cX6_nextDue 17 = .ok (.ldc 146, 2) := by decide +kernel
theorem dX6_nextDue_19 : decode cX6_nextDue 19 = .ok (.invokespecial 148, 3) := by decide +kernel
theorem dX6_nextDue_22 : decode cX6_nextDue 22 = .ok (.athrow, 1) := by decide +kernel
theorem dX6_nextDue_23 : decode cX6_nextDue 23 = .ok (.iload_n 1, 1) := by decide +kernel
theorem dX6_nextDue_24 : decode cX6_nextDue 24 = .ok (.ireturn, 1) := by decide +kernel
theorem dX6_join_0 : decode cX6_join 0 = .ok (.aload_n 0, 1) := by decide +kernel
theorem dX6_join_1 : decode cX6_join 1 = .ok (.iload_n 1, 1) := by decide +kernel
theorem dX6_join_2 : decode cX6_join 2 = .ok (.invokevirtual 67, 3) := by decide +kernel
theorem dX6_join_5 : decode cX6_join 5 = .ok (.astore_n 3, 1) := by decide +kernel
theorem dX6_join_6 : decode cX6_join 6 = .ok (.aload_n 0, 1) := by decide +kernel
theorem dX6_join_7 : decode cX6_join 7 = .ok (.iload_n 2, 1) := by decide +kernel
theorem dX6_join_8 : decode cX6_join 8 = .ok (.invokevirtual 67, 3) := by decide +kernel
theorem dX6_join_11 : decode cX6_join 11 = .ok (.astore 4, 2) := by decide +kernel
theorem dX6_join_13 : decode cX6_join 13 = .ok (.iload_n 1, 1) := by decide +kernel
theorem dX6_join_14 : decode cX6_join 14 = .ok (.iload_n 2, 1) := by decide +kernel
theorem dX6_join_15 : decode cX6_join 15 = .ok (.if_icmp .ne 13, 3) := by decide +kernel
theorem dX6_join_18 : decode cX6_join 18 = .ok (.new 97, 3) := by decide +kernel
theorem dX6_join_21 : decode cX6_join 21 = .ok (.dup, 1) := by decide +kernel
theorem dX6_join_22 : decode cX6_join 22 = .ok (.ldc 149, 2) := by decide +kernel
theorem dX6_join_24 : decode cX6_join 24 = .ok (.invokespecial 101, 3) := by decide +kernel
theorem dX6_join_27 : decode cX6_join 27 = .ok (.athrow, 1) := by decide +kernel
theorem dX6_join_28 : decode cX6_join 28 = .ok (.aload_n 0, 1) := by decide +kernel
theorem dX6_join_29 : decode cX6_join 29 = .ok (.getfield 10, 3) := by decide +kernel
theorem dX6_join_32 : decode cX6_join 32 = .ok (.aload_n 3, 1) := by decide +kernel
theorem dX6_join_33 : decode cX6_join 33 = .ok (.aload 4, 2) := by decide +kernel
theorem dX6_join_35 : decode cX6_join 35 = .ok (.invokevirtual 151, 3) := by decide +kernel
theorem dX6_join_38 : decode cX6_join 38 = .ok (.ifCond .ne 13, 3) := by decide +kernel
theorem dX6_join_41 : decode cX6_join 41 = .ok (.new 80, 3) := by decide +kernel
theorem dX6_join_44 : decode cX6_join 44 = .ok (.dup, 1) := by decide +kernel
theorem dX6_join_45 : decode cX6_join 45 = .ok (.ldc 155, 2) := by decide +kernel
theorem dX6_join_47 : decode cX6_join 47 = .ok (.invokespecial 84, 3) := by decide +kernel
theorem dX6_join_50 : decode cX6_join 50 = .ok (.athrow, 1) := by decide +kernel
theorem dX6_join_51 : decode cX6_join 51 = .ok (.aload_n 0, 1) := by decide +kernel
theorem dX6_join_52 : decode cX6_join 52 = .ok (.bipush 14, 2) := by decide +kernel
theorem dX6_join_54 : decode cX6_join 54 = .ok (.iload_n 1, 1) := by decide +kernel
theorem dX6_join_55 : decode cX6_join 55 = .ok (.iload_n 2, 1) := by decide +kernel
theorem dX6_join_56 : decode cX6_join 56 = .ok (.invokevirtual 41, 3) := by decide +kernel
theorem dX6_join_59 : decode cX6_join 59 = .ok (.ireturn, 1) := by decide +kernel
theorem dX6_part_0 : decode cX6_part 0 = .ok (.aload_n 0, 1) := by decide +kernel
theorem dX6_part_1 : decode cX6_part 1 = .ok (.iload_n 1, 1) := by decide +kernel
theorem dX6_part_2 : decode cX6_part 2 = .ok (.invokevirtual 67, 3) := by decide +kernel
theorem dX6_part_5 : decode cX6_part 5 = .ok (.astore_n 2, 1) := by decide +kernel
theorem dX6_part_6 : decode cX6_part 6 = .ok (.aload_n 2, 1) := by decide +kernel
theorem dX6_part_7 : decode cX6_part 7 = .ok (.invokevirtual 157, 3) := by decide +kernel
theorem dX6_part_10 : decode cX6_part 10 = .ok (.ifCond .eq 20, 3) := by decide +kernel
theorem dX6_part_13 : decode cX6_part 13 = .ok (.aload_n 0, 1) := by decide +kernel
theorem dX6_part_14 : decode cX6_part 14 = .ok (.getfield 10, 3) := by decide +kernel
theorem dX6_part_17 : decode cX6_part 17 = .ok (.aload_n 2, 1) := by decide +kernel
theorem dX6_part_18 : decode cX6_part 18 = .ok (.invokevirtual 136, 3) := by decide +kernel
theorem dX6_part_21 : decode cX6_part 21 = .ok (.getfield 161, 3) := by decide +kernel
theorem dX6_part_24 : decode cX6_part 24 = .ok (.invokevirtual 165, 3) := by decide +kernel
theorem dX6_part_27 : decode cX6_part 27 = .ok (.ifCond .eq 13, 3) := by decide +kernel
theorem dX6_part_30 : decode cX6_part 30 = .ok (.new 80, 3) := by decide +kernel
theorem dX6_part_33 : decode cX6_part 33 = .ok (.dup, 1) := by decide +kernel
theorem dX6_part_34 : decode cX6_part 34 = .ok (.ldc 170, 2) := by decide +kernel
theorem dX6_part_36 : decode cX6_part 36 = .ok (.invokespecial 84, 3) := by decide +kernel
theorem dX6_part_39 : decode cX6_part 39 = .ok (.athrow, 1) := by decide +kernel
theorem dX6_part_40 : decode cX6_part 40 = .ok (.aload_n 0, 1) := by decide +kernel
theorem dX6_part_41 : decode cX6_part 41 = .ok (.bipush 15, 2) := by decide +kernel
theorem dX6_part_43 : decode cX6_part 43 = .ok (.iload_n 1, 1) := by decide +kernel
theorem dX6_part_44 : decode cX6_part 44 = .ok (.iconst 0, 1) := by decide +kernel
theorem dX6_part_45 : decode cX6_part 45 = .ok (.invokevirtual 41, 3) := by decide +kernel
theorem dX6_part_48 : decode cX6_part 48 = .ok (.ireturn, 1) := by decide +kernel
theorem dX6_lead_0 : decode cX6_lead 0 = .ok (.aload_n 0, 1) := by decide +kernel
theorem dX6_lead_1 : decode cX6_lead 1 = .ok (.iload_n 1, 1) := by decide +kernel
theorem dX6_lead_2 : decode cX6_lead 2 = .ok (.invokevirtual 67, 3) := by decide +kernel
theorem dX6_lead_5 : decode cX6_lead 5 = .ok (.getfield 172, 3) := by decide +kernel
theorem dX6_lead_8 : decode cX6_lead 8 = .ok (.ireturn, 1) := by decide +kernel
theorem dX6_countJoined_0 : decode cX6_countJoined 0 = .ok (.aload_n 0, 1) := by decide +kernel
theorem dX6_countJoined_1 : decode cX6_countJoined 1 = .ok (.getfield 10, 3) := by decide +kernel
theorem dX6_countJoined_4 : decode cX6_countJoined 4 = .ok (.aload_n 0, 1) := by decide +kernel
theorem dX6_countJoined_5 : decode cX6_countJoined 5 = .ok (.iload_n 1, 1) := by decide +kernel
theorem dX6_countJoined_6 : decode cX6_countJoined 6 = .ok (.invokevirtual 67, 3) := by decide +kernel
theorem dX6_countJoined_9 : decode cX6_countJoined 9 = .ok (.invokevirtual 175, 3) := by decide +kernel
theorem dX6_countJoined_12 : decode cX6_countJoined 12 = .ok (.ireturn, 1) := by decide +kernel
theorem dX6_setWeight_0 : decode cX6_setWeight 0 = .ok (.aload_n 0, 1) := by decide +kernel
theorem dX6_setWeight_1 : decode cX6_setWeight 1 = .ok (.iload_n 1, 1) := by decide +kernel
theorem dX6_setWeight_2 : decode cX6_setWeight 2 = .ok (.iconst 0, 1) := by decide +kernel
theorem dX6_setWeight_3 : decode cX6_setWeight 3 = .ok (.iconst 4, 1) := by decide +kernel
theorem dX6_setWeight_4 : decode cX6_setWeight 4 = .ok (.invokevirtual 26, 3) := by decide +kernel
theorem dX6_setWeight_7 : decode cX6_setWeight 7 = .ok (.aload_n 0, 1) := by decide +kernel
theorem dX6_setWeight_8 : decode cX6_setWeight 8 = .ok (.iload_n 2, 1) := by decide +kernel
theorem dX6_setWeight_9 : decode cX6_setWeight 9 = .ok (.iconst 1, 1) := by decide +kernel
theorem dX6_setWeight_10 : decode cX6_setWeight 10 = .ok (.bipush 9, 2) := by decide +kernel
theorem dX6_setWeight_12 : decode cX6_setWeight 12 = .ok (.invokevirtual 26, 3) := by decide +kernel
theorem dX6_setWeight_15 : decode cX6_setWeight 15 = .ok (.aload_n 0, 1) := by decide +kernel
theorem dX6_setWeight_16 : decode cX6_setWeight 16 = .ok (.iconst 3, 1) := by decide +kernel
theorem dX6_setWeight_17 : decode cX6_setWeight 17 = .ok (.iload_n 1, 1) := by decide +kernel
theorem dX6_setWeight_18 : decode cX6_setWeight 18 = .ok (.iload_n 2, 1) := by decide +kernel
theorem dX6_setWeight_19 : decode cX6_setWeight 19 = .ok (.invokevirtual 41, 3) := by decide +kernel
theorem dX6_setWeight_22 : decode cX6_setWeight 22 = .ok (.ireturn, 1) := by decide +kernel
theorem dX6_find_0 : decode cX6_find 0 = .ok (.aload_n 0, 1) := by decide +kernel
theorem dX6_find_1 : decode cX6_find 1 = .ok (.iload_n 1, 1) := by decide +kernel
theorem dX6_find_2 : decode cX6_find 2 = .ok (.invokevirtual 67, 3) := by decide +kernel
theorem dX6_find_5 : decode cX6_find 5 = .ok (.astore_n 3, 1) := by decide +kernel
theorem dX6_find_6 : decode cX6_find 6 = .ok (.aload_n 0, 1) := by decide +kernel
theorem dX6_find_7 : decode cX6_find 7 = .ok (.iload_n 2, 1) := by decide +kernel
theorem dX6_find_8 : decode cX6_find 8 = .ok (.iconst 0, 1) := by decide +kernel
theorem dX6_find_9 : decode cX6_find 9 = .ok (.bipush 31, 2) := by decide +kernel
theorem dX6_find_11 : decode cX6_find 11 = .ok (.invokevirtual 26, 3) := by decide +kernel
theorem dX6_find_14 : decode cX6_find 14 = .ok (.aload_n 0, 1) := by decide +kernel
theorem dX6_find_15 : decode cX6_find 15 = .ok (.aload_n 3, 1) := by decide +kernel
theorem dX6_find_16 : decode cX6_find 16 = .ok (.bipush 115, 2) := by decide +kernel
theorem dX6_find_18 : decode cX6_find 18 = .ok (.invokevirtual 109, 3) := by decide +kernel
theorem dX6_find_21 : decode cX6_find 21 = .ok (.aload_n 0, 1) := by decide +kernel
theorem dX6_find_22 : decode cX6_find 22 = .ok (.bipush 16, 2) := by decide +kernel
theorem dX6_find_24 : decode cX6_find 24 = .ok (.iload_n 1, 1) := by decide +kernel
theorem dX6_find_25 : decode cX6_find 25 = .ok (.iload_n 2, 1) := by decide +kernel
theorem dX6_find_26 : decode cX6_find 26 = .ok (.invokevirtual 41, 3) := by decide +kernel
theorem dX6_find_29 : decode cX6_find 29 = .ok (.ireturn, 1) := by decide +kernel
theorem dX6_heads_0 : decode cX6_heads 0 = .ok (.aload_n 0, 1) := by decide +kernel
theorem dX6_heads_1 : decode cX6_heads 1 = .ok (.getfield 10, 3) := by decide +kernel
theorem dX6_heads_4 : decode cX6_heads 4 = .ok (.aload_n 0, 1) := by decide +kernel
theorem dX6_heads_5 : decode cX6_heads 5 = .ok (.iload_n 1, 1) := by decide +kernel
theorem dX6_heads_6 : decode cX6_heads 6 = .ok (.invokevirtual 67, 3) := by decide +kernel
theorem dX6_heads_9 : decode cX6_heads 9 = .ok (.invokevirtual 136, 3) := by decide +kernel
theorem dX6_heads_12 : decode cX6_heads 12 = .ok (.getfield 161, 3) := by decide +kernel
theorem dX6_heads_15 : decode cX6_heads 15 = .ok (.astore_n 2, 1) := by decide +kernel
theorem dX6_heads_16 : decode cX6_heads 16 = .ok (.aload_n 2, 1) := by decide +kernel
theorem dX6_heads_17 : decode cX6_heads 17 = .ok (.invokevirtual 165, 3) := by decide +kernel
theorem dX6_heads_20 : decode cX6_heads 20 = .ok (.ifCond .ne 13, 3) := by decide +kernel
theorem dX6_heads_23 : decode cX6_heads 23 = .ok (.new 144, 3) := by decide +kernel
theorem dX6_heads_26 : decode cX6_heads 26 = .ok (.dup, 1) := by decide +kernel
theorem dX6_heads_27 : decode cX6_heads 27 = .ok (.ldc 179, 2) := by decide +kernel
theorem dX6_heads_29 : decode cX6_heads 29 = .ok (.invokespecial 148, 3) := by decide +kernel
theorem dX6_heads_32 : decode cX6_heads 32 = .ok (.athrow, 1) := by decide +kernel
theorem dX6_heads_33 : decode cX6_heads 33 = .ok (.aload_n 2, 1) := by decide +kernel
theorem dX6_heads_34 : decode cX6_heads 34 = .ok (.getfield 181, 3) := by decide +kernel
theorem dX6_heads_37 : decode cX6_heads 37 = .ok (.ireturn, 1) := by decide +kernel
theorem dX6_remedy_0 : decode cX6_remedy 0 = .ok (.aload_n 0, 1) := by decide +kernel
theorem dX6_remedy_1 : decode cX6_remedy 1 = .ok (.getfield 10, 3) := by decide +kernel
theorem dX6_remedy_4 : decode cX6_remedy 4 = .ok (.aload_n 0, 1) := by decide +kernel
theorem dX6_remedy_5 : decode cX6_remedy 5 = .ok (.iload_n 1, 1) := by decide +kernel
theorem dX6_remedy_6 : decode cX6_remedy 6 = .ok (.invokevirtual 67, 3) := by decide +kernel
theorem dX6_remedy_9 : decode cX6_remedy 9 = .ok (.invokevirtual 136, 3) := by decide +kernel
theorem dX6_remedy_12 : decode cX6_remedy 12 = .ok (.getfield 161, 3) := by decide +kernel
theorem dX6_remedy_15 : decode cX6_remedy 15 = .ok (.astore_n 2, 1) := by decide +kernel
theorem dX6_remedy_16 : decode cX6_remedy 16 = .ok (.aload_n 2, 1) := by decide +kernel
theorem dX6_remedy_17 : decode cX6_remedy 17 = .ok (.getfield 184, 3) := by decide +kernel
theorem dX6_remedy_20 : decode cX6_remedy 20 = .ok (.ifCond .ne 13, 3) := by decide +kernel
theorem dX6_remedy_23 : decode cX6_remedy 23 = .ok (.new 144, 3) := by decide +kernel
theorem dX6_remedy_26 : decode cX6_remedy 26 = .ok (.dup, 1) := by decide +kernel
theorem dX6_remedy_27 : decode cX6_remedy 27 = .ok (.ldc 187, 2) := by decide +kernel
theorem dX6_remedy_29 : decode cX6_remedy 29 = .ok (.invokespecial 148, 3) := by decide +kernel
theorem dX6_remedy_32 : decode cX6_remedy 32 = .ok (.athrow, 1) := by decide +kernel
theorem dX6_remedy_33 : decode cX6_remedy 33 = .ok (.aload_n 2, 1) := by decide +kernel
theorem dX6_remedy_34 : decode cX6_remedy 34 = .ok (.getfield 184, 3) := by decide +kernel
theorem dX6_remedy_37 : decode cX6_remedy 37 = .ok (.ireturn, 1) := by decide +kernel
theorem dX6_accept_0 : decode cX6_accept 0 = .ok (.aload_n 0, 1) := by decide +kernel
theorem dX6_accept_1 : decode cX6_accept 1 = .ok (.iload_n 1, 1) := by decide +kernel
theorem dX6_accept_2 : decode cX6_accept 2 = .ok (.invokevirtual 67, 3) := by decide +kernel
theorem dX6_accept_5 : decode cX6_accept 5 = .ok (.astore_n 3, 1) := by decide +kernel
theorem dX6_accept_6 : decode cX6_accept 6 = .ok (.aload_n 0, 1) := by decide +kernel
theorem dX6_accept_7 : decode cX6_accept 7 = .ok (.aload_n 3, 1) := by decide +kernel
theorem dX6_accept_8 : decode cX6_accept 8 = .ok (.bipush 100, 2) := by decide +kernel
theorem dX6_accept_10 : decode cX6_accept 10 = .ok (.invokevirtual 109, 3) := by decide +kernel
theorem dX6_accept_13 : decode cX6_accept 13 = .ok (.aload_n 3, 1) := by decide +kernel
theorem dX6_accept_14 : decode cX6_accept 14 = .ok (.getfield 161, 3) := by decide +kernel
theorem dX6_accept_17 : decode cX6_accept 17 = .ok (.getfield 189, 3) := by decide +kernel
theorem dX6_accept_20 : decode cX6_accept 20 = .ok (.ifCond .eq 13, 3) := by decide +kernel
theorem dX6_accept_23 : decode cX6_accept 23 = .ok (.new 80, 3) := by decide +kernel
theorem dX6_accept_26 : decode cX6_accept 26 = .ok (.dup, 1) := by decide +kernel
theorem dX6_accept_27 : decode cX6_accept 27 = .ok (.ldc 192, 2) := by decide +kernel
theorem dX6_accept_29 : decode cX6_accept 29 = .ok (.invokespecial 84, 3) := by decide +kernel
theorem dX6_accept_32 : decode cX6_accept 32 = .ok (.athrow, 1) := by decide +kernel
theorem dX6_accept_33 : decode cX6_accept 33 = .ok (.aload_n 0, 1) := by decide +kernel
theorem dX6_accept_34 : decode cX6_accept 34 = .ok (.bipush 17, 2) := by decide +kernel
theorem dX6_accept_36 : decode cX6_accept 36 = .ok (.iload_n 1, 1) := by decide +kernel
theorem dX6_accept_37 : decode cX6_accept 37 = .ok (.iload_n 2, 1) := by decide +kernel
theorem dX6_accept_38 : decode cX6_accept 38 = .ok (.ifCond .eq 7, 3) := by decide +kernel
theorem dX6_accept_41 : decode cX6_accept 41 = .ok (.iconst 1, 1) := by decide +kernel
theorem dX6_accept_42 : decode cX6_accept 42 = .ok (.goto 4, 3) := by decide +kernel
theorem dX6_accept_45 : decode cX6_accept 45 = .ok (.iconst 0, 1) := by decide +kernel
theorem dX6_accept_46 : decode cX6_accept 46 = .ok (.invokevirtual 41, 3) := by decide +kernel
theorem dX6_accept_49 : decode cX6_accept 49 = .ok (.ireturn, 1) := by decide +kernel
theorem dX6_isAccepted_0 : decode cX6_isAccepted 0 = .ok (.aload_n 0, 1) := by decide +kernel
theorem dX6_isAccepted_1 : decode cX6_isAccepted 1 = .ok (.getfield 10, 3) := by decide +kernel
theorem dX6_isAccepted_4 : decode cX6_isAccepted 4 = .ok (.aload_n 0, 1) := by decide +kernel
theorem dX6_isAccepted_5 : decode cX6_isAccepted 5 = .ok (.iload_n 1, 1) := by decide +kernel
theorem dX6_isAccepted_6 : decode cX6_isAccepted 6 = .ok (.invokevirtual 67, 3) := by decide +kernel
theorem dX6_isAccepted_9 : decode cX6_isAccepted 9 = .ok (.invokevirtual 136, 3) := by decide +kernel
theorem dX6_isAccepted_12 : decode cX6_isAccepted 12 = .ok (.getfield 161, 3) := by decide +kernel
theorem dX6_isAccepted_15 : decode cX6_isAccepted 15 = .ok (.astore_n 2, 1) := by decide +kernel
theorem dX6_isAccepted_16 : decode cX6_isAccepted 16 = .ok (.aload_n 2, 1) := by decide +kernel
theorem dX6_isAccepted_17 : decode cX6_isAccepted 17 = .ok (.getfield 189, 3) := by decide +kernel
theorem dX6_isAccepted_20 : decode cX6_isAccepted 20 = .ok (.ifCond .ne 13, 3) := by decide +kernel
theorem dX6_isAccepted_23 : decode cX6_isAccepted 23 = .ok (.new 144, 3) := by decide +kernel
theorem dX6_isAccepted_26 : decode cX6_isAccepted 26 = .ok (.dup, 1) := by decide +kernel
theorem dX6_isAccepted_27 : decode cX6_isAccepted 27 = .ok (.ldc 194, 2) := by decide +kernel
theorem dX6_isAccepted_29 : decode cX6_isAccepted 29 = .ok (.invokespecial 148, 3) := by decide +kernel
theorem dX6_isAccepted_32 : decode cX6_isAccepted 32 = .ok (.athrow, 1) := by decide +kernel
theorem dX6_isAccepted_33 : decode cX6_isAccepted 33 = .ok (.aload_n 2, 1) := by decide +kernel
theorem dX6_isAccepted_34 : decode cX6_isAccepted 34 = .ok (.getfield 196, 3) := by decide +kernel
theorem dX6_isAccepted_37 : decode cX6_isAccepted 37 = .ok (.ireturn, 1) := by decide +kernel
theorem dX6_heed_0 : decode cX6_heed 0 = .ok (.aload_n 0, 1) := by decide +kernel
theorem dX6_heed_1 : decode cX6_heed 1 = .ok (.iload_n 1, 1) := by decide +kernel
theorem dX6_heed_2 : decode cX6_heed 2 = .ok (.invokevirtual 67, 3) := by decide +kernel
theorem dX6_heed_5 : decode cX6_heed 5 = .ok (.astore_n 2, 1) := by decide +kernel
theorem dX6_heed_6 : decode cX6_heed 6 = .ok (.aload_n 0, 1) := by decide +kernel
theorem dX6_heed_7 : decode cX6_heed 7 = .ok (.aload_n 2, 1) := by decide +kernel
theorem dX6_heed_8 : decode cX6_heed 8 = .ok (.bipush 100, 2) := by decide +kernel
theorem dX6_heed_10 : decode cX6_heed 10 = .ok (.invokevirtual 109, 3) := by decide +kernel
theorem dX6_heed_13 : decode cX6_heed 13 = .ok (.aload_n 0, 1) := by decide +kernel
theorem dX6_heed_14 : decode cX6_heed 14 = .ok (.getfield 10, 3) := by decide +kernel
theorem dX6_heed_17 : decode cX6_heed 17 = .ok (.getfield 45, 3) := by decide +kernel
theorem dX6_heed_20 : decode cX6_heed 20 = .ok (.aload_n 2, 1) := by decide +kernel
theorem dX6_heed_21 : decode cX6_heed 21 = .ok (.getfield 161, 3) := by decide +kernel
theorem dX6_heed_24 : decode cX6_heed 24 = .ok (.getfield 199, 3) := by decide +kernel
theorem dX6_heed_27 : decode cX6_heed 27 = .ok (.if_icmp .le 13, 3) := by decide +kernel
theorem dX6_heed_30 : decode cX6_heed 30 = .ok (.new 80, 3) := by decide +kernel
theorem dX6_heed_33 : decode cX6_heed 33 = .ok (.dup, 1) := by decide +kernel
theorem dX6_heed_34 : decode cX6_heed 34 = .ok (.ldc 202, 2) := by decide +kernel
theorem dX6_heed_36 : decode cX6_heed 36 = .ok (.invokespecial 84, 3) := by decide +kernel
theorem dX6_heed_39 : decode cX6_heed 39 = .ok (.athrow, 1) := by decide +kernel
theorem dX6_heed_40 : decode cX6_heed 40 = .ok (.aload_n 0, 1) := by decide +kernel
theorem dX6_heed_41 : decode cX6_heed 41 = .ok (.bipush 18, 2) := by decide +kernel
theorem dX6_heed_43 : decode cX6_heed 43 = .ok (.iload_n 1, 1) := by decide +kernel
theorem dX6_heed_44 : decode cX6_heed 44 = .ok (.iconst 0, 1) := by decide +kernel
theorem dX6_heed_45 : decode cX6_heed 45 = .ok (.invokevirtual 41, 3) := by decide +kernel
theorem dX6_heed_48 : decode cX6_heed 48 = .ok (.ireturn, 1) := by decide +kernel
theorem dX6_followUp_0 : decode cX6_followUp 0 = .ok (.aload_n 0, 1) := by decide +kernel
theorem dX6_followUp_1 : decode cX6_followUp 1 = .ok (.iload_n 1, 1) := by decide +kernel
theorem dX6_followUp_2 : decode cX6_followUp 2 = .ok (.invokevirtual 67, 3) := by decide +kernel
theorem dX6_followUp_5 : decode cX6_followUp 5 = .ok (.astore_n 2, 1) := by decide +kernel
theorem dX6_followUp_6 : decode cX6_followUp 6 = .ok (.aload_n 0, 1) := by decide +kernel
theorem dX6_followUp_7 : decode cX6_followUp 7 = .ok (.aload_n 2, 1) := by decide +kernel
theorem dX6_followUp_8 : decode cX6_followUp 8 = .ok (.bipush 100, 2) := by decide +kernel
theorem dX6_followUp_10 : decode cX6_followUp 10 = .ok (.invokevirtual 109, 3) := by decide +kernel
theorem dX6_followUp_13 : decode cX6_followUp 13 = .ok (.aload_n 0, 1) := by decide +kernel
theorem dX6_followUp_14 : decode cX6_followUp 14 = .ok (.getfield 10, 3) := by decide +kernel
theorem dX6_followUp_17 : decode cX6_followUp 17 = .ok (.getfield 45, 3) := by decide +kernel
theorem dX6_followUp_20 : decode cX6_followUp 20 = .ok (.aload_n 2, 1) := by decide +kernel
theorem dX6_followUp_21 : decode cX6_followUp 21 = .ok (.getfield 161, 3) := by decide +kernel
theorem dX6_followUp_24 : decode cX6_followUp 24 = .ok (.getfield 199, 3) := by decide +kernel
theorem dX6_followUp_27 : decode cX6_followUp 27 = .ok (.if_icmp .gt 13, 3) := by decide +kernel
theorem dX6_followUp_30 : decode cX6_followUp 30 = .ok (.new 80, 3) := by decide +kernel
theorem dX6_followUp_33 : decode cX6_followUp 33 = .ok (.dup, 1) := by decide +kernel
theorem dX6_followUp_34 : decode cX6_followUp 34 = .ok (.ldc 204, 2) := by decide +kernel
theorem dX6_followUp_36 : decode cX6_followUp 36 = .ok (.invokespecial 84, 3) := by decide +kernel
theorem dX6_followUp_39 : decode cX6_followUp 39 = .ok (.athrow, 1) := by decide +kernel
theorem dX6_followUp_40 : decode cX6_followUp 40 = .ok (.aload_n 0, 1) := by decide +kernel
theorem dX6_followUp_41 : decode cX6_followUp 41 = .ok (.bipush 19, 2) := by decide +kernel
theorem dX6_followUp_43 : decode cX6_followUp 43 = .ok (.iload_n 1, 1) := by decide +kernel
theorem dX6_followUp_44 : decode cX6_followUp 44 = .ok (.iconst 0, 1) := by decide +kernel
theorem dX6_followUp_45 : decode cX6_followUp 45 = .ok (.invokevirtual 41, 3) := by decide +kernel
theorem dX6_followUp_48 : decode cX6_followUp 48 = .ok (.ireturn, 1) := by decide +kernel
theorem dX6_withdraw_0 : decode cX6_withdraw 0 = .ok (.aload_n 0, 1) := by decide +kernel
theorem dX6_withdraw_1 : decode cX6_withdraw 1 = .ok (.iload_n 1, 1) := by decide +kernel
theorem dX6_withdraw_2 : decode cX6_withdraw 2 = .ok (.invokevirtual 67, 3) := by decide +kernel
theorem dX6_withdraw_5 : decode cX6_withdraw 5 = .ok (.astore_n 2, 1) := by decide +kernel
theorem dX6_withdraw_6 : decode cX6_withdraw 6 = .ok (.aload_n 2, 1) := by decide +kernel
theorem dX6_withdraw_7 : decode cX6_withdraw 7 = .ok (.invokevirtual 157, 3) := by decide +kernel
theorem dX6_withdraw_10 : decode cX6_withdraw 10 = .ok (.ifCond .ne 13, 3) := by decide +kernel
theorem dX6_withdraw_13 : decode cX6_withdraw 13 = .ok (.aload_n 2, 1) := by decide +kernel
theorem dX6_withdraw_14 : decode cX6_withdraw 14 = .ok (.getfield 85, 3) := by decide +kernel
theorem dX6_withdraw_17 : decode cX6_withdraw 17 = .ok (.invokestatic 206, 3) := by decide +kernel
theorem dX6_withdraw_20 : decode cX6_withdraw 20 = .ok (.ifCond .eq 13, 3) := by decide +kernel
theorem dX6_withdraw_23 : decode cX6_withdraw 23 = .ok (.new 80, 3) := by decide +kernel
theorem dX6_withdraw_26 : decode cX6_withdraw 26 = .ok (.dup, 1) := by decide +kernel
theorem dX6_withdraw_27 : decode cX6_withdraw 27 = .ok (.ldc 210, 2) := by decide +kernel
theorem dX6_withdraw_29 : decode cX6_withdraw 29 = .ok (.invokespecial 84, 3) := by decide +kernel
theorem dX6_withdraw_32 : decode cX6_withdraw 32 = .ok (.athrow, 1) := by decide +kernel
theorem dX6_withdraw_33 : decode cX6_withdraw 33 = .ok (.aload_n 0, 1) := by decide +kernel
theorem dX6_withdraw_34 : decode cX6_withdraw 34 = .ok (.bipush 20, 2) := by decide +kernel
theorem dX6_withdraw_36 : decode cX6_withdraw 36 = .ok (.iload_n 1, 1) := by decide +kernel
theorem dX6_withdraw_37 : decode cX6_withdraw 37 = .ok (.iconst 0, 1) := by decide +kernel
theorem dX6_withdraw_38 : decode cX6_withdraw 38 = .ok (.invokevirtual 41, 3) := by decide +kernel
theorem dX6_withdraw_41 : decode cX6_withdraw 41 = .ok (.ireturn, 1) := by decide +kernel
theorem dX6_days_0 : decode cX6_days 0 = .ok (.aload_n 0, 1) := by decide +kernel
theorem dX6_days_1 : decode cX6_days 1 = .ok (.iload_n 1, 1) := by decide +kernel
theorem dX6_days_2 : decode cX6_days 2 = .ok (.invokevirtual 67, 3) := by decide +kernel
theorem dX6_days_5 : decode cX6_days 5 = .ok (.aload_n 0, 1) := by decide +kernel
theorem dX6_days_6 : decode cX6_days 6 = .ok (.getfield 10, 3) := by decide +kernel
theorem dX6_days_9 : decode cX6_days 9 = .ok (.getfield 45, 3) := by decide +kernel
theorem dX6_days_12 : decode cX6_days 12 = .ok (.invokevirtual 212, 3) := by decide +kernel
theorem dX6_days_15 : decode cX6_days 15 = .ok (.ireturn, 1) := by decide +kernel
theorem dX6_heededShare_0 : decode cX6_heededShare 0 = .ok (.aload_n 0, 1) := by decide +kernel
theorem dX6_heededShare_1 : decode cX6_heededShare 1 = .ok (.iload_n 1, 1) := by decide +kernel
theorem dX6_heededShare_2 : decode cX6_heededShare 2 = .ok (.invokevirtual 50, 3) := by decide +kernel
theorem dX6_heededShare_5 : decode cX6_heededShare 5 = .ok (.aload_n 0, 1) := by decide +kernel
theorem dX6_heededShare_6 : decode cX6_heededShare 6 = .ok (.getfield 10, 3) := by decide +kernel
theorem dX6_heededShare_9 : decode cX6_heededShare 9 = .ok (.getfield 215, 3) := by decide +kernel
theorem dX6_heededShare_12 : decode cX6_heededShare 12 = .ok (.iload_n 1, 1) := by decide +kernel
theorem dX6_heededShare_13 : decode cX6_heededShare 13 = .ok (.aaload, 1) := by decide +kernel
theorem dX6_heededShare_14 : decode cX6_heededShare 14 = .ok (.astore_n 2, 1) := by decide +kernel
theorem dX6_heededShare_15 : decode cX6_heededShare 15 = .ok (.aload_n 2, 1) := by decide +kernel
theorem dX6_heededShare_16 : decode cX6_heededShare 16 = .ok (.getfield 219, 3) := by decide +kernel
theorem dX6_heededShare_19 : decode cX6_heededShare 19 = .ok (.ifCond .ne 13, 3) := by decide +kernel
theorem dX6_heededShare_22 : decode cX6_heededShare 22 = .ok (.new 224, 3) := by decide +kernel
theorem dX6_heededShare_25 : decode cX6_heededShare 25 = .ok (.dup, 1) := by decide +kernel
theorem dX6_heededShare_26 : decode cX6_heededShare 26 = .ok (.ldc 226, 2) := by decide +kernel
theorem dX6_heededShare_28 : decode cX6_heededShare 28 = .ok (.invokespecial 228, 3) := by decide +kernel
theorem dX6_heededShare_31 : decode cX6_heededShare 31 = .ok (.athrow, 1) := by decide +kernel
theorem dX6_heededShare_32 : decode cX6_heededShare 32 = .ok (.aload_n 2, 1) := by decide +kernel
theorem dX6_heededShare_33 : decode cX6_heededShare 33 = .ok (.getfield 229, 3) := by decide +kernel
theorem dX6_heededShare_36 : decode cX6_heededShare 36 = .ok (.i2f, 1) := by decide +kernel
theorem dX6_heededShare_37 : decode cX6_heededShare 37 = .ok (.aload_n 2, 1) := by decide +kernel
theorem dX6_heededShare_38 : decode cX6_heededShare 38 = .ok (.getfield 219, 3) := by decide +kernel
theorem dX6_heededShare_41 : decode cX6_heededShare 41 = .ok (.i2f, 1) := by decide +kernel
theorem dX6_heededShare_42 : decode cX6_heededShare 42 = .ok (.fdiv, 1) := by decide +kernel
theorem dX6_heededShare_43 : decode cX6_heededShare 43 = .ok (.freturn, 1) := by decide +kernel
theorem dX6_meanDays_0 : decode cX6_meanDays 0 = .ok (.aload_n 0, 1) := by decide +kernel
theorem dX6_meanDays_1 : decode cX6_meanDays 1 = .ok (.getfield 10, 3) := by decide +kernel
theorem dX6_meanDays_4 : decode cX6_meanDays 4 = .ok (.invokevirtual 232, 3) := by decide +kernel
theorem dX6_meanDays_7 : decode cX6_meanDays 7 = .ok (.istore_n 1, 1) := by decide +kernel
theorem dX6_meanDays_8 : decode cX6_meanDays 8 = .ok (.iload_n 1, 1) := by decide +kernel
theorem dX6_meanDays_9 : decode cX6_meanDays 9 = .ok (.ifCond .ne 13, 3) := by decide +kernel
theorem dX6_meanDays_12 : decode cX6_meanDays 12 = .ok (.new 224, 3) := by decide +kernel
theorem dX6_meanDays_15 : decode cX6_meanDays 15 = .ok (.dup, 1) := by decide +kernel
theorem dX6_meanDays_16 : decode cX6_meanDays 16 = .ok (.ldc 235, 2) := by decide +kernel
theorem dX6_meanDays_18 : decode cX6_meanDays 18 = .ok (.invokespecial 228, 3) := by decide +kernel
theorem dX6_meanDays_21 : decode cX6_meanDays 21 = .ok (.athrow, 1) := by decide +kernel
theorem dX6_meanDays_22 : decode cX6_meanDays 22 = .ok (.aload_n 0, 1) := by decide +kernel
theorem dX6_meanDays_23 : decode cX6_meanDays 23 = .ok (.getfield 10, 3) := by decide +kernel
theorem dX6_meanDays_26 : decode cX6_meanDays 26 = .ok (.invokevirtual 237, 3) := by decide +kernel
theorem dX6_meanDays_29 : decode cX6_meanDays 29 = .ok (.i2d, 1) := by decide +kernel
theorem dX6_meanDays_30 : decode cX6_meanDays 30 = .ok (.iload_n 1, 1) := by decide +kernel
theorem dX6_meanDays_31 : decode cX6_meanDays 31 = .ok (.i2d, 1) := by decide +kernel
theorem dX6_meanDays_32 : decode cX6_meanDays 32 = .ok (.ddiv, 1) := by decide +kernel
theorem dX6_meanDays_33 : decode cX6_meanDays 33 = .ok (.dreturn, 1) := by decide +kernel
theorem dX6_checksum_0 : decode cX6_checksum 0 = .ok (.ldc2_w 240, 3) := by decide +kernel
theorem dX6_checksum_3 : decode cX6_checksum 3 = .ok (.lstore_n 1, 1) := by decide +kernel
theorem dX6_checksum_4 : decode cX6_checksum 4 = .ok (.iconst 0, 1) := by decide +kernel
theorem dX6_checksum_5 : decode cX6_checksum 5 = .ok (.istore_n 3, 1) := by decide +kernel
theorem dX6_checksum_6 : decode cX6_checksum 6 = .ok (.iload_n 3, 1) := by decide +kernel
theorem dX6_checksum_7 : decode cX6_checksum 7 = .ok (.aload_n 0, 1) := by decide +kernel
theorem dX6_checksum_8 : decode cX6_checksum 8 = .ok (.getfield 10, 3) := by decide +kernel
theorem dX6_checksum_11 : decode cX6_checksum 11 = .ok (.getfield 54, 3) := by decide +kernel
theorem dX6_checksum_14 : decode cX6_checksum 14 = .ok (.if_icmp .ge 53, 3) := by decide +kernel
theorem dX6_checksum_17 : decode cX6_checksum 17 = .ok (.aload_n 0, 1) := by decide +kernel
theorem dX6_checksum_18 : decode cX6_checksum 18 = .ok (.getfield 10, 3) := by decide +kernel
theorem dX6_checksum_21 : decode cX6_checksum 21 = .ok (.getfield 242, 3) := by decide +kernel
theorem dX6_checksum_24 : decode cX6_checksum 24 = .ok (.iload_n 3, 1) := by decide +kernel
theorem dX6_checksum_25 : decode cX6_checksum 25 = .ok (.aaload, 1) := by decide +kernel
theorem dX6_checksum_26 : decode cX6_checksum 26 = .ok (.astore 4, 2) := by decide +kernel
theorem dX6_checksum_28 : decode cX6_checksum 28 = .ok (.ldc2_w 246, 3) := by decide +kernel
theorem dX6_checksum_31 : decode cX6_checksum 31 = .ok (.lload_n 1, 1) := by decide +kernel
theorem dX6_checksum_32 : decode cX6_checksum 32 = .ok (.lmul, 1) := by decide +kernel
theorem dX6_checksum_33 : decode cX6_checksum 33 = .ok (.aload 4, 2) := by decide +kernel
theorem dX6_checksum_35 : decode cX6_checksum 35 = .ok (.getfield 85, 3) := by decide +kernel
theorem dX6_checksum_38 : decode cX6_checksum 38 = .ok (.i2l, 1) := by decide +kernel
theorem dX6_checksum_39 : decode cX6_checksum 39 = .ok (.ladd, 1) := by decide +kernel
theorem dX6_checksum_40 : decode cX6_checksum 40 = .ok (.lstore_n 1, 1) := by decide +kernel
theorem dX6_checksum_41 : decode cX6_checksum 41 = .ok (.ldc2_w 246, 3) := by decide +kernel
theorem dX6_checksum_44 : decode cX6_checksum 44 = .ok (.lload_n 1, 1) := by decide +kernel
theorem dX6_checksum_45 : decode cX6_checksum 45 = .ok (.lmul, 1) := by decide +kernel
theorem dX6_checksum_46 : decode cX6_checksum 46 = .ok (.aload 4, 2) := by decide +kernel
theorem dX6_checksum_48 : decode cX6_checksum 48 = .ok (.aload_n 0, 1) := by decide +kernel
theorem dX6_checksum_49 : decode cX6_checksum 49 = .ok (.getfield 10, 3) := by decide +kernel
theorem dX6_checksum_52 : decode cX6_checksum 52 = .ok (.getfield 45, 3) := by decide +kernel
theorem dX6_checksum_55 : decode cX6_checksum 55 = .ok (.invokevirtual 212, 3) := by decide +kernel
theorem dX6_checksum_58 : decode cX6_checksum 58 = .ok (.i2l, 1) := by decide +kernel
theorem dX6_checksum_59 : decode cX6_checksum 59 = .ok (.ladd, 1) := by decide +kernel
theorem dX6_checksum_60 : decode cX6_checksum 60 = .ok (.lstore_n 1, 1) := by decide +kernel
theorem dX6_checksum_61 : decode cX6_checksum 61 = .ok (.iinc 3 1, 3) := by decide +kernel
theorem dX6_checksum_64 : decode cX6_checksum 64 = .ok (.goto (-58), 3) := by decide +kernel
theorem dX6_checksum_67 : decode cX6_checksum 67 = .ok (.ldc2_w 246, 3) := by decide +kernel
theorem dX6_checksum_70 : decode cX6_checksum 70 = .ok (.lload_n 1, 1) := by decide +kernel
theorem dX6_checksum_71 : decode cX6_checksum 71 = .ok (.lmul, 1) := by decide +kernel
theorem dX6_checksum_72 : decode cX6_checksum 72 = .ok (.aload_n 0, 1) := by decide +kernel
theorem dX6_checksum_73 : decode cX6_checksum 73 = .ok (.getfield 10, 3) := by decide +kernel
theorem dX6_checksum_76 : decode cX6_checksum 76 = .ok (.getfield 45, 3) := by decide +kernel
theorem dX6_checksum_79 : decode cX6_checksum 79 = .ok (.i2l, 1) := by decide +kernel
theorem dX6_checksum_80 : decode cX6_checksum 80 = .ok (.ladd, 1) := by decide +kernel
theorem dX6_checksum_81 : decode cX6_checksum 81 = .ok (.lreturn, 1) := by decide +kernel
theorem dX6_isSound_0 : decode cX6_isSound 0 = .ok (.aload_n 0, 1) := by decide +kernel
theorem dX6_isSound_1 : decode cX6_isSound 1 = .ok (.getfield 22, 3) := by decide +kernel
theorem dX6_isSound_4 : decode cX6_isSound 4 = .ok (.aload_n 0, 1) := by decide +kernel
theorem dX6_isSound_5 : decode cX6_isSound 5 = .ok (.getfield 16, 3) := by decide +kernel
theorem dX6_isSound_8 : decode cX6_isSound 8 = .ok (.invokevirtual 248, 3) := by decide +kernel
theorem dX6_isSound_11 : decode cX6_isSound 11 = .ok (.aload_n 0, 1) := by decide +kernel
theorem dX6_isSound_12 : decode cX6_isSound 12 = .ok (.getfield 10, 3) := by decide +kernel
theorem dX6_isSound_15 : decode cX6_isSound 15 = .ok (.invokevirtual 252, 3) := by decide +kernel
theorem dX6_isSound_18 : decode cX6_isSound 18 = .ok (.ifCond .eq 21, 3) := by decide +kernel
theorem dX6_isSound_21 : decode cX6_isSound 21 = .ok (.aload_n 0, 1) := by decide +kernel
theorem dX6_isSound_22 : decode cX6_isSound 22 = .ok (.getfield 10, 3) := by decide +kernel
theorem dX6_isSound_25 : decode cX6_isSound 25 = .ok (.aload_n 0, 1) := by decide +kernel
theorem dX6_isSound_26 : decode cX6_isSound 26 = .ok (.getfield 16, 3) := by decide +kernel
theorem dX6_isSound_29 : decode cX6_isSound 29 = .ok (.invokevirtual 255, 3) := by decide +kernel
theorem dX6_isSound_32 : decode cX6_isSound 32 = .ok (.ifCond .eq 7, 3) := by decide +kernel
theorem dX6_isSound_35 : decode cX6_isSound 35 = .ok (.iconst 1, 1) := by decide +kernel
theorem dX6_isSound_36 : decode cX6_isSound 36 = .ok (.goto 4, 3) := by decide +kernel
theorem dX6_isSound_39 : decode cX6_isSound 39 = .ok (.iconst 0, 1) := by decide +kernel
theorem dX6_isSound_40 : decode cX6_isSound 40 = .ok (.ireturn, 1) := by decide +kernel
theorem dX6_happen_0 : decode cX6_happen 0 = .ok (.aload_n 0, 1) := by decide +kernel
theorem dX6_happen_1 : decode cX6_happen 1 = .ok (.getfield 22, 3) := by decide +kernel
theorem dX6_happen_4 : decode cX6_happen 4 = .ok (.iload_n 1, 1) := by decide +kernel
theorem dX6_happen_5 : decode cX6_happen 5 = .ok (.iload_n 2, 1) := by decide +kernel
theorem dX6_happen_6 : decode cX6_happen 6 = .ok (.iload_n 3, 1) := by decide +kernel
theorem dX6_happen_7 : decode cX6_happen 7 = .ok (.iconst 0, 1) := by decide +kernel
theorem dX6_happen_8 : decode cX6_happen 8 = .ok (.iconst 0, 1) := by decide +kernel
theorem dX6_happen_9 : decode cX6_happen 9 = .ok (.invokevirtual 59, 3) := by decide +kernel
theorem dX6_happen_12 : decode cX6_happen 12 = .ok (.aload_n 0, 1) := by decide +kernel
theorem dX6_happen_13 : decode cX6_happen 13 = .ok (.getfield 10, 3) := by decide +kernel
theorem dX6_happen_16 : decode cX6_happen 16 = .ok (.iload_n 1, 1) := by decide +kernel
theorem dX6_happen_17 : decode cX6_happen 17 = .ok (.iload_n 2, 1) := by decide +kernel
theorem dX6_happen_18 : decode cX6_happen 18 = .ok (.iload_n 3, 1) := by decide +kernel
theorem dX6_happen_19 : decode cX6_happen 19 = .ok (.iconst 0, 1) := by decide +kernel
theorem dX6_happen_20 : decode cX6_happen 20 = .ok (.iconst 0, 1) := by decide +kernel
theorem dX6_happen_21 : decode cX6_happen 21 = .ok (.invokevirtual 63, 3) := by decide +kernel
theorem dX6_happen_24 : decode cX6_happen 24 = .ok (.ireturn, 1) := by decide +kernel
theorem dX6_requireRange_0 : decode cX6_requireRange 0 = .ok (.iload_n 1, 1) := by decide +kernel
theorem dX6_requireRange_1 : decode cX6_requireRange 1 = .ok (.iload_n 2, 1) := by decide +kernel
theorem dX6_requireRange_2 : decode cX6_requireRange 2 = .ok (.if_icmp .lt 8, 3) := by decide +kernel
theorem dX6_requireRange_5 : decode cX6_requireRange 5 = .ok (.iload_n 1, 1) := by decide +kernel
theorem dX6_requireRange_6 : decode cX6_requireRange 6 = .ok (.iload_n 3, 1) := by decide +kernel
theorem dX6_requireRange_7 : decode cX6_requireRange 7 = .ok (.if_icmp .le 14, 3) := by decide +kernel
theorem dX6_requireRange_10 : decode cX6_requireRange 10 = .ok (.new 97, 3) := by decide +kernel
theorem dX6_requireRange_13 : decode cX6_requireRange 13 = .ok (.dup, 1) := by decide +kernel
theorem dX6_requireRange_14 : decode cX6_requireRange 14 = .ok (.ldc_w 259, 3) := by decide +kernel
theorem dX6_requireRange_17 : decode cX6_requireRange 17 = .ok (.invokespecial 101, 3) := by decide +kernel
theorem dX6_requireRange_20 : decode cX6_requireRange 20 = .ok (.athrow, 1) := by decide +kernel
theorem dX6_requireRange_21 : decode cX6_requireRange 21 = .ok (.return_, 1) := by decide +kernel
theorem dX6_requireOffice_0 : decode cX6_requireOffice 0 = .ok (.iload_n 1, 1) := by decide +kernel
theorem dX6_requireOffice_1 : decode cX6_requireOffice 1 = .ok (.ifCond .lt 14, 3) := by decide +kernel
theorem dX6_requireOffice_4 : decode cX6_requireOffice 4 = .ok (.iload_n 1, 1) := by decide +kernel
theorem dX6_requireOffice_5 : decode cX6_requireOffice 5 = .ok (.aload_n 0, 1) := by decide +kernel
theorem dX6_requireOffice_6 : decode cX6_requireOffice 6 = .ok (.getfield 10, 3) := by decide +kernel
theorem dX6_requireOffice_9 : decode cX6_requireOffice 9 = .ok (.getfield 30, 3) := by decide +kernel
theorem dX6_requireOffice_12 : decode cX6_requireOffice 12 = .ok (.if_icmp .lt 14, 3) := by decide +kernel
theorem dX6_requireOffice_15 : decode cX6_requireOffice 15 = .ok (.new 261, 3) := by decide +kernel
theorem dX6_requireOffice_18 : decode cX6_requireOffice 18 = .ok (.dup, 1) := by decide +kernel
theorem dX6_requireOffice_19 : decode cX6_requireOffice 19 = .ok (.ldc_w 263, 3) := by decide +kernel
theorem dX6_requireOffice_22 : decode cX6_requireOffice 22 = .ok (.invokespecial 265, 3) := by decide +kernel
theorem dX6_requireOffice_25 : decode cX6_requireOffice 25 = .ok (.athrow, 1) := by decide +kernel
theorem dX6_requireOffice_26 : decode cX6_requireOffice 26 = .ok (.return_, 1) := by decide +kernel
theorem dX6_known_0 : decode cX6_known 0 = .ok (.iload_n 1, 1) := by decide +kernel
theorem dX6_known_1 : decode cX6_known 1 = .ok (.ifCond .lt 14, 3) := by decide +kernel
theorem dX6_known_4 : decode cX6_known 4 = .ok (.iload_n 1, 1) := by decide +kernel
theorem dX6_known_5 : decode cX6_known 5 = .ok (.aload_n 0, 1) := by decide +kernel
theorem dX6_known_6 : decode cX6_known 6 = .ok (.getfield 10, 3) := by decide +kernel
theorem dX6_known_9 : decode cX6_known 9 = .ok (.getfield 54, 3) := by decide +kernel
theorem dX6_known_12 : decode cX6_known 12 = .ok (.if_icmp .lt 14, 3) := by decide +kernel
theorem dX6_known_15 : decode cX6_known 15 = .ok (.new 261, 3) := by decide +kernel
theorem dX6_known_18 : decode cX6_known 18 = .ok (.dup, 1) := by decide +kernel
theorem dX6_known_19 : decode cX6_known 19 = .ok (.ldc_w 266, 3) := by decide +kernel
theorem dX6_known_22 : decode cX6_known 22 = .ok (.invokespecial 265, 3) := by decide +kernel
theorem dX6_known_25 : decode cX6_known 25 = .ok (.athrow, 1) := by decide +kernel
theorem dX6_known_26 : decode cX6_known 26 = .ok (.aload_n 0, 1) := by decide +kernel
theorem dX6_known_27 : decode cX6_known 27 = .ok (.getfield 10, 3) := by decide +kernel
theorem dX6_known_30 : decode cX6_known 30 = .ok (.getfield 242, 3) := by decide +kernel
theorem dX6_known_33 : decode cX6_known 33 = .ok (.iload_n 1, 1) := by decide +kernel
theorem dX6_known_34 : decode cX6_known 34 = .ok (.aaload, 1) := by decide +kernel
theorem dX6_known_35 : decode cX6_known 35 = .ok (.areturn, 1) := by decide +kernel
theorem dX6_requireAtIntake_0 : decode cX6_requireAtIntake 0 = .ok (.aload_n 1, 1) := by decide +kernel
theorem dX6_requireAtIntake_1 : decode cX6_requireAtIntake 1 = .ok (.getfield 85, 3) := by decide +kernel
theorem dX6_requireAtIntake_4 : decode cX6_requireAtIntake 4 = .ok (.bipush 110, 2) := by decide +kernel
theorem dX6_requireAtIntake_6 : decode cX6_requireAtIntake 6 = .ok (.if_icmp .eq 23, 3) := by decide +kernel
theorem dX6_requireAtIntake_9 : decode cX6_requireAtIntake 9 = .ok (.aload_n 1, 1) := by decide +kernel
theorem dX6_requireAtIntake_10 : decode cX6_requireAtIntake 10 = .ok (.getfield 85, 3) := by decide +kernel
theorem dX6_requireAtIntake_13 : decode cX6_requireAtIntake 13 = .ok (.bipush 102, 2) := by decide +kernel
theorem dX6_requireAtIntake_15 : decode cX6_requireAtIntake 15 = .ok (.if_icmp .eq 14, 3) := by decide +kernel
theorem dX6_requireAtIntake_18 : decode cX6_requireAtIntake 18 = .ok (.new 80, 3) := by decide +kernel
theorem dX6_requireAtIntake_21 : decode cX6_requireAtIntake 21 = .ok (.dup, 1) := by decide +kernel
theorem dX6_requireAtIntake_22 : decode cX6_requireAtIntake 22 = .ok (.ldc_w 268, 3) := by decide +kernel
theorem dX6_requireAtIntake_25 : decode cX6_requireAtIntake 25 = .ok (.invokespecial 84, 3) := by decide +kernel
theorem dX6_requireAtIntake_28 : decode cX6_requireAtIntake 28 = .ok (.athrow, 1) := by decide +kernel
theorem dX6_requireAtIntake_29 : decode cX6_requireAtIntake 29 = .ok (.return_, 1) := by decide +kernel
theorem dX6_requireOwn_0 : decode cX6_requireOwn 0 = .ok (.aload_n 1, 1) := by decide +kernel
theorem dX6_requireOwn_1 : decode cX6_requireOwn 1 = .ok (.invokevirtual 157, 3) := by decide +kernel
theorem dX6_requireOwn_4 : decode cX6_requireOwn 4 = .ok (.ifCond .ne 11, 3) := by decide +kernel
theorem dX6_requireOwn_7 : decode cX6_requireOwn 7 = .ok (.aload_n 1, 1) := by decide +kernel
theorem dX6_requireOwn_8 : decode cX6_requireOwn 8 = .ok (.getfield 85, 3) := by decide +kernel
theorem dX6_requireOwn_11 : decode cX6_requireOwn 11 = .ok (.iload_n 2, 1) := by decide +kernel
theorem dX6_requireOwn_12 : decode cX6_requireOwn 12 = .ok (.if_icmp .eq 14, 3) := by decide +kernel
theorem dX6_requireOwn_15 : decode cX6_requireOwn 15 = .ok (.new 80, 3) := by decide +kernel
theorem dX6_requireOwn_18 : decode cX6_requireOwn 18 = .ok (.dup, 1) := by decide +kernel
theorem dX6_requireOwn_19 : decode cX6_requireOwn 19 = .ok (.ldc_w 270, 3) := by decide +kernel
theorem dX6_requireOwn_22 : decode cX6_requireOwn 22 = .ok (.invokespecial 84, 3) := by decide +kernel
theorem dX6_requireOwn_25 : decode cX6_requireOwn 25 = .ok (.athrow, 1) := by decide +kernel
theorem dX6_requireOwn_26 : decode cX6_requireOwn 26 = .ok (.return_, 1) := by decide +kernel
theorem dX6_isClosing_0 : decode cX6_isClosing 0 = .ok (.ldc_w 272, 3) := by decide +kernel
theorem dX6_isClosing_3 : decode cX6_isClosing 3 = .ok (.iload_n 0, 1) := by decide +kernel
theorem dX6_isClosing_4 : decode cX6_isClosing 4 = .ok (.invokevirtual 91, 3) := by decide +kernel
theorem dX6_isClosing_7 : decode cX6_isClosing 7 = .ok (.ifCond .lt 7, 3) := by decide +kernel
theorem dX6_isClosing_10 : decode cX6_isClosing 10 = .ok (.iconst 1, 1) := by decide +kernel
theorem dX6_isClosing_11 : decode cX6_isClosing 11 = .ok (.goto 4, 3) := by decide +kernel
theorem dX6_isClosing_14 : decode cX6_isClosing 14 = .ok (.iconst 0, 1) := by decide +kernel
theorem dX6_isClosing_15 : decode cX6_isClosing 15 = .ok (.ireturn, 1) := by decide +kernel
theorem dX6_remedyFor_0 : decode cX6_remedyFor 0 = .ok (.iload_n 0, 1) := by decide +kernel
theorem dX6_remedyFor_1 : decode cX6_remedyFor 1 = .ok (.iconst 3, 1) := by decide +kernel
theorem dX6_remedyFor_2 : decode cX6_remedyFor 2 = .ok (.if_icmp .gt 5, 3) := by decide +kernel
theorem dX6_remedyFor_5 : decode cX6_remedyFor 5 = .ok (.iconst 1, 1) := by decide +kernel
theorem dX6_remedyFor_6 : decode cX6_remedyFor 6 = .ok (.ireturn, 1) := by decide +kernel
theorem dX6_remedyFor_7 : decode cX6_remedyFor 7 = .ok (.iload_n 0, 1) := by decide +kernel
theorem dX6_remedyFor_8 : decode cX6_remedyFor 8 = .ok (.bipush 9, 2) := by decide +kernel
theorem dX6_remedyFor_10 : decode cX6_remedyFor 10 = .ok (.if_icmp .gt 5, 3) := by decide +kernel
theorem dX6_remedyFor_13 : decode cX6_remedyFor 13 = .ok (.iconst 2, 1) := by decide +kernel
theorem dX6_remedyFor_14 : decode cX6_remedyFor 14 = .ok (.ireturn, 1) := by decide +kernel
theorem dX6_remedyFor_15 : decode cX6_remedyFor 15 = .ok (.iload_n 0, 1) := by decide +kernel
theorem dX6_remedyFor_16 : decode cX6_remedyFor 16 = .ok (.bipush 15, 2) := by decide +kernel
theorem dX6_remedyFor_18 : decode cX6_remedyFor 18 = .ok (.if_icmp .gt 7, 3) := by decide +kernel
theorem dX6_remedyFor_21 : decode cX6_remedyFor 21 = .ok (.iconst 3, 1) := by decide +kernel
theorem dX6_remedyFor_22 : decode cX6_remedyFor 22 = .ok (.goto 4, 3) := by decide +kernel
theorem dX6_remedyFor_25 : decode cX6_remedyFor 25 = .ok (.iconst 4, 1) := by decide +kernel
theorem dX6_remedyFor_26 : decode cX6_remedyFor 26 = .ok (.ireturn, 1) := by decide +kernel
theorem dJx00060_init_a7421_0 : decode cJx00060_init_a7421 0 = .ok (.aload_n 0, 1) := by decide +kernel
theorem dJx00060_init_a7421_1 : decode cJx00060_init_a7421 1 = .ok (.aload_n 1, 1) := by decide +kernel
theorem dJx00060_init_a7421_2 : decode cJx00060_init_a7421 2 = .ok (.invokespecial 7, 3) := by decide +kernel
theorem dJx00060_init_a7421_5 : decode cJx00060_init_a7421 5 = .ok (.return_, 1) := by decide +kernel
theorem dJ11_isValidCodePoint_9a6ad_0 : decode cJ11_isValidCodePoint_9a6ad 0 = .ok (.iload_n 0, 1) := by decide +kernel
theorem dJ11_isValidCodePoint_9a6ad_1 : decode cJ11_isValidCodePoint_9a6ad 1 = .ok (.bipush 16, 2) := by decide +kernel
theorem dJ11_isValidCodePoint_9a6ad_3 : decode cJ11_isValidCodePoint_9a6ad 3 = .ok (.iushr, 1) := by decide +kernel
theorem dJ11_isValidCodePoint_9a6ad_4 : decode cJ11_isValidCodePoint_9a6ad 4 = .ok (.istore_n 1, 1) := by decide +kernel
theorem dJ11_isValidCodePoint_9a6ad_5 : decode cJ11_isValidCodePoint_9a6ad 5 = .ok (.iload_n 1, 1) := by decide +kernel
theorem dJ11_isValidCodePoint_9a6ad_6 : decode cJ11_isValidCodePoint_9a6ad 6 = .ok (.bipush 17, 2) := by decide +kernel
theorem dJ11_isValidCodePoint_9a6ad_8 : decode cJ11_isValidCodePoint_9a6ad 8 = .ok (.if_icmp .ge 7, 3) := by decide +kernel
theorem dJ11_isValidCodePoint_9a6ad_11 : decode cJ11_isValidCodePoint_9a6ad 11 = .ok (.iconst 1, 1) := by decide +kernel
theorem dJ11_isValidCodePoint_9a6ad_12 : decode cJ11_isValidCodePoint_9a6ad 12 = .ok (.goto 4, 3) := by decide +kernel
theorem dJ11_isValidCodePoint_9a6ad_15 : decode cJ11_isValidCodePoint_9a6ad 15 = .ok (.iconst 0, 1) := by decide +kernel
theorem dJ11_isValidCodePoint_9a6ad_16 : decode cJ11_isValidCodePoint_9a6ad 16 = .ok (.ireturn, 1) := by decide +kernel
theorem dJ11_highSurrogate_5068e_0 : decode cJ11_highSurrogate_5068e 0 = .ok (.iload_n 0, 1) := by decide +kernel
theorem dJ11_highSurrogate_5068e_1 : decode cJ11_highSurrogate_5068e 1 = .ok (.bipush 10, 2) := by decide +kernel
theorem dJ11_highSurrogate_5068e_3 : decode cJ11_highSurrogate_5068e 3 = .ok (.iushr, 1) := by decide +kernel
theorem dJ11_highSurrogate_5068e_4 : decode cJ11_highSurrogate_5068e 4 = .ok (.ldc 110, 2) := by decide +kernel
theorem dJ11_highSurrogate_5068e_6 : decode cJ11_highSurrogate_5068e 6 = .ok (.iadd, 1) := by decide +kernel
theorem dJ11_highSurrogate_5068e_7 : decode cJ11_highSurrogate_5068e 7 = .ok (.i2c, 1) := by decide +kernel
theorem dJ11_highSurrogate_5068e_8 : decode cJ11_highSurrogate_5068e 8 = .ok (.ireturn, 1) := by decide +kernel
theorem dJ11_lowSurrogate_5068e_0 : decode cJ11_lowSurrogate_5068e 0 = .ok (.iload_n 0, 1) := by decide +kernel
theorem dJ11_lowSurrogate_5068e_1 : decode cJ11_lowSurrogate_5068e 1 = .ok (.sipush 1023, 3) := by decide +kernel
theorem dJ11_lowSurrogate_5068e_4 : decode cJ11_lowSurrogate_5068e 4 = .ok (.iand, 1) := by decide +kernel
theorem dJ11_lowSurrogate_5068e_5 : decode cJ11_lowSurrogate_5068e 5 = .ok (.ldc 76, 2) := by decide +kernel
theorem dJ11_lowSurrogate_5068e_7 : decode cJ11_lowSurrogate_5068e 7 = .ok (.iadd, 1) := by decide +kernel
theorem dJ11_lowSurrogate_5068e_8 : decode cJ11_lowSurrogate_5068e 8 = .ok (.i2c, 1) := by decide +kernel
theorem dJ11_lowSurrogate_5068e_9 : decode cJ11_lowSurrogate_5068e 9 = .ok (.ireturn, 1) := by decide +kernel
theorem dJ9_max_7cf53_0 : decode cJ9_max_7cf53 0 = .ok (.iload_n 0, 1) := by decide +kernel
theorem dJ9_max_7cf53_1 : decode cJ9_max_7cf53 1 = .ok (.iload_n 1, 1) := by decide +kernel
theorem dJ9_max_7cf53_2 : decode cJ9_max_7cf53 2 = .ok (.if_icmp .lt 7, 3) := by decide +kernel
theorem dJ9_max_7cf53_5 : decode cJ9_max_7cf53 5 = .ok (.iload_n 0, 1) := by decide +kernel
theorem dJ9_max_7cf53_6 : decode cJ9_max_7cf53 6 = .ok (.goto 4, 3) := by decide +kernel
theorem dJ9_max_7cf53_9 : decode cJ9_max_7cf53 9 = .ok (.iload_n 1, 1) := by decide +kernel
theorem dJ9_max_7cf53_10 : decode cJ9_max_7cf53 10 = .ok (.ireturn, 1) := by decide +kernel
theorem dJ9_min_7cf53_0 : decode cJ9_min_7cf53 0 = .ok (.iload_n 0, 1) := by decide +kernel
theorem dJ9_min_7cf53_1 : decode cJ9_min_7cf53 1 = .ok (.iload_n 1, 1) := by decide +kernel
theorem dJ9_min_7cf53_2 : decode cJ9_min_7cf53 2 = .ok (.if_icmp .gt 7, 3) := by decide +kernel
theorem dJ9_min_7cf53_5 : decode cJ9_min_7cf53 5 = .ok (.iload_n 0, 1) := by decide +kernel
theorem dJ9_min_7cf53_6 : decode cJ9_min_7cf53 6 = .ok (.goto 4, 3) := by decide +kernel
theorem dJ9_min_7cf53_9 : decode cJ9_min_7cf53 9 = .ok (.iload_n 1, 1) := by decide +kernel
theorem dJ9_min_7cf53_10 : decode cJ9_min_7cf53 10 = .ok (.ireturn, 1) := by decide +kernel
theorem dJ0_length_8abf5_0 : decode cJ0_length_8abf5 0 = .ok (.aload_n 0, 1) := by decide +kernel
theorem dJ0_length_8abf5_1 : decode cJ0_length_8abf5 1 = .ok (.getfield 9, 3) := by decide +kernel
theorem dJ0_length_8abf5_4 : decode cJ0_length_8abf5 4 = .ok (.arraylength, 1) := by decide +kernel
theorem dJ0_length_8abf5_5 : decode cJ0_length_8abf5 5 = .ok (.aload_n 0, 1) := by decide +kernel
theorem dJ0_length_8abf5_6 : decode cJ0_length_8abf5 6 = .ok (.invokevirtual 335, 3) := by decide +kernel
theorem dJ0_length_8abf5_9 : decode cJ0_length_8abf5 9 = .ok (.ishr, 1) := by decide +kernel
theorem dJ0_length_8abf5_10 : decode cJ0_length_8abf5 10 = .ok (.ireturn, 1) := by decide +kernel
theorem dJ0_indexOf_0f7a4_0 : decode cJ0_indexOf_0f7a4 0 = .ok (.aload_n 0, 1) := by decide +kernel
theorem dJ0_indexOf_0f7a4_1 : decode cJ0_indexOf_0f7a4 1 = .ok (.iload_n 1, 1) := by decide +kernel
theorem dJ0_indexOf_0f7a4_2 : decode cJ0_indexOf_0f7a4 2 = .ok (.iconst 0, 1) := by decide +kernel
theorem dJ0_indexOf_0f7a4_3 : decode cJ0_indexOf_0f7a4 3 = .ok (.invokevirtual 633, 3) := by decide +kernel
theorem dJ0_indexOf_0f7a4_6 : decode cJ0_indexOf_0f7a4 6 = .ok (.ireturn, 1) := by decide +kernel
theorem dJ0_indexOf_7cf53_0 : decode cJ0_indexOf_7cf53 0 = .ok (.aload_n 0, 1) := by decide +kernel
theorem dJ0_indexOf_7cf53_1 : decode cJ0_indexOf_7cf53 1 = .ok (.invokevirtual 492, 3) := by decide +kernel
theorem dJ0_indexOf_7cf53_4 : decode cJ0_indexOf_7cf53 4 = .ok (.ifCond .eq 19, 3) := by decide +kernel
theorem dJ0_indexOf_7cf53_7 : decode cJ0_indexOf_7cf53 7 = .ok (.aload_n 0, 1) := by decide +kernel
theorem dJ0_indexOf_7cf53_8 : decode cJ0_indexOf_7cf53 8 = .ok (.getfield 9, 3) := by decide +kernel
theorem dJ0_indexOf_7cf53_11 : decode cJ0_indexOf_7cf53 11 = .ok (.iload_n 1, 1) := by decide +kernel
theorem dJ0_indexOf_7cf53_12 : decode cJ0_indexOf_7cf53 12 = .ok (.iload_n 2, 1) := by decide +kernel
theorem dJ0_indexOf_7cf53_13 : decode cJ0_indexOf_7cf53 13 = .ok (.aload_n 0, 1) := by decide +kernel
theorem dJ0_indexOf_7cf53_14 : decode cJ0_indexOf_7cf53 14 = .ok (.invokevirtual 505, 3) := by decide +kernel
theorem dJ0_indexOf_7cf53_17 : decode cJ0_indexOf_7cf53 17 = .ok (.invokestatic 637, 3) := by decide +kernel
theorem dJ0_indexOf_7cf53_20 : decode cJ0_indexOf_7cf53 20 = .ok (.goto 16, 3) := by decide +kernel
theorem dJ0_indexOf_7cf53_23 : decode cJ0_indexOf_7cf53 23 = .ok (.aload_n 0, 1) := by decide +kernel
theorem dJ0_indexOf_7cf53_24 : decode cJ0_indexOf_7cf53 24 = .ok (.getfield 9, 3) := by decide +kernel
theorem dJ0_indexOf_7cf53_27 : decode cJ0_indexOf_7cf53 27 = .ok (.iload_n 1, 1) := by decide +kernel
theorem dJ0_indexOf_7cf53_28 : decode cJ0_indexOf_7cf53 28 = .ok (.iload_n 2, 1) := by decide +kernel
theorem dJ0_indexOf_7cf53_29 : decode cJ0_indexOf_7cf53 29 = .ok (.aload_n 0, 1) := by decide +kernel
theorem dJ0_indexOf_7cf53_30 : decode cJ0_indexOf_7cf53 30 = .ok (.invokevirtual 505, 3) := by decide +kernel
theorem dJ0_indexOf_7cf53_33 : decode cJ0_indexOf_7cf53 33 = .ok (.invokestatic 640, 3) := by decide +kernel
theorem dJ0_indexOf_7cf53_36 : decode cJ0_indexOf_7cf53 36 = .ok (.ireturn, 1) := by decide +kernel
theorem dJ0_coder_7d493_0 : decode cJ0_coder_7d493 0 = .ok (.getstatic 38, 3) := by decide +kernel
theorem dJ0_coder_7d493_3 : decode cJ0_coder_7d493 3 = .ok (.ifCond .eq 10, 3) := by decide +kernel
theorem dJ0_coder_7d493_6 : decode cJ0_coder_7d493 6 = .ok (.aload_n 0, 1) := by decide +kernel
theorem dJ0_coder_7d493_7 : decode cJ0_coder_7d493 7 = .ok (.getfield 15, 3) := by decide +kernel
theorem dJ0_coder_7d493_10 : decode cJ0_coder_7d493 10 = .ok (.goto 4, 3) := by decide +kernel
theorem dJ0_coder_7d493_13 : decode cJ0_coder_7d493 13 = .ok (.iconst 1, 1) := by decide +kernel
theorem dJ0_coder_7d493_14 : decode cJ0_coder_7d493 14 = .ok (.ireturn, 1) := by decide +kernel
theorem dJ0_isLatin1_aae02_0 : decode cJ0_isLatin1_aae02 0 = .ok (.getstatic 38, 3) := by decide +kernel
theorem dJ0_isLatin1_aae02_3 : decode cJ0_isLatin1_aae02 3 = .ok (.ifCond .eq 14, 3) := by decide +kernel
theorem dJ0_isLatin1_aae02_6 : decode cJ0_isLatin1_aae02 6 = .ok (.aload_n 0, 1) := by decide +kernel
theorem dJ0_isLatin1_aae02_7 : decode cJ0_isLatin1_aae02 7 = .ok (.getfield 15, 3) := by decide +kernel
theorem dJ0_isLatin1_aae02_10 : decode cJ0_isLatin1_aae02 10 = .ok (.ifCond .ne 7, 3) := by decide +kernel
theorem dJ0_isLatin1_aae02_13 : decode cJ0_isLatin1_aae02 13 = .ok (.iconst 1, 1) := by decide +kernel
theorem dJ0_isLatin1_aae02_14 : decode cJ0_isLatin1_aae02 14 = .ok (.goto 4, 3) := by decide +kernel
theorem dJ0_isLatin1_aae02_17 : decode cJ0_isLatin1_aae02 17 = .ok (.iconst 0, 1) := by decide +kernel
theorem dJ0_isLatin1_aae02_18 : decode cJ0_isLatin1_aae02 18 = .ok (.ireturn, 1) := by decide +kernel
theorem dJ0_checkBoundsBeginEnd_23922_0 : decode cJ0_checkBoundsBeginEnd_23922 0 = .ok (.iload_n 0, 1) := by decide +kernel
theorem dJ0_checkBoundsBeginEnd_23922_1 : decode cJ0_checkBoundsBeginEnd_23922 1 = .ok (.iload_n 1, 1) := by decide +kernel
theorem dJ0_checkBoundsBeginEnd_23922_2 : decode cJ0_checkBoundsBeginEnd_23922 2 = .ok (.iload_n 2, 1) := by decide +kernel
theorem dJ0_checkBoundsBeginEnd_23922_3 : decode cJ0_checkBoundsBeginEnd_23922 3 = .ok (.getstatic 1053, 3) := by decide +kernel
theorem dJ0_checkBoundsBeginEnd_23922_6 : decode cJ0_checkBoundsBeginEnd_23922 6 = .ok (.invokestatic 1062, 3) := by decide +kernel
theorem dJ0_checkBoundsBeginEnd_23922_9 : decode cJ0_checkBoundsBeginEnd_23922 9 = .ok (.pop, 1) := by decide +kernel
theorem dJ0_checkBoundsBeginEnd_23922_10 : decode cJ0_checkBoundsBeginEnd_23922 10 = .ok (.return_, 1) := by decide +kernel
theorem dJ1_canEncode_9a6ad_0 : decode cJ1_canEncode_9a6ad 0 = .ok (.iload_n 0, 1) := by decide +kernel
theorem dJ1_canEncode_9a6ad_1 : decode cJ1_canEncode_9a6ad 1 = .ok (.ifCond .lt 14, 3) := by decide +kernel
theorem dJ1_canEncode_9a6ad_4 : decode cJ1_canEncode_9a6ad 4 = .ok (.iload_n 0, 1) := by decide +kernel
theorem dJ1_canEncode_9a6ad_5 : decode cJ1_canEncode_9a6ad 5 = .ok (.sipush 255, 3) := by decide +kernel
theorem dJ1_canEncode_9a6ad_8 : decode cJ1_canEncode_9a6ad 8 = .ok (.if_icmp .gt 7, 3) := by decide +kernel
theorem dJ1_canEncode_9a6ad_11 : decode cJ1_canEncode_9a6ad 11 = .ok (.iconst 1, 1) := by decide +kernel
theorem dJ1_canEncode_9a6ad_12 : decode cJ1_canEncode_9a6ad 12 = .ok (.goto 4, 3) := by decide +kernel
theorem dJ1_canEncode_9a6ad_15 : decode cJ1_canEncode_9a6ad 15 = .ok (.iconst 0, 1) := by decide +kernel
theorem dJ1_canEncode_9a6ad_16 : decode cJ1_canEncode_9a6ad 16 = .ok (.ireturn, 1) := by decide +kernel
theorem dJ1_indexOf_4cfef_0 : decode cJ1_indexOf_4cfef 0 = .ok (.iload_n 1, 1) := by decide +kernel
theorem dJ1_indexOf_4cfef_1 : decode cJ1_indexOf_4cfef 1 = .ok (.invokestatic 88, 3) := by decide +kernel
theorem dJ1_indexOf_4cfef_4 : decode cJ1_indexOf_4cfef 4 = .ok (.ifCond .ne 5, 3) := by decide +kernel
theorem dJ1_indexOf_4cfef_7 : decode cJ1_indexOf_4cfef 7 = .ok (.iconst (-1), 1) := by decide +kernel
theorem dJ1_indexOf_4cfef_8 : decode cJ1_indexOf_4cfef 8 = .ok (.ireturn, 1) := by decide +kernel
theorem dJ1_indexOf_4cfef_9 : decode cJ1_indexOf_4cfef 9 = .ok (.iload_n 2, 1) := by decide +kernel
theorem dJ1_indexOf_4cfef_10 : decode cJ1_indexOf_4cfef 10 = .ok (.iconst 0, 1) := by decide +kernel
theorem dJ1_indexOf_4cfef_11 : decode cJ1_indexOf_4cfef 11 = .ok (.invokestatic 92, 3) := by decide +kernel
theorem dJ1_indexOf_4cfef_14 : decode cJ1_indexOf_4cfef 14 = .ok (.istore_n 2, 1) := by decide +kernel
theorem dJ1_indexOf_4cfef_15 : decode cJ1_indexOf_4cfef 15 = .ok (.iload_n 3, 1) := by decide +kernel
theorem dJ1_indexOf_4cfef_16 : decode cJ1_indexOf_4cfef 16 = .ok (.aload_n 0, 1) := by decide +kernel
theorem dJ1_indexOf_4cfef_17 : decode cJ1_indexOf_4cfef 17 = .ok (.arraylength, 1) := by decide +kernel
theorem dJ1_indexOf_4cfef_18 : decode cJ1_indexOf_4cfef 18 = .ok (.invokestatic 38, 3) := by decide +kernel
theorem dJ1_indexOf_4cfef_21 : decode cJ1_indexOf_4cfef 21 = .ok (.istore_n 3, 1) := by decide +kernel
theorem dJ1_indexOf_4cfef_22 : decode cJ1_indexOf_4cfef 22 = .ok (.iload_n 2, 1) := by decide +kernel
theorem dJ1_indexOf_4cfef_23 : decode cJ1_indexOf_4cfef 23 = .ok (.iload_n 3, 1) := by decide +kernel
theorem dJ1_indexOf_4cfef_24 : decode cJ1_indexOf_4cfef 24 = .ok (.if_icmp .lt 5, 3) := by decide +kernel
theorem dJ1_indexOf_4cfef_27 : decode cJ1_indexOf_4cfef 27 = .ok (.iconst (-1), 1) := by decide +kernel
theorem dJ1_indexOf_4cfef_28 : decode cJ1_indexOf_4cfef 28 = .ok (.ireturn, 1) := by decide +kernel
theorem dJ1_indexOf_4cfef_29 : decode cJ1_indexOf_4cfef 29 = .ok (.aload_n 0, 1) := by decide +kernel
theorem dJ1_indexOf_4cfef_30 : decode cJ1_indexOf_4cfef 30 = .ok (.iload_n 1, 1) := by decide +kernel
theorem dJ1_indexOf_4cfef_31 : decode cJ1_indexOf_4cfef 31 = .ok (.iload_n 2, 1) := by decide +kernel
theorem dJ1_indexOf_4cfef_32 : decode cJ1_indexOf_4cfef 32 = .ok (.iload_n 3, 1) := by decide +kernel
theorem dJ1_indexOf_4cfef_33 : decode cJ1_indexOf_4cfef 33 = .ok (.invokestatic 95, 3) := by decide +kernel
theorem dJ1_indexOf_4cfef_36 : decode cJ1_indexOf_4cfef 36 = .ok (.ireturn, 1) := by decide +kernel
theorem dJ1_indexOfChar_4cfef_0 : decode cJ1_indexOfChar_4cfef 0 = .ok (.iload_n 1, 1) := by decide +kernel
theorem dJ1_indexOfChar_4cfef_1 : decode cJ1_indexOfChar_4cfef 1 = .ok (.i2b, 1) := by decide +kernel
theorem dJ1_indexOfChar_4cfef_2 : decode cJ1_indexOfChar_4cfef 2 = .ok (.istore 4, 2) := by decide +kernel
theorem dJ1_indexOfChar_4cfef_4 : decode cJ1_indexOfChar_4cfef 4 = .ok (.iload_n 2, 1) := by decide +kernel
theorem dJ1_indexOfChar_4cfef_5 : decode cJ1_indexOfChar_4cfef 5 = .ok (.istore 5, 2) := by decide +kernel
theorem dJ1_indexOfChar_4cfef_7 : decode cJ1_indexOfChar_4cfef 7 = .ok (.iload 5, 2) := by decide +kernel
theorem dJ1_indexOfChar_4cfef_9 : decode cJ1_indexOfChar_4cfef 9 = .ok (.iload_n 3, 1) := by decide +kernel
theorem dJ1_indexOfChar_4cfef_10 : decode cJ1_indexOfChar_4cfef 10 = .ok (.if_icmp .ge 21, 3) := by decide +kernel
theorem dJ1_indexOfChar_4cfef_13 : decode cJ1_indexOfChar_4cfef 13 = .ok (.aload_n 0, 1) := by decide +kernel
theorem dJ1_indexOfChar_4cfef_14 : decode cJ1_indexOfChar_4cfef 14 = .ok (.iload 5, 2) := by decide +kernel
theorem dJ1_indexOfChar_4cfef_16 : decode cJ1_indexOfChar_4cfef 16 = .ok (.baload, 1) := by decide +kernel
theorem dJ1_indexOfChar_4cfef_17 : decode cJ1_indexOfChar_4cfef 17 = .ok (.iload 4, 2) := by decide +kernel
theorem dJ1_indexOfChar_4cfef_19 : decode cJ1_indexOfChar_4cfef 19 = .ok (.if_icmp .ne 6, 3) := by decide +kernel
theorem dJ1_indexOfChar_4cfef_22 : decode cJ1_indexOfChar_4cfef 22 = .ok (.iload 5, 2) := by decide +kernel
theorem dJ1_indexOfChar_4cfef_24 : decode cJ1_indexOfChar_4cfef 24 = .ok (.ireturn, 1) := by decide +kernel
theorem dJ1_indexOfChar_4cfef_25 : decode cJ1_indexOfChar_4cfef 25 = .ok (.iinc 5 1, 3) := by decide +kernel
theorem dJ1_indexOfChar_4cfef_28 : decode cJ1_indexOfChar_4cfef 28 = .ok (.goto (-21), 3) := by decide +kernel
theorem dJ1_indexOfChar_4cfef_31 : decode cJ1_indexOfChar_4cfef 31 = .ok (.iconst (-1), 1) := by decide +kernel
theorem dJ1_indexOfChar_4cfef_32 : decode cJ1_indexOfChar_4cfef 32 = .ok (.ireturn, 1) := by decide +kernel
theorem dJ2_getChar_3b067_0 : decode cJ2_getChar_3b067 0 = .ok (.getstatic 44, 3) := by decide +kernel
theorem dJ2_getChar_3b067_3 : decode cJ2_getChar_3b067 3 = .ok (.ifCond .ne 25, 3) := by decide +kernel
theorem dJ2_getChar_3b067_6 : decode cJ2_getChar_3b067 6 = .ok (.iload_n 1, 1) := by decide +kernel
theorem dJ2_getChar_3b067_7 : decode cJ2_getChar_3b067 7 = .ok (.ifCond .lt 11, 3) := by decide +kernel
theorem dJ2_getChar_3b067_10 : decode cJ2_getChar_3b067 10 = .ok (.iload_n 1, 1) := by decide +kernel
theorem dJ2_getChar_3b067_11 : decode cJ2_getChar_3b067 11 = .ok (.aload_n 0, 1) := by decide +kernel
theorem dJ2_getChar_3b067_12 : decode cJ2_getChar_3b067 12 = .ok (.invokestatic 48, 3) := by decide +kernel
theorem dJ2_getChar_3b067_15 : decode cJ2_getChar_3b067 15 = .ok (.if_icmp .lt 13, 3) := by decide +kernel
theorem dJ2_getChar_3b067_18 : decode cJ2_getChar_3b067 18 = .ok (.new 52, 3) := by decide +kernel
theorem dJ2_getChar_3b067_21 : decode cJ2_getChar_3b067 21 = .ok (.dup, 1) := by decide +kernel
theorem dJ2_getChar_3b067_22 : decode cJ2_getChar_3b067 22 = .ok (.ldc 54, 2) := by decide +kernel
theorem dJ2_getChar_3b067_24 : decode cJ2_getChar_3b067 24 = .ok (.invokespecial 56, 3) := by decide +kernel
theorem dJ2_getChar_3b067_27 : decode cJ2_getChar_3b067 27 = .ok (.athrow, 1) := by decide +kernel
theorem dJ2_getChar_3b067_28 : decode cJ2_getChar_3b067 28 = .ok (.iload_n 1, 1) := by decide +kernel
theorem dJ2_getChar_3b067_29 : decode cJ2_getChar_3b067 29 = .ok (.iconst 1, 1) := by decide +kernel
theorem dJ2_getChar_3b067_30 : decode cJ2_getChar_3b067 30 = .ok (.ishl, 1) := by decide +kernel
theorem dJ2_getChar_3b067_31 : decode cJ2_getChar_3b067 31 = .ok (.istore_n 1, 1) := by decide +kernel
theorem dJ2_getChar_3b067_32 : decode cJ2_getChar_3b067 32 = .ok (.aload_n 0, 1) := by decide +kernel
theorem dJ2_getChar_3b067_33 : decode cJ2_getChar_3b067 33 = .ok (.iload_n 1, 1) := by decide +kernel
theorem dJ2_getChar_3b067_34 : decode cJ2_getChar_3b067 34 = .ok (.iinc 1 1, 3) := by decide +kernel
theorem dJ2_getChar_3b067_37 : decode cJ2_getChar_3b067 37 = .ok (.baload, 1) := by decide +kernel
theorem dJ2_getChar_3b067_38 : decode cJ2_getChar_3b067 38 = .ok (.sipush 255, 3) := by decide +kernel
theorem dJ2_getChar_3b067_41 : decode cJ2_getChar_3b067 41 = .ok (.iand, 1) := by decide +kernel
theorem dJ2_getChar_3b067_42 : decode cJ2_getChar_3b067 42 = .ok (.getstatic 59, 3) := by decide +kernel
theorem dJ2_getChar_3b067_45 : decode cJ2_getChar_3b067 45 = .ok (.ishl, 1) := by decide +kernel
theorem dJ2_getChar_3b067_46 : decode cJ2_getChar_3b067 46 = .ok (.aload_n 0, 1) := by decide +kernel
theorem dJ2_getChar_3b067_47 : decode cJ2_getChar_3b067 47 = .ok (.iload_n 1, 1) := by decide +kernel
theorem dJ2_getChar_3b067_48 : decode cJ2_getChar_3b067 48 = .ok (.baload, 1) := by decide +kernel
theorem dJ2_getChar_3b067_49 : decode cJ2_getChar_3b067 49 = .ok (.sipush 255, 3) := by decide +kernel
theorem dJ2_getChar_3b067_52 : decode cJ2_getChar_3b067 52 = .ok (.iand, 1) := by decide +kernel
theorem dJ2_getChar_3b067_53 : decode cJ2_getChar_3b067 53 = .ok (.getstatic 63, 3) := by decide +kernel
theorem dJ2_getChar_3b067_56 : decode cJ2_getChar_3b067 56 = .ok (.ishl, 1) := by decide +kernel
theorem dJ2_getChar_3b067_57 : decode cJ2_getChar_3b067 57 = .ok (.ior, 1) := by decide +kernel
theorem dJ2_getChar_3b067_58 : decode cJ2_getChar_3b067 58 = .ok (.i2c, 1) := by decide +kernel
theorem dJ2_getChar_3b067_59 : decode cJ2_getChar_3b067 59 = .ok (.ireturn, 1) := by decide +kernel
theorem dJ2_length_9d52b_0 : decode cJ2_length_9d52b 0 = .ok (.aload_n 0, 1) := by decide +kernel
theorem dJ2_length_9d52b_1 : decode cJ2_length_9d52b 1 = .ok (.arraylength, 1) := by decide +kernel
theorem dJ2_length_9d52b_2 : decode cJ2_length_9d52b 2 = .ok (.iconst 1, 1) := by decide +kernel
theorem dJ2_length_9d52b_3 : decode cJ2_length_9d52b 3 = .ok (.ishr, 1) := by decide +kernel
theorem dJ2_length_9d52b_4 : decode cJ2_length_9d52b 4 = .ok (.ireturn, 1) := by decide +kernel
theorem dJ2_indexOf_4cfef_0 : decode cJ2_indexOf_4cfef 0 = .ok (.iload_n 2, 1) := by decide +kernel
theorem dJ2_indexOf_4cfef_1 : decode cJ2_indexOf_4cfef 1 = .ok (.iconst 0, 1) := by decide +kernel
theorem dJ2_indexOf_4cfef_2 : decode cJ2_indexOf_4cfef 2 = .ok (.invokestatic 224, 3) := by decide +kernel
theorem dJ2_indexOf_4cfef_5 : decode cJ2_indexOf_4cfef 5 = .ok (.istore_n 2, 1) := by decide +kernel
theorem dJ2_indexOf_4cfef_6 : decode cJ2_indexOf_4cfef 6 = .ok (.iload_n 3, 1) := by decide +kernel
theorem dJ2_indexOf_4cfef_7 : decode cJ2_indexOf_4cfef 7 = .ok (.aload_n 0, 1) := by decide +kernel
theorem dJ2_indexOf_4cfef_8 : decode cJ2_indexOf_4cfef 8 = .ok (.arraylength, 1) := by decide +kernel
theorem dJ2_indexOf_4cfef_9 : decode cJ2_indexOf_4cfef 9 = .ok (.iconst 1, 1) := by decide +kernel
theorem dJ2_indexOf_4cfef_10 : decode cJ2_indexOf_4cfef 10 = .ok (.ishr, 1) := by decide +kernel
theorem dJ2_indexOf_4cfef_11 : decode cJ2_indexOf_4cfef 11 = .ok (.invokestatic 183, 3) := by decide +kernel
theorem dJ2_indexOf_4cfef_14 : decode cJ2_indexOf_4cfef 14 = .ok (.istore_n 3, 1) := by decide +kernel
theorem dJ2_indexOf_4cfef_15 : decode cJ2_indexOf_4cfef 15 = .ok (.iload_n 2, 1) := by decide +kernel
theorem dJ2_indexOf_4cfef_16 : decode cJ2_indexOf_4cfef 16 = .ok (.iload_n 3, 1) := by decide +kernel
theorem dJ2_indexOf_4cfef_17 : decode cJ2_indexOf_4cfef 17 = .ok (.if_icmp .lt 5, 3) := by decide +kernel
theorem dJ2_indexOf_4cfef_20 : decode cJ2_indexOf_4cfef 20 = .ok (.iconst (-1), 1) := by decide +kernel
theorem dJ2_indexOf_4cfef_21 : decode cJ2_indexOf_4cfef 21 = .ok (.ireturn, 1) := by decide +kernel
theorem dJ2_indexOf_4cfef_22 : decode cJ2_indexOf_4cfef 22 = .ok (.iload_n 1, 1) := by decide +kernel
theorem dJ2_indexOf_4cfef_23 : decode cJ2_indexOf_4cfef 23 = .ok (.ldc 227, 2) := by decide +kernel
theorem dJ2_indexOf_4cfef_25 : decode cJ2_indexOf_4cfef 25 = .ok (.if_icmp .ge 11, 3) := by decide +kernel
theorem dJ2_indexOf_4cfef_28 : decode cJ2_indexOf_4cfef 28 = .ok (.aload_n 0, 1) := by decide +kernel
theorem dJ2_indexOf_4cfef_29 : decode cJ2_indexOf_4cfef 29 = .ok (.iload_n 1, 1) := by decide +kernel
theorem dJ2_indexOf_4cfef_30 : decode cJ2_indexOf_4cfef 30 = .ok (.iload_n 2, 1) := by decide +kernel
theorem dJ2_indexOf_4cfef_31 : decode cJ2_indexOf_4cfef 31 = .ok (.iload_n 3, 1) := by decide +kernel
theorem dJ2_indexOf_4cfef_32 : decode cJ2_indexOf_4cfef 32 = .ok (.invokestatic 228, 3) := by decide +kernel
theorem dJ2_indexOf_4cfef_35 : decode cJ2_indexOf_4cfef 35 = .ok (.ireturn, 1) := by decide +kernel
theorem dJ2_indexOf_4cfef_36 : decode cJ2_indexOf_4cfef 36 = .ok (.aload_n 0, 1) := by decide +kernel
theorem dJ2_indexOf_4cfef_37 : decode cJ2_indexOf_4cfef 37 = .ok (.iload_n 1, 1) := by decide +kernel
theorem dJ2_indexOf_4cfef_38 : decode cJ2_indexOf_4cfef 38 = .ok (.iload_n 2, 1) := by decide +kernel
theorem dJ2_indexOf_4cfef_39 : decode cJ2_indexOf_4cfef 39 = .ok (.iload_n 3, 1) := by decide +kernel
theorem dJ2_indexOf_4cfef_40 : decode cJ2_indexOf_4cfef 40 = .ok (.invokestatic 232, 3) := by decide +kernel
theorem dJ2_indexOf_4cfef_43 : decode cJ2_indexOf_4cfef 43 = .ok (.ireturn, 1) := by decide +kernel
theorem dJ2_indexOfChar_4cfef_0 : decode cJ2_indexOfChar_4cfef 0 = .ok (.iload_n 2, 1) := by decide +kernel
theorem dJ2_indexOfChar_4cfef_1 : decode cJ2_indexOfChar_4cfef 1 = .ok (.iload_n 3, 1) := by decide +kernel
theorem dJ2_indexOfChar_4cfef_2 : decode cJ2_indexOfChar_4cfef 2 = .ok (.aload_n 0, 1) := by decide +kernel
theorem dJ2_indexOfChar_4cfef_3 : decode cJ2_indexOfChar_4cfef 3 = .ok (.invokestatic 96, 3) := by decide +kernel
theorem dJ2_indexOfChar_4cfef_6 : decode cJ2_indexOfChar_4cfef 6 = .ok (.aload_n 0, 1) := by decide +kernel
theorem dJ2_indexOfChar_4cfef_7 : decode cJ2_indexOfChar_4cfef 7 = .ok (.iload_n 1, 1) := by decide +kernel
theorem dJ2_indexOfChar_4cfef_8 : decode cJ2_indexOfChar_4cfef 8 = .ok (.iload_n 2, 1) := by decide +kernel
theorem dJ2_indexOfChar_4cfef_9 : decode cJ2_indexOfChar_4cfef 9 = .ok (.iload_n 3, 1) := by decide +kernel
theorem dJ2_indexOfChar_4cfef_10 : decode cJ2_indexOfChar_4cfef 10 = .ok (.invokestatic 244, 3) := by decide +kernel
theorem dJ2_indexOfChar_4cfef_13 : decode cJ2_indexOfChar_4cfef 13 = .ok (.ireturn, 1) := by decide +kernel
theorem dJ2_indexOfCharUnsafe_4cfef_0 : decode cJ2_indexOfCharUnsafe_4cfef 0 = .ok (.iload_n 2, 1) := by decide +kernel
theorem dJ2_indexOfCharUnsafe_4cfef_1 : decode cJ2_indexOfCharUnsafe_4cfef 1 = .ok (.istore 4, 2) := by decide +kernel
theorem dJ2_indexOfCharUnsafe_4cfef_3 : decode cJ2_indexOfCharUnsafe_4cfef 3 = .ok (.iload 4, 2) := by decide +kernel
theorem dJ2_indexOfCharUnsafe_4cfef_5 : decode cJ2_indexOfCharUnsafe_4cfef 5 = .ok (.iload_n 3, 1) := by decide +kernel
theorem dJ2_indexOfCharUnsafe_4cfef_6 : decode cJ2_indexOfCharUnsafe_4cfef 6 = .ok (.if_icmp .ge 22, 3) := by decide +kernel
theorem dJ2_indexOfCharUnsafe_4cfef_9 : decode cJ2_indexOfCharUnsafe_4cfef 9 = .ok (.aload_n 0, 1) := by decide +kernel
theorem dJ2_indexOfCharUnsafe_4cfef_10 : decode cJ2_indexOfCharUnsafe_4cfef 10 = .ok (.iload 4, 2) := by decide +kernel
theorem dJ2_indexOfCharUnsafe_4cfef_12 : decode cJ2_indexOfCharUnsafe_4cfef 12 = .ok (.invokestatic 71, 3) := by decide +kernel
theorem dJ2_indexOfCharUnsafe_4cfef_15 : decode cJ2_indexOfCharUnsafe_4cfef 15 = .ok (.iload_n 1, 1) := by decide +kernel
theorem dJ2_indexOfCharUnsafe_4cfef_16 : decode cJ2_indexOfCharUnsafe_4cfef 16 = .ok (.if_icmp .ne 6, 3) := by decide +kernel
theorem dJ2_indexOfCharUnsafe_4cfef_19 : decode cJ2_indexOfCharUnsafe_4cfef 19 = .ok (.iload 4, 2) := by decide +kernel
theorem dJ2_indexOfCharUnsafe_4cfef_21 : decode cJ2_indexOfCharUnsafe_4cfef 21 = .ok (.ireturn, 1) := by decide +kernel
theorem dJ2_indexOfCharUnsafe_4cfef_22 : decode cJ2_indexOfCharUnsafe_4cfef 22 = .ok (.iinc 4 1, 3) := by decide +kernel
theorem dJ2_indexOfCharUnsafe_4cfef_25 : decode cJ2_indexOfCharUnsafe_4cfef 25 = .ok (.goto (-22), 3) := by decide +kernel
theorem dJ2_indexOfCharUnsafe_4cfef_28 : decode cJ2_indexOfCharUnsafe_4cfef 28 = .ok (.iconst (-1), 1) := by decide +kernel
theorem dJ2_indexOfCharUnsafe_4cfef_29 : decode cJ2_indexOfCharUnsafe_4cfef 29 = .ok (.ireturn, 1) := by decide +kernel
theorem dJ2_indexOfSupplementary_4cfef_0 : decode cJ2_indexOfSupplementary_4cfef 0 = .ok (.iload_n 1, 1) := by decide +kernel
theorem dJ2_indexOfSupplementary_4cfef_1 : decode cJ2_indexOfSupplementary_4cfef 1 = .ok (.invokestatic 164, 3) := by decide +kernel
theorem dJ2_indexOfSupplementary_4cfef_4 : decode cJ2_indexOfSupplementary_4cfef 4 = .ok (.ifCond .eq 65, 3) := by decide +kernel
theorem dJ2_indexOfSupplementary_4cfef_7 : decode cJ2_indexOfSupplementary_4cfef 7 = .ok (.iload_n 1, 1) := by decide +kernel
theorem dJ2_indexOfSupplementary_4cfef_8 : decode cJ2_indexOfSupplementary_4cfef 8 = .ok (.invokestatic 157, 3) := by decide +kernel
theorem dJ2_indexOfSupplementary_4cfef_11 : decode cJ2_indexOfSupplementary_4cfef 11 = .ok (.istore 4, 2) := by decide +kernel
theorem dJ2_indexOfSupplementary_4cfef_13 : decode cJ2_indexOfSupplementary_4cfef 13 = .ok (.iload_n 1, 1) := by decide +kernel
theorem dJ2_indexOfSupplementary_4cfef_14 : decode cJ2_indexOfSupplementary_4cfef 14 = .ok (.invokestatic 161, 3) := by decide +kernel
theorem dJ2_indexOfSupplementary_4cfef_17 : decode cJ2_indexOfSupplementary_4cfef 17 = .ok (.istore 5, 2) := by decide +kernel
theorem dJ2_indexOfSupplementary_4cfef_19 : decode cJ2_indexOfSupplementary_4cfef 19 = .ok (.iload_n 2, 1) := by decide +kernel
theorem dJ2_indexOfSupplementary_4cfef_20 : decode cJ2_indexOfSupplementary_4cfef 20 = .ok (.iload_n 3, 1) := by decide +kernel
theorem dJ2_indexOfSupplementary_4cfef_21 : decode cJ2_indexOfSupplementary_4cfef 21 = .ok (.aload_n 0, 1) := by decide +kernel
theorem dJ2_indexOfSupplementary_4cfef_22 : decode cJ2_indexOfSupplementary_4cfef 22 = .ok (.invokestatic 96, 3) := by decide +kernel
theorem dJ2_indexOfSupplementary_4cfef_25 : decode cJ2_indexOfSupplementary_4cfef 25 = .ok (.iload_n 2, 1) := by decide +kernel
theorem dJ2_indexOfSupplementary_4cfef_26 : decode cJ2_indexOfSupplementary_4cfef 26 = .ok (.istore 6, 2) := by decide +kernel
theorem dJ2_indexOfSupplementary_4cfef_28 : decode cJ2_indexOfSupplementary_4cfef 28 = .ok (.iload 6, 2) := by decide +kernel
theorem dJ2_indexOfSupplementary_4cfef_30 : decode cJ2_indexOfSupplementary_4cfef 30 = .ok (.iload_n 3, 1) := by decide +kernel
theorem dJ2_indexOfSupplementary_4cfef_31 : decode cJ2_indexOfSupplementary_4cfef 31 = .ok (.iconst 1, 1) := by decide +kernel
theorem dJ2_indexOfSupplementary_4cfef_32 : decode cJ2_indexOfSupplementary_4cfef 32 = .ok (.isub, 1) := by decide +kernel
theorem dJ2_indexOfSupplementary_4cfef_33 : decode cJ2_indexOfSupplementary_4cfef 33 = .ok (.if_icmp .ge 36, 3) := by decide +kernel
theorem dJ2_indexOfSupplementary_4cfef_36 : decode cJ2_indexOfSupplementary_4cfef 36 = .ok (.aload_n 0, 1) := by decide +kernel
theorem dJ2_indexOfSupplementary_4cfef_37 : decode cJ2_indexOfSupplementary_4cfef 37 = .ok (.iload 6, 2) := by decide +kernel
theorem dJ2_indexOfSupplementary_4cfef_39 : decode cJ2_indexOfSupplementary_4cfef 39 = .ok (.invokestatic 71, 3) := by decide +kernel
theorem dJ2_indexOfSupplementary_4cfef_42 : decode cJ2_indexOfSupplementary_4cfef 42 = .ok (.iload 4, 2) := by decide +kernel
theorem dJ2_indexOfSupplementary_4cfef_44 : decode cJ2_indexOfSupplementary_4cfef 44 = .ok (.if_icmp .ne 19, 3) := by decide +kernel
theorem dJ2_indexOfSupplementary_4cfef_47 : decode cJ2_indexOfSupplementary_4cfef 47 = .ok (.aload_n 0, 1) := by decide +kernel
theorem dJ2_indexOfSupplementary_4cfef_48 : decode cJ2_indexOfSupplementary_4cfef 48 = .ok (.iload 6, 2) := by decide +kernel
theorem dJ2_indexOfSupplementary_4cfef_50 : decode cJ2_indexOfSupplementary_4cfef 50 = .ok (.iconst 1, 1) := by decide +kernel
theorem dJ2_indexOfSupplementary_4cfef_51 : decode cJ2_indexOfSupplementary_4cfef 51 = .ok (.iadd, 1) := by decide +kernel
theorem dJ2_indexOfSupplementary_4cfef_52 : decode cJ2_indexOfSupplementary_4cfef 52 = .ok (.invokestatic 71, 3) := by decide +kernel
theorem dJ2_indexOfSupplementary_4cfef_55 : decode cJ2_indexOfSupplementary_4cfef 55 = .ok (.iload 5, 2) := by decide +kernel
theorem dJ2_indexOfSupplementary_4cfef_57 : decode cJ2_indexOfSupplementary_4cfef 57 = .ok (.if_icmp .ne 6, 3) := by decide +kernel
theorem dJ2_indexOfSupplementary_4cfef_60 : decode cJ2_indexOfSupplementary_4cfef 60 = .ok (.iload 6, 2) := by decide +kernel
theorem dJ2_indexOfSupplementary_4cfef_62 : decode cJ2_indexOfSupplementary_4cfef 62 = .ok (.ireturn, 1) := by decide +kernel
theorem dJ2_indexOfSupplementary_4cfef_63 : decode cJ2_indexOfSupplementary_4cfef 63 = .ok (.iinc 6 1, 3) := by decide +kernel
theorem dJ2_indexOfSupplementary_4cfef_66 : decode cJ2_indexOfSupplementary_4cfef 66 = .ok (.goto (-38), 3) := by decide +kernel
theorem dJ2_indexOfSupplementary_4cfef_69 : decode cJ2_indexOfSupplementary_4cfef 69 = .ok (.iconst (-1), 1) := by decide +kernel
theorem dJ2_indexOfSupplementary_4cfef_70 : decode cJ2_indexOfSupplementary_4cfef 70 = .ok (.ireturn, 1) := by decide +kernel
theorem dJ2_checkBoundsBeginEnd_d044e_0 : decode cJ2_checkBoundsBeginEnd_d044e 0 = .ok (.iload_n 0, 1) := by decide +kernel
theorem dJ2_checkBoundsBeginEnd_d044e_1 : decode cJ2_checkBoundsBeginEnd_d044e 1 = .ok (.iload_n 1, 1) := by decide +kernel
theorem dJ2_checkBoundsBeginEnd_d044e_2 : decode cJ2_checkBoundsBeginEnd_d044e 2 = .ok (.aload_n 2, 1) := by decide +kernel
theorem dJ2_checkBoundsBeginEnd_d044e_3 : decode cJ2_checkBoundsBeginEnd_d044e 3 = .ok (.invokestatic 48, 3) := by decide +kernel
theorem dJ2_checkBoundsBeginEnd_d044e_6 : decode cJ2_checkBoundsBeginEnd_d044e 6 = .ok (.invokestatic 241, 3) := by decide +kernel
theorem dJ2_checkBoundsBeginEnd_d044e_9 : decode cJ2_checkBoundsBeginEnd_d044e 9 = .ok (.return_, 1) := by decide +kernel
theorem dJ3_checkFromToIndex_8c36e_0 : decode cJ3_checkFromToIndex_8c36e 0 = .ok (.iload_n 0, 1) := by decide +kernel
theorem dJ3_checkFromToIndex_8c36e_1 : decode cJ3_checkFromToIndex_8c36e 1 = .ok (.ifCond .lt 13, 3) := by decide +kernel
theorem dJ3_checkFromToIndex_8c36e_4 : decode cJ3_checkFromToIndex_8c36e 4 = .ok (.iload_n 0, 1) := by decide +kernel
theorem dJ3_checkFromToIndex_8c36e_5 : decode cJ3_checkFromToIndex_8c36e 5 = .ok (.iload_n 1, 1) := by decide +kernel
theorem dJ3_checkFromToIndex_8c36e_6 : decode cJ3_checkFromToIndex_8c36e 6 = .ok (.if_icmp .gt 8, 3) := by decide +kernel
theorem dJ3_checkFromToIndex_8c36e_9 : decode cJ3_checkFromToIndex_8c36e 9 = .ok (.iload_n 1, 1) := by decide +kernel
theorem dJ3_checkFromToIndex_8c36e_10 : decode cJ3_checkFromToIndex_8c36e 10 = .ok (.iload_n 2, 1) := by decide +kernel
theorem dJ3_checkFromToIndex_8c36e_11 : decode cJ3_checkFromToIndex_8c36e 11 = .ok (.if_icmp .le 11, 3) := by decide +kernel
theorem dJ3_checkFromToIndex_8c36e_14 : decode cJ3_checkFromToIndex_8c36e 14 = .ok (.aload_n 3, 1) := by decide +kernel
theorem dJ3_checkFromToIndex_8c36e_15 : decode cJ3_checkFromToIndex_8c36e 15 = .ok (.iload_n 0, 1) := by decide +kernel
theorem dJ3_checkFromToIndex_8c36e_16 : decode cJ3_checkFromToIndex_8c36e 16 = .ok (.iload_n 1, 1) := by decide +kernel
theorem dJ3_checkFromToIndex_8c36e_17 : decode cJ3_checkFromToIndex_8c36e 17 = .ok (.iload_n 2, 1) := by decide +kernel
theorem dJ3_checkFromToIndex_8c36e_18 : decode cJ3_checkFromToIndex_8c36e 18 = .ok (.invokestatic 99, 3) := by decide +kernel
theorem dJ3_checkFromToIndex_8c36e_21 : decode cJ3_checkFromToIndex_8c36e 21 = .ok (.athrow, 1) := by decide +kernel
theorem dJ3_checkFromToIndex_8c36e_22 : decode cJ3_checkFromToIndex_8c36e 22 = .ok (.iload_n 0, 1) := by decide +kernel
theorem dJ3_checkFromToIndex_8c36e_23 : decode cJ3_checkFromToIndex_8c36e 23 = .ok (.ireturn, 1) := by decide +kernel
end
section
theorem dX7_init_0 : decode cX7_init 0 = .ok (.aload_n 0, 1) := by decide +kernel
theorem dX7_init_1 : decode cX7_init 1 = .ok (.invokespecial 1, 3) := by decide +kernel
theorem dX7_init_4 : decode cX7_init 4 = .ok (.aload_n 0, 1) := by decide +kernel
theorem dX7_init_5 : decode cX7_init 5 = .ok (.bipush 6, 2) := by decide +kernel
theorem dX7_init_7 : decode cX7_init 7 = .ok (.newarray .int, 2) := by decide +kernel
theorem dX7_init_9 : decode cX7_init 9 = .ok (.putfield 7, 3) := by decide +kernel
theorem dX7_init_12 : decode cX7_init 12 = .ok (.aload_n 0, 1) := by decide +kernel
theorem dX7_init_13 : decode cX7_init 13 = .ok (.bipush 6, 2) := by decide +kernel
theorem dX7_init_15 : decode cX7_init 15 = .ok (.newarray .int, 2) := by decide +kernel
theorem dX7_init_17 : decode cX7_init 17 = .ok (.putfield 13, 3) := by decide +kernel
theorem dX7_init_20 : decode cX7_init 20 = .ok (.aload_n 0, 1) := by decide +kernel
theorem dX7_init_21 : decode cX7_init 21 = .ok (.bipush 6, 2) := by decide +kernel
theorem dX7_init_23 : decode cX7_init 23 = .ok (.newarray .int, 2) := by decide +kernel
theorem dX7_init_25 : decode cX7_init 25 = .ok (.putfield 16, 3) := by decide +kernel
theorem dX7_init_28 : decode cX7_init 28 = .ok (.aload_n 0, 1) := by decide +kernel
theorem dX7_init_29 : decode cX7_init 29 = .ok (.bipush 6, 2) := by decide +kernel
theorem dX7_init_31 : decode cX7_init 31 = .ok (.newarray .int, 2) := by decide +kernel
theorem dX7_init_33 : decode cX7_init 33 = .ok (.putfield 19, 3) := by decide +kernel
theorem dX7_init_36 : decode cX7_init 36 = .ok (.aload_n 0, 1) := by decide +kernel
theorem dX7_init_37 : decode cX7_init 37 = .ok (.iconst 5, 1) := by decide +kernel
theorem dX7_init_38 : decode cX7_init 38 = .ok (.newarray .int, 2) := by decide +kernel
theorem dX7_init_40 : decode cX7_init 40 = .ok (.putfield 22, 3) := by decide +kernel
theorem dX7_init_43 : decode cX7_init 43 = .ok (.aload_n 0, 1) := by decide +kernel
theorem dX7_init_44 : decode cX7_init 44 = .ok (.bipush 20, 2) := by decide +kernel
theorem dX7_init_46 : decode cX7_init 46 = .ok (.newarray .int, 2) := by decide +kernel
theorem dX7_init_48 : decode cX7_init 48 = .ok (.putfield 25, 3) := by decide +kernel
theorem dX7_init_51 : decode cX7_init 51 = .ok (.aload_n 0, 1) := by decide +kernel
theorem dX7_init_52 : decode cX7_init 52 = .ok (.bipush 20, 2) := by decide +kernel
theorem dX7_init_54 : decode cX7_init 54 = .ok (.newarray .int, 2) := by decide +kernel
theorem dX7_init_56 : decode cX7_init 56 = .ok (.putfield 28, 3) := by decide +kernel
theorem dX7_init_59 : decode cX7_init 59 = .ok (.aload_n 0, 1) := by decide +kernel
theorem dX7_init_60 : decode cX7_init 60 = .ok (.bipush 20, 2) := by decide +kernel
theorem dX7_init_62 : decode cX7_init 62 = .ok (.newarray .int, 2) := by decide +kernel
theorem dX7_init_64 : decode cX7_init 64 = .ok (.putfield 31, 3) := by decide +kernel
theorem dX7_init_67 : decode cX7_init 67 = .ok (.aload_n 0, 1) := by decide +kernel
theorem dX7_init_68 : decode cX7_init 68 = .ok (.bipush 20, 2) := by decide +kernel
theorem dX7_init_70 : decode cX7_init 70 = .ok (.newarray .int, 2) := by decide +kernel
theorem dX7_init_72 : decode cX7_init 72 = .ok (.putfield 34, 3) := by decide +kernel
theorem dX7_init_75 : decode cX7_init 75 = .ok (.aload_n 0, 1) := by decide +kernel
theorem dX7_init_76 : decode cX7_init 76 = .ok (.bipush 20, 2) := by decide +kernel
theorem dX7_init_78 : decode cX7_init 78 = .ok (.newarray .int, 2) := by decide +kernel
theorem dX7_init_80 : decode cX7_init 80 = .ok (.putfield 37, 3) := by decide +kernel
theorem dX7_init_83 : decode cX7_init 83 = .ok (.aload_n 0, 1) := by decide +kernel
theorem dX7_init_84 : decode cX7_init 84 = .ok (.bipush 20, 2) := by decide +kernel
theorem dX7_init_86 : decode cX7_init 86 = .ok (.newarray .char, 2) := by decide +kernel
theorem dX7_init_88 : decode cX7_init 88 = .ok (.putfield 40, 3) := by decide +kernel
theorem dX7_init_91 : decode cX7_init 91 = .ok (.aload_n 0, 1) := by decide +kernel
theorem dX7_init_92 : decode cX7_init 92 = .ok (.bipush 20, 2) := by decide +kernel
theorem dX7_init_94 : decode cX7_init 94 = .ok (.newarray .int, 2) := by decide +kernel
theorem dX7_init_96 : decode cX7_init 96 = .ok (.putfield 44, 3) := by decide +kernel
theorem dX7_init_99 : decode cX7_init 99 = .ok (.aload_n 0, 1) := by decide +kernel
theorem dX7_init_100 : decode cX7_init 100 = .ok (.bipush 20, 2) := by decide +kernel
theorem dX7_init_102 : decode cX7_init 102 = .ok (.newarray .boolean, 2) := by decide +kernel
theorem dX7_init_104 : decode cX7_init 104 = .ok (.putfield 47, 3) := by decide +kernel
theorem dX7_init_107 : decode cX7_init 107 = .ok (.aload_n 0, 1) := by decide +kernel
theorem dX7_init_108 : decode cX7_init 108 = .ok (.bipush 20, 2) := by decide +kernel
theorem dX7_init_110 : decode cX7_init 110 = .ok (.newarray .boolean, 2) := by decide +kernel
theorem dX7_init_112 : decode cX7_init 112 = .ok (.putfield 51, 3) := by decide +kernel
theorem dX7_init_115 : decode cX7_init 115 = .ok (.aload_n 0, 1) := by decide +kernel
theorem dX7_init_116 : decode cX7_init 116 = .ok (.bipush 20, 2) := by decide +kernel
theorem dX7_init_118 : decode cX7_init 118 = .ok (.newarray .int, 2) := by decide +kernel
theorem dX7_init_120 : decode cX7_init 120 = .ok (.putfield 54, 3) := by decide +kernel
theorem dX7_init_123 : decode cX7_init 123 = .ok (.aload_n 0, 1) := by decide +kernel
theorem dX7_init_124 : decode cX7_init 124 = .ok (.bipush 20, 2) := by decide +kernel
theorem dX7_init_126 : decode cX7_init 126 = .ok (.newarray .int, 2) := by decide +kernel
theorem dX7_init_128 : decode cX7_init 128 = .ok (.putfield 57, 3) := by decide +kernel
theorem dX7_init_131 : decode cX7_init 131 = .ok (.aload_n 0, 1) := by decide +kernel
theorem dX7_init_132 : decode cX7_init 132 = .ok (.bipush 20, 2) := by decide +kernel
theorem dX7_init_134 : decode cX7_init 134 = .ok (.newarray .boolean, 2) := by decide +kernel
theorem dX7_init_136 : decode cX7_init 136 = .ok (.putfield 60, 3) := by decide +kernel
theorem dX7_init_139 : decode cX7_init 139 = .ok (.aload_n 0, 1) := by decide +kernel
theorem dX7_init_140 : decode cX7_init 140 = .ok (.bipush 20, 2) := by decide +kernel
theorem dX7_init_142 : decode cX7_init 142 = .ok (.newarray .int, 2) := by decide +kernel
theorem dX7_init_144 : decode cX7_init 144 = .ok (.putfield 63, 3) := by decide +kernel
theorem dX7_init_147 : decode cX7_init 147 = .ok (.aload_n 0, 1) := by decide +kernel
theorem dX7_init_148 : decode cX7_init 148 = .ok (.bipush 20, 2) := by decide +kernel
theorem dX7_init_150 : decode cX7_init 150 = .ok (.newarray .boolean, 2) := by decide +kernel
theorem dX7_init_152 : decode cX7_init 152 = .ok (.putfield 66, 3) := by decide +kernel
theorem dX7_init_155 : decode cX7_init 155 = .ok (.aload_n 0, 1) := by decide +kernel
theorem dX7_init_156 : decode cX7_init 156 = .ok (.bipush 20, 2) := by decide +kernel
theorem dX7_init_158 : decode cX7_init 158 = .ok (.newarray .int, 2) := by decide +kernel
theorem dX7_init_160 : decode cX7_init 160 = .ok (.putfield 69, 3) := by decide +kernel
theorem dX7_init_163 : decode cX7_init 163 = .ok (.aload_n 0, 1) := by decide +kernel
theorem dX7_init_164 : decode cX7_init 164 = .ok (.bipush 20, 2) := by decide +kernel
theorem dX7_init_166 : decode cX7_init 166 = .ok (.newarray .int, 2) := by decide +kernel
theorem dX7_init_168 : decode cX7_init 168 = .ok (.putfield 72, 3) := by decide +kernel
theorem dX7_init_171 : decode cX7_init 171 = .ok (.aload_n 0, 1) := by decide +kernel
theorem dX7_init_172 : decode cX7_init 172 = .ok (.bipush 20, 2) := by decide +kernel
theorem dX7_init_174 : decode cX7_init 174 = .ok (.newarray .int, 2) := by decide +kernel
theorem dX7_init_176 : decode cX7_init 176 = .ok (.putfield 75, 3) := by decide +kernel
theorem dX7_init_179 : decode cX7_init 179 = .ok (.aload_n 0, 1) := by decide +kernel
theorem dX7_init_180 : decode cX7_init 180 = .ok (.bipush 20, 2) := by decide +kernel
theorem dX7_init_182 : decode cX7_init 182 = .ok (.newarray .int, 2) := by decide +kernel
theorem dX7_init_184 : decode cX7_init 184 = .ok (.putfield 78, 3) := by decide +kernel
theorem dX7_init_187 : decode cX7_init 187 = .ok (.aload_n 0, 1) := by decide +kernel
theorem dX7_init_188 : decode cX7_init 188 = .ok (.bipush 20, 2) := by decide +kernel
theorem dX7_init_190 : decode cX7_init 190 = .ok (.newarray .int, 2) := by decide +kernel
theorem dX7_init_192 : decode cX7_init 192 = .ok (.putfield 81, 3) := by decide +kernel
theorem dX7_init_195 : decode cX7_init 195 = .ok (.aload_n 0, 1) := by decide +kernel
theorem dX7_init_196 : decode cX7_init 196 = .ok (.bipush 20, 2) := by decide +kernel
theorem dX7_init_198 : decode cX7_init 198 = .ok (.newarray .int, 2) := by decide +kernel
theorem dX7_init_200 : decode cX7_init 200 = .ok (.putfield 84, 3) := by decide +kernel
theorem dX7_init_203 : decode cX7_init 203 = .ok (.iconst 0, 1) := by decide +kernel
theorem dX7_init_204 : decode cX7_init 204 = .ok (.istore_n 1, 1) := by decide +kernel
theorem dX7_init_205 : decode cX7_init 205 = .ok (.iload_n 1, 1) := by decide +kernel
theorem dX7_init_206 : decode cX7_init 206 = .ok (.iconst 5, 1) := by decide +kernel
theorem dX7_init_207 : decode cX7_init 207 = .ok (.if_icmp .ge 16, 3) := by decide +kernel
theorem dX7_init_210 : decode cX7_init 210 = .ok (.aload_n 0, 1) := by decide +kernel
theorem dX7_init_211 : decode cX7_init 211 = .ok (.getfield 22, 3) := by decide +kernel
theorem dX7_init_214 : decode cX7_init 214 = .ok (.iload_n 1, 1) := by decide +kernel
theorem dX7_init_215 : decode cX7_init 215 = .ok (.iconst 1, 1) := by decide +kernel
theorem dX7_init_216 : decode cX7_init 216 = .ok (.iastore, 1) := by decide +kernel
theorem dX7_init_217 : decode cX7_init 217 = .ok (.iinc 1 1, 3) := by decide +kernel
theorem dX7_init_220 : decode cX7_init 220 = .ok (.goto (-15), 3) := by decide +kernel
theorem dX7_init_223 : decode cX7_init 223 = .ok (.return_, 1) := by decide +kernel
theorem dX7_thrown_0 : decode cX7_thrown 0 = .ok (.aload_n 0, 1) := by decide +kernel
theorem dX7_thrown_1 : decode cX7_thrown 1 = .ok (.getfield 87, 3) := by decide +kernel
theorem dX7_thrown_4 : decode cX7_thrown 4 = .ok (.ireturn, 1) := by decide +kernel
theorem dX7_in_0 : decode cX7_in 0 = .ok (.iload_n 0, 1) := by decide +kernel
theorem dX7_in_1 : decode cX7_in 1 = .ok (.iload_n 1, 1) := by decide +kernel
theorem dX7_in_2 : decode cX7_in 2 = .ok (.if_icmp .lt 12, 3) := by decide +kernel
theorem dX7_in_5 : decode cX7_in 5 = .ok (.iload_n 0, 1) := by decide +kernel
theorem dX7_in_6 : decode cX7_in 6 = .ok (.iload_n 2, 1) := by decide +kernel
theorem dX7_in_7 : decode cX7_in 7 = .ok (.if_icmp .gt 7, 3) := by decide +kernel
theorem dX7_in_10 : decode cX7_in 10 = .ok (.iconst 1, 1) := by decide +kernel
theorem dX7_in_11 : decode cX7_in 11 = .ok (.goto 4, 3) := by decide +kernel
theorem dX7_in_14 : decode cX7_in 14 = .ok (.iconst 0, 1) := by decide +kernel
theorem dX7_in_15 : decode cX7_in 15 = .ok (.ireturn, 1) := by decide +kernel
theorem dX7_isOffice_0 : decode cX7_isOffice 0 = .ok (.iload_n 1, 1) := by decide +kernel
theorem dX7_isOffice_1 : decode cX7_isOffice 1 = .ok (.iconst 0, 1) := by decide +kernel
theorem dX7_isOffice_2 : decode cX7_isOffice 2 = .ok (.aload_n 0, 1) := by decide +kernel
theorem dX7_isOffice_3 : decode cX7_isOffice 3 = .ok (.getfield 91, 3) := by decide +kernel
theorem dX7_isOffice_6 : decode cX7_isOffice 6 = .ok (.iconst 1, 1) := by decide +kernel
theorem dX7_isOffice_7 : decode cX7_isOffice 7 = .ok (.isub, 1) := by decide +kernel
theorem dX7_isOffice_8 : decode cX7_isOffice 8 = .ok (.invokestatic 94, 3) := by decide +kernel
theorem dX7_isOffice_11 : decode cX7_isOffice 11 = .ok (.ireturn, 1) := by decide +kernel
theorem dX7_isComplaint_0 : decode cX7_isComplaint 0 = .ok (.iload_n 1, 1) := by decide +kernel
theorem dX7_isComplaint_1 : decode cX7_isComplaint 1 = .ok (.iconst 0, 1) := by decide +kernel
theorem dX7_isComplaint_2 : decode cX7_isComplaint 2 = .ok (.aload_n 0, 1) := by decide +kernel
theorem dX7_isComplaint_3 : decode cX7_isComplaint 3 = .ok (.getfield 98, 3) := by decide +kernel
theorem dX7_isComplaint_6 : decode cX7_isComplaint 6 = .ok (.iconst 1, 1) := by decide +kernel
theorem dX7_isComplaint_7 : decode cX7_isComplaint 7 = .ok (.isub, 1) := by decide +kernel
theorem dX7_isComplaint_8 : decode cX7_isComplaint 8 = .ok (.invokestatic 94, 3) := by decide +kernel
theorem dX7_isComplaint_11 : decode cX7_isComplaint 11 = .ok (.ireturn, 1) := by decide +kernel
theorem dX7_noComplaint_0 : decode cX7_noComplaint 0 = .ok (.aload_n 0, 1) := by decide +kernel
theorem dX7_noComplaint_1 : decode cX7_noComplaint 1 = .ok (.aload_n 0, 1) := by decide +kernel
theorem dX7_noComplaint_2 : decode cX7_noComplaint 2 = .ok (.iload_n 1, 1) := by decide +kernel
theorem dX7_noComplaint_3 : decode cX7_noComplaint 3 = .ok (.invokevirtual 101, 3) := by decide +kernel
theorem dX7_noComplaint_6 : decode cX7_noComplaint 6 = .ok (.ifCond .eq 7, 3) := by decide +kernel
theorem dX7_noComplaint_9 : decode cX7_noComplaint 9 = .ok (.iconst 0, 1) := by decide +kernel
theorem dX7_noComplaint_10 : decode cX7_noComplaint 10 = .ok (.goto 4, 3) := by decide +kernel
theorem dX7_noComplaint_13 : decode cX7_noComplaint 13 = .ok (.iconst 1, 1) := by decide +kernel
theorem dX7_noComplaint_14 : decode cX7_noComplaint 14 = .ok (.putfield 87, 3) := by decide +kernel
theorem dX7_noComplaint_17 : decode cX7_noComplaint 17 = .ok (.aload_n 0, 1) := by decide +kernel
theorem dX7_noComplaint_18 : decode cX7_noComplaint 18 = .ok (.getfield 87, 3) := by decide +kernel
theorem dX7_noComplaint_21 : decode cX7_noComplaint 21 = .ok (.ifCond .le 7, 3) := by decide +kernel
theorem dX7_noComplaint_24 : decode cX7_noComplaint 24 = .ok (.iconst 1, 1) := by decide +kernel
theorem dX7_noComplaint_25 : decode cX7_noComplaint 25 = .ok (.goto 4, 3) := by decide +kernel
theorem dX7_noComplaint_28 : decode cX7_noComplaint 28 = .ok (.iconst 0, 1) := by decide +kernel
theorem dX7_noComplaint_29 : decode cX7_noComplaint 29 = .ok (.ireturn, 1) := by decide +kernel
theorem dX7_isJoined_0 : decode cX7_isJoined 0 = .ok (.aload_n 0, 1) := by decide +kernel
theorem dX7_isJoined_1 : decode cX7_isJoined 1 = .ok (.getfield 44, 3) := by decide +kernel
theorem dX7_isJoined_4 : decode cX7_isJoined 4 = .ok (.iload_n 1, 1) := by decide +kernel
theorem dX7_isJoined_5 : decode cX7_isJoined 5 = .ok (.iaload, 1) := by decide +kernel
theorem dX7_isJoined_6 : decode cX7_isJoined 6 = .ok (.iconst (-1), 1) := by decide +kernel
theorem dX7_isJoined_7 : decode cX7_isJoined 7 = .ok (.if_icmp .eq 7, 3) := by decide +kernel
theorem dX7_isJoined_10 : decode cX7_isJoined 10 = .ok (.iconst 1, 1) := by decide +kernel
theorem dX7_isJoined_11 : decode cX7_isJoined 11 = .ok (.goto 4, 3) := by decide +kernel
theorem dX7_isJoined_14 : decode cX7_isJoined 14 = .ok (.iconst 0, 1) := by decide +kernel
theorem dX7_isJoined_15 : decode cX7_isJoined 15 = .ok (.ireturn, 1) := by decide +kernel
theorem dX7_leading_0 : decode cX7_leading 0 = .ok (.aload_n 0, 1) := by decide +kernel
theorem dX7_leading_1 : decode cX7_leading 1 = .ok (.iload_n 1, 1) := by decide +kernel
theorem dX7_leading_2 : decode cX7_leading 2 = .ok (.invokevirtual 105, 3) := by decide +kernel
theorem dX7_leading_5 : decode cX7_leading 5 = .ok (.ifCond .eq 12, 3) := by decide +kernel
theorem dX7_leading_8 : decode cX7_leading 8 = .ok (.aload_n 0, 1) := by decide +kernel
theorem dX7_leading_9 : decode cX7_leading 9 = .ok (.getfield 44, 3) := by decide +kernel
theorem dX7_leading_12 : decode cX7_leading 12 = .ok (.iload_n 1, 1) := by decide +kernel
theorem dX7_leading_13 : decode cX7_leading 13 = .ok (.iaload, 1) := by decide +kernel
theorem dX7_leading_14 : decode cX7_leading 14 = .ok (.goto 4, 3) := by decide +kernel
theorem dX7_leading_17 : decode cX7_leading 17 = .ok (.iload_n 1, 1) := by decide +kernel
theorem dX7_leading_18 : decode cX7_leading 18 = .ok (.ireturn, 1) := by decide +kernel
theorem dX7_standing_0 : decode cX7_standing 0 = .ok (.aload_n 0, 1) := by decide +kernel
theorem dX7_standing_1 : decode cX7_standing 1 = .ok (.getfield 40, 3) := by decide +kernel
theorem dX7_standing_4 : decode cX7_standing 4 = .ok (.aload_n 0, 1) := by decide +kernel
theorem dX7_standing_5 : decode cX7_standing 5 = .ok (.iload_n 1, 1) := by decide +kernel
theorem dX7_standing_6 : decode cX7_standing 6 = .ok (.invokevirtual 108, 3) := by decide +kernel
theorem dX7_standing_9 : decode cX7_standing 9 = .ok (.caload, 1) := by decide +kernel
theorem dX7_standing_10 : decode cX7_standing 10 = .ok (.ireturn, 1) := by decide +kernel
theorem dX7_isClosed_0 : decode cX7_isClosed 0 = .ok (.iload_n 0, 1) := by decide +kernel
theorem dX7_isClosed_1 : decode cX7_isClosed 1 = .ok (.bipush 111, 2) := by decide +kernel
theorem dX7_isClosed_3 : decode cX7_isClosed 3 = .ok (.if_icmp .eq 33, 3) := by decide +kernel
theorem dX7_isClosed_6 : decode cX7_isClosed 6 = .ok (.iload_n 0, 1) := by decide +kernel
theorem dX7_isClosed_7 : decode cX7_isClosed 7 = .ok (.bipush 108, 2) := by decide +kernel
theorem dX7_isClosed_9 : decode cX7_isClosed 9 = .ok (.if_icmp .eq 27, 3) := by decide +kernel
theorem dX7_isClosed_12 : decode cX7_isClosed 12 = .ok (.iload_n 0, 1) := by decide +kernel
theorem dX7_isClosed_13 : decode cX7_isClosed 13 = .ok (.bipush 117, 2) := by decide +kernel
theorem dX7_isClosed_15 : decode cX7_isClosed 15 = .ok (.if_icmp .eq 21, 3) := by decide +kernel
theorem dX7_isClosed_18 : decode cX7_isClosed 18 = .ok (.iload_n 0, 1) := by decide +kernel
theorem dX7_isClosed_19 : decode cX7_isClosed 19 = .ok (.bipush 104, 2) := by decide +kernel
theorem dX7_isClosed_21 : decode cX7_isClosed 21 = .ok (.if_icmp .eq 15, 3) := by decide +kernel
theorem dX7_isClosed_24 : decode cX7_isClosed 24 = .ok (.iload_n 0, 1) := by decide +kernel
theorem dX7_isClosed_25 : decode cX7_isClosed 25 = .ok (.bipush 105, 2) := by decide +kernel
theorem dX7_isClosed_27 : decode cX7_isClosed 27 = .ok (.if_icmp .eq 9, 3) := by decide +kernel
theorem dX7_isClosed_30 : decode cX7_isClosed 30 = .ok (.iload_n 0, 1) := by decide +kernel
theorem dX7_isClosed_31 : decode cX7_isClosed 31 = .ok (.bipush 119, 2) := by decide +kernel
theorem dX7_isClosed_33 : decode cX7_isClosed 33 = .ok (.if_icmp .ne 7, 3) := by decide +kernel
theorem dX7_isClosed_36 : decode cX7_isClosed 36 = .ok (.iconst 1, 1) := by decide +kernel
theorem dX7_isClosed_37 : decode cX7_isClosed 37 = .ok (.goto 4, 3) := by decide +kernel
theorem dX7_isClosed_40 : decode cX7_isClosed 40 = .ok (.iconst 0, 1) := by decide +kernel
theorem dX7_isClosed_41 : decode cX7_isClosed 41 = .ok (.ireturn, 1) := by decide +kernel
theorem dX7_isState_0 : decode cX7_isState 0 = .ok (.iload_n 0, 1) := by decide +kernel
theorem dX7_isState_1 : decode cX7_isState 1 = .ok (.bipush 110, 2) := by decide +kernel
theorem dX7_isState_3 : decode cX7_isState 3 = .ok (.if_icmp .eq 40, 3) := by decide +kernel
theorem dX7_isState_6 : decode cX7_isState 6 = .ok (.iload_n 0, 1) := by decide +kernel
theorem dX7_isState_7 : decode cX7_isState 7 = .ok (.bipush 102, 2) := by decide +kernel
theorem dX7_isState_9 : decode cX7_isState 9 = .ok (.if_icmp .eq 34, 3) := by decide +kernel
theorem dX7_isState_12 : decode cX7_isState 12 = .ok (.iload_n 0, 1) := by decide +kernel
theorem dX7_isState_13 : decode cX7_isState 13 = .ok (.bipush 114, 2) := by decide +kernel
theorem dX7_isState_15 : decode cX7_isState 15 = .ok (.if_icmp .eq 28, 3) := by decide +kernel
theorem dX7_isState_18 : decode cX7_isState 18 = .ok (.iload_n 0, 1) := by decide +kernel
theorem dX7_isState_19 : decode cX7_isState 19 = .ok (.bipush 97, 2) := by decide +kernel
theorem dX7_isState_21 : decode cX7_isState 21 = .ok (.if_icmp .eq 22, 3) := by decide +kernel
theorem dX7_isState_24 : decode cX7_isState 24 = .ok (.iload_n 0, 1) := by decide +kernel
theorem dX7_isState_25 : decode cX7_isState 25 = .ok (.bipush 115, 2) := by decide +kernel
theorem dX7_isState_27 : decode cX7_isState 27 = .ok (.if_icmp .eq 16, 3) := by decide +kernel
theorem dX7_isState_30 : decode cX7_isState 30 = .ok (.iload_n 0, 1) := by decide +kernel
theorem dX7_isState_31 : decode cX7_isState 31 = .ok (.bipush 100, 2) := by decide +kernel
theorem dX7_isState_33 : decode cX7_isState 33 = .ok (.if_icmp .eq 10, 3) := by decide +kernel
theorem dX7_isState_36 : decode cX7_isState 36 = .ok (.iload_n 0, 1) := by decide +kernel
theorem dX7_isState_37 : decode cX7_isState 37 = .ok (.invokestatic 112, 3) := by decide +kernel
theorem dX7_isState_40 : decode cX7_isState 40 = .ok (.ifCond .eq 7, 3) := by decide +kernel
theorem dX7_isState_43 : decode cX7_isState 43 = .ok (.iconst 1, 1) := by decide +kernel
theorem dX7_isState_44 : decode cX7_isState 44 = .ok (.goto 4, 3) := by decide +kernel
theorem dX7_isState_47 : decode cX7_isState 47 = .ok (.iconst 0, 1) := by decide +kernel
theorem dX7_isState_48 : decode cX7_isState 48 = .ok (.ireturn, 1) := by decide +kernel
theorem dX7_joinedTo_0 : decode cX7_joinedTo 0 = .ok (.iconst 0, 1) := by decide +kernel
theorem dX7_joinedTo_1 : decode cX7_joinedTo 1 = .ok (.istore_n 2, 1) := by decide +kernel
theorem dX7_joinedTo_2 : decode cX7_joinedTo 2 = .ok (.iconst 0, 1) := by decide +kernel
theorem dX7_joinedTo_3 : decode cX7_joinedTo 3 = .ok (.istore_n 3, 1) := by decide +kernel
theorem dX7_joinedTo_4 : decode cX7_joinedTo 4 = .ok (.iload_n 3, 1) := by decide +kernel
theorem dX7_joinedTo_5 : decode cX7_joinedTo 5 = .ok (.aload_n 0, 1) := by decide +kernel
theorem dX7_joinedTo_6 : decode cX7_joinedTo 6 = .ok (.getfield 98, 3) := by decide +kernel
theorem dX7_joinedTo_9 : decode cX7_joinedTo 9 = .ok (.if_icmp .ge 27, 3) := by decide +kernel
theorem dX7_joinedTo_12 : decode cX7_joinedTo 12 = .ok (.iload_n 2, 1) := by decide +kernel
theorem dX7_joinedTo_13 : decode cX7_joinedTo 13 = .ok (.aload_n 0, 1) := by decide +kernel
theorem dX7_joinedTo_14 : decode cX7_joinedTo 14 = .ok (.getfield 44, 3) := by decide +kernel
theorem dX7_joinedTo_17 : decode cX7_joinedTo 17 = .ok (.iload_n 3, 1) := by decide +kernel
theorem dX7_joinedTo_18 : decode cX7_joinedTo 18 = .ok (.iaload, 1) := by decide +kernel
theorem dX7_joinedTo_19 : decode cX7_joinedTo 19 = .ok (.iload_n 1, 1) := by decide +kernel
theorem dX7_joinedTo_20 : decode cX7_joinedTo 20 = .ok (.if_icmp .ne 7, 3) := by decide +kernel
theorem dX7_joinedTo_23 : decode cX7_joinedTo 23 = .ok (.iconst 1, 1) := by decide +kernel
theorem dX7_joinedTo_24 : decode cX7_joinedTo 24 = .ok (.goto 4, 3) := by decide +kernel
theorem dX7_joinedTo_27 : decode cX7_joinedTo 27 = .ok (.iconst 0, 1) := by decide +kernel
theorem dX7_joinedTo_28 : decode cX7_joinedTo 28 = .ok (.iadd, 1) := by decide +kernel
theorem dX7_joinedTo_29 : decode cX7_joinedTo 29 = .ok (.istore_n 2, 1) := by decide +kernel
theorem dX7_joinedTo_30 : decode cX7_joinedTo 30 = .ok (.iinc 3 1, 3) := by decide +kernel
theorem dX7_joinedTo_33 : decode cX7_joinedTo 33 = .ok (.goto (-29), 3) := by decide +kernel
theorem dX7_joinedTo_36 : decode cX7_joinedTo 36 = .ok (.iload_n 2, 1) := by decide +kernel
theorem dX7_joinedTo_37 : decode cX7_joinedTo 37 = .ok (.ireturn, 1) := by decide +kernel
theorem dX7_closes_0 : decode cX7_closes 0 = .ok (.aload_n 0, 1) := by decide +kernel
theorem dX7_closes_1 : decode cX7_closes 1 = .ok (.getfield 40, 3) := by decide +kernel
theorem dX7_closes_4 : decode cX7_closes 4 = .ok (.iload_n 1, 1) := by decide +kernel
theorem dX7_closes_5 : decode cX7_closes 5 = .ok (.iload_n 2, 1) := by decide +kernel
theorem dX7_closes_6 : decode cX7_closes 6 = .ok (.castore, 1) := by decide +kernel
theorem dX7_closes_7 : decode cX7_closes 7 = .ok (.aload_n 0, 1) := by decide +kernel
theorem dX7_closes_8 : decode cX7_closes 8 = .ok (.getfield 81, 3) := by decide +kernel
theorem dX7_closes_11 : decode cX7_closes 11 = .ok (.iload_n 1, 1) := by decide +kernel
theorem dX7_closes_12 : decode cX7_closes 12 = .ok (.aload_n 0, 1) := by decide +kernel
theorem dX7_closes_13 : decode cX7_closes 13 = .ok (.getfield 116, 3) := by decide +kernel
theorem dX7_closes_16 : decode cX7_closes 16 = .ok (.iastore, 1) := by decide +kernel
theorem dX7_closes_17 : decode cX7_closes 17 = .ok (.return_, 1) := by decide +kernel
theorem dX7_addOffice_0 : decode cX7_addOffice 0 = .ok (.aload_n 0, 1) := by decide +kernel
theorem dX7_addOffice_1 : decode cX7_addOffice 1 = .ok (.iload_n 1, 1) := by decide +kernel
theorem dX7_addOffice_2 : decode cX7_addOffice 2 = .ok (.iconst 1, 1) := by decide +kernel
theorem dX7_addOffice_3 : decode cX7_addOffice 3 = .ok (.bipush 60, 2) := by decide +kernel
theorem dX7_addOffice_5 : decode cX7_addOffice 5 = .ok (.invokestatic 94, 3) := by decide +kernel
theorem dX7_addOffice_8 : decode cX7_addOffice 8 = .ok (.ifCond .eq 14, 3) := by decide +kernel
theorem dX7_addOffice_11 : decode cX7_addOffice 11 = .ok (.iload_n 2, 1) := by decide +kernel
theorem dX7_addOffice_12 : decode cX7_addOffice 12 = .ok (.iconst 0, 1) := by decide +kernel
theorem dX7_addOffice_13 : decode cX7_addOffice 13 = .ok (.sipush 1023, 3) := by decide +kernel
theorem dX7_addOffice_16 : decode cX7_addOffice 16 = .ok (.invokestatic 94, 3) := by decide +kernel
theorem dX7_addOffice_19 : decode cX7_addOffice 19 = .ok (.ifCond .ne 7, 3) := by decide +kernel
theorem dX7_addOffice_22 : decode cX7_addOffice 22 = .ok (.iconst 1, 1) := by decide +kernel
theorem dX7_addOffice_23 : decode cX7_addOffice 23 = .ok (.goto 17, 3) := by decide +kernel
theorem dX7_addOffice_26 : decode cX7_addOffice 26 = .ok (.aload_n 0, 1) := by decide +kernel
theorem dX7_addOffice_27 : decode cX7_addOffice 27 = .ok (.getfield 91, 3) := by decide +kernel
theorem dX7_addOffice_30 : decode cX7_addOffice 30 = .ok (.bipush 6, 2) := by decide +kernel
theorem dX7_addOffice_32 : decode cX7_addOffice 32 = .ok (.if_icmp .ne 7, 3) := by decide +kernel
theorem dX7_addOffice_35 : decode cX7_addOffice 35 = .ok (.iconst 2, 1) := by decide +kernel
theorem dX7_addOffice_36 : decode cX7_addOffice 36 = .ok (.goto 4, 3) := by decide +kernel
theorem dX7_addOffice_39 : decode cX7_addOffice 39 = .ok (.iconst 0, 1) := by decide +kernel
theorem dX7_addOffice_40 : decode cX7_addOffice 40 = .ok (.putfield 87, 3) := by decide +kernel
theorem dX7_addOffice_43 : decode cX7_addOffice 43 = .ok (.aload_n 0, 1) := by decide +kernel
theorem dX7_addOffice_44 : decode cX7_addOffice 44 = .ok (.getfield 87, 3) := by decide +kernel
theorem dX7_addOffice_47 : decode cX7_addOffice 47 = .ok (.ifCond .le 5, 3) := by decide +kernel
theorem dX7_addOffice_50 : decode cX7_addOffice 50 = .ok (.iconst 0, 1) := by decide +kernel
theorem dX7_addOffice_51 : decode cX7_addOffice 51 = .ok (.ireturn, 1) := by decide +kernel
theorem dX7_addOffice_52 : decode cX7_addOffice 52 = .ok (.aload_n 0, 1) := by decide +kernel
theorem dX7_addOffice_53 : decode cX7_addOffice 53 = .ok (.getfield 7, 3) := by decide +kernel
theorem dX7_addOffice_56 : decode cX7_addOffice 56 = .ok (.aload_n 0, 1) := by decide +kernel
theorem dX7_addOffice_57 : decode cX7_addOffice 57 = .ok (.getfield 91, 3) := by decide +kernel
theorem dX7_addOffice_60 : decode cX7_addOffice 60 = .ok (.iload_n 1, 1) := by decide +kernel
theorem dX7_addOffice_61 : decode cX7_addOffice 61 = .ok (.iastore, 1) := by decide +kernel
theorem dX7_addOffice_62 : decode cX7_addOffice 62 = .ok (.aload_n 0, 1) := by decide +kernel
theorem dX7_addOffice_63 : decode cX7_addOffice 63 = .ok (.getfield 13, 3) := by decide +kernel
theorem dX7_addOffice_66 : decode cX7_addOffice 66 = .ok (.aload_n 0, 1) := by decide +kernel
theorem dX7_addOffice_67 : decode cX7_addOffice 67 = .ok (.getfield 91, 3) := by decide +kernel
theorem dX7_addOffice_70 : decode cX7_addOffice 70 = .ok (.iload_n 2, 1) := by decide +kernel
theorem dX7_addOffice_71 : decode cX7_addOffice 71 = .ok (.iastore, 1) := by decide +kernel
theorem dX7_addOffice_72 : decode cX7_addOffice 72 = .ok (.aload_n 0, 1) := by decide +kernel
theorem dX7_addOffice_73 : decode cX7_addOffice 73 = .ok (.dup, 1) := by decide +kernel
theorem dX7_addOffice_74 : decode cX7_addOffice 74 = .ok (.getfield 91, 3) := by decide +kernel
theorem dX7_addOffice_77 : decode cX7_addOffice 77 = .ok (.iconst 1, 1) := by decide +kernel
theorem dX7_addOffice_78 : decode cX7_addOffice 78 = .ok (.iadd, 1) := by decide +kernel
theorem dX7_addOffice_79 : decode cX7_addOffice 79 = .ok (.putfield 91, 3) := by decide +kernel
theorem dX7_addOffice_82 : decode cX7_addOffice 82 = .ok (.aload_n 0, 1) := by decide +kernel
theorem dX7_addOffice_83 : decode cX7_addOffice 83 = .ok (.getfield 91, 3) := by decide +kernel
theorem dX7_addOffice_86 : decode cX7_addOffice 86 = .ok (.iconst 1, 1) := by decide +kernel
theorem dX7_addOffice_87 : decode cX7_addOffice 87 = .ok (.isub, 1) := by decide +kernel
theorem dX7_addOffice_88 : decode cX7_addOffice 88 = .ok (.ireturn, 1) := by decide +kernel
theorem dX7_pass_0 : decode cX7_pass 0 = .ok (.aload_n 0, 1) := by decide +kernel
theorem dX7_pass_1 : decode cX7_pass 1 = .ok (.iload_n 1, 1) := by decide +kernel
theorem dX7_pass_2 : decode cX7_pass 2 = .ok (.iconst 1, 1) := by decide +kernel
theorem dX7_pass_3 : decode cX7_pass 3 = .ok (.sipush 400, 3) := by decide +kernel
theorem dX7_pass_6 : decode cX7_pass 6 = .ok (.invokestatic 94, 3) := by decide +kernel
theorem dX7_pass_9 : decode cX7_pass 9 = .ok (.ifCond .ne 7, 3) := by decide +kernel
theorem dX7_pass_12 : decode cX7_pass 12 = .ok (.iconst 1, 1) := by decide +kernel
theorem dX7_pass_13 : decode cX7_pass 13 = .ok (.goto 20, 3) := by decide +kernel
theorem dX7_pass_16 : decode cX7_pass 16 = .ok (.aload_n 0, 1) := by decide +kernel
theorem dX7_pass_17 : decode cX7_pass 17 = .ok (.getfield 116, 3) := by decide +kernel
theorem dX7_pass_20 : decode cX7_pass 20 = .ok (.iload_n 1, 1) := by decide +kernel
theorem dX7_pass_21 : decode cX7_pass 21 = .ok (.iadd, 1) := by decide +kernel
theorem dX7_pass_22 : decode cX7_pass 22 = .ok (.sipush 9999, 3) := by decide +kernel
theorem dX7_pass_25 : decode cX7_pass 25 = .ok (.if_icmp .le 7, 3) := by decide +kernel
theorem dX7_pass_28 : decode cX7_pass 28 = .ok (.iconst 2, 1) := by decide +kernel
theorem dX7_pass_29 : decode cX7_pass 29 = .ok (.goto 4, 3) := by decide +kernel
theorem dX7_pass_32 : decode cX7_pass 32 = .ok (.iconst 0, 1) := by decide +kernel
theorem dX7_pass_33 : decode cX7_pass 33 = .ok (.putfield 87, 3) := by decide +kernel
theorem dX7_pass_36 : decode cX7_pass 36 = .ok (.aload_n 0, 1) := by decide +kernel
theorem dX7_pass_37 : decode cX7_pass 37 = .ok (.getfield 87, 3) := by decide +kernel
theorem dX7_pass_40 : decode cX7_pass 40 = .ok (.ifCond .le 5, 3) := by decide +kernel
theorem dX7_pass_43 : decode cX7_pass 43 = .ok (.iconst 0, 1) := by decide +kernel
theorem dX7_pass_44 : decode cX7_pass 44 = .ok (.ireturn, 1) := by decide +kernel
theorem dX7_pass_45 : decode cX7_pass 45 = .ok (.iconst 0, 1) := by decide +kernel
theorem dX7_pass_46 : decode cX7_pass 46 = .ok (.istore_n 2, 1) := by decide +kernel
theorem dX7_pass_47 : decode cX7_pass 47 = .ok (.iload_n 2, 1) := by decide +kernel
theorem dX7_pass_48 : decode cX7_pass 48 = .ok (.aload_n 0, 1) := by decide +kernel
theorem dX7_pass_49 : decode cX7_pass 49 = .ok (.getfield 98, 3) := by decide +kernel
theorem dX7_pass_52 : decode cX7_pass 52 = .ok (.if_icmp .ge 33, 3) := by decide +kernel
theorem dX7_pass_55 : decode cX7_pass 55 = .ok (.aload_n 0, 1) := by decide +kernel
theorem dX7_pass_56 : decode cX7_pass 56 = .ok (.getfield 84, 3) := by decide +kernel
theorem dX7_pass_59 : decode cX7_pass 59 = .ok (.iload_n 2, 1) := by decide +kernel
theorem dX7_pass_60 : decode cX7_pass 60 = .ok (.dup2, 1) := by decide +kernel
theorem dX7_pass_61 : decode cX7_pass 61 = .ok (.iaload, 1) := by decide +kernel
theorem dX7_pass_62 : decode cX7_pass 62 = .ok (.aload_n 0, 1) := by decide +kernel
theorem dX7_pass_63 : decode cX7_pass 63 = .ok (.iload_n 2, 1) := by decide +kernel
theorem dX7_pass_64 : decode cX7_pass 64 = .ok (.invokevirtual 119, 3) := by decide +kernel
theorem dX7_pass_67 : decode cX7_pass 67 = .ok (.bipush 97, 2) := by decide +kernel
theorem dX7_pass_69 : decode cX7_pass 69 = .ok (.if_icmp .ne 7, 3) := by decide +kernel
theorem dX7_pass_72 : decode cX7_pass 72 = .ok (.iload_n 1, 1) := by decide +kernel
theorem dX7_pass_73 : decode cX7_pass 73 = .ok (.goto 4, 3) := by decide +kernel
theorem dX7_pass_76 : decode cX7_pass 76 = .ok (.iconst 0, 1) := by decide +kernel
theorem dX7_pass_77 : decode cX7_pass 77 = .ok (.iadd, 1) := by decide +kernel
theorem dX7_pass_78 : decode cX7_pass 78 = .ok (.iastore, 1) := by decide +kernel
theorem dX7_pass_79 : decode cX7_pass 79 = .ok (.iinc 2 1, 3) := by decide +kernel
theorem dX7_pass_82 : decode cX7_pass 82 = .ok (.goto (-35), 3) := by decide +kernel
theorem dX7_pass_85 : decode cX7_pass 85 = .ok (.aload_n 0, 1) := by decide +kernel
theorem dX7_pass_86 : decode cX7_pass 86 = .ok (.dup, 1) := by decide +kernel
theorem dX7_pass_87 : decode cX7_pass 87 = .ok (.getfield 116, 3) := by decide +kernel
theorem dX7_pass_90 : decode cX7_pass 90 = .ok (.iload_n 1, 1) := by decide +kernel
theorem dX7_pass_91 : decode cX7_pass 91 = .ok (.iadd, 1) := by decide +kernel
theorem dX7_pass_92 : decode cX7_pass 92 = .ok (.putfield 116, 3) := by decide +kernel
theorem dX7_pass_95 : decode cX7_pass 95 = .ok (.aload_n 0, 1) := by decide +kernel
theorem dX7_pass_96 : decode cX7_pass 96 = .ok (.getfield 116, 3) := by decide +kernel
theorem dX7_pass_99 : decode cX7_pass 99 = .ok (.ireturn, 1) := by decide +kernel
theorem dX7_today_0 : decode cX7_today 0 = .ok (.aload_n 0, 1) := by decide +kernel
theorem dX7_today_1 : decode cX7_today 1 = .ok (.iconst 0, 1) := by decide +kernel
theorem dX7_today_2 : decode cX7_today 2 = .ok (.putfield 87, 3) := by decide +kernel
theorem dX7_today_5 : decode cX7_today 5 = .ok (.aload_n 0, 1) := by decide +kernel
theorem dX7_today_6 : decode cX7_today 6 = .ok (.getfield 116, 3) := by decide +kernel
theorem dX7_today_9 : decode cX7_today 9 = .ok (.ireturn, 1) := by decide +kernel
theorem dX7_complain_0 : decode cX7_complain 0 = .ok (.iload_n 2, 1) := by decide +kernel
theorem dX7_complain_1 : decode cX7_complain 1 = .ok (.iconst 0, 1) := by decide +kernel
theorem dX7_complain_2 : decode cX7_complain 2 = .ok (.bipush 9, 2) := by decide +kernel
theorem dX7_complain_4 : decode cX7_complain 4 = .ok (.invokestatic 94, 3) := by decide +kernel
theorem dX7_complain_7 : decode cX7_complain 7 = .ok (.ifCond .eq 30, 3) := by decide +kernel
theorem dX7_complain_10 : decode cX7_complain 10 = .ok (.iload_n 3, 1) := by decide +kernel
theorem dX7_complain_11 : decode cX7_complain 11 = .ok (.iconst 0, 1) := by decide +kernel
theorem dX7_complain_12 : decode cX7_complain 12 = .ok (.bipush 49, 2) := by decide +kernel
theorem dX7_complain_14 : decode cX7_complain 14 = .ok (.invokestatic 94, 3) := by decide +kernel
theorem dX7_complain_17 : decode cX7_complain 17 = .ok (.ifCond .eq 20, 3) := by decide +kernel
theorem dX7_complain_20 : decode cX7_complain 20 = .ok (.iload 4, 2) := by decide +kernel
theorem dX7_complain_22 : decode cX7_complain 22 = .ok (.iconst 0, 1) := by decide +kernel
theorem dX7_complain_23 : decode cX7_complain 23 = .ok (.aload_n 0, 1) := by decide +kernel
theorem dX7_complain_24 : decode cX7_complain 24 = .ok (.getfield 116, 3) := by decide +kernel
theorem dX7_complain_27 : decode cX7_complain 27 = .ok (.invokestatic 94, 3) := by decide +kernel
theorem dX7_complain_30 : decode cX7_complain 30 = .ok (.ifCond .eq 7, 3) := by decide +kernel
theorem dX7_complain_33 : decode cX7_complain 33 = .ok (.iconst 1, 1) := by decide +kernel
theorem dX7_complain_34 : decode cX7_complain 34 = .ok (.goto 4, 3) := by decide +kernel
theorem dX7_complain_37 : decode cX7_complain 37 = .ok (.iconst 0, 1) := by decide +kernel
theorem dX7_complain_38 : decode cX7_complain 38 = .ok (.istore 5, 2) := by decide +kernel
theorem dX7_complain_40 : decode cX7_complain 40 = .ok (.aload_n 0, 1) := by decide +kernel
theorem dX7_complain_41 : decode cX7_complain 41 = .ok (.aload_n 0, 1) := by decide +kernel
theorem dX7_complain_42 : decode cX7_complain 42 = .ok (.iload_n 1, 1) := by decide +kernel
theorem dX7_complain_43 : decode cX7_complain 43 = .ok (.invokevirtual 123, 3) := by decide +kernel
theorem dX7_complain_46 : decode cX7_complain 46 = .ok (.ifCond .ne 7, 3) := by decide +kernel
theorem dX7_complain_49 : decode cX7_complain 49 = .ok (.iconst 1, 1) := by decide +kernel
theorem dX7_complain_50 : decode cX7_complain 50 = .ok (.goto 26, 3) := by decide +kernel
theorem dX7_complain_53 : decode cX7_complain 53 = .ok (.iload 5, 2) := by decide +kernel
theorem dX7_complain_55 : decode cX7_complain 55 = .ok (.ifCond .ne 7, 3) := by decide +kernel
theorem dX7_complain_58 : decode cX7_complain 58 = .ok (.iconst 2, 1) := by decide +kernel
theorem dX7_complain_59 : decode cX7_complain 59 = .ok (.goto 17, 3) := by decide +kernel
theorem dX7_complain_62 : decode cX7_complain 62 = .ok (.aload_n 0, 1) := by decide +kernel
theorem dX7_complain_63 : decode cX7_complain 63 = .ok (.getfield 98, 3) := by decide +kernel
theorem dX7_complain_66 : decode cX7_complain 66 = .ok (.bipush 20, 2) := by decide +kernel
theorem dX7_complain_68 : decode cX7_complain 68 = .ok (.if_icmp .ne 7, 3) := by decide +kernel
theorem dX7_complain_71 : decode cX7_complain 71 = .ok (.iconst 3, 1) := by decide +kernel
theorem dX7_complain_72 : decode cX7_complain 72 = .ok (.goto 4, 3) := by decide +kernel
theorem dX7_complain_75 : decode cX7_complain 75 = .ok (.iconst 0, 1) := by decide +kernel
theorem dX7_complain_76 : decode cX7_complain 76 = .ok (.putfield 87, 3) := by decide +kernel
theorem dX7_complain_79 : decode cX7_complain 79 = .ok (.aload_n 0, 1) := by decide +kernel
theorem dX7_complain_80 : decode cX7_complain 80 = .ok (.getfield 87, 3) := by decide +kernel
theorem dX7_complain_83 : decode cX7_complain 83 = .ok (.ifCond .le 5, 3) := by decide +kernel
theorem dX7_complain_86 : decode cX7_complain 86 = .ok (.iconst 0, 1) := by decide +kernel
theorem dX7_complain_87 : decode cX7_complain 87 = .ok (.ireturn, 1) := by decide +kernel
theorem dX7_complain_88 : decode cX7_complain 88 = .ok (.aload_n 0, 1) := by decide +kernel
theorem dX7_complain_89 : decode cX7_complain 89 = .ok (.getfield 25, 3) := by decide +kernel
theorem dX7_complain_92 : decode cX7_complain 92 = .ok (.aload_n 0, 1) := by decide +kernel
theorem dX7_complain_93 : decode cX7_complain 93 = .ok (.getfield 98, 3) := by decide +kernel
theorem dX7_complain_96 : decode cX7_complain 96 = .ok (.iload_n 1, 1) := by decide +kernel
theorem dX7_complain_97 : decode cX7_complain 97 = .ok (.iastore, 1) := by decide +kernel
theorem dX7_complain_98 : decode cX7_complain 98 = .ok (.aload_n 0, 1) := by decide +kernel
theorem dX7_complain_99 : decode cX7_complain 99 = .ok (.getfield 28, 3) := by decide +kernel
theorem dX7_complain_102 : decode cX7_complain 102 = .ok (.aload_n 0, 1) := by decide +kernel
theorem dX7_complain_103 : decode cX7_complain 103 = .ok (.getfield 98, 3) := by decide +kernel
theorem dX7_complain_106 : decode cX7_complain 106 = .ok (.iload_n 2, 1) := by decide +kernel
theorem dX7_complain_107 : decode cX7_complain 107 = .ok (.iastore, 1) := by decide +kernel
theorem dX7_complain_108 : decode cX7_complain 108 = .ok (.aload_n 0, 1) := by decide +kernel
theorem dX7_complain_109 : decode cX7_complain 109 = .ok (.getfield 31, 3) := by decide +kernel
theorem dX7_complain_112 : decode cX7_complain 112 = .ok (.aload_n 0, 1) := by decide +kernel
theorem dX7_complain_113 : decode cX7_complain 113 = .ok (.getfield 98, 3) := by decide +kernel
theorem dX7_complain_116 : decode cX7_complain 116 = .ok (.iload_n 3, 1) := by decide +kernel
theorem dX7_complain_117 : decode cX7_complain 117 = .ok (.iastore, 1) := by decide +kernel
theorem dX7_complain_118 : decode cX7_complain 118 = .ok (.aload_n 0, 1) := by decide +kernel
theorem dX7_complain_119 : decode cX7_complain 119 = .ok (.getfield 34, 3) := by decide +kernel
theorem dX7_complain_122 : decode cX7_complain 122 = .ok (.aload_n 0, 1) := by decide +kernel
theorem dX7_complain_123 : decode cX7_complain 123 = .ok (.getfield 98, 3) := by decide +kernel
theorem dX7_complain_126 : decode cX7_complain 126 = .ok (.iload 4, 2) := by decide +kernel
theorem dX7_complain_128 : decode cX7_complain 128 = .ok (.iastore, 1) := by decide +kernel
theorem dX7_complain_129 : decode cX7_complain 129 = .ok (.aload_n 0, 1) := by decide +kernel
theorem dX7_complain_130 : decode cX7_complain 130 = .ok (.getfield 37, 3) := by decide +kernel
theorem dX7_complain_133 : decode cX7_complain 133 = .ok (.aload_n 0, 1) := by decide +kernel
theorem dX7_complain_134 : decode cX7_complain 134 = .ok (.getfield 98, 3) := by decide +kernel
theorem dX7_complain_137 : decode cX7_complain 137 = .ok (.aload_n 0, 1) := by decide +kernel
theorem dX7_complain_138 : decode cX7_complain 138 = .ok (.getfield 116, 3) := by decide +kernel
theorem dX7_complain_141 : decode cX7_complain 141 = .ok (.iastore, 1) := by decide +kernel
theorem dX7_complain_142 : decode cX7_complain 142 = .ok (.aload_n 0, 1) := by decide +kernel
theorem dX7_complain_143 : decode cX7_complain 143 = .ok (.getfield 40, 3) := by decide +kernel
theorem dX7_complain_146 : decode cX7_complain 146 = .ok (.aload_n 0, 1) := by decide +kernel
theorem dX7_complain_147 : decode cX7_complain 147 = .ok (.getfield 98, 3) := by decide +kernel
theorem dX7_complain_150 : decode cX7_complain 150 = .ok (.bipush 110, 2) := by decide +kernel
theorem dX7_complain_152 : decode cX7_complain 152 = .ok (.castore, 1) := by decide +kernel
theorem dX7_complain_153 : decode cX7_complain 153 = .ok (.aload_n 0, 1) := by decide +kernel
theorem dX7_complain_154 : decode cX7_complain 154 = .ok (.getfield 44, 3) := by decide +kernel
theorem dX7_complain_157 : decode cX7_complain 157 = .ok (.aload_n 0, 1) := by decide +kernel
theorem dX7_complain_158 : decode cX7_complain 158 = .ok (.getfield 98, 3) := by decide +kernel
theorem dX7_complain_161 : decode cX7_complain 161 = .ok (.iconst (-1), 1) := by decide +kernel
theorem dX7_complain_162 : decode cX7_complain 162 = .ok (.iastore, 1) := by decide +kernel
theorem dX7_complain_163 : decode cX7_complain 163 = .ok (.aload_n 0, 1) := by decide +kernel
theorem dX7_complain_164 : decode cX7_complain 164 = .ok (.getfield 54, 3) := by decide +kernel
theorem dX7_complain_167 : decode cX7_complain 167 = .ok (.aload_n 0, 1) := by decide +kernel
theorem dX7_complain_168 : decode cX7_complain 168 = .ok (.getfield 98, 3) := by decide +kernel
theorem dX7_complain_171 : decode cX7_complain 171 = .ok (.iconst (-1), 1) := by decide +kernel
theorem dX7_complain_172 : decode cX7_complain 172 = .ok (.iastore, 1) := by decide +kernel
theorem dX7_complain_173 : decode cX7_complain 173 = .ok (.aload_n 0, 1) := by decide +kernel
theorem dX7_complain_174 : decode cX7_complain 174 = .ok (.getfield 69, 3) := by decide +kernel
theorem dX7_complain_177 : decode cX7_complain 177 = .ok (.aload_n 0, 1) := by decide +kernel
theorem dX7_complain_178 : decode cX7_complain 178 = .ok (.getfield 98, 3) := by decide +kernel
theorem dX7_complain_181 : decode cX7_complain 181 = .ok (.iconst (-1), 1) := by decide +kernel
theorem dX7_complain_182 : decode cX7_complain 182 = .ok (.iastore, 1) := by decide +kernel
theorem dX7_complain_183 : decode cX7_complain 183 = .ok (.aload_n 0, 1) := by decide +kernel
theorem dX7_complain_184 : decode cX7_complain 184 = .ok (.getfield 75, 3) := by decide +kernel
theorem dX7_complain_187 : decode cX7_complain 187 = .ok (.aload_n 0, 1) := by decide +kernel
theorem dX7_complain_188 : decode cX7_complain 188 = .ok (.getfield 98, 3) := by decide +kernel
theorem dX7_complain_191 : decode cX7_complain 191 = .ok (.iconst (-1), 1) := by decide +kernel
theorem dX7_complain_192 : decode cX7_complain 192 = .ok (.iastore, 1) := by decide +kernel
theorem dX7_complain_193 : decode cX7_complain 193 = .ok (.aload_n 0, 1) := by decide +kernel
theorem dX7_complain_194 : decode cX7_complain 194 = .ok (.dup, 1) := by decide +kernel
theorem dX7_complain_195 : decode cX7_complain 195 = .ok (.getfield 98, 3) := by decide +kernel
theorem dX7_complain_198 : decode cX7_complain 198 = .ok (.iconst 1, 1) := by decide +kernel
theorem dX7_complain_199 : decode cX7_complain 199 = .ok (.iadd, 1) := by decide +kernel
theorem dX7_complain_200 : decode cX7_complain 200 = .ok (.putfield 98, 3) := by decide +kernel
theorem dX7_complain_203 : decode cX7_complain 203 = .ok (.aload_n 0, 1) := by decide +kernel
theorem dX7_complain_204 : decode cX7_complain 204 = .ok (.getfield 98, 3) := by decide +kernel
theorem dX7_complain_207 : decode cX7_complain 207 = .ok (.iconst 1, 1) := by decide +kernel
theorem dX7_complain_208 : decode cX7_complain 208 = .ok (.isub, 1) := by decide +kernel
theorem dX7_complain_209 : decode cX7_complain 209 = .ok (.ireturn, 1) := by decide +kernel
theorem dX7_isPast_0 : decode cX7_isPast 0 = .ok (.aload_n 0, 1) := by decide +kernel
theorem dX7_isPast_1 : decode cX7_isPast 1 = .ok (.iload_n 1, 1) := by decide +kernel
theorem dX7_isPast_2 : decode cX7_isPast 2 = .ok (.invokevirtual 126, 3) := by decide +kernel
theorem dX7_isPast_5 : decode cX7_isPast 5 = .ok (.ifCond .eq 5, 3) := by decide +kernel
theorem dX7_isPast_8 : decode cX7_isPast 8 = .ok (.iconst 1, 1) := by decide +kernel
theorem dX7_isPast_9 : decode cX7_isPast 9 = .ok (.ireturn, 1) := by decide +kernel
theorem dX7_isPast_10 : decode cX7_isPast 10 = .ok (.aload_n 0, 1) := by decide +kernel
theorem dX7_isPast_11 : decode cX7_isPast 11 = .ok (.aload_n 0, 1) := by decide +kernel
theorem dX7_isPast_12 : decode cX7_isPast 12 = .ok (.iload_n 1, 1) := by decide +kernel
theorem dX7_isPast_13 : decode cX7_isPast 13 = .ok (.invokevirtual 119, 3) := by decide +kernel
theorem dX7_isPast_16 : decode cX7_isPast 16 = .ok (.bipush 110, 2) := by decide +kernel
theorem dX7_isPast_18 : decode cX7_isPast 18 = .ok (.if_icmp .eq 13, 3) := by decide +kernel
theorem dX7_isPast_21 : decode cX7_isPast 21 = .ok (.aload_n 0, 1) := by decide +kernel
theorem dX7_isPast_22 : decode cX7_isPast 22 = .ok (.iload_n 1, 1) := by decide +kernel
theorem dX7_isPast_23 : decode cX7_isPast 23 = .ok (.invokevirtual 119, 3) := by decide +kernel
theorem dX7_isPast_26 : decode cX7_isPast 26 = .ok (.bipush 102, 2) := by decide +kernel
theorem dX7_isPast_28 : decode cX7_isPast 28 = .ok (.if_icmp .ne 7, 3) := by decide +kernel
theorem dX7_isPast_31 : decode cX7_isPast 31 = .ok (.iconst 0, 1) := by decide +kernel
theorem dX7_isPast_32 : decode cX7_isPast 32 = .ok (.goto 4, 3) := by decide +kernel
theorem dX7_isPast_35 : decode cX7_isPast 35 = .ok (.iconst 2, 1) := by decide +kernel
theorem dX7_isPast_36 : decode cX7_isPast 36 = .ok (.putfield 87, 3) := by decide +kernel
theorem dX7_isPast_39 : decode cX7_isPast 39 = .ok (.aload_n 0, 1) := by decide +kernel
theorem dX7_isPast_40 : decode cX7_isPast 40 = .ok (.getfield 87, 3) := by decide +kernel
theorem dX7_isPast_43 : decode cX7_isPast 43 = .ok (.ifCond .le 7, 3) := by decide +kernel
theorem dX7_isPast_46 : decode cX7_isPast 46 = .ok (.iconst 1, 1) := by decide +kernel
theorem dX7_isPast_47 : decode cX7_isPast 47 = .ok (.goto 4, 3) := by decide +kernel
theorem dX7_isPast_50 : decode cX7_isPast 50 = .ok (.iconst 0, 1) := by decide +kernel
theorem dX7_isPast_51 : decode cX7_isPast 51 = .ok (.ireturn, 1) := by decide +kernel
theorem dX7_setCourt_0 : decode cX7_setCourt 0 = .ok (.aload_n 0, 1) := by decide +kernel
theorem dX7_setCourt_1 : decode cX7_setCourt 1 = .ok (.iload_n 1, 1) := by decide +kernel
theorem dX7_setCourt_2 : decode cX7_setCourt 2 = .ok (.invokevirtual 129, 3) := by decide +kernel
theorem dX7_setCourt_5 : decode cX7_setCourt 5 = .ok (.ifCond .eq 5, 3) := by decide +kernel
theorem dX7_setCourt_8 : decode cX7_setCourt 8 = .ok (.iconst 0, 1) := by decide +kernel
theorem dX7_setCourt_9 : decode cX7_setCourt 9 = .ok (.ireturn, 1) := by decide +kernel
theorem dX7_setCourt_10 : decode cX7_setCourt 10 = .ok (.aload_n 0, 1) := by decide +kernel
theorem dX7_setCourt_11 : decode cX7_setCourt 11 = .ok (.getfield 47, 3) := by decide +kernel
theorem dX7_setCourt_14 : decode cX7_setCourt 14 = .ok (.iload_n 1, 1) := by decide +kernel
theorem dX7_setCourt_15 : decode cX7_setCourt 15 = .ok (.baload, 1) := by decide +kernel
theorem dX7_setCourt_16 : decode cX7_setCourt 16 = .ok (.istore_n 3, 1) := by decide +kernel
theorem dX7_setCourt_17 : decode cX7_setCourt 17 = .ok (.aload_n 0, 1) := by decide +kernel
theorem dX7_setCourt_18 : decode cX7_setCourt 18 = .ok (.getfield 47, 3) := by decide +kernel
theorem dX7_setCourt_21 : decode cX7_setCourt 21 = .ok (.iload_n 1, 1) := by decide +kernel
theorem dX7_setCourt_22 : decode cX7_setCourt 22 = .ok (.iload_n 2, 1) := by decide +kernel
theorem dX7_setCourt_23 : decode cX7_setCourt 23 = .ok (.bastore, 1) := by decide +kernel
theorem dX7_setCourt_24 : decode cX7_setCourt 24 = .ok (.iload_n 3, 1) := by decide +kernel
theorem dX7_setCourt_25 : decode cX7_setCourt 25 = .ok (.ireturn, 1) := by decide +kernel
theorem dX7_excuse_0 : decode cX7_excuse 0 = .ok (.aload_n 0, 1) := by decide +kernel
theorem dX7_excuse_1 : decode cX7_excuse 1 = .ok (.iload_n 1, 1) := by decide +kernel
theorem dX7_excuse_2 : decode cX7_excuse 2 = .ok (.invokevirtual 129, 3) := by decide +kernel
theorem dX7_excuse_5 : decode cX7_excuse 5 = .ok (.ifCond .eq 5, 3) := by decide +kernel
theorem dX7_excuse_8 : decode cX7_excuse 8 = .ok (.iconst 0, 1) := by decide +kernel
theorem dX7_excuse_9 : decode cX7_excuse 9 = .ok (.ireturn, 1) := by decide +kernel
theorem dX7_excuse_10 : decode cX7_excuse 10 = .ok (.aload_n 0, 1) := by decide +kernel
theorem dX7_excuse_11 : decode cX7_excuse 11 = .ok (.getfield 51, 3) := by decide +kernel
theorem dX7_excuse_14 : decode cX7_excuse 14 = .ok (.iload_n 1, 1) := by decide +kernel
theorem dX7_excuse_15 : decode cX7_excuse 15 = .ok (.baload, 1) := by decide +kernel
theorem dX7_excuse_16 : decode cX7_excuse 16 = .ok (.istore_n 2, 1) := by decide +kernel
theorem dX7_excuse_17 : decode cX7_excuse 17 = .ok (.aload_n 0, 1) := by decide +kernel
theorem dX7_excuse_18 : decode cX7_excuse 18 = .ok (.getfield 51, 3) := by decide +kernel
theorem dX7_excuse_21 : decode cX7_excuse 21 = .ok (.iload_n 1, 1) := by decide +kernel
theorem dX7_excuse_22 : decode cX7_excuse 22 = .ok (.iconst 1, 1) := by decide +kernel
theorem dX7_excuse_23 : decode cX7_excuse 23 = .ok (.bastore, 1) := by decide +kernel
theorem dX7_excuse_24 : decode cX7_excuse 24 = .ok (.iload_n 2, 1) := by decide +kernel
theorem dX7_excuse_25 : decode cX7_excuse 25 = .ok (.ireturn, 1) := by decide +kernel
theorem dX7_takeStep_0 : decode cX7_takeStep 0 = .ok (.aload_n 0, 1) := by decide +kernel
theorem dX7_takeStep_1 : decode cX7_takeStep 1 = .ok (.iload_n 1, 1) := by decide +kernel
theorem dX7_takeStep_2 : decode cX7_takeStep 2 = .ok (.invokevirtual 129, 3) := by decide +kernel
theorem dX7_takeStep_5 : decode cX7_takeStep 5 = .ok (.ifCond .eq 5, 3) := by decide +kernel
theorem dX7_takeStep_8 : decode cX7_takeStep 8 = .ok (.iconst 0, 1) := by decide +kernel
theorem dX7_takeStep_9 : decode cX7_takeStep 9 = .ok (.ireturn, 1) := by decide +kernel
theorem dX7_takeStep_10 : decode cX7_takeStep 10 = .ok (.aload_n 0, 1) := by decide +kernel
theorem dX7_takeStep_11 : decode cX7_takeStep 11 = .ok (.aload_n 0, 1) := by decide +kernel
theorem dX7_takeStep_12 : decode cX7_takeStep 12 = .ok (.getfield 54, 3) := by decide +kernel
theorem dX7_takeStep_15 : decode cX7_takeStep 15 = .ok (.iload_n 1, 1) := by decide +kernel
theorem dX7_takeStep_16 : decode cX7_takeStep 16 = .ok (.iaload, 1) := by decide +kernel
theorem dX7_takeStep_17 : decode cX7_takeStep 17 = .ok (.iconst (-1), 1) := by decide +kernel
theorem dX7_takeStep_18 : decode cX7_takeStep 18 = .ok (.if_icmp .eq 7, 3) := by decide +kernel
theorem dX7_takeStep_21 : decode cX7_takeStep 21 = .ok (.iconst 2, 1) := by decide +kernel
theorem dX7_takeStep_22 : decode cX7_takeStep 22 = .ok (.goto 4, 3) := by decide +kernel
theorem dX7_takeStep_25 : decode cX7_takeStep 25 = .ok (.iconst 0, 1) := by decide +kernel
theorem dX7_takeStep_26 : decode cX7_takeStep 26 = .ok (.putfield 87, 3) := by decide +kernel
theorem dX7_takeStep_29 : decode cX7_takeStep 29 = .ok (.aload_n 0, 1) := by decide +kernel
theorem dX7_takeStep_30 : decode cX7_takeStep 30 = .ok (.getfield 87, 3) := by decide +kernel
theorem dX7_takeStep_33 : decode cX7_takeStep 33 = .ok (.ifCond .le 5, 3) := by decide +kernel
theorem dX7_takeStep_36 : decode cX7_takeStep 36 = .ok (.iconst 0, 1) := by decide +kernel
theorem dX7_takeStep_37 : decode cX7_takeStep 37 = .ok (.ireturn, 1) := by decide +kernel
theorem dX7_takeStep_38 : decode cX7_takeStep 38 = .ok (.aload_n 0, 1) := by decide +kernel
theorem dX7_takeStep_39 : decode cX7_takeStep 39 = .ok (.getfield 54, 3) := by decide +kernel
theorem dX7_takeStep_42 : decode cX7_takeStep 42 = .ok (.iload_n 1, 1) := by decide +kernel
theorem dX7_takeStep_43 : decode cX7_takeStep 43 = .ok (.aload_n 0, 1) := by decide +kernel
theorem dX7_takeStep_44 : decode cX7_takeStep 44 = .ok (.getfield 116, 3) := by decide +kernel
theorem dX7_takeStep_47 : decode cX7_takeStep 47 = .ok (.iastore, 1) := by decide +kernel
theorem dX7_takeStep_48 : decode cX7_takeStep 48 = .ok (.aload_n 0, 1) := by decide +kernel
theorem dX7_takeStep_49 : decode cX7_takeStep 49 = .ok (.getfield 116, 3) := by decide +kernel
theorem dX7_takeStep_52 : decode cX7_takeStep 52 = .ok (.aload_n 0, 1) := by decide +kernel
theorem dX7_takeStep_53 : decode cX7_takeStep 53 = .ok (.getfield 7, 3) := by decide +kernel
theorem dX7_takeStep_56 : decode cX7_takeStep 56 = .ok (.aload_n 0, 1) := by decide +kernel
theorem dX7_takeStep_57 : decode cX7_takeStep 57 = .ok (.getfield 25, 3) := by decide +kernel
theorem dX7_takeStep_60 : decode cX7_takeStep 60 = .ok (.iload_n 1, 1) := by decide +kernel
theorem dX7_takeStep_61 : decode cX7_takeStep 61 = .ok (.iaload, 1) := by decide +kernel
theorem dX7_takeStep_62 : decode cX7_takeStep 62 = .ok (.iaload, 1) := by decide +kernel
theorem dX7_takeStep_63 : decode cX7_takeStep 63 = .ok (.iadd, 1) := by decide +kernel
theorem dX7_takeStep_64 : decode cX7_takeStep 64 = .ok (.ireturn, 1) := by decide +kernel
theorem dX7_examine_0 : decode cX7_examine 0 = .ok (.aload_n 0, 1) := by decide +kernel
theorem dX7_examine_1 : decode cX7_examine 1 = .ok (.iload_n 1, 1) := by decide +kernel
theorem dX7_examine_2 : decode cX7_examine 2 = .ok (.invokevirtual 129, 3) := by decide +kernel
theorem dX7_examine_5 : decode cX7_examine 5 = .ok (.ifCond .eq 6, 3) := by decide +kernel
theorem dX7_examine_8 : decode cX7_examine 8 = .ok (.bipush 32, 2) := by decide +kernel
theorem dX7_examine_10 : decode cX7_examine 10 = .ok (.ireturn, 1) := by decide +kernel
theorem dX7_examine_11 : decode cX7_examine 11 = .ok (.aload_n 0, 1) := by decide +kernel
theorem dX7_examine_12 : decode cX7_examine 12 = .ok (.getfield 25, 3) := by decide +kernel
theorem dX7_examine_15 : decode cX7_examine 15 = .ok (.iload_n 1, 1) := by decide +kernel
theorem dX7_examine_16 : decode cX7_examine 16 = .ok (.iaload, 1) := by decide +kernel
theorem dX7_examine_17 : decode cX7_examine 17 = .ok (.istore_n 2, 1) := by decide +kernel
theorem dX7_examine_18 : decode cX7_examine 18 = .ok (.aload_n 0, 1) := by decide +kernel
theorem dX7_examine_19 : decode cX7_examine 19 = .ok (.getfield 13, 3) := by decide +kernel
theorem dX7_examine_22 : decode cX7_examine 22 = .ok (.iload_n 2, 1) := by decide +kernel
theorem dX7_examine_23 : decode cX7_examine 23 = .ok (.iaload, 1) := by decide +kernel
theorem dX7_examine_24 : decode cX7_examine 24 = .ok (.aload_n 0, 1) := by decide +kernel
theorem dX7_examine_25 : decode cX7_examine 25 = .ok (.getfield 28, 3) := by decide +kernel
theorem dX7_examine_28 : decode cX7_examine 28 = .ok (.iload_n 1, 1) := by decide +kernel
theorem dX7_examine_29 : decode cX7_examine 29 = .ok (.iaload, 1) := by decide +kernel
theorem dX7_examine_30 : decode cX7_examine 30 = .ok (.ishr, 1) := by decide +kernel
theorem dX7_examine_31 : decode cX7_examine 31 = .ok (.iconst 1, 1) := by decide +kernel
theorem dX7_examine_32 : decode cX7_examine 32 = .ok (.iand, 1) := by decide +kernel
theorem dX7_examine_33 : decode cX7_examine 33 = .ok (.iconst 1, 1) := by decide +kernel
theorem dX7_examine_34 : decode cX7_examine 34 = .ok (.if_icmp .ne 16, 3) := by decide +kernel
theorem dX7_examine_37 : decode cX7_examine 37 = .ok (.aload_n 0, 1) := by decide +kernel
theorem dX7_examine_38 : decode cX7_examine 38 = .ok (.getfield 47, 3) := by decide +kernel
theorem dX7_examine_41 : decode cX7_examine 41 = .ok (.iload_n 1, 1) := by decide +kernel
theorem dX7_examine_42 : decode cX7_examine 42 = .ok (.baload, 1) := by decide +kernel
theorem dX7_examine_43 : decode cX7_examine 43 = .ok (.ifCond .ne 7, 3) := by decide +kernel
theorem dX7_examine_46 : decode cX7_examine 46 = .ok (.iconst 1, 1) := by decide +kernel
theorem dX7_examine_47 : decode cX7_examine 47 = .ok (.goto 4, 3) := by decide +kernel
theorem dX7_examine_50 : decode cX7_examine 50 = .ok (.iconst 0, 1) := by decide +kernel
theorem dX7_examine_51 : decode cX7_examine 51 = .ok (.istore_n 3, 1) := by decide +kernel
theorem dX7_examine_52 : decode cX7_examine 52 = .ok (.aload_n 0, 1) := by decide +kernel
theorem dX7_examine_53 : decode cX7_examine 53 = .ok (.getfield 37, 3) := by decide +kernel
theorem dX7_examine_56 : decode cX7_examine 56 = .ok (.iload_n 1, 1) := by decide +kernel
theorem dX7_examine_57 : decode cX7_examine 57 = .ok (.iaload, 1) := by decide +kernel
theorem dX7_examine_58 : decode cX7_examine 58 = .ok (.aload_n 0, 1) := by decide +kernel
theorem dX7_examine_59 : decode cX7_examine 59 = .ok (.getfield 34, 3) := by decide +kernel
theorem dX7_examine_62 : decode cX7_examine 62 = .ok (.iload_n 1, 1) := by decide +kernel
theorem dX7_examine_63 : decode cX7_examine 63 = .ok (.iaload, 1) := by decide +kernel
theorem dX7_examine_64 : decode cX7_examine 64 = .ok (.isub, 1) := by decide +kernel
theorem dX7_examine_65 : decode cX7_examine 65 = .ok (.sipush 365, 3) := by decide +kernel
theorem dX7_examine_68 : decode cX7_examine 68 = .ok (.if_icmp .le 16, 3) := by decide +kernel
theorem dX7_examine_71 : decode cX7_examine 71 = .ok (.aload_n 0, 1) := by decide +kernel
theorem dX7_examine_72 : decode cX7_examine 72 = .ok (.getfield 51, 3) := by decide +kernel
theorem dX7_examine_75 : decode cX7_examine 75 = .ok (.iload_n 1, 1) := by decide +kernel
theorem dX7_examine_76 : decode cX7_examine 76 = .ok (.baload, 1) := by decide +kernel
theorem dX7_examine_77 : decode cX7_examine 77 = .ok (.ifCond .ne 7, 3) := by decide +kernel
theorem dX7_examine_80 : decode cX7_examine 80 = .ok (.iconst 1, 1) := by decide +kernel
theorem dX7_examine_81 : decode cX7_examine 81 = .ok (.goto 4, 3) := by decide +kernel
theorem dX7_examine_84 : decode cX7_examine 84 = .ok (.iconst 0, 1) := by decide +kernel
theorem dX7_examine_85 : decode cX7_examine 85 = .ok (.istore 4, 2) := by decide +kernel
theorem dX7_examine_87 : decode cX7_examine 87 = .ok (.aload_n 0, 1) := by decide +kernel
theorem dX7_examine_88 : decode cX7_examine 88 = .ok (.getfield 54, 3) := by decide +kernel
theorem dX7_examine_91 : decode cX7_examine 91 = .ok (.iload_n 1, 1) := by decide +kernel
theorem dX7_examine_92 : decode cX7_examine 92 = .ok (.iaload, 1) := by decide +kernel
theorem dX7_examine_93 : decode cX7_examine 93 = .ok (.iconst (-1), 1) := by decide +kernel
theorem dX7_examine_94 : decode cX7_examine 94 = .ok (.if_icmp .eq 27, 3) := by decide +kernel
theorem dX7_examine_97 : decode cX7_examine 97 = .ok (.aload_n 0, 1) := by decide +kernel
theorem dX7_examine_98 : decode cX7_examine 98 = .ok (.getfield 116, 3) := by decide +kernel
theorem dX7_examine_101 : decode cX7_examine 101 = .ok (.aload_n 0, 1) := by decide +kernel
theorem dX7_examine_102 : decode cX7_examine 102 = .ok (.getfield 54, 3) := by decide +kernel
theorem dX7_examine_105 : decode cX7_examine 105 = .ok (.iload_n 1, 1) := by decide +kernel
theorem dX7_examine_106 : decode cX7_examine 106 = .ok (.iaload, 1) := by decide +kernel
theorem dX7_examine_107 : decode cX7_examine 107 = .ok (.isub, 1) := by decide +kernel
theorem dX7_examine_108 : decode cX7_examine 108 = .ok (.aload_n 0, 1) := by decide +kernel
theorem dX7_examine_109 : decode cX7_examine 109 = .ok (.getfield 7, 3) := by decide +kernel
theorem dX7_examine_112 : decode cX7_examine 112 = .ok (.iload_n 2, 1) := by decide +kernel
theorem dX7_examine_113 : decode cX7_examine 113 = .ok (.iaload, 1) := by decide +kernel
theorem dX7_examine_114 : decode cX7_examine 114 = .ok (.if_icmp .lt 7, 3) := by decide +kernel
theorem dX7_examine_117 : decode cX7_examine 117 = .ok (.iconst 1, 1) := by decide +kernel
theorem dX7_examine_118 : decode cX7_examine 118 = .ok (.goto 4, 3) := by decide +kernel
theorem dX7_examine_121 : decode cX7_examine 121 = .ok (.iconst 0, 1) := by decide +kernel
theorem dX7_examine_122 : decode cX7_examine 122 = .ok (.istore 5, 2) := by decide +kernel
theorem dX7_examine_124 : decode cX7_examine 124 = .ok (.iload_n 3, 1) := by decide +kernel
theorem dX7_examine_125 : decode cX7_examine 125 = .ok (.ifCond .ne 8, 3) := by decide +kernel
theorem dX7_examine_128 : decode cX7_examine 128 = .ok (.bipush 111, 2) := by decide +kernel
theorem dX7_examine_130 : decode cX7_examine 130 = .ok (.goto 25, 3) := by decide +kernel
theorem dX7_examine_133 : decode cX7_examine 133 = .ok (.iload 4, 2) := by decide +kernel
theorem dX7_examine_135 : decode cX7_examine 135 = .ok (.ifCond .eq 8, 3) := by decide +kernel
theorem dX7_examine_138 : decode cX7_examine 138 = .ok (.bipush 108, 2) := by decide +kernel
theorem dX7_examine_140 : decode cX7_examine 140 = .ok (.goto 15, 3) := by decide +kernel
theorem dX7_examine_143 : decode cX7_examine 143 = .ok (.iload 5, 2) := by decide +kernel
theorem dX7_examine_145 : decode cX7_examine 145 = .ok (.ifCond .eq 8, 3) := by decide +kernel
theorem dX7_examine_148 : decode cX7_examine 148 = .ok (.bipush 114, 2) := by decide +kernel
theorem dX7_examine_150 : decode cX7_examine 150 = .ok (.goto 5, 3) := by decide +kernel
theorem dX7_examine_153 : decode cX7_examine 153 = .ok (.bipush 102, 2) := by decide +kernel
theorem dX7_examine_155 : decode cX7_examine 155 = .ok (.istore 6, 2) := by decide +kernel
theorem dX7_examine_157 : decode cX7_examine 157 = .ok (.aload_n 0, 1) := by decide +kernel
theorem dX7_examine_158 : decode cX7_examine 158 = .ok (.getfield 40, 3) := by decide +kernel
theorem dX7_examine_161 : decode cX7_examine 161 = .ok (.iload_n 1, 1) := by decide +kernel
theorem dX7_examine_162 : decode cX7_examine 162 = .ok (.iload 6, 2) := by decide +kernel
theorem dX7_examine_164 : decode cX7_examine 164 = .ok (.castore, 1) := by decide +kernel
theorem dX7_examine_165 : decode cX7_examine 165 = .ok (.iload 6, 2) := by decide +kernel
theorem dX7_examine_167 : decode cX7_examine 167 = .ok (.invokestatic 112, 3) := by decide +kernel
theorem dX7_examine_170 : decode cX7_examine 170 = .ok (.ifCond .eq 13, 3) := by decide +kernel
theorem dX7_examine_173 : decode cX7_examine 173 = .ok (.aload_n 0, 1) := by decide +kernel
theorem dX7_examine_174 : decode cX7_examine 174 = .ok (.getfield 81, 3) := by decide +kernel
theorem dX7_examine_177 : decode cX7_examine 177 = .ok (.iload_n 1, 1) := by decide +kernel
theorem dX7_examine_178 : decode cX7_examine 178 = .ok (.aload_n 0, 1) := by decide +kernel
theorem dX7_examine_179 : decode cX7_examine 179 = .ok (.getfield 116, 3) := by decide +kernel
theorem dX7_examine_182 : decode cX7_examine 182 = .ok (.iastore, 1) := by decide +kernel
theorem dX7_examine_183 : decode cX7_examine 183 = .ok (.iload 6, 2) := by decide +kernel
theorem dX7_examine_185 : decode cX7_examine 185 = .ok (.ireturn, 1) := by decide +kernel
theorem dX7_state_0 : decode cX7_state 0 = .ok (.aload_n 0, 1) := by decide +kernel
theorem dX7_state_1 : decode cX7_state 1 = .ok (.iload_n 1, 1) := by decide +kernel
theorem dX7_state_2 : decode cX7_state 2 = .ok (.invokevirtual 126, 3) := by decide +kernel
theorem dX7_state_5 : decode cX7_state 5 = .ok (.ifCond .eq 8, 3) := by decide +kernel
theorem dX7_state_8 : decode cX7_state 8 = .ok (.bipush 32, 2) := by decide +kernel
theorem dX7_state_10 : decode cX7_state 10 = .ok (.goto 8, 3) := by decide +kernel
theorem dX7_state_13 : decode cX7_state 13 = .ok (.aload_n 0, 1) := by decide +kernel
theorem dX7_state_14 : decode cX7_state 14 = .ok (.iload_n 1, 1) := by decide +kernel
theorem dX7_state_15 : decode cX7_state 15 = .ok (.invokevirtual 119, 3) := by decide +kernel
theorem dX7_state_18 : decode cX7_state 18 = .ok (.ireturn, 1) := by decide +kernel
theorem dX7_countState_0 : decode cX7_countState 0 = .ok (.aload_n 0, 1) := by decide +kernel
theorem dX7_countState_1 : decode cX7_countState 1 = .ok (.iload_n 1, 1) := by decide +kernel
theorem dX7_countState_2 : decode cX7_countState 2 = .ok (.invokestatic 132, 3) := by decide +kernel
theorem dX7_countState_5 : decode cX7_countState 5 = .ok (.ifCond .eq 7, 3) := by decide +kernel
theorem dX7_countState_8 : decode cX7_countState 8 = .ok (.iconst 0, 1) := by decide +kernel
theorem dX7_countState_9 : decode cX7_countState 9 = .ok (.goto 4, 3) := by decide +kernel
theorem dX7_countState_12 : decode cX7_countState 12 = .ok (.iconst 1, 1) := by decide +kernel
theorem dX7_countState_13 : decode cX7_countState 13 = .ok (.putfield 87, 3) := by decide +kernel
theorem dX7_countState_16 : decode cX7_countState 16 = .ok (.iconst 0, 1) := by decide +kernel
theorem dX7_countState_17 : decode cX7_countState 17 = .ok (.istore_n 2, 1) := by decide +kernel
theorem dX7_countState_18 : decode cX7_countState 18 = .ok (.iconst 0, 1) := by decide +kernel
theorem dX7_countState_19 : decode cX7_countState 19 = .ok (.istore_n 3, 1) := by decide +kernel
theorem dX7_countState_20 : decode cX7_countState 20 = .ok (.iload_n 3, 1) := by decide +kernel
theorem dX7_countState_21 : decode cX7_countState 21 = .ok (.aload_n 0, 1) := by decide +kernel
theorem dX7_countState_22 : decode cX7_countState 22 = .ok (.getfield 98, 3) := by decide +kernel
theorem dX7_countState_25 : decode cX7_countState 25 = .ok (.if_icmp .ge 33, 3) := by decide +kernel
theorem dX7_countState_28 : decode cX7_countState 28 = .ok (.iload_n 2, 1) := by decide +kernel
theorem dX7_countState_29 : decode cX7_countState 29 = .ok (.aload_n 0, 1) := by decide +kernel
theorem dX7_countState_30 : decode cX7_countState 30 = .ok (.getfield 87, 3) := by decide +kernel
theorem dX7_countState_33 : decode cX7_countState 33 = .ok (.ifCond .ne 16, 3) := by decide +kernel
theorem dX7_countState_36 : decode cX7_countState 36 = .ok (.aload_n 0, 1) := by decide +kernel
theorem dX7_countState_37 : decode cX7_countState 37 = .ok (.iload_n 3, 1) := by decide +kernel
theorem dX7_countState_38 : decode cX7_countState 38 = .ok (.invokevirtual 119, 3) := by decide +kernel
theorem dX7_countState_41 : decode cX7_countState 41 = .ok (.iload_n 1, 1) := by decide +kernel
theorem dX7_countState_42 : decode cX7_countState 42 = .ok (.if_icmp .ne 7, 3) := by decide +kernel
theorem dX7_countState_45 : decode cX7_countState 45 = .ok (.iconst 1, 1) := by decide +kernel
theorem dX7_countState_46 : decode cX7_countState 46 = .ok (.goto 4, 3) := by decide +kernel
theorem dX7_countState_49 : decode cX7_countState 49 = .ok (.iconst 0, 1) := by decide +kernel
theorem dX7_countState_50 : decode cX7_countState 50 = .ok (.iadd, 1) := by decide +kernel
theorem dX7_countState_51 : decode cX7_countState 51 = .ok (.istore_n 2, 1) := by decide +kernel
theorem dX7_countState_52 : decode cX7_countState 52 = .ok (.iinc 3 1, 3) := by decide +kernel
theorem dX7_countState_55 : decode cX7_countState 55 = .ok (.goto (-35), 3) := by decide +kernel
theorem dX7_countState_58 : decode cX7_countState 58 = .ok (.iload_n 2, 1) := by decide +kernel
theorem dX7_countState_59 : decode cX7_countState 59 = .ok (.ireturn, 1) := by decide +kernel
theorem dX7_countOf_0 : decode cX7_countOf 0 = .ok (.aload_n 0, 1) := by decide +kernel
theorem dX7_countOf_1 : decode cX7_countOf 1 = .ok (.iload_n 1, 1) := by decide +kernel
theorem dX7_countOf_2 : decode cX7_countOf 2 = .ok (.iconst 0, 1) := by decide +kernel
theorem dX7_countOf_3 : decode cX7_countOf 3 = .ok (.bipush 49, 2) := by decide +kernel
theorem dX7_countOf_5 : decode cX7_countOf 5 = .ok (.invokestatic 94, 3) := by decide +kernel
theorem dX7_countOf_8 : decode cX7_countOf 8 = .ok (.ifCond .eq 7, 3) := by decide +kernel
theorem dX7_countOf_11 : decode cX7_countOf 11 = .ok (.iconst 0, 1) := by decide +kernel
theorem dX7_countOf_12 : decode cX7_countOf 12 = .ok (.goto 4, 3) := by decide +kernel
theorem dX7_countOf_15 : decode cX7_countOf 15 = .ok (.iconst 1, 1) := by decide +kernel
theorem dX7_countOf_16 : decode cX7_countOf 16 = .ok (.putfield 87, 3) := by decide +kernel
theorem dX7_countOf_19 : decode cX7_countOf 19 = .ok (.iconst 0, 1) := by decide +kernel
theorem dX7_countOf_20 : decode cX7_countOf 20 = .ok (.istore_n 2, 1) := by decide +kernel
theorem dX7_countOf_21 : decode cX7_countOf 21 = .ok (.iconst 0, 1) := by decide +kernel
theorem dX7_countOf_22 : decode cX7_countOf 22 = .ok (.istore_n 3, 1) := by decide +kernel
theorem dX7_countOf_23 : decode cX7_countOf 23 = .ok (.iload_n 3, 1) := by decide +kernel
theorem dX7_countOf_24 : decode cX7_countOf 24 = .ok (.aload_n 0, 1) := by decide +kernel
theorem dX7_countOf_25 : decode cX7_countOf 25 = .ok (.getfield 98, 3) := by decide +kernel
theorem dX7_countOf_28 : decode cX7_countOf 28 = .ok (.if_icmp .ge 34, 3) := by decide +kernel
theorem dX7_countOf_31 : decode cX7_countOf 31 = .ok (.iload_n 2, 1) := by decide +kernel
theorem dX7_countOf_32 : decode cX7_countOf 32 = .ok (.aload_n 0, 1) := by decide +kernel
theorem dX7_countOf_33 : decode cX7_countOf 33 = .ok (.getfield 87, 3) := by decide +kernel
theorem dX7_countOf_36 : decode cX7_countOf 36 = .ok (.ifCond .ne 17, 3) := by decide +kernel
theorem dX7_countOf_39 : decode cX7_countOf 39 = .ok (.aload_n 0, 1) := by decide +kernel
theorem dX7_countOf_40 : decode cX7_countOf 40 = .ok (.getfield 31, 3) := by decide +kernel
theorem dX7_countOf_43 : decode cX7_countOf 43 = .ok (.iload_n 3, 1) := by decide +kernel
theorem dX7_countOf_44 : decode cX7_countOf 44 = .ok (.iaload, 1) := by decide +kernel
theorem dX7_countOf_45 : decode cX7_countOf 45 = .ok (.iload_n 1, 1) := by decide +kernel
theorem dX7_countOf_46 : decode cX7_countOf 46 = .ok (.if_icmp .ne 7, 3) := by decide +kernel
theorem dX7_countOf_49 : decode cX7_countOf 49 = .ok (.iconst 1, 1) := by decide +kernel
theorem dX7_countOf_50 : decode cX7_countOf 50 = .ok (.goto 4, 3) := by decide +kernel
theorem dX7_countOf_53 : decode cX7_countOf 53 = .ok (.iconst 0, 1) := by decide +kernel
theorem dX7_countOf_54 : decode cX7_countOf 54 = .ok (.iadd, 1) := by decide +kernel
theorem dX7_countOf_55 : decode cX7_countOf 55 = .ok (.istore_n 2, 1) := by decide +kernel
theorem dX7_countOf_56 : decode cX7_countOf 56 = .ok (.iinc 3 1, 3) := by decide +kernel
theorem dX7_countOf_59 : decode cX7_countOf 59 = .ok (.goto (-36), 3) := by decide +kernel
theorem dX7_countOf_62 : decode cX7_countOf 62 = .ok (.iload_n 2, 1) := by decide +kernel
theorem dX7_countOf_63 : decode cX7_countOf 63 = .ok (.ireturn, 1) := by decide +kernel
theorem dX7_isNot_0 : decode cX7_isNot 0 = .ok (.aload_n 0, 1) := by decide +kernel
theorem dX7_isNot_1 : decode cX7_isNot 1 = .ok (.iload_n 1, 1) := by decide +kernel
theorem dX7_isNot_2 : decode cX7_isNot 2 = .ok (.invokevirtual 126, 3) := by decide +kernel
theorem dX7_isNot_5 : decode cX7_isNot 5 = .ok (.ifCond .eq 5, 3) := by decide +kernel
theorem dX7_isNot_8 : decode cX7_isNot 8 = .ok (.iconst 1, 1) := by decide +kernel
theorem dX7_isNot_9 : decode cX7_isNot 9 = .ok (.ireturn, 1) := by decide +kernel
theorem dX7_isNot_10 : decode cX7_isNot 10 = .ok (.aload_n 0, 1) := by decide +kernel
theorem dX7_isNot_11 : decode cX7_isNot 11 = .ok (.aload_n 0, 1) := by decide +kernel
theorem dX7_isNot_12 : decode cX7_isNot 12 = .ok (.iload_n 1, 1) := by decide +kernel
theorem dX7_isNot_13 : decode cX7_isNot 13 = .ok (.invokevirtual 105, 3) := by decide +kernel
theorem dX7_isNot_16 : decode cX7_isNot 16 = .ok (.ifCond .ne 13, 3) := by decide +kernel
theorem dX7_isNot_19 : decode cX7_isNot 19 = .ok (.aload_n 0, 1) := by decide +kernel
theorem dX7_isNot_20 : decode cX7_isNot 20 = .ok (.getfield 40, 3) := by decide +kernel
theorem dX7_isNot_23 : decode cX7_isNot 23 = .ok (.iload_n 1, 1) := by decide +kernel
theorem dX7_isNot_24 : decode cX7_isNot 24 = .ok (.caload, 1) := by decide +kernel
theorem dX7_isNot_25 : decode cX7_isNot 25 = .ok (.iload_n 2, 1) := by decide +kernel
theorem dX7_isNot_26 : decode cX7_isNot 26 = .ok (.if_icmp .eq 7, 3) := by decide +kernel
theorem dX7_isNot_29 : decode cX7_isNot 29 = .ok (.iconst 2, 1) := by decide +kernel
theorem dX7_isNot_30 : decode cX7_isNot 30 = .ok (.goto 4, 3) := by decide +kernel
theorem dX7_isNot_33 : decode cX7_isNot 33 = .ok (.iconst 0, 1) := by decide +kernel
theorem dX7_isNot_34 : decode cX7_isNot 34 = .ok (.putfield 87, 3) := by decide +kernel
theorem dX7_isNot_37 : decode cX7_isNot 37 = .ok (.aload_n 0, 1) := by decide +kernel
theorem dX7_isNot_38 : decode cX7_isNot 38 = .ok (.getfield 87, 3) := by decide +kernel
theorem dX7_isNot_41 : decode cX7_isNot 41 = .ok (.ifCond .le 7, 3) := by decide +kernel
theorem dX7_isNot_44 : decode cX7_isNot 44 = .ok (.iconst 1, 1) := by decide +kernel
theorem dX7_isNot_45 : decode cX7_isNot 45 = .ok (.goto 4, 3) := by decide +kernel
theorem dX7_isNot_48 : decode cX7_isNot 48 = .ok (.iconst 0, 1) := by decide +kernel
theorem dX7_isNot_49 : decode cX7_isNot 49 = .ok (.ireturn, 1) := by decide +kernel
theorem dX7_isOver_0 : decode cX7_isOver 0 = .ok (.aload_n 0, 1) := by decide +kernel
theorem dX7_isOver_1 : decode cX7_isOver 1 = .ok (.getfield 40, 3) := by decide +kernel
theorem dX7_isOver_4 : decode cX7_isOver 4 = .ok (.iload_n 1, 1) := by decide +kernel
theorem dX7_isOver_5 : decode cX7_isOver 5 = .ok (.caload, 1) := by decide +kernel
theorem dX7_isOver_6 : decode cX7_isOver 6 = .ok (.bipush 97, 2) := by decide +kernel
theorem dX7_isOver_8 : decode cX7_isOver 8 = .ok (.if_icmp .ne 20, 3) := by decide +kernel
theorem dX7_isOver_11 : decode cX7_isOver 11 = .ok (.aload_n 0, 1) := by decide +kernel
theorem dX7_isOver_12 : decode cX7_isOver 12 = .ok (.getfield 116, 3) := by decide +kernel
theorem dX7_isOver_15 : decode cX7_isOver 15 = .ok (.aload_n 0, 1) := by decide +kernel
theorem dX7_isOver_16 : decode cX7_isOver 16 = .ok (.getfield 57, 3) := by decide +kernel
theorem dX7_isOver_19 : decode cX7_isOver 19 = .ok (.iload_n 1, 1) := by decide +kernel
theorem dX7_isOver_20 : decode cX7_isOver 20 = .ok (.iaload, 1) := by decide +kernel
theorem dX7_isOver_21 : decode cX7_isOver 21 = .ok (.if_icmp .le 7, 3) := by decide +kernel
theorem dX7_isOver_24 : decode cX7_isOver 24 = .ok (.iconst 1, 1) := by decide +kernel
theorem dX7_isOver_25 : decode cX7_isOver 25 = .ok (.goto 4, 3) := by decide +kernel
theorem dX7_isOver_28 : decode cX7_isOver 28 = .ok (.iconst 0, 1) := by decide +kernel
theorem dX7_isOver_29 : decode cX7_isOver 29 = .ok (.ireturn, 1) := by decide +kernel
theorem dX7_ask_0 : decode cX7_ask 0 = .ok (.aload_n 0, 1) := by decide +kernel
theorem dX7_ask_1 : decode cX7_ask 1 = .ok (.iload_n 1, 1) := by decide +kernel
theorem dX7_ask_2 : decode cX7_ask 2 = .ok (.bipush 114, 2) := by decide +kernel
theorem dX7_ask_4 : decode cX7_ask 4 = .ok (.invokevirtual 135, 3) := by decide +kernel
theorem dX7_ask_7 : decode cX7_ask 7 = .ok (.ifCond .eq 5, 3) := by decide +kernel
theorem dX7_ask_10 : decode cX7_ask 10 = .ok (.iconst 0, 1) := by decide +kernel
theorem dX7_ask_11 : decode cX7_ask 11 = .ok (.ireturn, 1) := by decide +kernel
theorem dX7_ask_12 : decode cX7_ask 12 = .ok (.aload_n 0, 1) := by decide +kernel
theorem dX7_ask_13 : decode cX7_ask 13 = .ok (.getfield 40, 3) := by decide +kernel
theorem dX7_ask_16 : decode cX7_ask 16 = .ok (.iload_n 1, 1) := by decide +kernel
theorem dX7_ask_17 : decode cX7_ask 17 = .ok (.bipush 97, 2) := by decide +kernel
theorem dX7_ask_19 : decode cX7_ask 19 = .ok (.castore, 1) := by decide +kernel
theorem dX7_ask_20 : decode cX7_ask 20 = .ok (.aload_n 0, 1) := by decide +kernel
theorem dX7_ask_21 : decode cX7_ask 21 = .ok (.getfield 57, 3) := by decide +kernel
theorem dX7_ask_24 : decode cX7_ask 24 = .ok (.iload_n 1, 1) := by decide +kernel
theorem dX7_ask_25 : decode cX7_ask 25 = .ok (.aload_n 0, 1) := by decide +kernel
theorem dX7_ask_26 : decode cX7_ask 26 = .ok (.getfield 116, 3) := by decide +kernel
theorem dX7_ask_29 : decode cX7_ask 29 = .ok (.aload_n 0, 1) := by decide +kernel
theorem dX7_ask_30 : decode cX7_ask 30 = .ok (.getfield 7, 3) := by decide +kernel
theorem dX7_ask_33 : decode cX7_ask 33 = .ok (.aload_n 0, 1) := by decide +kernel
theorem dX7_ask_34 : decode cX7_ask 34 = .ok (.getfield 25, 3) := by decide +kernel
theorem dX7_ask_37 : decode cX7_ask 37 = .ok (.iload_n 1, 1) := by decide +kernel
theorem dX7_ask_38 : decode cX7_ask 38 = .ok (.iaload, 1) := by decide +kernel
theorem dX7_ask_39 : decode cX7_ask 39 = .ok (.iaload, 1) := by decide +kernel
theorem dX7_ask_40 : decode cX7_ask 40 = .ok (.iadd, 1) := by decide +kernel
theorem dX7_ask_41 : decode cX7_ask 41 = .ok (.iastore, 1) := by decide +kernel
theorem dX7_ask_42 : decode cX7_ask 42 = .ok (.aload_n 0, 1) := by decide +kernel
theorem dX7_ask_43 : decode cX7_ask 43 = .ok (.getfield 57, 3) := by decide +kernel
theorem dX7_ask_46 : decode cX7_ask 46 = .ok (.iload_n 1, 1) := by decide +kernel
theorem dX7_ask_47 : decode cX7_ask 47 = .ok (.iaload, 1) := by decide +kernel
theorem dX7_ask_48 : decode cX7_ask 48 = .ok (.ireturn, 1) := by decide +kernel
theorem dX7_extend_0 : decode cX7_extend 0 = .ok (.aload_n 0, 1) := by decide +kernel
theorem dX7_extend_1 : decode cX7_extend 1 = .ok (.iload_n 1, 1) := by decide +kernel
theorem dX7_extend_2 : decode cX7_extend 2 = .ok (.invokevirtual 126, 3) := by decide +kernel
theorem dX7_extend_5 : decode cX7_extend 5 = .ok (.ifCond .eq 5, 3) := by decide +kernel
theorem dX7_extend_8 : decode cX7_extend 8 = .ok (.iconst 0, 1) := by decide +kernel
theorem dX7_extend_9 : decode cX7_extend 9 = .ok (.ireturn, 1) := by decide +kernel
theorem dX7_extend_10 : decode cX7_extend 10 = .ok (.aload_n 0, 1) := by decide +kernel
theorem dX7_extend_11 : decode cX7_extend 11 = .ok (.iload_n 1, 1) := by decide +kernel
theorem dX7_extend_12 : decode cX7_extend 12 = .ok (.invokevirtual 105, 3) := by decide +kernel
theorem dX7_extend_15 : decode cX7_extend 15 = .ok (.ifCond .ne 35, 3) := by decide +kernel
theorem dX7_extend_18 : decode cX7_extend 18 = .ok (.aload_n 0, 1) := by decide +kernel
theorem dX7_extend_19 : decode cX7_extend 19 = .ok (.getfield 40, 3) := by decide +kernel
theorem dX7_extend_22 : decode cX7_extend 22 = .ok (.iload_n 1, 1) := by decide +kernel
theorem dX7_extend_23 : decode cX7_extend 23 = .ok (.caload, 1) := by decide +kernel
theorem dX7_extend_24 : decode cX7_extend 24 = .ok (.bipush 97, 2) := by decide +kernel
theorem dX7_extend_26 : decode cX7_extend 26 = .ok (.if_icmp .ne 24, 3) := by decide +kernel
theorem dX7_extend_29 : decode cX7_extend 29 = .ok (.aload_n 0, 1) := by decide +kernel
theorem dX7_extend_30 : decode cX7_extend 30 = .ok (.iload_n 1, 1) := by decide +kernel
theorem dX7_extend_31 : decode cX7_extend 31 = .ok (.invokevirtual 139, 3) := by decide +kernel
theorem dX7_extend_34 : decode cX7_extend 34 = .ok (.ifCond .ne 16, 3) := by decide +kernel
theorem dX7_extend_37 : decode cX7_extend 37 = .ok (.aload_n 0, 1) := by decide +kernel
theorem dX7_extend_38 : decode cX7_extend 38 = .ok (.getfield 60, 3) := by decide +kernel
theorem dX7_extend_41 : decode cX7_extend 41 = .ok (.iload_n 1, 1) := by decide +kernel
theorem dX7_extend_42 : decode cX7_extend 42 = .ok (.baload, 1) := by decide +kernel
theorem dX7_extend_43 : decode cX7_extend 43 = .ok (.ifCond .ne 7, 3) := by decide +kernel
theorem dX7_extend_46 : decode cX7_extend 46 = .ok (.iconst 1, 1) := by decide +kernel
theorem dX7_extend_47 : decode cX7_extend 47 = .ok (.goto 4, 3) := by decide +kernel
theorem dX7_extend_50 : decode cX7_extend 50 = .ok (.iconst 0, 1) := by decide +kernel
theorem dX7_extend_51 : decode cX7_extend 51 = .ok (.istore_n 3, 1) := by decide +kernel
theorem dX7_extend_52 : decode cX7_extend 52 = .ok (.aload_n 0, 1) := by decide +kernel
theorem dX7_extend_53 : decode cX7_extend 53 = .ok (.iload_n 2, 1) := by decide +kernel
theorem dX7_extend_54 : decode cX7_extend 54 = .ok (.iconst 1, 1) := by decide +kernel
theorem dX7_extend_55 : decode cX7_extend 55 = .ok (.bipush 30, 2) := by decide +kernel
theorem dX7_extend_57 : decode cX7_extend 57 = .ok (.invokestatic 94, 3) := by decide +kernel
theorem dX7_extend_60 : decode cX7_extend 60 = .ok (.ifCond .ne 7, 3) := by decide +kernel
theorem dX7_extend_63 : decode cX7_extend 63 = .ok (.iconst 2, 1) := by decide +kernel
theorem dX7_extend_64 : decode cX7_extend 64 = .ok (.goto 12, 3) := by decide +kernel
theorem dX7_extend_67 : decode cX7_extend 67 = .ok (.iload_n 3, 1) := by decide +kernel
theorem dX7_extend_68 : decode cX7_extend 68 = .ok (.ifCond .ne 7, 3) := by decide +kernel
theorem dX7_extend_71 : decode cX7_extend 71 = .ok (.iconst 3, 1) := by decide +kernel
theorem dX7_extend_72 : decode cX7_extend 72 = .ok (.goto 4, 3) := by decide +kernel
theorem dX7_extend_75 : decode cX7_extend 75 = .ok (.iconst 0, 1) := by decide +kernel
theorem dX7_extend_76 : decode cX7_extend 76 = .ok (.putfield 87, 3) := by decide +kernel
theorem dX7_extend_79 : decode cX7_extend 79 = .ok (.aload_n 0, 1) := by decide +kernel
theorem dX7_extend_80 : decode cX7_extend 80 = .ok (.getfield 87, 3) := by decide +kernel
theorem dX7_extend_83 : decode cX7_extend 83 = .ok (.ifCond .le 5, 3) := by decide +kernel
theorem dX7_extend_86 : decode cX7_extend 86 = .ok (.iconst 0, 1) := by decide +kernel
theorem dX7_extend_87 : decode cX7_extend 87 = .ok (.ireturn, 1) := by decide +kernel
theorem dX7_extend_88 : decode cX7_extend 88 = .ok (.aload_n 0, 1) := by decide +kernel
theorem dX7_extend_89 : decode cX7_extend 89 = .ok (.getfield 60, 3) := by decide +kernel
theorem dX7_extend_92 : decode cX7_extend 92 = .ok (.iload_n 1, 1) := by decide +kernel
theorem dX7_extend_93 : decode cX7_extend 93 = .ok (.iconst 1, 1) := by decide +kernel
theorem dX7_extend_94 : decode cX7_extend 94 = .ok (.bastore, 1) := by decide +kernel
theorem dX7_extend_95 : decode cX7_extend 95 = .ok (.aload_n 0, 1) := by decide +kernel
theorem dX7_extend_96 : decode cX7_extend 96 = .ok (.getfield 57, 3) := by decide +kernel
theorem dX7_extend_99 : decode cX7_extend 99 = .ok (.iload_n 1, 1) := by decide +kernel
theorem dX7_extend_100 : decode cX7_extend 100 = .ok (.dup2, 1) := by decide +kernel
theorem dX7_extend_101 : decode cX7_extend 101 = .ok (.iaload, 1) := by decide +kernel
theorem dX7_extend_102 : decode cX7_extend 102 = .ok (.iload_n 2, 1) := by decide +kernel
theorem dX7_extend_103 : decode cX7_extend 103 = .ok (.iadd, 1) := by decide +kernel
theorem dX7_extend_104 : decode cX7_extend 104 = .ok (.iastore, 1) := by decide +kernel
theorem dX7_extend_105 : decode cX7_extend 105 = .ok (.aload_n 0, 1) := by decide +kernel
theorem dX7_extend_106 : decode cX7_extend 106 = .ok (.getfield 57, 3) := by decide +kernel
theorem dX7_extend_109 : decode cX7_extend 109 = .ok (.iload_n 1, 1) := by decide +kernel
theorem dX7_extend_110 : decode cX7_extend 110 = .ok (.iaload, 1) := by decide +kernel
theorem dX7_extend_111 : decode cX7_extend 111 = .ok (.ireturn, 1) := by decide +kernel
theorem dX7_remind_0 : decode cX7_remind 0 = .ok (.aload_n 0, 1) := by decide +kernel
theorem dX7_remind_1 : decode cX7_remind 1 = .ok (.iload_n 1, 1) := by decide +kernel
theorem dX7_remind_2 : decode cX7_remind 2 = .ok (.bipush 97, 2) := by decide +kernel
theorem dX7_remind_4 : decode cX7_remind 4 = .ok (.invokevirtual 135, 3) := by decide +kernel
theorem dX7_remind_7 : decode cX7_remind 7 = .ok (.ifCond .eq 5, 3) := by decide +kernel
theorem dX7_remind_10 : decode cX7_remind 10 = .ok (.iconst 0, 1) := by decide +kernel
theorem dX7_remind_11 : decode cX7_remind 11 = .ok (.ireturn, 1) := by decide +kernel
theorem dX7_remind_12 : decode cX7_remind 12 = .ok (.aload_n 0, 1) := by decide +kernel
theorem dX7_remind_13 : decode cX7_remind 13 = .ok (.aload_n 0, 1) := by decide +kernel
theorem dX7_remind_14 : decode cX7_remind 14 = .ok (.iload_n 1, 1) := by decide +kernel
theorem dX7_remind_15 : decode cX7_remind 15 = .ok (.invokevirtual 139, 3) := by decide +kernel
theorem dX7_remind_18 : decode cX7_remind 18 = .ok (.ifCond .eq 13, 3) := by decide +kernel
theorem dX7_remind_21 : decode cX7_remind 21 = .ok (.aload_n 0, 1) := by decide +kernel
theorem dX7_remind_22 : decode cX7_remind 22 = .ok (.getfield 63, 3) := by decide +kernel
theorem dX7_remind_25 : decode cX7_remind 25 = .ok (.iload_n 1, 1) := by decide +kernel
theorem dX7_remind_26 : decode cX7_remind 26 = .ok (.iaload, 1) := by decide +kernel
theorem dX7_remind_27 : decode cX7_remind 27 = .ok (.iconst 3, 1) := by decide +kernel
theorem dX7_remind_28 : decode cX7_remind 28 = .ok (.if_icmp .ne 7, 3) := by decide +kernel
theorem dX7_remind_31 : decode cX7_remind 31 = .ok (.iconst 2, 1) := by decide +kernel
theorem dX7_remind_32 : decode cX7_remind 32 = .ok (.goto 4, 3) := by decide +kernel
theorem dX7_remind_35 : decode cX7_remind 35 = .ok (.iconst 0, 1) := by decide +kernel
theorem dX7_remind_36 : decode cX7_remind 36 = .ok (.putfield 87, 3) := by decide +kernel
theorem dX7_remind_39 : decode cX7_remind 39 = .ok (.aload_n 0, 1) := by decide +kernel
theorem dX7_remind_40 : decode cX7_remind 40 = .ok (.getfield 87, 3) := by decide +kernel
theorem dX7_remind_43 : decode cX7_remind 43 = .ok (.ifCond .le 5, 3) := by decide +kernel
theorem dX7_remind_46 : decode cX7_remind 46 = .ok (.iconst 0, 1) := by decide +kernel
theorem dX7_remind_47 : decode cX7_remind 47 = .ok (.ireturn, 1) := by decide +kernel
theorem dX7_remind_48 : decode cX7_remind 48 = .ok (.aload_n 0, 1) := by decide +kernel
theorem dX7_remind_49 : decode cX7_remind 49 = .ok (.getfield 63, 3) := by decide +kernel
theorem dX7_remind_52 : decode cX7_remind 52 = .ok (.iload_n 1, 1) := by decide +kernel
theorem dX7_remind_53 : decode cX7_remind 53 = .ok (.dup2, 1) := by decide +kernel
theorem dX7_remind_54 : decode cX7_remind 54 = .ok (.iaload, 1) := by decide +kernel
theorem dX7_remind_55 : decode cX7_remind 55 = .ok (.iconst 1, 1) := by decide +kernel
theorem dX7_remind_56 : decode cX7_remind 56 = .ok (.iadd, 1) := by decide +kernel
theorem dX7_remind_57 : decode cX7_remind 57 = .ok (.iastore, 1) := by decide +kernel
theorem dX7_remind_58 : decode cX7_remind 58 = .ok (.aload_n 0, 1) := by decide +kernel
theorem dX7_remind_59 : decode cX7_remind 59 = .ok (.getfield 57, 3) := by decide +kernel
theorem dX7_remind_62 : decode cX7_remind 62 = .ok (.iload_n 1, 1) := by decide +kernel
theorem dX7_remind_63 : decode cX7_remind 63 = .ok (.aload_n 0, 1) := by decide +kernel
theorem dX7_remind_64 : decode cX7_remind 64 = .ok (.getfield 116, 3) := by decide +kernel
theorem dX7_remind_67 : decode cX7_remind 67 = .ok (.bipush 7, 2) := by decide +kernel
theorem dX7_remind_69 : decode cX7_remind 69 = .ok (.iadd, 1) := by decide +kernel
theorem dX7_remind_70 : decode cX7_remind 70 = .ok (.iastore, 1) := by decide +kernel
theorem dX7_remind_71 : decode cX7_remind 71 = .ok (.aload_n 0, 1) := by decide +kernel
theorem dX7_remind_72 : decode cX7_remind 72 = .ok (.getfield 63, 3) := by decide +kernel
theorem dX7_remind_75 : decode cX7_remind 75 = .ok (.iload_n 1, 1) := by decide +kernel
theorem dX7_remind_76 : decode cX7_remind 76 = .ok (.iaload, 1) := by decide +kernel
theorem dX7_remind_77 : decode cX7_remind 77 = .ok (.ireturn, 1) := by decide +kernel
theorem dX7_answer_0 : decode cX7_answer 0 = .ok (.aload_n 0, 1) := by decide +kernel
theorem dX7_answer_1 : decode cX7_answer 1 = .ok (.iload_n 1, 1) := by decide +kernel
theorem dX7_answer_2 : decode cX7_answer 2 = .ok (.bipush 97, 2) := by decide +kernel
theorem dX7_answer_4 : decode cX7_answer 4 = .ok (.invokevirtual 135, 3) := by decide +kernel
theorem dX7_answer_7 : decode cX7_answer 7 = .ok (.ifCond .eq 5, 3) := by decide +kernel
theorem dX7_answer_10 : decode cX7_answer 10 = .ok (.iconst 0, 1) := by decide +kernel
theorem dX7_answer_11 : decode cX7_answer 11 = .ok (.ireturn, 1) := by decide +kernel
theorem dX7_answer_12 : decode cX7_answer 12 = .ok (.aload_n 0, 1) := by decide +kernel
theorem dX7_answer_13 : decode cX7_answer 13 = .ok (.getfield 116, 3) := by decide +kernel
theorem dX7_answer_16 : decode cX7_answer 16 = .ok (.aload_n 0, 1) := by decide +kernel
theorem dX7_answer_17 : decode cX7_answer 17 = .ok (.getfield 57, 3) := by decide +kernel
theorem dX7_answer_20 : decode cX7_answer 20 = .ok (.iload_n 1, 1) := by decide +kernel
theorem dX7_answer_21 : decode cX7_answer 21 = .ok (.iaload, 1) := by decide +kernel
theorem dX7_answer_22 : decode cX7_answer 22 = .ok (.if_icmp .le 17, 3) := by decide +kernel
theorem dX7_answer_25 : decode cX7_answer 25 = .ok (.aload_n 0, 1) := by decide +kernel
theorem dX7_answer_26 : decode cX7_answer 26 = .ok (.getfield 116, 3) := by decide +kernel
theorem dX7_answer_29 : decode cX7_answer 29 = .ok (.aload_n 0, 1) := by decide +kernel
theorem dX7_answer_30 : decode cX7_answer 30 = .ok (.getfield 57, 3) := by decide +kernel
theorem dX7_answer_33 : decode cX7_answer 33 = .ok (.iload_n 1, 1) := by decide +kernel
theorem dX7_answer_34 : decode cX7_answer 34 = .ok (.iaload, 1) := by decide +kernel
theorem dX7_answer_35 : decode cX7_answer 35 = .ok (.isub, 1) := by decide +kernel
theorem dX7_answer_36 : decode cX7_answer 36 = .ok (.goto 4, 3) := by decide +kernel
theorem dX7_answer_39 : decode cX7_answer 39 = .ok (.iconst 0, 1) := by decide +kernel
theorem dX7_answer_40 : decode cX7_answer 40 = .ok (.istore_n 2, 1) := by decide +kernel
theorem dX7_answer_41 : decode cX7_answer 41 = .ok (.aload_n 0, 1) := by decide +kernel
theorem dX7_answer_42 : decode cX7_answer 42 = .ok (.getfield 40, 3) := by decide +kernel
theorem dX7_answer_45 : decode cX7_answer 45 = .ok (.iload_n 1, 1) := by decide +kernel
theorem dX7_answer_46 : decode cX7_answer 46 = .ok (.bipush 115, 2) := by decide +kernel
theorem dX7_answer_48 : decode cX7_answer 48 = .ok (.castore, 1) := by decide +kernel
theorem dX7_answer_49 : decode cX7_answer 49 = .ok (.iload_n 2, 1) := by decide +kernel
theorem dX7_answer_50 : decode cX7_answer 50 = .ok (.ireturn, 1) := by decide +kernel
theorem dX7_takeSilence_0 : decode cX7_takeSilence 0 = .ok (.aload_n 0, 1) := by decide +kernel
theorem dX7_takeSilence_1 : decode cX7_takeSilence 1 = .ok (.iload_n 1, 1) := by decide +kernel
theorem dX7_takeSilence_2 : decode cX7_takeSilence 2 = .ok (.bipush 97, 2) := by decide +kernel
theorem dX7_takeSilence_4 : decode cX7_takeSilence 4 = .ok (.invokevirtual 135, 3) := by decide +kernel
theorem dX7_takeSilence_7 : decode cX7_takeSilence 7 = .ok (.ifCond .eq 5, 3) := by decide +kernel
theorem dX7_takeSilence_10 : decode cX7_takeSilence 10 = .ok (.iconst 0, 1) := by decide +kernel
theorem dX7_takeSilence_11 : decode cX7_takeSilence 11 = .ok (.ireturn, 1) := by decide +kernel
theorem dX7_takeSilence_12 : decode cX7_takeSilence 12 = .ok (.aload_n 0, 1) := by decide +kernel
theorem dX7_takeSilence_13 : decode cX7_takeSilence 13 = .ok (.aload_n 0, 1) := by decide +kernel
theorem dX7_takeSilence_14 : decode cX7_takeSilence 14 = .ok (.iload_n 1, 1) := by decide +kernel
theorem dX7_takeSilence_15 : decode cX7_takeSilence 15 = .ok (.invokevirtual 139, 3) := by decide +kernel
theorem dX7_takeSilence_18 : decode cX7_takeSilence 18 = .ok (.ifCond .eq 13, 3) := by decide +kernel
theorem dX7_takeSilence_21 : decode cX7_takeSilence 21 = .ok (.aload_n 0, 1) := by decide +kernel
theorem dX7_takeSilence_22 : decode cX7_takeSilence 22 = .ok (.getfield 63, 3) := by decide +kernel
theorem dX7_takeSilence_25 : decode cX7_takeSilence 25 = .ok (.iload_n 1, 1) := by decide +kernel
theorem dX7_takeSilence_26 : decode cX7_takeSilence 26 = .ok (.iaload, 1) := by decide +kernel
theorem dX7_takeSilence_27 : decode cX7_takeSilence 27 = .ok (.iconst 3, 1) := by decide +kernel
theorem dX7_takeSilence_28 : decode cX7_takeSilence 28 = .ok (.if_icmp .ge 7, 3) := by decide +kernel
theorem dX7_takeSilence_31 : decode cX7_takeSilence 31 = .ok (.iconst 2, 1) := by decide +kernel
theorem dX7_takeSilence_32 : decode cX7_takeSilence 32 = .ok (.goto 4, 3) := by decide +kernel
theorem dX7_takeSilence_35 : decode cX7_takeSilence 35 = .ok (.iconst 0, 1) := by decide +kernel
theorem dX7_takeSilence_36 : decode cX7_takeSilence 36 = .ok (.putfield 87, 3) := by decide +kernel
theorem dX7_takeSilence_39 : decode cX7_takeSilence 39 = .ok (.aload_n 0, 1) := by decide +kernel
theorem dX7_takeSilence_40 : decode cX7_takeSilence 40 = .ok (.getfield 87, 3) := by decide +kernel
theorem dX7_takeSilence_43 : decode cX7_takeSilence 43 = .ok (.ifCond .le 5, 3) := by decide +kernel
theorem dX7_takeSilence_46 : decode cX7_takeSilence 46 = .ok (.iconst 0, 1) := by decide +kernel
theorem dX7_takeSilence_47 : decode cX7_takeSilence 47 = .ok (.ireturn, 1) := by decide +kernel
theorem dX7_takeSilence_48 : decode cX7_takeSilence 48 = .ok (.aload_n 0, 1) := by decide +kernel
theorem dX7_takeSilence_49 : decode cX7_takeSilence 49 = .ok (.getfield 66, 3) := by decide +kernel
theorem dX7_takeSilence_52 : decode cX7_takeSilence 52 = .ok (.iload_n 1, 1) := by decide +kernel
theorem dX7_takeSilence_53 : decode cX7_takeSilence 53 = .ok (.iconst 1, 1) := by decide +kernel
theorem dX7_takeSilence_54 : decode cX7_takeSilence 54 = .ok (.bastore, 1) := by decide +kernel
theorem dX7_takeSilence_55 : decode cX7_takeSilence 55 = .ok (.aload_n 0, 1) := by decide +kernel
theorem dX7_takeSilence_56 : decode cX7_takeSilence 56 = .ok (.getfield 40, 3) := by decide +kernel
theorem dX7_takeSilence_59 : decode cX7_takeSilence 59 = .ok (.iload_n 1, 1) := by decide +kernel
theorem dX7_takeSilence_60 : decode cX7_takeSilence 60 = .ok (.bipush 115, 2) := by decide +kernel
theorem dX7_takeSilence_62 : decode cX7_takeSilence 62 = .ok (.castore, 1) := by decide +kernel
theorem dX7_takeSilence_63 : decode cX7_takeSilence 63 = .ok (.iconst 1, 1) := by decide +kernel
theorem dX7_takeSilence_64 : decode cX7_takeSilence 64 = .ok (.aload_n 0, 1) := by decide +kernel
theorem dX7_takeSilence_65 : decode cX7_takeSilence 65 = .ok (.iload_n 1, 1) := by decide +kernel
theorem dX7_takeSilence_66 : decode cX7_takeSilence 66 = .ok (.invokevirtual 142, 3) := by decide +kernel
theorem dX7_takeSilence_69 : decode cX7_takeSilence 69 = .ok (.iadd, 1) := by decide +kernel
theorem dX7_takeSilence_70 : decode cX7_takeSilence 70 = .ok (.ireturn, 1) := by decide +kernel
theorem dX7_isOverdue_0 : decode cX7_isOverdue 0 = .ok (.aload_n 0, 1) := by decide +kernel
theorem dX7_isOverdue_1 : decode cX7_isOverdue 1 = .ok (.iload_n 1, 1) := by decide +kernel
theorem dX7_isOverdue_2 : decode cX7_isOverdue 2 = .ok (.invokevirtual 126, 3) := by decide +kernel
theorem dX7_isOverdue_5 : decode cX7_isOverdue 5 = .ok (.ifCond .ne 19, 3) := by decide +kernel
theorem dX7_isOverdue_8 : decode cX7_isOverdue 8 = .ok (.aload_n 0, 1) := by decide +kernel
theorem dX7_isOverdue_9 : decode cX7_isOverdue 9 = .ok (.aload_n 0, 1) := by decide +kernel
theorem dX7_isOverdue_10 : decode cX7_isOverdue 10 = .ok (.iload_n 1, 1) := by decide +kernel
theorem dX7_isOverdue_11 : decode cX7_isOverdue 11 = .ok (.invokevirtual 108, 3) := by decide +kernel
theorem dX7_isOverdue_14 : decode cX7_isOverdue 14 = .ok (.invokevirtual 139, 3) := by decide +kernel
theorem dX7_isOverdue_17 : decode cX7_isOverdue 17 = .ok (.ifCond .eq 7, 3) := by decide +kernel
theorem dX7_isOverdue_20 : decode cX7_isOverdue 20 = .ok (.iconst 1, 1) := by decide +kernel
theorem dX7_isOverdue_21 : decode cX7_isOverdue 21 = .ok (.goto 4, 3) := by decide +kernel
theorem dX7_isOverdue_24 : decode cX7_isOverdue 24 = .ok (.iconst 0, 1) := by decide +kernel
theorem dX7_isOverdue_25 : decode cX7_isOverdue 25 = .ok (.ireturn, 1) := by decide +kernel
theorem dX7_nextDue_0 : decode cX7_nextDue 0 = .ok (.iconst (-1), 1) := by decide +kernel
theorem dX7_nextDue_1 : decode cX7_nextDue 1 = .ok (.istore_n 1, 1) := by decide +kernel
theorem dX7_nextDue_2 : decode cX7_nextDue 2 = .ok (.iconst 0, 1) := by decide +kernel
theorem dX7_nextDue_3 : decode cX7_nextDue 3 = .ok (.istore_n 2, 1) := by decide +kernel
theorem dX7_nextDue_4 : decode cX7_nextDue 4 = .ok (.iload_n 2, 1) := by decide +kernel
theorem dX7_nextDue_5 : decode cX7_nextDue 5 = .ok (.aload_n 0, 1) := by decide +kernel
theorem dX7_nextDue_6 : decode cX7_nextDue 6 = .ok (.getfield 98, 3) := by decide +kernel
theorem dX7_nextDue_9 : decode cX7_nextDue 9 = .ok (.if_icmp .ge 88, 3) := by decide +kernel
theorem dX7_nextDue_12 : decode cX7_nextDue 12 = .ok (.aload_n 0, 1) := by decide +kernel
theorem dX7_nextDue_13 : decode cX7_nextDue 13 = .ok (.iload_n 2, 1) := by decide +kernel
theorem dX7_nextDue_14 : decode cX7_nextDue 14 = .ok (.invokevirtual 105, 3) := by decide +kernel
theorem dX7_nextDue_17 : decode cX7_nextDue 17 = .ok (.ifCond .ne 42, 3) := by decide +kernel
theorem dX7_nextDue_20 : decode cX7_nextDue 20 = .ok (.aload_n 0, 1) := by decide +kernel
theorem dX7_nextDue_21 : decode cX7_nextDue 21 = .ok (.getfield 40, 3) := by decide +kernel
theorem dX7_nextDue_24 : decode cX7_nextDue 24 = .ok (.iload_n 2, 1) := by decide +kernel
theorem dX7_nextDue_25 : decode cX7_nextDue 25 = .ok (.caload, 1) := by decide +kernel
theorem dX7_nextDue_26 : decode cX7_nextDue 26 = .ok (.bipush 97, 2) := by decide +kernel
theorem dX7_nextDue_28 : decode cX7_nextDue 28 = .ok (.if_icmp .eq 14, 3) := by decide +kernel
theorem dX7_nextDue_31 : decode cX7_nextDue 31 = .ok (.aload_n 0, 1) := by decide +kernel
theorem dX7_nextDue_32 : decode cX7_nextDue 32 = .ok (.getfield 40, 3) := by decide +kernel
theorem dX7_nextDue_35 : decode cX7_nextDue 35 = .ok (.iload_n 2, 1) := by decide +kernel
theorem dX7_nextDue_36 : decode cX7_nextDue 36 = .ok (.caload, 1) := by decide +kernel
theorem dX7_nextDue_37 : decode cX7_nextDue 37 = .ok (.bipush 100, 2) := by decide +kernel
theorem dX7_nextDue_39 : decode cX7_nextDue 39 = .ok (.if_icmp .ne 20, 3) := by decide +kernel
theorem dX7_nextDue_42 : decode cX7_nextDue 42 = .ok (.aload_n 0, 1) := by decide +kernel
theorem dX7_nextDue_43 : decode cX7_nextDue 43 = .ok (.getfield 57, 3) := by decide +kernel
theorem dX7_nextDue_46 : decode cX7_nextDue 46 = .ok (.iload_n 2, 1) := by decide +kernel
theorem dX7_nextDue_47 : decode cX7_nextDue 47 = .ok (.iaload, 1) := by decide +kernel
theorem dX7_nextDue_48 : decode cX7_nextDue 48 = .ok (.aload_n 0, 1) := by decide +kernel
theorem dX7_nextDue_49 : decode cX7_nextDue 49 = .ok (.getfield 116, 3) := by decide +kernel
theorem dX7_nextDue_52 : decode cX7_nextDue 52 = .ok (.if_icmp .lt 7, 3) := by decide +kernel
theorem dX7_nextDue_55 : decode cX7_nextDue 55 = .ok (.iconst 1, 1) := by decide +kernel
theorem dX7_nextDue_56 : decode cX7_nextDue 56 = .ok (.goto 4, 3) := by decide +kernel
theorem dX7_nextDue_59 : decode cX7_nextDue 59 = .ok (.iconst 0, 1) := by decide +kernel
theorem dX7_nextDue_60 : decode cX7_nextDue 60 = .ok (.istore_n 3, 1) := by decide +kernel
theorem dX7_nextDue_61 : decode cX7_nextDue 61 = .ok (.iload_n 3, 1) := by decide +kernel
theorem dX7_nextDue_62 : decode cX7_nextDue 62 = .ok (.ifCond .eq 27, 3) := by decide +kernel
theorem dX7_nextDue_65 : decode cX7_nextDue 65 = .ok (.iload_n 1, 1) := by decide +kernel
theorem dX7_nextDue_66 : decode cX7_nextDue 66 = .ok (.iconst (-1), 1) := by decide +kernel
theorem dX7_nextDue_67 : decode cX7_nextDue 67 = .ok (.if_icmp .eq 13, 3) := by decide +kernel
theorem dX7_nextDue_70 : decode cX7_nextDue 70 = .ok (.aload_n 0, 1) := by decide +kernel
theorem dX7_nextDue_71 : decode cX7_nextDue 71 = .ok (.getfield 57, 3) := by decide +kernel
theorem dX7_nextDue_74 : decode cX7_nextDue 74 = .ok (.iload_n 2, 1) := by decide +kernel
theorem dX7_nextDue_75 : decode cX7_nextDue 75 = .ok (.iaload, 1) := by decide +kernel
theorem dX7_nextDue_76 : decode cX7_nextDue 76 = .ok (.iload_n 1, 1) := by decide +kernel
theorem dX7_nextDue_77 : decode cX7_nextDue 77 = .ok (.if_icmp .ge 12, 3) := by decide +kernel
theorem dX7_nextDue_80 : decode cX7_nextDue 80 = .ok (.aload_n 0, 1) := by decide +kernel
theorem dX7_nextDue_81 : decode cX7_nextDue 81 = .ok (.getfield 57, 3) := by decide +kernel
theorem dX7_nextDue_84 : decode cX7_nextDue 84 = .ok (.iload_n 2, 1) := by decide +kernel
theorem dX7_nextDue_85 : decode cX7_nextDue 85 = .ok (.iaload, 1) := by decide +kernel
theorem dX7_nextDue_86 : decode cX7_nextDue 86 = .ok (.goto 4, 3) := by decide +kernel
theorem dX7_nextDue_89 : decode cX7_nextDue 89 = .ok (.iload_n 1, 1) := by decide +kernel
theorem dX7_nextDue_90 : decode cX7_nextDue 90 = .ok (.istore_n 1, 1) := by decide +kernel
theorem dX7_nextDue_91 : decode cX7_nextDue 91 = .ok (.iinc 2 1, 3) := by decide +kernel
theorem dX7_nextDue_94 : decode cX7_nextDue 94 = .ok (.goto (-90), 3) := by decide +kernel
theorem dX7_nextDue_97 : decode cX7_nextDue 97 = .ok (.aload_n 0, 1) := by decide +kernel
theorem dX7_nextDue_98 : decode cX7_nextDue 98 = .ok (.iload_n 1, 1) := by decide +kernel
theorem dX7_nextDue_99 : decode cX7_nextDue 99 = .ok (.iconst (-1), 1) := by decide +kernel
theorem dX7_nextDue_100 : decode cX7_nextDue 100 = .ok (.if_icmp .ne 7, 3) := by decide +kernel
theorem dX7_nextDue_103 : decode cX7_nextDue 103 = .ok (.iconst 1, 1) := by decide +kernel
theorem dX7_nextDue_104 : decode cX7_nextDue 104 = .ok (.goto 4, 3) := by decide +kernel
theorem dX7_nextDue_107 : decode cX7_nextDue 107 = .ok (.iconst 0, 1) := by decide +kernel
theorem dX7_nextDue_108 : decode cX7_nextDue 108 = .ok (.putfield 87, 3) := by decide +kernel
theorem dX7_nextDue_111 : decode cX7_nextDue 111 = .ok (.aload_n 0, 1) := by decide +kernel
theorem dX7_nextDue_112 : decode cX7_nextDue 112 = .ok (.getfield 87, 3) := by decide +kernel
theorem dX7_nextDue_115 : decode cX7_nextDue 115 = .ok (.ifCond .le 7, 3) := by decide +kernel
theorem dX7_nextDue_118 : decode cX7_nextDue 118 = .ok (.iconst 0, 1) := by decide +kernel
theorem dX7_nextDue_119 : decode cX7_nextDue 119 = .ok (.goto 4, 3) := by decide +kernel
theorem dX7_nextDue_122 : decode cX7_nextDue 122 = .ok (.iload_n 1, 1) := by decide +kernel
theorem dX7_nextDue_123 : decode cX7_nextDue 123 = .ok (.ireturn, 1) := by decide +kernel
theorem dX7_join_0 : decode cX7_join 0 = .ok (.aload_n 0, 1) := by decide +kernel
theorem dX7_join_1 : decode cX7_join 1 = .ok (.aload_n 0, 1) := by decide +kernel
theorem dX7_join_2 : decode cX7_join 2 = .ok (.iload_n 1, 1) := by decide +kernel
theorem dX7_join_3 : decode cX7_join 3 = .ok (.invokevirtual 101, 3) := by decide +kernel
theorem dX7_join_6 : decode cX7_join 6 = .ok (.ifCond .eq 11, 3) := by decide +kernel
theorem dX7_join_9 : decode cX7_join 9 = .ok (.aload_n 0, 1) := by decide +kernel
theorem dX7_join_10 : decode cX7_join 10 = .ok (.iload_n 2, 1) := by decide +kernel
theorem dX7_join_11 : decode cX7_join 11 = .ok (.invokevirtual 101, 3) := by decide +kernel
theorem dX7_join_14 : decode cX7_join 14 = .ok (.ifCond .ne 7, 3) := by decide +kernel
theorem dX7_join_17 : decode cX7_join 17 = .ok (.iconst 1, 1) := by decide +kernel
theorem dX7_join_18 : decode cX7_join 18 = .ok (.goto 13, 3) := by decide +kernel
theorem dX7_join_21 : decode cX7_join 21 = .ok (.iload_n 1, 1) := by decide +kernel
theorem dX7_join_22 : decode cX7_join 22 = .ok (.iload_n 2, 1) := by decide +kernel
theorem dX7_join_23 : decode cX7_join 23 = .ok (.if_icmp .ne 7, 3) := by decide +kernel
theorem dX7_join_26 : decode cX7_join 26 = .ok (.iconst 2, 1) := by decide +kernel
theorem dX7_join_27 : decode cX7_join 27 = .ok (.goto 4, 3) := by decide +kernel
theorem dX7_join_30 : decode cX7_join 30 = .ok (.iconst 0, 1) := by decide +kernel
theorem dX7_join_31 : decode cX7_join 31 = .ok (.putfield 87, 3) := by decide +kernel
theorem dX7_join_34 : decode cX7_join 34 = .ok (.aload_n 0, 1) := by decide +kernel
theorem dX7_join_35 : decode cX7_join 35 = .ok (.getfield 87, 3) := by decide +kernel
theorem dX7_join_38 : decode cX7_join 38 = .ok (.ifCond .le 5, 3) := by decide +kernel
theorem dX7_join_41 : decode cX7_join 41 = .ok (.iconst 0, 1) := by decide +kernel
theorem dX7_join_42 : decode cX7_join 42 = .ok (.ireturn, 1) := by decide +kernel
theorem dX7_join_43 : decode cX7_join 43 = .ok (.aload_n 0, 1) := by decide +kernel
theorem dX7_join_44 : decode cX7_join 44 = .ok (.iload_n 1, 1) := by decide +kernel
theorem dX7_join_45 : decode cX7_join 45 = .ok (.invokevirtual 105, 3) := by decide +kernel
theorem dX7_join_48 : decode cX7_join 48 = .ok (.ifCond .ne 26, 3) := by decide +kernel
theorem dX7_join_51 : decode cX7_join 51 = .ok (.aload_n 0, 1) := by decide +kernel
theorem dX7_join_52 : decode cX7_join 52 = .ok (.getfield 40, 3) := by decide +kernel
theorem dX7_join_55 : decode cX7_join 55 = .ok (.iload_n 1, 1) := by decide +kernel
theorem dX7_join_56 : decode cX7_join 56 = .ok (.caload, 1) := by decide +kernel
theorem dX7_join_57 : decode cX7_join 57 = .ok (.bipush 114, 2) := by decide +kernel
theorem dX7_join_59 : decode cX7_join 59 = .ok (.if_icmp .ne 15, 3) := by decide +kernel
theorem dX7_join_62 : decode cX7_join 62 = .ok (.aload_n 0, 1) := by decide +kernel
theorem dX7_join_63 : decode cX7_join 63 = .ok (.iload_n 1, 1) := by decide +kernel
theorem dX7_join_64 : decode cX7_join 64 = .ok (.invokevirtual 142, 3) := by decide +kernel
theorem dX7_join_67 : decode cX7_join 67 = .ok (.ifCond .ne 7, 3) := by decide +kernel
theorem dX7_join_70 : decode cX7_join 70 = .ok (.iconst 1, 1) := by decide +kernel
theorem dX7_join_71 : decode cX7_join 71 = .ok (.goto 4, 3) := by decide +kernel
theorem dX7_join_74 : decode cX7_join 74 = .ok (.iconst 0, 1) := by decide +kernel
theorem dX7_join_75 : decode cX7_join 75 = .ok (.istore_n 3, 1) := by decide +kernel
theorem dX7_join_76 : decode cX7_join 76 = .ok (.aload_n 0, 1) := by decide +kernel
theorem dX7_join_77 : decode cX7_join 77 = .ok (.getfield 40, 3) := by decide +kernel
theorem dX7_join_80 : decode cX7_join 80 = .ok (.iload_n 2, 1) := by decide +kernel
theorem dX7_join_81 : decode cX7_join 81 = .ok (.caload, 1) := by decide +kernel
theorem dX7_join_82 : decode cX7_join 82 = .ok (.bipush 114, 2) := by decide +kernel
theorem dX7_join_84 : decode cX7_join 84 = .ok (.if_icmp .eq 25, 3) := by decide +kernel
theorem dX7_join_87 : decode cX7_join 87 = .ok (.aload_n 0, 1) := by decide +kernel
theorem dX7_join_88 : decode cX7_join 88 = .ok (.getfield 40, 3) := by decide +kernel
theorem dX7_join_91 : decode cX7_join 91 = .ok (.iload_n 2, 1) := by decide +kernel
theorem dX7_join_92 : decode cX7_join 92 = .ok (.caload, 1) := by decide +kernel
theorem dX7_join_93 : decode cX7_join 93 = .ok (.bipush 97, 2) := by decide +kernel
theorem dX7_join_95 : decode cX7_join 95 = .ok (.if_icmp .eq 14, 3) := by decide +kernel
theorem dX7_join_98 : decode cX7_join 98 = .ok (.aload_n 0, 1) := by decide +kernel
theorem dX7_join_99 : decode cX7_join 99 = .ok (.getfield 40, 3) := by decide +kernel
theorem dX7_join_102 : decode cX7_join 102 = .ok (.iload_n 2, 1) := by decide +kernel
theorem dX7_join_103 : decode cX7_join 103 = .ok (.caload, 1) := by decide +kernel
theorem dX7_join_104 : decode cX7_join 104 = .ok (.bipush 115, 2) := by decide +kernel
theorem dX7_join_106 : decode cX7_join 106 = .ok (.if_icmp .ne 7, 3) := by decide +kernel
theorem dX7_join_109 : decode cX7_join 109 = .ok (.iconst 1, 1) := by decide +kernel
theorem dX7_join_110 : decode cX7_join 110 = .ok (.goto 4, 3) := by decide +kernel
theorem dX7_join_113 : decode cX7_join 113 = .ok (.iconst 0, 1) := by decide +kernel
theorem dX7_join_114 : decode cX7_join 114 = .ok (.istore 4, 2) := by decide +kernel
theorem dX7_join_116 : decode cX7_join 116 = .ok (.aload_n 0, 1) := by decide +kernel
theorem dX7_join_117 : decode cX7_join 117 = .ok (.iload_n 2, 1) := by decide +kernel
theorem dX7_join_118 : decode cX7_join 118 = .ok (.invokevirtual 105, 3) := by decide +kernel
theorem dX7_join_121 : decode cX7_join 121 = .ok (.ifCond .ne 42, 3) := by decide +kernel
theorem dX7_join_124 : decode cX7_join 124 = .ok (.iload 4, 2) := by decide +kernel
theorem dX7_join_126 : decode cX7_join 126 = .ok (.ifCond .eq 37, 3) := by decide +kernel
theorem dX7_join_129 : decode cX7_join 129 = .ok (.aload_n 0, 1) := by decide +kernel
theorem dX7_join_130 : decode cX7_join 130 = .ok (.getfield 25, 3) := by decide +kernel
theorem dX7_join_133 : decode cX7_join 133 = .ok (.iload_n 2, 1) := by decide +kernel
theorem dX7_join_134 : decode cX7_join 134 = .ok (.iaload, 1) := by decide +kernel
theorem dX7_join_135 : decode cX7_join 135 = .ok (.aload_n 0, 1) := by decide +kernel
theorem dX7_join_136 : decode cX7_join 136 = .ok (.getfield 25, 3) := by decide +kernel
theorem dX7_join_139 : decode cX7_join 139 = .ok (.iload_n 1, 1) := by decide +kernel
theorem dX7_join_140 : decode cX7_join 140 = .ok (.iaload, 1) := by decide +kernel
theorem dX7_join_141 : decode cX7_join 141 = .ok (.if_icmp .ne 22, 3) := by decide +kernel
theorem dX7_join_144 : decode cX7_join 144 = .ok (.aload_n 0, 1) := by decide +kernel
theorem dX7_join_145 : decode cX7_join 145 = .ok (.getfield 28, 3) := by decide +kernel
theorem dX7_join_148 : decode cX7_join 148 = .ok (.iload_n 2, 1) := by decide +kernel
theorem dX7_join_149 : decode cX7_join 149 = .ok (.iaload, 1) := by decide +kernel
theorem dX7_join_150 : decode cX7_join 150 = .ok (.aload_n 0, 1) := by decide +kernel
theorem dX7_join_151 : decode cX7_join 151 = .ok (.getfield 28, 3) := by decide +kernel
theorem dX7_join_154 : decode cX7_join 154 = .ok (.iload_n 1, 1) := by decide +kernel
theorem dX7_join_155 : decode cX7_join 155 = .ok (.iaload, 1) := by decide +kernel
theorem dX7_join_156 : decode cX7_join 156 = .ok (.if_icmp .ne 7, 3) := by decide +kernel
theorem dX7_join_159 : decode cX7_join 159 = .ok (.iconst 1, 1) := by decide +kernel
theorem dX7_join_160 : decode cX7_join 160 = .ok (.goto 4, 3) := by decide +kernel
theorem dX7_join_163 : decode cX7_join 163 = .ok (.iconst 0, 1) := by decide +kernel
theorem dX7_join_164 : decode cX7_join 164 = .ok (.istore 5, 2) := by decide +kernel
theorem dX7_join_166 : decode cX7_join 166 = .ok (.aload_n 0, 1) := by decide +kernel
theorem dX7_join_167 : decode cX7_join 167 = .ok (.iload_n 3, 1) := by decide +kernel
theorem dX7_join_168 : decode cX7_join 168 = .ok (.ifCond .eq 12, 3) := by decide +kernel
theorem dX7_join_171 : decode cX7_join 171 = .ok (.iload 5, 2) := by decide +kernel
theorem dX7_join_173 : decode cX7_join 173 = .ok (.ifCond .eq 7, 3) := by decide +kernel
theorem dX7_join_176 : decode cX7_join 176 = .ok (.iconst 0, 1) := by decide +kernel
theorem dX7_join_177 : decode cX7_join 177 = .ok (.goto 4, 3) := by decide +kernel
theorem dX7_join_180 : decode cX7_join 180 = .ok (.iconst 3, 1) := by decide +kernel
theorem dX7_join_181 : decode cX7_join 181 = .ok (.putfield 87, 3) := by decide +kernel
theorem dX7_join_184 : decode cX7_join 184 = .ok (.aload_n 0, 1) := by decide +kernel
theorem dX7_join_185 : decode cX7_join 185 = .ok (.getfield 87, 3) := by decide +kernel
theorem dX7_join_188 : decode cX7_join 188 = .ok (.ifCond .le 5, 3) := by decide +kernel
theorem dX7_join_191 : decode cX7_join 191 = .ok (.iconst 0, 1) := by decide +kernel
theorem dX7_join_192 : decode cX7_join 192 = .ok (.ireturn, 1) := by decide +kernel
theorem dX7_join_193 : decode cX7_join 193 = .ok (.aload_n 0, 1) := by decide +kernel
theorem dX7_join_194 : decode cX7_join 194 = .ok (.getfield 44, 3) := by decide +kernel
theorem dX7_join_197 : decode cX7_join 197 = .ok (.iload_n 1, 1) := by decide +kernel
theorem dX7_join_198 : decode cX7_join 198 = .ok (.iload_n 2, 1) := by decide +kernel
theorem dX7_join_199 : decode cX7_join 199 = .ok (.iastore, 1) := by decide +kernel
theorem dX7_join_200 : decode cX7_join 200 = .ok (.aload_n 0, 1) := by decide +kernel
theorem dX7_join_201 : decode cX7_join 201 = .ok (.iload_n 2, 1) := by decide +kernel
theorem dX7_join_202 : decode cX7_join 202 = .ok (.invokevirtual 142, 3) := by decide +kernel
theorem dX7_join_205 : decode cX7_join 205 = .ok (.ireturn, 1) := by decide +kernel
theorem dX7_part_0 : decode cX7_part 0 = .ok (.aload_n 0, 1) := by decide +kernel
theorem dX7_part_1 : decode cX7_part 1 = .ok (.iload_n 1, 1) := by decide +kernel
theorem dX7_part_2 : decode cX7_part 2 = .ok (.invokevirtual 126, 3) := by decide +kernel
theorem dX7_part_5 : decode cX7_part 5 = .ok (.ifCond .eq 5, 3) := by decide +kernel
theorem dX7_part_8 : decode cX7_part 8 = .ok (.iconst 0, 1) := by decide +kernel
theorem dX7_part_9 : decode cX7_part 9 = .ok (.ireturn, 1) := by decide +kernel
theorem dX7_part_10 : decode cX7_part 10 = .ok (.aload_n 0, 1) := by decide +kernel
theorem dX7_part_11 : decode cX7_part 11 = .ok (.getfield 44, 3) := by decide +kernel
theorem dX7_part_14 : decode cX7_part 14 = .ok (.iload_n 1, 1) := by decide +kernel
theorem dX7_part_15 : decode cX7_part 15 = .ok (.iaload, 1) := by decide +kernel
theorem dX7_part_16 : decode cX7_part 16 = .ok (.istore_n 2, 1) := by decide +kernel
theorem dX7_part_17 : decode cX7_part 17 = .ok (.aload_n 0, 1) := by decide +kernel
theorem dX7_part_18 : decode cX7_part 18 = .ok (.iload_n 2, 1) := by decide +kernel
theorem dX7_part_19 : decode cX7_part 19 = .ok (.iconst (-1), 1) := by decide +kernel
theorem dX7_part_20 : decode cX7_part 20 = .ok (.if_icmp .eq 13, 3) := by decide +kernel
theorem dX7_part_23 : decode cX7_part 23 = .ok (.aload_n 0, 1) := by decide +kernel
theorem dX7_part_24 : decode cX7_part 24 = .ok (.getfield 69, 3) := by decide +kernel
theorem dX7_part_27 : decode cX7_part 27 = .ok (.iload_n 2, 1) := by decide +kernel
theorem dX7_part_28 : decode cX7_part 28 = .ok (.iaload, 1) := by decide +kernel
theorem dX7_part_29 : decode cX7_part 29 = .ok (.iconst (-1), 1) := by decide +kernel
theorem dX7_part_30 : decode cX7_part 30 = .ok (.if_icmp .eq 7, 3) := by decide +kernel
theorem dX7_part_33 : decode cX7_part 33 = .ok (.iconst 2, 1) := by decide +kernel
theorem dX7_part_34 : decode cX7_part 34 = .ok (.goto 4, 3) := by decide +kernel
theorem dX7_part_37 : decode cX7_part 37 = .ok (.iconst 0, 1) := by decide +kernel
theorem dX7_part_38 : decode cX7_part 38 = .ok (.putfield 87, 3) := by decide +kernel
theorem dX7_part_41 : decode cX7_part 41 = .ok (.aload_n 0, 1) := by decide +kernel
theorem dX7_part_42 : decode cX7_part 42 = .ok (.getfield 87, 3) := by decide +kernel
theorem dX7_part_45 : decode cX7_part 45 = .ok (.ifCond .le 5, 3) := by decide +kernel
theorem dX7_part_48 : decode cX7_part 48 = .ok (.iconst 0, 1) := by decide +kernel
theorem dX7_part_49 : decode cX7_part 49 = .ok (.ireturn, 1) := by decide +kernel
theorem dX7_part_50 : decode cX7_part 50 = .ok (.aload_n 0, 1) := by decide +kernel
theorem dX7_part_51 : decode cX7_part 51 = .ok (.getfield 44, 3) := by decide +kernel
theorem dX7_part_54 : decode cX7_part 54 = .ok (.iload_n 1, 1) := by decide +kernel
theorem dX7_part_55 : decode cX7_part 55 = .ok (.iconst (-1), 1) := by decide +kernel
theorem dX7_part_56 : decode cX7_part 56 = .ok (.iastore, 1) := by decide +kernel
theorem dX7_part_57 : decode cX7_part 57 = .ok (.aload_n 0, 1) := by decide +kernel
theorem dX7_part_58 : decode cX7_part 58 = .ok (.getfield 40, 3) := by decide +kernel
theorem dX7_part_61 : decode cX7_part 61 = .ok (.iload_n 1, 1) := by decide +kernel
theorem dX7_part_62 : decode cX7_part 62 = .ok (.bipush 114, 2) := by decide +kernel
theorem dX7_part_64 : decode cX7_part 64 = .ok (.castore, 1) := by decide +kernel
theorem dX7_part_65 : decode cX7_part 65 = .ok (.iload_n 2, 1) := by decide +kernel
theorem dX7_part_66 : decode cX7_part 66 = .ok (.ireturn, 1) := by decide +kernel
theorem dX7_lead_0 : decode cX7_lead 0 = .ok (.aload_n 0, 1) := by decide +kernel
theorem dX7_lead_1 : decode cX7_lead 1 = .ok (.iload_n 1, 1) := by decide +kernel
theorem dX7_lead_2 : decode cX7_lead 2 = .ok (.invokevirtual 126, 3) := by decide +kernel
theorem dX7_lead_5 : decode cX7_lead 5 = .ok (.ifCond .eq 7, 3) := by decide +kernel
theorem dX7_lead_8 : decode cX7_lead 8 = .ok (.iconst 0, 1) := by decide +kernel
theorem dX7_lead_9 : decode cX7_lead 9 = .ok (.goto 8, 3) := by decide +kernel
theorem dX7_lead_12 : decode cX7_lead 12 = .ok (.aload_n 0, 1) := by decide +kernel
theorem dX7_lead_13 : decode cX7_lead 13 = .ok (.iload_n 1, 1) := by decide +kernel
theorem dX7_lead_14 : decode cX7_lead 14 = .ok (.invokevirtual 108, 3) := by decide +kernel
theorem dX7_lead_17 : decode cX7_lead 17 = .ok (.ireturn, 1) := by decide +kernel
theorem dX7_countJoined_0 : decode cX7_countJoined 0 = .ok (.aload_n 0, 1) := by decide +kernel
theorem dX7_countJoined_1 : decode cX7_countJoined 1 = .ok (.iload_n 1, 1) := by decide +kernel
theorem dX7_countJoined_2 : decode cX7_countJoined 2 = .ok (.invokevirtual 126, 3) := by decide +kernel
theorem dX7_countJoined_5 : decode cX7_countJoined 5 = .ok (.ifCond .eq 7, 3) := by decide +kernel
theorem dX7_countJoined_8 : decode cX7_countJoined 8 = .ok (.iconst 0, 1) := by decide +kernel
theorem dX7_countJoined_9 : decode cX7_countJoined 9 = .ok (.goto 8, 3) := by decide +kernel
theorem dX7_countJoined_12 : decode cX7_countJoined 12 = .ok (.aload_n 0, 1) := by decide +kernel
theorem dX7_countJoined_13 : decode cX7_countJoined 13 = .ok (.iload_n 1, 1) := by decide +kernel
theorem dX7_countJoined_14 : decode cX7_countJoined 14 = .ok (.invokevirtual 142, 3) := by decide +kernel
theorem dX7_countJoined_17 : decode cX7_countJoined 17 = .ok (.ireturn, 1) := by decide +kernel
theorem dX7_setWeight_0 : decode cX7_setWeight 0 = .ok (.aload_n 0, 1) := by decide +kernel
theorem dX7_setWeight_1 : decode cX7_setWeight 1 = .ok (.iload_n 1, 1) := by decide +kernel
theorem dX7_setWeight_2 : decode cX7_setWeight 2 = .ok (.iconst 0, 1) := by decide +kernel
theorem dX7_setWeight_3 : decode cX7_setWeight 3 = .ok (.iconst 4, 1) := by decide +kernel
theorem dX7_setWeight_4 : decode cX7_setWeight 4 = .ok (.invokestatic 94, 3) := by decide +kernel
theorem dX7_setWeight_7 : decode cX7_setWeight 7 = .ok (.ifCond .eq 17, 3) := by decide +kernel
theorem dX7_setWeight_10 : decode cX7_setWeight 10 = .ok (.iload_n 2, 1) := by decide +kernel
theorem dX7_setWeight_11 : decode cX7_setWeight 11 = .ok (.iconst 1, 1) := by decide +kernel
theorem dX7_setWeight_12 : decode cX7_setWeight 12 = .ok (.bipush 9, 2) := by decide +kernel
theorem dX7_setWeight_14 : decode cX7_setWeight 14 = .ok (.invokestatic 94, 3) := by decide +kernel
theorem dX7_setWeight_17 : decode cX7_setWeight 17 = .ok (.ifCond .eq 7, 3) := by decide +kernel
theorem dX7_setWeight_20 : decode cX7_setWeight 20 = .ok (.iconst 0, 1) := by decide +kernel
theorem dX7_setWeight_21 : decode cX7_setWeight 21 = .ok (.goto 4, 3) := by decide +kernel
theorem dX7_setWeight_24 : decode cX7_setWeight 24 = .ok (.iconst 1, 1) := by decide +kernel
theorem dX7_setWeight_25 : decode cX7_setWeight 25 = .ok (.putfield 87, 3) := by decide +kernel
theorem dX7_setWeight_28 : decode cX7_setWeight 28 = .ok (.aload_n 0, 1) := by decide +kernel
theorem dX7_setWeight_29 : decode cX7_setWeight 29 = .ok (.getfield 87, 3) := by decide +kernel
theorem dX7_setWeight_32 : decode cX7_setWeight 32 = .ok (.ifCond .le 5, 3) := by decide +kernel
theorem dX7_setWeight_35 : decode cX7_setWeight 35 = .ok (.iconst 0, 1) := by decide +kernel
theorem dX7_setWeight_36 : decode cX7_setWeight 36 = .ok (.ireturn, 1) := by decide +kernel
theorem dX7_setWeight_37 : decode cX7_setWeight 37 = .ok (.aload_n 0, 1) := by decide +kernel
theorem dX7_setWeight_38 : decode cX7_setWeight 38 = .ok (.getfield 22, 3) := by decide +kernel
theorem dX7_setWeight_41 : decode cX7_setWeight 41 = .ok (.iload_n 1, 1) := by decide +kernel
theorem dX7_setWeight_42 : decode cX7_setWeight 42 = .ok (.iaload, 1) := by decide +kernel
theorem dX7_setWeight_43 : decode cX7_setWeight 43 = .ok (.istore_n 3, 1) := by decide +kernel
theorem dX7_setWeight_44 : decode cX7_setWeight 44 = .ok (.aload_n 0, 1) := by decide +kernel
theorem dX7_setWeight_45 : decode cX7_setWeight 45 = .ok (.getfield 22, 3) := by decide +kernel
theorem dX7_setWeight_48 : decode cX7_setWeight 48 = .ok (.iload_n 1, 1) := by decide +kernel
theorem dX7_setWeight_49 : decode cX7_setWeight 49 = .ok (.iload_n 2, 1) := by decide +kernel
theorem dX7_setWeight_50 : decode cX7_setWeight 50 = .ok (.iastore, 1) := by decide +kernel
theorem dX7_setWeight_51 : decode cX7_setWeight 51 = .ok (.iload_n 3, 1) := by decide +kernel
theorem dX7_setWeight_52 : decode cX7_setWeight 52 = .ok (.ireturn, 1) := by decide +kernel
theorem dX7_find_0 : decode cX7_find 0 = .ok (.aload_n 0, 1) := by decide +kernel
theorem dX7_find_1 : decode cX7_find 1 = .ok (.iload_n 1, 1) := by decide +kernel
theorem dX7_find_2 : decode cX7_find 2 = .ok (.invokevirtual 126, 3) := by decide +kernel
theorem dX7_find_5 : decode cX7_find 5 = .ok (.ifCond .eq 5, 3) := by decide +kernel
theorem dX7_find_8 : decode cX7_find 8 = .ok (.iconst 0, 1) := by decide +kernel
theorem dX7_find_9 : decode cX7_find 9 = .ok (.ireturn, 1) := by decide +kernel
theorem dX7_find_10 : decode cX7_find 10 = .ok (.aload_n 0, 1) := by decide +kernel
theorem dX7_find_11 : decode cX7_find 11 = .ok (.iload_n 2, 1) := by decide +kernel
theorem dX7_find_12 : decode cX7_find 12 = .ok (.iconst 0, 1) := by decide +kernel
theorem dX7_find_13 : decode cX7_find 13 = .ok (.bipush 31, 2) := by decide +kernel
theorem dX7_find_15 : decode cX7_find 15 = .ok (.invokestatic 94, 3) := by decide +kernel
theorem dX7_find_18 : decode cX7_find 18 = .ok (.ifCond .ne 7, 3) := by decide +kernel
theorem dX7_find_21 : decode cX7_find 21 = .ok (.iconst 2, 1) := by decide +kernel
theorem dX7_find_22 : decode cX7_find 22 = .ok (.goto 27, 3) := by decide +kernel
theorem dX7_find_25 : decode cX7_find 25 = .ok (.aload_n 0, 1) := by decide +kernel
theorem dX7_find_26 : decode cX7_find 26 = .ok (.iload_n 1, 1) := by decide +kernel
theorem dX7_find_27 : decode cX7_find 27 = .ok (.invokevirtual 105, 3) := by decide +kernel
theorem dX7_find_30 : decode cX7_find 30 = .ok (.ifCond .ne 14, 3) := by decide +kernel
theorem dX7_find_33 : decode cX7_find 33 = .ok (.aload_n 0, 1) := by decide +kernel
theorem dX7_find_34 : decode cX7_find 34 = .ok (.getfield 40, 3) := by decide +kernel
theorem dX7_find_37 : decode cX7_find 37 = .ok (.iload_n 1, 1) := by decide +kernel
theorem dX7_find_38 : decode cX7_find 38 = .ok (.caload, 1) := by decide +kernel
theorem dX7_find_39 : decode cX7_find 39 = .ok (.bipush 115, 2) := by decide +kernel
theorem dX7_find_41 : decode cX7_find 41 = .ok (.if_icmp .eq 7, 3) := by decide +kernel
theorem dX7_find_44 : decode cX7_find 44 = .ok (.iconst 3, 1) := by decide +kernel
theorem dX7_find_45 : decode cX7_find 45 = .ok (.goto 4, 3) := by decide +kernel
theorem dX7_find_48 : decode cX7_find 48 = .ok (.iconst 0, 1) := by decide +kernel
theorem dX7_find_49 : decode cX7_find 49 = .ok (.putfield 87, 3) := by decide +kernel
theorem dX7_find_52 : decode cX7_find 52 = .ok (.aload_n 0, 1) := by decide +kernel
theorem dX7_find_53 : decode cX7_find 53 = .ok (.getfield 87, 3) := by decide +kernel
theorem dX7_find_56 : decode cX7_find 56 = .ok (.ifCond .le 5, 3) := by decide +kernel
theorem dX7_find_59 : decode cX7_find 59 = .ok (.iconst 0, 1) := by decide +kernel
theorem dX7_find_60 : decode cX7_find 60 = .ok (.ireturn, 1) := by decide +kernel
theorem dX7_find_61 : decode cX7_find 61 = .ok (.aload_n 0, 1) := by decide +kernel
theorem dX7_find_62 : decode cX7_find 62 = .ok (.getfield 66, 3) := by decide +kernel
theorem dX7_find_65 : decode cX7_find 65 = .ok (.iload_n 1, 1) := by decide +kernel
theorem dX7_find_66 : decode cX7_find 66 = .ok (.baload, 1) := by decide +kernel
theorem dX7_find_67 : decode cX7_find 67 = .ok (.ifCond .eq 9, 3) := by decide +kernel
theorem dX7_find_70 : decode cX7_find 70 = .ok (.iload_n 2, 1) := by decide +kernel
theorem dX7_find_71 : decode cX7_find 71 = .ok (.iconst 1, 1) := by decide +kernel
theorem dX7_find_72 : decode cX7_find 72 = .ok (.ior, 1) := by decide +kernel
theorem dX7_find_73 : decode cX7_find 73 = .ok (.goto 4, 3) := by decide +kernel
theorem dX7_find_76 : decode cX7_find 76 = .ok (.iload_n 2, 1) := by decide +kernel
theorem dX7_find_77 : decode cX7_find 77 = .ok (.istore_n 3, 1) := by decide +kernel
theorem dX7_find_78 : decode cX7_find 78 = .ok (.aload_n 0, 1) := by decide +kernel
theorem dX7_find_79 : decode cX7_find 79 = .ok (.getfield 69, 3) := by decide +kernel
theorem dX7_find_82 : decode cX7_find 82 = .ok (.iload_n 1, 1) := by decide +kernel
theorem dX7_find_83 : decode cX7_find 83 = .ok (.iload_n 3, 1) := by decide +kernel
theorem dX7_find_84 : decode cX7_find 84 = .ok (.iastore, 1) := by decide +kernel
theorem dX7_find_85 : decode cX7_find 85 = .ok (.iload_n 3, 1) := by decide +kernel
theorem dX7_find_86 : decode cX7_find 86 = .ok (.ifCond .ne 12, 3) := by decide +kernel
theorem dX7_find_89 : decode cX7_find 89 = .ok (.aload_n 0, 1) := by decide +kernel
theorem dX7_find_90 : decode cX7_find 90 = .ok (.iload_n 1, 1) := by decide +kernel
theorem dX7_find_91 : decode cX7_find 91 = .ok (.bipush 117, 2) := by decide +kernel
theorem dX7_find_93 : decode cX7_find 93 = .ok (.invokevirtual 145, 3) := by decide +kernel
theorem dX7_find_96 : decode cX7_find 96 = .ok (.iconst 0, 1) := by decide +kernel
theorem dX7_find_97 : decode cX7_find 97 = .ok (.ireturn, 1) := by decide +kernel
theorem dX7_find_98 : decode cX7_find 98 = .ok (.aload_n 0, 1) := by decide +kernel
theorem dX7_find_99 : decode cX7_find 99 = .ok (.iload_n 1, 1) := by decide +kernel
theorem dX7_find_100 : decode cX7_find 100 = .ok (.invokevirtual 142, 3) := by decide +kernel
theorem dX7_find_103 : decode cX7_find 103 = .ok (.istore 4, 2) := by decide +kernel
theorem dX7_find_105 : decode cX7_find 105 = .ok (.iload 4, 2) := by decide +kernel
theorem dX7_find_107 : decode cX7_find 107 = .ok (.iconst 5, 1) := by decide +kernel
theorem dX7_find_108 : decode cX7_find 108 = .ok (.if_icmp .ge 8, 3) := by decide +kernel
theorem dX7_find_111 : decode cX7_find 111 = .ok (.iload 4, 2) := by decide +kernel
theorem dX7_find_113 : decode cX7_find 113 = .ok (.goto 4, 3) := by decide +kernel
theorem dX7_find_116 : decode cX7_find 116 = .ok (.iconst 5, 1) := by decide +kernel
theorem dX7_find_117 : decode cX7_find 117 = .ok (.istore 5, 2) := by decide +kernel
theorem dX7_find_119 : decode cX7_find 119 = .ok (.iconst 0, 1) := by decide +kernel
theorem dX7_find_120 : decode cX7_find 120 = .ok (.istore 6, 2) := by decide +kernel
theorem dX7_find_122 : decode cX7_find 122 = .ok (.iload 6, 2) := by decide +kernel
theorem dX7_find_124 : decode cX7_find 124 = .ok (.iconst 5, 1) := by decide +kernel
theorem dX7_find_125 : decode cX7_find 125 = .ok (.if_icmp .ge 35, 3) := by decide +kernel
theorem dX7_find_128 : decode cX7_find 128 = .ok (.iload 5, 2) := by decide +kernel
theorem dX7_find_130 : decode cX7_find 130 = .ok (.iload_n 3, 1) := by decide +kernel
theorem dX7_find_131 : decode cX7_find 131 = .ok (.iload 6, 2) := by decide +kernel
theorem dX7_find_133 : decode cX7_find 133 = .ok (.ishr, 1) := by decide +kernel
theorem dX7_find_134 : decode cX7_find 134 = .ok (.iconst 1, 1) := by decide +kernel
theorem dX7_find_135 : decode cX7_find 135 = .ok (.iand, 1) := by decide +kernel
theorem dX7_find_136 : decode cX7_find 136 = .ok (.iconst 1, 1) := by decide +kernel
theorem dX7_find_137 : decode cX7_find 137 = .ok (.if_icmp .ne 13, 3) := by decide +kernel
theorem dX7_find_140 : decode cX7_find 140 = .ok (.aload_n 0, 1) := by decide +kernel
theorem dX7_find_141 : decode cX7_find 141 = .ok (.getfield 22, 3) := by decide +kernel
theorem dX7_find_144 : decode cX7_find 144 = .ok (.iload 6, 2) := by decide +kernel
theorem dX7_find_146 : decode cX7_find 146 = .ok (.iaload, 1) := by decide +kernel
theorem dX7_find_147 : decode cX7_find 147 = .ok (.goto 4, 3) := by decide +kernel
theorem dX7_find_150 : decode cX7_find 150 = .ok (.iconst 0, 1) := by decide +kernel
theorem dX7_find_151 : decode cX7_find 151 = .ok (.iadd, 1) := by decide +kernel
theorem dX7_find_152 : decode cX7_find 152 = .ok (.istore 5, 2) := by decide +kernel
theorem dX7_find_154 : decode cX7_find 154 = .ok (.iinc 6 1, 3) := by decide +kernel
theorem dX7_find_157 : decode cX7_find 157 = .ok (.goto (-35), 3) := by decide +kernel
theorem dX7_find_160 : decode cX7_find 160 = .ok (.aload_n 0, 1) := by decide +kernel
theorem dX7_find_161 : decode cX7_find 161 = .ok (.getfield 40, 3) := by decide +kernel
theorem dX7_find_164 : decode cX7_find 164 = .ok (.iload_n 1, 1) := by decide +kernel
theorem dX7_find_165 : decode cX7_find 165 = .ok (.bipush 100, 2) := by decide +kernel
theorem dX7_find_167 : decode cX7_find 167 = .ok (.castore, 1) := by decide +kernel
theorem dX7_find_168 : decode cX7_find 168 = .ok (.aload_n 0, 1) := by decide +kernel
theorem dX7_find_169 : decode cX7_find 169 = .ok (.getfield 72, 3) := by decide +kernel
theorem dX7_find_172 : decode cX7_find 172 = .ok (.iload_n 1, 1) := by decide +kernel
theorem dX7_find_173 : decode cX7_find 173 = .ok (.iload 5, 2) := by decide +kernel
theorem dX7_find_175 : decode cX7_find 175 = .ok (.iconst 3, 1) := by decide +kernel
theorem dX7_find_176 : decode cX7_find 176 = .ok (.if_icmp .gt 7, 3) := by decide +kernel
theorem dX7_find_179 : decode cX7_find 179 = .ok (.iconst 1, 1) := by decide +kernel
theorem dX7_find_180 : decode cX7_find 180 = .ok (.goto 26, 3) := by decide +kernel
theorem dX7_find_183 : decode cX7_find 183 = .ok (.iload 5, 2) := by decide +kernel
theorem dX7_find_185 : decode cX7_find 185 = .ok (.bipush 9, 2) := by decide +kernel
theorem dX7_find_187 : decode cX7_find 187 = .ok (.if_icmp .gt 7, 3) := by decide +kernel
theorem dX7_find_190 : decode cX7_find 190 = .ok (.iconst 2, 1) := by decide +kernel
theorem dX7_find_191 : decode cX7_find 191 = .ok (.goto 15, 3) := by decide +kernel
theorem dX7_find_194 : decode cX7_find 194 = .ok (.iload 5, 2) := by decide +kernel
theorem dX7_find_196 : decode cX7_find 196 = .ok (.bipush 15, 2) := by decide +kernel
theorem dX7_find_198 : decode cX7_find 198 = .ok (.if_icmp .gt 7, 3) := by decide +kernel
theorem dX7_find_201 : decode cX7_find 201 = .ok (.iconst 3, 1) := by decide +kernel
theorem dX7_find_202 : decode cX7_find 202 = .ok (.goto 4, 3) := by decide +kernel
theorem dX7_find_205 : decode cX7_find 205 = .ok (.iconst 4, 1) := by decide +kernel
theorem dX7_find_206 : decode cX7_find 206 = .ok (.iastore, 1) := by decide +kernel
theorem dX7_find_207 : decode cX7_find 207 = .ok (.aload_n 0, 1) := by decide +kernel
theorem dX7_find_208 : decode cX7_find 208 = .ok (.getfield 57, 3) := by decide +kernel
theorem dX7_find_211 : decode cX7_find 211 = .ok (.iload_n 1, 1) := by decide +kernel
theorem dX7_find_212 : decode cX7_find 212 = .ok (.aload_n 0, 1) := by decide +kernel
theorem dX7_find_213 : decode cX7_find 213 = .ok (.getfield 116, 3) := by decide +kernel
theorem dX7_find_216 : decode cX7_find 216 = .ok (.bipush 30, 2) := by decide +kernel
theorem dX7_find_218 : decode cX7_find 218 = .ok (.aload_n 0, 1) := by decide +kernel
theorem dX7_find_219 : decode cX7_find 219 = .ok (.getfield 72, 3) := by decide +kernel
theorem dX7_find_222 : decode cX7_find 222 = .ok (.iload_n 1, 1) := by decide +kernel
theorem dX7_find_223 : decode cX7_find 223 = .ok (.iaload, 1) := by decide +kernel
theorem dX7_find_224 : decode cX7_find 224 = .ok (.imul, 1) := by decide +kernel
theorem dX7_find_225 : decode cX7_find 225 = .ok (.iadd, 1) := by decide +kernel
theorem dX7_find_226 : decode cX7_find 226 = .ok (.iastore, 1) := by decide +kernel
theorem dX7_find_227 : decode cX7_find 227 = .ok (.aload_n 0, 1) := by decide +kernel
theorem dX7_find_228 : decode cX7_find 228 = .ok (.getfield 16, 3) := by decide +kernel
theorem dX7_find_231 : decode cX7_find 231 = .ok (.aload_n 0, 1) := by decide +kernel
theorem dX7_find_232 : decode cX7_find 232 = .ok (.getfield 25, 3) := by decide +kernel
theorem dX7_find_235 : decode cX7_find 235 = .ok (.iload_n 1, 1) := by decide +kernel
theorem dX7_find_236 : decode cX7_find 236 = .ok (.iaload, 1) := by decide +kernel
theorem dX7_find_237 : decode cX7_find 237 = .ok (.dup2, 1) := by decide +kernel
theorem dX7_find_238 : decode cX7_find 238 = .ok (.iaload, 1) := by decide +kernel
theorem dX7_find_239 : decode cX7_find 239 = .ok (.iconst 1, 1) := by decide +kernel
theorem dX7_find_240 : decode cX7_find 240 = .ok (.iload 4, 2) := by decide +kernel
theorem dX7_find_242 : decode cX7_find 242 = .ok (.iadd, 1) := by decide +kernel
theorem dX7_find_243 : decode cX7_find 243 = .ok (.iadd, 1) := by decide +kernel
theorem dX7_find_244 : decode cX7_find 244 = .ok (.iastore, 1) := by decide +kernel
theorem dX7_find_245 : decode cX7_find 245 = .ok (.aload_n 0, 1) := by decide +kernel
theorem dX7_find_246 : decode cX7_find 246 = .ok (.getfield 72, 3) := by decide +kernel
theorem dX7_find_249 : decode cX7_find 249 = .ok (.iload_n 1, 1) := by decide +kernel
theorem dX7_find_250 : decode cX7_find 250 = .ok (.iaload, 1) := by decide +kernel
theorem dX7_find_251 : decode cX7_find 251 = .ok (.ireturn, 1) := by decide +kernel
theorem dX7_heads_0 : decode cX7_heads 0 = .ok (.aload_n 0, 1) := by decide +kernel
theorem dX7_heads_1 : decode cX7_heads 1 = .ok (.iload_n 1, 1) := by decide +kernel
theorem dX7_heads_2 : decode cX7_heads 2 = .ok (.invokevirtual 126, 3) := by decide +kernel
theorem dX7_heads_5 : decode cX7_heads 5 = .ok (.ifCond .eq 5, 3) := by decide +kernel
theorem dX7_heads_8 : decode cX7_heads 8 = .ok (.iconst 0, 1) := by decide +kernel
theorem dX7_heads_9 : decode cX7_heads 9 = .ok (.ireturn, 1) := by decide +kernel
theorem dX7_heads_10 : decode cX7_heads 10 = .ok (.aload_n 0, 1) := by decide +kernel
theorem dX7_heads_11 : decode cX7_heads 11 = .ok (.aload_n 0, 1) := by decide +kernel
theorem dX7_heads_12 : decode cX7_heads 12 = .ok (.getfield 69, 3) := by decide +kernel
theorem dX7_heads_15 : decode cX7_heads 15 = .ok (.aload_n 0, 1) := by decide +kernel
theorem dX7_heads_16 : decode cX7_heads 16 = .ok (.iload_n 1, 1) := by decide +kernel
theorem dX7_heads_17 : decode cX7_heads 17 = .ok (.invokevirtual 108, 3) := by decide +kernel
theorem dX7_heads_20 : decode cX7_heads 20 = .ok (.iaload, 1) := by decide +kernel
theorem dX7_heads_21 : decode cX7_heads 21 = .ok (.iconst (-1), 1) := by decide +kernel
theorem dX7_heads_22 : decode cX7_heads 22 = .ok (.if_icmp .ne 7, 3) := by decide +kernel
theorem dX7_heads_25 : decode cX7_heads 25 = .ok (.iconst 2, 1) := by decide +kernel
theorem dX7_heads_26 : decode cX7_heads 26 = .ok (.goto 4, 3) := by decide +kernel
theorem dX7_heads_29 : decode cX7_heads 29 = .ok (.iconst 0, 1) := by decide +kernel
theorem dX7_heads_30 : decode cX7_heads 30 = .ok (.putfield 87, 3) := by decide +kernel
theorem dX7_heads_33 : decode cX7_heads 33 = .ok (.aload_n 0, 1) := by decide +kernel
theorem dX7_heads_34 : decode cX7_heads 34 = .ok (.getfield 87, 3) := by decide +kernel
theorem dX7_heads_37 : decode cX7_heads 37 = .ok (.ifCond .le 7, 3) := by decide +kernel
theorem dX7_heads_40 : decode cX7_heads 40 = .ok (.iconst 0, 1) := by decide +kernel
theorem dX7_heads_41 : decode cX7_heads 41 = .ok (.goto 13, 3) := by decide +kernel
theorem dX7_heads_44 : decode cX7_heads 44 = .ok (.aload_n 0, 1) := by decide +kernel
theorem dX7_heads_45 : decode cX7_heads 45 = .ok (.getfield 69, 3) := by decide +kernel
theorem dX7_heads_48 : decode cX7_heads 48 = .ok (.aload_n 0, 1) := by decide +kernel
theorem dX7_heads_49 : decode cX7_heads 49 = .ok (.iload_n 1, 1) := by decide +kernel
theorem dX7_heads_50 : decode cX7_heads 50 = .ok (.invokevirtual 108, 3) := by decide +kernel
theorem dX7_heads_53 : decode cX7_heads 53 = .ok (.iaload, 1) := by decide +kernel
theorem dX7_heads_54 : decode cX7_heads 54 = .ok (.ireturn, 1) := by decide +kernel
theorem dX7_remedy_0 : decode cX7_remedy 0 = .ok (.aload_n 0, 1) := by decide +kernel
theorem dX7_remedy_1 : decode cX7_remedy 1 = .ok (.iload_n 1, 1) := by decide +kernel
theorem dX7_remedy_2 : decode cX7_remedy 2 = .ok (.invokevirtual 126, 3) := by decide +kernel
theorem dX7_remedy_5 : decode cX7_remedy 5 = .ok (.ifCond .eq 5, 3) := by decide +kernel
theorem dX7_remedy_8 : decode cX7_remedy 8 = .ok (.iconst 0, 1) := by decide +kernel
theorem dX7_remedy_9 : decode cX7_remedy 9 = .ok (.ireturn, 1) := by decide +kernel
theorem dX7_remedy_10 : decode cX7_remedy 10 = .ok (.aload_n 0, 1) := by decide +kernel
theorem dX7_remedy_11 : decode cX7_remedy 11 = .ok (.aload_n 0, 1) := by decide +kernel
theorem dX7_remedy_12 : decode cX7_remedy 12 = .ok (.getfield 72, 3) := by decide +kernel
theorem dX7_remedy_15 : decode cX7_remedy 15 = .ok (.aload_n 0, 1) := by decide +kernel
theorem dX7_remedy_16 : decode cX7_remedy 16 = .ok (.iload_n 1, 1) := by decide +kernel
theorem dX7_remedy_17 : decode cX7_remedy 17 = .ok (.invokevirtual 108, 3) := by decide +kernel
theorem dX7_remedy_20 : decode cX7_remedy 20 = .ok (.iaload, 1) := by decide +kernel
theorem dX7_remedy_21 : decode cX7_remedy 21 = .ok (.ifCond .ne 7, 3) := by decide +kernel
theorem dX7_remedy_24 : decode cX7_remedy 24 = .ok (.iconst 2, 1) := by decide +kernel
theorem dX7_remedy_25 : decode cX7_remedy 25 = .ok (.goto 4, 3) := by decide +kernel
theorem dX7_remedy_28 : decode cX7_remedy 28 = .ok (.iconst 0, 1) := by decide +kernel
theorem dX7_remedy_29 : decode cX7_remedy 29 = .ok (.putfield 87, 3) := by decide +kernel
theorem dX7_remedy_32 : decode cX7_remedy 32 = .ok (.aload_n 0, 1) := by decide +kernel
theorem dX7_remedy_33 : decode cX7_remedy 33 = .ok (.getfield 87, 3) := by decide +kernel
theorem dX7_remedy_36 : decode cX7_remedy 36 = .ok (.ifCond .le 7, 3) := by decide +kernel
theorem dX7_remedy_39 : decode cX7_remedy 39 = .ok (.iconst 0, 1) := by decide +kernel
theorem dX7_remedy_40 : decode cX7_remedy 40 = .ok (.goto 13, 3) := by decide +kernel
theorem dX7_remedy_43 : decode cX7_remedy 43 = .ok (.aload_n 0, 1) := by decide +kernel
theorem dX7_remedy_44 : decode cX7_remedy 44 = .ok (.getfield 72, 3) := by decide +kernel
theorem dX7_remedy_47 : decode cX7_remedy 47 = .ok (.aload_n 0, 1) := by decide +kernel
theorem dX7_remedy_48 : decode cX7_remedy 48 = .ok (.iload_n 1, 1) := by decide +kernel
theorem dX7_remedy_49 : decode cX7_remedy 49 = .ok (.invokevirtual 108, 3) := by decide +kernel
theorem dX7_remedy_52 : decode cX7_remedy 52 = .ok (.iaload, 1) := by decide +kernel
theorem dX7_remedy_53 : decode cX7_remedy 53 = .ok (.ireturn, 1) := by decide +kernel
theorem dX7_accept_0 : decode cX7_accept 0 = .ok (.aload_n 0, 1) := by decide +kernel
theorem dX7_accept_1 : decode cX7_accept 1 = .ok (.iload_n 1, 1) := by decide +kernel
theorem dX7_accept_2 : decode cX7_accept 2 = .ok (.bipush 100, 2) := by decide +kernel
theorem dX7_accept_4 : decode cX7_accept 4 = .ok (.invokevirtual 135, 3) := by decide +kernel
theorem dX7_accept_7 : decode cX7_accept 7 = .ok (.ifCond .eq 5, 3) := by decide +kernel
theorem dX7_accept_10 : decode cX7_accept 10 = .ok (.iconst 0, 1) := by decide +kernel
theorem dX7_accept_11 : decode cX7_accept 11 = .ok (.ireturn, 1) := by decide +kernel
theorem dX7_accept_12 : decode cX7_accept 12 = .ok (.aload_n 0, 1) := by decide +kernel
theorem dX7_accept_13 : decode cX7_accept 13 = .ok (.aload_n 0, 1) := by decide +kernel
theorem dX7_accept_14 : decode cX7_accept 14 = .ok (.getfield 75, 3) := by decide +kernel
theorem dX7_accept_17 : decode cX7_accept 17 = .ok (.iload_n 1, 1) := by decide +kernel
theorem dX7_accept_18 : decode cX7_accept 18 = .ok (.iaload, 1) := by decide +kernel
theorem dX7_accept_19 : decode cX7_accept 19 = .ok (.iconst (-1), 1) := by decide +kernel
theorem dX7_accept_20 : decode cX7_accept 20 = .ok (.if_icmp .eq 7, 3) := by decide +kernel
theorem dX7_accept_23 : decode cX7_accept 23 = .ok (.iconst 2, 1) := by decide +kernel
theorem dX7_accept_24 : decode cX7_accept 24 = .ok (.goto 4, 3) := by decide +kernel
theorem dX7_accept_27 : decode cX7_accept 27 = .ok (.iconst 0, 1) := by decide +kernel
theorem dX7_accept_28 : decode cX7_accept 28 = .ok (.putfield 87, 3) := by decide +kernel
theorem dX7_accept_31 : decode cX7_accept 31 = .ok (.aload_n 0, 1) := by decide +kernel
theorem dX7_accept_32 : decode cX7_accept 32 = .ok (.getfield 87, 3) := by decide +kernel
theorem dX7_accept_35 : decode cX7_accept 35 = .ok (.ifCond .le 5, 3) := by decide +kernel
theorem dX7_accept_38 : decode cX7_accept 38 = .ok (.iconst 0, 1) := by decide +kernel
theorem dX7_accept_39 : decode cX7_accept 39 = .ok (.ireturn, 1) := by decide +kernel
theorem dX7_accept_40 : decode cX7_accept 40 = .ok (.aload_n 0, 1) := by decide +kernel
theorem dX7_accept_41 : decode cX7_accept 41 = .ok (.getfield 75, 3) := by decide +kernel
theorem dX7_accept_44 : decode cX7_accept 44 = .ok (.iload_n 1, 1) := by decide +kernel
theorem dX7_accept_45 : decode cX7_accept 45 = .ok (.iload_n 2, 1) := by decide +kernel
theorem dX7_accept_46 : decode cX7_accept 46 = .ok (.ifCond .eq 7, 3) := by decide +kernel
theorem dX7_accept_49 : decode cX7_accept 49 = .ok (.iconst 1, 1) := by decide +kernel
theorem dX7_accept_50 : decode cX7_accept 50 = .ok (.goto 4, 3) := by decide +kernel
theorem dX7_accept_53 : decode cX7_accept 53 = .ok (.iconst 0, 1) := by decide +kernel
theorem dX7_accept_54 : decode cX7_accept 54 = .ok (.iastore, 1) := by decide +kernel
theorem dX7_accept_55 : decode cX7_accept 55 = .ok (.aload_n 0, 1) := by decide +kernel
theorem dX7_accept_56 : decode cX7_accept 56 = .ok (.getfield 57, 3) := by decide +kernel
theorem dX7_accept_59 : decode cX7_accept 59 = .ok (.iload_n 1, 1) := by decide +kernel
theorem dX7_accept_60 : decode cX7_accept 60 = .ok (.iaload, 1) := by decide +kernel
theorem dX7_accept_61 : decode cX7_accept 61 = .ok (.ireturn, 1) := by decide +kernel
theorem dX7_isAccepted_0 : decode cX7_isAccepted 0 = .ok (.aload_n 0, 1) := by decide +kernel
theorem dX7_isAccepted_1 : decode cX7_isAccepted 1 = .ok (.iload_n 1, 1) := by decide +kernel
theorem dX7_isAccepted_2 : decode cX7_isAccepted 2 = .ok (.invokevirtual 126, 3) := by decide +kernel
theorem dX7_isAccepted_5 : decode cX7_isAccepted 5 = .ok (.ifCond .eq 5, 3) := by decide +kernel
theorem dX7_isAccepted_8 : decode cX7_isAccepted 8 = .ok (.iconst 0, 1) := by decide +kernel
theorem dX7_isAccepted_9 : decode cX7_isAccepted 9 = .ok (.ireturn, 1) := by decide +kernel
theorem dX7_isAccepted_10 : decode cX7_isAccepted 10 = .ok (.aload_n 0, 1) := by decide +kernel
theorem dX7_isAccepted_11 : decode cX7_isAccepted 11 = .ok (.getfield 75, 3) := by decide +kernel
theorem dX7_isAccepted_14 : decode cX7_isAccepted 14 = .ok (.aload_n 0, 1) := by decide +kernel
theorem dX7_isAccepted_15 : decode cX7_isAccepted 15 = .ok (.iload_n 1, 1) := by decide +kernel
theorem dX7_isAccepted_16 : decode cX7_isAccepted 16 = .ok (.invokevirtual 108, 3) := by decide +kernel
theorem dX7_isAccepted_19 : decode cX7_isAccepted 19 = .ok (.iaload, 1) := by decide +kernel
theorem dX7_isAccepted_20 : decode cX7_isAccepted 20 = .ok (.istore_n 2, 1) := by decide +kernel
theorem dX7_isAccepted_21 : decode cX7_isAccepted 21 = .ok (.aload_n 0, 1) := by decide +kernel
theorem dX7_isAccepted_22 : decode cX7_isAccepted 22 = .ok (.iload_n 2, 1) := by decide +kernel
theorem dX7_isAccepted_23 : decode cX7_isAccepted 23 = .ok (.iconst (-1), 1) := by decide +kernel
theorem dX7_isAccepted_24 : decode cX7_isAccepted 24 = .ok (.if_icmp .ne 7, 3) := by decide +kernel
theorem dX7_isAccepted_27 : decode cX7_isAccepted 27 = .ok (.iconst 2, 1) := by decide +kernel
theorem dX7_isAccepted_28 : decode cX7_isAccepted 28 = .ok (.goto 4, 3) := by decide +kernel
theorem dX7_isAccepted_31 : decode cX7_isAccepted 31 = .ok (.iconst 0, 1) := by decide +kernel
theorem dX7_isAccepted_32 : decode cX7_isAccepted 32 = .ok (.putfield 87, 3) := by decide +kernel
theorem dX7_isAccepted_35 : decode cX7_isAccepted 35 = .ok (.iload_n 2, 1) := by decide +kernel
theorem dX7_isAccepted_36 : decode cX7_isAccepted 36 = .ok (.iconst 1, 1) := by decide +kernel
theorem dX7_isAccepted_37 : decode cX7_isAccepted 37 = .ok (.if_icmp .ne 7, 3) := by decide +kernel
theorem dX7_isAccepted_40 : decode cX7_isAccepted 40 = .ok (.iconst 1, 1) := by decide +kernel
theorem dX7_isAccepted_41 : decode cX7_isAccepted 41 = .ok (.goto 4, 3) := by decide +kernel
theorem dX7_isAccepted_44 : decode cX7_isAccepted 44 = .ok (.iconst 0, 1) := by decide +kernel
theorem dX7_isAccepted_45 : decode cX7_isAccepted 45 = .ok (.ireturn, 1) := by decide +kernel
theorem dX7_heed_0 : decode cX7_heed 0 = .ok (.aload_n 0, 1) := by decide +kernel
theorem dX7_heed_1 : decode cX7_heed 1 = .ok (.iload_n 1, 1) := by decide +kernel
theorem dX7_heed_2 : decode cX7_heed 2 = .ok (.bipush 100, 2) := by decide +kernel
theorem dX7_heed_4 : decode cX7_heed 4 = .ok (.invokevirtual 135, 3) := by decide +kernel
theorem dX7_heed_7 : decode cX7_heed 7 = .ok (.ifCond .eq 5, 3) := by decide +kernel
theorem dX7_heed_10 : decode cX7_heed 10 = .ok (.iconst 0, 1) := by decide +kernel
theorem dX7_heed_11 : decode cX7_heed 11 = .ok (.ireturn, 1) := by decide +kernel
theorem dX7_heed_12 : decode cX7_heed 12 = .ok (.aload_n 0, 1) := by decide +kernel
theorem dX7_heed_13 : decode cX7_heed 13 = .ok (.aload_n 0, 1) := by decide +kernel
theorem dX7_heed_14 : decode cX7_heed 14 = .ok (.getfield 116, 3) := by decide +kernel
theorem dX7_heed_17 : decode cX7_heed 17 = .ok (.aload_n 0, 1) := by decide +kernel
theorem dX7_heed_18 : decode cX7_heed 18 = .ok (.getfield 57, 3) := by decide +kernel
theorem dX7_heed_21 : decode cX7_heed 21 = .ok (.iload_n 1, 1) := by decide +kernel
theorem dX7_heed_22 : decode cX7_heed 22 = .ok (.iaload, 1) := by decide +kernel
theorem dX7_heed_23 : decode cX7_heed 23 = .ok (.if_icmp .le 7, 3) := by decide +kernel
theorem dX7_heed_26 : decode cX7_heed 26 = .ok (.iconst 2, 1) := by decide +kernel
theorem dX7_heed_27 : decode cX7_heed 27 = .ok (.goto 4, 3) := by decide +kernel
theorem dX7_heed_30 : decode cX7_heed 30 = .ok (.iconst 0, 1) := by decide +kernel
theorem dX7_heed_31 : decode cX7_heed 31 = .ok (.putfield 87, 3) := by decide +kernel
theorem dX7_heed_34 : decode cX7_heed 34 = .ok (.aload_n 0, 1) := by decide +kernel
theorem dX7_heed_35 : decode cX7_heed 35 = .ok (.getfield 87, 3) := by decide +kernel
theorem dX7_heed_38 : decode cX7_heed 38 = .ok (.ifCond .le 5, 3) := by decide +kernel
theorem dX7_heed_41 : decode cX7_heed 41 = .ok (.iconst 0, 1) := by decide +kernel
theorem dX7_heed_42 : decode cX7_heed 42 = .ok (.ireturn, 1) := by decide +kernel
theorem dX7_heed_43 : decode cX7_heed 43 = .ok (.aload_n 0, 1) := by decide +kernel
theorem dX7_heed_44 : decode cX7_heed 44 = .ok (.getfield 19, 3) := by decide +kernel
theorem dX7_heed_47 : decode cX7_heed 47 = .ok (.aload_n 0, 1) := by decide +kernel
theorem dX7_heed_48 : decode cX7_heed 48 = .ok (.getfield 25, 3) := by decide +kernel
theorem dX7_heed_51 : decode cX7_heed 51 = .ok (.iload_n 1, 1) := by decide +kernel
theorem dX7_heed_52 : decode cX7_heed 52 = .ok (.iaload, 1) := by decide +kernel
theorem dX7_heed_53 : decode cX7_heed 53 = .ok (.dup2, 1) := by decide +kernel
theorem dX7_heed_54 : decode cX7_heed 54 = .ok (.iaload, 1) := by decide +kernel
theorem dX7_heed_55 : decode cX7_heed 55 = .ok (.iconst 1, 1) := by decide +kernel
theorem dX7_heed_56 : decode cX7_heed 56 = .ok (.aload_n 0, 1) := by decide +kernel
theorem dX7_heed_57 : decode cX7_heed 57 = .ok (.iload_n 1, 1) := by decide +kernel
theorem dX7_heed_58 : decode cX7_heed 58 = .ok (.invokevirtual 142, 3) := by decide +kernel
theorem dX7_heed_61 : decode cX7_heed 61 = .ok (.iadd, 1) := by decide +kernel
theorem dX7_heed_62 : decode cX7_heed 62 = .ok (.iadd, 1) := by decide +kernel
theorem dX7_heed_63 : decode cX7_heed 63 = .ok (.iastore, 1) := by decide +kernel
theorem dX7_heed_64 : decode cX7_heed 64 = .ok (.aload_n 0, 1) := by decide +kernel
theorem dX7_heed_65 : decode cX7_heed 65 = .ok (.iload_n 1, 1) := by decide +kernel
theorem dX7_heed_66 : decode cX7_heed 66 = .ok (.bipush 104, 2) := by decide +kernel
theorem dX7_heed_68 : decode cX7_heed 68 = .ok (.invokevirtual 145, 3) := by decide +kernel
theorem dX7_heed_71 : decode cX7_heed 71 = .ok (.aload_n 0, 1) := by decide +kernel
theorem dX7_heed_72 : decode cX7_heed 72 = .ok (.getfield 57, 3) := by decide +kernel
theorem dX7_heed_75 : decode cX7_heed 75 = .ok (.iload_n 1, 1) := by decide +kernel
theorem dX7_heed_76 : decode cX7_heed 76 = .ok (.iaload, 1) := by decide +kernel
theorem dX7_heed_77 : decode cX7_heed 77 = .ok (.aload_n 0, 1) := by decide +kernel
theorem dX7_heed_78 : decode cX7_heed 78 = .ok (.getfield 116, 3) := by decide +kernel
theorem dX7_heed_81 : decode cX7_heed 81 = .ok (.isub, 1) := by decide +kernel
theorem dX7_heed_82 : decode cX7_heed 82 = .ok (.ireturn, 1) := by decide +kernel
theorem dX7_followUp_0 : decode cX7_followUp 0 = .ok (.aload_n 0, 1) := by decide +kernel
theorem dX7_followUp_1 : decode cX7_followUp 1 = .ok (.iload_n 1, 1) := by decide +kernel
theorem dX7_followUp_2 : decode cX7_followUp 2 = .ok (.bipush 100, 2) := by decide +kernel
theorem dX7_followUp_4 : decode cX7_followUp 4 = .ok (.invokevirtual 135, 3) := by decide +kernel
theorem dX7_followUp_7 : decode cX7_followUp 7 = .ok (.ifCond .eq 5, 3) := by decide +kernel
theorem dX7_followUp_10 : decode cX7_followUp 10 = .ok (.iconst 0, 1) := by decide +kernel
theorem dX7_followUp_11 : decode cX7_followUp 11 = .ok (.ireturn, 1) := by decide +kernel
theorem dX7_followUp_12 : decode cX7_followUp 12 = .ok (.aload_n 0, 1) := by decide +kernel
theorem dX7_followUp_13 : decode cX7_followUp 13 = .ok (.aload_n 0, 1) := by decide +kernel
theorem dX7_followUp_14 : decode cX7_followUp 14 = .ok (.getfield 116, 3) := by decide +kernel
theorem dX7_followUp_17 : decode cX7_followUp 17 = .ok (.aload_n 0, 1) := by decide +kernel
theorem dX7_followUp_18 : decode cX7_followUp 18 = .ok (.getfield 57, 3) := by decide +kernel
theorem dX7_followUp_21 : decode cX7_followUp 21 = .ok (.iload_n 1, 1) := by decide +kernel
theorem dX7_followUp_22 : decode cX7_followUp 22 = .ok (.iaload, 1) := by decide +kernel
theorem dX7_followUp_23 : decode cX7_followUp 23 = .ok (.if_icmp .le 7, 3) := by decide +kernel
theorem dX7_followUp_26 : decode cX7_followUp 26 = .ok (.iconst 0, 1) := by decide +kernel
theorem dX7_followUp_27 : decode cX7_followUp 27 = .ok (.goto 4, 3) := by decide +kernel
theorem dX7_followUp_30 : decode cX7_followUp 30 = .ok (.iconst 2, 1) := by decide +kernel
theorem dX7_followUp_31 : decode cX7_followUp 31 = .ok (.putfield 87, 3) := by decide +kernel
theorem dX7_followUp_34 : decode cX7_followUp 34 = .ok (.aload_n 0, 1) := by decide +kernel
theorem dX7_followUp_35 : decode cX7_followUp 35 = .ok (.getfield 87, 3) := by decide +kernel
theorem dX7_followUp_38 : decode cX7_followUp 38 = .ok (.ifCond .le 5, 3) := by decide +kernel
theorem dX7_followUp_41 : decode cX7_followUp 41 = .ok (.iconst 0, 1) := by decide +kernel
theorem dX7_followUp_42 : decode cX7_followUp 42 = .ok (.ireturn, 1) := by decide +kernel
theorem dX7_followUp_43 : decode cX7_followUp 43 = .ok (.aload_n 0, 1) := by decide +kernel
theorem dX7_followUp_44 : decode cX7_followUp 44 = .ok (.getfield 78, 3) := by decide +kernel
theorem dX7_followUp_47 : decode cX7_followUp 47 = .ok (.iload_n 1, 1) := by decide +kernel
theorem dX7_followUp_48 : decode cX7_followUp 48 = .ok (.iaload, 1) := by decide +kernel
theorem dX7_followUp_49 : decode cX7_followUp 49 = .ok (.iconst 1, 1) := by decide +kernel
theorem dX7_followUp_50 : decode cX7_followUp 50 = .ok (.if_icmp .ne 12, 3) := by decide +kernel
theorem dX7_followUp_53 : decode cX7_followUp 53 = .ok (.aload_n 0, 1) := by decide +kernel
theorem dX7_followUp_54 : decode cX7_followUp 54 = .ok (.iload_n 1, 1) := by decide +kernel
theorem dX7_followUp_55 : decode cX7_followUp 55 = .ok (.bipush 105, 2) := by decide +kernel
theorem dX7_followUp_57 : decode cX7_followUp 57 = .ok (.invokevirtual 145, 3) := by decide +kernel
theorem dX7_followUp_60 : decode cX7_followUp 60 = .ok (.iconst 0, 1) := by decide +kernel
theorem dX7_followUp_61 : decode cX7_followUp 61 = .ok (.ireturn, 1) := by decide +kernel
theorem dX7_followUp_62 : decode cX7_followUp 62 = .ok (.aload_n 0, 1) := by decide +kernel
theorem dX7_followUp_63 : decode cX7_followUp 63 = .ok (.getfield 78, 3) := by decide +kernel
theorem dX7_followUp_66 : decode cX7_followUp 66 = .ok (.iload_n 1, 1) := by decide +kernel
theorem dX7_followUp_67 : decode cX7_followUp 67 = .ok (.iconst 1, 1) := by decide +kernel
theorem dX7_followUp_68 : decode cX7_followUp 68 = .ok (.iastore, 1) := by decide +kernel
theorem dX7_followUp_69 : decode cX7_followUp 69 = .ok (.aload_n 0, 1) := by decide +kernel
theorem dX7_followUp_70 : decode cX7_followUp 70 = .ok (.getfield 72, 3) := by decide +kernel
theorem dX7_followUp_73 : decode cX7_followUp 73 = .ok (.iload_n 1, 1) := by decide +kernel
theorem dX7_followUp_74 : decode cX7_followUp 74 = .ok (.aload_n 0, 1) := by decide +kernel
theorem dX7_followUp_75 : decode cX7_followUp 75 = .ok (.getfield 72, 3) := by decide +kernel
theorem dX7_followUp_78 : decode cX7_followUp 78 = .ok (.iload_n 1, 1) := by decide +kernel
theorem dX7_followUp_79 : decode cX7_followUp 79 = .ok (.iaload, 1) := by decide +kernel
theorem dX7_followUp_80 : decode cX7_followUp 80 = .ok (.iconst 4, 1) := by decide +kernel
theorem dX7_followUp_81 : decode cX7_followUp 81 = .ok (.if_icmp .ne 7, 3) := by decide +kernel
theorem dX7_followUp_84 : decode cX7_followUp 84 = .ok (.iconst 4, 1) := by decide +kernel
theorem dX7_followUp_85 : decode cX7_followUp 85 = .ok (.goto 11, 3) := by decide +kernel
theorem dX7_followUp_88 : decode cX7_followUp 88 = .ok (.aload_n 0, 1) := by decide +kernel
theorem dX7_followUp_89 : decode cX7_followUp 89 = .ok (.getfield 72, 3) := by decide +kernel
theorem dX7_followUp_92 : decode cX7_followUp 92 = .ok (.iload_n 1, 1) := by decide +kernel
theorem dX7_followUp_93 : decode cX7_followUp 93 = .ok (.iaload, 1) := by decide +kernel
theorem dX7_followUp_94 : decode cX7_followUp 94 = .ok (.iconst 1, 1) := by decide +kernel
theorem dX7_followUp_95 : decode cX7_followUp 95 = .ok (.iadd, 1) := by decide +kernel
theorem dX7_followUp_96 : decode cX7_followUp 96 = .ok (.iastore, 1) := by decide +kernel
theorem dX7_followUp_97 : decode cX7_followUp 97 = .ok (.aload_n 0, 1) := by decide +kernel
theorem dX7_followUp_98 : decode cX7_followUp 98 = .ok (.getfield 57, 3) := by decide +kernel
theorem dX7_followUp_101 : decode cX7_followUp 101 = .ok (.iload_n 1, 1) := by decide +kernel
theorem dX7_followUp_102 : decode cX7_followUp 102 = .ok (.aload_n 0, 1) := by decide +kernel
theorem dX7_followUp_103 : decode cX7_followUp 103 = .ok (.getfield 116, 3) := by decide +kernel
theorem dX7_followUp_106 : decode cX7_followUp 106 = .ok (.bipush 30, 2) := by decide +kernel
theorem dX7_followUp_108 : decode cX7_followUp 108 = .ok (.aload_n 0, 1) := by decide +kernel
theorem dX7_followUp_109 : decode cX7_followUp 109 = .ok (.getfield 72, 3) := by decide +kernel
theorem dX7_followUp_112 : decode cX7_followUp 112 = .ok (.iload_n 1, 1) := by decide +kernel
theorem dX7_followUp_113 : decode cX7_followUp 113 = .ok (.iaload, 1) := by decide +kernel
theorem dX7_followUp_114 : decode cX7_followUp 114 = .ok (.imul, 1) := by decide +kernel
theorem dX7_followUp_115 : decode cX7_followUp 115 = .ok (.iadd, 1) := by decide +kernel
theorem dX7_followUp_116 : decode cX7_followUp 116 = .ok (.iastore, 1) := by decide +kernel
theorem dX7_followUp_117 : decode cX7_followUp 117 = .ok (.aload_n 0, 1) := by decide +kernel
theorem dX7_followUp_118 : decode cX7_followUp 118 = .ok (.getfield 75, 3) := by decide +kernel
theorem dX7_followUp_121 : decode cX7_followUp 121 = .ok (.iload_n 1, 1) := by decide +kernel
theorem dX7_followUp_122 : decode cX7_followUp 122 = .ok (.iconst (-1), 1) := by decide +kernel
theorem dX7_followUp_123 : decode cX7_followUp 123 = .ok (.iastore, 1) := by decide +kernel
theorem dX7_followUp_124 : decode cX7_followUp 124 = .ok (.aload_n 0, 1) := by decide +kernel
theorem dX7_followUp_125 : decode cX7_followUp 125 = .ok (.getfield 72, 3) := by decide +kernel
theorem dX7_followUp_128 : decode cX7_followUp 128 = .ok (.iload_n 1, 1) := by decide +kernel
theorem dX7_followUp_129 : decode cX7_followUp 129 = .ok (.iaload, 1) := by decide +kernel
theorem dX7_followUp_130 : decode cX7_followUp 130 = .ok (.ireturn, 1) := by decide +kernel
theorem dX7_withdraw_0 : decode cX7_withdraw 0 = .ok (.aload_n 0, 1) := by decide +kernel
theorem dX7_withdraw_1 : decode cX7_withdraw 1 = .ok (.iload_n 1, 1) := by decide +kernel
theorem dX7_withdraw_2 : decode cX7_withdraw 2 = .ok (.invokevirtual 126, 3) := by decide +kernel
theorem dX7_withdraw_5 : decode cX7_withdraw 5 = .ok (.ifCond .eq 5, 3) := by decide +kernel
theorem dX7_withdraw_8 : decode cX7_withdraw 8 = .ok (.iconst 0, 1) := by decide +kernel
theorem dX7_withdraw_9 : decode cX7_withdraw 9 = .ok (.ireturn, 1) := by decide +kernel
theorem dX7_withdraw_10 : decode cX7_withdraw 10 = .ok (.aload_n 0, 1) := by decide +kernel
theorem dX7_withdraw_11 : decode cX7_withdraw 11 = .ok (.aload_n 0, 1) := by decide +kernel
theorem dX7_withdraw_12 : decode cX7_withdraw 12 = .ok (.iload_n 1, 1) := by decide +kernel
theorem dX7_withdraw_13 : decode cX7_withdraw 13 = .ok (.invokevirtual 105, 3) := by decide +kernel
theorem dX7_withdraw_16 : decode cX7_withdraw 16 = .ok (.ifCond .ne 15, 3) := by decide +kernel
theorem dX7_withdraw_19 : decode cX7_withdraw 19 = .ok (.aload_n 0, 1) := by decide +kernel
theorem dX7_withdraw_20 : decode cX7_withdraw 20 = .ok (.getfield 40, 3) := by decide +kernel
theorem dX7_withdraw_23 : decode cX7_withdraw 23 = .ok (.iload_n 1, 1) := by decide +kernel
theorem dX7_withdraw_24 : decode cX7_withdraw 24 = .ok (.caload, 1) := by decide +kernel
theorem dX7_withdraw_25 : decode cX7_withdraw 25 = .ok (.invokestatic 112, 3) := by decide +kernel
theorem dX7_withdraw_28 : decode cX7_withdraw 28 = .ok (.ifCond .eq 7, 3) := by decide +kernel
theorem dX7_withdraw_31 : decode cX7_withdraw 31 = .ok (.iconst 2, 1) := by decide +kernel
theorem dX7_withdraw_32 : decode cX7_withdraw 32 = .ok (.goto 4, 3) := by decide +kernel
theorem dX7_withdraw_35 : decode cX7_withdraw 35 = .ok (.iconst 0, 1) := by decide +kernel
theorem dX7_withdraw_36 : decode cX7_withdraw 36 = .ok (.putfield 87, 3) := by decide +kernel
theorem dX7_withdraw_39 : decode cX7_withdraw 39 = .ok (.aload_n 0, 1) := by decide +kernel
theorem dX7_withdraw_40 : decode cX7_withdraw 40 = .ok (.getfield 87, 3) := by decide +kernel
theorem dX7_withdraw_43 : decode cX7_withdraw 43 = .ok (.ifCond .le 5, 3) := by decide +kernel
theorem dX7_withdraw_46 : decode cX7_withdraw 46 = .ok (.iconst 0, 1) := by decide +kernel
theorem dX7_withdraw_47 : decode cX7_withdraw 47 = .ok (.ireturn, 1) := by decide +kernel
theorem dX7_withdraw_48 : decode cX7_withdraw 48 = .ok (.iconst 0, 1) := by decide +kernel
theorem dX7_withdraw_49 : decode cX7_withdraw 49 = .ok (.istore_n 2, 1) := by decide +kernel
theorem dX7_withdraw_50 : decode cX7_withdraw 50 = .ok (.iconst 0, 1) := by decide +kernel
theorem dX7_withdraw_51 : decode cX7_withdraw 51 = .ok (.istore_n 3, 1) := by decide +kernel
theorem dX7_withdraw_52 : decode cX7_withdraw 52 = .ok (.iload_n 3, 1) := by decide +kernel
theorem dX7_withdraw_53 : decode cX7_withdraw 53 = .ok (.aload_n 0, 1) := by decide +kernel
theorem dX7_withdraw_54 : decode cX7_withdraw 54 = .ok (.getfield 98, 3) := by decide +kernel
theorem dX7_withdraw_57 : decode cX7_withdraw 57 = .ok (.if_icmp .ge 37, 3) := by decide +kernel
theorem dX7_withdraw_60 : decode cX7_withdraw 60 = .ok (.aload_n 0, 1) := by decide +kernel
theorem dX7_withdraw_61 : decode cX7_withdraw 61 = .ok (.getfield 44, 3) := by decide +kernel
theorem dX7_withdraw_64 : decode cX7_withdraw 64 = .ok (.iload_n 3, 1) := by decide +kernel
theorem dX7_withdraw_65 : decode cX7_withdraw 65 = .ok (.iaload, 1) := by decide +kernel
theorem dX7_withdraw_66 : decode cX7_withdraw 66 = .ok (.iload_n 1, 1) := by decide +kernel
theorem dX7_withdraw_67 : decode cX7_withdraw 67 = .ok (.if_icmp .ne 21, 3) := by decide +kernel
theorem dX7_withdraw_70 : decode cX7_withdraw 70 = .ok (.aload_n 0, 1) := by decide +kernel
theorem dX7_withdraw_71 : decode cX7_withdraw 71 = .ok (.getfield 44, 3) := by decide +kernel
theorem dX7_withdraw_74 : decode cX7_withdraw 74 = .ok (.iload_n 3, 1) := by decide +kernel
theorem dX7_withdraw_75 : decode cX7_withdraw 75 = .ok (.iconst (-1), 1) := by decide +kernel
theorem dX7_withdraw_76 : decode cX7_withdraw 76 = .ok (.iastore, 1) := by decide +kernel
theorem dX7_withdraw_77 : decode cX7_withdraw 77 = .ok (.aload_n 0, 1) := by decide +kernel
theorem dX7_withdraw_78 : decode cX7_withdraw 78 = .ok (.getfield 40, 3) := by decide +kernel
theorem dX7_withdraw_81 : decode cX7_withdraw 81 = .ok (.iload_n 3, 1) := by decide +kernel
theorem dX7_withdraw_82 : decode cX7_withdraw 82 = .ok (.bipush 114, 2) := by decide +kernel
theorem dX7_withdraw_84 : decode cX7_withdraw 84 = .ok (.castore, 1) := by decide +kernel
theorem dX7_withdraw_85 : decode cX7_withdraw 85 = .ok (.iinc 2 1, 3) := by decide +kernel
theorem dX7_withdraw_88 : decode cX7_withdraw 88 = .ok (.iinc 3 1, 3) := by decide +kernel
theorem dX7_withdraw_91 : decode cX7_withdraw 91 = .ok (.goto (-39), 3) := by decide +kernel
theorem dX7_withdraw_94 : decode cX7_withdraw 94 = .ok (.aload_n 0, 1) := by decide +kernel
theorem dX7_withdraw_95 : decode cX7_withdraw 95 = .ok (.iload_n 1, 1) := by decide +kernel
theorem dX7_withdraw_96 : decode cX7_withdraw 96 = .ok (.bipush 119, 2) := by decide +kernel
theorem dX7_withdraw_98 : decode cX7_withdraw 98 = .ok (.invokevirtual 145, 3) := by decide +kernel
theorem dX7_withdraw_101 : decode cX7_withdraw 101 = .ok (.iload_n 2, 1) := by decide +kernel
theorem dX7_withdraw_102 : decode cX7_withdraw 102 = .ok (.ireturn, 1) := by decide +kernel
theorem dX7_daysOf_0 : decode cX7_daysOf 0 = .ok (.aload_n 0, 1) := by decide +kernel
theorem dX7_daysOf_1 : decode cX7_daysOf 1 = .ok (.iload_n 1, 1) := by decide +kernel
theorem dX7_daysOf_2 : decode cX7_daysOf 2 = .ok (.invokevirtual 119, 3) := by decide +kernel
theorem dX7_daysOf_5 : decode cX7_daysOf 5 = .ok (.invokestatic 112, 3) := by decide +kernel
theorem dX7_daysOf_8 : decode cX7_daysOf 8 = .ok (.ifCond .eq 16, 3) := by decide +kernel
theorem dX7_daysOf_11 : decode cX7_daysOf 11 = .ok (.aload_n 0, 1) := by decide +kernel
theorem dX7_daysOf_12 : decode cX7_daysOf 12 = .ok (.getfield 81, 3) := by decide +kernel
theorem dX7_daysOf_15 : decode cX7_daysOf 15 = .ok (.aload_n 0, 1) := by decide +kernel
theorem dX7_daysOf_16 : decode cX7_daysOf 16 = .ok (.iload_n 1, 1) := by decide +kernel
theorem dX7_daysOf_17 : decode cX7_daysOf 17 = .ok (.invokevirtual 108, 3) := by decide +kernel
theorem dX7_daysOf_20 : decode cX7_daysOf 20 = .ok (.iaload, 1) := by decide +kernel
theorem dX7_daysOf_21 : decode cX7_daysOf 21 = .ok (.goto 7, 3) := by decide +kernel
theorem dX7_daysOf_24 : decode cX7_daysOf 24 = .ok (.aload_n 0, 1) := by decide +kernel
theorem dX7_daysOf_25 : decode cX7_daysOf 25 = .ok (.getfield 116, 3) := by decide +kernel
theorem dX7_daysOf_28 : decode cX7_daysOf 28 = .ok (.istore_n 2, 1) := by decide +kernel
theorem dX7_daysOf_29 : decode cX7_daysOf 29 = .ok (.iload_n 2, 1) := by decide +kernel
theorem dX7_daysOf_30 : decode cX7_daysOf 30 = .ok (.aload_n 0, 1) := by decide +kernel
theorem dX7_daysOf_31 : decode cX7_daysOf 31 = .ok (.getfield 37, 3) := by decide +kernel
theorem dX7_daysOf_34 : decode cX7_daysOf 34 = .ok (.iload_n 1, 1) := by decide +kernel
theorem dX7_daysOf_35 : decode cX7_daysOf 35 = .ok (.iaload, 1) := by decide +kernel
theorem dX7_daysOf_36 : decode cX7_daysOf 36 = .ok (.isub, 1) := by decide +kernel
theorem dX7_daysOf_37 : decode cX7_daysOf 37 = .ok (.aload_n 0, 1) := by decide +kernel
theorem dX7_daysOf_38 : decode cX7_daysOf 38 = .ok (.getfield 84, 3) := by decide +kernel
theorem dX7_daysOf_41 : decode cX7_daysOf 41 = .ok (.iload_n 1, 1) := by decide +kernel
theorem dX7_daysOf_42 : decode cX7_daysOf 42 = .ok (.iaload, 1) := by decide +kernel
theorem dX7_daysOf_43 : decode cX7_daysOf 43 = .ok (.isub, 1) := by decide +kernel
theorem dX7_daysOf_44 : decode cX7_daysOf 44 = .ok (.ireturn, 1) := by decide +kernel
theorem dX7_days_0 : decode cX7_days 0 = .ok (.aload_n 0, 1) := by decide +kernel
theorem dX7_days_1 : decode cX7_days 1 = .ok (.iload_n 1, 1) := by decide +kernel
theorem dX7_days_2 : decode cX7_days 2 = .ok (.invokevirtual 126, 3) := by decide +kernel
theorem dX7_days_5 : decode cX7_days 5 = .ok (.ifCond .eq 7, 3) := by decide +kernel
theorem dX7_days_8 : decode cX7_days 8 = .ok (.iconst 0, 1) := by decide +kernel
theorem dX7_days_9 : decode cX7_days 9 = .ok (.goto 8, 3) := by decide +kernel
theorem dX7_days_12 : decode cX7_days 12 = .ok (.aload_n 0, 1) := by decide +kernel
theorem dX7_days_13 : decode cX7_days 13 = .ok (.iload_n 1, 1) := by decide +kernel
theorem dX7_days_14 : decode cX7_days 14 = .ok (.invokevirtual 149, 3) := by decide +kernel
theorem dX7_days_17 : decode cX7_days 17 = .ok (.ireturn, 1) := by decide +kernel
theorem dX7_heededShare_0 : decode cX7_heededShare 0 = .ok (.aload_n 0, 1) := by decide +kernel
theorem dX7_heededShare_1 : decode cX7_heededShare 1 = .ok (.iload_n 1, 1) := by decide +kernel
theorem dX7_heededShare_2 : decode cX7_heededShare 2 = .ok (.invokevirtual 123, 3) := by decide +kernel
theorem dX7_heededShare_5 : decode cX7_heededShare 5 = .ok (.ifCond .ne 10, 3) := by decide +kernel
theorem dX7_heededShare_8 : decode cX7_heededShare 8 = .ok (.aload_n 0, 1) := by decide +kernel
theorem dX7_heededShare_9 : decode cX7_heededShare 9 = .ok (.iconst 1, 1) := by decide +kernel
theorem dX7_heededShare_10 : decode cX7_heededShare 10 = .ok (.putfield 87, 3) := by decide +kernel
theorem dX7_heededShare_13 : decode cX7_heededShare 13 = .ok (.fconst 0, 1) := by decide +kernel
theorem dX7_heededShare_14 : decode cX7_heededShare 14 = .ok (.freturn, 1) := by decide +kernel
theorem dX7_heededShare_15 : decode cX7_heededShare 15 = .ok (.aload_n 0, 1) := by decide +kernel
theorem dX7_heededShare_16 : decode cX7_heededShare 16 = .ok (.aload_n 0, 1) := by decide +kernel
theorem dX7_heededShare_17 : decode cX7_heededShare 17 = .ok (.getfield 16, 3) := by decide +kernel
theorem dX7_heededShare_20 : decode cX7_heededShare 20 = .ok (.iload_n 1, 1) := by decide +kernel
theorem dX7_heededShare_21 : decode cX7_heededShare 21 = .ok (.iaload, 1) := by decide +kernel
theorem dX7_heededShare_22 : decode cX7_heededShare 22 = .ok (.ifCond .ne 7, 3) := by decide +kernel
theorem dX7_heededShare_25 : decode cX7_heededShare 25 = .ok (.iconst 2, 1) := by decide +kernel
theorem dX7_heededShare_26 : decode cX7_heededShare 26 = .ok (.goto 4, 3) := by decide +kernel
theorem dX7_heededShare_29 : decode cX7_heededShare 29 = .ok (.iconst 0, 1) := by decide +kernel
theorem dX7_heededShare_30 : decode cX7_heededShare 30 = .ok (.putfield 87, 3) := by decide +kernel
theorem dX7_heededShare_33 : decode cX7_heededShare 33 = .ok (.aload_n 0, 1) := by decide +kernel
theorem dX7_heededShare_34 : decode cX7_heededShare 34 = .ok (.getfield 87, 3) := by decide +kernel
theorem dX7_heededShare_37 : decode cX7_heededShare 37 = .ok (.ifCond .le 7, 3) := by decide +kernel
theorem dX7_heededShare_40 : decode cX7_heededShare 40 = .ok (.fconst 0, 1) := by decide +kernel
theorem dX7_heededShare_41 : decode cX7_heededShare 41 = .ok (.goto 18, 3) := by decide +kernel
theorem dX7_heededShare_44 : decode cX7_heededShare 44 = .ok (.aload_n 0, 1) := by decide +kernel
theorem dX7_heededShare_45 : decode cX7_heededShare 45 = .ok (.getfield 19, 3) := by decide +kernel
theorem dX7_heededShare_48 : decode cX7_heededShare 48 = .ok (.iload_n 1, 1) := by decide +kernel
theorem dX7_heededShare_49 : decode cX7_heededShare 49 = .ok (.iaload, 1) := by decide +kernel
theorem dX7_heededShare_50 : decode cX7_heededShare 50 = .ok (.i2f, 1) := by decide +kernel
theorem dX7_heededShare_51 : decode cX7_heededShare 51 = .ok (.aload_n 0, 1) := by decide +kernel
theorem dX7_heededShare_52 : decode cX7_heededShare 52 = .ok (.getfield 16, 3) := by decide +kernel
theorem dX7_heededShare_55 : decode cX7_heededShare 55 = .ok (.iload_n 1, 1) := by decide +kernel
theorem dX7_heededShare_56 : decode cX7_heededShare 56 = .ok (.iaload, 1) := by decide +kernel
theorem dX7_heededShare_57 : decode cX7_heededShare 57 = .ok (.i2f, 1) := by decide +kernel
theorem dX7_heededShare_58 : decode cX7_heededShare 58 = .ok (.fdiv, 1) := by decide +kernel
theorem dX7_heededShare_59 : decode cX7_heededShare 59 = .ok (.freturn, 1) := by decide +kernel
theorem dX7_meanDays_0 : decode cX7_meanDays 0 = .ok (.iconst 0, 1) := by decide +kernel
theorem dX7_meanDays_1 : decode cX7_meanDays 1 = .ok (.istore_n 1, 1) := by decide +kernel
theorem dX7_meanDays_2 : decode cX7_meanDays 2 = .ok (.iconst 0, 1) := by decide +kernel
theorem dX7_meanDays_3 : decode cX7_meanDays 3 = .ok (.istore_n 2, 1) := by decide +kernel
theorem dX7_meanDays_4 : decode cX7_meanDays 4 = .ok (.iconst 0, 1) := by decide +kernel
theorem dX7_meanDays_5 : decode cX7_meanDays 5 = .ok (.istore_n 3, 1) := by decide +kernel
theorem dX7_meanDays_6 : decode cX7_meanDays 6 = .ok (.iload_n 3, 1) := by decide +kernel
theorem dX7_meanDays_7 : decode cX7_meanDays 7 = .ok (.aload_n 0, 1) := by decide +kernel
theorem dX7_meanDays_8 : decode cX7_meanDays 8 = .ok (.getfield 98, 3) := by decide +kernel
theorem dX7_meanDays_11 : decode cX7_meanDays 11 = .ok (.if_icmp .ge 31, 3) := by decide +kernel
theorem dX7_meanDays_14 : decode cX7_meanDays 14 = .ok (.aload_n 0, 1) := by decide +kernel
theorem dX7_meanDays_15 : decode cX7_meanDays 15 = .ok (.iload_n 3, 1) := by decide +kernel
theorem dX7_meanDays_16 : decode cX7_meanDays 16 = .ok (.invokevirtual 119, 3) := by decide +kernel
theorem dX7_meanDays_19 : decode cX7_meanDays 19 = .ok (.invokestatic 112, 3) := by decide +kernel
theorem dX7_meanDays_22 : decode cX7_meanDays 22 = .ok (.ifCond .eq 14, 3) := by decide +kernel
theorem dX7_meanDays_25 : decode cX7_meanDays 25 = .ok (.iload_n 1, 1) := by decide +kernel
theorem dX7_meanDays_26 : decode cX7_meanDays 26 = .ok (.aload_n 0, 1) := by decide +kernel
theorem dX7_meanDays_27 : decode cX7_meanDays 27 = .ok (.iload_n 3, 1) := by decide +kernel
theorem dX7_meanDays_28 : decode cX7_meanDays 28 = .ok (.invokevirtual 149, 3) := by decide +kernel
theorem dX7_meanDays_31 : decode cX7_meanDays 31 = .ok (.iadd, 1) := by decide +kernel
theorem dX7_meanDays_32 : decode cX7_meanDays 32 = .ok (.istore_n 1, 1) := by decide +kernel
theorem dX7_meanDays_33 : decode cX7_meanDays 33 = .ok (.iinc 2 1, 3) := by decide +kernel
theorem dX7_meanDays_36 : decode cX7_meanDays 36 = .ok (.iinc 3 1, 3) := by decide +kernel
theorem dX7_meanDays_39 : decode cX7_meanDays 39 = .ok (.goto (-33), 3) := by decide +kernel
theorem dX7_meanDays_42 : decode cX7_meanDays 42 = .ok (.aload_n 0, 1) := by decide +kernel
theorem dX7_meanDays_43 : decode cX7_meanDays 43 = .ok (.iload_n 2, 1) := by decide +kernel
theorem dX7_meanDays_44 : decode cX7_meanDays 44 = .ok (.ifCond .ne 7, 3) := by decide +kernel
theorem dX7_meanDays_47 : decode cX7_meanDays 47 = .ok (.iconst 1, 1) := by decide +kernel
theorem dX7_meanDays_48 : decode cX7_meanDays 48 = .ok (.goto 4, 3) := by decide +kernel
theorem dX7_meanDays_51 : decode cX7_meanDays 51 = .ok (.iconst 0, 1) := by decide +kernel
theorem dX7_meanDays_52 : decode cX7_meanDays 52 = .ok (.putfield 87, 3) := by decide +kernel
theorem dX7_meanDays_55 : decode cX7_meanDays 55 = .ok (.aload_n 0, 1) := by decide +kernel
theorem dX7_meanDays_56 : decode cX7_meanDays 56 = .ok (.getfield 87, 3) := by decide +kernel
theorem dX7_meanDays_59 : decode cX7_meanDays 59 = .ok (.ifCond .le 7, 3) := by decide +kernel
theorem dX7_meanDays_62 : decode cX7_meanDays 62 = .ok (.dconst 0, 1) := by decide +kernel
theorem dX7_meanDays_63 : decode cX7_meanDays 63 = .ok (.goto 8, 3) := by decide +kernel
theorem dX7_meanDays_66 : decode cX7_meanDays 66 = .ok (.iload_n 1, 1) := by decide +kernel
theorem dX7_meanDays_67 : decode cX7_meanDays 67 = .ok (.i2d, 1) := by decide +kernel
theorem dX7_meanDays_68 : decode cX7_meanDays 68 = .ok (.iload_n 2, 1) := by decide +kernel
theorem dX7_meanDays_69 : decode cX7_meanDays 69 = .ok (.i2d, 1) := by decide +kernel
theorem dX7_meanDays_70 : decode cX7_meanDays 70 = .ok (.ddiv, 1) := by decide +kernel
theorem dX7_meanDays_71 : decode cX7_meanDays 71 = .ok (.dreturn, 1) := by decide +kernel
theorem dX7_checksum_0 : decode cX7_checksum 0 = .ok (.aload_n 0, 1) := by decide +kernel
theorem dX7_checksum_1 : decode cX7_checksum 1 = .ok (.iconst 0, 1) := by decide +kernel
theorem dX7_checksum_2 : decode cX7_checksum 2 = .ok (.putfield 87, 3) := by decide +kernel
theorem dX7_checksum_5 : decode cX7_checksum 5 = .ok (.ldc2_w 152, 3) := by decide +kernel
theorem dX7_checksum_8 : decode cX7_checksum 8 = .ok (.lstore_n 1, 1) := by decide +kernel
theorem dX7_checksum_9 : decode cX7_checksum 9 = .ok (.iconst 0, 1) := by decide +kernel
theorem dX7_checksum_10 : decode cX7_checksum 10 = .ok (.istore_n 3, 1) := by decide +kernel
theorem dX7_checksum_11 : decode cX7_checksum 11 = .ok (.iload_n 3, 1) := by decide +kernel
theorem dX7_checksum_12 : decode cX7_checksum 12 = .ok (.aload_n 0, 1) := by decide +kernel
theorem dX7_checksum_13 : decode cX7_checksum 13 = .ok (.getfield 98, 3) := by decide +kernel
theorem dX7_checksum_16 : decode cX7_checksum 16 = .ok (.if_icmp .ge 35, 3) := by decide +kernel
theorem dX7_checksum_19 : decode cX7_checksum 19 = .ok (.ldc2_w 154, 3) := by decide +kernel
theorem dX7_checksum_22 : decode cX7_checksum 22 = .ok (.lload_n 1, 1) := by decide +kernel
theorem dX7_checksum_23 : decode cX7_checksum 23 = .ok (.lmul, 1) := by decide +kernel
theorem dX7_checksum_24 : decode cX7_checksum 24 = .ok (.aload_n 0, 1) := by decide +kernel
theorem dX7_checksum_25 : decode cX7_checksum 25 = .ok (.iload_n 3, 1) := by decide +kernel
theorem dX7_checksum_26 : decode cX7_checksum 26 = .ok (.invokevirtual 119, 3) := by decide +kernel
theorem dX7_checksum_29 : decode cX7_checksum 29 = .ok (.i2l, 1) := by decide +kernel
theorem dX7_checksum_30 : decode cX7_checksum 30 = .ok (.ladd, 1) := by decide +kernel
theorem dX7_checksum_31 : decode cX7_checksum 31 = .ok (.lstore_n 1, 1) := by decide +kernel
theorem dX7_checksum_32 : decode cX7_checksum 32 = .ok (.ldc2_w 154, 3) := by decide +kernel
theorem dX7_checksum_35 : decode cX7_checksum 35 = .ok (.lload_n 1, 1) := by decide +kernel
theorem dX7_checksum_36 : decode cX7_checksum 36 = .ok (.lmul, 1) := by decide +kernel
theorem dX7_checksum_37 : decode cX7_checksum 37 = .ok (.aload_n 0, 1) := by decide +kernel
theorem dX7_checksum_38 : decode cX7_checksum 38 = .ok (.iload_n 3, 1) := by decide +kernel
theorem dX7_checksum_39 : decode cX7_checksum 39 = .ok (.invokevirtual 149, 3) := by decide +kernel
theorem dX7_checksum_42 : decode cX7_checksum 42 = .ok (.i2l, 1) := by decide +kernel
theorem dX7_checksum_43 : decode cX7_checksum 43 = .ok (.ladd, 1) := by decide +kernel
theorem dX7_checksum_44 : decode cX7_checksum 44 = .ok (.lstore_n 1, 1) := by decide +kernel
theorem dX7_checksum_45 : decode cX7_checksum 45 = .ok (.iinc 3 1, 3) := by decide +kernel
theorem dX7_checksum_48 : decode cX7_checksum 48 = .ok (.goto (-37), 3) := by decide +kernel
theorem dX7_checksum_51 : decode cX7_checksum 51 = .ok (.ldc2_w 154, 3) := by decide +kernel
theorem dX7_checksum_54 : decode cX7_checksum 54 = .ok (.lload_n 1, 1) := by decide +kernel
theorem dX7_checksum_55 : decode cX7_checksum 55 = .ok (.lmul, 1) := by decide +kernel
theorem dX7_checksum_56 : decode cX7_checksum 56 = .ok (.aload_n 0, 1) := by decide +kernel
theorem dX7_checksum_57 : decode cX7_checksum 57 = .ok (.getfield 116, 3) := by decide +kernel
theorem dX7_checksum_60 : decode cX7_checksum 60 = .ok (.i2l, 1) := by decide +kernel
theorem dX7_checksum_61 : decode cX7_checksum 61 = .ok (.ladd, 1) := by decide +kernel
theorem dX7_checksum_62 : decode cX7_checksum 62 = .ok (.lreturn, 1) := by decide +kernel
theorem dX7_isSound_0 : decode cX7_isSound 0 = .ok (.aload_n 0, 1) := by decide +kernel
theorem dX7_isSound_1 : decode cX7_isSound 1 = .ok (.iconst 0, 1) := by decide +kernel
theorem dX7_isSound_2 : decode cX7_isSound 2 = .ok (.putfield 87, 3) := by decide +kernel
theorem dX7_isSound_5 : decode cX7_isSound 5 = .ok (.iconst 1, 1) := by decide +kernel
theorem dX7_isSound_6 : decode cX7_isSound 6 = .ok (.ireturn, 1) := by decide +kernel
end
section
theorem dL_addOffice_0 : decode cL_addOffice 0 = .ok (.aload_n 3, 1) := by decide +kernel
theorem dL_addOffice_1 : decode cL_addOffice 1 = .ok (.iconst 0, 1) := by decide +kernel
theorem dL_addOffice_2 : decode cL_addOffice 2 = .ok (.aload_n 0, 1) := by decide +kernel
theorem dL_addOffice_3 : decode cL_addOffice 3 = .ok (.iload_n 1, 1) := by decide +kernel
theorem dL_addOffice_4 : decode cL_addOffice 4 = .ok (.iload_n 2, 1) := by decide +kernel
theorem dL_addOffice_5 : decode cL_addOffice 5 = .ok (.invokevirtual 7, 3) := by decide +kernel
theorem dL_addOffice_8 : decode cL_addOffice 8 = .ok (.i2l, 1) := by decide +kernel
theorem dL_addOffice_9 : decode cL_addOffice 9 = .ok (.lastore, 1) := by decide +kernel
theorem dL_addOffice_10 : decode cL_addOffice 10 = .ok (.goto 11, 3) := by decide +kernel
theorem dL_addOffice_13 : decode cL_addOffice 13 = .ok (.astore 4, 2) := by decide +kernel
theorem dL_addOffice_15 : decode cL_addOffice 15 = .ok (.iconst 1, 1) := by decide +kernel
theorem dL_addOffice_16 : decode cL_addOffice 16 = .ok (.ireturn, 1) := by decide +kernel
theorem dL_addOffice_17 : decode cL_addOffice 17 = .ok (.astore 4, 2) := by decide +kernel
theorem dL_addOffice_19 : decode cL_addOffice 19 = .ok (.iconst 2, 1) := by decide +kernel
theorem dL_addOffice_20 : decode cL_addOffice 20 = .ok (.ireturn, 1) := by decide +kernel
theorem dL_addOffice_21 : decode cL_addOffice 21 = .ok (.iconst 0, 1) := by decide +kernel
theorem dL_addOffice_22 : decode cL_addOffice 22 = .ok (.ireturn, 1) := by decide +kernel
theorem dL_pass_0 : decode cL_pass 0 = .ok (.aload_n 2, 1) := by decide +kernel
theorem dL_pass_1 : decode cL_pass 1 = .ok (.iconst 0, 1) := by decide +kernel
theorem dL_pass_2 : decode cL_pass 2 = .ok (.aload_n 0, 1) := by decide +kernel
theorem dL_pass_3 : decode cL_pass 3 = .ok (.iload_n 1, 1) := by decide +kernel
theorem dL_pass_4 : decode cL_pass 4 = .ok (.invokevirtual 17, 3) := by decide +kernel
theorem dL_pass_7 : decode cL_pass 7 = .ok (.i2l, 1) := by decide +kernel
theorem dL_pass_8 : decode cL_pass 8 = .ok (.lastore, 1) := by decide +kernel
theorem dL_pass_9 : decode cL_pass 9 = .ok (.goto 9, 3) := by decide +kernel
theorem dL_pass_12 : decode cL_pass 12 = .ok (.astore_n 3, 1) := by decide +kernel
theorem dL_pass_13 : decode cL_pass 13 = .ok (.iconst 1, 1) := by decide +kernel
theorem dL_pass_14 : decode cL_pass 14 = .ok (.ireturn, 1) := by decide +kernel
theorem dL_pass_15 : decode cL_pass 15 = .ok (.astore_n 3, 1) := by decide +kernel
theorem dL_pass_16 : decode cL_pass 16 = .ok (.iconst 2, 1) := by decide +kernel
theorem dL_pass_17 : decode cL_pass 17 = .ok (.ireturn, 1) := by decide +kernel
theorem dL_pass_18 : decode cL_pass 18 = .ok (.iconst 0, 1) := by decide +kernel
theorem dL_pass_19 : decode cL_pass 19 = .ok (.ireturn, 1) := by decide +kernel
theorem dL_complain_0 : decode cL_complain 0 = .ok (.aload 5, 2) := by decide +kernel
theorem dL_complain_2 : decode cL_complain 2 = .ok (.iconst 0, 1) := by decide +kernel
theorem dL_complain_3 : decode cL_complain 3 = .ok (.aload_n 0, 1) := by decide +kernel
theorem dL_complain_4 : decode cL_complain 4 = .ok (.iload_n 1, 1) := by decide +kernel
theorem dL_complain_5 : decode cL_complain 5 = .ok (.iload_n 2, 1) := by decide +kernel
theorem dL_complain_6 : decode cL_complain 6 = .ok (.iload_n 3, 1) := by decide +kernel
theorem dL_complain_7 : decode cL_complain 7 = .ok (.iload 4, 2) := by decide +kernel
theorem dL_complain_9 : decode cL_complain 9 = .ok (.invokevirtual 21, 3) := by decide +kernel
theorem dL_complain_12 : decode cL_complain 12 = .ok (.i2l, 1) := by decide +kernel
theorem dL_complain_13 : decode cL_complain 13 = .ok (.lastore, 1) := by decide +kernel
theorem dL_complain_14 : decode cL_complain 14 = .ok (.goto 15, 3) := by decide +kernel
theorem dL_complain_17 : decode cL_complain 17 = .ok (.astore 6, 2) := by decide +kernel
theorem dL_complain_19 : decode cL_complain 19 = .ok (.iconst 1, 1) := by decide +kernel
theorem dL_complain_20 : decode cL_complain 20 = .ok (.ireturn, 1) := by decide +kernel
theorem dL_complain_21 : decode cL_complain 21 = .ok (.astore 6, 2) := by decide +kernel
theorem dL_complain_23 : decode cL_complain 23 = .ok (.iconst 2, 1) := by decide +kernel
theorem dL_complain_24 : decode cL_complain 24 = .ok (.ireturn, 1) := by decide +kernel
theorem dL_complain_25 : decode cL_complain 25 = .ok (.astore 6, 2) := by decide +kernel
theorem dL_complain_27 : decode cL_complain 27 = .ok (.iconst 3, 1) := by decide +kernel
theorem dL_complain_28 : decode cL_complain 28 = .ok (.ireturn, 1) := by decide +kernel
theorem dL_complain_29 : decode cL_complain 29 = .ok (.iconst 0, 1) := by decide +kernel
theorem dL_complain_30 : decode cL_complain 30 = .ok (.ireturn, 1) := by decide +kernel
theorem dL_setCourt_0 : decode cL_setCourt 0 = .ok (.aload_n 3, 1) := by decide +kernel
theorem dL_setCourt_1 : decode cL_setCourt 1 = .ok (.iconst 0, 1) := by decide +kernel
theorem dL_setCourt_2 : decode cL_setCourt 2 = .ok (.aload_n 0, 1) := by decide +kernel
theorem dL_setCourt_3 : decode cL_setCourt 3 = .ok (.iload_n 1, 1) := by decide +kernel
theorem dL_setCourt_4 : decode cL_setCourt 4 = .ok (.iload_n 2, 1) := by decide +kernel
theorem dL_setCourt_5 : decode cL_setCourt 5 = .ok (.invokevirtual 27, 3) := by decide +kernel
theorem dL_setCourt_8 : decode cL_setCourt 8 = .ok (.ifCond .eq 7, 3) := by decide +kernel
theorem dL_setCourt_11 : decode cL_setCourt 11 = .ok (.lconst 1, 1) := by decide +kernel
theorem dL_setCourt_12 : decode cL_setCourt 12 = .ok (.goto 4, 3) := by decide +kernel
theorem dL_setCourt_15 : decode cL_setCourt 15 = .ok (.lconst 0, 1) := by decide +kernel
theorem dL_setCourt_16 : decode cL_setCourt 16 = .ok (.lastore, 1) := by decide +kernel
theorem dL_setCourt_17 : decode cL_setCourt 17 = .ok (.goto 11, 3) := by decide +kernel
theorem dL_setCourt_20 : decode cL_setCourt 20 = .ok (.astore 4, 2) := by decide +kernel
theorem dL_setCourt_22 : decode cL_setCourt 22 = .ok (.iconst 1, 1) := by decide +kernel
theorem dL_setCourt_23 : decode cL_setCourt 23 = .ok (.ireturn, 1) := by decide +kernel
theorem dL_setCourt_24 : decode cL_setCourt 24 = .ok (.astore 4, 2) := by decide +kernel
theorem dL_setCourt_26 : decode cL_setCourt 26 = .ok (.iconst 2, 1) := by decide +kernel
theorem dL_setCourt_27 : decode cL_setCourt 27 = .ok (.ireturn, 1) := by decide +kernel
theorem dL_setCourt_28 : decode cL_setCourt 28 = .ok (.iconst 0, 1) := by decide +kernel
theorem dL_setCourt_29 : decode cL_setCourt 29 = .ok (.ireturn, 1) := by decide +kernel
theorem dL_excuse_0 : decode cL_excuse 0 = .ok (.aload_n 2, 1) := by decide +kernel
theorem dL_excuse_1 : decode cL_excuse 1 = .ok (.iconst 0, 1) := by decide +kernel
theorem dL_excuse_2 : decode cL_excuse 2 = .ok (.aload_n 0, 1) := by decide +kernel
theorem dL_excuse_3 : decode cL_excuse 3 = .ok (.iload_n 1, 1) := by decide +kernel
theorem dL_excuse_4 : decode cL_excuse 4 = .ok (.invokevirtual 33, 3) := by decide +kernel
theorem dL_excuse_7 : decode cL_excuse 7 = .ok (.ifCond .eq 7, 3) := by decide +kernel
theorem dL_excuse_10 : decode cL_excuse 10 = .ok (.lconst 1, 1) := by decide +kernel
theorem dL_excuse_11 : decode cL_excuse 11 = .ok (.goto 4, 3) := by decide +kernel
theorem dL_excuse_14 : decode cL_excuse 14 = .ok (.lconst 0, 1) := by decide +kernel
theorem dL_excuse_15 : decode cL_excuse 15 = .ok (.lastore, 1) := by decide +kernel
theorem dL_excuse_16 : decode cL_excuse 16 = .ok (.goto 9, 3) := by decide +kernel
theorem dL_excuse_19 : decode cL_excuse 19 = .ok (.astore_n 3, 1) := by decide +kernel
theorem dL_excuse_20 : decode cL_excuse 20 = .ok (.iconst 1, 1) := by decide +kernel
theorem dL_excuse_21 : decode cL_excuse 21 = .ok (.ireturn, 1) := by decide +kernel
theorem dL_excuse_22 : decode cL_excuse 22 = .ok (.astore_n 3, 1) := by decide +kernel
theorem dL_excuse_23 : decode cL_excuse 23 = .ok (.iconst 2, 1) := by decide +kernel
theorem dL_excuse_24 : decode cL_excuse 24 = .ok (.ireturn, 1) := by decide +kernel
theorem dL_excuse_25 : decode cL_excuse 25 = .ok (.iconst 0, 1) := by decide +kernel
theorem dL_excuse_26 : decode cL_excuse 26 = .ok (.ireturn, 1) := by decide +kernel
theorem dL_takeStep_0 : decode cL_takeStep 0 = .ok (.aload_n 2, 1) := by decide +kernel
theorem dL_takeStep_1 : decode cL_takeStep 1 = .ok (.iconst 0, 1) := by decide +kernel
theorem dL_takeStep_2 : decode cL_takeStep 2 = .ok (.aload_n 0, 1) := by decide +kernel
theorem dL_takeStep_3 : decode cL_takeStep 3 = .ok (.iload_n 1, 1) := by decide +kernel
theorem dL_takeStep_4 : decode cL_takeStep 4 = .ok (.invokevirtual 37, 3) := by decide +kernel
theorem dL_takeStep_7 : decode cL_takeStep 7 = .ok (.i2l, 1) := by decide +kernel
theorem dL_takeStep_8 : decode cL_takeStep 8 = .ok (.lastore, 1) := by decide +kernel
theorem dL_takeStep_9 : decode cL_takeStep 9 = .ok (.goto 9, 3) := by decide +kernel
theorem dL_takeStep_12 : decode cL_takeStep 12 = .ok (.astore_n 3, 1) := by decide +kernel
theorem dL_takeStep_13 : decode cL_takeStep 13 = .ok (.iconst 1, 1) := by decide +kernel
theorem dL_takeStep_14 : decode cL_takeStep 14 = .ok (.ireturn, 1) := by decide +kernel
theorem dL_takeStep_15 : decode cL_takeStep 15 = .ok (.astore_n 3, 1) := by decide +kernel
theorem dL_takeStep_16 : decode cL_takeStep 16 = .ok (.iconst 2, 1) := by decide +kernel
theorem dL_takeStep_17 : decode cL_takeStep 17 = .ok (.ireturn, 1) := by decide +kernel
theorem dL_takeStep_18 : decode cL_takeStep 18 = .ok (.iconst 0, 1) := by decide +kernel
theorem dL_takeStep_19 : decode cL_takeStep 19 = .ok (.ireturn, 1) := by decide +kernel
theorem dL_examine_0 : decode cL_examine 0 = .ok (.aload_n 2, 1) := by decide +kernel
theorem dL_examine_1 : decode cL_examine 1 = .ok (.iconst 0, 1) := by decide +kernel
theorem dL_examine_2 : decode cL_examine 2 = .ok (.aload_n 0, 1) := by decide +kernel
theorem dL_examine_3 : decode cL_examine 3 = .ok (.iload_n 1, 1) := by decide +kernel
theorem dL_examine_4 : decode cL_examine 4 = .ok (.invokevirtual 40, 3) := by decide +kernel
theorem dL_examine_7 : decode cL_examine 7 = .ok (.i2l, 1) := by decide +kernel
theorem dL_examine_8 : decode cL_examine 8 = .ok (.lastore, 1) := by decide +kernel
theorem dL_examine_9 : decode cL_examine 9 = .ok (.goto 9, 3) := by decide +kernel
theorem dL_examine_12 : decode cL_examine 12 = .ok (.astore_n 3, 1) := by decide +kernel
theorem dL_examine_13 : decode cL_examine 13 = .ok (.iconst 1, 1) := by decide +kernel
theorem dL_examine_14 : decode cL_examine 14 = .ok (.ireturn, 1) := by decide +kernel
theorem dL_examine_15 : decode cL_examine 15 = .ok (.astore_n 3, 1) := by decide +kernel
theorem dL_examine_16 : decode cL_examine 16 = .ok (.iconst 2, 1) := by decide +kernel
theorem dL_examine_17 : decode cL_examine 17 = .ok (.ireturn, 1) := by decide +kernel
theorem dL_examine_18 : decode cL_examine 18 = .ok (.iconst 0, 1) := by decide +kernel
theorem dL_examine_19 : decode cL_examine 19 = .ok (.ireturn, 1) := by decide +kernel
theorem dL_state_0 : decode cL_state 0 = .ok (.aload_n 2, 1) := by decide +kernel
theorem dL_state_1 : decode cL_state 1 = .ok (.iconst 0, 1) := by decide +kernel
theorem dL_state_2 : decode cL_state 2 = .ok (.aload_n 0, 1) := by decide +kernel
theorem dL_state_3 : decode cL_state 3 = .ok (.iload_n 1, 1) := by decide +kernel
theorem dL_state_4 : decode cL_state 4 = .ok (.invokevirtual 44, 3) := by decide +kernel
theorem dL_state_7 : decode cL_state 7 = .ok (.i2l, 1) := by decide +kernel
theorem dL_state_8 : decode cL_state 8 = .ok (.lastore, 1) := by decide +kernel
theorem dL_state_9 : decode cL_state 9 = .ok (.goto 6, 3) := by decide +kernel
theorem dL_state_12 : decode cL_state 12 = .ok (.astore_n 3, 1) := by decide +kernel
theorem dL_state_13 : decode cL_state 13 = .ok (.iconst 1, 1) := by decide +kernel
theorem dL_state_14 : decode cL_state 14 = .ok (.ireturn, 1) := by decide +kernel
theorem dL_state_15 : decode cL_state 15 = .ok (.iconst 0, 1) := by decide +kernel
theorem dL_state_16 : decode cL_state 16 = .ok (.ireturn, 1) := by decide +kernel
theorem dL_countState_0 : decode cL_countState 0 = .ok (.aload_n 2, 1) := by decide +kernel
theorem dL_countState_1 : decode cL_countState 1 = .ok (.iconst 0, 1) := by decide +kernel
theorem dL_countState_2 : decode cL_countState 2 = .ok (.aload_n 0, 1) := by decide +kernel
theorem dL_countState_3 : decode cL_countState 3 = .ok (.iload_n 1, 1) := by decide +kernel
theorem dL_countState_4 : decode cL_countState 4 = .ok (.invokevirtual 47, 3) := by decide +kernel
theorem dL_countState_7 : decode cL_countState 7 = .ok (.i2l, 1) := by decide +kernel
theorem dL_countState_8 : decode cL_countState 8 = .ok (.lastore, 1) := by decide +kernel
theorem dL_countState_9 : decode cL_countState 9 = .ok (.goto 6, 3) := by decide +kernel
theorem dL_countState_12 : decode cL_countState 12 = .ok (.astore_n 3, 1) := by decide +kernel
theorem dL_countState_13 : decode cL_countState 13 = .ok (.iconst 1, 1) := by decide +kernel
theorem dL_countState_14 : decode cL_countState 14 = .ok (.ireturn, 1) := by decide +kernel
theorem dL_countState_15 : decode cL_countState 15 = .ok (.iconst 0, 1) := by decide +kernel
theorem dL_countState_16 : decode cL_countState 16 = .ok (.ireturn, 1) := by decide +kernel
theorem dL_countOf_0 : decode cL_countOf 0 = .ok (.aload_n 2, 1) := by decide +kernel
theorem dL_countOf_1 : decode cL_countOf 1 = .ok (.iconst 0, 1) := by decide +kernel
theorem dL_countOf_2 : decode cL_countOf 2 = .ok (.aload_n 0, 1) := by decide +kernel
theorem dL_countOf_3 : decode cL_countOf 3 = .ok (.iload_n 1, 1) := by decide +kernel
theorem dL_countOf_4 : decode cL_countOf 4 = .ok (.invokevirtual 51, 3) := by decide +kernel
theorem dL_countOf_7 : decode cL_countOf 7 = .ok (.i2l, 1) := by decide +kernel
theorem dL_countOf_8 : decode cL_countOf 8 = .ok (.lastore, 1) := by decide +kernel
theorem dL_countOf_9 : decode cL_countOf 9 = .ok (.goto 6, 3) := by decide +kernel
theorem dL_countOf_12 : decode cL_countOf 12 = .ok (.astore_n 3, 1) := by decide +kernel
theorem dL_countOf_13 : decode cL_countOf 13 = .ok (.iconst 1, 1) := by decide +kernel
theorem dL_countOf_14 : decode cL_countOf 14 = .ok (.ireturn, 1) := by decide +kernel
theorem dL_countOf_15 : decode cL_countOf 15 = .ok (.iconst 0, 1) := by decide +kernel
theorem dL_countOf_16 : decode cL_countOf 16 = .ok (.ireturn, 1) := by decide +kernel
theorem dL_ask_0 : decode cL_ask 0 = .ok (.aload_n 2, 1) := by decide +kernel
theorem dL_ask_1 : decode cL_ask 1 = .ok (.iconst 0, 1) := by decide +kernel
theorem dL_ask_2 : decode cL_ask 2 = .ok (.aload_n 0, 1) := by decide +kernel
theorem dL_ask_3 : decode cL_ask 3 = .ok (.iload_n 1, 1) := by decide +kernel
theorem dL_ask_4 : decode cL_ask 4 = .ok (.invokevirtual 54, 3) := by decide +kernel
theorem dL_ask_7 : decode cL_ask 7 = .ok (.i2l, 1) := by decide +kernel
theorem dL_ask_8 : decode cL_ask 8 = .ok (.lastore, 1) := by decide +kernel
theorem dL_ask_9 : decode cL_ask 9 = .ok (.goto 9, 3) := by decide +kernel
theorem dL_ask_12 : decode cL_ask 12 = .ok (.astore_n 3, 1) := by decide +kernel
theorem dL_ask_13 : decode cL_ask 13 = .ok (.iconst 1, 1) := by decide +kernel
theorem dL_ask_14 : decode cL_ask 14 = .ok (.ireturn, 1) := by decide +kernel
theorem dL_ask_15 : decode cL_ask 15 = .ok (.astore_n 3, 1) := by decide +kernel
theorem dL_ask_16 : decode cL_ask 16 = .ok (.iconst 2, 1) := by decide +kernel
theorem dL_ask_17 : decode cL_ask 17 = .ok (.ireturn, 1) := by decide +kernel
theorem dL_ask_18 : decode cL_ask 18 = .ok (.iconst 0, 1) := by decide +kernel
theorem dL_ask_19 : decode cL_ask 19 = .ok (.ireturn, 1) := by decide +kernel
theorem dL_extend_0 : decode cL_extend 0 = .ok (.aload_n 3, 1) := by decide +kernel
theorem dL_extend_1 : decode cL_extend 1 = .ok (.iconst 0, 1) := by decide +kernel
theorem dL_extend_2 : decode cL_extend 2 = .ok (.aload_n 0, 1) := by decide +kernel
theorem dL_extend_3 : decode cL_extend 3 = .ok (.iload_n 1, 1) := by decide +kernel
theorem dL_extend_4 : decode cL_extend 4 = .ok (.iload_n 2, 1) := by decide +kernel
theorem dL_extend_5 : decode cL_extend 5 = .ok (.invokevirtual 57, 3) := by decide +kernel
theorem dL_extend_8 : decode cL_extend 8 = .ok (.i2l, 1) := by decide +kernel
theorem dL_extend_9 : decode cL_extend 9 = .ok (.lastore, 1) := by decide +kernel
theorem dL_extend_10 : decode cL_extend 10 = .ok (.goto 15, 3) := by decide +kernel
theorem dL_extend_13 : decode cL_extend 13 = .ok (.astore 4, 2) := by decide +kernel
theorem dL_extend_15 : decode cL_extend 15 = .ok (.iconst 1, 1) := by decide +kernel
theorem dL_extend_16 : decode cL_extend 16 = .ok (.ireturn, 1) := by decide +kernel
theorem dL_extend_17 : decode cL_extend 17 = .ok (.astore 4, 2) := by decide +kernel
theorem dL_extend_19 : decode cL_extend 19 = .ok (.iconst 2, 1) := by decide +kernel
theorem dL_extend_20 : decode cL_extend 20 = .ok (.ireturn, 1) := by decide +kernel
theorem dL_extend_21 : decode cL_extend 21 = .ok (.astore 4, 2) := by decide +kernel
theorem dL_extend_23 : decode cL_extend 23 = .ok (.iconst 3, 1) := by decide +kernel
theorem dL_extend_24 : decode cL_extend 24 = .ok (.ireturn, 1) := by decide +kernel
theorem dL_extend_25 : decode cL_extend 25 = .ok (.iconst 0, 1) := by decide +kernel
theorem dL_extend_26 : decode cL_extend 26 = .ok (.ireturn, 1) := by decide +kernel
theorem dL_remind_0 : decode cL_remind 0 = .ok (.aload_n 2, 1) := by decide +kernel
theorem dL_remind_1 : decode cL_remind 1 = .ok (.iconst 0, 1) := by decide +kernel
theorem dL_remind_2 : decode cL_remind 2 = .ok (.aload_n 0, 1) := by decide +kernel
theorem dL_remind_3 : decode cL_remind 3 = .ok (.iload_n 1, 1) := by decide +kernel
theorem dL_remind_4 : decode cL_remind 4 = .ok (.invokevirtual 60, 3) := by decide +kernel
theorem dL_remind_7 : decode cL_remind 7 = .ok (.i2l, 1) := by decide +kernel
theorem dL_remind_8 : decode cL_remind 8 = .ok (.lastore, 1) := by decide +kernel
theorem dL_remind_9 : decode cL_remind 9 = .ok (.goto 9, 3) := by decide +kernel
theorem dL_remind_12 : decode cL_remind 12 = .ok (.astore_n 3, 1) := by decide +kernel
theorem dL_remind_13 : decode cL_remind 13 = .ok (.iconst 1, 1) := by decide +kernel
theorem dL_remind_14 : decode cL_remind 14 = .ok (.ireturn, 1) := by decide +kernel
theorem dL_remind_15 : decode cL_remind 15 = .ok (.astore_n 3, 1) := by decide +kernel
theorem dL_remind_16 : decode cL_remind 16 = .ok (.iconst 2, 1) := by decide +kernel
theorem dL_remind_17 : decode cL_remind 17 = .ok (.ireturn, 1) := by decide +kernel
theorem dL_remind_18 : decode cL_remind 18 = .ok (.iconst 0, 1) := by decide +kernel
theorem dL_remind_19 : decode cL_remind 19 = .ok (.ireturn, 1) := by decide +kernel
theorem dL_answer_0 : decode cL_answer 0 = .ok (.aload_n 2, 1) := by decide +kernel
theorem dL_answer_1 : decode cL_answer 1 = .ok (.iconst 0, 1) := by decide +kernel
theorem dL_answer_2 : decode cL_answer 2 = .ok (.aload_n 0, 1) := by decide +kernel
theorem dL_answer_3 : decode cL_answer 3 = .ok (.iload_n 1, 1) := by decide +kernel
theorem dL_answer_4 : decode cL_answer 4 = .ok (.invokevirtual 63, 3) := by decide +kernel
theorem dL_answer_7 : decode cL_answer 7 = .ok (.i2l, 1) := by decide +kernel
theorem dL_answer_8 : decode cL_answer 8 = .ok (.lastore, 1) := by decide +kernel
theorem dL_answer_9 : decode cL_answer 9 = .ok (.goto 9, 3) := by decide +kernel
theorem dL_answer_12 : decode cL_answer 12 = .ok (.astore_n 3, 1) := by decide +kernel
theorem dL_answer_13 : decode cL_answer 13 = .ok (.iconst 1, 1) := by decide +kernel
theorem dL_answer_14 : decode cL_answer 14 = .ok (.ireturn, 1) := by decide +kernel
theorem dL_answer_15 : decode cL_answer 15 = .ok (.astore_n 3, 1) := by decide +kernel
theorem dL_answer_16 : decode cL_answer 16 = .ok (.iconst 2, 1) := by decide +kernel
theorem dL_answer_17 : decode cL_answer 17 = .ok (.ireturn, 1) := by decide +kernel
theorem dL_answer_18 : decode cL_answer 18 = .ok (.iconst 0, 1) := by decide +kernel
theorem dL_answer_19 : decode cL_answer 19 = .ok (.ireturn, 1) := by decide +kernel
theorem dL_takeSilence_0 : decode cL_takeSilence 0 = .ok (.aload_n 2, 1) := by decide +kernel
theorem dL_takeSilence_1 : decode cL_takeSilence 1 = .ok (.iconst 0, 1) := by decide +kernel
theorem dL_takeSilence_2 : decode cL_takeSilence 2 = .ok (.aload_n 0, 1) := by decide +kernel
theorem dL_takeSilence_3 : decode cL_takeSilence 3 = .ok (.iload_n 1, 1) := by decide +kernel
theorem dL_takeSilence_4 : decode cL_takeSilence 4 = .ok (.invokevirtual 66, 3) := by decide +kernel
theorem dL_takeSilence_7 : decode cL_takeSilence 7 = .ok (.i2l, 1) := by decide +kernel
theorem dL_takeSilence_8 : decode cL_takeSilence 8 = .ok (.lastore, 1) := by decide +kernel
theorem dL_takeSilence_9 : decode cL_takeSilence 9 = .ok (.goto 9, 3) := by decide +kernel
theorem dL_takeSilence_12 : decode cL_takeSilence 12 = .ok (.astore_n 3, 1) := by decide +kernel
theorem dL_takeSilence_13 : decode cL_takeSilence 13 = .ok (.iconst 1, 1) := by decide +kernel
theorem dL_takeSilence_14 : decode cL_takeSilence 14 = .ok (.ireturn, 1) := by decide +kernel
theorem dL_takeSilence_15 : decode cL_takeSilence 15 = .ok (.astore_n 3, 1) := by decide +kernel
theorem dL_takeSilence_16 : decode cL_takeSilence 16 = .ok (.iconst 2, 1) := by decide +kernel
theorem dL_takeSilence_17 : decode cL_takeSilence 17 = .ok (.ireturn, 1) := by decide +kernel
theorem dL_takeSilence_18 : decode cL_takeSilence 18 = .ok (.iconst 0, 1) := by decide +kernel
theorem dL_takeSilence_19 : decode cL_takeSilence 19 = .ok (.ireturn, 1) := by decide +kernel
theorem dL_isOverdue_0 : decode cL_isOverdue 0 = .ok (.aload_n 2, 1) := by decide +kernel
theorem dL_isOverdue_1 : decode cL_isOverdue 1 = .ok (.iconst 0, 1) := by decide +kernel
theorem dL_isOverdue_2 : decode cL_isOverdue 2 = .ok (.aload_n 0, 1) := by decide +kernel
theorem dL_isOverdue_3 : decode cL_isOverdue 3 = .ok (.iload_n 1, 1) := by decide +kernel
theorem dL_isOverdue_4 : decode cL_isOverdue 4 = .ok (.invokevirtual 69, 3) := by decide +kernel
theorem dL_isOverdue_7 : decode cL_isOverdue 7 = .ok (.ifCond .eq 7, 3) := by decide +kernel
theorem dL_isOverdue_10 : decode cL_isOverdue 10 = .ok (.lconst 1, 1) := by decide +kernel
theorem dL_isOverdue_11 : decode cL_isOverdue 11 = .ok (.goto 4, 3) := by decide +kernel
theorem dL_isOverdue_14 : decode cL_isOverdue 14 = .ok (.lconst 0, 1) := by decide +kernel
theorem dL_isOverdue_15 : decode cL_isOverdue 15 = .ok (.lastore, 1) := by decide +kernel
theorem dL_isOverdue_16 : decode cL_isOverdue 16 = .ok (.goto 6, 3) := by decide +kernel
theorem dL_isOverdue_19 : decode cL_isOverdue 19 = .ok (.astore_n 3, 1) := by decide +kernel
theorem dL_isOverdue_20 : decode cL_isOverdue 20 = .ok (.iconst 1, 1) := by decide +kernel
theorem dL_isOverdue_21 : decode cL_isOverdue 21 = .ok (.ireturn, 1) := by decide +kernel
theorem dL_isOverdue_22 : decode cL_isOverdue 22 = .ok (.iconst 0, 1) := by decide +kernel
theorem dL_isOverdue_23 : decode cL_isOverdue 23 = .ok (.ireturn, 1) := by decide +kernel
theorem dL_nextDue_0 : decode cL_nextDue 0 = .ok (.aload_n 1, 1) := by decide +kernel
theorem dL_nextDue_1 : decode cL_nextDue 1 = .ok (.iconst 0, 1) := by decide +kernel
theorem dL_nextDue_2 : decode cL_nextDue 2 = .ok (.aload_n 0, 1) := by decide +kernel
theorem dL_nextDue_3 : decode cL_nextDue 3 = .ok (.invokevirtual 72, 3) := by decide +kernel
theorem dL_nextDue_6 : decode cL_nextDue 6 = .ok (.i2l, 1) := by decide +kernel
theorem dL_nextDue_7 : decode cL_nextDue 7 = .ok (.lastore, 1) := by decide +kernel
theorem dL_nextDue_8 : decode cL_nextDue 8 = .ok (.goto 6, 3) := by decide +kernel
theorem dL_nextDue_11 : decode cL_nextDue 11 = .ok (.astore_n 2, 1) := by decide +kernel
theorem dL_nextDue_12 : decode cL_nextDue 12 = .ok (.iconst 1, 1) := by decide +kernel
theorem dL_nextDue_13 : decode cL_nextDue 13 = .ok (.ireturn, 1) := by decide +kernel
theorem dL_nextDue_14 : decode cL_nextDue 14 = .ok (.iconst 0, 1) := by decide +kernel
theorem dL_nextDue_15 : decode cL_nextDue 15 = .ok (.ireturn, 1) := by decide +kernel
theorem dL_join_0 : decode cL_join 0 = .ok (.aload_n 3, 1) := by decide +kernel
theorem dL_join_1 : decode cL_join 1 = .ok (.iconst 0, 1) := by decide +kernel
theorem dL_join_2 : decode cL_join 2 = .ok (.aload_n 0, 1) := by decide +kernel
theorem dL_join_3 : decode cL_join 3 = .ok (.iload_n 1, 1) := by decide +kernel
theorem dL_join_4 : decode cL_join 4 = .ok (.iload_n 2, 1) := by decide +kernel
theorem dL_join_5 : decode cL_join 5 = .ok (.invokevirtual 78, 3) := by decide +kernel
theorem dL_join_8 : decode cL_join 8 = .ok (.i2l, 1) := by decide +kernel
theorem dL_join_9 : decode cL_join 9 = .ok (.lastore, 1) := by decide +kernel
theorem dL_join_10 : decode cL_join 10 = .ok (.goto 15, 3) := by decide +kernel
theorem dL_join_13 : decode cL_join 13 = .ok (.astore 4, 2) := by decide +kernel
theorem dL_join_15 : decode cL_join 15 = .ok (.iconst 1, 1) := by decide +kernel
theorem dL_join_16 : decode cL_join 16 = .ok (.ireturn, 1) := by decide +kernel
theorem dL_join_17 : decode cL_join 17 = .ok (.astore 4, 2) := by decide +kernel
theorem dL_join_19 : decode cL_join 19 = .ok (.iconst 2, 1) := by decide +kernel
theorem dL_join_20 : decode cL_join 20 = .ok (.ireturn, 1) := by decide +kernel
theorem dL_join_21 : decode cL_join 21 = .ok (.astore 4, 2) := by decide +kernel
theorem dL_join_23 : decode cL_join 23 = .ok (.iconst 3, 1) := by decide +kernel
theorem dL_join_24 : decode cL_join 24 = .ok (.ireturn, 1) := by decide +kernel
theorem dL_join_25 : decode cL_join 25 = .ok (.iconst 0, 1) := by decide +kernel
theorem dL_join_26 : decode cL_join 26 = .ok (.ireturn, 1) := by decide +kernel
theorem dL_part_0 : decode cL_part 0 = .ok (.aload_n 2, 1) := by decide +kernel
theorem dL_part_1 : decode cL_part 1 = .ok (.iconst 0, 1) := by decide +kernel
theorem dL_part_2 : decode cL_part 2 = .ok (.aload_n 0, 1) := by decide +kernel
theorem dL_part_3 : decode cL_part 3 = .ok (.iload_n 1, 1) := by decide +kernel
theorem dL_part_4 : decode cL_part 4 = .ok (.invokevirtual 81, 3) := by decide +kernel
theorem dL_part_7 : decode cL_part 7 = .ok (.i2l, 1) := by decide +kernel
theorem dL_part_8 : decode cL_part 8 = .ok (.lastore, 1) := by decide +kernel
theorem dL_part_9 : decode cL_part 9 = .ok (.goto 9, 3) := by decide +kernel
theorem dL_part_12 : decode cL_part 12 = .ok (.astore_n 3, 1) := by decide +kernel
theorem dL_part_13 : decode cL_part 13 = .ok (.iconst 1, 1) := by decide +kernel
theorem dL_part_14 : decode cL_part 14 = .ok (.ireturn, 1) := by decide +kernel
theorem dL_part_15 : decode cL_part 15 = .ok (.astore_n 3, 1) := by decide +kernel
theorem dL_part_16 : decode cL_part 16 = .ok (.iconst 2, 1) := by decide +kernel
theorem dL_part_17 : decode cL_part 17 = .ok (.ireturn, 1) := by decide +kernel
theorem dL_part_18 : decode cL_part 18 = .ok (.iconst 0, 1) := by decide +kernel
theorem dL_part_19 : decode cL_part 19 = .ok (.ireturn, 1) := by decide +kernel
theorem dL_lead_0 : decode cL_lead 0 = .ok (.aload_n 2, 1) := by decide +kernel
theorem dL_lead_1 : decode cL_lead 1 = .ok (.iconst 0, 1) := by decide +kernel
theorem dL_lead_2 : decode cL_lead 2 = .ok (.aload_n 0, 1) := by decide +kernel
theorem dL_lead_3 : decode cL_lead 3 = .ok (.iload_n 1, 1) := by decide +kernel
theorem dL_lead_4 : decode cL_lead 4 = .ok (.invokevirtual 84, 3) := by decide +kernel
theorem dL_lead_7 : decode cL_lead 7 = .ok (.i2l, 1) := by decide +kernel
theorem dL_lead_8 : decode cL_lead 8 = .ok (.lastore, 1) := by decide +kernel
theorem dL_lead_9 : decode cL_lead 9 = .ok (.goto 6, 3) := by decide +kernel
theorem dL_lead_12 : decode cL_lead 12 = .ok (.astore_n 3, 1) := by decide +kernel
theorem dL_lead_13 : decode cL_lead 13 = .ok (.iconst 1, 1) := by decide +kernel
theorem dL_lead_14 : decode cL_lead 14 = .ok (.ireturn, 1) := by decide +kernel
theorem dL_lead_15 : decode cL_lead 15 = .ok (.iconst 0, 1) := by decide +kernel
theorem dL_lead_16 : decode cL_lead 16 = .ok (.ireturn, 1) := by decide +kernel
theorem dL_countJoined_0 : decode cL_countJoined 0 = .ok (.aload_n 2, 1) := by decide +kernel
theorem dL_countJoined_1 : decode cL_countJoined 1 = .ok (.iconst 0, 1) := by decide +kernel
theorem dL_countJoined_2 : decode cL_countJoined 2 = .ok (.aload_n 0, 1) := by decide +kernel
theorem dL_countJoined_3 : decode cL_countJoined 3 = .ok (.iload_n 1, 1) := by decide +kernel
theorem dL_countJoined_4 : decode cL_countJoined 4 = .ok (.invokevirtual 87, 3) := by decide +kernel
theorem dL_countJoined_7 : decode cL_countJoined 7 = .ok (.i2l, 1) := by decide +kernel
theorem dL_countJoined_8 : decode cL_countJoined 8 = .ok (.lastore, 1) := by decide +kernel
theorem dL_countJoined_9 : decode cL_countJoined 9 = .ok (.goto 6, 3) := by decide +kernel
theorem dL_countJoined_12 : decode cL_countJoined 12 = .ok (.astore_n 3, 1) := by decide +kernel
theorem dL_countJoined_13 : decode cL_countJoined 13 = .ok (.iconst 1, 1) := by decide +kernel
theorem dL_countJoined_14 : decode cL_countJoined 14 = .ok (.ireturn, 1) := by decide +kernel
theorem dL_countJoined_15 : decode cL_countJoined 15 = .ok (.iconst 0, 1) := by decide +kernel
theorem dL_countJoined_16 : decode cL_countJoined 16 = .ok (.ireturn, 1) := by decide +kernel
theorem dL_setWeight_0 : decode cL_setWeight 0 = .ok (.aload_n 3, 1) := by decide +kernel
theorem dL_setWeight_1 : decode cL_setWeight 1 = .ok (.iconst 0, 1) := by decide +kernel
theorem dL_setWeight_2 : decode cL_setWeight 2 = .ok (.aload_n 0, 1) := by decide +kernel
theorem dL_setWeight_3 : decode cL_setWeight 3 = .ok (.iload_n 1, 1) := by decide +kernel
theorem dL_setWeight_4 : decode cL_setWeight 4 = .ok (.iload_n 2, 1) := by decide +kernel
theorem dL_setWeight_5 : decode cL_setWeight 5 = .ok (.invokevirtual 90, 3) := by decide +kernel
theorem dL_setWeight_8 : decode cL_setWeight 8 = .ok (.i2l, 1) := by decide +kernel
theorem dL_setWeight_9 : decode cL_setWeight 9 = .ok (.lastore, 1) := by decide +kernel
theorem dL_setWeight_10 : decode cL_setWeight 10 = .ok (.goto 7, 3) := by decide +kernel
theorem dL_setWeight_13 : decode cL_setWeight 13 = .ok (.astore 4, 2) := by decide +kernel
theorem dL_setWeight_15 : decode cL_setWeight 15 = .ok (.iconst 1, 1) := by decide +kernel
theorem dL_setWeight_16 : decode cL_setWeight 16 = .ok (.ireturn, 1) := by decide +kernel
theorem dL_setWeight_17 : decode cL_setWeight 17 = .ok (.iconst 0, 1) := by decide +kernel
theorem dL_setWeight_18 : decode cL_setWeight 18 = .ok (.ireturn, 1) := by decide +kernel
theorem dL_find_0 : decode cL_find 0 = .ok (.aload_n 3, 1) := by decide +kernel
theorem dL_find_1 : decode cL_find 1 = .ok (.iconst 0, 1) := by decide +kernel
theorem dL_find_2 : decode cL_find 2 = .ok (.aload_n 0, 1) := by decide +kernel
theorem dL_find_3 : decode cL_find 3 = .ok (.iload_n 1, 1) := by decide +kernel
theorem dL_find_4 : decode cL_find 4 = .ok (.iload_n 2, 1) := by decide +kernel
theorem dL_find_5 : decode cL_find 5 = .ok (.invokevirtual 93, 3) := by decide +kernel
theorem dL_find_8 : decode cL_find 8 = .ok (.i2l, 1) := by decide +kernel
theorem dL_find_9 : decode cL_find 9 = .ok (.lastore, 1) := by decide +kernel
theorem dL_find_10 : decode cL_find 10 = .ok (.goto 15, 3) := by decide +kernel
theorem dL_find_13 : decode cL_find 13 = .ok (.astore 4, 2) := by decide +kernel
theorem dL_find_15 : decode cL_find 15 = .ok (.iconst 1, 1) := by decide +kernel
theorem dL_find_16 : decode cL_find 16 = .ok (.ireturn, 1) := by decide +kernel
theorem dL_find_17 : decode cL_find 17 = .ok (.astore 4, 2) := by decide +kernel
theorem dL_find_19 : decode cL_find 19 = .ok (.iconst 2, 1) := by decide +kernel
theorem dL_find_20 : decode cL_find 20 = .ok (.ireturn, 1) := by decide +kernel
theorem dL_find_21 : decode cL_find 21 = .ok (.astore 4, 2) := by decide +kernel
theorem dL_find_23 : decode cL_find 23 = .ok (.iconst 3, 1) := by decide +kernel
theorem dL_find_24 : decode cL_find 24 = .ok (.ireturn, 1) := by decide +kernel
theorem dL_find_25 : decode cL_find 25 = .ok (.iconst 0, 1) := by decide +kernel
theorem dL_find_26 : decode cL_find 26 = .ok (.ireturn, 1) := by decide +kernel
theorem dL_heads_0 : decode cL_heads 0 = .ok (.aload_n 2, 1) := by decide +kernel
theorem dL_heads_1 : decode cL_heads 1 = .ok (.iconst 0, 1) := by decide +kernel
theorem dL_heads_2 : decode cL_heads 2 = .ok (.aload_n 0, 1) := by decide +kernel
theorem dL_heads_3 : decode cL_heads 3 = .ok (.iload_n 1, 1) := by decide +kernel
theorem dL_heads_4 : decode cL_heads 4 = .ok (.invokevirtual 96, 3) := by decide +kernel
theorem dL_heads_7 : decode cL_heads 7 = .ok (.i2l, 1) := by decide +kernel
theorem dL_heads_8 : decode cL_heads 8 = .ok (.lastore, 1) := by decide +kernel
theorem dL_heads_9 : decode cL_heads 9 = .ok (.goto 9, 3) := by decide +kernel
theorem dL_heads_12 : decode cL_heads 12 = .ok (.astore_n 3, 1) := by decide +kernel
theorem dL_heads_13 : decode cL_heads 13 = .ok (.iconst 1, 1) := by decide +kernel
theorem dL_heads_14 : decode cL_heads 14 = .ok (.ireturn, 1) := by decide +kernel
theorem dL_heads_15 : decode cL_heads 15 = .ok (.astore_n 3, 1) := by decide +kernel
theorem dL_heads_16 : decode cL_heads 16 = .ok (.iconst 2, 1) := by decide +kernel
theorem dL_heads_17 : decode cL_heads 17 = .ok (.ireturn, 1) := by decide +kernel
theorem dL_heads_18 : decode cL_heads 18 = .ok (.iconst 0, 1) := by decide +kernel
theorem dL_heads_19 : decode cL_heads 19 = .ok (.ireturn, 1) := by decide +kernel
theorem dL_remedy_0 : decode cL_remedy 0 = .ok (.aload_n 2, 1) := by decide +kernel
theorem dL_remedy_1 : decode cL_remedy 1 = .ok (.iconst 0, 1) := by decide +kernel
theorem dL_remedy_2 : decode cL_remedy 2 = .ok (.aload_n 0, 1) := by decide +kernel
theorem dL_remedy_3 : decode cL_remedy 3 = .ok (.iload_n 1, 1) := by decide +kernel
theorem dL_remedy_4 : decode cL_remedy 4 = .ok (.invokevirtual 99, 3) := by decide +kernel
theorem dL_remedy_7 : decode cL_remedy 7 = .ok (.i2l, 1) := by decide +kernel
theorem dL_remedy_8 : decode cL_remedy 8 = .ok (.lastore, 1) := by decide +kernel
theorem dL_remedy_9 : decode cL_remedy 9 = .ok (.goto 9, 3) := by decide +kernel
theorem dL_remedy_12 : decode cL_remedy 12 = .ok (.astore_n 3, 1) := by decide +kernel
theorem dL_remedy_13 : decode cL_remedy 13 = .ok (.iconst 1, 1) := by decide +kernel
theorem dL_remedy_14 : decode cL_remedy 14 = .ok (.ireturn, 1) := by decide +kernel
theorem dL_remedy_15 : decode cL_remedy 15 = .ok (.astore_n 3, 1) := by decide +kernel
theorem dL_remedy_16 : decode cL_remedy 16 = .ok (.iconst 2, 1) := by decide +kernel
theorem dL_remedy_17 : decode cL_remedy 17 = .ok (.ireturn, 1) := by decide +kernel
theorem dL_remedy_18 : decode cL_remedy 18 = .ok (.iconst 0, 1) := by decide +kernel
theorem dL_remedy_19 : decode cL_remedy 19 = .ok (.ireturn, 1) := by decide +kernel
theorem dL_accept_0 : decode cL_accept 0 = .ok (.aload_n 3, 1) := by decide +kernel
theorem dL_accept_1 : decode cL_accept 1 = .ok (.iconst 0, 1) := by decide +kernel
theorem dL_accept_2 : decode cL_accept 2 = .ok (.aload_n 0, 1) := by decide +kernel
theorem dL_accept_3 : decode cL_accept 3 = .ok (.iload_n 1, 1) := by decide +kernel
theorem dL_accept_4 : decode cL_accept 4 = .ok (.iload_n 2, 1) := by decide +kernel
theorem dL_accept_5 : decode cL_accept 5 = .ok (.invokevirtual 102, 3) := by decide +kernel
theorem dL_accept_8 : decode cL_accept 8 = .ok (.i2l, 1) := by decide +kernel
theorem dL_accept_9 : decode cL_accept 9 = .ok (.lastore, 1) := by decide +kernel
theorem dL_accept_10 : decode cL_accept 10 = .ok (.goto 11, 3) := by decide +kernel
theorem dL_accept_13 : decode cL_accept 13 = .ok (.astore 4, 2) := by decide +kernel
theorem dL_accept_15 : decode cL_accept 15 = .ok (.iconst 1, 1) := by decide +kernel
theorem dL_accept_16 : decode cL_accept 16 = .ok (.ireturn, 1) := by decide +kernel
theorem dL_accept_17 : decode cL_accept 17 = .ok (.astore 4, 2) := by decide +kernel
theorem dL_accept_19 : decode cL_accept 19 = .ok (.iconst 2, 1) := by decide +kernel
theorem dL_accept_20 : decode cL_accept 20 = .ok (.ireturn, 1) := by decide +kernel
theorem dL_accept_21 : decode cL_accept 21 = .ok (.iconst 0, 1) := by decide +kernel
theorem dL_accept_22 : decode cL_accept 22 = .ok (.ireturn, 1) := by decide +kernel
theorem dL_isAccepted_0 : decode cL_isAccepted 0 = .ok (.aload_n 2, 1) := by decide +kernel
theorem dL_isAccepted_1 : decode cL_isAccepted 1 = .ok (.iconst 0, 1) := by decide +kernel
theorem dL_isAccepted_2 : decode cL_isAccepted 2 = .ok (.aload_n 0, 1) := by decide +kernel
theorem dL_isAccepted_3 : decode cL_isAccepted 3 = .ok (.iload_n 1, 1) := by decide +kernel
theorem dL_isAccepted_4 : decode cL_isAccepted 4 = .ok (.invokevirtual 106, 3) := by decide +kernel
theorem dL_isAccepted_7 : decode cL_isAccepted 7 = .ok (.ifCond .eq 7, 3) := by decide +kernel
theorem dL_isAccepted_10 : decode cL_isAccepted 10 = .ok (.lconst 1, 1) := by decide +kernel
theorem dL_isAccepted_11 : decode cL_isAccepted 11 = .ok (.goto 4, 3) := by decide +kernel
theorem dL_isAccepted_14 : decode cL_isAccepted 14 = .ok (.lconst 0, 1) := by decide +kernel
theorem dL_isAccepted_15 : decode cL_isAccepted 15 = .ok (.lastore, 1) := by decide +kernel
theorem dL_isAccepted_16 : decode cL_isAccepted 16 = .ok (.goto 9, 3) := by decide +kernel
theorem dL_isAccepted_19 : decode cL_isAccepted 19 = .ok (.astore_n 3, 1) := by decide +kernel
theorem dL_isAccepted_20 : decode cL_isAccepted 20 = .ok (.iconst 1, 1) := by decide +kernel
theorem dL_isAccepted_21 : decode cL_isAccepted 21 = .ok (.ireturn, 1) := by decide +kernel
theorem dL_isAccepted_22 : decode cL_isAccepted 22 = .ok (.astore_n 3, 1) := by decide +kernel
theorem dL_isAccepted_23 : decode cL_isAccepted 23 = .ok (.iconst 2, 1) := by decide +kernel
theorem dL_isAccepted_24 : decode cL_isAccepted 24 = .ok (.ireturn, 1) := by decide +kernel
theorem dL_isAccepted_25 : decode cL_isAccepted 25 = .ok (.iconst 0, 1) := by decide +kernel
theorem dL_isAccepted_26 : decode cL_isAccepted 26 = .ok (.ireturn, 1) := by decide +kernel
theorem dL_heed_0 : decode cL_heed 0 = .ok (.aload_n 2, 1) := by decide +kernel
theorem dL_heed_1 : decode cL_heed 1 = .ok (.iconst 0, 1) := by decide +kernel
theorem dL_heed_2 : decode cL_heed 2 = .ok (.aload_n 0, 1) := by decide +kernel
theorem dL_heed_3 : decode cL_heed 3 = .ok (.iload_n 1, 1) := by decide +kernel
theorem dL_heed_4 : decode cL_heed 4 = .ok (.invokevirtual 109, 3) := by decide +kernel
theorem dL_heed_7 : decode cL_heed 7 = .ok (.i2l, 1) := by decide +kernel
theorem dL_heed_8 : decode cL_heed 8 = .ok (.lastore, 1) := by decide +kernel
theorem dL_heed_9 : decode cL_heed 9 = .ok (.goto 9, 3) := by decide +kernel
theorem dL_heed_12 : decode cL_heed 12 = .ok (.astore_n 3, 1) := by decide +kernel
theorem dL_heed_13 : decode cL_heed 13 = .ok (.iconst 1, 1) := by decide +kernel
theorem dL_heed_14 : decode cL_heed 14 = .ok (.ireturn, 1) := by decide +kernel
theorem dL_heed_15 : decode cL_heed 15 = .ok (.astore_n 3, 1) := by decide +kernel
theorem dL_heed_16 : decode cL_heed 16 = .ok (.iconst 2, 1) := by decide +kernel
theorem dL_heed_17 : decode cL_heed 17 = .ok (.ireturn, 1) := by decide +kernel
theorem dL_heed_18 : decode cL_heed 18 = .ok (.iconst 0, 1) := by decide +kernel
theorem dL_heed_19 : decode cL_heed 19 = .ok (.ireturn, 1) := by decide +kernel
theorem dL_followUp_0 : decode cL_followUp 0 = .ok (.aload_n 2, 1) := by decide +kernel
theorem dL_followUp_1 : decode cL_followUp 1 = .ok (.iconst 0, 1) := by decide +kernel
theorem dL_followUp_2 : decode cL_followUp 2 = .ok (.aload_n 0, 1) := by decide +kernel
theorem dL_followUp_3 : decode cL_followUp 3 = .ok (.iload_n 1, 1) := by decide +kernel
theorem dL_followUp_4 : decode cL_followUp 4 = .ok (.invokevirtual 112, 3) := by decide +kernel
theorem dL_followUp_7 : decode cL_followUp 7 = .ok (.i2l, 1) := by decide +kernel
theorem dL_followUp_8 : decode cL_followUp 8 = .ok (.lastore, 1) := by decide +kernel
theorem dL_followUp_9 : decode cL_followUp 9 = .ok (.goto 9, 3) := by decide +kernel
theorem dL_followUp_12 : decode cL_followUp 12 = .ok (.astore_n 3, 1) := by decide +kernel
theorem dL_followUp_13 : decode cL_followUp 13 = .ok (.iconst 1, 1) := by decide +kernel
theorem dL_followUp_14 : decode cL_followUp 14 = .ok (.ireturn, 1) := by decide +kernel
theorem dL_followUp_15 : decode cL_followUp 15 = .ok (.astore_n 3, 1) := by decide +kernel
theorem dL_followUp_16 : decode cL_followUp 16 = .ok (.iconst 2, 1) := by decide +kernel
theorem dL_followUp_17 : decode cL_followUp 17 = .ok (.ireturn, 1) := by decide +kernel
theorem dL_followUp_18 : decode cL_followUp 18 = .ok (.iconst 0, 1) := by decide +kernel
theorem dL_followUp_19 : decode cL_followUp 19 = .ok (.ireturn, 1) := by decide +kernel
theorem dL_withdraw_0 : decode cL_withdraw 0 = .ok (.aload_n 2, 1) := by decide +kernel
theorem dL_withdraw_1 : decode cL_withdraw 1 = .ok (.iconst 0, 1) := by decide +kernel
theorem dL_withdraw_2 : decode cL_withdraw 2 = .ok (.aload_n 0, 1) := by decide +kernel
theorem dL_withdraw_3 : decode cL_withdraw 3 = .ok (.iload_n 1, 1) := by decide +kernel
theorem dL_withdraw_4 : decode cL_withdraw 4 = .ok (.invokevirtual 115, 3) := by decide +kernel
theorem dL_withdraw_7 : decode cL_withdraw 7 = .ok (.i2l, 1) := by decide +kernel
theorem dL_withdraw_8 : decode cL_withdraw 8 = .ok (.lastore, 1) := by decide +kernel
theorem dL_withdraw_9 : decode cL_withdraw 9 = .ok (.goto 9, 3) := by decide +kernel
theorem dL_withdraw_12 : decode cL_withdraw 12 = .ok (.astore_n 3, 1) := by decide +kernel
theorem dL_withdraw_13 : decode cL_withdraw 13 = .ok (.iconst 1, 1) := by decide +kernel
theorem dL_withdraw_14 : decode cL_withdraw 14 = .ok (.ireturn, 1) := by decide +kernel
theorem dL_withdraw_15 : decode cL_withdraw 15 = .ok (.astore_n 3, 1) := by decide +kernel
theorem dL_withdraw_16 : decode cL_withdraw 16 = .ok (.iconst 2, 1) := by decide +kernel
theorem dL_withdraw_17 : decode cL_withdraw 17 = .ok (.ireturn, 1) := by decide +kernel
theorem dL_withdraw_18 : decode cL_withdraw 18 = .ok (.iconst 0, 1) := by decide +kernel
theorem dL_withdraw_19 : decode cL_withdraw 19 = .ok (.ireturn, 1) := by decide +kernel
theorem dL_days_0 : decode cL_days 0 = .ok (.aload_n 2, 1) := by decide +kernel
theorem dL_days_1 : decode cL_days 1 = .ok (.iconst 0, 1) := by decide +kernel
theorem dL_days_2 : decode cL_days 2 = .ok (.aload_n 0, 1) := by decide +kernel
theorem dL_days_3 : decode cL_days 3 = .ok (.iload_n 1, 1) := by decide +kernel
theorem dL_days_4 : decode cL_days 4 = .ok (.invokevirtual 118, 3) := by decide +kernel
theorem dL_days_7 : decode cL_days 7 = .ok (.i2l, 1) := by decide +kernel
theorem dL_days_8 : decode cL_days 8 = .ok (.lastore, 1) := by decide +kernel
theorem dL_days_9 : decode cL_days 9 = .ok (.goto 6, 3) := by decide +kernel
theorem dL_days_12 : decode cL_days 12 = .ok (.astore_n 3, 1) := by decide +kernel
theorem dL_days_13 : decode cL_days 13 = .ok (.iconst 1, 1) := by decide +kernel
theorem dL_days_14 : decode cL_days 14 = .ok (.ireturn, 1) := by decide +kernel
theorem dL_days_15 : decode cL_days 15 = .ok (.iconst 0, 1) := by decide +kernel
theorem dL_days_16 : decode cL_days 16 = .ok (.ireturn, 1) := by decide +kernel
theorem dL_heededShare_0 : decode cL_heededShare 0 = .ok (.aload_n 2, 1) := by decide +kernel
theorem dL_heededShare_1 : decode cL_heededShare 1 = .ok (.iconst 0, 1) := by decide +kernel
theorem dL_heededShare_2 : decode cL_heededShare 2 = .ok (.aload_n 0, 1) := by decide +kernel
theorem dL_heededShare_3 : decode cL_heededShare 3 = .ok (.iload_n 1, 1) := by decide +kernel
theorem dL_heededShare_4 : decode cL_heededShare 4 = .ok (.invokevirtual 121, 3) := by decide +kernel
theorem dL_heededShare_7 : decode cL_heededShare 7 = .ok (.f2d, 1) := by decide +kernel
theorem dL_heededShare_8 : decode cL_heededShare 8 = .ok (.dastore, 1) := by decide +kernel
theorem dL_heededShare_9 : decode cL_heededShare 9 = .ok (.goto 9, 3) := by decide +kernel
theorem dL_heededShare_12 : decode cL_heededShare 12 = .ok (.astore_n 3, 1) := by decide +kernel
theorem dL_heededShare_13 : decode cL_heededShare 13 = .ok (.iconst 1, 1) := by decide +kernel
theorem dL_heededShare_14 : decode cL_heededShare 14 = .ok (.ireturn, 1) := by decide +kernel
theorem dL_heededShare_15 : decode cL_heededShare 15 = .ok (.astore_n 3, 1) := by decide +kernel
theorem dL_heededShare_16 : decode cL_heededShare 16 = .ok (.iconst 2, 1) := by decide +kernel
theorem dL_heededShare_17 : decode cL_heededShare 17 = .ok (.ireturn, 1) := by decide +kernel
theorem dL_heededShare_18 : decode cL_heededShare 18 = .ok (.iconst 0, 1) := by decide +kernel
theorem dL_heededShare_19 : decode cL_heededShare 19 = .ok (.ireturn, 1) := by decide +kernel
theorem dL_meanDays_0 : decode cL_meanDays 0 = .ok (.aload_n 1, 1) := by decide +kernel
theorem dL_meanDays_1 : decode cL_meanDays 1 = .ok (.iconst 0, 1) := by decide +kernel
theorem dL_meanDays_2 : decode cL_meanDays 2 = .ok (.aload_n 0, 1) := by decide +kernel
theorem dL_meanDays_3 : decode cL_meanDays 3 = .ok (.invokevirtual 127, 3) := by decide +kernel
theorem dL_meanDays_6 : decode cL_meanDays 6 = .ok (.dastore, 1) := by decide +kernel
theorem dL_meanDays_7 : decode cL_meanDays 7 = .ok (.goto 6, 3) := by decide +kernel
theorem dL_meanDays_10 : decode cL_meanDays 10 = .ok (.astore_n 2, 1) := by decide +kernel
theorem dL_meanDays_11 : decode cL_meanDays 11 = .ok (.iconst 1, 1) := by decide +kernel
theorem dL_meanDays_12 : decode cL_meanDays 12 = .ok (.ireturn, 1) := by decide +kernel
theorem dL_meanDays_13 : decode cL_meanDays 13 = .ok (.iconst 0, 1) := by decide +kernel
theorem dL_meanDays_14 : decode cL_meanDays 14 = .ok (.ireturn, 1) := by decide +kernel
theorem dL_law_0 : decode cL_law 0 = .ok (.new 8, 3) := by decide +kernel
theorem dL_law_3 : decode cL_law 3 = .ok (.dup, 1) := by decide +kernel
theorem dL_law_4 : decode cL_law 4 = .ok (.invokespecial 131, 3) := by decide +kernel
theorem dL_law_7 : decode cL_law 7 = .ok (.astore_n 1, 1) := by decide +kernel
theorem dL_law_8 : decode cL_law 8 = .ok (.new 132, 3) := by decide +kernel
theorem dL_law_11 : decode cL_law 11 = .ok (.dup, 1) := by decide +kernel
theorem dL_law_12 : decode cL_law 12 = .ok (.invokespecial 134, 3) := by decide +kernel
theorem dL_law_15 : decode cL_law 15 = .ok (.astore_n 2, 1) := by decide +kernel
theorem dL_law_16 : decode cL_law 16 = .ok (.iconst 1, 1) := by decide +kernel
theorem dL_law_17 : decode cL_law 17 = .ok (.newarray .long, 2) := by decide +kernel
theorem dL_law_19 : decode cL_law 19 = .ok (.astore_n 3, 1) := by decide +kernel
theorem dL_law_20 : decode cL_law 20 = .ok (.iconst 1, 1) := by decide +kernel
theorem dL_law_21 : decode cL_law 21 = .ok (.newarray .double, 2) := by decide +kernel
theorem dL_law_23 : decode cL_law 23 = .ok (.astore 4, 2) := by decide +kernel
theorem dL_law_25 : decode cL_law 25 = .ok (.iconst 0, 1) := by decide +kernel
theorem dL_law_26 : decode cL_law 26 = .ok (.istore 5, 2) := by decide +kernel
theorem dL_law_28 : decode cL_law 28 = .ok (.iload 5, 2) := by decide +kernel
theorem dL_law_30 : decode cL_law 30 = .ok (.aload_n 0, 1) := by decide +kernel
theorem dL_law_31 : decode cL_law 31 = .ok (.arraylength, 1) := by decide +kernel
theorem dL_law_32 : decode cL_law 32 = .ok (.iconst 5, 1) := by decide +kernel
theorem dL_law_33 : decode cL_law 33 = .ok (.isub, 1) := by decide +kernel
theorem dL_law_34 : decode cL_law 34 = .ok (.if_icmp .gt 2265, 3) := by decide +kernel
theorem dL_law_37 : decode cL_law 37 = .ok (.aload_n 0, 1) := by decide +kernel
theorem dL_law_38 : decode cL_law 38 = .ok (.iload 5, 2) := by decide +kernel
theorem dL_law_40 : decode cL_law 40 = .ok (.iaload, 1) := by decide +kernel
theorem dL_law_41 : decode cL_law 41 = .ok (.bipush 63, 2) := by decide +kernel
theorem dL_law_43 : decode cL_law 43 = .ok (.iand, 1) := by decide +kernel
theorem dL_law_44 : decode cL_law 44 = .ok (.tableswitch 2249 0 35 #[160, 228, 284, 297, 389, 480, 543, 599, 655, 711, 769, 825, 881, 949, 1005, 1061, 1117, 1180, 1224, 1292, 1348, 1404, 1460, 1528, 1596, 1652, 1708, 1792, 1855, 1911, 1967, 2023, 2079, 2157, 2222, 2236], 160) := by decide +kernel
theorem dL_law_204 : decode cL_law 204 = .ok (.aload_n 1, 1) := by decide +kernel
theorem dL_law_205 : decode cL_law 205 = .ok (.aload_n 0, 1) := by decide +kernel
theorem dL_law_206 : decode cL_law 206 = .ok (.iload 5, 2) := by decide +kernel
theorem dL_law_208 : decode cL_law 208 = .ok (.iconst 1, 1) := by decide +kernel
theorem dL_law_209 : decode cL_law 209 = .ok (.iadd, 1) := by decide +kernel
theorem dL_law_210 : decode cL_law 210 = .ok (.iaload, 1) := by decide +kernel
theorem dL_law_211 : decode cL_law 211 = .ok (.aload_n 0, 1) := by decide +kernel
theorem dL_law_212 : decode cL_law 212 = .ok (.iload 5, 2) := by decide +kernel
theorem dL_law_214 : decode cL_law 214 = .ok (.iconst 2, 1) := by decide +kernel
theorem dL_law_215 : decode cL_law 215 = .ok (.iadd, 1) := by decide +kernel
theorem dL_law_216 : decode cL_law 216 = .ok (.iaload, 1) := by decide +kernel
theorem dL_law_217 : decode cL_law 217 = .ok (.aload_n 3, 1) := by decide +kernel
theorem dL_law_218 : decode cL_law 218 = .ok (.invokestatic 135, 3) := by decide +kernel
theorem dL_law_221 : decode cL_law 221 = .ok (.istore 6, 2) := by decide +kernel
theorem dL_law_223 : decode cL_law 223 = .ok (.aload_n 2, 1) := by decide +kernel
theorem dL_law_224 : decode cL_law 224 = .ok (.aload_n 0, 1) := by decide +kernel
theorem dL_law_225 : decode cL_law 225 = .ok (.iload 5, 2) := by decide +kernel
theorem dL_law_227 : decode cL_law 227 = .ok (.iconst 1, 1) := by decide +kernel
theorem dL_law_228 : decode cL_law 228 = .ok (.iadd, 1) := by decide +kernel
theorem dL_law_229 : decode cL_law 229 = .ok (.iaload, 1) := by decide +kernel
theorem dL_law_230 : decode cL_law 230 = .ok (.aload_n 0, 1) := by decide +kernel
theorem dL_law_231 : decode cL_law 231 = .ok (.iload 5, 2) := by decide +kernel
theorem dL_law_233 : decode cL_law 233 = .ok (.iconst 2, 1) := by decide +kernel
theorem dL_law_234 : decode cL_law 234 = .ok (.iadd, 1) := by decide +kernel
theorem dL_law_235 : decode cL_law 235 = .ok (.iaload, 1) := by decide +kernel
theorem dL_law_236 : decode cL_law 236 = .ok (.invokevirtual 140, 3) := by decide +kernel
theorem dL_law_239 : decode cL_law 239 = .ok (.istore 7, 2) := by decide +kernel
theorem dL_law_241 : decode cL_law 241 = .ok (.aload_n 2, 1) := by decide +kernel
theorem dL_law_242 : decode cL_law 242 = .ok (.invokevirtual 141, 3) := by decide +kernel
theorem dL_law_245 : decode cL_law 245 = .ok (.iload 6, 2) := by decide +kernel
theorem dL_law_247 : decode cL_law 247 = .ok (.if_icmp .eq 5, 3) := by decide +kernel
theorem dL_law_250 : decode cL_law 250 = .ok (.iconst 0, 1) := by decide +kernel
theorem dL_law_251 : decode cL_law 251 = .ok (.ireturn, 1) := by decide +kernel
theorem dL_law_252 : decode cL_law 252 = .ok (.iload 6, 2) := by decide +kernel
theorem dL_law_254 : decode cL_law 254 = .ok (.ifCond .ne 15, 3) := by decide +kernel
theorem dL_law_257 : decode cL_law 257 = .ok (.aload_n 3, 1) := by decide +kernel
theorem dL_law_258 : decode cL_law 258 = .ok (.iconst 0, 1) := by decide +kernel
theorem dL_law_259 : decode cL_law 259 = .ok (.laload, 1) := by decide +kernel
theorem dL_law_260 : decode cL_law 260 = .ok (.iload 7, 2) := by decide +kernel
theorem dL_law_262 : decode cL_law 262 = .ok (.i2l, 1) := by decide +kernel
theorem dL_law_263 : decode cL_law 263 = .ok (.lcmp, 1) := by decide +kernel
theorem dL_law_264 : decode cL_law 264 = .ok (.ifCond .eq 5, 3) := by decide +kernel
theorem dL_law_267 : decode cL_law 267 = .ok (.iconst 0, 1) := by decide +kernel
theorem dL_law_268 : decode cL_law 268 = .ok (.ireturn, 1) := by decide +kernel
theorem dL_law_269 : decode cL_law 269 = .ok (.goto 2024, 3) := by decide +kernel
theorem dL_law_272 : decode cL_law 272 = .ok (.aload_n 1, 1) := by decide +kernel
theorem dL_law_273 : decode cL_law 273 = .ok (.aload_n 0, 1) := by decide +kernel
theorem dL_law_274 : decode cL_law 274 = .ok (.iload 5, 2) := by decide +kernel
theorem dL_law_276 : decode cL_law 276 = .ok (.iconst 1, 1) := by decide +kernel
theorem dL_law_277 : decode cL_law 277 = .ok (.iadd, 1) := by decide +kernel
theorem dL_law_278 : decode cL_law 278 = .ok (.iaload, 1) := by decide +kernel
theorem dL_law_279 : decode cL_law 279 = .ok (.aload_n 3, 1) := by decide +kernel
theorem dL_law_280 : decode cL_law 280 = .ok (.invokestatic 144, 3) := by decide +kernel
theorem dL_law_283 : decode cL_law 283 = .ok (.istore 6, 2) := by decide +kernel
theorem dL_law_285 : decode cL_law 285 = .ok (.aload_n 2, 1) := by decide +kernel
theorem dL_law_286 : decode cL_law 286 = .ok (.aload_n 0, 1) := by decide +kernel
theorem dL_law_287 : decode cL_law 287 = .ok (.iload 5, 2) := by decide +kernel
theorem dL_law_289 : decode cL_law 289 = .ok (.iconst 1, 1) := by decide +kernel
theorem dL_law_290 : decode cL_law 290 = .ok (.iadd, 1) := by decide +kernel
theorem dL_law_291 : decode cL_law 291 = .ok (.iaload, 1) := by decide +kernel
theorem dL_law_292 : decode cL_law 292 = .ok (.invokevirtual 147, 3) := by decide +kernel
theorem dL_law_295 : decode cL_law 295 = .ok (.istore 7, 2) := by decide +kernel
theorem dL_law_297 : decode cL_law 297 = .ok (.aload_n 2, 1) := by decide +kernel
theorem dL_law_298 : decode cL_law 298 = .ok (.invokevirtual 141, 3) := by decide +kernel
theorem dL_law_301 : decode cL_law 301 = .ok (.iload 6, 2) := by decide +kernel
theorem dL_law_303 : decode cL_law 303 = .ok (.if_icmp .eq 5, 3) := by decide +kernel
theorem dL_law_306 : decode cL_law 306 = .ok (.iconst 0, 1) := by decide +kernel
theorem dL_law_307 : decode cL_law 307 = .ok (.ireturn, 1) := by decide +kernel
theorem dL_law_308 : decode cL_law 308 = .ok (.iload 6, 2) := by decide +kernel
theorem dL_law_310 : decode cL_law 310 = .ok (.ifCond .ne 15, 3) := by decide +kernel
theorem dL_law_313 : decode cL_law 313 = .ok (.aload_n 3, 1) := by decide +kernel
theorem dL_law_314 : decode cL_law 314 = .ok (.iconst 0, 1) := by decide +kernel
theorem dL_law_315 : decode cL_law 315 = .ok (.laload, 1) := by decide +kernel
theorem dL_law_316 : decode cL_law 316 = .ok (.iload 7, 2) := by decide +kernel
theorem dL_law_318 : decode cL_law 318 = .ok (.i2l, 1) := by decide +kernel
theorem dL_law_319 : decode cL_law 319 = .ok (.lcmp, 1) := by decide +kernel
theorem dL_law_320 : decode cL_law 320 = .ok (.ifCond .eq 5, 3) := by decide +kernel
theorem dL_law_323 : decode cL_law 323 = .ok (.iconst 0, 1) := by decide +kernel
theorem dL_law_324 : decode cL_law 324 = .ok (.ireturn, 1) := by decide +kernel
theorem dL_law_325 : decode cL_law 325 = .ok (.goto 1968, 3) := by decide +kernel
theorem dL_law_328 : decode cL_law 328 = .ok (.aload_n 1, 1) := by decide +kernel
theorem dL_law_329 : decode cL_law 329 = .ok (.invokevirtual 148, 3) := by decide +kernel
theorem dL_law_332 : decode cL_law 332 = .ok (.aload_n 2, 1) := by decide +kernel
theorem dL_law_333 : decode cL_law 333 = .ok (.invokevirtual 151, 3) := by decide +kernel
theorem dL_law_336 : decode cL_law 336 = .ok (.if_icmp .eq 1957, 3) := by decide +kernel
theorem dL_law_339 : decode cL_law 339 = .ok (.iconst 0, 1) := by decide +kernel
theorem dL_law_340 : decode cL_law 340 = .ok (.ireturn, 1) := by decide +kernel
theorem dL_law_341 : decode cL_law 341 = .ok (.aload_n 1, 1) := by decide +kernel
theorem dL_law_342 : decode cL_law 342 = .ok (.aload_n 0, 1) := by decide +kernel
theorem dL_law_343 : decode cL_law 343 = .ok (.iload 5, 2) := by decide +kernel
theorem dL_law_345 : decode cL_law 345 = .ok (.iconst 1, 1) := by decide +kernel
theorem dL_law_346 : decode cL_law 346 = .ok (.iadd, 1) := by decide +kernel
theorem dL_law_347 : decode cL_law 347 = .ok (.iaload, 1) := by decide +kernel
theorem dL_law_348 : decode cL_law 348 = .ok (.aload_n 0, 1) := by decide +kernel
theorem dL_law_349 : decode cL_law 349 = .ok (.iload 5, 2) := by decide +kernel
theorem dL_law_351 : decode cL_law 351 = .ok (.iconst 2, 1) := by decide +kernel
theorem dL_law_352 : decode cL_law 352 = .ok (.iadd, 1) := by decide +kernel
theorem dL_law_353 : decode cL_law 353 = .ok (.iaload, 1) := by decide +kernel
theorem dL_law_354 : decode cL_law 354 = .ok (.aload_n 0, 1) := by decide +kernel
theorem dL_law_355 : decode cL_law 355 = .ok (.iload 5, 2) := by decide +kernel
theorem dL_law_357 : decode cL_law 357 = .ok (.iconst 3, 1) := by decide +kernel
theorem dL_law_358 : decode cL_law 358 = .ok (.iadd, 1) := by decide +kernel
theorem dL_law_359 : decode cL_law 359 = .ok (.iaload, 1) := by decide +kernel
theorem dL_law_360 : decode cL_law 360 = .ok (.aload_n 0, 1) := by decide +kernel
theorem dL_law_361 : decode cL_law 361 = .ok (.iload 5, 2) := by decide +kernel
theorem dL_law_363 : decode cL_law 363 = .ok (.iconst 4, 1) := by decide +kernel
theorem dL_law_364 : decode cL_law 364 = .ok (.iadd, 1) := by decide +kernel
theorem dL_law_365 : decode cL_law 365 = .ok (.iaload, 1) := by decide +kernel
theorem dL_law_366 : decode cL_law 366 = .ok (.aload_n 3, 1) := by decide +kernel
theorem dL_law_367 : decode cL_law 367 = .ok (.invokestatic 152, 3) := by decide +kernel
theorem dL_law_370 : decode cL_law 370 = .ok (.istore 6, 2) := by decide +kernel
theorem dL_law_372 : decode cL_law 372 = .ok (.aload_n 2, 1) := by decide +kernel
theorem dL_law_373 : decode cL_law 373 = .ok (.aload_n 0, 1) := by decide +kernel
theorem dL_law_374 : decode cL_law 374 = .ok (.iload 5, 2) := by decide +kernel
theorem dL_law_376 : decode cL_law 376 = .ok (.iconst 1, 1) := by decide +kernel
theorem dL_law_377 : decode cL_law 377 = .ok (.iadd, 1) := by decide +kernel
theorem dL_law_378 : decode cL_law 378 = .ok (.iaload, 1) := by decide +kernel
theorem dL_law_379 : decode cL_law 379 = .ok (.aload_n 0, 1) := by decide +kernel
theorem dL_law_380 : decode cL_law 380 = .ok (.iload 5, 2) := by decide +kernel
theorem dL_law_382 : decode cL_law 382 = .ok (.iconst 2, 1) := by decide +kernel
theorem dL_law_383 : decode cL_law 383 = .ok (.iadd, 1) := by decide +kernel
theorem dL_law_384 : decode cL_law 384 = .ok (.iaload, 1) := by decide +kernel
theorem dL_law_385 : decode cL_law 385 = .ok (.aload_n 0, 1) := by decide +kernel
theorem dL_law_386 : decode cL_law 386 = .ok (.iload 5, 2) := by decide +kernel
theorem dL_law_388 : decode cL_law 388 = .ok (.iconst 3, 1) := by decide +kernel
theorem dL_law_389 : decode cL_law 389 = .ok (.iadd, 1) := by decide +kernel
theorem dL_law_390 : decode cL_law 390 = .ok (.iaload, 1) := by decide +kernel
theorem dL_law_391 : decode cL_law 391 = .ok (.aload_n 0, 1) := by decide +kernel
theorem dL_law_392 : decode cL_law 392 = .ok (.iload 5, 2) := by decide +kernel
theorem dL_law_394 : decode cL_law 394 = .ok (.iconst 4, 1) := by decide +kernel
theorem dL_law_395 : decode cL_law 395 = .ok (.iadd, 1) := by decide +kernel
theorem dL_law_396 : decode cL_law 396 = .ok (.iaload, 1) := by decide +kernel
theorem dL_law_397 : decode cL_law 397 = .ok (.invokevirtual 155, 3) := by decide +kernel
theorem dL_law_400 : decode cL_law 400 = .ok (.istore 7, 2) := by decide +kernel
theorem dL_law_402 : decode cL_law 402 = .ok (.aload_n 2, 1) := by decide +kernel
theorem dL_law_403 : decode cL_law 403 = .ok (.invokevirtual 141, 3) := by decide +kernel
theorem dL_law_406 : decode cL_law 406 = .ok (.iload 6, 2) := by decide +kernel
theorem dL_law_408 : decode cL_law 408 = .ok (.if_icmp .eq 5, 3) := by decide +kernel
theorem dL_law_411 : decode cL_law 411 = .ok (.iconst 0, 1) := by decide +kernel
theorem dL_law_412 : decode cL_law 412 = .ok (.ireturn, 1) := by decide +kernel
theorem dL_law_413 : decode cL_law 413 = .ok (.iload 6, 2) := by decide +kernel
theorem dL_law_415 : decode cL_law 415 = .ok (.ifCond .ne 15, 3) := by decide +kernel
theorem dL_law_418 : decode cL_law 418 = .ok (.aload_n 3, 1) := by decide +kernel
theorem dL_law_419 : decode cL_law 419 = .ok (.iconst 0, 1) := by decide +kernel
theorem dL_law_420 : decode cL_law 420 = .ok (.laload, 1) := by decide +kernel
theorem dL_law_421 : decode cL_law 421 = .ok (.iload 7, 2) := by decide +kernel
theorem dL_law_423 : decode cL_law 423 = .ok (.i2l, 1) := by decide +kernel
theorem dL_law_424 : decode cL_law 424 = .ok (.lcmp, 1) := by decide +kernel
theorem dL_law_425 : decode cL_law 425 = .ok (.ifCond .eq 5, 3) := by decide +kernel
theorem dL_law_428 : decode cL_law 428 = .ok (.iconst 0, 1) := by decide +kernel
theorem dL_law_429 : decode cL_law 429 = .ok (.ireturn, 1) := by decide +kernel
theorem dL_law_430 : decode cL_law 430 = .ok (.goto 1863, 3) := by decide +kernel
theorem dL_law_433 : decode cL_law 433 = .ok (.aload_n 1, 1) := by decide +kernel
theorem dL_law_434 : decode cL_law 434 = .ok (.aload_n 0, 1) := by decide +kernel
theorem dL_law_435 : decode cL_law 435 = .ok (.iload 5, 2) := by decide +kernel
theorem dL_law_437 : decode cL_law 437 = .ok (.iconst 1, 1) := by decide +kernel
theorem dL_law_438 : decode cL_law 438 = .ok (.iadd, 1) := by decide +kernel
theorem dL_law_439 : decode cL_law 439 = .ok (.iaload, 1) := by decide +kernel
theorem dL_law_440 : decode cL_law 440 = .ok (.aload_n 0, 1) := by decide +kernel
theorem dL_law_441 : decode cL_law 441 = .ok (.iload 5, 2) := by decide +kernel
theorem dL_law_443 : decode cL_law 443 = .ok (.iconst 2, 1) := by decide +kernel
theorem dL_law_444 : decode cL_law 444 = .ok (.iadd, 1) := by decide +kernel
theorem dL_law_445 : decode cL_law 445 = .ok (.iaload, 1) := by decide +kernel
theorem dL_law_446 : decode cL_law 446 = .ok (.ifCond .eq 7, 3) := by decide +kernel
theorem dL_law_449 : decode cL_law 449 = .ok (.iconst 1, 1) := by decide +kernel
theorem dL_law_450 : decode cL_law 450 = .ok (.goto 4, 3) := by decide +kernel
theorem dL_law_453 : decode cL_law 453 = .ok (.iconst 0, 1) := by decide +kernel
theorem dL_law_454 : decode cL_law 454 = .ok (.aload_n 3, 1) := by decide +kernel
theorem dL_law_455 : decode cL_law 455 = .ok (.invokestatic 156, 3) := by decide +kernel
theorem dL_law_458 : decode cL_law 458 = .ok (.istore 6, 2) := by decide +kernel
theorem dL_law_460 : decode cL_law 460 = .ok (.aload_n 2, 1) := by decide +kernel
theorem dL_law_461 : decode cL_law 461 = .ok (.aload_n 0, 1) := by decide +kernel
theorem dL_law_462 : decode cL_law 462 = .ok (.iload 5, 2) := by decide +kernel
theorem dL_law_464 : decode cL_law 464 = .ok (.iconst 1, 1) := by decide +kernel
theorem dL_law_465 : decode cL_law 465 = .ok (.iadd, 1) := by decide +kernel
theorem dL_law_466 : decode cL_law 466 = .ok (.iaload, 1) := by decide +kernel
theorem dL_law_467 : decode cL_law 467 = .ok (.aload_n 0, 1) := by decide +kernel
theorem dL_law_468 : decode cL_law 468 = .ok (.iload 5, 2) := by decide +kernel
theorem dL_law_470 : decode cL_law 470 = .ok (.iconst 2, 1) := by decide +kernel
theorem dL_law_471 : decode cL_law 471 = .ok (.iadd, 1) := by decide +kernel
theorem dL_law_472 : decode cL_law 472 = .ok (.iaload, 1) := by decide +kernel
theorem dL_law_473 : decode cL_law 473 = .ok (.ifCond .eq 7, 3) := by decide +kernel
theorem dL_law_476 : decode cL_law 476 = .ok (.iconst 1, 1) := by decide +kernel
theorem dL_law_477 : decode cL_law 477 = .ok (.goto 4, 3) := by decide +kernel
theorem dL_law_480 : decode cL_law 480 = .ok (.iconst 0, 1) := by decide +kernel
theorem dL_law_481 : decode cL_law 481 = .ok (.invokevirtual 159, 3) := by decide +kernel
theorem dL_law_484 : decode cL_law 484 = .ok (.istore 7, 2) := by decide +kernel
theorem dL_law_486 : decode cL_law 486 = .ok (.aload_n 2, 1) := by decide +kernel
theorem dL_law_487 : decode cL_law 487 = .ok (.invokevirtual 141, 3) := by decide +kernel
theorem dL_law_490 : decode cL_law 490 = .ok (.iload 6, 2) := by decide +kernel
theorem dL_law_492 : decode cL_law 492 = .ok (.if_icmp .eq 5, 3) := by decide +kernel
theorem dL_law_495 : decode cL_law 495 = .ok (.iconst 0, 1) := by decide +kernel
theorem dL_law_496 : decode cL_law 496 = .ok (.ireturn, 1) := by decide +kernel
theorem dL_law_497 : decode cL_law 497 = .ok (.iload 6, 2) := by decide +kernel
theorem dL_law_499 : decode cL_law 499 = .ok (.ifCond .ne 22, 3) := by decide +kernel
theorem dL_law_502 : decode cL_law 502 = .ok (.aload_n 3, 1) := by decide +kernel
theorem dL_law_503 : decode cL_law 503 = .ok (.iconst 0, 1) := by decide +kernel
theorem dL_law_504 : decode cL_law 504 = .ok (.laload, 1) := by decide +kernel
theorem dL_law_505 : decode cL_law 505 = .ok (.iload 7, 2) := by decide +kernel
theorem dL_law_507 : decode cL_law 507 = .ok (.ifCond .eq 7, 3) := by decide +kernel
theorem dL_law_510 : decode cL_law 510 = .ok (.lconst 1, 1) := by decide +kernel
theorem dL_law_511 : decode cL_law 511 = .ok (.goto 4, 3) := by decide +kernel
theorem dL_law_514 : decode cL_law 514 = .ok (.lconst 0, 1) := by decide +kernel
theorem dL_law_515 : decode cL_law 515 = .ok (.lcmp, 1) := by decide +kernel
theorem dL_law_516 : decode cL_law 516 = .ok (.ifCond .eq 5, 3) := by decide +kernel
theorem dL_law_519 : decode cL_law 519 = .ok (.iconst 0, 1) := by decide +kernel
theorem dL_law_520 : decode cL_law 520 = .ok (.ireturn, 1) := by decide +kernel
theorem dL_law_521 : decode cL_law 521 = .ok (.goto 1772, 3) := by decide +kernel
theorem dL_law_524 : decode cL_law 524 = .ok (.aload_n 1, 1) := by decide +kernel
theorem dL_law_525 : decode cL_law 525 = .ok (.aload_n 0, 1) := by decide +kernel
theorem dL_law_526 : decode cL_law 526 = .ok (.iload 5, 2) := by decide +kernel
theorem dL_law_528 : decode cL_law 528 = .ok (.iconst 1, 1) := by decide +kernel
theorem dL_law_529 : decode cL_law 529 = .ok (.iadd, 1) := by decide +kernel
theorem dL_law_530 : decode cL_law 530 = .ok (.iaload, 1) := by decide +kernel
theorem dL_law_531 : decode cL_law 531 = .ok (.aload_n 3, 1) := by decide +kernel
theorem dL_law_532 : decode cL_law 532 = .ok (.invokestatic 160, 3) := by decide +kernel
theorem dL_law_535 : decode cL_law 535 = .ok (.istore 6, 2) := by decide +kernel
theorem dL_law_537 : decode cL_law 537 = .ok (.aload_n 2, 1) := by decide +kernel
theorem dL_law_538 : decode cL_law 538 = .ok (.aload_n 0, 1) := by decide +kernel
theorem dL_law_539 : decode cL_law 539 = .ok (.iload 5, 2) := by decide +kernel
theorem dL_law_541 : decode cL_law 541 = .ok (.iconst 1, 1) := by decide +kernel
theorem dL_law_542 : decode cL_law 542 = .ok (.iadd, 1) := by decide +kernel
theorem dL_law_543 : decode cL_law 543 = .ok (.iaload, 1) := by decide +kernel
theorem dL_law_544 : decode cL_law 544 = .ok (.invokevirtual 162, 3) := by decide +kernel
theorem dL_law_547 : decode cL_law 547 = .ok (.istore 7, 2) := by decide +kernel
theorem dL_law_549 : decode cL_law 549 = .ok (.aload_n 2, 1) := by decide +kernel
theorem dL_law_550 : decode cL_law 550 = .ok (.invokevirtual 141, 3) := by decide +kernel
theorem dL_law_553 : decode cL_law 553 = .ok (.iload 6, 2) := by decide +kernel
theorem dL_law_555 : decode cL_law 555 = .ok (.if_icmp .eq 5, 3) := by decide +kernel
theorem dL_law_558 : decode cL_law 558 = .ok (.iconst 0, 1) := by decide +kernel
theorem dL_law_559 : decode cL_law 559 = .ok (.ireturn, 1) := by decide +kernel
theorem dL_law_560 : decode cL_law 560 = .ok (.iload 6, 2) := by decide +kernel
theorem dL_law_562 : decode cL_law 562 = .ok (.ifCond .ne 22, 3) := by decide +kernel
theorem dL_law_565 : decode cL_law 565 = .ok (.aload_n 3, 1) := by decide +kernel
theorem dL_law_566 : decode cL_law 566 = .ok (.iconst 0, 1) := by decide +kernel
theorem dL_law_567 : decode cL_law 567 = .ok (.laload, 1) := by decide +kernel
theorem dL_law_568 : decode cL_law 568 = .ok (.iload 7, 2) := by decide +kernel
theorem dL_law_570 : decode cL_law 570 = .ok (.ifCond .eq 7, 3) := by decide +kernel
theorem dL_law_573 : decode cL_law 573 = .ok (.lconst 1, 1) := by decide +kernel
theorem dL_law_574 : decode cL_law 574 = .ok (.goto 4, 3) := by decide +kernel
theorem dL_law_577 : decode cL_law 577 = .ok (.lconst 0, 1) := by decide +kernel
theorem dL_law_578 : decode cL_law 578 = .ok (.lcmp, 1) := by decide +kernel
theorem dL_law_579 : decode cL_law 579 = .ok (.ifCond .eq 5, 3) := by decide +kernel
theorem dL_law_582 : decode cL_law 582 = .ok (.iconst 0, 1) := by decide +kernel
theorem dL_law_583 : decode cL_law 583 = .ok (.ireturn, 1) := by decide +kernel
theorem dL_law_584 : decode cL_law 584 = .ok (.goto 1709, 3) := by decide +kernel
theorem dL_law_587 : decode cL_law 587 = .ok (.aload_n 1, 1) := by decide +kernel
theorem dL_law_588 : decode cL_law 588 = .ok (.aload_n 0, 1) := by decide +kernel
theorem dL_law_589 : decode cL_law 589 = .ok (.iload 5, 2) := by decide +kernel
theorem dL_law_591 : decode cL_law 591 = .ok (.iconst 1, 1) := by decide +kernel
theorem dL_law_592 : decode cL_law 592 = .ok (.iadd, 1) := by decide +kernel
theorem dL_law_593 : decode cL_law 593 = .ok (.iaload, 1) := by decide +kernel
theorem dL_law_594 : decode cL_law 594 = .ok (.aload_n 3, 1) := by decide +kernel
theorem dL_law_595 : decode cL_law 595 = .ok (.invokestatic 163, 3) := by decide +kernel
theorem dL_law_598 : decode cL_law 598 = .ok (.istore 6, 2) := by decide +kernel
theorem dL_law_600 : decode cL_law 600 = .ok (.aload_n 2, 1) := by decide +kernel
theorem dL_law_601 : decode cL_law 601 = .ok (.aload_n 0, 1) := by decide +kernel
theorem dL_law_602 : decode cL_law 602 = .ok (.iload 5, 2) := by decide +kernel
theorem dL_law_604 : decode cL_law 604 = .ok (.iconst 1, 1) := by decide +kernel
theorem dL_law_605 : decode cL_law 605 = .ok (.iadd, 1) := by decide +kernel
theorem dL_law_606 : decode cL_law 606 = .ok (.iaload, 1) := by decide +kernel
theorem dL_law_607 : decode cL_law 607 = .ok (.invokevirtual 165, 3) := by decide +kernel
theorem dL_law_610 : decode cL_law 610 = .ok (.istore 7, 2) := by decide +kernel
theorem dL_law_612 : decode cL_law 612 = .ok (.aload_n 2, 1) := by decide +kernel
theorem dL_law_613 : decode cL_law 613 = .ok (.invokevirtual 141, 3) := by decide +kernel
theorem dL_law_616 : decode cL_law 616 = .ok (.iload 6, 2) := by decide +kernel
theorem dL_law_618 : decode cL_law 618 = .ok (.if_icmp .eq 5, 3) := by decide +kernel
theorem dL_law_621 : decode cL_law 621 = .ok (.iconst 0, 1) := by decide +kernel
theorem dL_law_622 : decode cL_law 622 = .ok (.ireturn, 1) := by decide +kernel
theorem dL_law_623 : decode cL_law 623 = .ok (.iload 6, 2) := by decide +kernel
theorem dL_law_625 : decode cL_law 625 = .ok (.ifCond .ne 15, 3) := by decide +kernel
theorem dL_law_628 : decode cL_law 628 = .ok (.aload_n 3, 1) := by decide +kernel
theorem dL_law_629 : decode cL_law 629 = .ok (.iconst 0, 1) := by decide +kernel
theorem dL_law_630 : decode cL_law 630 = .ok (.laload, 1) := by decide +kernel
theorem dL_law_631 : decode cL_law 631 = .ok (.iload 7, 2) := by decide +kernel
theorem dL_law_633 : decode cL_law 633 = .ok (.i2l, 1) := by decide +kernel
theorem dL_law_634 : decode cL_law 634 = .ok (.lcmp, 1) := by decide +kernel
theorem dL_law_635 : decode cL_law 635 = .ok (.ifCond .eq 5, 3) := by decide +kernel
theorem dL_law_638 : decode cL_law 638 = .ok (.iconst 0, 1) := by decide +kernel
theorem dL_law_639 : decode cL_law 639 = .ok (.ireturn, 1) := by decide +kernel
theorem dL_law_640 : decode cL_law 640 = .ok (.goto 1653, 3) := by decide +kernel
theorem dL_law_643 : decode cL_law 643 = .ok (.aload_n 1, 1) := by decide +kernel
theorem dL_law_644 : decode cL_law 644 = .ok (.aload_n 0, 1) := by decide +kernel
theorem dL_law_645 : decode cL_law 645 = .ok (.iload 5, 2) := by decide +kernel
theorem dL_law_647 : decode cL_law 647 = .ok (.iconst 1, 1) := by decide +kernel
theorem dL_law_648 : decode cL_law 648 = .ok (.iadd, 1) := by decide +kernel
theorem dL_law_649 : decode cL_law 649 = .ok (.iaload, 1) := by decide +kernel
theorem dL_law_650 : decode cL_law 650 = .ok (.aload_n 3, 1) := by decide +kernel
theorem dL_law_651 : decode cL_law 651 = .ok (.invokestatic 166, 3) := by decide +kernel
theorem dL_law_654 : decode cL_law 654 = .ok (.istore 6, 2) := by decide +kernel
theorem dL_law_656 : decode cL_law 656 = .ok (.aload_n 2, 1) := by decide +kernel
theorem dL_law_657 : decode cL_law 657 = .ok (.aload_n 0, 1) := by decide +kernel
theorem dL_law_658 : decode cL_law 658 = .ok (.iload 5, 2) := by decide +kernel
theorem dL_law_660 : decode cL_law 660 = .ok (.iconst 1, 1) := by decide +kernel
theorem dL_law_661 : decode cL_law 661 = .ok (.iadd, 1) := by decide +kernel
theorem dL_law_662 : decode cL_law 662 = .ok (.iaload, 1) := by decide +kernel
theorem dL_law_663 : decode cL_law 663 = .ok (.invokevirtual 168, 3) := by decide +kernel
theorem dL_law_666 : decode cL_law 666 = .ok (.istore 7, 2) := by decide +kernel
theorem dL_law_668 : decode cL_law 668 = .ok (.aload_n 2, 1) := by decide +kernel
theorem dL_law_669 : decode cL_law 669 = .ok (.invokevirtual 141, 3) := by decide +kernel
theorem dL_law_672 : decode cL_law 672 = .ok (.iload 6, 2) := by decide +kernel
theorem dL_law_674 : decode cL_law 674 = .ok (.if_icmp .eq 5, 3) := by decide +kernel
theorem dL_law_677 : decode cL_law 677 = .ok (.iconst 0, 1) := by decide +kernel
theorem dL_law_678 : decode cL_law 678 = .ok (.ireturn, 1) := by decide +kernel
theorem dL_law_679 : decode cL_law 679 = .ok (.iload 6, 2) := by decide +kernel
theorem dL_law_681 : decode cL_law 681 = .ok (.ifCond .ne 15, 3) := by decide +kernel
theorem dL_law_684 : decode cL_law 684 = .ok (.aload_n 3, 1) := by decide +kernel
theorem dL_law_685 : decode cL_law 685 = .ok (.iconst 0, 1) := by decide +kernel
theorem dL_law_686 : decode cL_law 686 = .ok (.laload, 1) := by decide +kernel
theorem dL_law_687 : decode cL_law 687 = .ok (.iload 7, 2) := by decide +kernel
theorem dL_law_689 : decode cL_law 689 = .ok (.i2l, 1) := by decide +kernel
theorem dL_law_690 : decode cL_law 690 = .ok (.lcmp, 1) := by decide +kernel
theorem dL_law_691 : decode cL_law 691 = .ok (.ifCond .eq 5, 3) := by decide +kernel
theorem dL_law_694 : decode cL_law 694 = .ok (.iconst 0, 1) := by decide +kernel
theorem dL_law_695 : decode cL_law 695 = .ok (.ireturn, 1) := by decide +kernel
theorem dL_law_696 : decode cL_law 696 = .ok (.goto 1597, 3) := by decide +kernel
theorem dL_law_699 : decode cL_law 699 = .ok (.aload_n 1, 1) := by decide +kernel
theorem dL_law_700 : decode cL_law 700 = .ok (.aload_n 0, 1) := by decide +kernel
theorem dL_law_701 : decode cL_law 701 = .ok (.iload 5, 2) := by decide +kernel
theorem dL_law_703 : decode cL_law 703 = .ok (.iconst 1, 1) := by decide +kernel
theorem dL_law_704 : decode cL_law 704 = .ok (.iadd, 1) := by decide +kernel
theorem dL_law_705 : decode cL_law 705 = .ok (.iaload, 1) := by decide +kernel
theorem dL_law_706 : decode cL_law 706 = .ok (.aload_n 3, 1) := by decide +kernel
theorem dL_law_707 : decode cL_law 707 = .ok (.invokestatic 169, 3) := by decide +kernel
theorem dL_law_710 : decode cL_law 710 = .ok (.istore 6, 2) := by decide +kernel
theorem dL_law_712 : decode cL_law 712 = .ok (.aload_n 2, 1) := by decide +kernel
theorem dL_law_713 : decode cL_law 713 = .ok (.aload_n 0, 1) := by decide +kernel
theorem dL_law_714 : decode cL_law 714 = .ok (.iload 5, 2) := by decide +kernel
theorem dL_law_716 : decode cL_law 716 = .ok (.iconst 1, 1) := by decide +kernel
theorem dL_law_717 : decode cL_law 717 = .ok (.iadd, 1) := by decide +kernel
theorem dL_law_718 : decode cL_law 718 = .ok (.iaload, 1) := by decide +kernel
theorem dL_law_719 : decode cL_law 719 = .ok (.invokevirtual 171, 3) := by decide +kernel
theorem dL_law_722 : decode cL_law 722 = .ok (.istore 7, 2) := by decide +kernel
theorem dL_law_724 : decode cL_law 724 = .ok (.aload_n 2, 1) := by decide +kernel
theorem dL_law_725 : decode cL_law 725 = .ok (.invokevirtual 141, 3) := by decide +kernel
theorem dL_law_728 : decode cL_law 728 = .ok (.iload 6, 2) := by decide +kernel
theorem dL_law_730 : decode cL_law 730 = .ok (.if_icmp .eq 5, 3) := by decide +kernel
theorem dL_law_733 : decode cL_law 733 = .ok (.iconst 0, 1) := by decide +kernel
theorem dL_law_734 : decode cL_law 734 = .ok (.ireturn, 1) := by decide +kernel
theorem dL_law_735 : decode cL_law 735 = .ok (.iload 6, 2) := by decide +kernel
theorem dL_law_737 : decode cL_law 737 = .ok (.ifCond .ne 15, 3) := by decide +kernel
theorem dL_law_740 : decode cL_law 740 = .ok (.aload_n 3, 1) := by decide +kernel
theorem dL_law_741 : decode cL_law 741 = .ok (.iconst 0, 1) := by decide +kernel
theorem dL_law_742 : decode cL_law 742 = .ok (.laload, 1) := by decide +kernel
theorem dL_law_743 : decode cL_law 743 = .ok (.iload 7, 2) := by decide +kernel
theorem dL_law_745 : decode cL_law 745 = .ok (.i2l, 1) := by decide +kernel
theorem dL_law_746 : decode cL_law 746 = .ok (.lcmp, 1) := by decide +kernel
theorem dL_law_747 : decode cL_law 747 = .ok (.ifCond .eq 5, 3) := by decide +kernel
theorem dL_law_750 : decode cL_law 750 = .ok (.iconst 0, 1) := by decide +kernel
theorem dL_law_751 : decode cL_law 751 = .ok (.ireturn, 1) := by decide +kernel
theorem dL_law_752 : decode cL_law 752 = .ok (.goto 1541, 3) := by decide +kernel
theorem dL_law_755 : decode cL_law 755 = .ok (.aload_n 1, 1) := by decide +kernel
theorem dL_law_756 : decode cL_law 756 = .ok (.aload_n 0, 1) := by decide +kernel
theorem dL_law_757 : decode cL_law 757 = .ok (.iload 5, 2) := by decide +kernel
theorem dL_law_759 : decode cL_law 759 = .ok (.iconst 1, 1) := by decide +kernel
theorem dL_law_760 : decode cL_law 760 = .ok (.iadd, 1) := by decide +kernel
theorem dL_law_761 : decode cL_law 761 = .ok (.iaload, 1) := by decide +kernel
theorem dL_law_762 : decode cL_law 762 = .ok (.i2c, 1) := by decide +kernel
theorem dL_law_763 : decode cL_law 763 = .ok (.aload_n 3, 1) := by decide +kernel
theorem dL_law_764 : decode cL_law 764 = .ok (.invokestatic 172, 3) := by decide +kernel
theorem dL_law_767 : decode cL_law 767 = .ok (.istore 6, 2) := by decide +kernel
theorem dL_law_769 : decode cL_law 769 = .ok (.aload_n 2, 1) := by decide +kernel
theorem dL_law_770 : decode cL_law 770 = .ok (.aload_n 0, 1) := by decide +kernel
theorem dL_law_771 : decode cL_law 771 = .ok (.iload 5, 2) := by decide +kernel
theorem dL_law_773 : decode cL_law 773 = .ok (.iconst 1, 1) := by decide +kernel
theorem dL_law_774 : decode cL_law 774 = .ok (.iadd, 1) := by decide +kernel
theorem dL_law_775 : decode cL_law 775 = .ok (.iaload, 1) := by decide +kernel
theorem dL_law_776 : decode cL_law 776 = .ok (.i2c, 1) := by decide +kernel
theorem dL_law_777 : decode cL_law 777 = .ok (.invokevirtual 175, 3) := by decide +kernel
theorem dL_law_780 : decode cL_law 780 = .ok (.istore 7, 2) := by decide +kernel
theorem dL_law_782 : decode cL_law 782 = .ok (.aload_n 2, 1) := by decide +kernel
theorem dL_law_783 : decode cL_law 783 = .ok (.invokevirtual 141, 3) := by decide +kernel
theorem dL_law_786 : decode cL_law 786 = .ok (.iload 6, 2) := by decide +kernel
theorem dL_law_788 : decode cL_law 788 = .ok (.if_icmp .eq 5, 3) := by decide +kernel
theorem dL_law_791 : decode cL_law 791 = .ok (.iconst 0, 1) := by decide +kernel
theorem dL_law_792 : decode cL_law 792 = .ok (.ireturn, 1) := by decide +kernel
theorem dL_law_793 : decode cL_law 793 = .ok (.iload 6, 2) := by decide +kernel
theorem dL_law_795 : decode cL_law 795 = .ok (.ifCond .ne 15, 3) := by decide +kernel
theorem dL_law_798 : decode cL_law 798 = .ok (.aload_n 3, 1) := by decide +kernel
theorem dL_law_799 : decode cL_law 799 = .ok (.iconst 0, 1) := by decide +kernel
theorem dL_law_800 : decode cL_law 800 = .ok (.laload, 1) := by decide +kernel
theorem dL_law_801 : decode cL_law 801 = .ok (.iload 7, 2) := by decide +kernel
theorem dL_law_803 : decode cL_law 803 = .ok (.i2l, 1) := by decide +kernel
theorem dL_law_804 : decode cL_law 804 = .ok (.lcmp, 1) := by decide +kernel
theorem dL_law_805 : decode cL_law 805 = .ok (.ifCond .eq 5, 3) := by decide +kernel
theorem dL_law_808 : decode cL_law 808 = .ok (.iconst 0, 1) := by decide +kernel
theorem dL_law_809 : decode cL_law 809 = .ok (.ireturn, 1) := by decide +kernel
theorem dL_law_810 : decode cL_law 810 = .ok (.goto 1483, 3) := by decide +kernel
theorem dL_law_813 : decode cL_law 813 = .ok (.aload_n 1, 1) := by decide +kernel
theorem dL_law_814 : decode cL_law 814 = .ok (.aload_n 0, 1) := by decide +kernel
theorem dL_law_815 : decode cL_law 815 = .ok (.iload 5, 2) := by decide +kernel
theorem dL_law_817 : decode cL_law 817 = .ok (.iconst 1, 1) := by decide +kernel
theorem dL_law_818 : decode cL_law 818 = .ok (.iadd, 1) := by decide +kernel
theorem dL_law_819 : decode cL_law 819 = .ok (.iaload, 1) := by decide +kernel
theorem dL_law_820 : decode cL_law 820 = .ok (.aload_n 3, 1) := by decide +kernel
theorem dL_law_821 : decode cL_law 821 = .ok (.invokestatic 176, 3) := by decide +kernel
theorem dL_law_824 : decode cL_law 824 = .ok (.istore 6, 2) := by decide +kernel
theorem dL_law_826 : decode cL_law 826 = .ok (.aload_n 2, 1) := by decide +kernel
theorem dL_law_827 : decode cL_law 827 = .ok (.aload_n 0, 1) := by decide +kernel
theorem dL_law_828 : decode cL_law 828 = .ok (.iload 5, 2) := by decide +kernel
theorem dL_law_830 : decode cL_law 830 = .ok (.iconst 1, 1) := by decide +kernel
theorem dL_law_831 : decode cL_law 831 = .ok (.iadd, 1) := by decide +kernel
theorem dL_law_832 : decode cL_law 832 = .ok (.iaload, 1) := by decide +kernel
theorem dL_law_833 : decode cL_law 833 = .ok (.invokevirtual 178, 3) := by decide +kernel
theorem dL_law_836 : decode cL_law 836 = .ok (.istore 7, 2) := by decide +kernel
theorem dL_law_838 : decode cL_law 838 = .ok (.aload_n 2, 1) := by decide +kernel
theorem dL_law_839 : decode cL_law 839 = .ok (.invokevirtual 141, 3) := by decide +kernel
theorem dL_law_842 : decode cL_law 842 = .ok (.iload 6, 2) := by decide +kernel
theorem dL_law_844 : decode cL_law 844 = .ok (.if_icmp .eq 5, 3) := by decide +kernel
theorem dL_law_847 : decode cL_law 847 = .ok (.iconst 0, 1) := by decide +kernel
theorem dL_law_848 : decode cL_law 848 = .ok (.ireturn, 1) := by decide +kernel
theorem dL_law_849 : decode cL_law 849 = .ok (.iload 6, 2) := by decide +kernel
theorem dL_law_851 : decode cL_law 851 = .ok (.ifCond .ne 15, 3) := by decide +kernel
theorem dL_law_854 : decode cL_law 854 = .ok (.aload_n 3, 1) := by decide +kernel
theorem dL_law_855 : decode cL_law 855 = .ok (.iconst 0, 1) := by decide +kernel
theorem dL_law_856 : decode cL_law 856 = .ok (.laload, 1) := by decide +kernel
theorem dL_law_857 : decode cL_law 857 = .ok (.iload 7, 2) := by decide +kernel
theorem dL_law_859 : decode cL_law 859 = .ok (.i2l, 1) := by decide +kernel
theorem dL_law_860 : decode cL_law 860 = .ok (.lcmp, 1) := by decide +kernel
theorem dL_law_861 : decode cL_law 861 = .ok (.ifCond .eq 5, 3) := by decide +kernel
theorem dL_law_864 : decode cL_law 864 = .ok (.iconst 0, 1) := by decide +kernel
theorem dL_law_865 : decode cL_law 865 = .ok (.ireturn, 1) := by decide +kernel
theorem dL_law_866 : decode cL_law 866 = .ok (.goto 1427, 3) := by decide +kernel
theorem dL_law_869 : decode cL_law 869 = .ok (.aload_n 1, 1) := by decide +kernel
theorem dL_law_870 : decode cL_law 870 = .ok (.aload_n 0, 1) := by decide +kernel
theorem dL_law_871 : decode cL_law 871 = .ok (.iload 5, 2) := by decide +kernel
theorem dL_law_873 : decode cL_law 873 = .ok (.iconst 1, 1) := by decide +kernel
theorem dL_law_874 : decode cL_law 874 = .ok (.iadd, 1) := by decide +kernel
theorem dL_law_875 : decode cL_law 875 = .ok (.iaload, 1) := by decide +kernel
theorem dL_law_876 : decode cL_law 876 = .ok (.aload_n 3, 1) := by decide +kernel
theorem dL_law_877 : decode cL_law 877 = .ok (.invokestatic 179, 3) := by decide +kernel
theorem dL_law_880 : decode cL_law 880 = .ok (.istore 6, 2) := by decide +kernel
theorem dL_law_882 : decode cL_law 882 = .ok (.aload_n 2, 1) := by decide +kernel
theorem dL_law_883 : decode cL_law 883 = .ok (.aload_n 0, 1) := by decide +kernel
theorem dL_law_884 : decode cL_law 884 = .ok (.iload 5, 2) := by decide +kernel
theorem dL_law_886 : decode cL_law 886 = .ok (.iconst 1, 1) := by decide +kernel
theorem dL_law_887 : decode cL_law 887 = .ok (.iadd, 1) := by decide +kernel
theorem dL_law_888 : decode cL_law 888 = .ok (.iaload, 1) := by decide +kernel
theorem dL_law_889 : decode cL_law 889 = .ok (.invokevirtual 181, 3) := by decide +kernel
theorem dL_law_892 : decode cL_law 892 = .ok (.istore 7, 2) := by decide +kernel
theorem dL_law_894 : decode cL_law 894 = .ok (.aload_n 2, 1) := by decide +kernel
theorem dL_law_895 : decode cL_law 895 = .ok (.invokevirtual 141, 3) := by decide +kernel
theorem dL_law_898 : decode cL_law 898 = .ok (.iload 6, 2) := by decide +kernel
theorem dL_law_900 : decode cL_law 900 = .ok (.if_icmp .eq 5, 3) := by decide +kernel
theorem dL_law_903 : decode cL_law 903 = .ok (.iconst 0, 1) := by decide +kernel
theorem dL_law_904 : decode cL_law 904 = .ok (.ireturn, 1) := by decide +kernel
theorem dL_law_905 : decode cL_law 905 = .ok (.iload 6, 2) := by decide +kernel
theorem dL_law_907 : decode cL_law 907 = .ok (.ifCond .ne 15, 3) := by decide +kernel
theorem dL_law_910 : decode cL_law 910 = .ok (.aload_n 3, 1) := by decide +kernel
theorem dL_law_911 : decode cL_law 911 = .ok (.iconst 0, 1) := by decide +kernel
theorem dL_law_912 : decode cL_law 912 = .ok (.laload, 1) := by decide +kernel
theorem dL_law_913 : decode cL_law 913 = .ok (.iload 7, 2) := by decide +kernel
theorem dL_law_915 : decode cL_law 915 = .ok (.i2l, 1) := by decide +kernel
theorem dL_law_916 : decode cL_law 916 = .ok (.lcmp, 1) := by decide +kernel
theorem dL_law_917 : decode cL_law 917 = .ok (.ifCond .eq 5, 3) := by decide +kernel
theorem dL_law_920 : decode cL_law 920 = .ok (.iconst 0, 1) := by decide +kernel
theorem dL_law_921 : decode cL_law 921 = .ok (.ireturn, 1) := by decide +kernel
theorem dL_law_922 : decode cL_law 922 = .ok (.goto 1371, 3) := by decide +kernel
theorem dL_law_925 : decode cL_law 925 = .ok (.aload_n 1, 1) := by decide +kernel
theorem dL_law_926 : decode cL_law 926 = .ok (.aload_n 0, 1) := by decide +kernel
theorem dL_law_927 : decode cL_law 927 = .ok (.iload 5, 2) := by decide +kernel
theorem dL_law_929 : decode cL_law 929 = .ok (.iconst 1, 1) := by decide +kernel
theorem dL_law_930 : decode cL_law 930 = .ok (.iadd, 1) := by decide +kernel
theorem dL_law_931 : decode cL_law 931 = .ok (.iaload, 1) := by decide +kernel
theorem dL_law_932 : decode cL_law 932 = .ok (.aload_n 0, 1) := by decide +kernel
theorem dL_law_933 : decode cL_law 933 = .ok (.iload 5, 2) := by decide +kernel
theorem dL_law_935 : decode cL_law 935 = .ok (.iconst 2, 1) := by decide +kernel
theorem dL_law_936 : decode cL_law 936 = .ok (.iadd, 1) := by decide +kernel
theorem dL_law_937 : decode cL_law 937 = .ok (.iaload, 1) := by decide +kernel
theorem dL_law_938 : decode cL_law 938 = .ok (.aload_n 3, 1) := by decide +kernel
theorem dL_law_939 : decode cL_law 939 = .ok (.invokestatic 182, 3) := by decide +kernel
theorem dL_law_942 : decode cL_law 942 = .ok (.istore 6, 2) := by decide +kernel
theorem dL_law_944 : decode cL_law 944 = .ok (.aload_n 2, 1) := by decide +kernel
theorem dL_law_945 : decode cL_law 945 = .ok (.aload_n 0, 1) := by decide +kernel
theorem dL_law_946 : decode cL_law 946 = .ok (.iload 5, 2) := by decide +kernel
theorem dL_law_948 : decode cL_law 948 = .ok (.iconst 1, 1) := by decide +kernel
theorem dL_law_949 : decode cL_law 949 = .ok (.iadd, 1) := by decide +kernel
theorem dL_law_950 : decode cL_law 950 = .ok (.iaload, 1) := by decide +kernel
theorem dL_law_951 : decode cL_law 951 = .ok (.aload_n 0, 1) := by decide +kernel
theorem dL_law_952 : decode cL_law 952 = .ok (.iload 5, 2) := by decide +kernel
theorem dL_law_954 : decode cL_law 954 = .ok (.iconst 2, 1) := by decide +kernel
theorem dL_law_955 : decode cL_law 955 = .ok (.iadd, 1) := by decide +kernel
theorem dL_law_956 : decode cL_law 956 = .ok (.iaload, 1) := by decide +kernel
theorem dL_law_957 : decode cL_law 957 = .ok (.invokevirtual 184, 3) := by decide +kernel
theorem dL_law_960 : decode cL_law 960 = .ok (.istore 7, 2) := by decide +kernel
theorem dL_law_962 : decode cL_law 962 = .ok (.aload_n 2, 1) := by decide +kernel
theorem dL_law_963 : decode cL_law 963 = .ok (.invokevirtual 141, 3) := by decide +kernel
theorem dL_law_966 : decode cL_law 966 = .ok (.iload 6, 2) := by decide +kernel
theorem dL_law_968 : decode cL_law 968 = .ok (.if_icmp .eq 5, 3) := by decide +kernel
theorem dL_law_971 : decode cL_law 971 = .ok (.iconst 0, 1) := by decide +kernel
theorem dL_law_972 : decode cL_law 972 = .ok (.ireturn, 1) := by decide +kernel
theorem dL_law_973 : decode cL_law 973 = .ok (.iload 6, 2) := by decide +kernel
theorem dL_law_975 : decode cL_law 975 = .ok (.ifCond .ne 15, 3) := by decide +kernel
theorem dL_law_978 : decode cL_law 978 = .ok (.aload_n 3, 1) := by decide +kernel
theorem dL_law_979 : decode cL_law 979 = .ok (.iconst 0, 1) := by decide +kernel
theorem dL_law_980 : decode cL_law 980 = .ok (.laload, 1) := by decide +kernel
theorem dL_law_981 : decode cL_law 981 = .ok (.iload 7, 2) := by decide +kernel
theorem dL_law_983 : decode cL_law 983 = .ok (.i2l, 1) := by decide +kernel
theorem dL_law_984 : decode cL_law 984 = .ok (.lcmp, 1) := by decide +kernel
theorem dL_law_985 : decode cL_law 985 = .ok (.ifCond .eq 5, 3) := by decide +kernel
theorem dL_law_988 : decode cL_law 988 = .ok (.iconst 0, 1) := by decide +kernel
theorem dL_law_989 : decode cL_law 989 = .ok (.ireturn, 1) := by decide +kernel
theorem dL_law_990 : decode cL_law 990 = .ok (.goto 1303, 3) := by decide +kernel
theorem dL_law_993 : decode cL_law 993 = .ok (.aload_n 1, 1) := by decide +kernel
theorem dL_law_994 : decode cL_law 994 = .ok (.aload_n 0, 1) := by decide +kernel
theorem dL_law_995 : decode cL_law 995 = .ok (.iload 5, 2) := by decide +kernel
theorem dL_law_997 : decode cL_law 997 = .ok (.iconst 1, 1) := by decide +kernel
theorem dL_law_998 : decode cL_law 998 = .ok (.iadd, 1) := by decide +kernel
theorem dL_law_999 : decode cL_law 999 = .ok (.iaload, 1) := by decide +kernel
theorem dL_law_1000 : decode cL_law 1000 = .ok (.aload_n 3, 1) := by decide +kernel
theorem dL_law_1001 : decode cL_law 1001 = .ok (.invokestatic 185, 3) := by decide +kernel
theorem dL_law_1004 : decode cL_law 1004 = .ok (.istore 6, 2) := by decide +kernel
theorem dL_law_1006 : decode cL_law 1006 = .ok (.aload_n 2, 1) := by decide +kernel
theorem dL_law_1007 : decode cL_law 1007 = .ok (.aload_n 0, 1) := by decide +kernel
theorem dL_law_1008 : decode cL_law 1008 = .ok (.iload 5, 2) := by decide +kernel
theorem dL_law_1010 : decode cL_law 1010 = .ok (.iconst 1, 1) := by decide +kernel
theorem dL_law_1011 : decode cL_law 1011 = .ok (.iadd, 1) := by decide +kernel
theorem dL_law_1012 : decode cL_law 1012 = .ok (.iaload, 1) := by decide +kernel
theorem dL_law_1013 : decode cL_law 1013 = .ok (.invokevirtual 187, 3) := by decide +kernel
theorem dL_law_1016 : decode cL_law 1016 = .ok (.istore 7, 2) := by decide +kernel
theorem dL_law_1018 : decode cL_law 1018 = .ok (.aload_n 2, 1) := by decide +kernel
theorem dL_law_1019 : decode cL_law 1019 = .ok (.invokevirtual 141, 3) := by decide +kernel
theorem dL_law_1022 : decode cL_law 1022 = .ok (.iload 6, 2) := by decide +kernel
theorem dL_law_1024 : decode cL_law 1024 = .ok (.if_icmp .eq 5, 3) := by decide +kernel
theorem dL_law_1027 : decode cL_law 1027 = .ok (.iconst 0, 1) := by decide +kernel
theorem dL_law_1028 : decode cL_law 1028 = .ok (.ireturn, 1) := by decide +kernel
theorem dL_law_1029 : decode cL_law 1029 = .ok (.iload 6, 2) := by decide +kernel
theorem dL_law_1031 : decode cL_law 1031 = .ok (.ifCond .ne 15, 3) := by decide +kernel
theorem dL_law_1034 : decode cL_law 1034 = .ok (.aload_n 3, 1) := by decide +kernel
theorem dL_law_1035 : decode cL_law 1035 = .ok (.iconst 0, 1) := by decide +kernel
theorem dL_law_1036 : decode cL_law 1036 = .ok (.laload, 1) := by decide +kernel
theorem dL_law_1037 : decode cL_law 1037 = .ok (.iload 7, 2) := by decide +kernel
theorem dL_law_1039 : decode cL_law 1039 = .ok (.i2l, 1) := by decide +kernel
theorem dL_law_1040 : decode cL_law 1040 = .ok (.lcmp, 1) := by decide +kernel
theorem dL_law_1041 : decode cL_law 1041 = .ok (.ifCond .eq 5, 3) := by decide +kernel
theorem dL_law_1044 : decode cL_law 1044 = .ok (.iconst 0, 1) := by decide +kernel
theorem dL_law_1045 : decode cL_law 1045 = .ok (.ireturn, 1) := by decide +kernel
theorem dL_law_1046 : decode cL_law 1046 = .ok (.goto 1247, 3) := by decide +kernel
theorem dL_law_1049 : decode cL_law 1049 = .ok (.aload_n 1, 1) := by decide +kernel
theorem dL_law_1050 : decode cL_law 1050 = .ok (.aload_n 0, 1) := by decide +kernel
theorem dL_law_1051 : decode cL_law 1051 = .ok (.iload 5, 2) := by decide +kernel
theorem dL_law_1053 : decode cL_law 1053 = .ok (.iconst 1, 1) := by decide +kernel
theorem dL_law_1054 : decode cL_law 1054 = .ok (.iadd, 1) := by decide +kernel
theorem dL_law_1055 : decode cL_law 1055 = .ok (.iaload, 1) := by decide +kernel
theorem dL_law_1056 : decode cL_law 1056 = .ok (.aload_n 3, 1) := by decide +kernel
theorem dL_law_1057 : decode cL_law 1057 = .ok (.invokestatic 188, 3) := by decide +kernel
theorem dL_law_1060 : decode cL_law 1060 = .ok (.istore 6, 2) := by decide +kernel
theorem dL_law_1062 : decode cL_law 1062 = .ok (.aload_n 2, 1) := by decide +kernel
theorem dL_law_1063 : decode cL_law 1063 = .ok (.aload_n 0, 1) := by decide +kernel
theorem dL_law_1064 : decode cL_law 1064 = .ok (.iload 5, 2) := by decide +kernel
theorem dL_law_1066 : decode cL_law 1066 = .ok (.iconst 1, 1) := by decide +kernel
theorem dL_law_1067 : decode cL_law 1067 = .ok (.iadd, 1) := by decide +kernel
theorem dL_law_1068 : decode cL_law 1068 = .ok (.iaload, 1) := by decide +kernel
theorem dL_law_1069 : decode cL_law 1069 = .ok (.invokevirtual 190, 3) := by decide +kernel
theorem dL_law_1072 : decode cL_law 1072 = .ok (.istore 7, 2) := by decide +kernel
theorem dL_law_1074 : decode cL_law 1074 = .ok (.aload_n 2, 1) := by decide +kernel
theorem dL_law_1075 : decode cL_law 1075 = .ok (.invokevirtual 141, 3) := by decide +kernel
theorem dL_law_1078 : decode cL_law 1078 = .ok (.iload 6, 2) := by decide +kernel
theorem dL_law_1080 : decode cL_law 1080 = .ok (.if_icmp .eq 5, 3) := by decide +kernel
theorem dL_law_1083 : decode cL_law 1083 = .ok (.iconst 0, 1) := by decide +kernel
theorem dL_law_1084 : decode cL_law 1084 = .ok (.ireturn, 1) := by decide +kernel
theorem dL_law_1085 : decode cL_law 1085 = .ok (.iload 6, 2) := by decide +kernel
theorem dL_law_1087 : decode cL_law 1087 = .ok (.ifCond .ne 15, 3) := by decide +kernel
theorem dL_law_1090 : decode cL_law 1090 = .ok (.aload_n 3, 1) := by decide +kernel
theorem dL_law_1091 : decode cL_law 1091 = .ok (.iconst 0, 1) := by decide +kernel
theorem dL_law_1092 : decode cL_law 1092 = .ok (.laload, 1) := by decide +kernel
theorem dL_law_1093 : decode cL_law 1093 = .ok (.iload 7, 2) := by decide +kernel
theorem dL_law_1095 : decode cL_law 1095 = .ok (.i2l, 1) := by decide +kernel
theorem dL_law_1096 : decode cL_law 1096 = .ok (.lcmp, 1) := by decide +kernel
theorem dL_law_1097 : decode cL_law 1097 = .ok (.ifCond .eq 5, 3) := by decide +kernel
theorem dL_law_1100 : decode cL_law 1100 = .ok (.iconst 0, 1) := by decide +kernel
theorem dL_law_1101 : decode cL_law 1101 = .ok (.ireturn, 1) := by decide +kernel
theorem dL_law_1102 : decode cL_law 1102 = .ok (.goto 1191, 3) := by decide +kernel
theorem dL_law_1105 : decode cL_law 1105 = .ok (.aload_n 1, 1) := by decide +kernel
theorem dL_law_1106 : decode cL_law 1106 = .ok (.aload_n 0, 1) := by decide +kernel
theorem dL_law_1107 : decode cL_law 1107 = .ok (.iload 5, 2) := by decide +kernel
theorem dL_law_1109 : decode cL_law 1109 = .ok (.iconst 1, 1) := by decide +kernel
theorem dL_law_1110 : decode cL_law 1110 = .ok (.iadd, 1) := by decide +kernel
theorem dL_law_1111 : decode cL_law 1111 = .ok (.iaload, 1) := by decide +kernel
theorem dL_law_1112 : decode cL_law 1112 = .ok (.aload_n 3, 1) := by decide +kernel
theorem dL_law_1113 : decode cL_law 1113 = .ok (.invokestatic 191, 3) := by decide +kernel
theorem dL_law_1116 : decode cL_law 1116 = .ok (.istore 6, 2) := by decide +kernel
theorem dL_law_1118 : decode cL_law 1118 = .ok (.aload_n 2, 1) := by decide +kernel
theorem dL_law_1119 : decode cL_law 1119 = .ok (.aload_n 0, 1) := by decide +kernel
theorem dL_law_1120 : decode cL_law 1120 = .ok (.iload 5, 2) := by decide +kernel
theorem dL_law_1122 : decode cL_law 1122 = .ok (.iconst 1, 1) := by decide +kernel
theorem dL_law_1123 : decode cL_law 1123 = .ok (.iadd, 1) := by decide +kernel
theorem dL_law_1124 : decode cL_law 1124 = .ok (.iaload, 1) := by decide +kernel
theorem dL_law_1125 : decode cL_law 1125 = .ok (.invokevirtual 193, 3) := by decide +kernel
theorem dL_law_1128 : decode cL_law 1128 = .ok (.istore 7, 2) := by decide +kernel
theorem dL_law_1130 : decode cL_law 1130 = .ok (.aload_n 2, 1) := by decide +kernel
theorem dL_law_1131 : decode cL_law 1131 = .ok (.invokevirtual 141, 3) := by decide +kernel
theorem dL_law_1134 : decode cL_law 1134 = .ok (.iload 6, 2) := by decide +kernel
theorem dL_law_1136 : decode cL_law 1136 = .ok (.if_icmp .eq 5, 3) := by decide +kernel
theorem dL_law_1139 : decode cL_law 1139 = .ok (.iconst 0, 1) := by decide +kernel
theorem dL_law_1140 : decode cL_law 1140 = .ok (.ireturn, 1) := by decide +kernel
theorem dL_law_1141 : decode cL_law 1141 = .ok (.iload 6, 2) := by decide +kernel
theorem dL_law_1143 : decode cL_law 1143 = .ok (.ifCond .ne 15, 3) := by decide +kernel
theorem dL_law_1146 : decode cL_law 1146 = .ok (.aload_n 3, 1) := by decide +kernel
theorem dL_law_1147 : decode cL_law 1147 = .ok (.iconst 0, 1) := by decide +kernel
theorem dL_law_1148 : decode cL_law 1148 = .ok (.laload, 1) := by decide +kernel
theorem dL_law_1149 : decode cL_law 1149 = .ok (.iload 7, 2) := by decide +kernel
theorem dL_law_1151 : decode cL_law 1151 = .ok (.i2l, 1) := by decide +kernel
theorem dL_law_1152 : decode cL_law 1152 = .ok (.lcmp, 1) := by decide +kernel
theorem dL_law_1153 : decode cL_law 1153 = .ok (.ifCond .eq 5, 3) := by decide +kernel
theorem dL_law_1156 : decode cL_law 1156 = .ok (.iconst 0, 1) := by decide +kernel
theorem dL_law_1157 : decode cL_law 1157 = .ok (.ireturn, 1) := by decide +kernel
theorem dL_law_1158 : decode cL_law 1158 = .ok (.goto 1135, 3) := by decide +kernel
theorem dL_law_1161 : decode cL_law 1161 = .ok (.aload_n 1, 1) := by decide +kernel
theorem dL_law_1162 : decode cL_law 1162 = .ok (.aload_n 0, 1) := by decide +kernel
theorem dL_law_1163 : decode cL_law 1163 = .ok (.iload 5, 2) := by decide +kernel
theorem dL_law_1165 : decode cL_law 1165 = .ok (.iconst 1, 1) := by decide +kernel
theorem dL_law_1166 : decode cL_law 1166 = .ok (.iadd, 1) := by decide +kernel
theorem dL_law_1167 : decode cL_law 1167 = .ok (.iaload, 1) := by decide +kernel
theorem dL_law_1168 : decode cL_law 1168 = .ok (.aload_n 3, 1) := by decide +kernel
theorem dL_law_1169 : decode cL_law 1169 = .ok (.invokestatic 194, 3) := by decide +kernel
theorem dL_law_1172 : decode cL_law 1172 = .ok (.istore 6, 2) := by decide +kernel
theorem dL_law_1174 : decode cL_law 1174 = .ok (.aload_n 2, 1) := by decide +kernel
theorem dL_law_1175 : decode cL_law 1175 = .ok (.aload_n 0, 1) := by decide +kernel
theorem dL_law_1176 : decode cL_law 1176 = .ok (.iload 5, 2) := by decide +kernel
theorem dL_law_1178 : decode cL_law 1178 = .ok (.iconst 1, 1) := by decide +kernel
theorem dL_law_1179 : decode cL_law 1179 = .ok (.iadd, 1) := by decide +kernel
theorem dL_law_1180 : decode cL_law 1180 = .ok (.iaload, 1) := by decide +kernel
theorem dL_law_1181 : decode cL_law 1181 = .ok (.invokevirtual 196, 3) := by decide +kernel
theorem dL_law_1184 : decode cL_law 1184 = .ok (.istore 7, 2) := by decide +kernel
theorem dL_law_1186 : decode cL_law 1186 = .ok (.aload_n 2, 1) := by decide +kernel
theorem dL_law_1187 : decode cL_law 1187 = .ok (.invokevirtual 141, 3) := by decide +kernel
theorem dL_law_1190 : decode cL_law 1190 = .ok (.iload 6, 2) := by decide +kernel
theorem dL_law_1192 : decode cL_law 1192 = .ok (.if_icmp .eq 5, 3) := by decide +kernel
theorem dL_law_1195 : decode cL_law 1195 = .ok (.iconst 0, 1) := by decide +kernel
theorem dL_law_1196 : decode cL_law 1196 = .ok (.ireturn, 1) := by decide +kernel
theorem dL_law_1197 : decode cL_law 1197 = .ok (.iload 6, 2) := by decide +kernel
theorem dL_law_1199 : decode cL_law 1199 = .ok (.ifCond .ne 22, 3) := by decide +kernel
theorem dL_law_1202 : decode cL_law 1202 = .ok (.aload_n 3, 1) := by decide +kernel
theorem dL_law_1203 : decode cL_law 1203 = .ok (.iconst 0, 1) := by decide +kernel
theorem dL_law_1204 : decode cL_law 1204 = .ok (.laload, 1) := by decide +kernel
theorem dL_law_1205 : decode cL_law 1205 = .ok (.iload 7, 2) := by decide +kernel
theorem dL_law_1207 : decode cL_law 1207 = .ok (.ifCond .eq 7, 3) := by decide +kernel
theorem dL_law_1210 : decode cL_law 1210 = .ok (.lconst 1, 1) := by decide +kernel
theorem dL_law_1211 : decode cL_law 1211 = .ok (.goto 4, 3) := by decide +kernel
theorem dL_law_1214 : decode cL_law 1214 = .ok (.lconst 0, 1) := by decide +kernel
theorem dL_law_1215 : decode cL_law 1215 = .ok (.lcmp, 1) := by decide +kernel
theorem dL_law_1216 : decode cL_law 1216 = .ok (.ifCond .eq 5, 3) := by decide +kernel
theorem dL_law_1219 : decode cL_law 1219 = .ok (.iconst 0, 1) := by decide +kernel
theorem dL_law_1220 : decode cL_law 1220 = .ok (.ireturn, 1) := by decide +kernel
theorem dL_law_1221 : decode cL_law 1221 = .ok (.goto 1072, 3) := by decide +kernel
theorem dL_law_1224 : decode cL_law 1224 = .ok (.aload_n 1, 1) := by decide +kernel
theorem dL_law_1225 : decode cL_law 1225 = .ok (.aload_n 3, 1) := by decide +kernel
theorem dL_law_1226 : decode cL_law 1226 = .ok (.invokestatic 197, 3) := by decide +kernel
theorem dL_law_1229 : decode cL_law 1229 = .ok (.istore 6, 2) := by decide +kernel
theorem dL_law_1231 : decode cL_law 1231 = .ok (.aload_n 2, 1) := by decide +kernel
theorem dL_law_1232 : decode cL_law 1232 = .ok (.invokevirtual 200, 3) := by decide +kernel
theorem dL_law_1235 : decode cL_law 1235 = .ok (.istore 7, 2) := by decide +kernel
theorem dL_law_1237 : decode cL_law 1237 = .ok (.aload_n 2, 1) := by decide +kernel
theorem dL_law_1238 : decode cL_law 1238 = .ok (.invokevirtual 141, 3) := by decide +kernel
theorem dL_law_1241 : decode cL_law 1241 = .ok (.iload 6, 2) := by decide +kernel
theorem dL_law_1243 : decode cL_law 1243 = .ok (.if_icmp .eq 5, 3) := by decide +kernel
theorem dL_law_1246 : decode cL_law 1246 = .ok (.iconst 0, 1) := by decide +kernel
theorem dL_law_1247 : decode cL_law 1247 = .ok (.ireturn, 1) := by decide +kernel
theorem dL_law_1248 : decode cL_law 1248 = .ok (.iload 6, 2) := by decide +kernel
theorem dL_law_1250 : decode cL_law 1250 = .ok (.ifCond .ne 15, 3) := by decide +kernel
theorem dL_law_1253 : decode cL_law 1253 = .ok (.aload_n 3, 1) := by decide +kernel
theorem dL_law_1254 : decode cL_law 1254 = .ok (.iconst 0, 1) := by decide +kernel
theorem dL_law_1255 : decode cL_law 1255 = .ok (.laload, 1) := by decide +kernel
theorem dL_law_1256 : decode cL_law 1256 = .ok (.iload 7, 2) := by decide +kernel
theorem dL_law_1258 : decode cL_law 1258 = .ok (.i2l, 1) := by decide +kernel
theorem dL_law_1259 : decode cL_law 1259 = .ok (.lcmp, 1) := by decide +kernel
theorem dL_law_1260 : decode cL_law 1260 = .ok (.ifCond .eq 5, 3) := by decide +kernel
theorem dL_law_1263 : decode cL_law 1263 = .ok (.iconst 0, 1) := by decide +kernel
theorem dL_law_1264 : decode cL_law 1264 = .ok (.ireturn, 1) := by decide +kernel
theorem dL_law_1265 : decode cL_law 1265 = .ok (.goto 1028, 3) := by decide +kernel
theorem dL_law_1268 : decode cL_law 1268 = .ok (.aload_n 1, 1) := by decide +kernel
theorem dL_law_1269 : decode cL_law 1269 = .ok (.aload_n 0, 1) := by decide +kernel
theorem dL_law_1270 : decode cL_law 1270 = .ok (.iload 5, 2) := by decide +kernel
theorem dL_law_1272 : decode cL_law 1272 = .ok (.iconst 1, 1) := by decide +kernel
theorem dL_law_1273 : decode cL_law 1273 = .ok (.iadd, 1) := by decide +kernel
theorem dL_law_1274 : decode cL_law 1274 = .ok (.iaload, 1) := by decide +kernel
theorem dL_law_1275 : decode cL_law 1275 = .ok (.aload_n 0, 1) := by decide +kernel
theorem dL_law_1276 : decode cL_law 1276 = .ok (.iload 5, 2) := by decide +kernel
theorem dL_law_1278 : decode cL_law 1278 = .ok (.iconst 2, 1) := by decide +kernel
theorem dL_law_1279 : decode cL_law 1279 = .ok (.iadd, 1) := by decide +kernel
theorem dL_law_1280 : decode cL_law 1280 = .ok (.iaload, 1) := by decide +kernel
theorem dL_law_1281 : decode cL_law 1281 = .ok (.aload_n 3, 1) := by decide +kernel
theorem dL_law_1282 : decode cL_law 1282 = .ok (.invokestatic 201, 3) := by decide +kernel
theorem dL_law_1285 : decode cL_law 1285 = .ok (.istore 6, 2) := by decide +kernel
theorem dL_law_1287 : decode cL_law 1287 = .ok (.aload_n 2, 1) := by decide +kernel
theorem dL_law_1288 : decode cL_law 1288 = .ok (.aload_n 0, 1) := by decide +kernel
theorem dL_law_1289 : decode cL_law 1289 = .ok (.iload 5, 2) := by decide +kernel
theorem dL_law_1291 : decode cL_law 1291 = .ok (.iconst 1, 1) := by decide +kernel
theorem dL_law_1292 : decode cL_law 1292 = .ok (.iadd, 1) := by decide +kernel
theorem dL_law_1293 : decode cL_law 1293 = .ok (.iaload, 1) := by decide +kernel
theorem dL_law_1294 : decode cL_law 1294 = .ok (.aload_n 0, 1) := by decide +kernel
theorem dL_law_1295 : decode cL_law 1295 = .ok (.iload 5, 2) := by decide +kernel
theorem dL_law_1297 : decode cL_law 1297 = .ok (.iconst 2, 1) := by decide +kernel
theorem dL_law_1298 : decode cL_law 1298 = .ok (.iadd, 1) := by decide +kernel
theorem dL_law_1299 : decode cL_law 1299 = .ok (.iaload, 1) := by decide +kernel
theorem dL_law_1300 : decode cL_law 1300 = .ok (.invokevirtual 203, 3) := by decide +kernel
theorem dL_law_1303 : decode cL_law 1303 = .ok (.istore 7, 2) := by decide +kernel
theorem dL_law_1305 : decode cL_law 1305 = .ok (.aload_n 2, 1) := by decide +kernel
theorem dL_law_1306 : decode cL_law 1306 = .ok (.invokevirtual 141, 3) := by decide +kernel
theorem dL_law_1309 : decode cL_law 1309 = .ok (.iload 6, 2) := by decide +kernel
theorem dL_law_1311 : decode cL_law 1311 = .ok (.if_icmp .eq 5, 3) := by decide +kernel
theorem dL_law_1314 : decode cL_law 1314 = .ok (.iconst 0, 1) := by decide +kernel
theorem dL_law_1315 : decode cL_law 1315 = .ok (.ireturn, 1) := by decide +kernel
theorem dL_law_1316 : decode cL_law 1316 = .ok (.iload 6, 2) := by decide +kernel
theorem dL_law_1318 : decode cL_law 1318 = .ok (.ifCond .ne 15, 3) := by decide +kernel
theorem dL_law_1321 : decode cL_law 1321 = .ok (.aload_n 3, 1) := by decide +kernel
theorem dL_law_1322 : decode cL_law 1322 = .ok (.iconst 0, 1) := by decide +kernel
theorem dL_law_1323 : decode cL_law 1323 = .ok (.laload, 1) := by decide +kernel
theorem dL_law_1324 : decode cL_law 1324 = .ok (.iload 7, 2) := by decide +kernel
theorem dL_law_1326 : decode cL_law 1326 = .ok (.i2l, 1) := by decide +kernel
theorem dL_law_1327 : decode cL_law 1327 = .ok (.lcmp, 1) := by decide +kernel
theorem dL_law_1328 : decode cL_law 1328 = .ok (.ifCond .eq 5, 3) := by decide +kernel
theorem dL_law_1331 : decode cL_law 1331 = .ok (.iconst 0, 1) := by decide +kernel
theorem dL_law_1332 : decode cL_law 1332 = .ok (.ireturn, 1) := by decide +kernel
theorem dL_law_1333 : decode cL_law 1333 = .ok (.goto 960, 3) := by decide +kernel
theorem dL_law_1336 : decode cL_law 1336 = .ok (.aload_n 1, 1) := by decide +kernel
theorem dL_law_1337 : decode cL_law 1337 = .ok (.aload_n 0, 1) := by decide +kernel
theorem dL_law_1338 : decode cL_law 1338 = .ok (.iload 5, 2) := by decide +kernel
theorem dL_law_1340 : decode cL_law 1340 = .ok (.iconst 1, 1) := by decide +kernel
theorem dL_law_1341 : decode cL_law 1341 = .ok (.iadd, 1) := by decide +kernel
theorem dL_law_1342 : decode cL_law 1342 = .ok (.iaload, 1) := by decide +kernel
theorem dL_law_1343 : decode cL_law 1343 = .ok (.aload_n 3, 1) := by decide +kernel
theorem dL_law_1344 : decode cL_law 1344 = .ok (.invokestatic 204, 3) := by decide +kernel
theorem dL_law_1347 : decode cL_law 1347 = .ok (.istore 6, 2) := by decide +kernel
theorem dL_law_1349 : decode cL_law 1349 = .ok (.aload_n 2, 1) := by decide +kernel
theorem dL_law_1350 : decode cL_law 1350 = .ok (.aload_n 0, 1) := by decide +kernel
theorem dL_law_1351 : decode cL_law 1351 = .ok (.iload 5, 2) := by decide +kernel
theorem dL_law_1353 : decode cL_law 1353 = .ok (.iconst 1, 1) := by decide +kernel
theorem dL_law_1354 : decode cL_law 1354 = .ok (.iadd, 1) := by decide +kernel
theorem dL_law_1355 : decode cL_law 1355 = .ok (.iaload, 1) := by decide +kernel
theorem dL_law_1356 : decode cL_law 1356 = .ok (.invokevirtual 206, 3) := by decide +kernel
theorem dL_law_1359 : decode cL_law 1359 = .ok (.istore 7, 2) := by decide +kernel
theorem dL_law_1361 : decode cL_law 1361 = .ok (.aload_n 2, 1) := by decide +kernel
theorem dL_law_1362 : decode cL_law 1362 = .ok (.invokevirtual 141, 3) := by decide +kernel
theorem dL_law_1365 : decode cL_law 1365 = .ok (.iload 6, 2) := by decide +kernel
theorem dL_law_1367 : decode cL_law 1367 = .ok (.if_icmp .eq 5, 3) := by decide +kernel
theorem dL_law_1370 : decode cL_law 1370 = .ok (.iconst 0, 1) := by decide +kernel
theorem dL_law_1371 : decode cL_law 1371 = .ok (.ireturn, 1) := by decide +kernel
theorem dL_law_1372 : decode cL_law 1372 = .ok (.iload 6, 2) := by decide +kernel
theorem dL_law_1374 : decode cL_law 1374 = .ok (.ifCond .ne 15, 3) := by decide +kernel
theorem dL_law_1377 : decode cL_law 1377 = .ok (.aload_n 3, 1) := by decide +kernel
theorem dL_law_1378 : decode cL_law 1378 = .ok (.iconst 0, 1) := by decide +kernel
theorem dL_law_1379 : decode cL_law 1379 = .ok (.laload, 1) := by decide +kernel
theorem dL_law_1380 : decode cL_law 1380 = .ok (.iload 7, 2) := by decide +kernel
theorem dL_law_1382 : decode cL_law 1382 = .ok (.i2l, 1) := by decide +kernel
theorem dL_law_1383 : decode cL_law 1383 = .ok (.lcmp, 1) := by decide +kernel
theorem dL_law_1384 : decode cL_law 1384 = .ok (.ifCond .eq 5, 3) := by decide +kernel
theorem dL_law_1387 : decode cL_law 1387 = .ok (.iconst 0, 1) := by decide +kernel
theorem dL_law_1388 : decode cL_law 1388 = .ok (.ireturn, 1) := by decide +kernel
theorem dL_law_1389 : decode cL_law 1389 = .ok (.goto 904, 3) := by decide +kernel
theorem dL_law_1392 : decode cL_law 1392 = .ok (.aload_n 1, 1) := by decide +kernel
theorem dL_law_1393 : decode cL_law 1393 = .ok (.aload_n 0, 1) := by decide +kernel
theorem dL_law_1394 : decode cL_law 1394 = .ok (.iload 5, 2) := by decide +kernel
theorem dL_law_1396 : decode cL_law 1396 = .ok (.iconst 1, 1) := by decide +kernel
theorem dL_law_1397 : decode cL_law 1397 = .ok (.iadd, 1) := by decide +kernel
theorem dL_law_1398 : decode cL_law 1398 = .ok (.iaload, 1) := by decide +kernel
theorem dL_law_1399 : decode cL_law 1399 = .ok (.aload_n 3, 1) := by decide +kernel
theorem dL_law_1400 : decode cL_law 1400 = .ok (.invokestatic 207, 3) := by decide +kernel
theorem dL_law_1403 : decode cL_law 1403 = .ok (.istore 6, 2) := by decide +kernel
theorem dL_law_1405 : decode cL_law 1405 = .ok (.aload_n 2, 1) := by decide +kernel
theorem dL_law_1406 : decode cL_law 1406 = .ok (.aload_n 0, 1) := by decide +kernel
theorem dL_law_1407 : decode cL_law 1407 = .ok (.iload 5, 2) := by decide +kernel
theorem dL_law_1409 : decode cL_law 1409 = .ok (.iconst 1, 1) := by decide +kernel
theorem dL_law_1410 : decode cL_law 1410 = .ok (.iadd, 1) := by decide +kernel
theorem dL_law_1411 : decode cL_law 1411 = .ok (.iaload, 1) := by decide +kernel
theorem dL_law_1412 : decode cL_law 1412 = .ok (.invokevirtual 209, 3) := by decide +kernel
theorem dL_law_1415 : decode cL_law 1415 = .ok (.istore 7, 2) := by decide +kernel
theorem dL_law_1417 : decode cL_law 1417 = .ok (.aload_n 2, 1) := by decide +kernel
theorem dL_law_1418 : decode cL_law 1418 = .ok (.invokevirtual 141, 3) := by decide +kernel
theorem dL_law_1421 : decode cL_law 1421 = .ok (.iload 6, 2) := by decide +kernel
theorem dL_law_1423 : decode cL_law 1423 = .ok (.if_icmp .eq 5, 3) := by decide +kernel
theorem dL_law_1426 : decode cL_law 1426 = .ok (.iconst 0, 1) := by decide +kernel
theorem dL_law_1427 : decode cL_law 1427 = .ok (.ireturn, 1) := by decide +kernel
theorem dL_law_1428 : decode cL_law 1428 = .ok (.iload 6, 2) := by decide +kernel
theorem dL_law_1430 : decode cL_law 1430 = .ok (.ifCond .ne 15, 3) := by decide +kernel
theorem dL_law_1433 : decode cL_law 1433 = .ok (.aload_n 3, 1) := by decide +kernel
theorem dL_law_1434 : decode cL_law 1434 = .ok (.iconst 0, 1) := by decide +kernel
theorem dL_law_1435 : decode cL_law 1435 = .ok (.laload, 1) := by decide +kernel
theorem dL_law_1436 : decode cL_law 1436 = .ok (.iload 7, 2) := by decide +kernel
theorem dL_law_1438 : decode cL_law 1438 = .ok (.i2l, 1) := by decide +kernel
theorem dL_law_1439 : decode cL_law 1439 = .ok (.lcmp, 1) := by decide +kernel
theorem dL_law_1440 : decode cL_law 1440 = .ok (.ifCond .eq 5, 3) := by decide +kernel
theorem dL_law_1443 : decode cL_law 1443 = .ok (.iconst 0, 1) := by decide +kernel
theorem dL_law_1444 : decode cL_law 1444 = .ok (.ireturn, 1) := by decide +kernel
theorem dL_law_1445 : decode cL_law 1445 = .ok (.goto 848, 3) := by decide +kernel
theorem dL_law_1448 : decode cL_law 1448 = .ok (.aload_n 1, 1) := by decide +kernel
theorem dL_law_1449 : decode cL_law 1449 = .ok (.aload_n 0, 1) := by decide +kernel
theorem dL_law_1450 : decode cL_law 1450 = .ok (.iload 5, 2) := by decide +kernel
theorem dL_law_1452 : decode cL_law 1452 = .ok (.iconst 1, 1) := by decide +kernel
theorem dL_law_1453 : decode cL_law 1453 = .ok (.iadd, 1) := by decide +kernel
theorem dL_law_1454 : decode cL_law 1454 = .ok (.iaload, 1) := by decide +kernel
theorem dL_law_1455 : decode cL_law 1455 = .ok (.aload_n 3, 1) := by decide +kernel
theorem dL_law_1456 : decode cL_law 1456 = .ok (.invokestatic 210, 3) := by decide +kernel
theorem dL_law_1459 : decode cL_law 1459 = .ok (.istore 6, 2) := by decide +kernel
theorem dL_law_1461 : decode cL_law 1461 = .ok (.aload_n 2, 1) := by decide +kernel
theorem dL_law_1462 : decode cL_law 1462 = .ok (.aload_n 0, 1) := by decide +kernel
theorem dL_law_1463 : decode cL_law 1463 = .ok (.iload 5, 2) := by decide +kernel
theorem dL_law_1465 : decode cL_law 1465 = .ok (.iconst 1, 1) := by decide +kernel
theorem dL_law_1466 : decode cL_law 1466 = .ok (.iadd, 1) := by decide +kernel
theorem dL_law_1467 : decode cL_law 1467 = .ok (.iaload, 1) := by decide +kernel
theorem dL_law_1468 : decode cL_law 1468 = .ok (.invokevirtual 212, 3) := by decide +kernel
theorem dL_law_1471 : decode cL_law 1471 = .ok (.istore 7, 2) := by decide +kernel
theorem dL_law_1473 : decode cL_law 1473 = .ok (.aload_n 2, 1) := by decide +kernel
theorem dL_law_1474 : decode cL_law 1474 = .ok (.invokevirtual 141, 3) := by decide +kernel
theorem dL_law_1477 : decode cL_law 1477 = .ok (.iload 6, 2) := by decide +kernel
theorem dL_law_1479 : decode cL_law 1479 = .ok (.if_icmp .eq 5, 3) := by decide +kernel
theorem dL_law_1482 : decode cL_law 1482 = .ok (.iconst 0, 1) := by decide +kernel
theorem dL_law_1483 : decode cL_law 1483 = .ok (.ireturn, 1) := by decide +kernel
theorem dL_law_1484 : decode cL_law 1484 = .ok (.iload 6, 2) := by decide +kernel
theorem dL_law_1486 : decode cL_law 1486 = .ok (.ifCond .ne 15, 3) := by decide +kernel
theorem dL_law_1489 : decode cL_law 1489 = .ok (.aload_n 3, 1) := by decide +kernel
theorem dL_law_1490 : decode cL_law 1490 = .ok (.iconst 0, 1) := by decide +kernel
theorem dL_law_1491 : decode cL_law 1491 = .ok (.laload, 1) := by decide +kernel
theorem dL_law_1492 : decode cL_law 1492 = .ok (.iload 7, 2) := by decide +kernel
theorem dL_law_1494 : decode cL_law 1494 = .ok (.i2l, 1) := by decide +kernel
theorem dL_law_1495 : decode cL_law 1495 = .ok (.lcmp, 1) := by decide +kernel
theorem dL_law_1496 : decode cL_law 1496 = .ok (.ifCond .eq 5, 3) := by decide +kernel
theorem dL_law_1499 : decode cL_law 1499 = .ok (.iconst 0, 1) := by decide +kernel
theorem dL_law_1500 : decode cL_law 1500 = .ok (.ireturn, 1) := by decide +kernel
theorem dL_law_1501 : decode cL_law 1501 = .ok (.goto 792, 3) := by decide +kernel
theorem dL_law_1504 : decode cL_law 1504 = .ok (.aload_n 1, 1) := by decide +kernel
theorem dL_law_1505 : decode cL_law 1505 = .ok (.aload_n 0, 1) := by decide +kernel
theorem dL_law_1506 : decode cL_law 1506 = .ok (.iload 5, 2) := by decide +kernel
theorem dL_law_1508 : decode cL_law 1508 = .ok (.iconst 1, 1) := by decide +kernel
theorem dL_law_1509 : decode cL_law 1509 = .ok (.iadd, 1) := by decide +kernel
theorem dL_law_1510 : decode cL_law 1510 = .ok (.iaload, 1) := by decide +kernel
theorem dL_law_1511 : decode cL_law 1511 = .ok (.aload_n 0, 1) := by decide +kernel
theorem dL_law_1512 : decode cL_law 1512 = .ok (.iload 5, 2) := by decide +kernel
theorem dL_law_1514 : decode cL_law 1514 = .ok (.iconst 2, 1) := by decide +kernel
theorem dL_law_1515 : decode cL_law 1515 = .ok (.iadd, 1) := by decide +kernel
theorem dL_law_1516 : decode cL_law 1516 = .ok (.iaload, 1) := by decide +kernel
theorem dL_law_1517 : decode cL_law 1517 = .ok (.aload_n 3, 1) := by decide +kernel
theorem dL_law_1518 : decode cL_law 1518 = .ok (.invokestatic 213, 3) := by decide +kernel
theorem dL_law_1521 : decode cL_law 1521 = .ok (.istore 6, 2) := by decide +kernel
theorem dL_law_1523 : decode cL_law 1523 = .ok (.aload_n 2, 1) := by decide +kernel
theorem dL_law_1524 : decode cL_law 1524 = .ok (.aload_n 0, 1) := by decide +kernel
theorem dL_law_1525 : decode cL_law 1525 = .ok (.iload 5, 2) := by decide +kernel
theorem dL_law_1527 : decode cL_law 1527 = .ok (.iconst 1, 1) := by decide +kernel
theorem dL_law_1528 : decode cL_law 1528 = .ok (.iadd, 1) := by decide +kernel
theorem dL_law_1529 : decode cL_law 1529 = .ok (.iaload, 1) := by decide +kernel
theorem dL_law_1530 : decode cL_law 1530 = .ok (.aload_n 0, 1) := by decide +kernel
theorem dL_law_1531 : decode cL_law 1531 = .ok (.iload 5, 2) := by decide +kernel
theorem dL_law_1533 : decode cL_law 1533 = .ok (.iconst 2, 1) := by decide +kernel
theorem dL_law_1534 : decode cL_law 1534 = .ok (.iadd, 1) := by decide +kernel
theorem dL_law_1535 : decode cL_law 1535 = .ok (.iaload, 1) := by decide +kernel
theorem dL_law_1536 : decode cL_law 1536 = .ok (.invokevirtual 215, 3) := by decide +kernel
theorem dL_law_1539 : decode cL_law 1539 = .ok (.istore 7, 2) := by decide +kernel
theorem dL_law_1541 : decode cL_law 1541 = .ok (.aload_n 2, 1) := by decide +kernel
theorem dL_law_1542 : decode cL_law 1542 = .ok (.invokevirtual 141, 3) := by decide +kernel
theorem dL_law_1545 : decode cL_law 1545 = .ok (.iload 6, 2) := by decide +kernel
theorem dL_law_1547 : decode cL_law 1547 = .ok (.if_icmp .eq 5, 3) := by decide +kernel
theorem dL_law_1550 : decode cL_law 1550 = .ok (.iconst 0, 1) := by decide +kernel
theorem dL_law_1551 : decode cL_law 1551 = .ok (.ireturn, 1) := by decide +kernel
theorem dL_law_1552 : decode cL_law 1552 = .ok (.iload 6, 2) := by decide +kernel
theorem dL_law_1554 : decode cL_law 1554 = .ok (.ifCond .ne 15, 3) := by decide +kernel
theorem dL_law_1557 : decode cL_law 1557 = .ok (.aload_n 3, 1) := by decide +kernel
theorem dL_law_1558 : decode cL_law 1558 = .ok (.iconst 0, 1) := by decide +kernel
theorem dL_law_1559 : decode cL_law 1559 = .ok (.laload, 1) := by decide +kernel
theorem dL_law_1560 : decode cL_law 1560 = .ok (.iload 7, 2) := by decide +kernel
theorem dL_law_1562 : decode cL_law 1562 = .ok (.i2l, 1) := by decide +kernel
theorem dL_law_1563 : decode cL_law 1563 = .ok (.lcmp, 1) := by decide +kernel
theorem dL_law_1564 : decode cL_law 1564 = .ok (.ifCond .eq 5, 3) := by decide +kernel
theorem dL_law_1567 : decode cL_law 1567 = .ok (.iconst 0, 1) := by decide +kernel
theorem dL_law_1568 : decode cL_law 1568 = .ok (.ireturn, 1) := by decide +kernel
theorem dL_law_1569 : decode cL_law 1569 = .ok (.goto 724, 3) := by decide +kernel
theorem dL_law_1572 : decode cL_law 1572 = .ok (.aload_n 1, 1) := by decide +kernel
theorem dL_law_1573 : decode cL_law 1573 = .ok (.aload_n 0, 1) := by decide +kernel
theorem dL_law_1574 : decode cL_law 1574 = .ok (.iload 5, 2) := by decide +kernel
theorem dL_law_1576 : decode cL_law 1576 = .ok (.iconst 1, 1) := by decide +kernel
theorem dL_law_1577 : decode cL_law 1577 = .ok (.iadd, 1) := by decide +kernel
theorem dL_law_1578 : decode cL_law 1578 = .ok (.iaload, 1) := by decide +kernel
theorem dL_law_1579 : decode cL_law 1579 = .ok (.aload_n 0, 1) := by decide +kernel
theorem dL_law_1580 : decode cL_law 1580 = .ok (.iload 5, 2) := by decide +kernel
theorem dL_law_1582 : decode cL_law 1582 = .ok (.iconst 2, 1) := by decide +kernel
theorem dL_law_1583 : decode cL_law 1583 = .ok (.iadd, 1) := by decide +kernel
theorem dL_law_1584 : decode cL_law 1584 = .ok (.iaload, 1) := by decide +kernel
theorem dL_law_1585 : decode cL_law 1585 = .ok (.aload_n 3, 1) := by decide +kernel
theorem dL_law_1586 : decode cL_law 1586 = .ok (.invokestatic 216, 3) := by decide +kernel
theorem dL_law_1589 : decode cL_law 1589 = .ok (.istore 6, 2) := by decide +kernel
theorem dL_law_1591 : decode cL_law 1591 = .ok (.aload_n 2, 1) := by decide +kernel
theorem dL_law_1592 : decode cL_law 1592 = .ok (.aload_n 0, 1) := by decide +kernel
theorem dL_law_1593 : decode cL_law 1593 = .ok (.iload 5, 2) := by decide +kernel
theorem dL_law_1595 : decode cL_law 1595 = .ok (.iconst 1, 1) := by decide +kernel
theorem dL_law_1596 : decode cL_law 1596 = .ok (.iadd, 1) := by decide +kernel
theorem dL_law_1597 : decode cL_law 1597 = .ok (.iaload, 1) := by decide +kernel
theorem dL_law_1598 : decode cL_law 1598 = .ok (.aload_n 0, 1) := by decide +kernel
theorem dL_law_1599 : decode cL_law 1599 = .ok (.iload 5, 2) := by decide +kernel
theorem dL_law_1601 : decode cL_law 1601 = .ok (.iconst 2, 1) := by decide +kernel
theorem dL_law_1602 : decode cL_law 1602 = .ok (.iadd, 1) := by decide +kernel
theorem dL_law_1603 : decode cL_law 1603 = .ok (.iaload, 1) := by decide +kernel
theorem dL_law_1604 : decode cL_law 1604 = .ok (.invokevirtual 218, 3) := by decide +kernel
theorem dL_law_1607 : decode cL_law 1607 = .ok (.istore 7, 2) := by decide +kernel
theorem dL_law_1609 : decode cL_law 1609 = .ok (.aload_n 2, 1) := by decide +kernel
theorem dL_law_1610 : decode cL_law 1610 = .ok (.invokevirtual 141, 3) := by decide +kernel
theorem dL_law_1613 : decode cL_law 1613 = .ok (.iload 6, 2) := by decide +kernel
theorem dL_law_1615 : decode cL_law 1615 = .ok (.if_icmp .eq 5, 3) := by decide +kernel
theorem dL_law_1618 : decode cL_law 1618 = .ok (.iconst 0, 1) := by decide +kernel
theorem dL_law_1619 : decode cL_law 1619 = .ok (.ireturn, 1) := by decide +kernel
theorem dL_law_1620 : decode cL_law 1620 = .ok (.iload 6, 2) := by decide +kernel
theorem dL_law_1622 : decode cL_law 1622 = .ok (.ifCond .ne 15, 3) := by decide +kernel
theorem dL_law_1625 : decode cL_law 1625 = .ok (.aload_n 3, 1) := by decide +kernel
theorem dL_law_1626 : decode cL_law 1626 = .ok (.iconst 0, 1) := by decide +kernel
theorem dL_law_1627 : decode cL_law 1627 = .ok (.laload, 1) := by decide +kernel
theorem dL_law_1628 : decode cL_law 1628 = .ok (.iload 7, 2) := by decide +kernel
theorem dL_law_1630 : decode cL_law 1630 = .ok (.i2l, 1) := by decide +kernel
theorem dL_law_1631 : decode cL_law 1631 = .ok (.lcmp, 1) := by decide +kernel
theorem dL_law_1632 : decode cL_law 1632 = .ok (.ifCond .eq 5, 3) := by decide +kernel
theorem dL_law_1635 : decode cL_law 1635 = .ok (.iconst 0, 1) := by decide +kernel
theorem dL_law_1636 : decode cL_law 1636 = .ok (.ireturn, 1) := by decide +kernel
theorem dL_law_1637 : decode cL_law 1637 = .ok (.goto 656, 3) := by decide +kernel
theorem dL_law_1640 : decode cL_law 1640 = .ok (.aload_n 1, 1) := by decide +kernel
theorem dL_law_1641 : decode cL_law 1641 = .ok (.aload_n 0, 1) := by decide +kernel
theorem dL_law_1642 : decode cL_law 1642 = .ok (.iload 5, 2) := by decide +kernel
theorem dL_law_1644 : decode cL_law 1644 = .ok (.iconst 1, 1) := by decide +kernel
theorem dL_law_1645 : decode cL_law 1645 = .ok (.iadd, 1) := by decide +kernel
theorem dL_law_1646 : decode cL_law 1646 = .ok (.iaload, 1) := by decide +kernel
theorem dL_law_1647 : decode cL_law 1647 = .ok (.aload_n 3, 1) := by decide +kernel
theorem dL_law_1648 : decode cL_law 1648 = .ok (.invokestatic 219, 3) := by decide +kernel
theorem dL_law_1651 : decode cL_law 1651 = .ok (.istore 6, 2) := by decide +kernel
theorem dL_law_1653 : decode cL_law 1653 = .ok (.aload_n 2, 1) := by decide +kernel
theorem dL_law_1654 : decode cL_law 1654 = .ok (.aload_n 0, 1) := by decide +kernel
theorem dL_law_1655 : decode cL_law 1655 = .ok (.iload 5, 2) := by decide +kernel
theorem dL_law_1657 : decode cL_law 1657 = .ok (.iconst 1, 1) := by decide +kernel
theorem dL_law_1658 : decode cL_law 1658 = .ok (.iadd, 1) := by decide +kernel
theorem dL_law_1659 : decode cL_law 1659 = .ok (.iaload, 1) := by decide +kernel
theorem dL_law_1660 : decode cL_law 1660 = .ok (.invokevirtual 221, 3) := by decide +kernel
theorem dL_law_1663 : decode cL_law 1663 = .ok (.istore 7, 2) := by decide +kernel
theorem dL_law_1665 : decode cL_law 1665 = .ok (.aload_n 2, 1) := by decide +kernel
theorem dL_law_1666 : decode cL_law 1666 = .ok (.invokevirtual 141, 3) := by decide +kernel
theorem dL_law_1669 : decode cL_law 1669 = .ok (.iload 6, 2) := by decide +kernel
theorem dL_law_1671 : decode cL_law 1671 = .ok (.if_icmp .eq 5, 3) := by decide +kernel
theorem dL_law_1674 : decode cL_law 1674 = .ok (.iconst 0, 1) := by decide +kernel
theorem dL_law_1675 : decode cL_law 1675 = .ok (.ireturn, 1) := by decide +kernel
theorem dL_law_1676 : decode cL_law 1676 = .ok (.iload 6, 2) := by decide +kernel
theorem dL_law_1678 : decode cL_law 1678 = .ok (.ifCond .ne 15, 3) := by decide +kernel
theorem dL_law_1681 : decode cL_law 1681 = .ok (.aload_n 3, 1) := by decide +kernel
theorem dL_law_1682 : decode cL_law 1682 = .ok (.iconst 0, 1) := by decide +kernel
theorem dL_law_1683 : decode cL_law 1683 = .ok (.laload, 1) := by decide +kernel
theorem dL_law_1684 : decode cL_law 1684 = .ok (.iload 7, 2) := by decide +kernel
theorem dL_law_1686 : decode cL_law 1686 = .ok (.i2l, 1) := by decide +kernel
theorem dL_law_1687 : decode cL_law 1687 = .ok (.lcmp, 1) := by decide +kernel
theorem dL_law_1688 : decode cL_law 1688 = .ok (.ifCond .eq 5, 3) := by decide +kernel
theorem dL_law_1691 : decode cL_law 1691 = .ok (.iconst 0, 1) := by decide +kernel
theorem dL_law_1692 : decode cL_law 1692 = .ok (.ireturn, 1) := by decide +kernel
theorem dL_law_1693 : decode cL_law 1693 = .ok (.goto 600, 3) := by decide +kernel
theorem dL_law_1696 : decode cL_law 1696 = .ok (.aload_n 1, 1) := by decide +kernel
theorem dL_law_1697 : decode cL_law 1697 = .ok (.aload_n 0, 1) := by decide +kernel
theorem dL_law_1698 : decode cL_law 1698 = .ok (.iload 5, 2) := by decide +kernel
theorem dL_law_1700 : decode cL_law 1700 = .ok (.iconst 1, 1) := by decide +kernel
theorem dL_law_1701 : decode cL_law 1701 = .ok (.iadd, 1) := by decide +kernel
theorem dL_law_1702 : decode cL_law 1702 = .ok (.iaload, 1) := by decide +kernel
theorem dL_law_1703 : decode cL_law 1703 = .ok (.aload_n 3, 1) := by decide +kernel
theorem dL_law_1704 : decode cL_law 1704 = .ok (.invokestatic 222, 3) := by decide +kernel
theorem dL_law_1707 : decode cL_law 1707 = .ok (.istore 6, 2) := by decide +kernel
theorem dL_law_1709 : decode cL_law 1709 = .ok (.aload_n 2, 1) := by decide +kernel
theorem dL_law_1710 : decode cL_law 1710 = .ok (.aload_n 0, 1) := by decide +kernel
theorem dL_law_1711 : decode cL_law 1711 = .ok (.iload 5, 2) := by decide +kernel
theorem dL_law_1713 : decode cL_law 1713 = .ok (.iconst 1, 1) := by decide +kernel
theorem dL_law_1714 : decode cL_law 1714 = .ok (.iadd, 1) := by decide +kernel
theorem dL_law_1715 : decode cL_law 1715 = .ok (.iaload, 1) := by decide +kernel
theorem dL_law_1716 : decode cL_law 1716 = .ok (.invokevirtual 224, 3) := by decide +kernel
theorem dL_law_1719 : decode cL_law 1719 = .ok (.istore 7, 2) := by decide +kernel
theorem dL_law_1721 : decode cL_law 1721 = .ok (.aload_n 2, 1) := by decide +kernel
theorem dL_law_1722 : decode cL_law 1722 = .ok (.invokevirtual 141, 3) := by decide +kernel
theorem dL_law_1725 : decode cL_law 1725 = .ok (.iload 6, 2) := by decide +kernel
theorem dL_law_1727 : decode cL_law 1727 = .ok (.if_icmp .eq 5, 3) := by decide +kernel
theorem dL_law_1730 : decode cL_law 1730 = .ok (.iconst 0, 1) := by decide +kernel
theorem dL_law_1731 : decode cL_law 1731 = .ok (.ireturn, 1) := by decide +kernel
theorem dL_law_1732 : decode cL_law 1732 = .ok (.iload 6, 2) := by decide +kernel
theorem dL_law_1734 : decode cL_law 1734 = .ok (.ifCond .ne 15, 3) := by decide +kernel
theorem dL_law_1737 : decode cL_law 1737 = .ok (.aload_n 3, 1) := by decide +kernel
theorem dL_law_1738 : decode cL_law 1738 = .ok (.iconst 0, 1) := by decide +kernel
theorem dL_law_1739 : decode cL_law 1739 = .ok (.laload, 1) := by decide +kernel
theorem dL_law_1740 : decode cL_law 1740 = .ok (.iload 7, 2) := by decide +kernel
theorem dL_law_1742 : decode cL_law 1742 = .ok (.i2l, 1) := by decide +kernel
theorem dL_law_1743 : decode cL_law 1743 = .ok (.lcmp, 1) := by decide +kernel
theorem dL_law_1744 : decode cL_law 1744 = .ok (.ifCond .eq 5, 3) := by decide +kernel
theorem dL_law_1747 : decode cL_law 1747 = .ok (.iconst 0, 1) := by decide +kernel
theorem dL_law_1748 : decode cL_law 1748 = .ok (.ireturn, 1) := by decide +kernel
theorem dL_law_1749 : decode cL_law 1749 = .ok (.goto 544, 3) := by decide +kernel
theorem dL_law_1752 : decode cL_law 1752 = .ok (.aload_n 1, 1) := by decide +kernel
theorem dL_law_1753 : decode cL_law 1753 = .ok (.aload_n 0, 1) := by decide +kernel
theorem dL_law_1754 : decode cL_law 1754 = .ok (.iload 5, 2) := by decide +kernel
theorem dL_law_1756 : decode cL_law 1756 = .ok (.iconst 1, 1) := by decide +kernel
theorem dL_law_1757 : decode cL_law 1757 = .ok (.iadd, 1) := by decide +kernel
theorem dL_law_1758 : decode cL_law 1758 = .ok (.iaload, 1) := by decide +kernel
theorem dL_law_1759 : decode cL_law 1759 = .ok (.aload_n 0, 1) := by decide +kernel
theorem dL_law_1760 : decode cL_law 1760 = .ok (.iload 5, 2) := by decide +kernel
theorem dL_law_1762 : decode cL_law 1762 = .ok (.iconst 2, 1) := by decide +kernel
theorem dL_law_1763 : decode cL_law 1763 = .ok (.iadd, 1) := by decide +kernel
theorem dL_law_1764 : decode cL_law 1764 = .ok (.iaload, 1) := by decide +kernel
theorem dL_law_1765 : decode cL_law 1765 = .ok (.ifCond .eq 7, 3) := by decide +kernel
theorem dL_law_1768 : decode cL_law 1768 = .ok (.iconst 1, 1) := by decide +kernel
theorem dL_law_1769 : decode cL_law 1769 = .ok (.goto 4, 3) := by decide +kernel
theorem dL_law_1772 : decode cL_law 1772 = .ok (.iconst 0, 1) := by decide +kernel
theorem dL_law_1773 : decode cL_law 1773 = .ok (.aload_n 3, 1) := by decide +kernel
theorem dL_law_1774 : decode cL_law 1774 = .ok (.invokestatic 225, 3) := by decide +kernel
theorem dL_law_1777 : decode cL_law 1777 = .ok (.istore 6, 2) := by decide +kernel
theorem dL_law_1779 : decode cL_law 1779 = .ok (.aload_n 2, 1) := by decide +kernel
theorem dL_law_1780 : decode cL_law 1780 = .ok (.aload_n 0, 1) := by decide +kernel
theorem dL_law_1781 : decode cL_law 1781 = .ok (.iload 5, 2) := by decide +kernel
theorem dL_law_1783 : decode cL_law 1783 = .ok (.iconst 1, 1) := by decide +kernel
theorem dL_law_1784 : decode cL_law 1784 = .ok (.iadd, 1) := by decide +kernel
theorem dL_law_1785 : decode cL_law 1785 = .ok (.iaload, 1) := by decide +kernel
theorem dL_law_1786 : decode cL_law 1786 = .ok (.aload_n 0, 1) := by decide +kernel
theorem dL_law_1787 : decode cL_law 1787 = .ok (.iload 5, 2) := by decide +kernel
theorem dL_law_1789 : decode cL_law 1789 = .ok (.iconst 2, 1) := by decide +kernel
theorem dL_law_1790 : decode cL_law 1790 = .ok (.iadd, 1) := by decide +kernel
theorem dL_law_1791 : decode cL_law 1791 = .ok (.iaload, 1) := by decide +kernel
theorem dL_law_1792 : decode cL_law 1792 = .ok (.ifCond .eq 7, 3) := by decide +kernel
theorem dL_law_1795 : decode cL_law 1795 = .ok (.iconst 1, 1) := by decide +kernel
theorem dL_law_1796 : decode cL_law 1796 = .ok (.goto 4, 3) := by decide +kernel
theorem dL_law_1799 : decode cL_law 1799 = .ok (.iconst 0, 1) := by decide +kernel
theorem dL_law_1800 : decode cL_law 1800 = .ok (.invokevirtual 227, 3) := by decide +kernel
theorem dL_law_1803 : decode cL_law 1803 = .ok (.istore 7, 2) := by decide +kernel
theorem dL_law_1805 : decode cL_law 1805 = .ok (.aload_n 2, 1) := by decide +kernel
theorem dL_law_1806 : decode cL_law 1806 = .ok (.invokevirtual 141, 3) := by decide +kernel
theorem dL_law_1809 : decode cL_law 1809 = .ok (.iload 6, 2) := by decide +kernel
theorem dL_law_1811 : decode cL_law 1811 = .ok (.if_icmp .eq 5, 3) := by decide +kernel
theorem dL_law_1814 : decode cL_law 1814 = .ok (.iconst 0, 1) := by decide +kernel
theorem dL_law_1815 : decode cL_law 1815 = .ok (.ireturn, 1) := by decide +kernel
theorem dL_law_1816 : decode cL_law 1816 = .ok (.iload 6, 2) := by decide +kernel
theorem dL_law_1818 : decode cL_law 1818 = .ok (.ifCond .ne 15, 3) := by decide +kernel
theorem dL_law_1821 : decode cL_law 1821 = .ok (.aload_n 3, 1) := by decide +kernel
theorem dL_law_1822 : decode cL_law 1822 = .ok (.iconst 0, 1) := by decide +kernel
theorem dL_law_1823 : decode cL_law 1823 = .ok (.laload, 1) := by decide +kernel
theorem dL_law_1824 : decode cL_law 1824 = .ok (.iload 7, 2) := by decide +kernel
theorem dL_law_1826 : decode cL_law 1826 = .ok (.i2l, 1) := by decide +kernel
theorem dL_law_1827 : decode cL_law 1827 = .ok (.lcmp, 1) := by decide +kernel
theorem dL_law_1828 : decode cL_law 1828 = .ok (.ifCond .eq 5, 3) := by decide +kernel
theorem dL_law_1831 : decode cL_law 1831 = .ok (.iconst 0, 1) := by decide +kernel
theorem dL_law_1832 : decode cL_law 1832 = .ok (.ireturn, 1) := by decide +kernel
theorem dL_law_1833 : decode cL_law 1833 = .ok (.goto 460, 3) := by decide +kernel
theorem dL_law_1836 : decode cL_law 1836 = .ok (.aload_n 1, 1) := by decide +kernel
theorem dL_law_1837 : decode cL_law 1837 = .ok (.aload_n 0, 1) := by decide +kernel
theorem dL_law_1838 : decode cL_law 1838 = .ok (.iload 5, 2) := by decide +kernel
theorem dL_law_1840 : decode cL_law 1840 = .ok (.iconst 1, 1) := by decide +kernel
theorem dL_law_1841 : decode cL_law 1841 = .ok (.iadd, 1) := by decide +kernel
theorem dL_law_1842 : decode cL_law 1842 = .ok (.iaload, 1) := by decide +kernel
theorem dL_law_1843 : decode cL_law 1843 = .ok (.aload_n 3, 1) := by decide +kernel
theorem dL_law_1844 : decode cL_law 1844 = .ok (.invokestatic 228, 3) := by decide +kernel
theorem dL_law_1847 : decode cL_law 1847 = .ok (.istore 6, 2) := by decide +kernel
theorem dL_law_1849 : decode cL_law 1849 = .ok (.aload_n 2, 1) := by decide +kernel
theorem dL_law_1850 : decode cL_law 1850 = .ok (.aload_n 0, 1) := by decide +kernel
theorem dL_law_1851 : decode cL_law 1851 = .ok (.iload 5, 2) := by decide +kernel
theorem dL_law_1853 : decode cL_law 1853 = .ok (.iconst 1, 1) := by decide +kernel
theorem dL_law_1854 : decode cL_law 1854 = .ok (.iadd, 1) := by decide +kernel
theorem dL_law_1855 : decode cL_law 1855 = .ok (.iaload, 1) := by decide +kernel
theorem dL_law_1856 : decode cL_law 1856 = .ok (.invokevirtual 230, 3) := by decide +kernel
theorem dL_law_1859 : decode cL_law 1859 = .ok (.istore 7, 2) := by decide +kernel
theorem dL_law_1861 : decode cL_law 1861 = .ok (.aload_n 2, 1) := by decide +kernel
theorem dL_law_1862 : decode cL_law 1862 = .ok (.invokevirtual 141, 3) := by decide +kernel
theorem dL_law_1865 : decode cL_law 1865 = .ok (.iload 6, 2) := by decide +kernel
theorem dL_law_1867 : decode cL_law 1867 = .ok (.if_icmp .eq 5, 3) := by decide +kernel
theorem dL_law_1870 : decode cL_law 1870 = .ok (.iconst 0, 1) := by decide +kernel
theorem dL_law_1871 : decode cL_law 1871 = .ok (.ireturn, 1) := by decide +kernel
theorem dL_law_1872 : decode cL_law 1872 = .ok (.iload 6, 2) := by decide +kernel
theorem dL_law_1874 : decode cL_law 1874 = .ok (.ifCond .ne 22, 3) := by decide +kernel
theorem dL_law_1877 : decode cL_law 1877 = .ok (.aload_n 3, 1) := by decide +kernel
theorem dL_law_1878 : decode cL_law 1878 = .ok (.iconst 0, 1) := by decide +kernel
theorem dL_law_1879 : decode cL_law 1879 = .ok (.laload, 1) := by decide +kernel
theorem dL_law_1880 : decode cL_law 1880 = .ok (.iload 7, 2) := by decide +kernel
theorem dL_law_1882 : decode cL_law 1882 = .ok (.ifCond .eq 7, 3) := by decide +kernel
theorem dL_law_1885 : decode cL_law 1885 = .ok (.lconst 1, 1) := by decide +kernel
theorem dL_law_1886 : decode cL_law 1886 = .ok (.goto 4, 3) := by decide +kernel
theorem dL_law_1889 : decode cL_law 1889 = .ok (.lconst 0, 1) := by decide +kernel
theorem dL_law_1890 : decode cL_law 1890 = .ok (.lcmp, 1) := by decide +kernel
theorem dL_law_1891 : decode cL_law 1891 = .ok (.ifCond .eq 5, 3) := by decide +kernel
theorem dL_law_1894 : decode cL_law 1894 = .ok (.iconst 0, 1) := by decide +kernel
theorem dL_law_1895 : decode cL_law 1895 = .ok (.ireturn, 1) := by decide +kernel
theorem dL_law_1896 : decode cL_law 1896 = .ok (.goto 397, 3) := by decide +kernel
theorem dL_law_1899 : decode cL_law 1899 = .ok (.aload_n 1, 1) := by decide +kernel
theorem dL_law_1900 : decode cL_law 1900 = .ok (.aload_n 0, 1) := by decide +kernel
theorem dL_law_1901 : decode cL_law 1901 = .ok (.iload 5, 2) := by decide +kernel
theorem dL_law_1903 : decode cL_law 1903 = .ok (.iconst 1, 1) := by decide +kernel
theorem dL_law_1904 : decode cL_law 1904 = .ok (.iadd, 1) := by decide +kernel
theorem dL_law_1905 : decode cL_law 1905 = .ok (.iaload, 1) := by decide +kernel
theorem dL_law_1906 : decode cL_law 1906 = .ok (.aload_n 3, 1) := by decide +kernel
theorem dL_law_1907 : decode cL_law 1907 = .ok (.invokestatic 231, 3) := by decide +kernel
theorem dL_law_1910 : decode cL_law 1910 = .ok (.istore 6, 2) := by decide +kernel
theorem dL_law_1912 : decode cL_law 1912 = .ok (.aload_n 2, 1) := by decide +kernel
theorem dL_law_1913 : decode cL_law 1913 = .ok (.aload_n 0, 1) := by decide +kernel
theorem dL_law_1914 : decode cL_law 1914 = .ok (.iload 5, 2) := by decide +kernel
theorem dL_law_1916 : decode cL_law 1916 = .ok (.iconst 1, 1) := by decide +kernel
theorem dL_law_1917 : decode cL_law 1917 = .ok (.iadd, 1) := by decide +kernel
theorem dL_law_1918 : decode cL_law 1918 = .ok (.iaload, 1) := by decide +kernel
theorem dL_law_1919 : decode cL_law 1919 = .ok (.invokevirtual 233, 3) := by decide +kernel
theorem dL_law_1922 : decode cL_law 1922 = .ok (.istore 7, 2) := by decide +kernel
theorem dL_law_1924 : decode cL_law 1924 = .ok (.aload_n 2, 1) := by decide +kernel
theorem dL_law_1925 : decode cL_law 1925 = .ok (.invokevirtual 141, 3) := by decide +kernel
theorem dL_law_1928 : decode cL_law 1928 = .ok (.iload 6, 2) := by decide +kernel
theorem dL_law_1930 : decode cL_law 1930 = .ok (.if_icmp .eq 5, 3) := by decide +kernel
theorem dL_law_1933 : decode cL_law 1933 = .ok (.iconst 0, 1) := by decide +kernel
theorem dL_law_1934 : decode cL_law 1934 = .ok (.ireturn, 1) := by decide +kernel
theorem dL_law_1935 : decode cL_law 1935 = .ok (.iload 6, 2) := by decide +kernel
theorem dL_law_1937 : decode cL_law 1937 = .ok (.ifCond .ne 15, 3) := by decide +kernel
theorem dL_law_1940 : decode cL_law 1940 = .ok (.aload_n 3, 1) := by decide +kernel
theorem dL_law_1941 : decode cL_law 1941 = .ok (.iconst 0, 1) := by decide +kernel
theorem dL_law_1942 : decode cL_law 1942 = .ok (.laload, 1) := by decide +kernel
theorem dL_law_1943 : decode cL_law 1943 = .ok (.iload 7, 2) := by decide +kernel
theorem dL_law_1945 : decode cL_law 1945 = .ok (.i2l, 1) := by decide +kernel
theorem dL_law_1946 : decode cL_law 1946 = .ok (.lcmp, 1) := by decide +kernel
theorem dL_law_1947 : decode cL_law 1947 = .ok (.ifCond .eq 5, 3) := by decide +kernel
theorem dL_law_1950 : decode cL_law 1950 = .ok (.iconst 0, 1) := by decide +kernel
theorem dL_law_1951 : decode cL_law 1951 = .ok (.ireturn, 1) := by decide +kernel
theorem dL_law_1952 : decode cL_law 1952 = .ok (.goto 341, 3) := by decide +kernel
theorem dL_law_1955 : decode cL_law 1955 = .ok (.aload_n 1, 1) := by decide +kernel
theorem dL_law_1956 : decode cL_law 1956 = .ok (.aload_n 0, 1) := by decide +kernel
theorem dL_law_1957 : decode cL_law 1957 = .ok (.iload 5, 2) := by decide +kernel
theorem dL_law_1959 : decode cL_law 1959 = .ok (.iconst 1, 1) := by decide +kernel
theorem dL_law_1960 : decode cL_law 1960 = .ok (.iadd, 1) := by decide +kernel
theorem dL_law_1961 : decode cL_law 1961 = .ok (.iaload, 1) := by decide +kernel
theorem dL_law_1962 : decode cL_law 1962 = .ok (.aload_n 3, 1) := by decide +kernel
theorem dL_law_1963 : decode cL_law 1963 = .ok (.invokestatic 234, 3) := by decide +kernel
theorem dL_law_1966 : decode cL_law 1966 = .ok (.istore 6, 2) := by decide +kernel
theorem dL_law_1968 : decode cL_law 1968 = .ok (.aload_n 2, 1) := by decide +kernel
theorem dL_law_1969 : decode cL_law 1969 = .ok (.aload_n 0, 1) := by decide +kernel
theorem dL_law_1970 : decode cL_law 1970 = .ok (.iload 5, 2) := by decide +kernel
theorem dL_law_1972 : decode cL_law 1972 = .ok (.iconst 1, 1) := by decide +kernel
theorem dL_law_1973 : decode cL_law 1973 = .ok (.iadd, 1) := by decide +kernel
theorem dL_law_1974 : decode cL_law 1974 = .ok (.iaload, 1) := by decide +kernel
theorem dL_law_1975 : decode cL_law 1975 = .ok (.invokevirtual 236, 3) := by decide +kernel
theorem dL_law_1978 : decode cL_law 1978 = .ok (.istore 7, 2) := by decide +kernel
theorem dL_law_1980 : decode cL_law 1980 = .ok (.aload_n 2, 1) := by decide +kernel
theorem dL_law_1981 : decode cL_law 1981 = .ok (.invokevirtual 141, 3) := by decide +kernel
theorem dL_law_1984 : decode cL_law 1984 = .ok (.iload 6, 2) := by decide +kernel
theorem dL_law_1986 : decode cL_law 1986 = .ok (.if_icmp .eq 5, 3) := by decide +kernel
theorem dL_law_1989 : decode cL_law 1989 = .ok (.iconst 0, 1) := by decide +kernel
theorem dL_law_1990 : decode cL_law 1990 = .ok (.ireturn, 1) := by decide +kernel
theorem dL_law_1991 : decode cL_law 1991 = .ok (.iload 6, 2) := by decide +kernel
theorem dL_law_1993 : decode cL_law 1993 = .ok (.ifCond .ne 15, 3) := by decide +kernel
theorem dL_law_1996 : decode cL_law 1996 = .ok (.aload_n 3, 1) := by decide +kernel
theorem dL_law_1997 : decode cL_law 1997 = .ok (.iconst 0, 1) := by decide +kernel
theorem dL_law_1998 : decode cL_law 1998 = .ok (.laload, 1) := by decide +kernel
theorem dL_law_1999 : decode cL_law 1999 = .ok (.iload 7, 2) := by decide +kernel
theorem dL_law_2001 : decode cL_law 2001 = .ok (.i2l, 1) := by decide +kernel
theorem dL_law_2002 : decode cL_law 2002 = .ok (.lcmp, 1) := by decide +kernel
theorem dL_law_2003 : decode cL_law 2003 = .ok (.ifCond .eq 5, 3) := by decide +kernel
theorem dL_law_2006 : decode cL_law 2006 = .ok (.iconst 0, 1) := by decide +kernel
theorem dL_law_2007 : decode cL_law 2007 = .ok (.ireturn, 1) := by decide +kernel
theorem dL_law_2008 : decode cL_law 2008 = .ok (.goto 285, 3) := by decide +kernel
theorem dL_law_2011 : decode cL_law 2011 = .ok (.aload_n 1, 1) := by decide +kernel
theorem dL_law_2012 : decode cL_law 2012 = .ok (.aload_n 0, 1) := by decide +kernel
theorem dL_law_2013 : decode cL_law 2013 = .ok (.iload 5, 2) := by decide +kernel
theorem dL_law_2015 : decode cL_law 2015 = .ok (.iconst 1, 1) := by decide +kernel
theorem dL_law_2016 : decode cL_law 2016 = .ok (.iadd, 1) := by decide +kernel
theorem dL_law_2017 : decode cL_law 2017 = .ok (.iaload, 1) := by decide +kernel
theorem dL_law_2018 : decode cL_law 2018 = .ok (.aload_n 3, 1) := by decide +kernel
theorem dL_law_2019 : decode cL_law 2019 = .ok (.invokestatic 237, 3) := by decide +kernel
theorem dL_law_2022 : decode cL_law 2022 = .ok (.istore 6, 2) := by decide +kernel
theorem dL_law_2024 : decode cL_law 2024 = .ok (.aload_n 2, 1) := by decide +kernel
theorem dL_law_2025 : decode cL_law 2025 = .ok (.aload_n 0, 1) := by decide +kernel
theorem dL_law_2026 : decode cL_law 2026 = .ok (.iload 5, 2) := by decide +kernel
theorem dL_law_2028 : decode cL_law 2028 = .ok (.iconst 1, 1) := by decide +kernel
theorem dL_law_2029 : decode cL_law 2029 = .ok (.iadd, 1) := by decide +kernel
theorem dL_law_2030 : decode cL_law 2030 = .ok (.iaload, 1) := by decide +kernel
theorem dL_law_2031 : decode cL_law 2031 = .ok (.invokevirtual 239, 3) := by decide +kernel
theorem dL_law_2034 : decode cL_law 2034 = .ok (.istore 7, 2) := by decide +kernel
theorem dL_law_2036 : decode cL_law 2036 = .ok (.aload_n 2, 1) := by decide +kernel
theorem dL_law_2037 : decode cL_law 2037 = .ok (.invokevirtual 141, 3) := by decide +kernel
theorem dL_law_2040 : decode cL_law 2040 = .ok (.iload 6, 2) := by decide +kernel
theorem dL_law_2042 : decode cL_law 2042 = .ok (.if_icmp .eq 5, 3) := by decide +kernel
theorem dL_law_2045 : decode cL_law 2045 = .ok (.iconst 0, 1) := by decide +kernel
theorem dL_law_2046 : decode cL_law 2046 = .ok (.ireturn, 1) := by decide +kernel
theorem dL_law_2047 : decode cL_law 2047 = .ok (.iload 6, 2) := by decide +kernel
theorem dL_law_2049 : decode cL_law 2049 = .ok (.ifCond .ne 15, 3) := by decide +kernel
theorem dL_law_2052 : decode cL_law 2052 = .ok (.aload_n 3, 1) := by decide +kernel
theorem dL_law_2053 : decode cL_law 2053 = .ok (.iconst 0, 1) := by decide +kernel
theorem dL_law_2054 : decode cL_law 2054 = .ok (.laload, 1) := by decide +kernel
theorem dL_law_2055 : decode cL_law 2055 = .ok (.iload 7, 2) := by decide +kernel
theorem dL_law_2057 : decode cL_law 2057 = .ok (.i2l, 1) := by decide +kernel
theorem dL_law_2058 : decode cL_law 2058 = .ok (.lcmp, 1) := by decide +kernel
theorem dL_law_2059 : decode cL_law 2059 = .ok (.ifCond .eq 5, 3) := by decide +kernel
theorem dL_law_2062 : decode cL_law 2062 = .ok (.iconst 0, 1) := by decide +kernel
theorem dL_law_2063 : decode cL_law 2063 = .ok (.ireturn, 1) := by decide +kernel
theorem dL_law_2064 : decode cL_law 2064 = .ok (.goto 229, 3) := by decide +kernel
theorem dL_law_2067 : decode cL_law 2067 = .ok (.aload_n 1, 1) := by decide +kernel
theorem dL_law_2068 : decode cL_law 2068 = .ok (.aload_n 0, 1) := by decide +kernel
theorem dL_law_2069 : decode cL_law 2069 = .ok (.iload 5, 2) := by decide +kernel
theorem dL_law_2071 : decode cL_law 2071 = .ok (.iconst 1, 1) := by decide +kernel
theorem dL_law_2072 : decode cL_law 2072 = .ok (.iadd, 1) := by decide +kernel
theorem dL_law_2073 : decode cL_law 2073 = .ok (.iaload, 1) := by decide +kernel
theorem dL_law_2074 : decode cL_law 2074 = .ok (.aload_n 3, 1) := by decide +kernel
theorem dL_law_2075 : decode cL_law 2075 = .ok (.invokestatic 240, 3) := by decide +kernel
theorem dL_law_2078 : decode cL_law 2078 = .ok (.istore 6, 2) := by decide +kernel
theorem dL_law_2080 : decode cL_law 2080 = .ok (.aload_n 2, 1) := by decide +kernel
theorem dL_law_2081 : decode cL_law 2081 = .ok (.aload_n 0, 1) := by decide +kernel
theorem dL_law_2082 : decode cL_law 2082 = .ok (.iload 5, 2) := by decide +kernel
theorem dL_law_2084 : decode cL_law 2084 = .ok (.iconst 1, 1) := by decide +kernel
theorem dL_law_2085 : decode cL_law 2085 = .ok (.iadd, 1) := by decide +kernel
theorem dL_law_2086 : decode cL_law 2086 = .ok (.iaload, 1) := by decide +kernel
theorem dL_law_2087 : decode cL_law 2087 = .ok (.invokevirtual 242, 3) := by decide +kernel
theorem dL_law_2090 : decode cL_law 2090 = .ok (.istore 7, 2) := by decide +kernel
theorem dL_law_2092 : decode cL_law 2092 = .ok (.aload_n 2, 1) := by decide +kernel
theorem dL_law_2093 : decode cL_law 2093 = .ok (.invokevirtual 141, 3) := by decide +kernel
theorem dL_law_2096 : decode cL_law 2096 = .ok (.iload 6, 2) := by decide +kernel
theorem dL_law_2098 : decode cL_law 2098 = .ok (.if_icmp .eq 5, 3) := by decide +kernel
theorem dL_law_2101 : decode cL_law 2101 = .ok (.iconst 0, 1) := by decide +kernel
theorem dL_law_2102 : decode cL_law 2102 = .ok (.ireturn, 1) := by decide +kernel
theorem dL_law_2103 : decode cL_law 2103 = .ok (.iload 6, 2) := by decide +kernel
theorem dL_law_2105 : decode cL_law 2105 = .ok (.ifCond .ne 15, 3) := by decide +kernel
theorem dL_law_2108 : decode cL_law 2108 = .ok (.aload_n 3, 1) := by decide +kernel
theorem dL_law_2109 : decode cL_law 2109 = .ok (.iconst 0, 1) := by decide +kernel
theorem dL_law_2110 : decode cL_law 2110 = .ok (.laload, 1) := by decide +kernel
theorem dL_law_2111 : decode cL_law 2111 = .ok (.iload 7, 2) := by decide +kernel
theorem dL_law_2113 : decode cL_law 2113 = .ok (.i2l, 1) := by decide +kernel
theorem dL_law_2114 : decode cL_law 2114 = .ok (.lcmp, 1) := by decide +kernel
theorem dL_law_2115 : decode cL_law 2115 = .ok (.ifCond .eq 5, 3) := by decide +kernel
theorem dL_law_2118 : decode cL_law 2118 = .ok (.iconst 0, 1) := by decide +kernel
theorem dL_law_2119 : decode cL_law 2119 = .ok (.ireturn, 1) := by decide +kernel
theorem dL_law_2120 : decode cL_law 2120 = .ok (.goto 173, 3) := by decide +kernel
theorem dL_law_2123 : decode cL_law 2123 = .ok (.aload_n 1, 1) := by decide +kernel
theorem dL_law_2124 : decode cL_law 2124 = .ok (.aload_n 0, 1) := by decide +kernel
theorem dL_law_2125 : decode cL_law 2125 = .ok (.iload 5, 2) := by decide +kernel
theorem dL_law_2127 : decode cL_law 2127 = .ok (.iconst 1, 1) := by decide +kernel
theorem dL_law_2128 : decode cL_law 2128 = .ok (.iadd, 1) := by decide +kernel
theorem dL_law_2129 : decode cL_law 2129 = .ok (.iaload, 1) := by decide +kernel
theorem dL_law_2130 : decode cL_law 2130 = .ok (.aload 4, 2) := by decide +kernel
theorem dL_law_2132 : decode cL_law 2132 = .ok (.invokestatic 243, 3) := by decide +kernel
theorem dL_law_2135 : decode cL_law 2135 = .ok (.istore 6, 2) := by decide +kernel
theorem dL_law_2137 : decode cL_law 2137 = .ok (.aload_n 2, 1) := by decide +kernel
theorem dL_law_2138 : decode cL_law 2138 = .ok (.aload_n 0, 1) := by decide +kernel
theorem dL_law_2139 : decode cL_law 2139 = .ok (.iload 5, 2) := by decide +kernel
theorem dL_law_2141 : decode cL_law 2141 = .ok (.iconst 1, 1) := by decide +kernel
theorem dL_law_2142 : decode cL_law 2142 = .ok (.iadd, 1) := by decide +kernel
theorem dL_law_2143 : decode cL_law 2143 = .ok (.iaload, 1) := by decide +kernel
theorem dL_law_2144 : decode cL_law 2144 = .ok (.invokevirtual 246, 3) := by decide +kernel
theorem dL_law_2147 : decode cL_law 2147 = .ok (.fstore 7, 2) := by decide +kernel
theorem dL_law_2149 : decode cL_law 2149 = .ok (.aload_n 2, 1) := by decide +kernel
theorem dL_law_2150 : decode cL_law 2150 = .ok (.invokevirtual 141, 3) := by decide +kernel
theorem dL_law_2153 : decode cL_law 2153 = .ok (.iload 6, 2) := by decide +kernel
theorem dL_law_2155 : decode cL_law 2155 = .ok (.if_icmp .eq 5, 3) := by decide +kernel
theorem dL_law_2158 : decode cL_law 2158 = .ok (.iconst 0, 1) := by decide +kernel
theorem dL_law_2159 : decode cL_law 2159 = .ok (.ireturn, 1) := by decide +kernel
theorem dL_law_2160 : decode cL_law 2160 = .ok (.iload 6, 2) := by decide +kernel
theorem dL_law_2162 : decode cL_law 2162 = .ok (.ifCond .ne 36, 3) := by decide +kernel
theorem dL_law_2165 : decode cL_law 2165 = .ok (.aload 4, 2) := by decide +kernel
theorem dL_law_2167 : decode cL_law 2167 = .ok (.iconst 0, 1) := by decide +kernel
theorem dL_law_2168 : decode cL_law 2168 = .ok (.daload, 1) := by decide +kernel
theorem dL_law_2169 : decode cL_law 2169 = .ok (.fload 7, 2) := by decide +kernel
theorem dL_law_2171 : decode cL_law 2171 = .ok (.f2d, 1) := by decide +kernel
theorem dL_law_2172 : decode cL_law 2172 = .ok (.dcmp .l, 1) := by decide +kernel
theorem dL_law_2173 : decode cL_law 2173 = .ok (.ifCond .eq 25, 3) := by decide +kernel
theorem dL_law_2176 : decode cL_law 2176 = .ok (.aload 4, 2) := by decide +kernel
theorem dL_law_2178 : decode cL_law 2178 = .ok (.iconst 0, 1) := by decide +kernel
theorem dL_law_2179 : decode cL_law 2179 = .ok (.daload, 1) := by decide +kernel
theorem dL_law_2180 : decode cL_law 2180 = .ok (.aload 4, 2) := by decide +kernel
theorem dL_law_2182 : decode cL_law 2182 = .ok (.iconst 0, 1) := by decide +kernel
theorem dL_law_2183 : decode cL_law 2183 = .ok (.daload, 1) := by decide +kernel
theorem dL_law_2184 : decode cL_law 2184 = .ok (.dcmp .l, 1) := by decide +kernel
theorem dL_law_2185 : decode cL_law 2185 = .ok (.ifCond .eq 11, 3) := by decide +kernel
theorem dL_law_2188 : decode cL_law 2188 = .ok (.fload 7, 2) := by decide +kernel
theorem dL_law_2190 : decode cL_law 2190 = .ok (.fload 7, 2) := by decide +kernel
theorem dL_law_2192 : decode cL_law 2192 = .ok (.fcmp .l, 1) := by decide +kernel
theorem dL_law_2193 : decode cL_law 2193 = .ok (.ifCond .ne 5, 3) := by decide +kernel
theorem dL_law_2196 : decode cL_law 2196 = .ok (.iconst 0, 1) := by decide +kernel
theorem dL_law_2197 : decode cL_law 2197 = .ok (.ireturn, 1) := by decide +kernel
theorem dL_law_2198 : decode cL_law 2198 = .ok (.goto 95, 3) := by decide +kernel
theorem dL_law_2201 : decode cL_law 2201 = .ok (.aload_n 1, 1) := by decide +kernel
theorem dL_law_2202 : decode cL_law 2202 = .ok (.aload 4, 2) := by decide +kernel
theorem dL_law_2204 : decode cL_law 2204 = .ok (.invokestatic 247, 3) := by decide +kernel
theorem dL_law_2207 : decode cL_law 2207 = .ok (.istore 6, 2) := by decide +kernel
theorem dL_law_2209 : decode cL_law 2209 = .ok (.aload_n 2, 1) := by decide +kernel
theorem dL_law_2210 : decode cL_law 2210 = .ok (.invokevirtual 250, 3) := by decide +kernel
theorem dL_law_2213 : decode cL_law 2213 = .ok (.dstore 7, 2) := by decide +kernel
theorem dL_law_2215 : decode cL_law 2215 = .ok (.aload_n 2, 1) := by decide +kernel
theorem dL_law_2216 : decode cL_law 2216 = .ok (.invokevirtual 141, 3) := by decide +kernel
theorem dL_law_2219 : decode cL_law 2219 = .ok (.iload 6, 2) := by decide +kernel
theorem dL_law_2221 : decode cL_law 2221 = .ok (.if_icmp .eq 5, 3) := by decide +kernel
theorem dL_law_2224 : decode cL_law 2224 = .ok (.iconst 0, 1) := by decide +kernel
theorem dL_law_2225 : decode cL_law 2225 = .ok (.ireturn, 1) := by decide +kernel
theorem dL_law_2226 : decode cL_law 2226 = .ok (.iload 6, 2) := by decide +kernel
theorem dL_law_2228 : decode cL_law 2228 = .ok (.ifCond .ne 35, 3) := by decide +kernel
theorem dL_law_2231 : decode cL_law 2231 = .ok (.aload 4, 2) := by decide +kernel
theorem dL_law_2233 : decode cL_law 2233 = .ok (.iconst 0, 1) := by decide +kernel
theorem dL_law_2234 : decode cL_law 2234 = .ok (.daload, 1) := by decide +kernel
theorem dL_law_2235 : decode cL_law 2235 = .ok (.dload 7, 2) := by decide +kernel
theorem dL_law_2237 : decode cL_law 2237 = .ok (.dcmp .l, 1) := by decide +kernel
theorem dL_law_2238 : decode cL_law 2238 = .ok (.ifCond .eq 25, 3) := by decide +kernel
theorem dL_law_2241 : decode cL_law 2241 = .ok (.aload 4, 2) := by decide +kernel
theorem dL_law_2243 : decode cL_law 2243 = .ok (.iconst 0, 1) := by decide +kernel
theorem dL_law_2244 : decode cL_law 2244 = .ok (.daload, 1) := by decide +kernel
theorem dL_law_2245 : decode cL_law 2245 = .ok (.aload 4, 2) := by decide +kernel
theorem dL_law_2247 : decode cL_law 2247 = .ok (.iconst 0, 1) := by decide +kernel
theorem dL_law_2248 : decode cL_law 2248 = .ok (.daload, 1) := by decide +kernel
theorem dL_law_2249 : decode cL_law 2249 = .ok (.dcmp .l, 1) := by decide +kernel
theorem dL_law_2250 : decode cL_law 2250 = .ok (.ifCond .eq 11, 3) := by decide +kernel
theorem dL_law_2253 : decode cL_law 2253 = .ok (.dload 7, 2) := by decide +kernel
theorem dL_law_2255 : decode cL_law 2255 = .ok (.dload 7, 2) := by decide +kernel
theorem dL_law_2257 : decode cL_law 2257 = .ok (.dcmp .l, 1) := by decide +kernel
theorem dL_law_2258 : decode cL_law 2258 = .ok (.ifCond .ne 5, 3) := by decide +kernel
theorem dL_law_2261 : decode cL_law 2261 = .ok (.iconst 0, 1) := by decide +kernel
theorem dL_law_2262 : decode cL_law 2262 = .ok (.ireturn, 1) := by decide +kernel
theorem dL_law_2263 : decode cL_law 2263 = .ok (.goto 30, 3) := by decide +kernel
theorem dL_law_2266 : decode cL_law 2266 = .ok (.aload_n 1, 1) := by decide +kernel
theorem dL_law_2267 : decode cL_law 2267 = .ok (.invokevirtual 251, 3) := by decide +kernel
theorem dL_law_2270 : decode cL_law 2270 = .ok (.aload_n 2, 1) := by decide +kernel
theorem dL_law_2271 : decode cL_law 2271 = .ok (.invokevirtual 255, 3) := by decide +kernel
theorem dL_law_2274 : decode cL_law 2274 = .ok (.lcmp, 1) := by decide +kernel
theorem dL_law_2275 : decode cL_law 2275 = .ok (.ifCond .eq 18, 3) := by decide +kernel
theorem dL_law_2278 : decode cL_law 2278 = .ok (.iconst 0, 1) := by decide +kernel
theorem dL_law_2279 : decode cL_law 2279 = .ok (.ireturn, 1) := by decide +kernel
theorem dL_law_2280 : decode cL_law 2280 = .ok (.aload_n 1, 1) := by decide +kernel
theorem dL_law_2281 : decode cL_law 2281 = .ok (.invokevirtual 256, 3) := by decide +kernel
theorem dL_law_2284 : decode cL_law 2284 = .ok (.aload_n 2, 1) := by decide +kernel
theorem dL_law_2285 : decode cL_law 2285 = .ok (.invokevirtual 260, 3) := by decide +kernel
theorem dL_law_2288 : decode cL_law 2288 = .ok (.if_icmp .eq 5, 3) := by decide +kernel
theorem dL_law_2291 : decode cL_law 2291 = .ok (.iconst 0, 1) := by decide +kernel
theorem dL_law_2292 : decode cL_law 2292 = .ok (.ireturn, 1) := by decide +kernel
theorem dL_law_2293 : decode cL_law 2293 = .ok (.iinc 5 5, 3) := by decide +kernel
theorem dL_law_2296 : decode cL_law 2296 = .ok (.goto (-2268), 3) := by decide +kernel
theorem dL_law_2299 : decode cL_law 2299 = .ok (.iconst 1, 1) := by decide +kernel
theorem dL_law_2300 : decode cL_law 2300 = .ok (.ireturn, 1) := by decide +kernel
end
