section
/-- a private method of a class that the tables say can be made, by its rows of tables_1 -/
def lw_okq (q : MethodName × Nat) : Prop := (q.1.cls ≠ "java/lang/invoke/MethodHandle" ∧ q.1.cls ≠ "java/lang/invoke/VarHandle") ∧ Cond.instantiable q.1.cls q.2 ∈ tables_1 ∧ Cond.privateMethod q.1 ∈ tables_1 ∧ Cond.instanceMethod q.1 ∈ tables_1
theorem lw_p0 : lw_okq (⟨"ChalkWarrants", "change", "()I"⟩, 14) := ⟨⟨by decide +kernel, by decide +kernel⟩, List.mem_of_getElem? (i := 35) (by decide +kernel), List.mem_of_getElem? (i := 352) (by decide +kernel), List.mem_of_getElem? (i := 353) (by decide +kernel)⟩
theorem lw_p1 : lw_okq (⟨"ChalkWarrants$Reasons", "refuseChild", "(LChalkWarrants$Yard;I)Z"⟩, 3) := ⟨⟨by decide +kernel, by decide +kernel⟩, List.mem_of_getElem? (i := 145) (by decide +kernel), List.mem_of_getElem? (i := 360) (by decide +kernel), List.mem_of_getElem? (i := 361) (by decide +kernel)⟩
theorem lw_p2 : lw_okq (⟨"ChalkWarrants$Reasons", "lacksRange", "(III)Z"⟩, 3) := ⟨⟨by decide +kernel, by decide +kernel⟩, List.mem_of_getElem? (i := 145) (by decide +kernel), List.mem_of_getElem? (i := 364) (by decide +kernel), List.mem_of_getElem? (i := 365) (by decide +kernel)⟩
theorem lw_p3 : lw_okq (⟨"ChalkWarrants$Reasons", "keep", "(II)Z"⟩, 3) := ⟨⟨by decide +kernel, by decide +kernel⟩, List.mem_of_getElem? (i := 145) (by decide +kernel), List.mem_of_getElem? (i := 368) (by decide +kernel), List.mem_of_getElem? (i := 369) (by decide +kernel)⟩
theorem lw_p4 : lw_okq (⟨"ChalkWarrants$Reasons", "refuseChalk", "(LChalkWarrants$Yard;II)Z"⟩, 3) := ⟨⟨by decide +kernel, by decide +kernel⟩, List.mem_of_getElem? (i := 145) (by decide +kernel), List.mem_of_getElem? (i := 372) (by decide +kernel), List.mem_of_getElem? (i := 373) (by decide +kernel)⟩
theorem lw_p5 : lw_okq (⟨"ChalkWarrants$Reasons", "lacksChild", "(LChalkWarrants$Yard;I)Z"⟩, 3) := ⟨⟨by decide +kernel, by decide +kernel⟩, List.mem_of_getElem? (i := 145) (by decide +kernel), List.mem_of_getElem? (i := 376) (by decide +kernel), List.mem_of_getElem? (i := 377) (by decide +kernel)⟩
theorem lw_p6 : lw_okq (⟨"ChalkWarrants$Reasons", "lacksPebbles", "(LChalkWarrants$Yard;II)Z"⟩, 3) := ⟨⟨by decide +kernel, by decide +kernel⟩, List.mem_of_getElem? (i := 145) (by decide +kernel), List.mem_of_getElem? (i := 384) (by decide +kernel), List.mem_of_getElem? (i := 385) (by decide +kernel)⟩
theorem lw_p7 : lw_okq (⟨"ChalkWarrants$Reasons", "refuseHop", "(LChalkWarrants$Yard;ILChalkWarrants$Steps;)Z"⟩, 3) := ⟨⟨by decide +kernel, by decide +kernel⟩, List.mem_of_getElem? (i := 145) (by decide +kernel), List.mem_of_getElem? (i := 388) (by decide +kernel), List.mem_of_getElem? (i := 389) (by decide +kernel)⟩
theorem lw_p8 : lw_okq (⟨"ChalkWarrants$Reasons", "isWanted", "(LChalkWarrants$Yard;I)Z"⟩, 3) := ⟨⟨by decide +kernel, by decide +kernel⟩, List.mem_of_getElem? (i := 145) (by decide +kernel), List.mem_of_getElem? (i := 392) (by decide +kernel), List.mem_of_getElem? (i := 393) (by decide +kernel)⟩
theorem lw_p9 : lw_okq (⟨"ChalkWarrants$Reasons", "refuseWarrant", "(LChalkWarrants$Yard;I)Z"⟩, 3) := ⟨⟨by decide +kernel, by decide +kernel⟩, List.mem_of_getElem? (i := 145) (by decide +kernel), List.mem_of_getElem? (i := 400) (by decide +kernel), List.mem_of_getElem? (i := 401) (by decide +kernel)⟩
theorem lw_p10 : lw_okq (⟨"ChalkWarrants$Reasons", "refuseStrike", "(LChalkWarrants$Yard;I)Z"⟩, 3) := ⟨⟨by decide +kernel, by decide +kernel⟩, List.mem_of_getElem? (i := 145) (by decide +kernel), List.mem_of_getElem? (i := 404) (by decide +kernel), List.mem_of_getElem? (i := 405) (by decide +kernel)⟩
theorem lw_p11 : lw_okq (⟨"ChalkWarrants$Reasons", "refuseRain", "(LChalkWarrants$Yard;I)Z"⟩, 3) := ⟨⟨by decide +kernel, by decide +kernel⟩, List.mem_of_getElem? (i := 145) (by decide +kernel), List.mem_of_getElem? (i := 408) (by decide +kernel), List.mem_of_getElem? (i := 409) (by decide +kernel)⟩
theorem lw_p12 : lw_okq (⟨"ChalkWarrants$Reasons", "refuseTerm", "(LChalkWarrants$Yard;)Z"⟩, 3) := ⟨⟨by decide +kernel, by decide +kernel⟩, List.mem_of_getElem? (i := 145) (by decide +kernel), List.mem_of_getElem? (i := 416) (by decide +kernel), List.mem_of_getElem? (i := 417) (by decide +kernel)⟩
theorem lw_p13 : lw_okq (⟨"ChalkWarrants$Reasons", "refuseGift", "(LChalkWarrants$Yard;III)Z"⟩, 3) := ⟨⟨by decide +kernel, by decide +kernel⟩, List.mem_of_getElem? (i := 145) (by decide +kernel), List.mem_of_getElem? (i := 420) (by decide +kernel), List.mem_of_getElem? (i := 421) (by decide +kernel)⟩
theorem lw_p14 : lw_okq (⟨"java/lang/Throwable", "fillInStackTrace", "(I)Ljava/lang/Throwable;"⟩, 6) := ⟨⟨by decide +kernel, by decide +kernel⟩, List.mem_of_getElem? (i := 466) (by decide +kernel), List.mem_of_getElem? (i := 464) (by decide +kernel), List.mem_of_getElem? (i := 465) (by decide +kernel)⟩
theorem lw_p15 : lw_okq (⟨"ChalkWarrants$Yard", "bring", "(I)I"⟩, 17) := ⟨⟨by decide +kernel, by decide +kernel⟩, List.mem_of_getElem? (i := 43) (by decide +kernel), List.mem_of_getElem? (i := 501) (by decide +kernel), List.mem_of_getElem? (i := 502) (by decide +kernel)⟩
def lw_privs_1 : List (MethodName × Nat) := [(⟨"ChalkWarrants", "change", "()I"⟩, 14), (⟨"ChalkWarrants$Reasons", "refuseChild", "(LChalkWarrants$Yard;I)Z"⟩, 3), (⟨"ChalkWarrants$Reasons", "lacksRange", "(III)Z"⟩, 3), (⟨"ChalkWarrants$Reasons", "keep", "(II)Z"⟩, 3), (⟨"ChalkWarrants$Reasons", "refuseChalk", "(LChalkWarrants$Yard;II)Z"⟩, 3), (⟨"ChalkWarrants$Reasons", "lacksChild", "(LChalkWarrants$Yard;I)Z"⟩, 3), (⟨"ChalkWarrants$Reasons", "lacksPebbles", "(LChalkWarrants$Yard;II)Z"⟩, 3), (⟨"ChalkWarrants$Reasons", "refuseHop", "(LChalkWarrants$Yard;ILChalkWarrants$Steps;)Z"⟩, 3), (⟨"ChalkWarrants$Reasons", "isWanted", "(LChalkWarrants$Yard;I)Z"⟩, 3), (⟨"ChalkWarrants$Reasons", "refuseWarrant", "(LChalkWarrants$Yard;I)Z"⟩, 3), (⟨"ChalkWarrants$Reasons", "refuseStrike", "(LChalkWarrants$Yard;I)Z"⟩, 3), (⟨"ChalkWarrants$Reasons", "refuseRain", "(LChalkWarrants$Yard;I)Z"⟩, 3), (⟨"ChalkWarrants$Reasons", "refuseTerm", "(LChalkWarrants$Yard;)Z"⟩, 3), (⟨"ChalkWarrants$Reasons", "refuseGift", "(LChalkWarrants$Yard;III)Z"⟩, 3), (⟨"java/lang/Throwable", "fillInStackTrace", "(I)Ljava/lang/Throwable;"⟩, 6), (⟨"ChalkWarrants$Yard", "bring", "(I)I"⟩, 17)]
theorem lw_r1 : ∀ q ∈ lw_privs_1, lw_okq q := List.forall_mem_cons.mpr ⟨lw_p0, List.forall_mem_cons.mpr ⟨lw_p1, List.forall_mem_cons.mpr ⟨lw_p2, List.forall_mem_cons.mpr ⟨lw_p3, List.forall_mem_cons.mpr ⟨lw_p4, List.forall_mem_cons.mpr ⟨lw_p5, List.forall_mem_cons.mpr ⟨lw_p6, List.forall_mem_cons.mpr ⟨lw_p7, List.forall_mem_cons.mpr ⟨lw_p8, List.forall_mem_cons.mpr ⟨lw_p9, List.forall_mem_cons.mpr ⟨lw_p10, List.forall_mem_cons.mpr ⟨lw_p11, List.forall_mem_cons.mpr ⟨lw_p12, List.forall_mem_cons.mpr ⟨lw_p13, List.forall_mem_cons.mpr ⟨lw_p14, List.forall_mem_cons.mpr ⟨lw_p15, fun _ h => absurd h List.not_mem_nil⟩⟩⟩⟩⟩⟩⟩⟩⟩⟩⟩⟩⟩⟩⟩⟩
theorem lw_p16 : lw_okq (⟨"ChalkWarrants$Yard", "chalkOn", "(II)I"⟩, 17) := ⟨⟨by decide +kernel, by decide +kernel⟩, List.mem_of_getElem? (i := 43) (by decide +kernel), List.mem_of_getElem? (i := 505) (by decide +kernel), List.mem_of_getElem? (i := 506) (by decide +kernel)⟩
theorem lw_p17 : lw_okq (⟨"ChalkWarrants$Yard", "hopBy", "(ILChalkWarrants$Steps;)I"⟩, 17) := ⟨⟨by decide +kernel, by decide +kernel⟩, List.mem_of_getElem? (i := 43) (by decide +kernel), List.mem_of_getElem? (i := 512) (by decide +kernel), List.mem_of_getElem? (i := 513) (by decide +kernel)⟩
theorem lw_p18 : lw_okq (⟨"ChalkWarrants$Yard", "takeChalk", "(II)Z"⟩, 17) := ⟨⟨by decide +kernel, by decide +kernel⟩, List.mem_of_getElem? (i := 43) (by decide +kernel), List.mem_of_getElem? (i := 524) (by decide +kernel), List.mem_of_getElem? (i := 525) (by decide +kernel)⟩
theorem lw_p19 : lw_okq (⟨"ChalkWarrants$Yard", "writeAgainst", "(I)I"⟩, 17) := ⟨⟨by decide +kernel, by decide +kernel⟩, List.mem_of_getElem? (i := 43) (by decide +kernel), List.mem_of_getElem? (i := 528) (by decide +kernel), List.mem_of_getElem? (i := 529) (by decide +kernel)⟩
theorem lw_p20 : lw_okq (⟨"ChalkWarrants$Yard", "strikeOut", "(I)I"⟩, 17) := ⟨⟨by decide +kernel, by decide +kernel⟩, List.mem_of_getElem? (i := 43) (by decide +kernel), List.mem_of_getElem? (i := 532) (by decide +kernel), List.mem_of_getElem? (i := 533) (by decide +kernel)⟩
theorem lw_p21 : lw_okq (⟨"ChalkWarrants$Yard", "closeOrder", "()I"⟩, 17) := ⟨⟨by decide +kernel, by decide +kernel⟩, List.mem_of_getElem? (i := 43) (by decide +kernel), List.mem_of_getElem? (i := 536) (by decide +kernel), List.mem_of_getElem? (i := 537) (by decide +kernel)⟩
theorem lw_p22 : lw_okq (⟨"ChalkWarrants$Yard", "payRents", "(I)I"⟩, 17) := ⟨⟨by decide +kernel, by decide +kernel⟩, List.mem_of_getElem? (i := 43) (by decide +kernel), List.mem_of_getElem? (i := 548) (by decide +kernel), List.mem_of_getElem? (i := 549) (by decide +kernel)⟩
theorem lw_p23 : lw_okq (⟨"ChalkWarrants$Yard", "handOver", "(III)I"⟩, 17) := ⟨⟨by decide +kernel, by decide +kernel⟩, List.mem_of_getElem? (i := 43) (by decide +kernel), List.mem_of_getElem? (i := 552) (by decide +kernel), List.mem_of_getElem? (i := 553) (by decide +kernel)⟩
theorem lw_p24 : lw_okq (⟨"ChalkWarrants", "checkChild", "(I)V"⟩, 14) := ⟨⟨by decide +kernel, by decide +kernel⟩, List.mem_of_getElem? (i := 35) (by decide +kernel), List.mem_of_getElem? (i := 604) (by decide +kernel), List.mem_of_getElem? (i := 605) (by decide +kernel)⟩
theorem lw_p25 : lw_okq (⟨"ChalkWarrants$Ways", "tryStep", "(LChalkWarrants$Yard;III)V"⟩, 3) := ⟨⟨by decide +kernel, by decide +kernel⟩, List.mem_of_getElem? (i := 250) (by decide +kernel), List.mem_of_getElem? (i := 655) (by decide +kernel), List.mem_of_getElem? (i := 656) (by decide +kernel)⟩
theorem lw_p26 : lw_okq (⟨"ChalkWarrants$Ways", "lineAt", "(LChalkWarrants$Yard;II)I"⟩, 3) := ⟨⟨by decide +kernel, by decide +kernel⟩, List.mem_of_getElem? (i := 250) (by decide +kernel), List.mem_of_getElem? (i := 659) (by decide +kernel), List.mem_of_getElem? (i := 660) (by decide +kernel)⟩
theorem lw_p27 : lw_okq (⟨"ChalkWarrants$Reader", "signAt", "(LChalkWarrants$Signs;)I"⟩, 1) := ⟨⟨by decide +kernel, by decide +kernel⟩, List.mem_of_getElem? (i := 239) (by decide +kernel), List.mem_of_getElem? (i := 744) (by decide +kernel), List.mem_of_getElem? (i := 745) (by decide +kernel)⟩
theorem lw_p28 : lw_okq (⟨"ChalkWarrants$Reader", "isKind", "(I)Z"⟩, 1) := ⟨⟨by decide +kernel, by decide +kernel⟩, List.mem_of_getElem? (i := 239) (by decide +kernel), List.mem_of_getElem? (i := 748) (by decide +kernel), List.mem_of_getElem? (i := 749) (by decide +kernel)⟩
theorem lw_p29 : lw_okq (⟨"ChalkWarrants$Reader", "takeNumber", "(LChalkWarrants$Signs;LChalkWarrants$Command;)Z"⟩, 1) := ⟨⟨by decide +kernel, by decide +kernel⟩, List.mem_of_getElem? (i := 239) (by decide +kernel), List.mem_of_getElem? (i := 753) (by decide +kernel), List.mem_of_getElem? (i := 754) (by decide +kernel)⟩
theorem lw_p30 : lw_okq (⟨"ChalkWarrants$Reader", "takeDigit", "(LChalkWarrants$Signs;LChalkWarrants$Command;)Z"⟩, 1) := ⟨⟨by decide +kernel, by decide +kernel⟩, List.mem_of_getElem? (i := 239) (by decide +kernel), List.mem_of_getElem? (i := 757) (by decide +kernel), List.mem_of_getElem? (i := 758) (by decide +kernel)⟩
theorem lw_p31 : lw_okq (⟨"ChalkWarrants$Reader", "digitAt", "(LChalkWarrants$Signs;)I"⟩, 1) := ⟨⟨by decide +kernel, by decide +kernel⟩, List.mem_of_getElem? (i := 239) (by decide +kernel), List.mem_of_getElem? (i := 761) (by decide +kernel), List.mem_of_getElem? (i := 762) (by decide +kernel)⟩
def lw_privs_2 : List (MethodName × Nat) := [(⟨"ChalkWarrants$Yard", "chalkOn", "(II)I"⟩, 17), (⟨"ChalkWarrants$Yard", "hopBy", "(ILChalkWarrants$Steps;)I"⟩, 17), (⟨"ChalkWarrants$Yard", "takeChalk", "(II)Z"⟩, 17), (⟨"ChalkWarrants$Yard", "writeAgainst", "(I)I"⟩, 17), (⟨"ChalkWarrants$Yard", "strikeOut", "(I)I"⟩, 17), (⟨"ChalkWarrants$Yard", "closeOrder", "()I"⟩, 17), (⟨"ChalkWarrants$Yard", "payRents", "(I)I"⟩, 17), (⟨"ChalkWarrants$Yard", "handOver", "(III)I"⟩, 17), (⟨"ChalkWarrants", "checkChild", "(I)V"⟩, 14), (⟨"ChalkWarrants$Ways", "tryStep", "(LChalkWarrants$Yard;III)V"⟩, 3), (⟨"ChalkWarrants$Ways", "lineAt", "(LChalkWarrants$Yard;II)I"⟩, 3), (⟨"ChalkWarrants$Reader", "signAt", "(LChalkWarrants$Signs;)I"⟩, 1), (⟨"ChalkWarrants$Reader", "isKind", "(I)Z"⟩, 1), (⟨"ChalkWarrants$Reader", "takeNumber", "(LChalkWarrants$Signs;LChalkWarrants$Command;)Z"⟩, 1), (⟨"ChalkWarrants$Reader", "takeDigit", "(LChalkWarrants$Signs;LChalkWarrants$Command;)Z"⟩, 1), (⟨"ChalkWarrants$Reader", "digitAt", "(LChalkWarrants$Signs;)I"⟩, 1)]
theorem lw_r2 : ∀ q ∈ lw_privs_2, lw_okq q := List.forall_mem_cons.mpr ⟨lw_p16, List.forall_mem_cons.mpr ⟨lw_p17, List.forall_mem_cons.mpr ⟨lw_p18, List.forall_mem_cons.mpr ⟨lw_p19, List.forall_mem_cons.mpr ⟨lw_p20, List.forall_mem_cons.mpr ⟨lw_p21, List.forall_mem_cons.mpr ⟨lw_p22, List.forall_mem_cons.mpr ⟨lw_p23, List.forall_mem_cons.mpr ⟨lw_p24, List.forall_mem_cons.mpr ⟨lw_p25, List.forall_mem_cons.mpr ⟨lw_p26, List.forall_mem_cons.mpr ⟨lw_p27, List.forall_mem_cons.mpr ⟨lw_p28, List.forall_mem_cons.mpr ⟨lw_p29, List.forall_mem_cons.mpr ⟨lw_p30, List.forall_mem_cons.mpr ⟨lw_p31, fun _ h => absurd h List.not_mem_nil⟩⟩⟩⟩⟩⟩⟩⟩⟩⟩⟩⟩⟩⟩⟩⟩
theorem lw_p32 : lw_okq (⟨"ChalkWarrants$Reader", "passDigit", "(LChalkWarrants$Signs;)Z"⟩, 1) := ⟨⟨by decide +kernel, by decide +kernel⟩, List.mem_of_getElem? (i := 239) (by decide +kernel), List.mem_of_getElem? (i := 765) (by decide +kernel), List.mem_of_getElem? (i := 766) (by decide +kernel)⟩
theorem lw_p33 : lw_okq (⟨"ChalkWarrants$Reader", "takeChild", "(LChalkWarrants$Signs;LChalkWarrants$Command;)Z"⟩, 1) := ⟨⟨by decide +kernel, by decide +kernel⟩, List.mem_of_getElem? (i := 239) (by decide +kernel), List.mem_of_getElem? (i := 769) (by decide +kernel), List.mem_of_getElem? (i := 770) (by decide +kernel)⟩
theorem lw_p34 : lw_okq (⟨"ChalkWarrants$Reader", "takeSteps", "(LChalkWarrants$Signs;LChalkWarrants$Steps;)Z"⟩, 1) := ⟨⟨by decide +kernel, by decide +kernel⟩, List.mem_of_getElem? (i := 239) (by decide +kernel), List.mem_of_getElem? (i := 777) (by decide +kernel), List.mem_of_getElem? (i := 778) (by decide +kernel)⟩
theorem lw_p35 : lw_okq (⟨"ChalkWarrants$Reader", "takeOther", "(LChalkWarrants$Signs;LChalkWarrants$Command;)Z"⟩, 1) := ⟨⟨by decide +kernel, by decide +kernel⟩, List.mem_of_getElem? (i := 239) (by decide +kernel), List.mem_of_getElem? (i := 782) (by decide +kernel), List.mem_of_getElem? (i := 783) (by decide +kernel)⟩
theorem lw_p36 : lw_okq (⟨"ChalkWarrants", "carryOutText", "()I"⟩, 14) := ⟨⟨by decide +kernel, by decide +kernel⟩, List.mem_of_getElem? (i := 35) (by decide +kernel), List.mem_of_getElem? (i := 786) (by decide +kernel), List.mem_of_getElem? (i := 787) (by decide +kernel)⟩
theorem lw_p37 : lw_okq (⟨"ChalkWarrants$Yard", "measureOf", "(II)I"⟩, 17) := ⟨⟨by decide +kernel, by decide +kernel⟩, List.mem_of_getElem? (i := 43) (by decide +kernel), List.mem_of_getElem? (i := 979) (by decide +kernel), List.mem_of_getElem? (i := 980) (by decide +kernel)⟩
theorem lw_p38 : lw_okq (⟨"ChalkWarrants", "putBlankBetween", "()V"⟩, 14) := ⟨⟨by decide +kernel, by decide +kernel⟩, List.mem_of_getElem? (i := 35) (by decide +kernel), List.mem_of_getElem? (i := 1003) (by decide +kernel), List.mem_of_getElem? (i := 1004) (by decide +kernel)⟩
theorem lw_p39 : lw_okq (⟨"ChalkWarrants", "putPair", "(ICI)V"⟩, 14) := ⟨⟨by decide +kernel, by decide +kernel⟩, List.mem_of_getElem? (i := 35) (by decide +kernel), List.mem_of_getElem? (i := 1007) (by decide +kernel), List.mem_of_getElem? (i := 1008) (by decide +kernel)⟩
def lw_privs_3 : List (MethodName × Nat) := [(⟨"ChalkWarrants$Reader", "passDigit", "(LChalkWarrants$Signs;)Z"⟩, 1), (⟨"ChalkWarrants$Reader", "takeChild", "(LChalkWarrants$Signs;LChalkWarrants$Command;)Z"⟩, 1), (⟨"ChalkWarrants$Reader", "takeSteps", "(LChalkWarrants$Signs;LChalkWarrants$Steps;)Z"⟩, 1), (⟨"ChalkWarrants$Reader", "takeOther", "(LChalkWarrants$Signs;LChalkWarrants$Command;)Z"⟩, 1), (⟨"ChalkWarrants", "carryOutText", "()I"⟩, 14), (⟨"ChalkWarrants$Yard", "measureOf", "(II)I"⟩, 17), (⟨"ChalkWarrants", "putBlankBetween", "()V"⟩, 14), (⟨"ChalkWarrants", "putPair", "(ICI)V"⟩, 14)]
theorem lw_r3 : ∀ q ∈ lw_privs_3, lw_okq q := List.forall_mem_cons.mpr ⟨lw_p32, List.forall_mem_cons.mpr ⟨lw_p33, List.forall_mem_cons.mpr ⟨lw_p34, List.forall_mem_cons.mpr ⟨lw_p35, List.forall_mem_cons.mpr ⟨lw_p36, List.forall_mem_cons.mpr ⟨lw_p37, List.forall_mem_cons.mpr ⟨lw_p38, List.forall_mem_cons.mpr ⟨lw_p39, fun _ h => absurd h List.not_mem_nil⟩⟩⟩⟩⟩⟩⟩⟩
def lw_privs : List (MethodName × Nat) := lw_privs_1 ++ (lw_privs_2 ++ (lw_privs_3))
def lw_tbl : List Cond := k2_sels lw_privs ++ tables_1
theorem lw_privs_ok : ∀ q ∈ lw_privs, lw_okq q := by
  show ∀ q ∈ lw_privs_1 ++ (lw_privs_2 ++ (lw_privs_3)), lw_okq q
  exact List.forall_mem_append.mpr ⟨lw_r1, List.forall_mem_append.mpr ⟨lw_r2, lw_r3⟩⟩
/-- the streams that the claim lets the run draw from -/
abbrev lw_cs : List Choice := [Jvm.Choice.named "NaN.bits"]
theorem lw_bits : nanBits ∈ lw_cs := by first | decide | exact List.mem_cons_self | simp [lw_cs, nanBits]
end
section
/-! ===== BEGIN words of one list among another's, by their places ===== -/
theorem goodIn_r {big : List Cond} (ws : List Cond) (ps : List Nat) (hp : ws = ps.filterMap (fun i => big[i]?)) (h : ws.all goodWord = true) : GoodIn big ws := by
  intro w hw
  have h1 := List.all_eq_true.mp h w hw
  rw [hp] at hw
  obtain ⟨i, -, hi⟩ := List.mem_filterMap.mp hw
  have hm : w ∈ big := by first | exact List.mem_of_getElem? hi | exact List.getElem?_mem hi
  exact ⟨hm, good_of_word h1⟩
theorem goodIn_app {big a b : List Cond} (ha : GoodIn big a) (hb : GoodIn big b) : GoodIn big (a ++ b) := fun w h => (List.mem_append.mp h).elim (ha w) (hb w)
theorem goodIn_ca {big a b : List Cond} {c : Cond} (ha : GoodIn big (c :: a)) (hb : GoodIn big b) : GoodIn big (c :: (a ++ b)) := fun w h => (List.mem_cons.mp h).elim (fun e => ha w (List.mem_cons.mpr (Or.inl e))) (fun h => (List.mem_append.mp h).elim (fun h => ha w (List.mem_cons.mpr (Or.inr h))) (hb w))
theorem goodIn_sub {big ws : List Cond} (hm : ∀ w ∈ ws, w ∈ big) (h : ws.all goodWord = true) : GoodIn big ws := fun w hw => ⟨hm w hw, good_of_word (List.all_eq_true.mp h w hw)⟩
/-! ===== END ===== -/
/-! ===== BEGIN exceptions that leave a method, and their catching by the caller (launches without stack traces) ===== -/
section VXA
/-! The laws vx_back, vx_callV, vx_callS, vx_callSW, vx_throw0, vx_throwS follow proofs of the library, with one case more: JvmDerived/Free/Laws.lean (Back.of_free), Shelf42/LK1.lean (callV, callS), Shelf/KitTraced.lean (throwNew0V, throwNewS). -/
/-- where a method has thrown q: the class by its name, the cell, what was written, the world -/
def vx_T (XC : String → State → State → Prop) (st : State) (q : Addr) (t : State) (mc ms : Nat) (free : Addr → Prop) : Prop :=
  ∃ (E : String) (ce : Cell) (L : List Loc), XC E st t ∧ t.heap[q]? = some ce ∧ ce.vm = .none ∧ st.vm.findClass E = some ce.cls ∧ st.WarmedH t.vm ∧ st.sameButNew ({ t with vm := st.vm } : State) L mc ms ∧ ∀ z ∈ L, free z.base
def vx_Q (Qc : Array Value → State → Outcome → State → Prop) (XC : String → State → State → Prop) (mc ms : Nat) (free : Addr → Prop) : Array Value → State → Outcome → State → Prop := fun a st o t =>
  (Qc a st o t ∧ ∃ L, FrameEnd st o t L mc ms ∧ ∀ q ∈ L, free q.base) ∨ ∃ q, o = .threw q ∧ vx_T XC st q t mc ms free
/-- a callee that returns or throws -/
def vx_Met (l : Launch) (y : MethodName) (ws : List Cond) (rm : Room) (Pc : Array Value → State → Prop) (Qc : Array Value → State → Outcome → State → Prop) (XC : String → State → State → Prop) (mc ms : Nat) (free : Addr → Prop) : Prop :=
  MetFree l y (headSpec ws rm) Pc (fun _ _ _ _ _ => True) (vx_Q Qc XC mc ms free)
def vx_Post (XC : String → State → State → Prop) (mc ms : Nat) (free : Addr → Prop) : Pt → Array Value → Addr → Pt → Prop := fun A a q B =>
  ∃ (g : JFrame) (mk : MethodId) (t : State) (L : List Loc) (E : String) (ce : Cell), B.U.heap = t.heap ∧ B.U.vm = t.vm ∧ XC E (A.U.calling g mk a) t ∧ t.heap[q]? = some ce ∧ ce.vm = .none ∧ A.U.vm.findClass E = some ce.cls ∧ B.locs = A.locs ++ L ∧ (∀ z ∈ L, free z.base) ∧ B.cells = A.cells + mc ∧ B.slots = A.slots + ms
def vx_Back (l : Launch) (R : Room) (p : Program) (e : Env) (below : List Frame) (s : State) (sargs : Array Value) (y : MethodName) (len W9 : Nat)
    (Pre : Pt → Array Value → Prop) (Post : Pt → Array Value → Option Value → Pt → Prop) (PostX : Pt → Array Value → Addr → Pt → Prop) : Prop :=
  ∀ (m : MethodId) (meth : Method) (c : Code) (A : Pt) (g : JFrame) (ig : Instr) (mk : MethodId) (a : Array Value),
    Stand p l e R s m sargs below meth c A.U A.locs A.cells A.slots → g.method = m → g.locals.size = c.maxLocals → decode c.code g.pc = .ok (ig, len) →
    2 * g.monitorRoom + (g.stack.map fun v => v.category).sum ≤ W9 → A.U.methodNamed? y = some mk → Pre A a →
    (∃ (v : Option Value) (B : Pt), Stand p l e R s m sargs below meth c B.U B.locs B.cells B.slots ∧ Post A a v B ∧
      Steps p.tables e below (doInvoke e (A.U.setTop g) [] mk a).1 (B.U.setTop { g with pc := g.pc + len, stack := v.toList ++ g.stack })) ∨
    (∃ (q : Addr) (B : Pt), Stand p l e R s m sargs below meth c B.U B.locs B.cells B.slots ∧ PostX A a q B ∧
      Steps p.tables e below (doInvoke e (A.U.setTop g) [] mk a).1 ((B.U.setTop g).pushFrame (.throwing q)))
section Payer
variable {l : Launch} {R : Room} {p : Program} {e : Env} {below : List Frame} {s : State} {sargs : Array Value} {y : MethodName} {len W9 : Nat}
theorem vx_back {ws : List Cond} {rm : Room} {Pc : Array Value → State → Prop} {Qc : Array Value → State → Outcome → State → Prop} {XC : String → State → State → Prop} {mc ms : Nat} {free : Addr → Prop} {bytes : ByteArray} {maxL : Nat} {ret : Option FieldType}
    (hM : vx_Met l y ws rm Pc Qc XC mc ms free) (hblind : FrameBlind Pc) (hrc : rm.cells = mc) (hrs : rm.slots = ms)
    (hframes : rm.frames + 1 ≤ R.frames) (hlocals : W9 + (maxL + 11) + rm.locals ≤ R.locals)
    (hws : ∀ w ∈ ws, ∀ a' U, s.WarmedH U.vm → w.before a' U = true) (hcode : Cond.code y bytes maxL ret ∈ ws) (hinit : ∀ a' U, s.WarmedH U.vm → (Cond.initialized y.cls).before a' U = true) :
    vx_Back l R p e below s sargs y len W9 (PreOf R mc ms Pc) (PostOf Qc mc ms free) (vx_Post XC mc ms free) := by
  intro m meth c A g ig mk a X hg hsize hdg hW hn hp
  have h1 : (headSpec ws rm).pre.before a A.U = true := atoms_intro fun w hw => hws w hw _ _ X.warmed
  have h2 : (Cond.code y bytes maxL ret).before a A.U = true := hws _ hcode _ _ X.warmed
  have h3 : (Cond.initialized y.cls).before a A.U = true := hinit _ _ X.warmed
  have h4 : A.cells + (headSpec ws rm).room.cells ≤ R.cells := by rw [show (headSpec ws rm).room.cells = mc from hrc]; exact hp.1
  have h5 : A.slots + (headSpec ws rm).room.slots ≤ R.slots := by rw [show (headSpec ws rm).room.slots = ms from hrs]; exact hp.2.1
  have hPc : Pc a (A.U.calling g mk a) := hblind _ _ _ _ hp.2.2
  obtain ⟨U, Ls, c0, s0⟩ := A
  dsimp only [Pt.U, Pt.locs, Pt.cells, Pt.slots] at h1 h2 h3 h4 h5 X hn hPc ⊢
  obtain ⟨methY, cY, hmY, hcY, -, hlY, -, -, -, -⟩ := Cond.code_spec hn h2
  obtain ⟨kY, hkY, -⟩ := className_of_methodNamed hn
  have hinitY : kY.init = .initialized := Cond.initialized_spec (findClass_of_methodNamed hn) hkY h3
  have h : At U g.method c below := by rw [hg]; exact X.here
  have hlocals9 : W9 + (maxL + 11) + (headSpec ws rm).room.locals ≤ R.locals := hlocals
  have happ : (headSpec ws rm).appliesLoose y e.platform (U.calling g mk a) = true :=
    Spec.appliesLoose_calling (g := g) h hdg hn hkY hinitY
      (X.room_calling (g := g) (R' := (headSpec ws rm).room) hsize hmY hcY hframes (by rw [hlY]; omega) h4 h5) h1
  obtain ⟨mid, hmid⟩ := h.above
  have hfr : (U.setTop g).frames = (.java g :: mid) ++ below := by rw [State.frames_setTop' g h.top, hmid]; rfl
  obtain ⟨o, s₂, hsteps, -, hend, hq⟩ := Steps.callFree hM p X.admits X.cas X.clock (acts := []) hfr happ hPc trivial
  have hq' : vx_Q Qc XC mc ms free a (U.calling g mk a) o s₂ := hq
  rw [State.frames_setTop' g h.top] at hend
  obtain ⟨g₀, hg0⟩ := Option.isSome_iff_exists.mp h.top
  obtain ⟨r, hr⟩ := State.topJava?_eq_some.mp hg0
  have hr' : (({ U with heap := s₂.heap, slotsUsed := s₂.slotsUsed } : State).setVm s₂.vm).frames = .java g₀ :: r := hr
  rcases hq' with ⟨hqc, L, hfe, hL⟩ | ⟨q, rfl, E, ce, L, hx, hce, hcv, hcl, hW₂, hsm, hL⟩
  · obtain ⟨⟨v, rfl⟩, hW₂, e2, q2, q3, q4, q5, q6⟩ := id hfe
    have e3 : s₂ = ({ (U.calling g mk a).setFrames s₂.frames with heap := s₂.heap, slotsUsed := s₂.slotsUsed } : State).setVm s₂.vm := by
      have : s₂ = ({ s₂ with vm := (U.calling g mk a).vm } : State).setVm s₂.vm := rfl
      rw [e2] at this
      exact this
    obtain ⟨c₂, i₂, len₂, hc₂, hd₂, hf₂⟩ := hend
    have hW' : U.WarmedH s₂.vm := hW₂
    have hcc : c₂ = c := by
      have h1 : s₂.code? g.method = U.code? g.method := by
        rw [State.code?_eq, State.code?_eq, hW'.alike.method?]
      exact Option.some.inj (hc₂.symm.trans (h1.trans h.code))
    subst hcc
    have hlen : len₂ = len := by rw [hdg] at hd₂; cases hd₂; rfl
    subst hlen
    have hs₂ : s₂ = (({ U with heap := s₂.heap, slotsUsed := s₂.slotsUsed } : State).setVm s₂.vm).setTop { g with pc := g.pc + len₂, stack := v.toList ++ g.stack } := by
      refine e3.trans ?_
      rw [hf₂, State.calling_eq h.top, State.setFrames_setFrames, State.setTop_of_frames _ hr', hr]
      rfl
    have hsame : U.sameButNew ({ U with heap := s₂.heap, slotsUsed := s₂.slotsUsed } : State) L mc ms := by
      refine ⟨?_, q2, q3, q4, q5, q6⟩
      obtain ⟨t, ht, -⟩ := State.frames_cons hr
      show ({ U with heap := s₂.heap, slotsUsed := s₂.slotsUsed } : State) = { U.setFrames U.frames with heap := s₂.heap, slotsUsed := s₂.slotsUsed }
      rw [State.setFrames_self ht]
    subst hg
    refine Or.inl ⟨v, ⟨(({ U with heap := s₂.heap, slotsUsed := s₂.slotsUsed } : State).setVm s₂.vm), Ls ++ L, c0 + mc, s0 + ms⟩,
      ⟨X.admits, X.cas, X.clock, X.frames, X.room, X.hears, X.method, X.code, (X.here.setHeapUsed s₂.heap s₂.slotsUsed).setVm hW'.alike, X.tail, State.WarmedH.trans X.warmed hW', X.limits, X.bytes, X.same.trans (hsame.setVm s.vm)⟩,
      ⟨g, mk, s₂, L, rfl, rfl, hqc, rfl, hL, rfl, rfl⟩, ?_⟩
    show Steps p.tables e below _ ((({ U with heap := s₂.heap, slotsUsed := s₂.slotsUsed } : State).setVm s₂.vm).setTop { g with pc := g.pc + len₂, stack := v.toList ++ g.stack })
    rw [← hs₂]
    exact hsteps
  · obtain ⟨e2, q2, q3, q4, q5, q6⟩ := id hsm
    have e3 : s₂ = ({ (U.calling g mk a).setFrames s₂.frames with heap := s₂.heap, slotsUsed := s₂.slotsUsed } : State).setVm s₂.vm := by
      have : s₂ = ({ s₂ with vm := (U.calling g mk a).vm } : State).setVm s₂.vm := rfl
      rw [e2] at this
      exact this
    have hf₂ : s₂.frames = .throwing q :: .java g :: U.frames.tail := hend
    have hW' : U.WarmedH s₂.vm := hW₂
    have hs₂ : s₂ = ((({ U with heap := s₂.heap, slotsUsed := s₂.slotsUsed } : State).setVm s₂.vm).setTop g).pushFrame (.throwing q) := by
      refine e3.trans ?_
      rw [hf₂, State.calling_eq h.top, State.setFrames_setFrames, State.pushFrame, State.frames_setTop _ hr', State.setTop_of_frames _ hr', State.setFrames_setFrames, hr]
      rfl
    have hsame : U.sameButNew ({ U with heap := s₂.heap, slotsUsed := s₂.slotsUsed } : State) L mc ms := by
      refine ⟨?_, q2, q3, q4, q5, q6⟩
      obtain ⟨t, ht, -⟩ := State.frames_cons hr
      show ({ U with heap := s₂.heap, slotsUsed := s₂.slotsUsed } : State) = { U.setFrames U.frames with heap := s₂.heap, slotsUsed := s₂.slotsUsed }
      rw [State.setFrames_self ht]
    subst hg
    refine Or.inr ⟨q, ⟨(({ U with heap := s₂.heap, slotsUsed := s₂.slotsUsed } : State).setVm s₂.vm), Ls ++ L, c0 + mc, s0 + ms⟩,
      ⟨X.admits, X.cas, X.clock, X.frames, X.room, X.hears, X.method, X.code, (X.here.setHeapUsed s₂.heap s₂.slotsUsed).setVm hW'.alike, X.tail, State.WarmedH.trans X.warmed hW', X.limits, X.bytes, X.same.trans (hsame.setVm s.vm)⟩,
      ⟨g, mk, s₂, L, E, ce, rfl, rfl, hx, hce, hcv, hcl, rfl, hL, rfl, rfl⟩, ?_⟩
    show Steps p.tables e below _ (((({ U with heap := s₂.heap, slotsUsed := s₂.slotsUsed } : State).setVm s₂.vm).setTop g).pushFrame (.throwing q))
    rw [← hs₂]
    exact hsteps
end Payer
section Calls
variable {p : Program} {l : Launch} {e : Env} {R : Room} {s : State} {m : MethodId} {args : Array Value} {below : List Frame} {meth : Method} {c : Code} {T : State} {locs : List Loc} {cells slots : Nat}
theorem vx_callV (X : Stand p l e R s m args below meth c T locs cells slots) (hexec : p.tables.exec = Jvm.exec) {own C : String} {index : Nat} {y : MethodName} {bytes : ByteArray} {maxL : Nat} {ret : Option FieldType}
    (hown : s.vm.findClass own = some m.cls) (hlink : (Cond.methodLink own index y).before args s = true) (hinst : (Cond.instanceMethod y).before args s = true) (hsel : (Cond.selects C y y).before args s = true)
    (hcode : (Cond.code y bytes maxL ret).before args s = true) (hy : y.cls ≠ "java/lang/invoke/MethodHandle" ∧ y.cls ≠ "java/lang/invoke/VarHandle")
    {W9 : Nat} {Pre : Pt → Array Value → Prop} {Post : Pt → Array Value → Option Value → Pt → Prop} {PostX : Pt → Array Value → Addr → Pt → Prop} (hK : vx_Back l R p e below s args y 3 W9 Pre Post PostX)
    {b : Addr} {cellB : Cell} (hcell : T.heap[b]? = some cellB) (hobj : cellB.vm.isStatics = false) (hcls : s.vm.findClass C = some cellB.cls)
    {g : JFrame} (hg : g.method = m) (hsize : g.locals.size = c.maxLocals) {argsL rest : List Value} (hlen : ∀ sig, parseMethodDescriptor y.desc = some sig → argsL.length = sig.parameters.length)
    (hstack : g.stack = argsL.reverse ++ .ref b :: rest) (hW : 2 * g.monitorRoom + (rest.map fun v => v.category).sum ≤ W9) (hdg : decode c.code g.pc = .ok (.invokevirtual index, 3))
    (hpre : ∀ vm₁, s.WarmedH vm₁ → Pre ⟨T.setVm vm₁, locs, cells, slots⟩ (Value.ref b :: argsL).toArray) :
    (∃ (v : Option Value) (vm₁ : Vm) (B : Pt), s.WarmedH vm₁ ∧ Stand p l e R s m args below meth c B.U B.locs B.cells B.slots ∧ Post ⟨T.setVm vm₁, locs, cells, slots⟩ (Value.ref b :: argsL).toArray v B ∧
      ∀ target, Steps p.tables e below (B.U.setTop { g with pc := g.pc + 3, stack := v.toList ++ rest }) target → Steps p.tables e below (T.setTop g) target) ∨
    (∃ (q : Addr) (vm₁ : Vm) (B : Pt), s.WarmedH vm₁ ∧ Stand p l e R s m args below meth c B.U B.locs B.cells B.slots ∧ PostX ⟨T.setVm vm₁, locs, cells, slots⟩ (Value.ref b :: argsL).toArray q B ∧
      Steps p.tables e below (T.setTop g) ((B.U.setTop { g with stack := rest }).pushFrame (.throwing q))) := by
  obtain ⟨mk, methM, hnamed, hmethM, hstM, habM⟩ := Cond.instanceMethod_spec hinst
  obtain ⟨methM', cM, hmethM', -, -, -, -, -, -, hsigM⟩ := Cond.code_spec hnamed hcode
  cases hmethM.symm.trans hmethM'
  obtain ⟨c2, r2, m2, q1, q2, q3, q4, kP, hkP, hkPi⟩ := Cond.selects_spec hsel
  cases hcls.symm.trans q1
  cases (State.methodFound?_of_named hnamed hy).symm.trans q2
  cases hnamed.symm.trans q3
  have hselP : selectMethod e.platform s.vm cellB.cls mk = .method mk := by rw [Launch.admits_selectMethod X.admits]; exact q4
  obtain ⟨vm₁, X₁, hstep₁⟩ := X.invokevirtual hexec hown hlink hnamed hmethM hstM hkP hkPi hy (a := b) (cell := cellB) hcell
    (fun z h => by rw [h] at hobj; cases hobj) hselP hmethM habM hkP hkPi (g := g) hg (argsL := argsL) (rest := rest) (hlen _ hsigM) hstack hdg
  rcases hK m meth c ⟨T.setVm vm₁, locs, cells, slots⟩ { g with stack := rest } (.invokevirtual index) mk (Value.ref b :: argsL).toArray X₁ hg hsize hdg hW (X₁.named hnamed) (hpre vm₁ X₁.warmed) with ⟨v, B, X', hpost, hsteps⟩ | ⟨q, B, X', hpost, hsteps⟩
  · exact Or.inl ⟨v, vm₁, B, X₁.warmed, X', hpost, fun target h => hstep₁ _ fun acts => by rw [doInvoke_state]; exact hsteps.trans h⟩
  · exact Or.inr ⟨q, vm₁, B, X₁.warmed, X', hpost, hstep₁ _ fun acts => by rw [doInvoke_state]; exact hsteps⟩
theorem vx_callS (X : Stand p l e R s m args below meth c T locs cells slots) (hexec : p.tables.exec = Jvm.exec) {own : String} {index : Nat} {y : MethodName} {bytes : ByteArray} {maxL : Nat} {ret : Option FieldType}
    (hown : s.vm.findClass own = some m.cls) (hlink : (Cond.methodLink own index y).before args s = true) (hstat : (Cond.static y).before args s = true) (hinit : (Cond.initialized y.cls).before args s = true)
    (hcode : (Cond.code y bytes maxL ret).before args s = true) (hy : y.cls ≠ "java/lang/invoke/MethodHandle" ∧ y.cls ≠ "java/lang/invoke/VarHandle")
    {W9 : Nat} {Pre : Pt → Array Value → Prop} {Post : Pt → Array Value → Option Value → Pt → Prop} {PostX : Pt → Array Value → Addr → Pt → Prop} (hK : vx_Back l R p e below s args y 3 W9 Pre Post PostX)
    {g : JFrame} (hg : g.method = m) (hsize : g.locals.size = c.maxLocals) {argsL rest : List Value} (hlen : ∀ sig, parseMethodDescriptor y.desc = some sig → argsL.length = sig.parameters.length)
    (hstack : g.stack = argsL.reverse ++ rest) (hW : 2 * g.monitorRoom + (rest.map fun v => v.category).sum ≤ W9) (hdg : decode c.code g.pc = .ok (.invokestatic index, 3))
    (hpre : ∀ vm₁, s.WarmedH vm₁ → Pre ⟨T.setVm vm₁, locs, cells, slots⟩ argsL.toArray) :
    (∃ (v : Option Value) (vm₁ : Vm) (B : Pt), s.WarmedH vm₁ ∧ Stand p l e R s m args below meth c B.U B.locs B.cells B.slots ∧ Post ⟨T.setVm vm₁, locs, cells, slots⟩ argsL.toArray v B ∧
      ∀ target, Steps p.tables e below (B.U.setTop { g with pc := g.pc + 3, stack := v.toList ++ rest }) target → Steps p.tables e below (T.setTop g) target) ∨
    (∃ (q : Addr) (vm₁ : Vm) (B : Pt), s.WarmedH vm₁ ∧ Stand p l e R s m args below meth c B.U B.locs B.cells B.slots ∧ PostX ⟨T.setVm vm₁, locs, cells, slots⟩ argsL.toArray q B ∧
      Steps p.tables e below (T.setTop g) ((B.U.setTop { g with stack := rest }).pushFrame (.throwing q))) := by
  obtain ⟨mk, hnamed⟩ := Cond.code_named hcode
  obtain ⟨methM, cM, hmethM, -, -, -, -, -, -, hsigM⟩ := Cond.code_spec hnamed hcode
  have hstatic : methM.isStatic = true := Cond.static_spec hnamed hmethM hstat
  obtain ⟨kP, hkP, -⟩ := className_of_methodNamed hnamed
  have hinitP : kP.init = .initialized := Cond.initialized_spec (findClass_of_methodNamed hnamed) hkP hinit
  obtain ⟨vm₁, X₁, hstep₁⟩ := X.invokestatic hexec hown hlink hnamed hmethM hstatic hkP hinitP hy (g := g) hg (argsL := argsL) (rest := rest) (hlen _ hsigM) hstack hdg
  rcases hK m meth c ⟨T.setVm vm₁, locs, cells, slots⟩ { g with stack := rest } (.invokestatic index) mk argsL.toArray X₁ hg hsize hdg hW (X₁.named hnamed) (hpre vm₁ X₁.warmed) with ⟨v, B, X', hpost, hsteps⟩ | ⟨q, B, X', hpost, hsteps⟩
  · exact Or.inl ⟨v, vm₁, B, X₁.warmed, X', hpost, fun target h => hstep₁ _ fun acts => by rw [doInvoke_state]; exact hsteps.trans h⟩
  · exact Or.inr ⟨q, vm₁, B, X₁.warmed, X', hpost, hstep₁ _ fun acts => by rw [doInvoke_state]; exact hsteps⟩
end Calls
theorem vx_cls {s : State} {T : State} {vm₁ : Vm} {E : String} {k : ClassId} (hW : s.WarmedH vm₁) (h : (T.setVm vm₁).vm.findClass E = some k) : s.vm.findClass E = some k := by
  have h1 : vm₁.findClass E = some k := h
  rw [hW.alike.findClass] at h1
  exact h1
/-- the method's frame g, with q thrown over it -/
def vx_W (p : Program) (l : Launch) (e : Env) (R : Room) (s : State) (m : MethodId) (args : Array Value) (below : List Frame) (meth : Method) (c : Code) (H : Heap) (locs : List Loc) (cells slots : Nat) (Q : State → Prop) (g : JFrame) (q : Addr) : Prop :=
  ∀ T : State, T.heap = H → Stand p l e R s m args below meth c T locs cells slots → ∃ t, Steps p.tables e below ((T.setTop g).pushFrame (.throwing q)) t ∧ Q t
def vx_Run (p : Program) (l : Launch) (e : Env) (R : Room) (s : State) (m : MethodId) (args : Array Value) (below : List Frame) (meth : Method) (c : Code) (H : Heap) (locs : List Loc) (cells slots mc ms : Nat) (g : JFrame) (rest : List Value) (Qa : State → Outcome → State → Prop) (XC : String → State → State → Prop) (free : Addr → Prop) : Prop :=
  ∀ T : State, T.heap = H → Stand p l e R s m args below meth c T locs cells slots →
    (∃ (v : Option Value) (st₀ t T' : State) (L : List Loc), st₀.heap = H ∧ Stand p l e R s m args below meth c T' (locs ++ L) (cells + mc) (slots + ms) ∧ (∀ q ∈ L, free q.base) ∧ T'.heap = t.heap ∧ T'.vm = t.vm ∧ Qa st₀ (.returned v) t ∧
      Goes p e below T g T' { g with pc := g.pc + 3, stack := v.toList ++ rest }) ∨
    (∃ (q : Addr) (st₀ t T' : State) (L : List Loc) (E : String) (ce : Cell), st₀.heap = H ∧ Stand p l e R s m args below meth c T' (locs ++ L) (cells + mc) (slots + ms) ∧ (∀ z ∈ L, free z.base) ∧ T'.heap = t.heap ∧ T'.vm = t.vm ∧ XC E st₀ t ∧ t.heap[q]? = some ce ∧ ce.vm = .none ∧ s.vm.findClass E = some ce.cls ∧
      Steps p.tables e below (T.setTop g) ((T'.setTop { g with stack := rest }).pushFrame (.throwing q)))
def vx_X {S : Type} (px : S → Prop) (B : String → S → State → Prop) (A : Nat → Prop) : String → State → State → Prop := fun E st t => ∃ u : S, px u ∧ B E u t ∧ va_F A st t
section Runs
variable {p : Program} {l : Launch} {e : Env} {R : Room} {s : State} {m : MethodId} {args : Array Value} {below : List Frame} {meth : Method} {c : Code} {H : Heap} {locs : List Loc} {cells slots : Nat}
variable {y : MethodName} {bytes cc : ByteArray} {maxL nL mc ms n index : Nat} {ret : Option FieldType} {ws : List Cond} {rm : Room} {Pc : Array Value → State → Prop} {Qc : Array Value → State → Outcome → State → Prop} {XC : String → State → State → Prop} {free : Addr → Prop} {Ts : List Cond} {own C : String} {b : Addr} {As rest : List Value} {g : JFrame}
theorem vx_callBack (cb : CallB R s args own index y bytes maxL ret ws rm mc ms n) (hM : vx_Met l y ws rm Pc Qc XC mc ms free) (hbl : FrameBlind Pc) : vx_Back l R p e below s args y 3 8 (PreOf R mc ms Pc) (PostOf Qc mc ms free) (vx_Post XC mc ms free) := by
  obtain ⟨hrc, hrs, hfr, hlo, hws, hcw, -, hini, -⟩ := cb
  exact vx_back (bytes := bytes) (maxL := maxL) (ret := ret) hM hbl hrc hrs hfr hlo hws hcw (fun a' U hW => word_at hW (Or.inl (by first | rfl | simp [Cond.onTables, Cond.keeps, Cond.steady])) hini)
theorem vx_runV (S : CallFix p m c cc nL s args Ts own) (hM : vx_Met l y ws rm Pc Qc XC mc ms free) (cw : CallW R s args own C index y bytes maxL ret ws rm mc ms n) (hp : PreV s H C b Pc As)
    (hg : g.method = m) (hn : As.length = n) (hsize : g.locals.size = nL) (hstack : g.stack = As.reverse ++ .ref b :: rest) (hW : 2 * g.monitorRoom + (rest.map fun v => v.category).sum ≤ 8) (hdg : decode cc g.pc = .ok (.invokevirtual index, 3)) (hf : cells + mc ≤ R.cells ∧ slots + ms ≤ R.slots) :
    vx_Run p l e R s m args below meth c H locs cells slots mc ms g rest (Qc (Value.ref b :: As).toArray) XC free := by
  have hK : vx_Back l R p e below s args y 3 8 (PreOf R mc ms Pc) (PostOf Qc mc ms free) (vx_Post XC mc ms free) := vx_callBack cw.1 hM hp.1
  obtain ⟨⟨-, -, -, -, -, -, hcode, -, hy, hlen, hl⟩, hin, hse⟩ := cw
  obtain ⟨hx, hb, hml, ho, -⟩ := S
  obtain ⟨-, ⟨cellB, hcB, hoB, hclB⟩, hPc⟩ := hp
  intro T hT X
  rcases vx_callV X hx (C := C) (bytes := bytes) (maxL := maxL) (ret := ret) ho hl hin hse hcode hy hK (by rw [hT]; exact hcB) hoB hclB hg (hsize.trans hml.symm) (argsL := As) (rest := rest) (fun sig h => hn.trans (hlen sig h)) hstack hW (by rw [hb]; exact hdg)
    (fun vm₁ hW₁ => ⟨hf.1, hf.2, hPc (T.setVm vm₁) hT hW₁⟩) with ⟨v, vm₁, ⟨U', l2, c2, s2⟩, hW₁, X', ⟨g', mk, t, L, e1, e2, hq, h1, hL, h2, h3⟩, st⟩ | ⟨q, vm₁, ⟨U', l2, c2, s2⟩, hW₁, X', ⟨g', mk, t, L, E, ce, e1, e2, hq, hce, hcv, hcl, h1, hL, h2, h3⟩, st⟩
  · dsimp only [Pt.U, Pt.locs, Pt.cells, Pt.slots] at X' e1 e2 h1 h2 h3 st
    subst h1; subst h2; subst h3
    exact Or.inl ⟨v, (T.setVm vm₁).calling g' mk (Value.ref b :: As).toArray, t, U', L, hT, X', hL, e1, e2, hq, st⟩
  · dsimp only [Pt.U, Pt.locs, Pt.cells, Pt.slots] at X' e1 e2 h1 h2 h3 st hcl
    subst h1; subst h2; subst h3
    exact Or.inr ⟨q, (T.setVm vm₁).calling g' mk (Value.ref b :: As).toArray, t, U', L, E, ce, hT, X', hL, e1, e2, hq, hce, hcv, vx_cls hW₁ hcl, st⟩
theorem vx_runS (S : CallFix p m c cc nL s args Ts own) (hM : vx_Met l y ws rm Pc Qc XC mc ms free) (cw : CallB R s args own index y bytes maxL ret ws rm mc ms n ∧ (Cond.static y).before args s = true) (hp : PreS s H Pc As)
    (hg : g.method = m) (hn : As.length = n) (hsize : g.locals.size = nL) (hstack : g.stack = As.reverse ++ rest) (hW : 2 * g.monitorRoom + (rest.map fun v => v.category).sum ≤ 8) (hdg : decode cc g.pc = .ok (.invokestatic index, 3)) (hf : cells + mc ≤ R.cells ∧ slots + ms ≤ R.slots) :
    vx_Run p l e R s m args below meth c H locs cells slots mc ms g rest (Qc As.toArray) XC free := by
  have hK : vx_Back l R p e below s args y 3 8 (PreOf R mc ms Pc) (PostOf Qc mc ms free) (vx_Post XC mc ms free) := vx_callBack cw.1 hM hp.1
  obtain ⟨⟨-, -, -, -, -, -, hcode, hini, hy, hlen, hl⟩, hstt⟩ := cw
  obtain ⟨hx, hb, hml, ho, -⟩ := S
  intro T hT X
  rcases vx_callS X hx (bytes := bytes) (maxL := maxL) (ret := ret) ho hl hstt hini hcode hy hK hg (hsize.trans hml.symm) (argsL := As) (rest := rest) (fun sig h => hn.trans (hlen sig h)) hstack hW (by rw [hb]; exact hdg)
    (fun vm₁ hW₁ => ⟨hf.1, hf.2, hp.2 (T.setVm vm₁) hT hW₁⟩) with ⟨v, vm₁, ⟨U', l2, c2, s2⟩, hW₁, X', ⟨g', mk, t, L, e1, e2, hq, h1, hL, h2, h3⟩, st⟩ | ⟨q, vm₁, ⟨U', l2, c2, s2⟩, hW₁, X', ⟨g', mk, t, L, E, ce, e1, e2, hq, hce, hcv, hcl, h1, hL, h2, h3⟩, st⟩
  · dsimp only [Pt.U, Pt.locs, Pt.cells, Pt.slots] at X' e1 e2 h1 h2 h3 st
    subst h1; subst h2; subst h3
    exact Or.inl ⟨v, (T.setVm vm₁).calling g' mk As.toArray, t, U', L, hT, X', hL, e1, e2, hq, st⟩
  · dsimp only [Pt.U, Pt.locs, Pt.cells, Pt.slots] at X' e1 e2 h1 h2 h3 st hcl
    subst h1; subst h2; subst h3
    exact Or.inr ⟨q, (T.setVm vm₁).calling g' mk As.toArray, t, U', L, E, ce, hT, X', hL, e1, e2, hq, hce, hcv, vx_cls hW₁ hcl, st⟩
end Runs
section Rows
variable {p : Program} {l : Launch} {e : Env} {R : Room} {s : State} {m : MethodId} {args : Array Value} {below : List Frame} {meth : Method} {c : Code} {H : Heap} {locs : List Loc} {cells slots : Nat} {Q : State → Prop}
variable {mc ms : Nat} {free : Addr → Prop} {A0 A1 : Nat → Prop} {H0 : Heap} {a : Array Value} {pc : Nat} {ls : Array Slot} {st0 rest : List Value}
theorem vx_keep {st₀ t T' : State} {L : List Loc} (h0 : st₀.heap = H) (e1 : T'.heap = t.heap) (hS : va_S A0 H0 H locs) (hA : ∀ q, q < H.size → A1 q → A0 q) (hf : ∀ q, free q → A0 q) (hL : ∀ q ∈ L, free q.base) (hF : va_F A1 st₀ t) :
    H.size ≤ T'.heap.size ∧ (∀ q : Nat, q < H.size → ¬ A1 q → T'.heap[q]? = H[q]?) ∧ va_S A0 H0 T'.heap (locs ++ L) := by
  obtain ⟨hz, hk⟩ := hF
  rw [h0] at hz hk
  exact ⟨by rw [e1]; exact hz, fun q h1 h2 => by rw [e1]; exact hk q h1 h2,
    ⟨Nat.le_trans hS.1 (by rw [e1]; exact hz), fun q h1 h2 => by rw [e1, hk q (Nat.lt_of_lt_of_le h1 hS.1) (fun z => h2 (hA q (Nat.lt_of_lt_of_le h1 hS.1) z))]; exact hS.2.1 q h1 h2, fun q hq => by
      rcases List.mem_append.mp hq with h | h
      · exact hS.2.2 q h
      · exact hf _ (hL q h)⟩⟩
theorem vx_calli {S SX : Type} {post : Int32 → S → Prop} {px : SX → Prop} {B : S → State → Prop} {BX : String → SX → State → Prop} {AX : Nat → Prop} (hr : vx_Run p l e R s m args below meth c H locs cells slots mc ms (F0 m pc ls st0) rest (va_Qi post B A1 a) (vx_X px BX AX) free) (hS : va_S A0 H0 H locs) (hA : ∀ q, q < H.size → A1 q → A0 q) (hf : ∀ q, free q → A0 q) (hAX : ∀ q, q < H.size → AX q → A0 q)
    (kx : ∀ (E : String) (ce : Cell) (q9 : Addr) (u : SX) (t : State) (H1 : Heap) (locs1 : List Loc), t.heap = H1 → s.vm.Alike t.vm → px u → BX E u t → H.size ≤ H1.size → (∀ q : Nat, q < H.size → ¬ AX q → H1[q]? = H[q]?) → va_S A0 H0 H1 locs1 → H1[q9]? = some ce → ce.vm = .none → s.vm.findClass E = some ce.cls → vx_W p l e R s m args below meth c H1 locs1 (cells + mc) (slots + ms) Q (F0 m pc ls rest) q9)
    (kk : ∀ (r : Int32) (u : S) (t : State) (H1 : Heap) (locs1 : List Loc), t.heap = H1 → s.vm.Alike t.vm → post r u → B u t → H.size ≤ H1.size → (∀ q : Nat, q < H.size → ¬ A1 q → H1[q]? = H[q]?) → va_S A0 H0 H1 locs1 → W p l e R s m args below meth c H1 locs1 (cells + mc) (slots + ms) Q (F0 m (pc + 3) ls (.int r :: rest))) : W p l e R s m args below meth c H locs cells slots Q (F0 m pc ls st0) := by
  intro T hT X
  rcases hr T hT X with ⟨v, st₀, t, T', L, h0, X', hL, e1, e2, ⟨⟨r, u, hv, hp, hb⟩, hF⟩, st⟩ | ⟨q, st₀, t, T', L, E, ce, h0, X', hL, e1, e2, ⟨u, hp, hb, hF⟩, hce, hcv, hcl, st⟩
  · cases hv
    obtain ⟨k1, k2, k3⟩ := vx_keep h0 e1 hS hA hf hL hF
    obtain ⟨t2, a1, b1⟩ := kk r u t T'.heap (locs ++ L) e1.symm (by rw [← e2]; exact X'.warmed.alike) hp hb k1 k2 k3 T' rfl X'
    exact ⟨t2, st t2 a1, b1⟩
  · obtain ⟨k1, k2, k3⟩ := vx_keep h0 e1 hS hAX hf hL hF
    obtain ⟨t2, a1, b1⟩ := kx E ce q u t T'.heap (locs ++ L) e1.symm (by rw [← e2]; exact X'.warmed.alike) hp hb k1 k2 k3 (by rw [e1]; exact hce) hcv hcl T' rfl X'
    exact ⟨t2, st.trans a1, b1⟩
theorem vx_calll {S SX : Type} {post : Int64 → S → Prop} {px : SX → Prop} {B : S → State → Prop} {BX : String → SX → State → Prop} {AX : Nat → Prop} (hr : vx_Run p l e R s m args below meth c H locs cells slots mc ms (F0 m pc ls st0) rest (va_Ql post B A1 a) (vx_X px BX AX) free) (hS : va_S A0 H0 H locs) (hA : ∀ q, q < H.size → A1 q → A0 q) (hf : ∀ q, free q → A0 q) (hAX : ∀ q, q < H.size → AX q → A0 q)
    (kx : ∀ (E : String) (ce : Cell) (q9 : Addr) (u : SX) (t : State) (H1 : Heap) (locs1 : List Loc), t.heap = H1 → s.vm.Alike t.vm → px u → BX E u t → H.size ≤ H1.size → (∀ q : Nat, q < H.size → ¬ AX q → H1[q]? = H[q]?) → va_S A0 H0 H1 locs1 → H1[q9]? = some ce → ce.vm = .none → s.vm.findClass E = some ce.cls → vx_W p l e R s m args below meth c H1 locs1 (cells + mc) (slots + ms) Q (F0 m pc ls rest) q9)
    (kk : ∀ (r : Int64) (u : S) (t : State) (H1 : Heap) (locs1 : List Loc), t.heap = H1 → s.vm.Alike t.vm → post r u → B u t → H.size ≤ H1.size → (∀ q : Nat, q < H.size → ¬ A1 q → H1[q]? = H[q]?) → va_S A0 H0 H1 locs1 → W p l e R s m args below meth c H1 locs1 (cells + mc) (slots + ms) Q (F0 m (pc + 3) ls (.long r :: rest))) : W p l e R s m args below meth c H locs cells slots Q (F0 m pc ls st0) := by
  intro T hT X
  rcases hr T hT X with ⟨v, st₀, t, T', L, h0, X', hL, e1, e2, ⟨⟨r, u, hv, hp, hb⟩, hF⟩, st⟩ | ⟨q, st₀, t, T', L, E, ce, h0, X', hL, e1, e2, ⟨u, hp, hb, hF⟩, hce, hcv, hcl, st⟩
  · cases hv
    obtain ⟨k1, k2, k3⟩ := vx_keep h0 e1 hS hA hf hL hF
    obtain ⟨t2, a1, b1⟩ := kk r u t T'.heap (locs ++ L) e1.symm (by rw [← e2]; exact X'.warmed.alike) hp hb k1 k2 k3 T' rfl X'
    exact ⟨t2, st t2 a1, b1⟩
  · obtain ⟨k1, k2, k3⟩ := vx_keep h0 e1 hS hAX hf hL hF
    obtain ⟨t2, a1, b1⟩ := kx E ce q u t T'.heap (locs ++ L) e1.symm (by rw [← e2]; exact X'.warmed.alike) hp hb k1 k2 k3 (by rw [e1]; exact hce) hcv hcl T' rfl X'
    exact ⟨t2, st.trans a1, b1⟩
theorem vx_callf {S SX : Type} {post : UInt32 → S → Prop} {px : SX → Prop} {B : S → State → Prop} {BX : String → SX → State → Prop} {AX : Nat → Prop} (hr : vx_Run p l e R s m args below meth c H locs cells slots mc ms (F0 m pc ls st0) rest (va_Qf post B A1 a) (vx_X px BX AX) free) (hS : va_S A0 H0 H locs) (hA : ∀ q, q < H.size → A1 q → A0 q) (hf : ∀ q, free q → A0 q) (hAX : ∀ q, q < H.size → AX q → A0 q)
    (kx : ∀ (E : String) (ce : Cell) (q9 : Addr) (u : SX) (t : State) (H1 : Heap) (locs1 : List Loc), t.heap = H1 → s.vm.Alike t.vm → px u → BX E u t → H.size ≤ H1.size → (∀ q : Nat, q < H.size → ¬ AX q → H1[q]? = H[q]?) → va_S A0 H0 H1 locs1 → H1[q9]? = some ce → ce.vm = .none → s.vm.findClass E = some ce.cls → vx_W p l e R s m args below meth c H1 locs1 (cells + mc) (slots + ms) Q (F0 m pc ls rest) q9)
    (kk : ∀ (r : UInt32) (u : S) (t : State) (H1 : Heap) (locs1 : List Loc), t.heap = H1 → s.vm.Alike t.vm → post r u → B u t → H.size ≤ H1.size → (∀ q : Nat, q < H.size → ¬ A1 q → H1[q]? = H[q]?) → va_S A0 H0 H1 locs1 → W p l e R s m args below meth c H1 locs1 (cells + mc) (slots + ms) Q (F0 m (pc + 3) ls (.float r :: rest))) : W p l e R s m args below meth c H locs cells slots Q (F0 m pc ls st0) := by
  intro T hT X
  rcases hr T hT X with ⟨v, st₀, t, T', L, h0, X', hL, e1, e2, ⟨⟨r, u, hv, hp, hb⟩, hF⟩, st⟩ | ⟨q, st₀, t, T', L, E, ce, h0, X', hL, e1, e2, ⟨u, hp, hb, hF⟩, hce, hcv, hcl, st⟩
  · cases hv
    obtain ⟨k1, k2, k3⟩ := vx_keep h0 e1 hS hA hf hL hF
    obtain ⟨t2, a1, b1⟩ := kk r u t T'.heap (locs ++ L) e1.symm (by rw [← e2]; exact X'.warmed.alike) hp hb k1 k2 k3 T' rfl X'
    exact ⟨t2, st t2 a1, b1⟩
  · obtain ⟨k1, k2, k3⟩ := vx_keep h0 e1 hS hAX hf hL hF
    obtain ⟨t2, a1, b1⟩ := kx E ce q u t T'.heap (locs ++ L) e1.symm (by rw [← e2]; exact X'.warmed.alike) hp hb k1 k2 k3 (by rw [e1]; exact hce) hcv hcl T' rfl X'
    exact ⟨t2, st.trans a1, b1⟩
theorem vx_calld {S SX : Type} {post : UInt64 → S → Prop} {px : SX → Prop} {B : S → State → Prop} {BX : String → SX → State → Prop} {AX : Nat → Prop} (hr : vx_Run p l e R s m args below meth c H locs cells slots mc ms (F0 m pc ls st0) rest (va_Qd post B A1 a) (vx_X px BX AX) free) (hS : va_S A0 H0 H locs) (hA : ∀ q, q < H.size → A1 q → A0 q) (hf : ∀ q, free q → A0 q) (hAX : ∀ q, q < H.size → AX q → A0 q)
    (kx : ∀ (E : String) (ce : Cell) (q9 : Addr) (u : SX) (t : State) (H1 : Heap) (locs1 : List Loc), t.heap = H1 → s.vm.Alike t.vm → px u → BX E u t → H.size ≤ H1.size → (∀ q : Nat, q < H.size → ¬ AX q → H1[q]? = H[q]?) → va_S A0 H0 H1 locs1 → H1[q9]? = some ce → ce.vm = .none → s.vm.findClass E = some ce.cls → vx_W p l e R s m args below meth c H1 locs1 (cells + mc) (slots + ms) Q (F0 m pc ls rest) q9)
    (kk : ∀ (r : UInt64) (u : S) (t : State) (H1 : Heap) (locs1 : List Loc), t.heap = H1 → s.vm.Alike t.vm → post r u → B u t → H.size ≤ H1.size → (∀ q : Nat, q < H.size → ¬ A1 q → H1[q]? = H[q]?) → va_S A0 H0 H1 locs1 → W p l e R s m args below meth c H1 locs1 (cells + mc) (slots + ms) Q (F0 m (pc + 3) ls (.double r :: rest))) : W p l e R s m args below meth c H locs cells slots Q (F0 m pc ls st0) := by
  intro T hT X
  rcases hr T hT X with ⟨v, st₀, t, T', L, h0, X', hL, e1, e2, ⟨⟨r, u, hv, hp, hb⟩, hF⟩, st⟩ | ⟨q, st₀, t, T', L, E, ce, h0, X', hL, e1, e2, ⟨u, hp, hb, hF⟩, hce, hcv, hcl, st⟩
  · cases hv
    obtain ⟨k1, k2, k3⟩ := vx_keep h0 e1 hS hA hf hL hF
    obtain ⟨t2, a1, b1⟩ := kk r u t T'.heap (locs ++ L) e1.symm (by rw [← e2]; exact X'.warmed.alike) hp hb k1 k2 k3 T' rfl X'
    exact ⟨t2, st t2 a1, b1⟩
  · obtain ⟨k1, k2, k3⟩ := vx_keep h0 e1 hS hAX hf hL hF
    obtain ⟨t2, a1, b1⟩ := kx E ce q u t T'.heap (locs ++ L) e1.symm (by rw [← e2]; exact X'.warmed.alike) hp hb k1 k2 k3 (by rw [e1]; exact hce) hcv hcl T' rfl X'
    exact ⟨t2, st.trans a1, b1⟩
theorem vx_callv {S SX : Type} {post : S → Prop} {px : SX → Prop} {B : S → State → Prop} {BX : String → SX → State → Prop} {AX : Nat → Prop} (hr : vx_Run p l e R s m args below meth c H locs cells slots mc ms (F0 m pc ls st0) rest (va_Qv post B A1 a) (vx_X px BX AX) free) (hS : va_S A0 H0 H locs) (hA : ∀ q, q < H.size → A1 q → A0 q) (hf : ∀ q, free q → A0 q) (hAX : ∀ q, q < H.size → AX q → A0 q)
    (kx : ∀ (E : String) (ce : Cell) (q9 : Addr) (u : SX) (t : State) (H1 : Heap) (locs1 : List Loc), t.heap = H1 → s.vm.Alike t.vm → px u → BX E u t → H.size ≤ H1.size → (∀ q : Nat, q < H.size → ¬ AX q → H1[q]? = H[q]?) → va_S A0 H0 H1 locs1 → H1[q9]? = some ce → ce.vm = .none → s.vm.findClass E = some ce.cls → vx_W p l e R s m args below meth c H1 locs1 (cells + mc) (slots + ms) Q (F0 m pc ls rest) q9)
    (kk : ∀ (u : S) (t : State) (H1 : Heap) (locs1 : List Loc), t.heap = H1 → s.vm.Alike t.vm → post u → B u t → H.size ≤ H1.size → (∀ q : Nat, q < H.size → ¬ A1 q → H1[q]? = H[q]?) → va_S A0 H0 H1 locs1 → W p l e R s m args below meth c H1 locs1 (cells + mc) (slots + ms) Q (F0 m (pc + 3) ls (rest))) : W p l e R s m args below meth c H locs cells slots Q (F0 m pc ls st0) := by
  intro T hT X
  rcases hr T hT X with ⟨v, st₀, t, T', L, h0, X', hL, e1, e2, ⟨⟨u, hv, hp, hb⟩, hF⟩, st⟩ | ⟨q, st₀, t, T', L, E, ce, h0, X', hL, e1, e2, ⟨u, hp, hb, hF⟩, hce, hcv, hcl, st⟩
  · cases hv
    obtain ⟨k1, k2, k3⟩ := vx_keep h0 e1 hS hA hf hL hF
    obtain ⟨t2, a1, b1⟩ := kk u t T'.heap (locs ++ L) e1.symm (by rw [← e2]; exact X'.warmed.alike) hp hb k1 k2 k3 T' rfl X'
    exact ⟨t2, st t2 a1, b1⟩
  · obtain ⟨k1, k2, k3⟩ := vx_keep h0 e1 hS hAX hf hL hF
    obtain ⟨t2, a1, b1⟩ := kx E ce q u t T'.heap (locs ++ L) e1.symm (by rw [← e2]; exact X'.warmed.alike) hp hb k1 k2 k3 (by rw [e1]; exact hce) hcv hcl T' rfl X'
    exact ⟨t2, st.trans a1, b1⟩
/-- caught by the row x of this method's table; the rows ahead don't take it -/
theorem vx_catch {own name : String} {E : String} {ce : Cell} {q : Addr} (hown : s.vm.findClass own = some m.cls) (pre : List ExceptionTableEntry) (x : ExceptionTableEntry) (suf : List ExceptionTableEntry) (hsplit : c.exceptionTable.toList = pre ++ x :: suf)
    (hpass : ∀ z ∈ pre, covers z pc = false ∨ (z.catchType ≠ 0 ∧ ∃ nm : String, (Cond.classLink own z.catchType nm).before args s = true ∧ va_Nc E nm s)) (hx : covers x pc = true) (h0 : x.catchType ≠ 0)
    (hlink : (Cond.classLink own x.catchType name).before args s = true) (hcast : (Cond.castable E name).before args s = true) (hcell : H[q]? = some ce) (hv : ce.vm = .none) (hcl : s.vm.findClass E = some ce.cls)
    (kk : W p l e R s m args below meth c H locs cells slots Q (F0 m x.handlerPc ls [.ref q])) : vx_W p l e R s m args below meth c H locs cells slots Q (F0 m pc ls rest) q := by
  intro T hT X
  have hpl : e.platform.magicAccessors = ({} : Platform).magicAccessors := by rw [X.admits.platform]
  obtain ⟨c3, c4, hc3, hc4, hasg⟩ := Cond.castable_spec hcast
  cases Option.some.inj (hc3.symm.trans hcl)
  obtain ⟨c5, hc5, hcl5⟩ := Cond.classLink_spec hown hlink e.platform hpl
  cases Option.some.inj (hc4.symm.trans hc5)
  obtain ⟨vm', X', st⟩ := X.thenCaughtThrough q (g := F0 m pc ls rest) rfl (Steps.refl _) (by rw [hT]; exact hcell) (by rw [hv]; rfl) (by obtain ⟨k9, h9, -⟩ := Vm.findClass_spec hcl; exact ⟨k9, h9⟩) pre x suf hsplit
    (fun z hz => by
      rcases hpass z hz with h | ⟨hz0, nm, hl1, hn1⟩
      · exact Or.inl h
      · obtain ⟨c6, hc6, hcl6⟩ := Cond.classLink_spec hown hl1 e.platform hpl
        obtain ⟨a8, b8, h1, h2, h3⟩ := hn1
        cases Option.some.inj (h1.symm.trans hcl)
        cases Option.some.inj (h2.symm.trans hc6)
        exact Or.inr ⟨hz0, _, hcl6, h3⟩) hx (Or.inr ⟨h0, c4, hcl5, hasg⟩)
  obtain ⟨t, a1, b1⟩ := kk (T.setVm vm') hT X'
  exact ⟨t, st.trans a1, b1⟩
end Rows
section Ends
variable {p : Program} {l : Launch} {e : Env} {R : Room} {s : State} {m : MethodId} {args : Array Value} {below : List Frame} {meth : Method} {c : Code} {H : Heap} {locs : List Loc} {cells slots : Nat} {Q : State → Prop}
variable {mc ms : Nat} {free : Addr → Prop} {A0 A1 : Nat → Prop} {H0 : Heap} {a : Array Value} {ls : Array Slot} {st0 rest : List Value}
variable {Qc : Array Value → State → Outcome → State → Prop} {XC : String → State → State → Prop}
/-- what a body that may throw owes at its end -/
def vx_MQ (below : List Frame) (Qc : Array Value → State → Outcome → State → Prop) (XC : String → State → State → Prop) (a : Array Value) (s : State) (mc ms : Nat) (free : Addr → Prop) : State → Prop := fun t =>
  ∃ o, t.status = .running ∧ Ended t below o ∧ vx_Q Qc XC mc ms free a s o t
theorem vx_ret {g : JFrame} {mc ms : Nat} (k : W p l e R s m args below meth c H locs cells slots (MQ below Qc args s mc ms free) g) : W p l e R s m args below meth c H locs cells slots (vx_MQ below Qc XC args s mc ms free) g := by
  intro T hT X
  obtain ⟨t, a1, o, b1, b2, b3, b4⟩ := k T hT X
  exact ⟨t, a1, o, b1, b2, Or.inl ⟨b3, b4⟩⟩
/-- not caught here: it goes on to the caller -/
theorem vx_widen {g : JFrame} {q : Addr} {k n : Nat} (h1 : cells ≤ k) (h2 : slots ≤ n) (kk : vx_W p l e R s m args below meth c H locs k n Q g q) : vx_W p l e R s m args below meth c H locs cells slots Q g q := fun T hT X => kk T hT (stand_widen X h1 h2)
theorem vx_out {pc : Nat} {E : String} {ce : Cell} {q : Addr} {mc ms : Nat} (hout : ∀ x ∈ c.exceptionTable.toList, covers x pc = false) (hlocks : meth.locks = false) (hcell : H[q]? = some ce) (hv : ce.vm = .none) (hcl : s.vm.findClass E = some ce.cls)
    (hx : ∀ t : State, t.heap = H → s.vm.Alike t.vm → XC E s t) (hf : ∀ z ∈ locs, free z.base) (hc : cells ≤ mc) (hs : slots ≤ ms) :
    vx_W p l e R s m args below meth c H locs cells slots (vx_MQ below Qc XC args s mc ms free) (F0 m pc ls rest) q := by
  intro T hT X
  obtain ⟨st1, hrun, hend, hW, hsm⟩ := X.leaveThrown q (g := F0 m pc ls rest) rfl rfl rfl hout hlocks
  have hcell9 : (T.setFrames (.throwing q :: below)).heap[q]? = some ce := by
    show T.heap[q]? = some ce
    rw [hT]; exact hcell
  exact ⟨_, st1, .threw q, hrun, hend, Or.inr ⟨q, rfl, E, ce, locs, hx _ hT hW.alike, hcell9, hv, hcl, hW, hsm.mono hc hs, hf⟩⟩
theorem vx_frame {U : State} {k n : Nat} (h : s.sameButNew ({ U with vm := s.vm } : State) locs k n) : s.heap.size ≤ U.heap.size ∧ ∀ q : Nat, q < s.heap.size → (∀ z ∈ locs, z.base ≠ q) → U.heap[q]? = s.heap[q]? := by
  obtain ⟨-, h2, -, -, -, h6⟩ := h
  refine ⟨h2, fun q hq hz => ?_⟩
  obtain ⟨c9, e1, e2, e3, e4⟩ := h6 q _ (Array.getElem?_eq_getElem hq)
  have hs : c9.slots = (s.heap[q]).slots := Array.ext_getElem? fun i => e4 i fun hm => hz _ hm rfl
  have h9 : c9 = s.heap[q] := by
    rw [hs] at e2
    exact e2
  have e5 : U.heap[q]? = some c9 := e1
  rw [e5, h9, Array.getElem?_eq_getElem hq]
/-- the words of a throw but the four that speak of the heap -/
def vx_no (w : Cond) : Bool := decide (w ≠ .isRef (.static Bundle.tN "UNASSIGNED_STACK" Bundle.steD)) && decide (w ≠ .isRef (.static Bundle.tN "SUPPRESSED_SENTINEL" Bundle.listD)) && decide (w ≠ .laysStatic Bundle.tN "UNASSIGNED_STACK" Bundle.steD) && decide (w ≠ .laysStatic Bundle.tN "SUPPRESSED_SENTINEL" Bundle.listD)
def vx_at0 (own : String) (ic : Nat) (X : String) (names : List String) : List Cond := (Bundle.ownAtoms0 own ic X names).filter vx_no
def vx_atS (own : String) (ic : Nat) (X : String) (names : List String) : List Cond := (Bundle.ownAtoms own ic X names).filter vx_no
/-- a word that the tables alone decide, or a good one -/
def vx_ot (w : Cond) : Bool := w.onTables || goodWord w
theorem vx_ot_at {args a' : Array Value} {s U : State} {w : Cond} (hW : s.WarmedH U.vm) (hvm : s.vm = U.vm) (hg : vx_ot w = true) (h : w.before args s = true) : w.before a' U = true := by
  simp only [vx_ot, Bool.or_eq_true] at hg
  rcases hg with hg | hg
  · exact va_tabs hg hvm h
  · exact word_at hW (good_of_word hg) h
/-- a list's words: the good ones out of the method's own list, the others by premises of their own -/
theorem vx_hat {args : Array Value} {s : State} {L B : List Cond} (h1 : ∀ w ∈ L.filter goodWord, w.before args s = true) (h2 : ∀ w ∈ L.filter (fun w => !goodWord w), w ∈ B) (h3 : ∀ w ∈ B, w.before args s = true) : ∀ w ∈ L, w.before args s = true := by
  intro w hw
  by_cases g : goodWord w = true
  · exact h1 w (List.mem_filter.mpr ⟨hw, g⟩)
  · refine h3 w (h2 w (List.mem_filter.mpr ⟨hw, ?_⟩))
    show (!goodWord w) = true
    cases hgw : goodWord w
    · rfl
    · exact absurd hgw g
theorem vx_c {args : Array Value} {s : State} {w : Cond} {B : List Cond} (h : w.before args s = true) (t : ∀ w ∈ B, w.before args s = true) : ∀ w' ∈ w :: B, w'.before args s = true := fun w' h' => (List.mem_cons.mp h').elim (fun e => by rw [e]; exact h) (t w')
theorem vx_n {args : Array Value} {s : State} : ∀ w ∈ ([] : List Cond), w.before args s = true := fun _ h => nomatch h
theorem vx_own {args : Array Value} {s : State} {L : List Cond} (h1 : ∀ w ∈ L.filter vx_no, w.before args s = true)
    (hU : (Cond.isRef (.static Bundle.tN "UNASSIGNED_STACK" Bundle.steD)).before args s = true) (hN : (Cond.isRef (.static Bundle.tN "SUPPRESSED_SENTINEL" Bundle.listD)).before args s = true)
    (lU : (Cond.laysStatic Bundle.tN "UNASSIGNED_STACK" Bundle.steD).before args s = true) (lN : (Cond.laysStatic Bundle.tN "SUPPRESSED_SENTINEL" Bundle.listD).before args s = true) : ∀ w ∈ L, w.before args s = true := by
  intro w hw
  by_cases e1 : w = .isRef (.static Bundle.tN "UNASSIGNED_STACK" Bundle.steD)
  · rw [e1]; exact hU
  · by_cases e2 : w = .isRef (.static Bundle.tN "SUPPRESSED_SENTINEL" Bundle.listD)
    · rw [e2]; exact hN
    · by_cases e3 : w = .laysStatic Bundle.tN "UNASSIGNED_STACK" Bundle.steD
      · rw [e3]; exact lU
      · by_cases e4 : w = .laysStatic Bundle.tN "SUPPRESSED_SENTINEL" Bundle.listD
        · rw [e4]; exact lN
        · exact h1 w (List.mem_filter.mpr ⟨hw, by unfold vx_no; rw [decide_eq_true e1, decide_eq_true e2, decide_eq_true e3, decide_eq_true e4]; rfl⟩)
/-- where a static field lies, its class's statics cell in H -/
def vx_L (C n d : String) (A : Nat → Prop) (U : State) (H : Heap) : Prop := ∃ (c : ClassId) (k : Class) (i : Nat) (f : Field) (a : Nat) (cell : Cell), U.vm.findClass C = some c ∧ U.fieldFound? C n d = some (c, k, i, f) ∧ f.isStatic = true ∧ k.statics = some a ∧ H[a]? = some cell ∧ cell.vm.isStatics = true ∧ cell.cls = c ∧ f.slot < cell.slots.size ∧ k.staticTypes[f.slot]? = some f.type ∧ ¬ A a
theorem vx_L.moved {C n d : String} {A : Nat → Prop} {u U : State} {H : Heap} (hvm : u.vm.Alike U.vm) (h : vx_L C n d A u H) : vx_L C n d A U H := by
  obtain ⟨c, k, i, f, a, cell, h1, h2, h3, h4, h5, h6, h7, h8, h9, h10⟩ := h
  obtain ⟨k', hi', he⟩ := State.fieldFound?_setVm hvm h2
  exact ⟨c, k', i, f, a, cell, by rw [hvm.findClass]; exact h1, hi', h3, by rw [he]; exact h4, h5, h6, h7, h8, by rw [he]; exact h9, h10⟩
theorem vx_L.kept {C n d : String} {A : Nat → Prop} {U : State} {H H1 : Heap} (h : vx_L C n d A U H) (hq : ∀ a : Nat, a < H.size → ¬ A a → H1[a]? = H[a]?) : vx_L C n d A U H1 := by
  obtain ⟨c, k, i, f, a, cell, h1, h2, h3, h4, h5, h6, h7, h8, h9, h10⟩ := h
  exact ⟨c, k, i, f, a, cell, h1, h2, h3, h4, by rw [hq a (Array.getElem?_eq_some_iff.mp h5).1 h10]; exact h5, h6, h7, h8, h9, h10⟩
theorem vx_L.narrow {C n d : String} {A B : Nat → Prop} {U : State} {H : Heap} (h : vx_L C n d A U H) (hAB : ∀ q, B q → A q) : vx_L C n d B U H := by
  obtain ⟨c, k, i, f, a, cell, h1, h2, h3, h4, h5, h6, h7, h8, h9, h10⟩ := h
  exact ⟨c, k, i, f, a, cell, h1, h2, h3, h4, h5, h6, h7, h8, h9, fun z => h10 (hAB _ z)⟩
theorem vx_L.word {C n d : String} {A : Nat → Prop} {s : State} {args : Array Value} (h : vx_L C n d A s s.heap) : (Cond.laysStatic C n d).before args s = true := by
  obtain ⟨c, k, i, f, a, cell, h1, h2, h3, h4, h5, h6, h7, h8, h9, -⟩ := h
  show (Cond.laysStatic C n d).holds args s none s [] = true
  exact Cond.laysStatic_of h1 h2 h3 h4 h5 h6 h7 h8 h9
/-- .. and what it holds: null or some reference -/
def vx_Zq (C n d : String) (A : Nat → Prop) (U : State) (H : Heap) : Prop := va_Zq C n d A U H ∧ vx_L C n d A U H
theorem vx_Zq.moved {C n d : String} {A : Nat → Prop} {u U : State} {H : Heap} (hvm : u.vm.Alike U.vm) (h : vx_Zq C n d A u H) : vx_Zq C n d A U H := ⟨va_Zq.moved hvm h.1, vx_L.moved hvm h.2⟩
theorem vx_Zq.kept {C n d : String} {A : Nat → Prop} {U : State} {H H1 : Heap} (h : vx_Zq C n d A U H) (hq : ∀ a : Nat, a < H.size → ¬ A a → H1[a]? = H[a]?) : vx_Zq C n d A U H1 := ⟨va_Zq.kept h.1 hq, vx_L.kept h.2 hq⟩
theorem vx_Zq.narrow {C n d : String} {A B : Nat → Prop} {U : State} {H : Heap} (h : vx_Zq C n d A U H) (hAB : ∀ q, B q → A q) : vx_Zq C n d B U H := ⟨va_Zq.narrow h.1 hAB, vx_L.narrow h.2 hAB⟩
theorem vx_Zqof {args : Array Value} {s : State} {C n d : String} {A : Nat → Prop} (hl : (Cond.laysStatic C n d).before args s = true) (hini : (Cond.initialized C).before args s = true) (h : (Cond.isRef (.static C n d)).before args s = true) (hA : ∀ a : Nat, a < s.heap.size → ¬ A a) : vx_Zq C n d A s s.heap := by
  refine ⟨va_Zqof hl hini h hA, ?_⟩
  obtain ⟨c, k, i, f, a, cell, h1, h2, h3, h4, h5, h6, h7, h8, h9⟩ := Cond.laysStatic_spec hl
  exact ⟨c, k, i, f, a, cell, h1, h2, h3, h4, h5, h6, h7, h8, h9, hA a (Array.getElem?_eq_some_iff.mp h5).1⟩
theorem vx_isRef {C n d : String} {v : Value} {A : Nat → Prop} {s : State} {args : Array Value} (h : va_Z C n d v A s s.heap) (hv : v.isRef = true) : (Cond.isRef (.static C n d)).before args s = true := by
  obtain ⟨cf, kf, fi, f, a, cell, h1, h2, h3, h4, h5, h6, h7, -⟩ := h
  have he : (Term.static C n d).eval args s none [] s = some v := by
    simp [Term.eval, State.fieldNamed?, h1, h2, h4, h5, h6, h7]
  simp only [Cond.before, Cond.holds, Cond.value, he]
  cases v <;> simp_all [Value.isRef]
theorem vx_isRefq {C n d : String} {A : Nat → Prop} {s : State} {args : Array Value} (h : va_Zq C n d A s s.heap) : (Cond.isRef (.static C n d)).before args s = true := by
  rcases h with h | ⟨t, h⟩
  · exact vx_isRef h rfl
  · exact vx_isRef h rfl
/-- the same frame, seen from here: as if the method were called anew in this heap -/
theorem vx_rebase {T : State} (X : Stand p l e R s m args below meth c T locs cells slots) {R' : Room} (hf : R'.frames ≤ R.frames) (hl : R'.locals ≤ R.locals) (hc : cells + R'.cells ≤ R.cells) (hs : slots + R'.slots ≤ R.slots) :
    Stand p l e R' ((T.setVm s.vm).setFrames (.invoking m args :: below)) m args below meth c T [] 0 0 := by
  have htop : (T.setVm s.vm).topJava?.isSome := X.here.top
  have hF : ((T.setVm s.vm).setFrames (.invoking m args :: below)).frames = .invoking m args :: below := State.frames_setFrames _ (State.cur_lt_of_top htop)
  obtain ⟨g₀, hg0⟩ := Option.isSome_iff_exists.mp htop
  obtain ⟨r, hr⟩ := State.topJava?_eq_some.mp hg0
  have hl9 : e.platform.stackLimits (T.setVm s.vm).me = e.platform.stackLimits s.me := X.limits
  have hb9 : (T.setVm s.vm).me.stackBytes = s.me.stackBytes := X.bytes
  refine ⟨X.admits, X.cas, X.clock, hF, ?_, X.hears, X.method, X.code, X.here, X.tail, X.warmed, ?_, ?_, ?_⟩
  · have h := X.room
    have hU : ((T.setVm s.vm).setFrames (.invoking m args :: below)).localsInUse = s.localsInUse := by
      rw [State.localsInUse_invoking hF (meth := meth) (c := c) X.method X.code, State.localsInUse_invoking X.frames X.method X.code]
    simp only [State.hasRoom, Bool.and_eq_true, decide_eq_true_eq] at h ⊢
    obtain ⟨⟨⟨⟨h1, h2, h3, h4, h5, h6⟩, h7⟩, h8⟩, h9⟩ := h
    rw [X.frames, List.length_cons] at h2 h3
    have q1 := X.heapSize
    have q2 := X.used
    simp only [hF, hU, List.length_cons, State.stackLimits_setFrames, State.stackBytes_setFrames, hl9, hb9]
    refine ⟨⟨⟨⟨by omega, by omega, by omega, by omega, by omega, h6⟩, ?_⟩, ?_⟩, X.book⟩
    · show T.heap.size + R'.cells ≤ e.platform.maxCells
      omega
    · show T.slotsUsed + R'.slots ≤ e.platform.maxSlots
      omega
  · rw [State.stackLimits_setFrames]; rfl
  · rw [State.stackBytes_setFrames]; rfl
  · refine ⟨?_, Nat.le_refl _, Nat.le_refl _, ?_, ?_, fun a c9 h9 => ⟨c9, h9, rfl, rfl, fun _ _ => rfl⟩⟩
    · obtain ⟨t, ht, -⟩ := State.frames_cons hr
      show T.setVm s.vm = { ((T.setVm s.vm).setFrames (.invoking m args :: below)).setFrames (T.setVm s.vm).frames with heap := T.heap, slotsUsed := T.slotsUsed }
      rw [State.setFrames_setFrames, State.setFrames_self ht]
      rfl
    · show T.slotsUsed = T.slotsUsed + ((T.heap.toList.drop T.heap.size).map (·.slots.size)).sum
      rw [List.drop_eq_nil_of_le (Nat.le_of_eq Array.length_toList)]
      rfl
    · show ((T.heap.toList.drop T.heap.size).map (·.slots.size)).sum ≤ 0
      rw [List.drop_eq_nil_of_le (Nat.le_of_eq Array.length_toList)]
      exact Nat.le_refl _
/-- 'throw new E()': new; dup; invokespecial; athrow -/
theorem vx_throw0 {cc : ByteArray} {pc : Nat} (hexec : p.tables.exec = Jvm.exec) (hb : c.code = cc) (hl : l.stackTraces = false) {own cls : String} {names : List String} {ik ic mc ms : Nat} {A : Nat → Prop}
    (hown : s.vm.findClass own = some m.cls) (hcls : Bundle.fit cls = true) (hnames : ∀ n ∈ names, Bundle.fit n = true)
    (hk : (Cond.classLink own ik cls).before args s = true) (hini : (Cond.initialized cls).before args s = true) (hat : ∀ w ∈ vx_at0 own ic cls names, w.before args s = true)
    (hgood : ∀ w ∈ Cond.classLink own ik cls :: Cond.initialized cls :: vx_at0 own ic cls names, vx_ot w = true)
    (hU : vx_Zq Bundle.tN "UNASSIGNED_STACK" Bundle.steD A s s.heap) (hN : vx_Zq Bundle.tN "SUPPRESSED_SENTINEL" Bundle.listD A s s.heap) (hS : va_S A s.heap H locs) (hsize : ls.size = c.maxLocals)
    (d0 : decode cc pc = .ok (.new ik, 3)) (d3 : decode cc (pc + 3) = .ok (.dup, 1)) (d4 : decode cc (pc + 4) = .ok (.invokespecial ic, 3)) (d7 : decode cc (pc + 7) = .ok (.athrow, 1))
    (hout : ∀ x ∈ c.exceptionTable.toList, covers x (pc + 7) = false)
    (hRframes : names.length + 3 < R.frames) (hRlocals : (rest.map fun v => v.category).sum + (13 * (names.length + 1) + 42) ≤ R.locals) (hRcells : cells + 1 ≤ R.cells) (hRslots : slots + 6 ≤ R.slots) (hlocks : meth.locks = false)
    (hx : ∀ t : State, s.vm.Alike t.vm → H.size ≤ t.heap.size → (∀ q : Nat, q < H.size → t.heap[q]? = H[q]?) → XC cls s t)
    (hf : ∀ z ∈ locs, free z.base) (hc : cells + 1 ≤ mc) (hs : slots + 6 ≤ ms) :
    W p l e R s m args below meth c H locs cells slots (vx_MQ below Qc XC args s mc ms free) (F0 m pc ls rest) := by
  intro T hT X
  have htr : e.platform.stackTraces = false := (show e.platform.stackTraces = l.stackTraces by rw [X.admits.platform]).trans hl
  have Y := vx_rebase X (R' := { frames := R.frames, locals := R.locals, cells := 1, slots := 6 }) (Nat.le_refl _) (Nat.le_refl _) hRcells hRslots
  obtain ⟨s', hA⟩ : ∃ z, z = (T.setVm s.vm).setFrames (.invoking m args :: below) := ⟨_, rfl⟩
  rw [← hA] at Y
  have hvm : s'.vm = s.vm := by rw [hA]; rfl
  have hhp : s'.heap = H := by rw [hA]; exact hT
  have hW0 : s.WarmedH s'.vm := by rw [hvm]; exact State.WarmedH.refl s
  have hat' : ∀ w ∈ vx_at0 own ic cls names, w.before args s' = true := fun w hw => vx_ot_at hW0 hvm.symm (hgood w (List.mem_cons_of_mem _ (List.mem_cons_of_mem _ hw))) (hat w hw)
  have hk' : (Cond.classLink own ik cls).before args s' = true := vx_ot_at hW0 hvm.symm (hgood _ List.mem_cons_self) hk
  have hini' : (Cond.initialized cls).before args s' = true := vx_ot_at hW0 hvm.symm (hgood _ (List.mem_cons_of_mem _ List.mem_cons_self)) hini
  have hU' : vx_Zq Bundle.tN "UNASSIGNED_STACK" Bundle.steD A s' s'.heap := by rw [hhp]; exact vx_Zq.moved hW0.alike (hU.kept hS.2.1)
  have hN' : vx_Zq Bundle.tN "SUPPRESSED_SENTINEL" Bundle.listD A s' s'.heap := by rw [hhp]; exact vx_Zq.moved hW0.alike (hN.kept hS.2.1)
  have h : ∀ w ∈ Bundle.ownAtoms0 own ic cls names, w.before args s' = true := vx_own hat' (vx_isRefq hU'.1) (vx_isRefq hN'.1) hU'.2.word hN'.2.word
  have hown' : s'.vm.findClass own = some m.cls := by rw [hvm]; exact hown
  have hins : (Cond.instantiable cls 6).before args s' = true := h _ (by simp [Bundle.ownAtoms0])
  obtain ⟨vm₁, cX, kX, hfX, hkX, -, -, X₁, st1⟩ := Y.newCold hexec (own := own) (C := cls) (index := ik) (n := 6) hown' hk' hins hini'
    (g := F0 m pc ls rest) rfl (by rw [hb]; exact d0) (Nat.le_refl _) (Nat.le_refl _)
  generalize hT1 : (T.setVm vm₁).pushCell { cls := cX, slots := kX.instanceTypes.map defaultValue, vm := .none } = T1 at X₁ st1
  have hcat : (Value.ref T.heap.size).category = 1 := rfl
  have hcellA : T1.heap[T.heap.size]? = some (freshCell cX kX) := by rw [← hT1]; exact State.heap_pushCell_size _ _
  have d3' : decode c.code (pc + 3) = .ok (.dup, 1) := by rw [hb]; exact d3
  obtain ⟨U, hsteps, hrun, hend, hW, hsame, ce, hce, hO⟩ := X₁.ctorThrow0 hexec htr (own := own) (cls := cls) (names := names) (ic := ic) hown' hcls hnames h (fun x hx => nomatch hx) hfX hkX hcellA (by rw [hhp, hT]; exact Nat.le_refl _)
    (g := { method := m, pc := pc + 4, locals := ls, stack := .ref T.heap.size :: .ref T.heap.size :: rest, locked := none }) rfl hsize rfl rfl (rest := rest) rfl
    (by rw [hb]; exact d4) (by rw [hb]; exact d7) hout hRframes (by simp only [List.map_cons, List.sum_cons, hcat]; omega) hlocks
  obtain ⟨f1, f2⟩ := vx_frame hsame
  rw [hhp] at f1 f2
  have hWs : s.WarmedH U.vm := State.WarmedH.trans hW0 hW
  have hcl : s.vm.findClass cls = some ce.cls := by
    have h9 := hO.cls
    rw [hvm] at h9
    exact h9
  have hall : s.sameButNew ({ U with vm := s.vm } : State) locs mc ms := by
    subst hA
    obtain ⟨e1, e2⟩ := hsame
    rw [State.setFrames_setFrames] at e1
    have h2 : (T.setVm s.vm).sameButNew ({ U with vm := s.vm } : State) [] (0 + 1) (0 + 6) := ⟨e1, e2⟩
    have h3 := X.same.trans h2
    rw [List.append_nil] at h3
    exact h3.mono hc hs
  refine ⟨U, ?_, .threw T.heap.size, hrun, hend, Or.inr ⟨T.heap.size, rfl, cls, ce, locs, hx U hWs.alike f1 (fun q hq => f2 q hq (fun z hz => nomatch hz)), hce, hO.vm, hcl, hWs, hall, hf⟩⟩
  refine st1 _ ?_
  show Steps p.tables e below (T1.setTop { method := m, pc := pc + 3, locals := ls, stack := .ref T.heap.size :: rest, locked := none }) _
  jvm_step X₁.here [X₁.here.top, hexec, d3', Value.category]
  exact hsteps
/-- 'throw new E("text")': new; dup; ldc; invokespecial; athrow -/
theorem vx_throwS {cc : ByteArray} {pc : Nat} (hexec : p.tables.exec = Jvm.exec) (hb : c.code = cc) (hl : l.stackTraces = false) {own cls text : String} {names : List String} {ik is ic mc ms sa : Nat} {A : Nat → Prop}
    (hown : s.vm.findClass own = some m.cls) (hcls : Bundle.fit cls = true) (hnames : ∀ n ∈ names, Bundle.fit n = true)
    (hk : (Cond.classLink own ik cls).before args s = true) (hini : (Cond.initialized cls).before args s = true) (hstr : vk_R own is text sa s) (hat : ∀ w ∈ vx_atS own ic cls names, w.before args s = true)
    (hgood : ∀ w ∈ Cond.classLink own ik cls :: Cond.initialized cls :: vx_atS own ic cls names, vx_ot w = true)
    (hU : vx_Zq Bundle.tN "UNASSIGNED_STACK" Bundle.steD A s s.heap) (hN : vx_Zq Bundle.tN "SUPPRESSED_SENTINEL" Bundle.listD A s s.heap) (hS : va_S A s.heap H locs) (hsize : ls.size = c.maxLocals)
    (d0 : decode cc pc = .ok (.new ik, 3)) (d3 : decode cc (pc + 3) = .ok (.dup, 1)) (d4 : decode cc (pc + 4) = .ok (.ldc is, 2)) (d6 : decode cc (pc + 6) = .ok (.invokespecial ic, 3)) (d9 : decode cc (pc + 9) = .ok (.athrow, 1))
    (hout : ∀ x ∈ c.exceptionTable.toList, covers x (pc + 9) = false)
    (hRframes : names.length + 3 < R.frames) (hRlocals : (rest.map fun v => v.category).sum + (13 * (names.length + 1) + 43) ≤ R.locals) (hRcells : cells + 1 ≤ R.cells) (hRslots : slots + 6 ≤ R.slots) (hlocks : meth.locks = false)
    (hx : ∀ t : State, s.vm.Alike t.vm → H.size ≤ t.heap.size → (∀ q : Nat, q < H.size → t.heap[q]? = H[q]?) → XC cls s t)
    (hf : ∀ z ∈ locs, free z.base) (hc : cells + 1 ≤ mc) (hs : slots + 6 ≤ ms) :
    W p l e R s m args below meth c H locs cells slots (vx_MQ below Qc XC args s mc ms free) (F0 m pc ls rest) := by
  intro T hT X
  have htr : e.platform.stackTraces = false := (show e.platform.stackTraces = l.stackTraces by rw [X.admits.platform]).trans hl
  have Y := vx_rebase X (R' := { frames := R.frames, locals := R.locals, cells := 1, slots := 6 }) (Nat.le_refl _) (Nat.le_refl _) hRcells hRslots
  obtain ⟨s', hA⟩ : ∃ z, z = (T.setVm s.vm).setFrames (.invoking m args :: below) := ⟨_, rfl⟩
  rw [← hA] at Y
  have hvm : s'.vm = s.vm := by rw [hA]; rfl
  have hhp : s'.heap = H := by rw [hA]; exact hT
  have hW0 : s.WarmedH s'.vm := by rw [hvm]; exact State.WarmedH.refl s
  have hat' : ∀ w ∈ vx_atS own ic cls names, w.before args s' = true := fun w hw => vx_ot_at hW0 hvm.symm (hgood w (List.mem_cons_of_mem _ (List.mem_cons_of_mem _ hw))) (hat w hw)
  have hk' : (Cond.classLink own ik cls).before args s' = true := vx_ot_at hW0 hvm.symm (hgood _ List.mem_cons_self) hk
  have hini' : (Cond.initialized cls).before args s' = true := vx_ot_at hW0 hvm.symm (hgood _ (List.mem_cons_of_mem _ List.mem_cons_self)) hini
  have hU' : vx_Zq Bundle.tN "UNASSIGNED_STACK" Bundle.steD A s' s'.heap := by rw [hhp]; exact vx_Zq.moved hW0.alike (hU.kept hS.2.1)
  have hN' : vx_Zq Bundle.tN "SUPPRESSED_SENTINEL" Bundle.listD A s' s'.heap := by rw [hhp]; exact vx_Zq.moved hW0.alike (hN.kept hS.2.1)
  have h : ∀ w ∈ Bundle.ownAtoms own ic cls names, w.before args s' = true := vx_own hat' (vx_isRefq hU'.1) (vx_isRefq hN'.1) hU'.2.word hN'.2.word
  have hown' : s'.vm.findClass own = some m.cls := by rw [hvm]; exact hown
  have hins : (Cond.instantiable cls 6).before args s' = true := h _ (by simp [Bundle.ownAtoms])
  obtain ⟨vm₁, cX, kX, hfX, hkX, -, -, X₁, st1⟩ := Y.newCold hexec (own := own) (C := cls) (index := ik) (n := 6) hown' hk' hins hini'
    (g := F0 m pc ls rest) rfl (by rw [hb]; exact d0) (Nat.le_refl _) (Nat.le_refl _)
  generalize hT1 : (T.setVm vm₁).pushCell { cls := cX, slots := kX.instanceTypes.map defaultValue, vm := .none } = T1 at X₁ st1
  have hcat : (Value.ref T.heap.size).category = 1 := rfl
  have hcellA : T1.heap[T.heap.size]? = some (freshCell cX kX) := by rw [← hT1]; exact State.heap_pushCell_size _ _
  have d3' : decode c.code (pc + 3) = .ok (.dup, 1) := by rw [hb]; exact d3
  have d4' : decode c.code (pc + 4) = .ok (.ldc is, 2) := by rw [hb]; exact d4
  have hstr' : vk_R own is text sa s' := vk_R.warm hW0 hstr
  obtain ⟨U, hsteps, hrun, hend, hW, hsame, ce, hce, hO⟩ := X₁.ctorThrowS hexec htr (own := own) (cls := cls) (names := names) (ic := ic) hown' hcls hnames h (fun x hx => nomatch hx) hfX hkX hcellA (by rw [hhp, hT]; exact Nat.le_refl _) (msg := .ref sa) rfl
    (g := { method := m, pc := pc + 6, locals := ls, stack := .ref sa :: .ref T.heap.size :: .ref T.heap.size :: rest, locked := none }) rfl hsize rfl rfl (rest := rest) rfl
    (by rw [hb]; exact d6) (by rw [hb]; exact d9) hout hRframes (by simp only [List.map_cons, List.sum_cons, hcat]; omega) hlocks
  obtain ⟨f1, f2⟩ := vx_frame hsame
  rw [hhp] at f1 f2
  have hWs : s.WarmedH U.vm := State.WarmedH.trans hW0 hW
  have hcl : s.vm.findClass cls = some ce.cls := by
    have h9 := hO.cls
    rw [hvm] at h9
    exact h9
  have hall : s.sameButNew ({ U with vm := s.vm } : State) locs mc ms := by
    subst hA
    obtain ⟨e1, e2⟩ := hsame
    rw [State.setFrames_setFrames] at e1
    have h2 : (T.setVm s.vm).sameButNew ({ U with vm := s.vm } : State) [] (0 + 1) (0 + 6) := ⟨e1, e2⟩
    have h3 := X.same.trans h2
    rw [List.append_nil] at h3
    exact h3.mono hc hs
  refine ⟨U, ?_, .threw T.heap.size, hrun, hend, Or.inr ⟨T.heap.size, rfl, cls, ce, locs, hx U hWs.alike f1 (fun q hq => f2 q hq (fun z hz => nomatch hz)), hce, hO.vm, hcl, hWs, hall, hf⟩⟩
  refine st1 _ ?_
  show Steps p.tables e below (T1.setTop { method := m, pc := pc + 3, locals := ls, stack := .ref T.heap.size :: rest, locked := none }) _
  jvm_step X₁.here [X₁.here.top, hexec, d3', Value.category]
  exact X₁.ldcString hexec (own := own) (text := text) (index := is) (a := sa) hown' hstr'.1 hstr'.2
    (g := { method := m, pc := pc + 4, locals := ls, stack := .ref T.heap.size :: .ref T.heap.size :: rest, locked := none }) rfl d4' _ hsteps
/-- 'throw new E("text")', the text by a wide index -/
theorem vx_throwSW {cc : ByteArray} {pc : Nat} (hexec : p.tables.exec = Jvm.exec) (hb : c.code = cc) (hl : l.stackTraces = false) {own cls text : String} {names : List String} {ik is ic mc ms sa : Nat} {A : Nat → Prop}
    (hown : s.vm.findClass own = some m.cls) (hcls : Bundle.fit cls = true) (hnames : ∀ n ∈ names, Bundle.fit n = true)
    (hk : (Cond.classLink own ik cls).before args s = true) (hini : (Cond.initialized cls).before args s = true) (hstr : vk_R own is text sa s) (hat : ∀ w ∈ vx_atS own ic cls names, w.before args s = true)
    (hgood : ∀ w ∈ Cond.classLink own ik cls :: Cond.initialized cls :: vx_atS own ic cls names, vx_ot w = true)
    (hU : vx_Zq Bundle.tN "UNASSIGNED_STACK" Bundle.steD A s s.heap) (hN : vx_Zq Bundle.tN "SUPPRESSED_SENTINEL" Bundle.listD A s s.heap) (hS : va_S A s.heap H locs) (hsize : ls.size = c.maxLocals)
    (d0 : decode cc pc = .ok (.new ik, 3)) (d3 : decode cc (pc + 3) = .ok (.dup, 1)) (d4 : decode cc (pc + 4) = .ok (.ldc_w is, 3)) (d7 : decode cc (pc + 7) = .ok (.invokespecial ic, 3)) (d10 : decode cc (pc + 10) = .ok (.athrow, 1))
    (hout : ∀ x ∈ c.exceptionTable.toList, covers x (pc + 10) = false)
    (hRframes : names.length + 3 < R.frames) (hRlocals : (rest.map fun v => v.category).sum + (13 * (names.length + 1) + 43) ≤ R.locals) (hRcells : cells + 1 ≤ R.cells) (hRslots : slots + 6 ≤ R.slots) (hlocks : meth.locks = false)
    (hx : ∀ t : State, s.vm.Alike t.vm → H.size ≤ t.heap.size → (∀ q : Nat, q < H.size → t.heap[q]? = H[q]?) → XC cls s t)
    (hf : ∀ z ∈ locs, free z.base) (hc : cells + 1 ≤ mc) (hs : slots + 6 ≤ ms) :
    W p l e R s m args below meth c H locs cells slots (vx_MQ below Qc XC args s mc ms free) (F0 m pc ls rest) := by
  intro T hT X
  have htr : e.platform.stackTraces = false := (show e.platform.stackTraces = l.stackTraces by rw [X.admits.platform]).trans hl
  have Y := vx_rebase X (R' := { frames := R.frames, locals := R.locals, cells := 1, slots := 6 }) (Nat.le_refl _) (Nat.le_refl _) hRcells hRslots
  obtain ⟨s', hA⟩ : ∃ z, z = (T.setVm s.vm).setFrames (.invoking m args :: below) := ⟨_, rfl⟩
  rw [← hA] at Y
  have hvm : s'.vm = s.vm := by rw [hA]; rfl
  have hhp : s'.heap = H := by rw [hA]; exact hT
  have hW0 : s.WarmedH s'.vm := by rw [hvm]; exact State.WarmedH.refl s
  have hat' : ∀ w ∈ vx_atS own ic cls names, w.before args s' = true := fun w hw => vx_ot_at hW0 hvm.symm (hgood w (List.mem_cons_of_mem _ (List.mem_cons_of_mem _ hw))) (hat w hw)
  have hk' : (Cond.classLink own ik cls).before args s' = true := vx_ot_at hW0 hvm.symm (hgood _ List.mem_cons_self) hk
  have hini' : (Cond.initialized cls).before args s' = true := vx_ot_at hW0 hvm.symm (hgood _ (List.mem_cons_of_mem _ List.mem_cons_self)) hini
  have hU' : vx_Zq Bundle.tN "UNASSIGNED_STACK" Bundle.steD A s' s'.heap := by rw [hhp]; exact vx_Zq.moved hW0.alike (hU.kept hS.2.1)
  have hN' : vx_Zq Bundle.tN "SUPPRESSED_SENTINEL" Bundle.listD A s' s'.heap := by rw [hhp]; exact vx_Zq.moved hW0.alike (hN.kept hS.2.1)
  have h : ∀ w ∈ Bundle.ownAtoms own ic cls names, w.before args s' = true := vx_own hat' (vx_isRefq hU'.1) (vx_isRefq hN'.1) hU'.2.word hN'.2.word
  have hown' : s'.vm.findClass own = some m.cls := by rw [hvm]; exact hown
  have hins : (Cond.instantiable cls 6).before args s' = true := h _ (by simp [Bundle.ownAtoms])
  obtain ⟨vm₁, cX, kX, hfX, hkX, -, -, X₁, st1⟩ := Y.newCold hexec (own := own) (C := cls) (index := ik) (n := 6) hown' hk' hins hini'
    (g := F0 m pc ls rest) rfl (by rw [hb]; exact d0) (Nat.le_refl _) (Nat.le_refl _)
  generalize hT1 : (T.setVm vm₁).pushCell { cls := cX, slots := kX.instanceTypes.map defaultValue, vm := .none } = T1 at X₁ st1
  have hcat : (Value.ref T.heap.size).category = 1 := rfl
  have hcellA : T1.heap[T.heap.size]? = some (freshCell cX kX) := by rw [← hT1]; exact State.heap_pushCell_size _ _
  have d3' : decode c.code (pc + 3) = .ok (.dup, 1) := by rw [hb]; exact d3
  have d4' : decode c.code (pc + 4) = .ok (.ldc_w is, 3) := by rw [hb]; exact d4
  have hstr' : vk_R own is text sa s' := vk_R.warm hW0 hstr
  obtain ⟨U, hsteps, hrun, hend, hW, hsame, ce, hce, hO⟩ := X₁.ctorThrowS hexec htr (own := own) (cls := cls) (names := names) (ic := ic) hown' hcls hnames h (fun x hx => nomatch hx) hfX hkX hcellA (by rw [hhp, hT]; exact Nat.le_refl _) (msg := .ref sa) rfl
    (g := { method := m, pc := pc + 7, locals := ls, stack := .ref sa :: .ref T.heap.size :: .ref T.heap.size :: rest, locked := none }) rfl hsize rfl rfl (rest := rest) rfl
    (by rw [hb]; exact d7) (by rw [hb]; exact d10) hout hRframes (by simp only [List.map_cons, List.sum_cons, hcat]; omega) hlocks
  obtain ⟨f1, f2⟩ := vx_frame hsame
  rw [hhp] at f1 f2
  have hWs : s.WarmedH U.vm := State.WarmedH.trans hW0 hW
  have hcl : s.vm.findClass cls = some ce.cls := by
    have h9 := hO.cls
    rw [hvm] at h9
    exact h9
  have hall : s.sameButNew ({ U with vm := s.vm } : State) locs mc ms := by
    subst hA
    obtain ⟨e1, e2⟩ := hsame
    rw [State.setFrames_setFrames] at e1
    have h2 : (T.setVm s.vm).sameButNew ({ U with vm := s.vm } : State) [] (0 + 1) (0 + 6) := ⟨e1, e2⟩
    have h3 := X.same.trans h2
    rw [List.append_nil] at h3
    exact h3.mono hc hs
  refine ⟨U, ?_, .threw T.heap.size, hrun, hend, Or.inr ⟨T.heap.size, rfl, cls, ce, locs, hx U hWs.alike f1 (fun q hq => f2 q hq (fun z hz => nomatch hz)), hce, hO.vm, hcl, hWs, hall, hf⟩⟩
  refine st1 _ ?_
  show Steps p.tables e below (T1.setTop { method := m, pc := pc + 3, locals := ls, stack := .ref T.heap.size :: rest, locked := none }) _
  jvm_step X₁.here [X₁.here.top, hexec, d3', Value.category]
  exact X₁.ldcStringW hexec (own := own) (text := text) (index := is) (a := sa) hown' hstr'.1 hstr'.2
    (g := { method := m, pc := pc + 4, locals := ls, stack := .ref T.heap.size :: .ref T.heap.size :: rest, locked := none }) rfl d4' _ hsteps
end Ends
section Bodies
variable {l : Launch}
theorem vx_ofW {y : MethodName} {ws ws' : List Cond} {rm : Room} {Pc : Array Value → State → Prop} {Qc : Array Value → State → Outcome → State → Prop} {XC : String → State → State → Prop} {mc ms : Nat} {free : Addr → Prop} {cc : ByteArray} {maxL : Nat} {ret : Option FieldType}
    (hy : plainName y.cls = true) (hw : ws = Cond.code y cc maxL ret :: ws')
    (body : ∀ p e s m args below meth c s₁, BodyLoose p l y (headSpec ws rm) cc maxL ret e s m args below meth c s₁ → c.maxLocals = maxL → (∀ x ∈ c.exceptionTable.toList, False) → Pc args s →
      W p l e (headSpec ws rm).room s m args below meth c s.heap [] 0 0 (vx_MQ below Qc XC args s mc ms free) (entryFrame m args maxL)) : vx_Met l y ws rm Pc Qc XC mc ms free := by
  refine MetFree.of_bodyS (code := cc) (maxLocals := maxL) (ret := ret) hy ?_ ?_
  · intro args s m h hn
    obtain ⟨meth, c, h1, h2, h3, h4, h5, h6, -, -⟩ := Cond.code_spec hn (atoms_spec (ws := ws) h _ (by rw [hw]; exact List.mem_cons_self))
    exact ⟨meth, c, h1, h2, h3, h4, h5, h6⟩
  · intro p e s m args below meth c s₁ B hml hP _
    have hh0 : s₁.heap = s.heap := by rw [B.state]; rfl
    have ht : ∀ x ∈ c.exceptionTable.toList, False := by
      obtain ⟨meth9, c9, h1, h2, -, -, -, -, h7, -⟩ := Cond.code_spec B.named (atoms_spec (ws := ws) B.pre _ (by rw [hw]; exact List.mem_cons_self))
      cases Option.some.inj (h1.symm.trans B.method)
      cases Option.some.inj (h2.symm.trans (Stand.of_body B).code)
      intro x hx
      rw [Array.isEmpty_iff.mp h7] at hx
      cases hx
    obtain ⟨t, a1, o, b1, b2, b3⟩ := body p e s m args below meth c s₁ B hml ht hP s₁ hh0 (Stand.of_body B)
    exact ⟨t, o, a1, b1, b2, b3⟩
/-- the table of a body with handlers -/
theorem vx_table {p : Program} {x y : MethodName} {S : Spec} {cc bytes : ByteArray} {maxL maxL' : Nat} {ret ret' : Option FieldType} {e : Env} {s s₁ : State} {m : MethodId} {args : Array Value} {below : List Frame} {meth : Method} {c : Code} {hh : List (Nat × Nat × Nat × Nat)}
    (B : BodyLoose p l y S cc maxL ret e s m args below meth c s₁) (h : (Cond.codeWith y bytes maxL' ret' hh).before args s = true) : c.exceptionTable.toList = tableOf hh := by
  obtain ⟨m9, meth9, c9, hn9, h1, h2, -, -, h6, -⟩ := Cond.codeWith_spec h
  cases Option.some.inj (hn9.symm.trans B.named)
  cases Option.some.inj (h1.symm.trans B.method)
  cases Option.some.inj (h2.symm.trans (Stand.of_body B).code)
  rw [← h6, table_eq]
end Bodies
end VXA
/-! ===== END ===== -/
/-! ===== BEGIN a static call of a method with an exception table ===== -/
section VXS
variable {p : Program} {l : Launch} {e : Env} {R : Room} {s : State} {m : MethodId} {args : Array Value} {below : List Frame} {meth : Method} {c : Code} {T : State} {H : Heap} {locs : List Loc} {cells slots : Nat}
abbrev vx_CSW (R : Room) (s : State) (args : Array Value) (own : String) (index : Nat) (y : MethodName) (bytes : ByteArray) (maxL : Nat) (ret : Option FieldType) (hh : List (Nat × Nat × Nat × Nat)) (ws : List Cond) (rm : Room) (mc ms n : Nat) : Prop :=
  (rm.cells = mc ∧ rm.slots = ms ∧ rm.frames + 1 ≤ R.frames ∧ 8 + (maxL + 11) + rm.locals ≤ R.locals ∧ (∀ w ∈ ws, ∀ (a' : Array Value) (U : State), s.WarmedH U.vm → w.before a' U = true) ∧ Cond.codeWith y bytes maxL ret hh ∈ ws) ∧
  (Cond.codeWith y bytes maxL ret hh).before args s = true ∧ (Cond.initialized y.cls).before args s = true ∧ (y.cls ≠ "java/lang/invoke/MethodHandle" ∧ y.cls ≠ "java/lang/invoke/VarHandle") ∧
  (∀ sig, parseMethodDescriptor y.desc = some sig → n = sig.parameters.length) ∧ (Cond.methodLink own index y).before args s = true ∧ (Cond.static y).before args s = true
theorem vx_cwSW {own : String} {index maxL mc ms : Nat} {y : MethodName} {bytes : ByteArray} {ret : Option FieldType} {hh : List (Nat × Nat × Nat × Nat)} {Ts ws ws' : List Cond} {rm : Room} (n : Nat) (ht : ∀ w ∈ Ts, w.before args s = true) (hT : GoodIn Ts (va_wsS own index y ws)) (hw : ws = Cond.codeWith y bytes maxL ret hh :: ws') (hrc : rm.cells = mc) (hrs : rm.slots = ms)
    (hd : y.cls ≠ "java/lang/invoke/MethodHandle" ∧ y.cls ≠ "java/lang/invoke/VarHandle" ∧ (parseMethodDescriptor y.desc).map (fun d => d.parameters.length) = some n) (hR : rm.frames + 1 ≤ R.frames ∧ 8 + (maxL + 11) + rm.locals ≤ R.locals) :
    vx_CSW R s args own index y bytes maxL ret hh ws rm mc ms n := by
  have ok : ∀ w ∈ va_wsS own index y ws, w.before args s = true := fun w h => ht w (hT w h).1
  have hG : GoodIn Ts ws := fun w h => hT w (by unfold va_wsS; exact List.mem_append_right _ h)
  have hc : Cond.codeWith y bytes maxL ret hh ∈ ws := by rw [hw]; exact List.mem_cons_self
  refine ⟨⟨hrc, hrs, hR.1, hR.2, pay_in ht hG, hc⟩, ht _ (hG _ hc).1, ok _ (by simp [va_wsS]), ⟨hd.1, hd.2.1⟩, fun sig h => ?_, ok _ (by simp [va_wsS]), ok _ (by simp [va_wsS])⟩
  have h2 := hd.2.2
  rw [h] at h2
  exact (Option.some.inj h2).symm
theorem vx_callSW (X : Stand p l e R s m args below meth c T locs cells slots) (hexec : p.tables.exec = Jvm.exec) {own : String} {index : Nat} {y : MethodName} {bytes : ByteArray} {maxL : Nat} {ret : Option FieldType} {hh : List (Nat × Nat × Nat × Nat)}
    (hown : s.vm.findClass own = some m.cls) (hlink : (Cond.methodLink own index y).before args s = true) (hstat : (Cond.static y).before args s = true) (hinit : (Cond.initialized y.cls).before args s = true)
    (hcode : (Cond.codeWith y bytes maxL ret hh).before args s = true) (hy : y.cls ≠ "java/lang/invoke/MethodHandle" ∧ y.cls ≠ "java/lang/invoke/VarHandle")
    {W9 : Nat} {Pre : Pt → Array Value → Prop} {Post : Pt → Array Value → Option Value → Pt → Prop} (hK : Back l R p e below s args y 3 W9 Pre Post)
    {g : JFrame} (hg : g.method = m) (hsize : g.locals.size = c.maxLocals) {argsL rest : List Value} (hlen : ∀ sig, parseMethodDescriptor y.desc = some sig → argsL.length = sig.parameters.length)
    (hstack : g.stack = argsL.reverse ++ rest) (hW : 2 * g.monitorRoom + (rest.map fun v => v.category).sum ≤ W9) (hdg : decode c.code g.pc = .ok (.invokestatic index, 3))
    (hpre : ∀ vm₁, s.WarmedH vm₁ → Pre ⟨T.setVm vm₁, locs, cells, slots⟩ argsL.toArray) :
    ∃ (v : Option Value) (vm₁ : Vm) (B : Pt), s.WarmedH vm₁ ∧ Stand p l e R s m args below meth c B.U B.locs B.cells B.slots ∧ Post ⟨T.setVm vm₁, locs, cells, slots⟩ argsL.toArray v B ∧
      ∀ target, Steps p.tables e below (B.U.setTop { g with pc := g.pc + 3, stack := v.toList ++ rest }) target → Steps p.tables e below (T.setTop g) target := by
  obtain ⟨mk, methM, cM, hnamed, hmethM, -, -, -, -, -, -, hsigM⟩ := Cond.codeWith_spec hcode
  have hstatic : methM.isStatic = true := Cond.static_spec hnamed hmethM hstat
  obtain ⟨kP, hkP, -⟩ := className_of_methodNamed hnamed
  have hinitP : kP.init = .initialized := Cond.initialized_spec (findClass_of_methodNamed hnamed) hkP hinit
  obtain ⟨vm₁, X₁, hstep₁⟩ := X.invokestatic hexec hown hlink hnamed hmethM hstatic hkP hinitP hy (g := g) hg (argsL := argsL) (rest := rest) (hlen _ hsigM) hstack hdg
  obtain ⟨v, B, X', hpost, hsteps⟩ := hK m meth c ⟨T.setVm vm₁, locs, cells, slots⟩ { g with stack := rest } (.invokestatic index) mk argsL.toArray X₁ hg hsize hdg hW (X₁.named hnamed) (hpre vm₁ X₁.warmed)
  exact ⟨v, vm₁, B, X₁.warmed, X', hpost, fun target h => hstep₁ _ fun acts => by rw [doInvoke_state]; exact hsteps.trans h⟩
theorem vx_runSW {y : MethodName} {bytes cc : ByteArray} {maxL nL mc ms n index : Nat} {ret : Option FieldType} {hh : List (Nat × Nat × Nat × Nat)} {ws : List Cond} {rm : Room} {Pc : Array Value → State → Prop} {Qc : Array Value → State → Outcome → State → Prop} {free : Addr → Prop} {Ts : List Cond} {own : String} {As rest : List Value} {g : JFrame}
    (S : CallFix p m c cc nL s args Ts own) (hM : Met l y ws rm Pc Qc mc ms free) (cw : vx_CSW R s args own index y bytes maxL ret hh ws rm mc ms n) (hp : PreS s H Pc As)
    (hg : g.method = m) (hn : As.length = n) (hsize : g.locals.size = nL) (hstack : g.stack = As.reverse ++ rest) (hW : 2 * g.monitorRoom + (rest.map fun v => v.category).sum ≤ 8) (hdg : decode cc g.pc = .ok (.invokestatic index, 3)) (hf : cells + mc ≤ R.cells ∧ slots + ms ≤ R.slots) :
    va_Run p l e R s m args below meth c H locs cells slots mc ms g rest (Qc As.toArray) (free) := by
  obtain ⟨⟨hrc, hrs, hfr, hlo, hws, hcw⟩, hcode, hini, hy, hlen, hl, hstt⟩ := cw
  have hK : Back l R p e below s args y 3 8 (PreOf R mc ms Pc) (PostOf Qc mc ms free) := va_backW (hh := hh) (bytes := bytes) (maxL := maxL) (ret := ret) hM hp.1 hrc hrs hfr hlo hws hcw (fun a' U hW => word_at hW (Or.inl (by first | rfl | simp [Cond.onTables, Cond.keeps, Cond.steady])) hini)
  obtain ⟨hx, hb, hml, ho, -⟩ := S
  intro T hT X
  obtain ⟨v, vm₁, ⟨U', l2, c2, s2⟩, hW₁, X', ⟨g', mk, t, L, e1, e2, hq, h1, hL, h2, h3⟩, st⟩ := vx_callSW X hx (hh := hh) (bytes := bytes) (maxL := maxL) (ret := ret) ho hl hstt hini hcode hy hK hg (hsize.trans hml.symm) (argsL := As) (rest := rest) (fun sig h => hn.trans (hlen sig h)) hstack hW (by rw [hb]; exact hdg)
    (fun vm₁ hW₁ => ⟨hf.1, hf.2, hp.2 (T.setVm vm₁) hT hW₁⟩)
  dsimp only [Pt.U, Pt.locs, Pt.cells, Pt.slots] at X' e1 e2 h1 h2 h3 st
  subst h1; subst h2; subst h3
  exact ⟨v, (T.setVm vm₁).calling g' mk As.toArray, t, U', L, hT, X', hL, e1, e2, hq, st⟩
/-- not caught here, past rows that name other classes: it goes on to the caller -/
theorem vx_outP {p : Program} {l : Launch} {e : Env} {R : Room} {s : State} {m : MethodId} {args : Array Value} {below : List Frame} {meth : Method} {c : Code} {H : Heap} {locs : List Loc} {cells slots : Nat} {free : Addr → Prop} {ls : Array Slot} {rest : List Value} {Qc : Array Value → State → Outcome → State → Prop} {XC : String → State → State → Prop}
    {pc : Nat} {own E : String} {ce : Cell} {q : Addr} {mc ms : Nat} (hown : s.vm.findClass own = some m.cls) (hlocks : meth.locks = false)
    (hpass : ∀ z ∈ c.exceptionTable.toList, covers z pc = false ∨ (z.catchType ≠ 0 ∧ ∃ nm : String, (Cond.classLink own z.catchType nm).before args s = true ∧ va_Nc E nm s)) (hcell : H[q]? = some ce) (hv : ce.vm = .none) (hcl : s.vm.findClass E = some ce.cls)
    (hx : ∀ t : State, t.heap = H → s.vm.Alike t.vm → XC E s t) (hf : ∀ z ∈ locs, free z.base) (hc : cells ≤ mc) (hs : slots ≤ ms) :
    vx_W p l e R s m args below meth c H locs cells slots (vx_MQ below Qc XC args s mc ms free) (F0 m pc ls rest) q := by
  intro T hT X
  have hpl : e.platform.magicAccessors = ({} : Platform).magicAccessors := by rw [X.admits.platform]
  obtain ⟨vm', hW', X', st⟩ := X.outThrough hlocks q (g := F0 m pc ls rest) rfl rfl rfl (cell := ce) (by rw [hT]; exact hcell) (by rw [hv]; rfl)
    (by obtain ⟨k9, h9, -⟩ := Vm.findClass_spec hcl; exact ⟨k9, h9⟩) (fun z hz => by
      rcases hpass z hz with h | ⟨hz0, nm, hl1, hn1⟩
      · exact Or.inl h
      · obtain ⟨c6, hc6, hcl6⟩ := Cond.classLink_spec hown hl1 e.platform hpl
        obtain ⟨a8, b8, h1, h2, h3⟩ := hn1
        cases Option.some.inj (h1.symm.trans hcl)
        cases Option.some.inj (h2.symm.trans hc6)
        exact Or.inr ⟨hz0, _, hcl6, h3⟩)
  obtain ⟨g₀, hfr⟩ := X'.frames_eq
  have hcell9 : ((T.setVm vm').setFrames (.throwing q :: below)).heap[q]? = some ce := by
    show T.heap[q]? = some ce
    rw [hT]; exact hcell
  have hend : Ended ((T.setVm vm').setFrames (.throwing q :: below)) below (.threw q) := State.frames_setFrames _ (State.cur_lt_of_frames hfr)
  refine ⟨(T.setVm vm').setFrames (.throwing q :: below), ?_, .threw q, X'.here.running, hend, Or.inr ⟨q, rfl, E, ce, locs, hx _ hT (X'.ends _).1.alike, hcell9, hv, hcl, (X'.ends _).1, (X'.ends _).2.mono hc hs, hf⟩⟩
  rw [X.pushThrowing_eq]
  exact st
/-- a thing of a world lies in the heap -/
theorem vx_lt {D : va_G} {cl : List vw_C} {ws : va_W} {H1 : Heap} (h : va_P D cl ws H1) {k : Nat} {q : Nat × va_E} (hk : ws[k]? = some q) : q.1 < H1.size := (h k q hk).lt
end VXS
/-! ===== END ===== -/
/-! ===== BEGIN methods with a table of their own: called by a name, returning or throwing ===== -/
section VXH
/-! vx_backW, vx_callVX, vx_callSX, vx_callVW, vx_runVW, vx_runVX, vx_runSX, vx_ofWH follow the same proofs as their sisters above (Free/Laws.lean, Shelf42/LK1.lean); vx_outP calls Shelf42/NT130.lean (outThrough). -/
section
variable {l : Launch} {R : Room} {p : Program} {e : Env} {below : List Frame} {s : State} {sargs : Array Value} {y : MethodName} {len W9 : Nat}
theorem vx_backW {ws : List Cond} {rm : Room} {Pc : Array Value → State → Prop} {Qc : Array Value → State → Outcome → State → Prop} {XC : String → State → State → Prop} {mc ms : Nat} {free : Addr → Prop} {bytes : ByteArray} {maxL : Nat} {ret : Option FieldType} {hh : List (Nat × Nat × Nat × Nat)}
    (hM : vx_Met l y ws rm Pc Qc XC mc ms free) (hblind : FrameBlind Pc) (hrc : rm.cells = mc) (hrs : rm.slots = ms)
    (hframes : rm.frames + 1 ≤ R.frames) (hlocals : W9 + (maxL + 11) + rm.locals ≤ R.locals)
    (hws : ∀ w ∈ ws, ∀ a' U, s.WarmedH U.vm → w.before a' U = true) (hcode : Cond.codeWith y bytes maxL ret hh ∈ ws) (hinit : ∀ a' U, s.WarmedH U.vm → (Cond.initialized y.cls).before a' U = true) :
    vx_Back l R p e below s sargs y len W9 (PreOf R mc ms Pc) (PostOf Qc mc ms free) (vx_Post XC mc ms free) := by
  intro m meth c A g ig mk a X hg hsize hdg hW hn hp
  have h1 : (headSpec ws rm).pre.before a A.U = true := atoms_intro fun w hw => hws w hw _ _ X.warmed
  have h2 : (Cond.codeWith y bytes maxL ret hh).before a A.U = true := hws _ hcode _ _ X.warmed
  have h3 : (Cond.initialized y.cls).before a A.U = true := hinit _ _ X.warmed
  have h4 : A.cells + (headSpec ws rm).room.cells ≤ R.cells := by rw [show (headSpec ws rm).room.cells = mc from hrc]; exact hp.1
  have h5 : A.slots + (headSpec ws rm).room.slots ≤ R.slots := by rw [show (headSpec ws rm).room.slots = ms from hrs]; exact hp.2.1
  have hPc : Pc a (A.U.calling g mk a) := hblind _ _ _ _ hp.2.2
  obtain ⟨U, Ls, c0, s0⟩ := A
  dsimp only [Pt.U, Pt.locs, Pt.cells, Pt.slots] at h1 h2 h3 h4 h5 X hn hPc ⊢
  obtain ⟨m9, methY, cY, hn9, hmY, hcY, -, hlY, -⟩ := Cond.codeWith_spec h2
  cases Option.some.inj (hn9.symm.trans hn)
  obtain ⟨kY, hkY, -⟩ := className_of_methodNamed hn
  have hinitY : kY.init = .initialized := Cond.initialized_spec (findClass_of_methodNamed hn) hkY h3
  have h : At U g.method c below := by rw [hg]; exact X.here
  have hlocals9 : W9 + (maxL + 11) + (headSpec ws rm).room.locals ≤ R.locals := hlocals
  have happ : (headSpec ws rm).appliesLoose y e.platform (U.calling g mk a) = true :=
    Spec.appliesLoose_calling (g := g) h hdg hn hkY hinitY
      (X.room_calling (g := g) (R' := (headSpec ws rm).room) hsize hmY hcY hframes (by rw [hlY]; omega) h4 h5) h1
  obtain ⟨mid, hmid⟩ := h.above
  have hfr : (U.setTop g).frames = (.java g :: mid) ++ below := by rw [State.frames_setTop' g h.top, hmid]; rfl
  obtain ⟨o, s₂, hsteps, -, hend, hq⟩ := Steps.callFree hM p X.admits X.cas X.clock (acts := []) hfr happ hPc trivial
  have hq' : vx_Q Qc XC mc ms free a (U.calling g mk a) o s₂ := hq
  rw [State.frames_setTop' g h.top] at hend
  obtain ⟨g₀, hg0⟩ := Option.isSome_iff_exists.mp h.top
  obtain ⟨r, hr⟩ := State.topJava?_eq_some.mp hg0
  have hr' : (({ U with heap := s₂.heap, slotsUsed := s₂.slotsUsed } : State).setVm s₂.vm).frames = .java g₀ :: r := hr
  rcases hq' with ⟨hqc, L, hfe, hL⟩ | ⟨q, rfl, E, ce, L, hx, hce, hcv, hcl, hW₂, hsm, hL⟩
  · obtain ⟨⟨v, rfl⟩, hW₂, e2, q2, q3, q4, q5, q6⟩ := id hfe
    have e3 : s₂ = ({ (U.calling g mk a).setFrames s₂.frames with heap := s₂.heap, slotsUsed := s₂.slotsUsed } : State).setVm s₂.vm := by
      have : s₂ = ({ s₂ with vm := (U.calling g mk a).vm } : State).setVm s₂.vm := rfl
      rw [e2] at this
      exact this
    obtain ⟨c₂, i₂, len₂, hc₂, hd₂, hf₂⟩ := hend
    have hW' : U.WarmedH s₂.vm := hW₂
    have hcc : c₂ = c := by
      have h1 : s₂.code? g.method = U.code? g.method := by
        rw [State.code?_eq, State.code?_eq, hW'.alike.method?]
      exact Option.some.inj (hc₂.symm.trans (h1.trans h.code))
    subst hcc
    have hlen : len₂ = len := by rw [hdg] at hd₂; cases hd₂; rfl
    subst hlen
    have hs₂ : s₂ = (({ U with heap := s₂.heap, slotsUsed := s₂.slotsUsed } : State).setVm s₂.vm).setTop { g with pc := g.pc + len₂, stack := v.toList ++ g.stack } := by
      refine e3.trans ?_
      rw [hf₂, State.calling_eq h.top, State.setFrames_setFrames, State.setTop_of_frames _ hr', hr]
      rfl
    have hsame : U.sameButNew ({ U with heap := s₂.heap, slotsUsed := s₂.slotsUsed } : State) L mc ms := by
      refine ⟨?_, q2, q3, q4, q5, q6⟩
      obtain ⟨t, ht, -⟩ := State.frames_cons hr
      show ({ U with heap := s₂.heap, slotsUsed := s₂.slotsUsed } : State) = { U.setFrames U.frames with heap := s₂.heap, slotsUsed := s₂.slotsUsed }
      rw [State.setFrames_self ht]
    subst hg
    refine Or.inl ⟨v, ⟨(({ U with heap := s₂.heap, slotsUsed := s₂.slotsUsed } : State).setVm s₂.vm), Ls ++ L, c0 + mc, s0 + ms⟩,
      ⟨X.admits, X.cas, X.clock, X.frames, X.room, X.hears, X.method, X.code, (X.here.setHeapUsed s₂.heap s₂.slotsUsed).setVm hW'.alike, X.tail, State.WarmedH.trans X.warmed hW', X.limits, X.bytes, X.same.trans (hsame.setVm s.vm)⟩,
      ⟨g, mk, s₂, L, rfl, rfl, hqc, rfl, hL, rfl, rfl⟩, ?_⟩
    show Steps p.tables e below _ ((({ U with heap := s₂.heap, slotsUsed := s₂.slotsUsed } : State).setVm s₂.vm).setTop { g with pc := g.pc + len₂, stack := v.toList ++ g.stack })
    rw [← hs₂]
    exact hsteps
  · obtain ⟨e2, q2, q3, q4, q5, q6⟩ := id hsm
    have e3 : s₂ = ({ (U.calling g mk a).setFrames s₂.frames with heap := s₂.heap, slotsUsed := s₂.slotsUsed } : State).setVm s₂.vm := by
      have : s₂ = ({ s₂ with vm := (U.calling g mk a).vm } : State).setVm s₂.vm := rfl
      rw [e2] at this
      exact this
    have hf₂ : s₂.frames = .throwing q :: .java g :: U.frames.tail := hend
    have hW' : U.WarmedH s₂.vm := hW₂
    have hs₂ : s₂ = ((({ U with heap := s₂.heap, slotsUsed := s₂.slotsUsed } : State).setVm s₂.vm).setTop g).pushFrame (.throwing q) := by
      refine e3.trans ?_
      rw [hf₂, State.calling_eq h.top, State.setFrames_setFrames, State.pushFrame, State.frames_setTop _ hr', State.setTop_of_frames _ hr', State.setFrames_setFrames, hr]
      rfl
    have hsame : U.sameButNew ({ U with heap := s₂.heap, slotsUsed := s₂.slotsUsed } : State) L mc ms := by
      refine ⟨?_, q2, q3, q4, q5, q6⟩
      obtain ⟨t, ht, -⟩ := State.frames_cons hr
      show ({ U with heap := s₂.heap, slotsUsed := s₂.slotsUsed } : State) = { U.setFrames U.frames with heap := s₂.heap, slotsUsed := s₂.slotsUsed }
      rw [State.setFrames_self ht]
    subst hg
    refine Or.inr ⟨q, ⟨(({ U with heap := s₂.heap, slotsUsed := s₂.slotsUsed } : State).setVm s₂.vm), Ls ++ L, c0 + mc, s0 + ms⟩,
      ⟨X.admits, X.cas, X.clock, X.frames, X.room, X.hears, X.method, X.code, (X.here.setHeapUsed s₂.heap s₂.slotsUsed).setVm hW'.alike, X.tail, State.WarmedH.trans X.warmed hW', X.limits, X.bytes, X.same.trans (hsame.setVm s.vm)⟩,
      ⟨g, mk, s₂, L, E, ce, rfl, rfl, hx, hce, hcv, hcl, rfl, hL, rfl, rfl⟩, ?_⟩
    show Steps p.tables e below _ (((({ U with heap := s₂.heap, slotsUsed := s₂.slotsUsed } : State).setVm s₂.vm).setTop g).pushFrame (.throwing q))
    rw [← hs₂]
    exact hsteps
end
variable {p : Program} {l : Launch} {e : Env} {R : Room} {s : State} {m : MethodId} {args : Array Value} {below : List Frame} {meth : Method} {c : Code} {T : State} {H : Heap} {locs : List Loc} {cells slots : Nat}
theorem vx_callVX (X : Stand p l e R s m args below meth c T locs cells slots) (hexec : p.tables.exec = Jvm.exec) {own C : String} {index : Nat} {y : MethodName} {bytes : ByteArray} {maxL : Nat} {ret : Option FieldType} {hh : List (Nat × Nat × Nat × Nat)}
    (hown : s.vm.findClass own = some m.cls) (hlink : (Cond.methodLink own index y).before args s = true) (hinst : (Cond.instanceMethod y).before args s = true) (hsel : (Cond.selects C y y).before args s = true)
    (hcode : (Cond.codeWith y bytes maxL ret hh).before args s = true) (hy : y.cls ≠ "java/lang/invoke/MethodHandle" ∧ y.cls ≠ "java/lang/invoke/VarHandle")
    {W9 : Nat} {Pre : Pt → Array Value → Prop} {Post : Pt → Array Value → Option Value → Pt → Prop} {PostX : Pt → Array Value → Addr → Pt → Prop} (hK : vx_Back l R p e below s args y 3 W9 Pre Post PostX)
    {b : Addr} {cellB : Cell} (hcell : T.heap[b]? = some cellB) (hobj : cellB.vm.isStatics = false) (hcls : s.vm.findClass C = some cellB.cls)
    {g : JFrame} (hg : g.method = m) (hsize : g.locals.size = c.maxLocals) {argsL rest : List Value} (hlen : ∀ sig, parseMethodDescriptor y.desc = some sig → argsL.length = sig.parameters.length)
    (hstack : g.stack = argsL.reverse ++ .ref b :: rest) (hW : 2 * g.monitorRoom + (rest.map fun v => v.category).sum ≤ W9) (hdg : decode c.code g.pc = .ok (.invokevirtual index, 3))
    (hpre : ∀ vm₁, s.WarmedH vm₁ → Pre ⟨T.setVm vm₁, locs, cells, slots⟩ (Value.ref b :: argsL).toArray) :
    (∃ (v : Option Value) (vm₁ : Vm) (B : Pt), s.WarmedH vm₁ ∧ Stand p l e R s m args below meth c B.U B.locs B.cells B.slots ∧ Post ⟨T.setVm vm₁, locs, cells, slots⟩ (Value.ref b :: argsL).toArray v B ∧
      ∀ target, Steps p.tables e below (B.U.setTop { g with pc := g.pc + 3, stack := v.toList ++ rest }) target → Steps p.tables e below (T.setTop g) target) ∨
    (∃ (q : Addr) (vm₁ : Vm) (B : Pt), s.WarmedH vm₁ ∧ Stand p l e R s m args below meth c B.U B.locs B.cells B.slots ∧ PostX ⟨T.setVm vm₁, locs, cells, slots⟩ (Value.ref b :: argsL).toArray q B ∧
      Steps p.tables e below (T.setTop g) ((B.U.setTop { g with stack := rest }).pushFrame (.throwing q))) := by
  obtain ⟨mk, methM, hnamed, hmethM, hstM, habM⟩ := Cond.instanceMethod_spec hinst
  obtain ⟨m8, methM', cM, hn8, hmethM', -, -, -, -, -, -, hsigM⟩ := Cond.codeWith_spec hcode
  cases Option.some.inj (hn8.symm.trans hnamed)
  cases hmethM.symm.trans hmethM'
  obtain ⟨c2, r2, m2, q1, q2, q3, q4, kP, hkP, hkPi⟩ := Cond.selects_spec hsel
  cases hcls.symm.trans q1
  cases (State.methodFound?_of_named hnamed hy).symm.trans q2
  cases hnamed.symm.trans q3
  have hselP : selectMethod e.platform s.vm cellB.cls mk = .method mk := by rw [Launch.admits_selectMethod X.admits]; exact q4
  obtain ⟨vm₁, X₁, hstep₁⟩ := X.invokevirtual hexec hown hlink hnamed hmethM hstM hkP hkPi hy (a := b) (cell := cellB) hcell
    (fun z h => by rw [h] at hobj; cases hobj) hselP hmethM habM hkP hkPi (g := g) hg (argsL := argsL) (rest := rest) (hlen _ hsigM) hstack hdg
  rcases hK m meth c ⟨T.setVm vm₁, locs, cells, slots⟩ { g with stack := rest } (.invokevirtual index) mk (Value.ref b :: argsL).toArray X₁ hg hsize hdg hW (X₁.named hnamed) (hpre vm₁ X₁.warmed) with ⟨v, B, X', hpost, hsteps⟩ | ⟨q, B, X', hpost, hsteps⟩
  · exact Or.inl ⟨v, vm₁, B, X₁.warmed, X', hpost, fun target h => hstep₁ _ fun acts => by rw [doInvoke_state]; exact hsteps.trans h⟩
  · exact Or.inr ⟨q, vm₁, B, X₁.warmed, X', hpost, hstep₁ _ fun acts => by rw [doInvoke_state]; exact hsteps⟩
theorem vx_callSX (X : Stand p l e R s m args below meth c T locs cells slots) (hexec : p.tables.exec = Jvm.exec) {own : String} {index : Nat} {y : MethodName} {bytes : ByteArray} {maxL : Nat} {ret : Option FieldType} {hh : List (Nat × Nat × Nat × Nat)}
    (hown : s.vm.findClass own = some m.cls) (hlink : (Cond.methodLink own index y).before args s = true) (hstat : (Cond.static y).before args s = true) (hinit : (Cond.initialized y.cls).before args s = true)
    (hcode : (Cond.codeWith y bytes maxL ret hh).before args s = true) (hy : y.cls ≠ "java/lang/invoke/MethodHandle" ∧ y.cls ≠ "java/lang/invoke/VarHandle")
    {W9 : Nat} {Pre : Pt → Array Value → Prop} {Post : Pt → Array Value → Option Value → Pt → Prop} {PostX : Pt → Array Value → Addr → Pt → Prop} (hK : vx_Back l R p e below s args y 3 W9 Pre Post PostX)
    {g : JFrame} (hg : g.method = m) (hsize : g.locals.size = c.maxLocals) {argsL rest : List Value} (hlen : ∀ sig, parseMethodDescriptor y.desc = some sig → argsL.length = sig.parameters.length)
    (hstack : g.stack = argsL.reverse ++ rest) (hW : 2 * g.monitorRoom + (rest.map fun v => v.category).sum ≤ W9) (hdg : decode c.code g.pc = .ok (.invokestatic index, 3))
    (hpre : ∀ vm₁, s.WarmedH vm₁ → Pre ⟨T.setVm vm₁, locs, cells, slots⟩ argsL.toArray) :
    (∃ (v : Option Value) (vm₁ : Vm) (B : Pt), s.WarmedH vm₁ ∧ Stand p l e R s m args below meth c B.U B.locs B.cells B.slots ∧ Post ⟨T.setVm vm₁, locs, cells, slots⟩ argsL.toArray v B ∧
      ∀ target, Steps p.tables e below (B.U.setTop { g with pc := g.pc + 3, stack := v.toList ++ rest }) target → Steps p.tables e below (T.setTop g) target) ∨
    (∃ (q : Addr) (vm₁ : Vm) (B : Pt), s.WarmedH vm₁ ∧ Stand p l e R s m args below meth c B.U B.locs B.cells B.slots ∧ PostX ⟨T.setVm vm₁, locs, cells, slots⟩ argsL.toArray q B ∧
      Steps p.tables e below (T.setTop g) ((B.U.setTop { g with stack := rest }).pushFrame (.throwing q))) := by
  obtain ⟨mk, methM, cM, hnamed, hmethM, -, -, -, -, -, -, hsigM⟩ := Cond.codeWith_spec hcode
  have hstatic : methM.isStatic = true := Cond.static_spec hnamed hmethM hstat
  obtain ⟨kP, hkP, -⟩ := className_of_methodNamed hnamed
  have hinitP : kP.init = .initialized := Cond.initialized_spec (findClass_of_methodNamed hnamed) hkP hinit
  obtain ⟨vm₁, X₁, hstep₁⟩ := X.invokestatic hexec hown hlink hnamed hmethM hstatic hkP hinitP hy (g := g) hg (argsL := argsL) (rest := rest) (hlen _ hsigM) hstack hdg
  rcases hK m meth c ⟨T.setVm vm₁, locs, cells, slots⟩ { g with stack := rest } (.invokestatic index) mk argsL.toArray X₁ hg hsize hdg hW (X₁.named hnamed) (hpre vm₁ X₁.warmed) with ⟨v, B, X', hpost, hsteps⟩ | ⟨q, B, X', hpost, hsteps⟩
  · exact Or.inl ⟨v, vm₁, B, X₁.warmed, X', hpost, fun target h => hstep₁ _ fun acts => by rw [doInvoke_state]; exact hsteps.trans h⟩
  · exact Or.inr ⟨q, vm₁, B, X₁.warmed, X', hpost, hstep₁ _ fun acts => by rw [doInvoke_state]; exact hsteps⟩
theorem vx_callVW (X : Stand p l e R s m args below meth c T locs cells slots) (hexec : p.tables.exec = Jvm.exec) {own C : String} {index : Nat} {y : MethodName} {bytes : ByteArray} {maxL : Nat} {ret : Option FieldType} {hh : List (Nat × Nat × Nat × Nat)}
    (hown : s.vm.findClass own = some m.cls) (hlink : (Cond.methodLink own index y).before args s = true) (hinst : (Cond.instanceMethod y).before args s = true) (hsel : (Cond.selects C y y).before args s = true)
    (hcode : (Cond.codeWith y bytes maxL ret hh).before args s = true) (hy : y.cls ≠ "java/lang/invoke/MethodHandle" ∧ y.cls ≠ "java/lang/invoke/VarHandle")
    {W9 : Nat} {Pre : Pt → Array Value → Prop} {Post : Pt → Array Value → Option Value → Pt → Prop} (hK : Back l R p e below s args y 3 W9 Pre Post)
    {b : Addr} {cellB : Cell} (hcell : T.heap[b]? = some cellB) (hobj : cellB.vm.isStatics = false) (hcls : s.vm.findClass C = some cellB.cls)
    {g : JFrame} (hg : g.method = m) (hsize : g.locals.size = c.maxLocals) {argsL rest : List Value} (hlen : ∀ sig, parseMethodDescriptor y.desc = some sig → argsL.length = sig.parameters.length)
    (hstack : g.stack = argsL.reverse ++ .ref b :: rest) (hW : 2 * g.monitorRoom + (rest.map fun v => v.category).sum ≤ W9) (hdg : decode c.code g.pc = .ok (.invokevirtual index, 3))
    (hpre : ∀ vm₁, s.WarmedH vm₁ → Pre ⟨T.setVm vm₁, locs, cells, slots⟩ (Value.ref b :: argsL).toArray) :
    ∃ (v : Option Value) (vm₁ : Vm) (B : Pt), s.WarmedH vm₁ ∧ Stand p l e R s m args below meth c B.U B.locs B.cells B.slots ∧ Post ⟨T.setVm vm₁, locs, cells, slots⟩ (Value.ref b :: argsL).toArray v B ∧
      ∀ target, Steps p.tables e below (B.U.setTop { g with pc := g.pc + 3, stack := v.toList ++ rest }) target → Steps p.tables e below (T.setTop g) target := by
  obtain ⟨mk, methM, hnamed, hmethM, hstM, habM⟩ := Cond.instanceMethod_spec hinst
  obtain ⟨m8, methM', cM, hn8, hmethM', -, -, -, -, -, -, hsigM⟩ := Cond.codeWith_spec hcode
  cases Option.some.inj (hn8.symm.trans hnamed)
  cases hmethM.symm.trans hmethM'
  obtain ⟨c2, r2, m2, q1, q2, q3, q4, kP, hkP, hkPi⟩ := Cond.selects_spec hsel
  cases hcls.symm.trans q1
  cases (State.methodFound?_of_named hnamed hy).symm.trans q2
  cases hnamed.symm.trans q3
  have hselP : selectMethod e.platform s.vm cellB.cls mk = .method mk := by rw [Launch.admits_selectMethod X.admits]; exact q4
  obtain ⟨vm₁, X₁, hstep₁⟩ := X.invokevirtual hexec hown hlink hnamed hmethM hstM hkP hkPi hy (a := b) (cell := cellB) hcell
    (fun z h => by rw [h] at hobj; cases hobj) hselP hmethM habM hkP hkPi (g := g) hg (argsL := argsL) (rest := rest) (hlen _ hsigM) hstack hdg
  obtain ⟨v, B, X', hpost, hsteps⟩ := hK m meth c ⟨T.setVm vm₁, locs, cells, slots⟩ { g with stack := rest } (.invokevirtual index) mk (Value.ref b :: argsL).toArray X₁ hg hsize hdg hW (X₁.named hnamed) (hpre vm₁ X₁.warmed)
  exact ⟨v, vm₁, B, X₁.warmed, X', hpost, fun target h => hstep₁ _ fun acts => by rw [doInvoke_state]; exact hsteps.trans h⟩
abbrev vx_CVW (R : Room) (s : State) (args : Array Value) (own C : String) (index : Nat) (y : MethodName) (bytes : ByteArray) (maxL : Nat) (ret : Option FieldType) (hh : List (Nat × Nat × Nat × Nat)) (ws : List Cond) (rm : Room) (mc ms n : Nat) : Prop :=
  (rm.cells = mc ∧ rm.slots = ms ∧ rm.frames + 1 ≤ R.frames ∧ 8 + (maxL + 11) + rm.locals ≤ R.locals ∧ (∀ w ∈ ws, ∀ (a' : Array Value) (U : State), s.WarmedH U.vm → w.before a' U = true) ∧ Cond.codeWith y bytes maxL ret hh ∈ ws) ∧
  (Cond.codeWith y bytes maxL ret hh).before args s = true ∧ (Cond.initialized y.cls).before args s = true ∧ (y.cls ≠ "java/lang/invoke/MethodHandle" ∧ y.cls ≠ "java/lang/invoke/VarHandle") ∧
  (∀ sig, parseMethodDescriptor y.desc = some sig → n = sig.parameters.length) ∧ (Cond.methodLink own index y).before args s = true ∧ (Cond.instanceMethod y).before args s = true ∧ (Cond.selects C y y).before args s = true
theorem vx_cwVW {own C : String} {index maxL mc ms : Nat} {y : MethodName} {bytes : ByteArray} {ret : Option FieldType} {hh : List (Nat × Nat × Nat × Nat)} {Ts ws ws' : List Cond} {rm : Room} (n : Nat) (ht : ∀ w ∈ Ts, w.before args s = true) (hT : GoodIn Ts (wsV own index C y ws)) (hw : ws = Cond.codeWith y bytes maxL ret hh :: ws') (hrc : rm.cells = mc) (hrs : rm.slots = ms)
    (hd : y.cls = C ∧ y.cls ≠ "java/lang/invoke/MethodHandle" ∧ y.cls ≠ "java/lang/invoke/VarHandle" ∧ (parseMethodDescriptor y.desc).map (fun d => d.parameters.length) = some n) (hR : rm.frames + 1 ≤ R.frames ∧ 8 + (maxL + 11) + rm.locals ≤ R.locals) :
    vx_CVW R s args own C index y bytes maxL ret hh ws rm mc ms n := by
  obtain ⟨hC, hd⟩ := hd
  subst hC
  have ok : ∀ w ∈ wsV own index y.cls y ws, w.before args s = true := fun w h => ht w (hT w h).1
  have hG : GoodIn Ts ws := fun w h => hT w (by unfold wsV; exact List.mem_append_right _ h)
  have hc : Cond.codeWith y bytes maxL ret hh ∈ ws := by rw [hw]; exact List.mem_cons_self
  refine ⟨⟨hrc, hrs, hR.1, hR.2, pay_in ht hG, hc⟩, ht _ (hG _ hc).1, ok _ (by simp [wsV]), ⟨hd.1, hd.2.1⟩, fun sig h => ?_, ok _ (by simp [wsV]), ok _ (by simp [wsV]), ok _ (by simp [wsV])⟩
  have h2 := hd.2.2
  rw [h] at h2
  exact (Option.some.inj h2).symm
theorem vx_runVW {y : MethodName} {bytes cc : ByteArray} {maxL nL mc ms n index : Nat} {ret : Option FieldType} {hh : List (Nat × Nat × Nat × Nat)} {ws : List Cond} {rm : Room} {Pc : Array Value → State → Prop} {Qc : Array Value → State → Outcome → State → Prop} {free : Addr → Prop} {Ts : List Cond} {own C : String} {b : Addr} {As rest : List Value} {g : JFrame}
    (S : CallFix p m c cc nL s args Ts own) (hM : Met l y ws rm Pc Qc mc ms free) (cw : vx_CVW R s args own C index y bytes maxL ret hh ws rm mc ms n) (hp : PreV s H C b Pc As)
    (hg : g.method = m) (hn : As.length = n) (hsize : g.locals.size = nL) (hstack : g.stack = As.reverse ++ .ref b :: rest) (hW : 2 * g.monitorRoom + (rest.map fun v => v.category).sum ≤ 8) (hdg : decode cc g.pc = .ok (.invokevirtual index, 3)) (hf : cells + mc ≤ R.cells ∧ slots + ms ≤ R.slots) :
    va_Run p l e R s m args below meth c H locs cells slots mc ms g rest (Qc (Value.ref b :: As).toArray) free := by
  obtain ⟨⟨hrc, hrs, hfr, hlo, hws, hcw⟩, hcode, hini, hy, hlen, hl, hin, hse⟩ := cw
  have hK : Back l R p e below s args y 3 8 (PreOf R mc ms Pc) (PostOf Qc mc ms free) := va_backW (hh := hh) (bytes := bytes) (maxL := maxL) (ret := ret) hM hp.1 hrc hrs hfr hlo hws hcw (fun a' U hW => word_at hW (Or.inl (by first | rfl | simp [Cond.onTables, Cond.keeps, Cond.steady])) hini)
  obtain ⟨hx, hb, hml, ho, -⟩ := S
  obtain ⟨-, ⟨cellB, hcB, hoB, hclB⟩, hPc⟩ := hp
  intro T hT X
  obtain ⟨v, vm₁, ⟨U', l2, c2, s2⟩, hW₁, X', ⟨g', mk, t, L, e1, e2, hq, h1, hL, h2, h3⟩, st⟩ := vx_callVW X hx (C := C) (hh := hh) (bytes := bytes) (maxL := maxL) (ret := ret) ho hl hin hse hcode hy hK (by rw [hT]; exact hcB) hoB hclB hg (hsize.trans hml.symm) (argsL := As) (rest := rest) (fun sig h => hn.trans (hlen sig h)) hstack hW (by rw [hb]; exact hdg)
    (fun vm₁ hW₁ => ⟨hf.1, hf.2, hPc (T.setVm vm₁) hT hW₁⟩)
  dsimp only [Pt.U, Pt.locs, Pt.cells, Pt.slots] at X' e1 e2 h1 h2 h3 st
  subst h1; subst h2; subst h3
  exact ⟨v, (T.setVm vm₁).calling g' mk (Value.ref b :: As).toArray, t, U', L, hT, X', hL, e1, e2, hq, st⟩
section
variable {y : MethodName} {bytes cc : ByteArray} {maxL nL mc ms n index : Nat} {ret : Option FieldType} {ws : List Cond} {rm : Room} {Pc : Array Value → State → Prop} {Qc : Array Value → State → Outcome → State → Prop} {XC : String → State → State → Prop} {free : Addr → Prop} {Ts : List Cond} {own C : String} {b : Addr} {As rest : List Value} {g : JFrame}
theorem vx_runVX {hh : List (Nat × Nat × Nat × Nat)} (S : CallFix p m c cc nL s args Ts own) (hM : vx_Met l y ws rm Pc Qc XC mc ms free) (cw : vx_CVW R s args own C index y bytes maxL ret hh ws rm mc ms n) (hp : PreV s H C b Pc As)
    (hg : g.method = m) (hn : As.length = n) (hsize : g.locals.size = nL) (hstack : g.stack = As.reverse ++ .ref b :: rest) (hW : 2 * g.monitorRoom + (rest.map fun v => v.category).sum ≤ 8) (hdg : decode cc g.pc = .ok (.invokevirtual index, 3)) (hf : cells + mc ≤ R.cells ∧ slots + ms ≤ R.slots) :
    vx_Run p l e R s m args below meth c H locs cells slots mc ms g rest (Qc (Value.ref b :: As).toArray) XC free := by
  obtain ⟨⟨hrc, hrs, hfr, hlo, hws, hcw⟩, hcode, hini, hy, hlen, hl, hin, hse⟩ := cw
  have hK : vx_Back l R p e below s args y 3 8 (PreOf R mc ms Pc) (PostOf Qc mc ms free) (vx_Post XC mc ms free) := vx_backW (hh := hh) (bytes := bytes) (maxL := maxL) (ret := ret) hM hp.1 hrc hrs hfr hlo hws hcw (fun a' U hW => word_at hW (Or.inl (by first | rfl | simp [Cond.onTables, Cond.keeps, Cond.steady])) hini)
  obtain ⟨hx, hb, hml, ho, -⟩ := S
  obtain ⟨-, ⟨cellB, hcB, hoB, hclB⟩, hPc⟩ := hp
  intro T hT X
  rcases vx_callVX X hx (C := C) (hh := hh) (bytes := bytes) (maxL := maxL) (ret := ret) ho hl hin hse hcode hy hK (by rw [hT]; exact hcB) hoB hclB hg (hsize.trans hml.symm) (argsL := As) (rest := rest) (fun sig h => hn.trans (hlen sig h)) hstack hW (by rw [hb]; exact hdg)
    (fun vm₁ hW₁ => ⟨hf.1, hf.2, hPc (T.setVm vm₁) hT hW₁⟩) with ⟨v, vm₁, ⟨U', l2, c2, s2⟩, hW₁, X', ⟨g', mk, t, L, e1, e2, hq, h1, hL, h2, h3⟩, st⟩ | ⟨q, vm₁, ⟨U', l2, c2, s2⟩, hW₁, X', ⟨g', mk, t, L, E, ce, e1, e2, hq, hce, hcv, hcl, h1, hL, h2, h3⟩, st⟩
  · dsimp only [Pt.U, Pt.locs, Pt.cells, Pt.slots] at X' e1 e2 h1 h2 h3 st
    subst h1; subst h2; subst h3
    exact Or.inl ⟨v, (T.setVm vm₁).calling g' mk (Value.ref b :: As).toArray, t, U', L, hT, X', hL, e1, e2, hq, st⟩
  · dsimp only [Pt.U, Pt.locs, Pt.cells, Pt.slots] at X' e1 e2 h1 h2 h3 st hcl
    subst h1; subst h2; subst h3
    exact Or.inr ⟨q, (T.setVm vm₁).calling g' mk (Value.ref b :: As).toArray, t, U', L, E, ce, hT, X', hL, e1, e2, hq, hce, hcv, vx_cls hW₁ hcl, st⟩
theorem vx_runSX {hh : List (Nat × Nat × Nat × Nat)} (S : CallFix p m c cc nL s args Ts own) (hM : vx_Met l y ws rm Pc Qc XC mc ms free) (cw : vx_CSW R s args own index y bytes maxL ret hh ws rm mc ms n) (hp : PreS s H Pc As)
    (hg : g.method = m) (hn : As.length = n) (hsize : g.locals.size = nL) (hstack : g.stack = As.reverse ++ rest) (hW : 2 * g.monitorRoom + (rest.map fun v => v.category).sum ≤ 8) (hdg : decode cc g.pc = .ok (.invokestatic index, 3)) (hf : cells + mc ≤ R.cells ∧ slots + ms ≤ R.slots) :
    vx_Run p l e R s m args below meth c H locs cells slots mc ms g rest (Qc As.toArray) XC free := by
  obtain ⟨⟨hrc, hrs, hfr, hlo, hws, hcw⟩, hcode, hini, hy, hlen, hl, hstt⟩ := cw
  have hK : vx_Back l R p e below s args y 3 8 (PreOf R mc ms Pc) (PostOf Qc mc ms free) (vx_Post XC mc ms free) := vx_backW (hh := hh) (bytes := bytes) (maxL := maxL) (ret := ret) hM hp.1 hrc hrs hfr hlo hws hcw (fun a' U hW => word_at hW (Or.inl (by first | rfl | simp [Cond.onTables, Cond.keeps, Cond.steady])) hini)
  obtain ⟨hx, hb, hml, ho, -⟩ := S
  intro T hT X
  rcases vx_callSX X hx (hh := hh) (bytes := bytes) (maxL := maxL) (ret := ret) ho hl hstt hini hcode hy hK hg (hsize.trans hml.symm) (argsL := As) (rest := rest) (fun sig h => hn.trans (hlen sig h)) hstack hW (by rw [hb]; exact hdg)
    (fun vm₁ hW₁ => ⟨hf.1, hf.2, hp.2 (T.setVm vm₁) hT hW₁⟩) with ⟨v, vm₁, ⟨U', l2, c2, s2⟩, hW₁, X', ⟨g', mk, t, L, e1, e2, hq, h1, hL, h2, h3⟩, st⟩ | ⟨q, vm₁, ⟨U', l2, c2, s2⟩, hW₁, X', ⟨g', mk, t, L, E, ce, e1, e2, hq, hce, hcv, hcl, h1, hL, h2, h3⟩, st⟩
  · dsimp only [Pt.U, Pt.locs, Pt.cells, Pt.slots] at X' e1 e2 h1 h2 h3 st
    subst h1; subst h2; subst h3
    exact Or.inl ⟨v, (T.setVm vm₁).calling g' mk As.toArray, t, U', L, hT, X', hL, e1, e2, hq, st⟩
  · dsimp only [Pt.U, Pt.locs, Pt.cells, Pt.slots] at X' e1 e2 h1 h2 h3 st hcl
    subst h1; subst h2; subst h3
    exact Or.inr ⟨q, (T.setVm vm₁).calling g' mk As.toArray, t, U', L, E, ce, hT, X', hL, e1, e2, hq, hce, hcv, vx_cls hW₁ hcl, st⟩
end
end VXH
theorem vx_ofWH {l : Launch} {y : MethodName} {ws ws' : List Cond} {rm : Room} {Pc : Array Value → State → Prop} {Qc : Array Value → State → Outcome → State → Prop} {XC : String → State → State → Prop} {mc ms : Nat} {free : Addr → Prop} {cc : ByteArray} {maxL : Nat} {ret : Option FieldType} {hh : List (Nat × Nat × Nat × Nat)}
    (hy : plainName y.cls = true) (hw : ws = Cond.codeWith y cc maxL ret hh :: ws')
    (body : ∀ p e s m args below meth c s₁, BodyLoose p l y (headSpec ws rm) cc maxL ret e s m args below meth c s₁ → c.maxLocals = maxL → Pc args s →
      W p l e (headSpec ws rm).room s m args below meth c s.heap [] 0 0 (vx_MQ below Qc XC args s mc ms free) (entryFrame m args maxL)) : vx_Met l y ws rm Pc Qc XC mc ms free := by
  refine MetFree.of_bodyS (code := cc) (maxLocals := maxL) (ret := ret) hy ?_ ?_
  · intro args s m h hn
    obtain ⟨m9, meth, c, hn9, h1, h2, h3, h4, -, h5, h6, -⟩ := Cond.codeWith_spec (atoms_spec (ws := ws) h _ (by rw [hw]; exact List.mem_cons_self))
    cases hn.symm.trans hn9
    exact ⟨meth, c, h1, h2, h3, h4, h5, h6⟩
  · intro p e s m args below meth c s₁ B hml hP _
    have hh0 : s₁.heap = s.heap := by rw [B.state]; rfl
    obtain ⟨t, a1, o, b1, b2, b3⟩ := body p e s m args below meth c s₁ B hml hP s₁ hh0 (Stand.of_body B)
    exact ⟨t, o, a1, b1, b2, b3⟩
/-! ===== END ===== -/
end
section
/-- the words that stay good wherever the tables grow warmer -/
def ch_good : List Cond := lw_tbl.filter goodWord
/-- words that the tables alone decide, and that stay, of other kinds -/
def ch_isO : Cond → Bool
  | .fieldLinkNest .. => true
  | .methodLinkNest .. => true
  | .castable .. => true
  | .declares .. => true
  | _ => false
def ch_oth : List Cond := tables_1.filter ch_isO
theorem ch_wg {w : Cond} (i : Nat) (h : tables_1[i]? = some w) (g : goodWord w = true) : w ∈ ch_good := List.mem_filter.mpr ⟨List.mem_append_right _ (List.mem_of_getElem? h), g⟩
theorem ch_wp {q : MethodName × Nat} (i : Nat) (h : lw_privs[i]? = some q) (g : goodWord (Cond.selects q.1.cls q.1 q.1) = true) : Cond.selects q.1.cls q.1 q.1 ∈ ch_good := List.mem_filter.mpr ⟨List.mem_append_left _ (List.mem_map.mpr ⟨q, List.mem_of_getElem? h, rfl⟩), g⟩
theorem ch_ow {w : Cond} (i : Nat) (h : tables_1[i]? = some w) (g : ch_isO w = true) : w ∈ ch_oth := List.mem_filter.mpr ⟨List.mem_of_getElem? h, g⟩
theorem ch_ri {ws : List Cond} (ps : List Nat) (hp : ws = ps.filterMap (fun i => tables_1[i]?)) (g : ws.all goodWord = true) : ∀ w ∈ ws, w ∈ ch_good := by
  intro w hw
  have h1 := List.all_eq_true.mp g w hw
  rw [hp] at hw
  obtain ⟨i, -, hi⟩ := List.mem_filterMap.mp hw
  exact ch_wg i hi h1
def ch_R0 : String := "ChalkWarrants"
def ch_F0 : u_T := fun k => match k with
  | 0 => ("ChalkWarrants", "yard", "LChalkWarrants$Yard;", true)
  | 1 => ("ChalkWarrants", "before", "LChalkWarrants$Yard;", true)
  | 2 => ("ChalkWarrants", "trial", "LChalkWarrants$Yard;", true)
  | 3 => ("ChalkWarrants", "snapshot", "LChalkWarrants$Yard;", true)
  | 4 => ("ChalkWarrants", "past", "LChalkWarrants$Past;", true)
  | 5 => ("ChalkWarrants", "reasons", "LChalkWarrants$Reasons;", true)
  | 6 => ("ChalkWarrants", "command", "LChalkWarrants$Command;", true)
  | 7 => ("ChalkWarrants", "text", "LChalkWarrants$Signs;", true)
  | 8 => ("ChalkWarrants", "reader", "LChalkWarrants$Reader;", true)
  | 9 => ("ChalkWarrants", "written", "LChalkWarrants$Signs;", true)
  | 10 => ("ChalkWarrants", "ways", "LChalkWarrants$Ways;", true)
  | 11 => ("ChalkWarrants", "told", "LChalkWarrants$Steps;", true)
  | 12 => ("ChalkWarrants", "isSaved", "Z", false)
  | _ => ("ChalkWarrants", "fault", "I", false)
def ch_T0 : Nat → FieldType := fun k => match k with
  | 0 => .object "ChalkWarrants$Yard"
  | 1 => .object "ChalkWarrants$Yard"
  | 2 => .object "ChalkWarrants$Yard"
  | 3 => .object "ChalkWarrants$Yard"
  | 4 => .object "ChalkWarrants$Past"
  | 5 => .object "ChalkWarrants$Reasons"
  | 6 => .object "ChalkWarrants$Command"
  | 7 => .object "ChalkWarrants$Signs"
  | 8 => .object "ChalkWarrants$Reader"
  | 9 => .object "ChalkWarrants$Signs"
  | 10 => .object "ChalkWarrants$Ways"
  | 11 => .object "ChalkWarrants$Steps"
  | 12 => .boolean
  | _ => .int
def ch_R1 : String := "ChalkWarrants$Yard"
def ch_F1 : u_T := fun k => match k with
  | 0 => ("ChalkWarrants$Yard", "owners", "[I", true)
  | 1 => ("ChalkWarrants$Yard", "chalks", "[I", true)
  | 2 => ("ChalkWarrants$Yard", "pebbles", "[I", true)
  | 3 => ("ChalkWarrants$Yard", "treads", "[I", true)
  | 4 => ("ChalkWarrants$Yard", "warrantChalks", "[I", true)
  | 5 => ("ChalkWarrants$Yard", "hops", "[I", true)
  | 6 => ("ChalkWarrants$Yard", "trodden", "[I", true)
  | 7 => ("ChalkWarrants$Yard", "order", "[I", true)
  | 8 => ("ChalkWarrants$Yard", "children", "I", false)
  | 9 => ("ChalkWarrants$Yard", "standing", "I", false)
  | 10 => ("ChalkWarrants$Yard", "chest", "I", false)
  | 11 => ("ChalkWarrants$Yard", "brought", "I", false)
  | 12 => ("ChalkWarrants$Yard", "allTreads", "I", false)
  | 13 => ("ChalkWarrants$Yard", "written", "I", false)
  | 14 => ("ChalkWarrants$Yard", "washed", "I", false)
  | 15 => ("ChalkWarrants$Yard", "repossessed", "I", false)
  | _ => ("ChalkWarrants$Yard", "terms", "I", false)
def ch_T1 : Nat → FieldType := fun k => match k with
  | 0 => .array .int
  | 1 => .array .int
  | 2 => .array .int
  | 3 => .array .int
  | 4 => .array .int
  | 5 => .array .int
  | 6 => .array .int
  | 7 => .array .int
  | 8 => .int
  | 9 => .int
  | 10 => .int
  | 11 => .int
  | 12 => .int
  | 13 => .int
  | 14 => .int
  | 15 => .int
  | _ => .int
def ch_R2 : String := "ChalkWarrants$Past"
def ch_F2 : u_T := fun k => match k with
  | 0 => ("ChalkWarrants$Past", "ring", "[LChalkWarrants$Yard;", true)
  | 1 => ("ChalkWarrants$Past", "newest", "I", false)
  | _ => ("ChalkWarrants$Past", "count", "I", false)
def ch_T2 : Nat → FieldType := fun k => match k with
  | 0 => .array (.object "ChalkWarrants$Yard")
  | 1 => .int
  | _ => .int
def ch_R3 : String := "ChalkWarrants$Reasons"
def ch_F3 : u_T := fun k => match k with
  | 0 => ("ChalkWarrants$Reasons", "number", "I", false)
  | 1 => ("ChalkWarrants$Reasons", "detail", "I", false)
  | _ => ("ChalkWarrants$Reasons", "command", "I", false)
def ch_T3 : Nat → FieldType := fun k => match k with
  | 0 => .int
  | 1 => .int
  | _ => .int
def ch_R4 : String := "ChalkWarrants$Command"
def ch_F4 : u_T := fun k => match k with
  | 0 => ("ChalkWarrants$Command", "steps", "LChalkWarrants$Steps;", true)
  | 1 => ("ChalkWarrants$Command", "kind", "I", false)
  | 2 => ("ChalkWarrants$Command", "child", "I", false)
  | 3 => ("ChalkWarrants$Command", "other", "I", false)
  | _ => ("ChalkWarrants$Command", "number", "I", false)
def ch_T4 : Nat → FieldType := fun k => match k with
  | 0 => .object "ChalkWarrants$Steps"
  | 1 => .int
  | 2 => .int
  | 3 => .int
  | _ => .int
def ch_R5 : String := "ChalkWarrants$Steps"
def ch_F5 : u_T := fun k => match k with
  | 0 => ("ChalkWarrants$Steps", "row", "[I", true)
  | _ => ("ChalkWarrants$Steps", "count", "I", false)
def ch_T5 : Nat → FieldType := fun k => match k with
  | 0 => .array .int
  | _ => .int
def ch_R6 : String := "ChalkWarrants$Signs"
def ch_F6 : u_T := fun k => match k with
  | 0 => ("ChalkWarrants$Signs", "row", "[C", true)
  | _ => ("ChalkWarrants$Signs", "length", "I", false)
def ch_T6 : Nat → FieldType := fun k => match k with
  | 0 => .array .char
  | _ => .int
def ch_R7 : String := "ChalkWarrants$Reader"
def ch_F7 : u_T := fun k => match k with
  | _ => ("ChalkWarrants$Reader", "place", "I", false)
def ch_T7 : Nat → FieldType := fun k => match k with
  | _ => .int
def ch_R8 : String := "ChalkWarrants$Ways"
def ch_F8 : u_T := fun k => match k with
  | 0 => ("ChalkWarrants$Ways", "treads", "[I", true)
  | 1 => ("ChalkWarrants$Ways", "counts", "[I", true)
  | _ => ("ChalkWarrants$Ways", "steps", "[I", true)
def ch_T8 : Nat → FieldType := fun k => match k with
  | 0 => .array .int
  | 1 => .array .int
  | _ => .array .int
def ch_R9 : String := "java/lang/StringBuilder"
def ch_F9 : u_T := fun k => match k with
  | 0 => ("java/lang/AbstractStringBuilder", "value", "[B", false)
  | 1 => ("java/lang/AbstractStringBuilder", "coder", "B", false)
  | 2 => ("java/lang/AbstractStringBuilder", "maybeLatin1", "Z", false)
  | _ => ("java/lang/AbstractStringBuilder", "count", "I", false)
def ch_T9 : Nat → FieldType := fun k => match k with
  | 0 => .array .byte
  | 1 => .byte
  | 2 => .boolean
  | _ => .int
abbrev ch_cls : List vw_C := [(ch_R0, ch_F0, 14), (ch_R1, ch_F1, 17), (ch_R2, ch_F2, 3), (ch_R3, ch_F3, 3), (ch_R4, ch_F4, 5), (ch_R5, ch_F5, 2), (ch_R6, ch_F6, 2), (ch_R7, ch_F7, 1), (ch_R8, ch_F8, 3), (ch_R9, ch_F9, 4)]
def ch_Cl (ci : Nat) (C : String) (T : u_T) (N : Nat) : Prop := ch_cls[ci]? = some (C, T, N) ∧ (∀ w ∈ u_ws C T N, w ∈ ch_good) ∧ (∃ ty : Nat → FieldType, ∀ k, k < N → parseFieldDescriptor (T k).2.2.1 = some (ty k)) ∧ ∀ a, a < N → ∀ b, b < N → a ≠ b → (T a).2.1 ≠ (T b).2.1
theorem ch_Cl0 : ch_Cl 0 ch_R0 ch_F0 14 := ⟨rfl, ch_ri [281, 283, 285, 287, 289, 291, 293, 295, 297, 299, 301, 303, 305, 307] (by decide +kernel) (by decide +kernel), ⟨ch_T0, by decide +kernel⟩, by decide +kernel⟩
theorem ch_Cl1 : ch_Cl 1 ch_R1 ch_F1 17 := ⟨rfl, ch_ri [88, 90, 92, 94, 96, 98, 100, 102, 104, 106, 108, 110, 112, 114, 116, 118, 120] (by decide +kernel) (by decide +kernel), ⟨ch_T1, by decide +kernel⟩, by decide +kernel⟩
theorem ch_Cl2 : ch_Cl 2 ch_R2 ch_F2 3 := ⟨rfl, ch_ri [137, 139, 141] (by decide +kernel) (by decide +kernel), ⟨ch_T2, by decide +kernel⟩, by decide +kernel⟩
theorem ch_Cl3 : ch_Cl 3 ch_R3 ch_F3 3 := ⟨rfl, ch_ri [156, 158, 160] (by decide +kernel) (by decide +kernel), ⟨ch_T3, by decide +kernel⟩, by decide +kernel⟩
theorem ch_Cl4 : ch_Cl 4 ch_R4 ch_F4 5 := ⟨rfl, ch_ri [209, 211, 213, 215, 217] (by decide +kernel) (by decide +kernel), ⟨ch_T4, by decide +kernel⟩, by decide +kernel⟩
theorem ch_Cl5 : ch_Cl 5 ch_R5 ch_F5 2 := ⟨rfl, ch_ri [184, 186] (by decide +kernel) (by decide +kernel), ⟨ch_T5, by decide +kernel⟩, by decide +kernel⟩
theorem ch_Cl6 : ch_Cl 6 ch_R6 ch_F6 2 := ⟨rfl, ch_ri [232, 234] (by decide +kernel) (by decide +kernel), ⟨ch_T6, by decide +kernel⟩, by decide +kernel⟩
theorem ch_Cl7 : ch_Cl 7 ch_R7 ch_F7 1 := ⟨rfl, ch_ri [246] (by decide +kernel) (by decide +kernel), ⟨ch_T7, by decide +kernel⟩, by decide +kernel⟩
theorem ch_Cl8 : ch_Cl 8 ch_R8 ch_F8 3 := ⟨rfl, ch_ri [258, 260, 262] (by decide +kernel) (by decide +kernel), ⟨ch_T8, by decide +kernel⟩, by decide +kernel⟩
theorem ch_Cl9 : ch_Cl 9 ch_R9 ch_F9 4 := ⟨rfl, ch_ri [1067, 1069, 1071, 1073] (by decide +kernel) (by decide +kernel), ⟨ch_T9, by decide +kernel⟩, by decide +kernel⟩
end
section
/-! THE WORLD: objects of nine classes by number, their arrays as parts; every int by address and place; all else is fixed. Cells beside the world: a StringBuilder (9), the law's row of longs (14) -/
abbrev ch_Ad : Type := Nat × Nat × Nat
abbrev ch_V : Type := Value ⊕ ch_Ad
abbrev ch_M : Type := ch_Ad → Nat → Int32
abbrev ch_O : Type := Option ch_V ⊕ Nat
/-- launch, what stands fixed, lowest address that may be written and the world's base, class ids, slots of fields, ids of array classes, addresses beside the world, cells beside the world, the script, the texts, the formatter -/
abbrev ch_G : Type := Launch × Heap × (Nat × Nat) × ((Nat → ClassId) × (Nat → Nat → Nat) × (Nat → ClassId)) × (ch_Ad → Nat) × (ch_Ad → Prop) × (Nat × (Nat → Int32)) × List (List Int32) × Value
def ch_l (g : ch_G) : Launch := g.1
def ch_H0 (g : ch_G) : Heap := g.2.1
def ch_lo (g : ch_G) : Nat := g.2.2.1.1
def ch_base (g : ch_G) : Nat := g.2.2.1.2
def ch_dC (g : ch_G) : Nat → ClassId := g.2.2.2.1.1
def ch_dI (g : ch_G) : Nat → Nat → Nat := g.2.2.2.1.2.1
def ch_cA (g : ch_G) : Nat → ClassId := g.2.2.2.1.2.2
def ch_xa (g : ch_G) : ch_Ad → Nat := g.2.2.2.2.1
def ch_xi (g : ch_G) : ch_Ad → Prop := g.2.2.2.2.2.1
def ch_scr (g : ch_G) : Nat × Nat × (Nat → Int32) := (ch_xa g (11, 0, 0), g.2.2.2.2.2.2.1)
def ch_tx (g : ch_G) : List (List Int32) := g.2.2.2.2.2.2.2.1
def ch_sv (g : ch_G) : Value := g.2.2.2.2.2.2.2.2
def ch_A (g : ch_G) : Nat → Prop := fun q => ch_lo g ≤ q
/-- a byte of a text, its length -/
def ch_tb (g : ch_G) (i j : Nat) : Int32 := ((ch_tx g).getD i []).getD j 0
def ch_tn (g : ch_G) (i : Nat) : Nat := ((ch_tx g).getD i []).length
/-- how many objects of a class -/
def ch_cnt (ci : Nat) : Nat := match ci with
  | 1 => 12
  | 5 => 2
  | 6 => 2
  | _ => 1
/-- an object's cells, itself counted -/
def ch_wid (ci : Nat) : Nat := match ci with
  | 1 => 9
  | 2 => 2
  | 5 => 2
  | 6 => 2
  | 8 => 4
  | _ => 1
/-- where an object lies -/
def ch_off (ci j : Nat) : Nat := match ci with
  | 0 => 0
  | 1 => if j < 4 then 1 + 9 * j else 39 + 9 * (j - 4)
  | 2 => 37
  | 3 => 111
  | 4 => 112
  | 5 => 113 + 11 * j
  | 6 => 115 + 3 * j
  | 7 => 117
  | _ => 120
def ch_in (a : ch_Ad) : Prop := a.1 ≤ 8 ∧ a.2.1 < ch_cnt a.1 ∧ a.2.2 < ch_wid a.1
def ch_inx (g : ch_G) (a : ch_Ad) : Prop := ch_in a ∨ ch_xi g a
def ch_adr (g : ch_G) (a : ch_Ad) : Nat := if a.1 ≤ 8 then ch_base g + (ch_off a.1 a.2.1 + a.2.2) else ch_xa g a
/-- a fixed cell -/
def ch_fx (g : ch_G) (q : Nat) : Prop := q < (ch_H0 g).size ∧ ∀ a, ch_inx g a → ch_adr g a ≠ q
def ch_va (g : ch_G) (a : ch_Ad) : Prop := ch_inx g a ∨ a = (11, 0, 0) ∨ (∃ i, i < (ch_tx g).length ∧ (a = (12, i, 0) ∨ a = (13, i, 0))) ∨ ∃ i, i < 2 ∧ a = (15, i, 0)
def ch_tr (g : ch_G) : ch_V → Value
  | .inl v => v
  | .inr a => .ref (ch_adr g a)
def ch_ok (g : ch_G) (v : ch_V) : Prop := ∀ a, v = .inr a → ch_va g a
/-- a field that holds an address: which -/
def ch_rf (ci k j : Nat) : Option ch_Ad := match ci with
  | 0 => match k with
    | 0 => some (1, 0, 0)
    | 1 => some (1, 1, 0)
    | 2 => some (1, 2, 0)
    | 3 => some (1, 3, 0)
    | 4 => some (2, 0, 0)
    | 5 => some (3, 0, 0)
    | 6 => some (4, 0, 0)
    | 7 => some (6, 0, 0)
    | 8 => some (7, 0, 0)
    | 9 => some (6, 1, 0)
    | 10 => some (8, 0, 0)
    | 11 => some (5, 1, 0)
    | _ => none
  | 1 => if k < 8 then some (1, j, k + 1) else none
  | 2 => if k = 0 then some (2, j, 1) else none
  | 4 => if k = 0 then some (5, 0, 0) else none
  | 5 => if k = 0 then some (5, j, 1) else none
  | 6 => if k = 0 then some (6, j, 1) else none
  | 8 => if k < 3 then some (8, j, k + 1) else none
  | 9 => if k = 0 then some (9, j, 1) else none
  | _ => none
/-- kinds of arrays: 0 int, 1 char, 2 long, 4 yards, 5 byte; and lengths -/
def ch_ak (ci c : Nat) : Nat × Nat := match ci with
  | 1 => (0, if c < 3 then 12 else 5)
  | 2 => (4, 8)
  | 5 => (0, 12)
  | 6 => (1, 60)
  | 8 => (0, 15)
  | 9 => (5, 16)
  | _ => (2, 9)
def ch_ty (t : Nat) : FieldType := match t with
  | 0 => .int
  | 1 => .char
  | 2 => .long
  | 3 => .double
  | 4 => .object "ChalkWarrants$Yard"
  | _ => .byte
/-- a long by its two halves -/
def ch_lw (h l : Int32) : Int64 := (UInt64.ofNat (h.toUInt32.toNat * 4294967296 + l.toUInt32.toNat)).toInt64
def ch_ev (g : ch_G) (mem : ch_M) (a : ch_Ad) (t k : Nat) : Value := match t with
  | 0 => .int (mem a k)
  | 1 => .int (mem a k)
  | 2 => .long (ch_lw (mem a (2 * k)) (mem a (2 * k + 1)))
  | 3 => .null
  | 4 => .ref (ch_adr g (1, 4 + k, 0))
  | _ => .int (mem a k)
def ch_gv (mem : ch_M) (ci j k : Nat) : ch_V := match ch_rf ci k j with
  | some a => .inr a
  | none => .inl (.int (mem (ci, j, 0) k))
def ch_cell (g : ch_G) (mem : ch_M) (a : ch_Ad) (H : Heap) : Prop := match a with
  | (ci, j, 0) => ∃ r : vw_C, ch_cls[ci]? = some r ∧ t_OB (ch_adr g (ci, j, 0)) (ch_dC g ci) r.2.2 (ch_dI g ci) H (fun k => ch_tr g (ch_gv mem ci j k))
  | (ci, j, c + 1) => H[ch_adr g (ci, j, c + 1)]? = some (arrV (ch_cA g (ch_ak ci (c + 1)).1) (ch_ak ci (c + 1)).2 (fun k => ch_ev g mem (ci, j, c + 1) (ch_ak ci (c + 1)).1 k))
/-- addresses differ, and may be written -/
def ch_gw (g : ch_G) : Prop := (∀ a b, ch_inx g a → ch_inx g b → ch_adr g a = ch_adr g b → a = b) ∧ (∀ a, ch_inx g a → ch_lo g ≤ ch_adr g a) ∧ (∀ j, ch_xi g (9, j, 0) → ch_xi g (9, j, 1)) ∧ ∀ a, ch_xi g a → a.1 = 9 ∨ a.1 = 14
/-- the heap holds the world -/
def ch_Rp (g : ch_G) (mem : ch_M) (H : Heap) : Prop := ch_lo g ≤ H.size ∧ (∀ q, ch_fx g q → H[q]? = (ch_H0 g)[q]?) ∧ (∀ a, ch_inx g a → ch_cell g mem a H) ∧ ch_gw g
abbrev ch_tys (g : ch_G) : List (ClassId × FieldType) := [(ch_cA g 0, ch_ty 0), (ch_cA g 1, ch_ty 1), (ch_cA g 2, ch_ty 2), (ch_cA g 3, ch_ty 3), (ch_cA g 4, ch_ty 4), (ch_cA g 5, ch_ty 5)]
/-- the exceptions, by number -/
def ch_xn (n : Nat) : String := match n with
  | 0 => "java/lang/UnsupportedOperationException"
  | 1 => "java/lang/IndexOutOfBoundsException"
  | 2 => "java/lang/IllegalArgumentException"
  | 3 => "java/util/NoSuchElementException"
  | 4 => "java/lang/IllegalStateException"
  | _ => "java/lang/ArithmeticException"
/-- the literals of the law -/
def ch_lit6 : List (String × List Int32 × Nat) := [("c0@", [99, 48, 64], 232), (";r1", [59, 114, 49], 240), ("t;h1:", [116, 59, 104, 49, 58], 246), ("q", [113], 269), ("t;t;s9", [116, 59, 116, 59, 115, 57], 274), ("t;g1>1*1", [116, 59, 103, 49, 62, 49, 42, 49], 276)]
/-- the rows of digits: ones, tens -/
def ch_dig (i j : Nat) : Int32 := if i = 0 then nI (48 + j % 10) else nI (48 + j / 10)
/-- texts, rows of digits and statics that stand fixed -/
def ch_SW (g : ch_G) (U : State) : Prop :=
  ((∃ more, ch_tx g = ch_lit6.map (fun x => x.2.1) ++ more) ∧ ∀ i x, ch_lit6[i]? = some x → vk_R "ChalkWarrantsLaw" x.2.2 x.1 (ch_xa g (12, i, 0)) U) ∧
  vk_S (ch_tx g).length ((ch_tx g).map List.length) (ch_tx g) (fun i => ch_xa g (12, i, 0)) (fun i => ch_xa g (13, i, 0)) (fun q => ¬ ch_fx g q) U (ch_H0 g) ∧
  va_Z "java/lang/String" "COMPACT_STRINGS" "Z" (.int 1) (fun q => ¬ ch_fx g q) U (ch_H0 g) ∧
  (va_Z "java/lang/Integer" "DigitOnes" "[B" (.ref (ch_xa g (15, 0, 0))) (fun q => ¬ ch_fx g q) U (ch_H0 g) ∧ va_Z "java/lang/Integer" "DigitTens" "[B" (.ref (ch_xa g (15, 1, 0))) (fun q => ¬ ch_fx g q) U (ch_H0 g)) ∧
  (va_Z "jdk/internal/util/Preconditions" "SIOOBE_FORMATTER" "Ljava/util/function/BiFunction;" (ch_sv g) (fun q => ¬ ch_fx g q) U (ch_H0 g) ∧ (ch_sv g).category = 1) ∧
  ∀ i, i < 2 → va_T .byte (ch_xa g (15, i, 0)) 100 (fun j => .int (ch_dig i j)) (fun q => ¬ ch_fx g q) U (ch_H0 g)
theorem ch_SW.warm {g : ch_G} {s U : State} (hW : s.WarmedH U.vm) (h : ch_SW g s) : ch_SW g U := ⟨⟨h.1.1, fun i x hx => (h.1.2 i x hx).warm hW⟩, h.2.1.moved hW.alike, h.2.2.1.moved hW.alike, ⟨h.2.2.2.1.1.moved hW.alike, h.2.2.2.1.2.moved hW.alike⟩, ⟨h.2.2.2.2.1.1.moved hW.alike, h.2.2.2.2.1.2⟩, fun i hi => va_T.moved hW.alike (h.2.2.2.2.2 i hi)⟩
theorem ch_SW.same {g : ch_G} {s U : State} (hv : U.vm = s.vm) (h : ch_SW g s) : ch_SW g U := by
  have ha : s.vm.Alike U.vm := by rw [hv]; exact Vm.Alike.refl s.vm
  exact ⟨⟨h.1.1, fun i x hx => (h.1.2 i x hx).same hv⟩, h.2.1.moved ha, h.2.2.1.moved ha, ⟨h.2.2.2.1.1.moved ha, h.2.2.2.1.2.moved ha⟩, ⟨h.2.2.2.2.1.1.moved ha, h.2.2.2.2.1.2⟩, fun i hi => va_T.moved ha (h.2.2.2.2.2 i hi)⟩
/-- what the tables of a state say -/
def ch_WV (g : ch_G) (U : State) : Prop :=
  va_K (ch_dC g, ch_dI g) ch_cls (ch_tys g) U ∧ (∀ w ∈ ch_oth, va_Nw w U) ∧ (∀ i j, i < 6 → j < 6 → i ≠ j → va_Nc (ch_xn i) (ch_xn j) U) ∧
  vx_Zq Bundle.tN "UNASSIGNED_STACK" Bundle.steD (ch_A g) U (ch_H0 g) ∧ vx_Zq Bundle.tN "SUPPRESSED_SENTINEL" Bundle.listD (ch_A g) U (ch_H0 g) ∧
  va_X (ch_scr g).1 (ch_scr g).2.1 (ch_scr g).2.2 U (ch_H0 g) ∧ ch_fx g (ch_scr g).1 ∧ (ch_scr g).2.1 < 2 ^ 31 ∧ ch_SW g U ∧ va_AO "ChalkWarrants$Yard" U
theorem ch_oth_warm {w : Cond} {s U : State} (hw : w ∈ ch_oth) (hW : s.WarmedH U.vm) (h : va_Nw w s) : va_Nw w U := by
  have h1 : ch_isO w = true := (List.mem_filter.mp hw).2
  cases w with
  | fieldLinkNest => exact va_Nw.warmF hW h
  | methodLinkNest => exact va_Nw.warmM hW h
  | castable => exact va_Nw.warmC hW h
  | declares => exact va_Nw.warmD hW h
  | _ => cases h1
theorem ch_X_moved {b L : Nat} {xs : Nat → Int32} {s U : State} {H : Heap} (hvm : s.vm.Alike U.vm) (h : va_X b L xs s H) : va_X b L xs U H := by
  obtain ⟨scr, h1, h2, h3, h4, h5⟩ := h
  exact ⟨scr, h1, State.isArrayOf_alike hvm h2, h3, h4, h5⟩
theorem ch_WV.warm {g : ch_G} {s U : State} (hW : s.WarmedH U.vm) (h : ch_WV g s) : ch_WV g U := by
  obtain ⟨h1, h2, h3, h4, h5, h6, h7, h8, h9, h10⟩ := h
  exact ⟨va_K.moved hW.alike h1, fun w hw => ch_oth_warm hw hW (h2 w hw), fun i j a b c => (h3 i j a b c).moved hW.alike, vx_Zq.moved hW.alike h4, vx_Zq.moved hW.alike h5, ch_X_moved hW.alike h6, h7, h8, h9.warm hW, va_AO.moved hW.alike h10⟩
end
section
/-- a method: its name, bytes, locals, type, frames and new cells, handlers -/
abbrev ch_MI : Type := MethodName × ByteArray × Nat × Option FieldType × Nat × Nat × List (Nat × Nat × Nat × Nat)
abbrev ch_nm (f : ch_MI) : MethodName := f.1
abbrev ch_bc (f : ch_MI) : ByteArray := f.2.1
abbrev ch_ml (f : ch_MI) : Nat := f.2.2.1
abbrev ch_rt (f : ch_MI) : Option FieldType := f.2.2.2.1
abbrev ch_fr (f : ch_MI) : Nat := f.2.2.2.2.1
abbrev ch_mc (f : ch_MI) : Nat := f.2.2.2.2.2.1
abbrev ch_hh (f : ch_MI) : List (Nat × Nat × Nat × Nat) := f.2.2.2.2.2.2
def ch_rm (f : ch_MI) : Room := { frames := ch_fr f, cells := ch_mc f, slots := 6 * ch_mc f, locals := 128 * ch_fr f + 64 }
def ch_cw (f : ch_MI) : Cond := match ch_hh f with
  | [] => Cond.code (ch_nm f) (ch_bc f) (ch_ml f) (ch_rt f)
  | _ :: _ => Cond.codeWith (ch_nm f) (ch_bc f) (ch_ml f) (ch_rt f) (ch_hh f)
def ch_ws (f : ch_MI) : List Cond := ch_cw f :: ch_good
abbrev ch_LT : Type := List (Option ch_V)
def ch_LR (g : ch_G) (n : Nat) (ls : ch_LT) (lm : Array Slot) : Prop := lm.size = n ∧ lv_wf lm ∧ ∀ (i : Nat) (v : ch_V), ls[i]? = some (some v) → lm[i]? = some (.val (ch_tr g v))
/-- what stands in a frame of the method f -/
def ch_FR (g : ch_G) (f : ch_MI) (p : Program) (s : State) (m : MethodId) (args : Array Value) (meth : Method) (c : Code) : Prop :=
  p.tables.exec = Jvm.exec ∧ c.code = ch_bc f ∧ meth.sig.returnType = ch_rt f ∧ c.maxLocals = ch_ml f ∧ s.vm.findClass (ch_nm f).cls = some m.cls ∧ (∀ w ∈ ch_good, w.before args s = true) ∧ ch_WV g s ∧ meth.locks = false ∧ c.exceptionTable.toList = tableOf (ch_hh f) ∧ (ch_l g).stackTraces = false ∧ ch_lo g ≤ s.heap.size ∧ meth.name = (ch_nm f).name
abbrev ch_En : Type := State → Array Value → List Frame → State → Prop
/-- from here the frame comes to E -/
def ch_J (g : ch_G) (f : ch_MI) (R : Room) (E : ch_En) (pc : Nat) (ls : ch_LT) (st : List ch_V) (mem : ch_M) (k : Nat) : Prop :=
  ∀ (p : Program) (e : Env) (s : State) (m : MethodId) (args : Array Value) (below : List Frame) (meth : Method) (c : Code) (H : Heap) (locs : List Loc) (lm : Array Slot),
    ch_FR g f p s m args meth c → ch_Rp g mem H → va_S (ch_A g) s.heap H locs → (∀ o ∈ ls, ∀ v, o = some v → ch_ok g v) → (∀ v ∈ st, ch_ok g v) → ch_LR g (ch_ml f) ls lm →
    W p (ch_l g) e R s m args below meth c H locs k (6 * k) (E s args below) (F0 m pc lm (st.map (ch_tr g)))
/-- .. and with the exception n thrown here -/
def ch_X (g : ch_G) (f : ch_MI) (R : Room) (E : ch_En) (pc : Nat) (ls : ch_LT) (st : List ch_V) (n : Nat) (mem : ch_M) (k : Nat) : Prop :=
  ∀ (p : Program) (e : Env) (s : State) (m : MethodId) (args : Array Value) (below : List Frame) (meth : Method) (c : Code) (H : Heap) (locs : List Loc) (lm : Array Slot) (q : Addr) (ce : Cell),
    ch_FR g f p s m args meth c → ch_Rp g mem H → va_S (ch_A g) s.heap H locs → (∀ o ∈ ls, ∀ v, o = some v → ch_ok g v) → ch_LR g (ch_ml f) ls lm → n < 6 → H[q]? = some ce → ce.vm = .none → s.vm.findClass (ch_xn n) = some ce.cls →
    vx_W p (ch_l g) e R s m args below meth c H locs k (6 * k) (E s args below) (F0 m pc lm (st.map (ch_tr g))) q
def ch_Qc (g : ch_G) (Q : ch_O → ch_M → Prop) : Array Value → State → Outcome → State → Prop := fun _ st o t => ∃ (v : Option ch_V) (mem : ch_M), o = .returned (v.map (ch_tr g)) ∧ Q (.inl v) mem ∧ ch_Rp g mem t.heap ∧ va_F (ch_A g) st t
def ch_XC (g : ch_G) (Q : ch_O → ch_M → Prop) : String → State → State → Prop := fun E st t => ∃ (n : Nat) (mem : ch_M), E = ch_xn n ∧ n < 6 ∧ Q (.inr n) mem ∧ ch_Rp g mem t.heap ∧ va_F (ch_A g) st t
def ch_E (g : ch_G) (f : ch_MI) (Q : ch_O → ch_M → Prop) : ch_En := fun s args below => vx_MQ below (ch_Qc g Q) (ch_XC g Q) args s (ch_mc f) (6 * ch_mc f) (ch_A g)
def ch_PC (g : ch_G) (as : List ch_V) (mem : ch_M) : Array Value → State → Prop := fun a U => a = (as.map (ch_tr g)).toArray ∧ ch_WV g U ∧ ch_Rp g mem U.heap ∧ ch_lo g ≤ U.heap.size
/-- the method f, called with these: it ends so -/
def ch_C (g : ch_G) (f : ch_MI) (as : List ch_V) (mem : ch_M) (Q : ch_O → ch_M → Prop) : Prop :=
  (ch_l g).stackTraces = false → (∀ v ∈ as, ch_ok g v) → vx_Met (ch_l g) (ch_nm f) (ch_ws f) (ch_rm f) (ch_PC g as mem) (ch_Qc g Q) (ch_XC g Q) (ch_mc f) (6 * ch_mc f) (ch_A g)
/-- ways in which a call ends -/
def ch_oi (q : Int32 → ch_M → Prop) : ch_O → ch_M → Prop := fun o m => ∃ r, o = .inl (some (.inl (.int r))) ∧ q r m
def ch_ov (q : ch_M → Prop) : ch_O → ch_M → Prop := fun o m => o = .inl none ∧ q m
def ch_ol (q : Int64 → ch_M → Prop) : ch_O → ch_M → Prop := fun o m => ∃ r, o = .inl (some (.inl (.long r))) ∧ q r m
def ch_oa (q : ch_Ad → ch_M → Prop) : ch_O → ch_M → Prop := fun o m => ∃ r, o = .inl (some (.inr r)) ∧ q r m
def ch_of (q : UInt32 → ch_M → Prop) : ch_O → ch_M → Prop := fun o m => ∃ r, o = .inl (some (.inl (.float r))) ∧ q r m
def ch_od (q : UInt64 → ch_M → Prop) : ch_O → ch_M → Prop := fun o m => ∃ r, o = .inl (some (.inl (.double r))) ∧ q r m
def ch_ox (q : ch_O → ch_M → Prop) (x : Nat → ch_M → Prop) : ch_O → ch_M → Prop := fun o m => q o m ∨ ∃ n, o = .inr n ∧ n < 6 ∧ x n m
/-- static facts of a method that is called -/
def ch_MF (f : ch_MI) : Prop := ch_cw f ∈ ch_good ∧ Cond.initialized (ch_nm f).cls ∈ ch_good ∧ ((ch_nm f).cls ≠ "java/lang/invoke/MethodHandle" ∧ (ch_nm f).cls ≠ "java/lang/invoke/VarHandle") ∧ plainFor (ch_nm f) = true ∧ ch_ml f ≤ 40
/-- this method calls f by this entry of its class's pool, with n arguments -/
def ch_LK (own : String) (idx : Nat) (f : ch_MI) (n : Nat) : Prop := Cond.methodLink own idx (ch_nm f) ∈ ch_good ∧ (parseMethodDescriptor (ch_nm f).desc).map (fun d => d.parameters.length) = some n
theorem ch_cw_tab {f : ch_MI} {args : Array Value} {s : State} {m : MethodId} {meth : Method} {c : Code} (h : (ch_cw f).before args s = true) (hn : s.methodNamed? (ch_nm f) = some m) (hm : s.vm.method? m = some meth) (hc : meth.code = some c) : c.exceptionTable.toList = tableOf (ch_hh f) := by
  unfold ch_cw at h
  cases hh : ch_hh f with
  | nil =>
    rw [hh] at h
    obtain ⟨meth9, c9, h1, h2, -, -, -, -, h7, -⟩ := Cond.code_spec hn h
    cases Option.some.inj (h1.symm.trans hm)
    cases Option.some.inj (h2.symm.trans hc)
    rw [Array.isEmpty_iff.mp h7]
    rfl
  | cons a l =>
    rw [hh] at h
    obtain ⟨m9, meth9, c9, hn9, h1, h2, -, -, h6, -⟩ := Cond.codeWith_spec h
    cases Option.some.inj (hn9.symm.trans hn)
    cases Option.some.inj (h1.symm.trans hm)
    cases Option.some.inj (h2.symm.trans hc)
    rw [← h6, table_eq]
def ch_cat : ch_V → Nat
  | .inl v => v.category
  | .inr _ => 1
theorem ch_cat_tr (g : ch_G) (v : ch_V) : (ch_tr g v).category = ch_cat v := by cases v <;> rfl
theorem ch_args : ∀ (vs : List Value) (k i : Nat) (v : Value), (∀ v ∈ vs, v.category = 1) → vs[i]? = some v → (k + i, v) ∈ lv_args k vs
  | [], _, _, _, _, h => by simp at h
  | w :: vs, k, 0, v, hc, h => by
    simp at h
    subst h
    exact List.mem_cons_self
  | w :: vs, k, i + 1, v, hc, h => by
    have h1 : w.category = 1 := hc w List.mem_cons_self
    have h2 := ch_args vs (k + 1) i v (fun x hx => hc x (List.mem_cons_of_mem _ hx)) (by simpa using h)
    have h3 : lv_args k (w :: vs) = (k, w) :: lv_args (k + 1) vs := by
      show (k, w) :: lv_args (if w.category = 2 then k + 2 else k + 1) vs = _
      rw [if_neg (by omega)]
    rw [h3]
    refine List.mem_cons_of_mem _ ?_
    have e : k + 1 + i = k + (i + 1) := by omega
    rw [← e]
    exact h2
theorem ch_sl : ∀ (vs : List Value), (∀ v ∈ vs, v.category = 1) → (lg_sl vs).length = vs.length
  | [], _ => rfl
  | w :: vs, hc => by
    have h1 : w.category = 1 := hc w List.mem_cons_self
    have h2 := ch_sl vs (fun x hx => hc x (List.mem_cons_of_mem _ hx))
    show (List.flatMap _ (w :: vs)).length = _
    rw [List.flatMap_cons, if_neg (by omega), List.length_append]
    show 1 + (lg_sl vs).length = _
    rw [h2, List.length_cons]
    omega
theorem ch_entry (g : ch_G) (as : List ch_V) (n : Nat) (hcat : ∀ v ∈ as, ch_cat v = 1) (hlen : as.length ≤ n) :
    ch_LR g n (as.map some ++ List.replicate (n - as.length) none) ((lg_sl (as.map (ch_tr g)) ++ List.replicate (n - (lg_sl (as.map (ch_tr g))).length) Slot.unset).toArray) := by
  have hc : ∀ v ∈ as.map (ch_tr g), v.category = 1 := by
    intro v hv
    obtain ⟨w, hw, rfl⟩ := List.mem_map.mp hv
    rw [ch_cat_tr]
    exact hcat w hw
  have hl : (lg_sl (as.map (ch_tr g))).length ≤ n := by rw [ch_sl _ hc, List.length_map]; exact hlen
  obtain ⟨h1, h2, h3⟩ := lv_entry (as.map (ch_tr g)) hl
  refine ⟨h1, h2, fun i v hv => ?_⟩
  have hi : i < as.length := by
    by_cases hi : i < as.length
    · exact hi
    · rw [List.getElem?_append_right (by simpa using hi)] at hv
      have := List.eq_of_mem_replicate (List.mem_of_getElem? hv)
      cases this
  rw [List.getElem?_append_left (by simpa using hi), List.getElem?_map] at hv
  have hv2 : as[i]? = some v := by
    cases hx : as[i]? with
    | none => rw [hx] at hv; cases hv
    | some x => rw [hx] at hv; simp at hv; rw [hv]
  have h4 := h3 _ (ch_args (as.map (ch_tr g)) 0 i (ch_tr g v) hc (by rw [List.getElem?_map, hv2]; rfl))
  simpa using h4
theorem ch_good_pre {f : ch_MI} {args : Array Value} {s : State} (h : ∀ w ∈ ch_ws f, w.before args s = true) : ∀ w ∈ ch_good, w.before args s = true := fun w hw => h w (List.mem_cons_of_mem _ hw)
/-! bodies of methods that no row of natives replaces -/
theorem ch_ofW {l : Launch} {y : MethodName} {ws ws' : List Cond} {rm : Room} {Pc : Array Value → State → Prop} {Qc : Array Value → State → Outcome → State → Prop} {XC : String → State → State → Prop} {mc ms : Nat} {free : Addr → Prop} {cc : ByteArray} {maxL : Nat} {ret : Option FieldType}
    (hy : plainFor y = true) (hw : ws = Cond.code y cc maxL ret :: ws')
    (body : ∀ p e s m args below meth c s₁, BodyLoose p l y (headSpec ws rm) cc maxL ret e s m args below meth c s₁ → c.maxLocals = maxL → (∀ x ∈ c.exceptionTable.toList, False) → Pc args s →
      W p l e (headSpec ws rm).room s m args below meth c s.heap [] 0 0 (vx_MQ below Qc XC args s mc ms free) (entryFrame m args maxL)) : vx_Met l y ws rm Pc Qc XC mc ms free := by
  refine MetFree.of_bodySF (code := cc) (maxLocals := maxL) (ret := ret) hy ?_ ?_
  · intro args s m h hn
    obtain ⟨meth, c, h1, h2, h3, h4, h5, h6, -, -⟩ := Cond.code_spec hn (atoms_spec (ws := ws) h _ (by rw [hw]; exact List.mem_cons_self))
    exact ⟨meth, c, h1, h2, h3, h4, h5, h6⟩
  · intro p e s m args below meth c s₁ B hml hP _
    have hh0 : s₁.heap = s.heap := by rw [B.state]; rfl
    have ht : ∀ x ∈ c.exceptionTable.toList, False := by
      obtain ⟨meth9, c9, h1, h2, -, -, -, -, h7, -⟩ := Cond.code_spec B.named (atoms_spec (ws := ws) B.pre _ (by rw [hw]; exact List.mem_cons_self))
      cases Option.some.inj (h1.symm.trans B.method)
      cases Option.some.inj (h2.symm.trans (Stand.of_body B).code)
      intro x hx
      rw [Array.isEmpty_iff.mp h7] at hx
      cases hx
    obtain ⟨t, a1, o, b1, b2, b3⟩ := body p e s m args below meth c s₁ B hml ht hP s₁ hh0 (Stand.of_body B)
    exact ⟨t, o, a1, b1, b2, b3⟩
theorem ch_ofWH {l : Launch} {y : MethodName} {ws ws' : List Cond} {rm : Room} {Pc : Array Value → State → Prop} {Qc : Array Value → State → Outcome → State → Prop} {XC : String → State → State → Prop} {mc ms : Nat} {free : Addr → Prop} {cc : ByteArray} {maxL : Nat} {ret : Option FieldType} {hh : List (Nat × Nat × Nat × Nat)}
    (hy : plainFor y = true) (hw : ws = Cond.codeWith y cc maxL ret hh :: ws')
    (body : ∀ p e s m args below meth c s₁, BodyLoose p l y (headSpec ws rm) cc maxL ret e s m args below meth c s₁ → c.maxLocals = maxL → Pc args s →
      W p l e (headSpec ws rm).room s m args below meth c s.heap [] 0 0 (vx_MQ below Qc XC args s mc ms free) (entryFrame m args maxL)) : vx_Met l y ws rm Pc Qc XC mc ms free := by
  refine MetFree.of_bodySF (code := cc) (maxLocals := maxL) (ret := ret) hy ?_ ?_
  · intro args s m h hn
    obtain ⟨m9, meth, c, hn9, h1, h2, h3, h4, -, h5, h6, -⟩ := Cond.codeWith_spec (atoms_spec (ws := ws) h _ (by rw [hw]; exact List.mem_cons_self))
    cases hn.symm.trans hn9
    exact ⟨meth, c, h1, h2, h3, h4, h5, h6⟩
  · intro p e s m args below meth c s₁ B hml hP _
    have hh0 : s₁.heap = s.heap := by rw [B.state]; rfl
    obtain ⟨t, a1, o, b1, b2, b3⟩ := body p e s m args below meth c s₁ B hml hP s₁ hh0 (Stand.of_body B)
    exact ⟨t, o, a1, b1, b2, b3⟩
theorem ch_MofW {l : Launch} {y : MethodName} {ws ws' : List Cond} {rm : Room} {Pc : Array Value → State → Prop} {Qc : Array Value → State → Outcome → State → Prop} {mc ms : Nat} {free : Addr → Prop} {cc : ByteArray} {maxL : Nat} {ret : Option FieldType}
    (hy : plainFor y = true) (hw : ws = Cond.code y cc maxL ret :: ws')
    (body : ∀ p e s m args below meth c s₁, BodyLoose p l y (headSpec ws rm) cc maxL ret e s m args below meth c s₁ → c.maxLocals = maxL → Pc args s →
      W p l e (headSpec ws rm).room s m args below meth c s.heap [] 0 0 (MQ below Qc args s mc ms free) (entryFrame m args maxL)) : Met l y ws rm Pc Qc mc ms free := by
  refine MetFree.of_bodySF (code := cc) (maxLocals := maxL) (ret := ret) hy ?_ ?_
  · intro args s m h hn
    obtain ⟨meth, c, h1, h2, h3, h4, h5, h6, -, -⟩ := Cond.code_spec hn (atoms_spec (ws := ws) h _ (by rw [hw]; exact List.mem_cons_self))
    exact ⟨meth, c, h1, h2, h3, h4, h5, h6⟩
  · intro p e s m args below meth c s₁ B hml hP _
    have hh0 : s₁.heap = s.heap := by rw [B.state]; rfl
    obtain ⟨t, a1, o, b1, b2, b3⟩ := body p e s m args below meth c s₁ B hml hP s₁ hh0 (Stand.of_body B)
    exact ⟨t, o, a1, b1, b2, ⟨b3.1, b3.2⟩⟩
/-- a contract out of a walk from the entry -/
theorem ch_enter {g : ch_G} {f : ch_MI} {as : List ch_V} {mem : ch_M} {Q : ch_O → ch_M → Prop} (hf : ch_MF f) (hcat : ∀ v ∈ as, ch_cat v = 1) (hlen : as.length ≤ ch_ml f)
    (h : ch_J g f (ch_rm f) (ch_E g f Q) 0 (as.map some ++ List.replicate (ch_ml f - as.length) none) [] mem 0) : ch_C g f as mem Q := by
  intro htr hok
  have key : ∀ (p : Program) (e : Env) (s : State) (m : MethodId) (args : Array Value) (below : List Frame) (meth : Method) (c : Code) (s₁ : State), BodyLoose p (ch_l g) (ch_nm f) (headSpec (ch_ws f) (ch_rm f)) (ch_bc f) (ch_ml f) (ch_rt f) e s m args below meth c s₁ → c.maxLocals = ch_ml f → ch_PC g as mem args s →
      W p (ch_l g) e (headSpec (ch_ws f) (ch_rm f)).room s m args below meth c s.heap [] 0 0 (vx_MQ below (ch_Qc g Q) (ch_XC g Q) args s (ch_mc f) (6 * ch_mc f) (ch_A g)) (entryFrame m args (ch_ml f)) := by
    intro p e s m args below meth c s₁ B hml hP
    obtain ⟨rfl, hW, hR, hb⟩ := hP
    have hts := atoms_spec (ws := ch_ws f) B.pre
    rw [lg_entry_eq]
    refine h p e s m _ below meth c s.heap [] _ ⟨B.exec, B.bytes, B.returns, hml, findClass_of_methodNamed B.named, ch_good_pre hts, hW, B.notSynchronized, ch_cw_tab (hts _ List.mem_cons_self) B.named B.method (Stand.of_body B).code, htr, hb, (name_of_methodNamed B.named B.method).1⟩ hR va_S.rf ?_ (fun v hv => by cases hv) (ch_entry g as (ch_ml f) hcat hlen)
    intro o ho v hv
    subst hv
    rcases List.mem_append.mp ho with h1 | h1
    · obtain ⟨w, hw, he⟩ := List.mem_map.mp h1
      rw [← Option.some.inj he]
      exact hok w hw
    · have := List.eq_of_mem_replicate h1
      cases this
  cases hh : ch_hh f with
  | nil =>
    refine ch_ofW (cc := ch_bc f) (maxL := ch_ml f) (ret := ch_rt f) (ws' := ch_good) hf.2.2.2.1 ?_ (fun p e s m args below meth c s₁ B hml _ hP => key p e s m args below meth c s₁ B hml hP)
    unfold ch_ws ch_cw
    rw [hh]
  | cons a l =>
    refine ch_ofWH (cc := ch_bc f) (maxL := ch_ml f) (ret := ch_rt f) (hh := ch_hh f) (ws' := ch_good) hf.2.2.2.1 ?_ key
    unfold ch_ws ch_cw
    rw [hh]
end
section
theorem ch_okl {g : ch_G} {v : Value} : ch_ok g (.inl v) := fun a h => by cases h
theorem ch_ok1 {g : ch_G} {v : Value} {l : List ch_V} (h : ∀ w ∈ l, ch_ok g w) : ∀ w ∈ (.inl v :: l : List ch_V), ch_ok g w := fun w hw => (List.mem_cons.mp hw).elim (fun e => by rw [e]; exact ch_okl) (h w)
theorem ch_ok2 {g : ch_G} {v : ch_V} {l : List ch_V} (hv : ch_ok g v) (h : ∀ w ∈ l, ch_ok g w) : ∀ w ∈ (v :: l : List ch_V), ch_ok g w := fun w hw => (List.mem_cons.mp hw).elim (fun e => by rw [e]; exact hv) (h w)
theorem ch_ok0 {g : ch_G} {v : ch_V} {l : List ch_V} (h : ∀ w ∈ (v :: l : List ch_V), ch_ok g w) : ∀ w ∈ l, ch_ok g w := fun w hw => h w (List.mem_cons_of_mem _ hw)
theorem ch_okh {g : ch_G} {v : ch_V} {l : List ch_V} (h : ∀ w ∈ (v :: l : List ch_V), ch_ok g w) : ch_ok g v := h v List.mem_cons_self
section CHR
variable {g : ch_G} {f : ch_MI} {R : Room} {E : ch_En} {pc : Nat} {ls : ch_LT} {rest : List ch_V} {mem : ch_M} {k : Nat}
/-- one instruction: the frame's stack and place alone -/
theorem ch_go {pc' : Nat} {st st' : List ch_V}
    (h : ∀ (p : Program) (e : Env) (s : State) (m : MethodId) (args : Array Value) (below : List Frame) (meth : Method) (c : Code) (H : Heap) (locs : List Loc) (lm : Array Slot) (Q : State → Prop),
      ch_FR g f p s m args meth c → ch_Rp g mem H → va_S (ch_A g) s.heap H locs → (∀ o ∈ ls, ∀ v, o = some v → ch_ok g v) → (∀ v ∈ st, ch_ok g v) → ch_LR g (ch_ml f) ls lm →
      ((∀ v ∈ st', ch_ok g v) → W p (ch_l g) e R s m args below meth c H locs k (6 * k) Q (F0 m pc' lm (st'.map (ch_tr g)))) → W p (ch_l g) e R s m args below meth c H locs k (6 * k) Q (F0 m pc lm (st.map (ch_tr g))))
    (kk : ch_J g f R E pc' ls st' mem k) : ch_J g f R E pc ls st mem k :=
  fun p e s m args below meth c H locs lm hF hR hS ho hs hL => h p e s m args below meth c H locs lm _ hF hR hS ho hs hL (fun hs' => kk p e s m args below meth c H locs lm hF hR hS ho hs' hL)
theorem ch_iconst {n : Int} {v : Int32} (hd : decode (ch_bc f) pc = .ok (.iconst n, 1)) (hv : Int32.ofInt n = v) (kk : ch_J g f R E (pc + 1) ls (.inl (.int v) :: rest) mem k) : ch_J g f R E pc ls (rest) mem k :=
  ch_go (fun _ _ _ _ _ _ _ _ _ _ _ _ hF _ _ ho hs hL q => lv_iconst hF.1 hF.2.1 hd hv (q (ch_ok1 hs))) kk
theorem ch_bipush {n : Int} {v : Int32} (hd : decode (ch_bc f) pc = .ok (.bipush n, 2)) (hv : (Int8.ofInt n).toInt32 = v) (kk : ch_J g f R E (pc + 2) ls (.inl (.int v) :: rest) mem k) : ch_J g f R E pc ls (rest) mem k :=
  ch_go (fun _ _ _ _ _ _ _ _ _ _ _ _ hF _ _ ho hs hL q => lv_bipush hF.1 hF.2.1 hd hv (q (ch_ok1 hs))) kk
theorem ch_sipush {n : Int} {v : Int32} (hd : decode (ch_bc f) pc = .ok (.sipush n, 3)) (hv : (Int16.ofInt n).toInt32 = v) (kk : ch_J g f R E (pc + 3) ls (.inl (.int v) :: rest) mem k) : ch_J g f R E pc ls (rest) mem k :=
  ch_go (fun _ _ _ _ _ _ _ _ _ _ _ _ hF _ _ ho hs hL q => lv_sipush hF.1 hF.2.1 hd hv (q (ch_ok1 hs))) kk
theorem ch_ldc {i : Nat} {v : Int32} (hd : decode (ch_bc f) pc = .ok (.ldc i, 2)) (hw : Cond.constant (ch_nm f).cls i v ∈ ch_good) (kk : ch_J g f R E (pc + 2) ls (.inl (.int v) :: rest) mem k) : ch_J g f R E pc ls (rest) mem k :=
  ch_go (fun _ _ _ _ _ _ _ _ _ _ _ _ hF _ _ ho hs hL q => lv_ldc hF.1 hF.2.1 hF.2.2.2.2.1 (hF.2.2.2.2.2.1 _ hw) hd (q (ch_ok1 hs))) kk
theorem ch_ldcf {i : Nat} {v : UInt32} (hd : decode (ch_bc f) pc = .ok (.ldc i, 2)) (hw : Cond.constantFloat (ch_nm f).cls i v ∈ ch_good) (kk : ch_J g f R E (pc + 2) ls (.inl (.float v) :: rest) mem k) : ch_J g f R E pc ls (rest) mem k :=
  ch_go (fun _ _ _ _ _ _ _ _ _ _ _ _ hF _ _ ho hs hL q => lv_ldcf hF.1 hF.2.1 hF.2.2.2.2.1 (hF.2.2.2.2.2.1 _ hw) hd (q (ch_ok1 hs))) kk
theorem ch_iload_n {i : Nat} {n : Fin 4} {x : Int32} (hd : decode (ch_bc f) pc = .ok (.iload_n n, 1)) (hi : (n : Nat) = i) (hl : ls[i]? = some (some (.inl (.int x)))) (kk : ch_J g f R E (pc + 1) ls (.inl (.int x) :: rest) mem k) : ch_J g f R E pc ls (rest) mem k :=
  ch_go (fun _ _ _ _ _ _ _ _ _ _ _ _ hF _ _ ho hs hL q => lv_iload_n hF.1 hF.2.1 hd hi (hL.2.2 _ _ hl) (q (ch_ok1 hs))) kk
theorem ch_iload {i : Nat} {x : Int32} (hd : decode (ch_bc f) pc = .ok (.iload i, 2)) (hl : ls[i]? = some (some (.inl (.int x)))) (kk : ch_J g f R E (pc + 2) ls (.inl (.int x) :: rest) mem k) : ch_J g f R E pc ls (rest) mem k :=
  ch_go (fun _ _ _ _ _ _ _ _ _ _ _ _ hF _ _ ho hs hL q => lv_iload hF.1 hF.2.1 hd (hL.2.2 _ _ hl) (q (ch_ok1 hs))) kk
theorem ch_aload_n {i : Nat} {n : Fin 4} {a : ch_Ad} (hd : decode (ch_bc f) pc = .ok (.aload_n n, 1)) (hi : (n : Nat) = i) (hl : ls[i]? = some (some (.inr a))) (kk : ch_J g f R E (pc + 1) ls (.inr a :: rest) mem k) : ch_J g f R E pc ls (rest) mem k :=
  ch_go (fun _ _ _ _ _ _ _ _ _ _ _ _ hF _ _ ho hs hL q => lv_aload_n hF.1 hF.2.1 hd hi (hL.2.2 _ _ hl) (q (ch_ok2 (ho _ (List.mem_of_getElem? hl) _ rfl) hs))) kk
theorem ch_aload {i : Nat} {a : ch_Ad} (hd : decode (ch_bc f) pc = .ok (.aload i, 2)) (hl : ls[i]? = some (some (.inr a))) (kk : ch_J g f R E (pc + 2) ls (.inr a :: rest) mem k) : ch_J g f R E pc ls (rest) mem k :=
  ch_go (fun _ _ _ _ _ _ _ _ _ _ _ _ hF _ _ ho hs hL q => lv_aload hF.1 hF.2.1 hd (hL.2.2 _ _ hl) (q (ch_ok2 (ho _ (List.mem_of_getElem? hl) _ rfl) hs))) kk
theorem ch_dload {i : Nat} {x : UInt64} (hd : decode (ch_bc f) pc = .ok (.dload i, 2)) (hl : ls[i]? = some (some (.inl (.double x)))) (kk : ch_J g f R E (pc + 2) ls (.inl (.double x) :: rest) mem k) : ch_J g f R E pc ls (rest) mem k :=
  ch_go (fun _ _ _ _ _ _ _ _ _ _ _ _ hF _ _ ho hs hL q => lv_dload hF.1 hF.2.1 hd (hL.2.2 _ _ hl) (q (ch_ok1 hs))) kk
theorem ch_dup {v : ch_V} (hd : decode (ch_bc f) pc = .ok (.dup, 1)) (hc : ch_cat v = 1) (kk : ch_J g f R E (pc + 1) ls (v :: v :: rest) mem k) : ch_J g f R E pc ls (v :: rest) mem k :=
  ch_go (fun _ _ _ _ _ _ _ _ _ _ _ _ hF _ _ ho hs hL q => lv_dup hF.1 hF.2.1 hd ((ch_cat_tr g v).trans hc) (q (ch_ok2 (ch_okh hs) hs))) kk
theorem ch_pop {v : ch_V} (hd : decode (ch_bc f) pc = .ok (.pop, 1)) (hc : ch_cat v = 1) (kk : ch_J g f R E (pc + 1) ls (rest) mem k) : ch_J g f R E pc ls (v :: rest) mem k :=
  ch_go (fun _ _ _ _ _ _ _ _ _ _ _ _ hF _ _ ho hs hL q => lv_pop hF.1 hF.2.1 hd ((ch_cat_tr g v).trans hc) (q (ch_ok0 hs))) kk
theorem ch_dup_x1 {v w : ch_V} (hd : decode (ch_bc f) pc = .ok (.dup_x1, 1)) (hc : ch_cat v = 1) (hc2 : ch_cat w = 1) (kk : ch_J g f R E (pc + 1) ls (v :: w :: v :: rest) mem k) : ch_J g f R E pc ls (v :: w :: rest) mem k :=
  ch_go (fun _ _ _ _ _ _ _ _ _ _ _ _ hF _ _ ho hs hL q => lv_dup_x1 hF.1 hF.2.1 hd ((ch_cat_tr g v).trans hc) ((ch_cat_tr g w).trans hc2) (q (ch_ok2 (ch_okh hs) (ch_ok2 (ch_okh (ch_ok0 hs)) (ch_ok2 (ch_okh hs) (ch_ok0 (ch_ok0 hs))))))) kk
theorem ch_dup_x2 {v w u : ch_V} (hd : decode (ch_bc f) pc = .ok (.dup_x2, 1)) (hc : ch_cat v = 1) (hc2 : ch_cat w = 1) (hc3 : ch_cat u = 1) (kk : ch_J g f R E (pc + 1) ls (v :: w :: u :: v :: rest) mem k) : ch_J g f R E pc ls (v :: w :: u :: rest) mem k :=
  ch_go (fun _ _ _ _ _ _ _ _ _ _ _ _ hF _ _ ho hs hL q => lv_dup_x2 hF.1 hF.2.1 hd ((ch_cat_tr g v).trans hc) ((ch_cat_tr g w).trans hc2) ((ch_cat_tr g u).trans hc3) (q (ch_ok2 (ch_okh hs) (ch_ok2 (ch_okh (ch_ok0 hs)) (ch_ok2 (ch_okh (ch_ok0 (ch_ok0 hs))) (ch_ok2 (ch_okh hs) (ch_ok0 (ch_ok0 (ch_ok0 hs))))))))) kk
theorem ch_dup2 {v w : ch_V} (hd : decode (ch_bc f) pc = .ok (.dup2, 1)) (hc : ch_cat v = 1) (hc2 : ch_cat w = 1) (kk : ch_J g f R E (pc + 1) ls (v :: w :: v :: w :: rest) mem k) : ch_J g f R E pc ls (v :: w :: rest) mem k :=
  ch_go (fun _ _ _ _ _ _ _ _ _ _ _ _ hF _ _ ho hs hL q => lv_dup2_11 hF.1 hF.2.1 hd ((ch_cat_tr g v).trans hc) ((ch_cat_tr g w).trans hc2) (q (ch_ok2 (ch_okh hs) (ch_ok2 (ch_okh (ch_ok0 hs)) hs)))) kk
theorem ch_iadd {x y : Int32} (hd : decode (ch_bc f) pc = .ok (.iadd, 1)) (kk : ch_J g f R E (pc + 1) ls (.inl (.int (x + y)) :: rest) mem k) : ch_J g f R E pc ls (.inl (.int y) :: .inl (.int x) :: rest) mem k :=
  ch_go (fun _ _ _ _ _ _ _ _ _ _ _ _ hF _ _ ho hs hL q => lv_iadd hF.1 hF.2.1 hd (q (ch_ok1 (ch_ok0 (ch_ok0 hs))))) kk
theorem ch_isub {x y : Int32} (hd : decode (ch_bc f) pc = .ok (.isub, 1)) (kk : ch_J g f R E (pc + 1) ls (.inl (.int (x - y)) :: rest) mem k) : ch_J g f R E pc ls (.inl (.int y) :: .inl (.int x) :: rest) mem k :=
  ch_go (fun _ _ _ _ _ _ _ _ _ _ _ _ hF _ _ ho hs hL q => lv_isub hF.1 hF.2.1 hd (q (ch_ok1 (ch_ok0 (ch_ok0 hs))))) kk
theorem ch_imul {x y : Int32} (hd : decode (ch_bc f) pc = .ok (.imul, 1)) (kk : ch_J g f R E (pc + 1) ls (.inl (.int (x * y)) :: rest) mem k) : ch_J g f R E pc ls (.inl (.int y) :: .inl (.int x) :: rest) mem k :=
  ch_go (fun _ _ _ _ _ _ _ _ _ _ _ _ hF _ _ ho hs hL q => lv_imul hF.1 hF.2.1 hd (q (ch_ok1 (ch_ok0 (ch_ok0 hs))))) kk
theorem ch_iand {x y : Int32} (hd : decode (ch_bc f) pc = .ok (.iand, 1)) (kk : ch_J g f R E (pc + 1) ls (.inl (.int (x &&& y)) :: rest) mem k) : ch_J g f R E pc ls (.inl (.int y) :: .inl (.int x) :: rest) mem k :=
  ch_go (fun _ _ _ _ _ _ _ _ _ _ _ _ hF _ _ ho hs hL q => lv_iand hF.1 hF.2.1 hd (q (ch_ok1 (ch_ok0 (ch_ok0 hs))))) kk
theorem ch_ior {x y : Int32} (hd : decode (ch_bc f) pc = .ok (.ior, 1)) (kk : ch_J g f R E (pc + 1) ls (.inl (.int (x ||| y)) :: rest) mem k) : ch_J g f R E pc ls (.inl (.int y) :: .inl (.int x) :: rest) mem k :=
  ch_go (fun _ _ _ _ _ _ _ _ _ _ _ _ hF _ _ ho hs hL q => lv_ior hF.1 hF.2.1 hd (q (ch_ok1 (ch_ok0 (ch_ok0 hs))))) kk
theorem ch_ixor {x y : Int32} (hd : decode (ch_bc f) pc = .ok (.ixor, 1)) (kk : ch_J g f R E (pc + 1) ls (.inl (.int (x ^^^ y)) :: rest) mem k) : ch_J g f R E pc ls (.inl (.int y) :: .inl (.int x) :: rest) mem k :=
  ch_go (fun _ _ _ _ _ _ _ _ _ _ _ _ hF _ _ ho hs hL q => lv_ixor hF.1 hF.2.1 hd (q (ch_ok1 (ch_ok0 (ch_ok0 hs))))) kk
theorem ch_ishl {x y : Int32} (hd : decode (ch_bc f) pc = .ok (.ishl, 1)) (kk : ch_J g f R E (pc + 1) ls (.inl (.int (x <<< (y &&& 31))) :: rest) mem k) : ch_J g f R E pc ls (.inl (.int y) :: .inl (.int x) :: rest) mem k :=
  ch_go (fun _ _ _ _ _ _ _ _ _ _ _ _ hF _ _ ho hs hL q => lv_ishl hF.1 hF.2.1 hd (q (ch_ok1 (ch_ok0 (ch_ok0 hs))))) kk
theorem ch_idiv {x y : Int32} (hd : decode (ch_bc f) pc = .ok (.idiv, 1)) (hz : ¬ y = 0) (kk : ch_J g f R E (pc + 1) ls (.inl (.int (x / y)) :: rest) mem k) : ch_J g f R E pc ls (.inl (.int y) :: .inl (.int x) :: rest) mem k :=
  ch_go (fun _ _ _ _ _ _ _ _ _ _ _ _ hF _ _ ho hs hL q => lv_idiv hF.1 hF.2.1 hd hz (q (ch_ok1 (ch_ok0 (ch_ok0 hs))))) kk
theorem ch_irem {x y : Int32} (hd : decode (ch_bc f) pc = .ok (.irem, 1)) (hz : ¬ y = 0) (kk : ch_J g f R E (pc + 1) ls (.inl (.int (x - x / y * y)) :: rest) mem k) : ch_J g f R E pc ls (.inl (.int y) :: .inl (.int x) :: rest) mem k :=
  ch_go (fun _ _ _ _ _ _ _ _ _ _ _ _ hF _ _ ho hs hL q => lv_irem hF.1 hF.2.1 hd hz (q (ch_ok1 (ch_ok0 (ch_ok0 hs))))) kk
theorem ch_iushr {x y v : Int32} (hd : decode (ch_bc f) pc = .ok (.iushr, 1)) (hv : (x.toUInt32 >>> (y.toUInt32 &&& Int32.toUInt32 31)).toInt32 = v) (kk : ch_J g f R E (pc + 1) ls (.inl (.int v) :: rest) mem k) : ch_J g f R E pc ls (.inl (.int y) :: .inl (.int x) :: rest) mem k :=
  ch_go (fun _ _ _ _ _ _ _ _ _ _ _ _ hF _ _ ho hs hL q => lv_iushr hF.1 hF.2.1 hd hv (q (ch_ok1 (ch_ok0 (ch_ok0 hs))))) kk
theorem ch_i2l {x : Int32} (hd : decode (ch_bc f) pc = .ok (.i2l, 1)) (kk : ch_J g f R E (pc + 1) ls (.inl (.long x.toInt64) :: rest) mem k) : ch_J g f R E pc ls (.inl (.int x) :: rest) mem k :=
  ch_go (fun _ _ _ _ _ _ _ _ _ _ _ _ hF _ _ ho hs hL q => lv_i2l hF.1 hF.2.1 hd rfl (q (ch_ok1 (ch_ok0 hs)))) kk
theorem ch_i2c {x : Int32} (hd : decode (ch_bc f) pc = .ok (.i2c, 1)) (kk : ch_J g f R E (pc + 1) ls (.inl (.int ((x.toUInt32 % 65536).toInt32)) :: rest) mem k) : ch_J g f R E pc ls (.inl (.int x) :: rest) mem k :=
  ch_go (fun _ _ _ _ _ _ _ _ _ _ _ _ hF _ _ ho hs hL q => lv_i2c hF.1 hF.2.1 hd rfl (q (ch_ok1 (ch_ok0 hs)))) kk
theorem ch_i2d {x : Int32} (hd : decode (ch_bc f) pc = .ok (.i2d, 1)) (kk : ch_J g f R E (pc + 1) ls (.inl (.double (FP.i2d x)) :: rest) mem k) : ch_J g f R E pc ls (.inl (.int x) :: rest) mem k :=
  ch_go (fun _ _ _ _ _ _ _ _ _ _ _ _ hF _ _ ho hs hL q => lv_i2d hF.1 hF.2.1 hd (q (ch_ok1 (ch_ok0 hs)))) kk
theorem ch_i2f {x : Int32} (hd : decode (ch_bc f) pc = .ok (.i2f, 1)) (kk : ch_J g f R E (pc + 1) ls (.inl (.float (FP.i2f x)) :: rest) mem k) : ch_J g f R E pc ls (.inl (.int x) :: rest) mem k :=
  ch_go (fun _ _ _ _ _ _ _ _ _ _ _ _ hF _ _ ho hs hL q => lv_i2f hF.1 hF.2.1 hd (q (ch_ok1 (ch_ok0 hs)))) kk
theorem ch_f2d {x : UInt32} (hd : decode (ch_bc f) pc = .ok (.f2d, 1)) (hn : vf_n64 (FP.f2d x)) (kk : ch_J g f R E (pc + 1) ls (.inl (.double (FP.f2d x)) :: rest) mem k) : ch_J g f R E pc ls (.inl (.float x) :: rest) mem k :=
  ch_go (fun _ _ _ _ _ _ _ _ _ _ _ _ hF _ _ ho hs hL q => lv_f2d hF.1 hF.2.1 hd hn (q (ch_ok1 (ch_ok0 hs)))) kk
theorem ch_fdiv {x y : UInt32} (hd : decode (ch_bc f) pc = .ok (.fdiv, 1)) (hn : vf_n32 (FP.fdiv x y)) (kk : ch_J g f R E (pc + 1) ls (.inl (.float (FP.fdiv x y)) :: rest) mem k) : ch_J g f R E pc ls (.inl (.float y) :: .inl (.float x) :: rest) mem k :=
  ch_go (fun _ _ _ _ _ _ _ _ _ _ _ _ hF _ _ ho hs hL q => lv_fdiv hF.1 hF.2.1 hd hn (q (ch_ok1 (ch_ok0 (ch_ok0 hs))))) kk
theorem ch_ddiv {x y : UInt64} (hd : decode (ch_bc f) pc = .ok (.ddiv, 1)) (hn : vf_n64 (FP.ddiv x y)) (kk : ch_J g f R E (pc + 1) ls (.inl (.double (FP.ddiv x y)) :: rest) mem k) : ch_J g f R E pc ls (.inl (.double y) :: .inl (.double x) :: rest) mem k :=
  ch_go (fun _ _ _ _ _ _ _ _ _ _ _ _ hF _ _ ho hs hL q => lv_ddiv hF.1 hF.2.1 hd hn (q (ch_ok1 (ch_ok0 (ch_ok0 hs))))) kk
theorem ch_dcmp {x y : UInt64} {op : CmpOp} (hd : decode (ch_bc f) pc = .ok (.dcmp op, 1)) (kk : ch_J g f R E (pc + 1) ls (.inl (.int (Op.cmpValue (FP.dcmp x y) op)) :: rest) mem k) : ch_J g f R E pc ls (.inl (.double y) :: .inl (.double x) :: rest) mem k :=
  ch_go (fun _ _ _ _ _ _ _ _ _ _ _ _ hF _ _ ho hs hL q => lv_dcmp hF.1 hF.2.1 hd (q (ch_ok1 (ch_ok0 (ch_ok0 hs))))) kk
theorem ch_lcmp {x y : Int64} (hd : decode (ch_bc f) pc = .ok (.lcmp, 1)) (kk : ch_J g f R E (pc + 1) ls (.inl (.int (lg_cmp x y)) :: rest) mem k) : ch_J g f R E pc ls (.inl (.long y) :: .inl (.long x) :: rest) mem k :=
  ch_go (fun _ _ _ _ _ _ _ _ _ _ _ _ hF _ _ ho hs hL q => W.lcmp hF.1 hF.2.1 hd (q (ch_ok1 (ch_ok0 (ch_ok0 hs))))) kk
theorem ch_goto {off : Int} {tgt : Nat} (hd : decode (ch_bc f) pc = .ok (.goto off, 3)) (ht : (pc : Int) + off = (tgt : Int)) (kk : ch_J g f R E tgt ls (rest) mem k) : ch_J g f R E pc ls (rest) mem k :=
  ch_go (fun _ _ _ _ _ _ _ _ _ _ _ _ hF _ _ ho hs hL q => lv_goto hF.1 hF.2.1 hd ht (q hs)) kk
theorem ch_if_eq {off : Int} {tgt : Nat} {x : Int32} (hd : decode (ch_bc f) pc = .ok (.ifCond .eq off, 3)) (ht : (pc : Int) + off = (tgt : Int)) (kt : x = 0 → ch_J g f R E tgt ls rest mem k) (kf : ¬ x = 0 → ch_J g f R E (pc + 3) ls rest mem k) : ch_J g f R E pc ls (.inl (.int x) :: rest) mem k :=
  fun p e s m args below meth c H locs lm hF hR hS ho hs hL => lv_if_eq hF.1 hF.2.1 hd ht (fun z => kt z p e s m args below meth c H locs lm hF hR hS ho (ch_ok0 hs) hL) (fun z => kf z p e s m args below meth c H locs lm hF hR hS ho (ch_ok0 hs) hL)
theorem ch_if_ne {off : Int} {tgt : Nat} {x : Int32} (hd : decode (ch_bc f) pc = .ok (.ifCond .ne off, 3)) (ht : (pc : Int) + off = (tgt : Int)) (kt : ¬ x = 0 → ch_J g f R E tgt ls rest mem k) (kf : x = 0 → ch_J g f R E (pc + 3) ls rest mem k) : ch_J g f R E pc ls (.inl (.int x) :: rest) mem k :=
  fun p e s m args below meth c H locs lm hF hR hS ho hs hL => lv_if_ne hF.1 hF.2.1 hd ht (fun z => kt z p e s m args below meth c H locs lm hF hR hS ho (ch_ok0 hs) hL) (fun z => kf z p e s m args below meth c H locs lm hF hR hS ho (ch_ok0 hs) hL)
theorem ch_if_lt {off : Int} {tgt : Nat} {x : Int32} (hd : decode (ch_bc f) pc = .ok (.ifCond .lt off, 3)) (ht : (pc : Int) + off = (tgt : Int)) (kt : x < 0 → ch_J g f R E tgt ls rest mem k) (kf : ¬ x < 0 → ch_J g f R E (pc + 3) ls rest mem k) : ch_J g f R E pc ls (.inl (.int x) :: rest) mem k :=
  fun p e s m args below meth c H locs lm hF hR hS ho hs hL => lv_if_lt hF.1 hF.2.1 hd ht (fun z => kt z p e s m args below meth c H locs lm hF hR hS ho (ch_ok0 hs) hL) (fun z => kf z p e s m args below meth c H locs lm hF hR hS ho (ch_ok0 hs) hL)
theorem ch_if_ge {off : Int} {tgt : Nat} {x : Int32} (hd : decode (ch_bc f) pc = .ok (.ifCond .ge off, 3)) (ht : (pc : Int) + off = (tgt : Int)) (kt : 0 ≤ x → ch_J g f R E tgt ls rest mem k) (kf : ¬ 0 ≤ x → ch_J g f R E (pc + 3) ls rest mem k) : ch_J g f R E pc ls (.inl (.int x) :: rest) mem k :=
  fun p e s m args below meth c H locs lm hF hR hS ho hs hL => lv_if_ge hF.1 hF.2.1 hd ht (fun z => kt z p e s m args below meth c H locs lm hF hR hS ho (ch_ok0 hs) hL) (fun z => kf z p e s m args below meth c H locs lm hF hR hS ho (ch_ok0 hs) hL)
theorem ch_if_gt {off : Int} {tgt : Nat} {x : Int32} (hd : decode (ch_bc f) pc = .ok (.ifCond .gt off, 3)) (ht : (pc : Int) + off = (tgt : Int)) (kt : 0 < x → ch_J g f R E tgt ls rest mem k) (kf : ¬ 0 < x → ch_J g f R E (pc + 3) ls rest mem k) : ch_J g f R E pc ls (.inl (.int x) :: rest) mem k :=
  fun p e s m args below meth c H locs lm hF hR hS ho hs hL => lv_if_gt hF.1 hF.2.1 hd ht (fun z => kt z p e s m args below meth c H locs lm hF hR hS ho (ch_ok0 hs) hL) (fun z => kf z p e s m args below meth c H locs lm hF hR hS ho (ch_ok0 hs) hL)
theorem ch_if_le {off : Int} {tgt : Nat} {x : Int32} (hd : decode (ch_bc f) pc = .ok (.ifCond .le off, 3)) (ht : (pc : Int) + off = (tgt : Int)) (kt : x ≤ 0 → ch_J g f R E tgt ls rest mem k) (kf : ¬ x ≤ 0 → ch_J g f R E (pc + 3) ls rest mem k) : ch_J g f R E pc ls (.inl (.int x) :: rest) mem k :=
  fun p e s m args below meth c H locs lm hF hR hS ho hs hL => lv_if_le hF.1 hF.2.1 hd ht (fun z => kt z p e s m args below meth c H locs lm hF hR hS ho (ch_ok0 hs) hL) (fun z => kf z p e s m args below meth c H locs lm hF hR hS ho (ch_ok0 hs) hL)
theorem ch_icmp_eq {off : Int} {tgt : Nat} {x y : Int32} (hd : decode (ch_bc f) pc = .ok (.if_icmp .eq off, 3)) (ht : (pc : Int) + off = (tgt : Int)) (kt : x = y → ch_J g f R E tgt ls rest mem k) (kf : ¬ x = y → ch_J g f R E (pc + 3) ls rest mem k) : ch_J g f R E pc ls (.inl (.int y) :: .inl (.int x) :: rest) mem k :=
  fun p e s m args below meth c H locs lm hF hR hS ho hs hL => lv_icmp_eq hF.1 hF.2.1 hd ht (fun z => kt z p e s m args below meth c H locs lm hF hR hS ho (ch_ok0 (ch_ok0 hs)) hL) (fun z => kf z p e s m args below meth c H locs lm hF hR hS ho (ch_ok0 (ch_ok0 hs)) hL)
theorem ch_icmp_ne {off : Int} {tgt : Nat} {x y : Int32} (hd : decode (ch_bc f) pc = .ok (.if_icmp .ne off, 3)) (ht : (pc : Int) + off = (tgt : Int)) (kt : ¬ x = y → ch_J g f R E tgt ls rest mem k) (kf : x = y → ch_J g f R E (pc + 3) ls rest mem k) : ch_J g f R E pc ls (.inl (.int y) :: .inl (.int x) :: rest) mem k :=
  fun p e s m args below meth c H locs lm hF hR hS ho hs hL => lv_icmp_ne hF.1 hF.2.1 hd ht (fun z => kt z p e s m args below meth c H locs lm hF hR hS ho (ch_ok0 (ch_ok0 hs)) hL) (fun z => kf z p e s m args below meth c H locs lm hF hR hS ho (ch_ok0 (ch_ok0 hs)) hL)
theorem ch_icmp_lt {off : Int} {tgt : Nat} {x y : Int32} (hd : decode (ch_bc f) pc = .ok (.if_icmp .lt off, 3)) (ht : (pc : Int) + off = (tgt : Int)) (kt : x < y → ch_J g f R E tgt ls rest mem k) (kf : ¬ x < y → ch_J g f R E (pc + 3) ls rest mem k) : ch_J g f R E pc ls (.inl (.int y) :: .inl (.int x) :: rest) mem k :=
  fun p e s m args below meth c H locs lm hF hR hS ho hs hL => lv_icmp_lt hF.1 hF.2.1 hd ht (fun z => kt z p e s m args below meth c H locs lm hF hR hS ho (ch_ok0 (ch_ok0 hs)) hL) (fun z => kf z p e s m args below meth c H locs lm hF hR hS ho (ch_ok0 (ch_ok0 hs)) hL)
theorem ch_icmp_ge {off : Int} {tgt : Nat} {x y : Int32} (hd : decode (ch_bc f) pc = .ok (.if_icmp .ge off, 3)) (ht : (pc : Int) + off = (tgt : Int)) (kt : y ≤ x → ch_J g f R E tgt ls rest mem k) (kf : ¬ y ≤ x → ch_J g f R E (pc + 3) ls rest mem k) : ch_J g f R E pc ls (.inl (.int y) :: .inl (.int x) :: rest) mem k :=
  fun p e s m args below meth c H locs lm hF hR hS ho hs hL => lv_icmp_ge hF.1 hF.2.1 hd ht (fun z => kt z p e s m args below meth c H locs lm hF hR hS ho (ch_ok0 (ch_ok0 hs)) hL) (fun z => kf z p e s m args below meth c H locs lm hF hR hS ho (ch_ok0 (ch_ok0 hs)) hL)
theorem ch_icmp_gt {off : Int} {tgt : Nat} {x y : Int32} (hd : decode (ch_bc f) pc = .ok (.if_icmp .gt off, 3)) (ht : (pc : Int) + off = (tgt : Int)) (kt : y < x → ch_J g f R E tgt ls rest mem k) (kf : ¬ y < x → ch_J g f R E (pc + 3) ls rest mem k) : ch_J g f R E pc ls (.inl (.int y) :: .inl (.int x) :: rest) mem k :=
  fun p e s m args below meth c H locs lm hF hR hS ho hs hL => lv_icmp_gt hF.1 hF.2.1 hd ht (fun z => kt z p e s m args below meth c H locs lm hF hR hS ho (ch_ok0 (ch_ok0 hs)) hL) (fun z => kf z p e s m args below meth c H locs lm hF hR hS ho (ch_ok0 (ch_ok0 hs)) hL)
theorem ch_icmp_le {off : Int} {tgt : Nat} {x y : Int32} (hd : decode (ch_bc f) pc = .ok (.if_icmp .le off, 3)) (ht : (pc : Int) + off = (tgt : Int)) (kt : x ≤ y → ch_J g f R E tgt ls rest mem k) (kf : ¬ x ≤ y → ch_J g f R E (pc + 3) ls rest mem k) : ch_J g f R E pc ls (.inl (.int y) :: .inl (.int x) :: rest) mem k :=
  fun p e s m args below meth c H locs lm hF hR hS ho hs hL => lv_icmp_le hF.1 hF.2.1 hd ht (fun z => kt z p e s m args below meth c H locs lm hF hR hS ho (ch_ok0 (ch_ok0 hs)) hL) (fun z => kf z p e s m args below meth c H locs lm hF hR hS ho (ch_ok0 (ch_ok0 hs)) hL)
theorem ch_tswOut {dflt lo hi : Int} {offs : Array Int} {len : Nat} {x : Int32} {tgt : Nat} (hd : decode (ch_bc f) pc = .ok (.tableswitch dflt lo hi offs, len)) (hx : x.toInt < lo ∨ hi < x.toInt) (ht : (pc : Int) + dflt = (tgt : Int)) (kk : ch_J g f R E tgt ls (rest) mem k) : ch_J g f R E pc ls (.inl (.int x) :: rest) mem k :=
  ch_go (fun _ _ _ _ _ _ _ _ _ _ _ _ hF _ _ ho hs hL q => lv_tableOut hF.1 hF.2.1 hd hx ht (q (ch_ok0 hs))) kk
theorem ch_tswIn {dflt lo hi : Int} {offs : Array Int} {len : Nat} {x : Int32} {off : Int} {tgt : Nat} (hd : decode (ch_bc f) pc = .ok (.tableswitch dflt lo hi offs, len)) (h1 : ¬ x.toInt < lo) (h2 : ¬ hi < x.toInt) (h3 : offs[(x.toInt - lo).toNat]? = some off) (ht : (pc : Int) + off = (tgt : Int)) (kk : ch_J g f R E tgt ls (rest) mem k) : ch_J g f R E pc ls (.inl (.int x) :: rest) mem k :=
  ch_go (fun _ _ _ _ _ _ _ _ _ _ _ _ hF _ _ ho hs hL q => lv_tableIn hF.1 hF.2.1 hd h1 h2 h3 ht (q (ch_ok0 hs))) kk
theorem ch_lsw {dflt : Int} {ps : Array (Int × Int)} {len : Nat} {x : Int32} {off : Int} {tgt : Nat} (hd : decode (ch_bc f) pc = .ok (.lookupswitch dflt ps, len)) (hp : (ps.toList.zip (ps.toList.drop 1)).all (fun (a, next) => a.1 < next.1) = true) (h3 : Op.lookupswitch.offset ps.toList dflt x.toInt = off) (ht : (pc : Int) + off = (tgt : Int)) (kk : ch_J g f R E tgt ls (rest) mem k) : ch_J g f R E pc ls (.inl (.int x) :: rest) mem k :=
  ch_go (fun _ _ _ _ _ _ _ _ _ _ _ _ hF _ _ ho hs hL q => lv_lookup hF.1 hF.2.1 hd hp h3 ht (q (ch_ok0 hs))) kk
theorem ch_ishr {x y : Int32} (hd : decode (ch_bc f) pc = .ok (.ishr, 1)) (kk : ch_J g f R E (pc + 1) ls (.inl (.int (x >>> (y &&& 31))) :: rest) mem k) : ch_J g f R E pc ls (.inl (.int y) :: .inl (.int x) :: rest) mem k :=
  ch_go (fun _ _ _ _ _ _ _ _ _ _ _ _ hF _ _ ho hs hL q => lv_ishr hF.1 hF.2.1 hd (q (ch_ok1 (ch_ok0 (ch_ok0 hs))))) kk
theorem ch_ineg {x : Int32} (hd : decode (ch_bc f) pc = .ok (.ineg, 1)) (kk : ch_J g f R E (pc + 1) ls (.inl (.int (-x)) :: rest) mem k) : ch_J g f R E pc ls (.inl (.int x) :: rest) mem k :=
  ch_go (fun _ _ _ _ _ _ _ _ _ _ _ _ hF _ _ ho hs hL q => lv_ineg hF.1 hF.2.1 hd (q (ch_ok1 (ch_ok0 hs)))) kk
theorem ch_i2b {x : Int32} (hd : decode (ch_bc f) pc = .ok (.i2b, 1)) (kk : ch_J g f R E (pc + 1) ls (.inl (.int x.toInt8.toInt32) :: rest) mem k) : ch_J g f R E pc ls (.inl (.int x) :: rest) mem k :=
  ch_go (fun _ _ _ _ _ _ _ _ _ _ _ _ hF _ _ ho hs hL q => lv_i2b hF.1 hF.2.1 hd rfl (q (ch_ok1 (ch_ok0 hs)))) kk
theorem ch_ladd {x y : Int64} (hd : decode (ch_bc f) pc = .ok (.ladd, 1)) (kk : ch_J g f R E (pc + 1) ls (.inl (.long (x + y)) :: rest) mem k) : ch_J g f R E pc ls (.inl (.long y) :: .inl (.long x) :: rest) mem k :=
  ch_go (fun _ _ _ _ _ _ _ _ _ _ _ _ hF _ _ ho hs hL q => lv_ladd hF.1 hF.2.1 hd (q (ch_ok1 (ch_ok0 (ch_ok0 hs))))) kk
theorem ch_lmul {x y : Int64} (hd : decode (ch_bc f) pc = .ok (.lmul, 1)) (kk : ch_J g f R E (pc + 1) ls (.inl (.long (x * y)) :: rest) mem k) : ch_J g f R E pc ls (.inl (.long y) :: .inl (.long x) :: rest) mem k :=
  ch_go (fun _ _ _ _ _ _ _ _ _ _ _ _ hF _ _ ho hs hL q => lv_lmul hF.1 hF.2.1 hd (q (ch_ok1 (ch_ok0 (ch_ok0 hs))))) kk
theorem ch_fcmp {x y : UInt32} {op : CmpOp} (hd : decode (ch_bc f) pc = .ok (.fcmp op, 1)) (kk : ch_J g f R E (pc + 1) ls (.inl (.int (Op.cmpValue (FP.fcmp x y) op)) :: rest) mem k) : ch_J g f R E pc ls (.inl (.float y) :: .inl (.float x) :: rest) mem k :=
  ch_go (fun _ _ _ _ _ _ _ _ _ _ _ _ hF _ _ ho hs hL q => lv_fcmp hF.1 hF.2.1 hd (q (ch_ok1 (ch_ok0 (ch_ok0 hs))))) kk
theorem ch_ldc2 {i : Nat} {v : Int64} (hd : decode (ch_bc f) pc = .ok (.ldc2_w i, 3)) (hw : Cond.constantLong (ch_nm f).cls i v ∈ ch_good) (kk : ch_J g f R E (pc + 3) ls (.inl (.long v) :: rest) mem k) : ch_J g f R E pc ls (rest) mem k :=
  ch_go (fun _ _ _ _ _ _ _ _ _ _ _ _ hF _ _ ho hs hL q => lv_ldc2 hF.1 hF.2.1 hF.2.2.2.2.1 (hF.2.2.2.2.2.1 _ hw) hd (q (ch_ok1 hs))) kk
theorem ch_ldc2d {i : Nat} {v : UInt64} (hd : decode (ch_bc f) pc = .ok (.ldc2_w i, 3)) (hw : Cond.constantDouble (ch_nm f).cls i v ∈ ch_good) (kk : ch_J g f R E (pc + 3) ls (.inl (.double v) :: rest) mem k) : ch_J g f R E pc ls (rest) mem k :=
  ch_go (fun _ _ _ _ _ _ _ _ _ _ _ _ hF _ _ ho hs hL q => lv_ldc2d hF.1 hF.2.1 hF.2.2.2.2.1 (hF.2.2.2.2.2.1 _ hw) hd (q (ch_ok1 hs))) kk
theorem ch_ldc_w {i : Nat} {v : Int32} (hd : decode (ch_bc f) pc = .ok (.ldc_w i, 3)) (hw : Cond.constant (ch_nm f).cls i v ∈ ch_good) (kk : ch_J g f R E (pc + 3) ls (.inl (.int v) :: rest) mem k) : ch_J g f R E pc ls (rest) mem k :=
  ch_go (fun _ _ _ _ _ _ _ _ _ _ _ _ hF _ _ ho hs hL q => lv_ldcw hF.1 hF.2.1 hF.2.2.2.2.1 (hF.2.2.2.2.2.1 _ hw) hd (q (ch_ok1 hs))) kk
theorem ch_lload_n {i : Nat} {n : Fin 4} {x : Int64} (hd : decode (ch_bc f) pc = .ok (.lload_n n, 1)) (hi : (n : Nat) = i) (hl : ls[i]? = some (some (.inl (.long x)))) (kk : ch_J g f R E (pc + 1) ls (.inl (.long x) :: rest) mem k) : ch_J g f R E pc ls (rest) mem k :=
  ch_go (fun _ _ _ _ _ _ _ _ _ _ _ _ hF _ _ ho hs hL q => lv_lload_n hF.1 hF.2.1 hd hi (hL.2.2 _ _ hl) (q (ch_ok1 hs))) kk
theorem ch_lload {i : Nat} {x : Int64} (hd : decode (ch_bc f) pc = .ok (.lload i, 2)) (hl : ls[i]? = some (some (.inl (.long x)))) (kk : ch_J g f R E (pc + 2) ls (.inl (.long x) :: rest) mem k) : ch_J g f R E pc ls (rest) mem k :=
  ch_go (fun _ _ _ _ _ _ _ _ _ _ _ _ hF _ _ ho hs hL q => lv_lload hF.1 hF.2.1 hd (hL.2.2 _ _ hl) (q (ch_ok1 hs))) kk
theorem ch_dload_n {i : Nat} {n : Fin 4} {x : UInt64} (hd : decode (ch_bc f) pc = .ok (.dload_n n, 1)) (hi : (n : Nat) = i) (hl : ls[i]? = some (some (.inl (.double x)))) (kk : ch_J g f R E (pc + 1) ls (.inl (.double x) :: rest) mem k) : ch_J g f R E pc ls (rest) mem k :=
  ch_go (fun _ _ _ _ _ _ _ _ _ _ _ _ hF _ _ ho hs hL q => lv_dload_n hF.1 hF.2.1 hd hi (hL.2.2 _ _ hl) (q (ch_ok1 hs))) kk
theorem ch_fload_n {i : Nat} {n : Fin 4} {x : UInt32} (hd : decode (ch_bc f) pc = .ok (.fload_n n, 1)) (hi : (n : Nat) = i) (hl : ls[i]? = some (some (.inl (.float x)))) (kk : ch_J g f R E (pc + 1) ls (.inl (.float x) :: rest) mem k) : ch_J g f R E pc ls (rest) mem k :=
  ch_go (fun _ _ _ _ _ _ _ _ _ _ _ _ hF _ _ ho hs hL q => lv_fload_n hF.1 hF.2.1 hd hi (hL.2.2 _ _ hl) (q (ch_ok1 hs))) kk
theorem ch_null (hd : decode (ch_bc f) pc = .ok (.aconst_null, 1)) (kk : ch_J g f R E (pc + 1) ls (.inl .null :: rest) mem k) : ch_J g f R E pc ls (rest) mem k :=
  ch_go (fun _ _ _ _ _ _ _ _ _ _ _ _ hF _ _ ho hs hL q => lv_null hF.1 hF.2.1 hd (q (ch_ok1 hs))) kk
theorem ch_ifnonnull {off : Int} {tgt : Nat} {a : ch_Ad} (hd : decode (ch_bc f) pc = .ok (.ifnonnull off, 3)) (ht : (pc : Int) + off = (tgt : Int)) (kk : ch_J g f R E tgt ls (rest) mem k) : ch_J g f R E pc ls (.inr a :: rest) mem k :=
  ch_go (fun _ _ _ _ _ _ _ _ _ _ _ _ hF _ _ ho hs hL q => lv_ifnonnull hF.1 hF.2.1 hd ht (q (ch_ok0 hs))) kk
end CHR
end
section
theorem ch_cat12 (v : ch_V) : ch_cat v = 1 ∨ ch_cat v = 2 := by
  cases v with
  | inl v => exact lv_cat v
  | inr _ => exact Or.inl rfl
def ch_kill (ls : ch_LT) (i : Nat) : ch_LT := match i with
  | 0 => ls
  | i' + 1 => match ls[i']? with
    | some (some w) => if ch_cat w = 2 then ls.set i' none else ls
    | _ => ls
def ch_set (ls : ch_LT) (i : Nat) (v : ch_V) : ch_LT := (ch_kill ls i).set i (some v)
def ch_set2 (ls : ch_LT) (i : Nat) (v : ch_V) : ch_LT := ((ch_kill ls i).set i (some v)).set (i + 1) none
theorem ch_kill_at {ls : ch_LT} {i j : Nat} {w : ch_V} (h : (ch_kill ls i)[j]? = some (some w)) : ls[j]? = some (some w) ∧ (j + 1 = i → ch_cat w = 1) := by
  cases i with
  | zero => exact ⟨h, fun q => by omega⟩
  | succ i' =>
    unfold ch_kill at h
    dsimp only at h
    cases hx : ls[i']? with
    | none =>
      rw [hx] at h
      refine ⟨h, fun q => ?_⟩
      have : j = i' := by omega
      subst this
      rw [hx] at h; cases h
    | some o =>
      cases o with
      | none =>
        rw [hx] at h
        refine ⟨h, fun q => ?_⟩
        have : j = i' := by omega
        subst this
        rw [hx] at h; cases h
      | some u =>
        rw [hx] at h
        dsimp only at h
        by_cases hc : ch_cat u = 2
        · rw [if_pos hc] at h
          by_cases hj : i' = j
          · subst hj
            rw [List.getElem?_set_self (List.getElem?_eq_some_iff.mp hx).1] at h
            cases h
          · rw [List.getElem?_set_ne hj] at h
            exact ⟨h, fun q => absurd (by omega) hj⟩
        · rw [if_neg hc] at h
          refine ⟨h, fun q => ?_⟩
          have : j = i' := by omega
          subst this
          rw [hx] at h
          rw [← Option.some.inj (Option.some.inj h)]
          rcases ch_cat12 u with z | z
          · exact z
          · exact absurd z hc
def ch_prs (g : ch_G) (ls : ch_LT) : List (Nat × Value) := (List.range ls.length).filterMap (fun i => match ls[i]? with
  | some (some v) => some (i, ch_tr g v)
  | _ => none)
theorem ch_prs_mem {g : ch_G} {ls : ch_LT} {i : Nat} {v : ch_V} (h : ls[i]? = some (some v)) : (i, ch_tr g v) ∈ ch_prs g ls :=
  List.mem_filterMap.mpr ⟨i, List.mem_range.mpr (List.getElem?_eq_some_iff.mp h).1, by rw [h]⟩
theorem ch_prs_has {g : ch_G} {n : Nat} {ls : ch_LT} {lm : Array Slot} (h : ch_LR g n ls lm) : lv_has lm n (ch_prs g ls) := by
  refine ⟨h.1, h.2.1, fun q hq => ?_⟩
  obtain ⟨i, -, hi⟩ := List.mem_filterMap.mp hq
  cases hx : ls[i]? with
  | none => rw [hx] at hi; cases hi
  | some o =>
    cases o with
    | none => rw [hx] at hi; cases hi
    | some v =>
      rw [hx] at hi
      cases hi
      exact h.2.2 i v hx
theorem ch_LR_set {g : ch_G} {n : Nat} {ls : ch_LT} {lm : Array Slot} {i : Nat} {v : ch_V} (h : lv_has lm n ((i, ch_tr g v) :: (ch_prs g ls).filter (fun q => !(q.1 == i) && !(q.1 + 1 == i && q.2.category == 2)))) : ch_LR g n (ch_set ls i v) lm := by
  refine ⟨h.1, h.2.1, fun j w hj => ?_⟩
  unfold ch_set at hj
  by_cases e : i = j
  · subst e
    have hl := (List.getElem?_eq_some_iff.mp hj).1
    rw [List.length_set] at hl
    rw [List.getElem?_set_self hl] at hj
    cases hj
    exact h.2.2 _ List.mem_cons_self
  · rw [List.getElem?_set_ne e] at hj
    obtain ⟨h1, h2⟩ := ch_kill_at hj
    refine h.2.2 (j, ch_tr g w) (List.mem_cons_of_mem _ (List.mem_filter.mpr ⟨ch_prs_mem h1, ?_⟩))
    simp only [Bool.and_eq_true, Bool.not_eq_true', beq_eq_false_iff_ne, ne_eq, Bool.and_eq_false_iff]
    refine ⟨fun q => e q.symm, ?_⟩
    by_cases q : j + 1 = i
    · exact Or.inr (by rw [ch_cat_tr, h2 q]; decide)
    · exact Or.inl q
theorem ch_LR_set2 {g : ch_G} {n : Nat} {ls : ch_LT} {lm : Array Slot} {i : Nat} {v : ch_V} (h : lv_has lm n ((i, ch_tr g v) :: (ch_prs g ls).filter (fun q => !(q.1 == i) && (!(q.1 == i + 1) && !(q.1 + 1 == i && q.2.category == 2))))) : ch_LR g n (ch_set2 ls i v) lm := by
  refine ⟨h.1, h.2.1, fun j w hj => ?_⟩
  unfold ch_set2 at hj
  by_cases e1 : i + 1 = j
  · subst e1
    have hl := (List.getElem?_eq_some_iff.mp hj).1
    rw [List.length_set] at hl
    rw [List.getElem?_set_self hl] at hj
    cases hj
  rw [List.getElem?_set_ne e1] at hj
  by_cases e : i = j
  · subst e
    have hl := (List.getElem?_eq_some_iff.mp hj).1
    rw [List.length_set] at hl
    rw [List.getElem?_set_self hl] at hj
    cases hj
    exact h.2.2 _ List.mem_cons_self
  · rw [List.getElem?_set_ne e] at hj
    obtain ⟨h1, h2⟩ := ch_kill_at hj
    refine h.2.2 (j, ch_tr g w) (List.mem_cons_of_mem _ (List.mem_filter.mpr ⟨ch_prs_mem h1, ?_⟩))
    simp only [Bool.and_eq_true, Bool.not_eq_true', beq_eq_false_iff_ne, ne_eq, Bool.and_eq_false_iff]
    refine ⟨fun q => e q.symm, fun q => e1 q.symm, ?_⟩
    by_cases q : j + 1 = i
    · exact Or.inr (by rw [ch_cat_tr, h2 q]; decide)
    · exact Or.inl q
theorem ch_kill_ok {g : ch_G} {ls : ch_LT} {i : Nat} (h : ∀ o ∈ ls, ∀ v, o = some v → ch_ok g v) : ∀ o ∈ ch_kill ls i, ∀ v, o = some v → ch_ok g v := by
  intro o ho v hv
  subst hv
  obtain ⟨j, hj⟩ := List.getElem?_of_mem ho
  exact h _ (List.mem_of_getElem? (ch_kill_at hj).1) v rfl
theorem ch_set_ok {g : ch_G} {ls : ch_LT} {i : Nat} {u : ch_V} (h : ∀ o ∈ ls, ∀ v, o = some v → ch_ok g v) (hu : ch_ok g u) : ∀ o ∈ ch_set ls i u, ∀ v, o = some v → ch_ok g v := by
  intro o ho v hv
  rcases List.mem_or_eq_of_mem_set ho with h1 | h1
  · exact ch_kill_ok h o h1 v hv
  · rw [h1] at hv
    cases hv
    exact hu
theorem ch_set2_ok {g : ch_G} {ls : ch_LT} {i : Nat} {u : ch_V} (h : ∀ o ∈ ls, ∀ v, o = some v → ch_ok g v) (hu : ch_ok g u) : ∀ o ∈ ch_set2 ls i u, ∀ v, o = some v → ch_ok g v := by
  intro o ho v hv
  rcases List.mem_or_eq_of_mem_set ho with h1 | h1
  · exact ch_set_ok h hu o h1 v hv
  · rw [h1] at hv
    cases hv
section CHS
variable {g : ch_G} {f : ch_MI} {R : Room} {E : ch_En} {pc : Nat} {ls ls' : ch_LT} {rest : List ch_V} {mem : ch_M} {k : Nat}
theorem ch_istore_n {i : Nat} {n : Fin 4} {x : Int32} (hd : decode (ch_bc f) pc = .ok (.istore_n n, 1)) (hi : (n : Nat) = i) (hn : i < ch_ml f) (hl : ch_set ls i (.inl (.int x)) = ls') (kk : ch_J g f R E (pc + 1) ls' rest mem k) : ch_J g f R E pc ls (.inl (.int x) :: rest) mem k := by
  subst hl
  exact fun p e s m args below meth c H locs lm hF hR hS ho hs hL => lv_istore_n hF.1 hF.2.1 hd hi (ch_prs_has hL) hn rfl (fun lm' hL' => kk p e s m args below meth c H locs lm' hF hR hS (ch_set_ok ho ch_okl) (ch_ok0 hs) (ch_LR_set hL'))
theorem ch_istore {i : Nat} {x : Int32} (hd : decode (ch_bc f) pc = .ok (.istore i, 2)) (hn : i < ch_ml f) (hl : ch_set ls i (.inl (.int x)) = ls') (kk : ch_J g f R E (pc + 2) ls' rest mem k) : ch_J g f R E pc ls (.inl (.int x) :: rest) mem k := by
  subst hl
  exact fun p e s m args below meth c H locs lm hF hR hS ho hs hL => lv_istore hF.1 hF.2.1 hd (ch_prs_has hL) hn rfl (fun lm' hL' => kk p e s m args below meth c H locs lm' hF hR hS (ch_set_ok ho ch_okl) (ch_ok0 hs) (ch_LR_set hL'))
theorem ch_astore_n {i : Nat} {n : Fin 4} {a : ch_Ad} (hd : decode (ch_bc f) pc = .ok (.astore_n n, 1)) (hi : (n : Nat) = i) (hn : i < ch_ml f) (hl : ch_set ls i (.inr a) = ls') (kk : ch_J g f R E (pc + 1) ls' rest mem k) : ch_J g f R E pc ls (.inr a :: rest) mem k := by
  subst hl
  exact fun p e s m args below meth c H locs lm hF hR hS ho hs hL => lv_astore_n hF.1 hF.2.1 hd hi (ch_prs_has hL) hn rfl (fun lm' hL' => kk p e s m args below meth c H locs lm' hF hR hS (ch_set_ok ho (ch_okh hs)) (ch_ok0 hs) (ch_LR_set hL'))
theorem ch_astore {i : Nat} {a : ch_Ad} (hd : decode (ch_bc f) pc = .ok (.astore i, 2)) (hn : i < ch_ml f) (hl : ch_set ls i (.inr a) = ls') (kk : ch_J g f R E (pc + 2) ls' rest mem k) : ch_J g f R E pc ls (.inr a :: rest) mem k := by
  subst hl
  exact fun p e s m args below meth c H locs lm hF hR hS ho hs hL => lv_astore hF.1 hF.2.1 hd (ch_prs_has hL) hn rfl (fun lm' hL' => kk p e s m args below meth c H locs lm' hF hR hS (ch_set_ok ho (ch_okh hs)) (ch_ok0 hs) (ch_LR_set hL'))
theorem ch_lstore {i : Nat} {x : Int64} (hd : decode (ch_bc f) pc = .ok (.lstore i, 2)) (hn : i + 1 < ch_ml f) (hl : ch_set2 ls i (.inl (.long x)) = ls') (kk : ch_J g f R E (pc + 2) ls' rest mem k) : ch_J g f R E pc ls (.inl (.long x) :: rest) mem k := by
  subst hl
  exact fun p e s m args below meth c H locs lm hF hR hS ho hs hL => lv_lstore hF.1 hF.2.1 hd (ch_prs_has hL) hn rfl (fun lm' hL' => kk p e s m args below meth c H locs lm' hF hR hS (ch_set2_ok ho ch_okl) (ch_ok0 hs) (ch_LR_set2 hL'))
theorem ch_lstore_n {i : Nat} {n : Fin 4} {x : Int64} (hd : decode (ch_bc f) pc = .ok (.lstore_n n, 1)) (hi : (n : Nat) = i) (hn : i + 1 < ch_ml f) (hl : ch_set2 ls i (.inl (.long x)) = ls') (kk : ch_J g f R E (pc + 1) ls' rest mem k) : ch_J g f R E pc ls (.inl (.long x) :: rest) mem k := by
  subst hl
  exact fun p e s m args below meth c H locs lm hF hR hS ho hs hL => lv_lstore_n hF.1 hF.2.1 hd hi (ch_prs_has hL) hn rfl (fun lm' hL' => kk p e s m args below meth c H locs lm' hF hR hS (ch_set2_ok ho ch_okl) (ch_ok0 hs) (ch_LR_set2 hL'))
theorem ch_dstore {i : Nat} {x : UInt64} (hd : decode (ch_bc f) pc = .ok (.dstore i, 2)) (hn : i + 1 < ch_ml f) (hl : ch_set2 ls i (.inl (.double x)) = ls') (kk : ch_J g f R E (pc + 2) ls' rest mem k) : ch_J g f R E pc ls (.inl (.double x) :: rest) mem k := by
  subst hl
  exact fun p e s m args below meth c H locs lm hF hR hS ho hs hL => lv_dstore hF.1 hF.2.1 hd (ch_prs_has hL) hn rfl (fun lm' hL' => kk p e s m args below meth c H locs lm' hF hR hS (ch_set2_ok ho ch_okl) (ch_ok0 hs) (ch_LR_set2 hL'))
theorem ch_iinc {i : Nat} {n : Int} {x v : Int32} (hd : decode (ch_bc f) pc = .ok (.iinc i n, 3)) (hx : ls[i]? = some (some (.inl (.int x)))) (hv : x + Int32.ofInt n = v) (hn : i < ch_ml f) (hl : ch_set ls i (.inl (.int v)) = ls') (kk : ch_J g f R E (pc + 3) ls' rest mem k) : ch_J g f R E pc ls rest mem k := by
  subst hl
  intro p e s m args below meth c H locs lm hF hR hS ho hs hL
  obtain ⟨q, hq⟩ := List.getElem?_of_mem (ch_prs_mem (g := g) hx)
  exact lv_iinc hF.1 hF.2.1 hd (ch_prs_has hL) hq hv hn rfl (fun lm' hL' => kk p e s m args below meth c H locs lm' hF hR hS (ch_set_ok ho ch_okl) hs (ch_LR_set (v := .inl (.int v)) hL'))
end CHS
def ch_all : List ch_Ad := [(0, 0, 0), (1, 0, 0), (1, 0, 1), (1, 0, 2), (1, 0, 3), (1, 0, 4), (1, 0, 5), (1, 0, 6), (1, 0, 7), (1, 0, 8), (1, 1, 0), (1, 1, 1), (1, 1, 2), (1, 1, 3), (1, 1, 4), (1, 1, 5), (1, 1, 6), (1, 1, 7), (1, 1, 8), (1, 2, 0), (1, 2, 1), (1, 2, 2), (1, 2, 3), (1, 2, 4), (1, 2, 5), (1, 2, 6), (1, 2, 7), (1, 2, 8), (1, 3, 0), (1, 3, 1), (1, 3, 2), (1, 3, 3), (1, 3, 4), (1, 3, 5), (1, 3, 6), (1, 3, 7), (1, 3, 8), (2, 0, 0), (2, 0, 1), (1, 4, 0), (1, 4, 1), (1, 4, 2), (1, 4, 3), (1, 4, 4), (1, 4, 5), (1, 4, 6), (1, 4, 7), (1, 4, 8), (1, 5, 0), (1, 5, 1), (1, 5, 2), (1, 5, 3), (1, 5, 4), (1, 5, 5), (1, 5, 6), (1, 5, 7), (1, 5, 8), (1, 6, 0), (1, 6, 1), (1, 6, 2), (1, 6, 3), (1, 6, 4), (1, 6, 5), (1, 6, 6), (1, 6, 7), (1, 6, 8), (1, 7, 0), (1, 7, 1), (1, 7, 2), (1, 7, 3), (1, 7, 4), (1, 7, 5), (1, 7, 6), (1, 7, 7), (1, 7, 8), (1, 8, 0), (1, 8, 1), (1, 8, 2), (1, 8, 3), (1, 8, 4), (1, 8, 5), (1, 8, 6), (1, 8, 7), (1, 8, 8), (1, 9, 0), (1, 9, 1), (1, 9, 2), (1, 9, 3), (1, 9, 4), (1, 9, 5), (1, 9, 6), (1, 9, 7), (1, 9, 8), (1, 10, 0), (1, 10, 1), (1, 10, 2), (1, 10, 3), (1, 10, 4), (1, 10, 5), (1, 10, 6), (1, 10, 7), (1, 10, 8), (1, 11, 0), (1, 11, 1), (1, 11, 2), (1, 11, 3), (1, 11, 4), (1, 11, 5), (1, 11, 6), (1, 11, 7), (1, 11, 8), (3, 0, 0), (4, 0, 0), (5, 0, 0), (5, 0, 1), (6, 0, 0), (6, 0, 1), (7, 0, 0), (6, 1, 0), (6, 1, 1), (8, 0, 0), (8, 0, 1), (8, 0, 2), (8, 0, 3), (5, 1, 0), (5, 1, 1)]
theorem ch_all_chk : ((List.range 9).all fun ci => (List.range 12).all fun j => (List.range 12).all fun c => !(decide (j < ch_cnt ci ∧ c < ch_wid ci)) || decide (ch_all[ch_off ci j + c]? = some (ci, j, c))) = true := by decide +kernel
theorem ch_all_ok : ∀ ci, ci < 9 → ∀ j, j < 12 → ∀ c, c < 12 → (j < ch_cnt ci ∧ c < ch_wid ci) → ch_all[ch_off ci j + c]? = some (ci, j, c) := by
  intro ci h1 j h2 c h3 h4
  have h := List.all_eq_true.mp (List.all_eq_true.mp (List.all_eq_true.mp ch_all_chk ci (List.mem_range.mpr h1)) j (List.mem_range.mpr h2)) c (List.mem_range.mpr h3)
  simp only [Bool.or_eq_true, Bool.not_eq_true', decide_eq_false_iff_not, decide_eq_true_eq] at h
  exact h.elim (fun q => absurd h4 q) id
theorem ch_cnt_le (ci : Nat) : ch_cnt ci ≤ 12 := by unfold ch_cnt; split <;> omega
theorem ch_wid_le (ci : Nat) : ch_wid ci ≤ 12 := by unfold ch_wid; split <;> omega
theorem ch_in_all {a : ch_Ad} (h : ch_in a) : ch_all[ch_off a.1 a.2.1 + a.2.2]? = some a := by
  obtain ⟨ci, j, c⟩ := a
  obtain ⟨h1, h2, h3⟩ := h
  have e1 := ch_cnt_le ci
  have e2 := ch_wid_le ci
  exact ch_all_ok ci (by dsimp only at h1; omega) j (by dsimp only at h2; omega) c (by dsimp only at h3; omega) ⟨h2, h3⟩
theorem ch_in_lt {a : ch_Ad} (h : ch_in a) : ch_off a.1 a.2.1 + a.2.2 < 126 := by
  have h1 := (List.getElem?_eq_some_iff.mp (ch_in_all h)).1
  exact h1
theorem ch_adr_in {g : ch_G} {a : ch_Ad} (h : ch_in a) : ch_adr g a = ch_base g + (ch_off a.1 a.2.1 + a.2.2) := by
  unfold ch_adr
  rw [if_pos h.1]
theorem ch_adr_injm {g : ch_G} {a b : ch_Ad} (ha : ch_in a) (hb : ch_in b) (h : ch_adr g a = ch_adr g b) : a = b := by
  rw [ch_adr_in ha, ch_adr_in hb] at h
  have h1 := ch_in_all ha
  have h2 := ch_in_all hb
  rw [show ch_off a.1 a.2.1 + a.2.2 = ch_off b.1 b.2.1 + b.2.2 by omega] at h1
  exact Option.some.inj (h1.symm.trans h2)
theorem ch_ev_eq {g : ch_G} {mem mem' : ch_M} {a : ch_Ad} (h : mem' a = mem a) (t k : Nat) : ch_ev g mem' a t k = ch_ev g mem a t k := by
  unfold ch_ev
  rw [h]
theorem ch_cell_eq {g : ch_G} {mem mem' : ch_M} {a : ch_Ad} {H H' : Heap} (h : mem' a = mem a) (hq : H'[ch_adr g a]? = H[ch_adr g a]?) (hc : ch_cell g mem a H) : ch_cell g mem' a H' := by
  obtain ⟨ci, j, c⟩ := a
  cases c with
  | zero =>
    obtain ⟨r, h1, h2⟩ := hc
    refine ⟨r, h1, (h2.kept hq).to (fun k _ => ?_)⟩
    unfold ch_gv
    cases ch_rf ci k j with
    | none => dsimp only; rw [h]
    | some a => rfl
  | succ c =>
    show H'[_]? = _
    rw [hq]
    have e : (fun k => ch_ev g mem' (ci, j, c + 1) (ch_ak ci (c + 1)).1 k) = (fun k => ch_ev g mem (ci, j, c + 1) (ch_ak ci (c + 1)).1 k) := funext fun k => ch_ev_eq h _ _
    rw [e]
    exact hc
theorem ch_cell_lt {g : ch_G} {mem : ch_M} {a : ch_Ad} {H : Heap} (hc : ch_cell g mem a H) : ch_adr g a < H.size := by
  obtain ⟨ci, j, c⟩ := a
  cases c with
  | zero =>
    obtain ⟨r, -, cell, h, -⟩ := hc
    exact (Array.getElem?_eq_some_iff.mp h).1
  | succ c => exact (Array.getElem?_eq_some_iff.mp hc).1
theorem ch_adr_A {g : ch_G} {mem : ch_M} {H : Heap} {a : ch_Ad} (hR : ch_Rp g mem H) (h : ch_inx g a) : ch_A g (ch_adr g a) := hR.2.2.2.2.1 a h
/-- one cell has changed -/
theorem ch_Rp_upd {g : ch_G} {mem mem' : ch_M} {a : ch_Ad} {H H' : Heap} (hR : ch_Rp g mem H) (ha : ch_inx g a) (hz : H'.size = H.size) (ho : ∀ q, q ≠ ch_adr g a → H'[q]? = H[q]?) (hc : ch_cell g mem' a H') (hm : ∀ b, b ≠ a → mem' b = mem b) : ch_Rp g mem' H' := by
  refine ⟨by rw [hz]; exact hR.1, fun q hq => ?_, fun b hb => ?_, hR.2.2.2⟩
  · rw [ho q (fun e => hq.2 a ha e.symm)]
    exact hR.2.1 q hq
  · by_cases e : b = a
    · rw [e]; exact hc
    · exact ch_cell_eq (hm b e) (ho _ (fun q => e (hR.2.2.2.1 b a hb ha q))) (hR.2.2.1 b hb)
def ch_wr (mem : ch_M) (a : ch_Ad) (k : Nat) (x : Int32) : ch_M := fun b i => if b = a ∧ i = k then x else mem b i
theorem ch_wr_ne {mem : ch_M} {a b : ch_Ad} {k : Nat} {x : Int32} (h : b ≠ a) : ch_wr mem a k x b = mem b := by
  funext i
  unfold ch_wr
  rw [if_neg (fun q => h q.1)]
theorem ch_wr_at {mem : ch_M} {a : ch_Ad} {k : Nat} {x : Int32} (i : Nat) : ch_wr mem a k x a i = if i = k then x else mem a i := by
  unfold ch_wr
  by_cases e : i = k
  · rw [if_pos ⟨rfl, e⟩, if_pos e]
  · rw [if_neg (fun q => e q.2), if_neg e]
end
section
/-- a field's entry of the class own: field k of class ci -/
def ch_FL (own : String) (idx ci k : Nat) : Prop := ∃ (C : String) (T : u_T) (N : Nat), ch_Cl ci C T N ∧ k < N ∧ (Cond.fieldLink own idx (T k).1 (T k).2.1 (T k).2.2.1 ∈ ch_good ∨ ∃ host, Cond.fieldLinkNest own idx (T k).1 (T k).2.1 (T k).2.2.1 host ∈ ch_oth)
/-- .. one that may be written with an int -/
def ch_FP (own : String) (idx ci k : Nat) (ty : FieldType) : Prop := ∃ (C : String) (T : u_T) (N : Nat), ch_Cl ci C T N ∧ k < N ∧ (Cond.fieldLink own idx (T k).1 (T k).2.1 (T k).2.2.1 ∈ ch_good ∨ ∃ host, Cond.fieldLinkNest own idx (T k).1 (T k).2.1 (T k).2.2.1 host ∈ ch_oth) ∧ (T k).2.2.2 = false ∧ parseFieldDescriptor (T k).2.2.1 = some ty
theorem ch_oth_on {w : Cond} (h : w ∈ ch_oth) : w.onTables = true := by
  have h1 : ch_isO w = true := (List.mem_filter.mp h).2
  cases w with
  | fieldLinkNest => rfl
  | methodLinkNest => rfl
  | castable => rfl
  | declares => rfl
  | _ => cases h1
theorem ch_Cl_lt {ci N : Nat} {C : String} {T : u_T} (h : ch_Cl ci C T N) : ci < 10 := (List.getElem?_eq_some_iff.mp h.1).1
theorem ch_rf_inm {ci k j : Nat} {a : ch_Ad} (h : ch_in (ci, j, 0)) (hr : ch_rf ci k j = some a) : ch_in a := by
  obtain ⟨h1, h2, h3⟩ := h
  dsimp only at h1 h2
  unfold ch_rf at hr
  split at hr
  · split at hr
    all_goals first | (cases hr; exact ⟨by decide, by decide, by decide⟩) | cases hr
  · split at hr
    · cases hr
      exact ⟨by show 1 ≤ 8; decide, h2, by show k + 1 < 9; omega⟩
    · cases hr
  · split at hr
    · cases hr
      exact ⟨by show 2 ≤ 8; decide, h2, by show 1 < 2; decide⟩
    · cases hr
  · split at hr
    · cases hr
      exact ⟨by decide, by decide, by decide⟩
    · cases hr
  · split at hr
    · cases hr
      exact ⟨by show 5 ≤ 8; decide, h2, by show 1 < 2; decide⟩
    · cases hr
  · split at hr
    · cases hr
      exact ⟨by show 6 ≤ 8; decide, h2, by show 1 < 2; decide⟩
    · cases hr
  · split at hr
    · cases hr
      exact ⟨by show 8 ≤ 8; decide, h2, by show k + 1 < 4; omega⟩
    · cases hr
  · exact absurd h1 (by decide)
  · cases hr
theorem ch_rf_in {g : ch_G} {ci k j : Nat} {a : ch_Ad} (hw : ch_gw g) (h : ch_inx g (ci, j, 0)) (hr : ch_rf ci k j = some a) : ch_inx g a := by
  rcases h with h | h
  · exact Or.inl (ch_rf_inm h hr)
  · rcases hw.2.2.2 _ h with e | e
    · have e : ci = 9 := e
      subst e
      have hr : (if k = 0 then some (9, j, 1) else none) = some a := hr
      by_cases hk : k = 0
      · rw [if_pos hk] at hr
        cases hr
        exact Or.inr (hw.2.2.1 j h)
      · rw [if_neg hk] at hr
        cases hr
    · have e : ci = 14 := e
      subst e
      cases hr
theorem ch_ok_in {g : ch_G} {a : ch_Ad} (h : ch_ok g (.inr a)) (h1 : a.1 ≤ 10 ∨ a.1 = 14) : ch_inx g a := by
  rcases h a rfl with h | h | ⟨i, -, h | h⟩ | ⟨i, -, h⟩
  · exact h
  · rw [h] at h1; exact absurd h1 (by decide)
  · rw [h] at h1; exact absurd h1 (by simp)
  · rw [h] at h1; exact absurd h1 (by simp)
  · rw [h] at h1; exact absurd h1 (by simp)
theorem ch_fl_pad (f : Nat → Value) (N k : Nat) (h : k < N) : ((List.range N).map f)[k]? = some (f k) := by
  rw [List.getElem?_map, List.getElem?_range h]
  rfl
section CHH
variable {g : ch_G} {f : ch_MI} {R : Room} {E : ch_En} {pc : Nat} {ls : ch_LT} {rest : List ch_V} {mem : ch_M} {kc : Nat}
theorem ch_get {idx ci j k : Nat} {v : ch_V} (hd : decode (ch_bc f) pc = .ok (.getfield idx, 3)) (hl : ch_FL (ch_nm f).cls idx ci k) (hv : ch_gv mem ci j k = v) (kk : ch_J g f R E (pc + 3) ls (v :: rest) mem kc) : ch_J g f R E pc ls (.inr (ci, j, 0) :: rest) mem kc := by
  subst hv
  refine ch_go (fun p e s m args below meth c H locs lm Q hF hR hS ho hs hL q => ?_) kk
  obtain ⟨C, T, N, hcl, hk, hlink⟩ := hl
  have hci := ch_Cl_lt hcl
  have hin : ch_inx g (ci, j, 0) := ch_ok_in (ch_okh hs) (Or.inl (by show ci ≤ 10; omega))
  obtain ⟨r, hr, hob⟩ := hR.2.2.1 _ hin
  have hr' : r = (C, T, N) := Option.some.inj (hr.symm.trans hcl.1)
  subst hr'
  have hP : va_P (ch_dC g, ch_dI g) ch_cls [(ch_adr g (ci, j, 0), .inr (ci, (List.range N).map (fun k => ch_tr g (ch_gv mem ci j k))))] H := by
    intro i x hx
    have hi : i < 1 := (List.getElem?_eq_some_iff.mp hx).1
    have : i = 0 := by omega
    subst this
    cases hx
    exact ⟨_, hr, hob.to (fun i hi => by simp only [vp_V, List.getD_eq_getElem?_getD]; rw [ch_fl_pad _ _ _ hi]; rfl)⟩
  have hok : ch_ok g (ch_gv mem ci j k) := by
    intro a ha
    unfold ch_gv at ha
    cases hrf : ch_rf ci k j with
    | none => rw [hrf] at ha; cases ha
    | some b =>
      rw [hrf] at ha
      cases ha
      exact Or.inl (ch_rf_in hR.2.2.2 hin hrf)
  have q' := q (ch_ok2 hok (ch_ok0 hs))
  rcases hlink with h | ⟨host, h⟩
  · exact va_get (D := (ch_dC g, ch_dI g)) hF.1 hF.2.1 hF.2.2.2.2.2.1 hcl.2.1 hF.2.2.2.2.1 hF.2.2.2.2.2.2.1.1 hP 0 rfl hcl.1 k hk (hF.2.2.2.2.2.1 _ h) (fun x hx => hx) (ch_fl_pad _ _ _ hk) hd q'
  · exact va_getN (D := (ch_dC g, ch_dI g)) (host := host) hF.1 hF.2.1 hF.2.2.2.2.2.1 hcl.2.1 hF.2.2.2.2.1 hF.2.2.2.2.2.2.1.1 hP 0 rfl hcl.1 k hk (va_Nw.use (ch_oth_on h) (hF.2.2.2.2.2.2.1.2.1 _ h)) (fun x hx => hx) (ch_fl_pad _ _ _ hk) hd q'
theorem ch_put {idx ci j k : Nat} {x : Int32} {ty : FieldType} (hd : decode (ch_bc f) pc = .ok (.putfield idx, 3)) (hl : ch_FP (ch_nm f).cls idx ci k ty) (hrf : ch_rf ci k j = none) (hn : narrow ty (.int x) = .int x) (hfit : fits ty (.int x) = true) (kk : ch_J g f R E (pc + 3) ls rest (ch_wr mem (ci, j, 0) k x) kc) : ch_J g f R E pc ls (.inl (.int x) :: .inr (ci, j, 0) :: rest) mem kc := by
  intro p e s m args below meth c H locs lm hF hR hS ho hs hL
  obtain ⟨C, T, N, hcl, hk, hlink, hfin, hty⟩ := hl
  have hci := ch_Cl_lt hcl
  have hin : ch_inx g (ci, j, 0) := ch_ok_in (ch_okh (ch_ok0 hs)) (Or.inl (by show ci ≤ 10; omega))
  obtain ⟨r, hr, hob⟩ := hR.2.2.1 _ hin
  have hr' : r = (C, T, N) := Option.some.inj (hr.symm.trans hcl.1)
  subst hr'
  obtain ⟨ty0, hty0⟩ := hcl.2.2.1
  have hK := hF.2.2.2.2.2.2.1.1
  have hap := va_apart (D := (ch_dC g, ch_dI g)) (own := (ch_nm f).cls) hF.2.2.2.2.2.1 hcl.2.1 ty0 hty0 hcl.2.2.2 hK hcl.1
  obtain ⟨cell, q1, q2, q3, q4⟩ := hob
  obtain ⟨hSl, hfc, kC, hkC, hkind⟩ := hK.1 ci _ hcl.1
  obtain ⟨cf, kf, fi, fd, hi, hsl⟩ := hSl k hk
  have hlay := hF.2.2.2.2.2.1 _ (hcl.2.1 _ (u_in_lay hk))
  unfold u_lay at hlay
  rw [if_neg (by rw [hfin]; decide)] at hlay
  have hst := (u_facts hfc hkC (u_lays hF.2.2.2.2.2.1 hcl.2.1 hk) hi).1
  have h6 := u_store hfc hkC hkind hlay hi hty hn hfit
  have hi' : s.fieldFound? (T k).1 (T k).2.1 (T k).2.2.1 = some (cf, kf, fi, fd) := hi
  have fin : ∀ H' : Heap, H'[ch_adr g (ci, j, 0)]? = some (cell.setSlot fd.slot (.int x)) → H'.size = H.size → (∀ q, q ≠ ch_adr g (ci, j, 0) → H'[q]? = H[q]?) → W p (ch_l g) e R s m args below meth c H' (locs ++ [⟨ch_adr g (ci, j, 0), fd.slot⟩]) kc (6 * kc) (E s args below) (F0 m (pc + 3) lm (rest.map (ch_tr g))) := by
    intro H' e1 e2 e3
    refine kk p e s m args below meth c H' _ lm hF (ch_Rp_upd hR hin e2 e3 ?_ (fun b hb => ch_wr_ne hb)) (hS.put e2 e3 (ch_adr_A hR hin)) ho (ch_ok0 (ch_ok0 hs)) hL
    refine ⟨_, hr, t_OB.to (V := updV (fun k => ch_tr g (ch_gv mem ci j k)) k (.int x)) ⟨_, e1, q2, q3, ?_⟩ (fun i _ => ?_)⟩
    · rw [hsl]
      exact t_set q4 hap hk _
    · by_cases e : i = k
      · subst e
        simp only [updV, if_true, ch_gv, hrf, ch_tr]
        rw [ch_wr_at, if_pos rfl]
      · simp only [updV, if_neg e, ch_gv]
        cases ch_rf ci i j with
        | none => simp only [ch_tr]; rw [ch_wr_at, if_neg e]
        | some b => rfl
  rcases hlink with h | ⟨host, h⟩
  · exact W.putK hF.1 hF.2.1 (f := fd) ⟨hF.2.2.2.2.1, hF.2.2.2.2.2.1 _ h, ⟨_, _, _, hi'⟩, hst⟩ (by rw [q2]; exact h6) q1 q3 (by rw [hsl]; exact k2_hasslot (q4 k hk)) rfl rfl hd fin
  · exact va_WputK hF.1 hF.2.1 (f := fd) hF.2.2.2.2.1 (va_Nw.use (ch_oth_on h) (hF.2.2.2.2.2.2.1.2.1 _ h)) hi' hst (by rw [q2]; exact h6) q1 q3 (by rw [hsl]; exact k2_hasslot (q4 k hk)) rfl rfl hd fin
theorem ch_arr {H : Heap} {ci j c : Nat} (hR : ch_Rp g mem H) (h : ch_ok g (.inr (ci, j, c + 1))) (hci : ci ≤ 10 ∨ ci = 14) : ch_inx g (ci, j, c + 1) ∧ H[ch_adr g (ci, j, c + 1)]? = some (arrV (ch_cA g (ch_ak ci (c + 1)).1) (ch_ak ci (c + 1)).2 (fun k => ch_ev g mem (ci, j, c + 1) (ch_ak ci (c + 1)).1 k)) :=
  ⟨ch_ok_in h hci, hR.2.2.1 _ (ch_ok_in h hci)⟩
end CHH
end
section
theorem ch_arrK {g : ch_G} {s : State} (hW : ch_WV g s) {t : Nat} (ht : t < 6) : ArrOfT s (ch_cA g t) (ch_ty t) := by
  have h := hW.1.2
  match t, ht with
  | 0, _ => exact (h 0 _ rfl).1
  | 1, _ => exact (h 1 _ rfl).1
  | 2, _ => exact (h 2 _ rfl).1
  | 3, _ => exact (h 3 _ rfl).1
  | 4, _ => exact (h 4 _ rfl).1
  | 5, _ => exact (h 5 _ rfl).1
theorem ch_nc_of (x : Int32) : narrow .char (.int x) = .int (vp_nar .char x) := by rw [vp_nar_char]; rfl
section CHA
variable {g : ch_G} {f : ch_MI} {R : Room} {E : ch_En} {pc : Nat} {ls : ch_LT} {rest : List ch_V} {mem : ch_M} {kc : Nat} {ci j c n : Nat} {x : Int32}
theorem ch_inv {x : Int32} {n : Nat} (h : vp_in x n) (cA : ClassId) (F : Nat → Value) : ¬ (x < 0 ∨ (arrV cA n F).slots.size ≤ x.toNatClampNeg) := by rw [arrV_size]; exact h
theorem ch_inr {x : Int32} {n : Nat} (h : vp_in x n) (cA : ClassId) (F : Nat → Value) : (arrV cA n F).slots[x.toNatClampNeg]? = some (F x.toNatClampNeg) := arrV_read _ _ (Nat.not_le.mp fun q => h (Or.inr q))
theorem ch_iald (hd : decode (ch_bc f) pc = .ok (.iaload, 1)) (hci : ci ≤ 10 ∨ ci = 14) (hk : ch_ak ci (c + 1) = (0, n)) (hx : vp_in x n) (kk : ch_J g f R E (pc + 1) ls (.inl (.int (mem (ci, j, c + 1) x.toNatClampNeg)) :: rest) mem kc) : ch_J g f R E pc ls (.inl (.int x) :: .inr (ci, j, c + 1) :: rest) mem kc := by
  refine ch_go (fun p e s m args below meth c H locs lm Q hF hR hS ho hs hL q => ?_) kk
  obtain ⟨hin, hc⟩ := ch_arr hR (ch_okh (ch_ok0 hs)) hci
  rw [hk] at hc
  exact W.iald hF.1 hF.2.1 hc (ch_arrK hF.2.2.2.2.2.2.1 (t := 0) (by decide) _ _) (fun q => by cases q) (ch_inv hx _ _) (ch_inr hx _ _) rfl rfl hd (q (ch_ok1 (ch_ok0 (ch_ok0 hs))))
theorem ch_cald (hd : decode (ch_bc f) pc = .ok (.caload, 1)) (hci : ci ≤ 10 ∨ ci = 14) (hk : ch_ak ci (c + 1) = (1, n)) (hx : vp_in x n) (kk : ch_J g f R E (pc + 1) ls (.inl (.int (mem (ci, j, c + 1) x.toNatClampNeg)) :: rest) mem kc) : ch_J g f R E pc ls (.inl (.int x) :: .inr (ci, j, c + 1) :: rest) mem kc := by
  refine ch_go (fun p e s m args below meth c H locs lm Q hF hR hS ho hs hL q => ?_) kk
  obtain ⟨hin, hc⟩ := ch_arr hR (ch_okh (ch_ok0 hs)) hci
  rw [hk] at hc
  exact W.cald hF.1 hF.2.1 hc (ch_arrK hF.2.2.2.2.2.2.1 (t := 1) (by decide) _ _) (fun q => by cases q) (ch_inv hx _ _) (ch_inr hx _ _) rfl rfl hd (q (ch_ok1 (ch_ok0 (ch_ok0 hs))))
theorem ch_lald (hd : decode (ch_bc f) pc = .ok (.laload, 1)) (hci : ci ≤ 10 ∨ ci = 14) (hk : ch_ak ci (c + 1) = (2, n)) (hx : vp_in x n) (kk : ch_J g f R E (pc + 1) ls (.inl (.long (ch_lw (mem (ci, j, c + 1) (2 * x.toNatClampNeg)) (mem (ci, j, c + 1) (2 * x.toNatClampNeg + 1)))) :: rest) mem kc) : ch_J g f R E pc ls (.inl (.int x) :: .inr (ci, j, c + 1) :: rest) mem kc := by
  refine ch_go (fun p e s m args below meth c H locs lm Q hF hR hS ho hs hL q => ?_) kk
  obtain ⟨hin, hc⟩ := ch_arr hR (ch_okh (ch_ok0 hs)) hci
  rw [hk] at hc
  exact W.lald hF.1 hF.2.1 hc (ch_arrK hF.2.2.2.2.2.2.1 (t := 2) (by decide) _ _) (fun q => by cases q) (ch_inv hx _ _) (ch_inr hx _ _) rfl rfl hd (q (ch_ok1 (ch_ok0 (ch_ok0 hs))))
/-- the ring's yards -/
theorem ch_aald (hd : decode (ch_bc f) pc = .ok (.aaload, 1)) (hx : vp_in x 8) (kk : ch_J g f R E (pc + 1) ls (.inr (1, 4 + x.toNatClampNeg, 0) :: rest) mem kc) : ch_J g f R E pc ls (.inl (.int x) :: .inr (2, 0, 1) :: rest) mem kc := by
  refine ch_go (fun p e s m args below meth c H locs lm Q hF hR hS ho hs hL q => ?_) kk
  obtain ⟨hin, hc⟩ := ch_arr (c := 0) hR (ch_okh (ch_ok0 hs)) (Or.inl (by decide))
  have hlt : x.toNatClampNeg < 8 := Nat.not_le.mp fun q => hx (Or.inr q)
  have hok : ch_ok g (.inr (1, 4 + x.toNatClampNeg, 0)) := by
    intro a ha
    cases ha
    exact Or.inl (Or.inl ⟨by show 1 ≤ 8; decide, by show 4 + x.toNatClampNeg < 12; omega, by show 0 < 9; decide⟩)
  exact W.aald (ty := .object "ChalkWarrants$Yard") hF.1 hF.2.1 hc (ch_arrK hF.2.2.2.2.2.2.1 (t := 4) (by decide) _ _) rfl (fun q => by cases q) (ch_inv hx _ _) (ch_inr hx _ _) rfl rfl hd (q (ch_ok2 hok (ch_ok0 (ch_ok0 hs))))
theorem ch_alen {t : Nat} {v : Int32} (hd : decode (ch_bc f) pc = .ok (.arraylength, 1)) (hci : ci ≤ 10 ∨ ci = 14) (ht : t < 6) (hk : ch_ak ci (c + 1) = (t, n)) (hv : Int32.ofNat n = v) (kk : ch_J g f R E (pc + 1) ls (.inl (.int v) :: rest) mem kc) : ch_J g f R E pc ls (.inr (ci, j, c + 1) :: rest) mem kc := by
  refine ch_go (fun p e s m args below meth c H locs lm Q hF hR hS ho hs hL q => ?_) kk
  obtain ⟨hin, hc⟩ := ch_arr hR (ch_okh hs) hci
  rw [hk] at hc
  exact W.alen (n := v) hF.1 hF.2.1 hc (ch_arrK hF.2.2.2.2.2.2.1 ht _ _) (by rw [arrV_size]; exact hv) rfl rfl hd (q (ch_ok1 (ch_ok0 hs)))
theorem ch_slen (hd : decode (ch_bc f) pc = .ok (.arraylength, 1)) (kk : ch_J g f R E (pc + 1) ls (.inl (.int (Int32.ofNat (ch_scr g).2.1)) :: rest) mem kc) : ch_J g f R E pc ls (.inr (11, 0, 0) :: rest) mem kc := by
  refine ch_go (fun p e s m args below meth c H locs lm Q hF hR hS ho hs hL q => ?_) kk
  obtain ⟨scr, h1, h2, h3, h4, h5⟩ := hF.2.2.2.2.2.2.1.2.2.2.2.2.1
  have hb := hF.2.2.2.2.2.2.1.2.2.2.2.2.2.1
  exact W.alen (n := Int32.ofNat (ch_scr g).2.1) hF.1 hF.2.1 (show H[ch_adr g (11, 0, 0)]? = some scr by rw [show ch_adr g (11, 0, 0) = (ch_scr g).1 from rfl, hR.2.1 _ hb]; exact h1) h2 (by rw [h4] <;> rfl) rfl rfl hd (q (ch_ok1 (ch_ok0 hs)))
theorem ch_sld (hd : decode (ch_bc f) pc = .ok (.iaload, 1)) (hx : vp_in x (ch_scr g).2.1) (kk : ch_J g f R E (pc + 1) ls (.inl (.int ((ch_scr g).2.2 x.toNatClampNeg)) :: rest) mem kc) : ch_J g f R E pc ls (.inl (.int x) :: .inr (11, 0, 0) :: rest) mem kc := by
  refine ch_go (fun p e s m args below meth c H locs lm Q hF hR hS ho hs hL q => ?_) kk
  obtain ⟨scr, h1, h2, h3, h4, h5⟩ := hF.2.2.2.2.2.2.1.2.2.2.2.2.1
  have hb := hF.2.2.2.2.2.2.1.2.2.2.2.2.2.1
  exact W.iald (v := .int ((ch_scr g).2.2 x.toNatClampNeg)) hF.1 hF.2.1 (show H[ch_adr g (11, 0, 0)]? = some scr by rw [show ch_adr g (11, 0, 0) = (ch_scr g).1 from rfl, hR.2.1 _ hb]; exact h1) h2 h3 (by rw [h4]; exact hx) (h5 _ (Nat.not_le.mp fun q => hx (Or.inr q))) rfl rfl hd (q (ch_ok1 (ch_ok0 (ch_ok0 hs))))
/-- behind a store into an array -/
theorem ch_st {p : Program} {e : Env} {s : State} {m : MethodId} {args : Array Value} {below : List Frame} {meth : Method} {cc : Code} {H H' : Heap} {locs : List Loc} {lm : Array Slot} {mem' : ch_M} {i : Nat} {v : Value}
    (hF : ch_FR g f p s m args meth cc) (hR : ch_Rp g mem H) (hS : va_S (ch_A g) s.heap H locs) (ho : ∀ o ∈ ls, ∀ v, o = some v → ch_ok g v) (hs : ∀ v ∈ rest, ch_ok g v) (hL : ch_LR g (ch_ml f) ls lm) (hin : ch_inx g (ci, j, c + 1))
    (e1 : H'[ch_adr g (ci, j, c + 1)]? = some ((arrV (ch_cA g (ch_ak ci (c + 1)).1) (ch_ak ci (c + 1)).2 (fun k => ch_ev g mem (ci, j, c + 1) (ch_ak ci (c + 1)).1 k)).setSlot i v)) (e2 : H'.size = H.size) (e3 : ∀ q, q ≠ ch_adr g (ci, j, c + 1) → H'[q]? = H[q]?)
    (hm : ∀ b, b ≠ (ci, j, c + 1) → mem' b = mem b) (hv : ∀ k, updV (fun k => ch_ev g mem (ci, j, c + 1) (ch_ak ci (c + 1)).1 k) i v k = ch_ev g mem' (ci, j, c + 1) (ch_ak ci (c + 1)).1 k)
    (kk : ch_J g f R E pc ls rest mem' kc) : W p (ch_l g) e R s m args below meth cc H' (locs ++ [⟨ch_adr g (ci, j, c + 1), i⟩]) kc (6 * kc) (E s args below) (F0 m pc lm (rest.map (ch_tr g))) := by
  refine kk p e s m args below meth cc H' _ lm hF (ch_Rp_upd hR hin e2 e3 ?_ hm) (hS.put e2 e3 (ch_adr_A hR hin)) ho hs hL
  show H'[_]? = _
  rw [e1, arrV_store]
  congr 2
  exact funext hv
theorem ch_iast {y : Int32} (hd : decode (ch_bc f) pc = .ok (.iastore, 1)) (hci : ci ≤ 10 ∨ ci = 14) (hk : ch_ak ci (c + 1) = (0, n)) (hx : vp_in x n) (kk : ch_J g f R E (pc + 1) ls rest (ch_wr mem (ci, j, c + 1) x.toNatClampNeg y) kc) : ch_J g f R E pc ls (.inl (.int y) :: .inl (.int x) :: .inr (ci, j, c + 1) :: rest) mem kc := by
  intro p e s m args below meth cc H locs lm hF hR hS ho hs hL
  obtain ⟨hin, hc⟩ := ch_arr hR (ch_okh (ch_ok0 (ch_ok0 hs))) hci
  have hA := ch_arrK hF.2.2.2.2.2.2.1 (t := 0) (by decide)
  refine W.iast hF.1 hF.2.1 hc (by rw [hk]; exact hA _ _) (fun q => by cases q) (by rw [hk]; exact ch_inv hx _ _) rfl rfl hd (fun H' e1 e2 e3 => ch_st hF hR hS ho (ch_ok0 (ch_ok0 (ch_ok0 hs))) hL hin e1 e2 e3 (fun b hb => ch_wr_ne hb) (fun k => ?_) kk)
  rw [hk]
  show updV (fun k => Value.int (mem (ci, j, c + 1) k)) _ _ k = .int (ch_wr mem (ci, j, c + 1) _ y (ci, j, c + 1) k)
  rw [ch_wr_at]
  unfold updV
  split <;> rfl
theorem ch_cast {y : Int32} (hd : decode (ch_bc f) pc = .ok (.castore, 1)) (hci : ci ≤ 10 ∨ ci = 14) (hk : ch_ak ci (c + 1) = (1, n)) (hx : vp_in x n) (kk : ch_J g f R E (pc + 1) ls rest (ch_wr mem (ci, j, c + 1) x.toNatClampNeg (vp_nar .char y)) kc) : ch_J g f R E pc ls (.inl (.int y) :: .inl (.int x) :: .inr (ci, j, c + 1) :: rest) mem kc := by
  intro p e s m args below meth cc H locs lm hF hR hS ho hs hL
  obtain ⟨hin, hc⟩ := ch_arr hR (ch_okh (ch_ok0 (ch_ok0 hs))) hci
  have hA := ch_arrK hF.2.2.2.2.2.2.1 (t := 1) (by decide)
  refine W.cast hF.1 hF.2.1 hc (by rw [hk]; exact hA _ _) (fun q => by cases q) (by rw [hk]; exact ch_inv hx _ _) rfl rfl hd (fun H' e1 e2 e3 => ch_st hF hR hS ho (ch_ok0 (ch_ok0 (ch_ok0 hs))) hL hin e1 e2 e3 (fun b hb => ch_wr_ne hb) (fun k => ?_) kk)
  rw [hk, ch_nc_of]
  show updV (fun k => Value.int (mem (ci, j, c + 1) k)) _ _ k = .int (ch_wr mem (ci, j, c + 1) _ _ (ci, j, c + 1) k)
  rw [ch_wr_at]
  unfold updV
  split <;> rfl
theorem ch_last {y z : Int32} {w : Int64} (hd : decode (ch_bc f) pc = .ok (.lastore, 1)) (hci : ci ≤ 10 ∨ ci = 14) (hk : ch_ak ci (c + 1) = (2, n)) (hx : vp_in x n) (hw : ch_lw y z = w) (kk : ch_J g f R E (pc + 1) ls rest (ch_wr (ch_wr mem (ci, j, c + 1) (2 * x.toNatClampNeg) y) (ci, j, c + 1) (2 * x.toNatClampNeg + 1) z) kc) : ch_J g f R E pc ls (.inl (.long w) :: .inl (.int x) :: .inr (ci, j, c + 1) :: rest) mem kc := by
  intro p e s m args below meth cc H locs lm hF hR hS ho hs hL
  obtain ⟨hin, hc⟩ := ch_arr hR (ch_okh (ch_ok0 (ch_ok0 hs))) hci
  have hA := ch_arrK hF.2.2.2.2.2.2.1 (t := 2) (by decide)
  refine W.last hF.1 hF.2.1 hc (by rw [hk]; exact hA _ _) (fun q => by cases q) (by rw [hk]; exact ch_inv hx _ _) rfl rfl hd (fun H' e1 e2 e3 => ch_st hF hR hS ho (ch_ok0 (ch_ok0 (ch_ok0 hs))) hL hin e1 e2 e3 (fun b hb => by rw [ch_wr_ne hb, ch_wr_ne hb]) (fun k => ?_) kk)
  rw [hk]
  show updV (fun k => Value.long (ch_lw (mem (ci, j, c + 1) (2 * k)) (mem (ci, j, c + 1) (2 * k + 1)))) _ _ k = .long (ch_lw (ch_wr (ch_wr mem (ci, j, c + 1) _ y) (ci, j, c + 1) _ z (ci, j, c + 1) (2 * k)) (ch_wr (ch_wr mem (ci, j, c + 1) _ y) (ci, j, c + 1) _ z (ci, j, c + 1) (2 * k + 1)))
  rw [ch_wr_at, ch_wr_at, ch_wr_at, ch_wr_at]
  unfold updV
  by_cases e : k = x.toNatClampNeg
  · rw [if_pos e, e, if_neg (by omega), if_pos rfl, if_pos rfl, hw]
  · rw [if_neg e, if_neg (by omega), if_neg (by omega), if_neg (by omega), if_neg (by omega)]
/-- bytes -/
theorem ch_bald2 (hd : decode (ch_bc f) pc = .ok (.baload, 1)) (hci : ci ≤ 10 ∨ ci = 14) (hk : ch_ak ci (c + 1) = (5, n)) (hx : vp_in x n) (kk : ch_J g f R E (pc + 1) ls (.inl (.int (mem (ci, j, c + 1) x.toNatClampNeg)) :: rest) mem kc) : ch_J g f R E pc ls (.inl (.int x) :: .inr (ci, j, c + 1) :: rest) mem kc := by
  refine ch_go (fun p e s m args below meth c H locs lm Q hF hR hS ho hs hL q => ?_) kk
  obtain ⟨hin, hc⟩ := ch_arr hR (ch_okh (ch_ok0 hs)) hci
  rw [hk] at hc
  exact W.bald hF.1 hF.2.1 hc (ch_arrK hF.2.2.2.2.2.2.1 (t := 5) (by decide) _ _) (fun q => by cases q) (ch_inv hx _ _) (ch_inr hx _ _) rfl rfl hd (q (ch_ok1 (ch_ok0 (ch_ok0 hs))))
theorem ch_nb_of (x : Int32) : narrow .byte (.int x) = .int (vp_nar .byte x) := by rw [vp_nar_byte]; rfl
theorem ch_bast {y : Int32} (hd : decode (ch_bc f) pc = .ok (.bastore, 1)) (hci : ci ≤ 10 ∨ ci = 14) (hk : ch_ak ci (c + 1) = (5, n)) (hx : vp_in x n) (kk : ch_J g f R E (pc + 1) ls rest (ch_wr mem (ci, j, c + 1) x.toNatClampNeg (vp_nar .byte y)) kc) : ch_J g f R E pc ls (.inl (.int y) :: .inl (.int x) :: .inr (ci, j, c + 1) :: rest) mem kc := by
  intro p e s m args below meth cc H locs lm hF hR hS ho hs hL
  obtain ⟨hin, hc⟩ := ch_arr hR (ch_okh (ch_ok0 (ch_ok0 hs))) hci
  have hA := ch_arrK hF.2.2.2.2.2.2.1 (t := 5) (by decide)
  refine W.bast hF.1 hF.2.1 hc (by rw [hk]; exact hA _ _) (fun q => by cases q) (by rw [hk]; exact ch_inv hx _ _) rfl rfl hd (fun H' e1 e2 e3 => ch_st hF hR hS ho (ch_ok0 (ch_ok0 (ch_ok0 hs))) hL hin e1 e2 e3 (fun b hb => ch_wr_ne hb) (fun k => ?_) kk)
  rw [hk, ch_nb_of]
  show updV (fun k => Value.int (mem (ci, j, c + 1) k)) _ _ k = .int (ch_wr mem (ci, j, c + 1) _ _ (ci, j, c + 1) k)
  rw [ch_wr_at]
  unfold updV
  split <;> rfl
end CHA
end
section
def ch_RR (R : Room) (d : Nat) : Prop := d ≤ R.frames ∧ 128 * d + 64 ≤ R.locals
theorem ch_ws_good {f : ch_MI} (hf : ch_MF f) : GoodIn ch_good (ch_ws f) := by
  intro w hw
  rcases List.mem_cons.mp hw with h | h
  · rw [h]
    exact ⟨hf.1, good_of_word (List.mem_filter.mp hf.1).2⟩
  · exact ⟨h, good_of_word (List.mem_filter.mp h).2⟩
theorem ch_PC_blind {g : ch_G} {as : List ch_V} {mem : ch_M} : FrameBlind (ch_PC g as mem) := by
  intro a U fr mk h
  obtain ⟨h1, ⟨k1, k2, k3, k4, k5, k6, k7, k8, k9, k10⟩, h3, h4⟩ := h
  refine ⟨h1, ⟨va_K.moved (u := U) (U := U.calling fr mk a) (Vm.Alike.refl U.vm) k1, fun w hw => va_Nw.same (ch_oth_on hw) (u := U) (U := U.calling fr mk a) rfl (k2 w hw), k3, vx_Zq.moved (u := U) (U := U.calling fr mk a) (Vm.Alike.refl U.vm) k4, vx_Zq.moved (u := U) (U := U.calling fr mk a) (Vm.Alike.refl U.vm) k5, ch_X_moved (s := U) (U := U.calling fr mk a) (Vm.Alike.refl U.vm) k6, k7, k8, k9.same rfl, k10⟩, h3, h4⟩
/-- a static method, or one without handlers that is called on an object: by the kind of its word -/
def ch_SV (f : ch_MI) (own : String) (idx n : Nat) : Prop := ch_MF f ∧ ch_LK own idx f n
section CHC
variable {g : ch_G} {f : ch_MI} {R : Room} {E : ch_En} {pc : Nat} {ls : ch_LT} {rest : List ch_V} {mem : ch_M} {k : Nat}
/-- how it goes on behind a call -/
def ch_K (g : ch_G) (f : ch_MI) (R : Room) (E : ch_En) (pc : Nat) (ls : ch_LT) (rest : List ch_V) (k : Nat) : ch_O → ch_M → Prop := fun o mem =>
  (∀ v, o = .inl (some v) → ch_ok g v ∧ ch_J g f R E (pc + 3) ls (v :: rest) mem k) ∧ (o = .inl none → ch_J g f R E (pc + 3) ls rest mem k) ∧ ∀ n, o = .inr n → ch_X g f R E pc ls rest n mem k
theorem ch_run {p : Program} {e : Env} {s : State} {m : MethodId} {args a' : Array Value} {below : List Frame} {meth : Method} {c : Code} {H : Heap} {locs : List Loc} {lm : Array Slot} {st0 : List Value} {mc : Nat}
    (hr : vx_Run p (ch_l g) e R s m args below meth c H locs k (6 * k) mc (6 * mc) (F0 m pc lm st0) (rest.map (ch_tr g)) (ch_Qc g (ch_K g f R E pc ls rest (k + mc)) a') (ch_XC g (ch_K g f R E pc ls rest (k + mc))) (ch_A g))
    (hF : ch_FR g f p s m args meth c) (hS : va_S (ch_A g) s.heap H locs) (ho : ∀ o ∈ ls, ∀ v, o = some v → ch_ok g v) (hs : ∀ v ∈ rest, ch_ok g v) (hL : ch_LR g (ch_ml f) ls lm) :
    W p (ch_l g) e R s m args below meth c H locs k (6 * k) (E s args below) (F0 m pc lm st0) := by
  intro T hT X
  have e6 : 6 * (k + mc) = 6 * k + 6 * mc := by omega
  have key : ∀ (st₀ t T' : State) (L : List Loc), st₀.heap = H → (∀ q ∈ L, ch_A g q.base) → T'.heap = t.heap → va_F (ch_A g) st₀ t → va_S (ch_A g) s.heap T'.heap (locs ++ L) := by
    intro st₀ t T' L h0 hL e1 hq
    exact (vx_keep h0 e1 hS (fun q _ h => h) (fun q h => h) hL hq).2.2
  rcases hr T hT X with ⟨v, st₀, t, T', L, h0, X', hLc, e1, e2, ⟨v', mem', hv, hQ, hRp, hFr⟩, st⟩ | ⟨q, st₀, t, T', L, Ex, ce, h0, X', hLc, e1, e2, ⟨n, mem', hE, hn, hQ, hRp, hFr⟩, hce, hcv, hcl, st⟩
  · have hS' := key st₀ t T' L h0 hLc e1 hFr
    have hRp' : ch_Rp g mem' T'.heap := by rw [e1]; exact hRp
    cases hv
    rw [← e6] at X'
    cases v' with
    | none =>
      obtain ⟨t2, a1, b1⟩ := hQ.2.1 rfl p e s m args below meth c T'.heap (locs ++ L) lm hF hRp' hS' ho hs hL T' rfl X'
      exact ⟨t2, st t2 a1, b1⟩
    | some w =>
      obtain ⟨hz, hJ⟩ := hQ.1 w rfl
      obtain ⟨t2, a1, b1⟩ := hJ p e s m args below meth c T'.heap (locs ++ L) lm hF hRp' hS' ho (ch_ok2 hz hs) hL T' rfl X'
      exact ⟨t2, st t2 a1, b1⟩
  · have hS' := key st₀ t T' L h0 hLc e1 hFr
    have hRp' : ch_Rp g mem' T'.heap := by rw [e1]; exact hRp
    rw [← e6] at X'
    obtain ⟨t2, a1, b1⟩ := hQ.2.2 n rfl p e s m args below meth c T'.heap (locs ++ L) lm q ce hF hRp' hS' ho hL hn (by rw [e1]; exact hce) hcv (by rw [← hE]; exact hcl) T' rfl X'
    exact ⟨t2, st.trans a1, b1⟩
theorem ch_sum {g : ch_G} : ∀ (l : List ch_V), ((l.map (ch_tr g)).map fun v => v.category).sum = (l.map ch_cat).sum
  | [] => rfl
  | v :: l => by simp only [List.map_cons, List.sum_cons]; rw [ch_cat_tr, ch_sum l]
theorem ch_len {y : MethodName} {n : Nat} (h : (parseMethodDescriptor y.desc).map (fun d => d.parameters.length) = some n) : ∀ sig, parseMethodDescriptor y.desc = some sig → n = sig.parameters.length := by
  intro sig hs
  rw [hs] at h
  exact (Option.some.inj h).symm
theorem ch_ini (s : State) (y : String) (args a' : Array Value) (U : State) (h : (Cond.initialized y).before args s = true) (hW : s.WarmedH U.vm) : (Cond.initialized y).before a' U = true := word_at hW (Or.inl rfl) h
theorem ch_hb {f' : ch_MI} {own : String} {idx n : Nat} {s : State} {args : Array Value} (h : ch_SV f' own idx n) (hts : ∀ w ∈ ch_good, w.before args s = true) (hR : ch_RR R (ch_fr f' + 1)) :
    (ch_rm f').cells = ch_mc f' ∧ (ch_rm f').slots = 6 * ch_mc f' ∧ (ch_rm f').frames + 1 ≤ R.frames ∧ 8 + (ch_ml f' + 11) + (ch_rm f').locals ≤ R.locals ∧ (∀ w ∈ ch_ws f', ∀ (a' : Array Value) (U : State), s.WarmedH U.vm → w.before a' U = true) := by
  have h5 := h.1.2.2.2.2
  refine ⟨rfl, rfl, hR.1, ?_, pay_in hts (ch_ws_good h.1)⟩
  have := hR.2
  show 8 + (ch_ml f' + 11) + (128 * ch_fr f' + 64) ≤ R.locals
  omega
theorem ch_pre {f' : ch_MI} {as : List ch_V} {s : State} {H : Heap} {m : MethodId} {args : Array Value} {p : Program} {meth : Method} {c : Code} (hF : ch_FR g f p s m args meth c) (hR : ch_Rp g mem H) : ∀ U : State, U.heap = H → s.WarmedH U.vm → ch_PC g as mem (as.map (ch_tr g)).toArray U :=
  fun U hU hW => ⟨rfl, hF.2.2.2.2.2.2.1.warm hW, by rw [hU]; exact hR, by rw [hU]; exact hR.1⟩
/-- a method of an object of the world is called -/
theorem ch_callV {f' : ch_MI} {idx n ci j : Nat} {as : List ch_V} (hd : decode (ch_bc f) pc = .ok (.invokevirtual idx, 3)) (hsv : ch_SV f' (ch_nm f).cls idx n) (hi : Cond.instanceMethod (ch_nm f') ∈ ch_good) (hse : Cond.selects (ch_nm f').cls (ch_nm f') (ch_nm f') ∈ ch_good) (hhh : ch_hh f' = []) (hcl : (ch_cls[ci]?).map (fun r => r.1) = some (ch_nm f').cls)
    (hn : as.length = n) (hRR : ch_RR R (ch_fr f' + 1)) (hcat : (rest.map ch_cat).sum ≤ 8) (hcs : k + ch_mc f' ≤ R.cells ∧ 6 * k + 6 * ch_mc f' ≤ R.slots)
    (h : ch_C g f' (.inr (ci, j, 0) :: as) mem (ch_K g f R E pc ls rest (k + ch_mc f'))) : ch_J g f R E pc ls (as.reverse ++ .inr (ci, j, 0) :: rest) mem k := by
  intro p e s m args below meth c H locs lm hF hR hS ho hs hL
  obtain ⟨hrc, hrs, hfr, hlo, hws⟩ := ch_hb hsv hF.2.2.2.2.2.1 hRR
  have hts := hF.2.2.2.2.2.1
  have hci : ci < 10 := by
    cases hx : ch_cls[ci]? with
    | none => rw [hx] at hcl; cases hcl
    | some r => exact (List.getElem?_eq_some_iff.mp hx).1
  have hso : ∀ v ∈ (.inr (ci, j, 0) :: as : List ch_V), ch_ok g v := by
    intro v hv
    refine hs v ?_
    rcases List.mem_cons.mp hv with e | e
    · rw [e]; exact List.mem_append_right _ List.mem_cons_self
    · exact List.mem_append_left _ (List.mem_reverse.mpr e)
  have hs' : ∀ v ∈ rest, ch_ok g v := fun v hv => hs v (List.mem_append_right _ (List.mem_cons_of_mem _ hv))
  have hin : ch_inx g (ci, j, 0) := ch_ok_in (hso _ List.mem_cons_self) (Or.inl (by show ci ≤ 10; omega))
  obtain ⟨r, hr, cell, c1, c2, c3, -⟩ := hR.2.2.1 _ hin
  have hrn : r.1 = (ch_nm f').cls := by rw [hr] at hcl; exact Option.some.inj hcl
  have hM := h hF.2.2.2.2.2.2.2.2.2.1 hso
  have hcw : ch_cw f' = Cond.code (ch_nm f') (ch_bc f') (ch_ml f') (ch_rt f') := by unfold ch_cw; rw [hhh]
  have hcode := hsv.1.1
  rw [hcw] at hcode
  refine ch_run (vx_runV (As := as.map (ch_tr g)) (C := (ch_nm f').cls) (rm := ch_rm f') (n := n) (bytes := ch_bc f') (maxL := ch_ml f') (ret := ch_rt f') ⟨hF.1, hF.2.1, hF.2.2.2.1, hF.2.2.2.2.1, hts⟩ hM ⟨⟨hrc, hrs, hfr, hlo, hws, by unfold ch_ws; rw [hcw]; exact List.mem_cons_self, hts _ hcode, hts _ hsv.1.2.1, hsv.1.2.2.1, ch_len hsv.2.2, hts _ hsv.2.1⟩, hts _ hi, hts _ hse⟩
    ⟨ch_PC_blind, ⟨cell, c1, by rw [c3]; rfl, by rw [c2, ← hrn]; exact (hF.2.2.2.2.2.2.1.1.1 ci r hr).2.1⟩, ch_pre (f' := f') hF hR⟩ rfl (by rw [List.length_map]; exact hn) hL.1 ?_ (by show 2 * 0 + _ ≤ 8; rw [ch_sum]; omega) hd hcs) hF hS ho hs' hL
  show (as.reverse ++ .inr (ci, j, 0) :: rest).map (ch_tr g) = _
  rw [List.map_append, List.map_reverse, List.map_cons]
  rfl
/-- a static method without handlers is called -/
theorem ch_callS {f' : ch_MI} {idx n : Nat} {as : List ch_V} (hd : decode (ch_bc f) pc = .ok (.invokestatic idx, 3)) (hsv : ch_SV f' (ch_nm f).cls idx n) (hi : Cond.static (ch_nm f') ∈ ch_good) (hhh : ch_hh f' = [])
    (hn : as.length = n) (hRR : ch_RR R (ch_fr f' + 1)) (hcat : (rest.map ch_cat).sum ≤ 8) (hcs : k + ch_mc f' ≤ R.cells ∧ 6 * k + 6 * ch_mc f' ≤ R.slots)
    (h : ch_C g f' as mem (ch_K g f R E pc ls rest (k + ch_mc f'))) : ch_J g f R E pc ls (as.reverse ++ rest) mem k := by
  intro p e s m args below meth c H locs lm hF hR hS ho hs hL
  obtain ⟨hrc, hrs, hfr, hlo, hws⟩ := ch_hb hsv hF.2.2.2.2.2.1 hRR
  have hts := hF.2.2.2.2.2.1
  have hso : ∀ v ∈ as, ch_ok g v := fun v hv => hs v (List.mem_append_left _ (List.mem_reverse.mpr hv))
  have hs' : ∀ v ∈ rest, ch_ok g v := fun v hv => hs v (List.mem_append_right _ hv)
  have hM := h hF.2.2.2.2.2.2.2.2.2.1 hso
  have hcw : ch_cw f' = Cond.code (ch_nm f') (ch_bc f') (ch_ml f') (ch_rt f') := by unfold ch_cw; rw [hhh]
  have hcode := hsv.1.1
  rw [hcw] at hcode
  refine ch_run (vx_runS (As := as.map (ch_tr g)) (rm := ch_rm f') (n := n) (bytes := ch_bc f') (maxL := ch_ml f') (ret := ch_rt f') ⟨hF.1, hF.2.1, hF.2.2.2.1, hF.2.2.2.2.1, hts⟩ hM ⟨⟨hrc, hrs, hfr, hlo, hws, by unfold ch_ws; rw [hcw]; exact List.mem_cons_self, hts _ hcode, hts _ hsv.1.2.1, hsv.1.2.2.1, ch_len hsv.2.2, hts _ hsv.2.1⟩, hts _ hi⟩
    ⟨ch_PC_blind, ch_pre (f' := f') hF hR⟩ rfl (by rw [List.length_map]; exact hn) hL.1 ?_ (by show 2 * 0 + _ ≤ 8; rw [ch_sum]; omega) hd hcs) hF hS ho hs' hL
  show (as.reverse ++ rest).map (ch_tr g) = _
  rw [List.map_append, List.map_reverse]
/-- a static method with handlers is called -/
theorem ch_callSX {f' : ch_MI} {idx n : Nat} {as : List ch_V} {hx : Nat × Nat × Nat × Nat} {hl : List (Nat × Nat × Nat × Nat)} (hd : decode (ch_bc f) pc = .ok (.invokestatic idx, 3)) (hsv : ch_SV f' (ch_nm f).cls idx n) (hi : Cond.static (ch_nm f') ∈ ch_good) (hhh : ch_hh f' = hx :: hl)
    (hn : as.length = n) (hRR : ch_RR R (ch_fr f' + 1)) (hcat : (rest.map ch_cat).sum ≤ 8) (hcs : k + ch_mc f' ≤ R.cells ∧ 6 * k + 6 * ch_mc f' ≤ R.slots)
    (h : ch_C g f' as mem (ch_K g f R E pc ls rest (k + ch_mc f'))) : ch_J g f R E pc ls (as.reverse ++ rest) mem k := by
  intro p e s m args below meth c H locs lm hF hR hS ho hs hL
  obtain ⟨hrc, hrs, hfr, hlo, hws⟩ := ch_hb hsv hF.2.2.2.2.2.1 hRR
  have hts := hF.2.2.2.2.2.1
  have hso : ∀ v ∈ as, ch_ok g v := fun v hv => hs v (List.mem_append_left _ (List.mem_reverse.mpr hv))
  have hs' : ∀ v ∈ rest, ch_ok g v := fun v hv => hs v (List.mem_append_right _ hv)
  have hM := h hF.2.2.2.2.2.2.2.2.2.1 hso
  have hcw : ch_cw f' = Cond.codeWith (ch_nm f') (ch_bc f') (ch_ml f') (ch_rt f') (ch_hh f') := by unfold ch_cw; rw [hhh]
  have hcode := hsv.1.1
  rw [hcw] at hcode
  refine ch_run (vx_runSX (As := as.map (ch_tr g)) (rm := ch_rm f') (n := n) (bytes := ch_bc f') (maxL := ch_ml f') (ret := ch_rt f') (hh := ch_hh f') ⟨hF.1, hF.2.1, hF.2.2.2.1, hF.2.2.2.2.1, hts⟩ hM ⟨⟨hrc, hrs, hfr, hlo, hws, by unfold ch_ws; rw [hcw]; exact List.mem_cons_self⟩, hts _ hcode, hts _ hsv.1.2.1, hsv.1.2.2.1, ch_len hsv.2.2, hts _ hsv.2.1, hts _ hi⟩
    ⟨ch_PC_blind, ch_pre (f' := f') hF hR⟩ rfl (by rw [List.length_map]; exact hn) hL.1 ?_ (by show 2 * 0 + _ ≤ 8; rw [ch_sum]; omega) hd hcs) hF hS ho hs' hL
  show (as.reverse ++ rest).map (ch_tr g) = _
  rw [List.map_append, List.map_reverse]
end CHC
end
section
theorem ch_mono {g : ch_G} {f : ch_MI} {as : List ch_V} {mem : ch_M} {Q Q' : ch_O → ch_M → Prop} (h : ∀ o m, Q o m → Q' o m) (hc : ch_C g f as mem Q) : ch_C g f as mem Q' := by
  intro htr hok p e ha hf hk s m args below hfr happ hP hK
  obtain ⟨n, o, h1, h2, h3, h4⟩ := hc htr hok p e ha hf hk s m args below hfr happ hP hK
  refine ⟨n, o, h1, h2, h3, ?_⟩
  rcases h4 with ⟨⟨v, mem', a1, a2, a3, a4⟩, hL⟩ | ⟨q, a0, E, ce, L, ⟨n', mem', b1, b2, b3, b4, b5⟩, rest⟩
  · exact Or.inl ⟨⟨v, mem', a1, h _ _ a2, a3, a4⟩, hL⟩
  · exact Or.inr ⟨q, a0, E, ce, L, ⟨n', mem', b1, b2, h _ _ b3, b4, b5⟩, rest⟩
theorem ch_Rp_kept {g : ch_G} {mem : ch_M} {H H' : Heap} (hR : ch_Rp g mem H) (hz : H.size ≤ H'.size) (h : ∀ q, q < H.size → H'[q]? = H[q]?) : ch_Rp g mem H' := by
  refine ⟨Nat.le_trans hR.1 hz, fun q hq => ?_, fun a ha => ?_, hR.2.2.2⟩
  · have h1 := hR.2.1 q hq
    have h2 : q < H.size := by
      rw [Array.getElem?_eq_getElem hq.1] at h1
      exact (Array.getElem?_eq_some_iff.mp h1).1
    rw [h q h2]; exact h1
  · exact ch_cell_eq rfl (h _ (ch_cell_lt (hR.2.2.1 a ha))) (hR.2.2.1 a ha)
abbrev ch_nms : List String := ["java/lang/RuntimeException", "java/lang/Exception"]
/-- a class's 'throw new' of the exception n -/
def ch_TW (own : String) (ik ic n : Nat) : Prop := Cond.classLink own ik (ch_xn n) ∈ ch_good ∧ Cond.initialized (ch_xn n) ∈ ch_good ∧ (∀ w ∈ vx_at0 own ic (ch_xn n) ch_nms, w ∈ ch_good ∨ w ∈ ch_oth) ∧ Bundle.fit (ch_xn n) = true
def ch_both (w : Cond) : Bool := (decide (w ∈ lw_tbl) && goodWord w) || (decide (w ∈ tables_1) && ch_isO w)
theorem ch_both_of {ws : List Cond} (h : ws.all ch_both = true) : ∀ w ∈ ws, w ∈ ch_good ∨ w ∈ ch_oth := by
  intro w hw
  have h1 := List.all_eq_true.mp h w hw
  simp only [ch_both, Bool.or_eq_true, Bool.and_eq_true, decide_eq_true_eq] at h1
  rcases h1 with ⟨a, b⟩ | ⟨a, b⟩
  · exact Or.inl (List.mem_filter.mpr ⟨a, b⟩)
  · exact Or.inr (List.mem_filter.mpr ⟨a, b⟩)
section CHE
variable {g : ch_G} {f : ch_MI} {R : Room} {E : ch_En} {Q : ch_O → ch_M → Prop} {pc : Nat} {ls : ch_LT} {rest : List ch_V} {mem : ch_M} {k : Nat}
theorem ch_Rp_old {s : State} {H : Heap} {locs : List Loc} {p : Program} {m : MethodId} {args : Array Value} {meth : Method} {c : Code} (hF : ch_FR g f p s m args meth c) (hR : ch_Rp g mem H) (hS : va_S (ch_A g) s.heap H locs) : ∀ a : Nat, a < (ch_H0 g).size → ¬ ch_A g a → s.heap[a]? = (ch_H0 g)[a]? := by
  intro a ha hA
  have hb : a < ch_lo g := Nat.not_le.mp hA
  have h1 := hF.2.2.2.2.2.2.2.2.2.2.1
  rw [← hS.2.1 a (by omega) hA]
  exact hR.2.1 a ⟨ha, fun b hb2 e => by have := hR.2.2.2.2.1 b hb2; omega⟩
theorem ch_throw {ik ic n : Nat} (d0 : decode (ch_bc f) pc = .ok (.new ik, 3)) (d3 : decode (ch_bc f) (pc + 3) = .ok (.dup, 1)) (d4 : decode (ch_bc f) (pc + 4) = .ok (.invokespecial ic, 3)) (d7 : decode (ch_bc f) (pc + 7) = .ok (.athrow, 1))
    (htw : ch_TW (ch_nm f).cls ik ic n) (hn : n < 6) (hhh : ch_hh f = []) (hfr : 6 ≤ ch_fr f) (hk : k + 1 ≤ ch_mc f) (hcat : (rest.map ch_cat).sum ≤ 8) (hq : Q (.inr n) mem) : ch_J g f (ch_rm f) (ch_E g f Q) pc ls rest mem k := by
  intro p e s m args below meth c H locs lm hF hR hS ho hs hL
  have hts := hF.2.2.2.2.2.1
  have hW := hF.2.2.2.2.2.2.1
  have hall : ∀ w ∈ vx_at0 (ch_nm f).cls ic (ch_xn n) ch_nms, w.before args s = true := fun w hw => (htw.2.2.1 w hw).elim (fun h => hts w h) (fun h => va_Nw.use (ch_oth_on h) (hW.2.1 w h))
  have hgood : ∀ w ∈ Cond.classLink (ch_nm f).cls ik (ch_xn n) :: Cond.initialized (ch_xn n) :: vx_at0 (ch_nm f).cls ic (ch_xn n) ch_nms, vx_ot w = true := by
    have hg : ∀ w, w ∈ ch_good → vx_ot w = true := fun w h => by
      unfold vx_ot
      rw [(List.mem_filter.mp h).2, Bool.or_true]
    intro w hw
    rcases List.mem_cons.mp hw with h | hw
    · rw [h]; exact hg _ htw.1
    rcases List.mem_cons.mp hw with h | hw
    · rw [h]; exact hg _ htw.2.1
    rcases htw.2.2.1 w hw with h | h
    · exact hg _ h
    · unfold vx_ot
      rw [ch_oth_on h, Bool.true_or]
  have hold := ch_Rp_old hF hR hS
  have htab : ∀ x ∈ c.exceptionTable.toList, covers x (pc + 7) = false := by
    intro x hx
    rw [hF.2.2.2.2.2.2.2.2.1, hhh] at hx
    cases hx
  refine vx_throw0 (A := ch_A g) (names := ch_nms) hF.1 hF.2.1 hF.2.2.2.2.2.2.2.2.2.1 hF.2.2.2.2.1 htw.2.2.2 (fun nm hnm => ?_) (hts _ htw.1) (hts _ htw.2.1) hall hgood (hW.2.2.2.1.kept hold) (hW.2.2.2.2.1.kept hold) hS (hL.1.trans hF.2.2.2.1.symm) d0 d3 d4 d7 htab
    (by show 2 + 3 < ch_fr f; omega) (by show _ + (13 * (2 + 1) + 42) ≤ 128 * ch_fr f + 64; rw [ch_sum]; omega) (by show k + 1 ≤ ch_mc f; omega) (by show 6 * k + 6 ≤ 6 * ch_mc f; omega) hF.2.2.2.2.2.2.2.1 (fun t ha hz ho' => ?_) hS.2.2 hk (by omega)
  · rcases List.mem_cons.mp hnm with h | h
    · rw [h]; decide
    · rcases List.mem_cons.mp h with h | h
      · rw [h]; decide
      · cases h
  · refine ⟨n, mem, rfl, hn, hq, ch_Rp_kept hR hz ho', Nat.le_trans hS.1 hz, fun q h1 h2 => ?_⟩
    rw [ho' q (Nat.lt_of_lt_of_le h1 hS.1)]
    exact hS.2.1 q h1 h2
/-- thrown by a callee, not caught here -/
theorem ch_xout {st : List ch_V} {n : Nat} (hhh : ch_hh f = []) (hk : k ≤ ch_mc f) (hq : Q (.inr n) mem) : ch_X g f (ch_rm f) (ch_E g f Q) pc ls st n mem k := by
  intro p e s m args below meth c H locs lm q ce hF hR hS ho hL hn hce hcv hcl
  refine vx_out (fun x hx => ?_) hF.2.2.2.2.2.2.2.1 hce hcv hcl (fun t ht ha => ⟨n, mem, rfl, hn, hq, by rw [ht]; exact hR, hS.F ht⟩) hS.2.2 hk (by omega)
  rw [hF.2.2.2.2.2.2.2.2.1, hhh] at hx
  cases hx
/-- thrown by a callee, caught here, and laid aside -/
theorem ch_caught {st : List ch_V} {n i : Nat} {ls' : ch_LT} (pre : List (Nat × Nat × Nat × Nat)) (x : Nat × Nat × Nat × Nat) (suf : List (Nat × Nat × Nat × Nat)) (hsp : ch_hh f = pre ++ x :: suf)
    (hpass : ∀ z ∈ pre, z.2.2.2 ≠ 0 ∧ ∃ i, i < 6 ∧ n ≠ i ∧ Cond.classLink (ch_nm f).cls z.2.2.2 (ch_xn i) ∈ ch_good) (hx : x.1 ≤ pc ∧ pc < x.2.1) (h0 : x.2.2.2 ≠ 0) (hlink : Cond.classLink (ch_nm f).cls x.2.2.2 (ch_xn n) ∈ ch_good) (hcast : Cond.castable (ch_xn n) (ch_xn n) ∈ ch_oth)
    (hd : decode (ch_bc f) x.2.2.1 = .ok (.astore i, 2) ∧ ch_J g f R E (x.2.2.1 + 2) ls' [] mem k ∨ (∃ z : Fin 4, (z : Nat) = i ∧ decode (ch_bc f) x.2.2.1 = .ok (.astore_n z, 1)) ∧ ch_J g f R E (x.2.2.1 + 1) ls' [] mem k) (hi : i < ch_ml f) (hl : (ch_kill ls i).set i none = ls') : ch_X g f R E pc ls st n mem k := by
  subst hl
  intro p e s m args below meth c H locs lm q ce hF hR hS ho hL hn hce hcv hcl
  have hts := hF.2.2.2.2.2.1
  have hW := hF.2.2.2.2.2.2.1
  have fin : ∀ (lm' : Array Slot), lv_has lm' (ch_ml f) ((i, .ref q) :: (ch_prs g ls).filter (fun q => !(q.1 == i) && !(q.1 + 1 == i && q.2.category == 2))) → ch_LR g (ch_ml f) ((ch_kill ls i).set i none) lm' := by
    intro lm' h
    refine ⟨h.1, h.2.1, fun j w hj => ?_⟩
    by_cases e : i = j
    · subst e
      have hl := (List.getElem?_eq_some_iff.mp hj).1
      rw [List.length_set] at hl
      rw [List.getElem?_set_self hl] at hj
      cases hj
    · rw [List.getElem?_set_ne e] at hj
      obtain ⟨h1, h2⟩ := ch_kill_at hj
      refine h.2.2 (j, ch_tr g w) (List.mem_cons_of_mem _ (List.mem_filter.mpr ⟨ch_prs_mem h1, ?_⟩))
      simp only [Bool.and_eq_true, Bool.not_eq_true', beq_eq_false_iff_ne, ne_eq, Bool.and_eq_false_iff]
      refine ⟨fun q => e q.symm, ?_⟩
      by_cases q : j + 1 = i
      · exact Or.inr (by rw [ch_cat_tr, h2 q]; decide)
      · exact Or.inl q
  have ok' : ∀ o ∈ (ch_kill ls i).set i none, ∀ v, o = some v → ch_ok g v := by
    intro o ho' v hv
    rcases List.mem_or_eq_of_mem_set ho' with h1 | h1
    · exact ch_kill_ok ho o h1 v hv
    · rw [h1] at hv
      cases hv
  refine vx_catch (own := (ch_nm f).cls) (name := ch_xn n) (E := ch_xn n) hF.2.2.2.2.1 (tableOf pre) ⟨x.1, x.2.1, x.2.2.1, x.2.2.2⟩ (tableOf suf) ?_ ?_ ?_ h0 (hts _ hlink) (va_Nw.use rfl (hW.2.1 _ hcast)) hce hcv hcl ?_
  · rw [hF.2.2.2.2.2.2.2.2.1, hsp]
    unfold tableOf
    rw [List.map_append, List.map_cons]
  · intro z hz
    obtain ⟨y, hy, rfl⟩ := List.mem_map.mp hz
    obtain ⟨hz0, i9, hi9, hne, hlk⟩ := hpass y hy
    exact Or.inr ⟨hz0, ch_xn i9, hts _ hlk, hW.2.2.1 n i9 hn hi9 hne⟩
  · simp only [covers, Bool.and_eq_true, decide_eq_true_eq]
    exact hx
  · rcases hd with ⟨hd, kk⟩ | ⟨⟨z, hz, hd⟩, kk⟩
    · exact lv_astore hF.1 hF.2.1 hd (ch_prs_has hL) hi rfl (fun lm' hL' => kk p e s m args below meth c H locs lm' hF hR hS ok' (fun v hv => by cases hv) (fin lm' hL'))
    · exact lv_astore_n hF.1 hF.2.1 hd hz (ch_prs_has hL) hi rfl (fun lm' hL' => kk p e s m args below meth c H locs lm' hF hR hS ok' (fun v hv => by cases hv) (fin lm' hL'))
theorem ch_Qret {s : State} {H : Heap} {locs : List Loc} {v : Option ch_V} (hR : ch_Rp g mem H) (hS : va_S (ch_A g) s.heap H locs) (hq : Q (.inl v) mem) : ∀ t : State, t.heap = H → s.WarmedH t.vm → ∀ a : Array Value, ch_Qc g Q a s (.returned (v.map (ch_tr g))) t :=
  fun t ht _ a => ⟨v, mem, rfl, hq, by rw [ht]; exact hR, hS.F ht⟩
theorem ch_iret {x : Int32} {ty : FieldType} (hd : decode (ch_bc f) pc = .ok (.ireturn, 1)) (hr : ch_rt f = some ty) (hn : narrow ty (.int x) = .int x) (hk : k ≤ ch_mc f) (hq : Q (.inl (some (.inl (.int x)))) mem) : ch_J g f (ch_rm f) (ch_E g f Q) pc ls [.inl (.int x)] mem k :=
  fun p e s m args below meth c H locs lm hF hR hS ho hs hL => vx_ret (W.widen hk (by omega) (W.zret hF.1 hF.2.1 (hF.2.2.1.trans hr) hn (fun t ht hw => ch_Qret hR hS hq t ht hw args) hS.2.2 hd hF.2.2.2.2.2.2.2.1))
theorem ch_fret {x : UInt32} (hd : decode (ch_bc f) pc = .ok (.freturn, 1)) (hr : ch_rt f = some .float) (hk : k ≤ ch_mc f) (hq : Q (.inl (some (.inl (.float x)))) mem) : ch_J g f (ch_rm f) (ch_E g f Q) pc ls [.inl (.float x)] mem k :=
  fun p e s m args below meth c H locs lm hF hR hS ho hs hL => vx_ret (W.widen hk (by omega) (W.fret hF.1 hF.2.1 (hF.2.2.1.trans hr) (fun t ht hw => ch_Qret hR hS hq t ht hw args) hS.2.2 hd hF.2.2.2.2.2.2.2.1))
theorem ch_dret {x : UInt64} (hd : decode (ch_bc f) pc = .ok (.dreturn, 1)) (hr : ch_rt f = some .double) (hk : k ≤ ch_mc f) (hq : Q (.inl (some (.inl (.double x)))) mem) : ch_J g f (ch_rm f) (ch_E g f Q) pc ls [.inl (.double x)] mem k :=
  fun p e s m args below meth c H locs lm hF hR hS ho hs hL => vx_ret (W.widen hk (by omega) (W.dret hF.1 hF.2.1 (hF.2.2.1.trans hr) (fun t ht hw => ch_Qret hR hS hq t ht hw args) hS.2.2 hd hF.2.2.2.2.2.2.2.1))
theorem ch_lret {x : Int64} (hd : decode (ch_bc f) pc = .ok (.lreturn, 1)) (hr : ch_rt f = some .long) (hk : k ≤ ch_mc f) (hq : Q (.inl (some (.inl (.long x)))) mem) : ch_J g f (ch_rm f) (ch_E g f Q) pc ls [.inl (.long x)] mem k :=
  fun p e s m args below meth c H locs lm hF hR hS ho hs hL => vx_ret (W.widen hk (by omega) (W.lret hF.1 hF.2.1 (hF.2.2.1.trans hr) (fun t ht hw => ch_Qret hR hS hq t ht hw args) hS.2.2 hd hF.2.2.2.2.2.2.2.1))
theorem ch_aret {a : ch_Ad} {rt : FieldType} (hd : decode (ch_bc f) pc = .ok (.areturn, 1)) (hr : ch_rt f = some rt) (hrt : (∃ n, rt = .object n) ∨ ∃ t, rt = .array t) (hk : k ≤ ch_mc f) (hq : Q (.inl (some (.inr a))) mem) : ch_J g f (ch_rm f) (ch_E g f Q) pc ls [.inr a] mem k :=
  fun p e s m args below meth c H locs lm hF hR hS ho hs hL => vx_ret (W.widen hk (by omega) (W.aret hF.1 hF.2.1 (hF.2.2.1.trans hr) hrt (Or.inr ⟨_, rfl⟩) (fun t ht hw => ch_Qret hR hS hq t ht hw args) hS.2.2 hd hF.2.2.2.2.2.2.2.1))
theorem ch_vret (hd : decode (ch_bc f) pc = .ok (.return_, 1)) (hr : ch_rt f = none) (hk : k ≤ ch_mc f) (hq : Q (.inl none) mem) : ch_J g f (ch_rm f) (ch_E g f Q) pc ls [] mem k :=
  fun p e s m args below meth c H locs lm hF hR hS ho hs hL => vx_ret (W.widen hk (by omega) (W.vret hF.1 hF.2.1 (hF.2.2.1.trans hr) (fun t ht hw => ch_Qret hR hS hq t ht hw args) hS.2.2 hd hF.2.2.2.2.2.2.2.1))
/-- the ways a call goes on -/
theorem ch_Ki {q : Int32 → ch_M → Prop} (h : ∀ r m, q r m → ch_J g f R E (pc + 3) ls (.inl (.int r) :: rest) m k) : ∀ o m, ch_oi q o m → ch_K g f R E pc ls rest k o m := by
  rintro o m ⟨r, rfl, hq⟩
  refine ⟨fun v hv => ?_, fun hv => by simp at hv, fun n hv => by cases hv⟩
  cases hv
  exact ⟨ch_okl, h r m hq⟩
theorem ch_Kf {q : UInt32 → ch_M → Prop} (h : ∀ r m, q r m → ch_J g f R E (pc + 3) ls (.inl (.float r) :: rest) m k) : ∀ o m, ch_of q o m → ch_K g f R E pc ls rest k o m := by
  rintro o m ⟨r, rfl, hq⟩
  refine ⟨fun v hv => ?_, fun hv => by simp at hv, fun n hv => by cases hv⟩
  cases hv
  exact ⟨ch_okl, h r m hq⟩
theorem ch_Kd {q : UInt64 → ch_M → Prop} (h : ∀ r m, q r m → ch_J g f R E (pc + 3) ls (.inl (.double r) :: rest) m k) : ∀ o m, ch_od q o m → ch_K g f R E pc ls rest k o m := by
  rintro o m ⟨r, rfl, hq⟩
  refine ⟨fun v hv => ?_, fun hv => by simp at hv, fun n hv => by cases hv⟩
  cases hv
  exact ⟨ch_okl, h r m hq⟩
theorem ch_Kl {q : Int64 → ch_M → Prop} (h : ∀ r m, q r m → ch_J g f R E (pc + 3) ls (.inl (.long r) :: rest) m k) : ∀ o m, ch_ol q o m → ch_K g f R E pc ls rest k o m := by
  rintro o m ⟨r, rfl, hq⟩
  refine ⟨fun v hv => ?_, fun hv => by simp at hv, fun n hv => by cases hv⟩
  cases hv
  exact ⟨ch_okl, h r m hq⟩
theorem ch_Ka {q : ch_Ad → ch_M → Prop} (h : ∀ r m, q r m → ch_ok g (.inr r) ∧ ch_J g f R E (pc + 3) ls (.inr r :: rest) m k) : ∀ o m, ch_oa q o m → ch_K g f R E pc ls rest k o m := by
  rintro o m ⟨r, rfl, hq⟩
  refine ⟨fun v hv => ?_, fun hv => by simp at hv, fun n hv => by cases hv⟩
  cases hv
  exact h r m hq
theorem ch_Kv {q : ch_M → Prop} (h : ∀ m, q m → ch_J g f R E (pc + 3) ls rest m k) : ∀ o m, ch_ov q o m → ch_K g f R E pc ls rest k o m := by
  rintro o m ⟨rfl, hq⟩
  exact ⟨fun v hv => by simp at hv, fun _ => h m hq, fun n hv => by cases hv⟩
theorem ch_Kx {q : ch_O → ch_M → Prop} {x : Nat → ch_M → Prop} (h : ∀ o m, q o m → ch_K g f R E pc ls rest k o m) (hx : ∀ n m, n < 6 → x n m → ch_X g f R E pc ls rest n m k) : ∀ o m, ch_ox q x o m → ch_K g f R E pc ls rest k o m := by
  rintro o m (hq | ⟨n, rfl, hn, hq⟩)
  · exact h o m hq
  · exact ⟨fun v hv => (by cases hv), fun hv => (by cases hv), fun n' hv => (by cases hv; exact hx n m hn hq)⟩
/-- Math.max, Math.min -/
def ch_MM (own : String) (idx : Nat) (y : MethodName) (bc : ByteArray) : Prop := Cond.methodLink own idx y ∈ ch_good ∧ Cond.static y ∈ ch_good ∧ Cond.initialized "java/lang/Math" ∈ ch_good ∧ Cond.code y bc 2 (some .int) ∈ ch_good
theorem ch_max {x y : Int32} {idx : Nat} (hd : decode (ch_bc f) pc = .ok (.invokestatic idx, 3)) (hm : ch_MM (ch_nm f).cls idx Lib.Math.max.name Lib.Math.max.code) (hRR : ch_RR R 1) (hcs : k ≤ R.cells ∧ 6 * k ≤ R.slots) (hcat : (rest.map ch_cat).sum ≤ 8) (kk : ch_J g f R E (pc + 3) ls (.inl (.int (if x < y then y else x)) :: rest) mem k) : ch_J g f R E pc ls (.inl (.int y) :: .inl (.int x) :: rest) mem k :=
  ch_go (fun _ _ _ _ _ _ _ _ _ _ _ _ hF _ _ ho hs hL q => va_mmax hF.1 hF.2.1 (hF.2.2.2.1.trans hL.1.symm) hF.2.2.2.2.1 (hF.2.2.2.2.2.1 _ hm.1) (hF.2.2.2.2.2.1 _ hm.2.1) (hF.2.2.2.2.2.1 _ hm.2.2.1) (hF.2.2.2.2.2.1 _ hm.2.2.2) hRR.1 (by have := hRR.2; rw [ch_sum]; omega) hcs.1 hcs.2 hd (q (ch_ok1 (ch_ok0 (ch_ok0 hs))))) kk
theorem ch_min {x y : Int32} {idx : Nat} (hd : decode (ch_bc f) pc = .ok (.invokestatic idx, 3)) (hm : ch_MM (ch_nm f).cls idx Lib.Math.min.name Lib.Math.min.code) (hRR : ch_RR R 1) (hcs : k ≤ R.cells ∧ 6 * k ≤ R.slots) (hcat : (rest.map ch_cat).sum ≤ 8) (kk : ch_J g f R E (pc + 3) ls (.inl (.int (if y < x then y else x)) :: rest) mem k) : ch_J g f R E pc ls (.inl (.int y) :: .inl (.int x) :: rest) mem k :=
  ch_go (fun _ _ _ _ _ _ _ _ _ _ _ _ hF _ _ ho hs hL q => va_mmin hF.1 hF.2.1 (hF.2.2.2.1.trans hL.1.symm) hF.2.2.2.2.1 (hF.2.2.2.2.2.1 _ hm.1) (hF.2.2.2.2.2.1 _ hm.2.1) (hF.2.2.2.2.2.1 _ hm.2.2.1) (hF.2.2.2.2.2.1 _ hm.2.2.2) hRR.1 (by have := hRR.2; rw [ch_sum]; omega) hcs.1 hcs.2 hd (q (ch_ok1 (ch_ok0 (ch_ok0 hs))))) kk
end CHE
end
section
def ch_cpy (mem : ch_M) (src dst : ch_Ad) (sp dp n : Nat) : ch_M := fun b i => if b = dst then va_cpy (mem src) (mem dst) sp dp n i else mem b i
/-- System.arraycopy -/
def ch_AC (own : String) (idx : Nat) : Prop := Cond.methodLink own idx arraycopyName ∈ ch_good ∧ Cond.native arraycopyName ∈ ch_good ∧ Cond.static arraycopyName ∈ ch_good ∧ Cond.initialized "java/lang/System" ∈ ch_good
section CHY
variable {g : ch_G} {f : ch_MI} {R : Room} {E : ch_En} {pc : Nat} {ls : ch_LT} {rest : List ch_V} {mem : ch_M} {k : Nat}
theorem ch_copy {idx c1 j1 p1 n1 c2 j2 p2 n2 : Nat} {sp dp n : Int32} (hd : decode (ch_bc f) pc = .ok (.invokestatic idx, 3)) (hm : ch_AC (ch_nm f).cls idx) (hc1 : c1 ≤ 10 ∨ c1 = 14) (hc2 : c2 ≤ 10 ∨ c2 = 14) (hk1 : ch_ak c1 (p1 + 1) = (0, n1)) (hk2 : ch_ak c2 (p2 + 1) = (0, n2)) (hRR : ch_RR R 1) (hcat : (rest.map ch_cat).sum ≤ 8)
    (h1 : ¬ sp < 0) (h2 : ¬ dp < 0) (h3 : ¬ n < 0) (h4 : sp.toNatClampNeg + n.toNatClampNeg ≤ n1) (h5 : dp.toNatClampNeg + n.toNatClampNeg ≤ n2)
    (kk : ch_J g f R E (pc + 3) ls rest (ch_cpy mem (c1, j1, p1 + 1) (c2, j2, p2 + 1) sp.toNatClampNeg dp.toNatClampNeg n.toNatClampNeg) k) : ch_J g f R E pc ls (.inl (.int n) :: .inl (.int dp) :: .inr (c2, j2, p2 + 1) :: .inl (.int sp) :: .inr (c1, j1, p1 + 1) :: rest) mem k := by
  intro p e s m args below meth c H locs lm hF hR hS ho hs hL
  obtain ⟨hin1, hca⟩ := ch_arr hR (ch_okh (ch_ok0 (ch_ok0 (ch_ok0 (ch_ok0 hs))))) hc1
  obtain ⟨hin2, hcb⟩ := ch_arr hR (ch_okh (ch_ok0 (ch_ok0 hs))) hc2
  rw [hk1] at hca
  rw [hk2] at hcb
  have hcat' : ((rest.map (ch_tr g)).map fun v => v.category).sum ≤ 8 := by rw [ch_sum]; exact hcat
  have hA := ch_arrK hF.2.2.2.2.2.2.1 (t := 0) (by decide)
  have nn : ∀ z : Int32, ¬ z < 0 → z.toInt = (z.toNatClampNeg : Int) := by
    intro z hz
    have hz0 : (0 : Int) ≤ z.toInt := by
      have := Int32.not_lt.mp hz
      simpa using Int32.le_iff_toInt_le.mp this
    show z.toInt = ((z.toInt.toNat : Nat) : Int)
    omega
  have hts := hF.2.2.2.2.2.1
  have hfit : ∀ i, fits .int (.int (mem (c1, j1, p1 + 1) i)) = true := fun i => rfl
  intro T hT X
  have hc0 : H[ch_adr g (c1, j1, p1 + 1)]? = some (vp_cell (ch_cA g 0) (n1, .inl (mem (c1, j1, p1 + 1)))) := hca
  have hc9 : H[ch_adr g (c2, j2, p2 + 1)]? = some (vp_cell (ch_cA g 0) (n2, .inl (mem (c2, j2, p2 + 1)))) := hcb
  obtain ⟨-, k0, hk0, cm0, hkk0⟩ := hA n1 (fun i => .int (mem (c1, j1, p1 + 1) i))
  obtain ⟨-, k1, hk1', cm1, hkk1⟩ := hA n2 (fun i => .int (mem (c2, j2, p2 + 1) i))
  obtain ⟨vm', X', step⟩ := X.arraycopy hF.1 hF.2.2.2.2.1 (hts _ hm.1) (hts _ hm.2.1) (hts _ hm.2.2.1) (hts _ hm.2.2.2) (src := ch_adr g (c1, j1, p1 + 1)) (dst := ch_adr g (c2, j2, p2 + 1)) (cs := vp_cell (ch_cA g 0) (n1, .inl (mem (c1, j1, p1 + 1)))) (cd := vp_cell (ch_cA g 0) (n2, .inl (mem (c2, j2, p2 + 1)))) (srcPos := sp) (destPos := dp) (n := n) (by rw [hT]; exact hc0) (by rw [hT]; exact hc9)
    (fun _ h => by cases h) (fun _ h => by cases h) (fun h => by cases h) (fun h => by cases h) hk0 hk1' hkk0 hkk1 (by rfl) h1 h2 h3
    (by rw [nn sp h1, nn n h3]; show ¬ _ > ((arrV _ n1 _).slots.size : Int); rw [arrV_size]; omega)
    (by rw [nn dp h2, nn n h3]; show ¬ _ > ((arrV _ n2 _).slots.size : Int); rw [arrV_size]; omega)
    (fun vm₁ _ i hi => by
      have e9 : (vp_cell (ch_cA g 0) (n1, .inl (mem (c1, j1, p1 + 1)))).slots.getD (sp.toNatClampNeg + i) .null = .int (mem (c1, j1, p1 + 1) (sp.toNatClampNeg + i)) := by
        show (arrV (ch_cA g 0) n1 (fun i => .int (mem (c1, j1, p1 + 1) i))).slots.getD _ _ = _
        rw [Array.getD_eq_getD_getElem?, arrV_read _ _ (by omega)]
        rfl
      refine ⟨?_, ?_⟩
      · rw [e9]
        exact hfit _
      · rw [e9]
        exact trivial)
    (g := F0 m pc lm ((.inl (.int n) :: .inl (.int dp) :: .inr (c2, j2, p2 + 1) :: .inl (.int sp) :: .inr (c1, j1, p1 + 1) :: rest : List ch_V).map (ch_tr g))) rfl (hL.1.trans hF.2.2.2.1.symm) (rest := rest.map (ch_tr g)) rfl (by rw [hF.2.1]; exact hd) hRR.1
    (by have := hRR.2; have hw : nativeFrameWords "java/lang/System" "arraycopy" 5 ≤ 100 := by decide +kernel
        show 2 * 0 + _ + _ ≤ _; omega)
  have e1 : copied (vp_cell (ch_cA g 0) (n1, .inl (mem (c1, j1, p1 + 1)))) (vp_cell (ch_cA g 0) (n2, .inl (mem (c2, j2, p2 + 1)))) sp dp n = vp_cell (ch_cA g 0) (n2, .inl (va_cpy (mem (c1, j1, p1 + 1)) (mem (c2, j2, p2 + 1)) sp.toNatClampNeg dp.toNatClampNeg n.toNatClampNeg)) := va_copied (fun z => .int z) _ _ _ _ h4
  rw [e1] at X' step
  have hl : ch_adr g (c2, j2, p2 + 1) < H.size := (Array.getElem?_eq_some_iff.mp hc9).1
  generalize hcell : vp_cell (ch_cA g 0) (n2, .inl (va_cpy (mem (c1, j1, p1 + 1)) (mem (c2, j2, p2 + 1)) sp.toNatClampNeg dp.toNatClampNeg n.toNatClampNeg)) = cell at X' step
  have hheap : ((T.setVm vm').setCell (ch_adr g (c2, j2, p2 + 1)) cell).heap = H.setIfInBounds (ch_adr g (c2, j2, p2 + 1)) cell := by rw [← hT]; rfl
  have oq : ∀ q : Nat, q ≠ ch_adr g (c2, j2, p2 + 1) → (H.setIfInBounds (ch_adr g (c2, j2, p2 + 1)) cell)[q]? = H[q]? := fun q hq => by simp [Array.getElem?_setIfInBounds, Ne.symm hq]
  have hRp' : ch_Rp g (ch_cpy mem (c1, j1, p1 + 1) (c2, j2, p2 + 1) sp.toNatClampNeg dp.toNatClampNeg n.toNatClampNeg) (H.setIfInBounds (ch_adr g (c2, j2, p2 + 1)) cell) := by
    refine ch_Rp_upd hR hin2 (by simp) oq ?_ (fun b hb => ?_)
    · show (H.setIfInBounds _ cell)[ch_adr g (c2, j2, p2 + 1)]? = _
      rw [hk2]
      have : (H.setIfInBounds (ch_adr g (c2, j2, p2 + 1)) cell)[ch_adr g (c2, j2, p2 + 1)]? = some cell := by simp [Array.getElem?_setIfInBounds, hl]
      rw [this, ← hcell]
      show some (vp_cell _ _) = some (arrV (ch_cA g 0) n2 (fun i => ch_ev g (ch_cpy mem (c1, j1, p1 + 1) (c2, j2, p2 + 1) sp.toNatClampNeg dp.toNatClampNeg n.toNatClampNeg) (c2, j2, p2 + 1) 0 i))
      rw [vp_cell_i]
      congr 2
      funext i
      show Value.int _ = Value.int (ch_cpy _ _ _ _ _ _ _ i)
      unfold ch_cpy
      rw [if_pos rfl]
    · funext i
      unfold ch_cpy
      rw [if_neg hb]
  have hS' : ∀ L : List Loc, (∀ z ∈ L, z.base = ch_adr g (c2, j2, p2 + 1)) → va_S (ch_A g) s.heap (H.setIfInBounds (ch_adr g (c2, j2, p2 + 1)) cell) (locs ++ L) := by
    intro L hLo
    refine ⟨by simp; exact hS.1, fun q g1 g2 => ?_, fun q hq => ?_⟩
    · rw [oq q (fun e => g2 (by rw [e]; exact ch_adr_A hR hin2))]
      exact hS.2.1 q g1 g2
    · rcases List.mem_append.mp hq with h | h
      · exact hS.2.2 q h
      · rw [hLo q h]
        exact ch_adr_A hR hin2
  obtain ⟨t, a1, b1⟩ := kk p e s m args below meth c _ _ lm hF hRp' (hS' _ (fun z hz => by obtain ⟨y, -, hy⟩ := List.mem_map.mp hz; rw [← hy])) ho (ch_ok0 (ch_ok0 (ch_ok0 (ch_ok0 (ch_ok0 hs))))) hL _ hheap X'
  exact ⟨t, step t a1, b1⟩
end CHY
end
section
theorem ch_lswD {d k : Int} : ∀ {ps : List (Int × Int)}, (∀ q ∈ ps, k ≠ q.1) → Op.lookupswitch.offset ps d k = d
  | [], _ => rfl
  | (a, o) :: r, h => by
    rw [Op.lookupswitch.offset_cons, if_neg (fun q => h (a, o) List.mem_cons_self q.symm)]
    exact ch_lswD (fun q hq => h q (List.mem_cons_of_mem _ hq))
theorem ch_hR {R : Room} {d n : Nat} (h : ch_RR R n) (hd : d ≤ n) : ch_RR R d := ⟨Nat.le_trans hd h.1, Nat.le_trans (by omega) h.2⟩
/-- a native that tells the bits of a number -/
def ch_NB (own : String) (idx : Nat) (y : MethodName) : Prop := Cond.methodLink own idx y ∈ ch_good ∧ Cond.native y ∈ ch_good ∧ Cond.static y ∈ ch_good ∧ Cond.initialized y.cls ∈ ch_good
section CHN
variable {g : ch_G} {f : ch_MI} {R : Room} {E : ch_En} {pc : Nat} {ls : ch_LT} {rest : List ch_V} {mem : ch_M} {k : Nat}
theorem ch_d2l {b : UInt64} {idx : Nat} (hd : decode (ch_bc f) pc = .ok (.invokestatic idx, 3)) (hm : ch_NB (ch_nm f).cls idx ⟨"java/lang/Double", "doubleToRawLongBits", "(D)J"⟩) (hRR : ch_RR R 1) (hcat : (rest.map ch_cat).sum ≤ 8) (kk : ch_J g f R E (pc + 3) ls (.inl (.long b.toInt64) :: rest) mem k) : ch_J g f R E pc ls (.inl (.double b) :: rest) mem k :=
  ch_go (fun _ _ _ _ _ _ _ _ _ _ _ _ hF _ _ ho hs hL q => vn_d2l hF.1 hF.2.1 (hF.2.2.2.1.trans hL.1.symm) hF.2.2.2.2.1 (hF.2.2.2.2.2.1 _ hm.1) (hF.2.2.2.2.2.1 _ hm.2.1) (hF.2.2.2.2.2.1 _ hm.2.2.1) (hF.2.2.2.2.2.1 _ hm.2.2.2) hRR.1 (by have := hRR.2; rw [ch_sum]; omega) hd (q (ch_ok1 (ch_ok0 hs)))) kk
theorem ch_f2i {b : UInt32} {idx : Nat} (hd : decode (ch_bc f) pc = .ok (.invokestatic idx, 3)) (hm : ch_NB (ch_nm f).cls idx ⟨"java/lang/Float", "floatToRawIntBits", "(F)I"⟩) (hRR : ch_RR R 1) (hcat : (rest.map ch_cat).sum ≤ 8) (kk : ch_J g f R E (pc + 3) ls (.inl (.int b.toInt32) :: rest) mem k) : ch_J g f R E pc ls (.inl (.float b) :: rest) mem k :=
  ch_go (fun _ _ _ _ _ _ _ _ _ _ _ _ hF _ _ ho hs hL q => vn_f2i hF.1 hF.2.1 (hF.2.2.2.1.trans hL.1.symm) hF.2.2.2.2.1 (hF.2.2.2.2.2.1 _ hm.1) (hF.2.2.2.2.2.1 _ hm.2.1) (hF.2.2.2.2.2.1 _ hm.2.2.1) (hF.2.2.2.2.2.1 _ hm.2.2.2) hRR.1 (by have := hRR.2; rw [ch_sum]; omega) hd (q (ch_ok1 (ch_ok0 hs)))) kk
end CHN
end
section
theorem ch_ldcWS {p : Program} {l : Launch} {e : Env} {R : Room} {s : State} {m : MethodId} {args : Array Value} {below : List Frame} {meth : Method} {c : Code} {T : State} {locs : List Loc} {cells slots : Nat}
    (X : Stand p l e R s m args below meth c T locs cells slots) (hexec : p.tables.exec = Jvm.exec) {own text : String} {index : Nat} {a : Addr} (hown : s.vm.findClass own = some m.cls)
    (hconst : (Cond.stringRef own index text).before args s = true) (hev : (Term.string own index).eval args s none [] s = some (.ref a)) {g : JFrame} (hg : g.method = m) (hdg : decode c.code g.pc = .ok (.ldc_w index, 3)) :
    ∀ target, Steps p.tables e below (T.setTop { g with pc := g.pc + 3, stack := .ref a :: g.stack }) target → Steps p.tables e below (T.setTop g) target := by
  obtain ⟨k, cf, i, a', hk, hcf, hcp, -, hr, hev'⟩ := Cond.stringRef_spec hown hconst
  cases hev.symm.trans hev'
  obtain ⟨k', hk', he⟩ := X.warmed.alike.2.2 _ _ hk
  have hr' : k'.resolved[index]? = some (some (.string a)) := by
    rcases X.warmed.entry hk hk' index with h | ⟨h, -⟩
    · rw [h]; exact hr
    · rw [hr] at h; cases h
  intro target hrest
  subst hg
  jvm_step X.here [hexec, hdg, ldc_w.wp_string (e := e) (s := T) (f := g) X.here.top hk' (by rw [he]; exact hcf) hcp hr']
  exact hrest
section CHT
variable {g : ch_G} {f : ch_MI} {R : Room} {E : ch_En} {pc : Nat} {ls : ch_LT} {rest : List ch_V} {mem : ch_M} {k : Nat}
theorem ch_okS {i : Nat} (h : i < (ch_tx g).length) : ch_ok g (.inr (12, i, 0)) := fun a e => by cases e; exact Or.inr (Or.inr (Or.inl ⟨i, h, Or.inl rfl⟩))
theorem ch_okB {i : Nat} (h : i < (ch_tx g).length) : ch_ok g (.inr (13, i, 0)) := fun a e => by cases e; exact Or.inr (Or.inr (Or.inl ⟨i, h, Or.inr rfl⟩))
theorem ch_okD {i : Nat} (h : i < 2) : ch_ok g (.inr (15, i, 0)) := fun a e => by cases e; exact Or.inr (Or.inr (Or.inr ⟨i, h, rfl⟩))
theorem ch_okT {i : Nat} (h : ch_ok g (.inr (12, i, 0))) (hw : ch_gw g) : i < (ch_tx g).length := by
  rcases h _ rfl with (h | h) | h | ⟨j, hj, h | h⟩ | ⟨j, hj, h⟩
  · exact absurd (show 12 ≤ 8 from h.1) (by decide)
  · rcases hw.2.2.2 _ h with e | e
    · exact absurd (show 12 = 9 from e) (by decide)
    · exact absurd (show 12 = 14 from e) (by decide)
  · cases h
  · cases h; exact hj
  · cases h
  · cases h
theorem ch_okT2 {i : Nat} (h : ch_ok g (.inr (13, i, 0))) (hw : ch_gw g) : i < (ch_tx g).length := by
  rcases h _ rfl with (h | h) | h | ⟨j, hj, h | h⟩ | ⟨j, hj, h⟩
  · exact absurd (show 13 ≤ 8 from h.1) (by decide)
  · rcases hw.2.2.2 _ h with e | e
    · exact absurd (show 13 = 9 from e) (by decide)
    · exact absurd (show 13 = 14 from e) (by decide)
  · cases h
  · cases h
  · cases h; exact hj
  · cases h
theorem ch_okT3 {i : Nat} (h : ch_ok g (.inr (15, i, 0))) (hw : ch_gw g) : i < 2 := by
  rcases h _ rfl with (h | h) | h | ⟨j, hj, h | h⟩ | ⟨j, hj, h⟩
  · exact absurd (show 15 ≤ 8 from h.1) (by decide)
  · rcases hw.2.2.2 _ h with e | e
    · exact absurd (show 15 = 9 from e) (by decide)
    · exact absurd (show 15 = 14 from e) (by decide)
  · cases h
  · cases h
  · cases h
  · cases h; exact hj
theorem ch_fixed {H : Heap} (hR : ch_Rp g mem H) : ∀ a : Nat, a < (ch_H0 g).size → ¬ (fun q => ¬ ch_fx g q) a → H[a]? = (ch_H0 g)[a]? := fun a _ h => hR.2.1 a (Classical.not_not.mp h)
theorem ch_SWF {s : State} {p : Program} {m : MethodId} {args : Array Value} {meth : Method} {c : Code} (hF : ch_FR g f p s m args meth c) : ch_SW g s := hF.2.2.2.2.2.2.1.2.2.2.2.2.2.2.2.1
theorem ch_tlen {i : Nat} (h : i < (ch_tx g).length) : ((ch_tx g).map List.length).getD i 0 = ch_tn g i := by
  unfold ch_tn
  simp [List.getD_eq_getElem?_getD, List.getElem?_map, List.getElem?_eq_getElem h]
theorem ch_zgets {H : Heap} {C n d own ref : String} {v : Value} {index : Nat} {p : Program} {e : Env} {s : State} {m : MethodId} {args : Array Value} {below : List Frame} {meth : Method} {c : Code} {locs : List Loc} {lm : Array Slot} {cells slots : Nat} {Q : State → Prop} {st : List Value} {A : Nat → Prop}
    (hexec : p.tables.exec = Jvm.exec) (hb : c.code = ch_bc f) (hZ : va_Z C n d v A s H) (hown : s.vm.findClass own = some m.cls) (hlink : (Cond.fieldLink own index ref n d).before args s = true) (hsame : ∀ x, s.fieldFound? C n d = some x → s.fieldFound? ref n d = some x) (hd : decode (ch_bc f) pc = .ok (.getstatic index, 3))
    (kk : W p (ch_l g) e R s m args below meth c H locs cells slots Q (F0 m (pc + 3) lm (v :: st))) : W p (ch_l g) e R s m args below meth c H locs cells slots Q (F0 m pc lm st) := by
  obtain ⟨cf, kf, fi, f, a, cell, h1, h2, h3, h4, h5, h6, h7, h8⟩ := hZ
  exact W.gets hexec hb hown hlink (hsame _ h1) h2 h3 h4 h5 (fun e => by rw [e] at h6; cases h6) h7 rfl hd kk
theorem ch_ldcS {idx i : Nat} {t : String} {bs : List Int32} (hd : decode (ch_bc f) pc = .ok (.ldc idx, 2)) (ho : (ch_nm f).cls = "ChalkWarrantsLaw") (hi : ch_lit6[i]? = some (t, bs, idx)) (kk : ch_J g f R E (pc + 2) ls (.inr (12, i, 0) :: rest) mem k) : ch_J g f R E pc ls rest mem k := by
  refine ch_go (fun p e s m args below meth c H locs lm Q hF hR hS ho' hs hL q => ?_) kk
  have hsw := ch_SWF hF
  have hlt : i < (ch_tx g).length := by
    obtain ⟨more, hm⟩ := hsw.1.1
    rw [hm, List.length_append, List.length_map]
    have := (List.getElem?_eq_some_iff.mp hi).1
    omega
  exact va_ldcS hF.1 hF.2.1 (by rw [← ho]; exact hF.2.2.2.2.1) (hsw.1.2 i _ hi) hd (q (ch_ok2 (ch_okS hlt) hs))
theorem ch_ldcS_w {idx i : Nat} {t : String} {bs : List Int32} (hd : decode (ch_bc f) pc = .ok (.ldc_w idx, 3)) (ho : (ch_nm f).cls = "ChalkWarrantsLaw") (hi : ch_lit6[i]? = some (t, bs, idx)) (kk : ch_J g f R E (pc + 3) ls (.inr (12, i, 0) :: rest) mem k) : ch_J g f R E pc ls rest mem k := by
  refine ch_go (fun p e s m args below meth c H locs lm Q hF hR hS ho' hs hL q => ?_) kk
  have hsw := ch_SWF hF
  have hlt : i < (ch_tx g).length := by
    obtain ⟨more, hm⟩ := hsw.1.1
    rw [hm, List.length_append, List.length_map]
    have := (List.getElem?_eq_some_iff.mp hi).1
    omega
  have hZ := hsw.1.2 i _ hi
  have hown : s.vm.findClass "ChalkWarrantsLaw" = some m.cls := by rw [← ho]; exact hF.2.2.2.2.1
  have kk' := q (ch_ok2 (ch_okS hlt) hs)
  intro T hT X
  obtain ⟨t1, a1, b1⟩ := kk' T hT X
  exact ⟨t1, ch_ldcWS X hF.1 hown (text := t) (a := ch_xa g (12, i, 0)) hZ.1 hZ.2 (g := F0 m pc lm (rest.map (ch_tr g))) rfl (by rw [hF.2.1]; exact hd) t1 a1, b1⟩
theorem ch_getsC {idx : Nat} (hd : decode (ch_bc f) pc = .ok (.getstatic idx, 3)) (hw : Cond.fieldLink (ch_nm f).cls idx "java/lang/String" "COMPACT_STRINGS" "Z" ∈ ch_good) (kk : ch_J g f R E (pc + 3) ls (.inl (.int 1) :: rest) mem k) : ch_J g f R E pc ls rest mem k :=
  ch_go (fun _ _ _ _ _ _ _ _ _ _ _ _ hF hR hS _ hs hL q => ch_zgets hF.1 hF.2.1 ((ch_SWF hF).2.2.1.kept (ch_fixed hR)) hF.2.2.2.2.1 (hF.2.2.2.2.2.1 _ hw) (fun _ h => h) hd (q (ch_ok1 hs))) kk
theorem ch_getsF {idx : Nat} (hd : decode (ch_bc f) pc = .ok (.getstatic idx, 3)) (hw : Cond.fieldLink (ch_nm f).cls idx "jdk/internal/util/Preconditions" "SIOOBE_FORMATTER" "Ljava/util/function/BiFunction;" ∈ ch_good) (kk : ch_J g f R E (pc + 3) ls (.inl (ch_sv g) :: rest) mem k) : ch_J g f R E pc ls rest mem k :=
  ch_go (fun _ _ _ _ _ _ _ _ _ _ _ _ hF hR hS _ hs hL q => ch_zgets hF.1 hF.2.1 ((ch_SWF hF).2.2.2.2.1.1.kept (ch_fixed hR)) hF.2.2.2.2.1 (hF.2.2.2.2.2.1 _ hw) (fun _ h => h) hd (q (ch_ok1 hs))) kk
theorem ch_gets1 {idx : Nat} (hd : decode (ch_bc f) pc = .ok (.getstatic idx, 3)) (hw : Cond.fieldLink (ch_nm f).cls idx "java/lang/Integer" "DigitOnes" "[B" ∈ ch_good) (kk : ch_J g f R E (pc + 3) ls (.inr (15, 0, 0) :: rest) mem k) : ch_J g f R E pc ls rest mem k :=
  ch_go (fun _ _ _ _ _ _ _ _ _ _ _ _ hF hR hS _ hs hL q => ch_zgets hF.1 hF.2.1 ((ch_SWF hF).2.2.2.1.1.kept (ch_fixed hR)) hF.2.2.2.2.1 (hF.2.2.2.2.2.1 _ hw) (fun _ h => h) hd (q (ch_ok2 (ch_okD (by decide)) hs))) kk
theorem ch_gets10 {idx : Nat} (hd : decode (ch_bc f) pc = .ok (.getstatic idx, 3)) (hw : Cond.fieldLink (ch_nm f).cls idx "java/lang/Integer" "DigitTens" "[B" ∈ ch_good) (kk : ch_J g f R E (pc + 3) ls (.inr (15, 1, 0) :: rest) mem k) : ch_J g f R E pc ls rest mem k :=
  ch_go (fun _ _ _ _ _ _ _ _ _ _ _ _ hF hR hS _ hs hL q => ch_zgets hF.1 hF.2.1 ((ch_SWF hF).2.2.2.1.2.kept (ch_fixed hR)) hF.2.2.2.2.1 (hF.2.2.2.2.2.1 _ hw) (fun _ h => h) hd (q (ch_ok2 (ch_okD (by decide)) hs))) kk
theorem ch_getCo {idx i : Nat} (hd : decode (ch_bc f) pc = .ok (.getfield idx, 3)) (hw : Cond.fieldLink (ch_nm f).cls idx "java/lang/String" "coder" "B" ∈ ch_good) (kk : ch_J g f R E (pc + 3) ls (.inl (.int 0) :: rest) mem k) : ch_J g f R E pc ls (.inr (12, i, 0) :: rest) mem k := by
  refine ch_go (fun p e s m args below meth c H locs lm Q hF hR hS ho hs hL q => ?_) kk
  have hi := ch_okT (ch_okh hs) hR.2.2.2
  obtain ⟨cf, kf, fi, fd, cell, h1, h2, h3, h4, h5, h6⟩ := (((ch_SWF hF).2.1.kept (ch_fixed hR)).1 i hi).2.1
  exact W.getf hF.1 hF.2.1 hF.2.2.2.2.1 (hF.2.2.2.2.2.1 _ hw) h1 h2 h3 h4 (v := .int 0) h5 rfl rfl hd (q (ch_ok1 (ch_ok0 hs)))
theorem ch_getVa {idx i : Nat} (hd : decode (ch_bc f) pc = .ok (.getfield idx, 3)) (hw : Cond.fieldLink (ch_nm f).cls idx "java/lang/String" "value" "[B" ∈ ch_good) (kk : ch_J g f R E (pc + 3) ls (.inr (13, i, 0) :: rest) mem k) : ch_J g f R E pc ls (.inr (12, i, 0) :: rest) mem k := by
  refine ch_go (fun p e s m args below meth c H locs lm Q hF hR hS ho hs hL q => ?_) kk
  have hi := ch_okT (ch_okh hs) hR.2.2.2
  obtain ⟨cf, kf, fi, fd, cell, h1, h2, h3, h4, h5, h6⟩ := (((ch_SWF hF).2.1.kept (ch_fixed hR)).1 i hi).2.2.1
  exact W.getf hF.1 hF.2.1 hF.2.2.2.2.1 (hF.2.2.2.2.2.1 _ hw) h1 h2 h3 h4 (v := .ref (ch_xa g (13, i, 0))) h5 rfl rfl hd (q (ch_ok2 (ch_okB hi) (ch_ok0 hs)))
theorem ch_blen {i : Nat} (hd : decode (ch_bc f) pc = .ok (.arraylength, 1)) (kk : ch_J g f R E (pc + 1) ls (.inl (.int (nI (ch_tn g i))) :: rest) mem k) : ch_J g f R E pc ls (.inr (13, i, 0) :: rest) mem k := by
  refine ch_go (fun p e s m args below meth c H locs lm Q hF hR hS ho hs hL q => ?_) kk
  have hi := ch_okT2 (ch_okh hs) hR.2.2.2
  obtain ⟨cell, h1, h2, h3, h4, h5, h6, h7⟩ := (((ch_SWF hF).2.1.kept (ch_fixed hR)).1 i hi).2.2.2
  rw [ch_tlen hi] at h4 h5 h6
  exact W.alen (n := nI (ch_tn g i)) hF.1 hF.2.1 h1 h2 h5 rfl rfl hd (q (ch_ok1 (ch_ok0 hs)))
theorem ch_bald {i : Nat} {x : Int32} (hd : decode (ch_bc f) pc = .ok (.baload, 1)) (hx : vp_in x (ch_tn g i)) (kk : ch_J g f R E (pc + 1) ls (.inl (.int (ch_tb g i x.toNatClampNeg)) :: rest) mem k) : ch_J g f R E pc ls (.inl (.int x) :: .inr (13, i, 0) :: rest) mem k := by
  refine ch_go (fun p e s m args below meth c H locs lm Q hF hR hS ho hs hL q => ?_) kk
  have hi := ch_okT2 (ch_okh (ch_ok0 hs)) hR.2.2.2
  obtain ⟨cell, h1, h2, h3, h4, h5, h6, h7⟩ := (((ch_SWF hF).2.1.kept (ch_fixed hR)).1 i hi).2.2.2
  rw [ch_tlen hi] at h4 h5 h6
  have hlt : x.toNatClampNeg < ch_tn g i := Nat.not_le.mp fun q => hx (Or.inr q)
  exact W.bald (v := .int (ch_tb g i x.toNatClampNeg)) hF.1 hF.2.1 h1 h2 h3 (fun q => q.elim (fun q => hx (Or.inl q)) (fun q => by omega)) (h6 _ hlt) rfl rfl hd (q (ch_ok1 (ch_ok0 (ch_ok0 hs))))
theorem ch_bdig {i : Nat} {x : Int32} (hd : decode (ch_bc f) pc = .ok (.baload, 1)) (hx : vp_in x 100) (kk : ch_J g f R E (pc + 1) ls (.inl (.int (ch_dig i x.toNatClampNeg)) :: rest) mem k) : ch_J g f R E pc ls (.inl (.int x) :: .inr (15, i, 0) :: rest) mem k := by
  refine ch_go (fun p e s m args below meth c H locs lm Q hF hR hS ho hs hL q => ?_) kk
  have hi := ch_okT3 (ch_okh (ch_ok0 hs)) hR.2.2.2
  obtain ⟨cell, h1, h2, h3, h4, h5, h6, h7⟩ := ((ch_SWF hF).2.2.2.2.2 i hi).kept (ch_fixed hR)
  have hlt : x.toNatClampNeg < 100 := Nat.not_le.mp fun q => hx (Or.inr q)
  exact W.bald (v := .int (ch_dig i x.toNatClampNeg)) hF.1 hF.2.1 h1 h2 h3 (fun q => q.elim (fun q => hx (Or.inl q)) (fun q => by omega)) (h6 _ hlt) rfl rfl hd (q (ch_ok1 (ch_ok0 (ch_ok0 hs))))
/-- a method of a text is called -/
theorem ch_callT {f' : ch_MI} {idx n i : Nat} {as : List ch_V} (hd : decode (ch_bc f) pc = .ok (.invokevirtual idx, 3)) (hsv : ch_SV f' (ch_nm f).cls idx n) (hi : Cond.instanceMethod (ch_nm f') ∈ ch_good) (hse : Cond.selects (ch_nm f').cls (ch_nm f') (ch_nm f') ∈ ch_good) (hhh : ch_hh f' = []) (hcl : (ch_nm f').cls = "java/lang/String")
    (hn : as.length = n) (hRR : ch_RR R (ch_fr f' + 1)) (hcat : (rest.map ch_cat).sum ≤ 8) (hcs : k + ch_mc f' ≤ R.cells ∧ 6 * k + 6 * ch_mc f' ≤ R.slots)
    (h : ch_C g f' (.inr (12, i, 0) :: as) mem (ch_K g f R E pc ls rest (k + ch_mc f'))) : ch_J g f R E pc ls (as.reverse ++ .inr (12, i, 0) :: rest) mem k := by
  intro p e s m args below meth c H locs lm hF hR hS ho hs hL
  obtain ⟨hrc, hrs, hfr, hlo, hws⟩ := ch_hb hsv hF.2.2.2.2.2.1 hRR
  have hts := hF.2.2.2.2.2.1
  have hso : ∀ v ∈ (.inr (12, i, 0) :: as : List ch_V), ch_ok g v := by
    intro v hv
    refine hs v ?_
    rcases List.mem_cons.mp hv with e | e
    · rw [e]; exact List.mem_append_right _ List.mem_cons_self
    · exact List.mem_append_left _ (List.mem_reverse.mpr e)
  have hs' : ∀ v ∈ rest, ch_ok g v := fun v hv => hs v (List.mem_append_right _ (List.mem_cons_of_mem _ hv))
  have hlt := ch_okT (hso _ List.mem_cons_self) hR.2.2.2
  obtain ⟨cell, c1, c2, c3, -⟩ := (((ch_SWF hF).2.1.kept (ch_fixed hR)).1 i hlt).1
  have hM := h hF.2.2.2.2.2.2.2.2.2.1 hso
  have hcw : ch_cw f' = Cond.code (ch_nm f') (ch_bc f') (ch_ml f') (ch_rt f') := by unfold ch_cw; rw [hhh]
  have hcode := hsv.1.1
  rw [hcw] at hcode
  refine ch_run (vx_runV (As := as.map (ch_tr g)) (C := (ch_nm f').cls) (rm := ch_rm f') (n := n) (bytes := ch_bc f') (maxL := ch_ml f') (ret := ch_rt f') ⟨hF.1, hF.2.1, hF.2.2.2.1, hF.2.2.2.2.1, hts⟩ hM ⟨⟨hrc, hrs, hfr, hlo, hws, by unfold ch_ws; rw [hcw]; exact List.mem_cons_self, hts _ hcode, hts _ hsv.1.2.1, hsv.1.2.2.1, ch_len hsv.2.2, hts _ hsv.2.1⟩, hts _ hi, hts _ hse⟩
    ⟨ch_PC_blind, ⟨cell, c1, c2, by rw [hcl]; exact c3⟩, ch_pre (f' := f') hF hR⟩ rfl (by rw [List.length_map]; exact hn) hL.1 ?_ (by show 2 * 0 + _ ≤ 8; rw [ch_sum]; omega) hd hcs) hF hS ho hs' hL
  show (as.reverse ++ .inr (12, i, 0) :: rest).map (ch_tr g) = _
  rw [List.map_append, List.map_reverse, List.map_cons]
  rfl
end CHT
end
section
def m_x_child : ch_MI := (⟨"ChalkWarrants", "child", "(I)I"⟩, prog_1_method_2_code, 2, (some FieldType.int), 7, 1, [])
theorem mf_x_child : ch_MF m_x_child := ⟨ch_wg 346 (by decide +kernel) (by decide +kernel), ch_wg 1 (by decide +kernel) (by decide +kernel), ⟨by decide, by decide⟩, plainFor_of_name (by decide +kernel), by decide⟩
theorem mi_x_child : Cond.instanceMethod (ch_nm m_x_child) ∈ ch_good := ch_wg 344 (by decide +kernel) (by decide +kernel)
theorem me_x_child : Cond.selects (ch_nm m_x_child).cls (ch_nm m_x_child) (ch_nm m_x_child) ∈ ch_good := ch_wg 345 (by decide +kernel) (by decide +kernel)
def m_x_chalk : ch_MI := (⟨"ChalkWarrants", "chalk", "(II)I"⟩, prog_1_method_3_code, 3, (some FieldType.int), 7, 1, [])
theorem mf_x_chalk : ch_MF m_x_chalk := ⟨ch_wg 561 (by decide +kernel) (by decide +kernel), ch_wg 1 (by decide +kernel) (by decide +kernel), ⟨by decide, by decide⟩, plainFor_of_name (by decide +kernel), by decide⟩
theorem mi_x_chalk : Cond.instanceMethod (ch_nm m_x_chalk) ∈ ch_good := ch_wg 559 (by decide +kernel) (by decide +kernel)
theorem me_x_chalk : Cond.selects (ch_nm m_x_chalk).cls (ch_nm m_x_chalk) (ch_nm m_x_chalk) ∈ ch_good := ch_wg 560 (by decide +kernel) (by decide +kernel)
def m_x_hop : ch_MI := (⟨"ChalkWarrants", "hop", "(II)I"⟩, prog_1_method_4_code, 3, (some FieldType.int), 7, 1, [])
theorem mf_x_hop : ch_MF m_x_hop := ⟨ch_wg 848 (by decide +kernel) (by decide +kernel), ch_wg 1 (by decide +kernel) (by decide +kernel), ⟨by decide, by decide⟩, plainFor_of_name (by decide +kernel), by decide⟩
theorem mi_x_hop : Cond.instanceMethod (ch_nm m_x_hop) ∈ ch_good := ch_wg 846 (by decide +kernel) (by decide +kernel)
theorem me_x_hop : Cond.selects (ch_nm m_x_hop).cls (ch_nm m_x_hop) (ch_nm m_x_hop) ∈ ch_good := ch_wg 847 (by decide +kernel) (by decide +kernel)
def m_x_warrant : ch_MI := (⟨"ChalkWarrants", "warrant", "(I)I"⟩, prog_1_method_5_code, 2, (some FieldType.int), 7, 1, [])
theorem mf_x_warrant : ch_MF m_x_warrant := ⟨ch_wg 860 (by decide +kernel) (by decide +kernel), ch_wg 1 (by decide +kernel) (by decide +kernel), ⟨by decide, by decide⟩, plainFor_of_name (by decide +kernel), by decide⟩
theorem mi_x_warrant : Cond.instanceMethod (ch_nm m_x_warrant) ∈ ch_good := ch_wg 858 (by decide +kernel) (by decide +kernel)
theorem me_x_warrant : Cond.selects (ch_nm m_x_warrant).cls (ch_nm m_x_warrant) (ch_nm m_x_warrant) ∈ ch_good := ch_wg 859 (by decide +kernel) (by decide +kernel)
def m_x_strike : ch_MI := (⟨"ChalkWarrants", "strike", "(I)I"⟩, prog_1_method_6_code, 2, (some FieldType.int), 7, 1, [])
theorem mf_x_strike : ch_MF m_x_strike := ⟨ch_wg 1030 (by decide +kernel) (by decide +kernel), ch_wg 1 (by decide +kernel) (by decide +kernel), ⟨by decide, by decide⟩, plainFor_of_name (by decide +kernel), by decide⟩
theorem mi_x_strike : Cond.instanceMethod (ch_nm m_x_strike) ∈ ch_good := ch_wg 1028 (by decide +kernel) (by decide +kernel)
theorem me_x_strike : Cond.selects (ch_nm m_x_strike).cls (ch_nm m_x_strike) (ch_nm m_x_strike) ∈ ch_good := ch_wg 1029 (by decide +kernel) (by decide +kernel)
def m_x_rain : ch_MI := (⟨"ChalkWarrants", "rain", "(I)I"⟩, prog_1_method_7_code, 2, (some FieldType.int), 7, 1, [])
theorem mf_x_rain : ch_MF m_x_rain := ⟨ch_wg 1037 (by decide +kernel) (by decide +kernel), ch_wg 1 (by decide +kernel) (by decide +kernel), ⟨by decide, by decide⟩, plainFor_of_name (by decide +kernel), by decide⟩
theorem mi_x_rain : Cond.instanceMethod (ch_nm m_x_rain) ∈ ch_good := ch_wg 1035 (by decide +kernel) (by decide +kernel)
theorem me_x_rain : Cond.selects (ch_nm m_x_rain).cls (ch_nm m_x_rain) (ch_nm m_x_rain) ∈ ch_good := ch_wg 1036 (by decide +kernel) (by decide +kernel)
def m_x_term : ch_MI := (⟨"ChalkWarrants", "term", "()I"⟩, prog_1_method_8_code, 1, (some FieldType.int), 7, 1, [])
theorem mf_x_term : ch_MF m_x_term := ⟨ch_wg 1318 (by decide +kernel) (by decide +kernel), ch_wg 1 (by decide +kernel) (by decide +kernel), ⟨by decide, by decide⟩, plainFor_of_name (by decide +kernel), by decide⟩
theorem mi_x_term : Cond.instanceMethod (ch_nm m_x_term) ∈ ch_good := ch_wg 1316 (by decide +kernel) (by decide +kernel)
theorem me_x_term : Cond.selects (ch_nm m_x_term).cls (ch_nm m_x_term) (ch_nm m_x_term) ∈ ch_good := ch_wg 1317 (by decide +kernel) (by decide +kernel)
def m_x_give : ch_MI := (⟨"ChalkWarrants", "give", "(III)I"⟩, prog_1_method_9_code, 4, (some FieldType.int), 7, 1, [])
theorem mf_x_give : ch_MF m_x_give := ⟨ch_wg 1044 (by decide +kernel) (by decide +kernel), ch_wg 1 (by decide +kernel) (by decide +kernel), ⟨by decide, by decide⟩, plainFor_of_name (by decide +kernel), by decide⟩
theorem mi_x_give : Cond.instanceMethod (ch_nm m_x_give) ∈ ch_good := ch_wg 1042 (by decide +kernel) (by decide +kernel)
theorem me_x_give : Cond.selects (ch_nm m_x_give).cls (ch_nm m_x_give) (ch_nm m_x_give) ∈ ch_good := ch_wg 1043 (by decide +kernel) (by decide +kernel)
def m_x_squareOf : ch_MI := (⟨"ChalkWarrants", "squareOf", "(IZ)I"⟩, prog_1_method_10_code, 3, (some FieldType.int), 6, 1, [])
theorem mf_x_squareOf : ch_MF m_x_squareOf := ⟨ch_wg 1329 (by decide +kernel) (by decide +kernel), ch_wg 1 (by decide +kernel) (by decide +kernel), ⟨by decide, by decide⟩, plainFor_of_name (by decide +kernel), by decide⟩
theorem mi_x_squareOf : Cond.instanceMethod (ch_nm m_x_squareOf) ∈ ch_good := ch_wg 1327 (by decide +kernel) (by decide +kernel)
theorem me_x_squareOf : Cond.selects (ch_nm m_x_squareOf).cls (ch_nm m_x_squareOf) (ch_nm m_x_squareOf) ∈ ch_good := ch_wg 1328 (by decide +kernel) (by decide +kernel)
def m_x_childOf : ch_MI := (⟨"ChalkWarrants", "childOf", "(II)I"⟩, prog_1_method_11_code, 3, (some FieldType.int), 7, 2, [])
theorem mf_x_childOf : ch_MF m_x_childOf := ⟨ch_wg 602 (by decide +kernel) (by decide +kernel), ch_wg 1 (by decide +kernel) (by decide +kernel), ⟨by decide, by decide⟩, plainFor_of_name (by decide +kernel), by decide⟩
theorem mi_x_childOf : Cond.instanceMethod (ch_nm m_x_childOf) ∈ ch_good := ch_wg 600 (by decide +kernel) (by decide +kernel)
theorem me_x_childOf : Cond.selects (ch_nm m_x_childOf).cls (ch_nm m_x_childOf) (ch_nm m_x_childOf) ∈ ch_good := ch_wg 601 (by decide +kernel) (by decide +kernel)
def m_x_squares : ch_MI := (⟨"ChalkWarrants", "squares", "(I)I"⟩, prog_1_method_12_code, 2, (some FieldType.int), 7, 1, [])
theorem mf_x_squares : ch_MF m_x_squares := ⟨ch_wg 927 (by decide +kernel) (by decide +kernel), ch_wg 1 (by decide +kernel) (by decide +kernel), ⟨by decide, by decide⟩, plainFor_of_name (by decide +kernel), by decide⟩
theorem mi_x_squares : Cond.instanceMethod (ch_nm m_x_squares) ∈ ch_good := ch_wg 925 (by decide +kernel) (by decide +kernel)
theorem me_x_squares : Cond.selects (ch_nm m_x_squares).cls (ch_nm m_x_squares) (ch_nm m_x_squares) ∈ ch_good := ch_wg 926 (by decide +kernel) (by decide +kernel)
def m_x_warrantAt : ch_MI := (⟨"ChalkWarrants", "warrantAt", "(I)I"⟩, prog_1_method_13_code, 2, (some FieldType.int), 6, 1, [])
theorem mf_x_warrantAt : ch_MF m_x_warrantAt := ⟨ch_wg 997 (by decide +kernel) (by decide +kernel), ch_wg 1 (by decide +kernel) (by decide +kernel), ⟨by decide, by decide⟩, plainFor_of_name (by decide +kernel), by decide⟩
theorem mi_x_warrantAt : Cond.instanceMethod (ch_nm m_x_warrantAt) ∈ ch_good := ch_wg 995 (by decide +kernel) (by decide +kernel)
theorem me_x_warrantAt : Cond.selects (ch_nm m_x_warrantAt).cls (ch_nm m_x_warrantAt) (ch_nm m_x_warrantAt) ∈ ch_good := ch_wg 996 (by decide +kernel) (by decide +kernel)
def m_x_fewest : ch_MI := (⟨"ChalkWarrants", "fewest", "(I)I"⟩, prog_1_method_14_code, 2, (some FieldType.int), 7, 1, [])
theorem mf_x_fewest : ch_MF m_x_fewest := ⟨ch_wg 649 (by decide +kernel) (by decide +kernel), ch_wg 1 (by decide +kernel) (by decide +kernel), ⟨by decide, by decide⟩, plainFor_of_name (by decide +kernel), by decide⟩
theorem mi_x_fewest : Cond.instanceMethod (ch_nm m_x_fewest) ∈ ch_good := ch_wg 647 (by decide +kernel) (by decide +kernel)
theorem me_x_fewest : Cond.selects (ch_nm m_x_fewest).cls (ch_nm m_x_fewest) (ch_nm m_x_fewest) ∈ ch_good := ch_wg 648 (by decide +kernel) (by decide +kernel)
def m_x_fewestAgain : ch_MI := (⟨"ChalkWarrants", "fewestAgain", "(I)I"⟩, prog_1_method_15_code, 2, (some FieldType.int), 7, 1, [])
theorem mf_x_fewestAgain : ch_MF m_x_fewestAgain := ⟨ch_wg 938 (by decide +kernel) (by decide +kernel), ch_wg 1 (by decide +kernel) (by decide +kernel), ⟨by decide, by decide⟩, plainFor_of_name (by decide +kernel), by decide⟩
theorem mi_x_fewestAgain : Cond.instanceMethod (ch_nm m_x_fewestAgain) ∈ ch_good := ch_wg 936 (by decide +kernel) (by decide +kernel)
theorem me_x_fewestAgain : Cond.selects (ch_nm m_x_fewestAgain).cls (ch_nm m_x_fewestAgain) (ch_nm m_x_fewestAgain) ∈ ch_good := ch_wg 937 (by decide +kernel) (by decide +kernel)
def m_x_step : ch_MI := (⟨"ChalkWarrants", "step", "(II)I"⟩, prog_1_method_16_code, 3, (some FieldType.int), 7, 2, [])
theorem mf_x_step : ch_MF m_x_step := ⟨ch_wg 670 (by decide +kernel) (by decide +kernel), ch_wg 1 (by decide +kernel) (by decide +kernel), ⟨by decide, by decide⟩, plainFor_of_name (by decide +kernel), by decide⟩
theorem mi_x_step : Cond.instanceMethod (ch_nm m_x_step) ∈ ch_good := ch_wg 668 (by decide +kernel) (by decide +kernel)
theorem me_x_step : Cond.selects (ch_nm m_x_step).cls (ch_nm m_x_step) (ch_nm m_x_step) ∈ ch_good := ch_wg 669 (by decide +kernel) (by decide +kernel)
def m_x_wouldTread : ch_MI := (⟨"ChalkWarrants", "wouldTread", "(II)I"⟩, prog_1_method_17_code, 3, (some FieldType.int), 7, 2, [])
theorem mf_x_wouldTread : ch_MF m_x_wouldTread := ⟨ch_wg 1336 (by decide +kernel) (by decide +kernel), ch_wg 1 (by decide +kernel) (by decide +kernel), ⟨by decide, by decide⟩, plainFor_of_name (by decide +kernel), by decide⟩
theorem mi_x_wouldTread : Cond.instanceMethod (ch_nm m_x_wouldTread) ∈ ch_good := ch_wg 1334 (by decide +kernel) (by decide +kernel)
theorem me_x_wouldTread : Cond.selects (ch_nm m_x_wouldTread).cls (ch_nm m_x_wouldTread) (ch_nm m_x_wouldTread) ∈ ch_good := ch_wg 1335 (by decide +kernel) (by decide +kernel)
def m_x_longest : ch_MI := (⟨"ChalkWarrants", "longest", "(I)I"⟩, prog_1_method_18_code, 2, (some FieldType.int), 7, 1, [])
theorem mf_x_longest : ch_MF m_x_longest := ⟨ch_wg 700 (by decide +kernel) (by decide +kernel), ch_wg 1 (by decide +kernel) (by decide +kernel), ⟨by decide, by decide⟩, plainFor_of_name (by decide +kernel), by decide⟩
theorem mi_x_longest : Cond.instanceMethod (ch_nm m_x_longest) ∈ ch_good := ch_wg 698 (by decide +kernel) (by decide +kernel)
theorem me_x_longest : Cond.selects (ch_nm m_x_longest).cls (ch_nm m_x_longest) (ch_nm m_x_longest) ∈ ch_good := ch_wg 699 (by decide +kernel) (by decide +kernel)
def m_x_gap : ch_MI := (⟨"ChalkWarrants", "gap", "()I"⟩, prog_1_method_19_code, 1, (some FieldType.int), 2, 0, [])
theorem mf_x_gap : ch_MF m_x_gap := ⟨ch_wg 313 (by decide +kernel) (by decide +kernel), ch_wg 1 (by decide +kernel) (by decide +kernel), ⟨by decide, by decide⟩, plainFor_of_name (by decide +kernel), by decide⟩
theorem mi_x_gap : Cond.instanceMethod (ch_nm m_x_gap) ∈ ch_good := ch_wg 311 (by decide +kernel) (by decide +kernel)
theorem me_x_gap : Cond.selects (ch_nm m_x_gap).cls (ch_nm m_x_gap) (ch_nm m_x_gap) ∈ ch_good := ch_wg 312 (by decide +kernel) (by decide +kernel)
def m_x_wouldEnd : ch_MI := (⟨"ChalkWarrants", "wouldEnd", "(I)I"⟩, prog_1_method_20_code, 2, (some FieldType.int), 6, 1, [])
theorem mf_x_wouldEnd : ch_MF m_x_wouldEnd := ⟨ch_wg 989 (by decide +kernel) (by decide +kernel), ch_wg 1 (by decide +kernel) (by decide +kernel), ⟨by decide, by decide⟩, plainFor_of_name (by decide +kernel), by decide⟩
theorem mi_x_wouldEnd : Cond.instanceMethod (ch_nm m_x_wouldEnd) ∈ ch_good := ch_wg 987 (by decide +kernel) (by decide +kernel)
theorem me_x_wouldEnd : Cond.selects (ch_nm m_x_wouldEnd).cls (ch_nm m_x_wouldEnd) (ch_nm m_x_wouldEnd) ∈ ch_good := ch_wg 988 (by decide +kernel) (by decide +kernel)
def m_x_rainFor : ch_MI := (⟨"ChalkWarrants", "rainFor", "(I)I"⟩, prog_1_method_21_code, 2, (some FieldType.int), 7, 2, [])
theorem mf_x_rainFor : ch_MF m_x_rainFor := ⟨ch_wg 951 (by decide +kernel) (by decide +kernel), ch_wg 1 (by decide +kernel) (by decide +kernel), ⟨by decide, by decide⟩, plainFor_of_name (by decide +kernel), by decide⟩
theorem mi_x_rainFor : Cond.instanceMethod (ch_nm m_x_rainFor) ∈ ch_good := ch_wg 949 (by decide +kernel) (by decide +kernel)
theorem me_x_rainFor : Cond.selects (ch_nm m_x_rainFor).cls (ch_nm m_x_rainFor) (ch_nm m_x_rainFor) ∈ ch_good := ch_wg 950 (by decide +kernel) (by decide +kernel)
def m_x_wouldLose : ch_MI := (⟨"ChalkWarrants", "wouldLose", "(I)I"⟩, prog_1_method_22_code, 2, (some FieldType.int), 7, 1, [])
theorem mf_x_wouldLose : ch_MF m_x_wouldLose := ⟨ch_wg 958 (by decide +kernel) (by decide +kernel), ch_wg 1 (by decide +kernel) (by decide +kernel), ⟨by decide, by decide⟩, plainFor_of_name (by decide +kernel), by decide⟩
theorem mi_x_wouldLose : Cond.instanceMethod (ch_nm m_x_wouldLose) ∈ ch_good := ch_wg 956 (by decide +kernel) (by decide +kernel)
theorem me_x_wouldLose : Cond.selects (ch_nm m_x_wouldLose).cls (ch_nm m_x_wouldLose) (ch_nm m_x_wouldLose) ∈ ch_good := ch_wg 957 (by decide +kernel) (by decide +kernel)
def m_x_termsFor : ch_MI := (⟨"ChalkWarrants", "termsFor", "(I)I"⟩, prog_1_method_23_code, 4, (some FieldType.int), 7, 2, [])
theorem mf_x_termsFor : ch_MF m_x_termsFor := ⟨ch_wg 965 (by decide +kernel) (by decide +kernel), ch_wg 1 (by decide +kernel) (by decide +kernel), ⟨by decide, by decide⟩, plainFor_of_name (by decide +kernel), by decide⟩
theorem mi_x_termsFor : Cond.instanceMethod (ch_nm m_x_termsFor) ∈ ch_good := ch_wg 963 (by decide +kernel) (by decide +kernel)
theorem me_x_termsFor : Cond.selects (ch_nm m_x_termsFor).cls (ch_nm m_x_termsFor) (ch_nm m_x_termsFor) ∈ ch_good := ch_wg 964 (by decide +kernel) (by decide +kernel)
def m_x_ranked : ch_MI := (⟨"ChalkWarrants", "ranked", "(II)I"⟩, prog_1_method_24_code, 5, (some FieldType.int), 6, 1, [])
theorem mf_x_ranked : ch_MF m_x_ranked := ⟨ch_wg 973 (by decide +kernel) (by decide +kernel), ch_wg 1 (by decide +kernel) (by decide +kernel), ⟨by decide, by decide⟩, plainFor_of_name (by decide +kernel), by decide⟩
theorem mi_x_ranked : Cond.instanceMethod (ch_nm m_x_ranked) ∈ ch_good := ch_wg 971 (by decide +kernel) (by decide +kernel)
theorem me_x_ranked : Cond.selects (ch_nm m_x_ranked).cls (ch_nm m_x_ranked) (ch_nm m_x_ranked) ∈ ch_good := ch_wg 972 (by decide +kernel) (by decide +kernel)
def m_x_append : ch_MI := (⟨"ChalkWarrants", "append", "(C)I"⟩, prog_1_method_26_code, 2, (some FieldType.int), 6, 1, [])
theorem mf_x_append : ch_MF m_x_append := ⟨ch_wg 708 (by decide +kernel) (by decide +kernel), ch_wg 1 (by decide +kernel) (by decide +kernel), ⟨by decide, by decide⟩, plainFor_of_name (by decide +kernel), by decide⟩
theorem mi_x_append : Cond.instanceMethod (ch_nm m_x_append) ∈ ch_good := ch_wg 706 (by decide +kernel) (by decide +kernel)
theorem me_x_append : Cond.selects (ch_nm m_x_append).cls (ch_nm m_x_append) (ch_nm m_x_append) ∈ ch_good := ch_wg 707 (by decide +kernel) (by decide +kernel)
def m_x_commands : ch_MI := (⟨"ChalkWarrants", "commands", "()I"⟩, prog_1_method_27_code, 2, (some FieldType.int), 7, 1, [])
theorem mf_x_commands : ch_MF m_x_commands := ⟨ch_wg 734 (by decide +kernel) (by decide +kernel), ch_wg 1 (by decide +kernel) (by decide +kernel), ⟨by decide, by decide⟩, plainFor_of_name (by decide +kernel), by decide⟩
theorem mi_x_commands : Cond.instanceMethod (ch_nm m_x_commands) ∈ ch_good := ch_wg 732 (by decide +kernel) (by decide +kernel)
theorem me_x_commands : Cond.selects (ch_nm m_x_commands).cls (ch_nm m_x_commands) (ch_nm m_x_commands) ∈ ch_good := ch_wg 733 (by decide +kernel) (by decide +kernel)
def m_x_faultPosition : ch_MI := (⟨"ChalkWarrants", "faultPosition", "()I"⟩, prog_1_method_28_code, 1, (some FieldType.int), 0, 0, [])
theorem mf_x_faultPosition : ch_MF m_x_faultPosition := ⟨ch_wg 324 (by decide +kernel) (by decide +kernel), ch_wg 1 (by decide +kernel) (by decide +kernel), ⟨by decide, by decide⟩, plainFor_of_name (by decide +kernel), by decide⟩
theorem mi_x_faultPosition : Cond.instanceMethod (ch_nm m_x_faultPosition) ∈ ch_good := ch_wg 322 (by decide +kernel) (by decide +kernel)
theorem me_x_faultPosition : Cond.selects (ch_nm m_x_faultPosition).cls (ch_nm m_x_faultPosition) (ch_nm m_x_faultPosition) ∈ ch_good := ch_wg 323 (by decide +kernel) (by decide +kernel)
def m_x_reason : ch_MI := (⟨"ChalkWarrants", "reason", "(I)I"⟩, prog_1_method_29_code, 2, (some FieldType.int), 6, 1, [])
theorem mf_x_reason : ch_MF m_x_reason := ⟨ch_wg 832 (by decide +kernel) (by decide +kernel), ch_wg 1 (by decide +kernel) (by decide +kernel), ⟨by decide, by decide⟩, plainFor_of_name (by decide +kernel), by decide⟩
theorem mi_x_reason : Cond.instanceMethod (ch_nm m_x_reason) ∈ ch_good := ch_wg 830 (by decide +kernel) (by decide +kernel)
theorem me_x_reason : Cond.selects (ch_nm m_x_reason).cls (ch_nm m_x_reason) (ch_nm m_x_reason) ∈ ch_good := ch_wg 831 (by decide +kernel) (by decide +kernel)
def m_x_line : ch_MI := (⟨"ChalkWarrants", "line", "()I"⟩, prog_1_method_30_code, 2, (some FieldType.int), 2, 0, [])
theorem mf_x_line : ch_MF m_x_line := ⟨ch_wg 1001 (by decide +kernel) (by decide +kernel), ch_wg 1 (by decide +kernel) (by decide +kernel), ⟨by decide, by decide⟩, plainFor_of_name (by decide +kernel), by decide⟩
theorem mi_x_line : Cond.instanceMethod (ch_nm m_x_line) ∈ ch_good := ch_wg 999 (by decide +kernel) (by decide +kernel)
theorem me_x_line : Cond.selects (ch_nm m_x_line).cls (ch_nm m_x_line) (ch_nm m_x_line) ∈ ch_good := ch_wg 1000 (by decide +kernel) (by decide +kernel)
def m_x_warrants : ch_MI := (⟨"ChalkWarrants", "warrants", "()I"⟩, prog_1_method_31_code, 3, (some FieldType.int), 2, 0, [])
theorem mf_x_warrants : ch_MF m_x_warrants := ⟨ch_wg 1020 (by decide +kernel) (by decide +kernel), ch_wg 1 (by decide +kernel) (by decide +kernel), ⟨by decide, by decide⟩, plainFor_of_name (by decide +kernel), by decide⟩
theorem mi_x_warrants : Cond.instanceMethod (ch_nm m_x_warrants) ∈ ch_good := ch_wg 1018 (by decide +kernel) (by decide +kernel)
theorem me_x_warrants : Cond.selects (ch_nm m_x_warrants).cls (ch_nm m_x_warrants) (ch_nm m_x_warrants) ∈ ch_good := ch_wg 1019 (by decide +kernel) (by decide +kernel)
def m_x_character : ch_MI := (⟨"ChalkWarrants", "character", "(I)C"⟩, prog_1_method_32_code, 2, (some FieldType.char), 6, 1, [])
theorem mf_x_character : ch_MF m_x_character := ⟨ch_wg 1016 (by decide +kernel) (by decide +kernel), ch_wg 1 (by decide +kernel) (by decide +kernel), ⟨by decide, by decide⟩, plainFor_of_name (by decide +kernel), by decide⟩
theorem mi_x_character : Cond.instanceMethod (ch_nm m_x_character) ∈ ch_good := ch_wg 1014 (by decide +kernel) (by decide +kernel)
theorem me_x_character : Cond.selects (ch_nm m_x_character).cls (ch_nm m_x_character) (ch_nm m_x_character) ∈ ch_good := ch_wg 1015 (by decide +kernel) (by decide +kernel)
def m_x_meanChalk : ch_MI := (⟨"ChalkWarrants", "meanChalk", "()D"⟩, prog_1_method_33_code, 2, (some FieldType.double), 6, 1, [])
theorem mf_x_meanChalk : ch_MF m_x_meanChalk := ⟨ch_wg 885 (by decide +kernel) (by decide +kernel), ch_wg 1 (by decide +kernel) (by decide +kernel), ⟨by decide, by decide⟩, plainFor_of_name (by decide +kernel), by decide⟩
theorem mi_x_meanChalk : Cond.instanceMethod (ch_nm m_x_meanChalk) ∈ ch_good := ch_wg 883 (by decide +kernel) (by decide +kernel)
theorem me_x_meanChalk : Cond.selects (ch_nm m_x_meanChalk).cls (ch_nm m_x_meanChalk) (ch_nm m_x_meanChalk) ∈ ch_good := ch_wg 884 (by decide +kernel) (by decide +kernel)
def m_x_ownedShare : ch_MI := (⟨"ChalkWarrants", "ownedShare", "()F"⟩, prog_1_method_34_code, 1, (some FieldType.float), 1, 0, [])
theorem mf_x_ownedShare : ch_MF m_x_ownedShare := ⟨ch_wg 909 (by decide +kernel) (by decide +kernel), ch_wg 1 (by decide +kernel) (by decide +kernel), ⟨by decide, by decide⟩, plainFor_of_name (by decide +kernel), by decide⟩
theorem mi_x_ownedShare : Cond.instanceMethod (ch_nm m_x_ownedShare) ∈ ch_good := ch_wg 907 (by decide +kernel) (by decide +kernel)
theorem me_x_ownedShare : Cond.selects (ch_nm m_x_ownedShare).cls (ch_nm m_x_ownedShare) (ch_nm m_x_ownedShare) ∈ ch_good := ch_wg 908 (by decide +kernel) (by decide +kernel)
def m_x_account : ch_MI := (⟨"ChalkWarrants", "account", "(I)I"⟩, prog_1_method_35_code, 2, (some FieldType.int), 6, 1, [])
theorem mf_x_account : ch_MF m_x_account := ⟨ch_wg 797 (by decide +kernel) (by decide +kernel), ch_wg 1 (by decide +kernel) (by decide +kernel), ⟨by decide, by decide⟩, plainFor_of_name (by decide +kernel), by decide⟩
theorem mi_x_account : Cond.instanceMethod (ch_nm m_x_account) ∈ ch_good := ch_wg 795 (by decide +kernel) (by decide +kernel)
theorem me_x_account : Cond.selects (ch_nm m_x_account).cls (ch_nm m_x_account) (ch_nm m_x_account) ∈ ch_good := ch_wg 796 (by decide +kernel) (by decide +kernel)
def m_x_undo : ch_MI := (⟨"ChalkWarrants", "undo", "()I"⟩, prog_1_method_36_code, 1, (some FieldType.int), 6, 1, [])
theorem mf_x_undo : ch_MF m_x_undo := ⟨ch_wg 808 (by decide +kernel) (by decide +kernel), ch_wg 1 (by decide +kernel) (by decide +kernel), ⟨by decide, by decide⟩, plainFor_of_name (by decide +kernel), by decide⟩
theorem mi_x_undo : Cond.instanceMethod (ch_nm m_x_undo) ∈ ch_good := ch_wg 806 (by decide +kernel) (by decide +kernel)
theorem me_x_undo : Cond.selects (ch_nm m_x_undo).cls (ch_nm m_x_undo) (ch_nm m_x_undo) ∈ ch_good := ch_wg 807 (by decide +kernel) (by decide +kernel)
def m_x_save : ch_MI := (⟨"ChalkWarrants", "save", "()I"⟩, prog_1_method_37_code, 1, (some FieldType.int), 2, 0, [])
theorem mf_x_save : ch_MF m_x_save := ⟨ch_wg 328 (by decide +kernel) (by decide +kernel), ch_wg 1 (by decide +kernel) (by decide +kernel), ⟨by decide, by decide⟩, plainFor_of_name (by decide +kernel), by decide⟩
theorem mi_x_save : Cond.instanceMethod (ch_nm m_x_save) ∈ ch_good := ch_wg 326 (by decide +kernel) (by decide +kernel)
theorem me_x_save : Cond.selects (ch_nm m_x_save).cls (ch_nm m_x_save) (ch_nm m_x_save) ∈ ch_good := ch_wg 327 (by decide +kernel) (by decide +kernel)
def m_x_restore : ch_MI := (⟨"ChalkWarrants", "restore", "()I"⟩, prog_1_method_38_code, 1, (some FieldType.int), 6, 1, [])
theorem mf_x_restore : ch_MF m_x_restore := ⟨ch_wg 819 (by decide +kernel) (by decide +kernel), ch_wg 1 (by decide +kernel) (by decide +kernel), ⟨by decide, by decide⟩, plainFor_of_name (by decide +kernel), by decide⟩
theorem mi_x_restore : Cond.instanceMethod (ch_nm m_x_restore) ∈ ch_good := ch_wg 817 (by decide +kernel) (by decide +kernel)
theorem me_x_restore : Cond.selects (ch_nm m_x_restore).cls (ch_nm m_x_restore) (ch_nm m_x_restore) ∈ ch_good := ch_wg 818 (by decide +kernel) (by decide +kernel)
def m_x_checkChild : ch_MI := (⟨"ChalkWarrants", "checkChild", "(I)V"⟩, prog_1_method_39_code, 2, none, 6, 1, [])
theorem mf_x_checkChild : ch_MF m_x_checkChild := ⟨ch_wg 606 (by decide +kernel) (by decide +kernel), ch_wg 1 (by decide +kernel) (by decide +kernel), ⟨by decide, by decide⟩, plainFor_of_name (by decide +kernel), by decide⟩
theorem mi_x_checkChild : Cond.instanceMethod (ch_nm m_x_checkChild) ∈ ch_good := ch_wg 605 (by decide +kernel) (by decide +kernel)
theorem me_x_checkChild : Cond.selects (ch_nm m_x_checkChild).cls (ch_nm m_x_checkChild) (ch_nm m_x_checkChild) ∈ ch_good := ch_wp (q := (ch_nm m_x_checkChild, 14)) 24 (by decide +kernel) (by decide +kernel)
def m_x_change : ch_MI := (⟨"ChalkWarrants", "change", "()I"⟩, prog_1_method_40_code, 1, (some FieldType.int), 6, 1, [])
theorem mf_x_change : ch_MF m_x_change := ⟨ch_wg 354 (by decide +kernel) (by decide +kernel), ch_wg 1 (by decide +kernel) (by decide +kernel), ⟨by decide, by decide⟩, plainFor_of_name (by decide +kernel), by decide⟩
theorem mi_x_change : Cond.instanceMethod (ch_nm m_x_change) ∈ ch_good := ch_wg 353 (by decide +kernel) (by decide +kernel)
theorem me_x_change : Cond.selects (ch_nm m_x_change).cls (ch_nm m_x_change) (ch_nm m_x_change) ∈ ch_good := ch_wp (q := (ch_nm m_x_change, 14)) 0 (by decide +kernel) (by decide +kernel)
def m_x_carryOutText : ch_MI := (⟨"ChalkWarrants", "carryOutText", "()I"⟩, prog_1_method_41_code, 2, (some FieldType.int), 6, 0, [])
theorem mf_x_carryOutText : ch_MF m_x_carryOutText := ⟨ch_wg 788 (by decide +kernel) (by decide +kernel), ch_wg 1 (by decide +kernel) (by decide +kernel), ⟨by decide, by decide⟩, plainFor_of_name (by decide +kernel), by decide⟩
theorem mi_x_carryOutText : Cond.instanceMethod (ch_nm m_x_carryOutText) ∈ ch_good := ch_wg 787 (by decide +kernel) (by decide +kernel)
theorem me_x_carryOutText : Cond.selects (ch_nm m_x_carryOutText).cls (ch_nm m_x_carryOutText) (ch_nm m_x_carryOutText) ∈ ch_good := ch_wp (q := (ch_nm m_x_carryOutText, 14)) 36 (by decide +kernel) (by decide +kernel)
def m_x_putBlankBetween : ch_MI := (⟨"ChalkWarrants", "putBlankBetween", "()V"⟩, prog_1_method_42_code, 1, none, 1, 0, [])
theorem mf_x_putBlankBetween : ch_MF m_x_putBlankBetween := ⟨ch_wg 1005 (by decide +kernel) (by decide +kernel), ch_wg 1 (by decide +kernel) (by decide +kernel), ⟨by decide, by decide⟩, plainFor_of_name (by decide +kernel), by decide⟩
theorem mi_x_putBlankBetween : Cond.instanceMethod (ch_nm m_x_putBlankBetween) ∈ ch_good := ch_wg 1004 (by decide +kernel) (by decide +kernel)
theorem me_x_putBlankBetween : Cond.selects (ch_nm m_x_putBlankBetween).cls (ch_nm m_x_putBlankBetween) (ch_nm m_x_putBlankBetween) ∈ ch_good := ch_wp (q := (ch_nm m_x_putBlankBetween, 14)) 38 (by decide +kernel) (by decide +kernel)
def m_x_putPair : ch_MI := (⟨"ChalkWarrants", "putPair", "(ICI)V"⟩, prog_1_method_43_code, 4, none, 1, 0, [])
theorem mf_x_putPair : ch_MF m_x_putPair := ⟨ch_wg 1009 (by decide +kernel) (by decide +kernel), ch_wg 1 (by decide +kernel) (by decide +kernel), ⟨by decide, by decide⟩, plainFor_of_name (by decide +kernel), by decide⟩
theorem mi_x_putPair : Cond.instanceMethod (ch_nm m_x_putPair) ∈ ch_good := ch_wg 1008 (by decide +kernel) (by decide +kernel)
theorem me_x_putPair : Cond.selects (ch_nm m_x_putPair).cls (ch_nm m_x_putPair) (ch_nm m_x_putPair) ∈ ch_good := ch_wp (q := (ch_nm m_x_putPair, 14)) 39 (by decide +kernel) (by decide +kernel)
def m_c_set : ch_MI := (⟨"ChalkWarrants$Command", "set", "(IIII)V"⟩, prog_2_method_2_code, 5, none, 0, 0, [])
theorem mf_c_set : ch_MF m_c_set := ⟨ch_wg 350 (by decide +kernel) (by decide +kernel), ch_wg 5 (by decide +kernel) (by decide +kernel), ⟨by decide, by decide⟩, plainFor_of_name (by decide +kernel), by decide⟩
theorem mi_c_set : Cond.instanceMethod (ch_nm m_c_set) ∈ ch_good := ch_wg 348 (by decide +kernel) (by decide +kernel)
theorem me_c_set : Cond.selects (ch_nm m_c_set).cls (ch_nm m_c_set) (ch_nm m_c_set) ∈ ch_good := ch_wg 349 (by decide +kernel) (by decide +kernel)
def m_p_keep : ch_MI := (⟨"ChalkWarrants$Past", "keep", "(LChalkWarrants$Yard;)V"⟩, prog_3_method_2_code, 2, none, 2, 0, [])
theorem mf_p_keep : ch_MF m_p_keep := ⟨ch_wg 494 (by decide +kernel) (by decide +kernel), ch_wg 3 (by decide +kernel) (by decide +kernel), ⟨by decide, by decide⟩, plainFor_of_name (by decide +kernel), by decide⟩
theorem mi_p_keep : Cond.instanceMethod (ch_nm m_p_keep) ∈ ch_good := ch_wg 492 (by decide +kernel) (by decide +kernel)
theorem me_p_keep : Cond.selects (ch_nm m_p_keep).cls (ch_nm m_p_keep) (ch_nm m_p_keep) ∈ ch_good := ch_wg 493 (by decide +kernel) (by decide +kernel)
def m_p_giveBack : ch_MI := (⟨"ChalkWarrants$Past", "giveBack", "(LChalkWarrants$Yard;)V"⟩, prog_3_method_3_code, 2, none, 2, 0, [])
theorem mf_p_giveBack : ch_MF m_p_giveBack := ⟨ch_wg 812 (by decide +kernel) (by decide +kernel), ch_wg 3 (by decide +kernel) (by decide +kernel), ⟨by decide, by decide⟩, plainFor_of_name (by decide +kernel), by decide⟩
theorem mi_p_giveBack : Cond.instanceMethod (ch_nm m_p_giveBack) ∈ ch_good := ch_wg 810 (by decide +kernel) (by decide +kernel)
theorem me_p_giveBack : Cond.selects (ch_nm m_p_giveBack).cls (ch_nm m_p_giveBack) (ch_nm m_p_giveBack) ∈ ch_good := ch_wg 811 (by decide +kernel) (by decide +kernel)
def m_d_findFault : ch_MI := (⟨"ChalkWarrants$Reader", "findFault", "(LChalkWarrants$Signs;LChalkWarrants$Command;)I"⟩, prog_4_method_2_code, 4, (some FieldType.int), 6, 0, [])
theorem mf_d_findFault : ch_MF m_d_findFault := ⟨ch_wg 738 (by decide +kernel) (by decide +kernel), ch_wg 8 (by decide +kernel) (by decide +kernel), ⟨by decide, by decide⟩, plainFor_of_name (by decide +kernel), by decide⟩
theorem mi_d_findFault : Cond.instanceMethod (ch_nm m_d_findFault) ∈ ch_good := ch_wg 736 (by decide +kernel) (by decide +kernel)
theorem me_d_findFault : Cond.selects (ch_nm m_d_findFault).cls (ch_nm m_d_findFault) (ch_nm m_d_findFault) ∈ ch_good := ch_wg 737 (by decide +kernel) (by decide +kernel)
def m_d_takeCommand : ch_MI := (⟨"ChalkWarrants$Reader", "takeCommand", "(LChalkWarrants$Signs;LChalkWarrants$Command;)Z"⟩, prog_4_method_3_code, 4, (some FieldType.boolean), 5, 0, [])
theorem mf_d_takeCommand : ch_MF m_d_takeCommand := ⟨ch_wg 742 (by decide +kernel) (by decide +kernel), ch_wg 8 (by decide +kernel) (by decide +kernel), ⟨by decide, by decide⟩, plainFor_of_name (by decide +kernel), by decide⟩
theorem mi_d_takeCommand : Cond.instanceMethod (ch_nm m_d_takeCommand) ∈ ch_good := ch_wg 740 (by decide +kernel) (by decide +kernel)
theorem me_d_takeCommand : Cond.selects (ch_nm m_d_takeCommand).cls (ch_nm m_d_takeCommand) (ch_nm m_d_takeCommand) ∈ ch_good := ch_wg 741 (by decide +kernel) (by decide +kernel)
def m_d_takeSign : ch_MI := (⟨"ChalkWarrants$Reader", "takeSign", "(LChalkWarrants$Signs;C)Z"⟩, prog_4_method_4_code, 3, (some FieldType.boolean), 1, 0, [])
theorem mf_d_takeSign : ch_MF m_d_takeSign := ⟨ch_wg 775 (by decide +kernel) (by decide +kernel), ch_wg 8 (by decide +kernel) (by decide +kernel), ⟨by decide, by decide⟩, plainFor_of_name (by decide +kernel), by decide⟩
theorem mi_d_takeSign : Cond.instanceMethod (ch_nm m_d_takeSign) ∈ ch_good := ch_wg 773 (by decide +kernel) (by decide +kernel)
theorem me_d_takeSign : Cond.selects (ch_nm m_d_takeSign).cls (ch_nm m_d_takeSign) (ch_nm m_d_takeSign) ∈ ch_good := ch_wg 774 (by decide +kernel) (by decide +kernel)
def m_d_isKind : ch_MI := (⟨"ChalkWarrants$Reader", "isKind", "(I)Z"⟩, prog_4_method_5_code, 2, (some FieldType.boolean), 0, 0, [])
theorem mf_d_isKind : ch_MF m_d_isKind := ⟨ch_wg 750 (by decide +kernel) (by decide +kernel), ch_wg 8 (by decide +kernel) (by decide +kernel), ⟨by decide, by decide⟩, plainFor_of_name (by decide +kernel), by decide⟩
theorem mi_d_isKind : Cond.instanceMethod (ch_nm m_d_isKind) ∈ ch_good := ch_wg 749 (by decide +kernel) (by decide +kernel)
theorem me_d_isKind : Cond.selects (ch_nm m_d_isKind).cls (ch_nm m_d_isKind) (ch_nm m_d_isKind) ∈ ch_good := ch_wp (q := (ch_nm m_d_isKind, 1)) 28 (by decide +kernel) (by decide +kernel)
def m_d_takeChild : ch_MI := (⟨"ChalkWarrants$Reader", "takeChild", "(LChalkWarrants$Signs;LChalkWarrants$Command;)Z"⟩, prog_4_method_6_code, 3, (some FieldType.boolean), 3, 0, [])
theorem mf_d_takeChild : ch_MF m_d_takeChild := ⟨ch_wg 771 (by decide +kernel) (by decide +kernel), ch_wg 8 (by decide +kernel) (by decide +kernel), ⟨by decide, by decide⟩, plainFor_of_name (by decide +kernel), by decide⟩
theorem mi_d_takeChild : Cond.instanceMethod (ch_nm m_d_takeChild) ∈ ch_good := ch_wg 770 (by decide +kernel) (by decide +kernel)
theorem me_d_takeChild : Cond.selects (ch_nm m_d_takeChild).cls (ch_nm m_d_takeChild) (ch_nm m_d_takeChild) ∈ ch_good := ch_wp (q := (ch_nm m_d_takeChild, 1)) 33 (by decide +kernel) (by decide +kernel)
def m_d_takeOther : ch_MI := (⟨"ChalkWarrants$Reader", "takeOther", "(LChalkWarrants$Signs;LChalkWarrants$Command;)Z"⟩, prog_4_method_7_code, 3, (some FieldType.boolean), 3, 0, [])
theorem mf_d_takeOther : ch_MF m_d_takeOther := ⟨ch_wg 784 (by decide +kernel) (by decide +kernel), ch_wg 8 (by decide +kernel) (by decide +kernel), ⟨by decide, by decide⟩, plainFor_of_name (by decide +kernel), by decide⟩
theorem mi_d_takeOther : Cond.instanceMethod (ch_nm m_d_takeOther) ∈ ch_good := ch_wg 783 (by decide +kernel) (by decide +kernel)
theorem me_d_takeOther : Cond.selects (ch_nm m_d_takeOther).cls (ch_nm m_d_takeOther) (ch_nm m_d_takeOther) ∈ ch_good := ch_wp (q := (ch_nm m_d_takeOther, 1)) 35 (by decide +kernel) (by decide +kernel)
def m_d_takeDigit : ch_MI := (⟨"ChalkWarrants$Reader", "takeDigit", "(LChalkWarrants$Signs;LChalkWarrants$Command;)Z"⟩, prog_4_method_8_code, 3, (some FieldType.boolean), 3, 0, [])
theorem mf_d_takeDigit : ch_MF m_d_takeDigit := ⟨ch_wg 759 (by decide +kernel) (by decide +kernel), ch_wg 8 (by decide +kernel) (by decide +kernel), ⟨by decide, by decide⟩, plainFor_of_name (by decide +kernel), by decide⟩
theorem mi_d_takeDigit : Cond.instanceMethod (ch_nm m_d_takeDigit) ∈ ch_good := ch_wg 758 (by decide +kernel) (by decide +kernel)
theorem me_d_takeDigit : Cond.selects (ch_nm m_d_takeDigit).cls (ch_nm m_d_takeDigit) (ch_nm m_d_takeDigit) ∈ ch_good := ch_wp (q := (ch_nm m_d_takeDigit, 1)) 30 (by decide +kernel) (by decide +kernel)
def m_d_takeNumber : ch_MI := (⟨"ChalkWarrants$Reader", "takeNumber", "(LChalkWarrants$Signs;LChalkWarrants$Command;)Z"⟩, prog_4_method_9_code, 4, (some FieldType.boolean), 4, 0, [])
theorem mf_d_takeNumber : ch_MF m_d_takeNumber := ⟨ch_wg 755 (by decide +kernel) (by decide +kernel), ch_wg 8 (by decide +kernel) (by decide +kernel), ⟨by decide, by decide⟩, plainFor_of_name (by decide +kernel), by decide⟩
theorem mi_d_takeNumber : Cond.instanceMethod (ch_nm m_d_takeNumber) ∈ ch_good := ch_wg 754 (by decide +kernel) (by decide +kernel)
theorem me_d_takeNumber : Cond.selects (ch_nm m_d_takeNumber).cls (ch_nm m_d_takeNumber) (ch_nm m_d_takeNumber) ∈ ch_good := ch_wp (q := (ch_nm m_d_takeNumber, 1)) 29 (by decide +kernel) (by decide +kernel)
def m_d_takeSteps : ch_MI := (⟨"ChalkWarrants$Reader", "takeSteps", "(LChalkWarrants$Signs;LChalkWarrants$Steps;)Z"⟩, prog_4_method_10_code, 5, (some FieldType.boolean), 2, 0, [])
theorem mf_d_takeSteps : ch_MF m_d_takeSteps := ⟨ch_wg 779 (by decide +kernel) (by decide +kernel), ch_wg 8 (by decide +kernel) (by decide +kernel), ⟨by decide, by decide⟩, plainFor_of_name (by decide +kernel), by decide⟩
theorem mi_d_takeSteps : Cond.instanceMethod (ch_nm m_d_takeSteps) ∈ ch_good := ch_wg 778 (by decide +kernel) (by decide +kernel)
theorem me_d_takeSteps : Cond.selects (ch_nm m_d_takeSteps).cls (ch_nm m_d_takeSteps) (ch_nm m_d_takeSteps) ∈ ch_good := ch_wp (q := (ch_nm m_d_takeSteps, 1)) 34 (by decide +kernel) (by decide +kernel)
def m_d_passDigit : ch_MI := (⟨"ChalkWarrants$Reader", "passDigit", "(LChalkWarrants$Signs;)Z"⟩, prog_4_method_11_code, 2, (some FieldType.boolean), 2, 0, [])
theorem mf_d_passDigit : ch_MF m_d_passDigit := ⟨ch_wg 767 (by decide +kernel) (by decide +kernel), ch_wg 8 (by decide +kernel) (by decide +kernel), ⟨by decide, by decide⟩, plainFor_of_name (by decide +kernel), by decide⟩
theorem mi_d_passDigit : Cond.instanceMethod (ch_nm m_d_passDigit) ∈ ch_good := ch_wg 766 (by decide +kernel) (by decide +kernel)
theorem me_d_passDigit : Cond.selects (ch_nm m_d_passDigit).cls (ch_nm m_d_passDigit) (ch_nm m_d_passDigit) ∈ ch_good := ch_wp (q := (ch_nm m_d_passDigit, 1)) 32 (by decide +kernel) (by decide +kernel)
def m_d_digitAt : ch_MI := (⟨"ChalkWarrants$Reader", "digitAt", "(LChalkWarrants$Signs;)I"⟩, prog_4_method_12_code, 3, (some FieldType.int), 1, 0, [])
theorem mf_d_digitAt : ch_MF m_d_digitAt := ⟨ch_wg 763 (by decide +kernel) (by decide +kernel), ch_wg 8 (by decide +kernel) (by decide +kernel), ⟨by decide, by decide⟩, plainFor_of_name (by decide +kernel), by decide⟩
theorem mi_d_digitAt : Cond.instanceMethod (ch_nm m_d_digitAt) ∈ ch_good := ch_wg 762 (by decide +kernel) (by decide +kernel)
theorem me_d_digitAt : Cond.selects (ch_nm m_d_digitAt).cls (ch_nm m_d_digitAt) (ch_nm m_d_digitAt) ∈ ch_good := ch_wp (q := (ch_nm m_d_digitAt, 1)) 31 (by decide +kernel) (by decide +kernel)
def m_d_signAt : ch_MI := (⟨"ChalkWarrants$Reader", "signAt", "(LChalkWarrants$Signs;)I"⟩, prog_4_method_13_code, 2, (some FieldType.int), 0, 0, [])
theorem mf_d_signAt : ch_MF m_d_signAt := ⟨ch_wg 746 (by decide +kernel) (by decide +kernel), ch_wg 8 (by decide +kernel) (by decide +kernel), ⟨by decide, by decide⟩, plainFor_of_name (by decide +kernel), by decide⟩
theorem mi_d_signAt : Cond.instanceMethod (ch_nm m_d_signAt) ∈ ch_good := ch_wg 745 (by decide +kernel) (by decide +kernel)
theorem me_d_signAt : Cond.selects (ch_nm m_d_signAt).cls (ch_nm m_d_signAt) (ch_nm m_d_signAt) ∈ ch_good := ch_wp (q := (ch_nm m_d_signAt, 1)) 27 (by decide +kernel) (by decide +kernel)
def m_r_refuse : ch_MI := (⟨"ChalkWarrants$Reasons", "refuse", "(LChalkWarrants$Yard;LChalkWarrants$Command;)Z"⟩, prog_5_method_2_code, 3, (some FieldType.boolean), 3, 0, [])
theorem mf_r_refuse : ch_MF m_r_refuse := ⟨ch_wg 358 (by decide +kernel) (by decide +kernel), ch_wg 4 (by decide +kernel) (by decide +kernel), ⟨by decide, by decide⟩, plainFor_of_name (by decide +kernel), by decide⟩
theorem mi_r_refuse : Cond.instanceMethod (ch_nm m_r_refuse) ∈ ch_good := ch_wg 356 (by decide +kernel) (by decide +kernel)
theorem me_r_refuse : Cond.selects (ch_nm m_r_refuse).cls (ch_nm m_r_refuse) (ch_nm m_r_refuse) ∈ ch_good := ch_wg 357 (by decide +kernel) (by decide +kernel)
def m_r_refuseChild : ch_MI := (⟨"ChalkWarrants$Reasons", "refuseChild", "(LChalkWarrants$Yard;I)Z"⟩, prog_5_method_3_code, 3, (some FieldType.boolean), 2, 0, [])
theorem mf_r_refuseChild : ch_MF m_r_refuseChild := ⟨ch_wg 362 (by decide +kernel) (by decide +kernel), ch_wg 4 (by decide +kernel) (by decide +kernel), ⟨by decide, by decide⟩, plainFor_of_name (by decide +kernel), by decide⟩
theorem mi_r_refuseChild : Cond.instanceMethod (ch_nm m_r_refuseChild) ∈ ch_good := ch_wg 361 (by decide +kernel) (by decide +kernel)
theorem me_r_refuseChild : Cond.selects (ch_nm m_r_refuseChild).cls (ch_nm m_r_refuseChild) (ch_nm m_r_refuseChild) ∈ ch_good := ch_wp (q := (ch_nm m_r_refuseChild, 3)) 1 (by decide +kernel) (by decide +kernel)
def m_r_refuseChalk : ch_MI := (⟨"ChalkWarrants$Reasons", "refuseChalk", "(LChalkWarrants$Yard;II)Z"⟩, prog_5_method_4_code, 5, (some FieldType.boolean), 2, 0, [])
theorem mf_r_refuseChalk : ch_MF m_r_refuseChalk := ⟨ch_wg 374 (by decide +kernel) (by decide +kernel), ch_wg 4 (by decide +kernel) (by decide +kernel), ⟨by decide, by decide⟩, plainFor_of_name (by decide +kernel), by decide⟩
theorem mi_r_refuseChalk : Cond.instanceMethod (ch_nm m_r_refuseChalk) ∈ ch_good := ch_wg 373 (by decide +kernel) (by decide +kernel)
theorem me_r_refuseChalk : Cond.selects (ch_nm m_r_refuseChalk).cls (ch_nm m_r_refuseChalk) (ch_nm m_r_refuseChalk) ∈ ch_good := ch_wp (q := (ch_nm m_r_refuseChalk, 3)) 4 (by decide +kernel) (by decide +kernel)
def m_r_refuseHop : ch_MI := (⟨"ChalkWarrants$Reasons", "refuseHop", "(LChalkWarrants$Yard;ILChalkWarrants$Steps;)Z"⟩, prog_5_method_5_code, 5, (some FieldType.boolean), 2, 0, [])
theorem mf_r_refuseHop : ch_MF m_r_refuseHop := ⟨ch_wg 390 (by decide +kernel) (by decide +kernel), ch_wg 4 (by decide +kernel) (by decide +kernel), ⟨by decide, by decide⟩, plainFor_of_name (by decide +kernel), by decide⟩
theorem mi_r_refuseHop : Cond.instanceMethod (ch_nm m_r_refuseHop) ∈ ch_good := ch_wg 389 (by decide +kernel) (by decide +kernel)
theorem me_r_refuseHop : Cond.selects (ch_nm m_r_refuseHop).cls (ch_nm m_r_refuseHop) (ch_nm m_r_refuseHop) ∈ ch_good := ch_wp (q := (ch_nm m_r_refuseHop, 3)) 7 (by decide +kernel) (by decide +kernel)
def m_r_refuseWarrant : ch_MI := (⟨"ChalkWarrants$Reasons", "refuseWarrant", "(LChalkWarrants$Yard;I)Z"⟩, prog_5_method_6_code, 3, (some FieldType.boolean), 2, 0, [])
theorem mf_r_refuseWarrant : ch_MF m_r_refuseWarrant := ⟨ch_wg 402 (by decide +kernel) (by decide +kernel), ch_wg 4 (by decide +kernel) (by decide +kernel), ⟨by decide, by decide⟩, plainFor_of_name (by decide +kernel), by decide⟩
theorem mi_r_refuseWarrant : Cond.instanceMethod (ch_nm m_r_refuseWarrant) ∈ ch_good := ch_wg 401 (by decide +kernel) (by decide +kernel)
theorem me_r_refuseWarrant : Cond.selects (ch_nm m_r_refuseWarrant).cls (ch_nm m_r_refuseWarrant) (ch_nm m_r_refuseWarrant) ∈ ch_good := ch_wp (q := (ch_nm m_r_refuseWarrant, 3)) 9 (by decide +kernel) (by decide +kernel)
def m_r_refuseStrike : ch_MI := (⟨"ChalkWarrants$Reasons", "refuseStrike", "(LChalkWarrants$Yard;I)Z"⟩, prog_5_method_7_code, 3, (some FieldType.boolean), 2, 0, [])
theorem mf_r_refuseStrike : ch_MF m_r_refuseStrike := ⟨ch_wg 406 (by decide +kernel) (by decide +kernel), ch_wg 4 (by decide +kernel) (by decide +kernel), ⟨by decide, by decide⟩, plainFor_of_name (by decide +kernel), by decide⟩
theorem mi_r_refuseStrike : Cond.instanceMethod (ch_nm m_r_refuseStrike) ∈ ch_good := ch_wg 405 (by decide +kernel) (by decide +kernel)
theorem me_r_refuseStrike : Cond.selects (ch_nm m_r_refuseStrike).cls (ch_nm m_r_refuseStrike) (ch_nm m_r_refuseStrike) ∈ ch_good := ch_wp (q := (ch_nm m_r_refuseStrike, 3)) 10 (by decide +kernel) (by decide +kernel)
def m_r_refuseRain : ch_MI := (⟨"ChalkWarrants$Reasons", "refuseRain", "(LChalkWarrants$Yard;I)Z"⟩, prog_5_method_8_code, 3, (some FieldType.boolean), 2, 0, [])
theorem mf_r_refuseRain : ch_MF m_r_refuseRain := ⟨ch_wg 410 (by decide +kernel) (by decide +kernel), ch_wg 4 (by decide +kernel) (by decide +kernel), ⟨by decide, by decide⟩, plainFor_of_name (by decide +kernel), by decide⟩
theorem mi_r_refuseRain : Cond.instanceMethod (ch_nm m_r_refuseRain) ∈ ch_good := ch_wg 409 (by decide +kernel) (by decide +kernel)
theorem me_r_refuseRain : Cond.selects (ch_nm m_r_refuseRain).cls (ch_nm m_r_refuseRain) (ch_nm m_r_refuseRain) ∈ ch_good := ch_wp (q := (ch_nm m_r_refuseRain, 3)) 11 (by decide +kernel) (by decide +kernel)
def m_r_refuseTerm : ch_MI := (⟨"ChalkWarrants$Reasons", "refuseTerm", "(LChalkWarrants$Yard;)Z"⟩, prog_5_method_9_code, 2, (some FieldType.boolean), 1, 0, [])
theorem mf_r_refuseTerm : ch_MF m_r_refuseTerm := ⟨ch_wg 418 (by decide +kernel) (by decide +kernel), ch_wg 4 (by decide +kernel) (by decide +kernel), ⟨by decide, by decide⟩, plainFor_of_name (by decide +kernel), by decide⟩
theorem mi_r_refuseTerm : Cond.instanceMethod (ch_nm m_r_refuseTerm) ∈ ch_good := ch_wg 417 (by decide +kernel) (by decide +kernel)
theorem me_r_refuseTerm : Cond.selects (ch_nm m_r_refuseTerm).cls (ch_nm m_r_refuseTerm) (ch_nm m_r_refuseTerm) ∈ ch_good := ch_wp (q := (ch_nm m_r_refuseTerm, 3)) 12 (by decide +kernel) (by decide +kernel)
def m_r_refuseGift : ch_MI := (⟨"ChalkWarrants$Reasons", "refuseGift", "(LChalkWarrants$Yard;III)Z"⟩, prog_5_method_10_code, 5, (some FieldType.boolean), 2, 0, [])
theorem mf_r_refuseGift : ch_MF m_r_refuseGift := ⟨ch_wg 422 (by decide +kernel) (by decide +kernel), ch_wg 4 (by decide +kernel) (by decide +kernel), ⟨by decide, by decide⟩, plainFor_of_name (by decide +kernel), by decide⟩
theorem mi_r_refuseGift : Cond.instanceMethod (ch_nm m_r_refuseGift) ∈ ch_good := ch_wg 421 (by decide +kernel) (by decide +kernel)
theorem me_r_refuseGift : Cond.selects (ch_nm m_r_refuseGift).cls (ch_nm m_r_refuseGift) (ch_nm m_r_refuseGift) ∈ ch_good := ch_wp (q := (ch_nm m_r_refuseGift, 3)) 13 (by decide +kernel) (by decide +kernel)
def m_r_lacksRange : ch_MI := (⟨"ChalkWarrants$Reasons", "lacksRange", "(III)Z"⟩, prog_5_method_11_code, 4, (some FieldType.boolean), 1, 0, [])
theorem mf_r_lacksRange : ch_MF m_r_lacksRange := ⟨ch_wg 366 (by decide +kernel) (by decide +kernel), ch_wg 4 (by decide +kernel) (by decide +kernel), ⟨by decide, by decide⟩, plainFor_of_name (by decide +kernel), by decide⟩
theorem mi_r_lacksRange : Cond.instanceMethod (ch_nm m_r_lacksRange) ∈ ch_good := ch_wg 365 (by decide +kernel) (by decide +kernel)
theorem me_r_lacksRange : Cond.selects (ch_nm m_r_lacksRange).cls (ch_nm m_r_lacksRange) (ch_nm m_r_lacksRange) ∈ ch_good := ch_wp (q := (ch_nm m_r_lacksRange, 3)) 2 (by decide +kernel) (by decide +kernel)
def m_r_lacksChild : ch_MI := (⟨"ChalkWarrants$Reasons", "lacksChild", "(LChalkWarrants$Yard;I)Z"⟩, prog_5_method_12_code, 3, (some FieldType.boolean), 1, 0, [])
theorem mf_r_lacksChild : ch_MF m_r_lacksChild := ⟨ch_wg 378 (by decide +kernel) (by decide +kernel), ch_wg 4 (by decide +kernel) (by decide +kernel), ⟨by decide, by decide⟩, plainFor_of_name (by decide +kernel), by decide⟩
theorem mi_r_lacksChild : Cond.instanceMethod (ch_nm m_r_lacksChild) ∈ ch_good := ch_wg 377 (by decide +kernel) (by decide +kernel)
theorem me_r_lacksChild : Cond.selects (ch_nm m_r_lacksChild).cls (ch_nm m_r_lacksChild) (ch_nm m_r_lacksChild) ∈ ch_good := ch_wp (q := (ch_nm m_r_lacksChild, 3)) 5 (by decide +kernel) (by decide +kernel)
def m_r_isWanted : ch_MI := (⟨"ChalkWarrants$Reasons", "isWanted", "(LChalkWarrants$Yard;I)Z"⟩, prog_5_method_13_code, 3, (some FieldType.boolean), 1, 0, [])
theorem mf_r_isWanted : ch_MF m_r_isWanted := ⟨ch_wg 394 (by decide +kernel) (by decide +kernel), ch_wg 4 (by decide +kernel) (by decide +kernel), ⟨by decide, by decide⟩, plainFor_of_name (by decide +kernel), by decide⟩
theorem mi_r_isWanted : Cond.instanceMethod (ch_nm m_r_isWanted) ∈ ch_good := ch_wg 393 (by decide +kernel) (by decide +kernel)
theorem me_r_isWanted : Cond.selects (ch_nm m_r_isWanted).cls (ch_nm m_r_isWanted) (ch_nm m_r_isWanted) ∈ ch_good := ch_wp (q := (ch_nm m_r_isWanted, 3)) 8 (by decide +kernel) (by decide +kernel)
def m_r_lacksPebbles : ch_MI := (⟨"ChalkWarrants$Reasons", "lacksPebbles", "(LChalkWarrants$Yard;II)Z"⟩, prog_5_method_14_code, 4, (some FieldType.boolean), 1, 0, [])
theorem mf_r_lacksPebbles : ch_MF m_r_lacksPebbles := ⟨ch_wg 386 (by decide +kernel) (by decide +kernel), ch_wg 4 (by decide +kernel) (by decide +kernel), ⟨by decide, by decide⟩, plainFor_of_name (by decide +kernel), by decide⟩
theorem mi_r_lacksPebbles : Cond.instanceMethod (ch_nm m_r_lacksPebbles) ∈ ch_good := ch_wg 385 (by decide +kernel) (by decide +kernel)
theorem me_r_lacksPebbles : Cond.selects (ch_nm m_r_lacksPebbles).cls (ch_nm m_r_lacksPebbles) (ch_nm m_r_lacksPebbles) ∈ ch_good := ch_wp (q := (ch_nm m_r_lacksPebbles, 3)) 6 (by decide +kernel) (by decide +kernel)
def m_r_keep : ch_MI := (⟨"ChalkWarrants$Reasons", "keep", "(II)Z"⟩, prog_5_method_15_code, 3, (some FieldType.boolean), 0, 0, [])
theorem mf_r_keep : ch_MF m_r_keep := ⟨ch_wg 370 (by decide +kernel) (by decide +kernel), ch_wg 4 (by decide +kernel) (by decide +kernel), ⟨by decide, by decide⟩, plainFor_of_name (by decide +kernel), by decide⟩
theorem mi_r_keep : Cond.instanceMethod (ch_nm m_r_keep) ∈ ch_good := ch_wg 369 (by decide +kernel) (by decide +kernel)
theorem me_r_keep : Cond.selects (ch_nm m_r_keep).cls (ch_nm m_r_keep) (ch_nm m_r_keep) ∈ ch_good := ch_wp (q := (ch_nm m_r_keep, 3)) 3 (by decide +kernel) (by decide +kernel)
def m_t_put : ch_MI := (⟨"ChalkWarrants$Signs", "put", "(C)V"⟩, prog_6_method_2_code, 2, none, 0, 0, [])
theorem mf_t_put : ch_MF m_t_put := ⟨ch_wg 727 (by decide +kernel) (by decide +kernel), ch_wg 7 (by decide +kernel) (by decide +kernel), ⟨by decide, by decide⟩, plainFor_of_name (by decide +kernel), by decide⟩
theorem mi_t_put : Cond.instanceMethod (ch_nm m_t_put) ∈ ch_good := ch_wg 725 (by decide +kernel) (by decide +kernel)
theorem me_t_put : Cond.selects (ch_nm m_t_put).cls (ch_nm m_t_put) (ch_nm m_t_put) ∈ ch_good := ch_wg 726 (by decide +kernel) (by decide +kernel)
def m_s_add : ch_MI := (⟨"ChalkWarrants$Steps", "add", "(I)V"⟩, prog_7_method_2_code, 2, none, 0, 0, [])
theorem mf_s_add : ch_MF m_s_add := ⟨ch_wg 678 (by decide +kernel) (by decide +kernel), ch_wg 6 (by decide +kernel) (by decide +kernel), ⟨by decide, by decide⟩, plainFor_of_name (by decide +kernel), by decide⟩
theorem mi_s_add : Cond.instanceMethod (ch_nm m_s_add) ∈ ch_good := ch_wg 676 (by decide +kernel) (by decide +kernel)
theorem me_s_add : Cond.selects (ch_nm m_s_add).cls (ch_nm m_s_add) (ch_nm m_s_add) ∈ ch_good := ch_wg 677 (by decide +kernel) (by decide +kernel)
def m_s_readFrom : ch_MI := (⟨"ChalkWarrants$Steps", "readFrom", "(I)V"⟩, prog_7_method_3_code, 5, none, 1, 0, [])
theorem mf_s_readFrom : ch_MF m_s_readFrom := ⟨ch_wg 852 (by decide +kernel) (by decide +kernel), ch_wg 6 (by decide +kernel) (by decide +kernel), ⟨by decide, by decide⟩, plainFor_of_name (by decide +kernel), by decide⟩
theorem mi_s_readFrom : Cond.instanceMethod (ch_nm m_s_readFrom) ∈ ch_good := ch_wg 850 (by decide +kernel) (by decide +kernel)
theorem me_s_readFrom : Cond.selects (ch_nm m_s_readFrom).cls (ch_nm m_s_readFrom) (ch_nm m_s_readFrom) ∈ ch_good := ch_wg 851 (by decide +kernel) (by decide +kernel)
def m_s_misfit : ch_MI := (⟨"ChalkWarrants$Steps", "misfit", "()I"⟩, prog_7_method_4_code, 3, (some FieldType.int), 0, 0, [])
theorem mf_s_misfit : ch_MF m_s_misfit := ⟨ch_wg 398 (by decide +kernel) (by decide +kernel), ch_wg 6 (by decide +kernel) (by decide +kernel), ⟨by decide, by decide⟩, plainFor_of_name (by decide +kernel), by decide⟩
theorem mi_s_misfit : Cond.instanceMethod (ch_nm m_s_misfit) ∈ ch_good := ch_wg 396 (by decide +kernel) (by decide +kernel)
theorem me_s_misfit : Cond.selects (ch_nm m_s_misfit).cls (ch_nm m_s_misfit) (ch_nm m_s_misfit) ∈ ch_good := ch_wg 397 (by decide +kernel) (by decide +kernel)
def m_w_fewestBack : ch_MI := (⟨"ChalkWarrants$Ways", "fewestBack", "(LChalkWarrants$Yard;I)I"⟩, prog_8_method_2_code, 5, (some FieldType.int), 3, 0, [])
theorem mf_w_fewestBack : ch_MF m_w_fewestBack := ⟨ch_wg 653 (by decide +kernel) (by decide +kernel), ch_wg 9 (by decide +kernel) (by decide +kernel), ⟨by decide, by decide⟩, plainFor_of_name (by decide +kernel), by decide⟩
theorem mi_w_fewestBack : Cond.instanceMethod (ch_nm m_w_fewestBack) ∈ ch_good := ch_wg 651 (by decide +kernel) (by decide +kernel)
theorem me_w_fewestBack : Cond.selects (ch_nm m_w_fewestBack).cls (ch_nm m_w_fewestBack) (ch_nm m_w_fewestBack) ∈ ch_good := ch_wg 652 (by decide +kernel) (by decide +kernel)
def m_w_tryStep : ch_MI := (⟨"ChalkWarrants$Ways", "tryStep", "(LChalkWarrants$Yard;III)V"⟩, prog_8_method_3_code, 8, none, 2, 0, [])
theorem mf_w_tryStep : ch_MF m_w_tryStep := ⟨ch_wg 657 (by decide +kernel) (by decide +kernel), ch_wg 9 (by decide +kernel) (by decide +kernel), ⟨by decide, by decide⟩, plainFor_of_name (by decide +kernel), by decide⟩
theorem mi_w_tryStep : Cond.instanceMethod (ch_nm m_w_tryStep) ∈ ch_good := ch_wg 656 (by decide +kernel) (by decide +kernel)
theorem me_w_tryStep : Cond.selects (ch_nm m_w_tryStep).cls (ch_nm m_w_tryStep) (ch_nm m_w_tryStep) ∈ ch_good := ch_wp (q := (ch_nm m_w_tryStep, 3)) 25 (by decide +kernel) (by decide +kernel)
def m_w_tellBest : ch_MI := (⟨"ChalkWarrants$Ways", "tellBest", "(LChalkWarrants$Steps;)V"⟩, prog_8_method_4_code, 4, none, 1, 0, [])
theorem mf_w_tellBest : ch_MF m_w_tellBest := ⟨ch_wg 674 (by decide +kernel) (by decide +kernel), ch_wg 9 (by decide +kernel) (by decide +kernel), ⟨by decide, by decide⟩, plainFor_of_name (by decide +kernel), by decide⟩
theorem mi_w_tellBest : Cond.instanceMethod (ch_nm m_w_tellBest) ∈ ch_good := ch_wg 672 (by decide +kernel) (by decide +kernel)
theorem me_w_tellBest : Cond.selects (ch_nm m_w_tellBest).cls (ch_nm m_w_tellBest) (ch_nm m_w_tellBest) ∈ ch_good := ch_wg 673 (by decide +kernel) (by decide +kernel)
def m_w_fewestOn : ch_MI := (⟨"ChalkWarrants$Ways", "fewestOn", "(LChalkWarrants$Yard;I)I"⟩, prog_8_method_5_code, 7, (some FieldType.int), 2, 0, [])
theorem mf_w_fewestOn : ch_MF m_w_fewestOn := ⟨ch_wg 942 (by decide +kernel) (by decide +kernel), ch_wg 9 (by decide +kernel) (by decide +kernel), ⟨by decide, by decide⟩, plainFor_of_name (by decide +kernel), by decide⟩
theorem mi_w_fewestOn : Cond.instanceMethod (ch_nm m_w_fewestOn) ∈ ch_good := ch_wg 940 (by decide +kernel) (by decide +kernel)
theorem me_w_fewestOn : Cond.selects (ch_nm m_w_fewestOn).cls (ch_nm m_w_fewestOn) (ch_nm m_w_fewestOn) ∈ ch_good := ch_wg 941 (by decide +kernel) (by decide +kernel)
def m_w_lineAt : ch_MI := (⟨"ChalkWarrants$Ways", "lineAt", "(LChalkWarrants$Yard;II)I"⟩, prog_8_method_6_code, 4, (some FieldType.int), 1, 0, [])
theorem mf_w_lineAt : ch_MF m_w_lineAt := ⟨ch_wg 661 (by decide +kernel) (by decide +kernel), ch_wg 9 (by decide +kernel) (by decide +kernel), ⟨by decide, by decide⟩, plainFor_of_name (by decide +kernel), by decide⟩
theorem mi_w_lineAt : Cond.instanceMethod (ch_nm m_w_lineAt) ∈ ch_good := ch_wg 660 (by decide +kernel) (by decide +kernel)
theorem me_w_lineAt : Cond.selects (ch_nm m_w_lineAt).cls (ch_nm m_w_lineAt) (ch_nm m_w_lineAt) ∈ ch_good := ch_wp (q := (ch_nm m_w_lineAt, 3)) 26 (by decide +kernel) (by decide +kernel)
def m_y_copyFrom : ch_MI := (⟨"ChalkWarrants$Yard", "copyFrom", "(LChalkWarrants$Yard;)V"⟩, prog_9_method_2_code, 2, none, 1, 0, [])
theorem mf_y_copyFrom : ch_MF m_y_copyFrom := ⟨ch_wg 332 (by decide +kernel) (by decide +kernel), ch_wg 2 (by decide +kernel) (by decide +kernel), ⟨by decide, by decide⟩, plainFor_of_name (by decide +kernel), by decide⟩
theorem mi_y_copyFrom : Cond.instanceMethod (ch_nm m_y_copyFrom) ∈ ch_good := ch_wg 330 (by decide +kernel) (by decide +kernel)
theorem me_y_copyFrom : Cond.selects (ch_nm m_y_copyFrom).cls (ch_nm m_y_copyFrom) (ch_nm m_y_copyFrom) ∈ ch_good := ch_wg 331 (by decide +kernel) (by decide +kernel)
def m_y_carryOut : ch_MI := (⟨"ChalkWarrants$Yard", "carryOut", "(LChalkWarrants$Command;)I"⟩, prog_9_method_3_code, 2, (some FieldType.int), 4, 0, [])
theorem mf_y_carryOut : ch_MF m_y_carryOut := ⟨ch_wg 499 (by decide +kernel) (by decide +kernel), ch_wg 2 (by decide +kernel) (by decide +kernel), ⟨by decide, by decide⟩, plainFor_of_name (by decide +kernel), by decide⟩
theorem mi_y_carryOut : Cond.instanceMethod (ch_nm m_y_carryOut) ∈ ch_good := ch_wg 497 (by decide +kernel) (by decide +kernel)
theorem me_y_carryOut : Cond.selects (ch_nm m_y_carryOut).cls (ch_nm m_y_carryOut) (ch_nm m_y_carryOut) ∈ ch_good := ch_wg 498 (by decide +kernel) (by decide +kernel)
def m_y_bring : ch_MI := (⟨"ChalkWarrants$Yard", "bring", "(I)I"⟩, prog_9_method_4_code, 2, (some FieldType.int), 0, 0, [])
theorem mf_y_bring : ch_MF m_y_bring := ⟨ch_wg 503 (by decide +kernel) (by decide +kernel), ch_wg 2 (by decide +kernel) (by decide +kernel), ⟨by decide, by decide⟩, plainFor_of_name (by decide +kernel), by decide⟩
theorem mi_y_bring : Cond.instanceMethod (ch_nm m_y_bring) ∈ ch_good := ch_wg 502 (by decide +kernel) (by decide +kernel)
theorem me_y_bring : Cond.selects (ch_nm m_y_bring).cls (ch_nm m_y_bring) (ch_nm m_y_bring) ∈ ch_good := ch_wp (q := (ch_nm m_y_bring, 17)) 15 (by decide +kernel) (by decide +kernel)
def m_y_chalkOn : ch_MI := (⟨"ChalkWarrants$Yard", "chalkOn", "(II)I"⟩, prog_9_method_5_code, 3, (some FieldType.int), 1, 0, [])
theorem mf_y_chalkOn : ch_MF m_y_chalkOn := ⟨ch_wg 507 (by decide +kernel) (by decide +kernel), ch_wg 2 (by decide +kernel) (by decide +kernel), ⟨by decide, by decide⟩, plainFor_of_name (by decide +kernel), by decide⟩
theorem mi_y_chalkOn : Cond.instanceMethod (ch_nm m_y_chalkOn) ∈ ch_good := ch_wg 506 (by decide +kernel) (by decide +kernel)
theorem me_y_chalkOn : Cond.selects (ch_nm m_y_chalkOn).cls (ch_nm m_y_chalkOn) (ch_nm m_y_chalkOn) ∈ ch_good := ch_wp (q := (ch_nm m_y_chalkOn, 17)) 16 (by decide +kernel) (by decide +kernel)
def m_y_hopBy : ch_MI := (⟨"ChalkWarrants$Yard", "hopBy", "(ILChalkWarrants$Steps;)I"⟩, prog_9_method_6_code, 6, (some FieldType.int), 2, 0, [])
theorem mf_y_hopBy : ch_MF m_y_hopBy := ⟨ch_wg 514 (by decide +kernel) (by decide +kernel), ch_wg 2 (by decide +kernel) (by decide +kernel), ⟨by decide, by decide⟩, plainFor_of_name (by decide +kernel), by decide⟩
theorem mi_y_hopBy : Cond.instanceMethod (ch_nm m_y_hopBy) ∈ ch_good := ch_wg 513 (by decide +kernel) (by decide +kernel)
theorem me_y_hopBy : Cond.selects (ch_nm m_y_hopBy).cls (ch_nm m_y_hopBy) (ch_nm m_y_hopBy) ∈ ch_good := ch_wp (q := (ch_nm m_y_hopBy, 17)) 17 (by decide +kernel) (by decide +kernel)
def m_y_writeAgainst : ch_MI := (⟨"ChalkWarrants$Yard", "writeAgainst", "(I)I"⟩, prog_9_method_7_code, 2, (some FieldType.int), 1, 0, [])
theorem mf_y_writeAgainst : ch_MF m_y_writeAgainst := ⟨ch_wg 530 (by decide +kernel) (by decide +kernel), ch_wg 2 (by decide +kernel) (by decide +kernel), ⟨by decide, by decide⟩, plainFor_of_name (by decide +kernel), by decide⟩
theorem mi_y_writeAgainst : Cond.instanceMethod (ch_nm m_y_writeAgainst) ∈ ch_good := ch_wg 529 (by decide +kernel) (by decide +kernel)
theorem me_y_writeAgainst : Cond.selects (ch_nm m_y_writeAgainst).cls (ch_nm m_y_writeAgainst) (ch_nm m_y_writeAgainst) ∈ ch_good := ch_wp (q := (ch_nm m_y_writeAgainst, 17)) 19 (by decide +kernel) (by decide +kernel)
def m_y_strikeOut : ch_MI := (⟨"ChalkWarrants$Yard", "strikeOut", "(I)I"⟩, prog_9_method_8_code, 2, (some FieldType.int), 1, 0, [])
theorem mf_y_strikeOut : ch_MF m_y_strikeOut := ⟨ch_wg 534 (by decide +kernel) (by decide +kernel), ch_wg 2 (by decide +kernel) (by decide +kernel), ⟨by decide, by decide⟩, plainFor_of_name (by decide +kernel), by decide⟩
theorem mi_y_strikeOut : Cond.instanceMethod (ch_nm m_y_strikeOut) ∈ ch_good := ch_wg 533 (by decide +kernel) (by decide +kernel)
theorem me_y_strikeOut : Cond.selects (ch_nm m_y_strikeOut).cls (ch_nm m_y_strikeOut) (ch_nm m_y_strikeOut) ∈ ch_good := ch_wp (q := (ch_nm m_y_strikeOut, 17)) 20 (by decide +kernel) (by decide +kernel)
def m_y_wash : ch_MI := (⟨"ChalkWarrants$Yard", "wash", "(I)I"⟩, prog_9_method_9_code, 5, (some FieldType.int), 2, 0, [])
theorem mf_y_wash : ch_MF m_y_wash := ⟨ch_wg 542 (by decide +kernel) (by decide +kernel), ch_wg 2 (by decide +kernel) (by decide +kernel), ⟨by decide, by decide⟩, plainFor_of_name (by decide +kernel), by decide⟩
theorem mi_y_wash : Cond.instanceMethod (ch_nm m_y_wash) ∈ ch_good := ch_wg 540 (by decide +kernel) (by decide +kernel)
theorem me_y_wash : Cond.selects (ch_nm m_y_wash).cls (ch_nm m_y_wash) (ch_nm m_y_wash) ∈ ch_good := ch_wg 541 (by decide +kernel) (by decide +kernel)
def m_y_endTerm : ch_MI := (⟨"ChalkWarrants$Yard", "endTerm", "()I"⟩, prog_9_method_10_code, 3, (some FieldType.int), 3, 0, [])
theorem mf_y_endTerm : ch_MF m_y_endTerm := ⟨ch_wg 546 (by decide +kernel) (by decide +kernel), ch_wg 2 (by decide +kernel) (by decide +kernel), ⟨by decide, by decide⟩, plainFor_of_name (by decide +kernel), by decide⟩
theorem mi_y_endTerm : Cond.instanceMethod (ch_nm m_y_endTerm) ∈ ch_good := ch_wg 544 (by decide +kernel) (by decide +kernel)
theorem me_y_endTerm : Cond.selects (ch_nm m_y_endTerm).cls (ch_nm m_y_endTerm) (ch_nm m_y_endTerm) ∈ ch_good := ch_wg 545 (by decide +kernel) (by decide +kernel)
def m_y_payRents : ch_MI := (⟨"ChalkWarrants$Yard", "payRents", "(I)I"⟩, prog_9_method_11_code, 4, (some FieldType.int), 2, 0, [])
theorem mf_y_payRents : ch_MF m_y_payRents := ⟨ch_wg 550 (by decide +kernel) (by decide +kernel), ch_wg 2 (by decide +kernel) (by decide +kernel), ⟨by decide, by decide⟩, plainFor_of_name (by decide +kernel), by decide⟩
theorem mi_y_payRents : Cond.instanceMethod (ch_nm m_y_payRents) ∈ ch_good := ch_wg 549 (by decide +kernel) (by decide +kernel)
theorem me_y_payRents : Cond.selects (ch_nm m_y_payRents).cls (ch_nm m_y_payRents) (ch_nm m_y_payRents) ∈ ch_good := ch_wp (q := (ch_nm m_y_payRents, 17)) 22 (by decide +kernel) (by decide +kernel)
def m_y_handOver : ch_MI := (⟨"ChalkWarrants$Yard", "handOver", "(III)I"⟩, prog_9_method_12_code, 4, (some FieldType.int), 0, 0, [])
theorem mf_y_handOver : ch_MF m_y_handOver := ⟨ch_wg 554 (by decide +kernel) (by decide +kernel), ch_wg 2 (by decide +kernel) (by decide +kernel), ⟨by decide, by decide⟩, plainFor_of_name (by decide +kernel), by decide⟩
theorem mi_y_handOver : Cond.instanceMethod (ch_nm m_y_handOver) ∈ ch_good := ch_wg 553 (by decide +kernel) (by decide +kernel)
theorem me_y_handOver : Cond.selects (ch_nm m_y_handOver).cls (ch_nm m_y_handOver) (ch_nm m_y_handOver) ∈ ch_good := ch_wp (q := (ch_nm m_y_handOver, 17)) 23 (by decide +kernel) (by decide +kernel)
def m_y_takeChalk : ch_MI := (⟨"ChalkWarrants$Yard", "takeChalk", "(II)Z"⟩, prog_9_method_13_code, 3, (some FieldType.boolean), 1, 0, [])
theorem mf_y_takeChalk : ch_MF m_y_takeChalk := ⟨ch_wg 526 (by decide +kernel) (by decide +kernel), ch_wg 2 (by decide +kernel) (by decide +kernel), ⟨by decide, by decide⟩, plainFor_of_name (by decide +kernel), by decide⟩
theorem mi_y_takeChalk : Cond.instanceMethod (ch_nm m_y_takeChalk) ∈ ch_good := ch_wg 525 (by decide +kernel) (by decide +kernel)
theorem me_y_takeChalk : Cond.selects (ch_nm m_y_takeChalk).cls (ch_nm m_y_takeChalk) (ch_nm m_y_takeChalk) ∈ ch_good := ch_wp (q := (ch_nm m_y_takeChalk, 17)) 18 (by decide +kernel) (by decide +kernel)
def m_y_closeOrder : ch_MI := (⟨"ChalkWarrants$Yard", "closeOrder", "()I"⟩, prog_9_method_14_code, 4, (some FieldType.int), 0, 0, [])
theorem mf_y_closeOrder : ch_MF m_y_closeOrder := ⟨ch_wg 538 (by decide +kernel) (by decide +kernel), ch_wg 2 (by decide +kernel) (by decide +kernel), ⟨by decide, by decide⟩, plainFor_of_name (by decide +kernel), by decide⟩
theorem mi_y_closeOrder : Cond.instanceMethod (ch_nm m_y_closeOrder) ∈ ch_good := ch_wg 537 (by decide +kernel) (by decide +kernel)
theorem me_y_closeOrder : Cond.selects (ch_nm m_y_closeOrder).cls (ch_nm m_y_closeOrder) (ch_nm m_y_closeOrder) ∈ ch_good := ch_wp (q := (ch_nm m_y_closeOrder, 17)) 21 (by decide +kernel) (by decide +kernel)
def m_y_hasChild : ch_MI := (⟨"ChalkWarrants$Yard", "hasChild", "(I)Z"⟩, prog_9_method_15_code, 2, (some FieldType.boolean), 0, 0, [])
theorem mf_y_hasChild : ch_MF m_y_hasChild := ⟨ch_wg 382 (by decide +kernel) (by decide +kernel), ch_wg 2 (by decide +kernel) (by decide +kernel), ⟨by decide, by decide⟩, plainFor_of_name (by decide +kernel), by decide⟩
theorem mi_y_hasChild : Cond.instanceMethod (ch_nm m_y_hasChild) ∈ ch_good := ch_wg 380 (by decide +kernel) (by decide +kernel)
theorem me_y_hasChild : Cond.selects (ch_nm m_y_hasChild).cls (ch_nm m_y_hasChild) (ch_nm m_y_hasChild) ∈ ch_good := ch_wg 381 (by decide +kernel) (by decide +kernel)
def m_y_isLineFor : ch_MI := (⟨"ChalkWarrants$Yard", "isLineFor", "(II)Z"⟩, prog_9_method_16_code, 3, (some FieldType.boolean), 0, 0, [])
theorem mf_y_isLineFor : ch_MF m_y_isLineFor := ⟨ch_wg 522 (by decide +kernel) (by decide +kernel), ch_wg 2 (by decide +kernel) (by decide +kernel), ⟨by decide, by decide⟩, plainFor_of_name (by decide +kernel), by decide⟩
theorem mi_y_isLineFor : Cond.instanceMethod (ch_nm m_y_isLineFor) ∈ ch_good := ch_wg 520 (by decide +kernel) (by decide +kernel)
theorem me_y_isLineFor : Cond.selects (ch_nm m_y_isLineFor).cls (ch_nm m_y_isLineFor) (ch_nm m_y_isLineFor) ∈ ch_good := ch_wg 521 (by decide +kernel) (by decide +kernel)
def m_y_countTreads : ch_MI := (⟨"ChalkWarrants$Yard", "countTreads", "(ILChalkWarrants$Steps;)I"⟩, prog_9_method_17_code, 6, (some FieldType.int), 1, 0, [])
theorem mf_y_countTreads : ch_MF m_y_countTreads := ⟨ch_wg 518 (by decide +kernel) (by decide +kernel), ch_wg 2 (by decide +kernel) (by decide +kernel), ⟨by decide, by decide⟩, plainFor_of_name (by decide +kernel), by decide⟩
theorem mi_y_countTreads : Cond.instanceMethod (ch_nm m_y_countTreads) ∈ ch_good := ch_wg 516 (by decide +kernel) (by decide +kernel)
theorem me_y_countTreads : Cond.selects (ch_nm m_y_countTreads).cls (ch_nm m_y_countTreads) (ch_nm m_y_countTreads) ∈ ch_good := ch_wg 517 (by decide +kernel) (by decide +kernel)
def m_y_countOwned : ch_MI := (⟨"ChalkWarrants$Yard", "countOwned", "(I)I"⟩, prog_9_method_18_code, 4, (some FieldType.int), 0, 0, [])
theorem mf_y_countOwned : ch_MF m_y_countOwned := ⟨ch_wg 414 (by decide +kernel) (by decide +kernel), ch_wg 2 (by decide +kernel) (by decide +kernel), ⟨by decide, by decide⟩, plainFor_of_name (by decide +kernel), by decide⟩
theorem mi_y_countOwned : Cond.instanceMethod (ch_nm m_y_countOwned) ∈ ch_good := ch_wg 412 (by decide +kernel) (by decide +kernel)
theorem me_y_countOwned : Cond.selects (ch_nm m_y_countOwned).cls (ch_nm m_y_countOwned) (ch_nm m_y_countOwned) ∈ ch_good := ch_wg 413 (by decide +kernel) (by decide +kernel)
def m_y_ownedFrom : ch_MI := (⟨"ChalkWarrants$Yard", "ownedFrom", "(II)I"⟩, prog_9_method_19_code, 6, (some FieldType.int), 0, 0, [])
theorem mf_y_ownedFrom : ch_MF m_y_ownedFrom := ⟨ch_wg 931 (by decide +kernel) (by decide +kernel), ch_wg 2 (by decide +kernel) (by decide +kernel), ⟨by decide, by decide⟩, plainFor_of_name (by decide +kernel), by decide⟩
theorem mi_y_ownedFrom : Cond.instanceMethod (ch_nm m_y_ownedFrom) ∈ ch_good := ch_wg 929 (by decide +kernel) (by decide +kernel)
theorem me_y_ownedFrom : Cond.selects (ch_nm m_y_ownedFrom).cls (ch_nm m_y_ownedFrom) (ch_nm m_y_ownedFrom) ∈ ch_good := ch_wg 930 (by decide +kernel) (by decide +kernel)
def m_y_sumChalk : ch_MI := (⟨"ChalkWarrants$Yard", "sumChalk", "(I)I"⟩, prog_9_method_20_code, 4, (some FieldType.int), 0, 0, [])
theorem mf_y_sumChalk : ch_MF m_y_sumChalk := ⟨ch_wg 627 (by decide +kernel) (by decide +kernel), ch_wg 2 (by decide +kernel) (by decide +kernel), ⟨by decide, by decide⟩, plainFor_of_name (by decide +kernel), by decide⟩
theorem mi_y_sumChalk : Cond.instanceMethod (ch_nm m_y_sumChalk) ∈ ch_good := ch_wg 625 (by decide +kernel) (by decide +kernel)
theorem me_y_sumChalk : Cond.selects (ch_nm m_y_sumChalk).cls (ch_nm m_y_sumChalk) (ch_nm m_y_sumChalk) ∈ ch_good := ch_wg 626 (by decide +kernel) (by decide +kernel)
def m_y_sumAllChalk : ch_MI := (⟨"ChalkWarrants$Yard", "sumAllChalk", "()I"⟩, prog_9_method_21_code, 3, (some FieldType.int), 0, 0, [])
theorem mf_y_sumAllChalk : ch_MF m_y_sumAllChalk := ⟨ch_wg 894 (by decide +kernel) (by decide +kernel), ch_wg 2 (by decide +kernel) (by decide +kernel), ⟨by decide, by decide⟩, plainFor_of_name (by decide +kernel), by decide⟩
theorem mi_y_sumAllChalk : Cond.instanceMethod (ch_nm m_y_sumAllChalk) ∈ ch_good := ch_wg 892 (by decide +kernel) (by decide +kernel)
theorem me_y_sumAllChalk : Cond.selects (ch_nm m_y_sumAllChalk).cls (ch_nm m_y_sumAllChalk) (ch_nm m_y_sumAllChalk) ∈ ch_good := ch_wg 893 (by decide +kernel) (by decide +kernel)
def m_y_sumPebbles : ch_MI := (⟨"ChalkWarrants$Yard", "sumPebbles", "()I"⟩, prog_9_method_22_code, 3, (some FieldType.int), 0, 0, [])
theorem mf_y_sumPebbles : ch_MF m_y_sumPebbles := ⟨ch_wg 801 (by decide +kernel) (by decide +kernel), ch_wg 2 (by decide +kernel) (by decide +kernel), ⟨by decide, by decide⟩, plainFor_of_name (by decide +kernel), by decide⟩
theorem mi_y_sumPebbles : Cond.instanceMethod (ch_nm m_y_sumPebbles) ∈ ch_good := ch_wg 799 (by decide +kernel) (by decide +kernel)
theorem me_y_sumPebbles : Cond.selects (ch_nm m_y_sumPebbles).cls (ch_nm m_y_sumPebbles) (ch_nm m_y_sumPebbles) ∈ ch_good := ch_wg 800 (by decide +kernel) (by decide +kernel)
def m_y_longestRun : ch_MI := (⟨"ChalkWarrants$Yard", "longestRun", "(I)I"⟩, prog_9_method_23_code, 5, (some FieldType.int), 1, 0, [])
theorem mf_y_longestRun : ch_MF m_y_longestRun := ⟨ch_wg 317 (by decide +kernel) (by decide +kernel), ch_wg 2 (by decide +kernel) (by decide +kernel), ⟨by decide, by decide⟩, plainFor_of_name (by decide +kernel), by decide⟩
theorem mi_y_longestRun : Cond.instanceMethod (ch_nm m_y_longestRun) ∈ ch_good := ch_wg 315 (by decide +kernel) (by decide +kernel)
theorem me_y_longestRun : Cond.selects (ch_nm m_y_longestRun).cls (ch_nm m_y_longestRun) (ch_nm m_y_longestRun) ∈ ch_good := ch_wg 316 (by decide +kernel) (by decide +kernel)
def m_y_countAhead : ch_MI := (⟨"ChalkWarrants$Yard", "countAhead", "(II)I"⟩, prog_9_method_25_code, 7, (some FieldType.int), 2, 0, [])
theorem mf_y_countAhead : ch_MF m_y_countAhead := ⟨ch_wg 977 (by decide +kernel) (by decide +kernel), ch_wg 2 (by decide +kernel) (by decide +kernel), ⟨by decide, by decide⟩, plainFor_of_name (by decide +kernel), by decide⟩
theorem mi_y_countAhead : Cond.instanceMethod (ch_nm m_y_countAhead) ∈ ch_good := ch_wg 975 (by decide +kernel) (by decide +kernel)
theorem me_y_countAhead : Cond.selects (ch_nm m_y_countAhead).cls (ch_nm m_y_countAhead) (ch_nm m_y_countAhead) ∈ ch_good := ch_wg 976 (by decide +kernel) (by decide +kernel)
def m_y_measureOf : ch_MI := (⟨"ChalkWarrants$Yard", "measureOf", "(II)I"⟩, prog_9_method_26_code, 3, (some FieldType.int), 1, 0, [])
theorem mf_y_measureOf : ch_MF m_y_measureOf := ⟨ch_wg 981 (by decide +kernel) (by decide +kernel), ch_wg 2 (by decide +kernel) (by decide +kernel), ⟨by decide, by decide⟩, plainFor_of_name (by decide +kernel), by decide⟩
theorem mi_y_measureOf : Cond.instanceMethod (ch_nm m_y_measureOf) ∈ ch_good := ch_wg 980 (by decide +kernel) (by decide +kernel)
theorem me_y_measureOf : Cond.selects (ch_nm m_y_measureOf).cls (ch_nm m_y_measureOf) (ch_nm m_y_measureOf) ∈ ch_good := ch_wp (q := (ch_nm m_y_measureOf, 17)) 37 (by decide +kernel) (by decide +kernel)
def m_l_at : ch_MI := (⟨"ChalkWarrantsLaw", "at", "([II)I"⟩, method_2_code, 2, (some FieldType.int), 0, 0, [])
theorem mf_l_at : ch_MF m_l_at := ⟨ch_wg 338 (by decide +kernel) (by decide +kernel), ch_wg 0 (by decide +kernel) (by decide +kernel), ⟨by decide, by decide⟩, plainFor_of_name (by decide +kernel), by decide⟩
theorem ms_l_at : Cond.static (ch_nm m_l_at) ∈ ch_good := ch_wg 337 (by decide +kernel) (by decide +kernel)
def m_l_some : ch_MI := (⟨"ChalkWarrantsLaw", "some", "(II)I"⟩, method_3_code, 3, (some FieldType.int), 0, 0, [])
theorem mf_l_some : ch_MF m_l_some := ⟨ch_wg 838 (by decide +kernel) (by decide +kernel), ch_wg 0 (by decide +kernel) (by decide +kernel), ⟨by decide, by decide⟩, plainFor_of_name (by decide +kernel), by decide⟩
theorem ms_l_some : Cond.static (ch_nm m_l_some) ∈ ch_good := ch_wg 837 (by decide +kernel) (by decide +kernel)
def m_l_child : ch_MI := (⟨"ChalkWarrantsLaw", "child", "(LChalkWarrants;I)I"⟩, method_4_code, 3, (some FieldType.int), 8, 1, [(0, 5, 6, 13)])
theorem mf_l_child : ch_MF m_l_child := ⟨ch_wg 341 (by decide +kernel) (by decide +kernel), ch_wg 0 (by decide +kernel) (by decide +kernel), ⟨by decide, by decide⟩, plainFor_of_name (by decide +kernel), by decide⟩
theorem ms_l_child : Cond.static (ch_nm m_l_child) ∈ ch_good := ch_wg 340 (by decide +kernel) (by decide +kernel)
def m_l_chalk : ch_MI := (⟨"ChalkWarrantsLaw", "chalk", "(LChalkWarrants;II)I"⟩, method_5_code, 4, (some FieldType.int), 8, 1, [(0, 6, 7, 13)])
theorem mf_l_chalk : ch_MF m_l_chalk := ⟨ch_wg 557 (by decide +kernel) (by decide +kernel), ch_wg 0 (by decide +kernel) (by decide +kernel), ⟨by decide, by decide⟩, plainFor_of_name (by decide +kernel), by decide⟩
theorem ms_l_chalk : Cond.static (ch_nm m_l_chalk) ∈ ch_good := ch_wg 556 (by decide +kernel) (by decide +kernel)
def m_l_hop : ch_MI := (⟨"ChalkWarrantsLaw", "hop", "(LChalkWarrants;II)I"⟩, method_6_code, 4, (some FieldType.int), 8, 1, [(0, 6, 7, 13)])
theorem mf_l_hop : ch_MF m_l_hop := ⟨ch_wg 844 (by decide +kernel) (by decide +kernel), ch_wg 0 (by decide +kernel) (by decide +kernel), ⟨by decide, by decide⟩, plainFor_of_name (by decide +kernel), by decide⟩
theorem ms_l_hop : Cond.static (ch_nm m_l_hop) ∈ ch_good := ch_wg 843 (by decide +kernel) (by decide +kernel)
def m_l_warrant : ch_MI := (⟨"ChalkWarrantsLaw", "warrant", "(LChalkWarrants;I)I"⟩, method_7_code, 3, (some FieldType.int), 8, 1, [(0, 5, 6, 13)])
theorem mf_l_warrant : ch_MF m_l_warrant := ⟨ch_wg 856 (by decide +kernel) (by decide +kernel), ch_wg 0 (by decide +kernel) (by decide +kernel), ⟨by decide, by decide⟩, plainFor_of_name (by decide +kernel), by decide⟩
theorem ms_l_warrant : Cond.static (ch_nm m_l_warrant) ∈ ch_good := ch_wg 855 (by decide +kernel) (by decide +kernel)
def m_l_strike : ch_MI := (⟨"ChalkWarrantsLaw", "strike", "(LChalkWarrants;I)I"⟩, method_8_code, 3, (some FieldType.int), 8, 1, [(0, 5, 6, 13)])
theorem mf_l_strike : ch_MF m_l_strike := ⟨ch_wg 1026 (by decide +kernel) (by decide +kernel), ch_wg 0 (by decide +kernel) (by decide +kernel), ⟨by decide, by decide⟩, plainFor_of_name (by decide +kernel), by decide⟩
theorem ms_l_strike : Cond.static (ch_nm m_l_strike) ∈ ch_good := ch_wg 1025 (by decide +kernel) (by decide +kernel)
def m_l_rain : ch_MI := (⟨"ChalkWarrantsLaw", "rain", "(LChalkWarrants;I)I"⟩, method_9_code, 3, (some FieldType.int), 8, 1, [(0, 5, 6, 13)])
theorem mf_l_rain : ch_MF m_l_rain := ⟨ch_wg 1033 (by decide +kernel) (by decide +kernel), ch_wg 0 (by decide +kernel) (by decide +kernel), ⟨by decide, by decide⟩, plainFor_of_name (by decide +kernel), by decide⟩
theorem ms_l_rain : Cond.static (ch_nm m_l_rain) ∈ ch_good := ch_wg 1032 (by decide +kernel) (by decide +kernel)
def m_l_term : ch_MI := (⟨"ChalkWarrantsLaw", "term", "(LChalkWarrants;)I"⟩, method_10_code, 2, (some FieldType.int), 8, 1, [(0, 4, 5, 13)])
theorem mf_l_term : ch_MF m_l_term := ⟨ch_wg 1314 (by decide +kernel) (by decide +kernel), ch_wg 0 (by decide +kernel) (by decide +kernel), ⟨by decide, by decide⟩, plainFor_of_name (by decide +kernel), by decide⟩
theorem ms_l_term : Cond.static (ch_nm m_l_term) ∈ ch_good := ch_wg 1313 (by decide +kernel) (by decide +kernel)
def m_l_give : ch_MI := (⟨"ChalkWarrantsLaw", "give", "(LChalkWarrants;III)I"⟩, method_11_code, 5, (some FieldType.int), 8, 1, [(0, 7, 8, 13)])
theorem mf_l_give : ch_MF m_l_give := ⟨ch_wg 1040 (by decide +kernel) (by decide +kernel), ch_wg 0 (by decide +kernel) (by decide +kernel), ⟨by decide, by decide⟩, plainFor_of_name (by decide +kernel), by decide⟩
theorem ms_l_give : Cond.static (ch_nm m_l_give) ∈ ch_good := ch_wg 1039 (by decide +kernel) (by decide +kernel)
def m_l_squareOf : ch_MI := (⟨"ChalkWarrantsLaw", "squareOf", "(LChalkWarrants;IZ)I"⟩, method_12_code, 4, (some FieldType.int), 7, 1, [(0, 6, 7, 43)])
theorem mf_l_squareOf : ch_MF m_l_squareOf := ⟨ch_wg 1325 (by decide +kernel) (by decide +kernel), ch_wg 0 (by decide +kernel) (by decide +kernel), ⟨by decide, by decide⟩, plainFor_of_name (by decide +kernel), by decide⟩
theorem ms_l_squareOf : Cond.static (ch_nm m_l_squareOf) ∈ ch_good := ch_wg 1324 (by decide +kernel) (by decide +kernel)
def m_l_of : ch_MI := (⟨"ChalkWarrantsLaw", "of", "(LChalkWarrants;II)I"⟩, method_13_code, 4, (some FieldType.int), 8, 2, [(0, 6, 7, 43), (0, 6, 12, 48)])
theorem mf_l_of : ch_MF m_l_of := ⟨ch_wg 564 (by decide +kernel) (by decide +kernel), ch_wg 0 (by decide +kernel) (by decide +kernel), ⟨by decide, by decide⟩, plainFor_of_name (by decide +kernel), by decide⟩
theorem ms_l_of : Cond.static (ch_nm m_l_of) ∈ ch_good := ch_wg 563 (by decide +kernel) (by decide +kernel)
def m_l_squares : ch_MI := (⟨"ChalkWarrantsLaw", "squares", "(LChalkWarrants;I)I"⟩, method_14_code, 3, (some FieldType.int), 8, 1, [(0, 5, 6, 43)])
theorem mf_l_squares : ch_MF m_l_squares := ⟨ch_wg 923 (by decide +kernel) (by decide +kernel), ch_wg 0 (by decide +kernel) (by decide +kernel), ⟨by decide, by decide⟩, plainFor_of_name (by decide +kernel), by decide⟩
theorem ms_l_squares : Cond.static (ch_nm m_l_squares) ∈ ch_good := ch_wg 922 (by decide +kernel) (by decide +kernel)
def m_l_warrantAt : ch_MI := (⟨"ChalkWarrantsLaw", "warrantAt", "(LChalkWarrants;I)I"⟩, method_15_code, 3, (some FieldType.int), 7, 1, [(0, 5, 6, 56)])
theorem mf_l_warrantAt : ch_MF m_l_warrantAt := ⟨ch_wg 993 (by decide +kernel) (by decide +kernel), ch_wg 0 (by decide +kernel) (by decide +kernel), ⟨by decide, by decide⟩, plainFor_of_name (by decide +kernel), by decide⟩
theorem ms_l_warrantAt : Cond.static (ch_nm m_l_warrantAt) ∈ ch_good := ch_wg 992 (by decide +kernel) (by decide +kernel)
def m_l_fewest : ch_MI := (⟨"ChalkWarrantsLaw", "fewest", "(LChalkWarrants;I)I"⟩, method_16_code, 3, (some FieldType.int), 8, 1, [(0, 5, 6, 43)])
theorem mf_l_fewest : ch_MF m_l_fewest := ⟨ch_wg 645 (by decide +kernel) (by decide +kernel), ch_wg 0 (by decide +kernel) (by decide +kernel), ⟨by decide, by decide⟩, plainFor_of_name (by decide +kernel), by decide⟩
theorem ms_l_fewest : Cond.static (ch_nm m_l_fewest) ∈ ch_good := ch_wg 644 (by decide +kernel) (by decide +kernel)
def m_l_fewestAgain : ch_MI := (⟨"ChalkWarrantsLaw", "fewestAgain", "(LChalkWarrants;I)I"⟩, method_17_code, 3, (some FieldType.int), 8, 1, [(0, 5, 6, 43)])
theorem mf_l_fewestAgain : ch_MF m_l_fewestAgain := ⟨ch_wg 934 (by decide +kernel) (by decide +kernel), ch_wg 0 (by decide +kernel) (by decide +kernel), ⟨by decide, by decide⟩, plainFor_of_name (by decide +kernel), by decide⟩
theorem ms_l_fewestAgain : Cond.static (ch_nm m_l_fewestAgain) ∈ ch_good := ch_wg 933 (by decide +kernel) (by decide +kernel)
def m_l_step : ch_MI := (⟨"ChalkWarrantsLaw", "step", "(LChalkWarrants;II)I"⟩, method_18_code, 4, (some FieldType.int), 8, 2, [(0, 6, 7, 43), (0, 6, 12, 56)])
theorem mf_l_step : ch_MF m_l_step := ⟨ch_wg 665 (by decide +kernel) (by decide +kernel), ch_wg 0 (by decide +kernel) (by decide +kernel), ⟨by decide, by decide⟩, plainFor_of_name (by decide +kernel), by decide⟩
theorem ms_l_step : Cond.static (ch_nm m_l_step) ∈ ch_good := ch_wg 664 (by decide +kernel) (by decide +kernel)
def m_l_wouldTread : ch_MI := (⟨"ChalkWarrantsLaw", "wouldTread", "(LChalkWarrants;II)I"⟩, method_19_code, 4, (some FieldType.int), 8, 2, [(0, 6, 7, 43), (0, 6, 12, 48)])
theorem mf_l_wouldTread : ch_MF m_l_wouldTread := ⟨ch_wg 1332 (by decide +kernel) (by decide +kernel), ch_wg 0 (by decide +kernel) (by decide +kernel), ⟨by decide, by decide⟩, plainFor_of_name (by decide +kernel), by decide⟩
theorem ms_l_wouldTread : Cond.static (ch_nm m_l_wouldTread) ∈ ch_good := ch_wg 1331 (by decide +kernel) (by decide +kernel)
def m_l_longest : ch_MI := (⟨"ChalkWarrantsLaw", "longest", "(LChalkWarrants;I)I"⟩, method_20_code, 3, (some FieldType.int), 8, 1, [(0, 5, 6, 43)])
theorem mf_l_longest : ch_MF m_l_longest := ⟨ch_wg 696 (by decide +kernel) (by decide +kernel), ch_wg 0 (by decide +kernel) (by decide +kernel), ⟨by decide, by decide⟩, plainFor_of_name (by decide +kernel), by decide⟩
theorem ms_l_longest : Cond.static (ch_nm m_l_longest) ∈ ch_good := ch_wg 695 (by decide +kernel) (by decide +kernel)
def m_l_wouldEnd : ch_MI := (⟨"ChalkWarrantsLaw", "wouldEnd", "(LChalkWarrants;I)I"⟩, method_21_code, 3, (some FieldType.int), 7, 1, [(0, 5, 6, 48)])
theorem mf_l_wouldEnd : ch_MF m_l_wouldEnd := ⟨ch_wg 985 (by decide +kernel) (by decide +kernel), ch_wg 0 (by decide +kernel) (by decide +kernel), ⟨by decide, by decide⟩, plainFor_of_name (by decide +kernel), by decide⟩
theorem ms_l_wouldEnd : Cond.static (ch_nm m_l_wouldEnd) ∈ ch_good := ch_wg 984 (by decide +kernel) (by decide +kernel)
def m_l_rainFor : ch_MI := (⟨"ChalkWarrantsLaw", "rainFor", "(LChalkWarrants;I)I"⟩, method_22_code, 3, (some FieldType.int), 8, 2, [(0, 5, 6, 43), (0, 5, 11, 56)])
theorem mf_l_rainFor : ch_MF m_l_rainFor := ⟨ch_wg 947 (by decide +kernel) (by decide +kernel), ch_wg 0 (by decide +kernel) (by decide +kernel), ⟨by decide, by decide⟩, plainFor_of_name (by decide +kernel), by decide⟩
theorem ms_l_rainFor : Cond.static (ch_nm m_l_rainFor) ∈ ch_good := ch_wg 946 (by decide +kernel) (by decide +kernel)
def m_l_wouldLose : ch_MI := (⟨"ChalkWarrantsLaw", "wouldLose", "(LChalkWarrants;I)I"⟩, method_23_code, 3, (some FieldType.int), 8, 1, [(0, 5, 6, 43)])
theorem mf_l_wouldLose : ch_MF m_l_wouldLose := ⟨ch_wg 954 (by decide +kernel) (by decide +kernel), ch_wg 0 (by decide +kernel) (by decide +kernel), ⟨by decide, by decide⟩, plainFor_of_name (by decide +kernel), by decide⟩
theorem ms_l_wouldLose : Cond.static (ch_nm m_l_wouldLose) ∈ ch_good := ch_wg 953 (by decide +kernel) (by decide +kernel)
def m_l_termsFor : ch_MI := (⟨"ChalkWarrantsLaw", "termsFor", "(LChalkWarrants;I)I"⟩, method_24_code, 3, (some FieldType.int), 8, 2, [(0, 5, 6, 43), (0, 5, 11, 56)])
theorem mf_l_termsFor : ch_MF m_l_termsFor := ⟨ch_wg 961 (by decide +kernel) (by decide +kernel), ch_wg 0 (by decide +kernel) (by decide +kernel), ⟨by decide, by decide⟩, plainFor_of_name (by decide +kernel), by decide⟩
theorem ms_l_termsFor : Cond.static (ch_nm m_l_termsFor) ∈ ch_good := ch_wg 960 (by decide +kernel) (by decide +kernel)
def m_l_ranked : ch_MI := (⟨"ChalkWarrantsLaw", "ranked", "(LChalkWarrants;II)I"⟩, method_25_code, 4, (some FieldType.int), 7, 1, [(0, 6, 7, 48), (0, 6, 12, 56)])
theorem mf_l_ranked : ch_MF m_l_ranked := ⟨ch_wg 969 (by decide +kernel) (by decide +kernel), ch_wg 0 (by decide +kernel) (by decide +kernel), ⟨by decide, by decide⟩, plainFor_of_name (by decide +kernel), by decide⟩
theorem ms_l_ranked : Cond.static (ch_nm m_l_ranked) ∈ ch_good := ch_wg 968 (by decide +kernel) (by decide +kernel)
def m_l_append : ch_MI := (⟨"ChalkWarrantsLaw", "append", "(LChalkWarrants;C)I"⟩, method_26_code, 3, (some FieldType.int), 7, 1, [(0, 5, 6, 92)])
theorem mf_l_append : ch_MF m_l_append := ⟨ch_wg 703 (by decide +kernel) (by decide +kernel), ch_wg 0 (by decide +kernel) (by decide +kernel), ⟨by decide, by decide⟩, plainFor_of_name (by decide +kernel), by decide⟩
theorem ms_l_append : Cond.static (ch_nm m_l_append) ∈ ch_good := ch_wg 702 (by decide +kernel) (by decide +kernel)
def m_l_commands : ch_MI := (⟨"ChalkWarrantsLaw", "commands", "(LChalkWarrants;)I"⟩, method_27_code, 2, (some FieldType.int), 8, 1, [(0, 4, 5, 48), (0, 4, 10, 13)])
theorem mf_l_commands : ch_MF m_l_commands := ⟨ch_wg 730 (by decide +kernel) (by decide +kernel), ch_wg 0 (by decide +kernel) (by decide +kernel), ⟨by decide, by decide⟩, plainFor_of_name (by decide +kernel), by decide⟩
theorem ms_l_commands : Cond.static (ch_nm m_l_commands) ∈ ch_good := ch_wg 729 (by decide +kernel) (by decide +kernel)
def m_l_reason : ch_MI := (⟨"ChalkWarrantsLaw", "reason", "(LChalkWarrants;I)I"⟩, method_28_code, 3, (some FieldType.int), 7, 1, [(0, 5, 6, 48), (0, 5, 11, 56)])
theorem mf_l_reason : ch_MF m_l_reason := ⟨ch_wg 828 (by decide +kernel) (by decide +kernel), ch_wg 0 (by decide +kernel) (by decide +kernel), ⟨by decide, by decide⟩, plainFor_of_name (by decide +kernel), by decide⟩
theorem ms_l_reason : Cond.static (ch_nm m_l_reason) ∈ ch_good := ch_wg 827 (by decide +kernel) (by decide +kernel)
def m_l_character : ch_MI := (⟨"ChalkWarrantsLaw", "character", "(LChalkWarrants;I)I"⟩, method_29_code, 3, (some FieldType.int), 7, 1, [(0, 5, 6, 43)])
theorem mf_l_character : ch_MF m_l_character := ⟨ch_wg 1012 (by decide +kernel) (by decide +kernel), ch_wg 0 (by decide +kernel) (by decide +kernel), ⟨by decide, by decide⟩, plainFor_of_name (by decide +kernel), by decide⟩
theorem ms_l_character : Cond.static (ch_nm m_l_character) ∈ ch_good := ch_wg 1011 (by decide +kernel) (by decide +kernel)
def m_l_meanChalk : ch_MI := (⟨"ChalkWarrantsLaw", "meanChalk", "(LChalkWarrants;)D"⟩, method_30_code, 2, (some FieldType.double), 7, 1, [(0, 4, 5, 108)])
theorem mf_l_meanChalk : ch_MF m_l_meanChalk := ⟨ch_wg 867 (by decide +kernel) (by decide +kernel), ch_wg 0 (by decide +kernel) (by decide +kernel), ⟨by decide, by decide⟩, plainFor_of_name (by decide +kernel), by decide⟩
theorem ms_l_meanChalk : Cond.static (ch_nm m_l_meanChalk) ∈ ch_good := ch_wg 866 (by decide +kernel) (by decide +kernel)
def m_l_account : ch_MI := (⟨"ChalkWarrantsLaw", "account", "(LChalkWarrants;I)I"⟩, method_31_code, 3, (some FieldType.int), 7, 1, [(0, 5, 6, 48)])
theorem mf_l_account : ch_MF m_l_account := ⟨ch_wg 793 (by decide +kernel) (by decide +kernel), ch_wg 0 (by decide +kernel) (by decide +kernel), ⟨by decide, by decide⟩, plainFor_of_name (by decide +kernel), by decide⟩
theorem ms_l_account : Cond.static (ch_nm m_l_account) ∈ ch_good := ch_wg 792 (by decide +kernel) (by decide +kernel)
def m_l_undo : ch_MI := (⟨"ChalkWarrantsLaw", "undo", "(LChalkWarrants;)I"⟩, method_32_code, 2, (some FieldType.int), 7, 1, [(0, 4, 5, 92)])
theorem mf_l_undo : ch_MF m_l_undo := ⟨ch_wg 804 (by decide +kernel) (by decide +kernel), ch_wg 0 (by decide +kernel) (by decide +kernel), ⟨by decide, by decide⟩, plainFor_of_name (by decide +kernel), by decide⟩
theorem ms_l_undo : Cond.static (ch_nm m_l_undo) ∈ ch_good := ch_wg 803 (by decide +kernel) (by decide +kernel)
def m_l_restore : ch_MI := (⟨"ChalkWarrantsLaw", "restore", "(LChalkWarrants;)I"⟩, method_33_code, 2, (some FieldType.int), 7, 1, [(0, 4, 5, 92)])
theorem mf_l_restore : ch_MF m_l_restore := ⟨ch_wg 815 (by decide +kernel) (by decide +kernel), ch_wg 0 (by decide +kernel) (by decide +kernel), ⟨by decide, by decide⟩, plainFor_of_name (by decide +kernel), by decide⟩
theorem ms_l_restore : Cond.static (ch_nm m_l_restore) ∈ ch_good := ch_wg 814 (by decide +kernel) (by decide +kernel)
def m_l_runs : ch_MI := (⟨"ChalkWarrantsLaw", "runs", "(LChalkWarrants;Ljava/lang/String;)I"⟩, method_34_code, 3, (some FieldType.int), 9, 80, [])
theorem mf_l_runs : ch_MF m_l_runs := ⟨ch_wg 1286 (by decide +kernel) (by decide +kernel), ch_wg 0 (by decide +kernel) (by decide +kernel), ⟨by decide, by decide⟩, plainFor_of_name (by decide +kernel), by decide⟩
theorem ms_l_runs : Cond.static (ch_nm m_l_runs) ∈ ch_good := ch_wg 1285 (by decide +kernel) (by decide +kernel)
def m_l_is : ch_MI := (⟨"ChalkWarrantsLaw", "is", "(LChalkWarrants;II)Z"⟩, method_35_code, 3, (some FieldType.boolean), 9, 4, [])
theorem mf_l_is : ch_MF m_l_is := ⟨ch_wg 822 (by decide +kernel) (by decide +kernel), ch_wg 0 (by decide +kernel) (by decide +kernel), ⟨by decide, by decide⟩, plainFor_of_name (by decide +kernel), by decide⟩
theorem ms_l_is : Cond.static (ch_nm m_l_is) ∈ ch_good := ch_wg 821 (by decide +kernel) (by decide +kernel)
def m_l_isAt : ch_MI := (⟨"ChalkWarrantsLaw", "isAt", "(LChalkWarrants;III)Z"⟩, method_36_code, 4, (some FieldType.boolean), 8, 4, [])
theorem mf_l_isAt : ch_MF m_l_isAt := ⟨ch_wg 825 (by decide +kernel) (by decide +kernel), ch_wg 0 (by decide +kernel) (by decide +kernel), ⟨by decide, by decide⟩, plainFor_of_name (by decide +kernel), by decide⟩
theorem ms_l_isAt : Cond.static (ch_nm m_l_isAt) ∈ ch_good := ch_wg 824 (by decide +kernel) (by decide +kernel)
def m_l_steps : ch_MI := (⟨"ChalkWarrantsLaw", "steps", "(I)I"⟩, method_38_code, 6, (some FieldType.int), 1, 0, [])
theorem mf_l_steps : ch_MF m_l_steps := ⟨ch_wg 841 (by decide +kernel) (by decide +kernel), ch_wg 0 (by decide +kernel) (by decide +kernel), ⟨by decide, by decide⟩, plainFor_of_name (by decide +kernel), by decide⟩
theorem ms_l_steps : Cond.static (ch_nm m_l_steps) ∈ ch_good := ch_wg 840 (by decide +kernel) (by decide +kernel)
def m_l_makes : ch_MI := (⟨"ChalkWarrantsLaw", "makes", "(LChalkWarrants;[I)Z"⟩, method_39_code, 6, (some FieldType.boolean), 9, 400, [])
theorem mf_l_makes : ch_MF m_l_makes := ⟨ch_wg 835 (by decide +kernel) (by decide +kernel), ch_wg 0 (by decide +kernel) (by decide +kernel), ⟨by decide, by decide⟩, plainFor_of_name (by decide +kernel), by decide⟩
theorem ms_l_makes : Cond.static (ch_nm m_l_makes) ∈ ch_good := ch_wg 834 (by decide +kernel) (by decide +kernel)
def m_l_asks : ch_MI := (⟨"ChalkWarrantsLaw", "asks", "(LChalkWarrants;)J"⟩, method_40_code, 5, (some FieldType.long), 9, 1200, [])
theorem mf_l_asks : ch_MF m_l_asks := ⟨ch_wg 863 (by decide +kernel) (by decide +kernel), ch_wg 0 (by decide +kernel) (by decide +kernel), ⟨by decide, by decide⟩, plainFor_of_name (by decide +kernel), by decide⟩
theorem ms_l_asks : Cond.static (ch_nm m_l_asks) ∈ ch_good := ch_wg 862 (by decide +kernel) (by decide +kernel)
def m_l_changes : ch_MI := (⟨"ChalkWarrantsLaw", "changes", "(LChalkWarrants;I)Z"⟩, method_41_code, 3, (some FieldType.boolean), 10, 200, [])
theorem mf_l_changes : ch_MF m_l_changes := ⟨ch_wg 1023 (by decide +kernel) (by decide +kernel), ch_wg 0 (by decide +kernel) (by decide +kernel), ⟨by decide, by decide⟩, plainFor_of_name (by decide +kernel), by decide⟩
theorem ms_l_changes : Cond.static (ch_nm m_l_changes) ∈ ch_good := ch_wg 1022 (by decide +kernel) (by decide +kernel)
def m_l_refused : ch_MI := (⟨"ChalkWarrantsLaw", "refused", "(LChalkWarrants;)Z"⟩, method_42_code, 7, (some FieldType.boolean), 10, 6000, [])
set_option maxRecDepth 1000000 in
theorem mf_l_refused : ch_MF m_l_refused := ⟨ch_wg 1321 (by rfl) (by decide +kernel), ch_wg 0 (by decide +kernel) (by decide +kernel), ⟨by decide, by decide⟩, plainFor_of_name (by decide +kernel), by decide⟩
theorem ms_l_refused : Cond.static (ch_nm m_l_refused) ∈ ch_good := ch_wg 1320 (by decide +kernel) (by decide +kernel)
def m_l_law : ch_MI := (⟨"ChalkWarrantsLaw", "law", "([I)Z"⟩, code, 11, (some .boolean), 11, 16254, [])
def m_a_append : ch_MI := (⟨"java/lang/AbstractStringBuilder", "append", "(I)Ljava/lang/AbstractStringBuilder;"⟩, prog_13_method_32_code, 4, (some (FieldType.object "java/lang/AbstractStringBuilder")), 2, 0, [])
theorem mf_a_append : ch_MF m_a_append := ⟨ch_wg 1197 (by decide +kernel) (by decide +kernel), ch_wg 29 (by decide +kernel) (by decide +kernel), ⟨by decide, by decide⟩, plainFor_of_name (by decide +kernel), by decide⟩
theorem mi_a_append : Cond.instanceMethod (ch_nm m_a_append) ∈ ch_good := ch_wg 1196 (by decide +kernel) (by decide +kernel)
def m_a_append2 : ch_MI := (⟨"java/lang/AbstractStringBuilder", "append", "(Ljava/lang/String;)Ljava/lang/AbstractStringBuilder;"⟩, prog_13_method_22_code, 3, (some (FieldType.object "java/lang/AbstractStringBuilder")), 3, 0, [])
theorem mf_a_append2 : ch_MF m_a_append2 := ⟨ch_wg 1083 (by decide +kernel) (by decide +kernel), ch_wg 29 (by decide +kernel) (by decide +kernel), ⟨by decide, by decide⟩, plainFor_of_name (by decide +kernel), by decide⟩
theorem mi_a_append2 : Cond.instanceMethod (ch_nm m_a_append2) ∈ ch_good := ch_wg 1082 (by decide +kernel) (by decide +kernel)
def m_a_ensureCapacityInternal : ch_MI := (⟨"java/lang/AbstractStringBuilder", "ensureCapacityInternal", "(I)V"⟩, prog_13_method_9_code, 3, none, 1, 0, [])
theorem mf_a_ensureCapacityInternal : ch_MF m_a_ensureCapacityInternal := ⟨ch_wg 1091 (by decide +kernel) (by decide +kernel), ch_wg 29 (by decide +kernel) (by decide +kernel), ⟨by decide, by decide⟩, plainFor_of_name (by decide +kernel), by decide⟩
theorem mi_a_ensureCapacityInternal : Cond.instanceMethod (ch_nm m_a_ensureCapacityInternal) ∈ ch_good := ch_wg 1090 (by decide +kernel) (by decide +kernel)
def m_a_getValue : ch_MI := (⟨"java/lang/AbstractStringBuilder", "getValue", "()[B"⟩, prog_13_method_64_code, 1, (some (FieldType.array FieldType.byte)), 0, 0, [])
theorem mf_a_getValue : ch_MF m_a_getValue := ⟨ch_wg 1233 (by decide +kernel) (by decide +kernel), ch_wg 29 (by decide +kernel) (by decide +kernel), ⟨by decide, by decide⟩, plainFor_of_name (by decide +kernel), by decide⟩
theorem mi_a_getValue : Cond.instanceMethod (ch_nm m_a_getValue) ∈ ch_good := ch_wg 1230 (by decide +kernel) (by decide +kernel)
def m_a_inflateIfNeededFor : ch_MI := (⟨"java/lang/AbstractStringBuilder", "inflateIfNeededFor", "(Ljava/lang/String;)V"⟩, prog_13_method_71_code, 2, none, 1, 0, [])
theorem mf_a_inflateIfNeededFor : ch_MF m_a_inflateIfNeededFor := ⟨ch_wg 1164 (by decide +kernel) (by decide +kernel), ch_wg 29 (by decide +kernel) (by decide +kernel), ⟨by decide, by decide⟩, plainFor_of_name (by decide +kernel), by decide⟩
theorem mi_a_inflateIfNeededFor : Cond.instanceMethod (ch_nm m_a_inflateIfNeededFor) ∈ ch_good := ch_wg 1163 (by decide +kernel) (by decide +kernel)
def m_a_isLatin1 : ch_MI := (⟨"java/lang/AbstractStringBuilder", "isLatin1", "()Z"⟩, prog_13_method_68_code, 1, (some FieldType.boolean), 0, 0, [])
theorem mf_a_isLatin1 : ch_MF m_a_isLatin1 := ⟨ch_wg 1121 (by decide +kernel) (by decide +kernel), ch_wg 29 (by decide +kernel) (by decide +kernel), ⟨by decide, by decide⟩, plainFor_of_name (by decide +kernel), by decide⟩
theorem mi_a_isLatin1 : Cond.instanceMethod (ch_nm m_a_isLatin1) ∈ ch_good := ch_wg 1118 (by decide +kernel) (by decide +kernel)
def m_a_length : ch_MI := (⟨"java/lang/AbstractStringBuilder", "length", "()I"⟩, prog_13_method_6_code, 1, (some FieldType.int), 0, 0, [])
theorem mf_a_length : ch_MF m_a_length := ⟨ch_wg 1241 (by decide +kernel) (by decide +kernel), ch_wg 29 (by decide +kernel) (by decide +kernel), ⟨by decide, by decide⟩, plainFor_of_name (by decide +kernel), by decide⟩
theorem mi_a_length : Cond.instanceMethod (ch_nm m_a_length) ∈ ch_good := ch_wg 1235 (by decide +kernel) (by decide +kernel)
def m_a_putStringAt : ch_MI := (⟨"java/lang/AbstractStringBuilder", "putStringAt", "(ILjava/lang/String;)V"⟩, prog_13_method_73_code, 3, none, 2, 0, [])
theorem mf_a_putStringAt : ch_MF m_a_putStringAt := ⟨ch_wg 1160 (by decide +kernel) (by decide +kernel), ch_wg 29 (by decide +kernel) (by decide +kernel), ⟨by decide, by decide⟩, plainFor_of_name (by decide +kernel), by decide⟩
theorem mi_a_putStringAt : Cond.instanceMethod (ch_nm m_a_putStringAt) ∈ ch_good := ch_wg 1159 (by decide +kernel) (by decide +kernel)
def m_u_doubleToLongBits : ch_MI := (⟨"java/lang/Double", "doubleToLongBits", "(D)J"⟩, prog_20_method_23_code, 2, (some FieldType.long), 1, 0, [])
theorem mf_u_doubleToLongBits : ch_MF m_u_doubleToLongBits := ⟨ch_wg 898 (by decide +kernel) (by decide +kernel), ch_wg 24 (by decide +kernel) (by decide +kernel), ⟨by decide, by decide⟩, plainFor_of_name (by decide +kernel), by decide⟩
theorem ms_u_doubleToLongBits : Cond.static (ch_nm m_u_doubleToLongBits) ∈ ch_good := ch_wg 897 (by decide +kernel) (by decide +kernel)
def m_u_isNaN : ch_MI := (⟨"java/lang/Double", "isNaN", "(D)Z"⟩, prog_20_method_6_code, 2, (some FieldType.boolean), 0, 0, [])
theorem mf_u_isNaN : ch_MF m_u_isNaN := ⟨ch_wg 901 (by decide +kernel) (by decide +kernel), ch_wg 24 (by decide +kernel) (by decide +kernel), ⟨by decide, by decide⟩, plainFor_of_name (by decide +kernel), by decide⟩
theorem ms_u_isNaN : Cond.static (ch_nm m_u_isNaN) ∈ ch_good := ch_wg 900 (by decide +kernel) (by decide +kernel)
def m_f_floatToIntBits : ch_MI := (⟨"java/lang/Float", "floatToIntBits", "(F)I"⟩, prog_22_method_24_code, 1, (some FieldType.int), 1, 0, [])
theorem mf_f_floatToIntBits : ch_MF m_f_floatToIntBits := ⟨ch_wg 913 (by decide +kernel) (by decide +kernel), ch_wg 25 (by decide +kernel) (by decide +kernel), ⟨by decide, by decide⟩, by decide +kernel, by decide⟩
theorem ms_f_floatToIntBits : Cond.static (ch_nm m_f_floatToIntBits) ∈ ch_good := ch_wg 912 (by decide +kernel) (by decide +kernel)
def m_f_isNaN : ch_MI := (⟨"java/lang/Float", "isNaN", "(F)Z"⟩, prog_22_method_6_code, 1, (some FieldType.boolean), 0, 0, [])
theorem mf_f_isNaN : ch_MF m_f_isNaN := ⟨ch_wg 916 (by decide +kernel) (by decide +kernel), ch_wg 25 (by decide +kernel) (by decide +kernel), ⟨by decide, by decide⟩, by decide +kernel, by decide⟩
theorem ms_f_isNaN : Cond.static (ch_nm m_f_isNaN) ∈ ch_good := ch_wg 915 (by decide +kernel) (by decide +kernel)
def m_i_getChars : ch_MI := (⟨"java/lang/Integer", "getChars", "(II[B)I"⟩, prog_26_method_12_code, 7, (some FieldType.int), 0, 0, [])
theorem mf_i_getChars : ch_MF m_i_getChars := ⟨ch_wg 1203 (by decide +kernel) (by decide +kernel), ch_wg 33 (by decide +kernel) (by decide +kernel), ⟨by decide, by decide⟩, plainFor_of_name (by decide +kernel), by decide⟩
theorem ms_i_getChars : Cond.static (ch_nm m_i_getChars) ∈ ch_good := ch_wg 1202 (by decide +kernel) (by decide +kernel)
def m_i_stringSize : ch_MI := (⟨"java/lang/Integer", "stringSize", "(I)I"⟩, prog_26_method_13_code, 4, (some FieldType.int), 0, 0, [])
theorem mf_i_stringSize : ch_MF m_i_stringSize := ⟨ch_wg 1200 (by decide +kernel) (by decide +kernel), ch_wg 33 (by decide +kernel) (by decide +kernel), ⟨by decide, by decide⟩, plainFor_of_name (by decide +kernel), by decide⟩
theorem ms_i_stringSize : Cond.static (ch_nm m_i_stringSize) ∈ ch_good := ch_wg 1199 (by decide +kernel) (by decide +kernel)
def m_q_charAt : ch_MI := (⟨"java/lang/String", "charAt", "(I)C"⟩, prog_30_method_56_code, 2, (some FieldType.char), 4, 0, [])
theorem mf_q_charAt : ch_MF m_q_charAt := ⟨ch_wg 1291 (by decide +kernel) (by decide +kernel), ch_wg 21 (by decide +kernel) (by decide +kernel), ⟨by decide, by decide⟩, plainFor_of_name (by decide +kernel), by decide⟩
theorem mi_q_charAt : Cond.instanceMethod (ch_nm m_q_charAt) ∈ ch_good := ch_wg 1289 (by decide +kernel) (by decide +kernel)
theorem me_q_charAt : Cond.selects (ch_nm m_q_charAt).cls (ch_nm m_q_charAt) (ch_nm m_q_charAt) ∈ ch_good := ch_wg 1290 (by decide +kernel) (by decide +kernel)
def m_q_checkIndex : ch_MI := (⟨"java/lang/String", "checkIndex", "(II)V"⟩, prog_30_method_155_code, 2, none, 2, 0, [])
theorem mf_q_checkIndex : ch_MF m_q_checkIndex := ⟨ch_wg 1301 (by decide +kernel) (by decide +kernel), ch_wg 21 (by decide +kernel) (by decide +kernel), ⟨by decide, by decide⟩, plainFor_of_name (by decide +kernel), by decide⟩
theorem ms_q_checkIndex : Cond.static (ch_nm m_q_checkIndex) ∈ ch_good := ch_wg 1300 (by decide +kernel) (by decide +kernel)
def m_q_coder : ch_MI := (⟨"java/lang/String", "coder", "()B"⟩, prog_30_method_152_code, 1, (some FieldType.byte), 0, 0, [])
theorem mf_q_coder : ch_MF m_q_coder := ⟨ch_wg 1155 (by decide +kernel) (by decide +kernel), ch_wg 21 (by decide +kernel) (by decide +kernel), ⟨by decide, by decide⟩, plainFor_of_name (by decide +kernel), by decide⟩
theorem mi_q_coder : Cond.instanceMethod (ch_nm m_q_coder) ∈ ch_good := ch_wg 1153 (by decide +kernel) (by decide +kernel)
theorem me_q_coder : Cond.selects (ch_nm m_q_coder).cls (ch_nm m_q_coder) (ch_nm m_q_coder) ∈ ch_good := ch_wg 1154 (by decide +kernel) (by decide +kernel)
def m_q_getBytes : ch_MI := (⟨"java/lang/String", "getBytes", "([BIB)V"⟩, prog_30_method_147_code, 4, none, 1, 0, [])
theorem mf_q_getBytes : ch_MF m_q_getBytes := ⟨ch_wg 1188 (by decide +kernel) (by decide +kernel), ch_wg 21 (by decide +kernel) (by decide +kernel), ⟨by decide, by decide⟩, plainFor_of_name (by decide +kernel), by decide⟩
theorem mi_q_getBytes : Cond.instanceMethod (ch_nm m_q_getBytes) ∈ ch_good := ch_wg 1186 (by decide +kernel) (by decide +kernel)
theorem me_q_getBytes : Cond.selects (ch_nm m_q_getBytes).cls (ch_nm m_q_getBytes) (ch_nm m_q_getBytes) ∈ ch_good := ch_wg 1187 (by decide +kernel) (by decide +kernel)
def m_q_isLatin1 : ch_MI := (⟨"java/lang/String", "isLatin1", "()Z"⟩, prog_30_method_154_code, 1, (some FieldType.boolean), 0, 0, [])
theorem mf_q_isLatin1 : ch_MF m_q_isLatin1 := ⟨ch_wg 1295 (by decide +kernel) (by decide +kernel), ch_wg 21 (by decide +kernel) (by decide +kernel), ⟨by decide, by decide⟩, plainFor_of_name (by decide +kernel), by decide⟩
theorem mi_q_isLatin1 : Cond.instanceMethod (ch_nm m_q_isLatin1) ∈ ch_good := ch_wg 1293 (by decide +kernel) (by decide +kernel)
theorem me_q_isLatin1 : Cond.selects (ch_nm m_q_isLatin1).cls (ch_nm m_q_isLatin1) (ch_nm m_q_isLatin1) ∈ ch_good := ch_wg 1294 (by decide +kernel) (by decide +kernel)
def m_q_length : ch_MI := (⟨"java/lang/String", "length", "()I"⟩, prog_30_method_54_code, 1, (some FieldType.int), 1, 0, [])
theorem mf_q_length : ch_MF m_q_length := ⟨ch_wg 1151 (by decide +kernel) (by decide +kernel), ch_wg 21 (by decide +kernel) (by decide +kernel), ⟨by decide, by decide⟩, plainFor_of_name (by decide +kernel), by decide⟩
theorem mi_q_length : Cond.instanceMethod (ch_nm m_q_length) ∈ ch_good := ch_wg 1149 (by decide +kernel) (by decide +kernel)
theorem me_q_length : Cond.selects (ch_nm m_q_length).cls (ch_nm m_q_length) (ch_nm m_q_length) ∈ ch_good := ch_wg 1150 (by decide +kernel) (by decide +kernel)
def m_b_append : ch_MI := (⟨"java/lang/StringBuilder", "append", "(I)Ljava/lang/StringBuilder;"⟩, prog_31_method_15_code, 2, (some (FieldType.object "java/lang/StringBuilder")), 3, 0, [])
theorem mf_b_append : ch_MF m_b_append := ⟨ch_wg 1194 (by decide +kernel) (by decide +kernel), ch_wg 30 (by decide +kernel) (by decide +kernel), ⟨by decide, by decide⟩, plainFor_of_name (by decide +kernel), by decide⟩
theorem mi_b_append : Cond.instanceMethod (ch_nm m_b_append) ∈ ch_good := ch_wg 1192 (by decide +kernel) (by decide +kernel)
theorem me_b_append : Cond.selects (ch_nm m_b_append).cls (ch_nm m_b_append) (ch_nm m_b_append) ∈ ch_good := ch_wg 1193 (by decide +kernel) (by decide +kernel)
def m_b_append2 : ch_MI := (⟨"java/lang/StringBuilder", "append", "(Ljava/lang/String;)Ljava/lang/StringBuilder;"⟩, prog_31_method_7_code, 2, (some (FieldType.object "java/lang/StringBuilder")), 4, 0, [])
theorem mf_b_append2 : ch_MF m_b_append2 := ⟨ch_wg 1080 (by decide +kernel) (by decide +kernel), ch_wg 30 (by decide +kernel) (by decide +kernel), ⟨by decide, by decide⟩, plainFor_of_name (by decide +kernel), by decide⟩
theorem mi_b_append2 : Cond.instanceMethod (ch_nm m_b_append2) ∈ ch_good := ch_wg 1078 (by decide +kernel) (by decide +kernel)
theorem me_b_append2 : Cond.selects (ch_nm m_b_append2).cls (ch_nm m_b_append2) (ch_nm m_b_append2) ∈ ch_good := ch_wg 1079 (by decide +kernel) (by decide +kernel)
def m_k_charAt : ch_MI := (⟨"java/lang/StringLatin1", "charAt", "([BI)C"⟩, prog_32_method_2_code, 2, (some FieldType.char), 3, 0, [])
theorem mf_k_charAt : ch_MF m_k_charAt := ⟨ch_wg 1298 (by decide +kernel) (by decide +kernel), ch_wg 26 (by decide +kernel) (by decide +kernel), ⟨by decide, by decide⟩, plainFor_of_name (by decide +kernel), by decide⟩
theorem ms_k_charAt : Cond.static (ch_nm m_k_charAt) ∈ ch_good := ch_wg 1297 (by decide +kernel) (by decide +kernel)
def m_g_checkLength : ch_MI := (⟨"java/util/Arrays", "checkLength", "(II)V"⟩, prog_39_method_131_code, 2, none, 1, 0, [])
theorem mf_g_checkLength : ch_MF m_g_checkLength := ⟨ch_wg 1251 (by decide +kernel) (by decide +kernel), ch_wg 32 (by decide +kernel) (by decide +kernel), ⟨by decide, by decide⟩, plainFor_of_name (by decide +kernel), by decide⟩
theorem ms_g_checkLength : Cond.static (ch_nm m_g_checkLength) ∈ ch_good := ch_wg 1250 (by decide +kernel) (by decide +kernel)
def m_o_checkIndex : ch_MI := (⟨"jdk/internal/util/Preconditions", "checkIndex", "(IILjava/util/function/BiFunction;)I"⟩, prog_42_method_11_code, 3, (some FieldType.int), 1, 0, [])
theorem mf_o_checkIndex : ch_MF m_o_checkIndex := ⟨ch_wg 1304 (by decide +kernel) (by decide +kernel), ch_wg 27 (by decide +kernel) (by decide +kernel), ⟨by decide, by decide⟩, plainFor_of_name (by decide +kernel), by decide⟩
theorem ms_o_checkIndex : Cond.static (ch_nm m_o_checkIndex) ∈ ch_good := ch_wg 1303 (by decide +kernel) (by decide +kernel)
def m_b_length : ch_MI := (⟨"java/lang/StringBuilder", "length", "()I"⟩, prog_31_method_93_code, 1, (some FieldType.int), 1, 0, [])
theorem mf_b_length : ch_MF m_b_length := ⟨ch_wg 1239 (by decide +kernel) (by decide +kernel), ch_wg 30 (by decide +kernel) (by decide +kernel), ⟨by decide, by decide⟩, plainFor_of_name (by decide +kernel), by decide⟩
theorem mi_b_length : Cond.instanceMethod (ch_nm m_b_length) ∈ ch_good := ch_wg 1238 (by decide +kernel) (by decide +kernel)
end
section
theorem fl_x_42 : ch_FL "ChalkWarrants" 42 0 6 := ⟨_, _, _, ch_Cl0, by decide, Or.inl (ch_wg 273 (by decide +kernel) (by decide +kernel))⟩
theorem lk_x_81 : ch_SV m_c_set "ChalkWarrants" 81 4 := ⟨mf_c_set, ch_wg 347 (by decide +kernel) (by decide +kernel), by decide +kernel⟩
theorem lk_x_85 : ch_SV m_x_change "ChalkWarrants" 85 0 := ⟨mf_x_change, ch_wg 351 (by decide +kernel) (by decide +kernel), by decide +kernel⟩
theorem fl_x_89 : ch_FL "ChalkWarrants" 89 4 0 := ⟨_, _, _, ch_Cl4, by decide, Or.inr ⟨"ChalkWarrants", ch_ow 193 (by decide +kernel) (by decide +kernel)⟩⟩
theorem lk_x_92 : ch_SV m_s_readFrom "ChalkWarrants" 92 1 := ⟨mf_s_readFrom, ch_wg 849 (by decide +kernel) (by decide +kernel), by decide +kernel⟩
theorem tw_x_96 : ch_TW "ChalkWarrants" 96 98 1 := ⟨ch_wg 608 (by decide +kernel) (by decide +kernel), ch_wg 19 (by decide +kernel) (by decide +kernel), ch_both_of (by decide +kernel), by decide⟩
theorem fl_x_10 : ch_FL "ChalkWarrants" 10 0 0 := ⟨_, _, _, ch_Cl0, by decide, Or.inl (ch_wg 267 (by decide +kernel) (by decide +kernel))⟩
theorem fl_x_99 : ch_FL "ChalkWarrants" 99 1 1 := ⟨_, _, _, ch_Cl1, by decide, Or.inr ⟨"ChalkWarrants", ch_ow 53 (by decide +kernel) (by decide +kernel)⟩⟩
theorem fl_x_103 : ch_FL "ChalkWarrants" 103 1 0 := ⟨_, _, _, ch_Cl1, by decide, Or.inr ⟨"ChalkWarrants", ch_ow 50 (by decide +kernel) (by decide +kernel)⟩⟩
theorem lk_x_106 : ch_SV m_x_checkChild "ChalkWarrants" 106 1 := ⟨mf_x_checkChild, ch_wg 603 (by decide +kernel) (by decide +kernel), by decide +kernel⟩
theorem fl_x_109 : ch_FL "ChalkWarrants" 109 1 2 := ⟨_, _, _, ch_Cl1, by decide, Or.inr ⟨"ChalkWarrants", ch_ow 55 (by decide +kernel) (by decide +kernel)⟩⟩
theorem fl_x_112 : ch_FL "ChalkWarrants" 112 1 3 := ⟨_, _, _, ch_Cl1, by decide, Or.inr ⟨"ChalkWarrants", ch_ow 59 (by decide +kernel) (by decide +kernel)⟩⟩
theorem fl_x_115 : ch_FL "ChalkWarrants" 115 1 4 := ⟨_, _, _, ch_Cl1, by decide, Or.inr ⟨"ChalkWarrants", ch_ow 62 (by decide +kernel) (by decide +kernel)⟩⟩
theorem lk_x_118 : ch_SV m_y_countOwned "ChalkWarrants" 118 1 := ⟨mf_y_countOwned, ch_wg 623 (by decide +kernel) (by decide +kernel), by decide +kernel⟩
theorem lk_x_122 : ch_SV m_y_sumChalk "ChalkWarrants" 122 1 := ⟨mf_y_sumChalk, ch_wg 624 (by decide +kernel) (by decide +kernel), by decide +kernel⟩
theorem fl_x_125 : ch_FL "ChalkWarrants" 125 1 5 := ⟨_, _, _, ch_Cl1, by decide, Or.inr ⟨"ChalkWarrants", ch_ow 64 (by decide +kernel) (by decide +kernel)⟩⟩
theorem fl_x_128 : ch_FL "ChalkWarrants" 128 1 6 := ⟨_, _, _, ch_Cl1, by decide, Or.inr ⟨"ChalkWarrants", ch_ow 66 (by decide +kernel) (by decide +kernel)⟩⟩
theorem tw_x_131 : ch_TW "ChalkWarrants" 131 133 2 := ⟨ch_wg 628 (by decide +kernel) (by decide +kernel), ch_wg 17 (by decide +kernel) (by decide +kernel), ch_both_of (by decide +kernel), by decide⟩
theorem lk_x_134 : ch_SV m_y_ownedFrom "ChalkWarrants" 134 2 := ⟨mf_y_ownedFrom, ch_wg 928 (by decide +kernel) (by decide +kernel), by decide +kernel⟩
theorem fl_x_138 : ch_FL "ChalkWarrants" 138 1 9 := ⟨_, _, _, ch_Cl1, by decide, Or.inr ⟨"ChalkWarrants", ch_ow 74 (by decide +kernel) (by decide +kernel)⟩⟩
theorem tw_x_141 : ch_TW "ChalkWarrants" 141 143 3 := ⟨ch_wg 679 (by decide +kernel) (by decide +kernel), ch_wg 18 (by decide +kernel) (by decide +kernel), ch_both_of (by decide +kernel), by decide⟩
theorem fl_x_144 : ch_FL "ChalkWarrants" 144 1 7 := ⟨_, _, _, ch_Cl1, by decide, Or.inr ⟨"ChalkWarrants", ch_ow 68 (by decide +kernel) (by decide +kernel)⟩⟩
theorem fl_x_66 : ch_FL "ChalkWarrants" 66 0 10 := ⟨_, _, _, ch_Cl0, by decide, Or.inl (ch_wg 277 (by decide +kernel) (by decide +kernel))⟩
theorem lk_x_147 : ch_SV m_w_fewestBack "ChalkWarrants" 147 2 := ⟨mf_w_fewestBack, ch_wg 650 (by decide +kernel) (by decide +kernel), by decide +kernel⟩
theorem lk_x_151 : ch_SV m_w_fewestOn "ChalkWarrants" 151 2 := ⟨mf_w_fewestOn, ch_wg 939 (by decide +kernel) (by decide +kernel), by decide +kernel⟩
theorem fl_x_73 : ch_FL "ChalkWarrants" 73 0 11 := ⟨_, _, _, ch_Cl0, by decide, Or.inl (ch_wg 278 (by decide +kernel) (by decide +kernel))⟩
theorem lk_x_154 : ch_SV m_w_tellBest "ChalkWarrants" 154 1 := ⟨mf_w_tellBest, ch_wg 671 (by decide +kernel) (by decide +kernel), by decide +kernel⟩
theorem fl_x_158 : ch_FL "ChalkWarrants" 158 5 1 := ⟨_, _, _, ch_Cl5, by decide, Or.inr ⟨"ChalkWarrants", ch_ow 183 (by decide +kernel) (by decide +kernel)⟩⟩
theorem fl_x_161 : ch_FL "ChalkWarrants" 161 5 0 := ⟨_, _, _, ch_Cl5, by decide, Or.inr ⟨"ChalkWarrants", ch_ow 177 (by decide +kernel) (by decide +kernel)⟩⟩
theorem lk_x_164 : ch_SV m_s_misfit "ChalkWarrants" 164 0 := ⟨mf_s_misfit, ch_wg 1337 (by decide +kernel) (by decide +kernel), by decide +kernel⟩
theorem lk_x_167 : ch_SV m_y_countTreads "ChalkWarrants" 167 2 := ⟨mf_y_countTreads, ch_wg 1338 (by decide +kernel) (by decide +kernel), by decide +kernel⟩
theorem lk_x_171 : ch_SV m_y_longestRun "ChalkWarrants" 171 1 := ⟨mf_y_longestRun, ch_wg 314 (by decide +kernel) (by decide +kernel), by decide +kernel⟩
theorem fl_x_19 : ch_FL "ChalkWarrants" 19 0 2 := ⟨_, _, _, ch_Cl0, by decide, Or.inl (ch_wg 269 (by decide +kernel) (by decide +kernel))⟩
theorem lk_x_174 : ch_SV m_y_copyFrom "ChalkWarrants" 174 1 := ⟨mf_y_copyFrom, ch_wg 329 (by decide +kernel) (by decide +kernel), by decide +kernel⟩
theorem lk_x_178 : ch_SV m_y_wash "ChalkWarrants" 178 1 := ⟨mf_y_wash, ch_wg 990 (by decide +kernel) (by decide +kernel), by decide +kernel⟩
theorem lk_x_181 : ch_SV m_y_endTerm "ChalkWarrants" 181 0 := ⟨mf_y_endTerm, ch_wg 966 (by decide +kernel) (by decide +kernel), by decide +kernel⟩
theorem fl_x_184 : ch_FL "ChalkWarrants" 184 1 8 := ⟨_, _, _, ch_Cl1, by decide, Or.inr ⟨"ChalkWarrants", ch_ow 71 (by decide +kernel) (by decide +kernel)⟩⟩
theorem lk_x_187 : ch_SV m_y_countAhead "ChalkWarrants" 187 2 := ⟨mf_y_countAhead, ch_wg 974 (by decide +kernel) (by decide +kernel), by decide +kernel⟩
theorem fl_x_49 : ch_FL "ChalkWarrants" 49 0 7 := ⟨_, _, _, ch_Cl0, by decide, Or.inl (ch_wg 274 (by decide +kernel) (by decide +kernel))⟩
theorem fl_x_203 : ch_FL "ChalkWarrants" 203 6 1 := ⟨_, _, _, ch_Cl6, by decide, Or.inr ⟨"ChalkWarrants", ch_ow 231 (by decide +kernel) (by decide +kernel)⟩⟩
theorem tw_x_206 : ch_TW "ChalkWarrants" 206 208 4 := ⟨ch_wg 709 (by decide +kernel) (by decide +kernel), ch_wg 13 (by decide +kernel) (by decide +kernel), ch_both_of (by decide +kernel), by decide⟩
theorem lk_x_209 : ch_SV m_t_put "ChalkWarrants" 209 1 := ⟨mf_t_put, ch_wg 724 (by decide +kernel) (by decide +kernel), by decide +kernel⟩
theorem fl_x_56 : ch_FL "ChalkWarrants" 56 0 8 := ⟨_, _, _, ch_Cl0, by decide, Or.inl (ch_wg 275 (by decide +kernel) (by decide +kernel))⟩
theorem lk_x_213 : ch_SV m_d_findFault "ChalkWarrants" 213 2 := ⟨mf_d_findFault, ch_wg 735 (by decide +kernel) (by decide +kernel), by decide +kernel⟩
theorem fp_x_77 : ch_FP "ChalkWarrants" 77 0 13 (.int) := ⟨_, _, _, ch_Cl0, by decide, Or.inl (ch_wg 280 (by decide +kernel) (by decide +kernel)), rfl, by decide +kernel⟩
theorem fl_x_77 : ch_FL "ChalkWarrants" 77 0 13 := ⟨_, _, _, ch_Cl0, by decide, Or.inl (ch_wg 280 (by decide +kernel) (by decide +kernel))⟩
theorem fp_x_203 : ch_FP "ChalkWarrants" 203 6 1 (.int) := ⟨_, _, _, ch_Cl6, by decide, Or.inr ⟨"ChalkWarrants", ch_ow 231 (by decide +kernel) (by decide +kernel)⟩, rfl, by decide +kernel⟩
theorem fl_x_16 : ch_FL "ChalkWarrants" 16 0 1 := ⟨_, _, _, ch_Cl0, by decide, Or.inl (ch_wg 268 (by decide +kernel) (by decide +kernel))⟩
theorem lk_x_217 : ch_SV m_x_carryOutText "ChalkWarrants" 217 0 := ⟨mf_x_carryOutText, ch_wg 785 (by decide +kernel) (by decide +kernel), by decide +kernel⟩
theorem tw_x_220 : ch_TW "ChalkWarrants" 220 222 0 := ⟨ch_wg 423 (by decide +kernel) (by decide +kernel), ch_wg 15 (by decide +kernel) (by decide +kernel), ch_both_of (by decide +kernel), by decide⟩
theorem fl_x_28 : ch_FL "ChalkWarrants" 28 0 4 := ⟨_, _, _, ch_Cl0, by decide, Or.inl (ch_wg 271 (by decide +kernel) (by decide +kernel))⟩
theorem lk_x_223 : ch_SV m_p_keep "ChalkWarrants" 223 1 := ⟨mf_p_keep, ch_wg 491 (by decide +kernel) (by decide +kernel), by decide +kernel⟩
theorem fl_x_35 : ch_FL "ChalkWarrants" 35 0 5 := ⟨_, _, _, ch_Cl0, by decide, Or.inl (ch_wg 272 (by decide +kernel) (by decide +kernel))⟩
theorem fl_x_226 : ch_FL "ChalkWarrants" 226 3 0 := ⟨_, _, _, ch_Cl3, by decide, Or.inr ⟨"ChalkWarrants", ch_ow 151 (by decide +kernel) (by decide +kernel)⟩⟩
theorem fl_x_229 : ch_FL "ChalkWarrants" 229 3 1 := ⟨_, _, _, ch_Cl3, by decide, Or.inr ⟨"ChalkWarrants", ch_ow 153 (by decide +kernel) (by decide +kernel)⟩⟩
theorem fl_x_232 : ch_FL "ChalkWarrants" 232 3 2 := ⟨_, _, _, ch_Cl3, by decide, Or.inr ⟨"ChalkWarrants", ch_ow 155 (by decide +kernel) (by decide +kernel)⟩⟩
theorem fl_x_60 : ch_FL "ChalkWarrants" 60 0 9 := ⟨_, _, _, ch_Cl0, by decide, Or.inl (ch_wg 276 (by decide +kernel) (by decide +kernel))⟩
theorem lk_x_234 : ch_SV m_x_putBlankBetween "ChalkWarrants" 234 0 := ⟨mf_x_putBlankBetween, ch_wg 1002 (by decide +kernel) (by decide +kernel), by decide +kernel⟩
theorem lk_x_237 : ch_SV m_x_putPair "ChalkWarrants" 237 3 := ⟨mf_x_putPair, ch_wg 1006 (by decide +kernel) (by decide +kernel), by decide +kernel⟩
theorem fl_x_241 : ch_FL "ChalkWarrants" 241 6 0 := ⟨_, _, _, ch_Cl6, by decide, Or.inr ⟨"ChalkWarrants", ch_ow 228 (by decide +kernel) (by decide +kernel)⟩⟩
theorem tw_x_244 : ch_TW "ChalkWarrants" 244 246 5 := ⟨ch_wg 886 (by decide +kernel) (by decide +kernel), ch_wg 22 (by decide +kernel) (by decide +kernel), ch_both_of (by decide +kernel), by decide⟩
theorem lk_x_247 : ch_SV m_y_sumAllChalk "ChalkWarrants" 247 0 := ⟨mf_y_sumAllChalk, ch_wg 891 (by decide +kernel) (by decide +kernel), by decide +kernel⟩
theorem lc_x_250 : Cond.constantFloat "ChalkWarrants" 250 1094713344 ∈ ch_good := ch_wg 910 (by decide +kernel) (by decide +kernel)
theorem lk_x_193 : ch_SV m_y_sumPebbles "ChalkWarrants" 193 0 := ⟨mf_y_sumPebbles, ch_wg 798 (by decide +kernel) (by decide +kernel), by decide +kernel⟩
theorem fl_x_196 : ch_FL "ChalkWarrants" 196 1 10 := ⟨_, _, _, ch_Cl1, by decide, Or.inr ⟨"ChalkWarrants", ch_ow 76 (by decide +kernel) (by decide +kernel)⟩⟩
theorem fl_x_251 : ch_FL "ChalkWarrants" 251 1 12 := ⟨_, _, _, ch_Cl1, by decide, Or.inr ⟨"ChalkWarrants", ch_ow 79 (by decide +kernel) (by decide +kernel)⟩⟩
theorem fl_x_254 : ch_FL "ChalkWarrants" 254 1 13 := ⟨_, _, _, ch_Cl1, by decide, Or.inr ⟨"ChalkWarrants", ch_ow 81 (by decide +kernel) (by decide +kernel)⟩⟩
theorem fl_x_256 : ch_FL "ChalkWarrants" 256 1 14 := ⟨_, _, _, ch_Cl1, by decide, Or.inr ⟨"ChalkWarrants", ch_ow 83 (by decide +kernel) (by decide +kernel)⟩⟩
theorem fl_x_259 : ch_FL "ChalkWarrants" 259 1 15 := ⟨_, _, _, ch_Cl1, by decide, Or.inr ⟨"ChalkWarrants", ch_ow 85 (by decide +kernel) (by decide +kernel)⟩⟩
theorem fl_x_262 : ch_FL "ChalkWarrants" 262 1 16 := ⟨_, _, _, ch_Cl1, by decide, Or.inr ⟨"ChalkWarrants", ch_ow 87 (by decide +kernel) (by decide +kernel)⟩⟩
theorem fl_x_265 : ch_FL "ChalkWarrants" 265 2 2 := ⟨_, _, _, ch_Cl2, by decide, Or.inr ⟨"ChalkWarrants", ch_ow 136 (by decide +kernel) (by decide +kernel)⟩⟩
theorem lk_x_266 : ch_SV m_p_giveBack "ChalkWarrants" 266 1 := ⟨mf_p_giveBack, ch_wg 809 (by decide +kernel) (by decide +kernel), by decide +kernel⟩
theorem fl_x_22 : ch_FL "ChalkWarrants" 22 0 3 := ⟨_, _, _, ch_Cl0, by decide, Or.inl (ch_wg 270 (by decide +kernel) (by decide +kernel))⟩
theorem fp_x_269 : ch_FP "ChalkWarrants" 269 0 12 (.boolean) := ⟨_, _, _, ch_Cl0, by decide, Or.inl (ch_wg 279 (by decide +kernel) (by decide +kernel)), rfl, by decide +kernel⟩
theorem fl_x_269 : ch_FL "ChalkWarrants" 269 0 12 := ⟨_, _, _, ch_Cl0, by decide, Or.inl (ch_wg 279 (by decide +kernel) (by decide +kernel))⟩
theorem fp_x_265 : ch_FP "ChalkWarrants" 265 2 2 (.int) := ⟨_, _, _, ch_Cl2, by decide, Or.inr ⟨"ChalkWarrants", ch_ow 136 (by decide +kernel) (by decide +kernel)⟩, rfl, by decide +kernel⟩
theorem lk_x_273 : ch_SV m_y_hasChild "ChalkWarrants" 273 1 := ⟨mf_y_hasChild, ch_wg 607 (by decide +kernel) (by decide +kernel), by decide +kernel⟩
theorem lk_x_277 : ch_SV m_r_refuse "ChalkWarrants" 277 2 := ⟨mf_r_refuse, ch_wg 355 (by decide +kernel) (by decide +kernel), by decide +kernel⟩
theorem lk_x_281 : ch_SV m_y_carryOut "ChalkWarrants" 281 1 := ⟨mf_y_carryOut, ch_wg 496 (by decide +kernel) (by decide +kernel), by decide +kernel⟩
theorem fp_x_285 : ch_FP "ChalkWarrants" 285 7 0 (.int) := ⟨_, _, _, ch_Cl7, by decide, Or.inr ⟨"ChalkWarrants", ch_ow 245 (by decide +kernel) (by decide +kernel)⟩, rfl, by decide +kernel⟩
theorem lk_x_288 : ch_SV m_d_takeCommand "ChalkWarrants" 288 2 := ⟨mf_d_takeCommand, ch_wg 789 (by decide +kernel) (by decide +kernel), by decide +kernel⟩
theorem fp_x_232 : ch_FP "ChalkWarrants" 232 3 2 (.int) := ⟨_, _, _, ch_Cl3, by decide, Or.inr ⟨"ChalkWarrants", ch_ow 155 (by decide +kernel) (by decide +kernel)⟩, rfl, by decide +kernel⟩
theorem lk_x_292 : ch_SV m_d_takeSign "ChalkWarrants" 292 2 := ⟨mf_d_takeSign, ch_wg 790 (by decide +kernel) (by decide +kernel), by decide +kernel⟩
theorem fp_c_16 : ch_FP "ChalkWarrants$Command" 16 4 1 (.int) := ⟨_, _, _, ch_Cl4, by decide, Or.inl (ch_wg 195 (by decide +kernel) (by decide +kernel)), rfl, by decide +kernel⟩
theorem fp_c_20 : ch_FP "ChalkWarrants$Command" 20 4 2 (.int) := ⟨_, _, _, ch_Cl4, by decide, Or.inl (ch_wg 197 (by decide +kernel) (by decide +kernel)), rfl, by decide +kernel⟩
theorem fp_c_23 : ch_FP "ChalkWarrants$Command" 23 4 3 (.int) := ⟨_, _, _, ch_Cl4, by decide, Or.inl (ch_wg 201 (by decide +kernel) (by decide +kernel)), rfl, by decide +kernel⟩
theorem fp_c_26 : ch_FP "ChalkWarrants$Command" 26 4 4 (.int) := ⟨_, _, _, ch_Cl4, by decide, Or.inl (ch_wg 205 (by decide +kernel) (by decide +kernel)), rfl, by decide +kernel⟩
theorem fl_p_18 : ch_FL "ChalkWarrants$Past" 18 2 1 := ⟨_, _, _, ch_Cl2, by decide, Or.inl (ch_wg 134 (by decide +kernel) (by decide +kernel))⟩
theorem fl_p_11 : ch_FL "ChalkWarrants$Past" 11 2 0 := ⟨_, _, _, ch_Cl2, by decide, Or.inl (ch_wg 133 (by decide +kernel) (by decide +kernel))⟩
theorem fp_p_18 : ch_FP "ChalkWarrants$Past" 18 2 1 (.int) := ⟨_, _, _, ch_Cl2, by decide, Or.inl (ch_wg 134 (by decide +kernel) (by decide +kernel)), rfl, by decide +kernel⟩
theorem fl_p_22 : ch_FL "ChalkWarrants$Past" 22 2 2 := ⟨_, _, _, ch_Cl2, by decide, Or.inl (ch_wg 135 (by decide +kernel) (by decide +kernel))⟩
theorem fp_p_22 : ch_FP "ChalkWarrants$Past" 22 2 2 (.int) := ⟨_, _, _, ch_Cl2, by decide, Or.inl (ch_wg 135 (by decide +kernel) (by decide +kernel)), rfl, by decide +kernel⟩
theorem lk_p_25 : ch_SV m_y_copyFrom "ChalkWarrants$Past" 25 1 := ⟨mf_y_copyFrom, ch_wg 495 (by decide +kernel) (by decide +kernel), by decide +kernel⟩
theorem fp_d_9 : ch_FP "ChalkWarrants$Reader" 9 7 0 (.int) := ⟨_, _, _, ch_Cl7, by decide, Or.inl (ch_wg 244 (by decide +kernel) (by decide +kernel)), rfl, by decide +kernel⟩
theorem lk_d_15 : ch_SV m_d_takeCommand "ChalkWarrants$Reader" 15 2 := ⟨mf_d_takeCommand, ch_wg 739 (by decide +kernel) (by decide +kernel), by decide +kernel⟩
theorem fl_d_9 : ch_FL "ChalkWarrants$Reader" 9 7 0 := ⟨_, _, _, ch_Cl7, by decide, Or.inl (ch_wg 244 (by decide +kernel) (by decide +kernel))⟩
theorem fl_d_19 : ch_FL "ChalkWarrants$Reader" 19 6 1 := ⟨_, _, _, ch_Cl6, by decide, Or.inr ⟨"ChalkWarrants", ch_ow 230 (by decide +kernel) (by decide +kernel)⟩⟩
theorem lk_d_24 : ch_SV m_d_takeSign "ChalkWarrants$Reader" 24 2 := ⟨mf_d_takeSign, ch_wg 772 (by decide +kernel) (by decide +kernel), by decide +kernel⟩
theorem lk_d_28 : ch_SV m_d_signAt "ChalkWarrants$Reader" 28 1 := ⟨mf_d_signAt, ch_wg 743 (by decide +kernel) (by decide +kernel), by decide +kernel⟩
theorem lk_d_32 : ch_SV m_d_isKind "ChalkWarrants$Reader" 32 1 := ⟨mf_d_isKind, ch_wg 747 (by decide +kernel) (by decide +kernel), by decide +kernel⟩
theorem lk_d_36 : ch_SV m_c_set "ChalkWarrants$Reader" 36 4 := ⟨mf_c_set, ch_wg 751 (by decide +kernel) (by decide +kernel), by decide +kernel⟩
theorem lk_d_42 : ch_SV m_d_takeNumber "ChalkWarrants$Reader" 42 2 := ⟨mf_d_takeNumber, ch_wg 752 (by decide +kernel) (by decide +kernel), by decide +kernel⟩
theorem lk_d_45 : ch_SV m_d_takeChild "ChalkWarrants$Reader" 45 2 := ⟨mf_d_takeChild, ch_wg 768 (by decide +kernel) (by decide +kernel), by decide +kernel⟩
theorem fl_d_48 : ch_FL "ChalkWarrants$Reader" 48 4 0 := ⟨_, _, _, ch_Cl4, by decide, Or.inr ⟨"ChalkWarrants", ch_ow 192 (by decide +kernel) (by decide +kernel)⟩⟩
theorem lk_d_52 : ch_SV m_d_takeSteps "ChalkWarrants$Reader" 52 2 := ⟨mf_d_takeSteps, ch_wg 776 (by decide +kernel) (by decide +kernel), by decide +kernel⟩
theorem lk_d_56 : ch_SV m_d_takeDigit "ChalkWarrants$Reader" 56 2 := ⟨mf_d_takeDigit, ch_wg 756 (by decide +kernel) (by decide +kernel), by decide +kernel⟩
theorem lk_d_59 : ch_SV m_d_takeOther "ChalkWarrants$Reader" 59 2 := ⟨mf_d_takeOther, ch_wg 781 (by decide +kernel) (by decide +kernel), by decide +kernel⟩
theorem lk_d_62 : ch_SV m_d_digitAt "ChalkWarrants$Reader" 62 1 := ⟨mf_d_digitAt, ch_wg 760 (by decide +kernel) (by decide +kernel), by decide +kernel⟩
theorem fp_d_65 : ch_FP "ChalkWarrants$Reader" 65 4 2 (.int) := ⟨_, _, _, ch_Cl4, by decide, Or.inr ⟨"ChalkWarrants", ch_ow 200 (by decide +kernel) (by decide +kernel)⟩, rfl, by decide +kernel⟩
theorem lk_d_68 : ch_SV m_d_passDigit "ChalkWarrants$Reader" 68 1 := ⟨mf_d_passDigit, ch_wg 764 (by decide +kernel) (by decide +kernel), by decide +kernel⟩
theorem fp_d_72 : ch_FP "ChalkWarrants$Reader" 72 4 3 (.int) := ⟨_, _, _, ch_Cl4, by decide, Or.inr ⟨"ChalkWarrants", ch_ow 204 (by decide +kernel) (by decide +kernel)⟩, rfl, by decide +kernel⟩
theorem fp_d_75 : ch_FP "ChalkWarrants$Reader" 75 4 4 (.int) := ⟨_, _, _, ch_Cl4, by decide, Or.inr ⟨"ChalkWarrants", ch_ow 208 (by decide +kernel) (by decide +kernel)⟩, rfl, by decide +kernel⟩
theorem fl_d_75 : ch_FL "ChalkWarrants$Reader" 75 4 4 := ⟨_, _, _, ch_Cl4, by decide, Or.inr ⟨"ChalkWarrants", ch_ow 208 (by decide +kernel) (by decide +kernel)⟩⟩
theorem fp_d_78 : ch_FP "ChalkWarrants$Reader" 78 5 1 (.int) := ⟨_, _, _, ch_Cl5, by decide, Or.inr ⟨"ChalkWarrants", ch_ow 182 (by decide +kernel) (by decide +kernel)⟩, rfl, by decide +kernel⟩
theorem lk_d_83 : ch_SV m_s_add "ChalkWarrants$Reader" 83 1 := ⟨mf_s_add, ch_wg 780 (by decide +kernel) (by decide +kernel), by decide +kernel⟩
theorem fl_d_78 : ch_FL "ChalkWarrants$Reader" 78 5 1 := ⟨_, _, _, ch_Cl5, by decide, Or.inr ⟨"ChalkWarrants", ch_ow 182 (by decide +kernel) (by decide +kernel)⟩⟩
theorem fl_d_87 : ch_FL "ChalkWarrants$Reader" 87 6 0 := ⟨_, _, _, ch_Cl6, by decide, Or.inr ⟨"ChalkWarrants", ch_ow 227 (by decide +kernel) (by decide +kernel)⟩⟩
theorem fl_r_9 : ch_FL "ChalkWarrants$Reasons" 9 4 1 := ⟨_, _, _, ch_Cl4, by decide, Or.inr ⟨"ChalkWarrants", ch_ow 194 (by decide +kernel) (by decide +kernel)⟩⟩
theorem fl_r_15 : ch_FL "ChalkWarrants$Reasons" 15 4 4 := ⟨_, _, _, ch_Cl4, by decide, Or.inr ⟨"ChalkWarrants", ch_ow 206 (by decide +kernel) (by decide +kernel)⟩⟩
theorem lk_r_18 : ch_SV m_r_refuseChild "ChalkWarrants$Reasons" 18 2 := ⟨mf_r_refuseChild, ch_wg 359 (by decide +kernel) (by decide +kernel), by decide +kernel⟩
theorem fl_r_24 : ch_FL "ChalkWarrants$Reasons" 24 4 2 := ⟨_, _, _, ch_Cl4, by decide, Or.inr ⟨"ChalkWarrants", ch_ow 198 (by decide +kernel) (by decide +kernel)⟩⟩
theorem lk_r_27 : ch_SV m_r_refuseChalk "ChalkWarrants$Reasons" 27 3 := ⟨mf_r_refuseChalk, ch_wg 371 (by decide +kernel) (by decide +kernel), by decide +kernel⟩
theorem fl_r_31 : ch_FL "ChalkWarrants$Reasons" 31 4 0 := ⟨_, _, _, ch_Cl4, by decide, Or.inr ⟨"ChalkWarrants", ch_ow 190 (by decide +kernel) (by decide +kernel)⟩⟩
theorem lk_r_35 : ch_SV m_r_refuseHop "ChalkWarrants$Reasons" 35 3 := ⟨mf_r_refuseHop, ch_wg 387 (by decide +kernel) (by decide +kernel), by decide +kernel⟩
theorem lk_r_39 : ch_SV m_r_refuseWarrant "ChalkWarrants$Reasons" 39 2 := ⟨mf_r_refuseWarrant, ch_wg 399 (by decide +kernel) (by decide +kernel), by decide +kernel⟩
theorem lk_r_42 : ch_SV m_r_refuseStrike "ChalkWarrants$Reasons" 42 2 := ⟨mf_r_refuseStrike, ch_wg 403 (by decide +kernel) (by decide +kernel), by decide +kernel⟩
theorem lk_r_45 : ch_SV m_r_refuseRain "ChalkWarrants$Reasons" 45 2 := ⟨mf_r_refuseRain, ch_wg 407 (by decide +kernel) (by decide +kernel), by decide +kernel⟩
theorem lk_r_48 : ch_SV m_r_refuseTerm "ChalkWarrants$Reasons" 48 1 := ⟨mf_r_refuseTerm, ch_wg 415 (by decide +kernel) (by decide +kernel), by decide +kernel⟩
theorem fl_r_52 : ch_FL "ChalkWarrants$Reasons" 52 4 3 := ⟨_, _, _, ch_Cl4, by decide, Or.inr ⟨"ChalkWarrants", ch_ow 202 (by decide +kernel) (by decide +kernel)⟩⟩
theorem lk_r_55 : ch_SV m_r_refuseGift "ChalkWarrants$Reasons" 55 4 := ⟨mf_r_refuseGift, ch_wg 419 (by decide +kernel) (by decide +kernel), by decide +kernel⟩
theorem lk_r_59 : ch_SV m_r_lacksRange "ChalkWarrants$Reasons" 59 3 := ⟨mf_r_lacksRange, ch_wg 363 (by decide +kernel) (by decide +kernel), by decide +kernel⟩
theorem fl_r_63 : ch_FL "ChalkWarrants$Reasons" 63 1 8 := ⟨_, _, _, ch_Cl1, by decide, Or.inr ⟨"ChalkWarrants", ch_ow 70 (by decide +kernel) (by decide +kernel)⟩⟩
theorem lk_r_68 : ch_SV m_r_keep "ChalkWarrants$Reasons" 68 2 := ⟨mf_r_keep, ch_wg 367 (by decide +kernel) (by decide +kernel), by decide +kernel⟩
theorem lk_r_72 : ch_SV m_r_lacksChild "ChalkWarrants$Reasons" 72 2 := ⟨mf_r_lacksChild, ch_wg 375 (by decide +kernel) (by decide +kernel), by decide +kernel⟩
theorem fl_r_75 : ch_FL "ChalkWarrants$Reasons" 75 1 0 := ⟨_, _, _, ch_Cl1, by decide, Or.inr ⟨"ChalkWarrants", ch_ow 49 (by decide +kernel) (by decide +kernel)⟩⟩
theorem fl_r_79 : ch_FL "ChalkWarrants$Reasons" 79 1 1 := ⟨_, _, _, ch_Cl1, by decide, Or.inr ⟨"ChalkWarrants", ch_ow 52 (by decide +kernel) (by decide +kernel)⟩⟩
theorem lk_r_82 : ch_SV m_r_lacksPebbles "ChalkWarrants$Reasons" 82 3 := ⟨mf_r_lacksPebbles, ch_wg 383 (by decide +kernel) (by decide +kernel), by decide +kernel⟩
theorem lk_r_85 : ch_SV m_r_isWanted "ChalkWarrants$Reasons" 85 2 := ⟨mf_r_isWanted, ch_wg 391 (by decide +kernel) (by decide +kernel), by decide +kernel⟩
theorem fl_r_88 : ch_FL "ChalkWarrants$Reasons" 88 5 1 := ⟨_, _, _, ch_Cl5, by decide, Or.inr ⟨"ChalkWarrants", ch_ow 180 (by decide +kernel) (by decide +kernel)⟩⟩
theorem lk_r_93 : ch_SV m_s_misfit "ChalkWarrants$Reasons" 93 0 := ⟨mf_s_misfit, ch_wg 395 (by decide +kernel) (by decide +kernel), by decide +kernel⟩
theorem fl_r_97 : ch_FL "ChalkWarrants$Reasons" 97 1 3 := ⟨_, _, _, ch_Cl1, by decide, Or.inr ⟨"ChalkWarrants", ch_ow 58 (by decide +kernel) (by decide +kernel)⟩⟩
theorem fl_r_100 : ch_FL "ChalkWarrants$Reasons" 100 1 4 := ⟨_, _, _, ch_Cl1, by decide, Or.inr ⟨"ChalkWarrants", ch_ow 61 (by decide +kernel) (by decide +kernel)⟩⟩
theorem fl_r_103 : ch_FL "ChalkWarrants$Reasons" 103 1 9 := ⟨_, _, _, ch_Cl1, by decide, Or.inr ⟨"ChalkWarrants", ch_ow 73 (by decide +kernel) (by decide +kernel)⟩⟩
theorem lk_r_106 : ch_SV m_y_countOwned "ChalkWarrants$Reasons" 106 1 := ⟨mf_y_countOwned, ch_wg 411 (by decide +kernel) (by decide +kernel), by decide +kernel⟩
theorem lk_r_110 : ch_SV m_y_hasChild "ChalkWarrants$Reasons" 110 1 := ⟨mf_y_hasChild, ch_wg 379 (by decide +kernel) (by decide +kernel), by decide +kernel⟩
theorem fl_r_114 : ch_FL "ChalkWarrants$Reasons" 114 1 2 := ⟨_, _, _, ch_Cl1, by decide, Or.inr ⟨"ChalkWarrants", ch_ow 56 (by decide +kernel) (by decide +kernel)⟩⟩
theorem fp_r_117 : ch_FP "ChalkWarrants$Reasons" 117 3 0 (.int) := ⟨_, _, _, ch_Cl3, by decide, Or.inl (ch_wg 150 (by decide +kernel) (by decide +kernel)), rfl, by decide +kernel⟩
theorem fp_r_118 : ch_FP "ChalkWarrants$Reasons" 118 3 1 (.int) := ⟨_, _, _, ch_Cl3, by decide, Or.inl (ch_wg 152 (by decide +kernel) (by decide +kernel)), rfl, by decide +kernel⟩
theorem fp_r_121 : ch_FP "ChalkWarrants$Reasons" 121 3 2 (.int) := ⟨_, _, _, ch_Cl3, by decide, Or.inl (ch_wg 154 (by decide +kernel) (by decide +kernel)), rfl, by decide +kernel⟩
theorem fl_t_15 : ch_FL "ChalkWarrants$Signs" 15 6 1 := ⟨_, _, _, ch_Cl6, by decide, Or.inl (ch_wg 229 (by decide +kernel) (by decide +kernel))⟩
theorem fl_t_9 : ch_FL "ChalkWarrants$Signs" 9 6 0 := ⟨_, _, _, ch_Cl6, by decide, Or.inl (ch_wg 226 (by decide +kernel) (by decide +kernel))⟩
theorem fp_t_15 : ch_FP "ChalkWarrants$Signs" 15 6 1 (.int) := ⟨_, _, _, ch_Cl6, by decide, Or.inl (ch_wg 229 (by decide +kernel) (by decide +kernel)), rfl, by decide +kernel⟩
theorem fl_s_15 : ch_FL "ChalkWarrants$Steps" 15 5 1 := ⟨_, _, _, ch_Cl5, by decide, Or.inl (ch_wg 178 (by decide +kernel) (by decide +kernel))⟩
theorem fl_s_9 : ch_FL "ChalkWarrants$Steps" 9 5 0 := ⟨_, _, _, ch_Cl5, by decide, Or.inl (ch_wg 175 (by decide +kernel) (by decide +kernel))⟩
theorem fp_s_15 : ch_FP "ChalkWarrants$Steps" 15 5 1 (.int) := ⟨_, _, _, ch_Cl5, by decide, Or.inl (ch_wg 178 (by decide +kernel) (by decide +kernel)), rfl, by decide +kernel⟩
theorem lk_s_19 : ch_AC "ChalkWarrants$Steps" 19 := ⟨ch_wg 853 (by decide +kernel) (by decide +kernel), ch_wg 335 (by decide +kernel) (by decide +kernel), ch_wg 334 (by decide +kernel) (by decide +kernel), ch_wg 14 (by decide +kernel) (by decide +kernel)⟩
theorem fl_w_11 : ch_FL "ChalkWarrants$Ways" 11 8 0 := ⟨_, _, _, ch_Cl8, by decide, Or.inl (ch_wg 255 (by decide +kernel) (by decide +kernel))⟩
theorem fl_w_15 : ch_FL "ChalkWarrants$Ways" 15 8 1 := ⟨_, _, _, ch_Cl8, by decide, Or.inl (ch_wg 256 (by decide +kernel) (by decide +kernel))⟩
theorem fl_w_18 : ch_FL "ChalkWarrants$Ways" 18 8 2 := ⟨_, _, _, ch_Cl8, by decide, Or.inl (ch_wg 257 (by decide +kernel) (by decide +kernel))⟩
theorem lk_w_21 : ch_SV m_w_tryStep "ChalkWarrants$Ways" 21 4 := ⟨mf_w_tryStep, ch_wg 654 (by decide +kernel) (by decide +kernel), by decide +kernel⟩
theorem lk_w_25 : ch_SV m_w_lineAt "ChalkWarrants$Ways" 25 3 := ⟨mf_w_lineAt, ch_wg 658 (by decide +kernel) (by decide +kernel), by decide +kernel⟩
theorem fp_w_29 : ch_FP "ChalkWarrants$Ways" 29 5 1 (.int) := ⟨_, _, _, ch_Cl5, by decide, Or.inr ⟨"ChalkWarrants", ch_ow 179 (by decide +kernel) (by decide +kernel)⟩, rfl, by decide +kernel⟩
theorem lk_w_35 : ch_SV m_s_add "ChalkWarrants$Ways" 35 1 := ⟨mf_s_add, ch_wg 675 (by decide +kernel) (by decide +kernel), by decide +kernel⟩
theorem lk_w_39 : ch_MM "ChalkWarrants$Ways" 39 Lib.Math.max.name Lib.Math.max.code := ⟨ch_wg 943 (by decide +kernel) (by decide +kernel), ch_wg 319 (by decide +kernel) (by decide +kernel), ch_wg 16 (by decide +kernel) (by decide +kernel), ch_wg 320 (by decide +kernel) (by decide +kernel)⟩
theorem lk_w_45 : ch_MM "ChalkWarrants$Ways" 45 Lib.Math.min.name Lib.Math.min.code := ⟨ch_wg 944 (by decide +kernel) (by decide +kernel), ch_wg 509 (by decide +kernel) (by decide +kernel), ch_wg 16 (by decide +kernel) (by decide +kernel), ch_wg 510 (by decide +kernel) (by decide +kernel)⟩
theorem lk_w_48 : ch_SV m_y_isLineFor "ChalkWarrants$Ways" 48 2 := ⟨mf_y_isLineFor, ch_wg 662 (by decide +kernel) (by decide +kernel), by decide +kernel⟩
theorem fl_y_9 : ch_FL "ChalkWarrants$Yard" 9 1 0 := ⟨_, _, _, ch_Cl1, by decide, Or.inl (ch_wg 48 (by decide +kernel) (by decide +kernel))⟩
theorem lk_y_36 : ch_AC "ChalkWarrants$Yard" 36 := ⟨ch_wg 333 (by decide +kernel) (by decide +kernel), ch_wg 335 (by decide +kernel) (by decide +kernel), ch_wg 334 (by decide +kernel) (by decide +kernel), ch_wg 14 (by decide +kernel) (by decide +kernel)⟩
theorem fl_y_15 : ch_FL "ChalkWarrants$Yard" 15 1 1 := ⟨_, _, _, ch_Cl1, by decide, Or.inl (ch_wg 51 (by decide +kernel) (by decide +kernel))⟩
theorem fl_y_18 : ch_FL "ChalkWarrants$Yard" 18 1 2 := ⟨_, _, _, ch_Cl1, by decide, Or.inl (ch_wg 54 (by decide +kernel) (by decide +kernel))⟩
theorem fl_y_21 : ch_FL "ChalkWarrants$Yard" 21 1 3 := ⟨_, _, _, ch_Cl1, by decide, Or.inl (ch_wg 57 (by decide +kernel) (by decide +kernel))⟩
theorem fl_y_24 : ch_FL "ChalkWarrants$Yard" 24 1 4 := ⟨_, _, _, ch_Cl1, by decide, Or.inl (ch_wg 60 (by decide +kernel) (by decide +kernel))⟩
theorem fl_y_27 : ch_FL "ChalkWarrants$Yard" 27 1 5 := ⟨_, _, _, ch_Cl1, by decide, Or.inl (ch_wg 63 (by decide +kernel) (by decide +kernel))⟩
theorem fl_y_30 : ch_FL "ChalkWarrants$Yard" 30 1 6 := ⟨_, _, _, ch_Cl1, by decide, Or.inl (ch_wg 65 (by decide +kernel) (by decide +kernel))⟩
theorem fl_y_33 : ch_FL "ChalkWarrants$Yard" 33 1 7 := ⟨_, _, _, ch_Cl1, by decide, Or.inl (ch_wg 67 (by decide +kernel) (by decide +kernel))⟩
theorem fl_y_42 : ch_FL "ChalkWarrants$Yard" 42 1 8 := ⟨_, _, _, ch_Cl1, by decide, Or.inl (ch_wg 69 (by decide +kernel) (by decide +kernel))⟩
theorem fp_y_42 : ch_FP "ChalkWarrants$Yard" 42 1 8 (.int) := ⟨_, _, _, ch_Cl1, by decide, Or.inl (ch_wg 69 (by decide +kernel) (by decide +kernel)), rfl, by decide +kernel⟩
theorem fl_y_46 : ch_FL "ChalkWarrants$Yard" 46 1 9 := ⟨_, _, _, ch_Cl1, by decide, Or.inl (ch_wg 72 (by decide +kernel) (by decide +kernel))⟩
theorem fp_y_46 : ch_FP "ChalkWarrants$Yard" 46 1 9 (.int) := ⟨_, _, _, ch_Cl1, by decide, Or.inl (ch_wg 72 (by decide +kernel) (by decide +kernel)), rfl, by decide +kernel⟩
theorem fl_y_49 : ch_FL "ChalkWarrants$Yard" 49 1 10 := ⟨_, _, _, ch_Cl1, by decide, Or.inl (ch_wg 75 (by decide +kernel) (by decide +kernel))⟩
theorem fp_y_49 : ch_FP "ChalkWarrants$Yard" 49 1 10 (.int) := ⟨_, _, _, ch_Cl1, by decide, Or.inl (ch_wg 75 (by decide +kernel) (by decide +kernel)), rfl, by decide +kernel⟩
theorem fl_y_52 : ch_FL "ChalkWarrants$Yard" 52 1 11 := ⟨_, _, _, ch_Cl1, by decide, Or.inl (ch_wg 77 (by decide +kernel) (by decide +kernel))⟩
theorem fp_y_52 : ch_FP "ChalkWarrants$Yard" 52 1 11 (.int) := ⟨_, _, _, ch_Cl1, by decide, Or.inl (ch_wg 77 (by decide +kernel) (by decide +kernel)), rfl, by decide +kernel⟩
theorem fl_y_55 : ch_FL "ChalkWarrants$Yard" 55 1 12 := ⟨_, _, _, ch_Cl1, by decide, Or.inl (ch_wg 78 (by decide +kernel) (by decide +kernel))⟩
theorem fp_y_55 : ch_FP "ChalkWarrants$Yard" 55 1 12 (.int) := ⟨_, _, _, ch_Cl1, by decide, Or.inl (ch_wg 78 (by decide +kernel) (by decide +kernel)), rfl, by decide +kernel⟩
theorem fl_y_58 : ch_FL "ChalkWarrants$Yard" 58 1 13 := ⟨_, _, _, ch_Cl1, by decide, Or.inl (ch_wg 80 (by decide +kernel) (by decide +kernel))⟩
theorem fp_y_58 : ch_FP "ChalkWarrants$Yard" 58 1 13 (.int) := ⟨_, _, _, ch_Cl1, by decide, Or.inl (ch_wg 80 (by decide +kernel) (by decide +kernel)), rfl, by decide +kernel⟩
theorem fl_y_61 : ch_FL "ChalkWarrants$Yard" 61 1 14 := ⟨_, _, _, ch_Cl1, by decide, Or.inl (ch_wg 82 (by decide +kernel) (by decide +kernel))⟩
theorem fp_y_61 : ch_FP "ChalkWarrants$Yard" 61 1 14 (.int) := ⟨_, _, _, ch_Cl1, by decide, Or.inl (ch_wg 82 (by decide +kernel) (by decide +kernel)), rfl, by decide +kernel⟩
theorem fl_y_64 : ch_FL "ChalkWarrants$Yard" 64 1 15 := ⟨_, _, _, ch_Cl1, by decide, Or.inl (ch_wg 84 (by decide +kernel) (by decide +kernel))⟩
theorem fp_y_64 : ch_FP "ChalkWarrants$Yard" 64 1 15 (.int) := ⟨_, _, _, ch_Cl1, by decide, Or.inl (ch_wg 84 (by decide +kernel) (by decide +kernel)), rfl, by decide +kernel⟩
theorem fl_y_67 : ch_FL "ChalkWarrants$Yard" 67 1 16 := ⟨_, _, _, ch_Cl1, by decide, Or.inl (ch_wg 86 (by decide +kernel) (by decide +kernel))⟩
theorem fp_y_67 : ch_FP "ChalkWarrants$Yard" 67 1 16 (.int) := ⟨_, _, _, ch_Cl1, by decide, Or.inl (ch_wg 86 (by decide +kernel) (by decide +kernel)), rfl, by decide +kernel⟩
theorem fl_y_70 : ch_FL "ChalkWarrants$Yard" 70 4 1 := ⟨_, _, _, ch_Cl4, by decide, Or.inr ⟨"ChalkWarrants", ch_ow 196 (by decide +kernel) (by decide +kernel)⟩⟩
theorem fl_y_75 : ch_FL "ChalkWarrants$Yard" 75 4 4 := ⟨_, _, _, ch_Cl4, by decide, Or.inr ⟨"ChalkWarrants", ch_ow 207 (by decide +kernel) (by decide +kernel)⟩⟩
theorem lk_y_78 : ch_SV m_y_bring "ChalkWarrants$Yard" 78 1 := ⟨mf_y_bring, ch_wg 500 (by decide +kernel) (by decide +kernel), by decide +kernel⟩
theorem fl_y_82 : ch_FL "ChalkWarrants$Yard" 82 4 2 := ⟨_, _, _, ch_Cl4, by decide, Or.inr ⟨"ChalkWarrants", ch_ow 199 (by decide +kernel) (by decide +kernel)⟩⟩
theorem lk_y_85 : ch_SV m_y_chalkOn "ChalkWarrants$Yard" 85 2 := ⟨mf_y_chalkOn, ch_wg 504 (by decide +kernel) (by decide +kernel), by decide +kernel⟩
theorem fl_y_89 : ch_FL "ChalkWarrants$Yard" 89 4 0 := ⟨_, _, _, ch_Cl4, by decide, Or.inr ⟨"ChalkWarrants", ch_ow 191 (by decide +kernel) (by decide +kernel)⟩⟩
theorem lk_y_93 : ch_SV m_y_hopBy "ChalkWarrants$Yard" 93 2 := ⟨mf_y_hopBy, ch_wg 511 (by decide +kernel) (by decide +kernel), by decide +kernel⟩
theorem lk_y_97 : ch_SV m_y_writeAgainst "ChalkWarrants$Yard" 97 1 := ⟨mf_y_writeAgainst, ch_wg 527 (by decide +kernel) (by decide +kernel), by decide +kernel⟩
theorem lk_y_100 : ch_SV m_y_strikeOut "ChalkWarrants$Yard" 100 1 := ⟨mf_y_strikeOut, ch_wg 531 (by decide +kernel) (by decide +kernel), by decide +kernel⟩
theorem lk_y_103 : ch_SV m_y_wash "ChalkWarrants$Yard" 103 1 := ⟨mf_y_wash, ch_wg 539 (by decide +kernel) (by decide +kernel), by decide +kernel⟩
theorem lk_y_106 : ch_SV m_y_endTerm "ChalkWarrants$Yard" 106 0 := ⟨mf_y_endTerm, ch_wg 543 (by decide +kernel) (by decide +kernel), by decide +kernel⟩
theorem fl_y_110 : ch_FL "ChalkWarrants$Yard" 110 4 3 := ⟨_, _, _, ch_Cl4, by decide, Or.inr ⟨"ChalkWarrants", ch_ow 203 (by decide +kernel) (by decide +kernel)⟩⟩
theorem lk_y_113 : ch_SV m_y_handOver "ChalkWarrants$Yard" 113 3 := ⟨mf_y_handOver, ch_wg 551 (by decide +kernel) (by decide +kernel), by decide +kernel⟩
theorem lk_y_117 : ch_MM "ChalkWarrants$Yard" 117 Lib.Math.min.name Lib.Math.min.code := ⟨ch_wg 508 (by decide +kernel) (by decide +kernel), ch_wg 509 (by decide +kernel) (by decide +kernel), ch_wg 16 (by decide +kernel) (by decide +kernel), ch_wg 510 (by decide +kernel) (by decide +kernel)⟩
theorem lk_y_122 : ch_SV m_y_countTreads "ChalkWarrants$Yard" 122 2 := ⟨mf_y_countTreads, ch_wg 515 (by decide +kernel) (by decide +kernel), by decide +kernel⟩
theorem fl_y_125 : ch_FL "ChalkWarrants$Yard" 125 5 1 := ⟨_, _, _, ch_Cl5, by decide, Or.inr ⟨"ChalkWarrants", ch_ow 181 (by decide +kernel) (by decide +kernel)⟩⟩
theorem fl_y_130 : ch_FL "ChalkWarrants$Yard" 130 5 0 := ⟨_, _, _, ch_Cl5, by decide, Or.inr ⟨"ChalkWarrants", ch_ow 176 (by decide +kernel) (by decide +kernel)⟩⟩
theorem lk_y_133 : ch_SV m_y_isLineFor "ChalkWarrants$Yard" 133 2 := ⟨mf_y_isLineFor, ch_wg 519 (by decide +kernel) (by decide +kernel), by decide +kernel⟩
theorem lk_y_137 : ch_SV m_y_takeChalk "ChalkWarrants$Yard" 137 2 := ⟨mf_y_takeChalk, ch_wg 523 (by decide +kernel) (by decide +kernel), by decide +kernel⟩
theorem lk_y_140 : ch_SV m_y_closeOrder "ChalkWarrants$Yard" 140 0 := ⟨mf_y_closeOrder, ch_wg 535 (by decide +kernel) (by decide +kernel), by decide +kernel⟩
theorem lk_y_143 : ch_MM "ChalkWarrants$Yard" 143 Lib.Math.max.name Lib.Math.max.code := ⟨ch_wg 318 (by decide +kernel) (by decide +kernel), ch_wg 319 (by decide +kernel) (by decide +kernel), ch_wg 16 (by decide +kernel) (by decide +kernel), ch_wg 320 (by decide +kernel) (by decide +kernel)⟩
theorem lk_y_146 : ch_SV m_y_payRents "ChalkWarrants$Yard" 146 1 := ⟨mf_y_payRents, ch_wg 547 (by decide +kernel) (by decide +kernel), by decide +kernel⟩
theorem lk_y_149 : ch_SV m_y_measureOf "ChalkWarrants$Yard" 149 2 := ⟨mf_y_measureOf, ch_wg 978 (by decide +kernel) (by decide +kernel), by decide +kernel⟩
theorem lk_y_152 : ch_SV m_y_countOwned "ChalkWarrants$Yard" 152 1 := ⟨mf_y_countOwned, ch_wg 982 (by decide +kernel) (by decide +kernel), by decide +kernel⟩
theorem lk_l_7 : ch_SV m_x_child "ChalkWarrantsLaw" 7 1 := ⟨mf_x_child, ch_wg 343 (by decide +kernel) (by decide +kernel), by decide +kernel⟩
theorem ck_l_13 : Cond.classLink "ChalkWarrantsLaw" 13 (ch_xn 0) ∈ ch_good := ch_wg 342 (by decide +kernel) (by decide +kernel)
theorem lk_l_15 : ch_SV m_x_chalk "ChalkWarrantsLaw" 15 2 := ⟨mf_x_chalk, ch_wg 558 (by decide +kernel) (by decide +kernel), by decide +kernel⟩
theorem lk_l_19 : ch_SV m_x_hop "ChalkWarrantsLaw" 19 2 := ⟨mf_x_hop, ch_wg 845 (by decide +kernel) (by decide +kernel), by decide +kernel⟩
theorem lk_l_22 : ch_SV m_x_warrant "ChalkWarrantsLaw" 22 1 := ⟨mf_x_warrant, ch_wg 857 (by decide +kernel) (by decide +kernel), by decide +kernel⟩
theorem lk_l_25 : ch_SV m_x_strike "ChalkWarrantsLaw" 25 1 := ⟨mf_x_strike, ch_wg 1027 (by decide +kernel) (by decide +kernel), by decide +kernel⟩
theorem lk_l_28 : ch_SV m_x_rain "ChalkWarrantsLaw" 28 1 := ⟨mf_x_rain, ch_wg 1034 (by decide +kernel) (by decide +kernel), by decide +kernel⟩
theorem lk_l_31 : ch_SV m_x_term "ChalkWarrantsLaw" 31 0 := ⟨mf_x_term, ch_wg 1315 (by decide +kernel) (by decide +kernel), by decide +kernel⟩
theorem lk_l_35 : ch_SV m_x_give "ChalkWarrantsLaw" 35 3 := ⟨mf_x_give, ch_wg 1041 (by decide +kernel) (by decide +kernel), by decide +kernel⟩
theorem lk_l_39 : ch_SV m_x_squareOf "ChalkWarrantsLaw" 39 2 := ⟨mf_x_squareOf, ch_wg 1326 (by decide +kernel) (by decide +kernel), by decide +kernel⟩
theorem ck_l_43 : Cond.classLink "ChalkWarrantsLaw" 43 (ch_xn 1) ∈ ch_good := ch_wg 565 (by decide +kernel) (by decide +kernel)
theorem lk_l_45 : ch_SV m_x_childOf "ChalkWarrantsLaw" 45 2 := ⟨mf_x_childOf, ch_wg 599 (by decide +kernel) (by decide +kernel), by decide +kernel⟩
theorem ck_l_48 : Cond.classLink "ChalkWarrantsLaw" 48 (ch_xn 2) ∈ ch_good := ch_wg 598 (by decide +kernel) (by decide +kernel)
theorem lk_l_50 : ch_SV m_x_squares "ChalkWarrantsLaw" 50 1 := ⟨mf_x_squares, ch_wg 924 (by decide +kernel) (by decide +kernel), by decide +kernel⟩
theorem lk_l_53 : ch_SV m_x_warrantAt "ChalkWarrantsLaw" 53 1 := ⟨mf_x_warrantAt, ch_wg 994 (by decide +kernel) (by decide +kernel), by decide +kernel⟩
theorem ck_l_56 : Cond.classLink "ChalkWarrantsLaw" 56 (ch_xn 3) ∈ ch_good := ch_wg 666 (by decide +kernel) (by decide +kernel)
theorem lk_l_58 : ch_SV m_x_fewest "ChalkWarrantsLaw" 58 1 := ⟨mf_x_fewest, ch_wg 646 (by decide +kernel) (by decide +kernel), by decide +kernel⟩
theorem lk_l_61 : ch_SV m_x_fewestAgain "ChalkWarrantsLaw" 61 1 := ⟨mf_x_fewestAgain, ch_wg 935 (by decide +kernel) (by decide +kernel), by decide +kernel⟩
theorem lk_l_64 : ch_SV m_x_step "ChalkWarrantsLaw" 64 2 := ⟨mf_x_step, ch_wg 667 (by decide +kernel) (by decide +kernel), by decide +kernel⟩
theorem lk_l_67 : ch_SV m_x_wouldTread "ChalkWarrantsLaw" 67 2 := ⟨mf_x_wouldTread, ch_wg 1333 (by decide +kernel) (by decide +kernel), by decide +kernel⟩
theorem lk_l_70 : ch_SV m_x_longest "ChalkWarrantsLaw" 70 1 := ⟨mf_x_longest, ch_wg 697 (by decide +kernel) (by decide +kernel), by decide +kernel⟩
theorem lk_l_73 : ch_SV m_x_wouldEnd "ChalkWarrantsLaw" 73 1 := ⟨mf_x_wouldEnd, ch_wg 986 (by decide +kernel) (by decide +kernel), by decide +kernel⟩
theorem lk_l_76 : ch_SV m_x_rainFor "ChalkWarrantsLaw" 76 1 := ⟨mf_x_rainFor, ch_wg 948 (by decide +kernel) (by decide +kernel), by decide +kernel⟩
theorem lk_l_79 : ch_SV m_x_wouldLose "ChalkWarrantsLaw" 79 1 := ⟨mf_x_wouldLose, ch_wg 955 (by decide +kernel) (by decide +kernel), by decide +kernel⟩
theorem lk_l_82 : ch_SV m_x_termsFor "ChalkWarrantsLaw" 82 1 := ⟨mf_x_termsFor, ch_wg 962 (by decide +kernel) (by decide +kernel), by decide +kernel⟩
theorem lk_l_85 : ch_SV m_x_ranked "ChalkWarrantsLaw" 85 2 := ⟨mf_x_ranked, ch_wg 970 (by decide +kernel) (by decide +kernel), by decide +kernel⟩
theorem lk_l_88 : ch_SV m_x_append "ChalkWarrantsLaw" 88 1 := ⟨mf_x_append, ch_wg 705 (by decide +kernel) (by decide +kernel), by decide +kernel⟩
theorem ck_l_92 : Cond.classLink "ChalkWarrantsLaw" 92 (ch_xn 4) ∈ ch_good := ch_wg 704 (by decide +kernel) (by decide +kernel)
theorem lk_l_94 : ch_SV m_x_commands "ChalkWarrantsLaw" 94 0 := ⟨mf_x_commands, ch_wg 731 (by decide +kernel) (by decide +kernel), by decide +kernel⟩
theorem lk_l_97 : ch_SV m_x_reason "ChalkWarrantsLaw" 97 1 := ⟨mf_x_reason, ch_wg 829 (by decide +kernel) (by decide +kernel), by decide +kernel⟩
theorem lk_l_100 : ch_SV m_x_character "ChalkWarrantsLaw" 100 1 := ⟨mf_x_character, ch_wg 1013 (by decide +kernel) (by decide +kernel), by decide +kernel⟩
theorem lk_l_104 : ch_SV m_x_meanChalk "ChalkWarrantsLaw" 104 0 := ⟨mf_x_meanChalk, ch_wg 882 (by decide +kernel) (by decide +kernel), by decide +kernel⟩
theorem lc_l_110 : Cond.constantDouble "ChalkWarrantsLaw" 110 13875388141788987392 ∈ ch_good := ch_wg 895 (by decide +kernel) (by decide +kernel)
theorem ck_l_108 : Cond.classLink "ChalkWarrantsLaw" 108 (ch_xn 5) ∈ ch_good := ch_wg 868 (by decide +kernel) (by decide +kernel)
theorem lk_l_112 : ch_SV m_x_account "ChalkWarrantsLaw" 112 1 := ⟨mf_x_account, ch_wg 794 (by decide +kernel) (by decide +kernel), by decide +kernel⟩
theorem lk_l_115 : ch_SV m_x_undo "ChalkWarrantsLaw" 115 0 := ⟨mf_x_undo, ch_wg 805 (by decide +kernel) (by decide +kernel), by decide +kernel⟩
theorem lk_l_118 : ch_SV m_x_restore "ChalkWarrantsLaw" 118 0 := ⟨mf_x_restore, ch_wg 816 (by decide +kernel) (by decide +kernel), by decide +kernel⟩
theorem lk_l_121 : ch_SV m_q_length "ChalkWarrantsLaw" 121 0 := ⟨mf_q_length, ch_wg 1287 (by decide +kernel) (by decide +kernel), by decide +kernel⟩
theorem lk_l_126 : ch_SV m_q_charAt "ChalkWarrantsLaw" 126 1 := ⟨mf_q_charAt, ch_wg 1288 (by decide +kernel) (by decide +kernel), by decide +kernel⟩
theorem lk_l_129 : ch_SV m_l_append "ChalkWarrantsLaw" 129 2 := ⟨mf_l_append, ch_wg 701 (by decide +kernel) (by decide +kernel), by decide +kernel⟩
theorem lk_l_134 : ch_SV m_l_commands "ChalkWarrantsLaw" 134 1 := ⟨mf_l_commands, ch_wg 728 (by decide +kernel) (by decide +kernel), by decide +kernel⟩
theorem lk_l_137 : ch_SV m_l_isAt "ChalkWarrantsLaw" 137 4 := ⟨mf_l_isAt, ch_wg 823 (by decide +kernel) (by decide +kernel), by decide +kernel⟩
theorem lk_l_141 : ch_SV m_l_reason "ChalkWarrantsLaw" 141 2 := ⟨mf_l_reason, ch_wg 826 (by decide +kernel) (by decide +kernel), by decide +kernel⟩
theorem lk_l_146 : ch_SV m_l_some "ChalkWarrantsLaw" 146 2 := ⟨mf_l_some, ch_wg 836 (by decide +kernel) (by decide +kernel), by decide +kernel⟩
theorem lk_l_149 : ch_SV m_l_at "ChalkWarrantsLaw" 149 2 := ⟨mf_l_at, ch_wg 336 (by decide +kernel) (by decide +kernel), by decide +kernel⟩
theorem lk_l_153 : ch_SV m_l_child "ChalkWarrantsLaw" 153 2 := ⟨mf_l_child, ch_wg 339 (by decide +kernel) (by decide +kernel), by decide +kernel⟩
theorem lk_l_155 : ch_SV m_l_chalk "ChalkWarrantsLaw" 155 3 := ⟨mf_l_chalk, ch_wg 555 (by decide +kernel) (by decide +kernel), by decide +kernel⟩
theorem lk_l_158 : ch_SV m_l_steps "ChalkWarrantsLaw" 158 1 := ⟨mf_l_steps, ch_wg 839 (by decide +kernel) (by decide +kernel), by decide +kernel⟩
theorem lk_l_161 : ch_SV m_l_hop "ChalkWarrantsLaw" 161 3 := ⟨mf_l_hop, ch_wg 842 (by decide +kernel) (by decide +kernel), by decide +kernel⟩
theorem lk_l_163 : ch_SV m_l_warrant "ChalkWarrantsLaw" 163 2 := ⟨mf_l_warrant, ch_wg 854 (by decide +kernel) (by decide +kernel), by decide +kernel⟩
theorem lc_l_165 : Cond.constantLong "ChalkWarrantsLaw" 165 31 ∈ ch_good := ch_wg 864 (by decide +kernel) (by decide +kernel)
theorem lk_l_167 : ch_SV m_l_meanChalk "ChalkWarrantsLaw" 167 1 := ⟨mf_l_meanChalk, ch_wg 865 (by decide +kernel) (by decide +kernel), by decide +kernel⟩
theorem lk_l_170 : ch_SV m_u_doubleToLongBits "ChalkWarrantsLaw" 170 1 := ⟨mf_u_doubleToLongBits, ch_wg 896 (by decide +kernel) (by decide +kernel), by decide +kernel⟩
theorem lk_l_176 : ch_SV m_x_ownedShare "ChalkWarrantsLaw" 176 0 := ⟨mf_x_ownedShare, ch_wg 906 (by decide +kernel) (by decide +kernel), by decide +kernel⟩
theorem lk_l_180 : ch_SV m_f_floatToIntBits "ChalkWarrantsLaw" 180 1 := ⟨mf_f_floatToIntBits, ch_wg 911 (by decide +kernel) (by decide +kernel), by decide +kernel⟩
theorem lk_l_186 : ch_SV m_l_account "ChalkWarrantsLaw" 186 2 := ⟨mf_l_account, ch_wg 791 (by decide +kernel) (by decide +kernel), by decide +kernel⟩
theorem lk_l_188 : ch_SV m_l_of "ChalkWarrantsLaw" 188 3 := ⟨mf_l_of, ch_wg 562 (by decide +kernel) (by decide +kernel), by decide +kernel⟩
theorem lk_l_191 : ch_SV m_l_squares "ChalkWarrantsLaw" 191 2 := ⟨mf_l_squares, ch_wg 921 (by decide +kernel) (by decide +kernel), by decide +kernel⟩
theorem lk_l_193 : ch_SV m_l_fewest "ChalkWarrantsLaw" 193 2 := ⟨mf_l_fewest, ch_wg 643 (by decide +kernel) (by decide +kernel), by decide +kernel⟩
theorem lk_l_195 : ch_SV m_l_fewestAgain "ChalkWarrantsLaw" 195 2 := ⟨mf_l_fewestAgain, ch_wg 932 (by decide +kernel) (by decide +kernel), by decide +kernel⟩
theorem lk_l_197 : ch_SV m_l_longest "ChalkWarrantsLaw" 197 2 := ⟨mf_l_longest, ch_wg 694 (by decide +kernel) (by decide +kernel), by decide +kernel⟩
theorem lk_l_199 : ch_SV m_l_rainFor "ChalkWarrantsLaw" 199 2 := ⟨mf_l_rainFor, ch_wg 945 (by decide +kernel) (by decide +kernel), by decide +kernel⟩
theorem lk_l_201 : ch_SV m_l_wouldLose "ChalkWarrantsLaw" 201 2 := ⟨mf_l_wouldLose, ch_wg 952 (by decide +kernel) (by decide +kernel), by decide +kernel⟩
theorem lk_l_203 : ch_SV m_l_termsFor "ChalkWarrantsLaw" 203 2 := ⟨mf_l_termsFor, ch_wg 959 (by decide +kernel) (by decide +kernel), by decide +kernel⟩
theorem lk_l_205 : ch_SV m_l_step "ChalkWarrantsLaw" 205 3 := ⟨mf_l_step, ch_wg 663 (by decide +kernel) (by decide +kernel), by decide +kernel⟩
theorem lk_l_207 : ch_SV m_l_ranked "ChalkWarrantsLaw" 207 3 := ⟨mf_l_ranked, ch_wg 967 (by decide +kernel) (by decide +kernel), by decide +kernel⟩
theorem lk_l_209 : ch_SV m_l_wouldEnd "ChalkWarrantsLaw" 209 2 := ⟨mf_l_wouldEnd, ch_wg 983 (by decide +kernel) (by decide +kernel), by decide +kernel⟩
theorem lk_l_211 : ch_SV m_l_warrantAt "ChalkWarrantsLaw" 211 2 := ⟨mf_l_warrantAt, ch_wg 991 (by decide +kernel) (by decide +kernel), by decide +kernel⟩
theorem lk_l_213 : ch_SV m_x_line "ChalkWarrantsLaw" 213 0 := ⟨mf_x_line, ch_wg 998 (by decide +kernel) (by decide +kernel), by decide +kernel⟩
theorem lk_l_144 : ch_SV m_l_character "ChalkWarrantsLaw" 144 2 := ⟨mf_l_character, ch_wg 1010 (by decide +kernel) (by decide +kernel), by decide +kernel⟩
theorem lk_l_216 : ch_SV m_x_warrants "ChalkWarrantsLaw" 216 0 := ⟨mf_x_warrants, ch_wg 1017 (by decide +kernel) (by decide +kernel), by decide +kernel⟩
theorem lk_l_219 : ch_SV m_x_gap "ChalkWarrantsLaw" 219 0 := ⟨mf_x_gap, ch_wg 310 (by decide +kernel) (by decide +kernel), by decide +kernel⟩
theorem lk_l_222 : ch_SV m_l_strike "ChalkWarrantsLaw" 222 2 := ⟨mf_l_strike, ch_wg 1024 (by decide +kernel) (by decide +kernel), by decide +kernel⟩
theorem lk_l_224 : ch_SV m_l_rain "ChalkWarrantsLaw" 224 2 := ⟨mf_l_rain, ch_wg 1031 (by decide +kernel) (by decide +kernel), by decide +kernel⟩
theorem lk_l_226 : ch_SV m_l_give "ChalkWarrantsLaw" 226 4 := ⟨mf_l_give, ch_wg 1038 (by decide +kernel) (by decide +kernel), by decide +kernel⟩
theorem lk_l_234 : ch_SV m_b_append2 "ChalkWarrantsLaw" 234 1 := ⟨mf_b_append2, ch_wg 1077 (by decide +kernel) (by decide +kernel), by decide +kernel⟩
theorem lk_l_237 : ch_SV m_b_append "ChalkWarrantsLaw" 237 1 := ⟨mf_b_append, ch_wg 1191 (by decide +kernel) (by decide +kernel), by decide +kernel⟩
theorem lk_l_248 : ch_SV m_l_runs "ChalkWarrantsLaw" 248 2 := ⟨mf_l_runs, ch_wg 1284 (by decide +kernel) (by decide +kernel), by decide +kernel⟩
theorem lk_l_252 : ch_SV m_l_term "ChalkWarrantsLaw" 252 1 := ⟨mf_l_term, ch_wg 1312 (by decide +kernel) (by decide +kernel), by decide +kernel⟩
theorem lk_l_254 : ch_SV m_l_asks "ChalkWarrantsLaw" 254 1 := ⟨mf_l_asks, ch_wg 861 (by decide +kernel) (by decide +kernel), by decide +kernel⟩
theorem lk_l_258 : ch_SV m_l_is "ChalkWarrantsLaw" 258 3 := ⟨mf_l_is, ch_wg 820 (by decide +kernel) (by decide +kernel), by decide +kernel⟩
theorem lc_l_262 : Cond.constant "ChalkWarrantsLaw" 262 33331 ∈ ch_good := ch_wg 1322 (by decide +kernel) (by decide +kernel)
theorem lk_l_263 : ch_SV m_l_squareOf "ChalkWarrantsLaw" 263 3 := ⟨mf_l_squareOf, ch_wg 1323 (by decide +kernel) (by decide +kernel), by decide +kernel⟩
theorem lk_l_266 : ch_SV m_l_wouldTread "ChalkWarrantsLaw" 266 3 := ⟨mf_l_wouldTread, ch_wg 1330 (by decide +kernel) (by decide +kernel), by decide +kernel⟩
theorem lc_l_268 : Cond.constant "ChalkWarrantsLaw" 268 2147483647 ∈ ch_good := ch_wg 1339 (by decide +kernel) (by decide +kernel)
theorem lk_l_271 : ch_SV m_x_faultPosition "ChalkWarrantsLaw" 271 0 := ⟨mf_x_faultPosition, ch_wg 321 (by decide +kernel) (by decide +kernel), by decide +kernel⟩
theorem lk_l_279 : ch_SV m_l_undo "ChalkWarrantsLaw" 279 1 := ⟨mf_l_undo, ch_wg 802 (by decide +kernel) (by decide +kernel), by decide +kernel⟩
theorem lk_l_281 : ch_SV m_l_restore "ChalkWarrantsLaw" 281 1 := ⟨mf_l_restore, ch_wg 813 (by decide +kernel) (by decide +kernel), by decide +kernel⟩
theorem lk_l_283 : ch_SV m_x_save "ChalkWarrantsLaw" 283 0 := ⟨mf_x_save, ch_wg 325 (by decide +kernel) (by decide +kernel), by decide +kernel⟩
theorem lk_l_286 : ch_SV m_l_makes "ChalkWarrantsLaw" 286 2 := ⟨mf_l_makes, ch_wg 833 (by decide +kernel) (by decide +kernel), by decide +kernel⟩
theorem lk_l_290 : ch_SV m_l_refused "ChalkWarrantsLaw" 290 1 := ⟨mf_l_refused, ch_wg 1319 (by decide +kernel) (by decide +kernel), by decide +kernel⟩
theorem lk_l_294 : ch_SV m_l_changes "ChalkWarrantsLaw" 294 2 := ⟨mf_l_changes, ch_wg 1021 (by decide +kernel) (by decide +kernel), by decide +kernel⟩
theorem fl_a_79 : ch_FL "java/lang/AbstractStringBuilder" 79 9 3 := ⟨_, _, _, ch_Cl9, by decide, Or.inl (ch_wg 1066 (by decide +kernel) (by decide +kernel))⟩
theorem lk_a_245 : ch_SV m_i_stringSize "java/lang/AbstractStringBuilder" 245 1 := ⟨mf_i_stringSize, ch_wg 1198 (by decide +kernel) (by decide +kernel), by decide +kernel⟩
theorem lk_a_100 : ch_SV m_a_ensureCapacityInternal "java/lang/AbstractStringBuilder" 100 1 := ⟨mf_a_ensureCapacityInternal, ch_wg 1088 (by decide +kernel) (by decide +kernel), by decide +kernel⟩
theorem lk_a_83 : ch_SV m_a_isLatin1 "java/lang/AbstractStringBuilder" 83 0 := ⟨mf_a_isLatin1, ch_wg 1117 (by decide +kernel) (by decide +kernel), by decide +kernel⟩
theorem fl_a_15 : ch_FL "java/lang/AbstractStringBuilder" 15 9 0 := ⟨_, _, _, ch_Cl9, by decide, Or.inl (ch_wg 1063 (by decide +kernel) (by decide +kernel))⟩
theorem lk_a_248 : ch_SV m_i_getChars "java/lang/AbstractStringBuilder" 248 3 := ⟨mf_i_getChars, ch_wg 1201 (by decide +kernel) (by decide +kernel), by decide +kernel⟩
theorem fp_a_79 : ch_FP "java/lang/AbstractStringBuilder" 79 9 3 (.int) := ⟨_, _, _, ch_Cl9, by decide, Or.inl (ch_wg 1066 (by decide +kernel) (by decide +kernel)), rfl, by decide +kernel⟩
theorem lk_a_32 : ch_SV m_q_length "java/lang/AbstractStringBuilder" 32 0 := ⟨mf_q_length, ch_wg 1148 (by decide +kernel) (by decide +kernel), by decide +kernel⟩
theorem lk_a_208 : ch_SV m_a_putStringAt "java/lang/AbstractStringBuilder" 208 2 := ⟨mf_a_putStringAt, ch_wg 1157 (by decide +kernel) (by decide +kernel), by decide +kernel⟩
theorem fl_a_22 : ch_FL "java/lang/AbstractStringBuilder" 22 9 1 := ⟨_, _, _, ch_Cl9, by decide, Or.inl (ch_wg 1064 (by decide +kernel) (by decide +kernel))⟩
theorem fl_a_18 : Cond.fieldLink "java/lang/AbstractStringBuilder" 18 "java/lang/String" "COMPACT_STRINGS" "Z" ∈ ch_good := ch_wg 1054 (by decide +kernel) (by decide +kernel)
theorem lk_a_40 : ch_SV m_q_coder "java/lang/AbstractStringBuilder" 40 0 := ⟨mf_q_coder, ch_wg 1165 (by decide +kernel) (by decide +kernel), by decide +kernel⟩
theorem lk_a_397 : ch_SV m_a_inflateIfNeededFor "java/lang/AbstractStringBuilder" 397 1 := ⟨mf_a_inflateIfNeededFor, ch_wg 1161 (by decide +kernel) (by decide +kernel), by decide +kernel⟩
theorem lk_a_399 : ch_SV m_q_getBytes "java/lang/AbstractStringBuilder" 399 3 := ⟨mf_q_getBytes, ch_wg 1185 (by decide +kernel) (by decide +kernel), by decide +kernel⟩
theorem lk_u_122 : ch_SV m_u_isNaN "java/lang/Double" 122 1 := ⟨mf_u_isNaN, ch_wg 899 (by decide +kernel) (by decide +kernel), by decide +kernel⟩
theorem lk_u_134 : ch_NB "java/lang/Double" 134 ⟨"java/lang/Double", "doubleToRawLongBits", "(D)J"⟩ := ⟨ch_wg 902 (by decide +kernel) (by decide +kernel), ch_wg 904 (by decide +kernel) (by decide +kernel), ch_wg 903 (by decide +kernel) (by decide +kernel), ch_wg 24 (by decide +kernel) (by decide +kernel)⟩
theorem lc_u_137 : Cond.constantLong "java/lang/Double" 137 9221120237041090560 ∈ ch_good := ch_wg 905 (by decide +kernel) (by decide +kernel)
theorem lk_f_59 : ch_SV m_f_isNaN "java/lang/Float" 59 1 := ⟨mf_f_isNaN, ch_wg 914 (by decide +kernel) (by decide +kernel), by decide +kernel⟩
theorem lk_f_74 : ch_NB "java/lang/Float" 74 ⟨"java/lang/Float", "floatToRawIntBits", "(F)I"⟩ := ⟨ch_wg 917 (by decide +kernel) (by decide +kernel), ch_wg 919 (by decide +kernel) (by decide +kernel), ch_wg 918 (by decide +kernel) (by decide +kernel), ch_wg 25 (by decide +kernel) (by decide +kernel)⟩
theorem lc_f_77 : Cond.constant "java/lang/Float" 77 2143289344 ∈ ch_good := ch_wg 920 (by decide +kernel) (by decide +kernel)
theorem fl_i_83 : Cond.fieldLink "java/lang/Integer" 83 "java/lang/Integer" "DigitOnes" "[B" ∈ ch_good := ch_wg 1204 (by decide +kernel) (by decide +kernel)
theorem fl_i_87 : Cond.fieldLink "java/lang/Integer" 87 "java/lang/Integer" "DigitTens" "[B" ∈ ch_good := ch_wg 1206 (by decide +kernel) (by decide +kernel)
theorem lk_q_492 : ch_SV m_q_isLatin1 "java/lang/String" 492 0 := ⟨mf_q_isLatin1, ch_wg 1292 (by decide +kernel) (by decide +kernel), by decide +kernel⟩
theorem fl_q_9 : Cond.fieldLink "java/lang/String" 9 "java/lang/String" "value" "[B" ∈ ch_good := ch_wg 1276 (by decide +kernel) (by decide +kernel)
theorem lk_q_495 : ch_SV m_k_charAt "java/lang/String" 495 2 := ⟨mf_k_charAt, ch_wg 1296 (by decide +kernel) (by decide +kernel), by decide +kernel⟩
theorem fl_q_1053 : Cond.fieldLink "java/lang/String" 1053 "jdk/internal/util/Preconditions" "SIOOBE_FORMATTER" "Ljava/util/function/BiFunction;" ∈ ch_good := ch_wg 1134 (by decide +kernel) (by decide +kernel)
theorem lk_q_1059 : ch_SV m_o_checkIndex "java/lang/String" 1059 3 := ⟨mf_o_checkIndex, ch_wg 1302 (by decide +kernel) (by decide +kernel), by decide +kernel⟩
theorem fl_q_38 : Cond.fieldLink "java/lang/String" 38 "java/lang/String" "COMPACT_STRINGS" "Z" ∈ ch_good := ch_wg 1156 (by decide +kernel) (by decide +kernel)
theorem fl_q_15 : Cond.fieldLink "java/lang/String" 15 "java/lang/String" "coder" "B" ∈ ch_good := ch_wg 1277 (by decide +kernel) (by decide +kernel)
theorem lk_q_335 : ch_SV m_q_coder "java/lang/String" 335 0 := ⟨mf_q_coder, ch_wg 1152 (by decide +kernel) (by decide +kernel), by decide +kernel⟩
theorem lk_q_212 : ch_AC "java/lang/String" 212 := ⟨ch_wg 1189 (by decide +kernel) (by decide +kernel), ch_wg 335 (by decide +kernel) (by decide +kernel), ch_wg 334 (by decide +kernel) (by decide +kernel), ch_wg 14 (by decide +kernel) (by decide +kernel)⟩
theorem lk_k_9 : ch_SV m_q_checkIndex "java/lang/StringLatin1" 9 2 := ⟨mf_q_checkIndex, ch_wg 1299 (by decide +kernel) (by decide +kernel), by decide +kernel⟩
theorem lk_g_54 : ch_SV m_b_append "java/util/Arrays" 54 1 := ⟨mf_b_append, ch_wg 1255 (by decide +kernel) (by decide +kernel), by decide +kernel⟩
theorem lk_g_50 : ch_SV m_b_append2 "java/util/Arrays" 50 1 := ⟨mf_b_append2, ch_wg 1257 (by decide +kernel) (by decide +kernel), by decide +kernel⟩
theorem cx_0 : Cond.castable (ch_xn 0) (ch_xn 0) ∈ ch_oth := ch_ow 425 (by decide +kernel) (by decide +kernel)
theorem cx_1 : Cond.castable (ch_xn 1) (ch_xn 1) ∈ ch_oth := ch_ow 610 (by decide +kernel) (by decide +kernel)
theorem cx_2 : Cond.castable (ch_xn 2) (ch_xn 2) ∈ ch_oth := ch_ow 630 (by decide +kernel) (by decide +kernel)
theorem cx_3 : Cond.castable (ch_xn 3) (ch_xn 3) ∈ ch_oth := ch_ow 681 (by decide +kernel) (by decide +kernel)
theorem cx_4 : Cond.castable (ch_xn 4) (ch_xn 4) ∈ ch_oth := ch_ow 711 (by decide +kernel) (by decide +kernel)
theorem cx_5 : Cond.castable (ch_xn 5) (ch_xn 5) ∈ ch_oth := ch_ow 880 (by decide +kernel) (by decide +kernel)
end
section
theorem d_l_at_0 : decode (ch_bc m_l_at) 0 = .ok (.iload_n 1, 1) := by decide +kernel
theorem d_l_at_1 : decode (ch_bc m_l_at) 1 = .ok (.aload_n 0, 1) := by decide +kernel
theorem d_l_at_2 : decode (ch_bc m_l_at) 2 = .ok (.arraylength, 1) := by decide +kernel
theorem d_l_at_3 : decode (ch_bc m_l_at) 3 = .ok (.if_icmp .ge 9, 3) := by decide +kernel
theorem d_l_at_6 : decode (ch_bc m_l_at) 6 = .ok (.aload_n 0, 1) := by decide +kernel
theorem d_l_at_7 : decode (ch_bc m_l_at) 7 = .ok (.iload_n 1, 1) := by decide +kernel
theorem d_l_at_8 : decode (ch_bc m_l_at) 8 = .ok (.iaload, 1) := by decide +kernel
theorem d_l_at_9 : decode (ch_bc m_l_at) 9 = .ok (.goto 4, 3) := by decide +kernel
theorem d_l_at_12 : decode (ch_bc m_l_at) 12 = .ok (.iconst 0, 1) := by decide +kernel
theorem d_l_at_13 : decode (ch_bc m_l_at) 13 = .ok (.ireturn, 1) := by decide +kernel
theorem d_l_some_0 : decode (ch_bc m_l_some) 0 = .ok (.iload_n 0, 1) := by decide +kernel
theorem d_l_some_1 : decode (ch_bc m_l_some) 1 = .ok (.iload_n 1, 1) := by decide +kernel
theorem d_l_some_2 : decode (ch_bc m_l_some) 2 = .ok (.irem, 1) := by decide +kernel
theorem d_l_some_3 : decode (ch_bc m_l_some) 3 = .ok (.istore_n 2, 1) := by decide +kernel
theorem d_l_some_4 : decode (ch_bc m_l_some) 4 = .ok (.iload_n 2, 1) := by decide +kernel
theorem d_l_some_5 : decode (ch_bc m_l_some) 5 = .ok (.ifCond .ge 9, 3) := by decide +kernel
theorem d_l_some_8 : decode (ch_bc m_l_some) 8 = .ok (.iload_n 2, 1) := by decide +kernel
theorem d_l_some_9 : decode (ch_bc m_l_some) 9 = .ok (.iload_n 1, 1) := by decide +kernel
theorem d_l_some_10 : decode (ch_bc m_l_some) 10 = .ok (.iadd, 1) := by decide +kernel
theorem d_l_some_11 : decode (ch_bc m_l_some) 11 = .ok (.goto 4, 3) := by decide +kernel
theorem d_l_some_14 : decode (ch_bc m_l_some) 14 = .ok (.iload_n 2, 1) := by decide +kernel
theorem d_l_some_15 : decode (ch_bc m_l_some) 15 = .ok (.ireturn, 1) := by decide +kernel
theorem d_l_child_0 : decode (ch_bc m_l_child) 0 = .ok (.aload_n 0, 1) := by decide +kernel
theorem d_l_child_1 : decode (ch_bc m_l_child) 1 = .ok (.iload_n 1, 1) := by decide +kernel
theorem d_l_child_2 : decode (ch_bc m_l_child) 2 = .ok (.invokevirtual 7, 3) := by decide +kernel
theorem d_l_child_5 : decode (ch_bc m_l_child) 5 = .ok (.ireturn, 1) := by decide +kernel
theorem d_l_child_6 : decode (ch_bc m_l_child) 6 = .ok (.astore_n 2, 1) := by decide +kernel
theorem d_l_child_7 : decode (ch_bc m_l_child) 7 = .ok (.sipush (-1001), 3) := by decide +kernel
theorem d_l_child_10 : decode (ch_bc m_l_child) 10 = .ok (.ireturn, 1) := by decide +kernel
theorem d_l_chalk_0 : decode (ch_bc m_l_chalk) 0 = .ok (.aload_n 0, 1) := by decide +kernel
theorem d_l_chalk_1 : decode (ch_bc m_l_chalk) 1 = .ok (.iload_n 1, 1) := by decide +kernel
theorem d_l_chalk_2 : decode (ch_bc m_l_chalk) 2 = .ok (.iload_n 2, 1) := by decide +kernel
theorem d_l_chalk_3 : decode (ch_bc m_l_chalk) 3 = .ok (.invokevirtual 15, 3) := by decide +kernel
theorem d_l_chalk_6 : decode (ch_bc m_l_chalk) 6 = .ok (.ireturn, 1) := by decide +kernel
theorem d_l_chalk_7 : decode (ch_bc m_l_chalk) 7 = .ok (.astore_n 3, 1) := by decide +kernel
theorem d_l_chalk_8 : decode (ch_bc m_l_chalk) 8 = .ok (.sipush (-1001), 3) := by decide +kernel
theorem d_l_chalk_11 : decode (ch_bc m_l_chalk) 11 = .ok (.ireturn, 1) := by decide +kernel
theorem d_l_hop_0 : decode (ch_bc m_l_hop) 0 = .ok (.aload_n 0, 1) := by decide +kernel
theorem d_l_hop_1 : decode (ch_bc m_l_hop) 1 = .ok (.iload_n 1, 1) := by decide +kernel
theorem d_l_hop_2 : decode (ch_bc m_l_hop) 2 = .ok (.iload_n 2, 1) := by decide +kernel
theorem d_l_hop_3 : decode (ch_bc m_l_hop) 3 = .ok (.invokevirtual 19, 3) := by decide +kernel
theorem d_l_hop_6 : decode (ch_bc m_l_hop) 6 = .ok (.ireturn, 1) := by decide +kernel
theorem d_l_hop_7 : decode (ch_bc m_l_hop) 7 = .ok (.astore_n 3, 1) := by decide +kernel
theorem d_l_hop_8 : decode (ch_bc m_l_hop) 8 = .ok (.sipush (-1001), 3) := by decide +kernel
theorem d_l_hop_11 : decode (ch_bc m_l_hop) 11 = .ok (.ireturn, 1) := by decide +kernel
theorem d_l_warrant_0 : decode (ch_bc m_l_warrant) 0 = .ok (.aload_n 0, 1) := by decide +kernel
theorem d_l_warrant_1 : decode (ch_bc m_l_warrant) 1 = .ok (.iload_n 1, 1) := by decide +kernel
theorem d_l_warrant_2 : decode (ch_bc m_l_warrant) 2 = .ok (.invokevirtual 22, 3) := by decide +kernel
theorem d_l_warrant_5 : decode (ch_bc m_l_warrant) 5 = .ok (.ireturn, 1) := by decide +kernel
theorem d_l_warrant_6 : decode (ch_bc m_l_warrant) 6 = .ok (.astore_n 2, 1) := by decide +kernel
theorem d_l_warrant_7 : decode (ch_bc m_l_warrant) 7 = .ok (.sipush (-1001), 3) := by decide +kernel
theorem d_l_warrant_10 : decode (ch_bc m_l_warrant) 10 = .ok (.ireturn, 1) := by decide +kernel
theorem d_l_strike_0 : decode (ch_bc m_l_strike) 0 = .ok (.aload_n 0, 1) := by decide +kernel
theorem d_l_strike_1 : decode (ch_bc m_l_strike) 1 = .ok (.iload_n 1, 1) := by decide +kernel
theorem d_l_strike_2 : decode (ch_bc m_l_strike) 2 = .ok (.invokevirtual 25, 3) := by decide +kernel
theorem d_l_strike_5 : decode (ch_bc m_l_strike) 5 = .ok (.ireturn, 1) := by decide +kernel
theorem d_l_strike_6 : decode (ch_bc m_l_strike) 6 = .ok (.astore_n 2, 1) := by decide +kernel
theorem d_l_strike_7 : decode (ch_bc m_l_strike) 7 = .ok (.sipush (-1001), 3) := by decide +kernel
theorem d_l_strike_10 : decode (ch_bc m_l_strike) 10 = .ok (.ireturn, 1) := by decide +kernel
theorem d_l_rain_0 : decode (ch_bc m_l_rain) 0 = .ok (.aload_n 0, 1) := by decide +kernel
theorem d_l_rain_1 : decode (ch_bc m_l_rain) 1 = .ok (.iload_n 1, 1) := by decide +kernel
theorem d_l_rain_2 : decode (ch_bc m_l_rain) 2 = .ok (.invokevirtual 28, 3) := by decide +kernel
theorem d_l_rain_5 : decode (ch_bc m_l_rain) 5 = .ok (.ireturn, 1) := by decide +kernel
theorem d_l_rain_6 : decode (ch_bc m_l_rain) 6 = .ok (.astore_n 2, 1) := by decide +kernel
theorem d_l_rain_7 : decode (ch_bc m_l_rain) 7 = .ok (.sipush (-1001), 3) := by decide +kernel
theorem d_l_rain_10 : decode (ch_bc m_l_rain) 10 = .ok (.ireturn, 1) := by decide +kernel
theorem d_l_term_0 : decode (ch_bc m_l_term) 0 = .ok (.aload_n 0, 1) := by decide +kernel
theorem d_l_term_1 : decode (ch_bc m_l_term) 1 = .ok (.invokevirtual 31, 3) := by decide +kernel
theorem d_l_term_4 : decode (ch_bc m_l_term) 4 = .ok (.ireturn, 1) := by decide +kernel
theorem d_l_term_5 : decode (ch_bc m_l_term) 5 = .ok (.astore_n 1, 1) := by decide +kernel
theorem d_l_term_6 : decode (ch_bc m_l_term) 6 = .ok (.sipush (-1001), 3) := by decide +kernel
theorem d_l_term_9 : decode (ch_bc m_l_term) 9 = .ok (.ireturn, 1) := by decide +kernel
theorem d_l_give_0 : decode (ch_bc m_l_give) 0 = .ok (.aload_n 0, 1) := by decide +kernel
theorem d_l_give_1 : decode (ch_bc m_l_give) 1 = .ok (.iload_n 1, 1) := by decide +kernel
theorem d_l_give_2 : decode (ch_bc m_l_give) 2 = .ok (.iload_n 2, 1) := by decide +kernel
theorem d_l_give_3 : decode (ch_bc m_l_give) 3 = .ok (.iload_n 3, 1) := by decide +kernel
theorem d_l_give_4 : decode (ch_bc m_l_give) 4 = .ok (.invokevirtual 35, 3) := by decide +kernel
theorem d_l_give_7 : decode (ch_bc m_l_give) 7 = .ok (.ireturn, 1) := by decide +kernel
theorem d_l_give_8 : decode (ch_bc m_l_give) 8 = .ok (.astore 4, 2) := by decide +kernel
theorem d_l_give_10 : decode (ch_bc m_l_give) 10 = .ok (.sipush (-1001), 3) := by decide +kernel
theorem d_l_give_13 : decode (ch_bc m_l_give) 13 = .ok (.ireturn, 1) := by decide +kernel
theorem d_l_squareOf_0 : decode (ch_bc m_l_squareOf) 0 = .ok (.aload_n 0, 1) := by decide +kernel
theorem d_l_squareOf_1 : decode (ch_bc m_l_squareOf) 1 = .ok (.iload_n 1, 1) := by decide +kernel
theorem d_l_squareOf_2 : decode (ch_bc m_l_squareOf) 2 = .ok (.iload_n 2, 1) := by decide +kernel
theorem d_l_squareOf_3 : decode (ch_bc m_l_squareOf) 3 = .ok (.invokevirtual 39, 3) := by decide +kernel
theorem d_l_squareOf_6 : decode (ch_bc m_l_squareOf) 6 = .ok (.ireturn, 1) := by decide +kernel
theorem d_l_squareOf_7 : decode (ch_bc m_l_squareOf) 7 = .ok (.astore_n 3, 1) := by decide +kernel
theorem d_l_squareOf_8 : decode (ch_bc m_l_squareOf) 8 = .ok (.sipush (-1001), 3) := by decide +kernel
theorem d_l_squareOf_11 : decode (ch_bc m_l_squareOf) 11 = .ok (.ireturn, 1) := by decide +kernel
theorem d_l_of_0 : decode (ch_bc m_l_of) 0 = .ok (.aload_n 0, 1) := by decide +kernel
theorem d_l_of_1 : decode (ch_bc m_l_of) 1 = .ok (.iload_n 1, 1) := by decide +kernel
theorem d_l_of_2 : decode (ch_bc m_l_of) 2 = .ok (.iload_n 2, 1) := by decide +kernel
theorem d_l_of_3 : decode (ch_bc m_l_of) 3 = .ok (.invokevirtual 45, 3) := by decide +kernel
theorem d_l_of_6 : decode (ch_bc m_l_of) 6 = .ok (.ireturn, 1) := by decide +kernel
theorem d_l_of_7 : decode (ch_bc m_l_of) 7 = .ok (.astore_n 3, 1) := by decide +kernel
theorem d_l_of_8 : decode (ch_bc m_l_of) 8 = .ok (.sipush (-1001), 3) := by decide +kernel
theorem d_l_of_11 : decode (ch_bc m_l_of) 11 = .ok (.ireturn, 1) := by decide +kernel
theorem d_l_of_12 : decode (ch_bc m_l_of) 12 = .ok (.astore_n 3, 1) := by decide +kernel
theorem d_l_of_13 : decode (ch_bc m_l_of) 13 = .ok (.sipush (-1002), 3) := by decide +kernel
theorem d_l_of_16 : decode (ch_bc m_l_of) 16 = .ok (.ireturn, 1) := by decide +kernel
theorem d_l_squares_0 : decode (ch_bc m_l_squares) 0 = .ok (.aload_n 0, 1) := by decide +kernel
theorem d_l_squares_1 : decode (ch_bc m_l_squares) 1 = .ok (.iload_n 1, 1) := by decide +kernel
theorem d_l_squares_2 : decode (ch_bc m_l_squares) 2 = .ok (.invokevirtual 50, 3) := by decide +kernel
theorem d_l_squares_5 : decode (ch_bc m_l_squares) 5 = .ok (.ireturn, 1) := by decide +kernel
theorem d_l_squares_6 : decode (ch_bc m_l_squares) 6 = .ok (.astore_n 2, 1) := by decide +kernel
theorem d_l_squares_7 : decode (ch_bc m_l_squares) 7 = .ok (.sipush (-1001), 3) := by decide +kernel
theorem d_l_squares_10 : decode (ch_bc m_l_squares) 10 = .ok (.ireturn, 1) := by decide +kernel
theorem d_l_warrantAt_0 : decode (ch_bc m_l_warrantAt) 0 = .ok (.aload_n 0, 1) := by decide +kernel
theorem d_l_warrantAt_1 : decode (ch_bc m_l_warrantAt) 1 = .ok (.iload_n 1, 1) := by decide +kernel
theorem d_l_warrantAt_2 : decode (ch_bc m_l_warrantAt) 2 = .ok (.invokevirtual 53, 3) := by decide +kernel
theorem d_l_warrantAt_5 : decode (ch_bc m_l_warrantAt) 5 = .ok (.ireturn, 1) := by decide +kernel
theorem d_l_warrantAt_6 : decode (ch_bc m_l_warrantAt) 6 = .ok (.astore_n 2, 1) := by decide +kernel
theorem d_l_warrantAt_7 : decode (ch_bc m_l_warrantAt) 7 = .ok (.sipush (-1001), 3) := by decide +kernel
theorem d_l_warrantAt_10 : decode (ch_bc m_l_warrantAt) 10 = .ok (.ireturn, 1) := by decide +kernel
theorem d_l_fewest_0 : decode (ch_bc m_l_fewest) 0 = .ok (.aload_n 0, 1) := by decide +kernel
theorem d_l_fewest_1 : decode (ch_bc m_l_fewest) 1 = .ok (.iload_n 1, 1) := by decide +kernel
theorem d_l_fewest_2 : decode (ch_bc m_l_fewest) 2 = .ok (.invokevirtual 58, 3) := by decide +kernel
theorem d_l_fewest_5 : decode (ch_bc m_l_fewest) 5 = .ok (.ireturn, 1) := by decide +kernel
theorem d_l_fewest_6 : decode (ch_bc m_l_fewest) 6 = .ok (.astore_n 2, 1) := by decide +kernel
theorem d_l_fewest_7 : decode (ch_bc m_l_fewest) 7 = .ok (.sipush (-1001), 3) := by decide +kernel
theorem d_l_fewest_10 : decode (ch_bc m_l_fewest) 10 = .ok (.ireturn, 1) := by decide +kernel
theorem d_l_fewestAgain_0 : decode (ch_bc m_l_fewestAgain) 0 = .ok (.aload_n 0, 1) := by decide +kernel
theorem d_l_fewestAgain_1 : decode (ch_bc m_l_fewestAgain) 1 = .ok (.iload_n 1, 1) := by decide +kernel
theorem d_l_fewestAgain_2 : decode (ch_bc m_l_fewestAgain) 2 = .ok (.invokevirtual 61, 3) := by decide +kernel
theorem d_l_fewestAgain_5 : decode (ch_bc m_l_fewestAgain) 5 = .ok (.ireturn, 1) := by decide +kernel
theorem d_l_fewestAgain_6 : decode (ch_bc m_l_fewestAgain) 6 = .ok (.astore_n 2, 1) := by decide +kernel
theorem d_l_fewestAgain_7 : decode (ch_bc m_l_fewestAgain) 7 = .ok (.sipush (-1001), 3) := by decide +kernel
theorem d_l_fewestAgain_10 : decode (ch_bc m_l_fewestAgain) 10 = .ok (.ireturn, 1) := by decide +kernel
theorem d_l_step_0 : decode (ch_bc m_l_step) 0 = .ok (.aload_n 0, 1) := by decide +kernel
theorem d_l_step_1 : decode (ch_bc m_l_step) 1 = .ok (.iload_n 1, 1) := by decide +kernel
theorem d_l_step_2 : decode (ch_bc m_l_step) 2 = .ok (.iload_n 2, 1) := by decide +kernel
theorem d_l_step_3 : decode (ch_bc m_l_step) 3 = .ok (.invokevirtual 64, 3) := by decide +kernel
theorem d_l_step_6 : decode (ch_bc m_l_step) 6 = .ok (.ireturn, 1) := by decide +kernel
theorem d_l_step_7 : decode (ch_bc m_l_step) 7 = .ok (.astore_n 3, 1) := by decide +kernel
theorem d_l_step_8 : decode (ch_bc m_l_step) 8 = .ok (.sipush (-1001), 3) := by decide +kernel
theorem d_l_step_11 : decode (ch_bc m_l_step) 11 = .ok (.ireturn, 1) := by decide +kernel
theorem d_l_step_12 : decode (ch_bc m_l_step) 12 = .ok (.astore_n 3, 1) := by decide +kernel
theorem d_l_step_13 : decode (ch_bc m_l_step) 13 = .ok (.sipush (-1002), 3) := by decide +kernel
theorem d_l_step_16 : decode (ch_bc m_l_step) 16 = .ok (.ireturn, 1) := by decide +kernel
theorem d_l_wouldTread_0 : decode (ch_bc m_l_wouldTread) 0 = .ok (.aload_n 0, 1) := by decide +kernel
theorem d_l_wouldTread_1 : decode (ch_bc m_l_wouldTread) 1 = .ok (.iload_n 1, 1) := by decide +kernel
theorem d_l_wouldTread_2 : decode (ch_bc m_l_wouldTread) 2 = .ok (.iload_n 2, 1) := by decide +kernel
theorem d_l_wouldTread_3 : decode (ch_bc m_l_wouldTread) 3 = .ok (.invokevirtual 67, 3) := by decide +kernel
theorem d_l_wouldTread_6 : decode (ch_bc m_l_wouldTread) 6 = .ok (.ireturn, 1) := by decide +kernel
theorem d_l_wouldTread_7 : decode (ch_bc m_l_wouldTread) 7 = .ok (.astore_n 3, 1) := by decide +kernel
theorem d_l_wouldTread_8 : decode (ch_bc m_l_wouldTread) 8 = .ok (.sipush (-1001), 3) := by decide +kernel
theorem d_l_wouldTread_11 : decode (ch_bc m_l_wouldTread) 11 = .ok (.ireturn, 1) := by decide +kernel
theorem d_l_wouldTread_12 : decode (ch_bc m_l_wouldTread) 12 = .ok (.astore_n 3, 1) := by decide +kernel
theorem d_l_wouldTread_13 : decode (ch_bc m_l_wouldTread) 13 = .ok (.sipush (-1002), 3) := by decide +kernel
theorem d_l_wouldTread_16 : decode (ch_bc m_l_wouldTread) 16 = .ok (.ireturn, 1) := by decide +kernel
theorem d_l_longest_0 : decode (ch_bc m_l_longest) 0 = .ok (.aload_n 0, 1) := by decide +kernel
theorem d_l_longest_1 : decode (ch_bc m_l_longest) 1 = .ok (.iload_n 1, 1) := by decide +kernel
theorem d_l_longest_2 : decode (ch_bc m_l_longest) 2 = .ok (.invokevirtual 70, 3) := by decide +kernel
theorem d_l_longest_5 : decode (ch_bc m_l_longest) 5 = .ok (.ireturn, 1) := by decide +kernel
theorem d_l_longest_6 : decode (ch_bc m_l_longest) 6 = .ok (.astore_n 2, 1) := by decide +kernel
theorem d_l_longest_7 : decode (ch_bc m_l_longest) 7 = .ok (.sipush (-1001), 3) := by decide +kernel
theorem d_l_longest_10 : decode (ch_bc m_l_longest) 10 = .ok (.ireturn, 1) := by decide +kernel
theorem d_l_wouldEnd_0 : decode (ch_bc m_l_wouldEnd) 0 = .ok (.aload_n 0, 1) := by decide +kernel
theorem d_l_wouldEnd_1 : decode (ch_bc m_l_wouldEnd) 1 = .ok (.iload_n 1, 1) := by decide +kernel
theorem d_l_wouldEnd_2 : decode (ch_bc m_l_wouldEnd) 2 = .ok (.invokevirtual 73, 3) := by decide +kernel
theorem d_l_wouldEnd_5 : decode (ch_bc m_l_wouldEnd) 5 = .ok (.ireturn, 1) := by decide +kernel
theorem d_l_wouldEnd_6 : decode (ch_bc m_l_wouldEnd) 6 = .ok (.astore_n 2, 1) := by decide +kernel
theorem d_l_wouldEnd_7 : decode (ch_bc m_l_wouldEnd) 7 = .ok (.sipush (-1001), 3) := by decide +kernel
theorem d_l_wouldEnd_10 : decode (ch_bc m_l_wouldEnd) 10 = .ok (.ireturn, 1) := by decide +kernel
theorem d_l_rainFor_0 : decode (ch_bc m_l_rainFor) 0 = .ok (.aload_n 0, 1) := by decide +kernel
theorem d_l_rainFor_1 : decode (ch_bc m_l_rainFor) 1 = .ok (.iload_n 1, 1) := by decide +kernel
theorem d_l_rainFor_2 : decode (ch_bc m_l_rainFor) 2 = .ok (.invokevirtual 76, 3) := by decide +kernel
theorem d_l_rainFor_5 : decode (ch_bc m_l_rainFor) 5 = .ok (.ireturn, 1) := by decide +kernel
theorem d_l_rainFor_6 : decode (ch_bc m_l_rainFor) 6 = .ok (.astore_n 2, 1) := by decide +kernel
theorem d_l_rainFor_7 : decode (ch_bc m_l_rainFor) 7 = .ok (.sipush (-1001), 3) := by decide +kernel
theorem d_l_rainFor_10 : decode (ch_bc m_l_rainFor) 10 = .ok (.ireturn, 1) := by decide +kernel
theorem d_l_rainFor_11 : decode (ch_bc m_l_rainFor) 11 = .ok (.astore_n 2, 1) := by decide +kernel
theorem d_l_rainFor_12 : decode (ch_bc m_l_rainFor) 12 = .ok (.sipush (-1002), 3) := by decide +kernel
theorem d_l_rainFor_15 : decode (ch_bc m_l_rainFor) 15 = .ok (.ireturn, 1) := by decide +kernel
theorem d_l_wouldLose_0 : decode (ch_bc m_l_wouldLose) 0 = .ok (.aload_n 0, 1) := by decide +kernel
theorem d_l_wouldLose_1 : decode (ch_bc m_l_wouldLose) 1 = .ok (.iload_n 1, 1) := by decide +kernel
theorem d_l_wouldLose_2 : decode (ch_bc m_l_wouldLose) 2 = .ok (.invokevirtual 79, 3) := by decide +kernel
theorem d_l_wouldLose_5 : decode (ch_bc m_l_wouldLose) 5 = .ok (.ireturn, 1) := by decide +kernel
theorem d_l_wouldLose_6 : decode (ch_bc m_l_wouldLose) 6 = .ok (.astore_n 2, 1) := by decide +kernel
theorem d_l_wouldLose_7 : decode (ch_bc m_l_wouldLose) 7 = .ok (.sipush (-1001), 3) := by decide +kernel
theorem d_l_wouldLose_10 : decode (ch_bc m_l_wouldLose) 10 = .ok (.ireturn, 1) := by decide +kernel
theorem d_l_termsFor_0 : decode (ch_bc m_l_termsFor) 0 = .ok (.aload_n 0, 1) := by decide +kernel
theorem d_l_termsFor_1 : decode (ch_bc m_l_termsFor) 1 = .ok (.iload_n 1, 1) := by decide +kernel
theorem d_l_termsFor_2 : decode (ch_bc m_l_termsFor) 2 = .ok (.invokevirtual 82, 3) := by decide +kernel
theorem d_l_termsFor_5 : decode (ch_bc m_l_termsFor) 5 = .ok (.ireturn, 1) := by decide +kernel
theorem d_l_termsFor_6 : decode (ch_bc m_l_termsFor) 6 = .ok (.astore_n 2, 1) := by decide +kernel
theorem d_l_termsFor_7 : decode (ch_bc m_l_termsFor) 7 = .ok (.sipush (-1001), 3) := by decide +kernel
theorem d_l_termsFor_10 : decode (ch_bc m_l_termsFor) 10 = .ok (.ireturn, 1) := by decide +kernel
theorem d_l_termsFor_11 : decode (ch_bc m_l_termsFor) 11 = .ok (.astore_n 2, 1) := by decide +kernel
theorem d_l_termsFor_12 : decode (ch_bc m_l_termsFor) 12 = .ok (.sipush (-1002), 3) := by decide +kernel
theorem d_l_termsFor_15 : decode (ch_bc m_l_termsFor) 15 = .ok (.ireturn, 1) := by decide +kernel
theorem d_l_ranked_0 : decode (ch_bc m_l_ranked) 0 = .ok (.aload_n 0, 1) := by decide +kernel
theorem d_l_ranked_1 : decode (ch_bc m_l_ranked) 1 = .ok (.iload_n 1, 1) := by decide +kernel
theorem d_l_ranked_2 : decode (ch_bc m_l_ranked) 2 = .ok (.iload_n 2, 1) := by decide +kernel
theorem d_l_ranked_3 : decode (ch_bc m_l_ranked) 3 = .ok (.invokevirtual 85, 3) := by decide +kernel
theorem d_l_ranked_6 : decode (ch_bc m_l_ranked) 6 = .ok (.ireturn, 1) := by decide +kernel
theorem d_l_ranked_7 : decode (ch_bc m_l_ranked) 7 = .ok (.astore_n 3, 1) := by decide +kernel
theorem d_l_ranked_8 : decode (ch_bc m_l_ranked) 8 = .ok (.sipush (-1001), 3) := by decide +kernel
theorem d_l_ranked_11 : decode (ch_bc m_l_ranked) 11 = .ok (.ireturn, 1) := by decide +kernel
theorem d_l_ranked_12 : decode (ch_bc m_l_ranked) 12 = .ok (.astore_n 3, 1) := by decide +kernel
theorem d_l_ranked_13 : decode (ch_bc m_l_ranked) 13 = .ok (.sipush (-1002), 3) := by decide +kernel
theorem d_l_ranked_16 : decode (ch_bc m_l_ranked) 16 = .ok (.ireturn, 1) := by decide +kernel
theorem d_l_append_0 : decode (ch_bc m_l_append) 0 = .ok (.aload_n 0, 1) := by decide +kernel
theorem d_l_append_1 : decode (ch_bc m_l_append) 1 = .ok (.iload_n 1, 1) := by decide +kernel
theorem d_l_append_2 : decode (ch_bc m_l_append) 2 = .ok (.invokevirtual 88, 3) := by decide +kernel
theorem d_l_append_5 : decode (ch_bc m_l_append) 5 = .ok (.ireturn, 1) := by decide +kernel
theorem d_l_append_6 : decode (ch_bc m_l_append) 6 = .ok (.astore_n 2, 1) := by decide +kernel
theorem d_l_append_7 : decode (ch_bc m_l_append) 7 = .ok (.sipush (-1001), 3) := by decide +kernel
theorem d_l_append_10 : decode (ch_bc m_l_append) 10 = .ok (.ireturn, 1) := by decide +kernel
theorem d_l_commands_0 : decode (ch_bc m_l_commands) 0 = .ok (.aload_n 0, 1) := by decide +kernel
theorem d_l_commands_1 : decode (ch_bc m_l_commands) 1 = .ok (.invokevirtual 94, 3) := by decide +kernel
theorem d_l_commands_4 : decode (ch_bc m_l_commands) 4 = .ok (.ireturn, 1) := by decide +kernel
theorem d_l_commands_5 : decode (ch_bc m_l_commands) 5 = .ok (.astore_n 1, 1) := by decide +kernel
theorem d_l_commands_6 : decode (ch_bc m_l_commands) 6 = .ok (.sipush (-1001), 3) := by decide +kernel
theorem d_l_commands_9 : decode (ch_bc m_l_commands) 9 = .ok (.ireturn, 1) := by decide +kernel
theorem d_l_commands_10 : decode (ch_bc m_l_commands) 10 = .ok (.astore_n 1, 1) := by decide +kernel
theorem d_l_commands_11 : decode (ch_bc m_l_commands) 11 = .ok (.sipush (-1002), 3) := by decide +kernel
theorem d_l_commands_14 : decode (ch_bc m_l_commands) 14 = .ok (.ireturn, 1) := by decide +kernel
theorem d_l_reason_0 : decode (ch_bc m_l_reason) 0 = .ok (.aload_n 0, 1) := by decide +kernel
theorem d_l_reason_1 : decode (ch_bc m_l_reason) 1 = .ok (.iload_n 1, 1) := by decide +kernel
theorem d_l_reason_2 : decode (ch_bc m_l_reason) 2 = .ok (.invokevirtual 97, 3) := by decide +kernel
theorem d_l_reason_5 : decode (ch_bc m_l_reason) 5 = .ok (.ireturn, 1) := by decide +kernel
theorem d_l_reason_6 : decode (ch_bc m_l_reason) 6 = .ok (.astore_n 2, 1) := by decide +kernel
theorem d_l_reason_7 : decode (ch_bc m_l_reason) 7 = .ok (.sipush (-1001), 3) := by decide +kernel
theorem d_l_reason_10 : decode (ch_bc m_l_reason) 10 = .ok (.ireturn, 1) := by decide +kernel
theorem d_l_reason_11 : decode (ch_bc m_l_reason) 11 = .ok (.astore_n 2, 1) := by decide +kernel
theorem d_l_reason_12 : decode (ch_bc m_l_reason) 12 = .ok (.sipush (-1002), 3) := by decide +kernel
theorem d_l_reason_15 : decode (ch_bc m_l_reason) 15 = .ok (.ireturn, 1) := by decide +kernel
theorem d_l_character_0 : decode (ch_bc m_l_character) 0 = .ok (.aload_n 0, 1) := by decide +kernel
theorem d_l_character_1 : decode (ch_bc m_l_character) 1 = .ok (.iload_n 1, 1) := by decide +kernel
theorem d_l_character_2 : decode (ch_bc m_l_character) 2 = .ok (.invokevirtual 100, 3) := by decide +kernel
theorem d_l_character_5 : decode (ch_bc m_l_character) 5 = .ok (.ireturn, 1) := by decide +kernel
theorem d_l_character_6 : decode (ch_bc m_l_character) 6 = .ok (.astore_n 2, 1) := by decide +kernel
theorem d_l_character_7 : decode (ch_bc m_l_character) 7 = .ok (.sipush (-1001), 3) := by decide +kernel
theorem d_l_character_10 : decode (ch_bc m_l_character) 10 = .ok (.ireturn, 1) := by decide +kernel
theorem d_l_meanChalk_0 : decode (ch_bc m_l_meanChalk) 0 = .ok (.aload_n 0, 1) := by decide +kernel
theorem d_l_meanChalk_1 : decode (ch_bc m_l_meanChalk) 1 = .ok (.invokevirtual 104, 3) := by decide +kernel
theorem d_l_meanChalk_4 : decode (ch_bc m_l_meanChalk) 4 = .ok (.dreturn, 1) := by decide +kernel
theorem d_l_meanChalk_5 : decode (ch_bc m_l_meanChalk) 5 = .ok (.astore_n 1, 1) := by decide +kernel
theorem d_l_meanChalk_6 : decode (ch_bc m_l_meanChalk) 6 = .ok (.ldc2_w 110, 3) := by decide +kernel
theorem d_l_meanChalk_9 : decode (ch_bc m_l_meanChalk) 9 = .ok (.dreturn, 1) := by decide +kernel
theorem d_l_account_0 : decode (ch_bc m_l_account) 0 = .ok (.aload_n 0, 1) := by decide +kernel
theorem d_l_account_1 : decode (ch_bc m_l_account) 1 = .ok (.iload_n 1, 1) := by decide +kernel
theorem d_l_account_2 : decode (ch_bc m_l_account) 2 = .ok (.invokevirtual 112, 3) := by decide +kernel
theorem d_l_account_5 : decode (ch_bc m_l_account) 5 = .ok (.ireturn, 1) := by decide +kernel
theorem d_l_account_6 : decode (ch_bc m_l_account) 6 = .ok (.astore_n 2, 1) := by decide +kernel
theorem d_l_account_7 : decode (ch_bc m_l_account) 7 = .ok (.sipush (-1001), 3) := by decide +kernel
theorem d_l_account_10 : decode (ch_bc m_l_account) 10 = .ok (.ireturn, 1) := by decide +kernel
theorem d_l_undo_0 : decode (ch_bc m_l_undo) 0 = .ok (.aload_n 0, 1) := by decide +kernel
theorem d_l_undo_1 : decode (ch_bc m_l_undo) 1 = .ok (.invokevirtual 115, 3) := by decide +kernel
theorem d_l_undo_4 : decode (ch_bc m_l_undo) 4 = .ok (.ireturn, 1) := by decide +kernel
theorem d_l_undo_5 : decode (ch_bc m_l_undo) 5 = .ok (.astore_n 1, 1) := by decide +kernel
theorem d_l_undo_6 : decode (ch_bc m_l_undo) 6 = .ok (.sipush (-1001), 3) := by decide +kernel
theorem d_l_undo_9 : decode (ch_bc m_l_undo) 9 = .ok (.ireturn, 1) := by decide +kernel
theorem d_l_restore_0 : decode (ch_bc m_l_restore) 0 = .ok (.aload_n 0, 1) := by decide +kernel
theorem d_l_restore_1 : decode (ch_bc m_l_restore) 1 = .ok (.invokevirtual 118, 3) := by decide +kernel
theorem d_l_restore_4 : decode (ch_bc m_l_restore) 4 = .ok (.ireturn, 1) := by decide +kernel
theorem d_l_restore_5 : decode (ch_bc m_l_restore) 5 = .ok (.astore_n 1, 1) := by decide +kernel
theorem d_l_restore_6 : decode (ch_bc m_l_restore) 6 = .ok (.sipush (-1001), 3) := by decide +kernel
theorem d_l_restore_9 : decode (ch_bc m_l_restore) 9 = .ok (.ireturn, 1) := by decide +kernel
theorem d_l_runs_0 : decode (ch_bc m_l_runs) 0 = .ok (.iconst 0, 1) := by decide +kernel
theorem d_l_runs_1 : decode (ch_bc m_l_runs) 1 = .ok (.istore_n 2, 1) := by decide +kernel
theorem d_l_runs_2 : decode (ch_bc m_l_runs) 2 = .ok (.iload_n 2, 1) := by decide +kernel
theorem d_l_runs_3 : decode (ch_bc m_l_runs) 3 = .ok (.aload_n 1, 1) := by decide +kernel
theorem d_l_runs_4 : decode (ch_bc m_l_runs) 4 = .ok (.invokevirtual 121, 3) := by decide +kernel
theorem d_l_runs_7 : decode (ch_bc m_l_runs) 7 = .ok (.if_icmp .ge 28, 3) := by decide +kernel
theorem d_l_runs_10 : decode (ch_bc m_l_runs) 10 = .ok (.aload_n 0, 1) := by decide +kernel
theorem d_l_runs_11 : decode (ch_bc m_l_runs) 11 = .ok (.aload_n 1, 1) := by decide +kernel
theorem d_l_runs_12 : decode (ch_bc m_l_runs) 12 = .ok (.iload_n 2, 1) := by decide +kernel
theorem d_l_runs_13 : decode (ch_bc m_l_runs) 13 = .ok (.invokevirtual 126, 3) := by decide +kernel
theorem d_l_runs_16 : decode (ch_bc m_l_runs) 16 = .ok (.invokestatic 129, 3) := by decide +kernel
theorem d_l_runs_19 : decode (ch_bc m_l_runs) 19 = .ok (.iload_n 2, 1) := by decide +kernel
theorem d_l_runs_20 : decode (ch_bc m_l_runs) 20 = .ok (.iconst 1, 1) := by decide +kernel
theorem d_l_runs_21 : decode (ch_bc m_l_runs) 21 = .ok (.iadd, 1) := by decide +kernel
theorem d_l_runs_22 : decode (ch_bc m_l_runs) 22 = .ok (.if_icmp .eq 7, 3) := by decide +kernel
theorem d_l_runs_25 : decode (ch_bc m_l_runs) 25 = .ok (.sipush (-9999), 3) := by decide +kernel
theorem d_l_runs_28 : decode (ch_bc m_l_runs) 28 = .ok (.ireturn, 1) := by decide +kernel
theorem d_l_runs_29 : decode (ch_bc m_l_runs) 29 = .ok (.iinc 2 1, 3) := by decide +kernel
theorem d_l_runs_32 : decode (ch_bc m_l_runs) 32 = .ok (.goto (-30), 3) := by decide +kernel
theorem d_l_runs_35 : decode (ch_bc m_l_runs) 35 = .ok (.aload_n 0, 1) := by decide +kernel
theorem d_l_runs_36 : decode (ch_bc m_l_runs) 36 = .ok (.invokestatic 134, 3) := by decide +kernel
theorem d_l_runs_39 : decode (ch_bc m_l_runs) 39 = .ok (.ireturn, 1) := by decide +kernel
theorem d_l_is_0 : decode (ch_bc m_l_is) 0 = .ok (.aload_n 0, 1) := by decide +kernel
theorem d_l_is_1 : decode (ch_bc m_l_is) 1 = .ok (.iconst 0, 1) := by decide +kernel
theorem d_l_is_2 : decode (ch_bc m_l_is) 2 = .ok (.iload_n 1, 1) := by decide +kernel
theorem d_l_is_3 : decode (ch_bc m_l_is) 3 = .ok (.iload_n 2, 1) := by decide +kernel
theorem d_l_is_4 : decode (ch_bc m_l_is) 4 = .ok (.invokestatic 137, 3) := by decide +kernel
theorem d_l_is_7 : decode (ch_bc m_l_is) 7 = .ok (.ireturn, 1) := by decide +kernel
theorem d_l_isAt_0 : decode (ch_bc m_l_isAt) 0 = .ok (.aload_n 0, 1) := by decide +kernel
theorem d_l_isAt_1 : decode (ch_bc m_l_isAt) 1 = .ok (.iconst 0, 1) := by decide +kernel
theorem d_l_isAt_2 : decode (ch_bc m_l_isAt) 2 = .ok (.invokestatic 141, 3) := by decide +kernel
theorem d_l_isAt_5 : decode (ch_bc m_l_isAt) 5 = .ok (.iload_n 2, 1) := by decide +kernel
theorem d_l_isAt_6 : decode (ch_bc m_l_isAt) 6 = .ok (.if_icmp .ne 36, 3) := by decide +kernel
theorem d_l_isAt_9 : decode (ch_bc m_l_isAt) 9 = .ok (.aload_n 0, 1) := by decide +kernel
theorem d_l_isAt_10 : decode (ch_bc m_l_isAt) 10 = .ok (.iconst 1, 1) := by decide +kernel
theorem d_l_isAt_11 : decode (ch_bc m_l_isAt) 11 = .ok (.invokestatic 141, 3) := by decide +kernel
theorem d_l_isAt_14 : decode (ch_bc m_l_isAt) 14 = .ok (.iload_n 3, 1) := by decide +kernel
theorem d_l_isAt_15 : decode (ch_bc m_l_isAt) 15 = .ok (.if_icmp .ne 27, 3) := by decide +kernel
theorem d_l_isAt_18 : decode (ch_bc m_l_isAt) 18 = .ok (.aload_n 0, 1) := by decide +kernel
theorem d_l_isAt_19 : decode (ch_bc m_l_isAt) 19 = .ok (.iconst 2, 1) := by decide +kernel
theorem d_l_isAt_20 : decode (ch_bc m_l_isAt) 20 = .ok (.invokestatic 141, 3) := by decide +kernel
theorem d_l_isAt_23 : decode (ch_bc m_l_isAt) 23 = .ok (.iload_n 1, 1) := by decide +kernel
theorem d_l_isAt_24 : decode (ch_bc m_l_isAt) 24 = .ok (.if_icmp .ne 18, 3) := by decide +kernel
theorem d_l_isAt_27 : decode (ch_bc m_l_isAt) 27 = .ok (.aload_n 0, 1) := by decide +kernel
theorem d_l_isAt_28 : decode (ch_bc m_l_isAt) 28 = .ok (.iconst 3, 1) := by decide +kernel
theorem d_l_isAt_29 : decode (ch_bc m_l_isAt) 29 = .ok (.invokestatic 141, 3) := by decide +kernel
theorem d_l_isAt_32 : decode (ch_bc m_l_isAt) 32 = .ok (.sipush (-1001), 3) := by decide +kernel
theorem d_l_isAt_35 : decode (ch_bc m_l_isAt) 35 = .ok (.if_icmp .ne 7, 3) := by decide +kernel
theorem d_l_isAt_38 : decode (ch_bc m_l_isAt) 38 = .ok (.iconst 1, 1) := by decide +kernel
theorem d_l_isAt_39 : decode (ch_bc m_l_isAt) 39 = .ok (.goto 4, 3) := by decide +kernel
theorem d_l_isAt_42 : decode (ch_bc m_l_isAt) 42 = .ok (.iconst 0, 1) := by decide +kernel
theorem d_l_isAt_43 : decode (ch_bc m_l_isAt) 43 = .ok (.ireturn, 1) := by decide +kernel
theorem d_l_steps_0 : decode (ch_bc m_l_steps) 0 = .ok (.iconst (-1), 1) := by decide +kernel
theorem d_l_steps_1 : decode (ch_bc m_l_steps) 1 = .ok (.istore_n 1, 1) := by decide +kernel
theorem d_l_steps_2 : decode (ch_bc m_l_steps) 2 = .ok (.iconst 0, 1) := by decide +kernel
theorem d_l_steps_3 : decode (ch_bc m_l_steps) 3 = .ok (.istore_n 2, 1) := by decide +kernel
theorem d_l_steps_4 : decode (ch_bc m_l_steps) 4 = .ok (.iload_n 0, 1) := by decide +kernel
theorem d_l_steps_5 : decode (ch_bc m_l_steps) 5 = .ok (.istore_n 3, 1) := by decide +kernel
theorem d_l_steps_6 : decode (ch_bc m_l_steps) 6 = .ok (.iconst 0, 1) := by decide +kernel
theorem d_l_steps_7 : decode (ch_bc m_l_steps) 7 = .ok (.istore 4, 2) := by decide +kernel
theorem d_l_steps_9 : decode (ch_bc m_l_steps) 9 = .ok (.iload_n 1, 1) := by decide +kernel
theorem d_l_steps_10 : decode (ch_bc m_l_steps) 10 = .ok (.bipush 11, 2) := by decide +kernel
theorem d_l_steps_12 : decode (ch_bc m_l_steps) 12 = .ok (.if_icmp .ge 44, 3) := by decide +kernel
theorem d_l_steps_15 : decode (ch_bc m_l_steps) 15 = .ok (.iconst 1, 1) := by decide +kernel
theorem d_l_steps_16 : decode (ch_bc m_l_steps) 16 = .ok (.iload_n 3, 1) := by decide +kernel
theorem d_l_steps_17 : decode (ch_bc m_l_steps) 17 = .ok (.iconst 3, 1) := by decide +kernel
theorem d_l_steps_18 : decode (ch_bc m_l_steps) 18 = .ok (.invokestatic 146, 3) := by decide +kernel
theorem d_l_steps_21 : decode (ch_bc m_l_steps) 21 = .ok (.iadd, 1) := by decide +kernel
theorem d_l_steps_22 : decode (ch_bc m_l_steps) 22 = .ok (.istore 5, 2) := by decide +kernel
theorem d_l_steps_24 : decode (ch_bc m_l_steps) 24 = .ok (.iload 4, 2) := by decide +kernel
theorem d_l_steps_26 : decode (ch_bc m_l_steps) 26 = .ok (.iconst 3, 1) := by decide +kernel
theorem d_l_steps_27 : decode (ch_bc m_l_steps) 27 = .ok (.if_icmp .le 6, 3) := by decide +kernel
theorem d_l_steps_30 : decode (ch_bc m_l_steps) 30 = .ok (.iconst 3, 1) := by decide +kernel
theorem d_l_steps_31 : decode (ch_bc m_l_steps) 31 = .ok (.istore 5, 2) := by decide +kernel
theorem d_l_steps_33 : decode (ch_bc m_l_steps) 33 = .ok (.iload_n 1, 1) := by decide +kernel
theorem d_l_steps_34 : decode (ch_bc m_l_steps) 34 = .ok (.iload 5, 2) := by decide +kernel
theorem d_l_steps_36 : decode (ch_bc m_l_steps) 36 = .ok (.iadd, 1) := by decide +kernel
theorem d_l_steps_37 : decode (ch_bc m_l_steps) 37 = .ok (.istore_n 1, 1) := by decide +kernel
theorem d_l_steps_38 : decode (ch_bc m_l_steps) 38 = .ok (.bipush 10, 2) := by decide +kernel
theorem d_l_steps_40 : decode (ch_bc m_l_steps) 40 = .ok (.iload_n 2, 1) := by decide +kernel
theorem d_l_steps_41 : decode (ch_bc m_l_steps) 41 = .ok (.imul, 1) := by decide +kernel
theorem d_l_steps_42 : decode (ch_bc m_l_steps) 42 = .ok (.iload 5, 2) := by decide +kernel
theorem d_l_steps_44 : decode (ch_bc m_l_steps) 44 = .ok (.iadd, 1) := by decide +kernel
theorem d_l_steps_45 : decode (ch_bc m_l_steps) 45 = .ok (.istore_n 2, 1) := by decide +kernel
theorem d_l_steps_46 : decode (ch_bc m_l_steps) 46 = .ok (.iload_n 3, 1) := by decide +kernel
theorem d_l_steps_47 : decode (ch_bc m_l_steps) 47 = .ok (.iconst 2, 1) := by decide +kernel
theorem d_l_steps_48 : decode (ch_bc m_l_steps) 48 = .ok (.ishr, 1) := by decide +kernel
theorem d_l_steps_49 : decode (ch_bc m_l_steps) 49 = .ok (.istore_n 3, 1) := by decide +kernel
theorem d_l_steps_50 : decode (ch_bc m_l_steps) 50 = .ok (.iinc 4 1, 3) := by decide +kernel
theorem d_l_steps_53 : decode (ch_bc m_l_steps) 53 = .ok (.goto (-44), 3) := by decide +kernel
theorem d_l_steps_56 : decode (ch_bc m_l_steps) 56 = .ok (.iload_n 2, 1) := by decide +kernel
theorem d_l_steps_57 : decode (ch_bc m_l_steps) 57 = .ok (.ireturn, 1) := by decide +kernel
theorem d_l_makes_0 : decode (ch_bc m_l_makes) 0 = .ok (.iconst 2, 1) := by decide +kernel
theorem d_l_makes_1 : decode (ch_bc m_l_makes) 1 = .ok (.aload_n 1, 1) := by decide +kernel
theorem d_l_makes_2 : decode (ch_bc m_l_makes) 2 = .ok (.iconst 0, 1) := by decide +kernel
theorem d_l_makes_3 : decode (ch_bc m_l_makes) 3 = .ok (.invokestatic 149, 3) := by decide +kernel
theorem d_l_makes_6 : decode (ch_bc m_l_makes) 6 = .ok (.iconst 4, 1) := by decide +kernel
theorem d_l_makes_7 : decode (ch_bc m_l_makes) 7 = .ok (.invokestatic 146, 3) := by decide +kernel
theorem d_l_makes_10 : decode (ch_bc m_l_makes) 10 = .ok (.iadd, 1) := by decide +kernel
theorem d_l_makes_11 : decode (ch_bc m_l_makes) 11 = .ok (.istore_n 2, 1) := by decide +kernel
theorem d_l_makes_12 : decode (ch_bc m_l_makes) 12 = .ok (.iconst 0, 1) := by decide +kernel
theorem d_l_makes_13 : decode (ch_bc m_l_makes) 13 = .ok (.istore_n 3, 1) := by decide +kernel
theorem d_l_makes_14 : decode (ch_bc m_l_makes) 14 = .ok (.iload_n 3, 1) := by decide +kernel
theorem d_l_makes_15 : decode (ch_bc m_l_makes) 15 = .ok (.iload_n 2, 1) := by decide +kernel
theorem d_l_makes_16 : decode (ch_bc m_l_makes) 16 = .ok (.if_icmp .ge 33, 3) := by decide +kernel
theorem d_l_makes_19 : decode (ch_bc m_l_makes) 19 = .ok (.aload_n 0, 1) := by decide +kernel
theorem d_l_makes_20 : decode (ch_bc m_l_makes) 20 = .ok (.iconst 3, 1) := by decide +kernel
theorem d_l_makes_21 : decode (ch_bc m_l_makes) 21 = .ok (.aload_n 1, 1) := by decide +kernel
theorem d_l_makes_22 : decode (ch_bc m_l_makes) 22 = .ok (.iconst 1, 1) := by decide +kernel
theorem d_l_makes_23 : decode (ch_bc m_l_makes) 23 = .ok (.iload_n 3, 1) := by decide +kernel
theorem d_l_makes_24 : decode (ch_bc m_l_makes) 24 = .ok (.iadd, 1) := by decide +kernel
theorem d_l_makes_25 : decode (ch_bc m_l_makes) 25 = .ok (.invokestatic 149, 3) := by decide +kernel
theorem d_l_makes_28 : decode (ch_bc m_l_makes) 28 = .ok (.bipush 20, 2) := by decide +kernel
theorem d_l_makes_30 : decode (ch_bc m_l_makes) 30 = .ok (.invokestatic 146, 3) := by decide +kernel
theorem d_l_makes_33 : decode (ch_bc m_l_makes) 33 = .ok (.iadd, 1) := by decide +kernel
theorem d_l_makes_34 : decode (ch_bc m_l_makes) 34 = .ok (.invokestatic 153, 3) := by decide +kernel
theorem d_l_makes_37 : decode (ch_bc m_l_makes) 37 = .ok (.iload_n 3, 1) := by decide +kernel
theorem d_l_makes_38 : decode (ch_bc m_l_makes) 38 = .ok (.if_icmp .eq 5, 3) := by decide +kernel
theorem d_l_makes_41 : decode (ch_bc m_l_makes) 41 = .ok (.iconst 0, 1) := by decide +kernel
theorem d_l_makes_42 : decode (ch_bc m_l_makes) 42 = .ok (.ireturn, 1) := by decide +kernel
theorem d_l_makes_43 : decode (ch_bc m_l_makes) 43 = .ok (.iinc 3 1, 3) := by decide +kernel
theorem d_l_makes_46 : decode (ch_bc m_l_makes) 46 = .ok (.goto (-32), 3) := by decide +kernel
theorem d_l_makes_49 : decode (ch_bc m_l_makes) 49 = .ok (.iconst 0, 1) := by decide +kernel
theorem d_l_makes_50 : decode (ch_bc m_l_makes) 50 = .ok (.istore_n 3, 1) := by decide +kernel
theorem d_l_makes_51 : decode (ch_bc m_l_makes) 51 = .ok (.iload_n 3, 1) := by decide +kernel
theorem d_l_makes_52 : decode (ch_bc m_l_makes) 52 = .ok (.bipush 12, 2) := by decide +kernel
theorem d_l_makes_54 : decode (ch_bc m_l_makes) 54 = .ok (.if_icmp .ge 84, 3) := by decide +kernel
theorem d_l_makes_57 : decode (ch_bc m_l_makes) 57 = .ok (.aload_n 1, 1) := by decide +kernel
theorem d_l_makes_58 : decode (ch_bc m_l_makes) 58 = .ok (.bipush 6, 2) := by decide +kernel
theorem d_l_makes_60 : decode (ch_bc m_l_makes) 60 = .ok (.iload_n 3, 1) := by decide +kernel
theorem d_l_makes_61 : decode (ch_bc m_l_makes) 61 = .ok (.iadd, 1) := by decide +kernel
theorem d_l_makes_62 : decode (ch_bc m_l_makes) 62 = .ok (.invokestatic 149, 3) := by decide +kernel
theorem d_l_makes_65 : decode (ch_bc m_l_makes) 65 = .ok (.istore 4, 2) := by decide +kernel
theorem d_l_makes_67 : decode (ch_bc m_l_makes) 67 = .ok (.aload_n 0, 1) := by decide +kernel
theorem d_l_makes_68 : decode (ch_bc m_l_makes) 68 = .ok (.iload 4, 2) := by decide +kernel
theorem d_l_makes_70 : decode (ch_bc m_l_makes) 70 = .ok (.iload_n 2, 1) := by decide +kernel
theorem d_l_makes_71 : decode (ch_bc m_l_makes) 71 = .ok (.invokestatic 146, 3) := by decide +kernel
theorem d_l_makes_74 : decode (ch_bc m_l_makes) 74 = .ok (.iload 4, 2) := by decide +kernel
theorem d_l_makes_76 : decode (ch_bc m_l_makes) 76 = .ok (.iconst 4, 1) := by decide +kernel
theorem d_l_makes_77 : decode (ch_bc m_l_makes) 77 = .ok (.ishr, 1) := by decide +kernel
theorem d_l_makes_78 : decode (ch_bc m_l_makes) 78 = .ok (.bipush 12, 2) := by decide +kernel
theorem d_l_makes_80 : decode (ch_bc m_l_makes) 80 = .ok (.invokestatic 146, 3) := by decide +kernel
theorem d_l_makes_83 : decode (ch_bc m_l_makes) 83 = .ok (.invokestatic 155, 3) := by decide +kernel
theorem d_l_makes_86 : decode (ch_bc m_l_makes) 86 = .ok (.istore 5, 2) := by decide +kernel
theorem d_l_makes_88 : decode (ch_bc m_l_makes) 88 = .ok (.iload 5, 2) := by decide +kernel
theorem d_l_makes_90 : decode (ch_bc m_l_makes) 90 = .ok (.iconst 5, 1) := by decide +kernel
theorem d_l_makes_91 : decode (ch_bc m_l_makes) 91 = .ok (.if_icmp .ge 41, 3) := by decide +kernel
theorem d_l_makes_94 : decode (ch_bc m_l_makes) 94 = .ok (.iload 5, 2) := by decide +kernel
theorem d_l_makes_96 : decode (ch_bc m_l_makes) 96 = .ok (.sipush (-1001), 3) := by decide +kernel
theorem d_l_makes_99 : decode (ch_bc m_l_makes) 99 = .ok (.if_icmp .ne 31, 3) := by decide +kernel
theorem d_l_makes_102 : decode (ch_bc m_l_makes) 102 = .ok (.aload_n 0, 1) := by decide +kernel
theorem d_l_makes_103 : decode (ch_bc m_l_makes) 103 = .ok (.iconst 0, 1) := by decide +kernel
theorem d_l_makes_104 : decode (ch_bc m_l_makes) 104 = .ok (.invokestatic 141, 3) := by decide +kernel
theorem d_l_makes_107 : decode (ch_bc m_l_makes) 107 = .ok (.iconst 4, 1) := by decide +kernel
theorem d_l_makes_108 : decode (ch_bc m_l_makes) 108 = .ok (.if_icmp .eq 24, 3) := by decide +kernel
theorem d_l_makes_111 : decode (ch_bc m_l_makes) 111 = .ok (.aload_n 0, 1) := by decide +kernel
theorem d_l_makes_112 : decode (ch_bc m_l_makes) 112 = .ok (.iconst 0, 1) := by decide +kernel
theorem d_l_makes_113 : decode (ch_bc m_l_makes) 113 = .ok (.invokestatic 141, 3) := by decide +kernel
theorem d_l_makes_116 : decode (ch_bc m_l_makes) 116 = .ok (.iconst 5, 1) := by decide +kernel
theorem d_l_makes_117 : decode (ch_bc m_l_makes) 117 = .ok (.if_icmp .eq 15, 3) := by decide +kernel
theorem d_l_makes_120 : decode (ch_bc m_l_makes) 120 = .ok (.aload_n 0, 1) := by decide +kernel
theorem d_l_makes_121 : decode (ch_bc m_l_makes) 121 = .ok (.iconst 0, 1) := by decide +kernel
theorem d_l_makes_122 : decode (ch_bc m_l_makes) 122 = .ok (.invokestatic 141, 3) := by decide +kernel
theorem d_l_makes_125 : decode (ch_bc m_l_makes) 125 = .ok (.bipush 6, 2) := by decide +kernel
theorem d_l_makes_127 : decode (ch_bc m_l_makes) 127 = .ok (.if_icmp .eq 5, 3) := by decide +kernel
theorem d_l_makes_130 : decode (ch_bc m_l_makes) 130 = .ok (.iconst 0, 1) := by decide +kernel
theorem d_l_makes_131 : decode (ch_bc m_l_makes) 131 = .ok (.ireturn, 1) := by decide +kernel
theorem d_l_makes_132 : decode (ch_bc m_l_makes) 132 = .ok (.iinc 3 1, 3) := by decide +kernel
theorem d_l_makes_135 : decode (ch_bc m_l_makes) 135 = .ok (.goto (-84), 3) := by decide +kernel
theorem d_l_makes_138 : decode (ch_bc m_l_makes) 138 = .ok (.iconst 0, 1) := by decide +kernel
theorem d_l_makes_139 : decode (ch_bc m_l_makes) 139 = .ok (.istore_n 3, 1) := by decide +kernel
theorem d_l_makes_140 : decode (ch_bc m_l_makes) 140 = .ok (.iload_n 3, 1) := by decide +kernel
theorem d_l_makes_141 : decode (ch_bc m_l_makes) 141 = .ok (.iconst 5, 1) := by decide +kernel
theorem d_l_makes_142 : decode (ch_bc m_l_makes) 142 = .ok (.if_icmp .ge 43, 3) := by decide +kernel
theorem d_l_makes_145 : decode (ch_bc m_l_makes) 145 = .ok (.aload_n 0, 1) := by decide +kernel
theorem d_l_makes_146 : decode (ch_bc m_l_makes) 146 = .ok (.aload_n 1, 1) := by decide +kernel
theorem d_l_makes_147 : decode (ch_bc m_l_makes) 147 = .ok (.bipush 18, 2) := by decide +kernel
theorem d_l_makes_149 : decode (ch_bc m_l_makes) 149 = .ok (.iload_n 3, 1) := by decide +kernel
theorem d_l_makes_150 : decode (ch_bc m_l_makes) 150 = .ok (.iadd, 1) := by decide +kernel
theorem d_l_makes_151 : decode (ch_bc m_l_makes) 151 = .ok (.invokestatic 149, 3) := by decide +kernel
theorem d_l_makes_154 : decode (ch_bc m_l_makes) 154 = .ok (.iload_n 2, 1) := by decide +kernel
theorem d_l_makes_155 : decode (ch_bc m_l_makes) 155 = .ok (.invokestatic 146, 3) := by decide +kernel
theorem d_l_makes_158 : decode (ch_bc m_l_makes) 158 = .ok (.aload_n 1, 1) := by decide +kernel
theorem d_l_makes_159 : decode (ch_bc m_l_makes) 159 = .ok (.bipush 18, 2) := by decide +kernel
theorem d_l_makes_161 : decode (ch_bc m_l_makes) 161 = .ok (.iload_n 3, 1) := by decide +kernel
theorem d_l_makes_162 : decode (ch_bc m_l_makes) 162 = .ok (.iadd, 1) := by decide +kernel
theorem d_l_makes_163 : decode (ch_bc m_l_makes) 163 = .ok (.invokestatic 149, 3) := by decide +kernel
theorem d_l_makes_166 : decode (ch_bc m_l_makes) 166 = .ok (.iconst 3, 1) := by decide +kernel
theorem d_l_makes_167 : decode (ch_bc m_l_makes) 167 = .ok (.ishr, 1) := by decide +kernel
theorem d_l_makes_168 : decode (ch_bc m_l_makes) 168 = .ok (.invokestatic 158, 3) := by decide +kernel
theorem d_l_makes_171 : decode (ch_bc m_l_makes) 171 = .ok (.invokestatic 161, 3) := by decide +kernel
theorem d_l_makes_174 : decode (ch_bc m_l_makes) 174 = .ok (.ifCond .ge 5, 3) := by decide +kernel
theorem d_l_makes_177 : decode (ch_bc m_l_makes) 177 = .ok (.iconst 0, 1) := by decide +kernel
theorem d_l_makes_178 : decode (ch_bc m_l_makes) 178 = .ok (.ireturn, 1) := by decide +kernel
theorem d_l_makes_179 : decode (ch_bc m_l_makes) 179 = .ok (.iinc 3 1, 3) := by decide +kernel
theorem d_l_makes_182 : decode (ch_bc m_l_makes) 182 = .ok (.goto (-42), 3) := by decide +kernel
theorem d_l_makes_185 : decode (ch_bc m_l_makes) 185 = .ok (.aload_n 0, 1) := by decide +kernel
theorem d_l_makes_186 : decode (ch_bc m_l_makes) 186 = .ok (.aload_n 1, 1) := by decide +kernel
theorem d_l_makes_187 : decode (ch_bc m_l_makes) 187 = .ok (.bipush 23, 2) := by decide +kernel
theorem d_l_makes_189 : decode (ch_bc m_l_makes) 189 = .ok (.invokestatic 149, 3) := by decide +kernel
theorem d_l_makes_192 : decode (ch_bc m_l_makes) 192 = .ok (.iload_n 2, 1) := by decide +kernel
theorem d_l_makes_193 : decode (ch_bc m_l_makes) 193 = .ok (.invokestatic 146, 3) := by decide +kernel
theorem d_l_makes_196 : decode (ch_bc m_l_makes) 196 = .ok (.invokestatic 163, 3) := by decide +kernel
theorem d_l_makes_199 : decode (ch_bc m_l_makes) 199 = .ok (.istore_n 3, 1) := by decide +kernel
theorem d_l_makes_200 : decode (ch_bc m_l_makes) 200 = .ok (.iload_n 3, 1) := by decide +kernel
theorem d_l_makes_201 : decode (ch_bc m_l_makes) 201 = .ok (.iconst 2, 1) := by decide +kernel
theorem d_l_makes_202 : decode (ch_bc m_l_makes) 202 = .ok (.if_icmp .gt 20, 3) := by decide +kernel
theorem d_l_makes_205 : decode (ch_bc m_l_makes) 205 = .ok (.iload_n 3, 1) := by decide +kernel
theorem d_l_makes_206 : decode (ch_bc m_l_makes) 206 = .ok (.sipush (-1001), 3) := by decide +kernel
theorem d_l_makes_209 : decode (ch_bc m_l_makes) 209 = .ok (.if_icmp .ne 17, 3) := by decide +kernel
theorem d_l_makes_212 : decode (ch_bc m_l_makes) 212 = .ok (.aload_n 0, 1) := by decide +kernel
theorem d_l_makes_213 : decode (ch_bc m_l_makes) 213 = .ok (.iconst 0, 1) := by decide +kernel
theorem d_l_makes_214 : decode (ch_bc m_l_makes) 214 = .ok (.invokestatic 141, 3) := by decide +kernel
theorem d_l_makes_217 : decode (ch_bc m_l_makes) 217 = .ok (.bipush 9, 2) := by decide +kernel
theorem d_l_makes_219 : decode (ch_bc m_l_makes) 219 = .ok (.if_icmp .ne 7, 3) := by decide +kernel
theorem d_l_makes_222 : decode (ch_bc m_l_makes) 222 = .ok (.iconst 1, 1) := by decide +kernel
theorem d_l_makes_223 : decode (ch_bc m_l_makes) 223 = .ok (.goto 4, 3) := by decide +kernel
theorem d_l_makes_226 : decode (ch_bc m_l_makes) 226 = .ok (.iconst 0, 1) := by decide +kernel
theorem d_l_makes_227 : decode (ch_bc m_l_makes) 227 = .ok (.ireturn, 1) := by decide +kernel
theorem d_l_asks_0 : decode (ch_bc m_l_asks) 0 = .ok (.ldc2_w 165, 3) := by decide +kernel
theorem d_l_asks_3 : decode (ch_bc m_l_asks) 3 = .ok (.aload_n 0, 1) := by decide +kernel
theorem d_l_asks_4 : decode (ch_bc m_l_asks) 4 = .ok (.invokestatic 167, 3) := by decide +kernel
theorem d_l_asks_7 : decode (ch_bc m_l_asks) 7 = .ok (.invokestatic 170, 3) := by decide +kernel
theorem d_l_asks_10 : decode (ch_bc m_l_asks) 10 = .ok (.lmul, 1) := by decide +kernel
theorem d_l_asks_11 : decode (ch_bc m_l_asks) 11 = .ok (.aload_n 0, 1) := by decide +kernel
theorem d_l_asks_12 : decode (ch_bc m_l_asks) 12 = .ok (.invokevirtual 176, 3) := by decide +kernel
theorem d_l_asks_15 : decode (ch_bc m_l_asks) 15 = .ok (.invokestatic 180, 3) := by decide +kernel
theorem d_l_asks_18 : decode (ch_bc m_l_asks) 18 = .ok (.i2l, 1) := by decide +kernel
theorem d_l_asks_19 : decode (ch_bc m_l_asks) 19 = .ok (.ladd, 1) := by decide +kernel
theorem d_l_asks_20 : decode (ch_bc m_l_asks) 20 = .ok (.lstore_n 1, 1) := by decide +kernel
theorem d_l_asks_21 : decode (ch_bc m_l_asks) 21 = .ok (.iconst 0, 1) := by decide +kernel
theorem d_l_asks_22 : decode (ch_bc m_l_asks) 22 = .ok (.istore_n 3, 1) := by decide +kernel
theorem d_l_asks_23 : decode (ch_bc m_l_asks) 23 = .ok (.iload_n 3, 1) := by decide +kernel
theorem d_l_asks_24 : decode (ch_bc m_l_asks) 24 = .ok (.bipush 10, 2) := by decide +kernel
theorem d_l_asks_26 : decode (ch_bc m_l_asks) 26 = .ok (.if_icmp .ge 22, 3) := by decide +kernel
theorem d_l_asks_29 : decode (ch_bc m_l_asks) 29 = .ok (.ldc2_w 165, 3) := by decide +kernel
theorem d_l_asks_32 : decode (ch_bc m_l_asks) 32 = .ok (.lload_n 1, 1) := by decide +kernel
theorem d_l_asks_33 : decode (ch_bc m_l_asks) 33 = .ok (.lmul, 1) := by decide +kernel
theorem d_l_asks_34 : decode (ch_bc m_l_asks) 34 = .ok (.aload_n 0, 1) := by decide +kernel
theorem d_l_asks_35 : decode (ch_bc m_l_asks) 35 = .ok (.iload_n 3, 1) := by decide +kernel
theorem d_l_asks_36 : decode (ch_bc m_l_asks) 36 = .ok (.invokestatic 186, 3) := by decide +kernel
theorem d_l_asks_39 : decode (ch_bc m_l_asks) 39 = .ok (.i2l, 1) := by decide +kernel
theorem d_l_asks_40 : decode (ch_bc m_l_asks) 40 = .ok (.ladd, 1) := by decide +kernel
theorem d_l_asks_41 : decode (ch_bc m_l_asks) 41 = .ok (.lstore_n 1, 1) := by decide +kernel
theorem d_l_asks_42 : decode (ch_bc m_l_asks) 42 = .ok (.iinc 3 1, 3) := by decide +kernel
theorem d_l_asks_45 : decode (ch_bc m_l_asks) 45 = .ok (.goto (-22), 3) := by decide +kernel
theorem d_l_asks_48 : decode (ch_bc m_l_asks) 48 = .ok (.iconst 0, 1) := by decide +kernel
theorem d_l_asks_49 : decode (ch_bc m_l_asks) 49 = .ok (.istore_n 3, 1) := by decide +kernel
theorem d_l_asks_50 : decode (ch_bc m_l_asks) 50 = .ok (.iload_n 3, 1) := by decide +kernel
theorem d_l_asks_51 : decode (ch_bc m_l_asks) 51 = .ok (.aload_n 0, 1) := by decide +kernel
theorem d_l_asks_52 : decode (ch_bc m_l_asks) 52 = .ok (.iconst 0, 1) := by decide +kernel
theorem d_l_asks_53 : decode (ch_bc m_l_asks) 53 = .ok (.invokestatic 186, 3) := by decide +kernel
theorem d_l_asks_56 : decode (ch_bc m_l_asks) 56 = .ok (.if_icmp .ge 182, 3) := by decide +kernel
theorem d_l_asks_59 : decode (ch_bc m_l_asks) 59 = .ok (.iconst 0, 1) := by decide +kernel
theorem d_l_asks_60 : decode (ch_bc m_l_asks) 60 = .ok (.istore 4, 2) := by decide +kernel
theorem d_l_asks_62 : decode (ch_bc m_l_asks) 62 = .ok (.iload 4, 2) := by decide +kernel
theorem d_l_asks_64 : decode (ch_bc m_l_asks) 64 = .ok (.bipush 7, 2) := by decide +kernel
theorem d_l_asks_66 : decode (ch_bc m_l_asks) 66 = .ok (.if_icmp .ge 24, 3) := by decide +kernel
theorem d_l_asks_69 : decode (ch_bc m_l_asks) 69 = .ok (.ldc2_w 165, 3) := by decide +kernel
theorem d_l_asks_72 : decode (ch_bc m_l_asks) 72 = .ok (.lload_n 1, 1) := by decide +kernel
theorem d_l_asks_73 : decode (ch_bc m_l_asks) 73 = .ok (.lmul, 1) := by decide +kernel
theorem d_l_asks_74 : decode (ch_bc m_l_asks) 74 = .ok (.aload_n 0, 1) := by decide +kernel
theorem d_l_asks_75 : decode (ch_bc m_l_asks) 75 = .ok (.iload_n 3, 1) := by decide +kernel
theorem d_l_asks_76 : decode (ch_bc m_l_asks) 76 = .ok (.iload 4, 2) := by decide +kernel
theorem d_l_asks_78 : decode (ch_bc m_l_asks) 78 = .ok (.invokestatic 188, 3) := by decide +kernel
theorem d_l_asks_81 : decode (ch_bc m_l_asks) 81 = .ok (.i2l, 1) := by decide +kernel
theorem d_l_asks_82 : decode (ch_bc m_l_asks) 82 = .ok (.ladd, 1) := by decide +kernel
theorem d_l_asks_83 : decode (ch_bc m_l_asks) 83 = .ok (.lstore_n 1, 1) := by decide +kernel
theorem d_l_asks_84 : decode (ch_bc m_l_asks) 84 = .ok (.iinc 4 1, 3) := by decide +kernel
theorem d_l_asks_87 : decode (ch_bc m_l_asks) 87 = .ok (.goto (-25), 3) := by decide +kernel
theorem d_l_asks_90 : decode (ch_bc m_l_asks) 90 = .ok (.ldc2_w 165, 3) := by decide +kernel
theorem d_l_asks_93 : decode (ch_bc m_l_asks) 93 = .ok (.ldc2_w 165, 3) := by decide +kernel
theorem d_l_asks_96 : decode (ch_bc m_l_asks) 96 = .ok (.ldc2_w 165, 3) := by decide +kernel
theorem d_l_asks_99 : decode (ch_bc m_l_asks) 99 = .ok (.ldc2_w 165, 3) := by decide +kernel
theorem d_l_asks_102 : decode (ch_bc m_l_asks) 102 = .ok (.ldc2_w 165, 3) := by decide +kernel
theorem d_l_asks_105 : decode (ch_bc m_l_asks) 105 = .ok (.lload_n 1, 1) := by decide +kernel
theorem d_l_asks_106 : decode (ch_bc m_l_asks) 106 = .ok (.lmul, 1) := by decide +kernel
theorem d_l_asks_107 : decode (ch_bc m_l_asks) 107 = .ok (.aload_n 0, 1) := by decide +kernel
theorem d_l_asks_108 : decode (ch_bc m_l_asks) 108 = .ok (.iload_n 3, 1) := by decide +kernel
theorem d_l_asks_109 : decode (ch_bc m_l_asks) 109 = .ok (.invokestatic 191, 3) := by decide +kernel
theorem d_l_asks_112 : decode (ch_bc m_l_asks) 112 = .ok (.i2l, 1) := by decide +kernel
theorem d_l_asks_113 : decode (ch_bc m_l_asks) 113 = .ok (.ladd, 1) := by decide +kernel
theorem d_l_asks_114 : decode (ch_bc m_l_asks) 114 = .ok (.lmul, 1) := by decide +kernel
theorem d_l_asks_115 : decode (ch_bc m_l_asks) 115 = .ok (.aload_n 0, 1) := by decide +kernel
theorem d_l_asks_116 : decode (ch_bc m_l_asks) 116 = .ok (.iload_n 3, 1) := by decide +kernel
theorem d_l_asks_117 : decode (ch_bc m_l_asks) 117 = .ok (.invokestatic 193, 3) := by decide +kernel
theorem d_l_asks_120 : decode (ch_bc m_l_asks) 120 = .ok (.i2l, 1) := by decide +kernel
theorem d_l_asks_121 : decode (ch_bc m_l_asks) 121 = .ok (.ladd, 1) := by decide +kernel
theorem d_l_asks_122 : decode (ch_bc m_l_asks) 122 = .ok (.lmul, 1) := by decide +kernel
theorem d_l_asks_123 : decode (ch_bc m_l_asks) 123 = .ok (.aload_n 0, 1) := by decide +kernel
theorem d_l_asks_124 : decode (ch_bc m_l_asks) 124 = .ok (.iload_n 3, 1) := by decide +kernel
theorem d_l_asks_125 : decode (ch_bc m_l_asks) 125 = .ok (.invokestatic 195, 3) := by decide +kernel
theorem d_l_asks_128 : decode (ch_bc m_l_asks) 128 = .ok (.i2l, 1) := by decide +kernel
theorem d_l_asks_129 : decode (ch_bc m_l_asks) 129 = .ok (.ladd, 1) := by decide +kernel
theorem d_l_asks_130 : decode (ch_bc m_l_asks) 130 = .ok (.lmul, 1) := by decide +kernel
theorem d_l_asks_131 : decode (ch_bc m_l_asks) 131 = .ok (.aload_n 0, 1) := by decide +kernel
theorem d_l_asks_132 : decode (ch_bc m_l_asks) 132 = .ok (.iload_n 3, 1) := by decide +kernel
theorem d_l_asks_133 : decode (ch_bc m_l_asks) 133 = .ok (.invokestatic 197, 3) := by decide +kernel
theorem d_l_asks_136 : decode (ch_bc m_l_asks) 136 = .ok (.i2l, 1) := by decide +kernel
theorem d_l_asks_137 : decode (ch_bc m_l_asks) 137 = .ok (.ladd, 1) := by decide +kernel
theorem d_l_asks_138 : decode (ch_bc m_l_asks) 138 = .ok (.lmul, 1) := by decide +kernel
theorem d_l_asks_139 : decode (ch_bc m_l_asks) 139 = .ok (.aload_n 0, 1) := by decide +kernel
theorem d_l_asks_140 : decode (ch_bc m_l_asks) 140 = .ok (.iload_n 3, 1) := by decide +kernel
theorem d_l_asks_141 : decode (ch_bc m_l_asks) 141 = .ok (.invokestatic 199, 3) := by decide +kernel
theorem d_l_asks_144 : decode (ch_bc m_l_asks) 144 = .ok (.i2l, 1) := by decide +kernel
theorem d_l_asks_145 : decode (ch_bc m_l_asks) 145 = .ok (.ladd, 1) := by decide +kernel
theorem d_l_asks_146 : decode (ch_bc m_l_asks) 146 = .ok (.lstore_n 1, 1) := by decide +kernel
theorem d_l_asks_147 : decode (ch_bc m_l_asks) 147 = .ok (.ldc2_w 165, 3) := by decide +kernel
theorem d_l_asks_150 : decode (ch_bc m_l_asks) 150 = .ok (.ldc2_w 165, 3) := by decide +kernel
theorem d_l_asks_153 : decode (ch_bc m_l_asks) 153 = .ok (.lload_n 1, 1) := by decide +kernel
theorem d_l_asks_154 : decode (ch_bc m_l_asks) 154 = .ok (.lmul, 1) := by decide +kernel
theorem d_l_asks_155 : decode (ch_bc m_l_asks) 155 = .ok (.aload_n 0, 1) := by decide +kernel
theorem d_l_asks_156 : decode (ch_bc m_l_asks) 156 = .ok (.iload_n 3, 1) := by decide +kernel
theorem d_l_asks_157 : decode (ch_bc m_l_asks) 157 = .ok (.invokestatic 201, 3) := by decide +kernel
theorem d_l_asks_160 : decode (ch_bc m_l_asks) 160 = .ok (.i2l, 1) := by decide +kernel
theorem d_l_asks_161 : decode (ch_bc m_l_asks) 161 = .ok (.ladd, 1) := by decide +kernel
theorem d_l_asks_162 : decode (ch_bc m_l_asks) 162 = .ok (.lmul, 1) := by decide +kernel
theorem d_l_asks_163 : decode (ch_bc m_l_asks) 163 = .ok (.aload_n 0, 1) := by decide +kernel
theorem d_l_asks_164 : decode (ch_bc m_l_asks) 164 = .ok (.iload_n 3, 1) := by decide +kernel
theorem d_l_asks_165 : decode (ch_bc m_l_asks) 165 = .ok (.invokestatic 203, 3) := by decide +kernel
theorem d_l_asks_168 : decode (ch_bc m_l_asks) 168 = .ok (.i2l, 1) := by decide +kernel
theorem d_l_asks_169 : decode (ch_bc m_l_asks) 169 = .ok (.ladd, 1) := by decide +kernel
theorem d_l_asks_170 : decode (ch_bc m_l_asks) 170 = .ok (.lstore_n 1, 1) := by decide +kernel
theorem d_l_asks_171 : decode (ch_bc m_l_asks) 171 = .ok (.iconst 0, 1) := by decide +kernel
theorem d_l_asks_172 : decode (ch_bc m_l_asks) 172 = .ok (.istore 4, 2) := by decide +kernel
theorem d_l_asks_174 : decode (ch_bc m_l_asks) 174 = .ok (.iload 4, 2) := by decide +kernel
theorem d_l_asks_176 : decode (ch_bc m_l_asks) 176 = .ok (.bipush 6, 2) := by decide +kernel
theorem d_l_asks_178 : decode (ch_bc m_l_asks) 178 = .ok (.if_icmp .ge 24, 3) := by decide +kernel
theorem d_l_asks_181 : decode (ch_bc m_l_asks) 181 = .ok (.ldc2_w 165, 3) := by decide +kernel
theorem d_l_asks_184 : decode (ch_bc m_l_asks) 184 = .ok (.lload_n 1, 1) := by decide +kernel
theorem d_l_asks_185 : decode (ch_bc m_l_asks) 185 = .ok (.lmul, 1) := by decide +kernel
theorem d_l_asks_186 : decode (ch_bc m_l_asks) 186 = .ok (.aload_n 0, 1) := by decide +kernel
theorem d_l_asks_187 : decode (ch_bc m_l_asks) 187 = .ok (.iload_n 3, 1) := by decide +kernel
theorem d_l_asks_188 : decode (ch_bc m_l_asks) 188 = .ok (.iload 4, 2) := by decide +kernel
theorem d_l_asks_190 : decode (ch_bc m_l_asks) 190 = .ok (.invokestatic 205, 3) := by decide +kernel
theorem d_l_asks_193 : decode (ch_bc m_l_asks) 193 = .ok (.i2l, 1) := by decide +kernel
theorem d_l_asks_194 : decode (ch_bc m_l_asks) 194 = .ok (.ladd, 1) := by decide +kernel
theorem d_l_asks_195 : decode (ch_bc m_l_asks) 195 = .ok (.lstore_n 1, 1) := by decide +kernel
theorem d_l_asks_196 : decode (ch_bc m_l_asks) 196 = .ok (.iinc 4 1, 3) := by decide +kernel
theorem d_l_asks_199 : decode (ch_bc m_l_asks) 199 = .ok (.goto (-25), 3) := by decide +kernel
theorem d_l_asks_202 : decode (ch_bc m_l_asks) 202 = .ok (.iconst 0, 1) := by decide +kernel
theorem d_l_asks_203 : decode (ch_bc m_l_asks) 203 = .ok (.istore 4, 2) := by decide +kernel
theorem d_l_asks_205 : decode (ch_bc m_l_asks) 205 = .ok (.iload 4, 2) := by decide +kernel
theorem d_l_asks_207 : decode (ch_bc m_l_asks) 207 = .ok (.iconst 4, 1) := by decide +kernel
theorem d_l_asks_208 : decode (ch_bc m_l_asks) 208 = .ok (.if_icmp .ge 24, 3) := by decide +kernel
theorem d_l_asks_211 : decode (ch_bc m_l_asks) 211 = .ok (.ldc2_w 165, 3) := by decide +kernel
theorem d_l_asks_214 : decode (ch_bc m_l_asks) 214 = .ok (.lload_n 1, 1) := by decide +kernel
theorem d_l_asks_215 : decode (ch_bc m_l_asks) 215 = .ok (.lmul, 1) := by decide +kernel
theorem d_l_asks_216 : decode (ch_bc m_l_asks) 216 = .ok (.aload_n 0, 1) := by decide +kernel
theorem d_l_asks_217 : decode (ch_bc m_l_asks) 217 = .ok (.iload 4, 2) := by decide +kernel
theorem d_l_asks_219 : decode (ch_bc m_l_asks) 219 = .ok (.iload_n 3, 1) := by decide +kernel
theorem d_l_asks_220 : decode (ch_bc m_l_asks) 220 = .ok (.invokestatic 207, 3) := by decide +kernel
theorem d_l_asks_223 : decode (ch_bc m_l_asks) 223 = .ok (.i2l, 1) := by decide +kernel
theorem d_l_asks_224 : decode (ch_bc m_l_asks) 224 = .ok (.ladd, 1) := by decide +kernel
theorem d_l_asks_225 : decode (ch_bc m_l_asks) 225 = .ok (.lstore_n 1, 1) := by decide +kernel
theorem d_l_asks_226 : decode (ch_bc m_l_asks) 226 = .ok (.iinc 4 1, 3) := by decide +kernel
theorem d_l_asks_229 : decode (ch_bc m_l_asks) 229 = .ok (.goto (-24), 3) := by decide +kernel
theorem d_l_asks_232 : decode (ch_bc m_l_asks) 232 = .ok (.iinc 3 1, 3) := by decide +kernel
theorem d_l_asks_235 : decode (ch_bc m_l_asks) 235 = .ok (.goto (-185), 3) := by decide +kernel
theorem d_l_asks_238 : decode (ch_bc m_l_asks) 238 = .ok (.iconst 1, 1) := by decide +kernel
theorem d_l_asks_239 : decode (ch_bc m_l_asks) 239 = .ok (.istore_n 3, 1) := by decide +kernel
theorem d_l_asks_240 : decode (ch_bc m_l_asks) 240 = .ok (.iload_n 3, 1) := by decide +kernel
theorem d_l_asks_241 : decode (ch_bc m_l_asks) 241 = .ok (.bipush 10, 2) := by decide +kernel
theorem d_l_asks_243 : decode (ch_bc m_l_asks) 243 = .ok (.if_icmp .ge 22, 3) := by decide +kernel
theorem d_l_asks_246 : decode (ch_bc m_l_asks) 246 = .ok (.ldc2_w 165, 3) := by decide +kernel
theorem d_l_asks_249 : decode (ch_bc m_l_asks) 249 = .ok (.lload_n 1, 1) := by decide +kernel
theorem d_l_asks_250 : decode (ch_bc m_l_asks) 250 = .ok (.lmul, 1) := by decide +kernel
theorem d_l_asks_251 : decode (ch_bc m_l_asks) 251 = .ok (.aload_n 0, 1) := by decide +kernel
theorem d_l_asks_252 : decode (ch_bc m_l_asks) 252 = .ok (.iload_n 3, 1) := by decide +kernel
theorem d_l_asks_253 : decode (ch_bc m_l_asks) 253 = .ok (.invokestatic 209, 3) := by decide +kernel
theorem d_l_asks_256 : decode (ch_bc m_l_asks) 256 = .ok (.i2l, 1) := by decide +kernel
theorem d_l_asks_257 : decode (ch_bc m_l_asks) 257 = .ok (.ladd, 1) := by decide +kernel
theorem d_l_asks_258 : decode (ch_bc m_l_asks) 258 = .ok (.lstore_n 1, 1) := by decide +kernel
theorem d_l_asks_259 : decode (ch_bc m_l_asks) 259 = .ok (.iinc 3 1, 3) := by decide +kernel
theorem d_l_asks_262 : decode (ch_bc m_l_asks) 262 = .ok (.goto (-22), 3) := by decide +kernel
theorem d_l_asks_265 : decode (ch_bc m_l_asks) 265 = .ok (.iconst 0, 1) := by decide +kernel
theorem d_l_asks_266 : decode (ch_bc m_l_asks) 266 = .ok (.istore_n 3, 1) := by decide +kernel
theorem d_l_asks_267 : decode (ch_bc m_l_asks) 267 = .ok (.iload_n 3, 1) := by decide +kernel
theorem d_l_asks_268 : decode (ch_bc m_l_asks) 268 = .ok (.iconst 5, 1) := by decide +kernel
theorem d_l_asks_269 : decode (ch_bc m_l_asks) 269 = .ok (.if_icmp .ge 22, 3) := by decide +kernel
theorem d_l_asks_272 : decode (ch_bc m_l_asks) 272 = .ok (.ldc2_w 165, 3) := by decide +kernel
theorem d_l_asks_275 : decode (ch_bc m_l_asks) 275 = .ok (.lload_n 1, 1) := by decide +kernel
theorem d_l_asks_276 : decode (ch_bc m_l_asks) 276 = .ok (.lmul, 1) := by decide +kernel
theorem d_l_asks_277 : decode (ch_bc m_l_asks) 277 = .ok (.aload_n 0, 1) := by decide +kernel
theorem d_l_asks_278 : decode (ch_bc m_l_asks) 278 = .ok (.iload_n 3, 1) := by decide +kernel
theorem d_l_asks_279 : decode (ch_bc m_l_asks) 279 = .ok (.invokestatic 211, 3) := by decide +kernel
theorem d_l_asks_282 : decode (ch_bc m_l_asks) 282 = .ok (.i2l, 1) := by decide +kernel
theorem d_l_asks_283 : decode (ch_bc m_l_asks) 283 = .ok (.ladd, 1) := by decide +kernel
theorem d_l_asks_284 : decode (ch_bc m_l_asks) 284 = .ok (.lstore_n 1, 1) := by decide +kernel
theorem d_l_asks_285 : decode (ch_bc m_l_asks) 285 = .ok (.iinc 3 1, 3) := by decide +kernel
theorem d_l_asks_288 : decode (ch_bc m_l_asks) 288 = .ok (.goto (-21), 3) := by decide +kernel
theorem d_l_asks_291 : decode (ch_bc m_l_asks) 291 = .ok (.aload_n 0, 1) := by decide +kernel
theorem d_l_asks_292 : decode (ch_bc m_l_asks) 292 = .ok (.invokevirtual 213, 3) := by decide +kernel
theorem d_l_asks_295 : decode (ch_bc m_l_asks) 295 = .ok (.istore_n 3, 1) := by decide +kernel
theorem d_l_asks_296 : decode (ch_bc m_l_asks) 296 = .ok (.iconst 0, 1) := by decide +kernel
theorem d_l_asks_297 : decode (ch_bc m_l_asks) 297 = .ok (.istore 4, 2) := by decide +kernel
theorem d_l_asks_299 : decode (ch_bc m_l_asks) 299 = .ok (.iload 4, 2) := by decide +kernel
theorem d_l_asks_301 : decode (ch_bc m_l_asks) 301 = .ok (.iload_n 3, 1) := by decide +kernel
theorem d_l_asks_302 : decode (ch_bc m_l_asks) 302 = .ok (.if_icmp .ge 23, 3) := by decide +kernel
theorem d_l_asks_305 : decode (ch_bc m_l_asks) 305 = .ok (.ldc2_w 165, 3) := by decide +kernel
theorem d_l_asks_308 : decode (ch_bc m_l_asks) 308 = .ok (.lload_n 1, 1) := by decide +kernel
theorem d_l_asks_309 : decode (ch_bc m_l_asks) 309 = .ok (.lmul, 1) := by decide +kernel
theorem d_l_asks_310 : decode (ch_bc m_l_asks) 310 = .ok (.aload_n 0, 1) := by decide +kernel
theorem d_l_asks_311 : decode (ch_bc m_l_asks) 311 = .ok (.iload 4, 2) := by decide +kernel
theorem d_l_asks_313 : decode (ch_bc m_l_asks) 313 = .ok (.invokestatic 144, 3) := by decide +kernel
theorem d_l_asks_316 : decode (ch_bc m_l_asks) 316 = .ok (.i2l, 1) := by decide +kernel
theorem d_l_asks_317 : decode (ch_bc m_l_asks) 317 = .ok (.ladd, 1) := by decide +kernel
theorem d_l_asks_318 : decode (ch_bc m_l_asks) 318 = .ok (.lstore_n 1, 1) := by decide +kernel
theorem d_l_asks_319 : decode (ch_bc m_l_asks) 319 = .ok (.iinc 4 1, 3) := by decide +kernel
theorem d_l_asks_322 : decode (ch_bc m_l_asks) 322 = .ok (.goto (-23), 3) := by decide +kernel
theorem d_l_asks_325 : decode (ch_bc m_l_asks) 325 = .ok (.aload_n 0, 1) := by decide +kernel
theorem d_l_asks_326 : decode (ch_bc m_l_asks) 326 = .ok (.invokevirtual 216, 3) := by decide +kernel
theorem d_l_asks_329 : decode (ch_bc m_l_asks) 329 = .ok (.istore_n 3, 1) := by decide +kernel
theorem d_l_asks_330 : decode (ch_bc m_l_asks) 330 = .ok (.iconst 0, 1) := by decide +kernel
theorem d_l_asks_331 : decode (ch_bc m_l_asks) 331 = .ok (.istore 4, 2) := by decide +kernel
theorem d_l_asks_333 : decode (ch_bc m_l_asks) 333 = .ok (.iload 4, 2) := by decide +kernel
theorem d_l_asks_335 : decode (ch_bc m_l_asks) 335 = .ok (.iload_n 3, 1) := by decide +kernel
theorem d_l_asks_336 : decode (ch_bc m_l_asks) 336 = .ok (.if_icmp .ge 23, 3) := by decide +kernel
theorem d_l_asks_339 : decode (ch_bc m_l_asks) 339 = .ok (.ldc2_w 165, 3) := by decide +kernel
theorem d_l_asks_342 : decode (ch_bc m_l_asks) 342 = .ok (.lload_n 1, 1) := by decide +kernel
theorem d_l_asks_343 : decode (ch_bc m_l_asks) 343 = .ok (.lmul, 1) := by decide +kernel
theorem d_l_asks_344 : decode (ch_bc m_l_asks) 344 = .ok (.aload_n 0, 1) := by decide +kernel
theorem d_l_asks_345 : decode (ch_bc m_l_asks) 345 = .ok (.iload 4, 2) := by decide +kernel
theorem d_l_asks_347 : decode (ch_bc m_l_asks) 347 = .ok (.invokestatic 144, 3) := by decide +kernel
theorem d_l_asks_350 : decode (ch_bc m_l_asks) 350 = .ok (.i2l, 1) := by decide +kernel
theorem d_l_asks_351 : decode (ch_bc m_l_asks) 351 = .ok (.ladd, 1) := by decide +kernel
theorem d_l_asks_352 : decode (ch_bc m_l_asks) 352 = .ok (.lstore_n 1, 1) := by decide +kernel
theorem d_l_asks_353 : decode (ch_bc m_l_asks) 353 = .ok (.iinc 4 1, 3) := by decide +kernel
theorem d_l_asks_356 : decode (ch_bc m_l_asks) 356 = .ok (.goto (-23), 3) := by decide +kernel
theorem d_l_asks_359 : decode (ch_bc m_l_asks) 359 = .ok (.ldc2_w 165, 3) := by decide +kernel
theorem d_l_asks_362 : decode (ch_bc m_l_asks) 362 = .ok (.lload_n 1, 1) := by decide +kernel
theorem d_l_asks_363 : decode (ch_bc m_l_asks) 363 = .ok (.lmul, 1) := by decide +kernel
theorem d_l_asks_364 : decode (ch_bc m_l_asks) 364 = .ok (.aload_n 0, 1) := by decide +kernel
theorem d_l_asks_365 : decode (ch_bc m_l_asks) 365 = .ok (.invokevirtual 219, 3) := by decide +kernel
theorem d_l_asks_368 : decode (ch_bc m_l_asks) 368 = .ok (.i2l, 1) := by decide +kernel
theorem d_l_asks_369 : decode (ch_bc m_l_asks) 369 = .ok (.ladd, 1) := by decide +kernel
theorem d_l_asks_370 : decode (ch_bc m_l_asks) 370 = .ok (.lreturn, 1) := by decide +kernel
theorem d_l_changes_0 : decode (ch_bc m_l_changes) 0 = .ok (.iload_n 1, 1) := by decide +kernel
theorem d_l_changes_1 : decode (ch_bc m_l_changes) 1 = .ok (.iconst 4, 1) := by decide +kernel
theorem d_l_changes_2 : decode (ch_bc m_l_changes) 2 = .ok (.ishr, 1) := by decide +kernel
theorem d_l_changes_3 : decode (ch_bc m_l_changes) 3 = .ok (.aload_n 0, 1) := by decide +kernel
theorem d_l_changes_4 : decode (ch_bc m_l_changes) 4 = .ok (.iconst 0, 1) := by decide +kernel
theorem d_l_changes_5 : decode (ch_bc m_l_changes) 5 = .ok (.invokestatic 186, 3) := by decide +kernel
theorem d_l_changes_8 : decode (ch_bc m_l_changes) 8 = .ok (.iconst 1, 1) := by decide +kernel
theorem d_l_changes_9 : decode (ch_bc m_l_changes) 9 = .ok (.iadd, 1) := by decide +kernel
theorem d_l_changes_10 : decode (ch_bc m_l_changes) 10 = .ok (.invokestatic 146, 3) := by decide +kernel
theorem d_l_changes_13 : decode (ch_bc m_l_changes) 13 = .ok (.istore_n 2, 1) := by decide +kernel
theorem d_l_changes_14 : decode (ch_bc m_l_changes) 14 = .ok (.iload_n 1, 1) := by decide +kernel
theorem d_l_changes_15 : decode (ch_bc m_l_changes) 15 = .ok (.bipush 22, 2) := by decide +kernel
theorem d_l_changes_17 : decode (ch_bc m_l_changes) 17 = .ok (.invokestatic 146, 3) := by decide +kernel
theorem d_l_changes_20 : decode (ch_bc m_l_changes) 20 = .ok (.tableswitch 334 0 16 #[84, 105, 105, 105, 105, 128, 128, 128, 128, 168, 168, 182, 196, 196, 216, 253, 253], 84) := by decide +kernel
theorem d_l_changes_104 : decode (ch_bc m_l_changes) 104 = .ok (.aload_n 0, 1) := by decide +kernel
theorem d_l_changes_105 : decode (ch_bc m_l_changes) 105 = .ok (.iload_n 1, 1) := by decide +kernel
theorem d_l_changes_106 : decode (ch_bc m_l_changes) 106 = .ok (.iconst 4, 1) := by decide +kernel
theorem d_l_changes_107 : decode (ch_bc m_l_changes) 107 = .ok (.ishr, 1) := by decide +kernel
theorem d_l_changes_108 : decode (ch_bc m_l_changes) 108 = .ok (.bipush 101, 2) := by decide +kernel
theorem d_l_changes_110 : decode (ch_bc m_l_changes) 110 = .ok (.invokestatic 146, 3) := by decide +kernel
theorem d_l_changes_113 : decode (ch_bc m_l_changes) 113 = .ok (.invokestatic 153, 3) := by decide +kernel
theorem d_l_changes_116 : decode (ch_bc m_l_changes) 116 = .ok (.ifCond .lt 7, 3) := by decide +kernel
theorem d_l_changes_119 : decode (ch_bc m_l_changes) 119 = .ok (.iconst 1, 1) := by decide +kernel
theorem d_l_changes_120 : decode (ch_bc m_l_changes) 120 = .ok (.goto 4, 3) := by decide +kernel
theorem d_l_changes_123 : decode (ch_bc m_l_changes) 123 = .ok (.iconst 0, 1) := by decide +kernel
theorem d_l_changes_124 : decode (ch_bc m_l_changes) 124 = .ok (.ireturn, 1) := by decide +kernel
theorem d_l_changes_125 : decode (ch_bc m_l_changes) 125 = .ok (.aload_n 0, 1) := by decide +kernel
theorem d_l_changes_126 : decode (ch_bc m_l_changes) 126 = .ok (.iload_n 2, 1) := by decide +kernel
theorem d_l_changes_127 : decode (ch_bc m_l_changes) 127 = .ok (.iload_n 1, 1) := by decide +kernel
theorem d_l_changes_128 : decode (ch_bc m_l_changes) 128 = .ok (.bipush 8, 2) := by decide +kernel
theorem d_l_changes_130 : decode (ch_bc m_l_changes) 130 = .ok (.ishr, 1) := by decide +kernel
theorem d_l_changes_131 : decode (ch_bc m_l_changes) 131 = .ok (.bipush 13, 2) := by decide +kernel
theorem d_l_changes_133 : decode (ch_bc m_l_changes) 133 = .ok (.invokestatic 146, 3) := by decide +kernel
theorem d_l_changes_136 : decode (ch_bc m_l_changes) 136 = .ok (.invokestatic 155, 3) := by decide +kernel
theorem d_l_changes_139 : decode (ch_bc m_l_changes) 139 = .ok (.ifCond .lt 7, 3) := by decide +kernel
theorem d_l_changes_142 : decode (ch_bc m_l_changes) 142 = .ok (.iconst 1, 1) := by decide +kernel
theorem d_l_changes_143 : decode (ch_bc m_l_changes) 143 = .ok (.goto 4, 3) := by decide +kernel
theorem d_l_changes_146 : decode (ch_bc m_l_changes) 146 = .ok (.iconst 0, 1) := by decide +kernel
theorem d_l_changes_147 : decode (ch_bc m_l_changes) 147 = .ok (.ireturn, 1) := by decide +kernel
theorem d_l_changes_148 : decode (ch_bc m_l_changes) 148 = .ok (.aload_n 0, 1) := by decide +kernel
theorem d_l_changes_149 : decode (ch_bc m_l_changes) 149 = .ok (.iload_n 2, 1) := by decide +kernel
theorem d_l_changes_150 : decode (ch_bc m_l_changes) 150 = .ok (.iload_n 1, 1) := by decide +kernel
theorem d_l_changes_151 : decode (ch_bc m_l_changes) 151 = .ok (.bipush 8, 2) := by decide +kernel
theorem d_l_changes_153 : decode (ch_bc m_l_changes) 153 = .ok (.ishr, 1) := by decide +kernel
theorem d_l_changes_154 : decode (ch_bc m_l_changes) 154 = .ok (.bipush 7, 2) := by decide +kernel
theorem d_l_changes_156 : decode (ch_bc m_l_changes) 156 = .ok (.invokestatic 146, 3) := by decide +kernel
theorem d_l_changes_159 : decode (ch_bc m_l_changes) 159 = .ok (.ifCond .ne 10, 3) := by decide +kernel
theorem d_l_changes_162 : decode (ch_bc m_l_changes) 162 = .ok (.iload_n 1, 1) := by decide +kernel
theorem d_l_changes_163 : decode (ch_bc m_l_changes) 163 = .ok (.bipush 8, 2) := by decide +kernel
theorem d_l_changes_165 : decode (ch_bc m_l_changes) 165 = .ok (.ishr, 1) := by decide +kernel
theorem d_l_changes_166 : decode (ch_bc m_l_changes) 166 = .ok (.goto 10, 3) := by decide +kernel
theorem d_l_changes_169 : decode (ch_bc m_l_changes) 169 = .ok (.iload_n 1, 1) := by decide +kernel
theorem d_l_changes_170 : decode (ch_bc m_l_changes) 170 = .ok (.bipush 8, 2) := by decide +kernel
theorem d_l_changes_172 : decode (ch_bc m_l_changes) 172 = .ok (.ishr, 1) := by decide +kernel
theorem d_l_changes_173 : decode (ch_bc m_l_changes) 173 = .ok (.invokestatic 158, 3) := by decide +kernel
theorem d_l_changes_176 : decode (ch_bc m_l_changes) 176 = .ok (.invokestatic 161, 3) := by decide +kernel
theorem d_l_changes_179 : decode (ch_bc m_l_changes) 179 = .ok (.ifCond .lt 7, 3) := by decide +kernel
theorem d_l_changes_182 : decode (ch_bc m_l_changes) 182 = .ok (.iconst 1, 1) := by decide +kernel
theorem d_l_changes_183 : decode (ch_bc m_l_changes) 183 = .ok (.goto 4, 3) := by decide +kernel
theorem d_l_changes_186 : decode (ch_bc m_l_changes) 186 = .ok (.iconst 0, 1) := by decide +kernel
theorem d_l_changes_187 : decode (ch_bc m_l_changes) 187 = .ok (.ireturn, 1) := by decide +kernel
theorem d_l_changes_188 : decode (ch_bc m_l_changes) 188 = .ok (.aload_n 0, 1) := by decide +kernel
theorem d_l_changes_189 : decode (ch_bc m_l_changes) 189 = .ok (.iload_n 2, 1) := by decide +kernel
theorem d_l_changes_190 : decode (ch_bc m_l_changes) 190 = .ok (.invokestatic 163, 3) := by decide +kernel
theorem d_l_changes_193 : decode (ch_bc m_l_changes) 193 = .ok (.ifCond .lt 7, 3) := by decide +kernel
theorem d_l_changes_196 : decode (ch_bc m_l_changes) 196 = .ok (.iconst 1, 1) := by decide +kernel
theorem d_l_changes_197 : decode (ch_bc m_l_changes) 197 = .ok (.goto 4, 3) := by decide +kernel
theorem d_l_changes_200 : decode (ch_bc m_l_changes) 200 = .ok (.iconst 0, 1) := by decide +kernel
theorem d_l_changes_201 : decode (ch_bc m_l_changes) 201 = .ok (.ireturn, 1) := by decide +kernel
theorem d_l_changes_202 : decode (ch_bc m_l_changes) 202 = .ok (.aload_n 0, 1) := by decide +kernel
theorem d_l_changes_203 : decode (ch_bc m_l_changes) 203 = .ok (.iload_n 2, 1) := by decide +kernel
theorem d_l_changes_204 : decode (ch_bc m_l_changes) 204 = .ok (.invokestatic 222, 3) := by decide +kernel
theorem d_l_changes_207 : decode (ch_bc m_l_changes) 207 = .ok (.ifCond .lt 7, 3) := by decide +kernel
theorem d_l_changes_210 : decode (ch_bc m_l_changes) 210 = .ok (.iconst 1, 1) := by decide +kernel
theorem d_l_changes_211 : decode (ch_bc m_l_changes) 211 = .ok (.goto 4, 3) := by decide +kernel
theorem d_l_changes_214 : decode (ch_bc m_l_changes) 214 = .ok (.iconst 0, 1) := by decide +kernel
theorem d_l_changes_215 : decode (ch_bc m_l_changes) 215 = .ok (.ireturn, 1) := by decide +kernel
theorem d_l_changes_216 : decode (ch_bc m_l_changes) 216 = .ok (.aload_n 0, 1) := by decide +kernel
theorem d_l_changes_217 : decode (ch_bc m_l_changes) 217 = .ok (.iload_n 1, 1) := by decide +kernel
theorem d_l_changes_218 : decode (ch_bc m_l_changes) 218 = .ok (.iconst 4, 1) := by decide +kernel
theorem d_l_changes_219 : decode (ch_bc m_l_changes) 219 = .ok (.ishr, 1) := by decide +kernel
theorem d_l_changes_220 : decode (ch_bc m_l_changes) 220 = .ok (.iconst 5, 1) := by decide +kernel
theorem d_l_changes_221 : decode (ch_bc m_l_changes) 221 = .ok (.invokestatic 146, 3) := by decide +kernel
theorem d_l_changes_224 : decode (ch_bc m_l_changes) 224 = .ok (.invokestatic 224, 3) := by decide +kernel
theorem d_l_changes_227 : decode (ch_bc m_l_changes) 227 = .ok (.ifCond .lt 7, 3) := by decide +kernel
theorem d_l_changes_230 : decode (ch_bc m_l_changes) 230 = .ok (.iconst 1, 1) := by decide +kernel
theorem d_l_changes_231 : decode (ch_bc m_l_changes) 231 = .ok (.goto 4, 3) := by decide +kernel
theorem d_l_changes_234 : decode (ch_bc m_l_changes) 234 = .ok (.iconst 0, 1) := by decide +kernel
theorem d_l_changes_235 : decode (ch_bc m_l_changes) 235 = .ok (.ireturn, 1) := by decide +kernel
theorem d_l_changes_236 : decode (ch_bc m_l_changes) 236 = .ok (.aload_n 0, 1) := by decide +kernel
theorem d_l_changes_237 : decode (ch_bc m_l_changes) 237 = .ok (.iload_n 2, 1) := by decide +kernel
theorem d_l_changes_238 : decode (ch_bc m_l_changes) 238 = .ok (.iload_n 1, 1) := by decide +kernel
theorem d_l_changes_239 : decode (ch_bc m_l_changes) 239 = .ok (.bipush 8, 2) := by decide +kernel
theorem d_l_changes_241 : decode (ch_bc m_l_changes) 241 = .ok (.ishr, 1) := by decide +kernel
theorem d_l_changes_242 : decode (ch_bc m_l_changes) 242 = .ok (.aload_n 0, 1) := by decide +kernel
theorem d_l_changes_243 : decode (ch_bc m_l_changes) 243 = .ok (.iconst 0, 1) := by decide +kernel
theorem d_l_changes_244 : decode (ch_bc m_l_changes) 244 = .ok (.invokestatic 186, 3) := by decide +kernel
theorem d_l_changes_247 : decode (ch_bc m_l_changes) 247 = .ok (.iconst 1, 1) := by decide +kernel
theorem d_l_changes_248 : decode (ch_bc m_l_changes) 248 = .ok (.iadd, 1) := by decide +kernel
theorem d_l_changes_249 : decode (ch_bc m_l_changes) 249 = .ok (.invokestatic 146, 3) := by decide +kernel
theorem d_l_changes_252 : decode (ch_bc m_l_changes) 252 = .ok (.iload_n 1, 1) := by decide +kernel
theorem d_l_changes_253 : decode (ch_bc m_l_changes) 253 = .ok (.bipush 11, 2) := by decide +kernel
theorem d_l_changes_255 : decode (ch_bc m_l_changes) 255 = .ok (.ishr, 1) := by decide +kernel
theorem d_l_changes_256 : decode (ch_bc m_l_changes) 256 = .ok (.bipush 9, 2) := by decide +kernel
theorem d_l_changes_258 : decode (ch_bc m_l_changes) 258 = .ok (.invokestatic 146, 3) := by decide +kernel
theorem d_l_changes_261 : decode (ch_bc m_l_changes) 261 = .ok (.invokestatic 226, 3) := by decide +kernel
theorem d_l_changes_264 : decode (ch_bc m_l_changes) 264 = .ok (.ifCond .lt 7, 3) := by decide +kernel
theorem d_l_changes_267 : decode (ch_bc m_l_changes) 267 = .ok (.iconst 1, 1) := by decide +kernel
theorem d_l_changes_268 : decode (ch_bc m_l_changes) 268 = .ok (.goto 4, 3) := by decide +kernel
theorem d_l_changes_271 : decode (ch_bc m_l_changes) 271 = .ok (.iconst 0, 1) := by decide +kernel
theorem d_l_changes_272 : decode (ch_bc m_l_changes) 272 = .ok (.ireturn, 1) := by decide +kernel
theorem d_l_changes_273 : decode (ch_bc m_l_changes) 273 = .ok (.aload_n 0, 1) := by decide +kernel
theorem d_l_changes_274 : decode (ch_bc m_l_changes) 274 = .ok (.iload_n 1, 1) := by decide +kernel
theorem d_l_changes_275 : decode (ch_bc m_l_changes) 275 = .ok (.bipush 6, 2) := by decide +kernel
theorem d_l_changes_277 : decode (ch_bc m_l_changes) 277 = .ok (.ishr, 1) := by decide +kernel
theorem d_l_changes_278 : decode (ch_bc m_l_changes) 278 = .ok (.iconst 1, 1) := by decide +kernel
theorem d_l_changes_279 : decode (ch_bc m_l_changes) 279 = .ok (.iand, 1) := by decide +kernel
theorem d_l_changes_280 : decode (ch_bc m_l_changes) 280 = .ok (.ifCond .ne 37, 3) := by decide +kernel
theorem d_l_changes_283 : decode (ch_bc m_l_changes) 283 = .ok (.new 229, 3) := by decide +kernel
theorem d_l_changes_286 : decode (ch_bc m_l_changes) 286 = .ok (.dup, 1) := by decide +kernel
theorem d_l_changes_287 : decode (ch_bc m_l_changes) 287 = .ok (.invokespecial 231, 3) := by decide +kernel
theorem d_l_changes_290 : decode (ch_bc m_l_changes) 290 = .ok (.ldc 232, 2) := by decide +kernel
theorem d_l_changes_292 : decode (ch_bc m_l_changes) 292 = .ok (.invokevirtual 234, 3) := by decide +kernel
theorem d_l_changes_295 : decode (ch_bc m_l_changes) 295 = .ok (.iload_n 1, 1) := by decide +kernel
theorem d_l_changes_296 : decode (ch_bc m_l_changes) 296 = .ok (.iconst 4, 1) := by decide +kernel
theorem d_l_changes_297 : decode (ch_bc m_l_changes) 297 = .ok (.ishr, 1) := by decide +kernel
theorem d_l_changes_298 : decode (ch_bc m_l_changes) 298 = .ok (.bipush 14, 2) := by decide +kernel
theorem d_l_changes_300 : decode (ch_bc m_l_changes) 300 = .ok (.invokestatic 146, 3) := by decide +kernel
theorem d_l_changes_303 : decode (ch_bc m_l_changes) 303 = .ok (.invokevirtual 237, 3) := by decide +kernel
theorem d_l_changes_306 : decode (ch_bc m_l_changes) 306 = .ok (.ldc 240, 2) := by decide +kernel
theorem d_l_changes_308 : decode (ch_bc m_l_changes) 308 = .ok (.invokevirtual 234, 3) := by decide +kernel
theorem d_l_changes_311 : decode (ch_bc m_l_changes) 311 = .ok (.invokevirtual 242, 3) := by decide +kernel
theorem d_l_changes_314 : decode (ch_bc m_l_changes) 314 = .ok (.goto 28, 3) := by decide +kernel
theorem d_l_changes_317 : decode (ch_bc m_l_changes) 317 = .ok (.new 229, 3) := by decide +kernel
theorem d_l_changes_320 : decode (ch_bc m_l_changes) 320 = .ok (.dup, 1) := by decide +kernel
theorem d_l_changes_321 : decode (ch_bc m_l_changes) 321 = .ok (.invokespecial 231, 3) := by decide +kernel
theorem d_l_changes_324 : decode (ch_bc m_l_changes) 324 = .ok (.ldc 246, 2) := by decide +kernel
theorem d_l_changes_326 : decode (ch_bc m_l_changes) 326 = .ok (.invokevirtual 234, 3) := by decide +kernel
theorem d_l_changes_329 : decode (ch_bc m_l_changes) 329 = .ok (.iload_n 1, 1) := by decide +kernel
theorem d_l_changes_330 : decode (ch_bc m_l_changes) 330 = .ok (.bipush 8, 2) := by decide +kernel
theorem d_l_changes_332 : decode (ch_bc m_l_changes) 332 = .ok (.ishr, 1) := by decide +kernel
theorem d_l_changes_333 : decode (ch_bc m_l_changes) 333 = .ok (.invokestatic 158, 3) := by decide +kernel
theorem d_l_changes_336 : decode (ch_bc m_l_changes) 336 = .ok (.invokevirtual 237, 3) := by decide +kernel
theorem d_l_changes_339 : decode (ch_bc m_l_changes) 339 = .ok (.invokevirtual 242, 3) := by decide +kernel
theorem d_l_changes_342 : decode (ch_bc m_l_changes) 342 = .ok (.invokestatic 248, 3) := by decide +kernel
theorem d_l_changes_345 : decode (ch_bc m_l_changes) 345 = .ok (.ifCond .lt 7, 3) := by decide +kernel
theorem d_l_changes_348 : decode (ch_bc m_l_changes) 348 = .ok (.iconst 1, 1) := by decide +kernel
theorem d_l_changes_349 : decode (ch_bc m_l_changes) 349 = .ok (.goto 4, 3) := by decide +kernel
theorem d_l_changes_352 : decode (ch_bc m_l_changes) 352 = .ok (.iconst 0, 1) := by decide +kernel
theorem d_l_changes_353 : decode (ch_bc m_l_changes) 353 = .ok (.ireturn, 1) := by decide +kernel
theorem d_l_changes_354 : decode (ch_bc m_l_changes) 354 = .ok (.aload_n 0, 1) := by decide +kernel
theorem d_l_changes_355 : decode (ch_bc m_l_changes) 355 = .ok (.invokestatic 252, 3) := by decide +kernel
theorem d_l_changes_358 : decode (ch_bc m_l_changes) 358 = .ok (.ifCond .lt 7, 3) := by decide +kernel
theorem d_l_changes_361 : decode (ch_bc m_l_changes) 361 = .ok (.iconst 1, 1) := by decide +kernel
theorem d_l_changes_362 : decode (ch_bc m_l_changes) 362 = .ok (.goto 4, 3) := by decide +kernel
theorem d_l_changes_365 : decode (ch_bc m_l_changes) 365 = .ok (.iconst 0, 1) := by decide +kernel
theorem d_l_changes_366 : decode (ch_bc m_l_changes) 366 = .ok (.ireturn, 1) := by decide +kernel
theorem d_l_refused_0 : decode (ch_bc m_l_refused) 0 = .ok (.aload_n 0, 1) := by decide +kernel
theorem d_l_refused_1 : decode (ch_bc m_l_refused) 1 = .ok (.invokestatic 254, 3) := by decide +kernel
theorem d_l_refused_4 : decode (ch_bc m_l_refused) 4 = .ok (.lstore_n 1, 1) := by decide +kernel
theorem d_l_refused_5 : decode (ch_bc m_l_refused) 5 = .ok (.aload_n 0, 1) := by decide +kernel
theorem d_l_refused_6 : decode (ch_bc m_l_refused) 6 = .ok (.iconst 0, 1) := by decide +kernel
theorem d_l_refused_7 : decode (ch_bc m_l_refused) 7 = .ok (.invokestatic 186, 3) := by decide +kernel
theorem d_l_refused_10 : decode (ch_bc m_l_refused) 10 = .ok (.istore_n 3, 1) := by decide +kernel
theorem d_l_refused_11 : decode (ch_bc m_l_refused) 11 = .ok (.aload_n 0, 1) := by decide +kernel
theorem d_l_refused_12 : decode (ch_bc m_l_refused) 12 = .ok (.iconst (-1), 1) := by decide +kernel
theorem d_l_refused_13 : decode (ch_bc m_l_refused) 13 = .ok (.invokestatic 153, 3) := by decide +kernel
theorem d_l_refused_16 : decode (ch_bc m_l_refused) 16 = .ok (.sipush (-1001), 3) := by decide +kernel
theorem d_l_refused_19 : decode (ch_bc m_l_refused) 19 = .ok (.if_icmp .ne 326, 3) := by decide +kernel
theorem d_l_refused_22 : decode (ch_bc m_l_refused) 22 = .ok (.aload_n 0, 1) := by decide +kernel
theorem d_l_refused_23 : decode (ch_bc m_l_refused) 23 = .ok (.iconst 1, 1) := by decide +kernel
theorem d_l_refused_24 : decode (ch_bc m_l_refused) 24 = .ok (.iconst 0, 1) := by decide +kernel
theorem d_l_refused_25 : decode (ch_bc m_l_refused) 25 = .ok (.invokestatic 258, 3) := by decide +kernel
theorem d_l_refused_28 : decode (ch_bc m_l_refused) 28 = .ok (.ifCond .eq 317, 3) := by decide +kernel
theorem d_l_refused_31 : decode (ch_bc m_l_refused) 31 = .ok (.aload_n 0, 1) := by decide +kernel
theorem d_l_refused_32 : decode (ch_bc m_l_refused) 32 = .ok (.bipush 100, 2) := by decide +kernel
theorem d_l_refused_34 : decode (ch_bc m_l_refused) 34 = .ok (.invokestatic 153, 3) := by decide +kernel
theorem d_l_refused_37 : decode (ch_bc m_l_refused) 37 = .ok (.sipush (-1001), 3) := by decide +kernel
theorem d_l_refused_40 : decode (ch_bc m_l_refused) 40 = .ok (.if_icmp .ne 305, 3) := by decide +kernel
theorem d_l_refused_43 : decode (ch_bc m_l_refused) 43 = .ok (.iload_n 3, 1) := by decide +kernel
theorem d_l_refused_44 : decode (ch_bc m_l_refused) 44 = .ok (.iconst 5, 1) := by decide +kernel
theorem d_l_refused_45 : decode (ch_bc m_l_refused) 45 = .ok (.if_icmp .lt 23, 3) := by decide +kernel
theorem d_l_refused_48 : decode (ch_bc m_l_refused) 48 = .ok (.aload_n 0, 1) := by decide +kernel
theorem d_l_refused_49 : decode (ch_bc m_l_refused) 49 = .ok (.iconst 1, 1) := by decide +kernel
theorem d_l_refused_50 : decode (ch_bc m_l_refused) 50 = .ok (.invokestatic 153, 3) := by decide +kernel
theorem d_l_refused_53 : decode (ch_bc m_l_refused) 53 = .ok (.sipush (-1001), 3) := by decide +kernel
theorem d_l_refused_56 : decode (ch_bc m_l_refused) 56 = .ok (.if_icmp .ne 289, 3) := by decide +kernel
theorem d_l_refused_59 : decode (ch_bc m_l_refused) 59 = .ok (.aload_n 0, 1) := by decide +kernel
theorem d_l_refused_60 : decode (ch_bc m_l_refused) 60 = .ok (.iconst 2, 1) := by decide +kernel
theorem d_l_refused_61 : decode (ch_bc m_l_refused) 61 = .ok (.iconst 5, 1) := by decide +kernel
theorem d_l_refused_62 : decode (ch_bc m_l_refused) 62 = .ok (.invokestatic 258, 3) := by decide +kernel
theorem d_l_refused_65 : decode (ch_bc m_l_refused) 65 = .ok (.ifCond .eq 280, 3) := by decide +kernel
theorem d_l_refused_68 : decode (ch_bc m_l_refused) 68 = .ok (.aload_n 0, 1) := by decide +kernel
theorem d_l_refused_69 : decode (ch_bc m_l_refused) 69 = .ok (.iload_n 3, 1) := by decide +kernel
theorem d_l_refused_70 : decode (ch_bc m_l_refused) 70 = .ok (.bipush 99, 2) := by decide +kernel
theorem d_l_refused_72 : decode (ch_bc m_l_refused) 72 = .ok (.invokestatic 155, 3) := by decide +kernel
theorem d_l_refused_75 : decode (ch_bc m_l_refused) 75 = .ok (.sipush (-1001), 3) := by decide +kernel
theorem d_l_refused_78 : decode (ch_bc m_l_refused) 78 = .ok (.if_icmp .ne 267, 3) := by decide +kernel
theorem d_l_refused_81 : decode (ch_bc m_l_refused) 81 = .ok (.aload_n 0, 1) := by decide +kernel
theorem d_l_refused_82 : decode (ch_bc m_l_refused) 82 = .ok (.iconst 3, 1) := by decide +kernel
theorem d_l_refused_83 : decode (ch_bc m_l_refused) 83 = .ok (.iload_n 3, 1) := by decide +kernel
theorem d_l_refused_84 : decode (ch_bc m_l_refused) 84 = .ok (.invokestatic 258, 3) := by decide +kernel
theorem d_l_refused_87 : decode (ch_bc m_l_refused) 87 = .ok (.ifCond .eq 258, 3) := by decide +kernel
theorem d_l_refused_90 : decode (ch_bc m_l_refused) 90 = .ok (.aload_n 0, 1) := by decide +kernel
theorem d_l_refused_91 : decode (ch_bc m_l_refused) 91 = .ok (.iconst (-1), 1) := by decide +kernel
theorem d_l_refused_92 : decode (ch_bc m_l_refused) 92 = .ok (.iconst 0, 1) := by decide +kernel
theorem d_l_refused_93 : decode (ch_bc m_l_refused) 93 = .ok (.invokestatic 155, 3) := by decide +kernel
theorem d_l_refused_96 : decode (ch_bc m_l_refused) 96 = .ok (.sipush (-1001), 3) := by decide +kernel
theorem d_l_refused_99 : decode (ch_bc m_l_refused) 99 = .ok (.if_icmp .ne 246, 3) := by decide +kernel
theorem d_l_refused_102 : decode (ch_bc m_l_refused) 102 = .ok (.aload_n 0, 1) := by decide +kernel
theorem d_l_refused_103 : decode (ch_bc m_l_refused) 103 = .ok (.iconst 0, 1) := by decide +kernel
theorem d_l_refused_104 : decode (ch_bc m_l_refused) 104 = .ok (.bipush 12, 2) := by decide +kernel
theorem d_l_refused_106 : decode (ch_bc m_l_refused) 106 = .ok (.invokestatic 155, 3) := by decide +kernel
theorem d_l_refused_109 : decode (ch_bc m_l_refused) 109 = .ok (.sipush (-1001), 3) := by decide +kernel
theorem d_l_refused_112 : decode (ch_bc m_l_refused) 112 = .ok (.if_icmp .ne 233, 3) := by decide +kernel
theorem d_l_refused_115 : decode (ch_bc m_l_refused) 115 = .ok (.aload_n 0, 1) := by decide +kernel
theorem d_l_refused_116 : decode (ch_bc m_l_refused) 116 = .ok (.iconst 1, 1) := by decide +kernel
theorem d_l_refused_117 : decode (ch_bc m_l_refused) 117 = .ok (.iconst 0, 1) := by decide +kernel
theorem d_l_refused_118 : decode (ch_bc m_l_refused) 118 = .ok (.invokestatic 258, 3) := by decide +kernel
theorem d_l_refused_121 : decode (ch_bc m_l_refused) 121 = .ok (.ifCond .eq 224, 3) := by decide +kernel
theorem d_l_refused_124 : decode (ch_bc m_l_refused) 124 = .ok (.aload_n 0, 1) := by decide +kernel
theorem d_l_refused_125 : decode (ch_bc m_l_refused) 125 = .ok (.iconst 0, 1) := by decide +kernel
theorem d_l_refused_126 : decode (ch_bc m_l_refused) 126 = .ok (.iconst (-1), 1) := by decide +kernel
theorem d_l_refused_127 : decode (ch_bc m_l_refused) 127 = .ok (.invokestatic 155, 3) := by decide +kernel
theorem d_l_refused_130 : decode (ch_bc m_l_refused) 130 = .ok (.sipush (-1001), 3) := by decide +kernel
theorem d_l_refused_133 : decode (ch_bc m_l_refused) 133 = .ok (.if_icmp .ne 212, 3) := by decide +kernel
theorem d_l_refused_136 : decode (ch_bc m_l_refused) 136 = .ok (.aload_n 0, 1) := by decide +kernel
theorem d_l_refused_137 : decode (ch_bc m_l_refused) 137 = .ok (.iload_n 3, 1) := by decide +kernel
theorem d_l_refused_138 : decode (ch_bc m_l_refused) 138 = .ok (.iconst 0, 1) := by decide +kernel
theorem d_l_refused_139 : decode (ch_bc m_l_refused) 139 = .ok (.invokestatic 161, 3) := by decide +kernel
theorem d_l_refused_142 : decode (ch_bc m_l_refused) 142 = .ok (.sipush (-1001), 3) := by decide +kernel
theorem d_l_refused_145 : decode (ch_bc m_l_refused) 145 = .ok (.if_icmp .ne 200, 3) := by decide +kernel
theorem d_l_refused_148 : decode (ch_bc m_l_refused) 148 = .ok (.aload_n 0, 1) := by decide +kernel
theorem d_l_refused_149 : decode (ch_bc m_l_refused) 149 = .ok (.iconst 3, 1) := by decide +kernel
theorem d_l_refused_150 : decode (ch_bc m_l_refused) 150 = .ok (.iload_n 3, 1) := by decide +kernel
theorem d_l_refused_151 : decode (ch_bc m_l_refused) 151 = .ok (.invokestatic 258, 3) := by decide +kernel
theorem d_l_refused_154 : decode (ch_bc m_l_refused) 154 = .ok (.ifCond .eq 191, 3) := by decide +kernel
theorem d_l_refused_157 : decode (ch_bc m_l_refused) 157 = .ok (.aload_n 0, 1) := by decide +kernel
theorem d_l_refused_158 : decode (ch_bc m_l_refused) 158 = .ok (.iload_n 3, 1) := by decide +kernel
theorem d_l_refused_159 : decode (ch_bc m_l_refused) 159 = .ok (.invokestatic 163, 3) := by decide +kernel
theorem d_l_refused_162 : decode (ch_bc m_l_refused) 162 = .ok (.sipush (-1001), 3) := by decide +kernel
theorem d_l_refused_165 : decode (ch_bc m_l_refused) 165 = .ok (.if_icmp .ne 180, 3) := by decide +kernel
theorem d_l_refused_168 : decode (ch_bc m_l_refused) 168 = .ok (.aload_n 0, 1) := by decide +kernel
theorem d_l_refused_169 : decode (ch_bc m_l_refused) 169 = .ok (.iconst 3, 1) := by decide +kernel
theorem d_l_refused_170 : decode (ch_bc m_l_refused) 170 = .ok (.iload_n 3, 1) := by decide +kernel
theorem d_l_refused_171 : decode (ch_bc m_l_refused) 171 = .ok (.invokestatic 258, 3) := by decide +kernel
theorem d_l_refused_174 : decode (ch_bc m_l_refused) 174 = .ok (.ifCond .eq 171, 3) := by decide +kernel
theorem d_l_refused_177 : decode (ch_bc m_l_refused) 177 = .ok (.aload_n 0, 1) := by decide +kernel
theorem d_l_refused_178 : decode (ch_bc m_l_refused) 178 = .ok (.iload_n 3, 1) := by decide +kernel
theorem d_l_refused_179 : decode (ch_bc m_l_refused) 179 = .ok (.invokestatic 222, 3) := by decide +kernel
theorem d_l_refused_182 : decode (ch_bc m_l_refused) 182 = .ok (.sipush (-1001), 3) := by decide +kernel
theorem d_l_refused_185 : decode (ch_bc m_l_refused) 185 = .ok (.if_icmp .ne 160, 3) := by decide +kernel
theorem d_l_refused_188 : decode (ch_bc m_l_refused) 188 = .ok (.aload_n 0, 1) := by decide +kernel
theorem d_l_refused_189 : decode (ch_bc m_l_refused) 189 = .ok (.iconst 3, 1) := by decide +kernel
theorem d_l_refused_190 : decode (ch_bc m_l_refused) 190 = .ok (.iload_n 3, 1) := by decide +kernel
theorem d_l_refused_191 : decode (ch_bc m_l_refused) 191 = .ok (.invokestatic 258, 3) := by decide +kernel
theorem d_l_refused_194 : decode (ch_bc m_l_refused) 194 = .ok (.ifCond .eq 151, 3) := by decide +kernel
theorem d_l_refused_197 : decode (ch_bc m_l_refused) 197 = .ok (.aload_n 0, 1) := by decide +kernel
theorem d_l_refused_198 : decode (ch_bc m_l_refused) 198 = .ok (.iconst 0, 1) := by decide +kernel
theorem d_l_refused_199 : decode (ch_bc m_l_refused) 199 = .ok (.invokestatic 224, 3) := by decide +kernel
theorem d_l_refused_202 : decode (ch_bc m_l_refused) 202 = .ok (.sipush (-1001), 3) := by decide +kernel
theorem d_l_refused_205 : decode (ch_bc m_l_refused) 205 = .ok (.if_icmp .ne 140, 3) := by decide +kernel
theorem d_l_refused_208 : decode (ch_bc m_l_refused) 208 = .ok (.aload_n 0, 1) := by decide +kernel
theorem d_l_refused_209 : decode (ch_bc m_l_refused) 209 = .ok (.iconst 1, 1) := by decide +kernel
theorem d_l_refused_210 : decode (ch_bc m_l_refused) 210 = .ok (.iconst 0, 1) := by decide +kernel
theorem d_l_refused_211 : decode (ch_bc m_l_refused) 211 = .ok (.invokestatic 258, 3) := by decide +kernel
theorem d_l_refused_214 : decode (ch_bc m_l_refused) 214 = .ok (.ifCond .eq 131, 3) := by decide +kernel
theorem d_l_refused_217 : decode (ch_bc m_l_refused) 217 = .ok (.aload_n 0, 1) := by decide +kernel
theorem d_l_refused_218 : decode (ch_bc m_l_refused) 218 = .ok (.bipush 10, 2) := by decide +kernel
theorem d_l_refused_220 : decode (ch_bc m_l_refused) 220 = .ok (.invokestatic 224, 3) := by decide +kernel
theorem d_l_refused_223 : decode (ch_bc m_l_refused) 223 = .ok (.sipush (-1001), 3) := by decide +kernel
theorem d_l_refused_226 : decode (ch_bc m_l_refused) 226 = .ok (.if_icmp .ne 119, 3) := by decide +kernel
theorem d_l_refused_229 : decode (ch_bc m_l_refused) 229 = .ok (.aload_n 0, 1) := by decide +kernel
theorem d_l_refused_230 : decode (ch_bc m_l_refused) 230 = .ok (.iload_n 3, 1) := by decide +kernel
theorem d_l_refused_231 : decode (ch_bc m_l_refused) 231 = .ok (.iconst 0, 1) := by decide +kernel
theorem d_l_refused_232 : decode (ch_bc m_l_refused) 232 = .ok (.iconst 0, 1) := by decide +kernel
theorem d_l_refused_233 : decode (ch_bc m_l_refused) 233 = .ok (.invokestatic 226, 3) := by decide +kernel
theorem d_l_refused_236 : decode (ch_bc m_l_refused) 236 = .ok (.sipush (-1001), 3) := by decide +kernel
theorem d_l_refused_239 : decode (ch_bc m_l_refused) 239 = .ok (.if_icmp .ne 106, 3) := by decide +kernel
theorem d_l_refused_242 : decode (ch_bc m_l_refused) 242 = .ok (.aload_n 0, 1) := by decide +kernel
theorem d_l_refused_243 : decode (ch_bc m_l_refused) 243 = .ok (.iconst 3, 1) := by decide +kernel
theorem d_l_refused_244 : decode (ch_bc m_l_refused) 244 = .ok (.iload_n 3, 1) := by decide +kernel
theorem d_l_refused_245 : decode (ch_bc m_l_refused) 245 = .ok (.invokestatic 258, 3) := by decide +kernel
theorem d_l_refused_248 : decode (ch_bc m_l_refused) 248 = .ok (.ifCond .eq 97, 3) := by decide +kernel
theorem d_l_refused_251 : decode (ch_bc m_l_refused) 251 = .ok (.aload_n 0, 1) := by decide +kernel
theorem d_l_refused_252 : decode (ch_bc m_l_refused) 252 = .ok (.iconst 0, 1) := by decide +kernel
theorem d_l_refused_253 : decode (ch_bc m_l_refused) 253 = .ok (.iconst (-1), 1) := by decide +kernel
theorem d_l_refused_254 : decode (ch_bc m_l_refused) 254 = .ok (.iconst 0, 1) := by decide +kernel
theorem d_l_refused_255 : decode (ch_bc m_l_refused) 255 = .ok (.invokestatic 226, 3) := by decide +kernel
theorem d_l_refused_258 : decode (ch_bc m_l_refused) 258 = .ok (.sipush (-1001), 3) := by decide +kernel
theorem d_l_refused_261 : decode (ch_bc m_l_refused) 261 = .ok (.if_icmp .ne 84, 3) := by decide +kernel
theorem d_l_refused_264 : decode (ch_bc m_l_refused) 264 = .ok (.aload_n 0, 1) := by decide +kernel
theorem d_l_refused_265 : decode (ch_bc m_l_refused) 265 = .ok (.iconst 3, 1) := by decide +kernel
theorem d_l_refused_266 : decode (ch_bc m_l_refused) 266 = .ok (.iload_n 3, 1) := by decide +kernel
theorem d_l_refused_267 : decode (ch_bc m_l_refused) 267 = .ok (.invokestatic 258, 3) := by decide +kernel
theorem d_l_refused_270 : decode (ch_bc m_l_refused) 270 = .ok (.ifCond .eq 75, 3) := by decide +kernel
theorem d_l_refused_273 : decode (ch_bc m_l_refused) 273 = .ok (.aload_n 0, 1) := by decide +kernel
theorem d_l_refused_274 : decode (ch_bc m_l_refused) 274 = .ok (.iconst 1, 1) := by decide +kernel
theorem d_l_refused_275 : decode (ch_bc m_l_refused) 275 = .ok (.iconst 1, 1) := by decide +kernel
theorem d_l_refused_276 : decode (ch_bc m_l_refused) 276 = .ok (.iconst 0, 1) := by decide +kernel
theorem d_l_refused_277 : decode (ch_bc m_l_refused) 277 = .ok (.invokestatic 226, 3) := by decide +kernel
theorem d_l_refused_280 : decode (ch_bc m_l_refused) 280 = .ok (.sipush (-1001), 3) := by decide +kernel
theorem d_l_refused_283 : decode (ch_bc m_l_refused) 283 = .ok (.if_icmp .ne 62, 3) := by decide +kernel
theorem d_l_refused_286 : decode (ch_bc m_l_refused) 286 = .ok (.aload_n 0, 1) := by decide +kernel
theorem d_l_refused_287 : decode (ch_bc m_l_refused) 287 = .ok (.bipush 11, 2) := by decide +kernel
theorem d_l_refused_289 : decode (ch_bc m_l_refused) 289 = .ok (.iconst 1, 1) := by decide +kernel
theorem d_l_refused_290 : decode (ch_bc m_l_refused) 290 = .ok (.invokestatic 258, 3) := by decide +kernel
theorem d_l_refused_293 : decode (ch_bc m_l_refused) 293 = .ok (.ifCond .eq 52, 3) := by decide +kernel
theorem d_l_refused_296 : decode (ch_bc m_l_refused) 296 = .ok (.aload_n 0, 1) := by decide +kernel
theorem d_l_refused_297 : decode (ch_bc m_l_refused) 297 = .ok (.iconst 0, 1) := by decide +kernel
theorem d_l_refused_298 : decode (ch_bc m_l_refused) 298 = .ok (.iconst 1, 1) := by decide +kernel
theorem d_l_refused_299 : decode (ch_bc m_l_refused) 299 = .ok (.iconst 0, 1) := by decide +kernel
theorem d_l_refused_300 : decode (ch_bc m_l_refused) 300 = .ok (.invokestatic 226, 3) := by decide +kernel
theorem d_l_refused_303 : decode (ch_bc m_l_refused) 303 = .ok (.sipush (-1001), 3) := by decide +kernel
theorem d_l_refused_306 : decode (ch_bc m_l_refused) 306 = .ok (.if_icmp .ne 39, 3) := by decide +kernel
theorem d_l_refused_309 : decode (ch_bc m_l_refused) 309 = .ok (.aload_n 0, 1) := by decide +kernel
theorem d_l_refused_310 : decode (ch_bc m_l_refused) 310 = .ok (.iconst 1, 1) := by decide +kernel
theorem d_l_refused_311 : decode (ch_bc m_l_refused) 311 = .ok (.iconst 0, 1) := by decide +kernel
theorem d_l_refused_312 : decode (ch_bc m_l_refused) 312 = .ok (.invokestatic 258, 3) := by decide +kernel
theorem d_l_refused_315 : decode (ch_bc m_l_refused) 315 = .ok (.ifCond .eq 30, 3) := by decide +kernel
theorem d_l_refused_318 : decode (ch_bc m_l_refused) 318 = .ok (.aload_n 0, 1) := by decide +kernel
theorem d_l_refused_319 : decode (ch_bc m_l_refused) 319 = .ok (.iconst 0, 1) := by decide +kernel
theorem d_l_refused_320 : decode (ch_bc m_l_refused) 320 = .ok (.iconst 1, 1) := by decide +kernel
theorem d_l_refused_321 : decode (ch_bc m_l_refused) 321 = .ok (.bipush 100, 2) := by decide +kernel
theorem d_l_refused_323 : decode (ch_bc m_l_refused) 323 = .ok (.invokestatic 226, 3) := by decide +kernel
theorem d_l_refused_326 : decode (ch_bc m_l_refused) 326 = .ok (.sipush (-1001), 3) := by decide +kernel
theorem d_l_refused_329 : decode (ch_bc m_l_refused) 329 = .ok (.if_icmp .ne 16, 3) := by decide +kernel
theorem d_l_refused_332 : decode (ch_bc m_l_refused) 332 = .ok (.aload_n 0, 1) := by decide +kernel
theorem d_l_refused_333 : decode (ch_bc m_l_refused) 333 = .ok (.iconst 1, 1) := by decide +kernel
theorem d_l_refused_334 : decode (ch_bc m_l_refused) 334 = .ok (.iconst 0, 1) := by decide +kernel
theorem d_l_refused_335 : decode (ch_bc m_l_refused) 335 = .ok (.invokestatic 258, 3) := by decide +kernel
theorem d_l_refused_338 : decode (ch_bc m_l_refused) 338 = .ok (.ifCond .eq 7, 3) := by decide +kernel
theorem d_l_refused_341 : decode (ch_bc m_l_refused) 341 = .ok (.iconst 1, 1) := by decide +kernel
theorem d_l_refused_342 : decode (ch_bc m_l_refused) 342 = .ok (.goto 4, 3) := by decide +kernel
theorem d_l_refused_345 : decode (ch_bc m_l_refused) 345 = .ok (.iconst 0, 1) := by decide +kernel
theorem d_l_refused_346 : decode (ch_bc m_l_refused) 346 = .ok (.istore 4, 2) := by decide +kernel
theorem d_l_refused_348 : decode (ch_bc m_l_refused) 348 = .ok (.iconst 0, 1) := by decide +kernel
theorem d_l_refused_349 : decode (ch_bc m_l_refused) 349 = .ok (.istore 5, 2) := by decide +kernel
theorem d_l_refused_351 : decode (ch_bc m_l_refused) 351 = .ok (.iload 5, 2) := by decide +kernel
theorem d_l_refused_353 : decode (ch_bc m_l_refused) 353 = .ok (.iload_n 3, 1) := by decide +kernel
theorem d_l_refused_354 : decode (ch_bc m_l_refused) 354 = .ok (.if_icmp .ge 357, 3) := by decide +kernel
theorem d_l_refused_357 : decode (ch_bc m_l_refused) 357 = .ok (.aload_n 0, 1) := by decide +kernel
theorem d_l_refused_358 : decode (ch_bc m_l_refused) 358 = .ok (.iload 5, 2) := by decide +kernel
theorem d_l_refused_360 : decode (ch_bc m_l_refused) 360 = .ok (.iconst 2, 1) := by decide +kernel
theorem d_l_refused_361 : decode (ch_bc m_l_refused) 361 = .ok (.invokestatic 188, 3) := by decide +kernel
theorem d_l_refused_364 : decode (ch_bc m_l_refused) 364 = .ok (.istore 6, 2) := by decide +kernel
theorem d_l_refused_366 : decode (ch_bc m_l_refused) 366 = .ok (.iload 6, 2) := by decide +kernel
theorem d_l_refused_368 : decode (ch_bc m_l_refused) 368 = .ok (.ifCond .le 119, 3) := by decide +kernel
theorem d_l_refused_371 : decode (ch_bc m_l_refused) 371 = .ok (.iload 4, 2) := by decide +kernel
theorem d_l_refused_373 : decode (ch_bc m_l_refused) 373 = .ok (.ifCond .eq 54, 3) := by decide +kernel
theorem d_l_refused_376 : decode (ch_bc m_l_refused) 376 = .ok (.aload_n 0, 1) := by decide +kernel
theorem d_l_refused_377 : decode (ch_bc m_l_refused) 377 = .ok (.iload 5, 2) := by decide +kernel
theorem d_l_refused_379 : decode (ch_bc m_l_refused) 379 = .ok (.iconst 0, 1) := by decide +kernel
theorem d_l_refused_380 : decode (ch_bc m_l_refused) 380 = .ok (.invokestatic 161, 3) := by decide +kernel
theorem d_l_refused_383 : decode (ch_bc m_l_refused) 383 = .ok (.sipush (-1001), 3) := by decide +kernel
theorem d_l_refused_386 : decode (ch_bc m_l_refused) 386 = .ok (.if_icmp .ne 41, 3) := by decide +kernel
theorem d_l_refused_389 : decode (ch_bc m_l_refused) 389 = .ok (.aload_n 0, 1) := by decide +kernel
theorem d_l_refused_390 : decode (ch_bc m_l_refused) 390 = .ok (.bipush 7, 2) := by decide +kernel
theorem d_l_refused_392 : decode (ch_bc m_l_refused) 392 = .ok (.iload 6, 2) := by decide +kernel
theorem d_l_refused_394 : decode (ch_bc m_l_refused) 394 = .ok (.invokestatic 258, 3) := by decide +kernel
theorem d_l_refused_397 : decode (ch_bc m_l_refused) 397 = .ok (.ifCond .eq 30, 3) := by decide +kernel
theorem d_l_refused_400 : decode (ch_bc m_l_refused) 400 = .ok (.aload_n 0, 1) := by decide +kernel
theorem d_l_refused_401 : decode (ch_bc m_l_refused) 401 = .ok (.iload 5, 2) := by decide +kernel
theorem d_l_refused_403 : decode (ch_bc m_l_refused) 403 = .ok (.invokestatic 163, 3) := by decide +kernel
theorem d_l_refused_406 : decode (ch_bc m_l_refused) 406 = .ok (.sipush (-1001), 3) := by decide +kernel
theorem d_l_refused_409 : decode (ch_bc m_l_refused) 409 = .ok (.if_icmp .ne 18, 3) := by decide +kernel
theorem d_l_refused_412 : decode (ch_bc m_l_refused) 412 = .ok (.aload_n 0, 1) := by decide +kernel
theorem d_l_refused_413 : decode (ch_bc m_l_refused) 413 = .ok (.bipush 7, 2) := by decide +kernel
theorem d_l_refused_415 : decode (ch_bc m_l_refused) 415 = .ok (.iload 6, 2) := by decide +kernel
theorem d_l_refused_417 : decode (ch_bc m_l_refused) 417 = .ok (.invokestatic 258, 3) := by decide +kernel
theorem d_l_refused_420 : decode (ch_bc m_l_refused) 420 = .ok (.ifCond .eq 7, 3) := by decide +kernel
theorem d_l_refused_423 : decode (ch_bc m_l_refused) 423 = .ok (.iconst 1, 1) := by decide +kernel
theorem d_l_refused_424 : decode (ch_bc m_l_refused) 424 = .ok (.goto 4, 3) := by decide +kernel
theorem d_l_refused_427 : decode (ch_bc m_l_refused) 427 = .ok (.iconst 0, 1) := by decide +kernel
theorem d_l_refused_428 : decode (ch_bc m_l_refused) 428 = .ok (.istore 4, 2) := by decide +kernel
theorem d_l_refused_430 : decode (ch_bc m_l_refused) 430 = .ok (.aload_n 0, 1) := by decide +kernel
theorem d_l_refused_431 : decode (ch_bc m_l_refused) 431 = .ok (.iload 5, 2) := by decide +kernel
theorem d_l_refused_433 : decode (ch_bc m_l_refused) 433 = .ok (.iconst 0, 1) := by decide +kernel
theorem d_l_refused_434 : decode (ch_bc m_l_refused) 434 = .ok (.invokestatic 188, 3) := by decide +kernel
theorem d_l_refused_437 : decode (ch_bc m_l_refused) 437 = .ok (.iload 6, 2) := by decide +kernel
theorem d_l_refused_439 : decode (ch_bc m_l_refused) 439 = .ok (.if_icmp .ge 204, 3) := by decide +kernel
theorem d_l_refused_442 : decode (ch_bc m_l_refused) 442 = .ok (.iload 4, 2) := by decide +kernel
theorem d_l_refused_444 : decode (ch_bc m_l_refused) 444 = .ok (.ifCond .eq 37, 3) := by decide +kernel
theorem d_l_refused_447 : decode (ch_bc m_l_refused) 447 = .ok (.aload_n 0, 1) := by decide +kernel
theorem d_l_refused_448 : decode (ch_bc m_l_refused) 448 = .ok (.iload 5, 2) := by decide +kernel
theorem d_l_refused_450 : decode (ch_bc m_l_refused) 450 = .ok (.invokestatic 222, 3) := by decide +kernel
theorem d_l_refused_453 : decode (ch_bc m_l_refused) 453 = .ok (.sipush (-1001), 3) := by decide +kernel
theorem d_l_refused_456 : decode (ch_bc m_l_refused) 456 = .ok (.if_icmp .ne 25, 3) := by decide +kernel
theorem d_l_refused_459 : decode (ch_bc m_l_refused) 459 = .ok (.aload_n 0, 1) := by decide +kernel
theorem d_l_refused_460 : decode (ch_bc m_l_refused) 460 = .ok (.iconst 5, 1) := by decide +kernel
theorem d_l_refused_461 : decode (ch_bc m_l_refused) 461 = .ok (.iload 6, 2) := by decide +kernel
theorem d_l_refused_463 : decode (ch_bc m_l_refused) 463 = .ok (.aload_n 0, 1) := by decide +kernel
theorem d_l_refused_464 : decode (ch_bc m_l_refused) 464 = .ok (.iload 5, 2) := by decide +kernel
theorem d_l_refused_466 : decode (ch_bc m_l_refused) 466 = .ok (.iconst 0, 1) := by decide +kernel
theorem d_l_refused_467 : decode (ch_bc m_l_refused) 467 = .ok (.invokestatic 188, 3) := by decide +kernel
theorem d_l_refused_470 : decode (ch_bc m_l_refused) 470 = .ok (.isub, 1) := by decide +kernel
theorem d_l_refused_471 : decode (ch_bc m_l_refused) 471 = .ok (.invokestatic 258, 3) := by decide +kernel
theorem d_l_refused_474 : decode (ch_bc m_l_refused) 474 = .ok (.ifCond .eq 7, 3) := by decide +kernel
theorem d_l_refused_477 : decode (ch_bc m_l_refused) 477 = .ok (.iconst 1, 1) := by decide +kernel
theorem d_l_refused_478 : decode (ch_bc m_l_refused) 478 = .ok (.goto 4, 3) := by decide +kernel
theorem d_l_refused_481 : decode (ch_bc m_l_refused) 481 = .ok (.iconst 0, 1) := by decide +kernel
theorem d_l_refused_482 : decode (ch_bc m_l_refused) 482 = .ok (.istore 4, 2) := by decide +kernel
theorem d_l_refused_484 : decode (ch_bc m_l_refused) 484 = .ok (.goto 159, 3) := by decide +kernel
theorem d_l_refused_487 : decode (ch_bc m_l_refused) 487 = .ok (.iload 4, 2) := by decide +kernel
theorem d_l_refused_489 : decode (ch_bc m_l_refused) 489 = .ok (.ifCond .eq 100, 3) := by decide +kernel
theorem d_l_refused_492 : decode (ch_bc m_l_refused) 492 = .ok (.aload_n 0, 1) := by decide +kernel
theorem d_l_refused_493 : decode (ch_bc m_l_refused) 493 = .ok (.iload 5, 2) := by decide +kernel
theorem d_l_refused_495 : decode (ch_bc m_l_refused) 495 = .ok (.iconst 0, 1) := by decide +kernel
theorem d_l_refused_496 : decode (ch_bc m_l_refused) 496 = .ok (.invokestatic 161, 3) := by decide +kernel
theorem d_l_refused_499 : decode (ch_bc m_l_refused) 499 = .ok (.sipush (-1001), 3) := by decide +kernel
theorem d_l_refused_502 : decode (ch_bc m_l_refused) 502 = .ok (.if_icmp .ne 87, 3) := by decide +kernel
theorem d_l_refused_505 : decode (ch_bc m_l_refused) 505 = .ok (.aload_n 0, 1) := by decide +kernel
theorem d_l_refused_506 : decode (ch_bc m_l_refused) 506 = .ok (.iconst 1, 1) := by decide +kernel
theorem d_l_refused_507 : decode (ch_bc m_l_refused) 507 = .ok (.iconst 0, 1) := by decide +kernel
theorem d_l_refused_508 : decode (ch_bc m_l_refused) 508 = .ok (.invokestatic 258, 3) := by decide +kernel
theorem d_l_refused_511 : decode (ch_bc m_l_refused) 511 = .ok (.ifCond .eq 78, 3) := by decide +kernel
theorem d_l_refused_514 : decode (ch_bc m_l_refused) 514 = .ok (.aload_n 0, 1) := by decide +kernel
theorem d_l_refused_515 : decode (ch_bc m_l_refused) 515 = .ok (.iload 5, 2) := by decide +kernel
theorem d_l_refused_517 : decode (ch_bc m_l_refused) 517 = .ok (.iconst 1, 1) := by decide +kernel
theorem d_l_refused_518 : decode (ch_bc m_l_refused) 518 = .ok (.invokestatic 161, 3) := by decide +kernel
theorem d_l_refused_521 : decode (ch_bc m_l_refused) 521 = .ok (.sipush (-1001), 3) := by decide +kernel
theorem d_l_refused_524 : decode (ch_bc m_l_refused) 524 = .ok (.if_icmp .ne 65, 3) := by decide +kernel
theorem d_l_refused_527 : decode (ch_bc m_l_refused) 527 = .ok (.aload_n 0, 1) := by decide +kernel
theorem d_l_refused_528 : decode (ch_bc m_l_refused) 528 = .ok (.bipush 8, 2) := by decide +kernel
theorem d_l_refused_530 : decode (ch_bc m_l_refused) 530 = .ok (.iconst 0, 1) := by decide +kernel
theorem d_l_refused_531 : decode (ch_bc m_l_refused) 531 = .ok (.invokestatic 258, 3) := by decide +kernel
theorem d_l_refused_534 : decode (ch_bc m_l_refused) 534 = .ok (.ifCond .eq 55, 3) := by decide +kernel
theorem d_l_refused_537 : decode (ch_bc m_l_refused) 537 = .ok (.aload_n 0, 1) := by decide +kernel
theorem d_l_refused_538 : decode (ch_bc m_l_refused) 538 = .ok (.iload 5, 2) := by decide +kernel
theorem d_l_refused_540 : decode (ch_bc m_l_refused) 540 = .ok (.ldc_w 262, 3) := by decide +kernel
theorem d_l_refused_543 : decode (ch_bc m_l_refused) 543 = .ok (.invokestatic 161, 3) := by decide +kernel
theorem d_l_refused_546 : decode (ch_bc m_l_refused) 546 = .ok (.sipush (-1001), 3) := by decide +kernel
theorem d_l_refused_549 : decode (ch_bc m_l_refused) 549 = .ok (.if_icmp .ne 40, 3) := by decide +kernel
theorem d_l_refused_552 : decode (ch_bc m_l_refused) 552 = .ok (.aload_n 0, 1) := by decide +kernel
theorem d_l_refused_553 : decode (ch_bc m_l_refused) 553 = .ok (.bipush 8, 2) := by decide +kernel
theorem d_l_refused_555 : decode (ch_bc m_l_refused) 555 = .ok (.bipush 12, 2) := by decide +kernel
theorem d_l_refused_557 : decode (ch_bc m_l_refused) 557 = .ok (.invokestatic 258, 3) := by decide +kernel
theorem d_l_refused_560 : decode (ch_bc m_l_refused) 560 = .ok (.ifCond .eq 29, 3) := by decide +kernel
theorem d_l_refused_563 : decode (ch_bc m_l_refused) 563 = .ok (.aload_n 0, 1) := by decide +kernel
theorem d_l_refused_564 : decode (ch_bc m_l_refused) 564 = .ok (.iload 5, 2) := by decide +kernel
theorem d_l_refused_566 : decode (ch_bc m_l_refused) 566 = .ok (.invokestatic 222, 3) := by decide +kernel
theorem d_l_refused_569 : decode (ch_bc m_l_refused) 569 = .ok (.sipush (-1001), 3) := by decide +kernel
theorem d_l_refused_572 : decode (ch_bc m_l_refused) 572 = .ok (.if_icmp .ne 17, 3) := by decide +kernel
theorem d_l_refused_575 : decode (ch_bc m_l_refused) 575 = .ok (.aload_n 0, 1) := by decide +kernel
theorem d_l_refused_576 : decode (ch_bc m_l_refused) 576 = .ok (.bipush 10, 2) := by decide +kernel
theorem d_l_refused_578 : decode (ch_bc m_l_refused) 578 = .ok (.iconst 0, 1) := by decide +kernel
theorem d_l_refused_579 : decode (ch_bc m_l_refused) 579 = .ok (.invokestatic 258, 3) := by decide +kernel
theorem d_l_refused_582 : decode (ch_bc m_l_refused) 582 = .ok (.ifCond .eq 7, 3) := by decide +kernel
theorem d_l_refused_585 : decode (ch_bc m_l_refused) 585 = .ok (.iconst 1, 1) := by decide +kernel
theorem d_l_refused_586 : decode (ch_bc m_l_refused) 586 = .ok (.goto 4, 3) := by decide +kernel
theorem d_l_refused_589 : decode (ch_bc m_l_refused) 589 = .ok (.iconst 0, 1) := by decide +kernel
theorem d_l_refused_590 : decode (ch_bc m_l_refused) 590 = .ok (.istore 4, 2) := by decide +kernel
theorem d_l_refused_592 : decode (ch_bc m_l_refused) 592 = .ok (.aload_n 0, 1) := by decide +kernel
theorem d_l_refused_593 : decode (ch_bc m_l_refused) 593 = .ok (.iload 5, 2) := by decide +kernel
theorem d_l_refused_595 : decode (ch_bc m_l_refused) 595 = .ok (.iconst 1, 1) := by decide +kernel
theorem d_l_refused_596 : decode (ch_bc m_l_refused) 596 = .ok (.invokestatic 188, 3) := by decide +kernel
theorem d_l_refused_599 : decode (ch_bc m_l_refused) 599 = .ok (.iconst 3, 1) := by decide +kernel
theorem d_l_refused_600 : decode (ch_bc m_l_refused) 600 = .ok (.if_icmp .ge 43, 3) := by decide +kernel
theorem d_l_refused_603 : decode (ch_bc m_l_refused) 603 = .ok (.iload 4, 2) := by decide +kernel
theorem d_l_refused_605 : decode (ch_bc m_l_refused) 605 = .ok (.ifCond .eq 35, 3) := by decide +kernel
theorem d_l_refused_608 : decode (ch_bc m_l_refused) 608 = .ok (.aload_n 0, 1) := by decide +kernel
theorem d_l_refused_609 : decode (ch_bc m_l_refused) 609 = .ok (.iload 5, 2) := by decide +kernel
theorem d_l_refused_611 : decode (ch_bc m_l_refused) 611 = .ok (.invokestatic 163, 3) := by decide +kernel
theorem d_l_refused_614 : decode (ch_bc m_l_refused) 614 = .ok (.sipush (-1001), 3) := by decide +kernel
theorem d_l_refused_617 : decode (ch_bc m_l_refused) 617 = .ok (.if_icmp .ne 23, 3) := by decide +kernel
theorem d_l_refused_620 : decode (ch_bc m_l_refused) 620 = .ok (.aload_n 0, 1) := by decide +kernel
theorem d_l_refused_621 : decode (ch_bc m_l_refused) 621 = .ok (.bipush 9, 2) := by decide +kernel
theorem d_l_refused_623 : decode (ch_bc m_l_refused) 623 = .ok (.aload_n 0, 1) := by decide +kernel
theorem d_l_refused_624 : decode (ch_bc m_l_refused) 624 = .ok (.iload 5, 2) := by decide +kernel
theorem d_l_refused_626 : decode (ch_bc m_l_refused) 626 = .ok (.iconst 1, 1) := by decide +kernel
theorem d_l_refused_627 : decode (ch_bc m_l_refused) 627 = .ok (.invokestatic 188, 3) := by decide +kernel
theorem d_l_refused_630 : decode (ch_bc m_l_refused) 630 = .ok (.invokestatic 258, 3) := by decide +kernel
theorem d_l_refused_633 : decode (ch_bc m_l_refused) 633 = .ok (.ifCond .eq 7, 3) := by decide +kernel
theorem d_l_refused_636 : decode (ch_bc m_l_refused) 636 = .ok (.iconst 1, 1) := by decide +kernel
theorem d_l_refused_637 : decode (ch_bc m_l_refused) 637 = .ok (.goto 4, 3) := by decide +kernel
theorem d_l_refused_640 : decode (ch_bc m_l_refused) 640 = .ok (.iconst 0, 1) := by decide +kernel
theorem d_l_refused_641 : decode (ch_bc m_l_refused) 641 = .ok (.istore 4, 2) := by decide +kernel
theorem d_l_refused_643 : decode (ch_bc m_l_refused) 643 = .ok (.aload_n 0, 1) := by decide +kernel
theorem d_l_refused_644 : decode (ch_bc m_l_refused) 644 = .ok (.iload 5, 2) := by decide +kernel
theorem d_l_refused_646 : decode (ch_bc m_l_refused) 646 = .ok (.iconst 0, 1) := by decide +kernel
theorem d_l_refused_647 : decode (ch_bc m_l_refused) 647 = .ok (.invokestatic 188, 3) := by decide +kernel
theorem d_l_refused_650 : decode (ch_bc m_l_refused) 650 = .ok (.bipush 99, 2) := by decide +kernel
theorem d_l_refused_652 : decode (ch_bc m_l_refused) 652 = .ok (.if_icmp .ge 53, 3) := by decide +kernel
theorem d_l_refused_655 : decode (ch_bc m_l_refused) 655 = .ok (.iload 4, 2) := by decide +kernel
theorem d_l_refused_657 : decode (ch_bc m_l_refused) 657 = .ok (.ifCond .eq 45, 3) := by decide +kernel
theorem d_l_refused_660 : decode (ch_bc m_l_refused) 660 = .ok (.aload_n 0, 1) := by decide +kernel
theorem d_l_refused_661 : decode (ch_bc m_l_refused) 661 = .ok (.iload 5, 2) := by decide +kernel
theorem d_l_refused_663 : decode (ch_bc m_l_refused) 663 = .ok (.iload 5, 2) := by decide +kernel
theorem d_l_refused_665 : decode (ch_bc m_l_refused) 665 = .ok (.iconst 1, 1) := by decide +kernel
theorem d_l_refused_666 : decode (ch_bc m_l_refused) 666 = .ok (.iadd, 1) := by decide +kernel
theorem d_l_refused_667 : decode (ch_bc m_l_refused) 667 = .ok (.iload_n 3, 1) := by decide +kernel
theorem d_l_refused_668 : decode (ch_bc m_l_refused) 668 = .ok (.irem, 1) := by decide +kernel
theorem d_l_refused_669 : decode (ch_bc m_l_refused) 669 = .ok (.bipush 99, 2) := by decide +kernel
theorem d_l_refused_671 : decode (ch_bc m_l_refused) 671 = .ok (.invokestatic 226, 3) := by decide +kernel
theorem d_l_refused_674 : decode (ch_bc m_l_refused) 674 = .ok (.sipush (-1001), 3) := by decide +kernel
theorem d_l_refused_677 : decode (ch_bc m_l_refused) 677 = .ok (.if_icmp .ne 25, 3) := by decide +kernel
theorem d_l_refused_680 : decode (ch_bc m_l_refused) 680 = .ok (.aload_n 0, 1) := by decide +kernel
theorem d_l_refused_681 : decode (ch_bc m_l_refused) 681 = .ok (.iconst 5, 1) := by decide +kernel
theorem d_l_refused_682 : decode (ch_bc m_l_refused) 682 = .ok (.bipush 99, 2) := by decide +kernel
theorem d_l_refused_684 : decode (ch_bc m_l_refused) 684 = .ok (.aload_n 0, 1) := by decide +kernel
theorem d_l_refused_685 : decode (ch_bc m_l_refused) 685 = .ok (.iload 5, 2) := by decide +kernel
theorem d_l_refused_687 : decode (ch_bc m_l_refused) 687 = .ok (.iconst 0, 1) := by decide +kernel
theorem d_l_refused_688 : decode (ch_bc m_l_refused) 688 = .ok (.invokestatic 188, 3) := by decide +kernel
theorem d_l_refused_691 : decode (ch_bc m_l_refused) 691 = .ok (.isub, 1) := by decide +kernel
theorem d_l_refused_692 : decode (ch_bc m_l_refused) 692 = .ok (.invokestatic 258, 3) := by decide +kernel
theorem d_l_refused_695 : decode (ch_bc m_l_refused) 695 = .ok (.ifCond .eq 7, 3) := by decide +kernel
theorem d_l_refused_698 : decode (ch_bc m_l_refused) 698 = .ok (.iconst 1, 1) := by decide +kernel
theorem d_l_refused_699 : decode (ch_bc m_l_refused) 699 = .ok (.goto 4, 3) := by decide +kernel
theorem d_l_refused_702 : decode (ch_bc m_l_refused) 702 = .ok (.iconst 0, 1) := by decide +kernel
theorem d_l_refused_703 : decode (ch_bc m_l_refused) 703 = .ok (.istore 4, 2) := by decide +kernel
theorem d_l_refused_705 : decode (ch_bc m_l_refused) 705 = .ok (.iinc 5 1, 3) := by decide +kernel
theorem d_l_refused_708 : decode (ch_bc m_l_refused) 708 = .ok (.goto (-357), 3) := by decide +kernel
theorem d_l_refused_711 : decode (ch_bc m_l_refused) 711 = .ok (.iconst 0, 1) := by decide +kernel
theorem d_l_refused_712 : decode (ch_bc m_l_refused) 712 = .ok (.istore 5, 2) := by decide +kernel
theorem d_l_refused_714 : decode (ch_bc m_l_refused) 714 = .ok (.iload 5, 2) := by decide +kernel
theorem d_l_refused_716 : decode (ch_bc m_l_refused) 716 = .ok (.bipush 12, 2) := by decide +kernel
theorem d_l_refused_718 : decode (ch_bc m_l_refused) 718 = .ok (.if_icmp .ge 112, 3) := by decide +kernel
theorem d_l_refused_721 : decode (ch_bc m_l_refused) 721 = .ok (.aload_n 0, 1) := by decide +kernel
theorem d_l_refused_722 : decode (ch_bc m_l_refused) 722 = .ok (.iload 5, 2) := by decide +kernel
theorem d_l_refused_724 : decode (ch_bc m_l_refused) 724 = .ok (.iconst 0, 1) := by decide +kernel
theorem d_l_refused_725 : decode (ch_bc m_l_refused) 725 = .ok (.invokestatic 263, 3) := by decide +kernel
theorem d_l_refused_728 : decode (ch_bc m_l_refused) 728 = .ok (.istore 6, 2) := by decide +kernel
theorem d_l_refused_730 : decode (ch_bc m_l_refused) 730 = .ok (.iload 6, 2) := by decide +kernel
theorem d_l_refused_732 : decode (ch_bc m_l_refused) 732 = .ok (.ifCond .lt 43, 3) := by decide +kernel
theorem d_l_refused_735 : decode (ch_bc m_l_refused) 735 = .ok (.iload 4, 2) := by decide +kernel
theorem d_l_refused_737 : decode (ch_bc m_l_refused) 737 = .ok (.ifCond .eq 35, 3) := by decide +kernel
theorem d_l_refused_740 : decode (ch_bc m_l_refused) 740 = .ok (.aload_n 0, 1) := by decide +kernel
theorem d_l_refused_741 : decode (ch_bc m_l_refused) 741 = .ok (.iload 6, 2) := by decide +kernel
theorem d_l_refused_743 : decode (ch_bc m_l_refused) 743 = .ok (.iconst 1, 1) := by decide +kernel
theorem d_l_refused_744 : decode (ch_bc m_l_refused) 744 = .ok (.iadd, 1) := by decide +kernel
theorem d_l_refused_745 : decode (ch_bc m_l_refused) 745 = .ok (.iload_n 3, 1) := by decide +kernel
theorem d_l_refused_746 : decode (ch_bc m_l_refused) 746 = .ok (.irem, 1) := by decide +kernel
theorem d_l_refused_747 : decode (ch_bc m_l_refused) 747 = .ok (.iload 5, 2) := by decide +kernel
theorem d_l_refused_749 : decode (ch_bc m_l_refused) 749 = .ok (.invokestatic 155, 3) := by decide +kernel
theorem d_l_refused_752 : decode (ch_bc m_l_refused) 752 = .ok (.sipush (-1001), 3) := by decide +kernel
theorem d_l_refused_755 : decode (ch_bc m_l_refused) 755 = .ok (.if_icmp .ne 17, 3) := by decide +kernel
theorem d_l_refused_758 : decode (ch_bc m_l_refused) 758 = .ok (.aload_n 0, 1) := by decide +kernel
theorem d_l_refused_759 : decode (ch_bc m_l_refused) 759 = .ok (.iconst 4, 1) := by decide +kernel
theorem d_l_refused_760 : decode (ch_bc m_l_refused) 760 = .ok (.iload 6, 2) := by decide +kernel
theorem d_l_refused_762 : decode (ch_bc m_l_refused) 762 = .ok (.invokestatic 258, 3) := by decide +kernel
theorem d_l_refused_765 : decode (ch_bc m_l_refused) 765 = .ok (.ifCond .eq 7, 3) := by decide +kernel
theorem d_l_refused_768 : decode (ch_bc m_l_refused) 768 = .ok (.iconst 1, 1) := by decide +kernel
theorem d_l_refused_769 : decode (ch_bc m_l_refused) 769 = .ok (.goto 4, 3) := by decide +kernel
theorem d_l_refused_772 : decode (ch_bc m_l_refused) 772 = .ok (.iconst 0, 1) := by decide +kernel
theorem d_l_refused_773 : decode (ch_bc m_l_refused) 773 = .ok (.istore 4, 2) := by decide +kernel
theorem d_l_refused_775 : decode (ch_bc m_l_refused) 775 = .ok (.aload_n 0, 1) := by decide +kernel
theorem d_l_refused_776 : decode (ch_bc m_l_refused) 776 = .ok (.iload 5, 2) := by decide +kernel
theorem d_l_refused_778 : decode (ch_bc m_l_refused) 778 = .ok (.iconst 1, 1) := by decide +kernel
theorem d_l_refused_779 : decode (ch_bc m_l_refused) 779 = .ok (.invokestatic 263, 3) := by decide +kernel
theorem d_l_refused_782 : decode (ch_bc m_l_refused) 782 = .ok (.bipush 9, 2) := by decide +kernel
theorem d_l_refused_784 : decode (ch_bc m_l_refused) 784 = .ok (.if_icmp .ne 40, 3) := by decide +kernel
theorem d_l_refused_787 : decode (ch_bc m_l_refused) 787 = .ok (.iload 4, 2) := by decide +kernel
theorem d_l_refused_789 : decode (ch_bc m_l_refused) 789 = .ok (.ifCond .eq 32, 3) := by decide +kernel
theorem d_l_refused_792 : decode (ch_bc m_l_refused) 792 = .ok (.aload_n 0, 1) := by decide +kernel
theorem d_l_refused_793 : decode (ch_bc m_l_refused) 793 = .ok (.iload 6, 2) := by decide +kernel
theorem d_l_refused_795 : decode (ch_bc m_l_refused) 795 = .ok (.iload 5, 2) := by decide +kernel
theorem d_l_refused_797 : decode (ch_bc m_l_refused) 797 = .ok (.invokestatic 155, 3) := by decide +kernel
theorem d_l_refused_800 : decode (ch_bc m_l_refused) 800 = .ok (.sipush (-1001), 3) := by decide +kernel
theorem d_l_refused_803 : decode (ch_bc m_l_refused) 803 = .ok (.if_icmp .ne 18, 3) := by decide +kernel
theorem d_l_refused_806 : decode (ch_bc m_l_refused) 806 = .ok (.aload_n 0, 1) := by decide +kernel
theorem d_l_refused_807 : decode (ch_bc m_l_refused) 807 = .ok (.bipush 6, 2) := by decide +kernel
theorem d_l_refused_809 : decode (ch_bc m_l_refused) 809 = .ok (.iload 5, 2) := by decide +kernel
theorem d_l_refused_811 : decode (ch_bc m_l_refused) 811 = .ok (.invokestatic 258, 3) := by decide +kernel
theorem d_l_refused_814 : decode (ch_bc m_l_refused) 814 = .ok (.ifCond .eq 7, 3) := by decide +kernel
theorem d_l_refused_817 : decode (ch_bc m_l_refused) 817 = .ok (.iconst 1, 1) := by decide +kernel
theorem d_l_refused_818 : decode (ch_bc m_l_refused) 818 = .ok (.goto 4, 3) := by decide +kernel
theorem d_l_refused_821 : decode (ch_bc m_l_refused) 821 = .ok (.iconst 0, 1) := by decide +kernel
theorem d_l_refused_822 : decode (ch_bc m_l_refused) 822 = .ok (.istore 4, 2) := by decide +kernel
theorem d_l_refused_824 : decode (ch_bc m_l_refused) 824 = .ok (.iinc 5 1, 3) := by decide +kernel
theorem d_l_refused_827 : decode (ch_bc m_l_refused) 827 = .ok (.goto (-113), 3) := by decide +kernel
theorem d_l_refused_830 : decode (ch_bc m_l_refused) 830 = .ok (.aload_n 0, 1) := by decide +kernel
theorem d_l_refused_831 : decode (ch_bc m_l_refused) 831 = .ok (.iconst 3, 1) := by decide +kernel
theorem d_l_refused_832 : decode (ch_bc m_l_refused) 832 = .ok (.invokestatic 186, 3) := by decide +kernel
theorem d_l_refused_835 : decode (ch_bc m_l_refused) 835 = .ok (.aload_n 0, 1) := by decide +kernel
theorem d_l_refused_836 : decode (ch_bc m_l_refused) 836 = .ok (.iconst 4, 1) := by decide +kernel
theorem d_l_refused_837 : decode (ch_bc m_l_refused) 837 = .ok (.invokestatic 186, 3) := by decide +kernel
theorem d_l_refused_840 : decode (ch_bc m_l_refused) 840 = .ok (.iadd, 1) := by decide +kernel
theorem d_l_refused_841 : decode (ch_bc m_l_refused) 841 = .ok (.ifCond .ne 36, 3) := by decide +kernel
theorem d_l_refused_844 : decode (ch_bc m_l_refused) 844 = .ok (.iload 4, 2) := by decide +kernel
theorem d_l_refused_846 : decode (ch_bc m_l_refused) 846 = .ok (.ifCond .eq 28, 3) := by decide +kernel
theorem d_l_refused_849 : decode (ch_bc m_l_refused) 849 = .ok (.aload_n 0, 1) := by decide +kernel
theorem d_l_refused_850 : decode (ch_bc m_l_refused) 850 = .ok (.iconst 1, 1) := by decide +kernel
theorem d_l_refused_851 : decode (ch_bc m_l_refused) 851 = .ok (.invokestatic 224, 3) := by decide +kernel
theorem d_l_refused_854 : decode (ch_bc m_l_refused) 854 = .ok (.sipush (-1001), 3) := by decide +kernel
theorem d_l_refused_857 : decode (ch_bc m_l_refused) 857 = .ok (.if_icmp .ne 17, 3) := by decide +kernel
theorem d_l_refused_860 : decode (ch_bc m_l_refused) 860 = .ok (.aload_n 0, 1) := by decide +kernel
theorem d_l_refused_861 : decode (ch_bc m_l_refused) 861 = .ok (.bipush 12, 2) := by decide +kernel
theorem d_l_refused_863 : decode (ch_bc m_l_refused) 863 = .ok (.iconst 0, 1) := by decide +kernel
theorem d_l_refused_864 : decode (ch_bc m_l_refused) 864 = .ok (.invokestatic 258, 3) := by decide +kernel
theorem d_l_refused_867 : decode (ch_bc m_l_refused) 867 = .ok (.ifCond .eq 7, 3) := by decide +kernel
theorem d_l_refused_870 : decode (ch_bc m_l_refused) 870 = .ok (.iconst 1, 1) := by decide +kernel
theorem d_l_refused_871 : decode (ch_bc m_l_refused) 871 = .ok (.goto 4, 3) := by decide +kernel
theorem d_l_refused_874 : decode (ch_bc m_l_refused) 874 = .ok (.iconst 0, 1) := by decide +kernel
theorem d_l_refused_875 : decode (ch_bc m_l_refused) 875 = .ok (.istore 4, 2) := by decide +kernel
theorem d_l_refused_877 : decode (ch_bc m_l_refused) 877 = .ok (.iload 4, 2) := by decide +kernel
theorem d_l_refused_879 : decode (ch_bc m_l_refused) 879 = .ok (.ifCond .eq 439, 3) := by decide +kernel
theorem d_l_refused_882 : decode (ch_bc m_l_refused) 882 = .ok (.aload_n 0, 1) := by decide +kernel
theorem d_l_refused_883 : decode (ch_bc m_l_refused) 883 = .ok (.iconst 1, 1) := by decide +kernel
theorem d_l_refused_884 : decode (ch_bc m_l_refused) 884 = .ok (.iconst 1, 1) := by decide +kernel
theorem d_l_refused_885 : decode (ch_bc m_l_refused) 885 = .ok (.iconst 1, 1) := by decide +kernel
theorem d_l_refused_886 : decode (ch_bc m_l_refused) 886 = .ok (.invokestatic 226, 3) := by decide +kernel
theorem d_l_refused_889 : decode (ch_bc m_l_refused) 889 = .ok (.sipush (-1001), 3) := by decide +kernel
theorem d_l_refused_892 : decode (ch_bc m_l_refused) 892 = .ok (.if_icmp .ne 426, 3) := by decide +kernel
theorem d_l_refused_895 : decode (ch_bc m_l_refused) 895 = .ok (.aload_n 0, 1) := by decide +kernel
theorem d_l_refused_896 : decode (ch_bc m_l_refused) 896 = .ok (.bipush 12, 2) := by decide +kernel
theorem d_l_refused_898 : decode (ch_bc m_l_refused) 898 = .ok (.iconst 1, 1) := by decide +kernel
theorem d_l_refused_899 : decode (ch_bc m_l_refused) 899 = .ok (.invokestatic 263, 3) := by decide +kernel
theorem d_l_refused_902 : decode (ch_bc m_l_refused) 902 = .ok (.sipush (-1001), 3) := by decide +kernel
theorem d_l_refused_905 : decode (ch_bc m_l_refused) 905 = .ok (.if_icmp .ne 413, 3) := by decide +kernel
theorem d_l_refused_908 : decode (ch_bc m_l_refused) 908 = .ok (.aload_n 0, 1) := by decide +kernel
theorem d_l_refused_909 : decode (ch_bc m_l_refused) 909 = .ok (.iconst (-1), 1) := by decide +kernel
theorem d_l_refused_910 : decode (ch_bc m_l_refused) 910 = .ok (.iconst 0, 1) := by decide +kernel
theorem d_l_refused_911 : decode (ch_bc m_l_refused) 911 = .ok (.invokestatic 263, 3) := by decide +kernel
theorem d_l_refused_914 : decode (ch_bc m_l_refused) 914 = .ok (.sipush (-1001), 3) := by decide +kernel
theorem d_l_refused_917 : decode (ch_bc m_l_refused) 917 = .ok (.if_icmp .ne 401, 3) := by decide +kernel
theorem d_l_refused_920 : decode (ch_bc m_l_refused) 920 = .ok (.aload_n 0, 1) := by decide +kernel
theorem d_l_refused_921 : decode (ch_bc m_l_refused) 921 = .ok (.iload_n 3, 1) := by decide +kernel
theorem d_l_refused_922 : decode (ch_bc m_l_refused) 922 = .ok (.bipush 9, 2) := by decide +kernel
theorem d_l_refused_924 : decode (ch_bc m_l_refused) 924 = .ok (.invokestatic 188, 3) := by decide +kernel
theorem d_l_refused_927 : decode (ch_bc m_l_refused) 927 = .ok (.sipush (-1001), 3) := by decide +kernel
theorem d_l_refused_930 : decode (ch_bc m_l_refused) 930 = .ok (.if_icmp .ne 388, 3) := by decide +kernel
theorem d_l_refused_933 : decode (ch_bc m_l_refused) 933 = .ok (.aload_n 0, 1) := by decide +kernel
theorem d_l_refused_934 : decode (ch_bc m_l_refused) 934 = .ok (.iconst (-1), 1) := by decide +kernel
theorem d_l_refused_935 : decode (ch_bc m_l_refused) 935 = .ok (.iconst 0, 1) := by decide +kernel
theorem d_l_refused_936 : decode (ch_bc m_l_refused) 936 = .ok (.invokestatic 188, 3) := by decide +kernel
theorem d_l_refused_939 : decode (ch_bc m_l_refused) 939 = .ok (.sipush (-1001), 3) := by decide +kernel
theorem d_l_refused_942 : decode (ch_bc m_l_refused) 942 = .ok (.if_icmp .ne 376, 3) := by decide +kernel
theorem d_l_refused_945 : decode (ch_bc m_l_refused) 945 = .ok (.aload_n 0, 1) := by decide +kernel
theorem d_l_refused_946 : decode (ch_bc m_l_refused) 946 = .ok (.iconst 0, 1) := by decide +kernel
theorem d_l_refused_947 : decode (ch_bc m_l_refused) 947 = .ok (.bipush 7, 2) := by decide +kernel
theorem d_l_refused_949 : decode (ch_bc m_l_refused) 949 = .ok (.invokestatic 188, 3) := by decide +kernel
theorem d_l_refused_952 : decode (ch_bc m_l_refused) 952 = .ok (.sipush (-1002), 3) := by decide +kernel
theorem d_l_refused_955 : decode (ch_bc m_l_refused) 955 = .ok (.if_icmp .ne 363, 3) := by decide +kernel
theorem d_l_refused_958 : decode (ch_bc m_l_refused) 958 = .ok (.aload_n 0, 1) := by decide +kernel
theorem d_l_refused_959 : decode (ch_bc m_l_refused) 959 = .ok (.iconst 0, 1) := by decide +kernel
theorem d_l_refused_960 : decode (ch_bc m_l_refused) 960 = .ok (.iconst (-1), 1) := by decide +kernel
theorem d_l_refused_961 : decode (ch_bc m_l_refused) 961 = .ok (.invokestatic 188, 3) := by decide +kernel
theorem d_l_refused_964 : decode (ch_bc m_l_refused) 964 = .ok (.sipush (-1002), 3) := by decide +kernel
theorem d_l_refused_967 : decode (ch_bc m_l_refused) 967 = .ok (.if_icmp .ne 351, 3) := by decide +kernel
theorem d_l_refused_970 : decode (ch_bc m_l_refused) 970 = .ok (.aload_n 0, 1) := by decide +kernel
theorem d_l_refused_971 : decode (ch_bc m_l_refused) 971 = .ok (.iload_n 3, 1) := by decide +kernel
theorem d_l_refused_972 : decode (ch_bc m_l_refused) 972 = .ok (.invokestatic 191, 3) := by decide +kernel
theorem d_l_refused_975 : decode (ch_bc m_l_refused) 975 = .ok (.sipush (-1001), 3) := by decide +kernel
theorem d_l_refused_978 : decode (ch_bc m_l_refused) 978 = .ok (.if_icmp .ne 340, 3) := by decide +kernel
theorem d_l_refused_981 : decode (ch_bc m_l_refused) 981 = .ok (.aload_n 0, 1) := by decide +kernel
theorem d_l_refused_982 : decode (ch_bc m_l_refused) 982 = .ok (.aload_n 0, 1) := by decide +kernel
theorem d_l_refused_983 : decode (ch_bc m_l_refused) 983 = .ok (.iconst 4, 1) := by decide +kernel
theorem d_l_refused_984 : decode (ch_bc m_l_refused) 984 = .ok (.invokestatic 186, 3) := by decide +kernel
theorem d_l_refused_987 : decode (ch_bc m_l_refused) 987 = .ok (.invokestatic 211, 3) := by decide +kernel
theorem d_l_refused_990 : decode (ch_bc m_l_refused) 990 = .ok (.sipush (-1001), 3) := by decide +kernel
theorem d_l_refused_993 : decode (ch_bc m_l_refused) 993 = .ok (.if_icmp .ne 325, 3) := by decide +kernel
theorem d_l_refused_996 : decode (ch_bc m_l_refused) 996 = .ok (.aload_n 0, 1) := by decide +kernel
theorem d_l_refused_997 : decode (ch_bc m_l_refused) 997 = .ok (.iconst (-1), 1) := by decide +kernel
theorem d_l_refused_998 : decode (ch_bc m_l_refused) 998 = .ok (.invokestatic 211, 3) := by decide +kernel
theorem d_l_refused_1001 : decode (ch_bc m_l_refused) 1001 = .ok (.sipush (-1001), 3) := by decide +kernel
theorem d_l_refused_1004 : decode (ch_bc m_l_refused) 1004 = .ok (.if_icmp .ne 314, 3) := by decide +kernel
theorem d_l_refused_1007 : decode (ch_bc m_l_refused) 1007 = .ok (.aload_n 0, 1) := by decide +kernel
theorem d_l_refused_1008 : decode (ch_bc m_l_refused) 1008 = .ok (.iload_n 3, 1) := by decide +kernel
theorem d_l_refused_1009 : decode (ch_bc m_l_refused) 1009 = .ok (.invokestatic 193, 3) := by decide +kernel
theorem d_l_refused_1012 : decode (ch_bc m_l_refused) 1012 = .ok (.sipush (-1001), 3) := by decide +kernel
theorem d_l_refused_1015 : decode (ch_bc m_l_refused) 1015 = .ok (.if_icmp .ne 303, 3) := by decide +kernel
theorem d_l_refused_1018 : decode (ch_bc m_l_refused) 1018 = .ok (.aload_n 0, 1) := by decide +kernel
theorem d_l_refused_1019 : decode (ch_bc m_l_refused) 1019 = .ok (.iconst (-1), 1) := by decide +kernel
theorem d_l_refused_1020 : decode (ch_bc m_l_refused) 1020 = .ok (.invokestatic 195, 3) := by decide +kernel
theorem d_l_refused_1023 : decode (ch_bc m_l_refused) 1023 = .ok (.sipush (-1001), 3) := by decide +kernel
theorem d_l_refused_1026 : decode (ch_bc m_l_refused) 1026 = .ok (.if_icmp .ne 292, 3) := by decide +kernel
theorem d_l_refused_1029 : decode (ch_bc m_l_refused) 1029 = .ok (.aload_n 0, 1) := by decide +kernel
theorem d_l_refused_1030 : decode (ch_bc m_l_refused) 1030 = .ok (.iload_n 3, 1) := by decide +kernel
theorem d_l_refused_1031 : decode (ch_bc m_l_refused) 1031 = .ok (.iconst 0, 1) := by decide +kernel
theorem d_l_refused_1032 : decode (ch_bc m_l_refused) 1032 = .ok (.invokestatic 205, 3) := by decide +kernel
theorem d_l_refused_1035 : decode (ch_bc m_l_refused) 1035 = .ok (.sipush (-1001), 3) := by decide +kernel
theorem d_l_refused_1038 : decode (ch_bc m_l_refused) 1038 = .ok (.if_icmp .ne 280, 3) := by decide +kernel
theorem d_l_refused_1041 : decode (ch_bc m_l_refused) 1041 = .ok (.aload_n 0, 1) := by decide +kernel
theorem d_l_refused_1042 : decode (ch_bc m_l_refused) 1042 = .ok (.iconst 0, 1) := by decide +kernel
theorem d_l_refused_1043 : decode (ch_bc m_l_refused) 1043 = .ok (.iconst (-1), 1) := by decide +kernel
theorem d_l_refused_1044 : decode (ch_bc m_l_refused) 1044 = .ok (.invokestatic 205, 3) := by decide +kernel
theorem d_l_refused_1047 : decode (ch_bc m_l_refused) 1047 = .ok (.sipush (-1002), 3) := by decide +kernel
theorem d_l_refused_1050 : decode (ch_bc m_l_refused) 1050 = .ok (.if_icmp .ne 268, 3) := by decide +kernel
theorem d_l_refused_1053 : decode (ch_bc m_l_refused) 1053 = .ok (.aload_n 0, 1) := by decide +kernel
theorem d_l_refused_1054 : decode (ch_bc m_l_refused) 1054 = .ok (.iconst 0, 1) := by decide +kernel
theorem d_l_refused_1055 : decode (ch_bc m_l_refused) 1055 = .ok (.bipush 12, 2) := by decide +kernel
theorem d_l_refused_1057 : decode (ch_bc m_l_refused) 1057 = .ok (.invokestatic 205, 3) := by decide +kernel
theorem d_l_refused_1060 : decode (ch_bc m_l_refused) 1060 = .ok (.sipush (-1002), 3) := by decide +kernel
theorem d_l_refused_1063 : decode (ch_bc m_l_refused) 1063 = .ok (.if_icmp .ne 255, 3) := by decide +kernel
theorem d_l_refused_1066 : decode (ch_bc m_l_refused) 1066 = .ok (.aload_n 0, 1) := by decide +kernel
theorem d_l_refused_1067 : decode (ch_bc m_l_refused) 1067 = .ok (.iload_n 3, 1) := by decide +kernel
theorem d_l_refused_1068 : decode (ch_bc m_l_refused) 1068 = .ok (.iconst 0, 1) := by decide +kernel
theorem d_l_refused_1069 : decode (ch_bc m_l_refused) 1069 = .ok (.invokestatic 266, 3) := by decide +kernel
theorem d_l_refused_1072 : decode (ch_bc m_l_refused) 1072 = .ok (.sipush (-1001), 3) := by decide +kernel
theorem d_l_refused_1075 : decode (ch_bc m_l_refused) 1075 = .ok (.if_icmp .ne 243, 3) := by decide +kernel
theorem d_l_refused_1078 : decode (ch_bc m_l_refused) 1078 = .ok (.aload_n 0, 1) := by decide +kernel
theorem d_l_refused_1079 : decode (ch_bc m_l_refused) 1079 = .ok (.iconst 0, 1) := by decide +kernel
theorem d_l_refused_1080 : decode (ch_bc m_l_refused) 1080 = .ok (.iconst 0, 1) := by decide +kernel
theorem d_l_refused_1081 : decode (ch_bc m_l_refused) 1081 = .ok (.invokestatic 266, 3) := by decide +kernel
theorem d_l_refused_1084 : decode (ch_bc m_l_refused) 1084 = .ok (.sipush (-1002), 3) := by decide +kernel
theorem d_l_refused_1087 : decode (ch_bc m_l_refused) 1087 = .ok (.if_icmp .ne 231, 3) := by decide +kernel
theorem d_l_refused_1090 : decode (ch_bc m_l_refused) 1090 = .ok (.aload_n 0, 1) := by decide +kernel
theorem d_l_refused_1091 : decode (ch_bc m_l_refused) 1091 = .ok (.iconst 0, 1) := by decide +kernel
theorem d_l_refused_1092 : decode (ch_bc m_l_refused) 1092 = .ok (.iconst (-1), 1) := by decide +kernel
theorem d_l_refused_1093 : decode (ch_bc m_l_refused) 1093 = .ok (.invokestatic 266, 3) := by decide +kernel
theorem d_l_refused_1096 : decode (ch_bc m_l_refused) 1096 = .ok (.sipush (-1002), 3) := by decide +kernel
theorem d_l_refused_1099 : decode (ch_bc m_l_refused) 1099 = .ok (.if_icmp .ne 219, 3) := by decide +kernel
theorem d_l_refused_1102 : decode (ch_bc m_l_refused) 1102 = .ok (.aload_n 0, 1) := by decide +kernel
theorem d_l_refused_1103 : decode (ch_bc m_l_refused) 1103 = .ok (.iconst 0, 1) := by decide +kernel
theorem d_l_refused_1104 : decode (ch_bc m_l_refused) 1104 = .ok (.sipush 333, 3) := by decide +kernel
theorem d_l_refused_1107 : decode (ch_bc m_l_refused) 1107 = .ok (.invokestatic 266, 3) := by decide +kernel
theorem d_l_refused_1110 : decode (ch_bc m_l_refused) 1110 = .ok (.sipush (-1002), 3) := by decide +kernel
theorem d_l_refused_1113 : decode (ch_bc m_l_refused) 1113 = .ok (.if_icmp .ne 205, 3) := by decide +kernel
theorem d_l_refused_1116 : decode (ch_bc m_l_refused) 1116 = .ok (.aload_n 0, 1) := by decide +kernel
theorem d_l_refused_1117 : decode (ch_bc m_l_refused) 1117 = .ok (.iconst 0, 1) := by decide +kernel
theorem d_l_refused_1118 : decode (ch_bc m_l_refused) 1118 = .ok (.ldc_w 262, 3) := by decide +kernel
theorem d_l_refused_1121 : decode (ch_bc m_l_refused) 1121 = .ok (.invokestatic 266, 3) := by decide +kernel
theorem d_l_refused_1124 : decode (ch_bc m_l_refused) 1124 = .ok (.sipush (-1002), 3) := by decide +kernel
theorem d_l_refused_1127 : decode (ch_bc m_l_refused) 1127 = .ok (.if_icmp .ne 191, 3) := by decide +kernel
theorem d_l_refused_1130 : decode (ch_bc m_l_refused) 1130 = .ok (.aload_n 0, 1) := by decide +kernel
theorem d_l_refused_1131 : decode (ch_bc m_l_refused) 1131 = .ok (.iconst 0, 1) := by decide +kernel
theorem d_l_refused_1132 : decode (ch_bc m_l_refused) 1132 = .ok (.ldc_w 268, 3) := by decide +kernel
theorem d_l_refused_1135 : decode (ch_bc m_l_refused) 1135 = .ok (.invokestatic 266, 3) := by decide +kernel
theorem d_l_refused_1138 : decode (ch_bc m_l_refused) 1138 = .ok (.sipush (-1002), 3) := by decide +kernel
theorem d_l_refused_1141 : decode (ch_bc m_l_refused) 1141 = .ok (.if_icmp .ne 177, 3) := by decide +kernel
theorem d_l_refused_1144 : decode (ch_bc m_l_refused) 1144 = .ok (.aload_n 0, 1) := by decide +kernel
theorem d_l_refused_1145 : decode (ch_bc m_l_refused) 1145 = .ok (.iload_n 3, 1) := by decide +kernel
theorem d_l_refused_1146 : decode (ch_bc m_l_refused) 1146 = .ok (.invokestatic 197, 3) := by decide +kernel
theorem d_l_refused_1149 : decode (ch_bc m_l_refused) 1149 = .ok (.sipush (-1001), 3) := by decide +kernel
theorem d_l_refused_1152 : decode (ch_bc m_l_refused) 1152 = .ok (.if_icmp .ne 166, 3) := by decide +kernel
theorem d_l_refused_1155 : decode (ch_bc m_l_refused) 1155 = .ok (.aload_n 0, 1) := by decide +kernel
theorem d_l_refused_1156 : decode (ch_bc m_l_refused) 1156 = .ok (.iconst 0, 1) := by decide +kernel
theorem d_l_refused_1157 : decode (ch_bc m_l_refused) 1157 = .ok (.invokestatic 209, 3) := by decide +kernel
theorem d_l_refused_1160 : decode (ch_bc m_l_refused) 1160 = .ok (.sipush (-1001), 3) := by decide +kernel
theorem d_l_refused_1163 : decode (ch_bc m_l_refused) 1163 = .ok (.if_icmp .ne 155, 3) := by decide +kernel
theorem d_l_refused_1166 : decode (ch_bc m_l_refused) 1166 = .ok (.aload_n 0, 1) := by decide +kernel
theorem d_l_refused_1167 : decode (ch_bc m_l_refused) 1167 = .ok (.bipush 10, 2) := by decide +kernel
theorem d_l_refused_1169 : decode (ch_bc m_l_refused) 1169 = .ok (.invokestatic 209, 3) := by decide +kernel
theorem d_l_refused_1172 : decode (ch_bc m_l_refused) 1172 = .ok (.sipush (-1001), 3) := by decide +kernel
theorem d_l_refused_1175 : decode (ch_bc m_l_refused) 1175 = .ok (.if_icmp .ne 143, 3) := by decide +kernel
theorem d_l_refused_1178 : decode (ch_bc m_l_refused) 1178 = .ok (.aload_n 0, 1) := by decide +kernel
theorem d_l_refused_1179 : decode (ch_bc m_l_refused) 1179 = .ok (.iload_n 3, 1) := by decide +kernel
theorem d_l_refused_1180 : decode (ch_bc m_l_refused) 1180 = .ok (.invokestatic 199, 3) := by decide +kernel
theorem d_l_refused_1183 : decode (ch_bc m_l_refused) 1183 = .ok (.sipush (-1001), 3) := by decide +kernel
theorem d_l_refused_1186 : decode (ch_bc m_l_refused) 1186 = .ok (.if_icmp .ne 132, 3) := by decide +kernel
theorem d_l_refused_1189 : decode (ch_bc m_l_refused) 1189 = .ok (.aload_n 0, 1) := by decide +kernel
theorem d_l_refused_1190 : decode (ch_bc m_l_refused) 1190 = .ok (.iconst (-1), 1) := by decide +kernel
theorem d_l_refused_1191 : decode (ch_bc m_l_refused) 1191 = .ok (.invokestatic 201, 3) := by decide +kernel
theorem d_l_refused_1194 : decode (ch_bc m_l_refused) 1194 = .ok (.sipush (-1001), 3) := by decide +kernel
theorem d_l_refused_1197 : decode (ch_bc m_l_refused) 1197 = .ok (.if_icmp .ne 121, 3) := by decide +kernel
theorem d_l_refused_1200 : decode (ch_bc m_l_refused) 1200 = .ok (.aload_n 0, 1) := by decide +kernel
theorem d_l_refused_1201 : decode (ch_bc m_l_refused) 1201 = .ok (.iload_n 3, 1) := by decide +kernel
theorem d_l_refused_1202 : decode (ch_bc m_l_refused) 1202 = .ok (.invokestatic 203, 3) := by decide +kernel
theorem d_l_refused_1205 : decode (ch_bc m_l_refused) 1205 = .ok (.sipush (-1001), 3) := by decide +kernel
theorem d_l_refused_1208 : decode (ch_bc m_l_refused) 1208 = .ok (.if_icmp .ne 110, 3) := by decide +kernel
theorem d_l_refused_1211 : decode (ch_bc m_l_refused) 1211 = .ok (.aload_n 0, 1) := by decide +kernel
theorem d_l_refused_1212 : decode (ch_bc m_l_refused) 1212 = .ok (.iconst 4, 1) := by decide +kernel
theorem d_l_refused_1213 : decode (ch_bc m_l_refused) 1213 = .ok (.iconst 0, 1) := by decide +kernel
theorem d_l_refused_1214 : decode (ch_bc m_l_refused) 1214 = .ok (.invokestatic 207, 3) := by decide +kernel
theorem d_l_refused_1217 : decode (ch_bc m_l_refused) 1217 = .ok (.sipush (-1001), 3) := by decide +kernel
theorem d_l_refused_1220 : decode (ch_bc m_l_refused) 1220 = .ok (.if_icmp .ne 98, 3) := by decide +kernel
theorem d_l_refused_1223 : decode (ch_bc m_l_refused) 1223 = .ok (.aload_n 0, 1) := by decide +kernel
theorem d_l_refused_1224 : decode (ch_bc m_l_refused) 1224 = .ok (.iconst (-1), 1) := by decide +kernel
theorem d_l_refused_1225 : decode (ch_bc m_l_refused) 1225 = .ok (.iconst 0, 1) := by decide +kernel
theorem d_l_refused_1226 : decode (ch_bc m_l_refused) 1226 = .ok (.invokestatic 207, 3) := by decide +kernel
theorem d_l_refused_1229 : decode (ch_bc m_l_refused) 1229 = .ok (.sipush (-1001), 3) := by decide +kernel
theorem d_l_refused_1232 : decode (ch_bc m_l_refused) 1232 = .ok (.if_icmp .ne 86, 3) := by decide +kernel
theorem d_l_refused_1235 : decode (ch_bc m_l_refused) 1235 = .ok (.aload_n 0, 1) := by decide +kernel
theorem d_l_refused_1236 : decode (ch_bc m_l_refused) 1236 = .ok (.iconst 0, 1) := by decide +kernel
theorem d_l_refused_1237 : decode (ch_bc m_l_refused) 1237 = .ok (.iload_n 3, 1) := by decide +kernel
theorem d_l_refused_1238 : decode (ch_bc m_l_refused) 1238 = .ok (.invokestatic 207, 3) := by decide +kernel
theorem d_l_refused_1241 : decode (ch_bc m_l_refused) 1241 = .ok (.sipush (-1002), 3) := by decide +kernel
theorem d_l_refused_1244 : decode (ch_bc m_l_refused) 1244 = .ok (.if_icmp .ne 74, 3) := by decide +kernel
theorem d_l_refused_1247 : decode (ch_bc m_l_refused) 1247 = .ok (.aload_n 0, 1) := by decide +kernel
theorem d_l_refused_1248 : decode (ch_bc m_l_refused) 1248 = .ok (.iconst (-1), 1) := by decide +kernel
theorem d_l_refused_1249 : decode (ch_bc m_l_refused) 1249 = .ok (.invokestatic 144, 3) := by decide +kernel
theorem d_l_refused_1252 : decode (ch_bc m_l_refused) 1252 = .ok (.sipush (-1001), 3) := by decide +kernel
theorem d_l_refused_1255 : decode (ch_bc m_l_refused) 1255 = .ok (.if_icmp .ne 63, 3) := by decide +kernel
theorem d_l_refused_1258 : decode (ch_bc m_l_refused) 1258 = .ok (.aload_n 0, 1) := by decide +kernel
theorem d_l_refused_1259 : decode (ch_bc m_l_refused) 1259 = .ok (.bipush 80, 2) := by decide +kernel
theorem d_l_refused_1261 : decode (ch_bc m_l_refused) 1261 = .ok (.invokestatic 144, 3) := by decide +kernel
theorem d_l_refused_1264 : decode (ch_bc m_l_refused) 1264 = .ok (.sipush (-1001), 3) := by decide +kernel
theorem d_l_refused_1267 : decode (ch_bc m_l_refused) 1267 = .ok (.if_icmp .ne 51, 3) := by decide +kernel
theorem d_l_refused_1270 : decode (ch_bc m_l_refused) 1270 = .ok (.aload_n 0, 1) := by decide +kernel
theorem d_l_refused_1271 : decode (ch_bc m_l_refused) 1271 = .ok (.bipush 12, 2) := by decide +kernel
theorem d_l_refused_1273 : decode (ch_bc m_l_refused) 1273 = .ok (.invokestatic 186, 3) := by decide +kernel
theorem d_l_refused_1276 : decode (ch_bc m_l_refused) 1276 = .ok (.sipush (-1001), 3) := by decide +kernel
theorem d_l_refused_1279 : decode (ch_bc m_l_refused) 1279 = .ok (.if_icmp .ne 39, 3) := by decide +kernel
theorem d_l_refused_1282 : decode (ch_bc m_l_refused) 1282 = .ok (.aload_n 0, 1) := by decide +kernel
theorem d_l_refused_1283 : decode (ch_bc m_l_refused) 1283 = .ok (.iconst (-1), 1) := by decide +kernel
theorem d_l_refused_1284 : decode (ch_bc m_l_refused) 1284 = .ok (.invokestatic 186, 3) := by decide +kernel
theorem d_l_refused_1287 : decode (ch_bc m_l_refused) 1287 = .ok (.sipush (-1001), 3) := by decide +kernel
theorem d_l_refused_1290 : decode (ch_bc m_l_refused) 1290 = .ok (.if_icmp .ne 28, 3) := by decide +kernel
theorem d_l_refused_1293 : decode (ch_bc m_l_refused) 1293 = .ok (.aload_n 0, 1) := by decide +kernel
theorem d_l_refused_1294 : decode (ch_bc m_l_refused) 1294 = .ok (.iconst 3, 1) := by decide +kernel
theorem d_l_refused_1295 : decode (ch_bc m_l_refused) 1295 = .ok (.invokestatic 141, 3) := by decide +kernel
theorem d_l_refused_1298 : decode (ch_bc m_l_refused) 1298 = .ok (.sipush (-1001), 3) := by decide +kernel
theorem d_l_refused_1301 : decode (ch_bc m_l_refused) 1301 = .ok (.if_icmp .ne 17, 3) := by decide +kernel
theorem d_l_refused_1304 : decode (ch_bc m_l_refused) 1304 = .ok (.aload_n 0, 1) := by decide +kernel
theorem d_l_refused_1305 : decode (ch_bc m_l_refused) 1305 = .ok (.bipush 11, 2) := by decide +kernel
theorem d_l_refused_1307 : decode (ch_bc m_l_refused) 1307 = .ok (.iconst 1, 1) := by decide +kernel
theorem d_l_refused_1308 : decode (ch_bc m_l_refused) 1308 = .ok (.invokestatic 258, 3) := by decide +kernel
theorem d_l_refused_1311 : decode (ch_bc m_l_refused) 1311 = .ok (.ifCond .eq 7, 3) := by decide +kernel
theorem d_l_refused_1314 : decode (ch_bc m_l_refused) 1314 = .ok (.iconst 1, 1) := by decide +kernel
theorem d_l_refused_1315 : decode (ch_bc m_l_refused) 1315 = .ok (.goto 4, 3) := by decide +kernel
theorem d_l_refused_1318 : decode (ch_bc m_l_refused) 1318 = .ok (.iconst 0, 1) := by decide +kernel
theorem d_l_refused_1319 : decode (ch_bc m_l_refused) 1319 = .ok (.istore 4, 2) := by decide +kernel
theorem d_l_refused_1321 : decode (ch_bc m_l_refused) 1321 = .ok (.iload 4, 2) := by decide +kernel
end
section
theorem d_l_refused_1323 : decode (ch_bc m_l_refused) 1323 = .ok (.ifCond .eq 91, 3) := by decide +kernel
theorem d_l_refused_1326 : decode (ch_bc m_l_refused) 1326 = .ok (.aload_n 0, 1) := by decide +kernel
theorem d_l_refused_1327 : decode (ch_bc m_l_refused) 1327 = .ok (.ldc_w 269, 3) := by decide +kernel
theorem d_l_refused_1330 : decode (ch_bc m_l_refused) 1330 = .ok (.invokestatic 248, 3) := by decide +kernel
theorem d_l_refused_1333 : decode (ch_bc m_l_refused) 1333 = .ok (.sipush (-1001), 3) := by decide +kernel
theorem d_l_refused_1336 : decode (ch_bc m_l_refused) 1336 = .ok (.if_icmp .ne 78, 3) := by decide +kernel
theorem d_l_refused_1339 : decode (ch_bc m_l_refused) 1339 = .ok (.aload_n 0, 1) := by decide +kernel
theorem d_l_refused_1340 : decode (ch_bc m_l_refused) 1340 = .ok (.invokevirtual 271, 3) := by decide +kernel
theorem d_l_refused_1343 : decode (ch_bc m_l_refused) 1343 = .ok (.ifCond .ne 71, 3) := by decide +kernel
theorem d_l_refused_1346 : decode (ch_bc m_l_refused) 1346 = .ok (.aload_n 0, 1) := by decide +kernel
theorem d_l_refused_1347 : decode (ch_bc m_l_refused) 1347 = .ok (.ldc_w 274, 3) := by decide +kernel
theorem d_l_refused_1350 : decode (ch_bc m_l_refused) 1350 = .ok (.invokestatic 248, 3) := by decide +kernel
theorem d_l_refused_1353 : decode (ch_bc m_l_refused) 1353 = .ok (.sipush (-1002), 3) := by decide +kernel
theorem d_l_refused_1356 : decode (ch_bc m_l_refused) 1356 = .ok (.if_icmp .ne 58, 3) := by decide +kernel
theorem d_l_refused_1359 : decode (ch_bc m_l_refused) 1359 = .ok (.aload_n 0, 1) := by decide +kernel
theorem d_l_refused_1360 : decode (ch_bc m_l_refused) 1360 = .ok (.iconst 2, 1) := by decide +kernel
theorem d_l_refused_1361 : decode (ch_bc m_l_refused) 1361 = .ok (.iconst 3, 1) := by decide +kernel
theorem d_l_refused_1362 : decode (ch_bc m_l_refused) 1362 = .ok (.iload_n 3, 1) := by decide +kernel
theorem d_l_refused_1363 : decode (ch_bc m_l_refused) 1363 = .ok (.invokestatic 137, 3) := by decide +kernel
theorem d_l_refused_1366 : decode (ch_bc m_l_refused) 1366 = .ok (.ifCond .eq 48, 3) := by decide +kernel
theorem d_l_refused_1369 : decode (ch_bc m_l_refused) 1369 = .ok (.aload_n 0, 1) := by decide +kernel
theorem d_l_refused_1370 : decode (ch_bc m_l_refused) 1370 = .ok (.ldc_w 276, 3) := by decide +kernel
theorem d_l_refused_1373 : decode (ch_bc m_l_refused) 1373 = .ok (.invokestatic 248, 3) := by decide +kernel
theorem d_l_refused_1376 : decode (ch_bc m_l_refused) 1376 = .ok (.sipush (-1002), 3) := by decide +kernel
theorem d_l_refused_1379 : decode (ch_bc m_l_refused) 1379 = .ok (.if_icmp .ne 35, 3) := by decide +kernel
theorem d_l_refused_1382 : decode (ch_bc m_l_refused) 1382 = .ok (.aload_n 0, 1) := by decide +kernel
theorem d_l_refused_1383 : decode (ch_bc m_l_refused) 1383 = .ok (.iconst 1, 1) := by decide +kernel
theorem d_l_refused_1384 : decode (ch_bc m_l_refused) 1384 = .ok (.bipush 11, 2) := by decide +kernel
theorem d_l_refused_1386 : decode (ch_bc m_l_refused) 1386 = .ok (.iconst 1, 1) := by decide +kernel
theorem d_l_refused_1387 : decode (ch_bc m_l_refused) 1387 = .ok (.invokestatic 137, 3) := by decide +kernel
theorem d_l_refused_1390 : decode (ch_bc m_l_refused) 1390 = .ok (.ifCond .eq 24, 3) := by decide +kernel
theorem d_l_refused_1393 : decode (ch_bc m_l_refused) 1393 = .ok (.aload_n 0, 1) := by decide +kernel
theorem d_l_refused_1394 : decode (ch_bc m_l_refused) 1394 = .ok (.invokevirtual 271, 3) := by decide +kernel
theorem d_l_refused_1397 : decode (ch_bc m_l_refused) 1397 = .ok (.iconst (-1), 1) := by decide +kernel
theorem d_l_refused_1398 : decode (ch_bc m_l_refused) 1398 = .ok (.if_icmp .ne 16, 3) := by decide +kernel
theorem d_l_refused_1401 : decode (ch_bc m_l_refused) 1401 = .ok (.aload_n 0, 1) := by decide +kernel
theorem d_l_refused_1402 : decode (ch_bc m_l_refused) 1402 = .ok (.invokestatic 254, 3) := by decide +kernel
theorem d_l_refused_1405 : decode (ch_bc m_l_refused) 1405 = .ok (.lload_n 1, 1) := by decide +kernel
theorem d_l_refused_1406 : decode (ch_bc m_l_refused) 1406 = .ok (.lcmp, 1) := by decide +kernel
theorem d_l_refused_1407 : decode (ch_bc m_l_refused) 1407 = .ok (.ifCond .ne 7, 3) := by decide +kernel
theorem d_l_refused_1410 : decode (ch_bc m_l_refused) 1410 = .ok (.iconst 1, 1) := by decide +kernel
theorem d_l_refused_1411 : decode (ch_bc m_l_refused) 1411 = .ok (.goto 4, 3) := by decide +kernel
theorem d_l_refused_1414 : decode (ch_bc m_l_refused) 1414 = .ok (.iconst 0, 1) := by decide +kernel
theorem d_l_refused_1415 : decode (ch_bc m_l_refused) 1415 = .ok (.ireturn, 1) := by decide +kernel
end
section
theorem d_c_set_0 : decode (ch_bc m_c_set) 0 = .ok (.aload_n 0, 1) := by decide +kernel
theorem d_c_set_1 : decode (ch_bc m_c_set) 1 = .ok (.iload_n 1, 1) := by decide +kernel
theorem d_c_set_2 : decode (ch_bc m_c_set) 2 = .ok (.putfield 16, 3) := by decide +kernel
theorem d_c_set_5 : decode (ch_bc m_c_set) 5 = .ok (.aload_n 0, 1) := by decide +kernel
theorem d_c_set_6 : decode (ch_bc m_c_set) 6 = .ok (.iload_n 2, 1) := by decide +kernel
theorem d_c_set_7 : decode (ch_bc m_c_set) 7 = .ok (.putfield 20, 3) := by decide +kernel
theorem d_c_set_10 : decode (ch_bc m_c_set) 10 = .ok (.aload_n 0, 1) := by decide +kernel
theorem d_c_set_11 : decode (ch_bc m_c_set) 11 = .ok (.iload_n 3, 1) := by decide +kernel
theorem d_c_set_12 : decode (ch_bc m_c_set) 12 = .ok (.putfield 23, 3) := by decide +kernel
theorem d_c_set_15 : decode (ch_bc m_c_set) 15 = .ok (.aload_n 0, 1) := by decide +kernel
theorem d_c_set_16 : decode (ch_bc m_c_set) 16 = .ok (.iload 4, 2) := by decide +kernel
theorem d_c_set_18 : decode (ch_bc m_c_set) 18 = .ok (.putfield 26, 3) := by decide +kernel
theorem d_c_set_21 : decode (ch_bc m_c_set) 21 = .ok (.return_, 1) := by decide +kernel
theorem d_p_keep_0 : decode (ch_bc m_p_keep) 0 = .ok (.aload_n 0, 1) := by decide +kernel
theorem d_p_keep_1 : decode (ch_bc m_p_keep) 1 = .ok (.aload_n 0, 1) := by decide +kernel
theorem d_p_keep_2 : decode (ch_bc m_p_keep) 2 = .ok (.getfield 18, 3) := by decide +kernel
theorem d_p_keep_5 : decode (ch_bc m_p_keep) 5 = .ok (.iconst 1, 1) := by decide +kernel
theorem d_p_keep_6 : decode (ch_bc m_p_keep) 6 = .ok (.iadd, 1) := by decide +kernel
theorem d_p_keep_7 : decode (ch_bc m_p_keep) 7 = .ok (.aload_n 0, 1) := by decide +kernel
theorem d_p_keep_8 : decode (ch_bc m_p_keep) 8 = .ok (.getfield 11, 3) := by decide +kernel
theorem d_p_keep_11 : decode (ch_bc m_p_keep) 11 = .ok (.arraylength, 1) := by decide +kernel
theorem d_p_keep_12 : decode (ch_bc m_p_keep) 12 = .ok (.if_icmp .ge 12, 3) := by decide +kernel
theorem d_p_keep_15 : decode (ch_bc m_p_keep) 15 = .ok (.aload_n 0, 1) := by decide +kernel
theorem d_p_keep_16 : decode (ch_bc m_p_keep) 16 = .ok (.getfield 18, 3) := by decide +kernel
theorem d_p_keep_19 : decode (ch_bc m_p_keep) 19 = .ok (.iconst 1, 1) := by decide +kernel
theorem d_p_keep_20 : decode (ch_bc m_p_keep) 20 = .ok (.iadd, 1) := by decide +kernel
theorem d_p_keep_21 : decode (ch_bc m_p_keep) 21 = .ok (.goto 4, 3) := by decide +kernel
theorem d_p_keep_24 : decode (ch_bc m_p_keep) 24 = .ok (.iconst 0, 1) := by decide +kernel
theorem d_p_keep_25 : decode (ch_bc m_p_keep) 25 = .ok (.putfield 18, 3) := by decide +kernel
theorem d_p_keep_28 : decode (ch_bc m_p_keep) 28 = .ok (.aload_n 0, 1) := by decide +kernel
theorem d_p_keep_29 : decode (ch_bc m_p_keep) 29 = .ok (.aload_n 0, 1) := by decide +kernel
theorem d_p_keep_30 : decode (ch_bc m_p_keep) 30 = .ok (.getfield 22, 3) := by decide +kernel
theorem d_p_keep_33 : decode (ch_bc m_p_keep) 33 = .ok (.aload_n 0, 1) := by decide +kernel
theorem d_p_keep_34 : decode (ch_bc m_p_keep) 34 = .ok (.getfield 11, 3) := by decide +kernel
theorem d_p_keep_37 : decode (ch_bc m_p_keep) 37 = .ok (.arraylength, 1) := by decide +kernel
theorem d_p_keep_38 : decode (ch_bc m_p_keep) 38 = .ok (.if_icmp .ge 12, 3) := by decide +kernel
theorem d_p_keep_41 : decode (ch_bc m_p_keep) 41 = .ok (.aload_n 0, 1) := by decide +kernel
theorem d_p_keep_42 : decode (ch_bc m_p_keep) 42 = .ok (.getfield 22, 3) := by decide +kernel
theorem d_p_keep_45 : decode (ch_bc m_p_keep) 45 = .ok (.iconst 1, 1) := by decide +kernel
theorem d_p_keep_46 : decode (ch_bc m_p_keep) 46 = .ok (.iadd, 1) := by decide +kernel
theorem d_p_keep_47 : decode (ch_bc m_p_keep) 47 = .ok (.goto 7, 3) := by decide +kernel
theorem d_p_keep_50 : decode (ch_bc m_p_keep) 50 = .ok (.aload_n 0, 1) := by decide +kernel
theorem d_p_keep_51 : decode (ch_bc m_p_keep) 51 = .ok (.getfield 22, 3) := by decide +kernel
theorem d_p_keep_54 : decode (ch_bc m_p_keep) 54 = .ok (.putfield 22, 3) := by decide +kernel
theorem d_p_keep_57 : decode (ch_bc m_p_keep) 57 = .ok (.aload_n 0, 1) := by decide +kernel
theorem d_p_keep_58 : decode (ch_bc m_p_keep) 58 = .ok (.getfield 11, 3) := by decide +kernel
theorem d_p_keep_61 : decode (ch_bc m_p_keep) 61 = .ok (.aload_n 0, 1) := by decide +kernel
theorem d_p_keep_62 : decode (ch_bc m_p_keep) 62 = .ok (.getfield 18, 3) := by decide +kernel
theorem d_p_keep_65 : decode (ch_bc m_p_keep) 65 = .ok (.aaload, 1) := by decide +kernel
theorem d_p_keep_66 : decode (ch_bc m_p_keep) 66 = .ok (.aload_n 1, 1) := by decide +kernel
theorem d_p_keep_67 : decode (ch_bc m_p_keep) 67 = .ok (.invokevirtual 25, 3) := by decide +kernel
theorem d_p_keep_70 : decode (ch_bc m_p_keep) 70 = .ok (.return_, 1) := by decide +kernel
theorem d_p_giveBack_0 : decode (ch_bc m_p_giveBack) 0 = .ok (.aload_n 1, 1) := by decide +kernel
theorem d_p_giveBack_1 : decode (ch_bc m_p_giveBack) 1 = .ok (.aload_n 0, 1) := by decide +kernel
theorem d_p_giveBack_2 : decode (ch_bc m_p_giveBack) 2 = .ok (.getfield 11, 3) := by decide +kernel
theorem d_p_giveBack_5 : decode (ch_bc m_p_giveBack) 5 = .ok (.aload_n 0, 1) := by decide +kernel
theorem d_p_giveBack_6 : decode (ch_bc m_p_giveBack) 6 = .ok (.getfield 18, 3) := by decide +kernel
theorem d_p_giveBack_9 : decode (ch_bc m_p_giveBack) 9 = .ok (.aaload, 1) := by decide +kernel
theorem d_p_giveBack_10 : decode (ch_bc m_p_giveBack) 10 = .ok (.invokevirtual 25, 3) := by decide +kernel
theorem d_p_giveBack_13 : decode (ch_bc m_p_giveBack) 13 = .ok (.aload_n 0, 1) := by decide +kernel
theorem d_p_giveBack_14 : decode (ch_bc m_p_giveBack) 14 = .ok (.aload_n 0, 1) := by decide +kernel
theorem d_p_giveBack_15 : decode (ch_bc m_p_giveBack) 15 = .ok (.getfield 18, 3) := by decide +kernel
theorem d_p_giveBack_18 : decode (ch_bc m_p_giveBack) 18 = .ok (.ifCond .le 12, 3) := by decide +kernel
theorem d_p_giveBack_21 : decode (ch_bc m_p_giveBack) 21 = .ok (.aload_n 0, 1) := by decide +kernel
theorem d_p_giveBack_22 : decode (ch_bc m_p_giveBack) 22 = .ok (.getfield 18, 3) := by decide +kernel
theorem d_p_giveBack_25 : decode (ch_bc m_p_giveBack) 25 = .ok (.iconst 1, 1) := by decide +kernel
theorem d_p_giveBack_26 : decode (ch_bc m_p_giveBack) 26 = .ok (.isub, 1) := by decide +kernel
theorem d_p_giveBack_27 : decode (ch_bc m_p_giveBack) 27 = .ok (.goto 10, 3) := by decide +kernel
theorem d_p_giveBack_30 : decode (ch_bc m_p_giveBack) 30 = .ok (.aload_n 0, 1) := by decide +kernel
theorem d_p_giveBack_31 : decode (ch_bc m_p_giveBack) 31 = .ok (.getfield 11, 3) := by decide +kernel
theorem d_p_giveBack_34 : decode (ch_bc m_p_giveBack) 34 = .ok (.arraylength, 1) := by decide +kernel
theorem d_p_giveBack_35 : decode (ch_bc m_p_giveBack) 35 = .ok (.iconst 1, 1) := by decide +kernel
theorem d_p_giveBack_36 : decode (ch_bc m_p_giveBack) 36 = .ok (.isub, 1) := by decide +kernel
theorem d_p_giveBack_37 : decode (ch_bc m_p_giveBack) 37 = .ok (.putfield 18, 3) := by decide +kernel
theorem d_p_giveBack_40 : decode (ch_bc m_p_giveBack) 40 = .ok (.aload_n 0, 1) := by decide +kernel
theorem d_p_giveBack_41 : decode (ch_bc m_p_giveBack) 41 = .ok (.dup, 1) := by decide +kernel
theorem d_p_giveBack_42 : decode (ch_bc m_p_giveBack) 42 = .ok (.getfield 22, 3) := by decide +kernel
theorem d_p_giveBack_45 : decode (ch_bc m_p_giveBack) 45 = .ok (.iconst 1, 1) := by decide +kernel
theorem d_p_giveBack_46 : decode (ch_bc m_p_giveBack) 46 = .ok (.isub, 1) := by decide +kernel
theorem d_p_giveBack_47 : decode (ch_bc m_p_giveBack) 47 = .ok (.putfield 22, 3) := by decide +kernel
theorem d_p_giveBack_50 : decode (ch_bc m_p_giveBack) 50 = .ok (.return_, 1) := by decide +kernel
theorem d_d_findFault_0 : decode (ch_bc m_d_findFault) 0 = .ok (.aload_n 0, 1) := by decide +kernel
theorem d_d_findFault_1 : decode (ch_bc m_d_findFault) 1 = .ok (.iconst 0, 1) := by decide +kernel
theorem d_d_findFault_2 : decode (ch_bc m_d_findFault) 2 = .ok (.putfield 9, 3) := by decide +kernel
theorem d_d_findFault_5 : decode (ch_bc m_d_findFault) 5 = .ok (.iconst 0, 1) := by decide +kernel
theorem d_d_findFault_6 : decode (ch_bc m_d_findFault) 6 = .ok (.istore_n 3, 1) := by decide +kernel
theorem d_d_findFault_7 : decode (ch_bc m_d_findFault) 7 = .ok (.iload_n 3, 1) := by decide +kernel
theorem d_d_findFault_8 : decode (ch_bc m_d_findFault) 8 = .ok (.bipush 60, 2) := by decide +kernel
theorem d_d_findFault_10 : decode (ch_bc m_d_findFault) 10 = .ok (.if_icmp .ge 51, 3) := by decide +kernel
theorem d_d_findFault_13 : decode (ch_bc m_d_findFault) 13 = .ok (.aload_n 0, 1) := by decide +kernel
theorem d_d_findFault_14 : decode (ch_bc m_d_findFault) 14 = .ok (.aload_n 1, 1) := by decide +kernel
theorem d_d_findFault_15 : decode (ch_bc m_d_findFault) 15 = .ok (.aload_n 2, 1) := by decide +kernel
theorem d_d_findFault_16 : decode (ch_bc m_d_findFault) 16 = .ok (.invokevirtual 15, 3) := by decide +kernel
theorem d_d_findFault_19 : decode (ch_bc m_d_findFault) 19 = .ok (.ifCond .ne 8, 3) := by decide +kernel
theorem d_d_findFault_22 : decode (ch_bc m_d_findFault) 22 = .ok (.aload_n 0, 1) := by decide +kernel
theorem d_d_findFault_23 : decode (ch_bc m_d_findFault) 23 = .ok (.getfield 9, 3) := by decide +kernel
theorem d_d_findFault_26 : decode (ch_bc m_d_findFault) 26 = .ok (.ireturn, 1) := by decide +kernel
theorem d_d_findFault_27 : decode (ch_bc m_d_findFault) 27 = .ok (.aload_n 0, 1) := by decide +kernel
theorem d_d_findFault_28 : decode (ch_bc m_d_findFault) 28 = .ok (.getfield 9, 3) := by decide +kernel
theorem d_d_findFault_31 : decode (ch_bc m_d_findFault) 31 = .ok (.aload_n 1, 1) := by decide +kernel
theorem d_d_findFault_32 : decode (ch_bc m_d_findFault) 32 = .ok (.getfield 19, 3) := by decide +kernel
theorem d_d_findFault_35 : decode (ch_bc m_d_findFault) 35 = .ok (.if_icmp .ne 5, 3) := by decide +kernel
theorem d_d_findFault_38 : decode (ch_bc m_d_findFault) 38 = .ok (.iconst (-1), 1) := by decide +kernel
theorem d_d_findFault_39 : decode (ch_bc m_d_findFault) 39 = .ok (.ireturn, 1) := by decide +kernel
theorem d_d_findFault_40 : decode (ch_bc m_d_findFault) 40 = .ok (.aload_n 0, 1) := by decide +kernel
theorem d_d_findFault_41 : decode (ch_bc m_d_findFault) 41 = .ok (.aload_n 1, 1) := by decide +kernel
theorem d_d_findFault_42 : decode (ch_bc m_d_findFault) 42 = .ok (.bipush 59, 2) := by decide +kernel
theorem d_d_findFault_44 : decode (ch_bc m_d_findFault) 44 = .ok (.invokevirtual 24, 3) := by decide +kernel
theorem d_d_findFault_47 : decode (ch_bc m_d_findFault) 47 = .ok (.ifCond .ne 8, 3) := by decide +kernel
theorem d_d_findFault_50 : decode (ch_bc m_d_findFault) 50 = .ok (.aload_n 0, 1) := by decide +kernel
theorem d_d_findFault_51 : decode (ch_bc m_d_findFault) 51 = .ok (.getfield 9, 3) := by decide +kernel
theorem d_d_findFault_54 : decode (ch_bc m_d_findFault) 54 = .ok (.ireturn, 1) := by decide +kernel
theorem d_d_findFault_55 : decode (ch_bc m_d_findFault) 55 = .ok (.iinc 3 1, 3) := by decide +kernel
theorem d_d_findFault_58 : decode (ch_bc m_d_findFault) 58 = .ok (.goto (-51), 3) := by decide +kernel
theorem d_d_findFault_61 : decode (ch_bc m_d_findFault) 61 = .ok (.aload_n 0, 1) := by decide +kernel
theorem d_d_findFault_62 : decode (ch_bc m_d_findFault) 62 = .ok (.getfield 9, 3) := by decide +kernel
theorem d_d_findFault_65 : decode (ch_bc m_d_findFault) 65 = .ok (.ireturn, 1) := by decide +kernel
theorem d_d_takeCommand_0 : decode (ch_bc m_d_takeCommand) 0 = .ok (.aload_n 0, 1) := by decide +kernel
theorem d_d_takeCommand_1 : decode (ch_bc m_d_takeCommand) 1 = .ok (.aload_n 1, 1) := by decide +kernel
theorem d_d_takeCommand_2 : decode (ch_bc m_d_takeCommand) 2 = .ok (.invokevirtual 28, 3) := by decide +kernel
theorem d_d_takeCommand_5 : decode (ch_bc m_d_takeCommand) 5 = .ok (.istore_n 3, 1) := by decide +kernel
theorem d_d_takeCommand_6 : decode (ch_bc m_d_takeCommand) 6 = .ok (.aload_n 0, 1) := by decide +kernel
theorem d_d_takeCommand_7 : decode (ch_bc m_d_takeCommand) 7 = .ok (.iload_n 3, 1) := by decide +kernel
theorem d_d_takeCommand_8 : decode (ch_bc m_d_takeCommand) 8 = .ok (.invokevirtual 32, 3) := by decide +kernel
theorem d_d_takeCommand_11 : decode (ch_bc m_d_takeCommand) 11 = .ok (.ifCond .ne 5, 3) := by decide +kernel
theorem d_d_takeCommand_14 : decode (ch_bc m_d_takeCommand) 14 = .ok (.iconst 0, 1) := by decide +kernel
theorem d_d_takeCommand_15 : decode (ch_bc m_d_takeCommand) 15 = .ok (.ireturn, 1) := by decide +kernel
theorem d_d_takeCommand_16 : decode (ch_bc m_d_takeCommand) 16 = .ok (.aload_n 0, 1) := by decide +kernel
theorem d_d_takeCommand_17 : decode (ch_bc m_d_takeCommand) 17 = .ok (.dup, 1) := by decide +kernel
theorem d_d_takeCommand_18 : decode (ch_bc m_d_takeCommand) 18 = .ok (.getfield 9, 3) := by decide +kernel
theorem d_d_takeCommand_21 : decode (ch_bc m_d_takeCommand) 21 = .ok (.iconst 1, 1) := by decide +kernel
theorem d_d_takeCommand_22 : decode (ch_bc m_d_takeCommand) 22 = .ok (.iadd, 1) := by decide +kernel
theorem d_d_takeCommand_23 : decode (ch_bc m_d_takeCommand) 23 = .ok (.putfield 9, 3) := by decide +kernel
theorem d_d_takeCommand_26 : decode (ch_bc m_d_takeCommand) 26 = .ok (.aload_n 2, 1) := by decide +kernel
theorem d_d_takeCommand_27 : decode (ch_bc m_d_takeCommand) 27 = .ok (.iload_n 3, 1) := by decide +kernel
theorem d_d_takeCommand_28 : decode (ch_bc m_d_takeCommand) 28 = .ok (.iconst 0, 1) := by decide +kernel
theorem d_d_takeCommand_29 : decode (ch_bc m_d_takeCommand) 29 = .ok (.iconst 0, 1) := by decide +kernel
theorem d_d_takeCommand_30 : decode (ch_bc m_d_takeCommand) 30 = .ok (.iconst 0, 1) := by decide +kernel
theorem d_d_takeCommand_31 : decode (ch_bc m_d_takeCommand) 31 = .ok (.invokevirtual 36, 3) := by decide +kernel
theorem d_d_takeCommand_34 : decode (ch_bc m_d_takeCommand) 34 = .ok (.iload_n 3, 1) := by decide +kernel
theorem d_d_takeCommand_35 : decode (ch_bc m_d_takeCommand) 35 = .ok (.tableswitch 225 99 116 #[92, 225, 225, 225, 172, 126, 225, 225, 225, 225, 225, 85, 225, 225, 225, 163, 225, 170], 85) := by decide +kernel
theorem d_d_takeCommand_120 : decode (ch_bc m_d_takeCommand) 120 = .ok (.aload_n 0, 1) := by decide +kernel
theorem d_d_takeCommand_121 : decode (ch_bc m_d_takeCommand) 121 = .ok (.aload_n 1, 1) := by decide +kernel
theorem d_d_takeCommand_122 : decode (ch_bc m_d_takeCommand) 122 = .ok (.aload_n 2, 1) := by decide +kernel
theorem d_d_takeCommand_123 : decode (ch_bc m_d_takeCommand) 123 = .ok (.invokevirtual 42, 3) := by decide +kernel
theorem d_d_takeCommand_126 : decode (ch_bc m_d_takeCommand) 126 = .ok (.ireturn, 1) := by decide +kernel
theorem d_d_takeCommand_127 : decode (ch_bc m_d_takeCommand) 127 = .ok (.aload_n 0, 1) := by decide +kernel
theorem d_d_takeCommand_128 : decode (ch_bc m_d_takeCommand) 128 = .ok (.aload_n 1, 1) := by decide +kernel
theorem d_d_takeCommand_129 : decode (ch_bc m_d_takeCommand) 129 = .ok (.aload_n 2, 1) := by decide +kernel
theorem d_d_takeCommand_130 : decode (ch_bc m_d_takeCommand) 130 = .ok (.invokevirtual 45, 3) := by decide +kernel
theorem d_d_takeCommand_133 : decode (ch_bc m_d_takeCommand) 133 = .ok (.ifCond .eq 26, 3) := by decide +kernel
theorem d_d_takeCommand_136 : decode (ch_bc m_d_takeCommand) 136 = .ok (.aload_n 0, 1) := by decide +kernel
theorem d_d_takeCommand_137 : decode (ch_bc m_d_takeCommand) 137 = .ok (.aload_n 1, 1) := by decide +kernel
theorem d_d_takeCommand_138 : decode (ch_bc m_d_takeCommand) 138 = .ok (.bipush 64, 2) := by decide +kernel
theorem d_d_takeCommand_140 : decode (ch_bc m_d_takeCommand) 140 = .ok (.invokevirtual 24, 3) := by decide +kernel
theorem d_d_takeCommand_143 : decode (ch_bc m_d_takeCommand) 143 = .ok (.ifCond .eq 16, 3) := by decide +kernel
theorem d_d_takeCommand_146 : decode (ch_bc m_d_takeCommand) 146 = .ok (.aload_n 0, 1) := by decide +kernel
theorem d_d_takeCommand_147 : decode (ch_bc m_d_takeCommand) 147 = .ok (.aload_n 1, 1) := by decide +kernel
theorem d_d_takeCommand_148 : decode (ch_bc m_d_takeCommand) 148 = .ok (.aload_n 2, 1) := by decide +kernel
theorem d_d_takeCommand_149 : decode (ch_bc m_d_takeCommand) 149 = .ok (.invokevirtual 42, 3) := by decide +kernel
theorem d_d_takeCommand_152 : decode (ch_bc m_d_takeCommand) 152 = .ok (.ifCond .eq 7, 3) := by decide +kernel
theorem d_d_takeCommand_155 : decode (ch_bc m_d_takeCommand) 155 = .ok (.iconst 1, 1) := by decide +kernel
theorem d_d_takeCommand_156 : decode (ch_bc m_d_takeCommand) 156 = .ok (.goto 4, 3) := by decide +kernel
theorem d_d_takeCommand_159 : decode (ch_bc m_d_takeCommand) 159 = .ok (.iconst 0, 1) := by decide +kernel
theorem d_d_takeCommand_160 : decode (ch_bc m_d_takeCommand) 160 = .ok (.ireturn, 1) := by decide +kernel
theorem d_d_takeCommand_161 : decode (ch_bc m_d_takeCommand) 161 = .ok (.aload_n 0, 1) := by decide +kernel
theorem d_d_takeCommand_162 : decode (ch_bc m_d_takeCommand) 162 = .ok (.aload_n 1, 1) := by decide +kernel
theorem d_d_takeCommand_163 : decode (ch_bc m_d_takeCommand) 163 = .ok (.aload_n 2, 1) := by decide +kernel
theorem d_d_takeCommand_164 : decode (ch_bc m_d_takeCommand) 164 = .ok (.invokevirtual 45, 3) := by decide +kernel
theorem d_d_takeCommand_167 : decode (ch_bc m_d_takeCommand) 167 = .ok (.ifCond .eq 29, 3) := by decide +kernel
theorem d_d_takeCommand_170 : decode (ch_bc m_d_takeCommand) 170 = .ok (.aload_n 0, 1) := by decide +kernel
theorem d_d_takeCommand_171 : decode (ch_bc m_d_takeCommand) 171 = .ok (.aload_n 1, 1) := by decide +kernel
theorem d_d_takeCommand_172 : decode (ch_bc m_d_takeCommand) 172 = .ok (.bipush 58, 2) := by decide +kernel
theorem d_d_takeCommand_174 : decode (ch_bc m_d_takeCommand) 174 = .ok (.invokevirtual 24, 3) := by decide +kernel
theorem d_d_takeCommand_177 : decode (ch_bc m_d_takeCommand) 177 = .ok (.ifCond .eq 19, 3) := by decide +kernel
theorem d_d_takeCommand_180 : decode (ch_bc m_d_takeCommand) 180 = .ok (.aload_n 0, 1) := by decide +kernel
theorem d_d_takeCommand_181 : decode (ch_bc m_d_takeCommand) 181 = .ok (.aload_n 1, 1) := by decide +kernel
theorem d_d_takeCommand_182 : decode (ch_bc m_d_takeCommand) 182 = .ok (.aload_n 2, 1) := by decide +kernel
theorem d_d_takeCommand_183 : decode (ch_bc m_d_takeCommand) 183 = .ok (.getfield 48, 3) := by decide +kernel
theorem d_d_takeCommand_186 : decode (ch_bc m_d_takeCommand) 186 = .ok (.invokevirtual 52, 3) := by decide +kernel
theorem d_d_takeCommand_189 : decode (ch_bc m_d_takeCommand) 189 = .ok (.ifCond .eq 7, 3) := by decide +kernel
theorem d_d_takeCommand_192 : decode (ch_bc m_d_takeCommand) 192 = .ok (.iconst 1, 1) := by decide +kernel
theorem d_d_takeCommand_193 : decode (ch_bc m_d_takeCommand) 193 = .ok (.goto 4, 3) := by decide +kernel
theorem d_d_takeCommand_196 : decode (ch_bc m_d_takeCommand) 196 = .ok (.iconst 0, 1) := by decide +kernel
theorem d_d_takeCommand_197 : decode (ch_bc m_d_takeCommand) 197 = .ok (.ireturn, 1) := by decide +kernel
theorem d_d_takeCommand_198 : decode (ch_bc m_d_takeCommand) 198 = .ok (.aload_n 0, 1) := by decide +kernel
theorem d_d_takeCommand_199 : decode (ch_bc m_d_takeCommand) 199 = .ok (.aload_n 1, 1) := by decide +kernel
theorem d_d_takeCommand_200 : decode (ch_bc m_d_takeCommand) 200 = .ok (.aload_n 2, 1) := by decide +kernel
theorem d_d_takeCommand_201 : decode (ch_bc m_d_takeCommand) 201 = .ok (.invokevirtual 56, 3) := by decide +kernel
theorem d_d_takeCommand_204 : decode (ch_bc m_d_takeCommand) 204 = .ok (.ireturn, 1) := by decide +kernel
theorem d_d_takeCommand_205 : decode (ch_bc m_d_takeCommand) 205 = .ok (.iconst 1, 1) := by decide +kernel
theorem d_d_takeCommand_206 : decode (ch_bc m_d_takeCommand) 206 = .ok (.ireturn, 1) := by decide +kernel
theorem d_d_takeCommand_207 : decode (ch_bc m_d_takeCommand) 207 = .ok (.aload_n 0, 1) := by decide +kernel
theorem d_d_takeCommand_208 : decode (ch_bc m_d_takeCommand) 208 = .ok (.aload_n 1, 1) := by decide +kernel
theorem d_d_takeCommand_209 : decode (ch_bc m_d_takeCommand) 209 = .ok (.aload_n 2, 1) := by decide +kernel
theorem d_d_takeCommand_210 : decode (ch_bc m_d_takeCommand) 210 = .ok (.invokevirtual 45, 3) := by decide +kernel
theorem d_d_takeCommand_213 : decode (ch_bc m_d_takeCommand) 213 = .ok (.ifCond .eq 45, 3) := by decide +kernel
theorem d_d_takeCommand_216 : decode (ch_bc m_d_takeCommand) 216 = .ok (.aload_n 0, 1) := by decide +kernel
theorem d_d_takeCommand_217 : decode (ch_bc m_d_takeCommand) 217 = .ok (.aload_n 1, 1) := by decide +kernel
theorem d_d_takeCommand_218 : decode (ch_bc m_d_takeCommand) 218 = .ok (.bipush 62, 2) := by decide +kernel
theorem d_d_takeCommand_220 : decode (ch_bc m_d_takeCommand) 220 = .ok (.invokevirtual 24, 3) := by decide +kernel
theorem d_d_takeCommand_223 : decode (ch_bc m_d_takeCommand) 223 = .ok (.ifCond .eq 35, 3) := by decide +kernel
theorem d_d_takeCommand_226 : decode (ch_bc m_d_takeCommand) 226 = .ok (.aload_n 0, 1) := by decide +kernel
theorem d_d_takeCommand_227 : decode (ch_bc m_d_takeCommand) 227 = .ok (.aload_n 1, 1) := by decide +kernel
theorem d_d_takeCommand_228 : decode (ch_bc m_d_takeCommand) 228 = .ok (.aload_n 2, 1) := by decide +kernel
theorem d_d_takeCommand_229 : decode (ch_bc m_d_takeCommand) 229 = .ok (.invokevirtual 59, 3) := by decide +kernel
theorem d_d_takeCommand_232 : decode (ch_bc m_d_takeCommand) 232 = .ok (.ifCond .eq 26, 3) := by decide +kernel
theorem d_d_takeCommand_235 : decode (ch_bc m_d_takeCommand) 235 = .ok (.aload_n 0, 1) := by decide +kernel
theorem d_d_takeCommand_236 : decode (ch_bc m_d_takeCommand) 236 = .ok (.aload_n 1, 1) := by decide +kernel
theorem d_d_takeCommand_237 : decode (ch_bc m_d_takeCommand) 237 = .ok (.bipush 42, 2) := by decide +kernel
theorem d_d_takeCommand_239 : decode (ch_bc m_d_takeCommand) 239 = .ok (.invokevirtual 24, 3) := by decide +kernel
theorem d_d_takeCommand_242 : decode (ch_bc m_d_takeCommand) 242 = .ok (.ifCond .eq 16, 3) := by decide +kernel
theorem d_d_takeCommand_245 : decode (ch_bc m_d_takeCommand) 245 = .ok (.aload_n 0, 1) := by decide +kernel
theorem d_d_takeCommand_246 : decode (ch_bc m_d_takeCommand) 246 = .ok (.aload_n 1, 1) := by decide +kernel
theorem d_d_takeCommand_247 : decode (ch_bc m_d_takeCommand) 247 = .ok (.aload_n 2, 1) := by decide +kernel
theorem d_d_takeCommand_248 : decode (ch_bc m_d_takeCommand) 248 = .ok (.invokevirtual 42, 3) := by decide +kernel
theorem d_d_takeCommand_251 : decode (ch_bc m_d_takeCommand) 251 = .ok (.ifCond .eq 7, 3) := by decide +kernel
theorem d_d_takeCommand_254 : decode (ch_bc m_d_takeCommand) 254 = .ok (.iconst 1, 1) := by decide +kernel
theorem d_d_takeCommand_255 : decode (ch_bc m_d_takeCommand) 255 = .ok (.goto 4, 3) := by decide +kernel
theorem d_d_takeCommand_258 : decode (ch_bc m_d_takeCommand) 258 = .ok (.iconst 0, 1) := by decide +kernel
theorem d_d_takeCommand_259 : decode (ch_bc m_d_takeCommand) 259 = .ok (.ireturn, 1) := by decide +kernel
theorem d_d_takeCommand_260 : decode (ch_bc m_d_takeCommand) 260 = .ok (.aload_n 0, 1) := by decide +kernel
theorem d_d_takeCommand_261 : decode (ch_bc m_d_takeCommand) 261 = .ok (.aload_n 1, 1) := by decide +kernel
theorem d_d_takeCommand_262 : decode (ch_bc m_d_takeCommand) 262 = .ok (.aload_n 2, 1) := by decide +kernel
theorem d_d_takeCommand_263 : decode (ch_bc m_d_takeCommand) 263 = .ok (.invokevirtual 45, 3) := by decide +kernel
theorem d_d_takeCommand_266 : decode (ch_bc m_d_takeCommand) 266 = .ok (.ireturn, 1) := by decide +kernel
theorem d_d_takeSign_0 : decode (ch_bc m_d_takeSign) 0 = .ok (.aload_n 0, 1) := by decide +kernel
theorem d_d_takeSign_1 : decode (ch_bc m_d_takeSign) 1 = .ok (.aload_n 1, 1) := by decide +kernel
theorem d_d_takeSign_2 : decode (ch_bc m_d_takeSign) 2 = .ok (.invokevirtual 28, 3) := by decide +kernel
theorem d_d_takeSign_5 : decode (ch_bc m_d_takeSign) 5 = .ok (.iload_n 2, 1) := by decide +kernel
theorem d_d_takeSign_6 : decode (ch_bc m_d_takeSign) 6 = .ok (.if_icmp .eq 5, 3) := by decide +kernel
theorem d_d_takeSign_9 : decode (ch_bc m_d_takeSign) 9 = .ok (.iconst 0, 1) := by decide +kernel
theorem d_d_takeSign_10 : decode (ch_bc m_d_takeSign) 10 = .ok (.ireturn, 1) := by decide +kernel
theorem d_d_takeSign_11 : decode (ch_bc m_d_takeSign) 11 = .ok (.aload_n 0, 1) := by decide +kernel
theorem d_d_takeSign_12 : decode (ch_bc m_d_takeSign) 12 = .ok (.dup, 1) := by decide +kernel
theorem d_d_takeSign_13 : decode (ch_bc m_d_takeSign) 13 = .ok (.getfield 9, 3) := by decide +kernel
theorem d_d_takeSign_16 : decode (ch_bc m_d_takeSign) 16 = .ok (.iconst 1, 1) := by decide +kernel
theorem d_d_takeSign_17 : decode (ch_bc m_d_takeSign) 17 = .ok (.iadd, 1) := by decide +kernel
theorem d_d_takeSign_18 : decode (ch_bc m_d_takeSign) 18 = .ok (.putfield 9, 3) := by decide +kernel
theorem d_d_takeSign_21 : decode (ch_bc m_d_takeSign) 21 = .ok (.iconst 1, 1) := by decide +kernel
theorem d_d_takeSign_22 : decode (ch_bc m_d_takeSign) 22 = .ok (.ireturn, 1) := by decide +kernel
theorem d_d_isKind_0 : decode (ch_bc m_d_isKind) 0 = .ok (.iload_n 1, 1) := by decide +kernel
theorem d_d_isKind_1 : decode (ch_bc m_d_isKind) 1 = .ok (.tableswitch 101 99 119 #[99, 101, 101, 101, 99, 99, 101, 101, 101, 101, 101, 99, 101, 101, 101, 99, 99, 99, 101, 101, 99], 99) := by decide +kernel
theorem d_d_isKind_100 : decode (ch_bc m_d_isKind) 100 = .ok (.iconst 1, 1) := by decide +kernel
theorem d_d_isKind_101 : decode (ch_bc m_d_isKind) 101 = .ok (.ireturn, 1) := by decide +kernel
theorem d_d_isKind_102 : decode (ch_bc m_d_isKind) 102 = .ok (.iconst 0, 1) := by decide +kernel
theorem d_d_isKind_103 : decode (ch_bc m_d_isKind) 103 = .ok (.ireturn, 1) := by decide +kernel
theorem d_d_takeChild_0 : decode (ch_bc m_d_takeChild) 0 = .ok (.aload_n 2, 1) := by decide +kernel
theorem d_d_takeChild_1 : decode (ch_bc m_d_takeChild) 1 = .ok (.aload_n 0, 1) := by decide +kernel
theorem d_d_takeChild_2 : decode (ch_bc m_d_takeChild) 2 = .ok (.aload_n 1, 1) := by decide +kernel
theorem d_d_takeChild_3 : decode (ch_bc m_d_takeChild) 3 = .ok (.invokevirtual 62, 3) := by decide +kernel
theorem d_d_takeChild_6 : decode (ch_bc m_d_takeChild) 6 = .ok (.putfield 65, 3) := by decide +kernel
theorem d_d_takeChild_9 : decode (ch_bc m_d_takeChild) 9 = .ok (.aload_n 0, 1) := by decide +kernel
theorem d_d_takeChild_10 : decode (ch_bc m_d_takeChild) 10 = .ok (.aload_n 1, 1) := by decide +kernel
theorem d_d_takeChild_11 : decode (ch_bc m_d_takeChild) 11 = .ok (.invokevirtual 68, 3) := by decide +kernel
theorem d_d_takeChild_14 : decode (ch_bc m_d_takeChild) 14 = .ok (.ireturn, 1) := by decide +kernel
theorem d_d_takeOther_0 : decode (ch_bc m_d_takeOther) 0 = .ok (.aload_n 2, 1) := by decide +kernel
theorem d_d_takeOther_1 : decode (ch_bc m_d_takeOther) 1 = .ok (.aload_n 0, 1) := by decide +kernel
theorem d_d_takeOther_2 : decode (ch_bc m_d_takeOther) 2 = .ok (.aload_n 1, 1) := by decide +kernel
theorem d_d_takeOther_3 : decode (ch_bc m_d_takeOther) 3 = .ok (.invokevirtual 62, 3) := by decide +kernel
theorem d_d_takeOther_6 : decode (ch_bc m_d_takeOther) 6 = .ok (.putfield 72, 3) := by decide +kernel
theorem d_d_takeOther_9 : decode (ch_bc m_d_takeOther) 9 = .ok (.aload_n 0, 1) := by decide +kernel
theorem d_d_takeOther_10 : decode (ch_bc m_d_takeOther) 10 = .ok (.aload_n 1, 1) := by decide +kernel
theorem d_d_takeOther_11 : decode (ch_bc m_d_takeOther) 11 = .ok (.invokevirtual 68, 3) := by decide +kernel
theorem d_d_takeOther_14 : decode (ch_bc m_d_takeOther) 14 = .ok (.ireturn, 1) := by decide +kernel
theorem d_d_takeDigit_0 : decode (ch_bc m_d_takeDigit) 0 = .ok (.aload_n 2, 1) := by decide +kernel
theorem d_d_takeDigit_1 : decode (ch_bc m_d_takeDigit) 1 = .ok (.aload_n 0, 1) := by decide +kernel
theorem d_d_takeDigit_2 : decode (ch_bc m_d_takeDigit) 2 = .ok (.aload_n 1, 1) := by decide +kernel
theorem d_d_takeDigit_3 : decode (ch_bc m_d_takeDigit) 3 = .ok (.invokevirtual 62, 3) := by decide +kernel
theorem d_d_takeDigit_6 : decode (ch_bc m_d_takeDigit) 6 = .ok (.putfield 75, 3) := by decide +kernel
theorem d_d_takeDigit_9 : decode (ch_bc m_d_takeDigit) 9 = .ok (.aload_n 0, 1) := by decide +kernel
theorem d_d_takeDigit_10 : decode (ch_bc m_d_takeDigit) 10 = .ok (.aload_n 1, 1) := by decide +kernel
theorem d_d_takeDigit_11 : decode (ch_bc m_d_takeDigit) 11 = .ok (.invokevirtual 68, 3) := by decide +kernel
theorem d_d_takeDigit_14 : decode (ch_bc m_d_takeDigit) 14 = .ok (.ireturn, 1) := by decide +kernel
theorem d_d_takeNumber_0 : decode (ch_bc m_d_takeNumber) 0 = .ok (.aload_n 0, 1) := by decide +kernel
theorem d_d_takeNumber_1 : decode (ch_bc m_d_takeNumber) 1 = .ok (.aload_n 1, 1) := by decide +kernel
theorem d_d_takeNumber_2 : decode (ch_bc m_d_takeNumber) 2 = .ok (.aload_n 2, 1) := by decide +kernel
theorem d_d_takeNumber_3 : decode (ch_bc m_d_takeNumber) 3 = .ok (.invokevirtual 56, 3) := by decide +kernel
theorem d_d_takeNumber_6 : decode (ch_bc m_d_takeNumber) 6 = .ok (.ifCond .ne 5, 3) := by decide +kernel
theorem d_d_takeNumber_9 : decode (ch_bc m_d_takeNumber) 9 = .ok (.iconst 0, 1) := by decide +kernel
theorem d_d_takeNumber_10 : decode (ch_bc m_d_takeNumber) 10 = .ok (.ireturn, 1) := by decide +kernel
theorem d_d_takeNumber_11 : decode (ch_bc m_d_takeNumber) 11 = .ok (.aload_n 0, 1) := by decide +kernel
theorem d_d_takeNumber_12 : decode (ch_bc m_d_takeNumber) 12 = .ok (.aload_n 1, 1) := by decide +kernel
theorem d_d_takeNumber_13 : decode (ch_bc m_d_takeNumber) 13 = .ok (.invokevirtual 62, 3) := by decide +kernel
theorem d_d_takeNumber_16 : decode (ch_bc m_d_takeNumber) 16 = .ok (.istore_n 3, 1) := by decide +kernel
theorem d_d_takeNumber_17 : decode (ch_bc m_d_takeNumber) 17 = .ok (.aload_n 0, 1) := by decide +kernel
theorem d_d_takeNumber_18 : decode (ch_bc m_d_takeNumber) 18 = .ok (.aload_n 1, 1) := by decide +kernel
theorem d_d_takeNumber_19 : decode (ch_bc m_d_takeNumber) 19 = .ok (.invokevirtual 68, 3) := by decide +kernel
theorem d_d_takeNumber_22 : decode (ch_bc m_d_takeNumber) 22 = .ok (.ifCond .eq 16, 3) := by decide +kernel
theorem d_d_takeNumber_25 : decode (ch_bc m_d_takeNumber) 25 = .ok (.aload_n 2, 1) := by decide +kernel
theorem d_d_takeNumber_26 : decode (ch_bc m_d_takeNumber) 26 = .ok (.aload_n 2, 1) := by decide +kernel
theorem d_d_takeNumber_27 : decode (ch_bc m_d_takeNumber) 27 = .ok (.getfield 75, 3) := by decide +kernel
theorem d_d_takeNumber_30 : decode (ch_bc m_d_takeNumber) 30 = .ok (.bipush 10, 2) := by decide +kernel
theorem d_d_takeNumber_32 : decode (ch_bc m_d_takeNumber) 32 = .ok (.imul, 1) := by decide +kernel
theorem d_d_takeNumber_33 : decode (ch_bc m_d_takeNumber) 33 = .ok (.iload_n 3, 1) := by decide +kernel
theorem d_d_takeNumber_34 : decode (ch_bc m_d_takeNumber) 34 = .ok (.iadd, 1) := by decide +kernel
theorem d_d_takeNumber_35 : decode (ch_bc m_d_takeNumber) 35 = .ok (.putfield 75, 3) := by decide +kernel
theorem d_d_takeNumber_38 : decode (ch_bc m_d_takeNumber) 38 = .ok (.iconst 1, 1) := by decide +kernel
theorem d_d_takeNumber_39 : decode (ch_bc m_d_takeNumber) 39 = .ok (.ireturn, 1) := by decide +kernel
theorem d_d_takeSteps_0 : decode (ch_bc m_d_takeSteps) 0 = .ok (.aload_n 2, 1) := by decide +kernel
theorem d_d_takeSteps_1 : decode (ch_bc m_d_takeSteps) 1 = .ok (.iconst 0, 1) := by decide +kernel
theorem d_d_takeSteps_2 : decode (ch_bc m_d_takeSteps) 2 = .ok (.putfield 78, 3) := by decide +kernel
theorem d_d_takeSteps_5 : decode (ch_bc m_d_takeSteps) 5 = .ok (.iconst 0, 1) := by decide +kernel
theorem d_d_takeSteps_6 : decode (ch_bc m_d_takeSteps) 6 = .ok (.istore_n 3, 1) := by decide +kernel
theorem d_d_takeSteps_7 : decode (ch_bc m_d_takeSteps) 7 = .ok (.iload_n 3, 1) := by decide +kernel
theorem d_d_takeSteps_8 : decode (ch_bc m_d_takeSteps) 8 = .ok (.bipush 12, 2) := by decide +kernel
theorem d_d_takeSteps_10 : decode (ch_bc m_d_takeSteps) 10 = .ok (.if_icmp .ge 47, 3) := by decide +kernel
theorem d_d_takeSteps_13 : decode (ch_bc m_d_takeSteps) 13 = .ok (.aload_n 0, 1) := by decide +kernel
theorem d_d_takeSteps_14 : decode (ch_bc m_d_takeSteps) 14 = .ok (.aload_n 1, 1) := by decide +kernel
theorem d_d_takeSteps_15 : decode (ch_bc m_d_takeSteps) 15 = .ok (.invokevirtual 62, 3) := by decide +kernel
theorem d_d_takeSteps_18 : decode (ch_bc m_d_takeSteps) 18 = .ok (.istore 4, 2) := by decide +kernel
theorem d_d_takeSteps_20 : decode (ch_bc m_d_takeSteps) 20 = .ok (.iload 4, 2) := by decide +kernel
theorem d_d_takeSteps_22 : decode (ch_bc m_d_takeSteps) 22 = .ok (.iconst 1, 1) := by decide +kernel
theorem d_d_takeSteps_23 : decode (ch_bc m_d_takeSteps) 23 = .ok (.if_icmp .lt 34, 3) := by decide +kernel
theorem d_d_takeSteps_26 : decode (ch_bc m_d_takeSteps) 26 = .ok (.iload 4, 2) := by decide +kernel
theorem d_d_takeSteps_28 : decode (ch_bc m_d_takeSteps) 28 = .ok (.iconst 3, 1) := by decide +kernel
theorem d_d_takeSteps_29 : decode (ch_bc m_d_takeSteps) 29 = .ok (.if_icmp .le 6, 3) := by decide +kernel
theorem d_d_takeSteps_32 : decode (ch_bc m_d_takeSteps) 32 = .ok (.goto 25, 3) := by decide +kernel
theorem d_d_takeSteps_35 : decode (ch_bc m_d_takeSteps) 35 = .ok (.aload_n 2, 1) := by decide +kernel
theorem d_d_takeSteps_36 : decode (ch_bc m_d_takeSteps) 36 = .ok (.iload 4, 2) := by decide +kernel
theorem d_d_takeSteps_38 : decode (ch_bc m_d_takeSteps) 38 = .ok (.invokevirtual 83, 3) := by decide +kernel
theorem d_d_takeSteps_41 : decode (ch_bc m_d_takeSteps) 41 = .ok (.aload_n 0, 1) := by decide +kernel
theorem d_d_takeSteps_42 : decode (ch_bc m_d_takeSteps) 42 = .ok (.dup, 1) := by decide +kernel
theorem d_d_takeSteps_43 : decode (ch_bc m_d_takeSteps) 43 = .ok (.getfield 9, 3) := by decide +kernel
theorem d_d_takeSteps_46 : decode (ch_bc m_d_takeSteps) 46 = .ok (.iconst 1, 1) := by decide +kernel
theorem d_d_takeSteps_47 : decode (ch_bc m_d_takeSteps) 47 = .ok (.iadd, 1) := by decide +kernel
theorem d_d_takeSteps_48 : decode (ch_bc m_d_takeSteps) 48 = .ok (.putfield 9, 3) := by decide +kernel
theorem d_d_takeSteps_51 : decode (ch_bc m_d_takeSteps) 51 = .ok (.iinc 3 1, 3) := by decide +kernel
theorem d_d_takeSteps_54 : decode (ch_bc m_d_takeSteps) 54 = .ok (.goto (-47), 3) := by decide +kernel
theorem d_d_takeSteps_57 : decode (ch_bc m_d_takeSteps) 57 = .ok (.aload_n 2, 1) := by decide +kernel
theorem d_d_takeSteps_58 : decode (ch_bc m_d_takeSteps) 58 = .ok (.getfield 78, 3) := by decide +kernel
theorem d_d_takeSteps_61 : decode (ch_bc m_d_takeSteps) 61 = .ok (.ifCond .le 7, 3) := by decide +kernel
theorem d_d_takeSteps_64 : decode (ch_bc m_d_takeSteps) 64 = .ok (.iconst 1, 1) := by decide +kernel
theorem d_d_takeSteps_65 : decode (ch_bc m_d_takeSteps) 65 = .ok (.goto 4, 3) := by decide +kernel
theorem d_d_takeSteps_68 : decode (ch_bc m_d_takeSteps) 68 = .ok (.iconst 0, 1) := by decide +kernel
theorem d_d_takeSteps_69 : decode (ch_bc m_d_takeSteps) 69 = .ok (.ireturn, 1) := by decide +kernel
theorem d_d_passDigit_0 : decode (ch_bc m_d_passDigit) 0 = .ok (.aload_n 0, 1) := by decide +kernel
theorem d_d_passDigit_1 : decode (ch_bc m_d_passDigit) 1 = .ok (.aload_n 1, 1) := by decide +kernel
theorem d_d_passDigit_2 : decode (ch_bc m_d_passDigit) 2 = .ok (.invokevirtual 62, 3) := by decide +kernel
theorem d_d_passDigit_5 : decode (ch_bc m_d_passDigit) 5 = .ok (.ifCond .ge 5, 3) := by decide +kernel
theorem d_d_passDigit_8 : decode (ch_bc m_d_passDigit) 8 = .ok (.iconst 0, 1) := by decide +kernel
theorem d_d_passDigit_9 : decode (ch_bc m_d_passDigit) 9 = .ok (.ireturn, 1) := by decide +kernel
theorem d_d_passDigit_10 : decode (ch_bc m_d_passDigit) 10 = .ok (.aload_n 0, 1) := by decide +kernel
theorem d_d_passDigit_11 : decode (ch_bc m_d_passDigit) 11 = .ok (.dup, 1) := by decide +kernel
theorem d_d_passDigit_12 : decode (ch_bc m_d_passDigit) 12 = .ok (.getfield 9, 3) := by decide +kernel
theorem d_d_passDigit_15 : decode (ch_bc m_d_passDigit) 15 = .ok (.iconst 1, 1) := by decide +kernel
theorem d_d_passDigit_16 : decode (ch_bc m_d_passDigit) 16 = .ok (.iadd, 1) := by decide +kernel
theorem d_d_passDigit_17 : decode (ch_bc m_d_passDigit) 17 = .ok (.putfield 9, 3) := by decide +kernel
theorem d_d_passDigit_20 : decode (ch_bc m_d_passDigit) 20 = .ok (.iconst 1, 1) := by decide +kernel
theorem d_d_passDigit_21 : decode (ch_bc m_d_passDigit) 21 = .ok (.ireturn, 1) := by decide +kernel
theorem d_d_digitAt_0 : decode (ch_bc m_d_digitAt) 0 = .ok (.aload_n 0, 1) := by decide +kernel
theorem d_d_digitAt_1 : decode (ch_bc m_d_digitAt) 1 = .ok (.aload_n 1, 1) := by decide +kernel
theorem d_d_digitAt_2 : decode (ch_bc m_d_digitAt) 2 = .ok (.invokevirtual 28, 3) := by decide +kernel
theorem d_d_digitAt_5 : decode (ch_bc m_d_digitAt) 5 = .ok (.istore_n 2, 1) := by decide +kernel
theorem d_d_digitAt_6 : decode (ch_bc m_d_digitAt) 6 = .ok (.iload_n 2, 1) := by decide +kernel
theorem d_d_digitAt_7 : decode (ch_bc m_d_digitAt) 7 = .ok (.bipush 48, 2) := by decide +kernel
theorem d_d_digitAt_9 : decode (ch_bc m_d_digitAt) 9 = .ok (.if_icmp .lt 16, 3) := by decide +kernel
theorem d_d_digitAt_12 : decode (ch_bc m_d_digitAt) 12 = .ok (.iload_n 2, 1) := by decide +kernel
theorem d_d_digitAt_13 : decode (ch_bc m_d_digitAt) 13 = .ok (.bipush 57, 2) := by decide +kernel
theorem d_d_digitAt_15 : decode (ch_bc m_d_digitAt) 15 = .ok (.if_icmp .gt 10, 3) := by decide +kernel
theorem d_d_digitAt_18 : decode (ch_bc m_d_digitAt) 18 = .ok (.iload_n 2, 1) := by decide +kernel
theorem d_d_digitAt_19 : decode (ch_bc m_d_digitAt) 19 = .ok (.bipush 48, 2) := by decide +kernel
theorem d_d_digitAt_21 : decode (ch_bc m_d_digitAt) 21 = .ok (.isub, 1) := by decide +kernel
theorem d_d_digitAt_22 : decode (ch_bc m_d_digitAt) 22 = .ok (.goto 4, 3) := by decide +kernel
theorem d_d_digitAt_25 : decode (ch_bc m_d_digitAt) 25 = .ok (.iconst (-1), 1) := by decide +kernel
theorem d_d_digitAt_26 : decode (ch_bc m_d_digitAt) 26 = .ok (.ireturn, 1) := by decide +kernel
theorem d_d_signAt_0 : decode (ch_bc m_d_signAt) 0 = .ok (.aload_n 0, 1) := by decide +kernel
theorem d_d_signAt_1 : decode (ch_bc m_d_signAt) 1 = .ok (.getfield 9, 3) := by decide +kernel
theorem d_d_signAt_4 : decode (ch_bc m_d_signAt) 4 = .ok (.ifCond .lt 38, 3) := by decide +kernel
theorem d_d_signAt_7 : decode (ch_bc m_d_signAt) 7 = .ok (.aload_n 0, 1) := by decide +kernel
theorem d_d_signAt_8 : decode (ch_bc m_d_signAt) 8 = .ok (.getfield 9, 3) := by decide +kernel
theorem d_d_signAt_11 : decode (ch_bc m_d_signAt) 11 = .ok (.aload_n 1, 1) := by decide +kernel
theorem d_d_signAt_12 : decode (ch_bc m_d_signAt) 12 = .ok (.getfield 19, 3) := by decide +kernel
theorem d_d_signAt_15 : decode (ch_bc m_d_signAt) 15 = .ok (.if_icmp .ge 27, 3) := by decide +kernel
theorem d_d_signAt_18 : decode (ch_bc m_d_signAt) 18 = .ok (.aload_n 0, 1) := by decide +kernel
theorem d_d_signAt_19 : decode (ch_bc m_d_signAt) 19 = .ok (.getfield 9, 3) := by decide +kernel
theorem d_d_signAt_22 : decode (ch_bc m_d_signAt) 22 = .ok (.aload_n 1, 1) := by decide +kernel
theorem d_d_signAt_23 : decode (ch_bc m_d_signAt) 23 = .ok (.getfield 87, 3) := by decide +kernel
theorem d_d_signAt_26 : decode (ch_bc m_d_signAt) 26 = .ok (.arraylength, 1) := by decide +kernel
theorem d_d_signAt_27 : decode (ch_bc m_d_signAt) 27 = .ok (.if_icmp .ge 15, 3) := by decide +kernel
theorem d_d_signAt_30 : decode (ch_bc m_d_signAt) 30 = .ok (.aload_n 1, 1) := by decide +kernel
theorem d_d_signAt_31 : decode (ch_bc m_d_signAt) 31 = .ok (.getfield 87, 3) := by decide +kernel
theorem d_d_signAt_34 : decode (ch_bc m_d_signAt) 34 = .ok (.aload_n 0, 1) := by decide +kernel
theorem d_d_signAt_35 : decode (ch_bc m_d_signAt) 35 = .ok (.getfield 9, 3) := by decide +kernel
theorem d_d_signAt_38 : decode (ch_bc m_d_signAt) 38 = .ok (.caload, 1) := by decide +kernel
theorem d_d_signAt_39 : decode (ch_bc m_d_signAt) 39 = .ok (.goto 4, 3) := by decide +kernel
theorem d_d_signAt_42 : decode (ch_bc m_d_signAt) 42 = .ok (.iconst (-1), 1) := by decide +kernel
theorem d_d_signAt_43 : decode (ch_bc m_d_signAt) 43 = .ok (.ireturn, 1) := by decide +kernel
theorem d_r_refuse_0 : decode (ch_bc m_r_refuse) 0 = .ok (.aload_n 2, 1) := by decide +kernel
theorem d_r_refuse_1 : decode (ch_bc m_r_refuse) 1 = .ok (.getfield 9, 3) := by decide +kernel
theorem d_r_refuse_4 : decode (ch_bc m_r_refuse) 4 = .ok (.tableswitch 174 99 119 #[110, 174, 174, 174, 174, 124, 174, 174, 174, 174, 174, 100, 174, 174, 174, 158, 148, 168, 174, 174, 138], 100) := by decide +kernel
theorem d_r_refuse_104 : decode (ch_bc m_r_refuse) 104 = .ok (.aload_n 0, 1) := by decide +kernel
theorem d_r_refuse_105 : decode (ch_bc m_r_refuse) 105 = .ok (.aload_n 1, 1) := by decide +kernel
theorem d_r_refuse_106 : decode (ch_bc m_r_refuse) 106 = .ok (.aload_n 2, 1) := by decide +kernel
theorem d_r_refuse_107 : decode (ch_bc m_r_refuse) 107 = .ok (.getfield 15, 3) := by decide +kernel
theorem d_r_refuse_110 : decode (ch_bc m_r_refuse) 110 = .ok (.invokevirtual 18, 3) := by decide +kernel
theorem d_r_refuse_113 : decode (ch_bc m_r_refuse) 113 = .ok (.ireturn, 1) := by decide +kernel
theorem d_r_refuse_114 : decode (ch_bc m_r_refuse) 114 = .ok (.aload_n 0, 1) := by decide +kernel
theorem d_r_refuse_115 : decode (ch_bc m_r_refuse) 115 = .ok (.aload_n 1, 1) := by decide +kernel
theorem d_r_refuse_116 : decode (ch_bc m_r_refuse) 116 = .ok (.aload_n 2, 1) := by decide +kernel
theorem d_r_refuse_117 : decode (ch_bc m_r_refuse) 117 = .ok (.getfield 24, 3) := by decide +kernel
theorem d_r_refuse_120 : decode (ch_bc m_r_refuse) 120 = .ok (.aload_n 2, 1) := by decide +kernel
theorem d_r_refuse_121 : decode (ch_bc m_r_refuse) 121 = .ok (.getfield 15, 3) := by decide +kernel
theorem d_r_refuse_124 : decode (ch_bc m_r_refuse) 124 = .ok (.invokevirtual 27, 3) := by decide +kernel
theorem d_r_refuse_127 : decode (ch_bc m_r_refuse) 127 = .ok (.ireturn, 1) := by decide +kernel
theorem d_r_refuse_128 : decode (ch_bc m_r_refuse) 128 = .ok (.aload_n 0, 1) := by decide +kernel
theorem d_r_refuse_129 : decode (ch_bc m_r_refuse) 129 = .ok (.aload_n 1, 1) := by decide +kernel
theorem d_r_refuse_130 : decode (ch_bc m_r_refuse) 130 = .ok (.aload_n 2, 1) := by decide +kernel
theorem d_r_refuse_131 : decode (ch_bc m_r_refuse) 131 = .ok (.getfield 24, 3) := by decide +kernel
theorem d_r_refuse_134 : decode (ch_bc m_r_refuse) 134 = .ok (.aload_n 2, 1) := by decide +kernel
theorem d_r_refuse_135 : decode (ch_bc m_r_refuse) 135 = .ok (.getfield 31, 3) := by decide +kernel
theorem d_r_refuse_138 : decode (ch_bc m_r_refuse) 138 = .ok (.invokevirtual 35, 3) := by decide +kernel
theorem d_r_refuse_141 : decode (ch_bc m_r_refuse) 141 = .ok (.ireturn, 1) := by decide +kernel
theorem d_r_refuse_142 : decode (ch_bc m_r_refuse) 142 = .ok (.aload_n 0, 1) := by decide +kernel
theorem d_r_refuse_143 : decode (ch_bc m_r_refuse) 143 = .ok (.aload_n 1, 1) := by decide +kernel
theorem d_r_refuse_144 : decode (ch_bc m_r_refuse) 144 = .ok (.aload_n 2, 1) := by decide +kernel
theorem d_r_refuse_145 : decode (ch_bc m_r_refuse) 145 = .ok (.getfield 24, 3) := by decide +kernel
theorem d_r_refuse_148 : decode (ch_bc m_r_refuse) 148 = .ok (.invokevirtual 39, 3) := by decide +kernel
theorem d_r_refuse_151 : decode (ch_bc m_r_refuse) 151 = .ok (.ireturn, 1) := by decide +kernel
theorem d_r_refuse_152 : decode (ch_bc m_r_refuse) 152 = .ok (.aload_n 0, 1) := by decide +kernel
theorem d_r_refuse_153 : decode (ch_bc m_r_refuse) 153 = .ok (.aload_n 1, 1) := by decide +kernel
theorem d_r_refuse_154 : decode (ch_bc m_r_refuse) 154 = .ok (.aload_n 2, 1) := by decide +kernel
theorem d_r_refuse_155 : decode (ch_bc m_r_refuse) 155 = .ok (.getfield 24, 3) := by decide +kernel
theorem d_r_refuse_158 : decode (ch_bc m_r_refuse) 158 = .ok (.invokevirtual 42, 3) := by decide +kernel
theorem d_r_refuse_161 : decode (ch_bc m_r_refuse) 161 = .ok (.ireturn, 1) := by decide +kernel
theorem d_r_refuse_162 : decode (ch_bc m_r_refuse) 162 = .ok (.aload_n 0, 1) := by decide +kernel
theorem d_r_refuse_163 : decode (ch_bc m_r_refuse) 163 = .ok (.aload_n 1, 1) := by decide +kernel
theorem d_r_refuse_164 : decode (ch_bc m_r_refuse) 164 = .ok (.aload_n 2, 1) := by decide +kernel
theorem d_r_refuse_165 : decode (ch_bc m_r_refuse) 165 = .ok (.getfield 15, 3) := by decide +kernel
theorem d_r_refuse_168 : decode (ch_bc m_r_refuse) 168 = .ok (.invokevirtual 45, 3) := by decide +kernel
theorem d_r_refuse_171 : decode (ch_bc m_r_refuse) 171 = .ok (.ireturn, 1) := by decide +kernel
theorem d_r_refuse_172 : decode (ch_bc m_r_refuse) 172 = .ok (.aload_n 0, 1) := by decide +kernel
theorem d_r_refuse_173 : decode (ch_bc m_r_refuse) 173 = .ok (.aload_n 1, 1) := by decide +kernel
theorem d_r_refuse_174 : decode (ch_bc m_r_refuse) 174 = .ok (.invokevirtual 48, 3) := by decide +kernel
theorem d_r_refuse_177 : decode (ch_bc m_r_refuse) 177 = .ok (.ireturn, 1) := by decide +kernel
theorem d_r_refuse_178 : decode (ch_bc m_r_refuse) 178 = .ok (.aload_n 0, 1) := by decide +kernel
theorem d_r_refuse_179 : decode (ch_bc m_r_refuse) 179 = .ok (.aload_n 1, 1) := by decide +kernel
theorem d_r_refuse_180 : decode (ch_bc m_r_refuse) 180 = .ok (.aload_n 2, 1) := by decide +kernel
theorem d_r_refuse_181 : decode (ch_bc m_r_refuse) 181 = .ok (.getfield 24, 3) := by decide +kernel
theorem d_r_refuse_184 : decode (ch_bc m_r_refuse) 184 = .ok (.aload_n 2, 1) := by decide +kernel
theorem d_r_refuse_185 : decode (ch_bc m_r_refuse) 185 = .ok (.getfield 52, 3) := by decide +kernel
theorem d_r_refuse_188 : decode (ch_bc m_r_refuse) 188 = .ok (.aload_n 2, 1) := by decide +kernel
theorem d_r_refuse_189 : decode (ch_bc m_r_refuse) 189 = .ok (.getfield 15, 3) := by decide +kernel
theorem d_r_refuse_192 : decode (ch_bc m_r_refuse) 192 = .ok (.invokevirtual 55, 3) := by decide +kernel
theorem d_r_refuse_195 : decode (ch_bc m_r_refuse) 195 = .ok (.ireturn, 1) := by decide +kernel
theorem d_r_refuseChild_0 : decode (ch_bc m_r_refuseChild) 0 = .ok (.aload_n 0, 1) := by decide +kernel
theorem d_r_refuseChild_1 : decode (ch_bc m_r_refuseChild) 1 = .ok (.iload_n 2, 1) := by decide +kernel
theorem d_r_refuseChild_2 : decode (ch_bc m_r_refuseChild) 2 = .ok (.iconst 0, 1) := by decide +kernel
theorem d_r_refuseChild_3 : decode (ch_bc m_r_refuseChild) 3 = .ok (.bipush 99, 2) := by decide +kernel
theorem d_r_refuseChild_5 : decode (ch_bc m_r_refuseChild) 5 = .ok (.invokevirtual 59, 3) := by decide +kernel
theorem d_r_refuseChild_8 : decode (ch_bc m_r_refuseChild) 8 = .ok (.ifCond .ne 23, 3) := by decide +kernel
theorem d_r_refuseChild_11 : decode (ch_bc m_r_refuseChild) 11 = .ok (.aload_n 1, 1) := by decide +kernel
theorem d_r_refuseChild_12 : decode (ch_bc m_r_refuseChild) 12 = .ok (.getfield 63, 3) := by decide +kernel
theorem d_r_refuseChild_15 : decode (ch_bc m_r_refuseChild) 15 = .ok (.iconst 5, 1) := by decide +kernel
theorem d_r_refuseChild_16 : decode (ch_bc m_r_refuseChild) 16 = .ok (.if_icmp .lt 19, 3) := by decide +kernel
theorem d_r_refuseChild_19 : decode (ch_bc m_r_refuseChild) 19 = .ok (.aload_n 0, 1) := by decide +kernel
theorem d_r_refuseChild_20 : decode (ch_bc m_r_refuseChild) 20 = .ok (.iconst 2, 1) := by decide +kernel
theorem d_r_refuseChild_21 : decode (ch_bc m_r_refuseChild) 21 = .ok (.aload_n 1, 1) := by decide +kernel
theorem d_r_refuseChild_22 : decode (ch_bc m_r_refuseChild) 22 = .ok (.getfield 63, 3) := by decide +kernel
theorem d_r_refuseChild_25 : decode (ch_bc m_r_refuseChild) 25 = .ok (.invokevirtual 68, 3) := by decide +kernel
theorem d_r_refuseChild_28 : decode (ch_bc m_r_refuseChild) 28 = .ok (.ifCond .eq 7, 3) := by decide +kernel
theorem d_r_refuseChild_31 : decode (ch_bc m_r_refuseChild) 31 = .ok (.iconst 1, 1) := by decide +kernel
theorem d_r_refuseChild_32 : decode (ch_bc m_r_refuseChild) 32 = .ok (.goto 4, 3) := by decide +kernel
theorem d_r_refuseChild_35 : decode (ch_bc m_r_refuseChild) 35 = .ok (.iconst 0, 1) := by decide +kernel
theorem d_r_refuseChild_36 : decode (ch_bc m_r_refuseChild) 36 = .ok (.ireturn, 1) := by decide +kernel
theorem d_r_refuseChalk_0 : decode (ch_bc m_r_refuseChalk) 0 = .ok (.aload_n 0, 1) := by decide +kernel
theorem d_r_refuseChalk_1 : decode (ch_bc m_r_refuseChalk) 1 = .ok (.aload_n 1, 1) := by decide +kernel
theorem d_r_refuseChalk_2 : decode (ch_bc m_r_refuseChalk) 2 = .ok (.iload_n 2, 1) := by decide +kernel
theorem d_r_refuseChalk_3 : decode (ch_bc m_r_refuseChalk) 3 = .ok (.invokevirtual 72, 3) := by decide +kernel
theorem d_r_refuseChalk_6 : decode (ch_bc m_r_refuseChalk) 6 = .ok (.ifCond .ne 14, 3) := by decide +kernel
theorem d_r_refuseChalk_9 : decode (ch_bc m_r_refuseChalk) 9 = .ok (.aload_n 0, 1) := by decide +kernel
theorem d_r_refuseChalk_10 : decode (ch_bc m_r_refuseChalk) 10 = .ok (.iload_n 3, 1) := by decide +kernel
theorem d_r_refuseChalk_11 : decode (ch_bc m_r_refuseChalk) 11 = .ok (.iconst 0, 1) := by decide +kernel
theorem d_r_refuseChalk_12 : decode (ch_bc m_r_refuseChalk) 12 = .ok (.bipush 11, 2) := by decide +kernel
theorem d_r_refuseChalk_14 : decode (ch_bc m_r_refuseChalk) 14 = .ok (.invokevirtual 59, 3) := by decide +kernel
theorem d_r_refuseChalk_17 : decode (ch_bc m_r_refuseChalk) 17 = .ok (.ifCond .eq 5, 3) := by decide +kernel
theorem d_r_refuseChalk_20 : decode (ch_bc m_r_refuseChalk) 20 = .ok (.iconst 1, 1) := by decide +kernel
theorem d_r_refuseChalk_21 : decode (ch_bc m_r_refuseChalk) 21 = .ok (.ireturn, 1) := by decide +kernel
theorem d_r_refuseChalk_22 : decode (ch_bc m_r_refuseChalk) 22 = .ok (.aload_n 1, 1) := by decide +kernel
theorem d_r_refuseChalk_23 : decode (ch_bc m_r_refuseChalk) 23 = .ok (.getfield 75, 3) := by decide +kernel
theorem d_r_refuseChalk_26 : decode (ch_bc m_r_refuseChalk) 26 = .ok (.iload_n 3, 1) := by decide +kernel
theorem d_r_refuseChalk_27 : decode (ch_bc m_r_refuseChalk) 27 = .ok (.iaload, 1) := by decide +kernel
theorem d_r_refuseChalk_28 : decode (ch_bc m_r_refuseChalk) 28 = .ok (.istore 4, 2) := by decide +kernel
theorem d_r_refuseChalk_30 : decode (ch_bc m_r_refuseChalk) 30 = .ok (.iload 4, 2) := by decide +kernel
theorem d_r_refuseChalk_32 : decode (ch_bc m_r_refuseChalk) 32 = .ok (.iconst (-1), 1) := by decide +kernel
theorem d_r_refuseChalk_33 : decode (ch_bc m_r_refuseChalk) 33 = .ok (.if_icmp .eq 17, 3) := by decide +kernel
theorem d_r_refuseChalk_36 : decode (ch_bc m_r_refuseChalk) 36 = .ok (.iload 4, 2) := by decide +kernel
theorem d_r_refuseChalk_38 : decode (ch_bc m_r_refuseChalk) 38 = .ok (.iload_n 2, 1) := by decide +kernel
theorem d_r_refuseChalk_39 : decode (ch_bc m_r_refuseChalk) 39 = .ok (.if_icmp .eq 11, 3) := by decide +kernel
theorem d_r_refuseChalk_42 : decode (ch_bc m_r_refuseChalk) 42 = .ok (.aload_n 0, 1) := by decide +kernel
theorem d_r_refuseChalk_43 : decode (ch_bc m_r_refuseChalk) 43 = .ok (.iconst 4, 1) := by decide +kernel
theorem d_r_refuseChalk_44 : decode (ch_bc m_r_refuseChalk) 44 = .ok (.iload 4, 2) := by decide +kernel
theorem d_r_refuseChalk_46 : decode (ch_bc m_r_refuseChalk) 46 = .ok (.invokevirtual 68, 3) := by decide +kernel
theorem d_r_refuseChalk_49 : decode (ch_bc m_r_refuseChalk) 49 = .ok (.ireturn, 1) := by decide +kernel
theorem d_r_refuseChalk_50 : decode (ch_bc m_r_refuseChalk) 50 = .ok (.aload_n 1, 1) := by decide +kernel
theorem d_r_refuseChalk_51 : decode (ch_bc m_r_refuseChalk) 51 = .ok (.getfield 79, 3) := by decide +kernel
theorem d_r_refuseChalk_54 : decode (ch_bc m_r_refuseChalk) 54 = .ok (.iload_n 3, 1) := by decide +kernel
theorem d_r_refuseChalk_55 : decode (ch_bc m_r_refuseChalk) 55 = .ok (.iaload, 1) := by decide +kernel
theorem d_r_refuseChalk_56 : decode (ch_bc m_r_refuseChalk) 56 = .ok (.bipush 9, 2) := by decide +kernel
theorem d_r_refuseChalk_58 : decode (ch_bc m_r_refuseChalk) 58 = .ok (.if_icmp .lt 11, 3) := by decide +kernel
theorem d_r_refuseChalk_61 : decode (ch_bc m_r_refuseChalk) 61 = .ok (.aload_n 0, 1) := by decide +kernel
theorem d_r_refuseChalk_62 : decode (ch_bc m_r_refuseChalk) 62 = .ok (.bipush 6, 2) := by decide +kernel
theorem d_r_refuseChalk_64 : decode (ch_bc m_r_refuseChalk) 64 = .ok (.iload_n 3, 1) := by decide +kernel
theorem d_r_refuseChalk_65 : decode (ch_bc m_r_refuseChalk) 65 = .ok (.invokevirtual 68, 3) := by decide +kernel
theorem d_r_refuseChalk_68 : decode (ch_bc m_r_refuseChalk) 68 = .ok (.ireturn, 1) := by decide +kernel
theorem d_r_refuseChalk_69 : decode (ch_bc m_r_refuseChalk) 69 = .ok (.aload_n 0, 1) := by decide +kernel
theorem d_r_refuseChalk_70 : decode (ch_bc m_r_refuseChalk) 70 = .ok (.aload_n 1, 1) := by decide +kernel
theorem d_r_refuseChalk_71 : decode (ch_bc m_r_refuseChalk) 71 = .ok (.iload_n 2, 1) := by decide +kernel
theorem d_r_refuseChalk_72 : decode (ch_bc m_r_refuseChalk) 72 = .ok (.iconst 1, 1) := by decide +kernel
theorem d_r_refuseChalk_73 : decode (ch_bc m_r_refuseChalk) 73 = .ok (.invokevirtual 82, 3) := by decide +kernel
theorem d_r_refuseChalk_76 : decode (ch_bc m_r_refuseChalk) 76 = .ok (.ireturn, 1) := by decide +kernel
theorem d_r_refuseHop_0 : decode (ch_bc m_r_refuseHop) 0 = .ok (.aload_n 0, 1) := by decide +kernel
theorem d_r_refuseHop_1 : decode (ch_bc m_r_refuseHop) 1 = .ok (.aload_n 1, 1) := by decide +kernel
theorem d_r_refuseHop_2 : decode (ch_bc m_r_refuseHop) 2 = .ok (.iload_n 2, 1) := by decide +kernel
theorem d_r_refuseHop_3 : decode (ch_bc m_r_refuseHop) 3 = .ok (.invokevirtual 72, 3) := by decide +kernel
theorem d_r_refuseHop_6 : decode (ch_bc m_r_refuseHop) 6 = .ok (.ifCond .ne 12, 3) := by decide +kernel
theorem d_r_refuseHop_9 : decode (ch_bc m_r_refuseHop) 9 = .ok (.aload_n 0, 1) := by decide +kernel
theorem d_r_refuseHop_10 : decode (ch_bc m_r_refuseHop) 10 = .ok (.aload_n 1, 1) := by decide +kernel
theorem d_r_refuseHop_11 : decode (ch_bc m_r_refuseHop) 11 = .ok (.iload_n 2, 1) := by decide +kernel
theorem d_r_refuseHop_12 : decode (ch_bc m_r_refuseHop) 12 = .ok (.invokevirtual 85, 3) := by decide +kernel
theorem d_r_refuseHop_15 : decode (ch_bc m_r_refuseHop) 15 = .ok (.ifCond .eq 5, 3) := by decide +kernel
theorem d_r_refuseHop_18 : decode (ch_bc m_r_refuseHop) 18 = .ok (.iconst 1, 1) := by decide +kernel
theorem d_r_refuseHop_19 : decode (ch_bc m_r_refuseHop) 19 = .ok (.ireturn, 1) := by decide +kernel
theorem d_r_refuseHop_20 : decode (ch_bc m_r_refuseHop) 20 = .ok (.aload_n 3, 1) := by decide +kernel
theorem d_r_refuseHop_21 : decode (ch_bc m_r_refuseHop) 21 = .ok (.getfield 88, 3) := by decide +kernel
theorem d_r_refuseHop_24 : decode (ch_bc m_r_refuseHop) 24 = .ok (.ifCond .ne 10, 3) := by decide +kernel
theorem d_r_refuseHop_27 : decode (ch_bc m_r_refuseHop) 27 = .ok (.aload_n 0, 1) := by decide +kernel
theorem d_r_refuseHop_28 : decode (ch_bc m_r_refuseHop) 28 = .ok (.iconst 1, 1) := by decide +kernel
theorem d_r_refuseHop_29 : decode (ch_bc m_r_refuseHop) 29 = .ok (.iconst 0, 1) := by decide +kernel
theorem d_r_refuseHop_30 : decode (ch_bc m_r_refuseHop) 30 = .ok (.invokevirtual 68, 3) := by decide +kernel
theorem d_r_refuseHop_33 : decode (ch_bc m_r_refuseHop) 33 = .ok (.ireturn, 1) := by decide +kernel
theorem d_r_refuseHop_34 : decode (ch_bc m_r_refuseHop) 34 = .ok (.aload_n 3, 1) := by decide +kernel
theorem d_r_refuseHop_35 : decode (ch_bc m_r_refuseHop) 35 = .ok (.invokevirtual 93, 3) := by decide +kernel
theorem d_r_refuseHop_38 : decode (ch_bc m_r_refuseHop) 38 = .ok (.istore 4, 2) := by decide +kernel
theorem d_r_refuseHop_40 : decode (ch_bc m_r_refuseHop) 40 = .ok (.iload 4, 2) := by decide +kernel
theorem d_r_refuseHop_42 : decode (ch_bc m_r_refuseHop) 42 = .ok (.iconst (-1), 1) := by decide +kernel
theorem d_r_refuseHop_43 : decode (ch_bc m_r_refuseHop) 43 = .ok (.if_icmp .eq 18, 3) := by decide +kernel
theorem d_r_refuseHop_46 : decode (ch_bc m_r_refuseHop) 46 = .ok (.aload_n 0, 1) := by decide +kernel
theorem d_r_refuseHop_47 : decode (ch_bc m_r_refuseHop) 47 = .ok (.bipush 8, 2) := by decide +kernel
theorem d_r_refuseHop_49 : decode (ch_bc m_r_refuseHop) 49 = .ok (.iload 4, 2) := by decide +kernel
theorem d_r_refuseHop_51 : decode (ch_bc m_r_refuseHop) 51 = .ok (.invokevirtual 68, 3) := by decide +kernel
theorem d_r_refuseHop_54 : decode (ch_bc m_r_refuseHop) 54 = .ok (.ifCond .eq 7, 3) := by decide +kernel
theorem d_r_refuseHop_57 : decode (ch_bc m_r_refuseHop) 57 = .ok (.iconst 1, 1) := by decide +kernel
theorem d_r_refuseHop_58 : decode (ch_bc m_r_refuseHop) 58 = .ok (.goto 4, 3) := by decide +kernel
theorem d_r_refuseHop_61 : decode (ch_bc m_r_refuseHop) 61 = .ok (.iconst 0, 1) := by decide +kernel
theorem d_r_refuseHop_62 : decode (ch_bc m_r_refuseHop) 62 = .ok (.ireturn, 1) := by decide +kernel
theorem d_r_refuseWarrant_0 : decode (ch_bc m_r_refuseWarrant) 0 = .ok (.aload_n 0, 1) := by decide +kernel
theorem d_r_refuseWarrant_1 : decode (ch_bc m_r_refuseWarrant) 1 = .ok (.aload_n 1, 1) := by decide +kernel
theorem d_r_refuseWarrant_2 : decode (ch_bc m_r_refuseWarrant) 2 = .ok (.iload_n 2, 1) := by decide +kernel
theorem d_r_refuseWarrant_3 : decode (ch_bc m_r_refuseWarrant) 3 = .ok (.invokevirtual 72, 3) := by decide +kernel
theorem d_r_refuseWarrant_6 : decode (ch_bc m_r_refuseWarrant) 6 = .ok (.ifCond .ne 37, 3) := by decide +kernel
theorem d_r_refuseWarrant_9 : decode (ch_bc m_r_refuseWarrant) 9 = .ok (.aload_n 0, 1) := by decide +kernel
theorem d_r_refuseWarrant_10 : decode (ch_bc m_r_refuseWarrant) 10 = .ok (.aload_n 1, 1) := by decide +kernel
theorem d_r_refuseWarrant_11 : decode (ch_bc m_r_refuseWarrant) 11 = .ok (.iload_n 2, 1) := by decide +kernel
theorem d_r_refuseWarrant_12 : decode (ch_bc m_r_refuseWarrant) 12 = .ok (.invokevirtual 85, 3) := by decide +kernel
theorem d_r_refuseWarrant_15 : decode (ch_bc m_r_refuseWarrant) 15 = .ok (.ifCond .ne 28, 3) := by decide +kernel
theorem d_r_refuseWarrant_18 : decode (ch_bc m_r_refuseWarrant) 18 = .ok (.aload_n 1, 1) := by decide +kernel
theorem d_r_refuseWarrant_19 : decode (ch_bc m_r_refuseWarrant) 19 = .ok (.getfield 97, 3) := by decide +kernel
theorem d_r_refuseWarrant_22 : decode (ch_bc m_r_refuseWarrant) 22 = .ok (.iload_n 2, 1) := by decide +kernel
theorem d_r_refuseWarrant_23 : decode (ch_bc m_r_refuseWarrant) 23 = .ok (.iaload, 1) := by decide +kernel
theorem d_r_refuseWarrant_24 : decode (ch_bc m_r_refuseWarrant) 24 = .ok (.iconst 3, 1) := by decide +kernel
theorem d_r_refuseWarrant_25 : decode (ch_bc m_r_refuseWarrant) 25 = .ok (.if_icmp .ge 22, 3) := by decide +kernel
theorem d_r_refuseWarrant_28 : decode (ch_bc m_r_refuseWarrant) 28 = .ok (.aload_n 0, 1) := by decide +kernel
theorem d_r_refuseWarrant_29 : decode (ch_bc m_r_refuseWarrant) 29 = .ok (.bipush 9, 2) := by decide +kernel
theorem d_r_refuseWarrant_31 : decode (ch_bc m_r_refuseWarrant) 31 = .ok (.aload_n 1, 1) := by decide +kernel
theorem d_r_refuseWarrant_32 : decode (ch_bc m_r_refuseWarrant) 32 = .ok (.getfield 97, 3) := by decide +kernel
theorem d_r_refuseWarrant_35 : decode (ch_bc m_r_refuseWarrant) 35 = .ok (.iload_n 2, 1) := by decide +kernel
theorem d_r_refuseWarrant_36 : decode (ch_bc m_r_refuseWarrant) 36 = .ok (.iaload, 1) := by decide +kernel
theorem d_r_refuseWarrant_37 : decode (ch_bc m_r_refuseWarrant) 37 = .ok (.invokevirtual 68, 3) := by decide +kernel
theorem d_r_refuseWarrant_40 : decode (ch_bc m_r_refuseWarrant) 40 = .ok (.ifCond .eq 7, 3) := by decide +kernel
theorem d_r_refuseWarrant_43 : decode (ch_bc m_r_refuseWarrant) 43 = .ok (.iconst 1, 1) := by decide +kernel
theorem d_r_refuseWarrant_44 : decode (ch_bc m_r_refuseWarrant) 44 = .ok (.goto 4, 3) := by decide +kernel
theorem d_r_refuseWarrant_47 : decode (ch_bc m_r_refuseWarrant) 47 = .ok (.iconst 0, 1) := by decide +kernel
theorem d_r_refuseWarrant_48 : decode (ch_bc m_r_refuseWarrant) 48 = .ok (.ireturn, 1) := by decide +kernel
theorem d_r_refuseStrike_0 : decode (ch_bc m_r_refuseStrike) 0 = .ok (.aload_n 0, 1) := by decide +kernel
theorem d_r_refuseStrike_1 : decode (ch_bc m_r_refuseStrike) 1 = .ok (.aload_n 1, 1) := by decide +kernel
theorem d_r_refuseStrike_2 : decode (ch_bc m_r_refuseStrike) 2 = .ok (.iload_n 2, 1) := by decide +kernel
theorem d_r_refuseStrike_3 : decode (ch_bc m_r_refuseStrike) 3 = .ok (.invokevirtual 72, 3) := by decide +kernel
theorem d_r_refuseStrike_6 : decode (ch_bc m_r_refuseStrike) 6 = .ok (.ifCond .ne 37, 3) := by decide +kernel
theorem d_r_refuseStrike_9 : decode (ch_bc m_r_refuseStrike) 9 = .ok (.aload_n 1, 1) := by decide +kernel
theorem d_r_refuseStrike_10 : decode (ch_bc m_r_refuseStrike) 10 = .ok (.getfield 100, 3) := by decide +kernel
theorem d_r_refuseStrike_13 : decode (ch_bc m_r_refuseStrike) 13 = .ok (.iload_n 2, 1) := by decide +kernel
theorem d_r_refuseStrike_14 : decode (ch_bc m_r_refuseStrike) 14 = .ok (.iaload, 1) := by decide +kernel
theorem d_r_refuseStrike_15 : decode (ch_bc m_r_refuseStrike) 15 = .ok (.ifCond .ne 13, 3) := by decide +kernel
theorem d_r_refuseStrike_18 : decode (ch_bc m_r_refuseStrike) 18 = .ok (.aload_n 0, 1) := by decide +kernel
theorem d_r_refuseStrike_19 : decode (ch_bc m_r_refuseStrike) 19 = .ok (.bipush 10, 2) := by decide +kernel
theorem d_r_refuseStrike_21 : decode (ch_bc m_r_refuseStrike) 21 = .ok (.iconst 0, 1) := by decide +kernel
theorem d_r_refuseStrike_22 : decode (ch_bc m_r_refuseStrike) 22 = .ok (.invokevirtual 68, 3) := by decide +kernel
theorem d_r_refuseStrike_25 : decode (ch_bc m_r_refuseStrike) 25 = .ok (.ifCond .ne 18, 3) := by decide +kernel
theorem d_r_refuseStrike_28 : decode (ch_bc m_r_refuseStrike) 28 = .ok (.aload_n 0, 1) := by decide +kernel
theorem d_r_refuseStrike_29 : decode (ch_bc m_r_refuseStrike) 29 = .ok (.aload_n 1, 1) := by decide +kernel
theorem d_r_refuseStrike_30 : decode (ch_bc m_r_refuseStrike) 30 = .ok (.iload_n 2, 1) := by decide +kernel
theorem d_r_refuseStrike_31 : decode (ch_bc m_r_refuseStrike) 31 = .ok (.aload_n 1, 1) := by decide +kernel
theorem d_r_refuseStrike_32 : decode (ch_bc m_r_refuseStrike) 32 = .ok (.getfield 100, 3) := by decide +kernel
theorem d_r_refuseStrike_35 : decode (ch_bc m_r_refuseStrike) 35 = .ok (.iload_n 2, 1) := by decide +kernel
theorem d_r_refuseStrike_36 : decode (ch_bc m_r_refuseStrike) 36 = .ok (.iaload, 1) := by decide +kernel
theorem d_r_refuseStrike_37 : decode (ch_bc m_r_refuseStrike) 37 = .ok (.invokevirtual 82, 3) := by decide +kernel
theorem d_r_refuseStrike_40 : decode (ch_bc m_r_refuseStrike) 40 = .ok (.ifCond .eq 7, 3) := by decide +kernel
theorem d_r_refuseStrike_43 : decode (ch_bc m_r_refuseStrike) 43 = .ok (.iconst 1, 1) := by decide +kernel
theorem d_r_refuseStrike_44 : decode (ch_bc m_r_refuseStrike) 44 = .ok (.goto 4, 3) := by decide +kernel
theorem d_r_refuseStrike_47 : decode (ch_bc m_r_refuseStrike) 47 = .ok (.iconst 0, 1) := by decide +kernel
theorem d_r_refuseStrike_48 : decode (ch_bc m_r_refuseStrike) 48 = .ok (.ireturn, 1) := by decide +kernel
theorem d_r_refuseRain_0 : decode (ch_bc m_r_refuseRain) 0 = .ok (.aload_n 0, 1) := by decide +kernel
theorem d_r_refuseRain_1 : decode (ch_bc m_r_refuseRain) 1 = .ok (.iload_n 2, 1) := by decide +kernel
theorem d_r_refuseRain_2 : decode (ch_bc m_r_refuseRain) 2 = .ok (.iconst 1, 1) := by decide +kernel
theorem d_r_refuseRain_3 : decode (ch_bc m_r_refuseRain) 3 = .ok (.bipush 9, 2) := by decide +kernel
theorem d_r_refuseRain_5 : decode (ch_bc m_r_refuseRain) 5 = .ok (.invokevirtual 59, 3) := by decide +kernel
theorem d_r_refuseRain_8 : decode (ch_bc m_r_refuseRain) 8 = .ok (.ifCond .ne 30, 3) := by decide +kernel
theorem d_r_refuseRain_11 : decode (ch_bc m_r_refuseRain) 11 = .ok (.aload_n 1, 1) := by decide +kernel
theorem d_r_refuseRain_12 : decode (ch_bc m_r_refuseRain) 12 = .ok (.getfield 103, 3) := by decide +kernel
theorem d_r_refuseRain_15 : decode (ch_bc m_r_refuseRain) 15 = .ok (.ifCond .ne 27, 3) := by decide +kernel
theorem d_r_refuseRain_18 : decode (ch_bc m_r_refuseRain) 18 = .ok (.aload_n 1, 1) := by decide +kernel
theorem d_r_refuseRain_19 : decode (ch_bc m_r_refuseRain) 19 = .ok (.iconst (-1), 1) := by decide +kernel
theorem d_r_refuseRain_20 : decode (ch_bc m_r_refuseRain) 20 = .ok (.invokevirtual 106, 3) := by decide +kernel
theorem d_r_refuseRain_23 : decode (ch_bc m_r_refuseRain) 23 = .ok (.bipush 12, 2) := by decide +kernel
theorem d_r_refuseRain_25 : decode (ch_bc m_r_refuseRain) 25 = .ok (.if_icmp .ne 17, 3) := by decide +kernel
theorem d_r_refuseRain_28 : decode (ch_bc m_r_refuseRain) 28 = .ok (.aload_n 0, 1) := by decide +kernel
theorem d_r_refuseRain_29 : decode (ch_bc m_r_refuseRain) 29 = .ok (.bipush 12, 2) := by decide +kernel
theorem d_r_refuseRain_31 : decode (ch_bc m_r_refuseRain) 31 = .ok (.iconst 0, 1) := by decide +kernel
theorem d_r_refuseRain_32 : decode (ch_bc m_r_refuseRain) 32 = .ok (.invokevirtual 68, 3) := by decide +kernel
theorem d_r_refuseRain_35 : decode (ch_bc m_r_refuseRain) 35 = .ok (.ifCond .eq 7, 3) := by decide +kernel
theorem d_r_refuseRain_38 : decode (ch_bc m_r_refuseRain) 38 = .ok (.iconst 1, 1) := by decide +kernel
theorem d_r_refuseRain_39 : decode (ch_bc m_r_refuseRain) 39 = .ok (.goto 4, 3) := by decide +kernel
theorem d_r_refuseRain_42 : decode (ch_bc m_r_refuseRain) 42 = .ok (.iconst 0, 1) := by decide +kernel
theorem d_r_refuseRain_43 : decode (ch_bc m_r_refuseRain) 43 = .ok (.ireturn, 1) := by decide +kernel
theorem d_r_refuseTerm_0 : decode (ch_bc m_r_refuseTerm) 0 = .ok (.aload_n 1, 1) := by decide +kernel
theorem d_r_refuseTerm_1 : decode (ch_bc m_r_refuseTerm) 1 = .ok (.getfield 63, 3) := by decide +kernel
theorem d_r_refuseTerm_4 : decode (ch_bc m_r_refuseTerm) 4 = .ok (.ifCond .ne 17, 3) := by decide +kernel
theorem d_r_refuseTerm_7 : decode (ch_bc m_r_refuseTerm) 7 = .ok (.aload_n 0, 1) := by decide +kernel
theorem d_r_refuseTerm_8 : decode (ch_bc m_r_refuseTerm) 8 = .ok (.bipush 13, 2) := by decide +kernel
theorem d_r_refuseTerm_10 : decode (ch_bc m_r_refuseTerm) 10 = .ok (.iconst 0, 1) := by decide +kernel
theorem d_r_refuseTerm_11 : decode (ch_bc m_r_refuseTerm) 11 = .ok (.invokevirtual 68, 3) := by decide +kernel
theorem d_r_refuseTerm_14 : decode (ch_bc m_r_refuseTerm) 14 = .ok (.ifCond .eq 7, 3) := by decide +kernel
theorem d_r_refuseTerm_17 : decode (ch_bc m_r_refuseTerm) 17 = .ok (.iconst 1, 1) := by decide +kernel
theorem d_r_refuseTerm_18 : decode (ch_bc m_r_refuseTerm) 18 = .ok (.goto 4, 3) := by decide +kernel
theorem d_r_refuseTerm_21 : decode (ch_bc m_r_refuseTerm) 21 = .ok (.iconst 0, 1) := by decide +kernel
theorem d_r_refuseTerm_22 : decode (ch_bc m_r_refuseTerm) 22 = .ok (.ireturn, 1) := by decide +kernel
theorem d_r_refuseGift_0 : decode (ch_bc m_r_refuseGift) 0 = .ok (.aload_n 0, 1) := by decide +kernel
theorem d_r_refuseGift_1 : decode (ch_bc m_r_refuseGift) 1 = .ok (.aload_n 1, 1) := by decide +kernel
theorem d_r_refuseGift_2 : decode (ch_bc m_r_refuseGift) 2 = .ok (.iload_n 2, 1) := by decide +kernel
theorem d_r_refuseGift_3 : decode (ch_bc m_r_refuseGift) 3 = .ok (.invokevirtual 72, 3) := by decide +kernel
theorem d_r_refuseGift_6 : decode (ch_bc m_r_refuseGift) 6 = .ok (.ifCond .ne 50, 3) := by decide +kernel
theorem d_r_refuseGift_9 : decode (ch_bc m_r_refuseGift) 9 = .ok (.aload_n 0, 1) := by decide +kernel
theorem d_r_refuseGift_10 : decode (ch_bc m_r_refuseGift) 10 = .ok (.aload_n 1, 1) := by decide +kernel
theorem d_r_refuseGift_11 : decode (ch_bc m_r_refuseGift) 11 = .ok (.iload_n 3, 1) := by decide +kernel
theorem d_r_refuseGift_12 : decode (ch_bc m_r_refuseGift) 12 = .ok (.invokevirtual 72, 3) := by decide +kernel
theorem d_r_refuseGift_15 : decode (ch_bc m_r_refuseGift) 15 = .ok (.ifCond .ne 41, 3) := by decide +kernel
theorem d_r_refuseGift_18 : decode (ch_bc m_r_refuseGift) 18 = .ok (.iload_n 2, 1) := by decide +kernel
theorem d_r_refuseGift_19 : decode (ch_bc m_r_refuseGift) 19 = .ok (.iload_n 3, 1) := by decide +kernel
theorem d_r_refuseGift_20 : decode (ch_bc m_r_refuseGift) 20 = .ok (.if_icmp .ne 13, 3) := by decide +kernel
theorem d_r_refuseGift_23 : decode (ch_bc m_r_refuseGift) 23 = .ok (.aload_n 0, 1) := by decide +kernel
theorem d_r_refuseGift_24 : decode (ch_bc m_r_refuseGift) 24 = .ok (.bipush 11, 2) := by decide +kernel
theorem d_r_refuseGift_26 : decode (ch_bc m_r_refuseGift) 26 = .ok (.iload_n 2, 1) := by decide +kernel
theorem d_r_refuseGift_27 : decode (ch_bc m_r_refuseGift) 27 = .ok (.invokevirtual 68, 3) := by decide +kernel
theorem d_r_refuseGift_30 : decode (ch_bc m_r_refuseGift) 30 = .ok (.ifCond .ne 26, 3) := by decide +kernel
theorem d_r_refuseGift_33 : decode (ch_bc m_r_refuseGift) 33 = .ok (.aload_n 0, 1) := by decide +kernel
theorem d_r_refuseGift_34 : decode (ch_bc m_r_refuseGift) 34 = .ok (.iload 4, 2) := by decide +kernel
theorem d_r_refuseGift_36 : decode (ch_bc m_r_refuseGift) 36 = .ok (.iconst 1, 1) := by decide +kernel
theorem d_r_refuseGift_37 : decode (ch_bc m_r_refuseGift) 37 = .ok (.bipush 99, 2) := by decide +kernel
theorem d_r_refuseGift_39 : decode (ch_bc m_r_refuseGift) 39 = .ok (.invokevirtual 59, 3) := by decide +kernel
theorem d_r_refuseGift_42 : decode (ch_bc m_r_refuseGift) 42 = .ok (.ifCond .ne 14, 3) := by decide +kernel
theorem d_r_refuseGift_45 : decode (ch_bc m_r_refuseGift) 45 = .ok (.aload_n 0, 1) := by decide +kernel
theorem d_r_refuseGift_46 : decode (ch_bc m_r_refuseGift) 46 = .ok (.aload_n 1, 1) := by decide +kernel
theorem d_r_refuseGift_47 : decode (ch_bc m_r_refuseGift) 47 = .ok (.iload_n 2, 1) := by decide +kernel
theorem d_r_refuseGift_48 : decode (ch_bc m_r_refuseGift) 48 = .ok (.iload 4, 2) := by decide +kernel
theorem d_r_refuseGift_50 : decode (ch_bc m_r_refuseGift) 50 = .ok (.invokevirtual 82, 3) := by decide +kernel
theorem d_r_refuseGift_53 : decode (ch_bc m_r_refuseGift) 53 = .ok (.ifCond .eq 7, 3) := by decide +kernel
theorem d_r_refuseGift_56 : decode (ch_bc m_r_refuseGift) 56 = .ok (.iconst 1, 1) := by decide +kernel
theorem d_r_refuseGift_57 : decode (ch_bc m_r_refuseGift) 57 = .ok (.goto 4, 3) := by decide +kernel
theorem d_r_refuseGift_60 : decode (ch_bc m_r_refuseGift) 60 = .ok (.iconst 0, 1) := by decide +kernel
theorem d_r_refuseGift_61 : decode (ch_bc m_r_refuseGift) 61 = .ok (.ireturn, 1) := by decide +kernel
theorem d_r_lacksRange_0 : decode (ch_bc m_r_lacksRange) 0 = .ok (.iload_n 1, 1) := by decide +kernel
theorem d_r_lacksRange_1 : decode (ch_bc m_r_lacksRange) 1 = .ok (.iload_n 2, 1) := by decide +kernel
theorem d_r_lacksRange_2 : decode (ch_bc m_r_lacksRange) 2 = .ok (.if_icmp .lt 8, 3) := by decide +kernel
theorem d_r_lacksRange_5 : decode (ch_bc m_r_lacksRange) 5 = .ok (.iload_n 1, 1) := by decide +kernel
theorem d_r_lacksRange_6 : decode (ch_bc m_r_lacksRange) 6 = .ok (.iload_n 3, 1) := by decide +kernel
theorem d_r_lacksRange_7 : decode (ch_bc m_r_lacksRange) 7 = .ok (.if_icmp .le 16, 3) := by decide +kernel
theorem d_r_lacksRange_10 : decode (ch_bc m_r_lacksRange) 10 = .ok (.aload_n 0, 1) := by decide +kernel
theorem d_r_lacksRange_11 : decode (ch_bc m_r_lacksRange) 11 = .ok (.iconst 1, 1) := by decide +kernel
theorem d_r_lacksRange_12 : decode (ch_bc m_r_lacksRange) 12 = .ok (.iconst 0, 1) := by decide +kernel
theorem d_r_lacksRange_13 : decode (ch_bc m_r_lacksRange) 13 = .ok (.invokevirtual 68, 3) := by decide +kernel
theorem d_r_lacksRange_16 : decode (ch_bc m_r_lacksRange) 16 = .ok (.ifCond .eq 7, 3) := by decide +kernel
theorem d_r_lacksRange_19 : decode (ch_bc m_r_lacksRange) 19 = .ok (.iconst 1, 1) := by decide +kernel
theorem d_r_lacksRange_20 : decode (ch_bc m_r_lacksRange) 20 = .ok (.goto 4, 3) := by decide +kernel
theorem d_r_lacksRange_23 : decode (ch_bc m_r_lacksRange) 23 = .ok (.iconst 0, 1) := by decide +kernel
theorem d_r_lacksRange_24 : decode (ch_bc m_r_lacksRange) 24 = .ok (.ireturn, 1) := by decide +kernel
theorem d_r_lacksChild_0 : decode (ch_bc m_r_lacksChild) 0 = .ok (.aload_n 1, 1) := by decide +kernel
theorem d_r_lacksChild_1 : decode (ch_bc m_r_lacksChild) 1 = .ok (.iload_n 2, 1) := by decide +kernel
theorem d_r_lacksChild_2 : decode (ch_bc m_r_lacksChild) 2 = .ok (.invokevirtual 110, 3) := by decide +kernel
theorem d_r_lacksChild_5 : decode (ch_bc m_r_lacksChild) 5 = .ok (.ifCond .ne 19, 3) := by decide +kernel
theorem d_r_lacksChild_8 : decode (ch_bc m_r_lacksChild) 8 = .ok (.aload_n 0, 1) := by decide +kernel
theorem d_r_lacksChild_9 : decode (ch_bc m_r_lacksChild) 9 = .ok (.iconst 3, 1) := by decide +kernel
theorem d_r_lacksChild_10 : decode (ch_bc m_r_lacksChild) 10 = .ok (.aload_n 1, 1) := by decide +kernel
theorem d_r_lacksChild_11 : decode (ch_bc m_r_lacksChild) 11 = .ok (.getfield 63, 3) := by decide +kernel
theorem d_r_lacksChild_14 : decode (ch_bc m_r_lacksChild) 14 = .ok (.invokevirtual 68, 3) := by decide +kernel
theorem d_r_lacksChild_17 : decode (ch_bc m_r_lacksChild) 17 = .ok (.ifCond .eq 7, 3) := by decide +kernel
theorem d_r_lacksChild_20 : decode (ch_bc m_r_lacksChild) 20 = .ok (.iconst 1, 1) := by decide +kernel
theorem d_r_lacksChild_21 : decode (ch_bc m_r_lacksChild) 21 = .ok (.goto 4, 3) := by decide +kernel
theorem d_r_lacksChild_24 : decode (ch_bc m_r_lacksChild) 24 = .ok (.iconst 0, 1) := by decide +kernel
theorem d_r_lacksChild_25 : decode (ch_bc m_r_lacksChild) 25 = .ok (.ireturn, 1) := by decide +kernel
theorem d_r_isWanted_0 : decode (ch_bc m_r_isWanted) 0 = .ok (.aload_n 1, 1) := by decide +kernel
theorem d_r_isWanted_1 : decode (ch_bc m_r_isWanted) 1 = .ok (.getfield 100, 3) := by decide +kernel
theorem d_r_isWanted_4 : decode (ch_bc m_r_isWanted) 4 = .ok (.iload_n 2, 1) := by decide +kernel
theorem d_r_isWanted_5 : decode (ch_bc m_r_isWanted) 5 = .ok (.iaload, 1) := by decide +kernel
theorem d_r_isWanted_6 : decode (ch_bc m_r_isWanted) 6 = .ok (.ifCond .le 22, 3) := by decide +kernel
theorem d_r_isWanted_9 : decode (ch_bc m_r_isWanted) 9 = .ok (.aload_n 0, 1) := by decide +kernel
theorem d_r_isWanted_10 : decode (ch_bc m_r_isWanted) 10 = .ok (.bipush 7, 2) := by decide +kernel
theorem d_r_isWanted_12 : decode (ch_bc m_r_isWanted) 12 = .ok (.aload_n 1, 1) := by decide +kernel
theorem d_r_isWanted_13 : decode (ch_bc m_r_isWanted) 13 = .ok (.getfield 100, 3) := by decide +kernel
theorem d_r_isWanted_16 : decode (ch_bc m_r_isWanted) 16 = .ok (.iload_n 2, 1) := by decide +kernel
theorem d_r_isWanted_17 : decode (ch_bc m_r_isWanted) 17 = .ok (.iaload, 1) := by decide +kernel
theorem d_r_isWanted_18 : decode (ch_bc m_r_isWanted) 18 = .ok (.invokevirtual 68, 3) := by decide +kernel
theorem d_r_isWanted_21 : decode (ch_bc m_r_isWanted) 21 = .ok (.ifCond .eq 7, 3) := by decide +kernel
theorem d_r_isWanted_24 : decode (ch_bc m_r_isWanted) 24 = .ok (.iconst 1, 1) := by decide +kernel
theorem d_r_isWanted_25 : decode (ch_bc m_r_isWanted) 25 = .ok (.goto 4, 3) := by decide +kernel
theorem d_r_isWanted_28 : decode (ch_bc m_r_isWanted) 28 = .ok (.iconst 0, 1) := by decide +kernel
theorem d_r_isWanted_29 : decode (ch_bc m_r_isWanted) 29 = .ok (.ireturn, 1) := by decide +kernel
theorem d_r_lacksPebbles_0 : decode (ch_bc m_r_lacksPebbles) 0 = .ok (.aload_n 1, 1) := by decide +kernel
theorem d_r_lacksPebbles_1 : decode (ch_bc m_r_lacksPebbles) 1 = .ok (.getfield 114, 3) := by decide +kernel
theorem d_r_lacksPebbles_4 : decode (ch_bc m_r_lacksPebbles) 4 = .ok (.iload_n 2, 1) := by decide +kernel
theorem d_r_lacksPebbles_5 : decode (ch_bc m_r_lacksPebbles) 5 = .ok (.iaload, 1) := by decide +kernel
theorem d_r_lacksPebbles_6 : decode (ch_bc m_r_lacksPebbles) 6 = .ok (.iload_n 3, 1) := by decide +kernel
theorem d_r_lacksPebbles_7 : decode (ch_bc m_r_lacksPebbles) 7 = .ok (.if_icmp .ge 23, 3) := by decide +kernel
theorem d_r_lacksPebbles_10 : decode (ch_bc m_r_lacksPebbles) 10 = .ok (.aload_n 0, 1) := by decide +kernel
theorem d_r_lacksPebbles_11 : decode (ch_bc m_r_lacksPebbles) 11 = .ok (.iconst 5, 1) := by decide +kernel
theorem d_r_lacksPebbles_12 : decode (ch_bc m_r_lacksPebbles) 12 = .ok (.iload_n 3, 1) := by decide +kernel
theorem d_r_lacksPebbles_13 : decode (ch_bc m_r_lacksPebbles) 13 = .ok (.aload_n 1, 1) := by decide +kernel
theorem d_r_lacksPebbles_14 : decode (ch_bc m_r_lacksPebbles) 14 = .ok (.getfield 114, 3) := by decide +kernel
theorem d_r_lacksPebbles_17 : decode (ch_bc m_r_lacksPebbles) 17 = .ok (.iload_n 2, 1) := by decide +kernel
theorem d_r_lacksPebbles_18 : decode (ch_bc m_r_lacksPebbles) 18 = .ok (.iaload, 1) := by decide +kernel
theorem d_r_lacksPebbles_19 : decode (ch_bc m_r_lacksPebbles) 19 = .ok (.isub, 1) := by decide +kernel
theorem d_r_lacksPebbles_20 : decode (ch_bc m_r_lacksPebbles) 20 = .ok (.invokevirtual 68, 3) := by decide +kernel
theorem d_r_lacksPebbles_23 : decode (ch_bc m_r_lacksPebbles) 23 = .ok (.ifCond .eq 7, 3) := by decide +kernel
theorem d_r_lacksPebbles_26 : decode (ch_bc m_r_lacksPebbles) 26 = .ok (.iconst 1, 1) := by decide +kernel
theorem d_r_lacksPebbles_27 : decode (ch_bc m_r_lacksPebbles) 27 = .ok (.goto 4, 3) := by decide +kernel
theorem d_r_lacksPebbles_30 : decode (ch_bc m_r_lacksPebbles) 30 = .ok (.iconst 0, 1) := by decide +kernel
theorem d_r_lacksPebbles_31 : decode (ch_bc m_r_lacksPebbles) 31 = .ok (.ireturn, 1) := by decide +kernel
theorem d_r_keep_0 : decode (ch_bc m_r_keep) 0 = .ok (.aload_n 0, 1) := by decide +kernel
theorem d_r_keep_1 : decode (ch_bc m_r_keep) 1 = .ok (.iload_n 1, 1) := by decide +kernel
theorem d_r_keep_2 : decode (ch_bc m_r_keep) 2 = .ok (.putfield 117, 3) := by decide +kernel
theorem d_r_keep_5 : decode (ch_bc m_r_keep) 5 = .ok (.aload_n 0, 1) := by decide +kernel
theorem d_r_keep_6 : decode (ch_bc m_r_keep) 6 = .ok (.iload_n 2, 1) := by decide +kernel
theorem d_r_keep_7 : decode (ch_bc m_r_keep) 7 = .ok (.putfield 118, 3) := by decide +kernel
theorem d_r_keep_10 : decode (ch_bc m_r_keep) 10 = .ok (.aload_n 0, 1) := by decide +kernel
theorem d_r_keep_11 : decode (ch_bc m_r_keep) 11 = .ok (.iconst 0, 1) := by decide +kernel
theorem d_r_keep_12 : decode (ch_bc m_r_keep) 12 = .ok (.putfield 121, 3) := by decide +kernel
theorem d_r_keep_15 : decode (ch_bc m_r_keep) 15 = .ok (.iconst 1, 1) := by decide +kernel
theorem d_r_keep_16 : decode (ch_bc m_r_keep) 16 = .ok (.ireturn, 1) := by decide +kernel
theorem d_t_put_0 : decode (ch_bc m_t_put) 0 = .ok (.aload_n 0, 1) := by decide +kernel
theorem d_t_put_1 : decode (ch_bc m_t_put) 1 = .ok (.getfield 15, 3) := by decide +kernel
theorem d_t_put_4 : decode (ch_bc m_t_put) 4 = .ok (.aload_n 0, 1) := by decide +kernel
theorem d_t_put_5 : decode (ch_bc m_t_put) 5 = .ok (.getfield 9, 3) := by decide +kernel
theorem d_t_put_8 : decode (ch_bc m_t_put) 8 = .ok (.arraylength, 1) := by decide +kernel
theorem d_t_put_9 : decode (ch_bc m_t_put) 9 = .ok (.if_icmp .ge 23, 3) := by decide +kernel
theorem d_t_put_12 : decode (ch_bc m_t_put) 12 = .ok (.aload_n 0, 1) := by decide +kernel
theorem d_t_put_13 : decode (ch_bc m_t_put) 13 = .ok (.getfield 9, 3) := by decide +kernel
theorem d_t_put_16 : decode (ch_bc m_t_put) 16 = .ok (.aload_n 0, 1) := by decide +kernel
theorem d_t_put_17 : decode (ch_bc m_t_put) 17 = .ok (.getfield 15, 3) := by decide +kernel
theorem d_t_put_20 : decode (ch_bc m_t_put) 20 = .ok (.iload_n 1, 1) := by decide +kernel
theorem d_t_put_21 : decode (ch_bc m_t_put) 21 = .ok (.castore, 1) := by decide +kernel
theorem d_t_put_22 : decode (ch_bc m_t_put) 22 = .ok (.aload_n 0, 1) := by decide +kernel
theorem d_t_put_23 : decode (ch_bc m_t_put) 23 = .ok (.dup, 1) := by decide +kernel
theorem d_t_put_24 : decode (ch_bc m_t_put) 24 = .ok (.getfield 15, 3) := by decide +kernel
theorem d_t_put_27 : decode (ch_bc m_t_put) 27 = .ok (.iconst 1, 1) := by decide +kernel
theorem d_t_put_28 : decode (ch_bc m_t_put) 28 = .ok (.iadd, 1) := by decide +kernel
theorem d_t_put_29 : decode (ch_bc m_t_put) 29 = .ok (.putfield 15, 3) := by decide +kernel
theorem d_t_put_32 : decode (ch_bc m_t_put) 32 = .ok (.return_, 1) := by decide +kernel
theorem d_s_add_0 : decode (ch_bc m_s_add) 0 = .ok (.aload_n 0, 1) := by decide +kernel
theorem d_s_add_1 : decode (ch_bc m_s_add) 1 = .ok (.getfield 15, 3) := by decide +kernel
theorem d_s_add_4 : decode (ch_bc m_s_add) 4 = .ok (.aload_n 0, 1) := by decide +kernel
theorem d_s_add_5 : decode (ch_bc m_s_add) 5 = .ok (.getfield 9, 3) := by decide +kernel
theorem d_s_add_8 : decode (ch_bc m_s_add) 8 = .ok (.arraylength, 1) := by decide +kernel
theorem d_s_add_9 : decode (ch_bc m_s_add) 9 = .ok (.if_icmp .ge 23, 3) := by decide +kernel
theorem d_s_add_12 : decode (ch_bc m_s_add) 12 = .ok (.aload_n 0, 1) := by decide +kernel
theorem d_s_add_13 : decode (ch_bc m_s_add) 13 = .ok (.getfield 9, 3) := by decide +kernel
theorem d_s_add_16 : decode (ch_bc m_s_add) 16 = .ok (.aload_n 0, 1) := by decide +kernel
theorem d_s_add_17 : decode (ch_bc m_s_add) 17 = .ok (.getfield 15, 3) := by decide +kernel
theorem d_s_add_20 : decode (ch_bc m_s_add) 20 = .ok (.iload_n 1, 1) := by decide +kernel
theorem d_s_add_21 : decode (ch_bc m_s_add) 21 = .ok (.iastore, 1) := by decide +kernel
theorem d_s_add_22 : decode (ch_bc m_s_add) 22 = .ok (.aload_n 0, 1) := by decide +kernel
theorem d_s_add_23 : decode (ch_bc m_s_add) 23 = .ok (.dup, 1) := by decide +kernel
theorem d_s_add_24 : decode (ch_bc m_s_add) 24 = .ok (.getfield 15, 3) := by decide +kernel
theorem d_s_add_27 : decode (ch_bc m_s_add) 27 = .ok (.iconst 1, 1) := by decide +kernel
theorem d_s_add_28 : decode (ch_bc m_s_add) 28 = .ok (.iadd, 1) := by decide +kernel
theorem d_s_add_29 : decode (ch_bc m_s_add) 29 = .ok (.putfield 15, 3) := by decide +kernel
theorem d_s_add_32 : decode (ch_bc m_s_add) 32 = .ok (.return_, 1) := by decide +kernel
theorem d_s_readFrom_0 : decode (ch_bc m_s_readFrom) 0 = .ok (.iload_n 1, 1) := by decide +kernel
theorem d_s_readFrom_1 : decode (ch_bc m_s_readFrom) 1 = .ok (.istore_n 2, 1) := by decide +kernel
theorem d_s_readFrom_2 : decode (ch_bc m_s_readFrom) 2 = .ok (.bipush 9, 2) := by decide +kernel
theorem d_s_readFrom_4 : decode (ch_bc m_s_readFrom) 4 = .ok (.istore_n 3, 1) := by decide +kernel
theorem d_s_readFrom_5 : decode (ch_bc m_s_readFrom) 5 = .ok (.bipush 8, 2) := by decide +kernel
theorem d_s_readFrom_7 : decode (ch_bc m_s_readFrom) 7 = .ok (.istore 4, 2) := by decide +kernel
theorem d_s_readFrom_9 : decode (ch_bc m_s_readFrom) 9 = .ok (.iload 4, 2) := by decide +kernel
theorem d_s_readFrom_11 : decode (ch_bc m_s_readFrom) 11 = .ok (.ifCond .lt 32, 3) := by decide +kernel
theorem d_s_readFrom_14 : decode (ch_bc m_s_readFrom) 14 = .ok (.iload_n 2, 1) := by decide +kernel
theorem d_s_readFrom_15 : decode (ch_bc m_s_readFrom) 15 = .ok (.ifCond .le 28, 3) := by decide +kernel
theorem d_s_readFrom_18 : decode (ch_bc m_s_readFrom) 18 = .ok (.aload_n 0, 1) := by decide +kernel
theorem d_s_readFrom_19 : decode (ch_bc m_s_readFrom) 19 = .ok (.getfield 9, 3) := by decide +kernel
theorem d_s_readFrom_22 : decode (ch_bc m_s_readFrom) 22 = .ok (.iload 4, 2) := by decide +kernel
theorem d_s_readFrom_24 : decode (ch_bc m_s_readFrom) 24 = .ok (.iload_n 2, 1) := by decide +kernel
theorem d_s_readFrom_25 : decode (ch_bc m_s_readFrom) 25 = .ok (.bipush 10, 2) := by decide +kernel
theorem d_s_readFrom_27 : decode (ch_bc m_s_readFrom) 27 = .ok (.irem, 1) := by decide +kernel
theorem d_s_readFrom_28 : decode (ch_bc m_s_readFrom) 28 = .ok (.iastore, 1) := by decide +kernel
theorem d_s_readFrom_29 : decode (ch_bc m_s_readFrom) 29 = .ok (.iload_n 2, 1) := by decide +kernel
theorem d_s_readFrom_30 : decode (ch_bc m_s_readFrom) 30 = .ok (.bipush 10, 2) := by decide +kernel
theorem d_s_readFrom_32 : decode (ch_bc m_s_readFrom) 32 = .ok (.idiv, 1) := by decide +kernel
theorem d_s_readFrom_33 : decode (ch_bc m_s_readFrom) 33 = .ok (.istore_n 2, 1) := by decide +kernel
theorem d_s_readFrom_34 : decode (ch_bc m_s_readFrom) 34 = .ok (.iload 4, 2) := by decide +kernel
theorem d_s_readFrom_36 : decode (ch_bc m_s_readFrom) 36 = .ok (.istore_n 3, 1) := by decide +kernel
theorem d_s_readFrom_37 : decode (ch_bc m_s_readFrom) 37 = .ok (.iinc 4 (-1), 3) := by decide +kernel
theorem d_s_readFrom_40 : decode (ch_bc m_s_readFrom) 40 = .ok (.goto (-31), 3) := by decide +kernel
theorem d_s_readFrom_43 : decode (ch_bc m_s_readFrom) 43 = .ok (.aload_n 0, 1) := by decide +kernel
theorem d_s_readFrom_44 : decode (ch_bc m_s_readFrom) 44 = .ok (.iload_n 2, 1) := by decide +kernel
theorem d_s_readFrom_45 : decode (ch_bc m_s_readFrom) 45 = .ok (.ifCond .ne 10, 3) := by decide +kernel
theorem d_s_readFrom_48 : decode (ch_bc m_s_readFrom) 48 = .ok (.bipush 9, 2) := by decide +kernel
theorem d_s_readFrom_50 : decode (ch_bc m_s_readFrom) 50 = .ok (.iload_n 3, 1) := by decide +kernel
theorem d_s_readFrom_51 : decode (ch_bc m_s_readFrom) 51 = .ok (.isub, 1) := by decide +kernel
theorem d_s_readFrom_52 : decode (ch_bc m_s_readFrom) 52 = .ok (.goto 4, 3) := by decide +kernel
theorem d_s_readFrom_55 : decode (ch_bc m_s_readFrom) 55 = .ok (.iconst 0, 1) := by decide +kernel
theorem d_s_readFrom_56 : decode (ch_bc m_s_readFrom) 56 = .ok (.putfield 15, 3) := by decide +kernel
theorem d_s_readFrom_59 : decode (ch_bc m_s_readFrom) 59 = .ok (.aload_n 0, 1) := by decide +kernel
theorem d_s_readFrom_60 : decode (ch_bc m_s_readFrom) 60 = .ok (.getfield 9, 3) := by decide +kernel
theorem d_s_readFrom_63 : decode (ch_bc m_s_readFrom) 63 = .ok (.iload_n 3, 1) := by decide +kernel
theorem d_s_readFrom_64 : decode (ch_bc m_s_readFrom) 64 = .ok (.aload_n 0, 1) := by decide +kernel
theorem d_s_readFrom_65 : decode (ch_bc m_s_readFrom) 65 = .ok (.getfield 9, 3) := by decide +kernel
theorem d_s_readFrom_68 : decode (ch_bc m_s_readFrom) 68 = .ok (.iconst 0, 1) := by decide +kernel
theorem d_s_readFrom_69 : decode (ch_bc m_s_readFrom) 69 = .ok (.aload_n 0, 1) := by decide +kernel
theorem d_s_readFrom_70 : decode (ch_bc m_s_readFrom) 70 = .ok (.getfield 15, 3) := by decide +kernel
theorem d_s_readFrom_73 : decode (ch_bc m_s_readFrom) 73 = .ok (.invokestatic 19, 3) := by decide +kernel
theorem d_s_readFrom_76 : decode (ch_bc m_s_readFrom) 76 = .ok (.iconst 0, 1) := by decide +kernel
theorem d_s_readFrom_77 : decode (ch_bc m_s_readFrom) 77 = .ok (.istore 4, 2) := by decide +kernel
theorem d_s_readFrom_79 : decode (ch_bc m_s_readFrom) 79 = .ok (.iload 4, 2) := by decide +kernel
theorem d_s_readFrom_81 : decode (ch_bc m_s_readFrom) 81 = .ok (.aload_n 0, 1) := by decide +kernel
theorem d_s_readFrom_82 : decode (ch_bc m_s_readFrom) 82 = .ok (.getfield 15, 3) := by decide +kernel
theorem d_s_readFrom_85 : decode (ch_bc m_s_readFrom) 85 = .ok (.if_icmp .ge 36, 3) := by decide +kernel
theorem d_s_readFrom_88 : decode (ch_bc m_s_readFrom) 88 = .ok (.aload_n 0, 1) := by decide +kernel
theorem d_s_readFrom_89 : decode (ch_bc m_s_readFrom) 89 = .ok (.getfield 9, 3) := by decide +kernel
theorem d_s_readFrom_92 : decode (ch_bc m_s_readFrom) 92 = .ok (.iload 4, 2) := by decide +kernel
theorem d_s_readFrom_94 : decode (ch_bc m_s_readFrom) 94 = .ok (.iaload, 1) := by decide +kernel
theorem d_s_readFrom_95 : decode (ch_bc m_s_readFrom) 95 = .ok (.iconst 1, 1) := by decide +kernel
theorem d_s_readFrom_96 : decode (ch_bc m_s_readFrom) 96 = .ok (.if_icmp .lt 14, 3) := by decide +kernel
theorem d_s_readFrom_99 : decode (ch_bc m_s_readFrom) 99 = .ok (.aload_n 0, 1) := by decide +kernel
theorem d_s_readFrom_100 : decode (ch_bc m_s_readFrom) 100 = .ok (.getfield 9, 3) := by decide +kernel
theorem d_s_readFrom_103 : decode (ch_bc m_s_readFrom) 103 = .ok (.iload 4, 2) := by decide +kernel
theorem d_s_readFrom_105 : decode (ch_bc m_s_readFrom) 105 = .ok (.iaload, 1) := by decide +kernel
theorem d_s_readFrom_106 : decode (ch_bc m_s_readFrom) 106 = .ok (.iconst 3, 1) := by decide +kernel
theorem d_s_readFrom_107 : decode (ch_bc m_s_readFrom) 107 = .ok (.if_icmp .le 8, 3) := by decide +kernel
theorem d_s_readFrom_110 : decode (ch_bc m_s_readFrom) 110 = .ok (.aload_n 0, 1) := by decide +kernel
theorem d_s_readFrom_111 : decode (ch_bc m_s_readFrom) 111 = .ok (.iconst 0, 1) := by decide +kernel
theorem d_s_readFrom_112 : decode (ch_bc m_s_readFrom) 112 = .ok (.putfield 15, 3) := by decide +kernel
theorem d_s_readFrom_115 : decode (ch_bc m_s_readFrom) 115 = .ok (.iinc 4 1, 3) := by decide +kernel
theorem d_s_readFrom_118 : decode (ch_bc m_s_readFrom) 118 = .ok (.goto (-39), 3) := by decide +kernel
theorem d_s_readFrom_121 : decode (ch_bc m_s_readFrom) 121 = .ok (.return_, 1) := by decide +kernel
theorem d_s_misfit_0 : decode (ch_bc m_s_misfit) 0 = .ok (.iconst (-1), 1) := by decide +kernel
theorem d_s_misfit_1 : decode (ch_bc m_s_misfit) 1 = .ok (.istore_n 1, 1) := by decide +kernel
theorem d_s_misfit_2 : decode (ch_bc m_s_misfit) 2 = .ok (.iconst 0, 1) := by decide +kernel
theorem d_s_misfit_3 : decode (ch_bc m_s_misfit) 3 = .ok (.istore_n 2, 1) := by decide +kernel
theorem d_s_misfit_4 : decode (ch_bc m_s_misfit) 4 = .ok (.iload_n 2, 1) := by decide +kernel
theorem d_s_misfit_5 : decode (ch_bc m_s_misfit) 5 = .ok (.aload_n 0, 1) := by decide +kernel
theorem d_s_misfit_6 : decode (ch_bc m_s_misfit) 6 = .ok (.getfield 15, 3) := by decide +kernel
theorem d_s_misfit_9 : decode (ch_bc m_s_misfit) 9 = .ok (.if_icmp .ge 27, 3) := by decide +kernel
theorem d_s_misfit_12 : decode (ch_bc m_s_misfit) 12 = .ok (.iload_n 1, 1) := by decide +kernel
theorem d_s_misfit_13 : decode (ch_bc m_s_misfit) 13 = .ok (.bipush 11, 2) := by decide +kernel
theorem d_s_misfit_15 : decode (ch_bc m_s_misfit) 15 = .ok (.if_icmp .lt 6, 3) := by decide +kernel
theorem d_s_misfit_18 : decode (ch_bc m_s_misfit) 18 = .ok (.bipush 12, 2) := by decide +kernel
theorem d_s_misfit_20 : decode (ch_bc m_s_misfit) 20 = .ok (.ireturn, 1) := by decide +kernel
theorem d_s_misfit_21 : decode (ch_bc m_s_misfit) 21 = .ok (.iload_n 1, 1) := by decide +kernel
theorem d_s_misfit_22 : decode (ch_bc m_s_misfit) 22 = .ok (.aload_n 0, 1) := by decide +kernel
theorem d_s_misfit_23 : decode (ch_bc m_s_misfit) 23 = .ok (.getfield 9, 3) := by decide +kernel
theorem d_s_misfit_26 : decode (ch_bc m_s_misfit) 26 = .ok (.iload_n 2, 1) := by decide +kernel
theorem d_s_misfit_27 : decode (ch_bc m_s_misfit) 27 = .ok (.iaload, 1) := by decide +kernel
theorem d_s_misfit_28 : decode (ch_bc m_s_misfit) 28 = .ok (.iadd, 1) := by decide +kernel
theorem d_s_misfit_29 : decode (ch_bc m_s_misfit) 29 = .ok (.istore_n 1, 1) := by decide +kernel
theorem d_s_misfit_30 : decode (ch_bc m_s_misfit) 30 = .ok (.iinc 2 1, 3) := by decide +kernel
theorem d_s_misfit_33 : decode (ch_bc m_s_misfit) 33 = .ok (.goto (-29), 3) := by decide +kernel
theorem d_s_misfit_36 : decode (ch_bc m_s_misfit) 36 = .ok (.iload_n 1, 1) := by decide +kernel
theorem d_s_misfit_37 : decode (ch_bc m_s_misfit) 37 = .ok (.bipush 11, 2) := by decide +kernel
theorem d_s_misfit_39 : decode (ch_bc m_s_misfit) 39 = .ok (.if_icmp .lt 7, 3) := by decide +kernel
theorem d_s_misfit_42 : decode (ch_bc m_s_misfit) 42 = .ok (.iconst (-1), 1) := by decide +kernel
theorem d_s_misfit_43 : decode (ch_bc m_s_misfit) 43 = .ok (.goto 4, 3) := by decide +kernel
theorem d_s_misfit_46 : decode (ch_bc m_s_misfit) 46 = .ok (.iload_n 1, 1) := by decide +kernel
theorem d_s_misfit_47 : decode (ch_bc m_s_misfit) 47 = .ok (.ireturn, 1) := by decide +kernel
theorem d_w_fewestBack_0 : decode (ch_bc m_w_fewestBack) 0 = .ok (.bipush 12, 2) := by decide +kernel
theorem d_w_fewestBack_2 : decode (ch_bc m_w_fewestBack) 2 = .ok (.istore_n 3, 1) := by decide +kernel
theorem d_w_fewestBack_3 : decode (ch_bc m_w_fewestBack) 3 = .ok (.iload_n 3, 1) := by decide +kernel
theorem d_w_fewestBack_4 : decode (ch_bc m_w_fewestBack) 4 = .ok (.bipush 15, 2) := by decide +kernel
theorem d_w_fewestBack_6 : decode (ch_bc m_w_fewestBack) 6 = .ok (.if_icmp .ge 23, 3) := by decide +kernel
theorem d_w_fewestBack_9 : decode (ch_bc m_w_fewestBack) 9 = .ok (.aload_n 0, 1) := by decide +kernel
theorem d_w_fewestBack_10 : decode (ch_bc m_w_fewestBack) 10 = .ok (.getfield 11, 3) := by decide +kernel
theorem d_w_fewestBack_13 : decode (ch_bc m_w_fewestBack) 13 = .ok (.iload_n 3, 1) := by decide +kernel
theorem d_w_fewestBack_14 : decode (ch_bc m_w_fewestBack) 14 = .ok (.iconst 0, 1) := by decide +kernel
theorem d_w_fewestBack_15 : decode (ch_bc m_w_fewestBack) 15 = .ok (.iastore, 1) := by decide +kernel
theorem d_w_fewestBack_16 : decode (ch_bc m_w_fewestBack) 16 = .ok (.aload_n 0, 1) := by decide +kernel
theorem d_w_fewestBack_17 : decode (ch_bc m_w_fewestBack) 17 = .ok (.getfield 15, 3) := by decide +kernel
theorem d_w_fewestBack_20 : decode (ch_bc m_w_fewestBack) 20 = .ok (.iload_n 3, 1) := by decide +kernel
theorem d_w_fewestBack_21 : decode (ch_bc m_w_fewestBack) 21 = .ok (.iconst 0, 1) := by decide +kernel
theorem d_w_fewestBack_22 : decode (ch_bc m_w_fewestBack) 22 = .ok (.iastore, 1) := by decide +kernel
theorem d_w_fewestBack_23 : decode (ch_bc m_w_fewestBack) 23 = .ok (.iinc 3 1, 3) := by decide +kernel
theorem d_w_fewestBack_26 : decode (ch_bc m_w_fewestBack) 26 = .ok (.goto (-23), 3) := by decide +kernel
theorem d_w_fewestBack_29 : decode (ch_bc m_w_fewestBack) 29 = .ok (.bipush 11, 2) := by decide +kernel
theorem d_w_fewestBack_31 : decode (ch_bc m_w_fewestBack) 31 = .ok (.istore_n 3, 1) := by decide +kernel
theorem d_w_fewestBack_32 : decode (ch_bc m_w_fewestBack) 32 = .ok (.iload_n 3, 1) := by decide +kernel
theorem d_w_fewestBack_33 : decode (ch_bc m_w_fewestBack) 33 = .ok (.ifCond .lt 40, 3) := by decide +kernel
theorem d_w_fewestBack_36 : decode (ch_bc m_w_fewestBack) 36 = .ok (.aload_n 0, 1) := by decide +kernel
theorem d_w_fewestBack_37 : decode (ch_bc m_w_fewestBack) 37 = .ok (.getfield 18, 3) := by decide +kernel
theorem d_w_fewestBack_40 : decode (ch_bc m_w_fewestBack) 40 = .ok (.iload_n 3, 1) := by decide +kernel
theorem d_w_fewestBack_41 : decode (ch_bc m_w_fewestBack) 41 = .ok (.iconst 0, 1) := by decide +kernel
theorem d_w_fewestBack_42 : decode (ch_bc m_w_fewestBack) 42 = .ok (.iastore, 1) := by decide +kernel
theorem d_w_fewestBack_43 : decode (ch_bc m_w_fewestBack) 43 = .ok (.iconst 3, 1) := by decide +kernel
theorem d_w_fewestBack_44 : decode (ch_bc m_w_fewestBack) 44 = .ok (.istore 4, 2) := by decide +kernel
theorem d_w_fewestBack_46 : decode (ch_bc m_w_fewestBack) 46 = .ok (.iload 4, 2) := by decide +kernel
theorem d_w_fewestBack_48 : decode (ch_bc m_w_fewestBack) 48 = .ok (.iconst 1, 1) := by decide +kernel
theorem d_w_fewestBack_49 : decode (ch_bc m_w_fewestBack) 49 = .ok (.if_icmp .lt 18, 3) := by decide +kernel
theorem d_w_fewestBack_52 : decode (ch_bc m_w_fewestBack) 52 = .ok (.aload_n 0, 1) := by decide +kernel
theorem d_w_fewestBack_53 : decode (ch_bc m_w_fewestBack) 53 = .ok (.aload_n 1, 1) := by decide +kernel
theorem d_w_fewestBack_54 : decode (ch_bc m_w_fewestBack) 54 = .ok (.iload_n 2, 1) := by decide +kernel
theorem d_w_fewestBack_55 : decode (ch_bc m_w_fewestBack) 55 = .ok (.iload_n 3, 1) := by decide +kernel
theorem d_w_fewestBack_56 : decode (ch_bc m_w_fewestBack) 56 = .ok (.iload 4, 2) := by decide +kernel
theorem d_w_fewestBack_58 : decode (ch_bc m_w_fewestBack) 58 = .ok (.invokevirtual 21, 3) := by decide +kernel
theorem d_w_fewestBack_61 : decode (ch_bc m_w_fewestBack) 61 = .ok (.iinc 4 (-1), 3) := by decide +kernel
theorem d_w_fewestBack_64 : decode (ch_bc m_w_fewestBack) 64 = .ok (.goto (-18), 3) := by decide +kernel
theorem d_w_fewestBack_67 : decode (ch_bc m_w_fewestBack) 67 = .ok (.iinc 3 (-1), 3) := by decide +kernel
theorem d_w_fewestBack_70 : decode (ch_bc m_w_fewestBack) 70 = .ok (.goto (-38), 3) := by decide +kernel
theorem d_w_fewestBack_73 : decode (ch_bc m_w_fewestBack) 73 = .ok (.aload_n 0, 1) := by decide +kernel
theorem d_w_fewestBack_74 : decode (ch_bc m_w_fewestBack) 74 = .ok (.getfield 11, 3) := by decide +kernel
theorem d_w_fewestBack_77 : decode (ch_bc m_w_fewestBack) 77 = .ok (.iconst 0, 1) := by decide +kernel
theorem d_w_fewestBack_78 : decode (ch_bc m_w_fewestBack) 78 = .ok (.iaload, 1) := by decide +kernel
theorem d_w_fewestBack_79 : decode (ch_bc m_w_fewestBack) 79 = .ok (.ireturn, 1) := by decide +kernel
theorem d_w_tryStep_0 : decode (ch_bc m_w_tryStep) 0 = .ok (.iload_n 3, 1) := by decide +kernel
theorem d_w_tryStep_1 : decode (ch_bc m_w_tryStep) 1 = .ok (.iload 4, 2) := by decide +kernel
theorem d_w_tryStep_3 : decode (ch_bc m_w_tryStep) 3 = .ok (.iadd, 1) := by decide +kernel
theorem d_w_tryStep_4 : decode (ch_bc m_w_tryStep) 4 = .ok (.istore 5, 2) := by decide +kernel
theorem d_w_tryStep_6 : decode (ch_bc m_w_tryStep) 6 = .ok (.aload_n 0, 1) := by decide +kernel
theorem d_w_tryStep_7 : decode (ch_bc m_w_tryStep) 7 = .ok (.getfield 11, 3) := by decide +kernel
theorem d_w_tryStep_10 : decode (ch_bc m_w_tryStep) 10 = .ok (.iload 5, 2) := by decide +kernel
theorem d_w_tryStep_12 : decode (ch_bc m_w_tryStep) 12 = .ok (.iaload, 1) := by decide +kernel
theorem d_w_tryStep_13 : decode (ch_bc m_w_tryStep) 13 = .ok (.aload_n 0, 1) := by decide +kernel
theorem d_w_tryStep_14 : decode (ch_bc m_w_tryStep) 14 = .ok (.aload_n 1, 1) := by decide +kernel
theorem d_w_tryStep_15 : decode (ch_bc m_w_tryStep) 15 = .ok (.iload_n 2, 1) := by decide +kernel
theorem d_w_tryStep_16 : decode (ch_bc m_w_tryStep) 16 = .ok (.iload 5, 2) := by decide +kernel
theorem d_w_tryStep_18 : decode (ch_bc m_w_tryStep) 18 = .ok (.invokevirtual 25, 3) := by decide +kernel
theorem d_w_tryStep_21 : decode (ch_bc m_w_tryStep) 21 = .ok (.iadd, 1) := by decide +kernel
theorem d_w_tryStep_22 : decode (ch_bc m_w_tryStep) 22 = .ok (.istore 6, 2) := by decide +kernel
theorem d_w_tryStep_24 : decode (ch_bc m_w_tryStep) 24 = .ok (.aload_n 0, 1) := by decide +kernel
theorem d_w_tryStep_25 : decode (ch_bc m_w_tryStep) 25 = .ok (.getfield 15, 3) := by decide +kernel
theorem d_w_tryStep_28 : decode (ch_bc m_w_tryStep) 28 = .ok (.iload 5, 2) := by decide +kernel
theorem d_w_tryStep_30 : decode (ch_bc m_w_tryStep) 30 = .ok (.iaload, 1) := by decide +kernel
theorem d_w_tryStep_31 : decode (ch_bc m_w_tryStep) 31 = .ok (.iconst 1, 1) := by decide +kernel
theorem d_w_tryStep_32 : decode (ch_bc m_w_tryStep) 32 = .ok (.iadd, 1) := by decide +kernel
theorem d_w_tryStep_33 : decode (ch_bc m_w_tryStep) 33 = .ok (.istore 7, 2) := by decide +kernel
theorem d_w_tryStep_35 : decode (ch_bc m_w_tryStep) 35 = .ok (.aload_n 0, 1) := by decide +kernel
theorem d_w_tryStep_36 : decode (ch_bc m_w_tryStep) 36 = .ok (.getfield 18, 3) := by decide +kernel
theorem d_w_tryStep_39 : decode (ch_bc m_w_tryStep) 39 = .ok (.iload_n 3, 1) := by decide +kernel
theorem d_w_tryStep_40 : decode (ch_bc m_w_tryStep) 40 = .ok (.iaload, 1) := by decide +kernel
theorem d_w_tryStep_41 : decode (ch_bc m_w_tryStep) 41 = .ok (.ifCond .eq 36, 3) := by decide +kernel
theorem d_w_tryStep_44 : decode (ch_bc m_w_tryStep) 44 = .ok (.iload 6, 2) := by decide +kernel
theorem d_w_tryStep_46 : decode (ch_bc m_w_tryStep) 46 = .ok (.aload_n 0, 1) := by decide +kernel
theorem d_w_tryStep_47 : decode (ch_bc m_w_tryStep) 47 = .ok (.getfield 11, 3) := by decide +kernel
theorem d_w_tryStep_50 : decode (ch_bc m_w_tryStep) 50 = .ok (.iload_n 3, 1) := by decide +kernel
theorem d_w_tryStep_51 : decode (ch_bc m_w_tryStep) 51 = .ok (.iaload, 1) := by decide +kernel
theorem d_w_tryStep_52 : decode (ch_bc m_w_tryStep) 52 = .ok (.if_icmp .lt 25, 3) := by decide +kernel
theorem d_w_tryStep_55 : decode (ch_bc m_w_tryStep) 55 = .ok (.iload 6, 2) := by decide +kernel
theorem d_w_tryStep_57 : decode (ch_bc m_w_tryStep) 57 = .ok (.aload_n 0, 1) := by decide +kernel
theorem d_w_tryStep_58 : decode (ch_bc m_w_tryStep) 58 = .ok (.getfield 11, 3) := by decide +kernel
theorem d_w_tryStep_61 : decode (ch_bc m_w_tryStep) 61 = .ok (.iload_n 3, 1) := by decide +kernel
theorem d_w_tryStep_62 : decode (ch_bc m_w_tryStep) 62 = .ok (.iaload, 1) := by decide +kernel
theorem d_w_tryStep_63 : decode (ch_bc m_w_tryStep) 63 = .ok (.if_icmp .ne 38, 3) := by decide +kernel
theorem d_w_tryStep_66 : decode (ch_bc m_w_tryStep) 66 = .ok (.iload 7, 2) := by decide +kernel
theorem d_w_tryStep_68 : decode (ch_bc m_w_tryStep) 68 = .ok (.aload_n 0, 1) := by decide +kernel
theorem d_w_tryStep_69 : decode (ch_bc m_w_tryStep) 69 = .ok (.getfield 15, 3) := by decide +kernel
theorem d_w_tryStep_72 : decode (ch_bc m_w_tryStep) 72 = .ok (.iload_n 3, 1) := by decide +kernel
theorem d_w_tryStep_73 : decode (ch_bc m_w_tryStep) 73 = .ok (.iaload, 1) := by decide +kernel
theorem d_w_tryStep_74 : decode (ch_bc m_w_tryStep) 74 = .ok (.if_icmp .ge 27, 3) := by decide +kernel
theorem d_w_tryStep_77 : decode (ch_bc m_w_tryStep) 77 = .ok (.aload_n 0, 1) := by decide +kernel
theorem d_w_tryStep_78 : decode (ch_bc m_w_tryStep) 78 = .ok (.getfield 11, 3) := by decide +kernel
theorem d_w_tryStep_81 : decode (ch_bc m_w_tryStep) 81 = .ok (.iload_n 3, 1) := by decide +kernel
theorem d_w_tryStep_82 : decode (ch_bc m_w_tryStep) 82 = .ok (.iload 6, 2) := by decide +kernel
theorem d_w_tryStep_84 : decode (ch_bc m_w_tryStep) 84 = .ok (.iastore, 1) := by decide +kernel
theorem d_w_tryStep_85 : decode (ch_bc m_w_tryStep) 85 = .ok (.aload_n 0, 1) := by decide +kernel
theorem d_w_tryStep_86 : decode (ch_bc m_w_tryStep) 86 = .ok (.getfield 15, 3) := by decide +kernel
theorem d_w_tryStep_89 : decode (ch_bc m_w_tryStep) 89 = .ok (.iload_n 3, 1) := by decide +kernel
theorem d_w_tryStep_90 : decode (ch_bc m_w_tryStep) 90 = .ok (.iload 7, 2) := by decide +kernel
theorem d_w_tryStep_92 : decode (ch_bc m_w_tryStep) 92 = .ok (.iastore, 1) := by decide +kernel
theorem d_w_tryStep_93 : decode (ch_bc m_w_tryStep) 93 = .ok (.aload_n 0, 1) := by decide +kernel
theorem d_w_tryStep_94 : decode (ch_bc m_w_tryStep) 94 = .ok (.getfield 18, 3) := by decide +kernel
theorem d_w_tryStep_97 : decode (ch_bc m_w_tryStep) 97 = .ok (.iload_n 3, 1) := by decide +kernel
theorem d_w_tryStep_98 : decode (ch_bc m_w_tryStep) 98 = .ok (.iload 4, 2) := by decide +kernel
theorem d_w_tryStep_100 : decode (ch_bc m_w_tryStep) 100 = .ok (.iastore, 1) := by decide +kernel
theorem d_w_tryStep_101 : decode (ch_bc m_w_tryStep) 101 = .ok (.return_, 1) := by decide +kernel
theorem d_w_tellBest_0 : decode (ch_bc m_w_tellBest) 0 = .ok (.aload_n 1, 1) := by decide +kernel
theorem d_w_tellBest_1 : decode (ch_bc m_w_tellBest) 1 = .ok (.iconst 0, 1) := by decide +kernel
theorem d_w_tellBest_2 : decode (ch_bc m_w_tellBest) 2 = .ok (.putfield 29, 3) := by decide +kernel
theorem d_w_tellBest_5 : decode (ch_bc m_w_tellBest) 5 = .ok (.iconst 0, 1) := by decide +kernel
theorem d_w_tellBest_6 : decode (ch_bc m_w_tellBest) 6 = .ok (.istore_n 2, 1) := by decide +kernel
theorem d_w_tellBest_7 : decode (ch_bc m_w_tellBest) 7 = .ok (.iconst 0, 1) := by decide +kernel
theorem d_w_tellBest_8 : decode (ch_bc m_w_tellBest) 8 = .ok (.istore_n 3, 1) := by decide +kernel
theorem d_w_tellBest_9 : decode (ch_bc m_w_tellBest) 9 = .ok (.iload_n 3, 1) := by decide +kernel
theorem d_w_tellBest_10 : decode (ch_bc m_w_tellBest) 10 = .ok (.bipush 12, 2) := by decide +kernel
theorem d_w_tellBest_12 : decode (ch_bc m_w_tellBest) 12 = .ok (.if_icmp .ge 34, 3) := by decide +kernel
theorem d_w_tellBest_15 : decode (ch_bc m_w_tellBest) 15 = .ok (.iload_n 2, 1) := by decide +kernel
theorem d_w_tellBest_16 : decode (ch_bc m_w_tellBest) 16 = .ok (.bipush 12, 2) := by decide +kernel
theorem d_w_tellBest_18 : decode (ch_bc m_w_tellBest) 18 = .ok (.if_icmp .ge 28, 3) := by decide +kernel
theorem d_w_tellBest_21 : decode (ch_bc m_w_tellBest) 21 = .ok (.aload_n 1, 1) := by decide +kernel
theorem d_w_tellBest_22 : decode (ch_bc m_w_tellBest) 22 = .ok (.aload_n 0, 1) := by decide +kernel
theorem d_w_tellBest_23 : decode (ch_bc m_w_tellBest) 23 = .ok (.getfield 18, 3) := by decide +kernel
theorem d_w_tellBest_26 : decode (ch_bc m_w_tellBest) 26 = .ok (.iload_n 2, 1) := by decide +kernel
theorem d_w_tellBest_27 : decode (ch_bc m_w_tellBest) 27 = .ok (.iaload, 1) := by decide +kernel
theorem d_w_tellBest_28 : decode (ch_bc m_w_tellBest) 28 = .ok (.invokevirtual 35, 3) := by decide +kernel
theorem d_w_tellBest_31 : decode (ch_bc m_w_tellBest) 31 = .ok (.iload_n 2, 1) := by decide +kernel
theorem d_w_tellBest_32 : decode (ch_bc m_w_tellBest) 32 = .ok (.aload_n 0, 1) := by decide +kernel
theorem d_w_tellBest_33 : decode (ch_bc m_w_tellBest) 33 = .ok (.getfield 18, 3) := by decide +kernel
theorem d_w_tellBest_36 : decode (ch_bc m_w_tellBest) 36 = .ok (.iload_n 2, 1) := by decide +kernel
theorem d_w_tellBest_37 : decode (ch_bc m_w_tellBest) 37 = .ok (.iaload, 1) := by decide +kernel
theorem d_w_tellBest_38 : decode (ch_bc m_w_tellBest) 38 = .ok (.iadd, 1) := by decide +kernel
theorem d_w_tellBest_39 : decode (ch_bc m_w_tellBest) 39 = .ok (.istore_n 2, 1) := by decide +kernel
theorem d_w_tellBest_40 : decode (ch_bc m_w_tellBest) 40 = .ok (.iinc 3 1, 3) := by decide +kernel
theorem d_w_tellBest_43 : decode (ch_bc m_w_tellBest) 43 = .ok (.goto (-34), 3) := by decide +kernel
theorem d_w_tellBest_46 : decode (ch_bc m_w_tellBest) 46 = .ok (.return_, 1) := by decide +kernel
theorem d_w_fewestOn_0 : decode (ch_bc m_w_fewestOn) 0 = .ok (.aload_n 0, 1) := by decide +kernel
theorem d_w_fewestOn_1 : decode (ch_bc m_w_fewestOn) 1 = .ok (.getfield 11, 3) := by decide +kernel
theorem d_w_fewestOn_4 : decode (ch_bc m_w_fewestOn) 4 = .ok (.iconst 0, 1) := by decide +kernel
theorem d_w_fewestOn_5 : decode (ch_bc m_w_fewestOn) 5 = .ok (.iconst 0, 1) := by decide +kernel
theorem d_w_fewestOn_6 : decode (ch_bc m_w_fewestOn) 6 = .ok (.iastore, 1) := by decide +kernel
theorem d_w_fewestOn_7 : decode (ch_bc m_w_fewestOn) 7 = .ok (.bipush 12, 2) := by decide +kernel
theorem d_w_fewestOn_9 : decode (ch_bc m_w_fewestOn) 9 = .ok (.istore_n 3, 1) := by decide +kernel
theorem d_w_fewestOn_10 : decode (ch_bc m_w_fewestOn) 10 = .ok (.iconst 1, 1) := by decide +kernel
theorem d_w_fewestOn_11 : decode (ch_bc m_w_fewestOn) 11 = .ok (.istore 4, 2) := by decide +kernel
theorem d_w_fewestOn_13 : decode (ch_bc m_w_fewestOn) 13 = .ok (.iload 4, 2) := by decide +kernel
theorem d_w_fewestOn_15 : decode (ch_bc m_w_fewestOn) 15 = .ok (.bipush 15, 2) := by decide +kernel
theorem d_w_fewestOn_17 : decode (ch_bc m_w_fewestOn) 17 = .ok (.if_icmp .ge 98, 3) := by decide +kernel
theorem d_w_fewestOn_20 : decode (ch_bc m_w_fewestOn) 20 = .ok (.bipush 12, 2) := by decide +kernel
theorem d_w_fewestOn_22 : decode (ch_bc m_w_fewestOn) 22 = .ok (.istore 5, 2) := by decide +kernel
theorem d_w_fewestOn_24 : decode (ch_bc m_w_fewestOn) 24 = .ok (.iload 4, 2) := by decide +kernel
theorem d_w_fewestOn_26 : decode (ch_bc m_w_fewestOn) 26 = .ok (.iconst 3, 1) := by decide +kernel
theorem d_w_fewestOn_27 : decode (ch_bc m_w_fewestOn) 27 = .ok (.isub, 1) := by decide +kernel
theorem d_w_fewestOn_28 : decode (ch_bc m_w_fewestOn) 28 = .ok (.iconst 0, 1) := by decide +kernel
theorem d_w_fewestOn_29 : decode (ch_bc m_w_fewestOn) 29 = .ok (.invokestatic 39, 3) := by decide +kernel
theorem d_w_fewestOn_32 : decode (ch_bc m_w_fewestOn) 32 = .ok (.istore 6, 2) := by decide +kernel
theorem d_w_fewestOn_34 : decode (ch_bc m_w_fewestOn) 34 = .ok (.iload 6, 2) := by decide +kernel
theorem d_w_fewestOn_36 : decode (ch_bc m_w_fewestOn) 36 = .ok (.iload 4, 2) := by decide +kernel
theorem d_w_fewestOn_38 : decode (ch_bc m_w_fewestOn) 38 = .ok (.if_icmp .ge 30, 3) := by decide +kernel
theorem d_w_fewestOn_41 : decode (ch_bc m_w_fewestOn) 41 = .ok (.iload 6, 2) := by decide +kernel
theorem d_w_fewestOn_43 : decode (ch_bc m_w_fewestOn) 43 = .ok (.bipush 12, 2) := by decide +kernel
theorem d_w_fewestOn_45 : decode (ch_bc m_w_fewestOn) 45 = .ok (.if_icmp .ge 23, 3) := by decide +kernel
theorem d_w_fewestOn_48 : decode (ch_bc m_w_fewestOn) 48 = .ok (.iload 5, 2) := by decide +kernel
theorem d_w_fewestOn_50 : decode (ch_bc m_w_fewestOn) 50 = .ok (.aload_n 0, 1) := by decide +kernel
theorem d_w_fewestOn_51 : decode (ch_bc m_w_fewestOn) 51 = .ok (.getfield 11, 3) := by decide +kernel
theorem d_w_fewestOn_54 : decode (ch_bc m_w_fewestOn) 54 = .ok (.iload 6, 2) := by decide +kernel
theorem d_w_fewestOn_56 : decode (ch_bc m_w_fewestOn) 56 = .ok (.iaload, 1) := by decide +kernel
theorem d_w_fewestOn_57 : decode (ch_bc m_w_fewestOn) 57 = .ok (.invokestatic 45, 3) := by decide +kernel
theorem d_w_fewestOn_60 : decode (ch_bc m_w_fewestOn) 60 = .ok (.istore 5, 2) := by decide +kernel
theorem d_w_fewestOn_62 : decode (ch_bc m_w_fewestOn) 62 = .ok (.iinc 6 1, 3) := by decide +kernel
theorem d_w_fewestOn_65 : decode (ch_bc m_w_fewestOn) 65 = .ok (.goto (-31), 3) := by decide +kernel
theorem d_w_fewestOn_68 : decode (ch_bc m_w_fewestOn) 68 = .ok (.aload_n 0, 1) := by decide +kernel
theorem d_w_fewestOn_69 : decode (ch_bc m_w_fewestOn) 69 = .ok (.getfield 11, 3) := by decide +kernel
theorem d_w_fewestOn_72 : decode (ch_bc m_w_fewestOn) 72 = .ok (.iload 4, 2) := by decide +kernel
theorem d_w_fewestOn_74 : decode (ch_bc m_w_fewestOn) 74 = .ok (.iload 5, 2) := by decide +kernel
theorem d_w_fewestOn_76 : decode (ch_bc m_w_fewestOn) 76 = .ok (.aload_n 0, 1) := by decide +kernel
theorem d_w_fewestOn_77 : decode (ch_bc m_w_fewestOn) 77 = .ok (.aload_n 1, 1) := by decide +kernel
theorem d_w_fewestOn_78 : decode (ch_bc m_w_fewestOn) 78 = .ok (.iload_n 2, 1) := by decide +kernel
theorem d_w_fewestOn_79 : decode (ch_bc m_w_fewestOn) 79 = .ok (.iload 4, 2) := by decide +kernel
theorem d_w_fewestOn_81 : decode (ch_bc m_w_fewestOn) 81 = .ok (.invokevirtual 25, 3) := by decide +kernel
theorem d_w_fewestOn_84 : decode (ch_bc m_w_fewestOn) 84 = .ok (.iadd, 1) := by decide +kernel
theorem d_w_fewestOn_85 : decode (ch_bc m_w_fewestOn) 85 = .ok (.iastore, 1) := by decide +kernel
theorem d_w_fewestOn_86 : decode (ch_bc m_w_fewestOn) 86 = .ok (.iload 4, 2) := by decide +kernel
theorem d_w_fewestOn_88 : decode (ch_bc m_w_fewestOn) 88 = .ok (.bipush 12, 2) := by decide +kernel
theorem d_w_fewestOn_90 : decode (ch_bc m_w_fewestOn) 90 = .ok (.if_icmp .lt 17, 3) := by decide +kernel
theorem d_w_fewestOn_93 : decode (ch_bc m_w_fewestOn) 93 = .ok (.iload_n 3, 1) := by decide +kernel
theorem d_w_fewestOn_94 : decode (ch_bc m_w_fewestOn) 94 = .ok (.aload_n 0, 1) := by decide +kernel
theorem d_w_fewestOn_95 : decode (ch_bc m_w_fewestOn) 95 = .ok (.getfield 11, 3) := by decide +kernel
theorem d_w_fewestOn_98 : decode (ch_bc m_w_fewestOn) 98 = .ok (.iload 4, 2) := by decide +kernel
theorem d_w_fewestOn_100 : decode (ch_bc m_w_fewestOn) 100 = .ok (.iaload, 1) := by decide +kernel
theorem d_w_fewestOn_101 : decode (ch_bc m_w_fewestOn) 101 = .ok (.invokestatic 45, 3) := by decide +kernel
theorem d_w_fewestOn_104 : decode (ch_bc m_w_fewestOn) 104 = .ok (.goto 4, 3) := by decide +kernel
theorem d_w_fewestOn_107 : decode (ch_bc m_w_fewestOn) 107 = .ok (.iload_n 3, 1) := by decide +kernel
theorem d_w_fewestOn_108 : decode (ch_bc m_w_fewestOn) 108 = .ok (.istore_n 3, 1) := by decide +kernel
theorem d_w_fewestOn_109 : decode (ch_bc m_w_fewestOn) 109 = .ok (.iinc 4 1, 3) := by decide +kernel
theorem d_w_fewestOn_112 : decode (ch_bc m_w_fewestOn) 112 = .ok (.goto (-99), 3) := by decide +kernel
theorem d_w_fewestOn_115 : decode (ch_bc m_w_fewestOn) 115 = .ok (.iload_n 3, 1) := by decide +kernel
theorem d_w_fewestOn_116 : decode (ch_bc m_w_fewestOn) 116 = .ok (.ireturn, 1) := by decide +kernel
theorem d_w_lineAt_0 : decode (ch_bc m_w_lineAt) 0 = .ok (.aload_n 1, 1) := by decide +kernel
theorem d_w_lineAt_1 : decode (ch_bc m_w_lineAt) 1 = .ok (.iload_n 2, 1) := by decide +kernel
theorem d_w_lineAt_2 : decode (ch_bc m_w_lineAt) 2 = .ok (.iload_n 3, 1) := by decide +kernel
theorem d_w_lineAt_3 : decode (ch_bc m_w_lineAt) 3 = .ok (.iconst 1, 1) := by decide +kernel
theorem d_w_lineAt_4 : decode (ch_bc m_w_lineAt) 4 = .ok (.isub, 1) := by decide +kernel
theorem d_w_lineAt_5 : decode (ch_bc m_w_lineAt) 5 = .ok (.invokevirtual 48, 3) := by decide +kernel
theorem d_w_lineAt_8 : decode (ch_bc m_w_lineAt) 8 = .ok (.ifCond .eq 7, 3) := by decide +kernel
theorem d_w_lineAt_11 : decode (ch_bc m_w_lineAt) 11 = .ok (.iconst 1, 1) := by decide +kernel
theorem d_w_lineAt_12 : decode (ch_bc m_w_lineAt) 12 = .ok (.goto 4, 3) := by decide +kernel
theorem d_w_lineAt_15 : decode (ch_bc m_w_lineAt) 15 = .ok (.iconst 0, 1) := by decide +kernel
theorem d_w_lineAt_16 : decode (ch_bc m_w_lineAt) 16 = .ok (.ireturn, 1) := by decide +kernel
theorem d_a_append_0 : decode (ch_bc m_a_append) 0 = .ok (.aload_n 0, 1) := by decide +kernel
theorem d_a_append_1 : decode (ch_bc m_a_append) 1 = .ok (.getfield 79, 3) := by decide +kernel
theorem d_a_append_4 : decode (ch_bc m_a_append) 4 = .ok (.istore_n 2, 1) := by decide +kernel
theorem d_a_append_5 : decode (ch_bc m_a_append) 5 = .ok (.iload_n 2, 1) := by decide +kernel
theorem d_a_append_6 : decode (ch_bc m_a_append) 6 = .ok (.iload_n 1, 1) := by decide +kernel
theorem d_a_append_7 : decode (ch_bc m_a_append) 7 = .ok (.invokestatic 245, 3) := by decide +kernel
theorem d_a_append_10 : decode (ch_bc m_a_append) 10 = .ok (.iadd, 1) := by decide +kernel
theorem d_a_append_11 : decode (ch_bc m_a_append) 11 = .ok (.istore_n 3, 1) := by decide +kernel
theorem d_a_append_12 : decode (ch_bc m_a_append) 12 = .ok (.aload_n 0, 1) := by decide +kernel
theorem d_a_append_13 : decode (ch_bc m_a_append) 13 = .ok (.iload_n 3, 1) := by decide +kernel
theorem d_a_append_14 : decode (ch_bc m_a_append) 14 = .ok (.invokevirtual 100, 3) := by decide +kernel
theorem d_a_append_17 : decode (ch_bc m_a_append) 17 = .ok (.aload_n 0, 1) := by decide +kernel
theorem d_a_append_18 : decode (ch_bc m_a_append) 18 = .ok (.invokevirtual 83, 3) := by decide +kernel
theorem d_a_append_21 : decode (ch_bc m_a_append) 21 = .ok (.ifCond .eq 16, 3) := by decide +kernel
theorem d_a_append_24 : decode (ch_bc m_a_append) 24 = .ok (.iload_n 1, 1) := by decide +kernel
theorem d_a_append_25 : decode (ch_bc m_a_append) 25 = .ok (.iload_n 3, 1) := by decide +kernel
theorem d_a_append_26 : decode (ch_bc m_a_append) 26 = .ok (.aload_n 0, 1) := by decide +kernel
theorem d_a_append_27 : decode (ch_bc m_a_append) 27 = .ok (.getfield 15, 3) := by decide +kernel
theorem d_a_append_30 : decode (ch_bc m_a_append) 30 = .ok (.invokestatic 248, 3) := by decide +kernel
theorem d_a_append_33 : decode (ch_bc m_a_append) 33 = .ok (.pop, 1) := by decide +kernel
theorem d_a_append_34 : decode (ch_bc m_a_append) 34 = .ok (.goto 14, 3) := by decide +kernel
theorem d_a_append_37 : decode (ch_bc m_a_append) 37 = .ok (.iload_n 1, 1) := by decide +kernel
theorem d_a_append_38 : decode (ch_bc m_a_append) 38 = .ok (.iload_n 2, 1) := by decide +kernel
theorem d_a_append_39 : decode (ch_bc m_a_append) 39 = .ok (.iload_n 3, 1) := by decide +kernel
theorem d_a_append_40 : decode (ch_bc m_a_append) 40 = .ok (.aload_n 0, 1) := by decide +kernel
theorem d_a_append_41 : decode (ch_bc m_a_append) 41 = .ok (.getfield 15, 3) := by decide +kernel
theorem d_a_append_44 : decode (ch_bc m_a_append) 44 = .ok (.invokestatic 251, 3) := by decide +kernel
theorem d_a_append_47 : decode (ch_bc m_a_append) 47 = .ok (.pop, 1) := by decide +kernel
theorem d_a_append_48 : decode (ch_bc m_a_append) 48 = .ok (.aload_n 0, 1) := by decide +kernel
theorem d_a_append_49 : decode (ch_bc m_a_append) 49 = .ok (.iload_n 3, 1) := by decide +kernel
theorem d_a_append_50 : decode (ch_bc m_a_append) 50 = .ok (.putfield 79, 3) := by decide +kernel
theorem d_a_append_53 : decode (ch_bc m_a_append) 53 = .ok (.aload_n 0, 1) := by decide +kernel
theorem d_a_append_54 : decode (ch_bc m_a_append) 54 = .ok (.areturn, 1) := by decide +kernel
theorem d_a_append2_0 : decode (ch_bc m_a_append2) 0 = .ok (.aload_n 1, 1) := by decide +kernel
theorem d_a_append2_1 : decode (ch_bc m_a_append2) 1 = .ok (.ifnonnull 8, 3) := by decide +kernel
theorem d_a_append2_4 : decode (ch_bc m_a_append2) 4 = .ok (.aload_n 0, 1) := by decide +kernel
theorem d_a_append2_5 : decode (ch_bc m_a_append2) 5 = .ok (.invokevirtual 204, 3) := by decide +kernel
theorem d_a_append2_8 : decode (ch_bc m_a_append2) 8 = .ok (.areturn, 1) := by decide +kernel
theorem d_a_append2_9 : decode (ch_bc m_a_append2) 9 = .ok (.aload_n 1, 1) := by decide +kernel
theorem d_a_append2_10 : decode (ch_bc m_a_append2) 10 = .ok (.invokevirtual 32, 3) := by decide +kernel
theorem d_a_append2_13 : decode (ch_bc m_a_append2) 13 = .ok (.istore_n 2, 1) := by decide +kernel
theorem d_a_append2_14 : decode (ch_bc m_a_append2) 14 = .ok (.aload_n 0, 1) := by decide +kernel
theorem d_a_append2_15 : decode (ch_bc m_a_append2) 15 = .ok (.aload_n 0, 1) := by decide +kernel
theorem d_a_append2_16 : decode (ch_bc m_a_append2) 16 = .ok (.getfield 79, 3) := by decide +kernel
theorem d_a_append2_19 : decode (ch_bc m_a_append2) 19 = .ok (.iload_n 2, 1) := by decide +kernel
theorem d_a_append2_20 : decode (ch_bc m_a_append2) 20 = .ok (.iadd, 1) := by decide +kernel
theorem d_a_append2_21 : decode (ch_bc m_a_append2) 21 = .ok (.invokevirtual 100, 3) := by decide +kernel
theorem d_a_append2_24 : decode (ch_bc m_a_append2) 24 = .ok (.aload_n 0, 1) := by decide +kernel
theorem d_a_append2_25 : decode (ch_bc m_a_append2) 25 = .ok (.aload_n 0, 1) := by decide +kernel
theorem d_a_append2_26 : decode (ch_bc m_a_append2) 26 = .ok (.getfield 79, 3) := by decide +kernel
theorem d_a_append2_29 : decode (ch_bc m_a_append2) 29 = .ok (.aload_n 1, 1) := by decide +kernel
theorem d_a_append2_30 : decode (ch_bc m_a_append2) 30 = .ok (.invokevirtual 208, 3) := by decide +kernel
theorem d_a_append2_33 : decode (ch_bc m_a_append2) 33 = .ok (.aload_n 0, 1) := by decide +kernel
theorem d_a_append2_34 : decode (ch_bc m_a_append2) 34 = .ok (.dup, 1) := by decide +kernel
theorem d_a_append2_35 : decode (ch_bc m_a_append2) 35 = .ok (.getfield 79, 3) := by decide +kernel
theorem d_a_append2_38 : decode (ch_bc m_a_append2) 38 = .ok (.iload_n 2, 1) := by decide +kernel
theorem d_a_append2_39 : decode (ch_bc m_a_append2) 39 = .ok (.iadd, 1) := by decide +kernel
theorem d_a_append2_40 : decode (ch_bc m_a_append2) 40 = .ok (.putfield 79, 3) := by decide +kernel
theorem d_a_append2_43 : decode (ch_bc m_a_append2) 43 = .ok (.aload_n 0, 1) := by decide +kernel
theorem d_a_append2_44 : decode (ch_bc m_a_append2) 44 = .ok (.areturn, 1) := by decide +kernel
theorem d_a_ensureCapacityInternal_0 : decode (ch_bc m_a_ensureCapacityInternal) 0 = .ok (.aload_n 0, 1) := by decide +kernel
theorem d_a_ensureCapacityInternal_1 : decode (ch_bc m_a_ensureCapacityInternal) 1 = .ok (.getfield 15, 3) := by decide +kernel
theorem d_a_ensureCapacityInternal_4 : decode (ch_bc m_a_ensureCapacityInternal) 4 = .ok (.arraylength, 1) := by decide +kernel
theorem d_a_ensureCapacityInternal_5 : decode (ch_bc m_a_ensureCapacityInternal) 5 = .ok (.aload_n 0, 1) := by decide +kernel
theorem d_a_ensureCapacityInternal_6 : decode (ch_bc m_a_ensureCapacityInternal) 6 = .ok (.getfield 22, 3) := by decide +kernel
theorem d_a_ensureCapacityInternal_9 : decode (ch_bc m_a_ensureCapacityInternal) 9 = .ok (.ishr, 1) := by decide +kernel
theorem d_a_ensureCapacityInternal_10 : decode (ch_bc m_a_ensureCapacityInternal) 10 = .ok (.istore_n 2, 1) := by decide +kernel
theorem d_a_ensureCapacityInternal_11 : decode (ch_bc m_a_ensureCapacityInternal) 11 = .ok (.iload_n 1, 1) := by decide +kernel
theorem d_a_ensureCapacityInternal_12 : decode (ch_bc m_a_ensureCapacityInternal) 12 = .ok (.iload_n 2, 1) := by decide +kernel
theorem d_a_ensureCapacityInternal_13 : decode (ch_bc m_a_ensureCapacityInternal) 13 = .ok (.isub, 1) := by decide +kernel
theorem d_a_ensureCapacityInternal_14 : decode (ch_bc m_a_ensureCapacityInternal) 14 = .ok (.ifCond .le 24, 3) := by decide +kernel
theorem d_a_ensureCapacityInternal_17 : decode (ch_bc m_a_ensureCapacityInternal) 17 = .ok (.aload_n 0, 1) := by decide +kernel
theorem d_a_ensureCapacityInternal_18 : decode (ch_bc m_a_ensureCapacityInternal) 18 = .ok (.aload_n 0, 1) := by decide +kernel
theorem d_a_ensureCapacityInternal_19 : decode (ch_bc m_a_ensureCapacityInternal) 19 = .ok (.getfield 15, 3) := by decide +kernel
theorem d_a_ensureCapacityInternal_22 : decode (ch_bc m_a_ensureCapacityInternal) 22 = .ok (.aload_n 0, 1) := by decide +kernel
theorem d_a_ensureCapacityInternal_23 : decode (ch_bc m_a_ensureCapacityInternal) 23 = .ok (.iload_n 1, 1) := by decide +kernel
theorem d_a_ensureCapacityInternal_24 : decode (ch_bc m_a_ensureCapacityInternal) 24 = .ok (.invokevirtual 104, 3) := by decide +kernel
theorem d_a_ensureCapacityInternal_27 : decode (ch_bc m_a_ensureCapacityInternal) 27 = .ok (.aload_n 0, 1) := by decide +kernel
theorem d_a_ensureCapacityInternal_28 : decode (ch_bc m_a_ensureCapacityInternal) 28 = .ok (.getfield 22, 3) := by decide +kernel
theorem d_a_ensureCapacityInternal_31 : decode (ch_bc m_a_ensureCapacityInternal) 31 = .ok (.ishl, 1) := by decide +kernel
theorem d_a_ensureCapacityInternal_32 : decode (ch_bc m_a_ensureCapacityInternal) 32 = .ok (.invokestatic 108, 3) := by decide +kernel
theorem d_a_ensureCapacityInternal_35 : decode (ch_bc m_a_ensureCapacityInternal) 35 = .ok (.putfield 15, 3) := by decide +kernel
theorem d_a_ensureCapacityInternal_38 : decode (ch_bc m_a_ensureCapacityInternal) 38 = .ok (.return_, 1) := by decide +kernel
theorem d_a_getValue_0 : decode (ch_bc m_a_getValue) 0 = .ok (.aload_n 0, 1) := by decide +kernel
theorem d_a_getValue_1 : decode (ch_bc m_a_getValue) 1 = .ok (.getfield 15, 3) := by decide +kernel
theorem d_a_getValue_4 : decode (ch_bc m_a_getValue) 4 = .ok (.areturn, 1) := by decide +kernel
theorem d_a_inflateIfNeededFor_0 : decode (ch_bc m_a_inflateIfNeededFor) 0 = .ok (.getstatic 18, 3) := by decide +kernel
theorem d_a_inflateIfNeededFor_3 : decode (ch_bc m_a_inflateIfNeededFor) 3 = .ok (.ifCond .eq 18, 3) := by decide +kernel
theorem d_a_inflateIfNeededFor_6 : decode (ch_bc m_a_inflateIfNeededFor) 6 = .ok (.aload_n 0, 1) := by decide +kernel
theorem d_a_inflateIfNeededFor_7 : decode (ch_bc m_a_inflateIfNeededFor) 7 = .ok (.getfield 22, 3) := by decide +kernel
theorem d_a_inflateIfNeededFor_10 : decode (ch_bc m_a_inflateIfNeededFor) 10 = .ok (.aload_n 1, 1) := by decide +kernel
theorem d_a_inflateIfNeededFor_11 : decode (ch_bc m_a_inflateIfNeededFor) 11 = .ok (.invokevirtual 40, 3) := by decide +kernel
theorem d_a_inflateIfNeededFor_14 : decode (ch_bc m_a_inflateIfNeededFor) 14 = .ok (.if_icmp .eq 7, 3) := by decide +kernel
theorem d_a_inflateIfNeededFor_17 : decode (ch_bc m_a_inflateIfNeededFor) 17 = .ok (.aload_n 0, 1) := by decide +kernel
theorem d_a_inflateIfNeededFor_18 : decode (ch_bc m_a_inflateIfNeededFor) 18 = .ok (.invokevirtual 195, 3) := by decide +kernel
theorem d_a_inflateIfNeededFor_21 : decode (ch_bc m_a_inflateIfNeededFor) 21 = .ok (.return_, 1) := by decide +kernel
theorem d_a_isLatin1_0 : decode (ch_bc m_a_isLatin1) 0 = .ok (.getstatic 18, 3) := by decide +kernel
theorem d_a_isLatin1_3 : decode (ch_bc m_a_isLatin1) 3 = .ok (.ifCond .eq 14, 3) := by decide +kernel
theorem d_a_isLatin1_6 : decode (ch_bc m_a_isLatin1) 6 = .ok (.aload_n 0, 1) := by decide +kernel
theorem d_a_isLatin1_7 : decode (ch_bc m_a_isLatin1) 7 = .ok (.getfield 22, 3) := by decide +kernel
theorem d_a_isLatin1_10 : decode (ch_bc m_a_isLatin1) 10 = .ok (.ifCond .ne 7, 3) := by decide +kernel
theorem d_a_isLatin1_13 : decode (ch_bc m_a_isLatin1) 13 = .ok (.iconst 1, 1) := by decide +kernel
theorem d_a_isLatin1_14 : decode (ch_bc m_a_isLatin1) 14 = .ok (.goto 4, 3) := by decide +kernel
theorem d_a_isLatin1_17 : decode (ch_bc m_a_isLatin1) 17 = .ok (.iconst 0, 1) := by decide +kernel
theorem d_a_isLatin1_18 : decode (ch_bc m_a_isLatin1) 18 = .ok (.ireturn, 1) := by decide +kernel
theorem d_a_length_0 : decode (ch_bc m_a_length) 0 = .ok (.aload_n 0, 1) := by decide +kernel
theorem d_a_length_1 : decode (ch_bc m_a_length) 1 = .ok (.getfield 79, 3) := by decide +kernel
theorem d_a_length_4 : decode (ch_bc m_a_length) 4 = .ok (.ireturn, 1) := by decide +kernel
theorem d_a_putStringAt_0 : decode (ch_bc m_a_putStringAt) 0 = .ok (.aload_n 0, 1) := by decide +kernel
theorem d_a_putStringAt_1 : decode (ch_bc m_a_putStringAt) 1 = .ok (.aload_n 2, 1) := by decide +kernel
theorem d_a_putStringAt_2 : decode (ch_bc m_a_putStringAt) 2 = .ok (.invokevirtual 397, 3) := by decide +kernel
theorem d_a_putStringAt_5 : decode (ch_bc m_a_putStringAt) 5 = .ok (.aload_n 2, 1) := by decide +kernel
theorem d_a_putStringAt_6 : decode (ch_bc m_a_putStringAt) 6 = .ok (.aload_n 0, 1) := by decide +kernel
theorem d_a_putStringAt_7 : decode (ch_bc m_a_putStringAt) 7 = .ok (.getfield 15, 3) := by decide +kernel
theorem d_a_putStringAt_10 : decode (ch_bc m_a_putStringAt) 10 = .ok (.iload_n 1, 1) := by decide +kernel
theorem d_a_putStringAt_11 : decode (ch_bc m_a_putStringAt) 11 = .ok (.aload_n 0, 1) := by decide +kernel
theorem d_a_putStringAt_12 : decode (ch_bc m_a_putStringAt) 12 = .ok (.getfield 22, 3) := by decide +kernel
theorem d_a_putStringAt_15 : decode (ch_bc m_a_putStringAt) 15 = .ok (.invokevirtual 399, 3) := by decide +kernel
theorem d_a_putStringAt_18 : decode (ch_bc m_a_putStringAt) 18 = .ok (.return_, 1) := by decide +kernel
theorem d_u_doubleToLongBits_0 : decode (ch_bc m_u_doubleToLongBits) 0 = .ok (.dload_n 0, 1) := by decide +kernel
theorem d_u_doubleToLongBits_1 : decode (ch_bc m_u_doubleToLongBits) 1 = .ok (.invokestatic 122, 3) := by decide +kernel
theorem d_u_doubleToLongBits_4 : decode (ch_bc m_u_doubleToLongBits) 4 = .ok (.ifCond .ne 8, 3) := by decide +kernel
theorem d_u_doubleToLongBits_7 : decode (ch_bc m_u_doubleToLongBits) 7 = .ok (.dload_n 0, 1) := by decide +kernel
theorem d_u_doubleToLongBits_8 : decode (ch_bc m_u_doubleToLongBits) 8 = .ok (.invokestatic 134, 3) := by decide +kernel
theorem d_u_doubleToLongBits_11 : decode (ch_bc m_u_doubleToLongBits) 11 = .ok (.lreturn, 1) := by decide +kernel
theorem d_u_doubleToLongBits_12 : decode (ch_bc m_u_doubleToLongBits) 12 = .ok (.ldc2_w 137, 3) := by decide +kernel
theorem d_u_doubleToLongBits_15 : decode (ch_bc m_u_doubleToLongBits) 15 = .ok (.lreturn, 1) := by decide +kernel
theorem d_u_isNaN_0 : decode (ch_bc m_u_isNaN) 0 = .ok (.dload_n 0, 1) := by decide +kernel
theorem d_u_isNaN_1 : decode (ch_bc m_u_isNaN) 1 = .ok (.dload_n 0, 1) := by decide +kernel
theorem d_u_isNaN_2 : decode (ch_bc m_u_isNaN) 2 = .ok (.dcmp .l, 1) := by decide +kernel
theorem d_u_isNaN_3 : decode (ch_bc m_u_isNaN) 3 = .ok (.ifCond .eq 7, 3) := by decide +kernel
theorem d_u_isNaN_6 : decode (ch_bc m_u_isNaN) 6 = .ok (.iconst 1, 1) := by decide +kernel
theorem d_u_isNaN_7 : decode (ch_bc m_u_isNaN) 7 = .ok (.goto 4, 3) := by decide +kernel
theorem d_u_isNaN_10 : decode (ch_bc m_u_isNaN) 10 = .ok (.iconst 0, 1) := by decide +kernel
theorem d_u_isNaN_11 : decode (ch_bc m_u_isNaN) 11 = .ok (.ireturn, 1) := by decide +kernel
theorem d_f_floatToIntBits_0 : decode (ch_bc m_f_floatToIntBits) 0 = .ok (.fload_n 0, 1) := by decide +kernel
theorem d_f_floatToIntBits_1 : decode (ch_bc m_f_floatToIntBits) 1 = .ok (.invokestatic 59, 3) := by decide +kernel
theorem d_f_floatToIntBits_4 : decode (ch_bc m_f_floatToIntBits) 4 = .ok (.ifCond .ne 8, 3) := by decide +kernel
theorem d_f_floatToIntBits_7 : decode (ch_bc m_f_floatToIntBits) 7 = .ok (.fload_n 0, 1) := by decide +kernel
theorem d_f_floatToIntBits_8 : decode (ch_bc m_f_floatToIntBits) 8 = .ok (.invokestatic 74, 3) := by decide +kernel
theorem d_f_floatToIntBits_11 : decode (ch_bc m_f_floatToIntBits) 11 = .ok (.ireturn, 1) := by decide +kernel
theorem d_f_floatToIntBits_12 : decode (ch_bc m_f_floatToIntBits) 12 = .ok (.ldc 77, 2) := by decide +kernel
theorem d_f_floatToIntBits_14 : decode (ch_bc m_f_floatToIntBits) 14 = .ok (.ireturn, 1) := by decide +kernel
theorem d_f_isNaN_0 : decode (ch_bc m_f_isNaN) 0 = .ok (.fload_n 0, 1) := by decide +kernel
theorem d_f_isNaN_1 : decode (ch_bc m_f_isNaN) 1 = .ok (.fload_n 0, 1) := by decide +kernel
theorem d_f_isNaN_2 : decode (ch_bc m_f_isNaN) 2 = .ok (.fcmp .l, 1) := by decide +kernel
theorem d_f_isNaN_3 : decode (ch_bc m_f_isNaN) 3 = .ok (.ifCond .eq 7, 3) := by decide +kernel
theorem d_f_isNaN_6 : decode (ch_bc m_f_isNaN) 6 = .ok (.iconst 1, 1) := by decide +kernel
theorem d_f_isNaN_7 : decode (ch_bc m_f_isNaN) 7 = .ok (.goto 4, 3) := by decide +kernel
theorem d_f_isNaN_10 : decode (ch_bc m_f_isNaN) 10 = .ok (.iconst 0, 1) := by decide +kernel
theorem d_f_isNaN_11 : decode (ch_bc m_f_isNaN) 11 = .ok (.ireturn, 1) := by decide +kernel
theorem d_i_getChars_0 : decode (ch_bc m_i_getChars) 0 = .ok (.iload_n 1, 1) := by decide +kernel
theorem d_i_getChars_1 : decode (ch_bc m_i_getChars) 1 = .ok (.istore 5, 2) := by decide +kernel
theorem d_i_getChars_3 : decode (ch_bc m_i_getChars) 3 = .ok (.iload_n 0, 1) := by decide +kernel
theorem d_i_getChars_4 : decode (ch_bc m_i_getChars) 4 = .ok (.ifCond .ge 7, 3) := by decide +kernel
theorem d_i_getChars_7 : decode (ch_bc m_i_getChars) 7 = .ok (.iconst 1, 1) := by decide +kernel
theorem d_i_getChars_8 : decode (ch_bc m_i_getChars) 8 = .ok (.goto 4, 3) := by decide +kernel
theorem d_i_getChars_11 : decode (ch_bc m_i_getChars) 11 = .ok (.iconst 0, 1) := by decide +kernel
theorem d_i_getChars_12 : decode (ch_bc m_i_getChars) 12 = .ok (.istore 6, 2) := by decide +kernel
theorem d_i_getChars_14 : decode (ch_bc m_i_getChars) 14 = .ok (.iload 6, 2) := by decide +kernel
theorem d_i_getChars_16 : decode (ch_bc m_i_getChars) 16 = .ok (.ifCond .ne 6, 3) := by decide +kernel
theorem d_i_getChars_19 : decode (ch_bc m_i_getChars) 19 = .ok (.iload_n 0, 1) := by decide +kernel
theorem d_i_getChars_20 : decode (ch_bc m_i_getChars) 20 = .ok (.ineg, 1) := by decide +kernel
theorem d_i_getChars_21 : decode (ch_bc m_i_getChars) 21 = .ok (.istore_n 0, 1) := by decide +kernel
theorem d_i_getChars_22 : decode (ch_bc m_i_getChars) 22 = .ok (.iload_n 0, 1) := by decide +kernel
theorem d_i_getChars_23 : decode (ch_bc m_i_getChars) 23 = .ok (.bipush (-100), 2) := by decide +kernel
theorem d_i_getChars_25 : decode (ch_bc m_i_getChars) 25 = .ok (.if_icmp .gt 47, 3) := by decide +kernel
theorem d_i_getChars_28 : decode (ch_bc m_i_getChars) 28 = .ok (.iload_n 0, 1) := by decide +kernel
theorem d_i_getChars_29 : decode (ch_bc m_i_getChars) 29 = .ok (.bipush 100, 2) := by decide +kernel
theorem d_i_getChars_31 : decode (ch_bc m_i_getChars) 31 = .ok (.idiv, 1) := by decide +kernel
theorem d_i_getChars_32 : decode (ch_bc m_i_getChars) 32 = .ok (.istore_n 3, 1) := by decide +kernel
theorem d_i_getChars_33 : decode (ch_bc m_i_getChars) 33 = .ok (.iload_n 3, 1) := by decide +kernel
theorem d_i_getChars_34 : decode (ch_bc m_i_getChars) 34 = .ok (.bipush 100, 2) := by decide +kernel
theorem d_i_getChars_36 : decode (ch_bc m_i_getChars) 36 = .ok (.imul, 1) := by decide +kernel
theorem d_i_getChars_37 : decode (ch_bc m_i_getChars) 37 = .ok (.iload_n 0, 1) := by decide +kernel
theorem d_i_getChars_38 : decode (ch_bc m_i_getChars) 38 = .ok (.isub, 1) := by decide +kernel
theorem d_i_getChars_39 : decode (ch_bc m_i_getChars) 39 = .ok (.istore 4, 2) := by decide +kernel
theorem d_i_getChars_41 : decode (ch_bc m_i_getChars) 41 = .ok (.iload_n 3, 1) := by decide +kernel
theorem d_i_getChars_42 : decode (ch_bc m_i_getChars) 42 = .ok (.istore_n 0, 1) := by decide +kernel
theorem d_i_getChars_43 : decode (ch_bc m_i_getChars) 43 = .ok (.aload_n 2, 1) := by decide +kernel
theorem d_i_getChars_44 : decode (ch_bc m_i_getChars) 44 = .ok (.iinc 5 (-1), 3) := by decide +kernel
theorem d_i_getChars_47 : decode (ch_bc m_i_getChars) 47 = .ok (.iload 5, 2) := by decide +kernel
theorem d_i_getChars_49 : decode (ch_bc m_i_getChars) 49 = .ok (.getstatic 83, 3) := by decide +kernel
theorem d_i_getChars_52 : decode (ch_bc m_i_getChars) 52 = .ok (.iload 4, 2) := by decide +kernel
theorem d_i_getChars_54 : decode (ch_bc m_i_getChars) 54 = .ok (.baload, 1) := by decide +kernel
theorem d_i_getChars_55 : decode (ch_bc m_i_getChars) 55 = .ok (.bastore, 1) := by decide +kernel
theorem d_i_getChars_56 : decode (ch_bc m_i_getChars) 56 = .ok (.aload_n 2, 1) := by decide +kernel
theorem d_i_getChars_57 : decode (ch_bc m_i_getChars) 57 = .ok (.iinc 5 (-1), 3) := by decide +kernel
theorem d_i_getChars_60 : decode (ch_bc m_i_getChars) 60 = .ok (.iload 5, 2) := by decide +kernel
theorem d_i_getChars_62 : decode (ch_bc m_i_getChars) 62 = .ok (.getstatic 87, 3) := by decide +kernel
theorem d_i_getChars_65 : decode (ch_bc m_i_getChars) 65 = .ok (.iload 4, 2) := by decide +kernel
theorem d_i_getChars_67 : decode (ch_bc m_i_getChars) 67 = .ok (.baload, 1) := by decide +kernel
theorem d_i_getChars_68 : decode (ch_bc m_i_getChars) 68 = .ok (.bastore, 1) := by decide +kernel
theorem d_i_getChars_69 : decode (ch_bc m_i_getChars) 69 = .ok (.goto (-47), 3) := by decide +kernel
theorem d_i_getChars_72 : decode (ch_bc m_i_getChars) 72 = .ok (.aload_n 2, 1) := by decide +kernel
theorem d_i_getChars_73 : decode (ch_bc m_i_getChars) 73 = .ok (.iinc 5 (-1), 3) := by decide +kernel
theorem d_i_getChars_76 : decode (ch_bc m_i_getChars) 76 = .ok (.iload 5, 2) := by decide +kernel
theorem d_i_getChars_78 : decode (ch_bc m_i_getChars) 78 = .ok (.getstatic 83, 3) := by decide +kernel
theorem d_i_getChars_81 : decode (ch_bc m_i_getChars) 81 = .ok (.iload_n 0, 1) := by decide +kernel
theorem d_i_getChars_82 : decode (ch_bc m_i_getChars) 82 = .ok (.ineg, 1) := by decide +kernel
theorem d_i_getChars_83 : decode (ch_bc m_i_getChars) 83 = .ok (.baload, 1) := by decide +kernel
theorem d_i_getChars_84 : decode (ch_bc m_i_getChars) 84 = .ok (.bastore, 1) := by decide +kernel
theorem d_i_getChars_85 : decode (ch_bc m_i_getChars) 85 = .ok (.iload_n 0, 1) := by decide +kernel
theorem d_i_getChars_86 : decode (ch_bc m_i_getChars) 86 = .ok (.bipush (-9), 2) := by decide +kernel
theorem d_i_getChars_88 : decode (ch_bc m_i_getChars) 88 = .ok (.if_icmp .ge 16, 3) := by decide +kernel
theorem d_i_getChars_91 : decode (ch_bc m_i_getChars) 91 = .ok (.aload_n 2, 1) := by decide +kernel
theorem d_i_getChars_92 : decode (ch_bc m_i_getChars) 92 = .ok (.iinc 5 (-1), 3) := by decide +kernel
theorem d_i_getChars_95 : decode (ch_bc m_i_getChars) 95 = .ok (.iload 5, 2) := by decide +kernel
theorem d_i_getChars_97 : decode (ch_bc m_i_getChars) 97 = .ok (.getstatic 87, 3) := by decide +kernel
theorem d_i_getChars_100 : decode (ch_bc m_i_getChars) 100 = .ok (.iload_n 0, 1) := by decide +kernel
theorem d_i_getChars_101 : decode (ch_bc m_i_getChars) 101 = .ok (.ineg, 1) := by decide +kernel
theorem d_i_getChars_102 : decode (ch_bc m_i_getChars) 102 = .ok (.baload, 1) := by decide +kernel
theorem d_i_getChars_103 : decode (ch_bc m_i_getChars) 103 = .ok (.bastore, 1) := by decide +kernel
theorem d_i_getChars_104 : decode (ch_bc m_i_getChars) 104 = .ok (.iload 6, 2) := by decide +kernel
theorem d_i_getChars_106 : decode (ch_bc m_i_getChars) 106 = .ok (.ifCond .eq 12, 3) := by decide +kernel
theorem d_i_getChars_109 : decode (ch_bc m_i_getChars) 109 = .ok (.aload_n 2, 1) := by decide +kernel
theorem d_i_getChars_110 : decode (ch_bc m_i_getChars) 110 = .ok (.iinc 5 (-1), 3) := by decide +kernel
theorem d_i_getChars_113 : decode (ch_bc m_i_getChars) 113 = .ok (.iload 5, 2) := by decide +kernel
theorem d_i_getChars_115 : decode (ch_bc m_i_getChars) 115 = .ok (.bipush 45, 2) := by decide +kernel
theorem d_i_getChars_117 : decode (ch_bc m_i_getChars) 117 = .ok (.bastore, 1) := by decide +kernel
theorem d_i_getChars_118 : decode (ch_bc m_i_getChars) 118 = .ok (.iload 5, 2) := by decide +kernel
theorem d_i_getChars_120 : decode (ch_bc m_i_getChars) 120 = .ok (.ireturn, 1) := by decide +kernel
theorem d_i_stringSize_0 : decode (ch_bc m_i_stringSize) 0 = .ok (.iconst 1, 1) := by decide +kernel
theorem d_i_stringSize_1 : decode (ch_bc m_i_stringSize) 1 = .ok (.istore_n 1, 1) := by decide +kernel
theorem d_i_stringSize_2 : decode (ch_bc m_i_stringSize) 2 = .ok (.iload_n 0, 1) := by decide +kernel
theorem d_i_stringSize_3 : decode (ch_bc m_i_stringSize) 3 = .ok (.ifCond .lt 8, 3) := by decide +kernel
theorem d_i_stringSize_6 : decode (ch_bc m_i_stringSize) 6 = .ok (.iconst 0, 1) := by decide +kernel
theorem d_i_stringSize_7 : decode (ch_bc m_i_stringSize) 7 = .ok (.istore_n 1, 1) := by decide +kernel
theorem d_i_stringSize_8 : decode (ch_bc m_i_stringSize) 8 = .ok (.iload_n 0, 1) := by decide +kernel
theorem d_i_stringSize_9 : decode (ch_bc m_i_stringSize) 9 = .ok (.ineg, 1) := by decide +kernel
theorem d_i_stringSize_10 : decode (ch_bc m_i_stringSize) 10 = .ok (.istore_n 0, 1) := by decide +kernel
theorem d_i_stringSize_11 : decode (ch_bc m_i_stringSize) 11 = .ok (.bipush (-10), 2) := by decide +kernel
theorem d_i_stringSize_13 : decode (ch_bc m_i_stringSize) 13 = .ok (.istore_n 2, 1) := by decide +kernel
theorem d_i_stringSize_14 : decode (ch_bc m_i_stringSize) 14 = .ok (.iconst 1, 1) := by decide +kernel
theorem d_i_stringSize_15 : decode (ch_bc m_i_stringSize) 15 = .ok (.istore_n 3, 1) := by decide +kernel
theorem d_i_stringSize_16 : decode (ch_bc m_i_stringSize) 16 = .ok (.iload_n 3, 1) := by decide +kernel
theorem d_i_stringSize_17 : decode (ch_bc m_i_stringSize) 17 = .ok (.bipush 10, 2) := by decide +kernel
theorem d_i_stringSize_19 : decode (ch_bc m_i_stringSize) 19 = .ok (.if_icmp .ge 23, 3) := by decide +kernel
theorem d_i_stringSize_22 : decode (ch_bc m_i_stringSize) 22 = .ok (.iload_n 0, 1) := by decide +kernel
theorem d_i_stringSize_23 : decode (ch_bc m_i_stringSize) 23 = .ok (.iload_n 2, 1) := by decide +kernel
theorem d_i_stringSize_24 : decode (ch_bc m_i_stringSize) 24 = .ok (.if_icmp .le 7, 3) := by decide +kernel
theorem d_i_stringSize_27 : decode (ch_bc m_i_stringSize) 27 = .ok (.iload_n 3, 1) := by decide +kernel
theorem d_i_stringSize_28 : decode (ch_bc m_i_stringSize) 28 = .ok (.iload_n 1, 1) := by decide +kernel
theorem d_i_stringSize_29 : decode (ch_bc m_i_stringSize) 29 = .ok (.iadd, 1) := by decide +kernel
theorem d_i_stringSize_30 : decode (ch_bc m_i_stringSize) 30 = .ok (.ireturn, 1) := by decide +kernel
theorem d_i_stringSize_31 : decode (ch_bc m_i_stringSize) 31 = .ok (.bipush 10, 2) := by decide +kernel
theorem d_i_stringSize_33 : decode (ch_bc m_i_stringSize) 33 = .ok (.iload_n 2, 1) := by decide +kernel
theorem d_i_stringSize_34 : decode (ch_bc m_i_stringSize) 34 = .ok (.imul, 1) := by decide +kernel
theorem d_i_stringSize_35 : decode (ch_bc m_i_stringSize) 35 = .ok (.istore_n 2, 1) := by decide +kernel
theorem d_i_stringSize_36 : decode (ch_bc m_i_stringSize) 36 = .ok (.iinc 3 1, 3) := by decide +kernel
theorem d_i_stringSize_39 : decode (ch_bc m_i_stringSize) 39 = .ok (.goto (-23), 3) := by decide +kernel
theorem d_i_stringSize_42 : decode (ch_bc m_i_stringSize) 42 = .ok (.bipush 10, 2) := by decide +kernel
theorem d_i_stringSize_44 : decode (ch_bc m_i_stringSize) 44 = .ok (.iload_n 1, 1) := by decide +kernel
theorem d_i_stringSize_45 : decode (ch_bc m_i_stringSize) 45 = .ok (.iadd, 1) := by decide +kernel
theorem d_i_stringSize_46 : decode (ch_bc m_i_stringSize) 46 = .ok (.ireturn, 1) := by decide +kernel
theorem d_q_charAt_0 : decode (ch_bc m_q_charAt) 0 = .ok (.aload_n 0, 1) := by decide +kernel
theorem d_q_charAt_1 : decode (ch_bc m_q_charAt) 1 = .ok (.invokevirtual 492, 3) := by decide +kernel
theorem d_q_charAt_4 : decode (ch_bc m_q_charAt) 4 = .ok (.ifCond .eq 12, 3) := by decide +kernel
theorem d_q_charAt_7 : decode (ch_bc m_q_charAt) 7 = .ok (.aload_n 0, 1) := by decide +kernel
theorem d_q_charAt_8 : decode (ch_bc m_q_charAt) 8 = .ok (.getfield 9, 3) := by decide +kernel
theorem d_q_charAt_11 : decode (ch_bc m_q_charAt) 11 = .ok (.iload_n 1, 1) := by decide +kernel
theorem d_q_charAt_12 : decode (ch_bc m_q_charAt) 12 = .ok (.invokestatic 495, 3) := by decide +kernel
theorem d_q_charAt_15 : decode (ch_bc m_q_charAt) 15 = .ok (.ireturn, 1) := by decide +kernel
theorem d_q_charAt_16 : decode (ch_bc m_q_charAt) 16 = .ok (.aload_n 0, 1) := by decide +kernel
theorem d_q_charAt_17 : decode (ch_bc m_q_charAt) 17 = .ok (.getfield 9, 3) := by decide +kernel
theorem d_q_charAt_20 : decode (ch_bc m_q_charAt) 20 = .ok (.iload_n 1, 1) := by decide +kernel
theorem d_q_charAt_21 : decode (ch_bc m_q_charAt) 21 = .ok (.invokestatic 498, 3) := by decide +kernel
theorem d_q_charAt_24 : decode (ch_bc m_q_charAt) 24 = .ok (.ireturn, 1) := by decide +kernel
theorem d_q_checkIndex_0 : decode (ch_bc m_q_checkIndex) 0 = .ok (.iload_n 0, 1) := by decide +kernel
theorem d_q_checkIndex_1 : decode (ch_bc m_q_checkIndex) 1 = .ok (.iload_n 1, 1) := by decide +kernel
theorem d_q_checkIndex_2 : decode (ch_bc m_q_checkIndex) 2 = .ok (.getstatic 1053, 3) := by decide +kernel
theorem d_q_checkIndex_5 : decode (ch_bc m_q_checkIndex) 5 = .ok (.invokestatic 1059, 3) := by decide +kernel
theorem d_q_checkIndex_8 : decode (ch_bc m_q_checkIndex) 8 = .ok (.pop, 1) := by decide +kernel
theorem d_q_checkIndex_9 : decode (ch_bc m_q_checkIndex) 9 = .ok (.return_, 1) := by decide +kernel
theorem d_q_coder_0 : decode (ch_bc m_q_coder) 0 = .ok (.getstatic 38, 3) := by decide +kernel
theorem d_q_coder_3 : decode (ch_bc m_q_coder) 3 = .ok (.ifCond .eq 10, 3) := by decide +kernel
theorem d_q_coder_6 : decode (ch_bc m_q_coder) 6 = .ok (.aload_n 0, 1) := by decide +kernel
theorem d_q_coder_7 : decode (ch_bc m_q_coder) 7 = .ok (.getfield 15, 3) := by decide +kernel
theorem d_q_coder_10 : decode (ch_bc m_q_coder) 10 = .ok (.goto 4, 3) := by decide +kernel
theorem d_q_coder_13 : decode (ch_bc m_q_coder) 13 = .ok (.iconst 1, 1) := by decide +kernel
theorem d_q_coder_14 : decode (ch_bc m_q_coder) 14 = .ok (.ireturn, 1) := by decide +kernel
theorem d_q_getBytes_0 : decode (ch_bc m_q_getBytes) 0 = .ok (.aload_n 0, 1) := by decide +kernel
theorem d_q_getBytes_1 : decode (ch_bc m_q_getBytes) 1 = .ok (.invokevirtual 335, 3) := by decide +kernel
theorem d_q_getBytes_4 : decode (ch_bc m_q_getBytes) 4 = .ok (.iload_n 3, 1) := by decide +kernel
theorem d_q_getBytes_5 : decode (ch_bc m_q_getBytes) 5 = .ok (.if_icmp .ne 23, 3) := by decide +kernel
theorem d_q_getBytes_8 : decode (ch_bc m_q_getBytes) 8 = .ok (.aload_n 0, 1) := by decide +kernel
theorem d_q_getBytes_9 : decode (ch_bc m_q_getBytes) 9 = .ok (.getfield 9, 3) := by decide +kernel
theorem d_q_getBytes_12 : decode (ch_bc m_q_getBytes) 12 = .ok (.iconst 0, 1) := by decide +kernel
theorem d_q_getBytes_13 : decode (ch_bc m_q_getBytes) 13 = .ok (.aload_n 1, 1) := by decide +kernel
theorem d_q_getBytes_14 : decode (ch_bc m_q_getBytes) 14 = .ok (.iload_n 2, 1) := by decide +kernel
theorem d_q_getBytes_15 : decode (ch_bc m_q_getBytes) 15 = .ok (.iload_n 3, 1) := by decide +kernel
theorem d_q_getBytes_16 : decode (ch_bc m_q_getBytes) 16 = .ok (.ishl, 1) := by decide +kernel
theorem d_q_getBytes_17 : decode (ch_bc m_q_getBytes) 17 = .ok (.aload_n 0, 1) := by decide +kernel
theorem d_q_getBytes_18 : decode (ch_bc m_q_getBytes) 18 = .ok (.getfield 9, 3) := by decide +kernel
theorem d_q_getBytes_21 : decode (ch_bc m_q_getBytes) 21 = .ok (.arraylength, 1) := by decide +kernel
theorem d_q_getBytes_22 : decode (ch_bc m_q_getBytes) 22 = .ok (.invokestatic 212, 3) := by decide +kernel
theorem d_q_getBytes_25 : decode (ch_bc m_q_getBytes) 25 = .ok (.goto 18, 3) := by decide +kernel
theorem d_q_getBytes_28 : decode (ch_bc m_q_getBytes) 28 = .ok (.aload_n 0, 1) := by decide +kernel
theorem d_q_getBytes_29 : decode (ch_bc m_q_getBytes) 29 = .ok (.getfield 9, 3) := by decide +kernel
theorem d_q_getBytes_32 : decode (ch_bc m_q_getBytes) 32 = .ok (.iconst 0, 1) := by decide +kernel
theorem d_q_getBytes_33 : decode (ch_bc m_q_getBytes) 33 = .ok (.aload_n 1, 1) := by decide +kernel
theorem d_q_getBytes_34 : decode (ch_bc m_q_getBytes) 34 = .ok (.iload_n 2, 1) := by decide +kernel
theorem d_q_getBytes_35 : decode (ch_bc m_q_getBytes) 35 = .ok (.aload_n 0, 1) := by decide +kernel
theorem d_q_getBytes_36 : decode (ch_bc m_q_getBytes) 36 = .ok (.getfield 9, 3) := by decide +kernel
theorem d_q_getBytes_39 : decode (ch_bc m_q_getBytes) 39 = .ok (.arraylength, 1) := by decide +kernel
theorem d_q_getBytes_40 : decode (ch_bc m_q_getBytes) 40 = .ok (.invokestatic 106, 3) := by decide +kernel
theorem d_q_getBytes_43 : decode (ch_bc m_q_getBytes) 43 = .ok (.return_, 1) := by decide +kernel
theorem d_q_isLatin1_0 : decode (ch_bc m_q_isLatin1) 0 = .ok (.getstatic 38, 3) := by decide +kernel
theorem d_q_isLatin1_3 : decode (ch_bc m_q_isLatin1) 3 = .ok (.ifCond .eq 14, 3) := by decide +kernel
theorem d_q_isLatin1_6 : decode (ch_bc m_q_isLatin1) 6 = .ok (.aload_n 0, 1) := by decide +kernel
theorem d_q_isLatin1_7 : decode (ch_bc m_q_isLatin1) 7 = .ok (.getfield 15, 3) := by decide +kernel
theorem d_q_isLatin1_10 : decode (ch_bc m_q_isLatin1) 10 = .ok (.ifCond .ne 7, 3) := by decide +kernel
theorem d_q_isLatin1_13 : decode (ch_bc m_q_isLatin1) 13 = .ok (.iconst 1, 1) := by decide +kernel
theorem d_q_isLatin1_14 : decode (ch_bc m_q_isLatin1) 14 = .ok (.goto 4, 3) := by decide +kernel
theorem d_q_isLatin1_17 : decode (ch_bc m_q_isLatin1) 17 = .ok (.iconst 0, 1) := by decide +kernel
theorem d_q_isLatin1_18 : decode (ch_bc m_q_isLatin1) 18 = .ok (.ireturn, 1) := by decide +kernel
theorem d_q_length_0 : decode (ch_bc m_q_length) 0 = .ok (.aload_n 0, 1) := by decide +kernel
theorem d_q_length_1 : decode (ch_bc m_q_length) 1 = .ok (.getfield 9, 3) := by decide +kernel
theorem d_q_length_4 : decode (ch_bc m_q_length) 4 = .ok (.arraylength, 1) := by decide +kernel
theorem d_q_length_5 : decode (ch_bc m_q_length) 5 = .ok (.aload_n 0, 1) := by decide +kernel
theorem d_q_length_6 : decode (ch_bc m_q_length) 6 = .ok (.invokevirtual 335, 3) := by decide +kernel
theorem d_q_length_9 : decode (ch_bc m_q_length) 9 = .ok (.ishr, 1) := by decide +kernel
theorem d_q_length_10 : decode (ch_bc m_q_length) 10 = .ok (.ireturn, 1) := by decide +kernel
theorem d_b_append_0 : decode (ch_bc m_b_append) 0 = .ok (.aload_n 0, 1) := by decide +kernel
theorem d_b_append_1 : decode (ch_bc m_b_append) 1 = .ok (.iload_n 1, 1) := by decide +kernel
theorem d_b_append_2 : decode (ch_bc m_b_append) 2 = .ok (.invokespecial 53, 3) := by decide +kernel
theorem d_b_append_5 : decode (ch_bc m_b_append) 5 = .ok (.pop, 1) := by decide +kernel
theorem d_b_append_6 : decode (ch_bc m_b_append) 6 = .ok (.aload_n 0, 1) := by decide +kernel
theorem d_b_append_7 : decode (ch_bc m_b_append) 7 = .ok (.areturn, 1) := by decide +kernel
theorem d_b_append2_0 : decode (ch_bc m_b_append2) 0 = .ok (.aload_n 0, 1) := by decide +kernel
theorem d_b_append2_1 : decode (ch_bc m_b_append2) 1 = .ok (.aload_n 1, 1) := by decide +kernel
theorem d_b_append2_2 : decode (ch_bc m_b_append2) 2 = .ok (.invokespecial 29, 3) := by decide +kernel
theorem d_b_append2_5 : decode (ch_bc m_b_append2) 5 = .ok (.pop, 1) := by decide +kernel
theorem d_b_append2_6 : decode (ch_bc m_b_append2) 6 = .ok (.aload_n 0, 1) := by decide +kernel
theorem d_b_append2_7 : decode (ch_bc m_b_append2) 7 = .ok (.areturn, 1) := by decide +kernel
theorem d_k_charAt_0 : decode (ch_bc m_k_charAt) 0 = .ok (.iload_n 1, 1) := by decide +kernel
theorem d_k_charAt_1 : decode (ch_bc m_k_charAt) 1 = .ok (.aload_n 0, 1) := by decide +kernel
theorem d_k_charAt_2 : decode (ch_bc m_k_charAt) 2 = .ok (.arraylength, 1) := by decide +kernel
theorem d_k_charAt_3 : decode (ch_bc m_k_charAt) 3 = .ok (.invokestatic 9, 3) := by decide +kernel
theorem d_k_charAt_6 : decode (ch_bc m_k_charAt) 6 = .ok (.aload_n 0, 1) := by decide +kernel
theorem d_k_charAt_7 : decode (ch_bc m_k_charAt) 7 = .ok (.iload_n 1, 1) := by decide +kernel
theorem d_k_charAt_8 : decode (ch_bc m_k_charAt) 8 = .ok (.baload, 1) := by decide +kernel
theorem d_k_charAt_9 : decode (ch_bc m_k_charAt) 9 = .ok (.sipush 255, 3) := by decide +kernel
theorem d_k_charAt_12 : decode (ch_bc m_k_charAt) 12 = .ok (.iand, 1) := by decide +kernel
theorem d_k_charAt_13 : decode (ch_bc m_k_charAt) 13 = .ok (.i2c, 1) := by decide +kernel
theorem d_k_charAt_14 : decode (ch_bc m_k_charAt) 14 = .ok (.ireturn, 1) := by decide +kernel
theorem d_g_checkLength_0 : decode (ch_bc m_g_checkLength) 0 = .ok (.iload_n 1, 1) := by decide +kernel
theorem d_g_checkLength_1 : decode (ch_bc m_g_checkLength) 1 = .ok (.iload_n 0, 1) := by decide +kernel
theorem d_g_checkLength_2 : decode (ch_bc m_g_checkLength) 2 = .ok (.if_icmp .ge 35, 3) := by decide +kernel
theorem d_g_checkLength_5 : decode (ch_bc m_g_checkLength) 5 = .ok (.new 43, 3) := by decide +kernel
theorem d_g_checkLength_8 : decode (ch_bc m_g_checkLength) 8 = .ok (.dup, 1) := by decide +kernel
theorem d_g_checkLength_9 : decode (ch_bc m_g_checkLength) 9 = .ok (.new 45, 3) := by decide +kernel
theorem d_g_checkLength_12 : decode (ch_bc m_g_checkLength) 12 = .ok (.dup, 1) := by decide +kernel
theorem d_g_checkLength_13 : decode (ch_bc m_g_checkLength) 13 = .ok (.invokespecial 47, 3) := by decide +kernel
theorem d_g_checkLength_16 : decode (ch_bc m_g_checkLength) 16 = .ok (.iload_n 0, 1) := by decide +kernel
theorem d_g_checkLength_17 : decode (ch_bc m_g_checkLength) 17 = .ok (.invokevirtual 54, 3) := by decide +kernel
theorem d_g_checkLength_20 : decode (ch_bc m_g_checkLength) 20 = .ok (.ldc_w 337, 3) := by decide +kernel
theorem d_g_checkLength_23 : decode (ch_bc m_g_checkLength) 23 = .ok (.invokevirtual 50, 3) := by decide +kernel
theorem d_g_checkLength_26 : decode (ch_bc m_g_checkLength) 26 = .ok (.iload_n 1, 1) := by decide +kernel
theorem d_g_checkLength_27 : decode (ch_bc m_g_checkLength) 27 = .ok (.invokevirtual 54, 3) := by decide +kernel
theorem d_g_checkLength_30 : decode (ch_bc m_g_checkLength) 30 = .ok (.invokevirtual 61, 3) := by decide +kernel
theorem d_g_checkLength_33 : decode (ch_bc m_g_checkLength) 33 = .ok (.invokespecial 65, 3) := by decide +kernel
theorem d_g_checkLength_36 : decode (ch_bc m_g_checkLength) 36 = .ok (.athrow, 1) := by decide +kernel
theorem d_g_checkLength_37 : decode (ch_bc m_g_checkLength) 37 = .ok (.return_, 1) := by decide +kernel
theorem d_o_checkIndex_0 : decode (ch_bc m_o_checkIndex) 0 = .ok (.iload_n 0, 1) := by decide +kernel
theorem d_o_checkIndex_1 : decode (ch_bc m_o_checkIndex) 1 = .ok (.ifCond .lt 8, 3) := by decide +kernel
theorem d_o_checkIndex_4 : decode (ch_bc m_o_checkIndex) 4 = .ok (.iload_n 0, 1) := by decide +kernel
theorem d_o_checkIndex_5 : decode (ch_bc m_o_checkIndex) 5 = .ok (.iload_n 1, 1) := by decide +kernel
theorem d_o_checkIndex_6 : decode (ch_bc m_o_checkIndex) 6 = .ok (.if_icmp .lt 10, 3) := by decide +kernel
theorem d_o_checkIndex_9 : decode (ch_bc m_o_checkIndex) 9 = .ok (.aload_n 2, 1) := by decide +kernel
theorem d_o_checkIndex_10 : decode (ch_bc m_o_checkIndex) 10 = .ok (.iload_n 0, 1) := by decide +kernel
theorem d_o_checkIndex_11 : decode (ch_bc m_o_checkIndex) 11 = .ok (.iload_n 1, 1) := by decide +kernel
theorem d_o_checkIndex_12 : decode (ch_bc m_o_checkIndex) 12 = .ok (.invokestatic 95, 3) := by decide +kernel
theorem d_o_checkIndex_15 : decode (ch_bc m_o_checkIndex) 15 = .ok (.athrow, 1) := by decide +kernel
theorem d_o_checkIndex_16 : decode (ch_bc m_o_checkIndex) 16 = .ok (.iload_n 0, 1) := by decide +kernel
theorem d_o_checkIndex_17 : decode (ch_bc m_o_checkIndex) 17 = .ok (.ireturn, 1) := by decide +kernel
theorem d_b_length_0 : decode (ch_bc m_b_length) 0 = .ok (.aload_n 0, 1) := by decide +kernel
theorem d_b_length_1 : decode (ch_bc m_b_length) 1 = .ok (.invokespecial 343, 3) := by decide +kernel
theorem d_b_length_4 : decode (ch_bc m_b_length) 4 = .ok (.ireturn, 1) := by decide +kernel
end
section
theorem d_x_child_0 : decode (ch_bc m_x_child) 0 = .ok (.aload_n 0, 1) := by decide +kernel
theorem d_x_child_1 : decode (ch_bc m_x_child) 1 = .ok (.getfield 42, 3) := by decide +kernel
theorem d_x_child_4 : decode (ch_bc m_x_child) 4 = .ok (.bipush 110, 2) := by decide +kernel
theorem d_x_child_6 : decode (ch_bc m_x_child) 6 = .ok (.iconst 0, 1) := by decide +kernel
theorem d_x_child_7 : decode (ch_bc m_x_child) 7 = .ok (.iconst 0, 1) := by decide +kernel
theorem d_x_child_8 : decode (ch_bc m_x_child) 8 = .ok (.iload_n 1, 1) := by decide +kernel
theorem d_x_child_9 : decode (ch_bc m_x_child) 9 = .ok (.invokevirtual 81, 3) := by decide +kernel
theorem d_x_child_12 : decode (ch_bc m_x_child) 12 = .ok (.aload_n 0, 1) := by decide +kernel
theorem d_x_child_13 : decode (ch_bc m_x_child) 13 = .ok (.invokevirtual 85, 3) := by decide +kernel
theorem d_x_child_16 : decode (ch_bc m_x_child) 16 = .ok (.ireturn, 1) := by decide +kernel
theorem d_x_chalk_0 : decode (ch_bc m_x_chalk) 0 = .ok (.aload_n 0, 1) := by decide +kernel
theorem d_x_chalk_1 : decode (ch_bc m_x_chalk) 1 = .ok (.getfield 42, 3) := by decide +kernel
theorem d_x_chalk_4 : decode (ch_bc m_x_chalk) 4 = .ok (.bipush 99, 2) := by decide +kernel
theorem d_x_chalk_6 : decode (ch_bc m_x_chalk) 6 = .ok (.iload_n 1, 1) := by decide +kernel
theorem d_x_chalk_7 : decode (ch_bc m_x_chalk) 7 = .ok (.iconst 0, 1) := by decide +kernel
theorem d_x_chalk_8 : decode (ch_bc m_x_chalk) 8 = .ok (.iload_n 2, 1) := by decide +kernel
theorem d_x_chalk_9 : decode (ch_bc m_x_chalk) 9 = .ok (.invokevirtual 81, 3) := by decide +kernel
theorem d_x_chalk_12 : decode (ch_bc m_x_chalk) 12 = .ok (.aload_n 0, 1) := by decide +kernel
theorem d_x_chalk_13 : decode (ch_bc m_x_chalk) 13 = .ok (.invokevirtual 85, 3) := by decide +kernel
theorem d_x_chalk_16 : decode (ch_bc m_x_chalk) 16 = .ok (.ireturn, 1) := by decide +kernel
theorem d_x_hop_0 : decode (ch_bc m_x_hop) 0 = .ok (.aload_n 0, 1) := by decide +kernel
theorem d_x_hop_1 : decode (ch_bc m_x_hop) 1 = .ok (.getfield 42, 3) := by decide +kernel
theorem d_x_hop_4 : decode (ch_bc m_x_hop) 4 = .ok (.bipush 104, 2) := by decide +kernel
theorem d_x_hop_6 : decode (ch_bc m_x_hop) 6 = .ok (.iload_n 1, 1) := by decide +kernel
theorem d_x_hop_7 : decode (ch_bc m_x_hop) 7 = .ok (.iconst 0, 1) := by decide +kernel
theorem d_x_hop_8 : decode (ch_bc m_x_hop) 8 = .ok (.iconst 0, 1) := by decide +kernel
theorem d_x_hop_9 : decode (ch_bc m_x_hop) 9 = .ok (.invokevirtual 81, 3) := by decide +kernel
theorem d_x_hop_12 : decode (ch_bc m_x_hop) 12 = .ok (.aload_n 0, 1) := by decide +kernel
theorem d_x_hop_13 : decode (ch_bc m_x_hop) 13 = .ok (.getfield 42, 3) := by decide +kernel
theorem d_x_hop_16 : decode (ch_bc m_x_hop) 16 = .ok (.getfield 89, 3) := by decide +kernel
theorem d_x_hop_19 : decode (ch_bc m_x_hop) 19 = .ok (.iload_n 2, 1) := by decide +kernel
theorem d_x_hop_20 : decode (ch_bc m_x_hop) 20 = .ok (.invokevirtual 92, 3) := by decide +kernel
theorem d_x_hop_23 : decode (ch_bc m_x_hop) 23 = .ok (.aload_n 0, 1) := by decide +kernel
theorem d_x_hop_24 : decode (ch_bc m_x_hop) 24 = .ok (.invokevirtual 85, 3) := by decide +kernel
theorem d_x_hop_27 : decode (ch_bc m_x_hop) 27 = .ok (.ireturn, 1) := by decide +kernel
theorem d_x_warrant_0 : decode (ch_bc m_x_warrant) 0 = .ok (.aload_n 0, 1) := by decide +kernel
theorem d_x_warrant_1 : decode (ch_bc m_x_warrant) 1 = .ok (.getfield 42, 3) := by decide +kernel
theorem d_x_warrant_4 : decode (ch_bc m_x_warrant) 4 = .ok (.bipush 119, 2) := by decide +kernel
theorem d_x_warrant_6 : decode (ch_bc m_x_warrant) 6 = .ok (.iload_n 1, 1) := by decide +kernel
theorem d_x_warrant_7 : decode (ch_bc m_x_warrant) 7 = .ok (.iconst 0, 1) := by decide +kernel
theorem d_x_warrant_8 : decode (ch_bc m_x_warrant) 8 = .ok (.iconst 0, 1) := by decide +kernel
theorem d_x_warrant_9 : decode (ch_bc m_x_warrant) 9 = .ok (.invokevirtual 81, 3) := by decide +kernel
theorem d_x_warrant_12 : decode (ch_bc m_x_warrant) 12 = .ok (.aload_n 0, 1) := by decide +kernel
theorem d_x_warrant_13 : decode (ch_bc m_x_warrant) 13 = .ok (.invokevirtual 85, 3) := by decide +kernel
theorem d_x_warrant_16 : decode (ch_bc m_x_warrant) 16 = .ok (.ireturn, 1) := by decide +kernel
theorem d_x_strike_0 : decode (ch_bc m_x_strike) 0 = .ok (.aload_n 0, 1) := by decide +kernel
theorem d_x_strike_1 : decode (ch_bc m_x_strike) 1 = .ok (.getfield 42, 3) := by decide +kernel
theorem d_x_strike_4 : decode (ch_bc m_x_strike) 4 = .ok (.bipush 115, 2) := by decide +kernel
theorem d_x_strike_6 : decode (ch_bc m_x_strike) 6 = .ok (.iload_n 1, 1) := by decide +kernel
theorem d_x_strike_7 : decode (ch_bc m_x_strike) 7 = .ok (.iconst 0, 1) := by decide +kernel
theorem d_x_strike_8 : decode (ch_bc m_x_strike) 8 = .ok (.iconst 0, 1) := by decide +kernel
theorem d_x_strike_9 : decode (ch_bc m_x_strike) 9 = .ok (.invokevirtual 81, 3) := by decide +kernel
theorem d_x_strike_12 : decode (ch_bc m_x_strike) 12 = .ok (.aload_n 0, 1) := by decide +kernel
theorem d_x_strike_13 : decode (ch_bc m_x_strike) 13 = .ok (.invokevirtual 85, 3) := by decide +kernel
theorem d_x_strike_16 : decode (ch_bc m_x_strike) 16 = .ok (.ireturn, 1) := by decide +kernel
theorem d_x_rain_0 : decode (ch_bc m_x_rain) 0 = .ok (.aload_n 0, 1) := by decide +kernel
theorem d_x_rain_1 : decode (ch_bc m_x_rain) 1 = .ok (.getfield 42, 3) := by decide +kernel
theorem d_x_rain_4 : decode (ch_bc m_x_rain) 4 = .ok (.bipush 114, 2) := by decide +kernel
theorem d_x_rain_6 : decode (ch_bc m_x_rain) 6 = .ok (.iconst 0, 1) := by decide +kernel
theorem d_x_rain_7 : decode (ch_bc m_x_rain) 7 = .ok (.iconst 0, 1) := by decide +kernel
theorem d_x_rain_8 : decode (ch_bc m_x_rain) 8 = .ok (.iload_n 1, 1) := by decide +kernel
theorem d_x_rain_9 : decode (ch_bc m_x_rain) 9 = .ok (.invokevirtual 81, 3) := by decide +kernel
theorem d_x_rain_12 : decode (ch_bc m_x_rain) 12 = .ok (.aload_n 0, 1) := by decide +kernel
theorem d_x_rain_13 : decode (ch_bc m_x_rain) 13 = .ok (.invokevirtual 85, 3) := by decide +kernel
theorem d_x_rain_16 : decode (ch_bc m_x_rain) 16 = .ok (.ireturn, 1) := by decide +kernel
theorem d_x_term_0 : decode (ch_bc m_x_term) 0 = .ok (.aload_n 0, 1) := by decide +kernel
theorem d_x_term_1 : decode (ch_bc m_x_term) 1 = .ok (.getfield 42, 3) := by decide +kernel
theorem d_x_term_4 : decode (ch_bc m_x_term) 4 = .ok (.bipush 116, 2) := by decide +kernel
theorem d_x_term_6 : decode (ch_bc m_x_term) 6 = .ok (.iconst 0, 1) := by decide +kernel
theorem d_x_term_7 : decode (ch_bc m_x_term) 7 = .ok (.iconst 0, 1) := by decide +kernel
theorem d_x_term_8 : decode (ch_bc m_x_term) 8 = .ok (.iconst 0, 1) := by decide +kernel
theorem d_x_term_9 : decode (ch_bc m_x_term) 9 = .ok (.invokevirtual 81, 3) := by decide +kernel
theorem d_x_term_12 : decode (ch_bc m_x_term) 12 = .ok (.aload_n 0, 1) := by decide +kernel
theorem d_x_term_13 : decode (ch_bc m_x_term) 13 = .ok (.invokevirtual 85, 3) := by decide +kernel
theorem d_x_term_16 : decode (ch_bc m_x_term) 16 = .ok (.ireturn, 1) := by decide +kernel
theorem d_x_give_0 : decode (ch_bc m_x_give) 0 = .ok (.aload_n 0, 1) := by decide +kernel
theorem d_x_give_1 : decode (ch_bc m_x_give) 1 = .ok (.getfield 42, 3) := by decide +kernel
theorem d_x_give_4 : decode (ch_bc m_x_give) 4 = .ok (.bipush 103, 2) := by decide +kernel
theorem d_x_give_6 : decode (ch_bc m_x_give) 6 = .ok (.iload_n 1, 1) := by decide +kernel
theorem d_x_give_7 : decode (ch_bc m_x_give) 7 = .ok (.iload_n 2, 1) := by decide +kernel
theorem d_x_give_8 : decode (ch_bc m_x_give) 8 = .ok (.iload_n 3, 1) := by decide +kernel
theorem d_x_give_9 : decode (ch_bc m_x_give) 9 = .ok (.invokevirtual 81, 3) := by decide +kernel
theorem d_x_give_12 : decode (ch_bc m_x_give) 12 = .ok (.aload_n 0, 1) := by decide +kernel
theorem d_x_give_13 : decode (ch_bc m_x_give) 13 = .ok (.invokevirtual 85, 3) := by decide +kernel
theorem d_x_give_16 : decode (ch_bc m_x_give) 16 = .ok (.ireturn, 1) := by decide +kernel
theorem d_x_squareOf_0 : decode (ch_bc m_x_squareOf) 0 = .ok (.iload_n 1, 1) := by decide +kernel
theorem d_x_squareOf_1 : decode (ch_bc m_x_squareOf) 1 = .ok (.ifCond .lt 9, 3) := by decide +kernel
theorem d_x_squareOf_4 : decode (ch_bc m_x_squareOf) 4 = .ok (.iload_n 1, 1) := by decide +kernel
theorem d_x_squareOf_5 : decode (ch_bc m_x_squareOf) 5 = .ok (.bipush 12, 2) := by decide +kernel
theorem d_x_squareOf_7 : decode (ch_bc m_x_squareOf) 7 = .ok (.if_icmp .lt 11, 3) := by decide +kernel
theorem d_x_squareOf_10 : decode (ch_bc m_x_squareOf) 10 = .ok (.new 96, 3) := by decide +kernel
theorem d_x_squareOf_13 : decode (ch_bc m_x_squareOf) 13 = .ok (.dup, 1) := by decide +kernel
theorem d_x_squareOf_14 : decode (ch_bc m_x_squareOf) 14 = .ok (.invokespecial 98, 3) := by decide +kernel
theorem d_x_squareOf_17 : decode (ch_bc m_x_squareOf) 17 = .ok (.athrow, 1) := by decide +kernel
theorem d_x_squareOf_18 : decode (ch_bc m_x_squareOf) 18 = .ok (.iload_n 2, 1) := by decide +kernel
theorem d_x_squareOf_19 : decode (ch_bc m_x_squareOf) 19 = .ok (.ifCond .eq 15, 3) := by decide +kernel
theorem d_x_squareOf_22 : decode (ch_bc m_x_squareOf) 22 = .ok (.aload_n 0, 1) := by decide +kernel
theorem d_x_squareOf_23 : decode (ch_bc m_x_squareOf) 23 = .ok (.getfield 10, 3) := by decide +kernel
theorem d_x_squareOf_26 : decode (ch_bc m_x_squareOf) 26 = .ok (.getfield 99, 3) := by decide +kernel
theorem d_x_squareOf_29 : decode (ch_bc m_x_squareOf) 29 = .ok (.iload_n 1, 1) := by decide +kernel
theorem d_x_squareOf_30 : decode (ch_bc m_x_squareOf) 30 = .ok (.iaload, 1) := by decide +kernel
theorem d_x_squareOf_31 : decode (ch_bc m_x_squareOf) 31 = .ok (.goto 12, 3) := by decide +kernel
theorem d_x_squareOf_34 : decode (ch_bc m_x_squareOf) 34 = .ok (.aload_n 0, 1) := by decide +kernel
theorem d_x_squareOf_35 : decode (ch_bc m_x_squareOf) 35 = .ok (.getfield 10, 3) := by decide +kernel
theorem d_x_squareOf_38 : decode (ch_bc m_x_squareOf) 38 = .ok (.getfield 103, 3) := by decide +kernel
theorem d_x_squareOf_41 : decode (ch_bc m_x_squareOf) 41 = .ok (.iload_n 1, 1) := by decide +kernel
theorem d_x_squareOf_42 : decode (ch_bc m_x_squareOf) 42 = .ok (.iaload, 1) := by decide +kernel
theorem d_x_squareOf_43 : decode (ch_bc m_x_squareOf) 43 = .ok (.ireturn, 1) := by decide +kernel
theorem d_x_childOf_0 : decode (ch_bc m_x_childOf) 0 = .ok (.aload_n 0, 1) := by decide +kernel
theorem d_x_childOf_1 : decode (ch_bc m_x_childOf) 1 = .ok (.iload_n 1, 1) := by decide +kernel
theorem d_x_childOf_2 : decode (ch_bc m_x_childOf) 2 = .ok (.invokevirtual 106, 3) := by decide +kernel
theorem d_x_childOf_5 : decode (ch_bc m_x_childOf) 5 = .ok (.iload_n 2, 1) := by decide +kernel
theorem d_x_childOf_6 : decode (ch_bc m_x_childOf) 6 = .ok (.tableswitch 110 0 6 #[42, 52, 62, 72, 81, 90, 100], 42) := by decide +kernel
theorem d_x_childOf_48 : decode (ch_bc m_x_childOf) 48 = .ok (.aload_n 0, 1) := by decide +kernel
theorem d_x_childOf_49 : decode (ch_bc m_x_childOf) 49 = .ok (.getfield 10, 3) := by decide +kernel
theorem d_x_childOf_52 : decode (ch_bc m_x_childOf) 52 = .ok (.getfield 109, 3) := by decide +kernel
theorem d_x_childOf_55 : decode (ch_bc m_x_childOf) 55 = .ok (.iload_n 1, 1) := by decide +kernel
theorem d_x_childOf_56 : decode (ch_bc m_x_childOf) 56 = .ok (.iaload, 1) := by decide +kernel
theorem d_x_childOf_57 : decode (ch_bc m_x_childOf) 57 = .ok (.ireturn, 1) := by decide +kernel
theorem d_x_childOf_58 : decode (ch_bc m_x_childOf) 58 = .ok (.aload_n 0, 1) := by decide +kernel
theorem d_x_childOf_59 : decode (ch_bc m_x_childOf) 59 = .ok (.getfield 10, 3) := by decide +kernel
theorem d_x_childOf_62 : decode (ch_bc m_x_childOf) 62 = .ok (.getfield 112, 3) := by decide +kernel
theorem d_x_childOf_65 : decode (ch_bc m_x_childOf) 65 = .ok (.iload_n 1, 1) := by decide +kernel
theorem d_x_childOf_66 : decode (ch_bc m_x_childOf) 66 = .ok (.iaload, 1) := by decide +kernel
theorem d_x_childOf_67 : decode (ch_bc m_x_childOf) 67 = .ok (.ireturn, 1) := by decide +kernel
theorem d_x_childOf_68 : decode (ch_bc m_x_childOf) 68 = .ok (.aload_n 0, 1) := by decide +kernel
theorem d_x_childOf_69 : decode (ch_bc m_x_childOf) 69 = .ok (.getfield 10, 3) := by decide +kernel
theorem d_x_childOf_72 : decode (ch_bc m_x_childOf) 72 = .ok (.getfield 115, 3) := by decide +kernel
theorem d_x_childOf_75 : decode (ch_bc m_x_childOf) 75 = .ok (.iload_n 1, 1) := by decide +kernel
theorem d_x_childOf_76 : decode (ch_bc m_x_childOf) 76 = .ok (.iaload, 1) := by decide +kernel
theorem d_x_childOf_77 : decode (ch_bc m_x_childOf) 77 = .ok (.ireturn, 1) := by decide +kernel
theorem d_x_childOf_78 : decode (ch_bc m_x_childOf) 78 = .ok (.aload_n 0, 1) := by decide +kernel
theorem d_x_childOf_79 : decode (ch_bc m_x_childOf) 79 = .ok (.getfield 10, 3) := by decide +kernel
theorem d_x_childOf_82 : decode (ch_bc m_x_childOf) 82 = .ok (.iload_n 1, 1) := by decide +kernel
theorem d_x_childOf_83 : decode (ch_bc m_x_childOf) 83 = .ok (.invokevirtual 118, 3) := by decide +kernel
theorem d_x_childOf_86 : decode (ch_bc m_x_childOf) 86 = .ok (.ireturn, 1) := by decide +kernel
theorem d_x_childOf_87 : decode (ch_bc m_x_childOf) 87 = .ok (.aload_n 0, 1) := by decide +kernel
theorem d_x_childOf_88 : decode (ch_bc m_x_childOf) 88 = .ok (.getfield 10, 3) := by decide +kernel
theorem d_x_childOf_91 : decode (ch_bc m_x_childOf) 91 = .ok (.iload_n 1, 1) := by decide +kernel
theorem d_x_childOf_92 : decode (ch_bc m_x_childOf) 92 = .ok (.invokevirtual 122, 3) := by decide +kernel
theorem d_x_childOf_95 : decode (ch_bc m_x_childOf) 95 = .ok (.ireturn, 1) := by decide +kernel
theorem d_x_childOf_96 : decode (ch_bc m_x_childOf) 96 = .ok (.aload_n 0, 1) := by decide +kernel
theorem d_x_childOf_97 : decode (ch_bc m_x_childOf) 97 = .ok (.getfield 10, 3) := by decide +kernel
theorem d_x_childOf_100 : decode (ch_bc m_x_childOf) 100 = .ok (.getfield 125, 3) := by decide +kernel
theorem d_x_childOf_103 : decode (ch_bc m_x_childOf) 103 = .ok (.iload_n 1, 1) := by decide +kernel
theorem d_x_childOf_104 : decode (ch_bc m_x_childOf) 104 = .ok (.iaload, 1) := by decide +kernel
theorem d_x_childOf_105 : decode (ch_bc m_x_childOf) 105 = .ok (.ireturn, 1) := by decide +kernel
theorem d_x_childOf_106 : decode (ch_bc m_x_childOf) 106 = .ok (.aload_n 0, 1) := by decide +kernel
theorem d_x_childOf_107 : decode (ch_bc m_x_childOf) 107 = .ok (.getfield 10, 3) := by decide +kernel
theorem d_x_childOf_110 : decode (ch_bc m_x_childOf) 110 = .ok (.getfield 128, 3) := by decide +kernel
theorem d_x_childOf_113 : decode (ch_bc m_x_childOf) 113 = .ok (.iload_n 1, 1) := by decide +kernel
theorem d_x_childOf_114 : decode (ch_bc m_x_childOf) 114 = .ok (.iaload, 1) := by decide +kernel
theorem d_x_childOf_115 : decode (ch_bc m_x_childOf) 115 = .ok (.ireturn, 1) := by decide +kernel
theorem d_x_childOf_116 : decode (ch_bc m_x_childOf) 116 = .ok (.new 131, 3) := by decide +kernel
theorem d_x_childOf_119 : decode (ch_bc m_x_childOf) 119 = .ok (.dup, 1) := by decide +kernel
theorem d_x_childOf_120 : decode (ch_bc m_x_childOf) 120 = .ok (.invokespecial 133, 3) := by decide +kernel
theorem d_x_childOf_123 : decode (ch_bc m_x_childOf) 123 = .ok (.athrow, 1) := by decide +kernel
theorem d_x_squares_0 : decode (ch_bc m_x_squares) 0 = .ok (.aload_n 0, 1) := by decide +kernel
theorem d_x_squares_1 : decode (ch_bc m_x_squares) 1 = .ok (.iload_n 1, 1) := by decide +kernel
theorem d_x_squares_2 : decode (ch_bc m_x_squares) 2 = .ok (.invokevirtual 106, 3) := by decide +kernel
theorem d_x_squares_5 : decode (ch_bc m_x_squares) 5 = .ok (.aload_n 0, 1) := by decide +kernel
theorem d_x_squares_6 : decode (ch_bc m_x_squares) 6 = .ok (.getfield 10, 3) := by decide +kernel
theorem d_x_squares_9 : decode (ch_bc m_x_squares) 9 = .ok (.iload_n 1, 1) := by decide +kernel
theorem d_x_squares_10 : decode (ch_bc m_x_squares) 10 = .ok (.iconst 0, 1) := by decide +kernel
theorem d_x_squares_11 : decode (ch_bc m_x_squares) 11 = .ok (.invokevirtual 134, 3) := by decide +kernel
theorem d_x_squares_14 : decode (ch_bc m_x_squares) 14 = .ok (.ireturn, 1) := by decide +kernel
theorem d_x_warrantAt_0 : decode (ch_bc m_x_warrantAt) 0 = .ok (.iload_n 1, 1) := by decide +kernel
theorem d_x_warrantAt_1 : decode (ch_bc m_x_warrantAt) 1 = .ok (.ifCond .lt 14, 3) := by decide +kernel
theorem d_x_warrantAt_4 : decode (ch_bc m_x_warrantAt) 4 = .ok (.iload_n 1, 1) := by decide +kernel
theorem d_x_warrantAt_5 : decode (ch_bc m_x_warrantAt) 5 = .ok (.aload_n 0, 1) := by decide +kernel
theorem d_x_warrantAt_6 : decode (ch_bc m_x_warrantAt) 6 = .ok (.getfield 10, 3) := by decide +kernel
theorem d_x_warrantAt_9 : decode (ch_bc m_x_warrantAt) 9 = .ok (.getfield 138, 3) := by decide +kernel
theorem d_x_warrantAt_12 : decode (ch_bc m_x_warrantAt) 12 = .ok (.if_icmp .lt 11, 3) := by decide +kernel
theorem d_x_warrantAt_15 : decode (ch_bc m_x_warrantAt) 15 = .ok (.new 141, 3) := by decide +kernel
theorem d_x_warrantAt_18 : decode (ch_bc m_x_warrantAt) 18 = .ok (.dup, 1) := by decide +kernel
theorem d_x_warrantAt_19 : decode (ch_bc m_x_warrantAt) 19 = .ok (.invokespecial 143, 3) := by decide +kernel
theorem d_x_warrantAt_22 : decode (ch_bc m_x_warrantAt) 22 = .ok (.athrow, 1) := by decide +kernel
theorem d_x_warrantAt_23 : decode (ch_bc m_x_warrantAt) 23 = .ok (.aload_n 0, 1) := by decide +kernel
theorem d_x_warrantAt_24 : decode (ch_bc m_x_warrantAt) 24 = .ok (.getfield 10, 3) := by decide +kernel
theorem d_x_warrantAt_27 : decode (ch_bc m_x_warrantAt) 27 = .ok (.getfield 144, 3) := by decide +kernel
theorem d_x_warrantAt_30 : decode (ch_bc m_x_warrantAt) 30 = .ok (.iload_n 1, 1) := by decide +kernel
theorem d_x_warrantAt_31 : decode (ch_bc m_x_warrantAt) 31 = .ok (.iaload, 1) := by decide +kernel
theorem d_x_warrantAt_32 : decode (ch_bc m_x_warrantAt) 32 = .ok (.ireturn, 1) := by decide +kernel
theorem d_x_fewest_0 : decode (ch_bc m_x_fewest) 0 = .ok (.aload_n 0, 1) := by decide +kernel
theorem d_x_fewest_1 : decode (ch_bc m_x_fewest) 1 = .ok (.iload_n 1, 1) := by decide +kernel
theorem d_x_fewest_2 : decode (ch_bc m_x_fewest) 2 = .ok (.invokevirtual 106, 3) := by decide +kernel
theorem d_x_fewest_5 : decode (ch_bc m_x_fewest) 5 = .ok (.aload_n 0, 1) := by decide +kernel
theorem d_x_fewest_6 : decode (ch_bc m_x_fewest) 6 = .ok (.getfield 66, 3) := by decide +kernel
theorem d_x_fewest_9 : decode (ch_bc m_x_fewest) 9 = .ok (.aload_n 0, 1) := by decide +kernel
theorem d_x_fewest_10 : decode (ch_bc m_x_fewest) 10 = .ok (.getfield 10, 3) := by decide +kernel
theorem d_x_fewest_13 : decode (ch_bc m_x_fewest) 13 = .ok (.iload_n 1, 1) := by decide +kernel
theorem d_x_fewest_14 : decode (ch_bc m_x_fewest) 14 = .ok (.invokevirtual 147, 3) := by decide +kernel
theorem d_x_fewest_17 : decode (ch_bc m_x_fewest) 17 = .ok (.ireturn, 1) := by decide +kernel
theorem d_x_fewestAgain_0 : decode (ch_bc m_x_fewestAgain) 0 = .ok (.aload_n 0, 1) := by decide +kernel
theorem d_x_fewestAgain_1 : decode (ch_bc m_x_fewestAgain) 1 = .ok (.iload_n 1, 1) := by decide +kernel
theorem d_x_fewestAgain_2 : decode (ch_bc m_x_fewestAgain) 2 = .ok (.invokevirtual 106, 3) := by decide +kernel
theorem d_x_fewestAgain_5 : decode (ch_bc m_x_fewestAgain) 5 = .ok (.aload_n 0, 1) := by decide +kernel
theorem d_x_fewestAgain_6 : decode (ch_bc m_x_fewestAgain) 6 = .ok (.getfield 66, 3) := by decide +kernel
theorem d_x_fewestAgain_9 : decode (ch_bc m_x_fewestAgain) 9 = .ok (.aload_n 0, 1) := by decide +kernel
theorem d_x_fewestAgain_10 : decode (ch_bc m_x_fewestAgain) 10 = .ok (.getfield 10, 3) := by decide +kernel
theorem d_x_fewestAgain_13 : decode (ch_bc m_x_fewestAgain) 13 = .ok (.iload_n 1, 1) := by decide +kernel
theorem d_x_fewestAgain_14 : decode (ch_bc m_x_fewestAgain) 14 = .ok (.invokevirtual 151, 3) := by decide +kernel
theorem d_x_fewestAgain_17 : decode (ch_bc m_x_fewestAgain) 17 = .ok (.ireturn, 1) := by decide +kernel
theorem d_x_step_0 : decode (ch_bc m_x_step) 0 = .ok (.aload_n 0, 1) := by decide +kernel
theorem d_x_step_1 : decode (ch_bc m_x_step) 1 = .ok (.iload_n 1, 1) := by decide +kernel
theorem d_x_step_2 : decode (ch_bc m_x_step) 2 = .ok (.invokevirtual 106, 3) := by decide +kernel
theorem d_x_step_5 : decode (ch_bc m_x_step) 5 = .ok (.aload_n 0, 1) := by decide +kernel
theorem d_x_step_6 : decode (ch_bc m_x_step) 6 = .ok (.getfield 66, 3) := by decide +kernel
theorem d_x_step_9 : decode (ch_bc m_x_step) 9 = .ok (.aload_n 0, 1) := by decide +kernel
theorem d_x_step_10 : decode (ch_bc m_x_step) 10 = .ok (.getfield 10, 3) := by decide +kernel
theorem d_x_step_13 : decode (ch_bc m_x_step) 13 = .ok (.iload_n 1, 1) := by decide +kernel
theorem d_x_step_14 : decode (ch_bc m_x_step) 14 = .ok (.invokevirtual 147, 3) := by decide +kernel
theorem d_x_step_17 : decode (ch_bc m_x_step) 17 = .ok (.pop, 1) := by decide +kernel
theorem d_x_step_18 : decode (ch_bc m_x_step) 18 = .ok (.aload_n 0, 1) := by decide +kernel
theorem d_x_step_19 : decode (ch_bc m_x_step) 19 = .ok (.getfield 66, 3) := by decide +kernel
theorem d_x_step_22 : decode (ch_bc m_x_step) 22 = .ok (.aload_n 0, 1) := by decide +kernel
theorem d_x_step_23 : decode (ch_bc m_x_step) 23 = .ok (.getfield 73, 3) := by decide +kernel
theorem d_x_step_26 : decode (ch_bc m_x_step) 26 = .ok (.invokevirtual 154, 3) := by decide +kernel
theorem d_x_step_29 : decode (ch_bc m_x_step) 29 = .ok (.iload_n 2, 1) := by decide +kernel
theorem d_x_step_30 : decode (ch_bc m_x_step) 30 = .ok (.ifCond .lt 14, 3) := by decide +kernel
theorem d_x_step_33 : decode (ch_bc m_x_step) 33 = .ok (.iload_n 2, 1) := by decide +kernel
theorem d_x_step_34 : decode (ch_bc m_x_step) 34 = .ok (.aload_n 0, 1) := by decide +kernel
theorem d_x_step_35 : decode (ch_bc m_x_step) 35 = .ok (.getfield 73, 3) := by decide +kernel
theorem d_x_step_38 : decode (ch_bc m_x_step) 38 = .ok (.getfield 158, 3) := by decide +kernel
theorem d_x_step_41 : decode (ch_bc m_x_step) 41 = .ok (.if_icmp .lt 11, 3) := by decide +kernel
theorem d_x_step_44 : decode (ch_bc m_x_step) 44 = .ok (.new 141, 3) := by decide +kernel
theorem d_x_step_47 : decode (ch_bc m_x_step) 47 = .ok (.dup, 1) := by decide +kernel
theorem d_x_step_48 : decode (ch_bc m_x_step) 48 = .ok (.invokespecial 143, 3) := by decide +kernel
theorem d_x_step_51 : decode (ch_bc m_x_step) 51 = .ok (.athrow, 1) := by decide +kernel
theorem d_x_step_52 : decode (ch_bc m_x_step) 52 = .ok (.aload_n 0, 1) := by decide +kernel
theorem d_x_step_53 : decode (ch_bc m_x_step) 53 = .ok (.getfield 73, 3) := by decide +kernel
theorem d_x_step_56 : decode (ch_bc m_x_step) 56 = .ok (.getfield 161, 3) := by decide +kernel
theorem d_x_step_59 : decode (ch_bc m_x_step) 59 = .ok (.iload_n 2, 1) := by decide +kernel
theorem d_x_step_60 : decode (ch_bc m_x_step) 60 = .ok (.iaload, 1) := by decide +kernel
theorem d_x_step_61 : decode (ch_bc m_x_step) 61 = .ok (.ireturn, 1) := by decide +kernel
theorem d_x_wouldTread_0 : decode (ch_bc m_x_wouldTread) 0 = .ok (.aload_n 0, 1) := by decide +kernel
theorem d_x_wouldTread_1 : decode (ch_bc m_x_wouldTread) 1 = .ok (.iload_n 1, 1) := by decide +kernel
theorem d_x_wouldTread_2 : decode (ch_bc m_x_wouldTread) 2 = .ok (.invokevirtual 106, 3) := by decide +kernel
theorem d_x_wouldTread_5 : decode (ch_bc m_x_wouldTread) 5 = .ok (.aload_n 0, 1) := by decide +kernel
theorem d_x_wouldTread_6 : decode (ch_bc m_x_wouldTread) 6 = .ok (.getfield 73, 3) := by decide +kernel
theorem d_x_wouldTread_9 : decode (ch_bc m_x_wouldTread) 9 = .ok (.iload_n 2, 1) := by decide +kernel
theorem d_x_wouldTread_10 : decode (ch_bc m_x_wouldTread) 10 = .ok (.invokevirtual 92, 3) := by decide +kernel
theorem d_x_wouldTread_13 : decode (ch_bc m_x_wouldTread) 13 = .ok (.aload_n 0, 1) := by decide +kernel
theorem d_x_wouldTread_14 : decode (ch_bc m_x_wouldTread) 14 = .ok (.getfield 73, 3) := by decide +kernel
theorem d_x_wouldTread_17 : decode (ch_bc m_x_wouldTread) 17 = .ok (.getfield 158, 3) := by decide +kernel
theorem d_x_wouldTread_20 : decode (ch_bc m_x_wouldTread) 20 = .ok (.ifCond .eq 14, 3) := by decide +kernel
theorem d_x_wouldTread_23 : decode (ch_bc m_x_wouldTread) 23 = .ok (.aload_n 0, 1) := by decide +kernel
theorem d_x_wouldTread_24 : decode (ch_bc m_x_wouldTread) 24 = .ok (.getfield 73, 3) := by decide +kernel
theorem d_x_wouldTread_27 : decode (ch_bc m_x_wouldTread) 27 = .ok (.invokevirtual 164, 3) := by decide +kernel
theorem d_x_wouldTread_30 : decode (ch_bc m_x_wouldTread) 30 = .ok (.iconst (-1), 1) := by decide +kernel
theorem d_x_wouldTread_31 : decode (ch_bc m_x_wouldTread) 31 = .ok (.if_icmp .eq 11, 3) := by decide +kernel
theorem d_x_wouldTread_34 : decode (ch_bc m_x_wouldTread) 34 = .ok (.new 131, 3) := by decide +kernel
theorem d_x_wouldTread_37 : decode (ch_bc m_x_wouldTread) 37 = .ok (.dup, 1) := by decide +kernel
theorem d_x_wouldTread_38 : decode (ch_bc m_x_wouldTread) 38 = .ok (.invokespecial 133, 3) := by decide +kernel
theorem d_x_wouldTread_41 : decode (ch_bc m_x_wouldTread) 41 = .ok (.athrow, 1) := by decide +kernel
theorem d_x_wouldTread_42 : decode (ch_bc m_x_wouldTread) 42 = .ok (.aload_n 0, 1) := by decide +kernel
theorem d_x_wouldTread_43 : decode (ch_bc m_x_wouldTread) 43 = .ok (.getfield 10, 3) := by decide +kernel
theorem d_x_wouldTread_46 : decode (ch_bc m_x_wouldTread) 46 = .ok (.iload_n 1, 1) := by decide +kernel
theorem d_x_wouldTread_47 : decode (ch_bc m_x_wouldTread) 47 = .ok (.aload_n 0, 1) := by decide +kernel
theorem d_x_wouldTread_48 : decode (ch_bc m_x_wouldTread) 48 = .ok (.getfield 73, 3) := by decide +kernel
theorem d_x_wouldTread_51 : decode (ch_bc m_x_wouldTread) 51 = .ok (.invokevirtual 167, 3) := by decide +kernel
theorem d_x_wouldTread_54 : decode (ch_bc m_x_wouldTread) 54 = .ok (.ireturn, 1) := by decide +kernel
theorem d_x_longest_0 : decode (ch_bc m_x_longest) 0 = .ok (.aload_n 0, 1) := by decide +kernel
theorem d_x_longest_1 : decode (ch_bc m_x_longest) 1 = .ok (.iload_n 1, 1) := by decide +kernel
theorem d_x_longest_2 : decode (ch_bc m_x_longest) 2 = .ok (.invokevirtual 106, 3) := by decide +kernel
theorem d_x_longest_5 : decode (ch_bc m_x_longest) 5 = .ok (.aload_n 0, 1) := by decide +kernel
theorem d_x_longest_6 : decode (ch_bc m_x_longest) 6 = .ok (.getfield 10, 3) := by decide +kernel
theorem d_x_longest_9 : decode (ch_bc m_x_longest) 9 = .ok (.iload_n 1, 1) := by decide +kernel
theorem d_x_longest_10 : decode (ch_bc m_x_longest) 10 = .ok (.invokevirtual 171, 3) := by decide +kernel
theorem d_x_longest_13 : decode (ch_bc m_x_longest) 13 = .ok (.ireturn, 1) := by decide +kernel
theorem d_x_gap_0 : decode (ch_bc m_x_gap) 0 = .ok (.aload_n 0, 1) := by decide +kernel
theorem d_x_gap_1 : decode (ch_bc m_x_gap) 1 = .ok (.getfield 10, 3) := by decide +kernel
theorem d_x_gap_4 : decode (ch_bc m_x_gap) 4 = .ok (.iconst (-1), 1) := by decide +kernel
theorem d_x_gap_5 : decode (ch_bc m_x_gap) 5 = .ok (.invokevirtual 171, 3) := by decide +kernel
theorem d_x_gap_8 : decode (ch_bc m_x_gap) 8 = .ok (.ireturn, 1) := by decide +kernel
theorem d_x_wouldEnd_0 : decode (ch_bc m_x_wouldEnd) 0 = .ok (.iload_n 1, 1) := by decide +kernel
theorem d_x_wouldEnd_1 : decode (ch_bc m_x_wouldEnd) 1 = .ok (.iconst 1, 1) := by decide +kernel
theorem d_x_wouldEnd_2 : decode (ch_bc m_x_wouldEnd) 2 = .ok (.if_icmp .lt 9, 3) := by decide +kernel
theorem d_x_wouldEnd_5 : decode (ch_bc m_x_wouldEnd) 5 = .ok (.iload_n 1, 1) := by decide +kernel
theorem d_x_wouldEnd_6 : decode (ch_bc m_x_wouldEnd) 6 = .ok (.bipush 9, 2) := by decide +kernel
theorem d_x_wouldEnd_8 : decode (ch_bc m_x_wouldEnd) 8 = .ok (.if_icmp .le 11, 3) := by decide +kernel
theorem d_x_wouldEnd_11 : decode (ch_bc m_x_wouldEnd) 11 = .ok (.new 131, 3) := by decide +kernel
theorem d_x_wouldEnd_14 : decode (ch_bc m_x_wouldEnd) 14 = .ok (.dup, 1) := by decide +kernel
theorem d_x_wouldEnd_15 : decode (ch_bc m_x_wouldEnd) 15 = .ok (.invokespecial 133, 3) := by decide +kernel
theorem d_x_wouldEnd_18 : decode (ch_bc m_x_wouldEnd) 18 = .ok (.athrow, 1) := by decide +kernel
theorem d_x_wouldEnd_19 : decode (ch_bc m_x_wouldEnd) 19 = .ok (.aload_n 0, 1) := by decide +kernel
theorem d_x_wouldEnd_20 : decode (ch_bc m_x_wouldEnd) 20 = .ok (.getfield 19, 3) := by decide +kernel
theorem d_x_wouldEnd_23 : decode (ch_bc m_x_wouldEnd) 23 = .ok (.aload_n 0, 1) := by decide +kernel
theorem d_x_wouldEnd_24 : decode (ch_bc m_x_wouldEnd) 24 = .ok (.getfield 10, 3) := by decide +kernel
theorem d_x_wouldEnd_27 : decode (ch_bc m_x_wouldEnd) 27 = .ok (.invokevirtual 174, 3) := by decide +kernel
theorem d_x_wouldEnd_30 : decode (ch_bc m_x_wouldEnd) 30 = .ok (.aload_n 0, 1) := by decide +kernel
theorem d_x_wouldEnd_31 : decode (ch_bc m_x_wouldEnd) 31 = .ok (.getfield 19, 3) := by decide +kernel
theorem d_x_wouldEnd_34 : decode (ch_bc m_x_wouldEnd) 34 = .ok (.iload_n 1, 1) := by decide +kernel
theorem d_x_wouldEnd_35 : decode (ch_bc m_x_wouldEnd) 35 = .ok (.invokevirtual 178, 3) := by decide +kernel
theorem d_x_wouldEnd_38 : decode (ch_bc m_x_wouldEnd) 38 = .ok (.ireturn, 1) := by decide +kernel
theorem d_x_rainFor_0 : decode (ch_bc m_x_rainFor) 0 = .ok (.aload_n 0, 1) := by decide +kernel
theorem d_x_rainFor_1 : decode (ch_bc m_x_rainFor) 1 = .ok (.iload_n 1, 1) := by decide +kernel
theorem d_x_rainFor_2 : decode (ch_bc m_x_rainFor) 2 = .ok (.invokevirtual 106, 3) := by decide +kernel
theorem d_x_rainFor_5 : decode (ch_bc m_x_rainFor) 5 = .ok (.aload_n 0, 1) := by decide +kernel
theorem d_x_rainFor_6 : decode (ch_bc m_x_rainFor) 6 = .ok (.getfield 10, 3) := by decide +kernel
theorem d_x_rainFor_9 : decode (ch_bc m_x_rainFor) 9 = .ok (.getfield 115, 3) := by decide +kernel
theorem d_x_rainFor_12 : decode (ch_bc m_x_rainFor) 12 = .ok (.iload_n 1, 1) := by decide +kernel
theorem d_x_rainFor_13 : decode (ch_bc m_x_rainFor) 13 = .ok (.iaload, 1) := by decide +kernel
theorem d_x_rainFor_14 : decode (ch_bc m_x_rainFor) 14 = .ok (.ifCond .ne 11, 3) := by decide +kernel
theorem d_x_rainFor_17 : decode (ch_bc m_x_rainFor) 17 = .ok (.new 141, 3) := by decide +kernel
theorem d_x_rainFor_20 : decode (ch_bc m_x_rainFor) 20 = .ok (.dup, 1) := by decide +kernel
theorem d_x_rainFor_21 : decode (ch_bc m_x_rainFor) 21 = .ok (.invokespecial 143, 3) := by decide +kernel
theorem d_x_rainFor_24 : decode (ch_bc m_x_rainFor) 24 = .ok (.athrow, 1) := by decide +kernel
theorem d_x_rainFor_25 : decode (ch_bc m_x_rainFor) 25 = .ok (.aload_n 0, 1) := by decide +kernel
theorem d_x_rainFor_26 : decode (ch_bc m_x_rainFor) 26 = .ok (.getfield 10, 3) := by decide +kernel
theorem d_x_rainFor_29 : decode (ch_bc m_x_rainFor) 29 = .ok (.getfield 115, 3) := by decide +kernel
theorem d_x_rainFor_32 : decode (ch_bc m_x_rainFor) 32 = .ok (.iload_n 1, 1) := by decide +kernel
theorem d_x_rainFor_33 : decode (ch_bc m_x_rainFor) 33 = .ok (.iaload, 1) := by decide +kernel
theorem d_x_rainFor_34 : decode (ch_bc m_x_rainFor) 34 = .ok (.ireturn, 1) := by decide +kernel
theorem d_x_wouldLose_0 : decode (ch_bc m_x_wouldLose) 0 = .ok (.aload_n 0, 1) := by decide +kernel
theorem d_x_wouldLose_1 : decode (ch_bc m_x_wouldLose) 1 = .ok (.iload_n 1, 1) := by decide +kernel
theorem d_x_wouldLose_2 : decode (ch_bc m_x_wouldLose) 2 = .ok (.invokevirtual 106, 3) := by decide +kernel
theorem d_x_wouldLose_5 : decode (ch_bc m_x_wouldLose) 5 = .ok (.aload_n 0, 1) := by decide +kernel
theorem d_x_wouldLose_6 : decode (ch_bc m_x_wouldLose) 6 = .ok (.getfield 10, 3) := by decide +kernel
theorem d_x_wouldLose_9 : decode (ch_bc m_x_wouldLose) 9 = .ok (.iload_n 1, 1) := by decide +kernel
theorem d_x_wouldLose_10 : decode (ch_bc m_x_wouldLose) 10 = .ok (.aload_n 0, 1) := by decide +kernel
theorem d_x_wouldLose_11 : decode (ch_bc m_x_wouldLose) 11 = .ok (.getfield 10, 3) := by decide +kernel
theorem d_x_wouldLose_14 : decode (ch_bc m_x_wouldLose) 14 = .ok (.getfield 109, 3) := by decide +kernel
theorem d_x_wouldLose_17 : decode (ch_bc m_x_wouldLose) 17 = .ok (.iload_n 1, 1) := by decide +kernel
theorem d_x_wouldLose_18 : decode (ch_bc m_x_wouldLose) 18 = .ok (.iaload, 1) := by decide +kernel
theorem d_x_wouldLose_19 : decode (ch_bc m_x_wouldLose) 19 = .ok (.invokevirtual 134, 3) := by decide +kernel
theorem d_x_wouldLose_22 : decode (ch_bc m_x_wouldLose) 22 = .ok (.ireturn, 1) := by decide +kernel
theorem d_x_termsFor_0 : decode (ch_bc m_x_termsFor) 0 = .ok (.aload_n 0, 1) := by decide +kernel
theorem d_x_termsFor_1 : decode (ch_bc m_x_termsFor) 1 = .ok (.iload_n 1, 1) := by decide +kernel
theorem d_x_termsFor_2 : decode (ch_bc m_x_termsFor) 2 = .ok (.invokevirtual 106, 3) := by decide +kernel
theorem d_x_termsFor_5 : decode (ch_bc m_x_termsFor) 5 = .ok (.aload_n 0, 1) := by decide +kernel
theorem d_x_termsFor_6 : decode (ch_bc m_x_termsFor) 6 = .ok (.getfield 19, 3) := by decide +kernel
theorem d_x_termsFor_9 : decode (ch_bc m_x_termsFor) 9 = .ok (.aload_n 0, 1) := by decide +kernel
theorem d_x_termsFor_10 : decode (ch_bc m_x_termsFor) 10 = .ok (.getfield 10, 3) := by decide +kernel
theorem d_x_termsFor_13 : decode (ch_bc m_x_termsFor) 13 = .ok (.invokevirtual 174, 3) := by decide +kernel
theorem d_x_termsFor_16 : decode (ch_bc m_x_termsFor) 16 = .ok (.iconst 1, 1) := by decide +kernel
theorem d_x_termsFor_17 : decode (ch_bc m_x_termsFor) 17 = .ok (.istore_n 2, 1) := by decide +kernel
theorem d_x_termsFor_18 : decode (ch_bc m_x_termsFor) 18 = .ok (.iload_n 2, 1) := by decide +kernel
theorem d_x_termsFor_19 : decode (ch_bc m_x_termsFor) 19 = .ok (.bipush 40, 2) := by decide +kernel
theorem d_x_termsFor_21 : decode (ch_bc m_x_termsFor) 21 = .ok (.if_icmp .gt 40, 3) := by decide +kernel
theorem d_x_termsFor_24 : decode (ch_bc m_x_termsFor) 24 = .ok (.aload_n 0, 1) := by decide +kernel
theorem d_x_termsFor_25 : decode (ch_bc m_x_termsFor) 25 = .ok (.getfield 19, 3) := by decide +kernel
theorem d_x_termsFor_28 : decode (ch_bc m_x_termsFor) 28 = .ok (.iload_n 1, 1) := by decide +kernel
theorem d_x_termsFor_29 : decode (ch_bc m_x_termsFor) 29 = .ok (.invokevirtual 118, 3) := by decide +kernel
theorem d_x_termsFor_32 : decode (ch_bc m_x_termsFor) 32 = .ok (.istore_n 3, 1) := by decide +kernel
theorem d_x_termsFor_33 : decode (ch_bc m_x_termsFor) 33 = .ok (.aload_n 0, 1) := by decide +kernel
theorem d_x_termsFor_34 : decode (ch_bc m_x_termsFor) 34 = .ok (.getfield 19, 3) := by decide +kernel
theorem d_x_termsFor_37 : decode (ch_bc m_x_termsFor) 37 = .ok (.invokevirtual 181, 3) := by decide +kernel
theorem d_x_termsFor_40 : decode (ch_bc m_x_termsFor) 40 = .ok (.pop, 1) := by decide +kernel
theorem d_x_termsFor_41 : decode (ch_bc m_x_termsFor) 41 = .ok (.aload_n 0, 1) := by decide +kernel
theorem d_x_termsFor_42 : decode (ch_bc m_x_termsFor) 42 = .ok (.getfield 19, 3) := by decide +kernel
theorem d_x_termsFor_45 : decode (ch_bc m_x_termsFor) 45 = .ok (.iload_n 1, 1) := by decide +kernel
theorem d_x_termsFor_46 : decode (ch_bc m_x_termsFor) 46 = .ok (.invokevirtual 118, 3) := by decide +kernel
theorem d_x_termsFor_49 : decode (ch_bc m_x_termsFor) 49 = .ok (.iload_n 3, 1) := by decide +kernel
theorem d_x_termsFor_50 : decode (ch_bc m_x_termsFor) 50 = .ok (.if_icmp .ge 5, 3) := by decide +kernel
theorem d_x_termsFor_53 : decode (ch_bc m_x_termsFor) 53 = .ok (.iload_n 2, 1) := by decide +kernel
theorem d_x_termsFor_54 : decode (ch_bc m_x_termsFor) 54 = .ok (.ireturn, 1) := by decide +kernel
theorem d_x_termsFor_55 : decode (ch_bc m_x_termsFor) 55 = .ok (.iinc 2 1, 3) := by decide +kernel
theorem d_x_termsFor_58 : decode (ch_bc m_x_termsFor) 58 = .ok (.goto (-40), 3) := by decide +kernel
theorem d_x_termsFor_61 : decode (ch_bc m_x_termsFor) 61 = .ok (.new 141, 3) := by decide +kernel
theorem d_x_termsFor_64 : decode (ch_bc m_x_termsFor) 64 = .ok (.dup, 1) := by decide +kernel
theorem d_x_termsFor_65 : decode (ch_bc m_x_termsFor) 65 = .ok (.invokespecial 143, 3) := by decide +kernel
theorem d_x_termsFor_68 : decode (ch_bc m_x_termsFor) 68 = .ok (.athrow, 1) := by decide +kernel
theorem d_x_ranked_0 : decode (ch_bc m_x_ranked) 0 = .ok (.iload_n 1, 1) := by decide +kernel
theorem d_x_ranked_1 : decode (ch_bc m_x_ranked) 1 = .ok (.ifCond .lt 8, 3) := by decide +kernel
theorem d_x_ranked_4 : decode (ch_bc m_x_ranked) 4 = .ok (.iload_n 1, 1) := by decide +kernel
theorem d_x_ranked_5 : decode (ch_bc m_x_ranked) 5 = .ok (.iconst 3, 1) := by decide +kernel
theorem d_x_ranked_6 : decode (ch_bc m_x_ranked) 6 = .ok (.if_icmp .le 11, 3) := by decide +kernel
theorem d_x_ranked_9 : decode (ch_bc m_x_ranked) 9 = .ok (.new 131, 3) := by decide +kernel
theorem d_x_ranked_12 : decode (ch_bc m_x_ranked) 12 = .ok (.dup, 1) := by decide +kernel
theorem d_x_ranked_13 : decode (ch_bc m_x_ranked) 13 = .ok (.invokespecial 133, 3) := by decide +kernel
theorem d_x_ranked_16 : decode (ch_bc m_x_ranked) 16 = .ok (.athrow, 1) := by decide +kernel
theorem d_x_ranked_17 : decode (ch_bc m_x_ranked) 17 = .ok (.iload_n 2, 1) := by decide +kernel
theorem d_x_ranked_18 : decode (ch_bc m_x_ranked) 18 = .ok (.ifCond .lt 14, 3) := by decide +kernel
theorem d_x_ranked_21 : decode (ch_bc m_x_ranked) 21 = .ok (.iload_n 2, 1) := by decide +kernel
theorem d_x_ranked_22 : decode (ch_bc m_x_ranked) 22 = .ok (.aload_n 0, 1) := by decide +kernel
theorem d_x_ranked_23 : decode (ch_bc m_x_ranked) 23 = .ok (.getfield 10, 3) := by decide +kernel
theorem d_x_ranked_26 : decode (ch_bc m_x_ranked) 26 = .ok (.getfield 184, 3) := by decide +kernel
theorem d_x_ranked_29 : decode (ch_bc m_x_ranked) 29 = .ok (.if_icmp .lt 11, 3) := by decide +kernel
theorem d_x_ranked_32 : decode (ch_bc m_x_ranked) 32 = .ok (.new 141, 3) := by decide +kernel
theorem d_x_ranked_35 : decode (ch_bc m_x_ranked) 35 = .ok (.dup, 1) := by decide +kernel
theorem d_x_ranked_36 : decode (ch_bc m_x_ranked) 36 = .ok (.invokespecial 143, 3) := by decide +kernel
theorem d_x_ranked_39 : decode (ch_bc m_x_ranked) 39 = .ok (.athrow, 1) := by decide +kernel
theorem d_x_ranked_40 : decode (ch_bc m_x_ranked) 40 = .ok (.iconst (-1), 1) := by decide +kernel
theorem d_x_ranked_41 : decode (ch_bc m_x_ranked) 41 = .ok (.istore_n 3, 1) := by decide +kernel
theorem d_x_ranked_42 : decode (ch_bc m_x_ranked) 42 = .ok (.iconst 0, 1) := by decide +kernel
theorem d_x_ranked_43 : decode (ch_bc m_x_ranked) 43 = .ok (.istore 4, 2) := by decide +kernel
theorem d_x_ranked_45 : decode (ch_bc m_x_ranked) 45 = .ok (.iload 4, 2) := by decide +kernel
theorem d_x_ranked_47 : decode (ch_bc m_x_ranked) 47 = .ok (.aload_n 0, 1) := by decide +kernel
theorem d_x_ranked_48 : decode (ch_bc m_x_ranked) 48 = .ok (.getfield 10, 3) := by decide +kernel
theorem d_x_ranked_51 : decode (ch_bc m_x_ranked) 51 = .ok (.getfield 184, 3) := by decide +kernel
theorem d_x_ranked_54 : decode (ch_bc m_x_ranked) 54 = .ok (.if_icmp .ge 26, 3) := by decide +kernel
theorem d_x_ranked_57 : decode (ch_bc m_x_ranked) 57 = .ok (.aload_n 0, 1) := by decide +kernel
theorem d_x_ranked_58 : decode (ch_bc m_x_ranked) 58 = .ok (.getfield 10, 3) := by decide +kernel
theorem d_x_ranked_61 : decode (ch_bc m_x_ranked) 61 = .ok (.iload 4, 2) := by decide +kernel
theorem d_x_ranked_63 : decode (ch_bc m_x_ranked) 63 = .ok (.iload_n 1, 1) := by decide +kernel
theorem d_x_ranked_64 : decode (ch_bc m_x_ranked) 64 = .ok (.invokevirtual 187, 3) := by decide +kernel
theorem d_x_ranked_67 : decode (ch_bc m_x_ranked) 67 = .ok (.iload_n 2, 1) := by decide +kernel
theorem d_x_ranked_68 : decode (ch_bc m_x_ranked) 68 = .ok (.if_icmp .ne 6, 3) := by decide +kernel
theorem d_x_ranked_71 : decode (ch_bc m_x_ranked) 71 = .ok (.iload 4, 2) := by decide +kernel
theorem d_x_ranked_73 : decode (ch_bc m_x_ranked) 73 = .ok (.istore_n 3, 1) := by decide +kernel
theorem d_x_ranked_74 : decode (ch_bc m_x_ranked) 74 = .ok (.iinc 4 1, 3) := by decide +kernel
theorem d_x_ranked_77 : decode (ch_bc m_x_ranked) 77 = .ok (.goto (-32), 3) := by decide +kernel
theorem d_x_ranked_80 : decode (ch_bc m_x_ranked) 80 = .ok (.iload_n 3, 1) := by decide +kernel
theorem d_x_ranked_81 : decode (ch_bc m_x_ranked) 81 = .ok (.ireturn, 1) := by decide +kernel
theorem d_x_append_0 : decode (ch_bc m_x_append) 0 = .ok (.aload_n 0, 1) := by decide +kernel
theorem d_x_append_1 : decode (ch_bc m_x_append) 1 = .ok (.getfield 49, 3) := by decide +kernel
theorem d_x_append_4 : decode (ch_bc m_x_append) 4 = .ok (.getfield 203, 3) := by decide +kernel
theorem d_x_append_7 : decode (ch_bc m_x_append) 7 = .ok (.bipush 60, 2) := by decide +kernel
theorem d_x_append_9 : decode (ch_bc m_x_append) 9 = .ok (.if_icmp .lt 11, 3) := by decide +kernel
theorem d_x_append_12 : decode (ch_bc m_x_append) 12 = .ok (.new 206, 3) := by decide +kernel
theorem d_x_append_15 : decode (ch_bc m_x_append) 15 = .ok (.dup, 1) := by decide +kernel
theorem d_x_append_16 : decode (ch_bc m_x_append) 16 = .ok (.invokespecial 208, 3) := by decide +kernel
theorem d_x_append_19 : decode (ch_bc m_x_append) 19 = .ok (.athrow, 1) := by decide +kernel
theorem d_x_append_20 : decode (ch_bc m_x_append) 20 = .ok (.aload_n 0, 1) := by decide +kernel
theorem d_x_append_21 : decode (ch_bc m_x_append) 21 = .ok (.getfield 49, 3) := by decide +kernel
theorem d_x_append_24 : decode (ch_bc m_x_append) 24 = .ok (.iload_n 1, 1) := by decide +kernel
theorem d_x_append_25 : decode (ch_bc m_x_append) 25 = .ok (.invokevirtual 209, 3) := by decide +kernel
theorem d_x_append_28 : decode (ch_bc m_x_append) 28 = .ok (.aload_n 0, 1) := by decide +kernel
theorem d_x_append_29 : decode (ch_bc m_x_append) 29 = .ok (.getfield 49, 3) := by decide +kernel
theorem d_x_append_32 : decode (ch_bc m_x_append) 32 = .ok (.getfield 203, 3) := by decide +kernel
theorem d_x_append_35 : decode (ch_bc m_x_append) 35 = .ok (.ireturn, 1) := by decide +kernel
theorem d_x_commands_0 : decode (ch_bc m_x_commands) 0 = .ok (.aload_n 0, 1) := by decide +kernel
theorem d_x_commands_1 : decode (ch_bc m_x_commands) 1 = .ok (.aload_n 0, 1) := by decide +kernel
theorem d_x_commands_2 : decode (ch_bc m_x_commands) 2 = .ok (.getfield 56, 3) := by decide +kernel
theorem d_x_commands_5 : decode (ch_bc m_x_commands) 5 = .ok (.aload_n 0, 1) := by decide +kernel
theorem d_x_commands_6 : decode (ch_bc m_x_commands) 6 = .ok (.getfield 49, 3) := by decide +kernel
theorem d_x_commands_9 : decode (ch_bc m_x_commands) 9 = .ok (.aload_n 0, 1) := by decide +kernel
theorem d_x_commands_10 : decode (ch_bc m_x_commands) 10 = .ok (.getfield 42, 3) := by decide +kernel
theorem d_x_commands_13 : decode (ch_bc m_x_commands) 13 = .ok (.invokevirtual 213, 3) := by decide +kernel
theorem d_x_commands_16 : decode (ch_bc m_x_commands) 16 = .ok (.putfield 77, 3) := by decide +kernel
theorem d_x_commands_19 : decode (ch_bc m_x_commands) 19 = .ok (.aload_n 0, 1) := by decide +kernel
theorem d_x_commands_20 : decode (ch_bc m_x_commands) 20 = .ok (.getfield 77, 3) := by decide +kernel
theorem d_x_commands_23 : decode (ch_bc m_x_commands) 23 = .ok (.iconst (-1), 1) := by decide +kernel
theorem d_x_commands_24 : decode (ch_bc m_x_commands) 24 = .ok (.if_icmp .eq 19, 3) := by decide +kernel
theorem d_x_commands_27 : decode (ch_bc m_x_commands) 27 = .ok (.aload_n 0, 1) := by decide +kernel
theorem d_x_commands_28 : decode (ch_bc m_x_commands) 28 = .ok (.getfield 49, 3) := by decide +kernel
theorem d_x_commands_31 : decode (ch_bc m_x_commands) 31 = .ok (.iconst 0, 1) := by decide +kernel
theorem d_x_commands_32 : decode (ch_bc m_x_commands) 32 = .ok (.putfield 203, 3) := by decide +kernel
theorem d_x_commands_35 : decode (ch_bc m_x_commands) 35 = .ok (.new 131, 3) := by decide +kernel
theorem d_x_commands_38 : decode (ch_bc m_x_commands) 38 = .ok (.dup, 1) := by decide +kernel
theorem d_x_commands_39 : decode (ch_bc m_x_commands) 39 = .ok (.invokespecial 133, 3) := by decide +kernel
theorem d_x_commands_42 : decode (ch_bc m_x_commands) 42 = .ok (.athrow, 1) := by decide +kernel
theorem d_x_commands_43 : decode (ch_bc m_x_commands) 43 = .ok (.aload_n 0, 1) := by decide +kernel
theorem d_x_commands_44 : decode (ch_bc m_x_commands) 44 = .ok (.getfield 16, 3) := by decide +kernel
theorem d_x_commands_47 : decode (ch_bc m_x_commands) 47 = .ok (.aload_n 0, 1) := by decide +kernel
theorem d_x_commands_48 : decode (ch_bc m_x_commands) 48 = .ok (.getfield 10, 3) := by decide +kernel
theorem d_x_commands_51 : decode (ch_bc m_x_commands) 51 = .ok (.invokevirtual 174, 3) := by decide +kernel
theorem d_x_commands_54 : decode (ch_bc m_x_commands) 54 = .ok (.aload_n 0, 1) := by decide +kernel
theorem d_x_commands_55 : decode (ch_bc m_x_commands) 55 = .ok (.invokevirtual 217, 3) := by decide +kernel
theorem d_x_commands_58 : decode (ch_bc m_x_commands) 58 = .ok (.istore_n 1, 1) := by decide +kernel
theorem d_x_commands_59 : decode (ch_bc m_x_commands) 59 = .ok (.aload_n 0, 1) := by decide +kernel
theorem d_x_commands_60 : decode (ch_bc m_x_commands) 60 = .ok (.getfield 49, 3) := by decide +kernel
theorem d_x_commands_63 : decode (ch_bc m_x_commands) 63 = .ok (.iconst 0, 1) := by decide +kernel
theorem d_x_commands_64 : decode (ch_bc m_x_commands) 64 = .ok (.putfield 203, 3) := by decide +kernel
theorem d_x_commands_67 : decode (ch_bc m_x_commands) 67 = .ok (.iload_n 1, 1) := by decide +kernel
theorem d_x_commands_68 : decode (ch_bc m_x_commands) 68 = .ok (.ifCond .ne 22, 3) := by decide +kernel
theorem d_x_commands_71 : decode (ch_bc m_x_commands) 71 = .ok (.aload_n 0, 1) := by decide +kernel
theorem d_x_commands_72 : decode (ch_bc m_x_commands) 72 = .ok (.getfield 10, 3) := by decide +kernel
theorem d_x_commands_75 : decode (ch_bc m_x_commands) 75 = .ok (.aload_n 0, 1) := by decide +kernel
theorem d_x_commands_76 : decode (ch_bc m_x_commands) 76 = .ok (.getfield 16, 3) := by decide +kernel
theorem d_x_commands_79 : decode (ch_bc m_x_commands) 79 = .ok (.invokevirtual 174, 3) := by decide +kernel
theorem d_x_commands_82 : decode (ch_bc m_x_commands) 82 = .ok (.new 220, 3) := by decide +kernel
theorem d_x_commands_85 : decode (ch_bc m_x_commands) 85 = .ok (.dup, 1) := by decide +kernel
theorem d_x_commands_86 : decode (ch_bc m_x_commands) 86 = .ok (.invokespecial 222, 3) := by decide +kernel
theorem d_x_commands_89 : decode (ch_bc m_x_commands) 89 = .ok (.athrow, 1) := by decide +kernel
theorem d_x_commands_90 : decode (ch_bc m_x_commands) 90 = .ok (.aload_n 0, 1) := by decide +kernel
theorem d_x_commands_91 : decode (ch_bc m_x_commands) 91 = .ok (.getfield 28, 3) := by decide +kernel
theorem d_x_commands_94 : decode (ch_bc m_x_commands) 94 = .ok (.aload_n 0, 1) := by decide +kernel
theorem d_x_commands_95 : decode (ch_bc m_x_commands) 95 = .ok (.getfield 16, 3) := by decide +kernel
theorem d_x_commands_98 : decode (ch_bc m_x_commands) 98 = .ok (.invokevirtual 223, 3) := by decide +kernel
theorem d_x_commands_101 : decode (ch_bc m_x_commands) 101 = .ok (.iload_n 1, 1) := by decide +kernel
theorem d_x_commands_102 : decode (ch_bc m_x_commands) 102 = .ok (.ireturn, 1) := by decide +kernel
theorem d_x_faultPosition_0 : decode (ch_bc m_x_faultPosition) 0 = .ok (.aload_n 0, 1) := by decide +kernel
theorem d_x_faultPosition_1 : decode (ch_bc m_x_faultPosition) 1 = .ok (.getfield 77, 3) := by decide +kernel
theorem d_x_faultPosition_4 : decode (ch_bc m_x_faultPosition) 4 = .ok (.ireturn, 1) := by decide +kernel
theorem d_x_reason_0 : decode (ch_bc m_x_reason) 0 = .ok (.iload_n 1, 1) := by decide +kernel
theorem d_x_reason_1 : decode (ch_bc m_x_reason) 1 = .ok (.ifCond .lt 8, 3) := by decide +kernel
theorem d_x_reason_4 : decode (ch_bc m_x_reason) 4 = .ok (.iload_n 1, 1) := by decide +kernel
theorem d_x_reason_5 : decode (ch_bc m_x_reason) 5 = .ok (.iconst 2, 1) := by decide +kernel
theorem d_x_reason_6 : decode (ch_bc m_x_reason) 6 = .ok (.if_icmp .le 11, 3) := by decide +kernel
theorem d_x_reason_9 : decode (ch_bc m_x_reason) 9 = .ok (.new 131, 3) := by decide +kernel
theorem d_x_reason_12 : decode (ch_bc m_x_reason) 12 = .ok (.dup, 1) := by decide +kernel
theorem d_x_reason_13 : decode (ch_bc m_x_reason) 13 = .ok (.invokespecial 133, 3) := by decide +kernel
theorem d_x_reason_16 : decode (ch_bc m_x_reason) 16 = .ok (.athrow, 1) := by decide +kernel
theorem d_x_reason_17 : decode (ch_bc m_x_reason) 17 = .ok (.aload_n 0, 1) := by decide +kernel
theorem d_x_reason_18 : decode (ch_bc m_x_reason) 18 = .ok (.getfield 35, 3) := by decide +kernel
theorem d_x_reason_21 : decode (ch_bc m_x_reason) 21 = .ok (.getfield 226, 3) := by decide +kernel
theorem d_x_reason_24 : decode (ch_bc m_x_reason) 24 = .ok (.ifCond .ne 11, 3) := by decide +kernel
theorem d_x_reason_27 : decode (ch_bc m_x_reason) 27 = .ok (.new 141, 3) := by decide +kernel
theorem d_x_reason_30 : decode (ch_bc m_x_reason) 30 = .ok (.dup, 1) := by decide +kernel
theorem d_x_reason_31 : decode (ch_bc m_x_reason) 31 = .ok (.invokespecial 143, 3) := by decide +kernel
theorem d_x_reason_34 : decode (ch_bc m_x_reason) 34 = .ok (.athrow, 1) := by decide +kernel
theorem d_x_reason_35 : decode (ch_bc m_x_reason) 35 = .ok (.iload_n 1, 1) := by decide +kernel
theorem d_x_reason_36 : decode (ch_bc m_x_reason) 36 = .ok (.ifCond .ne 11, 3) := by decide +kernel
theorem d_x_reason_39 : decode (ch_bc m_x_reason) 39 = .ok (.aload_n 0, 1) := by decide +kernel
theorem d_x_reason_40 : decode (ch_bc m_x_reason) 40 = .ok (.getfield 35, 3) := by decide +kernel
theorem d_x_reason_43 : decode (ch_bc m_x_reason) 43 = .ok (.getfield 226, 3) := by decide +kernel
theorem d_x_reason_46 : decode (ch_bc m_x_reason) 46 = .ok (.ireturn, 1) := by decide +kernel
theorem d_x_reason_47 : decode (ch_bc m_x_reason) 47 = .ok (.iload_n 1, 1) := by decide +kernel
theorem d_x_reason_48 : decode (ch_bc m_x_reason) 48 = .ok (.iconst 1, 1) := by decide +kernel
theorem d_x_reason_49 : decode (ch_bc m_x_reason) 49 = .ok (.if_icmp .ne 13, 3) := by decide +kernel
theorem d_x_reason_52 : decode (ch_bc m_x_reason) 52 = .ok (.aload_n 0, 1) := by decide +kernel
theorem d_x_reason_53 : decode (ch_bc m_x_reason) 53 = .ok (.getfield 35, 3) := by decide +kernel
theorem d_x_reason_56 : decode (ch_bc m_x_reason) 56 = .ok (.getfield 229, 3) := by decide +kernel
theorem d_x_reason_59 : decode (ch_bc m_x_reason) 59 = .ok (.goto 10, 3) := by decide +kernel
theorem d_x_reason_62 : decode (ch_bc m_x_reason) 62 = .ok (.aload_n 0, 1) := by decide +kernel
theorem d_x_reason_63 : decode (ch_bc m_x_reason) 63 = .ok (.getfield 35, 3) := by decide +kernel
theorem d_x_reason_66 : decode (ch_bc m_x_reason) 66 = .ok (.getfield 232, 3) := by decide +kernel
theorem d_x_reason_69 : decode (ch_bc m_x_reason) 69 = .ok (.ireturn, 1) := by decide +kernel
theorem d_x_line_0 : decode (ch_bc m_x_line) 0 = .ok (.aload_n 0, 1) := by decide +kernel
theorem d_x_line_1 : decode (ch_bc m_x_line) 1 = .ok (.getfield 60, 3) := by decide +kernel
theorem d_x_line_4 : decode (ch_bc m_x_line) 4 = .ok (.iconst 0, 1) := by decide +kernel
theorem d_x_line_5 : decode (ch_bc m_x_line) 5 = .ok (.putfield 203, 3) := by decide +kernel
theorem d_x_line_8 : decode (ch_bc m_x_line) 8 = .ok (.iconst 0, 1) := by decide +kernel
theorem d_x_line_9 : decode (ch_bc m_x_line) 9 = .ok (.istore_n 1, 1) := by decide +kernel
theorem d_x_line_10 : decode (ch_bc m_x_line) 10 = .ok (.iload_n 1, 1) := by decide +kernel
theorem d_x_line_11 : decode (ch_bc m_x_line) 11 = .ok (.bipush 12, 2) := by decide +kernel
theorem d_x_line_13 : decode (ch_bc m_x_line) 13 = .ok (.if_icmp .ge 62, 3) := by decide +kernel
theorem d_x_line_16 : decode (ch_bc m_x_line) 16 = .ok (.aload_n 0, 1) := by decide +kernel
theorem d_x_line_17 : decode (ch_bc m_x_line) 17 = .ok (.invokevirtual 234, 3) := by decide +kernel
theorem d_x_line_20 : decode (ch_bc m_x_line) 20 = .ok (.aload_n 0, 1) := by decide +kernel
theorem d_x_line_21 : decode (ch_bc m_x_line) 21 = .ok (.getfield 10, 3) := by decide +kernel
theorem d_x_line_24 : decode (ch_bc m_x_line) 24 = .ok (.getfield 103, 3) := by decide +kernel
theorem d_x_line_27 : decode (ch_bc m_x_line) 27 = .ok (.iload_n 1, 1) := by decide +kernel
theorem d_x_line_28 : decode (ch_bc m_x_line) 28 = .ok (.iaload, 1) := by decide +kernel
theorem d_x_line_29 : decode (ch_bc m_x_line) 29 = .ok (.iconst (-1), 1) := by decide +kernel
theorem d_x_line_30 : decode (ch_bc m_x_line) 30 = .ok (.if_icmp .ne 15, 3) := by decide +kernel
theorem d_x_line_33 : decode (ch_bc m_x_line) 33 = .ok (.aload_n 0, 1) := by decide +kernel
theorem d_x_line_34 : decode (ch_bc m_x_line) 34 = .ok (.getfield 60, 3) := by decide +kernel
theorem d_x_line_37 : decode (ch_bc m_x_line) 37 = .ok (.bipush 46, 2) := by decide +kernel
theorem d_x_line_39 : decode (ch_bc m_x_line) 39 = .ok (.invokevirtual 209, 3) := by decide +kernel
theorem d_x_line_42 : decode (ch_bc m_x_line) 42 = .ok (.goto 27, 3) := by decide +kernel
theorem d_x_line_45 : decode (ch_bc m_x_line) 45 = .ok (.aload_n 0, 1) := by decide +kernel
theorem d_x_line_46 : decode (ch_bc m_x_line) 46 = .ok (.aload_n 0, 1) := by decide +kernel
theorem d_x_line_47 : decode (ch_bc m_x_line) 47 = .ok (.getfield 10, 3) := by decide +kernel
theorem d_x_line_50 : decode (ch_bc m_x_line) 50 = .ok (.getfield 103, 3) := by decide +kernel
theorem d_x_line_53 : decode (ch_bc m_x_line) 53 = .ok (.iload_n 1, 1) := by decide +kernel
theorem d_x_line_54 : decode (ch_bc m_x_line) 54 = .ok (.iaload, 1) := by decide +kernel
theorem d_x_line_55 : decode (ch_bc m_x_line) 55 = .ok (.bipush 47, 2) := by decide +kernel
theorem d_x_line_57 : decode (ch_bc m_x_line) 57 = .ok (.aload_n 0, 1) := by decide +kernel
theorem d_x_line_58 : decode (ch_bc m_x_line) 58 = .ok (.getfield 10, 3) := by decide +kernel
theorem d_x_line_61 : decode (ch_bc m_x_line) 61 = .ok (.getfield 99, 3) := by decide +kernel
theorem d_x_line_64 : decode (ch_bc m_x_line) 64 = .ok (.iload_n 1, 1) := by decide +kernel
theorem d_x_line_65 : decode (ch_bc m_x_line) 65 = .ok (.iaload, 1) := by decide +kernel
theorem d_x_line_66 : decode (ch_bc m_x_line) 66 = .ok (.invokevirtual 237, 3) := by decide +kernel
theorem d_x_line_69 : decode (ch_bc m_x_line) 69 = .ok (.iinc 1 1, 3) := by decide +kernel
theorem d_x_line_72 : decode (ch_bc m_x_line) 72 = .ok (.goto (-62), 3) := by decide +kernel
theorem d_x_line_75 : decode (ch_bc m_x_line) 75 = .ok (.aload_n 0, 1) := by decide +kernel
theorem d_x_line_76 : decode (ch_bc m_x_line) 76 = .ok (.getfield 60, 3) := by decide +kernel
theorem d_x_line_79 : decode (ch_bc m_x_line) 79 = .ok (.getfield 203, 3) := by decide +kernel
theorem d_x_line_82 : decode (ch_bc m_x_line) 82 = .ok (.ireturn, 1) := by decide +kernel
theorem d_x_warrants_0 : decode (ch_bc m_x_warrants) 0 = .ok (.aload_n 0, 1) := by decide +kernel
theorem d_x_warrants_1 : decode (ch_bc m_x_warrants) 1 = .ok (.getfield 60, 3) := by decide +kernel
theorem d_x_warrants_4 : decode (ch_bc m_x_warrants) 4 = .ok (.iconst 0, 1) := by decide +kernel
theorem d_x_warrants_5 : decode (ch_bc m_x_warrants) 5 = .ok (.putfield 203, 3) := by decide +kernel
theorem d_x_warrants_8 : decode (ch_bc m_x_warrants) 8 = .ok (.iconst 0, 1) := by decide +kernel
theorem d_x_warrants_9 : decode (ch_bc m_x_warrants) 9 = .ok (.istore_n 1, 1) := by decide +kernel
theorem d_x_warrants_10 : decode (ch_bc m_x_warrants) 10 = .ok (.iload_n 1, 1) := by decide +kernel
theorem d_x_warrants_11 : decode (ch_bc m_x_warrants) 11 = .ok (.aload_n 0, 1) := by decide +kernel
theorem d_x_warrants_12 : decode (ch_bc m_x_warrants) 12 = .ok (.getfield 10, 3) := by decide +kernel
theorem d_x_warrants_15 : decode (ch_bc m_x_warrants) 15 = .ok (.getfield 138, 3) := by decide +kernel
theorem d_x_warrants_18 : decode (ch_bc m_x_warrants) 18 = .ok (.if_icmp .ge 39, 3) := by decide +kernel
theorem d_x_warrants_21 : decode (ch_bc m_x_warrants) 21 = .ok (.aload_n 0, 1) := by decide +kernel
theorem d_x_warrants_22 : decode (ch_bc m_x_warrants) 22 = .ok (.getfield 10, 3) := by decide +kernel
theorem d_x_warrants_25 : decode (ch_bc m_x_warrants) 25 = .ok (.getfield 144, 3) := by decide +kernel
theorem d_x_warrants_28 : decode (ch_bc m_x_warrants) 28 = .ok (.iload_n 1, 1) := by decide +kernel
theorem d_x_warrants_29 : decode (ch_bc m_x_warrants) 29 = .ok (.iaload, 1) := by decide +kernel
theorem d_x_warrants_30 : decode (ch_bc m_x_warrants) 30 = .ok (.istore_n 2, 1) := by decide +kernel
theorem d_x_warrants_31 : decode (ch_bc m_x_warrants) 31 = .ok (.aload_n 0, 1) := by decide +kernel
theorem d_x_warrants_32 : decode (ch_bc m_x_warrants) 32 = .ok (.invokevirtual 234, 3) := by decide +kernel
theorem d_x_warrants_35 : decode (ch_bc m_x_warrants) 35 = .ok (.aload_n 0, 1) := by decide +kernel
theorem d_x_warrants_36 : decode (ch_bc m_x_warrants) 36 = .ok (.iload_n 2, 1) := by decide +kernel
theorem d_x_warrants_37 : decode (ch_bc m_x_warrants) 37 = .ok (.bipush 33, 2) := by decide +kernel
theorem d_x_warrants_39 : decode (ch_bc m_x_warrants) 39 = .ok (.aload_n 0, 1) := by decide +kernel
theorem d_x_warrants_40 : decode (ch_bc m_x_warrants) 40 = .ok (.getfield 10, 3) := by decide +kernel
theorem d_x_warrants_43 : decode (ch_bc m_x_warrants) 43 = .ok (.getfield 115, 3) := by decide +kernel
theorem d_x_warrants_46 : decode (ch_bc m_x_warrants) 46 = .ok (.iload_n 2, 1) := by decide +kernel
theorem d_x_warrants_47 : decode (ch_bc m_x_warrants) 47 = .ok (.iaload, 1) := by decide +kernel
theorem d_x_warrants_48 : decode (ch_bc m_x_warrants) 48 = .ok (.invokevirtual 237, 3) := by decide +kernel
theorem d_x_warrants_51 : decode (ch_bc m_x_warrants) 51 = .ok (.iinc 1 1, 3) := by decide +kernel
theorem d_x_warrants_54 : decode (ch_bc m_x_warrants) 54 = .ok (.goto (-44), 3) := by decide +kernel
theorem d_x_warrants_57 : decode (ch_bc m_x_warrants) 57 = .ok (.aload_n 0, 1) := by decide +kernel
theorem d_x_warrants_58 : decode (ch_bc m_x_warrants) 58 = .ok (.getfield 60, 3) := by decide +kernel
theorem d_x_warrants_61 : decode (ch_bc m_x_warrants) 61 = .ok (.getfield 203, 3) := by decide +kernel
theorem d_x_warrants_64 : decode (ch_bc m_x_warrants) 64 = .ok (.ireturn, 1) := by decide +kernel
theorem d_x_character_0 : decode (ch_bc m_x_character) 0 = .ok (.iload_n 1, 1) := by decide +kernel
theorem d_x_character_1 : decode (ch_bc m_x_character) 1 = .ok (.ifCond .lt 14, 3) := by decide +kernel
theorem d_x_character_4 : decode (ch_bc m_x_character) 4 = .ok (.iload_n 1, 1) := by decide +kernel
theorem d_x_character_5 : decode (ch_bc m_x_character) 5 = .ok (.aload_n 0, 1) := by decide +kernel
theorem d_x_character_6 : decode (ch_bc m_x_character) 6 = .ok (.getfield 60, 3) := by decide +kernel
theorem d_x_character_9 : decode (ch_bc m_x_character) 9 = .ok (.getfield 203, 3) := by decide +kernel
theorem d_x_character_12 : decode (ch_bc m_x_character) 12 = .ok (.if_icmp .lt 11, 3) := by decide +kernel
theorem d_x_character_15 : decode (ch_bc m_x_character) 15 = .ok (.new 96, 3) := by decide +kernel
theorem d_x_character_18 : decode (ch_bc m_x_character) 18 = .ok (.dup, 1) := by decide +kernel
theorem d_x_character_19 : decode (ch_bc m_x_character) 19 = .ok (.invokespecial 98, 3) := by decide +kernel
theorem d_x_character_22 : decode (ch_bc m_x_character) 22 = .ok (.athrow, 1) := by decide +kernel
theorem d_x_character_23 : decode (ch_bc m_x_character) 23 = .ok (.aload_n 0, 1) := by decide +kernel
theorem d_x_character_24 : decode (ch_bc m_x_character) 24 = .ok (.getfield 60, 3) := by decide +kernel
theorem d_x_character_27 : decode (ch_bc m_x_character) 27 = .ok (.getfield 241, 3) := by decide +kernel
theorem d_x_character_30 : decode (ch_bc m_x_character) 30 = .ok (.iload_n 1, 1) := by decide +kernel
theorem d_x_character_31 : decode (ch_bc m_x_character) 31 = .ok (.caload, 1) := by decide +kernel
theorem d_x_character_32 : decode (ch_bc m_x_character) 32 = .ok (.ireturn, 1) := by decide +kernel
theorem d_x_meanChalk_0 : decode (ch_bc m_x_meanChalk) 0 = .ok (.bipush 12, 2) := by decide +kernel
theorem d_x_meanChalk_2 : decode (ch_bc m_x_meanChalk) 2 = .ok (.aload_n 0, 1) := by decide +kernel
theorem d_x_meanChalk_3 : decode (ch_bc m_x_meanChalk) 3 = .ok (.getfield 10, 3) := by decide +kernel
theorem d_x_meanChalk_6 : decode (ch_bc m_x_meanChalk) 6 = .ok (.iconst (-1), 1) := by decide +kernel
theorem d_x_meanChalk_7 : decode (ch_bc m_x_meanChalk) 7 = .ok (.invokevirtual 118, 3) := by decide +kernel
theorem d_x_meanChalk_10 : decode (ch_bc m_x_meanChalk) 10 = .ok (.isub, 1) := by decide +kernel
theorem d_x_meanChalk_11 : decode (ch_bc m_x_meanChalk) 11 = .ok (.istore_n 1, 1) := by decide +kernel
theorem d_x_meanChalk_12 : decode (ch_bc m_x_meanChalk) 12 = .ok (.iload_n 1, 1) := by decide +kernel
theorem d_x_meanChalk_13 : decode (ch_bc m_x_meanChalk) 13 = .ok (.ifCond .ne 11, 3) := by decide +kernel
theorem d_x_meanChalk_16 : decode (ch_bc m_x_meanChalk) 16 = .ok (.new 244, 3) := by decide +kernel
theorem d_x_meanChalk_19 : decode (ch_bc m_x_meanChalk) 19 = .ok (.dup, 1) := by decide +kernel
theorem d_x_meanChalk_20 : decode (ch_bc m_x_meanChalk) 20 = .ok (.invokespecial 246, 3) := by decide +kernel
theorem d_x_meanChalk_23 : decode (ch_bc m_x_meanChalk) 23 = .ok (.athrow, 1) := by decide +kernel
theorem d_x_meanChalk_24 : decode (ch_bc m_x_meanChalk) 24 = .ok (.aload_n 0, 1) := by decide +kernel
theorem d_x_meanChalk_25 : decode (ch_bc m_x_meanChalk) 25 = .ok (.getfield 10, 3) := by decide +kernel
theorem d_x_meanChalk_28 : decode (ch_bc m_x_meanChalk) 28 = .ok (.invokevirtual 247, 3) := by decide +kernel
theorem d_x_meanChalk_31 : decode (ch_bc m_x_meanChalk) 31 = .ok (.i2d, 1) := by decide +kernel
theorem d_x_meanChalk_32 : decode (ch_bc m_x_meanChalk) 32 = .ok (.iload_n 1, 1) := by decide +kernel
theorem d_x_meanChalk_33 : decode (ch_bc m_x_meanChalk) 33 = .ok (.i2d, 1) := by decide +kernel
theorem d_x_meanChalk_34 : decode (ch_bc m_x_meanChalk) 34 = .ok (.ddiv, 1) := by decide +kernel
theorem d_x_meanChalk_35 : decode (ch_bc m_x_meanChalk) 35 = .ok (.dreturn, 1) := by decide +kernel
theorem d_x_ownedShare_0 : decode (ch_bc m_x_ownedShare) 0 = .ok (.bipush 12, 2) := by decide +kernel
theorem d_x_ownedShare_2 : decode (ch_bc m_x_ownedShare) 2 = .ok (.aload_n 0, 1) := by decide +kernel
theorem d_x_ownedShare_3 : decode (ch_bc m_x_ownedShare) 3 = .ok (.getfield 10, 3) := by decide +kernel
theorem d_x_ownedShare_6 : decode (ch_bc m_x_ownedShare) 6 = .ok (.iconst (-1), 1) := by decide +kernel
theorem d_x_ownedShare_7 : decode (ch_bc m_x_ownedShare) 7 = .ok (.invokevirtual 118, 3) := by decide +kernel
theorem d_x_ownedShare_10 : decode (ch_bc m_x_ownedShare) 10 = .ok (.isub, 1) := by decide +kernel
theorem d_x_ownedShare_11 : decode (ch_bc m_x_ownedShare) 11 = .ok (.i2f, 1) := by decide +kernel
theorem d_x_ownedShare_12 : decode (ch_bc m_x_ownedShare) 12 = .ok (.ldc 250, 2) := by decide +kernel
theorem d_x_ownedShare_14 : decode (ch_bc m_x_ownedShare) 14 = .ok (.fdiv, 1) := by decide +kernel
theorem d_x_ownedShare_15 : decode (ch_bc m_x_ownedShare) 15 = .ok (.freturn, 1) := by decide +kernel
theorem d_x_account_0 : decode (ch_bc m_x_account) 0 = .ok (.iload_n 1, 1) := by decide +kernel
theorem d_x_account_1 : decode (ch_bc m_x_account) 1 = .ok (.tableswitch 163 0 11 #[63, 71, 79, 87, 99, 107, 115, 123, 131, 139, 147, 155], 63) := by decide +kernel
theorem d_x_account_64 : decode (ch_bc m_x_account) 64 = .ok (.aload_n 0, 1) := by decide +kernel
theorem d_x_account_65 : decode (ch_bc m_x_account) 65 = .ok (.getfield 10, 3) := by decide +kernel
theorem d_x_account_68 : decode (ch_bc m_x_account) 68 = .ok (.getfield 184, 3) := by decide +kernel
theorem d_x_account_71 : decode (ch_bc m_x_account) 71 = .ok (.ireturn, 1) := by decide +kernel
theorem d_x_account_72 : decode (ch_bc m_x_account) 72 = .ok (.aload_n 0, 1) := by decide +kernel
theorem d_x_account_73 : decode (ch_bc m_x_account) 73 = .ok (.getfield 10, 3) := by decide +kernel
theorem d_x_account_76 : decode (ch_bc m_x_account) 76 = .ok (.invokevirtual 193, 3) := by decide +kernel
theorem d_x_account_79 : decode (ch_bc m_x_account) 79 = .ok (.ireturn, 1) := by decide +kernel
theorem d_x_account_80 : decode (ch_bc m_x_account) 80 = .ok (.aload_n 0, 1) := by decide +kernel
theorem d_x_account_81 : decode (ch_bc m_x_account) 81 = .ok (.getfield 10, 3) := by decide +kernel
theorem d_x_account_84 : decode (ch_bc m_x_account) 84 = .ok (.getfield 196, 3) := by decide +kernel
theorem d_x_account_87 : decode (ch_bc m_x_account) 87 = .ok (.ireturn, 1) := by decide +kernel
theorem d_x_account_88 : decode (ch_bc m_x_account) 88 = .ok (.bipush 12, 2) := by decide +kernel
theorem d_x_account_90 : decode (ch_bc m_x_account) 90 = .ok (.aload_n 0, 1) := by decide +kernel
theorem d_x_account_91 : decode (ch_bc m_x_account) 91 = .ok (.getfield 10, 3) := by decide +kernel
theorem d_x_account_94 : decode (ch_bc m_x_account) 94 = .ok (.iconst (-1), 1) := by decide +kernel
theorem d_x_account_95 : decode (ch_bc m_x_account) 95 = .ok (.invokevirtual 118, 3) := by decide +kernel
theorem d_x_account_98 : decode (ch_bc m_x_account) 98 = .ok (.isub, 1) := by decide +kernel
theorem d_x_account_99 : decode (ch_bc m_x_account) 99 = .ok (.ireturn, 1) := by decide +kernel
theorem d_x_account_100 : decode (ch_bc m_x_account) 100 = .ok (.aload_n 0, 1) := by decide +kernel
theorem d_x_account_101 : decode (ch_bc m_x_account) 101 = .ok (.getfield 10, 3) := by decide +kernel
theorem d_x_account_104 : decode (ch_bc m_x_account) 104 = .ok (.getfield 138, 3) := by decide +kernel
theorem d_x_account_107 : decode (ch_bc m_x_account) 107 = .ok (.ireturn, 1) := by decide +kernel
theorem d_x_account_108 : decode (ch_bc m_x_account) 108 = .ok (.aload_n 0, 1) := by decide +kernel
theorem d_x_account_109 : decode (ch_bc m_x_account) 109 = .ok (.getfield 10, 3) := by decide +kernel
theorem d_x_account_112 : decode (ch_bc m_x_account) 112 = .ok (.getfield 251, 3) := by decide +kernel
theorem d_x_account_115 : decode (ch_bc m_x_account) 115 = .ok (.ireturn, 1) := by decide +kernel
theorem d_x_account_116 : decode (ch_bc m_x_account) 116 = .ok (.aload_n 0, 1) := by decide +kernel
theorem d_x_account_117 : decode (ch_bc m_x_account) 117 = .ok (.getfield 10, 3) := by decide +kernel
theorem d_x_account_120 : decode (ch_bc m_x_account) 120 = .ok (.getfield 254, 3) := by decide +kernel
theorem d_x_account_123 : decode (ch_bc m_x_account) 123 = .ok (.ireturn, 1) := by decide +kernel
theorem d_x_account_124 : decode (ch_bc m_x_account) 124 = .ok (.aload_n 0, 1) := by decide +kernel
theorem d_x_account_125 : decode (ch_bc m_x_account) 125 = .ok (.getfield 10, 3) := by decide +kernel
theorem d_x_account_128 : decode (ch_bc m_x_account) 128 = .ok (.getfield 256, 3) := by decide +kernel
theorem d_x_account_131 : decode (ch_bc m_x_account) 131 = .ok (.ireturn, 1) := by decide +kernel
theorem d_x_account_132 : decode (ch_bc m_x_account) 132 = .ok (.aload_n 0, 1) := by decide +kernel
theorem d_x_account_133 : decode (ch_bc m_x_account) 133 = .ok (.getfield 10, 3) := by decide +kernel
theorem d_x_account_136 : decode (ch_bc m_x_account) 136 = .ok (.getfield 259, 3) := by decide +kernel
theorem d_x_account_139 : decode (ch_bc m_x_account) 139 = .ok (.ireturn, 1) := by decide +kernel
theorem d_x_account_140 : decode (ch_bc m_x_account) 140 = .ok (.aload_n 0, 1) := by decide +kernel
theorem d_x_account_141 : decode (ch_bc m_x_account) 141 = .ok (.getfield 10, 3) := by decide +kernel
theorem d_x_account_144 : decode (ch_bc m_x_account) 144 = .ok (.getfield 262, 3) := by decide +kernel
theorem d_x_account_147 : decode (ch_bc m_x_account) 147 = .ok (.ireturn, 1) := by decide +kernel
theorem d_x_account_148 : decode (ch_bc m_x_account) 148 = .ok (.aload_n 0, 1) := by decide +kernel
theorem d_x_account_149 : decode (ch_bc m_x_account) 149 = .ok (.getfield 28, 3) := by decide +kernel
theorem d_x_account_152 : decode (ch_bc m_x_account) 152 = .ok (.getfield 265, 3) := by decide +kernel
theorem d_x_account_155 : decode (ch_bc m_x_account) 155 = .ok (.ireturn, 1) := by decide +kernel
theorem d_x_account_156 : decode (ch_bc m_x_account) 156 = .ok (.aload_n 0, 1) := by decide +kernel
theorem d_x_account_157 : decode (ch_bc m_x_account) 157 = .ok (.getfield 49, 3) := by decide +kernel
theorem d_x_account_160 : decode (ch_bc m_x_account) 160 = .ok (.getfield 203, 3) := by decide +kernel
theorem d_x_account_163 : decode (ch_bc m_x_account) 163 = .ok (.ireturn, 1) := by decide +kernel
theorem d_x_account_164 : decode (ch_bc m_x_account) 164 = .ok (.new 131, 3) := by decide +kernel
theorem d_x_account_167 : decode (ch_bc m_x_account) 167 = .ok (.dup, 1) := by decide +kernel
theorem d_x_account_168 : decode (ch_bc m_x_account) 168 = .ok (.invokespecial 133, 3) := by decide +kernel
theorem d_x_account_171 : decode (ch_bc m_x_account) 171 = .ok (.athrow, 1) := by decide +kernel
theorem d_x_undo_0 : decode (ch_bc m_x_undo) 0 = .ok (.aload_n 0, 1) := by decide +kernel
theorem d_x_undo_1 : decode (ch_bc m_x_undo) 1 = .ok (.getfield 28, 3) := by decide +kernel
theorem d_x_undo_4 : decode (ch_bc m_x_undo) 4 = .ok (.getfield 265, 3) := by decide +kernel
theorem d_x_undo_7 : decode (ch_bc m_x_undo) 7 = .ok (.ifCond .ne 11, 3) := by decide +kernel
theorem d_x_undo_10 : decode (ch_bc m_x_undo) 10 = .ok (.new 206, 3) := by decide +kernel
theorem d_x_undo_13 : decode (ch_bc m_x_undo) 13 = .ok (.dup, 1) := by decide +kernel
theorem d_x_undo_14 : decode (ch_bc m_x_undo) 14 = .ok (.invokespecial 208, 3) := by decide +kernel
theorem d_x_undo_17 : decode (ch_bc m_x_undo) 17 = .ok (.athrow, 1) := by decide +kernel
theorem d_x_undo_18 : decode (ch_bc m_x_undo) 18 = .ok (.aload_n 0, 1) := by decide +kernel
theorem d_x_undo_19 : decode (ch_bc m_x_undo) 19 = .ok (.getfield 28, 3) := by decide +kernel
theorem d_x_undo_22 : decode (ch_bc m_x_undo) 22 = .ok (.aload_n 0, 1) := by decide +kernel
theorem d_x_undo_23 : decode (ch_bc m_x_undo) 23 = .ok (.getfield 10, 3) := by decide +kernel
theorem d_x_undo_26 : decode (ch_bc m_x_undo) 26 = .ok (.invokevirtual 266, 3) := by decide +kernel
theorem d_x_undo_29 : decode (ch_bc m_x_undo) 29 = .ok (.aload_n 0, 1) := by decide +kernel
theorem d_x_undo_30 : decode (ch_bc m_x_undo) 30 = .ok (.getfield 28, 3) := by decide +kernel
theorem d_x_undo_33 : decode (ch_bc m_x_undo) 33 = .ok (.getfield 265, 3) := by decide +kernel
theorem d_x_undo_36 : decode (ch_bc m_x_undo) 36 = .ok (.ireturn, 1) := by decide +kernel
theorem d_x_save_0 : decode (ch_bc m_x_save) 0 = .ok (.aload_n 0, 1) := by decide +kernel
theorem d_x_save_1 : decode (ch_bc m_x_save) 1 = .ok (.getfield 22, 3) := by decide +kernel
theorem d_x_save_4 : decode (ch_bc m_x_save) 4 = .ok (.aload_n 0, 1) := by decide +kernel
theorem d_x_save_5 : decode (ch_bc m_x_save) 5 = .ok (.getfield 10, 3) := by decide +kernel
theorem d_x_save_8 : decode (ch_bc m_x_save) 8 = .ok (.invokevirtual 174, 3) := by decide +kernel
theorem d_x_save_11 : decode (ch_bc m_x_save) 11 = .ok (.aload_n 0, 1) := by decide +kernel
theorem d_x_save_12 : decode (ch_bc m_x_save) 12 = .ok (.iconst 1, 1) := by decide +kernel
theorem d_x_save_13 : decode (ch_bc m_x_save) 13 = .ok (.putfield 269, 3) := by decide +kernel
theorem d_x_save_16 : decode (ch_bc m_x_save) 16 = .ok (.aload_n 0, 1) := by decide +kernel
theorem d_x_save_17 : decode (ch_bc m_x_save) 17 = .ok (.getfield 10, 3) := by decide +kernel
theorem d_x_save_20 : decode (ch_bc m_x_save) 20 = .ok (.getfield 184, 3) := by decide +kernel
theorem d_x_save_23 : decode (ch_bc m_x_save) 23 = .ok (.ireturn, 1) := by decide +kernel
theorem d_x_restore_0 : decode (ch_bc m_x_restore) 0 = .ok (.aload_n 0, 1) := by decide +kernel
theorem d_x_restore_1 : decode (ch_bc m_x_restore) 1 = .ok (.getfield 269, 3) := by decide +kernel
theorem d_x_restore_4 : decode (ch_bc m_x_restore) 4 = .ok (.ifCond .ne 11, 3) := by decide +kernel
theorem d_x_restore_7 : decode (ch_bc m_x_restore) 7 = .ok (.new 206, 3) := by decide +kernel
theorem d_x_restore_10 : decode (ch_bc m_x_restore) 10 = .ok (.dup, 1) := by decide +kernel
theorem d_x_restore_11 : decode (ch_bc m_x_restore) 11 = .ok (.invokespecial 208, 3) := by decide +kernel
theorem d_x_restore_14 : decode (ch_bc m_x_restore) 14 = .ok (.athrow, 1) := by decide +kernel
theorem d_x_restore_15 : decode (ch_bc m_x_restore) 15 = .ok (.aload_n 0, 1) := by decide +kernel
theorem d_x_restore_16 : decode (ch_bc m_x_restore) 16 = .ok (.getfield 10, 3) := by decide +kernel
theorem d_x_restore_19 : decode (ch_bc m_x_restore) 19 = .ok (.aload_n 0, 1) := by decide +kernel
theorem d_x_restore_20 : decode (ch_bc m_x_restore) 20 = .ok (.getfield 22, 3) := by decide +kernel
theorem d_x_restore_23 : decode (ch_bc m_x_restore) 23 = .ok (.invokevirtual 174, 3) := by decide +kernel
theorem d_x_restore_26 : decode (ch_bc m_x_restore) 26 = .ok (.aload_n 0, 1) := by decide +kernel
theorem d_x_restore_27 : decode (ch_bc m_x_restore) 27 = .ok (.getfield 28, 3) := by decide +kernel
theorem d_x_restore_30 : decode (ch_bc m_x_restore) 30 = .ok (.iconst 0, 1) := by decide +kernel
theorem d_x_restore_31 : decode (ch_bc m_x_restore) 31 = .ok (.putfield 265, 3) := by decide +kernel
theorem d_x_restore_34 : decode (ch_bc m_x_restore) 34 = .ok (.aload_n 0, 1) := by decide +kernel
theorem d_x_restore_35 : decode (ch_bc m_x_restore) 35 = .ok (.getfield 10, 3) := by decide +kernel
theorem d_x_restore_38 : decode (ch_bc m_x_restore) 38 = .ok (.getfield 184, 3) := by decide +kernel
theorem d_x_restore_41 : decode (ch_bc m_x_restore) 41 = .ok (.ireturn, 1) := by decide +kernel
theorem d_x_checkChild_0 : decode (ch_bc m_x_checkChild) 0 = .ok (.aload_n 0, 1) := by decide +kernel
theorem d_x_checkChild_1 : decode (ch_bc m_x_checkChild) 1 = .ok (.getfield 10, 3) := by decide +kernel
theorem d_x_checkChild_4 : decode (ch_bc m_x_checkChild) 4 = .ok (.iload_n 1, 1) := by decide +kernel
theorem d_x_checkChild_5 : decode (ch_bc m_x_checkChild) 5 = .ok (.invokevirtual 273, 3) := by decide +kernel
theorem d_x_checkChild_8 : decode (ch_bc m_x_checkChild) 8 = .ok (.ifCond .ne 11, 3) := by decide +kernel
theorem d_x_checkChild_11 : decode (ch_bc m_x_checkChild) 11 = .ok (.new 96, 3) := by decide +kernel
theorem d_x_checkChild_14 : decode (ch_bc m_x_checkChild) 14 = .ok (.dup, 1) := by decide +kernel
theorem d_x_checkChild_15 : decode (ch_bc m_x_checkChild) 15 = .ok (.invokespecial 98, 3) := by decide +kernel
theorem d_x_checkChild_18 : decode (ch_bc m_x_checkChild) 18 = .ok (.athrow, 1) := by decide +kernel
theorem d_x_checkChild_19 : decode (ch_bc m_x_checkChild) 19 = .ok (.return_, 1) := by decide +kernel
theorem d_x_change_0 : decode (ch_bc m_x_change) 0 = .ok (.aload_n 0, 1) := by decide +kernel
theorem d_x_change_1 : decode (ch_bc m_x_change) 1 = .ok (.getfield 35, 3) := by decide +kernel
theorem d_x_change_4 : decode (ch_bc m_x_change) 4 = .ok (.aload_n 0, 1) := by decide +kernel
theorem d_x_change_5 : decode (ch_bc m_x_change) 5 = .ok (.getfield 10, 3) := by decide +kernel
theorem d_x_change_8 : decode (ch_bc m_x_change) 8 = .ok (.aload_n 0, 1) := by decide +kernel
theorem d_x_change_9 : decode (ch_bc m_x_change) 9 = .ok (.getfield 42, 3) := by decide +kernel
theorem d_x_change_12 : decode (ch_bc m_x_change) 12 = .ok (.invokevirtual 277, 3) := by decide +kernel
theorem d_x_change_15 : decode (ch_bc m_x_change) 15 = .ok (.ifCond .eq 11, 3) := by decide +kernel
theorem d_x_change_18 : decode (ch_bc m_x_change) 18 = .ok (.new 220, 3) := by decide +kernel
theorem d_x_change_21 : decode (ch_bc m_x_change) 21 = .ok (.dup, 1) := by decide +kernel
theorem d_x_change_22 : decode (ch_bc m_x_change) 22 = .ok (.invokespecial 222, 3) := by decide +kernel
theorem d_x_change_25 : decode (ch_bc m_x_change) 25 = .ok (.athrow, 1) := by decide +kernel
theorem d_x_change_26 : decode (ch_bc m_x_change) 26 = .ok (.aload_n 0, 1) := by decide +kernel
theorem d_x_change_27 : decode (ch_bc m_x_change) 27 = .ok (.getfield 28, 3) := by decide +kernel
theorem d_x_change_30 : decode (ch_bc m_x_change) 30 = .ok (.aload_n 0, 1) := by decide +kernel
theorem d_x_change_31 : decode (ch_bc m_x_change) 31 = .ok (.getfield 10, 3) := by decide +kernel
theorem d_x_change_34 : decode (ch_bc m_x_change) 34 = .ok (.invokevirtual 223, 3) := by decide +kernel
theorem d_x_change_37 : decode (ch_bc m_x_change) 37 = .ok (.aload_n 0, 1) := by decide +kernel
theorem d_x_change_38 : decode (ch_bc m_x_change) 38 = .ok (.getfield 10, 3) := by decide +kernel
theorem d_x_change_41 : decode (ch_bc m_x_change) 41 = .ok (.aload_n 0, 1) := by decide +kernel
theorem d_x_change_42 : decode (ch_bc m_x_change) 42 = .ok (.getfield 42, 3) := by decide +kernel
theorem d_x_change_45 : decode (ch_bc m_x_change) 45 = .ok (.invokevirtual 281, 3) := by decide +kernel
theorem d_x_change_48 : decode (ch_bc m_x_change) 48 = .ok (.ireturn, 1) := by decide +kernel
theorem d_x_carryOutText_0 : decode (ch_bc m_x_carryOutText) 0 = .ok (.aload_n 0, 1) := by decide +kernel
theorem d_x_carryOutText_1 : decode (ch_bc m_x_carryOutText) 1 = .ok (.getfield 56, 3) := by decide +kernel
theorem d_x_carryOutText_4 : decode (ch_bc m_x_carryOutText) 4 = .ok (.iconst 0, 1) := by decide +kernel
theorem d_x_carryOutText_5 : decode (ch_bc m_x_carryOutText) 5 = .ok (.putfield 285, 3) := by decide +kernel
theorem d_x_carryOutText_8 : decode (ch_bc m_x_carryOutText) 8 = .ok (.iconst 0, 1) := by decide +kernel
theorem d_x_carryOutText_9 : decode (ch_bc m_x_carryOutText) 9 = .ok (.istore_n 1, 1) := by decide +kernel
theorem d_x_carryOutText_10 : decode (ch_bc m_x_carryOutText) 10 = .ok (.iload_n 1, 1) := by decide +kernel
theorem d_x_carryOutText_11 : decode (ch_bc m_x_carryOutText) 11 = .ok (.bipush 60, 2) := by decide +kernel
theorem d_x_carryOutText_13 : decode (ch_bc m_x_carryOutText) 13 = .ok (.if_icmp .ge 81, 3) := by decide +kernel
theorem d_x_carryOutText_16 : decode (ch_bc m_x_carryOutText) 16 = .ok (.aload_n 0, 1) := by decide +kernel
theorem d_x_carryOutText_17 : decode (ch_bc m_x_carryOutText) 17 = .ok (.getfield 56, 3) := by decide +kernel
theorem d_x_carryOutText_20 : decode (ch_bc m_x_carryOutText) 20 = .ok (.aload_n 0, 1) := by decide +kernel
theorem d_x_carryOutText_21 : decode (ch_bc m_x_carryOutText) 21 = .ok (.getfield 49, 3) := by decide +kernel
theorem d_x_carryOutText_24 : decode (ch_bc m_x_carryOutText) 24 = .ok (.aload_n 0, 1) := by decide +kernel
theorem d_x_carryOutText_25 : decode (ch_bc m_x_carryOutText) 25 = .ok (.getfield 42, 3) := by decide +kernel
theorem d_x_carryOutText_28 : decode (ch_bc m_x_carryOutText) 28 = .ok (.invokevirtual 288, 3) := by decide +kernel
theorem d_x_carryOutText_31 : decode (ch_bc m_x_carryOutText) 31 = .ok (.ifCond .eq 63, 3) := by decide +kernel
theorem d_x_carryOutText_34 : decode (ch_bc m_x_carryOutText) 34 = .ok (.aload_n 0, 1) := by decide +kernel
theorem d_x_carryOutText_35 : decode (ch_bc m_x_carryOutText) 35 = .ok (.getfield 35, 3) := by decide +kernel
theorem d_x_carryOutText_38 : decode (ch_bc m_x_carryOutText) 38 = .ok (.aload_n 0, 1) := by decide +kernel
theorem d_x_carryOutText_39 : decode (ch_bc m_x_carryOutText) 39 = .ok (.getfield 10, 3) := by decide +kernel
theorem d_x_carryOutText_42 : decode (ch_bc m_x_carryOutText) 42 = .ok (.aload_n 0, 1) := by decide +kernel
theorem d_x_carryOutText_43 : decode (ch_bc m_x_carryOutText) 43 = .ok (.getfield 42, 3) := by decide +kernel
theorem d_x_carryOutText_46 : decode (ch_bc m_x_carryOutText) 46 = .ok (.invokevirtual 277, 3) := by decide +kernel
theorem d_x_carryOutText_49 : decode (ch_bc m_x_carryOutText) 49 = .ok (.ifCond .eq 13, 3) := by decide +kernel
theorem d_x_carryOutText_52 : decode (ch_bc m_x_carryOutText) 52 = .ok (.aload_n 0, 1) := by decide +kernel
theorem d_x_carryOutText_53 : decode (ch_bc m_x_carryOutText) 53 = .ok (.getfield 35, 3) := by decide +kernel
theorem d_x_carryOutText_56 : decode (ch_bc m_x_carryOutText) 56 = .ok (.iload_n 1, 1) := by decide +kernel
theorem d_x_carryOutText_57 : decode (ch_bc m_x_carryOutText) 57 = .ok (.putfield 232, 3) := by decide +kernel
theorem d_x_carryOutText_60 : decode (ch_bc m_x_carryOutText) 60 = .ok (.iconst 0, 1) := by decide +kernel
theorem d_x_carryOutText_61 : decode (ch_bc m_x_carryOutText) 61 = .ok (.ireturn, 1) := by decide +kernel
theorem d_x_carryOutText_62 : decode (ch_bc m_x_carryOutText) 62 = .ok (.aload_n 0, 1) := by decide +kernel
theorem d_x_carryOutText_63 : decode (ch_bc m_x_carryOutText) 63 = .ok (.getfield 10, 3) := by decide +kernel
theorem d_x_carryOutText_66 : decode (ch_bc m_x_carryOutText) 66 = .ok (.aload_n 0, 1) := by decide +kernel
theorem d_x_carryOutText_67 : decode (ch_bc m_x_carryOutText) 67 = .ok (.getfield 42, 3) := by decide +kernel
theorem d_x_carryOutText_70 : decode (ch_bc m_x_carryOutText) 70 = .ok (.invokevirtual 281, 3) := by decide +kernel
theorem d_x_carryOutText_73 : decode (ch_bc m_x_carryOutText) 73 = .ok (.pop, 1) := by decide +kernel
theorem d_x_carryOutText_74 : decode (ch_bc m_x_carryOutText) 74 = .ok (.aload_n 0, 1) := by decide +kernel
theorem d_x_carryOutText_75 : decode (ch_bc m_x_carryOutText) 75 = .ok (.getfield 56, 3) := by decide +kernel
theorem d_x_carryOutText_78 : decode (ch_bc m_x_carryOutText) 78 = .ok (.aload_n 0, 1) := by decide +kernel
theorem d_x_carryOutText_79 : decode (ch_bc m_x_carryOutText) 79 = .ok (.getfield 49, 3) := by decide +kernel
theorem d_x_carryOutText_82 : decode (ch_bc m_x_carryOutText) 82 = .ok (.bipush 59, 2) := by decide +kernel
theorem d_x_carryOutText_84 : decode (ch_bc m_x_carryOutText) 84 = .ok (.invokevirtual 292, 3) := by decide +kernel
theorem d_x_carryOutText_87 : decode (ch_bc m_x_carryOutText) 87 = .ok (.pop, 1) := by decide +kernel
theorem d_x_carryOutText_88 : decode (ch_bc m_x_carryOutText) 88 = .ok (.iinc 1 1, 3) := by decide +kernel
theorem d_x_carryOutText_91 : decode (ch_bc m_x_carryOutText) 91 = .ok (.goto (-81), 3) := by decide +kernel
theorem d_x_carryOutText_94 : decode (ch_bc m_x_carryOutText) 94 = .ok (.iload_n 1, 1) := by decide +kernel
theorem d_x_carryOutText_95 : decode (ch_bc m_x_carryOutText) 95 = .ok (.ireturn, 1) := by decide +kernel
theorem d_x_putBlankBetween_0 : decode (ch_bc m_x_putBlankBetween) 0 = .ok (.aload_n 0, 1) := by decide +kernel
theorem d_x_putBlankBetween_1 : decode (ch_bc m_x_putBlankBetween) 1 = .ok (.getfield 60, 3) := by decide +kernel
theorem d_x_putBlankBetween_4 : decode (ch_bc m_x_putBlankBetween) 4 = .ok (.getfield 203, 3) := by decide +kernel
theorem d_x_putBlankBetween_7 : decode (ch_bc m_x_putBlankBetween) 7 = .ok (.ifCond .le 12, 3) := by decide +kernel
theorem d_x_putBlankBetween_10 : decode (ch_bc m_x_putBlankBetween) 10 = .ok (.aload_n 0, 1) := by decide +kernel
theorem d_x_putBlankBetween_11 : decode (ch_bc m_x_putBlankBetween) 11 = .ok (.getfield 60, 3) := by decide +kernel
theorem d_x_putBlankBetween_14 : decode (ch_bc m_x_putBlankBetween) 14 = .ok (.bipush 32, 2) := by decide +kernel
theorem d_x_putBlankBetween_16 : decode (ch_bc m_x_putBlankBetween) 16 = .ok (.invokevirtual 209, 3) := by decide +kernel
theorem d_x_putBlankBetween_19 : decode (ch_bc m_x_putBlankBetween) 19 = .ok (.return_, 1) := by decide +kernel
theorem d_x_putPair_0 : decode (ch_bc m_x_putPair) 0 = .ok (.aload_n 0, 1) := by decide +kernel
theorem d_x_putPair_1 : decode (ch_bc m_x_putPair) 1 = .ok (.getfield 60, 3) := by decide +kernel
theorem d_x_putPair_4 : decode (ch_bc m_x_putPair) 4 = .ok (.bipush 48, 2) := by decide +kernel
theorem d_x_putPair_6 : decode (ch_bc m_x_putPair) 6 = .ok (.iload_n 1, 1) := by decide +kernel
theorem d_x_putPair_7 : decode (ch_bc m_x_putPair) 7 = .ok (.iadd, 1) := by decide +kernel
theorem d_x_putPair_8 : decode (ch_bc m_x_putPair) 8 = .ok (.i2c, 1) := by decide +kernel
theorem d_x_putPair_9 : decode (ch_bc m_x_putPair) 9 = .ok (.invokevirtual 209, 3) := by decide +kernel
theorem d_x_putPair_12 : decode (ch_bc m_x_putPair) 12 = .ok (.aload_n 0, 1) := by decide +kernel
theorem d_x_putPair_13 : decode (ch_bc m_x_putPair) 13 = .ok (.getfield 60, 3) := by decide +kernel
theorem d_x_putPair_16 : decode (ch_bc m_x_putPair) 16 = .ok (.iload_n 2, 1) := by decide +kernel
theorem d_x_putPair_17 : decode (ch_bc m_x_putPair) 17 = .ok (.invokevirtual 209, 3) := by decide +kernel
theorem d_x_putPair_20 : decode (ch_bc m_x_putPair) 20 = .ok (.aload_n 0, 1) := by decide +kernel
theorem d_x_putPair_21 : decode (ch_bc m_x_putPair) 21 = .ok (.getfield 60, 3) := by decide +kernel
theorem d_x_putPair_24 : decode (ch_bc m_x_putPair) 24 = .ok (.bipush 48, 2) := by decide +kernel
theorem d_x_putPair_26 : decode (ch_bc m_x_putPair) 26 = .ok (.iload_n 3, 1) := by decide +kernel
theorem d_x_putPair_27 : decode (ch_bc m_x_putPair) 27 = .ok (.iadd, 1) := by decide +kernel
theorem d_x_putPair_28 : decode (ch_bc m_x_putPair) 28 = .ok (.i2c, 1) := by decide +kernel
theorem d_x_putPair_29 : decode (ch_bc m_x_putPair) 29 = .ok (.invokevirtual 209, 3) := by decide +kernel
theorem d_x_putPair_32 : decode (ch_bc m_x_putPair) 32 = .ok (.return_, 1) := by decide +kernel
end
section
theorem d_y_copyFrom_0 : decode (ch_bc m_y_copyFrom) 0 = .ok (.aload_n 1, 1) := by decide +kernel
theorem d_y_copyFrom_1 : decode (ch_bc m_y_copyFrom) 1 = .ok (.getfield 9, 3) := by decide +kernel
theorem d_y_copyFrom_4 : decode (ch_bc m_y_copyFrom) 4 = .ok (.iconst 0, 1) := by decide +kernel
theorem d_y_copyFrom_5 : decode (ch_bc m_y_copyFrom) 5 = .ok (.aload_n 0, 1) := by decide +kernel
theorem d_y_copyFrom_6 : decode (ch_bc m_y_copyFrom) 6 = .ok (.getfield 9, 3) := by decide +kernel
theorem d_y_copyFrom_9 : decode (ch_bc m_y_copyFrom) 9 = .ok (.iconst 0, 1) := by decide +kernel
theorem d_y_copyFrom_10 : decode (ch_bc m_y_copyFrom) 10 = .ok (.bipush 12, 2) := by decide +kernel
theorem d_y_copyFrom_12 : decode (ch_bc m_y_copyFrom) 12 = .ok (.invokestatic 36, 3) := by decide +kernel
theorem d_y_copyFrom_15 : decode (ch_bc m_y_copyFrom) 15 = .ok (.aload_n 1, 1) := by decide +kernel
theorem d_y_copyFrom_16 : decode (ch_bc m_y_copyFrom) 16 = .ok (.getfield 15, 3) := by decide +kernel
theorem d_y_copyFrom_19 : decode (ch_bc m_y_copyFrom) 19 = .ok (.iconst 0, 1) := by decide +kernel
theorem d_y_copyFrom_20 : decode (ch_bc m_y_copyFrom) 20 = .ok (.aload_n 0, 1) := by decide +kernel
theorem d_y_copyFrom_21 : decode (ch_bc m_y_copyFrom) 21 = .ok (.getfield 15, 3) := by decide +kernel
theorem d_y_copyFrom_24 : decode (ch_bc m_y_copyFrom) 24 = .ok (.iconst 0, 1) := by decide +kernel
theorem d_y_copyFrom_25 : decode (ch_bc m_y_copyFrom) 25 = .ok (.bipush 12, 2) := by decide +kernel
theorem d_y_copyFrom_27 : decode (ch_bc m_y_copyFrom) 27 = .ok (.invokestatic 36, 3) := by decide +kernel
theorem d_y_copyFrom_30 : decode (ch_bc m_y_copyFrom) 30 = .ok (.aload_n 1, 1) := by decide +kernel
theorem d_y_copyFrom_31 : decode (ch_bc m_y_copyFrom) 31 = .ok (.getfield 18, 3) := by decide +kernel
theorem d_y_copyFrom_34 : decode (ch_bc m_y_copyFrom) 34 = .ok (.iconst 0, 1) := by decide +kernel
theorem d_y_copyFrom_35 : decode (ch_bc m_y_copyFrom) 35 = .ok (.aload_n 0, 1) := by decide +kernel
theorem d_y_copyFrom_36 : decode (ch_bc m_y_copyFrom) 36 = .ok (.getfield 18, 3) := by decide +kernel
theorem d_y_copyFrom_39 : decode (ch_bc m_y_copyFrom) 39 = .ok (.iconst 0, 1) := by decide +kernel
theorem d_y_copyFrom_40 : decode (ch_bc m_y_copyFrom) 40 = .ok (.iconst 5, 1) := by decide +kernel
theorem d_y_copyFrom_41 : decode (ch_bc m_y_copyFrom) 41 = .ok (.invokestatic 36, 3) := by decide +kernel
theorem d_y_copyFrom_44 : decode (ch_bc m_y_copyFrom) 44 = .ok (.aload_n 1, 1) := by decide +kernel
theorem d_y_copyFrom_45 : decode (ch_bc m_y_copyFrom) 45 = .ok (.getfield 21, 3) := by decide +kernel
theorem d_y_copyFrom_48 : decode (ch_bc m_y_copyFrom) 48 = .ok (.iconst 0, 1) := by decide +kernel
theorem d_y_copyFrom_49 : decode (ch_bc m_y_copyFrom) 49 = .ok (.aload_n 0, 1) := by decide +kernel
theorem d_y_copyFrom_50 : decode (ch_bc m_y_copyFrom) 50 = .ok (.getfield 21, 3) := by decide +kernel
theorem d_y_copyFrom_53 : decode (ch_bc m_y_copyFrom) 53 = .ok (.iconst 0, 1) := by decide +kernel
theorem d_y_copyFrom_54 : decode (ch_bc m_y_copyFrom) 54 = .ok (.iconst 5, 1) := by decide +kernel
theorem d_y_copyFrom_55 : decode (ch_bc m_y_copyFrom) 55 = .ok (.invokestatic 36, 3) := by decide +kernel
theorem d_y_copyFrom_58 : decode (ch_bc m_y_copyFrom) 58 = .ok (.aload_n 1, 1) := by decide +kernel
theorem d_y_copyFrom_59 : decode (ch_bc m_y_copyFrom) 59 = .ok (.getfield 24, 3) := by decide +kernel
theorem d_y_copyFrom_62 : decode (ch_bc m_y_copyFrom) 62 = .ok (.iconst 0, 1) := by decide +kernel
theorem d_y_copyFrom_63 : decode (ch_bc m_y_copyFrom) 63 = .ok (.aload_n 0, 1) := by decide +kernel
theorem d_y_copyFrom_64 : decode (ch_bc m_y_copyFrom) 64 = .ok (.getfield 24, 3) := by decide +kernel
theorem d_y_copyFrom_67 : decode (ch_bc m_y_copyFrom) 67 = .ok (.iconst 0, 1) := by decide +kernel
theorem d_y_copyFrom_68 : decode (ch_bc m_y_copyFrom) 68 = .ok (.iconst 5, 1) := by decide +kernel
theorem d_y_copyFrom_69 : decode (ch_bc m_y_copyFrom) 69 = .ok (.invokestatic 36, 3) := by decide +kernel
theorem d_y_copyFrom_72 : decode (ch_bc m_y_copyFrom) 72 = .ok (.aload_n 1, 1) := by decide +kernel
theorem d_y_copyFrom_73 : decode (ch_bc m_y_copyFrom) 73 = .ok (.getfield 27, 3) := by decide +kernel
theorem d_y_copyFrom_76 : decode (ch_bc m_y_copyFrom) 76 = .ok (.iconst 0, 1) := by decide +kernel
theorem d_y_copyFrom_77 : decode (ch_bc m_y_copyFrom) 77 = .ok (.aload_n 0, 1) := by decide +kernel
theorem d_y_copyFrom_78 : decode (ch_bc m_y_copyFrom) 78 = .ok (.getfield 27, 3) := by decide +kernel
theorem d_y_copyFrom_81 : decode (ch_bc m_y_copyFrom) 81 = .ok (.iconst 0, 1) := by decide +kernel
theorem d_y_copyFrom_82 : decode (ch_bc m_y_copyFrom) 82 = .ok (.iconst 5, 1) := by decide +kernel
theorem d_y_copyFrom_83 : decode (ch_bc m_y_copyFrom) 83 = .ok (.invokestatic 36, 3) := by decide +kernel
theorem d_y_copyFrom_86 : decode (ch_bc m_y_copyFrom) 86 = .ok (.aload_n 1, 1) := by decide +kernel
theorem d_y_copyFrom_87 : decode (ch_bc m_y_copyFrom) 87 = .ok (.getfield 30, 3) := by decide +kernel
theorem d_y_copyFrom_90 : decode (ch_bc m_y_copyFrom) 90 = .ok (.iconst 0, 1) := by decide +kernel
theorem d_y_copyFrom_91 : decode (ch_bc m_y_copyFrom) 91 = .ok (.aload_n 0, 1) := by decide +kernel
theorem d_y_copyFrom_92 : decode (ch_bc m_y_copyFrom) 92 = .ok (.getfield 30, 3) := by decide +kernel
theorem d_y_copyFrom_95 : decode (ch_bc m_y_copyFrom) 95 = .ok (.iconst 0, 1) := by decide +kernel
theorem d_y_copyFrom_96 : decode (ch_bc m_y_copyFrom) 96 = .ok (.iconst 5, 1) := by decide +kernel
theorem d_y_copyFrom_97 : decode (ch_bc m_y_copyFrom) 97 = .ok (.invokestatic 36, 3) := by decide +kernel
theorem d_y_copyFrom_100 : decode (ch_bc m_y_copyFrom) 100 = .ok (.aload_n 1, 1) := by decide +kernel
theorem d_y_copyFrom_101 : decode (ch_bc m_y_copyFrom) 101 = .ok (.getfield 33, 3) := by decide +kernel
theorem d_y_copyFrom_104 : decode (ch_bc m_y_copyFrom) 104 = .ok (.iconst 0, 1) := by decide +kernel
theorem d_y_copyFrom_105 : decode (ch_bc m_y_copyFrom) 105 = .ok (.aload_n 0, 1) := by decide +kernel
theorem d_y_copyFrom_106 : decode (ch_bc m_y_copyFrom) 106 = .ok (.getfield 33, 3) := by decide +kernel
theorem d_y_copyFrom_109 : decode (ch_bc m_y_copyFrom) 109 = .ok (.iconst 0, 1) := by decide +kernel
theorem d_y_copyFrom_110 : decode (ch_bc m_y_copyFrom) 110 = .ok (.iconst 5, 1) := by decide +kernel
theorem d_y_copyFrom_111 : decode (ch_bc m_y_copyFrom) 111 = .ok (.invokestatic 36, 3) := by decide +kernel
theorem d_y_copyFrom_114 : decode (ch_bc m_y_copyFrom) 114 = .ok (.aload_n 0, 1) := by decide +kernel
theorem d_y_copyFrom_115 : decode (ch_bc m_y_copyFrom) 115 = .ok (.aload_n 1, 1) := by decide +kernel
theorem d_y_copyFrom_116 : decode (ch_bc m_y_copyFrom) 116 = .ok (.getfield 42, 3) := by decide +kernel
theorem d_y_copyFrom_119 : decode (ch_bc m_y_copyFrom) 119 = .ok (.putfield 42, 3) := by decide +kernel
theorem d_y_copyFrom_122 : decode (ch_bc m_y_copyFrom) 122 = .ok (.aload_n 0, 1) := by decide +kernel
theorem d_y_copyFrom_123 : decode (ch_bc m_y_copyFrom) 123 = .ok (.aload_n 1, 1) := by decide +kernel
theorem d_y_copyFrom_124 : decode (ch_bc m_y_copyFrom) 124 = .ok (.getfield 46, 3) := by decide +kernel
theorem d_y_copyFrom_127 : decode (ch_bc m_y_copyFrom) 127 = .ok (.putfield 46, 3) := by decide +kernel
theorem d_y_copyFrom_130 : decode (ch_bc m_y_copyFrom) 130 = .ok (.aload_n 0, 1) := by decide +kernel
theorem d_y_copyFrom_131 : decode (ch_bc m_y_copyFrom) 131 = .ok (.aload_n 1, 1) := by decide +kernel
theorem d_y_copyFrom_132 : decode (ch_bc m_y_copyFrom) 132 = .ok (.getfield 49, 3) := by decide +kernel
theorem d_y_copyFrom_135 : decode (ch_bc m_y_copyFrom) 135 = .ok (.putfield 49, 3) := by decide +kernel
theorem d_y_copyFrom_138 : decode (ch_bc m_y_copyFrom) 138 = .ok (.aload_n 0, 1) := by decide +kernel
theorem d_y_copyFrom_139 : decode (ch_bc m_y_copyFrom) 139 = .ok (.aload_n 1, 1) := by decide +kernel
theorem d_y_copyFrom_140 : decode (ch_bc m_y_copyFrom) 140 = .ok (.getfield 52, 3) := by decide +kernel
theorem d_y_copyFrom_143 : decode (ch_bc m_y_copyFrom) 143 = .ok (.putfield 52, 3) := by decide +kernel
theorem d_y_copyFrom_146 : decode (ch_bc m_y_copyFrom) 146 = .ok (.aload_n 0, 1) := by decide +kernel
theorem d_y_copyFrom_147 : decode (ch_bc m_y_copyFrom) 147 = .ok (.aload_n 1, 1) := by decide +kernel
theorem d_y_copyFrom_148 : decode (ch_bc m_y_copyFrom) 148 = .ok (.getfield 55, 3) := by decide +kernel
theorem d_y_copyFrom_151 : decode (ch_bc m_y_copyFrom) 151 = .ok (.putfield 55, 3) := by decide +kernel
theorem d_y_copyFrom_154 : decode (ch_bc m_y_copyFrom) 154 = .ok (.aload_n 0, 1) := by decide +kernel
theorem d_y_copyFrom_155 : decode (ch_bc m_y_copyFrom) 155 = .ok (.aload_n 1, 1) := by decide +kernel
theorem d_y_copyFrom_156 : decode (ch_bc m_y_copyFrom) 156 = .ok (.getfield 58, 3) := by decide +kernel
theorem d_y_copyFrom_159 : decode (ch_bc m_y_copyFrom) 159 = .ok (.putfield 58, 3) := by decide +kernel
theorem d_y_copyFrom_162 : decode (ch_bc m_y_copyFrom) 162 = .ok (.aload_n 0, 1) := by decide +kernel
theorem d_y_copyFrom_163 : decode (ch_bc m_y_copyFrom) 163 = .ok (.aload_n 1, 1) := by decide +kernel
theorem d_y_copyFrom_164 : decode (ch_bc m_y_copyFrom) 164 = .ok (.getfield 61, 3) := by decide +kernel
theorem d_y_copyFrom_167 : decode (ch_bc m_y_copyFrom) 167 = .ok (.putfield 61, 3) := by decide +kernel
theorem d_y_copyFrom_170 : decode (ch_bc m_y_copyFrom) 170 = .ok (.aload_n 0, 1) := by decide +kernel
theorem d_y_copyFrom_171 : decode (ch_bc m_y_copyFrom) 171 = .ok (.aload_n 1, 1) := by decide +kernel
theorem d_y_copyFrom_172 : decode (ch_bc m_y_copyFrom) 172 = .ok (.getfield 64, 3) := by decide +kernel
theorem d_y_copyFrom_175 : decode (ch_bc m_y_copyFrom) 175 = .ok (.putfield 64, 3) := by decide +kernel
theorem d_y_copyFrom_178 : decode (ch_bc m_y_copyFrom) 178 = .ok (.aload_n 0, 1) := by decide +kernel
theorem d_y_copyFrom_179 : decode (ch_bc m_y_copyFrom) 179 = .ok (.aload_n 1, 1) := by decide +kernel
theorem d_y_copyFrom_180 : decode (ch_bc m_y_copyFrom) 180 = .ok (.getfield 67, 3) := by decide +kernel
theorem d_y_copyFrom_183 : decode (ch_bc m_y_copyFrom) 183 = .ok (.putfield 67, 3) := by decide +kernel
theorem d_y_copyFrom_186 : decode (ch_bc m_y_copyFrom) 186 = .ok (.return_, 1) := by decide +kernel
theorem d_y_carryOut_0 : decode (ch_bc m_y_carryOut) 0 = .ok (.aload_n 1, 1) := by decide +kernel
theorem d_y_carryOut_1 : decode (ch_bc m_y_carryOut) 1 = .ok (.getfield 70, 3) := by decide +kernel
theorem d_y_carryOut_4 : decode (ch_bc m_y_carryOut) 4 = .ok (.tableswitch 167 99 119 #[109, 167, 167, 167, 167, 122, 167, 167, 167, 167, 167, 100, 167, 167, 167, 153, 144, 162, 167, 167, 135], 100) := by decide +kernel
theorem d_y_carryOut_104 : decode (ch_bc m_y_carryOut) 104 = .ok (.aload_n 0, 1) := by decide +kernel
theorem d_y_carryOut_105 : decode (ch_bc m_y_carryOut) 105 = .ok (.aload_n 1, 1) := by decide +kernel
theorem d_y_carryOut_106 : decode (ch_bc m_y_carryOut) 106 = .ok (.getfield 75, 3) := by decide +kernel
theorem d_y_carryOut_109 : decode (ch_bc m_y_carryOut) 109 = .ok (.invokevirtual 78, 3) := by decide +kernel
theorem d_y_carryOut_112 : decode (ch_bc m_y_carryOut) 112 = .ok (.ireturn, 1) := by decide +kernel
theorem d_y_carryOut_113 : decode (ch_bc m_y_carryOut) 113 = .ok (.aload_n 0, 1) := by decide +kernel
theorem d_y_carryOut_114 : decode (ch_bc m_y_carryOut) 114 = .ok (.aload_n 1, 1) := by decide +kernel
theorem d_y_carryOut_115 : decode (ch_bc m_y_carryOut) 115 = .ok (.getfield 82, 3) := by decide +kernel
theorem d_y_carryOut_118 : decode (ch_bc m_y_carryOut) 118 = .ok (.aload_n 1, 1) := by decide +kernel
theorem d_y_carryOut_119 : decode (ch_bc m_y_carryOut) 119 = .ok (.getfield 75, 3) := by decide +kernel
theorem d_y_carryOut_122 : decode (ch_bc m_y_carryOut) 122 = .ok (.invokevirtual 85, 3) := by decide +kernel
theorem d_y_carryOut_125 : decode (ch_bc m_y_carryOut) 125 = .ok (.ireturn, 1) := by decide +kernel
theorem d_y_carryOut_126 : decode (ch_bc m_y_carryOut) 126 = .ok (.aload_n 0, 1) := by decide +kernel
theorem d_y_carryOut_127 : decode (ch_bc m_y_carryOut) 127 = .ok (.aload_n 1, 1) := by decide +kernel
theorem d_y_carryOut_128 : decode (ch_bc m_y_carryOut) 128 = .ok (.getfield 82, 3) := by decide +kernel
theorem d_y_carryOut_131 : decode (ch_bc m_y_carryOut) 131 = .ok (.aload_n 1, 1) := by decide +kernel
theorem d_y_carryOut_132 : decode (ch_bc m_y_carryOut) 132 = .ok (.getfield 89, 3) := by decide +kernel
theorem d_y_carryOut_135 : decode (ch_bc m_y_carryOut) 135 = .ok (.invokevirtual 93, 3) := by decide +kernel
theorem d_y_carryOut_138 : decode (ch_bc m_y_carryOut) 138 = .ok (.ireturn, 1) := by decide +kernel
theorem d_y_carryOut_139 : decode (ch_bc m_y_carryOut) 139 = .ok (.aload_n 0, 1) := by decide +kernel
theorem d_y_carryOut_140 : decode (ch_bc m_y_carryOut) 140 = .ok (.aload_n 1, 1) := by decide +kernel
theorem d_y_carryOut_141 : decode (ch_bc m_y_carryOut) 141 = .ok (.getfield 82, 3) := by decide +kernel
theorem d_y_carryOut_144 : decode (ch_bc m_y_carryOut) 144 = .ok (.invokevirtual 97, 3) := by decide +kernel
theorem d_y_carryOut_147 : decode (ch_bc m_y_carryOut) 147 = .ok (.ireturn, 1) := by decide +kernel
theorem d_y_carryOut_148 : decode (ch_bc m_y_carryOut) 148 = .ok (.aload_n 0, 1) := by decide +kernel
theorem d_y_carryOut_149 : decode (ch_bc m_y_carryOut) 149 = .ok (.aload_n 1, 1) := by decide +kernel
theorem d_y_carryOut_150 : decode (ch_bc m_y_carryOut) 150 = .ok (.getfield 82, 3) := by decide +kernel
theorem d_y_carryOut_153 : decode (ch_bc m_y_carryOut) 153 = .ok (.invokevirtual 100, 3) := by decide +kernel
theorem d_y_carryOut_156 : decode (ch_bc m_y_carryOut) 156 = .ok (.ireturn, 1) := by decide +kernel
theorem d_y_carryOut_157 : decode (ch_bc m_y_carryOut) 157 = .ok (.aload_n 0, 1) := by decide +kernel
theorem d_y_carryOut_158 : decode (ch_bc m_y_carryOut) 158 = .ok (.aload_n 1, 1) := by decide +kernel
theorem d_y_carryOut_159 : decode (ch_bc m_y_carryOut) 159 = .ok (.getfield 75, 3) := by decide +kernel
theorem d_y_carryOut_162 : decode (ch_bc m_y_carryOut) 162 = .ok (.invokevirtual 103, 3) := by decide +kernel
theorem d_y_carryOut_165 : decode (ch_bc m_y_carryOut) 165 = .ok (.ireturn, 1) := by decide +kernel
theorem d_y_carryOut_166 : decode (ch_bc m_y_carryOut) 166 = .ok (.aload_n 0, 1) := by decide +kernel
theorem d_y_carryOut_167 : decode (ch_bc m_y_carryOut) 167 = .ok (.invokevirtual 106, 3) := by decide +kernel
theorem d_y_carryOut_170 : decode (ch_bc m_y_carryOut) 170 = .ok (.ireturn, 1) := by decide +kernel
theorem d_y_carryOut_171 : decode (ch_bc m_y_carryOut) 171 = .ok (.aload_n 0, 1) := by decide +kernel
theorem d_y_carryOut_172 : decode (ch_bc m_y_carryOut) 172 = .ok (.aload_n 1, 1) := by decide +kernel
theorem d_y_carryOut_173 : decode (ch_bc m_y_carryOut) 173 = .ok (.getfield 82, 3) := by decide +kernel
theorem d_y_carryOut_176 : decode (ch_bc m_y_carryOut) 176 = .ok (.aload_n 1, 1) := by decide +kernel
theorem d_y_carryOut_177 : decode (ch_bc m_y_carryOut) 177 = .ok (.getfield 110, 3) := by decide +kernel
theorem d_y_carryOut_180 : decode (ch_bc m_y_carryOut) 180 = .ok (.aload_n 1, 1) := by decide +kernel
theorem d_y_carryOut_181 : decode (ch_bc m_y_carryOut) 181 = .ok (.getfield 75, 3) := by decide +kernel
theorem d_y_carryOut_184 : decode (ch_bc m_y_carryOut) 184 = .ok (.invokevirtual 113, 3) := by decide +kernel
theorem d_y_carryOut_187 : decode (ch_bc m_y_carryOut) 187 = .ok (.ireturn, 1) := by decide +kernel
theorem d_y_bring_0 : decode (ch_bc m_y_bring) 0 = .ok (.aload_n 0, 1) := by decide +kernel
theorem d_y_bring_1 : decode (ch_bc m_y_bring) 1 = .ok (.getfield 18, 3) := by decide +kernel
theorem d_y_bring_4 : decode (ch_bc m_y_bring) 4 = .ok (.aload_n 0, 1) := by decide +kernel
theorem d_y_bring_5 : decode (ch_bc m_y_bring) 5 = .ok (.getfield 42, 3) := by decide +kernel
theorem d_y_bring_8 : decode (ch_bc m_y_bring) 8 = .ok (.iload_n 1, 1) := by decide +kernel
theorem d_y_bring_9 : decode (ch_bc m_y_bring) 9 = .ok (.iastore, 1) := by decide +kernel
theorem d_y_bring_10 : decode (ch_bc m_y_bring) 10 = .ok (.aload_n 0, 1) := by decide +kernel
theorem d_y_bring_11 : decode (ch_bc m_y_bring) 11 = .ok (.dup, 1) := by decide +kernel
theorem d_y_bring_12 : decode (ch_bc m_y_bring) 12 = .ok (.getfield 52, 3) := by decide +kernel
theorem d_y_bring_15 : decode (ch_bc m_y_bring) 15 = .ok (.iload_n 1, 1) := by decide +kernel
theorem d_y_bring_16 : decode (ch_bc m_y_bring) 16 = .ok (.iadd, 1) := by decide +kernel
theorem d_y_bring_17 : decode (ch_bc m_y_bring) 17 = .ok (.putfield 52, 3) := by decide +kernel
theorem d_y_bring_20 : decode (ch_bc m_y_bring) 20 = .ok (.aload_n 0, 1) := by decide +kernel
theorem d_y_bring_21 : decode (ch_bc m_y_bring) 21 = .ok (.dup, 1) := by decide +kernel
theorem d_y_bring_22 : decode (ch_bc m_y_bring) 22 = .ok (.getfield 42, 3) := by decide +kernel
theorem d_y_bring_25 : decode (ch_bc m_y_bring) 25 = .ok (.iconst 1, 1) := by decide +kernel
theorem d_y_bring_26 : decode (ch_bc m_y_bring) 26 = .ok (.iadd, 1) := by decide +kernel
theorem d_y_bring_27 : decode (ch_bc m_y_bring) 27 = .ok (.putfield 42, 3) := by decide +kernel
theorem d_y_bring_30 : decode (ch_bc m_y_bring) 30 = .ok (.aload_n 0, 1) := by decide +kernel
theorem d_y_bring_31 : decode (ch_bc m_y_bring) 31 = .ok (.getfield 42, 3) := by decide +kernel
theorem d_y_bring_34 : decode (ch_bc m_y_bring) 34 = .ok (.iconst 1, 1) := by decide +kernel
theorem d_y_bring_35 : decode (ch_bc m_y_bring) 35 = .ok (.isub, 1) := by decide +kernel
theorem d_y_bring_36 : decode (ch_bc m_y_bring) 36 = .ok (.ireturn, 1) := by decide +kernel
theorem d_y_chalkOn_0 : decode (ch_bc m_y_chalkOn) 0 = .ok (.aload_n 0, 1) := by decide +kernel
theorem d_y_chalkOn_1 : decode (ch_bc m_y_chalkOn) 1 = .ok (.getfield 18, 3) := by decide +kernel
theorem d_y_chalkOn_4 : decode (ch_bc m_y_chalkOn) 4 = .ok (.iload_n 1, 1) := by decide +kernel
theorem d_y_chalkOn_5 : decode (ch_bc m_y_chalkOn) 5 = .ok (.dup2, 1) := by decide +kernel
theorem d_y_chalkOn_6 : decode (ch_bc m_y_chalkOn) 6 = .ok (.iaload, 1) := by decide +kernel
theorem d_y_chalkOn_7 : decode (ch_bc m_y_chalkOn) 7 = .ok (.iconst 1, 1) := by decide +kernel
theorem d_y_chalkOn_8 : decode (ch_bc m_y_chalkOn) 8 = .ok (.isub, 1) := by decide +kernel
theorem d_y_chalkOn_9 : decode (ch_bc m_y_chalkOn) 9 = .ok (.iastore, 1) := by decide +kernel
theorem d_y_chalkOn_10 : decode (ch_bc m_y_chalkOn) 10 = .ok (.aload_n 0, 1) := by decide +kernel
theorem d_y_chalkOn_11 : decode (ch_bc m_y_chalkOn) 11 = .ok (.dup, 1) := by decide +kernel
theorem d_y_chalkOn_12 : decode (ch_bc m_y_chalkOn) 12 = .ok (.getfield 49, 3) := by decide +kernel
theorem d_y_chalkOn_15 : decode (ch_bc m_y_chalkOn) 15 = .ok (.iconst 1, 1) := by decide +kernel
theorem d_y_chalkOn_16 : decode (ch_bc m_y_chalkOn) 16 = .ok (.iadd, 1) := by decide +kernel
theorem d_y_chalkOn_17 : decode (ch_bc m_y_chalkOn) 17 = .ok (.putfield 49, 3) := by decide +kernel
theorem d_y_chalkOn_20 : decode (ch_bc m_y_chalkOn) 20 = .ok (.aload_n 0, 1) := by decide +kernel
theorem d_y_chalkOn_21 : decode (ch_bc m_y_chalkOn) 21 = .ok (.getfield 15, 3) := by decide +kernel
theorem d_y_chalkOn_24 : decode (ch_bc m_y_chalkOn) 24 = .ok (.iload_n 2, 1) := by decide +kernel
theorem d_y_chalkOn_25 : decode (ch_bc m_y_chalkOn) 25 = .ok (.aload_n 0, 1) := by decide +kernel
theorem d_y_chalkOn_26 : decode (ch_bc m_y_chalkOn) 26 = .ok (.getfield 9, 3) := by decide +kernel
theorem d_y_chalkOn_29 : decode (ch_bc m_y_chalkOn) 29 = .ok (.iload_n 2, 1) := by decide +kernel
theorem d_y_chalkOn_30 : decode (ch_bc m_y_chalkOn) 30 = .ok (.iaload, 1) := by decide +kernel
theorem d_y_chalkOn_31 : decode (ch_bc m_y_chalkOn) 31 = .ok (.iconst (-1), 1) := by decide +kernel
theorem d_y_chalkOn_32 : decode (ch_bc m_y_chalkOn) 32 = .ok (.if_icmp .ne 7, 3) := by decide +kernel
theorem d_y_chalkOn_35 : decode (ch_bc m_y_chalkOn) 35 = .ok (.iconst 5, 1) := by decide +kernel
theorem d_y_chalkOn_36 : decode (ch_bc m_y_chalkOn) 36 = .ok (.goto 16, 3) := by decide +kernel
theorem d_y_chalkOn_39 : decode (ch_bc m_y_chalkOn) 39 = .ok (.aload_n 0, 1) := by decide +kernel
theorem d_y_chalkOn_40 : decode (ch_bc m_y_chalkOn) 40 = .ok (.getfield 15, 3) := by decide +kernel
theorem d_y_chalkOn_43 : decode (ch_bc m_y_chalkOn) 43 = .ok (.iload_n 2, 1) := by decide +kernel
theorem d_y_chalkOn_44 : decode (ch_bc m_y_chalkOn) 44 = .ok (.iaload, 1) := by decide +kernel
theorem d_y_chalkOn_45 : decode (ch_bc m_y_chalkOn) 45 = .ok (.iconst 2, 1) := by decide +kernel
theorem d_y_chalkOn_46 : decode (ch_bc m_y_chalkOn) 46 = .ok (.iadd, 1) := by decide +kernel
theorem d_y_chalkOn_47 : decode (ch_bc m_y_chalkOn) 47 = .ok (.bipush 9, 2) := by decide +kernel
theorem d_y_chalkOn_49 : decode (ch_bc m_y_chalkOn) 49 = .ok (.invokestatic 117, 3) := by decide +kernel
theorem d_y_chalkOn_52 : decode (ch_bc m_y_chalkOn) 52 = .ok (.iastore, 1) := by decide +kernel
theorem d_y_chalkOn_53 : decode (ch_bc m_y_chalkOn) 53 = .ok (.aload_n 0, 1) := by decide +kernel
theorem d_y_chalkOn_54 : decode (ch_bc m_y_chalkOn) 54 = .ok (.getfield 9, 3) := by decide +kernel
theorem d_y_chalkOn_57 : decode (ch_bc m_y_chalkOn) 57 = .ok (.iload_n 2, 1) := by decide +kernel
theorem d_y_chalkOn_58 : decode (ch_bc m_y_chalkOn) 58 = .ok (.iload_n 1, 1) := by decide +kernel
theorem d_y_chalkOn_59 : decode (ch_bc m_y_chalkOn) 59 = .ok (.iastore, 1) := by decide +kernel
theorem d_y_chalkOn_60 : decode (ch_bc m_y_chalkOn) 60 = .ok (.aload_n 0, 1) := by decide +kernel
theorem d_y_chalkOn_61 : decode (ch_bc m_y_chalkOn) 61 = .ok (.getfield 15, 3) := by decide +kernel
theorem d_y_chalkOn_64 : decode (ch_bc m_y_chalkOn) 64 = .ok (.iload_n 2, 1) := by decide +kernel
theorem d_y_chalkOn_65 : decode (ch_bc m_y_chalkOn) 65 = .ok (.iaload, 1) := by decide +kernel
theorem d_y_chalkOn_66 : decode (ch_bc m_y_chalkOn) 66 = .ok (.ireturn, 1) := by decide +kernel
theorem d_y_hopBy_0 : decode (ch_bc m_y_hopBy) 0 = .ok (.aload_n 0, 1) := by decide +kernel
theorem d_y_hopBy_1 : decode (ch_bc m_y_hopBy) 1 = .ok (.iload_n 1, 1) := by decide +kernel
theorem d_y_hopBy_2 : decode (ch_bc m_y_hopBy) 2 = .ok (.aload_n 2, 1) := by decide +kernel
theorem d_y_hopBy_3 : decode (ch_bc m_y_hopBy) 3 = .ok (.invokevirtual 122, 3) := by decide +kernel
theorem d_y_hopBy_6 : decode (ch_bc m_y_hopBy) 6 = .ok (.istore_n 3, 1) := by decide +kernel
theorem d_y_hopBy_7 : decode (ch_bc m_y_hopBy) 7 = .ok (.iconst (-1), 1) := by decide +kernel
theorem d_y_hopBy_8 : decode (ch_bc m_y_hopBy) 8 = .ok (.istore 4, 2) := by decide +kernel
theorem d_y_hopBy_10 : decode (ch_bc m_y_hopBy) 10 = .ok (.iconst 0, 1) := by decide +kernel
theorem d_y_hopBy_11 : decode (ch_bc m_y_hopBy) 11 = .ok (.istore 5, 2) := by decide +kernel
theorem d_y_hopBy_13 : decode (ch_bc m_y_hopBy) 13 = .ok (.iload 5, 2) := by decide +kernel
theorem d_y_hopBy_15 : decode (ch_bc m_y_hopBy) 15 = .ok (.aload_n 2, 1) := by decide +kernel
theorem d_y_hopBy_16 : decode (ch_bc m_y_hopBy) 16 = .ok (.getfield 125, 3) := by decide +kernel
theorem d_y_hopBy_19 : decode (ch_bc m_y_hopBy) 19 = .ok (.if_icmp .ge 55, 3) := by decide +kernel
theorem d_y_hopBy_22 : decode (ch_bc m_y_hopBy) 22 = .ok (.iload 4, 2) := by decide +kernel
theorem d_y_hopBy_24 : decode (ch_bc m_y_hopBy) 24 = .ok (.aload_n 2, 1) := by decide +kernel
theorem d_y_hopBy_25 : decode (ch_bc m_y_hopBy) 25 = .ok (.getfield 130, 3) := by decide +kernel
theorem d_y_hopBy_28 : decode (ch_bc m_y_hopBy) 28 = .ok (.iload 5, 2) := by decide +kernel
theorem d_y_hopBy_30 : decode (ch_bc m_y_hopBy) 30 = .ok (.iaload, 1) := by decide +kernel
theorem d_y_hopBy_31 : decode (ch_bc m_y_hopBy) 31 = .ok (.iadd, 1) := by decide +kernel
theorem d_y_hopBy_32 : decode (ch_bc m_y_hopBy) 32 = .ok (.istore 4, 2) := by decide +kernel
theorem d_y_hopBy_34 : decode (ch_bc m_y_hopBy) 34 = .ok (.aload_n 0, 1) := by decide +kernel
theorem d_y_hopBy_35 : decode (ch_bc m_y_hopBy) 35 = .ok (.iload_n 1, 1) := by decide +kernel
theorem d_y_hopBy_36 : decode (ch_bc m_y_hopBy) 36 = .ok (.iload 4, 2) := by decide +kernel
theorem d_y_hopBy_38 : decode (ch_bc m_y_hopBy) 38 = .ok (.invokevirtual 133, 3) := by decide +kernel
theorem d_y_hopBy_41 : decode (ch_bc m_y_hopBy) 41 = .ok (.ifCond .eq 27, 3) := by decide +kernel
theorem d_y_hopBy_44 : decode (ch_bc m_y_hopBy) 44 = .ok (.aload_n 0, 1) := by decide +kernel
theorem d_y_hopBy_45 : decode (ch_bc m_y_hopBy) 45 = .ok (.getfield 30, 3) := by decide +kernel
theorem d_y_hopBy_48 : decode (ch_bc m_y_hopBy) 48 = .ok (.aload_n 0, 1) := by decide +kernel
theorem d_y_hopBy_49 : decode (ch_bc m_y_hopBy) 49 = .ok (.getfield 9, 3) := by decide +kernel
theorem d_y_hopBy_52 : decode (ch_bc m_y_hopBy) 52 = .ok (.iload 4, 2) := by decide +kernel
theorem d_y_hopBy_54 : decode (ch_bc m_y_hopBy) 54 = .ok (.iaload, 1) := by decide +kernel
theorem d_y_hopBy_55 : decode (ch_bc m_y_hopBy) 55 = .ok (.dup2, 1) := by decide +kernel
theorem d_y_hopBy_56 : decode (ch_bc m_y_hopBy) 56 = .ok (.iaload, 1) := by decide +kernel
theorem d_y_hopBy_57 : decode (ch_bc m_y_hopBy) 57 = .ok (.iconst 1, 1) := by decide +kernel
theorem d_y_hopBy_58 : decode (ch_bc m_y_hopBy) 58 = .ok (.iadd, 1) := by decide +kernel
theorem d_y_hopBy_59 : decode (ch_bc m_y_hopBy) 59 = .ok (.iastore, 1) := by decide +kernel
theorem d_y_hopBy_60 : decode (ch_bc m_y_hopBy) 60 = .ok (.aload_n 0, 1) := by decide +kernel
theorem d_y_hopBy_61 : decode (ch_bc m_y_hopBy) 61 = .ok (.iload 4, 2) := by decide +kernel
theorem d_y_hopBy_63 : decode (ch_bc m_y_hopBy) 63 = .ok (.iconst 1, 1) := by decide +kernel
theorem d_y_hopBy_64 : decode (ch_bc m_y_hopBy) 64 = .ok (.invokevirtual 137, 3) := by decide +kernel
theorem d_y_hopBy_67 : decode (ch_bc m_y_hopBy) 67 = .ok (.pop, 1) := by decide +kernel
theorem d_y_hopBy_68 : decode (ch_bc m_y_hopBy) 68 = .ok (.iinc 5 1, 3) := by decide +kernel
theorem d_y_hopBy_71 : decode (ch_bc m_y_hopBy) 71 = .ok (.goto (-58), 3) := by decide +kernel
theorem d_y_hopBy_74 : decode (ch_bc m_y_hopBy) 74 = .ok (.aload_n 0, 1) := by decide +kernel
theorem d_y_hopBy_75 : decode (ch_bc m_y_hopBy) 75 = .ok (.getfield 21, 3) := by decide +kernel
theorem d_y_hopBy_78 : decode (ch_bc m_y_hopBy) 78 = .ok (.iload_n 1, 1) := by decide +kernel
theorem d_y_hopBy_79 : decode (ch_bc m_y_hopBy) 79 = .ok (.dup2, 1) := by decide +kernel
theorem d_y_hopBy_80 : decode (ch_bc m_y_hopBy) 80 = .ok (.iaload, 1) := by decide +kernel
theorem d_y_hopBy_81 : decode (ch_bc m_y_hopBy) 81 = .ok (.iload_n 3, 1) := by decide +kernel
theorem d_y_hopBy_82 : decode (ch_bc m_y_hopBy) 82 = .ok (.iadd, 1) := by decide +kernel
theorem d_y_hopBy_83 : decode (ch_bc m_y_hopBy) 83 = .ok (.iastore, 1) := by decide +kernel
theorem d_y_hopBy_84 : decode (ch_bc m_y_hopBy) 84 = .ok (.aload_n 0, 1) := by decide +kernel
theorem d_y_hopBy_85 : decode (ch_bc m_y_hopBy) 85 = .ok (.dup, 1) := by decide +kernel
theorem d_y_hopBy_86 : decode (ch_bc m_y_hopBy) 86 = .ok (.getfield 55, 3) := by decide +kernel
theorem d_y_hopBy_89 : decode (ch_bc m_y_hopBy) 89 = .ok (.iload_n 3, 1) := by decide +kernel
theorem d_y_hopBy_90 : decode (ch_bc m_y_hopBy) 90 = .ok (.iadd, 1) := by decide +kernel
theorem d_y_hopBy_91 : decode (ch_bc m_y_hopBy) 91 = .ok (.putfield 55, 3) := by decide +kernel
theorem d_y_hopBy_94 : decode (ch_bc m_y_hopBy) 94 = .ok (.aload_n 0, 1) := by decide +kernel
theorem d_y_hopBy_95 : decode (ch_bc m_y_hopBy) 95 = .ok (.getfield 27, 3) := by decide +kernel
theorem d_y_hopBy_98 : decode (ch_bc m_y_hopBy) 98 = .ok (.iload_n 1, 1) := by decide +kernel
theorem d_y_hopBy_99 : decode (ch_bc m_y_hopBy) 99 = .ok (.dup2, 1) := by decide +kernel
theorem d_y_hopBy_100 : decode (ch_bc m_y_hopBy) 100 = .ok (.iaload, 1) := by decide +kernel
theorem d_y_hopBy_101 : decode (ch_bc m_y_hopBy) 101 = .ok (.iconst 1, 1) := by decide +kernel
theorem d_y_hopBy_102 : decode (ch_bc m_y_hopBy) 102 = .ok (.iadd, 1) := by decide +kernel
theorem d_y_hopBy_103 : decode (ch_bc m_y_hopBy) 103 = .ok (.iastore, 1) := by decide +kernel
theorem d_y_hopBy_104 : decode (ch_bc m_y_hopBy) 104 = .ok (.iload_n 3, 1) := by decide +kernel
theorem d_y_hopBy_105 : decode (ch_bc m_y_hopBy) 105 = .ok (.ireturn, 1) := by decide +kernel
theorem d_y_writeAgainst_0 : decode (ch_bc m_y_writeAgainst) 0 = .ok (.aload_n 0, 1) := by decide +kernel
theorem d_y_writeAgainst_1 : decode (ch_bc m_y_writeAgainst) 1 = .ok (.getfield 24, 3) := by decide +kernel
theorem d_y_writeAgainst_4 : decode (ch_bc m_y_writeAgainst) 4 = .ok (.iload_n 1, 1) := by decide +kernel
theorem d_y_writeAgainst_5 : decode (ch_bc m_y_writeAgainst) 5 = .ok (.aload_n 0, 1) := by decide +kernel
theorem d_y_writeAgainst_6 : decode (ch_bc m_y_writeAgainst) 6 = .ok (.getfield 21, 3) := by decide +kernel
theorem d_y_writeAgainst_9 : decode (ch_bc m_y_writeAgainst) 9 = .ok (.iload_n 1, 1) := by decide +kernel
theorem d_y_writeAgainst_10 : decode (ch_bc m_y_writeAgainst) 10 = .ok (.iaload, 1) := by decide +kernel
theorem d_y_writeAgainst_11 : decode (ch_bc m_y_writeAgainst) 11 = .ok (.bipush 9, 2) := by decide +kernel
theorem d_y_writeAgainst_13 : decode (ch_bc m_y_writeAgainst) 13 = .ok (.invokestatic 117, 3) := by decide +kernel
theorem d_y_writeAgainst_16 : decode (ch_bc m_y_writeAgainst) 16 = .ok (.iastore, 1) := by decide +kernel
theorem d_y_writeAgainst_17 : decode (ch_bc m_y_writeAgainst) 17 = .ok (.aload_n 0, 1) := by decide +kernel
theorem d_y_writeAgainst_18 : decode (ch_bc m_y_writeAgainst) 18 = .ok (.getfield 21, 3) := by decide +kernel
theorem d_y_writeAgainst_21 : decode (ch_bc m_y_writeAgainst) 21 = .ok (.iload_n 1, 1) := by decide +kernel
theorem d_y_writeAgainst_22 : decode (ch_bc m_y_writeAgainst) 22 = .ok (.iconst 0, 1) := by decide +kernel
theorem d_y_writeAgainst_23 : decode (ch_bc m_y_writeAgainst) 23 = .ok (.iastore, 1) := by decide +kernel
theorem d_y_writeAgainst_24 : decode (ch_bc m_y_writeAgainst) 24 = .ok (.aload_n 0, 1) := by decide +kernel
theorem d_y_writeAgainst_25 : decode (ch_bc m_y_writeAgainst) 25 = .ok (.getfield 33, 3) := by decide +kernel
theorem d_y_writeAgainst_28 : decode (ch_bc m_y_writeAgainst) 28 = .ok (.aload_n 0, 1) := by decide +kernel
theorem d_y_writeAgainst_29 : decode (ch_bc m_y_writeAgainst) 29 = .ok (.getfield 46, 3) := by decide +kernel
theorem d_y_writeAgainst_32 : decode (ch_bc m_y_writeAgainst) 32 = .ok (.iload_n 1, 1) := by decide +kernel
theorem d_y_writeAgainst_33 : decode (ch_bc m_y_writeAgainst) 33 = .ok (.iastore, 1) := by decide +kernel
theorem d_y_writeAgainst_34 : decode (ch_bc m_y_writeAgainst) 34 = .ok (.aload_n 0, 1) := by decide +kernel
theorem d_y_writeAgainst_35 : decode (ch_bc m_y_writeAgainst) 35 = .ok (.dup, 1) := by decide +kernel
theorem d_y_writeAgainst_36 : decode (ch_bc m_y_writeAgainst) 36 = .ok (.getfield 46, 3) := by decide +kernel
theorem d_y_writeAgainst_39 : decode (ch_bc m_y_writeAgainst) 39 = .ok (.iconst 1, 1) := by decide +kernel
theorem d_y_writeAgainst_40 : decode (ch_bc m_y_writeAgainst) 40 = .ok (.iadd, 1) := by decide +kernel
theorem d_y_writeAgainst_41 : decode (ch_bc m_y_writeAgainst) 41 = .ok (.putfield 46, 3) := by decide +kernel
theorem d_y_writeAgainst_44 : decode (ch_bc m_y_writeAgainst) 44 = .ok (.aload_n 0, 1) := by decide +kernel
theorem d_y_writeAgainst_45 : decode (ch_bc m_y_writeAgainst) 45 = .ok (.dup, 1) := by decide +kernel
theorem d_y_writeAgainst_46 : decode (ch_bc m_y_writeAgainst) 46 = .ok (.getfield 58, 3) := by decide +kernel
theorem d_y_writeAgainst_49 : decode (ch_bc m_y_writeAgainst) 49 = .ok (.iconst 1, 1) := by decide +kernel
theorem d_y_writeAgainst_50 : decode (ch_bc m_y_writeAgainst) 50 = .ok (.iadd, 1) := by decide +kernel
theorem d_y_writeAgainst_51 : decode (ch_bc m_y_writeAgainst) 51 = .ok (.putfield 58, 3) := by decide +kernel
theorem d_y_writeAgainst_54 : decode (ch_bc m_y_writeAgainst) 54 = .ok (.aload_n 0, 1) := by decide +kernel
theorem d_y_writeAgainst_55 : decode (ch_bc m_y_writeAgainst) 55 = .ok (.getfield 24, 3) := by decide +kernel
theorem d_y_writeAgainst_58 : decode (ch_bc m_y_writeAgainst) 58 = .ok (.iload_n 1, 1) := by decide +kernel
theorem d_y_writeAgainst_59 : decode (ch_bc m_y_writeAgainst) 59 = .ok (.iaload, 1) := by decide +kernel
theorem d_y_writeAgainst_60 : decode (ch_bc m_y_writeAgainst) 60 = .ok (.ireturn, 1) := by decide +kernel
theorem d_y_strikeOut_0 : decode (ch_bc m_y_strikeOut) 0 = .ok (.aload_n 0, 1) := by decide +kernel
theorem d_y_strikeOut_1 : decode (ch_bc m_y_strikeOut) 1 = .ok (.getfield 18, 3) := by decide +kernel
theorem d_y_strikeOut_4 : decode (ch_bc m_y_strikeOut) 4 = .ok (.iload_n 1, 1) := by decide +kernel
theorem d_y_strikeOut_5 : decode (ch_bc m_y_strikeOut) 5 = .ok (.dup2, 1) := by decide +kernel
theorem d_y_strikeOut_6 : decode (ch_bc m_y_strikeOut) 6 = .ok (.iaload, 1) := by decide +kernel
theorem d_y_strikeOut_7 : decode (ch_bc m_y_strikeOut) 7 = .ok (.aload_n 0, 1) := by decide +kernel
theorem d_y_strikeOut_8 : decode (ch_bc m_y_strikeOut) 8 = .ok (.getfield 24, 3) := by decide +kernel
theorem d_y_strikeOut_11 : decode (ch_bc m_y_strikeOut) 11 = .ok (.iload_n 1, 1) := by decide +kernel
theorem d_y_strikeOut_12 : decode (ch_bc m_y_strikeOut) 12 = .ok (.iaload, 1) := by decide +kernel
theorem d_y_strikeOut_13 : decode (ch_bc m_y_strikeOut) 13 = .ok (.isub, 1) := by decide +kernel
theorem d_y_strikeOut_14 : decode (ch_bc m_y_strikeOut) 14 = .ok (.iastore, 1) := by decide +kernel
theorem d_y_strikeOut_15 : decode (ch_bc m_y_strikeOut) 15 = .ok (.aload_n 0, 1) := by decide +kernel
theorem d_y_strikeOut_16 : decode (ch_bc m_y_strikeOut) 16 = .ok (.dup, 1) := by decide +kernel
theorem d_y_strikeOut_17 : decode (ch_bc m_y_strikeOut) 17 = .ok (.getfield 49, 3) := by decide +kernel
theorem d_y_strikeOut_20 : decode (ch_bc m_y_strikeOut) 20 = .ok (.aload_n 0, 1) := by decide +kernel
theorem d_y_strikeOut_21 : decode (ch_bc m_y_strikeOut) 21 = .ok (.getfield 24, 3) := by decide +kernel
theorem d_y_strikeOut_24 : decode (ch_bc m_y_strikeOut) 24 = .ok (.iload_n 1, 1) := by decide +kernel
theorem d_y_strikeOut_25 : decode (ch_bc m_y_strikeOut) 25 = .ok (.iaload, 1) := by decide +kernel
theorem d_y_strikeOut_26 : decode (ch_bc m_y_strikeOut) 26 = .ok (.iadd, 1) := by decide +kernel
theorem d_y_strikeOut_27 : decode (ch_bc m_y_strikeOut) 27 = .ok (.putfield 49, 3) := by decide +kernel
theorem d_y_strikeOut_30 : decode (ch_bc m_y_strikeOut) 30 = .ok (.aload_n 0, 1) := by decide +kernel
theorem d_y_strikeOut_31 : decode (ch_bc m_y_strikeOut) 31 = .ok (.getfield 24, 3) := by decide +kernel
theorem d_y_strikeOut_34 : decode (ch_bc m_y_strikeOut) 34 = .ok (.iload_n 1, 1) := by decide +kernel
theorem d_y_strikeOut_35 : decode (ch_bc m_y_strikeOut) 35 = .ok (.iconst 0, 1) := by decide +kernel
theorem d_y_strikeOut_36 : decode (ch_bc m_y_strikeOut) 36 = .ok (.iastore, 1) := by decide +kernel
theorem d_y_strikeOut_37 : decode (ch_bc m_y_strikeOut) 37 = .ok (.aload_n 0, 1) := by decide +kernel
theorem d_y_strikeOut_38 : decode (ch_bc m_y_strikeOut) 38 = .ok (.invokevirtual 140, 3) := by decide +kernel
theorem d_y_strikeOut_41 : decode (ch_bc m_y_strikeOut) 41 = .ok (.pop, 1) := by decide +kernel
theorem d_y_strikeOut_42 : decode (ch_bc m_y_strikeOut) 42 = .ok (.aload_n 0, 1) := by decide +kernel
theorem d_y_strikeOut_43 : decode (ch_bc m_y_strikeOut) 43 = .ok (.getfield 18, 3) := by decide +kernel
theorem d_y_strikeOut_46 : decode (ch_bc m_y_strikeOut) 46 = .ok (.iload_n 1, 1) := by decide +kernel
theorem d_y_strikeOut_47 : decode (ch_bc m_y_strikeOut) 47 = .ok (.iaload, 1) := by decide +kernel
theorem d_y_strikeOut_48 : decode (ch_bc m_y_strikeOut) 48 = .ok (.ireturn, 1) := by decide +kernel
theorem d_y_wash_0 : decode (ch_bc m_y_wash) 0 = .ok (.iconst 0, 1) := by decide +kernel
theorem d_y_wash_1 : decode (ch_bc m_y_wash) 1 = .ok (.istore_n 2, 1) := by decide +kernel
theorem d_y_wash_2 : decode (ch_bc m_y_wash) 2 = .ok (.iconst 0, 1) := by decide +kernel
theorem d_y_wash_3 : decode (ch_bc m_y_wash) 3 = .ok (.istore_n 3, 1) := by decide +kernel
theorem d_y_wash_4 : decode (ch_bc m_y_wash) 4 = .ok (.iload_n 3, 1) := by decide +kernel
theorem d_y_wash_5 : decode (ch_bc m_y_wash) 5 = .ok (.bipush 12, 2) := by decide +kernel
theorem d_y_wash_7 : decode (ch_bc m_y_wash) 7 = .ok (.if_icmp .ge 31, 3) := by decide +kernel
theorem d_y_wash_10 : decode (ch_bc m_y_wash) 10 = .ok (.aload_n 0, 1) := by decide +kernel
theorem d_y_wash_11 : decode (ch_bc m_y_wash) 11 = .ok (.getfield 9, 3) := by decide +kernel
theorem d_y_wash_14 : decode (ch_bc m_y_wash) 14 = .ok (.iload_n 3, 1) := by decide +kernel
theorem d_y_wash_15 : decode (ch_bc m_y_wash) 15 = .ok (.iaload, 1) := by decide +kernel
theorem d_y_wash_16 : decode (ch_bc m_y_wash) 16 = .ok (.iconst (-1), 1) := by decide +kernel
theorem d_y_wash_17 : decode (ch_bc m_y_wash) 17 = .ok (.if_icmp .eq 15, 3) := by decide +kernel
theorem d_y_wash_20 : decode (ch_bc m_y_wash) 20 = .ok (.aload_n 0, 1) := by decide +kernel
theorem d_y_wash_21 : decode (ch_bc m_y_wash) 21 = .ok (.iload_n 3, 1) := by decide +kernel
theorem d_y_wash_22 : decode (ch_bc m_y_wash) 22 = .ok (.iload_n 1, 1) := by decide +kernel
theorem d_y_wash_23 : decode (ch_bc m_y_wash) 23 = .ok (.invokevirtual 137, 3) := by decide +kernel
theorem d_y_wash_26 : decode (ch_bc m_y_wash) 26 = .ok (.ifCond .eq 6, 3) := by decide +kernel
theorem d_y_wash_29 : decode (ch_bc m_y_wash) 29 = .ok (.iinc 2 1, 3) := by decide +kernel
theorem d_y_wash_32 : decode (ch_bc m_y_wash) 32 = .ok (.iinc 3 1, 3) := by decide +kernel
theorem d_y_wash_35 : decode (ch_bc m_y_wash) 35 = .ok (.goto (-31), 3) := by decide +kernel
theorem d_y_wash_38 : decode (ch_bc m_y_wash) 38 = .ok (.iconst 0, 1) := by decide +kernel
theorem d_y_wash_39 : decode (ch_bc m_y_wash) 39 = .ok (.istore_n 3, 1) := by decide +kernel
theorem d_y_wash_40 : decode (ch_bc m_y_wash) 40 = .ok (.iload_n 3, 1) := by decide +kernel
theorem d_y_wash_41 : decode (ch_bc m_y_wash) 41 = .ok (.aload_n 0, 1) := by decide +kernel
theorem d_y_wash_42 : decode (ch_bc m_y_wash) 42 = .ok (.getfield 46, 3) := by decide +kernel
theorem d_y_wash_45 : decode (ch_bc m_y_wash) 45 = .ok (.if_icmp .ge 37, 3) := by decide +kernel
theorem d_y_wash_48 : decode (ch_bc m_y_wash) 48 = .ok (.aload_n 0, 1) := by decide +kernel
theorem d_y_wash_49 : decode (ch_bc m_y_wash) 49 = .ok (.getfield 33, 3) := by decide +kernel
theorem d_y_wash_52 : decode (ch_bc m_y_wash) 52 = .ok (.iload_n 3, 1) := by decide +kernel
theorem d_y_wash_53 : decode (ch_bc m_y_wash) 53 = .ok (.iaload, 1) := by decide +kernel
theorem d_y_wash_54 : decode (ch_bc m_y_wash) 54 = .ok (.istore 4, 2) := by decide +kernel
theorem d_y_wash_56 : decode (ch_bc m_y_wash) 56 = .ok (.aload_n 0, 1) := by decide +kernel
theorem d_y_wash_57 : decode (ch_bc m_y_wash) 57 = .ok (.getfield 24, 3) := by decide +kernel
theorem d_y_wash_60 : decode (ch_bc m_y_wash) 60 = .ok (.iload 4, 2) := by decide +kernel
theorem d_y_wash_62 : decode (ch_bc m_y_wash) 62 = .ok (.aload_n 0, 1) := by decide +kernel
theorem d_y_wash_63 : decode (ch_bc m_y_wash) 63 = .ok (.getfield 24, 3) := by decide +kernel
theorem d_y_wash_66 : decode (ch_bc m_y_wash) 66 = .ok (.iload 4, 2) := by decide +kernel
theorem d_y_wash_68 : decode (ch_bc m_y_wash) 68 = .ok (.iaload, 1) := by decide +kernel
theorem d_y_wash_69 : decode (ch_bc m_y_wash) 69 = .ok (.iload_n 1, 1) := by decide +kernel
theorem d_y_wash_70 : decode (ch_bc m_y_wash) 70 = .ok (.isub, 1) := by decide +kernel
theorem d_y_wash_71 : decode (ch_bc m_y_wash) 71 = .ok (.iconst 0, 1) := by decide +kernel
theorem d_y_wash_72 : decode (ch_bc m_y_wash) 72 = .ok (.invokestatic 143, 3) := by decide +kernel
theorem d_y_wash_75 : decode (ch_bc m_y_wash) 75 = .ok (.iastore, 1) := by decide +kernel
theorem d_y_wash_76 : decode (ch_bc m_y_wash) 76 = .ok (.iinc 3 1, 3) := by decide +kernel
theorem d_y_wash_79 : decode (ch_bc m_y_wash) 79 = .ok (.goto (-39), 3) := by decide +kernel
theorem d_y_wash_82 : decode (ch_bc m_y_wash) 82 = .ok (.aload_n 0, 1) := by decide +kernel
theorem d_y_wash_83 : decode (ch_bc m_y_wash) 83 = .ok (.invokevirtual 140, 3) := by decide +kernel
theorem d_y_wash_86 : decode (ch_bc m_y_wash) 86 = .ok (.istore_n 3, 1) := by decide +kernel
theorem d_y_wash_87 : decode (ch_bc m_y_wash) 87 = .ok (.aload_n 0, 1) := by decide +kernel
theorem d_y_wash_88 : decode (ch_bc m_y_wash) 88 = .ok (.dup, 1) := by decide +kernel
theorem d_y_wash_89 : decode (ch_bc m_y_wash) 89 = .ok (.getfield 61, 3) := by decide +kernel
theorem d_y_wash_92 : decode (ch_bc m_y_wash) 92 = .ok (.iload_n 3, 1) := by decide +kernel
theorem d_y_wash_93 : decode (ch_bc m_y_wash) 93 = .ok (.iadd, 1) := by decide +kernel
theorem d_y_wash_94 : decode (ch_bc m_y_wash) 94 = .ok (.putfield 61, 3) := by decide +kernel
theorem d_y_wash_97 : decode (ch_bc m_y_wash) 97 = .ok (.iload_n 2, 1) := by decide +kernel
theorem d_y_wash_98 : decode (ch_bc m_y_wash) 98 = .ok (.iload_n 3, 1) := by decide +kernel
theorem d_y_wash_99 : decode (ch_bc m_y_wash) 99 = .ok (.iadd, 1) := by decide +kernel
theorem d_y_wash_100 : decode (ch_bc m_y_wash) 100 = .ok (.ireturn, 1) := by decide +kernel
theorem d_y_endTerm_0 : decode (ch_bc m_y_endTerm) 0 = .ok (.iconst 0, 1) := by decide +kernel
theorem d_y_endTerm_1 : decode (ch_bc m_y_endTerm) 1 = .ok (.istore_n 1, 1) := by decide +kernel
theorem d_y_endTerm_2 : decode (ch_bc m_y_endTerm) 2 = .ok (.iconst 0, 1) := by decide +kernel
theorem d_y_endTerm_3 : decode (ch_bc m_y_endTerm) 3 = .ok (.istore_n 2, 1) := by decide +kernel
theorem d_y_endTerm_4 : decode (ch_bc m_y_endTerm) 4 = .ok (.iload_n 2, 1) := by decide +kernel
theorem d_y_endTerm_5 : decode (ch_bc m_y_endTerm) 5 = .ok (.aload_n 0, 1) := by decide +kernel
theorem d_y_endTerm_6 : decode (ch_bc m_y_endTerm) 6 = .ok (.getfield 42, 3) := by decide +kernel
theorem d_y_endTerm_9 : decode (ch_bc m_y_endTerm) 9 = .ok (.if_icmp .ge 17, 3) := by decide +kernel
theorem d_y_endTerm_12 : decode (ch_bc m_y_endTerm) 12 = .ok (.iload_n 1, 1) := by decide +kernel
theorem d_y_endTerm_13 : decode (ch_bc m_y_endTerm) 13 = .ok (.aload_n 0, 1) := by decide +kernel
theorem d_y_endTerm_14 : decode (ch_bc m_y_endTerm) 14 = .ok (.iload_n 2, 1) := by decide +kernel
theorem d_y_endTerm_15 : decode (ch_bc m_y_endTerm) 15 = .ok (.invokevirtual 146, 3) := by decide +kernel
theorem d_y_endTerm_18 : decode (ch_bc m_y_endTerm) 18 = .ok (.iadd, 1) := by decide +kernel
theorem d_y_endTerm_19 : decode (ch_bc m_y_endTerm) 19 = .ok (.istore_n 1, 1) := by decide +kernel
theorem d_y_endTerm_20 : decode (ch_bc m_y_endTerm) 20 = .ok (.iinc 2 1, 3) := by decide +kernel
theorem d_y_endTerm_23 : decode (ch_bc m_y_endTerm) 23 = .ok (.goto (-19), 3) := by decide +kernel
theorem d_y_endTerm_26 : decode (ch_bc m_y_endTerm) 26 = .ok (.iconst 0, 1) := by decide +kernel
theorem d_y_endTerm_27 : decode (ch_bc m_y_endTerm) 27 = .ok (.istore_n 2, 1) := by decide +kernel
theorem d_y_endTerm_28 : decode (ch_bc m_y_endTerm) 28 = .ok (.iload_n 2, 1) := by decide +kernel
theorem d_y_endTerm_29 : decode (ch_bc m_y_endTerm) 29 = .ok (.aload_n 0, 1) := by decide +kernel
theorem d_y_endTerm_30 : decode (ch_bc m_y_endTerm) 30 = .ok (.getfield 42, 3) := by decide +kernel
theorem d_y_endTerm_33 : decode (ch_bc m_y_endTerm) 33 = .ok (.if_icmp .ge 36, 3) := by decide +kernel
theorem d_y_endTerm_36 : decode (ch_bc m_y_endTerm) 36 = .ok (.aload_n 0, 1) := by decide +kernel
theorem d_y_endTerm_37 : decode (ch_bc m_y_endTerm) 37 = .ok (.getfield 49, 3) := by decide +kernel
theorem d_y_endTerm_40 : decode (ch_bc m_y_endTerm) 40 = .ok (.ifCond .le 29, 3) := by decide +kernel
theorem d_y_endTerm_43 : decode (ch_bc m_y_endTerm) 43 = .ok (.aload_n 0, 1) := by decide +kernel
theorem d_y_endTerm_44 : decode (ch_bc m_y_endTerm) 44 = .ok (.dup, 1) := by decide +kernel
theorem d_y_endTerm_45 : decode (ch_bc m_y_endTerm) 45 = .ok (.getfield 49, 3) := by decide +kernel
theorem d_y_endTerm_48 : decode (ch_bc m_y_endTerm) 48 = .ok (.iconst 1, 1) := by decide +kernel
theorem d_y_endTerm_49 : decode (ch_bc m_y_endTerm) 49 = .ok (.isub, 1) := by decide +kernel
theorem d_y_endTerm_50 : decode (ch_bc m_y_endTerm) 50 = .ok (.putfield 49, 3) := by decide +kernel
theorem d_y_endTerm_53 : decode (ch_bc m_y_endTerm) 53 = .ok (.aload_n 0, 1) := by decide +kernel
theorem d_y_endTerm_54 : decode (ch_bc m_y_endTerm) 54 = .ok (.getfield 18, 3) := by decide +kernel
theorem d_y_endTerm_57 : decode (ch_bc m_y_endTerm) 57 = .ok (.iload_n 2, 1) := by decide +kernel
theorem d_y_endTerm_58 : decode (ch_bc m_y_endTerm) 58 = .ok (.dup2, 1) := by decide +kernel
theorem d_y_endTerm_59 : decode (ch_bc m_y_endTerm) 59 = .ok (.iaload, 1) := by decide +kernel
theorem d_y_endTerm_60 : decode (ch_bc m_y_endTerm) 60 = .ok (.iconst 1, 1) := by decide +kernel
theorem d_y_endTerm_61 : decode (ch_bc m_y_endTerm) 61 = .ok (.iadd, 1) := by decide +kernel
theorem d_y_endTerm_62 : decode (ch_bc m_y_endTerm) 62 = .ok (.iastore, 1) := by decide +kernel
theorem d_y_endTerm_63 : decode (ch_bc m_y_endTerm) 63 = .ok (.iinc 2 1, 3) := by decide +kernel
theorem d_y_endTerm_66 : decode (ch_bc m_y_endTerm) 66 = .ok (.goto (-38), 3) := by decide +kernel
theorem d_y_endTerm_69 : decode (ch_bc m_y_endTerm) 69 = .ok (.aload_n 0, 1) := by decide +kernel
theorem d_y_endTerm_70 : decode (ch_bc m_y_endTerm) 70 = .ok (.dup, 1) := by decide +kernel
theorem d_y_endTerm_71 : decode (ch_bc m_y_endTerm) 71 = .ok (.getfield 64, 3) := by decide +kernel
theorem d_y_endTerm_74 : decode (ch_bc m_y_endTerm) 74 = .ok (.iload_n 1, 1) := by decide +kernel
theorem d_y_endTerm_75 : decode (ch_bc m_y_endTerm) 75 = .ok (.iadd, 1) := by decide +kernel
theorem d_y_endTerm_76 : decode (ch_bc m_y_endTerm) 76 = .ok (.putfield 64, 3) := by decide +kernel
theorem d_y_endTerm_79 : decode (ch_bc m_y_endTerm) 79 = .ok (.aload_n 0, 1) := by decide +kernel
theorem d_y_endTerm_80 : decode (ch_bc m_y_endTerm) 80 = .ok (.dup, 1) := by decide +kernel
theorem d_y_endTerm_81 : decode (ch_bc m_y_endTerm) 81 = .ok (.getfield 67, 3) := by decide +kernel
theorem d_y_endTerm_84 : decode (ch_bc m_y_endTerm) 84 = .ok (.iconst 1, 1) := by decide +kernel
theorem d_y_endTerm_85 : decode (ch_bc m_y_endTerm) 85 = .ok (.iadd, 1) := by decide +kernel
theorem d_y_endTerm_86 : decode (ch_bc m_y_endTerm) 86 = .ok (.putfield 67, 3) := by decide +kernel
theorem d_y_endTerm_89 : decode (ch_bc m_y_endTerm) 89 = .ok (.iload_n 1, 1) := by decide +kernel
theorem d_y_endTerm_90 : decode (ch_bc m_y_endTerm) 90 = .ok (.ireturn, 1) := by decide +kernel
theorem d_y_payRents_0 : decode (ch_bc m_y_payRents) 0 = .ok (.iconst 0, 1) := by decide +kernel
theorem d_y_payRents_1 : decode (ch_bc m_y_payRents) 1 = .ok (.istore_n 2, 1) := by decide +kernel
theorem d_y_payRents_2 : decode (ch_bc m_y_payRents) 2 = .ok (.iconst 0, 1) := by decide +kernel
theorem d_y_payRents_3 : decode (ch_bc m_y_payRents) 3 = .ok (.istore_n 3, 1) := by decide +kernel
theorem d_y_payRents_4 : decode (ch_bc m_y_payRents) 4 = .ok (.iload_n 3, 1) := by decide +kernel
theorem d_y_payRents_5 : decode (ch_bc m_y_payRents) 5 = .ok (.bipush 12, 2) := by decide +kernel
theorem d_y_payRents_7 : decode (ch_bc m_y_payRents) 7 = .ok (.if_icmp .ge 65, 3) := by decide +kernel
theorem d_y_payRents_10 : decode (ch_bc m_y_payRents) 10 = .ok (.aload_n 0, 1) := by decide +kernel
theorem d_y_payRents_11 : decode (ch_bc m_y_payRents) 11 = .ok (.getfield 9, 3) := by decide +kernel
theorem d_y_payRents_14 : decode (ch_bc m_y_payRents) 14 = .ok (.iload_n 3, 1) := by decide +kernel
theorem d_y_payRents_15 : decode (ch_bc m_y_payRents) 15 = .ok (.iaload, 1) := by decide +kernel
theorem d_y_payRents_16 : decode (ch_bc m_y_payRents) 16 = .ok (.iload_n 1, 1) := by decide +kernel
theorem d_y_payRents_17 : decode (ch_bc m_y_payRents) 17 = .ok (.if_icmp .eq 6, 3) := by decide +kernel
theorem d_y_payRents_20 : decode (ch_bc m_y_payRents) 20 = .ok (.goto 46, 3) := by decide +kernel
theorem d_y_payRents_23 : decode (ch_bc m_y_payRents) 23 = .ok (.aload_n 0, 1) := by decide +kernel
theorem d_y_payRents_24 : decode (ch_bc m_y_payRents) 24 = .ok (.getfield 18, 3) := by decide +kernel
theorem d_y_payRents_27 : decode (ch_bc m_y_payRents) 27 = .ok (.iload_n 1, 1) := by decide +kernel
theorem d_y_payRents_28 : decode (ch_bc m_y_payRents) 28 = .ok (.iaload, 1) := by decide +kernel
theorem d_y_payRents_29 : decode (ch_bc m_y_payRents) 29 = .ok (.ifCond .le 26, 3) := by decide +kernel
theorem d_y_payRents_32 : decode (ch_bc m_y_payRents) 32 = .ok (.aload_n 0, 1) := by decide +kernel
theorem d_y_payRents_33 : decode (ch_bc m_y_payRents) 33 = .ok (.getfield 18, 3) := by decide +kernel
theorem d_y_payRents_36 : decode (ch_bc m_y_payRents) 36 = .ok (.iload_n 1, 1) := by decide +kernel
theorem d_y_payRents_37 : decode (ch_bc m_y_payRents) 37 = .ok (.dup2, 1) := by decide +kernel
theorem d_y_payRents_38 : decode (ch_bc m_y_payRents) 38 = .ok (.iaload, 1) := by decide +kernel
theorem d_y_payRents_39 : decode (ch_bc m_y_payRents) 39 = .ok (.iconst 1, 1) := by decide +kernel
theorem d_y_payRents_40 : decode (ch_bc m_y_payRents) 40 = .ok (.isub, 1) := by decide +kernel
theorem d_y_payRents_41 : decode (ch_bc m_y_payRents) 41 = .ok (.iastore, 1) := by decide +kernel
theorem d_y_payRents_42 : decode (ch_bc m_y_payRents) 42 = .ok (.aload_n 0, 1) := by decide +kernel
theorem d_y_payRents_43 : decode (ch_bc m_y_payRents) 43 = .ok (.dup, 1) := by decide +kernel
theorem d_y_payRents_44 : decode (ch_bc m_y_payRents) 44 = .ok (.getfield 49, 3) := by decide +kernel
theorem d_y_payRents_47 : decode (ch_bc m_y_payRents) 47 = .ok (.iconst 1, 1) := by decide +kernel
theorem d_y_payRents_48 : decode (ch_bc m_y_payRents) 48 = .ok (.iadd, 1) := by decide +kernel
theorem d_y_payRents_49 : decode (ch_bc m_y_payRents) 49 = .ok (.putfield 49, 3) := by decide +kernel
theorem d_y_payRents_52 : decode (ch_bc m_y_payRents) 52 = .ok (.goto 14, 3) := by decide +kernel
theorem d_y_payRents_55 : decode (ch_bc m_y_payRents) 55 = .ok (.aload_n 0, 1) := by decide +kernel
theorem d_y_payRents_56 : decode (ch_bc m_y_payRents) 56 = .ok (.iload_n 3, 1) := by decide +kernel
theorem d_y_payRents_57 : decode (ch_bc m_y_payRents) 57 = .ok (.bipush 9, 2) := by decide +kernel
theorem d_y_payRents_59 : decode (ch_bc m_y_payRents) 59 = .ok (.invokevirtual 137, 3) := by decide +kernel
theorem d_y_payRents_62 : decode (ch_bc m_y_payRents) 62 = .ok (.pop, 1) := by decide +kernel
theorem d_y_payRents_63 : decode (ch_bc m_y_payRents) 63 = .ok (.iinc 2 1, 3) := by decide +kernel
theorem d_y_payRents_66 : decode (ch_bc m_y_payRents) 66 = .ok (.iinc 3 1, 3) := by decide +kernel
theorem d_y_payRents_69 : decode (ch_bc m_y_payRents) 69 = .ok (.goto (-65), 3) := by decide +kernel
theorem d_y_payRents_72 : decode (ch_bc m_y_payRents) 72 = .ok (.iload_n 2, 1) := by decide +kernel
theorem d_y_payRents_73 : decode (ch_bc m_y_payRents) 73 = .ok (.ireturn, 1) := by decide +kernel
theorem d_y_handOver_0 : decode (ch_bc m_y_handOver) 0 = .ok (.aload_n 0, 1) := by decide +kernel
theorem d_y_handOver_1 : decode (ch_bc m_y_handOver) 1 = .ok (.getfield 18, 3) := by decide +kernel
theorem d_y_handOver_4 : decode (ch_bc m_y_handOver) 4 = .ok (.iload_n 1, 1) := by decide +kernel
theorem d_y_handOver_5 : decode (ch_bc m_y_handOver) 5 = .ok (.dup2, 1) := by decide +kernel
theorem d_y_handOver_6 : decode (ch_bc m_y_handOver) 6 = .ok (.iaload, 1) := by decide +kernel
theorem d_y_handOver_7 : decode (ch_bc m_y_handOver) 7 = .ok (.iload_n 3, 1) := by decide +kernel
theorem d_y_handOver_8 : decode (ch_bc m_y_handOver) 8 = .ok (.isub, 1) := by decide +kernel
theorem d_y_handOver_9 : decode (ch_bc m_y_handOver) 9 = .ok (.iastore, 1) := by decide +kernel
theorem d_y_handOver_10 : decode (ch_bc m_y_handOver) 10 = .ok (.aload_n 0, 1) := by decide +kernel
theorem d_y_handOver_11 : decode (ch_bc m_y_handOver) 11 = .ok (.getfield 18, 3) := by decide +kernel
theorem d_y_handOver_14 : decode (ch_bc m_y_handOver) 14 = .ok (.iload_n 2, 1) := by decide +kernel
theorem d_y_handOver_15 : decode (ch_bc m_y_handOver) 15 = .ok (.dup2, 1) := by decide +kernel
theorem d_y_handOver_16 : decode (ch_bc m_y_handOver) 16 = .ok (.iaload, 1) := by decide +kernel
theorem d_y_handOver_17 : decode (ch_bc m_y_handOver) 17 = .ok (.iload_n 3, 1) := by decide +kernel
theorem d_y_handOver_18 : decode (ch_bc m_y_handOver) 18 = .ok (.iadd, 1) := by decide +kernel
theorem d_y_handOver_19 : decode (ch_bc m_y_handOver) 19 = .ok (.iastore, 1) := by decide +kernel
theorem d_y_handOver_20 : decode (ch_bc m_y_handOver) 20 = .ok (.aload_n 0, 1) := by decide +kernel
theorem d_y_handOver_21 : decode (ch_bc m_y_handOver) 21 = .ok (.getfield 18, 3) := by decide +kernel
theorem d_y_handOver_24 : decode (ch_bc m_y_handOver) 24 = .ok (.iload_n 1, 1) := by decide +kernel
theorem d_y_handOver_25 : decode (ch_bc m_y_handOver) 25 = .ok (.iaload, 1) := by decide +kernel
theorem d_y_handOver_26 : decode (ch_bc m_y_handOver) 26 = .ok (.ireturn, 1) := by decide +kernel
theorem d_y_takeChalk_0 : decode (ch_bc m_y_takeChalk) 0 = .ok (.aload_n 0, 1) := by decide +kernel
theorem d_y_takeChalk_1 : decode (ch_bc m_y_takeChalk) 1 = .ok (.getfield 15, 3) := by decide +kernel
theorem d_y_takeChalk_4 : decode (ch_bc m_y_takeChalk) 4 = .ok (.iload_n 1, 1) := by decide +kernel
theorem d_y_takeChalk_5 : decode (ch_bc m_y_takeChalk) 5 = .ok (.aload_n 0, 1) := by decide +kernel
theorem d_y_takeChalk_6 : decode (ch_bc m_y_takeChalk) 6 = .ok (.getfield 15, 3) := by decide +kernel
theorem d_y_takeChalk_9 : decode (ch_bc m_y_takeChalk) 9 = .ok (.iload_n 1, 1) := by decide +kernel
theorem d_y_takeChalk_10 : decode (ch_bc m_y_takeChalk) 10 = .ok (.iaload, 1) := by decide +kernel
theorem d_y_takeChalk_11 : decode (ch_bc m_y_takeChalk) 11 = .ok (.iload_n 2, 1) := by decide +kernel
theorem d_y_takeChalk_12 : decode (ch_bc m_y_takeChalk) 12 = .ok (.isub, 1) := by decide +kernel
theorem d_y_takeChalk_13 : decode (ch_bc m_y_takeChalk) 13 = .ok (.iconst 0, 1) := by decide +kernel
theorem d_y_takeChalk_14 : decode (ch_bc m_y_takeChalk) 14 = .ok (.invokestatic 143, 3) := by decide +kernel
theorem d_y_takeChalk_17 : decode (ch_bc m_y_takeChalk) 17 = .ok (.iastore, 1) := by decide +kernel
theorem d_y_takeChalk_18 : decode (ch_bc m_y_takeChalk) 18 = .ok (.aload_n 0, 1) := by decide +kernel
theorem d_y_takeChalk_19 : decode (ch_bc m_y_takeChalk) 19 = .ok (.getfield 15, 3) := by decide +kernel
theorem d_y_takeChalk_22 : decode (ch_bc m_y_takeChalk) 22 = .ok (.iload_n 1, 1) := by decide +kernel
theorem d_y_takeChalk_23 : decode (ch_bc m_y_takeChalk) 23 = .ok (.iaload, 1) := by decide +kernel
theorem d_y_takeChalk_24 : decode (ch_bc m_y_takeChalk) 24 = .ok (.ifCond .ne 10, 3) := by decide +kernel
theorem d_y_takeChalk_27 : decode (ch_bc m_y_takeChalk) 27 = .ok (.aload_n 0, 1) := by decide +kernel
theorem d_y_takeChalk_28 : decode (ch_bc m_y_takeChalk) 28 = .ok (.getfield 9, 3) := by decide +kernel
theorem d_y_takeChalk_31 : decode (ch_bc m_y_takeChalk) 31 = .ok (.iload_n 1, 1) := by decide +kernel
theorem d_y_takeChalk_32 : decode (ch_bc m_y_takeChalk) 32 = .ok (.iconst (-1), 1) := by decide +kernel
theorem d_y_takeChalk_33 : decode (ch_bc m_y_takeChalk) 33 = .ok (.iastore, 1) := by decide +kernel
theorem d_y_takeChalk_34 : decode (ch_bc m_y_takeChalk) 34 = .ok (.aload_n 0, 1) := by decide +kernel
theorem d_y_takeChalk_35 : decode (ch_bc m_y_takeChalk) 35 = .ok (.getfield 15, 3) := by decide +kernel
theorem d_y_takeChalk_38 : decode (ch_bc m_y_takeChalk) 38 = .ok (.iload_n 1, 1) := by decide +kernel
theorem d_y_takeChalk_39 : decode (ch_bc m_y_takeChalk) 39 = .ok (.iaload, 1) := by decide +kernel
theorem d_y_takeChalk_40 : decode (ch_bc m_y_takeChalk) 40 = .ok (.ifCond .ne 7, 3) := by decide +kernel
theorem d_y_takeChalk_43 : decode (ch_bc m_y_takeChalk) 43 = .ok (.iconst 1, 1) := by decide +kernel
theorem d_y_takeChalk_44 : decode (ch_bc m_y_takeChalk) 44 = .ok (.goto 4, 3) := by decide +kernel
theorem d_y_takeChalk_47 : decode (ch_bc m_y_takeChalk) 47 = .ok (.iconst 0, 1) := by decide +kernel
theorem d_y_takeChalk_48 : decode (ch_bc m_y_takeChalk) 48 = .ok (.ireturn, 1) := by decide +kernel
theorem d_y_closeOrder_0 : decode (ch_bc m_y_closeOrder) 0 = .ok (.iconst 0, 1) := by decide +kernel
theorem d_y_closeOrder_1 : decode (ch_bc m_y_closeOrder) 1 = .ok (.istore_n 1, 1) := by decide +kernel
theorem d_y_closeOrder_2 : decode (ch_bc m_y_closeOrder) 2 = .ok (.iconst 0, 1) := by decide +kernel
theorem d_y_closeOrder_3 : decode (ch_bc m_y_closeOrder) 3 = .ok (.istore_n 2, 1) := by decide +kernel
theorem d_y_closeOrder_4 : decode (ch_bc m_y_closeOrder) 4 = .ok (.iload_n 2, 1) := by decide +kernel
theorem d_y_closeOrder_5 : decode (ch_bc m_y_closeOrder) 5 = .ok (.aload_n 0, 1) := by decide +kernel
theorem d_y_closeOrder_6 : decode (ch_bc m_y_closeOrder) 6 = .ok (.getfield 46, 3) := by decide +kernel
theorem d_y_closeOrder_9 : decode (ch_bc m_y_closeOrder) 9 = .ok (.if_icmp .ge 35, 3) := by decide +kernel
theorem d_y_closeOrder_12 : decode (ch_bc m_y_closeOrder) 12 = .ok (.aload_n 0, 1) := by decide +kernel
theorem d_y_closeOrder_13 : decode (ch_bc m_y_closeOrder) 13 = .ok (.getfield 33, 3) := by decide +kernel
theorem d_y_closeOrder_16 : decode (ch_bc m_y_closeOrder) 16 = .ok (.iload_n 2, 1) := by decide +kernel
theorem d_y_closeOrder_17 : decode (ch_bc m_y_closeOrder) 17 = .ok (.iaload, 1) := by decide +kernel
theorem d_y_closeOrder_18 : decode (ch_bc m_y_closeOrder) 18 = .ok (.istore_n 3, 1) := by decide +kernel
theorem d_y_closeOrder_19 : decode (ch_bc m_y_closeOrder) 19 = .ok (.aload_n 0, 1) := by decide +kernel
theorem d_y_closeOrder_20 : decode (ch_bc m_y_closeOrder) 20 = .ok (.getfield 24, 3) := by decide +kernel
theorem d_y_closeOrder_23 : decode (ch_bc m_y_closeOrder) 23 = .ok (.iload_n 3, 1) := by decide +kernel
theorem d_y_closeOrder_24 : decode (ch_bc m_y_closeOrder) 24 = .ok (.iaload, 1) := by decide +kernel
theorem d_y_closeOrder_25 : decode (ch_bc m_y_closeOrder) 25 = .ok (.ifCond .le 13, 3) := by decide +kernel
theorem d_y_closeOrder_28 : decode (ch_bc m_y_closeOrder) 28 = .ok (.aload_n 0, 1) := by decide +kernel
theorem d_y_closeOrder_29 : decode (ch_bc m_y_closeOrder) 29 = .ok (.getfield 33, 3) := by decide +kernel
theorem d_y_closeOrder_32 : decode (ch_bc m_y_closeOrder) 32 = .ok (.iload_n 1, 1) := by decide +kernel
theorem d_y_closeOrder_33 : decode (ch_bc m_y_closeOrder) 33 = .ok (.iload_n 3, 1) := by decide +kernel
theorem d_y_closeOrder_34 : decode (ch_bc m_y_closeOrder) 34 = .ok (.iastore, 1) := by decide +kernel
theorem d_y_closeOrder_35 : decode (ch_bc m_y_closeOrder) 35 = .ok (.iinc 1 1, 3) := by decide +kernel
theorem d_y_closeOrder_38 : decode (ch_bc m_y_closeOrder) 38 = .ok (.iinc 2 1, 3) := by decide +kernel
theorem d_y_closeOrder_41 : decode (ch_bc m_y_closeOrder) 41 = .ok (.goto (-37), 3) := by decide +kernel
theorem d_y_closeOrder_44 : decode (ch_bc m_y_closeOrder) 44 = .ok (.aload_n 0, 1) := by decide +kernel
theorem d_y_closeOrder_45 : decode (ch_bc m_y_closeOrder) 45 = .ok (.getfield 46, 3) := by decide +kernel
theorem d_y_closeOrder_48 : decode (ch_bc m_y_closeOrder) 48 = .ok (.iload_n 1, 1) := by decide +kernel
theorem d_y_closeOrder_49 : decode (ch_bc m_y_closeOrder) 49 = .ok (.isub, 1) := by decide +kernel
theorem d_y_closeOrder_50 : decode (ch_bc m_y_closeOrder) 50 = .ok (.istore_n 2, 1) := by decide +kernel
theorem d_y_closeOrder_51 : decode (ch_bc m_y_closeOrder) 51 = .ok (.aload_n 0, 1) := by decide +kernel
theorem d_y_closeOrder_52 : decode (ch_bc m_y_closeOrder) 52 = .ok (.iload_n 1, 1) := by decide +kernel
theorem d_y_closeOrder_53 : decode (ch_bc m_y_closeOrder) 53 = .ok (.putfield 46, 3) := by decide +kernel
theorem d_y_closeOrder_56 : decode (ch_bc m_y_closeOrder) 56 = .ok (.iload_n 2, 1) := by decide +kernel
theorem d_y_closeOrder_57 : decode (ch_bc m_y_closeOrder) 57 = .ok (.ireturn, 1) := by decide +kernel
theorem d_y_hasChild_0 : decode (ch_bc m_y_hasChild) 0 = .ok (.iload_n 1, 1) := by decide +kernel
theorem d_y_hasChild_1 : decode (ch_bc m_y_hasChild) 1 = .ok (.ifCond .lt 15, 3) := by decide +kernel
theorem d_y_hasChild_4 : decode (ch_bc m_y_hasChild) 4 = .ok (.iload_n 1, 1) := by decide +kernel
theorem d_y_hasChild_5 : decode (ch_bc m_y_hasChild) 5 = .ok (.aload_n 0, 1) := by decide +kernel
theorem d_y_hasChild_6 : decode (ch_bc m_y_hasChild) 6 = .ok (.getfield 42, 3) := by decide +kernel
theorem d_y_hasChild_9 : decode (ch_bc m_y_hasChild) 9 = .ok (.if_icmp .ge 7, 3) := by decide +kernel
theorem d_y_hasChild_12 : decode (ch_bc m_y_hasChild) 12 = .ok (.iconst 1, 1) := by decide +kernel
theorem d_y_hasChild_13 : decode (ch_bc m_y_hasChild) 13 = .ok (.goto 4, 3) := by decide +kernel
theorem d_y_hasChild_16 : decode (ch_bc m_y_hasChild) 16 = .ok (.iconst 0, 1) := by decide +kernel
theorem d_y_hasChild_17 : decode (ch_bc m_y_hasChild) 17 = .ok (.ireturn, 1) := by decide +kernel
theorem d_y_isLineFor_0 : decode (ch_bc m_y_isLineFor) 0 = .ok (.iload_n 2, 1) := by decide +kernel
theorem d_y_isLineFor_1 : decode (ch_bc m_y_isLineFor) 1 = .ok (.ifCond .lt 33, 3) := by decide +kernel
theorem d_y_isLineFor_4 : decode (ch_bc m_y_isLineFor) 4 = .ok (.iload_n 2, 1) := by decide +kernel
theorem d_y_isLineFor_5 : decode (ch_bc m_y_isLineFor) 5 = .ok (.bipush 12, 2) := by decide +kernel
theorem d_y_isLineFor_7 : decode (ch_bc m_y_isLineFor) 7 = .ok (.if_icmp .ge 27, 3) := by decide +kernel
theorem d_y_isLineFor_10 : decode (ch_bc m_y_isLineFor) 10 = .ok (.aload_n 0, 1) := by decide +kernel
theorem d_y_isLineFor_11 : decode (ch_bc m_y_isLineFor) 11 = .ok (.getfield 9, 3) := by decide +kernel
theorem d_y_isLineFor_14 : decode (ch_bc m_y_isLineFor) 14 = .ok (.iload_n 2, 1) := by decide +kernel
theorem d_y_isLineFor_15 : decode (ch_bc m_y_isLineFor) 15 = .ok (.iaload, 1) := by decide +kernel
theorem d_y_isLineFor_16 : decode (ch_bc m_y_isLineFor) 16 = .ok (.iconst (-1), 1) := by decide +kernel
theorem d_y_isLineFor_17 : decode (ch_bc m_y_isLineFor) 17 = .ok (.if_icmp .eq 17, 3) := by decide +kernel
theorem d_y_isLineFor_20 : decode (ch_bc m_y_isLineFor) 20 = .ok (.aload_n 0, 1) := by decide +kernel
theorem d_y_isLineFor_21 : decode (ch_bc m_y_isLineFor) 21 = .ok (.getfield 9, 3) := by decide +kernel
theorem d_y_isLineFor_24 : decode (ch_bc m_y_isLineFor) 24 = .ok (.iload_n 2, 1) := by decide +kernel
theorem d_y_isLineFor_25 : decode (ch_bc m_y_isLineFor) 25 = .ok (.iaload, 1) := by decide +kernel
theorem d_y_isLineFor_26 : decode (ch_bc m_y_isLineFor) 26 = .ok (.iload_n 1, 1) := by decide +kernel
theorem d_y_isLineFor_27 : decode (ch_bc m_y_isLineFor) 27 = .ok (.if_icmp .eq 7, 3) := by decide +kernel
theorem d_y_isLineFor_30 : decode (ch_bc m_y_isLineFor) 30 = .ok (.iconst 1, 1) := by decide +kernel
theorem d_y_isLineFor_31 : decode (ch_bc m_y_isLineFor) 31 = .ok (.goto 4, 3) := by decide +kernel
theorem d_y_isLineFor_34 : decode (ch_bc m_y_isLineFor) 34 = .ok (.iconst 0, 1) := by decide +kernel
theorem d_y_isLineFor_35 : decode (ch_bc m_y_isLineFor) 35 = .ok (.ireturn, 1) := by decide +kernel
theorem d_y_countTreads_0 : decode (ch_bc m_y_countTreads) 0 = .ok (.iconst 0, 1) := by decide +kernel
theorem d_y_countTreads_1 : decode (ch_bc m_y_countTreads) 1 = .ok (.istore_n 3, 1) := by decide +kernel
theorem d_y_countTreads_2 : decode (ch_bc m_y_countTreads) 2 = .ok (.iconst (-1), 1) := by decide +kernel
theorem d_y_countTreads_3 : decode (ch_bc m_y_countTreads) 3 = .ok (.istore 4, 2) := by decide +kernel
theorem d_y_countTreads_5 : decode (ch_bc m_y_countTreads) 5 = .ok (.iconst 0, 1) := by decide +kernel
theorem d_y_countTreads_6 : decode (ch_bc m_y_countTreads) 6 = .ok (.istore 5, 2) := by decide +kernel
theorem d_y_countTreads_8 : decode (ch_bc m_y_countTreads) 8 = .ok (.iload 5, 2) := by decide +kernel
theorem d_y_countTreads_10 : decode (ch_bc m_y_countTreads) 10 = .ok (.aload_n 2, 1) := by decide +kernel
theorem d_y_countTreads_11 : decode (ch_bc m_y_countTreads) 11 = .ok (.getfield 125, 3) := by decide +kernel
theorem d_y_countTreads_14 : decode (ch_bc m_y_countTreads) 14 = .ok (.if_icmp .ge 34, 3) := by decide +kernel
theorem d_y_countTreads_17 : decode (ch_bc m_y_countTreads) 17 = .ok (.iload 4, 2) := by decide +kernel
theorem d_y_countTreads_19 : decode (ch_bc m_y_countTreads) 19 = .ok (.aload_n 2, 1) := by decide +kernel
theorem d_y_countTreads_20 : decode (ch_bc m_y_countTreads) 20 = .ok (.getfield 130, 3) := by decide +kernel
theorem d_y_countTreads_23 : decode (ch_bc m_y_countTreads) 23 = .ok (.iload 5, 2) := by decide +kernel
theorem d_y_countTreads_25 : decode (ch_bc m_y_countTreads) 25 = .ok (.iaload, 1) := by decide +kernel
theorem d_y_countTreads_26 : decode (ch_bc m_y_countTreads) 26 = .ok (.iadd, 1) := by decide +kernel
theorem d_y_countTreads_27 : decode (ch_bc m_y_countTreads) 27 = .ok (.istore 4, 2) := by decide +kernel
theorem d_y_countTreads_29 : decode (ch_bc m_y_countTreads) 29 = .ok (.aload_n 0, 1) := by decide +kernel
theorem d_y_countTreads_30 : decode (ch_bc m_y_countTreads) 30 = .ok (.iload_n 1, 1) := by decide +kernel
theorem d_y_countTreads_31 : decode (ch_bc m_y_countTreads) 31 = .ok (.iload 4, 2) := by decide +kernel
theorem d_y_countTreads_33 : decode (ch_bc m_y_countTreads) 33 = .ok (.invokevirtual 133, 3) := by decide +kernel
theorem d_y_countTreads_36 : decode (ch_bc m_y_countTreads) 36 = .ok (.ifCond .eq 6, 3) := by decide +kernel
theorem d_y_countTreads_39 : decode (ch_bc m_y_countTreads) 39 = .ok (.iinc 3 1, 3) := by decide +kernel
theorem d_y_countTreads_42 : decode (ch_bc m_y_countTreads) 42 = .ok (.iinc 5 1, 3) := by decide +kernel
theorem d_y_countTreads_45 : decode (ch_bc m_y_countTreads) 45 = .ok (.goto (-37), 3) := by decide +kernel
theorem d_y_countTreads_48 : decode (ch_bc m_y_countTreads) 48 = .ok (.iload_n 3, 1) := by decide +kernel
theorem d_y_countTreads_49 : decode (ch_bc m_y_countTreads) 49 = .ok (.ireturn, 1) := by decide +kernel
theorem d_y_countOwned_0 : decode (ch_bc m_y_countOwned) 0 = .ok (.iconst 0, 1) := by decide +kernel
theorem d_y_countOwned_1 : decode (ch_bc m_y_countOwned) 1 = .ok (.istore_n 2, 1) := by decide +kernel
theorem d_y_countOwned_2 : decode (ch_bc m_y_countOwned) 2 = .ok (.iconst 0, 1) := by decide +kernel
theorem d_y_countOwned_3 : decode (ch_bc m_y_countOwned) 3 = .ok (.istore_n 3, 1) := by decide +kernel
theorem d_y_countOwned_4 : decode (ch_bc m_y_countOwned) 4 = .ok (.iload_n 3, 1) := by decide +kernel
theorem d_y_countOwned_5 : decode (ch_bc m_y_countOwned) 5 = .ok (.bipush 12, 2) := by decide +kernel
theorem d_y_countOwned_7 : decode (ch_bc m_y_countOwned) 7 = .ok (.if_icmp .ge 22, 3) := by decide +kernel
theorem d_y_countOwned_10 : decode (ch_bc m_y_countOwned) 10 = .ok (.aload_n 0, 1) := by decide +kernel
theorem d_y_countOwned_11 : decode (ch_bc m_y_countOwned) 11 = .ok (.getfield 9, 3) := by decide +kernel
theorem d_y_countOwned_14 : decode (ch_bc m_y_countOwned) 14 = .ok (.iload_n 3, 1) := by decide +kernel
theorem d_y_countOwned_15 : decode (ch_bc m_y_countOwned) 15 = .ok (.iaload, 1) := by decide +kernel
theorem d_y_countOwned_16 : decode (ch_bc m_y_countOwned) 16 = .ok (.iload_n 1, 1) := by decide +kernel
theorem d_y_countOwned_17 : decode (ch_bc m_y_countOwned) 17 = .ok (.if_icmp .ne 6, 3) := by decide +kernel
theorem d_y_countOwned_20 : decode (ch_bc m_y_countOwned) 20 = .ok (.iinc 2 1, 3) := by decide +kernel
theorem d_y_countOwned_23 : decode (ch_bc m_y_countOwned) 23 = .ok (.iinc 3 1, 3) := by decide +kernel
theorem d_y_countOwned_26 : decode (ch_bc m_y_countOwned) 26 = .ok (.goto (-22), 3) := by decide +kernel
theorem d_y_countOwned_29 : decode (ch_bc m_y_countOwned) 29 = .ok (.iload_n 2, 1) := by decide +kernel
theorem d_y_countOwned_30 : decode (ch_bc m_y_countOwned) 30 = .ok (.ireturn, 1) := by decide +kernel
theorem d_y_ownedFrom_0 : decode (ch_bc m_y_ownedFrom) 0 = .ok (.iconst 0, 1) := by decide +kernel
theorem d_y_ownedFrom_1 : decode (ch_bc m_y_ownedFrom) 1 = .ok (.istore_n 3, 1) := by decide +kernel
theorem d_y_ownedFrom_2 : decode (ch_bc m_y_ownedFrom) 2 = .ok (.iconst 0, 1) := by decide +kernel
theorem d_y_ownedFrom_3 : decode (ch_bc m_y_ownedFrom) 3 = .ok (.istore 4, 2) := by decide +kernel
theorem d_y_ownedFrom_5 : decode (ch_bc m_y_ownedFrom) 5 = .ok (.iconst 0, 1) := by decide +kernel
theorem d_y_ownedFrom_6 : decode (ch_bc m_y_ownedFrom) 6 = .ok (.istore 5, 2) := by decide +kernel
theorem d_y_ownedFrom_8 : decode (ch_bc m_y_ownedFrom) 8 = .ok (.iload 5, 2) := by decide +kernel
theorem d_y_ownedFrom_10 : decode (ch_bc m_y_ownedFrom) 10 = .ok (.bipush 12, 2) := by decide +kernel
theorem d_y_ownedFrom_12 : decode (ch_bc m_y_ownedFrom) 12 = .ok (.if_icmp .ge 40, 3) := by decide +kernel
theorem d_y_ownedFrom_15 : decode (ch_bc m_y_ownedFrom) 15 = .ok (.aload_n 0, 1) := by decide +kernel
theorem d_y_ownedFrom_16 : decode (ch_bc m_y_ownedFrom) 16 = .ok (.getfield 9, 3) := by decide +kernel
theorem d_y_ownedFrom_19 : decode (ch_bc m_y_ownedFrom) 19 = .ok (.iload 5, 2) := by decide +kernel
theorem d_y_ownedFrom_21 : decode (ch_bc m_y_ownedFrom) 21 = .ok (.iaload, 1) := by decide +kernel
theorem d_y_ownedFrom_22 : decode (ch_bc m_y_ownedFrom) 22 = .ok (.iload_n 1, 1) := by decide +kernel
theorem d_y_ownedFrom_23 : decode (ch_bc m_y_ownedFrom) 23 = .ok (.if_icmp .ne 23, 3) := by decide +kernel
theorem d_y_ownedFrom_26 : decode (ch_bc m_y_ownedFrom) 26 = .ok (.iload_n 3, 1) := by decide +kernel
theorem d_y_ownedFrom_27 : decode (ch_bc m_y_ownedFrom) 27 = .ok (.iload 4, 2) := by decide +kernel
theorem d_y_ownedFrom_29 : decode (ch_bc m_y_ownedFrom) 29 = .ok (.iload_n 2, 1) := by decide +kernel
theorem d_y_ownedFrom_30 : decode (ch_bc m_y_ownedFrom) 30 = .ok (.if_icmp .lt 10, 3) := by decide +kernel
theorem d_y_ownedFrom_33 : decode (ch_bc m_y_ownedFrom) 33 = .ok (.iconst 1, 1) := by decide +kernel
theorem d_y_ownedFrom_34 : decode (ch_bc m_y_ownedFrom) 34 = .ok (.iload 5, 2) := by decide +kernel
theorem d_y_ownedFrom_36 : decode (ch_bc m_y_ownedFrom) 36 = .ok (.ishl, 1) := by decide +kernel
theorem d_y_ownedFrom_37 : decode (ch_bc m_y_ownedFrom) 37 = .ok (.goto 4, 3) := by decide +kernel
theorem d_y_ownedFrom_40 : decode (ch_bc m_y_ownedFrom) 40 = .ok (.iconst 0, 1) := by decide +kernel
theorem d_y_ownedFrom_41 : decode (ch_bc m_y_ownedFrom) 41 = .ok (.ior, 1) := by decide +kernel
theorem d_y_ownedFrom_42 : decode (ch_bc m_y_ownedFrom) 42 = .ok (.istore_n 3, 1) := by decide +kernel
theorem d_y_ownedFrom_43 : decode (ch_bc m_y_ownedFrom) 43 = .ok (.iinc 4 1, 3) := by decide +kernel
theorem d_y_ownedFrom_46 : decode (ch_bc m_y_ownedFrom) 46 = .ok (.iinc 5 1, 3) := by decide +kernel
theorem d_y_ownedFrom_49 : decode (ch_bc m_y_ownedFrom) 49 = .ok (.goto (-41), 3) := by decide +kernel
theorem d_y_ownedFrom_52 : decode (ch_bc m_y_ownedFrom) 52 = .ok (.iload_n 3, 1) := by decide +kernel
theorem d_y_ownedFrom_53 : decode (ch_bc m_y_ownedFrom) 53 = .ok (.ireturn, 1) := by decide +kernel
theorem d_y_sumChalk_0 : decode (ch_bc m_y_sumChalk) 0 = .ok (.iconst 0, 1) := by decide +kernel
theorem d_y_sumChalk_1 : decode (ch_bc m_y_sumChalk) 1 = .ok (.istore_n 2, 1) := by decide +kernel
theorem d_y_sumChalk_2 : decode (ch_bc m_y_sumChalk) 2 = .ok (.iconst 0, 1) := by decide +kernel
theorem d_y_sumChalk_3 : decode (ch_bc m_y_sumChalk) 3 = .ok (.istore_n 3, 1) := by decide +kernel
theorem d_y_sumChalk_4 : decode (ch_bc m_y_sumChalk) 4 = .ok (.iload_n 3, 1) := by decide +kernel
theorem d_y_sumChalk_5 : decode (ch_bc m_y_sumChalk) 5 = .ok (.bipush 12, 2) := by decide +kernel
theorem d_y_sumChalk_7 : decode (ch_bc m_y_sumChalk) 7 = .ok (.if_icmp .ge 32, 3) := by decide +kernel
theorem d_y_sumChalk_10 : decode (ch_bc m_y_sumChalk) 10 = .ok (.iload_n 2, 1) := by decide +kernel
theorem d_y_sumChalk_11 : decode (ch_bc m_y_sumChalk) 11 = .ok (.aload_n 0, 1) := by decide +kernel
theorem d_y_sumChalk_12 : decode (ch_bc m_y_sumChalk) 12 = .ok (.getfield 9, 3) := by decide +kernel
theorem d_y_sumChalk_15 : decode (ch_bc m_y_sumChalk) 15 = .ok (.iload_n 3, 1) := by decide +kernel
theorem d_y_sumChalk_16 : decode (ch_bc m_y_sumChalk) 16 = .ok (.iaload, 1) := by decide +kernel
theorem d_y_sumChalk_17 : decode (ch_bc m_y_sumChalk) 17 = .ok (.iload_n 1, 1) := by decide +kernel
theorem d_y_sumChalk_18 : decode (ch_bc m_y_sumChalk) 18 = .ok (.if_icmp .ne 12, 3) := by decide +kernel
theorem d_y_sumChalk_21 : decode (ch_bc m_y_sumChalk) 21 = .ok (.aload_n 0, 1) := by decide +kernel
theorem d_y_sumChalk_22 : decode (ch_bc m_y_sumChalk) 22 = .ok (.getfield 15, 3) := by decide +kernel
theorem d_y_sumChalk_25 : decode (ch_bc m_y_sumChalk) 25 = .ok (.iload_n 3, 1) := by decide +kernel
theorem d_y_sumChalk_26 : decode (ch_bc m_y_sumChalk) 26 = .ok (.iaload, 1) := by decide +kernel
theorem d_y_sumChalk_27 : decode (ch_bc m_y_sumChalk) 27 = .ok (.goto 4, 3) := by decide +kernel
theorem d_y_sumChalk_30 : decode (ch_bc m_y_sumChalk) 30 = .ok (.iconst 0, 1) := by decide +kernel
theorem d_y_sumChalk_31 : decode (ch_bc m_y_sumChalk) 31 = .ok (.iadd, 1) := by decide +kernel
theorem d_y_sumChalk_32 : decode (ch_bc m_y_sumChalk) 32 = .ok (.istore_n 2, 1) := by decide +kernel
theorem d_y_sumChalk_33 : decode (ch_bc m_y_sumChalk) 33 = .ok (.iinc 3 1, 3) := by decide +kernel
theorem d_y_sumChalk_36 : decode (ch_bc m_y_sumChalk) 36 = .ok (.goto (-32), 3) := by decide +kernel
theorem d_y_sumChalk_39 : decode (ch_bc m_y_sumChalk) 39 = .ok (.iload_n 2, 1) := by decide +kernel
theorem d_y_sumChalk_40 : decode (ch_bc m_y_sumChalk) 40 = .ok (.ireturn, 1) := by decide +kernel
theorem d_y_sumAllChalk_0 : decode (ch_bc m_y_sumAllChalk) 0 = .ok (.iconst 0, 1) := by decide +kernel
theorem d_y_sumAllChalk_1 : decode (ch_bc m_y_sumAllChalk) 1 = .ok (.istore_n 1, 1) := by decide +kernel
theorem d_y_sumAllChalk_2 : decode (ch_bc m_y_sumAllChalk) 2 = .ok (.iconst 0, 1) := by decide +kernel
theorem d_y_sumAllChalk_3 : decode (ch_bc m_y_sumAllChalk) 3 = .ok (.istore_n 2, 1) := by decide +kernel
theorem d_y_sumAllChalk_4 : decode (ch_bc m_y_sumAllChalk) 4 = .ok (.iload_n 2, 1) := by decide +kernel
theorem d_y_sumAllChalk_5 : decode (ch_bc m_y_sumAllChalk) 5 = .ok (.bipush 12, 2) := by decide +kernel
theorem d_y_sumAllChalk_7 : decode (ch_bc m_y_sumAllChalk) 7 = .ok (.if_icmp .ge 18, 3) := by decide +kernel
theorem d_y_sumAllChalk_10 : decode (ch_bc m_y_sumAllChalk) 10 = .ok (.iload_n 1, 1) := by decide +kernel
theorem d_y_sumAllChalk_11 : decode (ch_bc m_y_sumAllChalk) 11 = .ok (.aload_n 0, 1) := by decide +kernel
theorem d_y_sumAllChalk_12 : decode (ch_bc m_y_sumAllChalk) 12 = .ok (.getfield 15, 3) := by decide +kernel
theorem d_y_sumAllChalk_15 : decode (ch_bc m_y_sumAllChalk) 15 = .ok (.iload_n 2, 1) := by decide +kernel
theorem d_y_sumAllChalk_16 : decode (ch_bc m_y_sumAllChalk) 16 = .ok (.iaload, 1) := by decide +kernel
theorem d_y_sumAllChalk_17 : decode (ch_bc m_y_sumAllChalk) 17 = .ok (.iadd, 1) := by decide +kernel
theorem d_y_sumAllChalk_18 : decode (ch_bc m_y_sumAllChalk) 18 = .ok (.istore_n 1, 1) := by decide +kernel
theorem d_y_sumAllChalk_19 : decode (ch_bc m_y_sumAllChalk) 19 = .ok (.iinc 2 1, 3) := by decide +kernel
theorem d_y_sumAllChalk_22 : decode (ch_bc m_y_sumAllChalk) 22 = .ok (.goto (-18), 3) := by decide +kernel
theorem d_y_sumAllChalk_25 : decode (ch_bc m_y_sumAllChalk) 25 = .ok (.iload_n 1, 1) := by decide +kernel
theorem d_y_sumAllChalk_26 : decode (ch_bc m_y_sumAllChalk) 26 = .ok (.ireturn, 1) := by decide +kernel
theorem d_y_sumPebbles_0 : decode (ch_bc m_y_sumPebbles) 0 = .ok (.iconst 0, 1) := by decide +kernel
theorem d_y_sumPebbles_1 : decode (ch_bc m_y_sumPebbles) 1 = .ok (.istore_n 1, 1) := by decide +kernel
theorem d_y_sumPebbles_2 : decode (ch_bc m_y_sumPebbles) 2 = .ok (.iconst 0, 1) := by decide +kernel
theorem d_y_sumPebbles_3 : decode (ch_bc m_y_sumPebbles) 3 = .ok (.istore_n 2, 1) := by decide +kernel
theorem d_y_sumPebbles_4 : decode (ch_bc m_y_sumPebbles) 4 = .ok (.iload_n 2, 1) := by decide +kernel
theorem d_y_sumPebbles_5 : decode (ch_bc m_y_sumPebbles) 5 = .ok (.aload_n 0, 1) := by decide +kernel
theorem d_y_sumPebbles_6 : decode (ch_bc m_y_sumPebbles) 6 = .ok (.getfield 42, 3) := by decide +kernel
theorem d_y_sumPebbles_9 : decode (ch_bc m_y_sumPebbles) 9 = .ok (.if_icmp .ge 18, 3) := by decide +kernel
theorem d_y_sumPebbles_12 : decode (ch_bc m_y_sumPebbles) 12 = .ok (.iload_n 1, 1) := by decide +kernel
theorem d_y_sumPebbles_13 : decode (ch_bc m_y_sumPebbles) 13 = .ok (.aload_n 0, 1) := by decide +kernel
theorem d_y_sumPebbles_14 : decode (ch_bc m_y_sumPebbles) 14 = .ok (.getfield 18, 3) := by decide +kernel
theorem d_y_sumPebbles_17 : decode (ch_bc m_y_sumPebbles) 17 = .ok (.iload_n 2, 1) := by decide +kernel
theorem d_y_sumPebbles_18 : decode (ch_bc m_y_sumPebbles) 18 = .ok (.iaload, 1) := by decide +kernel
theorem d_y_sumPebbles_19 : decode (ch_bc m_y_sumPebbles) 19 = .ok (.iadd, 1) := by decide +kernel
theorem d_y_sumPebbles_20 : decode (ch_bc m_y_sumPebbles) 20 = .ok (.istore_n 1, 1) := by decide +kernel
theorem d_y_sumPebbles_21 : decode (ch_bc m_y_sumPebbles) 21 = .ok (.iinc 2 1, 3) := by decide +kernel
theorem d_y_sumPebbles_24 : decode (ch_bc m_y_sumPebbles) 24 = .ok (.goto (-20), 3) := by decide +kernel
theorem d_y_sumPebbles_27 : decode (ch_bc m_y_sumPebbles) 27 = .ok (.iload_n 1, 1) := by decide +kernel
theorem d_y_sumPebbles_28 : decode (ch_bc m_y_sumPebbles) 28 = .ok (.ireturn, 1) := by decide +kernel
theorem d_y_longestRun_0 : decode (ch_bc m_y_longestRun) 0 = .ok (.iconst 0, 1) := by decide +kernel
theorem d_y_longestRun_1 : decode (ch_bc m_y_longestRun) 1 = .ok (.istore_n 2, 1) := by decide +kernel
theorem d_y_longestRun_2 : decode (ch_bc m_y_longestRun) 2 = .ok (.iconst 0, 1) := by decide +kernel
theorem d_y_longestRun_3 : decode (ch_bc m_y_longestRun) 3 = .ok (.istore_n 3, 1) := by decide +kernel
theorem d_y_longestRun_4 : decode (ch_bc m_y_longestRun) 4 = .ok (.iconst 0, 1) := by decide +kernel
theorem d_y_longestRun_5 : decode (ch_bc m_y_longestRun) 5 = .ok (.istore 4, 2) := by decide +kernel
theorem d_y_longestRun_7 : decode (ch_bc m_y_longestRun) 7 = .ok (.iload 4, 2) := by decide +kernel
theorem d_y_longestRun_9 : decode (ch_bc m_y_longestRun) 9 = .ok (.bipush 12, 2) := by decide +kernel
theorem d_y_longestRun_11 : decode (ch_bc m_y_longestRun) 11 = .ok (.if_icmp .ge 34, 3) := by decide +kernel
theorem d_y_longestRun_14 : decode (ch_bc m_y_longestRun) 14 = .ok (.aload_n 0, 1) := by decide +kernel
theorem d_y_longestRun_15 : decode (ch_bc m_y_longestRun) 15 = .ok (.getfield 9, 3) := by decide +kernel
theorem d_y_longestRun_18 : decode (ch_bc m_y_longestRun) 18 = .ok (.iload 4, 2) := by decide +kernel
theorem d_y_longestRun_20 : decode (ch_bc m_y_longestRun) 20 = .ok (.iaload, 1) := by decide +kernel
theorem d_y_longestRun_21 : decode (ch_bc m_y_longestRun) 21 = .ok (.iload_n 1, 1) := by decide +kernel
theorem d_y_longestRun_22 : decode (ch_bc m_y_longestRun) 22 = .ok (.if_icmp .ne 9, 3) := by decide +kernel
theorem d_y_longestRun_25 : decode (ch_bc m_y_longestRun) 25 = .ok (.iload_n 3, 1) := by decide +kernel
theorem d_y_longestRun_26 : decode (ch_bc m_y_longestRun) 26 = .ok (.iconst 1, 1) := by decide +kernel
theorem d_y_longestRun_27 : decode (ch_bc m_y_longestRun) 27 = .ok (.iadd, 1) := by decide +kernel
theorem d_y_longestRun_28 : decode (ch_bc m_y_longestRun) 28 = .ok (.goto 4, 3) := by decide +kernel
theorem d_y_longestRun_31 : decode (ch_bc m_y_longestRun) 31 = .ok (.iconst 0, 1) := by decide +kernel
theorem d_y_longestRun_32 : decode (ch_bc m_y_longestRun) 32 = .ok (.istore_n 3, 1) := by decide +kernel
theorem d_y_longestRun_33 : decode (ch_bc m_y_longestRun) 33 = .ok (.iload_n 2, 1) := by decide +kernel
theorem d_y_longestRun_34 : decode (ch_bc m_y_longestRun) 34 = .ok (.iload_n 3, 1) := by decide +kernel
theorem d_y_longestRun_35 : decode (ch_bc m_y_longestRun) 35 = .ok (.invokestatic 143, 3) := by decide +kernel
theorem d_y_longestRun_38 : decode (ch_bc m_y_longestRun) 38 = .ok (.istore_n 2, 1) := by decide +kernel
theorem d_y_longestRun_39 : decode (ch_bc m_y_longestRun) 39 = .ok (.iinc 4 1, 3) := by decide +kernel
theorem d_y_longestRun_42 : decode (ch_bc m_y_longestRun) 42 = .ok (.goto (-35), 3) := by decide +kernel
theorem d_y_longestRun_45 : decode (ch_bc m_y_longestRun) 45 = .ok (.iload_n 2, 1) := by decide +kernel
theorem d_y_longestRun_46 : decode (ch_bc m_y_longestRun) 46 = .ok (.ireturn, 1) := by decide +kernel
theorem d_y_countAhead_0 : decode (ch_bc m_y_countAhead) 0 = .ok (.aload_n 0, 1) := by decide +kernel
theorem d_y_countAhead_1 : decode (ch_bc m_y_countAhead) 1 = .ok (.iload_n 1, 1) := by decide +kernel
theorem d_y_countAhead_2 : decode (ch_bc m_y_countAhead) 2 = .ok (.iload_n 2, 1) := by decide +kernel
theorem d_y_countAhead_3 : decode (ch_bc m_y_countAhead) 3 = .ok (.invokevirtual 149, 3) := by decide +kernel
theorem d_y_countAhead_6 : decode (ch_bc m_y_countAhead) 6 = .ok (.istore_n 3, 1) := by decide +kernel
theorem d_y_countAhead_7 : decode (ch_bc m_y_countAhead) 7 = .ok (.iconst 0, 1) := by decide +kernel
theorem d_y_countAhead_8 : decode (ch_bc m_y_countAhead) 8 = .ok (.istore 4, 2) := by decide +kernel
theorem d_y_countAhead_10 : decode (ch_bc m_y_countAhead) 10 = .ok (.iconst 0, 1) := by decide +kernel
theorem d_y_countAhead_11 : decode (ch_bc m_y_countAhead) 11 = .ok (.istore 5, 2) := by decide +kernel
theorem d_y_countAhead_13 : decode (ch_bc m_y_countAhead) 13 = .ok (.iload 5, 2) := by decide +kernel
theorem d_y_countAhead_15 : decode (ch_bc m_y_countAhead) 15 = .ok (.aload_n 0, 1) := by decide +kernel
theorem d_y_countAhead_16 : decode (ch_bc m_y_countAhead) 16 = .ok (.getfield 42, 3) := by decide +kernel
theorem d_y_countAhead_19 : decode (ch_bc m_y_countAhead) 19 = .ok (.if_icmp .ge 39, 3) := by decide +kernel
theorem d_y_countAhead_22 : decode (ch_bc m_y_countAhead) 22 = .ok (.aload_n 0, 1) := by decide +kernel
theorem d_y_countAhead_23 : decode (ch_bc m_y_countAhead) 23 = .ok (.iload 5, 2) := by decide +kernel
theorem d_y_countAhead_25 : decode (ch_bc m_y_countAhead) 25 = .ok (.iload_n 2, 1) := by decide +kernel
theorem d_y_countAhead_26 : decode (ch_bc m_y_countAhead) 26 = .ok (.invokevirtual 149, 3) := by decide +kernel
theorem d_y_countAhead_29 : decode (ch_bc m_y_countAhead) 29 = .ok (.istore 6, 2) := by decide +kernel
theorem d_y_countAhead_31 : decode (ch_bc m_y_countAhead) 31 = .ok (.iload 6, 2) := by decide +kernel
theorem d_y_countAhead_33 : decode (ch_bc m_y_countAhead) 33 = .ok (.iload_n 3, 1) := by decide +kernel
theorem d_y_countAhead_34 : decode (ch_bc m_y_countAhead) 34 = .ok (.if_icmp .gt 15, 3) := by decide +kernel
theorem d_y_countAhead_37 : decode (ch_bc m_y_countAhead) 37 = .ok (.iload 6, 2) := by decide +kernel
theorem d_y_countAhead_39 : decode (ch_bc m_y_countAhead) 39 = .ok (.iload_n 3, 1) := by decide +kernel
theorem d_y_countAhead_40 : decode (ch_bc m_y_countAhead) 40 = .ok (.if_icmp .ne 12, 3) := by decide +kernel
theorem d_y_countAhead_43 : decode (ch_bc m_y_countAhead) 43 = .ok (.iload 5, 2) := by decide +kernel
theorem d_y_countAhead_45 : decode (ch_bc m_y_countAhead) 45 = .ok (.iload_n 1, 1) := by decide +kernel
theorem d_y_countAhead_46 : decode (ch_bc m_y_countAhead) 46 = .ok (.if_icmp .ge 6, 3) := by decide +kernel
theorem d_y_countAhead_49 : decode (ch_bc m_y_countAhead) 49 = .ok (.iinc 4 1, 3) := by decide +kernel
theorem d_y_countAhead_52 : decode (ch_bc m_y_countAhead) 52 = .ok (.iinc 5 1, 3) := by decide +kernel
theorem d_y_countAhead_55 : decode (ch_bc m_y_countAhead) 55 = .ok (.goto (-42), 3) := by decide +kernel
theorem d_y_countAhead_58 : decode (ch_bc m_y_countAhead) 58 = .ok (.iload 4, 2) := by decide +kernel
theorem d_y_countAhead_60 : decode (ch_bc m_y_countAhead) 60 = .ok (.ireturn, 1) := by decide +kernel
theorem d_y_measureOf_0 : decode (ch_bc m_y_measureOf) 0 = .ok (.iload_n 2, 1) := by decide +kernel
theorem d_y_measureOf_1 : decode (ch_bc m_y_measureOf) 1 = .ok (.tableswitch 47 0 2 #[27, 34, 40], 27) := by decide +kernel
theorem d_y_measureOf_28 : decode (ch_bc m_y_measureOf) 28 = .ok (.aload_n 0, 1) := by decide +kernel
theorem d_y_measureOf_29 : decode (ch_bc m_y_measureOf) 29 = .ok (.getfield 18, 3) := by decide +kernel
theorem d_y_measureOf_32 : decode (ch_bc m_y_measureOf) 32 = .ok (.iload_n 1, 1) := by decide +kernel
theorem d_y_measureOf_33 : decode (ch_bc m_y_measureOf) 33 = .ok (.iaload, 1) := by decide +kernel
theorem d_y_measureOf_34 : decode (ch_bc m_y_measureOf) 34 = .ok (.ireturn, 1) := by decide +kernel
theorem d_y_measureOf_35 : decode (ch_bc m_y_measureOf) 35 = .ok (.aload_n 0, 1) := by decide +kernel
theorem d_y_measureOf_36 : decode (ch_bc m_y_measureOf) 36 = .ok (.iload_n 1, 1) := by decide +kernel
theorem d_y_measureOf_37 : decode (ch_bc m_y_measureOf) 37 = .ok (.invokevirtual 152, 3) := by decide +kernel
theorem d_y_measureOf_40 : decode (ch_bc m_y_measureOf) 40 = .ok (.ireturn, 1) := by decide +kernel
theorem d_y_measureOf_41 : decode (ch_bc m_y_measureOf) 41 = .ok (.aload_n 0, 1) := by decide +kernel
theorem d_y_measureOf_42 : decode (ch_bc m_y_measureOf) 42 = .ok (.getfield 21, 3) := by decide +kernel
theorem d_y_measureOf_45 : decode (ch_bc m_y_measureOf) 45 = .ok (.iload_n 1, 1) := by decide +kernel
theorem d_y_measureOf_46 : decode (ch_bc m_y_measureOf) 46 = .ok (.iaload, 1) := by decide +kernel
theorem d_y_measureOf_47 : decode (ch_bc m_y_measureOf) 47 = .ok (.ireturn, 1) := by decide +kernel
theorem d_y_measureOf_48 : decode (ch_bc m_y_measureOf) 48 = .ok (.aload_n 0, 1) := by decide +kernel
theorem d_y_measureOf_49 : decode (ch_bc m_y_measureOf) 49 = .ok (.getfield 24, 3) := by decide +kernel
theorem d_y_measureOf_52 : decode (ch_bc m_y_measureOf) 52 = .ok (.iload_n 1, 1) := by decide +kernel
theorem d_y_measureOf_53 : decode (ch_bc m_y_measureOf) 53 = .ok (.iaload, 1) := by decide +kernel
theorem d_y_measureOf_54 : decode (ch_bc m_y_measureOf) 54 = .ok (.ireturn, 1) := by decide +kernel
end
section
/-! pure words -/
theorem ch_oi_iff {q : Int32 → ch_M → Prop} {r : Int32} {m : ch_M} : ch_oi q (.inl (some (.inl (.int r)))) m ↔ q r m :=
  ⟨fun ⟨_, e, h⟩ => by cases e; exact h, fun h => ⟨r, rfl, h⟩⟩
theorem ch_ov_iff {q : ch_M → Prop} {m : ch_M} : ch_ov q (.inl none) m ↔ q m := ⟨fun h => h.2, fun h => ⟨rfl, h⟩⟩
theorem ch_of_iff {q : UInt32 → ch_M → Prop} {r : UInt32} {m : ch_M} : ch_of q (.inl (some (.inl (.float r)))) m ↔ q r m :=
  ⟨fun ⟨_, e, h⟩ => by cases e; exact h, fun h => ⟨r, rfl, h⟩⟩
theorem ch_od_iff {q : UInt64 → ch_M → Prop} {r : UInt64} {m : ch_M} : ch_od q (.inl (some (.inl (.double r)))) m ↔ q r m :=
  ⟨fun ⟨_, e, h⟩ => by cases e; exact h, fun h => ⟨r, rfl, h⟩⟩
theorem ch_ox_l {q : ch_O → ch_M → Prop} {x : Nat → ch_M → Prop} {v : Option ch_V} {m : ch_M} : ch_ox q x (.inl v) m ↔ q (.inl v) m :=
  ⟨fun h => h.elim id (fun ⟨_, e, _⟩ => by cases e), Or.inl⟩
theorem ch_ox_oi {q : Int32 → ch_M → Prop} {x : Nat → ch_M → Prop} {n : Nat} {m : ch_M} : ch_ox (ch_oi q) x (.inr n) m ↔ n < 6 ∧ x n m :=
  ⟨fun h => h.elim (fun ⟨_, e, _⟩ => by cases e) (fun ⟨n', e, h⟩ => by cases e; exact h), fun h => Or.inr ⟨n, rfl, h⟩⟩
theorem ch_ox_ov {q : ch_M → Prop} {x : Nat → ch_M → Prop} {n : Nat} {m : ch_M} : ch_ox (ch_ov q) x (.inr n) m ↔ n < 6 ∧ x n m :=
  ⟨fun h => h.elim (fun e => by cases e.1) (fun ⟨n', e, h⟩ => by cases e; exact h), fun h => Or.inr ⟨n, rfl, h⟩⟩
theorem ch_ox_od {q : UInt64 → ch_M → Prop} {x : Nat → ch_M → Prop} {n : Nat} {m : ch_M} : ch_ox (ch_od q) x (.inr n) m ↔ n < 6 ∧ x n m :=
  ⟨fun h => h.elim (fun ⟨_, e, _⟩ => by cases e) (fun ⟨n', e, h⟩ => by cases e; exact h), fun h => Or.inr ⟨n, rfl, h⟩⟩
/-- an object's cells in the memory: by part and place -/
abbrev ch_B : Type := Nat → Nat → Int32
def ch_ob (m : ch_M) (ci j : Nat) : ch_B := fun c k => m (ci, j, c) k
def ch_os (m : ch_M) (ci j : Nat) (B : ch_B) : ch_M := fun a k => if a.1 = ci ∧ a.2.1 = j then B a.2.2 k else m a k
def ch_bw (B : ch_B) (c k : Nat) (v : Int32) : ch_B := fun c' k' => if c' = c ∧ k' = k then v else B c' k'
theorem ch_os_at (m : ch_M) (ci j c k : Nat) (B : ch_B) : ch_os m ci j B (ci, j, c) k = B c k := by unfold ch_os; rw [if_pos ⟨rfl, rfl⟩]
theorem ch_os_ne {m : ch_M} {ci j : Nat} {B : ch_B} {a : ch_Ad} (h : ¬ (a.1 = ci ∧ a.2.1 = j)) : ch_os m ci j B a = m a := by
  funext k
  unfold ch_os
  rw [if_neg h]
theorem ch_os_self (m : ch_M) (ci j : Nat) : ch_os m ci j (ch_ob m ci j) = m := by
  funext a k
  unfold ch_os ch_ob
  by_cases h : a.1 = ci ∧ a.2.1 = j
  · obtain ⟨x, y, z⟩ := a
    obtain ⟨rfl, rfl⟩ := h
    rw [if_pos ⟨rfl, rfl⟩]
  · rw [if_neg h]
theorem ch_os_os (m : ch_M) (ci j : Nat) (B B' : ch_B) : ch_os (ch_os m ci j B) ci j B' = ch_os m ci j B' := by
  funext a k
  unfold ch_os
  by_cases h : a.1 = ci ∧ a.2.1 = j
  · rw [if_pos h, if_pos h]
  · rw [if_neg h, if_neg h, if_neg h]
theorem ch_ob_os (m : ch_M) (ci j : Nat) (B : ch_B) : ch_ob (ch_os m ci j B) ci j = B := by
  funext c k
  exact ch_os_at m ci j c k B
theorem ch_os_wr (m : ch_M) (ci j c k : Nat) (B : ch_B) (v : Int32) : ch_wr (ch_os m ci j B) (ci, j, c) k v = ch_os m ci j (ch_bw B c k v) := by
  funext a i
  obtain ⟨x, y, z⟩ := a
  unfold ch_wr ch_os ch_bw
  simp only [Prod.mk.injEq]
  by_cases h : x = ci ∧ y = j
  · obtain ⟨rfl, rfl⟩ := h
    simp
  · have h2 : ¬ ((x = ci ∧ y = j ∧ z = c) ∧ i = k) := fun q => h ⟨q.1.1, q.1.2.1⟩
    rw [if_neg h2, if_neg h, if_neg h]
theorem ch_bw_at (B : ch_B) (c k : Nat) (v : Int32) : ch_bw B c k v c k = v := by unfold ch_bw; rw [if_pos ⟨rfl, rfl⟩]
theorem ch_bw_c {B : ch_B} {c k c' k' : Nat} {v : Int32} (h : c' ≠ c) : ch_bw B c k v c' k' = B c' k' := by unfold ch_bw; rw [if_neg (fun q => h q.1)]
theorem ch_bw_k {B : ch_B} {c k c' k' : Nat} {v : Int32} (h : k' ≠ k) : ch_bw B c k v c' k' = B c' k' := by unfold ch_bw; rw [if_neg (fun q => h q.2)]
theorem ch_wr_os (m : ch_M) (ci j c k : Nat) (v : Int32) : ch_wr m (ci, j, c) k v = ch_os m ci j (ch_bw (ch_ob m ci j) c k v) := by
  have h := ch_os_wr m ci j c k (ch_ob m ci j) v
  rw [ch_os_self] at h
  exact h
/-- a way from the end back -/
theorem ch_down (P : Nat → Prop) (N : Nat) (hN : P N) (hs : ∀ k, k < N → P (k + 1) → P k) : ∀ k, k ≤ N → P k := by
  intro k hk
  obtain ⟨n, rfl⟩ : ∃ n, N = k + n := ⟨N - k, by omega⟩
  clear hk
  induction n generalizing k with
  | zero => exact hN
  | succ n ih => exact hs k (by omega) (ih (k + 1) (by rw [show k + 1 + n = k + (n + 1) by omega]; exact hN) (fun i hi => hs i (by omega)))
/-- how many of the first n cells hold o -/
def ch_cnO (f : Nat → Int32) (o : Int32) : Nat → Int32
  | 0 => 0
  | n + 1 => if f n = o then ch_cnO f o n + 1 else ch_cnO f o n
theorem ch_lit (n : Nat) (x : Int32) (h : nI n = x := by decide) : nI n = x := h
end
