section
/-- a private method of a class that the tables say can be made, by its rows of tables_1 -/
def lw_okq (q : MethodName × Nat) : Prop := (q.1.cls ≠ "java/lang/invoke/MethodHandle" ∧ q.1.cls ≠ "java/lang/invoke/VarHandle") ∧ Cond.instantiable q.1.cls q.2 ∈ tables_1 ∧ Cond.privateMethod q.1 ∈ tables_1 ∧ Cond.instanceMethod q.1 ∈ tables_1
theorem lw_p0 : lw_okq (⟨"ChalkWarrants", "change", "()I"⟩, 14) := ⟨⟨by decide +kernel, by decide +kernel⟩, List.mem_of_getElem? (i := 35) (by decide +kernel), List.mem_of_getElem? (i := 352) (by decide +kernel), List.mem_of_getElem? (i := 353) (by decide +kernel)⟩
theorem lw_p1 : lw_okq (⟨"ChalkWarrants$Reasons", "refuseChild", "(LChalkWarrants$Yard;I)Z"⟩, 3) := ⟨⟨by decide +kernel, by decide +kernel⟩, List.mem_of_getElem? (i := 145) (by decide +kernel), List.mem_of_getElem? (i := 360) (by decide +kernel), List.mem_of_getElem? (i := 361) (by decide +kernel)⟩
theorem lw_p2 : lw_okq (⟨"ChalkWarrants$Reasons", "lacksRange", "(III)Z"⟩, 3) := ⟨⟨by decide +kernel, by decide +kernel⟩, List.mem_of_getElem? (i := 145) (by decide +kernel), List.mem_of_getElem? (i := 364) (by decide +kernel), List.mem_of_getElem? (i := 365) (by decide +kernel)⟩
theorem lw_p3 : lw_okq (⟨"ChalkWarrants$Reasons", "keep", "(II)Z"⟩, 3) := ⟨⟨by decide +kernel, by decide +kernel⟩, List.mem_of_getElem? (i := 145) (by decide +kernel), List.mem_of_getElem? (i := 368) (by decide +kernel), List.mem_of_getElem? (i := 369) (by decide +kernel)⟩
theorem lw_p4 : lw_okq (⟨"ChalkWarrants$Reasons", "refuseChalk", "(LChalkWarrants$Yard;II)Z"⟩, 3) := ⟨⟨by decide +kernel, by decide +kernel⟩, List.mem_of_getElem? (i := 145) (by decide +kernel), List.mem_of_getElem? (i := 372) (by decide +kernel), List.mem_of_getElem? (i := 373) (by decide +kernel)⟩
theorem lw_p5 : lw_okq (⟨"ChalkWarrants$Reasons", "lacksChild", "(LChalkWarrants$Yard;I)Z"⟩, 3) := ⟨⟨by decide +kernel, by decide +kernel⟩, List.mem_of_getElem? (i := 145) (by decide +kernel), List.mem_of_getElem? (i := 376) (by decide +kernel), List.mem_of_getElem? (i := 377) (by decide +kernel)⟩
theorem lw_p6 : lw_okq (⟨"ChalkWarrants$Reasons", "lacksPebbles", "(LChalkWarrants$Yard;II)Z"⟩, 3) := ⟨⟨by decide +kernel, by decide +kernel⟩, List.mem_of_getElem? (i := 145) (by decide +kernel), List.mem_of_getElem? (i := 384) (by decide +kernel), List.mem_of_getElem? (i := 385) (by decide +kernel)⟩
theorem lw_p7 : lw_okq (⟨"ChalkWarrants$Reasons", "refuseHop", "(LChalkWarrants$Yard;ILChalkWarrants$Steps;)Z"⟩, 3) := ⟨⟨by decide +kernel, by decide +kernel⟩, List.mem_of_getElem? (i := 145) (by decide +kernel), List.mem_of_getElem? (i := 388) (by decide +kernel), List.mem_of_getElem? (i := 389) (by decide +kernel)⟩
theorem lw_p8 : lw_okq (⟨"ChalkWarrants$Reasons", "isWanted", "(LChalkWarrants$Yard;I)Z"⟩, 3) := ⟨⟨by decide +kernel, by decide +kernel⟩, List.mem_of_getElem? (i := 145) (by decide +kernel), List.mem_of_getElem? (i := 392) (by decide +kernel), List.mem_of_getElem? (i := 393) (by decide +kernel)⟩
theorem lw_p9 : lw_okq (⟨"ChalkWarrants$Reasons", "refuseWarrant", "(LChalkWarrants$Yard;I)Z"⟩, 3) := ⟨⟨by decide +kernel, by decide +kernel⟩, List.mem_of_getElem? (i := 145) (by decide +kernel), List.mem_of_getElem? (i := 400) (by decide +kernel), List.mem_of_getElem? (i := 401) (by decide +kernel)⟩
theorem lw_p10 : lw_okq (⟨"ChalkWarrants$Reasons", "refuseStrike", "(LChalkWarrants$Yard;I)Z"⟩, 3) := ⟨⟨by decide +kernel, by decide +kernel⟩, List.mem_of_getElem? (i := 145) (by decide +kernel), List.mem_of_getElem? (i := 404) (by decide +kernel), List.mem_of_getElem? (i := 405) (by decide +kernel)⟩
theorem lw_p11 : lw_okq (⟨"ChalkWarrants$Reasons", "refuseRain", "(LChalkWarrants$Yard;I)Z"⟩, 3) := ⟨⟨by decide +kernel, by decide +kernel⟩, List.mem_of_getElem? (i := 145) (by decide +kernel), List.mem_of_getElem? (i := 408) (by decide +kernel), List.mem_of_getElem? (i := 409) (by decide +kernel)⟩
theorem lw_p12 : lw_okq (⟨"ChalkWarrants$Reasons", "refuseTerm", "(LChalkWarrants$Yard;)Z"⟩, 3) := ⟨⟨by decide +kernel, by decide +kernel⟩, List.mem_of_getElem? (i := 145) (by decide +kernel), List.mem_of_getElem? (i := 416) (by decide +kernel), List.mem_of_getElem? (i := 417) (by decide +kernel)⟩
theorem lw_p13 : lw_okq (⟨"ChalkWarrants$Reasons", "refuseGift", "(LChalkWarrants$Yard;III)Z"⟩, 3) := ⟨⟨by decide +kernel, by decide +kernel⟩, List.mem_of_getElem? (i := 145) (by decide +kernel), List.mem_of_getElem? (i := 420) (by decide +kernel), List.mem_of_getElem? (i := 421) (by decide +kernel)⟩
theorem lw_p14 : lw_okq (⟨"java/lang/Throwable", "fillInStackTrace", "(I)Ljava/lang/Throwable;"⟩, 6) := ⟨⟨by decide +kernel, by decide +kernel⟩, List.mem_of_getElem? (i := 466) (by decide +kernel), List.mem_of_getElem? (i := 464) (by decide +kernel), List.mem_of_getElem? (i := 465) (by decide +kernel)⟩
theorem lw_p15 : lw_okq (⟨"ChalkWarrants$Yard", "bring", "(I)I"⟩, 17) := ⟨⟨by decide +kernel, by decide +kernel⟩, List.mem_of_getElem? (i := 43) (by decide +kernel), List.mem_of_getElem? (i := 501) (by decide +kernel), List.mem_of_getElem? (i := 502) (by decide +kernel)⟩
def lw_privs_1 : List (MethodName × Nat) := [(⟨"ChalkWarrants", "change", "()I"⟩, 14), (⟨"ChalkWarrants$Reasons", "refuseChild", "(LChalkWarrants$Yard;I)Z"⟩, 3), (⟨"ChalkWarrants$Reasons", "lacksRange", "(III)Z"⟩, 3), (⟨"ChalkWarrants$Reasons", "keep", "(II)Z"⟩, 3), (⟨"ChalkWarrants$Reasons", "refuseChalk", "(LChalkWarrants$Yard;II)Z"⟩, 3), (⟨"ChalkWarrants$Reasons", "lacksChild", "(LChalkWarrants$Yard;I)Z"⟩, 3), (⟨"ChalkWarrants$Reasons", "lacksPebbles", "(LChalkWarrants$Yard;II)Z"⟩, 3), (⟨"ChalkWarrants$Reasons", "refuseHop", "(LChalkWarrants$Yard;ILChalkWarrants$Steps;)Z"⟩, 3), (⟨"ChalkWarrants$Reasons", "isWanted", "(LChalkWarrants$Yard;I)Z"⟩, 3), (⟨"ChalkWarrants$Reasons", "refuseWarrant", "(LChalkWarrants$Yard;I)Z"⟩, 3), (⟨"ChalkWarrants$Reasons", "refuseStrike", "(LChalkWarrants$Yard;I)Z"⟩, 3), (⟨"ChalkWarrants$Reasons", "refuseRain", "(LChalkWarrants$Yard;I)Z"⟩, 3), (⟨"ChalkWarrants$Reasons", "refuseTerm", "(LChalkWarrants$Yard;)Z"⟩, 3), (⟨"ChalkWarrants$Reasons", "refuseGift", "(LChalkWarrants$Yard;III)Z"⟩, 3), (⟨"java/lang/Throwable", "fillInStackTrace", "(I)Ljava/lang/Throwable;"⟩, 6), (⟨"ChalkWarrants$Yard", "bring", "(I)I"⟩, 17)]
theorem lw_r1 : ∀ q ∈ lw_privs_1, lw_okq q := List.forall_mem_cons.mpr ⟨lw_p0, List.forall_mem_cons.mpr ⟨lw_p1, List.forall_mem_cons.mpr ⟨lw_p2, List.forall_mem_cons.mpr ⟨lw_p3, List.forall_mem_cons.mpr ⟨lw_p4, List.forall_mem_cons.mpr ⟨lw_p5, List.forall_mem_cons.mpr ⟨lw_p6, List.forall_mem_cons.mpr ⟨lw_p7, List.forall_mem_cons.mpr ⟨lw_p8, List.forall_mem_cons.mpr ⟨lw_p9, List.forall_mem_cons.mpr ⟨lw_p10, List.forall_mem_cons.mpr ⟨lw_p11, List.forall_mem_cons.mpr ⟨lw_p12, List.forall_mem_cons.mpr ⟨lw_p13, List.forall_mem_cons.mpr ⟨lw_p14, List.forall_mem_cons.mpr ⟨lw_p15, fun _ h => absurd h List.not_mem_nil⟩⟩⟩⟩⟩⟩⟩⟩⟩⟩⟩⟩⟩⟩⟩⟩
theorem lw_p16 : lw_okq (⟨"ChalkWarrants$Yard", "chalkOn", "(II)I"⟩, 17) := ⟨⟨by decide +kernel, by decide +kernel⟩, List.mem_of_getElem? (i := 43) (by decide +kernel), List.mem_of_getElem? (i := 505) (by decide +kernel), List.mem_of_getElem? (i := 506) (by decide +kernel)⟩
theorem lw_p17 : lw_okq (⟨"ChalkWarrants$Yard", "hopBy", "(ILChalkWarrants$Steps;)I"⟩, 17) := ⟨⟨by decide +kernel, by decide +kernel⟩, List.mem_of_getElem? (i := 43) (by decide +kernel), List.mem_of_getElem? (i := 512) (by decide +kernel), List.mem_of_getElem? (i := 513) (by decide +kernel)⟩
theorem lw_p18 : lw_okq (⟨"ChalkWarrants$Yard", "takeChalk", "(II)Z"⟩, 17) := ⟨⟨by decide +kernel, by decide +kernel⟩, List.mem_of_getElem? (i := 43) (by decide +kernel), List.mem_of_getElem? (i := 524) (by decide +kernel), List.mem_of_getElem? (i := 525) (by decide +kernel)⟩
theorem lw_p19 : lw_okq (⟨"ChalkWarrants$Yard", "writeAgainst", "(I)I"⟩, 17) := ⟨⟨by decide +kernel, by decide +kernel⟩, List.mem_of_getElem? (i := 43) (by decide +kernel), List.mem_of_getElem? (i := 528) (by decide +kernel), List.mem_of_getElem? (i := 529) (by decide +kernel)⟩
theorem lw_p20 : lw_okq (⟨"ChalkWarrants$Yard", "strikeOut", "(I)I"⟩, 17) := ⟨⟨by decide +kernel, by decide +kernel⟩, List.mem_of_getElem? (i := 43) (by decide +kernel), List.mem_of_getElem? (i := 532) (by decide +kernel), List.mem_of_getElem? (i := 533) (by decide +kernel)⟩
theorem lw_p21 : lw_okq (⟨"ChalkWarrants$Yard", "closeOrder", "()I"⟩, 17) := ⟨⟨by decide +kernel, by decide +kernel⟩, List.mem_of_getElem? (i := 43) (by decide +kernel), List.mem_of_getElem? (i := 536) (by decide +kernel), List.mem_of_getElem? (i := 537) (by decide +kernel)⟩
theorem lw_p22 : lw_okq (⟨"ChalkWarrants$Yard", "payRents", "(I)I"⟩, 17) := ⟨⟨by decide +kernel, by decide +kernel⟩, List.mem_of_getElem? (i := 43) (by decide +kernel), List.mem_of_getElem? (i := 548) (by decide +kernel), List.mem_of_getElem? (i := 549) (by decide +kernel)⟩
theorem lw_p23 : lw_okq (⟨"ChalkWarrants$Yard", "handOver", "(III)I"⟩, 17) := ⟨⟨by decide +kernel, by decide +kernel⟩, List.mem_of_getElem? (i := 43) (by decide +kernel), List.mem_of_getElem? (i := 552) (by decide +kernel), List.mem_of_getElem? (i := 553) (by decide +kernel)⟩
theorem lw_p24 : lw_okq (⟨"ChalkWarrants", "checkChild", "(I)V"⟩, 14) := ⟨⟨by decide +kernel, by decide +kernel⟩, List.mem_of_getElem? (i := 35) (by decide +kernel), List.mem_of_getElem? (i := 604) (by decide +kernel), List.mem_of_getElem? (i := 605) (by decide +kernel)⟩
theorem lw_p25 : lw_okq (⟨"ChalkWarrants$Ways", "tryStep", "(LChalkWarrants$Yard;III)V"⟩, 3) := ⟨⟨by decide +kernel, by decide +kernel⟩, List.mem_of_getElem? (i := 250) (by decide +kernel), List.mem_of_getElem? (i := 655) (by decide +kernel), List.mem_of_getElem? (i := 656) (by decide +kernel)⟩
theorem lw_p26 : lw_okq (⟨"ChalkWarrants$Ways", "lineAt", "(LChalkWarrants$Yard;II)I"⟩, 3) := ⟨⟨by decide +kernel, by decide +kernel⟩, List.mem_of_getElem? (i := 250) (by decide +kernel), List.mem_of_getElem? (i := 659) (by decide +kernel), List.mem_of_getElem? (i := 660) (by decide +kernel)⟩
theorem lw_p27 : lw_okq (⟨"ChalkWarrants$Reader", "signAt", "(LChalkWarrants$Signs;)I"⟩, 1) := ⟨⟨by decide +kernel, by decide +kernel⟩, List.mem_of_getElem? (i := 239) (by decide +kernel), List.mem_of_getElem? (i := 744) (by decide +kernel), List.mem_of_getElem? (i := 745) (by decide +kernel)⟩
theorem lw_p28 : lw_okq (⟨"ChalkWarrants$Reader", "isKind", "(I)Z"⟩, 1) := ⟨⟨by decide +kernel, by decide +kernel⟩, List.mem_of_getElem? (i := 239) (by decide +kernel), List.mem_of_getElem? (i := 748) (by decide +kernel), List.mem_of_getElem? (i := 749) (by decide +kernel)⟩
theorem lw_p29 : lw_okq (⟨"ChalkWarrants$Reader", "takeNumber", "(LChalkWarrants$Signs;LChalkWarrants$Command;)Z"⟩, 1) := ⟨⟨by decide +kernel, by decide +kernel⟩, List.mem_of_getElem? (i := 239) (by decide +kernel), List.mem_of_getElem? (i := 753) (by decide +kernel), List.mem_of_getElem? (i := 754) (by decide +kernel)⟩
theorem lw_p30 : lw_okq (⟨"ChalkWarrants$Reader", "takeDigit", "(LChalkWarrants$Signs;LChalkWarrants$Command;)Z"⟩, 1) := ⟨⟨by decide +kernel, by decide +kernel⟩, List.mem_of_getElem? (i := 239) (by decide +kernel), List.mem_of_getElem? (i := 757) (by decide +kernel), List.mem_of_getElem? (i := 758) (by decide +kernel)⟩
theorem lw_p31 : lw_okq (⟨"ChalkWarrants$Reader", "digitAt", "(LChalkWarrants$Signs;)I"⟩, 1) := ⟨⟨by decide +kernel, by decide +kernel⟩, List.mem_of_getElem? (i := 239) (by decide +kernel), List.mem_of_getElem? (i := 761) (by decide +kernel), List.mem_of_getElem? (i := 762) (by decide +kernel)⟩
def lw_privs_2 : List (MethodName × Nat) := [(⟨"ChalkWarrants$Yard", "chalkOn", "(II)I"⟩, 17), (⟨"ChalkWarrants$Yard", "hopBy", "(ILChalkWarrants$Steps;)I"⟩, 17), (⟨"ChalkWarrants$Yard", "takeChalk", "(II)Z"⟩, 17), (⟨"ChalkWarrants$Yard", "writeAgainst", "(I)I"⟩, 17), (⟨"ChalkWarrants$Yard", "strikeOut", "(I)I"⟩, 17), (⟨"ChalkWarrants$Yard", "closeOrder", "()I"⟩, 17), (⟨"ChalkWarrants$Yard", "payRents", "(I)I"⟩, 17), (⟨"ChalkWarrants$Yard", "handOver", "(III)I"⟩, 17), (⟨"ChalkWarrants", "checkChild", "(I)V"⟩, 14), (⟨"ChalkWarrants$Ways", "tryStep", "(LChalkWarrants$Yard;III)V"⟩, 3), (⟨"ChalkWarrants$Ways", "lineAt", "(LChalkWarrants$Yard;II)I"⟩, 3), (⟨"ChalkWarrants$Reader", "signAt", "(LChalkWarrants$Signs;)I"⟩, 1), (⟨"ChalkWarrants$Reader", "isKind", "(I)Z"⟩, 1), (⟨"ChalkWarrants$Reader", "takeNumber", "(LChalkWarrants$Signs;LChalkWarrants$Command;)Z"⟩, 1), (⟨"ChalkWarrants$Reader", "takeDigit", "(LChalkWarrants$Signs;LChalkWarrants$Command;)Z"⟩, 1), (⟨"ChalkWarrants$Reader", "digitAt", "(LChalkWarrants$Signs;)I"⟩, 1)]
theorem lw_r2 : ∀ q ∈ lw_privs_2, lw_okq q := List.forall_mem_cons.mpr ⟨lw_p16, List.forall_mem_cons.mpr ⟨lw_p17, List.forall_mem_cons.mpr ⟨lw_p18, List.forall_mem_cons.mpr ⟨lw_p19, List.forall_mem_cons.mpr ⟨lw_p20, List.forall_mem_cons.mpr ⟨lw_p21, List.forall_mem_cons.mpr ⟨lw_p22, List.forall_mem_cons.mpr ⟨lw_p23, List.forall_mem_cons.mpr ⟨lw_p24, List.forall_mem_cons.mpr ⟨lw_p25, List.forall_mem_cons.mpr ⟨lw_p26, List.forall_mem_cons.mpr ⟨lw_p27, List.forall_mem_cons.mpr ⟨lw_p28, List.forall_mem_cons.mpr ⟨lw_p29, List.forall_mem_cons.mpr ⟨lw_p30, List.forall_mem_cons.mpr ⟨lw_p31, fun _ h => absurd h List.not_mem_nil⟩⟩⟩⟩⟩⟩⟩⟩⟩⟩⟩⟩⟩⟩⟩⟩
theorem lw_p32 : lw_okq (⟨"ChalkWarrants$Reader", "passDigit", "(LChalkWarrants$Signs;)Z"⟩, 1) := ⟨⟨by decide +kernel, by decide +kernel⟩, List.mem_of_getElem? (i := 239) (by decide +kernel), List.mem_of_getElem? (i := 765) (by decide +kernel), List.mem_of_getElem? (i := 766) (by decide +kernel)⟩
theorem lw_p33 : lw_okq (⟨"ChalkWarrants$Reader", "takeChild", "(LChalkWarrants$Signs;LChalkWarrants$Command;)Z"⟩, 1) := ⟨⟨by decide +kernel, by decide +kernel⟩, List.mem_of_getElem? (i := 239) (by decide +kernel), List.mem_of_getElem? (i := 769) (by decide +kernel), List.mem_of_getElem? (i := 770) (by decide +kernel)⟩
theorem lw_p34 : lw_okq (⟨"ChalkWarrants$Reader", "takeSteps", "(LChalkWarrants$Signs;LChalkWarrants$Steps;)Z"⟩, 1) := ⟨⟨by decide +kernel, by decide +kernel⟩, List.mem_of_getElem? (i := 239) (by decide +kernel), List.mem_of_getElem? (i := 777) (by decide +kernel), List.mem_of_getElem? (i := 778) (by decide +kernel)⟩
theorem lw_p35 : lw_okq (⟨"ChalkWarrants$Reader", "takeOther", "(LChalkWarrants$Signs;LChalkWarrants$Command;)Z"⟩, 1) := ⟨⟨by decide +kernel, by decide +kernel⟩, List.mem_of_getElem? (i := 239) (by decide +kernel), List.mem_of_getElem? (i := 782) (by decide +kernel), List.mem_of_getElem? (i := 783) (by decide +kernel)⟩
theorem lw_p36 : lw_okq (⟨"ChalkWarrants", "carryOutText", "()I"⟩, 14) := ⟨⟨by decide +kernel, by decide +kernel⟩, List.mem_of_getElem? (i := 35) (by decide +kernel), List.mem_of_getElem? (i := 786) (by decide +kernel), List.mem_of_getElem? (i := 787) (by decide +kernel)⟩
theorem lw_p37 : lw_okq (⟨"ChalkWarrants$Yard", "measureOf", "(II)I"⟩, 17) := ⟨⟨by decide +kernel, by decide +kernel⟩, List.mem_of_getElem? (i := 43) (by decide +kernel), List.mem_of_getElem? (i := 979) (by decide +kernel), List.mem_of_getElem? (i := 980) (by decide +kernel)⟩
theorem lw_p38 : lw_okq (⟨"ChalkWarrants", "putBlankBetween", "()V"⟩, 14) := ⟨⟨by decide +kernel, by decide +kernel⟩, List.mem_of_getElem? (i := 35) (by decide +kernel), List.mem_of_getElem? (i := 1003) (by decide +kernel), List.mem_of_getElem? (i := 1004) (by decide +kernel)⟩
theorem lw_p39 : lw_okq (⟨"ChalkWarrants", "putPair", "(ICI)V"⟩, 14) := ⟨⟨by decide +kernel, by decide +kernel⟩, List.mem_of_getElem? (i := 35) (by decide +kernel), List.mem_of_getElem? (i := 1007) (by decide +kernel), List.mem_of_getElem? (i := 1008) (by decide +kernel)⟩
def lw_privs_3 : List (MethodName × Nat) := [(⟨"ChalkWarrants$Reader", "passDigit", "(LChalkWarrants$Signs;)Z"⟩, 1), (⟨"ChalkWarrants$Reader", "takeChild", "(LChalkWarrants$Signs;LChalkWarrants$Command;)Z"⟩, 1), (⟨"ChalkWarrants$Reader", "takeSteps", "(LChalkWarrants$Signs;LChalkWarrants$Steps;)Z"⟩, 1), (⟨"ChalkWarrants$Reader", "takeOther", "(LChalkWarrants$Signs;LChalkWarrants$Command;)Z"⟩, 1), (⟨"ChalkWarrants", "carryOutText", "()I"⟩, 14), (⟨"ChalkWarrants$Yard", "measureOf", "(II)I"⟩, 17), (⟨"ChalkWarrants", "putBlankBetween", "()V"⟩, 14), (⟨"ChalkWarrants", "putPair", "(ICI)V"⟩, 14)]
theorem lw_r3 : ∀ q ∈ lw_privs_3, lw_okq q := List.forall_mem_cons.mpr ⟨lw_p32, List.forall_mem_cons.mpr ⟨lw_p33, List.forall_mem_cons.mpr ⟨lw_p34, List.forall_mem_cons.mpr ⟨lw_p35, List.forall_mem_cons.mpr ⟨lw_p36, List.forall_mem_cons.mpr ⟨lw_p37, List.forall_mem_cons.mpr ⟨lw_p38, List.forall_mem_cons.mpr ⟨lw_p39, fun _ h => absurd h List.not_mem_nil⟩⟩⟩⟩⟩⟩⟩⟩
def lw_privs : List (MethodName × Nat) := lw_privs_1 ++ (lw_privs_2 ++ (lw_privs_3))
def lw_tbl : List Cond := k2_sels lw_privs ++ tables_1
theorem lw_privs_ok : ∀ q ∈ lw_privs, lw_okq q := by
  show ∀ q ∈ lw_privs_1 ++ (lw_privs_2 ++ (lw_privs_3)), lw_okq q
  exact List.forall_mem_append.mpr ⟨lw_r1, List.forall_mem_append.mpr ⟨lw_r2, lw_r3⟩⟩
/-- the streams that the claim lets the run draw from -/
abbrev lw_cs : List Choice := [Jvm.Choice.named "NaN.bits"]
theorem lw_bits : nanBits ∈ lw_cs := by first | decide | exact List.mem_cons_self | simp [lw_cs, nanBits]
end
section
/-! ===== BEGIN words of one list among another's, by their places ===== -/
theorem goodIn_r {big : List Cond} (ws : List Cond) (ps : List Nat) (hp : ws = ps.filterMap (fun i => big[i]?)) (h : ws.all goodWord = true) : GoodIn big ws := by
  intro w hw
  have h1 := List.all_eq_true.mp h w hw
  rw [hp] at hw
  obtain ⟨i, -, hi⟩ := List.mem_filterMap.mp hw
  have hm : w ∈ big := by first | exact List.mem_of_getElem? hi | exact List.getElem?_mem hi
  exact ⟨hm, good_of_word h1⟩
theorem goodIn_app {big a b : List Cond} (ha : GoodIn big a) (hb : GoodIn big b) : GoodIn big (a ++ b) := fun w h => (List.mem_append.mp h).elim (ha w) (hb w)
theorem goodIn_ca {big a b : List Cond} {c : Cond} (ha : GoodIn big (c :: a)) (hb : GoodIn big b) : GoodIn big (c :: (a ++ b)) := fun w h => (List.mem_cons.mp h).elim (fun e => ha w (List.mem_cons.mpr (Or.inl e))) (fun h => (List.mem_append.mp h).elim (fun h => ha w (List.mem_cons.mpr (Or.inr h))) (hb w))
theorem goodIn_sub {big ws : List Cond} (hm : ∀ w ∈ ws, w ∈ big) (h : ws.all goodWord = true) : GoodIn big ws := fun w hw => ⟨hm w hw, good_of_word (List.all_eq_true.mp h w hw)⟩
/-! ===== END ===== -/
/-! ===== BEGIN exceptions that leave a method, and their catching by the caller (launches without stack traces) ===== -/
section VXA
/-! The laws vx_back, vx_callV, vx_callS, vx_callSW, vx_throw0, vx_throwS follow proofs of the library, with one case more: JvmDerived/Free/Laws.lean (Back.of_free), Shelf42/LK1.lean (callV, callS), Shelf/KitTraced.lean (throwNew0V, throwNewS). -/
/-- where a method has thrown q: the class by its name, the cell, what was written, the world -/
def vx_T (XC : String → State → State → Prop) (st : State) (q : Addr) (t : State) (mc ms : Nat) (free : Addr → Prop) : Prop :=
  ∃ (E : String) (ce : Cell) (L : List Loc), XC E st t ∧ t.heap[q]? = some ce ∧ ce.vm = .none ∧ st.vm.findClass E = some ce.cls ∧ st.WarmedH t.vm ∧ st.sameButNew ({ t with vm := st.vm } : State) L mc ms ∧ ∀ z ∈ L, free z.base
def vx_Q (Qc : Array Value → State → Outcome → State → Prop) (XC : String → State → State → Prop) (mc ms : Nat) (free : Addr → Prop) : Array Value → State → Outcome → State → Prop := fun a st o t =>
  (Qc a st o t ∧ ∃ L, FrameEnd st o t L mc ms ∧ ∀ q ∈ L, free q.base) ∨ ∃ q, o = .threw q ∧ vx_T XC st q t mc ms free
/-- a callee that returns or throws -/
def vx_Met (l : Launch) (y : MethodName) (ws : List Cond) (rm : Room) (Pc : Array Value → State → Prop) (Qc : Array Value → State → Outcome → State → Prop) (XC : String → State → State → Prop) (mc ms : Nat) (free : Addr → Prop) : Prop :=
  MetFree l y (headSpec ws rm) Pc (fun _ _ _ _ _ => True) (vx_Q Qc XC mc ms free)
def vx_Post (XC : String → State → State → Prop) (mc ms : Nat) (free : Addr → Prop) : Pt → Array Value → Addr → Pt → Prop := fun A a q B =>
  ∃ (g : JFrame) (mk : MethodId) (t : State) (L : List Loc) (E : String) (ce : Cell), B.U.heap = t.heap ∧ B.U.vm = t.vm ∧ XC E (A.U.calling g mk a) t ∧ t.heap[q]? = some ce ∧ ce.vm = .none ∧ A.U.vm.findClass E = some ce.cls ∧ B.locs = A.locs ++ L ∧ (∀ z ∈ L, free z.base) ∧ B.cells = A.cells + mc ∧ B.slots = A.slots + ms
def vx_Back (l : Launch) (R : Room) (p : Program) (e : Env) (below : List Frame) (s : State) (sargs : Array Value) (y : MethodName) (len W9 : Nat)
    (Pre : Pt → Array Value → Prop) (Post : Pt → Array Value → Option Value → Pt → Prop) (PostX : Pt → Array Value → Addr → Pt → Prop) : Prop :=
  ∀ (m : MethodId) (meth : Method) (c : Code) (A : Pt) (g : JFrame) (ig : Instr) (mk : MethodId) (a : Array Value),
    Stand p l e R s m sargs below meth c A.U A.locs A.cells A.slots → g.method = m → g.locals.size = c.maxLocals → decode c.code g.pc = .ok (ig, len) →
    2 * g.monitorRoom + (g.stack.map fun v => v.category).sum ≤ W9 → A.U.methodNamed? y = some mk → Pre A a →
    (∃ (v : Option Value) (B : Pt), Stand p l e R s m sargs below meth c B.U B.locs B.cells B.slots ∧ Post A a v B ∧
      Steps p.tables e below (doInvoke e (A.U.setTop g) [] mk a).1 (B.U.setTop { g with pc := g.pc + len, stack := v.toList ++ g.stack })) ∨
    (∃ (q : Addr) (B : Pt), Stand p l e R s m sargs below meth c B.U B.locs B.cells B.slots ∧ PostX A a q B ∧
      Steps p.tables e below (doInvoke e (A.U.setTop g) [] mk a).1 ((B.U.setTop g).pushFrame (.throwing q)))
section Payer
variable {l : Launch} {R : Room} {p : Program} {e : Env} {below : List Frame} {s : State} {sargs : Array Value} {y : MethodName} {len W9 : Nat}
theorem vx_back {ws : List Cond} {rm : Room} {Pc : Array Value → State → Prop} {Qc : Array Value → State → Outcome → State → Prop} {XC : String → State → State → Prop} {mc ms : Nat} {free : Addr → Prop} {bytes : ByteArray} {maxL : Nat} {ret : Option FieldType}
    (hM : vx_Met l y ws rm Pc Qc XC mc ms free) (hblind : FrameBlind Pc) (hrc : rm.cells = mc) (hrs : rm.slots = ms)
    (hframes : rm.frames + 1 ≤ R.frames) (hlocals : W9 + (maxL + 11) + rm.locals ≤ R.locals)
    (hws : ∀ w ∈ ws, ∀ a' U, s.WarmedH U.vm → w.before a' U = true) (hcode : Cond.code y bytes maxL ret ∈ ws) (hinit : ∀ a' U, s.WarmedH U.vm → (Cond.initialized y.cls).before a' U = true) :
    vx_Back l R p e below s sargs y len W9 (PreOf R mc ms Pc) (PostOf Qc mc ms free) (vx_Post XC mc ms free) := by
  intro m meth c A g ig mk a X hg hsize hdg hW hn hp
  have h1 : (headSpec ws rm).pre.before a A.U = true := atoms_intro fun w hw => hws w hw _ _ X.warmed
  have h2 : (Cond.code y bytes maxL ret).before a A.U = true := hws _ hcode _ _ X.warmed
  have h3 : (Cond.initialized y.cls).before a A.U = true := hinit _ _ X.warmed
  have h4 : A.cells + (headSpec ws rm).room.cells ≤ R.cells := by rw [show (headSpec ws rm).room.cells = mc from hrc]; exact hp.1
  have h5 : A.slots + (headSpec ws rm).room.slots ≤ R.slots := by rw [show (headSpec ws rm).room.slots = ms from hrs]; exact hp.2.1
  have hPc : Pc a (A.U.calling g mk a) := hblind _ _ _ _ hp.2.2
  obtain ⟨U, Ls, c0, s0⟩ := A
  dsimp only [Pt.U, Pt.locs, Pt.cells, Pt.slots] at h1 h2 h3 h4 h5 X hn hPc ⊢
  obtain ⟨methY, cY, hmY, hcY, -, hlY, -, -, -, -⟩ := Cond.code_spec hn h2
  obtain ⟨kY, hkY, -⟩ := className_of_methodNamed hn
  have hinitY : kY.init = .initialized := Cond.initialized_spec (findClass_of_methodNamed hn) hkY h3
  have h : At U g.method c below := by rw [hg]; exact X.here
  have hlocals9 : W9 + (maxL + 11) + (headSpec ws rm).room.locals ≤ R.locals := hlocals
  have happ : (headSpec ws rm).appliesLoose y e.platform (U.calling g mk a) = true :=
    Spec.appliesLoose_calling (g := g) h hdg hn hkY hinitY
      (X.room_calling (g := g) (R' := (headSpec ws rm).room) hsize hmY hcY hframes (by rw [hlY]; omega) h4 h5) h1
  obtain ⟨mid, hmid⟩ := h.above
  have hfr : (U.setTop g).frames = (.java g :: mid) ++ below := by rw [State.frames_setTop' g h.top, hmid]; rfl
  obtain ⟨o, s₂, hsteps, -, hend, hq⟩ := Steps.callFree hM p X.admits X.cas X.clock (acts := []) hfr happ hPc trivial
  have hq' : vx_Q Qc XC mc ms free a (U.calling g mk a) o s₂ := hq
  rw [State.frames_setTop' g h.top] at hend
  obtain ⟨g₀, hg0⟩ := Option.isSome_iff_exists.mp h.top
  obtain ⟨r, hr⟩ := State.topJava?_eq_some.mp hg0
  have hr' : (({ U with heap := s₂.heap, slotsUsed := s₂.slotsUsed } : State).setVm s₂.vm).frames = .java g₀ :: r := hr
  rcases hq' with ⟨hqc, L, hfe, hL⟩ | ⟨q, rfl, E, ce, L, hx, hce, hcv, hcl, hW₂, hsm, hL⟩
  · obtain ⟨⟨v, rfl⟩, hW₂, e2, q2, q3, q4, q5, q6⟩ := id hfe
    have e3 : s₂ = ({ (U.calling g mk a).setFrames s₂.frames with heap := s₂.heap, slotsUsed := s₂.slotsUsed } : State).setVm s₂.vm := by
      have : s₂ = ({ s₂ with vm := (U.calling g mk a).vm } : State).setVm s₂.vm := rfl
      rw [e2] at this
      exact this
    obtain ⟨c₂, i₂, len₂, hc₂, hd₂, hf₂⟩ := hend
    have hW' : U.WarmedH s₂.vm := hW₂
    have hcc : c₂ = c := by
      have h1 : s₂.code? g.method = U.code? g.method := by
        rw [State.code?_eq, State.code?_eq, hW'.alike.method?]
      exact Option.some.inj (hc₂.symm.trans (h1.trans h.code))
    subst hcc
    have hlen : len₂ = len := by rw [hdg] at hd₂; cases hd₂; rfl
    subst hlen
    have hs₂ : s₂ = (({ U with heap := s₂.heap, slotsUsed := s₂.slotsUsed } : State).setVm s₂.vm).setTop { g with pc := g.pc + len₂, stack := v.toList ++ g.stack } := by
      refine e3.trans ?_
      rw [hf₂, State.calling_eq h.top, State.setFrames_setFrames, State.setTop_of_frames _ hr', hr]
      rfl
    have hsame : U.sameButNew ({ U with heap := s₂.heap, slotsUsed := s₂.slotsUsed } : State) L mc ms := by
      refine ⟨?_, q2, q3, q4, q5, q6⟩
      obtain ⟨t, ht, -⟩ := State.frames_cons hr
      show ({ U with heap := s₂.heap, slotsUsed := s₂.slotsUsed } : State) = { U.setFrames U.frames with heap := s₂.heap, slotsUsed := s₂.slotsUsed }
      rw [State.setFrames_self ht]
    subst hg
    refine Or.inl ⟨v, ⟨(({ U with heap := s₂.heap, slotsUsed := s₂.slotsUsed } : State).setVm s₂.vm), Ls ++ L, c0 + mc, s0 + ms⟩,
      ⟨X.admits, X.cas, X.clock, X.frames, X.room, X.hears, X.method, X.code, (X.here.setHeapUsed s₂.heap s₂.slotsUsed).setVm hW'.alike, X.tail, State.WarmedH.trans X.warmed hW', X.limits, X.bytes, X.same.trans (hsame.setVm s.vm)⟩,
      ⟨g, mk, s₂, L, rfl, rfl, hqc, rfl, hL, rfl, rfl⟩, ?_⟩
    show Steps p.tables e below _ ((({ U with heap := s₂.heap, slotsUsed := s₂.slotsUsed } : State).setVm s₂.vm).setTop { g with pc := g.pc + len₂, stack := v.toList ++ g.stack })
    rw [← hs₂]
    exact hsteps
  · obtain ⟨e2, q2, q3, q4, q5, q6⟩ := id hsm
    have e3 : s₂ = ({ (U.calling g mk a).setFrames s₂.frames with heap := s₂.heap, slotsUsed := s₂.slotsUsed } : State).setVm s₂.vm := by
      have : s₂ = ({ s₂ with vm := (U.calling g mk a).vm } : State).setVm s₂.vm := rfl
      rw [e2] at this
      exact this
    have hf₂ : s₂.frames = .throwing q :: .java g :: U.frames.tail := hend
    have hW' : U.WarmedH s₂.vm := hW₂
    have hs₂ : s₂ = ((({ U with heap := s₂.heap, slotsUsed := s₂.slotsUsed } : State).setVm s₂.vm).setTop g).pushFrame (.throwing q) := by
      refine e3.trans ?_
      rw [hf₂, State.calling_eq h.top, State.setFrames_setFrames, State.pushFrame, State.frames_setTop _ hr', State.setTop_of_frames _ hr', State.setFrames_setFrames, hr]
      rfl
    have hsame : U.sameButNew ({ U with heap := s₂.heap, slotsUsed := s₂.slotsUsed } : State) L mc ms := by
      refine ⟨?_, q2, q3, q4, q5, q6⟩
      obtain ⟨t, ht, -⟩ := State.frames_cons hr
      show ({ U with heap := s₂.heap, slotsUsed := s₂.slotsUsed } : State) = { U.setFrames U.frames with heap := s₂.heap, slotsUsed := s₂.slotsUsed }
      rw [State.setFrames_self ht]
    subst hg
    refine Or.inr ⟨q, ⟨(({ U with heap := s₂.heap, slotsUsed := s₂.slotsUsed } : State).setVm s₂.vm), Ls ++ L, c0 + mc, s0 + ms⟩,
      ⟨X.admits, X.cas, X.clock, X.frames, X.room, X.hears, X.method, X.code, (X.here.setHeapUsed s₂.heap s₂.slotsUsed).setVm hW'.alike, X.tail, State.WarmedH.trans X.warmed hW', X.limits, X.bytes, X.same.trans (hsame.setVm s.vm)⟩,
      ⟨g, mk, s₂, L, E, ce, rfl, rfl, hx, hce, hcv, hcl, rfl, hL, rfl, rfl⟩, ?_⟩
    show Steps p.tables e below _ (((({ U with heap := s₂.heap, slotsUsed := s₂.slotsUsed } : State).setVm s₂.vm).setTop g).pushFrame (.throwing q))
    rw [← hs₂]
    exact hsteps
end Payer
section Calls
variable {p : Program} {l : Launch} {e : Env} {R : Room} {s : State} {m : MethodId} {args : Array Value} {below : List Frame} {meth : Method} {c : Code} {T : State} {locs : List Loc} {cells slots : Nat}
theorem vx_callV (X : Stand p l e R s m args below meth c T locs cells slots) (hexec : p.tables.exec = Jvm.exec) {own C : String} {index : Nat} {y : MethodName} {bytes : ByteArray} {maxL : Nat} {ret : Option FieldType}
    (hown : s.vm.findClass own = some m.cls) (hlink : (Cond.methodLink own index y).before args s = true) (hinst : (Cond.instanceMethod y).before args s = true) (hsel : (Cond.selects C y y).before args s = true)
    (hcode : (Cond.code y bytes maxL ret).before args s = true) (hy : y.cls ≠ "java/lang/invoke/MethodHandle" ∧ y.cls ≠ "java/lang/invoke/VarHandle")
    {W9 : Nat} {Pre : Pt → Array Value → Prop} {Post : Pt → Array Value → Option Value → Pt → Prop} {PostX : Pt → Array Value → Addr → Pt → Prop} (hK : vx_Back l R p e below s args y 3 W9 Pre Post PostX)
    {b : Addr} {cellB : Cell} (hcell : T.heap[b]? = some cellB) (hobj : cellB.vm.isStatics = false) (hcls : s.vm.findClass C = some cellB.cls)
    {g : JFrame} (hg : g.method = m) (hsize : g.locals.size = c.maxLocals) {argsL rest : List Value} (hlen : ∀ sig, parseMethodDescriptor y.desc = some sig → argsL.length = sig.parameters.length)
    (hstack : g.stack = argsL.reverse ++ .ref b :: rest) (hW : 2 * g.monitorRoom + (rest.map fun v => v.category).sum ≤ W9) (hdg : decode c.code g.pc = .ok (.invokevirtual index, 3))
    (hpre : ∀ vm₁, s.WarmedH vm₁ → Pre ⟨T.setVm vm₁, locs, cells, slots⟩ (Value.ref b :: argsL).toArray) :
    (∃ (v : Option Value) (vm₁ : Vm) (B : Pt), s.WarmedH vm₁ ∧ Stand p l e R s m args below meth c B.U B.locs B.cells B.slots ∧ Post ⟨T.setVm vm₁, locs, cells, slots⟩ (Value.ref b :: argsL).toArray v B ∧
      ∀ target, Steps p.tables e below (B.U.setTop { g with pc := g.pc + 3, stack := v.toList ++ rest }) target → Steps p.tables e below (T.setTop g) target) ∨
    (∃ (q : Addr) (vm₁ : Vm) (B : Pt), s.WarmedH vm₁ ∧ Stand p l e R s m args below meth c B.U B.locs B.cells B.slots ∧ PostX ⟨T.setVm vm₁, locs, cells, slots⟩ (Value.ref b :: argsL).toArray q B ∧
      Steps p.tables e below (T.setTop g) ((B.U.setTop { g with stack := rest }).pushFrame (.throwing q))) := by
  obtain ⟨mk, methM, hnamed, hmethM, hstM, habM⟩ := Cond.instanceMethod_spec hinst
  obtain ⟨methM', cM, hmethM', -, -, -, -, -, -, hsigM⟩ := Cond.code_spec hnamed hcode
  cases hmethM.symm.trans hmethM'
  obtain ⟨c2, r2, m2, q1, q2, q3, q4, kP, hkP, hkPi⟩ := Cond.selects_spec hsel
  cases hcls.symm.trans q1
  cases (State.methodFound?_of_named hnamed hy).symm.trans q2
  cases hnamed.symm.trans q3
  have hselP : selectMethod e.platform s.vm cellB.cls mk = .method mk := by rw [Launch.admits_selectMethod X.admits]; exact q4
  obtain ⟨vm₁, X₁, hstep₁⟩ := X.invokevirtual hexec hown hlink hnamed hmethM hstM hkP hkPi hy (a := b) (cell := cellB) hcell
    (fun z h => by rw [h] at hobj; cases hobj) hselP hmethM habM hkP hkPi (g := g) hg (argsL := argsL) (rest := rest) (hlen _ hsigM) hstack hdg
  rcases hK m meth c ⟨T.setVm vm₁, locs, cells, slots⟩ { g with stack := rest } (.invokevirtual index) mk (Value.ref b :: argsL).toArray X₁ hg hsize hdg hW (X₁.named hnamed) (hpre vm₁ X₁.warmed) with ⟨v, B, X', hpost, hsteps⟩ | ⟨q, B, X', hpost, hsteps⟩
  · exact Or.inl ⟨v, vm₁, B, X₁.warmed, X', hpost, fun target h => hstep₁ _ fun acts => by rw [doInvoke_state]; exact hsteps.trans h⟩
  · exact Or.inr ⟨q, vm₁, B, X₁.warmed, X', hpost, hstep₁ _ fun acts => by rw [doInvoke_state]; exact hsteps⟩
theorem vx_callS (X : Stand p l e R s m args below meth c T locs cells slots) (hexec : p.tables.exec = Jvm.exec) {own : String} {index : Nat} {y : MethodName} {bytes : ByteArray} {maxL : Nat} {ret : Option FieldType}
    (hown : s.vm.findClass own = some m.cls) (hlink : (Cond.methodLink own index y).before args s = true) (hstat : (Cond.static y).before args s = true) (hinit : (Cond.initialized y.cls).before args s = true)
    (hcode : (Cond.code y bytes maxL ret).before args s = true) (hy : y.cls ≠ "java/lang/invoke/MethodHandle" ∧ y.cls ≠ "java/lang/invoke/VarHandle")
    {W9 : Nat} {Pre : Pt → Array Value → Prop} {Post : Pt → Array Value → Option Value → Pt → Prop} {PostX : Pt → Array Value → Addr → Pt → Prop} (hK : vx_Back l R p e below s args y 3 W9 Pre Post PostX)
    {g : JFrame} (hg : g.method = m) (hsize : g.locals.size = c.maxLocals) {argsL rest : List Value} (hlen : ∀ sig, parseMethodDescriptor y.desc = some sig → argsL.length = sig.parameters.length)
    (hstack : g.stack = argsL.reverse ++ rest) (hW : 2 * g.monitorRoom + (rest.map fun v => v.category).sum ≤ W9) (hdg : decode c.code g.pc = .ok (.invokestatic index, 3))
    (hpre : ∀ vm₁, s.WarmedH vm₁ → Pre ⟨T.setVm vm₁, locs, cells, slots⟩ argsL.toArray) :
    (∃ (v : Option Value) (vm₁ : Vm) (B : Pt), s.WarmedH vm₁ ∧ Stand p l e R s m args below meth c B.U B.locs B.cells B.slots ∧ Post ⟨T.setVm vm₁, locs, cells, slots⟩ argsL.toArray v B ∧
      ∀ target, Steps p.tables e below (B.U.setTop { g with pc := g.pc + 3, stack := v.toList ++ rest }) target → Steps p.tables e below (T.setTop g) target) ∨
    (∃ (q : Addr) (vm₁ : Vm) (B : Pt), s.WarmedH vm₁ ∧ Stand p l e R s m args below meth c B.U B.locs B.cells B.slots ∧ PostX ⟨T.setVm vm₁, locs, cells, slots⟩ argsL.toArray q B ∧
      Steps p.tables e below (T.setTop g) ((B.U.setTop { g with stack := rest }).pushFrame (.throwing q))) := by
  obtain ⟨mk, hnamed⟩ := Cond.code_named hcode
  obtain ⟨methM, cM, hmethM, -, -, -, -, -, -, hsigM⟩ := Cond.code_spec hnamed hcode
  have hstatic : methM.isStatic = true := Cond.static_spec hnamed hmethM hstat
  obtain ⟨kP, hkP, -⟩ := className_of_methodNamed hnamed
  have hinitP : kP.init = .initialized := Cond.initialized_spec (findClass_of_methodNamed hnamed) hkP hinit
  obtain ⟨vm₁, X₁, hstep₁⟩ := X.invokestatic hexec hown hlink hnamed hmethM hstatic hkP hinitP hy (g := g) hg (argsL := argsL) (rest := rest) (hlen _ hsigM) hstack hdg
  rcases hK m meth c ⟨T.setVm vm₁, locs, cells, slots⟩ { g with stack := rest } (.invokestatic index) mk argsL.toArray X₁ hg hsize hdg hW (X₁.named hnamed) (hpre vm₁ X₁.warmed) with ⟨v, B, X', hpost, hsteps⟩ | ⟨q, B, X', hpost, hsteps⟩
  · exact Or.inl ⟨v, vm₁, B, X₁.warmed, X', hpost, fun target h => hstep₁ _ fun acts => by rw [doInvoke_state]; exact hsteps.trans h⟩
  · exact Or.inr ⟨q, vm₁, B, X₁.warmed, X', hpost, hstep₁ _ fun acts => by rw [doInvoke_state]; exact hsteps⟩
end Calls
theorem vx_cls {s : State} {T : State} {vm₁ : Vm} {E : String} {k : ClassId} (hW : s.WarmedH vm₁) (h : (T.setVm vm₁).vm.findClass E = some k) : s.vm.findClass E = some k := by
  have h1 : vm₁.findClass E = some k := h
  rw [hW.alike.findClass] at h1
  exact h1
/-- the method's frame g, with q thrown over it -/
def vx_W (p : Program) (l : Launch) (e : Env) (R : Room) (s : State) (m : MethodId) (args : Array Value) (below : List Frame) (meth : Method) (c : Code) (H : Heap) (locs : List Loc) (cells slots : Nat) (Q : State → Prop) (g : JFrame) (q : Addr) : Prop :=
  ∀ T : State, T.heap = H → Stand p l e R s m args below meth c T locs cells slots → ∃ t, Steps p.tables e below ((T.setTop g).pushFrame (.throwing q)) t ∧ Q t
def vx_Run (p : Program) (l : Launch) (e : Env) (R : Room) (s : State) (m : MethodId) (args : Array Value) (below : List Frame) (meth : Method) (c : Code) (H : Heap) (locs : List Loc) (cells slots mc ms : Nat) (g : JFrame) (rest : List Value) (Qa : State → Outcome → State → Prop) (XC : String → State → State → Prop) (free : Addr → Prop) : Prop :=
  ∀ T : State, T.heap = H → Stand p l e R s m args below meth c T locs cells slots →
    (∃ (v : Option Value) (st₀ t T' : State) (L : List Loc), st₀.heap = H ∧ Stand p l e R s m args below meth c T' (locs ++ L) (cells + mc) (slots + ms) ∧ (∀ q ∈ L, free q.base) ∧ T'.heap = t.heap ∧ T'.vm = t.vm ∧ Qa st₀ (.returned v) t ∧
      Goes p e below T g T' { g with pc := g.pc + 3, stack := v.toList ++ rest }) ∨
    (∃ (q : Addr) (st₀ t T' : State) (L : List Loc) (E : String) (ce : Cell), st₀.heap = H ∧ Stand p l e R s m args below meth c T' (locs ++ L) (cells + mc) (slots + ms) ∧ (∀ z ∈ L, free z.base) ∧ T'.heap = t.heap ∧ T'.vm = t.vm ∧ XC E st₀ t ∧ t.heap[q]? = some ce ∧ ce.vm = .none ∧ s.vm.findClass E = some ce.cls ∧
      Steps p.tables e below (T.setTop g) ((T'.setTop { g with stack := rest }).pushFrame (.throwing q)))
def vx_X {S : Type} (px : S → Prop) (B : String → S → State → Prop) (A : Nat → Prop) : String → State → State → Prop := fun E st t => ∃ u : S, px u ∧ B E u t ∧ va_F A st t
section Runs
variable {p : Program} {l : Launch} {e : Env} {R : Room} {s : State} {m : MethodId} {args : Array Value} {below : List Frame} {meth : Method} {c : Code} {H : Heap} {locs : List Loc} {cells slots : Nat}
variable {y : MethodName} {bytes cc : ByteArray} {maxL nL mc ms n index : Nat} {ret : Option FieldType} {ws : List Cond} {rm : Room} {Pc : Array Value → State → Prop} {Qc : Array Value → State → Outcome → State → Prop} {XC : String → State → State → Prop} {free : Addr → Prop} {Ts : List Cond} {own C : String} {b : Addr} {As rest : List Value} {g : JFrame}
theorem vx_callBack (cb : CallB R s args own index y bytes maxL ret ws rm mc ms n) (hM : vx_Met l y ws rm Pc Qc XC mc ms free) (hbl : FrameBlind Pc) : vx_Back l R p e below s args y 3 8 (PreOf R mc ms Pc) (PostOf Qc mc ms free) (vx_Post XC mc ms free) := by
  obtain ⟨hrc, hrs, hfr, hlo, hws, hcw, -, hini, -⟩ := cb
  exact vx_back (bytes := bytes) (maxL := maxL) (ret := ret) hM hbl hrc hrs hfr hlo hws hcw (fun a' U hW => word_at hW (Or.inl (by first | rfl | simp [Cond.onTables, Cond.keeps, Cond.steady])) hini)
theorem vx_runV (S : CallFix p m c cc nL s args Ts own) (hM : vx_Met l y ws rm Pc Qc XC mc ms free) (cw : CallW R s args own C index y bytes maxL ret ws rm mc ms n) (hp : PreV s H C b Pc As)
    (hg : g.method = m) (hn : As.length = n) (hsize : g.locals.size = nL) (hstack : g.stack = As.reverse ++ .ref b :: rest) (hW : 2 * g.monitorRoom + (rest.map fun v => v.category).sum ≤ 8) (hdg : decode cc g.pc = .ok (.invokevirtual index, 3)) (hf : cells + mc ≤ R.cells ∧ slots + ms ≤ R.slots) :
    vx_Run p l e R s m args below meth c H locs cells slots mc ms g rest (Qc (Value.ref b :: As).toArray) XC free := by
  have hK : vx_Back l R p e below s args y 3 8 (PreOf R mc ms Pc) (PostOf Qc mc ms free) (vx_Post XC mc ms free) := vx_callBack cw.1 hM hp.1
  obtain ⟨⟨-, -, -, -, -, -, hcode, -, hy, hlen, hl⟩, hin, hse⟩ := cw
  obtain ⟨hx, hb, hml, ho, -⟩ := S
  obtain ⟨-, ⟨cellB, hcB, hoB, hclB⟩, hPc⟩ := hp
  intro T hT X
  rcases vx_callV X hx (C := C) (bytes := bytes) (maxL := maxL) (ret := ret) ho hl hin hse hcode hy hK (by rw [hT]; exact hcB) hoB hclB hg (hsize.trans hml.symm) (argsL := As) (rest := rest) (fun sig h => hn.trans (hlen sig h)) hstack hW (by rw [hb]; exact hdg)
    (fun vm₁ hW₁ => ⟨hf.1, hf.2, hPc (T.setVm vm₁) hT hW₁⟩) with ⟨v, vm₁, ⟨U', l2, c2, s2⟩, hW₁, X', ⟨g', mk, t, L, e1, e2, hq, h1, hL, h2, h3⟩, st⟩ | ⟨q, vm₁, ⟨U', l2, c2, s2⟩, hW₁, X', ⟨g', mk, t, L, E, ce, e1, e2, hq, hce, hcv, hcl, h1, hL, h2, h3⟩, st⟩
  · dsimp only [Pt.U, Pt.locs, Pt.cells, Pt.slots] at X' e1 e2 h1 h2 h3 st
    subst h1; subst h2; subst h3
    exact Or.inl ⟨v, (T.setVm vm₁).calling g' mk (Value.ref b :: As).toArray, t, U', L, hT, X', hL, e1, e2, hq, st⟩
  · dsimp only [Pt.U, Pt.locs, Pt.cells, Pt.slots] at X' e1 e2 h1 h2 h3 st hcl
    subst h1; subst h2; subst h3
    exact Or.inr ⟨q, (T.setVm vm₁).calling g' mk (Value.ref b :: As).toArray, t, U', L, E, ce, hT, X', hL, e1, e2, hq, hce, hcv, vx_cls hW₁ hcl, st⟩
theorem vx_runS (S : CallFix p m c cc nL s args Ts own) (hM : vx_Met l y ws rm Pc Qc XC mc ms free) (cw : CallB R s args own index y bytes maxL ret ws rm mc ms n ∧ (Cond.static y).before args s = true) (hp : PreS s H Pc As)
    (hg : g.method = m) (hn : As.length = n) (hsize : g.locals.size = nL) (hstack : g.stack = As.reverse ++ rest) (hW : 2 * g.monitorRoom + (rest.map fun v => v.category).sum ≤ 8) (hdg : decode cc g.pc = .ok (.invokestatic index, 3)) (hf : cells + mc ≤ R.cells ∧ slots + ms ≤ R.slots) :
    vx_Run p l e R s m args below meth c H locs cells slots mc ms g rest (Qc As.toArray) XC free := by
  have hK : vx_Back l R p e below s args y 3 8 (PreOf R mc ms Pc) (PostOf Qc mc ms free) (vx_Post XC mc ms free) := vx_callBack cw.1 hM hp.1
  obtain ⟨⟨-, -, -, -, -, -, hcode, hini, hy, hlen, hl⟩, hstt⟩ := cw
  obtain ⟨hx, hb, hml, ho, -⟩ := S
  intro T hT X
  rcases vx_callS X hx (bytes := bytes) (maxL := maxL) (ret := ret) ho hl hstt hini hcode hy hK hg (hsize.trans hml.symm) (argsL := As) (rest := rest) (fun sig h => hn.trans (hlen sig h)) hstack hW (by rw [hb]; exact hdg)
    (fun vm₁ hW₁ => ⟨hf.1, hf.2, hp.2 (T.setVm vm₁) hT hW₁⟩) with ⟨v, vm₁, ⟨U', l2, c2, s2⟩, hW₁, X', ⟨g', mk, t, L, e1, e2, hq, h1, hL, h2, h3⟩, st⟩ | ⟨q, vm₁, ⟨U', l2, c2, s2⟩, hW₁, X', ⟨g', mk, t, L, E, ce, e1, e2, hq, hce, hcv, hcl, h1, hL, h2, h3⟩, st⟩
  · dsimp only [Pt.U, Pt.locs, Pt.cells, Pt.slots] at X' e1 e2 h1 h2 h3 st
    subst h1; subst h2; subst h3
    exact Or.inl ⟨v, (T.setVm vm₁).calling g' mk As.toArray, t, U', L, hT, X', hL, e1, e2, hq, st⟩
  · dsimp only [Pt.U, Pt.locs, Pt.cells, Pt.slots] at X' e1 e2 h1 h2 h3 st hcl
    subst h1; subst h2; subst h3
    exact Or.inr ⟨q, (T.setVm vm₁).calling g' mk As.toArray, t, U', L, E, ce, hT, X', hL, e1, e2, hq, hce, hcv, vx_cls hW₁ hcl, st⟩
end Runs
section Rows
variable {p : Program} {l : Launch} {e : Env} {R : Room} {s : State} {m : MethodId} {args : Array Value} {below : List Frame} {meth : Method} {c : Code} {H : Heap} {locs : List Loc} {cells slots : Nat} {Q : State → Prop}
variable {mc ms : Nat} {free : Addr → Prop} {A0 A1 : Nat → Prop} {H0 : Heap} {a : Array Value} {pc : Nat} {ls : Array Slot} {st0 rest : List Value}
theorem vx_keep {st₀ t T' : State} {L : List Loc} (h0 : st₀.heap = H) (e1 : T'.heap = t.heap) (hS : va_S A0 H0 H locs) (hA : ∀ q, q < H.size → A1 q → A0 q) (hf : ∀ q, free q → A0 q) (hL : ∀ q ∈ L, free q.base) (hF : va_F A1 st₀ t) :
    H.size ≤ T'.heap.size ∧ (∀ q : Nat, q < H.size → ¬ A1 q → T'.heap[q]? = H[q]?) ∧ va_S A0 H0 T'.heap (locs ++ L) := by
  obtain ⟨hz, hk⟩ := hF
  rw [h0] at hz hk
  exact ⟨by rw [e1]; exact hz, fun q h1 h2 => by rw [e1]; exact hk q h1 h2,
    ⟨Nat.le_trans hS.1 (by rw [e1]; exact hz), fun q h1 h2 => by rw [e1, hk q (Nat.lt_of_lt_of_le h1 hS.1) (fun z => h2 (hA q (Nat.lt_of_lt_of_le h1 hS.1) z))]; exact hS.2.1 q h1 h2, fun q hq => by
      rcases List.mem_append.mp hq with h | h
      · exact hS.2.2 q h
      · exact hf _ (hL q h)⟩⟩
theorem vx_calli {S SX : Type} {post : Int32 → S → Prop} {px : SX → Prop} {B : S → State → Prop} {BX : String → SX → State → Prop} {AX : Nat → Prop} (hr : vx_Run p l e R s m args below meth c H locs cells slots mc ms (F0 m pc ls st0) rest (va_Qi post B A1 a) (vx_X px BX AX) free) (hS : va_S A0 H0 H locs) (hA : ∀ q, q < H.size → A1 q → A0 q) (hf : ∀ q, free q → A0 q) (hAX : ∀ q, q < H.size → AX q → A0 q)
    (kx : ∀ (E : String) (ce : Cell) (q9 : Addr) (u : SX) (t : State) (H1 : Heap) (locs1 : List Loc), t.heap = H1 → s.vm.Alike t.vm → px u → BX E u t → H.size ≤ H1.size → (∀ q : Nat, q < H.size → ¬ AX q → H1[q]? = H[q]?) → va_S A0 H0 H1 locs1 → H1[q9]? = some ce → ce.vm = .none → s.vm.findClass E = some ce.cls → vx_W p l e R s m args below meth c H1 locs1 (cells + mc) (slots + ms) Q (F0 m pc ls rest) q9)
    (kk : ∀ (r : Int32) (u : S) (t : State) (H1 : Heap) (locs1 : List Loc), t.heap = H1 → s.vm.Alike t.vm → post r u → B u t → H.size ≤ H1.size → (∀ q : Nat, q < H.size → ¬ A1 q → H1[q]? = H[q]?) → va_S A0 H0 H1 locs1 → W p l e R s m args below meth c H1 locs1 (cells + mc) (slots + ms) Q (F0 m (pc + 3) ls (.int r :: rest))) : W p l e R s m args below meth c H locs cells slots Q (F0 m pc ls st0) := by
  intro T hT X
  rcases hr T hT X with ⟨v, st₀, t, T', L, h0, X', hL, e1, e2, ⟨⟨r, u, hv, hp, hb⟩, hF⟩, st⟩ | ⟨q, st₀, t, T', L, E, ce, h0, X', hL, e1, e2, ⟨u, hp, hb, hF⟩, hce, hcv, hcl, st⟩
  · cases hv
    obtain ⟨k1, k2, k3⟩ := vx_keep h0 e1 hS hA hf hL hF
    obtain ⟨t2, a1, b1⟩ := kk r u t T'.heap (locs ++ L) e1.symm (by rw [← e2]; exact X'.warmed.alike) hp hb k1 k2 k3 T' rfl X'
    exact ⟨t2, st t2 a1, b1⟩
  · obtain ⟨k1, k2, k3⟩ := vx_keep h0 e1 hS hAX hf hL hF
    obtain ⟨t2, a1, b1⟩ := kx E ce q u t T'.heap (locs ++ L) e1.symm (by rw [← e2]; exact X'.warmed.alike) hp hb k1 k2 k3 (by rw [e1]; exact hce) hcv hcl T' rfl X'
    exact ⟨t2, st.trans a1, b1⟩
theorem vx_calll {S SX : Type} {post : Int64 → S → Prop} {px : SX → Prop} {B : S → State → Prop} {BX : String → SX → State → Prop} {AX : Nat → Prop} (hr : vx_Run p l e R s m args below meth c H locs cells slots mc ms (F0 m pc ls st0) rest (va_Ql post B A1 a) (vx_X px BX AX) free) (hS : va_S A0 H0 H locs) (hA : ∀ q, q < H.size → A1 q → A0 q) (hf : ∀ q, free q → A0 q) (hAX : ∀ q, q < H.size → AX q → A0 q)
    (kx : ∀ (E : String) (ce : Cell) (q9 : Addr) (u : SX) (t : State) (H1 : Heap) (locs1 : List Loc), t.heap = H1 → s.vm.Alike t.vm → px u → BX E u t → H.size ≤ H1.size → (∀ q : Nat, q < H.size → ¬ AX q → H1[q]? = H[q]?) → va_S A0 H0 H1 locs1 → H1[q9]? = some ce → ce.vm = .none → s.vm.findClass E = some ce.cls → vx_W p l e R s m args below meth c H1 locs1 (cells + mc) (slots + ms) Q (F0 m pc ls rest) q9)
    (kk : ∀ (r : Int64) (u : S) (t : State) (H1 : Heap) (locs1 : List Loc), t.heap = H1 → s.vm.Alike t.vm → post r u → B u t → H.size ≤ H1.size → (∀ q : Nat, q < H.size → ¬ A1 q → H1[q]? = H[q]?) → va_S A0 H0 H1 locs1 → W p l e R s m args below meth c H1 locs1 (cells + mc) (slots + ms) Q (F0 m (pc + 3) ls (.long r :: rest))) : W p l e R s m args below meth c H locs cells slots Q (F0 m pc ls st0) := by
  intro T hT X
  rcases hr T hT X with ⟨v, st₀, t, T', L, h0, X', hL, e1, e2, ⟨⟨r, u, hv, hp, hb⟩, hF⟩, st⟩ | ⟨q, st₀, t, T', L, E, ce, h0, X', hL, e1, e2, ⟨u, hp, hb, hF⟩, hce, hcv, hcl, st⟩
  · cases hv
    obtain ⟨k1, k2, k3⟩ := vx_keep h0 e1 hS hA hf hL hF
    obtain ⟨t2, a1, b1⟩ := kk r u t T'.heap (locs ++ L) e1.symm (by rw [← e2]; exact X'.warmed.alike) hp hb k1 k2 k3 T' rfl X'
    exact ⟨t2, st t2 a1, b1⟩
  · obtain ⟨k1, k2, k3⟩ := vx_keep h0 e1 hS hAX hf hL hF
    obtain ⟨t2, a1, b1⟩ := kx E ce q u t T'.heap (locs ++ L) e1.symm (by rw [← e2]; exact X'.warmed.alike) hp hb k1 k2 k3 (by rw [e1]; exact hce) hcv hcl T' rfl X'
    exact ⟨t2, st.trans a1, b1⟩
theorem vx_callf {S SX : Type} {post : UInt32 → S → Prop} {px : SX → Prop} {B : S → State → Prop} {BX : String → SX → State → Prop} {AX : Nat → Prop} (hr : vx_Run p l e R s m args below meth c H locs cells slots mc ms (F0 m pc ls st0) rest (va_Qf post B A1 a) (vx_X px BX AX) free) (hS : va_S A0 H0 H locs) (hA : ∀ q, q < H.size → A1 q → A0 q) (hf : ∀ q, free q → A0 q) (hAX : ∀ q, q < H.size → AX q → A0 q)
    (kx : ∀ (E : String) (ce : Cell) (q9 : Addr) (u : SX) (t : State) (H1 : Heap) (locs1 : List Loc), t.heap = H1 → s.vm.Alike t.vm → px u → BX E u t → H.size ≤ H1.size → (∀ q : Nat, q < H.size → ¬ AX q → H1[q]? = H[q]?) → va_S A0 H0 H1 locs1 → H1[q9]? = some ce → ce.vm = .none → s.vm.findClass E = some ce.cls → vx_W p l e R s m args below meth c H1 locs1 (cells + mc) (slots + ms) Q (F0 m pc ls rest) q9)
    (kk : ∀ (r : UInt32) (u : S) (t : State) (H1 : Heap) (locs1 : List Loc), t.heap = H1 → s.vm.Alike t.vm → post r u → B u t → H.size ≤ H1.size → (∀ q : Nat, q < H.size → ¬ A1 q → H1[q]? = H[q]?) → va_S A0 H0 H1 locs1 → W p l e R s m args below meth c H1 locs1 (cells + mc) (slots + ms) Q (F0 m (pc + 3) ls (.float r :: rest))) : W p l e R s m args below meth c H locs cells slots Q (F0 m pc ls st0) := by
  intro T hT X
  rcases hr T hT X with ⟨v, st₀, t, T', L, h0, X', hL, e1, e2, ⟨⟨r, u, hv, hp, hb⟩, hF⟩, st⟩ | ⟨q, st₀, t, T', L, E, ce, h0, X', hL, e1, e2, ⟨u, hp, hb, hF⟩, hce, hcv, hcl, st⟩
  · cases hv
    obtain ⟨k1, k2, k3⟩ := vx_keep h0 e1 hS hA hf hL hF
    obtain ⟨t2, a1, b1⟩ := kk r u t T'.heap (locs ++ L) e1.symm (by rw [← e2]; exact X'.warmed.alike) hp hb k1 k2 k3 T' rfl X'
    exact ⟨t2, st t2 a1, b1⟩
  · obtain ⟨k1, k2, k3⟩ := vx_keep h0 e1 hS hAX hf hL hF
    obtain ⟨t2, a1, b1⟩ := kx E ce q u t T'.heap (locs ++ L) e1.symm (by rw [← e2]; exact X'.warmed.alike) hp hb k1 k2 k3 (by rw [e1]; exact hce) hcv hcl T' rfl X'
    exact ⟨t2, st.trans a1, b1⟩
theorem vx_calld {S SX : Type} {post : UInt64 → S → Prop} {px : SX → Prop} {B : S → State → Prop} {BX : String → SX → State → Prop} {AX : Nat → Prop} (hr : vx_Run p l e R s m args below meth c H locs cells slots mc ms (F0 m pc ls st0) rest (va_Qd post B A1 a) (vx_X px BX AX) free) (hS : va_S A0 H0 H locs) (hA : ∀ q, q < H.size → A1 q → A0 q) (hf : ∀ q, free q → A0 q) (hAX : ∀ q, q < H.size → AX q → A0 q)
    (kx : ∀ (E : String) (ce : Cell) (q9 : Addr) (u : SX) (t : State) (H1 : Heap) (locs1 : List Loc), t.heap = H1 → s.vm.Alike t.vm → px u → BX E u t → H.size ≤ H1.size → (∀ q : Nat, q < H.size → ¬ AX q → H1[q]? = H[q]?) → va_S A0 H0 H1 locs1 → H1[q9]? = some ce → ce.vm = .none → s.vm.findClass E = some ce.cls → vx_W p l e R s m args below meth c H1 locs1 (cells + mc) (slots + ms) Q (F0 m pc ls rest) q9)
    (kk : ∀ (r : UInt64) (u : S) (t : State) (H1 : Heap) (locs1 : List Loc), t.heap = H1 → s.vm.Alike t.vm → post r u → B u t → H.size ≤ H1.size → (∀ q : Nat, q < H.size → ¬ A1 q → H1[q]? = H[q]?) → va_S A0 H0 H1 locs1 → W p l e R s m args below meth c H1 locs1 (cells + mc) (slots + ms) Q (F0 m (pc + 3) ls (.double r :: rest))) : W p l e R s m args below meth c H locs cells slots Q (F0 m pc ls st0) := by
  intro T hT X
  rcases hr T hT X with ⟨v, st₀, t, T', L, h0, X', hL, e1, e2, ⟨⟨r, u, hv, hp, hb⟩, hF⟩, st⟩ | ⟨q, st₀, t, T', L, E, ce, h0, X', hL, e1, e2, ⟨u, hp, hb, hF⟩, hce, hcv, hcl, st⟩
  · cases hv
    obtain ⟨k1, k2, k3⟩ := vx_keep h0 e1 hS hA hf hL hF
    obtain ⟨t2, a1, b1⟩ := kk r u t T'.heap (locs ++ L) e1.symm (by rw [← e2]; exact X'.warmed.alike) hp hb k1 k2 k3 T' rfl X'
    exact ⟨t2, st t2 a1, b1⟩
  · obtain ⟨k1, k2, k3⟩ := vx_keep h0 e1 hS hAX hf hL hF
    obtain ⟨t2, a1, b1⟩ := kx E ce q u t T'.heap (locs ++ L) e1.symm (by rw [← e2]; exact X'.warmed.alike) hp hb k1 k2 k3 (by rw [e1]; exact hce) hcv hcl T' rfl X'
    exact ⟨t2, st.trans a1, b1⟩
theorem vx_callv {S SX : Type} {post : S → Prop} {px : SX → Prop} {B : S → State → Prop} {BX : String → SX → State → Prop} {AX : Nat → Prop} (hr : vx_Run p l e R s m args below meth c H locs cells slots mc ms (F0 m pc ls st0) rest (va_Qv post B A1 a) (vx_X px BX AX) free) (hS : va_S A0 H0 H locs) (hA : ∀ q, q < H.size → A1 q → A0 q) (hf : ∀ q, free q → A0 q) (hAX : ∀ q, q < H.size → AX q → A0 q)
    (kx : ∀ (E : String) (ce : Cell) (q9 : Addr) (u : SX) (t : State) (H1 : Heap) (locs1 : List Loc), t.heap = H1 → s.vm.Alike t.vm → px u → BX E u t → H.size ≤ H1.size → (∀ q : Nat, q < H.size → ¬ AX q → H1[q]? = H[q]?) → va_S A0 H0 H1 locs1 → H1[q9]? = some ce → ce.vm = .none → s.vm.findClass E = some ce.cls → vx_W p l e R s m args below meth c H1 locs1 (cells + mc) (slots + ms) Q (F0 m pc ls rest) q9)
    (kk : ∀ (u : S) (t : State) (H1 : Heap) (locs1 : List Loc), t.heap = H1 → s.vm.Alike t.vm → post u → B u t → H.size ≤ H1.size → (∀ q : Nat, q < H.size → ¬ A1 q → H1[q]? = H[q]?) → va_S A0 H0 H1 locs1 → W p l e R s m args below meth c H1 locs1 (cells + mc) (slots + ms) Q (F0 m (pc + 3) ls (rest))) : W p l e R s m args below meth c H locs cells slots Q (F0 m pc ls st0) := by
  intro T hT X
  rcases hr T hT X with ⟨v, st₀, t, T', L, h0, X', hL, e1, e2, ⟨⟨u, hv, hp, hb⟩, hF⟩, st⟩ | ⟨q, st₀, t, T', L, E, ce, h0, X', hL, e1, e2, ⟨u, hp, hb, hF⟩, hce, hcv, hcl, st⟩
  · cases hv
    obtain ⟨k1, k2, k3⟩ := vx_keep h0 e1 hS hA hf hL hF
    obtain ⟨t2, a1, b1⟩ := kk u t T'.heap (locs ++ L) e1.symm (by rw [← e2]; exact X'.warmed.alike) hp hb k1 k2 k3 T' rfl X'
    exact ⟨t2, st t2 a1, b1⟩
  · obtain ⟨k1, k2, k3⟩ := vx_keep h0 e1 hS hAX hf hL hF
    obtain ⟨t2, a1, b1⟩ := kx E ce q u t T'.heap (locs ++ L) e1.symm (by rw [← e2]; exact X'.warmed.alike) hp hb k1 k2 k3 (by rw [e1]; exact hce) hcv hcl T' rfl X'
    exact ⟨t2, st.trans a1, b1⟩
/-- caught by the row x of this method's table; the rows ahead don't take it -/
theorem vx_catch {own name : String} {E : String} {ce : Cell} {q : Addr} (hown : s.vm.findClass own = some m.cls) (pre : List ExceptionTableEntry) (x : ExceptionTableEntry) (suf : List ExceptionTableEntry) (hsplit : c.exceptionTable.toList = pre ++ x :: suf)
    (hpass : ∀ z ∈ pre, covers z pc = false ∨ (z.catchType ≠ 0 ∧ ∃ nm : String, (Cond.classLink own z.catchType nm).before args s = true ∧ va_Nc E nm s)) (hx : covers x pc = true) (h0 : x.catchType ≠ 0)
    (hlink : (Cond.classLink own x.catchType name).before args s = true) (hcast : (Cond.castable E name).before args s = true) (hcell : H[q]? = some ce) (hv : ce.vm = .none) (hcl : s.vm.findClass E = some ce.cls)
    (kk : W p l e R s m args below meth c H locs cells slots Q (F0 m x.handlerPc ls [.ref q])) : vx_W p l e R s m args below meth c H locs cells slots Q (F0 m pc ls rest) q := by
  intro T hT X
  have hpl : e.platform.magicAccessors = ({} : Platform).magicAccessors := by rw [X.admits.platform]
  obtain ⟨c3, c4, hc3, hc4, hasg⟩ := Cond.castable_spec hcast
  cases Option.some.inj (hc3.symm.trans hcl)
  obtain ⟨c5, hc5, hcl5⟩ := Cond.classLink_spec hown hlink e.platform hpl
  cases Option.some.inj (hc4.symm.trans hc5)
  obtain ⟨vm', X', st⟩ := X.thenCaughtThrough q (g := F0 m pc ls rest) rfl (Steps.refl _) (by rw [hT]; exact hcell) (by rw [hv]; rfl) (by obtain ⟨k9, h9, -⟩ := Vm.findClass_spec hcl; exact ⟨k9, h9⟩) pre x suf hsplit
    (fun z hz => by
      rcases hpass z hz with h | ⟨hz0, nm, hl1, hn1⟩
      · exact Or.inl h
      · obtain ⟨c6, hc6, hcl6⟩ := Cond.classLink_spec hown hl1 e.platform hpl
        obtain ⟨a8, b8, h1, h2, h3⟩ := hn1
        cases Option.some.inj (h1.symm.trans hcl)
        cases Option.some.inj (h2.symm.trans hc6)
        exact Or.inr ⟨hz0, _, hcl6, h3⟩) hx (Or.inr ⟨h0, c4, hcl5, hasg⟩)
  obtain ⟨t, a1, b1⟩ := kk (T.setVm vm') hT X'
  exact ⟨t, st.trans a1, b1⟩
end Rows
section Ends
variable {p : Program} {l : Launch} {e : Env} {R : Room} {s : State} {m : MethodId} {args : Array Value} {below : List Frame} {meth : Method} {c : Code} {H : Heap} {locs : List Loc} {cells slots : Nat} {Q : State → Prop}
variable {mc ms : Nat} {free : Addr → Prop} {A0 A1 : Nat → Prop} {H0 : Heap} {a : Array Value} {ls : Array Slot} {st0 rest : List Value}
variable {Qc : Array Value → State → Outcome → State → Prop} {XC : String → State → State → Prop}
/-- what a body that may throw owes at its end -/
def vx_MQ (below : List Frame) (Qc : Array Value → State → Outcome → State → Prop) (XC : String → State → State → Prop) (a : Array Value) (s : State) (mc ms : Nat) (free : Addr → Prop) : State → Prop := fun t =>
  ∃ o, t.status = .running ∧ Ended t below o ∧ vx_Q Qc XC mc ms free a s o t
theorem vx_ret {g : JFrame} {mc ms : Nat} (k : W p l e R s m args below meth c H locs cells slots (MQ below Qc args s mc ms free) g) : W p l e R s m args below meth c H locs cells slots (vx_MQ below Qc XC args s mc ms free) g := by
  intro T hT X
  obtain ⟨t, a1, o, b1, b2, b3, b4⟩ := k T hT X
  exact ⟨t, a1, o, b1, b2, Or.inl ⟨b3, b4⟩⟩
/-- not caught here: it goes on to the caller -/
theorem vx_widen {g : JFrame} {q : Addr} {k n : Nat} (h1 : cells ≤ k) (h2 : slots ≤ n) (kk : vx_W p l e R s m args below meth c H locs k n Q g q) : vx_W p l e R s m args below meth c H locs cells slots Q g q := fun T hT X => kk T hT (stand_widen X h1 h2)
theorem vx_out {pc : Nat} {E : String} {ce : Cell} {q : Addr} {mc ms : Nat} (hout : ∀ x ∈ c.exceptionTable.toList, covers x pc = false) (hlocks : meth.locks = false) (hcell : H[q]? = some ce) (hv : ce.vm = .none) (hcl : s.vm.findClass E = some ce.cls)
    (hx : ∀ t : State, t.heap = H → s.vm.Alike t.vm → XC E s t) (hf : ∀ z ∈ locs, free z.base) (hc : cells ≤ mc) (hs : slots ≤ ms) :
    vx_W p l e R s m args below meth c H locs cells slots (vx_MQ below Qc XC args s mc ms free) (F0 m pc ls rest) q := by
  intro T hT X
  obtain ⟨st1, hrun, hend, hW, hsm⟩ := X.leaveThrown q (g := F0 m pc ls rest) rfl rfl rfl hout hlocks
  have hcell9 : (T.setFrames (.throwing q :: below)).heap[q]? = some ce := by
    show T.heap[q]? = some ce
    rw [hT]; exact hcell
  exact ⟨_, st1, .threw q, hrun, hend, Or.inr ⟨q, rfl, E, ce, locs, hx _ hT hW.alike, hcell9, hv, hcl, hW, hsm.mono hc hs, hf⟩⟩
theorem vx_frame {U : State} {k n : Nat} (h : s.sameButNew ({ U with vm := s.vm } : State) locs k n) : s.heap.size ≤ U.heap.size ∧ ∀ q : Nat, q < s.heap.size → (∀ z ∈ locs, z.base ≠ q) → U.heap[q]? = s.heap[q]? := by
  obtain ⟨-, h2, -, -, -, h6⟩ := h
  refine ⟨h2, fun q hq hz => ?_⟩
  obtain ⟨c9, e1, e2, e3, e4⟩ := h6 q _ (Array.getElem?_eq_getElem hq)
  have hs : c9.slots = (s.heap[q]).slots := Array.ext_getElem? fun i => e4 i fun hm => hz _ hm rfl
  have h9 : c9 = s.heap[q] := by
    rw [hs] at e2
    exact e2
  have e5 : U.heap[q]? = some c9 := e1
  rw [e5, h9, Array.getElem?_eq_getElem hq]
/-- the words of a throw but the four that speak of the heap -/
def vx_no (w : Cond) : Bool := decide (w ≠ .isRef (.static Bundle.tN "UNASSIGNED_STACK" Bundle.steD)) && decide (w ≠ .isRef (.static Bundle.tN "SUPPRESSED_SENTINEL" Bundle.listD)) && decide (w ≠ .laysStatic Bundle.tN "UNASSIGNED_STACK" Bundle.steD) && decide (w ≠ .laysStatic Bundle.tN "SUPPRESSED_SENTINEL" Bundle.listD)
def vx_at0 (own : String) (ic : Nat) (X : String) (names : List String) : List Cond := (Bundle.ownAtoms0 own ic X names).filter vx_no
def vx_atS (own : String) (ic : Nat) (X : String) (names : List String) : List Cond := (Bundle.ownAtoms own ic X names).filter vx_no
/-- a word that the tables alone decide, or a good one -/
def vx_ot (w : Cond) : Bool := w.onTables || goodWord w
theorem vx_ot_at {args a' : Array Value} {s U : State} {w : Cond} (hW : s.WarmedH U.vm) (hvm : s.vm = U.vm) (hg : vx_ot w = true) (h : w.before args s = true) : w.before a' U = true := by
  simp only [vx_ot, Bool.or_eq_true] at hg
  rcases hg with hg | hg
  · exact va_tabs hg hvm h
  · exact word_at hW (good_of_word hg) h
/-- a list's words: the good ones out of the method's own list, the others by premises of their own -/
theorem vx_hat {args : Array Value} {s : State} {L B : List Cond} (h1 : ∀ w ∈ L.filter goodWord, w.before args s = true) (h2 : ∀ w ∈ L.filter (fun w => !goodWord w), w ∈ B) (h3 : ∀ w ∈ B, w.before args s = true) : ∀ w ∈ L, w.before args s = true := by
  intro w hw
  by_cases g : goodWord w = true
  · exact h1 w (List.mem_filter.mpr ⟨hw, g⟩)
  · refine h3 w (h2 w (List.mem_filter.mpr ⟨hw, ?_⟩))
    show (!goodWord w) = true
    cases hgw : goodWord w
    · rfl
    · exact absurd hgw g
theorem vx_c {args : Array Value} {s : State} {w : Cond} {B : List Cond} (h : w.before args s = true) (t : ∀ w ∈ B, w.before args s = true) : ∀ w' ∈ w :: B, w'.before args s = true := fun w' h' => (List.mem_cons.mp h').elim (fun e => by rw [e]; exact h) (t w')
theorem vx_n {args : Array Value} {s : State} : ∀ w ∈ ([] : List Cond), w.before args s = true := fun _ h => nomatch h
theorem vx_own {args : Array Value} {s : State} {L : List Cond} (h1 : ∀ w ∈ L.filter vx_no, w.before args s = true)
    (hU : (Cond.isRef (.static Bundle.tN "UNASSIGNED_STACK" Bundle.steD)).before args s = true) (hN : (Cond.isRef (.static Bundle.tN "SUPPRESSED_SENTINEL" Bundle.listD)).before args s = true)
    (lU : (Cond.laysStatic Bundle.tN "UNASSIGNED_STACK" Bundle.steD).before args s = true) (lN : (Cond.laysStatic Bundle.tN "SUPPRESSED_SENTINEL" Bundle.listD).before args s = true) : ∀ w ∈ L, w.before args s = true := by
  intro w hw
  by_cases e1 : w = .isRef (.static Bundle.tN "UNASSIGNED_STACK" Bundle.steD)
  · rw [e1]; exact hU
  · by_cases e2 : w = .isRef (.static Bundle.tN "SUPPRESSED_SENTINEL" Bundle.listD)
    · rw [e2]; exact hN
    · by_cases e3 : w = .laysStatic Bundle.tN "UNASSIGNED_STACK" Bundle.steD
      · rw [e3]; exact lU
      · by_cases e4 : w = .laysStatic Bundle.tN "SUPPRESSED_SENTINEL" Bundle.listD
        · rw [e4]; exact lN
        · exact h1 w (List.mem_filter.mpr ⟨hw, by unfold vx_no; rw [decide_eq_true e1, decide_eq_true e2, decide_eq_true e3, decide_eq_true e4]; rfl⟩)
/-- where a static field lies, its class's statics cell in H -/
def vx_L (C n d : String) (A : Nat → Prop) (U : State) (H : Heap) : Prop := ∃ (c : ClassId) (k : Class) (i : Nat) (f : Field) (a : Nat) (cell : Cell), U.vm.findClass C = some c ∧ U.fieldFound? C n d = some (c, k, i, f) ∧ f.isStatic = true ∧ k.statics = some a ∧ H[a]? = some cell ∧ cell.vm.isStatics = true ∧ cell.cls = c ∧ f.slot < cell.slots.size ∧ k.staticTypes[f.slot]? = some f.type ∧ ¬ A a
theorem vx_L.moved {C n d : String} {A : Nat → Prop} {u U : State} {H : Heap} (hvm : u.vm.Alike U.vm) (h : vx_L C n d A u H) : vx_L C n d A U H := by
  obtain ⟨c, k, i, f, a, cell, h1, h2, h3, h4, h5, h6, h7, h8, h9, h10⟩ := h
  obtain ⟨k', hi', he⟩ := State.fieldFound?_setVm hvm h2
  exact ⟨c, k', i, f, a, cell, by rw [hvm.findClass]; exact h1, hi', h3, by rw [he]; exact h4, h5, h6, h7, h8, by rw [he]; exact h9, h10⟩
theorem vx_L.kept {C n d : String} {A : Nat → Prop} {U : State} {H H1 : Heap} (h : vx_L C n d A U H) (hq : ∀ a : Nat, a < H.size → ¬ A a → H1[a]? = H[a]?) : vx_L C n d A U H1 := by
  obtain ⟨c, k, i, f, a, cell, h1, h2, h3, h4, h5, h6, h7, h8, h9, h10⟩ := h
  exact ⟨c, k, i, f, a, cell, h1, h2, h3, h4, by rw [hq a (Array.getElem?_eq_some_iff.mp h5).1 h10]; exact h5, h6, h7, h8, h9, h10⟩
theorem vx_L.narrow {C n d : String} {A B : Nat → Prop} {U : State} {H : Heap} (h : vx_L C n d A U H) (hAB : ∀ q, B q → A q) : vx_L C n d B U H := by
  obtain ⟨c, k, i, f, a, cell, h1, h2, h3, h4, h5, h6, h7, h8, h9, h10⟩ := h
  exact ⟨c, k, i, f, a, cell, h1, h2, h3, h4, h5, h6, h7, h8, h9, fun z => h10 (hAB _ z)⟩
theorem vx_L.word {C n d : String} {A : Nat → Prop} {s : State} {args : Array Value} (h : vx_L C n d A s s.heap) : (Cond.laysStatic C n d).before args s = true := by
  obtain ⟨c, k, i, f, a, cell, h1, h2, h3, h4, h5, h6, h7, h8, h9, -⟩ := h
  show (Cond.laysStatic C n d).holds args s none s [] = true
  exact Cond.laysStatic_of h1 h2 h3 h4 h5 h6 h7 h8 h9
/-- .. and what it holds: null or some reference -/
def vx_Zq (C n d : String) (A : Nat → Prop) (U : State) (H : Heap) : Prop := va_Zq C n d A U H ∧ vx_L C n d A U H
theorem vx_Zq.moved {C n d : String} {A : Nat → Prop} {u U : State} {H : Heap} (hvm : u.vm.Alike U.vm) (h : vx_Zq C n d A u H) : vx_Zq C n d A U H := ⟨va_Zq.moved hvm h.1, vx_L.moved hvm h.2⟩
theorem vx_Zq.kept {C n d : String} {A : Nat → Prop} {U : State} {H H1 : Heap} (h : vx_Zq C n d A U H) (hq : ∀ a : Nat, a < H.size → ¬ A a → H1[a]? = H[a]?) : vx_Zq C n d A U H1 := ⟨va_Zq.kept h.1 hq, vx_L.kept h.2 hq⟩
theorem vx_Zq.narrow {C n d : String} {A B : Nat → Prop} {U : State} {H : Heap} (h : vx_Zq C n d A U H) (hAB : ∀ q, B q → A q) : vx_Zq C n d B U H := ⟨va_Zq.narrow h.1 hAB, vx_L.narrow h.2 hAB⟩
theorem vx_Zqof {args : Array Value} {s : State} {C n d : String} {A : Nat → Prop} (hl : (Cond.laysStatic C n d).before args s = true) (hini : (Cond.initialized C).before args s = true) (h : (Cond.isRef (.static C n d)).before args s = true) (hA : ∀ a : Nat, a < s.heap.size → ¬ A a) : vx_Zq C n d A s s.heap := by
  refine ⟨va_Zqof hl hini h hA, ?_⟩
  obtain ⟨c, k, i, f, a, cell, h1, h2, h3, h4, h5, h6, h7, h8, h9⟩ := Cond.laysStatic_spec hl
  exact ⟨c, k, i, f, a, cell, h1, h2, h3, h4, h5, h6, h7, h8, h9, hA a (Array.getElem?_eq_some_iff.mp h5).1⟩
theorem vx_isRef {C n d : String} {v : Value} {A : Nat → Prop} {s : State} {args : Array Value} (h : va_Z C n d v A s s.heap) (hv : v.isRef = true) : (Cond.isRef (.static C n d)).before args s = true := by
  obtain ⟨cf, kf, fi, f, a, cell, h1, h2, h3, h4, h5, h6, h7, -⟩ := h
  have he : (Term.static C n d).eval args s none [] s = some v := by
    simp [Term.eval, State.fieldNamed?, h1, h2, h4, h5, h6, h7]
  simp only [Cond.before, Cond.holds, Cond.value, he]
  cases v <;> simp_all [Value.isRef]
theorem vx_isRefq {C n d : String} {A : Nat → Prop} {s : State} {args : Array Value} (h : va_Zq C n d A s s.heap) : (Cond.isRef (.static C n d)).before args s = true := by
  rcases h with h | ⟨t, h⟩
  · exact vx_isRef h rfl
  · exact vx_isRef h rfl
/-- the same frame, seen from here: as if the method were called anew in this heap -/
theorem vx_rebase {T : State} (X : Stand p l e R s m args below meth c T locs cells slots) {R' : Room} (hf : R'.frames ≤ R.frames) (hl : R'.locals ≤ R.locals) (hc : cells + R'.cells ≤ R.cells) (hs : slots + R'.slots ≤ R.slots) :
    Stand p l e R' ((T.setVm s.vm).setFrames (.invoking m args :: below)) m args below meth c T [] 0 0 := by
  have htop : (T.setVm s.vm).topJava?.isSome := X.here.top
  have hF : ((T.setVm s.vm).setFrames (.invoking m args :: below)).frames = .invoking m args :: below := State.frames_setFrames _ (State.cur_lt_of_top htop)
  obtain ⟨g₀, hg0⟩ := Option.isSome_iff_exists.mp htop
  obtain ⟨r, hr⟩ := State.topJava?_eq_some.mp hg0
  have hl9 : e.platform.stackLimits (T.setVm s.vm).me = e.platform.stackLimits s.me := X.limits
  have hb9 : (T.setVm s.vm).me.stackBytes = s.me.stackBytes := X.bytes
  refine ⟨X.admits, X.cas, X.clock, hF, ?_, X.hears, X.method, X.code, X.here, X.tail, X.warmed, ?_, ?_, ?_⟩
  · have h := X.room
    have hU : ((T.setVm s.vm).setFrames (.invoking m args :: below)).localsInUse = s.localsInUse := by
      rw [State.localsInUse_invoking hF (meth := meth) (c := c) X.method X.code, State.localsInUse_invoking X.frames X.method X.code]
    simp only [State.hasRoom, Bool.and_eq_true, decide_eq_true_eq] at h ⊢
    obtain ⟨⟨⟨⟨h1, h2, h3, h4, h5, h6⟩, h7⟩, h8⟩, h9⟩ := h
    rw [X.frames, List.length_cons] at h2 h3
    have q1 := X.heapSize
    have q2 := X.used
    simp only [hF, hU, List.length_cons, State.stackLimits_setFrames, State.stackBytes_setFrames, hl9, hb9]
    refine ⟨⟨⟨⟨by omega, by omega, by omega, by omega, by omega, h6⟩, ?_⟩, ?_⟩, X.book⟩
    · show T.heap.size + R'.cells ≤ e.platform.maxCells
      omega
    · show T.slotsUsed + R'.slots ≤ e.platform.maxSlots
      omega
  · rw [State.stackLimits_setFrames]; rfl
  · rw [State.stackBytes_setFrames]; rfl
  · refine ⟨?_, Nat.le_refl _, Nat.le_refl _, ?_, ?_, fun a c9 h9 => ⟨c9, h9, rfl, rfl, fun _ _ => rfl⟩⟩
    · obtain ⟨t, ht, -⟩ := State.frames_cons hr
      show T.setVm s.vm = { ((T.setVm s.vm).setFrames (.invoking m args :: below)).setFrames (T.setVm s.vm).frames with heap := T.heap, slotsUsed := T.slotsUsed }
      rw [State.setFrames_setFrames, State.setFrames_self ht]
      rfl
    · show T.slotsUsed = T.slotsUsed + ((T.heap.toList.drop T.heap.size).map (·.slots.size)).sum
      rw [List.drop_eq_nil_of_le (Nat.le_of_eq Array.length_toList)]
      rfl
    · show ((T.heap.toList.drop T.heap.size).map (·.slots.size)).sum ≤ 0
      rw [List.drop_eq_nil_of_le (Nat.le_of_eq Array.length_toList)]
      exact Nat.le_refl _
/-- 'throw new E()': new; dup; invokespecial; athrow -/
theorem vx_throw0 {cc : ByteArray} {pc : Nat} (hexec : p.tables.exec = Jvm.exec) (hb : c.code = cc) (hl : l.stackTraces = false) {own cls : String} {names : List String} {ik ic mc ms : Nat} {A : Nat → Prop}
    (hown : s.vm.findClass own = some m.cls) (hcls : Bundle.fit cls = true) (hnames : ∀ n ∈ names, Bundle.fit n = true)
    (hk : (Cond.classLink own ik cls).before args s = true) (hini : (Cond.initialized cls).before args s = true) (hat : ∀ w ∈ vx_at0 own ic cls names, w.before args s = true)
    (hgood : ∀ w ∈ Cond.classLink own ik cls :: Cond.initialized cls :: vx_at0 own ic cls names, vx_ot w = true)
    (hU : vx_Zq Bundle.tN "UNASSIGNED_STACK" Bundle.steD A s s.heap) (hN : vx_Zq Bundle.tN "SUPPRESSED_SENTINEL" Bundle.listD A s s.heap) (hS : va_S A s.heap H locs) (hsize : ls.size = c.maxLocals)
    (d0 : decode cc pc = .ok (.new ik, 3)) (d3 : decode cc (pc + 3) = .ok (.dup, 1)) (d4 : decode cc (pc + 4) = .ok (.invokespecial ic, 3)) (d7 : decode cc (pc + 7) = .ok (.athrow, 1))
    (hout : ∀ x ∈ c.exceptionTable.toList, covers x (pc + 7) = false)
    (hRframes : names.length + 3 < R.frames) (hRlocals : (rest.map fun v => v.category).sum + (13 * (names.length + 1) + 42) ≤ R.locals) (hRcells : cells + 1 ≤ R.cells) (hRslots : slots + 6 ≤ R.slots) (hlocks : meth.locks = false)
    (hx : ∀ t : State, s.vm.Alike t.vm → H.size ≤ t.heap.size → (∀ q : Nat, q < H.size → t.heap[q]? = H[q]?) → XC cls s t)
    (hf : ∀ z ∈ locs, free z.base) (hc : cells + 1 ≤ mc) (hs : slots + 6 ≤ ms) :
    W p l e R s m args below meth c H locs cells slots (vx_MQ below Qc XC args s mc ms free) (F0 m pc ls rest) := by
  intro T hT X
  have htr : e.platform.stackTraces = false := (show e.platform.stackTraces = l.stackTraces by rw [X.admits.platform]).trans hl
  have Y := vx_rebase X (R' := { frames := R.frames, locals := R.locals, cells := 1, slots := 6 }) (Nat.le_refl _) (Nat.le_refl _) hRcells hRslots
  obtain ⟨s', hA⟩ : ∃ z, z = (T.setVm s.vm).setFrames (.invoking m args :: below) := ⟨_, rfl⟩
  rw [← hA] at Y
  have hvm : s'.vm = s.vm := by rw [hA]; rfl
  have hhp : s'.heap = H := by rw [hA]; exact hT
  have hW0 : s.WarmedH s'.vm := by rw [hvm]; exact State.WarmedH.refl s
  have hat' : ∀ w ∈ vx_at0 own ic cls names, w.before args s' = true := fun w hw => vx_ot_at hW0 hvm.symm (hgood w (List.mem_cons_of_mem _ (List.mem_cons_of_mem _ hw))) (hat w hw)
  have hk' : (Cond.classLink own ik cls).before args s' = true := vx_ot_at hW0 hvm.symm (hgood _ List.mem_cons_self) hk
  have hini' : (Cond.initialized cls).before args s' = true := vx_ot_at hW0 hvm.symm (hgood _ (List.mem_cons_of_mem _ List.mem_cons_self)) hini
  have hU' : vx_Zq Bundle.tN "UNASSIGNED_STACK" Bundle.steD A s' s'.heap := by rw [hhp]; exact vx_Zq.moved hW0.alike (hU.kept hS.2.1)
  have hN' : vx_Zq Bundle.tN "SUPPRESSED_SENTINEL" Bundle.listD A s' s'.heap := by rw [hhp]; exact vx_Zq.moved hW0.alike (hN.kept hS.2.1)
  have h : ∀ w ∈ Bundle.ownAtoms0 own ic cls names, w.before args s' = true := vx_own hat' (vx_isRefq hU'.1) (vx_isRefq hN'.1) hU'.2.word hN'.2.word
  have hown' : s'.vm.findClass own = some m.cls := by rw [hvm]; exact hown
  have hins : (Cond.instantiable cls 6).before args s' = true := h _ (by simp [Bundle.ownAtoms0])
  obtain ⟨vm₁, cX, kX, hfX, hkX, -, -, X₁, st1⟩ := Y.newCold hexec (own := own) (C := cls) (index := ik) (n := 6) hown' hk' hins hini'
    (g := F0 m pc ls rest) rfl (by rw [hb]; exact d0) (Nat.le_refl _) (Nat.le_refl _)
  generalize hT1 : (T.setVm vm₁).pushCell { cls := cX, slots := kX.instanceTypes.map defaultValue, vm := .none } = T1 at X₁ st1
  have hcat : (Value.ref T.heap.size).category = 1 := rfl
  have hcellA : T1.heap[T.heap.size]? = some (freshCell cX kX) := by rw [← hT1]; exact State.heap_pushCell_size _ _
  have d3' : decode c.code (pc + 3) = .ok (.dup, 1) := by rw [hb]; exact d3
  obtain ⟨U, hsteps, hrun, hend, hW, hsame, ce, hce, hO⟩ := X₁.ctorThrow0 hexec htr (own := own) (cls := cls) (names := names) (ic := ic) hown' hcls hnames h (fun x hx => nomatch hx) hfX hkX hcellA (by rw [hhp, hT]; exact Nat.le_refl _)
    (g := { method := m, pc := pc + 4, locals := ls, stack := .ref T.heap.size :: .ref T.heap.size :: rest, locked := none }) rfl hsize rfl rfl (rest := rest) rfl
    (by rw [hb]; exact d4) (by rw [hb]; exact d7) hout hRframes (by simp only [List.map_cons, List.sum_cons, hcat]; omega) hlocks
  obtain ⟨f1, f2⟩ := vx_frame hsame
  rw [hhp] at f1 f2
  have hWs : s.WarmedH U.vm := State.WarmedH.trans hW0 hW
  have hcl : s.vm.findClass cls = some ce.cls := by
    have h9 := hO.cls
    rw [hvm] at h9
    exact h9
  have hall : s.sameButNew ({ U with vm := s.vm } : State) locs mc ms := by
    subst hA
    obtain ⟨e1, e2⟩ := hsame
    rw [State.setFrames_setFrames] at e1
    have h2 : (T.setVm s.vm).sameButNew ({ U with vm := s.vm } : State) [] (0 + 1) (0 + 6) := ⟨e1, e2⟩
    have h3 := X.same.trans h2
    rw [List.append_nil] at h3
    exact h3.mono hc hs
  refine ⟨U, ?_, .threw T.heap.size, hrun, hend, Or.inr ⟨T.heap.size, rfl, cls, ce, locs, hx U hWs.alike f1 (fun q hq => f2 q hq (fun z hz => nomatch hz)), hce, hO.vm, hcl, hWs, hall, hf⟩⟩
  refine st1 _ ?_
  show Steps p.tables e below (T1.setTop { method := m, pc := pc + 3, locals := ls, stack := .ref T.heap.size :: rest, locked := none }) _
  jvm_step X₁.here [X₁.here.top, hexec, d3', Value.category]
  exact hsteps
/-- 'throw new E("text")': new; dup; ldc; invokespecial; athrow -/
theorem vx_throwS {cc : ByteArray} {pc : Nat} (hexec : p.tables.exec = Jvm.exec) (hb : c.code = cc) (hl : l.stackTraces = false) {own cls text : String} {names : List String} {ik is ic mc ms sa : Nat} {A : Nat → Prop}
    (hown : s.vm.findClass own = some m.cls) (hcls : Bundle.fit cls = true) (hnames : ∀ n ∈ names, Bundle.fit n = true)
    (hk : (Cond.classLink own ik cls).before args s = true) (hini : (Cond.initialized cls).before args s = true) (hstr : vk_R own is text sa s) (hat : ∀ w ∈ vx_atS own ic cls names, w.before args s = true)
    (hgood : ∀ w ∈ Cond.classLink own ik cls :: Cond.initialized cls :: vx_atS own ic cls names, vx_ot w = true)
    (hU : vx_Zq Bundle.tN "UNASSIGNED_STACK" Bundle.steD A s s.heap) (hN : vx_Zq Bundle.tN "SUPPRESSED_SENTINEL" Bundle.listD A s s.heap) (hS : va_S A s.heap H locs) (hsize : ls.size = c.maxLocals)
    (d0 : decode cc pc = .ok (.new ik, 3)) (d3 : decode cc (pc + 3) = .ok (.dup, 1)) (d4 : decode cc (pc + 4) = .ok (.ldc is, 2)) (d6 : decode cc (pc + 6) = .ok (.invokespecial ic, 3)) (d9 : decode cc (pc + 9) = .ok (.athrow, 1))
    (hout : ∀ x ∈ c.exceptionTable.toList, covers x (pc + 9) = false)
    (hRframes : names.length + 3 < R.frames) (hRlocals : (rest.map fun v => v.category).sum + (13 * (names.length + 1) + 43) ≤ R.locals) (hRcells : cells + 1 ≤ R.cells) (hRslots : slots + 6 ≤ R.slots) (hlocks : meth.locks = false)
    (hx : ∀ t : State, s.vm.Alike t.vm → H.size ≤ t.heap.size → (∀ q : Nat, q < H.size → t.heap[q]? = H[q]?) → XC cls s t)
    (hf : ∀ z ∈ locs, free z.base) (hc : cells + 1 ≤ mc) (hs : slots + 6 ≤ ms) :
    W p l e R s m args below meth c H locs cells slots (vx_MQ below Qc XC args s mc ms free) (F0 m pc ls rest) := by
  intro T hT X
  have htr : e.platform.stackTraces = false := (show e.platform.stackTraces = l.stackTraces by rw [X.admits.platform]).trans hl
  have Y := vx_rebase X (R' := { frames := R.frames, locals := R.locals, cells := 1, slots := 6 }) (Nat.le_refl _) (Nat.le_refl _) hRcells hRslots
  obtain ⟨s', hA⟩ : ∃ z, z = (T.setVm s.vm).setFrames (.invoking m args :: below) := ⟨_, rfl⟩
  rw [← hA] at Y
  have hvm : s'.vm = s.vm := by rw [hA]; rfl
  have hhp : s'.heap = H := by rw [hA]; exact hT
  have hW0 : s.WarmedH s'.vm := by rw [hvm]; exact State.WarmedH.refl s
  have hat' : ∀ w ∈ vx_atS own ic cls names, w.before args s' = true := fun w hw => vx_ot_at hW0 hvm.symm (hgood w (List.mem_cons_of_mem _ (List.mem_cons_of_mem _ hw))) (hat w hw)
  have hk' : (Cond.classLink own ik cls).before args s' = true := vx_ot_at hW0 hvm.symm (hgood _ List.mem_cons_self) hk
  have hini' : (Cond.initialized cls).before args s' = true := vx_ot_at hW0 hvm.symm (hgood _ (List.mem_cons_of_mem _ List.mem_cons_self)) hini
  have hU' : vx_Zq Bundle.tN "UNASSIGNED_STACK" Bundle.steD A s' s'.heap := by rw [hhp]; exact vx_Zq.moved hW0.alike (hU.kept hS.2.1)
  have hN' : vx_Zq Bundle.tN "SUPPRESSED_SENTINEL" Bundle.listD A s' s'.heap := by rw [hhp]; exact vx_Zq.moved hW0.alike (hN.kept hS.2.1)
  have h : ∀ w ∈ Bundle.ownAtoms own ic cls names, w.before args s' = true := vx_own hat' (vx_isRefq hU'.1) (vx_isRefq hN'.1) hU'.2.word hN'.2.word
  have hown' : s'.vm.findClass own = some m.cls := by rw [hvm]; exact hown
  have hins : (Cond.instantiable cls 6).before args s' = true := h _ (by simp [Bundle.ownAtoms])
  obtain ⟨vm₁, cX, kX, hfX, hkX, -, -, X₁, st1⟩ := Y.newCold hexec (own := own) (C := cls) (index := ik) (n := 6) hown' hk' hins hini'
    (g := F0 m pc ls rest) rfl (by rw [hb]; exact d0) (Nat.le_refl _) (Nat.le_refl _)
  generalize hT1 : (T.setVm vm₁).pushCell { cls := cX, slots := kX.instanceTypes.map defaultValue, vm := .none } = T1 at X₁ st1
  have hcat : (Value.ref T.heap.size).category = 1 := rfl
  have hcellA : T1.heap[T.heap.size]? = some (freshCell cX kX) := by rw [← hT1]; exact State.heap_pushCell_size _ _
  have d3' : decode c.code (pc + 3) = .ok (.dup, 1) := by rw [hb]; exact d3
  have d4' : decode c.code (pc + 4) = .ok (.ldc is, 2) := by rw [hb]; exact d4
  have hstr' : vk_R own is text sa s' := vk_R.warm hW0 hstr
  obtain ⟨U, hsteps, hrun, hend, hW, hsame, ce, hce, hO⟩ := X₁.ctorThrowS hexec htr (own := own) (cls := cls) (names := names) (ic := ic) hown' hcls hnames h (fun x hx => nomatch hx) hfX hkX hcellA (by rw [hhp, hT]; exact Nat.le_refl _) (msg := .ref sa) rfl
    (g := { method := m, pc := pc + 6, locals := ls, stack := .ref sa :: .ref T.heap.size :: .ref T.heap.size :: rest, locked := none }) rfl hsize rfl rfl (rest := rest) rfl
    (by rw [hb]; exact d6) (by rw [hb]; exact d9) hout hRframes (by simp only [List.map_cons, List.sum_cons, hcat]; omega) hlocks
  obtain ⟨f1, f2⟩ := vx_frame hsame
  rw [hhp] at f1 f2
  have hWs : s.WarmedH U.vm := State.WarmedH.trans hW0 hW
  have hcl : s.vm.findClass cls = some ce.cls := by
    have h9 := hO.cls
    rw [hvm] at h9
    exact h9
  have hall : s.sameButNew ({ U with vm := s.vm } : State) locs mc ms := by
    subst hA
    obtain ⟨e1, e2⟩ := hsame
    rw [State.setFrames_setFrames] at e1
    have h2 : (T.setVm s.vm).sameButNew ({ U with vm := s.vm } : State) [] (0 + 1) (0 + 6) := ⟨e1, e2⟩
    have h3 := X.same.trans h2
    rw [List.append_nil] at h3
    exact h3.mono hc hs
  refine ⟨U, ?_, .threw T.heap.size, hrun, hend, Or.inr ⟨T.heap.size, rfl, cls, ce, locs, hx U hWs.alike f1 (fun q hq => f2 q hq (fun z hz => nomatch hz)), hce, hO.vm, hcl, hWs, hall, hf⟩⟩
  refine st1 _ ?_
  show Steps p.tables e below (T1.setTop { method := m, pc := pc + 3, locals := ls, stack := .ref T.heap.size :: rest, locked := none }) _
  jvm_step X₁.here [X₁.here.top, hexec, d3', Value.category]
  exact X₁.ldcString hexec (own := own) (text := text) (index := is) (a := sa) hown' hstr'.1 hstr'.2
    (g := { method := m, pc := pc + 4, locals := ls, stack := .ref T.heap.size :: .ref T.heap.size :: rest, locked := none }) rfl d4' _ hsteps
/-- 'throw new E("text")', the text by a wide index -/
theorem vx_throwSW {cc : ByteArray} {pc : Nat} (hexec : p.tables.exec = Jvm.exec) (hb : c.code = cc) (hl : l.stackTraces = false) {own cls text : String} {names : List String} {ik is ic mc ms sa : Nat} {A : Nat → Prop}
    (hown : s.vm.findClass own = some m.cls) (hcls : Bundle.fit cls = true) (hnames : ∀ n ∈ names, Bundle.fit n = true)
    (hk : (Cond.classLink own ik cls).before args s = true) (hini : (Cond.initialized cls).before args s = true) (hstr : vk_R own is text sa s) (hat : ∀ w ∈ vx_atS own ic cls names, w.before args s = true)
    (hgood : ∀ w ∈ Cond.classLink own ik cls :: Cond.initialized cls :: vx_atS own ic cls names, vx_ot w = true)
    (hU : vx_Zq Bundle.tN "UNASSIGNED_STACK" Bundle.steD A s s.heap) (hN : vx_Zq Bundle.tN "SUPPRESSED_SENTINEL" Bundle.listD A s s.heap) (hS : va_S A s.heap H locs) (hsize : ls.size = c.maxLocals)
    (d0 : decode cc pc = .ok (.new ik, 3)) (d3 : decode cc (pc + 3) = .ok (.dup, 1)) (d4 : decode cc (pc + 4) = .ok (.ldc_w is, 3)) (d7 : decode cc (pc + 7) = .ok (.invokespecial ic, 3)) (d10 : decode cc (pc + 10) = .ok (.athrow, 1))
    (hout : ∀ x ∈ c.exceptionTable.toList, covers x (pc + 10) = false)
    (hRframes : names.length + 3 < R.frames) (hRlocals : (rest.map fun v => v.category).sum + (13 * (names.length + 1) + 43) ≤ R.locals) (hRcells : cells + 1 ≤ R.cells) (hRslots : slots + 6 ≤ R.slots) (hlocks : meth.locks = false)
    (hx : ∀ t : State, s.vm.Alike t.vm → H.size ≤ t.heap.size → (∀ q : Nat, q < H.size → t.heap[q]? = H[q]?) → XC cls s t)
    (hf : ∀ z ∈ locs, free z.base) (hc : cells + 1 ≤ mc) (hs : slots + 6 ≤ ms) :
    W p l e R s m args below meth c H locs cells slots (vx_MQ below Qc XC args s mc ms free) (F0 m pc ls rest) := by
  intro T hT X
  have htr : e.platform.stackTraces = false := (show e.platform.stackTraces = l.stackTraces by rw [X.admits.platform]).trans hl
  have Y := vx_rebase X (R' := { frames := R.frames, locals := R.locals, cells := 1, slots := 6 }) (Nat.le_refl _) (Nat.le_refl _) hRcells hRslots
  obtain ⟨s', hA⟩ : ∃ z, z = (T.setVm s.vm).setFrames (.invoking m args :: below) := ⟨_, rfl⟩
  rw [← hA] at Y
  have hvm : s'.vm = s.vm := by rw [hA]; rfl
  have hhp : s'.heap = H := by rw [hA]; exact hT
  have hW0 : s.WarmedH s'.vm := by rw [hvm]; exact State.WarmedH.refl s
  have hat' : ∀ w ∈ vx_atS own ic cls names, w.before args s' = true := fun w hw => vx_ot_at hW0 hvm.symm (hgood w (List.mem_cons_of_mem _ (List.mem_cons_of_mem _ hw))) (hat w hw)
  have hk' : (Cond.classLink own ik cls).before args s' = true := vx_ot_at hW0 hvm.symm (hgood _ List.mem_cons_self) hk
  have hini' : (Cond.initialized cls).before args s' = true := vx_ot_at hW0 hvm.symm (hgood _ (List.mem_cons_of_mem _ List.mem_cons_self)) hini
  have hU' : vx_Zq Bundle.tN "UNASSIGNED_STACK" Bundle.steD A s' s'.heap := by rw [hhp]; exact vx_Zq.moved hW0.alike (hU.kept hS.2.1)
  have hN' : vx_Zq Bundle.tN "SUPPRESSED_SENTINEL" Bundle.listD A s' s'.heap := by rw [hhp]; exact vx_Zq.moved hW0.alike (hN.kept hS.2.1)
  have h : ∀ w ∈ Bundle.ownAtoms own ic cls names, w.before args s' = true := vx_own hat' (vx_isRefq hU'.1) (vx_isRefq hN'.1) hU'.2.word hN'.2.word
  have hown' : s'.vm.findClass own = some m.cls := by rw [hvm]; exact hown
  have hins : (Cond.instantiable cls 6).before args s' = true := h _ (by simp [Bundle.ownAtoms])
  obtain ⟨vm₁, cX, kX, hfX, hkX, -, -, X₁, st1⟩ := Y.newCold hexec (own := own) (C := cls) (index := ik) (n := 6) hown' hk' hins hini'
    (g := F0 m pc ls rest) rfl (by rw [hb]; exact d0) (Nat.le_refl _) (Nat.le_refl _)
  generalize hT1 : (T.setVm vm₁).pushCell { cls := cX, slots := kX.instanceTypes.map defaultValue, vm := .none } = T1 at X₁ st1
  have hcat : (Value.ref T.heap.size).category = 1 := rfl
  have hcellA : T1.heap[T.heap.size]? = some (freshCell cX kX) := by rw [← hT1]; exact State.heap_pushCell_size _ _
  have d3' : decode c.code (pc + 3) = .ok (.dup, 1) := by rw [hb]; exact d3
  have d4' : decode c.code (pc + 4) = .ok (.ldc_w is, 3) := by rw [hb]; exact d4
  have hstr' : vk_R own is text sa s' := vk_R.warm hW0 hstr
  obtain ⟨U, hsteps, hrun, hend, hW, hsame, ce, hce, hO⟩ := X₁.ctorThrowS hexec htr (own := own) (cls := cls) (names := names) (ic := ic) hown' hcls hnames h (fun x hx => nomatch hx) hfX hkX hcellA (by rw [hhp, hT]; exact Nat.le_refl _) (msg := .ref sa) rfl
    (g := { method := m, pc := pc + 7, locals := ls, stack := .ref sa :: .ref T.heap.size :: .ref T.heap.size :: rest, locked := none }) rfl hsize rfl rfl (rest := rest) rfl
    (by rw [hb]; exact d7) (by rw [hb]; exact d10) hout hRframes (by simp only [List.map_cons, List.sum_cons, hcat]; omega) hlocks
  obtain ⟨f1, f2⟩ := vx_frame hsame
  rw [hhp] at f1 f2
  have hWs : s.WarmedH U.vm := State.WarmedH.trans hW0 hW
  have hcl : s.vm.findClass cls = some ce.cls := by
    have h9 := hO.cls
    rw [hvm] at h9
    exact h9
  have hall : s.sameButNew ({ U with vm := s.vm } : State) locs mc ms := by
    subst hA
    obtain ⟨e1, e2⟩ := hsame
    rw [State.setFrames_setFrames] at e1
    have h2 : (T.setVm s.vm).sameButNew ({ U with vm := s.vm } : State) [] (0 + 1) (0 + 6) := ⟨e1, e2⟩
    have h3 := X.same.trans h2
    rw [List.append_nil] at h3
    exact h3.mono hc hs
  refine ⟨U, ?_, .threw T.heap.size, hrun, hend, Or.inr ⟨T.heap.size, rfl, cls, ce, locs, hx U hWs.alike f1 (fun q hq => f2 q hq (fun z hz => nomatch hz)), hce, hO.vm, hcl, hWs, hall, hf⟩⟩
  refine st1 _ ?_
  show Steps p.tables e below (T1.setTop { method := m, pc := pc + 3, locals := ls, stack := .ref T.heap.size :: rest, locked := none }) _
  jvm_step X₁.here [X₁.here.top, hexec, d3', Value.category]
  exact X₁.ldcStringW hexec (own := own) (text := text) (index := is) (a := sa) hown' hstr'.1 hstr'.2
    (g := { method := m, pc := pc + 4, locals := ls, stack := .ref T.heap.size :: .ref T.heap.size :: rest, locked := none }) rfl d4' _ hsteps
end Ends
section Bodies
variable {l : Launch}
theorem vx_ofW {y : MethodName} {ws ws' : List Cond} {rm : Room} {Pc : Array Value → State → Prop} {Qc : Array Value → State → Outcome → State → Prop} {XC : String → State → State → Prop} {mc ms : Nat} {free : Addr → Prop} {cc : ByteArray} {maxL : Nat} {ret : Option FieldType}
    (hy : plainName y.cls = true) (hw : ws = Cond.code y cc maxL ret :: ws')
    (body : ∀ p e s m args below meth c s₁, BodyLoose p l y (headSpec ws rm) cc maxL ret e s m args below meth c s₁ → c.maxLocals = maxL → (∀ x ∈ c.exceptionTable.toList, False) → Pc args s →
      W p l e (headSpec ws rm).room s m args below meth c s.heap [] 0 0 (vx_MQ below Qc XC args s mc ms free) (entryFrame m args maxL)) : vx_Met l y ws rm Pc Qc XC mc ms free := by
  refine MetFree.of_bodyS (code := cc) (maxLocals := maxL) (ret := ret) hy ?_ ?_
  · intro args s m h hn
    obtain ⟨meth, c, h1, h2, h3, h4, h5, h6, -, -⟩ := Cond.code_spec hn (atoms_spec (ws := ws) h _ (by rw [hw]; exact List.mem_cons_self))
    exact ⟨meth, c, h1, h2, h3, h4, h5, h6⟩
  · intro p e s m args below meth c s₁ B hml hP _
    have hh0 : s₁.heap = s.heap := by rw [B.state]; rfl
    have ht : ∀ x ∈ c.exceptionTable.toList, False := by
      obtain ⟨meth9, c9, h1, h2, -, -, -, -, h7, -⟩ := Cond.code_spec B.named (atoms_spec (ws := ws) B.pre _ (by rw [hw]; exact List.mem_cons_self))
      cases Option.some.inj (h1.symm.trans B.method)
      cases Option.some.inj (h2.symm.trans (Stand.of_body B).code)
      intro x hx
      rw [Array.isEmpty_iff.mp h7] at hx
      cases hx
    obtain ⟨t, a1, o, b1, b2, b3⟩ := body p e s m args below meth c s₁ B hml ht hP s₁ hh0 (Stand.of_body B)
    exact ⟨t, o, a1, b1, b2, b3⟩
/-- the table of a body with handlers -/
theorem vx_table {p : Program} {x y : MethodName} {S : Spec} {cc bytes : ByteArray} {maxL maxL' : Nat} {ret ret' : Option FieldType} {e : Env} {s s₁ : State} {m : MethodId} {args : Array Value} {below : List Frame} {meth : Method} {c : Code} {hh : List (Nat × Nat × Nat × Nat)}
    (B : BodyLoose p l y S cc maxL ret e s m args below meth c s₁) (h : (Cond.codeWith y bytes maxL' ret' hh).before args s = true) : c.exceptionTable.toList = tableOf hh := by
  obtain ⟨m9, meth9, c9, hn9, h1, h2, -, -, h6, -⟩ := Cond.codeWith_spec h
  cases Option.some.inj (hn9.symm.trans B.named)
  cases Option.some.inj (h1.symm.trans B.method)
  cases Option.some.inj (h2.symm.trans (Stand.of_body B).code)
  rw [← h6, table_eq]
end Bodies
end VXA
/-! ===== END ===== -/
/-! ===== BEGIN a static call of a method with an exception table ===== -/
section VXS
variable {p : Program} {l : Launch} {e : Env} {R : Room} {s : State} {m : MethodId} {args : Array Value} {below : List Frame} {meth : Method} {c : Code} {T : State} {H : Heap} {locs : List Loc} {cells slots : Nat}
abbrev vx_CSW (R : Room) (s : State) (args : Array Value) (own : String) (index : Nat) (y : MethodName) (bytes : ByteArray) (maxL : Nat) (ret : Option FieldType) (hh : List (Nat × Nat × Nat × Nat)) (ws : List Cond) (rm : Room) (mc ms n : Nat) : Prop :=
  (rm.cells = mc ∧ rm.slots = ms ∧ rm.frames + 1 ≤ R.frames ∧ 8 + (maxL + 11) + rm.locals ≤ R.locals ∧ (∀ w ∈ ws, ∀ (a' : Array Value) (U : State), s.WarmedH U.vm → w.before a' U = true) ∧ Cond.codeWith y bytes maxL ret hh ∈ ws) ∧
  (Cond.codeWith y bytes maxL ret hh).before args s = true ∧ (Cond.initialized y.cls).before args s = true ∧ (y.cls ≠ "java/lang/invoke/MethodHandle" ∧ y.cls ≠ "java/lang/invoke/VarHandle") ∧
  (∀ sig, parseMethodDescriptor y.desc = some sig → n = sig.parameters.length) ∧ (Cond.methodLink own index y).before args s = true ∧ (Cond.static y).before args s = true
theorem vx_cwSW {own : String} {index maxL mc ms : Nat} {y : MethodName} {bytes : ByteArray} {ret : Option FieldType} {hh : List (Nat × Nat × Nat × Nat)} {Ts ws ws' : List Cond} {rm : Room} (n : Nat) (ht : ∀ w ∈ Ts, w.before args s = true) (hT : GoodIn Ts (va_wsS own index y ws)) (hw : ws = Cond.codeWith y bytes maxL ret hh :: ws') (hrc : rm.cells = mc) (hrs : rm.slots = ms)
    (hd : y.cls ≠ "java/lang/invoke/MethodHandle" ∧ y.cls ≠ "java/lang/invoke/VarHandle" ∧ (parseMethodDescriptor y.desc).map (fun d => d.parameters.length) = some n) (hR : rm.frames + 1 ≤ R.frames ∧ 8 + (maxL + 11) + rm.locals ≤ R.locals) :
    vx_CSW R s args own index y bytes maxL ret hh ws rm mc ms n := by
  have ok : ∀ w ∈ va_wsS own index y ws, w.before args s = true := fun w h => ht w (hT w h).1
  have hG : GoodIn Ts ws := fun w h => hT w (by unfold va_wsS; exact List.mem_append_right _ h)
  have hc : Cond.codeWith y bytes maxL ret hh ∈ ws := by rw [hw]; exact List.mem_cons_self
  refine ⟨⟨hrc, hrs, hR.1, hR.2, pay_in ht hG, hc⟩, ht _ (hG _ hc).1, ok _ (by simp [va_wsS]), ⟨hd.1, hd.2.1⟩, fun sig h => ?_, ok _ (by simp [va_wsS]), ok _ (by simp [va_wsS])⟩
  have h2 := hd.2.2
  rw [h] at h2
  exact (Option.some.inj h2).symm
theorem vx_callSW (X : Stand p l e R s m args below meth c T locs cells slots) (hexec : p.tables.exec = Jvm.exec) {own : String} {index : Nat} {y : MethodName} {bytes : ByteArray} {maxL : Nat} {ret : Option FieldType} {hh : List (Nat × Nat × Nat × Nat)}
    (hown : s.vm.findClass own = some m.cls) (hlink : (Cond.methodLink own index y).before args s = true) (hstat : (Cond.static y).before args s = true) (hinit : (Cond.initialized y.cls).before args s = true)
    (hcode : (Cond.codeWith y bytes maxL ret hh).before args s = true) (hy : y.cls ≠ "java/lang/invoke/MethodHandle" ∧ y.cls ≠ "java/lang/invoke/VarHandle")
    {W9 : Nat} {Pre : Pt → Array Value → Prop} {Post : Pt → Array Value → Option Value → Pt → Prop} (hK : Back l R p e below s args y 3 W9 Pre Post)
    {g : JFrame} (hg : g.method = m) (hsize : g.locals.size = c.maxLocals) {argsL rest : List Value} (hlen : ∀ sig, parseMethodDescriptor y.desc = some sig → argsL.length = sig.parameters.length)
    (hstack : g.stack = argsL.reverse ++ rest) (hW : 2 * g.monitorRoom + (rest.map fun v => v.category).sum ≤ W9) (hdg : decode c.code g.pc = .ok (.invokestatic index, 3))
    (hpre : ∀ vm₁, s.WarmedH vm₁ → Pre ⟨T.setVm vm₁, locs, cells, slots⟩ argsL.toArray) :
    ∃ (v : Option Value) (vm₁ : Vm) (B : Pt), s.WarmedH vm₁ ∧ Stand p l e R s m args below meth c B.U B.locs B.cells B.slots ∧ Post ⟨T.setVm vm₁, locs, cells, slots⟩ argsL.toArray v B ∧
      ∀ target, Steps p.tables e below (B.U.setTop { g with pc := g.pc + 3, stack := v.toList ++ rest }) target → Steps p.tables e below (T.setTop g) target := by
  obtain ⟨mk, methM, cM, hnamed, hmethM, -, -, -, -, -, -, hsigM⟩ := Cond.codeWith_spec hcode
  have hstatic : methM.isStatic = true := Cond.static_spec hnamed hmethM hstat
  obtain ⟨kP, hkP, -⟩ := className_of_methodNamed hnamed
  have hinitP : kP.init = .initialized := Cond.initialized_spec (findClass_of_methodNamed hnamed) hkP hinit
  obtain ⟨vm₁, X₁, hstep₁⟩ := X.invokestatic hexec hown hlink hnamed hmethM hstatic hkP hinitP hy (g := g) hg (argsL := argsL) (rest := rest) (hlen _ hsigM) hstack hdg
  obtain ⟨v, B, X', hpost, hsteps⟩ := hK m meth c ⟨T.setVm vm₁, locs, cells, slots⟩ { g with stack := rest } (.invokestatic index) mk argsL.toArray X₁ hg hsize hdg hW (X₁.named hnamed) (hpre vm₁ X₁.warmed)
  exact ⟨v, vm₁, B, X₁.warmed, X', hpost, fun target h => hstep₁ _ fun acts => by rw [doInvoke_state]; exact hsteps.trans h⟩
theorem vx_runSW {y : MethodName} {bytes cc : ByteArray} {maxL nL mc ms n index : Nat} {ret : Option FieldType} {hh : List (Nat × Nat × Nat × Nat)} {ws : List Cond} {rm : Room} {Pc : Array Value → State → Prop} {Qc : Array Value → State → Outcome → State → Prop} {free : Addr → Prop} {Ts : List Cond} {own : String} {As rest : List Value} {g : JFrame}
    (S : CallFix p m c cc nL s args Ts own) (hM : Met l y ws rm Pc Qc mc ms free) (cw : vx_CSW R s args own index y bytes maxL ret hh ws rm mc ms n) (hp : PreS s H Pc As)
    (hg : g.method = m) (hn : As.length = n) (hsize : g.locals.size = nL) (hstack : g.stack = As.reverse ++ rest) (hW : 2 * g.monitorRoom + (rest.map fun v => v.category).sum ≤ 8) (hdg : decode cc g.pc = .ok (.invokestatic index, 3)) (hf : cells + mc ≤ R.cells ∧ slots + ms ≤ R.slots) :
    va_Run p l e R s m args below meth c H locs cells slots mc ms g rest (Qc As.toArray) (free) := by
  obtain ⟨⟨hrc, hrs, hfr, hlo, hws, hcw⟩, hcode, hini, hy, hlen, hl, hstt⟩ := cw
  have hK : Back l R p e below s args y 3 8 (PreOf R mc ms Pc) (PostOf Qc mc ms free) := va_backW (hh := hh) (bytes := bytes) (maxL := maxL) (ret := ret) hM hp.1 hrc hrs hfr hlo hws hcw (fun a' U hW => word_at hW (Or.inl (by first | rfl | simp [Cond.onTables, Cond.keeps, Cond.steady])) hini)
  obtain ⟨hx, hb, hml, ho, -⟩ := S
  intro T hT X
  obtain ⟨v, vm₁, ⟨U', l2, c2, s2⟩, hW₁, X', ⟨g', mk, t, L, e1, e2, hq, h1, hL, h2, h3⟩, st⟩ := vx_callSW X hx (hh := hh) (bytes := bytes) (maxL := maxL) (ret := ret) ho hl hstt hini hcode hy hK hg (hsize.trans hml.symm) (argsL := As) (rest := rest) (fun sig h => hn.trans (hlen sig h)) hstack hW (by rw [hb]; exact hdg)
    (fun vm₁ hW₁ => ⟨hf.1, hf.2, hp.2 (T.setVm vm₁) hT hW₁⟩)
  dsimp only [Pt.U, Pt.locs, Pt.cells, Pt.slots] at X' e1 e2 h1 h2 h3 st
  subst h1; subst h2; subst h3
  exact ⟨v, (T.setVm vm₁).calling g' mk As.toArray, t, U', L, hT, X', hL, e1, e2, hq, st⟩
/-- not caught here, past rows that name other classes: it goes on to the caller -/
theorem vx_outP {p : Program} {l : Launch} {e : Env} {R : Room} {s : State} {m : MethodId} {args : Array Value} {below : List Frame} {meth : Method} {c : Code} {H : Heap} {locs : List Loc} {cells slots : Nat} {free : Addr → Prop} {ls : Array Slot} {rest : List Value} {Qc : Array Value → State → Outcome → State → Prop} {XC : String → State → State → Prop}
    {pc : Nat} {own E : String} {ce : Cell} {q : Addr} {mc ms : Nat} (hown : s.vm.findClass own = some m.cls) (hlocks : meth.locks = false)
    (hpass : ∀ z ∈ c.exceptionTable.toList, covers z pc = false ∨ (z.catchType ≠ 0 ∧ ∃ nm : String, (Cond.classLink own z.catchType nm).before args s = true ∧ va_Nc E nm s)) (hcell : H[q]? = some ce) (hv : ce.vm = .none) (hcl : s.vm.findClass E = some ce.cls)
    (hx : ∀ t : State, t.heap = H → s.vm.Alike t.vm → XC E s t) (hf : ∀ z ∈ locs, free z.base) (hc : cells ≤ mc) (hs : slots ≤ ms) :
    vx_W p l e R s m args below meth c H locs cells slots (vx_MQ below Qc XC args s mc ms free) (F0 m pc ls rest) q := by
  intro T hT X
  have hpl : e.platform.magicAccessors = ({} : Platform).magicAccessors := by rw [X.admits.platform]
  obtain ⟨vm', hW', X', st⟩ := X.outThrough hlocks q (g := F0 m pc ls rest) rfl rfl rfl (cell := ce) (by rw [hT]; exact hcell) (by rw [hv]; rfl)
    (by obtain ⟨k9, h9, -⟩ := Vm.findClass_spec hcl; exact ⟨k9, h9⟩) (fun z hz => by
      rcases hpass z hz with h | ⟨hz0, nm, hl1, hn1⟩
      · exact Or.inl h
      · obtain ⟨c6, hc6, hcl6⟩ := Cond.classLink_spec hown hl1 e.platform hpl
        obtain ⟨a8, b8, h1, h2, h3⟩ := hn1
        cases Option.some.inj (h1.symm.trans hcl)
        cases Option.some.inj (h2.symm.trans hc6)
        exact Or.inr ⟨hz0, _, hcl6, h3⟩)
  obtain ⟨g₀, hfr⟩ := X'.frames_eq
  have hcell9 : ((T.setVm vm').setFrames (.throwing q :: below)).heap[q]? = some ce := by
    show T.heap[q]? = some ce
    rw [hT]; exact hcell
  have hend : Ended ((T.setVm vm').setFrames (.throwing q :: below)) below (.threw q) := State.frames_setFrames _ (State.cur_lt_of_frames hfr)
  refine ⟨(T.setVm vm').setFrames (.throwing q :: below), ?_, .threw q, X'.here.running, hend, Or.inr ⟨q, rfl, E, ce, locs, hx _ hT (X'.ends _).1.alike, hcell9, hv, hcl, (X'.ends _).1, (X'.ends _).2.mono hc hs, hf⟩⟩
  rw [X.pushThrowing_eq]
  exact st
/-- a thing of a world lies in the heap -/
theorem vx_lt {D : va_G} {cl : List vw_C} {ws : va_W} {H1 : Heap} (h : va_P D cl ws H1) {k : Nat} {q : Nat × va_E} (hk : ws[k]? = some q) : q.1 < H1.size := (h k q hk).lt
end VXS
/-! ===== END ===== -/
/-! ===== BEGIN methods with a table of their own: called by a name, returning or throwing ===== -/
section VXH
/-! vx_backW, vx_callVX, vx_callSX, vx_callVW, vx_runVW, vx_runVX, vx_runSX, vx_ofWH follow the same proofs as their sisters above (Free/Laws.lean, Shelf42/LK1.lean); vx_outP calls Shelf42/NT130.lean (outThrough). -/
section
variable {l : Launch} {R : Room} {p : Program} {e : Env} {below : List Frame} {s : State} {sargs : Array Value} {y : MethodName} {len W9 : Nat}
theorem vx_backW {ws : List Cond} {rm : Room} {Pc : Array Value → State → Prop} {Qc : Array Value → State → Outcome → State → Prop} {XC : String → State → State → Prop} {mc ms : Nat} {free : Addr → Prop} {bytes : ByteArray} {maxL : Nat} {ret : Option FieldType} {hh : List (Nat × Nat × Nat × Nat)}
    (hM : vx_Met l y ws rm Pc Qc XC mc ms free) (hblind : FrameBlind Pc) (hrc : rm.cells = mc) (hrs : rm.slots = ms)
    (hframes : rm.frames + 1 ≤ R.frames) (hlocals : W9 + (maxL + 11) + rm.locals ≤ R.locals)
    (hws : ∀ w ∈ ws, ∀ a' U, s.WarmedH U.vm → w.before a' U = true) (hcode : Cond.codeWith y bytes maxL ret hh ∈ ws) (hinit : ∀ a' U, s.WarmedH U.vm → (Cond.initialized y.cls).before a' U = true) :
    vx_Back l R p e below s sargs y len W9 (PreOf R mc ms Pc) (PostOf Qc mc ms free) (vx_Post XC mc ms free) := by
  intro m meth c A g ig mk a X hg hsize hdg hW hn hp
  have h1 : (headSpec ws rm).pre.before a A.U = true := atoms_intro fun w hw => hws w hw _ _ X.warmed
  have h2 : (Cond.codeWith y bytes maxL ret hh).before a A.U = true := hws _ hcode _ _ X.warmed
  have h3 : (Cond.initialized y.cls).before a A.U = true := hinit _ _ X.warmed
  have h4 : A.cells + (headSpec ws rm).room.cells ≤ R.cells := by rw [show (headSpec ws rm).room.cells = mc from hrc]; exact hp.1
  have h5 : A.slots + (headSpec ws rm).room.slots ≤ R.slots := by rw [show (headSpec ws rm).room.slots = ms from hrs]; exact hp.2.1
  have hPc : Pc a (A.U.calling g mk a) := hblind _ _ _ _ hp.2.2
  obtain ⟨U, Ls, c0, s0⟩ := A
  dsimp only [Pt.U, Pt.locs, Pt.cells, Pt.slots] at h1 h2 h3 h4 h5 X hn hPc ⊢
  obtain ⟨m9, methY, cY, hn9, hmY, hcY, -, hlY, -⟩ := Cond.codeWith_spec h2
  cases Option.some.inj (hn9.symm.trans hn)
  obtain ⟨kY, hkY, -⟩ := className_of_methodNamed hn
  have hinitY : kY.init = .initialized := Cond.initialized_spec (findClass_of_methodNamed hn) hkY h3
  have h : At U g.method c below := by rw [hg]; exact X.here
  have hlocals9 : W9 + (maxL + 11) + (headSpec ws rm).room.locals ≤ R.locals := hlocals
  have happ : (headSpec ws rm).appliesLoose y e.platform (U.calling g mk a) = true :=
    Spec.appliesLoose_calling (g := g) h hdg hn hkY hinitY
      (X.room_calling (g := g) (R' := (headSpec ws rm).room) hsize hmY hcY hframes (by rw [hlY]; omega) h4 h5) h1
  obtain ⟨mid, hmid⟩ := h.above
  have hfr : (U.setTop g).frames = (.java g :: mid) ++ below := by rw [State.frames_setTop' g h.top, hmid]; rfl
  obtain ⟨o, s₂, hsteps, -, hend, hq⟩ := Steps.callFree hM p X.admits X.cas X.clock (acts := []) hfr happ hPc trivial
  have hq' : vx_Q Qc XC mc ms free a (U.calling g mk a) o s₂ := hq
  rw [State.frames_setTop' g h.top] at hend
  obtain ⟨g₀, hg0⟩ := Option.isSome_iff_exists.mp h.top
  obtain ⟨r, hr⟩ := State.topJava?_eq_some.mp hg0
  have hr' : (({ U with heap := s₂.heap, slotsUsed := s₂.slotsUsed } : State).setVm s₂.vm).frames = .java g₀ :: r := hr
  rcases hq' with ⟨hqc, L, hfe, hL⟩ | ⟨q, rfl, E, ce, L, hx, hce, hcv, hcl, hW₂, hsm, hL⟩
  · obtain ⟨⟨v, rfl⟩, hW₂, e2, q2, q3, q4, q5, q6⟩ := id hfe
    have e3 : s₂ = ({ (U.calling g mk a).setFrames s₂.frames with heap := s₂.heap, slotsUsed := s₂.slotsUsed } : State).setVm s₂.vm := by
      have : s₂ = ({ s₂ with vm := (U.calling g mk a).vm } : State).setVm s₂.vm := rfl
      rw [e2] at this
      exact this
    obtain ⟨c₂, i₂, len₂, hc₂, hd₂, hf₂⟩ := hend
    have hW' : U.WarmedH s₂.vm := hW₂
    have hcc : c₂ = c := by
      have h1 : s₂.code? g.method = U.code? g.method := by
        rw [State.code?_eq, State.code?_eq, hW'.alike.method?]
      exact Option.some.inj (hc₂.symm.trans (h1.trans h.code))
    subst hcc
    have hlen : len₂ = len := by rw [hdg] at hd₂; cases hd₂; rfl
    subst hlen
    have hs₂ : s₂ = (({ U with heap := s₂.heap, slotsUsed := s₂.slotsUsed } : State).setVm s₂.vm).setTop { g with pc := g.pc + len₂, stack := v.toList ++ g.stack } := by
      refine e3.trans ?_
      rw [hf₂, State.calling_eq h.top, State.setFrames_setFrames, State.setTop_of_frames _ hr', hr]
      rfl
    have hsame : U.sameButNew ({ U with heap := s₂.heap, slotsUsed := s₂.slotsUsed } : State) L mc ms := by
      refine ⟨?_, q2, q3, q4, q5, q6⟩
      obtain ⟨t, ht, -⟩ := State.frames_cons hr
      show ({ U with heap := s₂.heap, slotsUsed := s₂.slotsUsed } : State) = { U.setFrames U.frames with heap := s₂.heap, slotsUsed := s₂.slotsUsed }
      rw [State.setFrames_self ht]
    subst hg
    refine Or.inl ⟨v, ⟨(({ U with heap := s₂.heap, slotsUsed := s₂.slotsUsed } : State).setVm s₂.vm), Ls ++ L, c0 + mc, s0 + ms⟩,
      ⟨X.admits, X.cas, X.clock, X.frames, X.room, X.hears, X.method, X.code, (X.here.setHeapUsed s₂.heap s₂.slotsUsed).setVm hW'.alike, X.tail, State.WarmedH.trans X.warmed hW', X.limits, X.bytes, X.same.trans (hsame.setVm s.vm)⟩,
      ⟨g, mk, s₂, L, rfl, rfl, hqc, rfl, hL, rfl, rfl⟩, ?_⟩
    show Steps p.tables e below _ ((({ U with heap := s₂.heap, slotsUsed := s₂.slotsUsed } : State).setVm s₂.vm).setTop { g with pc := g.pc + len₂, stack := v.toList ++ g.stack })
    rw [← hs₂]
    exact hsteps
  · obtain ⟨e2, q2, q3, q4, q5, q6⟩ := id hsm
    have e3 : s₂ = ({ (U.calling g mk a).setFrames s₂.frames with heap := s₂.heap, slotsUsed := s₂.slotsUsed } : State).setVm s₂.vm := by
      have : s₂ = ({ s₂ with vm := (U.calling g mk a).vm } : State).setVm s₂.vm := rfl
      rw [e2] at this
      exact this
    have hf₂ : s₂.frames = .throwing q :: .java g :: U.frames.tail := hend
    have hW' : U.WarmedH s₂.vm := hW₂
    have hs₂ : s₂ = ((({ U with heap := s₂.heap, slotsUsed := s₂.slotsUsed } : State).setVm s₂.vm).setTop g).pushFrame (.throwing q) := by
      refine e3.trans ?_
      rw [hf₂, State.calling_eq h.top, State.setFrames_setFrames, State.pushFrame, State.frames_setTop _ hr', State.setTop_of_frames _ hr', State.setFrames_setFrames, hr]
      rfl
    have hsame : U.sameButNew ({ U with heap := s₂.heap, slotsUsed := s₂.slotsUsed } : State) L mc ms := by
      refine ⟨?_, q2, q3, q4, q5, q6⟩
      obtain ⟨t, ht, -⟩ := State.frames_cons hr
      show ({ U with heap := s₂.heap, slotsUsed := s₂.slotsUsed } : State) = { U.setFrames U.frames with heap := s₂.heap, slotsUsed := s₂.slotsUsed }
      rw [State.setFrames_self ht]
    subst hg
    refine Or.inr ⟨q, ⟨(({ U with heap := s₂.heap, slotsUsed := s₂.slotsUsed } : State).setVm s₂.vm), Ls ++ L, c0 + mc, s0 + ms⟩,
      ⟨X.admits, X.cas, X.clock, X.frames, X.room, X.hears, X.method, X.code, (X.here.setHeapUsed s₂.heap s₂.slotsUsed).setVm hW'.alike, X.tail, State.WarmedH.trans X.warmed hW', X.limits, X.bytes, X.same.trans (hsame.setVm s.vm)⟩,
      ⟨g, mk, s₂, L, E, ce, rfl, rfl, hx, hce, hcv, hcl, rfl, hL, rfl, rfl⟩, ?_⟩
    show Steps p.tables e below _ (((({ U with heap := s₂.heap, slotsUsed := s₂.slotsUsed } : State).setVm s₂.vm).setTop g).pushFrame (.throwing q))
    rw [← hs₂]
    exact hsteps
end
variable {p : Program} {l : Launch} {e : Env} {R : Room} {s : State} {m : MethodId} {args : Array Value} {below : List Frame} {meth : Method} {c : Code} {T : State} {H : Heap} {locs : List Loc} {cells slots : Nat}
theorem vx_callVX (X : Stand p l e R s m args below meth c T locs cells slots) (hexec : p.tables.exec = Jvm.exec) {own C : String} {index : Nat} {y : MethodName} {bytes : ByteArray} {maxL : Nat} {ret : Option FieldType} {hh : List (Nat × Nat × Nat × Nat)}
    (hown : s.vm.findClass own = some m.cls) (hlink : (Cond.methodLink own index y).before args s = true) (hinst : (Cond.instanceMethod y).before args s = true) (hsel : (Cond.selects C y y).before args s = true)
    (hcode : (Cond.codeWith y bytes maxL ret hh).before args s = true) (hy : y.cls ≠ "java/lang/invoke/MethodHandle" ∧ y.cls ≠ "java/lang/invoke/VarHandle")
    {W9 : Nat} {Pre : Pt → Array Value → Prop} {Post : Pt → Array Value → Option Value → Pt → Prop} {PostX : Pt → Array Value → Addr → Pt → Prop} (hK : vx_Back l R p e below s args y 3 W9 Pre Post PostX)
    {b : Addr} {cellB : Cell} (hcell : T.heap[b]? = some cellB) (hobj : cellB.vm.isStatics = false) (hcls : s.vm.findClass C = some cellB.cls)
    {g : JFrame} (hg : g.method = m) (hsize : g.locals.size = c.maxLocals) {argsL rest : List Value} (hlen : ∀ sig, parseMethodDescriptor y.desc = some sig → argsL.length = sig.parameters.length)
    (hstack : g.stack = argsL.reverse ++ .ref b :: rest) (hW : 2 * g.monitorRoom + (rest.map fun v => v.category).sum ≤ W9) (hdg : decode c.code g.pc = .ok (.invokevirtual index, 3))
    (hpre : ∀ vm₁, s.WarmedH vm₁ → Pre ⟨T.setVm vm₁, locs, cells, slots⟩ (Value.ref b :: argsL).toArray) :
    (∃ (v : Option Value) (vm₁ : Vm) (B : Pt), s.WarmedH vm₁ ∧ Stand p l e R s m args below meth c B.U B.locs B.cells B.slots ∧ Post ⟨T.setVm vm₁, locs, cells, slots⟩ (Value.ref b :: argsL).toArray v B ∧
      ∀ target, Steps p.tables e below (B.U.setTop { g with pc := g.pc + 3, stack := v.toList ++ rest }) target → Steps p.tables e below (T.setTop g) target) ∨
    (∃ (q : Addr) (vm₁ : Vm) (B : Pt), s.WarmedH vm₁ ∧ Stand p l e R s m args below meth c B.U B.locs B.cells B.slots ∧ PostX ⟨T.setVm vm₁, locs, cells, slots⟩ (Value.ref b :: argsL).toArray q B ∧
      Steps p.tables e below (T.setTop g) ((B.U.setTop { g with stack := rest }).pushFrame (.throwing q))) := by
  obtain ⟨mk, methM, hnamed, hmethM, hstM, habM⟩ := Cond.instanceMethod_spec hinst
  obtain ⟨m8, methM', cM, hn8, hmethM', -, -, -, -, -, -, hsigM⟩ := Cond.codeWith_spec hcode
  cases Option.some.inj (hn8.symm.trans hnamed)
  cases hmethM.symm.trans hmethM'
  obtain ⟨c2, r2, m2, q1, q2, q3, q4, kP, hkP, hkPi⟩ := Cond.selects_spec hsel
  cases hcls.symm.trans q1
  cases (State.methodFound?_of_named hnamed hy).symm.trans q2
  cases hnamed.symm.trans q3
  have hselP : selectMethod e.platform s.vm cellB.cls mk = .method mk := by rw [Launch.admits_selectMethod X.admits]; exact q4
  obtain ⟨vm₁, X₁, hstep₁⟩ := X.invokevirtual hexec hown hlink hnamed hmethM hstM hkP hkPi hy (a := b) (cell := cellB) hcell
    (fun z h => by rw [h] at hobj; cases hobj) hselP hmethM habM hkP hkPi (g := g) hg (argsL := argsL) (rest := rest) (hlen _ hsigM) hstack hdg
  rcases hK m meth c ⟨T.setVm vm₁, locs, cells, slots⟩ { g with stack := rest } (.invokevirtual index) mk (Value.ref b :: argsL).toArray X₁ hg hsize hdg hW (X₁.named hnamed) (hpre vm₁ X₁.warmed) with ⟨v, B, X', hpost, hsteps⟩ | ⟨q, B, X', hpost, hsteps⟩
  · exact Or.inl ⟨v, vm₁, B, X₁.warmed, X', hpost, fun target h => hstep₁ _ fun acts => by rw [doInvoke_state]; exact hsteps.trans h⟩
  · exact Or.inr ⟨q, vm₁, B, X₁.warmed, X', hpost, hstep₁ _ fun acts => by rw [doInvoke_state]; exact hsteps⟩
theorem vx_callSX (X : Stand p l e R s m args below meth c T locs cells slots) (hexec : p.tables.exec = Jvm.exec) {own : String} {index : Nat} {y : MethodName} {bytes : ByteArray} {maxL : Nat} {ret : Option FieldType} {hh : List (Nat × Nat × Nat × Nat)}
    (hown : s.vm.findClass own = some m.cls) (hlink : (Cond.methodLink own index y).before args s = true) (hstat : (Cond.static y).before args s = true) (hinit : (Cond.initialized y.cls).before args s = true)
    (hcode : (Cond.codeWith y bytes maxL ret hh).before args s = true) (hy : y.cls ≠ "java/lang/invoke/MethodHandle" ∧ y.cls ≠ "java/lang/invoke/VarHandle")
    {W9 : Nat} {Pre : Pt → Array Value → Prop} {Post : Pt → Array Value → Option Value → Pt → Prop} {PostX : Pt → Array Value → Addr → Pt → Prop} (hK : vx_Back l R p e below s args y 3 W9 Pre Post PostX)
    {g : JFrame} (hg : g.method = m) (hsize : g.locals.size = c.maxLocals) {argsL rest : List Value} (hlen : ∀ sig, parseMethodDescriptor y.desc = some sig → argsL.length = sig.parameters.length)
    (hstack : g.stack = argsL.reverse ++ rest) (hW : 2 * g.monitorRoom + (rest.map fun v => v.category).sum ≤ W9) (hdg : decode c.code g.pc = .ok (.invokestatic index, 3))
    (hpre : ∀ vm₁, s.WarmedH vm₁ → Pre ⟨T.setVm vm₁, locs, cells, slots⟩ argsL.toArray) :
    (∃ (v : Option Value) (vm₁ : Vm) (B : Pt), s.WarmedH vm₁ ∧ Stand p l e R s m args below meth c B.U B.locs B.cells B.slots ∧ Post ⟨T.setVm vm₁, locs, cells, slots⟩ argsL.toArray v B ∧
      ∀ target, Steps p.tables e below (B.U.setTop { g with pc := g.pc + 3, stack := v.toList ++ rest }) target → Steps p.tables e below (T.setTop g) target) ∨
    (∃ (q : Addr) (vm₁ : Vm) (B : Pt), s.WarmedH vm₁ ∧ Stand p l e R s m args below meth c B.U B.locs B.cells B.slots ∧ PostX ⟨T.setVm vm₁, locs, cells, slots⟩ argsL.toArray q B ∧
      Steps p.tables e below (T.setTop g) ((B.U.setTop { g with stack := rest }).pushFrame (.throwing q))) := by
  obtain ⟨mk, methM, cM, hnamed, hmethM, -, -, -, -, -, -, hsigM⟩ := Cond.codeWith_spec hcode
  have hstatic : methM.isStatic = true := Cond.static_spec hnamed hmethM hstat
  obtain ⟨kP, hkP, -⟩ := className_of_methodNamed hnamed
  have hinitP : kP.init = .initialized := Cond.initialized_spec (findClass_of_methodNamed hnamed) hkP hinit
  obtain ⟨vm₁, X₁, hstep₁⟩ := X.invokestatic hexec hown hlink hnamed hmethM hstatic hkP hinitP hy (g := g) hg (argsL := argsL) (rest := rest) (hlen _ hsigM) hstack hdg
  rcases hK m meth c ⟨T.setVm vm₁, locs, cells, slots⟩ { g with stack := rest } (.invokestatic index) mk argsL.toArray X₁ hg hsize hdg hW (X₁.named hnamed) (hpre vm₁ X₁.warmed) with ⟨v, B, X', hpost, hsteps⟩ | ⟨q, B, X', hpost, hsteps⟩
  · exact Or.inl ⟨v, vm₁, B, X₁.warmed, X', hpost, fun target h => hstep₁ _ fun acts => by rw [doInvoke_state]; exact hsteps.trans h⟩
  · exact Or.inr ⟨q, vm₁, B, X₁.warmed, X', hpost, hstep₁ _ fun acts => by rw [doInvoke_state]; exact hsteps⟩
theorem vx_callVW (X : Stand p l e R s m args below meth c T locs cells slots) (hexec : p.tables.exec = Jvm.exec) {own C : String} {index : Nat} {y : MethodName} {bytes : ByteArray} {maxL : Nat} {ret : Option FieldType} {hh : List (Nat × Nat × Nat × Nat)}
    (hown : s.vm.findClass own = some m.cls) (hlink : (Cond.methodLink own index y).before args s = true) (hinst : (Cond.instanceMethod y).before args s = true) (hsel : (Cond.selects C y y).before args s = true)
    (hcode : (Cond.codeWith y bytes maxL ret hh).before args s = true) (hy : y.cls ≠ "java/lang/invoke/MethodHandle" ∧ y.cls ≠ "java/lang/invoke/VarHandle")
    {W9 : Nat} {Pre : Pt → Array Value → Prop} {Post : Pt → Array Value → Option Value → Pt → Prop} (hK : Back l R p e below s args y 3 W9 Pre Post)
    {b : Addr} {cellB : Cell} (hcell : T.heap[b]? = some cellB) (hobj : cellB.vm.isStatics = false) (hcls : s.vm.findClass C = some cellB.cls)
    {g : JFrame} (hg : g.method = m) (hsize : g.locals.size = c.maxLocals) {argsL rest : List Value} (hlen : ∀ sig, parseMethodDescriptor y.desc = some sig → argsL.length = sig.parameters.length)
    (hstack : g.stack = argsL.reverse ++ .ref b :: rest) (hW : 2 * g.monitorRoom + (rest.map fun v => v.category).sum ≤ W9) (hdg : decode c.code g.pc = .ok (.invokevirtual index, 3))
    (hpre : ∀ vm₁, s.WarmedH vm₁ → Pre ⟨T.setVm vm₁, locs, cells, slots⟩ (Value.ref b :: argsL).toArray) :
    ∃ (v : Option Value) (vm₁ : Vm) (B : Pt), s.WarmedH vm₁ ∧ Stand p l e R s m args below meth c B.U B.locs B.cells B.slots ∧ Post ⟨T.setVm vm₁, locs, cells, slots⟩ (Value.ref b :: argsL).toArray v B ∧
      ∀ target, Steps p.tables e below (B.U.setTop { g with pc := g.pc + 3, stack := v.toList ++ rest }) target → Steps p.tables e below (T.setTop g) target := by
  obtain ⟨mk, methM, hnamed, hmethM, hstM, habM⟩ := Cond.instanceMethod_spec hinst
  obtain ⟨m8, methM', cM, hn8, hmethM', -, -, -, -, -, -, hsigM⟩ := Cond.codeWith_spec hcode
  cases Option.some.inj (hn8.symm.trans hnamed)
  cases hmethM.symm.trans hmethM'
  obtain ⟨c2, r2, m2, q1, q2, q3, q4, kP, hkP, hkPi⟩ := Cond.selects_spec hsel
  cases hcls.symm.trans q1
  cases (State.methodFound?_of_named hnamed hy).symm.trans q2
  cases hnamed.symm.trans q3
  have hselP : selectMethod e.platform s.vm cellB.cls mk = .method mk := by rw [Launch.admits_selectMethod X.admits]; exact q4
  obtain ⟨vm₁, X₁, hstep₁⟩ := X.invokevirtual hexec hown hlink hnamed hmethM hstM hkP hkPi hy (a := b) (cell := cellB) hcell
    (fun z h => by rw [h] at hobj; cases hobj) hselP hmethM habM hkP hkPi (g := g) hg (argsL := argsL) (rest := rest) (hlen _ hsigM) hstack hdg
  obtain ⟨v, B, X', hpost, hsteps⟩ := hK m meth c ⟨T.setVm vm₁, locs, cells, slots⟩ { g with stack := rest } (.invokevirtual index) mk (Value.ref b :: argsL).toArray X₁ hg hsize hdg hW (X₁.named hnamed) (hpre vm₁ X₁.warmed)
  exact ⟨v, vm₁, B, X₁.warmed, X', hpost, fun target h => hstep₁ _ fun acts => by rw [doInvoke_state]; exact hsteps.trans h⟩
abbrev vx_CVW (R : Room) (s : State) (args : Array Value) (own C : String) (index : Nat) (y : MethodName) (bytes : ByteArray) (maxL : Nat) (ret : Option FieldType) (hh : List (Nat × Nat × Nat × Nat)) (ws : List Cond) (rm : Room) (mc ms n : Nat) : Prop :=
  (rm.cells = mc ∧ rm.slots = ms ∧ rm.frames + 1 ≤ R.frames ∧ 8 + (maxL + 11) + rm.locals ≤ R.locals ∧ (∀ w ∈ ws, ∀ (a' : Array Value) (U : State), s.WarmedH U.vm → w.before a' U = true) ∧ Cond.codeWith y bytes maxL ret hh ∈ ws) ∧
  (Cond.codeWith y bytes maxL ret hh).before args s = true ∧ (Cond.initialized y.cls).before args s = true ∧ (y.cls ≠ "java/lang/invoke/MethodHandle" ∧ y.cls ≠ "java/lang/invoke/VarHandle") ∧
  (∀ sig, parseMethodDescriptor y.desc = some sig → n = sig.parameters.length) ∧ (Cond.methodLink own index y).before args s = true ∧ (Cond.instanceMethod y).before args s = true ∧ (Cond.selects C y y).before args s = true
theorem vx_cwVW {own C : String} {index maxL mc ms : Nat} {y : MethodName} {bytes : ByteArray} {ret : Option FieldType} {hh : List (Nat × Nat × Nat × Nat)} {Ts ws ws' : List Cond} {rm : Room} (n : Nat) (ht : ∀ w ∈ Ts, w.before args s = true) (hT : GoodIn Ts (wsV own index C y ws)) (hw : ws = Cond.codeWith y bytes maxL ret hh :: ws') (hrc : rm.cells = mc) (hrs : rm.slots = ms)
    (hd : y.cls = C ∧ y.cls ≠ "java/lang/invoke/MethodHandle" ∧ y.cls ≠ "java/lang/invoke/VarHandle" ∧ (parseMethodDescriptor y.desc).map (fun d => d.parameters.length) = some n) (hR : rm.frames + 1 ≤ R.frames ∧ 8 + (maxL + 11) + rm.locals ≤ R.locals) :
    vx_CVW R s args own C index y bytes maxL ret hh ws rm mc ms n := by
  obtain ⟨hC, hd⟩ := hd
  subst hC
  have ok : ∀ w ∈ wsV own index y.cls y ws, w.before args s = true := fun w h => ht w (hT w h).1
  have hG : GoodIn Ts ws := fun w h => hT w (by unfold wsV; exact List.mem_append_right _ h)
  have hc : Cond.codeWith y bytes maxL ret hh ∈ ws := by rw [hw]; exact List.mem_cons_self
  refine ⟨⟨hrc, hrs, hR.1, hR.2, pay_in ht hG, hc⟩, ht _ (hG _ hc).1, ok _ (by simp [wsV]), ⟨hd.1, hd.2.1⟩, fun sig h => ?_, ok _ (by simp [wsV]), ok _ (by simp [wsV]), ok _ (by simp [wsV])⟩
  have h2 := hd.2.2
  rw [h] at h2
  exact (Option.some.inj h2).symm
theorem vx_runVW {y : MethodName} {bytes cc : ByteArray} {maxL nL mc ms n index : Nat} {ret : Option FieldType} {hh : List (Nat × Nat × Nat × Nat)} {ws : List Cond} {rm : Room} {Pc : Array Value → State → Prop} {Qc : Array Value → State → Outcome → State → Prop} {free : Addr → Prop} {Ts : List Cond} {own C : String} {b : Addr} {As rest : List Value} {g : JFrame}
    (S : CallFix p m c cc nL s args Ts own) (hM : Met l y ws rm Pc Qc mc ms free) (cw : vx_CVW R s args own C index y bytes maxL ret hh ws rm mc ms n) (hp : PreV s H C b Pc As)
    (hg : g.method = m) (hn : As.length = n) (hsize : g.locals.size = nL) (hstack : g.stack = As.reverse ++ .ref b :: rest) (hW : 2 * g.monitorRoom + (rest.map fun v => v.category).sum ≤ 8) (hdg : decode cc g.pc = .ok (.invokevirtual index, 3)) (hf : cells + mc ≤ R.cells ∧ slots + ms ≤ R.slots) :
    va_Run p l e R s m args below meth c H locs cells slots mc ms g rest (Qc (Value.ref b :: As).toArray) free := by
  obtain ⟨⟨hrc, hrs, hfr, hlo, hws, hcw⟩, hcode, hini, hy, hlen, hl, hin, hse⟩ := cw
  have hK : Back l R p e below s args y 3 8 (PreOf R mc ms Pc) (PostOf Qc mc ms free) := va_backW (hh := hh) (bytes := bytes) (maxL := maxL) (ret := ret) hM hp.1 hrc hrs hfr hlo hws hcw (fun a' U hW => word_at hW (Or.inl (by first | rfl | simp [Cond.onTables, Cond.keeps, Cond.steady])) hini)
  obtain ⟨hx, hb, hml, ho, -⟩ := S
  obtain ⟨-, ⟨cellB, hcB, hoB, hclB⟩, hPc⟩ := hp
  intro T hT X
  obtain ⟨v, vm₁, ⟨U', l2, c2, s2⟩, hW₁, X', ⟨g', mk, t, L, e1, e2, hq, h1, hL, h2, h3⟩, st⟩ := vx_callVW X hx (C := C) (hh := hh) (bytes := bytes) (maxL := maxL) (ret := ret) ho hl hin hse hcode hy hK (by rw [hT]; exact hcB) hoB hclB hg (hsize.trans hml.symm) (argsL := As) (rest := rest) (fun sig h => hn.trans (hlen sig h)) hstack hW (by rw [hb]; exact hdg)
    (fun vm₁ hW₁ => ⟨hf.1, hf.2, hPc (T.setVm vm₁) hT hW₁⟩)
  dsimp only [Pt.U, Pt.locs, Pt.cells, Pt.slots] at X' e1 e2 h1 h2 h3 st
  subst h1; subst h2; subst h3
  exact ⟨v, (T.setVm vm₁).calling g' mk (Value.ref b :: As).toArray, t, U', L, hT, X', hL, e1, e2, hq, st⟩
section
variable {y : MethodName} {bytes cc : ByteArray} {maxL nL mc ms n index : Nat} {ret : Option FieldType} {ws : List Cond} {rm : Room} {Pc : Array Value → State → Prop} {Qc : Array Value → State → Outcome → State → Prop} {XC : String → State → State → Prop} {free : Addr → Prop} {Ts : List Cond} {own C : String} {b : Addr} {As rest : List Value} {g : JFrame}
theorem vx_runVX {hh : List (Nat × Nat × Nat × Nat)} (S : CallFix p m c cc nL s args Ts own) (hM : vx_Met l y ws rm Pc Qc XC mc ms free) (cw : vx_CVW R s args own C index y bytes maxL ret hh ws rm mc ms n) (hp : PreV s H C b Pc As)
    (hg : g.method = m) (hn : As.length = n) (hsize : g.locals.size = nL) (hstack : g.stack = As.reverse ++ .ref b :: rest) (hW : 2 * g.monitorRoom + (rest.map fun v => v.category).sum ≤ 8) (hdg : decode cc g.pc = .ok (.invokevirtual index, 3)) (hf : cells + mc ≤ R.cells ∧ slots + ms ≤ R.slots) :
    vx_Run p l e R s m args below meth c H locs cells slots mc ms g rest (Qc (Value.ref b :: As).toArray) XC free := by
  obtain ⟨⟨hrc, hrs, hfr, hlo, hws, hcw⟩, hcode, hini, hy, hlen, hl, hin, hse⟩ := cw
  have hK : vx_Back l R p e below s args y 3 8 (PreOf R mc ms Pc) (PostOf Qc mc ms free) (vx_Post XC mc ms free) := vx_backW (hh := hh) (bytes := bytes) (maxL := maxL) (ret := ret) hM hp.1 hrc hrs hfr hlo hws hcw (fun a' U hW => word_at hW (Or.inl (by first | rfl | simp [Cond.onTables, Cond.keeps, Cond.steady])) hini)
  obtain ⟨hx, hb, hml, ho, -⟩ := S
  obtain ⟨-, ⟨cellB, hcB, hoB, hclB⟩, hPc⟩ := hp
  intro T hT X
  rcases vx_callVX X hx (C := C) (hh := hh) (bytes := bytes) (maxL := maxL) (ret := ret) ho hl hin hse hcode hy hK (by rw [hT]; exact hcB) hoB hclB hg (hsize.trans hml.symm) (argsL := As) (rest := rest) (fun sig h => hn.trans (hlen sig h)) hstack hW (by rw [hb]; exact hdg)
    (fun vm₁ hW₁ => ⟨hf.1, hf.2, hPc (T.setVm vm₁) hT hW₁⟩) with ⟨v, vm₁, ⟨U', l2, c2, s2⟩, hW₁, X', ⟨g', mk, t, L, e1, e2, hq, h1, hL, h2, h3⟩, st⟩ | ⟨q, vm₁, ⟨U', l2, c2, s2⟩, hW₁, X', ⟨g', mk, t, L, E, ce, e1, e2, hq, hce, hcv, hcl, h1, hL, h2, h3⟩, st⟩
  · dsimp only [Pt.U, Pt.locs, Pt.cells, Pt.slots] at X' e1 e2 h1 h2 h3 st
    subst h1; subst h2; subst h3
    exact Or.inl ⟨v, (T.setVm vm₁).calling g' mk (Value.ref b :: As).toArray, t, U', L, hT, X', hL, e1, e2, hq, st⟩
  · dsimp only [Pt.U, Pt.locs, Pt.cells, Pt.slots] at X' e1 e2 h1 h2 h3 st hcl
    subst h1; subst h2; subst h3
    exact Or.inr ⟨q, (T.setVm vm₁).calling g' mk (Value.ref b :: As).toArray, t, U', L, E, ce, hT, X', hL, e1, e2, hq, hce, hcv, vx_cls hW₁ hcl, st⟩
theorem vx_runSX {hh : List (Nat × Nat × Nat × Nat)} (S : CallFix p m c cc nL s args Ts own) (hM : vx_Met l y ws rm Pc Qc XC mc ms free) (cw : vx_CSW R s args own index y bytes maxL ret hh ws rm mc ms n) (hp : PreS s H Pc As)
    (hg : g.method = m) (hn : As.length = n) (hsize : g.locals.size = nL) (hstack : g.stack = As.reverse ++ rest) (hW : 2 * g.monitorRoom + (rest.map fun v => v.category).sum ≤ 8) (hdg : decode cc g.pc = .ok (.invokestatic index, 3)) (hf : cells + mc ≤ R.cells ∧ slots + ms ≤ R.slots) :
    vx_Run p l e R s m args below meth c H locs cells slots mc ms g rest (Qc As.toArray) XC free := by
  obtain ⟨⟨hrc, hrs, hfr, hlo, hws, hcw⟩, hcode, hini, hy, hlen, hl, hstt⟩ := cw
  have hK : vx_Back l R p e below s args y 3 8 (PreOf R mc ms Pc) (PostOf Qc mc ms free) (vx_Post XC mc ms free) := vx_backW (hh := hh) (bytes := bytes) (maxL := maxL) (ret := ret) hM hp.1 hrc hrs hfr hlo hws hcw (fun a' U hW => word_at hW (Or.inl (by first | rfl | simp [Cond.onTables, Cond.keeps, Cond.steady])) hini)
  obtain ⟨hx, hb, hml, ho, -⟩ := S
  intro T hT X
  rcases vx_callSX X hx (hh := hh) (bytes := bytes) (maxL := maxL) (ret := ret) ho hl hstt hini hcode hy hK hg (hsize.trans hml.symm) (argsL := As) (rest := rest) (fun sig h => hn.trans (hlen sig h)) hstack hW (by rw [hb]; exact hdg)
    (fun vm₁ hW₁ => ⟨hf.1, hf.2, hp.2 (T.setVm vm₁) hT hW₁⟩) with ⟨v, vm₁, ⟨U', l2, c2, s2⟩, hW₁, X', ⟨g', mk, t, L, e1, e2, hq, h1, hL, h2, h3⟩, st⟩ | ⟨q, vm₁, ⟨U', l2, c2, s2⟩, hW₁, X', ⟨g', mk, t, L, E, ce, e1, e2, hq, hce, hcv, hcl, h1, hL, h2, h3⟩, st⟩
  · dsimp only [Pt.U, Pt.locs, Pt.cells, Pt.slots] at X' e1 e2 h1 h2 h3 st
    subst h1; subst h2; subst h3
    exact Or.inl ⟨v, (T.setVm vm₁).calling g' mk As.toArray, t, U', L, hT, X', hL, e1, e2, hq, st⟩
  · dsimp only [Pt.U, Pt.locs, Pt.cells, Pt.slots] at X' e1 e2 h1 h2 h3 st hcl
    subst h1; subst h2; subst h3
    exact Or.inr ⟨q, (T.setVm vm₁).calling g' mk As.toArray, t, U', L, E, ce, hT, X', hL, e1, e2, hq, hce, hcv, vx_cls hW₁ hcl, st⟩
end
end VXH
theorem vx_ofWH {l : Launch} {y : MethodName} {ws ws' : List Cond} {rm : Room} {Pc : Array Value → State → Prop} {Qc : Array Value → State → Outcome → State → Prop} {XC : String → State → State → Prop} {mc ms : Nat} {free : Addr → Prop} {cc : ByteArray} {maxL : Nat} {ret : Option FieldType} {hh : List (Nat × Nat × Nat × Nat)}
    (hy : plainName y.cls = true) (hw : ws = Cond.codeWith y cc maxL ret hh :: ws')
    (body : ∀ p e s m args below meth c s₁, BodyLoose p l y (headSpec ws rm) cc maxL ret e s m args below meth c s₁ → c.maxLocals = maxL → Pc args s →
      W p l e (headSpec ws rm).room s m args below meth c s.heap [] 0 0 (vx_MQ below Qc XC args s mc ms free) (entryFrame m args maxL)) : vx_Met l y ws rm Pc Qc XC mc ms free := by
  refine MetFree.of_bodyS (code := cc) (maxLocals := maxL) (ret := ret) hy ?_ ?_
  · intro args s m h hn
    obtain ⟨m9, meth, c, hn9, h1, h2, h3, h4, -, h5, h6, -⟩ := Cond.codeWith_spec (atoms_spec (ws := ws) h _ (by rw [hw]; exact List.mem_cons_self))
    cases hn.symm.trans hn9
    exact ⟨meth, c, h1, h2, h3, h4, h5, h6⟩
  · intro p e s m args below meth c s₁ B hml hP _
    have hh0 : s₁.heap = s.heap := by rw [B.state]; rfl
    obtain ⟨t, a1, o, b1, b2, b3⟩ := body p e s m args below meth c s₁ B hml hP s₁ hh0 (Stand.of_body B)
    exact ⟨t, o, a1, b1, b2, b3⟩
/-! ===== END ===== -/
end
section
/-- the words that stay good wherever the tables grow warmer -/
def ch_good : List Cond := lw_tbl.filter goodWord
/-- words that the tables alone decide, and that stay, of other kinds -/
def ch_isO : Cond → Bool
  | .fieldLinkNest .. => true
  | .methodLinkNest .. => true
  | .castable .. => true
  | .declares .. => true
  | _ => false
def ch_oth : List Cond := tables_1.filter ch_isO
theorem ch_wg {w : Cond} (i : Nat) (h : tables_1[i]? = some w) (g : goodWord w = true) : w ∈ ch_good := List.mem_filter.mpr ⟨List.mem_append_right _ (List.mem_of_getElem? h), g⟩
theorem ch_wp {q : MethodName × Nat} (i : Nat) (h : lw_privs[i]? = some q) (g : goodWord (Cond.selects q.1.cls q.1 q.1) = true) : Cond.selects q.1.cls q.1 q.1 ∈ ch_good := List.mem_filter.mpr ⟨List.mem_append_left _ (List.mem_map.mpr ⟨q, List.mem_of_getElem? h, rfl⟩), g⟩
theorem ch_ow {w : Cond} (i : Nat) (h : tables_1[i]? = some w) (g : ch_isO w = true) : w ∈ ch_oth := List.mem_filter.mpr ⟨List.mem_of_getElem? h, g⟩
theorem ch_ri {ws : List Cond} (ps : List Nat) (hp : ws = ps.filterMap (fun i => tables_1[i]?)) (g : ws.all goodWord = true) : ∀ w ∈ ws, w ∈ ch_good := by
  intro w hw
  have h1 := List.all_eq_true.mp g w hw
  rw [hp] at hw
  obtain ⟨i, -, hi⟩ := List.mem_filterMap.mp hw
  exact ch_wg i hi h1
def ch_R0 : String := "ChalkWarrants"
def ch_F0 : u_T := fun k => match k with
  | 0 => ("ChalkWarrants", "yard", "LChalkWarrants$Yard;", true)
  | 1 => ("ChalkWarrants", "before", "LChalkWarrants$Yard;", true)
  | 2 => ("ChalkWarrants", "trial", "LChalkWarrants$Yard;", true)
  | 3 => ("ChalkWarrants", "snapshot", "LChalkWarrants$Yard;", true)
  | 4 => ("ChalkWarrants", "past", "LChalkWarrants$Past;", true)
  | 5 => ("ChalkWarrants", "reasons", "LChalkWarrants$Reasons;", true)
  | 6 => ("ChalkWarrants", "command", "LChalkWarrants$Command;", true)
  | 7 => ("ChalkWarrants", "text", "LChalkWarrants$Signs;", true)
  | 8 => ("ChalkWarrants", "reader", "LChalkWarrants$Reader;", true)
  | 9 => ("ChalkWarrants", "written", "LChalkWarrants$Signs;", true)
  | 10 => ("ChalkWarrants", "ways", "LChalkWarrants$Ways;", true)
  | 11 => ("ChalkWarrants", "told", "LChalkWarrants$Steps;", true)
  | 12 => ("ChalkWarrants", "isSaved", "Z", false)
  | _ => ("ChalkWarrants", "fault", "I", false)
def ch_T0 : Nat → FieldType := fun k => match k with
  | 0 => .object "ChalkWarrants$Yard"
  | 1 => .object "ChalkWarrants$Yard"
  | 2 => .object "ChalkWarrants$Yard"
  | 3 => .object "ChalkWarrants$Yard"
  | 4 => .object "ChalkWarrants$Past"
  | 5 => .object "ChalkWarrants$Reasons"
  | 6 => .object "ChalkWarrants$Command"
  | 7 => .object "ChalkWarrants$Signs"
  | 8 => .object "ChalkWarrants$Reader"
  | 9 => .object "ChalkWarrants$Signs"
  | 10 => .object "ChalkWarrants$Ways"
  | 11 => .object "ChalkWarrants$Steps"
  | 12 => .boolean
  | _ => .int
def ch_R1 : String := "ChalkWarrants$Yard"
def ch_F1 : u_T := fun k => match k with
  | 0 => ("ChalkWarrants$Yard", "owners", "[I", true)
  | 1 => ("ChalkWarrants$Yard", "chalks", "[I", true)
  | 2 => ("ChalkWarrants$Yard", "pebbles", "[I", true)
  | 3 => ("ChalkWarrants$Yard", "treads", "[I", true)
  | 4 => ("ChalkWarrants$Yard", "warrantChalks", "[I", true)
  | 5 => ("ChalkWarrants$Yard", "hops", "[I", true)
  | 6 => ("ChalkWarrants$Yard", "trodden", "[I", true)
  | 7 => ("ChalkWarrants$Yard", "order", "[I", true)
  | 8 => ("ChalkWarrants$Yard", "children", "I", false)
  | 9 => ("ChalkWarrants$Yard", "standing", "I", false)
  | 10 => ("ChalkWarrants$Yard", "chest", "I", false)
  | 11 => ("ChalkWarrants$Yard", "brought", "I", false)
  | 12 => ("ChalkWarrants$Yard", "allTreads", "I", false)
  | 13 => ("ChalkWarrants$Yard", "written", "I", false)
  | 14 => ("ChalkWarrants$Yard", "washed", "I", false)
  | 15 => ("ChalkWarrants$Yard", "repossessed", "I", false)
  | _ => ("ChalkWarrants$Yard", "terms", "I", false)
def ch_T1 : Nat → FieldType := fun k => match k with
  | 0 => .array .int
  | 1 => .array .int
  | 2 => .array .int
  | 3 => .array .int
  | 4 => .array .int
  | 5 => .array .int
  | 6 => .array .int
  | 7 => .array .int
  | 8 => .int
  | 9 => .int
  | 10 => .int
  | 11 => .int
  | 12 => .int
  | 13 => .int
  | 14 => .int
  | 15 => .int
  | _ => .int
def ch_R2 : String := "ChalkWarrants$Past"
def ch_F2 : u_T := fun k => match k with
  | 0 => ("ChalkWarrants$Past", "ring", "[LChalkWarrants$Yard;", true)
  | 1 => ("ChalkWarrants$Past", "newest", "I", false)
  | _ => ("ChalkWarrants$Past", "count", "I", false)
def ch_T2 : Nat → FieldType := fun k => match k with
  | 0 => .array (.object "ChalkWarrants$Yard")
  | 1 => .int
  | _ => .int
def ch_R3 : String := "ChalkWarrants$Reasons"
def ch_F3 : u_T := fun k => match k with
  | 0 => ("ChalkWarrants$Reasons", "number", "I", false)
  | 1 => ("ChalkWarrants$Reasons", "detail", "I", false)
  | _ => ("ChalkWarrants$Reasons", "command", "I", false)
def ch_T3 : Nat → FieldType := fun k => match k with
  | 0 => .int
  | 1 => .int
  | _ => .int
def ch_R4 : String := "ChalkWarrants$Command"
def ch_F4 : u_T := fun k => match k with
  | 0 => ("ChalkWarrants$Command", "steps", "LChalkWarrants$Steps;", true)
  | 1 => ("ChalkWarrants$Command", "kind", "I", false)
  | 2 => ("ChalkWarrants$Command", "child", "I", false)
  | 3 => ("ChalkWarrants$Command", "other", "I", false)
  | _ => ("ChalkWarrants$Command", "number", "I", false)
def ch_T4 : Nat → FieldType := fun k => match k with
  | 0 => .object "ChalkWarrants$Steps"
  | 1 => .int
  | 2 => .int
  | 3 => .int
  | _ => .int
def ch_R5 : String := "ChalkWarrants$Steps"
def ch_F5 : u_T := fun k => match k with
  | 0 => ("ChalkWarrants$Steps", "row", "[I", true)
  | _ => ("ChalkWarrants$Steps", "count", "I", false)
def ch_T5 : Nat → FieldType := fun k => match k with
  | 0 => .array .int
  | _ => .int
def ch_R6 : String := "ChalkWarrants$Signs"
def ch_F6 : u_T := fun k => match k with
  | 0 => ("ChalkWarrants$Signs", "row", "[C", true)
  | _ => ("ChalkWarrants$Signs", "length", "I", false)
def ch_T6 : Nat → FieldType := fun k => match k with
  | 0 => .array .char
  | _ => .int
def ch_R7 : String := "ChalkWarrants$Reader"
def ch_F7 : u_T := fun k => match k with
  | _ => ("ChalkWarrants$Reader", "place", "I", false)
def ch_T7 : Nat → FieldType := fun k => match k with
  | _ => .int
def ch_R8 : String := "ChalkWarrants$Ways"
def ch_F8 : u_T := fun k => match k with
  | 0 => ("ChalkWarrants$Ways", "treads", "[I", true)
  | 1 => ("ChalkWarrants$Ways", "counts", "[I", true)
  | _ => ("ChalkWarrants$Ways", "steps", "[I", true)
def ch_T8 : Nat → FieldType := fun k => match k with
  | 0 => .array .int
  | 1 => .array .int
  | _ => .array .int
def ch_R9 : String := "java/lang/StringBuilder"
def ch_F9 : u_T := fun k => match k with
  | 0 => ("java/lang/AbstractStringBuilder", "value", "[B", false)
  | 1 => ("java/lang/AbstractStringBuilder", "coder", "B", false)
  | 2 => ("java/lang/AbstractStringBuilder", "maybeLatin1", "Z", false)
  | _ => ("java/lang/AbstractStringBuilder", "count", "I", false)
def ch_T9 : Nat → FieldType := fun k => match k with
  | 0 => .array .byte
  | 1 => .byte
  | 2 => .boolean
  | _ => .int
abbrev ch_cls : List vw_C := [(ch_R0, ch_F0, 14), (ch_R1, ch_F1, 17), (ch_R2, ch_F2, 3), (ch_R3, ch_F3, 3), (ch_R4, ch_F4, 5), (ch_R5, ch_F5, 2), (ch_R6, ch_F6, 2), (ch_R7, ch_F7, 1), (ch_R8, ch_F8, 3), (ch_R9, ch_F9, 4)]
def ch_Cl (ci : Nat) (C : String) (T : u_T) (N : Nat) : Prop := ch_cls[ci]? = some (C, T, N) ∧ (∀ w ∈ u_ws C T N, w ∈ ch_good) ∧ (∃ ty : Nat → FieldType, ∀ k, k < N → parseFieldDescriptor (T k).2.2.1 = some (ty k)) ∧ ∀ a, a < N → ∀ b, b < N → a ≠ b → (T a).2.1 ≠ (T b).2.1
theorem ch_Cl0 : ch_Cl 0 ch_R0 ch_F0 14 := ⟨rfl, ch_ri [281, 283, 285, 287, 289, 291, 293, 295, 297, 299, 301, 303, 305, 307] (by decide +kernel) (by decide +kernel), ⟨ch_T0, by decide +kernel⟩, by decide +kernel⟩
theorem ch_Cl1 : ch_Cl 1 ch_R1 ch_F1 17 := ⟨rfl, ch_ri [88, 90, 92, 94, 96, 98, 100, 102, 104, 106, 108, 110, 112, 114, 116, 118, 120] (by decide +kernel) (by decide +kernel), ⟨ch_T1, by decide +kernel⟩, by decide +kernel⟩
theorem ch_Cl2 : ch_Cl 2 ch_R2 ch_F2 3 := ⟨rfl, ch_ri [137, 139, 141] (by decide +kernel) (by decide +kernel), ⟨ch_T2, by decide +kernel⟩, by decide +kernel⟩
theorem ch_Cl3 : ch_Cl 3 ch_R3 ch_F3 3 := ⟨rfl, ch_ri [156, 158, 160] (by decide +kernel) (by decide +kernel), ⟨ch_T3, by decide +kernel⟩, by decide +kernel⟩
theorem ch_Cl4 : ch_Cl 4 ch_R4 ch_F4 5 := ⟨rfl, ch_ri [209, 211, 213, 215, 217] (by decide +kernel) (by decide +kernel), ⟨ch_T4, by decide +kernel⟩, by decide +kernel⟩
theorem ch_Cl5 : ch_Cl 5 ch_R5 ch_F5 2 := ⟨rfl, ch_ri [184, 186] (by decide +kernel) (by decide +kernel), ⟨ch_T5, by decide +kernel⟩, by decide +kernel⟩
theorem ch_Cl6 : ch_Cl 6 ch_R6 ch_F6 2 := ⟨rfl, ch_ri [232, 234] (by decide +kernel) (by decide +kernel), ⟨ch_T6, by decide +kernel⟩, by decide +kernel⟩
theorem ch_Cl7 : ch_Cl 7 ch_R7 ch_F7 1 := ⟨rfl, ch_ri [246] (by decide +kernel) (by decide +kernel), ⟨ch_T7, by decide +kernel⟩, by decide +kernel⟩
theorem ch_Cl8 : ch_Cl 8 ch_R8 ch_F8 3 := ⟨rfl, ch_ri [258, 260, 262] (by decide +kernel) (by decide +kernel), ⟨ch_T8, by decide +kernel⟩, by decide +kernel⟩
theorem ch_Cl9 : ch_Cl 9 ch_R9 ch_F9 4 := ⟨rfl, ch_ri [1067, 1069, 1071, 1073] (by decide +kernel) (by decide +kernel), ⟨ch_T9, by decide +kernel⟩, by decide +kernel⟩
end
section
/-! THE WORLD: objects of nine classes by number, their arrays as parts; every int by address and place; all else is fixed. Cells beside the world: a StringBuilder (9), the law's row of longs (14) -/
abbrev ch_Ad : Type := Nat × Nat × Nat
abbrev ch_V : Type := Value ⊕ ch_Ad
abbrev ch_M : Type := ch_Ad → Nat → Int32
abbrev ch_O : Type := Option ch_V ⊕ Nat
/-- launch, what stands fixed, lowest address that may be written and the world's base, class ids, slots of fields, ids of array classes, addresses beside the world, cells beside the world, the script, the texts, the formatter -/
abbrev ch_G : Type := Launch × Heap × (Nat × Nat) × ((Nat → ClassId) × (Nat → Nat → Nat) × (Nat → ClassId)) × (ch_Ad → Nat) × (ch_Ad → Prop) × (Nat × (Nat → Int32)) × List (List Int32) × Value
def ch_l (g : ch_G) : Launch := g.1
def ch_H0 (g : ch_G) : Heap := g.2.1
def ch_lo (g : ch_G) : Nat := g.2.2.1.1
def ch_base (g : ch_G) : Nat := g.2.2.1.2
def ch_dC (g : ch_G) : Nat → ClassId := g.2.2.2.1.1
def ch_dI (g : ch_G) : Nat → Nat → Nat := g.2.2.2.1.2.1
def ch_cA (g : ch_G) : Nat → ClassId := g.2.2.2.1.2.2
def ch_xa (g : ch_G) : ch_Ad → Nat := g.2.2.2.2.1
def ch_xi (g : ch_G) : ch_Ad → Prop := g.2.2.2.2.2.1
def ch_scr (g : ch_G) : Nat × Nat × (Nat → Int32) := (ch_xa g (11, 0, 0), g.2.2.2.2.2.2.1)
def ch_tx (g : ch_G) : List (List Int32) := g.2.2.2.2.2.2.2.1
def ch_sv (g : ch_G) : Value := g.2.2.2.2.2.2.2.2
def ch_A (g : ch_G) : Nat → Prop := fun q => ch_lo g ≤ q
/-- a byte of a text, its length -/
def ch_tb (g : ch_G) (i j : Nat) : Int32 := ((ch_tx g).getD i []).getD j 0
def ch_tn (g : ch_G) (i : Nat) : Nat := ((ch_tx g).getD i []).length
/-- how many objects of a class -/
def ch_cnt (ci : Nat) : Nat := match ci with
  | 1 => 12
  | 5 => 2
  | 6 => 2
  | _ => 1
/-- an object's cells, itself counted -/
def ch_wid (ci : Nat) : Nat := match ci with
  | 1 => 9
  | 2 => 2
  | 5 => 2
  | 6 => 2
  | 8 => 4
  | _ => 1
/-- where an object lies -/
def ch_off (ci j : Nat) : Nat := match ci with
  | 0 => 0
  | 1 => if j < 4 then 1 + 9 * j else 39 + 9 * (j - 4)
  | 2 => 37
  | 3 => 111
  | 4 => 112
  | 5 => 113 + 11 * j
  | 6 => 115 + 3 * j
  | 7 => 117
  | _ => 120
def ch_in (a : ch_Ad) : Prop := a.1 ≤ 8 ∧ a.2.1 < ch_cnt a.1 ∧ a.2.2 < ch_wid a.1
def ch_inx (g : ch_G) (a : ch_Ad) : Prop := ch_in a ∨ ch_xi g a
def ch_adr (g : ch_G) (a : ch_Ad) : Nat := if a.1 ≤ 8 then ch_base g + (ch_off a.1 a.2.1 + a.2.2) else ch_xa g a
/-- a fixed cell -/
def ch_fx (g : ch_G) (q : Nat) : Prop := q < (ch_H0 g).size ∧ ∀ a, ch_inx g a → ch_adr g a ≠ q
def ch_va (g : ch_G) (a : ch_Ad) : Prop := ch_inx g a ∨ a = (11, 0, 0) ∨ (∃ i, i < (ch_tx g).length ∧ (a = (12, i, 0) ∨ a = (13, i, 0))) ∨ ∃ i, i < 2 ∧ a = (15, i, 0)
def ch_tr (g : ch_G) : ch_V → Value
  | .inl v => v
  | .inr a => .ref (ch_adr g a)
def ch_ok (g : ch_G) (v : ch_V) : Prop := ∀ a, v = .inr a → ch_va g a
/-- a field that holds an address: which -/
def ch_rf (ci k j : Nat) : Option ch_Ad := match ci with
  | 0 => match k with
    | 0 => some (1, 0, 0)
    | 1 => some (1, 1, 0)
    | 2 => some (1, 2, 0)
    | 3 => some (1, 3, 0)
    | 4 => some (2, 0, 0)
    | 5 => some (3, 0, 0)
    | 6 => some (4, 0, 0)
    | 7 => some (6, 0, 0)
    | 8 => some (7, 0, 0)
    | 9 => some (6, 1, 0)
    | 10 => some (8, 0, 0)
    | 11 => some (5, 1, 0)
    | _ => none
  | 1 => if k < 8 then some (1, j, k + 1) else none
  | 2 => if k = 0 then some (2, j, 1) else none
  | 4 => if k = 0 then some (5, 0, 0) else none
  | 5 => if k = 0 then some (5, j, 1) else none
  | 6 => if k = 0 then some (6, j, 1) else none
  | 8 => if k < 3 then some (8, j, k + 1) else none
  | 9 => if k = 0 then some (9, j, 1) else none
  | _ => none
/-- kinds of arrays: 0 int, 1 char, 2 long, 4 yards, 5 byte; and lengths -/
def ch_ak (ci c : Nat) : Nat × Nat := match ci with
  | 1 => (0, if c < 3 then 12 else 5)
  | 2 => (4, 8)
  | 5 => (0, 12)
  | 6 => (1, 60)
  | 8 => (0, 15)
  | 9 => (5, 16)
  | _ => (2, 9)
def ch_ty (t : Nat) : FieldType := match t with
  | 0 => .int
  | 1 => .char
  | 2 => .long
  | 3 => .double
  | 4 => .object "ChalkWarrants$Yard"
  | _ => .byte
/-- a long by its two halves -/
def ch_lw (h l : Int32) : Int64 := (UInt64.ofNat (h.toUInt32.toNat * 4294967296 + l.toUInt32.toNat)).toInt64
def ch_ev (g : ch_G) (mem : ch_M) (a : ch_Ad) (t k : Nat) : Value := match t with
  | 0 => .int (mem a k)
  | 1 => .int (mem a k)
  | 2 => .long (ch_lw (mem a (2 * k)) (mem a (2 * k + 1)))
  | 3 => .null
  | 4 => .ref (ch_adr g (1, 4 + k, 0))
  | _ => .int (mem a k)
def ch_gv (mem : ch_M) (ci j k : Nat) : ch_V := match ch_rf ci k j with
  | some a => .inr a
  | none => .inl (.int (mem (ci, j, 0) k))
def ch_cell (g : ch_G) (mem : ch_M) (a : ch_Ad) (H : Heap) : Prop := match a with
  | (ci, j, 0) => ∃ r : vw_C, ch_cls[ci]? = some r ∧ t_OB (ch_adr g (ci, j, 0)) (ch_dC g ci) r.2.2 (ch_dI g ci) H (fun k => ch_tr g (ch_gv mem ci j k))
  | (ci, j, c + 1) => H[ch_adr g (ci, j, c + 1)]? = some (arrV (ch_cA g (ch_ak ci (c + 1)).1) (ch_ak ci (c + 1)).2 (fun k => ch_ev g mem (ci, j, c + 1) (ch_ak ci (c + 1)).1 k))
/-- addresses differ, and may be written -/
def ch_gw (g : ch_G) : Prop := (∀ a b, ch_inx g a → ch_inx g b → ch_adr g a = ch_adr g b → a = b) ∧ (∀ a, ch_inx g a → ch_lo g ≤ ch_adr g a) ∧ (∀ j, ch_xi g (9, j, 0) → ch_xi g (9, j, 1)) ∧ ∀ a, ch_xi g a → a.1 = 9 ∨ a.1 = 14
/-- the heap holds the world -/
def ch_Rp (g : ch_G) (mem : ch_M) (H : Heap) : Prop := ch_lo g ≤ H.size ∧ (∀ q, ch_fx g q → H[q]? = (ch_H0 g)[q]?) ∧ (∀ a, ch_inx g a → ch_cell g mem a H) ∧ ch_gw g
abbrev ch_tys (g : ch_G) : List (ClassId × FieldType) := [(ch_cA g 0, ch_ty 0), (ch_cA g 1, ch_ty 1), (ch_cA g 2, ch_ty 2), (ch_cA g 3, ch_ty 3), (ch_cA g 4, ch_ty 4), (ch_cA g 5, ch_ty 5)]
/-- the exceptions, by number -/
def ch_xn (n : Nat) : String := match n with
  | 0 => "java/lang/UnsupportedOperationException"
  | 1 => "java/lang/IndexOutOfBoundsException"
  | 2 => "java/lang/IllegalArgumentException"
  | 3 => "java/util/NoSuchElementException"
  | 4 => "java/lang/IllegalStateException"
  | _ => "java/lang/ArithmeticException"
/-- the literals of the law -/
def ch_lit6 : List (String × List Int32 × Nat) := [("c0@", [99, 48, 64], 232), (";r1", [59, 114, 49], 240), ("t;h1:", [116, 59, 104, 49, 58], 246), ("q", [113], 269), ("t;t;s9", [116, 59, 116, 59, 115, 57], 274), ("t;g1>1*1", [116, 59, 103, 49, 62, 49, 42, 49], 276)]
/-- the rows of digits: ones, tens -/
def ch_dig (i j : Nat) : Int32 := if i = 0 then nI (48 + j % 10) else nI (48 + j / 10)
/-- texts, rows of digits and statics that stand fixed -/
def ch_SW (g : ch_G) (U : State) : Prop :=
  ((∃ more, ch_tx g = ch_lit6.map (fun x => x.2.1) ++ more) ∧ ∀ i x, ch_lit6[i]? = some x → vk_R "ChalkWarrantsLaw" x.2.2 x.1 (ch_xa g (12, i, 0)) U) ∧
  vk_S (ch_tx g).length ((ch_tx g).map List.length) (ch_tx g) (fun i => ch_xa g (12, i, 0)) (fun i => ch_xa g (13, i, 0)) (fun q => ¬ ch_fx g q) U (ch_H0 g) ∧
  va_Z "java/lang/String" "COMPACT_STRINGS" "Z" (.int 1) (fun q => ¬ ch_fx g q) U (ch_H0 g) ∧
  (va_Z "java/lang/Integer" "DigitOnes" "[B" (.ref (ch_xa g (15, 0, 0))) (fun q => ¬ ch_fx g q) U (ch_H0 g) ∧ va_Z "java/lang/Integer" "DigitTens" "[B" (.ref (ch_xa g (15, 1, 0))) (fun q => ¬ ch_fx g q) U (ch_H0 g)) ∧
  (va_Z "jdk/internal/util/Preconditions" "SIOOBE_FORMATTER" "Ljava/util/function/BiFunction;" (ch_sv g) (fun q => ¬ ch_fx g q) U (ch_H0 g) ∧ (ch_sv g).category = 1) ∧
  ∀ i, i < 2 → va_T .byte (ch_xa g (15, i, 0)) 100 (fun j => .int (ch_dig i j)) (fun q => ¬ ch_fx g q) U (ch_H0 g)
theorem ch_SW.warm {g : ch_G} {s U : State} (hW : s.WarmedH U.vm) (h : ch_SW g s) : ch_SW g U := ⟨⟨h.1.1, fun i x hx => (h.1.2 i x hx).warm hW⟩, h.2.1.moved hW.alike, h.2.2.1.moved hW.alike, ⟨h.2.2.2.1.1.moved hW.alike, h.2.2.2.1.2.moved hW.alike⟩, ⟨h.2.2.2.2.1.1.moved hW.alike, h.2.2.2.2.1.2⟩, fun i hi => va_T.moved hW.alike (h.2.2.2.2.2 i hi)⟩
theorem ch_SW.same {g : ch_G} {s U : State} (hv : U.vm = s.vm) (h : ch_SW g s) : ch_SW g U := by
  have ha : s.vm.Alike U.vm := by rw [hv]; exact Vm.Alike.refl s.vm
  exact ⟨⟨h.1.1, fun i x hx => (h.1.2 i x hx).same hv⟩, h.2.1.moved ha, h.2.2.1.moved ha, ⟨h.2.2.2.1.1.moved ha, h.2.2.2.1.2.moved ha⟩, ⟨h.2.2.2.2.1.1.moved ha, h.2.2.2.2.1.2⟩, fun i hi => va_T.moved ha (h.2.2.2.2.2 i hi)⟩
/-- what the tables of a state say -/
def ch_WV (g : ch_G) (U : State) : Prop :=
  va_K (ch_dC g, ch_dI g) ch_cls (ch_tys g) U ∧ (∀ w ∈ ch_oth, va_Nw w U) ∧ (∀ i j, i < 6 → j < 6 → i ≠ j → va_Nc (ch_xn i) (ch_xn j) U) ∧
  vx_Zq Bundle.tN "UNASSIGNED_STACK" Bundle.steD (ch_A g) U (ch_H0 g) ∧ vx_Zq Bundle.tN "SUPPRESSED_SENTINEL" Bundle.listD (ch_A g) U (ch_H0 g) ∧
  va_X (ch_scr g).1 (ch_scr g).2.1 (ch_scr g).2.2 U (ch_H0 g) ∧ ch_fx g (ch_scr g).1 ∧ (ch_scr g).2.1 < 2 ^ 31 ∧ ch_SW g U ∧ va_AO "ChalkWarrants$Yard" U
theorem ch_oth_warm {w : Cond} {s U : State} (hw : w ∈ ch_oth) (hW : s.WarmedH U.vm) (h : va_Nw w s) : va_Nw w U := by
  have h1 : ch_isO w = true := (List.mem_filter.mp hw).2
  cases w with
  | fieldLinkNest => exact va_Nw.warmF hW h
  | methodLinkNest => exact va_Nw.warmM hW h
  | castable => exact va_Nw.warmC hW h
  | declares => exact va_Nw.warmD hW h
  | _ => cases h1
theorem ch_X_moved {b L : Nat} {xs : Nat → Int32} {s U : State} {H : Heap} (hvm : s.vm.Alike U.vm) (h : va_X b L xs s H) : va_X b L xs U H := by
  obtain ⟨scr, h1, h2, h3, h4, h5⟩ := h
  exact ⟨scr, h1, State.isArrayOf_alike hvm h2, h3, h4, h5⟩
theorem ch_WV.warm {g : ch_G} {s U : State} (hW : s.WarmedH U.vm) (h : ch_WV g s) : ch_WV g U := by
  obtain ⟨h1, h2, h3, h4, h5, h6, h7, h8, h9, h10⟩ := h
  exact ⟨va_K.moved hW.alike h1, fun w hw => ch_oth_warm hw hW (h2 w hw), fun i j a b c => (h3 i j a b c).moved hW.alike, vx_Zq.moved hW.alike h4, vx_Zq.moved hW.alike h5, ch_X_moved hW.alike h6, h7, h8, h9.warm hW, va_AO.moved hW.alike h10⟩
end
section
/-- a method: its name, bytes, locals, type, frames and new cells, handlers -/
abbrev ch_MI : Type := MethodName × ByteArray × Nat × Option FieldType × Nat × Nat × List (Nat × Nat × Nat × Nat)
abbrev ch_nm (f : ch_MI) : MethodName := f.1
abbrev ch_bc (f : ch_MI) : ByteArray := f.2.1
abbrev ch_ml (f : ch_MI) : Nat := f.2.2.1
abbrev ch_rt (f : ch_MI) : Option FieldType := f.2.2.2.1
abbrev ch_fr (f : ch_MI) : Nat := f.2.2.2.2.1
abbrev ch_mc (f : ch_MI) : Nat := f.2.2.2.2.2.1
abbrev ch_hh (f : ch_MI) : List (Nat × Nat × Nat × Nat) := f.2.2.2.2.2.2
def ch_rm (f : ch_MI) : Room := { frames := ch_fr f, cells := ch_mc f, slots := 6 * ch_mc f, locals := 128 * ch_fr f + 64 }
def ch_cw (f : ch_MI) : Cond := match ch_hh f with
  | [] => Cond.code (ch_nm f) (ch_bc f) (ch_ml f) (ch_rt f)
  | _ :: _ => Cond.codeWith (ch_nm f) (ch_bc f) (ch_ml f) (ch_rt f) (ch_hh f)
def ch_ws (f : ch_MI) : List Cond := ch_cw f :: ch_good
abbrev ch_LT : Type := List (Option ch_V)
def ch_LR (g : ch_G) (n : Nat) (ls : ch_LT) (lm : Array Slot) : Prop := lm.size = n ∧ lv_wf lm ∧ ∀ (i : Nat) (v : ch_V), ls[i]? = some (some v) → lm[i]? = some (.val (ch_tr g v))
/-- what stands in a frame of the method f -/
def ch_FR (g : ch_G) (f : ch_MI) (p : Program) (s : State) (m : MethodId) (args : Array Value) (meth : Method) (c : Code) : Prop :=
  p.tables.exec = Jvm.exec ∧ c.code = ch_bc f ∧ meth.sig.returnType = ch_rt f ∧ c.maxLocals = ch_ml f ∧ s.vm.findClass (ch_nm f).cls = some m.cls ∧ (∀ w ∈ ch_good, w.before args s = true) ∧ ch_WV g s ∧ meth.locks = false ∧ c.exceptionTable.toList = tableOf (ch_hh f) ∧ (ch_l g).stackTraces = false ∧ ch_lo g ≤ s.heap.size ∧ meth.name = (ch_nm f).name
abbrev ch_En : Type := State → Array Value → List Frame → State → Prop
/-- from here the frame comes to E -/
def ch_J (g : ch_G) (f : ch_MI) (R : Room) (E : ch_En) (pc : Nat) (ls : ch_LT) (st : List ch_V) (mem : ch_M) (k : Nat) : Prop :=
  ∀ (p : Program) (e : Env) (s : State) (m : MethodId) (args : Array Value) (below : List Frame) (meth : Method) (c : Code) (H : Heap) (locs : List Loc) (lm : Array Slot),
    ch_FR g f p s m args meth c → ch_Rp g mem H → va_S (ch_A g) s.heap H locs → (∀ o ∈ ls, ∀ v, o = some v → ch_ok g v) → (∀ v ∈ st, ch_ok g v) → ch_LR g (ch_ml f) ls lm →
    W p (ch_l g) e R s m args below meth c H locs k (6 * k) (E s args below) (F0 m pc lm (st.map (ch_tr g)))
/-- .. and with the exception n thrown here -/
def ch_X (g : ch_G) (f : ch_MI) (R : Room) (E : ch_En) (pc : Nat) (ls : ch_LT) (st : List ch_V) (n : Nat) (mem : ch_M) (k : Nat) : Prop :=
  ∀ (p : Program) (e : Env) (s : State) (m : MethodId) (args : Array Value) (below : List Frame) (meth : Method) (c : Code) (H : Heap) (locs : List Loc) (lm : Array Slot) (q : Addr) (ce : Cell),
    ch_FR g f p s m args meth c → ch_Rp g mem H → va_S (ch_A g) s.heap H locs → (∀ o ∈ ls, ∀ v, o = some v → ch_ok g v) → ch_LR g (ch_ml f) ls lm → n < 6 → H[q]? = some ce → ce.vm = .none → s.vm.findClass (ch_xn n) = some ce.cls →
    vx_W p (ch_l g) e R s m args below meth c H locs k (6 * k) (E s args below) (F0 m pc lm (st.map (ch_tr g))) q
def ch_Qc (g : ch_G) (Q : ch_O → ch_M → Prop) : Array Value → State → Outcome → State → Prop := fun _ st o t => ∃ (v : Option ch_V) (mem : ch_M), o = .returned (v.map (ch_tr g)) ∧ Q (.inl v) mem ∧ ch_Rp g mem t.heap ∧ va_F (ch_A g) st t
def ch_XC (g : ch_G) (Q : ch_O → ch_M → Prop) : String → State → State → Prop := fun E st t => ∃ (n : Nat) (mem : ch_M), E = ch_xn n ∧ n < 6 ∧ Q (.inr n) mem ∧ ch_Rp g mem t.heap ∧ va_F (ch_A g) st t
def ch_E (g : ch_G) (f : ch_MI) (Q : ch_O → ch_M → Prop) : ch_En := fun s args below => vx_MQ below (ch_Qc g Q) (ch_XC g Q) args s (ch_mc f) (6 * ch_mc f) (ch_A g)
def ch_PC (g : ch_G) (as : List ch_V) (mem : ch_M) : Array Value → State → Prop := fun a U => a = (as.map (ch_tr g)).toArray ∧ ch_WV g U ∧ ch_Rp g mem U.heap ∧ ch_lo g ≤ U.heap.size
/-- the method f, called with these: it ends so -/
def ch_C (g : ch_G) (f : ch_MI) (as : List ch_V) (mem : ch_M) (Q : ch_O → ch_M → Prop) : Prop :=
  (ch_l g).stackTraces = false → (∀ v ∈ as, ch_ok g v) → vx_Met (ch_l g) (ch_nm f) (ch_ws f) (ch_rm f) (ch_PC g as mem) (ch_Qc g Q) (ch_XC g Q) (ch_mc f) (6 * ch_mc f) (ch_A g)
/-- ways in which a call ends -/
def ch_oi (q : Int32 → ch_M → Prop) : ch_O → ch_M → Prop := fun o m => ∃ r, o = .inl (some (.inl (.int r))) ∧ q r m
def ch_ov (q : ch_M → Prop) : ch_O → ch_M → Prop := fun o m => o = .inl none ∧ q m
def ch_ol (q : Int64 → ch_M → Prop) : ch_O → ch_M → Prop := fun o m => ∃ r, o = .inl (some (.inl (.long r))) ∧ q r m
def ch_oa (q : ch_Ad → ch_M → Prop) : ch_O → ch_M → Prop := fun o m => ∃ r, o = .inl (some (.inr r)) ∧ q r m
def ch_of (q : UInt32 → ch_M → Prop) : ch_O → ch_M → Prop := fun o m => ∃ r, o = .inl (some (.inl (.float r))) ∧ q r m
def ch_od (q : UInt64 → ch_M → Prop) : ch_O → ch_M → Prop := fun o m => ∃ r, o = .inl (some (.inl (.double r))) ∧ q r m
def ch_ox (q : ch_O → ch_M → Prop) (x : Nat → ch_M → Prop) : ch_O → ch_M → Prop := fun o m => q o m ∨ ∃ n, o = .inr n ∧ n < 6 ∧ x n m
/-- static facts of a method that is called -/
def ch_MF (f : ch_MI) : Prop := ch_cw f ∈ ch_good ∧ Cond.initialized (ch_nm f).cls ∈ ch_good ∧ ((ch_nm f).cls ≠ "java/lang/invoke/MethodHandle" ∧ (ch_nm f).cls ≠ "java/lang/invoke/VarHandle") ∧ plainName (ch_nm f).cls = true ∧ ch_ml f ≤ 40
/-- this method calls f by this entry of its class's pool, with n arguments -/
def ch_LK (own : String) (idx : Nat) (f : ch_MI) (n : Nat) : Prop := Cond.methodLink own idx (ch_nm f) ∈ ch_good ∧ (parseMethodDescriptor (ch_nm f).desc).map (fun d => d.parameters.length) = some n
theorem ch_cw_tab {f : ch_MI} {args : Array Value} {s : State} {m : MethodId} {meth : Method} {c : Code} (h : (ch_cw f).before args s = true) (hn : s.methodNamed? (ch_nm f) = some m) (hm : s.vm.method? m = some meth) (hc : meth.code = some c) : c.exceptionTable.toList = tableOf (ch_hh f) := by
  unfold ch_cw at h
  cases hh : ch_hh f with
  | nil =>
    rw [hh] at h
    obtain ⟨meth9, c9, h1, h2, -, -, -, -, h7, -⟩ := Cond.code_spec hn h
    cases Option.some.inj (h1.symm.trans hm)
    cases Option.some.inj (h2.symm.trans hc)
    rw [Array.isEmpty_iff.mp h7]
    rfl
  | cons a l =>
    rw [hh] at h
    obtain ⟨m9, meth9, c9, hn9, h1, h2, -, -, h6, -⟩ := Cond.codeWith_spec h
    cases Option.some.inj (hn9.symm.trans hn)
    cases Option.some.inj (h1.symm.trans hm)
    cases Option.some.inj (h2.symm.trans hc)
    rw [← h6, table_eq]
def ch_cat : ch_V → Nat
  | .inl v => v.category
  | .inr _ => 1
theorem ch_cat_tr (g : ch_G) (v : ch_V) : (ch_tr g v).category = ch_cat v := by cases v <;> rfl
theorem ch_args : ∀ (vs : List Value) (k i : Nat) (v : Value), (∀ v ∈ vs, v.category = 1) → vs[i]? = some v → (k + i, v) ∈ lv_args k vs
  | [], _, _, _, _, h => by simp at h
  | w :: vs, k, 0, v, hc, h => by
    simp at h
    subst h
    exact List.mem_cons_self
  | w :: vs, k, i + 1, v, hc, h => by
    have h1 : w.category = 1 := hc w List.mem_cons_self
    have h2 := ch_args vs (k + 1) i v (fun x hx => hc x (List.mem_cons_of_mem _ hx)) (by simpa using h)
    have h3 : lv_args k (w :: vs) = (k, w) :: lv_args (k + 1) vs := by
      show (k, w) :: lv_args (if w.category = 2 then k + 2 else k + 1) vs = _
      rw [if_neg (by omega)]
    rw [h3]
    refine List.mem_cons_of_mem _ ?_
    have e : k + 1 + i = k + (i + 1) := by omega
    rw [← e]
    exact h2
theorem ch_sl : ∀ (vs : List Value), (∀ v ∈ vs, v.category = 1) → (lg_sl vs).length = vs.length
  | [], _ => rfl
  | w :: vs, hc => by
    have h1 : w.category = 1 := hc w List.mem_cons_self
    have h2 := ch_sl vs (fun x hx => hc x (List.mem_cons_of_mem _ hx))
    show (List.flatMap _ (w :: vs)).length = _
    rw [List.flatMap_cons, if_neg (by omega), List.length_append]
    show 1 + (lg_sl vs).length = _
    rw [h2, List.length_cons]
    omega
theorem ch_entry (g : ch_G) (as : List ch_V) (n : Nat) (hcat : ∀ v ∈ as, ch_cat v = 1) (hlen : as.length ≤ n) :
    ch_LR g n (as.map some ++ List.replicate (n - as.length) none) ((lg_sl (as.map (ch_tr g)) ++ List.replicate (n - (lg_sl (as.map (ch_tr g))).length) Slot.unset).toArray) := by
  have hc : ∀ v ∈ as.map (ch_tr g), v.category = 1 := by
    intro v hv
    obtain ⟨w, hw, rfl⟩ := List.mem_map.mp hv
    rw [ch_cat_tr]
    exact hcat w hw
  have hl : (lg_sl (as.map (ch_tr g))).length ≤ n := by rw [ch_sl _ hc, List.length_map]; exact hlen
  obtain ⟨h1, h2, h3⟩ := lv_entry (as.map (ch_tr g)) hl
  refine ⟨h1, h2, fun i v hv => ?_⟩
  have hi : i < as.length := by
    by_cases hi : i < as.length
    · exact hi
    · rw [List.getElem?_append_right (by simpa using hi)] at hv
      have := List.eq_of_mem_replicate (List.mem_of_getElem? hv)
      cases this
  rw [List.getElem?_append_left (by simpa using hi), List.getElem?_map] at hv
  have hv2 : as[i]? = some v := by
    cases hx : as[i]? with
    | none => rw [hx] at hv; cases hv
    | some x => rw [hx] at hv; simp at hv; rw [hv]
  have h4 := h3 _ (ch_args (as.map (ch_tr g)) 0 i (ch_tr g v) hc (by rw [List.getElem?_map, hv2]; rfl))
  simpa using h4
theorem ch_good_pre {f : ch_MI} {args : Array Value} {s : State} (h : ∀ w ∈ ch_ws f, w.before args s = true) : ∀ w ∈ ch_good, w.before args s = true := fun w hw => h w (List.mem_cons_of_mem _ hw)
/-- a contract out of a walk from the entry -/
theorem ch_enter {g : ch_G} {f : ch_MI} {as : List ch_V} {mem : ch_M} {Q : ch_O → ch_M → Prop} (hf : ch_MF f) (hcat : ∀ v ∈ as, ch_cat v = 1) (hlen : as.length ≤ ch_ml f)
    (h : ch_J g f (ch_rm f) (ch_E g f Q) 0 (as.map some ++ List.replicate (ch_ml f - as.length) none) [] mem 0) : ch_C g f as mem Q := by
  intro htr hok
  have key : ∀ (p : Program) (e : Env) (s : State) (m : MethodId) (args : Array Value) (below : List Frame) (meth : Method) (c : Code) (s₁ : State), BodyLoose p (ch_l g) (ch_nm f) (headSpec (ch_ws f) (ch_rm f)) (ch_bc f) (ch_ml f) (ch_rt f) e s m args below meth c s₁ → c.maxLocals = ch_ml f → ch_PC g as mem args s →
      W p (ch_l g) e (headSpec (ch_ws f) (ch_rm f)).room s m args below meth c s.heap [] 0 0 (vx_MQ below (ch_Qc g Q) (ch_XC g Q) args s (ch_mc f) (6 * ch_mc f) (ch_A g)) (entryFrame m args (ch_ml f)) := by
    intro p e s m args below meth c s₁ B hml hP
    obtain ⟨rfl, hW, hR, hb⟩ := hP
    have hts := atoms_spec (ws := ch_ws f) B.pre
    rw [lg_entry_eq]
    refine h p e s m _ below meth c s.heap [] _ ⟨B.exec, B.bytes, B.returns, hml, findClass_of_methodNamed B.named, ch_good_pre hts, hW, B.notSynchronized, ch_cw_tab (hts _ List.mem_cons_self) B.named B.method (Stand.of_body B).code, htr, hb, (name_of_methodNamed B.named B.method).1⟩ hR va_S.rf ?_ (fun v hv => by cases hv) (ch_entry g as (ch_ml f) hcat hlen)
    intro o ho v hv
    subst hv
    rcases List.mem_append.mp ho with h1 | h1
    · obtain ⟨w, hw, he⟩ := List.mem_map.mp h1
      rw [← Option.some.inj he]
      exact hok w hw
    · have := List.eq_of_mem_replicate h1
      cases this
  cases hh : ch_hh f with
  | nil =>
    refine vx_ofW (cc := ch_bc f) (maxL := ch_ml f) (ret := ch_rt f) (ws' := ch_good) hf.2.2.2.1 ?_ (fun p e s m args below meth c s₁ B hml _ hP => key p e s m args below meth c s₁ B hml hP)
    unfold ch_ws ch_cw
    rw [hh]
  | cons a l =>
    refine vx_ofWH (cc := ch_bc f) (maxL := ch_ml f) (ret := ch_rt f) (hh := ch_hh f) (ws' := ch_good) hf.2.2.2.1 ?_ key
    unfold ch_ws ch_cw
    rw [hh]
end
section
theorem ch_okl {g : ch_G} {v : Value} : ch_ok g (.inl v) := fun a h => by cases h
theorem ch_ok1 {g : ch_G} {v : Value} {l : List ch_V} (h : ∀ w ∈ l, ch_ok g w) : ∀ w ∈ (.inl v :: l : List ch_V), ch_ok g w := fun w hw => (List.mem_cons.mp hw).elim (fun e => by rw [e]; exact ch_okl) (h w)
theorem ch_ok2 {g : ch_G} {v : ch_V} {l : List ch_V} (hv : ch_ok g v) (h : ∀ w ∈ l, ch_ok g w) : ∀ w ∈ (v :: l : List ch_V), ch_ok g w := fun w hw => (List.mem_cons.mp hw).elim (fun e => by rw [e]; exact hv) (h w)
theorem ch_ok0 {g : ch_G} {v : ch_V} {l : List ch_V} (h : ∀ w ∈ (v :: l : List ch_V), ch_ok g w) : ∀ w ∈ l, ch_ok g w := fun w hw => h w (List.mem_cons_of_mem _ hw)
theorem ch_okh {g : ch_G} {v : ch_V} {l : List ch_V} (h : ∀ w ∈ (v :: l : List ch_V), ch_ok g w) : ch_ok g v := h v List.mem_cons_self
section CHR
variable {g : ch_G} {f : ch_MI} {R : Room} {E : ch_En} {pc : Nat} {ls : ch_LT} {rest : List ch_V} {mem : ch_M} {k : Nat}
/-- one instruction: the frame's stack and place alone -/
theorem ch_go {pc' : Nat} {st st' : List ch_V}
    (h : ∀ (p : Program) (e : Env) (s : State) (m : MethodId) (args : Array Value) (below : List Frame) (meth : Method) (c : Code) (H : Heap) (locs : List Loc) (lm : Array Slot) (Q : State → Prop),
      ch_FR g f p s m args meth c → ch_Rp g mem H → va_S (ch_A g) s.heap H locs → (∀ o ∈ ls, ∀ v, o = some v → ch_ok g v) → (∀ v ∈ st, ch_ok g v) → ch_LR g (ch_ml f) ls lm →
      ((∀ v ∈ st', ch_ok g v) → W p (ch_l g) e R s m args below meth c H locs k (6 * k) Q (F0 m pc' lm (st'.map (ch_tr g)))) → W p (ch_l g) e R s m args below meth c H locs k (6 * k) Q (F0 m pc lm (st.map (ch_tr g))))
    (kk : ch_J g f R E pc' ls st' mem k) : ch_J g f R E pc ls st mem k :=
  fun p e s m args below meth c H locs lm hF hR hS ho hs hL => h p e s m args below meth c H locs lm _ hF hR hS ho hs hL (fun hs' => kk p e s m args below meth c H locs lm hF hR hS ho hs' hL)
theorem ch_iconst {n : Int} {v : Int32} (hd : decode (ch_bc f) pc = .ok (.iconst n, 1)) (hv : Int32.ofInt n = v) (kk : ch_J g f R E (pc + 1) ls (.inl (.int v) :: rest) mem k) : ch_J g f R E pc ls (rest) mem k :=
  ch_go (fun _ _ _ _ _ _ _ _ _ _ _ _ hF _ _ ho hs hL q => lv_iconst hF.1 hF.2.1 hd hv (q (ch_ok1 hs))) kk
theorem ch_bipush {n : Int} {v : Int32} (hd : decode (ch_bc f) pc = .ok (.bipush n, 2)) (hv : (Int8.ofInt n).toInt32 = v) (kk : ch_J g f R E (pc + 2) ls (.inl (.int v) :: rest) mem k) : ch_J g f R E pc ls (rest) mem k :=
  ch_go (fun _ _ _ _ _ _ _ _ _ _ _ _ hF _ _ ho hs hL q => lv_bipush hF.1 hF.2.1 hd hv (q (ch_ok1 hs))) kk
theorem ch_sipush {n : Int} {v : Int32} (hd : decode (ch_bc f) pc = .ok (.sipush n, 3)) (hv : (Int16.ofInt n).toInt32 = v) (kk : ch_J g f R E (pc + 3) ls (.inl (.int v) :: rest) mem k) : ch_J g f R E pc ls (rest) mem k :=
  ch_go (fun _ _ _ _ _ _ _ _ _ _ _ _ hF _ _ ho hs hL q => lv_sipush hF.1 hF.2.1 hd hv (q (ch_ok1 hs))) kk
theorem ch_ldc {i : Nat} {v : Int32} (hd : decode (ch_bc f) pc = .ok (.ldc i, 2)) (hw : Cond.constant (ch_nm f).cls i v ∈ ch_good) (kk : ch_J g f R E (pc + 2) ls (.inl (.int v) :: rest) mem k) : ch_J g f R E pc ls (rest) mem k :=
  ch_go (fun _ _ _ _ _ _ _ _ _ _ _ _ hF _ _ ho hs hL q => lv_ldc hF.1 hF.2.1 hF.2.2.2.2.1 (hF.2.2.2.2.2.1 _ hw) hd (q (ch_ok1 hs))) kk
theorem ch_ldcf {i : Nat} {v : UInt32} (hd : decode (ch_bc f) pc = .ok (.ldc i, 2)) (hw : Cond.constantFloat (ch_nm f).cls i v ∈ ch_good) (kk : ch_J g f R E (pc + 2) ls (.inl (.float v) :: rest) mem k) : ch_J g f R E pc ls (rest) mem k :=
  ch_go (fun _ _ _ _ _ _ _ _ _ _ _ _ hF _ _ ho hs hL q => lv_ldcf hF.1 hF.2.1 hF.2.2.2.2.1 (hF.2.2.2.2.2.1 _ hw) hd (q (ch_ok1 hs))) kk
theorem ch_iload_n {i : Nat} {n : Fin 4} {x : Int32} (hd : decode (ch_bc f) pc = .ok (.iload_n n, 1)) (hi : (n : Nat) = i) (hl : ls[i]? = some (some (.inl (.int x)))) (kk : ch_J g f R E (pc + 1) ls (.inl (.int x) :: rest) mem k) : ch_J g f R E pc ls (rest) mem k :=
  ch_go (fun _ _ _ _ _ _ _ _ _ _ _ _ hF _ _ ho hs hL q => lv_iload_n hF.1 hF.2.1 hd hi (hL.2.2 _ _ hl) (q (ch_ok1 hs))) kk
theorem ch_iload {i : Nat} {x : Int32} (hd : decode (ch_bc f) pc = .ok (.iload i, 2)) (hl : ls[i]? = some (some (.inl (.int x)))) (kk : ch_J g f R E (pc + 2) ls (.inl (.int x) :: rest) mem k) : ch_J g f R E pc ls (rest) mem k :=
  ch_go (fun _ _ _ _ _ _ _ _ _ _ _ _ hF _ _ ho hs hL q => lv_iload hF.1 hF.2.1 hd (hL.2.2 _ _ hl) (q (ch_ok1 hs))) kk
theorem ch_aload_n {i : Nat} {n : Fin 4} {a : ch_Ad} (hd : decode (ch_bc f) pc = .ok (.aload_n n, 1)) (hi : (n : Nat) = i) (hl : ls[i]? = some (some (.inr a))) (kk : ch_J g f R E (pc + 1) ls (.inr a :: rest) mem k) : ch_J g f R E pc ls (rest) mem k :=
  ch_go (fun _ _ _ _ _ _ _ _ _ _ _ _ hF _ _ ho hs hL q => lv_aload_n hF.1 hF.2.1 hd hi (hL.2.2 _ _ hl) (q (ch_ok2 (ho _ (List.mem_of_getElem? hl) _ rfl) hs))) kk
theorem ch_aload {i : Nat} {a : ch_Ad} (hd : decode (ch_bc f) pc = .ok (.aload i, 2)) (hl : ls[i]? = some (some (.inr a))) (kk : ch_J g f R E (pc + 2) ls (.inr a :: rest) mem k) : ch_J g f R E pc ls (rest) mem k :=
  ch_go (fun _ _ _ _ _ _ _ _ _ _ _ _ hF _ _ ho hs hL q => lv_aload hF.1 hF.2.1 hd (hL.2.2 _ _ hl) (q (ch_ok2 (ho _ (List.mem_of_getElem? hl) _ rfl) hs))) kk
theorem ch_dload {i : Nat} {x : UInt64} (hd : decode (ch_bc f) pc = .ok (.dload i, 2)) (hl : ls[i]? = some (some (.inl (.double x)))) (kk : ch_J g f R E (pc + 2) ls (.inl (.double x) :: rest) mem k) : ch_J g f R E pc ls (rest) mem k :=
  ch_go (fun _ _ _ _ _ _ _ _ _ _ _ _ hF _ _ ho hs hL q => lv_dload hF.1 hF.2.1 hd (hL.2.2 _ _ hl) (q (ch_ok1 hs))) kk
theorem ch_dup {v : ch_V} (hd : decode (ch_bc f) pc = .ok (.dup, 1)) (hc : ch_cat v = 1) (kk : ch_J g f R E (pc + 1) ls (v :: v :: rest) mem k) : ch_J g f R E pc ls (v :: rest) mem k :=
  ch_go (fun _ _ _ _ _ _ _ _ _ _ _ _ hF _ _ ho hs hL q => lv_dup hF.1 hF.2.1 hd ((ch_cat_tr g v).trans hc) (q (ch_ok2 (ch_okh hs) hs))) kk
theorem ch_pop {v : ch_V} (hd : decode (ch_bc f) pc = .ok (.pop, 1)) (hc : ch_cat v = 1) (kk : ch_J g f R E (pc + 1) ls (rest) mem k) : ch_J g f R E pc ls (v :: rest) mem k :=
  ch_go (fun _ _ _ _ _ _ _ _ _ _ _ _ hF _ _ ho hs hL q => lv_pop hF.1 hF.2.1 hd ((ch_cat_tr g v).trans hc) (q (ch_ok0 hs))) kk
theorem ch_dup_x1 {v w : ch_V} (hd : decode (ch_bc f) pc = .ok (.dup_x1, 1)) (hc : ch_cat v = 1) (hc2 : ch_cat w = 1) (kk : ch_J g f R E (pc + 1) ls (v :: w :: v :: rest) mem k) : ch_J g f R E pc ls (v :: w :: rest) mem k :=
  ch_go (fun _ _ _ _ _ _ _ _ _ _ _ _ hF _ _ ho hs hL q => lv_dup_x1 hF.1 hF.2.1 hd ((ch_cat_tr g v).trans hc) ((ch_cat_tr g w).trans hc2) (q (ch_ok2 (ch_okh hs) (ch_ok2 (ch_okh (ch_ok0 hs)) (ch_ok2 (ch_okh hs) (ch_ok0 (ch_ok0 hs))))))) kk
theorem ch_dup_x2 {v w u : ch_V} (hd : decode (ch_bc f) pc = .ok (.dup_x2, 1)) (hc : ch_cat v = 1) (hc2 : ch_cat w = 1) (hc3 : ch_cat u = 1) (kk : ch_J g f R E (pc + 1) ls (v :: w :: u :: v :: rest) mem k) : ch_J g f R E pc ls (v :: w :: u :: rest) mem k :=
  ch_go (fun _ _ _ _ _ _ _ _ _ _ _ _ hF _ _ ho hs hL q => lv_dup_x2 hF.1 hF.2.1 hd ((ch_cat_tr g v).trans hc) ((ch_cat_tr g w).trans hc2) ((ch_cat_tr g u).trans hc3) (q (ch_ok2 (ch_okh hs) (ch_ok2 (ch_okh (ch_ok0 hs)) (ch_ok2 (ch_okh (ch_ok0 (ch_ok0 hs))) (ch_ok2 (ch_okh hs) (ch_ok0 (ch_ok0 (ch_ok0 hs))))))))) kk
theorem ch_dup2 {v w : ch_V} (hd : decode (ch_bc f) pc = .ok (.dup2, 1)) (hc : ch_cat v = 1) (hc2 : ch_cat w = 1) (kk : ch_J g f R E (pc + 1) ls (v :: w :: v :: w :: rest) mem k) : ch_J g f R E pc ls (v :: w :: rest) mem k :=
  ch_go (fun _ _ _ _ _ _ _ _ _ _ _ _ hF _ _ ho hs hL q => lv_dup2_11 hF.1 hF.2.1 hd ((ch_cat_tr g v).trans hc) ((ch_cat_tr g w).trans hc2) (q (ch_ok2 (ch_okh hs) (ch_ok2 (ch_okh (ch_ok0 hs)) hs)))) kk
theorem ch_iadd {x y : Int32} (hd : decode (ch_bc f) pc = .ok (.iadd, 1)) (kk : ch_J g f R E (pc + 1) ls (.inl (.int (x + y)) :: rest) mem k) : ch_J g f R E pc ls (.inl (.int y) :: .inl (.int x) :: rest) mem k :=
  ch_go (fun _ _ _ _ _ _ _ _ _ _ _ _ hF _ _ ho hs hL q => lv_iadd hF.1 hF.2.1 hd (q (ch_ok1 (ch_ok0 (ch_ok0 hs))))) kk
theorem ch_isub {x y : Int32} (hd : decode (ch_bc f) pc = .ok (.isub, 1)) (kk : ch_J g f R E (pc + 1) ls (.inl (.int (x - y)) :: rest) mem k) : ch_J g f R E pc ls (.inl (.int y) :: .inl (.int x) :: rest) mem k :=
  ch_go (fun _ _ _ _ _ _ _ _ _ _ _ _ hF _ _ ho hs hL q => lv_isub hF.1 hF.2.1 hd (q (ch_ok1 (ch_ok0 (ch_ok0 hs))))) kk
theorem ch_imul {x y : Int32} (hd : decode (ch_bc f) pc = .ok (.imul, 1)) (kk : ch_J g f R E (pc + 1) ls (.inl (.int (x * y)) :: rest) mem k) : ch_J g f R E pc ls (.inl (.int y) :: .inl (.int x) :: rest) mem k :=
  ch_go (fun _ _ _ _ _ _ _ _ _ _ _ _ hF _ _ ho hs hL q => lv_imul hF.1 hF.2.1 hd (q (ch_ok1 (ch_ok0 (ch_ok0 hs))))) kk
theorem ch_iand {x y : Int32} (hd : decode (ch_bc f) pc = .ok (.iand, 1)) (kk : ch_J g f R E (pc + 1) ls (.inl (.int (x &&& y)) :: rest) mem k) : ch_J g f R E pc ls (.inl (.int y) :: .inl (.int x) :: rest) mem k :=
  ch_go (fun _ _ _ _ _ _ _ _ _ _ _ _ hF _ _ ho hs hL q => lv_iand hF.1 hF.2.1 hd (q (ch_ok1 (ch_ok0 (ch_ok0 hs))))) kk
theorem ch_ior {x y : Int32} (hd : decode (ch_bc f) pc = .ok (.ior, 1)) (kk : ch_J g f R E (pc + 1) ls (.inl (.int (x ||| y)) :: rest) mem k) : ch_J g f R E pc ls (.inl (.int y) :: .inl (.int x) :: rest) mem k :=
  ch_go (fun _ _ _ _ _ _ _ _ _ _ _ _ hF _ _ ho hs hL q => lv_ior hF.1 hF.2.1 hd (q (ch_ok1 (ch_ok0 (ch_ok0 hs))))) kk
theorem ch_ixor {x y : Int32} (hd : decode (ch_bc f) pc = .ok (.ixor, 1)) (kk : ch_J g f R E (pc + 1) ls (.inl (.int (x ^^^ y)) :: rest) mem k) : ch_J g f R E pc ls (.inl (.int y) :: .inl (.int x) :: rest) mem k :=
  ch_go (fun _ _ _ _ _ _ _ _ _ _ _ _ hF _ _ ho hs hL q => lv_ixor hF.1 hF.2.1 hd (q (ch_ok1 (ch_ok0 (ch_ok0 hs))))) kk
theorem ch_ishl {x y : Int32} (hd : decode (ch_bc f) pc = .ok (.ishl, 1)) (kk : ch_J g f R E (pc + 1) ls (.inl (.int (x <<< (y &&& 31))) :: rest) mem k) : ch_J g f R E pc ls (.inl (.int y) :: .inl (.int x) :: rest) mem k :=
  ch_go (fun _ _ _ _ _ _ _ _ _ _ _ _ hF _ _ ho hs hL q => lv_ishl hF.1 hF.2.1 hd (q (ch_ok1 (ch_ok0 (ch_ok0 hs))))) kk
theorem ch_idiv {x y : Int32} (hd : decode (ch_bc f) pc = .ok (.idiv, 1)) (hz : ¬ y = 0) (kk : ch_J g f R E (pc + 1) ls (.inl (.int (x / y)) :: rest) mem k) : ch_J g f R E pc ls (.inl (.int y) :: .inl (.int x) :: rest) mem k :=
  ch_go (fun _ _ _ _ _ _ _ _ _ _ _ _ hF _ _ ho hs hL q => lv_idiv hF.1 hF.2.1 hd hz (q (ch_ok1 (ch_ok0 (ch_ok0 hs))))) kk
theorem ch_irem {x y : Int32} (hd : decode (ch_bc f) pc = .ok (.irem, 1)) (hz : ¬ y = 0) (kk : ch_J g f R E (pc + 1) ls (.inl (.int (x - x / y * y)) :: rest) mem k) : ch_J g f R E pc ls (.inl (.int y) :: .inl (.int x) :: rest) mem k :=
  ch_go (fun _ _ _ _ _ _ _ _ _ _ _ _ hF _ _ ho hs hL q => lv_irem hF.1 hF.2.1 hd hz (q (ch_ok1 (ch_ok0 (ch_ok0 hs))))) kk
theorem ch_iushr {x y v : Int32} (hd : decode (ch_bc f) pc = .ok (.iushr, 1)) (hv : (x.toUInt32 >>> (y.toUInt32 &&& Int32.toUInt32 31)).toInt32 = v) (kk : ch_J g f R E (pc + 1) ls (.inl (.int v) :: rest) mem k) : ch_J g f R E pc ls (.inl (.int y) :: .inl (.int x) :: rest) mem k :=
  ch_go (fun _ _ _ _ _ _ _ _ _ _ _ _ hF _ _ ho hs hL q => lv_iushr hF.1 hF.2.1 hd hv (q (ch_ok1 (ch_ok0 (ch_ok0 hs))))) kk
theorem ch_i2l {x : Int32} (hd : decode (ch_bc f) pc = .ok (.i2l, 1)) (kk : ch_J g f R E (pc + 1) ls (.inl (.long x.toInt64) :: rest) mem k) : ch_J g f R E pc ls (.inl (.int x) :: rest) mem k :=
  ch_go (fun _ _ _ _ _ _ _ _ _ _ _ _ hF _ _ ho hs hL q => lv_i2l hF.1 hF.2.1 hd rfl (q (ch_ok1 (ch_ok0 hs)))) kk
theorem ch_i2c {x : Int32} (hd : decode (ch_bc f) pc = .ok (.i2c, 1)) (kk : ch_J g f R E (pc + 1) ls (.inl (.int ((x.toUInt32 % 65536).toInt32)) :: rest) mem k) : ch_J g f R E pc ls (.inl (.int x) :: rest) mem k :=
  ch_go (fun _ _ _ _ _ _ _ _ _ _ _ _ hF _ _ ho hs hL q => lv_i2c hF.1 hF.2.1 hd rfl (q (ch_ok1 (ch_ok0 hs)))) kk
theorem ch_i2d {x : Int32} (hd : decode (ch_bc f) pc = .ok (.i2d, 1)) (kk : ch_J g f R E (pc + 1) ls (.inl (.double (FP.i2d x)) :: rest) mem k) : ch_J g f R E pc ls (.inl (.int x) :: rest) mem k :=
  ch_go (fun _ _ _ _ _ _ _ _ _ _ _ _ hF _ _ ho hs hL q => lv_i2d hF.1 hF.2.1 hd (q (ch_ok1 (ch_ok0 hs)))) kk
theorem ch_i2f {x : Int32} (hd : decode (ch_bc f) pc = .ok (.i2f, 1)) (kk : ch_J g f R E (pc + 1) ls (.inl (.float (FP.i2f x)) :: rest) mem k) : ch_J g f R E pc ls (.inl (.int x) :: rest) mem k :=
  ch_go (fun _ _ _ _ _ _ _ _ _ _ _ _ hF _ _ ho hs hL q => lv_i2f hF.1 hF.2.1 hd (q (ch_ok1 (ch_ok0 hs)))) kk
theorem ch_f2d {x : UInt32} (hd : decode (ch_bc f) pc = .ok (.f2d, 1)) (hn : vf_n64 (FP.f2d x)) (kk : ch_J g f R E (pc + 1) ls (.inl (.double (FP.f2d x)) :: rest) mem k) : ch_J g f R E pc ls (.inl (.float x) :: rest) mem k :=
  ch_go (fun _ _ _ _ _ _ _ _ _ _ _ _ hF _ _ ho hs hL q => lv_f2d hF.1 hF.2.1 hd hn (q (ch_ok1 (ch_ok0 hs)))) kk
theorem ch_fdiv {x y : UInt32} (hd : decode (ch_bc f) pc = .ok (.fdiv, 1)) (hn : vf_n32 (FP.fdiv x y)) (kk : ch_J g f R E (pc + 1) ls (.inl (.float (FP.fdiv x y)) :: rest) mem k) : ch_J g f R E pc ls (.inl (.float y) :: .inl (.float x) :: rest) mem k :=
  ch_go (fun _ _ _ _ _ _ _ _ _ _ _ _ hF _ _ ho hs hL q => lv_fdiv hF.1 hF.2.1 hd hn (q (ch_ok1 (ch_ok0 (ch_ok0 hs))))) kk
theorem ch_ddiv {x y : UInt64} (hd : decode (ch_bc f) pc = .ok (.ddiv, 1)) (hn : vf_n64 (FP.ddiv x y)) (kk : ch_J g f R E (pc + 1) ls (.inl (.double (FP.ddiv x y)) :: rest) mem k) : ch_J g f R E pc ls (.inl (.double y) :: .inl (.double x) :: rest) mem k :=
  ch_go (fun _ _ _ _ _ _ _ _ _ _ _ _ hF _ _ ho hs hL q => lv_ddiv hF.1 hF.2.1 hd hn (q (ch_ok1 (ch_ok0 (ch_ok0 hs))))) kk
theorem ch_dcmp {x y : UInt64} {op : CmpOp} (hd : decode (ch_bc f) pc = .ok (.dcmp op, 1)) (kk : ch_J g f R E (pc + 1) ls (.inl (.int (Op.cmpValue (FP.dcmp x y) op)) :: rest) mem k) : ch_J g f R E pc ls (.inl (.double y) :: .inl (.double x) :: rest) mem k :=
  ch_go (fun _ _ _ _ _ _ _ _ _ _ _ _ hF _ _ ho hs hL q => lv_dcmp hF.1 hF.2.1 hd (q (ch_ok1 (ch_ok0 (ch_ok0 hs))))) kk
theorem ch_lcmp {x y : Int64} (hd : decode (ch_bc f) pc = .ok (.lcmp, 1)) (kk : ch_J g f R E (pc + 1) ls (.inl (.int (lg_cmp x y)) :: rest) mem k) : ch_J g f R E pc ls (.inl (.long y) :: .inl (.long x) :: rest) mem k :=
  ch_go (fun _ _ _ _ _ _ _ _ _ _ _ _ hF _ _ ho hs hL q => W.lcmp hF.1 hF.2.1 hd (q (ch_ok1 (ch_ok0 (ch_ok0 hs))))) kk
theorem ch_goto {off : Int} {tgt : Nat} (hd : decode (ch_bc f) pc = .ok (.goto off, 3)) (ht : (pc : Int) + off = (tgt : Int)) (kk : ch_J g f R E tgt ls (rest) mem k) : ch_J g f R E pc ls (rest) mem k :=
  ch_go (fun _ _ _ _ _ _ _ _ _ _ _ _ hF _ _ ho hs hL q => lv_goto hF.1 hF.2.1 hd ht (q hs)) kk
theorem ch_if_eq {off : Int} {tgt : Nat} {x : Int32} (hd : decode (ch_bc f) pc = .ok (.ifCond .eq off, 3)) (ht : (pc : Int) + off = (tgt : Int)) (kt : x = 0 → ch_J g f R E tgt ls rest mem k) (kf : ¬ x = 0 → ch_J g f R E (pc + 3) ls rest mem k) : ch_J g f R E pc ls (.inl (.int x) :: rest) mem k :=
  fun p e s m args below meth c H locs lm hF hR hS ho hs hL => lv_if_eq hF.1 hF.2.1 hd ht (fun z => kt z p e s m args below meth c H locs lm hF hR hS ho (ch_ok0 hs) hL) (fun z => kf z p e s m args below meth c H locs lm hF hR hS ho (ch_ok0 hs) hL)
theorem ch_if_ne {off : Int} {tgt : Nat} {x : Int32} (hd : decode (ch_bc f) pc = .ok (.ifCond .ne off, 3)) (ht : (pc : Int) + off = (tgt : Int)) (kt : ¬ x = 0 → ch_J g f R E tgt ls rest mem k) (kf : x = 0 → ch_J g f R E (pc + 3) ls rest mem k) : ch_J g f R E pc ls (.inl (.int x) :: rest) mem k :=
  fun p e s m args below meth c H locs lm hF hR hS ho hs hL => lv_if_ne hF.1 hF.2.1 hd ht (fun z => kt z p e s m args below meth c H locs lm hF hR hS ho (ch_ok0 hs) hL) (fun z => kf z p e s m args below meth c H locs lm hF hR hS ho (ch_ok0 hs) hL)
theorem ch_if_lt {off : Int} {tgt : Nat} {x : Int32} (hd : decode (ch_bc f) pc = .ok (.ifCond .lt off, 3)) (ht : (pc : Int) + off = (tgt : Int)) (kt : x < 0 → ch_J g f R E tgt ls rest mem k) (kf : ¬ x < 0 → ch_J g f R E (pc + 3) ls rest mem k) : ch_J g f R E pc ls (.inl (.int x) :: rest) mem k :=
  fun p e s m args below meth c H locs lm hF hR hS ho hs hL => lv_if_lt hF.1 hF.2.1 hd ht (fun z => kt z p e s m args below meth c H locs lm hF hR hS ho (ch_ok0 hs) hL) (fun z => kf z p e s m args below meth c H locs lm hF hR hS ho (ch_ok0 hs) hL)
theorem ch_if_ge {off : Int} {tgt : Nat} {x : Int32} (hd : decode (ch_bc f) pc = .ok (.ifCond .ge off, 3)) (ht : (pc : Int) + off = (tgt : Int)) (kt : 0 ≤ x → ch_J g f R E tgt ls rest mem k) (kf : ¬ 0 ≤ x → ch_J g f R E (pc + 3) ls rest mem k) : ch_J g f R E pc ls (.inl (.int x) :: rest) mem k :=
  fun p e s m args below meth c H locs lm hF hR hS ho hs hL => lv_if_ge hF.1 hF.2.1 hd ht (fun z => kt z p e s m args below meth c H locs lm hF hR hS ho (ch_ok0 hs) hL) (fun z => kf z p e s m args below meth c H locs lm hF hR hS ho (ch_ok0 hs) hL)
theorem ch_if_gt {off : Int} {tgt : Nat} {x : Int32} (hd : decode (ch_bc f) pc = .ok (.ifCond .gt off, 3)) (ht : (pc : Int) + off = (tgt : Int)) (kt : 0 < x → ch_J g f R E tgt ls rest mem k) (kf : ¬ 0 < x → ch_J g f R E (pc + 3) ls rest mem k) : ch_J g f R E pc ls (.inl (.int x) :: rest) mem k :=
  fun p e s m args below meth c H locs lm hF hR hS ho hs hL => lv_if_gt hF.1 hF.2.1 hd ht (fun z => kt z p e s m args below meth c H locs lm hF hR hS ho (ch_ok0 hs) hL) (fun z => kf z p e s m args below meth c H locs lm hF hR hS ho (ch_ok0 hs) hL)
theorem ch_if_le {off : Int} {tgt : Nat} {x : Int32} (hd : decode (ch_bc f) pc = .ok (.ifCond .le off, 3)) (ht : (pc : Int) + off = (tgt : Int)) (kt : x ≤ 0 → ch_J g f R E tgt ls rest mem k) (kf : ¬ x ≤ 0 → ch_J g f R E (pc + 3) ls rest mem k) : ch_J g f R E pc ls (.inl (.int x) :: rest) mem k :=
  fun p e s m args below meth c H locs lm hF hR hS ho hs hL => lv_if_le hF.1 hF.2.1 hd ht (fun z => kt z p e s m args below meth c H locs lm hF hR hS ho (ch_ok0 hs) hL) (fun z => kf z p e s m args below meth c H locs lm hF hR hS ho (ch_ok0 hs) hL)
theorem ch_icmp_eq {off : Int} {tgt : Nat} {x y : Int32} (hd : decode (ch_bc f) pc = .ok (.if_icmp .eq off, 3)) (ht : (pc : Int) + off = (tgt : Int)) (kt : x = y → ch_J g f R E tgt ls rest mem k) (kf : ¬ x = y → ch_J g f R E (pc + 3) ls rest mem k) : ch_J g f R E pc ls (.inl (.int y) :: .inl (.int x) :: rest) mem k :=
  fun p e s m args below meth c H locs lm hF hR hS ho hs hL => lv_icmp_eq hF.1 hF.2.1 hd ht (fun z => kt z p e s m args below meth c H locs lm hF hR hS ho (ch_ok0 (ch_ok0 hs)) hL) (fun z => kf z p e s m args below meth c H locs lm hF hR hS ho (ch_ok0 (ch_ok0 hs)) hL)
theorem ch_icmp_ne {off : Int} {tgt : Nat} {x y : Int32} (hd : decode (ch_bc f) pc = .ok (.if_icmp .ne off, 3)) (ht : (pc : Int) + off = (tgt : Int)) (kt : ¬ x = y → ch_J g f R E tgt ls rest mem k) (kf : x = y → ch_J g f R E (pc + 3) ls rest mem k) : ch_J g f R E pc ls (.inl (.int y) :: .inl (.int x) :: rest) mem k :=
  fun p e s m args below meth c H locs lm hF hR hS ho hs hL => lv_icmp_ne hF.1 hF.2.1 hd ht (fun z => kt z p e s m args below meth c H locs lm hF hR hS ho (ch_ok0 (ch_ok0 hs)) hL) (fun z => kf z p e s m args below meth c H locs lm hF hR hS ho (ch_ok0 (ch_ok0 hs)) hL)
theorem ch_icmp_lt {off : Int} {tgt : Nat} {x y : Int32} (hd : decode (ch_bc f) pc = .ok (.if_icmp .lt off, 3)) (ht : (pc : Int) + off = (tgt : Int)) (kt : x < y → ch_J g f R E tgt ls rest mem k) (kf : ¬ x < y → ch_J g f R E (pc + 3) ls rest mem k) : ch_J g f R E pc ls (.inl (.int y) :: .inl (.int x) :: rest) mem k :=
  fun p e s m args below meth c H locs lm hF hR hS ho hs hL => lv_icmp_lt hF.1 hF.2.1 hd ht (fun z => kt z p e s m args below meth c H locs lm hF hR hS ho (ch_ok0 (ch_ok0 hs)) hL) (fun z => kf z p e s m args below meth c H locs lm hF hR hS ho (ch_ok0 (ch_ok0 hs)) hL)
theorem ch_icmp_ge {off : Int} {tgt : Nat} {x y : Int32} (hd : decode (ch_bc f) pc = .ok (.if_icmp .ge off, 3)) (ht : (pc : Int) + off = (tgt : Int)) (kt : y ≤ x → ch_J g f R E tgt ls rest mem k) (kf : ¬ y ≤ x → ch_J g f R E (pc + 3) ls rest mem k) : ch_J g f R E pc ls (.inl (.int y) :: .inl (.int x) :: rest) mem k :=
  fun p e s m args below meth c H locs lm hF hR hS ho hs hL => lv_icmp_ge hF.1 hF.2.1 hd ht (fun z => kt z p e s m args below meth c H locs lm hF hR hS ho (ch_ok0 (ch_ok0 hs)) hL) (fun z => kf z p e s m args below meth c H locs lm hF hR hS ho (ch_ok0 (ch_ok0 hs)) hL)
theorem ch_icmp_gt {off : Int} {tgt : Nat} {x y : Int32} (hd : decode (ch_bc f) pc = .ok (.if_icmp .gt off, 3)) (ht : (pc : Int) + off = (tgt : Int)) (kt : y < x → ch_J g f R E tgt ls rest mem k) (kf : ¬ y < x → ch_J g f R E (pc + 3) ls rest mem k) : ch_J g f R E pc ls (.inl (.int y) :: .inl (.int x) :: rest) mem k :=
  fun p e s m args below meth c H locs lm hF hR hS ho hs hL => lv_icmp_gt hF.1 hF.2.1 hd ht (fun z => kt z p e s m args below meth c H locs lm hF hR hS ho (ch_ok0 (ch_ok0 hs)) hL) (fun z => kf z p e s m args below meth c H locs lm hF hR hS ho (ch_ok0 (ch_ok0 hs)) hL)
theorem ch_icmp_le {off : Int} {tgt : Nat} {x y : Int32} (hd : decode (ch_bc f) pc = .ok (.if_icmp .le off, 3)) (ht : (pc : Int) + off = (tgt : Int)) (kt : x ≤ y → ch_J g f R E tgt ls rest mem k) (kf : ¬ x ≤ y → ch_J g f R E (pc + 3) ls rest mem k) : ch_J g f R E pc ls (.inl (.int y) :: .inl (.int x) :: rest) mem k :=
  fun p e s m args below meth c H locs lm hF hR hS ho hs hL => lv_icmp_le hF.1 hF.2.1 hd ht (fun z => kt z p e s m args below meth c H locs lm hF hR hS ho (ch_ok0 (ch_ok0 hs)) hL) (fun z => kf z p e s m args below meth c H locs lm hF hR hS ho (ch_ok0 (ch_ok0 hs)) hL)
theorem ch_tswOut {dflt lo hi : Int} {offs : Array Int} {len : Nat} {x : Int32} {tgt : Nat} (hd : decode (ch_bc f) pc = .ok (.tableswitch dflt lo hi offs, len)) (hx : x.toInt < lo ∨ hi < x.toInt) (ht : (pc : Int) + dflt = (tgt : Int)) (kk : ch_J g f R E tgt ls (rest) mem k) : ch_J g f R E pc ls (.inl (.int x) :: rest) mem k :=
  ch_go (fun _ _ _ _ _ _ _ _ _ _ _ _ hF _ _ ho hs hL q => lv_tableOut hF.1 hF.2.1 hd hx ht (q (ch_ok0 hs))) kk
theorem ch_tswIn {dflt lo hi : Int} {offs : Array Int} {len : Nat} {x : Int32} {off : Int} {tgt : Nat} (hd : decode (ch_bc f) pc = .ok (.tableswitch dflt lo hi offs, len)) (h1 : ¬ x.toInt < lo) (h2 : ¬ hi < x.toInt) (h3 : offs[(x.toInt - lo).toNat]? = some off) (ht : (pc : Int) + off = (tgt : Int)) (kk : ch_J g f R E tgt ls (rest) mem k) : ch_J g f R E pc ls (.inl (.int x) :: rest) mem k :=
  ch_go (fun _ _ _ _ _ _ _ _ _ _ _ _ hF _ _ ho hs hL q => lv_tableIn hF.1 hF.2.1 hd h1 h2 h3 ht (q (ch_ok0 hs))) kk
theorem ch_lsw {dflt : Int} {ps : Array (Int × Int)} {len : Nat} {x : Int32} {off : Int} {tgt : Nat} (hd : decode (ch_bc f) pc = .ok (.lookupswitch dflt ps, len)) (hp : (ps.toList.zip (ps.toList.drop 1)).all (fun (a, next) => a.1 < next.1) = true) (h3 : Op.lookupswitch.offset ps.toList dflt x.toInt = off) (ht : (pc : Int) + off = (tgt : Int)) (kk : ch_J g f R E tgt ls (rest) mem k) : ch_J g f R E pc ls (.inl (.int x) :: rest) mem k :=
  ch_go (fun _ _ _ _ _ _ _ _ _ _ _ _ hF _ _ ho hs hL q => lv_lookup hF.1 hF.2.1 hd hp h3 ht (q (ch_ok0 hs))) kk
theorem ch_ishr {x y : Int32} (hd : decode (ch_bc f) pc = .ok (.ishr, 1)) (kk : ch_J g f R E (pc + 1) ls (.inl (.int (x >>> (y &&& 31))) :: rest) mem k) : ch_J g f R E pc ls (.inl (.int y) :: .inl (.int x) :: rest) mem k :=
  ch_go (fun _ _ _ _ _ _ _ _ _ _ _ _ hF _ _ ho hs hL q => lv_ishr hF.1 hF.2.1 hd (q (ch_ok1 (ch_ok0 (ch_ok0 hs))))) kk
theorem ch_ineg {x : Int32} (hd : decode (ch_bc f) pc = .ok (.ineg, 1)) (kk : ch_J g f R E (pc + 1) ls (.inl (.int (-x)) :: rest) mem k) : ch_J g f R E pc ls (.inl (.int x) :: rest) mem k :=
  ch_go (fun _ _ _ _ _ _ _ _ _ _ _ _ hF _ _ ho hs hL q => lv_ineg hF.1 hF.2.1 hd (q (ch_ok1 (ch_ok0 hs)))) kk
theorem ch_i2b {x : Int32} (hd : decode (ch_bc f) pc = .ok (.i2b, 1)) (kk : ch_J g f R E (pc + 1) ls (.inl (.int x.toInt8.toInt32) :: rest) mem k) : ch_J g f R E pc ls (.inl (.int x) :: rest) mem k :=
  ch_go (fun _ _ _ _ _ _ _ _ _ _ _ _ hF _ _ ho hs hL q => lv_i2b hF.1 hF.2.1 hd rfl (q (ch_ok1 (ch_ok0 hs)))) kk
theorem ch_ladd {x y : Int64} (hd : decode (ch_bc f) pc = .ok (.ladd, 1)) (kk : ch_J g f R E (pc + 1) ls (.inl (.long (x + y)) :: rest) mem k) : ch_J g f R E pc ls (.inl (.long y) :: .inl (.long x) :: rest) mem k :=
  ch_go (fun _ _ _ _ _ _ _ _ _ _ _ _ hF _ _ ho hs hL q => lv_ladd hF.1 hF.2.1 hd (q (ch_ok1 (ch_ok0 (ch_ok0 hs))))) kk
theorem ch_lmul {x y : Int64} (hd : decode (ch_bc f) pc = .ok (.lmul, 1)) (kk : ch_J g f R E (pc + 1) ls (.inl (.long (x * y)) :: rest) mem k) : ch_J g f R E pc ls (.inl (.long y) :: .inl (.long x) :: rest) mem k :=
  ch_go (fun _ _ _ _ _ _ _ _ _ _ _ _ hF _ _ ho hs hL q => lv_lmul hF.1 hF.2.1 hd (q (ch_ok1 (ch_ok0 (ch_ok0 hs))))) kk
theorem ch_fcmp {x y : UInt32} {op : CmpOp} (hd : decode (ch_bc f) pc = .ok (.fcmp op, 1)) (kk : ch_J g f R E (pc + 1) ls (.inl (.int (Op.cmpValue (FP.fcmp x y) op)) :: rest) mem k) : ch_J g f R E pc ls (.inl (.float y) :: .inl (.float x) :: rest) mem k :=
  ch_go (fun _ _ _ _ _ _ _ _ _ _ _ _ hF _ _ ho hs hL q => lv_fcmp hF.1 hF.2.1 hd (q (ch_ok1 (ch_ok0 (ch_ok0 hs))))) kk
theorem ch_ldc2 {i : Nat} {v : Int64} (hd : decode (ch_bc f) pc = .ok (.ldc2_w i, 3)) (hw : Cond.constantLong (ch_nm f).cls i v ∈ ch_good) (kk : ch_J g f R E (pc + 3) ls (.inl (.long v) :: rest) mem k) : ch_J g f R E pc ls (rest) mem k :=
  ch_go (fun _ _ _ _ _ _ _ _ _ _ _ _ hF _ _ ho hs hL q => lv_ldc2 hF.1 hF.2.1 hF.2.2.2.2.1 (hF.2.2.2.2.2.1 _ hw) hd (q (ch_ok1 hs))) kk
theorem ch_ldc2d {i : Nat} {v : UInt64} (hd : decode (ch_bc f) pc = .ok (.ldc2_w i, 3)) (hw : Cond.constantDouble (ch_nm f).cls i v ∈ ch_good) (kk : ch_J g f R E (pc + 3) ls (.inl (.double v) :: rest) mem k) : ch_J g f R E pc ls (rest) mem k :=
  ch_go (fun _ _ _ _ _ _ _ _ _ _ _ _ hF _ _ ho hs hL q => lv_ldc2d hF.1 hF.2.1 hF.2.2.2.2.1 (hF.2.2.2.2.2.1 _ hw) hd (q (ch_ok1 hs))) kk
theorem ch_ldc_w {i : Nat} {v : Int32} (hd : decode (ch_bc f) pc = .ok (.ldc_w i, 3)) (hw : Cond.constant (ch_nm f).cls i v ∈ ch_good) (kk : ch_J g f R E (pc + 3) ls (.inl (.int v) :: rest) mem k) : ch_J g f R E pc ls (rest) mem k :=
  ch_go (fun _ _ _ _ _ _ _ _ _ _ _ _ hF _ _ ho hs hL q => lv_ldcw hF.1 hF.2.1 hF.2.2.2.2.1 (hF.2.2.2.2.2.1 _ hw) hd (q (ch_ok1 hs))) kk
theorem ch_lload_n {i : Nat} {n : Fin 4} {x : Int64} (hd : decode (ch_bc f) pc = .ok (.lload_n n, 1)) (hi : (n : Nat) = i) (hl : ls[i]? = some (some (.inl (.long x)))) (kk : ch_J g f R E (pc + 1) ls (.inl (.long x) :: rest) mem k) : ch_J g f R E pc ls (rest) mem k :=
  ch_go (fun _ _ _ _ _ _ _ _ _ _ _ _ hF _ _ ho hs hL q => lv_lload_n hF.1 hF.2.1 hd hi (hL.2.2 _ _ hl) (q (ch_ok1 hs))) kk
theorem ch_lload {i : Nat} {x : Int64} (hd : decode (ch_bc f) pc = .ok (.lload i, 2)) (hl : ls[i]? = some (some (.inl (.long x)))) (kk : ch_J g f R E (pc + 2) ls (.inl (.long x) :: rest) mem k) : ch_J g f R E pc ls (rest) mem k :=
  ch_go (fun _ _ _ _ _ _ _ _ _ _ _ _ hF _ _ ho hs hL q => lv_lload hF.1 hF.2.1 hd (hL.2.2 _ _ hl) (q (ch_ok1 hs))) kk
theorem ch_dload_n {i : Nat} {n : Fin 4} {x : UInt64} (hd : decode (ch_bc f) pc = .ok (.dload_n n, 1)) (hi : (n : Nat) = i) (hl : ls[i]? = some (some (.inl (.double x)))) (kk : ch_J g f R E (pc + 1) ls (.inl (.double x) :: rest) mem k) : ch_J g f R E pc ls (rest) mem k :=
  ch_go (fun _ _ _ _ _ _ _ _ _ _ _ _ hF _ _ ho hs hL q => lv_dload_n hF.1 hF.2.1 hd hi (hL.2.2 _ _ hl) (q (ch_ok1 hs))) kk
theorem ch_fload_n {i : Nat} {n : Fin 4} {x : UInt32} (hd : decode (ch_bc f) pc = .ok (.fload_n n, 1)) (hi : (n : Nat) = i) (hl : ls[i]? = some (some (.inl (.float x)))) (kk : ch_J g f R E (pc + 1) ls (.inl (.float x) :: rest) mem k) : ch_J g f R E pc ls (rest) mem k :=
  ch_go (fun _ _ _ _ _ _ _ _ _ _ _ _ hF _ _ ho hs hL q => lv_fload_n hF.1 hF.2.1 hd hi (hL.2.2 _ _ hl) (q (ch_ok1 hs))) kk
theorem ch_null (hd : decode (ch_bc f) pc = .ok (.aconst_null, 1)) (kk : ch_J g f R E (pc + 1) ls (.inl .null :: rest) mem k) : ch_J g f R E pc ls (rest) mem k :=
  ch_go (fun _ _ _ _ _ _ _ _ _ _ _ _ hF _ _ ho hs hL q => lv_null hF.1 hF.2.1 hd (q (ch_ok1 hs))) kk
theorem ch_ifnonnull {off : Int} {tgt : Nat} {a : ch_Ad} (hd : decode (ch_bc f) pc = .ok (.ifnonnull off, 3)) (ht : (pc : Int) + off = (tgt : Int)) (kk : ch_J g f R E tgt ls (rest) mem k) : ch_J g f R E pc ls (.inr a :: rest) mem k :=
  ch_go (fun _ _ _ _ _ _ _ _ _ _ _ _ hF _ _ ho hs hL q => lv_ifnonnull hF.1 hF.2.1 hd ht (q (ch_ok0 hs))) kk
end CHR
end
section
theorem ch_cat12 (v : ch_V) : ch_cat v = 1 ∨ ch_cat v = 2 := by
  cases v with
  | inl v => exact lv_cat v
  | inr _ => exact Or.inl rfl
def ch_kill (ls : ch_LT) (i : Nat) : ch_LT := match i with
  | 0 => ls
  | i' + 1 => match ls[i']? with
    | some (some w) => if ch_cat w = 2 then ls.set i' none else ls
    | _ => ls
def ch_set (ls : ch_LT) (i : Nat) (v : ch_V) : ch_LT := (ch_kill ls i).set i (some v)
def ch_set2 (ls : ch_LT) (i : Nat) (v : ch_V) : ch_LT := ((ch_kill ls i).set i (some v)).set (i + 1) none
theorem ch_kill_at {ls : ch_LT} {i j : Nat} {w : ch_V} (h : (ch_kill ls i)[j]? = some (some w)) : ls[j]? = some (some w) ∧ (j + 1 = i → ch_cat w = 1) := by
  cases i with
  | zero => exact ⟨h, fun q => by omega⟩
  | succ i' =>
    unfold ch_kill at h
    dsimp only at h
    cases hx : ls[i']? with
    | none =>
      rw [hx] at h
      refine ⟨h, fun q => ?_⟩
      have : j = i' := by omega
      subst this
      rw [hx] at h; cases h
    | some o =>
      cases o with
      | none =>
        rw [hx] at h
        refine ⟨h, fun q => ?_⟩
        have : j = i' := by omega
        subst this
        rw [hx] at h; cases h
      | some u =>
        rw [hx] at h
        dsimp only at h
        by_cases hc : ch_cat u = 2
        · rw [if_pos hc] at h
          by_cases hj : i' = j
          · subst hj
            rw [List.getElem?_set_self (List.getElem?_eq_some_iff.mp hx).1] at h
            cases h
          · rw [List.getElem?_set_ne hj] at h
            exact ⟨h, fun q => absurd (by omega) hj⟩
        · rw [if_neg hc] at h
          refine ⟨h, fun q => ?_⟩
          have : j = i' := by omega
          subst this
          rw [hx] at h
          rw [← Option.some.inj (Option.some.inj h)]
          rcases ch_cat12 u with z | z
          · exact z
          · exact absurd z hc
def ch_prs (g : ch_G) (ls : ch_LT) : List (Nat × Value) := (List.range ls.length).filterMap (fun i => match ls[i]? with
  | some (some v) => some (i, ch_tr g v)
  | _ => none)
theorem ch_prs_mem {g : ch_G} {ls : ch_LT} {i : Nat} {v : ch_V} (h : ls[i]? = some (some v)) : (i, ch_tr g v) ∈ ch_prs g ls :=
  List.mem_filterMap.mpr ⟨i, List.mem_range.mpr (List.getElem?_eq_some_iff.mp h).1, by rw [h]⟩
theorem ch_prs_has {g : ch_G} {n : Nat} {ls : ch_LT} {lm : Array Slot} (h : ch_LR g n ls lm) : lv_has lm n (ch_prs g ls) := by
  refine ⟨h.1, h.2.1, fun q hq => ?_⟩
  obtain ⟨i, -, hi⟩ := List.mem_filterMap.mp hq
  cases hx : ls[i]? with
  | none => rw [hx] at hi; cases hi
  | some o =>
    cases o with
    | none => rw [hx] at hi; cases hi
    | some v =>
      rw [hx] at hi
      cases hi
      exact h.2.2 i v hx
theorem ch_LR_set {g : ch_G} {n : Nat} {ls : ch_LT} {lm : Array Slot} {i : Nat} {v : ch_V} (h : lv_has lm n ((i, ch_tr g v) :: (ch_prs g ls).filter (fun q => !(q.1 == i) && !(q.1 + 1 == i && q.2.category == 2)))) : ch_LR g n (ch_set ls i v) lm := by
  refine ⟨h.1, h.2.1, fun j w hj => ?_⟩
  unfold ch_set at hj
  by_cases e : i = j
  · subst e
    have hl := (List.getElem?_eq_some_iff.mp hj).1
    rw [List.length_set] at hl
    rw [List.getElem?_set_self hl] at hj
    cases hj
    exact h.2.2 _ List.mem_cons_self
  · rw [List.getElem?_set_ne e] at hj
    obtain ⟨h1, h2⟩ := ch_kill_at hj
    refine h.2.2 (j, ch_tr g w) (List.mem_cons_of_mem _ (List.mem_filter.mpr ⟨ch_prs_mem h1, ?_⟩))
    simp only [Bool.and_eq_true, Bool.not_eq_true', beq_eq_false_iff_ne, ne_eq, Bool.and_eq_false_iff]
    refine ⟨fun q => e q.symm, ?_⟩
    by_cases q : j + 1 = i
    · exact Or.inr (by rw [ch_cat_tr, h2 q]; decide)
    · exact Or.inl q
theorem ch_LR_set2 {g : ch_G} {n : Nat} {ls : ch_LT} {lm : Array Slot} {i : Nat} {v : ch_V} (h : lv_has lm n ((i, ch_tr g v) :: (ch_prs g ls).filter (fun q => !(q.1 == i) && (!(q.1 == i + 1) && !(q.1 + 1 == i && q.2.category == 2))))) : ch_LR g n (ch_set2 ls i v) lm := by
  refine ⟨h.1, h.2.1, fun j w hj => ?_⟩
  unfold ch_set2 at hj
  by_cases e1 : i + 1 = j
  · subst e1
    have hl := (List.getElem?_eq_some_iff.mp hj).1
    rw [List.length_set] at hl
    rw [List.getElem?_set_self hl] at hj
    cases hj
  rw [List.getElem?_set_ne e1] at hj
  by_cases e : i = j
  · subst e
    have hl := (List.getElem?_eq_some_iff.mp hj).1
    rw [List.length_set] at hl
    rw [List.getElem?_set_self hl] at hj
    cases hj
    exact h.2.2 _ List.mem_cons_self
  · rw [List.getElem?_set_ne e] at hj
    obtain ⟨h1, h2⟩ := ch_kill_at hj
    refine h.2.2 (j, ch_tr g w) (List.mem_cons_of_mem _ (List.mem_filter.mpr ⟨ch_prs_mem h1, ?_⟩))
    simp only [Bool.and_eq_true, Bool.not_eq_true', beq_eq_false_iff_ne, ne_eq, Bool.and_eq_false_iff]
    refine ⟨fun q => e q.symm, fun q => e1 q.symm, ?_⟩
    by_cases q : j + 1 = i
    · exact Or.inr (by rw [ch_cat_tr, h2 q]; decide)
    · exact Or.inl q
theorem ch_kill_ok {g : ch_G} {ls : ch_LT} {i : Nat} (h : ∀ o ∈ ls, ∀ v, o = some v → ch_ok g v) : ∀ o ∈ ch_kill ls i, ∀ v, o = some v → ch_ok g v := by
  intro o ho v hv
  subst hv
  obtain ⟨j, hj⟩ := List.getElem?_of_mem ho
  exact h _ (List.mem_of_getElem? (ch_kill_at hj).1) v rfl
theorem ch_set_ok {g : ch_G} {ls : ch_LT} {i : Nat} {u : ch_V} (h : ∀ o ∈ ls, ∀ v, o = some v → ch_ok g v) (hu : ch_ok g u) : ∀ o ∈ ch_set ls i u, ∀ v, o = some v → ch_ok g v := by
  intro o ho v hv
  rcases List.mem_or_eq_of_mem_set ho with h1 | h1
  · exact ch_kill_ok h o h1 v hv
  · rw [h1] at hv
    cases hv
    exact hu
theorem ch_set2_ok {g : ch_G} {ls : ch_LT} {i : Nat} {u : ch_V} (h : ∀ o ∈ ls, ∀ v, o = some v → ch_ok g v) (hu : ch_ok g u) : ∀ o ∈ ch_set2 ls i u, ∀ v, o = some v → ch_ok g v := by
  intro o ho v hv
  rcases List.mem_or_eq_of_mem_set ho with h1 | h1
  · exact ch_set_ok h hu o h1 v hv
  · rw [h1] at hv
    cases hv
section CHS
variable {g : ch_G} {f : ch_MI} {R : Room} {E : ch_En} {pc : Nat} {ls ls' : ch_LT} {rest : List ch_V} {mem : ch_M} {k : Nat}
theorem ch_istore_n {i : Nat} {n : Fin 4} {x : Int32} (hd : decode (ch_bc f) pc = .ok (.istore_n n, 1)) (hi : (n : Nat) = i) (hn : i < ch_ml f) (hl : ch_set ls i (.inl (.int x)) = ls') (kk : ch_J g f R E (pc + 1) ls' rest mem k) : ch_J g f R E pc ls (.inl (.int x) :: rest) mem k := by
  subst hl
  exact fun p e s m args below meth c H locs lm hF hR hS ho hs hL => lv_istore_n hF.1 hF.2.1 hd hi (ch_prs_has hL) hn rfl (fun lm' hL' => kk p e s m args below meth c H locs lm' hF hR hS (ch_set_ok ho ch_okl) (ch_ok0 hs) (ch_LR_set hL'))
theorem ch_istore {i : Nat} {x : Int32} (hd : decode (ch_bc f) pc = .ok (.istore i, 2)) (hn : i < ch_ml f) (hl : ch_set ls i (.inl (.int x)) = ls') (kk : ch_J g f R E (pc + 2) ls' rest mem k) : ch_J g f R E pc ls (.inl (.int x) :: rest) mem k := by
  subst hl
  exact fun p e s m args below meth c H locs lm hF hR hS ho hs hL => lv_istore hF.1 hF.2.1 hd (ch_prs_has hL) hn rfl (fun lm' hL' => kk p e s m args below meth c H locs lm' hF hR hS (ch_set_ok ho ch_okl) (ch_ok0 hs) (ch_LR_set hL'))
theorem ch_astore_n {i : Nat} {n : Fin 4} {a : ch_Ad} (hd : decode (ch_bc f) pc = .ok (.astore_n n, 1)) (hi : (n : Nat) = i) (hn : i < ch_ml f) (hl : ch_set ls i (.inr a) = ls') (kk : ch_J g f R E (pc + 1) ls' rest mem k) : ch_J g f R E pc ls (.inr a :: rest) mem k := by
  subst hl
  exact fun p e s m args below meth c H locs lm hF hR hS ho hs hL => lv_astore_n hF.1 hF.2.1 hd hi (ch_prs_has hL) hn rfl (fun lm' hL' => kk p e s m args below meth c H locs lm' hF hR hS (ch_set_ok ho (ch_okh hs)) (ch_ok0 hs) (ch_LR_set hL'))
theorem ch_astore {i : Nat} {a : ch_Ad} (hd : decode (ch_bc f) pc = .ok (.astore i, 2)) (hn : i < ch_ml f) (hl : ch_set ls i (.inr a) = ls') (kk : ch_J g f R E (pc + 2) ls' rest mem k) : ch_J g f R E pc ls (.inr a :: rest) mem k := by
  subst hl
  exact fun p e s m args below meth c H locs lm hF hR hS ho hs hL => lv_astore hF.1 hF.2.1 hd (ch_prs_has hL) hn rfl (fun lm' hL' => kk p e s m args below meth c H locs lm' hF hR hS (ch_set_ok ho (ch_okh hs)) (ch_ok0 hs) (ch_LR_set hL'))
theorem ch_lstore {i : Nat} {x : Int64} (hd : decode (ch_bc f) pc = .ok (.lstore i, 2)) (hn : i + 1 < ch_ml f) (hl : ch_set2 ls i (.inl (.long x)) = ls') (kk : ch_J g f R E (pc + 2) ls' rest mem k) : ch_J g f R E pc ls (.inl (.long x) :: rest) mem k := by
  subst hl
  exact fun p e s m args below meth c H locs lm hF hR hS ho hs hL => lv_lstore hF.1 hF.2.1 hd (ch_prs_has hL) hn rfl (fun lm' hL' => kk p e s m args below meth c H locs lm' hF hR hS (ch_set2_ok ho ch_okl) (ch_ok0 hs) (ch_LR_set2 hL'))
theorem ch_lstore_n {i : Nat} {n : Fin 4} {x : Int64} (hd : decode (ch_bc f) pc = .ok (.lstore_n n, 1)) (hi : (n : Nat) = i) (hn : i + 1 < ch_ml f) (hl : ch_set2 ls i (.inl (.long x)) = ls') (kk : ch_J g f R E (pc + 1) ls' rest mem k) : ch_J g f R E pc ls (.inl (.long x) :: rest) mem k := by
  subst hl
  exact fun p e s m args below meth c H locs lm hF hR hS ho hs hL => lv_lstore_n hF.1 hF.2.1 hd hi (ch_prs_has hL) hn rfl (fun lm' hL' => kk p e s m args below meth c H locs lm' hF hR hS (ch_set2_ok ho ch_okl) (ch_ok0 hs) (ch_LR_set2 hL'))
theorem ch_dstore {i : Nat} {x : UInt64} (hd : decode (ch_bc f) pc = .ok (.dstore i, 2)) (hn : i + 1 < ch_ml f) (hl : ch_set2 ls i (.inl (.double x)) = ls') (kk : ch_J g f R E (pc + 2) ls' rest mem k) : ch_J g f R E pc ls (.inl (.double x) :: rest) mem k := by
  subst hl
  exact fun p e s m args below meth c H locs lm hF hR hS ho hs hL => lv_dstore hF.1 hF.2.1 hd (ch_prs_has hL) hn rfl (fun lm' hL' => kk p e s m args below meth c H locs lm' hF hR hS (ch_set2_ok ho ch_okl) (ch_ok0 hs) (ch_LR_set2 hL'))
theorem ch_iinc {i : Nat} {n : Int} {x v : Int32} (hd : decode (ch_bc f) pc = .ok (.iinc i n, 3)) (hx : ls[i]? = some (some (.inl (.int x)))) (hv : x + Int32.ofInt n = v) (hn : i < ch_ml f) (hl : ch_set ls i (.inl (.int v)) = ls') (kk : ch_J g f R E (pc + 3) ls' rest mem k) : ch_J g f R E pc ls rest mem k := by
  subst hl
  intro p e s m args below meth c H locs lm hF hR hS ho hs hL
  obtain ⟨q, hq⟩ := List.getElem?_of_mem (ch_prs_mem (g := g) hx)
  exact lv_iinc hF.1 hF.2.1 hd (ch_prs_has hL) hq hv hn rfl (fun lm' hL' => kk p e s m args below meth c H locs lm' hF hR hS (ch_set_ok ho ch_okl) hs (ch_LR_set (v := .inl (.int v)) hL'))
end CHS
def ch_all : List ch_Ad := [(0, 0, 0), (1, 0, 0), (1, 0, 1), (1, 0, 2), (1, 0, 3), (1, 0, 4), (1, 0, 5), (1, 0, 6), (1, 0, 7), (1, 0, 8), (1, 1, 0), (1, 1, 1), (1, 1, 2), (1, 1, 3), (1, 1, 4), (1, 1, 5), (1, 1, 6), (1, 1, 7), (1, 1, 8), (1, 2, 0), (1, 2, 1), (1, 2, 2), (1, 2, 3), (1, 2, 4), (1, 2, 5), (1, 2, 6), (1, 2, 7), (1, 2, 8), (1, 3, 0), (1, 3, 1), (1, 3, 2), (1, 3, 3), (1, 3, 4), (1, 3, 5), (1, 3, 6), (1, 3, 7), (1, 3, 8), (2, 0, 0), (2, 0, 1), (1, 4, 0), (1, 4, 1), (1, 4, 2), (1, 4, 3), (1, 4, 4), (1, 4, 5), (1, 4, 6), (1, 4, 7), (1, 4, 8), (1, 5, 0), (1, 5, 1), (1, 5, 2), (1, 5, 3), (1, 5, 4), (1, 5, 5), (1, 5, 6), (1, 5, 7), (1, 5, 8), (1, 6, 0), (1, 6, 1), (1, 6, 2), (1, 6, 3), (1, 6, 4), (1, 6, 5), (1, 6, 6), (1, 6, 7), (1, 6, 8), (1, 7, 0), (1, 7, 1), (1, 7, 2), (1, 7, 3), (1, 7, 4), (1, 7, 5), (1, 7, 6), (1, 7, 7), (1, 7, 8), (1, 8, 0), (1, 8, 1), (1, 8, 2), (1, 8, 3), (1, 8, 4), (1, 8, 5), (1, 8, 6), (1, 8, 7), (1, 8, 8), (1, 9, 0), (1, 9, 1), (1, 9, 2), (1, 9, 3), (1, 9, 4), (1, 9, 5), (1, 9, 6), (1, 9, 7), (1, 9, 8), (1, 10, 0), (1, 10, 1), (1, 10, 2), (1, 10, 3), (1, 10, 4), (1, 10, 5), (1, 10, 6), (1, 10, 7), (1, 10, 8), (1, 11, 0), (1, 11, 1), (1, 11, 2), (1, 11, 3), (1, 11, 4), (1, 11, 5), (1, 11, 6), (1, 11, 7), (1, 11, 8), (3, 0, 0), (4, 0, 0), (5, 0, 0), (5, 0, 1), (6, 0, 0), (6, 0, 1), (7, 0, 0), (6, 1, 0), (6, 1, 1), (8, 0, 0), (8, 0, 1), (8, 0, 2), (8, 0, 3), (5, 1, 0), (5, 1, 1)]
theorem ch_all_chk : ((List.range 9).all fun ci => (List.range 12).all fun j => (List.range 12).all fun c => !(decide (j < ch_cnt ci ∧ c < ch_wid ci)) || decide (ch_all[ch_off ci j + c]? = some (ci, j, c))) = true := by decide +kernel
theorem ch_all_ok : ∀ ci, ci < 9 → ∀ j, j < 12 → ∀ c, c < 12 → (j < ch_cnt ci ∧ c < ch_wid ci) → ch_all[ch_off ci j + c]? = some (ci, j, c) := by
  intro ci h1 j h2 c h3 h4
  have h := List.all_eq_true.mp (List.all_eq_true.mp (List.all_eq_true.mp ch_all_chk ci (List.mem_range.mpr h1)) j (List.mem_range.mpr h2)) c (List.mem_range.mpr h3)
  simp only [Bool.or_eq_true, Bool.not_eq_true', decide_eq_false_iff_not, decide_eq_true_eq] at h
  exact h.elim (fun q => absurd h4 q) id
theorem ch_cnt_le (ci : Nat) : ch_cnt ci ≤ 12 := by unfold ch_cnt; split <;> omega
theorem ch_wid_le (ci : Nat) : ch_wid ci ≤ 12 := by unfold ch_wid; split <;> omega
theorem ch_in_all {a : ch_Ad} (h : ch_in a) : ch_all[ch_off a.1 a.2.1 + a.2.2]? = some a := by
  obtain ⟨ci, j, c⟩ := a
  obtain ⟨h1, h2, h3⟩ := h
  have e1 := ch_cnt_le ci
  have e2 := ch_wid_le ci
  exact ch_all_ok ci (by dsimp only at h1; omega) j (by dsimp only at h2; omega) c (by dsimp only at h3; omega) ⟨h2, h3⟩
theorem ch_in_lt {a : ch_Ad} (h : ch_in a) : ch_off a.1 a.2.1 + a.2.2 < 126 := by
  have h1 := (List.getElem?_eq_some_iff.mp (ch_in_all h)).1
  exact h1
theorem ch_adr_in {g : ch_G} {a : ch_Ad} (h : ch_in a) : ch_adr g a = ch_base g + (ch_off a.1 a.2.1 + a.2.2) := by
  unfold ch_adr
  rw [if_pos h.1]
theorem ch_adr_injm {g : ch_G} {a b : ch_Ad} (ha : ch_in a) (hb : ch_in b) (h : ch_adr g a = ch_adr g b) : a = b := by
  rw [ch_adr_in ha, ch_adr_in hb] at h
  have h1 := ch_in_all ha
  have h2 := ch_in_all hb
  rw [show ch_off a.1 a.2.1 + a.2.2 = ch_off b.1 b.2.1 + b.2.2 by omega] at h1
  exact Option.some.inj (h1.symm.trans h2)
theorem ch_ev_eq {g : ch_G} {mem mem' : ch_M} {a : ch_Ad} (h : mem' a = mem a) (t k : Nat) : ch_ev g mem' a t k = ch_ev g mem a t k := by
  unfold ch_ev
  rw [h]
theorem ch_cell_eq {g : ch_G} {mem mem' : ch_M} {a : ch_Ad} {H H' : Heap} (h : mem' a = mem a) (hq : H'[ch_adr g a]? = H[ch_adr g a]?) (hc : ch_cell g mem a H) : ch_cell g mem' a H' := by
  obtain ⟨ci, j, c⟩ := a
  cases c with
  | zero =>
    obtain ⟨r, h1, h2⟩ := hc
    refine ⟨r, h1, (h2.kept hq).to (fun k _ => ?_)⟩
    unfold ch_gv
    cases ch_rf ci k j with
    | none => dsimp only; rw [h]
    | some a => rfl
  | succ c =>
    show H'[_]? = _
    rw [hq]
    have e : (fun k => ch_ev g mem' (ci, j, c + 1) (ch_ak ci (c + 1)).1 k) = (fun k => ch_ev g mem (ci, j, c + 1) (ch_ak ci (c + 1)).1 k) := funext fun k => ch_ev_eq h _ _
    rw [e]
    exact hc
theorem ch_cell_lt {g : ch_G} {mem : ch_M} {a : ch_Ad} {H : Heap} (hc : ch_cell g mem a H) : ch_adr g a < H.size := by
  obtain ⟨ci, j, c⟩ := a
  cases c with
  | zero =>
    obtain ⟨r, -, cell, h, -⟩ := hc
    exact (Array.getElem?_eq_some_iff.mp h).1
  | succ c => exact (Array.getElem?_eq_some_iff.mp hc).1
theorem ch_adr_A {g : ch_G} {mem : ch_M} {H : Heap} {a : ch_Ad} (hR : ch_Rp g mem H) (h : ch_inx g a) : ch_A g (ch_adr g a) := hR.2.2.2.2.1 a h
/-- one cell has changed -/
theorem ch_Rp_upd {g : ch_G} {mem mem' : ch_M} {a : ch_Ad} {H H' : Heap} (hR : ch_Rp g mem H) (ha : ch_inx g a) (hz : H'.size = H.size) (ho : ∀ q, q ≠ ch_adr g a → H'[q]? = H[q]?) (hc : ch_cell g mem' a H') (hm : ∀ b, b ≠ a → mem' b = mem b) : ch_Rp g mem' H' := by
  refine ⟨by rw [hz]; exact hR.1, fun q hq => ?_, fun b hb => ?_, hR.2.2.2⟩
  · rw [ho q (fun e => hq.2 a ha e.symm)]
    exact hR.2.1 q hq
  · by_cases e : b = a
    · rw [e]; exact hc
    · exact ch_cell_eq (hm b e) (ho _ (fun q => e (hR.2.2.2.1 b a hb ha q))) (hR.2.2.1 b hb)
def ch_wr (mem : ch_M) (a : ch_Ad) (k : Nat) (x : Int32) : ch_M := fun b i => if b = a ∧ i = k then x else mem b i
theorem ch_wr_ne {mem : ch_M} {a b : ch_Ad} {k : Nat} {x : Int32} (h : b ≠ a) : ch_wr mem a k x b = mem b := by
  funext i
  unfold ch_wr
  rw [if_neg (fun q => h q.1)]
theorem ch_wr_at {mem : ch_M} {a : ch_Ad} {k : Nat} {x : Int32} (i : Nat) : ch_wr mem a k x a i = if i = k then x else mem a i := by
  unfold ch_wr
  by_cases e : i = k
  · rw [if_pos ⟨rfl, e⟩, if_pos e]
  · rw [if_neg (fun q => e q.2), if_neg e]
end
section
/-- a field's entry of the class own: field k of class ci -/
def ch_FL (own : String) (idx ci k : Nat) : Prop := ∃ (C : String) (T : u_T) (N : Nat), ch_Cl ci C T N ∧ k < N ∧ (Cond.fieldLink own idx (T k).1 (T k).2.1 (T k).2.2.1 ∈ ch_good ∨ ∃ host, Cond.fieldLinkNest own idx (T k).1 (T k).2.1 (T k).2.2.1 host ∈ ch_oth)
/-- .. one that may be written with an int -/
def ch_FP (own : String) (idx ci k : Nat) (ty : FieldType) : Prop := ∃ (C : String) (T : u_T) (N : Nat), ch_Cl ci C T N ∧ k < N ∧ (Cond.fieldLink own idx (T k).1 (T k).2.1 (T k).2.2.1 ∈ ch_good ∨ ∃ host, Cond.fieldLinkNest own idx (T k).1 (T k).2.1 (T k).2.2.1 host ∈ ch_oth) ∧ (T k).2.2.2 = false ∧ parseFieldDescriptor (T k).2.2.1 = some ty
theorem ch_oth_on {w : Cond} (h : w ∈ ch_oth) : w.onTables = true := by
  have h1 : ch_isO w = true := (List.mem_filter.mp h).2
  cases w with
  | fieldLinkNest => rfl
  | methodLinkNest => rfl
  | castable => rfl
  | declares => rfl
  | _ => cases h1
theorem ch_Cl_lt {ci N : Nat} {C : String} {T : u_T} (h : ch_Cl ci C T N) : ci < 10 := (List.getElem?_eq_some_iff.mp h.1).1
theorem ch_rf_inm {ci k j : Nat} {a : ch_Ad} (h : ch_in (ci, j, 0)) (hr : ch_rf ci k j = some a) : ch_in a := by
  obtain ⟨h1, h2, h3⟩ := h
  dsimp only at h1 h2
  unfold ch_rf at hr
  split at hr
  · split at hr
    all_goals first | (cases hr; exact ⟨by decide, by decide, by decide⟩) | cases hr
  · split at hr
    · cases hr
      exact ⟨by show 1 ≤ 8; decide, h2, by show k + 1 < 9; omega⟩
    · cases hr
  · split at hr
    · cases hr
      exact ⟨by show 2 ≤ 8; decide, h2, by show 1 < 2; decide⟩
    · cases hr
  · split at hr
    · cases hr
      exact ⟨by decide, by decide, by decide⟩
    · cases hr
  · split at hr
    · cases hr
      exact ⟨by show 5 ≤ 8; decide, h2, by show 1 < 2; decide⟩
    · cases hr
  · split at hr
    · cases hr
      exact ⟨by show 6 ≤ 8; decide, h2, by show 1 < 2; decide⟩
    · cases hr
  · split at hr
    · cases hr
      exact ⟨by show 8 ≤ 8; decide, h2, by show k + 1 < 4; omega⟩
    · cases hr
  · exact absurd h1 (by decide)
  · cases hr
theorem ch_rf_in {g : ch_G} {ci k j : Nat} {a : ch_Ad} (hw : ch_gw g) (h : ch_inx g (ci, j, 0)) (hr : ch_rf ci k j = some a) : ch_inx g a := by
  rcases h with h | h
  · exact Or.inl (ch_rf_inm h hr)
  · rcases hw.2.2.2 _ h with e | e
    · have e : ci = 9 := e
      subst e
      have hr : (if k = 0 then some (9, j, 1) else none) = some a := hr
      by_cases hk : k = 0
      · rw [if_pos hk] at hr
        cases hr
        exact Or.inr (hw.2.2.1 j h)
      · rw [if_neg hk] at hr
        cases hr
    · have e : ci = 14 := e
      subst e
      cases hr
theorem ch_ok_in {g : ch_G} {a : ch_Ad} (h : ch_ok g (.inr a)) (h1 : a.1 ≤ 10 ∨ a.1 = 14) : ch_inx g a := by
  rcases h a rfl with h | h | ⟨i, -, h | h⟩ | ⟨i, -, h⟩
  · exact h
  · rw [h] at h1; exact absurd h1 (by decide)
  · rw [h] at h1; exact absurd h1 (by simp)
  · rw [h] at h1; exact absurd h1 (by simp)
  · rw [h] at h1; exact absurd h1 (by simp)
theorem ch_fl_pad (f : Nat → Value) (N k : Nat) (h : k < N) : ((List.range N).map f)[k]? = some (f k) := by
  rw [List.getElem?_map, List.getElem?_range h]
  rfl
section CHH
variable {g : ch_G} {f : ch_MI} {R : Room} {E : ch_En} {pc : Nat} {ls : ch_LT} {rest : List ch_V} {mem : ch_M} {kc : Nat}
theorem ch_get {idx ci j k : Nat} {v : ch_V} (hd : decode (ch_bc f) pc = .ok (.getfield idx, 3)) (hl : ch_FL (ch_nm f).cls idx ci k) (hv : ch_gv mem ci j k = v) (kk : ch_J g f R E (pc + 3) ls (v :: rest) mem kc) : ch_J g f R E pc ls (.inr (ci, j, 0) :: rest) mem kc := by
  subst hv
  refine ch_go (fun p e s m args below meth c H locs lm Q hF hR hS ho hs hL q => ?_) kk
  obtain ⟨C, T, N, hcl, hk, hlink⟩ := hl
  have hci := ch_Cl_lt hcl
  have hin : ch_inx g (ci, j, 0) := ch_ok_in (ch_okh hs) (Or.inl (by show ci ≤ 10; omega))
  obtain ⟨r, hr, hob⟩ := hR.2.2.1 _ hin
  have hr' : r = (C, T, N) := Option.some.inj (hr.symm.trans hcl.1)
  subst hr'
  have hP : va_P (ch_dC g, ch_dI g) ch_cls [(ch_adr g (ci, j, 0), .inr (ci, (List.range N).map (fun k => ch_tr g (ch_gv mem ci j k))))] H := by
    intro i x hx
    have hi : i < 1 := (List.getElem?_eq_some_iff.mp hx).1
    have : i = 0 := by omega
    subst this
    cases hx
    exact ⟨_, hr, hob.to (fun i hi => by simp only [vp_V, List.getD_eq_getElem?_getD]; rw [ch_fl_pad _ _ _ hi]; rfl)⟩
  have hok : ch_ok g (ch_gv mem ci j k) := by
    intro a ha
    unfold ch_gv at ha
    cases hrf : ch_rf ci k j with
    | none => rw [hrf] at ha; cases ha
    | some b =>
      rw [hrf] at ha
      cases ha
      exact Or.inl (ch_rf_in hR.2.2.2 hin hrf)
  have q' := q (ch_ok2 hok (ch_ok0 hs))
  rcases hlink with h | ⟨host, h⟩
  · exact va_get (D := (ch_dC g, ch_dI g)) hF.1 hF.2.1 hF.2.2.2.2.2.1 hcl.2.1 hF.2.2.2.2.1 hF.2.2.2.2.2.2.1.1 hP 0 rfl hcl.1 k hk (hF.2.2.2.2.2.1 _ h) (fun x hx => hx) (ch_fl_pad _ _ _ hk) hd q'
  · exact va_getN (D := (ch_dC g, ch_dI g)) (host := host) hF.1 hF.2.1 hF.2.2.2.2.2.1 hcl.2.1 hF.2.2.2.2.1 hF.2.2.2.2.2.2.1.1 hP 0 rfl hcl.1 k hk (va_Nw.use (ch_oth_on h) (hF.2.2.2.2.2.2.1.2.1 _ h)) (fun x hx => hx) (ch_fl_pad _ _ _ hk) hd q'
theorem ch_put {idx ci j k : Nat} {x : Int32} {ty : FieldType} (hd : decode (ch_bc f) pc = .ok (.putfield idx, 3)) (hl : ch_FP (ch_nm f).cls idx ci k ty) (hrf : ch_rf ci k j = none) (hn : narrow ty (.int x) = .int x) (hfit : fits ty (.int x) = true) (kk : ch_J g f R E (pc + 3) ls rest (ch_wr mem (ci, j, 0) k x) kc) : ch_J g f R E pc ls (.inl (.int x) :: .inr (ci, j, 0) :: rest) mem kc := by
  intro p e s m args below meth c H locs lm hF hR hS ho hs hL
  obtain ⟨C, T, N, hcl, hk, hlink, hfin, hty⟩ := hl
  have hci := ch_Cl_lt hcl
  have hin : ch_inx g (ci, j, 0) := ch_ok_in (ch_okh (ch_ok0 hs)) (Or.inl (by show ci ≤ 10; omega))
  obtain ⟨r, hr, hob⟩ := hR.2.2.1 _ hin
  have hr' : r = (C, T, N) := Option.some.inj (hr.symm.trans hcl.1)
  subst hr'
  obtain ⟨ty0, hty0⟩ := hcl.2.2.1
  have hK := hF.2.2.2.2.2.2.1.1
  have hap := va_apart (D := (ch_dC g, ch_dI g)) (own := (ch_nm f).cls) hF.2.2.2.2.2.1 hcl.2.1 ty0 hty0 hcl.2.2.2 hK hcl.1
  obtain ⟨cell, q1, q2, q3, q4⟩ := hob
  obtain ⟨hSl, hfc, kC, hkC, hkind⟩ := hK.1 ci _ hcl.1
  obtain ⟨cf, kf, fi, fd, hi, hsl⟩ := hSl k hk
  have hlay := hF.2.2.2.2.2.1 _ (hcl.2.1 _ (u_in_lay hk))
  unfold u_lay at hlay
  rw [if_neg (by rw [hfin]; decide)] at hlay
  have hst := (u_facts hfc hkC (u_lays hF.2.2.2.2.2.1 hcl.2.1 hk) hi).1
  have h6 := u_store hfc hkC hkind hlay hi hty hn hfit
  have hi' : s.fieldFound? (T k).1 (T k).2.1 (T k).2.2.1 = some (cf, kf, fi, fd) := hi
  have fin : ∀ H' : Heap, H'[ch_adr g (ci, j, 0)]? = some (cell.setSlot fd.slot (.int x)) → H'.size = H.size → (∀ q, q ≠ ch_adr g (ci, j, 0) → H'[q]? = H[q]?) → W p (ch_l g) e R s m args below meth c H' (locs ++ [⟨ch_adr g (ci, j, 0), fd.slot⟩]) kc (6 * kc) (E s args below) (F0 m (pc + 3) lm (rest.map (ch_tr g))) := by
    intro H' e1 e2 e3
    refine kk p e s m args below meth c H' _ lm hF (ch_Rp_upd hR hin e2 e3 ?_ (fun b hb => ch_wr_ne hb)) (hS.put e2 e3 (ch_adr_A hR hin)) ho (ch_ok0 (ch_ok0 hs)) hL
    refine ⟨_, hr, t_OB.to (V := updV (fun k => ch_tr g (ch_gv mem ci j k)) k (.int x)) ⟨_, e1, q2, q3, ?_⟩ (fun i _ => ?_)⟩
    · rw [hsl]
      exact t_set q4 hap hk _
    · by_cases e : i = k
      · subst e
        simp only [updV, if_true, ch_gv, hrf, ch_tr]
        rw [ch_wr_at, if_pos rfl]
      · simp only [updV, if_neg e, ch_gv]
        cases ch_rf ci i j with
        | none => simp only [ch_tr]; rw [ch_wr_at, if_neg e]
        | some b => rfl
  rcases hlink with h | ⟨host, h⟩
  · exact W.putK hF.1 hF.2.1 (f := fd) ⟨hF.2.2.2.2.1, hF.2.2.2.2.2.1 _ h, ⟨_, _, _, hi'⟩, hst⟩ (by rw [q2]; exact h6) q1 q3 (by rw [hsl]; exact k2_hasslot (q4 k hk)) rfl rfl hd fin
  · exact va_WputK hF.1 hF.2.1 (f := fd) hF.2.2.2.2.1 (va_Nw.use (ch_oth_on h) (hF.2.2.2.2.2.2.1.2.1 _ h)) hi' hst (by rw [q2]; exact h6) q1 q3 (by rw [hsl]; exact k2_hasslot (q4 k hk)) rfl rfl hd fin
theorem ch_arr {H : Heap} {ci j c : Nat} (hR : ch_Rp g mem H) (h : ch_ok g (.inr (ci, j, c + 1))) (hci : ci ≤ 10 ∨ ci = 14) : ch_inx g (ci, j, c + 1) ∧ H[ch_adr g (ci, j, c + 1)]? = some (arrV (ch_cA g (ch_ak ci (c + 1)).1) (ch_ak ci (c + 1)).2 (fun k => ch_ev g mem (ci, j, c + 1) (ch_ak ci (c + 1)).1 k)) :=
  ⟨ch_ok_in h hci, hR.2.2.1 _ (ch_ok_in h hci)⟩
end CHH
end
section
theorem ch_arrK {g : ch_G} {s : State} (hW : ch_WV g s) {t : Nat} (ht : t < 6) : ArrOfT s (ch_cA g t) (ch_ty t) := by
  have h := hW.1.2
  match t, ht with
  | 0, _ => exact (h 0 _ rfl).1
  | 1, _ => exact (h 1 _ rfl).1
  | 2, _ => exact (h 2 _ rfl).1
  | 3, _ => exact (h 3 _ rfl).1
  | 4, _ => exact (h 4 _ rfl).1
  | 5, _ => exact (h 5 _ rfl).1
theorem ch_nc_of (x : Int32) : narrow .char (.int x) = .int (vp_nar .char x) := by rw [vp_nar_char]; rfl
section CHA
variable {g : ch_G} {f : ch_MI} {R : Room} {E : ch_En} {pc : Nat} {ls : ch_LT} {rest : List ch_V} {mem : ch_M} {kc : Nat} {ci j c n : Nat} {x : Int32}
theorem ch_inv {x : Int32} {n : Nat} (h : vp_in x n) (cA : ClassId) (F : Nat → Value) : ¬ (x < 0 ∨ (arrV cA n F).slots.size ≤ x.toNatClampNeg) := by rw [arrV_size]; exact h
theorem ch_inr {x : Int32} {n : Nat} (h : vp_in x n) (cA : ClassId) (F : Nat → Value) : (arrV cA n F).slots[x.toNatClampNeg]? = some (F x.toNatClampNeg) := arrV_read _ _ (Nat.not_le.mp fun q => h (Or.inr q))
theorem ch_iald (hd : decode (ch_bc f) pc = .ok (.iaload, 1)) (hci : ci ≤ 10 ∨ ci = 14) (hk : ch_ak ci (c + 1) = (0, n)) (hx : vp_in x n) (kk : ch_J g f R E (pc + 1) ls (.inl (.int (mem (ci, j, c + 1) x.toNatClampNeg)) :: rest) mem kc) : ch_J g f R E pc ls (.inl (.int x) :: .inr (ci, j, c + 1) :: rest) mem kc := by
  refine ch_go (fun p e s m args below meth c H locs lm Q hF hR hS ho hs hL q => ?_) kk
  obtain ⟨hin, hc⟩ := ch_arr hR (ch_okh (ch_ok0 hs)) hci
  rw [hk] at hc
  exact W.iald hF.1 hF.2.1 hc (ch_arrK hF.2.2.2.2.2.2.1 (t := 0) (by decide) _ _) (fun q => by cases q) (ch_inv hx _ _) (ch_inr hx _ _) rfl rfl hd (q (ch_ok1 (ch_ok0 (ch_ok0 hs))))
theorem ch_cald (hd : decode (ch_bc f) pc = .ok (.caload, 1)) (hci : ci ≤ 10 ∨ ci = 14) (hk : ch_ak ci (c + 1) = (1, n)) (hx : vp_in x n) (kk : ch_J g f R E (pc + 1) ls (.inl (.int (mem (ci, j, c + 1) x.toNatClampNeg)) :: rest) mem kc) : ch_J g f R E pc ls (.inl (.int x) :: .inr (ci, j, c + 1) :: rest) mem kc := by
  refine ch_go (fun p e s m args below meth c H locs lm Q hF hR hS ho hs hL q => ?_) kk
  obtain ⟨hin, hc⟩ := ch_arr hR (ch_okh (ch_ok0 hs)) hci
  rw [hk] at hc
  exact W.cald hF.1 hF.2.1 hc (ch_arrK hF.2.2.2.2.2.2.1 (t := 1) (by decide) _ _) (fun q => by cases q) (ch_inv hx _ _) (ch_inr hx _ _) rfl rfl hd (q (ch_ok1 (ch_ok0 (ch_ok0 hs))))
theorem ch_lald (hd : decode (ch_bc f) pc = .ok (.laload, 1)) (hci : ci ≤ 10 ∨ ci = 14) (hk : ch_ak ci (c + 1) = (2, n)) (hx : vp_in x n) (kk : ch_J g f R E (pc + 1) ls (.inl (.long (ch_lw (mem (ci, j, c + 1) (2 * x.toNatClampNeg)) (mem (ci, j, c + 1) (2 * x.toNatClampNeg + 1)))) :: rest) mem kc) : ch_J g f R E pc ls (.inl (.int x) :: .inr (ci, j, c + 1) :: rest) mem kc := by
  refine ch_go (fun p e s m args below meth c H locs lm Q hF hR hS ho hs hL q => ?_) kk
  obtain ⟨hin, hc⟩ := ch_arr hR (ch_okh (ch_ok0 hs)) hci
  rw [hk] at hc
  exact W.lald hF.1 hF.2.1 hc (ch_arrK hF.2.2.2.2.2.2.1 (t := 2) (by decide) _ _) (fun q => by cases q) (ch_inv hx _ _) (ch_inr hx _ _) rfl rfl hd (q (ch_ok1 (ch_ok0 (ch_ok0 hs))))
/-- the ring's yards -/
theorem ch_aald (hd : decode (ch_bc f) pc = .ok (.aaload, 1)) (hx : vp_in x 8) (kk : ch_J g f R E (pc + 1) ls (.inr (1, 4 + x.toNatClampNeg, 0) :: rest) mem kc) : ch_J g f R E pc ls (.inl (.int x) :: .inr (2, 0, 1) :: rest) mem kc := by
  refine ch_go (fun p e s m args below meth c H locs lm Q hF hR hS ho hs hL q => ?_) kk
  obtain ⟨hin, hc⟩ := ch_arr (c := 0) hR (ch_okh (ch_ok0 hs)) (Or.inl (by decide))
  have hlt : x.toNatClampNeg < 8 := Nat.not_le.mp fun q => hx (Or.inr q)
  have hok : ch_ok g (.inr (1, 4 + x.toNatClampNeg, 0)) := by
    intro a ha
    cases ha
    exact Or.inl (Or.inl ⟨by show 1 ≤ 8; decide, by show 4 + x.toNatClampNeg < 12; omega, by show 0 < 9; decide⟩)
  exact W.aald (ty := .object "ChalkWarrants$Yard") hF.1 hF.2.1 hc (ch_arrK hF.2.2.2.2.2.2.1 (t := 4) (by decide) _ _) rfl (fun q => by cases q) (ch_inv hx _ _) (ch_inr hx _ _) rfl rfl hd (q (ch_ok2 hok (ch_ok0 (ch_ok0 hs))))
theorem ch_alen {t : Nat} {v : Int32} (hd : decode (ch_bc f) pc = .ok (.arraylength, 1)) (hci : ci ≤ 10 ∨ ci = 14) (ht : t < 6) (hk : ch_ak ci (c + 1) = (t, n)) (hv : Int32.ofNat n = v) (kk : ch_J g f R E (pc + 1) ls (.inl (.int v) :: rest) mem kc) : ch_J g f R E pc ls (.inr (ci, j, c + 1) :: rest) mem kc := by
  refine ch_go (fun p e s m args below meth c H locs lm Q hF hR hS ho hs hL q => ?_) kk
  obtain ⟨hin, hc⟩ := ch_arr hR (ch_okh hs) hci
  rw [hk] at hc
  exact W.alen (n := v) hF.1 hF.2.1 hc (ch_arrK hF.2.2.2.2.2.2.1 ht _ _) (by rw [arrV_size]; exact hv) rfl rfl hd (q (ch_ok1 (ch_ok0 hs)))
theorem ch_slen (hd : decode (ch_bc f) pc = .ok (.arraylength, 1)) (kk : ch_J g f R E (pc + 1) ls (.inl (.int (Int32.ofNat (ch_scr g).2.1)) :: rest) mem kc) : ch_J g f R E pc ls (.inr (11, 0, 0) :: rest) mem kc := by
  refine ch_go (fun p e s m args below meth c H locs lm Q hF hR hS ho hs hL q => ?_) kk
  obtain ⟨scr, h1, h2, h3, h4, h5⟩ := hF.2.2.2.2.2.2.1.2.2.2.2.2.1
  have hb := hF.2.2.2.2.2.2.1.2.2.2.2.2.2.1
  exact W.alen (n := Int32.ofNat (ch_scr g).2.1) hF.1 hF.2.1 (show H[ch_adr g (11, 0, 0)]? = some scr by rw [show ch_adr g (11, 0, 0) = (ch_scr g).1 from rfl, hR.2.1 _ hb]; exact h1) h2 (by rw [h4] <;> rfl) rfl rfl hd (q (ch_ok1 (ch_ok0 hs)))
theorem ch_sld (hd : decode (ch_bc f) pc = .ok (.iaload, 1)) (hx : vp_in x (ch_scr g).2.1) (kk : ch_J g f R E (pc + 1) ls (.inl (.int ((ch_scr g).2.2 x.toNatClampNeg)) :: rest) mem kc) : ch_J g f R E pc ls (.inl (.int x) :: .inr (11, 0, 0) :: rest) mem kc := by
  refine ch_go (fun p e s m args below meth c H locs lm Q hF hR hS ho hs hL q => ?_) kk
  obtain ⟨scr, h1, h2, h3, h4, h5⟩ := hF.2.2.2.2.2.2.1.2.2.2.2.2.1
  have hb := hF.2.2.2.2.2.2.1.2.2.2.2.2.2.1
  exact W.iald (v := .int ((ch_scr g).2.2 x.toNatClampNeg)) hF.1 hF.2.1 (show H[ch_adr g (11, 0, 0)]? = some scr by rw [show ch_adr g (11, 0, 0) = (ch_scr g).1 from rfl, hR.2.1 _ hb]; exact h1) h2 h3 (by rw [h4]; exact hx) (h5 _ (Nat.not_le.mp fun q => hx (Or.inr q))) rfl rfl hd (q (ch_ok1 (ch_ok0 (ch_ok0 hs))))
/-- behind a store into an array -/
theorem ch_st {p : Program} {e : Env} {s : State} {m : MethodId} {args : Array Value} {below : List Frame} {meth : Method} {cc : Code} {H H' : Heap} {locs : List Loc} {lm : Array Slot} {mem' : ch_M} {i : Nat} {v : Value}
    (hF : ch_FR g f p s m args meth cc) (hR : ch_Rp g mem H) (hS : va_S (ch_A g) s.heap H locs) (ho : ∀ o ∈ ls, ∀ v, o = some v → ch_ok g v) (hs : ∀ v ∈ rest, ch_ok g v) (hL : ch_LR g (ch_ml f) ls lm) (hin : ch_inx g (ci, j, c + 1))
    (e1 : H'[ch_adr g (ci, j, c + 1)]? = some ((arrV (ch_cA g (ch_ak ci (c + 1)).1) (ch_ak ci (c + 1)).2 (fun k => ch_ev g mem (ci, j, c + 1) (ch_ak ci (c + 1)).1 k)).setSlot i v)) (e2 : H'.size = H.size) (e3 : ∀ q, q ≠ ch_adr g (ci, j, c + 1) → H'[q]? = H[q]?)
    (hm : ∀ b, b ≠ (ci, j, c + 1) → mem' b = mem b) (hv : ∀ k, updV (fun k => ch_ev g mem (ci, j, c + 1) (ch_ak ci (c + 1)).1 k) i v k = ch_ev g mem' (ci, j, c + 1) (ch_ak ci (c + 1)).1 k)
    (kk : ch_J g f R E pc ls rest mem' kc) : W p (ch_l g) e R s m args below meth cc H' (locs ++ [⟨ch_adr g (ci, j, c + 1), i⟩]) kc (6 * kc) (E s args below) (F0 m pc lm (rest.map (ch_tr g))) := by
  refine kk p e s m args below meth cc H' _ lm hF (ch_Rp_upd hR hin e2 e3 ?_ hm) (hS.put e2 e3 (ch_adr_A hR hin)) ho hs hL
  show H'[_]? = _
  rw [e1, arrV_store]
  congr 2
  exact funext hv
theorem ch_iast {y : Int32} (hd : decode (ch_bc f) pc = .ok (.iastore, 1)) (hci : ci ≤ 10 ∨ ci = 14) (hk : ch_ak ci (c + 1) = (0, n)) (hx : vp_in x n) (kk : ch_J g f R E (pc + 1) ls rest (ch_wr mem (ci, j, c + 1) x.toNatClampNeg y) kc) : ch_J g f R E pc ls (.inl (.int y) :: .inl (.int x) :: .inr (ci, j, c + 1) :: rest) mem kc := by
  intro p e s m args below meth cc H locs lm hF hR hS ho hs hL
  obtain ⟨hin, hc⟩ := ch_arr hR (ch_okh (ch_ok0 (ch_ok0 hs))) hci
  have hA := ch_arrK hF.2.2.2.2.2.2.1 (t := 0) (by decide)
  refine W.iast hF.1 hF.2.1 hc (by rw [hk]; exact hA _ _) (fun q => by cases q) (by rw [hk]; exact ch_inv hx _ _) rfl rfl hd (fun H' e1 e2 e3 => ch_st hF hR hS ho (ch_ok0 (ch_ok0 (ch_ok0 hs))) hL hin e1 e2 e3 (fun b hb => ch_wr_ne hb) (fun k => ?_) kk)
  rw [hk]
  show updV (fun k => Value.int (mem (ci, j, c + 1) k)) _ _ k = .int (ch_wr mem (ci, j, c + 1) _ y (ci, j, c + 1) k)
  rw [ch_wr_at]
  unfold updV
  split <;> rfl
theorem ch_cast {y : Int32} (hd : decode (ch_bc f) pc = .ok (.castore, 1)) (hci : ci ≤ 10 ∨ ci = 14) (hk : ch_ak ci (c + 1) = (1, n)) (hx : vp_in x n) (kk : ch_J g f R E (pc + 1) ls rest (ch_wr mem (ci, j, c + 1) x.toNatClampNeg (vp_nar .char y)) kc) : ch_J g f R E pc ls (.inl (.int y) :: .inl (.int x) :: .inr (ci, j, c + 1) :: rest) mem kc := by
  intro p e s m args below meth cc H locs lm hF hR hS ho hs hL
  obtain ⟨hin, hc⟩ := ch_arr hR (ch_okh (ch_ok0 (ch_ok0 hs))) hci
  have hA := ch_arrK hF.2.2.2.2.2.2.1 (t := 1) (by decide)
  refine W.cast hF.1 hF.2.1 hc (by rw [hk]; exact hA _ _) (fun q => by cases q) (by rw [hk]; exact ch_inv hx _ _) rfl rfl hd (fun H' e1 e2 e3 => ch_st hF hR hS ho (ch_ok0 (ch_ok0 (ch_ok0 hs))) hL hin e1 e2 e3 (fun b hb => ch_wr_ne hb) (fun k => ?_) kk)
  rw [hk, ch_nc_of]
  show updV (fun k => Value.int (mem (ci, j, c + 1) k)) _ _ k = .int (ch_wr mem (ci, j, c + 1) _ _ (ci, j, c + 1) k)
  rw [ch_wr_at]
  unfold updV
  split <;> rfl
theorem ch_last {y z : Int32} {w : Int64} (hd : decode (ch_bc f) pc = .ok (.lastore, 1)) (hci : ci ≤ 10 ∨ ci = 14) (hk : ch_ak ci (c + 1) = (2, n)) (hx : vp_in x n) (hw : ch_lw y z = w) (kk : ch_J g f R E (pc + 1) ls rest (ch_wr (ch_wr mem (ci, j, c + 1) (2 * x.toNatClampNeg) y) (ci, j, c + 1) (2 * x.toNatClampNeg + 1) z) kc) : ch_J g f R E pc ls (.inl (.long w) :: .inl (.int x) :: .inr (ci, j, c + 1) :: rest) mem kc := by
  intro p e s m args below meth cc H locs lm hF hR hS ho hs hL
  obtain ⟨hin, hc⟩ := ch_arr hR (ch_okh (ch_ok0 (ch_ok0 hs))) hci
  have hA := ch_arrK hF.2.2.2.2.2.2.1 (t := 2) (by decide)
  refine W.last hF.1 hF.2.1 hc (by rw [hk]; exact hA _ _) (fun q => by cases q) (by rw [hk]; exact ch_inv hx _ _) rfl rfl hd (fun H' e1 e2 e3 => ch_st hF hR hS ho (ch_ok0 (ch_ok0 (ch_ok0 hs))) hL hin e1 e2 e3 (fun b hb => by rw [ch_wr_ne hb, ch_wr_ne hb]) (fun k => ?_) kk)
  rw [hk]
  show updV (fun k => Value.long (ch_lw (mem (ci, j, c + 1) (2 * k)) (mem (ci, j, c + 1) (2 * k + 1)))) _ _ k = .long (ch_lw (ch_wr (ch_wr mem (ci, j, c + 1) _ y) (ci, j, c + 1) _ z (ci, j, c + 1) (2 * k)) (ch_wr (ch_wr mem (ci, j, c + 1) _ y) (ci, j, c + 1) _ z (ci, j, c + 1) (2 * k + 1)))
  rw [ch_wr_at, ch_wr_at, ch_wr_at, ch_wr_at]
  unfold updV
  by_cases e : k = x.toNatClampNeg
  · rw [if_pos e, e, if_neg (by omega), if_pos rfl, if_pos rfl, hw]
  · rw [if_neg e, if_neg (by omega), if_neg (by omega), if_neg (by omega), if_neg (by omega)]
/-- bytes -/
theorem ch_bald2 (hd : decode (ch_bc f) pc = .ok (.baload, 1)) (hci : ci ≤ 10 ∨ ci = 14) (hk : ch_ak ci (c + 1) = (5, n)) (hx : vp_in x n) (kk : ch_J g f R E (pc + 1) ls (.inl (.int (mem (ci, j, c + 1) x.toNatClampNeg)) :: rest) mem kc) : ch_J g f R E pc ls (.inl (.int x) :: .inr (ci, j, c + 1) :: rest) mem kc := by
  refine ch_go (fun p e s m args below meth c H locs lm Q hF hR hS ho hs hL q => ?_) kk
  obtain ⟨hin, hc⟩ := ch_arr hR (ch_okh (ch_ok0 hs)) hci
  rw [hk] at hc
  exact W.bald hF.1 hF.2.1 hc (ch_arrK hF.2.2.2.2.2.2.1 (t := 5) (by decide) _ _) (fun q => by cases q) (ch_inv hx _ _) (ch_inr hx _ _) rfl rfl hd (q (ch_ok1 (ch_ok0 (ch_ok0 hs))))
theorem ch_nb_of (x : Int32) : narrow .byte (.int x) = .int (vp_nar .byte x) := by rw [vp_nar_byte]; rfl
theorem ch_bast {y : Int32} (hd : decode (ch_bc f) pc = .ok (.bastore, 1)) (hci : ci ≤ 10 ∨ ci = 14) (hk : ch_ak ci (c + 1) = (5, n)) (hx : vp_in x n) (kk : ch_J g f R E (pc + 1) ls rest (ch_wr mem (ci, j, c + 1) x.toNatClampNeg (vp_nar .byte y)) kc) : ch_J g f R E pc ls (.inl (.int y) :: .inl (.int x) :: .inr (ci, j, c + 1) :: rest) mem kc := by
  intro p e s m args below meth cc H locs lm hF hR hS ho hs hL
  obtain ⟨hin, hc⟩ := ch_arr hR (ch_okh (ch_ok0 (ch_ok0 hs))) hci
  have hA := ch_arrK hF.2.2.2.2.2.2.1 (t := 5) (by decide)
  refine W.bast hF.1 hF.2.1 hc (by rw [hk]; exact hA _ _) (fun q => by cases q) (by rw [hk]; exact ch_inv hx _ _) rfl rfl hd (fun H' e1 e2 e3 => ch_st hF hR hS ho (ch_ok0 (ch_ok0 (ch_ok0 hs))) hL hin e1 e2 e3 (fun b hb => ch_wr_ne hb) (fun k => ?_) kk)
  rw [hk, ch_nb_of]
  show updV (fun k => Value.int (mem (ci, j, c + 1) k)) _ _ k = .int (ch_wr mem (ci, j, c + 1) _ _ (ci, j, c + 1) k)
  rw [ch_wr_at]
  unfold updV
  split <;> rfl
end CHA
end
section
def ch_RR (R : Room) (d : Nat) : Prop := d ≤ R.frames ∧ 128 * d + 64 ≤ R.locals
theorem ch_ws_good {f : ch_MI} (hf : ch_MF f) : GoodIn ch_good (ch_ws f) := by
  intro w hw
  rcases List.mem_cons.mp hw with h | h
  · rw [h]
    exact ⟨hf.1, good_of_word (List.mem_filter.mp hf.1).2⟩
  · exact ⟨h, good_of_word (List.mem_filter.mp h).2⟩
theorem ch_PC_blind {g : ch_G} {as : List ch_V} {mem : ch_M} : FrameBlind (ch_PC g as mem) := by
  intro a U fr mk h
  obtain ⟨h1, ⟨k1, k2, k3, k4, k5, k6, k7, k8, k9, k10⟩, h3, h4⟩ := h
  refine ⟨h1, ⟨va_K.moved (u := U) (U := U.calling fr mk a) (Vm.Alike.refl U.vm) k1, fun w hw => va_Nw.same (ch_oth_on hw) (u := U) (U := U.calling fr mk a) rfl (k2 w hw), k3, vx_Zq.moved (u := U) (U := U.calling fr mk a) (Vm.Alike.refl U.vm) k4, vx_Zq.moved (u := U) (U := U.calling fr mk a) (Vm.Alike.refl U.vm) k5, ch_X_moved (s := U) (U := U.calling fr mk a) (Vm.Alike.refl U.vm) k6, k7, k8, k9.same rfl, k10⟩, h3, h4⟩
/-- a static method, or one without handlers that is called on an object: by the kind of its word -/
def ch_SV (f : ch_MI) (own : String) (idx n : Nat) : Prop := ch_MF f ∧ ch_LK own idx f n
section CHC
variable {g : ch_G} {f : ch_MI} {R : Room} {E : ch_En} {pc : Nat} {ls : ch_LT} {rest : List ch_V} {mem : ch_M} {k : Nat}
/-- how it goes on behind a call -/
def ch_K (g : ch_G) (f : ch_MI) (R : Room) (E : ch_En) (pc : Nat) (ls : ch_LT) (rest : List ch_V) (k : Nat) : ch_O → ch_M → Prop := fun o mem =>
  (∀ v, o = .inl (some v) → ch_ok g v ∧ ch_J g f R E (pc + 3) ls (v :: rest) mem k) ∧ (o = .inl none → ch_J g f R E (pc + 3) ls rest mem k) ∧ ∀ n, o = .inr n → ch_X g f R E pc ls rest n mem k
theorem ch_run {p : Program} {e : Env} {s : State} {m : MethodId} {args a' : Array Value} {below : List Frame} {meth : Method} {c : Code} {H : Heap} {locs : List Loc} {lm : Array Slot} {st0 : List Value} {mc : Nat}
    (hr : vx_Run p (ch_l g) e R s m args below meth c H locs k (6 * k) mc (6 * mc) (F0 m pc lm st0) (rest.map (ch_tr g)) (ch_Qc g (ch_K g f R E pc ls rest (k + mc)) a') (ch_XC g (ch_K g f R E pc ls rest (k + mc))) (ch_A g))
    (hF : ch_FR g f p s m args meth c) (hS : va_S (ch_A g) s.heap H locs) (ho : ∀ o ∈ ls, ∀ v, o = some v → ch_ok g v) (hs : ∀ v ∈ rest, ch_ok g v) (hL : ch_LR g (ch_ml f) ls lm) :
    W p (ch_l g) e R s m args below meth c H locs k (6 * k) (E s args below) (F0 m pc lm st0) := by
  intro T hT X
  have e6 : 6 * (k + mc) = 6 * k + 6 * mc := by omega
  have key : ∀ (st₀ t T' : State) (L : List Loc), st₀.heap = H → (∀ q ∈ L, ch_A g q.base) → T'.heap = t.heap → va_F (ch_A g) st₀ t → va_S (ch_A g) s.heap T'.heap (locs ++ L) := by
    intro st₀ t T' L h0 hL e1 hq
    exact (vx_keep h0 e1 hS (fun q _ h => h) (fun q h => h) hL hq).2.2
  rcases hr T hT X with ⟨v, st₀, t, T', L, h0, X', hLc, e1, e2, ⟨v', mem', hv, hQ, hRp, hFr⟩, st⟩ | ⟨q, st₀, t, T', L, Ex, ce, h0, X', hLc, e1, e2, ⟨n, mem', hE, hn, hQ, hRp, hFr⟩, hce, hcv, hcl, st⟩
  · have hS' := key st₀ t T' L h0 hLc e1 hFr
    have hRp' : ch_Rp g mem' T'.heap := by rw [e1]; exact hRp
    cases hv
    rw [← e6] at X'
    cases v' with
    | none =>
      obtain ⟨t2, a1, b1⟩ := hQ.2.1 rfl p e s m args below meth c T'.heap (locs ++ L) lm hF hRp' hS' ho hs hL T' rfl X'
      exact ⟨t2, st t2 a1, b1⟩
    | some w =>
      obtain ⟨hz, hJ⟩ := hQ.1 w rfl
      obtain ⟨t2, a1, b1⟩ := hJ p e s m args below meth c T'.heap (locs ++ L) lm hF hRp' hS' ho (ch_ok2 hz hs) hL T' rfl X'
      exact ⟨t2, st t2 a1, b1⟩
  · have hS' := key st₀ t T' L h0 hLc e1 hFr
    have hRp' : ch_Rp g mem' T'.heap := by rw [e1]; exact hRp
    rw [← e6] at X'
    obtain ⟨t2, a1, b1⟩ := hQ.2.2 n rfl p e s m args below meth c T'.heap (locs ++ L) lm q ce hF hRp' hS' ho hL hn (by rw [e1]; exact hce) hcv (by rw [← hE]; exact hcl) T' rfl X'
    exact ⟨t2, st.trans a1, b1⟩
theorem ch_sum {g : ch_G} : ∀ (l : List ch_V), ((l.map (ch_tr g)).map fun v => v.category).sum = (l.map ch_cat).sum
  | [] => rfl
  | v :: l => by simp only [List.map_cons, List.sum_cons]; rw [ch_cat_tr, ch_sum l]
theorem ch_len {y : MethodName} {n : Nat} (h : (parseMethodDescriptor y.desc).map (fun d => d.parameters.length) = some n) : ∀ sig, parseMethodDescriptor y.desc = some sig → n = sig.parameters.length := by
  intro sig hs
  rw [hs] at h
  exact (Option.some.inj h).symm
theorem ch_ini (s : State) (y : String) (args a' : Array Value) (U : State) (h : (Cond.initialized y).before args s = true) (hW : s.WarmedH U.vm) : (Cond.initialized y).before a' U = true := word_at hW (Or.inl rfl) h
theorem ch_hb {f' : ch_MI} {own : String} {idx n : Nat} {s : State} {args : Array Value} (h : ch_SV f' own idx n) (hts : ∀ w ∈ ch_good, w.before args s = true) (hR : ch_RR R (ch_fr f' + 1)) :
    (ch_rm f').cells = ch_mc f' ∧ (ch_rm f').slots = 6 * ch_mc f' ∧ (ch_rm f').frames + 1 ≤ R.frames ∧ 8 + (ch_ml f' + 11) + (ch_rm f').locals ≤ R.locals ∧ (∀ w ∈ ch_ws f', ∀ (a' : Array Value) (U : State), s.WarmedH U.vm → w.before a' U = true) := by
  have h5 := h.1.2.2.2.2
  refine ⟨rfl, rfl, hR.1, ?_, pay_in hts (ch_ws_good h.1)⟩
  have := hR.2
  show 8 + (ch_ml f' + 11) + (128 * ch_fr f' + 64) ≤ R.locals
  omega
theorem ch_pre {f' : ch_MI} {as : List ch_V} {s : State} {H : Heap} {m : MethodId} {args : Array Value} {p : Program} {meth : Method} {c : Code} (hF : ch_FR g f p s m args meth c) (hR : ch_Rp g mem H) : ∀ U : State, U.heap = H → s.WarmedH U.vm → ch_PC g as mem (as.map (ch_tr g)).toArray U :=
  fun U hU hW => ⟨rfl, hF.2.2.2.2.2.2.1.warm hW, by rw [hU]; exact hR, by rw [hU]; exact hR.1⟩
/-- a method of an object of the world is called -/
theorem ch_callV {f' : ch_MI} {idx n ci j : Nat} {as : List ch_V} (hd : decode (ch_bc f) pc = .ok (.invokevirtual idx, 3)) (hsv : ch_SV f' (ch_nm f).cls idx n) (hi : Cond.instanceMethod (ch_nm f') ∈ ch_good) (hse : Cond.selects (ch_nm f').cls (ch_nm f') (ch_nm f') ∈ ch_good) (hhh : ch_hh f' = []) (hcl : (ch_cls[ci]?).map (fun r => r.1) = some (ch_nm f').cls)
    (hn : as.length = n) (hRR : ch_RR R (ch_fr f' + 1)) (hcat : (rest.map ch_cat).sum ≤ 8) (hcs : k + ch_mc f' ≤ R.cells ∧ 6 * k + 6 * ch_mc f' ≤ R.slots)
    (h : ch_C g f' (.inr (ci, j, 0) :: as) mem (ch_K g f R E pc ls rest (k + ch_mc f'))) : ch_J g f R E pc ls (as.reverse ++ .inr (ci, j, 0) :: rest) mem k := by
  intro p e s m args below meth c H locs lm hF hR hS ho hs hL
  obtain ⟨hrc, hrs, hfr, hlo, hws⟩ := ch_hb hsv hF.2.2.2.2.2.1 hRR
  have hts := hF.2.2.2.2.2.1
  have hci : ci < 10 := by
    cases hx : ch_cls[ci]? with
    | none => rw [hx] at hcl; cases hcl
    | some r => exact (List.getElem?_eq_some_iff.mp hx).1
  have hso : ∀ v ∈ (.inr (ci, j, 0) :: as : List ch_V), ch_ok g v := by
    intro v hv
    refine hs v ?_
    rcases List.mem_cons.mp hv with e | e
    · rw [e]; exact List.mem_append_right _ List.mem_cons_self
    · exact List.mem_append_left _ (List.mem_reverse.mpr e)
  have hs' : ∀ v ∈ rest, ch_ok g v := fun v hv => hs v (List.mem_append_right _ (List.mem_cons_of_mem _ hv))
  have hin : ch_inx g (ci, j, 0) := ch_ok_in (hso _ List.mem_cons_self) (Or.inl (by show ci ≤ 10; omega))
  obtain ⟨r, hr, cell, c1, c2, c3, -⟩ := hR.2.2.1 _ hin
  have hrn : r.1 = (ch_nm f').cls := by rw [hr] at hcl; exact Option.some.inj hcl
  have hM := h hF.2.2.2.2.2.2.2.2.2.1 hso
  have hcw : ch_cw f' = Cond.code (ch_nm f') (ch_bc f') (ch_ml f') (ch_rt f') := by unfold ch_cw; rw [hhh]
  have hcode := hsv.1.1
  rw [hcw] at hcode
  refine ch_run (vx_runV (As := as.map (ch_tr g)) (C := (ch_nm f').cls) (rm := ch_rm f') (n := n) (bytes := ch_bc f') (maxL := ch_ml f') (ret := ch_rt f') ⟨hF.1, hF.2.1, hF.2.2.2.1, hF.2.2.2.2.1, hts⟩ hM ⟨⟨hrc, hrs, hfr, hlo, hws, by unfold ch_ws; rw [hcw]; exact List.mem_cons_self, hts _ hcode, hts _ hsv.1.2.1, hsv.1.2.2.1, ch_len hsv.2.2, hts _ hsv.2.1⟩, hts _ hi, hts _ hse⟩
    ⟨ch_PC_blind, ⟨cell, c1, by rw [c3]; rfl, by rw [c2, ← hrn]; exact (hF.2.2.2.2.2.2.1.1.1 ci r hr).2.1⟩, ch_pre (f' := f') hF hR⟩ rfl (by rw [List.length_map]; exact hn) hL.1 ?_ (by show 2 * 0 + _ ≤ 8; rw [ch_sum]; omega) hd hcs) hF hS ho hs' hL
  show (as.reverse ++ .inr (ci, j, 0) :: rest).map (ch_tr g) = _
  rw [List.map_append, List.map_reverse, List.map_cons]
  rfl
/-- a static method without handlers is called -/
theorem ch_callS {f' : ch_MI} {idx n : Nat} {as : List ch_V} (hd : decode (ch_bc f) pc = .ok (.invokestatic idx, 3)) (hsv : ch_SV f' (ch_nm f).cls idx n) (hi : Cond.static (ch_nm f') ∈ ch_good) (hhh : ch_hh f' = [])
    (hn : as.length = n) (hRR : ch_RR R (ch_fr f' + 1)) (hcat : (rest.map ch_cat).sum ≤ 8) (hcs : k + ch_mc f' ≤ R.cells ∧ 6 * k + 6 * ch_mc f' ≤ R.slots)
    (h : ch_C g f' as mem (ch_K g f R E pc ls rest (k + ch_mc f'))) : ch_J g f R E pc ls (as.reverse ++ rest) mem k := by
  intro p e s m args below meth c H locs lm hF hR hS ho hs hL
  obtain ⟨hrc, hrs, hfr, hlo, hws⟩ := ch_hb hsv hF.2.2.2.2.2.1 hRR
  have hts := hF.2.2.2.2.2.1
  have hso : ∀ v ∈ as, ch_ok g v := fun v hv => hs v (List.mem_append_left _ (List.mem_reverse.mpr hv))
  have hs' : ∀ v ∈ rest, ch_ok g v := fun v hv => hs v (List.mem_append_right _ hv)
  have hM := h hF.2.2.2.2.2.2.2.2.2.1 hso
  have hcw : ch_cw f' = Cond.code (ch_nm f') (ch_bc f') (ch_ml f') (ch_rt f') := by unfold ch_cw; rw [hhh]
  have hcode := hsv.1.1
  rw [hcw] at hcode
  refine ch_run (vx_runS (As := as.map (ch_tr g)) (rm := ch_rm f') (n := n) (bytes := ch_bc f') (maxL := ch_ml f') (ret := ch_rt f') ⟨hF.1, hF.2.1, hF.2.2.2.1, hF.2.2.2.2.1, hts⟩ hM ⟨⟨hrc, hrs, hfr, hlo, hws, by unfold ch_ws; rw [hcw]; exact List.mem_cons_self, hts _ hcode, hts _ hsv.1.2.1, hsv.1.2.2.1, ch_len hsv.2.2, hts _ hsv.2.1⟩, hts _ hi⟩
    ⟨ch_PC_blind, ch_pre (f' := f') hF hR⟩ rfl (by rw [List.length_map]; exact hn) hL.1 ?_ (by show 2 * 0 + _ ≤ 8; rw [ch_sum]; omega) hd hcs) hF hS ho hs' hL
  show (as.reverse ++ rest).map (ch_tr g) = _
  rw [List.map_append, List.map_reverse]
/-- a static method with handlers is called -/
theorem ch_callSX {f' : ch_MI} {idx n : Nat} {as : List ch_V} {hx : Nat × Nat × Nat × Nat} {hl : List (Nat × Nat × Nat × Nat)} (hd : decode (ch_bc f) pc = .ok (.invokestatic idx, 3)) (hsv : ch_SV f' (ch_nm f).cls idx n) (hi : Cond.static (ch_nm f') ∈ ch_good) (hhh : ch_hh f' = hx :: hl)
    (hn : as.length = n) (hRR : ch_RR R (ch_fr f' + 1)) (hcat : (rest.map ch_cat).sum ≤ 8) (hcs : k + ch_mc f' ≤ R.cells ∧ 6 * k + 6 * ch_mc f' ≤ R.slots)
    (h : ch_C g f' as mem (ch_K g f R E pc ls rest (k + ch_mc f'))) : ch_J g f R E pc ls (as.reverse ++ rest) mem k := by
  intro p e s m args below meth c H locs lm hF hR hS ho hs hL
  obtain ⟨hrc, hrs, hfr, hlo, hws⟩ := ch_hb hsv hF.2.2.2.2.2.1 hRR
  have hts := hF.2.2.2.2.2.1
  have hso : ∀ v ∈ as, ch_ok g v := fun v hv => hs v (List.mem_append_left _ (List.mem_reverse.mpr hv))
  have hs' : ∀ v ∈ rest, ch_ok g v := fun v hv => hs v (List.mem_append_right _ hv)
  have hM := h hF.2.2.2.2.2.2.2.2.2.1 hso
  have hcw : ch_cw f' = Cond.codeWith (ch_nm f') (ch_bc f') (ch_ml f') (ch_rt f') (ch_hh f') := by unfold ch_cw; rw [hhh]
  have hcode := hsv.1.1
  rw [hcw] at hcode
  refine ch_run (vx_runSX (As := as.map (ch_tr g)) (rm := ch_rm f') (n := n) (bytes := ch_bc f') (maxL := ch_ml f') (ret := ch_rt f') (hh := ch_hh f') ⟨hF.1, hF.2.1, hF.2.2.2.1, hF.2.2.2.2.1, hts⟩ hM ⟨⟨hrc, hrs, hfr, hlo, hws, by unfold ch_ws; rw [hcw]; exact List.mem_cons_self⟩, hts _ hcode, hts _ hsv.1.2.1, hsv.1.2.2.1, ch_len hsv.2.2, hts _ hsv.2.1, hts _ hi⟩
    ⟨ch_PC_blind, ch_pre (f' := f') hF hR⟩ rfl (by rw [List.length_map]; exact hn) hL.1 ?_ (by show 2 * 0 + _ ≤ 8; rw [ch_sum]; omega) hd hcs) hF hS ho hs' hL
  show (as.reverse ++ rest).map (ch_tr g) = _
  rw [List.map_append, List.map_reverse]
end CHC
end
section
theorem ch_mono {g : ch_G} {f : ch_MI} {as : List ch_V} {mem : ch_M} {Q Q' : ch_O → ch_M → Prop} (h : ∀ o m, Q o m → Q' o m) (hc : ch_C g f as mem Q) : ch_C g f as mem Q' := by
  intro htr hok p e ha hf hk s m args below hfr happ hP hK
  obtain ⟨n, o, h1, h2, h3, h4⟩ := hc htr hok p e ha hf hk s m args below hfr happ hP hK
  refine ⟨n, o, h1, h2, h3, ?_⟩
  rcases h4 with ⟨⟨v, mem', a1, a2, a3, a4⟩, hL⟩ | ⟨q, a0, E, ce, L, ⟨n', mem', b1, b2, b3, b4, b5⟩, rest⟩
  · exact Or.inl ⟨⟨v, mem', a1, h _ _ a2, a3, a4⟩, hL⟩
  · exact Or.inr ⟨q, a0, E, ce, L, ⟨n', mem', b1, b2, h _ _ b3, b4, b5⟩, rest⟩
theorem ch_Rp_kept {g : ch_G} {mem : ch_M} {H H' : Heap} (hR : ch_Rp g mem H) (hz : H.size ≤ H'.size) (h : ∀ q, q < H.size → H'[q]? = H[q]?) : ch_Rp g mem H' := by
  refine ⟨Nat.le_trans hR.1 hz, fun q hq => ?_, fun a ha => ?_, hR.2.2.2⟩
  · have h1 := hR.2.1 q hq
    have h2 : q < H.size := by
      rw [Array.getElem?_eq_getElem hq.1] at h1
      exact (Array.getElem?_eq_some_iff.mp h1).1
    rw [h q h2]; exact h1
  · exact ch_cell_eq rfl (h _ (ch_cell_lt (hR.2.2.1 a ha))) (hR.2.2.1 a ha)
abbrev ch_nms : List String := ["java/lang/RuntimeException", "java/lang/Exception"]
/-- a class's 'throw new' of the exception n -/
def ch_TW (own : String) (ik ic n : Nat) : Prop := Cond.classLink own ik (ch_xn n) ∈ ch_good ∧ Cond.initialized (ch_xn n) ∈ ch_good ∧ (∀ w ∈ vx_at0 own ic (ch_xn n) ch_nms, w ∈ ch_good ∨ w ∈ ch_oth) ∧ Bundle.fit (ch_xn n) = true
def ch_both (w : Cond) : Bool := (decide (w ∈ lw_tbl) && goodWord w) || (decide (w ∈ tables_1) && ch_isO w)
theorem ch_both_of {ws : List Cond} (h : ws.all ch_both = true) : ∀ w ∈ ws, w ∈ ch_good ∨ w ∈ ch_oth := by
  intro w hw
  have h1 := List.all_eq_true.mp h w hw
  simp only [ch_both, Bool.or_eq_true, Bool.and_eq_true, decide_eq_true_eq] at h1
  rcases h1 with ⟨a, b⟩ | ⟨a, b⟩
  · exact Or.inl (List.mem_filter.mpr ⟨a, b⟩)
  · exact Or.inr (List.mem_filter.mpr ⟨a, b⟩)
section CHE
variable {g : ch_G} {f : ch_MI} {R : Room} {E : ch_En} {Q : ch_O → ch_M → Prop} {pc : Nat} {ls : ch_LT} {rest : List ch_V} {mem : ch_M} {k : Nat}
theorem ch_Rp_old {s : State} {H : Heap} {locs : List Loc} {p : Program} {m : MethodId} {args : Array Value} {meth : Method} {c : Code} (hF : ch_FR g f p s m args meth c) (hR : ch_Rp g mem H) (hS : va_S (ch_A g) s.heap H locs) : ∀ a : Nat, a < (ch_H0 g).size → ¬ ch_A g a → s.heap[a]? = (ch_H0 g)[a]? := by
  intro a ha hA
  have hb : a < ch_lo g := Nat.not_le.mp hA
  have h1 := hF.2.2.2.2.2.2.2.2.2.2.1
  rw [← hS.2.1 a (by omega) hA]
  exact hR.2.1 a ⟨ha, fun b hb2 e => by have := hR.2.2.2.2.1 b hb2; omega⟩
theorem ch_throw {ik ic n : Nat} (d0 : decode (ch_bc f) pc = .ok (.new ik, 3)) (d3 : decode (ch_bc f) (pc + 3) = .ok (.dup, 1)) (d4 : decode (ch_bc f) (pc + 4) = .ok (.invokespecial ic, 3)) (d7 : decode (ch_bc f) (pc + 7) = .ok (.athrow, 1))
    (htw : ch_TW (ch_nm f).cls ik ic n) (hn : n < 6) (hhh : ch_hh f = []) (hfr : 6 ≤ ch_fr f) (hk : k + 1 ≤ ch_mc f) (hcat : (rest.map ch_cat).sum ≤ 8) (hq : Q (.inr n) mem) : ch_J g f (ch_rm f) (ch_E g f Q) pc ls rest mem k := by
  intro p e s m args below meth c H locs lm hF hR hS ho hs hL
  have hts := hF.2.2.2.2.2.1
  have hW := hF.2.2.2.2.2.2.1
  have hall : ∀ w ∈ vx_at0 (ch_nm f).cls ic (ch_xn n) ch_nms, w.before args s = true := fun w hw => (htw.2.2.1 w hw).elim (fun h => hts w h) (fun h => va_Nw.use (ch_oth_on h) (hW.2.1 w h))
  have hgood : ∀ w ∈ Cond.classLink (ch_nm f).cls ik (ch_xn n) :: Cond.initialized (ch_xn n) :: vx_at0 (ch_nm f).cls ic (ch_xn n) ch_nms, vx_ot w = true := by
    have hg : ∀ w, w ∈ ch_good → vx_ot w = true := fun w h => by
      unfold vx_ot
      rw [(List.mem_filter.mp h).2, Bool.or_true]
    intro w hw
    rcases List.mem_cons.mp hw with h | hw
    · rw [h]; exact hg _ htw.1
    rcases List.mem_cons.mp hw with h | hw
    · rw [h]; exact hg _ htw.2.1
    rcases htw.2.2.1 w hw with h | h
    · exact hg _ h
    · unfold vx_ot
      rw [ch_oth_on h, Bool.true_or]
  have hold := ch_Rp_old hF hR hS
  have htab : ∀ x ∈ c.exceptionTable.toList, covers x (pc + 7) = false := by
    intro x hx
    rw [hF.2.2.2.2.2.2.2.2.1, hhh] at hx
    cases hx
  refine vx_throw0 (A := ch_A g) (names := ch_nms) hF.1 hF.2.1 hF.2.2.2.2.2.2.2.2.2.1 hF.2.2.2.2.1 htw.2.2.2 (fun nm hnm => ?_) (hts _ htw.1) (hts _ htw.2.1) hall hgood (hW.2.2.2.1.kept hold) (hW.2.2.2.2.1.kept hold) hS (hL.1.trans hF.2.2.2.1.symm) d0 d3 d4 d7 htab
    (by show 2 + 3 < ch_fr f; omega) (by show _ + (13 * (2 + 1) + 42) ≤ 128 * ch_fr f + 64; rw [ch_sum]; omega) (by show k + 1 ≤ ch_mc f; omega) (by show 6 * k + 6 ≤ 6 * ch_mc f; omega) hF.2.2.2.2.2.2.2.1 (fun t ha hz ho' => ?_) hS.2.2 hk (by omega)
  · rcases List.mem_cons.mp hnm with h | h
    · rw [h]; decide
    · rcases List.mem_cons.mp h with h | h
      · rw [h]; decide
      · cases h
  · refine ⟨n, mem, rfl, hn, hq, ch_Rp_kept hR hz ho', Nat.le_trans hS.1 hz, fun q h1 h2 => ?_⟩
    rw [ho' q (Nat.lt_of_lt_of_le h1 hS.1)]
    exact hS.2.1 q h1 h2
/-- thrown by a callee, not caught here -/
theorem ch_xout {st : List ch_V} {n : Nat} (hhh : ch_hh f = []) (hk : k ≤ ch_mc f) (hq : Q (.inr n) mem) : ch_X g f (ch_rm f) (ch_E g f Q) pc ls st n mem k := by
  intro p e s m args below meth c H locs lm q ce hF hR hS ho hL hn hce hcv hcl
  refine vx_out (fun x hx => ?_) hF.2.2.2.2.2.2.2.1 hce hcv hcl (fun t ht ha => ⟨n, mem, rfl, hn, hq, by rw [ht]; exact hR, hS.F ht⟩) hS.2.2 hk (by omega)
  rw [hF.2.2.2.2.2.2.2.2.1, hhh] at hx
  cases hx
/-- thrown by a callee, caught here, and laid aside -/
theorem ch_caught {st : List ch_V} {n i : Nat} {ls' : ch_LT} (pre : List (Nat × Nat × Nat × Nat)) (x : Nat × Nat × Nat × Nat) (suf : List (Nat × Nat × Nat × Nat)) (hsp : ch_hh f = pre ++ x :: suf)
    (hpass : ∀ z ∈ pre, z.2.2.2 ≠ 0 ∧ ∃ i, i < 6 ∧ n ≠ i ∧ Cond.classLink (ch_nm f).cls z.2.2.2 (ch_xn i) ∈ ch_good) (hx : x.1 ≤ pc ∧ pc < x.2.1) (h0 : x.2.2.2 ≠ 0) (hlink : Cond.classLink (ch_nm f).cls x.2.2.2 (ch_xn n) ∈ ch_good) (hcast : Cond.castable (ch_xn n) (ch_xn n) ∈ ch_oth)
    (hd : decode (ch_bc f) x.2.2.1 = .ok (.astore i, 2) ∧ ch_J g f R E (x.2.2.1 + 2) ls' [] mem k ∨ (∃ z : Fin 4, (z : Nat) = i ∧ decode (ch_bc f) x.2.2.1 = .ok (.astore_n z, 1)) ∧ ch_J g f R E (x.2.2.1 + 1) ls' [] mem k) (hi : i < ch_ml f) (hl : (ch_kill ls i).set i none = ls') : ch_X g f R E pc ls st n mem k := by
  subst hl
  intro p e s m args below meth c H locs lm q ce hF hR hS ho hL hn hce hcv hcl
  have hts := hF.2.2.2.2.2.1
  have hW := hF.2.2.2.2.2.2.1
  have fin : ∀ (lm' : Array Slot), lv_has lm' (ch_ml f) ((i, .ref q) :: (ch_prs g ls).filter (fun q => !(q.1 == i) && !(q.1 + 1 == i && q.2.category == 2))) → ch_LR g (ch_ml f) ((ch_kill ls i).set i none) lm' := by
    intro lm' h
    refine ⟨h.1, h.2.1, fun j w hj => ?_⟩
    by_cases e : i = j
    · subst e
      have hl := (List.getElem?_eq_some_iff.mp hj).1
      rw [List.length_set] at hl
      rw [List.getElem?_set_self hl] at hj
      cases hj
    · rw [List.getElem?_set_ne e] at hj
      obtain ⟨h1, h2⟩ := ch_kill_at hj
      refine h.2.2 (j, ch_tr g w) (List.mem_cons_of_mem _ (List.mem_filter.mpr ⟨ch_prs_mem h1, ?_⟩))
      simp only [Bool.and_eq_true, Bool.not_eq_true', beq_eq_false_iff_ne, ne_eq, Bool.and_eq_false_iff]
      refine ⟨fun q => e q.symm, ?_⟩
      by_cases q : j + 1 = i
      · exact Or.inr (by rw [ch_cat_tr, h2 q]; decide)
      · exact Or.inl q
  have ok' : ∀ o ∈ (ch_kill ls i).set i none, ∀ v, o = some v → ch_ok g v := by
    intro o ho' v hv
    rcases List.mem_or_eq_of_mem_set ho' with h1 | h1
    · exact ch_kill_ok ho o h1 v hv
    · rw [h1] at hv
      cases hv
  refine vx_catch (own := (ch_nm f).cls) (name := ch_xn n) (E := ch_xn n) hF.2.2.2.2.1 (tableOf pre) ⟨x.1, x.2.1, x.2.2.1, x.2.2.2⟩ (tableOf suf) ?_ ?_ ?_ h0 (hts _ hlink) (va_Nw.use rfl (hW.2.1 _ hcast)) hce hcv hcl ?_
  · rw [hF.2.2.2.2.2.2.2.2.1, hsp]
    unfold tableOf
    rw [List.map_append, List.map_cons]
  · intro z hz
    obtain ⟨y, hy, rfl⟩ := List.mem_map.mp hz
    obtain ⟨hz0, i9, hi9, hne, hlk⟩ := hpass y hy
    exact Or.inr ⟨hz0, ch_xn i9, hts _ hlk, hW.2.2.1 n i9 hn hi9 hne⟩
  · simp only [covers, Bool.and_eq_true, decide_eq_true_eq]
    exact hx
  · rcases hd with ⟨hd, kk⟩ | ⟨⟨z, hz, hd⟩, kk⟩
    · exact lv_astore hF.1 hF.2.1 hd (ch_prs_has hL) hi rfl (fun lm' hL' => kk p e s m args below meth c H locs lm' hF hR hS ok' (fun v hv => by cases hv) (fin lm' hL'))
    · exact lv_astore_n hF.1 hF.2.1 hd hz (ch_prs_has hL) hi rfl (fun lm' hL' => kk p e s m args below meth c H locs lm' hF hR hS ok' (fun v hv => by cases hv) (fin lm' hL'))
theorem ch_Qret {s : State} {H : Heap} {locs : List Loc} {v : Option ch_V} (hR : ch_Rp g mem H) (hS : va_S (ch_A g) s.heap H locs) (hq : Q (.inl v) mem) : ∀ t : State, t.heap = H → s.WarmedH t.vm → ∀ a : Array Value, ch_Qc g Q a s (.returned (v.map (ch_tr g))) t :=
  fun t ht _ a => ⟨v, mem, rfl, hq, by rw [ht]; exact hR, hS.F ht⟩
theorem ch_iret {x : Int32} {ty : FieldType} (hd : decode (ch_bc f) pc = .ok (.ireturn, 1)) (hr : ch_rt f = some ty) (hn : narrow ty (.int x) = .int x) (hk : k ≤ ch_mc f) (hq : Q (.inl (some (.inl (.int x)))) mem) : ch_J g f (ch_rm f) (ch_E g f Q) pc ls [.inl (.int x)] mem k :=
  fun p e s m args below meth c H locs lm hF hR hS ho hs hL => vx_ret (W.widen hk (by omega) (W.zret hF.1 hF.2.1 (hF.2.2.1.trans hr) hn (fun t ht hw => ch_Qret hR hS hq t ht hw args) hS.2.2 hd hF.2.2.2.2.2.2.2.1))
theorem ch_fret {x : UInt32} (hd : decode (ch_bc f) pc = .ok (.freturn, 1)) (hr : ch_rt f = some .float) (hk : k ≤ ch_mc f) (hq : Q (.inl (some (.inl (.float x)))) mem) : ch_J g f (ch_rm f) (ch_E g f Q) pc ls [.inl (.float x)] mem k :=
  fun p e s m args below meth c H locs lm hF hR hS ho hs hL => vx_ret (W.widen hk (by omega) (W.fret hF.1 hF.2.1 (hF.2.2.1.trans hr) (fun t ht hw => ch_Qret hR hS hq t ht hw args) hS.2.2 hd hF.2.2.2.2.2.2.2.1))
theorem ch_dret {x : UInt64} (hd : decode (ch_bc f) pc = .ok (.dreturn, 1)) (hr : ch_rt f = some .double) (hk : k ≤ ch_mc f) (hq : Q (.inl (some (.inl (.double x)))) mem) : ch_J g f (ch_rm f) (ch_E g f Q) pc ls [.inl (.double x)] mem k :=
  fun p e s m args below meth c H locs lm hF hR hS ho hs hL => vx_ret (W.widen hk (by omega) (W.dret hF.1 hF.2.1 (hF.2.2.1.trans hr) (fun t ht hw => ch_Qret hR hS hq t ht hw args) hS.2.2 hd hF.2.2.2.2.2.2.2.1))
theorem ch_lret {x : Int64} (hd : decode (ch_bc f) pc = .ok (.lreturn, 1)) (hr : ch_rt f = some .long) (hk : k ≤ ch_mc f) (hq : Q (.inl (some (.inl (.long x)))) mem) : ch_J g f (ch_rm f) (ch_E g f Q) pc ls [.inl (.long x)] mem k :=
  fun p e s m args below meth c H locs lm hF hR hS ho hs hL => vx_ret (W.widen hk (by omega) (W.lret hF.1 hF.2.1 (hF.2.2.1.trans hr) (fun t ht hw => ch_Qret hR hS hq t ht hw args) hS.2.2 hd hF.2.2.2.2.2.2.2.1))
theorem ch_aret {a : ch_Ad} {rt : FieldType} (hd : decode (ch_bc f) pc = .ok (.areturn, 1)) (hr : ch_rt f = some rt) (hrt : (∃ n, rt = .object n) ∨ ∃ t, rt = .array t) (hk : k ≤ ch_mc f) (hq : Q (.inl (some (.inr a))) mem) : ch_J g f (ch_rm f) (ch_E g f Q) pc ls [.inr a] mem k :=
  fun p e s m args below meth c H locs lm hF hR hS ho hs hL => vx_ret (W.widen hk (by omega) (W.aret hF.1 hF.2.1 (hF.2.2.1.trans hr) hrt (Or.inr ⟨_, rfl⟩) (fun t ht hw => ch_Qret hR hS hq t ht hw args) hS.2.2 hd hF.2.2.2.2.2.2.2.1))
theorem ch_vret (hd : decode (ch_bc f) pc = .ok (.return_, 1)) (hr : ch_rt f = none) (hk : k ≤ ch_mc f) (hq : Q (.inl none) mem) : ch_J g f (ch_rm f) (ch_E g f Q) pc ls [] mem k :=
  fun p e s m args below meth c H locs lm hF hR hS ho hs hL => vx_ret (W.widen hk (by omega) (W.vret hF.1 hF.2.1 (hF.2.2.1.trans hr) (fun t ht hw => ch_Qret hR hS hq t ht hw args) hS.2.2 hd hF.2.2.2.2.2.2.2.1))
/-- the ways a call goes on -/
theorem ch_Ki {q : Int32 → ch_M → Prop} (h : ∀ r m, q r m → ch_J g f R E (pc + 3) ls (.inl (.int r) :: rest) m k) : ∀ o m, ch_oi q o m → ch_K g f R E pc ls rest k o m := by
  rintro o m ⟨r, rfl, hq⟩
  refine ⟨fun v hv => ?_, fun hv => by simp at hv, fun n hv => by cases hv⟩
  cases hv
  exact ⟨ch_okl, h r m hq⟩
theorem ch_Kf {q : UInt32 → ch_M → Prop} (h : ∀ r m, q r m → ch_J g f R E (pc + 3) ls (.inl (.float r) :: rest) m k) : ∀ o m, ch_of q o m → ch_K g f R E pc ls rest k o m := by
  rintro o m ⟨r, rfl, hq⟩
  refine ⟨fun v hv => ?_, fun hv => by simp at hv, fun n hv => by cases hv⟩
  cases hv
  exact ⟨ch_okl, h r m hq⟩
theorem ch_Kd {q : UInt64 → ch_M → Prop} (h : ∀ r m, q r m → ch_J g f R E (pc + 3) ls (.inl (.double r) :: rest) m k) : ∀ o m, ch_od q o m → ch_K g f R E pc ls rest k o m := by
  rintro o m ⟨r, rfl, hq⟩
  refine ⟨fun v hv => ?_, fun hv => by simp at hv, fun n hv => by cases hv⟩
  cases hv
  exact ⟨ch_okl, h r m hq⟩
theorem ch_Kl {q : Int64 → ch_M → Prop} (h : ∀ r m, q r m → ch_J g f R E (pc + 3) ls (.inl (.long r) :: rest) m k) : ∀ o m, ch_ol q o m → ch_K g f R E pc ls rest k o m := by
  rintro o m ⟨r, rfl, hq⟩
  refine ⟨fun v hv => ?_, fun hv => by simp at hv, fun n hv => by cases hv⟩
  cases hv
  exact ⟨ch_okl, h r m hq⟩
theorem ch_Ka {q : ch_Ad → ch_M → Prop} (h : ∀ r m, q r m → ch_ok g (.inr r) ∧ ch_J g f R E (pc + 3) ls (.inr r :: rest) m k) : ∀ o m, ch_oa q o m → ch_K g f R E pc ls rest k o m := by
  rintro o m ⟨r, rfl, hq⟩
  refine ⟨fun v hv => ?_, fun hv => by simp at hv, fun n hv => by cases hv⟩
  cases hv
  exact h r m hq
theorem ch_Kv {q : ch_M → Prop} (h : ∀ m, q m → ch_J g f R E (pc + 3) ls rest m k) : ∀ o m, ch_ov q o m → ch_K g f R E pc ls rest k o m := by
  rintro o m ⟨rfl, hq⟩
  exact ⟨fun v hv => by simp at hv, fun _ => h m hq, fun n hv => by cases hv⟩
theorem ch_Kx {q : ch_O → ch_M → Prop} {x : Nat → ch_M → Prop} (h : ∀ o m, q o m → ch_K g f R E pc ls rest k o m) (hx : ∀ n m, n < 6 → x n m → ch_X g f R E pc ls rest n m k) : ∀ o m, ch_ox q x o m → ch_K g f R E pc ls rest k o m := by
  rintro o m (hq | ⟨n, rfl, hn, hq⟩)
  · exact h o m hq
  · exact ⟨fun v hv => (by cases hv), fun hv => (by cases hv), fun n' hv => (by cases hv; exact hx n m hn hq)⟩
/-- Math.max, Math.min -/
def ch_MM (own : String) (idx : Nat) (y : MethodName) (bc : ByteArray) : Prop := Cond.methodLink own idx y ∈ ch_good ∧ Cond.static y ∈ ch_good ∧ Cond.initialized "java/lang/Math" ∈ ch_good ∧ Cond.code y bc 2 (some .int) ∈ ch_good
theorem ch_max {x y : Int32} {idx : Nat} (hd : decode (ch_bc f) pc = .ok (.invokestatic idx, 3)) (hm : ch_MM (ch_nm f).cls idx Lib.Math.max.name Lib.Math.max.code) (hRR : ch_RR R 1) (hcs : k ≤ R.cells ∧ 6 * k ≤ R.slots) (hcat : (rest.map ch_cat).sum ≤ 8) (kk : ch_J g f R E (pc + 3) ls (.inl (.int (if x < y then y else x)) :: rest) mem k) : ch_J g f R E pc ls (.inl (.int y) :: .inl (.int x) :: rest) mem k :=
  ch_go (fun _ _ _ _ _ _ _ _ _ _ _ _ hF _ _ ho hs hL q => va_mmax hF.1 hF.2.1 (hF.2.2.2.1.trans hL.1.symm) hF.2.2.2.2.1 (hF.2.2.2.2.2.1 _ hm.1) (hF.2.2.2.2.2.1 _ hm.2.1) (hF.2.2.2.2.2.1 _ hm.2.2.1) (hF.2.2.2.2.2.1 _ hm.2.2.2) hRR.1 (by have := hRR.2; rw [ch_sum]; omega) hcs.1 hcs.2 hd (q (ch_ok1 (ch_ok0 (ch_ok0 hs))))) kk
theorem ch_min {x y : Int32} {idx : Nat} (hd : decode (ch_bc f) pc = .ok (.invokestatic idx, 3)) (hm : ch_MM (ch_nm f).cls idx Lib.Math.min.name Lib.Math.min.code) (hRR : ch_RR R 1) (hcs : k ≤ R.cells ∧ 6 * k ≤ R.slots) (hcat : (rest.map ch_cat).sum ≤ 8) (kk : ch_J g f R E (pc + 3) ls (.inl (.int (if y < x then y else x)) :: rest) mem k) : ch_J g f R E pc ls (.inl (.int y) :: .inl (.int x) :: rest) mem k :=
  ch_go (fun _ _ _ _ _ _ _ _ _ _ _ _ hF _ _ ho hs hL q => va_mmin hF.1 hF.2.1 (hF.2.2.2.1.trans hL.1.symm) hF.2.2.2.2.1 (hF.2.2.2.2.2.1 _ hm.1) (hF.2.2.2.2.2.1 _ hm.2.1) (hF.2.2.2.2.2.1 _ hm.2.2.1) (hF.2.2.2.2.2.1 _ hm.2.2.2) hRR.1 (by have := hRR.2; rw [ch_sum]; omega) hcs.1 hcs.2 hd (q (ch_ok1 (ch_ok0 (ch_ok0 hs))))) kk
end CHE
end
section
def ch_cpy (mem : ch_M) (src dst : ch_Ad) (sp dp n : Nat) : ch_M := fun b i => if b = dst then va_cpy (mem src) (mem dst) sp dp n i else mem b i
/-- System.arraycopy -/
def ch_AC (own : String) (idx : Nat) : Prop := Cond.methodLink own idx arraycopyName ∈ ch_good ∧ Cond.native arraycopyName ∈ ch_good ∧ Cond.static arraycopyName ∈ ch_good ∧ Cond.initialized "java/lang/System" ∈ ch_good
section CHY
variable {g : ch_G} {f : ch_MI} {R : Room} {E : ch_En} {pc : Nat} {ls : ch_LT} {rest : List ch_V} {mem : ch_M} {k : Nat}
theorem ch_copy {idx c1 j1 p1 n1 c2 j2 p2 n2 : Nat} {sp dp n : Int32} (hd : decode (ch_bc f) pc = .ok (.invokestatic idx, 3)) (hm : ch_AC (ch_nm f).cls idx) (hc1 : c1 ≤ 10 ∨ c1 = 14) (hc2 : c2 ≤ 10 ∨ c2 = 14) (hk1 : ch_ak c1 (p1 + 1) = (0, n1)) (hk2 : ch_ak c2 (p2 + 1) = (0, n2)) (hRR : ch_RR R 1) (hcat : (rest.map ch_cat).sum ≤ 8)
    (h1 : ¬ sp < 0) (h2 : ¬ dp < 0) (h3 : ¬ n < 0) (h4 : sp.toNatClampNeg + n.toNatClampNeg ≤ n1) (h5 : dp.toNatClampNeg + n.toNatClampNeg ≤ n2)
    (kk : ch_J g f R E (pc + 3) ls rest (ch_cpy mem (c1, j1, p1 + 1) (c2, j2, p2 + 1) sp.toNatClampNeg dp.toNatClampNeg n.toNatClampNeg) k) : ch_J g f R E pc ls (.inl (.int n) :: .inl (.int dp) :: .inr (c2, j2, p2 + 1) :: .inl (.int sp) :: .inr (c1, j1, p1 + 1) :: rest) mem k := by
  intro p e s m args below meth c H locs lm hF hR hS ho hs hL
  obtain ⟨hin1, hca⟩ := ch_arr hR (ch_okh (ch_ok0 (ch_ok0 (ch_ok0 (ch_ok0 hs))))) hc1
  obtain ⟨hin2, hcb⟩ := ch_arr hR (ch_okh (ch_ok0 (ch_ok0 hs))) hc2
  rw [hk1] at hca
  rw [hk2] at hcb
  have hcat' : ((rest.map (ch_tr g)).map fun v => v.category).sum ≤ 8 := by rw [ch_sum]; exact hcat
  have hA := ch_arrK hF.2.2.2.2.2.2.1 (t := 0) (by decide)
  have nn : ∀ z : Int32, ¬ z < 0 → z.toInt = (z.toNatClampNeg : Int) := by
    intro z hz
    have hz0 : (0 : Int) ≤ z.toInt := by
      have := Int32.not_lt.mp hz
      simpa using Int32.le_iff_toInt_le.mp this
    show z.toInt = ((z.toInt.toNat : Nat) : Int)
    omega
  have hts := hF.2.2.2.2.2.1
  have hfit : ∀ i, fits .int (.int (mem (c1, j1, p1 + 1) i)) = true := fun i => rfl
  intro T hT X
  have hc0 : H[ch_adr g (c1, j1, p1 + 1)]? = some (vp_cell (ch_cA g 0) (n1, .inl (mem (c1, j1, p1 + 1)))) := hca
  have hc9 : H[ch_adr g (c2, j2, p2 + 1)]? = some (vp_cell (ch_cA g 0) (n2, .inl (mem (c2, j2, p2 + 1)))) := hcb
  obtain ⟨-, k0, hk0, cm0, hkk0⟩ := hA n1 (fun i => .int (mem (c1, j1, p1 + 1) i))
  obtain ⟨-, k1, hk1', cm1, hkk1⟩ := hA n2 (fun i => .int (mem (c2, j2, p2 + 1) i))
  obtain ⟨vm', X', step⟩ := X.arraycopy hF.1 hF.2.2.2.2.1 (hts _ hm.1) (hts _ hm.2.1) (hts _ hm.2.2.1) (hts _ hm.2.2.2) (src := ch_adr g (c1, j1, p1 + 1)) (dst := ch_adr g (c2, j2, p2 + 1)) (cs := vp_cell (ch_cA g 0) (n1, .inl (mem (c1, j1, p1 + 1)))) (cd := vp_cell (ch_cA g 0) (n2, .inl (mem (c2, j2, p2 + 1)))) (srcPos := sp) (destPos := dp) (n := n) (by rw [hT]; exact hc0) (by rw [hT]; exact hc9)
    (fun _ h => by cases h) (fun _ h => by cases h) (fun h => by cases h) (fun h => by cases h) hk0 hk1' hkk0 hkk1 (by rfl) h1 h2 h3
    (by rw [nn sp h1, nn n h3]; show ¬ _ > ((arrV _ n1 _).slots.size : Int); rw [arrV_size]; omega)
    (by rw [nn dp h2, nn n h3]; show ¬ _ > ((arrV _ n2 _).slots.size : Int); rw [arrV_size]; omega)
    (fun vm₁ _ i hi => by
      have e9 : (vp_cell (ch_cA g 0) (n1, .inl (mem (c1, j1, p1 + 1)))).slots.getD (sp.toNatClampNeg + i) .null = .int (mem (c1, j1, p1 + 1) (sp.toNatClampNeg + i)) := by
        show (arrV (ch_cA g 0) n1 (fun i => .int (mem (c1, j1, p1 + 1) i))).slots.getD _ _ = _
        rw [Array.getD_eq_getD_getElem?, arrV_read _ _ (by omega)]
        rfl
      refine ⟨?_, ?_⟩
      · rw [e9]
        exact hfit _
      · rw [e9]
        exact trivial)
    (g := F0 m pc lm ((.inl (.int n) :: .inl (.int dp) :: .inr (c2, j2, p2 + 1) :: .inl (.int sp) :: .inr (c1, j1, p1 + 1) :: rest : List ch_V).map (ch_tr g))) rfl (hL.1.trans hF.2.2.2.1.symm) (rest := rest.map (ch_tr g)) rfl (by rw [hF.2.1]; exact hd) hRR.1
    (by have := hRR.2; have hw : nativeFrameWords "java/lang/System" "arraycopy" 5 ≤ 100 := by decide +kernel
        show 2 * 0 + _ + _ ≤ _; omega)
  have e1 : copied (vp_cell (ch_cA g 0) (n1, .inl (mem (c1, j1, p1 + 1)))) (vp_cell (ch_cA g 0) (n2, .inl (mem (c2, j2, p2 + 1)))) sp dp n = vp_cell (ch_cA g 0) (n2, .inl (va_cpy (mem (c1, j1, p1 + 1)) (mem (c2, j2, p2 + 1)) sp.toNatClampNeg dp.toNatClampNeg n.toNatClampNeg)) := va_copied (fun z => .int z) _ _ _ _ h4
  rw [e1] at X' step
  have hl : ch_adr g (c2, j2, p2 + 1) < H.size := (Array.getElem?_eq_some_iff.mp hc9).1
  generalize hcell : vp_cell (ch_cA g 0) (n2, .inl (va_cpy (mem (c1, j1, p1 + 1)) (mem (c2, j2, p2 + 1)) sp.toNatClampNeg dp.toNatClampNeg n.toNatClampNeg)) = cell at X' step
  have hheap : ((T.setVm vm').setCell (ch_adr g (c2, j2, p2 + 1)) cell).heap = H.setIfInBounds (ch_adr g (c2, j2, p2 + 1)) cell := by rw [← hT]; rfl
  have oq : ∀ q : Nat, q ≠ ch_adr g (c2, j2, p2 + 1) → (H.setIfInBounds (ch_adr g (c2, j2, p2 + 1)) cell)[q]? = H[q]? := fun q hq => by simp [Array.getElem?_setIfInBounds, Ne.symm hq]
  have hRp' : ch_Rp g (ch_cpy mem (c1, j1, p1 + 1) (c2, j2, p2 + 1) sp.toNatClampNeg dp.toNatClampNeg n.toNatClampNeg) (H.setIfInBounds (ch_adr g (c2, j2, p2 + 1)) cell) := by
    refine ch_Rp_upd hR hin2 (by simp) oq ?_ (fun b hb => ?_)
    · show (H.setIfInBounds _ cell)[ch_adr g (c2, j2, p2 + 1)]? = _
      rw [hk2]
      have : (H.setIfInBounds (ch_adr g (c2, j2, p2 + 1)) cell)[ch_adr g (c2, j2, p2 + 1)]? = some cell := by simp [Array.getElem?_setIfInBounds, hl]
      rw [this, ← hcell]
      show some (vp_cell _ _) = some (arrV (ch_cA g 0) n2 (fun i => ch_ev g (ch_cpy mem (c1, j1, p1 + 1) (c2, j2, p2 + 1) sp.toNatClampNeg dp.toNatClampNeg n.toNatClampNeg) (c2, j2, p2 + 1) 0 i))
      rw [vp_cell_i]
      congr 2
      funext i
      show Value.int _ = Value.int (ch_cpy _ _ _ _ _ _ _ i)
      unfold ch_cpy
      rw [if_pos rfl]
    · funext i
      unfold ch_cpy
      rw [if_neg hb]
  have hS' : ∀ L : List Loc, (∀ z ∈ L, z.base = ch_adr g (c2, j2, p2 + 1)) → va_S (ch_A g) s.heap (H.setIfInBounds (ch_adr g (c2, j2, p2 + 1)) cell) (locs ++ L) := by
    intro L hLo
    refine ⟨by simp; exact hS.1, fun q g1 g2 => ?_, fun q hq => ?_⟩
    · rw [oq q (fun e => g2 (by rw [e]; exact ch_adr_A hR hin2))]
      exact hS.2.1 q g1 g2
    · rcases List.mem_append.mp hq with h | h
      · exact hS.2.2 q h
      · rw [hLo q h]
        exact ch_adr_A hR hin2
  obtain ⟨t, a1, b1⟩ := kk p e s m args below meth c _ _ lm hF hRp' (hS' _ (fun z hz => by obtain ⟨y, -, hy⟩ := List.mem_map.mp hz; rw [← hy])) ho (ch_ok0 (ch_ok0 (ch_ok0 (ch_ok0 (ch_ok0 hs))))) hL _ hheap X'
  exact ⟨t, step t a1, b1⟩
end CHY
end
section
theorem ch_lswD {d k : Int} : ∀ {ps : List (Int × Int)}, (∀ q ∈ ps, k ≠ q.1) → Op.lookupswitch.offset ps d k = d
  | [], _ => rfl
  | (a, o) :: r, h => by
    rw [Op.lookupswitch.offset_cons, if_neg (fun q => h (a, o) List.mem_cons_self q.symm)]
    exact ch_lswD (fun q hq => h q (List.mem_cons_of_mem _ hq))
theorem ch_hR {R : Room} {d n : Nat} (h : ch_RR R n) (hd : d ≤ n) : ch_RR R d := ⟨Nat.le_trans hd h.1, Nat.le_trans (by omega) h.2⟩
end
section
theorem ch_ldcWS {p : Program} {l : Launch} {e : Env} {R : Room} {s : State} {m : MethodId} {args : Array Value} {below : List Frame} {meth : Method} {c : Code} {T : State} {locs : List Loc} {cells slots : Nat}
    (X : Stand p l e R s m args below meth c T locs cells slots) (hexec : p.tables.exec = Jvm.exec) {own text : String} {index : Nat} {a : Addr} (hown : s.vm.findClass own = some m.cls)
    (hconst : (Cond.stringRef own index text).before args s = true) (hev : (Term.string own index).eval args s none [] s = some (.ref a)) {g : JFrame} (hg : g.method = m) (hdg : decode c.code g.pc = .ok (.ldc_w index, 3)) :
    ∀ target, Steps p.tables e below (T.setTop { g with pc := g.pc + 3, stack := .ref a :: g.stack }) target → Steps p.tables e below (T.setTop g) target := by
  obtain ⟨k, cf, i, a', hk, hcf, hcp, -, hr, hev'⟩ := Cond.stringRef_spec hown hconst
  cases hev.symm.trans hev'
  obtain ⟨k', hk', he⟩ := X.warmed.alike.2.2 _ _ hk
  have hr' : k'.resolved[index]? = some (some (.string a)) := by
    rcases X.warmed.entry hk hk' index with h | ⟨h, -⟩
    · rw [h]; exact hr
    · rw [hr] at h; cases h
  intro target hrest
  subst hg
  jvm_step X.here [hexec, hdg, ldc_w.wp_string (e := e) (s := T) (f := g) X.here.top hk' (by rw [he]; exact hcf) hcp hr']
  exact hrest
section CHT
variable {g : ch_G} {f : ch_MI} {R : Room} {E : ch_En} {pc : Nat} {ls : ch_LT} {rest : List ch_V} {mem : ch_M} {k : Nat}
theorem ch_okS {i : Nat} (h : i < (ch_tx g).length) : ch_ok g (.inr (12, i, 0)) := fun a e => by cases e; exact Or.inr (Or.inr (Or.inl ⟨i, h, Or.inl rfl⟩))
theorem ch_okB {i : Nat} (h : i < (ch_tx g).length) : ch_ok g (.inr (13, i, 0)) := fun a e => by cases e; exact Or.inr (Or.inr (Or.inl ⟨i, h, Or.inr rfl⟩))
theorem ch_okD {i : Nat} (h : i < 2) : ch_ok g (.inr (15, i, 0)) := fun a e => by cases e; exact Or.inr (Or.inr (Or.inr ⟨i, h, rfl⟩))
theorem ch_okT {i : Nat} (h : ch_ok g (.inr (12, i, 0))) (hw : ch_gw g) : i < (ch_tx g).length := by
  rcases h _ rfl with (h | h) | h | ⟨j, hj, h | h⟩ | ⟨j, hj, h⟩
  · exact absurd (show 12 ≤ 8 from h.1) (by decide)
  · rcases hw.2.2.2 _ h with e | e
    · exact absurd (show 12 = 9 from e) (by decide)
    · exact absurd (show 12 = 14 from e) (by decide)
  · cases h
  · cases h; exact hj
  · cases h
  · cases h
theorem ch_okT2 {i : Nat} (h : ch_ok g (.inr (13, i, 0))) (hw : ch_gw g) : i < (ch_tx g).length := by
  rcases h _ rfl with (h | h) | h | ⟨j, hj, h | h⟩ | ⟨j, hj, h⟩
  · exact absurd (show 13 ≤ 8 from h.1) (by decide)
  · rcases hw.2.2.2 _ h with e | e
    · exact absurd (show 13 = 9 from e) (by decide)
    · exact absurd (show 13 = 14 from e) (by decide)
  · cases h
  · cases h
  · cases h; exact hj
  · cases h
theorem ch_okT3 {i : Nat} (h : ch_ok g (.inr (15, i, 0))) (hw : ch_gw g) : i < 2 := by
  rcases h _ rfl with (h | h) | h | ⟨j, hj, h | h⟩ | ⟨j, hj, h⟩
  · exact absurd (show 15 ≤ 8 from h.1) (by decide)
  · rcases hw.2.2.2 _ h with e | e
    · exact absurd (show 15 = 9 from e) (by decide)
    · exact absurd (show 15 = 14 from e) (by decide)
  · cases h
  · cases h
  · cases h
  · cases h; exact hj
theorem ch_fixed {H : Heap} (hR : ch_Rp g mem H) : ∀ a : Nat, a < (ch_H0 g).size → ¬ (fun q => ¬ ch_fx g q) a → H[a]? = (ch_H0 g)[a]? := fun a _ h => hR.2.1 a (Classical.not_not.mp h)
theorem ch_SWF {s : State} {p : Program} {m : MethodId} {args : Array Value} {meth : Method} {c : Code} (hF : ch_FR g f p s m args meth c) : ch_SW g s := hF.2.2.2.2.2.2.1.2.2.2.2.2.2.2.2.1
theorem ch_tlen {i : Nat} (h : i < (ch_tx g).length) : ((ch_tx g).map List.length).getD i 0 = ch_tn g i := by
  unfold ch_tn
  simp [List.getD_eq_getElem?_getD, List.getElem?_map, List.getElem?_eq_getElem h]
theorem ch_zgets {H : Heap} {C n d own ref : String} {v : Value} {index : Nat} {p : Program} {e : Env} {s : State} {m : MethodId} {args : Array Value} {below : List Frame} {meth : Method} {c : Code} {locs : List Loc} {lm : Array Slot} {cells slots : Nat} {Q : State → Prop} {st : List Value} {A : Nat → Prop}
    (hexec : p.tables.exec = Jvm.exec) (hb : c.code = ch_bc f) (hZ : va_Z C n d v A s H) (hown : s.vm.findClass own = some m.cls) (hlink : (Cond.fieldLink own index ref n d).before args s = true) (hsame : ∀ x, s.fieldFound? C n d = some x → s.fieldFound? ref n d = some x) (hd : decode (ch_bc f) pc = .ok (.getstatic index, 3))
    (kk : W p (ch_l g) e R s m args below meth c H locs cells slots Q (F0 m (pc + 3) lm (v :: st))) : W p (ch_l g) e R s m args below meth c H locs cells slots Q (F0 m pc lm st) := by
  obtain ⟨cf, kf, fi, f, a, cell, h1, h2, h3, h4, h5, h6, h7, h8⟩ := hZ
  exact W.gets hexec hb hown hlink (hsame _ h1) h2 h3 h4 h5 (fun e => by rw [e] at h6; cases h6) h7 rfl hd kk
theorem ch_ldcS {idx i : Nat} {t : String} {bs : List Int32} (hd : decode (ch_bc f) pc = .ok (.ldc idx, 2)) (ho : (ch_nm f).cls = "ChalkWarrantsLaw") (hi : ch_lit6[i]? = some (t, bs, idx)) (kk : ch_J g f R E (pc + 2) ls (.inr (12, i, 0) :: rest) mem k) : ch_J g f R E pc ls rest mem k := by
  refine ch_go (fun p e s m args below meth c H locs lm Q hF hR hS ho' hs hL q => ?_) kk
  have hsw := ch_SWF hF
  have hlt : i < (ch_tx g).length := by
    obtain ⟨more, hm⟩ := hsw.1.1
    rw [hm, List.length_append, List.length_map]
    have := (List.getElem?_eq_some_iff.mp hi).1
    omega
  exact va_ldcS hF.1 hF.2.1 (by rw [← ho]; exact hF.2.2.2.2.1) (hsw.1.2 i _ hi) hd (q (ch_ok2 (ch_okS hlt) hs))
theorem ch_ldcS_w {idx i : Nat} {t : String} {bs : List Int32} (hd : decode (ch_bc f) pc = .ok (.ldc_w idx, 3)) (ho : (ch_nm f).cls = "ChalkWarrantsLaw") (hi : ch_lit6[i]? = some (t, bs, idx)) (kk : ch_J g f R E (pc + 3) ls (.inr (12, i, 0) :: rest) mem k) : ch_J g f R E pc ls rest mem k := by
  refine ch_go (fun p e s m args below meth c H locs lm Q hF hR hS ho' hs hL q => ?_) kk
  have hsw := ch_SWF hF
  have hlt : i < (ch_tx g).length := by
    obtain ⟨more, hm⟩ := hsw.1.1
    rw [hm, List.length_append, List.length_map]
    have := (List.getElem?_eq_some_iff.mp hi).1
    omega
  have hZ := hsw.1.2 i _ hi
  have hown : s.vm.findClass "ChalkWarrantsLaw" = some m.cls := by rw [← ho]; exact hF.2.2.2.2.1
  have kk' := q (ch_ok2 (ch_okS hlt) hs)
  intro T hT X
  obtain ⟨t1, a1, b1⟩ := kk' T hT X
  exact ⟨t1, ch_ldcWS X hF.1 hown (text := t) (a := ch_xa g (12, i, 0)) hZ.1 hZ.2 (g := F0 m pc lm (rest.map (ch_tr g))) rfl (by rw [hF.2.1]; exact hd) t1 a1, b1⟩
theorem ch_getsC {idx : Nat} (hd : decode (ch_bc f) pc = .ok (.getstatic idx, 3)) (hw : Cond.fieldLink (ch_nm f).cls idx "java/lang/String" "COMPACT_STRINGS" "Z" ∈ ch_good) (kk : ch_J g f R E (pc + 3) ls (.inl (.int 1) :: rest) mem k) : ch_J g f R E pc ls rest mem k :=
  ch_go (fun _ _ _ _ _ _ _ _ _ _ _ _ hF hR hS _ hs hL q => ch_zgets hF.1 hF.2.1 ((ch_SWF hF).2.2.1.kept (ch_fixed hR)) hF.2.2.2.2.1 (hF.2.2.2.2.2.1 _ hw) (fun _ h => h) hd (q (ch_ok1 hs))) kk
theorem ch_getsF {idx : Nat} (hd : decode (ch_bc f) pc = .ok (.getstatic idx, 3)) (hw : Cond.fieldLink (ch_nm f).cls idx "jdk/internal/util/Preconditions" "SIOOBE_FORMATTER" "Ljava/util/function/BiFunction;" ∈ ch_good) (kk : ch_J g f R E (pc + 3) ls (.inl (ch_sv g) :: rest) mem k) : ch_J g f R E pc ls rest mem k :=
  ch_go (fun _ _ _ _ _ _ _ _ _ _ _ _ hF hR hS _ hs hL q => ch_zgets hF.1 hF.2.1 ((ch_SWF hF).2.2.2.2.1.1.kept (ch_fixed hR)) hF.2.2.2.2.1 (hF.2.2.2.2.2.1 _ hw) (fun _ h => h) hd (q (ch_ok1 hs))) kk
theorem ch_gets1 {idx : Nat} (hd : decode (ch_bc f) pc = .ok (.getstatic idx, 3)) (hw : Cond.fieldLink (ch_nm f).cls idx "java/lang/Integer" "DigitOnes" "[B" ∈ ch_good) (kk : ch_J g f R E (pc + 3) ls (.inr (15, 0, 0) :: rest) mem k) : ch_J g f R E pc ls rest mem k :=
  ch_go (fun _ _ _ _ _ _ _ _ _ _ _ _ hF hR hS _ hs hL q => ch_zgets hF.1 hF.2.1 ((ch_SWF hF).2.2.2.1.1.kept (ch_fixed hR)) hF.2.2.2.2.1 (hF.2.2.2.2.2.1 _ hw) (fun _ h => h) hd (q (ch_ok2 (ch_okD (by decide)) hs))) kk
theorem ch_gets10 {idx : Nat} (hd : decode (ch_bc f) pc = .ok (.getstatic idx, 3)) (hw : Cond.fieldLink (ch_nm f).cls idx "java/lang/Integer" "DigitTens" "[B" ∈ ch_good) (kk : ch_J g f R E (pc + 3) ls (.inr (15, 1, 0) :: rest) mem k) : ch_J g f R E pc ls rest mem k :=
  ch_go (fun _ _ _ _ _ _ _ _ _ _ _ _ hF hR hS _ hs hL q => ch_zgets hF.1 hF.2.1 ((ch_SWF hF).2.2.2.1.2.kept (ch_fixed hR)) hF.2.2.2.2.1 (hF.2.2.2.2.2.1 _ hw) (fun _ h => h) hd (q (ch_ok2 (ch_okD (by decide)) hs))) kk
theorem ch_getCo {idx i : Nat} (hd : decode (ch_bc f) pc = .ok (.getfield idx, 3)) (hw : Cond.fieldLink (ch_nm f).cls idx "java/lang/String" "coder" "B" ∈ ch_good) (kk : ch_J g f R E (pc + 3) ls (.inl (.int 0) :: rest) mem k) : ch_J g f R E pc ls (.inr (12, i, 0) :: rest) mem k := by
  refine ch_go (fun p e s m args below meth c H locs lm Q hF hR hS ho hs hL q => ?_) kk
  have hi := ch_okT (ch_okh hs) hR.2.2.2
  obtain ⟨cf, kf, fi, fd, cell, h1, h2, h3, h4, h5, h6⟩ := (((ch_SWF hF).2.1.kept (ch_fixed hR)).1 i hi).2.1
  exact W.getf hF.1 hF.2.1 hF.2.2.2.2.1 (hF.2.2.2.2.2.1 _ hw) h1 h2 h3 h4 (v := .int 0) h5 rfl rfl hd (q (ch_ok1 (ch_ok0 hs)))
theorem ch_getVa {idx i : Nat} (hd : decode (ch_bc f) pc = .ok (.getfield idx, 3)) (hw : Cond.fieldLink (ch_nm f).cls idx "java/lang/String" "value" "[B" ∈ ch_good) (kk : ch_J g f R E (pc + 3) ls (.inr (13, i, 0) :: rest) mem k) : ch_J g f R E pc ls (.inr (12, i, 0) :: rest) mem k := by
  refine ch_go (fun p e s m args below meth c H locs lm Q hF hR hS ho hs hL q => ?_) kk
  have hi := ch_okT (ch_okh hs) hR.2.2.2
  obtain ⟨cf, kf, fi, fd, cell, h1, h2, h3, h4, h5, h6⟩ := (((ch_SWF hF).2.1.kept (ch_fixed hR)).1 i hi).2.2.1
  exact W.getf hF.1 hF.2.1 hF.2.2.2.2.1 (hF.2.2.2.2.2.1 _ hw) h1 h2 h3 h4 (v := .ref (ch_xa g (13, i, 0))) h5 rfl rfl hd (q (ch_ok2 (ch_okB hi) (ch_ok0 hs)))
theorem ch_blen {i : Nat} (hd : decode (ch_bc f) pc = .ok (.arraylength, 1)) (kk : ch_J g f R E (pc + 1) ls (.inl (.int (nI (ch_tn g i))) :: rest) mem k) : ch_J g f R E pc ls (.inr (13, i, 0) :: rest) mem k := by
  refine ch_go (fun p e s m args below meth c H locs lm Q hF hR hS ho hs hL q => ?_) kk
  have hi := ch_okT2 (ch_okh hs) hR.2.2.2
  obtain ⟨cell, h1, h2, h3, h4, h5, h6, h7⟩ := (((ch_SWF hF).2.1.kept (ch_fixed hR)).1 i hi).2.2.2
  rw [ch_tlen hi] at h4 h5 h6
  exact W.alen (n := nI (ch_tn g i)) hF.1 hF.2.1 h1 h2 h5 rfl rfl hd (q (ch_ok1 (ch_ok0 hs)))
theorem ch_bald {i : Nat} {x : Int32} (hd : decode (ch_bc f) pc = .ok (.baload, 1)) (hx : vp_in x (ch_tn g i)) (kk : ch_J g f R E (pc + 1) ls (.inl (.int (ch_tb g i x.toNatClampNeg)) :: rest) mem k) : ch_J g f R E pc ls (.inl (.int x) :: .inr (13, i, 0) :: rest) mem k := by
  refine ch_go (fun p e s m args below meth c H locs lm Q hF hR hS ho hs hL q => ?_) kk
  have hi := ch_okT2 (ch_okh (ch_ok0 hs)) hR.2.2.2
  obtain ⟨cell, h1, h2, h3, h4, h5, h6, h7⟩ := (((ch_SWF hF).2.1.kept (ch_fixed hR)).1 i hi).2.2.2
  rw [ch_tlen hi] at h4 h5 h6
  have hlt : x.toNatClampNeg < ch_tn g i := Nat.not_le.mp fun q => hx (Or.inr q)
  exact W.bald (v := .int (ch_tb g i x.toNatClampNeg)) hF.1 hF.2.1 h1 h2 h3 (fun q => q.elim (fun q => hx (Or.inl q)) (fun q => by omega)) (h6 _ hlt) rfl rfl hd (q (ch_ok1 (ch_ok0 (ch_ok0 hs))))
theorem ch_bdig {i : Nat} {x : Int32} (hd : decode (ch_bc f) pc = .ok (.baload, 1)) (hx : vp_in x 100) (kk : ch_J g f R E (pc + 1) ls (.inl (.int (ch_dig i x.toNatClampNeg)) :: rest) mem k) : ch_J g f R E pc ls (.inl (.int x) :: .inr (15, i, 0) :: rest) mem k := by
  refine ch_go (fun p e s m args below meth c H locs lm Q hF hR hS ho hs hL q => ?_) kk
  have hi := ch_okT3 (ch_okh (ch_ok0 hs)) hR.2.2.2
  obtain ⟨cell, h1, h2, h3, h4, h5, h6, h7⟩ := ((ch_SWF hF).2.2.2.2.2 i hi).kept (ch_fixed hR)
  have hlt : x.toNatClampNeg < 100 := Nat.not_le.mp fun q => hx (Or.inr q)
  exact W.bald (v := .int (ch_dig i x.toNatClampNeg)) hF.1 hF.2.1 h1 h2 h3 (fun q => q.elim (fun q => hx (Or.inl q)) (fun q => by omega)) (h6 _ hlt) rfl rfl hd (q (ch_ok1 (ch_ok0 (ch_ok0 hs))))
/-- a method of a text is called -/
theorem ch_callT {f' : ch_MI} {idx n i : Nat} {as : List ch_V} (hd : decode (ch_bc f) pc = .ok (.invokevirtual idx, 3)) (hsv : ch_SV f' (ch_nm f).cls idx n) (hi : Cond.instanceMethod (ch_nm f') ∈ ch_good) (hse : Cond.selects (ch_nm f').cls (ch_nm f') (ch_nm f') ∈ ch_good) (hhh : ch_hh f' = []) (hcl : (ch_nm f').cls = "java/lang/String")
    (hn : as.length = n) (hRR : ch_RR R (ch_fr f' + 1)) (hcat : (rest.map ch_cat).sum ≤ 8) (hcs : k + ch_mc f' ≤ R.cells ∧ 6 * k + 6 * ch_mc f' ≤ R.slots)
    (h : ch_C g f' (.inr (12, i, 0) :: as) mem (ch_K g f R E pc ls rest (k + ch_mc f'))) : ch_J g f R E pc ls (as.reverse ++ .inr (12, i, 0) :: rest) mem k := by
  intro p e s m args below meth c H locs lm hF hR hS ho hs hL
  obtain ⟨hrc, hrs, hfr, hlo, hws⟩ := ch_hb hsv hF.2.2.2.2.2.1 hRR
  have hts := hF.2.2.2.2.2.1
  have hso : ∀ v ∈ (.inr (12, i, 0) :: as : List ch_V), ch_ok g v := by
    intro v hv
    refine hs v ?_
    rcases List.mem_cons.mp hv with e | e
    · rw [e]; exact List.mem_append_right _ List.mem_cons_self
    · exact List.mem_append_left _ (List.mem_reverse.mpr e)
  have hs' : ∀ v ∈ rest, ch_ok g v := fun v hv => hs v (List.mem_append_right _ (List.mem_cons_of_mem _ hv))
  have hlt := ch_okT (hso _ List.mem_cons_self) hR.2.2.2
  obtain ⟨cell, c1, c2, c3, -⟩ := (((ch_SWF hF).2.1.kept (ch_fixed hR)).1 i hlt).1
  have hM := h hF.2.2.2.2.2.2.2.2.2.1 hso
  have hcw : ch_cw f' = Cond.code (ch_nm f') (ch_bc f') (ch_ml f') (ch_rt f') := by unfold ch_cw; rw [hhh]
  have hcode := hsv.1.1
  rw [hcw] at hcode
  refine ch_run (vx_runV (As := as.map (ch_tr g)) (C := (ch_nm f').cls) (rm := ch_rm f') (n := n) (bytes := ch_bc f') (maxL := ch_ml f') (ret := ch_rt f') ⟨hF.1, hF.2.1, hF.2.2.2.1, hF.2.2.2.2.1, hts⟩ hM ⟨⟨hrc, hrs, hfr, hlo, hws, by unfold ch_ws; rw [hcw]; exact List.mem_cons_self, hts _ hcode, hts _ hsv.1.2.1, hsv.1.2.2.1, ch_len hsv.2.2, hts _ hsv.2.1⟩, hts _ hi, hts _ hse⟩
    ⟨ch_PC_blind, ⟨cell, c1, c2, by rw [hcl]; exact c3⟩, ch_pre (f' := f') hF hR⟩ rfl (by rw [List.length_map]; exact hn) hL.1 ?_ (by show 2 * 0 + _ ≤ 8; rw [ch_sum]; omega) hd hcs) hF hS ho hs' hL
  show (as.reverse ++ .inr (12, i, 0) :: rest).map (ch_tr g) = _
  rw [List.map_append, List.map_reverse, List.map_cons]
  rfl
end CHT
end
section
/-! pure words -/
theorem ch_oi_iff {q : Int32 → ch_M → Prop} {r : Int32} {m : ch_M} : ch_oi q (.inl (some (.inl (.int r)))) m ↔ q r m :=
  ⟨fun ⟨_, e, h⟩ => by cases e; exact h, fun h => ⟨r, rfl, h⟩⟩
theorem ch_ov_iff {q : ch_M → Prop} {m : ch_M} : ch_ov q (.inl none) m ↔ q m := ⟨fun h => h.2, fun h => ⟨rfl, h⟩⟩
theorem ch_of_iff {q : UInt32 → ch_M → Prop} {r : UInt32} {m : ch_M} : ch_of q (.inl (some (.inl (.float r)))) m ↔ q r m :=
  ⟨fun ⟨_, e, h⟩ => by cases e; exact h, fun h => ⟨r, rfl, h⟩⟩
theorem ch_od_iff {q : UInt64 → ch_M → Prop} {r : UInt64} {m : ch_M} : ch_od q (.inl (some (.inl (.double r)))) m ↔ q r m :=
  ⟨fun ⟨_, e, h⟩ => by cases e; exact h, fun h => ⟨r, rfl, h⟩⟩
theorem ch_ox_l {q : ch_O → ch_M → Prop} {x : Nat → ch_M → Prop} {v : Option ch_V} {m : ch_M} : ch_ox q x (.inl v) m ↔ q (.inl v) m :=
  ⟨fun h => h.elim id (fun ⟨_, e, _⟩ => by cases e), Or.inl⟩
theorem ch_ox_oi {q : Int32 → ch_M → Prop} {x : Nat → ch_M → Prop} {n : Nat} {m : ch_M} : ch_ox (ch_oi q) x (.inr n) m ↔ n < 6 ∧ x n m :=
  ⟨fun h => h.elim (fun ⟨_, e, _⟩ => by cases e) (fun ⟨n', e, h⟩ => by cases e; exact h), fun h => Or.inr ⟨n, rfl, h⟩⟩
theorem ch_ox_ov {q : ch_M → Prop} {x : Nat → ch_M → Prop} {n : Nat} {m : ch_M} : ch_ox (ch_ov q) x (.inr n) m ↔ n < 6 ∧ x n m :=
  ⟨fun h => h.elim (fun e => by cases e.1) (fun ⟨n', e, h⟩ => by cases e; exact h), fun h => Or.inr ⟨n, rfl, h⟩⟩
theorem ch_ox_od {q : UInt64 → ch_M → Prop} {x : Nat → ch_M → Prop} {n : Nat} {m : ch_M} : ch_ox (ch_od q) x (.inr n) m ↔ n < 6 ∧ x n m :=
  ⟨fun h => h.elim (fun ⟨_, e, _⟩ => by cases e) (fun ⟨n', e, h⟩ => by cases e; exact h), fun h => Or.inr ⟨n, rfl, h⟩⟩
/-- an object's cells in the memory: by part and place -/
abbrev ch_B : Type := Nat → Nat → Int32
def ch_ob (m : ch_M) (ci j : Nat) : ch_B := fun c k => m (ci, j, c) k
def ch_os (m : ch_M) (ci j : Nat) (B : ch_B) : ch_M := fun a k => if a.1 = ci ∧ a.2.1 = j then B a.2.2 k else m a k
def ch_bw (B : ch_B) (c k : Nat) (v : Int32) : ch_B := fun c' k' => if c' = c ∧ k' = k then v else B c' k'
theorem ch_os_at (m : ch_M) (ci j c k : Nat) (B : ch_B) : ch_os m ci j B (ci, j, c) k = B c k := by unfold ch_os; rw [if_pos ⟨rfl, rfl⟩]
theorem ch_os_ne {m : ch_M} {ci j : Nat} {B : ch_B} {a : ch_Ad} (h : ¬ (a.1 = ci ∧ a.2.1 = j)) : ch_os m ci j B a = m a := by
  funext k
  unfold ch_os
  rw [if_neg h]
theorem ch_os_self (m : ch_M) (ci j : Nat) : ch_os m ci j (ch_ob m ci j) = m := by
  funext a k
  unfold ch_os ch_ob
  by_cases h : a.1 = ci ∧ a.2.1 = j
  · obtain ⟨x, y, z⟩ := a
    obtain ⟨rfl, rfl⟩ := h
    rw [if_pos ⟨rfl, rfl⟩]
  · rw [if_neg h]
theorem ch_os_os (m : ch_M) (ci j : Nat) (B B' : ch_B) : ch_os (ch_os m ci j B) ci j B' = ch_os m ci j B' := by
  funext a k
  unfold ch_os
  by_cases h : a.1 = ci ∧ a.2.1 = j
  · rw [if_pos h, if_pos h]
  · rw [if_neg h, if_neg h, if_neg h]
theorem ch_ob_os (m : ch_M) (ci j : Nat) (B : ch_B) : ch_ob (ch_os m ci j B) ci j = B := by
  funext c k
  exact ch_os_at m ci j c k B
theorem ch_os_wr (m : ch_M) (ci j c k : Nat) (B : ch_B) (v : Int32) : ch_wr (ch_os m ci j B) (ci, j, c) k v = ch_os m ci j (ch_bw B c k v) := by
  funext a i
  obtain ⟨x, y, z⟩ := a
  unfold ch_wr ch_os ch_bw
  simp only [Prod.mk.injEq]
  by_cases h : x = ci ∧ y = j
  · obtain ⟨rfl, rfl⟩ := h
    simp
  · have h2 : ¬ ((x = ci ∧ y = j ∧ z = c) ∧ i = k) := fun q => h ⟨q.1.1, q.1.2.1⟩
    rw [if_neg h2, if_neg h, if_neg h]
theorem ch_bw_at (B : ch_B) (c k : Nat) (v : Int32) : ch_bw B c k v c k = v := by unfold ch_bw; rw [if_pos ⟨rfl, rfl⟩]
theorem ch_bw_c {B : ch_B} {c k c' k' : Nat} {v : Int32} (h : c' ≠ c) : ch_bw B c k v c' k' = B c' k' := by unfold ch_bw; rw [if_neg (fun q => h q.1)]
theorem ch_bw_k {B : ch_B} {c k c' k' : Nat} {v : Int32} (h : k' ≠ k) : ch_bw B c k v c' k' = B c' k' := by unfold ch_bw; rw [if_neg (fun q => h q.2)]
theorem ch_wr_os (m : ch_M) (ci j c k : Nat) (v : Int32) : ch_wr m (ci, j, c) k v = ch_os m ci j (ch_bw (ch_ob m ci j) c k v) := by
  have h := ch_os_wr m ci j c k (ch_ob m ci j) v
  rw [ch_os_self] at h
  exact h
/-- a way from the end back -/
theorem ch_down (P : Nat → Prop) (N : Nat) (hN : P N) (hs : ∀ k, k < N → P (k + 1) → P k) : ∀ k, k ≤ N → P k := by
  intro k hk
  obtain ⟨n, rfl⟩ : ∃ n, N = k + n := ⟨N - k, by omega⟩
  clear hk
  induction n generalizing k with
  | zero => exact hN
  | succ n ih => exact hs k (by omega) (ih (k + 1) (by rw [show k + 1 + n = k + (n + 1) by omega]; exact hN) (fun i hi => hs i (by omega)))
/-- how many of the first n cells hold o -/
def ch_cnO (f : Nat → Int32) (o : Int32) : Nat → Int32
  | 0 => 0
  | n + 1 => if f n = o then ch_cnO f o n + 1 else ch_cnO f o n
theorem ch_lit (n : Nat) (x : Int32) (h : nI n = x := by decide) : nI n = x := h
end
