def n_a_init : ch_MI := (⟨"java/lang/AbstractStringBuilder", "<init>", "(I)V"⟩, prog_13_method_2_code, 2, none, 1, 3, [])
theorem nf_a_init : ch_MF n_a_init := ⟨ch_wg 1052 (by decide +kernel) (by decide +kernel), ch_wg 29 (by decide +kernel) (by decide +kernel), ⟨by decide, by decide⟩, plainFor_of_name (by decide +kernel), by decide⟩
theorem ni_a_init : Cond.instanceMethod (ch_nm n_a_init) ∈ ch_good := ch_wg 1051 (by decide +kernel) (by decide +kernel)
theorem e_a_init_0 : decode (ch_bc n_a_init) 0 = .ok (.aload_n 0, 1) := by decide +kernel
theorem e_a_init_1 : decode (ch_bc n_a_init) 1 = .ok (.invokespecial 3, 3) := by decide +kernel
theorem e_a_init_4 : decode (ch_bc n_a_init) 4 = .ok (.getstatic 18, 3) := by decide +kernel
theorem e_a_init_7 : decode (ch_bc n_a_init) 7 = .ok (.ifCond .eq 18, 3) := by decide +kernel
theorem e_a_init_10 : decode (ch_bc n_a_init) 10 = .ok (.aload_n 0, 1) := by decide +kernel
theorem e_a_init_11 : decode (ch_bc n_a_init) 11 = .ok (.iload_n 1, 1) := by decide +kernel
theorem e_a_init_12 : decode (ch_bc n_a_init) 12 = .ok (.newarray .byte, 2) := by decide +kernel
theorem e_a_init_14 : decode (ch_bc n_a_init) 14 = .ok (.putfield 15, 3) := by decide +kernel
theorem e_a_init_17 : decode (ch_bc n_a_init) 17 = .ok (.aload_n 0, 1) := by decide +kernel
theorem e_a_init_18 : decode (ch_bc n_a_init) 18 = .ok (.iconst 0, 1) := by decide +kernel
theorem e_a_init_19 : decode (ch_bc n_a_init) 19 = .ok (.putfield 22, 3) := by decide +kernel
theorem e_a_init_22 : decode (ch_bc n_a_init) 22 = .ok (.goto 16, 3) := by decide +kernel
theorem e_a_init_25 : decode (ch_bc n_a_init) 25 = .ok (.aload_n 0, 1) := by decide +kernel
theorem e_a_init_26 : decode (ch_bc n_a_init) 26 = .ok (.iload_n 1, 1) := by decide +kernel
theorem e_a_init_27 : decode (ch_bc n_a_init) 27 = .ok (.invokestatic 26, 3) := by decide +kernel
theorem e_a_init_30 : decode (ch_bc n_a_init) 30 = .ok (.putfield 15, 3) := by decide +kernel
theorem e_a_init_33 : decode (ch_bc n_a_init) 33 = .ok (.aload_n 0, 1) := by decide +kernel
theorem e_a_init_34 : decode (ch_bc n_a_init) 34 = .ok (.iconst 1, 1) := by decide +kernel
theorem e_a_init_35 : decode (ch_bc n_a_init) 35 = .ok (.putfield 22, 3) := by decide +kernel
theorem e_a_init_38 : decode (ch_bc n_a_init) 38 = .ok (.return_, 1) := by decide +kernel
def n_b_init : ch_MI := (⟨"java/lang/StringBuilder", "<init>", "()V"⟩, prog_31_method_1_code, 1, none, 2, 3, [])
theorem nf_b_init : ch_MF n_b_init := ⟨ch_wg 1049 (by decide +kernel) (by decide +kernel), ch_wg 30 (by decide +kernel) (by decide +kernel), ⟨by decide, by decide⟩, plainFor_of_name (by decide +kernel), by decide⟩
theorem ni_b_init : Cond.instanceMethod (ch_nm n_b_init) ∈ ch_good := ch_wg 1048 (by decide +kernel) (by decide +kernel)
theorem e_b_init_0 : decode (ch_bc n_b_init) 0 = .ok (.aload_n 0, 1) := by decide +kernel
theorem e_b_init_1 : decode (ch_bc n_b_init) 1 = .ok (.bipush 16, 2) := by decide +kernel
theorem e_b_init_3 : decode (ch_bc n_b_init) 3 = .ok (.invokespecial 1, 3) := by decide +kernel
theorem e_b_init_6 : decode (ch_bc n_b_init) 6 = .ok (.return_, 1) := by decide +kernel
def n_g_copyOfRangeByte : ch_MI := (⟨"java/util/Arrays", "copyOfRangeByte", "([BII)[B"⟩, prog_39_method_133_code, 5, (some (FieldType.array FieldType.byte)), 2, 3, [])
theorem nf_g_copyOfRangeByte : ch_MF n_g_copyOfRangeByte := ⟨ch_wg 1248 (by decide +kernel) (by decide +kernel), ch_wg 32 (by decide +kernel) (by decide +kernel), ⟨by decide, by decide⟩, plainFor_of_name (by decide +kernel), by decide⟩
theorem ns_g_copyOfRangeByte : Cond.static (ch_nm n_g_copyOfRangeByte) ∈ ch_good := ch_wg 1247 (by decide +kernel) (by decide +kernel)
theorem e_g_copyOfRangeByte_0 : decode (ch_bc n_g_copyOfRangeByte) 0 = .ok (.iload_n 1, 1) := by decide +kernel
theorem e_g_copyOfRangeByte_1 : decode (ch_bc n_g_copyOfRangeByte) 1 = .ok (.iload_n 2, 1) := by decide +kernel
theorem e_g_copyOfRangeByte_2 : decode (ch_bc n_g_copyOfRangeByte) 2 = .ok (.invokestatic 343, 3) := by decide +kernel
theorem e_g_copyOfRangeByte_5 : decode (ch_bc n_g_copyOfRangeByte) 5 = .ok (.iload_n 2, 1) := by decide +kernel
theorem e_g_copyOfRangeByte_6 : decode (ch_bc n_g_copyOfRangeByte) 6 = .ok (.iload_n 1, 1) := by decide +kernel
theorem e_g_copyOfRangeByte_7 : decode (ch_bc n_g_copyOfRangeByte) 7 = .ok (.isub, 1) := by decide +kernel
theorem e_g_copyOfRangeByte_8 : decode (ch_bc n_g_copyOfRangeByte) 8 = .ok (.istore_n 3, 1) := by decide +kernel
theorem e_g_copyOfRangeByte_9 : decode (ch_bc n_g_copyOfRangeByte) 9 = .ok (.iload_n 3, 1) := by decide +kernel
theorem e_g_copyOfRangeByte_10 : decode (ch_bc n_g_copyOfRangeByte) 10 = .ok (.newarray .byte, 2) := by decide +kernel
theorem e_g_copyOfRangeByte_12 : decode (ch_bc n_g_copyOfRangeByte) 12 = .ok (.astore 4, 2) := by decide +kernel
theorem e_g_copyOfRangeByte_14 : decode (ch_bc n_g_copyOfRangeByte) 14 = .ok (.aload_n 0, 1) := by decide +kernel
theorem e_g_copyOfRangeByte_15 : decode (ch_bc n_g_copyOfRangeByte) 15 = .ok (.iload_n 1, 1) := by decide +kernel
theorem e_g_copyOfRangeByte_16 : decode (ch_bc n_g_copyOfRangeByte) 16 = .ok (.aload 4, 2) := by decide +kernel
theorem e_g_copyOfRangeByte_18 : decode (ch_bc n_g_copyOfRangeByte) 18 = .ok (.iconst 0, 1) := by decide +kernel
theorem e_g_copyOfRangeByte_19 : decode (ch_bc n_g_copyOfRangeByte) 19 = .ok (.aload_n 0, 1) := by decide +kernel
theorem e_g_copyOfRangeByte_20 : decode (ch_bc n_g_copyOfRangeByte) 20 = .ok (.arraylength, 1) := by decide +kernel
theorem e_g_copyOfRangeByte_21 : decode (ch_bc n_g_copyOfRangeByte) 21 = .ok (.iload_n 1, 1) := by decide +kernel
theorem e_g_copyOfRangeByte_22 : decode (ch_bc n_g_copyOfRangeByte) 22 = .ok (.isub, 1) := by decide +kernel
theorem e_g_copyOfRangeByte_23 : decode (ch_bc n_g_copyOfRangeByte) 23 = .ok (.iload_n 3, 1) := by decide +kernel
theorem e_g_copyOfRangeByte_24 : decode (ch_bc n_g_copyOfRangeByte) 24 = .ok (.invokestatic 304, 3) := by decide +kernel
theorem e_g_copyOfRangeByte_27 : decode (ch_bc n_g_copyOfRangeByte) 27 = .ok (.invokestatic 150, 3) := by decide +kernel
theorem e_g_copyOfRangeByte_30 : decode (ch_bc n_g_copyOfRangeByte) 30 = .ok (.aload 4, 2) := by decide +kernel
theorem e_g_copyOfRangeByte_32 : decode (ch_bc n_g_copyOfRangeByte) 32 = .ok (.areturn, 1) := by decide +kernel
def n_g_copyOfRange : ch_MI := (⟨"java/util/Arrays", "copyOfRange", "([BII)[B"⟩, prog_39_method_132_code, 3, (some (FieldType.array FieldType.byte)), 3, 3, [])
theorem nf_g_copyOfRange : ch_MF n_g_copyOfRange := ⟨ch_wg 1245 (by decide +kernel) (by decide +kernel), ch_wg 32 (by decide +kernel) (by decide +kernel), ⟨by decide, by decide⟩, plainFor_of_name (by decide +kernel), by decide⟩
theorem ns_g_copyOfRange : Cond.static (ch_nm n_g_copyOfRange) ∈ ch_good := ch_wg 1244 (by decide +kernel) (by decide +kernel)
theorem e_g_copyOfRange_0 : decode (ch_bc n_g_copyOfRange) 0 = .ok (.iload_n 1, 1) := by decide +kernel
theorem e_g_copyOfRange_1 : decode (ch_bc n_g_copyOfRange) 1 = .ok (.ifCond .ne 9, 3) := by decide +kernel
theorem e_g_copyOfRange_4 : decode (ch_bc n_g_copyOfRange) 4 = .ok (.iload_n 2, 1) := by decide +kernel
theorem e_g_copyOfRange_5 : decode (ch_bc n_g_copyOfRange) 5 = .ok (.aload_n 0, 1) := by decide +kernel
theorem e_g_copyOfRange_6 : decode (ch_bc n_g_copyOfRange) 6 = .ok (.arraylength, 1) := by decide +kernel
theorem e_g_copyOfRange_7 : decode (ch_bc n_g_copyOfRange) 7 = .ok (.if_icmp .eq 10, 3) := by decide +kernel
theorem e_g_copyOfRange_10 : decode (ch_bc n_g_copyOfRange) 10 = .ok (.aload_n 0, 1) := by decide +kernel
theorem e_g_copyOfRange_11 : decode (ch_bc n_g_copyOfRange) 11 = .ok (.iload_n 1, 1) := by decide +kernel
theorem e_g_copyOfRange_12 : decode (ch_bc n_g_copyOfRange) 12 = .ok (.iload_n 2, 1) := by decide +kernel
theorem e_g_copyOfRange_13 : decode (ch_bc n_g_copyOfRange) 13 = .ok (.invokestatic 339, 3) := by decide +kernel
theorem e_g_copyOfRange_16 : decode (ch_bc n_g_copyOfRange) 16 = .ok (.areturn, 1) := by decide +kernel
theorem e_g_copyOfRange_17 : decode (ch_bc n_g_copyOfRange) 17 = .ok (.aload_n 0, 1) := by decide +kernel
theorem e_g_copyOfRange_18 : decode (ch_bc n_g_copyOfRange) 18 = .ok (.invokevirtual 310, 3) := by decide +kernel
theorem e_g_copyOfRange_24 : decode (ch_bc n_g_copyOfRange) 24 = .ok (.areturn, 1) := by decide +kernel
def n_q_initA : ch_MI := (⟨"java/lang/String", "<init>", "(Ljava/lang/AbstractStringBuilder;Ljava/lang/Void;)V"⟩, prog_30_method_150_code, 5, none, 4, 3, [])
theorem nf_q_initA : ch_MF n_q_initA := ⟨ch_wg 1227 (by decide +kernel) (by decide +kernel), ch_wg 21 (by decide +kernel) (by decide +kernel), ⟨by decide, by decide⟩, plainFor_of_name (by decide +kernel), by decide⟩
theorem ni_q_initA : Cond.instanceMethod (ch_nm n_q_initA) ∈ ch_good := ch_wg 1226 (by decide +kernel) (by decide +kernel)
theorem e_q_initA_0 : decode (ch_bc n_q_initA) 0 = .ok (.aload_n 0, 1) := by decide +kernel
theorem e_q_initA_1 : decode (ch_bc n_q_initA) 1 = .ok (.invokespecial 1, 3) := by decide +kernel
theorem e_q_initA_4 : decode (ch_bc n_q_initA) 4 = .ok (.aload_n 1, 1) := by decide +kernel
theorem e_q_initA_5 : decode (ch_bc n_q_initA) 5 = .ok (.invokevirtual 552, 3) := by decide +kernel
theorem e_q_initA_8 : decode (ch_bc n_q_initA) 8 = .ok (.astore_n 3, 1) := by decide +kernel
theorem e_q_initA_9 : decode (ch_bc n_q_initA) 9 = .ok (.aload_n 1, 1) := by decide +kernel
theorem e_q_initA_10 : decode (ch_bc n_q_initA) 10 = .ok (.invokevirtual 549, 3) := by decide +kernel
theorem e_q_initA_13 : decode (ch_bc n_q_initA) 13 = .ok (.istore 4, 2) := by decide +kernel
theorem e_q_initA_15 : decode (ch_bc n_q_initA) 15 = .ok (.aload_n 1, 1) := by decide +kernel
theorem e_q_initA_16 : decode (ch_bc n_q_initA) 16 = .ok (.invokevirtual 1047, 3) := by decide +kernel
theorem e_q_initA_19 : decode (ch_bc n_q_initA) 19 = .ok (.ifCond .eq 22, 3) := by decide +kernel
theorem e_q_initA_22 : decode (ch_bc n_q_initA) 22 = .ok (.aload_n 0, 1) := by decide +kernel
theorem e_q_initA_23 : decode (ch_bc n_q_initA) 23 = .ok (.iconst 0, 1) := by decide +kernel
theorem e_q_initA_24 : decode (ch_bc n_q_initA) 24 = .ok (.putfield 15, 3) := by decide +kernel
theorem e_q_initA_27 : decode (ch_bc n_q_initA) 27 = .ok (.aload_n 0, 1) := by decide +kernel
theorem e_q_initA_28 : decode (ch_bc n_q_initA) 28 = .ok (.aload_n 3, 1) := by decide +kernel
theorem e_q_initA_29 : decode (ch_bc n_q_initA) 29 = .ok (.iconst 0, 1) := by decide +kernel
theorem e_q_initA_30 : decode (ch_bc n_q_initA) 30 = .ok (.iload 4, 2) := by decide +kernel
theorem e_q_initA_32 : decode (ch_bc n_q_initA) 32 = .ok (.invokestatic 54, 3) := by decide +kernel
theorem e_q_initA_35 : decode (ch_bc n_q_initA) 35 = .ok (.putfield 9, 3) := by decide +kernel
theorem e_q_initA_38 : decode (ch_bc n_q_initA) 38 = .ok (.goto 59, 3) := by decide +kernel
theorem e_q_initA_41 : decode (ch_bc n_q_initA) 41 = .ok (.getstatic 38, 3) := by decide +kernel
theorem e_q_initA_44 : decode (ch_bc n_q_initA) 44 = .ok (.ifCond .eq 35, 3) := by decide +kernel
theorem e_q_initA_47 : decode (ch_bc n_q_initA) 47 = .ok (.aload_n 1, 1) := by decide +kernel
theorem e_q_initA_48 : decode (ch_bc n_q_initA) 48 = .ok (.getfield 1048, 3) := by decide +kernel
theorem e_q_initA_51 : decode (ch_bc n_q_initA) 51 = .ok (.ifCond .eq 28, 3) := by decide +kernel
theorem e_q_initA_54 : decode (ch_bc n_q_initA) 54 = .ok (.aload_n 0, 1) := by decide +kernel
theorem e_q_initA_55 : decode (ch_bc n_q_initA) 55 = .ok (.aload_n 3, 1) := by decide +kernel
theorem e_q_initA_56 : decode (ch_bc n_q_initA) 56 = .ok (.iconst 0, 1) := by decide +kernel
theorem e_q_initA_57 : decode (ch_bc n_q_initA) 57 = .ok (.iload 4, 2) := by decide +kernel
theorem e_q_initA_59 : decode (ch_bc n_q_initA) 59 = .ok (.invokestatic 1051, 3) := by decide +kernel
theorem e_q_initA_62 : decode (ch_bc n_q_initA) 62 = .ok (.putfield 9, 3) := by decide +kernel
theorem e_q_initA_65 : decode (ch_bc n_q_initA) 65 = .ok (.aload_n 0, 1) := by decide +kernel
theorem e_q_initA_66 : decode (ch_bc n_q_initA) 66 = .ok (.aload_n 0, 1) := by decide +kernel
theorem e_q_initA_67 : decode (ch_bc n_q_initA) 67 = .ok (.getfield 9, 3) := by decide +kernel
theorem e_q_initA_70 : decode (ch_bc n_q_initA) 70 = .ok (.iload 4, 2) := by decide +kernel
theorem e_q_initA_72 : decode (ch_bc n_q_initA) 72 = .ok (.invokestatic 47, 3) := by decide +kernel
theorem e_q_initA_75 : decode (ch_bc n_q_initA) 75 = .ok (.putfield 15, 3) := by decide +kernel
theorem e_q_initA_78 : decode (ch_bc n_q_initA) 78 = .ok (.return_, 1) := by decide +kernel
theorem e_q_initA_79 : decode (ch_bc n_q_initA) 79 = .ok (.aload_n 0, 1) := by decide +kernel
theorem e_q_initA_80 : decode (ch_bc n_q_initA) 80 = .ok (.iconst 1, 1) := by decide +kernel
theorem e_q_initA_81 : decode (ch_bc n_q_initA) 81 = .ok (.putfield 15, 3) := by decide +kernel
theorem e_q_initA_84 : decode (ch_bc n_q_initA) 84 = .ok (.aload_n 0, 1) := by decide +kernel
theorem e_q_initA_85 : decode (ch_bc n_q_initA) 85 = .ok (.aload_n 3, 1) := by decide +kernel
theorem e_q_initA_86 : decode (ch_bc n_q_initA) 86 = .ok (.iconst 0, 1) := by decide +kernel
theorem e_q_initA_87 : decode (ch_bc n_q_initA) 87 = .ok (.iload 4, 2) := by decide +kernel
theorem e_q_initA_89 : decode (ch_bc n_q_initA) 89 = .ok (.iconst 1, 1) := by decide +kernel
theorem e_q_initA_90 : decode (ch_bc n_q_initA) 90 = .ok (.ishl, 1) := by decide +kernel
theorem e_q_initA_91 : decode (ch_bc n_q_initA) 91 = .ok (.invokestatic 54, 3) := by decide +kernel
theorem e_q_initA_94 : decode (ch_bc n_q_initA) 94 = .ok (.putfield 9, 3) := by decide +kernel
theorem e_q_initA_97 : decode (ch_bc n_q_initA) 97 = .ok (.return_, 1) := by decide +kernel
def n_q_initB : ch_MI := (⟨"java/lang/String", "<init>", "(Ljava/lang/StringBuilder;)V"⟩, prog_30_method_53_code, 2, none, 5, 3, [])
theorem nf_q_initB : ch_MF n_q_initB := ⟨ch_wg 1224 (by decide +kernel) (by decide +kernel), ch_wg 21 (by decide +kernel) (by decide +kernel), ⟨by decide, by decide⟩, plainFor_of_name (by decide +kernel), by decide⟩
theorem ni_q_initB : Cond.instanceMethod (ch_nm n_q_initB) ∈ ch_good := ch_wg 1223 (by decide +kernel) (by decide +kernel)
theorem e_q_initB_0 : decode (ch_bc n_q_initB) 0 = .ok (.aload_n 0, 1) := by decide +kernel
theorem e_q_initB_1 : decode (ch_bc n_q_initB) 1 = .ok (.aload_n 1, 1) := by decide +kernel
theorem e_q_initB_2 : decode (ch_bc n_q_initB) 2 = .ok (.aconst_null, 1) := by decide +kernel
theorem e_q_initB_3 : decode (ch_bc n_q_initB) 3 = .ok (.invokespecial 489, 3) := by decide +kernel
theorem e_q_initB_6 : decode (ch_bc n_q_initB) 6 = .ok (.return_, 1) := by decide +kernel
def n_b_toString : ch_MI := (⟨"java/lang/StringBuilder", "toString", "()Ljava/lang/String;"⟩, prog_31_method_42_code, 1, (some (FieldType.object "java/lang/String")), 6, 4, [])
theorem nf_b_toString : ch_MF n_b_toString := ⟨ch_wg 1220 (by decide +kernel) (by decide +kernel), ch_wg 30 (by decide +kernel) (by decide +kernel), ⟨by decide, by decide⟩, plainFor_of_name (by decide +kernel), by decide⟩
theorem ni_b_toString : Cond.instanceMethod (ch_nm n_b_toString) ∈ ch_good := ch_wg 1218 (by decide +kernel) (by decide +kernel)
theorem ne_b_toString : Cond.selects (ch_nm n_b_toString).cls (ch_nm n_b_toString) (ch_nm n_b_toString) ∈ ch_good := ch_wg 1219 (by decide +kernel) (by decide +kernel)
theorem e_b_toString_0 : decode (ch_bc n_b_toString) 0 = .ok (.new 18, 3) := by decide +kernel
theorem e_b_toString_3 : decode (ch_bc n_b_toString) 3 = .ok (.dup, 1) := by decide +kernel
theorem e_b_toString_4 : decode (ch_bc n_b_toString) 4 = .ok (.aload_n 0, 1) := by decide +kernel
theorem e_b_toString_5 : decode (ch_bc n_b_toString) 5 = .ok (.invokespecial 137, 3) := by decide +kernel
theorem e_b_toString_8 : decode (ch_bc n_b_toString) 8 = .ok (.areturn, 1) := by decide +kernel
theorem nk_l_231 : ch_SV n_b_init "ChalkWarrantsLaw" 231 0 := ⟨nf_b_init, ch_wg 1047 (by decide +kernel) (by decide +kernel), by decide +kernel⟩
theorem nk_b_1 : ch_SV n_a_init "java/lang/StringBuilder" 1 1 := ⟨nf_a_init, ch_wg 1050 (by decide +kernel) (by decide +kernel), by decide +kernel⟩
theorem nk_l_242 : ch_SV n_b_toString "ChalkWarrantsLaw" 242 0 := ⟨nf_b_toString, ch_wg 1217 (by decide +kernel) (by decide +kernel), by decide +kernel⟩
theorem nk_b_137 : ch_SV n_q_initB "java/lang/StringBuilder" 137 1 := ⟨nf_q_initB, ch_wg 1222 (by decide +kernel) (by decide +kernel), by decide +kernel⟩
theorem nk_q_489 : ch_SV n_q_initA "java/lang/String" 489 2 := ⟨nf_q_initA, ch_wg 1225 (by decide +kernel) (by decide +kernel), by decide +kernel⟩
theorem nk_q_54 : ch_SV n_g_copyOfRange "java/lang/String" 54 3 := ⟨nf_g_copyOfRange, ch_wg 1243 (by decide +kernel) (by decide +kernel), by decide +kernel⟩
theorem nk_g_339 : ch_SV n_g_copyOfRangeByte "java/util/Arrays" 339 3 := ⟨nf_g_copyOfRangeByte, ch_wg 1246 (by decide +kernel) (by decide +kernel), by decide +kernel⟩
theorem nk_q_552 : ch_SV m_a_getValue "java/lang/String" 552 0 := ⟨mf_a_getValue, ch_wg 1229 (by decide +kernel) (by decide +kernel), by decide +kernel⟩
theorem nk_q_1047 : ch_SV m_a_isLatin1 "java/lang/String" 1047 0 := ⟨mf_a_isLatin1, ch_wg 1242 (by decide +kernel) (by decide +kernel), by decide +kernel⟩
theorem nk_b_343 : ch_SV m_a_length "java/lang/StringBuilder" 343 0 := ⟨mf_a_length, ch_wg 1240 (by decide +kernel) (by decide +kernel), by decide +kernel⟩
theorem nk_g_343 : ch_SV m_g_checkLength "java/util/Arrays" 343 2 := ⟨mf_g_checkLength, ch_wg 1249 (by decide +kernel) (by decide +kernel), by decide +kernel⟩
theorem no_a_3 : Cond.methodLink "java/lang/AbstractStringBuilder" 3 Lib.objectInit ∈ ch_good := ch_wg 1053 (by decide +kernel) (by decide +kernel)
theorem no_q_1 : Cond.methodLink "java/lang/String" 1 Lib.objectInit ∈ ch_good := ch_wg 1228 (by decide +kernel) (by decide +kernel)
theorem np_a_15 : Cond.fieldLink "java/lang/AbstractStringBuilder" 15 "java/lang/AbstractStringBuilder" "value" "[B" ∈ ch_good := ch_wg 1063 (by decide +kernel) (by decide +kernel)
theorem np_a_22 : Cond.fieldLink "java/lang/AbstractStringBuilder" 22 "java/lang/AbstractStringBuilder" "coder" "B" ∈ ch_good := ch_wg 1064 (by decide +kernel) (by decide +kernel)
theorem np_q_9 : Cond.fieldLink "java/lang/String" 9 "java/lang/String" "value" "[B" ∈ ch_good := ch_wg 1276 (by decide +kernel) (by decide +kernel)
theorem np_q_15 : Cond.fieldLink "java/lang/String" 15 "java/lang/String" "coder" "B" ∈ ch_good := ch_wg 1277 (by decide +kernel) (by decide +kernel)
theorem nc_b_18 : Cond.classLink "java/lang/StringBuilder" 18 "java/lang/String" ∈ ch_good := ch_wg 1221 (by decide +kernel) (by decide +kernel)
theorem nc_l_229 : Cond.classLink "ChalkWarrantsLaw" 229 "java/lang/StringBuilder" ∈ ch_good := ch_wg 1045 (by decide +kernel) (by decide +kernel)
theorem nb_b : Cond.instantiable "java/lang/StringBuilder" 4 ∈ ch_good := ch_wg 1046 (by decide +kernel) (by decide +kernel)
theorem nz_b : Cond.initialized "java/lang/StringBuilder" ∈ ch_good := ch_wg 30 (by decide +kernel) (by decide +kernel)
theorem nb_q : Cond.instantiable "java/lang/String" 4 ∈ ch_good := ch_wg 592 (by decide +kernel) (by decide +kernel)
theorem nz_q : Cond.initialized "java/lang/String" ∈ ch_good := ch_wg 21 (by decide +kernel) (by decide +kernel)
theorem na_byte : Cond.arrayClass .byte ∈ ch_good := ch_wg 593 (by decide +kernel) (by decide +kernel)
theorem nl_len : Cond.methodLink "java/lang/String" 549 ⟨"java/lang/AbstractStringBuilder", "length", "()I"⟩ ∈ ch_good := ch_wg 1234 (by decide +kernel) (by decide +kernel)
theorem nl_same : Cond.sameMethod "java/lang/AbstractStringBuilder" "java/lang/AbstractStringBuilder" "length" "()I" ∈ ch_good := ch_wg 1236 (by decide +kernel) (by decide +kernel)
theorem nl_sel : Cond.selects "java/lang/StringBuilder" ⟨"java/lang/AbstractStringBuilder", "length", "()I"⟩ ⟨"java/lang/StringBuilder", "length", "()I"⟩ ∈ ch_good := ch_wg 1237 (by decide +kernel) (by decide +kernel)
theorem nl_val : Cond.selects "java/lang/StringBuilder" ⟨"java/lang/AbstractStringBuilder", "getValue", "()[B"⟩ ⟨"java/lang/AbstractStringBuilder", "getValue", "()[B"⟩ ∈ ch_good := ch_wg 1232 (by decide +kernel) (by decide +kernel)
theorem nk_min : ch_MM "java/util/Arrays" 304 Lib.Math.min.name Lib.Math.min.code := ⟨ch_wg 1115 (by decide +kernel) (by decide +kernel), ch_wg 509 (by decide +kernel) (by decide +kernel), ch_wg 16 (by decide +kernel) (by decide +kernel), ch_wg 510 (by decide +kernel) (by decide +kernel)⟩
theorem nk_copy : ch_AC "java/util/Arrays" 150 := ⟨ch_wg 1116 (by decide +kernel) (by decide +kernel), ch_wg 335 (by decide +kernel) (by decide +kernel), ch_wg 334 (by decide +kernel) (by decide +kernel), ch_wg 14 (by decide +kernel) (by decide +kernel)⟩
