theorem d_m_thrown_0 : decode (ch_bc m_m_thrown) 0 = .ok (.aload_n 0, 1) := by decide +kernel
theorem d_m_thrown_1 : decode (ch_bc m_m_thrown) 1 = .ok (.getfield 48, 3) := by decide +kernel
theorem d_m_thrown_4 : decode (ch_bc m_m_thrown) 4 = .ok (.ireturn, 1) := by decide +kernel
theorem d_m_raises_0 : decode (ch_bc m_m_raises) 0 = .ok (.aload_n 0, 1) := by decide +kernel
theorem d_m_raises_1 : decode (ch_bc m_m_raises) 1 = .ok (.iload_n 1, 1) := by decide +kernel
theorem d_m_raises_2 : decode (ch_bc m_m_raises) 2 = .ok (.putfield 48, 3) := by decide +kernel
theorem d_m_raises_5 : decode (ch_bc m_m_raises) 5 = .ok (.iconst 0, 1) := by decide +kernel
theorem d_m_raises_6 : decode (ch_bc m_m_raises) 6 = .ok (.ireturn, 1) := by decide +kernel
theorem d_m_in_0 : decode (ch_bc m_m_in) 0 = .ok (.iload_n 0, 1) := by decide +kernel
theorem d_m_in_1 : decode (ch_bc m_m_in) 1 = .ok (.iload_n 1, 1) := by decide +kernel
theorem d_m_in_2 : decode (ch_bc m_m_in) 2 = .ok (.if_icmp .lt 12, 3) := by decide +kernel
theorem d_m_in_5 : decode (ch_bc m_m_in) 5 = .ok (.iload_n 0, 1) := by decide +kernel
theorem d_m_in_6 : decode (ch_bc m_m_in) 6 = .ok (.iload_n 2, 1) := by decide +kernel
theorem d_m_in_7 : decode (ch_bc m_m_in) 7 = .ok (.if_icmp .gt 7, 3) := by decide +kernel
theorem d_m_in_10 : decode (ch_bc m_m_in) 10 = .ok (.iconst 1, 1) := by decide +kernel
theorem d_m_in_11 : decode (ch_bc m_m_in) 11 = .ok (.goto 4, 3) := by decide +kernel
theorem d_m_in_14 : decode (ch_bc m_m_in) 14 = .ok (.iconst 0, 1) := by decide +kernel
theorem d_m_in_15 : decode (ch_bc m_m_in) 15 = .ok (.ireturn, 1) := by decide +kernel
theorem d_m_tries_0 : decode (ch_bc m_m_tries) 0 = .ok (.aload_n 0, 1) := by decide +kernel
theorem d_m_tries_1 : decode (ch_bc m_m_tries) 1 = .ok (.iconst 0, 1) := by decide +kernel
theorem d_m_tries_2 : decode (ch_bc m_m_tries) 2 = .ok (.putfield 48, 3) := by decide +kernel
theorem d_m_tries_5 : decode (ch_bc m_m_tries) 5 = .ok (.iconst 0, 1) := by decide +kernel
theorem d_m_tries_6 : decode (ch_bc m_m_tries) 6 = .ok (.istore_n 1, 1) := by decide +kernel
theorem d_m_tries_7 : decode (ch_bc m_m_tries) 7 = .ok (.iload_n 1, 1) := by decide +kernel
theorem d_m_tries_8 : decode (ch_bc m_m_tries) 8 = .ok (.bipush 63, 2) := by decide +kernel
theorem d_m_tries_10 : decode (ch_bc m_m_tries) 10 = .ok (.if_icmp .ge 21, 3) := by decide +kernel
theorem d_m_tries_13 : decode (ch_bc m_m_tries) 13 = .ok (.aload_n 0, 1) := by decide +kernel
theorem d_m_tries_14 : decode (ch_bc m_m_tries) 14 = .ok (.getfield 13, 3) := by decide +kernel
theorem d_m_tries_17 : decode (ch_bc m_m_tries) 17 = .ok (.iload_n 1, 1) := by decide +kernel
theorem d_m_tries_18 : decode (ch_bc m_m_tries) 18 = .ok (.aload_n 0, 1) := by decide +kernel
theorem d_m_tries_19 : decode (ch_bc m_m_tries) 19 = .ok (.getfield 9, 3) := by decide +kernel
theorem d_m_tries_22 : decode (ch_bc m_m_tries) 22 = .ok (.iload_n 1, 1) := by decide +kernel
theorem d_m_tries_23 : decode (ch_bc m_m_tries) 23 = .ok (.iaload, 1) := by decide +kernel
theorem d_m_tries_24 : decode (ch_bc m_m_tries) 24 = .ok (.iastore, 1) := by decide +kernel
theorem d_m_tries_25 : decode (ch_bc m_m_tries) 25 = .ok (.iinc 1 1, 3) := by decide +kernel
theorem d_m_tries_28 : decode (ch_bc m_m_tries) 28 = .ok (.goto (-21), 3) := by decide +kernel
theorem d_m_tries_31 : decode (ch_bc m_m_tries) 31 = .ok (.return_, 1) := by decide +kernel
theorem d_m_keeps_0 : decode (ch_bc m_m_keeps) 0 = .ok (.aload_n 0, 1) := by decide +kernel
theorem d_m_keeps_1 : decode (ch_bc m_m_keeps) 1 = .ok (.getfield 51, 3) := by decide +kernel
theorem d_m_keeps_4 : decode (ch_bc m_m_keeps) 4 = .ok (.bipush 8, 2) := by decide +kernel
theorem d_m_keeps_6 : decode (ch_bc m_m_keeps) 6 = .ok (.if_icmp .ne 43, 3) := by decide +kernel
theorem d_m_keeps_9 : decode (ch_bc m_m_keeps) 9 = .ok (.iconst 0, 1) := by decide +kernel
theorem d_m_keeps_10 : decode (ch_bc m_m_keeps) 10 = .ok (.istore_n 2, 1) := by decide +kernel
theorem d_m_keeps_11 : decode (ch_bc m_m_keeps) 11 = .ok (.iload_n 2, 1) := by decide +kernel
theorem d_m_keeps_12 : decode (ch_bc m_m_keeps) 12 = .ok (.sipush 441, 3) := by decide +kernel
theorem d_m_keeps_15 : decode (ch_bc m_m_keeps) 15 = .ok (.if_icmp .ge 24, 3) := by decide +kernel
theorem d_m_keeps_18 : decode (ch_bc m_m_keeps) 18 = .ok (.aload_n 0, 1) := by decide +kernel
theorem d_m_keeps_19 : decode (ch_bc m_m_keeps) 19 = .ok (.getfield 19, 3) := by decide +kernel
theorem d_m_keeps_22 : decode (ch_bc m_m_keeps) 22 = .ok (.iload_n 2, 1) := by decide +kernel
theorem d_m_keeps_23 : decode (ch_bc m_m_keeps) 23 = .ok (.aload_n 0, 1) := by decide +kernel
theorem d_m_keeps_24 : decode (ch_bc m_m_keeps) 24 = .ok (.getfield 19, 3) := by decide +kernel
theorem d_m_keeps_27 : decode (ch_bc m_m_keeps) 27 = .ok (.bipush 63, 2) := by decide +kernel
theorem d_m_keeps_29 : decode (ch_bc m_m_keeps) 29 = .ok (.iload_n 2, 1) := by decide +kernel
theorem d_m_keeps_30 : decode (ch_bc m_m_keeps) 30 = .ok (.iadd, 1) := by decide +kernel
theorem d_m_keeps_31 : decode (ch_bc m_m_keeps) 31 = .ok (.iaload, 1) := by decide +kernel
theorem d_m_keeps_32 : decode (ch_bc m_m_keeps) 32 = .ok (.iastore, 1) := by decide +kernel
theorem d_m_keeps_33 : decode (ch_bc m_m_keeps) 33 = .ok (.iinc 2 1, 3) := by decide +kernel
theorem d_m_keeps_36 : decode (ch_bc m_m_keeps) 36 = .ok (.goto (-25), 3) := by decide +kernel
theorem d_m_keeps_39 : decode (ch_bc m_m_keeps) 39 = .ok (.aload_n 0, 1) := by decide +kernel
theorem d_m_keeps_40 : decode (ch_bc m_m_keeps) 40 = .ok (.dup, 1) := by decide +kernel
theorem d_m_keeps_41 : decode (ch_bc m_m_keeps) 41 = .ok (.getfield 51, 3) := by decide +kernel
theorem d_m_keeps_44 : decode (ch_bc m_m_keeps) 44 = .ok (.iconst 1, 1) := by decide +kernel
theorem d_m_keeps_45 : decode (ch_bc m_m_keeps) 45 = .ok (.isub, 1) := by decide +kernel
theorem d_m_keeps_46 : decode (ch_bc m_m_keeps) 46 = .ok (.putfield 51, 3) := by decide +kernel
theorem d_m_keeps_49 : decode (ch_bc m_m_keeps) 49 = .ok (.iconst 0, 1) := by decide +kernel
theorem d_m_keeps_50 : decode (ch_bc m_m_keeps) 50 = .ok (.istore_n 2, 1) := by decide +kernel
theorem d_m_keeps_51 : decode (ch_bc m_m_keeps) 51 = .ok (.iload_n 2, 1) := by decide +kernel
theorem d_m_keeps_52 : decode (ch_bc m_m_keeps) 52 = .ok (.bipush 63, 2) := by decide +kernel
theorem d_m_keeps_54 : decode (ch_bc m_m_keeps) 54 = .ok (.if_icmp .ge 29, 3) := by decide +kernel
theorem d_m_keeps_57 : decode (ch_bc m_m_keeps) 57 = .ok (.aload_n 0, 1) := by decide +kernel
theorem d_m_keeps_58 : decode (ch_bc m_m_keeps) 58 = .ok (.getfield 19, 3) := by decide +kernel
theorem d_m_keeps_61 : decode (ch_bc m_m_keeps) 61 = .ok (.bipush 63, 2) := by decide +kernel
theorem d_m_keeps_63 : decode (ch_bc m_m_keeps) 63 = .ok (.aload_n 0, 1) := by decide +kernel
theorem d_m_keeps_64 : decode (ch_bc m_m_keeps) 64 = .ok (.getfield 51, 3) := by decide +kernel
theorem d_m_keeps_67 : decode (ch_bc m_m_keeps) 67 = .ok (.imul, 1) := by decide +kernel
theorem d_m_keeps_68 : decode (ch_bc m_m_keeps) 68 = .ok (.iload_n 2, 1) := by decide +kernel
theorem d_m_keeps_69 : decode (ch_bc m_m_keeps) 69 = .ok (.iadd, 1) := by decide +kernel
theorem d_m_keeps_70 : decode (ch_bc m_m_keeps) 70 = .ok (.aload_n 0, 1) := by decide +kernel
theorem d_m_keeps_71 : decode (ch_bc m_m_keeps) 71 = .ok (.getfield 13, 3) := by decide +kernel
theorem d_m_keeps_74 : decode (ch_bc m_m_keeps) 74 = .ok (.iload_n 2, 1) := by decide +kernel
theorem d_m_keeps_75 : decode (ch_bc m_m_keeps) 75 = .ok (.iaload, 1) := by decide +kernel
theorem d_m_keeps_76 : decode (ch_bc m_m_keeps) 76 = .ok (.iastore, 1) := by decide +kernel
theorem d_m_keeps_77 : decode (ch_bc m_m_keeps) 77 = .ok (.iinc 2 1, 3) := by decide +kernel
theorem d_m_keeps_80 : decode (ch_bc m_m_keeps) 80 = .ok (.goto (-29), 3) := by decide +kernel
theorem d_m_keeps_83 : decode (ch_bc m_m_keeps) 83 = .ok (.aload_n 0, 1) := by decide +kernel
theorem d_m_keeps_84 : decode (ch_bc m_m_keeps) 84 = .ok (.dup, 1) := by decide +kernel
theorem d_m_keeps_85 : decode (ch_bc m_m_keeps) 85 = .ok (.getfield 51, 3) := by decide +kernel
theorem d_m_keeps_88 : decode (ch_bc m_m_keeps) 88 = .ok (.iconst 1, 1) := by decide +kernel
theorem d_m_keeps_89 : decode (ch_bc m_m_keeps) 89 = .ok (.iadd, 1) := by decide +kernel
theorem d_m_keeps_90 : decode (ch_bc m_m_keeps) 90 = .ok (.putfield 51, 3) := by decide +kernel
theorem d_m_keeps_93 : decode (ch_bc m_m_keeps) 93 = .ok (.iload_n 1, 1) := by decide +kernel
theorem d_m_keeps_94 : decode (ch_bc m_m_keeps) 94 = .ok (.ireturn, 1) := by decide +kernel
theorem d_m_does_0 : decode (ch_bc m_m_does) 0 = .ok (.aload_n 0, 1) := by decide +kernel
theorem d_m_does_1 : decode (ch_bc m_m_does) 1 = .ok (.iload_n 1, 1) := by decide +kernel
theorem d_m_does_2 : decode (ch_bc m_m_does) 2 = .ok (.putfield 54, 3) := by decide +kernel
theorem d_m_does_5 : decode (ch_bc m_m_does) 5 = .ok (.iconst 1, 1) := by decide +kernel
theorem d_m_does_6 : decode (ch_bc m_m_does) 6 = .ok (.ireturn, 1) := by decide +kernel
theorem d_m_refuses_0 : decode (ch_bc m_m_refuses) 0 = .ok (.aload_n 0, 1) := by decide +kernel
theorem d_m_refuses_1 : decode (ch_bc m_m_refuses) 1 = .ok (.iload_n 1, 1) := by decide +kernel
theorem d_m_refuses_2 : decode (ch_bc m_m_refuses) 2 = .ok (.putfield 57, 3) := by decide +kernel
theorem d_m_refuses_5 : decode (ch_bc m_m_refuses) 5 = .ok (.aload_n 0, 1) := by decide +kernel
theorem d_m_refuses_6 : decode (ch_bc m_m_refuses) 6 = .ok (.iload_n 2, 1) := by decide +kernel
theorem d_m_refuses_7 : decode (ch_bc m_m_refuses) 7 = .ok (.putfield 60, 3) := by decide +kernel
theorem d_m_refuses_10 : decode (ch_bc m_m_refuses) 10 = .ok (.aload_n 0, 1) := by decide +kernel
theorem d_m_refuses_11 : decode (ch_bc m_m_refuses) 11 = .ok (.iconst 0, 1) := by decide +kernel
theorem d_m_refuses_12 : decode (ch_bc m_m_refuses) 12 = .ok (.putfield 63, 3) := by decide +kernel
theorem d_m_refuses_15 : decode (ch_bc m_m_refuses) 15 = .ok (.iconst 0, 1) := by decide +kernel
theorem d_m_refuses_16 : decode (ch_bc m_m_refuses) 16 = .ok (.ireturn, 1) := by decide +kernel
theorem d_m_ends_0 : decode (ch_bc m_m_ends) 0 = .ok (.iload_n 1, 1) := by decide +kernel
theorem d_m_ends_1 : decode (ch_bc m_m_ends) 1 = .ok (.ifCond .eq 14, 3) := by decide +kernel
theorem d_m_ends_4 : decode (ch_bc m_m_ends) 4 = .ok (.aload_n 0, 1) := by decide +kernel
theorem d_m_ends_5 : decode (ch_bc m_m_ends) 5 = .ok (.aload_n 0, 1) := by decide +kernel
theorem d_m_ends_6 : decode (ch_bc m_m_ends) 6 = .ok (.getfield 54, 3) := by decide +kernel
theorem d_m_ends_9 : decode (ch_bc m_m_ends) 9 = .ok (.invokevirtual 66, 3) := by decide +kernel
theorem d_m_ends_12 : decode (ch_bc m_m_ends) 12 = .ok (.goto 8, 3) := by decide +kernel
theorem d_m_ends_15 : decode (ch_bc m_m_ends) 15 = .ok (.aload_n 0, 1) := by decide +kernel
theorem d_m_ends_16 : decode (ch_bc m_m_ends) 16 = .ok (.iconst 1, 1) := by decide +kernel
theorem d_m_ends_17 : decode (ch_bc m_m_ends) 17 = .ok (.invokevirtual 70, 3) := by decide +kernel
theorem d_m_ends_20 : decode (ch_bc m_m_ends) 20 = .ok (.ireturn, 1) := by decide +kernel
theorem d_m_isChild_0 : decode (ch_bc m_m_isChild) 0 = .ok (.iload_n 1, 1) := by decide +kernel
theorem d_m_isChild_1 : decode (ch_bc m_m_isChild) 1 = .ok (.iconst 0, 1) := by decide +kernel
theorem d_m_isChild_2 : decode (ch_bc m_m_isChild) 2 = .ok (.aload_n 0, 1) := by decide +kernel
theorem d_m_isChild_3 : decode (ch_bc m_m_isChild) 3 = .ok (.getfield 9, 3) := by decide +kernel
theorem d_m_isChild_6 : decode (ch_bc m_m_isChild) 6 = .ok (.iconst 0, 1) := by decide +kernel
theorem d_m_isChild_7 : decode (ch_bc m_m_isChild) 7 = .ok (.iaload, 1) := by decide +kernel
theorem d_m_isChild_8 : decode (ch_bc m_m_isChild) 8 = .ok (.iconst 1, 1) := by decide +kernel
theorem d_m_isChild_9 : decode (ch_bc m_m_isChild) 9 = .ok (.isub, 1) := by decide +kernel
theorem d_m_isChild_10 : decode (ch_bc m_m_isChild) 10 = .ok (.invokestatic 73, 3) := by decide +kernel
theorem d_m_isChild_13 : decode (ch_bc m_m_isChild) 13 = .ok (.ireturn, 1) := by decide +kernel
theorem d_m_isThere_0 : decode (ch_bc m_m_isThere) 0 = .ok (.aload_n 0, 1) := by decide +kernel
theorem d_m_isThere_1 : decode (ch_bc m_m_isThere) 1 = .ok (.iload_n 1, 1) := by decide +kernel
theorem d_m_isThere_2 : decode (ch_bc m_m_isThere) 2 = .ok (.invokevirtual 77, 3) := by decide +kernel
theorem d_m_isThere_5 : decode (ch_bc m_m_isThere) 5 = .ok (.ifCond .ne 17, 3) := by decide +kernel
theorem d_m_isThere_8 : decode (ch_bc m_m_isThere) 8 = .ok (.aload_n 0, 1) := by decide +kernel
theorem d_m_isThere_9 : decode (ch_bc m_m_isThere) 9 = .ok (.iconst 3, 1) := by decide +kernel
theorem d_m_isThere_10 : decode (ch_bc m_m_isThere) 10 = .ok (.aload_n 0, 1) := by decide +kernel
theorem d_m_isThere_11 : decode (ch_bc m_m_isThere) 11 = .ok (.getfield 9, 3) := by decide +kernel
theorem d_m_isThere_14 : decode (ch_bc m_m_isThere) 14 = .ok (.iconst 0, 1) := by decide +kernel
theorem d_m_isThere_15 : decode (ch_bc m_m_isThere) 15 = .ok (.iaload, 1) := by decide +kernel
theorem d_m_isThere_16 : decode (ch_bc m_m_isThere) 16 = .ok (.invokevirtual 81, 3) := by decide +kernel
theorem d_m_isThere_19 : decode (ch_bc m_m_isThere) 19 = .ok (.ifCond .eq 7, 3) := by decide +kernel
theorem d_m_isThere_22 : decode (ch_bc m_m_isThere) 22 = .ok (.iconst 1, 1) := by decide +kernel
theorem d_m_isThere_23 : decode (ch_bc m_m_isThere) 23 = .ok (.goto 4, 3) := by decide +kernel
theorem d_m_isThere_26 : decode (ch_bc m_m_isThere) 26 = .ok (.iconst 0, 1) := by decide +kernel
theorem d_m_isThere_27 : decode (ch_bc m_m_isThere) 27 = .ok (.ireturn, 1) := by decide +kernel
theorem d_m_of_0 : decode (ch_bc m_m_of) 0 = .ok (.aload_n 0, 1) := by decide +kernel
theorem d_m_of_1 : decode (ch_bc m_m_of) 1 = .ok (.getfield 9, 3) := by decide +kernel
theorem d_m_of_4 : decode (ch_bc m_m_of) 4 = .ok (.bipush 38, 2) := by decide +kernel
theorem d_m_of_6 : decode (ch_bc m_m_of) 6 = .ok (.iconst 5, 1) := by decide +kernel
theorem d_m_of_7 : decode (ch_bc m_m_of) 7 = .ok (.iload_n 1, 1) := by decide +kernel
theorem d_m_of_8 : decode (ch_bc m_m_of) 8 = .ok (.imul, 1) := by decide +kernel
theorem d_m_of_9 : decode (ch_bc m_m_of) 9 = .ok (.iadd, 1) := by decide +kernel
theorem d_m_of_10 : decode (ch_bc m_m_of) 10 = .ok (.iload_n 2, 1) := by decide +kernel
theorem d_m_of_11 : decode (ch_bc m_m_of) 11 = .ok (.iadd, 1) := by decide +kernel
theorem d_m_of_12 : decode (ch_bc m_m_of) 12 = .ok (.iaload, 1) := by decide +kernel
theorem d_m_of_13 : decode (ch_bc m_m_of) 13 = .ok (.ireturn, 1) := by decide +kernel
theorem d_m_sets_0 : decode (ch_bc m_m_sets) 0 = .ok (.aload_n 0, 1) := by decide +kernel
theorem d_m_sets_1 : decode (ch_bc m_m_sets) 1 = .ok (.getfield 9, 3) := by decide +kernel
theorem d_m_sets_4 : decode (ch_bc m_m_sets) 4 = .ok (.bipush 38, 2) := by decide +kernel
theorem d_m_sets_6 : decode (ch_bc m_m_sets) 6 = .ok (.iconst 5, 1) := by decide +kernel
theorem d_m_sets_7 : decode (ch_bc m_m_sets) 7 = .ok (.iload_n 1, 1) := by decide +kernel
theorem d_m_sets_8 : decode (ch_bc m_m_sets) 8 = .ok (.imul, 1) := by decide +kernel
theorem d_m_sets_9 : decode (ch_bc m_m_sets) 9 = .ok (.iadd, 1) := by decide +kernel
theorem d_m_sets_10 : decode (ch_bc m_m_sets) 10 = .ok (.iload_n 2, 1) := by decide +kernel
theorem d_m_sets_11 : decode (ch_bc m_m_sets) 11 = .ok (.iadd, 1) := by decide +kernel
theorem d_m_sets_12 : decode (ch_bc m_m_sets) 12 = .ok (.iload_n 3, 1) := by decide +kernel
theorem d_m_sets_13 : decode (ch_bc m_m_sets) 13 = .ok (.iastore, 1) := by decide +kernel
theorem d_m_sets_14 : decode (ch_bc m_m_sets) 14 = .ok (.return_, 1) := by decide +kernel
theorem d_m_owner_0 : decode (ch_bc m_m_owner) 0 = .ok (.aload_n 0, 1) := by decide +kernel
theorem d_m_owner_1 : decode (ch_bc m_m_owner) 1 = .ok (.getfield 9, 3) := by decide +kernel
theorem d_m_owner_4 : decode (ch_bc m_m_owner) 4 = .ok (.bipush 14, 2) := by decide +kernel
theorem d_m_owner_6 : decode (ch_bc m_m_owner) 6 = .ok (.iconst 2, 1) := by decide +kernel
theorem d_m_owner_7 : decode (ch_bc m_m_owner) 7 = .ok (.iload_n 1, 1) := by decide +kernel
theorem d_m_owner_8 : decode (ch_bc m_m_owner) 8 = .ok (.imul, 1) := by decide +kernel
theorem d_m_owner_9 : decode (ch_bc m_m_owner) 9 = .ok (.iadd, 1) := by decide +kernel
theorem d_m_owner_10 : decode (ch_bc m_m_owner) 10 = .ok (.iaload, 1) := by decide +kernel
theorem d_m_owner_11 : decode (ch_bc m_m_owner) 11 = .ok (.iconst 1, 1) := by decide +kernel
theorem d_m_owner_12 : decode (ch_bc m_m_owner) 12 = .ok (.isub, 1) := by decide +kernel
theorem d_m_owner_13 : decode (ch_bc m_m_owner) 13 = .ok (.ireturn, 1) := by decide +kernel
theorem d_m_chalkOf_0 : decode (ch_bc m_m_chalkOf) 0 = .ok (.aload_n 0, 1) := by decide +kernel
theorem d_m_chalkOf_1 : decode (ch_bc m_m_chalkOf) 1 = .ok (.getfield 9, 3) := by decide +kernel
theorem d_m_chalkOf_4 : decode (ch_bc m_m_chalkOf) 4 = .ok (.bipush 14, 2) := by decide +kernel
theorem d_m_chalkOf_6 : decode (ch_bc m_m_chalkOf) 6 = .ok (.iconst 2, 1) := by decide +kernel
theorem d_m_chalkOf_7 : decode (ch_bc m_m_chalkOf) 7 = .ok (.iload_n 1, 1) := by decide +kernel
theorem d_m_chalkOf_8 : decode (ch_bc m_m_chalkOf) 8 = .ok (.imul, 1) := by decide +kernel
theorem d_m_chalkOf_9 : decode (ch_bc m_m_chalkOf) 9 = .ok (.iadd, 1) := by decide +kernel
theorem d_m_chalkOf_10 : decode (ch_bc m_m_chalkOf) 10 = .ok (.iconst 1, 1) := by decide +kernel
theorem d_m_chalkOf_11 : decode (ch_bc m_m_chalkOf) 11 = .ok (.iadd, 1) := by decide +kernel
theorem d_m_chalkOf_12 : decode (ch_bc m_m_chalkOf) 12 = .ok (.iaload, 1) := by decide +kernel
theorem d_m_chalkOf_13 : decode (ch_bc m_m_chalkOf) 13 = .ok (.ireturn, 1) := by decide +kernel
theorem d_m_frees_0 : decode (ch_bc m_m_frees) 0 = .ok (.aload_n 0, 1) := by decide +kernel
theorem d_m_frees_1 : decode (ch_bc m_m_frees) 1 = .ok (.getfield 9, 3) := by decide +kernel
theorem d_m_frees_4 : decode (ch_bc m_m_frees) 4 = .ok (.bipush 14, 2) := by decide +kernel
theorem d_m_frees_6 : decode (ch_bc m_m_frees) 6 = .ok (.iconst 2, 1) := by decide +kernel
theorem d_m_frees_7 : decode (ch_bc m_m_frees) 7 = .ok (.iload_n 1, 1) := by decide +kernel
theorem d_m_frees_8 : decode (ch_bc m_m_frees) 8 = .ok (.imul, 1) := by decide +kernel
theorem d_m_frees_9 : decode (ch_bc m_m_frees) 9 = .ok (.iadd, 1) := by decide +kernel
theorem d_m_frees_10 : decode (ch_bc m_m_frees) 10 = .ok (.iconst 0, 1) := by decide +kernel
theorem d_m_frees_11 : decode (ch_bc m_m_frees) 11 = .ok (.iastore, 1) := by decide +kernel
theorem d_m_frees_12 : decode (ch_bc m_m_frees) 12 = .ok (.aload_n 0, 1) := by decide +kernel
theorem d_m_frees_13 : decode (ch_bc m_m_frees) 13 = .ok (.getfield 9, 3) := by decide +kernel
theorem d_m_frees_16 : decode (ch_bc m_m_frees) 16 = .ok (.bipush 14, 2) := by decide +kernel
theorem d_m_frees_18 : decode (ch_bc m_m_frees) 18 = .ok (.iconst 2, 1) := by decide +kernel
theorem d_m_frees_19 : decode (ch_bc m_m_frees) 19 = .ok (.iload_n 1, 1) := by decide +kernel
theorem d_m_frees_20 : decode (ch_bc m_m_frees) 20 = .ok (.imul, 1) := by decide +kernel
theorem d_m_frees_21 : decode (ch_bc m_m_frees) 21 = .ok (.iadd, 1) := by decide +kernel
theorem d_m_frees_22 : decode (ch_bc m_m_frees) 22 = .ok (.iconst 1, 1) := by decide +kernel
theorem d_m_frees_23 : decode (ch_bc m_m_frees) 23 = .ok (.iadd, 1) := by decide +kernel
theorem d_m_frees_24 : decode (ch_bc m_m_frees) 24 = .ok (.iconst 0, 1) := by decide +kernel
theorem d_m_frees_25 : decode (ch_bc m_m_frees) 25 = .ok (.iastore, 1) := by decide +kernel
theorem d_m_frees_26 : decode (ch_bc m_m_frees) 26 = .ok (.return_, 1) := by decide +kernel
theorem d_m_pays_0 : decode (ch_bc m_m_pays) 0 = .ok (.aload_n 0, 1) := by decide +kernel
theorem d_m_pays_1 : decode (ch_bc m_m_pays) 1 = .ok (.iload_n 1, 1) := by decide +kernel
theorem d_m_pays_2 : decode (ch_bc m_m_pays) 2 = .ok (.iconst 0, 1) := by decide +kernel
theorem d_m_pays_3 : decode (ch_bc m_m_pays) 3 = .ok (.invokevirtual 85, 3) := by decide +kernel
theorem d_m_pays_6 : decode (ch_bc m_m_pays) 6 = .ok (.iload_n 2, 1) := by decide +kernel
theorem d_m_pays_7 : decode (ch_bc m_m_pays) 7 = .ok (.if_icmp .ge 17, 3) := by decide +kernel
theorem d_m_pays_10 : decode (ch_bc m_m_pays) 10 = .ok (.aload_n 0, 1) := by decide +kernel
theorem d_m_pays_11 : decode (ch_bc m_m_pays) 11 = .ok (.iconst 5, 1) := by decide +kernel
theorem d_m_pays_12 : decode (ch_bc m_m_pays) 12 = .ok (.iload_n 2, 1) := by decide +kernel
theorem d_m_pays_13 : decode (ch_bc m_m_pays) 13 = .ok (.aload_n 0, 1) := by decide +kernel
theorem d_m_pays_14 : decode (ch_bc m_m_pays) 14 = .ok (.iload_n 1, 1) := by decide +kernel
theorem d_m_pays_15 : decode (ch_bc m_m_pays) 15 = .ok (.iconst 0, 1) := by decide +kernel
theorem d_m_pays_16 : decode (ch_bc m_m_pays) 16 = .ok (.invokevirtual 85, 3) := by decide +kernel
theorem d_m_pays_19 : decode (ch_bc m_m_pays) 19 = .ok (.isub, 1) := by decide +kernel
theorem d_m_pays_20 : decode (ch_bc m_m_pays) 20 = .ok (.invokevirtual 81, 3) := by decide +kernel
theorem d_m_pays_23 : decode (ch_bc m_m_pays) 23 = .ok (.ireturn, 1) := by decide +kernel
theorem d_m_pays_24 : decode (ch_bc m_m_pays) 24 = .ok (.aload_n 0, 1) := by decide +kernel
theorem d_m_pays_25 : decode (ch_bc m_m_pays) 25 = .ok (.iload_n 1, 1) := by decide +kernel
theorem d_m_pays_26 : decode (ch_bc m_m_pays) 26 = .ok (.iconst 0, 1) := by decide +kernel
theorem d_m_pays_27 : decode (ch_bc m_m_pays) 27 = .ok (.aload_n 0, 1) := by decide +kernel
theorem d_m_pays_28 : decode (ch_bc m_m_pays) 28 = .ok (.iload_n 1, 1) := by decide +kernel
theorem d_m_pays_29 : decode (ch_bc m_m_pays) 29 = .ok (.iconst 0, 1) := by decide +kernel
theorem d_m_pays_30 : decode (ch_bc m_m_pays) 30 = .ok (.invokevirtual 85, 3) := by decide +kernel
theorem d_m_pays_33 : decode (ch_bc m_m_pays) 33 = .ok (.iload_n 2, 1) := by decide +kernel
theorem d_m_pays_34 : decode (ch_bc m_m_pays) 34 = .ok (.isub, 1) := by decide +kernel
theorem d_m_pays_35 : decode (ch_bc m_m_pays) 35 = .ok (.invokevirtual 89, 3) := by decide +kernel
theorem d_m_pays_38 : decode (ch_bc m_m_pays) 38 = .ok (.aload_n 0, 1) := by decide +kernel
theorem d_m_pays_39 : decode (ch_bc m_m_pays) 39 = .ok (.getfield 9, 3) := by decide +kernel
theorem d_m_pays_42 : decode (ch_bc m_m_pays) 42 = .ok (.iconst 1, 1) := by decide +kernel
theorem d_m_pays_43 : decode (ch_bc m_m_pays) 43 = .ok (.dup2, 1) := by decide +kernel
theorem d_m_pays_44 : decode (ch_bc m_m_pays) 44 = .ok (.iaload, 1) := by decide +kernel
theorem d_m_pays_45 : decode (ch_bc m_m_pays) 45 = .ok (.iload_n 2, 1) := by decide +kernel
theorem d_m_pays_46 : decode (ch_bc m_m_pays) 46 = .ok (.iadd, 1) := by decide +kernel
theorem d_m_pays_47 : decode (ch_bc m_m_pays) 47 = .ok (.iastore, 1) := by decide +kernel
theorem d_m_pays_48 : decode (ch_bc m_m_pays) 48 = .ok (.iconst 1, 1) := by decide +kernel
theorem d_m_pays_49 : decode (ch_bc m_m_pays) 49 = .ok (.ireturn, 1) := by decide +kernel
theorem d_m_comes_0 : decode (ch_bc m_m_comes) 0 = .ok (.iload_n 1, 1) := by decide +kernel
theorem d_m_comes_1 : decode (ch_bc m_m_comes) 1 = .ok (.iconst 0, 1) := by decide +kernel
theorem d_m_comes_2 : decode (ch_bc m_m_comes) 2 = .ok (.bipush 99, 2) := by decide +kernel
theorem d_m_comes_4 : decode (ch_bc m_m_comes) 4 = .ok (.invokestatic 73, 3) := by decide +kernel
theorem d_m_comes_7 : decode (ch_bc m_m_comes) 7 = .ok (.ifCond .ne 10, 3) := by decide +kernel
theorem d_m_comes_10 : decode (ch_bc m_m_comes) 10 = .ok (.aload_n 0, 1) := by decide +kernel
theorem d_m_comes_11 : decode (ch_bc m_m_comes) 11 = .ok (.iconst 1, 1) := by decide +kernel
theorem d_m_comes_12 : decode (ch_bc m_m_comes) 12 = .ok (.iconst 0, 1) := by decide +kernel
theorem d_m_comes_13 : decode (ch_bc m_m_comes) 13 = .ok (.invokevirtual 81, 3) := by decide +kernel
theorem d_m_comes_16 : decode (ch_bc m_m_comes) 16 = .ok (.ireturn, 1) := by decide +kernel
theorem d_m_comes_17 : decode (ch_bc m_m_comes) 17 = .ok (.aload_n 0, 1) := by decide +kernel
theorem d_m_comes_18 : decode (ch_bc m_m_comes) 18 = .ok (.getfield 9, 3) := by decide +kernel
theorem d_m_comes_21 : decode (ch_bc m_m_comes) 21 = .ok (.iconst 0, 1) := by decide +kernel
theorem d_m_comes_22 : decode (ch_bc m_m_comes) 22 = .ok (.iaload, 1) := by decide +kernel
theorem d_m_comes_23 : decode (ch_bc m_m_comes) 23 = .ok (.iconst 5, 1) := by decide +kernel
theorem d_m_comes_24 : decode (ch_bc m_m_comes) 24 = .ok (.if_icmp .ne 10, 3) := by decide +kernel
theorem d_m_comes_27 : decode (ch_bc m_m_comes) 27 = .ok (.aload_n 0, 1) := by decide +kernel
theorem d_m_comes_28 : decode (ch_bc m_m_comes) 28 = .ok (.iconst 2, 1) := by decide +kernel
theorem d_m_comes_29 : decode (ch_bc m_m_comes) 29 = .ok (.iconst 5, 1) := by decide +kernel
theorem d_m_comes_30 : decode (ch_bc m_m_comes) 30 = .ok (.invokevirtual 81, 3) := by decide +kernel
theorem d_m_comes_33 : decode (ch_bc m_m_comes) 33 = .ok (.ireturn, 1) := by decide +kernel
theorem d_m_comes_34 : decode (ch_bc m_m_comes) 34 = .ok (.aload_n 0, 1) := by decide +kernel
theorem d_m_comes_35 : decode (ch_bc m_m_comes) 35 = .ok (.getfield 9, 3) := by decide +kernel
theorem d_m_comes_38 : decode (ch_bc m_m_comes) 38 = .ok (.iconst 0, 1) := by decide +kernel
theorem d_m_comes_39 : decode (ch_bc m_m_comes) 39 = .ok (.dup2, 1) := by decide +kernel
theorem d_m_comes_40 : decode (ch_bc m_m_comes) 40 = .ok (.iaload, 1) := by decide +kernel
theorem d_m_comes_41 : decode (ch_bc m_m_comes) 41 = .ok (.dup_x2, 1) := by decide +kernel
theorem d_m_comes_42 : decode (ch_bc m_m_comes) 42 = .ok (.iconst 1, 1) := by decide +kernel
theorem d_m_comes_43 : decode (ch_bc m_m_comes) 43 = .ok (.iadd, 1) := by decide +kernel
theorem d_m_comes_44 : decode (ch_bc m_m_comes) 44 = .ok (.iastore, 1) := by decide +kernel
theorem d_m_comes_45 : decode (ch_bc m_m_comes) 45 = .ok (.istore_n 2, 1) := by decide +kernel
theorem d_m_comes_46 : decode (ch_bc m_m_comes) 46 = .ok (.iconst 0, 1) := by decide +kernel
theorem d_m_comes_47 : decode (ch_bc m_m_comes) 47 = .ok (.istore_n 3, 1) := by decide +kernel
theorem d_m_comes_48 : decode (ch_bc m_m_comes) 48 = .ok (.iload_n 3, 1) := by decide +kernel
theorem d_m_comes_49 : decode (ch_bc m_m_comes) 49 = .ok (.iconst 5, 1) := by decide +kernel
theorem d_m_comes_50 : decode (ch_bc m_m_comes) 50 = .ok (.if_icmp .ge 16, 3) := by decide +kernel
theorem d_m_comes_53 : decode (ch_bc m_m_comes) 53 = .ok (.aload_n 0, 1) := by decide +kernel
theorem d_m_comes_54 : decode (ch_bc m_m_comes) 54 = .ok (.iload_n 2, 1) := by decide +kernel
theorem d_m_comes_55 : decode (ch_bc m_m_comes) 55 = .ok (.iload_n 3, 1) := by decide +kernel
theorem d_m_comes_56 : decode (ch_bc m_m_comes) 56 = .ok (.iconst 0, 1) := by decide +kernel
theorem d_m_comes_57 : decode (ch_bc m_m_comes) 57 = .ok (.invokevirtual 89, 3) := by decide +kernel
theorem d_m_comes_60 : decode (ch_bc m_m_comes) 60 = .ok (.iinc 3 1, 3) := by decide +kernel
theorem d_m_comes_63 : decode (ch_bc m_m_comes) 63 = .ok (.goto (-15), 3) := by decide +kernel
theorem d_m_comes_66 : decode (ch_bc m_m_comes) 66 = .ok (.aload_n 0, 1) := by decide +kernel
theorem d_m_comes_67 : decode (ch_bc m_m_comes) 67 = .ok (.iload_n 2, 1) := by decide +kernel
theorem d_m_comes_68 : decode (ch_bc m_m_comes) 68 = .ok (.iconst 0, 1) := by decide +kernel
theorem d_m_comes_69 : decode (ch_bc m_m_comes) 69 = .ok (.iload_n 1, 1) := by decide +kernel
theorem d_m_comes_70 : decode (ch_bc m_m_comes) 70 = .ok (.invokevirtual 89, 3) := by decide +kernel
theorem d_m_comes_73 : decode (ch_bc m_m_comes) 73 = .ok (.aload_n 0, 1) := by decide +kernel
theorem d_m_comes_74 : decode (ch_bc m_m_comes) 74 = .ok (.getfield 9, 3) := by decide +kernel
theorem d_m_comes_77 : decode (ch_bc m_m_comes) 77 = .ok (.iconst 2, 1) := by decide +kernel
theorem d_m_comes_78 : decode (ch_bc m_m_comes) 78 = .ok (.dup2, 1) := by decide +kernel
theorem d_m_comes_79 : decode (ch_bc m_m_comes) 79 = .ok (.iaload, 1) := by decide +kernel
theorem d_m_comes_80 : decode (ch_bc m_m_comes) 80 = .ok (.iload_n 1, 1) := by decide +kernel
theorem d_m_comes_81 : decode (ch_bc m_m_comes) 81 = .ok (.iadd, 1) := by decide +kernel
theorem d_m_comes_82 : decode (ch_bc m_m_comes) 82 = .ok (.iastore, 1) := by decide +kernel
theorem d_m_comes_83 : decode (ch_bc m_m_comes) 83 = .ok (.aload_n 0, 1) := by decide +kernel
theorem d_m_comes_84 : decode (ch_bc m_m_comes) 84 = .ok (.iload_n 2, 1) := by decide +kernel
theorem d_m_comes_85 : decode (ch_bc m_m_comes) 85 = .ok (.invokevirtual 93, 3) := by decide +kernel
theorem d_m_comes_88 : decode (ch_bc m_m_comes) 88 = .ok (.ireturn, 1) := by decide +kernel
theorem d_m_child_0 : decode (ch_bc m_m_child) 0 = .ok (.aload_n 0, 1) := by decide +kernel
theorem d_m_child_1 : decode (ch_bc m_m_child) 1 = .ok (.invokevirtual 96, 3) := by decide +kernel
theorem d_m_child_4 : decode (ch_bc m_m_child) 4 = .ok (.aload_n 0, 1) := by decide +kernel
theorem d_m_child_5 : decode (ch_bc m_m_child) 5 = .ok (.aload_n 0, 1) := by decide +kernel
theorem d_m_child_6 : decode (ch_bc m_m_child) 6 = .ok (.iload_n 1, 1) := by decide +kernel
theorem d_m_child_7 : decode (ch_bc m_m_child) 7 = .ok (.invokevirtual 99, 3) := by decide +kernel
theorem d_m_child_10 : decode (ch_bc m_m_child) 10 = .ok (.invokevirtual 102, 3) := by decide +kernel
theorem d_m_child_13 : decode (ch_bc m_m_child) 13 = .ok (.ireturn, 1) := by decide +kernel
theorem d_m_chalks_0 : decode (ch_bc m_m_chalks) 0 = .ok (.aload_n 0, 1) := by decide +kernel
theorem d_m_chalks_1 : decode (ch_bc m_m_chalks) 1 = .ok (.iload_n 1, 1) := by decide +kernel
theorem d_m_chalks_2 : decode (ch_bc m_m_chalks) 2 = .ok (.invokevirtual 106, 3) := by decide +kernel
theorem d_m_chalks_5 : decode (ch_bc m_m_chalks) 5 = .ok (.ifCond .ne 5, 3) := by decide +kernel
theorem d_m_chalks_8 : decode (ch_bc m_m_chalks) 8 = .ok (.iconst 0, 1) := by decide +kernel
theorem d_m_chalks_9 : decode (ch_bc m_m_chalks) 9 = .ok (.ireturn, 1) := by decide +kernel
theorem d_m_chalks_10 : decode (ch_bc m_m_chalks) 10 = .ok (.iload_n 2, 1) := by decide +kernel
theorem d_m_chalks_11 : decode (ch_bc m_m_chalks) 11 = .ok (.iconst 0, 1) := by decide +kernel
theorem d_m_chalks_12 : decode (ch_bc m_m_chalks) 12 = .ok (.bipush 11, 2) := by decide +kernel
theorem d_m_chalks_14 : decode (ch_bc m_m_chalks) 14 = .ok (.invokestatic 73, 3) := by decide +kernel
theorem d_m_chalks_17 : decode (ch_bc m_m_chalks) 17 = .ok (.ifCond .ne 10, 3) := by decide +kernel
theorem d_m_chalks_20 : decode (ch_bc m_m_chalks) 20 = .ok (.aload_n 0, 1) := by decide +kernel
theorem d_m_chalks_21 : decode (ch_bc m_m_chalks) 21 = .ok (.iconst 1, 1) := by decide +kernel
theorem d_m_chalks_22 : decode (ch_bc m_m_chalks) 22 = .ok (.iconst 0, 1) := by decide +kernel
theorem d_m_chalks_23 : decode (ch_bc m_m_chalks) 23 = .ok (.invokevirtual 81, 3) := by decide +kernel
theorem d_m_chalks_26 : decode (ch_bc m_m_chalks) 26 = .ok (.ireturn, 1) := by decide +kernel
theorem d_m_chalks_27 : decode (ch_bc m_m_chalks) 27 = .ok (.aload_n 0, 1) := by decide +kernel
theorem d_m_chalks_28 : decode (ch_bc m_m_chalks) 28 = .ok (.iload_n 2, 1) := by decide +kernel
theorem d_m_chalks_29 : decode (ch_bc m_m_chalks) 29 = .ok (.invokevirtual 109, 3) := by decide +kernel
theorem d_m_chalks_32 : decode (ch_bc m_m_chalks) 32 = .ok (.ifCond .lt 23, 3) := by decide +kernel
theorem d_m_chalks_35 : decode (ch_bc m_m_chalks) 35 = .ok (.aload_n 0, 1) := by decide +kernel
theorem d_m_chalks_36 : decode (ch_bc m_m_chalks) 36 = .ok (.iload_n 2, 1) := by decide +kernel
theorem d_m_chalks_37 : decode (ch_bc m_m_chalks) 37 = .ok (.invokevirtual 109, 3) := by decide +kernel
theorem d_m_chalks_40 : decode (ch_bc m_m_chalks) 40 = .ok (.iload_n 1, 1) := by decide +kernel
theorem d_m_chalks_41 : decode (ch_bc m_m_chalks) 41 = .ok (.if_icmp .eq 14, 3) := by decide +kernel
theorem d_m_chalks_44 : decode (ch_bc m_m_chalks) 44 = .ok (.aload_n 0, 1) := by decide +kernel
theorem d_m_chalks_45 : decode (ch_bc m_m_chalks) 45 = .ok (.iconst 4, 1) := by decide +kernel
theorem d_m_chalks_46 : decode (ch_bc m_m_chalks) 46 = .ok (.aload_n 0, 1) := by decide +kernel
theorem d_m_chalks_47 : decode (ch_bc m_m_chalks) 47 = .ok (.iload_n 2, 1) := by decide +kernel
theorem d_m_chalks_48 : decode (ch_bc m_m_chalks) 48 = .ok (.invokevirtual 109, 3) := by decide +kernel
theorem d_m_chalks_51 : decode (ch_bc m_m_chalks) 51 = .ok (.invokevirtual 81, 3) := by decide +kernel
theorem d_m_chalks_54 : decode (ch_bc m_m_chalks) 54 = .ok (.ireturn, 1) := by decide +kernel
theorem d_m_chalks_55 : decode (ch_bc m_m_chalks) 55 = .ok (.aload_n 0, 1) := by decide +kernel
theorem d_m_chalks_56 : decode (ch_bc m_m_chalks) 56 = .ok (.iload_n 2, 1) := by decide +kernel
theorem d_m_chalks_57 : decode (ch_bc m_m_chalks) 57 = .ok (.invokevirtual 112, 3) := by decide +kernel
theorem d_m_chalks_60 : decode (ch_bc m_m_chalks) 60 = .ok (.bipush 9, 2) := by decide +kernel
theorem d_m_chalks_62 : decode (ch_bc m_m_chalks) 62 = .ok (.if_icmp .ne 11, 3) := by decide +kernel
theorem d_m_chalks_65 : decode (ch_bc m_m_chalks) 65 = .ok (.aload_n 0, 1) := by decide +kernel
theorem d_m_chalks_66 : decode (ch_bc m_m_chalks) 66 = .ok (.bipush 6, 2) := by decide +kernel
theorem d_m_chalks_68 : decode (ch_bc m_m_chalks) 68 = .ok (.iload_n 2, 1) := by decide +kernel
theorem d_m_chalks_69 : decode (ch_bc m_m_chalks) 69 = .ok (.invokevirtual 81, 3) := by decide +kernel
theorem d_m_chalks_72 : decode (ch_bc m_m_chalks) 72 = .ok (.ireturn, 1) := by decide +kernel
theorem d_m_chalks_73 : decode (ch_bc m_m_chalks) 73 = .ok (.aload_n 0, 1) := by decide +kernel
theorem d_m_chalks_74 : decode (ch_bc m_m_chalks) 74 = .ok (.iload_n 1, 1) := by decide +kernel
theorem d_m_chalks_75 : decode (ch_bc m_m_chalks) 75 = .ok (.iconst 1, 1) := by decide +kernel
theorem d_m_chalks_76 : decode (ch_bc m_m_chalks) 76 = .ok (.invokevirtual 115, 3) := by decide +kernel
theorem d_m_chalks_79 : decode (ch_bc m_m_chalks) 79 = .ok (.ifCond .ne 5, 3) := by decide +kernel
theorem d_m_chalks_82 : decode (ch_bc m_m_chalks) 82 = .ok (.iconst 0, 1) := by decide +kernel
theorem d_m_chalks_83 : decode (ch_bc m_m_chalks) 83 = .ok (.ireturn, 1) := by decide +kernel
theorem d_m_chalks_84 : decode (ch_bc m_m_chalks) 84 = .ok (.aload_n 0, 1) := by decide +kernel
theorem d_m_chalks_85 : decode (ch_bc m_m_chalks) 85 = .ok (.getfield 9, 3) := by decide +kernel
theorem d_m_chalks_88 : decode (ch_bc m_m_chalks) 88 = .ok (.bipush 14, 2) := by decide +kernel
theorem d_m_chalks_90 : decode (ch_bc m_m_chalks) 90 = .ok (.iconst 2, 1) := by decide +kernel
theorem d_m_chalks_91 : decode (ch_bc m_m_chalks) 91 = .ok (.iload_n 2, 1) := by decide +kernel
theorem d_m_chalks_92 : decode (ch_bc m_m_chalks) 92 = .ok (.imul, 1) := by decide +kernel
theorem d_m_chalks_93 : decode (ch_bc m_m_chalks) 93 = .ok (.iadd, 1) := by decide +kernel
theorem d_m_chalks_94 : decode (ch_bc m_m_chalks) 94 = .ok (.iconst 1, 1) := by decide +kernel
theorem d_m_chalks_95 : decode (ch_bc m_m_chalks) 95 = .ok (.iadd, 1) := by decide +kernel
theorem d_m_chalks_96 : decode (ch_bc m_m_chalks) 96 = .ok (.aload_n 0, 1) := by decide +kernel
theorem d_m_chalks_97 : decode (ch_bc m_m_chalks) 97 = .ok (.iload_n 2, 1) := by decide +kernel
theorem d_m_chalks_98 : decode (ch_bc m_m_chalks) 98 = .ok (.invokevirtual 109, 3) := by decide +kernel
theorem d_m_chalks_101 : decode (ch_bc m_m_chalks) 101 = .ok (.iload_n 1, 1) := by decide +kernel
theorem d_m_chalks_102 : decode (ch_bc m_m_chalks) 102 = .ok (.if_icmp .ne 18, 3) := by decide +kernel
theorem d_m_chalks_105 : decode (ch_bc m_m_chalks) 105 = .ok (.bipush 9, 2) := by decide +kernel
theorem d_m_chalks_107 : decode (ch_bc m_m_chalks) 107 = .ok (.aload_n 0, 1) := by decide +kernel
theorem d_m_chalks_108 : decode (ch_bc m_m_chalks) 108 = .ok (.iload_n 2, 1) := by decide +kernel
theorem d_m_chalks_109 : decode (ch_bc m_m_chalks) 109 = .ok (.invokevirtual 112, 3) := by decide +kernel
theorem d_m_chalks_112 : decode (ch_bc m_m_chalks) 112 = .ok (.iconst 2, 1) := by decide +kernel
theorem d_m_chalks_113 : decode (ch_bc m_m_chalks) 113 = .ok (.iadd, 1) := by decide +kernel
theorem d_m_chalks_114 : decode (ch_bc m_m_chalks) 114 = .ok (.invokestatic 118, 3) := by decide +kernel
theorem d_m_chalks_117 : decode (ch_bc m_m_chalks) 117 = .ok (.goto 4, 3) := by decide +kernel
theorem d_m_chalks_120 : decode (ch_bc m_m_chalks) 120 = .ok (.iconst 5, 1) := by decide +kernel
theorem d_m_chalks_121 : decode (ch_bc m_m_chalks) 121 = .ok (.iastore, 1) := by decide +kernel
theorem d_m_chalks_122 : decode (ch_bc m_m_chalks) 122 = .ok (.aload_n 0, 1) := by decide +kernel
theorem d_m_chalks_123 : decode (ch_bc m_m_chalks) 123 = .ok (.getfield 9, 3) := by decide +kernel
theorem d_m_chalks_126 : decode (ch_bc m_m_chalks) 126 = .ok (.bipush 14, 2) := by decide +kernel
theorem d_m_chalks_128 : decode (ch_bc m_m_chalks) 128 = .ok (.iconst 2, 1) := by decide +kernel
theorem d_m_chalks_129 : decode (ch_bc m_m_chalks) 129 = .ok (.iload_n 2, 1) := by decide +kernel
theorem d_m_chalks_130 : decode (ch_bc m_m_chalks) 130 = .ok (.imul, 1) := by decide +kernel
theorem d_m_chalks_131 : decode (ch_bc m_m_chalks) 131 = .ok (.iadd, 1) := by decide +kernel
theorem d_m_chalks_132 : decode (ch_bc m_m_chalks) 132 = .ok (.iload_n 1, 1) := by decide +kernel
theorem d_m_chalks_133 : decode (ch_bc m_m_chalks) 133 = .ok (.iconst 1, 1) := by decide +kernel
theorem d_m_chalks_134 : decode (ch_bc m_m_chalks) 134 = .ok (.iadd, 1) := by decide +kernel
theorem d_m_chalks_135 : decode (ch_bc m_m_chalks) 135 = .ok (.iastore, 1) := by decide +kernel
theorem d_m_chalks_136 : decode (ch_bc m_m_chalks) 136 = .ok (.aload_n 0, 1) := by decide +kernel
theorem d_m_chalks_137 : decode (ch_bc m_m_chalks) 137 = .ok (.aload_n 0, 1) := by decide +kernel
theorem d_m_chalks_138 : decode (ch_bc m_m_chalks) 138 = .ok (.iload_n 2, 1) := by decide +kernel
theorem d_m_chalks_139 : decode (ch_bc m_m_chalks) 139 = .ok (.invokevirtual 112, 3) := by decide +kernel
theorem d_m_chalks_142 : decode (ch_bc m_m_chalks) 142 = .ok (.invokevirtual 93, 3) := by decide +kernel
theorem d_m_chalks_145 : decode (ch_bc m_m_chalks) 145 = .ok (.ireturn, 1) := by decide +kernel
theorem d_m_chalk_0 : decode (ch_bc m_m_chalk) 0 = .ok (.aload_n 0, 1) := by decide +kernel
theorem d_m_chalk_1 : decode (ch_bc m_m_chalk) 1 = .ok (.invokevirtual 96, 3) := by decide +kernel
theorem d_m_chalk_4 : decode (ch_bc m_m_chalk) 4 = .ok (.aload_n 0, 1) := by decide +kernel
theorem d_m_chalk_5 : decode (ch_bc m_m_chalk) 5 = .ok (.aload_n 0, 1) := by decide +kernel
theorem d_m_chalk_6 : decode (ch_bc m_m_chalk) 6 = .ok (.iload_n 1, 1) := by decide +kernel
theorem d_m_chalk_7 : decode (ch_bc m_m_chalk) 7 = .ok (.iload_n 2, 1) := by decide +kernel
theorem d_m_chalk_8 : decode (ch_bc m_m_chalk) 8 = .ok (.invokevirtual 123, 3) := by decide +kernel
theorem d_m_chalk_11 : decode (ch_bc m_m_chalk) 11 = .ok (.invokevirtual 102, 3) := by decide +kernel
theorem d_m_chalk_14 : decode (ch_bc m_m_chalk) 14 = .ok (.ireturn, 1) := by decide +kernel
theorem d_m_areSteps_0 : decode (ch_bc m_m_areSteps) 0 = .ok (.aload_n 0, 1) := by decide +kernel
theorem d_m_areSteps_1 : decode (ch_bc m_m_areSteps) 1 = .ok (.iconst 0, 1) := by decide +kernel
theorem d_m_areSteps_2 : decode (ch_bc m_m_areSteps) 2 = .ok (.putfield 126, 3) := by decide +kernel
theorem d_m_areSteps_5 : decode (ch_bc m_m_areSteps) 5 = .ok (.iload_n 1, 1) := by decide +kernel
theorem d_m_areSteps_6 : decode (ch_bc m_m_areSteps) 6 = .ok (.iconst 1, 1) := by decide +kernel
theorem d_m_areSteps_7 : decode (ch_bc m_m_areSteps) 7 = .ok (.if_icmp .ge 5, 3) := by decide +kernel
theorem d_m_areSteps_10 : decode (ch_bc m_m_areSteps) 10 = .ok (.iconst 0, 1) := by decide +kernel
theorem d_m_areSteps_11 : decode (ch_bc m_m_areSteps) 11 = .ok (.ireturn, 1) := by decide +kernel
theorem d_m_areSteps_12 : decode (ch_bc m_m_areSteps) 12 = .ok (.iconst 0, 1) := by decide +kernel
theorem d_m_areSteps_13 : decode (ch_bc m_m_areSteps) 13 = .ok (.istore_n 2, 1) := by decide +kernel
theorem d_m_areSteps_14 : decode (ch_bc m_m_areSteps) 14 = .ok (.iload_n 1, 1) := by decide +kernel
theorem d_m_areSteps_15 : decode (ch_bc m_m_areSteps) 15 = .ok (.istore_n 3, 1) := by decide +kernel
theorem d_m_areSteps_16 : decode (ch_bc m_m_areSteps) 16 = .ok (.iload_n 3, 1) := by decide +kernel
theorem d_m_areSteps_17 : decode (ch_bc m_m_areSteps) 17 = .ok (.ifCond .le 14, 3) := by decide +kernel
theorem d_m_areSteps_20 : decode (ch_bc m_m_areSteps) 20 = .ok (.iinc 2 1, 3) := by decide +kernel
theorem d_m_areSteps_23 : decode (ch_bc m_m_areSteps) 23 = .ok (.iload_n 3, 1) := by decide +kernel
theorem d_m_areSteps_24 : decode (ch_bc m_m_areSteps) 24 = .ok (.bipush 10, 2) := by decide +kernel
theorem d_m_areSteps_26 : decode (ch_bc m_m_areSteps) 26 = .ok (.idiv, 1) := by decide +kernel
theorem d_m_areSteps_27 : decode (ch_bc m_m_areSteps) 27 = .ok (.istore_n 3, 1) := by decide +kernel
theorem d_m_areSteps_28 : decode (ch_bc m_m_areSteps) 28 = .ok (.goto (-12), 3) := by decide +kernel
theorem d_m_areSteps_31 : decode (ch_bc m_m_areSteps) 31 = .ok (.iload_n 2, 1) := by decide +kernel
theorem d_m_areSteps_32 : decode (ch_bc m_m_areSteps) 32 = .ok (.bipush 9, 2) := by decide +kernel
theorem d_m_areSteps_34 : decode (ch_bc m_m_areSteps) 34 = .ok (.if_icmp .le 5, 3) := by decide +kernel
theorem d_m_areSteps_37 : decode (ch_bc m_m_areSteps) 37 = .ok (.iconst 0, 1) := by decide +kernel
theorem d_m_areSteps_38 : decode (ch_bc m_m_areSteps) 38 = .ok (.ireturn, 1) := by decide +kernel
theorem d_m_areSteps_39 : decode (ch_bc m_m_areSteps) 39 = .ok (.iload_n 1, 1) := by decide +kernel
theorem d_m_areSteps_40 : decode (ch_bc m_m_areSteps) 40 = .ok (.istore_n 3, 1) := by decide +kernel
theorem d_m_areSteps_41 : decode (ch_bc m_m_areSteps) 41 = .ok (.iload_n 2, 1) := by decide +kernel
theorem d_m_areSteps_42 : decode (ch_bc m_m_areSteps) 42 = .ok (.iconst 1, 1) := by decide +kernel
theorem d_m_areSteps_43 : decode (ch_bc m_m_areSteps) 43 = .ok (.isub, 1) := by decide +kernel
theorem d_m_areSteps_44 : decode (ch_bc m_m_areSteps) 44 = .ok (.istore 4, 2) := by decide +kernel
theorem d_m_areSteps_46 : decode (ch_bc m_m_areSteps) 46 = .ok (.iload 4, 2) := by decide +kernel
theorem d_m_areSteps_48 : decode (ch_bc m_m_areSteps) 48 = .ok (.ifCond .lt 42, 3) := by decide +kernel
theorem d_m_areSteps_51 : decode (ch_bc m_m_areSteps) 51 = .ok (.aload_n 0, 1) := by decide +kernel
theorem d_m_areSteps_52 : decode (ch_bc m_m_areSteps) 52 = .ok (.getfield 39, 3) := by decide +kernel
theorem d_m_areSteps_55 : decode (ch_bc m_m_areSteps) 55 = .ok (.iload 4, 2) := by decide +kernel
theorem d_m_areSteps_57 : decode (ch_bc m_m_areSteps) 57 = .ok (.iload_n 3, 1) := by decide +kernel
theorem d_m_areSteps_58 : decode (ch_bc m_m_areSteps) 58 = .ok (.bipush 10, 2) := by decide +kernel
theorem d_m_areSteps_60 : decode (ch_bc m_m_areSteps) 60 = .ok (.irem, 1) := by decide +kernel
theorem d_m_areSteps_61 : decode (ch_bc m_m_areSteps) 61 = .ok (.iastore, 1) := by decide +kernel
theorem d_m_areSteps_62 : decode (ch_bc m_m_areSteps) 62 = .ok (.aload_n 0, 1) := by decide +kernel
theorem d_m_areSteps_63 : decode (ch_bc m_m_areSteps) 63 = .ok (.getfield 39, 3) := by decide +kernel
theorem d_m_areSteps_66 : decode (ch_bc m_m_areSteps) 66 = .ok (.iload 4, 2) := by decide +kernel
theorem d_m_areSteps_68 : decode (ch_bc m_m_areSteps) 68 = .ok (.iaload, 1) := by decide +kernel
theorem d_m_areSteps_69 : decode (ch_bc m_m_areSteps) 69 = .ok (.iconst 1, 1) := by decide +kernel
theorem d_m_areSteps_70 : decode (ch_bc m_m_areSteps) 70 = .ok (.iconst 3, 1) := by decide +kernel
theorem d_m_areSteps_71 : decode (ch_bc m_m_areSteps) 71 = .ok (.invokestatic 73, 3) := by decide +kernel
theorem d_m_areSteps_74 : decode (ch_bc m_m_areSteps) 74 = .ok (.ifCond .ne 5, 3) := by decide +kernel
theorem d_m_areSteps_77 : decode (ch_bc m_m_areSteps) 77 = .ok (.iconst 0, 1) := by decide +kernel
theorem d_m_areSteps_78 : decode (ch_bc m_m_areSteps) 78 = .ok (.ireturn, 1) := by decide +kernel
theorem d_m_areSteps_79 : decode (ch_bc m_m_areSteps) 79 = .ok (.iload_n 3, 1) := by decide +kernel
theorem d_m_areSteps_80 : decode (ch_bc m_m_areSteps) 80 = .ok (.bipush 10, 2) := by decide +kernel
theorem d_m_areSteps_82 : decode (ch_bc m_m_areSteps) 82 = .ok (.idiv, 1) := by decide +kernel
theorem d_m_areSteps_83 : decode (ch_bc m_m_areSteps) 83 = .ok (.istore_n 3, 1) := by decide +kernel
theorem d_m_areSteps_84 : decode (ch_bc m_m_areSteps) 84 = .ok (.iinc 4 (-1), 3) := by decide +kernel
theorem d_m_areSteps_87 : decode (ch_bc m_m_areSteps) 87 = .ok (.goto (-41), 3) := by decide +kernel
theorem d_m_areSteps_90 : decode (ch_bc m_m_areSteps) 90 = .ok (.aload_n 0, 1) := by decide +kernel
theorem d_m_areSteps_91 : decode (ch_bc m_m_areSteps) 91 = .ok (.iload_n 2, 1) := by decide +kernel
theorem d_m_areSteps_92 : decode (ch_bc m_m_areSteps) 92 = .ok (.putfield 126, 3) := by decide +kernel
theorem d_m_areSteps_95 : decode (ch_bc m_m_areSteps) 95 = .ok (.iconst 1, 1) := by decide +kernel
theorem d_m_areSteps_96 : decode (ch_bc m_m_areSteps) 96 = .ok (.ireturn, 1) := by decide +kernel
theorem d_m_where_0 : decode (ch_bc m_m_where) 0 = .ok (.iconst (-1), 1) := by decide +kernel
theorem d_m_where_1 : decode (ch_bc m_m_where) 1 = .ok (.istore_n 1, 1) := by decide +kernel
theorem d_m_where_2 : decode (ch_bc m_m_where) 2 = .ok (.iconst 0, 1) := by decide +kernel
theorem d_m_where_3 : decode (ch_bc m_m_where) 3 = .ok (.istore_n 2, 1) := by decide +kernel
theorem d_m_where_4 : decode (ch_bc m_m_where) 4 = .ok (.iload_n 2, 1) := by decide +kernel
theorem d_m_where_5 : decode (ch_bc m_m_where) 5 = .ok (.aload_n 0, 1) := by decide +kernel
theorem d_m_where_6 : decode (ch_bc m_m_where) 6 = .ok (.getfield 126, 3) := by decide +kernel
theorem d_m_where_9 : decode (ch_bc m_m_where) 9 = .ok (.if_icmp .ge 27, 3) := by decide +kernel
theorem d_m_where_12 : decode (ch_bc m_m_where) 12 = .ok (.iload_n 1, 1) := by decide +kernel
theorem d_m_where_13 : decode (ch_bc m_m_where) 13 = .ok (.bipush 11, 2) := by decide +kernel
theorem d_m_where_15 : decode (ch_bc m_m_where) 15 = .ok (.if_icmp .lt 6, 3) := by decide +kernel
theorem d_m_where_18 : decode (ch_bc m_m_where) 18 = .ok (.bipush 12, 2) := by decide +kernel
theorem d_m_where_20 : decode (ch_bc m_m_where) 20 = .ok (.ireturn, 1) := by decide +kernel
theorem d_m_where_21 : decode (ch_bc m_m_where) 21 = .ok (.iload_n 1, 1) := by decide +kernel
theorem d_m_where_22 : decode (ch_bc m_m_where) 22 = .ok (.aload_n 0, 1) := by decide +kernel
theorem d_m_where_23 : decode (ch_bc m_m_where) 23 = .ok (.getfield 39, 3) := by decide +kernel
theorem d_m_where_26 : decode (ch_bc m_m_where) 26 = .ok (.iload_n 2, 1) := by decide +kernel
theorem d_m_where_27 : decode (ch_bc m_m_where) 27 = .ok (.iaload, 1) := by decide +kernel
theorem d_m_where_28 : decode (ch_bc m_m_where) 28 = .ok (.iadd, 1) := by decide +kernel
theorem d_m_where_29 : decode (ch_bc m_m_where) 29 = .ok (.istore_n 1, 1) := by decide +kernel
theorem d_m_where_30 : decode (ch_bc m_m_where) 30 = .ok (.iinc 2 1, 3) := by decide +kernel
theorem d_m_where_33 : decode (ch_bc m_m_where) 33 = .ok (.goto (-29), 3) := by decide +kernel
theorem d_m_where_36 : decode (ch_bc m_m_where) 36 = .ok (.iload_n 1, 1) := by decide +kernel
theorem d_m_where_37 : decode (ch_bc m_m_where) 37 = .ok (.ireturn, 1) := by decide +kernel
theorem d_m_isOver_0 : decode (ch_bc m_m_isOver) 0 = .ok (.iconst (-1), 1) := by decide +kernel
theorem d_m_isOver_1 : decode (ch_bc m_m_isOver) 1 = .ok (.istore_n 1, 1) := by decide +kernel
theorem d_m_isOver_2 : decode (ch_bc m_m_isOver) 2 = .ok (.iconst 0, 1) := by decide +kernel
theorem d_m_isOver_3 : decode (ch_bc m_m_isOver) 3 = .ok (.istore_n 2, 1) := by decide +kernel
theorem d_m_isOver_4 : decode (ch_bc m_m_isOver) 4 = .ok (.iload_n 2, 1) := by decide +kernel
theorem d_m_isOver_5 : decode (ch_bc m_m_isOver) 5 = .ok (.aload_n 0, 1) := by decide +kernel
theorem d_m_isOver_6 : decode (ch_bc m_m_isOver) 6 = .ok (.getfield 126, 3) := by decide +kernel
theorem d_m_isOver_9 : decode (ch_bc m_m_isOver) 9 = .ok (.if_icmp .ge 26, 3) := by decide +kernel
theorem d_m_isOver_12 : decode (ch_bc m_m_isOver) 12 = .ok (.iload_n 1, 1) := by decide +kernel
theorem d_m_isOver_13 : decode (ch_bc m_m_isOver) 13 = .ok (.bipush 11, 2) := by decide +kernel
theorem d_m_isOver_15 : decode (ch_bc m_m_isOver) 15 = .ok (.if_icmp .lt 5, 3) := by decide +kernel
theorem d_m_isOver_18 : decode (ch_bc m_m_isOver) 18 = .ok (.iconst 0, 1) := by decide +kernel
theorem d_m_isOver_19 : decode (ch_bc m_m_isOver) 19 = .ok (.ireturn, 1) := by decide +kernel
theorem d_m_isOver_20 : decode (ch_bc m_m_isOver) 20 = .ok (.iload_n 1, 1) := by decide +kernel
theorem d_m_isOver_21 : decode (ch_bc m_m_isOver) 21 = .ok (.aload_n 0, 1) := by decide +kernel
theorem d_m_isOver_22 : decode (ch_bc m_m_isOver) 22 = .ok (.getfield 39, 3) := by decide +kernel
theorem d_m_isOver_25 : decode (ch_bc m_m_isOver) 25 = .ok (.iload_n 2, 1) := by decide +kernel
theorem d_m_isOver_26 : decode (ch_bc m_m_isOver) 26 = .ok (.iaload, 1) := by decide +kernel
theorem d_m_isOver_27 : decode (ch_bc m_m_isOver) 27 = .ok (.iadd, 1) := by decide +kernel
theorem d_m_isOver_28 : decode (ch_bc m_m_isOver) 28 = .ok (.istore_n 1, 1) := by decide +kernel
theorem d_m_isOver_29 : decode (ch_bc m_m_isOver) 29 = .ok (.iinc 2 1, 3) := by decide +kernel
theorem d_m_isOver_32 : decode (ch_bc m_m_isOver) 32 = .ok (.goto (-28), 3) := by decide +kernel
theorem d_m_isOver_35 : decode (ch_bc m_m_isOver) 35 = .ok (.iload_n 1, 1) := by decide +kernel
theorem d_m_isOver_36 : decode (ch_bc m_m_isOver) 36 = .ok (.bipush 11, 2) := by decide +kernel
theorem d_m_isOver_38 : decode (ch_bc m_m_isOver) 38 = .ok (.if_icmp .lt 7, 3) := by decide +kernel
theorem d_m_isOver_41 : decode (ch_bc m_m_isOver) 41 = .ok (.iconst 1, 1) := by decide +kernel
theorem d_m_isOver_42 : decode (ch_bc m_m_isOver) 42 = .ok (.goto 4, 3) := by decide +kernel
theorem d_m_isOver_45 : decode (ch_bc m_m_isOver) 45 = .ok (.iconst 0, 1) := by decide +kernel
theorem d_m_isOver_46 : decode (ch_bc m_m_isOver) 46 = .ok (.ireturn, 1) := by decide +kernel
theorem d_m_isLine_0 : decode (ch_bc m_m_isLine) 0 = .ok (.iload_n 2, 1) := by decide +kernel
theorem d_m_isLine_1 : decode (ch_bc m_m_isLine) 1 = .ok (.bipush 12, 2) := by decide +kernel
theorem d_m_isLine_3 : decode (ch_bc m_m_isLine) 3 = .ok (.if_icmp .ge 24, 3) := by decide +kernel
theorem d_m_isLine_6 : decode (ch_bc m_m_isLine) 6 = .ok (.aload_n 0, 1) := by decide +kernel
theorem d_m_isLine_7 : decode (ch_bc m_m_isLine) 7 = .ok (.iload_n 2, 1) := by decide +kernel
theorem d_m_isLine_8 : decode (ch_bc m_m_isLine) 8 = .ok (.invokevirtual 109, 3) := by decide +kernel
theorem d_m_isLine_11 : decode (ch_bc m_m_isLine) 11 = .ok (.ifCond .lt 16, 3) := by decide +kernel
theorem d_m_isLine_14 : decode (ch_bc m_m_isLine) 14 = .ok (.aload_n 0, 1) := by decide +kernel
theorem d_m_isLine_15 : decode (ch_bc m_m_isLine) 15 = .ok (.iload_n 2, 1) := by decide +kernel
theorem d_m_isLine_16 : decode (ch_bc m_m_isLine) 16 = .ok (.invokevirtual 109, 3) := by decide +kernel
theorem d_m_isLine_19 : decode (ch_bc m_m_isLine) 19 = .ok (.iload_n 1, 1) := by decide +kernel
theorem d_m_isLine_20 : decode (ch_bc m_m_isLine) 20 = .ok (.if_icmp .eq 7, 3) := by decide +kernel
theorem d_m_isLine_23 : decode (ch_bc m_m_isLine) 23 = .ok (.iconst 1, 1) := by decide +kernel
theorem d_m_isLine_24 : decode (ch_bc m_m_isLine) 24 = .ok (.goto 4, 3) := by decide +kernel
theorem d_m_isLine_27 : decode (ch_bc m_m_isLine) 27 = .ok (.iconst 0, 1) := by decide +kernel
theorem d_m_isLine_28 : decode (ch_bc m_m_isLine) 28 = .ok (.ireturn, 1) := by decide +kernel
theorem d_m_treadsBy_0 : decode (ch_bc m_m_treadsBy) 0 = .ok (.iconst 0, 1) := by decide +kernel
theorem d_m_treadsBy_1 : decode (ch_bc m_m_treadsBy) 1 = .ok (.istore_n 2, 1) := by decide +kernel
theorem d_m_treadsBy_2 : decode (ch_bc m_m_treadsBy) 2 = .ok (.iconst (-1), 1) := by decide +kernel
theorem d_m_treadsBy_3 : decode (ch_bc m_m_treadsBy) 3 = .ok (.istore_n 3, 1) := by decide +kernel
theorem d_m_treadsBy_4 : decode (ch_bc m_m_treadsBy) 4 = .ok (.iconst 0, 1) := by decide +kernel
theorem d_m_treadsBy_5 : decode (ch_bc m_m_treadsBy) 5 = .ok (.istore 4, 2) := by decide +kernel
theorem d_m_treadsBy_7 : decode (ch_bc m_m_treadsBy) 7 = .ok (.iload 4, 2) := by decide +kernel
theorem d_m_treadsBy_9 : decode (ch_bc m_m_treadsBy) 9 = .ok (.aload_n 0, 1) := by decide +kernel
theorem d_m_treadsBy_10 : decode (ch_bc m_m_treadsBy) 10 = .ok (.getfield 126, 3) := by decide +kernel
theorem d_m_treadsBy_13 : decode (ch_bc m_m_treadsBy) 13 = .ok (.if_icmp .ge 31, 3) := by decide +kernel
theorem d_m_treadsBy_16 : decode (ch_bc m_m_treadsBy) 16 = .ok (.iload_n 3, 1) := by decide +kernel
theorem d_m_treadsBy_17 : decode (ch_bc m_m_treadsBy) 17 = .ok (.aload_n 0, 1) := by decide +kernel
theorem d_m_treadsBy_18 : decode (ch_bc m_m_treadsBy) 18 = .ok (.getfield 39, 3) := by decide +kernel
theorem d_m_treadsBy_21 : decode (ch_bc m_m_treadsBy) 21 = .ok (.iload 4, 2) := by decide +kernel
theorem d_m_treadsBy_23 : decode (ch_bc m_m_treadsBy) 23 = .ok (.iaload, 1) := by decide +kernel
theorem d_m_treadsBy_24 : decode (ch_bc m_m_treadsBy) 24 = .ok (.iadd, 1) := by decide +kernel
theorem d_m_treadsBy_25 : decode (ch_bc m_m_treadsBy) 25 = .ok (.istore_n 3, 1) := by decide +kernel
theorem d_m_treadsBy_26 : decode (ch_bc m_m_treadsBy) 26 = .ok (.aload_n 0, 1) := by decide +kernel
theorem d_m_treadsBy_27 : decode (ch_bc m_m_treadsBy) 27 = .ok (.iload_n 1, 1) := by decide +kernel
theorem d_m_treadsBy_28 : decode (ch_bc m_m_treadsBy) 28 = .ok (.iload_n 3, 1) := by decide +kernel
theorem d_m_treadsBy_29 : decode (ch_bc m_m_treadsBy) 29 = .ok (.invokevirtual 129, 3) := by decide +kernel
theorem d_m_treadsBy_32 : decode (ch_bc m_m_treadsBy) 32 = .ok (.ifCond .eq 6, 3) := by decide +kernel
theorem d_m_treadsBy_35 : decode (ch_bc m_m_treadsBy) 35 = .ok (.iinc 2 1, 3) := by decide +kernel
theorem d_m_treadsBy_38 : decode (ch_bc m_m_treadsBy) 38 = .ok (.iinc 4 1, 3) := by decide +kernel
theorem d_m_treadsBy_41 : decode (ch_bc m_m_treadsBy) 41 = .ok (.goto (-34), 3) := by decide +kernel
theorem d_m_treadsBy_44 : decode (ch_bc m_m_treadsBy) 44 = .ok (.iload_n 2, 1) := by decide +kernel
theorem d_m_treadsBy_45 : decode (ch_bc m_m_treadsBy) 45 = .ok (.ireturn, 1) := by decide +kernel
theorem d_m_hops_0 : decode (ch_bc m_m_hops) 0 = .ok (.aload_n 0, 1) := by decide +kernel
theorem d_m_hops_1 : decode (ch_bc m_m_hops) 1 = .ok (.invokevirtual 132, 3) := by decide +kernel
theorem d_m_hops_4 : decode (ch_bc m_m_hops) 4 = .ok (.ifCond .ne 14, 3) := by decide +kernel
theorem d_m_hops_7 : decode (ch_bc m_m_hops) 7 = .ok (.aload_n 0, 1) := by decide +kernel
theorem d_m_hops_8 : decode (ch_bc m_m_hops) 8 = .ok (.bipush 8, 2) := by decide +kernel
theorem d_m_hops_10 : decode (ch_bc m_m_hops) 10 = .ok (.aload_n 0, 1) := by decide +kernel
theorem d_m_hops_11 : decode (ch_bc m_m_hops) 11 = .ok (.invokevirtual 136, 3) := by decide +kernel
theorem d_m_hops_14 : decode (ch_bc m_m_hops) 14 = .ok (.invokevirtual 81, 3) := by decide +kernel
theorem d_m_hops_17 : decode (ch_bc m_m_hops) 17 = .ok (.ireturn, 1) := by decide +kernel
theorem d_m_hops_18 : decode (ch_bc m_m_hops) 18 = .ok (.iconst 0, 1) := by decide +kernel
theorem d_m_hops_19 : decode (ch_bc m_m_hops) 19 = .ok (.istore_n 2, 1) := by decide +kernel
theorem d_m_hops_20 : decode (ch_bc m_m_hops) 20 = .ok (.iconst (-1), 1) := by decide +kernel
theorem d_m_hops_21 : decode (ch_bc m_m_hops) 21 = .ok (.istore_n 3, 1) := by decide +kernel
theorem d_m_hops_22 : decode (ch_bc m_m_hops) 22 = .ok (.iconst 0, 1) := by decide +kernel
theorem d_m_hops_23 : decode (ch_bc m_m_hops) 23 = .ok (.istore 4, 2) := by decide +kernel
theorem d_m_hops_25 : decode (ch_bc m_m_hops) 25 = .ok (.iload 4, 2) := by decide +kernel
theorem d_m_hops_27 : decode (ch_bc m_m_hops) 27 = .ok (.aload_n 0, 1) := by decide +kernel
theorem d_m_hops_28 : decode (ch_bc m_m_hops) 28 = .ok (.getfield 126, 3) := by decide +kernel
theorem d_m_hops_31 : decode (ch_bc m_m_hops) 31 = .ok (.if_icmp .ge 86, 3) := by decide +kernel
theorem d_m_hops_34 : decode (ch_bc m_m_hops) 34 = .ok (.iload_n 3, 1) := by decide +kernel
theorem d_m_hops_35 : decode (ch_bc m_m_hops) 35 = .ok (.aload_n 0, 1) := by decide +kernel
theorem d_m_hops_36 : decode (ch_bc m_m_hops) 36 = .ok (.getfield 39, 3) := by decide +kernel
theorem d_m_hops_39 : decode (ch_bc m_m_hops) 39 = .ok (.iload 4, 2) := by decide +kernel
theorem d_m_hops_41 : decode (ch_bc m_m_hops) 41 = .ok (.iaload, 1) := by decide +kernel
theorem d_m_hops_42 : decode (ch_bc m_m_hops) 42 = .ok (.iadd, 1) := by decide +kernel
theorem d_m_hops_43 : decode (ch_bc m_m_hops) 43 = .ok (.istore_n 3, 1) := by decide +kernel
theorem d_m_hops_44 : decode (ch_bc m_m_hops) 44 = .ok (.aload_n 0, 1) := by decide +kernel
theorem d_m_hops_45 : decode (ch_bc m_m_hops) 45 = .ok (.iload_n 1, 1) := by decide +kernel
theorem d_m_hops_46 : decode (ch_bc m_m_hops) 46 = .ok (.iload_n 3, 1) := by decide +kernel
theorem d_m_hops_47 : decode (ch_bc m_m_hops) 47 = .ok (.invokevirtual 129, 3) := by decide +kernel
theorem d_m_hops_50 : decode (ch_bc m_m_hops) 50 = .ok (.ifCond .ne 6, 3) := by decide +kernel
theorem d_m_hops_53 : decode (ch_bc m_m_hops) 53 = .ok (.goto 58, 3) := by decide +kernel
theorem d_m_hops_56 : decode (ch_bc m_m_hops) 56 = .ok (.iinc 2 1, 3) := by decide +kernel
theorem d_m_hops_59 : decode (ch_bc m_m_hops) 59 = .ok (.aload_n 0, 1) := by decide +kernel
theorem d_m_hops_60 : decode (ch_bc m_m_hops) 60 = .ok (.aload_n 0, 1) := by decide +kernel
theorem d_m_hops_61 : decode (ch_bc m_m_hops) 61 = .ok (.iload_n 3, 1) := by decide +kernel
theorem d_m_hops_62 : decode (ch_bc m_m_hops) 62 = .ok (.invokevirtual 109, 3) := by decide +kernel
theorem d_m_hops_65 : decode (ch_bc m_m_hops) 65 = .ok (.iconst 4, 1) := by decide +kernel
theorem d_m_hops_66 : decode (ch_bc m_m_hops) 66 = .ok (.aload_n 0, 1) := by decide +kernel
theorem d_m_hops_67 : decode (ch_bc m_m_hops) 67 = .ok (.aload_n 0, 1) := by decide +kernel
theorem d_m_hops_68 : decode (ch_bc m_m_hops) 68 = .ok (.iload_n 3, 1) := by decide +kernel
theorem d_m_hops_69 : decode (ch_bc m_m_hops) 69 = .ok (.invokevirtual 109, 3) := by decide +kernel
theorem d_m_hops_72 : decode (ch_bc m_m_hops) 72 = .ok (.iconst 4, 1) := by decide +kernel
theorem d_m_hops_73 : decode (ch_bc m_m_hops) 73 = .ok (.invokevirtual 85, 3) := by decide +kernel
theorem d_m_hops_76 : decode (ch_bc m_m_hops) 76 = .ok (.iconst 1, 1) := by decide +kernel
theorem d_m_hops_77 : decode (ch_bc m_m_hops) 77 = .ok (.iadd, 1) := by decide +kernel
theorem d_m_hops_78 : decode (ch_bc m_m_hops) 78 = .ok (.invokevirtual 89, 3) := by decide +kernel
theorem d_m_hops_81 : decode (ch_bc m_m_hops) 81 = .ok (.aload_n 0, 1) := by decide +kernel
theorem d_m_hops_82 : decode (ch_bc m_m_hops) 82 = .ok (.getfield 9, 3) := by decide +kernel
theorem d_m_hops_85 : decode (ch_bc m_m_hops) 85 = .ok (.bipush 14, 2) := by decide +kernel
theorem d_m_hops_87 : decode (ch_bc m_m_hops) 87 = .ok (.iconst 2, 1) := by decide +kernel
theorem d_m_hops_88 : decode (ch_bc m_m_hops) 88 = .ok (.iload_n 3, 1) := by decide +kernel
theorem d_m_hops_89 : decode (ch_bc m_m_hops) 89 = .ok (.imul, 1) := by decide +kernel
theorem d_m_hops_90 : decode (ch_bc m_m_hops) 90 = .ok (.iadd, 1) := by decide +kernel
theorem d_m_hops_91 : decode (ch_bc m_m_hops) 91 = .ok (.iconst 1, 1) := by decide +kernel
theorem d_m_hops_92 : decode (ch_bc m_m_hops) 92 = .ok (.iadd, 1) := by decide +kernel
theorem d_m_hops_93 : decode (ch_bc m_m_hops) 93 = .ok (.dup2, 1) := by decide +kernel
theorem d_m_hops_94 : decode (ch_bc m_m_hops) 94 = .ok (.iaload, 1) := by decide +kernel
theorem d_m_hops_95 : decode (ch_bc m_m_hops) 95 = .ok (.iconst 1, 1) := by decide +kernel
theorem d_m_hops_96 : decode (ch_bc m_m_hops) 96 = .ok (.isub, 1) := by decide +kernel
theorem d_m_hops_97 : decode (ch_bc m_m_hops) 97 = .ok (.iastore, 1) := by decide +kernel
theorem d_m_hops_98 : decode (ch_bc m_m_hops) 98 = .ok (.aload_n 0, 1) := by decide +kernel
theorem d_m_hops_99 : decode (ch_bc m_m_hops) 99 = .ok (.iload_n 3, 1) := by decide +kernel
theorem d_m_hops_100 : decode (ch_bc m_m_hops) 100 = .ok (.invokevirtual 112, 3) := by decide +kernel
theorem d_m_hops_103 : decode (ch_bc m_m_hops) 103 = .ok (.ifCond .ne 8, 3) := by decide +kernel
theorem d_m_hops_106 : decode (ch_bc m_m_hops) 106 = .ok (.aload_n 0, 1) := by decide +kernel
theorem d_m_hops_107 : decode (ch_bc m_m_hops) 107 = .ok (.iload_n 3, 1) := by decide +kernel
theorem d_m_hops_108 : decode (ch_bc m_m_hops) 108 = .ok (.invokevirtual 140, 3) := by decide +kernel
theorem d_m_hops_111 : decode (ch_bc m_m_hops) 111 = .ok (.iinc 4 1, 3) := by decide +kernel
theorem d_m_hops_114 : decode (ch_bc m_m_hops) 114 = .ok (.goto (-89), 3) := by decide +kernel
theorem d_m_hops_117 : decode (ch_bc m_m_hops) 117 = .ok (.aload_n 0, 1) := by decide +kernel
theorem d_m_hops_118 : decode (ch_bc m_m_hops) 118 = .ok (.iload_n 1, 1) := by decide +kernel
theorem d_m_hops_119 : decode (ch_bc m_m_hops) 119 = .ok (.iconst 1, 1) := by decide +kernel
theorem d_m_hops_120 : decode (ch_bc m_m_hops) 120 = .ok (.aload_n 0, 1) := by decide +kernel
theorem d_m_hops_121 : decode (ch_bc m_m_hops) 121 = .ok (.iload_n 1, 1) := by decide +kernel
theorem d_m_hops_122 : decode (ch_bc m_m_hops) 122 = .ok (.iconst 1, 1) := by decide +kernel
theorem d_m_hops_123 : decode (ch_bc m_m_hops) 123 = .ok (.invokevirtual 85, 3) := by decide +kernel
theorem d_m_hops_126 : decode (ch_bc m_m_hops) 126 = .ok (.iload_n 2, 1) := by decide +kernel
theorem d_m_hops_127 : decode (ch_bc m_m_hops) 127 = .ok (.iadd, 1) := by decide +kernel
theorem d_m_hops_128 : decode (ch_bc m_m_hops) 128 = .ok (.invokevirtual 89, 3) := by decide +kernel
theorem d_m_hops_131 : decode (ch_bc m_m_hops) 131 = .ok (.aload_n 0, 1) := by decide +kernel
theorem d_m_hops_132 : decode (ch_bc m_m_hops) 132 = .ok (.iload_n 1, 1) := by decide +kernel
theorem d_m_hops_133 : decode (ch_bc m_m_hops) 133 = .ok (.iconst 3, 1) := by decide +kernel
theorem d_m_hops_134 : decode (ch_bc m_m_hops) 134 = .ok (.aload_n 0, 1) := by decide +kernel
theorem d_m_hops_135 : decode (ch_bc m_m_hops) 135 = .ok (.iload_n 1, 1) := by decide +kernel
theorem d_m_hops_136 : decode (ch_bc m_m_hops) 136 = .ok (.iconst 3, 1) := by decide +kernel
theorem d_m_hops_137 : decode (ch_bc m_m_hops) 137 = .ok (.invokevirtual 85, 3) := by decide +kernel
theorem d_m_hops_140 : decode (ch_bc m_m_hops) 140 = .ok (.iconst 1, 1) := by decide +kernel
theorem d_m_hops_141 : decode (ch_bc m_m_hops) 141 = .ok (.iadd, 1) := by decide +kernel
theorem d_m_hops_142 : decode (ch_bc m_m_hops) 142 = .ok (.invokevirtual 89, 3) := by decide +kernel
theorem d_m_hops_145 : decode (ch_bc m_m_hops) 145 = .ok (.aload_n 0, 1) := by decide +kernel
theorem d_m_hops_146 : decode (ch_bc m_m_hops) 146 = .ok (.getfield 9, 3) := by decide +kernel
theorem d_m_hops_149 : decode (ch_bc m_m_hops) 149 = .ok (.iconst 3, 1) := by decide +kernel
theorem d_m_hops_150 : decode (ch_bc m_m_hops) 150 = .ok (.dup2, 1) := by decide +kernel
theorem d_m_hops_151 : decode (ch_bc m_m_hops) 151 = .ok (.iaload, 1) := by decide +kernel
theorem d_m_hops_152 : decode (ch_bc m_m_hops) 152 = .ok (.iload_n 2, 1) := by decide +kernel
theorem d_m_hops_153 : decode (ch_bc m_m_hops) 153 = .ok (.iadd, 1) := by decide +kernel
theorem d_m_hops_154 : decode (ch_bc m_m_hops) 154 = .ok (.iastore, 1) := by decide +kernel
theorem d_m_hops_155 : decode (ch_bc m_m_hops) 155 = .ok (.aload_n 0, 1) := by decide +kernel
theorem d_m_hops_156 : decode (ch_bc m_m_hops) 156 = .ok (.iload_n 2, 1) := by decide +kernel
theorem d_m_hops_157 : decode (ch_bc m_m_hops) 157 = .ok (.invokevirtual 93, 3) := by decide +kernel
theorem d_m_hops_160 : decode (ch_bc m_m_hops) 160 = .ok (.ireturn, 1) := by decide +kernel
theorem d_m_canHop_0 : decode (ch_bc m_m_canHop) 0 = .ok (.aload_n 0, 1) := by decide +kernel
theorem d_m_canHop_1 : decode (ch_bc m_m_canHop) 1 = .ok (.iload_n 1, 1) := by decide +kernel
theorem d_m_canHop_2 : decode (ch_bc m_m_canHop) 2 = .ok (.invokevirtual 106, 3) := by decide +kernel
theorem d_m_canHop_5 : decode (ch_bc m_m_canHop) 5 = .ok (.ifCond .ne 5, 3) := by decide +kernel
theorem d_m_canHop_8 : decode (ch_bc m_m_canHop) 8 = .ok (.iconst 0, 1) := by decide +kernel
theorem d_m_canHop_9 : decode (ch_bc m_m_canHop) 9 = .ok (.ireturn, 1) := by decide +kernel
theorem d_m_canHop_10 : decode (ch_bc m_m_canHop) 10 = .ok (.aload_n 0, 1) := by decide +kernel
theorem d_m_canHop_11 : decode (ch_bc m_m_canHop) 11 = .ok (.iload_n 1, 1) := by decide +kernel
theorem d_m_canHop_12 : decode (ch_bc m_m_canHop) 12 = .ok (.iconst 2, 1) := by decide +kernel
theorem d_m_canHop_13 : decode (ch_bc m_m_canHop) 13 = .ok (.invokevirtual 85, 3) := by decide +kernel
theorem d_m_canHop_16 : decode (ch_bc m_m_canHop) 16 = .ok (.ifCond .eq 18, 3) := by decide +kernel
theorem d_m_canHop_19 : decode (ch_bc m_m_canHop) 19 = .ok (.aload_n 0, 1) := by decide +kernel
theorem d_m_canHop_20 : decode (ch_bc m_m_canHop) 20 = .ok (.bipush 7, 2) := by decide +kernel
theorem d_m_canHop_22 : decode (ch_bc m_m_canHop) 22 = .ok (.aload_n 0, 1) := by decide +kernel
theorem d_m_canHop_23 : decode (ch_bc m_m_canHop) 23 = .ok (.iload_n 1, 1) := by decide +kernel
theorem d_m_canHop_24 : decode (ch_bc m_m_canHop) 24 = .ok (.iconst 2, 1) := by decide +kernel
theorem d_m_canHop_25 : decode (ch_bc m_m_canHop) 25 = .ok (.invokevirtual 85, 3) := by decide +kernel
theorem d_m_canHop_28 : decode (ch_bc m_m_canHop) 28 = .ok (.invokevirtual 81, 3) := by decide +kernel
theorem d_m_canHop_31 : decode (ch_bc m_m_canHop) 31 = .ok (.ifCond .eq 7, 3) := by decide +kernel
theorem d_m_canHop_34 : decode (ch_bc m_m_canHop) 34 = .ok (.iconst 1, 1) := by decide +kernel
theorem d_m_canHop_35 : decode (ch_bc m_m_canHop) 35 = .ok (.goto 4, 3) := by decide +kernel
theorem d_m_canHop_38 : decode (ch_bc m_m_canHop) 38 = .ok (.iconst 0, 1) := by decide +kernel
theorem d_m_canHop_39 : decode (ch_bc m_m_canHop) 39 = .ok (.ireturn, 1) := by decide +kernel
theorem d_m_hop_0 : decode (ch_bc m_m_hop) 0 = .ok (.aload_n 0, 1) := by decide +kernel
theorem d_m_hop_1 : decode (ch_bc m_m_hop) 1 = .ok (.invokevirtual 96, 3) := by decide +kernel
theorem d_m_hop_4 : decode (ch_bc m_m_hop) 4 = .ok (.aload_n 0, 1) := by decide +kernel
theorem d_m_hop_5 : decode (ch_bc m_m_hop) 5 = .ok (.iload_n 1, 1) := by decide +kernel
theorem d_m_hop_6 : decode (ch_bc m_m_hop) 6 = .ok (.invokevirtual 144, 3) := by decide +kernel
theorem d_m_hop_9 : decode (ch_bc m_m_hop) 9 = .ok (.ifCond .ne 9, 3) := by decide +kernel
theorem d_m_hop_12 : decode (ch_bc m_m_hop) 12 = .ok (.aload_n 0, 1) := by decide +kernel
theorem d_m_hop_13 : decode (ch_bc m_m_hop) 13 = .ok (.iconst 1, 1) := by decide +kernel
theorem d_m_hop_14 : decode (ch_bc m_m_hop) 14 = .ok (.invokevirtual 70, 3) := by decide +kernel
theorem d_m_hop_17 : decode (ch_bc m_m_hop) 17 = .ok (.ireturn, 1) := by decide +kernel
theorem d_m_hop_18 : decode (ch_bc m_m_hop) 18 = .ok (.aload_n 0, 1) := by decide +kernel
theorem d_m_hop_19 : decode (ch_bc m_m_hop) 19 = .ok (.iload_n 2, 1) := by decide +kernel
theorem d_m_hop_20 : decode (ch_bc m_m_hop) 20 = .ok (.invokevirtual 147, 3) := by decide +kernel
theorem d_m_hop_23 : decode (ch_bc m_m_hop) 23 = .ok (.ifCond .ne 14, 3) := by decide +kernel
theorem d_m_hop_26 : decode (ch_bc m_m_hop) 26 = .ok (.aload_n 0, 1) := by decide +kernel
theorem d_m_hop_27 : decode (ch_bc m_m_hop) 27 = .ok (.aload_n 0, 1) := by decide +kernel
theorem d_m_hop_28 : decode (ch_bc m_m_hop) 28 = .ok (.iconst 1, 1) := by decide +kernel
theorem d_m_hop_29 : decode (ch_bc m_m_hop) 29 = .ok (.iconst 0, 1) := by decide +kernel
theorem d_m_hop_30 : decode (ch_bc m_m_hop) 30 = .ok (.invokevirtual 81, 3) := by decide +kernel
theorem d_m_hop_33 : decode (ch_bc m_m_hop) 33 = .ok (.invokevirtual 102, 3) := by decide +kernel
theorem d_m_hop_36 : decode (ch_bc m_m_hop) 36 = .ok (.ireturn, 1) := by decide +kernel
theorem d_m_hop_37 : decode (ch_bc m_m_hop) 37 = .ok (.aload_n 0, 1) := by decide +kernel
theorem d_m_hop_38 : decode (ch_bc m_m_hop) 38 = .ok (.aload_n 0, 1) := by decide +kernel
theorem d_m_hop_39 : decode (ch_bc m_m_hop) 39 = .ok (.iload_n 1, 1) := by decide +kernel
theorem d_m_hop_40 : decode (ch_bc m_m_hop) 40 = .ok (.invokevirtual 150, 3) := by decide +kernel
theorem d_m_hop_43 : decode (ch_bc m_m_hop) 43 = .ok (.invokevirtual 102, 3) := by decide +kernel
theorem d_m_hop_46 : decode (ch_bc m_m_hop) 46 = .ok (.ireturn, 1) := by decide +kernel
theorem d_m_writes_0 : decode (ch_bc m_m_writes) 0 = .ok (.aload_n 0, 1) := by decide +kernel
theorem d_m_writes_1 : decode (ch_bc m_m_writes) 1 = .ok (.iload_n 1, 1) := by decide +kernel
theorem d_m_writes_2 : decode (ch_bc m_m_writes) 2 = .ok (.invokevirtual 144, 3) := by decide +kernel
theorem d_m_writes_5 : decode (ch_bc m_m_writes) 5 = .ok (.ifCond .ne 5, 3) := by decide +kernel
theorem d_m_writes_8 : decode (ch_bc m_m_writes) 8 = .ok (.iconst 0, 1) := by decide +kernel
theorem d_m_writes_9 : decode (ch_bc m_m_writes) 9 = .ok (.ireturn, 1) := by decide +kernel
theorem d_m_writes_10 : decode (ch_bc m_m_writes) 10 = .ok (.aload_n 0, 1) := by decide +kernel
theorem d_m_writes_11 : decode (ch_bc m_m_writes) 11 = .ok (.iload_n 1, 1) := by decide +kernel
theorem d_m_writes_12 : decode (ch_bc m_m_writes) 12 = .ok (.iconst 1, 1) := by decide +kernel
theorem d_m_writes_13 : decode (ch_bc m_m_writes) 13 = .ok (.invokevirtual 85, 3) := by decide +kernel
theorem d_m_writes_16 : decode (ch_bc m_m_writes) 16 = .ok (.istore_n 2, 1) := by decide +kernel
theorem d_m_writes_17 : decode (ch_bc m_m_writes) 17 = .ok (.iload_n 2, 1) := by decide +kernel
theorem d_m_writes_18 : decode (ch_bc m_m_writes) 18 = .ok (.iconst 3, 1) := by decide +kernel
theorem d_m_writes_19 : decode (ch_bc m_m_writes) 19 = .ok (.if_icmp .ge 11, 3) := by decide +kernel
theorem d_m_writes_22 : decode (ch_bc m_m_writes) 22 = .ok (.aload_n 0, 1) := by decide +kernel
theorem d_m_writes_23 : decode (ch_bc m_m_writes) 23 = .ok (.bipush 9, 2) := by decide +kernel
theorem d_m_writes_25 : decode (ch_bc m_m_writes) 25 = .ok (.iload_n 2, 1) := by decide +kernel
theorem d_m_writes_26 : decode (ch_bc m_m_writes) 26 = .ok (.invokevirtual 81, 3) := by decide +kernel
theorem d_m_writes_29 : decode (ch_bc m_m_writes) 29 = .ok (.ireturn, 1) := by decide +kernel
theorem d_m_writes_30 : decode (ch_bc m_m_writes) 30 = .ok (.aload_n 0, 1) := by decide +kernel
theorem d_m_writes_31 : decode (ch_bc m_m_writes) 31 = .ok (.iload_n 1, 1) := by decide +kernel
theorem d_m_writes_32 : decode (ch_bc m_m_writes) 32 = .ok (.iconst 2, 1) := by decide +kernel
theorem d_m_writes_33 : decode (ch_bc m_m_writes) 33 = .ok (.bipush 9, 2) := by decide +kernel
theorem d_m_writes_35 : decode (ch_bc m_m_writes) 35 = .ok (.iload_n 2, 1) := by decide +kernel
theorem d_m_writes_36 : decode (ch_bc m_m_writes) 36 = .ok (.invokestatic 118, 3) := by decide +kernel
theorem d_m_writes_39 : decode (ch_bc m_m_writes) 39 = .ok (.invokevirtual 89, 3) := by decide +kernel
theorem d_m_writes_42 : decode (ch_bc m_m_writes) 42 = .ok (.aload_n 0, 1) := by decide +kernel
theorem d_m_writes_43 : decode (ch_bc m_m_writes) 43 = .ok (.iload_n 1, 1) := by decide +kernel
theorem d_m_writes_44 : decode (ch_bc m_m_writes) 44 = .ok (.iconst 1, 1) := by decide +kernel
theorem d_m_writes_45 : decode (ch_bc m_m_writes) 45 = .ok (.iconst 0, 1) := by decide +kernel
theorem d_m_writes_46 : decode (ch_bc m_m_writes) 46 = .ok (.invokevirtual 89, 3) := by decide +kernel
theorem d_m_writes_49 : decode (ch_bc m_m_writes) 49 = .ok (.aload_n 0, 1) := by decide +kernel
theorem d_m_writes_50 : decode (ch_bc m_m_writes) 50 = .ok (.getfield 9, 3) := by decide +kernel
theorem d_m_writes_53 : decode (ch_bc m_m_writes) 53 = .ok (.bipush 9, 2) := by decide +kernel
theorem d_m_writes_55 : decode (ch_bc m_m_writes) 55 = .ok (.aload_n 0, 1) := by decide +kernel
theorem d_m_writes_56 : decode (ch_bc m_m_writes) 56 = .ok (.getfield 9, 3) := by decide +kernel
theorem d_m_writes_59 : decode (ch_bc m_m_writes) 59 = .ok (.bipush 8, 2) := by decide +kernel
theorem d_m_writes_61 : decode (ch_bc m_m_writes) 61 = .ok (.dup2, 1) := by decide +kernel
theorem d_m_writes_62 : decode (ch_bc m_m_writes) 62 = .ok (.iaload, 1) := by decide +kernel
theorem d_m_writes_63 : decode (ch_bc m_m_writes) 63 = .ok (.dup_x2, 1) := by decide +kernel
theorem d_m_writes_64 : decode (ch_bc m_m_writes) 64 = .ok (.iconst 1, 1) := by decide +kernel
theorem d_m_writes_65 : decode (ch_bc m_m_writes) 65 = .ok (.iadd, 1) := by decide +kernel
theorem d_m_writes_66 : decode (ch_bc m_m_writes) 66 = .ok (.iastore, 1) := by decide +kernel
theorem d_m_writes_67 : decode (ch_bc m_m_writes) 67 = .ok (.iadd, 1) := by decide +kernel
theorem d_m_writes_68 : decode (ch_bc m_m_writes) 68 = .ok (.iload_n 1, 1) := by decide +kernel
theorem d_m_writes_69 : decode (ch_bc m_m_writes) 69 = .ok (.iastore, 1) := by decide +kernel
theorem d_m_writes_70 : decode (ch_bc m_m_writes) 70 = .ok (.aload_n 0, 1) := by decide +kernel
theorem d_m_writes_71 : decode (ch_bc m_m_writes) 71 = .ok (.getfield 9, 3) := by decide +kernel
theorem d_m_writes_74 : decode (ch_bc m_m_writes) 74 = .ok (.iconst 4, 1) := by decide +kernel
theorem d_m_writes_75 : decode (ch_bc m_m_writes) 75 = .ok (.dup2, 1) := by decide +kernel
theorem d_m_writes_76 : decode (ch_bc m_m_writes) 76 = .ok (.iaload, 1) := by decide +kernel
theorem d_m_writes_77 : decode (ch_bc m_m_writes) 77 = .ok (.iconst 1, 1) := by decide +kernel
theorem d_m_writes_78 : decode (ch_bc m_m_writes) 78 = .ok (.iadd, 1) := by decide +kernel
theorem d_m_writes_79 : decode (ch_bc m_m_writes) 79 = .ok (.iastore, 1) := by decide +kernel
theorem d_m_writes_80 : decode (ch_bc m_m_writes) 80 = .ok (.aload_n 0, 1) := by decide +kernel
theorem d_m_writes_81 : decode (ch_bc m_m_writes) 81 = .ok (.aload_n 0, 1) := by decide +kernel
theorem d_m_writes_82 : decode (ch_bc m_m_writes) 82 = .ok (.iload_n 1, 1) := by decide +kernel
theorem d_m_writes_83 : decode (ch_bc m_m_writes) 83 = .ok (.iconst 2, 1) := by decide +kernel
theorem d_m_writes_84 : decode (ch_bc m_m_writes) 84 = .ok (.invokevirtual 85, 3) := by decide +kernel
theorem d_m_writes_87 : decode (ch_bc m_m_writes) 87 = .ok (.invokevirtual 93, 3) := by decide +kernel
theorem d_m_writes_90 : decode (ch_bc m_m_writes) 90 = .ok (.ireturn, 1) := by decide +kernel
theorem d_m_warrant_0 : decode (ch_bc m_m_warrant) 0 = .ok (.aload_n 0, 1) := by decide +kernel
theorem d_m_warrant_1 : decode (ch_bc m_m_warrant) 1 = .ok (.invokevirtual 96, 3) := by decide +kernel
theorem d_m_warrant_4 : decode (ch_bc m_m_warrant) 4 = .ok (.aload_n 0, 1) := by decide +kernel
theorem d_m_warrant_5 : decode (ch_bc m_m_warrant) 5 = .ok (.aload_n 0, 1) := by decide +kernel
theorem d_m_warrant_6 : decode (ch_bc m_m_warrant) 6 = .ok (.iload_n 1, 1) := by decide +kernel
theorem d_m_warrant_7 : decode (ch_bc m_m_warrant) 7 = .ok (.invokevirtual 153, 3) := by decide +kernel
theorem d_m_warrant_10 : decode (ch_bc m_m_warrant) 10 = .ok (.invokevirtual 102, 3) := by decide +kernel
theorem d_m_warrant_13 : decode (ch_bc m_m_warrant) 13 = .ok (.ireturn, 1) := by decide +kernel
theorem d_m_closes_0 : decode (ch_bc m_m_closes) 0 = .ok (.aload_n 0, 1) := by decide +kernel
theorem d_m_closes_1 : decode (ch_bc m_m_closes) 1 = .ok (.iload_n 1, 1) := by decide +kernel
theorem d_m_closes_2 : decode (ch_bc m_m_closes) 2 = .ok (.iconst 2, 1) := by decide +kernel
theorem d_m_closes_3 : decode (ch_bc m_m_closes) 3 = .ok (.iconst 0, 1) := by decide +kernel
theorem d_m_closes_4 : decode (ch_bc m_m_closes) 4 = .ok (.invokevirtual 89, 3) := by decide +kernel
theorem d_m_closes_7 : decode (ch_bc m_m_closes) 7 = .ok (.iconst 0, 1) := by decide +kernel
theorem d_m_closes_8 : decode (ch_bc m_m_closes) 8 = .ok (.istore_n 2, 1) := by decide +kernel
theorem d_m_closes_9 : decode (ch_bc m_m_closes) 9 = .ok (.iconst 0, 1) := by decide +kernel
theorem d_m_closes_10 : decode (ch_bc m_m_closes) 10 = .ok (.istore_n 3, 1) := by decide +kernel
theorem d_m_closes_11 : decode (ch_bc m_m_closes) 11 = .ok (.iload_n 3, 1) := by decide +kernel
theorem d_m_closes_12 : decode (ch_bc m_m_closes) 12 = .ok (.aload_n 0, 1) := by decide +kernel
theorem d_m_closes_13 : decode (ch_bc m_m_closes) 13 = .ok (.getfield 9, 3) := by decide +kernel
theorem d_m_closes_16 : decode (ch_bc m_m_closes) 16 = .ok (.bipush 8, 2) := by decide +kernel
theorem d_m_closes_18 : decode (ch_bc m_m_closes) 18 = .ok (.iaload, 1) := by decide +kernel
theorem d_m_closes_19 : decode (ch_bc m_m_closes) 19 = .ok (.if_icmp .ge 43, 3) := by decide +kernel
theorem d_m_closes_22 : decode (ch_bc m_m_closes) 22 = .ok (.aload_n 0, 1) := by decide +kernel
theorem d_m_closes_23 : decode (ch_bc m_m_closes) 23 = .ok (.getfield 9, 3) := by decide +kernel
theorem d_m_closes_26 : decode (ch_bc m_m_closes) 26 = .ok (.bipush 9, 2) := by decide +kernel
theorem d_m_closes_28 : decode (ch_bc m_m_closes) 28 = .ok (.iload_n 3, 1) := by decide +kernel
theorem d_m_closes_29 : decode (ch_bc m_m_closes) 29 = .ok (.iadd, 1) := by decide +kernel
theorem d_m_closes_30 : decode (ch_bc m_m_closes) 30 = .ok (.iaload, 1) := by decide +kernel
theorem d_m_closes_31 : decode (ch_bc m_m_closes) 31 = .ok (.iload_n 1, 1) := by decide +kernel
theorem d_m_closes_32 : decode (ch_bc m_m_closes) 32 = .ok (.if_icmp .eq 24, 3) := by decide +kernel
theorem d_m_closes_35 : decode (ch_bc m_m_closes) 35 = .ok (.aload_n 0, 1) := by decide +kernel
theorem d_m_closes_36 : decode (ch_bc m_m_closes) 36 = .ok (.getfield 9, 3) := by decide +kernel
theorem d_m_closes_39 : decode (ch_bc m_m_closes) 39 = .ok (.bipush 9, 2) := by decide +kernel
theorem d_m_closes_41 : decode (ch_bc m_m_closes) 41 = .ok (.iload_n 2, 1) := by decide +kernel
theorem d_m_closes_42 : decode (ch_bc m_m_closes) 42 = .ok (.iinc 2 1, 3) := by decide +kernel
theorem d_m_closes_45 : decode (ch_bc m_m_closes) 45 = .ok (.iadd, 1) := by decide +kernel
theorem d_m_closes_46 : decode (ch_bc m_m_closes) 46 = .ok (.aload_n 0, 1) := by decide +kernel
theorem d_m_closes_47 : decode (ch_bc m_m_closes) 47 = .ok (.getfield 9, 3) := by decide +kernel
theorem d_m_closes_50 : decode (ch_bc m_m_closes) 50 = .ok (.bipush 9, 2) := by decide +kernel
theorem d_m_closes_52 : decode (ch_bc m_m_closes) 52 = .ok (.iload_n 3, 1) := by decide +kernel
theorem d_m_closes_53 : decode (ch_bc m_m_closes) 53 = .ok (.iadd, 1) := by decide +kernel
theorem d_m_closes_54 : decode (ch_bc m_m_closes) 54 = .ok (.iaload, 1) := by decide +kernel
theorem d_m_closes_55 : decode (ch_bc m_m_closes) 55 = .ok (.iastore, 1) := by decide +kernel
theorem d_m_closes_56 : decode (ch_bc m_m_closes) 56 = .ok (.iinc 3 1, 3) := by decide +kernel
theorem d_m_closes_59 : decode (ch_bc m_m_closes) 59 = .ok (.goto (-48), 3) := by decide +kernel
theorem d_m_closes_62 : decode (ch_bc m_m_closes) 62 = .ok (.aload_n 0, 1) := by decide +kernel
theorem d_m_closes_63 : decode (ch_bc m_m_closes) 63 = .ok (.getfield 9, 3) := by decide +kernel
theorem d_m_closes_66 : decode (ch_bc m_m_closes) 66 = .ok (.bipush 8, 2) := by decide +kernel
theorem d_m_closes_68 : decode (ch_bc m_m_closes) 68 = .ok (.iload_n 2, 1) := by decide +kernel
theorem d_m_closes_69 : decode (ch_bc m_m_closes) 69 = .ok (.iastore, 1) := by decide +kernel
theorem d_m_closes_70 : decode (ch_bc m_m_closes) 70 = .ok (.return_, 1) := by decide +kernel
theorem d_m_strikes_0 : decode (ch_bc m_m_strikes) 0 = .ok (.aload_n 0, 1) := by decide +kernel
theorem d_m_strikes_1 : decode (ch_bc m_m_strikes) 1 = .ok (.iload_n 1, 1) := by decide +kernel
theorem d_m_strikes_2 : decode (ch_bc m_m_strikes) 2 = .ok (.invokevirtual 106, 3) := by decide +kernel
theorem d_m_strikes_5 : decode (ch_bc m_m_strikes) 5 = .ok (.ifCond .ne 5, 3) := by decide +kernel
theorem d_m_strikes_8 : decode (ch_bc m_m_strikes) 8 = .ok (.iconst 0, 1) := by decide +kernel
theorem d_m_strikes_9 : decode (ch_bc m_m_strikes) 9 = .ok (.ireturn, 1) := by decide +kernel
theorem d_m_strikes_10 : decode (ch_bc m_m_strikes) 10 = .ok (.aload_n 0, 1) := by decide +kernel
theorem d_m_strikes_11 : decode (ch_bc m_m_strikes) 11 = .ok (.iload_n 1, 1) := by decide +kernel
theorem d_m_strikes_12 : decode (ch_bc m_m_strikes) 12 = .ok (.iconst 2, 1) := by decide +kernel
theorem d_m_strikes_13 : decode (ch_bc m_m_strikes) 13 = .ok (.invokevirtual 85, 3) := by decide +kernel
theorem d_m_strikes_16 : decode (ch_bc m_m_strikes) 16 = .ok (.ifCond .ne 11, 3) := by decide +kernel
theorem d_m_strikes_19 : decode (ch_bc m_m_strikes) 19 = .ok (.aload_n 0, 1) := by decide +kernel
theorem d_m_strikes_20 : decode (ch_bc m_m_strikes) 20 = .ok (.bipush 10, 2) := by decide +kernel
theorem d_m_strikes_22 : decode (ch_bc m_m_strikes) 22 = .ok (.iconst 0, 1) := by decide +kernel
theorem d_m_strikes_23 : decode (ch_bc m_m_strikes) 23 = .ok (.invokevirtual 81, 3) := by decide +kernel
theorem d_m_strikes_26 : decode (ch_bc m_m_strikes) 26 = .ok (.ireturn, 1) := by decide +kernel
theorem d_m_strikes_27 : decode (ch_bc m_m_strikes) 27 = .ok (.aload_n 0, 1) := by decide +kernel
theorem d_m_strikes_28 : decode (ch_bc m_m_strikes) 28 = .ok (.iload_n 1, 1) := by decide +kernel
theorem d_m_strikes_29 : decode (ch_bc m_m_strikes) 29 = .ok (.aload_n 0, 1) := by decide +kernel
theorem d_m_strikes_30 : decode (ch_bc m_m_strikes) 30 = .ok (.iload_n 1, 1) := by decide +kernel
theorem d_m_strikes_31 : decode (ch_bc m_m_strikes) 31 = .ok (.iconst 2, 1) := by decide +kernel
theorem d_m_strikes_32 : decode (ch_bc m_m_strikes) 32 = .ok (.invokevirtual 85, 3) := by decide +kernel
theorem d_m_strikes_35 : decode (ch_bc m_m_strikes) 35 = .ok (.invokevirtual 115, 3) := by decide +kernel
theorem d_m_strikes_38 : decode (ch_bc m_m_strikes) 38 = .ok (.ifCond .ne 5, 3) := by decide +kernel
theorem d_m_strikes_41 : decode (ch_bc m_m_strikes) 41 = .ok (.iconst 0, 1) := by decide +kernel
theorem d_m_strikes_42 : decode (ch_bc m_m_strikes) 42 = .ok (.ireturn, 1) := by decide +kernel
theorem d_m_strikes_43 : decode (ch_bc m_m_strikes) 43 = .ok (.aload_n 0, 1) := by decide +kernel
theorem d_m_strikes_44 : decode (ch_bc m_m_strikes) 44 = .ok (.iload_n 1, 1) := by decide +kernel
theorem d_m_strikes_45 : decode (ch_bc m_m_strikes) 45 = .ok (.invokevirtual 156, 3) := by decide +kernel
theorem d_m_strikes_48 : decode (ch_bc m_m_strikes) 48 = .ok (.aload_n 0, 1) := by decide +kernel
theorem d_m_strikes_49 : decode (ch_bc m_m_strikes) 49 = .ok (.aload_n 0, 1) := by decide +kernel
theorem d_m_strikes_50 : decode (ch_bc m_m_strikes) 50 = .ok (.iload_n 1, 1) := by decide +kernel
theorem d_m_strikes_51 : decode (ch_bc m_m_strikes) 51 = .ok (.iconst 0, 1) := by decide +kernel
theorem d_m_strikes_52 : decode (ch_bc m_m_strikes) 52 = .ok (.invokevirtual 85, 3) := by decide +kernel
theorem d_m_strikes_55 : decode (ch_bc m_m_strikes) 55 = .ok (.invokevirtual 93, 3) := by decide +kernel
theorem d_m_strikes_58 : decode (ch_bc m_m_strikes) 58 = .ok (.ireturn, 1) := by decide +kernel
theorem d_m_strike_0 : decode (ch_bc m_m_strike) 0 = .ok (.aload_n 0, 1) := by decide +kernel
theorem d_m_strike_1 : decode (ch_bc m_m_strike) 1 = .ok (.invokevirtual 96, 3) := by decide +kernel
theorem d_m_strike_4 : decode (ch_bc m_m_strike) 4 = .ok (.aload_n 0, 1) := by decide +kernel
theorem d_m_strike_5 : decode (ch_bc m_m_strike) 5 = .ok (.aload_n 0, 1) := by decide +kernel
theorem d_m_strike_6 : decode (ch_bc m_m_strike) 6 = .ok (.iload_n 1, 1) := by decide +kernel
theorem d_m_strike_7 : decode (ch_bc m_m_strike) 7 = .ok (.invokevirtual 159, 3) := by decide +kernel
theorem d_m_strike_10 : decode (ch_bc m_m_strike) 10 = .ok (.invokevirtual 102, 3) := by decide +kernel
theorem d_m_strike_13 : decode (ch_bc m_m_strike) 13 = .ok (.ireturn, 1) := by decide +kernel
theorem d_m_owned_0 : decode (ch_bc m_m_owned) 0 = .ok (.iconst 0, 1) := by decide +kernel
theorem d_m_owned_1 : decode (ch_bc m_m_owned) 1 = .ok (.istore_n 1, 1) := by decide +kernel
theorem d_m_owned_2 : decode (ch_bc m_m_owned) 2 = .ok (.iconst 0, 1) := by decide +kernel
theorem d_m_owned_3 : decode (ch_bc m_m_owned) 3 = .ok (.istore_n 2, 1) := by decide +kernel
theorem d_m_owned_4 : decode (ch_bc m_m_owned) 4 = .ok (.iload_n 2, 1) := by decide +kernel
theorem d_m_owned_5 : decode (ch_bc m_m_owned) 5 = .ok (.bipush 12, 2) := by decide +kernel
theorem d_m_owned_7 : decode (ch_bc m_m_owned) 7 = .ok (.if_icmp .ge 20, 3) := by decide +kernel
theorem d_m_owned_10 : decode (ch_bc m_m_owned) 10 = .ok (.aload_n 0, 1) := by decide +kernel
theorem d_m_owned_11 : decode (ch_bc m_m_owned) 11 = .ok (.iload_n 2, 1) := by decide +kernel
theorem d_m_owned_12 : decode (ch_bc m_m_owned) 12 = .ok (.invokevirtual 109, 3) := by decide +kernel
theorem d_m_owned_15 : decode (ch_bc m_m_owned) 15 = .ok (.ifCond .lt 6, 3) := by decide +kernel
theorem d_m_owned_18 : decode (ch_bc m_m_owned) 18 = .ok (.iinc 1 1, 3) := by decide +kernel
theorem d_m_owned_21 : decode (ch_bc m_m_owned) 21 = .ok (.iinc 2 1, 3) := by decide +kernel
theorem d_m_owned_24 : decode (ch_bc m_m_owned) 24 = .ok (.goto (-20), 3) := by decide +kernel
theorem d_m_owned_27 : decode (ch_bc m_m_owned) 27 = .ok (.iload_n 1, 1) := by decide +kernel
theorem d_m_owned_28 : decode (ch_bc m_m_owned) 28 = .ok (.ireturn, 1) := by decide +kernel
theorem d_m_endsBy_0 : decode (ch_bc m_m_endsBy) 0 = .ok (.iconst 0, 1) := by decide +kernel
theorem d_m_endsBy_1 : decode (ch_bc m_m_endsBy) 1 = .ok (.istore_n 2, 1) := by decide +kernel
theorem d_m_endsBy_2 : decode (ch_bc m_m_endsBy) 2 = .ok (.iconst 0, 1) := by decide +kernel
theorem d_m_endsBy_3 : decode (ch_bc m_m_endsBy) 3 = .ok (.istore_n 3, 1) := by decide +kernel
theorem d_m_endsBy_4 : decode (ch_bc m_m_endsBy) 4 = .ok (.iload_n 3, 1) := by decide +kernel
theorem d_m_endsBy_5 : decode (ch_bc m_m_endsBy) 5 = .ok (.bipush 12, 2) := by decide +kernel
theorem d_m_endsBy_7 : decode (ch_bc m_m_endsBy) 7 = .ok (.if_icmp .ge 25, 3) := by decide +kernel
theorem d_m_endsBy_10 : decode (ch_bc m_m_endsBy) 10 = .ok (.aload_n 0, 1) := by decide +kernel
theorem d_m_endsBy_11 : decode (ch_bc m_m_endsBy) 11 = .ok (.iload_n 3, 1) := by decide +kernel
theorem d_m_endsBy_12 : decode (ch_bc m_m_endsBy) 12 = .ok (.invokevirtual 112, 3) := by decide +kernel
theorem d_m_endsBy_15 : decode (ch_bc m_m_endsBy) 15 = .ok (.iconst 1, 1) := by decide +kernel
theorem d_m_endsBy_16 : decode (ch_bc m_m_endsBy) 16 = .ok (.iload_n 1, 1) := by decide +kernel
theorem d_m_endsBy_17 : decode (ch_bc m_m_endsBy) 17 = .ok (.invokestatic 73, 3) := by decide +kernel
theorem d_m_endsBy_20 : decode (ch_bc m_m_endsBy) 20 = .ok (.ifCond .eq 6, 3) := by decide +kernel
theorem d_m_endsBy_23 : decode (ch_bc m_m_endsBy) 23 = .ok (.iinc 2 1, 3) := by decide +kernel
theorem d_m_endsBy_26 : decode (ch_bc m_m_endsBy) 26 = .ok (.iinc 3 1, 3) := by decide +kernel
theorem d_m_endsBy_29 : decode (ch_bc m_m_endsBy) 29 = .ok (.goto (-25), 3) := by decide +kernel
theorem d_m_endsBy_32 : decode (ch_bc m_m_endsBy) 32 = .ok (.iconst 0, 1) := by decide +kernel
theorem d_m_endsBy_33 : decode (ch_bc m_m_endsBy) 33 = .ok (.istore_n 3, 1) := by decide +kernel
theorem d_m_endsBy_34 : decode (ch_bc m_m_endsBy) 34 = .ok (.iload_n 3, 1) := by decide +kernel
theorem d_m_endsBy_35 : decode (ch_bc m_m_endsBy) 35 = .ok (.aload_n 0, 1) := by decide +kernel
theorem d_m_endsBy_36 : decode (ch_bc m_m_endsBy) 36 = .ok (.getfield 9, 3) := by decide +kernel
theorem d_m_endsBy_39 : decode (ch_bc m_m_endsBy) 39 = .ok (.iconst 0, 1) := by decide +kernel
theorem d_m_endsBy_40 : decode (ch_bc m_m_endsBy) 40 = .ok (.iaload, 1) := by decide +kernel
theorem d_m_endsBy_41 : decode (ch_bc m_m_endsBy) 41 = .ok (.if_icmp .ge 26, 3) := by decide +kernel
theorem d_m_endsBy_44 : decode (ch_bc m_m_endsBy) 44 = .ok (.aload_n 0, 1) := by decide +kernel
theorem d_m_endsBy_45 : decode (ch_bc m_m_endsBy) 45 = .ok (.iload_n 3, 1) := by decide +kernel
theorem d_m_endsBy_46 : decode (ch_bc m_m_endsBy) 46 = .ok (.iconst 2, 1) := by decide +kernel
theorem d_m_endsBy_47 : decode (ch_bc m_m_endsBy) 47 = .ok (.invokevirtual 85, 3) := by decide +kernel
theorem d_m_endsBy_50 : decode (ch_bc m_m_endsBy) 50 = .ok (.iconst 1, 1) := by decide +kernel
theorem d_m_endsBy_51 : decode (ch_bc m_m_endsBy) 51 = .ok (.iload_n 1, 1) := by decide +kernel
theorem d_m_endsBy_52 : decode (ch_bc m_m_endsBy) 52 = .ok (.invokestatic 73, 3) := by decide +kernel
theorem d_m_endsBy_55 : decode (ch_bc m_m_endsBy) 55 = .ok (.ifCond .eq 6, 3) := by decide +kernel
theorem d_m_endsBy_58 : decode (ch_bc m_m_endsBy) 58 = .ok (.iinc 2 1, 3) := by decide +kernel
theorem d_m_endsBy_61 : decode (ch_bc m_m_endsBy) 61 = .ok (.iinc 3 1, 3) := by decide +kernel
theorem d_m_endsBy_64 : decode (ch_bc m_m_endsBy) 64 = .ok (.goto (-30), 3) := by decide +kernel
theorem d_m_endsBy_67 : decode (ch_bc m_m_endsBy) 67 = .ok (.iload_n 2, 1) := by decide +kernel
theorem d_m_endsBy_68 : decode (ch_bc m_m_endsBy) 68 = .ok (.ireturn, 1) := by decide +kernel
theorem d_m_rains_0 : decode (ch_bc m_m_rains) 0 = .ok (.iload_n 1, 1) := by decide +kernel
theorem d_m_rains_1 : decode (ch_bc m_m_rains) 1 = .ok (.iconst 1, 1) := by decide +kernel
theorem d_m_rains_2 : decode (ch_bc m_m_rains) 2 = .ok (.bipush 9, 2) := by decide +kernel
theorem d_m_rains_4 : decode (ch_bc m_m_rains) 4 = .ok (.invokestatic 73, 3) := by decide +kernel
theorem d_m_rains_7 : decode (ch_bc m_m_rains) 7 = .ok (.ifCond .ne 10, 3) := by decide +kernel
theorem d_m_rains_10 : decode (ch_bc m_m_rains) 10 = .ok (.aload_n 0, 1) := by decide +kernel
theorem d_m_rains_11 : decode (ch_bc m_m_rains) 11 = .ok (.iconst 1, 1) := by decide +kernel
theorem d_m_rains_12 : decode (ch_bc m_m_rains) 12 = .ok (.iconst 0, 1) := by decide +kernel
theorem d_m_rains_13 : decode (ch_bc m_m_rains) 13 = .ok (.invokevirtual 81, 3) := by decide +kernel
theorem d_m_rains_16 : decode (ch_bc m_m_rains) 16 = .ok (.ireturn, 1) := by decide +kernel
theorem d_m_rains_17 : decode (ch_bc m_m_rains) 17 = .ok (.aload_n 0, 1) := by decide +kernel
theorem d_m_rains_18 : decode (ch_bc m_m_rains) 18 = .ok (.invokevirtual 162, 3) := by decide +kernel
theorem d_m_rains_21 : decode (ch_bc m_m_rains) 21 = .ok (.aload_n 0, 1) := by decide +kernel
theorem d_m_rains_22 : decode (ch_bc m_m_rains) 22 = .ok (.getfield 9, 3) := by decide +kernel
theorem d_m_rains_25 : decode (ch_bc m_m_rains) 25 = .ok (.bipush 8, 2) := by decide +kernel
theorem d_m_rains_27 : decode (ch_bc m_m_rains) 27 = .ok (.iaload, 1) := by decide +kernel
theorem d_m_rains_28 : decode (ch_bc m_m_rains) 28 = .ok (.iadd, 1) := by decide +kernel
theorem d_m_rains_29 : decode (ch_bc m_m_rains) 29 = .ok (.ifCond .ne 11, 3) := by decide +kernel
theorem d_m_rains_32 : decode (ch_bc m_m_rains) 32 = .ok (.aload_n 0, 1) := by decide +kernel
theorem d_m_rains_33 : decode (ch_bc m_m_rains) 33 = .ok (.bipush 12, 2) := by decide +kernel
theorem d_m_rains_35 : decode (ch_bc m_m_rains) 35 = .ok (.iconst 0, 1) := by decide +kernel
theorem d_m_rains_36 : decode (ch_bc m_m_rains) 36 = .ok (.invokevirtual 81, 3) := by decide +kernel
theorem d_m_rains_39 : decode (ch_bc m_m_rains) 39 = .ok (.ireturn, 1) := by decide +kernel
theorem d_m_rains_40 : decode (ch_bc m_m_rains) 40 = .ok (.aload_n 0, 1) := by decide +kernel
theorem d_m_rains_41 : decode (ch_bc m_m_rains) 41 = .ok (.iload_n 1, 1) := by decide +kernel
theorem d_m_rains_42 : decode (ch_bc m_m_rains) 42 = .ok (.invokevirtual 165, 3) := by decide +kernel
theorem d_m_rains_45 : decode (ch_bc m_m_rains) 45 = .ok (.istore_n 2, 1) := by decide +kernel
theorem d_m_rains_46 : decode (ch_bc m_m_rains) 46 = .ok (.iconst 0, 1) := by decide +kernel
theorem d_m_rains_47 : decode (ch_bc m_m_rains) 47 = .ok (.istore_n 3, 1) := by decide +kernel
theorem d_m_rains_48 : decode (ch_bc m_m_rains) 48 = .ok (.iload_n 3, 1) := by decide +kernel
theorem d_m_rains_49 : decode (ch_bc m_m_rains) 49 = .ok (.bipush 12, 2) := by decide +kernel
theorem d_m_rains_51 : decode (ch_bc m_m_rains) 51 = .ok (.if_icmp .ge 50, 3) := by decide +kernel
theorem d_m_rains_54 : decode (ch_bc m_m_rains) 54 = .ok (.aload_n 0, 1) := by decide +kernel
theorem d_m_rains_55 : decode (ch_bc m_m_rains) 55 = .ok (.iload_n 3, 1) := by decide +kernel
theorem d_m_rains_56 : decode (ch_bc m_m_rains) 56 = .ok (.invokevirtual 112, 3) := by decide +kernel
theorem d_m_rains_59 : decode (ch_bc m_m_rains) 59 = .ok (.ifCond .ne 6, 3) := by decide +kernel
theorem d_m_rains_62 : decode (ch_bc m_m_rains) 62 = .ok (.goto 33, 3) := by decide +kernel
theorem d_m_rains_65 : decode (ch_bc m_m_rains) 65 = .ok (.aload_n 0, 1) := by decide +kernel
theorem d_m_rains_66 : decode (ch_bc m_m_rains) 66 = .ok (.getfield 9, 3) := by decide +kernel
theorem d_m_rains_69 : decode (ch_bc m_m_rains) 69 = .ok (.bipush 14, 2) := by decide +kernel
theorem d_m_rains_71 : decode (ch_bc m_m_rains) 71 = .ok (.iconst 2, 1) := by decide +kernel
theorem d_m_rains_72 : decode (ch_bc m_m_rains) 72 = .ok (.iload_n 3, 1) := by decide +kernel
theorem d_m_rains_73 : decode (ch_bc m_m_rains) 73 = .ok (.imul, 1) := by decide +kernel
theorem d_m_rains_74 : decode (ch_bc m_m_rains) 74 = .ok (.iadd, 1) := by decide +kernel
theorem d_m_rains_75 : decode (ch_bc m_m_rains) 75 = .ok (.iconst 1, 1) := by decide +kernel
theorem d_m_rains_76 : decode (ch_bc m_m_rains) 76 = .ok (.iadd, 1) := by decide +kernel
theorem d_m_rains_77 : decode (ch_bc m_m_rains) 77 = .ok (.dup2, 1) := by decide +kernel
theorem d_m_rains_78 : decode (ch_bc m_m_rains) 78 = .ok (.iaload, 1) := by decide +kernel
theorem d_m_rains_79 : decode (ch_bc m_m_rains) 79 = .ok (.iload_n 1, 1) := by decide +kernel
theorem d_m_rains_80 : decode (ch_bc m_m_rains) 80 = .ok (.isub, 1) := by decide +kernel
theorem d_m_rains_81 : decode (ch_bc m_m_rains) 81 = .ok (.iastore, 1) := by decide +kernel
theorem d_m_rains_82 : decode (ch_bc m_m_rains) 82 = .ok (.aload_n 0, 1) := by decide +kernel
theorem d_m_rains_83 : decode (ch_bc m_m_rains) 83 = .ok (.iload_n 3, 1) := by decide +kernel
theorem d_m_rains_84 : decode (ch_bc m_m_rains) 84 = .ok (.invokevirtual 112, 3) := by decide +kernel
theorem d_m_rains_87 : decode (ch_bc m_m_rains) 87 = .ok (.ifCond .gt 8, 3) := by decide +kernel
theorem d_m_rains_90 : decode (ch_bc m_m_rains) 90 = .ok (.aload_n 0, 1) := by decide +kernel
theorem d_m_rains_91 : decode (ch_bc m_m_rains) 91 = .ok (.iload_n 3, 1) := by decide +kernel
theorem d_m_rains_92 : decode (ch_bc m_m_rains) 92 = .ok (.invokevirtual 140, 3) := by decide +kernel
theorem d_m_rains_95 : decode (ch_bc m_m_rains) 95 = .ok (.iinc 3 1, 3) := by decide +kernel
theorem d_m_rains_98 : decode (ch_bc m_m_rains) 98 = .ok (.goto (-50), 3) := by decide +kernel
theorem d_m_rains_101 : decode (ch_bc m_m_rains) 101 = .ok (.iconst 0, 1) := by decide +kernel
theorem d_m_rains_102 : decode (ch_bc m_m_rains) 102 = .ok (.istore_n 3, 1) := by decide +kernel
theorem d_m_rains_103 : decode (ch_bc m_m_rains) 103 = .ok (.iload_n 3, 1) := by decide +kernel
theorem d_m_rains_104 : decode (ch_bc m_m_rains) 104 = .ok (.aload_n 0, 1) := by decide +kernel
theorem d_m_rains_105 : decode (ch_bc m_m_rains) 105 = .ok (.getfield 9, 3) := by decide +kernel
theorem d_m_rains_108 : decode (ch_bc m_m_rains) 108 = .ok (.iconst 0, 1) := by decide +kernel
theorem d_m_rains_109 : decode (ch_bc m_m_rains) 109 = .ok (.iaload, 1) := by decide +kernel
theorem d_m_rains_110 : decode (ch_bc m_m_rains) 110 = .ok (.if_icmp .ge 62, 3) := by decide +kernel
theorem d_m_rains_113 : decode (ch_bc m_m_rains) 113 = .ok (.aload_n 0, 1) := by decide +kernel
theorem d_m_rains_114 : decode (ch_bc m_m_rains) 114 = .ok (.iload_n 3, 1) := by decide +kernel
theorem d_m_rains_115 : decode (ch_bc m_m_rains) 115 = .ok (.iconst 2, 1) := by decide +kernel
theorem d_m_rains_116 : decode (ch_bc m_m_rains) 116 = .ok (.invokevirtual 85, 3) := by decide +kernel
theorem d_m_rains_119 : decode (ch_bc m_m_rains) 119 = .ok (.ifCond .ne 6, 3) := by decide +kernel
theorem d_m_rains_122 : decode (ch_bc m_m_rains) 122 = .ok (.goto 44, 3) := by decide +kernel
theorem d_m_rains_125 : decode (ch_bc m_m_rains) 125 = .ok (.aload_n 0, 1) := by decide +kernel
theorem d_m_rains_126 : decode (ch_bc m_m_rains) 126 = .ok (.iload_n 3, 1) := by decide +kernel
theorem d_m_rains_127 : decode (ch_bc m_m_rains) 127 = .ok (.iconst 2, 1) := by decide +kernel
theorem d_m_rains_128 : decode (ch_bc m_m_rains) 128 = .ok (.aload_n 0, 1) := by decide +kernel
theorem d_m_rains_129 : decode (ch_bc m_m_rains) 129 = .ok (.iload_n 3, 1) := by decide +kernel
theorem d_m_rains_130 : decode (ch_bc m_m_rains) 130 = .ok (.iconst 2, 1) := by decide +kernel
theorem d_m_rains_131 : decode (ch_bc m_m_rains) 131 = .ok (.invokevirtual 85, 3) := by decide +kernel
theorem d_m_rains_134 : decode (ch_bc m_m_rains) 134 = .ok (.iload_n 1, 1) := by decide +kernel
theorem d_m_rains_135 : decode (ch_bc m_m_rains) 135 = .ok (.isub, 1) := by decide +kernel
theorem d_m_rains_136 : decode (ch_bc m_m_rains) 136 = .ok (.invokevirtual 89, 3) := by decide +kernel
theorem d_m_rains_139 : decode (ch_bc m_m_rains) 139 = .ok (.aload_n 0, 1) := by decide +kernel
theorem d_m_rains_140 : decode (ch_bc m_m_rains) 140 = .ok (.iload_n 3, 1) := by decide +kernel
theorem d_m_rains_141 : decode (ch_bc m_m_rains) 141 = .ok (.iconst 2, 1) := by decide +kernel
theorem d_m_rains_142 : decode (ch_bc m_m_rains) 142 = .ok (.invokevirtual 85, 3) := by decide +kernel
theorem d_m_rains_145 : decode (ch_bc m_m_rains) 145 = .ok (.ifCond .le 6, 3) := by decide +kernel
theorem d_m_rains_148 : decode (ch_bc m_m_rains) 148 = .ok (.goto 18, 3) := by decide +kernel
theorem d_m_rains_151 : decode (ch_bc m_m_rains) 151 = .ok (.aload_n 0, 1) := by decide +kernel
theorem d_m_rains_152 : decode (ch_bc m_m_rains) 152 = .ok (.iload_n 3, 1) := by decide +kernel
theorem d_m_rains_153 : decode (ch_bc m_m_rains) 153 = .ok (.invokevirtual 156, 3) := by decide +kernel
theorem d_m_rains_156 : decode (ch_bc m_m_rains) 156 = .ok (.aload_n 0, 1) := by decide +kernel
theorem d_m_rains_157 : decode (ch_bc m_m_rains) 157 = .ok (.getfield 9, 3) := by decide +kernel
theorem d_m_rains_160 : decode (ch_bc m_m_rains) 160 = .ok (.iconst 5, 1) := by decide +kernel
theorem d_m_rains_161 : decode (ch_bc m_m_rains) 161 = .ok (.dup2, 1) := by decide +kernel
theorem d_m_rains_162 : decode (ch_bc m_m_rains) 162 = .ok (.iaload, 1) := by decide +kernel
theorem d_m_rains_163 : decode (ch_bc m_m_rains) 163 = .ok (.iconst 1, 1) := by decide +kernel
theorem d_m_rains_164 : decode (ch_bc m_m_rains) 164 = .ok (.iadd, 1) := by decide +kernel
theorem d_m_rains_165 : decode (ch_bc m_m_rains) 165 = .ok (.iastore, 1) := by decide +kernel
theorem d_m_rains_166 : decode (ch_bc m_m_rains) 166 = .ok (.iinc 3 1, 3) := by decide +kernel
theorem d_m_rains_169 : decode (ch_bc m_m_rains) 169 = .ok (.goto (-66), 3) := by decide +kernel
theorem d_m_rains_172 : decode (ch_bc m_m_rains) 172 = .ok (.aload_n 0, 1) := by decide +kernel
theorem d_m_rains_173 : decode (ch_bc m_m_rains) 173 = .ok (.iload_n 2, 1) := by decide +kernel
theorem d_m_rains_174 : decode (ch_bc m_m_rains) 174 = .ok (.invokevirtual 93, 3) := by decide +kernel
theorem d_m_rains_177 : decode (ch_bc m_m_rains) 177 = .ok (.ireturn, 1) := by decide +kernel
theorem d_m_rain_0 : decode (ch_bc m_m_rain) 0 = .ok (.aload_n 0, 1) := by decide +kernel
theorem d_m_rain_1 : decode (ch_bc m_m_rain) 1 = .ok (.invokevirtual 96, 3) := by decide +kernel
theorem d_m_rain_4 : decode (ch_bc m_m_rain) 4 = .ok (.aload_n 0, 1) := by decide +kernel
theorem d_m_rain_5 : decode (ch_bc m_m_rain) 5 = .ok (.aload_n 0, 1) := by decide +kernel
theorem d_m_rain_6 : decode (ch_bc m_m_rain) 6 = .ok (.iload_n 1, 1) := by decide +kernel
theorem d_m_rain_7 : decode (ch_bc m_m_rain) 7 = .ok (.invokevirtual 168, 3) := by decide +kernel
theorem d_m_rain_10 : decode (ch_bc m_m_rain) 10 = .ok (.invokevirtual 102, 3) := by decide +kernel
theorem d_m_rain_13 : decode (ch_bc m_m_rain) 13 = .ok (.ireturn, 1) := by decide +kernel
theorem d_m_goesBy_0 : decode (ch_bc m_m_goesBy) 0 = .ok (.iconst 0, 1) := by decide +kernel
theorem d_m_goesBy_1 : decode (ch_bc m_m_goesBy) 1 = .ok (.istore_n 1, 1) := by decide +kernel
theorem d_m_goesBy_2 : decode (ch_bc m_m_goesBy) 2 = .ok (.iconst 0, 1) := by decide +kernel
theorem d_m_goesBy_3 : decode (ch_bc m_m_goesBy) 3 = .ok (.istore_n 2, 1) := by decide +kernel
theorem d_m_goesBy_4 : decode (ch_bc m_m_goesBy) 4 = .ok (.iload_n 2, 1) := by decide +kernel
theorem d_m_goesBy_5 : decode (ch_bc m_m_goesBy) 5 = .ok (.aload_n 0, 1) := by decide +kernel
theorem d_m_goesBy_6 : decode (ch_bc m_m_goesBy) 6 = .ok (.getfield 9, 3) := by decide +kernel
theorem d_m_goesBy_9 : decode (ch_bc m_m_goesBy) 9 = .ok (.iconst 0, 1) := by decide +kernel
theorem d_m_goesBy_10 : decode (ch_bc m_m_goesBy) 10 = .ok (.iaload, 1) := by decide +kernel
theorem d_m_goesBy_11 : decode (ch_bc m_m_goesBy) 11 = .ok (.if_icmp .ge 82, 3) := by decide +kernel
theorem d_m_goesBy_14 : decode (ch_bc m_m_goesBy) 14 = .ok (.iconst 0, 1) := by decide +kernel
theorem d_m_goesBy_15 : decode (ch_bc m_m_goesBy) 15 = .ok (.istore_n 3, 1) := by decide +kernel
theorem d_m_goesBy_16 : decode (ch_bc m_m_goesBy) 16 = .ok (.iload_n 3, 1) := by decide +kernel
theorem d_m_goesBy_17 : decode (ch_bc m_m_goesBy) 17 = .ok (.bipush 12, 2) := by decide +kernel
theorem d_m_goesBy_19 : decode (ch_bc m_m_goesBy) 19 = .ok (.if_icmp .ge 68, 3) := by decide +kernel
theorem d_m_goesBy_22 : decode (ch_bc m_m_goesBy) 22 = .ok (.aload_n 0, 1) := by decide +kernel
theorem d_m_goesBy_23 : decode (ch_bc m_m_goesBy) 23 = .ok (.iload_n 3, 1) := by decide +kernel
theorem d_m_goesBy_24 : decode (ch_bc m_m_goesBy) 24 = .ok (.invokevirtual 109, 3) := by decide +kernel
theorem d_m_goesBy_27 : decode (ch_bc m_m_goesBy) 27 = .ok (.iload_n 2, 1) := by decide +kernel
theorem d_m_goesBy_28 : decode (ch_bc m_m_goesBy) 28 = .ok (.if_icmp .eq 6, 3) := by decide +kernel
theorem d_m_goesBy_31 : decode (ch_bc m_m_goesBy) 31 = .ok (.goto 50, 3) := by decide +kernel
theorem d_m_goesBy_34 : decode (ch_bc m_m_goesBy) 34 = .ok (.aload_n 0, 1) := by decide +kernel
theorem d_m_goesBy_35 : decode (ch_bc m_m_goesBy) 35 = .ok (.iload_n 2, 1) := by decide +kernel
theorem d_m_goesBy_36 : decode (ch_bc m_m_goesBy) 36 = .ok (.iconst 0, 1) := by decide +kernel
theorem d_m_goesBy_37 : decode (ch_bc m_m_goesBy) 37 = .ok (.invokevirtual 85, 3) := by decide +kernel
theorem d_m_goesBy_40 : decode (ch_bc m_m_goesBy) 40 = .ok (.ifCond .le 30, 3) := by decide +kernel
theorem d_m_goesBy_43 : decode (ch_bc m_m_goesBy) 43 = .ok (.aload_n 0, 1) := by decide +kernel
theorem d_m_goesBy_44 : decode (ch_bc m_m_goesBy) 44 = .ok (.iload_n 2, 1) := by decide +kernel
theorem d_m_goesBy_45 : decode (ch_bc m_m_goesBy) 45 = .ok (.iconst 0, 1) := by decide +kernel
theorem d_m_goesBy_46 : decode (ch_bc m_m_goesBy) 46 = .ok (.aload_n 0, 1) := by decide +kernel
theorem d_m_goesBy_47 : decode (ch_bc m_m_goesBy) 47 = .ok (.iload_n 2, 1) := by decide +kernel
theorem d_m_goesBy_48 : decode (ch_bc m_m_goesBy) 48 = .ok (.iconst 0, 1) := by decide +kernel
theorem d_m_goesBy_49 : decode (ch_bc m_m_goesBy) 49 = .ok (.invokevirtual 85, 3) := by decide +kernel
theorem d_m_goesBy_52 : decode (ch_bc m_m_goesBy) 52 = .ok (.iconst 1, 1) := by decide +kernel
theorem d_m_goesBy_53 : decode (ch_bc m_m_goesBy) 53 = .ok (.isub, 1) := by decide +kernel
theorem d_m_goesBy_54 : decode (ch_bc m_m_goesBy) 54 = .ok (.invokevirtual 89, 3) := by decide +kernel
theorem d_m_goesBy_57 : decode (ch_bc m_m_goesBy) 57 = .ok (.aload_n 0, 1) := by decide +kernel
theorem d_m_goesBy_58 : decode (ch_bc m_m_goesBy) 58 = .ok (.getfield 9, 3) := by decide +kernel
theorem d_m_goesBy_61 : decode (ch_bc m_m_goesBy) 61 = .ok (.iconst 1, 1) := by decide +kernel
theorem d_m_goesBy_62 : decode (ch_bc m_m_goesBy) 62 = .ok (.dup2, 1) := by decide +kernel
theorem d_m_goesBy_63 : decode (ch_bc m_m_goesBy) 63 = .ok (.iaload, 1) := by decide +kernel
theorem d_m_goesBy_64 : decode (ch_bc m_m_goesBy) 64 = .ok (.iconst 1, 1) := by decide +kernel
theorem d_m_goesBy_65 : decode (ch_bc m_m_goesBy) 65 = .ok (.iadd, 1) := by decide +kernel
theorem d_m_goesBy_66 : decode (ch_bc m_m_goesBy) 66 = .ok (.iastore, 1) := by decide +kernel
theorem d_m_goesBy_67 : decode (ch_bc m_m_goesBy) 67 = .ok (.goto 14, 3) := by decide +kernel
theorem d_m_goesBy_70 : decode (ch_bc m_m_goesBy) 70 = .ok (.aload_n 0, 1) := by decide +kernel
theorem d_m_goesBy_71 : decode (ch_bc m_m_goesBy) 71 = .ok (.iload_n 3, 1) := by decide +kernel
theorem d_m_goesBy_72 : decode (ch_bc m_m_goesBy) 72 = .ok (.invokevirtual 140, 3) := by decide +kernel
theorem d_m_goesBy_75 : decode (ch_bc m_m_goesBy) 75 = .ok (.iload_n 1, 1) := by decide +kernel
theorem d_m_goesBy_76 : decode (ch_bc m_m_goesBy) 76 = .ok (.iconst 1, 1) := by decide +kernel
theorem d_m_goesBy_77 : decode (ch_bc m_m_goesBy) 77 = .ok (.iload_n 3, 1) := by decide +kernel
theorem d_m_goesBy_78 : decode (ch_bc m_m_goesBy) 78 = .ok (.ishl, 1) := by decide +kernel
theorem d_m_goesBy_79 : decode (ch_bc m_m_goesBy) 79 = .ok (.ior, 1) := by decide +kernel
theorem d_m_goesBy_80 : decode (ch_bc m_m_goesBy) 80 = .ok (.istore_n 1, 1) := by decide +kernel
theorem d_m_goesBy_81 : decode (ch_bc m_m_goesBy) 81 = .ok (.iinc 3 1, 3) := by decide +kernel
theorem d_m_goesBy_84 : decode (ch_bc m_m_goesBy) 84 = .ok (.goto (-68), 3) := by decide +kernel
theorem d_m_goesBy_87 : decode (ch_bc m_m_goesBy) 87 = .ok (.iinc 2 1, 3) := by decide +kernel
theorem d_m_goesBy_90 : decode (ch_bc m_m_goesBy) 90 = .ok (.goto (-86), 3) := by decide +kernel
theorem d_m_goesBy_93 : decode (ch_bc m_m_goesBy) 93 = .ok (.iconst 0, 1) := by decide +kernel
theorem d_m_goesBy_94 : decode (ch_bc m_m_goesBy) 94 = .ok (.istore_n 2, 1) := by decide +kernel
theorem d_m_goesBy_95 : decode (ch_bc m_m_goesBy) 95 = .ok (.iload_n 2, 1) := by decide +kernel
theorem d_m_goesBy_96 : decode (ch_bc m_m_goesBy) 96 = .ok (.aload_n 0, 1) := by decide +kernel
theorem d_m_goesBy_97 : decode (ch_bc m_m_goesBy) 97 = .ok (.getfield 9, 3) := by decide +kernel
theorem d_m_goesBy_100 : decode (ch_bc m_m_goesBy) 100 = .ok (.iconst 0, 1) := by decide +kernel
theorem d_m_goesBy_101 : decode (ch_bc m_m_goesBy) 101 = .ok (.iaload, 1) := by decide +kernel
theorem d_m_goesBy_102 : decode (ch_bc m_m_goesBy) 102 = .ok (.if_icmp .ge 42, 3) := by decide +kernel
theorem d_m_goesBy_105 : decode (ch_bc m_m_goesBy) 105 = .ok (.aload_n 0, 1) := by decide +kernel
theorem d_m_goesBy_106 : decode (ch_bc m_m_goesBy) 106 = .ok (.getfield 9, 3) := by decide +kernel
theorem d_m_goesBy_109 : decode (ch_bc m_m_goesBy) 109 = .ok (.iconst 1, 1) := by decide +kernel
theorem d_m_goesBy_110 : decode (ch_bc m_m_goesBy) 110 = .ok (.iaload, 1) := by decide +kernel
theorem d_m_goesBy_111 : decode (ch_bc m_m_goesBy) 111 = .ok (.ifCond .le 33, 3) := by decide +kernel
theorem d_m_goesBy_114 : decode (ch_bc m_m_goesBy) 114 = .ok (.aload_n 0, 1) := by decide +kernel
theorem d_m_goesBy_115 : decode (ch_bc m_m_goesBy) 115 = .ok (.getfield 9, 3) := by decide +kernel
theorem d_m_goesBy_118 : decode (ch_bc m_m_goesBy) 118 = .ok (.iconst 1, 1) := by decide +kernel
theorem d_m_goesBy_119 : decode (ch_bc m_m_goesBy) 119 = .ok (.dup2, 1) := by decide +kernel
theorem d_m_goesBy_120 : decode (ch_bc m_m_goesBy) 120 = .ok (.iaload, 1) := by decide +kernel
theorem d_m_goesBy_121 : decode (ch_bc m_m_goesBy) 121 = .ok (.iconst 1, 1) := by decide +kernel
theorem d_m_goesBy_122 : decode (ch_bc m_m_goesBy) 122 = .ok (.isub, 1) := by decide +kernel
theorem d_m_goesBy_123 : decode (ch_bc m_m_goesBy) 123 = .ok (.iastore, 1) := by decide +kernel
theorem d_m_goesBy_124 : decode (ch_bc m_m_goesBy) 124 = .ok (.aload_n 0, 1) := by decide +kernel
theorem d_m_goesBy_125 : decode (ch_bc m_m_goesBy) 125 = .ok (.iload_n 2, 1) := by decide +kernel
theorem d_m_goesBy_126 : decode (ch_bc m_m_goesBy) 126 = .ok (.iconst 0, 1) := by decide +kernel
theorem d_m_goesBy_127 : decode (ch_bc m_m_goesBy) 127 = .ok (.aload_n 0, 1) := by decide +kernel
theorem d_m_goesBy_128 : decode (ch_bc m_m_goesBy) 128 = .ok (.iload_n 2, 1) := by decide +kernel
theorem d_m_goesBy_129 : decode (ch_bc m_m_goesBy) 129 = .ok (.iconst 0, 1) := by decide +kernel
theorem d_m_goesBy_130 : decode (ch_bc m_m_goesBy) 130 = .ok (.invokevirtual 85, 3) := by decide +kernel
theorem d_m_goesBy_133 : decode (ch_bc m_m_goesBy) 133 = .ok (.iconst 1, 1) := by decide +kernel
theorem d_m_goesBy_134 : decode (ch_bc m_m_goesBy) 134 = .ok (.iadd, 1) := by decide +kernel
theorem d_m_goesBy_135 : decode (ch_bc m_m_goesBy) 135 = .ok (.invokevirtual 89, 3) := by decide +kernel
theorem d_m_goesBy_138 : decode (ch_bc m_m_goesBy) 138 = .ok (.iinc 2 1, 3) := by decide +kernel
theorem d_m_goesBy_141 : decode (ch_bc m_m_goesBy) 141 = .ok (.goto (-46), 3) := by decide +kernel
theorem d_m_goesBy_144 : decode (ch_bc m_m_goesBy) 144 = .ok (.aload_n 0, 1) := by decide +kernel
theorem d_m_goesBy_145 : decode (ch_bc m_m_goesBy) 145 = .ok (.getfield 9, 3) := by decide +kernel
theorem d_m_goesBy_148 : decode (ch_bc m_m_goesBy) 148 = .ok (.bipush 6, 2) := by decide +kernel
theorem d_m_goesBy_150 : decode (ch_bc m_m_goesBy) 150 = .ok (.dup2, 1) := by decide +kernel
theorem d_m_goesBy_151 : decode (ch_bc m_m_goesBy) 151 = .ok (.iaload, 1) := by decide +kernel
theorem d_m_goesBy_152 : decode (ch_bc m_m_goesBy) 152 = .ok (.iload_n 1, 1) := by decide +kernel
theorem d_m_goesBy_153 : decode (ch_bc m_m_goesBy) 153 = .ok (.invokestatic 171, 3) := by decide +kernel
theorem d_m_goesBy_156 : decode (ch_bc m_m_goesBy) 156 = .ok (.iadd, 1) := by decide +kernel
theorem d_m_goesBy_157 : decode (ch_bc m_m_goesBy) 157 = .ok (.iastore, 1) := by decide +kernel
theorem d_m_goesBy_158 : decode (ch_bc m_m_goesBy) 158 = .ok (.aload_n 0, 1) := by decide +kernel
theorem d_m_goesBy_159 : decode (ch_bc m_m_goesBy) 159 = .ok (.getfield 9, 3) := by decide +kernel
theorem d_m_goesBy_162 : decode (ch_bc m_m_goesBy) 162 = .ok (.bipush 7, 2) := by decide +kernel
theorem d_m_goesBy_164 : decode (ch_bc m_m_goesBy) 164 = .ok (.dup2, 1) := by decide +kernel
theorem d_m_goesBy_165 : decode (ch_bc m_m_goesBy) 165 = .ok (.iaload, 1) := by decide +kernel
theorem d_m_goesBy_166 : decode (ch_bc m_m_goesBy) 166 = .ok (.iconst 1, 1) := by decide +kernel
theorem d_m_goesBy_167 : decode (ch_bc m_m_goesBy) 167 = .ok (.iadd, 1) := by decide +kernel
theorem d_m_goesBy_168 : decode (ch_bc m_m_goesBy) 168 = .ok (.iastore, 1) := by decide +kernel
theorem d_m_goesBy_169 : decode (ch_bc m_m_goesBy) 169 = .ok (.iload_n 1, 1) := by decide +kernel
theorem d_m_goesBy_170 : decode (ch_bc m_m_goesBy) 170 = .ok (.ireturn, 1) := by decide +kernel
theorem d_m_term_0 : decode (ch_bc m_m_term) 0 = .ok (.aload_n 0, 1) := by decide +kernel
theorem d_m_term_1 : decode (ch_bc m_m_term) 1 = .ok (.invokevirtual 96, 3) := by decide +kernel
theorem d_m_term_4 : decode (ch_bc m_m_term) 4 = .ok (.aload_n 0, 1) := by decide +kernel
theorem d_m_term_5 : decode (ch_bc m_m_term) 5 = .ok (.getfield 9, 3) := by decide +kernel
theorem d_m_term_8 : decode (ch_bc m_m_term) 8 = .ok (.iconst 0, 1) := by decide +kernel
theorem d_m_term_9 : decode (ch_bc m_m_term) 9 = .ok (.iaload, 1) := by decide +kernel
theorem d_m_term_10 : decode (ch_bc m_m_term) 10 = .ok (.ifCond .ne 15, 3) := by decide +kernel
theorem d_m_term_13 : decode (ch_bc m_m_term) 13 = .ok (.aload_n 0, 1) := by decide +kernel
theorem d_m_term_14 : decode (ch_bc m_m_term) 14 = .ok (.aload_n 0, 1) := by decide +kernel
theorem d_m_term_15 : decode (ch_bc m_m_term) 15 = .ok (.bipush 13, 2) := by decide +kernel
theorem d_m_term_17 : decode (ch_bc m_m_term) 17 = .ok (.iconst 0, 1) := by decide +kernel
theorem d_m_term_18 : decode (ch_bc m_m_term) 18 = .ok (.invokevirtual 81, 3) := by decide +kernel
theorem d_m_term_21 : decode (ch_bc m_m_term) 21 = .ok (.invokevirtual 102, 3) := by decide +kernel
theorem d_m_term_24 : decode (ch_bc m_m_term) 24 = .ok (.ireturn, 1) := by decide +kernel
theorem d_m_term_25 : decode (ch_bc m_m_term) 25 = .ok (.aload_n 0, 1) := by decide +kernel
theorem d_m_term_26 : decode (ch_bc m_m_term) 26 = .ok (.aload_n 0, 1) := by decide +kernel
theorem d_m_term_27 : decode (ch_bc m_m_term) 27 = .ok (.aload_n 0, 1) := by decide +kernel
theorem d_m_term_28 : decode (ch_bc m_m_term) 28 = .ok (.invokevirtual 176, 3) := by decide +kernel
theorem d_m_term_31 : decode (ch_bc m_m_term) 31 = .ok (.invokestatic 171, 3) := by decide +kernel
theorem d_m_term_34 : decode (ch_bc m_m_term) 34 = .ok (.invokevirtual 93, 3) := by decide +kernel
theorem d_m_term_37 : decode (ch_bc m_m_term) 37 = .ok (.invokevirtual 102, 3) := by decide +kernel
theorem d_m_term_40 : decode (ch_bc m_m_term) 40 = .ok (.ireturn, 1) := by decide +kernel
theorem d_m_gives_0 : decode (ch_bc m_m_gives) 0 = .ok (.aload_n 0, 1) := by decide +kernel
theorem d_m_gives_1 : decode (ch_bc m_m_gives) 1 = .ok (.iload_n 1, 1) := by decide +kernel
theorem d_m_gives_2 : decode (ch_bc m_m_gives) 2 = .ok (.invokevirtual 106, 3) := by decide +kernel
theorem d_m_gives_5 : decode (ch_bc m_m_gives) 5 = .ok (.ifCond .eq 11, 3) := by decide +kernel
theorem d_m_gives_8 : decode (ch_bc m_m_gives) 8 = .ok (.aload_n 0, 1) := by decide +kernel
theorem d_m_gives_9 : decode (ch_bc m_m_gives) 9 = .ok (.iload_n 2, 1) := by decide +kernel
theorem d_m_gives_10 : decode (ch_bc m_m_gives) 10 = .ok (.invokevirtual 106, 3) := by decide +kernel
theorem d_m_gives_13 : decode (ch_bc m_m_gives) 13 = .ok (.ifCond .ne 5, 3) := by decide +kernel
theorem d_m_gives_16 : decode (ch_bc m_m_gives) 16 = .ok (.iconst 0, 1) := by decide +kernel
theorem d_m_gives_17 : decode (ch_bc m_m_gives) 17 = .ok (.ireturn, 1) := by decide +kernel
theorem d_m_gives_18 : decode (ch_bc m_m_gives) 18 = .ok (.iload_n 1, 1) := by decide +kernel
theorem d_m_gives_19 : decode (ch_bc m_m_gives) 19 = .ok (.iload_n 2, 1) := by decide +kernel
theorem d_m_gives_20 : decode (ch_bc m_m_gives) 20 = .ok (.if_icmp .ne 11, 3) := by decide +kernel
theorem d_m_gives_23 : decode (ch_bc m_m_gives) 23 = .ok (.aload_n 0, 1) := by decide +kernel
theorem d_m_gives_24 : decode (ch_bc m_m_gives) 24 = .ok (.bipush 11, 2) := by decide +kernel
theorem d_m_gives_26 : decode (ch_bc m_m_gives) 26 = .ok (.iload_n 1, 1) := by decide +kernel
theorem d_m_gives_27 : decode (ch_bc m_m_gives) 27 = .ok (.invokevirtual 81, 3) := by decide +kernel
theorem d_m_gives_30 : decode (ch_bc m_m_gives) 30 = .ok (.ireturn, 1) := by decide +kernel
theorem d_m_gives_31 : decode (ch_bc m_m_gives) 31 = .ok (.iload_n 3, 1) := by decide +kernel
theorem d_m_gives_32 : decode (ch_bc m_m_gives) 32 = .ok (.iconst 1, 1) := by decide +kernel
theorem d_m_gives_33 : decode (ch_bc m_m_gives) 33 = .ok (.bipush 99, 2) := by decide +kernel
theorem d_m_gives_35 : decode (ch_bc m_m_gives) 35 = .ok (.invokestatic 73, 3) := by decide +kernel
theorem d_m_gives_38 : decode (ch_bc m_m_gives) 38 = .ok (.ifCond .ne 10, 3) := by decide +kernel
theorem d_m_gives_41 : decode (ch_bc m_m_gives) 41 = .ok (.aload_n 0, 1) := by decide +kernel
theorem d_m_gives_42 : decode (ch_bc m_m_gives) 42 = .ok (.iconst 1, 1) := by decide +kernel
theorem d_m_gives_43 : decode (ch_bc m_m_gives) 43 = .ok (.iconst 0, 1) := by decide +kernel
theorem d_m_gives_44 : decode (ch_bc m_m_gives) 44 = .ok (.invokevirtual 81, 3) := by decide +kernel
theorem d_m_gives_47 : decode (ch_bc m_m_gives) 47 = .ok (.ireturn, 1) := by decide +kernel
theorem d_m_gives_48 : decode (ch_bc m_m_gives) 48 = .ok (.aload_n 0, 1) := by decide +kernel
theorem d_m_gives_49 : decode (ch_bc m_m_gives) 49 = .ok (.iload_n 1, 1) := by decide +kernel
theorem d_m_gives_50 : decode (ch_bc m_m_gives) 50 = .ok (.iconst 0, 1) := by decide +kernel
theorem d_m_gives_51 : decode (ch_bc m_m_gives) 51 = .ok (.invokevirtual 85, 3) := by decide +kernel
theorem d_m_gives_54 : decode (ch_bc m_m_gives) 54 = .ok (.iload_n 3, 1) := by decide +kernel
theorem d_m_gives_55 : decode (ch_bc m_m_gives) 55 = .ok (.if_icmp .ge 17, 3) := by decide +kernel
theorem d_m_gives_58 : decode (ch_bc m_m_gives) 58 = .ok (.aload_n 0, 1) := by decide +kernel
theorem d_m_gives_59 : decode (ch_bc m_m_gives) 59 = .ok (.iconst 5, 1) := by decide +kernel
theorem d_m_gives_60 : decode (ch_bc m_m_gives) 60 = .ok (.iload_n 3, 1) := by decide +kernel
theorem d_m_gives_61 : decode (ch_bc m_m_gives) 61 = .ok (.aload_n 0, 1) := by decide +kernel
theorem d_m_gives_62 : decode (ch_bc m_m_gives) 62 = .ok (.iload_n 1, 1) := by decide +kernel
theorem d_m_gives_63 : decode (ch_bc m_m_gives) 63 = .ok (.iconst 0, 1) := by decide +kernel
theorem d_m_gives_64 : decode (ch_bc m_m_gives) 64 = .ok (.invokevirtual 85, 3) := by decide +kernel
theorem d_m_gives_67 : decode (ch_bc m_m_gives) 67 = .ok (.isub, 1) := by decide +kernel
theorem d_m_gives_68 : decode (ch_bc m_m_gives) 68 = .ok (.invokevirtual 81, 3) := by decide +kernel
theorem d_m_gives_71 : decode (ch_bc m_m_gives) 71 = .ok (.ireturn, 1) := by decide +kernel
theorem d_m_gives_72 : decode (ch_bc m_m_gives) 72 = .ok (.aload_n 0, 1) := by decide +kernel
theorem d_m_gives_73 : decode (ch_bc m_m_gives) 73 = .ok (.iload_n 1, 1) := by decide +kernel
theorem d_m_gives_74 : decode (ch_bc m_m_gives) 74 = .ok (.iconst 0, 1) := by decide +kernel
theorem d_m_gives_75 : decode (ch_bc m_m_gives) 75 = .ok (.aload_n 0, 1) := by decide +kernel
theorem d_m_gives_76 : decode (ch_bc m_m_gives) 76 = .ok (.iload_n 1, 1) := by decide +kernel
theorem d_m_gives_77 : decode (ch_bc m_m_gives) 77 = .ok (.iconst 0, 1) := by decide +kernel
theorem d_m_gives_78 : decode (ch_bc m_m_gives) 78 = .ok (.invokevirtual 85, 3) := by decide +kernel
theorem d_m_gives_81 : decode (ch_bc m_m_gives) 81 = .ok (.iload_n 3, 1) := by decide +kernel
theorem d_m_gives_82 : decode (ch_bc m_m_gives) 82 = .ok (.isub, 1) := by decide +kernel
theorem d_m_gives_83 : decode (ch_bc m_m_gives) 83 = .ok (.invokevirtual 89, 3) := by decide +kernel
theorem d_m_gives_86 : decode (ch_bc m_m_gives) 86 = .ok (.aload_n 0, 1) := by decide +kernel
theorem d_m_gives_87 : decode (ch_bc m_m_gives) 87 = .ok (.iload_n 2, 1) := by decide +kernel
theorem d_m_gives_88 : decode (ch_bc m_m_gives) 88 = .ok (.iconst 0, 1) := by decide +kernel
theorem d_m_gives_89 : decode (ch_bc m_m_gives) 89 = .ok (.aload_n 0, 1) := by decide +kernel
theorem d_m_gives_90 : decode (ch_bc m_m_gives) 90 = .ok (.iload_n 2, 1) := by decide +kernel
theorem d_m_gives_91 : decode (ch_bc m_m_gives) 91 = .ok (.iconst 0, 1) := by decide +kernel
theorem d_m_gives_92 : decode (ch_bc m_m_gives) 92 = .ok (.invokevirtual 85, 3) := by decide +kernel
theorem d_m_gives_95 : decode (ch_bc m_m_gives) 95 = .ok (.iload_n 3, 1) := by decide +kernel
theorem d_m_gives_96 : decode (ch_bc m_m_gives) 96 = .ok (.iadd, 1) := by decide +kernel
theorem d_m_gives_97 : decode (ch_bc m_m_gives) 97 = .ok (.invokevirtual 89, 3) := by decide +kernel
theorem d_m_gives_100 : decode (ch_bc m_m_gives) 100 = .ok (.aload_n 0, 1) := by decide +kernel
theorem d_m_gives_101 : decode (ch_bc m_m_gives) 101 = .ok (.aload_n 0, 1) := by decide +kernel
theorem d_m_gives_102 : decode (ch_bc m_m_gives) 102 = .ok (.iload_n 1, 1) := by decide +kernel
theorem d_m_gives_103 : decode (ch_bc m_m_gives) 103 = .ok (.iconst 0, 1) := by decide +kernel
theorem d_m_gives_104 : decode (ch_bc m_m_gives) 104 = .ok (.invokevirtual 85, 3) := by decide +kernel
theorem d_m_gives_107 : decode (ch_bc m_m_gives) 107 = .ok (.invokevirtual 93, 3) := by decide +kernel
theorem d_m_gives_110 : decode (ch_bc m_m_gives) 110 = .ok (.ireturn, 1) := by decide +kernel
theorem d_m_give_0 : decode (ch_bc m_m_give) 0 = .ok (.aload_n 0, 1) := by decide +kernel
theorem d_m_give_1 : decode (ch_bc m_m_give) 1 = .ok (.invokevirtual 96, 3) := by decide +kernel
theorem d_m_give_4 : decode (ch_bc m_m_give) 4 = .ok (.aload_n 0, 1) := by decide +kernel
theorem d_m_give_5 : decode (ch_bc m_m_give) 5 = .ok (.aload_n 0, 1) := by decide +kernel
theorem d_m_give_6 : decode (ch_bc m_m_give) 6 = .ok (.iload_n 1, 1) := by decide +kernel
theorem d_m_give_7 : decode (ch_bc m_m_give) 7 = .ok (.iload_n 2, 1) := by decide +kernel
theorem d_m_give_8 : decode (ch_bc m_m_give) 8 = .ok (.iload_n 3, 1) := by decide +kernel
theorem d_m_give_9 : decode (ch_bc m_m_give) 9 = .ok (.invokevirtual 179, 3) := by decide +kernel
theorem d_m_give_12 : decode (ch_bc m_m_give) 12 = .ok (.invokevirtual 102, 3) := by decide +kernel
theorem d_m_give_15 : decode (ch_bc m_m_give) 15 = .ok (.ireturn, 1) := by decide +kernel
theorem d_m_squareOf_0 : decode (ch_bc m_m_squareOf) 0 = .ok (.aload_n 0, 1) := by decide +kernel
theorem d_m_squareOf_1 : decode (ch_bc m_m_squareOf) 1 = .ok (.iload_n 1, 1) := by decide +kernel
theorem d_m_squareOf_2 : decode (ch_bc m_m_squareOf) 2 = .ok (.iconst 0, 1) := by decide +kernel
theorem d_m_squareOf_3 : decode (ch_bc m_m_squareOf) 3 = .ok (.bipush 11, 2) := by decide +kernel
theorem d_m_squareOf_5 : decode (ch_bc m_m_squareOf) 5 = .ok (.invokestatic 73, 3) := by decide +kernel
theorem d_m_squareOf_8 : decode (ch_bc m_m_squareOf) 8 = .ok (.ifCond .eq 7, 3) := by decide +kernel
theorem d_m_squareOf_11 : decode (ch_bc m_m_squareOf) 11 = .ok (.iconst 0, 1) := by decide +kernel
theorem d_m_squareOf_12 : decode (ch_bc m_m_squareOf) 12 = .ok (.goto 4, 3) := by decide +kernel
theorem d_m_squareOf_15 : decode (ch_bc m_m_squareOf) 15 = .ok (.iconst 1, 1) := by decide +kernel
theorem d_m_squareOf_16 : decode (ch_bc m_m_squareOf) 16 = .ok (.putfield 48, 3) := by decide +kernel
theorem d_m_squareOf_19 : decode (ch_bc m_m_squareOf) 19 = .ok (.aload_n 0, 1) := by decide +kernel
theorem d_m_squareOf_20 : decode (ch_bc m_m_squareOf) 20 = .ok (.getfield 48, 3) := by decide +kernel
theorem d_m_squareOf_23 : decode (ch_bc m_m_squareOf) 23 = .ok (.ifCond .le 7, 3) := by decide +kernel
theorem d_m_squareOf_26 : decode (ch_bc m_m_squareOf) 26 = .ok (.iconst 0, 1) := by decide +kernel
theorem d_m_squareOf_27 : decode (ch_bc m_m_squareOf) 27 = .ok (.goto 20, 3) := by decide +kernel
theorem d_m_squareOf_30 : decode (ch_bc m_m_squareOf) 30 = .ok (.iload_n 2, 1) := by decide +kernel
theorem d_m_squareOf_31 : decode (ch_bc m_m_squareOf) 31 = .ok (.ifCond .eq 11, 3) := by decide +kernel
theorem d_m_squareOf_34 : decode (ch_bc m_m_squareOf) 34 = .ok (.aload_n 0, 1) := by decide +kernel
theorem d_m_squareOf_35 : decode (ch_bc m_m_squareOf) 35 = .ok (.iload_n 1, 1) := by decide +kernel
theorem d_m_squareOf_36 : decode (ch_bc m_m_squareOf) 36 = .ok (.invokevirtual 112, 3) := by decide +kernel
theorem d_m_squareOf_39 : decode (ch_bc m_m_squareOf) 39 = .ok (.goto 8, 3) := by decide +kernel
theorem d_m_squareOf_42 : decode (ch_bc m_m_squareOf) 42 = .ok (.aload_n 0, 1) := by decide +kernel
theorem d_m_squareOf_43 : decode (ch_bc m_m_squareOf) 43 = .ok (.iload_n 1, 1) := by decide +kernel
theorem d_m_squareOf_44 : decode (ch_bc m_m_squareOf) 44 = .ok (.invokevirtual 109, 3) := by decide +kernel
theorem d_m_squareOf_47 : decode (ch_bc m_m_squareOf) 47 = .ok (.ireturn, 1) := by decide +kernel
theorem d_m_ownSet_0 : decode (ch_bc m_m_ownSet) 0 = .ok (.iconst 0, 1) := by decide +kernel
theorem d_m_ownSet_1 : decode (ch_bc m_m_ownSet) 1 = .ok (.istore_n 2, 1) := by decide +kernel
theorem d_m_ownSet_2 : decode (ch_bc m_m_ownSet) 2 = .ok (.iconst 0, 1) := by decide +kernel
theorem d_m_ownSet_3 : decode (ch_bc m_m_ownSet) 3 = .ok (.istore_n 3, 1) := by decide +kernel
theorem d_m_ownSet_4 : decode (ch_bc m_m_ownSet) 4 = .ok (.iload_n 3, 1) := by decide +kernel
theorem d_m_ownSet_5 : decode (ch_bc m_m_ownSet) 5 = .ok (.bipush 12, 2) := by decide +kernel
theorem d_m_ownSet_7 : decode (ch_bc m_m_ownSet) 7 = .ok (.if_icmp .ge 24, 3) := by decide +kernel
theorem d_m_ownSet_10 : decode (ch_bc m_m_ownSet) 10 = .ok (.aload_n 0, 1) := by decide +kernel
theorem d_m_ownSet_11 : decode (ch_bc m_m_ownSet) 11 = .ok (.iload_n 3, 1) := by decide +kernel
theorem d_m_ownSet_12 : decode (ch_bc m_m_ownSet) 12 = .ok (.invokevirtual 109, 3) := by decide +kernel
theorem d_m_ownSet_15 : decode (ch_bc m_m_ownSet) 15 = .ok (.iload_n 1, 1) := by decide +kernel
theorem d_m_ownSet_16 : decode (ch_bc m_m_ownSet) 16 = .ok (.if_icmp .ne 9, 3) := by decide +kernel
theorem d_m_ownSet_19 : decode (ch_bc m_m_ownSet) 19 = .ok (.iload_n 2, 1) := by decide +kernel
theorem d_m_ownSet_20 : decode (ch_bc m_m_ownSet) 20 = .ok (.iconst 1, 1) := by decide +kernel
theorem d_m_ownSet_21 : decode (ch_bc m_m_ownSet) 21 = .ok (.iload_n 3, 1) := by decide +kernel
theorem d_m_ownSet_22 : decode (ch_bc m_m_ownSet) 22 = .ok (.ishl, 1) := by decide +kernel
theorem d_m_ownSet_23 : decode (ch_bc m_m_ownSet) 23 = .ok (.ior, 1) := by decide +kernel
theorem d_m_ownSet_24 : decode (ch_bc m_m_ownSet) 24 = .ok (.istore_n 2, 1) := by decide +kernel
theorem d_m_ownSet_25 : decode (ch_bc m_m_ownSet) 25 = .ok (.iinc 3 1, 3) := by decide +kernel
theorem d_m_ownSet_28 : decode (ch_bc m_m_ownSet) 28 = .ok (.goto (-24), 3) := by decide +kernel
theorem d_m_ownSet_31 : decode (ch_bc m_m_ownSet) 31 = .ok (.iload_n 2, 1) := by decide +kernel
theorem d_m_ownSet_32 : decode (ch_bc m_m_ownSet) 32 = .ok (.ireturn, 1) := by decide +kernel
theorem d_m_childOf_0 : decode (ch_bc m_m_childOf) 0 = .ok (.aload_n 0, 1) := by decide +kernel
theorem d_m_childOf_1 : decode (ch_bc m_m_childOf) 1 = .ok (.iconst 0, 1) := by decide +kernel
theorem d_m_childOf_2 : decode (ch_bc m_m_childOf) 2 = .ok (.putfield 48, 3) := by decide +kernel
theorem d_m_childOf_5 : decode (ch_bc m_m_childOf) 5 = .ok (.aload_n 0, 1) := by decide +kernel
theorem d_m_childOf_6 : decode (ch_bc m_m_childOf) 6 = .ok (.iload_n 1, 1) := by decide +kernel
theorem d_m_childOf_7 : decode (ch_bc m_m_childOf) 7 = .ok (.invokevirtual 77, 3) := by decide +kernel
theorem d_m_childOf_10 : decode (ch_bc m_m_childOf) 10 = .ok (.ifCond .ne 9, 3) := by decide +kernel
theorem d_m_childOf_13 : decode (ch_bc m_m_childOf) 13 = .ok (.aload_n 0, 1) := by decide +kernel
theorem d_m_childOf_14 : decode (ch_bc m_m_childOf) 14 = .ok (.iconst 1, 1) := by decide +kernel
theorem d_m_childOf_15 : decode (ch_bc m_m_childOf) 15 = .ok (.invokevirtual 70, 3) := by decide +kernel
theorem d_m_childOf_18 : decode (ch_bc m_m_childOf) 18 = .ok (.ireturn, 1) := by decide +kernel
theorem d_m_childOf_19 : decode (ch_bc m_m_childOf) 19 = .ok (.iconst 0, 1) := by decide +kernel
theorem d_m_childOf_20 : decode (ch_bc m_m_childOf) 20 = .ok (.istore_n 3, 1) := by decide +kernel
theorem d_m_childOf_21 : decode (ch_bc m_m_childOf) 21 = .ok (.iload_n 2, 1) := by decide +kernel
theorem d_m_childOf_22 : decode (ch_bc m_m_childOf) 22 = .ok (.tableswitch 109 0 6 #[42, 42, 42, 49, 58, 95, 102], 42) := by decide +kernel
theorem d_m_childOf_64 : decode (ch_bc m_m_childOf) 64 = .ok (.aload_n 0, 1) := by decide +kernel
theorem d_m_childOf_65 : decode (ch_bc m_m_childOf) 65 = .ok (.iload_n 1, 1) := by decide +kernel
theorem d_m_childOf_66 : decode (ch_bc m_m_childOf) 66 = .ok (.iload_n 2, 1) := by decide +kernel
theorem d_m_childOf_67 : decode (ch_bc m_m_childOf) 67 = .ok (.invokevirtual 85, 3) := by decide +kernel
theorem d_m_childOf_70 : decode (ch_bc m_m_childOf) 70 = .ok (.ireturn, 1) := by decide +kernel
theorem d_m_childOf_71 : decode (ch_bc m_m_childOf) 71 = .ok (.aload_n 0, 1) := by decide +kernel
theorem d_m_childOf_72 : decode (ch_bc m_m_childOf) 72 = .ok (.iload_n 1, 1) := by decide +kernel
theorem d_m_childOf_73 : decode (ch_bc m_m_childOf) 73 = .ok (.invokevirtual 182, 3) := by decide +kernel
theorem d_m_childOf_76 : decode (ch_bc m_m_childOf) 76 = .ok (.invokestatic 171, 3) := by decide +kernel
theorem d_m_childOf_79 : decode (ch_bc m_m_childOf) 79 = .ok (.ireturn, 1) := by decide +kernel
theorem d_m_childOf_80 : decode (ch_bc m_m_childOf) 80 = .ok (.iconst 0, 1) := by decide +kernel
theorem d_m_childOf_81 : decode (ch_bc m_m_childOf) 81 = .ok (.istore 4, 2) := by decide +kernel
theorem d_m_childOf_83 : decode (ch_bc m_m_childOf) 83 = .ok (.iload 4, 2) := by decide +kernel
theorem d_m_childOf_85 : decode (ch_bc m_m_childOf) 85 = .ok (.bipush 12, 2) := by decide +kernel
theorem d_m_childOf_87 : decode (ch_bc m_m_childOf) 87 = .ok (.if_icmp .ge 28, 3) := by decide +kernel
theorem d_m_childOf_90 : decode (ch_bc m_m_childOf) 90 = .ok (.aload_n 0, 1) := by decide +kernel
theorem d_m_childOf_91 : decode (ch_bc m_m_childOf) 91 = .ok (.iload 4, 2) := by decide +kernel
theorem d_m_childOf_93 : decode (ch_bc m_m_childOf) 93 = .ok (.invokevirtual 109, 3) := by decide +kernel
theorem d_m_childOf_96 : decode (ch_bc m_m_childOf) 96 = .ok (.iload_n 1, 1) := by decide +kernel
theorem d_m_childOf_97 : decode (ch_bc m_m_childOf) 97 = .ok (.if_icmp .ne 12, 3) := by decide +kernel
theorem d_m_childOf_100 : decode (ch_bc m_m_childOf) 100 = .ok (.iload_n 3, 1) := by decide +kernel
theorem d_m_childOf_101 : decode (ch_bc m_m_childOf) 101 = .ok (.aload_n 0, 1) := by decide +kernel
theorem d_m_childOf_102 : decode (ch_bc m_m_childOf) 102 = .ok (.iload 4, 2) := by decide +kernel
theorem d_m_childOf_104 : decode (ch_bc m_m_childOf) 104 = .ok (.invokevirtual 112, 3) := by decide +kernel
theorem d_m_childOf_107 : decode (ch_bc m_m_childOf) 107 = .ok (.iadd, 1) := by decide +kernel
theorem d_m_childOf_108 : decode (ch_bc m_m_childOf) 108 = .ok (.istore_n 3, 1) := by decide +kernel
theorem d_m_childOf_109 : decode (ch_bc m_m_childOf) 109 = .ok (.iinc 4 1, 3) := by decide +kernel
theorem d_m_childOf_112 : decode (ch_bc m_m_childOf) 112 = .ok (.goto (-29), 3) := by decide +kernel
theorem d_m_childOf_115 : decode (ch_bc m_m_childOf) 115 = .ok (.iload_n 3, 1) := by decide +kernel
theorem d_m_childOf_116 : decode (ch_bc m_m_childOf) 116 = .ok (.ireturn, 1) := by decide +kernel
theorem d_m_childOf_117 : decode (ch_bc m_m_childOf) 117 = .ok (.aload_n 0, 1) := by decide +kernel
theorem d_m_childOf_118 : decode (ch_bc m_m_childOf) 118 = .ok (.iload_n 1, 1) := by decide +kernel
theorem d_m_childOf_119 : decode (ch_bc m_m_childOf) 119 = .ok (.iconst 3, 1) := by decide +kernel
theorem d_m_childOf_120 : decode (ch_bc m_m_childOf) 120 = .ok (.invokevirtual 85, 3) := by decide +kernel
theorem d_m_childOf_123 : decode (ch_bc m_m_childOf) 123 = .ok (.ireturn, 1) := by decide +kernel
theorem d_m_childOf_124 : decode (ch_bc m_m_childOf) 124 = .ok (.aload_n 0, 1) := by decide +kernel
theorem d_m_childOf_125 : decode (ch_bc m_m_childOf) 125 = .ok (.iload_n 1, 1) := by decide +kernel
theorem d_m_childOf_126 : decode (ch_bc m_m_childOf) 126 = .ok (.iconst 4, 1) := by decide +kernel
theorem d_m_childOf_127 : decode (ch_bc m_m_childOf) 127 = .ok (.invokevirtual 85, 3) := by decide +kernel
theorem d_m_childOf_130 : decode (ch_bc m_m_childOf) 130 = .ok (.ireturn, 1) := by decide +kernel
theorem d_m_childOf_131 : decode (ch_bc m_m_childOf) 131 = .ok (.aload_n 0, 1) := by decide +kernel
theorem d_m_childOf_132 : decode (ch_bc m_m_childOf) 132 = .ok (.iconst 2, 1) := by decide +kernel
theorem d_m_childOf_133 : decode (ch_bc m_m_childOf) 133 = .ok (.invokevirtual 70, 3) := by decide +kernel
theorem d_m_childOf_136 : decode (ch_bc m_m_childOf) 136 = .ok (.ireturn, 1) := by decide +kernel
theorem d_m_squares_0 : decode (ch_bc m_m_squares) 0 = .ok (.aload_n 0, 1) := by decide +kernel
theorem d_m_squares_1 : decode (ch_bc m_m_squares) 1 = .ok (.aload_n 0, 1) := by decide +kernel
theorem d_m_squares_2 : decode (ch_bc m_m_squares) 2 = .ok (.iload_n 1, 1) := by decide +kernel
theorem d_m_squares_3 : decode (ch_bc m_m_squares) 3 = .ok (.invokevirtual 77, 3) := by decide +kernel
theorem d_m_squares_6 : decode (ch_bc m_m_squares) 6 = .ok (.ifCond .eq 7, 3) := by decide +kernel
theorem d_m_squares_9 : decode (ch_bc m_m_squares) 9 = .ok (.iconst 0, 1) := by decide +kernel
theorem d_m_squares_10 : decode (ch_bc m_m_squares) 10 = .ok (.goto 4, 3) := by decide +kernel
theorem d_m_squares_13 : decode (ch_bc m_m_squares) 13 = .ok (.iconst 1, 1) := by decide +kernel
theorem d_m_squares_14 : decode (ch_bc m_m_squares) 14 = .ok (.putfield 48, 3) := by decide +kernel
theorem d_m_squares_17 : decode (ch_bc m_m_squares) 17 = .ok (.aload_n 0, 1) := by decide +kernel
theorem d_m_squares_18 : decode (ch_bc m_m_squares) 18 = .ok (.getfield 48, 3) := by decide +kernel
theorem d_m_squares_21 : decode (ch_bc m_m_squares) 21 = .ok (.ifCond .ne 11, 3) := by decide +kernel
theorem d_m_squares_24 : decode (ch_bc m_m_squares) 24 = .ok (.aload_n 0, 1) := by decide +kernel
theorem d_m_squares_25 : decode (ch_bc m_m_squares) 25 = .ok (.iload_n 1, 1) := by decide +kernel
theorem d_m_squares_26 : decode (ch_bc m_m_squares) 26 = .ok (.invokevirtual 182, 3) := by decide +kernel
theorem d_m_squares_29 : decode (ch_bc m_m_squares) 29 = .ok (.goto 4, 3) := by decide +kernel
theorem d_m_squares_32 : decode (ch_bc m_m_squares) 32 = .ok (.iconst 0, 1) := by decide +kernel
theorem d_m_squares_33 : decode (ch_bc m_m_squares) 33 = .ok (.ireturn, 1) := by decide +kernel
theorem d_m_warrantAt_0 : decode (ch_bc m_m_warrantAt) 0 = .ok (.aload_n 0, 1) := by decide +kernel
theorem d_m_warrantAt_1 : decode (ch_bc m_m_warrantAt) 1 = .ok (.iload_n 1, 1) := by decide +kernel
theorem d_m_warrantAt_2 : decode (ch_bc m_m_warrantAt) 2 = .ok (.iconst 0, 1) := by decide +kernel
theorem d_m_warrantAt_3 : decode (ch_bc m_m_warrantAt) 3 = .ok (.aload_n 0, 1) := by decide +kernel
theorem d_m_warrantAt_4 : decode (ch_bc m_m_warrantAt) 4 = .ok (.getfield 9, 3) := by decide +kernel
theorem d_m_warrantAt_7 : decode (ch_bc m_m_warrantAt) 7 = .ok (.bipush 8, 2) := by decide +kernel
theorem d_m_warrantAt_9 : decode (ch_bc m_m_warrantAt) 9 = .ok (.iaload, 1) := by decide +kernel
theorem d_m_warrantAt_10 : decode (ch_bc m_m_warrantAt) 10 = .ok (.iconst 1, 1) := by decide +kernel
theorem d_m_warrantAt_11 : decode (ch_bc m_m_warrantAt) 11 = .ok (.isub, 1) := by decide +kernel
theorem d_m_warrantAt_12 : decode (ch_bc m_m_warrantAt) 12 = .ok (.invokestatic 73, 3) := by decide +kernel
theorem d_m_warrantAt_15 : decode (ch_bc m_m_warrantAt) 15 = .ok (.ifCond .eq 7, 3) := by decide +kernel
theorem d_m_warrantAt_18 : decode (ch_bc m_m_warrantAt) 18 = .ok (.iconst 0, 1) := by decide +kernel
theorem d_m_warrantAt_19 : decode (ch_bc m_m_warrantAt) 19 = .ok (.goto 4, 3) := by decide +kernel
theorem d_m_warrantAt_22 : decode (ch_bc m_m_warrantAt) 22 = .ok (.iconst 1, 1) := by decide +kernel
theorem d_m_warrantAt_23 : decode (ch_bc m_m_warrantAt) 23 = .ok (.putfield 48, 3) := by decide +kernel
theorem d_m_warrantAt_26 : decode (ch_bc m_m_warrantAt) 26 = .ok (.aload_n 0, 1) := by decide +kernel
theorem d_m_warrantAt_27 : decode (ch_bc m_m_warrantAt) 27 = .ok (.getfield 48, 3) := by decide +kernel
theorem d_m_warrantAt_30 : decode (ch_bc m_m_warrantAt) 30 = .ok (.ifCond .ne 15, 3) := by decide +kernel
theorem d_m_warrantAt_33 : decode (ch_bc m_m_warrantAt) 33 = .ok (.aload_n 0, 1) := by decide +kernel
theorem d_m_warrantAt_34 : decode (ch_bc m_m_warrantAt) 34 = .ok (.getfield 9, 3) := by decide +kernel
theorem d_m_warrantAt_37 : decode (ch_bc m_m_warrantAt) 37 = .ok (.bipush 9, 2) := by decide +kernel
theorem d_m_warrantAt_39 : decode (ch_bc m_m_warrantAt) 39 = .ok (.iload_n 1, 1) := by decide +kernel
theorem d_m_warrantAt_40 : decode (ch_bc m_m_warrantAt) 40 = .ok (.iadd, 1) := by decide +kernel
theorem d_m_warrantAt_41 : decode (ch_bc m_m_warrantAt) 41 = .ok (.iaload, 1) := by decide +kernel
theorem d_m_warrantAt_42 : decode (ch_bc m_m_warrantAt) 42 = .ok (.goto 4, 3) := by decide +kernel
theorem d_m_warrantAt_45 : decode (ch_bc m_m_warrantAt) 45 = .ok (.iconst 0, 1) := by decide +kernel
theorem d_m_warrantAt_46 : decode (ch_bc m_m_warrantAt) 46 = .ok (.ireturn, 1) := by decide +kernel
theorem d_m_looks_0 : decode (ch_bc m_m_looks) 0 = .ok (.aload_n 0, 1) := by decide +kernel
theorem d_m_looks_1 : decode (ch_bc m_m_looks) 1 = .ok (.getfield 42, 3) := by decide +kernel
theorem d_m_looks_4 : decode (ch_bc m_m_looks) 4 = .ok (.bipush 12, 2) := by decide +kernel
theorem d_m_looks_6 : decode (ch_bc m_m_looks) 6 = .ok (.iconst 0, 1) := by decide +kernel
theorem d_m_looks_7 : decode (ch_bc m_m_looks) 7 = .ok (.iastore, 1) := by decide +kernel
theorem d_m_looks_8 : decode (ch_bc m_m_looks) 8 = .ok (.aload_n 0, 1) := by decide +kernel
theorem d_m_looks_9 : decode (ch_bc m_m_looks) 9 = .ok (.getfield 45, 3) := by decide +kernel
theorem d_m_looks_12 : decode (ch_bc m_m_looks) 12 = .ok (.bipush 12, 2) := by decide +kernel
theorem d_m_looks_14 : decode (ch_bc m_m_looks) 14 = .ok (.iconst 0, 1) := by decide +kernel
theorem d_m_looks_15 : decode (ch_bc m_m_looks) 15 = .ok (.iastore, 1) := by decide +kernel
theorem d_m_looks_16 : decode (ch_bc m_m_looks) 16 = .ok (.bipush 11, 2) := by decide +kernel
theorem d_m_looks_18 : decode (ch_bc m_m_looks) 18 = .ok (.istore_n 2, 1) := by decide +kernel
theorem d_m_looks_19 : decode (ch_bc m_m_looks) 19 = .ok (.iload_n 2, 1) := by decide +kernel
theorem d_m_looks_20 : decode (ch_bc m_m_looks) 20 = .ok (.ifCond .lt 134, 3) := by decide +kernel
theorem d_m_looks_23 : decode (ch_bc m_m_looks) 23 = .ok (.aload_n 0, 1) := by decide +kernel
theorem d_m_looks_24 : decode (ch_bc m_m_looks) 24 = .ok (.getfield 42, 3) := by decide +kernel
theorem d_m_looks_27 : decode (ch_bc m_m_looks) 27 = .ok (.iload_n 2, 1) := by decide +kernel
theorem d_m_looks_28 : decode (ch_bc m_m_looks) 28 = .ok (.bipush 100, 2) := by decide +kernel
theorem d_m_looks_30 : decode (ch_bc m_m_looks) 30 = .ok (.iastore, 1) := by decide +kernel
theorem d_m_looks_31 : decode (ch_bc m_m_looks) 31 = .ok (.iconst 1, 1) := by decide +kernel
theorem d_m_looks_32 : decode (ch_bc m_m_looks) 32 = .ok (.istore_n 3, 1) := by decide +kernel
theorem d_m_looks_33 : decode (ch_bc m_m_looks) 33 = .ok (.iload_n 3, 1) := by decide +kernel
theorem d_m_looks_34 : decode (ch_bc m_m_looks) 34 = .ok (.iconst 4, 1) := by decide +kernel
theorem d_m_looks_35 : decode (ch_bc m_m_looks) 35 = .ok (.if_icmp .ge 113, 3) := by decide +kernel
theorem d_m_looks_38 : decode (ch_bc m_m_looks) 38 = .ok (.bipush 12, 2) := by decide +kernel
theorem d_m_looks_40 : decode (ch_bc m_m_looks) 40 = .ok (.iload_n 2, 1) := by decide +kernel
theorem d_m_looks_41 : decode (ch_bc m_m_looks) 41 = .ok (.iload_n 3, 1) := by decide +kernel
theorem d_m_looks_42 : decode (ch_bc m_m_looks) 42 = .ok (.iadd, 1) := by decide +kernel
theorem d_m_looks_43 : decode (ch_bc m_m_looks) 43 = .ok (.invokestatic 118, 3) := by decide +kernel
theorem d_m_looks_46 : decode (ch_bc m_m_looks) 46 = .ok (.istore 4, 2) := by decide +kernel
theorem d_m_looks_48 : decode (ch_bc m_m_looks) 48 = .ok (.aload_n 0, 1) := by decide +kernel
theorem d_m_looks_49 : decode (ch_bc m_m_looks) 49 = .ok (.getfield 42, 3) := by decide +kernel
theorem d_m_looks_52 : decode (ch_bc m_m_looks) 52 = .ok (.iload 4, 2) := by decide +kernel
theorem d_m_looks_54 : decode (ch_bc m_m_looks) 54 = .ok (.iaload, 1) := by decide +kernel
theorem d_m_looks_55 : decode (ch_bc m_m_looks) 55 = .ok (.aload_n 0, 1) := by decide +kernel
theorem d_m_looks_56 : decode (ch_bc m_m_looks) 56 = .ok (.iload_n 1, 1) := by decide +kernel
theorem d_m_looks_57 : decode (ch_bc m_m_looks) 57 = .ok (.iload_n 2, 1) := by decide +kernel
theorem d_m_looks_58 : decode (ch_bc m_m_looks) 58 = .ok (.iload_n 3, 1) := by decide +kernel
theorem d_m_looks_59 : decode (ch_bc m_m_looks) 59 = .ok (.iadd, 1) := by decide +kernel
theorem d_m_looks_60 : decode (ch_bc m_m_looks) 60 = .ok (.iconst 1, 1) := by decide +kernel
theorem d_m_looks_61 : decode (ch_bc m_m_looks) 61 = .ok (.isub, 1) := by decide +kernel
theorem d_m_looks_62 : decode (ch_bc m_m_looks) 62 = .ok (.invokevirtual 129, 3) := by decide +kernel
theorem d_m_looks_65 : decode (ch_bc m_m_looks) 65 = .ok (.ifCond .eq 7, 3) := by decide +kernel
theorem d_m_looks_68 : decode (ch_bc m_m_looks) 68 = .ok (.iconst 1, 1) := by decide +kernel
theorem d_m_looks_69 : decode (ch_bc m_m_looks) 69 = .ok (.goto 4, 3) := by decide +kernel
theorem d_m_looks_72 : decode (ch_bc m_m_looks) 72 = .ok (.iconst 0, 1) := by decide +kernel
theorem d_m_looks_73 : decode (ch_bc m_m_looks) 73 = .ok (.iadd, 1) := by decide +kernel
theorem d_m_looks_74 : decode (ch_bc m_m_looks) 74 = .ok (.istore 5, 2) := by decide +kernel
theorem d_m_looks_76 : decode (ch_bc m_m_looks) 76 = .ok (.iload 5, 2) := by decide +kernel
theorem d_m_looks_78 : decode (ch_bc m_m_looks) 78 = .ok (.aload_n 0, 1) := by decide +kernel
theorem d_m_looks_79 : decode (ch_bc m_m_looks) 79 = .ok (.getfield 42, 3) := by decide +kernel
theorem d_m_looks_82 : decode (ch_bc m_m_looks) 82 = .ok (.iload_n 2, 1) := by decide +kernel
theorem d_m_looks_83 : decode (ch_bc m_m_looks) 83 = .ok (.iaload, 1) := by decide +kernel
theorem d_m_looks_84 : decode (ch_bc m_m_looks) 84 = .ok (.if_icmp .gt 58, 3) := by decide +kernel
theorem d_m_looks_87 : decode (ch_bc m_m_looks) 87 = .ok (.iload 5, 2) := by decide +kernel
theorem d_m_looks_89 : decode (ch_bc m_m_looks) 89 = .ok (.aload_n 0, 1) := by decide +kernel
theorem d_m_looks_90 : decode (ch_bc m_m_looks) 90 = .ok (.getfield 42, 3) := by decide +kernel
theorem d_m_looks_93 : decode (ch_bc m_m_looks) 93 = .ok (.iload_n 2, 1) := by decide +kernel
theorem d_m_looks_94 : decode (ch_bc m_m_looks) 94 = .ok (.iaload, 1) := by decide +kernel
theorem d_m_looks_95 : decode (ch_bc m_m_looks) 95 = .ok (.if_icmp .ne 24, 3) := by decide +kernel
theorem d_m_looks_98 : decode (ch_bc m_m_looks) 98 = .ok (.aload_n 0, 1) := by decide +kernel
theorem d_m_looks_99 : decode (ch_bc m_m_looks) 99 = .ok (.getfield 45, 3) := by decide +kernel
theorem d_m_looks_102 : decode (ch_bc m_m_looks) 102 = .ok (.iload 4, 2) := by decide +kernel
theorem d_m_looks_104 : decode (ch_bc m_m_looks) 104 = .ok (.iaload, 1) := by decide +kernel
theorem d_m_looks_105 : decode (ch_bc m_m_looks) 105 = .ok (.iconst 1, 1) := by decide +kernel
theorem d_m_looks_106 : decode (ch_bc m_m_looks) 106 = .ok (.iadd, 1) := by decide +kernel
theorem d_m_looks_107 : decode (ch_bc m_m_looks) 107 = .ok (.aload_n 0, 1) := by decide +kernel
theorem d_m_looks_108 : decode (ch_bc m_m_looks) 108 = .ok (.getfield 45, 3) := by decide +kernel
theorem d_m_looks_111 : decode (ch_bc m_m_looks) 111 = .ok (.iload_n 2, 1) := by decide +kernel
theorem d_m_looks_112 : decode (ch_bc m_m_looks) 112 = .ok (.iaload, 1) := by decide +kernel
theorem d_m_looks_113 : decode (ch_bc m_m_looks) 113 = .ok (.if_icmp .lt 6, 3) := by decide +kernel
theorem d_m_looks_116 : decode (ch_bc m_m_looks) 116 = .ok (.goto 26, 3) := by decide +kernel
theorem d_m_looks_119 : decode (ch_bc m_m_looks) 119 = .ok (.aload_n 0, 1) := by decide +kernel
theorem d_m_looks_120 : decode (ch_bc m_m_looks) 120 = .ok (.getfield 42, 3) := by decide +kernel
theorem d_m_looks_123 : decode (ch_bc m_m_looks) 123 = .ok (.iload_n 2, 1) := by decide +kernel
theorem d_m_looks_124 : decode (ch_bc m_m_looks) 124 = .ok (.iload 5, 2) := by decide +kernel
theorem d_m_looks_126 : decode (ch_bc m_m_looks) 126 = .ok (.iastore, 1) := by decide +kernel
theorem d_m_looks_127 : decode (ch_bc m_m_looks) 127 = .ok (.aload_n 0, 1) := by decide +kernel
theorem d_m_looks_128 : decode (ch_bc m_m_looks) 128 = .ok (.getfield 45, 3) := by decide +kernel
theorem d_m_looks_131 : decode (ch_bc m_m_looks) 131 = .ok (.iload_n 2, 1) := by decide +kernel
theorem d_m_looks_132 : decode (ch_bc m_m_looks) 132 = .ok (.aload_n 0, 1) := by decide +kernel
theorem d_m_looks_133 : decode (ch_bc m_m_looks) 133 = .ok (.getfield 45, 3) := by decide +kernel
theorem d_m_looks_136 : decode (ch_bc m_m_looks) 136 = .ok (.iload 4, 2) := by decide +kernel
theorem d_m_looks_138 : decode (ch_bc m_m_looks) 138 = .ok (.iaload, 1) := by decide +kernel
theorem d_m_looks_139 : decode (ch_bc m_m_looks) 139 = .ok (.iconst 1, 1) := by decide +kernel
theorem d_m_looks_140 : decode (ch_bc m_m_looks) 140 = .ok (.iadd, 1) := by decide +kernel
theorem d_m_looks_141 : decode (ch_bc m_m_looks) 141 = .ok (.iastore, 1) := by decide +kernel
