theorem d_m_looks_142 : decode (ch_bc m_m_looks) 142 = .ok (.iinc 3 1, 3) := by decide +kernel
theorem d_m_looks_145 : decode (ch_bc m_m_looks) 145 = .ok (.goto (-112), 3) := by decide +kernel
theorem d_m_looks_148 : decode (ch_bc m_m_looks) 148 = .ok (.iinc 2 (-1), 3) := by decide +kernel
theorem d_m_looks_151 : decode (ch_bc m_m_looks) 151 = .ok (.goto (-132), 3) := by decide +kernel
theorem d_m_looks_154 : decode (ch_bc m_m_looks) 154 = .ok (.return_, 1) := by decide +kernel
theorem d_m_fewest_0 : decode (ch_bc m_m_fewest) 0 = .ok (.aload_n 0, 1) := by decide +kernel
theorem d_m_fewest_1 : decode (ch_bc m_m_fewest) 1 = .ok (.aload_n 0, 1) := by decide +kernel
theorem d_m_fewest_2 : decode (ch_bc m_m_fewest) 2 = .ok (.iload_n 1, 1) := by decide +kernel
theorem d_m_fewest_3 : decode (ch_bc m_m_fewest) 3 = .ok (.invokevirtual 77, 3) := by decide +kernel
theorem d_m_fewest_6 : decode (ch_bc m_m_fewest) 6 = .ok (.ifCond .eq 7, 3) := by decide +kernel
theorem d_m_fewest_9 : decode (ch_bc m_m_fewest) 9 = .ok (.iconst 0, 1) := by decide +kernel
theorem d_m_fewest_10 : decode (ch_bc m_m_fewest) 10 = .ok (.goto 4, 3) := by decide +kernel
theorem d_m_fewest_13 : decode (ch_bc m_m_fewest) 13 = .ok (.iconst 1, 1) := by decide +kernel
theorem d_m_fewest_14 : decode (ch_bc m_m_fewest) 14 = .ok (.putfield 48, 3) := by decide +kernel
theorem d_m_fewest_17 : decode (ch_bc m_m_fewest) 17 = .ok (.aload_n 0, 1) := by decide +kernel
theorem d_m_fewest_18 : decode (ch_bc m_m_fewest) 18 = .ok (.getfield 48, 3) := by decide +kernel
theorem d_m_fewest_21 : decode (ch_bc m_m_fewest) 21 = .ok (.ifCond .le 5, 3) := by decide +kernel
theorem d_m_fewest_24 : decode (ch_bc m_m_fewest) 24 = .ok (.iconst 0, 1) := by decide +kernel
theorem d_m_fewest_25 : decode (ch_bc m_m_fewest) 25 = .ok (.ireturn, 1) := by decide +kernel
theorem d_m_fewest_26 : decode (ch_bc m_m_fewest) 26 = .ok (.aload_n 0, 1) := by decide +kernel
theorem d_m_fewest_27 : decode (ch_bc m_m_fewest) 27 = .ok (.iload_n 1, 1) := by decide +kernel
theorem d_m_fewest_28 : decode (ch_bc m_m_fewest) 28 = .ok (.invokevirtual 185, 3) := by decide +kernel
theorem d_m_fewest_31 : decode (ch_bc m_m_fewest) 31 = .ok (.aload_n 0, 1) := by decide +kernel
theorem d_m_fewest_32 : decode (ch_bc m_m_fewest) 32 = .ok (.getfield 42, 3) := by decide +kernel
theorem d_m_fewest_35 : decode (ch_bc m_m_fewest) 35 = .ok (.iconst 0, 1) := by decide +kernel
theorem d_m_fewest_36 : decode (ch_bc m_m_fewest) 36 = .ok (.iaload, 1) := by decide +kernel
theorem d_m_fewest_37 : decode (ch_bc m_m_fewest) 37 = .ok (.ireturn, 1) := by decide +kernel
theorem d_m_fewestAgain_0 : decode (ch_bc m_m_fewestAgain) 0 = .ok (.aload_n 0, 1) := by decide +kernel
theorem d_m_fewestAgain_1 : decode (ch_bc m_m_fewestAgain) 1 = .ok (.iload_n 1, 1) := by decide +kernel
theorem d_m_fewestAgain_2 : decode (ch_bc m_m_fewestAgain) 2 = .ok (.invokevirtual 188, 3) := by decide +kernel
theorem d_m_fewestAgain_5 : decode (ch_bc m_m_fewestAgain) 5 = .ok (.ireturn, 1) := by decide +kernel
theorem d_m_step_0 : decode (ch_bc m_m_step) 0 = .ok (.aload_n 0, 1) := by decide +kernel
theorem d_m_step_1 : decode (ch_bc m_m_step) 1 = .ok (.iconst 0, 1) := by decide +kernel
theorem d_m_step_2 : decode (ch_bc m_m_step) 2 = .ok (.putfield 48, 3) := by decide +kernel
theorem d_m_step_5 : decode (ch_bc m_m_step) 5 = .ok (.aload_n 0, 1) := by decide +kernel
theorem d_m_step_6 : decode (ch_bc m_m_step) 6 = .ok (.iload_n 1, 1) := by decide +kernel
theorem d_m_step_7 : decode (ch_bc m_m_step) 7 = .ok (.invokevirtual 77, 3) := by decide +kernel
theorem d_m_step_10 : decode (ch_bc m_m_step) 10 = .ok (.ifCond .ne 9, 3) := by decide +kernel
theorem d_m_step_13 : decode (ch_bc m_m_step) 13 = .ok (.aload_n 0, 1) := by decide +kernel
theorem d_m_step_14 : decode (ch_bc m_m_step) 14 = .ok (.iconst 1, 1) := by decide +kernel
theorem d_m_step_15 : decode (ch_bc m_m_step) 15 = .ok (.invokevirtual 70, 3) := by decide +kernel
theorem d_m_step_18 : decode (ch_bc m_m_step) 18 = .ok (.ireturn, 1) := by decide +kernel
theorem d_m_step_19 : decode (ch_bc m_m_step) 19 = .ok (.aload_n 0, 1) := by decide +kernel
theorem d_m_step_20 : decode (ch_bc m_m_step) 20 = .ok (.iload_n 1, 1) := by decide +kernel
theorem d_m_step_21 : decode (ch_bc m_m_step) 21 = .ok (.invokevirtual 185, 3) := by decide +kernel
theorem d_m_step_24 : decode (ch_bc m_m_step) 24 = .ok (.iload_n 2, 1) := by decide +kernel
theorem d_m_step_25 : decode (ch_bc m_m_step) 25 = .ok (.iconst 0, 1) := by decide +kernel
theorem d_m_step_26 : decode (ch_bc m_m_step) 26 = .ok (.aload_n 0, 1) := by decide +kernel
theorem d_m_step_27 : decode (ch_bc m_m_step) 27 = .ok (.getfield 45, 3) := by decide +kernel
theorem d_m_step_30 : decode (ch_bc m_m_step) 30 = .ok (.iconst 0, 1) := by decide +kernel
theorem d_m_step_31 : decode (ch_bc m_m_step) 31 = .ok (.iaload, 1) := by decide +kernel
theorem d_m_step_32 : decode (ch_bc m_m_step) 32 = .ok (.iconst 1, 1) := by decide +kernel
theorem d_m_step_33 : decode (ch_bc m_m_step) 33 = .ok (.isub, 1) := by decide +kernel
theorem d_m_step_34 : decode (ch_bc m_m_step) 34 = .ok (.invokestatic 73, 3) := by decide +kernel
theorem d_m_step_37 : decode (ch_bc m_m_step) 37 = .ok (.ifCond .ne 9, 3) := by decide +kernel
theorem d_m_step_40 : decode (ch_bc m_m_step) 40 = .ok (.aload_n 0, 1) := by decide +kernel
theorem d_m_step_41 : decode (ch_bc m_m_step) 41 = .ok (.iconst 2, 1) := by decide +kernel
theorem d_m_step_42 : decode (ch_bc m_m_step) 42 = .ok (.invokevirtual 70, 3) := by decide +kernel
theorem d_m_step_45 : decode (ch_bc m_m_step) 45 = .ok (.ireturn, 1) := by decide +kernel
theorem d_m_step_46 : decode (ch_bc m_m_step) 46 = .ok (.iconst 0, 1) := by decide +kernel
theorem d_m_step_47 : decode (ch_bc m_m_step) 47 = .ok (.istore_n 3, 1) := by decide +kernel
theorem d_m_step_48 : decode (ch_bc m_m_step) 48 = .ok (.iconst 0, 1) := by decide +kernel
theorem d_m_step_49 : decode (ch_bc m_m_step) 49 = .ok (.istore 4, 2) := by decide +kernel
theorem d_m_step_51 : decode (ch_bc m_m_step) 51 = .ok (.iload 4, 2) := by decide +kernel
theorem d_m_step_53 : decode (ch_bc m_m_step) 53 = .ok (.iload_n 2, 1) := by decide +kernel
theorem d_m_step_54 : decode (ch_bc m_m_step) 54 = .ok (.if_icmp .gt 43, 3) := by decide +kernel
theorem d_m_step_57 : decode (ch_bc m_m_step) 57 = .ok (.iconst 3, 1) := by decide +kernel
theorem d_m_step_58 : decode (ch_bc m_m_step) 58 = .ok (.istore 5, 2) := by decide +kernel
theorem d_m_step_60 : decode (ch_bc m_m_step) 60 = .ok (.aload_n 0, 1) := by decide +kernel
theorem d_m_step_61 : decode (ch_bc m_m_step) 61 = .ok (.iload_n 1, 1) := by decide +kernel
theorem d_m_step_62 : decode (ch_bc m_m_step) 62 = .ok (.iload_n 3, 1) := by decide +kernel
theorem d_m_step_63 : decode (ch_bc m_m_step) 63 = .ok (.iload 5, 2) := by decide +kernel
theorem d_m_step_65 : decode (ch_bc m_m_step) 65 = .ok (.invokevirtual 191, 3) := by decide +kernel
theorem d_m_step_68 : decode (ch_bc m_m_step) 68 = .ok (.ifCond .ne 9, 3) := by decide +kernel
theorem d_m_step_71 : decode (ch_bc m_m_step) 71 = .ok (.iinc 5 (-1), 3) := by decide +kernel
theorem d_m_step_74 : decode (ch_bc m_m_step) 74 = .ok (.goto (-14), 3) := by decide +kernel
theorem d_m_step_77 : decode (ch_bc m_m_step) 77 = .ok (.iload 4, 2) := by decide +kernel
theorem d_m_step_79 : decode (ch_bc m_m_step) 79 = .ok (.iload_n 2, 1) := by decide +kernel
theorem d_m_step_80 : decode (ch_bc m_m_step) 80 = .ok (.if_icmp .ne 6, 3) := by decide +kernel
theorem d_m_step_83 : decode (ch_bc m_m_step) 83 = .ok (.iload 5, 2) := by decide +kernel
theorem d_m_step_85 : decode (ch_bc m_m_step) 85 = .ok (.ireturn, 1) := by decide +kernel
theorem d_m_step_86 : decode (ch_bc m_m_step) 86 = .ok (.iload_n 3, 1) := by decide +kernel
theorem d_m_step_87 : decode (ch_bc m_m_step) 87 = .ok (.iload 5, 2) := by decide +kernel
theorem d_m_step_89 : decode (ch_bc m_m_step) 89 = .ok (.iadd, 1) := by decide +kernel
theorem d_m_step_90 : decode (ch_bc m_m_step) 90 = .ok (.istore_n 3, 1) := by decide +kernel
theorem d_m_step_91 : decode (ch_bc m_m_step) 91 = .ok (.iinc 4 1, 3) := by decide +kernel
theorem d_m_step_94 : decode (ch_bc m_m_step) 94 = .ok (.goto (-43), 3) := by decide +kernel
theorem d_m_step_97 : decode (ch_bc m_m_step) 97 = .ok (.iconst 0, 1) := by decide +kernel
theorem d_m_step_98 : decode (ch_bc m_m_step) 98 = .ok (.ireturn, 1) := by decide +kernel
theorem d_m_isBest_0 : decode (ch_bc m_m_isBest) 0 = .ok (.bipush 12, 2) := by decide +kernel
theorem d_m_isBest_2 : decode (ch_bc m_m_isBest) 2 = .ok (.iload_n 2, 1) := by decide +kernel
theorem d_m_isBest_3 : decode (ch_bc m_m_isBest) 3 = .ok (.iload_n 3, 1) := by decide +kernel
theorem d_m_isBest_4 : decode (ch_bc m_m_isBest) 4 = .ok (.iadd, 1) := by decide +kernel
theorem d_m_isBest_5 : decode (ch_bc m_m_isBest) 5 = .ok (.invokestatic 118, 3) := by decide +kernel
theorem d_m_isBest_8 : decode (ch_bc m_m_isBest) 8 = .ok (.istore 4, 2) := by decide +kernel
theorem d_m_isBest_10 : decode (ch_bc m_m_isBest) 10 = .ok (.aload_n 0, 1) := by decide +kernel
theorem d_m_isBest_11 : decode (ch_bc m_m_isBest) 11 = .ok (.getfield 42, 3) := by decide +kernel
theorem d_m_isBest_14 : decode (ch_bc m_m_isBest) 14 = .ok (.iload 4, 2) := by decide +kernel
theorem d_m_isBest_16 : decode (ch_bc m_m_isBest) 16 = .ok (.iaload, 1) := by decide +kernel
theorem d_m_isBest_17 : decode (ch_bc m_m_isBest) 17 = .ok (.aload_n 0, 1) := by decide +kernel
theorem d_m_isBest_18 : decode (ch_bc m_m_isBest) 18 = .ok (.iload_n 1, 1) := by decide +kernel
theorem d_m_isBest_19 : decode (ch_bc m_m_isBest) 19 = .ok (.iload_n 2, 1) := by decide +kernel
theorem d_m_isBest_20 : decode (ch_bc m_m_isBest) 20 = .ok (.iload_n 3, 1) := by decide +kernel
theorem d_m_isBest_21 : decode (ch_bc m_m_isBest) 21 = .ok (.iadd, 1) := by decide +kernel
theorem d_m_isBest_22 : decode (ch_bc m_m_isBest) 22 = .ok (.iconst 1, 1) := by decide +kernel
theorem d_m_isBest_23 : decode (ch_bc m_m_isBest) 23 = .ok (.isub, 1) := by decide +kernel
theorem d_m_isBest_24 : decode (ch_bc m_m_isBest) 24 = .ok (.invokevirtual 129, 3) := by decide +kernel
theorem d_m_isBest_27 : decode (ch_bc m_m_isBest) 27 = .ok (.ifCond .eq 7, 3) := by decide +kernel
theorem d_m_isBest_30 : decode (ch_bc m_m_isBest) 30 = .ok (.iconst 1, 1) := by decide +kernel
theorem d_m_isBest_31 : decode (ch_bc m_m_isBest) 31 = .ok (.goto 4, 3) := by decide +kernel
theorem d_m_isBest_34 : decode (ch_bc m_m_isBest) 34 = .ok (.iconst 0, 1) := by decide +kernel
theorem d_m_isBest_35 : decode (ch_bc m_m_isBest) 35 = .ok (.iadd, 1) := by decide +kernel
theorem d_m_isBest_36 : decode (ch_bc m_m_isBest) 36 = .ok (.aload_n 0, 1) := by decide +kernel
theorem d_m_isBest_37 : decode (ch_bc m_m_isBest) 37 = .ok (.getfield 42, 3) := by decide +kernel
theorem d_m_isBest_40 : decode (ch_bc m_m_isBest) 40 = .ok (.iload_n 2, 1) := by decide +kernel
theorem d_m_isBest_41 : decode (ch_bc m_m_isBest) 41 = .ok (.iaload, 1) := by decide +kernel
theorem d_m_isBest_42 : decode (ch_bc m_m_isBest) 42 = .ok (.if_icmp .ne 25, 3) := by decide +kernel
theorem d_m_isBest_45 : decode (ch_bc m_m_isBest) 45 = .ok (.aload_n 0, 1) := by decide +kernel
theorem d_m_isBest_46 : decode (ch_bc m_m_isBest) 46 = .ok (.getfield 45, 3) := by decide +kernel
theorem d_m_isBest_49 : decode (ch_bc m_m_isBest) 49 = .ok (.iload 4, 2) := by decide +kernel
theorem d_m_isBest_51 : decode (ch_bc m_m_isBest) 51 = .ok (.iaload, 1) := by decide +kernel
theorem d_m_isBest_52 : decode (ch_bc m_m_isBest) 52 = .ok (.iconst 1, 1) := by decide +kernel
theorem d_m_isBest_53 : decode (ch_bc m_m_isBest) 53 = .ok (.iadd, 1) := by decide +kernel
theorem d_m_isBest_54 : decode (ch_bc m_m_isBest) 54 = .ok (.aload_n 0, 1) := by decide +kernel
theorem d_m_isBest_55 : decode (ch_bc m_m_isBest) 55 = .ok (.getfield 45, 3) := by decide +kernel
theorem d_m_isBest_58 : decode (ch_bc m_m_isBest) 58 = .ok (.iload_n 2, 1) := by decide +kernel
theorem d_m_isBest_59 : decode (ch_bc m_m_isBest) 59 = .ok (.iaload, 1) := by decide +kernel
theorem d_m_isBest_60 : decode (ch_bc m_m_isBest) 60 = .ok (.if_icmp .ne 7, 3) := by decide +kernel
theorem d_m_isBest_63 : decode (ch_bc m_m_isBest) 63 = .ok (.iconst 1, 1) := by decide +kernel
theorem d_m_isBest_64 : decode (ch_bc m_m_isBest) 64 = .ok (.goto 4, 3) := by decide +kernel
theorem d_m_isBest_67 : decode (ch_bc m_m_isBest) 67 = .ok (.iconst 0, 1) := by decide +kernel
theorem d_m_isBest_68 : decode (ch_bc m_m_isBest) 68 = .ok (.ireturn, 1) := by decide +kernel
theorem d_m_wouldTread_0 : decode (ch_bc m_m_wouldTread) 0 = .ok (.aload_n 0, 1) := by decide +kernel
theorem d_m_wouldTread_1 : decode (ch_bc m_m_wouldTread) 1 = .ok (.iconst 0, 1) := by decide +kernel
theorem d_m_wouldTread_2 : decode (ch_bc m_m_wouldTread) 2 = .ok (.putfield 48, 3) := by decide +kernel
theorem d_m_wouldTread_5 : decode (ch_bc m_m_wouldTread) 5 = .ok (.aload_n 0, 1) := by decide +kernel
theorem d_m_wouldTread_6 : decode (ch_bc m_m_wouldTread) 6 = .ok (.iload_n 1, 1) := by decide +kernel
theorem d_m_wouldTread_7 : decode (ch_bc m_m_wouldTread) 7 = .ok (.invokevirtual 77, 3) := by decide +kernel
theorem d_m_wouldTread_10 : decode (ch_bc m_m_wouldTread) 10 = .ok (.ifCond .ne 9, 3) := by decide +kernel
theorem d_m_wouldTread_13 : decode (ch_bc m_m_wouldTread) 13 = .ok (.aload_n 0, 1) := by decide +kernel
theorem d_m_wouldTread_14 : decode (ch_bc m_m_wouldTread) 14 = .ok (.iconst 1, 1) := by decide +kernel
theorem d_m_wouldTread_15 : decode (ch_bc m_m_wouldTread) 15 = .ok (.invokevirtual 70, 3) := by decide +kernel
theorem d_m_wouldTread_18 : decode (ch_bc m_m_wouldTread) 18 = .ok (.ireturn, 1) := by decide +kernel
theorem d_m_wouldTread_19 : decode (ch_bc m_m_wouldTread) 19 = .ok (.aload_n 0, 1) := by decide +kernel
theorem d_m_wouldTread_20 : decode (ch_bc m_m_wouldTread) 20 = .ok (.iload_n 2, 1) := by decide +kernel
theorem d_m_wouldTread_21 : decode (ch_bc m_m_wouldTread) 21 = .ok (.invokevirtual 147, 3) := by decide +kernel
theorem d_m_wouldTread_24 : decode (ch_bc m_m_wouldTread) 24 = .ok (.ifCond .eq 18, 3) := by decide +kernel
theorem d_m_wouldTread_27 : decode (ch_bc m_m_wouldTread) 27 = .ok (.aload_n 0, 1) := by decide +kernel
theorem d_m_wouldTread_28 : decode (ch_bc m_m_wouldTread) 28 = .ok (.invokevirtual 132, 3) := by decide +kernel
theorem d_m_wouldTread_31 : decode (ch_bc m_m_wouldTread) 31 = .ok (.ifCond .eq 11, 3) := by decide +kernel
theorem d_m_wouldTread_34 : decode (ch_bc m_m_wouldTread) 34 = .ok (.aload_n 0, 1) := by decide +kernel
theorem d_m_wouldTread_35 : decode (ch_bc m_m_wouldTread) 35 = .ok (.iload_n 1, 1) := by decide +kernel
theorem d_m_wouldTread_36 : decode (ch_bc m_m_wouldTread) 36 = .ok (.invokevirtual 194, 3) := by decide +kernel
theorem d_m_wouldTread_39 : decode (ch_bc m_m_wouldTread) 39 = .ok (.goto 8, 3) := by decide +kernel
theorem d_m_wouldTread_42 : decode (ch_bc m_m_wouldTread) 42 = .ok (.aload_n 0, 1) := by decide +kernel
theorem d_m_wouldTread_43 : decode (ch_bc m_m_wouldTread) 43 = .ok (.iconst 2, 1) := by decide +kernel
theorem d_m_wouldTread_44 : decode (ch_bc m_m_wouldTread) 44 = .ok (.invokevirtual 70, 3) := by decide +kernel
theorem d_m_wouldTread_47 : decode (ch_bc m_m_wouldTread) 47 = .ok (.ireturn, 1) := by decide +kernel
theorem d_m_longestOf_0 : decode (ch_bc m_m_longestOf) 0 = .ok (.iconst 0, 1) := by decide +kernel
theorem d_m_longestOf_1 : decode (ch_bc m_m_longestOf) 1 = .ok (.istore_n 2, 1) := by decide +kernel
theorem d_m_longestOf_2 : decode (ch_bc m_m_longestOf) 2 = .ok (.iconst 0, 1) := by decide +kernel
theorem d_m_longestOf_3 : decode (ch_bc m_m_longestOf) 3 = .ok (.istore_n 3, 1) := by decide +kernel
theorem d_m_longestOf_4 : decode (ch_bc m_m_longestOf) 4 = .ok (.iconst 0, 1) := by decide +kernel
theorem d_m_longestOf_5 : decode (ch_bc m_m_longestOf) 5 = .ok (.istore 4, 2) := by decide +kernel
theorem d_m_longestOf_7 : decode (ch_bc m_m_longestOf) 7 = .ok (.iload 4, 2) := by decide +kernel
theorem d_m_longestOf_9 : decode (ch_bc m_m_longestOf) 9 = .ok (.bipush 12, 2) := by decide +kernel
theorem d_m_longestOf_11 : decode (ch_bc m_m_longestOf) 11 = .ok (.if_icmp .ge 33, 3) := by decide +kernel
theorem d_m_longestOf_14 : decode (ch_bc m_m_longestOf) 14 = .ok (.aload_n 0, 1) := by decide +kernel
theorem d_m_longestOf_15 : decode (ch_bc m_m_longestOf) 15 = .ok (.iload 4, 2) := by decide +kernel
theorem d_m_longestOf_17 : decode (ch_bc m_m_longestOf) 17 = .ok (.invokevirtual 109, 3) := by decide +kernel
theorem d_m_longestOf_20 : decode (ch_bc m_m_longestOf) 20 = .ok (.iload_n 1, 1) := by decide +kernel
theorem d_m_longestOf_21 : decode (ch_bc m_m_longestOf) 21 = .ok (.if_icmp .ne 9, 3) := by decide +kernel
theorem d_m_longestOf_24 : decode (ch_bc m_m_longestOf) 24 = .ok (.iload_n 3, 1) := by decide +kernel
theorem d_m_longestOf_25 : decode (ch_bc m_m_longestOf) 25 = .ok (.iconst 1, 1) := by decide +kernel
theorem d_m_longestOf_26 : decode (ch_bc m_m_longestOf) 26 = .ok (.iadd, 1) := by decide +kernel
theorem d_m_longestOf_27 : decode (ch_bc m_m_longestOf) 27 = .ok (.goto 4, 3) := by decide +kernel
theorem d_m_longestOf_30 : decode (ch_bc m_m_longestOf) 30 = .ok (.iconst 0, 1) := by decide +kernel
theorem d_m_longestOf_31 : decode (ch_bc m_m_longestOf) 31 = .ok (.istore_n 3, 1) := by decide +kernel
theorem d_m_longestOf_32 : decode (ch_bc m_m_longestOf) 32 = .ok (.iload_n 2, 1) := by decide +kernel
theorem d_m_longestOf_33 : decode (ch_bc m_m_longestOf) 33 = .ok (.iload_n 3, 1) := by decide +kernel
theorem d_m_longestOf_34 : decode (ch_bc m_m_longestOf) 34 = .ok (.invokestatic 197, 3) := by decide +kernel
theorem d_m_longestOf_37 : decode (ch_bc m_m_longestOf) 37 = .ok (.istore_n 2, 1) := by decide +kernel
theorem d_m_longestOf_38 : decode (ch_bc m_m_longestOf) 38 = .ok (.iinc 4 1, 3) := by decide +kernel
theorem d_m_longestOf_41 : decode (ch_bc m_m_longestOf) 41 = .ok (.goto (-34), 3) := by decide +kernel
theorem d_m_longestOf_44 : decode (ch_bc m_m_longestOf) 44 = .ok (.iload_n 2, 1) := by decide +kernel
theorem d_m_longestOf_45 : decode (ch_bc m_m_longestOf) 45 = .ok (.ireturn, 1) := by decide +kernel
theorem d_m_longest_0 : decode (ch_bc m_m_longest) 0 = .ok (.aload_n 0, 1) := by decide +kernel
theorem d_m_longest_1 : decode (ch_bc m_m_longest) 1 = .ok (.aload_n 0, 1) := by decide +kernel
theorem d_m_longest_2 : decode (ch_bc m_m_longest) 2 = .ok (.iload_n 1, 1) := by decide +kernel
theorem d_m_longest_3 : decode (ch_bc m_m_longest) 3 = .ok (.invokevirtual 77, 3) := by decide +kernel
theorem d_m_longest_6 : decode (ch_bc m_m_longest) 6 = .ok (.ifCond .eq 7, 3) := by decide +kernel
theorem d_m_longest_9 : decode (ch_bc m_m_longest) 9 = .ok (.iconst 0, 1) := by decide +kernel
theorem d_m_longest_10 : decode (ch_bc m_m_longest) 10 = .ok (.goto 4, 3) := by decide +kernel
theorem d_m_longest_13 : decode (ch_bc m_m_longest) 13 = .ok (.iconst 1, 1) := by decide +kernel
theorem d_m_longest_14 : decode (ch_bc m_m_longest) 14 = .ok (.putfield 48, 3) := by decide +kernel
theorem d_m_longest_17 : decode (ch_bc m_m_longest) 17 = .ok (.aload_n 0, 1) := by decide +kernel
theorem d_m_longest_18 : decode (ch_bc m_m_longest) 18 = .ok (.getfield 48, 3) := by decide +kernel
theorem d_m_longest_21 : decode (ch_bc m_m_longest) 21 = .ok (.ifCond .ne 11, 3) := by decide +kernel
theorem d_m_longest_24 : decode (ch_bc m_m_longest) 24 = .ok (.aload_n 0, 1) := by decide +kernel
theorem d_m_longest_25 : decode (ch_bc m_m_longest) 25 = .ok (.iload_n 1, 1) := by decide +kernel
theorem d_m_longest_26 : decode (ch_bc m_m_longest) 26 = .ok (.invokevirtual 200, 3) := by decide +kernel
theorem d_m_longest_29 : decode (ch_bc m_m_longest) 29 = .ok (.goto 4, 3) := by decide +kernel
theorem d_m_longest_32 : decode (ch_bc m_m_longest) 32 = .ok (.iconst 0, 1) := by decide +kernel
theorem d_m_longest_33 : decode (ch_bc m_m_longest) 33 = .ok (.ireturn, 1) := by decide +kernel
theorem d_m_gap_0 : decode (ch_bc m_m_gap) 0 = .ok (.aload_n 0, 1) := by decide +kernel
theorem d_m_gap_1 : decode (ch_bc m_m_gap) 1 = .ok (.iconst 0, 1) := by decide +kernel
theorem d_m_gap_2 : decode (ch_bc m_m_gap) 2 = .ok (.putfield 48, 3) := by decide +kernel
theorem d_m_gap_5 : decode (ch_bc m_m_gap) 5 = .ok (.aload_n 0, 1) := by decide +kernel
theorem d_m_gap_6 : decode (ch_bc m_m_gap) 6 = .ok (.iconst (-1), 1) := by decide +kernel
theorem d_m_gap_7 : decode (ch_bc m_m_gap) 7 = .ok (.invokevirtual 200, 3) := by decide +kernel
theorem d_m_gap_10 : decode (ch_bc m_m_gap) 10 = .ok (.ireturn, 1) := by decide +kernel
theorem d_m_wouldEnd_0 : decode (ch_bc m_m_wouldEnd) 0 = .ok (.aload_n 0, 1) := by decide +kernel
theorem d_m_wouldEnd_1 : decode (ch_bc m_m_wouldEnd) 1 = .ok (.iload_n 1, 1) := by decide +kernel
theorem d_m_wouldEnd_2 : decode (ch_bc m_m_wouldEnd) 2 = .ok (.iconst 1, 1) := by decide +kernel
theorem d_m_wouldEnd_3 : decode (ch_bc m_m_wouldEnd) 3 = .ok (.bipush 9, 2) := by decide +kernel
theorem d_m_wouldEnd_5 : decode (ch_bc m_m_wouldEnd) 5 = .ok (.invokestatic 73, 3) := by decide +kernel
theorem d_m_wouldEnd_8 : decode (ch_bc m_m_wouldEnd) 8 = .ok (.ifCond .eq 7, 3) := by decide +kernel
theorem d_m_wouldEnd_11 : decode (ch_bc m_m_wouldEnd) 11 = .ok (.iconst 0, 1) := by decide +kernel
theorem d_m_wouldEnd_12 : decode (ch_bc m_m_wouldEnd) 12 = .ok (.goto 4, 3) := by decide +kernel
theorem d_m_wouldEnd_15 : decode (ch_bc m_m_wouldEnd) 15 = .ok (.iconst 1, 1) := by decide +kernel
theorem d_m_wouldEnd_16 : decode (ch_bc m_m_wouldEnd) 16 = .ok (.putfield 48, 3) := by decide +kernel
theorem d_m_wouldEnd_19 : decode (ch_bc m_m_wouldEnd) 19 = .ok (.aload_n 0, 1) := by decide +kernel
theorem d_m_wouldEnd_20 : decode (ch_bc m_m_wouldEnd) 20 = .ok (.getfield 48, 3) := by decide +kernel
theorem d_m_wouldEnd_23 : decode (ch_bc m_m_wouldEnd) 23 = .ok (.ifCond .ne 11, 3) := by decide +kernel
theorem d_m_wouldEnd_26 : decode (ch_bc m_m_wouldEnd) 26 = .ok (.aload_n 0, 1) := by decide +kernel
theorem d_m_wouldEnd_27 : decode (ch_bc m_m_wouldEnd) 27 = .ok (.iload_n 1, 1) := by decide +kernel
theorem d_m_wouldEnd_28 : decode (ch_bc m_m_wouldEnd) 28 = .ok (.invokevirtual 165, 3) := by decide +kernel
theorem d_m_wouldEnd_31 : decode (ch_bc m_m_wouldEnd) 31 = .ok (.goto 4, 3) := by decide +kernel
theorem d_m_wouldEnd_34 : decode (ch_bc m_m_wouldEnd) 34 = .ok (.iconst 0, 1) := by decide +kernel
theorem d_m_wouldEnd_35 : decode (ch_bc m_m_wouldEnd) 35 = .ok (.ireturn, 1) := by decide +kernel
theorem d_m_rainFor_0 : decode (ch_bc m_m_rainFor) 0 = .ok (.aload_n 0, 1) := by decide +kernel
theorem d_m_rainFor_1 : decode (ch_bc m_m_rainFor) 1 = .ok (.iconst 0, 1) := by decide +kernel
theorem d_m_rainFor_2 : decode (ch_bc m_m_rainFor) 2 = .ok (.putfield 48, 3) := by decide +kernel
theorem d_m_rainFor_5 : decode (ch_bc m_m_rainFor) 5 = .ok (.aload_n 0, 1) := by decide +kernel
theorem d_m_rainFor_6 : decode (ch_bc m_m_rainFor) 6 = .ok (.iload_n 1, 1) := by decide +kernel
theorem d_m_rainFor_7 : decode (ch_bc m_m_rainFor) 7 = .ok (.invokevirtual 77, 3) := by decide +kernel
theorem d_m_rainFor_10 : decode (ch_bc m_m_rainFor) 10 = .ok (.ifCond .ne 9, 3) := by decide +kernel
theorem d_m_rainFor_13 : decode (ch_bc m_m_rainFor) 13 = .ok (.aload_n 0, 1) := by decide +kernel
theorem d_m_rainFor_14 : decode (ch_bc m_m_rainFor) 14 = .ok (.iconst 1, 1) := by decide +kernel
theorem d_m_rainFor_15 : decode (ch_bc m_m_rainFor) 15 = .ok (.invokevirtual 70, 3) := by decide +kernel
theorem d_m_rainFor_18 : decode (ch_bc m_m_rainFor) 18 = .ok (.ireturn, 1) := by decide +kernel
theorem d_m_rainFor_19 : decode (ch_bc m_m_rainFor) 19 = .ok (.aload_n 0, 1) := by decide +kernel
theorem d_m_rainFor_20 : decode (ch_bc m_m_rainFor) 20 = .ok (.iload_n 1, 1) := by decide +kernel
theorem d_m_rainFor_21 : decode (ch_bc m_m_rainFor) 21 = .ok (.iconst 2, 1) := by decide +kernel
theorem d_m_rainFor_22 : decode (ch_bc m_m_rainFor) 22 = .ok (.invokevirtual 85, 3) := by decide +kernel
theorem d_m_rainFor_25 : decode (ch_bc m_m_rainFor) 25 = .ok (.ifCond .ne 11, 3) := by decide +kernel
theorem d_m_rainFor_28 : decode (ch_bc m_m_rainFor) 28 = .ok (.aload_n 0, 1) := by decide +kernel
theorem d_m_rainFor_29 : decode (ch_bc m_m_rainFor) 29 = .ok (.iconst 2, 1) := by decide +kernel
theorem d_m_rainFor_30 : decode (ch_bc m_m_rainFor) 30 = .ok (.invokevirtual 70, 3) := by decide +kernel
theorem d_m_rainFor_33 : decode (ch_bc m_m_rainFor) 33 = .ok (.goto 9, 3) := by decide +kernel
theorem d_m_rainFor_36 : decode (ch_bc m_m_rainFor) 36 = .ok (.aload_n 0, 1) := by decide +kernel
theorem d_m_rainFor_37 : decode (ch_bc m_m_rainFor) 37 = .ok (.iload_n 1, 1) := by decide +kernel
theorem d_m_rainFor_38 : decode (ch_bc m_m_rainFor) 38 = .ok (.iconst 2, 1) := by decide +kernel
theorem d_m_rainFor_39 : decode (ch_bc m_m_rainFor) 39 = .ok (.invokevirtual 85, 3) := by decide +kernel
theorem d_m_rainFor_42 : decode (ch_bc m_m_rainFor) 42 = .ok (.ireturn, 1) := by decide +kernel
theorem d_m_wouldLose_0 : decode (ch_bc m_m_wouldLose) 0 = .ok (.aload_n 0, 1) := by decide +kernel
theorem d_m_wouldLose_1 : decode (ch_bc m_m_wouldLose) 1 = .ok (.iconst 0, 1) := by decide +kernel
theorem d_m_wouldLose_2 : decode (ch_bc m_m_wouldLose) 2 = .ok (.putfield 48, 3) := by decide +kernel
theorem d_m_wouldLose_5 : decode (ch_bc m_m_wouldLose) 5 = .ok (.aload_n 0, 1) := by decide +kernel
theorem d_m_wouldLose_6 : decode (ch_bc m_m_wouldLose) 6 = .ok (.iload_n 1, 1) := by decide +kernel
theorem d_m_wouldLose_7 : decode (ch_bc m_m_wouldLose) 7 = .ok (.invokevirtual 77, 3) := by decide +kernel
theorem d_m_wouldLose_10 : decode (ch_bc m_m_wouldLose) 10 = .ok (.ifCond .ne 9, 3) := by decide +kernel
theorem d_m_wouldLose_13 : decode (ch_bc m_m_wouldLose) 13 = .ok (.aload_n 0, 1) := by decide +kernel
theorem d_m_wouldLose_14 : decode (ch_bc m_m_wouldLose) 14 = .ok (.iconst 1, 1) := by decide +kernel
theorem d_m_wouldLose_15 : decode (ch_bc m_m_wouldLose) 15 = .ok (.invokevirtual 70, 3) := by decide +kernel
theorem d_m_wouldLose_18 : decode (ch_bc m_m_wouldLose) 18 = .ok (.ireturn, 1) := by decide +kernel
theorem d_m_wouldLose_19 : decode (ch_bc m_m_wouldLose) 19 = .ok (.iconst 0, 1) := by decide +kernel
theorem d_m_wouldLose_20 : decode (ch_bc m_m_wouldLose) 20 = .ok (.istore_n 2, 1) := by decide +kernel
theorem d_m_wouldLose_21 : decode (ch_bc m_m_wouldLose) 21 = .ok (.aload_n 0, 1) := by decide +kernel
theorem d_m_wouldLose_22 : decode (ch_bc m_m_wouldLose) 22 = .ok (.iload_n 1, 1) := by decide +kernel
theorem d_m_wouldLose_23 : decode (ch_bc m_m_wouldLose) 23 = .ok (.iconst 0, 1) := by decide +kernel
theorem d_m_wouldLose_24 : decode (ch_bc m_m_wouldLose) 24 = .ok (.invokevirtual 85, 3) := by decide +kernel
theorem d_m_wouldLose_27 : decode (ch_bc m_m_wouldLose) 27 = .ok (.istore_n 3, 1) := by decide +kernel
theorem d_m_wouldLose_28 : decode (ch_bc m_m_wouldLose) 28 = .ok (.iconst 0, 1) := by decide +kernel
theorem d_m_wouldLose_29 : decode (ch_bc m_m_wouldLose) 29 = .ok (.istore 4, 2) := by decide +kernel
theorem d_m_wouldLose_31 : decode (ch_bc m_m_wouldLose) 31 = .ok (.iload 4, 2) := by decide +kernel
theorem d_m_wouldLose_33 : decode (ch_bc m_m_wouldLose) 33 = .ok (.bipush 12, 2) := by decide +kernel
theorem d_m_wouldLose_35 : decode (ch_bc m_m_wouldLose) 35 = .ok (.if_icmp .ge 33, 3) := by decide +kernel
theorem d_m_wouldLose_38 : decode (ch_bc m_m_wouldLose) 38 = .ok (.aload_n 0, 1) := by decide +kernel
theorem d_m_wouldLose_39 : decode (ch_bc m_m_wouldLose) 39 = .ok (.iload 4, 2) := by decide +kernel
theorem d_m_wouldLose_41 : decode (ch_bc m_m_wouldLose) 41 = .ok (.invokevirtual 109, 3) := by decide +kernel
theorem d_m_wouldLose_44 : decode (ch_bc m_m_wouldLose) 44 = .ok (.iload_n 1, 1) := by decide +kernel
theorem d_m_wouldLose_45 : decode (ch_bc m_m_wouldLose) 45 = .ok (.if_icmp .ne 17, 3) := by decide +kernel
theorem d_m_wouldLose_48 : decode (ch_bc m_m_wouldLose) 48 = .ok (.iload_n 3, 1) := by decide +kernel
theorem d_m_wouldLose_49 : decode (ch_bc m_m_wouldLose) 49 = .ok (.iinc 3 (-1), 3) := by decide +kernel
theorem d_m_wouldLose_52 : decode (ch_bc m_m_wouldLose) 52 = .ok (.ifCond .gt 10, 3) := by decide +kernel
theorem d_m_wouldLose_55 : decode (ch_bc m_m_wouldLose) 55 = .ok (.iload_n 2, 1) := by decide +kernel
theorem d_m_wouldLose_56 : decode (ch_bc m_m_wouldLose) 56 = .ok (.iconst 1, 1) := by decide +kernel
theorem d_m_wouldLose_57 : decode (ch_bc m_m_wouldLose) 57 = .ok (.iload 4, 2) := by decide +kernel
theorem d_m_wouldLose_59 : decode (ch_bc m_m_wouldLose) 59 = .ok (.ishl, 1) := by decide +kernel
theorem d_m_wouldLose_60 : decode (ch_bc m_m_wouldLose) 60 = .ok (.ior, 1) := by decide +kernel
theorem d_m_wouldLose_61 : decode (ch_bc m_m_wouldLose) 61 = .ok (.istore_n 2, 1) := by decide +kernel
theorem d_m_wouldLose_62 : decode (ch_bc m_m_wouldLose) 62 = .ok (.iinc 4 1, 3) := by decide +kernel
theorem d_m_wouldLose_65 : decode (ch_bc m_m_wouldLose) 65 = .ok (.goto (-34), 3) := by decide +kernel
theorem d_m_wouldLose_68 : decode (ch_bc m_m_wouldLose) 68 = .ok (.iload_n 2, 1) := by decide +kernel
theorem d_m_wouldLose_69 : decode (ch_bc m_m_wouldLose) 69 = .ok (.ireturn, 1) := by decide +kernel
theorem d_m_termsFor_0 : decode (ch_bc m_m_termsFor) 0 = .ok (.aload_n 0, 1) := by decide +kernel
theorem d_m_termsFor_1 : decode (ch_bc m_m_termsFor) 1 = .ok (.iconst 0, 1) := by decide +kernel
theorem d_m_termsFor_2 : decode (ch_bc m_m_termsFor) 2 = .ok (.putfield 48, 3) := by decide +kernel
theorem d_m_termsFor_5 : decode (ch_bc m_m_termsFor) 5 = .ok (.aload_n 0, 1) := by decide +kernel
theorem d_m_termsFor_6 : decode (ch_bc m_m_termsFor) 6 = .ok (.iload_n 1, 1) := by decide +kernel
theorem d_m_termsFor_7 : decode (ch_bc m_m_termsFor) 7 = .ok (.invokevirtual 77, 3) := by decide +kernel
theorem d_m_termsFor_10 : decode (ch_bc m_m_termsFor) 10 = .ok (.ifCond .ne 9, 3) := by decide +kernel
theorem d_m_termsFor_13 : decode (ch_bc m_m_termsFor) 13 = .ok (.aload_n 0, 1) := by decide +kernel
theorem d_m_termsFor_14 : decode (ch_bc m_m_termsFor) 14 = .ok (.iconst 1, 1) := by decide +kernel
theorem d_m_termsFor_15 : decode (ch_bc m_m_termsFor) 15 = .ok (.invokevirtual 70, 3) := by decide +kernel
theorem d_m_termsFor_18 : decode (ch_bc m_m_termsFor) 18 = .ok (.ireturn, 1) := by decide +kernel
theorem d_m_termsFor_19 : decode (ch_bc m_m_termsFor) 19 = .ok (.iconst 0, 1) := by decide +kernel
theorem d_m_termsFor_20 : decode (ch_bc m_m_termsFor) 20 = .ok (.istore_n 2, 1) := by decide +kernel
theorem d_m_termsFor_21 : decode (ch_bc m_m_termsFor) 21 = .ok (.iload_n 2, 1) := by decide +kernel
theorem d_m_termsFor_22 : decode (ch_bc m_m_termsFor) 22 = .ok (.bipush 63, 2) := by decide +kernel
theorem d_m_termsFor_24 : decode (ch_bc m_m_termsFor) 24 = .ok (.if_icmp .ge 21, 3) := by decide +kernel
theorem d_m_termsFor_27 : decode (ch_bc m_m_termsFor) 27 = .ok (.aload_n 0, 1) := by decide +kernel
theorem d_m_termsFor_28 : decode (ch_bc m_m_termsFor) 28 = .ok (.getfield 16, 3) := by decide +kernel
theorem d_m_termsFor_31 : decode (ch_bc m_m_termsFor) 31 = .ok (.iload_n 2, 1) := by decide +kernel
theorem d_m_termsFor_32 : decode (ch_bc m_m_termsFor) 32 = .ok (.aload_n 0, 1) := by decide +kernel
theorem d_m_termsFor_33 : decode (ch_bc m_m_termsFor) 33 = .ok (.getfield 9, 3) := by decide +kernel
theorem d_m_termsFor_36 : decode (ch_bc m_m_termsFor) 36 = .ok (.iload_n 2, 1) := by decide +kernel
theorem d_m_termsFor_37 : decode (ch_bc m_m_termsFor) 37 = .ok (.iaload, 1) := by decide +kernel
theorem d_m_termsFor_38 : decode (ch_bc m_m_termsFor) 38 = .ok (.iastore, 1) := by decide +kernel
theorem d_m_termsFor_39 : decode (ch_bc m_m_termsFor) 39 = .ok (.iinc 2 1, 3) := by decide +kernel
theorem d_m_termsFor_42 : decode (ch_bc m_m_termsFor) 42 = .ok (.goto (-21), 3) := by decide +kernel
theorem d_m_termsFor_45 : decode (ch_bc m_m_termsFor) 45 = .ok (.iconst 0, 1) := by decide +kernel
theorem d_m_termsFor_46 : decode (ch_bc m_m_termsFor) 46 = .ok (.istore_n 2, 1) := by decide +kernel
theorem d_m_termsFor_47 : decode (ch_bc m_m_termsFor) 47 = .ok (.iconst 1, 1) := by decide +kernel
theorem d_m_termsFor_48 : decode (ch_bc m_m_termsFor) 48 = .ok (.istore_n 3, 1) := by decide +kernel
theorem d_m_termsFor_49 : decode (ch_bc m_m_termsFor) 49 = .ok (.iload_n 3, 1) := by decide +kernel
theorem d_m_termsFor_50 : decode (ch_bc m_m_termsFor) 50 = .ok (.bipush 41, 2) := by decide +kernel
theorem d_m_termsFor_52 : decode (ch_bc m_m_termsFor) 52 = .ok (.if_icmp .ge 32, 3) := by decide +kernel
theorem d_m_termsFor_55 : decode (ch_bc m_m_termsFor) 55 = .ok (.iload_n 2, 1) := by decide +kernel
theorem d_m_termsFor_56 : decode (ch_bc m_m_termsFor) 56 = .ok (.ifCond .ne 28, 3) := by decide +kernel
theorem d_m_termsFor_59 : decode (ch_bc m_m_termsFor) 59 = .ok (.aload_n 0, 1) := by decide +kernel
theorem d_m_termsFor_60 : decode (ch_bc m_m_termsFor) 60 = .ok (.iload_n 1, 1) := by decide +kernel
theorem d_m_termsFor_61 : decode (ch_bc m_m_termsFor) 61 = .ok (.invokevirtual 182, 3) := by decide +kernel
theorem d_m_termsFor_64 : decode (ch_bc m_m_termsFor) 64 = .ok (.istore 4, 2) := by decide +kernel
theorem d_m_termsFor_66 : decode (ch_bc m_m_termsFor) 66 = .ok (.aload_n 0, 1) := by decide +kernel
theorem d_m_termsFor_67 : decode (ch_bc m_m_termsFor) 67 = .ok (.invokevirtual 176, 3) := by decide +kernel
theorem d_m_termsFor_70 : decode (ch_bc m_m_termsFor) 70 = .ok (.iload 4, 2) := by decide +kernel
theorem d_m_termsFor_72 : decode (ch_bc m_m_termsFor) 72 = .ok (.iand, 1) := by decide +kernel
theorem d_m_termsFor_73 : decode (ch_bc m_m_termsFor) 73 = .ok (.ifCond .eq 5, 3) := by decide +kernel
theorem d_m_termsFor_76 : decode (ch_bc m_m_termsFor) 76 = .ok (.iload_n 3, 1) := by decide +kernel
theorem d_m_termsFor_77 : decode (ch_bc m_m_termsFor) 77 = .ok (.istore_n 2, 1) := by decide +kernel
theorem d_m_termsFor_78 : decode (ch_bc m_m_termsFor) 78 = .ok (.iinc 3 1, 3) := by decide +kernel
theorem d_m_termsFor_81 : decode (ch_bc m_m_termsFor) 81 = .ok (.goto (-32), 3) := by decide +kernel
theorem d_m_termsFor_84 : decode (ch_bc m_m_termsFor) 84 = .ok (.iconst 0, 1) := by decide +kernel
theorem d_m_termsFor_85 : decode (ch_bc m_m_termsFor) 85 = .ok (.istore_n 3, 1) := by decide +kernel
theorem d_m_termsFor_86 : decode (ch_bc m_m_termsFor) 86 = .ok (.iload_n 3, 1) := by decide +kernel
theorem d_m_termsFor_87 : decode (ch_bc m_m_termsFor) 87 = .ok (.bipush 63, 2) := by decide +kernel
theorem d_m_termsFor_89 : decode (ch_bc m_m_termsFor) 89 = .ok (.if_icmp .ge 21, 3) := by decide +kernel
theorem d_m_termsFor_92 : decode (ch_bc m_m_termsFor) 92 = .ok (.aload_n 0, 1) := by decide +kernel
theorem d_m_termsFor_93 : decode (ch_bc m_m_termsFor) 93 = .ok (.getfield 9, 3) := by decide +kernel
theorem d_m_termsFor_96 : decode (ch_bc m_m_termsFor) 96 = .ok (.iload_n 3, 1) := by decide +kernel
theorem d_m_termsFor_97 : decode (ch_bc m_m_termsFor) 97 = .ok (.aload_n 0, 1) := by decide +kernel
theorem d_m_termsFor_98 : decode (ch_bc m_m_termsFor) 98 = .ok (.getfield 16, 3) := by decide +kernel
theorem d_m_termsFor_101 : decode (ch_bc m_m_termsFor) 101 = .ok (.iload_n 3, 1) := by decide +kernel
theorem d_m_termsFor_102 : decode (ch_bc m_m_termsFor) 102 = .ok (.iaload, 1) := by decide +kernel
theorem d_m_termsFor_103 : decode (ch_bc m_m_termsFor) 103 = .ok (.iastore, 1) := by decide +kernel
theorem d_m_termsFor_104 : decode (ch_bc m_m_termsFor) 104 = .ok (.iinc 3 1, 3) := by decide +kernel
theorem d_m_termsFor_107 : decode (ch_bc m_m_termsFor) 107 = .ok (.goto (-21), 3) := by decide +kernel
theorem d_m_termsFor_110 : decode (ch_bc m_m_termsFor) 110 = .ok (.iload_n 2, 1) := by decide +kernel
theorem d_m_termsFor_111 : decode (ch_bc m_m_termsFor) 111 = .ok (.ifCond .ne 11, 3) := by decide +kernel
theorem d_m_termsFor_114 : decode (ch_bc m_m_termsFor) 114 = .ok (.aload_n 0, 1) := by decide +kernel
theorem d_m_termsFor_115 : decode (ch_bc m_m_termsFor) 115 = .ok (.iconst 2, 1) := by decide +kernel
theorem d_m_termsFor_116 : decode (ch_bc m_m_termsFor) 116 = .ok (.invokevirtual 70, 3) := by decide +kernel
theorem d_m_termsFor_119 : decode (ch_bc m_m_termsFor) 119 = .ok (.goto 4, 3) := by decide +kernel
theorem d_m_termsFor_122 : decode (ch_bc m_m_termsFor) 122 = .ok (.iload_n 2, 1) := by decide +kernel
theorem d_m_termsFor_123 : decode (ch_bc m_m_termsFor) 123 = .ok (.ireturn, 1) := by decide +kernel
theorem d_m_measure_0 : decode (ch_bc m_m_measure) 0 = .ok (.iload_n 2, 1) := by decide +kernel
theorem d_m_measure_1 : decode (ch_bc m_m_measure) 1 = .ok (.ifCond .ne 12, 3) := by decide +kernel
theorem d_m_measure_4 : decode (ch_bc m_m_measure) 4 = .ok (.aload_n 0, 1) := by decide +kernel
theorem d_m_measure_5 : decode (ch_bc m_m_measure) 5 = .ok (.iload_n 1, 1) := by decide +kernel
theorem d_m_measure_6 : decode (ch_bc m_m_measure) 6 = .ok (.iconst 0, 1) := by decide +kernel
theorem d_m_measure_7 : decode (ch_bc m_m_measure) 7 = .ok (.invokevirtual 85, 3) := by decide +kernel
theorem d_m_measure_10 : decode (ch_bc m_m_measure) 10 = .ok (.goto 27, 3) := by decide +kernel
theorem d_m_measure_13 : decode (ch_bc m_m_measure) 13 = .ok (.iload_n 2, 1) := by decide +kernel
theorem d_m_measure_14 : decode (ch_bc m_m_measure) 14 = .ok (.iconst 1, 1) := by decide +kernel
theorem d_m_measure_15 : decode (ch_bc m_m_measure) 15 = .ok (.if_icmp .ne 14, 3) := by decide +kernel
theorem d_m_measure_18 : decode (ch_bc m_m_measure) 18 = .ok (.aload_n 0, 1) := by decide +kernel
theorem d_m_measure_19 : decode (ch_bc m_m_measure) 19 = .ok (.iload_n 1, 1) := by decide +kernel
theorem d_m_measure_20 : decode (ch_bc m_m_measure) 20 = .ok (.invokevirtual 182, 3) := by decide +kernel
theorem d_m_measure_23 : decode (ch_bc m_m_measure) 23 = .ok (.invokestatic 171, 3) := by decide +kernel
theorem d_m_measure_26 : decode (ch_bc m_m_measure) 26 = .ok (.goto 11, 3) := by decide +kernel
theorem d_m_measure_29 : decode (ch_bc m_m_measure) 29 = .ok (.aload_n 0, 1) := by decide +kernel
theorem d_m_measure_30 : decode (ch_bc m_m_measure) 30 = .ok (.iload_n 1, 1) := by decide +kernel
theorem d_m_measure_31 : decode (ch_bc m_m_measure) 31 = .ok (.iload_n 2, 1) := by decide +kernel
theorem d_m_measure_32 : decode (ch_bc m_m_measure) 32 = .ok (.iconst 1, 1) := by decide +kernel
theorem d_m_measure_33 : decode (ch_bc m_m_measure) 33 = .ok (.isub, 1) := by decide +kernel
theorem d_m_measure_34 : decode (ch_bc m_m_measure) 34 = .ok (.invokevirtual 85, 3) := by decide +kernel
theorem d_m_measure_37 : decode (ch_bc m_m_measure) 37 = .ok (.ireturn, 1) := by decide +kernel
theorem d_m_ranked_0 : decode (ch_bc m_m_ranked) 0 = .ok (.aload_n 0, 1) := by decide +kernel
theorem d_m_ranked_1 : decode (ch_bc m_m_ranked) 1 = .ok (.iconst 0, 1) := by decide +kernel
theorem d_m_ranked_2 : decode (ch_bc m_m_ranked) 2 = .ok (.putfield 48, 3) := by decide +kernel
theorem d_m_ranked_5 : decode (ch_bc m_m_ranked) 5 = .ok (.iload_n 1, 1) := by decide +kernel
theorem d_m_ranked_6 : decode (ch_bc m_m_ranked) 6 = .ok (.iconst 0, 1) := by decide +kernel
theorem d_m_ranked_7 : decode (ch_bc m_m_ranked) 7 = .ok (.iconst 3, 1) := by decide +kernel
theorem d_m_ranked_8 : decode (ch_bc m_m_ranked) 8 = .ok (.invokestatic 73, 3) := by decide +kernel
theorem d_m_ranked_11 : decode (ch_bc m_m_ranked) 11 = .ok (.ifCond .ne 9, 3) := by decide +kernel
theorem d_m_ranked_14 : decode (ch_bc m_m_ranked) 14 = .ok (.aload_n 0, 1) := by decide +kernel
theorem d_m_ranked_15 : decode (ch_bc m_m_ranked) 15 = .ok (.iconst 1, 1) := by decide +kernel
theorem d_m_ranked_16 : decode (ch_bc m_m_ranked) 16 = .ok (.invokevirtual 70, 3) := by decide +kernel
theorem d_m_ranked_19 : decode (ch_bc m_m_ranked) 19 = .ok (.ireturn, 1) := by decide +kernel
theorem d_m_ranked_20 : decode (ch_bc m_m_ranked) 20 = .ok (.iconst 0, 1) := by decide +kernel
theorem d_m_ranked_21 : decode (ch_bc m_m_ranked) 21 = .ok (.istore_n 3, 1) := by decide +kernel
theorem d_m_ranked_22 : decode (ch_bc m_m_ranked) 22 = .ok (.iload_n 3, 1) := by decide +kernel
theorem d_m_ranked_23 : decode (ch_bc m_m_ranked) 23 = .ok (.aload_n 0, 1) := by decide +kernel
theorem d_m_ranked_24 : decode (ch_bc m_m_ranked) 24 = .ok (.getfield 9, 3) := by decide +kernel
theorem d_m_ranked_27 : decode (ch_bc m_m_ranked) 27 = .ok (.iconst 0, 1) := by decide +kernel
theorem d_m_ranked_28 : decode (ch_bc m_m_ranked) 28 = .ok (.iaload, 1) := by decide +kernel
theorem d_m_ranked_29 : decode (ch_bc m_m_ranked) 29 = .ok (.if_icmp .ge 75, 3) := by decide +kernel
theorem d_m_ranked_32 : decode (ch_bc m_m_ranked) 32 = .ok (.iconst 0, 1) := by decide +kernel
theorem d_m_ranked_33 : decode (ch_bc m_m_ranked) 33 = .ok (.istore 4, 2) := by decide +kernel
theorem d_m_ranked_35 : decode (ch_bc m_m_ranked) 35 = .ok (.iconst 0, 1) := by decide +kernel
theorem d_m_ranked_36 : decode (ch_bc m_m_ranked) 36 = .ok (.istore 5, 2) := by decide +kernel
theorem d_m_ranked_38 : decode (ch_bc m_m_ranked) 38 = .ok (.iload 5, 2) := by decide +kernel
theorem d_m_ranked_40 : decode (ch_bc m_m_ranked) 40 = .ok (.aload_n 0, 1) := by decide +kernel
theorem d_m_ranked_41 : decode (ch_bc m_m_ranked) 41 = .ok (.getfield 9, 3) := by decide +kernel
theorem d_m_ranked_44 : decode (ch_bc m_m_ranked) 44 = .ok (.iconst 0, 1) := by decide +kernel
theorem d_m_ranked_45 : decode (ch_bc m_m_ranked) 45 = .ok (.iaload, 1) := by decide +kernel
theorem d_m_ranked_46 : decode (ch_bc m_m_ranked) 46 = .ok (.if_icmp .ge 44, 3) := by decide +kernel
theorem d_m_ranked_49 : decode (ch_bc m_m_ranked) 49 = .ok (.aload_n 0, 1) := by decide +kernel
theorem d_m_ranked_50 : decode (ch_bc m_m_ranked) 50 = .ok (.iload 5, 2) := by decide +kernel
theorem d_m_ranked_52 : decode (ch_bc m_m_ranked) 52 = .ok (.iload_n 1, 1) := by decide +kernel
theorem d_m_ranked_53 : decode (ch_bc m_m_ranked) 53 = .ok (.invokevirtual 203, 3) := by decide +kernel
theorem d_m_ranked_56 : decode (ch_bc m_m_ranked) 56 = .ok (.aload_n 0, 1) := by decide +kernel
theorem d_m_ranked_57 : decode (ch_bc m_m_ranked) 57 = .ok (.iload_n 3, 1) := by decide +kernel
theorem d_m_ranked_58 : decode (ch_bc m_m_ranked) 58 = .ok (.iload_n 1, 1) := by decide +kernel
theorem d_m_ranked_59 : decode (ch_bc m_m_ranked) 59 = .ok (.invokevirtual 203, 3) := by decide +kernel
theorem d_m_ranked_62 : decode (ch_bc m_m_ranked) 62 = .ok (.isub, 1) := by decide +kernel
theorem d_m_ranked_63 : decode (ch_bc m_m_ranked) 63 = .ok (.istore 6, 2) := by decide +kernel
theorem d_m_ranked_65 : decode (ch_bc m_m_ranked) 65 = .ok (.iload 6, 2) := by decide +kernel
theorem d_m_ranked_67 : decode (ch_bc m_m_ranked) 67 = .ok (.ifCond .gt 14, 3) := by decide +kernel
theorem d_m_ranked_70 : decode (ch_bc m_m_ranked) 70 = .ok (.iload 6, 2) := by decide +kernel
theorem d_m_ranked_72 : decode (ch_bc m_m_ranked) 72 = .ok (.ifCond .ne 12, 3) := by decide +kernel
theorem d_m_ranked_75 : decode (ch_bc m_m_ranked) 75 = .ok (.iload 5, 2) := by decide +kernel
theorem d_m_ranked_77 : decode (ch_bc m_m_ranked) 77 = .ok (.iload_n 3, 1) := by decide +kernel
theorem d_m_ranked_78 : decode (ch_bc m_m_ranked) 78 = .ok (.if_icmp .ge 6, 3) := by decide +kernel
theorem d_m_ranked_81 : decode (ch_bc m_m_ranked) 81 = .ok (.iinc 4 1, 3) := by decide +kernel
theorem d_m_ranked_84 : decode (ch_bc m_m_ranked) 84 = .ok (.iinc 5 1, 3) := by decide +kernel
theorem d_m_ranked_87 : decode (ch_bc m_m_ranked) 87 = .ok (.goto (-49), 3) := by decide +kernel
theorem d_m_ranked_90 : decode (ch_bc m_m_ranked) 90 = .ok (.iload 4, 2) := by decide +kernel
theorem d_m_ranked_92 : decode (ch_bc m_m_ranked) 92 = .ok (.iload_n 2, 1) := by decide +kernel
theorem d_m_ranked_93 : decode (ch_bc m_m_ranked) 93 = .ok (.if_icmp .ne 5, 3) := by decide +kernel
theorem d_m_ranked_96 : decode (ch_bc m_m_ranked) 96 = .ok (.iload_n 3, 1) := by decide +kernel
theorem d_m_ranked_97 : decode (ch_bc m_m_ranked) 97 = .ok (.ireturn, 1) := by decide +kernel
theorem d_m_ranked_98 : decode (ch_bc m_m_ranked) 98 = .ok (.iinc 3 1, 3) := by decide +kernel
theorem d_m_ranked_101 : decode (ch_bc m_m_ranked) 101 = .ok (.goto (-79), 3) := by decide +kernel
theorem d_m_ranked_104 : decode (ch_bc m_m_ranked) 104 = .ok (.aload_n 0, 1) := by decide +kernel
theorem d_m_ranked_105 : decode (ch_bc m_m_ranked) 105 = .ok (.iconst 2, 1) := by decide +kernel
theorem d_m_ranked_106 : decode (ch_bc m_m_ranked) 106 = .ok (.invokevirtual 70, 3) := by decide +kernel
theorem d_m_ranked_109 : decode (ch_bc m_m_ranked) 109 = .ok (.ireturn, 1) := by decide +kernel
theorem d_m_isEven_0 : decode (ch_bc m_m_isEven) 0 = .ok (.aload_n 0, 1) := by decide +kernel
theorem d_m_isEven_1 : decode (ch_bc m_m_isEven) 1 = .ok (.iconst 0, 1) := by decide +kernel
theorem d_m_isEven_2 : decode (ch_bc m_m_isEven) 2 = .ok (.putfield 48, 3) := by decide +kernel
theorem d_m_isEven_5 : decode (ch_bc m_m_isEven) 5 = .ok (.iconst 1, 1) := by decide +kernel
theorem d_m_isEven_6 : decode (ch_bc m_m_isEven) 6 = .ok (.ireturn, 1) := by decide +kernel
theorem d_m_append_0 : decode (ch_bc m_m_append) 0 = .ok (.aload_n 0, 1) := by decide +kernel
theorem d_m_append_1 : decode (ch_bc m_m_append) 1 = .ok (.iconst 0, 1) := by decide +kernel
theorem d_m_append_2 : decode (ch_bc m_m_append) 2 = .ok (.putfield 48, 3) := by decide +kernel
theorem d_m_append_5 : decode (ch_bc m_m_append) 5 = .ok (.aload_n 0, 1) := by decide +kernel
theorem d_m_append_6 : decode (ch_bc m_m_append) 6 = .ok (.getfield 206, 3) := by decide +kernel
theorem d_m_append_9 : decode (ch_bc m_m_append) 9 = .ok (.bipush 60, 2) := by decide +kernel
theorem d_m_append_11 : decode (ch_bc m_m_append) 11 = .ok (.if_icmp .ne 9, 3) := by decide +kernel
theorem d_m_append_14 : decode (ch_bc m_m_append) 14 = .ok (.aload_n 0, 1) := by decide +kernel
theorem d_m_append_15 : decode (ch_bc m_m_append) 15 = .ok (.iconst 1, 1) := by decide +kernel
theorem d_m_append_16 : decode (ch_bc m_m_append) 16 = .ok (.invokevirtual 70, 3) := by decide +kernel
theorem d_m_append_19 : decode (ch_bc m_m_append) 19 = .ok (.ireturn, 1) := by decide +kernel
theorem d_m_append_20 : decode (ch_bc m_m_append) 20 = .ok (.aload_n 0, 1) := by decide +kernel
theorem d_m_append_21 : decode (ch_bc m_m_append) 21 = .ok (.getfield 29, 3) := by decide +kernel
theorem d_m_append_24 : decode (ch_bc m_m_append) 24 = .ok (.aload_n 0, 1) := by decide +kernel
theorem d_m_append_25 : decode (ch_bc m_m_append) 25 = .ok (.dup, 1) := by decide +kernel
theorem d_m_append_26 : decode (ch_bc m_m_append) 26 = .ok (.getfield 206, 3) := by decide +kernel
theorem d_m_append_29 : decode (ch_bc m_m_append) 29 = .ok (.dup_x1, 1) := by decide +kernel
theorem d_m_append_30 : decode (ch_bc m_m_append) 30 = .ok (.iconst 1, 1) := by decide +kernel
theorem d_m_append_31 : decode (ch_bc m_m_append) 31 = .ok (.iadd, 1) := by decide +kernel
theorem d_m_append_32 : decode (ch_bc m_m_append) 32 = .ok (.putfield 206, 3) := by decide +kernel
theorem d_m_append_35 : decode (ch_bc m_m_append) 35 = .ok (.iload_n 1, 1) := by decide +kernel
theorem d_m_append_36 : decode (ch_bc m_m_append) 36 = .ok (.castore, 1) := by decide +kernel
theorem d_m_append_37 : decode (ch_bc m_m_append) 37 = .ok (.aload_n 0, 1) := by decide +kernel
theorem d_m_append_38 : decode (ch_bc m_m_append) 38 = .ok (.getfield 206, 3) := by decide +kernel
theorem d_m_append_41 : decode (ch_bc m_m_append) 41 = .ok (.ireturn, 1) := by decide +kernel
theorem d_m_takes_0 : decode (ch_bc m_m_takes) 0 = .ok (.aload_n 0, 1) := by decide +kernel
theorem d_m_takes_1 : decode (ch_bc m_m_takes) 1 = .ok (.getfield 209, 3) := by decide +kernel
theorem d_m_takes_4 : decode (ch_bc m_m_takes) 4 = .ok (.aload_n 0, 1) := by decide +kernel
theorem d_m_takes_5 : decode (ch_bc m_m_takes) 5 = .ok (.getfield 206, 3) := by decide +kernel
theorem d_m_takes_8 : decode (ch_bc m_m_takes) 8 = .ok (.if_icmp .eq 16, 3) := by decide +kernel
theorem d_m_takes_11 : decode (ch_bc m_m_takes) 11 = .ok (.aload_n 0, 1) := by decide +kernel
theorem d_m_takes_12 : decode (ch_bc m_m_takes) 12 = .ok (.getfield 29, 3) := by decide +kernel
theorem d_m_takes_15 : decode (ch_bc m_m_takes) 15 = .ok (.aload_n 0, 1) := by decide +kernel
theorem d_m_takes_16 : decode (ch_bc m_m_takes) 16 = .ok (.getfield 209, 3) := by decide +kernel
theorem d_m_takes_19 : decode (ch_bc m_m_takes) 19 = .ok (.caload, 1) := by decide +kernel
theorem d_m_takes_20 : decode (ch_bc m_m_takes) 20 = .ok (.iload_n 1, 1) := by decide +kernel
theorem d_m_takes_21 : decode (ch_bc m_m_takes) 21 = .ok (.if_icmp .eq 5, 3) := by decide +kernel
theorem d_m_takes_24 : decode (ch_bc m_m_takes) 24 = .ok (.iconst 0, 1) := by decide +kernel
theorem d_m_takes_25 : decode (ch_bc m_m_takes) 25 = .ok (.ireturn, 1) := by decide +kernel
theorem d_m_takes_26 : decode (ch_bc m_m_takes) 26 = .ok (.aload_n 0, 1) := by decide +kernel
theorem d_m_takes_27 : decode (ch_bc m_m_takes) 27 = .ok (.dup, 1) := by decide +kernel
theorem d_m_takes_28 : decode (ch_bc m_m_takes) 28 = .ok (.getfield 209, 3) := by decide +kernel
theorem d_m_takes_31 : decode (ch_bc m_m_takes) 31 = .ok (.iconst 1, 1) := by decide +kernel
theorem d_m_takes_32 : decode (ch_bc m_m_takes) 32 = .ok (.iadd, 1) := by decide +kernel
theorem d_m_takes_33 : decode (ch_bc m_m_takes) 33 = .ok (.putfield 209, 3) := by decide +kernel
theorem d_m_takes_36 : decode (ch_bc m_m_takes) 36 = .ok (.iconst 1, 1) := by decide +kernel
theorem d_m_takes_37 : decode (ch_bc m_m_takes) 37 = .ok (.ireturn, 1) := by decide +kernel
theorem d_m_digits_0 : decode (ch_bc m_m_digits) 0 = .ok (.iconst 0, 1) := by decide +kernel
theorem d_m_digits_1 : decode (ch_bc m_m_digits) 1 = .ok (.istore_n 3, 1) := by decide +kernel
theorem d_m_digits_2 : decode (ch_bc m_m_digits) 2 = .ok (.aload_n 0, 1) := by decide +kernel
theorem d_m_digits_3 : decode (ch_bc m_m_digits) 3 = .ok (.getfield 32, 3) := by decide +kernel
theorem d_m_digits_6 : decode (ch_bc m_m_digits) 6 = .ok (.iload_n 1, 1) := by decide +kernel
theorem d_m_digits_7 : decode (ch_bc m_m_digits) 7 = .ok (.iconst 0, 1) := by decide +kernel
theorem d_m_digits_8 : decode (ch_bc m_m_digits) 8 = .ok (.iastore, 1) := by decide +kernel
theorem d_m_digits_9 : decode (ch_bc m_m_digits) 9 = .ok (.iload_n 3, 1) := by decide +kernel
theorem d_m_digits_10 : decode (ch_bc m_m_digits) 10 = .ok (.iload_n 2, 1) := by decide +kernel
theorem d_m_digits_11 : decode (ch_bc m_m_digits) 11 = .ok (.if_icmp .ge 74, 3) := by decide +kernel
theorem d_m_digits_14 : decode (ch_bc m_m_digits) 14 = .ok (.aload_n 0, 1) := by decide +kernel
theorem d_m_digits_15 : decode (ch_bc m_m_digits) 15 = .ok (.getfield 209, 3) := by decide +kernel
theorem d_m_digits_18 : decode (ch_bc m_m_digits) 18 = .ok (.aload_n 0, 1) := by decide +kernel
theorem d_m_digits_19 : decode (ch_bc m_m_digits) 19 = .ok (.getfield 206, 3) := by decide +kernel
theorem d_m_digits_22 : decode (ch_bc m_m_digits) 22 = .ok (.if_icmp .ge 63, 3) := by decide +kernel
theorem d_m_digits_25 : decode (ch_bc m_m_digits) 25 = .ok (.aload_n 0, 1) := by decide +kernel
theorem d_m_digits_26 : decode (ch_bc m_m_digits) 26 = .ok (.getfield 29, 3) := by decide +kernel
theorem d_m_digits_29 : decode (ch_bc m_m_digits) 29 = .ok (.aload_n 0, 1) := by decide +kernel
theorem d_m_digits_30 : decode (ch_bc m_m_digits) 30 = .ok (.getfield 209, 3) := by decide +kernel
theorem d_m_digits_33 : decode (ch_bc m_m_digits) 33 = .ok (.caload, 1) := by decide +kernel
theorem d_m_digits_34 : decode (ch_bc m_m_digits) 34 = .ok (.bipush 48, 2) := by decide +kernel
theorem d_m_digits_36 : decode (ch_bc m_m_digits) 36 = .ok (.bipush 57, 2) := by decide +kernel
theorem d_m_digits_38 : decode (ch_bc m_m_digits) 38 = .ok (.invokestatic 73, 3) := by decide +kernel
theorem d_m_digits_41 : decode (ch_bc m_m_digits) 41 = .ok (.ifCond .eq 44, 3) := by decide +kernel
theorem d_m_digits_44 : decode (ch_bc m_m_digits) 44 = .ok (.aload_n 0, 1) := by decide +kernel
theorem d_m_digits_45 : decode (ch_bc m_m_digits) 45 = .ok (.getfield 32, 3) := by decide +kernel
theorem d_m_digits_48 : decode (ch_bc m_m_digits) 48 = .ok (.iload_n 1, 1) := by decide +kernel
theorem d_m_digits_49 : decode (ch_bc m_m_digits) 49 = .ok (.bipush 10, 2) := by decide +kernel
theorem d_m_digits_51 : decode (ch_bc m_m_digits) 51 = .ok (.aload_n 0, 1) := by decide +kernel
theorem d_m_digits_52 : decode (ch_bc m_m_digits) 52 = .ok (.getfield 32, 3) := by decide +kernel
theorem d_m_digits_55 : decode (ch_bc m_m_digits) 55 = .ok (.iload_n 1, 1) := by decide +kernel
theorem d_m_digits_56 : decode (ch_bc m_m_digits) 56 = .ok (.iaload, 1) := by decide +kernel
theorem d_m_digits_57 : decode (ch_bc m_m_digits) 57 = .ok (.imul, 1) := by decide +kernel
theorem d_m_digits_58 : decode (ch_bc m_m_digits) 58 = .ok (.aload_n 0, 1) := by decide +kernel
theorem d_m_digits_59 : decode (ch_bc m_m_digits) 59 = .ok (.getfield 29, 3) := by decide +kernel
theorem d_m_digits_62 : decode (ch_bc m_m_digits) 62 = .ok (.aload_n 0, 1) := by decide +kernel
theorem d_m_digits_63 : decode (ch_bc m_m_digits) 63 = .ok (.dup, 1) := by decide +kernel
theorem d_m_digits_64 : decode (ch_bc m_m_digits) 64 = .ok (.getfield 209, 3) := by decide +kernel
theorem d_m_digits_67 : decode (ch_bc m_m_digits) 67 = .ok (.dup_x1, 1) := by decide +kernel
theorem d_m_digits_68 : decode (ch_bc m_m_digits) 68 = .ok (.iconst 1, 1) := by decide +kernel
theorem d_m_digits_69 : decode (ch_bc m_m_digits) 69 = .ok (.iadd, 1) := by decide +kernel
theorem d_m_digits_70 : decode (ch_bc m_m_digits) 70 = .ok (.putfield 209, 3) := by decide +kernel
theorem d_m_digits_73 : decode (ch_bc m_m_digits) 73 = .ok (.caload, 1) := by decide +kernel
theorem d_m_digits_74 : decode (ch_bc m_m_digits) 74 = .ok (.iadd, 1) := by decide +kernel
theorem d_m_digits_75 : decode (ch_bc m_m_digits) 75 = .ok (.bipush 48, 2) := by decide +kernel
theorem d_m_digits_77 : decode (ch_bc m_m_digits) 77 = .ok (.isub, 1) := by decide +kernel
theorem d_m_digits_78 : decode (ch_bc m_m_digits) 78 = .ok (.iastore, 1) := by decide +kernel
theorem d_m_digits_79 : decode (ch_bc m_m_digits) 79 = .ok (.iinc 3 1, 3) := by decide +kernel
theorem d_m_digits_82 : decode (ch_bc m_m_digits) 82 = .ok (.goto (-73), 3) := by decide +kernel
theorem d_m_digits_85 : decode (ch_bc m_m_digits) 85 = .ok (.iload_n 3, 1) := by decide +kernel
theorem d_m_digits_86 : decode (ch_bc m_m_digits) 86 = .ok (.ifCond .le 7, 3) := by decide +kernel
theorem d_m_digits_89 : decode (ch_bc m_m_digits) 89 = .ok (.iconst 1, 1) := by decide +kernel
theorem d_m_digits_90 : decode (ch_bc m_m_digits) 90 = .ok (.goto 4, 3) := by decide +kernel
theorem d_m_digits_93 : decode (ch_bc m_m_digits) 93 = .ok (.iconst 0, 1) := by decide +kernel
theorem d_m_digits_94 : decode (ch_bc m_m_digits) 94 = .ok (.ireturn, 1) := by decide +kernel
theorem d_m_hasSteps_0 : decode (ch_bc m_m_hasSteps) 0 = .ok (.aload_n 0, 1) := by decide +kernel
theorem d_m_hasSteps_1 : decode (ch_bc m_m_hasSteps) 1 = .ok (.iconst 0, 1) := by decide +kernel
theorem d_m_hasSteps_2 : decode (ch_bc m_m_hasSteps) 2 = .ok (.putfield 126, 3) := by decide +kernel
theorem d_m_hasSteps_5 : decode (ch_bc m_m_hasSteps) 5 = .ok (.aload_n 0, 1) := by decide +kernel
theorem d_m_hasSteps_6 : decode (ch_bc m_m_hasSteps) 6 = .ok (.getfield 126, 3) := by decide +kernel
theorem d_m_hasSteps_9 : decode (ch_bc m_m_hasSteps) 9 = .ok (.bipush 12, 2) := by decide +kernel
theorem d_m_hasSteps_11 : decode (ch_bc m_m_hasSteps) 11 = .ok (.if_icmp .ge 71, 3) := by decide +kernel
theorem d_m_hasSteps_14 : decode (ch_bc m_m_hasSteps) 14 = .ok (.aload_n 0, 1) := by decide +kernel
theorem d_m_hasSteps_15 : decode (ch_bc m_m_hasSteps) 15 = .ok (.getfield 209, 3) := by decide +kernel
theorem d_m_hasSteps_18 : decode (ch_bc m_m_hasSteps) 18 = .ok (.aload_n 0, 1) := by decide +kernel
theorem d_m_hasSteps_19 : decode (ch_bc m_m_hasSteps) 19 = .ok (.getfield 206, 3) := by decide +kernel
theorem d_m_hasSteps_22 : decode (ch_bc m_m_hasSteps) 22 = .ok (.if_icmp .ge 60, 3) := by decide +kernel
theorem d_m_hasSteps_25 : decode (ch_bc m_m_hasSteps) 25 = .ok (.aload_n 0, 1) := by decide +kernel
theorem d_m_hasSteps_26 : decode (ch_bc m_m_hasSteps) 26 = .ok (.getfield 29, 3) := by decide +kernel
theorem d_m_hasSteps_29 : decode (ch_bc m_m_hasSteps) 29 = .ok (.aload_n 0, 1) := by decide +kernel
theorem d_m_hasSteps_30 : decode (ch_bc m_m_hasSteps) 30 = .ok (.getfield 209, 3) := by decide +kernel
theorem d_m_hasSteps_33 : decode (ch_bc m_m_hasSteps) 33 = .ok (.caload, 1) := by decide +kernel
theorem d_m_hasSteps_34 : decode (ch_bc m_m_hasSteps) 34 = .ok (.bipush 49, 2) := by decide +kernel
theorem d_m_hasSteps_36 : decode (ch_bc m_m_hasSteps) 36 = .ok (.bipush 51, 2) := by decide +kernel
theorem d_m_hasSteps_38 : decode (ch_bc m_m_hasSteps) 38 = .ok (.invokestatic 73, 3) := by decide +kernel
theorem d_m_hasSteps_41 : decode (ch_bc m_m_hasSteps) 41 = .ok (.ifCond .eq 41, 3) := by decide +kernel
theorem d_m_hasSteps_44 : decode (ch_bc m_m_hasSteps) 44 = .ok (.aload_n 0, 1) := by decide +kernel
theorem d_m_hasSteps_45 : decode (ch_bc m_m_hasSteps) 45 = .ok (.getfield 39, 3) := by decide +kernel
theorem d_m_hasSteps_48 : decode (ch_bc m_m_hasSteps) 48 = .ok (.aload_n 0, 1) := by decide +kernel
theorem d_m_hasSteps_49 : decode (ch_bc m_m_hasSteps) 49 = .ok (.dup, 1) := by decide +kernel
theorem d_m_hasSteps_50 : decode (ch_bc m_m_hasSteps) 50 = .ok (.getfield 126, 3) := by decide +kernel
theorem d_m_hasSteps_53 : decode (ch_bc m_m_hasSteps) 53 = .ok (.dup_x1, 1) := by decide +kernel
theorem d_m_hasSteps_54 : decode (ch_bc m_m_hasSteps) 54 = .ok (.iconst 1, 1) := by decide +kernel
theorem d_m_hasSteps_55 : decode (ch_bc m_m_hasSteps) 55 = .ok (.iadd, 1) := by decide +kernel
theorem d_m_hasSteps_56 : decode (ch_bc m_m_hasSteps) 56 = .ok (.putfield 126, 3) := by decide +kernel
theorem d_m_hasSteps_59 : decode (ch_bc m_m_hasSteps) 59 = .ok (.aload_n 0, 1) := by decide +kernel
theorem d_m_hasSteps_60 : decode (ch_bc m_m_hasSteps) 60 = .ok (.getfield 29, 3) := by decide +kernel
theorem d_m_hasSteps_63 : decode (ch_bc m_m_hasSteps) 63 = .ok (.aload_n 0, 1) := by decide +kernel
theorem d_m_hasSteps_64 : decode (ch_bc m_m_hasSteps) 64 = .ok (.dup, 1) := by decide +kernel
theorem d_m_hasSteps_65 : decode (ch_bc m_m_hasSteps) 65 = .ok (.getfield 209, 3) := by decide +kernel
theorem d_m_hasSteps_68 : decode (ch_bc m_m_hasSteps) 68 = .ok (.dup_x1, 1) := by decide +kernel
theorem d_m_hasSteps_69 : decode (ch_bc m_m_hasSteps) 69 = .ok (.iconst 1, 1) := by decide +kernel
theorem d_m_hasSteps_70 : decode (ch_bc m_m_hasSteps) 70 = .ok (.iadd, 1) := by decide +kernel
theorem d_m_hasSteps_71 : decode (ch_bc m_m_hasSteps) 71 = .ok (.putfield 209, 3) := by decide +kernel
theorem d_m_hasSteps_74 : decode (ch_bc m_m_hasSteps) 74 = .ok (.caload, 1) := by decide +kernel
theorem d_m_hasSteps_75 : decode (ch_bc m_m_hasSteps) 75 = .ok (.bipush 48, 2) := by decide +kernel
theorem d_m_hasSteps_77 : decode (ch_bc m_m_hasSteps) 77 = .ok (.isub, 1) := by decide +kernel
theorem d_m_hasSteps_78 : decode (ch_bc m_m_hasSteps) 78 = .ok (.iastore, 1) := by decide +kernel
theorem d_m_hasSteps_79 : decode (ch_bc m_m_hasSteps) 79 = .ok (.goto (-74), 3) := by decide +kernel
theorem d_m_hasSteps_82 : decode (ch_bc m_m_hasSteps) 82 = .ok (.aload_n 0, 1) := by decide +kernel
theorem d_m_hasSteps_83 : decode (ch_bc m_m_hasSteps) 83 = .ok (.getfield 126, 3) := by decide +kernel
theorem d_m_hasSteps_86 : decode (ch_bc m_m_hasSteps) 86 = .ok (.ifCond .le 7, 3) := by decide +kernel
theorem d_m_hasSteps_89 : decode (ch_bc m_m_hasSteps) 89 = .ok (.iconst 1, 1) := by decide +kernel
theorem d_m_hasSteps_90 : decode (ch_bc m_m_hasSteps) 90 = .ok (.goto 4, 3) := by decide +kernel
theorem d_m_hasSteps_93 : decode (ch_bc m_m_hasSteps) 93 = .ok (.iconst 0, 1) := by decide +kernel
theorem d_m_hasSteps_94 : decode (ch_bc m_m_hasSteps) 94 = .ok (.ireturn, 1) := by decide +kernel
theorem d_m_isCommand_0 : decode (ch_bc m_m_isCommand) 0 = .ok (.aload_n 0, 1) := by decide +kernel
theorem d_m_isCommand_1 : decode (ch_bc m_m_isCommand) 1 = .ok (.getfield 209, 3) := by decide +kernel
theorem d_m_isCommand_4 : decode (ch_bc m_m_isCommand) 4 = .ok (.aload_n 0, 1) := by decide +kernel
theorem d_m_isCommand_5 : decode (ch_bc m_m_isCommand) 5 = .ok (.getfield 206, 3) := by decide +kernel
theorem d_m_isCommand_8 : decode (ch_bc m_m_isCommand) 8 = .ok (.if_icmp .eq 20, 3) := by decide +kernel
theorem d_m_isCommand_11 : decode (ch_bc m_m_isCommand) 11 = .ok (.ldc 212, 2) := by decide +kernel
theorem d_m_isCommand_13 : decode (ch_bc m_m_isCommand) 13 = .ok (.aload_n 0, 1) := by decide +kernel
theorem d_m_isCommand_14 : decode (ch_bc m_m_isCommand) 14 = .ok (.getfield 29, 3) := by decide +kernel
theorem d_m_isCommand_17 : decode (ch_bc m_m_isCommand) 17 = .ok (.aload_n 0, 1) := by decide +kernel
theorem d_m_isCommand_18 : decode (ch_bc m_m_isCommand) 18 = .ok (.getfield 209, 3) := by decide +kernel
theorem d_m_isCommand_21 : decode (ch_bc m_m_isCommand) 21 = .ok (.caload, 1) := by decide +kernel
theorem d_m_isCommand_22 : decode (ch_bc m_m_isCommand) 22 = .ok (.invokevirtual 214, 3) := by decide +kernel
theorem d_m_isCommand_25 : decode (ch_bc m_m_isCommand) 25 = .ok (.ifCond .ge 5, 3) := by decide +kernel
theorem d_m_isCommand_28 : decode (ch_bc m_m_isCommand) 28 = .ok (.iconst 0, 1) := by decide +kernel
theorem d_m_isCommand_29 : decode (ch_bc m_m_isCommand) 29 = .ok (.ireturn, 1) := by decide +kernel
theorem d_m_isCommand_30 : decode (ch_bc m_m_isCommand) 30 = .ok (.aload_n 0, 1) := by decide +kernel
theorem d_m_isCommand_31 : decode (ch_bc m_m_isCommand) 31 = .ok (.aload_n 0, 1) := by decide +kernel
theorem d_m_isCommand_32 : decode (ch_bc m_m_isCommand) 32 = .ok (.getfield 29, 3) := by decide +kernel
theorem d_m_isCommand_35 : decode (ch_bc m_m_isCommand) 35 = .ok (.aload_n 0, 1) := by decide +kernel
theorem d_m_isCommand_36 : decode (ch_bc m_m_isCommand) 36 = .ok (.dup, 1) := by decide +kernel
theorem d_m_isCommand_37 : decode (ch_bc m_m_isCommand) 37 = .ok (.getfield 209, 3) := by decide +kernel
theorem d_m_isCommand_40 : decode (ch_bc m_m_isCommand) 40 = .ok (.dup_x1, 1) := by decide +kernel
theorem d_m_isCommand_41 : decode (ch_bc m_m_isCommand) 41 = .ok (.iconst 1, 1) := by decide +kernel
theorem d_m_isCommand_42 : decode (ch_bc m_m_isCommand) 42 = .ok (.iadd, 1) := by decide +kernel
theorem d_m_isCommand_43 : decode (ch_bc m_m_isCommand) 43 = .ok (.putfield 209, 3) := by decide +kernel
theorem d_m_isCommand_46 : decode (ch_bc m_m_isCommand) 46 = .ok (.caload, 1) := by decide +kernel
theorem d_m_isCommand_47 : decode (ch_bc m_m_isCommand) 47 = .ok (.putfield 219, 3) := by decide +kernel
theorem d_m_isCommand_50 : decode (ch_bc m_m_isCommand) 50 = .ok (.aload_n 0, 1) := by decide +kernel
theorem d_m_isCommand_51 : decode (ch_bc m_m_isCommand) 51 = .ok (.getfield 219, 3) := by decide +kernel
theorem d_m_isCommand_54 : decode (ch_bc m_m_isCommand) 54 = .ok (.lookupswitch 174 #[(99, 57), (103, 123), (104, 90), (110, 50), (116, 121)], 50) := by decide +kernel
theorem d_m_isCommand_104 : decode (ch_bc m_m_isCommand) 104 = .ok (.aload_n 0, 1) := by decide +kernel
theorem d_m_isCommand_105 : decode (ch_bc m_m_isCommand) 105 = .ok (.iconst 0, 1) := by decide +kernel
theorem d_m_isCommand_106 : decode (ch_bc m_m_isCommand) 106 = .ok (.iconst 2, 1) := by decide +kernel
theorem d_m_isCommand_107 : decode (ch_bc m_m_isCommand) 107 = .ok (.invokevirtual 223, 3) := by decide +kernel
theorem d_m_isCommand_110 : decode (ch_bc m_m_isCommand) 110 = .ok (.ireturn, 1) := by decide +kernel
theorem d_m_isCommand_111 : decode (ch_bc m_m_isCommand) 111 = .ok (.aload_n 0, 1) := by decide +kernel
theorem d_m_isCommand_112 : decode (ch_bc m_m_isCommand) 112 = .ok (.iconst 0, 1) := by decide +kernel
theorem d_m_isCommand_113 : decode (ch_bc m_m_isCommand) 113 = .ok (.iconst 1, 1) := by decide +kernel
theorem d_m_isCommand_114 : decode (ch_bc m_m_isCommand) 114 = .ok (.invokevirtual 223, 3) := by decide +kernel
theorem d_m_isCommand_117 : decode (ch_bc m_m_isCommand) 117 = .ok (.ifCond .eq 25, 3) := by decide +kernel
theorem d_m_isCommand_120 : decode (ch_bc m_m_isCommand) 120 = .ok (.aload_n 0, 1) := by decide +kernel
theorem d_m_isCommand_121 : decode (ch_bc m_m_isCommand) 121 = .ok (.bipush 64, 2) := by decide +kernel
theorem d_m_isCommand_123 : decode (ch_bc m_m_isCommand) 123 = .ok (.invokevirtual 226, 3) := by decide +kernel
theorem d_m_isCommand_126 : decode (ch_bc m_m_isCommand) 126 = .ok (.ifCond .eq 16, 3) := by decide +kernel
theorem d_m_isCommand_129 : decode (ch_bc m_m_isCommand) 129 = .ok (.aload_n 0, 1) := by decide +kernel
theorem d_m_isCommand_130 : decode (ch_bc m_m_isCommand) 130 = .ok (.iconst 1, 1) := by decide +kernel
theorem d_m_isCommand_131 : decode (ch_bc m_m_isCommand) 131 = .ok (.iconst 2, 1) := by decide +kernel
theorem d_m_isCommand_132 : decode (ch_bc m_m_isCommand) 132 = .ok (.invokevirtual 223, 3) := by decide +kernel
theorem d_m_isCommand_135 : decode (ch_bc m_m_isCommand) 135 = .ok (.ifCond .eq 7, 3) := by decide +kernel
theorem d_m_isCommand_138 : decode (ch_bc m_m_isCommand) 138 = .ok (.iconst 1, 1) := by decide +kernel
theorem d_m_isCommand_139 : decode (ch_bc m_m_isCommand) 139 = .ok (.goto 4, 3) := by decide +kernel
theorem d_m_isCommand_142 : decode (ch_bc m_m_isCommand) 142 = .ok (.iconst 0, 1) := by decide +kernel
theorem d_m_isCommand_143 : decode (ch_bc m_m_isCommand) 143 = .ok (.ireturn, 1) := by decide +kernel
theorem d_m_isCommand_144 : decode (ch_bc m_m_isCommand) 144 = .ok (.aload_n 0, 1) := by decide +kernel
theorem d_m_isCommand_145 : decode (ch_bc m_m_isCommand) 145 = .ok (.iconst 0, 1) := by decide +kernel
theorem d_m_isCommand_146 : decode (ch_bc m_m_isCommand) 146 = .ok (.iconst 1, 1) := by decide +kernel
theorem d_m_isCommand_147 : decode (ch_bc m_m_isCommand) 147 = .ok (.invokevirtual 223, 3) := by decide +kernel
theorem d_m_isCommand_150 : decode (ch_bc m_m_isCommand) 150 = .ok (.ifCond .eq 23, 3) := by decide +kernel
theorem d_m_isCommand_153 : decode (ch_bc m_m_isCommand) 153 = .ok (.aload_n 0, 1) := by decide +kernel
theorem d_m_isCommand_154 : decode (ch_bc m_m_isCommand) 154 = .ok (.bipush 58, 2) := by decide +kernel
theorem d_m_isCommand_156 : decode (ch_bc m_m_isCommand) 156 = .ok (.invokevirtual 226, 3) := by decide +kernel
theorem d_m_isCommand_159 : decode (ch_bc m_m_isCommand) 159 = .ok (.ifCond .eq 14, 3) := by decide +kernel
theorem d_m_isCommand_162 : decode (ch_bc m_m_isCommand) 162 = .ok (.aload_n 0, 1) := by decide +kernel
theorem d_m_isCommand_163 : decode (ch_bc m_m_isCommand) 163 = .ok (.invokevirtual 230, 3) := by decide +kernel
theorem d_m_isCommand_166 : decode (ch_bc m_m_isCommand) 166 = .ok (.ifCond .eq 7, 3) := by decide +kernel
theorem d_m_isCommand_169 : decode (ch_bc m_m_isCommand) 169 = .ok (.iconst 1, 1) := by decide +kernel
theorem d_m_isCommand_170 : decode (ch_bc m_m_isCommand) 170 = .ok (.goto 4, 3) := by decide +kernel
theorem d_m_isCommand_173 : decode (ch_bc m_m_isCommand) 173 = .ok (.iconst 0, 1) := by decide +kernel
theorem d_m_isCommand_174 : decode (ch_bc m_m_isCommand) 174 = .ok (.ireturn, 1) := by decide +kernel
theorem d_m_isCommand_175 : decode (ch_bc m_m_isCommand) 175 = .ok (.iconst 1, 1) := by decide +kernel
theorem d_m_isCommand_176 : decode (ch_bc m_m_isCommand) 176 = .ok (.ireturn, 1) := by decide +kernel
theorem d_m_isCommand_177 : decode (ch_bc m_m_isCommand) 177 = .ok (.aload_n 0, 1) := by decide +kernel
theorem d_m_isCommand_178 : decode (ch_bc m_m_isCommand) 178 = .ok (.iconst 0, 1) := by decide +kernel
theorem d_m_isCommand_179 : decode (ch_bc m_m_isCommand) 179 = .ok (.iconst 1, 1) := by decide +kernel
theorem d_m_isCommand_180 : decode (ch_bc m_m_isCommand) 180 = .ok (.invokevirtual 223, 3) := by decide +kernel
theorem d_m_isCommand_183 : decode (ch_bc m_m_isCommand) 183 = .ok (.ifCond .eq 43, 3) := by decide +kernel
theorem d_m_isCommand_186 : decode (ch_bc m_m_isCommand) 186 = .ok (.aload_n 0, 1) := by decide +kernel
theorem d_m_isCommand_187 : decode (ch_bc m_m_isCommand) 187 = .ok (.bipush 62, 2) := by decide +kernel
theorem d_m_isCommand_189 : decode (ch_bc m_m_isCommand) 189 = .ok (.invokevirtual 226, 3) := by decide +kernel
theorem d_m_isCommand_192 : decode (ch_bc m_m_isCommand) 192 = .ok (.ifCond .eq 34, 3) := by decide +kernel
theorem d_m_isCommand_195 : decode (ch_bc m_m_isCommand) 195 = .ok (.aload_n 0, 1) := by decide +kernel
theorem d_m_isCommand_196 : decode (ch_bc m_m_isCommand) 196 = .ok (.iconst 1, 1) := by decide +kernel
theorem d_m_isCommand_197 : decode (ch_bc m_m_isCommand) 197 = .ok (.iconst 1, 1) := by decide +kernel
theorem d_m_isCommand_198 : decode (ch_bc m_m_isCommand) 198 = .ok (.invokevirtual 223, 3) := by decide +kernel
theorem d_m_isCommand_201 : decode (ch_bc m_m_isCommand) 201 = .ok (.ifCond .eq 25, 3) := by decide +kernel
theorem d_m_isCommand_204 : decode (ch_bc m_m_isCommand) 204 = .ok (.aload_n 0, 1) := by decide +kernel
theorem d_m_isCommand_205 : decode (ch_bc m_m_isCommand) 205 = .ok (.bipush 42, 2) := by decide +kernel
theorem d_m_isCommand_207 : decode (ch_bc m_m_isCommand) 207 = .ok (.invokevirtual 226, 3) := by decide +kernel
theorem d_m_isCommand_210 : decode (ch_bc m_m_isCommand) 210 = .ok (.ifCond .eq 16, 3) := by decide +kernel
theorem d_m_isCommand_213 : decode (ch_bc m_m_isCommand) 213 = .ok (.aload_n 0, 1) := by decide +kernel
theorem d_m_isCommand_214 : decode (ch_bc m_m_isCommand) 214 = .ok (.iconst 2, 1) := by decide +kernel
theorem d_m_isCommand_215 : decode (ch_bc m_m_isCommand) 215 = .ok (.iconst 2, 1) := by decide +kernel
theorem d_m_isCommand_216 : decode (ch_bc m_m_isCommand) 216 = .ok (.invokevirtual 223, 3) := by decide +kernel
theorem d_m_isCommand_219 : decode (ch_bc m_m_isCommand) 219 = .ok (.ifCond .eq 7, 3) := by decide +kernel
theorem d_m_isCommand_222 : decode (ch_bc m_m_isCommand) 222 = .ok (.iconst 1, 1) := by decide +kernel
theorem d_m_isCommand_223 : decode (ch_bc m_m_isCommand) 223 = .ok (.goto 4, 3) := by decide +kernel
theorem d_m_isCommand_226 : decode (ch_bc m_m_isCommand) 226 = .ok (.iconst 0, 1) := by decide +kernel
theorem d_m_isCommand_227 : decode (ch_bc m_m_isCommand) 227 = .ok (.ireturn, 1) := by decide +kernel
theorem d_m_isCommand_228 : decode (ch_bc m_m_isCommand) 228 = .ok (.aload_n 0, 1) := by decide +kernel
theorem d_m_isCommand_229 : decode (ch_bc m_m_isCommand) 229 = .ok (.iconst 0, 1) := by decide +kernel
theorem d_m_isCommand_230 : decode (ch_bc m_m_isCommand) 230 = .ok (.iconst 1, 1) := by decide +kernel
theorem d_m_isCommand_231 : decode (ch_bc m_m_isCommand) 231 = .ok (.invokevirtual 223, 3) := by decide +kernel
theorem d_m_isCommand_234 : decode (ch_bc m_m_isCommand) 234 = .ok (.ireturn, 1) := by decide +kernel
theorem d_m_carries_0 : decode (ch_bc m_m_carries) 0 = .ok (.aload_n 0, 1) := by decide +kernel
theorem d_m_carries_1 : decode (ch_bc m_m_carries) 1 = .ok (.getfield 219, 3) := by decide +kernel
theorem d_m_carries_4 : decode (ch_bc m_m_carries) 4 = .ok (.tableswitch 216 99 119 #[111, 216, 216, 216, 193, 128, 216, 216, 216, 216, 216, 100, 216, 216, 216, 182, 171, 216, 216, 216, 160], 100) := by decide +kernel
theorem d_m_carries_104 : decode (ch_bc m_m_carries) 104 = .ok (.aload_n 0, 1) := by decide +kernel
theorem d_m_carries_105 : decode (ch_bc m_m_carries) 105 = .ok (.aload_n 0, 1) := by decide +kernel
theorem d_m_carries_106 : decode (ch_bc m_m_carries) 106 = .ok (.getfield 32, 3) := by decide +kernel
theorem d_m_carries_109 : decode (ch_bc m_m_carries) 109 = .ok (.iconst 0, 1) := by decide +kernel
theorem d_m_carries_110 : decode (ch_bc m_m_carries) 110 = .ok (.iaload, 1) := by decide +kernel
theorem d_m_carries_111 : decode (ch_bc m_m_carries) 111 = .ok (.invokevirtual 99, 3) := by decide +kernel
theorem d_m_carries_114 : decode (ch_bc m_m_carries) 114 = .ok (.ireturn, 1) := by decide +kernel
theorem d_m_carries_115 : decode (ch_bc m_m_carries) 115 = .ok (.aload_n 0, 1) := by decide +kernel
theorem d_m_carries_116 : decode (ch_bc m_m_carries) 116 = .ok (.aload_n 0, 1) := by decide +kernel
theorem d_m_carries_117 : decode (ch_bc m_m_carries) 117 = .ok (.getfield 32, 3) := by decide +kernel
theorem d_m_carries_120 : decode (ch_bc m_m_carries) 120 = .ok (.iconst 0, 1) := by decide +kernel
theorem d_m_carries_121 : decode (ch_bc m_m_carries) 121 = .ok (.iaload, 1) := by decide +kernel
theorem d_m_carries_122 : decode (ch_bc m_m_carries) 122 = .ok (.aload_n 0, 1) := by decide +kernel
theorem d_m_carries_123 : decode (ch_bc m_m_carries) 123 = .ok (.getfield 32, 3) := by decide +kernel
theorem d_m_carries_126 : decode (ch_bc m_m_carries) 126 = .ok (.iconst 1, 1) := by decide +kernel
theorem d_m_carries_127 : decode (ch_bc m_m_carries) 127 = .ok (.iaload, 1) := by decide +kernel
theorem d_m_carries_128 : decode (ch_bc m_m_carries) 128 = .ok (.invokevirtual 123, 3) := by decide +kernel
theorem d_m_carries_131 : decode (ch_bc m_m_carries) 131 = .ok (.ireturn, 1) := by decide +kernel
theorem d_m_carries_132 : decode (ch_bc m_m_carries) 132 = .ok (.aload_n 0, 1) := by decide +kernel
theorem d_m_carries_133 : decode (ch_bc m_m_carries) 133 = .ok (.aload_n 0, 1) := by decide +kernel
theorem d_m_carries_134 : decode (ch_bc m_m_carries) 134 = .ok (.getfield 32, 3) := by decide +kernel
theorem d_m_carries_137 : decode (ch_bc m_m_carries) 137 = .ok (.iconst 0, 1) := by decide +kernel
theorem d_m_carries_138 : decode (ch_bc m_m_carries) 138 = .ok (.iaload, 1) := by decide +kernel
theorem d_m_carries_139 : decode (ch_bc m_m_carries) 139 = .ok (.invokevirtual 144, 3) := by decide +kernel
theorem d_m_carries_142 : decode (ch_bc m_m_carries) 142 = .ok (.ifCond .eq 20, 3) := by decide +kernel
theorem d_m_carries_145 : decode (ch_bc m_m_carries) 145 = .ok (.aload_n 0, 1) := by decide +kernel
theorem d_m_carries_146 : decode (ch_bc m_m_carries) 146 = .ok (.aload_n 0, 1) := by decide +kernel
theorem d_m_carries_147 : decode (ch_bc m_m_carries) 147 = .ok (.getfield 32, 3) := by decide +kernel
theorem d_m_carries_150 : decode (ch_bc m_m_carries) 150 = .ok (.iconst 0, 1) := by decide +kernel
theorem d_m_carries_151 : decode (ch_bc m_m_carries) 151 = .ok (.iaload, 1) := by decide +kernel
theorem d_m_carries_152 : decode (ch_bc m_m_carries) 152 = .ok (.invokevirtual 150, 3) := by decide +kernel
theorem d_m_carries_155 : decode (ch_bc m_m_carries) 155 = .ok (.ifCond .eq 7, 3) := by decide +kernel
theorem d_m_carries_158 : decode (ch_bc m_m_carries) 158 = .ok (.iconst 1, 1) := by decide +kernel
theorem d_m_carries_159 : decode (ch_bc m_m_carries) 159 = .ok (.goto 4, 3) := by decide +kernel
theorem d_m_carries_162 : decode (ch_bc m_m_carries) 162 = .ok (.iconst 0, 1) := by decide +kernel
theorem d_m_carries_163 : decode (ch_bc m_m_carries) 163 = .ok (.ireturn, 1) := by decide +kernel
theorem d_m_carries_164 : decode (ch_bc m_m_carries) 164 = .ok (.aload_n 0, 1) := by decide +kernel
theorem d_m_carries_165 : decode (ch_bc m_m_carries) 165 = .ok (.aload_n 0, 1) := by decide +kernel
theorem d_m_carries_166 : decode (ch_bc m_m_carries) 166 = .ok (.getfield 32, 3) := by decide +kernel
theorem d_m_carries_169 : decode (ch_bc m_m_carries) 169 = .ok (.iconst 0, 1) := by decide +kernel
theorem d_m_carries_170 : decode (ch_bc m_m_carries) 170 = .ok (.iaload, 1) := by decide +kernel
theorem d_m_carries_171 : decode (ch_bc m_m_carries) 171 = .ok (.invokevirtual 153, 3) := by decide +kernel
theorem d_m_carries_174 : decode (ch_bc m_m_carries) 174 = .ok (.ireturn, 1) := by decide +kernel
theorem d_m_carries_175 : decode (ch_bc m_m_carries) 175 = .ok (.aload_n 0, 1) := by decide +kernel
theorem d_m_carries_176 : decode (ch_bc m_m_carries) 176 = .ok (.aload_n 0, 1) := by decide +kernel
theorem d_m_carries_177 : decode (ch_bc m_m_carries) 177 = .ok (.getfield 32, 3) := by decide +kernel
theorem d_m_carries_180 : decode (ch_bc m_m_carries) 180 = .ok (.iconst 0, 1) := by decide +kernel
theorem d_m_carries_181 : decode (ch_bc m_m_carries) 181 = .ok (.iaload, 1) := by decide +kernel
theorem d_m_carries_182 : decode (ch_bc m_m_carries) 182 = .ok (.invokevirtual 159, 3) := by decide +kernel
theorem d_m_carries_185 : decode (ch_bc m_m_carries) 185 = .ok (.ireturn, 1) := by decide +kernel
theorem d_m_carries_186 : decode (ch_bc m_m_carries) 186 = .ok (.aload_n 0, 1) := by decide +kernel
theorem d_m_carries_187 : decode (ch_bc m_m_carries) 187 = .ok (.aload_n 0, 1) := by decide +kernel
theorem d_m_carries_188 : decode (ch_bc m_m_carries) 188 = .ok (.getfield 32, 3) := by decide +kernel
theorem d_m_carries_191 : decode (ch_bc m_m_carries) 191 = .ok (.iconst 0, 1) := by decide +kernel
theorem d_m_carries_192 : decode (ch_bc m_m_carries) 192 = .ok (.iaload, 1) := by decide +kernel
theorem d_m_carries_193 : decode (ch_bc m_m_carries) 193 = .ok (.invokevirtual 168, 3) := by decide +kernel
theorem d_m_carries_196 : decode (ch_bc m_m_carries) 196 = .ok (.ireturn, 1) := by decide +kernel
theorem d_m_carries_197 : decode (ch_bc m_m_carries) 197 = .ok (.aload_n 0, 1) := by decide +kernel
theorem d_m_carries_198 : decode (ch_bc m_m_carries) 198 = .ok (.aload_n 0, 1) := by decide +kernel
theorem d_m_carries_199 : decode (ch_bc m_m_carries) 199 = .ok (.getfield 32, 3) := by decide +kernel
theorem d_m_carries_202 : decode (ch_bc m_m_carries) 202 = .ok (.iconst 0, 1) := by decide +kernel
theorem d_m_carries_203 : decode (ch_bc m_m_carries) 203 = .ok (.iaload, 1) := by decide +kernel
theorem d_m_carries_204 : decode (ch_bc m_m_carries) 204 = .ok (.aload_n 0, 1) := by decide +kernel
theorem d_m_carries_205 : decode (ch_bc m_m_carries) 205 = .ok (.getfield 32, 3) := by decide +kernel
theorem d_m_carries_208 : decode (ch_bc m_m_carries) 208 = .ok (.iconst 1, 1) := by decide +kernel
theorem d_m_carries_209 : decode (ch_bc m_m_carries) 209 = .ok (.iaload, 1) := by decide +kernel
theorem d_m_carries_210 : decode (ch_bc m_m_carries) 210 = .ok (.aload_n 0, 1) := by decide +kernel
theorem d_m_carries_211 : decode (ch_bc m_m_carries) 211 = .ok (.getfield 32, 3) := by decide +kernel
theorem d_m_carries_214 : decode (ch_bc m_m_carries) 214 = .ok (.iconst 2, 1) := by decide +kernel
theorem d_m_carries_215 : decode (ch_bc m_m_carries) 215 = .ok (.iaload, 1) := by decide +kernel
theorem d_m_carries_216 : decode (ch_bc m_m_carries) 216 = .ok (.invokevirtual 179, 3) := by decide +kernel
theorem d_m_carries_219 : decode (ch_bc m_m_carries) 219 = .ok (.ireturn, 1) := by decide +kernel
theorem d_m_carries_220 : decode (ch_bc m_m_carries) 220 = .ok (.aload_n 0, 1) := by decide +kernel
theorem d_m_carries_221 : decode (ch_bc m_m_carries) 221 = .ok (.getfield 9, 3) := by decide +kernel
theorem d_m_carries_224 : decode (ch_bc m_m_carries) 224 = .ok (.iconst 0, 1) := by decide +kernel
theorem d_m_carries_225 : decode (ch_bc m_m_carries) 225 = .ok (.iaload, 1) := by decide +kernel
theorem d_m_carries_226 : decode (ch_bc m_m_carries) 226 = .ok (.ifCond .le 14, 3) := by decide +kernel
theorem d_m_carries_229 : decode (ch_bc m_m_carries) 229 = .ok (.aload_n 0, 1) := by decide +kernel
theorem d_m_carries_230 : decode (ch_bc m_m_carries) 230 = .ok (.aload_n 0, 1) := by decide +kernel
theorem d_m_carries_231 : decode (ch_bc m_m_carries) 231 = .ok (.invokevirtual 176, 3) := by decide +kernel
theorem d_m_carries_234 : decode (ch_bc m_m_carries) 234 = .ok (.invokevirtual 93, 3) := by decide +kernel
theorem d_m_carries_237 : decode (ch_bc m_m_carries) 237 = .ok (.goto 10, 3) := by decide +kernel
theorem d_m_carries_240 : decode (ch_bc m_m_carries) 240 = .ok (.aload_n 0, 1) := by decide +kernel
theorem d_m_carries_241 : decode (ch_bc m_m_carries) 241 = .ok (.bipush 13, 2) := by decide +kernel
theorem d_m_carries_243 : decode (ch_bc m_m_carries) 243 = .ok (.iconst 0, 1) := by decide +kernel
theorem d_m_carries_244 : decode (ch_bc m_m_carries) 244 = .ok (.invokevirtual 81, 3) := by decide +kernel
theorem d_m_carries_247 : decode (ch_bc m_m_carries) 247 = .ok (.ireturn, 1) := by decide +kernel
theorem d_m_commands_0 : decode (ch_bc m_m_commands) 0 = .ok (.aload_n 0, 1) := by decide +kernel
theorem d_m_commands_1 : decode (ch_bc m_m_commands) 1 = .ok (.invokevirtual 96, 3) := by decide +kernel
theorem d_m_commands_4 : decode (ch_bc m_m_commands) 4 = .ok (.aload_n 0, 1) := by decide +kernel
theorem d_m_commands_5 : decode (ch_bc m_m_commands) 5 = .ok (.iconst 0, 1) := by decide +kernel
theorem d_m_commands_6 : decode (ch_bc m_m_commands) 6 = .ok (.putfield 209, 3) := by decide +kernel
theorem d_m_commands_9 : decode (ch_bc m_m_commands) 9 = .ok (.aload_n 0, 1) := by decide +kernel
theorem d_m_commands_10 : decode (ch_bc m_m_commands) 10 = .ok (.iconst (-1), 1) := by decide +kernel
theorem d_m_commands_11 : decode (ch_bc m_m_commands) 11 = .ok (.putfield 35, 3) := by decide +kernel
theorem d_m_commands_14 : decode (ch_bc m_m_commands) 14 = .ok (.aload_n 0, 1) := by decide +kernel
theorem d_m_commands_15 : decode (ch_bc m_m_commands) 15 = .ok (.invokevirtual 233, 3) := by decide +kernel
theorem d_m_commands_18 : decode (ch_bc m_m_commands) 18 = .ok (.istore_n 1, 1) := by decide +kernel
theorem d_m_commands_19 : decode (ch_bc m_m_commands) 19 = .ok (.iload_n 1, 1) := by decide +kernel
theorem d_m_commands_20 : decode (ch_bc m_m_commands) 20 = .ok (.ifCond .eq 39, 3) := by decide +kernel
theorem d_m_commands_23 : decode (ch_bc m_m_commands) 23 = .ok (.aload_n 0, 1) := by decide +kernel
theorem d_m_commands_24 : decode (ch_bc m_m_commands) 24 = .ok (.getfield 209, 3) := by decide +kernel
theorem d_m_commands_27 : decode (ch_bc m_m_commands) 27 = .ok (.aload_n 0, 1) := by decide +kernel
theorem d_m_commands_28 : decode (ch_bc m_m_commands) 28 = .ok (.getfield 206, 3) := by decide +kernel
theorem d_m_commands_31 : decode (ch_bc m_m_commands) 31 = .ok (.if_icmp .ge 28, 3) := by decide +kernel
theorem d_m_commands_34 : decode (ch_bc m_m_commands) 34 = .ok (.aload_n 0, 1) := by decide +kernel
theorem d_m_commands_35 : decode (ch_bc m_m_commands) 35 = .ok (.bipush 59, 2) := by decide +kernel
theorem d_m_commands_37 : decode (ch_bc m_m_commands) 37 = .ok (.invokevirtual 226, 3) := by decide +kernel
theorem d_m_commands_40 : decode (ch_bc m_m_commands) 40 = .ok (.ifCond .eq 14, 3) := by decide +kernel
theorem d_m_commands_43 : decode (ch_bc m_m_commands) 43 = .ok (.aload_n 0, 1) := by decide +kernel
theorem d_m_commands_44 : decode (ch_bc m_m_commands) 44 = .ok (.invokevirtual 233, 3) := by decide +kernel
theorem d_m_commands_47 : decode (ch_bc m_m_commands) 47 = .ok (.ifCond .eq 7, 3) := by decide +kernel
theorem d_m_commands_50 : decode (ch_bc m_m_commands) 50 = .ok (.iconst 1, 1) := by decide +kernel
theorem d_m_commands_51 : decode (ch_bc m_m_commands) 51 = .ok (.goto 4, 3) := by decide +kernel
theorem d_m_commands_54 : decode (ch_bc m_m_commands) 54 = .ok (.iconst 0, 1) := by decide +kernel
theorem d_m_commands_55 : decode (ch_bc m_m_commands) 55 = .ok (.istore_n 1, 1) := by decide +kernel
theorem d_m_commands_56 : decode (ch_bc m_m_commands) 56 = .ok (.goto (-37), 3) := by decide +kernel
theorem d_m_commands_59 : decode (ch_bc m_m_commands) 59 = .ok (.iload_n 1, 1) := by decide +kernel
theorem d_m_commands_60 : decode (ch_bc m_m_commands) 60 = .ok (.ifCond .ne 22, 3) := by decide +kernel
theorem d_m_commands_63 : decode (ch_bc m_m_commands) 63 = .ok (.aload_n 0, 1) := by decide +kernel
theorem d_m_commands_64 : decode (ch_bc m_m_commands) 64 = .ok (.aload_n 0, 1) := by decide +kernel
theorem d_m_commands_65 : decode (ch_bc m_m_commands) 65 = .ok (.getfield 209, 3) := by decide +kernel
theorem d_m_commands_68 : decode (ch_bc m_m_commands) 68 = .ok (.putfield 35, 3) := by decide +kernel
theorem d_m_commands_71 : decode (ch_bc m_m_commands) 71 = .ok (.aload_n 0, 1) := by decide +kernel
theorem d_m_commands_72 : decode (ch_bc m_m_commands) 72 = .ok (.iconst 0, 1) := by decide +kernel
theorem d_m_commands_73 : decode (ch_bc m_m_commands) 73 = .ok (.putfield 206, 3) := by decide +kernel
theorem d_m_commands_76 : decode (ch_bc m_m_commands) 76 = .ok (.aload_n 0, 1) := by decide +kernel
theorem d_m_commands_77 : decode (ch_bc m_m_commands) 77 = .ok (.iconst 1, 1) := by decide +kernel
theorem d_m_commands_78 : decode (ch_bc m_m_commands) 78 = .ok (.invokevirtual 70, 3) := by decide +kernel
theorem d_m_commands_81 : decode (ch_bc m_m_commands) 81 = .ok (.ireturn, 1) := by decide +kernel
theorem d_m_commands_82 : decode (ch_bc m_m_commands) 82 = .ok (.aload_n 0, 1) := by decide +kernel
theorem d_m_commands_83 : decode (ch_bc m_m_commands) 83 = .ok (.iconst 0, 1) := by decide +kernel
theorem d_m_commands_84 : decode (ch_bc m_m_commands) 84 = .ok (.putfield 209, 3) := by decide +kernel
theorem d_m_commands_87 : decode (ch_bc m_m_commands) 87 = .ok (.iconst 0, 1) := by decide +kernel
theorem d_m_commands_88 : decode (ch_bc m_m_commands) 88 = .ok (.istore_n 2, 1) := by decide +kernel
theorem d_m_commands_89 : decode (ch_bc m_m_commands) 89 = .ok (.iconst 1, 1) := by decide +kernel
theorem d_m_commands_90 : decode (ch_bc m_m_commands) 90 = .ok (.istore_n 3, 1) := by decide +kernel
theorem d_m_commands_91 : decode (ch_bc m_m_commands) 91 = .ok (.iconst 1, 1) := by decide +kernel
theorem d_m_commands_92 : decode (ch_bc m_m_commands) 92 = .ok (.istore 4, 2) := by decide +kernel
theorem d_m_commands_94 : decode (ch_bc m_m_commands) 94 = .ok (.iload 4, 2) := by decide +kernel
theorem d_m_commands_96 : decode (ch_bc m_m_commands) 96 = .ok (.ifCond .eq 43, 3) := by decide +kernel
theorem d_m_commands_99 : decode (ch_bc m_m_commands) 99 = .ok (.aload_n 0, 1) := by decide +kernel
theorem d_m_commands_100 : decode (ch_bc m_m_commands) 100 = .ok (.invokevirtual 233, 3) := by decide +kernel
theorem d_m_commands_103 : decode (ch_bc m_m_commands) 103 = .ok (.istore_n 1, 1) := by decide +kernel
theorem d_m_commands_104 : decode (ch_bc m_m_commands) 104 = .ok (.aload_n 0, 1) := by decide +kernel
theorem d_m_commands_105 : decode (ch_bc m_m_commands) 105 = .ok (.invokevirtual 236, 3) := by decide +kernel
theorem d_m_commands_108 : decode (ch_bc m_m_commands) 108 = .ok (.istore_n 3, 1) := by decide +kernel
theorem d_m_commands_109 : decode (ch_bc m_m_commands) 109 = .ok (.iload_n 3, 1) := by decide +kernel
theorem d_m_commands_110 : decode (ch_bc m_m_commands) 110 = .ok (.ifCond .eq 6, 3) := by decide +kernel
theorem d_m_commands_113 : decode (ch_bc m_m_commands) 113 = .ok (.iinc 2 1, 3) := by decide +kernel
theorem d_m_commands_116 : decode (ch_bc m_m_commands) 116 = .ok (.iload_n 3, 1) := by decide +kernel
theorem d_m_commands_117 : decode (ch_bc m_m_commands) 117 = .ok (.ifCond .eq 16, 3) := by decide +kernel
theorem d_m_commands_120 : decode (ch_bc m_m_commands) 120 = .ok (.aload_n 0, 1) := by decide +kernel
theorem d_m_commands_121 : decode (ch_bc m_m_commands) 121 = .ok (.bipush 59, 2) := by decide +kernel
theorem d_m_commands_123 : decode (ch_bc m_m_commands) 123 = .ok (.invokevirtual 226, 3) := by decide +kernel
theorem d_m_commands_126 : decode (ch_bc m_m_commands) 126 = .ok (.ifCond .eq 7, 3) := by decide +kernel
theorem d_m_commands_129 : decode (ch_bc m_m_commands) 129 = .ok (.iconst 1, 1) := by decide +kernel
theorem d_m_commands_130 : decode (ch_bc m_m_commands) 130 = .ok (.goto 4, 3) := by decide +kernel
theorem d_m_commands_133 : decode (ch_bc m_m_commands) 133 = .ok (.iconst 0, 1) := by decide +kernel
theorem d_m_commands_134 : decode (ch_bc m_m_commands) 134 = .ok (.istore 4, 2) := by decide +kernel
theorem d_m_commands_136 : decode (ch_bc m_m_commands) 136 = .ok (.goto (-42), 3) := by decide +kernel
theorem d_m_commands_139 : decode (ch_bc m_m_commands) 139 = .ok (.aload_n 0, 1) := by decide +kernel
theorem d_m_commands_140 : decode (ch_bc m_m_commands) 140 = .ok (.iconst 0, 1) := by decide +kernel
theorem d_m_commands_141 : decode (ch_bc m_m_commands) 141 = .ok (.putfield 206, 3) := by decide +kernel
theorem d_m_commands_144 : decode (ch_bc m_m_commands) 144 = .ok (.iload_n 3, 1) := by decide +kernel
theorem d_m_commands_145 : decode (ch_bc m_m_commands) 145 = .ok (.ifCond .eq 9, 3) := by decide +kernel
theorem d_m_commands_148 : decode (ch_bc m_m_commands) 148 = .ok (.aload_n 0, 1) := by decide +kernel
theorem d_m_commands_149 : decode (ch_bc m_m_commands) 149 = .ok (.iload_n 2, 1) := by decide +kernel
theorem d_m_commands_150 : decode (ch_bc m_m_commands) 150 = .ok (.invokevirtual 66, 3) := by decide +kernel
theorem d_m_commands_153 : decode (ch_bc m_m_commands) 153 = .ok (.ireturn, 1) := by decide +kernel
theorem d_m_commands_154 : decode (ch_bc m_m_commands) 154 = .ok (.aload_n 0, 1) := by decide +kernel
theorem d_m_commands_155 : decode (ch_bc m_m_commands) 155 = .ok (.iload_n 2, 1) := by decide +kernel
theorem d_m_commands_156 : decode (ch_bc m_m_commands) 156 = .ok (.putfield 63, 3) := by decide +kernel
theorem d_m_commands_159 : decode (ch_bc m_m_commands) 159 = .ok (.iconst 0, 1) := by decide +kernel
theorem d_m_commands_160 : decode (ch_bc m_m_commands) 160 = .ok (.istore 5, 2) := by decide +kernel
theorem d_m_commands_162 : decode (ch_bc m_m_commands) 162 = .ok (.iload 5, 2) := by decide +kernel
theorem d_m_commands_164 : decode (ch_bc m_m_commands) 164 = .ok (.bipush 63, 2) := by decide +kernel
theorem d_m_commands_166 : decode (ch_bc m_m_commands) 166 = .ok (.if_icmp .ge 23, 3) := by decide +kernel
theorem d_m_commands_169 : decode (ch_bc m_m_commands) 169 = .ok (.aload_n 0, 1) := by decide +kernel
theorem d_m_commands_170 : decode (ch_bc m_m_commands) 170 = .ok (.getfield 9, 3) := by decide +kernel
theorem d_m_commands_173 : decode (ch_bc m_m_commands) 173 = .ok (.iload 5, 2) := by decide +kernel
theorem d_m_commands_175 : decode (ch_bc m_m_commands) 175 = .ok (.aload_n 0, 1) := by decide +kernel
theorem d_m_commands_176 : decode (ch_bc m_m_commands) 176 = .ok (.getfield 13, 3) := by decide +kernel
theorem d_m_commands_179 : decode (ch_bc m_m_commands) 179 = .ok (.iload 5, 2) := by decide +kernel
theorem d_m_commands_181 : decode (ch_bc m_m_commands) 181 = .ok (.iaload, 1) := by decide +kernel
theorem d_m_commands_182 : decode (ch_bc m_m_commands) 182 = .ok (.iastore, 1) := by decide +kernel
theorem d_m_commands_183 : decode (ch_bc m_m_commands) 183 = .ok (.iinc 5 1, 3) := by decide +kernel
theorem d_m_commands_186 : decode (ch_bc m_m_commands) 186 = .ok (.goto (-24), 3) := by decide +kernel
theorem d_m_commands_189 : decode (ch_bc m_m_commands) 189 = .ok (.aload_n 0, 1) := by decide +kernel
theorem d_m_commands_190 : decode (ch_bc m_m_commands) 190 = .ok (.iconst 2, 1) := by decide +kernel
theorem d_m_commands_191 : decode (ch_bc m_m_commands) 191 = .ok (.invokevirtual 70, 3) := by decide +kernel
theorem d_m_commands_194 : decode (ch_bc m_m_commands) 194 = .ok (.ireturn, 1) := by decide +kernel
theorem d_m_faultPosition_0 : decode (ch_bc m_m_faultPosition) 0 = .ok (.aload_n 0, 1) := by decide +kernel
theorem d_m_faultPosition_1 : decode (ch_bc m_m_faultPosition) 1 = .ok (.iconst 0, 1) := by decide +kernel
theorem d_m_faultPosition_2 : decode (ch_bc m_m_faultPosition) 2 = .ok (.putfield 48, 3) := by decide +kernel
theorem d_m_faultPosition_5 : decode (ch_bc m_m_faultPosition) 5 = .ok (.aload_n 0, 1) := by decide +kernel
theorem d_m_faultPosition_6 : decode (ch_bc m_m_faultPosition) 6 = .ok (.getfield 35, 3) := by decide +kernel
theorem d_m_faultPosition_9 : decode (ch_bc m_m_faultPosition) 9 = .ok (.ireturn, 1) := by decide +kernel
theorem d_m_reason_0 : decode (ch_bc m_m_reason) 0 = .ok (.aload_n 0, 1) := by decide +kernel
theorem d_m_reason_1 : decode (ch_bc m_m_reason) 1 = .ok (.iconst 0, 1) := by decide +kernel
theorem d_m_reason_2 : decode (ch_bc m_m_reason) 2 = .ok (.putfield 48, 3) := by decide +kernel
theorem d_m_reason_5 : decode (ch_bc m_m_reason) 5 = .ok (.iload_n 1, 1) := by decide +kernel
theorem d_m_reason_6 : decode (ch_bc m_m_reason) 6 = .ok (.iconst 0, 1) := by decide +kernel
theorem d_m_reason_7 : decode (ch_bc m_m_reason) 7 = .ok (.iconst 2, 1) := by decide +kernel
theorem d_m_reason_8 : decode (ch_bc m_m_reason) 8 = .ok (.invokestatic 73, 3) := by decide +kernel
theorem d_m_reason_11 : decode (ch_bc m_m_reason) 11 = .ok (.ifCond .ne 9, 3) := by decide +kernel
theorem d_m_reason_14 : decode (ch_bc m_m_reason) 14 = .ok (.aload_n 0, 1) := by decide +kernel
theorem d_m_reason_15 : decode (ch_bc m_m_reason) 15 = .ok (.iconst 1, 1) := by decide +kernel
theorem d_m_reason_16 : decode (ch_bc m_m_reason) 16 = .ok (.invokevirtual 70, 3) := by decide +kernel
theorem d_m_reason_19 : decode (ch_bc m_m_reason) 19 = .ok (.ireturn, 1) := by decide +kernel
theorem d_m_reason_20 : decode (ch_bc m_m_reason) 20 = .ok (.aload_n 0, 1) := by decide +kernel
theorem d_m_reason_21 : decode (ch_bc m_m_reason) 21 = .ok (.getfield 57, 3) := by decide +kernel
theorem d_m_reason_24 : decode (ch_bc m_m_reason) 24 = .ok (.ifCond .ne 9, 3) := by decide +kernel
theorem d_m_reason_27 : decode (ch_bc m_m_reason) 27 = .ok (.aload_n 0, 1) := by decide +kernel
theorem d_m_reason_28 : decode (ch_bc m_m_reason) 28 = .ok (.iconst 2, 1) := by decide +kernel
theorem d_m_reason_29 : decode (ch_bc m_m_reason) 29 = .ok (.invokevirtual 70, 3) := by decide +kernel
theorem d_m_reason_32 : decode (ch_bc m_m_reason) 32 = .ok (.ireturn, 1) := by decide +kernel
theorem d_m_reason_33 : decode (ch_bc m_m_reason) 33 = .ok (.iload_n 1, 1) := by decide +kernel
theorem d_m_reason_34 : decode (ch_bc m_m_reason) 34 = .ok (.ifCond .ne 10, 3) := by decide +kernel
theorem d_m_reason_37 : decode (ch_bc m_m_reason) 37 = .ok (.aload_n 0, 1) := by decide +kernel
theorem d_m_reason_38 : decode (ch_bc m_m_reason) 38 = .ok (.getfield 57, 3) := by decide +kernel
theorem d_m_reason_41 : decode (ch_bc m_m_reason) 41 = .ok (.goto 19, 3) := by decide +kernel
theorem d_m_reason_44 : decode (ch_bc m_m_reason) 44 = .ok (.iload_n 1, 1) := by decide +kernel
theorem d_m_reason_45 : decode (ch_bc m_m_reason) 45 = .ok (.iconst 1, 1) := by decide +kernel
theorem d_m_reason_46 : decode (ch_bc m_m_reason) 46 = .ok (.if_icmp .ne 10, 3) := by decide +kernel
theorem d_m_reason_49 : decode (ch_bc m_m_reason) 49 = .ok (.aload_n 0, 1) := by decide +kernel
theorem d_m_reason_50 : decode (ch_bc m_m_reason) 50 = .ok (.getfield 60, 3) := by decide +kernel
theorem d_m_reason_53 : decode (ch_bc m_m_reason) 53 = .ok (.goto 7, 3) := by decide +kernel
theorem d_m_reason_56 : decode (ch_bc m_m_reason) 56 = .ok (.aload_n 0, 1) := by decide +kernel
theorem d_m_reason_57 : decode (ch_bc m_m_reason) 57 = .ok (.getfield 63, 3) := by decide +kernel
theorem d_m_reason_60 : decode (ch_bc m_m_reason) 60 = .ok (.ireturn, 1) := by decide +kernel
theorem d_m_signs_0 : decode (ch_bc m_m_signs) 0 = .ok (.aload_n 0, 1) := by decide +kernel
theorem d_m_signs_1 : decode (ch_bc m_m_signs) 1 = .ok (.getfield 25, 3) := by decide +kernel
theorem d_m_signs_4 : decode (ch_bc m_m_signs) 4 = .ok (.aload_n 0, 1) := by decide +kernel
theorem d_m_signs_5 : decode (ch_bc m_m_signs) 5 = .ok (.dup, 1) := by decide +kernel
theorem d_m_signs_6 : decode (ch_bc m_m_signs) 6 = .ok (.getfield 239, 3) := by decide +kernel
theorem d_m_signs_9 : decode (ch_bc m_m_signs) 9 = .ok (.dup_x1, 1) := by decide +kernel
theorem d_m_signs_10 : decode (ch_bc m_m_signs) 10 = .ok (.iconst 1, 1) := by decide +kernel
theorem d_m_signs_11 : decode (ch_bc m_m_signs) 11 = .ok (.iadd, 1) := by decide +kernel
theorem d_m_signs_12 : decode (ch_bc m_m_signs) 12 = .ok (.putfield 239, 3) := by decide +kernel
theorem d_m_signs_15 : decode (ch_bc m_m_signs) 15 = .ok (.iload_n 1, 1) := by decide +kernel
theorem d_m_signs_16 : decode (ch_bc m_m_signs) 16 = .ok (.castore, 1) := by decide +kernel
theorem d_m_signs_17 : decode (ch_bc m_m_signs) 17 = .ok (.return_, 1) := by decide +kernel
theorem d_m_pairs_0 : decode (ch_bc m_m_pairs) 0 = .ok (.aload_n 0, 1) := by decide +kernel
theorem d_m_pairs_1 : decode (ch_bc m_m_pairs) 1 = .ok (.bipush 48, 2) := by decide +kernel
theorem d_m_pairs_3 : decode (ch_bc m_m_pairs) 3 = .ok (.iload_n 1, 1) := by decide +kernel
theorem d_m_pairs_4 : decode (ch_bc m_m_pairs) 4 = .ok (.iadd, 1) := by decide +kernel
theorem d_m_pairs_5 : decode (ch_bc m_m_pairs) 5 = .ok (.i2c, 1) := by decide +kernel
theorem d_m_pairs_6 : decode (ch_bc m_m_pairs) 6 = .ok (.invokevirtual 242, 3) := by decide +kernel
theorem d_m_pairs_9 : decode (ch_bc m_m_pairs) 9 = .ok (.aload_n 0, 1) := by decide +kernel
theorem d_m_pairs_10 : decode (ch_bc m_m_pairs) 10 = .ok (.iload_n 2, 1) := by decide +kernel
theorem d_m_pairs_11 : decode (ch_bc m_m_pairs) 11 = .ok (.invokevirtual 242, 3) := by decide +kernel
theorem d_m_pairs_14 : decode (ch_bc m_m_pairs) 14 = .ok (.aload_n 0, 1) := by decide +kernel
theorem d_m_pairs_15 : decode (ch_bc m_m_pairs) 15 = .ok (.bipush 48, 2) := by decide +kernel
theorem d_m_pairs_17 : decode (ch_bc m_m_pairs) 17 = .ok (.iload_n 3, 1) := by decide +kernel
theorem d_m_pairs_18 : decode (ch_bc m_m_pairs) 18 = .ok (.iadd, 1) := by decide +kernel
theorem d_m_pairs_19 : decode (ch_bc m_m_pairs) 19 = .ok (.i2c, 1) := by decide +kernel
theorem d_m_pairs_20 : decode (ch_bc m_m_pairs) 20 = .ok (.invokevirtual 242, 3) := by decide +kernel
theorem d_m_pairs_23 : decode (ch_bc m_m_pairs) 23 = .ok (.return_, 1) := by decide +kernel
theorem d_m_line_0 : decode (ch_bc m_m_line) 0 = .ok (.aload_n 0, 1) := by decide +kernel
theorem d_m_line_1 : decode (ch_bc m_m_line) 1 = .ok (.iconst 0, 1) := by decide +kernel
theorem d_m_line_2 : decode (ch_bc m_m_line) 2 = .ok (.putfield 48, 3) := by decide +kernel
theorem d_m_line_5 : decode (ch_bc m_m_line) 5 = .ok (.aload_n 0, 1) := by decide +kernel
theorem d_m_line_6 : decode (ch_bc m_m_line) 6 = .ok (.iconst 0, 1) := by decide +kernel
theorem d_m_line_7 : decode (ch_bc m_m_line) 7 = .ok (.putfield 239, 3) := by decide +kernel
theorem d_m_line_10 : decode (ch_bc m_m_line) 10 = .ok (.iconst 0, 1) := by decide +kernel
theorem d_m_line_11 : decode (ch_bc m_m_line) 11 = .ok (.istore_n 1, 1) := by decide +kernel
theorem d_m_line_12 : decode (ch_bc m_m_line) 12 = .ok (.iload_n 1, 1) := by decide +kernel
theorem d_m_line_13 : decode (ch_bc m_m_line) 13 = .ok (.bipush 12, 2) := by decide +kernel
theorem d_m_line_15 : decode (ch_bc m_m_line) 15 = .ok (.if_icmp .ge 52, 3) := by decide +kernel
theorem d_m_line_18 : decode (ch_bc m_m_line) 18 = .ok (.iload_n 1, 1) := by decide +kernel
theorem d_m_line_19 : decode (ch_bc m_m_line) 19 = .ok (.ifCond .le 9, 3) := by decide +kernel
theorem d_m_line_22 : decode (ch_bc m_m_line) 22 = .ok (.aload_n 0, 1) := by decide +kernel
theorem d_m_line_23 : decode (ch_bc m_m_line) 23 = .ok (.bipush 32, 2) := by decide +kernel
theorem d_m_line_25 : decode (ch_bc m_m_line) 25 = .ok (.invokevirtual 242, 3) := by decide +kernel
theorem d_m_line_28 : decode (ch_bc m_m_line) 28 = .ok (.aload_n 0, 1) := by decide +kernel
theorem d_m_line_29 : decode (ch_bc m_m_line) 29 = .ok (.iload_n 1, 1) := by decide +kernel
theorem d_m_line_30 : decode (ch_bc m_m_line) 30 = .ok (.invokevirtual 109, 3) := by decide +kernel
theorem d_m_line_33 : decode (ch_bc m_m_line) 33 = .ok (.ifCond .ge 12, 3) := by decide +kernel
theorem d_m_line_36 : decode (ch_bc m_m_line) 36 = .ok (.aload_n 0, 1) := by decide +kernel
theorem d_m_line_37 : decode (ch_bc m_m_line) 37 = .ok (.bipush 46, 2) := by decide +kernel
theorem d_m_line_39 : decode (ch_bc m_m_line) 39 = .ok (.invokevirtual 242, 3) := by decide +kernel
theorem d_m_line_42 : decode (ch_bc m_m_line) 42 = .ok (.goto 19, 3) := by decide +kernel
theorem d_m_line_45 : decode (ch_bc m_m_line) 45 = .ok (.aload_n 0, 1) := by decide +kernel
theorem d_m_line_46 : decode (ch_bc m_m_line) 46 = .ok (.aload_n 0, 1) := by decide +kernel
theorem d_m_line_47 : decode (ch_bc m_m_line) 47 = .ok (.iload_n 1, 1) := by decide +kernel
theorem d_m_line_48 : decode (ch_bc m_m_line) 48 = .ok (.invokevirtual 109, 3) := by decide +kernel
theorem d_m_line_51 : decode (ch_bc m_m_line) 51 = .ok (.bipush 47, 2) := by decide +kernel
theorem d_m_line_53 : decode (ch_bc m_m_line) 53 = .ok (.aload_n 0, 1) := by decide +kernel
theorem d_m_line_54 : decode (ch_bc m_m_line) 54 = .ok (.iload_n 1, 1) := by decide +kernel
theorem d_m_line_55 : decode (ch_bc m_m_line) 55 = .ok (.invokevirtual 112, 3) := by decide +kernel
theorem d_m_line_58 : decode (ch_bc m_m_line) 58 = .ok (.invokevirtual 246, 3) := by decide +kernel
theorem d_m_line_61 : decode (ch_bc m_m_line) 61 = .ok (.iinc 1 1, 3) := by decide +kernel
theorem d_m_line_64 : decode (ch_bc m_m_line) 64 = .ok (.goto (-52), 3) := by decide +kernel
theorem d_m_line_67 : decode (ch_bc m_m_line) 67 = .ok (.aload_n 0, 1) := by decide +kernel
theorem d_m_line_68 : decode (ch_bc m_m_line) 68 = .ok (.getfield 239, 3) := by decide +kernel
theorem d_m_line_71 : decode (ch_bc m_m_line) 71 = .ok (.ireturn, 1) := by decide +kernel
theorem d_m_warrants_0 : decode (ch_bc m_m_warrants) 0 = .ok (.aload_n 0, 1) := by decide +kernel
theorem d_m_warrants_1 : decode (ch_bc m_m_warrants) 1 = .ok (.iconst 0, 1) := by decide +kernel
theorem d_m_warrants_2 : decode (ch_bc m_m_warrants) 2 = .ok (.putfield 48, 3) := by decide +kernel
theorem d_m_warrants_5 : decode (ch_bc m_m_warrants) 5 = .ok (.aload_n 0, 1) := by decide +kernel
theorem d_m_warrants_6 : decode (ch_bc m_m_warrants) 6 = .ok (.iconst 0, 1) := by decide +kernel
theorem d_m_warrants_7 : decode (ch_bc m_m_warrants) 7 = .ok (.putfield 239, 3) := by decide +kernel
theorem d_m_warrants_10 : decode (ch_bc m_m_warrants) 10 = .ok (.iconst 0, 1) := by decide +kernel
theorem d_m_warrants_11 : decode (ch_bc m_m_warrants) 11 = .ok (.istore_n 1, 1) := by decide +kernel
theorem d_m_warrants_12 : decode (ch_bc m_m_warrants) 12 = .ok (.iload_n 1, 1) := by decide +kernel
theorem d_m_warrants_13 : decode (ch_bc m_m_warrants) 13 = .ok (.aload_n 0, 1) := by decide +kernel
theorem d_m_warrants_14 : decode (ch_bc m_m_warrants) 14 = .ok (.getfield 9, 3) := by decide +kernel
theorem d_m_warrants_17 : decode (ch_bc m_m_warrants) 17 = .ok (.bipush 8, 2) := by decide +kernel
theorem d_m_warrants_19 : decode (ch_bc m_m_warrants) 19 = .ok (.iaload, 1) := by decide +kernel
theorem d_m_warrants_20 : decode (ch_bc m_m_warrants) 20 = .ok (.if_icmp .ge 48, 3) := by decide +kernel
theorem d_m_warrants_23 : decode (ch_bc m_m_warrants) 23 = .ok (.iload_n 1, 1) := by decide +kernel
theorem d_m_warrants_24 : decode (ch_bc m_m_warrants) 24 = .ok (.ifCond .le 9, 3) := by decide +kernel
theorem d_m_warrants_27 : decode (ch_bc m_m_warrants) 27 = .ok (.aload_n 0, 1) := by decide +kernel
theorem d_m_warrants_28 : decode (ch_bc m_m_warrants) 28 = .ok (.bipush 32, 2) := by decide +kernel
theorem d_m_warrants_30 : decode (ch_bc m_m_warrants) 30 = .ok (.invokevirtual 242, 3) := by decide +kernel
theorem d_m_warrants_33 : decode (ch_bc m_m_warrants) 33 = .ok (.aload_n 0, 1) := by decide +kernel
theorem d_m_warrants_34 : decode (ch_bc m_m_warrants) 34 = .ok (.aload_n 0, 1) := by decide +kernel
theorem d_m_warrants_35 : decode (ch_bc m_m_warrants) 35 = .ok (.getfield 9, 3) := by decide +kernel
theorem d_m_warrants_38 : decode (ch_bc m_m_warrants) 38 = .ok (.bipush 9, 2) := by decide +kernel
theorem d_m_warrants_40 : decode (ch_bc m_m_warrants) 40 = .ok (.iload_n 1, 1) := by decide +kernel
theorem d_m_warrants_41 : decode (ch_bc m_m_warrants) 41 = .ok (.iadd, 1) := by decide +kernel
theorem d_m_warrants_42 : decode (ch_bc m_m_warrants) 42 = .ok (.iaload, 1) := by decide +kernel
theorem d_m_warrants_43 : decode (ch_bc m_m_warrants) 43 = .ok (.bipush 33, 2) := by decide +kernel
theorem d_m_warrants_45 : decode (ch_bc m_m_warrants) 45 = .ok (.aload_n 0, 1) := by decide +kernel
theorem d_m_warrants_46 : decode (ch_bc m_m_warrants) 46 = .ok (.aload_n 0, 1) := by decide +kernel
theorem d_m_warrants_47 : decode (ch_bc m_m_warrants) 47 = .ok (.getfield 9, 3) := by decide +kernel
theorem d_m_warrants_50 : decode (ch_bc m_m_warrants) 50 = .ok (.bipush 9, 2) := by decide +kernel
theorem d_m_warrants_52 : decode (ch_bc m_m_warrants) 52 = .ok (.iload_n 1, 1) := by decide +kernel
theorem d_m_warrants_53 : decode (ch_bc m_m_warrants) 53 = .ok (.iadd, 1) := by decide +kernel
theorem d_m_warrants_54 : decode (ch_bc m_m_warrants) 54 = .ok (.iaload, 1) := by decide +kernel
theorem d_m_warrants_55 : decode (ch_bc m_m_warrants) 55 = .ok (.iconst 2, 1) := by decide +kernel
theorem d_m_warrants_56 : decode (ch_bc m_m_warrants) 56 = .ok (.invokevirtual 85, 3) := by decide +kernel
theorem d_m_warrants_59 : decode (ch_bc m_m_warrants) 59 = .ok (.invokevirtual 246, 3) := by decide +kernel
theorem d_m_warrants_62 : decode (ch_bc m_m_warrants) 62 = .ok (.iinc 1 1, 3) := by decide +kernel
theorem d_m_warrants_65 : decode (ch_bc m_m_warrants) 65 = .ok (.goto (-53), 3) := by decide +kernel
theorem d_m_warrants_68 : decode (ch_bc m_m_warrants) 68 = .ok (.aload_n 0, 1) := by decide +kernel
theorem d_m_warrants_69 : decode (ch_bc m_m_warrants) 69 = .ok (.getfield 239, 3) := by decide +kernel
theorem d_m_warrants_72 : decode (ch_bc m_m_warrants) 72 = .ok (.ireturn, 1) := by decide +kernel
theorem d_m_character_0 : decode (ch_bc m_m_character) 0 = .ok (.aload_n 0, 1) := by decide +kernel
theorem d_m_character_1 : decode (ch_bc m_m_character) 1 = .ok (.iload_n 1, 1) := by decide +kernel
theorem d_m_character_2 : decode (ch_bc m_m_character) 2 = .ok (.iconst 0, 1) := by decide +kernel
theorem d_m_character_3 : decode (ch_bc m_m_character) 3 = .ok (.aload_n 0, 1) := by decide +kernel
theorem d_m_character_4 : decode (ch_bc m_m_character) 4 = .ok (.getfield 239, 3) := by decide +kernel
theorem d_m_character_7 : decode (ch_bc m_m_character) 7 = .ok (.iconst 1, 1) := by decide +kernel
theorem d_m_character_8 : decode (ch_bc m_m_character) 8 = .ok (.isub, 1) := by decide +kernel
theorem d_m_character_9 : decode (ch_bc m_m_character) 9 = .ok (.invokestatic 73, 3) := by decide +kernel
theorem d_m_character_12 : decode (ch_bc m_m_character) 12 = .ok (.ifCond .eq 7, 3) := by decide +kernel
theorem d_m_character_15 : decode (ch_bc m_m_character) 15 = .ok (.iconst 0, 1) := by decide +kernel
theorem d_m_character_16 : decode (ch_bc m_m_character) 16 = .ok (.goto 4, 3) := by decide +kernel
theorem d_m_character_19 : decode (ch_bc m_m_character) 19 = .ok (.iconst 1, 1) := by decide +kernel
theorem d_m_character_20 : decode (ch_bc m_m_character) 20 = .ok (.putfield 48, 3) := by decide +kernel
theorem d_m_character_23 : decode (ch_bc m_m_character) 23 = .ok (.aload_n 0, 1) := by decide +kernel
theorem d_m_character_24 : decode (ch_bc m_m_character) 24 = .ok (.getfield 48, 3) := by decide +kernel
theorem d_m_character_27 : decode (ch_bc m_m_character) 27 = .ok (.ifCond .ne 12, 3) := by decide +kernel
theorem d_m_character_30 : decode (ch_bc m_m_character) 30 = .ok (.aload_n 0, 1) := by decide +kernel
theorem d_m_character_31 : decode (ch_bc m_m_character) 31 = .ok (.getfield 25, 3) := by decide +kernel
theorem d_m_character_34 : decode (ch_bc m_m_character) 34 = .ok (.iload_n 1, 1) := by decide +kernel
theorem d_m_character_35 : decode (ch_bc m_m_character) 35 = .ok (.caload, 1) := by decide +kernel
theorem d_m_character_36 : decode (ch_bc m_m_character) 36 = .ok (.goto 5, 3) := by decide +kernel
theorem d_m_character_39 : decode (ch_bc m_m_character) 39 = .ok (.bipush 97, 2) := by decide +kernel
theorem d_m_character_41 : decode (ch_bc m_m_character) 41 = .ok (.ireturn, 1) := by decide +kernel
theorem d_m_meanChalk_0 : decode (ch_bc m_m_meanChalk) 0 = .ok (.aload_n 0, 1) := by decide +kernel
theorem d_m_meanChalk_1 : decode (ch_bc m_m_meanChalk) 1 = .ok (.iconst 0, 1) := by decide +kernel
theorem d_m_meanChalk_2 : decode (ch_bc m_m_meanChalk) 2 = .ok (.putfield 48, 3) := by decide +kernel
theorem d_m_meanChalk_5 : decode (ch_bc m_m_meanChalk) 5 = .ok (.iconst 0, 1) := by decide +kernel
theorem d_m_meanChalk_6 : decode (ch_bc m_m_meanChalk) 6 = .ok (.istore_n 1, 1) := by decide +kernel
theorem d_m_meanChalk_7 : decode (ch_bc m_m_meanChalk) 7 = .ok (.iconst 0, 1) := by decide +kernel
theorem d_m_meanChalk_8 : decode (ch_bc m_m_meanChalk) 8 = .ok (.istore_n 2, 1) := by decide +kernel
theorem d_m_meanChalk_9 : decode (ch_bc m_m_meanChalk) 9 = .ok (.iload_n 2, 1) := by decide +kernel
theorem d_m_meanChalk_10 : decode (ch_bc m_m_meanChalk) 10 = .ok (.bipush 12, 2) := by decide +kernel
theorem d_m_meanChalk_12 : decode (ch_bc m_m_meanChalk) 12 = .ok (.if_icmp .ge 17, 3) := by decide +kernel
theorem d_m_meanChalk_15 : decode (ch_bc m_m_meanChalk) 15 = .ok (.iload_n 1, 1) := by decide +kernel
theorem d_m_meanChalk_16 : decode (ch_bc m_m_meanChalk) 16 = .ok (.aload_n 0, 1) := by decide +kernel
theorem d_m_meanChalk_17 : decode (ch_bc m_m_meanChalk) 17 = .ok (.iload_n 2, 1) := by decide +kernel
theorem d_m_meanChalk_18 : decode (ch_bc m_m_meanChalk) 18 = .ok (.invokevirtual 112, 3) := by decide +kernel
theorem d_m_meanChalk_21 : decode (ch_bc m_m_meanChalk) 21 = .ok (.iadd, 1) := by decide +kernel
theorem d_m_meanChalk_22 : decode (ch_bc m_m_meanChalk) 22 = .ok (.istore_n 1, 1) := by decide +kernel
theorem d_m_meanChalk_23 : decode (ch_bc m_m_meanChalk) 23 = .ok (.iinc 2 1, 3) := by decide +kernel
theorem d_m_meanChalk_26 : decode (ch_bc m_m_meanChalk) 26 = .ok (.goto (-17), 3) := by decide +kernel
theorem d_m_meanChalk_29 : decode (ch_bc m_m_meanChalk) 29 = .ok (.aload_n 0, 1) := by decide +kernel
theorem d_m_meanChalk_30 : decode (ch_bc m_m_meanChalk) 30 = .ok (.invokevirtual 162, 3) := by decide +kernel
theorem d_m_meanChalk_33 : decode (ch_bc m_m_meanChalk) 33 = .ok (.ifCond .ne 12, 3) := by decide +kernel
theorem d_m_meanChalk_36 : decode (ch_bc m_m_meanChalk) 36 = .ok (.aload_n 0, 1) := by decide +kernel
theorem d_m_meanChalk_37 : decode (ch_bc m_m_meanChalk) 37 = .ok (.iconst 1, 1) := by decide +kernel
theorem d_m_meanChalk_38 : decode (ch_bc m_m_meanChalk) 38 = .ok (.invokevirtual 70, 3) := by decide +kernel
theorem d_m_meanChalk_41 : decode (ch_bc m_m_meanChalk) 41 = .ok (.i2d, 1) := by decide +kernel
theorem d_m_meanChalk_42 : decode (ch_bc m_m_meanChalk) 42 = .ok (.goto 11, 3) := by decide +kernel
theorem d_m_meanChalk_45 : decode (ch_bc m_m_meanChalk) 45 = .ok (.iload_n 1, 1) := by decide +kernel
theorem d_m_meanChalk_46 : decode (ch_bc m_m_meanChalk) 46 = .ok (.i2d, 1) := by decide +kernel
theorem d_m_meanChalk_47 : decode (ch_bc m_m_meanChalk) 47 = .ok (.aload_n 0, 1) := by decide +kernel
theorem d_m_meanChalk_48 : decode (ch_bc m_m_meanChalk) 48 = .ok (.invokevirtual 162, 3) := by decide +kernel
theorem d_m_meanChalk_51 : decode (ch_bc m_m_meanChalk) 51 = .ok (.i2d, 1) := by decide +kernel
theorem d_m_meanChalk_52 : decode (ch_bc m_m_meanChalk) 52 = .ok (.ddiv, 1) := by decide +kernel
theorem d_m_meanChalk_53 : decode (ch_bc m_m_meanChalk) 53 = .ok (.dreturn, 1) := by decide +kernel
theorem d_m_ownedShare_0 : decode (ch_bc m_m_ownedShare) 0 = .ok (.aload_n 0, 1) := by decide +kernel
theorem d_m_ownedShare_1 : decode (ch_bc m_m_ownedShare) 1 = .ok (.iconst 0, 1) := by decide +kernel
theorem d_m_ownedShare_2 : decode (ch_bc m_m_ownedShare) 2 = .ok (.putfield 48, 3) := by decide +kernel
theorem d_m_ownedShare_5 : decode (ch_bc m_m_ownedShare) 5 = .ok (.aload_n 0, 1) := by decide +kernel
theorem d_m_ownedShare_6 : decode (ch_bc m_m_ownedShare) 6 = .ok (.invokevirtual 162, 3) := by decide +kernel
theorem d_m_ownedShare_9 : decode (ch_bc m_m_ownedShare) 9 = .ok (.i2f, 1) := by decide +kernel
theorem d_m_ownedShare_10 : decode (ch_bc m_m_ownedShare) 10 = .ok (.ldc 250, 2) := by decide +kernel
theorem d_m_ownedShare_12 : decode (ch_bc m_m_ownedShare) 12 = .ok (.fdiv, 1) := by decide +kernel
theorem d_m_ownedShare_13 : decode (ch_bc m_m_ownedShare) 13 = .ok (.freturn, 1) := by decide +kernel
theorem d_m_account_0 : decode (ch_bc m_m_account) 0 = .ok (.aload_n 0, 1) := by decide +kernel
theorem d_m_account_1 : decode (ch_bc m_m_account) 1 = .ok (.iconst 0, 1) := by decide +kernel
theorem d_m_account_2 : decode (ch_bc m_m_account) 2 = .ok (.putfield 48, 3) := by decide +kernel
theorem d_m_account_5 : decode (ch_bc m_m_account) 5 = .ok (.iconst 0, 1) := by decide +kernel
theorem d_m_account_6 : decode (ch_bc m_m_account) 6 = .ok (.istore_n 2, 1) := by decide +kernel
theorem d_m_account_7 : decode (ch_bc m_m_account) 7 = .ok (.iload_n 1, 1) := by decide +kernel
theorem d_m_account_8 : decode (ch_bc m_m_account) 8 = .ok (.tableswitch 167 0 11 #[64, 71, 100, 107, 112, 120, 127, 134, 141, 149, 157, 162], 64) := by decide +kernel
theorem d_m_account_72 : decode (ch_bc m_m_account) 72 = .ok (.aload_n 0, 1) := by decide +kernel
theorem d_m_account_73 : decode (ch_bc m_m_account) 73 = .ok (.getfield 9, 3) := by decide +kernel
theorem d_m_account_76 : decode (ch_bc m_m_account) 76 = .ok (.iconst 0, 1) := by decide +kernel
theorem d_m_account_77 : decode (ch_bc m_m_account) 77 = .ok (.iaload, 1) := by decide +kernel
theorem d_m_account_78 : decode (ch_bc m_m_account) 78 = .ok (.ireturn, 1) := by decide +kernel
theorem d_m_account_79 : decode (ch_bc m_m_account) 79 = .ok (.iconst 0, 1) := by decide +kernel
theorem d_m_account_80 : decode (ch_bc m_m_account) 80 = .ok (.istore_n 3, 1) := by decide +kernel
theorem d_m_account_81 : decode (ch_bc m_m_account) 81 = .ok (.iload_n 3, 1) := by decide +kernel
theorem d_m_account_82 : decode (ch_bc m_m_account) 82 = .ok (.aload_n 0, 1) := by decide +kernel
theorem d_m_account_83 : decode (ch_bc m_m_account) 83 = .ok (.getfield 9, 3) := by decide +kernel
theorem d_m_account_86 : decode (ch_bc m_m_account) 86 = .ok (.iconst 0, 1) := by decide +kernel
theorem d_m_account_87 : decode (ch_bc m_m_account) 87 = .ok (.iaload, 1) := by decide +kernel
theorem d_m_account_88 : decode (ch_bc m_m_account) 88 = .ok (.if_icmp .ge 18, 3) := by decide +kernel
theorem d_m_account_91 : decode (ch_bc m_m_account) 91 = .ok (.iload_n 2, 1) := by decide +kernel
theorem d_m_account_92 : decode (ch_bc m_m_account) 92 = .ok (.aload_n 0, 1) := by decide +kernel
theorem d_m_account_93 : decode (ch_bc m_m_account) 93 = .ok (.iload_n 3, 1) := by decide +kernel
theorem d_m_account_94 : decode (ch_bc m_m_account) 94 = .ok (.iconst 0, 1) := by decide +kernel
theorem d_m_account_95 : decode (ch_bc m_m_account) 95 = .ok (.invokevirtual 85, 3) := by decide +kernel
theorem d_m_account_98 : decode (ch_bc m_m_account) 98 = .ok (.iadd, 1) := by decide +kernel
theorem d_m_account_99 : decode (ch_bc m_m_account) 99 = .ok (.istore_n 2, 1) := by decide +kernel
theorem d_m_account_100 : decode (ch_bc m_m_account) 100 = .ok (.iinc 3 1, 3) := by decide +kernel
theorem d_m_account_103 : decode (ch_bc m_m_account) 103 = .ok (.goto (-22), 3) := by decide +kernel
theorem d_m_account_106 : decode (ch_bc m_m_account) 106 = .ok (.iload_n 2, 1) := by decide +kernel
theorem d_m_account_107 : decode (ch_bc m_m_account) 107 = .ok (.ireturn, 1) := by decide +kernel
theorem d_m_account_108 : decode (ch_bc m_m_account) 108 = .ok (.aload_n 0, 1) := by decide +kernel
theorem d_m_account_109 : decode (ch_bc m_m_account) 109 = .ok (.getfield 9, 3) := by decide +kernel
theorem d_m_account_112 : decode (ch_bc m_m_account) 112 = .ok (.iconst 1, 1) := by decide +kernel
theorem d_m_account_113 : decode (ch_bc m_m_account) 113 = .ok (.iaload, 1) := by decide +kernel
theorem d_m_account_114 : decode (ch_bc m_m_account) 114 = .ok (.ireturn, 1) := by decide +kernel
theorem d_m_account_115 : decode (ch_bc m_m_account) 115 = .ok (.aload_n 0, 1) := by decide +kernel
theorem d_m_account_116 : decode (ch_bc m_m_account) 116 = .ok (.invokevirtual 162, 3) := by decide +kernel
theorem d_m_account_119 : decode (ch_bc m_m_account) 119 = .ok (.ireturn, 1) := by decide +kernel
theorem d_m_account_120 : decode (ch_bc m_m_account) 120 = .ok (.aload_n 0, 1) := by decide +kernel
theorem d_m_account_121 : decode (ch_bc m_m_account) 121 = .ok (.getfield 9, 3) := by decide +kernel
theorem d_m_account_124 : decode (ch_bc m_m_account) 124 = .ok (.bipush 8, 2) := by decide +kernel
theorem d_m_account_126 : decode (ch_bc m_m_account) 126 = .ok (.iaload, 1) := by decide +kernel
theorem d_m_account_127 : decode (ch_bc m_m_account) 127 = .ok (.ireturn, 1) := by decide +kernel
theorem d_m_account_128 : decode (ch_bc m_m_account) 128 = .ok (.aload_n 0, 1) := by decide +kernel
theorem d_m_account_129 : decode (ch_bc m_m_account) 129 = .ok (.getfield 9, 3) := by decide +kernel
theorem d_m_account_132 : decode (ch_bc m_m_account) 132 = .ok (.iconst 3, 1) := by decide +kernel
theorem d_m_account_133 : decode (ch_bc m_m_account) 133 = .ok (.iaload, 1) := by decide +kernel
theorem d_m_account_134 : decode (ch_bc m_m_account) 134 = .ok (.ireturn, 1) := by decide +kernel
theorem d_m_account_135 : decode (ch_bc m_m_account) 135 = .ok (.aload_n 0, 1) := by decide +kernel
theorem d_m_account_136 : decode (ch_bc m_m_account) 136 = .ok (.getfield 9, 3) := by decide +kernel
theorem d_m_account_139 : decode (ch_bc m_m_account) 139 = .ok (.iconst 4, 1) := by decide +kernel
theorem d_m_account_140 : decode (ch_bc m_m_account) 140 = .ok (.iaload, 1) := by decide +kernel
theorem d_m_account_141 : decode (ch_bc m_m_account) 141 = .ok (.ireturn, 1) := by decide +kernel
theorem d_m_account_142 : decode (ch_bc m_m_account) 142 = .ok (.aload_n 0, 1) := by decide +kernel
theorem d_m_account_143 : decode (ch_bc m_m_account) 143 = .ok (.getfield 9, 3) := by decide +kernel
theorem d_m_account_146 : decode (ch_bc m_m_account) 146 = .ok (.iconst 5, 1) := by decide +kernel
theorem d_m_account_147 : decode (ch_bc m_m_account) 147 = .ok (.iaload, 1) := by decide +kernel
theorem d_m_account_148 : decode (ch_bc m_m_account) 148 = .ok (.ireturn, 1) := by decide +kernel
theorem d_m_account_149 : decode (ch_bc m_m_account) 149 = .ok (.aload_n 0, 1) := by decide +kernel
theorem d_m_account_150 : decode (ch_bc m_m_account) 150 = .ok (.getfield 9, 3) := by decide +kernel
theorem d_m_account_153 : decode (ch_bc m_m_account) 153 = .ok (.bipush 6, 2) := by decide +kernel
theorem d_m_account_155 : decode (ch_bc m_m_account) 155 = .ok (.iaload, 1) := by decide +kernel
theorem d_m_account_156 : decode (ch_bc m_m_account) 156 = .ok (.ireturn, 1) := by decide +kernel
theorem d_m_account_157 : decode (ch_bc m_m_account) 157 = .ok (.aload_n 0, 1) := by decide +kernel
theorem d_m_account_158 : decode (ch_bc m_m_account) 158 = .ok (.getfield 9, 3) := by decide +kernel
theorem d_m_account_161 : decode (ch_bc m_m_account) 161 = .ok (.bipush 7, 2) := by decide +kernel
theorem d_m_account_163 : decode (ch_bc m_m_account) 163 = .ok (.iaload, 1) := by decide +kernel
theorem d_m_account_164 : decode (ch_bc m_m_account) 164 = .ok (.ireturn, 1) := by decide +kernel
theorem d_m_account_165 : decode (ch_bc m_m_account) 165 = .ok (.aload_n 0, 1) := by decide +kernel
theorem d_m_account_166 : decode (ch_bc m_m_account) 166 = .ok (.getfield 51, 3) := by decide +kernel
theorem d_m_account_169 : decode (ch_bc m_m_account) 169 = .ok (.ireturn, 1) := by decide +kernel
theorem d_m_account_170 : decode (ch_bc m_m_account) 170 = .ok (.aload_n 0, 1) := by decide +kernel
theorem d_m_account_171 : decode (ch_bc m_m_account) 171 = .ok (.getfield 206, 3) := by decide +kernel
theorem d_m_account_174 : decode (ch_bc m_m_account) 174 = .ok (.ireturn, 1) := by decide +kernel
theorem d_m_account_175 : decode (ch_bc m_m_account) 175 = .ok (.aload_n 0, 1) := by decide +kernel
theorem d_m_account_176 : decode (ch_bc m_m_account) 176 = .ok (.iconst 1, 1) := by decide +kernel
theorem d_m_account_177 : decode (ch_bc m_m_account) 177 = .ok (.invokevirtual 70, 3) := by decide +kernel
theorem d_m_account_180 : decode (ch_bc m_m_account) 180 = .ok (.ireturn, 1) := by decide +kernel
theorem d_m_undo_0 : decode (ch_bc m_m_undo) 0 = .ok (.aload_n 0, 1) := by decide +kernel
theorem d_m_undo_1 : decode (ch_bc m_m_undo) 1 = .ok (.iconst 0, 1) := by decide +kernel
theorem d_m_undo_2 : decode (ch_bc m_m_undo) 2 = .ok (.putfield 48, 3) := by decide +kernel
theorem d_m_undo_5 : decode (ch_bc m_m_undo) 5 = .ok (.aload_n 0, 1) := by decide +kernel
theorem d_m_undo_6 : decode (ch_bc m_m_undo) 6 = .ok (.getfield 51, 3) := by decide +kernel
theorem d_m_undo_9 : decode (ch_bc m_m_undo) 9 = .ok (.ifCond .ne 9, 3) := by decide +kernel
theorem d_m_undo_12 : decode (ch_bc m_m_undo) 12 = .ok (.aload_n 0, 1) := by decide +kernel
theorem d_m_undo_13 : decode (ch_bc m_m_undo) 13 = .ok (.iconst 1, 1) := by decide +kernel
theorem d_m_undo_14 : decode (ch_bc m_m_undo) 14 = .ok (.invokevirtual 70, 3) := by decide +kernel
theorem d_m_undo_17 : decode (ch_bc m_m_undo) 17 = .ok (.ireturn, 1) := by decide +kernel
theorem d_m_undo_18 : decode (ch_bc m_m_undo) 18 = .ok (.aload_n 0, 1) := by decide +kernel
theorem d_m_undo_19 : decode (ch_bc m_m_undo) 19 = .ok (.dup, 1) := by decide +kernel
theorem d_m_undo_20 : decode (ch_bc m_m_undo) 20 = .ok (.getfield 51, 3) := by decide +kernel
theorem d_m_undo_23 : decode (ch_bc m_m_undo) 23 = .ok (.iconst 1, 1) := by decide +kernel
theorem d_m_undo_24 : decode (ch_bc m_m_undo) 24 = .ok (.isub, 1) := by decide +kernel
theorem d_m_undo_25 : decode (ch_bc m_m_undo) 25 = .ok (.putfield 51, 3) := by decide +kernel
theorem d_m_undo_28 : decode (ch_bc m_m_undo) 28 = .ok (.iconst 0, 1) := by decide +kernel
theorem d_m_undo_29 : decode (ch_bc m_m_undo) 29 = .ok (.istore_n 1, 1) := by decide +kernel
theorem d_m_undo_30 : decode (ch_bc m_m_undo) 30 = .ok (.iload_n 1, 1) := by decide +kernel
theorem d_m_undo_31 : decode (ch_bc m_m_undo) 31 = .ok (.bipush 63, 2) := by decide +kernel
theorem d_m_undo_33 : decode (ch_bc m_m_undo) 33 = .ok (.if_icmp .ge 29, 3) := by decide +kernel
theorem d_m_undo_36 : decode (ch_bc m_m_undo) 36 = .ok (.aload_n 0, 1) := by decide +kernel
theorem d_m_undo_37 : decode (ch_bc m_m_undo) 37 = .ok (.getfield 9, 3) := by decide +kernel
theorem d_m_undo_40 : decode (ch_bc m_m_undo) 40 = .ok (.iload_n 1, 1) := by decide +kernel
theorem d_m_undo_41 : decode (ch_bc m_m_undo) 41 = .ok (.aload_n 0, 1) := by decide +kernel
theorem d_m_undo_42 : decode (ch_bc m_m_undo) 42 = .ok (.getfield 19, 3) := by decide +kernel
theorem d_m_undo_45 : decode (ch_bc m_m_undo) 45 = .ok (.bipush 63, 2) := by decide +kernel
theorem d_m_undo_47 : decode (ch_bc m_m_undo) 47 = .ok (.aload_n 0, 1) := by decide +kernel
theorem d_m_undo_48 : decode (ch_bc m_m_undo) 48 = .ok (.getfield 51, 3) := by decide +kernel
theorem d_m_undo_51 : decode (ch_bc m_m_undo) 51 = .ok (.imul, 1) := by decide +kernel
theorem d_m_undo_52 : decode (ch_bc m_m_undo) 52 = .ok (.iload_n 1, 1) := by decide +kernel
theorem d_m_undo_53 : decode (ch_bc m_m_undo) 53 = .ok (.iadd, 1) := by decide +kernel
theorem d_m_undo_54 : decode (ch_bc m_m_undo) 54 = .ok (.iaload, 1) := by decide +kernel
theorem d_m_undo_55 : decode (ch_bc m_m_undo) 55 = .ok (.iastore, 1) := by decide +kernel
theorem d_m_undo_56 : decode (ch_bc m_m_undo) 56 = .ok (.iinc 1 1, 3) := by decide +kernel
theorem d_m_undo_59 : decode (ch_bc m_m_undo) 59 = .ok (.goto (-29), 3) := by decide +kernel
theorem d_m_undo_62 : decode (ch_bc m_m_undo) 62 = .ok (.aload_n 0, 1) := by decide +kernel
theorem d_m_undo_63 : decode (ch_bc m_m_undo) 63 = .ok (.getfield 51, 3) := by decide +kernel
theorem d_m_undo_66 : decode (ch_bc m_m_undo) 66 = .ok (.ireturn, 1) := by decide +kernel
theorem d_m_save_0 : decode (ch_bc m_m_save) 0 = .ok (.aload_n 0, 1) := by decide +kernel
theorem d_m_save_1 : decode (ch_bc m_m_save) 1 = .ok (.iconst 0, 1) := by decide +kernel
theorem d_m_save_2 : decode (ch_bc m_m_save) 2 = .ok (.putfield 48, 3) := by decide +kernel
theorem d_m_save_5 : decode (ch_bc m_m_save) 5 = .ok (.aload_n 0, 1) := by decide +kernel
theorem d_m_save_6 : decode (ch_bc m_m_save) 6 = .ok (.iconst 1, 1) := by decide +kernel
theorem d_m_save_7 : decode (ch_bc m_m_save) 7 = .ok (.putfield 251, 3) := by decide +kernel
theorem d_m_save_10 : decode (ch_bc m_m_save) 10 = .ok (.iconst 0, 1) := by decide +kernel
theorem d_m_save_11 : decode (ch_bc m_m_save) 11 = .ok (.istore_n 1, 1) := by decide +kernel
theorem d_m_save_12 : decode (ch_bc m_m_save) 12 = .ok (.iload_n 1, 1) := by decide +kernel
theorem d_m_save_13 : decode (ch_bc m_m_save) 13 = .ok (.bipush 63, 2) := by decide +kernel
theorem d_m_save_15 : decode (ch_bc m_m_save) 15 = .ok (.if_icmp .ge 21, 3) := by decide +kernel
theorem d_m_save_18 : decode (ch_bc m_m_save) 18 = .ok (.aload_n 0, 1) := by decide +kernel
theorem d_m_save_19 : decode (ch_bc m_m_save) 19 = .ok (.getfield 22, 3) := by decide +kernel
theorem d_m_save_22 : decode (ch_bc m_m_save) 22 = .ok (.iload_n 1, 1) := by decide +kernel
theorem d_m_save_23 : decode (ch_bc m_m_save) 23 = .ok (.aload_n 0, 1) := by decide +kernel
theorem d_m_save_24 : decode (ch_bc m_m_save) 24 = .ok (.getfield 9, 3) := by decide +kernel
theorem d_m_save_27 : decode (ch_bc m_m_save) 27 = .ok (.iload_n 1, 1) := by decide +kernel
theorem d_m_save_28 : decode (ch_bc m_m_save) 28 = .ok (.iaload, 1) := by decide +kernel
theorem d_m_save_29 : decode (ch_bc m_m_save) 29 = .ok (.iastore, 1) := by decide +kernel
theorem d_m_save_30 : decode (ch_bc m_m_save) 30 = .ok (.iinc 1 1, 3) := by decide +kernel
theorem d_m_save_33 : decode (ch_bc m_m_save) 33 = .ok (.goto (-21), 3) := by decide +kernel
theorem d_m_save_36 : decode (ch_bc m_m_save) 36 = .ok (.aload_n 0, 1) := by decide +kernel
theorem d_m_save_37 : decode (ch_bc m_m_save) 37 = .ok (.getfield 9, 3) := by decide +kernel
theorem d_m_save_40 : decode (ch_bc m_m_save) 40 = .ok (.iconst 0, 1) := by decide +kernel
theorem d_m_save_41 : decode (ch_bc m_m_save) 41 = .ok (.iaload, 1) := by decide +kernel
theorem d_m_save_42 : decode (ch_bc m_m_save) 42 = .ok (.ireturn, 1) := by decide +kernel
theorem d_m_restore_0 : decode (ch_bc m_m_restore) 0 = .ok (.aload_n 0, 1) := by decide +kernel
theorem d_m_restore_1 : decode (ch_bc m_m_restore) 1 = .ok (.iconst 0, 1) := by decide +kernel
theorem d_m_restore_2 : decode (ch_bc m_m_restore) 2 = .ok (.putfield 48, 3) := by decide +kernel
theorem d_m_restore_5 : decode (ch_bc m_m_restore) 5 = .ok (.aload_n 0, 1) := by decide +kernel
theorem d_m_restore_6 : decode (ch_bc m_m_restore) 6 = .ok (.getfield 251, 3) := by decide +kernel
theorem d_m_restore_9 : decode (ch_bc m_m_restore) 9 = .ok (.ifCond .ne 9, 3) := by decide +kernel
theorem d_m_restore_12 : decode (ch_bc m_m_restore) 12 = .ok (.aload_n 0, 1) := by decide +kernel
theorem d_m_restore_13 : decode (ch_bc m_m_restore) 13 = .ok (.iconst 1, 1) := by decide +kernel
theorem d_m_restore_14 : decode (ch_bc m_m_restore) 14 = .ok (.invokevirtual 70, 3) := by decide +kernel
theorem d_m_restore_17 : decode (ch_bc m_m_restore) 17 = .ok (.ireturn, 1) := by decide +kernel
theorem d_m_restore_18 : decode (ch_bc m_m_restore) 18 = .ok (.iconst 0, 1) := by decide +kernel
theorem d_m_restore_19 : decode (ch_bc m_m_restore) 19 = .ok (.istore_n 1, 1) := by decide +kernel
theorem d_m_restore_20 : decode (ch_bc m_m_restore) 20 = .ok (.iload_n 1, 1) := by decide +kernel
theorem d_m_restore_21 : decode (ch_bc m_m_restore) 21 = .ok (.bipush 63, 2) := by decide +kernel
theorem d_m_restore_23 : decode (ch_bc m_m_restore) 23 = .ok (.if_icmp .ge 21, 3) := by decide +kernel
theorem d_m_restore_26 : decode (ch_bc m_m_restore) 26 = .ok (.aload_n 0, 1) := by decide +kernel
theorem d_m_restore_27 : decode (ch_bc m_m_restore) 27 = .ok (.getfield 9, 3) := by decide +kernel
theorem d_m_restore_30 : decode (ch_bc m_m_restore) 30 = .ok (.iload_n 1, 1) := by decide +kernel
theorem d_m_restore_31 : decode (ch_bc m_m_restore) 31 = .ok (.aload_n 0, 1) := by decide +kernel
theorem d_m_restore_32 : decode (ch_bc m_m_restore) 32 = .ok (.getfield 22, 3) := by decide +kernel
theorem d_m_restore_35 : decode (ch_bc m_m_restore) 35 = .ok (.iload_n 1, 1) := by decide +kernel
theorem d_m_restore_36 : decode (ch_bc m_m_restore) 36 = .ok (.iaload, 1) := by decide +kernel
theorem d_m_restore_37 : decode (ch_bc m_m_restore) 37 = .ok (.iastore, 1) := by decide +kernel
theorem d_m_restore_38 : decode (ch_bc m_m_restore) 38 = .ok (.iinc 1 1, 3) := by decide +kernel
theorem d_m_restore_41 : decode (ch_bc m_m_restore) 41 = .ok (.goto (-21), 3) := by decide +kernel
theorem d_m_restore_44 : decode (ch_bc m_m_restore) 44 = .ok (.aload_n 0, 1) := by decide +kernel
theorem d_m_restore_45 : decode (ch_bc m_m_restore) 45 = .ok (.iconst 0, 1) := by decide +kernel
theorem d_m_restore_46 : decode (ch_bc m_m_restore) 46 = .ok (.putfield 51, 3) := by decide +kernel
theorem d_m_restore_49 : decode (ch_bc m_m_restore) 49 = .ok (.aload_n 0, 1) := by decide +kernel
theorem d_m_restore_50 : decode (ch_bc m_m_restore) 50 = .ok (.getfield 9, 3) := by decide +kernel
theorem d_m_restore_53 : decode (ch_bc m_m_restore) 53 = .ok (.iconst 0, 1) := by decide +kernel
theorem d_m_restore_54 : decode (ch_bc m_m_restore) 54 = .ok (.iaload, 1) := by decide +kernel
theorem d_m_restore_55 : decode (ch_bc m_m_restore) 55 = .ok (.ireturn, 1) := by decide +kernel
