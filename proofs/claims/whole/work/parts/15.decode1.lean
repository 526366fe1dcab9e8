theorem d_m_hops_98 : decode (ch_bc m_m_hops) 98 = .ok (.aload_n 0, 1) := by decide +kernel
theorem d_m_hops_99 : decode (ch_bc m_m_hops) 99 = .ok (.iload_n 3, 1) := by decide +kernel
theorem d_m_hops_100 : decode (ch_bc m_m_hops) 100 = .ok (.invokevirtual 112, 3) := by decide +kernel
theorem d_m_hops_103 : decode (ch_bc m_m_hops) 103 = .ok (.ifCond .ne 8, 3) := by decide +kernel
theorem d_m_hops_106 : decode (ch_bc m_m_hops) 106 = .ok (.aload_n 0, 1) := by decide +kernel
theorem d_m_hops_107 : decode (ch_bc m_m_hops) 107 = .ok (.iload_n 3, 1) := by decide +kernel
theorem d_m_hops_108 : decode (ch_bc m_m_hops) 108 = .ok (.invokevirtual 140, 3) := by decide +kernel
theorem d_m_hops_111 : decode (ch_bc m_m_hops) 111 = .ok (.iinc 4 1, 3) := by decide +kernel
theorem d_m_hops_114 : decode (ch_bc m_m_hops) 114 = .ok (.goto (-89), 3) := by decide +kernel
theorem d_m_hops_117 : decode (ch_bc m_m_hops) 117 = .ok (.aload_n 0, 1) := by decide +kernel
theorem d_m_hops_118 : decode (ch_bc m_m_hops) 118 = .ok (.iload_n 1, 1) := by decide +kernel
theorem d_m_hops_119 : decode (ch_bc m_m_hops) 119 = .ok (.iconst 1, 1) := by decide +kernel
theorem d_m_hops_120 : decode (ch_bc m_m_hops) 120 = .ok (.aload_n 0, 1) := by decide +kernel
theorem d_m_hops_121 : decode (ch_bc m_m_hops) 121 = .ok (.iload_n 1, 1) := by decide +kernel
theorem d_m_hops_122 : decode (ch_bc m_m_hops) 122 = .ok (.iconst 1, 1) := by decide +kernel
theorem d_m_hops_123 : decode (ch_bc m_m_hops) 123 = .ok (.invokevirtual 85, 3) := by decide +kernel
theorem d_m_hops_126 : decode (ch_bc m_m_hops) 126 = .ok (.iload_n 2, 1) := by decide +kernel
theorem d_m_hops_127 : decode (ch_bc m_m_hops) 127 = .ok (.iadd, 1) := by decide +kernel
theorem d_m_hops_128 : decode (ch_bc m_m_hops) 128 = .ok (.invokevirtual 89, 3) := by decide +kernel
theorem d_m_hops_131 : decode (ch_bc m_m_hops) 131 = .ok (.aload_n 0, 1) := by decide +kernel
theorem d_m_hops_132 : decode (ch_bc m_m_hops) 132 = .ok (.iload_n 1, 1) := by decide +kernel
theorem d_m_hops_133 : decode (ch_bc m_m_hops) 133 = .ok (.iconst 3, 1) := by decide +kernel
theorem d_m_hops_134 : decode (ch_bc m_m_hops) 134 = .ok (.aload_n 0, 1) := by decide +kernel
theorem d_m_hops_135 : decode (ch_bc m_m_hops) 135 = .ok (.iload_n 1, 1) := by decide +kernel
theorem d_m_hops_136 : decode (ch_bc m_m_hops) 136 = .ok (.iconst 3, 1) := by decide +kernel
theorem d_m_hops_137 : decode (ch_bc m_m_hops) 137 = .ok (.invokevirtual 85, 3) := by decide +kernel
theorem d_m_hops_140 : decode (ch_bc m_m_hops) 140 = .ok (.iconst 1, 1) := by decide +kernel
theorem d_m_hops_141 : decode (ch_bc m_m_hops) 141 = .ok (.iadd, 1) := by decide +kernel
theorem d_m_hops_142 : decode (ch_bc m_m_hops) 142 = .ok (.invokevirtual 89, 3) := by decide +kernel
theorem d_m_hops_145 : decode (ch_bc m_m_hops) 145 = .ok (.aload_n 0, 1) := by decide +kernel
theorem d_m_hops_146 : decode (ch_bc m_m_hops) 146 = .ok (.getfield 9, 3) := by decide +kernel
theorem d_m_hops_149 : decode (ch_bc m_m_hops) 149 = .ok (.iconst 3, 1) := by decide +kernel
theorem d_m_hops_150 : decode (ch_bc m_m_hops) 150 = .ok (.dup2, 1) := by decide +kernel
theorem d_m_hops_151 : decode (ch_bc m_m_hops) 151 = .ok (.iaload, 1) := by decide +kernel
theorem d_m_hops_152 : decode (ch_bc m_m_hops) 152 = .ok (.iload_n 2, 1) := by decide +kernel
theorem d_m_hops_153 : decode (ch_bc m_m_hops) 153 = .ok (.iadd, 1) := by decide +kernel
theorem d_m_hops_154 : decode (ch_bc m_m_hops) 154 = .ok (.iastore, 1) := by decide +kernel
theorem d_m_hops_155 : decode (ch_bc m_m_hops) 155 = .ok (.aload_n 0, 1) := by decide +kernel
theorem d_m_hops_156 : decode (ch_bc m_m_hops) 156 = .ok (.iload_n 2, 1) := by decide +kernel
theorem d_m_hops_157 : decode (ch_bc m_m_hops) 157 = .ok (.invokevirtual 93, 3) := by decide +kernel
theorem d_m_hops_160 : decode (ch_bc m_m_hops) 160 = .ok (.ireturn, 1) := by decide +kernel
theorem d_m_canHop_0 : decode (ch_bc m_m_canHop) 0 = .ok (.aload_n 0, 1) := by decide +kernel
theorem d_m_canHop_1 : decode (ch_bc m_m_canHop) 1 = .ok (.iload_n 1, 1) := by decide +kernel
theorem d_m_canHop_2 : decode (ch_bc m_m_canHop) 2 = .ok (.invokevirtual 106, 3) := by decide +kernel
theorem d_m_canHop_5 : decode (ch_bc m_m_canHop) 5 = .ok (.ifCond .ne 5, 3) := by decide +kernel
theorem d_m_canHop_8 : decode (ch_bc m_m_canHop) 8 = .ok (.iconst 0, 1) := by decide +kernel
theorem d_m_canHop_9 : decode (ch_bc m_m_canHop) 9 = .ok (.ireturn, 1) := by decide +kernel
theorem d_m_canHop_10 : decode (ch_bc m_m_canHop) 10 = .ok (.aload_n 0, 1) := by decide +kernel
theorem d_m_canHop_11 : decode (ch_bc m_m_canHop) 11 = .ok (.iload_n 1, 1) := by decide +kernel
theorem d_m_canHop_12 : decode (ch_bc m_m_canHop) 12 = .ok (.iconst 2, 1) := by decide +kernel
theorem d_m_canHop_13 : decode (ch_bc m_m_canHop) 13 = .ok (.invokevirtual 85, 3) := by decide +kernel
theorem d_m_canHop_16 : decode (ch_bc m_m_canHop) 16 = .ok (.ifCond .eq 18, 3) := by decide +kernel
theorem d_m_canHop_19 : decode (ch_bc m_m_canHop) 19 = .ok (.aload_n 0, 1) := by decide +kernel
theorem d_m_canHop_20 : decode (ch_bc m_m_canHop) 20 = .ok (.bipush 7, 2) := by decide +kernel
theorem d_m_canHop_22 : decode (ch_bc m_m_canHop) 22 = .ok (.aload_n 0, 1) := by decide +kernel
theorem d_m_canHop_23 : decode (ch_bc m_m_canHop) 23 = .ok (.iload_n 1, 1) := by decide +kernel
theorem d_m_canHop_24 : decode (ch_bc m_m_canHop) 24 = .ok (.iconst 2, 1) := by decide +kernel
theorem d_m_canHop_25 : decode (ch_bc m_m_canHop) 25 = .ok (.invokevirtual 85, 3) := by decide +kernel
theorem d_m_canHop_28 : decode (ch_bc m_m_canHop) 28 = .ok (.invokevirtual 81, 3) := by decide +kernel
theorem d_m_canHop_31 : decode (ch_bc m_m_canHop) 31 = .ok (.ifCond .eq 7, 3) := by decide +kernel
theorem d_m_canHop_34 : decode (ch_bc m_m_canHop) 34 = .ok (.iconst 1, 1) := by decide +kernel
theorem d_m_canHop_35 : decode (ch_bc m_m_canHop) 35 = .ok (.goto 4, 3) := by decide +kernel
theorem d_m_canHop_38 : decode (ch_bc m_m_canHop) 38 = .ok (.iconst 0, 1) := by decide +kernel
theorem d_m_canHop_39 : decode (ch_bc m_m_canHop) 39 = .ok (.ireturn, 1) := by decide +kernel
theorem d_m_hop_0 : decode (ch_bc m_m_hop) 0 = .ok (.aload_n 0, 1) := by decide +kernel
theorem d_m_hop_1 : decode (ch_bc m_m_hop) 1 = .ok (.invokevirtual 96, 3) := by decide +kernel
theorem d_m_hop_4 : decode (ch_bc m_m_hop) 4 = .ok (.aload_n 0, 1) := by decide +kernel
theorem d_m_hop_5 : decode (ch_bc m_m_hop) 5 = .ok (.iload_n 1, 1) := by decide +kernel
theorem d_m_hop_6 : decode (ch_bc m_m_hop) 6 = .ok (.invokevirtual 144, 3) := by decide +kernel
theorem d_m_hop_9 : decode (ch_bc m_m_hop) 9 = .ok (.ifCond .ne 9, 3) := by decide +kernel
theorem d_m_hop_12 : decode (ch_bc m_m_hop) 12 = .ok (.aload_n 0, 1) := by decide +kernel
theorem d_m_hop_13 : decode (ch_bc m_m_hop) 13 = .ok (.iconst 1, 1) := by decide +kernel
theorem d_m_hop_14 : decode (ch_bc m_m_hop) 14 = .ok (.invokevirtual 70, 3) := by decide +kernel
theorem d_m_hop_17 : decode (ch_bc m_m_hop) 17 = .ok (.ireturn, 1) := by decide +kernel
theorem d_m_hop_18 : decode (ch_bc m_m_hop) 18 = .ok (.aload_n 0, 1) := by decide +kernel
theorem d_m_hop_19 : decode (ch_bc m_m_hop) 19 = .ok (.iload_n 2, 1) := by decide +kernel
theorem d_m_hop_20 : decode (ch_bc m_m_hop) 20 = .ok (.invokevirtual 147, 3) := by decide +kernel
theorem d_m_hop_23 : decode (ch_bc m_m_hop) 23 = .ok (.ifCond .ne 14, 3) := by decide +kernel
theorem d_m_hop_26 : decode (ch_bc m_m_hop) 26 = .ok (.aload_n 0, 1) := by decide +kernel
theorem d_m_hop_27 : decode (ch_bc m_m_hop) 27 = .ok (.aload_n 0, 1) := by decide +kernel
theorem d_m_hop_28 : decode (ch_bc m_m_hop) 28 = .ok (.iconst 1, 1) := by decide +kernel
theorem d_m_hop_29 : decode (ch_bc m_m_hop) 29 = .ok (.iconst 0, 1) := by decide +kernel
theorem d_m_hop_30 : decode (ch_bc m_m_hop) 30 = .ok (.invokevirtual 81, 3) := by decide +kernel
theorem d_m_hop_33 : decode (ch_bc m_m_hop) 33 = .ok (.invokevirtual 102, 3) := by decide +kernel
theorem d_m_hop_36 : decode (ch_bc m_m_hop) 36 = .ok (.ireturn, 1) := by decide +kernel
theorem d_m_hop_37 : decode (ch_bc m_m_hop) 37 = .ok (.aload_n 0, 1) := by decide +kernel
theorem d_m_hop_38 : decode (ch_bc m_m_hop) 38 = .ok (.aload_n 0, 1) := by decide +kernel
theorem d_m_hop_39 : decode (ch_bc m_m_hop) 39 = .ok (.iload_n 1, 1) := by decide +kernel
theorem d_m_hop_40 : decode (ch_bc m_m_hop) 40 = .ok (.invokevirtual 150, 3) := by decide +kernel
theorem d_m_hop_43 : decode (ch_bc m_m_hop) 43 = .ok (.invokevirtual 102, 3) := by decide +kernel
theorem d_m_hop_46 : decode (ch_bc m_m_hop) 46 = .ok (.ireturn, 1) := by decide +kernel
theorem d_m_writes_0 : decode (ch_bc m_m_writes) 0 = .ok (.aload_n 0, 1) := by decide +kernel
theorem d_m_writes_1 : decode (ch_bc m_m_writes) 1 = .ok (.iload_n 1, 1) := by decide +kernel
theorem d_m_writes_2 : decode (ch_bc m_m_writes) 2 = .ok (.invokevirtual 144, 3) := by decide +kernel
theorem d_m_writes_5 : decode (ch_bc m_m_writes) 5 = .ok (.ifCond .ne 5, 3) := by decide +kernel
theorem d_m_writes_8 : decode (ch_bc m_m_writes) 8 = .ok (.iconst 0, 1) := by decide +kernel
theorem d_m_writes_9 : decode (ch_bc m_m_writes) 9 = .ok (.ireturn, 1) := by decide +kernel
theorem d_m_writes_10 : decode (ch_bc m_m_writes) 10 = .ok (.aload_n 0, 1) := by decide +kernel
theorem d_m_writes_11 : decode (ch_bc m_m_writes) 11 = .ok (.iload_n 1, 1) := by decide +kernel
theorem d_m_writes_12 : decode (ch_bc m_m_writes) 12 = .ok (.iconst 1, 1) := by decide +kernel
theorem d_m_writes_13 : decode (ch_bc m_m_writes) 13 = .ok (.invokevirtual 85, 3) := by decide +kernel
theorem d_m_writes_16 : decode (ch_bc m_m_writes) 16 = .ok (.istore_n 2, 1) := by decide +kernel
theorem d_m_writes_17 : decode (ch_bc m_m_writes) 17 = .ok (.iload_n 2, 1) := by decide +kernel
theorem d_m_writes_18 : decode (ch_bc m_m_writes) 18 = .ok (.iconst 3, 1) := by decide +kernel
theorem d_m_writes_19 : decode (ch_bc m_m_writes) 19 = .ok (.if_icmp .ge 11, 3) := by decide +kernel
theorem d_m_writes_22 : decode (ch_bc m_m_writes) 22 = .ok (.aload_n 0, 1) := by decide +kernel
theorem d_m_writes_23 : decode (ch_bc m_m_writes) 23 = .ok (.bipush 9, 2) := by decide +kernel
theorem d_m_writes_25 : decode (ch_bc m_m_writes) 25 = .ok (.iload_n 2, 1) := by decide +kernel
theorem d_m_writes_26 : decode (ch_bc m_m_writes) 26 = .ok (.invokevirtual 81, 3) := by decide +kernel
theorem d_m_writes_29 : decode (ch_bc m_m_writes) 29 = .ok (.ireturn, 1) := by decide +kernel
theorem d_m_writes_30 : decode (ch_bc m_m_writes) 30 = .ok (.aload_n 0, 1) := by decide +kernel
theorem d_m_writes_31 : decode (ch_bc m_m_writes) 31 = .ok (.iload_n 1, 1) := by decide +kernel
theorem d_m_writes_32 : decode (ch_bc m_m_writes) 32 = .ok (.iconst 2, 1) := by decide +kernel
theorem d_m_writes_33 : decode (ch_bc m_m_writes) 33 = .ok (.bipush 9, 2) := by decide +kernel
theorem d_m_writes_35 : decode (ch_bc m_m_writes) 35 = .ok (.iload_n 2, 1) := by decide +kernel
theorem d_m_writes_36 : decode (ch_bc m_m_writes) 36 = .ok (.invokestatic 118, 3) := by decide +kernel
theorem d_m_writes_39 : decode (ch_bc m_m_writes) 39 = .ok (.invokevirtual 89, 3) := by decide +kernel
theorem d_m_writes_42 : decode (ch_bc m_m_writes) 42 = .ok (.aload_n 0, 1) := by decide +kernel
theorem d_m_writes_43 : decode (ch_bc m_m_writes) 43 = .ok (.iload_n 1, 1) := by decide +kernel
theorem d_m_writes_44 : decode (ch_bc m_m_writes) 44 = .ok (.iconst 1, 1) := by decide +kernel
theorem d_m_writes_45 : decode (ch_bc m_m_writes) 45 = .ok (.iconst 0, 1) := by decide +kernel
theorem d_m_writes_46 : decode (ch_bc m_m_writes) 46 = .ok (.invokevirtual 89, 3) := by decide +kernel
theorem d_m_writes_49 : decode (ch_bc m_m_writes) 49 = .ok (.aload_n 0, 1) := by decide +kernel
theorem d_m_writes_50 : decode (ch_bc m_m_writes) 50 = .ok (.getfield 9, 3) := by decide +kernel
theorem d_m_writes_53 : decode (ch_bc m_m_writes) 53 = .ok (.bipush 9, 2) := by decide +kernel
theorem d_m_writes_55 : decode (ch_bc m_m_writes) 55 = .ok (.aload_n 0, 1) := by decide +kernel
theorem d_m_writes_56 : decode (ch_bc m_m_writes) 56 = .ok (.getfield 9, 3) := by decide +kernel
theorem d_m_writes_59 : decode (ch_bc m_m_writes) 59 = .ok (.bipush 8, 2) := by decide +kernel
theorem d_m_writes_61 : decode (ch_bc m_m_writes) 61 = .ok (.dup2, 1) := by decide +kernel
theorem d_m_writes_62 : decode (ch_bc m_m_writes) 62 = .ok (.iaload, 1) := by decide +kernel
theorem d_m_writes_63 : decode (ch_bc m_m_writes) 63 = .ok (.dup_x2, 1) := by decide +kernel
theorem d_m_writes_64 : decode (ch_bc m_m_writes) 64 = .ok (.iconst 1, 1) := by decide +kernel
theorem d_m_writes_65 : decode (ch_bc m_m_writes) 65 = .ok (.iadd, 1) := by decide +kernel
theorem d_m_writes_66 : decode (ch_bc m_m_writes) 66 = .ok (.iastore, 1) := by decide +kernel
theorem d_m_writes_67 : decode (ch_bc m_m_writes) 67 = .ok (.iadd, 1) := by decide +kernel
theorem d_m_writes_68 : decode (ch_bc m_m_writes) 68 = .ok (.iload_n 1, 1) := by decide +kernel
theorem d_m_writes_69 : decode (ch_bc m_m_writes) 69 = .ok (.iastore, 1) := by decide +kernel
theorem d_m_writes_70 : decode (ch_bc m_m_writes) 70 = .ok (.aload_n 0, 1) := by decide +kernel
theorem d_m_writes_71 : decode (ch_bc m_m_writes) 71 = .ok (.getfield 9, 3) := by decide +kernel
theorem d_m_writes_74 : decode (ch_bc m_m_writes) 74 = .ok (.iconst 4, 1) := by decide +kernel
theorem d_m_writes_75 : decode (ch_bc m_m_writes) 75 = .ok (.dup2, 1) := by decide +kernel
theorem d_m_writes_76 : decode (ch_bc m_m_writes) 76 = .ok (.iaload, 1) := by decide +kernel
theorem d_m_writes_77 : decode (ch_bc m_m_writes) 77 = .ok (.iconst 1, 1) := by decide +kernel
theorem d_m_writes_78 : decode (ch_bc m_m_writes) 78 = .ok (.iadd, 1) := by decide +kernel
theorem d_m_writes_79 : decode (ch_bc m_m_writes) 79 = .ok (.iastore, 1) := by decide +kernel
theorem d_m_writes_80 : decode (ch_bc m_m_writes) 80 = .ok (.aload_n 0, 1) := by decide +kernel
theorem d_m_writes_81 : decode (ch_bc m_m_writes) 81 = .ok (.aload_n 0, 1) := by decide +kernel
theorem d_m_writes_82 : decode (ch_bc m_m_writes) 82 = .ok (.iload_n 1, 1) := by decide +kernel
theorem d_m_writes_83 : decode (ch_bc m_m_writes) 83 = .ok (.iconst 2, 1) := by decide +kernel
theorem d_m_writes_84 : decode (ch_bc m_m_writes) 84 = .ok (.invokevirtual 85, 3) := by decide +kernel
theorem d_m_writes_87 : decode (ch_bc m_m_writes) 87 = .ok (.invokevirtual 93, 3) := by decide +kernel
theorem d_m_writes_90 : decode (ch_bc m_m_writes) 90 = .ok (.ireturn, 1) := by decide +kernel
theorem d_m_warrant_0 : decode (ch_bc m_m_warrant) 0 = .ok (.aload_n 0, 1) := by decide +kernel
theorem d_m_warrant_1 : decode (ch_bc m_m_warrant) 1 = .ok (.invokevirtual 96, 3) := by decide +kernel
theorem d_m_warrant_4 : decode (ch_bc m_m_warrant) 4 = .ok (.aload_n 0, 1) := by decide +kernel
theorem d_m_warrant_5 : decode (ch_bc m_m_warrant) 5 = .ok (.aload_n 0, 1) := by decide +kernel
theorem d_m_warrant_6 : decode (ch_bc m_m_warrant) 6 = .ok (.iload_n 1, 1) := by decide +kernel
theorem d_m_warrant_7 : decode (ch_bc m_m_warrant) 7 = .ok (.invokevirtual 153, 3) := by decide +kernel
theorem d_m_warrant_10 : decode (ch_bc m_m_warrant) 10 = .ok (.invokevirtual 102, 3) := by decide +kernel
theorem d_m_warrant_13 : decode (ch_bc m_m_warrant) 13 = .ok (.ireturn, 1) := by decide +kernel
theorem d_m_closes_0 : decode (ch_bc m_m_closes) 0 = .ok (.aload_n 0, 1) := by decide +kernel
theorem d_m_closes_1 : decode (ch_bc m_m_closes) 1 = .ok (.iload_n 1, 1) := by decide +kernel
theorem d_m_closes_2 : decode (ch_bc m_m_closes) 2 = .ok (.iconst 2, 1) := by decide +kernel
theorem d_m_closes_3 : decode (ch_bc m_m_closes) 3 = .ok (.iconst 0, 1) := by decide +kernel
theorem d_m_closes_4 : decode (ch_bc m_m_closes) 4 = .ok (.invokevirtual 89, 3) := by decide +kernel
theorem d_m_closes_7 : decode (ch_bc m_m_closes) 7 = .ok (.iconst 0, 1) := by decide +kernel
theorem d_m_closes_8 : decode (ch_bc m_m_closes) 8 = .ok (.istore_n 2, 1) := by decide +kernel
theorem d_m_closes_9 : decode (ch_bc m_m_closes) 9 = .ok (.iconst 0, 1) := by decide +kernel
theorem d_m_closes_10 : decode (ch_bc m_m_closes) 10 = .ok (.istore_n 3, 1) := by decide +kernel
theorem d_m_closes_11 : decode (ch_bc m_m_closes) 11 = .ok (.iload_n 3, 1) := by decide +kernel
theorem d_m_closes_12 : decode (ch_bc m_m_closes) 12 = .ok (.aload_n 0, 1) := by decide +kernel
theorem d_m_closes_13 : decode (ch_bc m_m_closes) 13 = .ok (.getfield 9, 3) := by decide +kernel
theorem d_m_closes_16 : decode (ch_bc m_m_closes) 16 = .ok (.bipush 8, 2) := by decide +kernel
theorem d_m_closes_18 : decode (ch_bc m_m_closes) 18 = .ok (.iaload, 1) := by decide +kernel
theorem d_m_closes_19 : decode (ch_bc m_m_closes) 19 = .ok (.if_icmp .ge 43, 3) := by decide +kernel
theorem d_m_closes_22 : decode (ch_bc m_m_closes) 22 = .ok (.aload_n 0, 1) := by decide +kernel
theorem d_m_closes_23 : decode (ch_bc m_m_closes) 23 = .ok (.getfield 9, 3) := by decide +kernel
theorem d_m_closes_26 : decode (ch_bc m_m_closes) 26 = .ok (.bipush 9, 2) := by decide +kernel
theorem d_m_closes_28 : decode (ch_bc m_m_closes) 28 = .ok (.iload_n 3, 1) := by decide +kernel
theorem d_m_closes_29 : decode (ch_bc m_m_closes) 29 = .ok (.iadd, 1) := by decide +kernel
theorem d_m_closes_30 : decode (ch_bc m_m_closes) 30 = .ok (.iaload, 1) := by decide +kernel
theorem d_m_closes_31 : decode (ch_bc m_m_closes) 31 = .ok (.iload_n 1, 1) := by decide +kernel
theorem d_m_closes_32 : decode (ch_bc m_m_closes) 32 = .ok (.if_icmp .eq 24, 3) := by decide +kernel
theorem d_m_closes_35 : decode (ch_bc m_m_closes) 35 = .ok (.aload_n 0, 1) := by decide +kernel
theorem d_m_closes_36 : decode (ch_bc m_m_closes) 36 = .ok (.getfield 9, 3) := by decide +kernel
theorem d_m_closes_39 : decode (ch_bc m_m_closes) 39 = .ok (.bipush 9, 2) := by decide +kernel
theorem d_m_closes_41 : decode (ch_bc m_m_closes) 41 = .ok (.iload_n 2, 1) := by decide +kernel
theorem d_m_closes_42 : decode (ch_bc m_m_closes) 42 = .ok (.iinc 2 1, 3) := by decide +kernel
theorem d_m_closes_45 : decode (ch_bc m_m_closes) 45 = .ok (.iadd, 1) := by decide +kernel
theorem d_m_closes_46 : decode (ch_bc m_m_closes) 46 = .ok (.aload_n 0, 1) := by decide +kernel
theorem d_m_closes_47 : decode (ch_bc m_m_closes) 47 = .ok (.getfield 9, 3) := by decide +kernel
theorem d_m_closes_50 : decode (ch_bc m_m_closes) 50 = .ok (.bipush 9, 2) := by decide +kernel
theorem d_m_closes_52 : decode (ch_bc m_m_closes) 52 = .ok (.iload_n 3, 1) := by decide +kernel
theorem d_m_closes_53 : decode (ch_bc m_m_closes) 53 = .ok (.iadd, 1) := by decide +kernel
theorem d_m_closes_54 : decode (ch_bc m_m_closes) 54 = .ok (.iaload, 1) := by decide +kernel
theorem d_m_closes_55 : decode (ch_bc m_m_closes) 55 = .ok (.iastore, 1) := by decide +kernel
theorem d_m_closes_56 : decode (ch_bc m_m_closes) 56 = .ok (.iinc 3 1, 3) := by decide +kernel
theorem d_m_closes_59 : decode (ch_bc m_m_closes) 59 = .ok (.goto (-48), 3) := by decide +kernel
theorem d_m_closes_62 : decode (ch_bc m_m_closes) 62 = .ok (.aload_n 0, 1) := by decide +kernel
theorem d_m_closes_63 : decode (ch_bc m_m_closes) 63 = .ok (.getfield 9, 3) := by decide +kernel
theorem d_m_closes_66 : decode (ch_bc m_m_closes) 66 = .ok (.bipush 8, 2) := by decide +kernel
theorem d_m_closes_68 : decode (ch_bc m_m_closes) 68 = .ok (.iload_n 2, 1) := by decide +kernel
theorem d_m_closes_69 : decode (ch_bc m_m_closes) 69 = .ok (.iastore, 1) := by decide +kernel
theorem d_m_closes_70 : decode (ch_bc m_m_closes) 70 = .ok (.return_, 1) := by decide +kernel
theorem d_m_strikes_0 : decode (ch_bc m_m_strikes) 0 = .ok (.aload_n 0, 1) := by decide +kernel
theorem d_m_strikes_1 : decode (ch_bc m_m_strikes) 1 = .ok (.iload_n 1, 1) := by decide +kernel
theorem d_m_strikes_2 : decode (ch_bc m_m_strikes) 2 = .ok (.invokevirtual 106, 3) := by decide +kernel
theorem d_m_strikes_5 : decode (ch_bc m_m_strikes) 5 = .ok (.ifCond .ne 5, 3) := by decide +kernel
theorem d_m_strikes_8 : decode (ch_bc m_m_strikes) 8 = .ok (.iconst 0, 1) := by decide +kernel
theorem d_m_strikes_9 : decode (ch_bc m_m_strikes) 9 = .ok (.ireturn, 1) := by decide +kernel
theorem d_m_strikes_10 : decode (ch_bc m_m_strikes) 10 = .ok (.aload_n 0, 1) := by decide +kernel
theorem d_m_strikes_11 : decode (ch_bc m_m_strikes) 11 = .ok (.iload_n 1, 1) := by decide +kernel
theorem d_m_strikes_12 : decode (ch_bc m_m_strikes) 12 = .ok (.iconst 2, 1) := by decide +kernel
theorem d_m_strikes_13 : decode (ch_bc m_m_strikes) 13 = .ok (.invokevirtual 85, 3) := by decide +kernel
theorem d_m_strikes_16 : decode (ch_bc m_m_strikes) 16 = .ok (.ifCond .ne 11, 3) := by decide +kernel
theorem d_m_strikes_19 : decode (ch_bc m_m_strikes) 19 = .ok (.aload_n 0, 1) := by decide +kernel
theorem d_m_strikes_20 : decode (ch_bc m_m_strikes) 20 = .ok (.bipush 10, 2) := by decide +kernel
theorem d_m_strikes_22 : decode (ch_bc m_m_strikes) 22 = .ok (.iconst 0, 1) := by decide +kernel
theorem d_m_strikes_23 : decode (ch_bc m_m_strikes) 23 = .ok (.invokevirtual 81, 3) := by decide +kernel
theorem d_m_strikes_26 : decode (ch_bc m_m_strikes) 26 = .ok (.ireturn, 1) := by decide +kernel
theorem d_m_strikes_27 : decode (ch_bc m_m_strikes) 27 = .ok (.aload_n 0, 1) := by decide +kernel
theorem d_m_strikes_28 : decode (ch_bc m_m_strikes) 28 = .ok (.iload_n 1, 1) := by decide +kernel
theorem d_m_strikes_29 : decode (ch_bc m_m_strikes) 29 = .ok (.aload_n 0, 1) := by decide +kernel
theorem d_m_strikes_30 : decode (ch_bc m_m_strikes) 30 = .ok (.iload_n 1, 1) := by decide +kernel
theorem d_m_strikes_31 : decode (ch_bc m_m_strikes) 31 = .ok (.iconst 2, 1) := by decide +kernel
theorem d_m_strikes_32 : decode (ch_bc m_m_strikes) 32 = .ok (.invokevirtual 85, 3) := by decide +kernel
theorem d_m_strikes_35 : decode (ch_bc m_m_strikes) 35 = .ok (.invokevirtual 115, 3) := by decide +kernel
theorem d_m_strikes_38 : decode (ch_bc m_m_strikes) 38 = .ok (.ifCond .ne 5, 3) := by decide +kernel
theorem d_m_strikes_41 : decode (ch_bc m_m_strikes) 41 = .ok (.iconst 0, 1) := by decide +kernel
theorem d_m_strikes_42 : decode (ch_bc m_m_strikes) 42 = .ok (.ireturn, 1) := by decide +kernel
theorem d_m_strikes_43 : decode (ch_bc m_m_strikes) 43 = .ok (.aload_n 0, 1) := by decide +kernel
theorem d_m_strikes_44 : decode (ch_bc m_m_strikes) 44 = .ok (.iload_n 1, 1) := by decide +kernel
theorem d_m_strikes_45 : decode (ch_bc m_m_strikes) 45 = .ok (.invokevirtual 156, 3) := by decide +kernel
theorem d_m_strikes_48 : decode (ch_bc m_m_strikes) 48 = .ok (.aload_n 0, 1) := by decide +kernel
theorem d_m_strikes_49 : decode (ch_bc m_m_strikes) 49 = .ok (.aload_n 0, 1) := by decide +kernel
theorem d_m_strikes_50 : decode (ch_bc m_m_strikes) 50 = .ok (.iload_n 1, 1) := by decide +kernel
theorem d_m_strikes_51 : decode (ch_bc m_m_strikes) 51 = .ok (.iconst 0, 1) := by decide +kernel
theorem d_m_strikes_52 : decode (ch_bc m_m_strikes) 52 = .ok (.invokevirtual 85, 3) := by decide +kernel
theorem d_m_strikes_55 : decode (ch_bc m_m_strikes) 55 = .ok (.invokevirtual 93, 3) := by decide +kernel
theorem d_m_strikes_58 : decode (ch_bc m_m_strikes) 58 = .ok (.ireturn, 1) := by decide +kernel
theorem d_m_strike_0 : decode (ch_bc m_m_strike) 0 = .ok (.aload_n 0, 1) := by decide +kernel
theorem d_m_strike_1 : decode (ch_bc m_m_strike) 1 = .ok (.invokevirtual 96, 3) := by decide +kernel
theorem d_m_strike_4 : decode (ch_bc m_m_strike) 4 = .ok (.aload_n 0, 1) := by decide +kernel
theorem d_m_strike_5 : decode (ch_bc m_m_strike) 5 = .ok (.aload_n 0, 1) := by decide +kernel
theorem d_m_strike_6 : decode (ch_bc m_m_strike) 6 = .ok (.iload_n 1, 1) := by decide +kernel
theorem d_m_strike_7 : decode (ch_bc m_m_strike) 7 = .ok (.invokevirtual 159, 3) := by decide +kernel
theorem d_m_strike_10 : decode (ch_bc m_m_strike) 10 = .ok (.invokevirtual 102, 3) := by decide +kernel
theorem d_m_strike_13 : decode (ch_bc m_m_strike) 13 = .ok (.ireturn, 1) := by decide +kernel
theorem d_m_owned_0 : decode (ch_bc m_m_owned) 0 = .ok (.iconst 0, 1) := by decide +kernel
theorem d_m_owned_1 : decode (ch_bc m_m_owned) 1 = .ok (.istore_n 1, 1) := by decide +kernel
theorem d_m_owned_2 : decode (ch_bc m_m_owned) 2 = .ok (.iconst 0, 1) := by decide +kernel
theorem d_m_owned_3 : decode (ch_bc m_m_owned) 3 = .ok (.istore_n 2, 1) := by decide +kernel
theorem d_m_owned_4 : decode (ch_bc m_m_owned) 4 = .ok (.iload_n 2, 1) := by decide +kernel
theorem d_m_owned_5 : decode (ch_bc m_m_owned) 5 = .ok (.bipush 12, 2) := by decide +kernel
theorem d_m_owned_7 : decode (ch_bc m_m_owned) 7 = .ok (.if_icmp .ge 20, 3) := by decide +kernel
theorem d_m_owned_10 : decode (ch_bc m_m_owned) 10 = .ok (.aload_n 0, 1) := by decide +kernel
theorem d_m_owned_11 : decode (ch_bc m_m_owned) 11 = .ok (.iload_n 2, 1) := by decide +kernel
theorem d_m_owned_12 : decode (ch_bc m_m_owned) 12 = .ok (.invokevirtual 109, 3) := by decide +kernel
theorem d_m_owned_15 : decode (ch_bc m_m_owned) 15 = .ok (.ifCond .lt 6, 3) := by decide +kernel
theorem d_m_owned_18 : decode (ch_bc m_m_owned) 18 = .ok (.iinc 1 1, 3) := by decide +kernel
theorem d_m_owned_21 : decode (ch_bc m_m_owned) 21 = .ok (.iinc 2 1, 3) := by decide +kernel
theorem d_m_owned_24 : decode (ch_bc m_m_owned) 24 = .ok (.goto (-20), 3) := by decide +kernel
theorem d_m_owned_27 : decode (ch_bc m_m_owned) 27 = .ok (.iload_n 1, 1) := by decide +kernel
theorem d_m_owned_28 : decode (ch_bc m_m_owned) 28 = .ok (.ireturn, 1) := by decide +kernel
theorem d_m_endsBy_0 : decode (ch_bc m_m_endsBy) 0 = .ok (.iconst 0, 1) := by decide +kernel
theorem d_m_endsBy_1 : decode (ch_bc m_m_endsBy) 1 = .ok (.istore_n 2, 1) := by decide +kernel
theorem d_m_endsBy_2 : decode (ch_bc m_m_endsBy) 2 = .ok (.iconst 0, 1) := by decide +kernel
theorem d_m_endsBy_3 : decode (ch_bc m_m_endsBy) 3 = .ok (.istore_n 3, 1) := by decide +kernel
theorem d_m_endsBy_4 : decode (ch_bc m_m_endsBy) 4 = .ok (.iload_n 3, 1) := by decide +kernel
theorem d_m_endsBy_5 : decode (ch_bc m_m_endsBy) 5 = .ok (.bipush 12, 2) := by decide +kernel
theorem d_m_endsBy_7 : decode (ch_bc m_m_endsBy) 7 = .ok (.if_icmp .ge 25, 3) := by decide +kernel
theorem d_m_endsBy_10 : decode (ch_bc m_m_endsBy) 10 = .ok (.aload_n 0, 1) := by decide +kernel
theorem d_m_endsBy_11 : decode (ch_bc m_m_endsBy) 11 = .ok (.iload_n 3, 1) := by decide +kernel
theorem d_m_endsBy_12 : decode (ch_bc m_m_endsBy) 12 = .ok (.invokevirtual 112, 3) := by decide +kernel
theorem d_m_endsBy_15 : decode (ch_bc m_m_endsBy) 15 = .ok (.iconst 1, 1) := by decide +kernel
theorem d_m_endsBy_16 : decode (ch_bc m_m_endsBy) 16 = .ok (.iload_n 1, 1) := by decide +kernel
theorem d_m_endsBy_17 : decode (ch_bc m_m_endsBy) 17 = .ok (.invokestatic 73, 3) := by decide +kernel
theorem d_m_endsBy_20 : decode (ch_bc m_m_endsBy) 20 = .ok (.ifCond .eq 6, 3) := by decide +kernel
theorem d_m_endsBy_23 : decode (ch_bc m_m_endsBy) 23 = .ok (.iinc 2 1, 3) := by decide +kernel
theorem d_m_endsBy_26 : decode (ch_bc m_m_endsBy) 26 = .ok (.iinc 3 1, 3) := by decide +kernel
theorem d_m_endsBy_29 : decode (ch_bc m_m_endsBy) 29 = .ok (.goto (-25), 3) := by decide +kernel
theorem d_m_endsBy_32 : decode (ch_bc m_m_endsBy) 32 = .ok (.iconst 0, 1) := by decide +kernel
theorem d_m_endsBy_33 : decode (ch_bc m_m_endsBy) 33 = .ok (.istore_n 3, 1) := by decide +kernel
theorem d_m_endsBy_34 : decode (ch_bc m_m_endsBy) 34 = .ok (.iload_n 3, 1) := by decide +kernel
theorem d_m_endsBy_35 : decode (ch_bc m_m_endsBy) 35 = .ok (.aload_n 0, 1) := by decide +kernel
theorem d_m_endsBy_36 : decode (ch_bc m_m_endsBy) 36 = .ok (.getfield 9, 3) := by decide +kernel
theorem d_m_endsBy_39 : decode (ch_bc m_m_endsBy) 39 = .ok (.iconst 0, 1) := by decide +kernel
theorem d_m_endsBy_40 : decode (ch_bc m_m_endsBy) 40 = .ok (.iaload, 1) := by decide +kernel
theorem d_m_endsBy_41 : decode (ch_bc m_m_endsBy) 41 = .ok (.if_icmp .ge 26, 3) := by decide +kernel
theorem d_m_endsBy_44 : decode (ch_bc m_m_endsBy) 44 = .ok (.aload_n 0, 1) := by decide +kernel
theorem d_m_endsBy_45 : decode (ch_bc m_m_endsBy) 45 = .ok (.iload_n 3, 1) := by decide +kernel
theorem d_m_endsBy_46 : decode (ch_bc m_m_endsBy) 46 = .ok (.iconst 2, 1) := by decide +kernel
theorem d_m_endsBy_47 : decode (ch_bc m_m_endsBy) 47 = .ok (.invokevirtual 85, 3) := by decide +kernel
theorem d_m_endsBy_50 : decode (ch_bc m_m_endsBy) 50 = .ok (.iconst 1, 1) := by decide +kernel
theorem d_m_endsBy_51 : decode (ch_bc m_m_endsBy) 51 = .ok (.iload_n 1, 1) := by decide +kernel
theorem d_m_endsBy_52 : decode (ch_bc m_m_endsBy) 52 = .ok (.invokestatic 73, 3) := by decide +kernel
theorem d_m_endsBy_55 : decode (ch_bc m_m_endsBy) 55 = .ok (.ifCond .eq 6, 3) := by decide +kernel
theorem d_m_endsBy_58 : decode (ch_bc m_m_endsBy) 58 = .ok (.iinc 2 1, 3) := by decide +kernel
theorem d_m_endsBy_61 : decode (ch_bc m_m_endsBy) 61 = .ok (.iinc 3 1, 3) := by decide +kernel
theorem d_m_endsBy_64 : decode (ch_bc m_m_endsBy) 64 = .ok (.goto (-30), 3) := by decide +kernel
theorem d_m_endsBy_67 : decode (ch_bc m_m_endsBy) 67 = .ok (.iload_n 2, 1) := by decide +kernel
theorem d_m_endsBy_68 : decode (ch_bc m_m_endsBy) 68 = .ok (.ireturn, 1) := by decide +kernel
theorem d_m_rains_0 : decode (ch_bc m_m_rains) 0 = .ok (.iload_n 1, 1) := by decide +kernel
theorem d_m_rains_1 : decode (ch_bc m_m_rains) 1 = .ok (.iconst 1, 1) := by decide +kernel
theorem d_m_rains_2 : decode (ch_bc m_m_rains) 2 = .ok (.bipush 9, 2) := by decide +kernel
theorem d_m_rains_4 : decode (ch_bc m_m_rains) 4 = .ok (.invokestatic 73, 3) := by decide +kernel
theorem d_m_rains_7 : decode (ch_bc m_m_rains) 7 = .ok (.ifCond .ne 10, 3) := by decide +kernel
theorem d_m_rains_10 : decode (ch_bc m_m_rains) 10 = .ok (.aload_n 0, 1) := by decide +kernel
theorem d_m_rains_11 : decode (ch_bc m_m_rains) 11 = .ok (.iconst 1, 1) := by decide +kernel
theorem d_m_rains_12 : decode (ch_bc m_m_rains) 12 = .ok (.iconst 0, 1) := by decide +kernel
theorem d_m_rains_13 : decode (ch_bc m_m_rains) 13 = .ok (.invokevirtual 81, 3) := by decide +kernel
theorem d_m_rains_16 : decode (ch_bc m_m_rains) 16 = .ok (.ireturn, 1) := by decide +kernel
theorem d_m_rains_17 : decode (ch_bc m_m_rains) 17 = .ok (.aload_n 0, 1) := by decide +kernel
theorem d_m_rains_18 : decode (ch_bc m_m_rains) 18 = .ok (.invokevirtual 162, 3) := by decide +kernel
theorem d_m_rains_21 : decode (ch_bc m_m_rains) 21 = .ok (.aload_n 0, 1) := by decide +kernel
theorem d_m_rains_22 : decode (ch_bc m_m_rains) 22 = .ok (.getfield 9, 3) := by decide +kernel
theorem d_m_rains_25 : decode (ch_bc m_m_rains) 25 = .ok (.bipush 8, 2) := by decide +kernel
theorem d_m_rains_27 : decode (ch_bc m_m_rains) 27 = .ok (.iaload, 1) := by decide +kernel
theorem d_m_rains_28 : decode (ch_bc m_m_rains) 28 = .ok (.iadd, 1) := by decide +kernel
theorem d_m_rains_29 : decode (ch_bc m_m_rains) 29 = .ok (.ifCond .ne 11, 3) := by decide +kernel
theorem d_m_rains_32 : decode (ch_bc m_m_rains) 32 = .ok (.aload_n 0, 1) := by decide +kernel
theorem d_m_rains_33 : decode (ch_bc m_m_rains) 33 = .ok (.bipush 12, 2) := by decide +kernel
theorem d_m_rains_35 : decode (ch_bc m_m_rains) 35 = .ok (.iconst 0, 1) := by decide +kernel
theorem d_m_rains_36 : decode (ch_bc m_m_rains) 36 = .ok (.invokevirtual 81, 3) := by decide +kernel
theorem d_m_rains_39 : decode (ch_bc m_m_rains) 39 = .ok (.ireturn, 1) := by decide +kernel
theorem d_m_rains_40 : decode (ch_bc m_m_rains) 40 = .ok (.aload_n 0, 1) := by decide +kernel
theorem d_m_rains_41 : decode (ch_bc m_m_rains) 41 = .ok (.iload_n 1, 1) := by decide +kernel
theorem d_m_rains_42 : decode (ch_bc m_m_rains) 42 = .ok (.invokevirtual 165, 3) := by decide +kernel
theorem d_m_rains_45 : decode (ch_bc m_m_rains) 45 = .ok (.istore_n 2, 1) := by decide +kernel
theorem d_m_rains_46 : decode (ch_bc m_m_rains) 46 = .ok (.iconst 0, 1) := by decide +kernel
theorem d_m_rains_47 : decode (ch_bc m_m_rains) 47 = .ok (.istore_n 3, 1) := by decide +kernel
theorem d_m_rains_48 : decode (ch_bc m_m_rains) 48 = .ok (.iload_n 3, 1) := by decide +kernel
theorem d_m_rains_49 : decode (ch_bc m_m_rains) 49 = .ok (.bipush 12, 2) := by decide +kernel
theorem d_m_rains_51 : decode (ch_bc m_m_rains) 51 = .ok (.if_icmp .ge 50, 3) := by decide +kernel
theorem d_m_rains_54 : decode (ch_bc m_m_rains) 54 = .ok (.aload_n 0, 1) := by decide +kernel
theorem d_m_rains_55 : decode (ch_bc m_m_rains) 55 = .ok (.iload_n 3, 1) := by decide +kernel
theorem d_m_rains_56 : decode (ch_bc m_m_rains) 56 = .ok (.invokevirtual 112, 3) := by decide +kernel
theorem d_m_rains_59 : decode (ch_bc m_m_rains) 59 = .ok (.ifCond .ne 6, 3) := by decide +kernel
theorem d_m_rains_62 : decode (ch_bc m_m_rains) 62 = .ok (.goto 33, 3) := by decide +kernel
theorem d_m_rains_65 : decode (ch_bc m_m_rains) 65 = .ok (.aload_n 0, 1) := by decide +kernel
theorem d_m_rains_66 : decode (ch_bc m_m_rains) 66 = .ok (.getfield 9, 3) := by decide +kernel
theorem d_m_rains_69 : decode (ch_bc m_m_rains) 69 = .ok (.bipush 14, 2) := by decide +kernel
theorem d_m_rains_71 : decode (ch_bc m_m_rains) 71 = .ok (.iconst 2, 1) := by decide +kernel
theorem d_m_rains_72 : decode (ch_bc m_m_rains) 72 = .ok (.iload_n 3, 1) := by decide +kernel
theorem d_m_rains_73 : decode (ch_bc m_m_rains) 73 = .ok (.imul, 1) := by decide +kernel
theorem d_m_rains_74 : decode (ch_bc m_m_rains) 74 = .ok (.iadd, 1) := by decide +kernel
theorem d_m_rains_75 : decode (ch_bc m_m_rains) 75 = .ok (.iconst 1, 1) := by decide +kernel
theorem d_m_rains_76 : decode (ch_bc m_m_rains) 76 = .ok (.iadd, 1) := by decide +kernel
theorem d_m_rains_77 : decode (ch_bc m_m_rains) 77 = .ok (.dup2, 1) := by decide +kernel
theorem d_m_rains_78 : decode (ch_bc m_m_rains) 78 = .ok (.iaload, 1) := by decide +kernel
theorem d_m_rains_79 : decode (ch_bc m_m_rains) 79 = .ok (.iload_n 1, 1) := by decide +kernel
theorem d_m_rains_80 : decode (ch_bc m_m_rains) 80 = .ok (.isub, 1) := by decide +kernel
theorem d_m_rains_81 : decode (ch_bc m_m_rains) 81 = .ok (.iastore, 1) := by decide +kernel
theorem d_m_rains_82 : decode (ch_bc m_m_rains) 82 = .ok (.aload_n 0, 1) := by decide +kernel
theorem d_m_rains_83 : decode (ch_bc m_m_rains) 83 = .ok (.iload_n 3, 1) := by decide +kernel
theorem d_m_rains_84 : decode (ch_bc m_m_rains) 84 = .ok (.invokevirtual 112, 3) := by decide +kernel
theorem d_m_rains_87 : decode (ch_bc m_m_rains) 87 = .ok (.ifCond .gt 8, 3) := by decide +kernel
theorem d_m_rains_90 : decode (ch_bc m_m_rains) 90 = .ok (.aload_n 0, 1) := by decide +kernel
theorem d_m_rains_91 : decode (ch_bc m_m_rains) 91 = .ok (.iload_n 3, 1) := by decide +kernel
theorem d_m_rains_92 : decode (ch_bc m_m_rains) 92 = .ok (.invokevirtual 140, 3) := by decide +kernel
theorem d_m_rains_95 : decode (ch_bc m_m_rains) 95 = .ok (.iinc 3 1, 3) := by decide +kernel
theorem d_m_rains_98 : decode (ch_bc m_m_rains) 98 = .ok (.goto (-50), 3) := by decide +kernel
theorem d_m_rains_101 : decode (ch_bc m_m_rains) 101 = .ok (.iconst 0, 1) := by decide +kernel
theorem d_m_rains_102 : decode (ch_bc m_m_rains) 102 = .ok (.istore_n 3, 1) := by decide +kernel
theorem d_m_rains_103 : decode (ch_bc m_m_rains) 103 = .ok (.iload_n 3, 1) := by decide +kernel
theorem d_m_rains_104 : decode (ch_bc m_m_rains) 104 = .ok (.aload_n 0, 1) := by decide +kernel
theorem d_m_rains_105 : decode (ch_bc m_m_rains) 105 = .ok (.getfield 9, 3) := by decide +kernel
theorem d_m_rains_108 : decode (ch_bc m_m_rains) 108 = .ok (.iconst 0, 1) := by decide +kernel
theorem d_m_rains_109 : decode (ch_bc m_m_rains) 109 = .ok (.iaload, 1) := by decide +kernel
theorem d_m_rains_110 : decode (ch_bc m_m_rains) 110 = .ok (.if_icmp .ge 62, 3) := by decide +kernel
theorem d_m_rains_113 : decode (ch_bc m_m_rains) 113 = .ok (.aload_n 0, 1) := by decide +kernel
theorem d_m_rains_114 : decode (ch_bc m_m_rains) 114 = .ok (.iload_n 3, 1) := by decide +kernel
theorem d_m_rains_115 : decode (ch_bc m_m_rains) 115 = .ok (.iconst 2, 1) := by decide +kernel
theorem d_m_rains_116 : decode (ch_bc m_m_rains) 116 = .ok (.invokevirtual 85, 3) := by decide +kernel
theorem d_m_rains_119 : decode (ch_bc m_m_rains) 119 = .ok (.ifCond .ne 6, 3) := by decide +kernel
theorem d_m_rains_122 : decode (ch_bc m_m_rains) 122 = .ok (.goto 44, 3) := by decide +kernel
theorem d_m_rains_125 : decode (ch_bc m_m_rains) 125 = .ok (.aload_n 0, 1) := by decide +kernel
theorem d_m_rains_126 : decode (ch_bc m_m_rains) 126 = .ok (.iload_n 3, 1) := by decide +kernel
theorem d_m_rains_127 : decode (ch_bc m_m_rains) 127 = .ok (.iconst 2, 1) := by decide +kernel
theorem d_m_rains_128 : decode (ch_bc m_m_rains) 128 = .ok (.aload_n 0, 1) := by decide +kernel
theorem d_m_rains_129 : decode (ch_bc m_m_rains) 129 = .ok (.iload_n 3, 1) := by decide +kernel
theorem d_m_rains_130 : decode (ch_bc m_m_rains) 130 = .ok (.iconst 2, 1) := by decide +kernel
theorem d_m_rains_131 : decode (ch_bc m_m_rains) 131 = .ok (.invokevirtual 85, 3) := by decide +kernel
theorem d_m_rains_134 : decode (ch_bc m_m_rains) 134 = .ok (.iload_n 1, 1) := by decide +kernel
theorem d_m_rains_135 : decode (ch_bc m_m_rains) 135 = .ok (.isub, 1) := by decide +kernel
theorem d_m_rains_136 : decode (ch_bc m_m_rains) 136 = .ok (.invokevirtual 89, 3) := by decide +kernel
theorem d_m_rains_139 : decode (ch_bc m_m_rains) 139 = .ok (.aload_n 0, 1) := by decide +kernel
theorem d_m_rains_140 : decode (ch_bc m_m_rains) 140 = .ok (.iload_n 3, 1) := by decide +kernel
theorem d_m_rains_141 : decode (ch_bc m_m_rains) 141 = .ok (.iconst 2, 1) := by decide +kernel
theorem d_m_rains_142 : decode (ch_bc m_m_rains) 142 = .ok (.invokevirtual 85, 3) := by decide +kernel
theorem d_m_rains_145 : decode (ch_bc m_m_rains) 145 = .ok (.ifCond .le 6, 3) := by decide +kernel
theorem d_m_rains_148 : decode (ch_bc m_m_rains) 148 = .ok (.goto 18, 3) := by decide +kernel
theorem d_m_rains_151 : decode (ch_bc m_m_rains) 151 = .ok (.aload_n 0, 1) := by decide +kernel
theorem d_m_rains_152 : decode (ch_bc m_m_rains) 152 = .ok (.iload_n 3, 1) := by decide +kernel
theorem d_m_rains_153 : decode (ch_bc m_m_rains) 153 = .ok (.invokevirtual 156, 3) := by decide +kernel
theorem d_m_rains_156 : decode (ch_bc m_m_rains) 156 = .ok (.aload_n 0, 1) := by decide +kernel
theorem d_m_rains_157 : decode (ch_bc m_m_rains) 157 = .ok (.getfield 9, 3) := by decide +kernel
theorem d_m_rains_160 : decode (ch_bc m_m_rains) 160 = .ok (.iconst 5, 1) := by decide +kernel
theorem d_m_rains_161 : decode (ch_bc m_m_rains) 161 = .ok (.dup2, 1) := by decide +kernel
theorem d_m_rains_162 : decode (ch_bc m_m_rains) 162 = .ok (.iaload, 1) := by decide +kernel
theorem d_m_rains_163 : decode (ch_bc m_m_rains) 163 = .ok (.iconst 1, 1) := by decide +kernel
theorem d_m_rains_164 : decode (ch_bc m_m_rains) 164 = .ok (.iadd, 1) := by decide +kernel
theorem d_m_rains_165 : decode (ch_bc m_m_rains) 165 = .ok (.iastore, 1) := by decide +kernel
theorem d_m_rains_166 : decode (ch_bc m_m_rains) 166 = .ok (.iinc 3 1, 3) := by decide +kernel
theorem d_m_rains_169 : decode (ch_bc m_m_rains) 169 = .ok (.goto (-66), 3) := by decide +kernel
theorem d_m_rains_172 : decode (ch_bc m_m_rains) 172 = .ok (.aload_n 0, 1) := by decide +kernel
theorem d_m_rains_173 : decode (ch_bc m_m_rains) 173 = .ok (.iload_n 2, 1) := by decide +kernel
theorem d_m_rains_174 : decode (ch_bc m_m_rains) 174 = .ok (.invokevirtual 93, 3) := by decide +kernel
theorem d_m_rains_177 : decode (ch_bc m_m_rains) 177 = .ok (.ireturn, 1) := by decide +kernel
theorem d_m_rain_0 : decode (ch_bc m_m_rain) 0 = .ok (.aload_n 0, 1) := by decide +kernel
theorem d_m_rain_1 : decode (ch_bc m_m_rain) 1 = .ok (.invokevirtual 96, 3) := by decide +kernel
theorem d_m_rain_4 : decode (ch_bc m_m_rain) 4 = .ok (.aload_n 0, 1) := by decide +kernel
theorem d_m_rain_5 : decode (ch_bc m_m_rain) 5 = .ok (.aload_n 0, 1) := by decide +kernel
theorem d_m_rain_6 : decode (ch_bc m_m_rain) 6 = .ok (.iload_n 1, 1) := by decide +kernel
theorem d_m_rain_7 : decode (ch_bc m_m_rain) 7 = .ok (.invokevirtual 168, 3) := by decide +kernel
theorem d_m_rain_10 : decode (ch_bc m_m_rain) 10 = .ok (.invokevirtual 102, 3) := by decide +kernel
theorem d_m_rain_13 : decode (ch_bc m_m_rain) 13 = .ok (.ireturn, 1) := by decide +kernel
theorem d_m_goesBy_0 : decode (ch_bc m_m_goesBy) 0 = .ok (.iconst 0, 1) := by decide +kernel
theorem d_m_goesBy_1 : decode (ch_bc m_m_goesBy) 1 = .ok (.istore_n 1, 1) := by decide +kernel
theorem d_m_goesBy_2 : decode (ch_bc m_m_goesBy) 2 = .ok (.iconst 0, 1) := by decide +kernel
theorem d_m_goesBy_3 : decode (ch_bc m_m_goesBy) 3 = .ok (.istore_n 2, 1) := by decide +kernel
theorem d_m_goesBy_4 : decode (ch_bc m_m_goesBy) 4 = .ok (.iload_n 2, 1) := by decide +kernel
theorem d_m_goesBy_5 : decode (ch_bc m_m_goesBy) 5 = .ok (.aload_n 0, 1) := by decide +kernel
theorem d_m_goesBy_6 : decode (ch_bc m_m_goesBy) 6 = .ok (.getfield 9, 3) := by decide +kernel
theorem d_m_goesBy_9 : decode (ch_bc m_m_goesBy) 9 = .ok (.iconst 0, 1) := by decide +kernel
theorem d_m_goesBy_10 : decode (ch_bc m_m_goesBy) 10 = .ok (.iaload, 1) := by decide +kernel
theorem d_m_goesBy_11 : decode (ch_bc m_m_goesBy) 11 = .ok (.if_icmp .ge 82, 3) := by decide +kernel
theorem d_m_goesBy_14 : decode (ch_bc m_m_goesBy) 14 = .ok (.iconst 0, 1) := by decide +kernel
theorem d_m_goesBy_15 : decode (ch_bc m_m_goesBy) 15 = .ok (.istore_n 3, 1) := by decide +kernel
theorem d_m_goesBy_16 : decode (ch_bc m_m_goesBy) 16 = .ok (.iload_n 3, 1) := by decide +kernel
theorem d_m_goesBy_17 : decode (ch_bc m_m_goesBy) 17 = .ok (.bipush 12, 2) := by decide +kernel
theorem d_m_goesBy_19 : decode (ch_bc m_m_goesBy) 19 = .ok (.if_icmp .ge 68, 3) := by decide +kernel
theorem d_m_goesBy_22 : decode (ch_bc m_m_goesBy) 22 = .ok (.aload_n 0, 1) := by decide +kernel
theorem d_m_goesBy_23 : decode (ch_bc m_m_goesBy) 23 = .ok (.iload_n 3, 1) := by decide +kernel
theorem d_m_goesBy_24 : decode (ch_bc m_m_goesBy) 24 = .ok (.invokevirtual 109, 3) := by decide +kernel
theorem d_m_goesBy_27 : decode (ch_bc m_m_goesBy) 27 = .ok (.iload_n 2, 1) := by decide +kernel
theorem d_m_goesBy_28 : decode (ch_bc m_m_goesBy) 28 = .ok (.if_icmp .eq 6, 3) := by decide +kernel
theorem d_m_goesBy_31 : decode (ch_bc m_m_goesBy) 31 = .ok (.goto 50, 3) := by decide +kernel
theorem d_m_goesBy_34 : decode (ch_bc m_m_goesBy) 34 = .ok (.aload_n 0, 1) := by decide +kernel
theorem d_m_goesBy_35 : decode (ch_bc m_m_goesBy) 35 = .ok (.iload_n 2, 1) := by decide +kernel
theorem d_m_goesBy_36 : decode (ch_bc m_m_goesBy) 36 = .ok (.iconst 0, 1) := by decide +kernel
theorem d_m_goesBy_37 : decode (ch_bc m_m_goesBy) 37 = .ok (.invokevirtual 85, 3) := by decide +kernel
theorem d_m_goesBy_40 : decode (ch_bc m_m_goesBy) 40 = .ok (.ifCond .le 30, 3) := by decide +kernel
theorem d_m_goesBy_43 : decode (ch_bc m_m_goesBy) 43 = .ok (.aload_n 0, 1) := by decide +kernel
theorem d_m_goesBy_44 : decode (ch_bc m_m_goesBy) 44 = .ok (.iload_n 2, 1) := by decide +kernel
theorem d_m_goesBy_45 : decode (ch_bc m_m_goesBy) 45 = .ok (.iconst 0, 1) := by decide +kernel
theorem d_m_goesBy_46 : decode (ch_bc m_m_goesBy) 46 = .ok (.aload_n 0, 1) := by decide +kernel
theorem d_m_goesBy_47 : decode (ch_bc m_m_goesBy) 47 = .ok (.iload_n 2, 1) := by decide +kernel
theorem d_m_goesBy_48 : decode (ch_bc m_m_goesBy) 48 = .ok (.iconst 0, 1) := by decide +kernel
theorem d_m_goesBy_49 : decode (ch_bc m_m_goesBy) 49 = .ok (.invokevirtual 85, 3) := by decide +kernel
theorem d_m_goesBy_52 : decode (ch_bc m_m_goesBy) 52 = .ok (.iconst 1, 1) := by decide +kernel
theorem d_m_goesBy_53 : decode (ch_bc m_m_goesBy) 53 = .ok (.isub, 1) := by decide +kernel
theorem d_m_goesBy_54 : decode (ch_bc m_m_goesBy) 54 = .ok (.invokevirtual 89, 3) := by decide +kernel
theorem d_m_goesBy_57 : decode (ch_bc m_m_goesBy) 57 = .ok (.aload_n 0, 1) := by decide +kernel
theorem d_m_goesBy_58 : decode (ch_bc m_m_goesBy) 58 = .ok (.getfield 9, 3) := by decide +kernel
theorem d_m_goesBy_61 : decode (ch_bc m_m_goesBy) 61 = .ok (.iconst 1, 1) := by decide +kernel
theorem d_m_goesBy_62 : decode (ch_bc m_m_goesBy) 62 = .ok (.dup2, 1) := by decide +kernel
theorem d_m_goesBy_63 : decode (ch_bc m_m_goesBy) 63 = .ok (.iaload, 1) := by decide +kernel
theorem d_m_goesBy_64 : decode (ch_bc m_m_goesBy) 64 = .ok (.iconst 1, 1) := by decide +kernel
theorem d_m_goesBy_65 : decode (ch_bc m_m_goesBy) 65 = .ok (.iadd, 1) := by decide +kernel
theorem d_m_goesBy_66 : decode (ch_bc m_m_goesBy) 66 = .ok (.iastore, 1) := by decide +kernel
theorem d_m_goesBy_67 : decode (ch_bc m_m_goesBy) 67 = .ok (.goto 14, 3) := by decide +kernel
theorem d_m_goesBy_70 : decode (ch_bc m_m_goesBy) 70 = .ok (.aload_n 0, 1) := by decide +kernel
theorem d_m_goesBy_71 : decode (ch_bc m_m_goesBy) 71 = .ok (.iload_n 3, 1) := by decide +kernel
theorem d_m_goesBy_72 : decode (ch_bc m_m_goesBy) 72 = .ok (.invokevirtual 140, 3) := by decide +kernel
theorem d_m_goesBy_75 : decode (ch_bc m_m_goesBy) 75 = .ok (.iload_n 1, 1) := by decide +kernel
theorem d_m_goesBy_76 : decode (ch_bc m_m_goesBy) 76 = .ok (.iconst 1, 1) := by decide +kernel
theorem d_m_goesBy_77 : decode (ch_bc m_m_goesBy) 77 = .ok (.iload_n 3, 1) := by decide +kernel
theorem d_m_goesBy_78 : decode (ch_bc m_m_goesBy) 78 = .ok (.ishl, 1) := by decide +kernel
theorem d_m_goesBy_79 : decode (ch_bc m_m_goesBy) 79 = .ok (.ior, 1) := by decide +kernel
theorem d_m_goesBy_80 : decode (ch_bc m_m_goesBy) 80 = .ok (.istore_n 1, 1) := by decide +kernel
theorem d_m_goesBy_81 : decode (ch_bc m_m_goesBy) 81 = .ok (.iinc 3 1, 3) := by decide +kernel
theorem d_m_goesBy_84 : decode (ch_bc m_m_goesBy) 84 = .ok (.goto (-68), 3) := by decide +kernel
theorem d_m_goesBy_87 : decode (ch_bc m_m_goesBy) 87 = .ok (.iinc 2 1, 3) := by decide +kernel
theorem d_m_goesBy_90 : decode (ch_bc m_m_goesBy) 90 = .ok (.goto (-86), 3) := by decide +kernel
theorem d_m_goesBy_93 : decode (ch_bc m_m_goesBy) 93 = .ok (.iconst 0, 1) := by decide +kernel
theorem d_m_goesBy_94 : decode (ch_bc m_m_goesBy) 94 = .ok (.istore_n 2, 1) := by decide +kernel
theorem d_m_goesBy_95 : decode (ch_bc m_m_goesBy) 95 = .ok (.iload_n 2, 1) := by decide +kernel
theorem d_m_goesBy_96 : decode (ch_bc m_m_goesBy) 96 = .ok (.aload_n 0, 1) := by decide +kernel
theorem d_m_goesBy_97 : decode (ch_bc m_m_goesBy) 97 = .ok (.getfield 9, 3) := by decide +kernel
theorem d_m_goesBy_100 : decode (ch_bc m_m_goesBy) 100 = .ok (.iconst 0, 1) := by decide +kernel
theorem d_m_goesBy_101 : decode (ch_bc m_m_goesBy) 101 = .ok (.iaload, 1) := by decide +kernel
theorem d_m_goesBy_102 : decode (ch_bc m_m_goesBy) 102 = .ok (.if_icmp .ge 42, 3) := by decide +kernel
theorem d_m_goesBy_105 : decode (ch_bc m_m_goesBy) 105 = .ok (.aload_n 0, 1) := by decide +kernel
theorem d_m_goesBy_106 : decode (ch_bc m_m_goesBy) 106 = .ok (.getfield 9, 3) := by decide +kernel
theorem d_m_goesBy_109 : decode (ch_bc m_m_goesBy) 109 = .ok (.iconst 1, 1) := by decide +kernel
theorem d_m_goesBy_110 : decode (ch_bc m_m_goesBy) 110 = .ok (.iaload, 1) := by decide +kernel
theorem d_m_goesBy_111 : decode (ch_bc m_m_goesBy) 111 = .ok (.ifCond .le 33, 3) := by decide +kernel
theorem d_m_goesBy_114 : decode (ch_bc m_m_goesBy) 114 = .ok (.aload_n 0, 1) := by decide +kernel
theorem d_m_goesBy_115 : decode (ch_bc m_m_goesBy) 115 = .ok (.getfield 9, 3) := by decide +kernel
theorem d_m_goesBy_118 : decode (ch_bc m_m_goesBy) 118 = .ok (.iconst 1, 1) := by decide +kernel
theorem d_m_goesBy_119 : decode (ch_bc m_m_goesBy) 119 = .ok (.dup2, 1) := by decide +kernel
theorem d_m_goesBy_120 : decode (ch_bc m_m_goesBy) 120 = .ok (.iaload, 1) := by decide +kernel
theorem d_m_goesBy_121 : decode (ch_bc m_m_goesBy) 121 = .ok (.iconst 1, 1) := by decide +kernel
theorem d_m_goesBy_122 : decode (ch_bc m_m_goesBy) 122 = .ok (.isub, 1) := by decide +kernel
theorem d_m_goesBy_123 : decode (ch_bc m_m_goesBy) 123 = .ok (.iastore, 1) := by decide +kernel
theorem d_m_goesBy_124 : decode (ch_bc m_m_goesBy) 124 = .ok (.aload_n 0, 1) := by decide +kernel
theorem d_m_goesBy_125 : decode (ch_bc m_m_goesBy) 125 = .ok (.iload_n 2, 1) := by decide +kernel
theorem d_m_goesBy_126 : decode (ch_bc m_m_goesBy) 126 = .ok (.iconst 0, 1) := by decide +kernel
theorem d_m_goesBy_127 : decode (ch_bc m_m_goesBy) 127 = .ok (.aload_n 0, 1) := by decide +kernel
theorem d_m_goesBy_128 : decode (ch_bc m_m_goesBy) 128 = .ok (.iload_n 2, 1) := by decide +kernel
theorem d_m_goesBy_129 : decode (ch_bc m_m_goesBy) 129 = .ok (.iconst 0, 1) := by decide +kernel
theorem d_m_goesBy_130 : decode (ch_bc m_m_goesBy) 130 = .ok (.invokevirtual 85, 3) := by decide +kernel
theorem d_m_goesBy_133 : decode (ch_bc m_m_goesBy) 133 = .ok (.iconst 1, 1) := by decide +kernel
theorem d_m_goesBy_134 : decode (ch_bc m_m_goesBy) 134 = .ok (.iadd, 1) := by decide +kernel
theorem d_m_goesBy_135 : decode (ch_bc m_m_goesBy) 135 = .ok (.invokevirtual 89, 3) := by decide +kernel
theorem d_m_goesBy_138 : decode (ch_bc m_m_goesBy) 138 = .ok (.iinc 2 1, 3) := by decide +kernel
theorem d_m_goesBy_141 : decode (ch_bc m_m_goesBy) 141 = .ok (.goto (-46), 3) := by decide +kernel
theorem d_m_goesBy_144 : decode (ch_bc m_m_goesBy) 144 = .ok (.aload_n 0, 1) := by decide +kernel
theorem d_m_goesBy_145 : decode (ch_bc m_m_goesBy) 145 = .ok (.getfield 9, 3) := by decide +kernel
theorem d_m_goesBy_148 : decode (ch_bc m_m_goesBy) 148 = .ok (.bipush 6, 2) := by decide +kernel
theorem d_m_goesBy_150 : decode (ch_bc m_m_goesBy) 150 = .ok (.dup2, 1) := by decide +kernel
theorem d_m_goesBy_151 : decode (ch_bc m_m_goesBy) 151 = .ok (.iaload, 1) := by decide +kernel
theorem d_m_goesBy_152 : decode (ch_bc m_m_goesBy) 152 = .ok (.iload_n 1, 1) := by decide +kernel
theorem d_m_goesBy_153 : decode (ch_bc m_m_goesBy) 153 = .ok (.invokestatic 171, 3) := by decide +kernel
theorem d_m_goesBy_156 : decode (ch_bc m_m_goesBy) 156 = .ok (.iadd, 1) := by decide +kernel
theorem d_m_goesBy_157 : decode (ch_bc m_m_goesBy) 157 = .ok (.iastore, 1) := by decide +kernel
theorem d_m_goesBy_158 : decode (ch_bc m_m_goesBy) 158 = .ok (.aload_n 0, 1) := by decide +kernel
theorem d_m_goesBy_159 : decode (ch_bc m_m_goesBy) 159 = .ok (.getfield 9, 3) := by decide +kernel
theorem d_m_goesBy_162 : decode (ch_bc m_m_goesBy) 162 = .ok (.bipush 7, 2) := by decide +kernel
theorem d_m_goesBy_164 : decode (ch_bc m_m_goesBy) 164 = .ok (.dup2, 1) := by decide +kernel
theorem d_m_goesBy_165 : decode (ch_bc m_m_goesBy) 165 = .ok (.iaload, 1) := by decide +kernel
theorem d_m_goesBy_166 : decode (ch_bc m_m_goesBy) 166 = .ok (.iconst 1, 1) := by decide +kernel
theorem d_m_goesBy_167 : decode (ch_bc m_m_goesBy) 167 = .ok (.iadd, 1) := by decide +kernel
theorem d_m_goesBy_168 : decode (ch_bc m_m_goesBy) 168 = .ok (.iastore, 1) := by decide +kernel
theorem d_m_goesBy_169 : decode (ch_bc m_m_goesBy) 169 = .ok (.iload_n 1, 1) := by decide +kernel
theorem d_m_goesBy_170 : decode (ch_bc m_m_goesBy) 170 = .ok (.ireturn, 1) := by decide +kernel
theorem d_m_term_0 : decode (ch_bc m_m_term) 0 = .ok (.aload_n 0, 1) := by decide +kernel
theorem d_m_term_1 : decode (ch_bc m_m_term) 1 = .ok (.invokevirtual 96, 3) := by decide +kernel
theorem d_m_term_4 : decode (ch_bc m_m_term) 4 = .ok (.aload_n 0, 1) := by decide +kernel
theorem d_m_term_5 : decode (ch_bc m_m_term) 5 = .ok (.getfield 9, 3) := by decide +kernel
theorem d_m_term_8 : decode (ch_bc m_m_term) 8 = .ok (.iconst 0, 1) := by decide +kernel
theorem d_m_term_9 : decode (ch_bc m_m_term) 9 = .ok (.iaload, 1) := by decide +kernel
theorem d_m_term_10 : decode (ch_bc m_m_term) 10 = .ok (.ifCond .ne 15, 3) := by decide +kernel
theorem d_m_term_13 : decode (ch_bc m_m_term) 13 = .ok (.aload_n 0, 1) := by decide +kernel
theorem d_m_term_14 : decode (ch_bc m_m_term) 14 = .ok (.aload_n 0, 1) := by decide +kernel
theorem d_m_term_15 : decode (ch_bc m_m_term) 15 = .ok (.bipush 13, 2) := by decide +kernel
theorem d_m_term_17 : decode (ch_bc m_m_term) 17 = .ok (.iconst 0, 1) := by decide +kernel
theorem d_m_term_18 : decode (ch_bc m_m_term) 18 = .ok (.invokevirtual 81, 3) := by decide +kernel
theorem d_m_term_21 : decode (ch_bc m_m_term) 21 = .ok (.invokevirtual 102, 3) := by decide +kernel
theorem d_m_term_24 : decode (ch_bc m_m_term) 24 = .ok (.ireturn, 1) := by decide +kernel
theorem d_m_term_25 : decode (ch_bc m_m_term) 25 = .ok (.aload_n 0, 1) := by decide +kernel
theorem d_m_term_26 : decode (ch_bc m_m_term) 26 = .ok (.aload_n 0, 1) := by decide +kernel
theorem d_m_term_27 : decode (ch_bc m_m_term) 27 = .ok (.aload_n 0, 1) := by decide +kernel
theorem d_m_term_28 : decode (ch_bc m_m_term) 28 = .ok (.invokevirtual 176, 3) := by decide +kernel
theorem d_m_term_31 : decode (ch_bc m_m_term) 31 = .ok (.invokestatic 171, 3) := by decide +kernel
theorem d_m_term_34 : decode (ch_bc m_m_term) 34 = .ok (.invokevirtual 93, 3) := by decide +kernel
theorem d_m_term_37 : decode (ch_bc m_m_term) 37 = .ok (.invokevirtual 102, 3) := by decide +kernel
theorem d_m_term_40 : decode (ch_bc m_m_term) 40 = .ok (.ireturn, 1) := by decide +kernel
theorem d_m_gives_0 : decode (ch_bc m_m_gives) 0 = .ok (.aload_n 0, 1) := by decide +kernel
theorem d_m_gives_1 : decode (ch_bc m_m_gives) 1 = .ok (.iload_n 1, 1) := by decide +kernel
theorem d_m_gives_2 : decode (ch_bc m_m_gives) 2 = .ok (.invokevirtual 106, 3) := by decide +kernel
theorem d_m_gives_5 : decode (ch_bc m_m_gives) 5 = .ok (.ifCond .eq 11, 3) := by decide +kernel
theorem d_m_gives_8 : decode (ch_bc m_m_gives) 8 = .ok (.aload_n 0, 1) := by decide +kernel
theorem d_m_gives_9 : decode (ch_bc m_m_gives) 9 = .ok (.iload_n 2, 1) := by decide +kernel
theorem d_m_gives_10 : decode (ch_bc m_m_gives) 10 = .ok (.invokevirtual 106, 3) := by decide +kernel
theorem d_m_gives_13 : decode (ch_bc m_m_gives) 13 = .ok (.ifCond .ne 5, 3) := by decide +kernel
theorem d_m_gives_16 : decode (ch_bc m_m_gives) 16 = .ok (.iconst 0, 1) := by decide +kernel
theorem d_m_gives_17 : decode (ch_bc m_m_gives) 17 = .ok (.ireturn, 1) := by decide +kernel
theorem d_m_gives_18 : decode (ch_bc m_m_gives) 18 = .ok (.iload_n 1, 1) := by decide +kernel
theorem d_m_gives_19 : decode (ch_bc m_m_gives) 19 = .ok (.iload_n 2, 1) := by decide +kernel
theorem d_m_gives_20 : decode (ch_bc m_m_gives) 20 = .ok (.if_icmp .ne 11, 3) := by decide +kernel
theorem d_m_gives_23 : decode (ch_bc m_m_gives) 23 = .ok (.aload_n 0, 1) := by decide +kernel
theorem d_m_gives_24 : decode (ch_bc m_m_gives) 24 = .ok (.bipush 11, 2) := by decide +kernel
theorem d_m_gives_26 : decode (ch_bc m_m_gives) 26 = .ok (.iload_n 1, 1) := by decide +kernel
theorem d_m_gives_27 : decode (ch_bc m_m_gives) 27 = .ok (.invokevirtual 81, 3) := by decide +kernel
theorem d_m_gives_30 : decode (ch_bc m_m_gives) 30 = .ok (.ireturn, 1) := by decide +kernel
theorem d_m_gives_31 : decode (ch_bc m_m_gives) 31 = .ok (.iload_n 3, 1) := by decide +kernel
theorem d_m_gives_32 : decode (ch_bc m_m_gives) 32 = .ok (.iconst 1, 1) := by decide +kernel
theorem d_m_gives_33 : decode (ch_bc m_m_gives) 33 = .ok (.bipush 99, 2) := by decide +kernel
theorem d_m_gives_35 : decode (ch_bc m_m_gives) 35 = .ok (.invokestatic 73, 3) := by decide +kernel
theorem d_m_gives_38 : decode (ch_bc m_m_gives) 38 = .ok (.ifCond .ne 10, 3) := by decide +kernel
theorem d_m_gives_41 : decode (ch_bc m_m_gives) 41 = .ok (.aload_n 0, 1) := by decide +kernel
theorem d_m_gives_42 : decode (ch_bc m_m_gives) 42 = .ok (.iconst 1, 1) := by decide +kernel
theorem d_m_gives_43 : decode (ch_bc m_m_gives) 43 = .ok (.iconst 0, 1) := by decide +kernel
theorem d_m_gives_44 : decode (ch_bc m_m_gives) 44 = .ok (.invokevirtual 81, 3) := by decide +kernel
theorem d_m_gives_47 : decode (ch_bc m_m_gives) 47 = .ok (.ireturn, 1) := by decide +kernel
theorem d_m_gives_48 : decode (ch_bc m_m_gives) 48 = .ok (.aload_n 0, 1) := by decide +kernel
theorem d_m_gives_49 : decode (ch_bc m_m_gives) 49 = .ok (.iload_n 1, 1) := by decide +kernel
theorem d_m_gives_50 : decode (ch_bc m_m_gives) 50 = .ok (.iconst 0, 1) := by decide +kernel
theorem d_m_gives_51 : decode (ch_bc m_m_gives) 51 = .ok (.invokevirtual 85, 3) := by decide +kernel
theorem d_m_gives_54 : decode (ch_bc m_m_gives) 54 = .ok (.iload_n 3, 1) := by decide +kernel
theorem d_m_gives_55 : decode (ch_bc m_m_gives) 55 = .ok (.if_icmp .ge 17, 3) := by decide +kernel
theorem d_m_gives_58 : decode (ch_bc m_m_gives) 58 = .ok (.aload_n 0, 1) := by decide +kernel
theorem d_m_gives_59 : decode (ch_bc m_m_gives) 59 = .ok (.iconst 5, 1) := by decide +kernel
theorem d_m_gives_60 : decode (ch_bc m_m_gives) 60 = .ok (.iload_n 3, 1) := by decide +kernel
theorem d_m_gives_61 : decode (ch_bc m_m_gives) 61 = .ok (.aload_n 0, 1) := by decide +kernel
theorem d_m_gives_62 : decode (ch_bc m_m_gives) 62 = .ok (.iload_n 1, 1) := by decide +kernel
theorem d_m_gives_63 : decode (ch_bc m_m_gives) 63 = .ok (.iconst 0, 1) := by decide +kernel
theorem d_m_gives_64 : decode (ch_bc m_m_gives) 64 = .ok (.invokevirtual 85, 3) := by decide +kernel
theorem d_m_gives_67 : decode (ch_bc m_m_gives) 67 = .ok (.isub, 1) := by decide +kernel
theorem d_m_gives_68 : decode (ch_bc m_m_gives) 68 = .ok (.invokevirtual 81, 3) := by decide +kernel
theorem d_m_gives_71 : decode (ch_bc m_m_gives) 71 = .ok (.ireturn, 1) := by decide +kernel
theorem d_m_gives_72 : decode (ch_bc m_m_gives) 72 = .ok (.aload_n 0, 1) := by decide +kernel
theorem d_m_gives_73 : decode (ch_bc m_m_gives) 73 = .ok (.iload_n 1, 1) := by decide +kernel
theorem d_m_gives_74 : decode (ch_bc m_m_gives) 74 = .ok (.iconst 0, 1) := by decide +kernel
theorem d_m_gives_75 : decode (ch_bc m_m_gives) 75 = .ok (.aload_n 0, 1) := by decide +kernel
theorem d_m_gives_76 : decode (ch_bc m_m_gives) 76 = .ok (.iload_n 1, 1) := by decide +kernel
theorem d_m_gives_77 : decode (ch_bc m_m_gives) 77 = .ok (.iconst 0, 1) := by decide +kernel
theorem d_m_gives_78 : decode (ch_bc m_m_gives) 78 = .ok (.invokevirtual 85, 3) := by decide +kernel
theorem d_m_gives_81 : decode (ch_bc m_m_gives) 81 = .ok (.iload_n 3, 1) := by decide +kernel
theorem d_m_gives_82 : decode (ch_bc m_m_gives) 82 = .ok (.isub, 1) := by decide +kernel
theorem d_m_gives_83 : decode (ch_bc m_m_gives) 83 = .ok (.invokevirtual 89, 3) := by decide +kernel
theorem d_m_gives_86 : decode (ch_bc m_m_gives) 86 = .ok (.aload_n 0, 1) := by decide +kernel
theorem d_m_gives_87 : decode (ch_bc m_m_gives) 87 = .ok (.iload_n 2, 1) := by decide +kernel
theorem d_m_gives_88 : decode (ch_bc m_m_gives) 88 = .ok (.iconst 0, 1) := by decide +kernel
theorem d_m_gives_89 : decode (ch_bc m_m_gives) 89 = .ok (.aload_n 0, 1) := by decide +kernel
theorem d_m_gives_90 : decode (ch_bc m_m_gives) 90 = .ok (.iload_n 2, 1) := by decide +kernel
theorem d_m_gives_91 : decode (ch_bc m_m_gives) 91 = .ok (.iconst 0, 1) := by decide +kernel
theorem d_m_gives_92 : decode (ch_bc m_m_gives) 92 = .ok (.invokevirtual 85, 3) := by decide +kernel
theorem d_m_gives_95 : decode (ch_bc m_m_gives) 95 = .ok (.iload_n 3, 1) := by decide +kernel
theorem d_m_gives_96 : decode (ch_bc m_m_gives) 96 = .ok (.iadd, 1) := by decide +kernel
theorem d_m_gives_97 : decode (ch_bc m_m_gives) 97 = .ok (.invokevirtual 89, 3) := by decide +kernel
theorem d_m_gives_100 : decode (ch_bc m_m_gives) 100 = .ok (.aload_n 0, 1) := by decide +kernel
theorem d_m_gives_101 : decode (ch_bc m_m_gives) 101 = .ok (.aload_n 0, 1) := by decide +kernel
theorem d_m_gives_102 : decode (ch_bc m_m_gives) 102 = .ok (.iload_n 1, 1) := by decide +kernel
theorem d_m_gives_103 : decode (ch_bc m_m_gives) 103 = .ok (.iconst 0, 1) := by decide +kernel
theorem d_m_gives_104 : decode (ch_bc m_m_gives) 104 = .ok (.invokevirtual 85, 3) := by decide +kernel
theorem d_m_gives_107 : decode (ch_bc m_m_gives) 107 = .ok (.invokevirtual 93, 3) := by decide +kernel
theorem d_m_gives_110 : decode (ch_bc m_m_gives) 110 = .ok (.ireturn, 1) := by decide +kernel
theorem d_m_give_0 : decode (ch_bc m_m_give) 0 = .ok (.aload_n 0, 1) := by decide +kernel
theorem d_m_give_1 : decode (ch_bc m_m_give) 1 = .ok (.invokevirtual 96, 3) := by decide +kernel
theorem d_m_give_4 : decode (ch_bc m_m_give) 4 = .ok (.aload_n 0, 1) := by decide +kernel
theorem d_m_give_5 : decode (ch_bc m_m_give) 5 = .ok (.aload_n 0, 1) := by decide +kernel
theorem d_m_give_6 : decode (ch_bc m_m_give) 6 = .ok (.iload_n 1, 1) := by decide +kernel
theorem d_m_give_7 : decode (ch_bc m_m_give) 7 = .ok (.iload_n 2, 1) := by decide +kernel
theorem d_m_give_8 : decode (ch_bc m_m_give) 8 = .ok (.iload_n 3, 1) := by decide +kernel
theorem d_m_give_9 : decode (ch_bc m_m_give) 9 = .ok (.invokevirtual 179, 3) := by decide +kernel
theorem d_m_give_12 : decode (ch_bc m_m_give) 12 = .ok (.invokevirtual 102, 3) := by decide +kernel
theorem d_m_give_15 : decode (ch_bc m_m_give) 15 = .ok (.ireturn, 1) := by decide +kernel
theorem d_m_squareOf_0 : decode (ch_bc m_m_squareOf) 0 = .ok (.aload_n 0, 1) := by decide +kernel
theorem d_m_squareOf_1 : decode (ch_bc m_m_squareOf) 1 = .ok (.iload_n 1, 1) := by decide +kernel
theorem d_m_squareOf_2 : decode (ch_bc m_m_squareOf) 2 = .ok (.iconst 0, 1) := by decide +kernel
theorem d_m_squareOf_3 : decode (ch_bc m_m_squareOf) 3 = .ok (.bipush 11, 2) := by decide +kernel
theorem d_m_squareOf_5 : decode (ch_bc m_m_squareOf) 5 = .ok (.invokestatic 73, 3) := by decide +kernel
theorem d_m_squareOf_8 : decode (ch_bc m_m_squareOf) 8 = .ok (.ifCond .eq 7, 3) := by decide +kernel
theorem d_m_squareOf_11 : decode (ch_bc m_m_squareOf) 11 = .ok (.iconst 0, 1) := by decide +kernel
theorem d_m_squareOf_12 : decode (ch_bc m_m_squareOf) 12 = .ok (.goto 4, 3) := by decide +kernel
theorem d_m_squareOf_15 : decode (ch_bc m_m_squareOf) 15 = .ok (.iconst 1, 1) := by decide +kernel
theorem d_m_squareOf_16 : decode (ch_bc m_m_squareOf) 16 = .ok (.putfield 48, 3) := by decide +kernel
theorem d_m_squareOf_19 : decode (ch_bc m_m_squareOf) 19 = .ok (.aload_n 0, 1) := by decide +kernel
theorem d_m_squareOf_20 : decode (ch_bc m_m_squareOf) 20 = .ok (.getfield 48, 3) := by decide +kernel
theorem d_m_squareOf_23 : decode (ch_bc m_m_squareOf) 23 = .ok (.ifCond .le 7, 3) := by decide +kernel
theorem d_m_squareOf_26 : decode (ch_bc m_m_squareOf) 26 = .ok (.iconst 0, 1) := by decide +kernel
theorem d_m_squareOf_27 : decode (ch_bc m_m_squareOf) 27 = .ok (.goto 20, 3) := by decide +kernel
theorem d_m_squareOf_30 : decode (ch_bc m_m_squareOf) 30 = .ok (.iload_n 2, 1) := by decide +kernel
theorem d_m_squareOf_31 : decode (ch_bc m_m_squareOf) 31 = .ok (.ifCond .eq 11, 3) := by decide +kernel
theorem d_m_squareOf_34 : decode (ch_bc m_m_squareOf) 34 = .ok (.aload_n 0, 1) := by decide +kernel
theorem d_m_squareOf_35 : decode (ch_bc m_m_squareOf) 35 = .ok (.iload_n 1, 1) := by decide +kernel
theorem d_m_squareOf_36 : decode (ch_bc m_m_squareOf) 36 = .ok (.invokevirtual 112, 3) := by decide +kernel
theorem d_m_squareOf_39 : decode (ch_bc m_m_squareOf) 39 = .ok (.goto 8, 3) := by decide +kernel
theorem d_m_squareOf_42 : decode (ch_bc m_m_squareOf) 42 = .ok (.aload_n 0, 1) := by decide +kernel
theorem d_m_squareOf_43 : decode (ch_bc m_m_squareOf) 43 = .ok (.iload_n 1, 1) := by decide +kernel
theorem d_m_squareOf_44 : decode (ch_bc m_m_squareOf) 44 = .ok (.invokevirtual 109, 3) := by decide +kernel
theorem d_m_squareOf_47 : decode (ch_bc m_m_squareOf) 47 = .ok (.ireturn, 1) := by decide +kernel
theorem d_m_ownSet_0 : decode (ch_bc m_m_ownSet) 0 = .ok (.iconst 0, 1) := by decide +kernel
theorem d_m_ownSet_1 : decode (ch_bc m_m_ownSet) 1 = .ok (.istore_n 2, 1) := by decide +kernel
theorem d_m_ownSet_2 : decode (ch_bc m_m_ownSet) 2 = .ok (.iconst 0, 1) := by decide +kernel
theorem d_m_ownSet_3 : decode (ch_bc m_m_ownSet) 3 = .ok (.istore_n 3, 1) := by decide +kernel
theorem d_m_ownSet_4 : decode (ch_bc m_m_ownSet) 4 = .ok (.iload_n 3, 1) := by decide +kernel
theorem d_m_ownSet_5 : decode (ch_bc m_m_ownSet) 5 = .ok (.bipush 12, 2) := by decide +kernel
theorem d_m_ownSet_7 : decode (ch_bc m_m_ownSet) 7 = .ok (.if_icmp .ge 24, 3) := by decide +kernel
theorem d_m_ownSet_10 : decode (ch_bc m_m_ownSet) 10 = .ok (.aload_n 0, 1) := by decide +kernel
theorem d_m_ownSet_11 : decode (ch_bc m_m_ownSet) 11 = .ok (.iload_n 3, 1) := by decide +kernel
theorem d_m_ownSet_12 : decode (ch_bc m_m_ownSet) 12 = .ok (.invokevirtual 109, 3) := by decide +kernel
theorem d_m_ownSet_15 : decode (ch_bc m_m_ownSet) 15 = .ok (.iload_n 1, 1) := by decide +kernel
theorem d_m_ownSet_16 : decode (ch_bc m_m_ownSet) 16 = .ok (.if_icmp .ne 9, 3) := by decide +kernel
theorem d_m_ownSet_19 : decode (ch_bc m_m_ownSet) 19 = .ok (.iload_n 2, 1) := by decide +kernel
theorem d_m_ownSet_20 : decode (ch_bc m_m_ownSet) 20 = .ok (.iconst 1, 1) := by decide +kernel
theorem d_m_ownSet_21 : decode (ch_bc m_m_ownSet) 21 = .ok (.iload_n 3, 1) := by decide +kernel
theorem d_m_ownSet_22 : decode (ch_bc m_m_ownSet) 22 = .ok (.ishl, 1) := by decide +kernel
theorem d_m_ownSet_23 : decode (ch_bc m_m_ownSet) 23 = .ok (.ior, 1) := by decide +kernel
theorem d_m_ownSet_24 : decode (ch_bc m_m_ownSet) 24 = .ok (.istore_n 2, 1) := by decide +kernel
theorem d_m_ownSet_25 : decode (ch_bc m_m_ownSet) 25 = .ok (.iinc 3 1, 3) := by decide +kernel
theorem d_m_ownSet_28 : decode (ch_bc m_m_ownSet) 28 = .ok (.goto (-24), 3) := by decide +kernel
theorem d_m_ownSet_31 : decode (ch_bc m_m_ownSet) 31 = .ok (.iload_n 2, 1) := by decide +kernel
theorem d_m_ownSet_32 : decode (ch_bc m_m_ownSet) 32 = .ok (.ireturn, 1) := by decide +kernel
theorem d_m_childOf_0 : decode (ch_bc m_m_childOf) 0 = .ok (.aload_n 0, 1) := by decide +kernel
theorem d_m_childOf_1 : decode (ch_bc m_m_childOf) 1 = .ok (.iconst 0, 1) := by decide +kernel
theorem d_m_childOf_2 : decode (ch_bc m_m_childOf) 2 = .ok (.putfield 48, 3) := by decide +kernel
theorem d_m_childOf_5 : decode (ch_bc m_m_childOf) 5 = .ok (.aload_n 0, 1) := by decide +kernel
theorem d_m_childOf_6 : decode (ch_bc m_m_childOf) 6 = .ok (.iload_n 1, 1) := by decide +kernel
theorem d_m_childOf_7 : decode (ch_bc m_m_childOf) 7 = .ok (.invokevirtual 77, 3) := by decide +kernel
theorem d_m_childOf_10 : decode (ch_bc m_m_childOf) 10 = .ok (.ifCond .ne 9, 3) := by decide +kernel
theorem d_m_childOf_13 : decode (ch_bc m_m_childOf) 13 = .ok (.aload_n 0, 1) := by decide +kernel
theorem d_m_childOf_14 : decode (ch_bc m_m_childOf) 14 = .ok (.iconst 1, 1) := by decide +kernel
theorem d_m_childOf_15 : decode (ch_bc m_m_childOf) 15 = .ok (.invokevirtual 70, 3) := by decide +kernel
theorem d_m_childOf_18 : decode (ch_bc m_m_childOf) 18 = .ok (.ireturn, 1) := by decide +kernel
theorem d_m_childOf_19 : decode (ch_bc m_m_childOf) 19 = .ok (.iconst 0, 1) := by decide +kernel
theorem d_m_childOf_20 : decode (ch_bc m_m_childOf) 20 = .ok (.istore_n 3, 1) := by decide +kernel
theorem d_m_childOf_21 : decode (ch_bc m_m_childOf) 21 = .ok (.iload_n 2, 1) := by decide +kernel
theorem d_m_childOf_22 : decode (ch_bc m_m_childOf) 22 = .ok (.tableswitch 109 0 6 #[42, 42, 42, 49, 58, 95, 102], 42) := by decide +kernel
theorem d_m_childOf_64 : decode (ch_bc m_m_childOf) 64 = .ok (.aload_n 0, 1) := by decide +kernel
theorem d_m_childOf_65 : decode (ch_bc m_m_childOf) 65 = .ok (.iload_n 1, 1) := by decide +kernel
theorem d_m_childOf_66 : decode (ch_bc m_m_childOf) 66 = .ok (.iload_n 2, 1) := by decide +kernel
theorem d_m_childOf_67 : decode (ch_bc m_m_childOf) 67 = .ok (.invokevirtual 85, 3) := by decide +kernel
theorem d_m_childOf_70 : decode (ch_bc m_m_childOf) 70 = .ok (.ireturn, 1) := by decide +kernel
theorem d_m_childOf_71 : decode (ch_bc m_m_childOf) 71 = .ok (.aload_n 0, 1) := by decide +kernel
theorem d_m_childOf_72 : decode (ch_bc m_m_childOf) 72 = .ok (.iload_n 1, 1) := by decide +kernel
theorem d_m_childOf_73 : decode (ch_bc m_m_childOf) 73 = .ok (.invokevirtual 182, 3) := by decide +kernel
theorem d_m_childOf_76 : decode (ch_bc m_m_childOf) 76 = .ok (.invokestatic 171, 3) := by decide +kernel
theorem d_m_childOf_79 : decode (ch_bc m_m_childOf) 79 = .ok (.ireturn, 1) := by decide +kernel
theorem d_m_childOf_80 : decode (ch_bc m_m_childOf) 80 = .ok (.iconst 0, 1) := by decide +kernel
theorem d_m_childOf_81 : decode (ch_bc m_m_childOf) 81 = .ok (.istore 4, 2) := by decide +kernel
theorem d_m_childOf_83 : decode (ch_bc m_m_childOf) 83 = .ok (.iload 4, 2) := by decide +kernel
theorem d_m_childOf_85 : decode (ch_bc m_m_childOf) 85 = .ok (.bipush 12, 2) := by decide +kernel
theorem d_m_childOf_87 : decode (ch_bc m_m_childOf) 87 = .ok (.if_icmp .ge 28, 3) := by decide +kernel
theorem d_m_childOf_90 : decode (ch_bc m_m_childOf) 90 = .ok (.aload_n 0, 1) := by decide +kernel
theorem d_m_childOf_91 : decode (ch_bc m_m_childOf) 91 = .ok (.iload 4, 2) := by decide +kernel
theorem d_m_childOf_93 : decode (ch_bc m_m_childOf) 93 = .ok (.invokevirtual 109, 3) := by decide +kernel
theorem d_m_childOf_96 : decode (ch_bc m_m_childOf) 96 = .ok (.iload_n 1, 1) := by decide +kernel
theorem d_m_childOf_97 : decode (ch_bc m_m_childOf) 97 = .ok (.if_icmp .ne 12, 3) := by decide +kernel
theorem d_m_childOf_100 : decode (ch_bc m_m_childOf) 100 = .ok (.iload_n 3, 1) := by decide +kernel
theorem d_m_childOf_101 : decode (ch_bc m_m_childOf) 101 = .ok (.aload_n 0, 1) := by decide +kernel
theorem d_m_childOf_102 : decode (ch_bc m_m_childOf) 102 = .ok (.iload 4, 2) := by decide +kernel
theorem d_m_childOf_104 : decode (ch_bc m_m_childOf) 104 = .ok (.invokevirtual 112, 3) := by decide +kernel
theorem d_m_childOf_107 : decode (ch_bc m_m_childOf) 107 = .ok (.iadd, 1) := by decide +kernel
theorem d_m_childOf_108 : decode (ch_bc m_m_childOf) 108 = .ok (.istore_n 3, 1) := by decide +kernel
theorem d_m_childOf_109 : decode (ch_bc m_m_childOf) 109 = .ok (.iinc 4 1, 3) := by decide +kernel
theorem d_m_childOf_112 : decode (ch_bc m_m_childOf) 112 = .ok (.goto (-29), 3) := by decide +kernel
theorem d_m_childOf_115 : decode (ch_bc m_m_childOf) 115 = .ok (.iload_n 3, 1) := by decide +kernel
theorem d_m_childOf_116 : decode (ch_bc m_m_childOf) 116 = .ok (.ireturn, 1) := by decide +kernel
theorem d_m_childOf_117 : decode (ch_bc m_m_childOf) 117 = .ok (.aload_n 0, 1) := by decide +kernel
theorem d_m_childOf_118 : decode (ch_bc m_m_childOf) 118 = .ok (.iload_n 1, 1) := by decide +kernel
theorem d_m_childOf_119 : decode (ch_bc m_m_childOf) 119 = .ok (.iconst 3, 1) := by decide +kernel
theorem d_m_childOf_120 : decode (ch_bc m_m_childOf) 120 = .ok (.invokevirtual 85, 3) := by decide +kernel
theorem d_m_childOf_123 : decode (ch_bc m_m_childOf) 123 = .ok (.ireturn, 1) := by decide +kernel
theorem d_m_childOf_124 : decode (ch_bc m_m_childOf) 124 = .ok (.aload_n 0, 1) := by decide +kernel
theorem d_m_childOf_125 : decode (ch_bc m_m_childOf) 125 = .ok (.iload_n 1, 1) := by decide +kernel
theorem d_m_childOf_126 : decode (ch_bc m_m_childOf) 126 = .ok (.iconst 4, 1) := by decide +kernel
theorem d_m_childOf_127 : decode (ch_bc m_m_childOf) 127 = .ok (.invokevirtual 85, 3) := by decide +kernel
theorem d_m_childOf_130 : decode (ch_bc m_m_childOf) 130 = .ok (.ireturn, 1) := by decide +kernel
theorem d_m_childOf_131 : decode (ch_bc m_m_childOf) 131 = .ok (.aload_n 0, 1) := by decide +kernel
theorem d_m_childOf_132 : decode (ch_bc m_m_childOf) 132 = .ok (.iconst 2, 1) := by decide +kernel
theorem d_m_childOf_133 : decode (ch_bc m_m_childOf) 133 = .ok (.invokevirtual 70, 3) := by decide +kernel
theorem d_m_childOf_136 : decode (ch_bc m_m_childOf) 136 = .ok (.ireturn, 1) := by decide +kernel
theorem d_m_squares_0 : decode (ch_bc m_m_squares) 0 = .ok (.aload_n 0, 1) := by decide +kernel
theorem d_m_squares_1 : decode (ch_bc m_m_squares) 1 = .ok (.aload_n 0, 1) := by decide +kernel
theorem d_m_squares_2 : decode (ch_bc m_m_squares) 2 = .ok (.iload_n 1, 1) := by decide +kernel
theorem d_m_squares_3 : decode (ch_bc m_m_squares) 3 = .ok (.invokevirtual 77, 3) := by decide +kernel
theorem d_m_squares_6 : decode (ch_bc m_m_squares) 6 = .ok (.ifCond .eq 7, 3) := by decide +kernel
theorem d_m_squares_9 : decode (ch_bc m_m_squares) 9 = .ok (.iconst 0, 1) := by decide +kernel
theorem d_m_squares_10 : decode (ch_bc m_m_squares) 10 = .ok (.goto 4, 3) := by decide +kernel
theorem d_m_squares_13 : decode (ch_bc m_m_squares) 13 = .ok (.iconst 1, 1) := by decide +kernel
theorem d_m_squares_14 : decode (ch_bc m_m_squares) 14 = .ok (.putfield 48, 3) := by decide +kernel
theorem d_m_squares_17 : decode (ch_bc m_m_squares) 17 = .ok (.aload_n 0, 1) := by decide +kernel
theorem d_m_squares_18 : decode (ch_bc m_m_squares) 18 = .ok (.getfield 48, 3) := by decide +kernel
theorem d_m_squares_21 : decode (ch_bc m_m_squares) 21 = .ok (.ifCond .ne 11, 3) := by decide +kernel
theorem d_m_squares_24 : decode (ch_bc m_m_squares) 24 = .ok (.aload_n 0, 1) := by decide +kernel
theorem d_m_squares_25 : decode (ch_bc m_m_squares) 25 = .ok (.iload_n 1, 1) := by decide +kernel
theorem d_m_squares_26 : decode (ch_bc m_m_squares) 26 = .ok (.invokevirtual 182, 3) := by decide +kernel
theorem d_m_squares_29 : decode (ch_bc m_m_squares) 29 = .ok (.goto 4, 3) := by decide +kernel
theorem d_m_squares_32 : decode (ch_bc m_m_squares) 32 = .ok (.iconst 0, 1) := by decide +kernel
theorem d_m_squares_33 : decode (ch_bc m_m_squares) 33 = .ok (.ireturn, 1) := by decide +kernel
theorem d_m_warrantAt_0 : decode (ch_bc m_m_warrantAt) 0 = .ok (.aload_n 0, 1) := by decide +kernel
theorem d_m_warrantAt_1 : decode (ch_bc m_m_warrantAt) 1 = .ok (.iload_n 1, 1) := by decide +kernel
theorem d_m_warrantAt_2 : decode (ch_bc m_m_warrantAt) 2 = .ok (.iconst 0, 1) := by decide +kernel
theorem d_m_warrantAt_3 : decode (ch_bc m_m_warrantAt) 3 = .ok (.aload_n 0, 1) := by decide +kernel
theorem d_m_warrantAt_4 : decode (ch_bc m_m_warrantAt) 4 = .ok (.getfield 9, 3) := by decide +kernel
theorem d_m_warrantAt_7 : decode (ch_bc m_m_warrantAt) 7 = .ok (.bipush 8, 2) := by decide +kernel
theorem d_m_warrantAt_9 : decode (ch_bc m_m_warrantAt) 9 = .ok (.iaload, 1) := by decide +kernel
theorem d_m_warrantAt_10 : decode (ch_bc m_m_warrantAt) 10 = .ok (.iconst 1, 1) := by decide +kernel
theorem d_m_warrantAt_11 : decode (ch_bc m_m_warrantAt) 11 = .ok (.isub, 1) := by decide +kernel
theorem d_m_warrantAt_12 : decode (ch_bc m_m_warrantAt) 12 = .ok (.invokestatic 73, 3) := by decide +kernel
theorem d_m_warrantAt_15 : decode (ch_bc m_m_warrantAt) 15 = .ok (.ifCond .eq 7, 3) := by decide +kernel
theorem d_m_warrantAt_18 : decode (ch_bc m_m_warrantAt) 18 = .ok (.iconst 0, 1) := by decide +kernel
theorem d_m_warrantAt_19 : decode (ch_bc m_m_warrantAt) 19 = .ok (.goto 4, 3) := by decide +kernel
theorem d_m_warrantAt_22 : decode (ch_bc m_m_warrantAt) 22 = .ok (.iconst 1, 1) := by decide +kernel
theorem d_m_warrantAt_23 : decode (ch_bc m_m_warrantAt) 23 = .ok (.putfield 48, 3) := by decide +kernel
theorem d_m_warrantAt_26 : decode (ch_bc m_m_warrantAt) 26 = .ok (.aload_n 0, 1) := by decide +kernel
theorem d_m_warrantAt_27 : decode (ch_bc m_m_warrantAt) 27 = .ok (.getfield 48, 3) := by decide +kernel
theorem d_m_warrantAt_30 : decode (ch_bc m_m_warrantAt) 30 = .ok (.ifCond .ne 15, 3) := by decide +kernel
theorem d_m_warrantAt_33 : decode (ch_bc m_m_warrantAt) 33 = .ok (.aload_n 0, 1) := by decide +kernel
theorem d_m_warrantAt_34 : decode (ch_bc m_m_warrantAt) 34 = .ok (.getfield 9, 3) := by decide +kernel
theorem d_m_warrantAt_37 : decode (ch_bc m_m_warrantAt) 37 = .ok (.bipush 9, 2) := by decide +kernel
theorem d_m_warrantAt_39 : decode (ch_bc m_m_warrantAt) 39 = .ok (.iload_n 1, 1) := by decide +kernel
theorem d_m_warrantAt_40 : decode (ch_bc m_m_warrantAt) 40 = .ok (.iadd, 1) := by decide +kernel
theorem d_m_warrantAt_41 : decode (ch_bc m_m_warrantAt) 41 = .ok (.iaload, 1) := by decide +kernel
theorem d_m_warrantAt_42 : decode (ch_bc m_m_warrantAt) 42 = .ok (.goto 4, 3) := by decide +kernel
theorem d_m_warrantAt_45 : decode (ch_bc m_m_warrantAt) 45 = .ok (.iconst 0, 1) := by decide +kernel
theorem d_m_warrantAt_46 : decode (ch_bc m_m_warrantAt) 46 = .ok (.ireturn, 1) := by decide +kernel
theorem d_m_looks_0 : decode (ch_bc m_m_looks) 0 = .ok (.aload_n 0, 1) := by decide +kernel
theorem d_m_looks_1 : decode (ch_bc m_m_looks) 1 = .ok (.getfield 42, 3) := by decide +kernel
theorem d_m_looks_4 : decode (ch_bc m_m_looks) 4 = .ok (.bipush 12, 2) := by decide +kernel
theorem d_m_looks_6 : decode (ch_bc m_m_looks) 6 = .ok (.iconst 0, 1) := by decide +kernel
theorem d_m_looks_7 : decode (ch_bc m_m_looks) 7 = .ok (.iastore, 1) := by decide +kernel
theorem d_m_looks_8 : decode (ch_bc m_m_looks) 8 = .ok (.aload_n 0, 1) := by decide +kernel
theorem d_m_looks_9 : decode (ch_bc m_m_looks) 9 = .ok (.getfield 45, 3) := by decide +kernel
theorem d_m_looks_12 : decode (ch_bc m_m_looks) 12 = .ok (.bipush 12, 2) := by decide +kernel
theorem d_m_looks_14 : decode (ch_bc m_m_looks) 14 = .ok (.iconst 0, 1) := by decide +kernel
theorem d_m_looks_15 : decode (ch_bc m_m_looks) 15 = .ok (.iastore, 1) := by decide +kernel
theorem d_m_looks_16 : decode (ch_bc m_m_looks) 16 = .ok (.bipush 11, 2) := by decide +kernel
theorem d_m_looks_18 : decode (ch_bc m_m_looks) 18 = .ok (.istore_n 2, 1) := by decide +kernel
theorem d_m_looks_19 : decode (ch_bc m_m_looks) 19 = .ok (.iload_n 2, 1) := by decide +kernel
theorem d_m_looks_20 : decode (ch_bc m_m_looks) 20 = .ok (.ifCond .lt 134, 3) := by decide +kernel
theorem d_m_looks_23 : decode (ch_bc m_m_looks) 23 = .ok (.aload_n 0, 1) := by decide +kernel
theorem d_m_looks_24 : decode (ch_bc m_m_looks) 24 = .ok (.getfield 42, 3) := by decide +kernel
theorem d_m_looks_27 : decode (ch_bc m_m_looks) 27 = .ok (.iload_n 2, 1) := by decide +kernel
theorem d_m_looks_28 : decode (ch_bc m_m_looks) 28 = .ok (.bipush 100, 2) := by decide +kernel
theorem d_m_looks_30 : decode (ch_bc m_m_looks) 30 = .ok (.iastore, 1) := by decide +kernel
theorem d_m_looks_31 : decode (ch_bc m_m_looks) 31 = .ok (.iconst 1, 1) := by decide +kernel
theorem d_m_looks_32 : decode (ch_bc m_m_looks) 32 = .ok (.istore_n 3, 1) := by decide +kernel
theorem d_m_looks_33 : decode (ch_bc m_m_looks) 33 = .ok (.iload_n 3, 1) := by decide +kernel
theorem d_m_looks_34 : decode (ch_bc m_m_looks) 34 = .ok (.iconst 4, 1) := by decide +kernel
theorem d_m_looks_35 : decode (ch_bc m_m_looks) 35 = .ok (.if_icmp .ge 113, 3) := by decide +kernel
theorem d_m_looks_38 : decode (ch_bc m_m_looks) 38 = .ok (.bipush 12, 2) := by decide +kernel
theorem d_m_looks_40 : decode (ch_bc m_m_looks) 40 = .ok (.iload_n 2, 1) := by decide +kernel
theorem d_m_looks_41 : decode (ch_bc m_m_looks) 41 = .ok (.iload_n 3, 1) := by decide +kernel
theorem d_m_looks_42 : decode (ch_bc m_m_looks) 42 = .ok (.iadd, 1) := by decide +kernel
theorem d_m_looks_43 : decode (ch_bc m_m_looks) 43 = .ok (.invokestatic 118, 3) := by decide +kernel
theorem d_m_looks_46 : decode (ch_bc m_m_looks) 46 = .ok (.istore 4, 2) := by decide +kernel
theorem d_m_looks_48 : decode (ch_bc m_m_looks) 48 = .ok (.aload_n 0, 1) := by decide +kernel
theorem d_m_looks_49 : decode (ch_bc m_m_looks) 49 = .ok (.getfield 42, 3) := by decide +kernel
theorem d_m_looks_52 : decode (ch_bc m_m_looks) 52 = .ok (.iload 4, 2) := by decide +kernel
theorem d_m_looks_54 : decode (ch_bc m_m_looks) 54 = .ok (.iaload, 1) := by decide +kernel
theorem d_m_looks_55 : decode (ch_bc m_m_looks) 55 = .ok (.aload_n 0, 1) := by decide +kernel
theorem d_m_looks_56 : decode (ch_bc m_m_looks) 56 = .ok (.iload_n 1, 1) := by decide +kernel
theorem d_m_looks_57 : decode (ch_bc m_m_looks) 57 = .ok (.iload_n 2, 1) := by decide +kernel
theorem d_m_looks_58 : decode (ch_bc m_m_looks) 58 = .ok (.iload_n 3, 1) := by decide +kernel
theorem d_m_looks_59 : decode (ch_bc m_m_looks) 59 = .ok (.iadd, 1) := by decide +kernel
theorem d_m_looks_60 : decode (ch_bc m_m_looks) 60 = .ok (.iconst 1, 1) := by decide +kernel
theorem d_m_looks_61 : decode (ch_bc m_m_looks) 61 = .ok (.isub, 1) := by decide +kernel
theorem d_m_looks_62 : decode (ch_bc m_m_looks) 62 = .ok (.invokevirtual 129, 3) := by decide +kernel
theorem d_m_looks_65 : decode (ch_bc m_m_looks) 65 = .ok (.ifCond .eq 7, 3) := by decide +kernel
theorem d_m_looks_68 : decode (ch_bc m_m_looks) 68 = .ok (.iconst 1, 1) := by decide +kernel
theorem d_m_looks_69 : decode (ch_bc m_m_looks) 69 = .ok (.goto 4, 3) := by decide +kernel
theorem d_m_looks_72 : decode (ch_bc m_m_looks) 72 = .ok (.iconst 0, 1) := by decide +kernel
theorem d_m_looks_73 : decode (ch_bc m_m_looks) 73 = .ok (.iadd, 1) := by decide +kernel
theorem d_m_looks_74 : decode (ch_bc m_m_looks) 74 = .ok (.istore 5, 2) := by decide +kernel
theorem d_m_looks_76 : decode (ch_bc m_m_looks) 76 = .ok (.iload 5, 2) := by decide +kernel
theorem d_m_looks_78 : decode (ch_bc m_m_looks) 78 = .ok (.aload_n 0, 1) := by decide +kernel
theorem d_m_looks_79 : decode (ch_bc m_m_looks) 79 = .ok (.getfield 42, 3) := by decide +kernel
theorem d_m_looks_82 : decode (ch_bc m_m_looks) 82 = .ok (.iload_n 2, 1) := by decide +kernel
theorem d_m_looks_83 : decode (ch_bc m_m_looks) 83 = .ok (.iaload, 1) := by decide +kernel
theorem d_m_looks_84 : decode (ch_bc m_m_looks) 84 = .ok (.if_icmp .gt 58, 3) := by decide +kernel
theorem d_m_looks_87 : decode (ch_bc m_m_looks) 87 = .ok (.iload 5, 2) := by decide +kernel
theorem d_m_looks_89 : decode (ch_bc m_m_looks) 89 = .ok (.aload_n 0, 1) := by decide +kernel
theorem d_m_looks_90 : decode (ch_bc m_m_looks) 90 = .ok (.getfield 42, 3) := by decide +kernel
theorem d_m_looks_93 : decode (ch_bc m_m_looks) 93 = .ok (.iload_n 2, 1) := by decide +kernel
theorem d_m_looks_94 : decode (ch_bc m_m_looks) 94 = .ok (.iaload, 1) := by decide +kernel
theorem d_m_looks_95 : decode (ch_bc m_m_looks) 95 = .ok (.if_icmp .ne 24, 3) := by decide +kernel
theorem d_m_looks_98 : decode (ch_bc m_m_looks) 98 = .ok (.aload_n 0, 1) := by decide +kernel
theorem d_m_looks_99 : decode (ch_bc m_m_looks) 99 = .ok (.getfield 45, 3) := by decide +kernel
theorem d_m_looks_102 : decode (ch_bc m_m_looks) 102 = .ok (.iload 4, 2) := by decide +kernel
theorem d_m_looks_104 : decode (ch_bc m_m_looks) 104 = .ok (.iaload, 1) := by decide +kernel
theorem d_m_looks_105 : decode (ch_bc m_m_looks) 105 = .ok (.iconst 1, 1) := by decide +kernel
theorem d_m_looks_106 : decode (ch_bc m_m_looks) 106 = .ok (.iadd, 1) := by decide +kernel
theorem d_m_looks_107 : decode (ch_bc m_m_looks) 107 = .ok (.aload_n 0, 1) := by decide +kernel
theorem d_m_looks_108 : decode (ch_bc m_m_looks) 108 = .ok (.getfield 45, 3) := by decide +kernel
theorem d_m_looks_111 : decode (ch_bc m_m_looks) 111 = .ok (.iload_n 2, 1) := by decide +kernel
theorem d_m_looks_112 : decode (ch_bc m_m_looks) 112 = .ok (.iaload, 1) := by decide +kernel
theorem d_m_looks_113 : decode (ch_bc m_m_looks) 113 = .ok (.if_icmp .lt 6, 3) := by decide +kernel
theorem d_m_looks_116 : decode (ch_bc m_m_looks) 116 = .ok (.goto 26, 3) := by decide +kernel
theorem d_m_looks_119 : decode (ch_bc m_m_looks) 119 = .ok (.aload_n 0, 1) := by decide +kernel
theorem d_m_looks_120 : decode (ch_bc m_m_looks) 120 = .ok (.getfield 42, 3) := by decide +kernel
theorem d_m_looks_123 : decode (ch_bc m_m_looks) 123 = .ok (.iload_n 2, 1) := by decide +kernel
theorem d_m_looks_124 : decode (ch_bc m_m_looks) 124 = .ok (.iload 5, 2) := by decide +kernel
theorem d_m_looks_126 : decode (ch_bc m_m_looks) 126 = .ok (.iastore, 1) := by decide +kernel
theorem d_m_looks_127 : decode (ch_bc m_m_looks) 127 = .ok (.aload_n 0, 1) := by decide +kernel
theorem d_m_looks_128 : decode (ch_bc m_m_looks) 128 = .ok (.getfield 45, 3) := by decide +kernel
theorem d_m_looks_131 : decode (ch_bc m_m_looks) 131 = .ok (.iload_n 2, 1) := by decide +kernel
theorem d_m_looks_132 : decode (ch_bc m_m_looks) 132 = .ok (.aload_n 0, 1) := by decide +kernel
theorem d_m_looks_133 : decode (ch_bc m_m_looks) 133 = .ok (.getfield 45, 3) := by decide +kernel
theorem d_m_looks_136 : decode (ch_bc m_m_looks) 136 = .ok (.iload 4, 2) := by decide +kernel
theorem d_m_looks_138 : decode (ch_bc m_m_looks) 138 = .ok (.iaload, 1) := by decide +kernel
theorem d_m_looks_139 : decode (ch_bc m_m_looks) 139 = .ok (.iconst 1, 1) := by decide +kernel
theorem d_m_looks_140 : decode (ch_bc m_m_looks) 140 = .ok (.iadd, 1) := by decide +kernel
theorem d_m_looks_141 : decode (ch_bc m_m_looks) 141 = .ok (.iastore, 1) := by decide +kernel
theorem d_m_looks_142 : decode (ch_bc m_m_looks) 142 = .ok (.iinc 3 1, 3) := by decide +kernel
theorem d_m_looks_145 : decode (ch_bc m_m_looks) 145 = .ok (.goto (-112), 3) := by decide +kernel
theorem d_m_looks_148 : decode (ch_bc m_m_looks) 148 = .ok (.iinc 2 (-1), 3) := by decide +kernel
theorem d_m_looks_151 : decode (ch_bc m_m_looks) 151 = .ok (.goto (-132), 3) := by decide +kernel
theorem d_m_looks_154 : decode (ch_bc m_m_looks) 154 = .ok (.return_, 1) := by decide +kernel
theorem d_m_fewest_0 : decode (ch_bc m_m_fewest) 0 = .ok (.aload_n 0, 1) := by decide +kernel
theorem d_m_fewest_1 : decode (ch_bc m_m_fewest) 1 = .ok (.aload_n 0, 1) := by decide +kernel
theorem d_m_fewest_2 : decode (ch_bc m_m_fewest) 2 = .ok (.iload_n 1, 1) := by decide +kernel
theorem d_m_fewest_3 : decode (ch_bc m_m_fewest) 3 = .ok (.invokevirtual 77, 3) := by decide +kernel
theorem d_m_fewest_6 : decode (ch_bc m_m_fewest) 6 = .ok (.ifCond .eq 7, 3) := by decide +kernel
theorem d_m_fewest_9 : decode (ch_bc m_m_fewest) 9 = .ok (.iconst 0, 1) := by decide +kernel
theorem d_m_fewest_10 : decode (ch_bc m_m_fewest) 10 = .ok (.goto 4, 3) := by decide +kernel
theorem d_m_fewest_13 : decode (ch_bc m_m_fewest) 13 = .ok (.iconst 1, 1) := by decide +kernel
theorem d_m_fewest_14 : decode (ch_bc m_m_fewest) 14 = .ok (.putfield 48, 3) := by decide +kernel
theorem d_m_fewest_17 : decode (ch_bc m_m_fewest) 17 = .ok (.aload_n 0, 1) := by decide +kernel
theorem d_m_fewest_18 : decode (ch_bc m_m_fewest) 18 = .ok (.getfield 48, 3) := by decide +kernel
theorem d_m_fewest_21 : decode (ch_bc m_m_fewest) 21 = .ok (.ifCond .le 5, 3) := by decide +kernel
theorem d_m_fewest_24 : decode (ch_bc m_m_fewest) 24 = .ok (.iconst 0, 1) := by decide +kernel
theorem d_m_fewest_25 : decode (ch_bc m_m_fewest) 25 = .ok (.ireturn, 1) := by decide +kernel
theorem d_m_fewest_26 : decode (ch_bc m_m_fewest) 26 = .ok (.aload_n 0, 1) := by decide +kernel
theorem d_m_fewest_27 : decode (ch_bc m_m_fewest) 27 = .ok (.iload_n 1, 1) := by decide +kernel
theorem d_m_fewest_28 : decode (ch_bc m_m_fewest) 28 = .ok (.invokevirtual 185, 3) := by decide +kernel
theorem d_m_fewest_31 : decode (ch_bc m_m_fewest) 31 = .ok (.aload_n 0, 1) := by decide +kernel
theorem d_m_fewest_32 : decode (ch_bc m_m_fewest) 32 = .ok (.getfield 42, 3) := by decide +kernel
theorem d_m_fewest_35 : decode (ch_bc m_m_fewest) 35 = .ok (.iconst 0, 1) := by decide +kernel
theorem d_m_fewest_36 : decode (ch_bc m_m_fewest) 36 = .ok (.iaload, 1) := by decide +kernel
theorem d_m_fewest_37 : decode (ch_bc m_m_fewest) 37 = .ok (.ireturn, 1) := by decide +kernel
theorem d_m_fewestAgain_0 : decode (ch_bc m_m_fewestAgain) 0 = .ok (.aload_n 0, 1) := by decide +kernel
theorem d_m_fewestAgain_1 : decode (ch_bc m_m_fewestAgain) 1 = .ok (.iload_n 1, 1) := by decide +kernel
theorem d_m_fewestAgain_2 : decode (ch_bc m_m_fewestAgain) 2 = .ok (.invokevirtual 188, 3) := by decide +kernel
theorem d_m_fewestAgain_5 : decode (ch_bc m_m_fewestAgain) 5 = .ok (.ireturn, 1) := by decide +kernel
theorem d_m_step_0 : decode (ch_bc m_m_step) 0 = .ok (.aload_n 0, 1) := by decide +kernel
theorem d_m_step_1 : decode (ch_bc m_m_step) 1 = .ok (.iconst 0, 1) := by decide +kernel
theorem d_m_step_2 : decode (ch_bc m_m_step) 2 = .ok (.putfield 48, 3) := by decide +kernel
theorem d_m_step_5 : decode (ch_bc m_m_step) 5 = .ok (.aload_n 0, 1) := by decide +kernel
theorem d_m_step_6 : decode (ch_bc m_m_step) 6 = .ok (.iload_n 1, 1) := by decide +kernel
theorem d_m_step_7 : decode (ch_bc m_m_step) 7 = .ok (.invokevirtual 77, 3) := by decide +kernel
theorem d_m_step_10 : decode (ch_bc m_m_step) 10 = .ok (.ifCond .ne 9, 3) := by decide +kernel
theorem d_m_step_13 : decode (ch_bc m_m_step) 13 = .ok (.aload_n 0, 1) := by decide +kernel
theorem d_m_step_14 : decode (ch_bc m_m_step) 14 = .ok (.iconst 1, 1) := by decide +kernel
theorem d_m_step_15 : decode (ch_bc m_m_step) 15 = .ok (.invokevirtual 70, 3) := by decide +kernel
theorem d_m_step_18 : decode (ch_bc m_m_step) 18 = .ok (.ireturn, 1) := by decide +kernel
theorem d_m_step_19 : decode (ch_bc m_m_step) 19 = .ok (.aload_n 0, 1) := by decide +kernel
theorem d_m_step_20 : decode (ch_bc m_m_step) 20 = .ok (.iload_n 1, 1) := by decide +kernel
theorem d_m_step_21 : decode (ch_bc m_m_step) 21 = .ok (.invokevirtual 185, 3) := by decide +kernel
theorem d_m_step_24 : decode (ch_bc m_m_step) 24 = .ok (.iload_n 2, 1) := by decide +kernel
theorem d_m_step_25 : decode (ch_bc m_m_step) 25 = .ok (.iconst 0, 1) := by decide +kernel
theorem d_m_step_26 : decode (ch_bc m_m_step) 26 = .ok (.aload_n 0, 1) := by decide +kernel
theorem d_m_step_27 : decode (ch_bc m_m_step) 27 = .ok (.getfield 45, 3) := by decide +kernel
theorem d_m_step_30 : decode (ch_bc m_m_step) 30 = .ok (.iconst 0, 1) := by decide +kernel
theorem d_m_step_31 : decode (ch_bc m_m_step) 31 = .ok (.iaload, 1) := by decide +kernel
theorem d_m_step_32 : decode (ch_bc m_m_step) 32 = .ok (.iconst 1, 1) := by decide +kernel
theorem d_m_step_33 : decode (ch_bc m_m_step) 33 = .ok (.isub, 1) := by decide +kernel
theorem d_m_step_34 : decode (ch_bc m_m_step) 34 = .ok (.invokestatic 73, 3) := by decide +kernel
theorem d_m_step_37 : decode (ch_bc m_m_step) 37 = .ok (.ifCond .ne 9, 3) := by decide +kernel
theorem d_m_step_40 : decode (ch_bc m_m_step) 40 = .ok (.aload_n 0, 1) := by decide +kernel
theorem d_m_step_41 : decode (ch_bc m_m_step) 41 = .ok (.iconst 2, 1) := by decide +kernel
theorem d_m_step_42 : decode (ch_bc m_m_step) 42 = .ok (.invokevirtual 70, 3) := by decide +kernel
theorem d_m_step_45 : decode (ch_bc m_m_step) 45 = .ok (.ireturn, 1) := by decide +kernel
theorem d_m_step_46 : decode (ch_bc m_m_step) 46 = .ok (.iconst 0, 1) := by decide +kernel
theorem d_m_step_47 : decode (ch_bc m_m_step) 47 = .ok (.istore_n 3, 1) := by decide +kernel
theorem d_m_step_48 : decode (ch_bc m_m_step) 48 = .ok (.iconst 0, 1) := by decide +kernel
theorem d_m_step_49 : decode (ch_bc m_m_step) 49 = .ok (.istore 4, 2) := by decide +kernel
theorem d_m_step_51 : decode (ch_bc m_m_step) 51 = .ok (.iload 4, 2) := by decide +kernel
theorem d_m_step_53 : decode (ch_bc m_m_step) 53 = .ok (.iload_n 2, 1) := by decide +kernel
theorem d_m_step_54 : decode (ch_bc m_m_step) 54 = .ok (.if_icmp .gt 43, 3) := by decide +kernel
theorem d_m_step_57 : decode (ch_bc m_m_step) 57 = .ok (.iconst 3, 1) := by decide +kernel
theorem d_m_step_58 : decode (ch_bc m_m_step) 58 = .ok (.istore 5, 2) := by decide +kernel
theorem d_m_step_60 : decode (ch_bc m_m_step) 60 = .ok (.aload_n 0, 1) := by decide +kernel
theorem d_m_step_61 : decode (ch_bc m_m_step) 61 = .ok (.iload_n 1, 1) := by decide +kernel
theorem d_m_step_62 : decode (ch_bc m_m_step) 62 = .ok (.iload_n 3, 1) := by decide +kernel
theorem d_m_step_63 : decode (ch_bc m_m_step) 63 = .ok (.iload 5, 2) := by decide +kernel
theorem d_m_step_65 : decode (ch_bc m_m_step) 65 = .ok (.invokevirtual 191, 3) := by decide +kernel
theorem d_m_step_68 : decode (ch_bc m_m_step) 68 = .ok (.ifCond .ne 9, 3) := by decide +kernel
theorem d_m_step_71 : decode (ch_bc m_m_step) 71 = .ok (.iinc 5 (-1), 3) := by decide +kernel
theorem d_m_step_74 : decode (ch_bc m_m_step) 74 = .ok (.goto (-14), 3) := by decide +kernel
theorem d_m_step_77 : decode (ch_bc m_m_step) 77 = .ok (.iload 4, 2) := by decide +kernel
theorem d_m_step_79 : decode (ch_bc m_m_step) 79 = .ok (.iload_n 2, 1) := by decide +kernel
theorem d_m_step_80 : decode (ch_bc m_m_step) 80 = .ok (.if_icmp .ne 6, 3) := by decide +kernel
theorem d_m_step_83 : decode (ch_bc m_m_step) 83 = .ok (.iload 5, 2) := by decide +kernel
theorem d_m_step_85 : decode (ch_bc m_m_step) 85 = .ok (.ireturn, 1) := by decide +kernel
theorem d_m_step_86 : decode (ch_bc m_m_step) 86 = .ok (.iload_n 3, 1) := by decide +kernel
theorem d_m_step_87 : decode (ch_bc m_m_step) 87 = .ok (.iload 5, 2) := by decide +kernel
theorem d_m_step_89 : decode (ch_bc m_m_step) 89 = .ok (.iadd, 1) := by decide +kernel
theorem d_m_step_90 : decode (ch_bc m_m_step) 90 = .ok (.istore_n 3, 1) := by decide +kernel
theorem d_m_step_91 : decode (ch_bc m_m_step) 91 = .ok (.iinc 4 1, 3) := by decide +kernel
theorem d_m_step_94 : decode (ch_bc m_m_step) 94 = .ok (.goto (-43), 3) := by decide +kernel
theorem d_m_step_97 : decode (ch_bc m_m_step) 97 = .ok (.iconst 0, 1) := by decide +kernel
theorem d_m_step_98 : decode (ch_bc m_m_step) 98 = .ok (.ireturn, 1) := by decide +kernel
theorem d_m_isBest_0 : decode (ch_bc m_m_isBest) 0 = .ok (.bipush 12, 2) := by decide +kernel
theorem d_m_isBest_2 : decode (ch_bc m_m_isBest) 2 = .ok (.iload_n 2, 1) := by decide +kernel
theorem d_m_isBest_3 : decode (ch_bc m_m_isBest) 3 = .ok (.iload_n 3, 1) := by decide +kernel
theorem d_m_isBest_4 : decode (ch_bc m_m_isBest) 4 = .ok (.iadd, 1) := by decide +kernel
theorem d_m_isBest_5 : decode (ch_bc m_m_isBest) 5 = .ok (.invokestatic 118, 3) := by decide +kernel
theorem d_m_isBest_8 : decode (ch_bc m_m_isBest) 8 = .ok (.istore 4, 2) := by decide +kernel
theorem d_m_isBest_10 : decode (ch_bc m_m_isBest) 10 = .ok (.aload_n 0, 1) := by decide +kernel
theorem d_m_isBest_11 : decode (ch_bc m_m_isBest) 11 = .ok (.getfield 42, 3) := by decide +kernel
theorem d_m_isBest_14 : decode (ch_bc m_m_isBest) 14 = .ok (.iload 4, 2) := by decide +kernel
theorem d_m_isBest_16 : decode (ch_bc m_m_isBest) 16 = .ok (.iaload, 1) := by decide +kernel
theorem d_m_isBest_17 : decode (ch_bc m_m_isBest) 17 = .ok (.aload_n 0, 1) := by decide +kernel
theorem d_m_isBest_18 : decode (ch_bc m_m_isBest) 18 = .ok (.iload_n 1, 1) := by decide +kernel
theorem d_m_isBest_19 : decode (ch_bc m_m_isBest) 19 = .ok (.iload_n 2, 1) := by decide +kernel
theorem d_m_isBest_20 : decode (ch_bc m_m_isBest) 20 = .ok (.iload_n 3, 1) := by decide +kernel
theorem d_m_isBest_21 : decode (ch_bc m_m_isBest) 21 = .ok (.iadd, 1) := by decide +kernel
theorem d_m_isBest_22 : decode (ch_bc m_m_isBest) 22 = .ok (.iconst 1, 1) := by decide +kernel
theorem d_m_isBest_23 : decode (ch_bc m_m_isBest) 23 = .ok (.isub, 1) := by decide +kernel
theorem d_m_isBest_24 : decode (ch_bc m_m_isBest) 24 = .ok (.invokevirtual 129, 3) := by decide +kernel
theorem d_m_isBest_27 : decode (ch_bc m_m_isBest) 27 = .ok (.ifCond .eq 7, 3) := by decide +kernel
theorem d_m_isBest_30 : decode (ch_bc m_m_isBest) 30 = .ok (.iconst 1, 1) := by decide +kernel
theorem d_m_isBest_31 : decode (ch_bc m_m_isBest) 31 = .ok (.goto 4, 3) := by decide +kernel
theorem d_m_isBest_34 : decode (ch_bc m_m_isBest) 34 = .ok (.iconst 0, 1) := by decide +kernel
theorem d_m_isBest_35 : decode (ch_bc m_m_isBest) 35 = .ok (.iadd, 1) := by decide +kernel
theorem d_m_isBest_36 : decode (ch_bc m_m_isBest) 36 = .ok (.aload_n 0, 1) := by decide +kernel
theorem d_m_isBest_37 : decode (ch_bc m_m_isBest) 37 = .ok (.getfield 42, 3) := by decide +kernel
theorem d_m_isBest_40 : decode (ch_bc m_m_isBest) 40 = .ok (.iload_n 2, 1) := by decide +kernel
theorem d_m_isBest_41 : decode (ch_bc m_m_isBest) 41 = .ok (.iaload, 1) := by decide +kernel
theorem d_m_isBest_42 : decode (ch_bc m_m_isBest) 42 = .ok (.if_icmp .ne 25, 3) := by decide +kernel
theorem d_m_isBest_45 : decode (ch_bc m_m_isBest) 45 = .ok (.aload_n 0, 1) := by decide +kernel
theorem d_m_isBest_46 : decode (ch_bc m_m_isBest) 46 = .ok (.getfield 45, 3) := by decide +kernel
theorem d_m_isBest_49 : decode (ch_bc m_m_isBest) 49 = .ok (.iload 4, 2) := by decide +kernel
theorem d_m_isBest_51 : decode (ch_bc m_m_isBest) 51 = .ok (.iaload, 1) := by decide +kernel
theorem d_m_isBest_52 : decode (ch_bc m_m_isBest) 52 = .ok (.iconst 1, 1) := by decide +kernel
theorem d_m_isBest_53 : decode (ch_bc m_m_isBest) 53 = .ok (.iadd, 1) := by decide +kernel
theorem d_m_isBest_54 : decode (ch_bc m_m_isBest) 54 = .ok (.aload_n 0, 1) := by decide +kernel
theorem d_m_isBest_55 : decode (ch_bc m_m_isBest) 55 = .ok (.getfield 45, 3) := by decide +kernel
theorem d_m_isBest_58 : decode (ch_bc m_m_isBest) 58 = .ok (.iload_n 2, 1) := by decide +kernel
theorem d_m_isBest_59 : decode (ch_bc m_m_isBest) 59 = .ok (.iaload, 1) := by decide +kernel
theorem d_m_isBest_60 : decode (ch_bc m_m_isBest) 60 = .ok (.if_icmp .ne 7, 3) := by decide +kernel
theorem d_m_isBest_63 : decode (ch_bc m_m_isBest) 63 = .ok (.iconst 1, 1) := by decide +kernel
theorem d_m_isBest_64 : decode (ch_bc m_m_isBest) 64 = .ok (.goto 4, 3) := by decide +kernel
theorem d_m_isBest_67 : decode (ch_bc m_m_isBest) 67 = .ok (.iconst 0, 1) := by decide +kernel
theorem d_m_isBest_68 : decode (ch_bc m_m_isBest) 68 = .ok (.ireturn, 1) := by decide +kernel
theorem d_m_wouldTread_0 : decode (ch_bc m_m_wouldTread) 0 = .ok (.aload_n 0, 1) := by decide +kernel
theorem d_m_wouldTread_1 : decode (ch_bc m_m_wouldTread) 1 = .ok (.iconst 0, 1) := by decide +kernel
theorem d_m_wouldTread_2 : decode (ch_bc m_m_wouldTread) 2 = .ok (.putfield 48, 3) := by decide +kernel
theorem d_m_wouldTread_5 : decode (ch_bc m_m_wouldTread) 5 = .ok (.aload_n 0, 1) := by decide +kernel
theorem d_m_wouldTread_6 : decode (ch_bc m_m_wouldTread) 6 = .ok (.iload_n 1, 1) := by decide +kernel
theorem d_m_wouldTread_7 : decode (ch_bc m_m_wouldTread) 7 = .ok (.invokevirtual 77, 3) := by decide +kernel
theorem d_m_wouldTread_10 : decode (ch_bc m_m_wouldTread) 10 = .ok (.ifCond .ne 9, 3) := by decide +kernel
theorem d_m_wouldTread_13 : decode (ch_bc m_m_wouldTread) 13 = .ok (.aload_n 0, 1) := by decide +kernel
theorem d_m_wouldTread_14 : decode (ch_bc m_m_wouldTread) 14 = .ok (.iconst 1, 1) := by decide +kernel
theorem d_m_wouldTread_15 : decode (ch_bc m_m_wouldTread) 15 = .ok (.invokevirtual 70, 3) := by decide +kernel
theorem d_m_wouldTread_18 : decode (ch_bc m_m_wouldTread) 18 = .ok (.ireturn, 1) := by decide +kernel
theorem d_m_wouldTread_19 : decode (ch_bc m_m_wouldTread) 19 = .ok (.aload_n 0, 1) := by decide +kernel
theorem d_m_wouldTread_20 : decode (ch_bc m_m_wouldTread) 20 = .ok (.iload_n 2, 1) := by decide +kernel
theorem d_m_wouldTread_21 : decode (ch_bc m_m_wouldTread) 21 = .ok (.invokevirtual 147, 3) := by decide +kernel
theorem d_m_wouldTread_24 : decode (ch_bc m_m_wouldTread) 24 = .ok (.ifCond .eq 18, 3) := by decide +kernel
theorem d_m_wouldTread_27 : decode (ch_bc m_m_wouldTread) 27 = .ok (.aload_n 0, 1) := by decide +kernel
theorem d_m_wouldTread_28 : decode (ch_bc m_m_wouldTread) 28 = .ok (.invokevirtual 132, 3) := by decide +kernel
theorem d_m_wouldTread_31 : decode (ch_bc m_m_wouldTread) 31 = .ok (.ifCond .eq 11, 3) := by decide +kernel
theorem d_m_wouldTread_34 : decode (ch_bc m_m_wouldTread) 34 = .ok (.aload_n 0, 1) := by decide +kernel
theorem d_m_wouldTread_35 : decode (ch_bc m_m_wouldTread) 35 = .ok (.iload_n 1, 1) := by decide +kernel
theorem d_m_wouldTread_36 : decode (ch_bc m_m_wouldTread) 36 = .ok (.invokevirtual 194, 3) := by decide +kernel
theorem d_m_wouldTread_39 : decode (ch_bc m_m_wouldTread) 39 = .ok (.goto 8, 3) := by decide +kernel
theorem d_m_wouldTread_42 : decode (ch_bc m_m_wouldTread) 42 = .ok (.aload_n 0, 1) := by decide +kernel
theorem d_m_wouldTread_43 : decode (ch_bc m_m_wouldTread) 43 = .ok (.iconst 2, 1) := by decide +kernel
theorem d_m_wouldTread_44 : decode (ch_bc m_m_wouldTread) 44 = .ok (.invokevirtual 70, 3) := by decide +kernel
theorem d_m_wouldTread_47 : decode (ch_bc m_m_wouldTread) 47 = .ok (.ireturn, 1) := by decide +kernel
theorem d_m_longestOf_0 : decode (ch_bc m_m_longestOf) 0 = .ok (.iconst 0, 1) := by decide +kernel
theorem d_m_longestOf_1 : decode (ch_bc m_m_longestOf) 1 = .ok (.istore_n 2, 1) := by decide +kernel
theorem d_m_longestOf_2 : decode (ch_bc m_m_longestOf) 2 = .ok (.iconst 0, 1) := by decide +kernel
theorem d_m_longestOf_3 : decode (ch_bc m_m_longestOf) 3 = .ok (.istore_n 3, 1) := by decide +kernel
theorem d_m_longestOf_4 : decode (ch_bc m_m_longestOf) 4 = .ok (.iconst 0, 1) := by decide +kernel
theorem d_m_longestOf_5 : decode (ch_bc m_m_longestOf) 5 = .ok (.istore 4, 2) := by decide +kernel
theorem d_m_longestOf_7 : decode (ch_bc m_m_longestOf) 7 = .ok (.iload 4, 2) := by decide +kernel
theorem d_m_longestOf_9 : decode (ch_bc m_m_longestOf) 9 = .ok (.bipush 12, 2) := by decide +kernel
theorem d_m_longestOf_11 : decode (ch_bc m_m_longestOf) 11 = .ok (.if_icmp .ge 33, 3) := by decide +kernel
theorem d_m_longestOf_14 : decode (ch_bc m_m_longestOf) 14 = .ok (.aload_n 0, 1) := by decide +kernel
theorem d_m_longestOf_15 : decode (ch_bc m_m_longestOf) 15 = .ok (.iload 4, 2) := by decide +kernel
theorem d_m_longestOf_17 : decode (ch_bc m_m_longestOf) 17 = .ok (.invokevirtual 109, 3) := by decide +kernel
theorem d_m_longestOf_20 : decode (ch_bc m_m_longestOf) 20 = .ok (.iload_n 1, 1) := by decide +kernel
theorem d_m_longestOf_21 : decode (ch_bc m_m_longestOf) 21 = .ok (.if_icmp .ne 9, 3) := by decide +kernel
theorem d_m_longestOf_24 : decode (ch_bc m_m_longestOf) 24 = .ok (.iload_n 3, 1) := by decide +kernel
theorem d_m_longestOf_25 : decode (ch_bc m_m_longestOf) 25 = .ok (.iconst 1, 1) := by decide +kernel
theorem d_m_longestOf_26 : decode (ch_bc m_m_longestOf) 26 = .ok (.iadd, 1) := by decide +kernel
theorem d_m_longestOf_27 : decode (ch_bc m_m_longestOf) 27 = .ok (.goto 4, 3) := by decide +kernel
theorem d_m_longestOf_30 : decode (ch_bc m_m_longestOf) 30 = .ok (.iconst 0, 1) := by decide +kernel
theorem d_m_longestOf_31 : decode (ch_bc m_m_longestOf) 31 = .ok (.istore_n 3, 1) := by decide +kernel
theorem d_m_longestOf_32 : decode (ch_bc m_m_longestOf) 32 = .ok (.iload_n 2, 1) := by decide +kernel
theorem d_m_longestOf_33 : decode (ch_bc m_m_longestOf) 33 = .ok (.iload_n 3, 1) := by decide +kernel
theorem d_m_longestOf_34 : decode (ch_bc m_m_longestOf) 34 = .ok (.invokestatic 197, 3) := by decide +kernel
theorem d_m_longestOf_37 : decode (ch_bc m_m_longestOf) 37 = .ok (.istore_n 2, 1) := by decide +kernel
theorem d_m_longestOf_38 : decode (ch_bc m_m_longestOf) 38 = .ok (.iinc 4 1, 3) := by decide +kernel
theorem d_m_longestOf_41 : decode (ch_bc m_m_longestOf) 41 = .ok (.goto (-34), 3) := by decide +kernel
theorem d_m_longestOf_44 : decode (ch_bc m_m_longestOf) 44 = .ok (.iload_n 2, 1) := by decide +kernel
theorem d_m_longestOf_45 : decode (ch_bc m_m_longestOf) 45 = .ok (.ireturn, 1) := by decide +kernel
theorem d_m_longest_0 : decode (ch_bc m_m_longest) 0 = .ok (.aload_n 0, 1) := by decide +kernel
theorem d_m_longest_1 : decode (ch_bc m_m_longest) 1 = .ok (.aload_n 0, 1) := by decide +kernel
theorem d_m_longest_2 : decode (ch_bc m_m_longest) 2 = .ok (.iload_n 1, 1) := by decide +kernel
theorem d_m_longest_3 : decode (ch_bc m_m_longest) 3 = .ok (.invokevirtual 77, 3) := by decide +kernel
theorem d_m_longest_6 : decode (ch_bc m_m_longest) 6 = .ok (.ifCond .eq 7, 3) := by decide +kernel
theorem d_m_longest_9 : decode (ch_bc m_m_longest) 9 = .ok (.iconst 0, 1) := by decide +kernel
theorem d_m_longest_10 : decode (ch_bc m_m_longest) 10 = .ok (.goto 4, 3) := by decide +kernel
theorem d_m_longest_13 : decode (ch_bc m_m_longest) 13 = .ok (.iconst 1, 1) := by decide +kernel
theorem d_m_longest_14 : decode (ch_bc m_m_longest) 14 = .ok (.putfield 48, 3) := by decide +kernel
theorem d_m_longest_17 : decode (ch_bc m_m_longest) 17 = .ok (.aload_n 0, 1) := by decide +kernel
theorem d_m_longest_18 : decode (ch_bc m_m_longest) 18 = .ok (.getfield 48, 3) := by decide +kernel
theorem d_m_longest_21 : decode (ch_bc m_m_longest) 21 = .ok (.ifCond .ne 11, 3) := by decide +kernel
theorem d_m_longest_24 : decode (ch_bc m_m_longest) 24 = .ok (.aload_n 0, 1) := by decide +kernel
theorem d_m_longest_25 : decode (ch_bc m_m_longest) 25 = .ok (.iload_n 1, 1) := by decide +kernel
theorem d_m_longest_26 : decode (ch_bc m_m_longest) 26 = .ok (.invokevirtual 200, 3) := by decide +kernel
theorem d_m_longest_29 : decode (ch_bc m_m_longest) 29 = .ok (.goto 4, 3) := by decide +kernel
theorem d_m_longest_32 : decode (ch_bc m_m_longest) 32 = .ok (.iconst 0, 1) := by decide +kernel
theorem d_m_longest_33 : decode (ch_bc m_m_longest) 33 = .ok (.ireturn, 1) := by decide +kernel
theorem d_m_gap_0 : decode (ch_bc m_m_gap) 0 = .ok (.aload_n 0, 1) := by decide +kernel
theorem d_m_gap_1 : decode (ch_bc m_m_gap) 1 = .ok (.iconst 0, 1) := by decide +kernel
theorem d_m_gap_2 : decode (ch_bc m_m_gap) 2 = .ok (.putfield 48, 3) := by decide +kernel
theorem d_m_gap_5 : decode (ch_bc m_m_gap) 5 = .ok (.aload_n 0, 1) := by decide +kernel
theorem d_m_gap_6 : decode (ch_bc m_m_gap) 6 = .ok (.iconst (-1), 1) := by decide +kernel
theorem d_m_gap_7 : decode (ch_bc m_m_gap) 7 = .ok (.invokevirtual 200, 3) := by decide +kernel
theorem d_m_gap_10 : decode (ch_bc m_m_gap) 10 = .ok (.ireturn, 1) := by decide +kernel
theorem d_m_wouldEnd_0 : decode (ch_bc m_m_wouldEnd) 0 = .ok (.aload_n 0, 1) := by decide +kernel
theorem d_m_wouldEnd_1 : decode (ch_bc m_m_wouldEnd) 1 = .ok (.iload_n 1, 1) := by decide +kernel
theorem d_m_wouldEnd_2 : decode (ch_bc m_m_wouldEnd) 2 = .ok (.iconst 1, 1) := by decide +kernel
theorem d_m_wouldEnd_3 : decode (ch_bc m_m_wouldEnd) 3 = .ok (.bipush 9, 2) := by decide +kernel
theorem d_m_wouldEnd_5 : decode (ch_bc m_m_wouldEnd) 5 = .ok (.invokestatic 73, 3) := by decide +kernel
theorem d_m_wouldEnd_8 : decode (ch_bc m_m_wouldEnd) 8 = .ok (.ifCond .eq 7, 3) := by decide +kernel
theorem d_m_wouldEnd_11 : decode (ch_bc m_m_wouldEnd) 11 = .ok (.iconst 0, 1) := by decide +kernel
theorem d_m_wouldEnd_12 : decode (ch_bc m_m_wouldEnd) 12 = .ok (.goto 4, 3) := by decide +kernel
theorem d_m_wouldEnd_15 : decode (ch_bc m_m_wouldEnd) 15 = .ok (.iconst 1, 1) := by decide +kernel
theorem d_m_wouldEnd_16 : decode (ch_bc m_m_wouldEnd) 16 = .ok (.putfield 48, 3) := by decide +kernel
theorem d_m_wouldEnd_19 : decode (ch_bc m_m_wouldEnd) 19 = .ok (.aload_n 0, 1) := by decide +kernel
theorem d_m_wouldEnd_20 : decode (ch_bc m_m_wouldEnd) 20 = .ok (.getfield 48, 3) := by decide +kernel
theorem d_m_wouldEnd_23 : decode (ch_bc m_m_wouldEnd) 23 = .ok (.ifCond .ne 11, 3) := by decide +kernel
theorem d_m_wouldEnd_26 : decode (ch_bc m_m_wouldEnd) 26 = .ok (.aload_n 0, 1) := by decide +kernel
theorem d_m_wouldEnd_27 : decode (ch_bc m_m_wouldEnd) 27 = .ok (.iload_n 1, 1) := by decide +kernel
theorem d_m_wouldEnd_28 : decode (ch_bc m_m_wouldEnd) 28 = .ok (.invokevirtual 165, 3) := by decide +kernel
theorem d_m_wouldEnd_31 : decode (ch_bc m_m_wouldEnd) 31 = .ok (.goto 4, 3) := by decide +kernel
theorem d_m_wouldEnd_34 : decode (ch_bc m_m_wouldEnd) 34 = .ok (.iconst 0, 1) := by decide +kernel
theorem d_m_wouldEnd_35 : decode (ch_bc m_m_wouldEnd) 35 = .ok (.ireturn, 1) := by decide +kernel
theorem d_m_rainFor_0 : decode (ch_bc m_m_rainFor) 0 = .ok (.aload_n 0, 1) := by decide +kernel
theorem d_m_rainFor_1 : decode (ch_bc m_m_rainFor) 1 = .ok (.iconst 0, 1) := by decide +kernel
theorem d_m_rainFor_2 : decode (ch_bc m_m_rainFor) 2 = .ok (.putfield 48, 3) := by decide +kernel
theorem d_m_rainFor_5 : decode (ch_bc m_m_rainFor) 5 = .ok (.aload_n 0, 1) := by decide +kernel
theorem d_m_rainFor_6 : decode (ch_bc m_m_rainFor) 6 = .ok (.iload_n 1, 1) := by decide +kernel
theorem d_m_rainFor_7 : decode (ch_bc m_m_rainFor) 7 = .ok (.invokevirtual 77, 3) := by decide +kernel
theorem d_m_rainFor_10 : decode (ch_bc m_m_rainFor) 10 = .ok (.ifCond .ne 9, 3) := by decide +kernel
theorem d_m_rainFor_13 : decode (ch_bc m_m_rainFor) 13 = .ok (.aload_n 0, 1) := by decide +kernel
theorem d_m_rainFor_14 : decode (ch_bc m_m_rainFor) 14 = .ok (.iconst 1, 1) := by decide +kernel
theorem d_m_rainFor_15 : decode (ch_bc m_m_rainFor) 15 = .ok (.invokevirtual 70, 3) := by decide +kernel
theorem d_m_rainFor_18 : decode (ch_bc m_m_rainFor) 18 = .ok (.ireturn, 1) := by decide +kernel
theorem d_m_rainFor_19 : decode (ch_bc m_m_rainFor) 19 = .ok (.aload_n 0, 1) := by decide +kernel
theorem d_m_rainFor_20 : decode (ch_bc m_m_rainFor) 20 = .ok (.iload_n 1, 1) := by decide +kernel
theorem d_m_rainFor_21 : decode (ch_bc m_m_rainFor) 21 = .ok (.iconst 2, 1) := by decide +kernel
theorem d_m_rainFor_22 : decode (ch_bc m_m_rainFor) 22 = .ok (.invokevirtual 85, 3) := by decide +kernel
theorem d_m_rainFor_25 : decode (ch_bc m_m_rainFor) 25 = .ok (.ifCond .ne 11, 3) := by decide +kernel
theorem d_m_rainFor_28 : decode (ch_bc m_m_rainFor) 28 = .ok (.aload_n 0, 1) := by decide +kernel
theorem d_m_rainFor_29 : decode (ch_bc m_m_rainFor) 29 = .ok (.iconst 2, 1) := by decide +kernel
theorem d_m_rainFor_30 : decode (ch_bc m_m_rainFor) 30 = .ok (.invokevirtual 70, 3) := by decide +kernel
theorem d_m_rainFor_33 : decode (ch_bc m_m_rainFor) 33 = .ok (.goto 9, 3) := by decide +kernel
theorem d_m_rainFor_36 : decode (ch_bc m_m_rainFor) 36 = .ok (.aload_n 0, 1) := by decide +kernel
theorem d_m_rainFor_37 : decode (ch_bc m_m_rainFor) 37 = .ok (.iload_n 1, 1) := by decide +kernel
theorem d_m_rainFor_38 : decode (ch_bc m_m_rainFor) 38 = .ok (.iconst 2, 1) := by decide +kernel
theorem d_m_rainFor_39 : decode (ch_bc m_m_rainFor) 39 = .ok (.invokevirtual 85, 3) := by decide +kernel
theorem d_m_rainFor_42 : decode (ch_bc m_m_rainFor) 42 = .ok (.ireturn, 1) := by decide +kernel
theorem d_m_wouldLose_0 : decode (ch_bc m_m_wouldLose) 0 = .ok (.aload_n 0, 1) := by decide +kernel
theorem d_m_wouldLose_1 : decode (ch_bc m_m_wouldLose) 1 = .ok (.iconst 0, 1) := by decide +kernel
theorem d_m_wouldLose_2 : decode (ch_bc m_m_wouldLose) 2 = .ok (.putfield 48, 3) := by decide +kernel
theorem d_m_wouldLose_5 : decode (ch_bc m_m_wouldLose) 5 = .ok (.aload_n 0, 1) := by decide +kernel
theorem d_m_wouldLose_6 : decode (ch_bc m_m_wouldLose) 6 = .ok (.iload_n 1, 1) := by decide +kernel
theorem d_m_wouldLose_7 : decode (ch_bc m_m_wouldLose) 7 = .ok (.invokevirtual 77, 3) := by decide +kernel
theorem d_m_wouldLose_10 : decode (ch_bc m_m_wouldLose) 10 = .ok (.ifCond .ne 9, 3) := by decide +kernel
theorem d_m_wouldLose_13 : decode (ch_bc m_m_wouldLose) 13 = .ok (.aload_n 0, 1) := by decide +kernel
theorem d_m_wouldLose_14 : decode (ch_bc m_m_wouldLose) 14 = .ok (.iconst 1, 1) := by decide +kernel
theorem d_m_wouldLose_15 : decode (ch_bc m_m_wouldLose) 15 = .ok (.invokevirtual 70, 3) := by decide +kernel
theorem d_m_wouldLose_18 : decode (ch_bc m_m_wouldLose) 18 = .ok (.ireturn, 1) := by decide +kernel
theorem d_m_wouldLose_19 : decode (ch_bc m_m_wouldLose) 19 = .ok (.iconst 0, 1) := by decide +kernel
theorem d_m_wouldLose_20 : decode (ch_bc m_m_wouldLose) 20 = .ok (.istore_n 2, 1) := by decide +kernel
theorem d_m_wouldLose_21 : decode (ch_bc m_m_wouldLose) 21 = .ok (.aload_n 0, 1) := by decide +kernel
theorem d_m_wouldLose_22 : decode (ch_bc m_m_wouldLose) 22 = .ok (.iload_n 1, 1) := by decide +kernel
theorem d_m_wouldLose_23 : decode (ch_bc m_m_wouldLose) 23 = .ok (.iconst 0, 1) := by decide +kernel
theorem d_m_wouldLose_24 : decode (ch_bc m_m_wouldLose) 24 = .ok (.invokevirtual 85, 3) := by decide +kernel
theorem d_m_wouldLose_27 : decode (ch_bc m_m_wouldLose) 27 = .ok (.istore_n 3, 1) := by decide +kernel
theorem d_m_wouldLose_28 : decode (ch_bc m_m_wouldLose) 28 = .ok (.iconst 0, 1) := by decide +kernel
theorem d_m_wouldLose_29 : decode (ch_bc m_m_wouldLose) 29 = .ok (.istore 4, 2) := by decide +kernel
theorem d_m_wouldLose_31 : decode (ch_bc m_m_wouldLose) 31 = .ok (.iload 4, 2) := by decide +kernel
theorem d_m_wouldLose_33 : decode (ch_bc m_m_wouldLose) 33 = .ok (.bipush 12, 2) := by decide +kernel
theorem d_m_wouldLose_35 : decode (ch_bc m_m_wouldLose) 35 = .ok (.if_icmp .ge 33, 3) := by decide +kernel
theorem d_m_wouldLose_38 : decode (ch_bc m_m_wouldLose) 38 = .ok (.aload_n 0, 1) := by decide +kernel
theorem d_m_wouldLose_39 : decode (ch_bc m_m_wouldLose) 39 = .ok (.iload 4, 2) := by decide +kernel
theorem d_m_wouldLose_41 : decode (ch_bc m_m_wouldLose) 41 = .ok (.invokevirtual 109, 3) := by decide +kernel
theorem d_m_wouldLose_44 : decode (ch_bc m_m_wouldLose) 44 = .ok (.iload_n 1, 1) := by decide +kernel
theorem d_m_wouldLose_45 : decode (ch_bc m_m_wouldLose) 45 = .ok (.if_icmp .ne 17, 3) := by decide +kernel
theorem d_m_wouldLose_48 : decode (ch_bc m_m_wouldLose) 48 = .ok (.iload_n 3, 1) := by decide +kernel
theorem d_m_wouldLose_49 : decode (ch_bc m_m_wouldLose) 49 = .ok (.iinc 3 (-1), 3) := by decide +kernel
theorem d_m_wouldLose_52 : decode (ch_bc m_m_wouldLose) 52 = .ok (.ifCond .gt 10, 3) := by decide +kernel
theorem d_m_wouldLose_55 : decode (ch_bc m_m_wouldLose) 55 = .ok (.iload_n 2, 1) := by decide +kernel
theorem d_m_wouldLose_56 : decode (ch_bc m_m_wouldLose) 56 = .ok (.iconst 1, 1) := by decide +kernel
theorem d_m_wouldLose_57 : decode (ch_bc m_m_wouldLose) 57 = .ok (.iload 4, 2) := by decide +kernel
theorem d_m_wouldLose_59 : decode (ch_bc m_m_wouldLose) 59 = .ok (.ishl, 1) := by decide +kernel
theorem d_m_wouldLose_60 : decode (ch_bc m_m_wouldLose) 60 = .ok (.ior, 1) := by decide +kernel
theorem d_m_wouldLose_61 : decode (ch_bc m_m_wouldLose) 61 = .ok (.istore_n 2, 1) := by decide +kernel
theorem d_m_wouldLose_62 : decode (ch_bc m_m_wouldLose) 62 = .ok (.iinc 4 1, 3) := by decide +kernel
theorem d_m_wouldLose_65 : decode (ch_bc m_m_wouldLose) 65 = .ok (.goto (-34), 3) := by decide +kernel
theorem d_m_wouldLose_68 : decode (ch_bc m_m_wouldLose) 68 = .ok (.iload_n 2, 1) := by decide +kernel
theorem d_m_wouldLose_69 : decode (ch_bc m_m_wouldLose) 69 = .ok (.ireturn, 1) := by decide +kernel
theorem d_m_termsFor_0 : decode (ch_bc m_m_termsFor) 0 = .ok (.aload_n 0, 1) := by decide +kernel
theorem d_m_termsFor_1 : decode (ch_bc m_m_termsFor) 1 = .ok (.iconst 0, 1) := by decide +kernel
theorem d_m_termsFor_2 : decode (ch_bc m_m_termsFor) 2 = .ok (.putfield 48, 3) := by decide +kernel
theorem d_m_termsFor_5 : decode (ch_bc m_m_termsFor) 5 = .ok (.aload_n 0, 1) := by decide +kernel
theorem d_m_termsFor_6 : decode (ch_bc m_m_termsFor) 6 = .ok (.iload_n 1, 1) := by decide +kernel
theorem d_m_termsFor_7 : decode (ch_bc m_m_termsFor) 7 = .ok (.invokevirtual 77, 3) := by decide +kernel
theorem d_m_termsFor_10 : decode (ch_bc m_m_termsFor) 10 = .ok (.ifCond .ne 9, 3) := by decide +kernel
theorem d_m_termsFor_13 : decode (ch_bc m_m_termsFor) 13 = .ok (.aload_n 0, 1) := by decide +kernel
theorem d_m_termsFor_14 : decode (ch_bc m_m_termsFor) 14 = .ok (.iconst 1, 1) := by decide +kernel
theorem d_m_termsFor_15 : decode (ch_bc m_m_termsFor) 15 = .ok (.invokevirtual 70, 3) := by decide +kernel
theorem d_m_termsFor_18 : decode (ch_bc m_m_termsFor) 18 = .ok (.ireturn, 1) := by decide +kernel
theorem d_m_termsFor_19 : decode (ch_bc m_m_termsFor) 19 = .ok (.iconst 0, 1) := by decide +kernel
theorem d_m_termsFor_20 : decode (ch_bc m_m_termsFor) 20 = .ok (.istore_n 2, 1) := by decide +kernel
theorem d_m_termsFor_21 : decode (ch_bc m_m_termsFor) 21 = .ok (.iload_n 2, 1) := by decide +kernel
theorem d_m_termsFor_22 : decode (ch_bc m_m_termsFor) 22 = .ok (.bipush 63, 2) := by decide +kernel
theorem d_m_termsFor_24 : decode (ch_bc m_m_termsFor) 24 = .ok (.if_icmp .ge 21, 3) := by decide +kernel
theorem d_m_termsFor_27 : decode (ch_bc m_m_termsFor) 27 = .ok (.aload_n 0, 1) := by decide +kernel
theorem d_m_termsFor_28 : decode (ch_bc m_m_termsFor) 28 = .ok (.getfield 16, 3) := by decide +kernel
theorem d_m_termsFor_31 : decode (ch_bc m_m_termsFor) 31 = .ok (.iload_n 2, 1) := by decide +kernel
theorem d_m_termsFor_32 : decode (ch_bc m_m_termsFor) 32 = .ok (.aload_n 0, 1) := by decide +kernel
theorem d_m_termsFor_33 : decode (ch_bc m_m_termsFor) 33 = .ok (.getfield 9, 3) := by decide +kernel
theorem d_m_termsFor_36 : decode (ch_bc m_m_termsFor) 36 = .ok (.iload_n 2, 1) := by decide +kernel
theorem d_m_termsFor_37 : decode (ch_bc m_m_termsFor) 37 = .ok (.iaload, 1) := by decide +kernel
theorem d_m_termsFor_38 : decode (ch_bc m_m_termsFor) 38 = .ok (.iastore, 1) := by decide +kernel
theorem d_m_termsFor_39 : decode (ch_bc m_m_termsFor) 39 = .ok (.iinc 2 1, 3) := by decide +kernel
theorem d_m_termsFor_42 : decode (ch_bc m_m_termsFor) 42 = .ok (.goto (-21), 3) := by decide +kernel
theorem d_m_termsFor_45 : decode (ch_bc m_m_termsFor) 45 = .ok (.iconst 0, 1) := by decide +kernel
theorem d_m_termsFor_46 : decode (ch_bc m_m_termsFor) 46 = .ok (.istore_n 2, 1) := by decide +kernel
theorem d_m_termsFor_47 : decode (ch_bc m_m_termsFor) 47 = .ok (.iconst 1, 1) := by decide +kernel
theorem d_m_termsFor_48 : decode (ch_bc m_m_termsFor) 48 = .ok (.istore_n 3, 1) := by decide +kernel
theorem d_m_termsFor_49 : decode (ch_bc m_m_termsFor) 49 = .ok (.iload_n 3, 1) := by decide +kernel
theorem d_m_termsFor_50 : decode (ch_bc m_m_termsFor) 50 = .ok (.bipush 41, 2) := by decide +kernel
theorem d_m_termsFor_52 : decode (ch_bc m_m_termsFor) 52 = .ok (.if_icmp .ge 32, 3) := by decide +kernel
theorem d_m_termsFor_55 : decode (ch_bc m_m_termsFor) 55 = .ok (.iload_n 2, 1) := by decide +kernel
theorem d_m_termsFor_56 : decode (ch_bc m_m_termsFor) 56 = .ok (.ifCond .ne 28, 3) := by decide +kernel
theorem d_m_termsFor_59 : decode (ch_bc m_m_termsFor) 59 = .ok (.aload_n 0, 1) := by decide +kernel
theorem d_m_termsFor_60 : decode (ch_bc m_m_termsFor) 60 = .ok (.iload_n 1, 1) := by decide +kernel
theorem d_m_termsFor_61 : decode (ch_bc m_m_termsFor) 61 = .ok (.invokevirtual 182, 3) := by decide +kernel
theorem d_m_termsFor_64 : decode (ch_bc m_m_termsFor) 64 = .ok (.istore 4, 2) := by decide +kernel
theorem d_m_termsFor_66 : decode (ch_bc m_m_termsFor) 66 = .ok (.aload_n 0, 1) := by decide +kernel
theorem d_m_termsFor_67 : decode (ch_bc m_m_termsFor) 67 = .ok (.invokevirtual 176, 3) := by decide +kernel
theorem d_m_termsFor_70 : decode (ch_bc m_m_termsFor) 70 = .ok (.iload 4, 2) := by decide +kernel
theorem d_m_termsFor_72 : decode (ch_bc m_m_termsFor) 72 = .ok (.iand, 1) := by decide +kernel
theorem d_m_termsFor_73 : decode (ch_bc m_m_termsFor) 73 = .ok (.ifCond .eq 5, 3) := by decide +kernel
theorem d_m_termsFor_76 : decode (ch_bc m_m_termsFor) 76 = .ok (.iload_n 3, 1) := by decide +kernel
theorem d_m_termsFor_77 : decode (ch_bc m_m_termsFor) 77 = .ok (.istore_n 2, 1) := by decide +kernel
theorem d_m_termsFor_78 : decode (ch_bc m_m_termsFor) 78 = .ok (.iinc 3 1, 3) := by decide +kernel
theorem d_m_termsFor_81 : decode (ch_bc m_m_termsFor) 81 = .ok (.goto (-32), 3) := by decide +kernel
theorem d_m_termsFor_84 : decode (ch_bc m_m_termsFor) 84 = .ok (.iconst 0, 1) := by decide +kernel
theorem d_m_termsFor_85 : decode (ch_bc m_m_termsFor) 85 = .ok (.istore_n 3, 1) := by decide +kernel
theorem d_m_termsFor_86 : decode (ch_bc m_m_termsFor) 86 = .ok (.iload_n 3, 1) := by decide +kernel
theorem d_m_termsFor_87 : decode (ch_bc m_m_termsFor) 87 = .ok (.bipush 63, 2) := by decide +kernel
theorem d_m_termsFor_89 : decode (ch_bc m_m_termsFor) 89 = .ok (.if_icmp .ge 21, 3) := by decide +kernel
theorem d_m_termsFor_92 : decode (ch_bc m_m_termsFor) 92 = .ok (.aload_n 0, 1) := by decide +kernel
theorem d_m_termsFor_93 : decode (ch_bc m_m_termsFor) 93 = .ok (.getfield 9, 3) := by decide +kernel
theorem d_m_termsFor_96 : decode (ch_bc m_m_termsFor) 96 = .ok (.iload_n 3, 1) := by decide +kernel
theorem d_m_termsFor_97 : decode (ch_bc m_m_termsFor) 97 = .ok (.aload_n 0, 1) := by decide +kernel
theorem d_m_termsFor_98 : decode (ch_bc m_m_termsFor) 98 = .ok (.getfield 16, 3) := by decide +kernel
theorem d_m_termsFor_101 : decode (ch_bc m_m_termsFor) 101 = .ok (.iload_n 3, 1) := by decide +kernel
theorem d_m_termsFor_102 : decode (ch_bc m_m_termsFor) 102 = .ok (.iaload, 1) := by decide +kernel
theorem d_m_termsFor_103 : decode (ch_bc m_m_termsFor) 103 = .ok (.iastore, 1) := by decide +kernel
theorem d_m_termsFor_104 : decode (ch_bc m_m_termsFor) 104 = .ok (.iinc 3 1, 3) := by decide +kernel
theorem d_m_termsFor_107 : decode (ch_bc m_m_termsFor) 107 = .ok (.goto (-21), 3) := by decide +kernel
theorem d_m_termsFor_110 : decode (ch_bc m_m_termsFor) 110 = .ok (.iload_n 2, 1) := by decide +kernel
theorem d_m_termsFor_111 : decode (ch_bc m_m_termsFor) 111 = .ok (.ifCond .ne 11, 3) := by decide +kernel
theorem d_m_termsFor_114 : decode (ch_bc m_m_termsFor) 114 = .ok (.aload_n 0, 1) := by decide +kernel
theorem d_m_termsFor_115 : decode (ch_bc m_m_termsFor) 115 = .ok (.iconst 2, 1) := by decide +kernel
theorem d_m_termsFor_116 : decode (ch_bc m_m_termsFor) 116 = .ok (.invokevirtual 70, 3) := by decide +kernel
theorem d_m_termsFor_119 : decode (ch_bc m_m_termsFor) 119 = .ok (.goto 4, 3) := by decide +kernel
theorem d_m_termsFor_122 : decode (ch_bc m_m_termsFor) 122 = .ok (.iload_n 2, 1) := by decide +kernel
theorem d_m_termsFor_123 : decode (ch_bc m_m_termsFor) 123 = .ok (.ireturn, 1) := by decide +kernel
theorem d_m_measure_0 : decode (ch_bc m_m_measure) 0 = .ok (.iload_n 2, 1) := by decide +kernel
theorem d_m_measure_1 : decode (ch_bc m_m_measure) 1 = .ok (.ifCond .ne 12, 3) := by decide +kernel
theorem d_m_measure_4 : decode (ch_bc m_m_measure) 4 = .ok (.aload_n 0, 1) := by decide +kernel
theorem d_m_measure_5 : decode (ch_bc m_m_measure) 5 = .ok (.iload_n 1, 1) := by decide +kernel
theorem d_m_measure_6 : decode (ch_bc m_m_measure) 6 = .ok (.iconst 0, 1) := by decide +kernel
theorem d_m_measure_7 : decode (ch_bc m_m_measure) 7 = .ok (.invokevirtual 85, 3) := by decide +kernel
theorem d_m_measure_10 : decode (ch_bc m_m_measure) 10 = .ok (.goto 27, 3) := by decide +kernel
theorem d_m_measure_13 : decode (ch_bc m_m_measure) 13 = .ok (.iload_n 2, 1) := by decide +kernel
theorem d_m_measure_14 : decode (ch_bc m_m_measure) 14 = .ok (.iconst 1, 1) := by decide +kernel
theorem d_m_measure_15 : decode (ch_bc m_m_measure) 15 = .ok (.if_icmp .ne 14, 3) := by decide +kernel
theorem d_m_measure_18 : decode (ch_bc m_m_measure) 18 = .ok (.aload_n 0, 1) := by decide +kernel
theorem d_m_measure_19 : decode (ch_bc m_m_measure) 19 = .ok (.iload_n 1, 1) := by decide +kernel
theorem d_m_measure_20 : decode (ch_bc m_m_measure) 20 = .ok (.invokevirtual 182, 3) := by decide +kernel
theorem d_m_measure_23 : decode (ch_bc m_m_measure) 23 = .ok (.invokestatic 171, 3) := by decide +kernel
theorem d_m_measure_26 : decode (ch_bc m_m_measure) 26 = .ok (.goto 11, 3) := by decide +kernel
theorem d_m_measure_29 : decode (ch_bc m_m_measure) 29 = .ok (.aload_n 0, 1) := by decide +kernel
theorem d_m_measure_30 : decode (ch_bc m_m_measure) 30 = .ok (.iload_n 1, 1) := by decide +kernel
theorem d_m_measure_31 : decode (ch_bc m_m_measure) 31 = .ok (.iload_n 2, 1) := by decide +kernel
theorem d_m_measure_32 : decode (ch_bc m_m_measure) 32 = .ok (.iconst 1, 1) := by decide +kernel
theorem d_m_measure_33 : decode (ch_bc m_m_measure) 33 = .ok (.isub, 1) := by decide +kernel
theorem d_m_measure_34 : decode (ch_bc m_m_measure) 34 = .ok (.invokevirtual 85, 3) := by decide +kernel
theorem d_m_measure_37 : decode (ch_bc m_m_measure) 37 = .ok (.ireturn, 1) := by decide +kernel
theorem d_m_ranked_0 : decode (ch_bc m_m_ranked) 0 = .ok (.aload_n 0, 1) := by decide +kernel
theorem d_m_ranked_1 : decode (ch_bc m_m_ranked) 1 = .ok (.iconst 0, 1) := by decide +kernel
theorem d_m_ranked_2 : decode (ch_bc m_m_ranked) 2 = .ok (.putfield 48, 3) := by decide +kernel
theorem d_m_ranked_5 : decode (ch_bc m_m_ranked) 5 = .ok (.iload_n 1, 1) := by decide +kernel
theorem d_m_ranked_6 : decode (ch_bc m_m_ranked) 6 = .ok (.iconst 0, 1) := by decide +kernel
theorem d_m_ranked_7 : decode (ch_bc m_m_ranked) 7 = .ok (.iconst 3, 1) := by decide +kernel
theorem d_m_ranked_8 : decode (ch_bc m_m_ranked) 8 = .ok (.invokestatic 73, 3) := by decide +kernel
theorem d_m_ranked_11 : decode (ch_bc m_m_ranked) 11 = .ok (.ifCond .ne 9, 3) := by decide +kernel
theorem d_m_ranked_14 : decode (ch_bc m_m_ranked) 14 = .ok (.aload_n 0, 1) := by decide +kernel
theorem d_m_ranked_15 : decode (ch_bc m_m_ranked) 15 = .ok (.iconst 1, 1) := by decide +kernel
theorem d_m_ranked_16 : decode (ch_bc m_m_ranked) 16 = .ok (.invokevirtual 70, 3) := by decide +kernel
theorem d_m_ranked_19 : decode (ch_bc m_m_ranked) 19 = .ok (.ireturn, 1) := by decide +kernel
theorem d_m_ranked_20 : decode (ch_bc m_m_ranked) 20 = .ok (.iconst 0, 1) := by decide +kernel
theorem d_m_ranked_21 : decode (ch_bc m_m_ranked) 21 = .ok (.istore_n 3, 1) := by decide +kernel
theorem d_m_ranked_22 : decode (ch_bc m_m_ranked) 22 = .ok (.iload_n 3, 1) := by decide +kernel
theorem d_m_ranked_23 : decode (ch_bc m_m_ranked) 23 = .ok (.aload_n 0, 1) := by decide +kernel
theorem d_m_ranked_24 : decode (ch_bc m_m_ranked) 24 = .ok (.getfield 9, 3) := by decide +kernel
theorem d_m_ranked_27 : decode (ch_bc m_m_ranked) 27 = .ok (.iconst 0, 1) := by decide +kernel
theorem d_m_ranked_28 : decode (ch_bc m_m_ranked) 28 = .ok (.iaload, 1) := by decide +kernel
theorem d_m_ranked_29 : decode (ch_bc m_m_ranked) 29 = .ok (.if_icmp .ge 75, 3) := by decide +kernel
theorem d_m_ranked_32 : decode (ch_bc m_m_ranked) 32 = .ok (.iconst 0, 1) := by decide +kernel
theorem d_m_ranked_33 : decode (ch_bc m_m_ranked) 33 = .ok (.istore 4, 2) := by decide +kernel
theorem d_m_ranked_35 : decode (ch_bc m_m_ranked) 35 = .ok (.iconst 0, 1) := by decide +kernel
theorem d_m_ranked_36 : decode (ch_bc m_m_ranked) 36 = .ok (.istore 5, 2) := by decide +kernel
theorem d_m_ranked_38 : decode (ch_bc m_m_ranked) 38 = .ok (.iload 5, 2) := by decide +kernel
theorem d_m_ranked_40 : decode (ch_bc m_m_ranked) 40 = .ok (.aload_n 0, 1) := by decide +kernel
theorem d_m_ranked_41 : decode (ch_bc m_m_ranked) 41 = .ok (.getfield 9, 3) := by decide +kernel
theorem d_m_ranked_44 : decode (ch_bc m_m_ranked) 44 = .ok (.iconst 0, 1) := by decide +kernel
theorem d_m_ranked_45 : decode (ch_bc m_m_ranked) 45 = .ok (.iaload, 1) := by decide +kernel
theorem d_m_ranked_46 : decode (ch_bc m_m_ranked) 46 = .ok (.if_icmp .ge 44, 3) := by decide +kernel
theorem d_m_ranked_49 : decode (ch_bc m_m_ranked) 49 = .ok (.aload_n 0, 1) := by decide +kernel
theorem d_m_ranked_50 : decode (ch_bc m_m_ranked) 50 = .ok (.iload 5, 2) := by decide +kernel
theorem d_m_ranked_52 : decode (ch_bc m_m_ranked) 52 = .ok (.iload_n 1, 1) := by decide +kernel
theorem d_m_ranked_53 : decode (ch_bc m_m_ranked) 53 = .ok (.invokevirtual 203, 3) := by decide +kernel
theorem d_m_ranked_56 : decode (ch_bc m_m_ranked) 56 = .ok (.aload_n 0, 1) := by decide +kernel
theorem d_m_ranked_57 : decode (ch_bc m_m_ranked) 57 = .ok (.iload_n 3, 1) := by decide +kernel
theorem d_m_ranked_58 : decode (ch_bc m_m_ranked) 58 = .ok (.iload_n 1, 1) := by decide +kernel
theorem d_m_ranked_59 : decode (ch_bc m_m_ranked) 59 = .ok (.invokevirtual 203, 3) := by decide +kernel
theorem d_m_ranked_62 : decode (ch_bc m_m_ranked) 62 = .ok (.isub, 1) := by decide +kernel
theorem d_m_ranked_63 : decode (ch_bc m_m_ranked) 63 = .ok (.istore 6, 2) := by decide +kernel
theorem d_m_ranked_65 : decode (ch_bc m_m_ranked) 65 = .ok (.iload 6, 2) := by decide +kernel
theorem d_m_ranked_67 : decode (ch_bc m_m_ranked) 67 = .ok (.ifCond .gt 14, 3) := by decide +kernel
theorem d_m_ranked_70 : decode (ch_bc m_m_ranked) 70 = .ok (.iload 6, 2) := by decide +kernel
theorem d_m_ranked_72 : decode (ch_bc m_m_ranked) 72 = .ok (.ifCond .ne 12, 3) := by decide +kernel
theorem d_m_ranked_75 : decode (ch_bc m_m_ranked) 75 = .ok (.iload 5, 2) := by decide +kernel
theorem d_m_ranked_77 : decode (ch_bc m_m_ranked) 77 = .ok (.iload_n 3, 1) := by decide +kernel
theorem d_m_ranked_78 : decode (ch_bc m_m_ranked) 78 = .ok (.if_icmp .ge 6, 3) := by decide +kernel
theorem d_m_ranked_81 : decode (ch_bc m_m_ranked) 81 = .ok (.iinc 4 1, 3) := by decide +kernel
theorem d_m_ranked_84 : decode (ch_bc m_m_ranked) 84 = .ok (.iinc 5 1, 3) := by decide +kernel
theorem d_m_ranked_87 : decode (ch_bc m_m_ranked) 87 = .ok (.goto (-49), 3) := by decide +kernel
theorem d_m_ranked_90 : decode (ch_bc m_m_ranked) 90 = .ok (.iload 4, 2) := by decide +kernel
theorem d_m_ranked_92 : decode (ch_bc m_m_ranked) 92 = .ok (.iload_n 2, 1) := by decide +kernel
theorem d_m_ranked_93 : decode (ch_bc m_m_ranked) 93 = .ok (.if_icmp .ne 5, 3) := by decide +kernel
theorem d_m_ranked_96 : decode (ch_bc m_m_ranked) 96 = .ok (.iload_n 3, 1) := by decide +kernel
theorem d_m_ranked_97 : decode (ch_bc m_m_ranked) 97 = .ok (.ireturn, 1) := by decide +kernel
theorem d_m_ranked_98 : decode (ch_bc m_m_ranked) 98 = .ok (.iinc 3 1, 3) := by decide +kernel
theorem d_m_ranked_101 : decode (ch_bc m_m_ranked) 101 = .ok (.goto (-79), 3) := by decide +kernel
theorem d_m_ranked_104 : decode (ch_bc m_m_ranked) 104 = .ok (.aload_n 0, 1) := by decide +kernel
theorem d_m_ranked_105 : decode (ch_bc m_m_ranked) 105 = .ok (.iconst 2, 1) := by decide +kernel
theorem d_m_ranked_106 : decode (ch_bc m_m_ranked) 106 = .ok (.invokevirtual 70, 3) := by decide +kernel
theorem d_m_ranked_109 : decode (ch_bc m_m_ranked) 109 = .ok (.ireturn, 1) := by decide +kernel
theorem d_m_isEven_0 : decode (ch_bc m_m_isEven) 0 = .ok (.aload_n 0, 1) := by decide +kernel
theorem d_m_isEven_1 : decode (ch_bc m_m_isEven) 1 = .ok (.iconst 0, 1) := by decide +kernel
theorem d_m_isEven_2 : decode (ch_bc m_m_isEven) 2 = .ok (.putfield 48, 3) := by decide +kernel
theorem d_m_isEven_5 : decode (ch_bc m_m_isEven) 5 = .ok (.iconst 1, 1) := by decide +kernel
theorem d_m_isEven_6 : decode (ch_bc m_m_isEven) 6 = .ok (.ireturn, 1) := by decide +kernel
theorem d_m_append_0 : decode (ch_bc m_m_append) 0 = .ok (.aload_n 0, 1) := by decide +kernel
theorem d_m_append_1 : decode (ch_bc m_m_append) 1 = .ok (.iconst 0, 1) := by decide +kernel
theorem d_m_append_2 : decode (ch_bc m_m_append) 2 = .ok (.putfield 48, 3) := by decide +kernel
theorem d_m_append_5 : decode (ch_bc m_m_append) 5 = .ok (.aload_n 0, 1) := by decide +kernel
theorem d_m_append_6 : decode (ch_bc m_m_append) 6 = .ok (.getfield 206, 3) := by decide +kernel
theorem d_m_append_9 : decode (ch_bc m_m_append) 9 = .ok (.bipush 60, 2) := by decide +kernel
theorem d_m_append_11 : decode (ch_bc m_m_append) 11 = .ok (.if_icmp .ne 9, 3) := by decide +kernel
theorem d_m_append_14 : decode (ch_bc m_m_append) 14 = .ok (.aload_n 0, 1) := by decide +kernel
theorem d_m_append_15 : decode (ch_bc m_m_append) 15 = .ok (.iconst 1, 1) := by decide +kernel
theorem d_m_append_16 : decode (ch_bc m_m_append) 16 = .ok (.invokevirtual 70, 3) := by decide +kernel
theorem d_m_append_19 : decode (ch_bc m_m_append) 19 = .ok (.ireturn, 1) := by decide +kernel
theorem d_m_append_20 : decode (ch_bc m_m_append) 20 = .ok (.aload_n 0, 1) := by decide +kernel
theorem d_m_append_21 : decode (ch_bc m_m_append) 21 = .ok (.getfield 29, 3) := by decide +kernel
theorem d_m_append_24 : decode (ch_bc m_m_append) 24 = .ok (.aload_n 0, 1) := by decide +kernel
theorem d_m_append_25 : decode (ch_bc m_m_append) 25 = .ok (.dup, 1) := by decide +kernel
theorem d_m_append_26 : decode (ch_bc m_m_append) 26 = .ok (.getfield 206, 3) := by decide +kernel
theorem d_m_append_29 : decode (ch_bc m_m_append) 29 = .ok (.dup_x1, 1) := by decide +kernel
theorem d_m_append_30 : decode (ch_bc m_m_append) 30 = .ok (.iconst 1, 1) := by decide +kernel
theorem d_m_append_31 : decode (ch_bc m_m_append) 31 = .ok (.iadd, 1) := by decide +kernel
theorem d_m_append_32 : decode (ch_bc m_m_append) 32 = .ok (.putfield 206, 3) := by decide +kernel
theorem d_m_append_35 : decode (ch_bc m_m_append) 35 = .ok (.iload_n 1, 1) := by decide +kernel
theorem d_m_append_36 : decode (ch_bc m_m_append) 36 = .ok (.castore, 1) := by decide +kernel
theorem d_m_append_37 : decode (ch_bc m_m_append) 37 = .ok (.aload_n 0, 1) := by decide +kernel
theorem d_m_append_38 : decode (ch_bc m_m_append) 38 = .ok (.getfield 206, 3) := by decide +kernel
theorem d_m_append_41 : decode (ch_bc m_m_append) 41 = .ok (.ireturn, 1) := by decide +kernel
theorem d_m_takes_0 : decode (ch_bc m_m_takes) 0 = .ok (.aload_n 0, 1) := by decide +kernel
theorem d_m_takes_1 : decode (ch_bc m_m_takes) 1 = .ok (.getfield 209, 3) := by decide +kernel
theorem d_m_takes_4 : decode (ch_bc m_m_takes) 4 = .ok (.aload_n 0, 1) := by decide +kernel
theorem d_m_takes_5 : decode (ch_bc m_m_takes) 5 = .ok (.getfield 206, 3) := by decide +kernel
theorem d_m_takes_8 : decode (ch_bc m_m_takes) 8 = .ok (.if_icmp .eq 16, 3) := by decide +kernel
theorem d_m_takes_11 : decode (ch_bc m_m_takes) 11 = .ok (.aload_n 0, 1) := by decide +kernel
theorem d_m_takes_12 : decode (ch_bc m_m_takes) 12 = .ok (.getfield 29, 3) := by decide +kernel
theorem d_m_takes_15 : decode (ch_bc m_m_takes) 15 = .ok (.aload_n 0, 1) := by decide +kernel
theorem d_m_takes_16 : decode (ch_bc m_m_takes) 16 = .ok (.getfield 209, 3) := by decide +kernel
theorem d_m_takes_19 : decode (ch_bc m_m_takes) 19 = .ok (.caload, 1) := by decide +kernel
theorem d_m_takes_20 : decode (ch_bc m_m_takes) 20 = .ok (.iload_n 1, 1) := by decide +kernel
theorem d_m_takes_21 : decode (ch_bc m_m_takes) 21 = .ok (.if_icmp .eq 5, 3) := by decide +kernel
theorem d_m_takes_24 : decode (ch_bc m_m_takes) 24 = .ok (.iconst 0, 1) := by decide +kernel
theorem d_m_takes_25 : decode (ch_bc m_m_takes) 25 = .ok (.ireturn, 1) := by decide +kernel
theorem d_m_takes_26 : decode (ch_bc m_m_takes) 26 = .ok (.aload_n 0, 1) := by decide +kernel
theorem d_m_takes_27 : decode (ch_bc m_m_takes) 27 = .ok (.dup, 1) := by decide +kernel
theorem d_m_takes_28 : decode (ch_bc m_m_takes) 28 = .ok (.getfield 209, 3) := by decide +kernel
theorem d_m_takes_31 : decode (ch_bc m_m_takes) 31 = .ok (.iconst 1, 1) := by decide +kernel
theorem d_m_takes_32 : decode (ch_bc m_m_takes) 32 = .ok (.iadd, 1) := by decide +kernel
theorem d_m_takes_33 : decode (ch_bc m_m_takes) 33 = .ok (.putfield 209, 3) := by decide +kernel
theorem d_m_takes_36 : decode (ch_bc m_m_takes) 36 = .ok (.iconst 1, 1) := by decide +kernel
theorem d_m_takes_37 : decode (ch_bc m_m_takes) 37 = .ok (.ireturn, 1) := by decide +kernel
theorem d_m_digits_0 : decode (ch_bc m_m_digits) 0 = .ok (.iconst 0, 1) := by decide +kernel
theorem d_m_digits_1 : decode (ch_bc m_m_digits) 1 = .ok (.istore_n 3, 1) := by decide +kernel
theorem d_m_digits_2 : decode (ch_bc m_m_digits) 2 = .ok (.aload_n 0, 1) := by decide +kernel
theorem d_m_digits_3 : decode (ch_bc m_m_digits) 3 = .ok (.getfield 32, 3) := by decide +kernel
theorem d_m_digits_6 : decode (ch_bc m_m_digits) 6 = .ok (.iload_n 1, 1) := by decide +kernel
theorem d_m_digits_7 : decode (ch_bc m_m_digits) 7 = .ok (.iconst 0, 1) := by decide +kernel
theorem d_m_digits_8 : decode (ch_bc m_m_digits) 8 = .ok (.iastore, 1) := by decide +kernel
theorem d_m_digits_9 : decode (ch_bc m_m_digits) 9 = .ok (.iload_n 3, 1) := by decide +kernel
theorem d_m_digits_10 : decode (ch_bc m_m_digits) 10 = .ok (.iload_n 2, 1) := by decide +kernel
theorem d_m_digits_11 : decode (ch_bc m_m_digits) 11 = .ok (.if_icmp .ge 74, 3) := by decide +kernel
theorem d_m_digits_14 : decode (ch_bc m_m_digits) 14 = .ok (.aload_n 0, 1) := by decide +kernel
theorem d_m_digits_15 : decode (ch_bc m_m_digits) 15 = .ok (.getfield 209, 3) := by decide +kernel
theorem d_m_digits_18 : decode (ch_bc m_m_digits) 18 = .ok (.aload_n 0, 1) := by decide +kernel
theorem d_m_digits_19 : decode (ch_bc m_m_digits) 19 = .ok (.getfield 206, 3) := by decide +kernel
theorem d_m_digits_22 : decode (ch_bc m_m_digits) 22 = .ok (.if_icmp .ge 63, 3) := by decide +kernel
theorem d_m_digits_25 : decode (ch_bc m_m_digits) 25 = .ok (.aload_n 0, 1) := by decide +kernel
theorem d_m_digits_26 : decode (ch_bc m_m_digits) 26 = .ok (.getfield 29, 3) := by decide +kernel
theorem d_m_digits_29 : decode (ch_bc m_m_digits) 29 = .ok (.aload_n 0, 1) := by decide +kernel
theorem d_m_digits_30 : decode (ch_bc m_m_digits) 30 = .ok (.getfield 209, 3) := by decide +kernel
theorem d_m_digits_33 : decode (ch_bc m_m_digits) 33 = .ok (.caload, 1) := by decide +kernel
theorem d_m_digits_34 : decode (ch_bc m_m_digits) 34 = .ok (.bipush 48, 2) := by decide +kernel
theorem d_m_digits_36 : decode (ch_bc m_m_digits) 36 = .ok (.bipush 57, 2) := by decide +kernel
theorem d_m_digits_38 : decode (ch_bc m_m_digits) 38 = .ok (.invokestatic 73, 3) := by decide +kernel
theorem d_m_digits_41 : decode (ch_bc m_m_digits) 41 = .ok (.ifCond .eq 44, 3) := by decide +kernel
theorem d_m_digits_44 : decode (ch_bc m_m_digits) 44 = .ok (.aload_n 0, 1) := by decide +kernel
theorem d_m_digits_45 : decode (ch_bc m_m_digits) 45 = .ok (.getfield 32, 3) := by decide +kernel
theorem d_m_digits_48 : decode (ch_bc m_m_digits) 48 = .ok (.iload_n 1, 1) := by decide +kernel
theorem d_m_digits_49 : decode (ch_bc m_m_digits) 49 = .ok (.bipush 10, 2) := by decide +kernel
theorem d_m_digits_51 : decode (ch_bc m_m_digits) 51 = .ok (.aload_n 0, 1) := by decide +kernel
theorem d_m_digits_52 : decode (ch_bc m_m_digits) 52 = .ok (.getfield 32, 3) := by decide +kernel
theorem d_m_digits_55 : decode (ch_bc m_m_digits) 55 = .ok (.iload_n 1, 1) := by decide +kernel
theorem d_m_digits_56 : decode (ch_bc m_m_digits) 56 = .ok (.iaload, 1) := by decide +kernel
theorem d_m_digits_57 : decode (ch_bc m_m_digits) 57 = .ok (.imul, 1) := by decide +kernel
theorem d_m_digits_58 : decode (ch_bc m_m_digits) 58 = .ok (.aload_n 0, 1) := by decide +kernel
theorem d_m_digits_59 : decode (ch_bc m_m_digits) 59 = .ok (.getfield 29, 3) := by decide +kernel
theorem d_m_digits_62 : decode (ch_bc m_m_digits) 62 = .ok (.aload_n 0, 1) := by decide +kernel
theorem d_m_digits_63 : decode (ch_bc m_m_digits) 63 = .ok (.dup, 1) := by decide +kernel
theorem d_m_digits_64 : decode (ch_bc m_m_digits) 64 = .ok (.getfield 209, 3) := by decide +kernel
theorem d_m_digits_67 : decode (ch_bc m_m_digits) 67 = .ok (.dup_x1, 1) := by decide +kernel
theorem d_m_digits_68 : decode (ch_bc m_m_digits) 68 = .ok (.iconst 1, 1) := by decide +kernel
theorem d_m_digits_69 : decode (ch_bc m_m_digits) 69 = .ok (.iadd, 1) := by decide +kernel
theorem d_m_digits_70 : decode (ch_bc m_m_digits) 70 = .ok (.putfield 209, 3) := by decide +kernel
theorem d_m_digits_73 : decode (ch_bc m_m_digits) 73 = .ok (.caload, 1) := by decide +kernel
theorem d_m_digits_74 : decode (ch_bc m_m_digits) 74 = .ok (.iadd, 1) := by decide +kernel
theorem d_m_digits_75 : decode (ch_bc m_m_digits) 75 = .ok (.bipush 48, 2) := by decide +kernel
theorem d_m_digits_77 : decode (ch_bc m_m_digits) 77 = .ok (.isub, 1) := by decide +kernel
theorem d_m_digits_78 : decode (ch_bc m_m_digits) 78 = .ok (.iastore, 1) := by decide +kernel
theorem d_m_digits_79 : decode (ch_bc m_m_digits) 79 = .ok (.iinc 3 1, 3) := by decide +kernel
theorem d_m_digits_82 : decode (ch_bc m_m_digits) 82 = .ok (.goto (-73), 3) := by decide +kernel
theorem d_m_digits_85 : decode (ch_bc m_m_digits) 85 = .ok (.iload_n 3, 1) := by decide +kernel
theorem d_m_digits_86 : decode (ch_bc m_m_digits) 86 = .ok (.ifCond .le 7, 3) := by decide +kernel
theorem d_m_digits_89 : decode (ch_bc m_m_digits) 89 = .ok (.iconst 1, 1) := by decide +kernel
theorem d_m_digits_90 : decode (ch_bc m_m_digits) 90 = .ok (.goto 4, 3) := by decide +kernel
theorem d_m_digits_93 : decode (ch_bc m_m_digits) 93 = .ok (.iconst 0, 1) := by decide +kernel
theorem d_m_digits_94 : decode (ch_bc m_m_digits) 94 = .ok (.ireturn, 1) := by decide +kernel
theorem d_m_hasSteps_0 : decode (ch_bc m_m_hasSteps) 0 = .ok (.aload_n 0, 1) := by decide +kernel
theorem d_m_hasSteps_1 : decode (ch_bc m_m_hasSteps) 1 = .ok (.iconst 0, 1) := by decide +kernel
theorem d_m_hasSteps_2 : decode (ch_bc m_m_hasSteps) 2 = .ok (.putfield 126, 3) := by decide +kernel
theorem d_m_hasSteps_5 : decode (ch_bc m_m_hasSteps) 5 = .ok (.aload_n 0, 1) := by decide +kernel
theorem d_m_hasSteps_6 : decode (ch_bc m_m_hasSteps) 6 = .ok (.getfield 126, 3) := by decide +kernel
theorem d_m_hasSteps_9 : decode (ch_bc m_m_hasSteps) 9 = .ok (.bipush 12, 2) := by decide +kernel
theorem d_m_hasSteps_11 : decode (ch_bc m_m_hasSteps) 11 = .ok (.if_icmp .ge 71, 3) := by decide +kernel
theorem d_m_hasSteps_14 : decode (ch_bc m_m_hasSteps) 14 = .ok (.aload_n 0, 1) := by decide +kernel
theorem d_m_hasSteps_15 : decode (ch_bc m_m_hasSteps) 15 = .ok (.getfield 209, 3) := by decide +kernel
theorem d_m_hasSteps_18 : decode (ch_bc m_m_hasSteps) 18 = .ok (.aload_n 0, 1) := by decide +kernel
theorem d_m_hasSteps_19 : decode (ch_bc m_m_hasSteps) 19 = .ok (.getfield 206, 3) := by decide +kernel
theorem d_m_hasSteps_22 : decode (ch_bc m_m_hasSteps) 22 = .ok (.if_icmp .ge 60, 3) := by decide +kernel
theorem d_m_hasSteps_25 : decode (ch_bc m_m_hasSteps) 25 = .ok (.aload_n 0, 1) := by decide +kernel
theorem d_m_hasSteps_26 : decode (ch_bc m_m_hasSteps) 26 = .ok (.getfield 29, 3) := by decide +kernel
theorem d_m_hasSteps_29 : decode (ch_bc m_m_hasSteps) 29 = .ok (.aload_n 0, 1) := by decide +kernel
theorem d_m_hasSteps_30 : decode (ch_bc m_m_hasSteps) 30 = .ok (.getfield 209, 3) := by decide +kernel
theorem d_m_hasSteps_33 : decode (ch_bc m_m_hasSteps) 33 = .ok (.caload, 1) := by decide +kernel
theorem d_m_hasSteps_34 : decode (ch_bc m_m_hasSteps) 34 = .ok (.bipush 49, 2) := by decide +kernel
theorem d_m_hasSteps_36 : decode (ch_bc m_m_hasSteps) 36 = .ok (.bipush 51, 2) := by decide +kernel
theorem d_m_hasSteps_38 : decode (ch_bc m_m_hasSteps) 38 = .ok (.invokestatic 73, 3) := by decide +kernel
theorem d_m_hasSteps_41 : decode (ch_bc m_m_hasSteps) 41 = .ok (.ifCond .eq 41, 3) := by decide +kernel
theorem d_m_hasSteps_44 : decode (ch_bc m_m_hasSteps) 44 = .ok (.aload_n 0, 1) := by decide +kernel
theorem d_m_hasSteps_45 : decode (ch_bc m_m_hasSteps) 45 = .ok (.getfield 39, 3) := by decide +kernel
theorem d_m_hasSteps_48 : decode (ch_bc m_m_hasSteps) 48 = .ok (.aload_n 0, 1) := by decide +kernel
theorem d_m_hasSteps_49 : decode (ch_bc m_m_hasSteps) 49 = .ok (.dup, 1) := by decide +kernel
theorem d_m_hasSteps_50 : decode (ch_bc m_m_hasSteps) 50 = .ok (.getfield 126, 3) := by decide +kernel
theorem d_m_hasSteps_53 : decode (ch_bc m_m_hasSteps) 53 = .ok (.dup_x1, 1) := by decide +kernel
theorem d_m_hasSteps_54 : decode (ch_bc m_m_hasSteps) 54 = .ok (.iconst 1, 1) := by decide +kernel
theorem d_m_hasSteps_55 : decode (ch_bc m_m_hasSteps) 55 = .ok (.iadd, 1) := by decide +kernel
theorem d_m_hasSteps_56 : decode (ch_bc m_m_hasSteps) 56 = .ok (.putfield 126, 3) := by decide +kernel
theorem d_m_hasSteps_59 : decode (ch_bc m_m_hasSteps) 59 = .ok (.aload_n 0, 1) := by decide +kernel
theorem d_m_hasSteps_60 : decode (ch_bc m_m_hasSteps) 60 = .ok (.getfield 29, 3) := by decide +kernel
theorem d_m_hasSteps_63 : decode (ch_bc m_m_hasSteps) 63 = .ok (.aload_n 0, 1) := by decide +kernel
theorem d_m_hasSteps_64 : decode (ch_bc m_m_hasSteps) 64 = .ok (.dup, 1) := by decide +kernel
theorem d_m_hasSteps_65 : decode (ch_bc m_m_hasSteps) 65 = .ok (.getfield 209, 3) := by decide +kernel
theorem d_m_hasSteps_68 : decode (ch_bc m_m_hasSteps) 68 = .ok (.dup_x1, 1) := by decide +kernel
theorem d_m_hasSteps_69 : decode (ch_bc m_m_hasSteps) 69 = .ok (.iconst 1, 1) := by decide +kernel
theorem d_m_hasSteps_70 : decode (ch_bc m_m_hasSteps) 70 = .ok (.iadd, 1) := by decide +kernel
theorem d_m_hasSteps_71 : decode (ch_bc m_m_hasSteps) 71 = .ok (.putfield 209, 3) := by decide +kernel
theorem d_m_hasSteps_74 : decode (ch_bc m_m_hasSteps) 74 = .ok (.caload, 1) := by decide +kernel
theorem d_m_hasSteps_75 : decode (ch_bc m_m_hasSteps) 75 = .ok (.bipush 48, 2) := by decide +kernel
theorem d_m_hasSteps_77 : decode (ch_bc m_m_hasSteps) 77 = .ok (.isub, 1) := by decide +kernel
theorem d_m_hasSteps_78 : decode (ch_bc m_m_hasSteps) 78 = .ok (.iastore, 1) := by decide +kernel
theorem d_m_hasSteps_79 : decode (ch_bc m_m_hasSteps) 79 = .ok (.goto (-74), 3) := by decide +kernel
theorem d_m_hasSteps_82 : decode (ch_bc m_m_hasSteps) 82 = .ok (.aload_n 0, 1) := by decide +kernel
theorem d_m_hasSteps_83 : decode (ch_bc m_m_hasSteps) 83 = .ok (.getfield 126, 3) := by decide +kernel
theorem d_m_hasSteps_86 : decode (ch_bc m_m_hasSteps) 86 = .ok (.ifCond .le 7, 3) := by decide +kernel
theorem d_m_hasSteps_89 : decode (ch_bc m_m_hasSteps) 89 = .ok (.iconst 1, 1) := by decide +kernel
theorem d_m_hasSteps_90 : decode (ch_bc m_m_hasSteps) 90 = .ok (.goto 4, 3) := by decide +kernel
theorem d_m_hasSteps_93 : decode (ch_bc m_m_hasSteps) 93 = .ok (.iconst 0, 1) := by decide +kernel
theorem d_m_hasSteps_94 : decode (ch_bc m_m_hasSteps) 94 = .ok (.ireturn, 1) := by decide +kernel
theorem d_m_isCommand_0 : decode (ch_bc m_m_isCommand) 0 = .ok (.aload_n 0, 1) := by decide +kernel
theorem d_m_isCommand_1 : decode (ch_bc m_m_isCommand) 1 = .ok (.getfield 209, 3) := by decide +kernel
theorem d_m_isCommand_4 : decode (ch_bc m_m_isCommand) 4 = .ok (.aload_n 0, 1) := by decide +kernel
theorem d_m_isCommand_5 : decode (ch_bc m_m_isCommand) 5 = .ok (.getfield 206, 3) := by decide +kernel
theorem d_m_isCommand_8 : decode (ch_bc m_m_isCommand) 8 = .ok (.if_icmp .eq 20, 3) := by decide +kernel
theorem d_m_isCommand_11 : decode (ch_bc m_m_isCommand) 11 = .ok (.ldc 212, 2) := by decide +kernel
theorem d_m_isCommand_13 : decode (ch_bc m_m_isCommand) 13 = .ok (.aload_n 0, 1) := by decide +kernel
theorem d_m_isCommand_14 : decode (ch_bc m_m_isCommand) 14 = .ok (.getfield 29, 3) := by decide +kernel
theorem d_m_isCommand_17 : decode (ch_bc m_m_isCommand) 17 = .ok (.aload_n 0, 1) := by decide +kernel
theorem d_m_isCommand_18 : decode (ch_bc m_m_isCommand) 18 = .ok (.getfield 209, 3) := by decide +kernel
theorem d_m_isCommand_21 : decode (ch_bc m_m_isCommand) 21 = .ok (.caload, 1) := by decide +kernel
theorem d_m_isCommand_22 : decode (ch_bc m_m_isCommand) 22 = .ok (.invokevirtual 214, 3) := by decide +kernel
theorem d_m_isCommand_25 : decode (ch_bc m_m_isCommand) 25 = .ok (.ifCond .ge 5, 3) := by decide +kernel
theorem d_m_isCommand_28 : decode (ch_bc m_m_isCommand) 28 = .ok (.iconst 0, 1) := by decide +kernel
theorem d_m_isCommand_29 : decode (ch_bc m_m_isCommand) 29 = .ok (.ireturn, 1) := by decide +kernel
theorem d_m_isCommand_30 : decode (ch_bc m_m_isCommand) 30 = .ok (.aload_n 0, 1) := by decide +kernel
theorem d_m_isCommand_31 : decode (ch_bc m_m_isCommand) 31 = .ok (.aload_n 0, 1) := by decide +kernel
theorem d_m_isCommand_32 : decode (ch_bc m_m_isCommand) 32 = .ok (.getfield 29, 3) := by decide +kernel
theorem d_m_isCommand_35 : decode (ch_bc m_m_isCommand) 35 = .ok (.aload_n 0, 1) := by decide +kernel
theorem d_m_isCommand_36 : decode (ch_bc m_m_isCommand) 36 = .ok (.dup, 1) := by decide +kernel
theorem d_m_isCommand_37 : decode (ch_bc m_m_isCommand) 37 = .ok (.getfield 209, 3) := by decide +kernel
theorem d_m_isCommand_40 : decode (ch_bc m_m_isCommand) 40 = .ok (.dup_x1, 1) := by decide +kernel
theorem d_m_isCommand_41 : decode (ch_bc m_m_isCommand) 41 = .ok (.iconst 1, 1) := by decide +kernel
theorem d_m_isCommand_42 : decode (ch_bc m_m_isCommand) 42 = .ok (.iadd, 1) := by decide +kernel
