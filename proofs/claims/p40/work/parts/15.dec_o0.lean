theorem d_c_set_0 : decode (ch_bc m_c_set) 0 = .ok (.aload_n 0, 1) := by decide +kernel
theorem d_c_set_1 : decode (ch_bc m_c_set) 1 = .ok (.iload_n 1, 1) := by decide +kernel
theorem d_c_set_2 : decode (ch_bc m_c_set) 2 = .ok (.putfield 16, 3) := by decide +kernel
theorem d_c_set_5 : decode (ch_bc m_c_set) 5 = .ok (.aload_n 0, 1) := by decide +kernel
theorem d_c_set_6 : decode (ch_bc m_c_set) 6 = .ok (.iload_n 2, 1) := by decide +kernel
theorem d_c_set_7 : decode (ch_bc m_c_set) 7 = .ok (.putfield 20, 3) := by decide +kernel
theorem d_c_set_10 : decode (ch_bc m_c_set) 10 = .ok (.aload_n 0, 1) := by decide +kernel
theorem d_c_set_11 : decode (ch_bc m_c_set) 11 = .ok (.iload_n 3, 1) := by decide +kernel
theorem d_c_set_12 : decode (ch_bc m_c_set) 12 = .ok (.putfield 23, 3) := by decide +kernel
theorem d_c_set_15 : decode (ch_bc m_c_set) 15 = .ok (.aload_n 0, 1) := by decide +kernel
theorem d_c_set_16 : decode (ch_bc m_c_set) 16 = .ok (.iload 4, 2) := by decide +kernel
theorem d_c_set_18 : decode (ch_bc m_c_set) 18 = .ok (.putfield 26, 3) := by decide +kernel
theorem d_c_set_21 : decode (ch_bc m_c_set) 21 = .ok (.return_, 1) := by decide +kernel
theorem d_p_keep_0 : decode (ch_bc m_p_keep) 0 = .ok (.aload_n 0, 1) := by decide +kernel
theorem d_p_keep_1 : decode (ch_bc m_p_keep) 1 = .ok (.aload_n 0, 1) := by decide +kernel
theorem d_p_keep_2 : decode (ch_bc m_p_keep) 2 = .ok (.getfield 18, 3) := by decide +kernel
theorem d_p_keep_5 : decode (ch_bc m_p_keep) 5 = .ok (.iconst 1, 1) := by decide +kernel
theorem d_p_keep_6 : decode (ch_bc m_p_keep) 6 = .ok (.iadd, 1) := by decide +kernel
theorem d_p_keep_7 : decode (ch_bc m_p_keep) 7 = .ok (.aload_n 0, 1) := by decide +kernel
theorem d_p_keep_8 : decode (ch_bc m_p_keep) 8 = .ok (.getfield 11, 3) := by decide +kernel
theorem d_p_keep_11 : decode (ch_bc m_p_keep) 11 = .ok (.arraylength, 1) := by decide +kernel
theorem d_p_keep_12 : decode (ch_bc m_p_keep) 12 = .ok (.if_icmp .ge 12, 3) := by decide +kernel
theorem d_p_keep_15 : decode (ch_bc m_p_keep) 15 = .ok (.aload_n 0, 1) := by decide +kernel
theorem d_p_keep_16 : decode (ch_bc m_p_keep) 16 = .ok (.getfield 18, 3) := by decide +kernel
theorem d_p_keep_19 : decode (ch_bc m_p_keep) 19 = .ok (.iconst 1, 1) := by decide +kernel
theorem d_p_keep_20 : decode (ch_bc m_p_keep) 20 = .ok (.iadd, 1) := by decide +kernel
theorem d_p_keep_21 : decode (ch_bc m_p_keep) 21 = .ok (.goto 4, 3) := by decide +kernel
theorem d_p_keep_24 : decode (ch_bc m_p_keep) 24 = .ok (.iconst 0, 1) := by decide +kernel
theorem d_p_keep_25 : decode (ch_bc m_p_keep) 25 = .ok (.putfield 18, 3) := by decide +kernel
theorem d_p_keep_28 : decode (ch_bc m_p_keep) 28 = .ok (.aload_n 0, 1) := by decide +kernel
theorem d_p_keep_29 : decode (ch_bc m_p_keep) 29 = .ok (.aload_n 0, 1) := by decide +kernel
theorem d_p_keep_30 : decode (ch_bc m_p_keep) 30 = .ok (.getfield 22, 3) := by decide +kernel
theorem d_p_keep_33 : decode (ch_bc m_p_keep) 33 = .ok (.aload_n 0, 1) := by decide +kernel
theorem d_p_keep_34 : decode (ch_bc m_p_keep) 34 = .ok (.getfield 11, 3) := by decide +kernel
theorem d_p_keep_37 : decode (ch_bc m_p_keep) 37 = .ok (.arraylength, 1) := by decide +kernel
theorem d_p_keep_38 : decode (ch_bc m_p_keep) 38 = .ok (.if_icmp .ge 12, 3) := by decide +kernel
theorem d_p_keep_41 : decode (ch_bc m_p_keep) 41 = .ok (.aload_n 0, 1) := by decide +kernel
theorem d_p_keep_42 : decode (ch_bc m_p_keep) 42 = .ok (.getfield 22, 3) := by decide +kernel
theorem d_p_keep_45 : decode (ch_bc m_p_keep) 45 = .ok (.iconst 1, 1) := by decide +kernel
theorem d_p_keep_46 : decode (ch_bc m_p_keep) 46 = .ok (.iadd, 1) := by decide +kernel
theorem d_p_keep_47 : decode (ch_bc m_p_keep) 47 = .ok (.goto 7, 3) := by decide +kernel
theorem d_p_keep_50 : decode (ch_bc m_p_keep) 50 = .ok (.aload_n 0, 1) := by decide +kernel
theorem d_p_keep_51 : decode (ch_bc m_p_keep) 51 = .ok (.getfield 22, 3) := by decide +kernel
theorem d_p_keep_54 : decode (ch_bc m_p_keep) 54 = .ok (.putfield 22, 3) := by decide +kernel
theorem d_p_keep_57 : decode (ch_bc m_p_keep) 57 = .ok (.aload_n 0, 1) := by decide +kernel
theorem d_p_keep_58 : decode (ch_bc m_p_keep) 58 = .ok (.getfield 11, 3) := by decide +kernel
theorem d_p_keep_61 : decode (ch_bc m_p_keep) 61 = .ok (.aload_n 0, 1) := by decide +kernel
theorem d_p_keep_62 : decode (ch_bc m_p_keep) 62 = .ok (.getfield 18, 3) := by decide +kernel
theorem d_p_keep_65 : decode (ch_bc m_p_keep) 65 = .ok (.aaload, 1) := by decide +kernel
theorem d_p_keep_66 : decode (ch_bc m_p_keep) 66 = .ok (.aload_n 1, 1) := by decide +kernel
theorem d_p_keep_67 : decode (ch_bc m_p_keep) 67 = .ok (.invokevirtual 25, 3) := by decide +kernel
theorem d_p_keep_70 : decode (ch_bc m_p_keep) 70 = .ok (.return_, 1) := by decide +kernel
theorem d_p_giveBack_0 : decode (ch_bc m_p_giveBack) 0 = .ok (.aload_n 1, 1) := by decide +kernel
theorem d_p_giveBack_1 : decode (ch_bc m_p_giveBack) 1 = .ok (.aload_n 0, 1) := by decide +kernel
theorem d_p_giveBack_2 : decode (ch_bc m_p_giveBack) 2 = .ok (.getfield 11, 3) := by decide +kernel
theorem d_p_giveBack_5 : decode (ch_bc m_p_giveBack) 5 = .ok (.aload_n 0, 1) := by decide +kernel
theorem d_p_giveBack_6 : decode (ch_bc m_p_giveBack) 6 = .ok (.getfield 18, 3) := by decide +kernel
theorem d_p_giveBack_9 : decode (ch_bc m_p_giveBack) 9 = .ok (.aaload, 1) := by decide +kernel
theorem d_p_giveBack_10 : decode (ch_bc m_p_giveBack) 10 = .ok (.invokevirtual 25, 3) := by decide +kernel
theorem d_p_giveBack_13 : decode (ch_bc m_p_giveBack) 13 = .ok (.aload_n 0, 1) := by decide +kernel
theorem d_p_giveBack_14 : decode (ch_bc m_p_giveBack) 14 = .ok (.aload_n 0, 1) := by decide +kernel
theorem d_p_giveBack_15 : decode (ch_bc m_p_giveBack) 15 = .ok (.getfield 18, 3) := by decide +kernel
theorem d_p_giveBack_18 : decode (ch_bc m_p_giveBack) 18 = .ok (.ifCond .le 12, 3) := by decide +kernel
theorem d_p_giveBack_21 : decode (ch_bc m_p_giveBack) 21 = .ok (.aload_n 0, 1) := by decide +kernel
theorem d_p_giveBack_22 : decode (ch_bc m_p_giveBack) 22 = .ok (.getfield 18, 3) := by decide +kernel
theorem d_p_giveBack_25 : decode (ch_bc m_p_giveBack) 25 = .ok (.iconst 1, 1) := by decide +kernel
theorem d_p_giveBack_26 : decode (ch_bc m_p_giveBack) 26 = .ok (.isub, 1) := by decide +kernel
theorem d_p_giveBack_27 : decode (ch_bc m_p_giveBack) 27 = .ok (.goto 10, 3) := by decide +kernel
theorem d_p_giveBack_30 : decode (ch_bc m_p_giveBack) 30 = .ok (.aload_n 0, 1) := by decide +kernel
theorem d_p_giveBack_31 : decode (ch_bc m_p_giveBack) 31 = .ok (.getfield 11, 3) := by decide +kernel
theorem d_p_giveBack_34 : decode (ch_bc m_p_giveBack) 34 = .ok (.arraylength, 1) := by decide +kernel
theorem d_p_giveBack_35 : decode (ch_bc m_p_giveBack) 35 = .ok (.iconst 1, 1) := by decide +kernel
theorem d_p_giveBack_36 : decode (ch_bc m_p_giveBack) 36 = .ok (.isub, 1) := by decide +kernel
theorem d_p_giveBack_37 : decode (ch_bc m_p_giveBack) 37 = .ok (.putfield 18, 3) := by decide +kernel
theorem d_p_giveBack_40 : decode (ch_bc m_p_giveBack) 40 = .ok (.aload_n 0, 1) := by decide +kernel
theorem d_p_giveBack_41 : decode (ch_bc m_p_giveBack) 41 = .ok (.dup, 1) := by decide +kernel
theorem d_p_giveBack_42 : decode (ch_bc m_p_giveBack) 42 = .ok (.getfield 22, 3) := by decide +kernel
theorem d_p_giveBack_45 : decode (ch_bc m_p_giveBack) 45 = .ok (.iconst 1, 1) := by decide +kernel
theorem d_p_giveBack_46 : decode (ch_bc m_p_giveBack) 46 = .ok (.isub, 1) := by decide +kernel
theorem d_p_giveBack_47 : decode (ch_bc m_p_giveBack) 47 = .ok (.putfield 22, 3) := by decide +kernel
theorem d_p_giveBack_50 : decode (ch_bc m_p_giveBack) 50 = .ok (.return_, 1) := by decide +kernel
theorem d_d_findFault_0 : decode (ch_bc m_d_findFault) 0 = .ok (.aload_n 0, 1) := by decide +kernel
theorem d_d_findFault_1 : decode (ch_bc m_d_findFault) 1 = .ok (.iconst 0, 1) := by decide +kernel
theorem d_d_findFault_2 : decode (ch_bc m_d_findFault) 2 = .ok (.putfield 9, 3) := by decide +kernel
theorem d_d_findFault_5 : decode (ch_bc m_d_findFault) 5 = .ok (.iconst 0, 1) := by decide +kernel
theorem d_d_findFault_6 : decode (ch_bc m_d_findFault) 6 = .ok (.istore_n 3, 1) := by decide +kernel
theorem d_d_findFault_7 : decode (ch_bc m_d_findFault) 7 = .ok (.iload_n 3, 1) := by decide +kernel
theorem d_d_findFault_8 : decode (ch_bc m_d_findFault) 8 = .ok (.bipush 60, 2) := by decide +kernel
theorem d_d_findFault_10 : decode (ch_bc m_d_findFault) 10 = .ok (.if_icmp .ge 51, 3) := by decide +kernel
theorem d_d_findFault_13 : decode (ch_bc m_d_findFault) 13 = .ok (.aload_n 0, 1) := by decide +kernel
theorem d_d_findFault_14 : decode (ch_bc m_d_findFault) 14 = .ok (.aload_n 1, 1) := by decide +kernel
theorem d_d_findFault_15 : decode (ch_bc m_d_findFault) 15 = .ok (.aload_n 2, 1) := by decide +kernel
theorem d_d_findFault_16 : decode (ch_bc m_d_findFault) 16 = .ok (.invokevirtual 15, 3) := by decide +kernel
theorem d_d_findFault_19 : decode (ch_bc m_d_findFault) 19 = .ok (.ifCond .ne 8, 3) := by decide +kernel
theorem d_d_findFault_22 : decode (ch_bc m_d_findFault) 22 = .ok (.aload_n 0, 1) := by decide +kernel
theorem d_d_findFault_23 : decode (ch_bc m_d_findFault) 23 = .ok (.getfield 9, 3) := by decide +kernel
theorem d_d_findFault_26 : decode (ch_bc m_d_findFault) 26 = .ok (.ireturn, 1) := by decide +kernel
theorem d_d_findFault_27 : decode (ch_bc m_d_findFault) 27 = .ok (.aload_n 0, 1) := by decide +kernel
theorem d_d_findFault_28 : decode (ch_bc m_d_findFault) 28 = .ok (.getfield 9, 3) := by decide +kernel
theorem d_d_findFault_31 : decode (ch_bc m_d_findFault) 31 = .ok (.aload_n 1, 1) := by decide +kernel
theorem d_d_findFault_32 : decode (ch_bc m_d_findFault) 32 = .ok (.getfield 19, 3) := by decide +kernel
theorem d_d_findFault_35 : decode (ch_bc m_d_findFault) 35 = .ok (.if_icmp .ne 5, 3) := by decide +kernel
theorem d_d_findFault_38 : decode (ch_bc m_d_findFault) 38 = .ok (.iconst (-1), 1) := by decide +kernel
theorem d_d_findFault_39 : decode (ch_bc m_d_findFault) 39 = .ok (.ireturn, 1) := by decide +kernel
theorem d_d_findFault_40 : decode (ch_bc m_d_findFault) 40 = .ok (.aload_n 0, 1) := by decide +kernel
theorem d_d_findFault_41 : decode (ch_bc m_d_findFault) 41 = .ok (.aload_n 1, 1) := by decide +kernel
theorem d_d_findFault_42 : decode (ch_bc m_d_findFault) 42 = .ok (.bipush 59, 2) := by decide +kernel
theorem d_d_findFault_44 : decode (ch_bc m_d_findFault) 44 = .ok (.invokevirtual 24, 3) := by decide +kernel
theorem d_d_findFault_47 : decode (ch_bc m_d_findFault) 47 = .ok (.ifCond .ne 8, 3) := by decide +kernel
theorem d_d_findFault_50 : decode (ch_bc m_d_findFault) 50 = .ok (.aload_n 0, 1) := by decide +kernel
theorem d_d_findFault_51 : decode (ch_bc m_d_findFault) 51 = .ok (.getfield 9, 3) := by decide +kernel
theorem d_d_findFault_54 : decode (ch_bc m_d_findFault) 54 = .ok (.ireturn, 1) := by decide +kernel
theorem d_d_findFault_55 : decode (ch_bc m_d_findFault) 55 = .ok (.iinc 3 1, 3) := by decide +kernel
theorem d_d_findFault_58 : decode (ch_bc m_d_findFault) 58 = .ok (.goto (-51), 3) := by decide +kernel
theorem d_d_findFault_61 : decode (ch_bc m_d_findFault) 61 = .ok (.aload_n 0, 1) := by decide +kernel
theorem d_d_findFault_62 : decode (ch_bc m_d_findFault) 62 = .ok (.getfield 9, 3) := by decide +kernel
theorem d_d_findFault_65 : decode (ch_bc m_d_findFault) 65 = .ok (.ireturn, 1) := by decide +kernel
theorem d_d_takeCommand_0 : decode (ch_bc m_d_takeCommand) 0 = .ok (.aload_n 0, 1) := by decide +kernel
theorem d_d_takeCommand_1 : decode (ch_bc m_d_takeCommand) 1 = .ok (.aload_n 1, 1) := by decide +kernel
theorem d_d_takeCommand_2 : decode (ch_bc m_d_takeCommand) 2 = .ok (.invokevirtual 28, 3) := by decide +kernel
theorem d_d_takeCommand_5 : decode (ch_bc m_d_takeCommand) 5 = .ok (.istore_n 3, 1) := by decide +kernel
theorem d_d_takeCommand_6 : decode (ch_bc m_d_takeCommand) 6 = .ok (.aload_n 0, 1) := by decide +kernel
theorem d_d_takeCommand_7 : decode (ch_bc m_d_takeCommand) 7 = .ok (.iload_n 3, 1) := by decide +kernel
theorem d_d_takeCommand_8 : decode (ch_bc m_d_takeCommand) 8 = .ok (.invokevirtual 32, 3) := by decide +kernel
theorem d_d_takeCommand_11 : decode (ch_bc m_d_takeCommand) 11 = .ok (.ifCond .ne 5, 3) := by decide +kernel
theorem d_d_takeCommand_14 : decode (ch_bc m_d_takeCommand) 14 = .ok (.iconst 0, 1) := by decide +kernel
theorem d_d_takeCommand_15 : decode (ch_bc m_d_takeCommand) 15 = .ok (.ireturn, 1) := by decide +kernel
theorem d_d_takeCommand_16 : decode (ch_bc m_d_takeCommand) 16 = .ok (.aload_n 0, 1) := by decide +kernel
theorem d_d_takeCommand_17 : decode (ch_bc m_d_takeCommand) 17 = .ok (.dup, 1) := by decide +kernel
theorem d_d_takeCommand_18 : decode (ch_bc m_d_takeCommand) 18 = .ok (.getfield 9, 3) := by decide +kernel
theorem d_d_takeCommand_21 : decode (ch_bc m_d_takeCommand) 21 = .ok (.iconst 1, 1) := by decide +kernel
theorem d_d_takeCommand_22 : decode (ch_bc m_d_takeCommand) 22 = .ok (.iadd, 1) := by decide +kernel
theorem d_d_takeCommand_23 : decode (ch_bc m_d_takeCommand) 23 = .ok (.putfield 9, 3) := by decide +kernel
theorem d_d_takeCommand_26 : decode (ch_bc m_d_takeCommand) 26 = .ok (.aload_n 2, 1) := by decide +kernel
theorem d_d_takeCommand_27 : decode (ch_bc m_d_takeCommand) 27 = .ok (.iload_n 3, 1) := by decide +kernel
theorem d_d_takeCommand_28 : decode (ch_bc m_d_takeCommand) 28 = .ok (.iconst 0, 1) := by decide +kernel
theorem d_d_takeCommand_29 : decode (ch_bc m_d_takeCommand) 29 = .ok (.iconst 0, 1) := by decide +kernel
theorem d_d_takeCommand_30 : decode (ch_bc m_d_takeCommand) 30 = .ok (.iconst 0, 1) := by decide +kernel
theorem d_d_takeCommand_31 : decode (ch_bc m_d_takeCommand) 31 = .ok (.invokevirtual 36, 3) := by decide +kernel
theorem d_d_takeCommand_34 : decode (ch_bc m_d_takeCommand) 34 = .ok (.iload_n 3, 1) := by decide +kernel
theorem d_d_takeCommand_35 : decode (ch_bc m_d_takeCommand) 35 = .ok (.tableswitch 225 99 116 #[92, 225, 225, 225, 172, 126, 225, 225, 225, 225, 225, 85, 225, 225, 225, 163, 225, 170], 85) := by decide +kernel
theorem d_d_takeCommand_120 : decode (ch_bc m_d_takeCommand) 120 = .ok (.aload_n 0, 1) := by decide +kernel
theorem d_d_takeCommand_121 : decode (ch_bc m_d_takeCommand) 121 = .ok (.aload_n 1, 1) := by decide +kernel
theorem d_d_takeCommand_122 : decode (ch_bc m_d_takeCommand) 122 = .ok (.aload_n 2, 1) := by decide +kernel
theorem d_d_takeCommand_123 : decode (ch_bc m_d_takeCommand) 123 = .ok (.invokevirtual 42, 3) := by decide +kernel
theorem d_d_takeCommand_126 : decode (ch_bc m_d_takeCommand) 126 = .ok (.ireturn, 1) := by decide +kernel
theorem d_d_takeCommand_127 : decode (ch_bc m_d_takeCommand) 127 = .ok (.aload_n 0, 1) := by decide +kernel
theorem d_d_takeCommand_128 : decode (ch_bc m_d_takeCommand) 128 = .ok (.aload_n 1, 1) := by decide +kernel
theorem d_d_takeCommand_129 : decode (ch_bc m_d_takeCommand) 129 = .ok (.aload_n 2, 1) := by decide +kernel
theorem d_d_takeCommand_130 : decode (ch_bc m_d_takeCommand) 130 = .ok (.invokevirtual 45, 3) := by decide +kernel
theorem d_d_takeCommand_133 : decode (ch_bc m_d_takeCommand) 133 = .ok (.ifCond .eq 26, 3) := by decide +kernel
theorem d_d_takeCommand_136 : decode (ch_bc m_d_takeCommand) 136 = .ok (.aload_n 0, 1) := by decide +kernel
theorem d_d_takeCommand_137 : decode (ch_bc m_d_takeCommand) 137 = .ok (.aload_n 1, 1) := by decide +kernel
theorem d_d_takeCommand_138 : decode (ch_bc m_d_takeCommand) 138 = .ok (.bipush 64, 2) := by decide +kernel
theorem d_d_takeCommand_140 : decode (ch_bc m_d_takeCommand) 140 = .ok (.invokevirtual 24, 3) := by decide +kernel
theorem d_d_takeCommand_143 : decode (ch_bc m_d_takeCommand) 143 = .ok (.ifCond .eq 16, 3) := by decide +kernel
theorem d_d_takeCommand_146 : decode (ch_bc m_d_takeCommand) 146 = .ok (.aload_n 0, 1) := by decide +kernel
theorem d_d_takeCommand_147 : decode (ch_bc m_d_takeCommand) 147 = .ok (.aload_n 1, 1) := by decide +kernel
theorem d_d_takeCommand_148 : decode (ch_bc m_d_takeCommand) 148 = .ok (.aload_n 2, 1) := by decide +kernel
theorem d_d_takeCommand_149 : decode (ch_bc m_d_takeCommand) 149 = .ok (.invokevirtual 42, 3) := by decide +kernel
theorem d_d_takeCommand_152 : decode (ch_bc m_d_takeCommand) 152 = .ok (.ifCond .eq 7, 3) := by decide +kernel
theorem d_d_takeCommand_155 : decode (ch_bc m_d_takeCommand) 155 = .ok (.iconst 1, 1) := by decide +kernel
theorem d_d_takeCommand_156 : decode (ch_bc m_d_takeCommand) 156 = .ok (.goto 4, 3) := by decide +kernel
theorem d_d_takeCommand_159 : decode (ch_bc m_d_takeCommand) 159 = .ok (.iconst 0, 1) := by decide +kernel
theorem d_d_takeCommand_160 : decode (ch_bc m_d_takeCommand) 160 = .ok (.ireturn, 1) := by decide +kernel
theorem d_d_takeCommand_161 : decode (ch_bc m_d_takeCommand) 161 = .ok (.aload_n 0, 1) := by decide +kernel
theorem d_d_takeCommand_162 : decode (ch_bc m_d_takeCommand) 162 = .ok (.aload_n 1, 1) := by decide +kernel
theorem d_d_takeCommand_163 : decode (ch_bc m_d_takeCommand) 163 = .ok (.aload_n 2, 1) := by decide +kernel
theorem d_d_takeCommand_164 : decode (ch_bc m_d_takeCommand) 164 = .ok (.invokevirtual 45, 3) := by decide +kernel
theorem d_d_takeCommand_167 : decode (ch_bc m_d_takeCommand) 167 = .ok (.ifCond .eq 29, 3) := by decide +kernel
theorem d_d_takeCommand_170 : decode (ch_bc m_d_takeCommand) 170 = .ok (.aload_n 0, 1) := by decide +kernel
theorem d_d_takeCommand_171 : decode (ch_bc m_d_takeCommand) 171 = .ok (.aload_n 1, 1) := by decide +kernel
theorem d_d_takeCommand_172 : decode (ch_bc m_d_takeCommand) 172 = .ok (.bipush 58, 2) := by decide +kernel
theorem d_d_takeCommand_174 : decode (ch_bc m_d_takeCommand) 174 = .ok (.invokevirtual 24, 3) := by decide +kernel
theorem d_d_takeCommand_177 : decode (ch_bc m_d_takeCommand) 177 = .ok (.ifCond .eq 19, 3) := by decide +kernel
theorem d_d_takeCommand_180 : decode (ch_bc m_d_takeCommand) 180 = .ok (.aload_n 0, 1) := by decide +kernel
theorem d_d_takeCommand_181 : decode (ch_bc m_d_takeCommand) 181 = .ok (.aload_n 1, 1) := by decide +kernel
theorem d_d_takeCommand_182 : decode (ch_bc m_d_takeCommand) 182 = .ok (.aload_n 2, 1) := by decide +kernel
theorem d_d_takeCommand_183 : decode (ch_bc m_d_takeCommand) 183 = .ok (.getfield 48, 3) := by decide +kernel
theorem d_d_takeCommand_186 : decode (ch_bc m_d_takeCommand) 186 = .ok (.invokevirtual 52, 3) := by decide +kernel
theorem d_d_takeCommand_189 : decode (ch_bc m_d_takeCommand) 189 = .ok (.ifCond .eq 7, 3) := by decide +kernel
theorem d_d_takeCommand_192 : decode (ch_bc m_d_takeCommand) 192 = .ok (.iconst 1, 1) := by decide +kernel
theorem d_d_takeCommand_193 : decode (ch_bc m_d_takeCommand) 193 = .ok (.goto 4, 3) := by decide +kernel
theorem d_d_takeCommand_196 : decode (ch_bc m_d_takeCommand) 196 = .ok (.iconst 0, 1) := by decide +kernel
theorem d_d_takeCommand_197 : decode (ch_bc m_d_takeCommand) 197 = .ok (.ireturn, 1) := by decide +kernel
theorem d_d_takeCommand_198 : decode (ch_bc m_d_takeCommand) 198 = .ok (.aload_n 0, 1) := by decide +kernel
theorem d_d_takeCommand_199 : decode (ch_bc m_d_takeCommand) 199 = .ok (.aload_n 1, 1) := by decide +kernel
theorem d_d_takeCommand_200 : decode (ch_bc m_d_takeCommand) 200 = .ok (.aload_n 2, 1) := by decide +kernel
theorem d_d_takeCommand_201 : decode (ch_bc m_d_takeCommand) 201 = .ok (.invokevirtual 56, 3) := by decide +kernel
theorem d_d_takeCommand_204 : decode (ch_bc m_d_takeCommand) 204 = .ok (.ireturn, 1) := by decide +kernel
theorem d_d_takeCommand_205 : decode (ch_bc m_d_takeCommand) 205 = .ok (.iconst 1, 1) := by decide +kernel
theorem d_d_takeCommand_206 : decode (ch_bc m_d_takeCommand) 206 = .ok (.ireturn, 1) := by decide +kernel
theorem d_d_takeCommand_207 : decode (ch_bc m_d_takeCommand) 207 = .ok (.aload_n 0, 1) := by decide +kernel
theorem d_d_takeCommand_208 : decode (ch_bc m_d_takeCommand) 208 = .ok (.aload_n 1, 1) := by decide +kernel
theorem d_d_takeCommand_209 : decode (ch_bc m_d_takeCommand) 209 = .ok (.aload_n 2, 1) := by decide +kernel
theorem d_d_takeCommand_210 : decode (ch_bc m_d_takeCommand) 210 = .ok (.invokevirtual 45, 3) := by decide +kernel
theorem d_d_takeCommand_213 : decode (ch_bc m_d_takeCommand) 213 = .ok (.ifCond .eq 45, 3) := by decide +kernel
theorem d_d_takeCommand_216 : decode (ch_bc m_d_takeCommand) 216 = .ok (.aload_n 0, 1) := by decide +kernel
theorem d_d_takeCommand_217 : decode (ch_bc m_d_takeCommand) 217 = .ok (.aload_n 1, 1) := by decide +kernel
theorem d_d_takeCommand_218 : decode (ch_bc m_d_takeCommand) 218 = .ok (.bipush 62, 2) := by decide +kernel
theorem d_d_takeCommand_220 : decode (ch_bc m_d_takeCommand) 220 = .ok (.invokevirtual 24, 3) := by decide +kernel
theorem d_d_takeCommand_223 : decode (ch_bc m_d_takeCommand) 223 = .ok (.ifCond .eq 35, 3) := by decide +kernel
theorem d_d_takeCommand_226 : decode (ch_bc m_d_takeCommand) 226 = .ok (.aload_n 0, 1) := by decide +kernel
theorem d_d_takeCommand_227 : decode (ch_bc m_d_takeCommand) 227 = .ok (.aload_n 1, 1) := by decide +kernel
theorem d_d_takeCommand_228 : decode (ch_bc m_d_takeCommand) 228 = .ok (.aload_n 2, 1) := by decide +kernel
theorem d_d_takeCommand_229 : decode (ch_bc m_d_takeCommand) 229 = .ok (.invokevirtual 59, 3) := by decide +kernel
theorem d_d_takeCommand_232 : decode (ch_bc m_d_takeCommand) 232 = .ok (.ifCond .eq 26, 3) := by decide +kernel
theorem d_d_takeCommand_235 : decode (ch_bc m_d_takeCommand) 235 = .ok (.aload_n 0, 1) := by decide +kernel
theorem d_d_takeCommand_236 : decode (ch_bc m_d_takeCommand) 236 = .ok (.aload_n 1, 1) := by decide +kernel
theorem d_d_takeCommand_237 : decode (ch_bc m_d_takeCommand) 237 = .ok (.bipush 42, 2) := by decide +kernel
theorem d_d_takeCommand_239 : decode (ch_bc m_d_takeCommand) 239 = .ok (.invokevirtual 24, 3) := by decide +kernel
theorem d_d_takeCommand_242 : decode (ch_bc m_d_takeCommand) 242 = .ok (.ifCond .eq 16, 3) := by decide +kernel
theorem d_d_takeCommand_245 : decode (ch_bc m_d_takeCommand) 245 = .ok (.aload_n 0, 1) := by decide +kernel
theorem d_d_takeCommand_246 : decode (ch_bc m_d_takeCommand) 246 = .ok (.aload_n 1, 1) := by decide +kernel
theorem d_d_takeCommand_247 : decode (ch_bc m_d_takeCommand) 247 = .ok (.aload_n 2, 1) := by decide +kernel
theorem d_d_takeCommand_248 : decode (ch_bc m_d_takeCommand) 248 = .ok (.invokevirtual 42, 3) := by decide +kernel
theorem d_d_takeCommand_251 : decode (ch_bc m_d_takeCommand) 251 = .ok (.ifCond .eq 7, 3) := by decide +kernel
theorem d_d_takeCommand_254 : decode (ch_bc m_d_takeCommand) 254 = .ok (.iconst 1, 1) := by decide +kernel
theorem d_d_takeCommand_255 : decode (ch_bc m_d_takeCommand) 255 = .ok (.goto 4, 3) := by decide +kernel
theorem d_d_takeCommand_258 : decode (ch_bc m_d_takeCommand) 258 = .ok (.iconst 0, 1) := by decide +kernel
theorem d_d_takeCommand_259 : decode (ch_bc m_d_takeCommand) 259 = .ok (.ireturn, 1) := by decide +kernel
theorem d_d_takeCommand_260 : decode (ch_bc m_d_takeCommand) 260 = .ok (.aload_n 0, 1) := by decide +kernel
theorem d_d_takeCommand_261 : decode (ch_bc m_d_takeCommand) 261 = .ok (.aload_n 1, 1) := by decide +kernel
theorem d_d_takeCommand_262 : decode (ch_bc m_d_takeCommand) 262 = .ok (.aload_n 2, 1) := by decide +kernel
theorem d_d_takeCommand_263 : decode (ch_bc m_d_takeCommand) 263 = .ok (.invokevirtual 45, 3) := by decide +kernel
theorem d_d_takeCommand_266 : decode (ch_bc m_d_takeCommand) 266 = .ok (.ireturn, 1) := by decide +kernel
theorem d_d_takeSign_0 : decode (ch_bc m_d_takeSign) 0 = .ok (.aload_n 0, 1) := by decide +kernel
theorem d_d_takeSign_1 : decode (ch_bc m_d_takeSign) 1 = .ok (.aload_n 1, 1) := by decide +kernel
theorem d_d_takeSign_2 : decode (ch_bc m_d_takeSign) 2 = .ok (.invokevirtual 28, 3) := by decide +kernel
theorem d_d_takeSign_5 : decode (ch_bc m_d_takeSign) 5 = .ok (.iload_n 2, 1) := by decide +kernel
theorem d_d_takeSign_6 : decode (ch_bc m_d_takeSign) 6 = .ok (.if_icmp .eq 5, 3) := by decide +kernel
theorem d_d_takeSign_9 : decode (ch_bc m_d_takeSign) 9 = .ok (.iconst 0, 1) := by decide +kernel
theorem d_d_takeSign_10 : decode (ch_bc m_d_takeSign) 10 = .ok (.ireturn, 1) := by decide +kernel
theorem d_d_takeSign_11 : decode (ch_bc m_d_takeSign) 11 = .ok (.aload_n 0, 1) := by decide +kernel
theorem d_d_takeSign_12 : decode (ch_bc m_d_takeSign) 12 = .ok (.dup, 1) := by decide +kernel
theorem d_d_takeSign_13 : decode (ch_bc m_d_takeSign) 13 = .ok (.getfield 9, 3) := by decide +kernel
theorem d_d_takeSign_16 : decode (ch_bc m_d_takeSign) 16 = .ok (.iconst 1, 1) := by decide +kernel
theorem d_d_takeSign_17 : decode (ch_bc m_d_takeSign) 17 = .ok (.iadd, 1) := by decide +kernel
theorem d_d_takeSign_18 : decode (ch_bc m_d_takeSign) 18 = .ok (.putfield 9, 3) := by decide +kernel
theorem d_d_takeSign_21 : decode (ch_bc m_d_takeSign) 21 = .ok (.iconst 1, 1) := by decide +kernel
theorem d_d_takeSign_22 : decode (ch_bc m_d_takeSign) 22 = .ok (.ireturn, 1) := by decide +kernel
theorem d_d_isKind_0 : decode (ch_bc m_d_isKind) 0 = .ok (.iload_n 1, 1) := by decide +kernel
theorem d_d_isKind_1 : decode (ch_bc m_d_isKind) 1 = .ok (.tableswitch 101 99 119 #[99, 101, 101, 101, 99, 99, 101, 101, 101, 101, 101, 99, 101, 101, 101, 99, 99, 99, 101, 101, 99], 99) := by decide +kernel
theorem d_d_isKind_100 : decode (ch_bc m_d_isKind) 100 = .ok (.iconst 1, 1) := by decide +kernel
theorem d_d_isKind_101 : decode (ch_bc m_d_isKind) 101 = .ok (.ireturn, 1) := by decide +kernel
theorem d_d_isKind_102 : decode (ch_bc m_d_isKind) 102 = .ok (.iconst 0, 1) := by decide +kernel
theorem d_d_isKind_103 : decode (ch_bc m_d_isKind) 103 = .ok (.ireturn, 1) := by decide +kernel
theorem d_d_takeChild_0 : decode (ch_bc m_d_takeChild) 0 = .ok (.aload_n 2, 1) := by decide +kernel
theorem d_d_takeChild_1 : decode (ch_bc m_d_takeChild) 1 = .ok (.aload_n 0, 1) := by decide +kernel
theorem d_d_takeChild_2 : decode (ch_bc m_d_takeChild) 2 = .ok (.aload_n 1, 1) := by decide +kernel
theorem d_d_takeChild_3 : decode (ch_bc m_d_takeChild) 3 = .ok (.invokevirtual 62, 3) := by decide +kernel
theorem d_d_takeChild_6 : decode (ch_bc m_d_takeChild) 6 = .ok (.putfield 65, 3) := by decide +kernel
theorem d_d_takeChild_9 : decode (ch_bc m_d_takeChild) 9 = .ok (.aload_n 0, 1) := by decide +kernel
theorem d_d_takeChild_10 : decode (ch_bc m_d_takeChild) 10 = .ok (.aload_n 1, 1) := by decide +kernel
theorem d_d_takeChild_11 : decode (ch_bc m_d_takeChild) 11 = .ok (.invokevirtual 68, 3) := by decide +kernel
theorem d_d_takeChild_14 : decode (ch_bc m_d_takeChild) 14 = .ok (.ireturn, 1) := by decide +kernel
theorem d_d_takeOther_0 : decode (ch_bc m_d_takeOther) 0 = .ok (.aload_n 2, 1) := by decide +kernel
theorem d_d_takeOther_1 : decode (ch_bc m_d_takeOther) 1 = .ok (.aload_n 0, 1) := by decide +kernel
theorem d_d_takeOther_2 : decode (ch_bc m_d_takeOther) 2 = .ok (.aload_n 1, 1) := by decide +kernel
theorem d_d_takeOther_3 : decode (ch_bc m_d_takeOther) 3 = .ok (.invokevirtual 62, 3) := by decide +kernel
theorem d_d_takeOther_6 : decode (ch_bc m_d_takeOther) 6 = .ok (.putfield 72, 3) := by decide +kernel
theorem d_d_takeOther_9 : decode (ch_bc m_d_takeOther) 9 = .ok (.aload_n 0, 1) := by decide +kernel
theorem d_d_takeOther_10 : decode (ch_bc m_d_takeOther) 10 = .ok (.aload_n 1, 1) := by decide +kernel
theorem d_d_takeOther_11 : decode (ch_bc m_d_takeOther) 11 = .ok (.invokevirtual 68, 3) := by decide +kernel
theorem d_d_takeOther_14 : decode (ch_bc m_d_takeOther) 14 = .ok (.ireturn, 1) := by decide +kernel
theorem d_d_takeDigit_0 : decode (ch_bc m_d_takeDigit) 0 = .ok (.aload_n 2, 1) := by decide +kernel
theorem d_d_takeDigit_1 : decode (ch_bc m_d_takeDigit) 1 = .ok (.aload_n 0, 1) := by decide +kernel
theorem d_d_takeDigit_2 : decode (ch_bc m_d_takeDigit) 2 = .ok (.aload_n 1, 1) := by decide +kernel
theorem d_d_takeDigit_3 : decode (ch_bc m_d_takeDigit) 3 = .ok (.invokevirtual 62, 3) := by decide +kernel
theorem d_d_takeDigit_6 : decode (ch_bc m_d_takeDigit) 6 = .ok (.putfield 75, 3) := by decide +kernel
theorem d_d_takeDigit_9 : decode (ch_bc m_d_takeDigit) 9 = .ok (.aload_n 0, 1) := by decide +kernel
theorem d_d_takeDigit_10 : decode (ch_bc m_d_takeDigit) 10 = .ok (.aload_n 1, 1) := by decide +kernel
theorem d_d_takeDigit_11 : decode (ch_bc m_d_takeDigit) 11 = .ok (.invokevirtual 68, 3) := by decide +kernel
theorem d_d_takeDigit_14 : decode (ch_bc m_d_takeDigit) 14 = .ok (.ireturn, 1) := by decide +kernel
theorem d_d_takeNumber_0 : decode (ch_bc m_d_takeNumber) 0 = .ok (.aload_n 0, 1) := by decide +kernel
theorem d_d_takeNumber_1 : decode (ch_bc m_d_takeNumber) 1 = .ok (.aload_n 1, 1) := by decide +kernel
theorem d_d_takeNumber_2 : decode (ch_bc m_d_takeNumber) 2 = .ok (.aload_n 2, 1) := by decide +kernel
theorem d_d_takeNumber_3 : decode (ch_bc m_d_takeNumber) 3 = .ok (.invokevirtual 56, 3) := by decide +kernel
theorem d_d_takeNumber_6 : decode (ch_bc m_d_takeNumber) 6 = .ok (.ifCond .ne 5, 3) := by decide +kernel
theorem d_d_takeNumber_9 : decode (ch_bc m_d_takeNumber) 9 = .ok (.iconst 0, 1) := by decide +kernel
theorem d_d_takeNumber_10 : decode (ch_bc m_d_takeNumber) 10 = .ok (.ireturn, 1) := by decide +kernel
theorem d_d_takeNumber_11 : decode (ch_bc m_d_takeNumber) 11 = .ok (.aload_n 0, 1) := by decide +kernel
theorem d_d_takeNumber_12 : decode (ch_bc m_d_takeNumber) 12 = .ok (.aload_n 1, 1) := by decide +kernel
theorem d_d_takeNumber_13 : decode (ch_bc m_d_takeNumber) 13 = .ok (.invokevirtual 62, 3) := by decide +kernel
theorem d_d_takeNumber_16 : decode (ch_bc m_d_takeNumber) 16 = .ok (.istore_n 3, 1) := by decide +kernel
theorem d_d_takeNumber_17 : decode (ch_bc m_d_takeNumber) 17 = .ok (.aload_n 0, 1) := by decide +kernel
theorem d_d_takeNumber_18 : decode (ch_bc m_d_takeNumber) 18 = .ok (.aload_n 1, 1) := by decide +kernel
theorem d_d_takeNumber_19 : decode (ch_bc m_d_takeNumber) 19 = .ok (.invokevirtual 68, 3) := by decide +kernel
theorem d_d_takeNumber_22 : decode (ch_bc m_d_takeNumber) 22 = .ok (.ifCond .eq 16, 3) := by decide +kernel
theorem d_d_takeNumber_25 : decode (ch_bc m_d_takeNumber) 25 = .ok (.aload_n 2, 1) := by decide +kernel
theorem d_d_takeNumber_26 : decode (ch_bc m_d_takeNumber) 26 = .ok (.aload_n 2, 1) := by decide +kernel
theorem d_d_takeNumber_27 : decode (ch_bc m_d_takeNumber) 27 = .ok (.getfield 75, 3) := by decide +kernel
theorem d_d_takeNumber_30 : decode (ch_bc m_d_takeNumber) 30 = .ok (.bipush 10, 2) := by decide +kernel
theorem d_d_takeNumber_32 : decode (ch_bc m_d_takeNumber) 32 = .ok (.imul, 1) := by decide +kernel
theorem d_d_takeNumber_33 : decode (ch_bc m_d_takeNumber) 33 = .ok (.iload_n 3, 1) := by decide +kernel
theorem d_d_takeNumber_34 : decode (ch_bc m_d_takeNumber) 34 = .ok (.iadd, 1) := by decide +kernel
theorem d_d_takeNumber_35 : decode (ch_bc m_d_takeNumber) 35 = .ok (.putfield 75, 3) := by decide +kernel
theorem d_d_takeNumber_38 : decode (ch_bc m_d_takeNumber) 38 = .ok (.iconst 1, 1) := by decide +kernel
theorem d_d_takeNumber_39 : decode (ch_bc m_d_takeNumber) 39 = .ok (.ireturn, 1) := by decide +kernel
theorem d_d_takeSteps_0 : decode (ch_bc m_d_takeSteps) 0 = .ok (.aload_n 2, 1) := by decide +kernel
theorem d_d_takeSteps_1 : decode (ch_bc m_d_takeSteps) 1 = .ok (.iconst 0, 1) := by decide +kernel
theorem d_d_takeSteps_2 : decode (ch_bc m_d_takeSteps) 2 = .ok (.putfield 78, 3) := by decide +kernel
theorem d_d_takeSteps_5 : decode (ch_bc m_d_takeSteps) 5 = .ok (.iconst 0, 1) := by decide +kernel
theorem d_d_takeSteps_6 : decode (ch_bc m_d_takeSteps) 6 = .ok (.istore_n 3, 1) := by decide +kernel
theorem d_d_takeSteps_7 : decode (ch_bc m_d_takeSteps) 7 = .ok (.iload_n 3, 1) := by decide +kernel
theorem d_d_takeSteps_8 : decode (ch_bc m_d_takeSteps) 8 = .ok (.bipush 12, 2) := by decide +kernel
theorem d_d_takeSteps_10 : decode (ch_bc m_d_takeSteps) 10 = .ok (.if_icmp .ge 47, 3) := by decide +kernel
theorem d_d_takeSteps_13 : decode (ch_bc m_d_takeSteps) 13 = .ok (.aload_n 0, 1) := by decide +kernel
theorem d_d_takeSteps_14 : decode (ch_bc m_d_takeSteps) 14 = .ok (.aload_n 1, 1) := by decide +kernel
theorem d_d_takeSteps_15 : decode (ch_bc m_d_takeSteps) 15 = .ok (.invokevirtual 62, 3) := by decide +kernel
theorem d_d_takeSteps_18 : decode (ch_bc m_d_takeSteps) 18 = .ok (.istore 4, 2) := by decide +kernel
theorem d_d_takeSteps_20 : decode (ch_bc m_d_takeSteps) 20 = .ok (.iload 4, 2) := by decide +kernel
theorem d_d_takeSteps_22 : decode (ch_bc m_d_takeSteps) 22 = .ok (.iconst 1, 1) := by decide +kernel
theorem d_d_takeSteps_23 : decode (ch_bc m_d_takeSteps) 23 = .ok (.if_icmp .lt 34, 3) := by decide +kernel
theorem d_d_takeSteps_26 : decode (ch_bc m_d_takeSteps) 26 = .ok (.iload 4, 2) := by decide +kernel
theorem d_d_takeSteps_28 : decode (ch_bc m_d_takeSteps) 28 = .ok (.iconst 3, 1) := by decide +kernel
theorem d_d_takeSteps_29 : decode (ch_bc m_d_takeSteps) 29 = .ok (.if_icmp .le 6, 3) := by decide +kernel
theorem d_d_takeSteps_32 : decode (ch_bc m_d_takeSteps) 32 = .ok (.goto 25, 3) := by decide +kernel
theorem d_d_takeSteps_35 : decode (ch_bc m_d_takeSteps) 35 = .ok (.aload_n 2, 1) := by decide +kernel
theorem d_d_takeSteps_36 : decode (ch_bc m_d_takeSteps) 36 = .ok (.iload 4, 2) := by decide +kernel
theorem d_d_takeSteps_38 : decode (ch_bc m_d_takeSteps) 38 = .ok (.invokevirtual 83, 3) := by decide +kernel
theorem d_d_takeSteps_41 : decode (ch_bc m_d_takeSteps) 41 = .ok (.aload_n 0, 1) := by decide +kernel
theorem d_d_takeSteps_42 : decode (ch_bc m_d_takeSteps) 42 = .ok (.dup, 1) := by decide +kernel
theorem d_d_takeSteps_43 : decode (ch_bc m_d_takeSteps) 43 = .ok (.getfield 9, 3) := by decide +kernel
theorem d_d_takeSteps_46 : decode (ch_bc m_d_takeSteps) 46 = .ok (.iconst 1, 1) := by decide +kernel
theorem d_d_takeSteps_47 : decode (ch_bc m_d_takeSteps) 47 = .ok (.iadd, 1) := by decide +kernel
theorem d_d_takeSteps_48 : decode (ch_bc m_d_takeSteps) 48 = .ok (.putfield 9, 3) := by decide +kernel
theorem d_d_takeSteps_51 : decode (ch_bc m_d_takeSteps) 51 = .ok (.iinc 3 1, 3) := by decide +kernel
theorem d_d_takeSteps_54 : decode (ch_bc m_d_takeSteps) 54 = .ok (.goto (-47), 3) := by decide +kernel
theorem d_d_takeSteps_57 : decode (ch_bc m_d_takeSteps) 57 = .ok (.aload_n 2, 1) := by decide +kernel
theorem d_d_takeSteps_58 : decode (ch_bc m_d_takeSteps) 58 = .ok (.getfield 78, 3) := by decide +kernel
theorem d_d_takeSteps_61 : decode (ch_bc m_d_takeSteps) 61 = .ok (.ifCond .le 7, 3) := by decide +kernel
theorem d_d_takeSteps_64 : decode (ch_bc m_d_takeSteps) 64 = .ok (.iconst 1, 1) := by decide +kernel
theorem d_d_takeSteps_65 : decode (ch_bc m_d_takeSteps) 65 = .ok (.goto 4, 3) := by decide +kernel
theorem d_d_takeSteps_68 : decode (ch_bc m_d_takeSteps) 68 = .ok (.iconst 0, 1) := by decide +kernel
theorem d_d_takeSteps_69 : decode (ch_bc m_d_takeSteps) 69 = .ok (.ireturn, 1) := by decide +kernel
theorem d_d_passDigit_0 : decode (ch_bc m_d_passDigit) 0 = .ok (.aload_n 0, 1) := by decide +kernel
theorem d_d_passDigit_1 : decode (ch_bc m_d_passDigit) 1 = .ok (.aload_n 1, 1) := by decide +kernel
theorem d_d_passDigit_2 : decode (ch_bc m_d_passDigit) 2 = .ok (.invokevirtual 62, 3) := by decide +kernel
theorem d_d_passDigit_5 : decode (ch_bc m_d_passDigit) 5 = .ok (.ifCond .ge 5, 3) := by decide +kernel
theorem d_d_passDigit_8 : decode (ch_bc m_d_passDigit) 8 = .ok (.iconst 0, 1) := by decide +kernel
theorem d_d_passDigit_9 : decode (ch_bc m_d_passDigit) 9 = .ok (.ireturn, 1) := by decide +kernel
theorem d_d_passDigit_10 : decode (ch_bc m_d_passDigit) 10 = .ok (.aload_n 0, 1) := by decide +kernel
theorem d_d_passDigit_11 : decode (ch_bc m_d_passDigit) 11 = .ok (.dup, 1) := by decide +kernel
theorem d_d_passDigit_12 : decode (ch_bc m_d_passDigit) 12 = .ok (.getfield 9, 3) := by decide +kernel
theorem d_d_passDigit_15 : decode (ch_bc m_d_passDigit) 15 = .ok (.iconst 1, 1) := by decide +kernel
theorem d_d_passDigit_16 : decode (ch_bc m_d_passDigit) 16 = .ok (.iadd, 1) := by decide +kernel
theorem d_d_passDigit_17 : decode (ch_bc m_d_passDigit) 17 = .ok (.putfield 9, 3) := by decide +kernel
theorem d_d_passDigit_20 : decode (ch_bc m_d_passDigit) 20 = .ok (.iconst 1, 1) := by decide +kernel
theorem d_d_passDigit_21 : decode (ch_bc m_d_passDigit) 21 = .ok (.ireturn, 1) := by decide +kernel
theorem d_d_digitAt_0 : decode (ch_bc m_d_digitAt) 0 = .ok (.aload_n 0, 1) := by decide +kernel
theorem d_d_digitAt_1 : decode (ch_bc m_d_digitAt) 1 = .ok (.aload_n 1, 1) := by decide +kernel
theorem d_d_digitAt_2 : decode (ch_bc m_d_digitAt) 2 = .ok (.invokevirtual 28, 3) := by decide +kernel
theorem d_d_digitAt_5 : decode (ch_bc m_d_digitAt) 5 = .ok (.istore_n 2, 1) := by decide +kernel
theorem d_d_digitAt_6 : decode (ch_bc m_d_digitAt) 6 = .ok (.iload_n 2, 1) := by decide +kernel
theorem d_d_digitAt_7 : decode (ch_bc m_d_digitAt) 7 = .ok (.bipush 48, 2) := by decide +kernel
theorem d_d_digitAt_9 : decode (ch_bc m_d_digitAt) 9 = .ok (.if_icmp .lt 16, 3) := by decide +kernel
theorem d_d_digitAt_12 : decode (ch_bc m_d_digitAt) 12 = .ok (.iload_n 2, 1) := by decide +kernel
theorem d_d_digitAt_13 : decode (ch_bc m_d_digitAt) 13 = .ok (.bipush 57, 2) := by decide +kernel
theorem d_d_digitAt_15 : decode (ch_bc m_d_digitAt) 15 = .ok (.if_icmp .gt 10, 3) := by decide +kernel
theorem d_d_digitAt_18 : decode (ch_bc m_d_digitAt) 18 = .ok (.iload_n 2, 1) := by decide +kernel
theorem d_d_digitAt_19 : decode (ch_bc m_d_digitAt) 19 = .ok (.bipush 48, 2) := by decide +kernel
theorem d_d_digitAt_21 : decode (ch_bc m_d_digitAt) 21 = .ok (.isub, 1) := by decide +kernel
theorem d_d_digitAt_22 : decode (ch_bc m_d_digitAt) 22 = .ok (.goto 4, 3) := by decide +kernel
theorem d_d_digitAt_25 : decode (ch_bc m_d_digitAt) 25 = .ok (.iconst (-1), 1) := by decide +kernel
theorem d_d_digitAt_26 : decode (ch_bc m_d_digitAt) 26 = .ok (.ireturn, 1) := by decide +kernel
theorem d_d_signAt_0 : decode (ch_bc m_d_signAt) 0 = .ok (.aload_n 0, 1) := by decide +kernel
theorem d_d_signAt_1 : decode (ch_bc m_d_signAt) 1 = .ok (.getfield 9, 3) := by decide +kernel
theorem d_d_signAt_4 : decode (ch_bc m_d_signAt) 4 = .ok (.ifCond .lt 38, 3) := by decide +kernel
theorem d_d_signAt_7 : decode (ch_bc m_d_signAt) 7 = .ok (.aload_n 0, 1) := by decide +kernel
theorem d_d_signAt_8 : decode (ch_bc m_d_signAt) 8 = .ok (.getfield 9, 3) := by decide +kernel
theorem d_d_signAt_11 : decode (ch_bc m_d_signAt) 11 = .ok (.aload_n 1, 1) := by decide +kernel
theorem d_d_signAt_12 : decode (ch_bc m_d_signAt) 12 = .ok (.getfield 19, 3) := by decide +kernel
theorem d_d_signAt_15 : decode (ch_bc m_d_signAt) 15 = .ok (.if_icmp .ge 27, 3) := by decide +kernel
theorem d_d_signAt_18 : decode (ch_bc m_d_signAt) 18 = .ok (.aload_n 0, 1) := by decide +kernel
theorem d_d_signAt_19 : decode (ch_bc m_d_signAt) 19 = .ok (.getfield 9, 3) := by decide +kernel
theorem d_d_signAt_22 : decode (ch_bc m_d_signAt) 22 = .ok (.aload_n 1, 1) := by decide +kernel
theorem d_d_signAt_23 : decode (ch_bc m_d_signAt) 23 = .ok (.getfield 87, 3) := by decide +kernel
theorem d_d_signAt_26 : decode (ch_bc m_d_signAt) 26 = .ok (.arraylength, 1) := by decide +kernel
theorem d_d_signAt_27 : decode (ch_bc m_d_signAt) 27 = .ok (.if_icmp .ge 15, 3) := by decide +kernel
theorem d_d_signAt_30 : decode (ch_bc m_d_signAt) 30 = .ok (.aload_n 1, 1) := by decide +kernel
theorem d_d_signAt_31 : decode (ch_bc m_d_signAt) 31 = .ok (.getfield 87, 3) := by decide +kernel
theorem d_d_signAt_34 : decode (ch_bc m_d_signAt) 34 = .ok (.aload_n 0, 1) := by decide +kernel
theorem d_d_signAt_35 : decode (ch_bc m_d_signAt) 35 = .ok (.getfield 9, 3) := by decide +kernel
theorem d_d_signAt_38 : decode (ch_bc m_d_signAt) 38 = .ok (.caload, 1) := by decide +kernel
theorem d_d_signAt_39 : decode (ch_bc m_d_signAt) 39 = .ok (.goto 4, 3) := by decide +kernel
theorem d_d_signAt_42 : decode (ch_bc m_d_signAt) 42 = .ok (.iconst (-1), 1) := by decide +kernel
theorem d_d_signAt_43 : decode (ch_bc m_d_signAt) 43 = .ok (.ireturn, 1) := by decide +kernel
theorem d_r_refuse_0 : decode (ch_bc m_r_refuse) 0 = .ok (.aload_n 2, 1) := by decide +kernel
theorem d_r_refuse_1 : decode (ch_bc m_r_refuse) 1 = .ok (.getfield 9, 3) := by decide +kernel
theorem d_r_refuse_4 : decode (ch_bc m_r_refuse) 4 = .ok (.tableswitch 174 99 119 #[110, 174, 174, 174, 174, 124, 174, 174, 174, 174, 174, 100, 174, 174, 174, 158, 148, 168, 174, 174, 138], 100) := by decide +kernel
theorem d_r_refuse_104 : decode (ch_bc m_r_refuse) 104 = .ok (.aload_n 0, 1) := by decide +kernel
theorem d_r_refuse_105 : decode (ch_bc m_r_refuse) 105 = .ok (.aload_n 1, 1) := by decide +kernel
theorem d_r_refuse_106 : decode (ch_bc m_r_refuse) 106 = .ok (.aload_n 2, 1) := by decide +kernel
theorem d_r_refuse_107 : decode (ch_bc m_r_refuse) 107 = .ok (.getfield 15, 3) := by decide +kernel
theorem d_r_refuse_110 : decode (ch_bc m_r_refuse) 110 = .ok (.invokevirtual 18, 3) := by decide +kernel
theorem d_r_refuse_113 : decode (ch_bc m_r_refuse) 113 = .ok (.ireturn, 1) := by decide +kernel
theorem d_r_refuse_114 : decode (ch_bc m_r_refuse) 114 = .ok (.aload_n 0, 1) := by decide +kernel
theorem d_r_refuse_115 : decode (ch_bc m_r_refuse) 115 = .ok (.aload_n 1, 1) := by decide +kernel
theorem d_r_refuse_116 : decode (ch_bc m_r_refuse) 116 = .ok (.aload_n 2, 1) := by decide +kernel
theorem d_r_refuse_117 : decode (ch_bc m_r_refuse) 117 = .ok (.getfield 24, 3) := by decide +kernel
theorem d_r_refuse_120 : decode (ch_bc m_r_refuse) 120 = .ok (.aload_n 2, 1) := by decide +kernel
theorem d_r_refuse_121 : decode (ch_bc m_r_refuse) 121 = .ok (.getfield 15, 3) := by decide +kernel
theorem d_r_refuse_124 : decode (ch_bc m_r_refuse) 124 = .ok (.invokevirtual 27, 3) := by decide +kernel
theorem d_r_refuse_127 : decode (ch_bc m_r_refuse) 127 = .ok (.ireturn, 1) := by decide +kernel
theorem d_r_refuse_128 : decode (ch_bc m_r_refuse) 128 = .ok (.aload_n 0, 1) := by decide +kernel
theorem d_r_refuse_129 : decode (ch_bc m_r_refuse) 129 = .ok (.aload_n 1, 1) := by decide +kernel
theorem d_r_refuse_130 : decode (ch_bc m_r_refuse) 130 = .ok (.aload_n 2, 1) := by decide +kernel
theorem d_r_refuse_131 : decode (ch_bc m_r_refuse) 131 = .ok (.getfield 24, 3) := by decide +kernel
theorem d_r_refuse_134 : decode (ch_bc m_r_refuse) 134 = .ok (.aload_n 2, 1) := by decide +kernel
theorem d_r_refuse_135 : decode (ch_bc m_r_refuse) 135 = .ok (.getfield 31, 3) := by decide +kernel
theorem d_r_refuse_138 : decode (ch_bc m_r_refuse) 138 = .ok (.invokevirtual 35, 3) := by decide +kernel
theorem d_r_refuse_141 : decode (ch_bc m_r_refuse) 141 = .ok (.ireturn, 1) := by decide +kernel
theorem d_r_refuse_142 : decode (ch_bc m_r_refuse) 142 = .ok (.aload_n 0, 1) := by decide +kernel
theorem d_r_refuse_143 : decode (ch_bc m_r_refuse) 143 = .ok (.aload_n 1, 1) := by decide +kernel
theorem d_r_refuse_144 : decode (ch_bc m_r_refuse) 144 = .ok (.aload_n 2, 1) := by decide +kernel
theorem d_r_refuse_145 : decode (ch_bc m_r_refuse) 145 = .ok (.getfield 24, 3) := by decide +kernel
theorem d_r_refuse_148 : decode (ch_bc m_r_refuse) 148 = .ok (.invokevirtual 39, 3) := by decide +kernel
theorem d_r_refuse_151 : decode (ch_bc m_r_refuse) 151 = .ok (.ireturn, 1) := by decide +kernel
theorem d_r_refuse_152 : decode (ch_bc m_r_refuse) 152 = .ok (.aload_n 0, 1) := by decide +kernel
theorem d_r_refuse_153 : decode (ch_bc m_r_refuse) 153 = .ok (.aload_n 1, 1) := by decide +kernel
theorem d_r_refuse_154 : decode (ch_bc m_r_refuse) 154 = .ok (.aload_n 2, 1) := by decide +kernel
theorem d_r_refuse_155 : decode (ch_bc m_r_refuse) 155 = .ok (.getfield 24, 3) := by decide +kernel
theorem d_r_refuse_158 : decode (ch_bc m_r_refuse) 158 = .ok (.invokevirtual 42, 3) := by decide +kernel
theorem d_r_refuse_161 : decode (ch_bc m_r_refuse) 161 = .ok (.ireturn, 1) := by decide +kernel
theorem d_r_refuse_162 : decode (ch_bc m_r_refuse) 162 = .ok (.aload_n 0, 1) := by decide +kernel
theorem d_r_refuse_163 : decode (ch_bc m_r_refuse) 163 = .ok (.aload_n 1, 1) := by decide +kernel
theorem d_r_refuse_164 : decode (ch_bc m_r_refuse) 164 = .ok (.aload_n 2, 1) := by decide +kernel
theorem d_r_refuse_165 : decode (ch_bc m_r_refuse) 165 = .ok (.getfield 15, 3) := by decide +kernel
theorem d_r_refuse_168 : decode (ch_bc m_r_refuse) 168 = .ok (.invokevirtual 45, 3) := by decide +kernel
theorem d_r_refuse_171 : decode (ch_bc m_r_refuse) 171 = .ok (.ireturn, 1) := by decide +kernel
theorem d_r_refuse_172 : decode (ch_bc m_r_refuse) 172 = .ok (.aload_n 0, 1) := by decide +kernel
theorem d_r_refuse_173 : decode (ch_bc m_r_refuse) 173 = .ok (.aload_n 1, 1) := by decide +kernel
theorem d_r_refuse_174 : decode (ch_bc m_r_refuse) 174 = .ok (.invokevirtual 48, 3) := by decide +kernel
theorem d_r_refuse_177 : decode (ch_bc m_r_refuse) 177 = .ok (.ireturn, 1) := by decide +kernel
theorem d_r_refuse_178 : decode (ch_bc m_r_refuse) 178 = .ok (.aload_n 0, 1) := by decide +kernel
theorem d_r_refuse_179 : decode (ch_bc m_r_refuse) 179 = .ok (.aload_n 1, 1) := by decide +kernel
theorem d_r_refuse_180 : decode (ch_bc m_r_refuse) 180 = .ok (.aload_n 2, 1) := by decide +kernel
theorem d_r_refuse_181 : decode (ch_bc m_r_refuse) 181 = .ok (.getfield 24, 3) := by decide +kernel
theorem d_r_refuse_184 : decode (ch_bc m_r_refuse) 184 = .ok (.aload_n 2, 1) := by decide +kernel
theorem d_r_refuse_185 : decode (ch_bc m_r_refuse) 185 = .ok (.getfield 52, 3) := by decide +kernel
theorem d_r_refuse_188 : decode (ch_bc m_r_refuse) 188 = .ok (.aload_n 2, 1) := by decide +kernel
theorem d_r_refuse_189 : decode (ch_bc m_r_refuse) 189 = .ok (.getfield 15, 3) := by decide +kernel
theorem d_r_refuse_192 : decode (ch_bc m_r_refuse) 192 = .ok (.invokevirtual 55, 3) := by decide +kernel
theorem d_r_refuse_195 : decode (ch_bc m_r_refuse) 195 = .ok (.ireturn, 1) := by decide +kernel
theorem d_r_refuseChild_0 : decode (ch_bc m_r_refuseChild) 0 = .ok (.aload_n 0, 1) := by decide +kernel
theorem d_r_refuseChild_1 : decode (ch_bc m_r_refuseChild) 1 = .ok (.iload_n 2, 1) := by decide +kernel
theorem d_r_refuseChild_2 : decode (ch_bc m_r_refuseChild) 2 = .ok (.iconst 0, 1) := by decide +kernel
theorem d_r_refuseChild_3 : decode (ch_bc m_r_refuseChild) 3 = .ok (.bipush 99, 2) := by decide +kernel
theorem d_r_refuseChild_5 : decode (ch_bc m_r_refuseChild) 5 = .ok (.invokevirtual 59, 3) := by decide +kernel
theorem d_r_refuseChild_8 : decode (ch_bc m_r_refuseChild) 8 = .ok (.ifCond .ne 23, 3) := by decide +kernel
theorem d_r_refuseChild_11 : decode (ch_bc m_r_refuseChild) 11 = .ok (.aload_n 1, 1) := by decide +kernel
theorem d_r_refuseChild_12 : decode (ch_bc m_r_refuseChild) 12 = .ok (.getfield 63, 3) := by decide +kernel
theorem d_r_refuseChild_15 : decode (ch_bc m_r_refuseChild) 15 = .ok (.iconst 5, 1) := by decide +kernel
theorem d_r_refuseChild_16 : decode (ch_bc m_r_refuseChild) 16 = .ok (.if_icmp .lt 19, 3) := by decide +kernel
theorem d_r_refuseChild_19 : decode (ch_bc m_r_refuseChild) 19 = .ok (.aload_n 0, 1) := by decide +kernel
theorem d_r_refuseChild_20 : decode (ch_bc m_r_refuseChild) 20 = .ok (.iconst 2, 1) := by decide +kernel
theorem d_r_refuseChild_21 : decode (ch_bc m_r_refuseChild) 21 = .ok (.aload_n 1, 1) := by decide +kernel
theorem d_r_refuseChild_22 : decode (ch_bc m_r_refuseChild) 22 = .ok (.getfield 63, 3) := by decide +kernel
theorem d_r_refuseChild_25 : decode (ch_bc m_r_refuseChild) 25 = .ok (.invokevirtual 68, 3) := by decide +kernel
theorem d_r_refuseChild_28 : decode (ch_bc m_r_refuseChild) 28 = .ok (.ifCond .eq 7, 3) := by decide +kernel
theorem d_r_refuseChild_31 : decode (ch_bc m_r_refuseChild) 31 = .ok (.iconst 1, 1) := by decide +kernel
theorem d_r_refuseChild_32 : decode (ch_bc m_r_refuseChild) 32 = .ok (.goto 4, 3) := by decide +kernel
theorem d_r_refuseChild_35 : decode (ch_bc m_r_refuseChild) 35 = .ok (.iconst 0, 1) := by decide +kernel
theorem d_r_refuseChild_36 : decode (ch_bc m_r_refuseChild) 36 = .ok (.ireturn, 1) := by decide +kernel
theorem d_r_refuseChalk_0 : decode (ch_bc m_r_refuseChalk) 0 = .ok (.aload_n 0, 1) := by decide +kernel
theorem d_r_refuseChalk_1 : decode (ch_bc m_r_refuseChalk) 1 = .ok (.aload_n 1, 1) := by decide +kernel
theorem d_r_refuseChalk_2 : decode (ch_bc m_r_refuseChalk) 2 = .ok (.iload_n 2, 1) := by decide +kernel
theorem d_r_refuseChalk_3 : decode (ch_bc m_r_refuseChalk) 3 = .ok (.invokevirtual 72, 3) := by decide +kernel
theorem d_r_refuseChalk_6 : decode (ch_bc m_r_refuseChalk) 6 = .ok (.ifCond .ne 14, 3) := by decide +kernel
theorem d_r_refuseChalk_9 : decode (ch_bc m_r_refuseChalk) 9 = .ok (.aload_n 0, 1) := by decide +kernel
theorem d_r_refuseChalk_10 : decode (ch_bc m_r_refuseChalk) 10 = .ok (.iload_n 3, 1) := by decide +kernel
theorem d_r_refuseChalk_11 : decode (ch_bc m_r_refuseChalk) 11 = .ok (.iconst 0, 1) := by decide +kernel
theorem d_r_refuseChalk_12 : decode (ch_bc m_r_refuseChalk) 12 = .ok (.bipush 11, 2) := by decide +kernel
theorem d_r_refuseChalk_14 : decode (ch_bc m_r_refuseChalk) 14 = .ok (.invokevirtual 59, 3) := by decide +kernel
theorem d_r_refuseChalk_17 : decode (ch_bc m_r_refuseChalk) 17 = .ok (.ifCond .eq 5, 3) := by decide +kernel
theorem d_r_refuseChalk_20 : decode (ch_bc m_r_refuseChalk) 20 = .ok (.iconst 1, 1) := by decide +kernel
theorem d_r_refuseChalk_21 : decode (ch_bc m_r_refuseChalk) 21 = .ok (.ireturn, 1) := by decide +kernel
theorem d_r_refuseChalk_22 : decode (ch_bc m_r_refuseChalk) 22 = .ok (.aload_n 1, 1) := by decide +kernel
theorem d_r_refuseChalk_23 : decode (ch_bc m_r_refuseChalk) 23 = .ok (.getfield 75, 3) := by decide +kernel
theorem d_r_refuseChalk_26 : decode (ch_bc m_r_refuseChalk) 26 = .ok (.iload_n 3, 1) := by decide +kernel
theorem d_r_refuseChalk_27 : decode (ch_bc m_r_refuseChalk) 27 = .ok (.iaload, 1) := by decide +kernel
theorem d_r_refuseChalk_28 : decode (ch_bc m_r_refuseChalk) 28 = .ok (.istore 4, 2) := by decide +kernel
theorem d_r_refuseChalk_30 : decode (ch_bc m_r_refuseChalk) 30 = .ok (.iload 4, 2) := by decide +kernel
theorem d_r_refuseChalk_32 : decode (ch_bc m_r_refuseChalk) 32 = .ok (.iconst (-1), 1) := by decide +kernel
theorem d_r_refuseChalk_33 : decode (ch_bc m_r_refuseChalk) 33 = .ok (.if_icmp .eq 17, 3) := by decide +kernel
theorem d_r_refuseChalk_36 : decode (ch_bc m_r_refuseChalk) 36 = .ok (.iload 4, 2) := by decide +kernel
theorem d_r_refuseChalk_38 : decode (ch_bc m_r_refuseChalk) 38 = .ok (.iload_n 2, 1) := by decide +kernel
theorem d_r_refuseChalk_39 : decode (ch_bc m_r_refuseChalk) 39 = .ok (.if_icmp .eq 11, 3) := by decide +kernel
theorem d_r_refuseChalk_42 : decode (ch_bc m_r_refuseChalk) 42 = .ok (.aload_n 0, 1) := by decide +kernel
theorem d_r_refuseChalk_43 : decode (ch_bc m_r_refuseChalk) 43 = .ok (.iconst 4, 1) := by decide +kernel
theorem d_r_refuseChalk_44 : decode (ch_bc m_r_refuseChalk) 44 = .ok (.iload 4, 2) := by decide +kernel
theorem d_r_refuseChalk_46 : decode (ch_bc m_r_refuseChalk) 46 = .ok (.invokevirtual 68, 3) := by decide +kernel
theorem d_r_refuseChalk_49 : decode (ch_bc m_r_refuseChalk) 49 = .ok (.ireturn, 1) := by decide +kernel
theorem d_r_refuseChalk_50 : decode (ch_bc m_r_refuseChalk) 50 = .ok (.aload_n 1, 1) := by decide +kernel
theorem d_r_refuseChalk_51 : decode (ch_bc m_r_refuseChalk) 51 = .ok (.getfield 79, 3) := by decide +kernel
theorem d_r_refuseChalk_54 : decode (ch_bc m_r_refuseChalk) 54 = .ok (.iload_n 3, 1) := by decide +kernel
theorem d_r_refuseChalk_55 : decode (ch_bc m_r_refuseChalk) 55 = .ok (.iaload, 1) := by decide +kernel
theorem d_r_refuseChalk_56 : decode (ch_bc m_r_refuseChalk) 56 = .ok (.bipush 9, 2) := by decide +kernel
theorem d_r_refuseChalk_58 : decode (ch_bc m_r_refuseChalk) 58 = .ok (.if_icmp .lt 11, 3) := by decide +kernel
theorem d_r_refuseChalk_61 : decode (ch_bc m_r_refuseChalk) 61 = .ok (.aload_n 0, 1) := by decide +kernel
theorem d_r_refuseChalk_62 : decode (ch_bc m_r_refuseChalk) 62 = .ok (.bipush 6, 2) := by decide +kernel
theorem d_r_refuseChalk_64 : decode (ch_bc m_r_refuseChalk) 64 = .ok (.iload_n 3, 1) := by decide +kernel
theorem d_r_refuseChalk_65 : decode (ch_bc m_r_refuseChalk) 65 = .ok (.invokevirtual 68, 3) := by decide +kernel
theorem d_r_refuseChalk_68 : decode (ch_bc m_r_refuseChalk) 68 = .ok (.ireturn, 1) := by decide +kernel
theorem d_r_refuseChalk_69 : decode (ch_bc m_r_refuseChalk) 69 = .ok (.aload_n 0, 1) := by decide +kernel
theorem d_r_refuseChalk_70 : decode (ch_bc m_r_refuseChalk) 70 = .ok (.aload_n 1, 1) := by decide +kernel
theorem d_r_refuseChalk_71 : decode (ch_bc m_r_refuseChalk) 71 = .ok (.iload_n 2, 1) := by decide +kernel
theorem d_r_refuseChalk_72 : decode (ch_bc m_r_refuseChalk) 72 = .ok (.iconst 1, 1) := by decide +kernel
theorem d_r_refuseChalk_73 : decode (ch_bc m_r_refuseChalk) 73 = .ok (.invokevirtual 82, 3) := by decide +kernel
theorem d_r_refuseChalk_76 : decode (ch_bc m_r_refuseChalk) 76 = .ok (.ireturn, 1) := by decide +kernel
theorem d_r_refuseHop_0 : decode (ch_bc m_r_refuseHop) 0 = .ok (.aload_n 0, 1) := by decide +kernel
theorem d_r_refuseHop_1 : decode (ch_bc m_r_refuseHop) 1 = .ok (.aload_n 1, 1) := by decide +kernel
theorem d_r_refuseHop_2 : decode (ch_bc m_r_refuseHop) 2 = .ok (.iload_n 2, 1) := by decide +kernel
theorem d_r_refuseHop_3 : decode (ch_bc m_r_refuseHop) 3 = .ok (.invokevirtual 72, 3) := by decide +kernel
theorem d_r_refuseHop_6 : decode (ch_bc m_r_refuseHop) 6 = .ok (.ifCond .ne 12, 3) := by decide +kernel
theorem d_r_refuseHop_9 : decode (ch_bc m_r_refuseHop) 9 = .ok (.aload_n 0, 1) := by decide +kernel
theorem d_r_refuseHop_10 : decode (ch_bc m_r_refuseHop) 10 = .ok (.aload_n 1, 1) := by decide +kernel
theorem d_r_refuseHop_11 : decode (ch_bc m_r_refuseHop) 11 = .ok (.iload_n 2, 1) := by decide +kernel
theorem d_r_refuseHop_12 : decode (ch_bc m_r_refuseHop) 12 = .ok (.invokevirtual 85, 3) := by decide +kernel
theorem d_r_refuseHop_15 : decode (ch_bc m_r_refuseHop) 15 = .ok (.ifCond .eq 5, 3) := by decide +kernel
theorem d_r_refuseHop_18 : decode (ch_bc m_r_refuseHop) 18 = .ok (.iconst 1, 1) := by decide +kernel
theorem d_r_refuseHop_19 : decode (ch_bc m_r_refuseHop) 19 = .ok (.ireturn, 1) := by decide +kernel
theorem d_r_refuseHop_20 : decode (ch_bc m_r_refuseHop) 20 = .ok (.aload_n 3, 1) := by decide +kernel
theorem d_r_refuseHop_21 : decode (ch_bc m_r_refuseHop) 21 = .ok (.getfield 88, 3) := by decide +kernel
theorem d_r_refuseHop_24 : decode (ch_bc m_r_refuseHop) 24 = .ok (.ifCond .ne 10, 3) := by decide +kernel
theorem d_r_refuseHop_27 : decode (ch_bc m_r_refuseHop) 27 = .ok (.aload_n 0, 1) := by decide +kernel
theorem d_r_refuseHop_28 : decode (ch_bc m_r_refuseHop) 28 = .ok (.iconst 1, 1) := by decide +kernel
theorem d_r_refuseHop_29 : decode (ch_bc m_r_refuseHop) 29 = .ok (.iconst 0, 1) := by decide +kernel
theorem d_r_refuseHop_30 : decode (ch_bc m_r_refuseHop) 30 = .ok (.invokevirtual 68, 3) := by decide +kernel
theorem d_r_refuseHop_33 : decode (ch_bc m_r_refuseHop) 33 = .ok (.ireturn, 1) := by decide +kernel
theorem d_r_refuseHop_34 : decode (ch_bc m_r_refuseHop) 34 = .ok (.aload_n 3, 1) := by decide +kernel
theorem d_r_refuseHop_35 : decode (ch_bc m_r_refuseHop) 35 = .ok (.invokevirtual 93, 3) := by decide +kernel
theorem d_r_refuseHop_38 : decode (ch_bc m_r_refuseHop) 38 = .ok (.istore 4, 2) := by decide +kernel
theorem d_r_refuseHop_40 : decode (ch_bc m_r_refuseHop) 40 = .ok (.iload 4, 2) := by decide +kernel
theorem d_r_refuseHop_42 : decode (ch_bc m_r_refuseHop) 42 = .ok (.iconst (-1), 1) := by decide +kernel
theorem d_r_refuseHop_43 : decode (ch_bc m_r_refuseHop) 43 = .ok (.if_icmp .eq 18, 3) := by decide +kernel
theorem d_r_refuseHop_46 : decode (ch_bc m_r_refuseHop) 46 = .ok (.aload_n 0, 1) := by decide +kernel
theorem d_r_refuseHop_47 : decode (ch_bc m_r_refuseHop) 47 = .ok (.bipush 8, 2) := by decide +kernel
theorem d_r_refuseHop_49 : decode (ch_bc m_r_refuseHop) 49 = .ok (.iload 4, 2) := by decide +kernel
theorem d_r_refuseHop_51 : decode (ch_bc m_r_refuseHop) 51 = .ok (.invokevirtual 68, 3) := by decide +kernel
theorem d_r_refuseHop_54 : decode (ch_bc m_r_refuseHop) 54 = .ok (.ifCond .eq 7, 3) := by decide +kernel
theorem d_r_refuseHop_57 : decode (ch_bc m_r_refuseHop) 57 = .ok (.iconst 1, 1) := by decide +kernel
theorem d_r_refuseHop_58 : decode (ch_bc m_r_refuseHop) 58 = .ok (.goto 4, 3) := by decide +kernel
theorem d_r_refuseHop_61 : decode (ch_bc m_r_refuseHop) 61 = .ok (.iconst 0, 1) := by decide +kernel
theorem d_r_refuseHop_62 : decode (ch_bc m_r_refuseHop) 62 = .ok (.ireturn, 1) := by decide +kernel
theorem d_r_refuseWarrant_0 : decode (ch_bc m_r_refuseWarrant) 0 = .ok (.aload_n 0, 1) := by decide +kernel
theorem d_r_refuseWarrant_1 : decode (ch_bc m_r_refuseWarrant) 1 = .ok (.aload_n 1, 1) := by decide +kernel
theorem d_r_refuseWarrant_2 : decode (ch_bc m_r_refuseWarrant) 2 = .ok (.iload_n 2, 1) := by decide +kernel
theorem d_r_refuseWarrant_3 : decode (ch_bc m_r_refuseWarrant) 3 = .ok (.invokevirtual 72, 3) := by decide +kernel
theorem d_r_refuseWarrant_6 : decode (ch_bc m_r_refuseWarrant) 6 = .ok (.ifCond .ne 37, 3) := by decide +kernel
theorem d_r_refuseWarrant_9 : decode (ch_bc m_r_refuseWarrant) 9 = .ok (.aload_n 0, 1) := by decide +kernel
theorem d_r_refuseWarrant_10 : decode (ch_bc m_r_refuseWarrant) 10 = .ok (.aload_n 1, 1) := by decide +kernel
theorem d_r_refuseWarrant_11 : decode (ch_bc m_r_refuseWarrant) 11 = .ok (.iload_n 2, 1) := by decide +kernel
theorem d_r_refuseWarrant_12 : decode (ch_bc m_r_refuseWarrant) 12 = .ok (.invokevirtual 85, 3) := by decide +kernel
theorem d_r_refuseWarrant_15 : decode (ch_bc m_r_refuseWarrant) 15 = .ok (.ifCond .ne 28, 3) := by decide +kernel
theorem d_r_refuseWarrant_18 : decode (ch_bc m_r_refuseWarrant) 18 = .ok (.aload_n 1, 1) := by decide +kernel
theorem d_r_refuseWarrant_19 : decode (ch_bc m_r_refuseWarrant) 19 = .ok (.getfield 97, 3) := by decide +kernel
theorem d_r_refuseWarrant_22 : decode (ch_bc m_r_refuseWarrant) 22 = .ok (.iload_n 2, 1) := by decide +kernel
theorem d_r_refuseWarrant_23 : decode (ch_bc m_r_refuseWarrant) 23 = .ok (.iaload, 1) := by decide +kernel
theorem d_r_refuseWarrant_24 : decode (ch_bc m_r_refuseWarrant) 24 = .ok (.iconst 3, 1) := by decide +kernel
theorem d_r_refuseWarrant_25 : decode (ch_bc m_r_refuseWarrant) 25 = .ok (.if_icmp .ge 22, 3) := by decide +kernel
theorem d_r_refuseWarrant_28 : decode (ch_bc m_r_refuseWarrant) 28 = .ok (.aload_n 0, 1) := by decide +kernel
theorem d_r_refuseWarrant_29 : decode (ch_bc m_r_refuseWarrant) 29 = .ok (.bipush 9, 2) := by decide +kernel
theorem d_r_refuseWarrant_31 : decode (ch_bc m_r_refuseWarrant) 31 = .ok (.aload_n 1, 1) := by decide +kernel
theorem d_r_refuseWarrant_32 : decode (ch_bc m_r_refuseWarrant) 32 = .ok (.getfield 97, 3) := by decide +kernel
theorem d_r_refuseWarrant_35 : decode (ch_bc m_r_refuseWarrant) 35 = .ok (.iload_n 2, 1) := by decide +kernel
theorem d_r_refuseWarrant_36 : decode (ch_bc m_r_refuseWarrant) 36 = .ok (.iaload, 1) := by decide +kernel
theorem d_r_refuseWarrant_37 : decode (ch_bc m_r_refuseWarrant) 37 = .ok (.invokevirtual 68, 3) := by decide +kernel
theorem d_r_refuseWarrant_40 : decode (ch_bc m_r_refuseWarrant) 40 = .ok (.ifCond .eq 7, 3) := by decide +kernel
theorem d_r_refuseWarrant_43 : decode (ch_bc m_r_refuseWarrant) 43 = .ok (.iconst 1, 1) := by decide +kernel
theorem d_r_refuseWarrant_44 : decode (ch_bc m_r_refuseWarrant) 44 = .ok (.goto 4, 3) := by decide +kernel
theorem d_r_refuseWarrant_47 : decode (ch_bc m_r_refuseWarrant) 47 = .ok (.iconst 0, 1) := by decide +kernel
theorem d_r_refuseWarrant_48 : decode (ch_bc m_r_refuseWarrant) 48 = .ok (.ireturn, 1) := by decide +kernel
theorem d_r_refuseStrike_0 : decode (ch_bc m_r_refuseStrike) 0 = .ok (.aload_n 0, 1) := by decide +kernel
theorem d_r_refuseStrike_1 : decode (ch_bc m_r_refuseStrike) 1 = .ok (.aload_n 1, 1) := by decide +kernel
theorem d_r_refuseStrike_2 : decode (ch_bc m_r_refuseStrike) 2 = .ok (.iload_n 2, 1) := by decide +kernel
theorem d_r_refuseStrike_3 : decode (ch_bc m_r_refuseStrike) 3 = .ok (.invokevirtual 72, 3) := by decide +kernel
theorem d_r_refuseStrike_6 : decode (ch_bc m_r_refuseStrike) 6 = .ok (.ifCond .ne 37, 3) := by decide +kernel
theorem d_r_refuseStrike_9 : decode (ch_bc m_r_refuseStrike) 9 = .ok (.aload_n 1, 1) := by decide +kernel
theorem d_r_refuseStrike_10 : decode (ch_bc m_r_refuseStrike) 10 = .ok (.getfield 100, 3) := by decide +kernel
theorem d_r_refuseStrike_13 : decode (ch_bc m_r_refuseStrike) 13 = .ok (.iload_n 2, 1) := by decide +kernel
theorem d_r_refuseStrike_14 : decode (ch_bc m_r_refuseStrike) 14 = .ok (.iaload, 1) := by decide +kernel
theorem d_r_refuseStrike_15 : decode (ch_bc m_r_refuseStrike) 15 = .ok (.ifCond .ne 13, 3) := by decide +kernel
theorem d_r_refuseStrike_18 : decode (ch_bc m_r_refuseStrike) 18 = .ok (.aload_n 0, 1) := by decide +kernel
theorem d_r_refuseStrike_19 : decode (ch_bc m_r_refuseStrike) 19 = .ok (.bipush 10, 2) := by decide +kernel
theorem d_r_refuseStrike_21 : decode (ch_bc m_r_refuseStrike) 21 = .ok (.iconst 0, 1) := by decide +kernel
theorem d_r_refuseStrike_22 : decode (ch_bc m_r_refuseStrike) 22 = .ok (.invokevirtual 68, 3) := by decide +kernel
theorem d_r_refuseStrike_25 : decode (ch_bc m_r_refuseStrike) 25 = .ok (.ifCond .ne 18, 3) := by decide +kernel
theorem d_r_refuseStrike_28 : decode (ch_bc m_r_refuseStrike) 28 = .ok (.aload_n 0, 1) := by decide +kernel
theorem d_r_refuseStrike_29 : decode (ch_bc m_r_refuseStrike) 29 = .ok (.aload_n 1, 1) := by decide +kernel
theorem d_r_refuseStrike_30 : decode (ch_bc m_r_refuseStrike) 30 = .ok (.iload_n 2, 1) := by decide +kernel
theorem d_r_refuseStrike_31 : decode (ch_bc m_r_refuseStrike) 31 = .ok (.aload_n 1, 1) := by decide +kernel
theorem d_r_refuseStrike_32 : decode (ch_bc m_r_refuseStrike) 32 = .ok (.getfield 100, 3) := by decide +kernel
theorem d_r_refuseStrike_35 : decode (ch_bc m_r_refuseStrike) 35 = .ok (.iload_n 2, 1) := by decide +kernel
theorem d_r_refuseStrike_36 : decode (ch_bc m_r_refuseStrike) 36 = .ok (.iaload, 1) := by decide +kernel
theorem d_r_refuseStrike_37 : decode (ch_bc m_r_refuseStrike) 37 = .ok (.invokevirtual 82, 3) := by decide +kernel
theorem d_r_refuseStrike_40 : decode (ch_bc m_r_refuseStrike) 40 = .ok (.ifCond .eq 7, 3) := by decide +kernel
theorem d_r_refuseStrike_43 : decode (ch_bc m_r_refuseStrike) 43 = .ok (.iconst 1, 1) := by decide +kernel
theorem d_r_refuseStrike_44 : decode (ch_bc m_r_refuseStrike) 44 = .ok (.goto 4, 3) := by decide +kernel
theorem d_r_refuseStrike_47 : decode (ch_bc m_r_refuseStrike) 47 = .ok (.iconst 0, 1) := by decide +kernel
theorem d_r_refuseStrike_48 : decode (ch_bc m_r_refuseStrike) 48 = .ok (.ireturn, 1) := by decide +kernel
theorem d_r_refuseRain_0 : decode (ch_bc m_r_refuseRain) 0 = .ok (.aload_n 0, 1) := by decide +kernel
theorem d_r_refuseRain_1 : decode (ch_bc m_r_refuseRain) 1 = .ok (.iload_n 2, 1) := by decide +kernel
theorem d_r_refuseRain_2 : decode (ch_bc m_r_refuseRain) 2 = .ok (.iconst 1, 1) := by decide +kernel
theorem d_r_refuseRain_3 : decode (ch_bc m_r_refuseRain) 3 = .ok (.bipush 9, 2) := by decide +kernel
theorem d_r_refuseRain_5 : decode (ch_bc m_r_refuseRain) 5 = .ok (.invokevirtual 59, 3) := by decide +kernel
theorem d_r_refuseRain_8 : decode (ch_bc m_r_refuseRain) 8 = .ok (.ifCond .ne 30, 3) := by decide +kernel
theorem d_r_refuseRain_11 : decode (ch_bc m_r_refuseRain) 11 = .ok (.aload_n 1, 1) := by decide +kernel
theorem d_r_refuseRain_12 : decode (ch_bc m_r_refuseRain) 12 = .ok (.getfield 103, 3) := by decide +kernel
theorem d_r_refuseRain_15 : decode (ch_bc m_r_refuseRain) 15 = .ok (.ifCond .ne 27, 3) := by decide +kernel
theorem d_r_refuseRain_18 : decode (ch_bc m_r_refuseRain) 18 = .ok (.aload_n 1, 1) := by decide +kernel
theorem d_r_refuseRain_19 : decode (ch_bc m_r_refuseRain) 19 = .ok (.iconst (-1), 1) := by decide +kernel
theorem d_r_refuseRain_20 : decode (ch_bc m_r_refuseRain) 20 = .ok (.invokevirtual 106, 3) := by decide +kernel
theorem d_r_refuseRain_23 : decode (ch_bc m_r_refuseRain) 23 = .ok (.bipush 12, 2) := by decide +kernel
theorem d_r_refuseRain_25 : decode (ch_bc m_r_refuseRain) 25 = .ok (.if_icmp .ne 17, 3) := by decide +kernel
theorem d_r_refuseRain_28 : decode (ch_bc m_r_refuseRain) 28 = .ok (.aload_n 0, 1) := by decide +kernel
theorem d_r_refuseRain_29 : decode (ch_bc m_r_refuseRain) 29 = .ok (.bipush 12, 2) := by decide +kernel
theorem d_r_refuseRain_31 : decode (ch_bc m_r_refuseRain) 31 = .ok (.iconst 0, 1) := by decide +kernel
theorem d_r_refuseRain_32 : decode (ch_bc m_r_refuseRain) 32 = .ok (.invokevirtual 68, 3) := by decide +kernel
theorem d_r_refuseRain_35 : decode (ch_bc m_r_refuseRain) 35 = .ok (.ifCond .eq 7, 3) := by decide +kernel
theorem d_r_refuseRain_38 : decode (ch_bc m_r_refuseRain) 38 = .ok (.iconst 1, 1) := by decide +kernel
theorem d_r_refuseRain_39 : decode (ch_bc m_r_refuseRain) 39 = .ok (.goto 4, 3) := by decide +kernel
theorem d_r_refuseRain_42 : decode (ch_bc m_r_refuseRain) 42 = .ok (.iconst 0, 1) := by decide +kernel
theorem d_r_refuseRain_43 : decode (ch_bc m_r_refuseRain) 43 = .ok (.ireturn, 1) := by decide +kernel
theorem d_r_refuseTerm_0 : decode (ch_bc m_r_refuseTerm) 0 = .ok (.aload_n 1, 1) := by decide +kernel
theorem d_r_refuseTerm_1 : decode (ch_bc m_r_refuseTerm) 1 = .ok (.getfield 63, 3) := by decide +kernel
theorem d_r_refuseTerm_4 : decode (ch_bc m_r_refuseTerm) 4 = .ok (.ifCond .ne 17, 3) := by decide +kernel
theorem d_r_refuseTerm_7 : decode (ch_bc m_r_refuseTerm) 7 = .ok (.aload_n 0, 1) := by decide +kernel
theorem d_r_refuseTerm_8 : decode (ch_bc m_r_refuseTerm) 8 = .ok (.bipush 13, 2) := by decide +kernel
theorem d_r_refuseTerm_10 : decode (ch_bc m_r_refuseTerm) 10 = .ok (.iconst 0, 1) := by decide +kernel
theorem d_r_refuseTerm_11 : decode (ch_bc m_r_refuseTerm) 11 = .ok (.invokevirtual 68, 3) := by decide +kernel
theorem d_r_refuseTerm_14 : decode (ch_bc m_r_refuseTerm) 14 = .ok (.ifCond .eq 7, 3) := by decide +kernel
theorem d_r_refuseTerm_17 : decode (ch_bc m_r_refuseTerm) 17 = .ok (.iconst 1, 1) := by decide +kernel
theorem d_r_refuseTerm_18 : decode (ch_bc m_r_refuseTerm) 18 = .ok (.goto 4, 3) := by decide +kernel
theorem d_r_refuseTerm_21 : decode (ch_bc m_r_refuseTerm) 21 = .ok (.iconst 0, 1) := by decide +kernel
theorem d_r_refuseTerm_22 : decode (ch_bc m_r_refuseTerm) 22 = .ok (.ireturn, 1) := by decide +kernel
theorem d_r_refuseGift_0 : decode (ch_bc m_r_refuseGift) 0 = .ok (.aload_n 0, 1) := by decide +kernel
theorem d_r_refuseGift_1 : decode (ch_bc m_r_refuseGift) 1 = .ok (.aload_n 1, 1) := by decide +kernel
theorem d_r_refuseGift_2 : decode (ch_bc m_r_refuseGift) 2 = .ok (.iload_n 2, 1) := by decide +kernel
theorem d_r_refuseGift_3 : decode (ch_bc m_r_refuseGift) 3 = .ok (.invokevirtual 72, 3) := by decide +kernel
theorem d_r_refuseGift_6 : decode (ch_bc m_r_refuseGift) 6 = .ok (.ifCond .ne 50, 3) := by decide +kernel
theorem d_r_refuseGift_9 : decode (ch_bc m_r_refuseGift) 9 = .ok (.aload_n 0, 1) := by decide +kernel
theorem d_r_refuseGift_10 : decode (ch_bc m_r_refuseGift) 10 = .ok (.aload_n 1, 1) := by decide +kernel
theorem d_r_refuseGift_11 : decode (ch_bc m_r_refuseGift) 11 = .ok (.iload_n 3, 1) := by decide +kernel
theorem d_r_refuseGift_12 : decode (ch_bc m_r_refuseGift) 12 = .ok (.invokevirtual 72, 3) := by decide +kernel
theorem d_r_refuseGift_15 : decode (ch_bc m_r_refuseGift) 15 = .ok (.ifCond .ne 41, 3) := by decide +kernel
theorem d_r_refuseGift_18 : decode (ch_bc m_r_refuseGift) 18 = .ok (.iload_n 2, 1) := by decide +kernel
theorem d_r_refuseGift_19 : decode (ch_bc m_r_refuseGift) 19 = .ok (.iload_n 3, 1) := by decide +kernel
theorem d_r_refuseGift_20 : decode (ch_bc m_r_refuseGift) 20 = .ok (.if_icmp .ne 13, 3) := by decide +kernel
theorem d_r_refuseGift_23 : decode (ch_bc m_r_refuseGift) 23 = .ok (.aload_n 0, 1) := by decide +kernel
theorem d_r_refuseGift_24 : decode (ch_bc m_r_refuseGift) 24 = .ok (.bipush 11, 2) := by decide +kernel
theorem d_r_refuseGift_26 : decode (ch_bc m_r_refuseGift) 26 = .ok (.iload_n 2, 1) := by decide +kernel
theorem d_r_refuseGift_27 : decode (ch_bc m_r_refuseGift) 27 = .ok (.invokevirtual 68, 3) := by decide +kernel
theorem d_r_refuseGift_30 : decode (ch_bc m_r_refuseGift) 30 = .ok (.ifCond .ne 26, 3) := by decide +kernel
theorem d_r_refuseGift_33 : decode (ch_bc m_r_refuseGift) 33 = .ok (.aload_n 0, 1) := by decide +kernel
theorem d_r_refuseGift_34 : decode (ch_bc m_r_refuseGift) 34 = .ok (.iload 4, 2) := by decide +kernel
theorem d_r_refuseGift_36 : decode (ch_bc m_r_refuseGift) 36 = .ok (.iconst 1, 1) := by decide +kernel
theorem d_r_refuseGift_37 : decode (ch_bc m_r_refuseGift) 37 = .ok (.bipush 99, 2) := by decide +kernel
theorem d_r_refuseGift_39 : decode (ch_bc m_r_refuseGift) 39 = .ok (.invokevirtual 59, 3) := by decide +kernel
theorem d_r_refuseGift_42 : decode (ch_bc m_r_refuseGift) 42 = .ok (.ifCond .ne 14, 3) := by decide +kernel
theorem d_r_refuseGift_45 : decode (ch_bc m_r_refuseGift) 45 = .ok (.aload_n 0, 1) := by decide +kernel
theorem d_r_refuseGift_46 : decode (ch_bc m_r_refuseGift) 46 = .ok (.aload_n 1, 1) := by decide +kernel
theorem d_r_refuseGift_47 : decode (ch_bc m_r_refuseGift) 47 = .ok (.iload_n 2, 1) := by decide +kernel
theorem d_r_refuseGift_48 : decode (ch_bc m_r_refuseGift) 48 = .ok (.iload 4, 2) := by decide +kernel
theorem d_r_refuseGift_50 : decode (ch_bc m_r_refuseGift) 50 = .ok (.invokevirtual 82, 3) := by decide +kernel
theorem d_r_refuseGift_53 : decode (ch_bc m_r_refuseGift) 53 = .ok (.ifCond .eq 7, 3) := by decide +kernel
theorem d_r_refuseGift_56 : decode (ch_bc m_r_refuseGift) 56 = .ok (.iconst 1, 1) := by decide +kernel
theorem d_r_refuseGift_57 : decode (ch_bc m_r_refuseGift) 57 = .ok (.goto 4, 3) := by decide +kernel
theorem d_r_refuseGift_60 : decode (ch_bc m_r_refuseGift) 60 = .ok (.iconst 0, 1) := by decide +kernel
theorem d_r_refuseGift_61 : decode (ch_bc m_r_refuseGift) 61 = .ok (.ireturn, 1) := by decide +kernel
theorem d_r_lacksRange_0 : decode (ch_bc m_r_lacksRange) 0 = .ok (.iload_n 1, 1) := by decide +kernel
theorem d_r_lacksRange_1 : decode (ch_bc m_r_lacksRange) 1 = .ok (.iload_n 2, 1) := by decide +kernel
theorem d_r_lacksRange_2 : decode (ch_bc m_r_lacksRange) 2 = .ok (.if_icmp .lt 8, 3) := by decide +kernel
theorem d_r_lacksRange_5 : decode (ch_bc m_r_lacksRange) 5 = .ok (.iload_n 1, 1) := by decide +kernel
theorem d_r_lacksRange_6 : decode (ch_bc m_r_lacksRange) 6 = .ok (.iload_n 3, 1) := by decide +kernel
theorem d_r_lacksRange_7 : decode (ch_bc m_r_lacksRange) 7 = .ok (.if_icmp .le 16, 3) := by decide +kernel
theorem d_r_lacksRange_10 : decode (ch_bc m_r_lacksRange) 10 = .ok (.aload_n 0, 1) := by decide +kernel
theorem d_r_lacksRange_11 : decode (ch_bc m_r_lacksRange) 11 = .ok (.iconst 1, 1) := by decide +kernel
theorem d_r_lacksRange_12 : decode (ch_bc m_r_lacksRange) 12 = .ok (.iconst 0, 1) := by decide +kernel
theorem d_r_lacksRange_13 : decode (ch_bc m_r_lacksRange) 13 = .ok (.invokevirtual 68, 3) := by decide +kernel
theorem d_r_lacksRange_16 : decode (ch_bc m_r_lacksRange) 16 = .ok (.ifCond .eq 7, 3) := by decide +kernel
theorem d_r_lacksRange_19 : decode (ch_bc m_r_lacksRange) 19 = .ok (.iconst 1, 1) := by decide +kernel
theorem d_r_lacksRange_20 : decode (ch_bc m_r_lacksRange) 20 = .ok (.goto 4, 3) := by decide +kernel
theorem d_r_lacksRange_23 : decode (ch_bc m_r_lacksRange) 23 = .ok (.iconst 0, 1) := by decide +kernel
theorem d_r_lacksRange_24 : decode (ch_bc m_r_lacksRange) 24 = .ok (.ireturn, 1) := by decide +kernel
theorem d_r_lacksChild_0 : decode (ch_bc m_r_lacksChild) 0 = .ok (.aload_n 1, 1) := by decide +kernel
theorem d_r_lacksChild_1 : decode (ch_bc m_r_lacksChild) 1 = .ok (.iload_n 2, 1) := by decide +kernel
theorem d_r_lacksChild_2 : decode (ch_bc m_r_lacksChild) 2 = .ok (.invokevirtual 110, 3) := by decide +kernel
theorem d_r_lacksChild_5 : decode (ch_bc m_r_lacksChild) 5 = .ok (.ifCond .ne 19, 3) := by decide +kernel
theorem d_r_lacksChild_8 : decode (ch_bc m_r_lacksChild) 8 = .ok (.aload_n 0, 1) := by decide +kernel
theorem d_r_lacksChild_9 : decode (ch_bc m_r_lacksChild) 9 = .ok (.iconst 3, 1) := by decide +kernel
theorem d_r_lacksChild_10 : decode (ch_bc m_r_lacksChild) 10 = .ok (.aload_n 1, 1) := by decide +kernel
theorem d_r_lacksChild_11 : decode (ch_bc m_r_lacksChild) 11 = .ok (.getfield 63, 3) := by decide +kernel
theorem d_r_lacksChild_14 : decode (ch_bc m_r_lacksChild) 14 = .ok (.invokevirtual 68, 3) := by decide +kernel
theorem d_r_lacksChild_17 : decode (ch_bc m_r_lacksChild) 17 = .ok (.ifCond .eq 7, 3) := by decide +kernel
theorem d_r_lacksChild_20 : decode (ch_bc m_r_lacksChild) 20 = .ok (.iconst 1, 1) := by decide +kernel
theorem d_r_lacksChild_21 : decode (ch_bc m_r_lacksChild) 21 = .ok (.goto 4, 3) := by decide +kernel
theorem d_r_lacksChild_24 : decode (ch_bc m_r_lacksChild) 24 = .ok (.iconst 0, 1) := by decide +kernel
theorem d_r_lacksChild_25 : decode (ch_bc m_r_lacksChild) 25 = .ok (.ireturn, 1) := by decide +kernel
theorem d_r_isWanted_0 : decode (ch_bc m_r_isWanted) 0 = .ok (.aload_n 1, 1) := by decide +kernel
theorem d_r_isWanted_1 : decode (ch_bc m_r_isWanted) 1 = .ok (.getfield 100, 3) := by decide +kernel
theorem d_r_isWanted_4 : decode (ch_bc m_r_isWanted) 4 = .ok (.iload_n 2, 1) := by decide +kernel
theorem d_r_isWanted_5 : decode (ch_bc m_r_isWanted) 5 = .ok (.iaload, 1) := by decide +kernel
theorem d_r_isWanted_6 : decode (ch_bc m_r_isWanted) 6 = .ok (.ifCond .le 22, 3) := by decide +kernel
theorem d_r_isWanted_9 : decode (ch_bc m_r_isWanted) 9 = .ok (.aload_n 0, 1) := by decide +kernel
theorem d_r_isWanted_10 : decode (ch_bc m_r_isWanted) 10 = .ok (.bipush 7, 2) := by decide +kernel
theorem d_r_isWanted_12 : decode (ch_bc m_r_isWanted) 12 = .ok (.aload_n 1, 1) := by decide +kernel
theorem d_r_isWanted_13 : decode (ch_bc m_r_isWanted) 13 = .ok (.getfield 100, 3) := by decide +kernel
theorem d_r_isWanted_16 : decode (ch_bc m_r_isWanted) 16 = .ok (.iload_n 2, 1) := by decide +kernel
theorem d_r_isWanted_17 : decode (ch_bc m_r_isWanted) 17 = .ok (.iaload, 1) := by decide +kernel
theorem d_r_isWanted_18 : decode (ch_bc m_r_isWanted) 18 = .ok (.invokevirtual 68, 3) := by decide +kernel
theorem d_r_isWanted_21 : decode (ch_bc m_r_isWanted) 21 = .ok (.ifCond .eq 7, 3) := by decide +kernel
theorem d_r_isWanted_24 : decode (ch_bc m_r_isWanted) 24 = .ok (.iconst 1, 1) := by decide +kernel
theorem d_r_isWanted_25 : decode (ch_bc m_r_isWanted) 25 = .ok (.goto 4, 3) := by decide +kernel
theorem d_r_isWanted_28 : decode (ch_bc m_r_isWanted) 28 = .ok (.iconst 0, 1) := by decide +kernel
theorem d_r_isWanted_29 : decode (ch_bc m_r_isWanted) 29 = .ok (.ireturn, 1) := by decide +kernel
theorem d_r_lacksPebbles_0 : decode (ch_bc m_r_lacksPebbles) 0 = .ok (.aload_n 1, 1) := by decide +kernel
theorem d_r_lacksPebbles_1 : decode (ch_bc m_r_lacksPebbles) 1 = .ok (.getfield 114, 3) := by decide +kernel
theorem d_r_lacksPebbles_4 : decode (ch_bc m_r_lacksPebbles) 4 = .ok (.iload_n 2, 1) := by decide +kernel
theorem d_r_lacksPebbles_5 : decode (ch_bc m_r_lacksPebbles) 5 = .ok (.iaload, 1) := by decide +kernel
theorem d_r_lacksPebbles_6 : decode (ch_bc m_r_lacksPebbles) 6 = .ok (.iload_n 3, 1) := by decide +kernel
theorem d_r_lacksPebbles_7 : decode (ch_bc m_r_lacksPebbles) 7 = .ok (.if_icmp .ge 23, 3) := by decide +kernel
theorem d_r_lacksPebbles_10 : decode (ch_bc m_r_lacksPebbles) 10 = .ok (.aload_n 0, 1) := by decide +kernel
theorem d_r_lacksPebbles_11 : decode (ch_bc m_r_lacksPebbles) 11 = .ok (.iconst 5, 1) := by decide +kernel
theorem d_r_lacksPebbles_12 : decode (ch_bc m_r_lacksPebbles) 12 = .ok (.iload_n 3, 1) := by decide +kernel
theorem d_r_lacksPebbles_13 : decode (ch_bc m_r_lacksPebbles) 13 = .ok (.aload_n 1, 1) := by decide +kernel
theorem d_r_lacksPebbles_14 : decode (ch_bc m_r_lacksPebbles) 14 = .ok (.getfield 114, 3) := by decide +kernel
theorem d_r_lacksPebbles_17 : decode (ch_bc m_r_lacksPebbles) 17 = .ok (.iload_n 2, 1) := by decide +kernel
theorem d_r_lacksPebbles_18 : decode (ch_bc m_r_lacksPebbles) 18 = .ok (.iaload, 1) := by decide +kernel
theorem d_r_lacksPebbles_19 : decode (ch_bc m_r_lacksPebbles) 19 = .ok (.isub, 1) := by decide +kernel
theorem d_r_lacksPebbles_20 : decode (ch_bc m_r_lacksPebbles) 20 = .ok (.invokevirtual 68, 3) := by decide +kernel
theorem d_r_lacksPebbles_23 : decode (ch_bc m_r_lacksPebbles) 23 = .ok (.ifCond .eq 7, 3) := by decide +kernel
theorem d_r_lacksPebbles_26 : decode (ch_bc m_r_lacksPebbles) 26 = .ok (.iconst 1, 1) := by decide +kernel
theorem d_r_lacksPebbles_27 : decode (ch_bc m_r_lacksPebbles) 27 = .ok (.goto 4, 3) := by decide +kernel
theorem d_r_lacksPebbles_30 : decode (ch_bc m_r_lacksPebbles) 30 = .ok (.iconst 0, 1) := by decide +kernel
theorem d_r_lacksPebbles_31 : decode (ch_bc m_r_lacksPebbles) 31 = .ok (.ireturn, 1) := by decide +kernel
theorem d_r_keep_0 : decode (ch_bc m_r_keep) 0 = .ok (.aload_n 0, 1) := by decide +kernel
theorem d_r_keep_1 : decode (ch_bc m_r_keep) 1 = .ok (.iload_n 1, 1) := by decide +kernel
theorem d_r_keep_2 : decode (ch_bc m_r_keep) 2 = .ok (.putfield 117, 3) := by decide +kernel
theorem d_r_keep_5 : decode (ch_bc m_r_keep) 5 = .ok (.aload_n 0, 1) := by decide +kernel
theorem d_r_keep_6 : decode (ch_bc m_r_keep) 6 = .ok (.iload_n 2, 1) := by decide +kernel
theorem d_r_keep_7 : decode (ch_bc m_r_keep) 7 = .ok (.putfield 118, 3) := by decide +kernel
theorem d_r_keep_10 : decode (ch_bc m_r_keep) 10 = .ok (.aload_n 0, 1) := by decide +kernel
theorem d_r_keep_11 : decode (ch_bc m_r_keep) 11 = .ok (.iconst 0, 1) := by decide +kernel
theorem d_r_keep_12 : decode (ch_bc m_r_keep) 12 = .ok (.putfield 121, 3) := by decide +kernel
theorem d_r_keep_15 : decode (ch_bc m_r_keep) 15 = .ok (.iconst 1, 1) := by decide +kernel
theorem d_r_keep_16 : decode (ch_bc m_r_keep) 16 = .ok (.ireturn, 1) := by decide +kernel
theorem d_t_put_0 : decode (ch_bc m_t_put) 0 = .ok (.aload_n 0, 1) := by decide +kernel
theorem d_t_put_1 : decode (ch_bc m_t_put) 1 = .ok (.getfield 15, 3) := by decide +kernel
theorem d_t_put_4 : decode (ch_bc m_t_put) 4 = .ok (.aload_n 0, 1) := by decide +kernel
theorem d_t_put_5 : decode (ch_bc m_t_put) 5 = .ok (.getfield 9, 3) := by decide +kernel
theorem d_t_put_8 : decode (ch_bc m_t_put) 8 = .ok (.arraylength, 1) := by decide +kernel
theorem d_t_put_9 : decode (ch_bc m_t_put) 9 = .ok (.if_icmp .ge 23, 3) := by decide +kernel
theorem d_t_put_12 : decode (ch_bc m_t_put) 12 = .ok (.aload_n 0, 1) := by decide +kernel
theorem d_t_put_13 : decode (ch_bc m_t_put) 13 = .ok (.getfield 9, 3) := by decide +kernel
theorem d_t_put_16 : decode (ch_bc m_t_put) 16 = .ok (.aload_n 0, 1) := by decide +kernel
theorem d_t_put_17 : decode (ch_bc m_t_put) 17 = .ok (.getfield 15, 3) := by decide +kernel
theorem d_t_put_20 : decode (ch_bc m_t_put) 20 = .ok (.iload_n 1, 1) := by decide +kernel
theorem d_t_put_21 : decode (ch_bc m_t_put) 21 = .ok (.castore, 1) := by decide +kernel
theorem d_t_put_22 : decode (ch_bc m_t_put) 22 = .ok (.aload_n 0, 1) := by decide +kernel
theorem d_t_put_23 : decode (ch_bc m_t_put) 23 = .ok (.dup, 1) := by decide +kernel
theorem d_t_put_24 : decode (ch_bc m_t_put) 24 = .ok (.getfield 15, 3) := by decide +kernel
theorem d_t_put_27 : decode (ch_bc m_t_put) 27 = .ok (.iconst 1, 1) := by decide +kernel
theorem d_t_put_28 : decode (ch_bc m_t_put) 28 = .ok (.iadd, 1) := by decide +kernel
theorem d_t_put_29 : decode (ch_bc m_t_put) 29 = .ok (.putfield 15, 3) := by decide +kernel
theorem d_t_put_32 : decode (ch_bc m_t_put) 32 = .ok (.return_, 1) := by decide +kernel
theorem d_s_add_0 : decode (ch_bc m_s_add) 0 = .ok (.aload_n 0, 1) := by decide +kernel
theorem d_s_add_1 : decode (ch_bc m_s_add) 1 = .ok (.getfield 15, 3) := by decide +kernel
theorem d_s_add_4 : decode (ch_bc m_s_add) 4 = .ok (.aload_n 0, 1) := by decide +kernel
theorem d_s_add_5 : decode (ch_bc m_s_add) 5 = .ok (.getfield 9, 3) := by decide +kernel
theorem d_s_add_8 : decode (ch_bc m_s_add) 8 = .ok (.arraylength, 1) := by decide +kernel
theorem d_s_add_9 : decode (ch_bc m_s_add) 9 = .ok (.if_icmp .ge 23, 3) := by decide +kernel
theorem d_s_add_12 : decode (ch_bc m_s_add) 12 = .ok (.aload_n 0, 1) := by decide +kernel
theorem d_s_add_13 : decode (ch_bc m_s_add) 13 = .ok (.getfield 9, 3) := by decide +kernel
theorem d_s_add_16 : decode (ch_bc m_s_add) 16 = .ok (.aload_n 0, 1) := by decide +kernel
theorem d_s_add_17 : decode (ch_bc m_s_add) 17 = .ok (.getfield 15, 3) := by decide +kernel
theorem d_s_add_20 : decode (ch_bc m_s_add) 20 = .ok (.iload_n 1, 1) := by decide +kernel
theorem d_s_add_21 : decode (ch_bc m_s_add) 21 = .ok (.iastore, 1) := by decide +kernel
theorem d_s_add_22 : decode (ch_bc m_s_add) 22 = .ok (.aload_n 0, 1) := by decide +kernel
theorem d_s_add_23 : decode (ch_bc m_s_add) 23 = .ok (.dup, 1) := by decide +kernel
theorem d_s_add_24 : decode (ch_bc m_s_add) 24 = .ok (.getfield 15, 3) := by decide +kernel
theorem d_s_add_27 : decode (ch_bc m_s_add) 27 = .ok (.iconst 1, 1) := by decide +kernel
theorem d_s_add_28 : decode (ch_bc m_s_add) 28 = .ok (.iadd, 1) := by decide +kernel
theorem d_s_add_29 : decode (ch_bc m_s_add) 29 = .ok (.putfield 15, 3) := by decide +kernel
theorem d_s_add_32 : decode (ch_bc m_s_add) 32 = .ok (.return_, 1) := by decide +kernel
theorem d_s_readFrom_0 : decode (ch_bc m_s_readFrom) 0 = .ok (.iload_n 1, 1) := by decide +kernel
theorem d_s_readFrom_1 : decode (ch_bc m_s_readFrom) 1 = .ok (.istore_n 2, 1) := by decide +kernel
theorem d_s_readFrom_2 : decode (ch_bc m_s_readFrom) 2 = .ok (.bipush 9, 2) := by decide +kernel
theorem d_s_readFrom_4 : decode (ch_bc m_s_readFrom) 4 = .ok (.istore_n 3, 1) := by decide +kernel
theorem d_s_readFrom_5 : decode (ch_bc m_s_readFrom) 5 = .ok (.bipush 8, 2) := by decide +kernel
theorem d_s_readFrom_7 : decode (ch_bc m_s_readFrom) 7 = .ok (.istore 4, 2) := by decide +kernel
theorem d_s_readFrom_9 : decode (ch_bc m_s_readFrom) 9 = .ok (.iload 4, 2) := by decide +kernel
theorem d_s_readFrom_11 : decode (ch_bc m_s_readFrom) 11 = .ok (.ifCond .lt 32, 3) := by decide +kernel
theorem d_s_readFrom_14 : decode (ch_bc m_s_readFrom) 14 = .ok (.iload_n 2, 1) := by decide +kernel
theorem d_s_readFrom_15 : decode (ch_bc m_s_readFrom) 15 = .ok (.ifCond .le 28, 3) := by decide +kernel
theorem d_s_readFrom_18 : decode (ch_bc m_s_readFrom) 18 = .ok (.aload_n 0, 1) := by decide +kernel
theorem d_s_readFrom_19 : decode (ch_bc m_s_readFrom) 19 = .ok (.getfield 9, 3) := by decide +kernel
theorem d_s_readFrom_22 : decode (ch_bc m_s_readFrom) 22 = .ok (.iload 4, 2) := by decide +kernel
theorem d_s_readFrom_24 : decode (ch_bc m_s_readFrom) 24 = .ok (.iload_n 2, 1) := by decide +kernel
theorem d_s_readFrom_25 : decode (ch_bc m_s_readFrom) 25 = .ok (.bipush 10, 2) := by decide +kernel
theorem d_s_readFrom_27 : decode (ch_bc m_s_readFrom) 27 = .ok (.irem, 1) := by decide +kernel
theorem d_s_readFrom_28 : decode (ch_bc m_s_readFrom) 28 = .ok (.iastore, 1) := by decide +kernel
theorem d_s_readFrom_29 : decode (ch_bc m_s_readFrom) 29 = .ok (.iload_n 2, 1) := by decide +kernel
theorem d_s_readFrom_30 : decode (ch_bc m_s_readFrom) 30 = .ok (.bipush 10, 2) := by decide +kernel
theorem d_s_readFrom_32 : decode (ch_bc m_s_readFrom) 32 = .ok (.idiv, 1) := by decide +kernel
theorem d_s_readFrom_33 : decode (ch_bc m_s_readFrom) 33 = .ok (.istore_n 2, 1) := by decide +kernel
theorem d_s_readFrom_34 : decode (ch_bc m_s_readFrom) 34 = .ok (.iload 4, 2) := by decide +kernel
theorem d_s_readFrom_36 : decode (ch_bc m_s_readFrom) 36 = .ok (.istore_n 3, 1) := by decide +kernel
theorem d_s_readFrom_37 : decode (ch_bc m_s_readFrom) 37 = .ok (.iinc 4 (-1), 3) := by decide +kernel
theorem d_s_readFrom_40 : decode (ch_bc m_s_readFrom) 40 = .ok (.goto (-31), 3) := by decide +kernel
theorem d_s_readFrom_43 : decode (ch_bc m_s_readFrom) 43 = .ok (.aload_n 0, 1) := by decide +kernel
theorem d_s_readFrom_44 : decode (ch_bc m_s_readFrom) 44 = .ok (.iload_n 2, 1) := by decide +kernel
theorem d_s_readFrom_45 : decode (ch_bc m_s_readFrom) 45 = .ok (.ifCond .ne 10, 3) := by decide +kernel
theorem d_s_readFrom_48 : decode (ch_bc m_s_readFrom) 48 = .ok (.bipush 9, 2) := by decide +kernel
theorem d_s_readFrom_50 : decode (ch_bc m_s_readFrom) 50 = .ok (.iload_n 3, 1) := by decide +kernel
theorem d_s_readFrom_51 : decode (ch_bc m_s_readFrom) 51 = .ok (.isub, 1) := by decide +kernel
theorem d_s_readFrom_52 : decode (ch_bc m_s_readFrom) 52 = .ok (.goto 4, 3) := by decide +kernel
theorem d_s_readFrom_55 : decode (ch_bc m_s_readFrom) 55 = .ok (.iconst 0, 1) := by decide +kernel
theorem d_s_readFrom_56 : decode (ch_bc m_s_readFrom) 56 = .ok (.putfield 15, 3) := by decide +kernel
theorem d_s_readFrom_59 : decode (ch_bc m_s_readFrom) 59 = .ok (.aload_n 0, 1) := by decide +kernel
theorem d_s_readFrom_60 : decode (ch_bc m_s_readFrom) 60 = .ok (.getfield 9, 3) := by decide +kernel
theorem d_s_readFrom_63 : decode (ch_bc m_s_readFrom) 63 = .ok (.iload_n 3, 1) := by decide +kernel
theorem d_s_readFrom_64 : decode (ch_bc m_s_readFrom) 64 = .ok (.aload_n 0, 1) := by decide +kernel
theorem d_s_readFrom_65 : decode (ch_bc m_s_readFrom) 65 = .ok (.getfield 9, 3) := by decide +kernel
theorem d_s_readFrom_68 : decode (ch_bc m_s_readFrom) 68 = .ok (.iconst 0, 1) := by decide +kernel
theorem d_s_readFrom_69 : decode (ch_bc m_s_readFrom) 69 = .ok (.aload_n 0, 1) := by decide +kernel
theorem d_s_readFrom_70 : decode (ch_bc m_s_readFrom) 70 = .ok (.getfield 15, 3) := by decide +kernel
theorem d_s_readFrom_73 : decode (ch_bc m_s_readFrom) 73 = .ok (.invokestatic 19, 3) := by decide +kernel
theorem d_s_readFrom_76 : decode (ch_bc m_s_readFrom) 76 = .ok (.iconst 0, 1) := by decide +kernel
theorem d_s_readFrom_77 : decode (ch_bc m_s_readFrom) 77 = .ok (.istore 4, 2) := by decide +kernel
theorem d_s_readFrom_79 : decode (ch_bc m_s_readFrom) 79 = .ok (.iload 4, 2) := by decide +kernel
theorem d_s_readFrom_81 : decode (ch_bc m_s_readFrom) 81 = .ok (.aload_n 0, 1) := by decide +kernel
theorem d_s_readFrom_82 : decode (ch_bc m_s_readFrom) 82 = .ok (.getfield 15, 3) := by decide +kernel
theorem d_s_readFrom_85 : decode (ch_bc m_s_readFrom) 85 = .ok (.if_icmp .ge 36, 3) := by decide +kernel
theorem d_s_readFrom_88 : decode (ch_bc m_s_readFrom) 88 = .ok (.aload_n 0, 1) := by decide +kernel
theorem d_s_readFrom_89 : decode (ch_bc m_s_readFrom) 89 = .ok (.getfield 9, 3) := by decide +kernel
theorem d_s_readFrom_92 : decode (ch_bc m_s_readFrom) 92 = .ok (.iload 4, 2) := by decide +kernel
theorem d_s_readFrom_94 : decode (ch_bc m_s_readFrom) 94 = .ok (.iaload, 1) := by decide +kernel
theorem d_s_readFrom_95 : decode (ch_bc m_s_readFrom) 95 = .ok (.iconst 1, 1) := by decide +kernel
theorem d_s_readFrom_96 : decode (ch_bc m_s_readFrom) 96 = .ok (.if_icmp .lt 14, 3) := by decide +kernel
theorem d_s_readFrom_99 : decode (ch_bc m_s_readFrom) 99 = .ok (.aload_n 0, 1) := by decide +kernel
theorem d_s_readFrom_100 : decode (ch_bc m_s_readFrom) 100 = .ok (.getfield 9, 3) := by decide +kernel
theorem d_s_readFrom_103 : decode (ch_bc m_s_readFrom) 103 = .ok (.iload 4, 2) := by decide +kernel
theorem d_s_readFrom_105 : decode (ch_bc m_s_readFrom) 105 = .ok (.iaload, 1) := by decide +kernel
theorem d_s_readFrom_106 : decode (ch_bc m_s_readFrom) 106 = .ok (.iconst 3, 1) := by decide +kernel
theorem d_s_readFrom_107 : decode (ch_bc m_s_readFrom) 107 = .ok (.if_icmp .le 8, 3) := by decide +kernel
theorem d_s_readFrom_110 : decode (ch_bc m_s_readFrom) 110 = .ok (.aload_n 0, 1) := by decide +kernel
theorem d_s_readFrom_111 : decode (ch_bc m_s_readFrom) 111 = .ok (.iconst 0, 1) := by decide +kernel
theorem d_s_readFrom_112 : decode (ch_bc m_s_readFrom) 112 = .ok (.putfield 15, 3) := by decide +kernel
theorem d_s_readFrom_115 : decode (ch_bc m_s_readFrom) 115 = .ok (.iinc 4 1, 3) := by decide +kernel
theorem d_s_readFrom_118 : decode (ch_bc m_s_readFrom) 118 = .ok (.goto (-39), 3) := by decide +kernel
theorem d_s_readFrom_121 : decode (ch_bc m_s_readFrom) 121 = .ok (.return_, 1) := by decide +kernel
theorem d_s_misfit_0 : decode (ch_bc m_s_misfit) 0 = .ok (.iconst (-1), 1) := by decide +kernel
theorem d_s_misfit_1 : decode (ch_bc m_s_misfit) 1 = .ok (.istore_n 1, 1) := by decide +kernel
theorem d_s_misfit_2 : decode (ch_bc m_s_misfit) 2 = .ok (.iconst 0, 1) := by decide +kernel
theorem d_s_misfit_3 : decode (ch_bc m_s_misfit) 3 = .ok (.istore_n 2, 1) := by decide +kernel
theorem d_s_misfit_4 : decode (ch_bc m_s_misfit) 4 = .ok (.iload_n 2, 1) := by decide +kernel
theorem d_s_misfit_5 : decode (ch_bc m_s_misfit) 5 = .ok (.aload_n 0, 1) := by decide +kernel
theorem d_s_misfit_6 : decode (ch_bc m_s_misfit) 6 = .ok (.getfield 15, 3) := by decide +kernel
theorem d_s_misfit_9 : decode (ch_bc m_s_misfit) 9 = .ok (.if_icmp .ge 27, 3) := by decide +kernel
theorem d_s_misfit_12 : decode (ch_bc m_s_misfit) 12 = .ok (.iload_n 1, 1) := by decide +kernel
theorem d_s_misfit_13 : decode (ch_bc m_s_misfit) 13 = .ok (.bipush 11, 2) := by decide +kernel
theorem d_s_misfit_15 : decode (ch_bc m_s_misfit) 15 = .ok (.if_icmp .lt 6, 3) := by decide +kernel
theorem d_s_misfit_18 : decode (ch_bc m_s_misfit) 18 = .ok (.bipush 12, 2) := by decide +kernel
theorem d_s_misfit_20 : decode (ch_bc m_s_misfit) 20 = .ok (.ireturn, 1) := by decide +kernel
theorem d_s_misfit_21 : decode (ch_bc m_s_misfit) 21 = .ok (.iload_n 1, 1) := by decide +kernel
theorem d_s_misfit_22 : decode (ch_bc m_s_misfit) 22 = .ok (.aload_n 0, 1) := by decide +kernel
theorem d_s_misfit_23 : decode (ch_bc m_s_misfit) 23 = .ok (.getfield 9, 3) := by decide +kernel
theorem d_s_misfit_26 : decode (ch_bc m_s_misfit) 26 = .ok (.iload_n 2, 1) := by decide +kernel
theorem d_s_misfit_27 : decode (ch_bc m_s_misfit) 27 = .ok (.iaload, 1) := by decide +kernel
theorem d_s_misfit_28 : decode (ch_bc m_s_misfit) 28 = .ok (.iadd, 1) := by decide +kernel
theorem d_s_misfit_29 : decode (ch_bc m_s_misfit) 29 = .ok (.istore_n 1, 1) := by decide +kernel
theorem d_s_misfit_30 : decode (ch_bc m_s_misfit) 30 = .ok (.iinc 2 1, 3) := by decide +kernel
theorem d_s_misfit_33 : decode (ch_bc m_s_misfit) 33 = .ok (.goto (-29), 3) := by decide +kernel
theorem d_s_misfit_36 : decode (ch_bc m_s_misfit) 36 = .ok (.iload_n 1, 1) := by decide +kernel
theorem d_s_misfit_37 : decode (ch_bc m_s_misfit) 37 = .ok (.bipush 11, 2) := by decide +kernel
theorem d_s_misfit_39 : decode (ch_bc m_s_misfit) 39 = .ok (.if_icmp .lt 7, 3) := by decide +kernel
theorem d_s_misfit_42 : decode (ch_bc m_s_misfit) 42 = .ok (.iconst (-1), 1) := by decide +kernel
theorem d_s_misfit_43 : decode (ch_bc m_s_misfit) 43 = .ok (.goto 4, 3) := by decide +kernel
theorem d_s_misfit_46 : decode (ch_bc m_s_misfit) 46 = .ok (.iload_n 1, 1) := by decide +kernel
theorem d_s_misfit_47 : decode (ch_bc m_s_misfit) 47 = .ok (.ireturn, 1) := by decide +kernel
theorem d_w_fewestBack_0 : decode (ch_bc m_w_fewestBack) 0 = .ok (.bipush 12, 2) := by decide +kernel
theorem d_w_fewestBack_2 : decode (ch_bc m_w_fewestBack) 2 = .ok (.istore_n 3, 1) := by decide +kernel
theorem d_w_fewestBack_3 : decode (ch_bc m_w_fewestBack) 3 = .ok (.iload_n 3, 1) := by decide +kernel
theorem d_w_fewestBack_4 : decode (ch_bc m_w_fewestBack) 4 = .ok (.bipush 15, 2) := by decide +kernel
theorem d_w_fewestBack_6 : decode (ch_bc m_w_fewestBack) 6 = .ok (.if_icmp .ge 23, 3) := by decide +kernel
theorem d_w_fewestBack_9 : decode (ch_bc m_w_fewestBack) 9 = .ok (.aload_n 0, 1) := by decide +kernel
theorem d_w_fewestBack_10 : decode (ch_bc m_w_fewestBack) 10 = .ok (.getfield 11, 3) := by decide +kernel
theorem d_w_fewestBack_13 : decode (ch_bc m_w_fewestBack) 13 = .ok (.iload_n 3, 1) := by decide +kernel
theorem d_w_fewestBack_14 : decode (ch_bc m_w_fewestBack) 14 = .ok (.iconst 0, 1) := by decide +kernel
theorem d_w_fewestBack_15 : decode (ch_bc m_w_fewestBack) 15 = .ok (.iastore, 1) := by decide +kernel
theorem d_w_fewestBack_16 : decode (ch_bc m_w_fewestBack) 16 = .ok (.aload_n 0, 1) := by decide +kernel
theorem d_w_fewestBack_17 : decode (ch_bc m_w_fewestBack) 17 = .ok (.getfield 15, 3) := by decide +kernel
theorem d_w_fewestBack_20 : decode (ch_bc m_w_fewestBack) 20 = .ok (.iload_n 3, 1) := by decide +kernel
theorem d_w_fewestBack_21 : decode (ch_bc m_w_fewestBack) 21 = .ok (.iconst 0, 1) := by decide +kernel
theorem d_w_fewestBack_22 : decode (ch_bc m_w_fewestBack) 22 = .ok (.iastore, 1) := by decide +kernel
theorem d_w_fewestBack_23 : decode (ch_bc m_w_fewestBack) 23 = .ok (.iinc 3 1, 3) := by decide +kernel
theorem d_w_fewestBack_26 : decode (ch_bc m_w_fewestBack) 26 = .ok (.goto (-23), 3) := by decide +kernel
theorem d_w_fewestBack_29 : decode (ch_bc m_w_fewestBack) 29 = .ok (.bipush 11, 2) := by decide +kernel
theorem d_w_fewestBack_31 : decode (ch_bc m_w_fewestBack) 31 = .ok (.istore_n 3, 1) := by decide +kernel
theorem d_w_fewestBack_32 : decode (ch_bc m_w_fewestBack) 32 = .ok (.iload_n 3, 1) := by decide +kernel
theorem d_w_fewestBack_33 : decode (ch_bc m_w_fewestBack) 33 = .ok (.ifCond .lt 40, 3) := by decide +kernel
theorem d_w_fewestBack_36 : decode (ch_bc m_w_fewestBack) 36 = .ok (.aload_n 0, 1) := by decide +kernel
theorem d_w_fewestBack_37 : decode (ch_bc m_w_fewestBack) 37 = .ok (.getfield 18, 3) := by decide +kernel
theorem d_w_fewestBack_40 : decode (ch_bc m_w_fewestBack) 40 = .ok (.iload_n 3, 1) := by decide +kernel
theorem d_w_fewestBack_41 : decode (ch_bc m_w_fewestBack) 41 = .ok (.iconst 0, 1) := by decide +kernel
theorem d_w_fewestBack_42 : decode (ch_bc m_w_fewestBack) 42 = .ok (.iastore, 1) := by decide +kernel
theorem d_w_fewestBack_43 : decode (ch_bc m_w_fewestBack) 43 = .ok (.iconst 3, 1) := by decide +kernel
theorem d_w_fewestBack_44 : decode (ch_bc m_w_fewestBack) 44 = .ok (.istore 4, 2) := by decide +kernel
theorem d_w_fewestBack_46 : decode (ch_bc m_w_fewestBack) 46 = .ok (.iload 4, 2) := by decide +kernel
theorem d_w_fewestBack_48 : decode (ch_bc m_w_fewestBack) 48 = .ok (.iconst 1, 1) := by decide +kernel
theorem d_w_fewestBack_49 : decode (ch_bc m_w_fewestBack) 49 = .ok (.if_icmp .lt 18, 3) := by decide +kernel
theorem d_w_fewestBack_52 : decode (ch_bc m_w_fewestBack) 52 = .ok (.aload_n 0, 1) := by decide +kernel
theorem d_w_fewestBack_53 : decode (ch_bc m_w_fewestBack) 53 = .ok (.aload_n 1, 1) := by decide +kernel
theorem d_w_fewestBack_54 : decode (ch_bc m_w_fewestBack) 54 = .ok (.iload_n 2, 1) := by decide +kernel
theorem d_w_fewestBack_55 : decode (ch_bc m_w_fewestBack) 55 = .ok (.iload_n 3, 1) := by decide +kernel
theorem d_w_fewestBack_56 : decode (ch_bc m_w_fewestBack) 56 = .ok (.iload 4, 2) := by decide +kernel
theorem d_w_fewestBack_58 : decode (ch_bc m_w_fewestBack) 58 = .ok (.invokevirtual 21, 3) := by decide +kernel
theorem d_w_fewestBack_61 : decode (ch_bc m_w_fewestBack) 61 = .ok (.iinc 4 (-1), 3) := by decide +kernel
theorem d_w_fewestBack_64 : decode (ch_bc m_w_fewestBack) 64 = .ok (.goto (-18), 3) := by decide +kernel
theorem d_w_fewestBack_67 : decode (ch_bc m_w_fewestBack) 67 = .ok (.iinc 3 (-1), 3) := by decide +kernel
theorem d_w_fewestBack_70 : decode (ch_bc m_w_fewestBack) 70 = .ok (.goto (-38), 3) := by decide +kernel
theorem d_w_fewestBack_73 : decode (ch_bc m_w_fewestBack) 73 = .ok (.aload_n 0, 1) := by decide +kernel
theorem d_w_fewestBack_74 : decode (ch_bc m_w_fewestBack) 74 = .ok (.getfield 11, 3) := by decide +kernel
theorem d_w_fewestBack_77 : decode (ch_bc m_w_fewestBack) 77 = .ok (.iconst 0, 1) := by decide +kernel
theorem d_w_fewestBack_78 : decode (ch_bc m_w_fewestBack) 78 = .ok (.iaload, 1) := by decide +kernel
theorem d_w_fewestBack_79 : decode (ch_bc m_w_fewestBack) 79 = .ok (.ireturn, 1) := by decide +kernel
theorem d_w_tryStep_0 : decode (ch_bc m_w_tryStep) 0 = .ok (.iload_n 3, 1) := by decide +kernel
theorem d_w_tryStep_1 : decode (ch_bc m_w_tryStep) 1 = .ok (.iload 4, 2) := by decide +kernel
theorem d_w_tryStep_3 : decode (ch_bc m_w_tryStep) 3 = .ok (.iadd, 1) := by decide +kernel
theorem d_w_tryStep_4 : decode (ch_bc m_w_tryStep) 4 = .ok (.istore 5, 2) := by decide +kernel
theorem d_w_tryStep_6 : decode (ch_bc m_w_tryStep) 6 = .ok (.aload_n 0, 1) := by decide +kernel
theorem d_w_tryStep_7 : decode (ch_bc m_w_tryStep) 7 = .ok (.getfield 11, 3) := by decide +kernel
theorem d_w_tryStep_10 : decode (ch_bc m_w_tryStep) 10 = .ok (.iload 5, 2) := by decide +kernel
theorem d_w_tryStep_12 : decode (ch_bc m_w_tryStep) 12 = .ok (.iaload, 1) := by decide +kernel
theorem d_w_tryStep_13 : decode (ch_bc m_w_tryStep) 13 = .ok (.aload_n 0, 1) := by decide +kernel
theorem d_w_tryStep_14 : decode (ch_bc m_w_tryStep) 14 = .ok (.aload_n 1, 1) := by decide +kernel
theorem d_w_tryStep_15 : decode (ch_bc m_w_tryStep) 15 = .ok (.iload_n 2, 1) := by decide +kernel
theorem d_w_tryStep_16 : decode (ch_bc m_w_tryStep) 16 = .ok (.iload 5, 2) := by decide +kernel
theorem d_w_tryStep_18 : decode (ch_bc m_w_tryStep) 18 = .ok (.invokevirtual 25, 3) := by decide +kernel
theorem d_w_tryStep_21 : decode (ch_bc m_w_tryStep) 21 = .ok (.iadd, 1) := by decide +kernel
theorem d_w_tryStep_22 : decode (ch_bc m_w_tryStep) 22 = .ok (.istore 6, 2) := by decide +kernel
theorem d_w_tryStep_24 : decode (ch_bc m_w_tryStep) 24 = .ok (.aload_n 0, 1) := by decide +kernel
theorem d_w_tryStep_25 : decode (ch_bc m_w_tryStep) 25 = .ok (.getfield 15, 3) := by decide +kernel
theorem d_w_tryStep_28 : decode (ch_bc m_w_tryStep) 28 = .ok (.iload 5, 2) := by decide +kernel
theorem d_w_tryStep_30 : decode (ch_bc m_w_tryStep) 30 = .ok (.iaload, 1) := by decide +kernel
theorem d_w_tryStep_31 : decode (ch_bc m_w_tryStep) 31 = .ok (.iconst 1, 1) := by decide +kernel
theorem d_w_tryStep_32 : decode (ch_bc m_w_tryStep) 32 = .ok (.iadd, 1) := by decide +kernel
theorem d_w_tryStep_33 : decode (ch_bc m_w_tryStep) 33 = .ok (.istore 7, 2) := by decide +kernel
theorem d_w_tryStep_35 : decode (ch_bc m_w_tryStep) 35 = .ok (.aload_n 0, 1) := by decide +kernel
theorem d_w_tryStep_36 : decode (ch_bc m_w_tryStep) 36 = .ok (.getfield 18, 3) := by decide +kernel
theorem d_w_tryStep_39 : decode (ch_bc m_w_tryStep) 39 = .ok (.iload_n 3, 1) := by decide +kernel
theorem d_w_tryStep_40 : decode (ch_bc m_w_tryStep) 40 = .ok (.iaload, 1) := by decide +kernel
theorem d_w_tryStep_41 : decode (ch_bc m_w_tryStep) 41 = .ok (.ifCond .eq 36, 3) := by decide +kernel
theorem d_w_tryStep_44 : decode (ch_bc m_w_tryStep) 44 = .ok (.iload 6, 2) := by decide +kernel
theorem d_w_tryStep_46 : decode (ch_bc m_w_tryStep) 46 = .ok (.aload_n 0, 1) := by decide +kernel
theorem d_w_tryStep_47 : decode (ch_bc m_w_tryStep) 47 = .ok (.getfield 11, 3) := by decide +kernel
theorem d_w_tryStep_50 : decode (ch_bc m_w_tryStep) 50 = .ok (.iload_n 3, 1) := by decide +kernel
theorem d_w_tryStep_51 : decode (ch_bc m_w_tryStep) 51 = .ok (.iaload, 1) := by decide +kernel
theorem d_w_tryStep_52 : decode (ch_bc m_w_tryStep) 52 = .ok (.if_icmp .lt 25, 3) := by decide +kernel
theorem d_w_tryStep_55 : decode (ch_bc m_w_tryStep) 55 = .ok (.iload 6, 2) := by decide +kernel
theorem d_w_tryStep_57 : decode (ch_bc m_w_tryStep) 57 = .ok (.aload_n 0, 1) := by decide +kernel
theorem d_w_tryStep_58 : decode (ch_bc m_w_tryStep) 58 = .ok (.getfield 11, 3) := by decide +kernel
theorem d_w_tryStep_61 : decode (ch_bc m_w_tryStep) 61 = .ok (.iload_n 3, 1) := by decide +kernel
theorem d_w_tryStep_62 : decode (ch_bc m_w_tryStep) 62 = .ok (.iaload, 1) := by decide +kernel
theorem d_w_tryStep_63 : decode (ch_bc m_w_tryStep) 63 = .ok (.if_icmp .ne 38, 3) := by decide +kernel
theorem d_w_tryStep_66 : decode (ch_bc m_w_tryStep) 66 = .ok (.iload 7, 2) := by decide +kernel
theorem d_w_tryStep_68 : decode (ch_bc m_w_tryStep) 68 = .ok (.aload_n 0, 1) := by decide +kernel
theorem d_w_tryStep_69 : decode (ch_bc m_w_tryStep) 69 = .ok (.getfield 15, 3) := by decide +kernel
theorem d_w_tryStep_72 : decode (ch_bc m_w_tryStep) 72 = .ok (.iload_n 3, 1) := by decide +kernel
theorem d_w_tryStep_73 : decode (ch_bc m_w_tryStep) 73 = .ok (.iaload, 1) := by decide +kernel
theorem d_w_tryStep_74 : decode (ch_bc m_w_tryStep) 74 = .ok (.if_icmp .ge 27, 3) := by decide +kernel
theorem d_w_tryStep_77 : decode (ch_bc m_w_tryStep) 77 = .ok (.aload_n 0, 1) := by decide +kernel
theorem d_w_tryStep_78 : decode (ch_bc m_w_tryStep) 78 = .ok (.getfield 11, 3) := by decide +kernel
theorem d_w_tryStep_81 : decode (ch_bc m_w_tryStep) 81 = .ok (.iload_n 3, 1) := by decide +kernel
theorem d_w_tryStep_82 : decode (ch_bc m_w_tryStep) 82 = .ok (.iload 6, 2) := by decide +kernel
theorem d_w_tryStep_84 : decode (ch_bc m_w_tryStep) 84 = .ok (.iastore, 1) := by decide +kernel
theorem d_w_tryStep_85 : decode (ch_bc m_w_tryStep) 85 = .ok (.aload_n 0, 1) := by decide +kernel
theorem d_w_tryStep_86 : decode (ch_bc m_w_tryStep) 86 = .ok (.getfield 15, 3) := by decide +kernel
theorem d_w_tryStep_89 : decode (ch_bc m_w_tryStep) 89 = .ok (.iload_n 3, 1) := by decide +kernel
theorem d_w_tryStep_90 : decode (ch_bc m_w_tryStep) 90 = .ok (.iload 7, 2) := by decide +kernel
theorem d_w_tryStep_92 : decode (ch_bc m_w_tryStep) 92 = .ok (.iastore, 1) := by decide +kernel
theorem d_w_tryStep_93 : decode (ch_bc m_w_tryStep) 93 = .ok (.aload_n 0, 1) := by decide +kernel
theorem d_w_tryStep_94 : decode (ch_bc m_w_tryStep) 94 = .ok (.getfield 18, 3) := by decide +kernel
theorem d_w_tryStep_97 : decode (ch_bc m_w_tryStep) 97 = .ok (.iload_n 3, 1) := by decide +kernel
theorem d_w_tryStep_98 : decode (ch_bc m_w_tryStep) 98 = .ok (.iload 4, 2) := by decide +kernel
theorem d_w_tryStep_100 : decode (ch_bc m_w_tryStep) 100 = .ok (.iastore, 1) := by decide +kernel
theorem d_w_tryStep_101 : decode (ch_bc m_w_tryStep) 101 = .ok (.return_, 1) := by decide +kernel
theorem d_w_tellBest_0 : decode (ch_bc m_w_tellBest) 0 = .ok (.aload_n 1, 1) := by decide +kernel
theorem d_w_tellBest_1 : decode (ch_bc m_w_tellBest) 1 = .ok (.iconst 0, 1) := by decide +kernel
theorem d_w_tellBest_2 : decode (ch_bc m_w_tellBest) 2 = .ok (.putfield 29, 3) := by decide +kernel
theorem d_w_tellBest_5 : decode (ch_bc m_w_tellBest) 5 = .ok (.iconst 0, 1) := by decide +kernel
theorem d_w_tellBest_6 : decode (ch_bc m_w_tellBest) 6 = .ok (.istore_n 2, 1) := by decide +kernel
theorem d_w_tellBest_7 : decode (ch_bc m_w_tellBest) 7 = .ok (.iconst 0, 1) := by decide +kernel
theorem d_w_tellBest_8 : decode (ch_bc m_w_tellBest) 8 = .ok (.istore_n 3, 1) := by decide +kernel
theorem d_w_tellBest_9 : decode (ch_bc m_w_tellBest) 9 = .ok (.iload_n 3, 1) := by decide +kernel
theorem d_w_tellBest_10 : decode (ch_bc m_w_tellBest) 10 = .ok (.bipush 12, 2) := by decide +kernel
theorem d_w_tellBest_12 : decode (ch_bc m_w_tellBest) 12 = .ok (.if_icmp .ge 34, 3) := by decide +kernel
theorem d_w_tellBest_15 : decode (ch_bc m_w_tellBest) 15 = .ok (.iload_n 2, 1) := by decide +kernel
theorem d_w_tellBest_16 : decode (ch_bc m_w_tellBest) 16 = .ok (.bipush 12, 2) := by decide +kernel
theorem d_w_tellBest_18 : decode (ch_bc m_w_tellBest) 18 = .ok (.if_icmp .ge 28, 3) := by decide +kernel
theorem d_w_tellBest_21 : decode (ch_bc m_w_tellBest) 21 = .ok (.aload_n 1, 1) := by decide +kernel
theorem d_w_tellBest_22 : decode (ch_bc m_w_tellBest) 22 = .ok (.aload_n 0, 1) := by decide +kernel
theorem d_w_tellBest_23 : decode (ch_bc m_w_tellBest) 23 = .ok (.getfield 18, 3) := by decide +kernel
theorem d_w_tellBest_26 : decode (ch_bc m_w_tellBest) 26 = .ok (.iload_n 2, 1) := by decide +kernel
theorem d_w_tellBest_27 : decode (ch_bc m_w_tellBest) 27 = .ok (.iaload, 1) := by decide +kernel
theorem d_w_tellBest_28 : decode (ch_bc m_w_tellBest) 28 = .ok (.invokevirtual 35, 3) := by decide +kernel
theorem d_w_tellBest_31 : decode (ch_bc m_w_tellBest) 31 = .ok (.iload_n 2, 1) := by decide +kernel
theorem d_w_tellBest_32 : decode (ch_bc m_w_tellBest) 32 = .ok (.aload_n 0, 1) := by decide +kernel
theorem d_w_tellBest_33 : decode (ch_bc m_w_tellBest) 33 = .ok (.getfield 18, 3) := by decide +kernel
theorem d_w_tellBest_36 : decode (ch_bc m_w_tellBest) 36 = .ok (.iload_n 2, 1) := by decide +kernel
theorem d_w_tellBest_37 : decode (ch_bc m_w_tellBest) 37 = .ok (.iaload, 1) := by decide +kernel
theorem d_w_tellBest_38 : decode (ch_bc m_w_tellBest) 38 = .ok (.iadd, 1) := by decide +kernel
theorem d_w_tellBest_39 : decode (ch_bc m_w_tellBest) 39 = .ok (.istore_n 2, 1) := by decide +kernel
theorem d_w_tellBest_40 : decode (ch_bc m_w_tellBest) 40 = .ok (.iinc 3 1, 3) := by decide +kernel
theorem d_w_tellBest_43 : decode (ch_bc m_w_tellBest) 43 = .ok (.goto (-34), 3) := by decide +kernel
theorem d_w_tellBest_46 : decode (ch_bc m_w_tellBest) 46 = .ok (.return_, 1) := by decide +kernel
theorem d_w_fewestOn_0 : decode (ch_bc m_w_fewestOn) 0 = .ok (.aload_n 0, 1) := by decide +kernel
theorem d_w_fewestOn_1 : decode (ch_bc m_w_fewestOn) 1 = .ok (.getfield 11, 3) := by decide +kernel
theorem d_w_fewestOn_4 : decode (ch_bc m_w_fewestOn) 4 = .ok (.iconst 0, 1) := by decide +kernel
theorem d_w_fewestOn_5 : decode (ch_bc m_w_fewestOn) 5 = .ok (.iconst 0, 1) := by decide +kernel
theorem d_w_fewestOn_6 : decode (ch_bc m_w_fewestOn) 6 = .ok (.iastore, 1) := by decide +kernel
theorem d_w_fewestOn_7 : decode (ch_bc m_w_fewestOn) 7 = .ok (.bipush 12, 2) := by decide +kernel
theorem d_w_fewestOn_9 : decode (ch_bc m_w_fewestOn) 9 = .ok (.istore_n 3, 1) := by decide +kernel
theorem d_w_fewestOn_10 : decode (ch_bc m_w_fewestOn) 10 = .ok (.iconst 1, 1) := by decide +kernel
theorem d_w_fewestOn_11 : decode (ch_bc m_w_fewestOn) 11 = .ok (.istore 4, 2) := by decide +kernel
theorem d_w_fewestOn_13 : decode (ch_bc m_w_fewestOn) 13 = .ok (.iload 4, 2) := by decide +kernel
theorem d_w_fewestOn_15 : decode (ch_bc m_w_fewestOn) 15 = .ok (.bipush 15, 2) := by decide +kernel
theorem d_w_fewestOn_17 : decode (ch_bc m_w_fewestOn) 17 = .ok (.if_icmp .ge 98, 3) := by decide +kernel
theorem d_w_fewestOn_20 : decode (ch_bc m_w_fewestOn) 20 = .ok (.bipush 12, 2) := by decide +kernel
theorem d_w_fewestOn_22 : decode (ch_bc m_w_fewestOn) 22 = .ok (.istore 5, 2) := by decide +kernel
theorem d_w_fewestOn_24 : decode (ch_bc m_w_fewestOn) 24 = .ok (.iload 4, 2) := by decide +kernel
theorem d_w_fewestOn_26 : decode (ch_bc m_w_fewestOn) 26 = .ok (.iconst 3, 1) := by decide +kernel
theorem d_w_fewestOn_27 : decode (ch_bc m_w_fewestOn) 27 = .ok (.isub, 1) := by decide +kernel
theorem d_w_fewestOn_28 : decode (ch_bc m_w_fewestOn) 28 = .ok (.iconst 0, 1) := by decide +kernel
theorem d_w_fewestOn_29 : decode (ch_bc m_w_fewestOn) 29 = .ok (.invokestatic 39, 3) := by decide +kernel
theorem d_w_fewestOn_32 : decode (ch_bc m_w_fewestOn) 32 = .ok (.istore 6, 2) := by decide +kernel
theorem d_w_fewestOn_34 : decode (ch_bc m_w_fewestOn) 34 = .ok (.iload 6, 2) := by decide +kernel
theorem d_w_fewestOn_36 : decode (ch_bc m_w_fewestOn) 36 = .ok (.iload 4, 2) := by decide +kernel
theorem d_w_fewestOn_38 : decode (ch_bc m_w_fewestOn) 38 = .ok (.if_icmp .ge 30, 3) := by decide +kernel
theorem d_w_fewestOn_41 : decode (ch_bc m_w_fewestOn) 41 = .ok (.iload 6, 2) := by decide +kernel
theorem d_w_fewestOn_43 : decode (ch_bc m_w_fewestOn) 43 = .ok (.bipush 12, 2) := by decide +kernel
theorem d_w_fewestOn_45 : decode (ch_bc m_w_fewestOn) 45 = .ok (.if_icmp .ge 23, 3) := by decide +kernel
theorem d_w_fewestOn_48 : decode (ch_bc m_w_fewestOn) 48 = .ok (.iload 5, 2) := by decide +kernel
theorem d_w_fewestOn_50 : decode (ch_bc m_w_fewestOn) 50 = .ok (.aload_n 0, 1) := by decide +kernel
theorem d_w_fewestOn_51 : decode (ch_bc m_w_fewestOn) 51 = .ok (.getfield 11, 3) := by decide +kernel
theorem d_w_fewestOn_54 : decode (ch_bc m_w_fewestOn) 54 = .ok (.iload 6, 2) := by decide +kernel
theorem d_w_fewestOn_56 : decode (ch_bc m_w_fewestOn) 56 = .ok (.iaload, 1) := by decide +kernel
theorem d_w_fewestOn_57 : decode (ch_bc m_w_fewestOn) 57 = .ok (.invokestatic 45, 3) := by decide +kernel
theorem d_w_fewestOn_60 : decode (ch_bc m_w_fewestOn) 60 = .ok (.istore 5, 2) := by decide +kernel
theorem d_w_fewestOn_62 : decode (ch_bc m_w_fewestOn) 62 = .ok (.iinc 6 1, 3) := by decide +kernel
theorem d_w_fewestOn_65 : decode (ch_bc m_w_fewestOn) 65 = .ok (.goto (-31), 3) := by decide +kernel
theorem d_w_fewestOn_68 : decode (ch_bc m_w_fewestOn) 68 = .ok (.aload_n 0, 1) := by decide +kernel
theorem d_w_fewestOn_69 : decode (ch_bc m_w_fewestOn) 69 = .ok (.getfield 11, 3) := by decide +kernel
theorem d_w_fewestOn_72 : decode (ch_bc m_w_fewestOn) 72 = .ok (.iload 4, 2) := by decide +kernel
theorem d_w_fewestOn_74 : decode (ch_bc m_w_fewestOn) 74 = .ok (.iload 5, 2) := by decide +kernel
theorem d_w_fewestOn_76 : decode (ch_bc m_w_fewestOn) 76 = .ok (.aload_n 0, 1) := by decide +kernel
theorem d_w_fewestOn_77 : decode (ch_bc m_w_fewestOn) 77 = .ok (.aload_n 1, 1) := by decide +kernel
theorem d_w_fewestOn_78 : decode (ch_bc m_w_fewestOn) 78 = .ok (.iload_n 2, 1) := by decide +kernel
theorem d_w_fewestOn_79 : decode (ch_bc m_w_fewestOn) 79 = .ok (.iload 4, 2) := by decide +kernel
theorem d_w_fewestOn_81 : decode (ch_bc m_w_fewestOn) 81 = .ok (.invokevirtual 25, 3) := by decide +kernel
theorem d_w_fewestOn_84 : decode (ch_bc m_w_fewestOn) 84 = .ok (.iadd, 1) := by decide +kernel
theorem d_w_fewestOn_85 : decode (ch_bc m_w_fewestOn) 85 = .ok (.iastore, 1) := by decide +kernel
theorem d_w_fewestOn_86 : decode (ch_bc m_w_fewestOn) 86 = .ok (.iload 4, 2) := by decide +kernel
theorem d_w_fewestOn_88 : decode (ch_bc m_w_fewestOn) 88 = .ok (.bipush 12, 2) := by decide +kernel
theorem d_w_fewestOn_90 : decode (ch_bc m_w_fewestOn) 90 = .ok (.if_icmp .lt 17, 3) := by decide +kernel
theorem d_w_fewestOn_93 : decode (ch_bc m_w_fewestOn) 93 = .ok (.iload_n 3, 1) := by decide +kernel
theorem d_w_fewestOn_94 : decode (ch_bc m_w_fewestOn) 94 = .ok (.aload_n 0, 1) := by decide +kernel
theorem d_w_fewestOn_95 : decode (ch_bc m_w_fewestOn) 95 = .ok (.getfield 11, 3) := by decide +kernel
theorem d_w_fewestOn_98 : decode (ch_bc m_w_fewestOn) 98 = .ok (.iload 4, 2) := by decide +kernel
theorem d_w_fewestOn_100 : decode (ch_bc m_w_fewestOn) 100 = .ok (.iaload, 1) := by decide +kernel
theorem d_w_fewestOn_101 : decode (ch_bc m_w_fewestOn) 101 = .ok (.invokestatic 45, 3) := by decide +kernel
theorem d_w_fewestOn_104 : decode (ch_bc m_w_fewestOn) 104 = .ok (.goto 4, 3) := by decide +kernel
theorem d_w_fewestOn_107 : decode (ch_bc m_w_fewestOn) 107 = .ok (.iload_n 3, 1) := by decide +kernel
theorem d_w_fewestOn_108 : decode (ch_bc m_w_fewestOn) 108 = .ok (.istore_n 3, 1) := by decide +kernel
theorem d_w_fewestOn_109 : decode (ch_bc m_w_fewestOn) 109 = .ok (.iinc 4 1, 3) := by decide +kernel
theorem d_w_fewestOn_112 : decode (ch_bc m_w_fewestOn) 112 = .ok (.goto (-99), 3) := by decide +kernel
theorem d_w_fewestOn_115 : decode (ch_bc m_w_fewestOn) 115 = .ok (.iload_n 3, 1) := by decide +kernel
theorem d_w_fewestOn_116 : decode (ch_bc m_w_fewestOn) 116 = .ok (.ireturn, 1) := by decide +kernel
theorem d_w_lineAt_0 : decode (ch_bc m_w_lineAt) 0 = .ok (.aload_n 1, 1) := by decide +kernel
theorem d_w_lineAt_1 : decode (ch_bc m_w_lineAt) 1 = .ok (.iload_n 2, 1) := by decide +kernel
theorem d_w_lineAt_2 : decode (ch_bc m_w_lineAt) 2 = .ok (.iload_n 3, 1) := by decide +kernel
theorem d_w_lineAt_3 : decode (ch_bc m_w_lineAt) 3 = .ok (.iconst 1, 1) := by decide +kernel
theorem d_w_lineAt_4 : decode (ch_bc m_w_lineAt) 4 = .ok (.isub, 1) := by decide +kernel
theorem d_w_lineAt_5 : decode (ch_bc m_w_lineAt) 5 = .ok (.invokevirtual 48, 3) := by decide +kernel
theorem d_w_lineAt_8 : decode (ch_bc m_w_lineAt) 8 = .ok (.ifCond .eq 7, 3) := by decide +kernel
theorem d_w_lineAt_11 : decode (ch_bc m_w_lineAt) 11 = .ok (.iconst 1, 1) := by decide +kernel
theorem d_w_lineAt_12 : decode (ch_bc m_w_lineAt) 12 = .ok (.goto 4, 3) := by decide +kernel
theorem d_w_lineAt_15 : decode (ch_bc m_w_lineAt) 15 = .ok (.iconst 0, 1) := by decide +kernel
theorem d_w_lineAt_16 : decode (ch_bc m_w_lineAt) 16 = .ok (.ireturn, 1) := by decide +kernel
theorem d_a_append_0 : decode (ch_bc m_a_append) 0 = .ok (.aload_n 0, 1) := by decide +kernel
theorem d_a_append_1 : decode (ch_bc m_a_append) 1 = .ok (.getfield 79, 3) := by decide +kernel
theorem d_a_append_4 : decode (ch_bc m_a_append) 4 = .ok (.istore_n 2, 1) := by decide +kernel
theorem d_a_append_5 : decode (ch_bc m_a_append) 5 = .ok (.iload_n 2, 1) := by decide +kernel
theorem d_a_append_6 : decode (ch_bc m_a_append) 6 = .ok (.iload_n 1, 1) := by decide +kernel
theorem d_a_append_7 : decode (ch_bc m_a_append) 7 = .ok (.invokestatic 245, 3) := by decide +kernel
theorem d_a_append_10 : decode (ch_bc m_a_append) 10 = .ok (.iadd, 1) := by decide +kernel
theorem d_a_append_11 : decode (ch_bc m_a_append) 11 = .ok (.istore_n 3, 1) := by decide +kernel
theorem d_a_append_12 : decode (ch_bc m_a_append) 12 = .ok (.aload_n 0, 1) := by decide +kernel
theorem d_a_append_13 : decode (ch_bc m_a_append) 13 = .ok (.iload_n 3, 1) := by decide +kernel
theorem d_a_append_14 : decode (ch_bc m_a_append) 14 = .ok (.invokevirtual 100, 3) := by decide +kernel
theorem d_a_append_17 : decode (ch_bc m_a_append) 17 = .ok (.aload_n 0, 1) := by decide +kernel
theorem d_a_append_18 : decode (ch_bc m_a_append) 18 = .ok (.invokevirtual 83, 3) := by decide +kernel
theorem d_a_append_21 : decode (ch_bc m_a_append) 21 = .ok (.ifCond .eq 16, 3) := by decide +kernel
theorem d_a_append_24 : decode (ch_bc m_a_append) 24 = .ok (.iload_n 1, 1) := by decide +kernel
theorem d_a_append_25 : decode (ch_bc m_a_append) 25 = .ok (.iload_n 3, 1) := by decide +kernel
theorem d_a_append_26 : decode (ch_bc m_a_append) 26 = .ok (.aload_n 0, 1) := by decide +kernel
theorem d_a_append_27 : decode (ch_bc m_a_append) 27 = .ok (.getfield 15, 3) := by decide +kernel
theorem d_a_append_30 : decode (ch_bc m_a_append) 30 = .ok (.invokestatic 248, 3) := by decide +kernel
theorem d_a_append_33 : decode (ch_bc m_a_append) 33 = .ok (.pop, 1) := by decide +kernel
theorem d_a_append_34 : decode (ch_bc m_a_append) 34 = .ok (.goto 14, 3) := by decide +kernel
theorem d_a_append_37 : decode (ch_bc m_a_append) 37 = .ok (.iload_n 1, 1) := by decide +kernel
theorem d_a_append_38 : decode (ch_bc m_a_append) 38 = .ok (.iload_n 2, 1) := by decide +kernel
theorem d_a_append_39 : decode (ch_bc m_a_append) 39 = .ok (.iload_n 3, 1) := by decide +kernel
theorem d_a_append_40 : decode (ch_bc m_a_append) 40 = .ok (.aload_n 0, 1) := by decide +kernel
theorem d_a_append_41 : decode (ch_bc m_a_append) 41 = .ok (.getfield 15, 3) := by decide +kernel
theorem d_a_append_44 : decode (ch_bc m_a_append) 44 = .ok (.invokestatic 251, 3) := by decide +kernel
theorem d_a_append_47 : decode (ch_bc m_a_append) 47 = .ok (.pop, 1) := by decide +kernel
theorem d_a_append_48 : decode (ch_bc m_a_append) 48 = .ok (.aload_n 0, 1) := by decide +kernel
theorem d_a_append_49 : decode (ch_bc m_a_append) 49 = .ok (.iload_n 3, 1) := by decide +kernel
theorem d_a_append_50 : decode (ch_bc m_a_append) 50 = .ok (.putfield 79, 3) := by decide +kernel
theorem d_a_append_53 : decode (ch_bc m_a_append) 53 = .ok (.aload_n 0, 1) := by decide +kernel
theorem d_a_append_54 : decode (ch_bc m_a_append) 54 = .ok (.areturn, 1) := by decide +kernel
theorem d_a_append2_0 : decode (ch_bc m_a_append2) 0 = .ok (.aload_n 1, 1) := by decide +kernel
theorem d_a_append2_1 : decode (ch_bc m_a_append2) 1 = .ok (.ifnonnull 8, 3) := by decide +kernel
theorem d_a_append2_4 : decode (ch_bc m_a_append2) 4 = .ok (.aload_n 0, 1) := by decide +kernel
theorem d_a_append2_5 : decode (ch_bc m_a_append2) 5 = .ok (.invokevirtual 204, 3) := by decide +kernel
theorem d_a_append2_8 : decode (ch_bc m_a_append2) 8 = .ok (.areturn, 1) := by decide +kernel
theorem d_a_append2_9 : decode (ch_bc m_a_append2) 9 = .ok (.aload_n 1, 1) := by decide +kernel
theorem d_a_append2_10 : decode (ch_bc m_a_append2) 10 = .ok (.invokevirtual 32, 3) := by decide +kernel
theorem d_a_append2_13 : decode (ch_bc m_a_append2) 13 = .ok (.istore_n 2, 1) := by decide +kernel
theorem d_a_append2_14 : decode (ch_bc m_a_append2) 14 = .ok (.aload_n 0, 1) := by decide +kernel
theorem d_a_append2_15 : decode (ch_bc m_a_append2) 15 = .ok (.aload_n 0, 1) := by decide +kernel
theorem d_a_append2_16 : decode (ch_bc m_a_append2) 16 = .ok (.getfield 79, 3) := by decide +kernel
theorem d_a_append2_19 : decode (ch_bc m_a_append2) 19 = .ok (.iload_n 2, 1) := by decide +kernel
theorem d_a_append2_20 : decode (ch_bc m_a_append2) 20 = .ok (.iadd, 1) := by decide +kernel
theorem d_a_append2_21 : decode (ch_bc m_a_append2) 21 = .ok (.invokevirtual 100, 3) := by decide +kernel
theorem d_a_append2_24 : decode (ch_bc m_a_append2) 24 = .ok (.aload_n 0, 1) := by decide +kernel
theorem d_a_append2_25 : decode (ch_bc m_a_append2) 25 = .ok (.aload_n 0, 1) := by decide +kernel
theorem d_a_append2_26 : decode (ch_bc m_a_append2) 26 = .ok (.getfield 79, 3) := by decide +kernel
theorem d_a_append2_29 : decode (ch_bc m_a_append2) 29 = .ok (.aload_n 1, 1) := by decide +kernel
theorem d_a_append2_30 : decode (ch_bc m_a_append2) 30 = .ok (.invokevirtual 208, 3) := by decide +kernel
theorem d_a_append2_33 : decode (ch_bc m_a_append2) 33 = .ok (.aload_n 0, 1) := by decide +kernel
theorem d_a_append2_34 : decode (ch_bc m_a_append2) 34 = .ok (.dup, 1) := by decide +kernel
theorem d_a_append2_35 : decode (ch_bc m_a_append2) 35 = .ok (.getfield 79, 3) := by decide +kernel
theorem d_a_append2_38 : decode (ch_bc m_a_append2) 38 = .ok (.iload_n 2, 1) := by decide +kernel
theorem d_a_append2_39 : decode (ch_bc m_a_append2) 39 = .ok (.iadd, 1) := by decide +kernel
theorem d_a_append2_40 : decode (ch_bc m_a_append2) 40 = .ok (.putfield 79, 3) := by decide +kernel
theorem d_a_append2_43 : decode (ch_bc m_a_append2) 43 = .ok (.aload_n 0, 1) := by decide +kernel
theorem d_a_append2_44 : decode (ch_bc m_a_append2) 44 = .ok (.areturn, 1) := by decide +kernel
theorem d_a_ensureCapacityInternal_0 : decode (ch_bc m_a_ensureCapacityInternal) 0 = .ok (.aload_n 0, 1) := by decide +kernel
theorem d_a_ensureCapacityInternal_1 : decode (ch_bc m_a_ensureCapacityInternal) 1 = .ok (.getfield 15, 3) := by decide +kernel
theorem d_a_ensureCapacityInternal_4 : decode (ch_bc m_a_ensureCapacityInternal) 4 = .ok (.arraylength, 1) := by decide +kernel
theorem d_a_ensureCapacityInternal_5 : decode (ch_bc m_a_ensureCapacityInternal) 5 = .ok (.aload_n 0, 1) := by decide +kernel
theorem d_a_ensureCapacityInternal_6 : decode (ch_bc m_a_ensureCapacityInternal) 6 = .ok (.getfield 22, 3) := by decide +kernel
theorem d_a_ensureCapacityInternal_9 : decode (ch_bc m_a_ensureCapacityInternal) 9 = .ok (.ishr, 1) := by decide +kernel
theorem d_a_ensureCapacityInternal_10 : decode (ch_bc m_a_ensureCapacityInternal) 10 = .ok (.istore_n 2, 1) := by decide +kernel
theorem d_a_ensureCapacityInternal_11 : decode (ch_bc m_a_ensureCapacityInternal) 11 = .ok (.iload_n 1, 1) := by decide +kernel
theorem d_a_ensureCapacityInternal_12 : decode (ch_bc m_a_ensureCapacityInternal) 12 = .ok (.iload_n 2, 1) := by decide +kernel
theorem d_a_ensureCapacityInternal_13 : decode (ch_bc m_a_ensureCapacityInternal) 13 = .ok (.isub, 1) := by decide +kernel
theorem d_a_ensureCapacityInternal_14 : decode (ch_bc m_a_ensureCapacityInternal) 14 = .ok (.ifCond .le 24, 3) := by decide +kernel
theorem d_a_ensureCapacityInternal_17 : decode (ch_bc m_a_ensureCapacityInternal) 17 = .ok (.aload_n 0, 1) := by decide +kernel
theorem d_a_ensureCapacityInternal_18 : decode (ch_bc m_a_ensureCapacityInternal) 18 = .ok (.aload_n 0, 1) := by decide +kernel
theorem d_a_ensureCapacityInternal_19 : decode (ch_bc m_a_ensureCapacityInternal) 19 = .ok (.getfield 15, 3) := by decide +kernel
theorem d_a_ensureCapacityInternal_22 : decode (ch_bc m_a_ensureCapacityInternal) 22 = .ok (.aload_n 0, 1) := by decide +kernel
theorem d_a_ensureCapacityInternal_23 : decode (ch_bc m_a_ensureCapacityInternal) 23 = .ok (.iload_n 1, 1) := by decide +kernel
theorem d_a_ensureCapacityInternal_24 : decode (ch_bc m_a_ensureCapacityInternal) 24 = .ok (.invokevirtual 104, 3) := by decide +kernel
theorem d_a_ensureCapacityInternal_27 : decode (ch_bc m_a_ensureCapacityInternal) 27 = .ok (.aload_n 0, 1) := by decide +kernel
theorem d_a_ensureCapacityInternal_28 : decode (ch_bc m_a_ensureCapacityInternal) 28 = .ok (.getfield 22, 3) := by decide +kernel
theorem d_a_ensureCapacityInternal_31 : decode (ch_bc m_a_ensureCapacityInternal) 31 = .ok (.ishl, 1) := by decide +kernel
theorem d_a_ensureCapacityInternal_32 : decode (ch_bc m_a_ensureCapacityInternal) 32 = .ok (.invokestatic 108, 3) := by decide +kernel
theorem d_a_ensureCapacityInternal_35 : decode (ch_bc m_a_ensureCapacityInternal) 35 = .ok (.putfield 15, 3) := by decide +kernel
theorem d_a_ensureCapacityInternal_38 : decode (ch_bc m_a_ensureCapacityInternal) 38 = .ok (.return_, 1) := by decide +kernel
theorem d_a_getValue_0 : decode (ch_bc m_a_getValue) 0 = .ok (.aload_n 0, 1) := by decide +kernel
theorem d_a_getValue_1 : decode (ch_bc m_a_getValue) 1 = .ok (.getfield 15, 3) := by decide +kernel
theorem d_a_getValue_4 : decode (ch_bc m_a_getValue) 4 = .ok (.areturn, 1) := by decide +kernel
theorem d_a_inflateIfNeededFor_0 : decode (ch_bc m_a_inflateIfNeededFor) 0 = .ok (.getstatic 18, 3) := by decide +kernel
theorem d_a_inflateIfNeededFor_3 : decode (ch_bc m_a_inflateIfNeededFor) 3 = .ok (.ifCond .eq 18, 3) := by decide +kernel
theorem d_a_inflateIfNeededFor_6 : decode (ch_bc m_a_inflateIfNeededFor) 6 = .ok (.aload_n 0, 1) := by decide +kernel
theorem d_a_inflateIfNeededFor_7 : decode (ch_bc m_a_inflateIfNeededFor) 7 = .ok (.getfield 22, 3) := by decide +kernel
theorem d_a_inflateIfNeededFor_10 : decode (ch_bc m_a_inflateIfNeededFor) 10 = .ok (.aload_n 1, 1) := by decide +kernel
theorem d_a_inflateIfNeededFor_11 : decode (ch_bc m_a_inflateIfNeededFor) 11 = .ok (.invokevirtual 40, 3) := by decide +kernel
theorem d_a_inflateIfNeededFor_14 : decode (ch_bc m_a_inflateIfNeededFor) 14 = .ok (.if_icmp .eq 7, 3) := by decide +kernel
theorem d_a_inflateIfNeededFor_17 : decode (ch_bc m_a_inflateIfNeededFor) 17 = .ok (.aload_n 0, 1) := by decide +kernel
theorem d_a_inflateIfNeededFor_18 : decode (ch_bc m_a_inflateIfNeededFor) 18 = .ok (.invokevirtual 195, 3) := by decide +kernel
theorem d_a_inflateIfNeededFor_21 : decode (ch_bc m_a_inflateIfNeededFor) 21 = .ok (.return_, 1) := by decide +kernel
theorem d_a_isLatin1_0 : decode (ch_bc m_a_isLatin1) 0 = .ok (.getstatic 18, 3) := by decide +kernel
theorem d_a_isLatin1_3 : decode (ch_bc m_a_isLatin1) 3 = .ok (.ifCond .eq 14, 3) := by decide +kernel
theorem d_a_isLatin1_6 : decode (ch_bc m_a_isLatin1) 6 = .ok (.aload_n 0, 1) := by decide +kernel
theorem d_a_isLatin1_7 : decode (ch_bc m_a_isLatin1) 7 = .ok (.getfield 22, 3) := by decide +kernel
theorem d_a_isLatin1_10 : decode (ch_bc m_a_isLatin1) 10 = .ok (.ifCond .ne 7, 3) := by decide +kernel
theorem d_a_isLatin1_13 : decode (ch_bc m_a_isLatin1) 13 = .ok (.iconst 1, 1) := by decide +kernel
theorem d_a_isLatin1_14 : decode (ch_bc m_a_isLatin1) 14 = .ok (.goto 4, 3) := by decide +kernel
theorem d_a_isLatin1_17 : decode (ch_bc m_a_isLatin1) 17 = .ok (.iconst 0, 1) := by decide +kernel
theorem d_a_isLatin1_18 : decode (ch_bc m_a_isLatin1) 18 = .ok (.ireturn, 1) := by decide +kernel
theorem d_a_length_0 : decode (ch_bc m_a_length) 0 = .ok (.aload_n 0, 1) := by decide +kernel
theorem d_a_length_1 : decode (ch_bc m_a_length) 1 = .ok (.getfield 79, 3) := by decide +kernel
theorem d_a_length_4 : decode (ch_bc m_a_length) 4 = .ok (.ireturn, 1) := by decide +kernel
theorem d_a_putStringAt_0 : decode (ch_bc m_a_putStringAt) 0 = .ok (.aload_n 0, 1) := by decide +kernel
theorem d_a_putStringAt_1 : decode (ch_bc m_a_putStringAt) 1 = .ok (.aload_n 2, 1) := by decide +kernel
theorem d_a_putStringAt_2 : decode (ch_bc m_a_putStringAt) 2 = .ok (.invokevirtual 397, 3) := by decide +kernel
theorem d_a_putStringAt_5 : decode (ch_bc m_a_putStringAt) 5 = .ok (.aload_n 2, 1) := by decide +kernel
theorem d_a_putStringAt_6 : decode (ch_bc m_a_putStringAt) 6 = .ok (.aload_n 0, 1) := by decide +kernel
theorem d_a_putStringAt_7 : decode (ch_bc m_a_putStringAt) 7 = .ok (.getfield 15, 3) := by decide +kernel
theorem d_a_putStringAt_10 : decode (ch_bc m_a_putStringAt) 10 = .ok (.iload_n 1, 1) := by decide +kernel
theorem d_a_putStringAt_11 : decode (ch_bc m_a_putStringAt) 11 = .ok (.aload_n 0, 1) := by decide +kernel
theorem d_a_putStringAt_12 : decode (ch_bc m_a_putStringAt) 12 = .ok (.getfield 22, 3) := by decide +kernel
theorem d_a_putStringAt_15 : decode (ch_bc m_a_putStringAt) 15 = .ok (.invokevirtual 399, 3) := by decide +kernel
theorem d_a_putStringAt_18 : decode (ch_bc m_a_putStringAt) 18 = .ok (.return_, 1) := by decide +kernel
theorem d_u_doubleToLongBits_0 : decode (ch_bc m_u_doubleToLongBits) 0 = .ok (.dload_n 0, 1) := by decide +kernel
theorem d_u_doubleToLongBits_1 : decode (ch_bc m_u_doubleToLongBits) 1 = .ok (.invokestatic 122, 3) := by decide +kernel
theorem d_u_doubleToLongBits_4 : decode (ch_bc m_u_doubleToLongBits) 4 = .ok (.ifCond .ne 8, 3) := by decide +kernel
theorem d_u_doubleToLongBits_7 : decode (ch_bc m_u_doubleToLongBits) 7 = .ok (.dload_n 0, 1) := by decide +kernel
theorem d_u_doubleToLongBits_8 : decode (ch_bc m_u_doubleToLongBits) 8 = .ok (.invokestatic 134, 3) := by decide +kernel
theorem d_u_doubleToLongBits_11 : decode (ch_bc m_u_doubleToLongBits) 11 = .ok (.lreturn, 1) := by decide +kernel
theorem d_u_doubleToLongBits_12 : decode (ch_bc m_u_doubleToLongBits) 12 = .ok (.ldc2_w 137, 3) := by decide +kernel
theorem d_u_doubleToLongBits_15 : decode (ch_bc m_u_doubleToLongBits) 15 = .ok (.lreturn, 1) := by decide +kernel
theorem d_u_isNaN_0 : decode (ch_bc m_u_isNaN) 0 = .ok (.dload_n 0, 1) := by decide +kernel
theorem d_u_isNaN_1 : decode (ch_bc m_u_isNaN) 1 = .ok (.dload_n 0, 1) := by decide +kernel
theorem d_u_isNaN_2 : decode (ch_bc m_u_isNaN) 2 = .ok (.dcmp .l, 1) := by decide +kernel
theorem d_u_isNaN_3 : decode (ch_bc m_u_isNaN) 3 = .ok (.ifCond .eq 7, 3) := by decide +kernel
theorem d_u_isNaN_6 : decode (ch_bc m_u_isNaN) 6 = .ok (.iconst 1, 1) := by decide +kernel
theorem d_u_isNaN_7 : decode (ch_bc m_u_isNaN) 7 = .ok (.goto 4, 3) := by decide +kernel
theorem d_u_isNaN_10 : decode (ch_bc m_u_isNaN) 10 = .ok (.iconst 0, 1) := by decide +kernel
theorem d_u_isNaN_11 : decode (ch_bc m_u_isNaN) 11 = .ok (.ireturn, 1) := by decide +kernel
theorem d_f_floatToIntBits_0 : decode (ch_bc m_f_floatToIntBits) 0 = .ok (.fload_n 0, 1) := by decide +kernel
theorem d_f_floatToIntBits_1 : decode (ch_bc m_f_floatToIntBits) 1 = .ok (.invokestatic 59, 3) := by decide +kernel
theorem d_f_floatToIntBits_4 : decode (ch_bc m_f_floatToIntBits) 4 = .ok (.ifCond .ne 8, 3) := by decide +kernel
theorem d_f_floatToIntBits_7 : decode (ch_bc m_f_floatToIntBits) 7 = .ok (.fload_n 0, 1) := by decide +kernel
theorem d_f_floatToIntBits_8 : decode (ch_bc m_f_floatToIntBits) 8 = .ok (.invokestatic 74, 3) := by decide +kernel
theorem d_f_floatToIntBits_11 : decode (ch_bc m_f_floatToIntBits) 11 = .ok (.ireturn, 1) := by decide +kernel
theorem d_f_floatToIntBits_12 : decode (ch_bc m_f_floatToIntBits) 12 = .ok (.ldc 77, 2) := by decide +kernel
theorem d_f_floatToIntBits_14 : decode (ch_bc m_f_floatToIntBits) 14 = .ok (.ireturn, 1) := by decide +kernel
theorem d_f_isNaN_0 : decode (ch_bc m_f_isNaN) 0 = .ok (.fload_n 0, 1) := by decide +kernel
theorem d_f_isNaN_1 : decode (ch_bc m_f_isNaN) 1 = .ok (.fload_n 0, 1) := by decide +kernel
theorem d_f_isNaN_2 : decode (ch_bc m_f_isNaN) 2 = .ok (.fcmp .l, 1) := by decide +kernel
theorem d_f_isNaN_3 : decode (ch_bc m_f_isNaN) 3 = .ok (.ifCond .eq 7, 3) := by decide +kernel
theorem d_f_isNaN_6 : decode (ch_bc m_f_isNaN) 6 = .ok (.iconst 1, 1) := by decide +kernel
theorem d_f_isNaN_7 : decode (ch_bc m_f_isNaN) 7 = .ok (.goto 4, 3) := by decide +kernel
theorem d_f_isNaN_10 : decode (ch_bc m_f_isNaN) 10 = .ok (.iconst 0, 1) := by decide +kernel
theorem d_f_isNaN_11 : decode (ch_bc m_f_isNaN) 11 = .ok (.ireturn, 1) := by decide +kernel
theorem d_i_getChars_0 : decode (ch_bc m_i_getChars) 0 = .ok (.iload_n 1, 1) := by decide +kernel
theorem d_i_getChars_1 : decode (ch_bc m_i_getChars) 1 = .ok (.istore 5, 2) := by decide +kernel
theorem d_i_getChars_3 : decode (ch_bc m_i_getChars) 3 = .ok (.iload_n 0, 1) := by decide +kernel
theorem d_i_getChars_4 : decode (ch_bc m_i_getChars) 4 = .ok (.ifCond .ge 7, 3) := by decide +kernel
theorem d_i_getChars_7 : decode (ch_bc m_i_getChars) 7 = .ok (.iconst 1, 1) := by decide +kernel
theorem d_i_getChars_8 : decode (ch_bc m_i_getChars) 8 = .ok (.goto 4, 3) := by decide +kernel
theorem d_i_getChars_11 : decode (ch_bc m_i_getChars) 11 = .ok (.iconst 0, 1) := by decide +kernel
theorem d_i_getChars_12 : decode (ch_bc m_i_getChars) 12 = .ok (.istore 6, 2) := by decide +kernel
theorem d_i_getChars_14 : decode (ch_bc m_i_getChars) 14 = .ok (.iload 6, 2) := by decide +kernel
theorem d_i_getChars_16 : decode (ch_bc m_i_getChars) 16 = .ok (.ifCond .ne 6, 3) := by decide +kernel
theorem d_i_getChars_19 : decode (ch_bc m_i_getChars) 19 = .ok (.iload_n 0, 1) := by decide +kernel
theorem d_i_getChars_20 : decode (ch_bc m_i_getChars) 20 = .ok (.ineg, 1) := by decide +kernel
theorem d_i_getChars_21 : decode (ch_bc m_i_getChars) 21 = .ok (.istore_n 0, 1) := by decide +kernel
theorem d_i_getChars_22 : decode (ch_bc m_i_getChars) 22 = .ok (.iload_n 0, 1) := by decide +kernel
theorem d_i_getChars_23 : decode (ch_bc m_i_getChars) 23 = .ok (.bipush (-100), 2) := by decide +kernel
theorem d_i_getChars_25 : decode (ch_bc m_i_getChars) 25 = .ok (.if_icmp .gt 47, 3) := by decide +kernel
theorem d_i_getChars_28 : decode (ch_bc m_i_getChars) 28 = .ok (.iload_n 0, 1) := by decide +kernel
theorem d_i_getChars_29 : decode (ch_bc m_i_getChars) 29 = .ok (.bipush 100, 2) := by decide +kernel
theorem d_i_getChars_31 : decode (ch_bc m_i_getChars) 31 = .ok (.idiv, 1) := by decide +kernel
theorem d_i_getChars_32 : decode (ch_bc m_i_getChars) 32 = .ok (.istore_n 3, 1) := by decide +kernel
theorem d_i_getChars_33 : decode (ch_bc m_i_getChars) 33 = .ok (.iload_n 3, 1) := by decide +kernel
theorem d_i_getChars_34 : decode (ch_bc m_i_getChars) 34 = .ok (.bipush 100, 2) := by decide +kernel
theorem d_i_getChars_36 : decode (ch_bc m_i_getChars) 36 = .ok (.imul, 1) := by decide +kernel
theorem d_i_getChars_37 : decode (ch_bc m_i_getChars) 37 = .ok (.iload_n 0, 1) := by decide +kernel
theorem d_i_getChars_38 : decode (ch_bc m_i_getChars) 38 = .ok (.isub, 1) := by decide +kernel
theorem d_i_getChars_39 : decode (ch_bc m_i_getChars) 39 = .ok (.istore 4, 2) := by decide +kernel
theorem d_i_getChars_41 : decode (ch_bc m_i_getChars) 41 = .ok (.iload_n 3, 1) := by decide +kernel
theorem d_i_getChars_42 : decode (ch_bc m_i_getChars) 42 = .ok (.istore_n 0, 1) := by decide +kernel
theorem d_i_getChars_43 : decode (ch_bc m_i_getChars) 43 = .ok (.aload_n 2, 1) := by decide +kernel
theorem d_i_getChars_44 : decode (ch_bc m_i_getChars) 44 = .ok (.iinc 5 (-1), 3) := by decide +kernel
theorem d_i_getChars_47 : decode (ch_bc m_i_getChars) 47 = .ok (.iload 5, 2) := by decide +kernel
theorem d_i_getChars_49 : decode (ch_bc m_i_getChars) 49 = .ok (.getstatic 83, 3) := by decide +kernel
theorem d_i_getChars_52 : decode (ch_bc m_i_getChars) 52 = .ok (.iload 4, 2) := by decide +kernel
theorem d_i_getChars_54 : decode (ch_bc m_i_getChars) 54 = .ok (.baload, 1) := by decide +kernel
theorem d_i_getChars_55 : decode (ch_bc m_i_getChars) 55 = .ok (.bastore, 1) := by decide +kernel
theorem d_i_getChars_56 : decode (ch_bc m_i_getChars) 56 = .ok (.aload_n 2, 1) := by decide +kernel
theorem d_i_getChars_57 : decode (ch_bc m_i_getChars) 57 = .ok (.iinc 5 (-1), 3) := by decide +kernel
theorem d_i_getChars_60 : decode (ch_bc m_i_getChars) 60 = .ok (.iload 5, 2) := by decide +kernel
theorem d_i_getChars_62 : decode (ch_bc m_i_getChars) 62 = .ok (.getstatic 87, 3) := by decide +kernel
theorem d_i_getChars_65 : decode (ch_bc m_i_getChars) 65 = .ok (.iload 4, 2) := by decide +kernel
theorem d_i_getChars_67 : decode (ch_bc m_i_getChars) 67 = .ok (.baload, 1) := by decide +kernel
theorem d_i_getChars_68 : decode (ch_bc m_i_getChars) 68 = .ok (.bastore, 1) := by decide +kernel
theorem d_i_getChars_69 : decode (ch_bc m_i_getChars) 69 = .ok (.goto (-47), 3) := by decide +kernel
theorem d_i_getChars_72 : decode (ch_bc m_i_getChars) 72 = .ok (.aload_n 2, 1) := by decide +kernel
theorem d_i_getChars_73 : decode (ch_bc m_i_getChars) 73 = .ok (.iinc 5 (-1), 3) := by decide +kernel
theorem d_i_getChars_76 : decode (ch_bc m_i_getChars) 76 = .ok (.iload 5, 2) := by decide +kernel
theorem d_i_getChars_78 : decode (ch_bc m_i_getChars) 78 = .ok (.getstatic 83, 3) := by decide +kernel
theorem d_i_getChars_81 : decode (ch_bc m_i_getChars) 81 = .ok (.iload_n 0, 1) := by decide +kernel
theorem d_i_getChars_82 : decode (ch_bc m_i_getChars) 82 = .ok (.ineg, 1) := by decide +kernel
theorem d_i_getChars_83 : decode (ch_bc m_i_getChars) 83 = .ok (.baload, 1) := by decide +kernel
theorem d_i_getChars_84 : decode (ch_bc m_i_getChars) 84 = .ok (.bastore, 1) := by decide +kernel
theorem d_i_getChars_85 : decode (ch_bc m_i_getChars) 85 = .ok (.iload_n 0, 1) := by decide +kernel
theorem d_i_getChars_86 : decode (ch_bc m_i_getChars) 86 = .ok (.bipush (-9), 2) := by decide +kernel
theorem d_i_getChars_88 : decode (ch_bc m_i_getChars) 88 = .ok (.if_icmp .ge 16, 3) := by decide +kernel
theorem d_i_getChars_91 : decode (ch_bc m_i_getChars) 91 = .ok (.aload_n 2, 1) := by decide +kernel
theorem d_i_getChars_92 : decode (ch_bc m_i_getChars) 92 = .ok (.iinc 5 (-1), 3) := by decide +kernel
theorem d_i_getChars_95 : decode (ch_bc m_i_getChars) 95 = .ok (.iload 5, 2) := by decide +kernel
theorem d_i_getChars_97 : decode (ch_bc m_i_getChars) 97 = .ok (.getstatic 87, 3) := by decide +kernel
theorem d_i_getChars_100 : decode (ch_bc m_i_getChars) 100 = .ok (.iload_n 0, 1) := by decide +kernel
theorem d_i_getChars_101 : decode (ch_bc m_i_getChars) 101 = .ok (.ineg, 1) := by decide +kernel
theorem d_i_getChars_102 : decode (ch_bc m_i_getChars) 102 = .ok (.baload, 1) := by decide +kernel
theorem d_i_getChars_103 : decode (ch_bc m_i_getChars) 103 = .ok (.bastore, 1) := by decide +kernel
theorem d_i_getChars_104 : decode (ch_bc m_i_getChars) 104 = .ok (.iload 6, 2) := by decide +kernel
theorem d_i_getChars_106 : decode (ch_bc m_i_getChars) 106 = .ok (.ifCond .eq 12, 3) := by decide +kernel
theorem d_i_getChars_109 : decode (ch_bc m_i_getChars) 109 = .ok (.aload_n 2, 1) := by decide +kernel
theorem d_i_getChars_110 : decode (ch_bc m_i_getChars) 110 = .ok (.iinc 5 (-1), 3) := by decide +kernel
theorem d_i_getChars_113 : decode (ch_bc m_i_getChars) 113 = .ok (.iload 5, 2) := by decide +kernel
theorem d_i_getChars_115 : decode (ch_bc m_i_getChars) 115 = .ok (.bipush 45, 2) := by decide +kernel
theorem d_i_getChars_117 : decode (ch_bc m_i_getChars) 117 = .ok (.bastore, 1) := by decide +kernel
theorem d_i_getChars_118 : decode (ch_bc m_i_getChars) 118 = .ok (.iload 5, 2) := by decide +kernel
theorem d_i_getChars_120 : decode (ch_bc m_i_getChars) 120 = .ok (.ireturn, 1) := by decide +kernel
theorem d_i_stringSize_0 : decode (ch_bc m_i_stringSize) 0 = .ok (.iconst 1, 1) := by decide +kernel
theorem d_i_stringSize_1 : decode (ch_bc m_i_stringSize) 1 = .ok (.istore_n 1, 1) := by decide +kernel
theorem d_i_stringSize_2 : decode (ch_bc m_i_stringSize) 2 = .ok (.iload_n 0, 1) := by decide +kernel
theorem d_i_stringSize_3 : decode (ch_bc m_i_stringSize) 3 = .ok (.ifCond .lt 8, 3) := by decide +kernel
theorem d_i_stringSize_6 : decode (ch_bc m_i_stringSize) 6 = .ok (.iconst 0, 1) := by decide +kernel
theorem d_i_stringSize_7 : decode (ch_bc m_i_stringSize) 7 = .ok (.istore_n 1, 1) := by decide +kernel
theorem d_i_stringSize_8 : decode (ch_bc m_i_stringSize) 8 = .ok (.iload_n 0, 1) := by decide +kernel
theorem d_i_stringSize_9 : decode (ch_bc m_i_stringSize) 9 = .ok (.ineg, 1) := by decide +kernel
theorem d_i_stringSize_10 : decode (ch_bc m_i_stringSize) 10 = .ok (.istore_n 0, 1) := by decide +kernel
theorem d_i_stringSize_11 : decode (ch_bc m_i_stringSize) 11 = .ok (.bipush (-10), 2) := by decide +kernel
theorem d_i_stringSize_13 : decode (ch_bc m_i_stringSize) 13 = .ok (.istore_n 2, 1) := by decide +kernel
theorem d_i_stringSize_14 : decode (ch_bc m_i_stringSize) 14 = .ok (.iconst 1, 1) := by decide +kernel
theorem d_i_stringSize_15 : decode (ch_bc m_i_stringSize) 15 = .ok (.istore_n 3, 1) := by decide +kernel
theorem d_i_stringSize_16 : decode (ch_bc m_i_stringSize) 16 = .ok (.iload_n 3, 1) := by decide +kernel
theorem d_i_stringSize_17 : decode (ch_bc m_i_stringSize) 17 = .ok (.bipush 10, 2) := by decide +kernel
theorem d_i_stringSize_19 : decode (ch_bc m_i_stringSize) 19 = .ok (.if_icmp .ge 23, 3) := by decide +kernel
theorem d_i_stringSize_22 : decode (ch_bc m_i_stringSize) 22 = .ok (.iload_n 0, 1) := by decide +kernel
theorem d_i_stringSize_23 : decode (ch_bc m_i_stringSize) 23 = .ok (.iload_n 2, 1) := by decide +kernel
theorem d_i_stringSize_24 : decode (ch_bc m_i_stringSize) 24 = .ok (.if_icmp .le 7, 3) := by decide +kernel
theorem d_i_stringSize_27 : decode (ch_bc m_i_stringSize) 27 = .ok (.iload_n 3, 1) := by decide +kernel
theorem d_i_stringSize_28 : decode (ch_bc m_i_stringSize) 28 = .ok (.iload_n 1, 1) := by decide +kernel
theorem d_i_stringSize_29 : decode (ch_bc m_i_stringSize) 29 = .ok (.iadd, 1) := by decide +kernel
theorem d_i_stringSize_30 : decode (ch_bc m_i_stringSize) 30 = .ok (.ireturn, 1) := by decide +kernel
theorem d_i_stringSize_31 : decode (ch_bc m_i_stringSize) 31 = .ok (.bipush 10, 2) := by decide +kernel
theorem d_i_stringSize_33 : decode (ch_bc m_i_stringSize) 33 = .ok (.iload_n 2, 1) := by decide +kernel
theorem d_i_stringSize_34 : decode (ch_bc m_i_stringSize) 34 = .ok (.imul, 1) := by decide +kernel
theorem d_i_stringSize_35 : decode (ch_bc m_i_stringSize) 35 = .ok (.istore_n 2, 1) := by decide +kernel
theorem d_i_stringSize_36 : decode (ch_bc m_i_stringSize) 36 = .ok (.iinc 3 1, 3) := by decide +kernel
theorem d_i_stringSize_39 : decode (ch_bc m_i_stringSize) 39 = .ok (.goto (-23), 3) := by decide +kernel
theorem d_i_stringSize_42 : decode (ch_bc m_i_stringSize) 42 = .ok (.bipush 10, 2) := by decide +kernel
theorem d_i_stringSize_44 : decode (ch_bc m_i_stringSize) 44 = .ok (.iload_n 1, 1) := by decide +kernel
theorem d_i_stringSize_45 : decode (ch_bc m_i_stringSize) 45 = .ok (.iadd, 1) := by decide +kernel
theorem d_i_stringSize_46 : decode (ch_bc m_i_stringSize) 46 = .ok (.ireturn, 1) := by decide +kernel
theorem d_q_charAt_0 : decode (ch_bc m_q_charAt) 0 = .ok (.aload_n 0, 1) := by decide +kernel
theorem d_q_charAt_1 : decode (ch_bc m_q_charAt) 1 = .ok (.invokevirtual 492, 3) := by decide +kernel
theorem d_q_charAt_4 : decode (ch_bc m_q_charAt) 4 = .ok (.ifCond .eq 12, 3) := by decide +kernel
theorem d_q_charAt_7 : decode (ch_bc m_q_charAt) 7 = .ok (.aload_n 0, 1) := by decide +kernel
theorem d_q_charAt_8 : decode (ch_bc m_q_charAt) 8 = .ok (.getfield 9, 3) := by decide +kernel
theorem d_q_charAt_11 : decode (ch_bc m_q_charAt) 11 = .ok (.iload_n 1, 1) := by decide +kernel
theorem d_q_charAt_12 : decode (ch_bc m_q_charAt) 12 = .ok (.invokestatic 495, 3) := by decide +kernel
theorem d_q_charAt_15 : decode (ch_bc m_q_charAt) 15 = .ok (.ireturn, 1) := by decide +kernel
theorem d_q_charAt_16 : decode (ch_bc m_q_charAt) 16 = .ok (.aload_n 0, 1) := by decide +kernel
theorem d_q_charAt_17 : decode (ch_bc m_q_charAt) 17 = .ok (.getfield 9, 3) := by decide +kernel
theorem d_q_charAt_20 : decode (ch_bc m_q_charAt) 20 = .ok (.iload_n 1, 1) := by decide +kernel
theorem d_q_charAt_21 : decode (ch_bc m_q_charAt) 21 = .ok (.invokestatic 498, 3) := by decide +kernel
theorem d_q_charAt_24 : decode (ch_bc m_q_charAt) 24 = .ok (.ireturn, 1) := by decide +kernel
theorem d_q_checkIndex_0 : decode (ch_bc m_q_checkIndex) 0 = .ok (.iload_n 0, 1) := by decide +kernel
theorem d_q_checkIndex_1 : decode (ch_bc m_q_checkIndex) 1 = .ok (.iload_n 1, 1) := by decide +kernel
theorem d_q_checkIndex_2 : decode (ch_bc m_q_checkIndex) 2 = .ok (.getstatic 1053, 3) := by decide +kernel
theorem d_q_checkIndex_5 : decode (ch_bc m_q_checkIndex) 5 = .ok (.invokestatic 1059, 3) := by decide +kernel
theorem d_q_checkIndex_8 : decode (ch_bc m_q_checkIndex) 8 = .ok (.pop, 1) := by decide +kernel
theorem d_q_checkIndex_9 : decode (ch_bc m_q_checkIndex) 9 = .ok (.return_, 1) := by decide +kernel
theorem d_q_coder_0 : decode (ch_bc m_q_coder) 0 = .ok (.getstatic 38, 3) := by decide +kernel
theorem d_q_coder_3 : decode (ch_bc m_q_coder) 3 = .ok (.ifCond .eq 10, 3) := by decide +kernel
theorem d_q_coder_6 : decode (ch_bc m_q_coder) 6 = .ok (.aload_n 0, 1) := by decide +kernel
theorem d_q_coder_7 : decode (ch_bc m_q_coder) 7 = .ok (.getfield 15, 3) := by decide +kernel
theorem d_q_coder_10 : decode (ch_bc m_q_coder) 10 = .ok (.goto 4, 3) := by decide +kernel
theorem d_q_coder_13 : decode (ch_bc m_q_coder) 13 = .ok (.iconst 1, 1) := by decide +kernel
theorem d_q_coder_14 : decode (ch_bc m_q_coder) 14 = .ok (.ireturn, 1) := by decide +kernel
theorem d_q_getBytes_0 : decode (ch_bc m_q_getBytes) 0 = .ok (.aload_n 0, 1) := by decide +kernel
theorem d_q_getBytes_1 : decode (ch_bc m_q_getBytes) 1 = .ok (.invokevirtual 335, 3) := by decide +kernel
theorem d_q_getBytes_4 : decode (ch_bc m_q_getBytes) 4 = .ok (.iload_n 3, 1) := by decide +kernel
theorem d_q_getBytes_5 : decode (ch_bc m_q_getBytes) 5 = .ok (.if_icmp .ne 23, 3) := by decide +kernel
theorem d_q_getBytes_8 : decode (ch_bc m_q_getBytes) 8 = .ok (.aload_n 0, 1) := by decide +kernel
theorem d_q_getBytes_9 : decode (ch_bc m_q_getBytes) 9 = .ok (.getfield 9, 3) := by decide +kernel
theorem d_q_getBytes_12 : decode (ch_bc m_q_getBytes) 12 = .ok (.iconst 0, 1) := by decide +kernel
theorem d_q_getBytes_13 : decode (ch_bc m_q_getBytes) 13 = .ok (.aload_n 1, 1) := by decide +kernel
theorem d_q_getBytes_14 : decode (ch_bc m_q_getBytes) 14 = .ok (.iload_n 2, 1) := by decide +kernel
theorem d_q_getBytes_15 : decode (ch_bc m_q_getBytes) 15 = .ok (.iload_n 3, 1) := by decide +kernel
theorem d_q_getBytes_16 : decode (ch_bc m_q_getBytes) 16 = .ok (.ishl, 1) := by decide +kernel
theorem d_q_getBytes_17 : decode (ch_bc m_q_getBytes) 17 = .ok (.aload_n 0, 1) := by decide +kernel
theorem d_q_getBytes_18 : decode (ch_bc m_q_getBytes) 18 = .ok (.getfield 9, 3) := by decide +kernel
theorem d_q_getBytes_21 : decode (ch_bc m_q_getBytes) 21 = .ok (.arraylength, 1) := by decide +kernel
theorem d_q_getBytes_22 : decode (ch_bc m_q_getBytes) 22 = .ok (.invokestatic 212, 3) := by decide +kernel
theorem d_q_getBytes_25 : decode (ch_bc m_q_getBytes) 25 = .ok (.goto 18, 3) := by decide +kernel
theorem d_q_getBytes_28 : decode (ch_bc m_q_getBytes) 28 = .ok (.aload_n 0, 1) := by decide +kernel
theorem d_q_getBytes_29 : decode (ch_bc m_q_getBytes) 29 = .ok (.getfield 9, 3) := by decide +kernel
theorem d_q_getBytes_32 : decode (ch_bc m_q_getBytes) 32 = .ok (.iconst 0, 1) := by decide +kernel
theorem d_q_getBytes_33 : decode (ch_bc m_q_getBytes) 33 = .ok (.aload_n 1, 1) := by decide +kernel
theorem d_q_getBytes_34 : decode (ch_bc m_q_getBytes) 34 = .ok (.iload_n 2, 1) := by decide +kernel
theorem d_q_getBytes_35 : decode (ch_bc m_q_getBytes) 35 = .ok (.aload_n 0, 1) := by decide +kernel
theorem d_q_getBytes_36 : decode (ch_bc m_q_getBytes) 36 = .ok (.getfield 9, 3) := by decide +kernel
theorem d_q_getBytes_39 : decode (ch_bc m_q_getBytes) 39 = .ok (.arraylength, 1) := by decide +kernel
theorem d_q_getBytes_40 : decode (ch_bc m_q_getBytes) 40 = .ok (.invokestatic 106, 3) := by decide +kernel
theorem d_q_getBytes_43 : decode (ch_bc m_q_getBytes) 43 = .ok (.return_, 1) := by decide +kernel
theorem d_q_isLatin1_0 : decode (ch_bc m_q_isLatin1) 0 = .ok (.getstatic 38, 3) := by decide +kernel
theorem d_q_isLatin1_3 : decode (ch_bc m_q_isLatin1) 3 = .ok (.ifCond .eq 14, 3) := by decide +kernel
theorem d_q_isLatin1_6 : decode (ch_bc m_q_isLatin1) 6 = .ok (.aload_n 0, 1) := by decide +kernel
theorem d_q_isLatin1_7 : decode (ch_bc m_q_isLatin1) 7 = .ok (.getfield 15, 3) := by decide +kernel
theorem d_q_isLatin1_10 : decode (ch_bc m_q_isLatin1) 10 = .ok (.ifCond .ne 7, 3) := by decide +kernel
theorem d_q_isLatin1_13 : decode (ch_bc m_q_isLatin1) 13 = .ok (.iconst 1, 1) := by decide +kernel
theorem d_q_isLatin1_14 : decode (ch_bc m_q_isLatin1) 14 = .ok (.goto 4, 3) := by decide +kernel
theorem d_q_isLatin1_17 : decode (ch_bc m_q_isLatin1) 17 = .ok (.iconst 0, 1) := by decide +kernel
theorem d_q_isLatin1_18 : decode (ch_bc m_q_isLatin1) 18 = .ok (.ireturn, 1) := by decide +kernel
theorem d_q_length_0 : decode (ch_bc m_q_length) 0 = .ok (.aload_n 0, 1) := by decide +kernel
theorem d_q_length_1 : decode (ch_bc m_q_length) 1 = .ok (.getfield 9, 3) := by decide +kernel
theorem d_q_length_4 : decode (ch_bc m_q_length) 4 = .ok (.arraylength, 1) := by decide +kernel
theorem d_q_length_5 : decode (ch_bc m_q_length) 5 = .ok (.aload_n 0, 1) := by decide +kernel
theorem d_q_length_6 : decode (ch_bc m_q_length) 6 = .ok (.invokevirtual 335, 3) := by decide +kernel
theorem d_q_length_9 : decode (ch_bc m_q_length) 9 = .ok (.ishr, 1) := by decide +kernel
theorem d_q_length_10 : decode (ch_bc m_q_length) 10 = .ok (.ireturn, 1) := by decide +kernel
theorem d_b_append_0 : decode (ch_bc m_b_append) 0 = .ok (.aload_n 0, 1) := by decide +kernel
theorem d_b_append_1 : decode (ch_bc m_b_append) 1 = .ok (.iload_n 1, 1) := by decide +kernel
theorem d_b_append_2 : decode (ch_bc m_b_append) 2 = .ok (.invokespecial 53, 3) := by decide +kernel
theorem d_b_append_5 : decode (ch_bc m_b_append) 5 = .ok (.pop, 1) := by decide +kernel
theorem d_b_append_6 : decode (ch_bc m_b_append) 6 = .ok (.aload_n 0, 1) := by decide +kernel
theorem d_b_append_7 : decode (ch_bc m_b_append) 7 = .ok (.areturn, 1) := by decide +kernel
theorem d_b_append2_0 : decode (ch_bc m_b_append2) 0 = .ok (.aload_n 0, 1) := by decide +kernel
theorem d_b_append2_1 : decode (ch_bc m_b_append2) 1 = .ok (.aload_n 1, 1) := by decide +kernel
theorem d_b_append2_2 : decode (ch_bc m_b_append2) 2 = .ok (.invokespecial 29, 3) := by decide +kernel
theorem d_b_append2_5 : decode (ch_bc m_b_append2) 5 = .ok (.pop, 1) := by decide +kernel
theorem d_b_append2_6 : decode (ch_bc m_b_append2) 6 = .ok (.aload_n 0, 1) := by decide +kernel
theorem d_b_append2_7 : decode (ch_bc m_b_append2) 7 = .ok (.areturn, 1) := by decide +kernel
theorem d_k_charAt_0 : decode (ch_bc m_k_charAt) 0 = .ok (.iload_n 1, 1) := by decide +kernel
theorem d_k_charAt_1 : decode (ch_bc m_k_charAt) 1 = .ok (.aload_n 0, 1) := by decide +kernel
theorem d_k_charAt_2 : decode (ch_bc m_k_charAt) 2 = .ok (.arraylength, 1) := by decide +kernel
theorem d_k_charAt_3 : decode (ch_bc m_k_charAt) 3 = .ok (.invokestatic 9, 3) := by decide +kernel
theorem d_k_charAt_6 : decode (ch_bc m_k_charAt) 6 = .ok (.aload_n 0, 1) := by decide +kernel
theorem d_k_charAt_7 : decode (ch_bc m_k_charAt) 7 = .ok (.iload_n 1, 1) := by decide +kernel
theorem d_k_charAt_8 : decode (ch_bc m_k_charAt) 8 = .ok (.baload, 1) := by decide +kernel
theorem d_k_charAt_9 : decode (ch_bc m_k_charAt) 9 = .ok (.sipush 255, 3) := by decide +kernel
theorem d_k_charAt_12 : decode (ch_bc m_k_charAt) 12 = .ok (.iand, 1) := by decide +kernel
theorem d_k_charAt_13 : decode (ch_bc m_k_charAt) 13 = .ok (.i2c, 1) := by decide +kernel
theorem d_k_charAt_14 : decode (ch_bc m_k_charAt) 14 = .ok (.ireturn, 1) := by decide +kernel
theorem d_g_checkLength_0 : decode (ch_bc m_g_checkLength) 0 = .ok (.iload_n 1, 1) := by decide +kernel
theorem d_g_checkLength_1 : decode (ch_bc m_g_checkLength) 1 = .ok (.iload_n 0, 1) := by decide +kernel
theorem d_g_checkLength_2 : decode (ch_bc m_g_checkLength) 2 = .ok (.if_icmp .ge 35, 3) := by decide +kernel
theorem d_g_checkLength_5 : decode (ch_bc m_g_checkLength) 5 = .ok (.new 43, 3) := by decide +kernel
theorem d_g_checkLength_8 : decode (ch_bc m_g_checkLength) 8 = .ok (.dup, 1) := by decide +kernel
theorem d_g_checkLength_9 : decode (ch_bc m_g_checkLength) 9 = .ok (.new 45, 3) := by decide +kernel
theorem d_g_checkLength_12 : decode (ch_bc m_g_checkLength) 12 = .ok (.dup, 1) := by decide +kernel
theorem d_g_checkLength_13 : decode (ch_bc m_g_checkLength) 13 = .ok (.invokespecial 47, 3) := by decide +kernel
theorem d_g_checkLength_16 : decode (ch_bc m_g_checkLength) 16 = .ok (.iload_n 0, 1) := by decide +kernel
theorem d_g_checkLength_17 : decode (ch_bc m_g_checkLength) 17 = .ok (.invokevirtual 54, 3) := by decide +kernel
theorem d_g_checkLength_20 : decode (ch_bc m_g_checkLength) 20 = .ok (.ldc_w 337, 3) := by decide +kernel
theorem d_g_checkLength_23 : decode (ch_bc m_g_checkLength) 23 = .ok (.invokevirtual 50, 3) := by decide +kernel
theorem d_g_checkLength_26 : decode (ch_bc m_g_checkLength) 26 = .ok (.iload_n 1, 1) := by decide +kernel
theorem d_g_checkLength_27 : decode (ch_bc m_g_checkLength) 27 = .ok (.invokevirtual 54, 3) := by decide +kernel
theorem d_g_checkLength_30 : decode (ch_bc m_g_checkLength) 30 = .ok (.invokevirtual 61, 3) := by decide +kernel
theorem d_g_checkLength_33 : decode (ch_bc m_g_checkLength) 33 = .ok (.invokespecial 65, 3) := by decide +kernel
theorem d_g_checkLength_36 : decode (ch_bc m_g_checkLength) 36 = .ok (.athrow, 1) := by decide +kernel
theorem d_g_checkLength_37 : decode (ch_bc m_g_checkLength) 37 = .ok (.return_, 1) := by decide +kernel
theorem d_o_checkIndex_0 : decode (ch_bc m_o_checkIndex) 0 = .ok (.iload_n 0, 1) := by decide +kernel
theorem d_o_checkIndex_1 : decode (ch_bc m_o_checkIndex) 1 = .ok (.ifCond .lt 8, 3) := by decide +kernel
theorem d_o_checkIndex_4 : decode (ch_bc m_o_checkIndex) 4 = .ok (.iload_n 0, 1) := by decide +kernel
theorem d_o_checkIndex_5 : decode (ch_bc m_o_checkIndex) 5 = .ok (.iload_n 1, 1) := by decide +kernel
theorem d_o_checkIndex_6 : decode (ch_bc m_o_checkIndex) 6 = .ok (.if_icmp .lt 10, 3) := by decide +kernel
theorem d_o_checkIndex_9 : decode (ch_bc m_o_checkIndex) 9 = .ok (.aload_n 2, 1) := by decide +kernel
theorem d_o_checkIndex_10 : decode (ch_bc m_o_checkIndex) 10 = .ok (.iload_n 0, 1) := by decide +kernel
theorem d_o_checkIndex_11 : decode (ch_bc m_o_checkIndex) 11 = .ok (.iload_n 1, 1) := by decide +kernel
theorem d_o_checkIndex_12 : decode (ch_bc m_o_checkIndex) 12 = .ok (.invokestatic 95, 3) := by decide +kernel
theorem d_o_checkIndex_15 : decode (ch_bc m_o_checkIndex) 15 = .ok (.athrow, 1) := by decide +kernel
theorem d_o_checkIndex_16 : decode (ch_bc m_o_checkIndex) 16 = .ok (.iload_n 0, 1) := by decide +kernel
theorem d_o_checkIndex_17 : decode (ch_bc m_o_checkIndex) 17 = .ok (.ireturn, 1) := by decide +kernel
theorem d_b_length_0 : decode (ch_bc m_b_length) 0 = .ok (.aload_n 0, 1) := by decide +kernel
theorem d_b_length_1 : decode (ch_bc m_b_length) 1 = .ok (.invokespecial 343, 3) := by decide +kernel
theorem d_b_length_4 : decode (ch_bc m_b_length) 4 = .ok (.ireturn, 1) := by decide +kernel
