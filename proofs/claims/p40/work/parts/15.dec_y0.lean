theorem d_y_copyFrom_0 : decode (ch_bc m_y_copyFrom) 0 = .ok (.aload_n 1, 1) := by decide +kernel
theorem d_y_copyFrom_1 : decode (ch_bc m_y_copyFrom) 1 = .ok (.getfield 9, 3) := by decide +kernel
theorem d_y_copyFrom_4 : decode (ch_bc m_y_copyFrom) 4 = .ok (.iconst 0, 1) := by decide +kernel
theorem d_y_copyFrom_5 : decode (ch_bc m_y_copyFrom) 5 = .ok (.aload_n 0, 1) := by decide +kernel
theorem d_y_copyFrom_6 : decode (ch_bc m_y_copyFrom) 6 = .ok (.getfield 9, 3) := by decide +kernel
theorem d_y_copyFrom_9 : decode (ch_bc m_y_copyFrom) 9 = .ok (.iconst 0, 1) := by decide +kernel
theorem d_y_copyFrom_10 : decode (ch_bc m_y_copyFrom) 10 = .ok (.bipush 12, 2) := by decide +kernel
theorem d_y_copyFrom_12 : decode (ch_bc m_y_copyFrom) 12 = .ok (.invokestatic 36, 3) := by decide +kernel
theorem d_y_copyFrom_15 : decode (ch_bc m_y_copyFrom) 15 = .ok (.aload_n 1, 1) := by decide +kernel
theorem d_y_copyFrom_16 : decode (ch_bc m_y_copyFrom) 16 = .ok (.getfield 15, 3) := by decide +kernel
theorem d_y_copyFrom_19 : decode (ch_bc m_y_copyFrom) 19 = .ok (.iconst 0, 1) := by decide +kernel
theorem d_y_copyFrom_20 : decode (ch_bc m_y_copyFrom) 20 = .ok (.aload_n 0, 1) := by decide +kernel
theorem d_y_copyFrom_21 : decode (ch_bc m_y_copyFrom) 21 = .ok (.getfield 15, 3) := by decide +kernel
theorem d_y_copyFrom_24 : decode (ch_bc m_y_copyFrom) 24 = .ok (.iconst 0, 1) := by decide +kernel
theorem d_y_copyFrom_25 : decode (ch_bc m_y_copyFrom) 25 = .ok (.bipush 12, 2) := by decide +kernel
theorem d_y_copyFrom_27 : decode (ch_bc m_y_copyFrom) 27 = .ok (.invokestatic 36, 3) := by decide +kernel
theorem d_y_copyFrom_30 : decode (ch_bc m_y_copyFrom) 30 = .ok (.aload_n 1, 1) := by decide +kernel
theorem d_y_copyFrom_31 : decode (ch_bc m_y_copyFrom) 31 = .ok (.getfield 18, 3) := by decide +kernel
theorem d_y_copyFrom_34 : decode (ch_bc m_y_copyFrom) 34 = .ok (.iconst 0, 1) := by decide +kernel
theorem d_y_copyFrom_35 : decode (ch_bc m_y_copyFrom) 35 = .ok (.aload_n 0, 1) := by decide +kernel
theorem d_y_copyFrom_36 : decode (ch_bc m_y_copyFrom) 36 = .ok (.getfield 18, 3) := by decide +kernel
theorem d_y_copyFrom_39 : decode (ch_bc m_y_copyFrom) 39 = .ok (.iconst 0, 1) := by decide +kernel
theorem d_y_copyFrom_40 : decode (ch_bc m_y_copyFrom) 40 = .ok (.iconst 5, 1) := by decide +kernel
theorem d_y_copyFrom_41 : decode (ch_bc m_y_copyFrom) 41 = .ok (.invokestatic 36, 3) := by decide +kernel
theorem d_y_copyFrom_44 : decode (ch_bc m_y_copyFrom) 44 = .ok (.aload_n 1, 1) := by decide +kernel
theorem d_y_copyFrom_45 : decode (ch_bc m_y_copyFrom) 45 = .ok (.getfield 21, 3) := by decide +kernel
theorem d_y_copyFrom_48 : decode (ch_bc m_y_copyFrom) 48 = .ok (.iconst 0, 1) := by decide +kernel
theorem d_y_copyFrom_49 : decode (ch_bc m_y_copyFrom) 49 = .ok (.aload_n 0, 1) := by decide +kernel
theorem d_y_copyFrom_50 : decode (ch_bc m_y_copyFrom) 50 = .ok (.getfield 21, 3) := by decide +kernel
theorem d_y_copyFrom_53 : decode (ch_bc m_y_copyFrom) 53 = .ok (.iconst 0, 1) := by decide +kernel
theorem d_y_copyFrom_54 : decode (ch_bc m_y_copyFrom) 54 = .ok (.iconst 5, 1) := by decide +kernel
theorem d_y_copyFrom_55 : decode (ch_bc m_y_copyFrom) 55 = .ok (.invokestatic 36, 3) := by decide +kernel
theorem d_y_copyFrom_58 : decode (ch_bc m_y_copyFrom) 58 = .ok (.aload_n 1, 1) := by decide +kernel
theorem d_y_copyFrom_59 : decode (ch_bc m_y_copyFrom) 59 = .ok (.getfield 24, 3) := by decide +kernel
theorem d_y_copyFrom_62 : decode (ch_bc m_y_copyFrom) 62 = .ok (.iconst 0, 1) := by decide +kernel
theorem d_y_copyFrom_63 : decode (ch_bc m_y_copyFrom) 63 = .ok (.aload_n 0, 1) := by decide +kernel
theorem d_y_copyFrom_64 : decode (ch_bc m_y_copyFrom) 64 = .ok (.getfield 24, 3) := by decide +kernel
theorem d_y_copyFrom_67 : decode (ch_bc m_y_copyFrom) 67 = .ok (.iconst 0, 1) := by decide +kernel
theorem d_y_copyFrom_68 : decode (ch_bc m_y_copyFrom) 68 = .ok (.iconst 5, 1) := by decide +kernel
theorem d_y_copyFrom_69 : decode (ch_bc m_y_copyFrom) 69 = .ok (.invokestatic 36, 3) := by decide +kernel
theorem d_y_copyFrom_72 : decode (ch_bc m_y_copyFrom) 72 = .ok (.aload_n 1, 1) := by decide +kernel
theorem d_y_copyFrom_73 : decode (ch_bc m_y_copyFrom) 73 = .ok (.getfield 27, 3) := by decide +kernel
theorem d_y_copyFrom_76 : decode (ch_bc m_y_copyFrom) 76 = .ok (.iconst 0, 1) := by decide +kernel
theorem d_y_copyFrom_77 : decode (ch_bc m_y_copyFrom) 77 = .ok (.aload_n 0, 1) := by decide +kernel
theorem d_y_copyFrom_78 : decode (ch_bc m_y_copyFrom) 78 = .ok (.getfield 27, 3) := by decide +kernel
theorem d_y_copyFrom_81 : decode (ch_bc m_y_copyFrom) 81 = .ok (.iconst 0, 1) := by decide +kernel
theorem d_y_copyFrom_82 : decode (ch_bc m_y_copyFrom) 82 = .ok (.iconst 5, 1) := by decide +kernel
theorem d_y_copyFrom_83 : decode (ch_bc m_y_copyFrom) 83 = .ok (.invokestatic 36, 3) := by decide +kernel
theorem d_y_copyFrom_86 : decode (ch_bc m_y_copyFrom) 86 = .ok (.aload_n 1, 1) := by decide +kernel
theorem d_y_copyFrom_87 : decode (ch_bc m_y_copyFrom) 87 = .ok (.getfield 30, 3) := by decide +kernel
theorem d_y_copyFrom_90 : decode (ch_bc m_y_copyFrom) 90 = .ok (.iconst 0, 1) := by decide +kernel
theorem d_y_copyFrom_91 : decode (ch_bc m_y_copyFrom) 91 = .ok (.aload_n 0, 1) := by decide +kernel
theorem d_y_copyFrom_92 : decode (ch_bc m_y_copyFrom) 92 = .ok (.getfield 30, 3) := by decide +kernel
theorem d_y_copyFrom_95 : decode (ch_bc m_y_copyFrom) 95 = .ok (.iconst 0, 1) := by decide +kernel
theorem d_y_copyFrom_96 : decode (ch_bc m_y_copyFrom) 96 = .ok (.iconst 5, 1) := by decide +kernel
theorem d_y_copyFrom_97 : decode (ch_bc m_y_copyFrom) 97 = .ok (.invokestatic 36, 3) := by decide +kernel
theorem d_y_copyFrom_100 : decode (ch_bc m_y_copyFrom) 100 = .ok (.aload_n 1, 1) := by decide +kernel
theorem d_y_copyFrom_101 : decode (ch_bc m_y_copyFrom) 101 = .ok (.getfield 33, 3) := by decide +kernel
theorem d_y_copyFrom_104 : decode (ch_bc m_y_copyFrom) 104 = .ok (.iconst 0, 1) := by decide +kernel
theorem d_y_copyFrom_105 : decode (ch_bc m_y_copyFrom) 105 = .ok (.aload_n 0, 1) := by decide +kernel
theorem d_y_copyFrom_106 : decode (ch_bc m_y_copyFrom) 106 = .ok (.getfield 33, 3) := by decide +kernel
theorem d_y_copyFrom_109 : decode (ch_bc m_y_copyFrom) 109 = .ok (.iconst 0, 1) := by decide +kernel
theorem d_y_copyFrom_110 : decode (ch_bc m_y_copyFrom) 110 = .ok (.iconst 5, 1) := by decide +kernel
theorem d_y_copyFrom_111 : decode (ch_bc m_y_copyFrom) 111 = .ok (.invokestatic 36, 3) := by decide +kernel
theorem d_y_copyFrom_114 : decode (ch_bc m_y_copyFrom) 114 = .ok (.aload_n 0, 1) := by decide +kernel
theorem d_y_copyFrom_115 : decode (ch_bc m_y_copyFrom) 115 = .ok (.aload_n 1, 1) := by decide +kernel
theorem d_y_copyFrom_116 : decode (ch_bc m_y_copyFrom) 116 = .ok (.getfield 42, 3) := by decide +kernel
theorem d_y_copyFrom_119 : decode (ch_bc m_y_copyFrom) 119 = .ok (.putfield 42, 3) := by decide +kernel
theorem d_y_copyFrom_122 : decode (ch_bc m_y_copyFrom) 122 = .ok (.aload_n 0, 1) := by decide +kernel
theorem d_y_copyFrom_123 : decode (ch_bc m_y_copyFrom) 123 = .ok (.aload_n 1, 1) := by decide +kernel
theorem d_y_copyFrom_124 : decode (ch_bc m_y_copyFrom) 124 = .ok (.getfield 46, 3) := by decide +kernel
theorem d_y_copyFrom_127 : decode (ch_bc m_y_copyFrom) 127 = .ok (.putfield 46, 3) := by decide +kernel
theorem d_y_copyFrom_130 : decode (ch_bc m_y_copyFrom) 130 = .ok (.aload_n 0, 1) := by decide +kernel
theorem d_y_copyFrom_131 : decode (ch_bc m_y_copyFrom) 131 = .ok (.aload_n 1, 1) := by decide +kernel
theorem d_y_copyFrom_132 : decode (ch_bc m_y_copyFrom) 132 = .ok (.getfield 49, 3) := by decide +kernel
theorem d_y_copyFrom_135 : decode (ch_bc m_y_copyFrom) 135 = .ok (.putfield 49, 3) := by decide +kernel
theorem d_y_copyFrom_138 : decode (ch_bc m_y_copyFrom) 138 = .ok (.aload_n 0, 1) := by decide +kernel
theorem d_y_copyFrom_139 : decode (ch_bc m_y_copyFrom) 139 = .ok (.aload_n 1, 1) := by decide +kernel
theorem d_y_copyFrom_140 : decode (ch_bc m_y_copyFrom) 140 = .ok (.getfield 52, 3) := by decide +kernel
theorem d_y_copyFrom_143 : decode (ch_bc m_y_copyFrom) 143 = .ok (.putfield 52, 3) := by decide +kernel
theorem d_y_copyFrom_146 : decode (ch_bc m_y_copyFrom) 146 = .ok (.aload_n 0, 1) := by decide +kernel
theorem d_y_copyFrom_147 : decode (ch_bc m_y_copyFrom) 147 = .ok (.aload_n 1, 1) := by decide +kernel
theorem d_y_copyFrom_148 : decode (ch_bc m_y_copyFrom) 148 = .ok (.getfield 55, 3) := by decide +kernel
theorem d_y_copyFrom_151 : decode (ch_bc m_y_copyFrom) 151 = .ok (.putfield 55, 3) := by decide +kernel
theorem d_y_copyFrom_154 : decode (ch_bc m_y_copyFrom) 154 = .ok (.aload_n 0, 1) := by decide +kernel
theorem d_y_copyFrom_155 : decode (ch_bc m_y_copyFrom) 155 = .ok (.aload_n 1, 1) := by decide +kernel
theorem d_y_copyFrom_156 : decode (ch_bc m_y_copyFrom) 156 = .ok (.getfield 58, 3) := by decide +kernel
theorem d_y_copyFrom_159 : decode (ch_bc m_y_copyFrom) 159 = .ok (.putfield 58, 3) := by decide +kernel
theorem d_y_copyFrom_162 : decode (ch_bc m_y_copyFrom) 162 = .ok (.aload_n 0, 1) := by decide +kernel
theorem d_y_copyFrom_163 : decode (ch_bc m_y_copyFrom) 163 = .ok (.aload_n 1, 1) := by decide +kernel
theorem d_y_copyFrom_164 : decode (ch_bc m_y_copyFrom) 164 = .ok (.getfield 61, 3) := by decide +kernel
theorem d_y_copyFrom_167 : decode (ch_bc m_y_copyFrom) 167 = .ok (.putfield 61, 3) := by decide +kernel
theorem d_y_copyFrom_170 : decode (ch_bc m_y_copyFrom) 170 = .ok (.aload_n 0, 1) := by decide +kernel
theorem d_y_copyFrom_171 : decode (ch_bc m_y_copyFrom) 171 = .ok (.aload_n 1, 1) := by decide +kernel
theorem d_y_copyFrom_172 : decode (ch_bc m_y_copyFrom) 172 = .ok (.getfield 64, 3) := by decide +kernel
theorem d_y_copyFrom_175 : decode (ch_bc m_y_copyFrom) 175 = .ok (.putfield 64, 3) := by decide +kernel
theorem d_y_copyFrom_178 : decode (ch_bc m_y_copyFrom) 178 = .ok (.aload_n 0, 1) := by decide +kernel
theorem d_y_copyFrom_179 : decode (ch_bc m_y_copyFrom) 179 = .ok (.aload_n 1, 1) := by decide +kernel
theorem d_y_copyFrom_180 : decode (ch_bc m_y_copyFrom) 180 = .ok (.getfield 67, 3) := by decide +kernel
theorem d_y_copyFrom_183 : decode (ch_bc m_y_copyFrom) 183 = .ok (.putfield 67, 3) := by decide +kernel
theorem d_y_copyFrom_186 : decode (ch_bc m_y_copyFrom) 186 = .ok (.return_, 1) := by decide +kernel
theorem d_y_carryOut_0 : decode (ch_bc m_y_carryOut) 0 = .ok (.aload_n 1, 1) := by decide +kernel
theorem d_y_carryOut_1 : decode (ch_bc m_y_carryOut) 1 = .ok (.getfield 70, 3) := by decide +kernel
theorem d_y_carryOut_4 : decode (ch_bc m_y_carryOut) 4 = .ok (.tableswitch 167 99 119 #[109, 167, 167, 167, 167, 122, 167, 167, 167, 167, 167, 100, 167, 167, 167, 153, 144, 162, 167, 167, 135], 100) := by decide +kernel
theorem d_y_carryOut_104 : decode (ch_bc m_y_carryOut) 104 = .ok (.aload_n 0, 1) := by decide +kernel
theorem d_y_carryOut_105 : decode (ch_bc m_y_carryOut) 105 = .ok (.aload_n 1, 1) := by decide +kernel
theorem d_y_carryOut_106 : decode (ch_bc m_y_carryOut) 106 = .ok (.getfield 75, 3) := by decide +kernel
theorem d_y_carryOut_109 : decode (ch_bc m_y_carryOut) 109 = .ok (.invokevirtual 78, 3) := by decide +kernel
theorem d_y_carryOut_112 : decode (ch_bc m_y_carryOut) 112 = .ok (.ireturn, 1) := by decide +kernel
theorem d_y_carryOut_113 : decode (ch_bc m_y_carryOut) 113 = .ok (.aload_n 0, 1) := by decide +kernel
theorem d_y_carryOut_114 : decode (ch_bc m_y_carryOut) 114 = .ok (.aload_n 1, 1) := by decide +kernel
theorem d_y_carryOut_115 : decode (ch_bc m_y_carryOut) 115 = .ok (.getfield 82, 3) := by decide +kernel
theorem d_y_carryOut_118 : decode (ch_bc m_y_carryOut) 118 = .ok (.aload_n 1, 1) := by decide +kernel
theorem d_y_carryOut_119 : decode (ch_bc m_y_carryOut) 119 = .ok (.getfield 75, 3) := by decide +kernel
theorem d_y_carryOut_122 : decode (ch_bc m_y_carryOut) 122 = .ok (.invokevirtual 85, 3) := by decide +kernel
theorem d_y_carryOut_125 : decode (ch_bc m_y_carryOut) 125 = .ok (.ireturn, 1) := by decide +kernel
theorem d_y_carryOut_126 : decode (ch_bc m_y_carryOut) 126 = .ok (.aload_n 0, 1) := by decide +kernel
theorem d_y_carryOut_127 : decode (ch_bc m_y_carryOut) 127 = .ok (.aload_n 1, 1) := by decide +kernel
theorem d_y_carryOut_128 : decode (ch_bc m_y_carryOut) 128 = .ok (.getfield 82, 3) := by decide +kernel
theorem d_y_carryOut_131 : decode (ch_bc m_y_carryOut) 131 = .ok (.aload_n 1, 1) := by decide +kernel
theorem d_y_carryOut_132 : decode (ch_bc m_y_carryOut) 132 = .ok (.getfield 89, 3) := by decide +kernel
theorem d_y_carryOut_135 : decode (ch_bc m_y_carryOut) 135 = .ok (.invokevirtual 93, 3) := by decide +kernel
theorem d_y_carryOut_138 : decode (ch_bc m_y_carryOut) 138 = .ok (.ireturn, 1) := by decide +kernel
theorem d_y_carryOut_139 : decode (ch_bc m_y_carryOut) 139 = .ok (.aload_n 0, 1) := by decide +kernel
theorem d_y_carryOut_140 : decode (ch_bc m_y_carryOut) 140 = .ok (.aload_n 1, 1) := by decide +kernel
theorem d_y_carryOut_141 : decode (ch_bc m_y_carryOut) 141 = .ok (.getfield 82, 3) := by decide +kernel
theorem d_y_carryOut_144 : decode (ch_bc m_y_carryOut) 144 = .ok (.invokevirtual 97, 3) := by decide +kernel
theorem d_y_carryOut_147 : decode (ch_bc m_y_carryOut) 147 = .ok (.ireturn, 1) := by decide +kernel
theorem d_y_carryOut_148 : decode (ch_bc m_y_carryOut) 148 = .ok (.aload_n 0, 1) := by decide +kernel
theorem d_y_carryOut_149 : decode (ch_bc m_y_carryOut) 149 = .ok (.aload_n 1, 1) := by decide +kernel
theorem d_y_carryOut_150 : decode (ch_bc m_y_carryOut) 150 = .ok (.getfield 82, 3) := by decide +kernel
theorem d_y_carryOut_153 : decode (ch_bc m_y_carryOut) 153 = .ok (.invokevirtual 100, 3) := by decide +kernel
theorem d_y_carryOut_156 : decode (ch_bc m_y_carryOut) 156 = .ok (.ireturn, 1) := by decide +kernel
theorem d_y_carryOut_157 : decode (ch_bc m_y_carryOut) 157 = .ok (.aload_n 0, 1) := by decide +kernel
theorem d_y_carryOut_158 : decode (ch_bc m_y_carryOut) 158 = .ok (.aload_n 1, 1) := by decide +kernel
theorem d_y_carryOut_159 : decode (ch_bc m_y_carryOut) 159 = .ok (.getfield 75, 3) := by decide +kernel
theorem d_y_carryOut_162 : decode (ch_bc m_y_carryOut) 162 = .ok (.invokevirtual 103, 3) := by decide +kernel
theorem d_y_carryOut_165 : decode (ch_bc m_y_carryOut) 165 = .ok (.ireturn, 1) := by decide +kernel
theorem d_y_carryOut_166 : decode (ch_bc m_y_carryOut) 166 = .ok (.aload_n 0, 1) := by decide +kernel
theorem d_y_carryOut_167 : decode (ch_bc m_y_carryOut) 167 = .ok (.invokevirtual 106, 3) := by decide +kernel
theorem d_y_carryOut_170 : decode (ch_bc m_y_carryOut) 170 = .ok (.ireturn, 1) := by decide +kernel
theorem d_y_carryOut_171 : decode (ch_bc m_y_carryOut) 171 = .ok (.aload_n 0, 1) := by decide +kernel
theorem d_y_carryOut_172 : decode (ch_bc m_y_carryOut) 172 = .ok (.aload_n 1, 1) := by decide +kernel
theorem d_y_carryOut_173 : decode (ch_bc m_y_carryOut) 173 = .ok (.getfield 82, 3) := by decide +kernel
theorem d_y_carryOut_176 : decode (ch_bc m_y_carryOut) 176 = .ok (.aload_n 1, 1) := by decide +kernel
theorem d_y_carryOut_177 : decode (ch_bc m_y_carryOut) 177 = .ok (.getfield 110, 3) := by decide +kernel
theorem d_y_carryOut_180 : decode (ch_bc m_y_carryOut) 180 = .ok (.aload_n 1, 1) := by decide +kernel
theorem d_y_carryOut_181 : decode (ch_bc m_y_carryOut) 181 = .ok (.getfield 75, 3) := by decide +kernel
theorem d_y_carryOut_184 : decode (ch_bc m_y_carryOut) 184 = .ok (.invokevirtual 113, 3) := by decide +kernel
theorem d_y_carryOut_187 : decode (ch_bc m_y_carryOut) 187 = .ok (.ireturn, 1) := by decide +kernel
theorem d_y_bring_0 : decode (ch_bc m_y_bring) 0 = .ok (.aload_n 0, 1) := by decide +kernel
theorem d_y_bring_1 : decode (ch_bc m_y_bring) 1 = .ok (.getfield 18, 3) := by decide +kernel
theorem d_y_bring_4 : decode (ch_bc m_y_bring) 4 = .ok (.aload_n 0, 1) := by decide +kernel
theorem d_y_bring_5 : decode (ch_bc m_y_bring) 5 = .ok (.getfield 42, 3) := by decide +kernel
theorem d_y_bring_8 : decode (ch_bc m_y_bring) 8 = .ok (.iload_n 1, 1) := by decide +kernel
theorem d_y_bring_9 : decode (ch_bc m_y_bring) 9 = .ok (.iastore, 1) := by decide +kernel
theorem d_y_bring_10 : decode (ch_bc m_y_bring) 10 = .ok (.aload_n 0, 1) := by decide +kernel
theorem d_y_bring_11 : decode (ch_bc m_y_bring) 11 = .ok (.dup, 1) := by decide +kernel
theorem d_y_bring_12 : decode (ch_bc m_y_bring) 12 = .ok (.getfield 52, 3) := by decide +kernel
theorem d_y_bring_15 : decode (ch_bc m_y_bring) 15 = .ok (.iload_n 1, 1) := by decide +kernel
theorem d_y_bring_16 : decode (ch_bc m_y_bring) 16 = .ok (.iadd, 1) := by decide +kernel
theorem d_y_bring_17 : decode (ch_bc m_y_bring) 17 = .ok (.putfield 52, 3) := by decide +kernel
theorem d_y_bring_20 : decode (ch_bc m_y_bring) 20 = .ok (.aload_n 0, 1) := by decide +kernel
theorem d_y_bring_21 : decode (ch_bc m_y_bring) 21 = .ok (.dup, 1) := by decide +kernel
theorem d_y_bring_22 : decode (ch_bc m_y_bring) 22 = .ok (.getfield 42, 3) := by decide +kernel
theorem d_y_bring_25 : decode (ch_bc m_y_bring) 25 = .ok (.iconst 1, 1) := by decide +kernel
theorem d_y_bring_26 : decode (ch_bc m_y_bring) 26 = .ok (.iadd, 1) := by decide +kernel
theorem d_y_bring_27 : decode (ch_bc m_y_bring) 27 = .ok (.putfield 42, 3) := by decide +kernel
theorem d_y_bring_30 : decode (ch_bc m_y_bring) 30 = .ok (.aload_n 0, 1) := by decide +kernel
theorem d_y_bring_31 : decode (ch_bc m_y_bring) 31 = .ok (.getfield 42, 3) := by decide +kernel
theorem d_y_bring_34 : decode (ch_bc m_y_bring) 34 = .ok (.iconst 1, 1) := by decide +kernel
theorem d_y_bring_35 : decode (ch_bc m_y_bring) 35 = .ok (.isub, 1) := by decide +kernel
theorem d_y_bring_36 : decode (ch_bc m_y_bring) 36 = .ok (.ireturn, 1) := by decide +kernel
theorem d_y_chalkOn_0 : decode (ch_bc m_y_chalkOn) 0 = .ok (.aload_n 0, 1) := by decide +kernel
theorem d_y_chalkOn_1 : decode (ch_bc m_y_chalkOn) 1 = .ok (.getfield 18, 3) := by decide +kernel
theorem d_y_chalkOn_4 : decode (ch_bc m_y_chalkOn) 4 = .ok (.iload_n 1, 1) := by decide +kernel
theorem d_y_chalkOn_5 : decode (ch_bc m_y_chalkOn) 5 = .ok (.dup2, 1) := by decide +kernel
theorem d_y_chalkOn_6 : decode (ch_bc m_y_chalkOn) 6 = .ok (.iaload, 1) := by decide +kernel
theorem d_y_chalkOn_7 : decode (ch_bc m_y_chalkOn) 7 = .ok (.iconst 1, 1) := by decide +kernel
theorem d_y_chalkOn_8 : decode (ch_bc m_y_chalkOn) 8 = .ok (.isub, 1) := by decide +kernel
theorem d_y_chalkOn_9 : decode (ch_bc m_y_chalkOn) 9 = .ok (.iastore, 1) := by decide +kernel
theorem d_y_chalkOn_10 : decode (ch_bc m_y_chalkOn) 10 = .ok (.aload_n 0, 1) := by decide +kernel
theorem d_y_chalkOn_11 : decode (ch_bc m_y_chalkOn) 11 = .ok (.dup, 1) := by decide +kernel
theorem d_y_chalkOn_12 : decode (ch_bc m_y_chalkOn) 12 = .ok (.getfield 49, 3) := by decide +kernel
theorem d_y_chalkOn_15 : decode (ch_bc m_y_chalkOn) 15 = .ok (.iconst 1, 1) := by decide +kernel
theorem d_y_chalkOn_16 : decode (ch_bc m_y_chalkOn) 16 = .ok (.iadd, 1) := by decide +kernel
theorem d_y_chalkOn_17 : decode (ch_bc m_y_chalkOn) 17 = .ok (.putfield 49, 3) := by decide +kernel
theorem d_y_chalkOn_20 : decode (ch_bc m_y_chalkOn) 20 = .ok (.aload_n 0, 1) := by decide +kernel
theorem d_y_chalkOn_21 : decode (ch_bc m_y_chalkOn) 21 = .ok (.getfield 15, 3) := by decide +kernel
theorem d_y_chalkOn_24 : decode (ch_bc m_y_chalkOn) 24 = .ok (.iload_n 2, 1) := by decide +kernel
theorem d_y_chalkOn_25 : decode (ch_bc m_y_chalkOn) 25 = .ok (.aload_n 0, 1) := by decide +kernel
theorem d_y_chalkOn_26 : decode (ch_bc m_y_chalkOn) 26 = .ok (.getfield 9, 3) := by decide +kernel
theorem d_y_chalkOn_29 : decode (ch_bc m_y_chalkOn) 29 = .ok (.iload_n 2, 1) := by decide +kernel
theorem d_y_chalkOn_30 : decode (ch_bc m_y_chalkOn) 30 = .ok (.iaload, 1) := by decide +kernel
theorem d_y_chalkOn_31 : decode (ch_bc m_y_chalkOn) 31 = .ok (.iconst (-1), 1) := by decide +kernel
theorem d_y_chalkOn_32 : decode (ch_bc m_y_chalkOn) 32 = .ok (.if_icmp .ne 7, 3) := by decide +kernel
theorem d_y_chalkOn_35 : decode (ch_bc m_y_chalkOn) 35 = .ok (.iconst 5, 1) := by decide +kernel
theorem d_y_chalkOn_36 : decode (ch_bc m_y_chalkOn) 36 = .ok (.goto 16, 3) := by decide +kernel
theorem d_y_chalkOn_39 : decode (ch_bc m_y_chalkOn) 39 = .ok (.aload_n 0, 1) := by decide +kernel
theorem d_y_chalkOn_40 : decode (ch_bc m_y_chalkOn) 40 = .ok (.getfield 15, 3) := by decide +kernel
theorem d_y_chalkOn_43 : decode (ch_bc m_y_chalkOn) 43 = .ok (.iload_n 2, 1) := by decide +kernel
theorem d_y_chalkOn_44 : decode (ch_bc m_y_chalkOn) 44 = .ok (.iaload, 1) := by decide +kernel
theorem d_y_chalkOn_45 : decode (ch_bc m_y_chalkOn) 45 = .ok (.iconst 2, 1) := by decide +kernel
theorem d_y_chalkOn_46 : decode (ch_bc m_y_chalkOn) 46 = .ok (.iadd, 1) := by decide +kernel
theorem d_y_chalkOn_47 : decode (ch_bc m_y_chalkOn) 47 = .ok (.bipush 9, 2) := by decide +kernel
theorem d_y_chalkOn_49 : decode (ch_bc m_y_chalkOn) 49 = .ok (.invokestatic 117, 3) := by decide +kernel
theorem d_y_chalkOn_52 : decode (ch_bc m_y_chalkOn) 52 = .ok (.iastore, 1) := by decide +kernel
theorem d_y_chalkOn_53 : decode (ch_bc m_y_chalkOn) 53 = .ok (.aload_n 0, 1) := by decide +kernel
theorem d_y_chalkOn_54 : decode (ch_bc m_y_chalkOn) 54 = .ok (.getfield 9, 3) := by decide +kernel
theorem d_y_chalkOn_57 : decode (ch_bc m_y_chalkOn) 57 = .ok (.iload_n 2, 1) := by decide +kernel
theorem d_y_chalkOn_58 : decode (ch_bc m_y_chalkOn) 58 = .ok (.iload_n 1, 1) := by decide +kernel
theorem d_y_chalkOn_59 : decode (ch_bc m_y_chalkOn) 59 = .ok (.iastore, 1) := by decide +kernel
theorem d_y_chalkOn_60 : decode (ch_bc m_y_chalkOn) 60 = .ok (.aload_n 0, 1) := by decide +kernel
theorem d_y_chalkOn_61 : decode (ch_bc m_y_chalkOn) 61 = .ok (.getfield 15, 3) := by decide +kernel
theorem d_y_chalkOn_64 : decode (ch_bc m_y_chalkOn) 64 = .ok (.iload_n 2, 1) := by decide +kernel
theorem d_y_chalkOn_65 : decode (ch_bc m_y_chalkOn) 65 = .ok (.iaload, 1) := by decide +kernel
theorem d_y_chalkOn_66 : decode (ch_bc m_y_chalkOn) 66 = .ok (.ireturn, 1) := by decide +kernel
theorem d_y_hopBy_0 : decode (ch_bc m_y_hopBy) 0 = .ok (.aload_n 0, 1) := by decide +kernel
theorem d_y_hopBy_1 : decode (ch_bc m_y_hopBy) 1 = .ok (.iload_n 1, 1) := by decide +kernel
theorem d_y_hopBy_2 : decode (ch_bc m_y_hopBy) 2 = .ok (.aload_n 2, 1) := by decide +kernel
theorem d_y_hopBy_3 : decode (ch_bc m_y_hopBy) 3 = .ok (.invokevirtual 122, 3) := by decide +kernel
theorem d_y_hopBy_6 : decode (ch_bc m_y_hopBy) 6 = .ok (.istore_n 3, 1) := by decide +kernel
theorem d_y_hopBy_7 : decode (ch_bc m_y_hopBy) 7 = .ok (.iconst (-1), 1) := by decide +kernel
theorem d_y_hopBy_8 : decode (ch_bc m_y_hopBy) 8 = .ok (.istore 4, 2) := by decide +kernel
theorem d_y_hopBy_10 : decode (ch_bc m_y_hopBy) 10 = .ok (.iconst 0, 1) := by decide +kernel
theorem d_y_hopBy_11 : decode (ch_bc m_y_hopBy) 11 = .ok (.istore 5, 2) := by decide +kernel
theorem d_y_hopBy_13 : decode (ch_bc m_y_hopBy) 13 = .ok (.iload 5, 2) := by decide +kernel
theorem d_y_hopBy_15 : decode (ch_bc m_y_hopBy) 15 = .ok (.aload_n 2, 1) := by decide +kernel
theorem d_y_hopBy_16 : decode (ch_bc m_y_hopBy) 16 = .ok (.getfield 125, 3) := by decide +kernel
theorem d_y_hopBy_19 : decode (ch_bc m_y_hopBy) 19 = .ok (.if_icmp .ge 55, 3) := by decide +kernel
theorem d_y_hopBy_22 : decode (ch_bc m_y_hopBy) 22 = .ok (.iload 4, 2) := by decide +kernel
theorem d_y_hopBy_24 : decode (ch_bc m_y_hopBy) 24 = .ok (.aload_n 2, 1) := by decide +kernel
theorem d_y_hopBy_25 : decode (ch_bc m_y_hopBy) 25 = .ok (.getfield 130, 3) := by decide +kernel
theorem d_y_hopBy_28 : decode (ch_bc m_y_hopBy) 28 = .ok (.iload 5, 2) := by decide +kernel
theorem d_y_hopBy_30 : decode (ch_bc m_y_hopBy) 30 = .ok (.iaload, 1) := by decide +kernel
theorem d_y_hopBy_31 : decode (ch_bc m_y_hopBy) 31 = .ok (.iadd, 1) := by decide +kernel
theorem d_y_hopBy_32 : decode (ch_bc m_y_hopBy) 32 = .ok (.istore 4, 2) := by decide +kernel
theorem d_y_hopBy_34 : decode (ch_bc m_y_hopBy) 34 = .ok (.aload_n 0, 1) := by decide +kernel
theorem d_y_hopBy_35 : decode (ch_bc m_y_hopBy) 35 = .ok (.iload_n 1, 1) := by decide +kernel
theorem d_y_hopBy_36 : decode (ch_bc m_y_hopBy) 36 = .ok (.iload 4, 2) := by decide +kernel
theorem d_y_hopBy_38 : decode (ch_bc m_y_hopBy) 38 = .ok (.invokevirtual 133, 3) := by decide +kernel
theorem d_y_hopBy_41 : decode (ch_bc m_y_hopBy) 41 = .ok (.ifCond .eq 27, 3) := by decide +kernel
theorem d_y_hopBy_44 : decode (ch_bc m_y_hopBy) 44 = .ok (.aload_n 0, 1) := by decide +kernel
theorem d_y_hopBy_45 : decode (ch_bc m_y_hopBy) 45 = .ok (.getfield 30, 3) := by decide +kernel
theorem d_y_hopBy_48 : decode (ch_bc m_y_hopBy) 48 = .ok (.aload_n 0, 1) := by decide +kernel
theorem d_y_hopBy_49 : decode (ch_bc m_y_hopBy) 49 = .ok (.getfield 9, 3) := by decide +kernel
theorem d_y_hopBy_52 : decode (ch_bc m_y_hopBy) 52 = .ok (.iload 4, 2) := by decide +kernel
theorem d_y_hopBy_54 : decode (ch_bc m_y_hopBy) 54 = .ok (.iaload, 1) := by decide +kernel
theorem d_y_hopBy_55 : decode (ch_bc m_y_hopBy) 55 = .ok (.dup2, 1) := by decide +kernel
theorem d_y_hopBy_56 : decode (ch_bc m_y_hopBy) 56 = .ok (.iaload, 1) := by decide +kernel
theorem d_y_hopBy_57 : decode (ch_bc m_y_hopBy) 57 = .ok (.iconst 1, 1) := by decide +kernel
theorem d_y_hopBy_58 : decode (ch_bc m_y_hopBy) 58 = .ok (.iadd, 1) := by decide +kernel
theorem d_y_hopBy_59 : decode (ch_bc m_y_hopBy) 59 = .ok (.iastore, 1) := by decide +kernel
theorem d_y_hopBy_60 : decode (ch_bc m_y_hopBy) 60 = .ok (.aload_n 0, 1) := by decide +kernel
theorem d_y_hopBy_61 : decode (ch_bc m_y_hopBy) 61 = .ok (.iload 4, 2) := by decide +kernel
theorem d_y_hopBy_63 : decode (ch_bc m_y_hopBy) 63 = .ok (.iconst 1, 1) := by decide +kernel
theorem d_y_hopBy_64 : decode (ch_bc m_y_hopBy) 64 = .ok (.invokevirtual 137, 3) := by decide +kernel
theorem d_y_hopBy_67 : decode (ch_bc m_y_hopBy) 67 = .ok (.pop, 1) := by decide +kernel
theorem d_y_hopBy_68 : decode (ch_bc m_y_hopBy) 68 = .ok (.iinc 5 1, 3) := by decide +kernel
theorem d_y_hopBy_71 : decode (ch_bc m_y_hopBy) 71 = .ok (.goto (-58), 3) := by decide +kernel
theorem d_y_hopBy_74 : decode (ch_bc m_y_hopBy) 74 = .ok (.aload_n 0, 1) := by decide +kernel
theorem d_y_hopBy_75 : decode (ch_bc m_y_hopBy) 75 = .ok (.getfield 21, 3) := by decide +kernel
theorem d_y_hopBy_78 : decode (ch_bc m_y_hopBy) 78 = .ok (.iload_n 1, 1) := by decide +kernel
theorem d_y_hopBy_79 : decode (ch_bc m_y_hopBy) 79 = .ok (.dup2, 1) := by decide +kernel
theorem d_y_hopBy_80 : decode (ch_bc m_y_hopBy) 80 = .ok (.iaload, 1) := by decide +kernel
theorem d_y_hopBy_81 : decode (ch_bc m_y_hopBy) 81 = .ok (.iload_n 3, 1) := by decide +kernel
theorem d_y_hopBy_82 : decode (ch_bc m_y_hopBy) 82 = .ok (.iadd, 1) := by decide +kernel
theorem d_y_hopBy_83 : decode (ch_bc m_y_hopBy) 83 = .ok (.iastore, 1) := by decide +kernel
theorem d_y_hopBy_84 : decode (ch_bc m_y_hopBy) 84 = .ok (.aload_n 0, 1) := by decide +kernel
theorem d_y_hopBy_85 : decode (ch_bc m_y_hopBy) 85 = .ok (.dup, 1) := by decide +kernel
theorem d_y_hopBy_86 : decode (ch_bc m_y_hopBy) 86 = .ok (.getfield 55, 3) := by decide +kernel
theorem d_y_hopBy_89 : decode (ch_bc m_y_hopBy) 89 = .ok (.iload_n 3, 1) := by decide +kernel
theorem d_y_hopBy_90 : decode (ch_bc m_y_hopBy) 90 = .ok (.iadd, 1) := by decide +kernel
theorem d_y_hopBy_91 : decode (ch_bc m_y_hopBy) 91 = .ok (.putfield 55, 3) := by decide +kernel
theorem d_y_hopBy_94 : decode (ch_bc m_y_hopBy) 94 = .ok (.aload_n 0, 1) := by decide +kernel
theorem d_y_hopBy_95 : decode (ch_bc m_y_hopBy) 95 = .ok (.getfield 27, 3) := by decide +kernel
theorem d_y_hopBy_98 : decode (ch_bc m_y_hopBy) 98 = .ok (.iload_n 1, 1) := by decide +kernel
theorem d_y_hopBy_99 : decode (ch_bc m_y_hopBy) 99 = .ok (.dup2, 1) := by decide +kernel
theorem d_y_hopBy_100 : decode (ch_bc m_y_hopBy) 100 = .ok (.iaload, 1) := by decide +kernel
theorem d_y_hopBy_101 : decode (ch_bc m_y_hopBy) 101 = .ok (.iconst 1, 1) := by decide +kernel
theorem d_y_hopBy_102 : decode (ch_bc m_y_hopBy) 102 = .ok (.iadd, 1) := by decide +kernel
theorem d_y_hopBy_103 : decode (ch_bc m_y_hopBy) 103 = .ok (.iastore, 1) := by decide +kernel
theorem d_y_hopBy_104 : decode (ch_bc m_y_hopBy) 104 = .ok (.iload_n 3, 1) := by decide +kernel
theorem d_y_hopBy_105 : decode (ch_bc m_y_hopBy) 105 = .ok (.ireturn, 1) := by decide +kernel
theorem d_y_writeAgainst_0 : decode (ch_bc m_y_writeAgainst) 0 = .ok (.aload_n 0, 1) := by decide +kernel
theorem d_y_writeAgainst_1 : decode (ch_bc m_y_writeAgainst) 1 = .ok (.getfield 24, 3) := by decide +kernel
theorem d_y_writeAgainst_4 : decode (ch_bc m_y_writeAgainst) 4 = .ok (.iload_n 1, 1) := by decide +kernel
theorem d_y_writeAgainst_5 : decode (ch_bc m_y_writeAgainst) 5 = .ok (.aload_n 0, 1) := by decide +kernel
theorem d_y_writeAgainst_6 : decode (ch_bc m_y_writeAgainst) 6 = .ok (.getfield 21, 3) := by decide +kernel
theorem d_y_writeAgainst_9 : decode (ch_bc m_y_writeAgainst) 9 = .ok (.iload_n 1, 1) := by decide +kernel
theorem d_y_writeAgainst_10 : decode (ch_bc m_y_writeAgainst) 10 = .ok (.iaload, 1) := by decide +kernel
theorem d_y_writeAgainst_11 : decode (ch_bc m_y_writeAgainst) 11 = .ok (.bipush 9, 2) := by decide +kernel
theorem d_y_writeAgainst_13 : decode (ch_bc m_y_writeAgainst) 13 = .ok (.invokestatic 117, 3) := by decide +kernel
theorem d_y_writeAgainst_16 : decode (ch_bc m_y_writeAgainst) 16 = .ok (.iastore, 1) := by decide +kernel
theorem d_y_writeAgainst_17 : decode (ch_bc m_y_writeAgainst) 17 = .ok (.aload_n 0, 1) := by decide +kernel
theorem d_y_writeAgainst_18 : decode (ch_bc m_y_writeAgainst) 18 = .ok (.getfield 21, 3) := by decide +kernel
theorem d_y_writeAgainst_21 : decode (ch_bc m_y_writeAgainst) 21 = .ok (.iload_n 1, 1) := by decide +kernel
theorem d_y_writeAgainst_22 : decode (ch_bc m_y_writeAgainst) 22 = .ok (.iconst 0, 1) := by decide +kernel
theorem d_y_writeAgainst_23 : decode (ch_bc m_y_writeAgainst) 23 = .ok (.iastore, 1) := by decide +kernel
theorem d_y_writeAgainst_24 : decode (ch_bc m_y_writeAgainst) 24 = .ok (.aload_n 0, 1) := by decide +kernel
theorem d_y_writeAgainst_25 : decode (ch_bc m_y_writeAgainst) 25 = .ok (.getfield 33, 3) := by decide +kernel
theorem d_y_writeAgainst_28 : decode (ch_bc m_y_writeAgainst) 28 = .ok (.aload_n 0, 1) := by decide +kernel
theorem d_y_writeAgainst_29 : decode (ch_bc m_y_writeAgainst) 29 = .ok (.getfield 46, 3) := by decide +kernel
theorem d_y_writeAgainst_32 : decode (ch_bc m_y_writeAgainst) 32 = .ok (.iload_n 1, 1) := by decide +kernel
theorem d_y_writeAgainst_33 : decode (ch_bc m_y_writeAgainst) 33 = .ok (.iastore, 1) := by decide +kernel
theorem d_y_writeAgainst_34 : decode (ch_bc m_y_writeAgainst) 34 = .ok (.aload_n 0, 1) := by decide +kernel
theorem d_y_writeAgainst_35 : decode (ch_bc m_y_writeAgainst) 35 = .ok (.dup, 1) := by decide +kernel
theorem d_y_writeAgainst_36 : decode (ch_bc m_y_writeAgainst) 36 = .ok (.getfield 46, 3) := by decide +kernel
theorem d_y_writeAgainst_39 : decode (ch_bc m_y_writeAgainst) 39 = .ok (.iconst 1, 1) := by decide +kernel
theorem d_y_writeAgainst_40 : decode (ch_bc m_y_writeAgainst) 40 = .ok (.iadd, 1) := by decide +kernel
theorem d_y_writeAgainst_41 : decode (ch_bc m_y_writeAgainst) 41 = .ok (.putfield 46, 3) := by decide +kernel
theorem d_y_writeAgainst_44 : decode (ch_bc m_y_writeAgainst) 44 = .ok (.aload_n 0, 1) := by decide +kernel
theorem d_y_writeAgainst_45 : decode (ch_bc m_y_writeAgainst) 45 = .ok (.dup, 1) := by decide +kernel
theorem d_y_writeAgainst_46 : decode (ch_bc m_y_writeAgainst) 46 = .ok (.getfield 58, 3) := by decide +kernel
theorem d_y_writeAgainst_49 : decode (ch_bc m_y_writeAgainst) 49 = .ok (.iconst 1, 1) := by decide +kernel
theorem d_y_writeAgainst_50 : decode (ch_bc m_y_writeAgainst) 50 = .ok (.iadd, 1) := by decide +kernel
theorem d_y_writeAgainst_51 : decode (ch_bc m_y_writeAgainst) 51 = .ok (.putfield 58, 3) := by decide +kernel
theorem d_y_writeAgainst_54 : decode (ch_bc m_y_writeAgainst) 54 = .ok (.aload_n 0, 1) := by decide +kernel
theorem d_y_writeAgainst_55 : decode (ch_bc m_y_writeAgainst) 55 = .ok (.getfield 24, 3) := by decide +kernel
theorem d_y_writeAgainst_58 : decode (ch_bc m_y_writeAgainst) 58 = .ok (.iload_n 1, 1) := by decide +kernel
theorem d_y_writeAgainst_59 : decode (ch_bc m_y_writeAgainst) 59 = .ok (.iaload, 1) := by decide +kernel
theorem d_y_writeAgainst_60 : decode (ch_bc m_y_writeAgainst) 60 = .ok (.ireturn, 1) := by decide +kernel
theorem d_y_strikeOut_0 : decode (ch_bc m_y_strikeOut) 0 = .ok (.aload_n 0, 1) := by decide +kernel
theorem d_y_strikeOut_1 : decode (ch_bc m_y_strikeOut) 1 = .ok (.getfield 18, 3) := by decide +kernel
theorem d_y_strikeOut_4 : decode (ch_bc m_y_strikeOut) 4 = .ok (.iload_n 1, 1) := by decide +kernel
theorem d_y_strikeOut_5 : decode (ch_bc m_y_strikeOut) 5 = .ok (.dup2, 1) := by decide +kernel
theorem d_y_strikeOut_6 : decode (ch_bc m_y_strikeOut) 6 = .ok (.iaload, 1) := by decide +kernel
theorem d_y_strikeOut_7 : decode (ch_bc m_y_strikeOut) 7 = .ok (.aload_n 0, 1) := by decide +kernel
theorem d_y_strikeOut_8 : decode (ch_bc m_y_strikeOut) 8 = .ok (.getfield 24, 3) := by decide +kernel
theorem d_y_strikeOut_11 : decode (ch_bc m_y_strikeOut) 11 = .ok (.iload_n 1, 1) := by decide +kernel
theorem d_y_strikeOut_12 : decode (ch_bc m_y_strikeOut) 12 = .ok (.iaload, 1) := by decide +kernel
theorem d_y_strikeOut_13 : decode (ch_bc m_y_strikeOut) 13 = .ok (.isub, 1) := by decide +kernel
theorem d_y_strikeOut_14 : decode (ch_bc m_y_strikeOut) 14 = .ok (.iastore, 1) := by decide +kernel
theorem d_y_strikeOut_15 : decode (ch_bc m_y_strikeOut) 15 = .ok (.aload_n 0, 1) := by decide +kernel
theorem d_y_strikeOut_16 : decode (ch_bc m_y_strikeOut) 16 = .ok (.dup, 1) := by decide +kernel
theorem d_y_strikeOut_17 : decode (ch_bc m_y_strikeOut) 17 = .ok (.getfield 49, 3) := by decide +kernel
theorem d_y_strikeOut_20 : decode (ch_bc m_y_strikeOut) 20 = .ok (.aload_n 0, 1) := by decide +kernel
theorem d_y_strikeOut_21 : decode (ch_bc m_y_strikeOut) 21 = .ok (.getfield 24, 3) := by decide +kernel
theorem d_y_strikeOut_24 : decode (ch_bc m_y_strikeOut) 24 = .ok (.iload_n 1, 1) := by decide +kernel
theorem d_y_strikeOut_25 : decode (ch_bc m_y_strikeOut) 25 = .ok (.iaload, 1) := by decide +kernel
theorem d_y_strikeOut_26 : decode (ch_bc m_y_strikeOut) 26 = .ok (.iadd, 1) := by decide +kernel
theorem d_y_strikeOut_27 : decode (ch_bc m_y_strikeOut) 27 = .ok (.putfield 49, 3) := by decide +kernel
theorem d_y_strikeOut_30 : decode (ch_bc m_y_strikeOut) 30 = .ok (.aload_n 0, 1) := by decide +kernel
theorem d_y_strikeOut_31 : decode (ch_bc m_y_strikeOut) 31 = .ok (.getfield 24, 3) := by decide +kernel
theorem d_y_strikeOut_34 : decode (ch_bc m_y_strikeOut) 34 = .ok (.iload_n 1, 1) := by decide +kernel
theorem d_y_strikeOut_35 : decode (ch_bc m_y_strikeOut) 35 = .ok (.iconst 0, 1) := by decide +kernel
theorem d_y_strikeOut_36 : decode (ch_bc m_y_strikeOut) 36 = .ok (.iastore, 1) := by decide +kernel
theorem d_y_strikeOut_37 : decode (ch_bc m_y_strikeOut) 37 = .ok (.aload_n 0, 1) := by decide +kernel
theorem d_y_strikeOut_38 : decode (ch_bc m_y_strikeOut) 38 = .ok (.invokevirtual 140, 3) := by decide +kernel
theorem d_y_strikeOut_41 : decode (ch_bc m_y_strikeOut) 41 = .ok (.pop, 1) := by decide +kernel
theorem d_y_strikeOut_42 : decode (ch_bc m_y_strikeOut) 42 = .ok (.aload_n 0, 1) := by decide +kernel
theorem d_y_strikeOut_43 : decode (ch_bc m_y_strikeOut) 43 = .ok (.getfield 18, 3) := by decide +kernel
theorem d_y_strikeOut_46 : decode (ch_bc m_y_strikeOut) 46 = .ok (.iload_n 1, 1) := by decide +kernel
theorem d_y_strikeOut_47 : decode (ch_bc m_y_strikeOut) 47 = .ok (.iaload, 1) := by decide +kernel
theorem d_y_strikeOut_48 : decode (ch_bc m_y_strikeOut) 48 = .ok (.ireturn, 1) := by decide +kernel
theorem d_y_wash_0 : decode (ch_bc m_y_wash) 0 = .ok (.iconst 0, 1) := by decide +kernel
theorem d_y_wash_1 : decode (ch_bc m_y_wash) 1 = .ok (.istore_n 2, 1) := by decide +kernel
theorem d_y_wash_2 : decode (ch_bc m_y_wash) 2 = .ok (.iconst 0, 1) := by decide +kernel
theorem d_y_wash_3 : decode (ch_bc m_y_wash) 3 = .ok (.istore_n 3, 1) := by decide +kernel
theorem d_y_wash_4 : decode (ch_bc m_y_wash) 4 = .ok (.iload_n 3, 1) := by decide +kernel
theorem d_y_wash_5 : decode (ch_bc m_y_wash) 5 = .ok (.bipush 12, 2) := by decide +kernel
theorem d_y_wash_7 : decode (ch_bc m_y_wash) 7 = .ok (.if_icmp .ge 31, 3) := by decide +kernel
theorem d_y_wash_10 : decode (ch_bc m_y_wash) 10 = .ok (.aload_n 0, 1) := by decide +kernel
theorem d_y_wash_11 : decode (ch_bc m_y_wash) 11 = .ok (.getfield 9, 3) := by decide +kernel
theorem d_y_wash_14 : decode (ch_bc m_y_wash) 14 = .ok (.iload_n 3, 1) := by decide +kernel
theorem d_y_wash_15 : decode (ch_bc m_y_wash) 15 = .ok (.iaload, 1) := by decide +kernel
theorem d_y_wash_16 : decode (ch_bc m_y_wash) 16 = .ok (.iconst (-1), 1) := by decide +kernel
theorem d_y_wash_17 : decode (ch_bc m_y_wash) 17 = .ok (.if_icmp .eq 15, 3) := by decide +kernel
theorem d_y_wash_20 : decode (ch_bc m_y_wash) 20 = .ok (.aload_n 0, 1) := by decide +kernel
theorem d_y_wash_21 : decode (ch_bc m_y_wash) 21 = .ok (.iload_n 3, 1) := by decide +kernel
theorem d_y_wash_22 : decode (ch_bc m_y_wash) 22 = .ok (.iload_n 1, 1) := by decide +kernel
theorem d_y_wash_23 : decode (ch_bc m_y_wash) 23 = .ok (.invokevirtual 137, 3) := by decide +kernel
theorem d_y_wash_26 : decode (ch_bc m_y_wash) 26 = .ok (.ifCond .eq 6, 3) := by decide +kernel
theorem d_y_wash_29 : decode (ch_bc m_y_wash) 29 = .ok (.iinc 2 1, 3) := by decide +kernel
theorem d_y_wash_32 : decode (ch_bc m_y_wash) 32 = .ok (.iinc 3 1, 3) := by decide +kernel
theorem d_y_wash_35 : decode (ch_bc m_y_wash) 35 = .ok (.goto (-31), 3) := by decide +kernel
theorem d_y_wash_38 : decode (ch_bc m_y_wash) 38 = .ok (.iconst 0, 1) := by decide +kernel
theorem d_y_wash_39 : decode (ch_bc m_y_wash) 39 = .ok (.istore_n 3, 1) := by decide +kernel
theorem d_y_wash_40 : decode (ch_bc m_y_wash) 40 = .ok (.iload_n 3, 1) := by decide +kernel
theorem d_y_wash_41 : decode (ch_bc m_y_wash) 41 = .ok (.aload_n 0, 1) := by decide +kernel
theorem d_y_wash_42 : decode (ch_bc m_y_wash) 42 = .ok (.getfield 46, 3) := by decide +kernel
theorem d_y_wash_45 : decode (ch_bc m_y_wash) 45 = .ok (.if_icmp .ge 37, 3) := by decide +kernel
theorem d_y_wash_48 : decode (ch_bc m_y_wash) 48 = .ok (.aload_n 0, 1) := by decide +kernel
theorem d_y_wash_49 : decode (ch_bc m_y_wash) 49 = .ok (.getfield 33, 3) := by decide +kernel
theorem d_y_wash_52 : decode (ch_bc m_y_wash) 52 = .ok (.iload_n 3, 1) := by decide +kernel
theorem d_y_wash_53 : decode (ch_bc m_y_wash) 53 = .ok (.iaload, 1) := by decide +kernel
theorem d_y_wash_54 : decode (ch_bc m_y_wash) 54 = .ok (.istore 4, 2) := by decide +kernel
theorem d_y_wash_56 : decode (ch_bc m_y_wash) 56 = .ok (.aload_n 0, 1) := by decide +kernel
theorem d_y_wash_57 : decode (ch_bc m_y_wash) 57 = .ok (.getfield 24, 3) := by decide +kernel
theorem d_y_wash_60 : decode (ch_bc m_y_wash) 60 = .ok (.iload 4, 2) := by decide +kernel
theorem d_y_wash_62 : decode (ch_bc m_y_wash) 62 = .ok (.aload_n 0, 1) := by decide +kernel
theorem d_y_wash_63 : decode (ch_bc m_y_wash) 63 = .ok (.getfield 24, 3) := by decide +kernel
theorem d_y_wash_66 : decode (ch_bc m_y_wash) 66 = .ok (.iload 4, 2) := by decide +kernel
theorem d_y_wash_68 : decode (ch_bc m_y_wash) 68 = .ok (.iaload, 1) := by decide +kernel
theorem d_y_wash_69 : decode (ch_bc m_y_wash) 69 = .ok (.iload_n 1, 1) := by decide +kernel
theorem d_y_wash_70 : decode (ch_bc m_y_wash) 70 = .ok (.isub, 1) := by decide +kernel
theorem d_y_wash_71 : decode (ch_bc m_y_wash) 71 = .ok (.iconst 0, 1) := by decide +kernel
theorem d_y_wash_72 : decode (ch_bc m_y_wash) 72 = .ok (.invokestatic 143, 3) := by decide +kernel
theorem d_y_wash_75 : decode (ch_bc m_y_wash) 75 = .ok (.iastore, 1) := by decide +kernel
theorem d_y_wash_76 : decode (ch_bc m_y_wash) 76 = .ok (.iinc 3 1, 3) := by decide +kernel
theorem d_y_wash_79 : decode (ch_bc m_y_wash) 79 = .ok (.goto (-39), 3) := by decide +kernel
theorem d_y_wash_82 : decode (ch_bc m_y_wash) 82 = .ok (.aload_n 0, 1) := by decide +kernel
theorem d_y_wash_83 : decode (ch_bc m_y_wash) 83 = .ok (.invokevirtual 140, 3) := by decide +kernel
theorem d_y_wash_86 : decode (ch_bc m_y_wash) 86 = .ok (.istore_n 3, 1) := by decide +kernel
theorem d_y_wash_87 : decode (ch_bc m_y_wash) 87 = .ok (.aload_n 0, 1) := by decide +kernel
theorem d_y_wash_88 : decode (ch_bc m_y_wash) 88 = .ok (.dup, 1) := by decide +kernel
theorem d_y_wash_89 : decode (ch_bc m_y_wash) 89 = .ok (.getfield 61, 3) := by decide +kernel
theorem d_y_wash_92 : decode (ch_bc m_y_wash) 92 = .ok (.iload_n 3, 1) := by decide +kernel
theorem d_y_wash_93 : decode (ch_bc m_y_wash) 93 = .ok (.iadd, 1) := by decide +kernel
theorem d_y_wash_94 : decode (ch_bc m_y_wash) 94 = .ok (.putfield 61, 3) := by decide +kernel
theorem d_y_wash_97 : decode (ch_bc m_y_wash) 97 = .ok (.iload_n 2, 1) := by decide +kernel
theorem d_y_wash_98 : decode (ch_bc m_y_wash) 98 = .ok (.iload_n 3, 1) := by decide +kernel
theorem d_y_wash_99 : decode (ch_bc m_y_wash) 99 = .ok (.iadd, 1) := by decide +kernel
theorem d_y_wash_100 : decode (ch_bc m_y_wash) 100 = .ok (.ireturn, 1) := by decide +kernel
theorem d_y_endTerm_0 : decode (ch_bc m_y_endTerm) 0 = .ok (.iconst 0, 1) := by decide +kernel
theorem d_y_endTerm_1 : decode (ch_bc m_y_endTerm) 1 = .ok (.istore_n 1, 1) := by decide +kernel
theorem d_y_endTerm_2 : decode (ch_bc m_y_endTerm) 2 = .ok (.iconst 0, 1) := by decide +kernel
theorem d_y_endTerm_3 : decode (ch_bc m_y_endTerm) 3 = .ok (.istore_n 2, 1) := by decide +kernel
theorem d_y_endTerm_4 : decode (ch_bc m_y_endTerm) 4 = .ok (.iload_n 2, 1) := by decide +kernel
theorem d_y_endTerm_5 : decode (ch_bc m_y_endTerm) 5 = .ok (.aload_n 0, 1) := by decide +kernel
theorem d_y_endTerm_6 : decode (ch_bc m_y_endTerm) 6 = .ok (.getfield 42, 3) := by decide +kernel
theorem d_y_endTerm_9 : decode (ch_bc m_y_endTerm) 9 = .ok (.if_icmp .ge 17, 3) := by decide +kernel
theorem d_y_endTerm_12 : decode (ch_bc m_y_endTerm) 12 = .ok (.iload_n 1, 1) := by decide +kernel
theorem d_y_endTerm_13 : decode (ch_bc m_y_endTerm) 13 = .ok (.aload_n 0, 1) := by decide +kernel
theorem d_y_endTerm_14 : decode (ch_bc m_y_endTerm) 14 = .ok (.iload_n 2, 1) := by decide +kernel
theorem d_y_endTerm_15 : decode (ch_bc m_y_endTerm) 15 = .ok (.invokevirtual 146, 3) := by decide +kernel
theorem d_y_endTerm_18 : decode (ch_bc m_y_endTerm) 18 = .ok (.iadd, 1) := by decide +kernel
theorem d_y_endTerm_19 : decode (ch_bc m_y_endTerm) 19 = .ok (.istore_n 1, 1) := by decide +kernel
theorem d_y_endTerm_20 : decode (ch_bc m_y_endTerm) 20 = .ok (.iinc 2 1, 3) := by decide +kernel
theorem d_y_endTerm_23 : decode (ch_bc m_y_endTerm) 23 = .ok (.goto (-19), 3) := by decide +kernel
theorem d_y_endTerm_26 : decode (ch_bc m_y_endTerm) 26 = .ok (.iconst 0, 1) := by decide +kernel
theorem d_y_endTerm_27 : decode (ch_bc m_y_endTerm) 27 = .ok (.istore_n 2, 1) := by decide +kernel
theorem d_y_endTerm_28 : decode (ch_bc m_y_endTerm) 28 = .ok (.iload_n 2, 1) := by decide +kernel
theorem d_y_endTerm_29 : decode (ch_bc m_y_endTerm) 29 = .ok (.aload_n 0, 1) := by decide +kernel
theorem d_y_endTerm_30 : decode (ch_bc m_y_endTerm) 30 = .ok (.getfield 42, 3) := by decide +kernel
theorem d_y_endTerm_33 : decode (ch_bc m_y_endTerm) 33 = .ok (.if_icmp .ge 36, 3) := by decide +kernel
theorem d_y_endTerm_36 : decode (ch_bc m_y_endTerm) 36 = .ok (.aload_n 0, 1) := by decide +kernel
theorem d_y_endTerm_37 : decode (ch_bc m_y_endTerm) 37 = .ok (.getfield 49, 3) := by decide +kernel
theorem d_y_endTerm_40 : decode (ch_bc m_y_endTerm) 40 = .ok (.ifCond .le 29, 3) := by decide +kernel
theorem d_y_endTerm_43 : decode (ch_bc m_y_endTerm) 43 = .ok (.aload_n 0, 1) := by decide +kernel
theorem d_y_endTerm_44 : decode (ch_bc m_y_endTerm) 44 = .ok (.dup, 1) := by decide +kernel
theorem d_y_endTerm_45 : decode (ch_bc m_y_endTerm) 45 = .ok (.getfield 49, 3) := by decide +kernel
theorem d_y_endTerm_48 : decode (ch_bc m_y_endTerm) 48 = .ok (.iconst 1, 1) := by decide +kernel
theorem d_y_endTerm_49 : decode (ch_bc m_y_endTerm) 49 = .ok (.isub, 1) := by decide +kernel
theorem d_y_endTerm_50 : decode (ch_bc m_y_endTerm) 50 = .ok (.putfield 49, 3) := by decide +kernel
theorem d_y_endTerm_53 : decode (ch_bc m_y_endTerm) 53 = .ok (.aload_n 0, 1) := by decide +kernel
theorem d_y_endTerm_54 : decode (ch_bc m_y_endTerm) 54 = .ok (.getfield 18, 3) := by decide +kernel
theorem d_y_endTerm_57 : decode (ch_bc m_y_endTerm) 57 = .ok (.iload_n 2, 1) := by decide +kernel
theorem d_y_endTerm_58 : decode (ch_bc m_y_endTerm) 58 = .ok (.dup2, 1) := by decide +kernel
theorem d_y_endTerm_59 : decode (ch_bc m_y_endTerm) 59 = .ok (.iaload, 1) := by decide +kernel
theorem d_y_endTerm_60 : decode (ch_bc m_y_endTerm) 60 = .ok (.iconst 1, 1) := by decide +kernel
theorem d_y_endTerm_61 : decode (ch_bc m_y_endTerm) 61 = .ok (.iadd, 1) := by decide +kernel
theorem d_y_endTerm_62 : decode (ch_bc m_y_endTerm) 62 = .ok (.iastore, 1) := by decide +kernel
theorem d_y_endTerm_63 : decode (ch_bc m_y_endTerm) 63 = .ok (.iinc 2 1, 3) := by decide +kernel
theorem d_y_endTerm_66 : decode (ch_bc m_y_endTerm) 66 = .ok (.goto (-38), 3) := by decide +kernel
theorem d_y_endTerm_69 : decode (ch_bc m_y_endTerm) 69 = .ok (.aload_n 0, 1) := by decide +kernel
theorem d_y_endTerm_70 : decode (ch_bc m_y_endTerm) 70 = .ok (.dup, 1) := by decide +kernel
theorem d_y_endTerm_71 : decode (ch_bc m_y_endTerm) 71 = .ok (.getfield 64, 3) := by decide +kernel
theorem d_y_endTerm_74 : decode (ch_bc m_y_endTerm) 74 = .ok (.iload_n 1, 1) := by decide +kernel
theorem d_y_endTerm_75 : decode (ch_bc m_y_endTerm) 75 = .ok (.iadd, 1) := by decide +kernel
theorem d_y_endTerm_76 : decode (ch_bc m_y_endTerm) 76 = .ok (.putfield 64, 3) := by decide +kernel
theorem d_y_endTerm_79 : decode (ch_bc m_y_endTerm) 79 = .ok (.aload_n 0, 1) := by decide +kernel
theorem d_y_endTerm_80 : decode (ch_bc m_y_endTerm) 80 = .ok (.dup, 1) := by decide +kernel
theorem d_y_endTerm_81 : decode (ch_bc m_y_endTerm) 81 = .ok (.getfield 67, 3) := by decide +kernel
theorem d_y_endTerm_84 : decode (ch_bc m_y_endTerm) 84 = .ok (.iconst 1, 1) := by decide +kernel
theorem d_y_endTerm_85 : decode (ch_bc m_y_endTerm) 85 = .ok (.iadd, 1) := by decide +kernel
theorem d_y_endTerm_86 : decode (ch_bc m_y_endTerm) 86 = .ok (.putfield 67, 3) := by decide +kernel
theorem d_y_endTerm_89 : decode (ch_bc m_y_endTerm) 89 = .ok (.iload_n 1, 1) := by decide +kernel
theorem d_y_endTerm_90 : decode (ch_bc m_y_endTerm) 90 = .ok (.ireturn, 1) := by decide +kernel
theorem d_y_payRents_0 : decode (ch_bc m_y_payRents) 0 = .ok (.iconst 0, 1) := by decide +kernel
theorem d_y_payRents_1 : decode (ch_bc m_y_payRents) 1 = .ok (.istore_n 2, 1) := by decide +kernel
theorem d_y_payRents_2 : decode (ch_bc m_y_payRents) 2 = .ok (.iconst 0, 1) := by decide +kernel
theorem d_y_payRents_3 : decode (ch_bc m_y_payRents) 3 = .ok (.istore_n 3, 1) := by decide +kernel
theorem d_y_payRents_4 : decode (ch_bc m_y_payRents) 4 = .ok (.iload_n 3, 1) := by decide +kernel
theorem d_y_payRents_5 : decode (ch_bc m_y_payRents) 5 = .ok (.bipush 12, 2) := by decide +kernel
theorem d_y_payRents_7 : decode (ch_bc m_y_payRents) 7 = .ok (.if_icmp .ge 65, 3) := by decide +kernel
theorem d_y_payRents_10 : decode (ch_bc m_y_payRents) 10 = .ok (.aload_n 0, 1) := by decide +kernel
theorem d_y_payRents_11 : decode (ch_bc m_y_payRents) 11 = .ok (.getfield 9, 3) := by decide +kernel
theorem d_y_payRents_14 : decode (ch_bc m_y_payRents) 14 = .ok (.iload_n 3, 1) := by decide +kernel
theorem d_y_payRents_15 : decode (ch_bc m_y_payRents) 15 = .ok (.iaload, 1) := by decide +kernel
theorem d_y_payRents_16 : decode (ch_bc m_y_payRents) 16 = .ok (.iload_n 1, 1) := by decide +kernel
theorem d_y_payRents_17 : decode (ch_bc m_y_payRents) 17 = .ok (.if_icmp .eq 6, 3) := by decide +kernel
theorem d_y_payRents_20 : decode (ch_bc m_y_payRents) 20 = .ok (.goto 46, 3) := by decide +kernel
theorem d_y_payRents_23 : decode (ch_bc m_y_payRents) 23 = .ok (.aload_n 0, 1) := by decide +kernel
theorem d_y_payRents_24 : decode (ch_bc m_y_payRents) 24 = .ok (.getfield 18, 3) := by decide +kernel
theorem d_y_payRents_27 : decode (ch_bc m_y_payRents) 27 = .ok (.iload_n 1, 1) := by decide +kernel
theorem d_y_payRents_28 : decode (ch_bc m_y_payRents) 28 = .ok (.iaload, 1) := by decide +kernel
theorem d_y_payRents_29 : decode (ch_bc m_y_payRents) 29 = .ok (.ifCond .le 26, 3) := by decide +kernel
theorem d_y_payRents_32 : decode (ch_bc m_y_payRents) 32 = .ok (.aload_n 0, 1) := by decide +kernel
theorem d_y_payRents_33 : decode (ch_bc m_y_payRents) 33 = .ok (.getfield 18, 3) := by decide +kernel
theorem d_y_payRents_36 : decode (ch_bc m_y_payRents) 36 = .ok (.iload_n 1, 1) := by decide +kernel
theorem d_y_payRents_37 : decode (ch_bc m_y_payRents) 37 = .ok (.dup2, 1) := by decide +kernel
theorem d_y_payRents_38 : decode (ch_bc m_y_payRents) 38 = .ok (.iaload, 1) := by decide +kernel
theorem d_y_payRents_39 : decode (ch_bc m_y_payRents) 39 = .ok (.iconst 1, 1) := by decide +kernel
theorem d_y_payRents_40 : decode (ch_bc m_y_payRents) 40 = .ok (.isub, 1) := by decide +kernel
theorem d_y_payRents_41 : decode (ch_bc m_y_payRents) 41 = .ok (.iastore, 1) := by decide +kernel
theorem d_y_payRents_42 : decode (ch_bc m_y_payRents) 42 = .ok (.aload_n 0, 1) := by decide +kernel
theorem d_y_payRents_43 : decode (ch_bc m_y_payRents) 43 = .ok (.dup, 1) := by decide +kernel
theorem d_y_payRents_44 : decode (ch_bc m_y_payRents) 44 = .ok (.getfield 49, 3) := by decide +kernel
theorem d_y_payRents_47 : decode (ch_bc m_y_payRents) 47 = .ok (.iconst 1, 1) := by decide +kernel
theorem d_y_payRents_48 : decode (ch_bc m_y_payRents) 48 = .ok (.iadd, 1) := by decide +kernel
theorem d_y_payRents_49 : decode (ch_bc m_y_payRents) 49 = .ok (.putfield 49, 3) := by decide +kernel
theorem d_y_payRents_52 : decode (ch_bc m_y_payRents) 52 = .ok (.goto 14, 3) := by decide +kernel
theorem d_y_payRents_55 : decode (ch_bc m_y_payRents) 55 = .ok (.aload_n 0, 1) := by decide +kernel
theorem d_y_payRents_56 : decode (ch_bc m_y_payRents) 56 = .ok (.iload_n 3, 1) := by decide +kernel
theorem d_y_payRents_57 : decode (ch_bc m_y_payRents) 57 = .ok (.bipush 9, 2) := by decide +kernel
theorem d_y_payRents_59 : decode (ch_bc m_y_payRents) 59 = .ok (.invokevirtual 137, 3) := by decide +kernel
theorem d_y_payRents_62 : decode (ch_bc m_y_payRents) 62 = .ok (.pop, 1) := by decide +kernel
theorem d_y_payRents_63 : decode (ch_bc m_y_payRents) 63 = .ok (.iinc 2 1, 3) := by decide +kernel
theorem d_y_payRents_66 : decode (ch_bc m_y_payRents) 66 = .ok (.iinc 3 1, 3) := by decide +kernel
theorem d_y_payRents_69 : decode (ch_bc m_y_payRents) 69 = .ok (.goto (-65), 3) := by decide +kernel
theorem d_y_payRents_72 : decode (ch_bc m_y_payRents) 72 = .ok (.iload_n 2, 1) := by decide +kernel
theorem d_y_payRents_73 : decode (ch_bc m_y_payRents) 73 = .ok (.ireturn, 1) := by decide +kernel
theorem d_y_handOver_0 : decode (ch_bc m_y_handOver) 0 = .ok (.aload_n 0, 1) := by decide +kernel
theorem d_y_handOver_1 : decode (ch_bc m_y_handOver) 1 = .ok (.getfield 18, 3) := by decide +kernel
theorem d_y_handOver_4 : decode (ch_bc m_y_handOver) 4 = .ok (.iload_n 1, 1) := by decide +kernel
theorem d_y_handOver_5 : decode (ch_bc m_y_handOver) 5 = .ok (.dup2, 1) := by decide +kernel
theorem d_y_handOver_6 : decode (ch_bc m_y_handOver) 6 = .ok (.iaload, 1) := by decide +kernel
theorem d_y_handOver_7 : decode (ch_bc m_y_handOver) 7 = .ok (.iload_n 3, 1) := by decide +kernel
theorem d_y_handOver_8 : decode (ch_bc m_y_handOver) 8 = .ok (.isub, 1) := by decide +kernel
theorem d_y_handOver_9 : decode (ch_bc m_y_handOver) 9 = .ok (.iastore, 1) := by decide +kernel
theorem d_y_handOver_10 : decode (ch_bc m_y_handOver) 10 = .ok (.aload_n 0, 1) := by decide +kernel
theorem d_y_handOver_11 : decode (ch_bc m_y_handOver) 11 = .ok (.getfield 18, 3) := by decide +kernel
theorem d_y_handOver_14 : decode (ch_bc m_y_handOver) 14 = .ok (.iload_n 2, 1) := by decide +kernel
theorem d_y_handOver_15 : decode (ch_bc m_y_handOver) 15 = .ok (.dup2, 1) := by decide +kernel
theorem d_y_handOver_16 : decode (ch_bc m_y_handOver) 16 = .ok (.iaload, 1) := by decide +kernel
theorem d_y_handOver_17 : decode (ch_bc m_y_handOver) 17 = .ok (.iload_n 3, 1) := by decide +kernel
theorem d_y_handOver_18 : decode (ch_bc m_y_handOver) 18 = .ok (.iadd, 1) := by decide +kernel
theorem d_y_handOver_19 : decode (ch_bc m_y_handOver) 19 = .ok (.iastore, 1) := by decide +kernel
theorem d_y_handOver_20 : decode (ch_bc m_y_handOver) 20 = .ok (.aload_n 0, 1) := by decide +kernel
theorem d_y_handOver_21 : decode (ch_bc m_y_handOver) 21 = .ok (.getfield 18, 3) := by decide +kernel
theorem d_y_handOver_24 : decode (ch_bc m_y_handOver) 24 = .ok (.iload_n 1, 1) := by decide +kernel
theorem d_y_handOver_25 : decode (ch_bc m_y_handOver) 25 = .ok (.iaload, 1) := by decide +kernel
theorem d_y_handOver_26 : decode (ch_bc m_y_handOver) 26 = .ok (.ireturn, 1) := by decide +kernel
theorem d_y_takeChalk_0 : decode (ch_bc m_y_takeChalk) 0 = .ok (.aload_n 0, 1) := by decide +kernel
theorem d_y_takeChalk_1 : decode (ch_bc m_y_takeChalk) 1 = .ok (.getfield 15, 3) := by decide +kernel
theorem d_y_takeChalk_4 : decode (ch_bc m_y_takeChalk) 4 = .ok (.iload_n 1, 1) := by decide +kernel
theorem d_y_takeChalk_5 : decode (ch_bc m_y_takeChalk) 5 = .ok (.aload_n 0, 1) := by decide +kernel
theorem d_y_takeChalk_6 : decode (ch_bc m_y_takeChalk) 6 = .ok (.getfield 15, 3) := by decide +kernel
theorem d_y_takeChalk_9 : decode (ch_bc m_y_takeChalk) 9 = .ok (.iload_n 1, 1) := by decide +kernel
theorem d_y_takeChalk_10 : decode (ch_bc m_y_takeChalk) 10 = .ok (.iaload, 1) := by decide +kernel
theorem d_y_takeChalk_11 : decode (ch_bc m_y_takeChalk) 11 = .ok (.iload_n 2, 1) := by decide +kernel
theorem d_y_takeChalk_12 : decode (ch_bc m_y_takeChalk) 12 = .ok (.isub, 1) := by decide +kernel
theorem d_y_takeChalk_13 : decode (ch_bc m_y_takeChalk) 13 = .ok (.iconst 0, 1) := by decide +kernel
theorem d_y_takeChalk_14 : decode (ch_bc m_y_takeChalk) 14 = .ok (.invokestatic 143, 3) := by decide +kernel
theorem d_y_takeChalk_17 : decode (ch_bc m_y_takeChalk) 17 = .ok (.iastore, 1) := by decide +kernel
theorem d_y_takeChalk_18 : decode (ch_bc m_y_takeChalk) 18 = .ok (.aload_n 0, 1) := by decide +kernel
theorem d_y_takeChalk_19 : decode (ch_bc m_y_takeChalk) 19 = .ok (.getfield 15, 3) := by decide +kernel
theorem d_y_takeChalk_22 : decode (ch_bc m_y_takeChalk) 22 = .ok (.iload_n 1, 1) := by decide +kernel
theorem d_y_takeChalk_23 : decode (ch_bc m_y_takeChalk) 23 = .ok (.iaload, 1) := by decide +kernel
theorem d_y_takeChalk_24 : decode (ch_bc m_y_takeChalk) 24 = .ok (.ifCond .ne 10, 3) := by decide +kernel
theorem d_y_takeChalk_27 : decode (ch_bc m_y_takeChalk) 27 = .ok (.aload_n 0, 1) := by decide +kernel
theorem d_y_takeChalk_28 : decode (ch_bc m_y_takeChalk) 28 = .ok (.getfield 9, 3) := by decide +kernel
theorem d_y_takeChalk_31 : decode (ch_bc m_y_takeChalk) 31 = .ok (.iload_n 1, 1) := by decide +kernel
theorem d_y_takeChalk_32 : decode (ch_bc m_y_takeChalk) 32 = .ok (.iconst (-1), 1) := by decide +kernel
theorem d_y_takeChalk_33 : decode (ch_bc m_y_takeChalk) 33 = .ok (.iastore, 1) := by decide +kernel
theorem d_y_takeChalk_34 : decode (ch_bc m_y_takeChalk) 34 = .ok (.aload_n 0, 1) := by decide +kernel
theorem d_y_takeChalk_35 : decode (ch_bc m_y_takeChalk) 35 = .ok (.getfield 15, 3) := by decide +kernel
theorem d_y_takeChalk_38 : decode (ch_bc m_y_takeChalk) 38 = .ok (.iload_n 1, 1) := by decide +kernel
theorem d_y_takeChalk_39 : decode (ch_bc m_y_takeChalk) 39 = .ok (.iaload, 1) := by decide +kernel
theorem d_y_takeChalk_40 : decode (ch_bc m_y_takeChalk) 40 = .ok (.ifCond .ne 7, 3) := by decide +kernel
theorem d_y_takeChalk_43 : decode (ch_bc m_y_takeChalk) 43 = .ok (.iconst 1, 1) := by decide +kernel
theorem d_y_takeChalk_44 : decode (ch_bc m_y_takeChalk) 44 = .ok (.goto 4, 3) := by decide +kernel
theorem d_y_takeChalk_47 : decode (ch_bc m_y_takeChalk) 47 = .ok (.iconst 0, 1) := by decide +kernel
theorem d_y_takeChalk_48 : decode (ch_bc m_y_takeChalk) 48 = .ok (.ireturn, 1) := by decide +kernel
theorem d_y_closeOrder_0 : decode (ch_bc m_y_closeOrder) 0 = .ok (.iconst 0, 1) := by decide +kernel
theorem d_y_closeOrder_1 : decode (ch_bc m_y_closeOrder) 1 = .ok (.istore_n 1, 1) := by decide +kernel
theorem d_y_closeOrder_2 : decode (ch_bc m_y_closeOrder) 2 = .ok (.iconst 0, 1) := by decide +kernel
theorem d_y_closeOrder_3 : decode (ch_bc m_y_closeOrder) 3 = .ok (.istore_n 2, 1) := by decide +kernel
theorem d_y_closeOrder_4 : decode (ch_bc m_y_closeOrder) 4 = .ok (.iload_n 2, 1) := by decide +kernel
theorem d_y_closeOrder_5 : decode (ch_bc m_y_closeOrder) 5 = .ok (.aload_n 0, 1) := by decide +kernel
theorem d_y_closeOrder_6 : decode (ch_bc m_y_closeOrder) 6 = .ok (.getfield 46, 3) := by decide +kernel
theorem d_y_closeOrder_9 : decode (ch_bc m_y_closeOrder) 9 = .ok (.if_icmp .ge 35, 3) := by decide +kernel
theorem d_y_closeOrder_12 : decode (ch_bc m_y_closeOrder) 12 = .ok (.aload_n 0, 1) := by decide +kernel
theorem d_y_closeOrder_13 : decode (ch_bc m_y_closeOrder) 13 = .ok (.getfield 33, 3) := by decide +kernel
theorem d_y_closeOrder_16 : decode (ch_bc m_y_closeOrder) 16 = .ok (.iload_n 2, 1) := by decide +kernel
theorem d_y_closeOrder_17 : decode (ch_bc m_y_closeOrder) 17 = .ok (.iaload, 1) := by decide +kernel
theorem d_y_closeOrder_18 : decode (ch_bc m_y_closeOrder) 18 = .ok (.istore_n 3, 1) := by decide +kernel
theorem d_y_closeOrder_19 : decode (ch_bc m_y_closeOrder) 19 = .ok (.aload_n 0, 1) := by decide +kernel
theorem d_y_closeOrder_20 : decode (ch_bc m_y_closeOrder) 20 = .ok (.getfield 24, 3) := by decide +kernel
theorem d_y_closeOrder_23 : decode (ch_bc m_y_closeOrder) 23 = .ok (.iload_n 3, 1) := by decide +kernel
theorem d_y_closeOrder_24 : decode (ch_bc m_y_closeOrder) 24 = .ok (.iaload, 1) := by decide +kernel
theorem d_y_closeOrder_25 : decode (ch_bc m_y_closeOrder) 25 = .ok (.ifCond .le 13, 3) := by decide +kernel
theorem d_y_closeOrder_28 : decode (ch_bc m_y_closeOrder) 28 = .ok (.aload_n 0, 1) := by decide +kernel
theorem d_y_closeOrder_29 : decode (ch_bc m_y_closeOrder) 29 = .ok (.getfield 33, 3) := by decide +kernel
theorem d_y_closeOrder_32 : decode (ch_bc m_y_closeOrder) 32 = .ok (.iload_n 1, 1) := by decide +kernel
theorem d_y_closeOrder_33 : decode (ch_bc m_y_closeOrder) 33 = .ok (.iload_n 3, 1) := by decide +kernel
theorem d_y_closeOrder_34 : decode (ch_bc m_y_closeOrder) 34 = .ok (.iastore, 1) := by decide +kernel
theorem d_y_closeOrder_35 : decode (ch_bc m_y_closeOrder) 35 = .ok (.iinc 1 1, 3) := by decide +kernel
theorem d_y_closeOrder_38 : decode (ch_bc m_y_closeOrder) 38 = .ok (.iinc 2 1, 3) := by decide +kernel
theorem d_y_closeOrder_41 : decode (ch_bc m_y_closeOrder) 41 = .ok (.goto (-37), 3) := by decide +kernel
theorem d_y_closeOrder_44 : decode (ch_bc m_y_closeOrder) 44 = .ok (.aload_n 0, 1) := by decide +kernel
theorem d_y_closeOrder_45 : decode (ch_bc m_y_closeOrder) 45 = .ok (.getfield 46, 3) := by decide +kernel
theorem d_y_closeOrder_48 : decode (ch_bc m_y_closeOrder) 48 = .ok (.iload_n 1, 1) := by decide +kernel
theorem d_y_closeOrder_49 : decode (ch_bc m_y_closeOrder) 49 = .ok (.isub, 1) := by decide +kernel
theorem d_y_closeOrder_50 : decode (ch_bc m_y_closeOrder) 50 = .ok (.istore_n 2, 1) := by decide +kernel
theorem d_y_closeOrder_51 : decode (ch_bc m_y_closeOrder) 51 = .ok (.aload_n 0, 1) := by decide +kernel
theorem d_y_closeOrder_52 : decode (ch_bc m_y_closeOrder) 52 = .ok (.iload_n 1, 1) := by decide +kernel
theorem d_y_closeOrder_53 : decode (ch_bc m_y_closeOrder) 53 = .ok (.putfield 46, 3) := by decide +kernel
theorem d_y_closeOrder_56 : decode (ch_bc m_y_closeOrder) 56 = .ok (.iload_n 2, 1) := by decide +kernel
theorem d_y_closeOrder_57 : decode (ch_bc m_y_closeOrder) 57 = .ok (.ireturn, 1) := by decide +kernel
theorem d_y_hasChild_0 : decode (ch_bc m_y_hasChild) 0 = .ok (.iload_n 1, 1) := by decide +kernel
theorem d_y_hasChild_1 : decode (ch_bc m_y_hasChild) 1 = .ok (.ifCond .lt 15, 3) := by decide +kernel
theorem d_y_hasChild_4 : decode (ch_bc m_y_hasChild) 4 = .ok (.iload_n 1, 1) := by decide +kernel
theorem d_y_hasChild_5 : decode (ch_bc m_y_hasChild) 5 = .ok (.aload_n 0, 1) := by decide +kernel
theorem d_y_hasChild_6 : decode (ch_bc m_y_hasChild) 6 = .ok (.getfield 42, 3) := by decide +kernel
theorem d_y_hasChild_9 : decode (ch_bc m_y_hasChild) 9 = .ok (.if_icmp .ge 7, 3) := by decide +kernel
theorem d_y_hasChild_12 : decode (ch_bc m_y_hasChild) 12 = .ok (.iconst 1, 1) := by decide +kernel
theorem d_y_hasChild_13 : decode (ch_bc m_y_hasChild) 13 = .ok (.goto 4, 3) := by decide +kernel
theorem d_y_hasChild_16 : decode (ch_bc m_y_hasChild) 16 = .ok (.iconst 0, 1) := by decide +kernel
theorem d_y_hasChild_17 : decode (ch_bc m_y_hasChild) 17 = .ok (.ireturn, 1) := by decide +kernel
theorem d_y_isLineFor_0 : decode (ch_bc m_y_isLineFor) 0 = .ok (.iload_n 2, 1) := by decide +kernel
theorem d_y_isLineFor_1 : decode (ch_bc m_y_isLineFor) 1 = .ok (.ifCond .lt 33, 3) := by decide +kernel
theorem d_y_isLineFor_4 : decode (ch_bc m_y_isLineFor) 4 = .ok (.iload_n 2, 1) := by decide +kernel
theorem d_y_isLineFor_5 : decode (ch_bc m_y_isLineFor) 5 = .ok (.bipush 12, 2) := by decide +kernel
theorem d_y_isLineFor_7 : decode (ch_bc m_y_isLineFor) 7 = .ok (.if_icmp .ge 27, 3) := by decide +kernel
theorem d_y_isLineFor_10 : decode (ch_bc m_y_isLineFor) 10 = .ok (.aload_n 0, 1) := by decide +kernel
theorem d_y_isLineFor_11 : decode (ch_bc m_y_isLineFor) 11 = .ok (.getfield 9, 3) := by decide +kernel
theorem d_y_isLineFor_14 : decode (ch_bc m_y_isLineFor) 14 = .ok (.iload_n 2, 1) := by decide +kernel
theorem d_y_isLineFor_15 : decode (ch_bc m_y_isLineFor) 15 = .ok (.iaload, 1) := by decide +kernel
theorem d_y_isLineFor_16 : decode (ch_bc m_y_isLineFor) 16 = .ok (.iconst (-1), 1) := by decide +kernel
theorem d_y_isLineFor_17 : decode (ch_bc m_y_isLineFor) 17 = .ok (.if_icmp .eq 17, 3) := by decide +kernel
theorem d_y_isLineFor_20 : decode (ch_bc m_y_isLineFor) 20 = .ok (.aload_n 0, 1) := by decide +kernel
theorem d_y_isLineFor_21 : decode (ch_bc m_y_isLineFor) 21 = .ok (.getfield 9, 3) := by decide +kernel
theorem d_y_isLineFor_24 : decode (ch_bc m_y_isLineFor) 24 = .ok (.iload_n 2, 1) := by decide +kernel
theorem d_y_isLineFor_25 : decode (ch_bc m_y_isLineFor) 25 = .ok (.iaload, 1) := by decide +kernel
theorem d_y_isLineFor_26 : decode (ch_bc m_y_isLineFor) 26 = .ok (.iload_n 1, 1) := by decide +kernel
theorem d_y_isLineFor_27 : decode (ch_bc m_y_isLineFor) 27 = .ok (.if_icmp .eq 7, 3) := by decide +kernel
theorem d_y_isLineFor_30 : decode (ch_bc m_y_isLineFor) 30 = .ok (.iconst 1, 1) := by decide +kernel
theorem d_y_isLineFor_31 : decode (ch_bc m_y_isLineFor) 31 = .ok (.goto 4, 3) := by decide +kernel
theorem d_y_isLineFor_34 : decode (ch_bc m_y_isLineFor) 34 = .ok (.iconst 0, 1) := by decide +kernel
theorem d_y_isLineFor_35 : decode (ch_bc m_y_isLineFor) 35 = .ok (.ireturn, 1) := by decide +kernel
theorem d_y_countTreads_0 : decode (ch_bc m_y_countTreads) 0 = .ok (.iconst 0, 1) := by decide +kernel
theorem d_y_countTreads_1 : decode (ch_bc m_y_countTreads) 1 = .ok (.istore_n 3, 1) := by decide +kernel
theorem d_y_countTreads_2 : decode (ch_bc m_y_countTreads) 2 = .ok (.iconst (-1), 1) := by decide +kernel
theorem d_y_countTreads_3 : decode (ch_bc m_y_countTreads) 3 = .ok (.istore 4, 2) := by decide +kernel
theorem d_y_countTreads_5 : decode (ch_bc m_y_countTreads) 5 = .ok (.iconst 0, 1) := by decide +kernel
theorem d_y_countTreads_6 : decode (ch_bc m_y_countTreads) 6 = .ok (.istore 5, 2) := by decide +kernel
theorem d_y_countTreads_8 : decode (ch_bc m_y_countTreads) 8 = .ok (.iload 5, 2) := by decide +kernel
theorem d_y_countTreads_10 : decode (ch_bc m_y_countTreads) 10 = .ok (.aload_n 2, 1) := by decide +kernel
theorem d_y_countTreads_11 : decode (ch_bc m_y_countTreads) 11 = .ok (.getfield 125, 3) := by decide +kernel
theorem d_y_countTreads_14 : decode (ch_bc m_y_countTreads) 14 = .ok (.if_icmp .ge 34, 3) := by decide +kernel
theorem d_y_countTreads_17 : decode (ch_bc m_y_countTreads) 17 = .ok (.iload 4, 2) := by decide +kernel
theorem d_y_countTreads_19 : decode (ch_bc m_y_countTreads) 19 = .ok (.aload_n 2, 1) := by decide +kernel
theorem d_y_countTreads_20 : decode (ch_bc m_y_countTreads) 20 = .ok (.getfield 130, 3) := by decide +kernel
theorem d_y_countTreads_23 : decode (ch_bc m_y_countTreads) 23 = .ok (.iload 5, 2) := by decide +kernel
theorem d_y_countTreads_25 : decode (ch_bc m_y_countTreads) 25 = .ok (.iaload, 1) := by decide +kernel
theorem d_y_countTreads_26 : decode (ch_bc m_y_countTreads) 26 = .ok (.iadd, 1) := by decide +kernel
theorem d_y_countTreads_27 : decode (ch_bc m_y_countTreads) 27 = .ok (.istore 4, 2) := by decide +kernel
theorem d_y_countTreads_29 : decode (ch_bc m_y_countTreads) 29 = .ok (.aload_n 0, 1) := by decide +kernel
theorem d_y_countTreads_30 : decode (ch_bc m_y_countTreads) 30 = .ok (.iload_n 1, 1) := by decide +kernel
theorem d_y_countTreads_31 : decode (ch_bc m_y_countTreads) 31 = .ok (.iload 4, 2) := by decide +kernel
theorem d_y_countTreads_33 : decode (ch_bc m_y_countTreads) 33 = .ok (.invokevirtual 133, 3) := by decide +kernel
theorem d_y_countTreads_36 : decode (ch_bc m_y_countTreads) 36 = .ok (.ifCond .eq 6, 3) := by decide +kernel
theorem d_y_countTreads_39 : decode (ch_bc m_y_countTreads) 39 = .ok (.iinc 3 1, 3) := by decide +kernel
theorem d_y_countTreads_42 : decode (ch_bc m_y_countTreads) 42 = .ok (.iinc 5 1, 3) := by decide +kernel
theorem d_y_countTreads_45 : decode (ch_bc m_y_countTreads) 45 = .ok (.goto (-37), 3) := by decide +kernel
theorem d_y_countTreads_48 : decode (ch_bc m_y_countTreads) 48 = .ok (.iload_n 3, 1) := by decide +kernel
theorem d_y_countTreads_49 : decode (ch_bc m_y_countTreads) 49 = .ok (.ireturn, 1) := by decide +kernel
theorem d_y_countOwned_0 : decode (ch_bc m_y_countOwned) 0 = .ok (.iconst 0, 1) := by decide +kernel
theorem d_y_countOwned_1 : decode (ch_bc m_y_countOwned) 1 = .ok (.istore_n 2, 1) := by decide +kernel
theorem d_y_countOwned_2 : decode (ch_bc m_y_countOwned) 2 = .ok (.iconst 0, 1) := by decide +kernel
theorem d_y_countOwned_3 : decode (ch_bc m_y_countOwned) 3 = .ok (.istore_n 3, 1) := by decide +kernel
theorem d_y_countOwned_4 : decode (ch_bc m_y_countOwned) 4 = .ok (.iload_n 3, 1) := by decide +kernel
theorem d_y_countOwned_5 : decode (ch_bc m_y_countOwned) 5 = .ok (.bipush 12, 2) := by decide +kernel
theorem d_y_countOwned_7 : decode (ch_bc m_y_countOwned) 7 = .ok (.if_icmp .ge 22, 3) := by decide +kernel
theorem d_y_countOwned_10 : decode (ch_bc m_y_countOwned) 10 = .ok (.aload_n 0, 1) := by decide +kernel
theorem d_y_countOwned_11 : decode (ch_bc m_y_countOwned) 11 = .ok (.getfield 9, 3) := by decide +kernel
theorem d_y_countOwned_14 : decode (ch_bc m_y_countOwned) 14 = .ok (.iload_n 3, 1) := by decide +kernel
theorem d_y_countOwned_15 : decode (ch_bc m_y_countOwned) 15 = .ok (.iaload, 1) := by decide +kernel
theorem d_y_countOwned_16 : decode (ch_bc m_y_countOwned) 16 = .ok (.iload_n 1, 1) := by decide +kernel
theorem d_y_countOwned_17 : decode (ch_bc m_y_countOwned) 17 = .ok (.if_icmp .ne 6, 3) := by decide +kernel
theorem d_y_countOwned_20 : decode (ch_bc m_y_countOwned) 20 = .ok (.iinc 2 1, 3) := by decide +kernel
theorem d_y_countOwned_23 : decode (ch_bc m_y_countOwned) 23 = .ok (.iinc 3 1, 3) := by decide +kernel
theorem d_y_countOwned_26 : decode (ch_bc m_y_countOwned) 26 = .ok (.goto (-22), 3) := by decide +kernel
theorem d_y_countOwned_29 : decode (ch_bc m_y_countOwned) 29 = .ok (.iload_n 2, 1) := by decide +kernel
theorem d_y_countOwned_30 : decode (ch_bc m_y_countOwned) 30 = .ok (.ireturn, 1) := by decide +kernel
theorem d_y_ownedFrom_0 : decode (ch_bc m_y_ownedFrom) 0 = .ok (.iconst 0, 1) := by decide +kernel
theorem d_y_ownedFrom_1 : decode (ch_bc m_y_ownedFrom) 1 = .ok (.istore_n 3, 1) := by decide +kernel
theorem d_y_ownedFrom_2 : decode (ch_bc m_y_ownedFrom) 2 = .ok (.iconst 0, 1) := by decide +kernel
theorem d_y_ownedFrom_3 : decode (ch_bc m_y_ownedFrom) 3 = .ok (.istore 4, 2) := by decide +kernel
theorem d_y_ownedFrom_5 : decode (ch_bc m_y_ownedFrom) 5 = .ok (.iconst 0, 1) := by decide +kernel
theorem d_y_ownedFrom_6 : decode (ch_bc m_y_ownedFrom) 6 = .ok (.istore 5, 2) := by decide +kernel
theorem d_y_ownedFrom_8 : decode (ch_bc m_y_ownedFrom) 8 = .ok (.iload 5, 2) := by decide +kernel
theorem d_y_ownedFrom_10 : decode (ch_bc m_y_ownedFrom) 10 = .ok (.bipush 12, 2) := by decide +kernel
theorem d_y_ownedFrom_12 : decode (ch_bc m_y_ownedFrom) 12 = .ok (.if_icmp .ge 40, 3) := by decide +kernel
theorem d_y_ownedFrom_15 : decode (ch_bc m_y_ownedFrom) 15 = .ok (.aload_n 0, 1) := by decide +kernel
theorem d_y_ownedFrom_16 : decode (ch_bc m_y_ownedFrom) 16 = .ok (.getfield 9, 3) := by decide +kernel
theorem d_y_ownedFrom_19 : decode (ch_bc m_y_ownedFrom) 19 = .ok (.iload 5, 2) := by decide +kernel
theorem d_y_ownedFrom_21 : decode (ch_bc m_y_ownedFrom) 21 = .ok (.iaload, 1) := by decide +kernel
theorem d_y_ownedFrom_22 : decode (ch_bc m_y_ownedFrom) 22 = .ok (.iload_n 1, 1) := by decide +kernel
theorem d_y_ownedFrom_23 : decode (ch_bc m_y_ownedFrom) 23 = .ok (.if_icmp .ne 23, 3) := by decide +kernel
theorem d_y_ownedFrom_26 : decode (ch_bc m_y_ownedFrom) 26 = .ok (.iload_n 3, 1) := by decide +kernel
theorem d_y_ownedFrom_27 : decode (ch_bc m_y_ownedFrom) 27 = .ok (.iload 4, 2) := by decide +kernel
theorem d_y_ownedFrom_29 : decode (ch_bc m_y_ownedFrom) 29 = .ok (.iload_n 2, 1) := by decide +kernel
theorem d_y_ownedFrom_30 : decode (ch_bc m_y_ownedFrom) 30 = .ok (.if_icmp .lt 10, 3) := by decide +kernel
theorem d_y_ownedFrom_33 : decode (ch_bc m_y_ownedFrom) 33 = .ok (.iconst 1, 1) := by decide +kernel
theorem d_y_ownedFrom_34 : decode (ch_bc m_y_ownedFrom) 34 = .ok (.iload 5, 2) := by decide +kernel
theorem d_y_ownedFrom_36 : decode (ch_bc m_y_ownedFrom) 36 = .ok (.ishl, 1) := by decide +kernel
theorem d_y_ownedFrom_37 : decode (ch_bc m_y_ownedFrom) 37 = .ok (.goto 4, 3) := by decide +kernel
theorem d_y_ownedFrom_40 : decode (ch_bc m_y_ownedFrom) 40 = .ok (.iconst 0, 1) := by decide +kernel
theorem d_y_ownedFrom_41 : decode (ch_bc m_y_ownedFrom) 41 = .ok (.ior, 1) := by decide +kernel
theorem d_y_ownedFrom_42 : decode (ch_bc m_y_ownedFrom) 42 = .ok (.istore_n 3, 1) := by decide +kernel
theorem d_y_ownedFrom_43 : decode (ch_bc m_y_ownedFrom) 43 = .ok (.iinc 4 1, 3) := by decide +kernel
theorem d_y_ownedFrom_46 : decode (ch_bc m_y_ownedFrom) 46 = .ok (.iinc 5 1, 3) := by decide +kernel
theorem d_y_ownedFrom_49 : decode (ch_bc m_y_ownedFrom) 49 = .ok (.goto (-41), 3) := by decide +kernel
theorem d_y_ownedFrom_52 : decode (ch_bc m_y_ownedFrom) 52 = .ok (.iload_n 3, 1) := by decide +kernel
theorem d_y_ownedFrom_53 : decode (ch_bc m_y_ownedFrom) 53 = .ok (.ireturn, 1) := by decide +kernel
theorem d_y_sumChalk_0 : decode (ch_bc m_y_sumChalk) 0 = .ok (.iconst 0, 1) := by decide +kernel
theorem d_y_sumChalk_1 : decode (ch_bc m_y_sumChalk) 1 = .ok (.istore_n 2, 1) := by decide +kernel
theorem d_y_sumChalk_2 : decode (ch_bc m_y_sumChalk) 2 = .ok (.iconst 0, 1) := by decide +kernel
theorem d_y_sumChalk_3 : decode (ch_bc m_y_sumChalk) 3 = .ok (.istore_n 3, 1) := by decide +kernel
theorem d_y_sumChalk_4 : decode (ch_bc m_y_sumChalk) 4 = .ok (.iload_n 3, 1) := by decide +kernel
theorem d_y_sumChalk_5 : decode (ch_bc m_y_sumChalk) 5 = .ok (.bipush 12, 2) := by decide +kernel
theorem d_y_sumChalk_7 : decode (ch_bc m_y_sumChalk) 7 = .ok (.if_icmp .ge 32, 3) := by decide +kernel
theorem d_y_sumChalk_10 : decode (ch_bc m_y_sumChalk) 10 = .ok (.iload_n 2, 1) := by decide +kernel
theorem d_y_sumChalk_11 : decode (ch_bc m_y_sumChalk) 11 = .ok (.aload_n 0, 1) := by decide +kernel
theorem d_y_sumChalk_12 : decode (ch_bc m_y_sumChalk) 12 = .ok (.getfield 9, 3) := by decide +kernel
theorem d_y_sumChalk_15 : decode (ch_bc m_y_sumChalk) 15 = .ok (.iload_n 3, 1) := by decide +kernel
theorem d_y_sumChalk_16 : decode (ch_bc m_y_sumChalk) 16 = .ok (.iaload, 1) := by decide +kernel
theorem d_y_sumChalk_17 : decode (ch_bc m_y_sumChalk) 17 = .ok (.iload_n 1, 1) := by decide +kernel
theorem d_y_sumChalk_18 : decode (ch_bc m_y_sumChalk) 18 = .ok (.if_icmp .ne 12, 3) := by decide +kernel
theorem d_y_sumChalk_21 : decode (ch_bc m_y_sumChalk) 21 = .ok (.aload_n 0, 1) := by decide +kernel
theorem d_y_sumChalk_22 : decode (ch_bc m_y_sumChalk) 22 = .ok (.getfield 15, 3) := by decide +kernel
theorem d_y_sumChalk_25 : decode (ch_bc m_y_sumChalk) 25 = .ok (.iload_n 3, 1) := by decide +kernel
theorem d_y_sumChalk_26 : decode (ch_bc m_y_sumChalk) 26 = .ok (.iaload, 1) := by decide +kernel
theorem d_y_sumChalk_27 : decode (ch_bc m_y_sumChalk) 27 = .ok (.goto 4, 3) := by decide +kernel
theorem d_y_sumChalk_30 : decode (ch_bc m_y_sumChalk) 30 = .ok (.iconst 0, 1) := by decide +kernel
theorem d_y_sumChalk_31 : decode (ch_bc m_y_sumChalk) 31 = .ok (.iadd, 1) := by decide +kernel
theorem d_y_sumChalk_32 : decode (ch_bc m_y_sumChalk) 32 = .ok (.istore_n 2, 1) := by decide +kernel
theorem d_y_sumChalk_33 : decode (ch_bc m_y_sumChalk) 33 = .ok (.iinc 3 1, 3) := by decide +kernel
theorem d_y_sumChalk_36 : decode (ch_bc m_y_sumChalk) 36 = .ok (.goto (-32), 3) := by decide +kernel
theorem d_y_sumChalk_39 : decode (ch_bc m_y_sumChalk) 39 = .ok (.iload_n 2, 1) := by decide +kernel
theorem d_y_sumChalk_40 : decode (ch_bc m_y_sumChalk) 40 = .ok (.ireturn, 1) := by decide +kernel
theorem d_y_sumAllChalk_0 : decode (ch_bc m_y_sumAllChalk) 0 = .ok (.iconst 0, 1) := by decide +kernel
theorem d_y_sumAllChalk_1 : decode (ch_bc m_y_sumAllChalk) 1 = .ok (.istore_n 1, 1) := by decide +kernel
theorem d_y_sumAllChalk_2 : decode (ch_bc m_y_sumAllChalk) 2 = .ok (.iconst 0, 1) := by decide +kernel
theorem d_y_sumAllChalk_3 : decode (ch_bc m_y_sumAllChalk) 3 = .ok (.istore_n 2, 1) := by decide +kernel
theorem d_y_sumAllChalk_4 : decode (ch_bc m_y_sumAllChalk) 4 = .ok (.iload_n 2, 1) := by decide +kernel
theorem d_y_sumAllChalk_5 : decode (ch_bc m_y_sumAllChalk) 5 = .ok (.bipush 12, 2) := by decide +kernel
theorem d_y_sumAllChalk_7 : decode (ch_bc m_y_sumAllChalk) 7 = .ok (.if_icmp .ge 18, 3) := by decide +kernel
theorem d_y_sumAllChalk_10 : decode (ch_bc m_y_sumAllChalk) 10 = .ok (.iload_n 1, 1) := by decide +kernel
theorem d_y_sumAllChalk_11 : decode (ch_bc m_y_sumAllChalk) 11 = .ok (.aload_n 0, 1) := by decide +kernel
theorem d_y_sumAllChalk_12 : decode (ch_bc m_y_sumAllChalk) 12 = .ok (.getfield 15, 3) := by decide +kernel
theorem d_y_sumAllChalk_15 : decode (ch_bc m_y_sumAllChalk) 15 = .ok (.iload_n 2, 1) := by decide +kernel
theorem d_y_sumAllChalk_16 : decode (ch_bc m_y_sumAllChalk) 16 = .ok (.iaload, 1) := by decide +kernel
theorem d_y_sumAllChalk_17 : decode (ch_bc m_y_sumAllChalk) 17 = .ok (.iadd, 1) := by decide +kernel
theorem d_y_sumAllChalk_18 : decode (ch_bc m_y_sumAllChalk) 18 = .ok (.istore_n 1, 1) := by decide +kernel
theorem d_y_sumAllChalk_19 : decode (ch_bc m_y_sumAllChalk) 19 = .ok (.iinc 2 1, 3) := by decide +kernel
theorem d_y_sumAllChalk_22 : decode (ch_bc m_y_sumAllChalk) 22 = .ok (.goto (-18), 3) := by decide +kernel
theorem d_y_sumAllChalk_25 : decode (ch_bc m_y_sumAllChalk) 25 = .ok (.iload_n 1, 1) := by decide +kernel
theorem d_y_sumAllChalk_26 : decode (ch_bc m_y_sumAllChalk) 26 = .ok (.ireturn, 1) := by decide +kernel
theorem d_y_sumPebbles_0 : decode (ch_bc m_y_sumPebbles) 0 = .ok (.iconst 0, 1) := by decide +kernel
theorem d_y_sumPebbles_1 : decode (ch_bc m_y_sumPebbles) 1 = .ok (.istore_n 1, 1) := by decide +kernel
theorem d_y_sumPebbles_2 : decode (ch_bc m_y_sumPebbles) 2 = .ok (.iconst 0, 1) := by decide +kernel
theorem d_y_sumPebbles_3 : decode (ch_bc m_y_sumPebbles) 3 = .ok (.istore_n 2, 1) := by decide +kernel
theorem d_y_sumPebbles_4 : decode (ch_bc m_y_sumPebbles) 4 = .ok (.iload_n 2, 1) := by decide +kernel
theorem d_y_sumPebbles_5 : decode (ch_bc m_y_sumPebbles) 5 = .ok (.aload_n 0, 1) := by decide +kernel
theorem d_y_sumPebbles_6 : decode (ch_bc m_y_sumPebbles) 6 = .ok (.getfield 42, 3) := by decide +kernel
theorem d_y_sumPebbles_9 : decode (ch_bc m_y_sumPebbles) 9 = .ok (.if_icmp .ge 18, 3) := by decide +kernel
theorem d_y_sumPebbles_12 : decode (ch_bc m_y_sumPebbles) 12 = .ok (.iload_n 1, 1) := by decide +kernel
theorem d_y_sumPebbles_13 : decode (ch_bc m_y_sumPebbles) 13 = .ok (.aload_n 0, 1) := by decide +kernel
theorem d_y_sumPebbles_14 : decode (ch_bc m_y_sumPebbles) 14 = .ok (.getfield 18, 3) := by decide +kernel
theorem d_y_sumPebbles_17 : decode (ch_bc m_y_sumPebbles) 17 = .ok (.iload_n 2, 1) := by decide +kernel
theorem d_y_sumPebbles_18 : decode (ch_bc m_y_sumPebbles) 18 = .ok (.iaload, 1) := by decide +kernel
theorem d_y_sumPebbles_19 : decode (ch_bc m_y_sumPebbles) 19 = .ok (.iadd, 1) := by decide +kernel
theorem d_y_sumPebbles_20 : decode (ch_bc m_y_sumPebbles) 20 = .ok (.istore_n 1, 1) := by decide +kernel
theorem d_y_sumPebbles_21 : decode (ch_bc m_y_sumPebbles) 21 = .ok (.iinc 2 1, 3) := by decide +kernel
theorem d_y_sumPebbles_24 : decode (ch_bc m_y_sumPebbles) 24 = .ok (.goto (-20), 3) := by decide +kernel
theorem d_y_sumPebbles_27 : decode (ch_bc m_y_sumPebbles) 27 = .ok (.iload_n 1, 1) := by decide +kernel
theorem d_y_sumPebbles_28 : decode (ch_bc m_y_sumPebbles) 28 = .ok (.ireturn, 1) := by decide +kernel
theorem d_y_longestRun_0 : decode (ch_bc m_y_longestRun) 0 = .ok (.iconst 0, 1) := by decide +kernel
theorem d_y_longestRun_1 : decode (ch_bc m_y_longestRun) 1 = .ok (.istore_n 2, 1) := by decide +kernel
theorem d_y_longestRun_2 : decode (ch_bc m_y_longestRun) 2 = .ok (.iconst 0, 1) := by decide +kernel
theorem d_y_longestRun_3 : decode (ch_bc m_y_longestRun) 3 = .ok (.istore_n 3, 1) := by decide +kernel
theorem d_y_longestRun_4 : decode (ch_bc m_y_longestRun) 4 = .ok (.iconst 0, 1) := by decide +kernel
theorem d_y_longestRun_5 : decode (ch_bc m_y_longestRun) 5 = .ok (.istore 4, 2) := by decide +kernel
theorem d_y_longestRun_7 : decode (ch_bc m_y_longestRun) 7 = .ok (.iload 4, 2) := by decide +kernel
theorem d_y_longestRun_9 : decode (ch_bc m_y_longestRun) 9 = .ok (.bipush 12, 2) := by decide +kernel
theorem d_y_longestRun_11 : decode (ch_bc m_y_longestRun) 11 = .ok (.if_icmp .ge 34, 3) := by decide +kernel
theorem d_y_longestRun_14 : decode (ch_bc m_y_longestRun) 14 = .ok (.aload_n 0, 1) := by decide +kernel
theorem d_y_longestRun_15 : decode (ch_bc m_y_longestRun) 15 = .ok (.getfield 9, 3) := by decide +kernel
theorem d_y_longestRun_18 : decode (ch_bc m_y_longestRun) 18 = .ok (.iload 4, 2) := by decide +kernel
theorem d_y_longestRun_20 : decode (ch_bc m_y_longestRun) 20 = .ok (.iaload, 1) := by decide +kernel
theorem d_y_longestRun_21 : decode (ch_bc m_y_longestRun) 21 = .ok (.iload_n 1, 1) := by decide +kernel
theorem d_y_longestRun_22 : decode (ch_bc m_y_longestRun) 22 = .ok (.if_icmp .ne 9, 3) := by decide +kernel
theorem d_y_longestRun_25 : decode (ch_bc m_y_longestRun) 25 = .ok (.iload_n 3, 1) := by decide +kernel
theorem d_y_longestRun_26 : decode (ch_bc m_y_longestRun) 26 = .ok (.iconst 1, 1) := by decide +kernel
theorem d_y_longestRun_27 : decode (ch_bc m_y_longestRun) 27 = .ok (.iadd, 1) := by decide +kernel
theorem d_y_longestRun_28 : decode (ch_bc m_y_longestRun) 28 = .ok (.goto 4, 3) := by decide +kernel
theorem d_y_longestRun_31 : decode (ch_bc m_y_longestRun) 31 = .ok (.iconst 0, 1) := by decide +kernel
theorem d_y_longestRun_32 : decode (ch_bc m_y_longestRun) 32 = .ok (.istore_n 3, 1) := by decide +kernel
theorem d_y_longestRun_33 : decode (ch_bc m_y_longestRun) 33 = .ok (.iload_n 2, 1) := by decide +kernel
theorem d_y_longestRun_34 : decode (ch_bc m_y_longestRun) 34 = .ok (.iload_n 3, 1) := by decide +kernel
theorem d_y_longestRun_35 : decode (ch_bc m_y_longestRun) 35 = .ok (.invokestatic 143, 3) := by decide +kernel
theorem d_y_longestRun_38 : decode (ch_bc m_y_longestRun) 38 = .ok (.istore_n 2, 1) := by decide +kernel
theorem d_y_longestRun_39 : decode (ch_bc m_y_longestRun) 39 = .ok (.iinc 4 1, 3) := by decide +kernel
theorem d_y_longestRun_42 : decode (ch_bc m_y_longestRun) 42 = .ok (.goto (-35), 3) := by decide +kernel
theorem d_y_longestRun_45 : decode (ch_bc m_y_longestRun) 45 = .ok (.iload_n 2, 1) := by decide +kernel
theorem d_y_longestRun_46 : decode (ch_bc m_y_longestRun) 46 = .ok (.ireturn, 1) := by decide +kernel
theorem d_y_countAhead_0 : decode (ch_bc m_y_countAhead) 0 = .ok (.aload_n 0, 1) := by decide +kernel
theorem d_y_countAhead_1 : decode (ch_bc m_y_countAhead) 1 = .ok (.iload_n 1, 1) := by decide +kernel
theorem d_y_countAhead_2 : decode (ch_bc m_y_countAhead) 2 = .ok (.iload_n 2, 1) := by decide +kernel
theorem d_y_countAhead_3 : decode (ch_bc m_y_countAhead) 3 = .ok (.invokevirtual 149, 3) := by decide +kernel
theorem d_y_countAhead_6 : decode (ch_bc m_y_countAhead) 6 = .ok (.istore_n 3, 1) := by decide +kernel
theorem d_y_countAhead_7 : decode (ch_bc m_y_countAhead) 7 = .ok (.iconst 0, 1) := by decide +kernel
theorem d_y_countAhead_8 : decode (ch_bc m_y_countAhead) 8 = .ok (.istore 4, 2) := by decide +kernel
theorem d_y_countAhead_10 : decode (ch_bc m_y_countAhead) 10 = .ok (.iconst 0, 1) := by decide +kernel
theorem d_y_countAhead_11 : decode (ch_bc m_y_countAhead) 11 = .ok (.istore 5, 2) := by decide +kernel
theorem d_y_countAhead_13 : decode (ch_bc m_y_countAhead) 13 = .ok (.iload 5, 2) := by decide +kernel
theorem d_y_countAhead_15 : decode (ch_bc m_y_countAhead) 15 = .ok (.aload_n 0, 1) := by decide +kernel
theorem d_y_countAhead_16 : decode (ch_bc m_y_countAhead) 16 = .ok (.getfield 42, 3) := by decide +kernel
theorem d_y_countAhead_19 : decode (ch_bc m_y_countAhead) 19 = .ok (.if_icmp .ge 39, 3) := by decide +kernel
theorem d_y_countAhead_22 : decode (ch_bc m_y_countAhead) 22 = .ok (.aload_n 0, 1) := by decide +kernel
theorem d_y_countAhead_23 : decode (ch_bc m_y_countAhead) 23 = .ok (.iload 5, 2) := by decide +kernel
theorem d_y_countAhead_25 : decode (ch_bc m_y_countAhead) 25 = .ok (.iload_n 2, 1) := by decide +kernel
theorem d_y_countAhead_26 : decode (ch_bc m_y_countAhead) 26 = .ok (.invokevirtual 149, 3) := by decide +kernel
theorem d_y_countAhead_29 : decode (ch_bc m_y_countAhead) 29 = .ok (.istore 6, 2) := by decide +kernel
theorem d_y_countAhead_31 : decode (ch_bc m_y_countAhead) 31 = .ok (.iload 6, 2) := by decide +kernel
theorem d_y_countAhead_33 : decode (ch_bc m_y_countAhead) 33 = .ok (.iload_n 3, 1) := by decide +kernel
theorem d_y_countAhead_34 : decode (ch_bc m_y_countAhead) 34 = .ok (.if_icmp .gt 15, 3) := by decide +kernel
theorem d_y_countAhead_37 : decode (ch_bc m_y_countAhead) 37 = .ok (.iload 6, 2) := by decide +kernel
theorem d_y_countAhead_39 : decode (ch_bc m_y_countAhead) 39 = .ok (.iload_n 3, 1) := by decide +kernel
theorem d_y_countAhead_40 : decode (ch_bc m_y_countAhead) 40 = .ok (.if_icmp .ne 12, 3) := by decide +kernel
theorem d_y_countAhead_43 : decode (ch_bc m_y_countAhead) 43 = .ok (.iload 5, 2) := by decide +kernel
theorem d_y_countAhead_45 : decode (ch_bc m_y_countAhead) 45 = .ok (.iload_n 1, 1) := by decide +kernel
theorem d_y_countAhead_46 : decode (ch_bc m_y_countAhead) 46 = .ok (.if_icmp .ge 6, 3) := by decide +kernel
theorem d_y_countAhead_49 : decode (ch_bc m_y_countAhead) 49 = .ok (.iinc 4 1, 3) := by decide +kernel
theorem d_y_countAhead_52 : decode (ch_bc m_y_countAhead) 52 = .ok (.iinc 5 1, 3) := by decide +kernel
theorem d_y_countAhead_55 : decode (ch_bc m_y_countAhead) 55 = .ok (.goto (-42), 3) := by decide +kernel
theorem d_y_countAhead_58 : decode (ch_bc m_y_countAhead) 58 = .ok (.iload 4, 2) := by decide +kernel
theorem d_y_countAhead_60 : decode (ch_bc m_y_countAhead) 60 = .ok (.ireturn, 1) := by decide +kernel
theorem d_y_measureOf_0 : decode (ch_bc m_y_measureOf) 0 = .ok (.iload_n 2, 1) := by decide +kernel
theorem d_y_measureOf_1 : decode (ch_bc m_y_measureOf) 1 = .ok (.tableswitch 47 0 2 #[27, 34, 40], 27) := by decide +kernel
theorem d_y_measureOf_28 : decode (ch_bc m_y_measureOf) 28 = .ok (.aload_n 0, 1) := by decide +kernel
theorem d_y_measureOf_29 : decode (ch_bc m_y_measureOf) 29 = .ok (.getfield 18, 3) := by decide +kernel
theorem d_y_measureOf_32 : decode (ch_bc m_y_measureOf) 32 = .ok (.iload_n 1, 1) := by decide +kernel
theorem d_y_measureOf_33 : decode (ch_bc m_y_measureOf) 33 = .ok (.iaload, 1) := by decide +kernel
theorem d_y_measureOf_34 : decode (ch_bc m_y_measureOf) 34 = .ok (.ireturn, 1) := by decide +kernel
theorem d_y_measureOf_35 : decode (ch_bc m_y_measureOf) 35 = .ok (.aload_n 0, 1) := by decide +kernel
theorem d_y_measureOf_36 : decode (ch_bc m_y_measureOf) 36 = .ok (.iload_n 1, 1) := by decide +kernel
theorem d_y_measureOf_37 : decode (ch_bc m_y_measureOf) 37 = .ok (.invokevirtual 152, 3) := by decide +kernel
theorem d_y_measureOf_40 : decode (ch_bc m_y_measureOf) 40 = .ok (.ireturn, 1) := by decide +kernel
theorem d_y_measureOf_41 : decode (ch_bc m_y_measureOf) 41 = .ok (.aload_n 0, 1) := by decide +kernel
theorem d_y_measureOf_42 : decode (ch_bc m_y_measureOf) 42 = .ok (.getfield 21, 3) := by decide +kernel
theorem d_y_measureOf_45 : decode (ch_bc m_y_measureOf) 45 = .ok (.iload_n 1, 1) := by decide +kernel
theorem d_y_measureOf_46 : decode (ch_bc m_y_measureOf) 46 = .ok (.iaload, 1) := by decide +kernel
theorem d_y_measureOf_47 : decode (ch_bc m_y_measureOf) 47 = .ok (.ireturn, 1) := by decide +kernel
theorem d_y_measureOf_48 : decode (ch_bc m_y_measureOf) 48 = .ok (.aload_n 0, 1) := by decide +kernel
theorem d_y_measureOf_49 : decode (ch_bc m_y_measureOf) 49 = .ok (.getfield 24, 3) := by decide +kernel
theorem d_y_measureOf_52 : decode (ch_bc m_y_measureOf) 52 = .ok (.iload_n 1, 1) := by decide +kernel
theorem d_y_measureOf_53 : decode (ch_bc m_y_measureOf) 53 = .ok (.iaload, 1) := by decide +kernel
theorem d_y_measureOf_54 : decode (ch_bc m_y_measureOf) 54 = .ok (.ireturn, 1) := by decide +kernel
