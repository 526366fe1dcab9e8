theorem d_m_isCommand_43 : decode (ch_bc m_m_isCommand) 43 = .ok (.putfield 209, 3) := by decide +kernel
theorem d_m_isCommand_46 : decode (ch_bc m_m_isCommand) 46 = .ok (.caload, 1) := by decide +kernel
theorem d_m_isCommand_47 : decode (ch_bc m_m_isCommand) 47 = .ok (.putfield 219, 3) := by decide +kernel
theorem d_m_isCommand_50 : decode (ch_bc m_m_isCommand) 50 = .ok (.aload_n 0, 1) := by decide +kernel
theorem d_m_isCommand_51 : decode (ch_bc m_m_isCommand) 51 = .ok (.getfield 219, 3) := by decide +kernel
theorem d_m_isCommand_54 : decode (ch_bc m_m_isCommand) 54 = .ok (.lookupswitch 174 #[(99, 57), (103, 123), (104, 90), (110, 50), (116, 121)], 50) := by decide +kernel
theorem d_m_isCommand_104 : decode (ch_bc m_m_isCommand) 104 = .ok (.aload_n 0, 1) := by decide +kernel
theorem d_m_isCommand_105 : decode (ch_bc m_m_isCommand) 105 = .ok (.iconst 0, 1) := by decide +kernel
theorem d_m_isCommand_106 : decode (ch_bc m_m_isCommand) 106 = .ok (.iconst 2, 1) := by decide +kernel
theorem d_m_isCommand_107 : decode (ch_bc m_m_isCommand) 107 = .ok (.invokevirtual 223, 3) := by decide +kernel
theorem d_m_isCommand_110 : decode (ch_bc m_m_isCommand) 110 = .ok (.ireturn, 1) := by decide +kernel
theorem d_m_isCommand_111 : decode (ch_bc m_m_isCommand) 111 = .ok (.aload_n 0, 1) := by decide +kernel
theorem d_m_isCommand_112 : decode (ch_bc m_m_isCommand) 112 = .ok (.iconst 0, 1) := by decide +kernel
theorem d_m_isCommand_113 : decode (ch_bc m_m_isCommand) 113 = .ok (.iconst 1, 1) := by decide +kernel
theorem d_m_isCommand_114 : decode (ch_bc m_m_isCommand) 114 = .ok (.invokevirtual 223, 3) := by decide +kernel
theorem d_m_isCommand_117 : decode (ch_bc m_m_isCommand) 117 = .ok (.ifCond .eq 25, 3) := by decide +kernel
theorem d_m_isCommand_120 : decode (ch_bc m_m_isCommand) 120 = .ok (.aload_n 0, 1) := by decide +kernel
theorem d_m_isCommand_121 : decode (ch_bc m_m_isCommand) 121 = .ok (.bipush 64, 2) := by decide +kernel
theorem d_m_isCommand_123 : decode (ch_bc m_m_isCommand) 123 = .ok (.invokevirtual 226, 3) := by decide +kernel
theorem d_m_isCommand_126 : decode (ch_bc m_m_isCommand) 126 = .ok (.ifCond .eq 16, 3) := by decide +kernel
theorem d_m_isCommand_129 : decode (ch_bc m_m_isCommand) 129 = .ok (.aload_n 0, 1) := by decide +kernel
theorem d_m_isCommand_130 : decode (ch_bc m_m_isCommand) 130 = .ok (.iconst 1, 1) := by decide +kernel
theorem d_m_isCommand_131 : decode (ch_bc m_m_isCommand) 131 = .ok (.iconst 2, 1) := by decide +kernel
theorem d_m_isCommand_132 : decode (ch_bc m_m_isCommand) 132 = .ok (.invokevirtual 223, 3) := by decide +kernel
theorem d_m_isCommand_135 : decode (ch_bc m_m_isCommand) 135 = .ok (.ifCond .eq 7, 3) := by decide +kernel
theorem d_m_isCommand_138 : decode (ch_bc m_m_isCommand) 138 = .ok (.iconst 1, 1) := by decide +kernel
theorem d_m_isCommand_139 : decode (ch_bc m_m_isCommand) 139 = .ok (.goto 4, 3) := by decide +kernel
theorem d_m_isCommand_142 : decode (ch_bc m_m_isCommand) 142 = .ok (.iconst 0, 1) := by decide +kernel
theorem d_m_isCommand_143 : decode (ch_bc m_m_isCommand) 143 = .ok (.ireturn, 1) := by decide +kernel
theorem d_m_isCommand_144 : decode (ch_bc m_m_isCommand) 144 = .ok (.aload_n 0, 1) := by decide +kernel
theorem d_m_isCommand_145 : decode (ch_bc m_m_isCommand) 145 = .ok (.iconst 0, 1) := by decide +kernel
theorem d_m_isCommand_146 : decode (ch_bc m_m_isCommand) 146 = .ok (.iconst 1, 1) := by decide +kernel
theorem d_m_isCommand_147 : decode (ch_bc m_m_isCommand) 147 = .ok (.invokevirtual 223, 3) := by decide +kernel
theorem d_m_isCommand_150 : decode (ch_bc m_m_isCommand) 150 = .ok (.ifCond .eq 23, 3) := by decide +kernel
theorem d_m_isCommand_153 : decode (ch_bc m_m_isCommand) 153 = .ok (.aload_n 0, 1) := by decide +kernel
theorem d_m_isCommand_154 : decode (ch_bc m_m_isCommand) 154 = .ok (.bipush 58, 2) := by decide +kernel
theorem d_m_isCommand_156 : decode (ch_bc m_m_isCommand) 156 = .ok (.invokevirtual 226, 3) := by decide +kernel
theorem d_m_isCommand_159 : decode (ch_bc m_m_isCommand) 159 = .ok (.ifCond .eq 14, 3) := by decide +kernel
theorem d_m_isCommand_162 : decode (ch_bc m_m_isCommand) 162 = .ok (.aload_n 0, 1) := by decide +kernel
theorem d_m_isCommand_163 : decode (ch_bc m_m_isCommand) 163 = .ok (.invokevirtual 230, 3) := by decide +kernel
theorem d_m_isCommand_166 : decode (ch_bc m_m_isCommand) 166 = .ok (.ifCond .eq 7, 3) := by decide +kernel
theorem d_m_isCommand_169 : decode (ch_bc m_m_isCommand) 169 = .ok (.iconst 1, 1) := by decide +kernel
theorem d_m_isCommand_170 : decode (ch_bc m_m_isCommand) 170 = .ok (.goto 4, 3) := by decide +kernel
theorem d_m_isCommand_173 : decode (ch_bc m_m_isCommand) 173 = .ok (.iconst 0, 1) := by decide +kernel
theorem d_m_isCommand_174 : decode (ch_bc m_m_isCommand) 174 = .ok (.ireturn, 1) := by decide +kernel
theorem d_m_isCommand_175 : decode (ch_bc m_m_isCommand) 175 = .ok (.iconst 1, 1) := by decide +kernel
theorem d_m_isCommand_176 : decode (ch_bc m_m_isCommand) 176 = .ok (.ireturn, 1) := by decide +kernel
theorem d_m_isCommand_177 : decode (ch_bc m_m_isCommand) 177 = .ok (.aload_n 0, 1) := by decide +kernel
theorem d_m_isCommand_178 : decode (ch_bc m_m_isCommand) 178 = .ok (.iconst 0, 1) := by decide +kernel
theorem d_m_isCommand_179 : decode (ch_bc m_m_isCommand) 179 = .ok (.iconst 1, 1) := by decide +kernel
theorem d_m_isCommand_180 : decode (ch_bc m_m_isCommand) 180 = .ok (.invokevirtual 223, 3) := by decide +kernel
theorem d_m_isCommand_183 : decode (ch_bc m_m_isCommand) 183 = .ok (.ifCond .eq 43, 3) := by decide +kernel
theorem d_m_isCommand_186 : decode (ch_bc m_m_isCommand) 186 = .ok (.aload_n 0, 1) := by decide +kernel
theorem d_m_isCommand_187 : decode (ch_bc m_m_isCommand) 187 = .ok (.bipush 62, 2) := by decide +kernel
theorem d_m_isCommand_189 : decode (ch_bc m_m_isCommand) 189 = .ok (.invokevirtual 226, 3) := by decide +kernel
theorem d_m_isCommand_192 : decode (ch_bc m_m_isCommand) 192 = .ok (.ifCond .eq 34, 3) := by decide +kernel
theorem d_m_isCommand_195 : decode (ch_bc m_m_isCommand) 195 = .ok (.aload_n 0, 1) := by decide +kernel
theorem d_m_isCommand_196 : decode (ch_bc m_m_isCommand) 196 = .ok (.iconst 1, 1) := by decide +kernel
theorem d_m_isCommand_197 : decode (ch_bc m_m_isCommand) 197 = .ok (.iconst 1, 1) := by decide +kernel
theorem d_m_isCommand_198 : decode (ch_bc m_m_isCommand) 198 = .ok (.invokevirtual 223, 3) := by decide +kernel
theorem d_m_isCommand_201 : decode (ch_bc m_m_isCommand) 201 = .ok (.ifCond .eq 25, 3) := by decide +kernel
theorem d_m_isCommand_204 : decode (ch_bc m_m_isCommand) 204 = .ok (.aload_n 0, 1) := by decide +kernel
theorem d_m_isCommand_205 : decode (ch_bc m_m_isCommand) 205 = .ok (.bipush 42, 2) := by decide +kernel
theorem d_m_isCommand_207 : decode (ch_bc m_m_isCommand) 207 = .ok (.invokevirtual 226, 3) := by decide +kernel
theorem d_m_isCommand_210 : decode (ch_bc m_m_isCommand) 210 = .ok (.ifCond .eq 16, 3) := by decide +kernel
theorem d_m_isCommand_213 : decode (ch_bc m_m_isCommand) 213 = .ok (.aload_n 0, 1) := by decide +kernel
theorem d_m_isCommand_214 : decode (ch_bc m_m_isCommand) 214 = .ok (.iconst 2, 1) := by decide +kernel
theorem d_m_isCommand_215 : decode (ch_bc m_m_isCommand) 215 = .ok (.iconst 2, 1) := by decide +kernel
theorem d_m_isCommand_216 : decode (ch_bc m_m_isCommand) 216 = .ok (.invokevirtual 223, 3) := by decide +kernel
theorem d_m_isCommand_219 : decode (ch_bc m_m_isCommand) 219 = .ok (.ifCond .eq 7, 3) := by decide +kernel
theorem d_m_isCommand_222 : decode (ch_bc m_m_isCommand) 222 = .ok (.iconst 1, 1) := by decide +kernel
theorem d_m_isCommand_223 : decode (ch_bc m_m_isCommand) 223 = .ok (.goto 4, 3) := by decide +kernel
theorem d_m_isCommand_226 : decode (ch_bc m_m_isCommand) 226 = .ok (.iconst 0, 1) := by decide +kernel
theorem d_m_isCommand_227 : decode (ch_bc m_m_isCommand) 227 = .ok (.ireturn, 1) := by decide +kernel
theorem d_m_isCommand_228 : decode (ch_bc m_m_isCommand) 228 = .ok (.aload_n 0, 1) := by decide +kernel
theorem d_m_isCommand_229 : decode (ch_bc m_m_isCommand) 229 = .ok (.iconst 0, 1) := by decide +kernel
theorem d_m_isCommand_230 : decode (ch_bc m_m_isCommand) 230 = .ok (.iconst 1, 1) := by decide +kernel
theorem d_m_isCommand_231 : decode (ch_bc m_m_isCommand) 231 = .ok (.invokevirtual 223, 3) := by decide +kernel
theorem d_m_isCommand_234 : decode (ch_bc m_m_isCommand) 234 = .ok (.ireturn, 1) := by decide +kernel
theorem d_m_carries_0 : decode (ch_bc m_m_carries) 0 = .ok (.aload_n 0, 1) := by decide +kernel
theorem d_m_carries_1 : decode (ch_bc m_m_carries) 1 = .ok (.getfield 219, 3) := by decide +kernel
theorem d_m_carries_4 : decode (ch_bc m_m_carries) 4 = .ok (.tableswitch 216 99 119 #[111, 216, 216, 216, 193, 128, 216, 216, 216, 216, 216, 100, 216, 216, 216, 182, 171, 216, 216, 216, 160], 100) := by decide +kernel
theorem d_m_carries_104 : decode (ch_bc m_m_carries) 104 = .ok (.aload_n 0, 1) := by decide +kernel
theorem d_m_carries_105 : decode (ch_bc m_m_carries) 105 = .ok (.aload_n 0, 1) := by decide +kernel
theorem d_m_carries_106 : decode (ch_bc m_m_carries) 106 = .ok (.getfield 32, 3) := by decide +kernel
theorem d_m_carries_109 : decode (ch_bc m_m_carries) 109 = .ok (.iconst 0, 1) := by decide +kernel
theorem d_m_carries_110 : decode (ch_bc m_m_carries) 110 = .ok (.iaload, 1) := by decide +kernel
theorem d_m_carries_111 : decode (ch_bc m_m_carries) 111 = .ok (.invokevirtual 99, 3) := by decide +kernel
theorem d_m_carries_114 : decode (ch_bc m_m_carries) 114 = .ok (.ireturn, 1) := by decide +kernel
theorem d_m_carries_115 : decode (ch_bc m_m_carries) 115 = .ok (.aload_n 0, 1) := by decide +kernel
theorem d_m_carries_116 : decode (ch_bc m_m_carries) 116 = .ok (.aload_n 0, 1) := by decide +kernel
theorem d_m_carries_117 : decode (ch_bc m_m_carries) 117 = .ok (.getfield 32, 3) := by decide +kernel
theorem d_m_carries_120 : decode (ch_bc m_m_carries) 120 = .ok (.iconst 0, 1) := by decide +kernel
theorem d_m_carries_121 : decode (ch_bc m_m_carries) 121 = .ok (.iaload, 1) := by decide +kernel
theorem d_m_carries_122 : decode (ch_bc m_m_carries) 122 = .ok (.aload_n 0, 1) := by decide +kernel
theorem d_m_carries_123 : decode (ch_bc m_m_carries) 123 = .ok (.getfield 32, 3) := by decide +kernel
theorem d_m_carries_126 : decode (ch_bc m_m_carries) 126 = .ok (.iconst 1, 1) := by decide +kernel
theorem d_m_carries_127 : decode (ch_bc m_m_carries) 127 = .ok (.iaload, 1) := by decide +kernel
theorem d_m_carries_128 : decode (ch_bc m_m_carries) 128 = .ok (.invokevirtual 123, 3) := by decide +kernel
theorem d_m_carries_131 : decode (ch_bc m_m_carries) 131 = .ok (.ireturn, 1) := by decide +kernel
theorem d_m_carries_132 : decode (ch_bc m_m_carries) 132 = .ok (.aload_n 0, 1) := by decide +kernel
theorem d_m_carries_133 : decode (ch_bc m_m_carries) 133 = .ok (.aload_n 0, 1) := by decide +kernel
theorem d_m_carries_134 : decode (ch_bc m_m_carries) 134 = .ok (.getfield 32, 3) := by decide +kernel
theorem d_m_carries_137 : decode (ch_bc m_m_carries) 137 = .ok (.iconst 0, 1) := by decide +kernel
theorem d_m_carries_138 : decode (ch_bc m_m_carries) 138 = .ok (.iaload, 1) := by decide +kernel
theorem d_m_carries_139 : decode (ch_bc m_m_carries) 139 = .ok (.invokevirtual 144, 3) := by decide +kernel
theorem d_m_carries_142 : decode (ch_bc m_m_carries) 142 = .ok (.ifCond .eq 20, 3) := by decide +kernel
theorem d_m_carries_145 : decode (ch_bc m_m_carries) 145 = .ok (.aload_n 0, 1) := by decide +kernel
theorem d_m_carries_146 : decode (ch_bc m_m_carries) 146 = .ok (.aload_n 0, 1) := by decide +kernel
theorem d_m_carries_147 : decode (ch_bc m_m_carries) 147 = .ok (.getfield 32, 3) := by decide +kernel
theorem d_m_carries_150 : decode (ch_bc m_m_carries) 150 = .ok (.iconst 0, 1) := by decide +kernel
theorem d_m_carries_151 : decode (ch_bc m_m_carries) 151 = .ok (.iaload, 1) := by decide +kernel
theorem d_m_carries_152 : decode (ch_bc m_m_carries) 152 = .ok (.invokevirtual 150, 3) := by decide +kernel
theorem d_m_carries_155 : decode (ch_bc m_m_carries) 155 = .ok (.ifCond .eq 7, 3) := by decide +kernel
theorem d_m_carries_158 : decode (ch_bc m_m_carries) 158 = .ok (.iconst 1, 1) := by decide +kernel
theorem d_m_carries_159 : decode (ch_bc m_m_carries) 159 = .ok (.goto 4, 3) := by decide +kernel
theorem d_m_carries_162 : decode (ch_bc m_m_carries) 162 = .ok (.iconst 0, 1) := by decide +kernel
theorem d_m_carries_163 : decode (ch_bc m_m_carries) 163 = .ok (.ireturn, 1) := by decide +kernel
theorem d_m_carries_164 : decode (ch_bc m_m_carries) 164 = .ok (.aload_n 0, 1) := by decide +kernel
theorem d_m_carries_165 : decode (ch_bc m_m_carries) 165 = .ok (.aload_n 0, 1) := by decide +kernel
theorem d_m_carries_166 : decode (ch_bc m_m_carries) 166 = .ok (.getfield 32, 3) := by decide +kernel
theorem d_m_carries_169 : decode (ch_bc m_m_carries) 169 = .ok (.iconst 0, 1) := by decide +kernel
theorem d_m_carries_170 : decode (ch_bc m_m_carries) 170 = .ok (.iaload, 1) := by decide +kernel
theorem d_m_carries_171 : decode (ch_bc m_m_carries) 171 = .ok (.invokevirtual 153, 3) := by decide +kernel
theorem d_m_carries_174 : decode (ch_bc m_m_carries) 174 = .ok (.ireturn, 1) := by decide +kernel
theorem d_m_carries_175 : decode (ch_bc m_m_carries) 175 = .ok (.aload_n 0, 1) := by decide +kernel
theorem d_m_carries_176 : decode (ch_bc m_m_carries) 176 = .ok (.aload_n 0, 1) := by decide +kernel
theorem d_m_carries_177 : decode (ch_bc m_m_carries) 177 = .ok (.getfield 32, 3) := by decide +kernel
theorem d_m_carries_180 : decode (ch_bc m_m_carries) 180 = .ok (.iconst 0, 1) := by decide +kernel
theorem d_m_carries_181 : decode (ch_bc m_m_carries) 181 = .ok (.iaload, 1) := by decide +kernel
theorem d_m_carries_182 : decode (ch_bc m_m_carries) 182 = .ok (.invokevirtual 159, 3) := by decide +kernel
theorem d_m_carries_185 : decode (ch_bc m_m_carries) 185 = .ok (.ireturn, 1) := by decide +kernel
theorem d_m_carries_186 : decode (ch_bc m_m_carries) 186 = .ok (.aload_n 0, 1) := by decide +kernel
theorem d_m_carries_187 : decode (ch_bc m_m_carries) 187 = .ok (.aload_n 0, 1) := by decide +kernel
theorem d_m_carries_188 : decode (ch_bc m_m_carries) 188 = .ok (.getfield 32, 3) := by decide +kernel
theorem d_m_carries_191 : decode (ch_bc m_m_carries) 191 = .ok (.iconst 0, 1) := by decide +kernel
theorem d_m_carries_192 : decode (ch_bc m_m_carries) 192 = .ok (.iaload, 1) := by decide +kernel
theorem d_m_carries_193 : decode (ch_bc m_m_carries) 193 = .ok (.invokevirtual 168, 3) := by decide +kernel
theorem d_m_carries_196 : decode (ch_bc m_m_carries) 196 = .ok (.ireturn, 1) := by decide +kernel
theorem d_m_carries_197 : decode (ch_bc m_m_carries) 197 = .ok (.aload_n 0, 1) := by decide +kernel
theorem d_m_carries_198 : decode (ch_bc m_m_carries) 198 = .ok (.aload_n 0, 1) := by decide +kernel
theorem d_m_carries_199 : decode (ch_bc m_m_carries) 199 = .ok (.getfield 32, 3) := by decide +kernel
theorem d_m_carries_202 : decode (ch_bc m_m_carries) 202 = .ok (.iconst 0, 1) := by decide +kernel
theorem d_m_carries_203 : decode (ch_bc m_m_carries) 203 = .ok (.iaload, 1) := by decide +kernel
theorem d_m_carries_204 : decode (ch_bc m_m_carries) 204 = .ok (.aload_n 0, 1) := by decide +kernel
theorem d_m_carries_205 : decode (ch_bc m_m_carries) 205 = .ok (.getfield 32, 3) := by decide +kernel
theorem d_m_carries_208 : decode (ch_bc m_m_carries) 208 = .ok (.iconst 1, 1) := by decide +kernel
theorem d_m_carries_209 : decode (ch_bc m_m_carries) 209 = .ok (.iaload, 1) := by decide +kernel
theorem d_m_carries_210 : decode (ch_bc m_m_carries) 210 = .ok (.aload_n 0, 1) := by decide +kernel
theorem d_m_carries_211 : decode (ch_bc m_m_carries) 211 = .ok (.getfield 32, 3) := by decide +kernel
theorem d_m_carries_214 : decode (ch_bc m_m_carries) 214 = .ok (.iconst 2, 1) := by decide +kernel
theorem d_m_carries_215 : decode (ch_bc m_m_carries) 215 = .ok (.iaload, 1) := by decide +kernel
theorem d_m_carries_216 : decode (ch_bc m_m_carries) 216 = .ok (.invokevirtual 179, 3) := by decide +kernel
theorem d_m_carries_219 : decode (ch_bc m_m_carries) 219 = .ok (.ireturn, 1) := by decide +kernel
theorem d_m_carries_220 : decode (ch_bc m_m_carries) 220 = .ok (.aload_n 0, 1) := by decide +kernel
theorem d_m_carries_221 : decode (ch_bc m_m_carries) 221 = .ok (.getfield 9, 3) := by decide +kernel
theorem d_m_carries_224 : decode (ch_bc m_m_carries) 224 = .ok (.iconst 0, 1) := by decide +kernel
theorem d_m_carries_225 : decode (ch_bc m_m_carries) 225 = .ok (.iaload, 1) := by decide +kernel
theorem d_m_carries_226 : decode (ch_bc m_m_carries) 226 = .ok (.ifCond .le 14, 3) := by decide +kernel
theorem d_m_carries_229 : decode (ch_bc m_m_carries) 229 = .ok (.aload_n 0, 1) := by decide +kernel
theorem d_m_carries_230 : decode (ch_bc m_m_carries) 230 = .ok (.aload_n 0, 1) := by decide +kernel
theorem d_m_carries_231 : decode (ch_bc m_m_carries) 231 = .ok (.invokevirtual 176, 3) := by decide +kernel
theorem d_m_carries_234 : decode (ch_bc m_m_carries) 234 = .ok (.invokevirtual 93, 3) := by decide +kernel
theorem d_m_carries_237 : decode (ch_bc m_m_carries) 237 = .ok (.goto 10, 3) := by decide +kernel
theorem d_m_carries_240 : decode (ch_bc m_m_carries) 240 = .ok (.aload_n 0, 1) := by decide +kernel
theorem d_m_carries_241 : decode (ch_bc m_m_carries) 241 = .ok (.bipush 13, 2) := by decide +kernel
theorem d_m_carries_243 : decode (ch_bc m_m_carries) 243 = .ok (.iconst 0, 1) := by decide +kernel
theorem d_m_carries_244 : decode (ch_bc m_m_carries) 244 = .ok (.invokevirtual 81, 3) := by decide +kernel
theorem d_m_carries_247 : decode (ch_bc m_m_carries) 247 = .ok (.ireturn, 1) := by decide +kernel
theorem d_m_commands_0 : decode (ch_bc m_m_commands) 0 = .ok (.aload_n 0, 1) := by decide +kernel
theorem d_m_commands_1 : decode (ch_bc m_m_commands) 1 = .ok (.invokevirtual 96, 3) := by decide +kernel
theorem d_m_commands_4 : decode (ch_bc m_m_commands) 4 = .ok (.aload_n 0, 1) := by decide +kernel
theorem d_m_commands_5 : decode (ch_bc m_m_commands) 5 = .ok (.iconst 0, 1) := by decide +kernel
theorem d_m_commands_6 : decode (ch_bc m_m_commands) 6 = .ok (.putfield 209, 3) := by decide +kernel
theorem d_m_commands_9 : decode (ch_bc m_m_commands) 9 = .ok (.aload_n 0, 1) := by decide +kernel
theorem d_m_commands_10 : decode (ch_bc m_m_commands) 10 = .ok (.iconst (-1), 1) := by decide +kernel
theorem d_m_commands_11 : decode (ch_bc m_m_commands) 11 = .ok (.putfield 35, 3) := by decide +kernel
theorem d_m_commands_14 : decode (ch_bc m_m_commands) 14 = .ok (.aload_n 0, 1) := by decide +kernel
theorem d_m_commands_15 : decode (ch_bc m_m_commands) 15 = .ok (.invokevirtual 233, 3) := by decide +kernel
theorem d_m_commands_18 : decode (ch_bc m_m_commands) 18 = .ok (.istore_n 1, 1) := by decide +kernel
theorem d_m_commands_19 : decode (ch_bc m_m_commands) 19 = .ok (.iload_n 1, 1) := by decide +kernel
theorem d_m_commands_20 : decode (ch_bc m_m_commands) 20 = .ok (.ifCond .eq 39, 3) := by decide +kernel
theorem d_m_commands_23 : decode (ch_bc m_m_commands) 23 = .ok (.aload_n 0, 1) := by decide +kernel
theorem d_m_commands_24 : decode (ch_bc m_m_commands) 24 = .ok (.getfield 209, 3) := by decide +kernel
theorem d_m_commands_27 : decode (ch_bc m_m_commands) 27 = .ok (.aload_n 0, 1) := by decide +kernel
theorem d_m_commands_28 : decode (ch_bc m_m_commands) 28 = .ok (.getfield 206, 3) := by decide +kernel
theorem d_m_commands_31 : decode (ch_bc m_m_commands) 31 = .ok (.if_icmp .ge 28, 3) := by decide +kernel
theorem d_m_commands_34 : decode (ch_bc m_m_commands) 34 = .ok (.aload_n 0, 1) := by decide +kernel
theorem d_m_commands_35 : decode (ch_bc m_m_commands) 35 = .ok (.bipush 59, 2) := by decide +kernel
theorem d_m_commands_37 : decode (ch_bc m_m_commands) 37 = .ok (.invokevirtual 226, 3) := by decide +kernel
theorem d_m_commands_40 : decode (ch_bc m_m_commands) 40 = .ok (.ifCond .eq 14, 3) := by decide +kernel
theorem d_m_commands_43 : decode (ch_bc m_m_commands) 43 = .ok (.aload_n 0, 1) := by decide +kernel
theorem d_m_commands_44 : decode (ch_bc m_m_commands) 44 = .ok (.invokevirtual 233, 3) := by decide +kernel
theorem d_m_commands_47 : decode (ch_bc m_m_commands) 47 = .ok (.ifCond .eq 7, 3) := by decide +kernel
theorem d_m_commands_50 : decode (ch_bc m_m_commands) 50 = .ok (.iconst 1, 1) := by decide +kernel
theorem d_m_commands_51 : decode (ch_bc m_m_commands) 51 = .ok (.goto 4, 3) := by decide +kernel
theorem d_m_commands_54 : decode (ch_bc m_m_commands) 54 = .ok (.iconst 0, 1) := by decide +kernel
theorem d_m_commands_55 : decode (ch_bc m_m_commands) 55 = .ok (.istore_n 1, 1) := by decide +kernel
theorem d_m_commands_56 : decode (ch_bc m_m_commands) 56 = .ok (.goto (-37), 3) := by decide +kernel
theorem d_m_commands_59 : decode (ch_bc m_m_commands) 59 = .ok (.iload_n 1, 1) := by decide +kernel
theorem d_m_commands_60 : decode (ch_bc m_m_commands) 60 = .ok (.ifCond .ne 22, 3) := by decide +kernel
theorem d_m_commands_63 : decode (ch_bc m_m_commands) 63 = .ok (.aload_n 0, 1) := by decide +kernel
theorem d_m_commands_64 : decode (ch_bc m_m_commands) 64 = .ok (.aload_n 0, 1) := by decide +kernel
theorem d_m_commands_65 : decode (ch_bc m_m_commands) 65 = .ok (.getfield 209, 3) := by decide +kernel
theorem d_m_commands_68 : decode (ch_bc m_m_commands) 68 = .ok (.putfield 35, 3) := by decide +kernel
theorem d_m_commands_71 : decode (ch_bc m_m_commands) 71 = .ok (.aload_n 0, 1) := by decide +kernel
theorem d_m_commands_72 : decode (ch_bc m_m_commands) 72 = .ok (.iconst 0, 1) := by decide +kernel
theorem d_m_commands_73 : decode (ch_bc m_m_commands) 73 = .ok (.putfield 206, 3) := by decide +kernel
theorem d_m_commands_76 : decode (ch_bc m_m_commands) 76 = .ok (.aload_n 0, 1) := by decide +kernel
theorem d_m_commands_77 : decode (ch_bc m_m_commands) 77 = .ok (.iconst 1, 1) := by decide +kernel
theorem d_m_commands_78 : decode (ch_bc m_m_commands) 78 = .ok (.invokevirtual 70, 3) := by decide +kernel
theorem d_m_commands_81 : decode (ch_bc m_m_commands) 81 = .ok (.ireturn, 1) := by decide +kernel
theorem d_m_commands_82 : decode (ch_bc m_m_commands) 82 = .ok (.aload_n 0, 1) := by decide +kernel
theorem d_m_commands_83 : decode (ch_bc m_m_commands) 83 = .ok (.iconst 0, 1) := by decide +kernel
theorem d_m_commands_84 : decode (ch_bc m_m_commands) 84 = .ok (.putfield 209, 3) := by decide +kernel
theorem d_m_commands_87 : decode (ch_bc m_m_commands) 87 = .ok (.iconst 0, 1) := by decide +kernel
theorem d_m_commands_88 : decode (ch_bc m_m_commands) 88 = .ok (.istore_n 2, 1) := by decide +kernel
theorem d_m_commands_89 : decode (ch_bc m_m_commands) 89 = .ok (.iconst 1, 1) := by decide +kernel
theorem d_m_commands_90 : decode (ch_bc m_m_commands) 90 = .ok (.istore_n 3, 1) := by decide +kernel
theorem d_m_commands_91 : decode (ch_bc m_m_commands) 91 = .ok (.iconst 1, 1) := by decide +kernel
theorem d_m_commands_92 : decode (ch_bc m_m_commands) 92 = .ok (.istore 4, 2) := by decide +kernel
theorem d_m_commands_94 : decode (ch_bc m_m_commands) 94 = .ok (.iload 4, 2) := by decide +kernel
theorem d_m_commands_96 : decode (ch_bc m_m_commands) 96 = .ok (.ifCond .eq 43, 3) := by decide +kernel
theorem d_m_commands_99 : decode (ch_bc m_m_commands) 99 = .ok (.aload_n 0, 1) := by decide +kernel
theorem d_m_commands_100 : decode (ch_bc m_m_commands) 100 = .ok (.invokevirtual 233, 3) := by decide +kernel
theorem d_m_commands_103 : decode (ch_bc m_m_commands) 103 = .ok (.istore_n 1, 1) := by decide +kernel
theorem d_m_commands_104 : decode (ch_bc m_m_commands) 104 = .ok (.aload_n 0, 1) := by decide +kernel
theorem d_m_commands_105 : decode (ch_bc m_m_commands) 105 = .ok (.invokevirtual 236, 3) := by decide +kernel
theorem d_m_commands_108 : decode (ch_bc m_m_commands) 108 = .ok (.istore_n 3, 1) := by decide +kernel
theorem d_m_commands_109 : decode (ch_bc m_m_commands) 109 = .ok (.iload_n 3, 1) := by decide +kernel
theorem d_m_commands_110 : decode (ch_bc m_m_commands) 110 = .ok (.ifCond .eq 6, 3) := by decide +kernel
theorem d_m_commands_113 : decode (ch_bc m_m_commands) 113 = .ok (.iinc 2 1, 3) := by decide +kernel
theorem d_m_commands_116 : decode (ch_bc m_m_commands) 116 = .ok (.iload_n 3, 1) := by decide +kernel
theorem d_m_commands_117 : decode (ch_bc m_m_commands) 117 = .ok (.ifCond .eq 16, 3) := by decide +kernel
theorem d_m_commands_120 : decode (ch_bc m_m_commands) 120 = .ok (.aload_n 0, 1) := by decide +kernel
theorem d_m_commands_121 : decode (ch_bc m_m_commands) 121 = .ok (.bipush 59, 2) := by decide +kernel
theorem d_m_commands_123 : decode (ch_bc m_m_commands) 123 = .ok (.invokevirtual 226, 3) := by decide +kernel
theorem d_m_commands_126 : decode (ch_bc m_m_commands) 126 = .ok (.ifCond .eq 7, 3) := by decide +kernel
theorem d_m_commands_129 : decode (ch_bc m_m_commands) 129 = .ok (.iconst 1, 1) := by decide +kernel
theorem d_m_commands_130 : decode (ch_bc m_m_commands) 130 = .ok (.goto 4, 3) := by decide +kernel
theorem d_m_commands_133 : decode (ch_bc m_m_commands) 133 = .ok (.iconst 0, 1) := by decide +kernel
theorem d_m_commands_134 : decode (ch_bc m_m_commands) 134 = .ok (.istore 4, 2) := by decide +kernel
theorem d_m_commands_136 : decode (ch_bc m_m_commands) 136 = .ok (.goto (-42), 3) := by decide +kernel
theorem d_m_commands_139 : decode (ch_bc m_m_commands) 139 = .ok (.aload_n 0, 1) := by decide +kernel
theorem d_m_commands_140 : decode (ch_bc m_m_commands) 140 = .ok (.iconst 0, 1) := by decide +kernel
theorem d_m_commands_141 : decode (ch_bc m_m_commands) 141 = .ok (.putfield 206, 3) := by decide +kernel
theorem d_m_commands_144 : decode (ch_bc m_m_commands) 144 = .ok (.iload_n 3, 1) := by decide +kernel
theorem d_m_commands_145 : decode (ch_bc m_m_commands) 145 = .ok (.ifCond .eq 9, 3) := by decide +kernel
theorem d_m_commands_148 : decode (ch_bc m_m_commands) 148 = .ok (.aload_n 0, 1) := by decide +kernel
theorem d_m_commands_149 : decode (ch_bc m_m_commands) 149 = .ok (.iload_n 2, 1) := by decide +kernel
theorem d_m_commands_150 : decode (ch_bc m_m_commands) 150 = .ok (.invokevirtual 66, 3) := by decide +kernel
theorem d_m_commands_153 : decode (ch_bc m_m_commands) 153 = .ok (.ireturn, 1) := by decide +kernel
theorem d_m_commands_154 : decode (ch_bc m_m_commands) 154 = .ok (.aload_n 0, 1) := by decide +kernel
theorem d_m_commands_155 : decode (ch_bc m_m_commands) 155 = .ok (.iload_n 2, 1) := by decide +kernel
theorem d_m_commands_156 : decode (ch_bc m_m_commands) 156 = .ok (.putfield 63, 3) := by decide +kernel
theorem d_m_commands_159 : decode (ch_bc m_m_commands) 159 = .ok (.iconst 0, 1) := by decide +kernel
theorem d_m_commands_160 : decode (ch_bc m_m_commands) 160 = .ok (.istore 5, 2) := by decide +kernel
theorem d_m_commands_162 : decode (ch_bc m_m_commands) 162 = .ok (.iload 5, 2) := by decide +kernel
theorem d_m_commands_164 : decode (ch_bc m_m_commands) 164 = .ok (.bipush 63, 2) := by decide +kernel
theorem d_m_commands_166 : decode (ch_bc m_m_commands) 166 = .ok (.if_icmp .ge 23, 3) := by decide +kernel
theorem d_m_commands_169 : decode (ch_bc m_m_commands) 169 = .ok (.aload_n 0, 1) := by decide +kernel
theorem d_m_commands_170 : decode (ch_bc m_m_commands) 170 = .ok (.getfield 9, 3) := by decide +kernel
theorem d_m_commands_173 : decode (ch_bc m_m_commands) 173 = .ok (.iload 5, 2) := by decide +kernel
theorem d_m_commands_175 : decode (ch_bc m_m_commands) 175 = .ok (.aload_n 0, 1) := by decide +kernel
theorem d_m_commands_176 : decode (ch_bc m_m_commands) 176 = .ok (.getfield 13, 3) := by decide +kernel
theorem d_m_commands_179 : decode (ch_bc m_m_commands) 179 = .ok (.iload 5, 2) := by decide +kernel
theorem d_m_commands_181 : decode (ch_bc m_m_commands) 181 = .ok (.iaload, 1) := by decide +kernel
theorem d_m_commands_182 : decode (ch_bc m_m_commands) 182 = .ok (.iastore, 1) := by decide +kernel
theorem d_m_commands_183 : decode (ch_bc m_m_commands) 183 = .ok (.iinc 5 1, 3) := by decide +kernel
theorem d_m_commands_186 : decode (ch_bc m_m_commands) 186 = .ok (.goto (-24), 3) := by decide +kernel
theorem d_m_commands_189 : decode (ch_bc m_m_commands) 189 = .ok (.aload_n 0, 1) := by decide +kernel
theorem d_m_commands_190 : decode (ch_bc m_m_commands) 190 = .ok (.iconst 2, 1) := by decide +kernel
theorem d_m_commands_191 : decode (ch_bc m_m_commands) 191 = .ok (.invokevirtual 70, 3) := by decide +kernel
theorem d_m_commands_194 : decode (ch_bc m_m_commands) 194 = .ok (.ireturn, 1) := by decide +kernel
theorem d_m_faultPosition_0 : decode (ch_bc m_m_faultPosition) 0 = .ok (.aload_n 0, 1) := by decide +kernel
theorem d_m_faultPosition_1 : decode (ch_bc m_m_faultPosition) 1 = .ok (.iconst 0, 1) := by decide +kernel
theorem d_m_faultPosition_2 : decode (ch_bc m_m_faultPosition) 2 = .ok (.putfield 48, 3) := by decide +kernel
theorem d_m_faultPosition_5 : decode (ch_bc m_m_faultPosition) 5 = .ok (.aload_n 0, 1) := by decide +kernel
theorem d_m_faultPosition_6 : decode (ch_bc m_m_faultPosition) 6 = .ok (.getfield 35, 3) := by decide +kernel
theorem d_m_faultPosition_9 : decode (ch_bc m_m_faultPosition) 9 = .ok (.ireturn, 1) := by decide +kernel
theorem d_m_reason_0 : decode (ch_bc m_m_reason) 0 = .ok (.aload_n 0, 1) := by decide +kernel
theorem d_m_reason_1 : decode (ch_bc m_m_reason) 1 = .ok (.iconst 0, 1) := by decide +kernel
theorem d_m_reason_2 : decode (ch_bc m_m_reason) 2 = .ok (.putfield 48, 3) := by decide +kernel
theorem d_m_reason_5 : decode (ch_bc m_m_reason) 5 = .ok (.iload_n 1, 1) := by decide +kernel
theorem d_m_reason_6 : decode (ch_bc m_m_reason) 6 = .ok (.iconst 0, 1) := by decide +kernel
theorem d_m_reason_7 : decode (ch_bc m_m_reason) 7 = .ok (.iconst 2, 1) := by decide +kernel
theorem d_m_reason_8 : decode (ch_bc m_m_reason) 8 = .ok (.invokestatic 73, 3) := by decide +kernel
theorem d_m_reason_11 : decode (ch_bc m_m_reason) 11 = .ok (.ifCond .ne 9, 3) := by decide +kernel
theorem d_m_reason_14 : decode (ch_bc m_m_reason) 14 = .ok (.aload_n 0, 1) := by decide +kernel
theorem d_m_reason_15 : decode (ch_bc m_m_reason) 15 = .ok (.iconst 1, 1) := by decide +kernel
theorem d_m_reason_16 : decode (ch_bc m_m_reason) 16 = .ok (.invokevirtual 70, 3) := by decide +kernel
theorem d_m_reason_19 : decode (ch_bc m_m_reason) 19 = .ok (.ireturn, 1) := by decide +kernel
theorem d_m_reason_20 : decode (ch_bc m_m_reason) 20 = .ok (.aload_n 0, 1) := by decide +kernel
theorem d_m_reason_21 : decode (ch_bc m_m_reason) 21 = .ok (.getfield 57, 3) := by decide +kernel
theorem d_m_reason_24 : decode (ch_bc m_m_reason) 24 = .ok (.ifCond .ne 9, 3) := by decide +kernel
theorem d_m_reason_27 : decode (ch_bc m_m_reason) 27 = .ok (.aload_n 0, 1) := by decide +kernel
theorem d_m_reason_28 : decode (ch_bc m_m_reason) 28 = .ok (.iconst 2, 1) := by decide +kernel
theorem d_m_reason_29 : decode (ch_bc m_m_reason) 29 = .ok (.invokevirtual 70, 3) := by decide +kernel
theorem d_m_reason_32 : decode (ch_bc m_m_reason) 32 = .ok (.ireturn, 1) := by decide +kernel
theorem d_m_reason_33 : decode (ch_bc m_m_reason) 33 = .ok (.iload_n 1, 1) := by decide +kernel
theorem d_m_reason_34 : decode (ch_bc m_m_reason) 34 = .ok (.ifCond .ne 10, 3) := by decide +kernel
theorem d_m_reason_37 : decode (ch_bc m_m_reason) 37 = .ok (.aload_n 0, 1) := by decide +kernel
theorem d_m_reason_38 : decode (ch_bc m_m_reason) 38 = .ok (.getfield 57, 3) := by decide +kernel
theorem d_m_reason_41 : decode (ch_bc m_m_reason) 41 = .ok (.goto 19, 3) := by decide +kernel
theorem d_m_reason_44 : decode (ch_bc m_m_reason) 44 = .ok (.iload_n 1, 1) := by decide +kernel
theorem d_m_reason_45 : decode (ch_bc m_m_reason) 45 = .ok (.iconst 1, 1) := by decide +kernel
theorem d_m_reason_46 : decode (ch_bc m_m_reason) 46 = .ok (.if_icmp .ne 10, 3) := by decide +kernel
theorem d_m_reason_49 : decode (ch_bc m_m_reason) 49 = .ok (.aload_n 0, 1) := by decide +kernel
theorem d_m_reason_50 : decode (ch_bc m_m_reason) 50 = .ok (.getfield 60, 3) := by decide +kernel
theorem d_m_reason_53 : decode (ch_bc m_m_reason) 53 = .ok (.goto 7, 3) := by decide +kernel
theorem d_m_reason_56 : decode (ch_bc m_m_reason) 56 = .ok (.aload_n 0, 1) := by decide +kernel
theorem d_m_reason_57 : decode (ch_bc m_m_reason) 57 = .ok (.getfield 63, 3) := by decide +kernel
theorem d_m_reason_60 : decode (ch_bc m_m_reason) 60 = .ok (.ireturn, 1) := by decide +kernel
theorem d_m_signs_0 : decode (ch_bc m_m_signs) 0 = .ok (.aload_n 0, 1) := by decide +kernel
theorem d_m_signs_1 : decode (ch_bc m_m_signs) 1 = .ok (.getfield 25, 3) := by decide +kernel
theorem d_m_signs_4 : decode (ch_bc m_m_signs) 4 = .ok (.aload_n 0, 1) := by decide +kernel
theorem d_m_signs_5 : decode (ch_bc m_m_signs) 5 = .ok (.dup, 1) := by decide +kernel
theorem d_m_signs_6 : decode (ch_bc m_m_signs) 6 = .ok (.getfield 239, 3) := by decide +kernel
theorem d_m_signs_9 : decode (ch_bc m_m_signs) 9 = .ok (.dup_x1, 1) := by decide +kernel
theorem d_m_signs_10 : decode (ch_bc m_m_signs) 10 = .ok (.iconst 1, 1) := by decide +kernel
theorem d_m_signs_11 : decode (ch_bc m_m_signs) 11 = .ok (.iadd, 1) := by decide +kernel
theorem d_m_signs_12 : decode (ch_bc m_m_signs) 12 = .ok (.putfield 239, 3) := by decide +kernel
theorem d_m_signs_15 : decode (ch_bc m_m_signs) 15 = .ok (.iload_n 1, 1) := by decide +kernel
theorem d_m_signs_16 : decode (ch_bc m_m_signs) 16 = .ok (.castore, 1) := by decide +kernel
theorem d_m_signs_17 : decode (ch_bc m_m_signs) 17 = .ok (.return_, 1) := by decide +kernel
theorem d_m_pairs_0 : decode (ch_bc m_m_pairs) 0 = .ok (.aload_n 0, 1) := by decide +kernel
theorem d_m_pairs_1 : decode (ch_bc m_m_pairs) 1 = .ok (.bipush 48, 2) := by decide +kernel
theorem d_m_pairs_3 : decode (ch_bc m_m_pairs) 3 = .ok (.iload_n 1, 1) := by decide +kernel
theorem d_m_pairs_4 : decode (ch_bc m_m_pairs) 4 = .ok (.iadd, 1) := by decide +kernel
theorem d_m_pairs_5 : decode (ch_bc m_m_pairs) 5 = .ok (.i2c, 1) := by decide +kernel
theorem d_m_pairs_6 : decode (ch_bc m_m_pairs) 6 = .ok (.invokevirtual 242, 3) := by decide +kernel
theorem d_m_pairs_9 : decode (ch_bc m_m_pairs) 9 = .ok (.aload_n 0, 1) := by decide +kernel
theorem d_m_pairs_10 : decode (ch_bc m_m_pairs) 10 = .ok (.iload_n 2, 1) := by decide +kernel
theorem d_m_pairs_11 : decode (ch_bc m_m_pairs) 11 = .ok (.invokevirtual 242, 3) := by decide +kernel
theorem d_m_pairs_14 : decode (ch_bc m_m_pairs) 14 = .ok (.aload_n 0, 1) := by decide +kernel
theorem d_m_pairs_15 : decode (ch_bc m_m_pairs) 15 = .ok (.bipush 48, 2) := by decide +kernel
theorem d_m_pairs_17 : decode (ch_bc m_m_pairs) 17 = .ok (.iload_n 3, 1) := by decide +kernel
theorem d_m_pairs_18 : decode (ch_bc m_m_pairs) 18 = .ok (.iadd, 1) := by decide +kernel
theorem d_m_pairs_19 : decode (ch_bc m_m_pairs) 19 = .ok (.i2c, 1) := by decide +kernel
theorem d_m_pairs_20 : decode (ch_bc m_m_pairs) 20 = .ok (.invokevirtual 242, 3) := by decide +kernel
theorem d_m_pairs_23 : decode (ch_bc m_m_pairs) 23 = .ok (.return_, 1) := by decide +kernel
theorem d_m_line_0 : decode (ch_bc m_m_line) 0 = .ok (.aload_n 0, 1) := by decide +kernel
theorem d_m_line_1 : decode (ch_bc m_m_line) 1 = .ok (.iconst 0, 1) := by decide +kernel
theorem d_m_line_2 : decode (ch_bc m_m_line) 2 = .ok (.putfield 48, 3) := by decide +kernel
theorem d_m_line_5 : decode (ch_bc m_m_line) 5 = .ok (.aload_n 0, 1) := by decide +kernel
theorem d_m_line_6 : decode (ch_bc m_m_line) 6 = .ok (.iconst 0, 1) := by decide +kernel
theorem d_m_line_7 : decode (ch_bc m_m_line) 7 = .ok (.putfield 239, 3) := by decide +kernel
theorem d_m_line_10 : decode (ch_bc m_m_line) 10 = .ok (.iconst 0, 1) := by decide +kernel
theorem d_m_line_11 : decode (ch_bc m_m_line) 11 = .ok (.istore_n 1, 1) := by decide +kernel
theorem d_m_line_12 : decode (ch_bc m_m_line) 12 = .ok (.iload_n 1, 1) := by decide +kernel
theorem d_m_line_13 : decode (ch_bc m_m_line) 13 = .ok (.bipush 12, 2) := by decide +kernel
theorem d_m_line_15 : decode (ch_bc m_m_line) 15 = .ok (.if_icmp .ge 52, 3) := by decide +kernel
theorem d_m_line_18 : decode (ch_bc m_m_line) 18 = .ok (.iload_n 1, 1) := by decide +kernel
theorem d_m_line_19 : decode (ch_bc m_m_line) 19 = .ok (.ifCond .le 9, 3) := by decide +kernel
theorem d_m_line_22 : decode (ch_bc m_m_line) 22 = .ok (.aload_n 0, 1) := by decide +kernel
theorem d_m_line_23 : decode (ch_bc m_m_line) 23 = .ok (.bipush 32, 2) := by decide +kernel
theorem d_m_line_25 : decode (ch_bc m_m_line) 25 = .ok (.invokevirtual 242, 3) := by decide +kernel
theorem d_m_line_28 : decode (ch_bc m_m_line) 28 = .ok (.aload_n 0, 1) := by decide +kernel
theorem d_m_line_29 : decode (ch_bc m_m_line) 29 = .ok (.iload_n 1, 1) := by decide +kernel
theorem d_m_line_30 : decode (ch_bc m_m_line) 30 = .ok (.invokevirtual 109, 3) := by decide +kernel
theorem d_m_line_33 : decode (ch_bc m_m_line) 33 = .ok (.ifCond .ge 12, 3) := by decide +kernel
theorem d_m_line_36 : decode (ch_bc m_m_line) 36 = .ok (.aload_n 0, 1) := by decide +kernel
theorem d_m_line_37 : decode (ch_bc m_m_line) 37 = .ok (.bipush 46, 2) := by decide +kernel
theorem d_m_line_39 : decode (ch_bc m_m_line) 39 = .ok (.invokevirtual 242, 3) := by decide +kernel
theorem d_m_line_42 : decode (ch_bc m_m_line) 42 = .ok (.goto 19, 3) := by decide +kernel
theorem d_m_line_45 : decode (ch_bc m_m_line) 45 = .ok (.aload_n 0, 1) := by decide +kernel
theorem d_m_line_46 : decode (ch_bc m_m_line) 46 = .ok (.aload_n 0, 1) := by decide +kernel
theorem d_m_line_47 : decode (ch_bc m_m_line) 47 = .ok (.iload_n 1, 1) := by decide +kernel
theorem d_m_line_48 : decode (ch_bc m_m_line) 48 = .ok (.invokevirtual 109, 3) := by decide +kernel
theorem d_m_line_51 : decode (ch_bc m_m_line) 51 = .ok (.bipush 47, 2) := by decide +kernel
theorem d_m_line_53 : decode (ch_bc m_m_line) 53 = .ok (.aload_n 0, 1) := by decide +kernel
theorem d_m_line_54 : decode (ch_bc m_m_line) 54 = .ok (.iload_n 1, 1) := by decide +kernel
theorem d_m_line_55 : decode (ch_bc m_m_line) 55 = .ok (.invokevirtual 112, 3) := by decide +kernel
theorem d_m_line_58 : decode (ch_bc m_m_line) 58 = .ok (.invokevirtual 246, 3) := by decide +kernel
theorem d_m_line_61 : decode (ch_bc m_m_line) 61 = .ok (.iinc 1 1, 3) := by decide +kernel
theorem d_m_line_64 : decode (ch_bc m_m_line) 64 = .ok (.goto (-52), 3) := by decide +kernel
theorem d_m_line_67 : decode (ch_bc m_m_line) 67 = .ok (.aload_n 0, 1) := by decide +kernel
theorem d_m_line_68 : decode (ch_bc m_m_line) 68 = .ok (.getfield 239, 3) := by decide +kernel
theorem d_m_line_71 : decode (ch_bc m_m_line) 71 = .ok (.ireturn, 1) := by decide +kernel
theorem d_m_warrants_0 : decode (ch_bc m_m_warrants) 0 = .ok (.aload_n 0, 1) := by decide +kernel
theorem d_m_warrants_1 : decode (ch_bc m_m_warrants) 1 = .ok (.iconst 0, 1) := by decide +kernel
theorem d_m_warrants_2 : decode (ch_bc m_m_warrants) 2 = .ok (.putfield 48, 3) := by decide +kernel
theorem d_m_warrants_5 : decode (ch_bc m_m_warrants) 5 = .ok (.aload_n 0, 1) := by decide +kernel
theorem d_m_warrants_6 : decode (ch_bc m_m_warrants) 6 = .ok (.iconst 0, 1) := by decide +kernel
theorem d_m_warrants_7 : decode (ch_bc m_m_warrants) 7 = .ok (.putfield 239, 3) := by decide +kernel
theorem d_m_warrants_10 : decode (ch_bc m_m_warrants) 10 = .ok (.iconst 0, 1) := by decide +kernel
theorem d_m_warrants_11 : decode (ch_bc m_m_warrants) 11 = .ok (.istore_n 1, 1) := by decide +kernel
theorem d_m_warrants_12 : decode (ch_bc m_m_warrants) 12 = .ok (.iload_n 1, 1) := by decide +kernel
theorem d_m_warrants_13 : decode (ch_bc m_m_warrants) 13 = .ok (.aload_n 0, 1) := by decide +kernel
theorem d_m_warrants_14 : decode (ch_bc m_m_warrants) 14 = .ok (.getfield 9, 3) := by decide +kernel
theorem d_m_warrants_17 : decode (ch_bc m_m_warrants) 17 = .ok (.bipush 8, 2) := by decide +kernel
theorem d_m_warrants_19 : decode (ch_bc m_m_warrants) 19 = .ok (.iaload, 1) := by decide +kernel
theorem d_m_warrants_20 : decode (ch_bc m_m_warrants) 20 = .ok (.if_icmp .ge 48, 3) := by decide +kernel
theorem d_m_warrants_23 : decode (ch_bc m_m_warrants) 23 = .ok (.iload_n 1, 1) := by decide +kernel
theorem d_m_warrants_24 : decode (ch_bc m_m_warrants) 24 = .ok (.ifCond .le 9, 3) := by decide +kernel
theorem d_m_warrants_27 : decode (ch_bc m_m_warrants) 27 = .ok (.aload_n 0, 1) := by decide +kernel
theorem d_m_warrants_28 : decode (ch_bc m_m_warrants) 28 = .ok (.bipush 32, 2) := by decide +kernel
theorem d_m_warrants_30 : decode (ch_bc m_m_warrants) 30 = .ok (.invokevirtual 242, 3) := by decide +kernel
theorem d_m_warrants_33 : decode (ch_bc m_m_warrants) 33 = .ok (.aload_n 0, 1) := by decide +kernel
theorem d_m_warrants_34 : decode (ch_bc m_m_warrants) 34 = .ok (.aload_n 0, 1) := by decide +kernel
theorem d_m_warrants_35 : decode (ch_bc m_m_warrants) 35 = .ok (.getfield 9, 3) := by decide +kernel
theorem d_m_warrants_38 : decode (ch_bc m_m_warrants) 38 = .ok (.bipush 9, 2) := by decide +kernel
theorem d_m_warrants_40 : decode (ch_bc m_m_warrants) 40 = .ok (.iload_n 1, 1) := by decide +kernel
theorem d_m_warrants_41 : decode (ch_bc m_m_warrants) 41 = .ok (.iadd, 1) := by decide +kernel
theorem d_m_warrants_42 : decode (ch_bc m_m_warrants) 42 = .ok (.iaload, 1) := by decide +kernel
theorem d_m_warrants_43 : decode (ch_bc m_m_warrants) 43 = .ok (.bipush 33, 2) := by decide +kernel
theorem d_m_warrants_45 : decode (ch_bc m_m_warrants) 45 = .ok (.aload_n 0, 1) := by decide +kernel
theorem d_m_warrants_46 : decode (ch_bc m_m_warrants) 46 = .ok (.aload_n 0, 1) := by decide +kernel
theorem d_m_warrants_47 : decode (ch_bc m_m_warrants) 47 = .ok (.getfield 9, 3) := by decide +kernel
theorem d_m_warrants_50 : decode (ch_bc m_m_warrants) 50 = .ok (.bipush 9, 2) := by decide +kernel
theorem d_m_warrants_52 : decode (ch_bc m_m_warrants) 52 = .ok (.iload_n 1, 1) := by decide +kernel
theorem d_m_warrants_53 : decode (ch_bc m_m_warrants) 53 = .ok (.iadd, 1) := by decide +kernel
theorem d_m_warrants_54 : decode (ch_bc m_m_warrants) 54 = .ok (.iaload, 1) := by decide +kernel
theorem d_m_warrants_55 : decode (ch_bc m_m_warrants) 55 = .ok (.iconst 2, 1) := by decide +kernel
theorem d_m_warrants_56 : decode (ch_bc m_m_warrants) 56 = .ok (.invokevirtual 85, 3) := by decide +kernel
theorem d_m_warrants_59 : decode (ch_bc m_m_warrants) 59 = .ok (.invokevirtual 246, 3) := by decide +kernel
theorem d_m_warrants_62 : decode (ch_bc m_m_warrants) 62 = .ok (.iinc 1 1, 3) := by decide +kernel
theorem d_m_warrants_65 : decode (ch_bc m_m_warrants) 65 = .ok (.goto (-53), 3) := by decide +kernel
theorem d_m_warrants_68 : decode (ch_bc m_m_warrants) 68 = .ok (.aload_n 0, 1) := by decide +kernel
theorem d_m_warrants_69 : decode (ch_bc m_m_warrants) 69 = .ok (.getfield 239, 3) := by decide +kernel
theorem d_m_warrants_72 : decode (ch_bc m_m_warrants) 72 = .ok (.ireturn, 1) := by decide +kernel
theorem d_m_character_0 : decode (ch_bc m_m_character) 0 = .ok (.aload_n 0, 1) := by decide +kernel
theorem d_m_character_1 : decode (ch_bc m_m_character) 1 = .ok (.iload_n 1, 1) := by decide +kernel
theorem d_m_character_2 : decode (ch_bc m_m_character) 2 = .ok (.iconst 0, 1) := by decide +kernel
theorem d_m_character_3 : decode (ch_bc m_m_character) 3 = .ok (.aload_n 0, 1) := by decide +kernel
theorem d_m_character_4 : decode (ch_bc m_m_character) 4 = .ok (.getfield 239, 3) := by decide +kernel
theorem d_m_character_7 : decode (ch_bc m_m_character) 7 = .ok (.iconst 1, 1) := by decide +kernel
theorem d_m_character_8 : decode (ch_bc m_m_character) 8 = .ok (.isub, 1) := by decide +kernel
theorem d_m_character_9 : decode (ch_bc m_m_character) 9 = .ok (.invokestatic 73, 3) := by decide +kernel
theorem d_m_character_12 : decode (ch_bc m_m_character) 12 = .ok (.ifCond .eq 7, 3) := by decide +kernel
theorem d_m_character_15 : decode (ch_bc m_m_character) 15 = .ok (.iconst 0, 1) := by decide +kernel
theorem d_m_character_16 : decode (ch_bc m_m_character) 16 = .ok (.goto 4, 3) := by decide +kernel
theorem d_m_character_19 : decode (ch_bc m_m_character) 19 = .ok (.iconst 1, 1) := by decide +kernel
theorem d_m_character_20 : decode (ch_bc m_m_character) 20 = .ok (.putfield 48, 3) := by decide +kernel
theorem d_m_character_23 : decode (ch_bc m_m_character) 23 = .ok (.aload_n 0, 1) := by decide +kernel
theorem d_m_character_24 : decode (ch_bc m_m_character) 24 = .ok (.getfield 48, 3) := by decide +kernel
theorem d_m_character_27 : decode (ch_bc m_m_character) 27 = .ok (.ifCond .ne 12, 3) := by decide +kernel
theorem d_m_character_30 : decode (ch_bc m_m_character) 30 = .ok (.aload_n 0, 1) := by decide +kernel
theorem d_m_character_31 : decode (ch_bc m_m_character) 31 = .ok (.getfield 25, 3) := by decide +kernel
theorem d_m_character_34 : decode (ch_bc m_m_character) 34 = .ok (.iload_n 1, 1) := by decide +kernel
theorem d_m_character_35 : decode (ch_bc m_m_character) 35 = .ok (.caload, 1) := by decide +kernel
theorem d_m_character_36 : decode (ch_bc m_m_character) 36 = .ok (.goto 5, 3) := by decide +kernel
theorem d_m_character_39 : decode (ch_bc m_m_character) 39 = .ok (.bipush 97, 2) := by decide +kernel
theorem d_m_character_41 : decode (ch_bc m_m_character) 41 = .ok (.ireturn, 1) := by decide +kernel
theorem d_m_meanChalk_0 : decode (ch_bc m_m_meanChalk) 0 = .ok (.aload_n 0, 1) := by decide +kernel
theorem d_m_meanChalk_1 : decode (ch_bc m_m_meanChalk) 1 = .ok (.iconst 0, 1) := by decide +kernel
theorem d_m_meanChalk_2 : decode (ch_bc m_m_meanChalk) 2 = .ok (.putfield 48, 3) := by decide +kernel
theorem d_m_meanChalk_5 : decode (ch_bc m_m_meanChalk) 5 = .ok (.iconst 0, 1) := by decide +kernel
theorem d_m_meanChalk_6 : decode (ch_bc m_m_meanChalk) 6 = .ok (.istore_n 1, 1) := by decide +kernel
theorem d_m_meanChalk_7 : decode (ch_bc m_m_meanChalk) 7 = .ok (.iconst 0, 1) := by decide +kernel
theorem d_m_meanChalk_8 : decode (ch_bc m_m_meanChalk) 8 = .ok (.istore_n 2, 1) := by decide +kernel
theorem d_m_meanChalk_9 : decode (ch_bc m_m_meanChalk) 9 = .ok (.iload_n 2, 1) := by decide +kernel
theorem d_m_meanChalk_10 : decode (ch_bc m_m_meanChalk) 10 = .ok (.bipush 12, 2) := by decide +kernel
theorem d_m_meanChalk_12 : decode (ch_bc m_m_meanChalk) 12 = .ok (.if_icmp .ge 17, 3) := by decide +kernel
theorem d_m_meanChalk_15 : decode (ch_bc m_m_meanChalk) 15 = .ok (.iload_n 1, 1) := by decide +kernel
theorem d_m_meanChalk_16 : decode (ch_bc m_m_meanChalk) 16 = .ok (.aload_n 0, 1) := by decide +kernel
theorem d_m_meanChalk_17 : decode (ch_bc m_m_meanChalk) 17 = .ok (.iload_n 2, 1) := by decide +kernel
theorem d_m_meanChalk_18 : decode (ch_bc m_m_meanChalk) 18 = .ok (.invokevirtual 112, 3) := by decide +kernel
theorem d_m_meanChalk_21 : decode (ch_bc m_m_meanChalk) 21 = .ok (.iadd, 1) := by decide +kernel
theorem d_m_meanChalk_22 : decode (ch_bc m_m_meanChalk) 22 = .ok (.istore_n 1, 1) := by decide +kernel
theorem d_m_meanChalk_23 : decode (ch_bc m_m_meanChalk) 23 = .ok (.iinc 2 1, 3) := by decide +kernel
theorem d_m_meanChalk_26 : decode (ch_bc m_m_meanChalk) 26 = .ok (.goto (-17), 3) := by decide +kernel
theorem d_m_meanChalk_29 : decode (ch_bc m_m_meanChalk) 29 = .ok (.aload_n 0, 1) := by decide +kernel
theorem d_m_meanChalk_30 : decode (ch_bc m_m_meanChalk) 30 = .ok (.invokevirtual 162, 3) := by decide +kernel
theorem d_m_meanChalk_33 : decode (ch_bc m_m_meanChalk) 33 = .ok (.ifCond .ne 12, 3) := by decide +kernel
theorem d_m_meanChalk_36 : decode (ch_bc m_m_meanChalk) 36 = .ok (.aload_n 0, 1) := by decide +kernel
theorem d_m_meanChalk_37 : decode (ch_bc m_m_meanChalk) 37 = .ok (.iconst 1, 1) := by decide +kernel
theorem d_m_meanChalk_38 : decode (ch_bc m_m_meanChalk) 38 = .ok (.invokevirtual 70, 3) := by decide +kernel
theorem d_m_meanChalk_41 : decode (ch_bc m_m_meanChalk) 41 = .ok (.i2d, 1) := by decide +kernel
theorem d_m_meanChalk_42 : decode (ch_bc m_m_meanChalk) 42 = .ok (.goto 11, 3) := by decide +kernel
theorem d_m_meanChalk_45 : decode (ch_bc m_m_meanChalk) 45 = .ok (.iload_n 1, 1) := by decide +kernel
theorem d_m_meanChalk_46 : decode (ch_bc m_m_meanChalk) 46 = .ok (.i2d, 1) := by decide +kernel
theorem d_m_meanChalk_47 : decode (ch_bc m_m_meanChalk) 47 = .ok (.aload_n 0, 1) := by decide +kernel
theorem d_m_meanChalk_48 : decode (ch_bc m_m_meanChalk) 48 = .ok (.invokevirtual 162, 3) := by decide +kernel
theorem d_m_meanChalk_51 : decode (ch_bc m_m_meanChalk) 51 = .ok (.i2d, 1) := by decide +kernel
theorem d_m_meanChalk_52 : decode (ch_bc m_m_meanChalk) 52 = .ok (.ddiv, 1) := by decide +kernel
theorem d_m_meanChalk_53 : decode (ch_bc m_m_meanChalk) 53 = .ok (.dreturn, 1) := by decide +kernel
theorem d_m_ownedShare_0 : decode (ch_bc m_m_ownedShare) 0 = .ok (.aload_n 0, 1) := by decide +kernel
theorem d_m_ownedShare_1 : decode (ch_bc m_m_ownedShare) 1 = .ok (.iconst 0, 1) := by decide +kernel
theorem d_m_ownedShare_2 : decode (ch_bc m_m_ownedShare) 2 = .ok (.putfield 48, 3) := by decide +kernel
theorem d_m_ownedShare_5 : decode (ch_bc m_m_ownedShare) 5 = .ok (.aload_n 0, 1) := by decide +kernel
theorem d_m_ownedShare_6 : decode (ch_bc m_m_ownedShare) 6 = .ok (.invokevirtual 162, 3) := by decide +kernel
theorem d_m_ownedShare_9 : decode (ch_bc m_m_ownedShare) 9 = .ok (.i2f, 1) := by decide +kernel
theorem d_m_ownedShare_10 : decode (ch_bc m_m_ownedShare) 10 = .ok (.ldc 250, 2) := by decide +kernel
theorem d_m_ownedShare_12 : decode (ch_bc m_m_ownedShare) 12 = .ok (.fdiv, 1) := by decide +kernel
theorem d_m_ownedShare_13 : decode (ch_bc m_m_ownedShare) 13 = .ok (.freturn, 1) := by decide +kernel
theorem d_m_account_0 : decode (ch_bc m_m_account) 0 = .ok (.aload_n 0, 1) := by decide +kernel
theorem d_m_account_1 : decode (ch_bc m_m_account) 1 = .ok (.iconst 0, 1) := by decide +kernel
theorem d_m_account_2 : decode (ch_bc m_m_account) 2 = .ok (.putfield 48, 3) := by decide +kernel
theorem d_m_account_5 : decode (ch_bc m_m_account) 5 = .ok (.iconst 0, 1) := by decide +kernel
theorem d_m_account_6 : decode (ch_bc m_m_account) 6 = .ok (.istore_n 2, 1) := by decide +kernel
theorem d_m_account_7 : decode (ch_bc m_m_account) 7 = .ok (.iload_n 1, 1) := by decide +kernel
theorem d_m_account_8 : decode (ch_bc m_m_account) 8 = .ok (.tableswitch 167 0 11 #[64, 71, 100, 107, 112, 120, 127, 134, 141, 149, 157, 162], 64) := by decide +kernel
theorem d_m_account_72 : decode (ch_bc m_m_account) 72 = .ok (.aload_n 0, 1) := by decide +kernel
theorem d_m_account_73 : decode (ch_bc m_m_account) 73 = .ok (.getfield 9, 3) := by decide +kernel
theorem d_m_account_76 : decode (ch_bc m_m_account) 76 = .ok (.iconst 0, 1) := by decide +kernel
theorem d_m_account_77 : decode (ch_bc m_m_account) 77 = .ok (.iaload, 1) := by decide +kernel
theorem d_m_account_78 : decode (ch_bc m_m_account) 78 = .ok (.ireturn, 1) := by decide +kernel
theorem d_m_account_79 : decode (ch_bc m_m_account) 79 = .ok (.iconst 0, 1) := by decide +kernel
theorem d_m_account_80 : decode (ch_bc m_m_account) 80 = .ok (.istore_n 3, 1) := by decide +kernel
theorem d_m_account_81 : decode (ch_bc m_m_account) 81 = .ok (.iload_n 3, 1) := by decide +kernel
theorem d_m_account_82 : decode (ch_bc m_m_account) 82 = .ok (.aload_n 0, 1) := by decide +kernel
theorem d_m_account_83 : decode (ch_bc m_m_account) 83 = .ok (.getfield 9, 3) := by decide +kernel
theorem d_m_account_86 : decode (ch_bc m_m_account) 86 = .ok (.iconst 0, 1) := by decide +kernel
theorem d_m_account_87 : decode (ch_bc m_m_account) 87 = .ok (.iaload, 1) := by decide +kernel
theorem d_m_account_88 : decode (ch_bc m_m_account) 88 = .ok (.if_icmp .ge 18, 3) := by decide +kernel
theorem d_m_account_91 : decode (ch_bc m_m_account) 91 = .ok (.iload_n 2, 1) := by decide +kernel
theorem d_m_account_92 : decode (ch_bc m_m_account) 92 = .ok (.aload_n 0, 1) := by decide +kernel
theorem d_m_account_93 : decode (ch_bc m_m_account) 93 = .ok (.iload_n 3, 1) := by decide +kernel
theorem d_m_account_94 : decode (ch_bc m_m_account) 94 = .ok (.iconst 0, 1) := by decide +kernel
theorem d_m_account_95 : decode (ch_bc m_m_account) 95 = .ok (.invokevirtual 85, 3) := by decide +kernel
theorem d_m_account_98 : decode (ch_bc m_m_account) 98 = .ok (.iadd, 1) := by decide +kernel
theorem d_m_account_99 : decode (ch_bc m_m_account) 99 = .ok (.istore_n 2, 1) := by decide +kernel
theorem d_m_account_100 : decode (ch_bc m_m_account) 100 = .ok (.iinc 3 1, 3) := by decide +kernel
theorem d_m_account_103 : decode (ch_bc m_m_account) 103 = .ok (.goto (-22), 3) := by decide +kernel
theorem d_m_account_106 : decode (ch_bc m_m_account) 106 = .ok (.iload_n 2, 1) := by decide +kernel
theorem d_m_account_107 : decode (ch_bc m_m_account) 107 = .ok (.ireturn, 1) := by decide +kernel
theorem d_m_account_108 : decode (ch_bc m_m_account) 108 = .ok (.aload_n 0, 1) := by decide +kernel
theorem d_m_account_109 : decode (ch_bc m_m_account) 109 = .ok (.getfield 9, 3) := by decide +kernel
theorem d_m_account_112 : decode (ch_bc m_m_account) 112 = .ok (.iconst 1, 1) := by decide +kernel
theorem d_m_account_113 : decode (ch_bc m_m_account) 113 = .ok (.iaload, 1) := by decide +kernel
theorem d_m_account_114 : decode (ch_bc m_m_account) 114 = .ok (.ireturn, 1) := by decide +kernel
theorem d_m_account_115 : decode (ch_bc m_m_account) 115 = .ok (.aload_n 0, 1) := by decide +kernel
theorem d_m_account_116 : decode (ch_bc m_m_account) 116 = .ok (.invokevirtual 162, 3) := by decide +kernel
theorem d_m_account_119 : decode (ch_bc m_m_account) 119 = .ok (.ireturn, 1) := by decide +kernel
theorem d_m_account_120 : decode (ch_bc m_m_account) 120 = .ok (.aload_n 0, 1) := by decide +kernel
theorem d_m_account_121 : decode (ch_bc m_m_account) 121 = .ok (.getfield 9, 3) := by decide +kernel
theorem d_m_account_124 : decode (ch_bc m_m_account) 124 = .ok (.bipush 8, 2) := by decide +kernel
theorem d_m_account_126 : decode (ch_bc m_m_account) 126 = .ok (.iaload, 1) := by decide +kernel
theorem d_m_account_127 : decode (ch_bc m_m_account) 127 = .ok (.ireturn, 1) := by decide +kernel
theorem d_m_account_128 : decode (ch_bc m_m_account) 128 = .ok (.aload_n 0, 1) := by decide +kernel
theorem d_m_account_129 : decode (ch_bc m_m_account) 129 = .ok (.getfield 9, 3) := by decide +kernel
theorem d_m_account_132 : decode (ch_bc m_m_account) 132 = .ok (.iconst 3, 1) := by decide +kernel
theorem d_m_account_133 : decode (ch_bc m_m_account) 133 = .ok (.iaload, 1) := by decide +kernel
theorem d_m_account_134 : decode (ch_bc m_m_account) 134 = .ok (.ireturn, 1) := by decide +kernel
theorem d_m_account_135 : decode (ch_bc m_m_account) 135 = .ok (.aload_n 0, 1) := by decide +kernel
theorem d_m_account_136 : decode (ch_bc m_m_account) 136 = .ok (.getfield 9, 3) := by decide +kernel
theorem d_m_account_139 : decode (ch_bc m_m_account) 139 = .ok (.iconst 4, 1) := by decide +kernel
theorem d_m_account_140 : decode (ch_bc m_m_account) 140 = .ok (.iaload, 1) := by decide +kernel
theorem d_m_account_141 : decode (ch_bc m_m_account) 141 = .ok (.ireturn, 1) := by decide +kernel
theorem d_m_account_142 : decode (ch_bc m_m_account) 142 = .ok (.aload_n 0, 1) := by decide +kernel
theorem d_m_account_143 : decode (ch_bc m_m_account) 143 = .ok (.getfield 9, 3) := by decide +kernel
theorem d_m_account_146 : decode (ch_bc m_m_account) 146 = .ok (.iconst 5, 1) := by decide +kernel
theorem d_m_account_147 : decode (ch_bc m_m_account) 147 = .ok (.iaload, 1) := by decide +kernel
theorem d_m_account_148 : decode (ch_bc m_m_account) 148 = .ok (.ireturn, 1) := by decide +kernel
theorem d_m_account_149 : decode (ch_bc m_m_account) 149 = .ok (.aload_n 0, 1) := by decide +kernel
theorem d_m_account_150 : decode (ch_bc m_m_account) 150 = .ok (.getfield 9, 3) := by decide +kernel
theorem d_m_account_153 : decode (ch_bc m_m_account) 153 = .ok (.bipush 6, 2) := by decide +kernel
theorem d_m_account_155 : decode (ch_bc m_m_account) 155 = .ok (.iaload, 1) := by decide +kernel
theorem d_m_account_156 : decode (ch_bc m_m_account) 156 = .ok (.ireturn, 1) := by decide +kernel
theorem d_m_account_157 : decode (ch_bc m_m_account) 157 = .ok (.aload_n 0, 1) := by decide +kernel
theorem d_m_account_158 : decode (ch_bc m_m_account) 158 = .ok (.getfield 9, 3) := by decide +kernel
theorem d_m_account_161 : decode (ch_bc m_m_account) 161 = .ok (.bipush 7, 2) := by decide +kernel
theorem d_m_account_163 : decode (ch_bc m_m_account) 163 = .ok (.iaload, 1) := by decide +kernel
theorem d_m_account_164 : decode (ch_bc m_m_account) 164 = .ok (.ireturn, 1) := by decide +kernel
theorem d_m_account_165 : decode (ch_bc m_m_account) 165 = .ok (.aload_n 0, 1) := by decide +kernel
theorem d_m_account_166 : decode (ch_bc m_m_account) 166 = .ok (.getfield 51, 3) := by decide +kernel
theorem d_m_account_169 : decode (ch_bc m_m_account) 169 = .ok (.ireturn, 1) := by decide +kernel
theorem d_m_account_170 : decode (ch_bc m_m_account) 170 = .ok (.aload_n 0, 1) := by decide +kernel
theorem d_m_account_171 : decode (ch_bc m_m_account) 171 = .ok (.getfield 206, 3) := by decide +kernel
theorem d_m_account_174 : decode (ch_bc m_m_account) 174 = .ok (.ireturn, 1) := by decide +kernel
theorem d_m_account_175 : decode (ch_bc m_m_account) 175 = .ok (.aload_n 0, 1) := by decide +kernel
theorem d_m_account_176 : decode (ch_bc m_m_account) 176 = .ok (.iconst 1, 1) := by decide +kernel
theorem d_m_account_177 : decode (ch_bc m_m_account) 177 = .ok (.invokevirtual 70, 3) := by decide +kernel
theorem d_m_account_180 : decode (ch_bc m_m_account) 180 = .ok (.ireturn, 1) := by decide +kernel
theorem d_m_undo_0 : decode (ch_bc m_m_undo) 0 = .ok (.aload_n 0, 1) := by decide +kernel
theorem d_m_undo_1 : decode (ch_bc m_m_undo) 1 = .ok (.iconst 0, 1) := by decide +kernel
theorem d_m_undo_2 : decode (ch_bc m_m_undo) 2 = .ok (.putfield 48, 3) := by decide +kernel
theorem d_m_undo_5 : decode (ch_bc m_m_undo) 5 = .ok (.aload_n 0, 1) := by decide +kernel
theorem d_m_undo_6 : decode (ch_bc m_m_undo) 6 = .ok (.getfield 51, 3) := by decide +kernel
theorem d_m_undo_9 : decode (ch_bc m_m_undo) 9 = .ok (.ifCond .ne 9, 3) := by decide +kernel
theorem d_m_undo_12 : decode (ch_bc m_m_undo) 12 = .ok (.aload_n 0, 1) := by decide +kernel
theorem d_m_undo_13 : decode (ch_bc m_m_undo) 13 = .ok (.iconst 1, 1) := by decide +kernel
theorem d_m_undo_14 : decode (ch_bc m_m_undo) 14 = .ok (.invokevirtual 70, 3) := by decide +kernel
theorem d_m_undo_17 : decode (ch_bc m_m_undo) 17 = .ok (.ireturn, 1) := by decide +kernel
theorem d_m_undo_18 : decode (ch_bc m_m_undo) 18 = .ok (.aload_n 0, 1) := by decide +kernel
theorem d_m_undo_19 : decode (ch_bc m_m_undo) 19 = .ok (.dup, 1) := by decide +kernel
theorem d_m_undo_20 : decode (ch_bc m_m_undo) 20 = .ok (.getfield 51, 3) := by decide +kernel
theorem d_m_undo_23 : decode (ch_bc m_m_undo) 23 = .ok (.iconst 1, 1) := by decide +kernel
theorem d_m_undo_24 : decode (ch_bc m_m_undo) 24 = .ok (.isub, 1) := by decide +kernel
theorem d_m_undo_25 : decode (ch_bc m_m_undo) 25 = .ok (.putfield 51, 3) := by decide +kernel
theorem d_m_undo_28 : decode (ch_bc m_m_undo) 28 = .ok (.iconst 0, 1) := by decide +kernel
theorem d_m_undo_29 : decode (ch_bc m_m_undo) 29 = .ok (.istore_n 1, 1) := by decide +kernel
theorem d_m_undo_30 : decode (ch_bc m_m_undo) 30 = .ok (.iload_n 1, 1) := by decide +kernel
theorem d_m_undo_31 : decode (ch_bc m_m_undo) 31 = .ok (.bipush 63, 2) := by decide +kernel
theorem d_m_undo_33 : decode (ch_bc m_m_undo) 33 = .ok (.if_icmp .ge 29, 3) := by decide +kernel
theorem d_m_undo_36 : decode (ch_bc m_m_undo) 36 = .ok (.aload_n 0, 1) := by decide +kernel
theorem d_m_undo_37 : decode (ch_bc m_m_undo) 37 = .ok (.getfield 9, 3) := by decide +kernel
theorem d_m_undo_40 : decode (ch_bc m_m_undo) 40 = .ok (.iload_n 1, 1) := by decide +kernel
theorem d_m_undo_41 : decode (ch_bc m_m_undo) 41 = .ok (.aload_n 0, 1) := by decide +kernel
theorem d_m_undo_42 : decode (ch_bc m_m_undo) 42 = .ok (.getfield 19, 3) := by decide +kernel
theorem d_m_undo_45 : decode (ch_bc m_m_undo) 45 = .ok (.bipush 63, 2) := by decide +kernel
theorem d_m_undo_47 : decode (ch_bc m_m_undo) 47 = .ok (.aload_n 0, 1) := by decide +kernel
theorem d_m_undo_48 : decode (ch_bc m_m_undo) 48 = .ok (.getfield 51, 3) := by decide +kernel
theorem d_m_undo_51 : decode (ch_bc m_m_undo) 51 = .ok (.imul, 1) := by decide +kernel
theorem d_m_undo_52 : decode (ch_bc m_m_undo) 52 = .ok (.iload_n 1, 1) := by decide +kernel
theorem d_m_undo_53 : decode (ch_bc m_m_undo) 53 = .ok (.iadd, 1) := by decide +kernel
theorem d_m_undo_54 : decode (ch_bc m_m_undo) 54 = .ok (.iaload, 1) := by decide +kernel
theorem d_m_undo_55 : decode (ch_bc m_m_undo) 55 = .ok (.iastore, 1) := by decide +kernel
theorem d_m_undo_56 : decode (ch_bc m_m_undo) 56 = .ok (.iinc 1 1, 3) := by decide +kernel
theorem d_m_undo_59 : decode (ch_bc m_m_undo) 59 = .ok (.goto (-29), 3) := by decide +kernel
theorem d_m_undo_62 : decode (ch_bc m_m_undo) 62 = .ok (.aload_n 0, 1) := by decide +kernel
theorem d_m_undo_63 : decode (ch_bc m_m_undo) 63 = .ok (.getfield 51, 3) := by decide +kernel
theorem d_m_undo_66 : decode (ch_bc m_m_undo) 66 = .ok (.ireturn, 1) := by decide +kernel
theorem d_m_save_0 : decode (ch_bc m_m_save) 0 = .ok (.aload_n 0, 1) := by decide +kernel
theorem d_m_save_1 : decode (ch_bc m_m_save) 1 = .ok (.iconst 0, 1) := by decide +kernel
theorem d_m_save_2 : decode (ch_bc m_m_save) 2 = .ok (.putfield 48, 3) := by decide +kernel
theorem d_m_save_5 : decode (ch_bc m_m_save) 5 = .ok (.aload_n 0, 1) := by decide +kernel
theorem d_m_save_6 : decode (ch_bc m_m_save) 6 = .ok (.iconst 1, 1) := by decide +kernel
theorem d_m_save_7 : decode (ch_bc m_m_save) 7 = .ok (.putfield 251, 3) := by decide +kernel
theorem d_m_save_10 : decode (ch_bc m_m_save) 10 = .ok (.iconst 0, 1) := by decide +kernel
theorem d_m_save_11 : decode (ch_bc m_m_save) 11 = .ok (.istore_n 1, 1) := by decide +kernel
theorem d_m_save_12 : decode (ch_bc m_m_save) 12 = .ok (.iload_n 1, 1) := by decide +kernel
theorem d_m_save_13 : decode (ch_bc m_m_save) 13 = .ok (.bipush 63, 2) := by decide +kernel
theorem d_m_save_15 : decode (ch_bc m_m_save) 15 = .ok (.if_icmp .ge 21, 3) := by decide +kernel
theorem d_m_save_18 : decode (ch_bc m_m_save) 18 = .ok (.aload_n 0, 1) := by decide +kernel
theorem d_m_save_19 : decode (ch_bc m_m_save) 19 = .ok (.getfield 22, 3) := by decide +kernel
theorem d_m_save_22 : decode (ch_bc m_m_save) 22 = .ok (.iload_n 1, 1) := by decide +kernel
theorem d_m_save_23 : decode (ch_bc m_m_save) 23 = .ok (.aload_n 0, 1) := by decide +kernel
theorem d_m_save_24 : decode (ch_bc m_m_save) 24 = .ok (.getfield 9, 3) := by decide +kernel
theorem d_m_save_27 : decode (ch_bc m_m_save) 27 = .ok (.iload_n 1, 1) := by decide +kernel
theorem d_m_save_28 : decode (ch_bc m_m_save) 28 = .ok (.iaload, 1) := by decide +kernel
theorem d_m_save_29 : decode (ch_bc m_m_save) 29 = .ok (.iastore, 1) := by decide +kernel
theorem d_m_save_30 : decode (ch_bc m_m_save) 30 = .ok (.iinc 1 1, 3) := by decide +kernel
theorem d_m_save_33 : decode (ch_bc m_m_save) 33 = .ok (.goto (-21), 3) := by decide +kernel
theorem d_m_save_36 : decode (ch_bc m_m_save) 36 = .ok (.aload_n 0, 1) := by decide +kernel
theorem d_m_save_37 : decode (ch_bc m_m_save) 37 = .ok (.getfield 9, 3) := by decide +kernel
theorem d_m_save_40 : decode (ch_bc m_m_save) 40 = .ok (.iconst 0, 1) := by decide +kernel
theorem d_m_save_41 : decode (ch_bc m_m_save) 41 = .ok (.iaload, 1) := by decide +kernel
theorem d_m_save_42 : decode (ch_bc m_m_save) 42 = .ok (.ireturn, 1) := by decide +kernel
theorem d_m_restore_0 : decode (ch_bc m_m_restore) 0 = .ok (.aload_n 0, 1) := by decide +kernel
theorem d_m_restore_1 : decode (ch_bc m_m_restore) 1 = .ok (.iconst 0, 1) := by decide +kernel
theorem d_m_restore_2 : decode (ch_bc m_m_restore) 2 = .ok (.putfield 48, 3) := by decide +kernel
theorem d_m_restore_5 : decode (ch_bc m_m_restore) 5 = .ok (.aload_n 0, 1) := by decide +kernel
theorem d_m_restore_6 : decode (ch_bc m_m_restore) 6 = .ok (.getfield 251, 3) := by decide +kernel
theorem d_m_restore_9 : decode (ch_bc m_m_restore) 9 = .ok (.ifCond .ne 9, 3) := by decide +kernel
theorem d_m_restore_12 : decode (ch_bc m_m_restore) 12 = .ok (.aload_n 0, 1) := by decide +kernel
theorem d_m_restore_13 : decode (ch_bc m_m_restore) 13 = .ok (.iconst 1, 1) := by decide +kernel
theorem d_m_restore_14 : decode (ch_bc m_m_restore) 14 = .ok (.invokevirtual 70, 3) := by decide +kernel
theorem d_m_restore_17 : decode (ch_bc m_m_restore) 17 = .ok (.ireturn, 1) := by decide +kernel
theorem d_m_restore_18 : decode (ch_bc m_m_restore) 18 = .ok (.iconst 0, 1) := by decide +kernel
theorem d_m_restore_19 : decode (ch_bc m_m_restore) 19 = .ok (.istore_n 1, 1) := by decide +kernel
theorem d_m_restore_20 : decode (ch_bc m_m_restore) 20 = .ok (.iload_n 1, 1) := by decide +kernel
theorem d_m_restore_21 : decode (ch_bc m_m_restore) 21 = .ok (.bipush 63, 2) := by decide +kernel
theorem d_m_restore_23 : decode (ch_bc m_m_restore) 23 = .ok (.if_icmp .ge 21, 3) := by decide +kernel
theorem d_m_restore_26 : decode (ch_bc m_m_restore) 26 = .ok (.aload_n 0, 1) := by decide +kernel
theorem d_m_restore_27 : decode (ch_bc m_m_restore) 27 = .ok (.getfield 9, 3) := by decide +kernel
theorem d_m_restore_30 : decode (ch_bc m_m_restore) 30 = .ok (.iload_n 1, 1) := by decide +kernel
theorem d_m_restore_31 : decode (ch_bc m_m_restore) 31 = .ok (.aload_n 0, 1) := by decide +kernel
theorem d_m_restore_32 : decode (ch_bc m_m_restore) 32 = .ok (.getfield 22, 3) := by decide +kernel
theorem d_m_restore_35 : decode (ch_bc m_m_restore) 35 = .ok (.iload_n 1, 1) := by decide +kernel
theorem d_m_restore_36 : decode (ch_bc m_m_restore) 36 = .ok (.iaload, 1) := by decide +kernel
theorem d_m_restore_37 : decode (ch_bc m_m_restore) 37 = .ok (.iastore, 1) := by decide +kernel
theorem d_m_restore_38 : decode (ch_bc m_m_restore) 38 = .ok (.iinc 1 1, 3) := by decide +kernel
theorem d_m_restore_41 : decode (ch_bc m_m_restore) 41 = .ok (.goto (-21), 3) := by decide +kernel
theorem d_m_restore_44 : decode (ch_bc m_m_restore) 44 = .ok (.aload_n 0, 1) := by decide +kernel
theorem d_m_restore_45 : decode (ch_bc m_m_restore) 45 = .ok (.iconst 0, 1) := by decide +kernel
theorem d_m_restore_46 : decode (ch_bc m_m_restore) 46 = .ok (.putfield 51, 3) := by decide +kernel
theorem d_m_restore_49 : decode (ch_bc m_m_restore) 49 = .ok (.aload_n 0, 1) := by decide +kernel
theorem d_m_restore_50 : decode (ch_bc m_m_restore) 50 = .ok (.getfield 9, 3) := by decide +kernel
theorem d_m_restore_53 : decode (ch_bc m_m_restore) 53 = .ok (.iconst 0, 1) := by decide +kernel
theorem d_m_restore_54 : decode (ch_bc m_m_restore) 54 = .ok (.iaload, 1) := by decide +kernel
theorem d_m_restore_55 : decode (ch_bc m_m_restore) 55 = .ok (.ireturn, 1) := by decide +kernel
theorem d_c_set_0 : decode (ch_bc m_c_set) 0 = .ok (.aload_n 0, 1) := by decide +kernel
theorem d_c_set_1 : decode (ch_bc m_c_set) 1 = .ok (.iload_n 1, 1) := by decide +kernel
theorem d_c_set_2 : decode (ch_bc m_c_set) 2 = .ok (.putfield 16, 3) := by decide +kernel
theorem d_c_set_5 : decode (ch_bc m_c_set) 5 = .ok (.aload_n 0, 1) := by decide +kernel
theorem d_c_set_6 : decode (ch_bc m_c_set) 6 = .ok (.iload_n 2, 1) := by decide +kernel
theorem d_c_set_7 : decode (ch_bc m_c_set) 7 = .ok (.putfield 20, 3) := by decide +kernel
theorem d_c_set_10 : decode (ch_bc m_c_set) 10 = .ok (.aload_n 0, 1) := by decide +kernel
theorem d_c_set_11 : decode (ch_bc m_c_set) 11 = .ok (.iload_n 3, 1) := by decide +kernel
theorem d_c_set_12 : decode (ch_bc m_c_set) 12 = .ok (.putfield 23, 3) := by decide +kernel
theorem d_c_set_15 : decode (ch_bc m_c_set) 15 = .ok (.aload_n 0, 1) := by decide +kernel
theorem d_c_set_16 : decode (ch_bc m_c_set) 16 = .ok (.iload 4, 2) := by decide +kernel
theorem d_c_set_18 : decode (ch_bc m_c_set) 18 = .ok (.putfield 26, 3) := by decide +kernel
theorem d_c_set_21 : decode (ch_bc m_c_set) 21 = .ok (.return_, 1) := by decide +kernel
theorem d_p_keep_0 : decode (ch_bc m_p_keep) 0 = .ok (.aload_n 0, 1) := by decide +kernel
theorem d_p_keep_1 : decode (ch_bc m_p_keep) 1 = .ok (.aload_n 0, 1) := by decide +kernel
theorem d_p_keep_2 : decode (ch_bc m_p_keep) 2 = .ok (.getfield 18, 3) := by decide +kernel
theorem d_p_keep_5 : decode (ch_bc m_p_keep) 5 = .ok (.iconst 1, 1) := by decide +kernel
theorem d_p_keep_6 : decode (ch_bc m_p_keep) 6 = .ok (.iadd, 1) := by decide +kernel
theorem d_p_keep_7 : decode (ch_bc m_p_keep) 7 = .ok (.aload_n 0, 1) := by decide +kernel
theorem d_p_keep_8 : decode (ch_bc m_p_keep) 8 = .ok (.getfield 11, 3) := by decide +kernel
theorem d_p_keep_11 : decode (ch_bc m_p_keep) 11 = .ok (.arraylength, 1) := by decide +kernel
theorem d_p_keep_12 : decode (ch_bc m_p_keep) 12 = .ok (.if_icmp .ge 12, 3) := by decide +kernel
theorem d_p_keep_15 : decode (ch_bc m_p_keep) 15 = .ok (.aload_n 0, 1) := by decide +kernel
theorem d_p_keep_16 : decode (ch_bc m_p_keep) 16 = .ok (.getfield 18, 3) := by decide +kernel
theorem d_p_keep_19 : decode (ch_bc m_p_keep) 19 = .ok (.iconst 1, 1) := by decide +kernel
theorem d_p_keep_20 : decode (ch_bc m_p_keep) 20 = .ok (.iadd, 1) := by decide +kernel
theorem d_p_keep_21 : decode (ch_bc m_p_keep) 21 = .ok (.goto 4, 3) := by decide +kernel
theorem d_p_keep_24 : decode (ch_bc m_p_keep) 24 = .ok (.iconst 0, 1) := by decide +kernel
theorem d_p_keep_25 : decode (ch_bc m_p_keep) 25 = .ok (.putfield 18, 3) := by decide +kernel
theorem d_p_keep_28 : decode (ch_bc m_p_keep) 28 = .ok (.aload_n 0, 1) := by decide +kernel
theorem d_p_keep_29 : decode (ch_bc m_p_keep) 29 = .ok (.aload_n 0, 1) := by decide +kernel
theorem d_p_keep_30 : decode (ch_bc m_p_keep) 30 = .ok (.getfield 22, 3) := by decide +kernel
theorem d_p_keep_33 : decode (ch_bc m_p_keep) 33 = .ok (.aload_n 0, 1) := by decide +kernel
theorem d_p_keep_34 : decode (ch_bc m_p_keep) 34 = .ok (.getfield 11, 3) := by decide +kernel
theorem d_p_keep_37 : decode (ch_bc m_p_keep) 37 = .ok (.arraylength, 1) := by decide +kernel
theorem d_p_keep_38 : decode (ch_bc m_p_keep) 38 = .ok (.if_icmp .ge 12, 3) := by decide +kernel
theorem d_p_keep_41 : decode (ch_bc m_p_keep) 41 = .ok (.aload_n 0, 1) := by decide +kernel
theorem d_p_keep_42 : decode (ch_bc m_p_keep) 42 = .ok (.getfield 22, 3) := by decide +kernel
theorem d_p_keep_45 : decode (ch_bc m_p_keep) 45 = .ok (.iconst 1, 1) := by decide +kernel
theorem d_p_keep_46 : decode (ch_bc m_p_keep) 46 = .ok (.iadd, 1) := by decide +kernel
theorem d_p_keep_47 : decode (ch_bc m_p_keep) 47 = .ok (.goto 7, 3) := by decide +kernel
theorem d_p_keep_50 : decode (ch_bc m_p_keep) 50 = .ok (.aload_n 0, 1) := by decide +kernel
theorem d_p_keep_51 : decode (ch_bc m_p_keep) 51 = .ok (.getfield 22, 3) := by decide +kernel
theorem d_p_keep_54 : decode (ch_bc m_p_keep) 54 = .ok (.putfield 22, 3) := by decide +kernel
theorem d_p_keep_57 : decode (ch_bc m_p_keep) 57 = .ok (.aload_n 0, 1) := by decide +kernel
theorem d_p_keep_58 : decode (ch_bc m_p_keep) 58 = .ok (.getfield 11, 3) := by decide +kernel
theorem d_p_keep_61 : decode (ch_bc m_p_keep) 61 = .ok (.aload_n 0, 1) := by decide +kernel
theorem d_p_keep_62 : decode (ch_bc m_p_keep) 62 = .ok (.getfield 18, 3) := by decide +kernel
theorem d_p_keep_65 : decode (ch_bc m_p_keep) 65 = .ok (.aaload, 1) := by decide +kernel
theorem d_p_keep_66 : decode (ch_bc m_p_keep) 66 = .ok (.aload_n 1, 1) := by decide +kernel
theorem d_p_keep_67 : decode (ch_bc m_p_keep) 67 = .ok (.invokevirtual 25, 3) := by decide +kernel
theorem d_p_keep_70 : decode (ch_bc m_p_keep) 70 = .ok (.return_, 1) := by decide +kernel
theorem d_p_giveBack_0 : decode (ch_bc m_p_giveBack) 0 = .ok (.aload_n 1, 1) := by decide +kernel
theorem d_p_giveBack_1 : decode (ch_bc m_p_giveBack) 1 = .ok (.aload_n 0, 1) := by decide +kernel
theorem d_p_giveBack_2 : decode (ch_bc m_p_giveBack) 2 = .ok (.getfield 11, 3) := by decide +kernel
theorem d_p_giveBack_5 : decode (ch_bc m_p_giveBack) 5 = .ok (.aload_n 0, 1) := by decide +kernel
theorem d_p_giveBack_6 : decode (ch_bc m_p_giveBack) 6 = .ok (.getfield 18, 3) := by decide +kernel
theorem d_p_giveBack_9 : decode (ch_bc m_p_giveBack) 9 = .ok (.aaload, 1) := by decide +kernel
theorem d_p_giveBack_10 : decode (ch_bc m_p_giveBack) 10 = .ok (.invokevirtual 25, 3) := by decide +kernel
theorem d_p_giveBack_13 : decode (ch_bc m_p_giveBack) 13 = .ok (.aload_n 0, 1) := by decide +kernel
theorem d_p_giveBack_14 : decode (ch_bc m_p_giveBack) 14 = .ok (.aload_n 0, 1) := by decide +kernel
theorem d_p_giveBack_15 : decode (ch_bc m_p_giveBack) 15 = .ok (.getfield 18, 3) := by decide +kernel
theorem d_p_giveBack_18 : decode (ch_bc m_p_giveBack) 18 = .ok (.ifCond .le 12, 3) := by decide +kernel
theorem d_p_giveBack_21 : decode (ch_bc m_p_giveBack) 21 = .ok (.aload_n 0, 1) := by decide +kernel
theorem d_p_giveBack_22 : decode (ch_bc m_p_giveBack) 22 = .ok (.getfield 18, 3) := by decide +kernel
theorem d_p_giveBack_25 : decode (ch_bc m_p_giveBack) 25 = .ok (.iconst 1, 1) := by decide +kernel
theorem d_p_giveBack_26 : decode (ch_bc m_p_giveBack) 26 = .ok (.isub, 1) := by decide +kernel
theorem d_p_giveBack_27 : decode (ch_bc m_p_giveBack) 27 = .ok (.goto 10, 3) := by decide +kernel
theorem d_p_giveBack_30 : decode (ch_bc m_p_giveBack) 30 = .ok (.aload_n 0, 1) := by decide +kernel
theorem d_p_giveBack_31 : decode (ch_bc m_p_giveBack) 31 = .ok (.getfield 11, 3) := by decide +kernel
theorem d_p_giveBack_34 : decode (ch_bc m_p_giveBack) 34 = .ok (.arraylength, 1) := by decide +kernel
theorem d_p_giveBack_35 : decode (ch_bc m_p_giveBack) 35 = .ok (.iconst 1, 1) := by decide +kernel
theorem d_p_giveBack_36 : decode (ch_bc m_p_giveBack) 36 = .ok (.isub, 1) := by decide +kernel
theorem d_p_giveBack_37 : decode (ch_bc m_p_giveBack) 37 = .ok (.putfield 18, 3) := by decide +kernel
theorem d_p_giveBack_40 : decode (ch_bc m_p_giveBack) 40 = .ok (.aload_n 0, 1) := by decide +kernel
theorem d_p_giveBack_41 : decode (ch_bc m_p_giveBack) 41 = .ok (.dup, 1) := by decide +kernel
theorem d_p_giveBack_42 : decode (ch_bc m_p_giveBack) 42 = .ok (.getfield 22, 3) := by decide +kernel
theorem d_p_giveBack_45 : decode (ch_bc m_p_giveBack) 45 = .ok (.iconst 1, 1) := by decide +kernel
theorem d_p_giveBack_46 : decode (ch_bc m_p_giveBack) 46 = .ok (.isub, 1) := by decide +kernel
theorem d_p_giveBack_47 : decode (ch_bc m_p_giveBack) 47 = .ok (.putfield 22, 3) := by decide +kernel
theorem d_p_giveBack_50 : decode (ch_bc m_p_giveBack) 50 = .ok (.return_, 1) := by decide +kernel
theorem d_d_findFault_0 : decode (ch_bc m_d_findFault) 0 = .ok (.aload_n 0, 1) := by decide +kernel
theorem d_d_findFault_1 : decode (ch_bc m_d_findFault) 1 = .ok (.iconst 0, 1) := by decide +kernel
theorem d_d_findFault_2 : decode (ch_bc m_d_findFault) 2 = .ok (.putfield 9, 3) := by decide +kernel
theorem d_d_findFault_5 : decode (ch_bc m_d_findFault) 5 = .ok (.iconst 0, 1) := by decide +kernel
theorem d_d_findFault_6 : decode (ch_bc m_d_findFault) 6 = .ok (.istore_n 3, 1) := by decide +kernel
theorem d_d_findFault_7 : decode (ch_bc m_d_findFault) 7 = .ok (.iload_n 3, 1) := by decide +kernel
theorem d_d_findFault_8 : decode (ch_bc m_d_findFault) 8 = .ok (.bipush 60, 2) := by decide +kernel
theorem d_d_findFault_10 : decode (ch_bc m_d_findFault) 10 = .ok (.if_icmp .ge 51, 3) := by decide +kernel
theorem d_d_findFault_13 : decode (ch_bc m_d_findFault) 13 = .ok (.aload_n 0, 1) := by decide +kernel
theorem d_d_findFault_14 : decode (ch_bc m_d_findFault) 14 = .ok (.aload_n 1, 1) := by decide +kernel
theorem d_d_findFault_15 : decode (ch_bc m_d_findFault) 15 = .ok (.aload_n 2, 1) := by decide +kernel
theorem d_d_findFault_16 : decode (ch_bc m_d_findFault) 16 = .ok (.invokevirtual 15, 3) := by decide +kernel
theorem d_d_findFault_19 : decode (ch_bc m_d_findFault) 19 = .ok (.ifCond .ne 8, 3) := by decide +kernel
theorem d_d_findFault_22 : decode (ch_bc m_d_findFault) 22 = .ok (.aload_n 0, 1) := by decide +kernel
theorem d_d_findFault_23 : decode (ch_bc m_d_findFault) 23 = .ok (.getfield 9, 3) := by decide +kernel
theorem d_d_findFault_26 : decode (ch_bc m_d_findFault) 26 = .ok (.ireturn, 1) := by decide +kernel
theorem d_d_findFault_27 : decode (ch_bc m_d_findFault) 27 = .ok (.aload_n 0, 1) := by decide +kernel
theorem d_d_findFault_28 : decode (ch_bc m_d_findFault) 28 = .ok (.getfield 9, 3) := by decide +kernel
theorem d_d_findFault_31 : decode (ch_bc m_d_findFault) 31 = .ok (.aload_n 1, 1) := by decide +kernel
theorem d_d_findFault_32 : decode (ch_bc m_d_findFault) 32 = .ok (.getfield 19, 3) := by decide +kernel
theorem d_d_findFault_35 : decode (ch_bc m_d_findFault) 35 = .ok (.if_icmp .ne 5, 3) := by decide +kernel
theorem d_d_findFault_38 : decode (ch_bc m_d_findFault) 38 = .ok (.iconst (-1), 1) := by decide +kernel
theorem d_d_findFault_39 : decode (ch_bc m_d_findFault) 39 = .ok (.ireturn, 1) := by decide +kernel
theorem d_d_findFault_40 : decode (ch_bc m_d_findFault) 40 = .ok (.aload_n 0, 1) := by decide +kernel
theorem d_d_findFault_41 : decode (ch_bc m_d_findFault) 41 = .ok (.aload_n 1, 1) := by decide +kernel
theorem d_d_findFault_42 : decode (ch_bc m_d_findFault) 42 = .ok (.bipush 59, 2) := by decide +kernel
theorem d_d_findFault_44 : decode (ch_bc m_d_findFault) 44 = .ok (.invokevirtual 24, 3) := by decide +kernel
theorem d_d_findFault_47 : decode (ch_bc m_d_findFault) 47 = .ok (.ifCond .ne 8, 3) := by decide +kernel
theorem d_d_findFault_50 : decode (ch_bc m_d_findFault) 50 = .ok (.aload_n 0, 1) := by decide +kernel
theorem d_d_findFault_51 : decode (ch_bc m_d_findFault) 51 = .ok (.getfield 9, 3) := by decide +kernel
theorem d_d_findFault_54 : decode (ch_bc m_d_findFault) 54 = .ok (.ireturn, 1) := by decide +kernel
theorem d_d_findFault_55 : decode (ch_bc m_d_findFault) 55 = .ok (.iinc 3 1, 3) := by decide +kernel
theorem d_d_findFault_58 : decode (ch_bc m_d_findFault) 58 = .ok (.goto (-51), 3) := by decide +kernel
theorem d_d_findFault_61 : decode (ch_bc m_d_findFault) 61 = .ok (.aload_n 0, 1) := by decide +kernel
theorem d_d_findFault_62 : decode (ch_bc m_d_findFault) 62 = .ok (.getfield 9, 3) := by decide +kernel
theorem d_d_findFault_65 : decode (ch_bc m_d_findFault) 65 = .ok (.ireturn, 1) := by decide +kernel
theorem d_d_takeCommand_0 : decode (ch_bc m_d_takeCommand) 0 = .ok (.aload_n 0, 1) := by decide +kernel
theorem d_d_takeCommand_1 : decode (ch_bc m_d_takeCommand) 1 = .ok (.aload_n 1, 1) := by decide +kernel
theorem d_d_takeCommand_2 : decode (ch_bc m_d_takeCommand) 2 = .ok (.invokevirtual 28, 3) := by decide +kernel
theorem d_d_takeCommand_5 : decode (ch_bc m_d_takeCommand) 5 = .ok (.istore_n 3, 1) := by decide +kernel
theorem d_d_takeCommand_6 : decode (ch_bc m_d_takeCommand) 6 = .ok (.aload_n 0, 1) := by decide +kernel
theorem d_d_takeCommand_7 : decode (ch_bc m_d_takeCommand) 7 = .ok (.iload_n 3, 1) := by decide +kernel
theorem d_d_takeCommand_8 : decode (ch_bc m_d_takeCommand) 8 = .ok (.invokevirtual 32, 3) := by decide +kernel
theorem d_d_takeCommand_11 : decode (ch_bc m_d_takeCommand) 11 = .ok (.ifCond .ne 5, 3) := by decide +kernel
theorem d_d_takeCommand_14 : decode (ch_bc m_d_takeCommand) 14 = .ok (.iconst 0, 1) := by decide +kernel
theorem d_d_takeCommand_15 : decode (ch_bc m_d_takeCommand) 15 = .ok (.ireturn, 1) := by decide +kernel
theorem d_d_takeCommand_16 : decode (ch_bc m_d_takeCommand) 16 = .ok (.aload_n 0, 1) := by decide +kernel
theorem d_d_takeCommand_17 : decode (ch_bc m_d_takeCommand) 17 = .ok (.dup, 1) := by decide +kernel
theorem d_d_takeCommand_18 : decode (ch_bc m_d_takeCommand) 18 = .ok (.getfield 9, 3) := by decide +kernel
theorem d_d_takeCommand_21 : decode (ch_bc m_d_takeCommand) 21 = .ok (.iconst 1, 1) := by decide +kernel
theorem d_d_takeCommand_22 : decode (ch_bc m_d_takeCommand) 22 = .ok (.iadd, 1) := by decide +kernel
theorem d_d_takeCommand_23 : decode (ch_bc m_d_takeCommand) 23 = .ok (.putfield 9, 3) := by decide +kernel
theorem d_d_takeCommand_26 : decode (ch_bc m_d_takeCommand) 26 = .ok (.aload_n 2, 1) := by decide +kernel
theorem d_d_takeCommand_27 : decode (ch_bc m_d_takeCommand) 27 = .ok (.iload_n 3, 1) := by decide +kernel
theorem d_d_takeCommand_28 : decode (ch_bc m_d_takeCommand) 28 = .ok (.iconst 0, 1) := by decide +kernel
theorem d_d_takeCommand_29 : decode (ch_bc m_d_takeCommand) 29 = .ok (.iconst 0, 1) := by decide +kernel
theorem d_d_takeCommand_30 : decode (ch_bc m_d_takeCommand) 30 = .ok (.iconst 0, 1) := by decide +kernel
theorem d_d_takeCommand_31 : decode (ch_bc m_d_takeCommand) 31 = .ok (.invokevirtual 36, 3) := by decide +kernel
theorem d_d_takeCommand_34 : decode (ch_bc m_d_takeCommand) 34 = .ok (.iload_n 3, 1) := by decide +kernel
theorem d_d_takeCommand_35 : decode (ch_bc m_d_takeCommand) 35 = .ok (.tableswitch 225 99 116 #[92, 225, 225, 225, 172, 126, 225, 225, 225, 225, 225, 85, 225, 225, 225, 163, 225, 170], 85) := by decide +kernel
theorem d_d_takeCommand_120 : decode (ch_bc m_d_takeCommand) 120 = .ok (.aload_n 0, 1) := by decide +kernel
theorem d_d_takeCommand_121 : decode (ch_bc m_d_takeCommand) 121 = .ok (.aload_n 1, 1) := by decide +kernel
theorem d_d_takeCommand_122 : decode (ch_bc m_d_takeCommand) 122 = .ok (.aload_n 2, 1) := by decide +kernel
theorem d_d_takeCommand_123 : decode (ch_bc m_d_takeCommand) 123 = .ok (.invokevirtual 42, 3) := by decide +kernel
theorem d_d_takeCommand_126 : decode (ch_bc m_d_takeCommand) 126 = .ok (.ireturn, 1) := by decide +kernel
theorem d_d_takeCommand_127 : decode (ch_bc m_d_takeCommand) 127 = .ok (.aload_n 0, 1) := by decide +kernel
theorem d_d_takeCommand_128 : decode (ch_bc m_d_takeCommand) 128 = .ok (.aload_n 1, 1) := by decide +kernel
theorem d_d_takeCommand_129 : decode (ch_bc m_d_takeCommand) 129 = .ok (.aload_n 2, 1) := by decide +kernel
theorem d_d_takeCommand_130 : decode (ch_bc m_d_takeCommand) 130 = .ok (.invokevirtual 45, 3) := by decide +kernel
theorem d_d_takeCommand_133 : decode (ch_bc m_d_takeCommand) 133 = .ok (.ifCond .eq 26, 3) := by decide +kernel
theorem d_d_takeCommand_136 : decode (ch_bc m_d_takeCommand) 136 = .ok (.aload_n 0, 1) := by decide +kernel
theorem d_d_takeCommand_137 : decode (ch_bc m_d_takeCommand) 137 = .ok (.aload_n 1, 1) := by decide +kernel
theorem d_d_takeCommand_138 : decode (ch_bc m_d_takeCommand) 138 = .ok (.bipush 64, 2) := by decide +kernel
theorem d_d_takeCommand_140 : decode (ch_bc m_d_takeCommand) 140 = .ok (.invokevirtual 24, 3) := by decide +kernel
theorem d_d_takeCommand_143 : decode (ch_bc m_d_takeCommand) 143 = .ok (.ifCond .eq 16, 3) := by decide +kernel
theorem d_d_takeCommand_146 : decode (ch_bc m_d_takeCommand) 146 = .ok (.aload_n 0, 1) := by decide +kernel
theorem d_d_takeCommand_147 : decode (ch_bc m_d_takeCommand) 147 = .ok (.aload_n 1, 1) := by decide +kernel
theorem d_d_takeCommand_148 : decode (ch_bc m_d_takeCommand) 148 = .ok (.aload_n 2, 1) := by decide +kernel
theorem d_d_takeCommand_149 : decode (ch_bc m_d_takeCommand) 149 = .ok (.invokevirtual 42, 3) := by decide +kernel
theorem d_d_takeCommand_152 : decode (ch_bc m_d_takeCommand) 152 = .ok (.ifCond .eq 7, 3) := by decide +kernel
theorem d_d_takeCommand_155 : decode (ch_bc m_d_takeCommand) 155 = .ok (.iconst 1, 1) := by decide +kernel
theorem d_d_takeCommand_156 : decode (ch_bc m_d_takeCommand) 156 = .ok (.goto 4, 3) := by decide +kernel
theorem d_d_takeCommand_159 : decode (ch_bc m_d_takeCommand) 159 = .ok (.iconst 0, 1) := by decide +kernel
theorem d_d_takeCommand_160 : decode (ch_bc m_d_takeCommand) 160 = .ok (.ireturn, 1) := by decide +kernel
theorem d_d_takeCommand_161 : decode (ch_bc m_d_takeCommand) 161 = .ok (.aload_n 0, 1) := by decide +kernel
theorem d_d_takeCommand_162 : decode (ch_bc m_d_takeCommand) 162 = .ok (.aload_n 1, 1) := by decide +kernel
theorem d_d_takeCommand_163 : decode (ch_bc m_d_takeCommand) 163 = .ok (.aload_n 2, 1) := by decide +kernel
theorem d_d_takeCommand_164 : decode (ch_bc m_d_takeCommand) 164 = .ok (.invokevirtual 45, 3) := by decide +kernel
theorem d_d_takeCommand_167 : decode (ch_bc m_d_takeCommand) 167 = .ok (.ifCond .eq 29, 3) := by decide +kernel
theorem d_d_takeCommand_170 : decode (ch_bc m_d_takeCommand) 170 = .ok (.aload_n 0, 1) := by decide +kernel
theorem d_d_takeCommand_171 : decode (ch_bc m_d_takeCommand) 171 = .ok (.aload_n 1, 1) := by decide +kernel
theorem d_d_takeCommand_172 : decode (ch_bc m_d_takeCommand) 172 = .ok (.bipush 58, 2) := by decide +kernel
theorem d_d_takeCommand_174 : decode (ch_bc m_d_takeCommand) 174 = .ok (.invokevirtual 24, 3) := by decide +kernel
theorem d_d_takeCommand_177 : decode (ch_bc m_d_takeCommand) 177 = .ok (.ifCond .eq 19, 3) := by decide +kernel
theorem d_d_takeCommand_180 : decode (ch_bc m_d_takeCommand) 180 = .ok (.aload_n 0, 1) := by decide +kernel
theorem d_d_takeCommand_181 : decode (ch_bc m_d_takeCommand) 181 = .ok (.aload_n 1, 1) := by decide +kernel
theorem d_d_takeCommand_182 : decode (ch_bc m_d_takeCommand) 182 = .ok (.aload_n 2, 1) := by decide +kernel
theorem d_d_takeCommand_183 : decode (ch_bc m_d_takeCommand) 183 = .ok (.getfield 48, 3) := by decide +kernel
theorem d_d_takeCommand_186 : decode (ch_bc m_d_takeCommand) 186 = .ok (.invokevirtual 52, 3) := by decide +kernel
theorem d_d_takeCommand_189 : decode (ch_bc m_d_takeCommand) 189 = .ok (.ifCond .eq 7, 3) := by decide +kernel
theorem d_d_takeCommand_192 : decode (ch_bc m_d_takeCommand) 192 = .ok (.iconst 1, 1) := by decide +kernel
theorem d_d_takeCommand_193 : decode (ch_bc m_d_takeCommand) 193 = .ok (.goto 4, 3) := by decide +kernel
theorem d_d_takeCommand_196 : decode (ch_bc m_d_takeCommand) 196 = .ok (.iconst 0, 1) := by decide +kernel
theorem d_d_takeCommand_197 : decode (ch_bc m_d_takeCommand) 197 = .ok (.ireturn, 1) := by decide +kernel
theorem d_d_takeCommand_198 : decode (ch_bc m_d_takeCommand) 198 = .ok (.aload_n 0, 1) := by decide +kernel
theorem d_d_takeCommand_199 : decode (ch_bc m_d_takeCommand) 199 = .ok (.aload_n 1, 1) := by decide +kernel
theorem d_d_takeCommand_200 : decode (ch_bc m_d_takeCommand) 200 = .ok (.aload_n 2, 1) := by decide +kernel
theorem d_d_takeCommand_201 : decode (ch_bc m_d_takeCommand) 201 = .ok (.invokevirtual 56, 3) := by decide +kernel
theorem d_d_takeCommand_204 : decode (ch_bc m_d_takeCommand) 204 = .ok (.ireturn, 1) := by decide +kernel
theorem d_d_takeCommand_205 : decode (ch_bc m_d_takeCommand) 205 = .ok (.iconst 1, 1) := by decide +kernel
theorem d_d_takeCommand_206 : decode (ch_bc m_d_takeCommand) 206 = .ok (.ireturn, 1) := by decide +kernel
theorem d_d_takeCommand_207 : decode (ch_bc m_d_takeCommand) 207 = .ok (.aload_n 0, 1) := by decide +kernel
theorem d_d_takeCommand_208 : decode (ch_bc m_d_takeCommand) 208 = .ok (.aload_n 1, 1) := by decide +kernel
theorem d_d_takeCommand_209 : decode (ch_bc m_d_takeCommand) 209 = .ok (.aload_n 2, 1) := by decide +kernel
theorem d_d_takeCommand_210 : decode (ch_bc m_d_takeCommand) 210 = .ok (.invokevirtual 45, 3) := by decide +kernel
theorem d_d_takeCommand_213 : decode (ch_bc m_d_takeCommand) 213 = .ok (.ifCond .eq 45, 3) := by decide +kernel
theorem d_d_takeCommand_216 : decode (ch_bc m_d_takeCommand) 216 = .ok (.aload_n 0, 1) := by decide +kernel
theorem d_d_takeCommand_217 : decode (ch_bc m_d_takeCommand) 217 = .ok (.aload_n 1, 1) := by decide +kernel
theorem d_d_takeCommand_218 : decode (ch_bc m_d_takeCommand) 218 = .ok (.bipush 62, 2) := by decide +kernel
theorem d_d_takeCommand_220 : decode (ch_bc m_d_takeCommand) 220 = .ok (.invokevirtual 24, 3) := by decide +kernel
theorem d_d_takeCommand_223 : decode (ch_bc m_d_takeCommand) 223 = .ok (.ifCond .eq 35, 3) := by decide +kernel
theorem d_d_takeCommand_226 : decode (ch_bc m_d_takeCommand) 226 = .ok (.aload_n 0, 1) := by decide +kernel
theorem d_d_takeCommand_227 : decode (ch_bc m_d_takeCommand) 227 = .ok (.aload_n 1, 1) := by decide +kernel
theorem d_d_takeCommand_228 : decode (ch_bc m_d_takeCommand) 228 = .ok (.aload_n 2, 1) := by decide +kernel
theorem d_d_takeCommand_229 : decode (ch_bc m_d_takeCommand) 229 = .ok (.invokevirtual 59, 3) := by decide +kernel
theorem d_d_takeCommand_232 : decode (ch_bc m_d_takeCommand) 232 = .ok (.ifCond .eq 26, 3) := by decide +kernel
theorem d_d_takeCommand_235 : decode (ch_bc m_d_takeCommand) 235 = .ok (.aload_n 0, 1) := by decide +kernel
theorem d_d_takeCommand_236 : decode (ch_bc m_d_takeCommand) 236 = .ok (.aload_n 1, 1) := by decide +kernel
theorem d_d_takeCommand_237 : decode (ch_bc m_d_takeCommand) 237 = .ok (.bipush 42, 2) := by decide +kernel
theorem d_d_takeCommand_239 : decode (ch_bc m_d_takeCommand) 239 = .ok (.invokevirtual 24, 3) := by decide +kernel
theorem d_d_takeCommand_242 : decode (ch_bc m_d_takeCommand) 242 = .ok (.ifCond .eq 16, 3) := by decide +kernel
theorem d_d_takeCommand_245 : decode (ch_bc m_d_takeCommand) 245 = .ok (.aload_n 0, 1) := by decide +kernel
theorem d_d_takeCommand_246 : decode (ch_bc m_d_takeCommand) 246 = .ok (.aload_n 1, 1) := by decide +kernel
theorem d_d_takeCommand_247 : decode (ch_bc m_d_takeCommand) 247 = .ok (.aload_n 2, 1) := by decide +kernel
theorem d_d_takeCommand_248 : decode (ch_bc m_d_takeCommand) 248 = .ok (.invokevirtual 42, 3) := by decide +kernel
theorem d_d_takeCommand_251 : decode (ch_bc m_d_takeCommand) 251 = .ok (.ifCond .eq 7, 3) := by decide +kernel
theorem d_d_takeCommand_254 : decode (ch_bc m_d_takeCommand) 254 = .ok (.iconst 1, 1) := by decide +kernel
theorem d_d_takeCommand_255 : decode (ch_bc m_d_takeCommand) 255 = .ok (.goto 4, 3) := by decide +kernel
theorem d_d_takeCommand_258 : decode (ch_bc m_d_takeCommand) 258 = .ok (.iconst 0, 1) := by decide +kernel
theorem d_d_takeCommand_259 : decode (ch_bc m_d_takeCommand) 259 = .ok (.ireturn, 1) := by decide +kernel
theorem d_d_takeCommand_260 : decode (ch_bc m_d_takeCommand) 260 = .ok (.aload_n 0, 1) := by decide +kernel
theorem d_d_takeCommand_261 : decode (ch_bc m_d_takeCommand) 261 = .ok (.aload_n 1, 1) := by decide +kernel
theorem d_d_takeCommand_262 : decode (ch_bc m_d_takeCommand) 262 = .ok (.aload_n 2, 1) := by decide +kernel
theorem d_d_takeCommand_263 : decode (ch_bc m_d_takeCommand) 263 = .ok (.invokevirtual 45, 3) := by decide +kernel
theorem d_d_takeCommand_266 : decode (ch_bc m_d_takeCommand) 266 = .ok (.ireturn, 1) := by decide +kernel
theorem d_d_takeSign_0 : decode (ch_bc m_d_takeSign) 0 = .ok (.aload_n 0, 1) := by decide +kernel
theorem d_d_takeSign_1 : decode (ch_bc m_d_takeSign) 1 = .ok (.aload_n 1, 1) := by decide +kernel
theorem d_d_takeSign_2 : decode (ch_bc m_d_takeSign) 2 = .ok (.invokevirtual 28, 3) := by decide +kernel
theorem d_d_takeSign_5 : decode (ch_bc m_d_takeSign) 5 = .ok (.iload_n 2, 1) := by decide +kernel
theorem d_d_takeSign_6 : decode (ch_bc m_d_takeSign) 6 = .ok (.if_icmp .eq 5, 3) := by decide +kernel
theorem d_d_takeSign_9 : decode (ch_bc m_d_takeSign) 9 = .ok (.iconst 0, 1) := by decide +kernel
theorem d_d_takeSign_10 : decode (ch_bc m_d_takeSign) 10 = .ok (.ireturn, 1) := by decide +kernel
theorem d_d_takeSign_11 : decode (ch_bc m_d_takeSign) 11 = .ok (.aload_n 0, 1) := by decide +kernel
theorem d_d_takeSign_12 : decode (ch_bc m_d_takeSign) 12 = .ok (.dup, 1) := by decide +kernel
theorem d_d_takeSign_13 : decode (ch_bc m_d_takeSign) 13 = .ok (.getfield 9, 3) := by decide +kernel
theorem d_d_takeSign_16 : decode (ch_bc m_d_takeSign) 16 = .ok (.iconst 1, 1) := by decide +kernel
theorem d_d_takeSign_17 : decode (ch_bc m_d_takeSign) 17 = .ok (.iadd, 1) := by decide +kernel
theorem d_d_takeSign_18 : decode (ch_bc m_d_takeSign) 18 = .ok (.putfield 9, 3) := by decide +kernel
theorem d_d_takeSign_21 : decode (ch_bc m_d_takeSign) 21 = .ok (.iconst 1, 1) := by decide +kernel
theorem d_d_takeSign_22 : decode (ch_bc m_d_takeSign) 22 = .ok (.ireturn, 1) := by decide +kernel
theorem d_d_isKind_0 : decode (ch_bc m_d_isKind) 0 = .ok (.iload_n 1, 1) := by decide +kernel
theorem d_d_isKind_1 : decode (ch_bc m_d_isKind) 1 = .ok (.tableswitch 101 99 119 #[99, 101, 101, 101, 99, 99, 101, 101, 101, 101, 101, 99, 101, 101, 101, 99, 99, 99, 101, 101, 99], 99) := by decide +kernel
theorem d_d_isKind_100 : decode (ch_bc m_d_isKind) 100 = .ok (.iconst 1, 1) := by decide +kernel
theorem d_d_isKind_101 : decode (ch_bc m_d_isKind) 101 = .ok (.ireturn, 1) := by decide +kernel
theorem d_d_isKind_102 : decode (ch_bc m_d_isKind) 102 = .ok (.iconst 0, 1) := by decide +kernel
theorem d_d_isKind_103 : decode (ch_bc m_d_isKind) 103 = .ok (.ireturn, 1) := by decide +kernel
theorem d_d_takeChild_0 : decode (ch_bc m_d_takeChild) 0 = .ok (.aload_n 2, 1) := by decide +kernel
theorem d_d_takeChild_1 : decode (ch_bc m_d_takeChild) 1 = .ok (.aload_n 0, 1) := by decide +kernel
theorem d_d_takeChild_2 : decode (ch_bc m_d_takeChild) 2 = .ok (.aload_n 1, 1) := by decide +kernel
theorem d_d_takeChild_3 : decode (ch_bc m_d_takeChild) 3 = .ok (.invokevirtual 62, 3) := by decide +kernel
theorem d_d_takeChild_6 : decode (ch_bc m_d_takeChild) 6 = .ok (.putfield 65, 3) := by decide +kernel
theorem d_d_takeChild_9 : decode (ch_bc m_d_takeChild) 9 = .ok (.aload_n 0, 1) := by decide +kernel
theorem d_d_takeChild_10 : decode (ch_bc m_d_takeChild) 10 = .ok (.aload_n 1, 1) := by decide +kernel
theorem d_d_takeChild_11 : decode (ch_bc m_d_takeChild) 11 = .ok (.invokevirtual 68, 3) := by decide +kernel
theorem d_d_takeChild_14 : decode (ch_bc m_d_takeChild) 14 = .ok (.ireturn, 1) := by decide +kernel
theorem d_d_takeOther_0 : decode (ch_bc m_d_takeOther) 0 = .ok (.aload_n 2, 1) := by decide +kernel
theorem d_d_takeOther_1 : decode (ch_bc m_d_takeOther) 1 = .ok (.aload_n 0, 1) := by decide +kernel
theorem d_d_takeOther_2 : decode (ch_bc m_d_takeOther) 2 = .ok (.aload_n 1, 1) := by decide +kernel
theorem d_d_takeOther_3 : decode (ch_bc m_d_takeOther) 3 = .ok (.invokevirtual 62, 3) := by decide +kernel
theorem d_d_takeOther_6 : decode (ch_bc m_d_takeOther) 6 = .ok (.putfield 72, 3) := by decide +kernel
theorem d_d_takeOther_9 : decode (ch_bc m_d_takeOther) 9 = .ok (.aload_n 0, 1) := by decide +kernel
theorem d_d_takeOther_10 : decode (ch_bc m_d_takeOther) 10 = .ok (.aload_n 1, 1) := by decide +kernel
theorem d_d_takeOther_11 : decode (ch_bc m_d_takeOther) 11 = .ok (.invokevirtual 68, 3) := by decide +kernel
theorem d_d_takeOther_14 : decode (ch_bc m_d_takeOther) 14 = .ok (.ireturn, 1) := by decide +kernel
theorem d_d_takeDigit_0 : decode (ch_bc m_d_takeDigit) 0 = .ok (.aload_n 2, 1) := by decide +kernel
theorem d_d_takeDigit_1 : decode (ch_bc m_d_takeDigit) 1 = .ok (.aload_n 0, 1) := by decide +kernel
theorem d_d_takeDigit_2 : decode (ch_bc m_d_takeDigit) 2 = .ok (.aload_n 1, 1) := by decide +kernel
theorem d_d_takeDigit_3 : decode (ch_bc m_d_takeDigit) 3 = .ok (.invokevirtual 62, 3) := by decide +kernel
theorem d_d_takeDigit_6 : decode (ch_bc m_d_takeDigit) 6 = .ok (.putfield 75, 3) := by decide +kernel
theorem d_d_takeDigit_9 : decode (ch_bc m_d_takeDigit) 9 = .ok (.aload_n 0, 1) := by decide +kernel
theorem d_d_takeDigit_10 : decode (ch_bc m_d_takeDigit) 10 = .ok (.aload_n 1, 1) := by decide +kernel
theorem d_d_takeDigit_11 : decode (ch_bc m_d_takeDigit) 11 = .ok (.invokevirtual 68, 3) := by decide +kernel
theorem d_d_takeDigit_14 : decode (ch_bc m_d_takeDigit) 14 = .ok (.ireturn, 1) := by decide +kernel
theorem d_d_takeNumber_0 : decode (ch_bc m_d_takeNumber) 0 = .ok (.aload_n 0, 1) := by decide +kernel
theorem d_d_takeNumber_1 : decode (ch_bc m_d_takeNumber) 1 = .ok (.aload_n 1, 1) := by decide +kernel
theorem d_d_takeNumber_2 : decode (ch_bc m_d_takeNumber) 2 = .ok (.aload_n 2, 1) := by decide +kernel
theorem d_d_takeNumber_3 : decode (ch_bc m_d_takeNumber) 3 = .ok (.invokevirtual 56, 3) := by decide +kernel
theorem d_d_takeNumber_6 : decode (ch_bc m_d_takeNumber) 6 = .ok (.ifCond .ne 5, 3) := by decide +kernel
theorem d_d_takeNumber_9 : decode (ch_bc m_d_takeNumber) 9 = .ok (.iconst 0, 1) := by decide +kernel
theorem d_d_takeNumber_10 : decode (ch_bc m_d_takeNumber) 10 = .ok (.ireturn, 1) := by decide +kernel
theorem d_d_takeNumber_11 : decode (ch_bc m_d_takeNumber) 11 = .ok (.aload_n 0, 1) := by decide +kernel
theorem d_d_takeNumber_12 : decode (ch_bc m_d_takeNumber) 12 = .ok (.aload_n 1, 1) := by decide +kernel
theorem d_d_takeNumber_13 : decode (ch_bc m_d_takeNumber) 13 = .ok (.invokevirtual 62, 3) := by decide +kernel
theorem d_d_takeNumber_16 : decode (ch_bc m_d_takeNumber) 16 = .ok (.istore_n 3, 1) := by decide +kernel
theorem d_d_takeNumber_17 : decode (ch_bc m_d_takeNumber) 17 = .ok (.aload_n 0, 1) := by decide +kernel
theorem d_d_takeNumber_18 : decode (ch_bc m_d_takeNumber) 18 = .ok (.aload_n 1, 1) := by decide +kernel
theorem d_d_takeNumber_19 : decode (ch_bc m_d_takeNumber) 19 = .ok (.invokevirtual 68, 3) := by decide +kernel
theorem d_d_takeNumber_22 : decode (ch_bc m_d_takeNumber) 22 = .ok (.ifCond .eq 16, 3) := by decide +kernel
theorem d_d_takeNumber_25 : decode (ch_bc m_d_takeNumber) 25 = .ok (.aload_n 2, 1) := by decide +kernel
theorem d_d_takeNumber_26 : decode (ch_bc m_d_takeNumber) 26 = .ok (.aload_n 2, 1) := by decide +kernel
theorem d_d_takeNumber_27 : decode (ch_bc m_d_takeNumber) 27 = .ok (.getfield 75, 3) := by decide +kernel
theorem d_d_takeNumber_30 : decode (ch_bc m_d_takeNumber) 30 = .ok (.bipush 10, 2) := by decide +kernel
theorem d_d_takeNumber_32 : decode (ch_bc m_d_takeNumber) 32 = .ok (.imul, 1) := by decide +kernel
theorem d_d_takeNumber_33 : decode (ch_bc m_d_takeNumber) 33 = .ok (.iload_n 3, 1) := by decide +kernel
theorem d_d_takeNumber_34 : decode (ch_bc m_d_takeNumber) 34 = .ok (.iadd, 1) := by decide +kernel
theorem d_d_takeNumber_35 : decode (ch_bc m_d_takeNumber) 35 = .ok (.putfield 75, 3) := by decide +kernel
theorem d_d_takeNumber_38 : decode (ch_bc m_d_takeNumber) 38 = .ok (.iconst 1, 1) := by decide +kernel
theorem d_d_takeNumber_39 : decode (ch_bc m_d_takeNumber) 39 = .ok (.ireturn, 1) := by decide +kernel
theorem d_d_takeSteps_0 : decode (ch_bc m_d_takeSteps) 0 = .ok (.aload_n 2, 1) := by decide +kernel
theorem d_d_takeSteps_1 : decode (ch_bc m_d_takeSteps) 1 = .ok (.iconst 0, 1) := by decide +kernel
theorem d_d_takeSteps_2 : decode (ch_bc m_d_takeSteps) 2 = .ok (.putfield 78, 3) := by decide +kernel
theorem d_d_takeSteps_5 : decode (ch_bc m_d_takeSteps) 5 = .ok (.iconst 0, 1) := by decide +kernel
theorem d_d_takeSteps_6 : decode (ch_bc m_d_takeSteps) 6 = .ok (.istore_n 3, 1) := by decide +kernel
theorem d_d_takeSteps_7 : decode (ch_bc m_d_takeSteps) 7 = .ok (.iload_n 3, 1) := by decide +kernel
theorem d_d_takeSteps_8 : decode (ch_bc m_d_takeSteps) 8 = .ok (.bipush 12, 2) := by decide +kernel
theorem d_d_takeSteps_10 : decode (ch_bc m_d_takeSteps) 10 = .ok (.if_icmp .ge 47, 3) := by decide +kernel
theorem d_d_takeSteps_13 : decode (ch_bc m_d_takeSteps) 13 = .ok (.aload_n 0, 1) := by decide +kernel
theorem d_d_takeSteps_14 : decode (ch_bc m_d_takeSteps) 14 = .ok (.aload_n 1, 1) := by decide +kernel
theorem d_d_takeSteps_15 : decode (ch_bc m_d_takeSteps) 15 = .ok (.invokevirtual 62, 3) := by decide +kernel
theorem d_d_takeSteps_18 : decode (ch_bc m_d_takeSteps) 18 = .ok (.istore 4, 2) := by decide +kernel
theorem d_d_takeSteps_20 : decode (ch_bc m_d_takeSteps) 20 = .ok (.iload 4, 2) := by decide +kernel
theorem d_d_takeSteps_22 : decode (ch_bc m_d_takeSteps) 22 = .ok (.iconst 1, 1) := by decide +kernel
theorem d_d_takeSteps_23 : decode (ch_bc m_d_takeSteps) 23 = .ok (.if_icmp .lt 34, 3) := by decide +kernel
theorem d_d_takeSteps_26 : decode (ch_bc m_d_takeSteps) 26 = .ok (.iload 4, 2) := by decide +kernel
theorem d_d_takeSteps_28 : decode (ch_bc m_d_takeSteps) 28 = .ok (.iconst 3, 1) := by decide +kernel
theorem d_d_takeSteps_29 : decode (ch_bc m_d_takeSteps) 29 = .ok (.if_icmp .le 6, 3) := by decide +kernel
theorem d_d_takeSteps_32 : decode (ch_bc m_d_takeSteps) 32 = .ok (.goto 25, 3) := by decide +kernel
theorem d_d_takeSteps_35 : decode (ch_bc m_d_takeSteps) 35 = .ok (.aload_n 2, 1) := by decide +kernel
theorem d_d_takeSteps_36 : decode (ch_bc m_d_takeSteps) 36 = .ok (.iload 4, 2) := by decide +kernel
theorem d_d_takeSteps_38 : decode (ch_bc m_d_takeSteps) 38 = .ok (.invokevirtual 83, 3) := by decide +kernel
theorem d_d_takeSteps_41 : decode (ch_bc m_d_takeSteps) 41 = .ok (.aload_n 0, 1) := by decide +kernel
theorem d_d_takeSteps_42 : decode (ch_bc m_d_takeSteps) 42 = .ok (.dup, 1) := by decide +kernel
theorem d_d_takeSteps_43 : decode (ch_bc m_d_takeSteps) 43 = .ok (.getfield 9, 3) := by decide +kernel
theorem d_d_takeSteps_46 : decode (ch_bc m_d_takeSteps) 46 = .ok (.iconst 1, 1) := by decide +kernel
theorem d_d_takeSteps_47 : decode (ch_bc m_d_takeSteps) 47 = .ok (.iadd, 1) := by decide +kernel
theorem d_d_takeSteps_48 : decode (ch_bc m_d_takeSteps) 48 = .ok (.putfield 9, 3) := by decide +kernel
theorem d_d_takeSteps_51 : decode (ch_bc m_d_takeSteps) 51 = .ok (.iinc 3 1, 3) := by decide +kernel
theorem d_d_takeSteps_54 : decode (ch_bc m_d_takeSteps) 54 = .ok (.goto (-47), 3) := by decide +kernel
theorem d_d_takeSteps_57 : decode (ch_bc m_d_takeSteps) 57 = .ok (.aload_n 2, 1) := by decide +kernel
theorem d_d_takeSteps_58 : decode (ch_bc m_d_takeSteps) 58 = .ok (.getfield 78, 3) := by decide +kernel
theorem d_d_takeSteps_61 : decode (ch_bc m_d_takeSteps) 61 = .ok (.ifCond .le 7, 3) := by decide +kernel
theorem d_d_takeSteps_64 : decode (ch_bc m_d_takeSteps) 64 = .ok (.iconst 1, 1) := by decide +kernel
theorem d_d_takeSteps_65 : decode (ch_bc m_d_takeSteps) 65 = .ok (.goto 4, 3) := by decide +kernel
theorem d_d_takeSteps_68 : decode (ch_bc m_d_takeSteps) 68 = .ok (.iconst 0, 1) := by decide +kernel
theorem d_d_takeSteps_69 : decode (ch_bc m_d_takeSteps) 69 = .ok (.ireturn, 1) := by decide +kernel
theorem d_d_passDigit_0 : decode (ch_bc m_d_passDigit) 0 = .ok (.aload_n 0, 1) := by decide +kernel
theorem d_d_passDigit_1 : decode (ch_bc m_d_passDigit) 1 = .ok (.aload_n 1, 1) := by decide +kernel
theorem d_d_passDigit_2 : decode (ch_bc m_d_passDigit) 2 = .ok (.invokevirtual 62, 3) := by decide +kernel
theorem d_d_passDigit_5 : decode (ch_bc m_d_passDigit) 5 = .ok (.ifCond .ge 5, 3) := by decide +kernel
theorem d_d_passDigit_8 : decode (ch_bc m_d_passDigit) 8 = .ok (.iconst 0, 1) := by decide +kernel
theorem d_d_passDigit_9 : decode (ch_bc m_d_passDigit) 9 = .ok (.ireturn, 1) := by decide +kernel
theorem d_d_passDigit_10 : decode (ch_bc m_d_passDigit) 10 = .ok (.aload_n 0, 1) := by decide +kernel
theorem d_d_passDigit_11 : decode (ch_bc m_d_passDigit) 11 = .ok (.dup, 1) := by decide +kernel
theorem d_d_passDigit_12 : decode (ch_bc m_d_passDigit) 12 = .ok (.getfield 9, 3) := by decide +kernel
theorem d_d_passDigit_15 : decode (ch_bc m_d_passDigit) 15 = .ok (.iconst 1, 1) := by decide +kernel
theorem d_d_passDigit_16 : decode (ch_bc m_d_passDigit) 16 = .ok (.iadd, 1) := by decide +kernel
theorem d_d_passDigit_17 : decode (ch_bc m_d_passDigit) 17 = .ok (.putfield 9, 3) := by decide +kernel
theorem d_d_passDigit_20 : decode (ch_bc m_d_passDigit) 20 = .ok (.iconst 1, 1) := by decide +kernel
theorem d_d_passDigit_21 : decode (ch_bc m_d_passDigit) 21 = .ok (.ireturn, 1) := by decide +kernel
theorem d_d_digitAt_0 : decode (ch_bc m_d_digitAt) 0 = .ok (.aload_n 0, 1) := by decide +kernel
theorem d_d_digitAt_1 : decode (ch_bc m_d_digitAt) 1 = .ok (.aload_n 1, 1) := by decide +kernel
theorem d_d_digitAt_2 : decode (ch_bc m_d_digitAt) 2 = .ok (.invokevirtual 28, 3) := by decide +kernel
theorem d_d_digitAt_5 : decode (ch_bc m_d_digitAt) 5 = .ok (.istore_n 2, 1) := by decide +kernel
theorem d_d_digitAt_6 : decode (ch_bc m_d_digitAt) 6 = .ok (.iload_n 2, 1) := by decide +kernel
theorem d_d_digitAt_7 : decode (ch_bc m_d_digitAt) 7 = .ok (.bipush 48, 2) := by decide +kernel
theorem d_d_digitAt_9 : decode (ch_bc m_d_digitAt) 9 = .ok (.if_icmp .lt 16, 3) := by decide +kernel
theorem d_d_digitAt_12 : decode (ch_bc m_d_digitAt) 12 = .ok (.iload_n 2, 1) := by decide +kernel
theorem d_d_digitAt_13 : decode (ch_bc m_d_digitAt) 13 = .ok (.bipush 57, 2) := by decide +kernel
theorem d_d_digitAt_15 : decode (ch_bc m_d_digitAt) 15 = .ok (.if_icmp .gt 10, 3) := by decide +kernel
theorem d_d_digitAt_18 : decode (ch_bc m_d_digitAt) 18 = .ok (.iload_n 2, 1) := by decide +kernel
theorem d_d_digitAt_19 : decode (ch_bc m_d_digitAt) 19 = .ok (.bipush 48, 2) := by decide +kernel
theorem d_d_digitAt_21 : decode (ch_bc m_d_digitAt) 21 = .ok (.isub, 1) := by decide +kernel
theorem d_d_digitAt_22 : decode (ch_bc m_d_digitAt) 22 = .ok (.goto 4, 3) := by decide +kernel
theorem d_d_digitAt_25 : decode (ch_bc m_d_digitAt) 25 = .ok (.iconst (-1), 1) := by decide +kernel
theorem d_d_digitAt_26 : decode (ch_bc m_d_digitAt) 26 = .ok (.ireturn, 1) := by decide +kernel
theorem d_d_signAt_0 : decode (ch_bc m_d_signAt) 0 = .ok (.aload_n 0, 1) := by decide +kernel
theorem d_d_signAt_1 : decode (ch_bc m_d_signAt) 1 = .ok (.getfield 9, 3) := by decide +kernel
theorem d_d_signAt_4 : decode (ch_bc m_d_signAt) 4 = .ok (.ifCond .lt 38, 3) := by decide +kernel
theorem d_d_signAt_7 : decode (ch_bc m_d_signAt) 7 = .ok (.aload_n 0, 1) := by decide +kernel
theorem d_d_signAt_8 : decode (ch_bc m_d_signAt) 8 = .ok (.getfield 9, 3) := by decide +kernel
theorem d_d_signAt_11 : decode (ch_bc m_d_signAt) 11 = .ok (.aload_n 1, 1) := by decide +kernel
theorem d_d_signAt_12 : decode (ch_bc m_d_signAt) 12 = .ok (.getfield 19, 3) := by decide +kernel
theorem d_d_signAt_15 : decode (ch_bc m_d_signAt) 15 = .ok (.if_icmp .ge 27, 3) := by decide +kernel
theorem d_d_signAt_18 : decode (ch_bc m_d_signAt) 18 = .ok (.aload_n 0, 1) := by decide +kernel
theorem d_d_signAt_19 : decode (ch_bc m_d_signAt) 19 = .ok (.getfield 9, 3) := by decide +kernel
theorem d_d_signAt_22 : decode (ch_bc m_d_signAt) 22 = .ok (.aload_n 1, 1) := by decide +kernel
theorem d_d_signAt_23 : decode (ch_bc m_d_signAt) 23 = .ok (.getfield 87, 3) := by decide +kernel
theorem d_d_signAt_26 : decode (ch_bc m_d_signAt) 26 = .ok (.arraylength, 1) := by decide +kernel
theorem d_d_signAt_27 : decode (ch_bc m_d_signAt) 27 = .ok (.if_icmp .ge 15, 3) := by decide +kernel
theorem d_d_signAt_30 : decode (ch_bc m_d_signAt) 30 = .ok (.aload_n 1, 1) := by decide +kernel
theorem d_d_signAt_31 : decode (ch_bc m_d_signAt) 31 = .ok (.getfield 87, 3) := by decide +kernel
theorem d_d_signAt_34 : decode (ch_bc m_d_signAt) 34 = .ok (.aload_n 0, 1) := by decide +kernel
theorem d_d_signAt_35 : decode (ch_bc m_d_signAt) 35 = .ok (.getfield 9, 3) := by decide +kernel
theorem d_d_signAt_38 : decode (ch_bc m_d_signAt) 38 = .ok (.caload, 1) := by decide +kernel
theorem d_d_signAt_39 : decode (ch_bc m_d_signAt) 39 = .ok (.goto 4, 3) := by decide +kernel
theorem d_d_signAt_42 : decode (ch_bc m_d_signAt) 42 = .ok (.iconst (-1), 1) := by decide +kernel
theorem d_d_signAt_43 : decode (ch_bc m_d_signAt) 43 = .ok (.ireturn, 1) := by decide +kernel
theorem d_r_refuse_0 : decode (ch_bc m_r_refuse) 0 = .ok (.aload_n 2, 1) := by decide +kernel
theorem d_r_refuse_1 : decode (ch_bc m_r_refuse) 1 = .ok (.getfield 9, 3) := by decide +kernel
theorem d_r_refuse_4 : decode (ch_bc m_r_refuse) 4 = .ok (.tableswitch 174 99 119 #[110, 174, 174, 174, 174, 124, 174, 174, 174, 174, 174, 100, 174, 174, 174, 158, 148, 168, 174, 174, 138], 100) := by decide +kernel
theorem d_r_refuse_104 : decode (ch_bc m_r_refuse) 104 = .ok (.aload_n 0, 1) := by decide +kernel
theorem d_r_refuse_105 : decode (ch_bc m_r_refuse) 105 = .ok (.aload_n 1, 1) := by decide +kernel
theorem d_r_refuse_106 : decode (ch_bc m_r_refuse) 106 = .ok (.aload_n 2, 1) := by decide +kernel
theorem d_r_refuse_107 : decode (ch_bc m_r_refuse) 107 = .ok (.getfield 15, 3) := by decide +kernel
theorem d_r_refuse_110 : decode (ch_bc m_r_refuse) 110 = .ok (.invokevirtual 18, 3) := by decide +kernel
theorem d_r_refuse_113 : decode (ch_bc m_r_refuse) 113 = .ok (.ireturn, 1) := by decide +kernel
theorem d_r_refuse_114 : decode (ch_bc m_r_refuse) 114 = .ok (.aload_n 0, 1) := by decide +kernel
theorem d_r_refuse_115 : decode (ch_bc m_r_refuse) 115 = .ok (.aload_n 1, 1) := by decide +kernel
theorem d_r_refuse_116 : decode (ch_bc m_r_refuse) 116 = .ok (.aload_n 2, 1) := by decide +kernel
theorem d_r_refuse_117 : decode (ch_bc m_r_refuse) 117 = .ok (.getfield 24, 3) := by decide +kernel
theorem d_r_refuse_120 : decode (ch_bc m_r_refuse) 120 = .ok (.aload_n 2, 1) := by decide +kernel
theorem d_r_refuse_121 : decode (ch_bc m_r_refuse) 121 = .ok (.getfield 15, 3) := by decide +kernel
theorem d_r_refuse_124 : decode (ch_bc m_r_refuse) 124 = .ok (.invokevirtual 27, 3) := by decide +kernel
theorem d_r_refuse_127 : decode (ch_bc m_r_refuse) 127 = .ok (.ireturn, 1) := by decide +kernel
theorem d_r_refuse_128 : decode (ch_bc m_r_refuse) 128 = .ok (.aload_n 0, 1) := by decide +kernel
theorem d_r_refuse_129 : decode (ch_bc m_r_refuse) 129 = .ok (.aload_n 1, 1) := by decide +kernel
theorem d_r_refuse_130 : decode (ch_bc m_r_refuse) 130 = .ok (.aload_n 2, 1) := by decide +kernel
theorem d_r_refuse_131 : decode (ch_bc m_r_refuse) 131 = .ok (.getfield 24, 3) := by decide +kernel
theorem d_r_refuse_134 : decode (ch_bc m_r_refuse) 134 = .ok (.aload_n 2, 1) := by decide +kernel
theorem d_r_refuse_135 : decode (ch_bc m_r_refuse) 135 = .ok (.getfield 31, 3) := by decide +kernel
theorem d_r_refuse_138 : decode (ch_bc m_r_refuse) 138 = .ok (.invokevirtual 35, 3) := by decide +kernel
theorem d_r_refuse_141 : decode (ch_bc m_r_refuse) 141 = .ok (.ireturn, 1) := by decide +kernel
theorem d_r_refuse_142 : decode (ch_bc m_r_refuse) 142 = .ok (.aload_n 0, 1) := by decide +kernel
theorem d_r_refuse_143 : decode (ch_bc m_r_refuse) 143 = .ok (.aload_n 1, 1) := by decide +kernel
theorem d_r_refuse_144 : decode (ch_bc m_r_refuse) 144 = .ok (.aload_n 2, 1) := by decide +kernel
theorem d_r_refuse_145 : decode (ch_bc m_r_refuse) 145 = .ok (.getfield 24, 3) := by decide +kernel
theorem d_r_refuse_148 : decode (ch_bc m_r_refuse) 148 = .ok (.invokevirtual 39, 3) := by decide +kernel
theorem d_r_refuse_151 : decode (ch_bc m_r_refuse) 151 = .ok (.ireturn, 1) := by decide +kernel
theorem d_r_refuse_152 : decode (ch_bc m_r_refuse) 152 = .ok (.aload_n 0, 1) := by decide +kernel
theorem d_r_refuse_153 : decode (ch_bc m_r_refuse) 153 = .ok (.aload_n 1, 1) := by decide +kernel
theorem d_r_refuse_154 : decode (ch_bc m_r_refuse) 154 = .ok (.aload_n 2, 1) := by decide +kernel
theorem d_r_refuse_155 : decode (ch_bc m_r_refuse) 155 = .ok (.getfield 24, 3) := by decide +kernel
theorem d_r_refuse_158 : decode (ch_bc m_r_refuse) 158 = .ok (.invokevirtual 42, 3) := by decide +kernel
theorem d_r_refuse_161 : decode (ch_bc m_r_refuse) 161 = .ok (.ireturn, 1) := by decide +kernel
theorem d_r_refuse_162 : decode (ch_bc m_r_refuse) 162 = .ok (.aload_n 0, 1) := by decide +kernel
theorem d_r_refuse_163 : decode (ch_bc m_r_refuse) 163 = .ok (.aload_n 1, 1) := by decide +kernel
theorem d_r_refuse_164 : decode (ch_bc m_r_refuse) 164 = .ok (.aload_n 2, 1) := by decide +kernel
theorem d_r_refuse_165 : decode (ch_bc m_r_refuse) 165 = .ok (.getfield 15, 3) := by decide +kernel
theorem d_r_refuse_168 : decode (ch_bc m_r_refuse) 168 = .ok (.invokevirtual 45, 3) := by decide +kernel
theorem d_r_refuse_171 : decode (ch_bc m_r_refuse) 171 = .ok (.ireturn, 1) := by decide +kernel
theorem d_r_refuse_172 : decode (ch_bc m_r_refuse) 172 = .ok (.aload_n 0, 1) := by decide +kernel
theorem d_r_refuse_173 : decode (ch_bc m_r_refuse) 173 = .ok (.aload_n 1, 1) := by decide +kernel
theorem d_r_refuse_174 : decode (ch_bc m_r_refuse) 174 = .ok (.invokevirtual 48, 3) := by decide +kernel
theorem d_r_refuse_177 : decode (ch_bc m_r_refuse) 177 = .ok (.ireturn, 1) := by decide +kernel
theorem d_r_refuse_178 : decode (ch_bc m_r_refuse) 178 = .ok (.aload_n 0, 1) := by decide +kernel
theorem d_r_refuse_179 : decode (ch_bc m_r_refuse) 179 = .ok (.aload_n 1, 1) := by decide +kernel
theorem d_r_refuse_180 : decode (ch_bc m_r_refuse) 180 = .ok (.aload_n 2, 1) := by decide +kernel
theorem d_r_refuse_181 : decode (ch_bc m_r_refuse) 181 = .ok (.getfield 24, 3) := by decide +kernel
theorem d_r_refuse_184 : decode (ch_bc m_r_refuse) 184 = .ok (.aload_n 2, 1) := by decide +kernel
theorem d_r_refuse_185 : decode (ch_bc m_r_refuse) 185 = .ok (.getfield 52, 3) := by decide +kernel
theorem d_r_refuse_188 : decode (ch_bc m_r_refuse) 188 = .ok (.aload_n 2, 1) := by decide +kernel
theorem d_r_refuse_189 : decode (ch_bc m_r_refuse) 189 = .ok (.getfield 15, 3) := by decide +kernel
theorem d_r_refuse_192 : decode (ch_bc m_r_refuse) 192 = .ok (.invokevirtual 55, 3) := by decide +kernel
theorem d_r_refuse_195 : decode (ch_bc m_r_refuse) 195 = .ok (.ireturn, 1) := by decide +kernel
theorem d_r_refuseChild_0 : decode (ch_bc m_r_refuseChild) 0 = .ok (.aload_n 0, 1) := by decide +kernel
theorem d_r_refuseChild_1 : decode (ch_bc m_r_refuseChild) 1 = .ok (.iload_n 2, 1) := by decide +kernel
theorem d_r_refuseChild_2 : decode (ch_bc m_r_refuseChild) 2 = .ok (.iconst 0, 1) := by decide +kernel
theorem d_r_refuseChild_3 : decode (ch_bc m_r_refuseChild) 3 = .ok (.bipush 99, 2) := by decide +kernel
theorem d_r_refuseChild_5 : decode (ch_bc m_r_refuseChild) 5 = .ok (.invokevirtual 59, 3) := by decide +kernel
theorem d_r_refuseChild_8 : decode (ch_bc m_r_refuseChild) 8 = .ok (.ifCond .ne 23, 3) := by decide +kernel
theorem d_r_refuseChild_11 : decode (ch_bc m_r_refuseChild) 11 = .ok (.aload_n 1, 1) := by decide +kernel
theorem d_r_refuseChild_12 : decode (ch_bc m_r_refuseChild) 12 = .ok (.getfield 63, 3) := by decide +kernel
theorem d_r_refuseChild_15 : decode (ch_bc m_r_refuseChild) 15 = .ok (.iconst 5, 1) := by decide +kernel
theorem d_r_refuseChild_16 : decode (ch_bc m_r_refuseChild) 16 = .ok (.if_icmp .lt 19, 3) := by decide +kernel
theorem d_r_refuseChild_19 : decode (ch_bc m_r_refuseChild) 19 = .ok (.aload_n 0, 1) := by decide +kernel
theorem d_r_refuseChild_20 : decode (ch_bc m_r_refuseChild) 20 = .ok (.iconst 2, 1) := by decide +kernel
theorem d_r_refuseChild_21 : decode (ch_bc m_r_refuseChild) 21 = .ok (.aload_n 1, 1) := by decide +kernel
theorem d_r_refuseChild_22 : decode (ch_bc m_r_refuseChild) 22 = .ok (.getfield 63, 3) := by decide +kernel
theorem d_r_refuseChild_25 : decode (ch_bc m_r_refuseChild) 25 = .ok (.invokevirtual 68, 3) := by decide +kernel
theorem d_r_refuseChild_28 : decode (ch_bc m_r_refuseChild) 28 = .ok (.ifCond .eq 7, 3) := by decide +kernel
theorem d_r_refuseChild_31 : decode (ch_bc m_r_refuseChild) 31 = .ok (.iconst 1, 1) := by decide +kernel
theorem d_r_refuseChild_32 : decode (ch_bc m_r_refuseChild) 32 = .ok (.goto 4, 3) := by decide +kernel
theorem d_r_refuseChild_35 : decode (ch_bc m_r_refuseChild) 35 = .ok (.iconst 0, 1) := by decide +kernel
theorem d_r_refuseChild_36 : decode (ch_bc m_r_refuseChild) 36 = .ok (.ireturn, 1) := by decide +kernel
theorem d_r_refuseChalk_0 : decode (ch_bc m_r_refuseChalk) 0 = .ok (.aload_n 0, 1) := by decide +kernel
theorem d_r_refuseChalk_1 : decode (ch_bc m_r_refuseChalk) 1 = .ok (.aload_n 1, 1) := by decide +kernel
theorem d_r_refuseChalk_2 : decode (ch_bc m_r_refuseChalk) 2 = .ok (.iload_n 2, 1) := by decide +kernel
theorem d_r_refuseChalk_3 : decode (ch_bc m_r_refuseChalk) 3 = .ok (.invokevirtual 72, 3) := by decide +kernel
theorem d_r_refuseChalk_6 : decode (ch_bc m_r_refuseChalk) 6 = .ok (.ifCond .ne 14, 3) := by decide +kernel
theorem d_r_refuseChalk_9 : decode (ch_bc m_r_refuseChalk) 9 = .ok (.aload_n 0, 1) := by decide +kernel
theorem d_r_refuseChalk_10 : decode (ch_bc m_r_refuseChalk) 10 = .ok (.iload_n 3, 1) := by decide +kernel
theorem d_r_refuseChalk_11 : decode (ch_bc m_r_refuseChalk) 11 = .ok (.iconst 0, 1) := by decide +kernel
theorem d_r_refuseChalk_12 : decode (ch_bc m_r_refuseChalk) 12 = .ok (.bipush 11, 2) := by decide +kernel
theorem d_r_refuseChalk_14 : decode (ch_bc m_r_refuseChalk) 14 = .ok (.invokevirtual 59, 3) := by decide +kernel
theorem d_r_refuseChalk_17 : decode (ch_bc m_r_refuseChalk) 17 = .ok (.ifCond .eq 5, 3) := by decide +kernel
theorem d_r_refuseChalk_20 : decode (ch_bc m_r_refuseChalk) 20 = .ok (.iconst 1, 1) := by decide +kernel
theorem d_r_refuseChalk_21 : decode (ch_bc m_r_refuseChalk) 21 = .ok (.ireturn, 1) := by decide +kernel
theorem d_r_refuseChalk_22 : decode (ch_bc m_r_refuseChalk) 22 = .ok (.aload_n 1, 1) := by decide +kernel
theorem d_r_refuseChalk_23 : decode (ch_bc m_r_refuseChalk) 23 = .ok (.getfield 75, 3) := by decide +kernel
theorem d_r_refuseChalk_26 : decode (ch_bc m_r_refuseChalk) 26 = .ok (.iload_n 3, 1) := by decide +kernel
theorem d_r_refuseChalk_27 : decode (ch_bc m_r_refuseChalk) 27 = .ok (.iaload, 1) := by decide +kernel
theorem d_r_refuseChalk_28 : decode (ch_bc m_r_refuseChalk) 28 = .ok (.istore 4, 2) := by decide +kernel
theorem d_r_refuseChalk_30 : decode (ch_bc m_r_refuseChalk) 30 = .ok (.iload 4, 2) := by decide +kernel
theorem d_r_refuseChalk_32 : decode (ch_bc m_r_refuseChalk) 32 = .ok (.iconst (-1), 1) := by decide +kernel
theorem d_r_refuseChalk_33 : decode (ch_bc m_r_refuseChalk) 33 = .ok (.if_icmp .eq 17, 3) := by decide +kernel
theorem d_r_refuseChalk_36 : decode (ch_bc m_r_refuseChalk) 36 = .ok (.iload 4, 2) := by decide +kernel
theorem d_r_refuseChalk_38 : decode (ch_bc m_r_refuseChalk) 38 = .ok (.iload_n 2, 1) := by decide +kernel
theorem d_r_refuseChalk_39 : decode (ch_bc m_r_refuseChalk) 39 = .ok (.if_icmp .eq 11, 3) := by decide +kernel
theorem d_r_refuseChalk_42 : decode (ch_bc m_r_refuseChalk) 42 = .ok (.aload_n 0, 1) := by decide +kernel
theorem d_r_refuseChalk_43 : decode (ch_bc m_r_refuseChalk) 43 = .ok (.iconst 4, 1) := by decide +kernel
theorem d_r_refuseChalk_44 : decode (ch_bc m_r_refuseChalk) 44 = .ok (.iload 4, 2) := by decide +kernel
theorem d_r_refuseChalk_46 : decode (ch_bc m_r_refuseChalk) 46 = .ok (.invokevirtual 68, 3) := by decide +kernel
theorem d_r_refuseChalk_49 : decode (ch_bc m_r_refuseChalk) 49 = .ok (.ireturn, 1) := by decide +kernel
theorem d_r_refuseChalk_50 : decode (ch_bc m_r_refuseChalk) 50 = .ok (.aload_n 1, 1) := by decide +kernel
theorem d_r_refuseChalk_51 : decode (ch_bc m_r_refuseChalk) 51 = .ok (.getfield 79, 3) := by decide +kernel
theorem d_r_refuseChalk_54 : decode (ch_bc m_r_refuseChalk) 54 = .ok (.iload_n 3, 1) := by decide +kernel
theorem d_r_refuseChalk_55 : decode (ch_bc m_r_refuseChalk) 55 = .ok (.iaload, 1) := by decide +kernel
theorem d_r_refuseChalk_56 : decode (ch_bc m_r_refuseChalk) 56 = .ok (.bipush 9, 2) := by decide +kernel
theorem d_r_refuseChalk_58 : decode (ch_bc m_r_refuseChalk) 58 = .ok (.if_icmp .lt 11, 3) := by decide +kernel
theorem d_r_refuseChalk_61 : decode (ch_bc m_r_refuseChalk) 61 = .ok (.aload_n 0, 1) := by decide +kernel
theorem d_r_refuseChalk_62 : decode (ch_bc m_r_refuseChalk) 62 = .ok (.bipush 6, 2) := by decide +kernel
theorem d_r_refuseChalk_64 : decode (ch_bc m_r_refuseChalk) 64 = .ok (.iload_n 3, 1) := by decide +kernel
theorem d_r_refuseChalk_65 : decode (ch_bc m_r_refuseChalk) 65 = .ok (.invokevirtual 68, 3) := by decide +kernel
theorem d_r_refuseChalk_68 : decode (ch_bc m_r_refuseChalk) 68 = .ok (.ireturn, 1) := by decide +kernel
theorem d_r_refuseChalk_69 : decode (ch_bc m_r_refuseChalk) 69 = .ok (.aload_n 0, 1) := by decide +kernel
theorem d_r_refuseChalk_70 : decode (ch_bc m_r_refuseChalk) 70 = .ok (.aload_n 1, 1) := by decide +kernel
theorem d_r_refuseChalk_71 : decode (ch_bc m_r_refuseChalk) 71 = .ok (.iload_n 2, 1) := by decide +kernel
theorem d_r_refuseChalk_72 : decode (ch_bc m_r_refuseChalk) 72 = .ok (.iconst 1, 1) := by decide +kernel
theorem d_r_refuseChalk_73 : decode (ch_bc m_r_refuseChalk) 73 = .ok (.invokevirtual 82, 3) := by decide +kernel
theorem d_r_refuseChalk_76 : decode (ch_bc m_r_refuseChalk) 76 = .ok (.ireturn, 1) := by decide +kernel
theorem d_r_refuseHop_0 : decode (ch_bc m_r_refuseHop) 0 = .ok (.aload_n 0, 1) := by decide +kernel
theorem d_r_refuseHop_1 : decode (ch_bc m_r_refuseHop) 1 = .ok (.aload_n 1, 1) := by decide +kernel
theorem d_r_refuseHop_2 : decode (ch_bc m_r_refuseHop) 2 = .ok (.iload_n 2, 1) := by decide +kernel
theorem d_r_refuseHop_3 : decode (ch_bc m_r_refuseHop) 3 = .ok (.invokevirtual 72, 3) := by decide +kernel
theorem d_r_refuseHop_6 : decode (ch_bc m_r_refuseHop) 6 = .ok (.ifCond .ne 12, 3) := by decide +kernel
theorem d_r_refuseHop_9 : decode (ch_bc m_r_refuseHop) 9 = .ok (.aload_n 0, 1) := by decide +kernel
theorem d_r_refuseHop_10 : decode (ch_bc m_r_refuseHop) 10 = .ok (.aload_n 1, 1) := by decide +kernel
theorem d_r_refuseHop_11 : decode (ch_bc m_r_refuseHop) 11 = .ok (.iload_n 2, 1) := by decide +kernel
theorem d_r_refuseHop_12 : decode (ch_bc m_r_refuseHop) 12 = .ok (.invokevirtual 85, 3) := by decide +kernel
theorem d_r_refuseHop_15 : decode (ch_bc m_r_refuseHop) 15 = .ok (.ifCond .eq 5, 3) := by decide +kernel
theorem d_r_refuseHop_18 : decode (ch_bc m_r_refuseHop) 18 = .ok (.iconst 1, 1) := by decide +kernel
theorem d_r_refuseHop_19 : decode (ch_bc m_r_refuseHop) 19 = .ok (.ireturn, 1) := by decide +kernel
theorem d_r_refuseHop_20 : decode (ch_bc m_r_refuseHop) 20 = .ok (.aload_n 3, 1) := by decide +kernel
theorem d_r_refuseHop_21 : decode (ch_bc m_r_refuseHop) 21 = .ok (.getfield 88, 3) := by decide +kernel
theorem d_r_refuseHop_24 : decode (ch_bc m_r_refuseHop) 24 = .ok (.ifCond .ne 10, 3) := by decide +kernel
theorem d_r_refuseHop_27 : decode (ch_bc m_r_refuseHop) 27 = .ok (.aload_n 0, 1) := by decide +kernel
theorem d_r_refuseHop_28 : decode (ch_bc m_r_refuseHop) 28 = .ok (.iconst 1, 1) := by decide +kernel
theorem d_r_refuseHop_29 : decode (ch_bc m_r_refuseHop) 29 = .ok (.iconst 0, 1) := by decide +kernel
theorem d_r_refuseHop_30 : decode (ch_bc m_r_refuseHop) 30 = .ok (.invokevirtual 68, 3) := by decide +kernel
theorem d_r_refuseHop_33 : decode (ch_bc m_r_refuseHop) 33 = .ok (.ireturn, 1) := by decide +kernel
theorem d_r_refuseHop_34 : decode (ch_bc m_r_refuseHop) 34 = .ok (.aload_n 3, 1) := by decide +kernel
theorem d_r_refuseHop_35 : decode (ch_bc m_r_refuseHop) 35 = .ok (.invokevirtual 93, 3) := by decide +kernel
theorem d_r_refuseHop_38 : decode (ch_bc m_r_refuseHop) 38 = .ok (.istore 4, 2) := by decide +kernel
theorem d_r_refuseHop_40 : decode (ch_bc m_r_refuseHop) 40 = .ok (.iload 4, 2) := by decide +kernel
theorem d_r_refuseHop_42 : decode (ch_bc m_r_refuseHop) 42 = .ok (.iconst (-1), 1) := by decide +kernel
theorem d_r_refuseHop_43 : decode (ch_bc m_r_refuseHop) 43 = .ok (.if_icmp .eq 18, 3) := by decide +kernel
theorem d_r_refuseHop_46 : decode (ch_bc m_r_refuseHop) 46 = .ok (.aload_n 0, 1) := by decide +kernel
theorem d_r_refuseHop_47 : decode (ch_bc m_r_refuseHop) 47 = .ok (.bipush 8, 2) := by decide +kernel
theorem d_r_refuseHop_49 : decode (ch_bc m_r_refuseHop) 49 = .ok (.iload 4, 2) := by decide +kernel
theorem d_r_refuseHop_51 : decode (ch_bc m_r_refuseHop) 51 = .ok (.invokevirtual 68, 3) := by decide +kernel
theorem d_r_refuseHop_54 : decode (ch_bc m_r_refuseHop) 54 = .ok (.ifCond .eq 7, 3) := by decide +kernel
theorem d_r_refuseHop_57 : decode (ch_bc m_r_refuseHop) 57 = .ok (.iconst 1, 1) := by decide +kernel
theorem d_r_refuseHop_58 : decode (ch_bc m_r_refuseHop) 58 = .ok (.goto 4, 3) := by decide +kernel
theorem d_r_refuseHop_61 : decode (ch_bc m_r_refuseHop) 61 = .ok (.iconst 0, 1) := by decide +kernel
theorem d_r_refuseHop_62 : decode (ch_bc m_r_refuseHop) 62 = .ok (.ireturn, 1) := by decide +kernel
theorem d_r_refuseWarrant_0 : decode (ch_bc m_r_refuseWarrant) 0 = .ok (.aload_n 0, 1) := by decide +kernel
theorem d_r_refuseWarrant_1 : decode (ch_bc m_r_refuseWarrant) 1 = .ok (.aload_n 1, 1) := by decide +kernel
theorem d_r_refuseWarrant_2 : decode (ch_bc m_r_refuseWarrant) 2 = .ok (.iload_n 2, 1) := by decide +kernel
theorem d_r_refuseWarrant_3 : decode (ch_bc m_r_refuseWarrant) 3 = .ok (.invokevirtual 72, 3) := by decide +kernel
theorem d_r_refuseWarrant_6 : decode (ch_bc m_r_refuseWarrant) 6 = .ok (.ifCond .ne 37, 3) := by decide +kernel
theorem d_r_refuseWarrant_9 : decode (ch_bc m_r_refuseWarrant) 9 = .ok (.aload_n 0, 1) := by decide +kernel
theorem d_r_refuseWarrant_10 : decode (ch_bc m_r_refuseWarrant) 10 = .ok (.aload_n 1, 1) := by decide +kernel
theorem d_r_refuseWarrant_11 : decode (ch_bc m_r_refuseWarrant) 11 = .ok (.iload_n 2, 1) := by decide +kernel
theorem d_r_refuseWarrant_12 : decode (ch_bc m_r_refuseWarrant) 12 = .ok (.invokevirtual 85, 3) := by decide +kernel
theorem d_r_refuseWarrant_15 : decode (ch_bc m_r_refuseWarrant) 15 = .ok (.ifCond .ne 28, 3) := by decide +kernel
theorem d_r_refuseWarrant_18 : decode (ch_bc m_r_refuseWarrant) 18 = .ok (.aload_n 1, 1) := by decide +kernel
theorem d_r_refuseWarrant_19 : decode (ch_bc m_r_refuseWarrant) 19 = .ok (.getfield 97, 3) := by decide +kernel
theorem d_r_refuseWarrant_22 : decode (ch_bc m_r_refuseWarrant) 22 = .ok (.iload_n 2, 1) := by decide +kernel
theorem d_r_refuseWarrant_23 : decode (ch_bc m_r_refuseWarrant) 23 = .ok (.iaload, 1) := by decide +kernel
theorem d_r_refuseWarrant_24 : decode (ch_bc m_r_refuseWarrant) 24 = .ok (.iconst 3, 1) := by decide +kernel
theorem d_r_refuseWarrant_25 : decode (ch_bc m_r_refuseWarrant) 25 = .ok (.if_icmp .ge 22, 3) := by decide +kernel
theorem d_r_refuseWarrant_28 : decode (ch_bc m_r_refuseWarrant) 28 = .ok (.aload_n 0, 1) := by decide +kernel
theorem d_r_refuseWarrant_29 : decode (ch_bc m_r_refuseWarrant) 29 = .ok (.bipush 9, 2) := by decide +kernel
theorem d_r_refuseWarrant_31 : decode (ch_bc m_r_refuseWarrant) 31 = .ok (.aload_n 1, 1) := by decide +kernel
theorem d_r_refuseWarrant_32 : decode (ch_bc m_r_refuseWarrant) 32 = .ok (.getfield 97, 3) := by decide +kernel
theorem d_r_refuseWarrant_35 : decode (ch_bc m_r_refuseWarrant) 35 = .ok (.iload_n 2, 1) := by decide +kernel
theorem d_r_refuseWarrant_36 : decode (ch_bc m_r_refuseWarrant) 36 = .ok (.iaload, 1) := by decide +kernel
theorem d_r_refuseWarrant_37 : decode (ch_bc m_r_refuseWarrant) 37 = .ok (.invokevirtual 68, 3) := by decide +kernel
theorem d_r_refuseWarrant_40 : decode (ch_bc m_r_refuseWarrant) 40 = .ok (.ifCond .eq 7, 3) := by decide +kernel
theorem d_r_refuseWarrant_43 : decode (ch_bc m_r_refuseWarrant) 43 = .ok (.iconst 1, 1) := by decide +kernel
theorem d_r_refuseWarrant_44 : decode (ch_bc m_r_refuseWarrant) 44 = .ok (.goto 4, 3) := by decide +kernel
theorem d_r_refuseWarrant_47 : decode (ch_bc m_r_refuseWarrant) 47 = .ok (.iconst 0, 1) := by decide +kernel
theorem d_r_refuseWarrant_48 : decode (ch_bc m_r_refuseWarrant) 48 = .ok (.ireturn, 1) := by decide +kernel
theorem d_r_refuseStrike_0 : decode (ch_bc m_r_refuseStrike) 0 = .ok (.aload_n 0, 1) := by decide +kernel
theorem d_r_refuseStrike_1 : decode (ch_bc m_r_refuseStrike) 1 = .ok (.aload_n 1, 1) := by decide +kernel
theorem d_r_refuseStrike_2 : decode (ch_bc m_r_refuseStrike) 2 = .ok (.iload_n 2, 1) := by decide +kernel
theorem d_r_refuseStrike_3 : decode (ch_bc m_r_refuseStrike) 3 = .ok (.invokevirtual 72, 3) := by decide +kernel
theorem d_r_refuseStrike_6 : decode (ch_bc m_r_refuseStrike) 6 = .ok (.ifCond .ne 37, 3) := by decide +kernel
theorem d_r_refuseStrike_9 : decode (ch_bc m_r_refuseStrike) 9 = .ok (.aload_n 1, 1) := by decide +kernel
theorem d_r_refuseStrike_10 : decode (ch_bc m_r_refuseStrike) 10 = .ok (.getfield 100, 3) := by decide +kernel
theorem d_r_refuseStrike_13 : decode (ch_bc m_r_refuseStrike) 13 = .ok (.iload_n 2, 1) := by decide +kernel
theorem d_r_refuseStrike_14 : decode (ch_bc m_r_refuseStrike) 14 = .ok (.iaload, 1) := by decide +kernel
theorem d_r_refuseStrike_15 : decode (ch_bc m_r_refuseStrike) 15 = .ok (.ifCond .ne 13, 3) := by decide +kernel
theorem d_r_refuseStrike_18 : decode (ch_bc m_r_refuseStrike) 18 = .ok (.aload_n 0, 1) := by decide +kernel
theorem d_r_refuseStrike_19 : decode (ch_bc m_r_refuseStrike) 19 = .ok (.bipush 10, 2) := by decide +kernel
theorem d_r_refuseStrike_21 : decode (ch_bc m_r_refuseStrike) 21 = .ok (.iconst 0, 1) := by decide +kernel
theorem d_r_refuseStrike_22 : decode (ch_bc m_r_refuseStrike) 22 = .ok (.invokevirtual 68, 3) := by decide +kernel
theorem d_r_refuseStrike_25 : decode (ch_bc m_r_refuseStrike) 25 = .ok (.ifCond .ne 18, 3) := by decide +kernel
theorem d_r_refuseStrike_28 : decode (ch_bc m_r_refuseStrike) 28 = .ok (.aload_n 0, 1) := by decide +kernel
theorem d_r_refuseStrike_29 : decode (ch_bc m_r_refuseStrike) 29 = .ok (.aload_n 1, 1) := by decide +kernel
theorem d_r_refuseStrike_30 : decode (ch_bc m_r_refuseStrike) 30 = .ok (.iload_n 2, 1) := by decide +kernel
theorem d_r_refuseStrike_31 : decode (ch_bc m_r_refuseStrike) 31 = .ok (.aload_n 1, 1) := by decide +kernel
theorem d_r_refuseStrike_32 : decode (ch_bc m_r_refuseStrike) 32 = .ok (.getfield 100, 3) := by decide +kernel
theorem d_r_refuseStrike_35 : decode (ch_bc m_r_refuseStrike) 35 = .ok (.iload_n 2, 1) := by decide +kernel
theorem d_r_refuseStrike_36 : decode (ch_bc m_r_refuseStrike) 36 = .ok (.iaload, 1) := by decide +kernel
theorem d_r_refuseStrike_37 : decode (ch_bc m_r_refuseStrike) 37 = .ok (.invokevirtual 82, 3) := by decide +kernel
theorem d_r_refuseStrike_40 : decode (ch_bc m_r_refuseStrike) 40 = .ok (.ifCond .eq 7, 3) := by decide +kernel
theorem d_r_refuseStrike_43 : decode (ch_bc m_r_refuseStrike) 43 = .ok (.iconst 1, 1) := by decide +kernel
theorem d_r_refuseStrike_44 : decode (ch_bc m_r_refuseStrike) 44 = .ok (.goto 4, 3) := by decide +kernel
theorem d_r_refuseStrike_47 : decode (ch_bc m_r_refuseStrike) 47 = .ok (.iconst 0, 1) := by decide +kernel
theorem d_r_refuseStrike_48 : decode (ch_bc m_r_refuseStrike) 48 = .ok (.ireturn, 1) := by decide +kernel
theorem d_r_refuseRain_0 : decode (ch_bc m_r_refuseRain) 0 = .ok (.aload_n 0, 1) := by decide +kernel
theorem d_r_refuseRain_1 : decode (ch_bc m_r_refuseRain) 1 = .ok (.iload_n 2, 1) := by decide +kernel
theorem d_r_refuseRain_2 : decode (ch_bc m_r_refuseRain) 2 = .ok (.iconst 1, 1) := by decide +kernel
theorem d_r_refuseRain_3 : decode (ch_bc m_r_refuseRain) 3 = .ok (.bipush 9, 2) := by decide +kernel
theorem d_r_refuseRain_5 : decode (ch_bc m_r_refuseRain) 5 = .ok (.invokevirtual 59, 3) := by decide +kernel
theorem d_r_refuseRain_8 : decode (ch_bc m_r_refuseRain) 8 = .ok (.ifCond .ne 30, 3) := by decide +kernel
theorem d_r_refuseRain_11 : decode (ch_bc m_r_refuseRain) 11 = .ok (.aload_n 1, 1) := by decide +kernel
theorem d_r_refuseRain_12 : decode (ch_bc m_r_refuseRain) 12 = .ok (.getfield 103, 3) := by decide +kernel
theorem d_r_refuseRain_15 : decode (ch_bc m_r_refuseRain) 15 = .ok (.ifCond .ne 27, 3) := by decide +kernel
theorem d_r_refuseRain_18 : decode (ch_bc m_r_refuseRain) 18 = .ok (.aload_n 1, 1) := by decide +kernel
theorem d_r_refuseRain_19 : decode (ch_bc m_r_refuseRain) 19 = .ok (.iconst (-1), 1) := by decide +kernel
theorem d_r_refuseRain_20 : decode (ch_bc m_r_refuseRain) 20 = .ok (.invokevirtual 106, 3) := by decide +kernel
theorem d_r_refuseRain_23 : decode (ch_bc m_r_refuseRain) 23 = .ok (.bipush 12, 2) := by decide +kernel
theorem d_r_refuseRain_25 : decode (ch_bc m_r_refuseRain) 25 = .ok (.if_icmp .ne 17, 3) := by decide +kernel
theorem d_r_refuseRain_28 : decode (ch_bc m_r_refuseRain) 28 = .ok (.aload_n 0, 1) := by decide +kernel
theorem d_r_refuseRain_29 : decode (ch_bc m_r_refuseRain) 29 = .ok (.bipush 12, 2) := by decide +kernel
theorem d_r_refuseRain_31 : decode (ch_bc m_r_refuseRain) 31 = .ok (.iconst 0, 1) := by decide +kernel
theorem d_r_refuseRain_32 : decode (ch_bc m_r_refuseRain) 32 = .ok (.invokevirtual 68, 3) := by decide +kernel
theorem d_r_refuseRain_35 : decode (ch_bc m_r_refuseRain) 35 = .ok (.ifCond .eq 7, 3) := by decide +kernel
theorem d_r_refuseRain_38 : decode (ch_bc m_r_refuseRain) 38 = .ok (.iconst 1, 1) := by decide +kernel
theorem d_r_refuseRain_39 : decode (ch_bc m_r_refuseRain) 39 = .ok (.goto 4, 3) := by decide +kernel
theorem d_r_refuseRain_42 : decode (ch_bc m_r_refuseRain) 42 = .ok (.iconst 0, 1) := by decide +kernel
theorem d_r_refuseRain_43 : decode (ch_bc m_r_refuseRain) 43 = .ok (.ireturn, 1) := by decide +kernel
theorem d_r_refuseTerm_0 : decode (ch_bc m_r_refuseTerm) 0 = .ok (.aload_n 1, 1) := by decide +kernel
theorem d_r_refuseTerm_1 : decode (ch_bc m_r_refuseTerm) 1 = .ok (.getfield 63, 3) := by decide +kernel
theorem d_r_refuseTerm_4 : decode (ch_bc m_r_refuseTerm) 4 = .ok (.ifCond .ne 17, 3) := by decide +kernel
theorem d_r_refuseTerm_7 : decode (ch_bc m_r_refuseTerm) 7 = .ok (.aload_n 0, 1) := by decide +kernel
theorem d_r_refuseTerm_8 : decode (ch_bc m_r_refuseTerm) 8 = .ok (.bipush 13, 2) := by decide +kernel
theorem d_r_refuseTerm_10 : decode (ch_bc m_r_refuseTerm) 10 = .ok (.iconst 0, 1) := by decide +kernel
theorem d_r_refuseTerm_11 : decode (ch_bc m_r_refuseTerm) 11 = .ok (.invokevirtual 68, 3) := by decide +kernel
theorem d_r_refuseTerm_14 : decode (ch_bc m_r_refuseTerm) 14 = .ok (.ifCond .eq 7, 3) := by decide +kernel
theorem d_r_refuseTerm_17 : decode (ch_bc m_r_refuseTerm) 17 = .ok (.iconst 1, 1) := by decide +kernel
theorem d_r_refuseTerm_18 : decode (ch_bc m_r_refuseTerm) 18 = .ok (.goto 4, 3) := by decide +kernel
theorem d_r_refuseTerm_21 : decode (ch_bc m_r_refuseTerm) 21 = .ok (.iconst 0, 1) := by decide +kernel
theorem d_r_refuseTerm_22 : decode (ch_bc m_r_refuseTerm) 22 = .ok (.ireturn, 1) := by decide +kernel
theorem d_r_refuseGift_0 : decode (ch_bc m_r_refuseGift) 0 = .ok (.aload_n 0, 1) := by decide +kernel
theorem d_r_refuseGift_1 : decode (ch_bc m_r_refuseGift) 1 = .ok (.aload_n 1, 1) := by decide +kernel
theorem d_r_refuseGift_2 : decode (ch_bc m_r_refuseGift) 2 = .ok (.iload_n 2, 1) := by decide +kernel
theorem d_r_refuseGift_3 : decode (ch_bc m_r_refuseGift) 3 = .ok (.invokevirtual 72, 3) := by decide +kernel
theorem d_r_refuseGift_6 : decode (ch_bc m_r_refuseGift) 6 = .ok (.ifCond .ne 50, 3) := by decide +kernel
theorem d_r_refuseGift_9 : decode (ch_bc m_r_refuseGift) 9 = .ok (.aload_n 0, 1) := by decide +kernel
theorem d_r_refuseGift_10 : decode (ch_bc m_r_refuseGift) 10 = .ok (.aload_n 1, 1) := by decide +kernel
theorem d_r_refuseGift_11 : decode (ch_bc m_r_refuseGift) 11 = .ok (.iload_n 3, 1) := by decide +kernel
theorem d_r_refuseGift_12 : decode (ch_bc m_r_refuseGift) 12 = .ok (.invokevirtual 72, 3) := by decide +kernel
theorem d_r_refuseGift_15 : decode (ch_bc m_r_refuseGift) 15 = .ok (.ifCond .ne 41, 3) := by decide +kernel
theorem d_r_refuseGift_18 : decode (ch_bc m_r_refuseGift) 18 = .ok (.iload_n 2, 1) := by decide +kernel
theorem d_r_refuseGift_19 : decode (ch_bc m_r_refuseGift) 19 = .ok (.iload_n 3, 1) := by decide +kernel
theorem d_r_refuseGift_20 : decode (ch_bc m_r_refuseGift) 20 = .ok (.if_icmp .ne 13, 3) := by decide +kernel
theorem d_r_refuseGift_23 : decode (ch_bc m_r_refuseGift) 23 = .ok (.aload_n 0, 1) := by decide +kernel
theorem d_r_refuseGift_24 : decode (ch_bc m_r_refuseGift) 24 = .ok (.bipush 11, 2) := by decide +kernel
theorem d_r_refuseGift_26 : decode (ch_bc m_r_refuseGift) 26 = .ok (.iload_n 2, 1) := by decide +kernel
theorem d_r_refuseGift_27 : decode (ch_bc m_r_refuseGift) 27 = .ok (.invokevirtual 68, 3) := by decide +kernel
theorem d_r_refuseGift_30 : decode (ch_bc m_r_refuseGift) 30 = .ok (.ifCond .ne 26, 3) := by decide +kernel
theorem d_r_refuseGift_33 : decode (ch_bc m_r_refuseGift) 33 = .ok (.aload_n 0, 1) := by decide +kernel
theorem d_r_refuseGift_34 : decode (ch_bc m_r_refuseGift) 34 = .ok (.iload 4, 2) := by decide +kernel
theorem d_r_refuseGift_36 : decode (ch_bc m_r_refuseGift) 36 = .ok (.iconst 1, 1) := by decide +kernel
theorem d_r_refuseGift_37 : decode (ch_bc m_r_refuseGift) 37 = .ok (.bipush 99, 2) := by decide +kernel
theorem d_r_refuseGift_39 : decode (ch_bc m_r_refuseGift) 39 = .ok (.invokevirtual 59, 3) := by decide +kernel
theorem d_r_refuseGift_42 : decode (ch_bc m_r_refuseGift) 42 = .ok (.ifCond .ne 14, 3) := by decide +kernel
theorem d_r_refuseGift_45 : decode (ch_bc m_r_refuseGift) 45 = .ok (.aload_n 0, 1) := by decide +kernel
theorem d_r_refuseGift_46 : decode (ch_bc m_r_refuseGift) 46 = .ok (.aload_n 1, 1) := by decide +kernel
theorem d_r_refuseGift_47 : decode (ch_bc m_r_refuseGift) 47 = .ok (.iload_n 2, 1) := by decide +kernel
theorem d_r_refuseGift_48 : decode (ch_bc m_r_refuseGift) 48 = .ok (.iload 4, 2) := by decide +kernel
theorem d_r_refuseGift_50 : decode (ch_bc m_r_refuseGift) 50 = .ok (.invokevirtual 82, 3) := by decide +kernel
theorem d_r_refuseGift_53 : decode (ch_bc m_r_refuseGift) 53 = .ok (.ifCond .eq 7, 3) := by decide +kernel
theorem d_r_refuseGift_56 : decode (ch_bc m_r_refuseGift) 56 = .ok (.iconst 1, 1) := by decide +kernel
theorem d_r_refuseGift_57 : decode (ch_bc m_r_refuseGift) 57 = .ok (.goto 4, 3) := by decide +kernel
theorem d_r_refuseGift_60 : decode (ch_bc m_r_refuseGift) 60 = .ok (.iconst 0, 1) := by decide +kernel
theorem d_r_refuseGift_61 : decode (ch_bc m_r_refuseGift) 61 = .ok (.ireturn, 1) := by decide +kernel
theorem d_r_lacksRange_0 : decode (ch_bc m_r_lacksRange) 0 = .ok (.iload_n 1, 1) := by decide +kernel
theorem d_r_lacksRange_1 : decode (ch_bc m_r_lacksRange) 1 = .ok (.iload_n 2, 1) := by decide +kernel
theorem d_r_lacksRange_2 : decode (ch_bc m_r_lacksRange) 2 = .ok (.if_icmp .lt 8, 3) := by decide +kernel
theorem d_r_lacksRange_5 : decode (ch_bc m_r_lacksRange) 5 = .ok (.iload_n 1, 1) := by decide +kernel
theorem d_r_lacksRange_6 : decode (ch_bc m_r_lacksRange) 6 = .ok (.iload_n 3, 1) := by decide +kernel
theorem d_r_lacksRange_7 : decode (ch_bc m_r_lacksRange) 7 = .ok (.if_icmp .le 16, 3) := by decide +kernel
theorem d_r_lacksRange_10 : decode (ch_bc m_r_lacksRange) 10 = .ok (.aload_n 0, 1) := by decide +kernel
theorem d_r_lacksRange_11 : decode (ch_bc m_r_lacksRange) 11 = .ok (.iconst 1, 1) := by decide +kernel
theorem d_r_lacksRange_12 : decode (ch_bc m_r_lacksRange) 12 = .ok (.iconst 0, 1) := by decide +kernel
theorem d_r_lacksRange_13 : decode (ch_bc m_r_lacksRange) 13 = .ok (.invokevirtual 68, 3) := by decide +kernel
theorem d_r_lacksRange_16 : decode (ch_bc m_r_lacksRange) 16 = .ok (.ifCond .eq 7, 3) := by decide +kernel
theorem d_r_lacksRange_19 : decode (ch_bc m_r_lacksRange) 19 = .ok (.iconst 1, 1) := by decide +kernel
theorem d_r_lacksRange_20 : decode (ch_bc m_r_lacksRange) 20 = .ok (.goto 4, 3) := by decide +kernel
theorem d_r_lacksRange_23 : decode (ch_bc m_r_lacksRange) 23 = .ok (.iconst 0, 1) := by decide +kernel
theorem d_r_lacksRange_24 : decode (ch_bc m_r_lacksRange) 24 = .ok (.ireturn, 1) := by decide +kernel
theorem d_r_lacksChild_0 : decode (ch_bc m_r_lacksChild) 0 = .ok (.aload_n 1, 1) := by decide +kernel
theorem d_r_lacksChild_1 : decode (ch_bc m_r_lacksChild) 1 = .ok (.iload_n 2, 1) := by decide +kernel
theorem d_r_lacksChild_2 : decode (ch_bc m_r_lacksChild) 2 = .ok (.invokevirtual 110, 3) := by decide +kernel
theorem d_r_lacksChild_5 : decode (ch_bc m_r_lacksChild) 5 = .ok (.ifCond .ne 19, 3) := by decide +kernel
theorem d_r_lacksChild_8 : decode (ch_bc m_r_lacksChild) 8 = .ok (.aload_n 0, 1) := by decide +kernel
theorem d_r_lacksChild_9 : decode (ch_bc m_r_lacksChild) 9 = .ok (.iconst 3, 1) := by decide +kernel
theorem d_r_lacksChild_10 : decode (ch_bc m_r_lacksChild) 10 = .ok (.aload_n 1, 1) := by decide +kernel
theorem d_r_lacksChild_11 : decode (ch_bc m_r_lacksChild) 11 = .ok (.getfield 63, 3) := by decide +kernel
theorem d_r_lacksChild_14 : decode (ch_bc m_r_lacksChild) 14 = .ok (.invokevirtual 68, 3) := by decide +kernel
theorem d_r_lacksChild_17 : decode (ch_bc m_r_lacksChild) 17 = .ok (.ifCond .eq 7, 3) := by decide +kernel
theorem d_r_lacksChild_20 : decode (ch_bc m_r_lacksChild) 20 = .ok (.iconst 1, 1) := by decide +kernel
theorem d_r_lacksChild_21 : decode (ch_bc m_r_lacksChild) 21 = .ok (.goto 4, 3) := by decide +kernel
theorem d_r_lacksChild_24 : decode (ch_bc m_r_lacksChild) 24 = .ok (.iconst 0, 1) := by decide +kernel
theorem d_r_lacksChild_25 : decode (ch_bc m_r_lacksChild) 25 = .ok (.ireturn, 1) := by decide +kernel
theorem d_r_isWanted_0 : decode (ch_bc m_r_isWanted) 0 = .ok (.aload_n 1, 1) := by decide +kernel
theorem d_r_isWanted_1 : decode (ch_bc m_r_isWanted) 1 = .ok (.getfield 100, 3) := by decide +kernel
theorem d_r_isWanted_4 : decode (ch_bc m_r_isWanted) 4 = .ok (.iload_n 2, 1) := by decide +kernel
theorem d_r_isWanted_5 : decode (ch_bc m_r_isWanted) 5 = .ok (.iaload, 1) := by decide +kernel
theorem d_r_isWanted_6 : decode (ch_bc m_r_isWanted) 6 = .ok (.ifCond .le 22, 3) := by decide +kernel
theorem d_r_isWanted_9 : decode (ch_bc m_r_isWanted) 9 = .ok (.aload_n 0, 1) := by decide +kernel
theorem d_r_isWanted_10 : decode (ch_bc m_r_isWanted) 10 = .ok (.bipush 7, 2) := by decide +kernel
theorem d_r_isWanted_12 : decode (ch_bc m_r_isWanted) 12 = .ok (.aload_n 1, 1) := by decide +kernel
theorem d_r_isWanted_13 : decode (ch_bc m_r_isWanted) 13 = .ok (.getfield 100, 3) := by decide +kernel
theorem d_r_isWanted_16 : decode (ch_bc m_r_isWanted) 16 = .ok (.iload_n 2, 1) := by decide +kernel
theorem d_r_isWanted_17 : decode (ch_bc m_r_isWanted) 17 = .ok (.iaload, 1) := by decide +kernel
theorem d_r_isWanted_18 : decode (ch_bc m_r_isWanted) 18 = .ok (.invokevirtual 68, 3) := by decide +kernel
theorem d_r_isWanted_21 : decode (ch_bc m_r_isWanted) 21 = .ok (.ifCond .eq 7, 3) := by decide +kernel
theorem d_r_isWanted_24 : decode (ch_bc m_r_isWanted) 24 = .ok (.iconst 1, 1) := by decide +kernel
theorem d_r_isWanted_25 : decode (ch_bc m_r_isWanted) 25 = .ok (.goto 4, 3) := by decide +kernel
theorem d_r_isWanted_28 : decode (ch_bc m_r_isWanted) 28 = .ok (.iconst 0, 1) := by decide +kernel
theorem d_r_isWanted_29 : decode (ch_bc m_r_isWanted) 29 = .ok (.ireturn, 1) := by decide +kernel
theorem d_r_lacksPebbles_0 : decode (ch_bc m_r_lacksPebbles) 0 = .ok (.aload_n 1, 1) := by decide +kernel
theorem d_r_lacksPebbles_1 : decode (ch_bc m_r_lacksPebbles) 1 = .ok (.getfield 114, 3) := by decide +kernel
theorem d_r_lacksPebbles_4 : decode (ch_bc m_r_lacksPebbles) 4 = .ok (.iload_n 2, 1) := by decide +kernel
theorem d_r_lacksPebbles_5 : decode (ch_bc m_r_lacksPebbles) 5 = .ok (.iaload, 1) := by decide +kernel
theorem d_r_lacksPebbles_6 : decode (ch_bc m_r_lacksPebbles) 6 = .ok (.iload_n 3, 1) := by decide +kernel
theorem d_r_lacksPebbles_7 : decode (ch_bc m_r_lacksPebbles) 7 = .ok (.if_icmp .ge 23, 3) := by decide +kernel
theorem d_r_lacksPebbles_10 : decode (ch_bc m_r_lacksPebbles) 10 = .ok (.aload_n 0, 1) := by decide +kernel
theorem d_r_lacksPebbles_11 : decode (ch_bc m_r_lacksPebbles) 11 = .ok (.iconst 5, 1) := by decide +kernel
theorem d_r_lacksPebbles_12 : decode (ch_bc m_r_lacksPebbles) 12 = .ok (.iload_n 3, 1) := by decide +kernel
theorem d_r_lacksPebbles_13 : decode (ch_bc m_r_lacksPebbles) 13 = .ok (.aload_n 1, 1) := by decide +kernel
theorem d_r_lacksPebbles_14 : decode (ch_bc m_r_lacksPebbles) 14 = .ok (.getfield 114, 3) := by decide +kernel
theorem d_r_lacksPebbles_17 : decode (ch_bc m_r_lacksPebbles) 17 = .ok (.iload_n 2, 1) := by decide +kernel
theorem d_r_lacksPebbles_18 : decode (ch_bc m_r_lacksPebbles) 18 = .ok (.iaload, 1) := by decide +kernel
theorem d_r_lacksPebbles_19 : decode (ch_bc m_r_lacksPebbles) 19 = .ok (.isub, 1) := by decide +kernel
theorem d_r_lacksPebbles_20 : decode (ch_bc m_r_lacksPebbles) 20 = .ok (.invokevirtual 68, 3) := by decide +kernel
theorem d_r_lacksPebbles_23 : decode (ch_bc m_r_lacksPebbles) 23 = .ok (.ifCond .eq 7, 3) := by decide +kernel
theorem d_r_lacksPebbles_26 : decode (ch_bc m_r_lacksPebbles) 26 = .ok (.iconst 1, 1) := by decide +kernel
theorem d_r_lacksPebbles_27 : decode (ch_bc m_r_lacksPebbles) 27 = .ok (.goto 4, 3) := by decide +kernel
theorem d_r_lacksPebbles_30 : decode (ch_bc m_r_lacksPebbles) 30 = .ok (.iconst 0, 1) := by decide +kernel
theorem d_r_lacksPebbles_31 : decode (ch_bc m_r_lacksPebbles) 31 = .ok (.ireturn, 1) := by decide +kernel
theorem d_r_keep_0 : decode (ch_bc m_r_keep) 0 = .ok (.aload_n 0, 1) := by decide +kernel
theorem d_r_keep_1 : decode (ch_bc m_r_keep) 1 = .ok (.iload_n 1, 1) := by decide +kernel
theorem d_r_keep_2 : decode (ch_bc m_r_keep) 2 = .ok (.putfield 117, 3) := by decide +kernel
theorem d_r_keep_5 : decode (ch_bc m_r_keep) 5 = .ok (.aload_n 0, 1) := by decide +kernel
theorem d_r_keep_6 : decode (ch_bc m_r_keep) 6 = .ok (.iload_n 2, 1) := by decide +kernel
theorem d_r_keep_7 : decode (ch_bc m_r_keep) 7 = .ok (.putfield 118, 3) := by decide +kernel
theorem d_r_keep_10 : decode (ch_bc m_r_keep) 10 = .ok (.aload_n 0, 1) := by decide +kernel
theorem d_r_keep_11 : decode (ch_bc m_r_keep) 11 = .ok (.iconst 0, 1) := by decide +kernel
theorem d_r_keep_12 : decode (ch_bc m_r_keep) 12 = .ok (.putfield 121, 3) := by decide +kernel
theorem d_r_keep_15 : decode (ch_bc m_r_keep) 15 = .ok (.iconst 1, 1) := by decide +kernel
theorem d_r_keep_16 : decode (ch_bc m_r_keep) 16 = .ok (.ireturn, 1) := by decide +kernel
theorem d_t_put_0 : decode (ch_bc m_t_put) 0 = .ok (.aload_n 0, 1) := by decide +kernel
theorem d_t_put_1 : decode (ch_bc m_t_put) 1 = .ok (.getfield 15, 3) := by decide +kernel
theorem d_t_put_4 : decode (ch_bc m_t_put) 4 = .ok (.aload_n 0, 1) := by decide +kernel
theorem d_t_put_5 : decode (ch_bc m_t_put) 5 = .ok (.getfield 9, 3) := by decide +kernel
theorem d_t_put_8 : decode (ch_bc m_t_put) 8 = .ok (.arraylength, 1) := by decide +kernel
theorem d_t_put_9 : decode (ch_bc m_t_put) 9 = .ok (.if_icmp .ge 23, 3) := by decide +kernel
theorem d_t_put_12 : decode (ch_bc m_t_put) 12 = .ok (.aload_n 0, 1) := by decide +kernel
theorem d_t_put_13 : decode (ch_bc m_t_put) 13 = .ok (.getfield 9, 3) := by decide +kernel
theorem d_t_put_16 : decode (ch_bc m_t_put) 16 = .ok (.aload_n 0, 1) := by decide +kernel
theorem d_t_put_17 : decode (ch_bc m_t_put) 17 = .ok (.getfield 15, 3) := by decide +kernel
theorem d_t_put_20 : decode (ch_bc m_t_put) 20 = .ok (.iload_n 1, 1) := by decide +kernel
theorem d_t_put_21 : decode (ch_bc m_t_put) 21 = .ok (.castore, 1) := by decide +kernel
theorem d_t_put_22 : decode (ch_bc m_t_put) 22 = .ok (.aload_n 0, 1) := by decide +kernel
theorem d_t_put_23 : decode (ch_bc m_t_put) 23 = .ok (.dup, 1) := by decide +kernel
theorem d_t_put_24 : decode (ch_bc m_t_put) 24 = .ok (.getfield 15, 3) := by decide +kernel
theorem d_t_put_27 : decode (ch_bc m_t_put) 27 = .ok (.iconst 1, 1) := by decide +kernel
theorem d_t_put_28 : decode (ch_bc m_t_put) 28 = .ok (.iadd, 1) := by decide +kernel
theorem d_t_put_29 : decode (ch_bc m_t_put) 29 = .ok (.putfield 15, 3) := by decide +kernel
theorem d_t_put_32 : decode (ch_bc m_t_put) 32 = .ok (.return_, 1) := by decide +kernel
theorem d_s_add_0 : decode (ch_bc m_s_add) 0 = .ok (.aload_n 0, 1) := by decide +kernel
theorem d_s_add_1 : decode (ch_bc m_s_add) 1 = .ok (.getfield 15, 3) := by decide +kernel
theorem d_s_add_4 : decode (ch_bc m_s_add) 4 = .ok (.aload_n 0, 1) := by decide +kernel
theorem d_s_add_5 : decode (ch_bc m_s_add) 5 = .ok (.getfield 9, 3) := by decide +kernel
theorem d_s_add_8 : decode (ch_bc m_s_add) 8 = .ok (.arraylength, 1) := by decide +kernel
theorem d_s_add_9 : decode (ch_bc m_s_add) 9 = .ok (.if_icmp .ge 23, 3) := by decide +kernel
theorem d_s_add_12 : decode (ch_bc m_s_add) 12 = .ok (.aload_n 0, 1) := by decide +kernel
theorem d_s_add_13 : decode (ch_bc m_s_add) 13 = .ok (.getfield 9, 3) := by decide +kernel
theorem d_s_add_16 : decode (ch_bc m_s_add) 16 = .ok (.aload_n 0, 1) := by decide +kernel
theorem d_s_add_17 : decode (ch_bc m_s_add) 17 = .ok (.getfield 15, 3) := by decide +kernel
theorem d_s_add_20 : decode (ch_bc m_s_add) 20 = .ok (.iload_n 1, 1) := by decide +kernel
theorem d_s_add_21 : decode (ch_bc m_s_add) 21 = .ok (.iastore, 1) := by decide +kernel
theorem d_s_add_22 : decode (ch_bc m_s_add) 22 = .ok (.aload_n 0, 1) := by decide +kernel
theorem d_s_add_23 : decode (ch_bc m_s_add) 23 = .ok (.dup, 1) := by decide +kernel
theorem d_s_add_24 : decode (ch_bc m_s_add) 24 = .ok (.getfield 15, 3) := by decide +kernel
theorem d_s_add_27 : decode (ch_bc m_s_add) 27 = .ok (.iconst 1, 1) := by decide +kernel
theorem d_s_add_28 : decode (ch_bc m_s_add) 28 = .ok (.iadd, 1) := by decide +kernel
theorem d_s_add_29 : decode (ch_bc m_s_add) 29 = .ok (.putfield 15, 3) := by decide +kernel
theorem d_s_add_32 : decode (ch_bc m_s_add) 32 = .ok (.return_, 1) := by decide +kernel
theorem d_s_readFrom_0 : decode (ch_bc m_s_readFrom) 0 = .ok (.iload_n 1, 1) := by decide +kernel
theorem d_s_readFrom_1 : decode (ch_bc m_s_readFrom) 1 = .ok (.istore_n 2, 1) := by decide +kernel
theorem d_s_readFrom_2 : decode (ch_bc m_s_readFrom) 2 = .ok (.bipush 9, 2) := by decide +kernel
theorem d_s_readFrom_4 : decode (ch_bc m_s_readFrom) 4 = .ok (.istore_n 3, 1) := by decide +kernel
theorem d_s_readFrom_5 : decode (ch_bc m_s_readFrom) 5 = .ok (.bipush 8, 2) := by decide +kernel
theorem d_s_readFrom_7 : decode (ch_bc m_s_readFrom) 7 = .ok (.istore 4, 2) := by decide +kernel
theorem d_s_readFrom_9 : decode (ch_bc m_s_readFrom) 9 = .ok (.iload 4, 2) := by decide +kernel
theorem d_s_readFrom_11 : decode (ch_bc m_s_readFrom) 11 = .ok (.ifCond .lt 32, 3) := by decide +kernel
theorem d_s_readFrom_14 : decode (ch_bc m_s_readFrom) 14 = .ok (.iload_n 2, 1) := by decide +kernel
theorem d_s_readFrom_15 : decode (ch_bc m_s_readFrom) 15 = .ok (.ifCond .le 28, 3) := by decide +kernel
theorem d_s_readFrom_18 : decode (ch_bc m_s_readFrom) 18 = .ok (.aload_n 0, 1) := by decide +kernel
theorem d_s_readFrom_19 : decode (ch_bc m_s_readFrom) 19 = .ok (.getfield 9, 3) := by decide +kernel
theorem d_s_readFrom_22 : decode (ch_bc m_s_readFrom) 22 = .ok (.iload 4, 2) := by decide +kernel
theorem d_s_readFrom_24 : decode (ch_bc m_s_readFrom) 24 = .ok (.iload_n 2, 1) := by decide +kernel
theorem d_s_readFrom_25 : decode (ch_bc m_s_readFrom) 25 = .ok (.bipush 10, 2) := by decide +kernel
theorem d_s_readFrom_27 : decode (ch_bc m_s_readFrom) 27 = .ok (.irem, 1) := by decide +kernel
theorem d_s_readFrom_28 : decode (ch_bc m_s_readFrom) 28 = .ok (.iastore, 1) := by decide +kernel
theorem d_s_readFrom_29 : decode (ch_bc m_s_readFrom) 29 = .ok (.iload_n 2, 1) := by decide +kernel
theorem d_s_readFrom_30 : decode (ch_bc m_s_readFrom) 30 = .ok (.bipush 10, 2) := by decide +kernel
theorem d_s_readFrom_32 : decode (ch_bc m_s_readFrom) 32 = .ok (.idiv, 1) := by decide +kernel
theorem d_s_readFrom_33 : decode (ch_bc m_s_readFrom) 33 = .ok (.istore_n 2, 1) := by decide +kernel
theorem d_s_readFrom_34 : decode (ch_bc m_s_readFrom) 34 = .ok (.iload 4, 2) := by decide +kernel
theorem d_s_readFrom_36 : decode (ch_bc m_s_readFrom) 36 = .ok (.istore_n 3, 1) := by decide +kernel
theorem d_s_readFrom_37 : decode (ch_bc m_s_readFrom) 37 = .ok (.iinc 4 (-1), 3) := by decide +kernel
theorem d_s_readFrom_40 : decode (ch_bc m_s_readFrom) 40 = .ok (.goto (-31), 3) := by decide +kernel
theorem d_s_readFrom_43 : decode (ch_bc m_s_readFrom) 43 = .ok (.aload_n 0, 1) := by decide +kernel
theorem d_s_readFrom_44 : decode (ch_bc m_s_readFrom) 44 = .ok (.iload_n 2, 1) := by decide +kernel
theorem d_s_readFrom_45 : decode (ch_bc m_s_readFrom) 45 = .ok (.ifCond .ne 10, 3) := by decide +kernel
theorem d_s_readFrom_48 : decode (ch_bc m_s_readFrom) 48 = .ok (.bipush 9, 2) := by decide +kernel
theorem d_s_readFrom_50 : decode (ch_bc m_s_readFrom) 50 = .ok (.iload_n 3, 1) := by decide +kernel
theorem d_s_readFrom_51 : decode (ch_bc m_s_readFrom) 51 = .ok (.isub, 1) := by decide +kernel
theorem d_s_readFrom_52 : decode (ch_bc m_s_readFrom) 52 = .ok (.goto 4, 3) := by decide +kernel
theorem d_s_readFrom_55 : decode (ch_bc m_s_readFrom) 55 = .ok (.iconst 0, 1) := by decide +kernel
theorem d_s_readFrom_56 : decode (ch_bc m_s_readFrom) 56 = .ok (.putfield 15, 3) := by decide +kernel
theorem d_s_readFrom_59 : decode (ch_bc m_s_readFrom) 59 = .ok (.aload_n 0, 1) := by decide +kernel
theorem d_s_readFrom_60 : decode (ch_bc m_s_readFrom) 60 = .ok (.getfield 9, 3) := by decide +kernel
theorem d_s_readFrom_63 : decode (ch_bc m_s_readFrom) 63 = .ok (.iload_n 3, 1) := by decide +kernel
theorem d_s_readFrom_64 : decode (ch_bc m_s_readFrom) 64 = .ok (.aload_n 0, 1) := by decide +kernel
theorem d_s_readFrom_65 : decode (ch_bc m_s_readFrom) 65 = .ok (.getfield 9, 3) := by decide +kernel
theorem d_s_readFrom_68 : decode (ch_bc m_s_readFrom) 68 = .ok (.iconst 0, 1) := by decide +kernel
theorem d_s_readFrom_69 : decode (ch_bc m_s_readFrom) 69 = .ok (.aload_n 0, 1) := by decide +kernel
theorem d_s_readFrom_70 : decode (ch_bc m_s_readFrom) 70 = .ok (.getfield 15, 3) := by decide +kernel
theorem d_s_readFrom_73 : decode (ch_bc m_s_readFrom) 73 = .ok (.invokestatic 19, 3) := by decide +kernel
theorem d_s_readFrom_76 : decode (ch_bc m_s_readFrom) 76 = .ok (.iconst 0, 1) := by decide +kernel
theorem d_s_readFrom_77 : decode (ch_bc m_s_readFrom) 77 = .ok (.istore 4, 2) := by decide +kernel
theorem d_s_readFrom_79 : decode (ch_bc m_s_readFrom) 79 = .ok (.iload 4, 2) := by decide +kernel
theorem d_s_readFrom_81 : decode (ch_bc m_s_readFrom) 81 = .ok (.aload_n 0, 1) := by decide +kernel
theorem d_s_readFrom_82 : decode (ch_bc m_s_readFrom) 82 = .ok (.getfield 15, 3) := by decide +kernel
theorem d_s_readFrom_85 : decode (ch_bc m_s_readFrom) 85 = .ok (.if_icmp .ge 36, 3) := by decide +kernel
theorem d_s_readFrom_88 : decode (ch_bc m_s_readFrom) 88 = .ok (.aload_n 0, 1) := by decide +kernel
theorem d_s_readFrom_89 : decode (ch_bc m_s_readFrom) 89 = .ok (.getfield 9, 3) := by decide +kernel
