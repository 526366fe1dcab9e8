theorem d_l_law_0 : decode (ch_bc m_l_law) 0 = .ok (.new 8, 3) := by decide +kernel
theorem d_l_law_3 : decode (ch_bc m_l_law) 3 = .ok (.dup, 1) := by decide +kernel
theorem d_l_law_4 : decode (ch_bc m_l_law) 4 = .ok (.invokespecial 278, 3) := by decide +kernel
theorem d_l_law_7 : decode (ch_bc m_l_law) 7 = .ok (.astore_n 1, 1) := by decide +kernel
theorem d_l_law_8 : decode (ch_bc m_l_law) 8 = .ok (.aload_n 1, 1) := by decide +kernel
theorem d_l_law_9 : decode (ch_bc m_l_law) 9 = .ok (.invokestatic 279, 3) := by decide +kernel
theorem d_l_law_12 : decode (ch_bc m_l_law) 12 = .ok (.sipush (-1001), 3) := by decide +kernel
theorem d_l_law_15 : decode (ch_bc m_l_law) 15 = .ok (.if_icmp .ne 29, 3) := by decide +kernel
theorem d_l_law_18 : decode (ch_bc m_l_law) 18 = .ok (.aload_n 1, 1) := by decide +kernel
theorem d_l_law_19 : decode (ch_bc m_l_law) 19 = .ok (.invokestatic 281, 3) := by decide +kernel
theorem d_l_law_22 : decode (ch_bc m_l_law) 22 = .ok (.sipush (-1001), 3) := by decide +kernel
theorem d_l_law_25 : decode (ch_bc m_l_law) 25 = .ok (.if_icmp .ne 19, 3) := by decide +kernel
theorem d_l_law_28 : decode (ch_bc m_l_law) 28 = .ok (.aload_n 1, 1) := by decide +kernel
theorem d_l_law_29 : decode (ch_bc m_l_law) 29 = .ok (.invokevirtual 283, 3) := by decide +kernel
theorem d_l_law_32 : decode (ch_bc m_l_law) 32 = .ok (.ifCond .ne 12, 3) := by decide +kernel
theorem d_l_law_35 : decode (ch_bc m_l_law) 35 = .ok (.aload_n 1, 1) := by decide +kernel
theorem d_l_law_36 : decode (ch_bc m_l_law) 36 = .ok (.bipush 99, 2) := by decide +kernel
theorem d_l_law_38 : decode (ch_bc m_l_law) 38 = .ok (.invokestatic 153, 3) := by decide +kernel
theorem d_l_law_41 : decode (ch_bc m_l_law) 41 = .ok (.ifCond .eq 5, 3) := by decide +kernel
theorem d_l_law_44 : decode (ch_bc m_l_law) 44 = .ok (.iconst 0, 1) := by decide +kernel
theorem d_l_law_45 : decode (ch_bc m_l_law) 45 = .ok (.ireturn, 1) := by decide +kernel
theorem d_l_law_46 : decode (ch_bc m_l_law) 46 = .ok (.iconst 0, 1) := by decide +kernel
theorem d_l_law_47 : decode (ch_bc m_l_law) 47 = .ok (.istore_n 2, 1) := by decide +kernel
theorem d_l_law_48 : decode (ch_bc m_l_law) 48 = .ok (.iload_n 2, 1) := by decide +kernel
theorem d_l_law_49 : decode (ch_bc m_l_law) 49 = .ok (.bipush 60, 2) := by decide +kernel
theorem d_l_law_51 : decode (ch_bc m_l_law) 51 = .ok (.if_icmp .ge 26, 3) := by decide +kernel
theorem d_l_law_54 : decode (ch_bc m_l_law) 54 = .ok (.aload_n 1, 1) := by decide +kernel
theorem d_l_law_55 : decode (ch_bc m_l_law) 55 = .ok (.bipush 65, 2) := by decide +kernel
theorem d_l_law_57 : decode (ch_bc m_l_law) 57 = .ok (.iload_n 2, 1) := by decide +kernel
theorem d_l_law_58 : decode (ch_bc m_l_law) 58 = .ok (.iadd, 1) := by decide +kernel
theorem d_l_law_59 : decode (ch_bc m_l_law) 59 = .ok (.i2c, 1) := by decide +kernel
theorem d_l_law_60 : decode (ch_bc m_l_law) 60 = .ok (.invokestatic 129, 3) := by decide +kernel
theorem d_l_law_63 : decode (ch_bc m_l_law) 63 = .ok (.iload_n 2, 1) := by decide +kernel
theorem d_l_law_64 : decode (ch_bc m_l_law) 64 = .ok (.iconst 1, 1) := by decide +kernel
theorem d_l_law_65 : decode (ch_bc m_l_law) 65 = .ok (.iadd, 1) := by decide +kernel
theorem d_l_law_66 : decode (ch_bc m_l_law) 66 = .ok (.if_icmp .eq 5, 3) := by decide +kernel
theorem d_l_law_69 : decode (ch_bc m_l_law) 69 = .ok (.iconst 0, 1) := by decide +kernel
theorem d_l_law_70 : decode (ch_bc m_l_law) 70 = .ok (.ireturn, 1) := by decide +kernel
theorem d_l_law_71 : decode (ch_bc m_l_law) 71 = .ok (.iinc 2 1, 3) := by decide +kernel
theorem d_l_law_74 : decode (ch_bc m_l_law) 74 = .ok (.goto (-26), 3) := by decide +kernel
theorem d_l_law_77 : decode (ch_bc m_l_law) 77 = .ok (.aload_n 1, 1) := by decide +kernel
theorem d_l_law_78 : decode (ch_bc m_l_law) 78 = .ok (.bipush 116, 2) := by decide +kernel
theorem d_l_law_80 : decode (ch_bc m_l_law) 80 = .ok (.invokestatic 129, 3) := by decide +kernel
theorem d_l_law_83 : decode (ch_bc m_l_law) 83 = .ok (.sipush (-1001), 3) := by decide +kernel
theorem d_l_law_86 : decode (ch_bc m_l_law) 86 = .ok (.if_icmp .ne 40, 3) := by decide +kernel
theorem d_l_law_89 : decode (ch_bc m_l_law) 89 = .ok (.aload_n 1, 1) := by decide +kernel
theorem d_l_law_90 : decode (ch_bc m_l_law) 90 = .ok (.bipush 11, 2) := by decide +kernel
theorem d_l_law_92 : decode (ch_bc m_l_law) 92 = .ok (.invokestatic 186, 3) := by decide +kernel
theorem d_l_law_95 : decode (ch_bc m_l_law) 95 = .ok (.bipush 60, 2) := by decide +kernel
theorem d_l_law_97 : decode (ch_bc m_l_law) 97 = .ok (.if_icmp .ne 29, 3) := by decide +kernel
theorem d_l_law_100 : decode (ch_bc m_l_law) 100 = .ok (.aload_n 1, 1) := by decide +kernel
theorem d_l_law_101 : decode (ch_bc m_l_law) 101 = .ok (.invokestatic 134, 3) := by decide +kernel
theorem d_l_law_104 : decode (ch_bc m_l_law) 104 = .ok (.sipush (-1001), 3) := by decide +kernel
theorem d_l_law_107 : decode (ch_bc m_l_law) 107 = .ok (.if_icmp .ne 19, 3) := by decide +kernel
theorem d_l_law_110 : decode (ch_bc m_l_law) 110 = .ok (.aload_n 1, 1) := by decide +kernel
theorem d_l_law_111 : decode (ch_bc m_l_law) 111 = .ok (.invokevirtual 271, 3) := by decide +kernel
theorem d_l_law_114 : decode (ch_bc m_l_law) 114 = .ok (.ifCond .ne 12, 3) := by decide +kernel
theorem d_l_law_117 : decode (ch_bc m_l_law) 117 = .ok (.aload_n 1, 1) := by decide +kernel
theorem d_l_law_118 : decode (ch_bc m_l_law) 118 = .ok (.bipush 11, 2) := by decide +kernel
theorem d_l_law_120 : decode (ch_bc m_l_law) 120 = .ok (.invokestatic 186, 3) := by decide +kernel
theorem d_l_law_123 : decode (ch_bc m_l_law) 123 = .ok (.ifCond .eq 5, 3) := by decide +kernel
theorem d_l_law_126 : decode (ch_bc m_l_law) 126 = .ok (.iconst 0, 1) := by decide +kernel
theorem d_l_law_127 : decode (ch_bc m_l_law) 127 = .ok (.ireturn, 1) := by decide +kernel
theorem d_l_law_128 : decode (ch_bc m_l_law) 128 = .ok (.iconst 1, 1) := by decide +kernel
theorem d_l_law_129 : decode (ch_bc m_l_law) 129 = .ok (.istore_n 2, 1) := by decide +kernel
theorem d_l_law_130 : decode (ch_bc m_l_law) 130 = .ok (.iload_n 2, 1) := by decide +kernel
theorem d_l_law_131 : decode (ch_bc m_l_law) 131 = .ok (.iconst 5, 1) := by decide +kernel
theorem d_l_law_132 : decode (ch_bc m_l_law) 132 = .ok (.if_icmp .ge 20, 3) := by decide +kernel
theorem d_l_law_135 : decode (ch_bc m_l_law) 135 = .ok (.aload_n 1, 1) := by decide +kernel
theorem d_l_law_136 : decode (ch_bc m_l_law) 136 = .ok (.iload_n 2, 1) := by decide +kernel
theorem d_l_law_137 : decode (ch_bc m_l_law) 137 = .ok (.invokestatic 153, 3) := by decide +kernel
theorem d_l_law_140 : decode (ch_bc m_l_law) 140 = .ok (.iload_n 2, 1) := by decide +kernel
theorem d_l_law_141 : decode (ch_bc m_l_law) 141 = .ok (.if_icmp .eq 5, 3) := by decide +kernel
theorem d_l_law_144 : decode (ch_bc m_l_law) 144 = .ok (.iconst 0, 1) := by decide +kernel
theorem d_l_law_145 : decode (ch_bc m_l_law) 145 = .ok (.ireturn, 1) := by decide +kernel
theorem d_l_law_146 : decode (ch_bc m_l_law) 146 = .ok (.iinc 2 1, 3) := by decide +kernel
theorem d_l_law_149 : decode (ch_bc m_l_law) 149 = .ok (.goto (-19), 3) := by decide +kernel
theorem d_l_law_152 : decode (ch_bc m_l_law) 152 = .ok (.aload_n 1, 1) := by decide +kernel
theorem d_l_law_153 : decode (ch_bc m_l_law) 153 = .ok (.iconst 1, 1) := by decide +kernel
theorem d_l_law_154 : decode (ch_bc m_l_law) 154 = .ok (.invokestatic 153, 3) := by decide +kernel
theorem d_l_law_157 : decode (ch_bc m_l_law) 157 = .ok (.sipush (-1001), 3) := by decide +kernel
theorem d_l_law_160 : decode (ch_bc m_l_law) 160 = .ok (.if_icmp .ne 32, 3) := by decide +kernel
theorem d_l_law_163 : decode (ch_bc m_l_law) 163 = .ok (.aload_n 1, 1) := by decide +kernel
theorem d_l_law_164 : decode (ch_bc m_l_law) 164 = .ok (.iconst 2, 1) := by decide +kernel
theorem d_l_law_165 : decode (ch_bc m_l_law) 165 = .ok (.iconst 5, 1) := by decide +kernel
theorem d_l_law_166 : decode (ch_bc m_l_law) 166 = .ok (.invokestatic 258, 3) := by decide +kernel
theorem d_l_law_169 : decode (ch_bc m_l_law) 169 = .ok (.ifCond .eq 23, 3) := by decide +kernel
theorem d_l_law_172 : decode (ch_bc m_l_law) 172 = .ok (.aload_n 1, 1) := by decide +kernel
theorem d_l_law_173 : decode (ch_bc m_l_law) 173 = .ok (.bipush 10, 2) := by decide +kernel
theorem d_l_law_175 : decode (ch_bc m_l_law) 175 = .ok (.invokestatic 186, 3) := by decide +kernel
theorem d_l_law_178 : decode (ch_bc m_l_law) 178 = .ok (.iconst 5, 1) := by decide +kernel
theorem d_l_law_179 : decode (ch_bc m_l_law) 179 = .ok (.if_icmp .ne 13, 3) := by decide +kernel
theorem d_l_law_182 : decode (ch_bc m_l_law) 182 = .ok (.aload_n 1, 1) := by decide +kernel
theorem d_l_law_183 : decode (ch_bc m_l_law) 183 = .ok (.iconst 1, 1) := by decide +kernel
theorem d_l_law_184 : decode (ch_bc m_l_law) 184 = .ok (.invokestatic 186, 3) := by decide +kernel
theorem d_l_law_187 : decode (ch_bc m_l_law) 187 = .ok (.bipush 109, 2) := by decide +kernel
theorem d_l_law_189 : decode (ch_bc m_l_law) 189 = .ok (.if_icmp .eq 5, 3) := by decide +kernel
theorem d_l_law_192 : decode (ch_bc m_l_law) 192 = .ok (.iconst 0, 1) := by decide +kernel
theorem d_l_law_193 : decode (ch_bc m_l_law) 193 = .ok (.ireturn, 1) := by decide +kernel
theorem d_l_law_194 : decode (ch_bc m_l_law) 194 = .ok (.iconst 0, 1) := by decide +kernel
theorem d_l_law_195 : decode (ch_bc m_l_law) 195 = .ok (.istore_n 2, 1) := by decide +kernel
theorem d_l_law_196 : decode (ch_bc m_l_law) 196 = .ok (.iload_n 2, 1) := by decide +kernel
theorem d_l_law_197 : decode (ch_bc m_l_law) 197 = .ok (.bipush 12, 2) := by decide +kernel
theorem d_l_law_199 : decode (ch_bc m_l_law) 199 = .ok (.if_icmp .ge 21, 3) := by decide +kernel
theorem d_l_law_202 : decode (ch_bc m_l_law) 202 = .ok (.aload_n 1, 1) := by decide +kernel
theorem d_l_law_203 : decode (ch_bc m_l_law) 203 = .ok (.iconst 0, 1) := by decide +kernel
theorem d_l_law_204 : decode (ch_bc m_l_law) 204 = .ok (.iload_n 2, 1) := by decide +kernel
theorem d_l_law_205 : decode (ch_bc m_l_law) 205 = .ok (.invokestatic 155, 3) := by decide +kernel
theorem d_l_law_208 : decode (ch_bc m_l_law) 208 = .ok (.iconst 5, 1) := by decide +kernel
theorem d_l_law_209 : decode (ch_bc m_l_law) 209 = .ok (.if_icmp .eq 5, 3) := by decide +kernel
theorem d_l_law_212 : decode (ch_bc m_l_law) 212 = .ok (.iconst 0, 1) := by decide +kernel
theorem d_l_law_213 : decode (ch_bc m_l_law) 213 = .ok (.ireturn, 1) := by decide +kernel
theorem d_l_law_214 : decode (ch_bc m_l_law) 214 = .ok (.iinc 2 1, 3) := by decide +kernel
theorem d_l_law_217 : decode (ch_bc m_l_law) 217 = .ok (.goto (-21), 3) := by decide +kernel
theorem d_l_law_220 : decode (ch_bc m_l_law) 220 = .ok (.aload_n 1, 1) := by decide +kernel
theorem d_l_law_221 : decode (ch_bc m_l_law) 221 = .ok (.bipush 10, 2) := by decide +kernel
theorem d_l_law_223 : decode (ch_bc m_l_law) 223 = .ok (.invokestatic 186, 3) := by decide +kernel
theorem d_l_law_226 : decode (ch_bc m_l_law) 226 = .ok (.bipush 8, 2) := by decide +kernel
theorem d_l_law_228 : decode (ch_bc m_l_law) 228 = .ok (.if_icmp .ne 80, 3) := by decide +kernel
theorem d_l_law_231 : decode (ch_bc m_l_law) 231 = .ok (.aload_n 1, 1) := by decide +kernel
theorem d_l_law_232 : decode (ch_bc m_l_law) 232 = .ok (.iconst 0, 1) := by decide +kernel
theorem d_l_law_233 : decode (ch_bc m_l_law) 233 = .ok (.iconst 0, 1) := by decide +kernel
theorem d_l_law_234 : decode (ch_bc m_l_law) 234 = .ok (.invokestatic 188, 3) := by decide +kernel
theorem d_l_law_237 : decode (ch_bc m_l_law) 237 = .ok (.bipush 87, 2) := by decide +kernel
theorem d_l_law_239 : decode (ch_bc m_l_law) 239 = .ok (.if_icmp .ne 69, 3) := by decide +kernel
theorem d_l_law_242 : decode (ch_bc m_l_law) 242 = .ok (.aload_n 1, 1) := by decide +kernel
theorem d_l_law_243 : decode (ch_bc m_l_law) 243 = .ok (.iconst 1, 1) := by decide +kernel
theorem d_l_law_244 : decode (ch_bc m_l_law) 244 = .ok (.invokestatic 193, 3) := by decide +kernel
theorem d_l_law_247 : decode (ch_bc m_l_law) 247 = .ok (.iconst 4, 1) := by decide +kernel
theorem d_l_law_248 : decode (ch_bc m_l_law) 248 = .ok (.if_icmp .ne 60, 3) := by decide +kernel
theorem d_l_law_251 : decode (ch_bc m_l_law) 251 = .ok (.aload_n 1, 1) := by decide +kernel
theorem d_l_law_252 : decode (ch_bc m_l_law) 252 = .ok (.iconst 1, 1) := by decide +kernel
theorem d_l_law_253 : decode (ch_bc m_l_law) 253 = .ok (.iconst 0, 1) := by decide +kernel
theorem d_l_law_254 : decode (ch_bc m_l_law) 254 = .ok (.invokestatic 205, 3) := by decide +kernel
theorem d_l_law_257 : decode (ch_bc m_l_law) 257 = .ok (.iconst 3, 1) := by decide +kernel
theorem d_l_law_258 : decode (ch_bc m_l_law) 258 = .ok (.if_icmp .ne 50, 3) := by decide +kernel
theorem d_l_law_261 : decode (ch_bc m_l_law) 261 = .ok (.aload_n 1, 1) := by decide +kernel
theorem d_l_law_262 : decode (ch_bc m_l_law) 262 = .ok (.iconst 1, 1) := by decide +kernel
theorem d_l_law_263 : decode (ch_bc m_l_law) 263 = .ok (.iconst 3, 1) := by decide +kernel
theorem d_l_law_264 : decode (ch_bc m_l_law) 264 = .ok (.invokestatic 205, 3) := by decide +kernel
theorem d_l_law_267 : decode (ch_bc m_l_law) 267 = .ok (.iconst 3, 1) := by decide +kernel
theorem d_l_law_268 : decode (ch_bc m_l_law) 268 = .ok (.if_icmp .ne 40, 3) := by decide +kernel
theorem d_l_law_271 : decode (ch_bc m_l_law) 271 = .ok (.aload_n 1, 1) := by decide +kernel
theorem d_l_law_272 : decode (ch_bc m_l_law) 272 = .ok (.iconst 1, 1) := by decide +kernel
theorem d_l_law_273 : decode (ch_bc m_l_law) 273 = .ok (.iconst 4, 1) := by decide +kernel
theorem d_l_law_274 : decode (ch_bc m_l_law) 274 = .ok (.invokestatic 205, 3) := by decide +kernel
theorem d_l_law_277 : decode (ch_bc m_l_law) 277 = .ok (.sipush (-1002), 3) := by decide +kernel
theorem d_l_law_280 : decode (ch_bc m_l_law) 280 = .ok (.if_icmp .ne 28, 3) := by decide +kernel
theorem d_l_law_283 : decode (ch_bc m_l_law) 283 = .ok (.aload_n 1, 1) := by decide +kernel
theorem d_l_law_284 : decode (ch_bc m_l_law) 284 = .ok (.iconst 0, 1) := by decide +kernel
theorem d_l_law_285 : decode (ch_bc m_l_law) 285 = .ok (.invokestatic 193, 3) := by decide +kernel
theorem d_l_law_288 : decode (ch_bc m_l_law) 288 = .ok (.ifCond .ne 20, 3) := by decide +kernel
theorem d_l_law_291 : decode (ch_bc m_l_law) 291 = .ok (.aload_n 1, 1) := by decide +kernel
theorem d_l_law_292 : decode (ch_bc m_l_law) 292 = .ok (.iconst 0, 1) := by decide +kernel
theorem d_l_law_293 : decode (ch_bc m_l_law) 293 = .ok (.invokestatic 197, 3) := by decide +kernel
theorem d_l_law_296 : decode (ch_bc m_l_law) 296 = .ok (.bipush 12, 2) := by decide +kernel
theorem d_l_law_298 : decode (ch_bc m_l_law) 298 = .ok (.if_icmp .ne 10, 3) := by decide +kernel
theorem d_l_law_301 : decode (ch_bc m_l_law) 301 = .ok (.aload_n 1, 1) := by decide +kernel
theorem d_l_law_302 : decode (ch_bc m_l_law) 302 = .ok (.invokevirtual 219, 3) := by decide +kernel
theorem d_l_law_305 : decode (ch_bc m_l_law) 305 = .ok (.ifCond .eq 5, 3) := by decide +kernel
theorem d_l_law_308 : decode (ch_bc m_l_law) 308 = .ok (.iconst 0, 1) := by decide +kernel
theorem d_l_law_309 : decode (ch_bc m_l_law) 309 = .ok (.ireturn, 1) := by decide +kernel
theorem d_l_law_310 : decode (ch_bc m_l_law) 310 = .ok (.aload_n 1, 1) := by decide +kernel
theorem d_l_law_311 : decode (ch_bc m_l_law) 311 = .ok (.invokestatic 279, 3) := by decide +kernel
theorem d_l_law_314 : decode (ch_bc m_l_law) 314 = .ok (.bipush 7, 2) := by decide +kernel
theorem d_l_law_316 : decode (ch_bc m_l_law) 316 = .ok (.if_icmp .ne 118, 3) := by decide +kernel
theorem d_l_law_319 : decode (ch_bc m_l_law) 319 = .ok (.aload_n 1, 1) := by decide +kernel
theorem d_l_law_320 : decode (ch_bc m_l_law) 320 = .ok (.iconst 3, 1) := by decide +kernel
theorem d_l_law_321 : decode (ch_bc m_l_law) 321 = .ok (.invokestatic 186, 3) := by decide +kernel
theorem d_l_law_324 : decode (ch_bc m_l_law) 324 = .ok (.bipush 11, 2) := by decide +kernel
theorem d_l_law_326 : decode (ch_bc m_l_law) 326 = .ok (.if_icmp .ne 108, 3) := by decide +kernel
theorem d_l_law_329 : decode (ch_bc m_l_law) 329 = .ok (.aload_n 1, 1) := by decide +kernel
theorem d_l_law_330 : decode (ch_bc m_l_law) 330 = .ok (.iconst 1, 1) := by decide +kernel
theorem d_l_law_331 : decode (ch_bc m_l_law) 331 = .ok (.invokestatic 193, 3) := by decide +kernel
theorem d_l_law_334 : decode (ch_bc m_l_law) 334 = .ok (.iconst 3, 1) := by decide +kernel
theorem d_l_law_335 : decode (ch_bc m_l_law) 335 = .ok (.if_icmp .ne 99, 3) := by decide +kernel
theorem d_l_law_338 : decode (ch_bc m_l_law) 338 = .ok (.aload_n 1, 1) := by decide +kernel
theorem d_l_law_339 : decode (ch_bc m_l_law) 339 = .ok (.invokestatic 279, 3) := by decide +kernel
theorem d_l_law_342 : decode (ch_bc m_l_law) 342 = .ok (.bipush 6, 2) := by decide +kernel
theorem d_l_law_344 : decode (ch_bc m_l_law) 344 = .ok (.if_icmp .ne 90, 3) := by decide +kernel
theorem d_l_law_347 : decode (ch_bc m_l_law) 347 = .ok (.aload_n 1, 1) := by decide +kernel
theorem d_l_law_348 : decode (ch_bc m_l_law) 348 = .ok (.invokestatic 279, 3) := by decide +kernel
theorem d_l_law_351 : decode (ch_bc m_l_law) 351 = .ok (.iconst 5, 1) := by decide +kernel
theorem d_l_law_352 : decode (ch_bc m_l_law) 352 = .ok (.if_icmp .ne 82, 3) := by decide +kernel
theorem d_l_law_355 : decode (ch_bc m_l_law) 355 = .ok (.aload_n 1, 1) := by decide +kernel
theorem d_l_law_356 : decode (ch_bc m_l_law) 356 = .ok (.iconst 3, 1) := by decide +kernel
theorem d_l_law_357 : decode (ch_bc m_l_law) 357 = .ok (.invokestatic 186, 3) := by decide +kernel
theorem d_l_law_360 : decode (ch_bc m_l_law) 360 = .ok (.bipush 9, 2) := by decide +kernel
theorem d_l_law_362 : decode (ch_bc m_l_law) 362 = .ok (.if_icmp .ne 72, 3) := by decide +kernel
theorem d_l_law_365 : decode (ch_bc m_l_law) 365 = .ok (.aload_n 1, 1) := by decide +kernel
theorem d_l_law_366 : decode (ch_bc m_l_law) 366 = .ok (.invokestatic 279, 3) := by decide +kernel
theorem d_l_law_369 : decode (ch_bc m_l_law) 369 = .ok (.iconst 4, 1) := by decide +kernel
theorem d_l_law_370 : decode (ch_bc m_l_law) 370 = .ok (.if_icmp .ne 64, 3) := by decide +kernel
theorem d_l_law_373 : decode (ch_bc m_l_law) 373 = .ok (.aload_n 1, 1) := by decide +kernel
theorem d_l_law_374 : decode (ch_bc m_l_law) 374 = .ok (.invokestatic 279, 3) := by decide +kernel
theorem d_l_law_377 : decode (ch_bc m_l_law) 377 = .ok (.iconst 3, 1) := by decide +kernel
theorem d_l_law_378 : decode (ch_bc m_l_law) 378 = .ok (.if_icmp .ne 56, 3) := by decide +kernel
theorem d_l_law_381 : decode (ch_bc m_l_law) 381 = .ok (.aload_n 1, 1) := by decide +kernel
theorem d_l_law_382 : decode (ch_bc m_l_law) 382 = .ok (.invokestatic 279, 3) := by decide +kernel
theorem d_l_law_385 : decode (ch_bc m_l_law) 385 = .ok (.iconst 2, 1) := by decide +kernel
theorem d_l_law_386 : decode (ch_bc m_l_law) 386 = .ok (.if_icmp .ne 48, 3) := by decide +kernel
theorem d_l_law_389 : decode (ch_bc m_l_law) 389 = .ok (.aload_n 1, 1) := by decide +kernel
theorem d_l_law_390 : decode (ch_bc m_l_law) 390 = .ok (.invokestatic 279, 3) := by decide +kernel
theorem d_l_law_393 : decode (ch_bc m_l_law) 393 = .ok (.iconst 1, 1) := by decide +kernel
theorem d_l_law_394 : decode (ch_bc m_l_law) 394 = .ok (.if_icmp .ne 40, 3) := by decide +kernel
theorem d_l_law_397 : decode (ch_bc m_l_law) 397 = .ok (.aload_n 1, 1) := by decide +kernel
theorem d_l_law_398 : decode (ch_bc m_l_law) 398 = .ok (.invokestatic 279, 3) := by decide +kernel
theorem d_l_law_401 : decode (ch_bc m_l_law) 401 = .ok (.ifCond .ne 33, 3) := by decide +kernel
theorem d_l_law_404 : decode (ch_bc m_l_law) 404 = .ok (.aload_n 1, 1) := by decide +kernel
theorem d_l_law_405 : decode (ch_bc m_l_law) 405 = .ok (.iconst 3, 1) := by decide +kernel
theorem d_l_law_406 : decode (ch_bc m_l_law) 406 = .ok (.invokestatic 186, 3) := by decide +kernel
theorem d_l_law_409 : decode (ch_bc m_l_law) 409 = .ok (.iconst 4, 1) := by decide +kernel
theorem d_l_law_410 : decode (ch_bc m_l_law) 410 = .ok (.if_icmp .ne 24, 3) := by decide +kernel
theorem d_l_law_413 : decode (ch_bc m_l_law) 413 = .ok (.aload_n 1, 1) := by decide +kernel
theorem d_l_law_414 : decode (ch_bc m_l_law) 414 = .ok (.iconst 0, 1) := by decide +kernel
theorem d_l_law_415 : decode (ch_bc m_l_law) 415 = .ok (.iconst 0, 1) := by decide +kernel
theorem d_l_law_416 : decode (ch_bc m_l_law) 416 = .ok (.invokestatic 188, 3) := by decide +kernel
theorem d_l_law_419 : decode (ch_bc m_l_law) 419 = .ok (.bipush 95, 2) := by decide +kernel
theorem d_l_law_421 : decode (ch_bc m_l_law) 421 = .ok (.if_icmp .ne 13, 3) := by decide +kernel
theorem d_l_law_424 : decode (ch_bc m_l_law) 424 = .ok (.aload_n 1, 1) := by decide +kernel
theorem d_l_law_425 : decode (ch_bc m_l_law) 425 = .ok (.invokestatic 279, 3) := by decide +kernel
theorem d_l_law_428 : decode (ch_bc m_l_law) 428 = .ok (.sipush (-1001), 3) := by decide +kernel
theorem d_l_law_431 : decode (ch_bc m_l_law) 431 = .ok (.if_icmp .eq 5, 3) := by decide +kernel
theorem d_l_law_434 : decode (ch_bc m_l_law) 434 = .ok (.iconst 0, 1) := by decide +kernel
theorem d_l_law_435 : decode (ch_bc m_l_law) 435 = .ok (.ireturn, 1) := by decide +kernel
theorem d_l_law_436 : decode (ch_bc m_l_law) 436 = .ok (.aload_n 1, 1) := by decide +kernel
theorem d_l_law_437 : decode (ch_bc m_l_law) 437 = .ok (.invokestatic 281, 3) := by decide +kernel
theorem d_l_law_440 : decode (ch_bc m_l_law) 440 = .ok (.ifCond .ne 37, 3) := by decide +kernel
theorem d_l_law_443 : decode (ch_bc m_l_law) 443 = .ok (.aload_n 1, 1) := by decide +kernel
theorem d_l_law_444 : decode (ch_bc m_l_law) 444 = .ok (.iconst 0, 1) := by decide +kernel
theorem d_l_law_445 : decode (ch_bc m_l_law) 445 = .ok (.invokestatic 186, 3) := by decide +kernel
theorem d_l_law_448 : decode (ch_bc m_l_law) 448 = .ok (.ifCond .ne 29, 3) := by decide +kernel
theorem d_l_law_451 : decode (ch_bc m_l_law) 451 = .ok (.aload_n 1, 1) := by decide +kernel
theorem d_l_law_452 : decode (ch_bc m_l_law) 452 = .ok (.iconst 3, 1) := by decide +kernel
theorem d_l_law_453 : decode (ch_bc m_l_law) 453 = .ok (.invokestatic 186, 3) := by decide +kernel
theorem d_l_law_456 : decode (ch_bc m_l_law) 456 = .ok (.ifCond .ne 21, 3) := by decide +kernel
theorem d_l_law_459 : decode (ch_bc m_l_law) 459 = .ok (.aload_n 1, 1) := by decide +kernel
theorem d_l_law_460 : decode (ch_bc m_l_law) 460 = .ok (.iconst 2, 1) := by decide +kernel
theorem d_l_law_461 : decode (ch_bc m_l_law) 461 = .ok (.invokestatic 186, 3) := by decide +kernel
theorem d_l_law_464 : decode (ch_bc m_l_law) 464 = .ok (.ifCond .ne 13, 3) := by decide +kernel
theorem d_l_law_467 : decode (ch_bc m_l_law) 467 = .ok (.aload_n 1, 1) := by decide +kernel
theorem d_l_law_468 : decode (ch_bc m_l_law) 468 = .ok (.invokestatic 279, 3) := by decide +kernel
theorem d_l_law_471 : decode (ch_bc m_l_law) 471 = .ok (.sipush (-1001), 3) := by decide +kernel
theorem d_l_law_474 : decode (ch_bc m_l_law) 474 = .ok (.if_icmp .eq 5, 3) := by decide +kernel
theorem d_l_law_477 : decode (ch_bc m_l_law) 477 = .ok (.iconst 0, 1) := by decide +kernel
theorem d_l_law_478 : decode (ch_bc m_l_law) 478 = .ok (.ireturn, 1) := by decide +kernel
theorem d_l_law_479 : decode (ch_bc m_l_law) 479 = .ok (.new 8, 3) := by decide +kernel
theorem d_l_law_482 : decode (ch_bc m_l_law) 482 = .ok (.dup, 1) := by decide +kernel
theorem d_l_law_483 : decode (ch_bc m_l_law) 483 = .ok (.invokespecial 278, 3) := by decide +kernel
theorem d_l_law_486 : decode (ch_bc m_l_law) 486 = .ok (.astore_n 2, 1) := by decide +kernel
theorem d_l_law_487 : decode (ch_bc m_l_law) 487 = .ok (.aload_n 2, 1) := by decide +kernel
theorem d_l_law_488 : decode (ch_bc m_l_law) 488 = .ok (.aload_n 0, 1) := by decide +kernel
theorem d_l_law_489 : decode (ch_bc m_l_law) 489 = .ok (.invokestatic 286, 3) := by decide +kernel
theorem d_l_law_492 : decode (ch_bc m_l_law) 492 = .ok (.ifCond .ne 5, 3) := by decide +kernel
theorem d_l_law_495 : decode (ch_bc m_l_law) 495 = .ok (.iconst 0, 1) := by decide +kernel
theorem d_l_law_496 : decode (ch_bc m_l_law) 496 = .ok (.ireturn, 1) := by decide +kernel
theorem d_l_law_497 : decode (ch_bc m_l_law) 497 = .ok (.aload_n 2, 1) := by decide +kernel
theorem d_l_law_498 : decode (ch_bc m_l_law) 498 = .ok (.invokestatic 254, 3) := by decide +kernel
theorem d_l_law_501 : decode (ch_bc m_l_law) 501 = .ok (.lstore_n 3, 1) := by decide +kernel
theorem d_l_law_502 : decode (ch_bc m_l_law) 502 = .ok (.aload_n 2, 1) := by decide +kernel
theorem d_l_law_503 : decode (ch_bc m_l_law) 503 = .ok (.invokestatic 254, 3) := by decide +kernel
theorem d_l_law_506 : decode (ch_bc m_l_law) 506 = .ok (.lload_n 3, 1) := by decide +kernel
theorem d_l_law_507 : decode (ch_bc m_l_law) 507 = .ok (.lcmp, 1) := by decide +kernel
theorem d_l_law_508 : decode (ch_bc m_l_law) 508 = .ok (.ifCond .ne 10, 3) := by decide +kernel
theorem d_l_law_511 : decode (ch_bc m_l_law) 511 = .ok (.aload_n 2, 1) := by decide +kernel
theorem d_l_law_512 : decode (ch_bc m_l_law) 512 = .ok (.invokestatic 290, 3) := by decide +kernel
theorem d_l_law_515 : decode (ch_bc m_l_law) 515 = .ok (.ifCond .ne 5, 3) := by decide +kernel
theorem d_l_law_518 : decode (ch_bc m_l_law) 518 = .ok (.iconst 0, 1) := by decide +kernel
theorem d_l_law_519 : decode (ch_bc m_l_law) 519 = .ok (.ireturn, 1) := by decide +kernel
theorem d_l_law_520 : decode (ch_bc m_l_law) 520 = .ok (.aload_n 2, 1) := by decide +kernel
theorem d_l_law_521 : decode (ch_bc m_l_law) 521 = .ok (.invokevirtual 283, 3) := by decide +kernel
theorem d_l_law_524 : decode (ch_bc m_l_law) 524 = .ok (.istore 5, 2) := by decide +kernel
theorem d_l_law_526 : decode (ch_bc m_l_law) 526 = .ok (.iload 5, 2) := by decide +kernel
theorem d_l_law_528 : decode (ch_bc m_l_law) 528 = .ok (.aload_n 2, 1) := by decide +kernel
theorem d_l_law_529 : decode (ch_bc m_l_law) 529 = .ok (.iconst 0, 1) := by decide +kernel
theorem d_l_law_530 : decode (ch_bc m_l_law) 530 = .ok (.invokestatic 186, 3) := by decide +kernel
theorem d_l_law_533 : decode (ch_bc m_l_law) 533 = .ok (.if_icmp .ne 12, 3) := by decide +kernel
theorem d_l_law_536 : decode (ch_bc m_l_law) 536 = .ok (.aload_n 2, 1) := by decide +kernel
theorem d_l_law_537 : decode (ch_bc m_l_law) 537 = .ok (.invokestatic 254, 3) := by decide +kernel
theorem d_l_law_540 : decode (ch_bc m_l_law) 540 = .ok (.lload_n 3, 1) := by decide +kernel
theorem d_l_law_541 : decode (ch_bc m_l_law) 541 = .ok (.lcmp, 1) := by decide +kernel
theorem d_l_law_542 : decode (ch_bc m_l_law) 542 = .ok (.ifCond .eq 5, 3) := by decide +kernel
theorem d_l_law_545 : decode (ch_bc m_l_law) 545 = .ok (.iconst 0, 1) := by decide +kernel
theorem d_l_law_546 : decode (ch_bc m_l_law) 546 = .ok (.ireturn, 1) := by decide +kernel
theorem d_l_law_547 : decode (ch_bc m_l_law) 547 = .ok (.bipush 9, 2) := by decide +kernel
theorem d_l_law_549 : decode (ch_bc m_l_law) 549 = .ok (.newarray .long, 2) := by decide +kernel
theorem d_l_law_551 : decode (ch_bc m_l_law) 551 = .ok (.astore 6, 2) := by decide +kernel
theorem d_l_law_553 : decode (ch_bc m_l_law) 553 = .ok (.iconst 0, 1) := by decide +kernel
theorem d_l_law_554 : decode (ch_bc m_l_law) 554 = .ok (.istore 7, 2) := by decide +kernel
theorem d_l_law_556 : decode (ch_bc m_l_law) 556 = .ok (.iconst 0, 1) := by decide +kernel
theorem d_l_law_557 : decode (ch_bc m_l_law) 557 = .ok (.istore 8, 2) := by decide +kernel
theorem d_l_law_559 : decode (ch_bc m_l_law) 559 = .ok (.iload 8, 2) := by decide +kernel
theorem d_l_law_561 : decode (ch_bc m_l_law) 561 = .ok (.bipush 8, 2) := by decide +kernel
theorem d_l_law_563 : decode (ch_bc m_l_law) 563 = .ok (.if_icmp .ge 63, 3) := by decide +kernel
theorem d_l_law_566 : decode (ch_bc m_l_law) 566 = .ok (.aload_n 2, 1) := by decide +kernel
theorem d_l_law_567 : decode (ch_bc m_l_law) 567 = .ok (.invokestatic 254, 3) := by decide +kernel
theorem d_l_law_570 : decode (ch_bc m_l_law) 570 = .ok (.lstore 9, 2) := by decide +kernel
theorem d_l_law_572 : decode (ch_bc m_l_law) 572 = .ok (.aload_n 2, 1) := by decide +kernel
theorem d_l_law_573 : decode (ch_bc m_l_law) 573 = .ok (.aload_n 0, 1) := by decide +kernel
theorem d_l_law_574 : decode (ch_bc m_l_law) 574 = .ok (.bipush 20, 2) := by decide +kernel
theorem d_l_law_576 : decode (ch_bc m_l_law) 576 = .ok (.iload 8, 2) := by decide +kernel
theorem d_l_law_578 : decode (ch_bc m_l_law) 578 = .ok (.iadd, 1) := by decide +kernel
theorem d_l_law_579 : decode (ch_bc m_l_law) 579 = .ok (.invokestatic 149, 3) := by decide +kernel
theorem d_l_law_582 : decode (ch_bc m_l_law) 582 = .ok (.iload 8, 2) := by decide +kernel
theorem d_l_law_584 : decode (ch_bc m_l_law) 584 = .ok (.sipush 977, 3) := by decide +kernel
theorem d_l_law_587 : decode (ch_bc m_l_law) 587 = .ok (.imul, 1) := by decide +kernel
theorem d_l_law_588 : decode (ch_bc m_l_law) 588 = .ok (.ixor, 1) := by decide +kernel
theorem d_l_law_589 : decode (ch_bc m_l_law) 589 = .ok (.invokestatic 294, 3) := by decide +kernel
theorem d_l_law_592 : decode (ch_bc m_l_law) 592 = .ok (.ifCond .eq 16, 3) := by decide +kernel
theorem d_l_law_595 : decode (ch_bc m_l_law) 595 = .ok (.aload 6, 2) := by decide +kernel
theorem d_l_law_597 : decode (ch_bc m_l_law) 597 = .ok (.iload 7, 2) := by decide +kernel
theorem d_l_law_599 : decode (ch_bc m_l_law) 599 = .ok (.iinc 7 1, 3) := by decide +kernel
theorem d_l_law_602 : decode (ch_bc m_l_law) 602 = .ok (.lload 9, 2) := by decide +kernel
theorem d_l_law_604 : decode (ch_bc m_l_law) 604 = .ok (.lastore, 1) := by decide +kernel
theorem d_l_law_605 : decode (ch_bc m_l_law) 605 = .ok (.goto 15, 3) := by decide +kernel
theorem d_l_law_608 : decode (ch_bc m_l_law) 608 = .ok (.aload_n 2, 1) := by decide +kernel
theorem d_l_law_609 : decode (ch_bc m_l_law) 609 = .ok (.invokestatic 254, 3) := by decide +kernel
theorem d_l_law_612 : decode (ch_bc m_l_law) 612 = .ok (.lload 9, 2) := by decide +kernel
theorem d_l_law_614 : decode (ch_bc m_l_law) 614 = .ok (.lcmp, 1) := by decide +kernel
theorem d_l_law_615 : decode (ch_bc m_l_law) 615 = .ok (.ifCond .eq 5, 3) := by decide +kernel
theorem d_l_law_618 : decode (ch_bc m_l_law) 618 = .ok (.iconst 0, 1) := by decide +kernel
theorem d_l_law_619 : decode (ch_bc m_l_law) 619 = .ok (.ireturn, 1) := by decide +kernel
theorem d_l_law_620 : decode (ch_bc m_l_law) 620 = .ok (.iinc 8 1, 3) := by decide +kernel
theorem d_l_law_623 : decode (ch_bc m_l_law) 623 = .ok (.goto (-64), 3) := by decide +kernel
theorem d_l_law_626 : decode (ch_bc m_l_law) 626 = .ok (.iconst 1, 1) := by decide +kernel
theorem d_l_law_627 : decode (ch_bc m_l_law) 627 = .ok (.istore 8, 2) := by decide +kernel
theorem d_l_law_629 : decode (ch_bc m_l_law) 629 = .ok (.iload 8, 2) := by decide +kernel
theorem d_l_law_631 : decode (ch_bc m_l_law) 631 = .ok (.iload 7, 2) := by decide +kernel
theorem d_l_law_633 : decode (ch_bc m_l_law) 633 = .ok (.if_icmp .gt 53, 3) := by decide +kernel
theorem d_l_law_636 : decode (ch_bc m_l_law) 636 = .ok (.aload_n 2, 1) := by decide +kernel
theorem d_l_law_637 : decode (ch_bc m_l_law) 637 = .ok (.invokestatic 279, 3) := by decide +kernel
theorem d_l_law_640 : decode (ch_bc m_l_law) 640 = .ok (.istore 9, 2) := by decide +kernel
theorem d_l_law_642 : decode (ch_bc m_l_law) 642 = .ok (.iload 9, 2) := by decide +kernel
theorem d_l_law_644 : decode (ch_bc m_l_law) 644 = .ok (.iload 7, 2) := by decide +kernel
theorem d_l_law_646 : decode (ch_bc m_l_law) 646 = .ok (.iload 8, 2) := by decide +kernel
theorem d_l_law_648 : decode (ch_bc m_l_law) 648 = .ok (.isub, 1) := by decide +kernel
theorem d_l_law_649 : decode (ch_bc m_l_law) 649 = .ok (.if_icmp .lt 29, 3) := by decide +kernel
theorem d_l_law_652 : decode (ch_bc m_l_law) 652 = .ok (.iload 9, 2) := by decide +kernel
theorem d_l_law_654 : decode (ch_bc m_l_law) 654 = .ok (.bipush 8, 2) := by decide +kernel
theorem d_l_law_656 : decode (ch_bc m_l_law) 656 = .ok (.iload 8, 2) := by decide +kernel
theorem d_l_law_658 : decode (ch_bc m_l_law) 658 = .ok (.isub, 1) := by decide +kernel
theorem d_l_law_659 : decode (ch_bc m_l_law) 659 = .ok (.if_icmp .gt 19, 3) := by decide +kernel
theorem d_l_law_662 : decode (ch_bc m_l_law) 662 = .ok (.aload_n 2, 1) := by decide +kernel
theorem d_l_law_663 : decode (ch_bc m_l_law) 663 = .ok (.invokestatic 254, 3) := by decide +kernel
theorem d_l_law_666 : decode (ch_bc m_l_law) 666 = .ok (.aload 6, 2) := by decide +kernel
theorem d_l_law_668 : decode (ch_bc m_l_law) 668 = .ok (.iload 7, 2) := by decide +kernel
theorem d_l_law_670 : decode (ch_bc m_l_law) 670 = .ok (.iload 8, 2) := by decide +kernel
theorem d_l_law_672 : decode (ch_bc m_l_law) 672 = .ok (.isub, 1) := by decide +kernel
theorem d_l_law_673 : decode (ch_bc m_l_law) 673 = .ok (.laload, 1) := by decide +kernel
theorem d_l_law_674 : decode (ch_bc m_l_law) 674 = .ok (.lcmp, 1) := by decide +kernel
theorem d_l_law_675 : decode (ch_bc m_l_law) 675 = .ok (.ifCond .eq 5, 3) := by decide +kernel
theorem d_l_law_678 : decode (ch_bc m_l_law) 678 = .ok (.iconst 0, 1) := by decide +kernel
theorem d_l_law_679 : decode (ch_bc m_l_law) 679 = .ok (.ireturn, 1) := by decide +kernel
theorem d_l_law_680 : decode (ch_bc m_l_law) 680 = .ok (.iinc 8 1, 3) := by decide +kernel
theorem d_l_law_683 : decode (ch_bc m_l_law) 683 = .ok (.goto (-54), 3) := by decide +kernel
theorem d_l_law_686 : decode (ch_bc m_l_law) 686 = .ok (.aload_n 2, 1) := by decide +kernel
theorem d_l_law_687 : decode (ch_bc m_l_law) 687 = .ok (.invokestatic 281, 3) := by decide +kernel
theorem d_l_law_690 : decode (ch_bc m_l_law) 690 = .ok (.iload 5, 2) := by decide +kernel
theorem d_l_law_692 : decode (ch_bc m_l_law) 692 = .ok (.if_icmp .ne 44, 3) := by decide +kernel
theorem d_l_law_695 : decode (ch_bc m_l_law) 695 = .ok (.aload_n 2, 1) := by decide +kernel
theorem d_l_law_696 : decode (ch_bc m_l_law) 696 = .ok (.invokestatic 279, 3) := by decide +kernel
theorem d_l_law_699 : decode (ch_bc m_l_law) 699 = .ok (.sipush (-1001), 3) := by decide +kernel
theorem d_l_law_702 : decode (ch_bc m_l_law) 702 = .ok (.if_icmp .ne 34, 3) := by decide +kernel
theorem d_l_law_705 : decode (ch_bc m_l_law) 705 = .ok (.aload_n 2, 1) := by decide +kernel
theorem d_l_law_706 : decode (ch_bc m_l_law) 706 = .ok (.invokestatic 254, 3) := by decide +kernel
theorem d_l_law_709 : decode (ch_bc m_l_law) 709 = .ok (.lload_n 3, 1) := by decide +kernel
theorem d_l_law_710 : decode (ch_bc m_l_law) 710 = .ok (.lcmp, 1) := by decide +kernel
theorem d_l_law_711 : decode (ch_bc m_l_law) 711 = .ok (.ifCond .ne 25, 3) := by decide +kernel
theorem d_l_law_714 : decode (ch_bc m_l_law) 714 = .ok (.aload_n 2, 1) := by decide +kernel
theorem d_l_law_715 : decode (ch_bc m_l_law) 715 = .ok (.invokestatic 281, 3) := by decide +kernel
theorem d_l_law_718 : decode (ch_bc m_l_law) 718 = .ok (.iload 5, 2) := by decide +kernel
theorem d_l_law_720 : decode (ch_bc m_l_law) 720 = .ok (.if_icmp .ne 16, 3) := by decide +kernel
theorem d_l_law_723 : decode (ch_bc m_l_law) 723 = .ok (.aload_n 2, 1) := by decide +kernel
theorem d_l_law_724 : decode (ch_bc m_l_law) 724 = .ok (.invokestatic 254, 3) := by decide +kernel
theorem d_l_law_727 : decode (ch_bc m_l_law) 727 = .ok (.lload_n 3, 1) := by decide +kernel
theorem d_l_law_728 : decode (ch_bc m_l_law) 728 = .ok (.lcmp, 1) := by decide +kernel
theorem d_l_law_729 : decode (ch_bc m_l_law) 729 = .ok (.ifCond .ne 7, 3) := by decide +kernel
theorem d_l_law_732 : decode (ch_bc m_l_law) 732 = .ok (.iconst 1, 1) := by decide +kernel
theorem d_l_law_733 : decode (ch_bc m_l_law) 733 = .ok (.goto 4, 3) := by decide +kernel
theorem d_l_law_736 : decode (ch_bc m_l_law) 736 = .ok (.iconst 0, 1) := by decide +kernel
theorem d_l_law_737 : decode (ch_bc m_l_law) 737 = .ok (.ireturn, 1) := by decide +kernel
