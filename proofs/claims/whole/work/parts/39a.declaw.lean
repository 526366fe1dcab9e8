theorem d_l_law_0 : decode (ch_bc m_l_law) 0 = .ok (.new 8, 3) := by decide +kernel
theorem d_l_law_3 : decode (ch_bc m_l_law) 3 = .ok (.dup, 1) := by decide +kernel
theorem d_l_law_4 : decode (ch_bc m_l_law) 4 = .ok (.invokespecial 119, 3) := by decide +kernel
theorem d_l_law_7 : decode (ch_bc m_l_law) 7 = .ok (.astore_n 1, 1) := by decide +kernel
theorem d_l_law_8 : decode (ch_bc m_l_law) 8 = .ok (.new 120, 3) := by decide +kernel
theorem d_l_law_11 : decode (ch_bc m_l_law) 11 = .ok (.dup, 1) := by decide +kernel
theorem d_l_law_12 : decode (ch_bc m_l_law) 12 = .ok (.invokespecial 122, 3) := by decide +kernel
theorem d_l_law_15 : decode (ch_bc m_l_law) 15 = .ok (.astore_n 2, 1) := by decide +kernel
theorem d_l_law_16 : decode (ch_bc m_l_law) 16 = .ok (.iconst 1, 1) := by decide +kernel
theorem d_l_law_17 : decode (ch_bc m_l_law) 17 = .ok (.newarray .long, 2) := by decide +kernel
theorem d_l_law_19 : decode (ch_bc m_l_law) 19 = .ok (.astore_n 3, 1) := by decide +kernel
theorem d_l_law_20 : decode (ch_bc m_l_law) 20 = .ok (.iconst 1, 1) := by decide +kernel
theorem d_l_law_21 : decode (ch_bc m_l_law) 21 = .ok (.newarray .double, 2) := by decide +kernel
theorem d_l_law_23 : decode (ch_bc m_l_law) 23 = .ok (.astore 4, 2) := by decide +kernel
theorem d_l_law_25 : decode (ch_bc m_l_law) 25 = .ok (.iconst 0, 1) := by decide +kernel
theorem d_l_law_26 : decode (ch_bc m_l_law) 26 = .ok (.istore 5, 2) := by decide +kernel
theorem d_l_law_28 : decode (ch_bc m_l_law) 28 = .ok (.iload 5, 2) := by decide +kernel
theorem d_l_law_30 : decode (ch_bc m_l_law) 30 = .ok (.aload_n 0, 1) := by decide +kernel
theorem d_l_law_31 : decode (ch_bc m_l_law) 31 = .ok (.arraylength, 1) := by decide +kernel
theorem d_l_law_32 : decode (ch_bc m_l_law) 32 = .ok (.iconst 4, 1) := by decide +kernel
theorem d_l_law_33 : decode (ch_bc m_l_law) 33 = .ok (.isub, 1) := by decide +kernel
theorem d_l_law_34 : decode (ch_bc m_l_law) 34 = .ok (.if_icmp .gt 2068, 3) := by decide +kernel
theorem d_l_law_37 : decode (ch_bc m_l_law) 37 = .ok (.aload_n 0, 1) := by decide +kernel
theorem d_l_law_38 : decode (ch_bc m_l_law) 38 = .ok (.iload 5, 2) := by decide +kernel
theorem d_l_law_40 : decode (ch_bc m_l_law) 40 = .ok (.iaload, 1) := by decide +kernel
theorem d_l_law_41 : decode (ch_bc m_l_law) 41 = .ok (.bipush 63, 2) := by decide +kernel
theorem d_l_law_43 : decode (ch_bc m_l_law) 43 = .ok (.iand, 1) := by decide +kernel
theorem d_l_law_44 : decode (ch_bc m_l_law) 44 = .ok (.tableswitch 2052 0 36 #[164, 220, 288, 356, 412, 468, 524, 568, 648, 732, 800, 856, 912, 968, 1024, 1092, 1160, 1216, 1229, 1285, 1341, 1397, 1453, 1521, 1534, 1592, 1636, 1649, 1705, 1718, 1731, 1787, 1852, 1895, 1951, 1995, 2008], 164) := by decide +kernel
theorem d_l_law_208 : decode (ch_bc m_l_law) 208 = .ok (.aload_n 1, 1) := by decide +kernel
theorem d_l_law_209 : decode (ch_bc m_l_law) 209 = .ok (.aload_n 0, 1) := by decide +kernel
theorem d_l_law_210 : decode (ch_bc m_l_law) 210 = .ok (.iload 5, 2) := by decide +kernel
theorem d_l_law_212 : decode (ch_bc m_l_law) 212 = .ok (.iconst 1, 1) := by decide +kernel
theorem d_l_law_213 : decode (ch_bc m_l_law) 213 = .ok (.iadd, 1) := by decide +kernel
theorem d_l_law_214 : decode (ch_bc m_l_law) 214 = .ok (.iaload, 1) := by decide +kernel
theorem d_l_law_215 : decode (ch_bc m_l_law) 215 = .ok (.aload_n 3, 1) := by decide +kernel
theorem d_l_law_216 : decode (ch_bc m_l_law) 216 = .ok (.invokestatic 123, 3) := by decide +kernel
theorem d_l_law_219 : decode (ch_bc m_l_law) 219 = .ok (.istore 6, 2) := by decide +kernel
theorem d_l_law_221 : decode (ch_bc m_l_law) 221 = .ok (.aload_n 2, 1) := by decide +kernel
theorem d_l_law_222 : decode (ch_bc m_l_law) 222 = .ok (.aload_n 0, 1) := by decide +kernel
theorem d_l_law_223 : decode (ch_bc m_l_law) 223 = .ok (.iload 5, 2) := by decide +kernel
theorem d_l_law_225 : decode (ch_bc m_l_law) 225 = .ok (.iconst 1, 1) := by decide +kernel
theorem d_l_law_226 : decode (ch_bc m_l_law) 226 = .ok (.iadd, 1) := by decide +kernel
theorem d_l_law_227 : decode (ch_bc m_l_law) 227 = .ok (.iaload, 1) := by decide +kernel
theorem d_l_law_228 : decode (ch_bc m_l_law) 228 = .ok (.invokevirtual 128, 3) := by decide +kernel
theorem d_l_law_231 : decode (ch_bc m_l_law) 231 = .ok (.istore 7, 2) := by decide +kernel
theorem d_l_law_233 : decode (ch_bc m_l_law) 233 = .ok (.aload_n 2, 1) := by decide +kernel
theorem d_l_law_234 : decode (ch_bc m_l_law) 234 = .ok (.invokevirtual 129, 3) := by decide +kernel
theorem d_l_law_237 : decode (ch_bc m_l_law) 237 = .ok (.iload 6, 2) := by decide +kernel
theorem d_l_law_239 : decode (ch_bc m_l_law) 239 = .ok (.if_icmp .eq 5, 3) := by decide +kernel
theorem d_l_law_242 : decode (ch_bc m_l_law) 242 = .ok (.iconst 0, 1) := by decide +kernel
theorem d_l_law_243 : decode (ch_bc m_l_law) 243 = .ok (.ireturn, 1) := by decide +kernel
theorem d_l_law_244 : decode (ch_bc m_l_law) 244 = .ok (.iload 6, 2) := by decide +kernel
theorem d_l_law_246 : decode (ch_bc m_l_law) 246 = .ok (.ifCond .ne 15, 3) := by decide +kernel
theorem d_l_law_249 : decode (ch_bc m_l_law) 249 = .ok (.aload_n 3, 1) := by decide +kernel
theorem d_l_law_250 : decode (ch_bc m_l_law) 250 = .ok (.iconst 0, 1) := by decide +kernel
theorem d_l_law_251 : decode (ch_bc m_l_law) 251 = .ok (.laload, 1) := by decide +kernel
theorem d_l_law_252 : decode (ch_bc m_l_law) 252 = .ok (.iload 7, 2) := by decide +kernel
theorem d_l_law_254 : decode (ch_bc m_l_law) 254 = .ok (.i2l, 1) := by decide +kernel
theorem d_l_law_255 : decode (ch_bc m_l_law) 255 = .ok (.lcmp, 1) := by decide +kernel
theorem d_l_law_256 : decode (ch_bc m_l_law) 256 = .ok (.ifCond .eq 5, 3) := by decide +kernel
theorem d_l_law_259 : decode (ch_bc m_l_law) 259 = .ok (.iconst 0, 1) := by decide +kernel
theorem d_l_law_260 : decode (ch_bc m_l_law) 260 = .ok (.ireturn, 1) := by decide +kernel
theorem d_l_law_261 : decode (ch_bc m_l_law) 261 = .ok (.goto 1835, 3) := by decide +kernel
theorem d_l_law_264 : decode (ch_bc m_l_law) 264 = .ok (.aload_n 1, 1) := by decide +kernel
theorem d_l_law_265 : decode (ch_bc m_l_law) 265 = .ok (.aload_n 0, 1) := by decide +kernel
theorem d_l_law_266 : decode (ch_bc m_l_law) 266 = .ok (.iload 5, 2) := by decide +kernel
theorem d_l_law_268 : decode (ch_bc m_l_law) 268 = .ok (.iconst 1, 1) := by decide +kernel
theorem d_l_law_269 : decode (ch_bc m_l_law) 269 = .ok (.iadd, 1) := by decide +kernel
theorem d_l_law_270 : decode (ch_bc m_l_law) 270 = .ok (.iaload, 1) := by decide +kernel
theorem d_l_law_271 : decode (ch_bc m_l_law) 271 = .ok (.aload_n 0, 1) := by decide +kernel
theorem d_l_law_272 : decode (ch_bc m_l_law) 272 = .ok (.iload 5, 2) := by decide +kernel
theorem d_l_law_274 : decode (ch_bc m_l_law) 274 = .ok (.iconst 2, 1) := by decide +kernel
theorem d_l_law_275 : decode (ch_bc m_l_law) 275 = .ok (.iadd, 1) := by decide +kernel
theorem d_l_law_276 : decode (ch_bc m_l_law) 276 = .ok (.iaload, 1) := by decide +kernel
theorem d_l_law_277 : decode (ch_bc m_l_law) 277 = .ok (.aload_n 3, 1) := by decide +kernel
theorem d_l_law_278 : decode (ch_bc m_l_law) 278 = .ok (.invokestatic 132, 3) := by decide +kernel
theorem d_l_law_281 : decode (ch_bc m_l_law) 281 = .ok (.istore 6, 2) := by decide +kernel
theorem d_l_law_283 : decode (ch_bc m_l_law) 283 = .ok (.aload_n 2, 1) := by decide +kernel
theorem d_l_law_284 : decode (ch_bc m_l_law) 284 = .ok (.aload_n 0, 1) := by decide +kernel
theorem d_l_law_285 : decode (ch_bc m_l_law) 285 = .ok (.iload 5, 2) := by decide +kernel
theorem d_l_law_287 : decode (ch_bc m_l_law) 287 = .ok (.iconst 1, 1) := by decide +kernel
theorem d_l_law_288 : decode (ch_bc m_l_law) 288 = .ok (.iadd, 1) := by decide +kernel
theorem d_l_law_289 : decode (ch_bc m_l_law) 289 = .ok (.iaload, 1) := by decide +kernel
theorem d_l_law_290 : decode (ch_bc m_l_law) 290 = .ok (.aload_n 0, 1) := by decide +kernel
theorem d_l_law_291 : decode (ch_bc m_l_law) 291 = .ok (.iload 5, 2) := by decide +kernel
theorem d_l_law_293 : decode (ch_bc m_l_law) 293 = .ok (.iconst 2, 1) := by decide +kernel
theorem d_l_law_294 : decode (ch_bc m_l_law) 294 = .ok (.iadd, 1) := by decide +kernel
theorem d_l_law_295 : decode (ch_bc m_l_law) 295 = .ok (.iaload, 1) := by decide +kernel
theorem d_l_law_296 : decode (ch_bc m_l_law) 296 = .ok (.invokevirtual 135, 3) := by decide +kernel
theorem d_l_law_299 : decode (ch_bc m_l_law) 299 = .ok (.istore 7, 2) := by decide +kernel
theorem d_l_law_301 : decode (ch_bc m_l_law) 301 = .ok (.aload_n 2, 1) := by decide +kernel
theorem d_l_law_302 : decode (ch_bc m_l_law) 302 = .ok (.invokevirtual 129, 3) := by decide +kernel
theorem d_l_law_305 : decode (ch_bc m_l_law) 305 = .ok (.iload 6, 2) := by decide +kernel
theorem d_l_law_307 : decode (ch_bc m_l_law) 307 = .ok (.if_icmp .eq 5, 3) := by decide +kernel
theorem d_l_law_310 : decode (ch_bc m_l_law) 310 = .ok (.iconst 0, 1) := by decide +kernel
theorem d_l_law_311 : decode (ch_bc m_l_law) 311 = .ok (.ireturn, 1) := by decide +kernel
theorem d_l_law_312 : decode (ch_bc m_l_law) 312 = .ok (.iload 6, 2) := by decide +kernel
theorem d_l_law_314 : decode (ch_bc m_l_law) 314 = .ok (.ifCond .ne 15, 3) := by decide +kernel
theorem d_l_law_317 : decode (ch_bc m_l_law) 317 = .ok (.aload_n 3, 1) := by decide +kernel
theorem d_l_law_318 : decode (ch_bc m_l_law) 318 = .ok (.iconst 0, 1) := by decide +kernel
theorem d_l_law_319 : decode (ch_bc m_l_law) 319 = .ok (.laload, 1) := by decide +kernel
theorem d_l_law_320 : decode (ch_bc m_l_law) 320 = .ok (.iload 7, 2) := by decide +kernel
theorem d_l_law_322 : decode (ch_bc m_l_law) 322 = .ok (.i2l, 1) := by decide +kernel
theorem d_l_law_323 : decode (ch_bc m_l_law) 323 = .ok (.lcmp, 1) := by decide +kernel
theorem d_l_law_324 : decode (ch_bc m_l_law) 324 = .ok (.ifCond .eq 5, 3) := by decide +kernel
theorem d_l_law_327 : decode (ch_bc m_l_law) 327 = .ok (.iconst 0, 1) := by decide +kernel
theorem d_l_law_328 : decode (ch_bc m_l_law) 328 = .ok (.ireturn, 1) := by decide +kernel
theorem d_l_law_329 : decode (ch_bc m_l_law) 329 = .ok (.goto 1767, 3) := by decide +kernel
theorem d_l_law_332 : decode (ch_bc m_l_law) 332 = .ok (.aload_n 1, 1) := by decide +kernel
theorem d_l_law_333 : decode (ch_bc m_l_law) 333 = .ok (.aload_n 0, 1) := by decide +kernel
theorem d_l_law_334 : decode (ch_bc m_l_law) 334 = .ok (.iload 5, 2) := by decide +kernel
theorem d_l_law_336 : decode (ch_bc m_l_law) 336 = .ok (.iconst 1, 1) := by decide +kernel
theorem d_l_law_337 : decode (ch_bc m_l_law) 337 = .ok (.iadd, 1) := by decide +kernel
theorem d_l_law_338 : decode (ch_bc m_l_law) 338 = .ok (.iaload, 1) := by decide +kernel
theorem d_l_law_339 : decode (ch_bc m_l_law) 339 = .ok (.aload_n 0, 1) := by decide +kernel
theorem d_l_law_340 : decode (ch_bc m_l_law) 340 = .ok (.iload 5, 2) := by decide +kernel
theorem d_l_law_342 : decode (ch_bc m_l_law) 342 = .ok (.iconst 2, 1) := by decide +kernel
theorem d_l_law_343 : decode (ch_bc m_l_law) 343 = .ok (.iadd, 1) := by decide +kernel
theorem d_l_law_344 : decode (ch_bc m_l_law) 344 = .ok (.iaload, 1) := by decide +kernel
theorem d_l_law_345 : decode (ch_bc m_l_law) 345 = .ok (.aload_n 3, 1) := by decide +kernel
theorem d_l_law_346 : decode (ch_bc m_l_law) 346 = .ok (.invokestatic 136, 3) := by decide +kernel
theorem d_l_law_349 : decode (ch_bc m_l_law) 349 = .ok (.istore 6, 2) := by decide +kernel
theorem d_l_law_351 : decode (ch_bc m_l_law) 351 = .ok (.aload_n 2, 1) := by decide +kernel
theorem d_l_law_352 : decode (ch_bc m_l_law) 352 = .ok (.aload_n 0, 1) := by decide +kernel
theorem d_l_law_353 : decode (ch_bc m_l_law) 353 = .ok (.iload 5, 2) := by decide +kernel
theorem d_l_law_355 : decode (ch_bc m_l_law) 355 = .ok (.iconst 1, 1) := by decide +kernel
theorem d_l_law_356 : decode (ch_bc m_l_law) 356 = .ok (.iadd, 1) := by decide +kernel
theorem d_l_law_357 : decode (ch_bc m_l_law) 357 = .ok (.iaload, 1) := by decide +kernel
theorem d_l_law_358 : decode (ch_bc m_l_law) 358 = .ok (.aload_n 0, 1) := by decide +kernel
theorem d_l_law_359 : decode (ch_bc m_l_law) 359 = .ok (.iload 5, 2) := by decide +kernel
theorem d_l_law_361 : decode (ch_bc m_l_law) 361 = .ok (.iconst 2, 1) := by decide +kernel
theorem d_l_law_362 : decode (ch_bc m_l_law) 362 = .ok (.iadd, 1) := by decide +kernel
theorem d_l_law_363 : decode (ch_bc m_l_law) 363 = .ok (.iaload, 1) := by decide +kernel
theorem d_l_law_364 : decode (ch_bc m_l_law) 364 = .ok (.invokevirtual 138, 3) := by decide +kernel
theorem d_l_law_367 : decode (ch_bc m_l_law) 367 = .ok (.istore 7, 2) := by decide +kernel
theorem d_l_law_369 : decode (ch_bc m_l_law) 369 = .ok (.aload_n 2, 1) := by decide +kernel
theorem d_l_law_370 : decode (ch_bc m_l_law) 370 = .ok (.invokevirtual 129, 3) := by decide +kernel
theorem d_l_law_373 : decode (ch_bc m_l_law) 373 = .ok (.iload 6, 2) := by decide +kernel
theorem d_l_law_375 : decode (ch_bc m_l_law) 375 = .ok (.if_icmp .eq 5, 3) := by decide +kernel
theorem d_l_law_378 : decode (ch_bc m_l_law) 378 = .ok (.iconst 0, 1) := by decide +kernel
theorem d_l_law_379 : decode (ch_bc m_l_law) 379 = .ok (.ireturn, 1) := by decide +kernel
theorem d_l_law_380 : decode (ch_bc m_l_law) 380 = .ok (.iload 6, 2) := by decide +kernel
theorem d_l_law_382 : decode (ch_bc m_l_law) 382 = .ok (.ifCond .ne 15, 3) := by decide +kernel
theorem d_l_law_385 : decode (ch_bc m_l_law) 385 = .ok (.aload_n 3, 1) := by decide +kernel
theorem d_l_law_386 : decode (ch_bc m_l_law) 386 = .ok (.iconst 0, 1) := by decide +kernel
theorem d_l_law_387 : decode (ch_bc m_l_law) 387 = .ok (.laload, 1) := by decide +kernel
theorem d_l_law_388 : decode (ch_bc m_l_law) 388 = .ok (.iload 7, 2) := by decide +kernel
theorem d_l_law_390 : decode (ch_bc m_l_law) 390 = .ok (.i2l, 1) := by decide +kernel
theorem d_l_law_391 : decode (ch_bc m_l_law) 391 = .ok (.lcmp, 1) := by decide +kernel
theorem d_l_law_392 : decode (ch_bc m_l_law) 392 = .ok (.ifCond .eq 5, 3) := by decide +kernel
theorem d_l_law_395 : decode (ch_bc m_l_law) 395 = .ok (.iconst 0, 1) := by decide +kernel
theorem d_l_law_396 : decode (ch_bc m_l_law) 396 = .ok (.ireturn, 1) := by decide +kernel
theorem d_l_law_397 : decode (ch_bc m_l_law) 397 = .ok (.goto 1699, 3) := by decide +kernel
theorem d_l_law_400 : decode (ch_bc m_l_law) 400 = .ok (.aload_n 1, 1) := by decide +kernel
theorem d_l_law_401 : decode (ch_bc m_l_law) 401 = .ok (.aload_n 0, 1) := by decide +kernel
theorem d_l_law_402 : decode (ch_bc m_l_law) 402 = .ok (.iload 5, 2) := by decide +kernel
theorem d_l_law_404 : decode (ch_bc m_l_law) 404 = .ok (.iconst 1, 1) := by decide +kernel
theorem d_l_law_405 : decode (ch_bc m_l_law) 405 = .ok (.iadd, 1) := by decide +kernel
theorem d_l_law_406 : decode (ch_bc m_l_law) 406 = .ok (.iaload, 1) := by decide +kernel
theorem d_l_law_407 : decode (ch_bc m_l_law) 407 = .ok (.aload_n 3, 1) := by decide +kernel
theorem d_l_law_408 : decode (ch_bc m_l_law) 408 = .ok (.invokestatic 139, 3) := by decide +kernel
theorem d_l_law_411 : decode (ch_bc m_l_law) 411 = .ok (.istore 6, 2) := by decide +kernel
theorem d_l_law_413 : decode (ch_bc m_l_law) 413 = .ok (.aload_n 2, 1) := by decide +kernel
theorem d_l_law_414 : decode (ch_bc m_l_law) 414 = .ok (.aload_n 0, 1) := by decide +kernel
theorem d_l_law_415 : decode (ch_bc m_l_law) 415 = .ok (.iload 5, 2) := by decide +kernel
theorem d_l_law_417 : decode (ch_bc m_l_law) 417 = .ok (.iconst 1, 1) := by decide +kernel
theorem d_l_law_418 : decode (ch_bc m_l_law) 418 = .ok (.iadd, 1) := by decide +kernel
theorem d_l_law_419 : decode (ch_bc m_l_law) 419 = .ok (.iaload, 1) := by decide +kernel
theorem d_l_law_420 : decode (ch_bc m_l_law) 420 = .ok (.invokevirtual 141, 3) := by decide +kernel
theorem d_l_law_423 : decode (ch_bc m_l_law) 423 = .ok (.istore 7, 2) := by decide +kernel
theorem d_l_law_425 : decode (ch_bc m_l_law) 425 = .ok (.aload_n 2, 1) := by decide +kernel
theorem d_l_law_426 : decode (ch_bc m_l_law) 426 = .ok (.invokevirtual 129, 3) := by decide +kernel
theorem d_l_law_429 : decode (ch_bc m_l_law) 429 = .ok (.iload 6, 2) := by decide +kernel
theorem d_l_law_431 : decode (ch_bc m_l_law) 431 = .ok (.if_icmp .eq 5, 3) := by decide +kernel
theorem d_l_law_434 : decode (ch_bc m_l_law) 434 = .ok (.iconst 0, 1) := by decide +kernel
theorem d_l_law_435 : decode (ch_bc m_l_law) 435 = .ok (.ireturn, 1) := by decide +kernel
theorem d_l_law_436 : decode (ch_bc m_l_law) 436 = .ok (.iload 6, 2) := by decide +kernel
theorem d_l_law_438 : decode (ch_bc m_l_law) 438 = .ok (.ifCond .ne 15, 3) := by decide +kernel
theorem d_l_law_441 : decode (ch_bc m_l_law) 441 = .ok (.aload_n 3, 1) := by decide +kernel
theorem d_l_law_442 : decode (ch_bc m_l_law) 442 = .ok (.iconst 0, 1) := by decide +kernel
theorem d_l_law_443 : decode (ch_bc m_l_law) 443 = .ok (.laload, 1) := by decide +kernel
theorem d_l_law_444 : decode (ch_bc m_l_law) 444 = .ok (.iload 7, 2) := by decide +kernel
theorem d_l_law_446 : decode (ch_bc m_l_law) 446 = .ok (.i2l, 1) := by decide +kernel
theorem d_l_law_447 : decode (ch_bc m_l_law) 447 = .ok (.lcmp, 1) := by decide +kernel
theorem d_l_law_448 : decode (ch_bc m_l_law) 448 = .ok (.ifCond .eq 5, 3) := by decide +kernel
theorem d_l_law_451 : decode (ch_bc m_l_law) 451 = .ok (.iconst 0, 1) := by decide +kernel
theorem d_l_law_452 : decode (ch_bc m_l_law) 452 = .ok (.ireturn, 1) := by decide +kernel
theorem d_l_law_453 : decode (ch_bc m_l_law) 453 = .ok (.goto 1643, 3) := by decide +kernel
theorem d_l_law_456 : decode (ch_bc m_l_law) 456 = .ok (.aload_n 1, 1) := by decide +kernel
theorem d_l_law_457 : decode (ch_bc m_l_law) 457 = .ok (.aload_n 0, 1) := by decide +kernel
theorem d_l_law_458 : decode (ch_bc m_l_law) 458 = .ok (.iload 5, 2) := by decide +kernel
theorem d_l_law_460 : decode (ch_bc m_l_law) 460 = .ok (.iconst 1, 1) := by decide +kernel
theorem d_l_law_461 : decode (ch_bc m_l_law) 461 = .ok (.iadd, 1) := by decide +kernel
theorem d_l_law_462 : decode (ch_bc m_l_law) 462 = .ok (.iaload, 1) := by decide +kernel
theorem d_l_law_463 : decode (ch_bc m_l_law) 463 = .ok (.aload_n 3, 1) := by decide +kernel
theorem d_l_law_464 : decode (ch_bc m_l_law) 464 = .ok (.invokestatic 142, 3) := by decide +kernel
theorem d_l_law_467 : decode (ch_bc m_l_law) 467 = .ok (.istore 6, 2) := by decide +kernel
theorem d_l_law_469 : decode (ch_bc m_l_law) 469 = .ok (.aload_n 2, 1) := by decide +kernel
theorem d_l_law_470 : decode (ch_bc m_l_law) 470 = .ok (.aload_n 0, 1) := by decide +kernel
theorem d_l_law_471 : decode (ch_bc m_l_law) 471 = .ok (.iload 5, 2) := by decide +kernel
theorem d_l_law_473 : decode (ch_bc m_l_law) 473 = .ok (.iconst 1, 1) := by decide +kernel
theorem d_l_law_474 : decode (ch_bc m_l_law) 474 = .ok (.iadd, 1) := by decide +kernel
theorem d_l_law_475 : decode (ch_bc m_l_law) 475 = .ok (.iaload, 1) := by decide +kernel
theorem d_l_law_476 : decode (ch_bc m_l_law) 476 = .ok (.invokevirtual 144, 3) := by decide +kernel
theorem d_l_law_479 : decode (ch_bc m_l_law) 479 = .ok (.istore 7, 2) := by decide +kernel
theorem d_l_law_481 : decode (ch_bc m_l_law) 481 = .ok (.aload_n 2, 1) := by decide +kernel
theorem d_l_law_482 : decode (ch_bc m_l_law) 482 = .ok (.invokevirtual 129, 3) := by decide +kernel
theorem d_l_law_485 : decode (ch_bc m_l_law) 485 = .ok (.iload 6, 2) := by decide +kernel
theorem d_l_law_487 : decode (ch_bc m_l_law) 487 = .ok (.if_icmp .eq 5, 3) := by decide +kernel
theorem d_l_law_490 : decode (ch_bc m_l_law) 490 = .ok (.iconst 0, 1) := by decide +kernel
theorem d_l_law_491 : decode (ch_bc m_l_law) 491 = .ok (.ireturn, 1) := by decide +kernel
theorem d_l_law_492 : decode (ch_bc m_l_law) 492 = .ok (.iload 6, 2) := by decide +kernel
theorem d_l_law_494 : decode (ch_bc m_l_law) 494 = .ok (.ifCond .ne 15, 3) := by decide +kernel
theorem d_l_law_497 : decode (ch_bc m_l_law) 497 = .ok (.aload_n 3, 1) := by decide +kernel
theorem d_l_law_498 : decode (ch_bc m_l_law) 498 = .ok (.iconst 0, 1) := by decide +kernel
theorem d_l_law_499 : decode (ch_bc m_l_law) 499 = .ok (.laload, 1) := by decide +kernel
theorem d_l_law_500 : decode (ch_bc m_l_law) 500 = .ok (.iload 7, 2) := by decide +kernel
theorem d_l_law_502 : decode (ch_bc m_l_law) 502 = .ok (.i2l, 1) := by decide +kernel
theorem d_l_law_503 : decode (ch_bc m_l_law) 503 = .ok (.lcmp, 1) := by decide +kernel
theorem d_l_law_504 : decode (ch_bc m_l_law) 504 = .ok (.ifCond .eq 5, 3) := by decide +kernel
theorem d_l_law_507 : decode (ch_bc m_l_law) 507 = .ok (.iconst 0, 1) := by decide +kernel
theorem d_l_law_508 : decode (ch_bc m_l_law) 508 = .ok (.ireturn, 1) := by decide +kernel
theorem d_l_law_509 : decode (ch_bc m_l_law) 509 = .ok (.goto 1587, 3) := by decide +kernel
theorem d_l_law_512 : decode (ch_bc m_l_law) 512 = .ok (.aload_n 1, 1) := by decide +kernel
theorem d_l_law_513 : decode (ch_bc m_l_law) 513 = .ok (.aload_n 0, 1) := by decide +kernel
theorem d_l_law_514 : decode (ch_bc m_l_law) 514 = .ok (.iload 5, 2) := by decide +kernel
theorem d_l_law_516 : decode (ch_bc m_l_law) 516 = .ok (.iconst 1, 1) := by decide +kernel
theorem d_l_law_517 : decode (ch_bc m_l_law) 517 = .ok (.iadd, 1) := by decide +kernel
theorem d_l_law_518 : decode (ch_bc m_l_law) 518 = .ok (.iaload, 1) := by decide +kernel
theorem d_l_law_519 : decode (ch_bc m_l_law) 519 = .ok (.aload_n 3, 1) := by decide +kernel
theorem d_l_law_520 : decode (ch_bc m_l_law) 520 = .ok (.invokestatic 145, 3) := by decide +kernel
theorem d_l_law_523 : decode (ch_bc m_l_law) 523 = .ok (.istore 6, 2) := by decide +kernel
theorem d_l_law_525 : decode (ch_bc m_l_law) 525 = .ok (.aload_n 2, 1) := by decide +kernel
theorem d_l_law_526 : decode (ch_bc m_l_law) 526 = .ok (.aload_n 0, 1) := by decide +kernel
theorem d_l_law_527 : decode (ch_bc m_l_law) 527 = .ok (.iload 5, 2) := by decide +kernel
theorem d_l_law_529 : decode (ch_bc m_l_law) 529 = .ok (.iconst 1, 1) := by decide +kernel
theorem d_l_law_530 : decode (ch_bc m_l_law) 530 = .ok (.iadd, 1) := by decide +kernel
theorem d_l_law_531 : decode (ch_bc m_l_law) 531 = .ok (.iaload, 1) := by decide +kernel
theorem d_l_law_532 : decode (ch_bc m_l_law) 532 = .ok (.invokevirtual 147, 3) := by decide +kernel
theorem d_l_law_535 : decode (ch_bc m_l_law) 535 = .ok (.istore 7, 2) := by decide +kernel
theorem d_l_law_537 : decode (ch_bc m_l_law) 537 = .ok (.aload_n 2, 1) := by decide +kernel
theorem d_l_law_538 : decode (ch_bc m_l_law) 538 = .ok (.invokevirtual 129, 3) := by decide +kernel
theorem d_l_law_541 : decode (ch_bc m_l_law) 541 = .ok (.iload 6, 2) := by decide +kernel
theorem d_l_law_543 : decode (ch_bc m_l_law) 543 = .ok (.if_icmp .eq 5, 3) := by decide +kernel
theorem d_l_law_546 : decode (ch_bc m_l_law) 546 = .ok (.iconst 0, 1) := by decide +kernel
theorem d_l_law_547 : decode (ch_bc m_l_law) 547 = .ok (.ireturn, 1) := by decide +kernel
theorem d_l_law_548 : decode (ch_bc m_l_law) 548 = .ok (.iload 6, 2) := by decide +kernel
theorem d_l_law_550 : decode (ch_bc m_l_law) 550 = .ok (.ifCond .ne 15, 3) := by decide +kernel
theorem d_l_law_553 : decode (ch_bc m_l_law) 553 = .ok (.aload_n 3, 1) := by decide +kernel
theorem d_l_law_554 : decode (ch_bc m_l_law) 554 = .ok (.iconst 0, 1) := by decide +kernel
theorem d_l_law_555 : decode (ch_bc m_l_law) 555 = .ok (.laload, 1) := by decide +kernel
theorem d_l_law_556 : decode (ch_bc m_l_law) 556 = .ok (.iload 7, 2) := by decide +kernel
theorem d_l_law_558 : decode (ch_bc m_l_law) 558 = .ok (.i2l, 1) := by decide +kernel
theorem d_l_law_559 : decode (ch_bc m_l_law) 559 = .ok (.lcmp, 1) := by decide +kernel
theorem d_l_law_560 : decode (ch_bc m_l_law) 560 = .ok (.ifCond .eq 5, 3) := by decide +kernel
theorem d_l_law_563 : decode (ch_bc m_l_law) 563 = .ok (.iconst 0, 1) := by decide +kernel
theorem d_l_law_564 : decode (ch_bc m_l_law) 564 = .ok (.ireturn, 1) := by decide +kernel
theorem d_l_law_565 : decode (ch_bc m_l_law) 565 = .ok (.goto 1531, 3) := by decide +kernel
theorem d_l_law_568 : decode (ch_bc m_l_law) 568 = .ok (.aload_n 1, 1) := by decide +kernel
theorem d_l_law_569 : decode (ch_bc m_l_law) 569 = .ok (.aload_n 3, 1) := by decide +kernel
theorem d_l_law_570 : decode (ch_bc m_l_law) 570 = .ok (.invokestatic 148, 3) := by decide +kernel
theorem d_l_law_573 : decode (ch_bc m_l_law) 573 = .ok (.istore 6, 2) := by decide +kernel
theorem d_l_law_575 : decode (ch_bc m_l_law) 575 = .ok (.aload_n 2, 1) := by decide +kernel
theorem d_l_law_576 : decode (ch_bc m_l_law) 576 = .ok (.invokevirtual 151, 3) := by decide +kernel
theorem d_l_law_579 : decode (ch_bc m_l_law) 579 = .ok (.istore 7, 2) := by decide +kernel
theorem d_l_law_581 : decode (ch_bc m_l_law) 581 = .ok (.aload_n 2, 1) := by decide +kernel
theorem d_l_law_582 : decode (ch_bc m_l_law) 582 = .ok (.invokevirtual 129, 3) := by decide +kernel
theorem d_l_law_585 : decode (ch_bc m_l_law) 585 = .ok (.iload 6, 2) := by decide +kernel
theorem d_l_law_587 : decode (ch_bc m_l_law) 587 = .ok (.if_icmp .eq 5, 3) := by decide +kernel
theorem d_l_law_590 : decode (ch_bc m_l_law) 590 = .ok (.iconst 0, 1) := by decide +kernel
theorem d_l_law_591 : decode (ch_bc m_l_law) 591 = .ok (.ireturn, 1) := by decide +kernel
theorem d_l_law_592 : decode (ch_bc m_l_law) 592 = .ok (.iload 6, 2) := by decide +kernel
theorem d_l_law_594 : decode (ch_bc m_l_law) 594 = .ok (.ifCond .ne 15, 3) := by decide +kernel
theorem d_l_law_597 : decode (ch_bc m_l_law) 597 = .ok (.aload_n 3, 1) := by decide +kernel
theorem d_l_law_598 : decode (ch_bc m_l_law) 598 = .ok (.iconst 0, 1) := by decide +kernel
theorem d_l_law_599 : decode (ch_bc m_l_law) 599 = .ok (.laload, 1) := by decide +kernel
theorem d_l_law_600 : decode (ch_bc m_l_law) 600 = .ok (.iload 7, 2) := by decide +kernel
theorem d_l_law_602 : decode (ch_bc m_l_law) 602 = .ok (.i2l, 1) := by decide +kernel
theorem d_l_law_603 : decode (ch_bc m_l_law) 603 = .ok (.lcmp, 1) := by decide +kernel
theorem d_l_law_604 : decode (ch_bc m_l_law) 604 = .ok (.ifCond .eq 5, 3) := by decide +kernel
theorem d_l_law_607 : decode (ch_bc m_l_law) 607 = .ok (.iconst 0, 1) := by decide +kernel
theorem d_l_law_608 : decode (ch_bc m_l_law) 608 = .ok (.ireturn, 1) := by decide +kernel
theorem d_l_law_609 : decode (ch_bc m_l_law) 609 = .ok (.goto 1487, 3) := by decide +kernel
theorem d_l_law_612 : decode (ch_bc m_l_law) 612 = .ok (.aload_n 1, 1) := by decide +kernel
theorem d_l_law_613 : decode (ch_bc m_l_law) 613 = .ok (.aload_n 0, 1) := by decide +kernel
theorem d_l_law_614 : decode (ch_bc m_l_law) 614 = .ok (.iload 5, 2) := by decide +kernel
theorem d_l_law_616 : decode (ch_bc m_l_law) 616 = .ok (.iconst 1, 1) := by decide +kernel
theorem d_l_law_617 : decode (ch_bc m_l_law) 617 = .ok (.iadd, 1) := by decide +kernel
theorem d_l_law_618 : decode (ch_bc m_l_law) 618 = .ok (.iaload, 1) := by decide +kernel
theorem d_l_law_619 : decode (ch_bc m_l_law) 619 = .ok (.aload_n 0, 1) := by decide +kernel
theorem d_l_law_620 : decode (ch_bc m_l_law) 620 = .ok (.iload 5, 2) := by decide +kernel
theorem d_l_law_622 : decode (ch_bc m_l_law) 622 = .ok (.iconst 2, 1) := by decide +kernel
theorem d_l_law_623 : decode (ch_bc m_l_law) 623 = .ok (.iadd, 1) := by decide +kernel
theorem d_l_law_624 : decode (ch_bc m_l_law) 624 = .ok (.iaload, 1) := by decide +kernel
theorem d_l_law_625 : decode (ch_bc m_l_law) 625 = .ok (.aload_n 0, 1) := by decide +kernel
theorem d_l_law_626 : decode (ch_bc m_l_law) 626 = .ok (.iload 5, 2) := by decide +kernel
theorem d_l_law_628 : decode (ch_bc m_l_law) 628 = .ok (.iconst 3, 1) := by decide +kernel
theorem d_l_law_629 : decode (ch_bc m_l_law) 629 = .ok (.iadd, 1) := by decide +kernel
theorem d_l_law_630 : decode (ch_bc m_l_law) 630 = .ok (.iaload, 1) := by decide +kernel
theorem d_l_law_631 : decode (ch_bc m_l_law) 631 = .ok (.aload_n 3, 1) := by decide +kernel
theorem d_l_law_632 : decode (ch_bc m_l_law) 632 = .ok (.invokestatic 152, 3) := by decide +kernel
theorem d_l_law_635 : decode (ch_bc m_l_law) 635 = .ok (.istore 6, 2) := by decide +kernel
theorem d_l_law_637 : decode (ch_bc m_l_law) 637 = .ok (.aload_n 2, 1) := by decide +kernel
theorem d_l_law_638 : decode (ch_bc m_l_law) 638 = .ok (.aload_n 0, 1) := by decide +kernel
theorem d_l_law_639 : decode (ch_bc m_l_law) 639 = .ok (.iload 5, 2) := by decide +kernel
theorem d_l_law_641 : decode (ch_bc m_l_law) 641 = .ok (.iconst 1, 1) := by decide +kernel
theorem d_l_law_642 : decode (ch_bc m_l_law) 642 = .ok (.iadd, 1) := by decide +kernel
theorem d_l_law_643 : decode (ch_bc m_l_law) 643 = .ok (.iaload, 1) := by decide +kernel
theorem d_l_law_644 : decode (ch_bc m_l_law) 644 = .ok (.aload_n 0, 1) := by decide +kernel
theorem d_l_law_645 : decode (ch_bc m_l_law) 645 = .ok (.iload 5, 2) := by decide +kernel
theorem d_l_law_647 : decode (ch_bc m_l_law) 647 = .ok (.iconst 2, 1) := by decide +kernel
theorem d_l_law_648 : decode (ch_bc m_l_law) 648 = .ok (.iadd, 1) := by decide +kernel
theorem d_l_law_649 : decode (ch_bc m_l_law) 649 = .ok (.iaload, 1) := by decide +kernel
theorem d_l_law_650 : decode (ch_bc m_l_law) 650 = .ok (.aload_n 0, 1) := by decide +kernel
theorem d_l_law_651 : decode (ch_bc m_l_law) 651 = .ok (.iload 5, 2) := by decide +kernel
theorem d_l_law_653 : decode (ch_bc m_l_law) 653 = .ok (.iconst 3, 1) := by decide +kernel
theorem d_l_law_654 : decode (ch_bc m_l_law) 654 = .ok (.iadd, 1) := by decide +kernel
theorem d_l_law_655 : decode (ch_bc m_l_law) 655 = .ok (.iaload, 1) := by decide +kernel
theorem d_l_law_656 : decode (ch_bc m_l_law) 656 = .ok (.invokevirtual 155, 3) := by decide +kernel
theorem d_l_law_659 : decode (ch_bc m_l_law) 659 = .ok (.istore 7, 2) := by decide +kernel
theorem d_l_law_661 : decode (ch_bc m_l_law) 661 = .ok (.aload_n 2, 1) := by decide +kernel
theorem d_l_law_662 : decode (ch_bc m_l_law) 662 = .ok (.invokevirtual 129, 3) := by decide +kernel
theorem d_l_law_665 : decode (ch_bc m_l_law) 665 = .ok (.iload 6, 2) := by decide +kernel
theorem d_l_law_667 : decode (ch_bc m_l_law) 667 = .ok (.if_icmp .eq 5, 3) := by decide +kernel
theorem d_l_law_670 : decode (ch_bc m_l_law) 670 = .ok (.iconst 0, 1) := by decide +kernel
theorem d_l_law_671 : decode (ch_bc m_l_law) 671 = .ok (.ireturn, 1) := by decide +kernel
theorem d_l_law_672 : decode (ch_bc m_l_law) 672 = .ok (.iload 6, 2) := by decide +kernel
theorem d_l_law_674 : decode (ch_bc m_l_law) 674 = .ok (.ifCond .ne 15, 3) := by decide +kernel
theorem d_l_law_677 : decode (ch_bc m_l_law) 677 = .ok (.aload_n 3, 1) := by decide +kernel
theorem d_l_law_678 : decode (ch_bc m_l_law) 678 = .ok (.iconst 0, 1) := by decide +kernel
theorem d_l_law_679 : decode (ch_bc m_l_law) 679 = .ok (.laload, 1) := by decide +kernel
theorem d_l_law_680 : decode (ch_bc m_l_law) 680 = .ok (.iload 7, 2) := by decide +kernel
theorem d_l_law_682 : decode (ch_bc m_l_law) 682 = .ok (.i2l, 1) := by decide +kernel
theorem d_l_law_683 : decode (ch_bc m_l_law) 683 = .ok (.lcmp, 1) := by decide +kernel
theorem d_l_law_684 : decode (ch_bc m_l_law) 684 = .ok (.ifCond .eq 5, 3) := by decide +kernel
theorem d_l_law_687 : decode (ch_bc m_l_law) 687 = .ok (.iconst 0, 1) := by decide +kernel
theorem d_l_law_688 : decode (ch_bc m_l_law) 688 = .ok (.ireturn, 1) := by decide +kernel
theorem d_l_law_689 : decode (ch_bc m_l_law) 689 = .ok (.goto 1407, 3) := by decide +kernel
theorem d_l_law_692 : decode (ch_bc m_l_law) 692 = .ok (.aload_n 1, 1) := by decide +kernel
theorem d_l_law_693 : decode (ch_bc m_l_law) 693 = .ok (.aload_n 0, 1) := by decide +kernel
theorem d_l_law_694 : decode (ch_bc m_l_law) 694 = .ok (.iload 5, 2) := by decide +kernel
theorem d_l_law_696 : decode (ch_bc m_l_law) 696 = .ok (.iconst 1, 1) := by decide +kernel
theorem d_l_law_697 : decode (ch_bc m_l_law) 697 = .ok (.iadd, 1) := by decide +kernel
theorem d_l_law_698 : decode (ch_bc m_l_law) 698 = .ok (.iaload, 1) := by decide +kernel
theorem d_l_law_699 : decode (ch_bc m_l_law) 699 = .ok (.aload_n 0, 1) := by decide +kernel
theorem d_l_law_700 : decode (ch_bc m_l_law) 700 = .ok (.iload 5, 2) := by decide +kernel
theorem d_l_law_702 : decode (ch_bc m_l_law) 702 = .ok (.iconst 2, 1) := by decide +kernel
theorem d_l_law_703 : decode (ch_bc m_l_law) 703 = .ok (.iadd, 1) := by decide +kernel
theorem d_l_law_704 : decode (ch_bc m_l_law) 704 = .ok (.iaload, 1) := by decide +kernel
theorem d_l_law_705 : decode (ch_bc m_l_law) 705 = .ok (.ifCond .eq 7, 3) := by decide +kernel
theorem d_l_law_708 : decode (ch_bc m_l_law) 708 = .ok (.iconst 1, 1) := by decide +kernel
theorem d_l_law_709 : decode (ch_bc m_l_law) 709 = .ok (.goto 4, 3) := by decide +kernel
theorem d_l_law_712 : decode (ch_bc m_l_law) 712 = .ok (.iconst 0, 1) := by decide +kernel
theorem d_l_law_713 : decode (ch_bc m_l_law) 713 = .ok (.aload_n 3, 1) := by decide +kernel
theorem d_l_law_714 : decode (ch_bc m_l_law) 714 = .ok (.invokestatic 156, 3) := by decide +kernel
theorem d_l_law_717 : decode (ch_bc m_l_law) 717 = .ok (.istore 6, 2) := by decide +kernel
theorem d_l_law_719 : decode (ch_bc m_l_law) 719 = .ok (.aload_n 2, 1) := by decide +kernel
theorem d_l_law_720 : decode (ch_bc m_l_law) 720 = .ok (.aload_n 0, 1) := by decide +kernel
theorem d_l_law_721 : decode (ch_bc m_l_law) 721 = .ok (.iload 5, 2) := by decide +kernel
theorem d_l_law_723 : decode (ch_bc m_l_law) 723 = .ok (.iconst 1, 1) := by decide +kernel
theorem d_l_law_724 : decode (ch_bc m_l_law) 724 = .ok (.iadd, 1) := by decide +kernel
theorem d_l_law_725 : decode (ch_bc m_l_law) 725 = .ok (.iaload, 1) := by decide +kernel
theorem d_l_law_726 : decode (ch_bc m_l_law) 726 = .ok (.aload_n 0, 1) := by decide +kernel
theorem d_l_law_727 : decode (ch_bc m_l_law) 727 = .ok (.iload 5, 2) := by decide +kernel
theorem d_l_law_729 : decode (ch_bc m_l_law) 729 = .ok (.iconst 2, 1) := by decide +kernel
theorem d_l_law_730 : decode (ch_bc m_l_law) 730 = .ok (.iadd, 1) := by decide +kernel
theorem d_l_law_731 : decode (ch_bc m_l_law) 731 = .ok (.iaload, 1) := by decide +kernel
theorem d_l_law_732 : decode (ch_bc m_l_law) 732 = .ok (.ifCond .eq 7, 3) := by decide +kernel
theorem d_l_law_735 : decode (ch_bc m_l_law) 735 = .ok (.iconst 1, 1) := by decide +kernel
theorem d_l_law_736 : decode (ch_bc m_l_law) 736 = .ok (.goto 4, 3) := by decide +kernel
theorem d_l_law_739 : decode (ch_bc m_l_law) 739 = .ok (.iconst 0, 1) := by decide +kernel
theorem d_l_law_740 : decode (ch_bc m_l_law) 740 = .ok (.invokevirtual 159, 3) := by decide +kernel
theorem d_l_law_743 : decode (ch_bc m_l_law) 743 = .ok (.istore 7, 2) := by decide +kernel
theorem d_l_law_745 : decode (ch_bc m_l_law) 745 = .ok (.aload_n 2, 1) := by decide +kernel
theorem d_l_law_746 : decode (ch_bc m_l_law) 746 = .ok (.invokevirtual 129, 3) := by decide +kernel
theorem d_l_law_749 : decode (ch_bc m_l_law) 749 = .ok (.iload 6, 2) := by decide +kernel
theorem d_l_law_751 : decode (ch_bc m_l_law) 751 = .ok (.if_icmp .eq 5, 3) := by decide +kernel
theorem d_l_law_754 : decode (ch_bc m_l_law) 754 = .ok (.iconst 0, 1) := by decide +kernel
theorem d_l_law_755 : decode (ch_bc m_l_law) 755 = .ok (.ireturn, 1) := by decide +kernel
theorem d_l_law_756 : decode (ch_bc m_l_law) 756 = .ok (.iload 6, 2) := by decide +kernel
theorem d_l_law_758 : decode (ch_bc m_l_law) 758 = .ok (.ifCond .ne 15, 3) := by decide +kernel
theorem d_l_law_761 : decode (ch_bc m_l_law) 761 = .ok (.aload_n 3, 1) := by decide +kernel
theorem d_l_law_762 : decode (ch_bc m_l_law) 762 = .ok (.iconst 0, 1) := by decide +kernel
theorem d_l_law_763 : decode (ch_bc m_l_law) 763 = .ok (.laload, 1) := by decide +kernel
theorem d_l_law_764 : decode (ch_bc m_l_law) 764 = .ok (.iload 7, 2) := by decide +kernel
theorem d_l_law_766 : decode (ch_bc m_l_law) 766 = .ok (.i2l, 1) := by decide +kernel
theorem d_l_law_767 : decode (ch_bc m_l_law) 767 = .ok (.lcmp, 1) := by decide +kernel
theorem d_l_law_768 : decode (ch_bc m_l_law) 768 = .ok (.ifCond .eq 5, 3) := by decide +kernel
theorem d_l_law_771 : decode (ch_bc m_l_law) 771 = .ok (.iconst 0, 1) := by decide +kernel
theorem d_l_law_772 : decode (ch_bc m_l_law) 772 = .ok (.ireturn, 1) := by decide +kernel
theorem d_l_law_773 : decode (ch_bc m_l_law) 773 = .ok (.goto 1323, 3) := by decide +kernel
theorem d_l_law_776 : decode (ch_bc m_l_law) 776 = .ok (.aload_n 1, 1) := by decide +kernel
theorem d_l_law_777 : decode (ch_bc m_l_law) 777 = .ok (.aload_n 0, 1) := by decide +kernel
theorem d_l_law_778 : decode (ch_bc m_l_law) 778 = .ok (.iload 5, 2) := by decide +kernel
theorem d_l_law_780 : decode (ch_bc m_l_law) 780 = .ok (.iconst 1, 1) := by decide +kernel
theorem d_l_law_781 : decode (ch_bc m_l_law) 781 = .ok (.iadd, 1) := by decide +kernel
theorem d_l_law_782 : decode (ch_bc m_l_law) 782 = .ok (.iaload, 1) := by decide +kernel
theorem d_l_law_783 : decode (ch_bc m_l_law) 783 = .ok (.aload_n 0, 1) := by decide +kernel
theorem d_l_law_784 : decode (ch_bc m_l_law) 784 = .ok (.iload 5, 2) := by decide +kernel
theorem d_l_law_786 : decode (ch_bc m_l_law) 786 = .ok (.iconst 2, 1) := by decide +kernel
theorem d_l_law_787 : decode (ch_bc m_l_law) 787 = .ok (.iadd, 1) := by decide +kernel
theorem d_l_law_788 : decode (ch_bc m_l_law) 788 = .ok (.iaload, 1) := by decide +kernel
theorem d_l_law_789 : decode (ch_bc m_l_law) 789 = .ok (.aload_n 3, 1) := by decide +kernel
theorem d_l_law_790 : decode (ch_bc m_l_law) 790 = .ok (.invokestatic 160, 3) := by decide +kernel
theorem d_l_law_793 : decode (ch_bc m_l_law) 793 = .ok (.istore 6, 2) := by decide +kernel
theorem d_l_law_795 : decode (ch_bc m_l_law) 795 = .ok (.aload_n 2, 1) := by decide +kernel
theorem d_l_law_796 : decode (ch_bc m_l_law) 796 = .ok (.aload_n 0, 1) := by decide +kernel
theorem d_l_law_797 : decode (ch_bc m_l_law) 797 = .ok (.iload 5, 2) := by decide +kernel
theorem d_l_law_799 : decode (ch_bc m_l_law) 799 = .ok (.iconst 1, 1) := by decide +kernel
theorem d_l_law_800 : decode (ch_bc m_l_law) 800 = .ok (.iadd, 1) := by decide +kernel
theorem d_l_law_801 : decode (ch_bc m_l_law) 801 = .ok (.iaload, 1) := by decide +kernel
theorem d_l_law_802 : decode (ch_bc m_l_law) 802 = .ok (.aload_n 0, 1) := by decide +kernel
theorem d_l_law_803 : decode (ch_bc m_l_law) 803 = .ok (.iload 5, 2) := by decide +kernel
theorem d_l_law_805 : decode (ch_bc m_l_law) 805 = .ok (.iconst 2, 1) := by decide +kernel
theorem d_l_law_806 : decode (ch_bc m_l_law) 806 = .ok (.iadd, 1) := by decide +kernel
theorem d_l_law_807 : decode (ch_bc m_l_law) 807 = .ok (.iaload, 1) := by decide +kernel
theorem d_l_law_808 : decode (ch_bc m_l_law) 808 = .ok (.invokevirtual 162, 3) := by decide +kernel
theorem d_l_law_811 : decode (ch_bc m_l_law) 811 = .ok (.istore 7, 2) := by decide +kernel
theorem d_l_law_813 : decode (ch_bc m_l_law) 813 = .ok (.aload_n 2, 1) := by decide +kernel
theorem d_l_law_814 : decode (ch_bc m_l_law) 814 = .ok (.invokevirtual 129, 3) := by decide +kernel
theorem d_l_law_817 : decode (ch_bc m_l_law) 817 = .ok (.iload 6, 2) := by decide +kernel
theorem d_l_law_819 : decode (ch_bc m_l_law) 819 = .ok (.if_icmp .eq 5, 3) := by decide +kernel
theorem d_l_law_822 : decode (ch_bc m_l_law) 822 = .ok (.iconst 0, 1) := by decide +kernel
theorem d_l_law_823 : decode (ch_bc m_l_law) 823 = .ok (.ireturn, 1) := by decide +kernel
theorem d_l_law_824 : decode (ch_bc m_l_law) 824 = .ok (.iload 6, 2) := by decide +kernel
theorem d_l_law_826 : decode (ch_bc m_l_law) 826 = .ok (.ifCond .ne 15, 3) := by decide +kernel
theorem d_l_law_829 : decode (ch_bc m_l_law) 829 = .ok (.aload_n 3, 1) := by decide +kernel
theorem d_l_law_830 : decode (ch_bc m_l_law) 830 = .ok (.iconst 0, 1) := by decide +kernel
theorem d_l_law_831 : decode (ch_bc m_l_law) 831 = .ok (.laload, 1) := by decide +kernel
theorem d_l_law_832 : decode (ch_bc m_l_law) 832 = .ok (.iload 7, 2) := by decide +kernel
theorem d_l_law_834 : decode (ch_bc m_l_law) 834 = .ok (.i2l, 1) := by decide +kernel
theorem d_l_law_835 : decode (ch_bc m_l_law) 835 = .ok (.lcmp, 1) := by decide +kernel
theorem d_l_law_836 : decode (ch_bc m_l_law) 836 = .ok (.ifCond .eq 5, 3) := by decide +kernel
theorem d_l_law_839 : decode (ch_bc m_l_law) 839 = .ok (.iconst 0, 1) := by decide +kernel
theorem d_l_law_840 : decode (ch_bc m_l_law) 840 = .ok (.ireturn, 1) := by decide +kernel
theorem d_l_law_841 : decode (ch_bc m_l_law) 841 = .ok (.goto 1255, 3) := by decide +kernel
theorem d_l_law_844 : decode (ch_bc m_l_law) 844 = .ok (.aload_n 1, 1) := by decide +kernel
theorem d_l_law_845 : decode (ch_bc m_l_law) 845 = .ok (.aload_n 0, 1) := by decide +kernel
theorem d_l_law_846 : decode (ch_bc m_l_law) 846 = .ok (.iload 5, 2) := by decide +kernel
theorem d_l_law_848 : decode (ch_bc m_l_law) 848 = .ok (.iconst 1, 1) := by decide +kernel
theorem d_l_law_849 : decode (ch_bc m_l_law) 849 = .ok (.iadd, 1) := by decide +kernel
theorem d_l_law_850 : decode (ch_bc m_l_law) 850 = .ok (.iaload, 1) := by decide +kernel
theorem d_l_law_851 : decode (ch_bc m_l_law) 851 = .ok (.aload_n 3, 1) := by decide +kernel
theorem d_l_law_852 : decode (ch_bc m_l_law) 852 = .ok (.invokestatic 163, 3) := by decide +kernel
theorem d_l_law_855 : decode (ch_bc m_l_law) 855 = .ok (.istore 6, 2) := by decide +kernel
theorem d_l_law_857 : decode (ch_bc m_l_law) 857 = .ok (.aload_n 2, 1) := by decide +kernel
theorem d_l_law_858 : decode (ch_bc m_l_law) 858 = .ok (.aload_n 0, 1) := by decide +kernel
theorem d_l_law_859 : decode (ch_bc m_l_law) 859 = .ok (.iload 5, 2) := by decide +kernel
theorem d_l_law_861 : decode (ch_bc m_l_law) 861 = .ok (.iconst 1, 1) := by decide +kernel
theorem d_l_law_862 : decode (ch_bc m_l_law) 862 = .ok (.iadd, 1) := by decide +kernel
theorem d_l_law_863 : decode (ch_bc m_l_law) 863 = .ok (.iaload, 1) := by decide +kernel
theorem d_l_law_864 : decode (ch_bc m_l_law) 864 = .ok (.invokevirtual 165, 3) := by decide +kernel
theorem d_l_law_867 : decode (ch_bc m_l_law) 867 = .ok (.istore 7, 2) := by decide +kernel
theorem d_l_law_869 : decode (ch_bc m_l_law) 869 = .ok (.aload_n 2, 1) := by decide +kernel
theorem d_l_law_870 : decode (ch_bc m_l_law) 870 = .ok (.invokevirtual 129, 3) := by decide +kernel
theorem d_l_law_873 : decode (ch_bc m_l_law) 873 = .ok (.iload 6, 2) := by decide +kernel
theorem d_l_law_875 : decode (ch_bc m_l_law) 875 = .ok (.if_icmp .eq 5, 3) := by decide +kernel
theorem d_l_law_878 : decode (ch_bc m_l_law) 878 = .ok (.iconst 0, 1) := by decide +kernel
theorem d_l_law_879 : decode (ch_bc m_l_law) 879 = .ok (.ireturn, 1) := by decide +kernel
theorem d_l_law_880 : decode (ch_bc m_l_law) 880 = .ok (.iload 6, 2) := by decide +kernel
theorem d_l_law_882 : decode (ch_bc m_l_law) 882 = .ok (.ifCond .ne 15, 3) := by decide +kernel
theorem d_l_law_885 : decode (ch_bc m_l_law) 885 = .ok (.aload_n 3, 1) := by decide +kernel
theorem d_l_law_886 : decode (ch_bc m_l_law) 886 = .ok (.iconst 0, 1) := by decide +kernel
theorem d_l_law_887 : decode (ch_bc m_l_law) 887 = .ok (.laload, 1) := by decide +kernel
theorem d_l_law_888 : decode (ch_bc m_l_law) 888 = .ok (.iload 7, 2) := by decide +kernel
theorem d_l_law_890 : decode (ch_bc m_l_law) 890 = .ok (.i2l, 1) := by decide +kernel
theorem d_l_law_891 : decode (ch_bc m_l_law) 891 = .ok (.lcmp, 1) := by decide +kernel
theorem d_l_law_892 : decode (ch_bc m_l_law) 892 = .ok (.ifCond .eq 5, 3) := by decide +kernel
theorem d_l_law_895 : decode (ch_bc m_l_law) 895 = .ok (.iconst 0, 1) := by decide +kernel
theorem d_l_law_896 : decode (ch_bc m_l_law) 896 = .ok (.ireturn, 1) := by decide +kernel
theorem d_l_law_897 : decode (ch_bc m_l_law) 897 = .ok (.goto 1199, 3) := by decide +kernel
theorem d_l_law_900 : decode (ch_bc m_l_law) 900 = .ok (.aload_n 1, 1) := by decide +kernel
theorem d_l_law_901 : decode (ch_bc m_l_law) 901 = .ok (.aload_n 0, 1) := by decide +kernel
theorem d_l_law_902 : decode (ch_bc m_l_law) 902 = .ok (.iload 5, 2) := by decide +kernel
theorem d_l_law_904 : decode (ch_bc m_l_law) 904 = .ok (.iconst 1, 1) := by decide +kernel
theorem d_l_law_905 : decode (ch_bc m_l_law) 905 = .ok (.iadd, 1) := by decide +kernel
theorem d_l_law_906 : decode (ch_bc m_l_law) 906 = .ok (.iaload, 1) := by decide +kernel
theorem d_l_law_907 : decode (ch_bc m_l_law) 907 = .ok (.aload_n 3, 1) := by decide +kernel
theorem d_l_law_908 : decode (ch_bc m_l_law) 908 = .ok (.invokestatic 166, 3) := by decide +kernel
theorem d_l_law_911 : decode (ch_bc m_l_law) 911 = .ok (.istore 6, 2) := by decide +kernel
theorem d_l_law_913 : decode (ch_bc m_l_law) 913 = .ok (.aload_n 2, 1) := by decide +kernel
theorem d_l_law_914 : decode (ch_bc m_l_law) 914 = .ok (.aload_n 0, 1) := by decide +kernel
theorem d_l_law_915 : decode (ch_bc m_l_law) 915 = .ok (.iload 5, 2) := by decide +kernel
theorem d_l_law_917 : decode (ch_bc m_l_law) 917 = .ok (.iconst 1, 1) := by decide +kernel
theorem d_l_law_918 : decode (ch_bc m_l_law) 918 = .ok (.iadd, 1) := by decide +kernel
theorem d_l_law_919 : decode (ch_bc m_l_law) 919 = .ok (.iaload, 1) := by decide +kernel
theorem d_l_law_920 : decode (ch_bc m_l_law) 920 = .ok (.invokevirtual 168, 3) := by decide +kernel
theorem d_l_law_923 : decode (ch_bc m_l_law) 923 = .ok (.istore 7, 2) := by decide +kernel
theorem d_l_law_925 : decode (ch_bc m_l_law) 925 = .ok (.aload_n 2, 1) := by decide +kernel
theorem d_l_law_926 : decode (ch_bc m_l_law) 926 = .ok (.invokevirtual 129, 3) := by decide +kernel
theorem d_l_law_929 : decode (ch_bc m_l_law) 929 = .ok (.iload 6, 2) := by decide +kernel
theorem d_l_law_931 : decode (ch_bc m_l_law) 931 = .ok (.if_icmp .eq 5, 3) := by decide +kernel
theorem d_l_law_934 : decode (ch_bc m_l_law) 934 = .ok (.iconst 0, 1) := by decide +kernel
theorem d_l_law_935 : decode (ch_bc m_l_law) 935 = .ok (.ireturn, 1) := by decide +kernel
theorem d_l_law_936 : decode (ch_bc m_l_law) 936 = .ok (.iload 6, 2) := by decide +kernel
theorem d_l_law_938 : decode (ch_bc m_l_law) 938 = .ok (.ifCond .ne 15, 3) := by decide +kernel
theorem d_l_law_941 : decode (ch_bc m_l_law) 941 = .ok (.aload_n 3, 1) := by decide +kernel
theorem d_l_law_942 : decode (ch_bc m_l_law) 942 = .ok (.iconst 0, 1) := by decide +kernel
theorem d_l_law_943 : decode (ch_bc m_l_law) 943 = .ok (.laload, 1) := by decide +kernel
theorem d_l_law_944 : decode (ch_bc m_l_law) 944 = .ok (.iload 7, 2) := by decide +kernel
theorem d_l_law_946 : decode (ch_bc m_l_law) 946 = .ok (.i2l, 1) := by decide +kernel
theorem d_l_law_947 : decode (ch_bc m_l_law) 947 = .ok (.lcmp, 1) := by decide +kernel
theorem d_l_law_948 : decode (ch_bc m_l_law) 948 = .ok (.ifCond .eq 5, 3) := by decide +kernel
theorem d_l_law_951 : decode (ch_bc m_l_law) 951 = .ok (.iconst 0, 1) := by decide +kernel
theorem d_l_law_952 : decode (ch_bc m_l_law) 952 = .ok (.ireturn, 1) := by decide +kernel
theorem d_l_law_953 : decode (ch_bc m_l_law) 953 = .ok (.goto 1143, 3) := by decide +kernel
theorem d_l_law_956 : decode (ch_bc m_l_law) 956 = .ok (.aload_n 1, 1) := by decide +kernel
theorem d_l_law_957 : decode (ch_bc m_l_law) 957 = .ok (.aload_n 0, 1) := by decide +kernel
theorem d_l_law_958 : decode (ch_bc m_l_law) 958 = .ok (.iload 5, 2) := by decide +kernel
theorem d_l_law_960 : decode (ch_bc m_l_law) 960 = .ok (.iconst 1, 1) := by decide +kernel
theorem d_l_law_961 : decode (ch_bc m_l_law) 961 = .ok (.iadd, 1) := by decide +kernel
theorem d_l_law_962 : decode (ch_bc m_l_law) 962 = .ok (.iaload, 1) := by decide +kernel
theorem d_l_law_963 : decode (ch_bc m_l_law) 963 = .ok (.aload_n 3, 1) := by decide +kernel
theorem d_l_law_964 : decode (ch_bc m_l_law) 964 = .ok (.invokestatic 169, 3) := by decide +kernel
theorem d_l_law_967 : decode (ch_bc m_l_law) 967 = .ok (.istore 6, 2) := by decide +kernel
theorem d_l_law_969 : decode (ch_bc m_l_law) 969 = .ok (.aload_n 2, 1) := by decide +kernel
theorem d_l_law_970 : decode (ch_bc m_l_law) 970 = .ok (.aload_n 0, 1) := by decide +kernel
theorem d_l_law_971 : decode (ch_bc m_l_law) 971 = .ok (.iload 5, 2) := by decide +kernel
theorem d_l_law_973 : decode (ch_bc m_l_law) 973 = .ok (.iconst 1, 1) := by decide +kernel
theorem d_l_law_974 : decode (ch_bc m_l_law) 974 = .ok (.iadd, 1) := by decide +kernel
theorem d_l_law_975 : decode (ch_bc m_l_law) 975 = .ok (.iaload, 1) := by decide +kernel
theorem d_l_law_976 : decode (ch_bc m_l_law) 976 = .ok (.invokevirtual 171, 3) := by decide +kernel
theorem d_l_law_979 : decode (ch_bc m_l_law) 979 = .ok (.istore 7, 2) := by decide +kernel
theorem d_l_law_981 : decode (ch_bc m_l_law) 981 = .ok (.aload_n 2, 1) := by decide +kernel
theorem d_l_law_982 : decode (ch_bc m_l_law) 982 = .ok (.invokevirtual 129, 3) := by decide +kernel
theorem d_l_law_985 : decode (ch_bc m_l_law) 985 = .ok (.iload 6, 2) := by decide +kernel
theorem d_l_law_987 : decode (ch_bc m_l_law) 987 = .ok (.if_icmp .eq 5, 3) := by decide +kernel
theorem d_l_law_990 : decode (ch_bc m_l_law) 990 = .ok (.iconst 0, 1) := by decide +kernel
theorem d_l_law_991 : decode (ch_bc m_l_law) 991 = .ok (.ireturn, 1) := by decide +kernel
theorem d_l_law_992 : decode (ch_bc m_l_law) 992 = .ok (.iload 6, 2) := by decide +kernel
theorem d_l_law_994 : decode (ch_bc m_l_law) 994 = .ok (.ifCond .ne 15, 3) := by decide +kernel
theorem d_l_law_997 : decode (ch_bc m_l_law) 997 = .ok (.aload_n 3, 1) := by decide +kernel
theorem d_l_law_998 : decode (ch_bc m_l_law) 998 = .ok (.iconst 0, 1) := by decide +kernel
theorem d_l_law_999 : decode (ch_bc m_l_law) 999 = .ok (.laload, 1) := by decide +kernel
theorem d_l_law_1000 : decode (ch_bc m_l_law) 1000 = .ok (.iload 7, 2) := by decide +kernel
theorem d_l_law_1002 : decode (ch_bc m_l_law) 1002 = .ok (.i2l, 1) := by decide +kernel
theorem d_l_law_1003 : decode (ch_bc m_l_law) 1003 = .ok (.lcmp, 1) := by decide +kernel
theorem d_l_law_1004 : decode (ch_bc m_l_law) 1004 = .ok (.ifCond .eq 5, 3) := by decide +kernel
theorem d_l_law_1007 : decode (ch_bc m_l_law) 1007 = .ok (.iconst 0, 1) := by decide +kernel
theorem d_l_law_1008 : decode (ch_bc m_l_law) 1008 = .ok (.ireturn, 1) := by decide +kernel
theorem d_l_law_1009 : decode (ch_bc m_l_law) 1009 = .ok (.goto 1087, 3) := by decide +kernel
theorem d_l_law_1012 : decode (ch_bc m_l_law) 1012 = .ok (.aload_n 1, 1) := by decide +kernel
theorem d_l_law_1013 : decode (ch_bc m_l_law) 1013 = .ok (.aload_n 0, 1) := by decide +kernel
theorem d_l_law_1014 : decode (ch_bc m_l_law) 1014 = .ok (.iload 5, 2) := by decide +kernel
theorem d_l_law_1016 : decode (ch_bc m_l_law) 1016 = .ok (.iconst 1, 1) := by decide +kernel
theorem d_l_law_1017 : decode (ch_bc m_l_law) 1017 = .ok (.iadd, 1) := by decide +kernel
theorem d_l_law_1018 : decode (ch_bc m_l_law) 1018 = .ok (.iaload, 1) := by decide +kernel
theorem d_l_law_1019 : decode (ch_bc m_l_law) 1019 = .ok (.aload_n 3, 1) := by decide +kernel
theorem d_l_law_1020 : decode (ch_bc m_l_law) 1020 = .ok (.invokestatic 172, 3) := by decide +kernel
theorem d_l_law_1023 : decode (ch_bc m_l_law) 1023 = .ok (.istore 6, 2) := by decide +kernel
theorem d_l_law_1025 : decode (ch_bc m_l_law) 1025 = .ok (.aload_n 2, 1) := by decide +kernel
theorem d_l_law_1026 : decode (ch_bc m_l_law) 1026 = .ok (.aload_n 0, 1) := by decide +kernel
theorem d_l_law_1027 : decode (ch_bc m_l_law) 1027 = .ok (.iload 5, 2) := by decide +kernel
theorem d_l_law_1029 : decode (ch_bc m_l_law) 1029 = .ok (.iconst 1, 1) := by decide +kernel
theorem d_l_law_1030 : decode (ch_bc m_l_law) 1030 = .ok (.iadd, 1) := by decide +kernel
theorem d_l_law_1031 : decode (ch_bc m_l_law) 1031 = .ok (.iaload, 1) := by decide +kernel
theorem d_l_law_1032 : decode (ch_bc m_l_law) 1032 = .ok (.invokevirtual 174, 3) := by decide +kernel
theorem d_l_law_1035 : decode (ch_bc m_l_law) 1035 = .ok (.istore 7, 2) := by decide +kernel
theorem d_l_law_1037 : decode (ch_bc m_l_law) 1037 = .ok (.aload_n 2, 1) := by decide +kernel
theorem d_l_law_1038 : decode (ch_bc m_l_law) 1038 = .ok (.invokevirtual 129, 3) := by decide +kernel
theorem d_l_law_1041 : decode (ch_bc m_l_law) 1041 = .ok (.iload 6, 2) := by decide +kernel
theorem d_l_law_1043 : decode (ch_bc m_l_law) 1043 = .ok (.if_icmp .eq 5, 3) := by decide +kernel
theorem d_l_law_1046 : decode (ch_bc m_l_law) 1046 = .ok (.iconst 0, 1) := by decide +kernel
theorem d_l_law_1047 : decode (ch_bc m_l_law) 1047 = .ok (.ireturn, 1) := by decide +kernel
theorem d_l_law_1048 : decode (ch_bc m_l_law) 1048 = .ok (.iload 6, 2) := by decide +kernel
theorem d_l_law_1050 : decode (ch_bc m_l_law) 1050 = .ok (.ifCond .ne 15, 3) := by decide +kernel
theorem d_l_law_1053 : decode (ch_bc m_l_law) 1053 = .ok (.aload_n 3, 1) := by decide +kernel
theorem d_l_law_1054 : decode (ch_bc m_l_law) 1054 = .ok (.iconst 0, 1) := by decide +kernel
theorem d_l_law_1055 : decode (ch_bc m_l_law) 1055 = .ok (.laload, 1) := by decide +kernel
theorem d_l_law_1056 : decode (ch_bc m_l_law) 1056 = .ok (.iload 7, 2) := by decide +kernel
theorem d_l_law_1058 : decode (ch_bc m_l_law) 1058 = .ok (.i2l, 1) := by decide +kernel
theorem d_l_law_1059 : decode (ch_bc m_l_law) 1059 = .ok (.lcmp, 1) := by decide +kernel
theorem d_l_law_1060 : decode (ch_bc m_l_law) 1060 = .ok (.ifCond .eq 5, 3) := by decide +kernel
theorem d_l_law_1063 : decode (ch_bc m_l_law) 1063 = .ok (.iconst 0, 1) := by decide +kernel
theorem d_l_law_1064 : decode (ch_bc m_l_law) 1064 = .ok (.ireturn, 1) := by decide +kernel
theorem d_l_law_1065 : decode (ch_bc m_l_law) 1065 = .ok (.goto 1031, 3) := by decide +kernel
theorem d_l_law_1068 : decode (ch_bc m_l_law) 1068 = .ok (.aload_n 1, 1) := by decide +kernel
theorem d_l_law_1069 : decode (ch_bc m_l_law) 1069 = .ok (.aload_n 0, 1) := by decide +kernel
theorem d_l_law_1070 : decode (ch_bc m_l_law) 1070 = .ok (.iload 5, 2) := by decide +kernel
theorem d_l_law_1072 : decode (ch_bc m_l_law) 1072 = .ok (.iconst 1, 1) := by decide +kernel
theorem d_l_law_1073 : decode (ch_bc m_l_law) 1073 = .ok (.iadd, 1) := by decide +kernel
theorem d_l_law_1074 : decode (ch_bc m_l_law) 1074 = .ok (.iaload, 1) := by decide +kernel
theorem d_l_law_1075 : decode (ch_bc m_l_law) 1075 = .ok (.aload_n 0, 1) := by decide +kernel
theorem d_l_law_1076 : decode (ch_bc m_l_law) 1076 = .ok (.iload 5, 2) := by decide +kernel
theorem d_l_law_1078 : decode (ch_bc m_l_law) 1078 = .ok (.iconst 2, 1) := by decide +kernel
theorem d_l_law_1079 : decode (ch_bc m_l_law) 1079 = .ok (.iadd, 1) := by decide +kernel
theorem d_l_law_1080 : decode (ch_bc m_l_law) 1080 = .ok (.iaload, 1) := by decide +kernel
theorem d_l_law_1081 : decode (ch_bc m_l_law) 1081 = .ok (.aload_n 3, 1) := by decide +kernel
theorem d_l_law_1082 : decode (ch_bc m_l_law) 1082 = .ok (.invokestatic 175, 3) := by decide +kernel
theorem d_l_law_1085 : decode (ch_bc m_l_law) 1085 = .ok (.istore 6, 2) := by decide +kernel
theorem d_l_law_1087 : decode (ch_bc m_l_law) 1087 = .ok (.aload_n 2, 1) := by decide +kernel
theorem d_l_law_1088 : decode (ch_bc m_l_law) 1088 = .ok (.aload_n 0, 1) := by decide +kernel
theorem d_l_law_1089 : decode (ch_bc m_l_law) 1089 = .ok (.iload 5, 2) := by decide +kernel
theorem d_l_law_1091 : decode (ch_bc m_l_law) 1091 = .ok (.iconst 1, 1) := by decide +kernel
theorem d_l_law_1092 : decode (ch_bc m_l_law) 1092 = .ok (.iadd, 1) := by decide +kernel
theorem d_l_law_1093 : decode (ch_bc m_l_law) 1093 = .ok (.iaload, 1) := by decide +kernel
theorem d_l_law_1094 : decode (ch_bc m_l_law) 1094 = .ok (.aload_n 0, 1) := by decide +kernel
theorem d_l_law_1095 : decode (ch_bc m_l_law) 1095 = .ok (.iload 5, 2) := by decide +kernel
theorem d_l_law_1097 : decode (ch_bc m_l_law) 1097 = .ok (.iconst 2, 1) := by decide +kernel
theorem d_l_law_1098 : decode (ch_bc m_l_law) 1098 = .ok (.iadd, 1) := by decide +kernel
theorem d_l_law_1099 : decode (ch_bc m_l_law) 1099 = .ok (.iaload, 1) := by decide +kernel
theorem d_l_law_1100 : decode (ch_bc m_l_law) 1100 = .ok (.invokevirtual 177, 3) := by decide +kernel
theorem d_l_law_1103 : decode (ch_bc m_l_law) 1103 = .ok (.istore 7, 2) := by decide +kernel
theorem d_l_law_1105 : decode (ch_bc m_l_law) 1105 = .ok (.aload_n 2, 1) := by decide +kernel
theorem d_l_law_1106 : decode (ch_bc m_l_law) 1106 = .ok (.invokevirtual 129, 3) := by decide +kernel
theorem d_l_law_1109 : decode (ch_bc m_l_law) 1109 = .ok (.iload 6, 2) := by decide +kernel
theorem d_l_law_1111 : decode (ch_bc m_l_law) 1111 = .ok (.if_icmp .eq 5, 3) := by decide +kernel
theorem d_l_law_1114 : decode (ch_bc m_l_law) 1114 = .ok (.iconst 0, 1) := by decide +kernel
theorem d_l_law_1115 : decode (ch_bc m_l_law) 1115 = .ok (.ireturn, 1) := by decide +kernel
theorem d_l_law_1116 : decode (ch_bc m_l_law) 1116 = .ok (.iload 6, 2) := by decide +kernel
theorem d_l_law_1118 : decode (ch_bc m_l_law) 1118 = .ok (.ifCond .ne 15, 3) := by decide +kernel
theorem d_l_law_1121 : decode (ch_bc m_l_law) 1121 = .ok (.aload_n 3, 1) := by decide +kernel
theorem d_l_law_1122 : decode (ch_bc m_l_law) 1122 = .ok (.iconst 0, 1) := by decide +kernel
theorem d_l_law_1123 : decode (ch_bc m_l_law) 1123 = .ok (.laload, 1) := by decide +kernel
theorem d_l_law_1124 : decode (ch_bc m_l_law) 1124 = .ok (.iload 7, 2) := by decide +kernel
theorem d_l_law_1126 : decode (ch_bc m_l_law) 1126 = .ok (.i2l, 1) := by decide +kernel
theorem d_l_law_1127 : decode (ch_bc m_l_law) 1127 = .ok (.lcmp, 1) := by decide +kernel
theorem d_l_law_1128 : decode (ch_bc m_l_law) 1128 = .ok (.ifCond .eq 5, 3) := by decide +kernel
theorem d_l_law_1131 : decode (ch_bc m_l_law) 1131 = .ok (.iconst 0, 1) := by decide +kernel
theorem d_l_law_1132 : decode (ch_bc m_l_law) 1132 = .ok (.ireturn, 1) := by decide +kernel
theorem d_l_law_1133 : decode (ch_bc m_l_law) 1133 = .ok (.goto 963, 3) := by decide +kernel
theorem d_l_law_1136 : decode (ch_bc m_l_law) 1136 = .ok (.aload_n 1, 1) := by decide +kernel
theorem d_l_law_1137 : decode (ch_bc m_l_law) 1137 = .ok (.aload_n 0, 1) := by decide +kernel
theorem d_l_law_1138 : decode (ch_bc m_l_law) 1138 = .ok (.iload 5, 2) := by decide +kernel
theorem d_l_law_1140 : decode (ch_bc m_l_law) 1140 = .ok (.iconst 1, 1) := by decide +kernel
theorem d_l_law_1141 : decode (ch_bc m_l_law) 1141 = .ok (.iadd, 1) := by decide +kernel
theorem d_l_law_1142 : decode (ch_bc m_l_law) 1142 = .ok (.iaload, 1) := by decide +kernel
theorem d_l_law_1143 : decode (ch_bc m_l_law) 1143 = .ok (.aload_n 0, 1) := by decide +kernel
theorem d_l_law_1144 : decode (ch_bc m_l_law) 1144 = .ok (.iload 5, 2) := by decide +kernel
theorem d_l_law_1146 : decode (ch_bc m_l_law) 1146 = .ok (.iconst 2, 1) := by decide +kernel
theorem d_l_law_1147 : decode (ch_bc m_l_law) 1147 = .ok (.iadd, 1) := by decide +kernel
theorem d_l_law_1148 : decode (ch_bc m_l_law) 1148 = .ok (.iaload, 1) := by decide +kernel
theorem d_l_law_1149 : decode (ch_bc m_l_law) 1149 = .ok (.aload_n 3, 1) := by decide +kernel
theorem d_l_law_1150 : decode (ch_bc m_l_law) 1150 = .ok (.invokestatic 178, 3) := by decide +kernel
theorem d_l_law_1153 : decode (ch_bc m_l_law) 1153 = .ok (.istore 6, 2) := by decide +kernel
theorem d_l_law_1155 : decode (ch_bc m_l_law) 1155 = .ok (.aload_n 2, 1) := by decide +kernel
theorem d_l_law_1156 : decode (ch_bc m_l_law) 1156 = .ok (.aload_n 0, 1) := by decide +kernel
theorem d_l_law_1157 : decode (ch_bc m_l_law) 1157 = .ok (.iload 5, 2) := by decide +kernel
theorem d_l_law_1159 : decode (ch_bc m_l_law) 1159 = .ok (.iconst 1, 1) := by decide +kernel
theorem d_l_law_1160 : decode (ch_bc m_l_law) 1160 = .ok (.iadd, 1) := by decide +kernel
theorem d_l_law_1161 : decode (ch_bc m_l_law) 1161 = .ok (.iaload, 1) := by decide +kernel
theorem d_l_law_1162 : decode (ch_bc m_l_law) 1162 = .ok (.aload_n 0, 1) := by decide +kernel
theorem d_l_law_1163 : decode (ch_bc m_l_law) 1163 = .ok (.iload 5, 2) := by decide +kernel
theorem d_l_law_1165 : decode (ch_bc m_l_law) 1165 = .ok (.iconst 2, 1) := by decide +kernel
theorem d_l_law_1166 : decode (ch_bc m_l_law) 1166 = .ok (.iadd, 1) := by decide +kernel
theorem d_l_law_1167 : decode (ch_bc m_l_law) 1167 = .ok (.iaload, 1) := by decide +kernel
theorem d_l_law_1168 : decode (ch_bc m_l_law) 1168 = .ok (.invokevirtual 180, 3) := by decide +kernel
theorem d_l_law_1171 : decode (ch_bc m_l_law) 1171 = .ok (.istore 7, 2) := by decide +kernel
theorem d_l_law_1173 : decode (ch_bc m_l_law) 1173 = .ok (.aload_n 2, 1) := by decide +kernel
theorem d_l_law_1174 : decode (ch_bc m_l_law) 1174 = .ok (.invokevirtual 129, 3) := by decide +kernel
theorem d_l_law_1177 : decode (ch_bc m_l_law) 1177 = .ok (.iload 6, 2) := by decide +kernel
theorem d_l_law_1179 : decode (ch_bc m_l_law) 1179 = .ok (.if_icmp .eq 5, 3) := by decide +kernel
theorem d_l_law_1182 : decode (ch_bc m_l_law) 1182 = .ok (.iconst 0, 1) := by decide +kernel
theorem d_l_law_1183 : decode (ch_bc m_l_law) 1183 = .ok (.ireturn, 1) := by decide +kernel
theorem d_l_law_1184 : decode (ch_bc m_l_law) 1184 = .ok (.iload 6, 2) := by decide +kernel
theorem d_l_law_1186 : decode (ch_bc m_l_law) 1186 = .ok (.ifCond .ne 15, 3) := by decide +kernel
theorem d_l_law_1189 : decode (ch_bc m_l_law) 1189 = .ok (.aload_n 3, 1) := by decide +kernel
theorem d_l_law_1190 : decode (ch_bc m_l_law) 1190 = .ok (.iconst 0, 1) := by decide +kernel
theorem d_l_law_1191 : decode (ch_bc m_l_law) 1191 = .ok (.laload, 1) := by decide +kernel
theorem d_l_law_1192 : decode (ch_bc m_l_law) 1192 = .ok (.iload 7, 2) := by decide +kernel
theorem d_l_law_1194 : decode (ch_bc m_l_law) 1194 = .ok (.i2l, 1) := by decide +kernel
theorem d_l_law_1195 : decode (ch_bc m_l_law) 1195 = .ok (.lcmp, 1) := by decide +kernel
theorem d_l_law_1196 : decode (ch_bc m_l_law) 1196 = .ok (.ifCond .eq 5, 3) := by decide +kernel
theorem d_l_law_1199 : decode (ch_bc m_l_law) 1199 = .ok (.iconst 0, 1) := by decide +kernel
theorem d_l_law_1200 : decode (ch_bc m_l_law) 1200 = .ok (.ireturn, 1) := by decide +kernel
theorem d_l_law_1201 : decode (ch_bc m_l_law) 1201 = .ok (.goto 895, 3) := by decide +kernel
theorem d_l_law_1204 : decode (ch_bc m_l_law) 1204 = .ok (.aload_n 1, 1) := by decide +kernel
theorem d_l_law_1205 : decode (ch_bc m_l_law) 1205 = .ok (.aload_n 0, 1) := by decide +kernel
theorem d_l_law_1206 : decode (ch_bc m_l_law) 1206 = .ok (.iload 5, 2) := by decide +kernel
theorem d_l_law_1208 : decode (ch_bc m_l_law) 1208 = .ok (.iconst 1, 1) := by decide +kernel
theorem d_l_law_1209 : decode (ch_bc m_l_law) 1209 = .ok (.iadd, 1) := by decide +kernel
theorem d_l_law_1210 : decode (ch_bc m_l_law) 1210 = .ok (.iaload, 1) := by decide +kernel
theorem d_l_law_1211 : decode (ch_bc m_l_law) 1211 = .ok (.aload_n 3, 1) := by decide +kernel
theorem d_l_law_1212 : decode (ch_bc m_l_law) 1212 = .ok (.invokestatic 181, 3) := by decide +kernel
theorem d_l_law_1215 : decode (ch_bc m_l_law) 1215 = .ok (.istore 6, 2) := by decide +kernel
theorem d_l_law_1217 : decode (ch_bc m_l_law) 1217 = .ok (.aload_n 2, 1) := by decide +kernel
theorem d_l_law_1218 : decode (ch_bc m_l_law) 1218 = .ok (.aload_n 0, 1) := by decide +kernel
theorem d_l_law_1219 : decode (ch_bc m_l_law) 1219 = .ok (.iload 5, 2) := by decide +kernel
theorem d_l_law_1221 : decode (ch_bc m_l_law) 1221 = .ok (.iconst 1, 1) := by decide +kernel
theorem d_l_law_1222 : decode (ch_bc m_l_law) 1222 = .ok (.iadd, 1) := by decide +kernel
theorem d_l_law_1223 : decode (ch_bc m_l_law) 1223 = .ok (.iaload, 1) := by decide +kernel
theorem d_l_law_1224 : decode (ch_bc m_l_law) 1224 = .ok (.invokevirtual 183, 3) := by decide +kernel
theorem d_l_law_1227 : decode (ch_bc m_l_law) 1227 = .ok (.istore 7, 2) := by decide +kernel
theorem d_l_law_1229 : decode (ch_bc m_l_law) 1229 = .ok (.aload_n 2, 1) := by decide +kernel
theorem d_l_law_1230 : decode (ch_bc m_l_law) 1230 = .ok (.invokevirtual 129, 3) := by decide +kernel
theorem d_l_law_1233 : decode (ch_bc m_l_law) 1233 = .ok (.iload 6, 2) := by decide +kernel
theorem d_l_law_1235 : decode (ch_bc m_l_law) 1235 = .ok (.if_icmp .eq 5, 3) := by decide +kernel
theorem d_l_law_1238 : decode (ch_bc m_l_law) 1238 = .ok (.iconst 0, 1) := by decide +kernel
theorem d_l_law_1239 : decode (ch_bc m_l_law) 1239 = .ok (.ireturn, 1) := by decide +kernel
theorem d_l_law_1240 : decode (ch_bc m_l_law) 1240 = .ok (.iload 6, 2) := by decide +kernel
theorem d_l_law_1242 : decode (ch_bc m_l_law) 1242 = .ok (.ifCond .ne 15, 3) := by decide +kernel
theorem d_l_law_1245 : decode (ch_bc m_l_law) 1245 = .ok (.aload_n 3, 1) := by decide +kernel
theorem d_l_law_1246 : decode (ch_bc m_l_law) 1246 = .ok (.iconst 0, 1) := by decide +kernel
theorem d_l_law_1247 : decode (ch_bc m_l_law) 1247 = .ok (.laload, 1) := by decide +kernel
theorem d_l_law_1248 : decode (ch_bc m_l_law) 1248 = .ok (.iload 7, 2) := by decide +kernel
theorem d_l_law_1250 : decode (ch_bc m_l_law) 1250 = .ok (.i2l, 1) := by decide +kernel
theorem d_l_law_1251 : decode (ch_bc m_l_law) 1251 = .ok (.lcmp, 1) := by decide +kernel
theorem d_l_law_1252 : decode (ch_bc m_l_law) 1252 = .ok (.ifCond .eq 5, 3) := by decide +kernel
theorem d_l_law_1255 : decode (ch_bc m_l_law) 1255 = .ok (.iconst 0, 1) := by decide +kernel
theorem d_l_law_1256 : decode (ch_bc m_l_law) 1256 = .ok (.ireturn, 1) := by decide +kernel
theorem d_l_law_1257 : decode (ch_bc m_l_law) 1257 = .ok (.goto 839, 3) := by decide +kernel
theorem d_l_law_1260 : decode (ch_bc m_l_law) 1260 = .ok (.aload_n 1, 1) := by decide +kernel
theorem d_l_law_1261 : decode (ch_bc m_l_law) 1261 = .ok (.invokevirtual 184, 3) := by decide +kernel
theorem d_l_law_1264 : decode (ch_bc m_l_law) 1264 = .ok (.aload_n 2, 1) := by decide +kernel
theorem d_l_law_1265 : decode (ch_bc m_l_law) 1265 = .ok (.invokevirtual 187, 3) := by decide +kernel
theorem d_l_law_1268 : decode (ch_bc m_l_law) 1268 = .ok (.if_icmp .eq 828, 3) := by decide +kernel
theorem d_l_law_1271 : decode (ch_bc m_l_law) 1271 = .ok (.iconst 0, 1) := by decide +kernel
theorem d_l_law_1272 : decode (ch_bc m_l_law) 1272 = .ok (.ireturn, 1) := by decide +kernel
theorem d_l_law_1273 : decode (ch_bc m_l_law) 1273 = .ok (.aload_n 1, 1) := by decide +kernel
theorem d_l_law_1274 : decode (ch_bc m_l_law) 1274 = .ok (.aload_n 0, 1) := by decide +kernel
theorem d_l_law_1275 : decode (ch_bc m_l_law) 1275 = .ok (.iload 5, 2) := by decide +kernel
theorem d_l_law_1277 : decode (ch_bc m_l_law) 1277 = .ok (.iconst 1, 1) := by decide +kernel
theorem d_l_law_1278 : decode (ch_bc m_l_law) 1278 = .ok (.iadd, 1) := by decide +kernel
theorem d_l_law_1279 : decode (ch_bc m_l_law) 1279 = .ok (.iaload, 1) := by decide +kernel
theorem d_l_law_1280 : decode (ch_bc m_l_law) 1280 = .ok (.aload_n 3, 1) := by decide +kernel
theorem d_l_law_1281 : decode (ch_bc m_l_law) 1281 = .ok (.invokestatic 188, 3) := by decide +kernel
theorem d_l_law_1284 : decode (ch_bc m_l_law) 1284 = .ok (.istore 6, 2) := by decide +kernel
theorem d_l_law_1286 : decode (ch_bc m_l_law) 1286 = .ok (.aload_n 2, 1) := by decide +kernel
theorem d_l_law_1287 : decode (ch_bc m_l_law) 1287 = .ok (.aload_n 0, 1) := by decide +kernel
theorem d_l_law_1288 : decode (ch_bc m_l_law) 1288 = .ok (.iload 5, 2) := by decide +kernel
theorem d_l_law_1290 : decode (ch_bc m_l_law) 1290 = .ok (.iconst 1, 1) := by decide +kernel
theorem d_l_law_1291 : decode (ch_bc m_l_law) 1291 = .ok (.iadd, 1) := by decide +kernel
theorem d_l_law_1292 : decode (ch_bc m_l_law) 1292 = .ok (.iaload, 1) := by decide +kernel
theorem d_l_law_1293 : decode (ch_bc m_l_law) 1293 = .ok (.invokevirtual 190, 3) := by decide +kernel
theorem d_l_law_1296 : decode (ch_bc m_l_law) 1296 = .ok (.istore 7, 2) := by decide +kernel
theorem d_l_law_1298 : decode (ch_bc m_l_law) 1298 = .ok (.aload_n 2, 1) := by decide +kernel
theorem d_l_law_1299 : decode (ch_bc m_l_law) 1299 = .ok (.invokevirtual 129, 3) := by decide +kernel
theorem d_l_law_1302 : decode (ch_bc m_l_law) 1302 = .ok (.iload 6, 2) := by decide +kernel
theorem d_l_law_1304 : decode (ch_bc m_l_law) 1304 = .ok (.if_icmp .eq 5, 3) := by decide +kernel
theorem d_l_law_1307 : decode (ch_bc m_l_law) 1307 = .ok (.iconst 0, 1) := by decide +kernel
theorem d_l_law_1308 : decode (ch_bc m_l_law) 1308 = .ok (.ireturn, 1) := by decide +kernel
theorem d_l_law_1309 : decode (ch_bc m_l_law) 1309 = .ok (.iload 6, 2) := by decide +kernel
theorem d_l_law_1311 : decode (ch_bc m_l_law) 1311 = .ok (.ifCond .ne 15, 3) := by decide +kernel
theorem d_l_law_1314 : decode (ch_bc m_l_law) 1314 = .ok (.aload_n 3, 1) := by decide +kernel
theorem d_l_law_1315 : decode (ch_bc m_l_law) 1315 = .ok (.iconst 0, 1) := by decide +kernel
theorem d_l_law_1316 : decode (ch_bc m_l_law) 1316 = .ok (.laload, 1) := by decide +kernel
theorem d_l_law_1317 : decode (ch_bc m_l_law) 1317 = .ok (.iload 7, 2) := by decide +kernel
theorem d_l_law_1319 : decode (ch_bc m_l_law) 1319 = .ok (.i2l, 1) := by decide +kernel
theorem d_l_law_1320 : decode (ch_bc m_l_law) 1320 = .ok (.lcmp, 1) := by decide +kernel
theorem d_l_law_1321 : decode (ch_bc m_l_law) 1321 = .ok (.ifCond .eq 5, 3) := by decide +kernel
theorem d_l_law_1324 : decode (ch_bc m_l_law) 1324 = .ok (.iconst 0, 1) := by decide +kernel
theorem d_l_law_1325 : decode (ch_bc m_l_law) 1325 = .ok (.ireturn, 1) := by decide +kernel
theorem d_l_law_1326 : decode (ch_bc m_l_law) 1326 = .ok (.goto 770, 3) := by decide +kernel
theorem d_l_law_1329 : decode (ch_bc m_l_law) 1329 = .ok (.aload_n 1, 1) := by decide +kernel
theorem d_l_law_1330 : decode (ch_bc m_l_law) 1330 = .ok (.aload_n 0, 1) := by decide +kernel
theorem d_l_law_1331 : decode (ch_bc m_l_law) 1331 = .ok (.iload 5, 2) := by decide +kernel
theorem d_l_law_1333 : decode (ch_bc m_l_law) 1333 = .ok (.iconst 1, 1) := by decide +kernel
theorem d_l_law_1334 : decode (ch_bc m_l_law) 1334 = .ok (.iadd, 1) := by decide +kernel
theorem d_l_law_1335 : decode (ch_bc m_l_law) 1335 = .ok (.iaload, 1) := by decide +kernel
theorem d_l_law_1336 : decode (ch_bc m_l_law) 1336 = .ok (.aload_n 3, 1) := by decide +kernel
theorem d_l_law_1337 : decode (ch_bc m_l_law) 1337 = .ok (.invokestatic 191, 3) := by decide +kernel
theorem d_l_law_1340 : decode (ch_bc m_l_law) 1340 = .ok (.istore 6, 2) := by decide +kernel
theorem d_l_law_1342 : decode (ch_bc m_l_law) 1342 = .ok (.aload_n 2, 1) := by decide +kernel
theorem d_l_law_1343 : decode (ch_bc m_l_law) 1343 = .ok (.aload_n 0, 1) := by decide +kernel
theorem d_l_law_1344 : decode (ch_bc m_l_law) 1344 = .ok (.iload 5, 2) := by decide +kernel
theorem d_l_law_1346 : decode (ch_bc m_l_law) 1346 = .ok (.iconst 1, 1) := by decide +kernel
theorem d_l_law_1347 : decode (ch_bc m_l_law) 1347 = .ok (.iadd, 1) := by decide +kernel
theorem d_l_law_1348 : decode (ch_bc m_l_law) 1348 = .ok (.iaload, 1) := by decide +kernel
theorem d_l_law_1349 : decode (ch_bc m_l_law) 1349 = .ok (.invokevirtual 193, 3) := by decide +kernel
theorem d_l_law_1352 : decode (ch_bc m_l_law) 1352 = .ok (.istore 7, 2) := by decide +kernel
theorem d_l_law_1354 : decode (ch_bc m_l_law) 1354 = .ok (.aload_n 2, 1) := by decide +kernel
theorem d_l_law_1355 : decode (ch_bc m_l_law) 1355 = .ok (.invokevirtual 129, 3) := by decide +kernel
theorem d_l_law_1358 : decode (ch_bc m_l_law) 1358 = .ok (.iload 6, 2) := by decide +kernel
theorem d_l_law_1360 : decode (ch_bc m_l_law) 1360 = .ok (.if_icmp .eq 5, 3) := by decide +kernel
theorem d_l_law_1363 : decode (ch_bc m_l_law) 1363 = .ok (.iconst 0, 1) := by decide +kernel
theorem d_l_law_1364 : decode (ch_bc m_l_law) 1364 = .ok (.ireturn, 1) := by decide +kernel
theorem d_l_law_1365 : decode (ch_bc m_l_law) 1365 = .ok (.iload 6, 2) := by decide +kernel
theorem d_l_law_1367 : decode (ch_bc m_l_law) 1367 = .ok (.ifCond .ne 15, 3) := by decide +kernel
theorem d_l_law_1370 : decode (ch_bc m_l_law) 1370 = .ok (.aload_n 3, 1) := by decide +kernel
theorem d_l_law_1371 : decode (ch_bc m_l_law) 1371 = .ok (.iconst 0, 1) := by decide +kernel
theorem d_l_law_1372 : decode (ch_bc m_l_law) 1372 = .ok (.laload, 1) := by decide +kernel
theorem d_l_law_1373 : decode (ch_bc m_l_law) 1373 = .ok (.iload 7, 2) := by decide +kernel
theorem d_l_law_1375 : decode (ch_bc m_l_law) 1375 = .ok (.i2l, 1) := by decide +kernel
theorem d_l_law_1376 : decode (ch_bc m_l_law) 1376 = .ok (.lcmp, 1) := by decide +kernel
theorem d_l_law_1377 : decode (ch_bc m_l_law) 1377 = .ok (.ifCond .eq 5, 3) := by decide +kernel
theorem d_l_law_1380 : decode (ch_bc m_l_law) 1380 = .ok (.iconst 0, 1) := by decide +kernel
theorem d_l_law_1381 : decode (ch_bc m_l_law) 1381 = .ok (.ireturn, 1) := by decide +kernel
theorem d_l_law_1382 : decode (ch_bc m_l_law) 1382 = .ok (.goto 714, 3) := by decide +kernel
theorem d_l_law_1385 : decode (ch_bc m_l_law) 1385 = .ok (.aload_n 1, 1) := by decide +kernel
theorem d_l_law_1386 : decode (ch_bc m_l_law) 1386 = .ok (.aload_n 0, 1) := by decide +kernel
theorem d_l_law_1387 : decode (ch_bc m_l_law) 1387 = .ok (.iload 5, 2) := by decide +kernel
theorem d_l_law_1389 : decode (ch_bc m_l_law) 1389 = .ok (.iconst 1, 1) := by decide +kernel
theorem d_l_law_1390 : decode (ch_bc m_l_law) 1390 = .ok (.iadd, 1) := by decide +kernel
theorem d_l_law_1391 : decode (ch_bc m_l_law) 1391 = .ok (.iaload, 1) := by decide +kernel
theorem d_l_law_1392 : decode (ch_bc m_l_law) 1392 = .ok (.aload_n 3, 1) := by decide +kernel
theorem d_l_law_1393 : decode (ch_bc m_l_law) 1393 = .ok (.invokestatic 194, 3) := by decide +kernel
theorem d_l_law_1396 : decode (ch_bc m_l_law) 1396 = .ok (.istore 6, 2) := by decide +kernel
theorem d_l_law_1398 : decode (ch_bc m_l_law) 1398 = .ok (.aload_n 2, 1) := by decide +kernel
theorem d_l_law_1399 : decode (ch_bc m_l_law) 1399 = .ok (.aload_n 0, 1) := by decide +kernel
theorem d_l_law_1400 : decode (ch_bc m_l_law) 1400 = .ok (.iload 5, 2) := by decide +kernel
theorem d_l_law_1402 : decode (ch_bc m_l_law) 1402 = .ok (.iconst 1, 1) := by decide +kernel
theorem d_l_law_1403 : decode (ch_bc m_l_law) 1403 = .ok (.iadd, 1) := by decide +kernel
theorem d_l_law_1404 : decode (ch_bc m_l_law) 1404 = .ok (.iaload, 1) := by decide +kernel
theorem d_l_law_1405 : decode (ch_bc m_l_law) 1405 = .ok (.invokevirtual 196, 3) := by decide +kernel
theorem d_l_law_1408 : decode (ch_bc m_l_law) 1408 = .ok (.istore 7, 2) := by decide +kernel
theorem d_l_law_1410 : decode (ch_bc m_l_law) 1410 = .ok (.aload_n 2, 1) := by decide +kernel
theorem d_l_law_1411 : decode (ch_bc m_l_law) 1411 = .ok (.invokevirtual 129, 3) := by decide +kernel
theorem d_l_law_1414 : decode (ch_bc m_l_law) 1414 = .ok (.iload 6, 2) := by decide +kernel
theorem d_l_law_1416 : decode (ch_bc m_l_law) 1416 = .ok (.if_icmp .eq 5, 3) := by decide +kernel
theorem d_l_law_1419 : decode (ch_bc m_l_law) 1419 = .ok (.iconst 0, 1) := by decide +kernel
theorem d_l_law_1420 : decode (ch_bc m_l_law) 1420 = .ok (.ireturn, 1) := by decide +kernel
theorem d_l_law_1421 : decode (ch_bc m_l_law) 1421 = .ok (.iload 6, 2) := by decide +kernel
theorem d_l_law_1423 : decode (ch_bc m_l_law) 1423 = .ok (.ifCond .ne 15, 3) := by decide +kernel
theorem d_l_law_1426 : decode (ch_bc m_l_law) 1426 = .ok (.aload_n 3, 1) := by decide +kernel
theorem d_l_law_1427 : decode (ch_bc m_l_law) 1427 = .ok (.iconst 0, 1) := by decide +kernel
theorem d_l_law_1428 : decode (ch_bc m_l_law) 1428 = .ok (.laload, 1) := by decide +kernel
theorem d_l_law_1429 : decode (ch_bc m_l_law) 1429 = .ok (.iload 7, 2) := by decide +kernel
theorem d_l_law_1431 : decode (ch_bc m_l_law) 1431 = .ok (.i2l, 1) := by decide +kernel
theorem d_l_law_1432 : decode (ch_bc m_l_law) 1432 = .ok (.lcmp, 1) := by decide +kernel
theorem d_l_law_1433 : decode (ch_bc m_l_law) 1433 = .ok (.ifCond .eq 5, 3) := by decide +kernel
theorem d_l_law_1436 : decode (ch_bc m_l_law) 1436 = .ok (.iconst 0, 1) := by decide +kernel
theorem d_l_law_1437 : decode (ch_bc m_l_law) 1437 = .ok (.ireturn, 1) := by decide +kernel
theorem d_l_law_1438 : decode (ch_bc m_l_law) 1438 = .ok (.goto 658, 3) := by decide +kernel
theorem d_l_law_1441 : decode (ch_bc m_l_law) 1441 = .ok (.aload_n 1, 1) := by decide +kernel
theorem d_l_law_1442 : decode (ch_bc m_l_law) 1442 = .ok (.aload_n 0, 1) := by decide +kernel
theorem d_l_law_1443 : decode (ch_bc m_l_law) 1443 = .ok (.iload 5, 2) := by decide +kernel
theorem d_l_law_1445 : decode (ch_bc m_l_law) 1445 = .ok (.iconst 1, 1) := by decide +kernel
theorem d_l_law_1446 : decode (ch_bc m_l_law) 1446 = .ok (.iadd, 1) := by decide +kernel
theorem d_l_law_1447 : decode (ch_bc m_l_law) 1447 = .ok (.iaload, 1) := by decide +kernel
theorem d_l_law_1448 : decode (ch_bc m_l_law) 1448 = .ok (.aload_n 3, 1) := by decide +kernel
theorem d_l_law_1449 : decode (ch_bc m_l_law) 1449 = .ok (.invokestatic 197, 3) := by decide +kernel
theorem d_l_law_1452 : decode (ch_bc m_l_law) 1452 = .ok (.istore 6, 2) := by decide +kernel
theorem d_l_law_1454 : decode (ch_bc m_l_law) 1454 = .ok (.aload_n 2, 1) := by decide +kernel
theorem d_l_law_1455 : decode (ch_bc m_l_law) 1455 = .ok (.aload_n 0, 1) := by decide +kernel
theorem d_l_law_1456 : decode (ch_bc m_l_law) 1456 = .ok (.iload 5, 2) := by decide +kernel
theorem d_l_law_1458 : decode (ch_bc m_l_law) 1458 = .ok (.iconst 1, 1) := by decide +kernel
theorem d_l_law_1459 : decode (ch_bc m_l_law) 1459 = .ok (.iadd, 1) := by decide +kernel
theorem d_l_law_1460 : decode (ch_bc m_l_law) 1460 = .ok (.iaload, 1) := by decide +kernel
theorem d_l_law_1461 : decode (ch_bc m_l_law) 1461 = .ok (.invokevirtual 199, 3) := by decide +kernel
theorem d_l_law_1464 : decode (ch_bc m_l_law) 1464 = .ok (.istore 7, 2) := by decide +kernel
theorem d_l_law_1466 : decode (ch_bc m_l_law) 1466 = .ok (.aload_n 2, 1) := by decide +kernel
theorem d_l_law_1467 : decode (ch_bc m_l_law) 1467 = .ok (.invokevirtual 129, 3) := by decide +kernel
theorem d_l_law_1470 : decode (ch_bc m_l_law) 1470 = .ok (.iload 6, 2) := by decide +kernel
theorem d_l_law_1472 : decode (ch_bc m_l_law) 1472 = .ok (.if_icmp .eq 5, 3) := by decide +kernel
theorem d_l_law_1475 : decode (ch_bc m_l_law) 1475 = .ok (.iconst 0, 1) := by decide +kernel
theorem d_l_law_1476 : decode (ch_bc m_l_law) 1476 = .ok (.ireturn, 1) := by decide +kernel
theorem d_l_law_1477 : decode (ch_bc m_l_law) 1477 = .ok (.iload 6, 2) := by decide +kernel
theorem d_l_law_1479 : decode (ch_bc m_l_law) 1479 = .ok (.ifCond .ne 15, 3) := by decide +kernel
theorem d_l_law_1482 : decode (ch_bc m_l_law) 1482 = .ok (.aload_n 3, 1) := by decide +kernel
theorem d_l_law_1483 : decode (ch_bc m_l_law) 1483 = .ok (.iconst 0, 1) := by decide +kernel
theorem d_l_law_1484 : decode (ch_bc m_l_law) 1484 = .ok (.laload, 1) := by decide +kernel
theorem d_l_law_1485 : decode (ch_bc m_l_law) 1485 = .ok (.iload 7, 2) := by decide +kernel
theorem d_l_law_1487 : decode (ch_bc m_l_law) 1487 = .ok (.i2l, 1) := by decide +kernel
theorem d_l_law_1488 : decode (ch_bc m_l_law) 1488 = .ok (.lcmp, 1) := by decide +kernel
theorem d_l_law_1489 : decode (ch_bc m_l_law) 1489 = .ok (.ifCond .eq 5, 3) := by decide +kernel
theorem d_l_law_1492 : decode (ch_bc m_l_law) 1492 = .ok (.iconst 0, 1) := by decide +kernel
theorem d_l_law_1493 : decode (ch_bc m_l_law) 1493 = .ok (.ireturn, 1) := by decide +kernel
theorem d_l_law_1494 : decode (ch_bc m_l_law) 1494 = .ok (.goto 602, 3) := by decide +kernel
theorem d_l_law_1497 : decode (ch_bc m_l_law) 1497 = .ok (.aload_n 1, 1) := by decide +kernel
theorem d_l_law_1498 : decode (ch_bc m_l_law) 1498 = .ok (.aload_n 0, 1) := by decide +kernel
theorem d_l_law_1499 : decode (ch_bc m_l_law) 1499 = .ok (.iload 5, 2) := by decide +kernel
theorem d_l_law_1501 : decode (ch_bc m_l_law) 1501 = .ok (.iconst 1, 1) := by decide +kernel
theorem d_l_law_1502 : decode (ch_bc m_l_law) 1502 = .ok (.iadd, 1) := by decide +kernel
theorem d_l_law_1503 : decode (ch_bc m_l_law) 1503 = .ok (.iaload, 1) := by decide +kernel
theorem d_l_law_1504 : decode (ch_bc m_l_law) 1504 = .ok (.aload_n 0, 1) := by decide +kernel
theorem d_l_law_1505 : decode (ch_bc m_l_law) 1505 = .ok (.iload 5, 2) := by decide +kernel
theorem d_l_law_1507 : decode (ch_bc m_l_law) 1507 = .ok (.iconst 2, 1) := by decide +kernel
theorem d_l_law_1508 : decode (ch_bc m_l_law) 1508 = .ok (.iadd, 1) := by decide +kernel
theorem d_l_law_1509 : decode (ch_bc m_l_law) 1509 = .ok (.iaload, 1) := by decide +kernel
theorem d_l_law_1510 : decode (ch_bc m_l_law) 1510 = .ok (.aload_n 3, 1) := by decide +kernel
theorem d_l_law_1511 : decode (ch_bc m_l_law) 1511 = .ok (.invokestatic 200, 3) := by decide +kernel
theorem d_l_law_1514 : decode (ch_bc m_l_law) 1514 = .ok (.istore 6, 2) := by decide +kernel
theorem d_l_law_1516 : decode (ch_bc m_l_law) 1516 = .ok (.aload_n 2, 1) := by decide +kernel
theorem d_l_law_1517 : decode (ch_bc m_l_law) 1517 = .ok (.aload_n 0, 1) := by decide +kernel
theorem d_l_law_1518 : decode (ch_bc m_l_law) 1518 = .ok (.iload 5, 2) := by decide +kernel
theorem d_l_law_1520 : decode (ch_bc m_l_law) 1520 = .ok (.iconst 1, 1) := by decide +kernel
theorem d_l_law_1521 : decode (ch_bc m_l_law) 1521 = .ok (.iadd, 1) := by decide +kernel
theorem d_l_law_1522 : decode (ch_bc m_l_law) 1522 = .ok (.iaload, 1) := by decide +kernel
theorem d_l_law_1523 : decode (ch_bc m_l_law) 1523 = .ok (.aload_n 0, 1) := by decide +kernel
theorem d_l_law_1524 : decode (ch_bc m_l_law) 1524 = .ok (.iload 5, 2) := by decide +kernel
theorem d_l_law_1526 : decode (ch_bc m_l_law) 1526 = .ok (.iconst 2, 1) := by decide +kernel
theorem d_l_law_1527 : decode (ch_bc m_l_law) 1527 = .ok (.iadd, 1) := by decide +kernel
theorem d_l_law_1528 : decode (ch_bc m_l_law) 1528 = .ok (.iaload, 1) := by decide +kernel
theorem d_l_law_1529 : decode (ch_bc m_l_law) 1529 = .ok (.invokevirtual 202, 3) := by decide +kernel
theorem d_l_law_1532 : decode (ch_bc m_l_law) 1532 = .ok (.istore 7, 2) := by decide +kernel
theorem d_l_law_1534 : decode (ch_bc m_l_law) 1534 = .ok (.aload_n 2, 1) := by decide +kernel
theorem d_l_law_1535 : decode (ch_bc m_l_law) 1535 = .ok (.invokevirtual 129, 3) := by decide +kernel
theorem d_l_law_1538 : decode (ch_bc m_l_law) 1538 = .ok (.iload 6, 2) := by decide +kernel
theorem d_l_law_1540 : decode (ch_bc m_l_law) 1540 = .ok (.if_icmp .eq 5, 3) := by decide +kernel
theorem d_l_law_1543 : decode (ch_bc m_l_law) 1543 = .ok (.iconst 0, 1) := by decide +kernel
theorem d_l_law_1544 : decode (ch_bc m_l_law) 1544 = .ok (.ireturn, 1) := by decide +kernel
theorem d_l_law_1545 : decode (ch_bc m_l_law) 1545 = .ok (.iload 6, 2) := by decide +kernel
theorem d_l_law_1547 : decode (ch_bc m_l_law) 1547 = .ok (.ifCond .ne 15, 3) := by decide +kernel
theorem d_l_law_1550 : decode (ch_bc m_l_law) 1550 = .ok (.aload_n 3, 1) := by decide +kernel
theorem d_l_law_1551 : decode (ch_bc m_l_law) 1551 = .ok (.iconst 0, 1) := by decide +kernel
theorem d_l_law_1552 : decode (ch_bc m_l_law) 1552 = .ok (.laload, 1) := by decide +kernel
theorem d_l_law_1553 : decode (ch_bc m_l_law) 1553 = .ok (.iload 7, 2) := by decide +kernel
theorem d_l_law_1555 : decode (ch_bc m_l_law) 1555 = .ok (.i2l, 1) := by decide +kernel
theorem d_l_law_1556 : decode (ch_bc m_l_law) 1556 = .ok (.lcmp, 1) := by decide +kernel
theorem d_l_law_1557 : decode (ch_bc m_l_law) 1557 = .ok (.ifCond .eq 5, 3) := by decide +kernel
theorem d_l_law_1560 : decode (ch_bc m_l_law) 1560 = .ok (.iconst 0, 1) := by decide +kernel
theorem d_l_law_1561 : decode (ch_bc m_l_law) 1561 = .ok (.ireturn, 1) := by decide +kernel
theorem d_l_law_1562 : decode (ch_bc m_l_law) 1562 = .ok (.goto 534, 3) := by decide +kernel
theorem d_l_law_1565 : decode (ch_bc m_l_law) 1565 = .ok (.aload_n 1, 1) := by decide +kernel
theorem d_l_law_1566 : decode (ch_bc m_l_law) 1566 = .ok (.invokevirtual 203, 3) := by decide +kernel
theorem d_l_law_1569 : decode (ch_bc m_l_law) 1569 = .ok (.aload_n 2, 1) := by decide +kernel
theorem d_l_law_1570 : decode (ch_bc m_l_law) 1570 = .ok (.invokevirtual 207, 3) := by decide +kernel
theorem d_l_law_1573 : decode (ch_bc m_l_law) 1573 = .ok (.if_icmp .eq 523, 3) := by decide +kernel
theorem d_l_law_1576 : decode (ch_bc m_l_law) 1576 = .ok (.iconst 0, 1) := by decide +kernel
theorem d_l_law_1577 : decode (ch_bc m_l_law) 1577 = .ok (.ireturn, 1) := by decide +kernel
theorem d_l_law_1578 : decode (ch_bc m_l_law) 1578 = .ok (.aload_n 1, 1) := by decide +kernel
theorem d_l_law_1579 : decode (ch_bc m_l_law) 1579 = .ok (.aload_n 0, 1) := by decide +kernel
theorem d_l_law_1580 : decode (ch_bc m_l_law) 1580 = .ok (.iload 5, 2) := by decide +kernel
theorem d_l_law_1582 : decode (ch_bc m_l_law) 1582 = .ok (.iconst 1, 1) := by decide +kernel
theorem d_l_law_1583 : decode (ch_bc m_l_law) 1583 = .ok (.iadd, 1) := by decide +kernel
theorem d_l_law_1584 : decode (ch_bc m_l_law) 1584 = .ok (.iaload, 1) := by decide +kernel
theorem d_l_law_1585 : decode (ch_bc m_l_law) 1585 = .ok (.i2c, 1) := by decide +kernel
theorem d_l_law_1586 : decode (ch_bc m_l_law) 1586 = .ok (.aload_n 3, 1) := by decide +kernel
theorem d_l_law_1587 : decode (ch_bc m_l_law) 1587 = .ok (.invokestatic 208, 3) := by decide +kernel
theorem d_l_law_1590 : decode (ch_bc m_l_law) 1590 = .ok (.istore 6, 2) := by decide +kernel
theorem d_l_law_1592 : decode (ch_bc m_l_law) 1592 = .ok (.aload_n 2, 1) := by decide +kernel
theorem d_l_law_1593 : decode (ch_bc m_l_law) 1593 = .ok (.aload_n 0, 1) := by decide +kernel
theorem d_l_law_1594 : decode (ch_bc m_l_law) 1594 = .ok (.iload 5, 2) := by decide +kernel
theorem d_l_law_1596 : decode (ch_bc m_l_law) 1596 = .ok (.iconst 1, 1) := by decide +kernel
theorem d_l_law_1597 : decode (ch_bc m_l_law) 1597 = .ok (.iadd, 1) := by decide +kernel
theorem d_l_law_1598 : decode (ch_bc m_l_law) 1598 = .ok (.iaload, 1) := by decide +kernel
theorem d_l_law_1599 : decode (ch_bc m_l_law) 1599 = .ok (.i2c, 1) := by decide +kernel
theorem d_l_law_1600 : decode (ch_bc m_l_law) 1600 = .ok (.invokevirtual 211, 3) := by decide +kernel
theorem d_l_law_1603 : decode (ch_bc m_l_law) 1603 = .ok (.istore 7, 2) := by decide +kernel
theorem d_l_law_1605 : decode (ch_bc m_l_law) 1605 = .ok (.aload_n 2, 1) := by decide +kernel
theorem d_l_law_1606 : decode (ch_bc m_l_law) 1606 = .ok (.invokevirtual 129, 3) := by decide +kernel
theorem d_l_law_1609 : decode (ch_bc m_l_law) 1609 = .ok (.iload 6, 2) := by decide +kernel
theorem d_l_law_1611 : decode (ch_bc m_l_law) 1611 = .ok (.if_icmp .eq 5, 3) := by decide +kernel
theorem d_l_law_1614 : decode (ch_bc m_l_law) 1614 = .ok (.iconst 0, 1) := by decide +kernel
theorem d_l_law_1615 : decode (ch_bc m_l_law) 1615 = .ok (.ireturn, 1) := by decide +kernel
theorem d_l_law_1616 : decode (ch_bc m_l_law) 1616 = .ok (.iload 6, 2) := by decide +kernel
theorem d_l_law_1618 : decode (ch_bc m_l_law) 1618 = .ok (.ifCond .ne 15, 3) := by decide +kernel
theorem d_l_law_1621 : decode (ch_bc m_l_law) 1621 = .ok (.aload_n 3, 1) := by decide +kernel
theorem d_l_law_1622 : decode (ch_bc m_l_law) 1622 = .ok (.iconst 0, 1) := by decide +kernel
theorem d_l_law_1623 : decode (ch_bc m_l_law) 1623 = .ok (.laload, 1) := by decide +kernel
theorem d_l_law_1624 : decode (ch_bc m_l_law) 1624 = .ok (.iload 7, 2) := by decide +kernel
theorem d_l_law_1626 : decode (ch_bc m_l_law) 1626 = .ok (.i2l, 1) := by decide +kernel
theorem d_l_law_1627 : decode (ch_bc m_l_law) 1627 = .ok (.lcmp, 1) := by decide +kernel
theorem d_l_law_1628 : decode (ch_bc m_l_law) 1628 = .ok (.ifCond .eq 5, 3) := by decide +kernel
theorem d_l_law_1631 : decode (ch_bc m_l_law) 1631 = .ok (.iconst 0, 1) := by decide +kernel
theorem d_l_law_1632 : decode (ch_bc m_l_law) 1632 = .ok (.ireturn, 1) := by decide +kernel
theorem d_l_law_1633 : decode (ch_bc m_l_law) 1633 = .ok (.goto 463, 3) := by decide +kernel
theorem d_l_law_1636 : decode (ch_bc m_l_law) 1636 = .ok (.aload_n 1, 1) := by decide +kernel
theorem d_l_law_1637 : decode (ch_bc m_l_law) 1637 = .ok (.aload_n 3, 1) := by decide +kernel
theorem d_l_law_1638 : decode (ch_bc m_l_law) 1638 = .ok (.invokestatic 212, 3) := by decide +kernel
theorem d_l_law_1641 : decode (ch_bc m_l_law) 1641 = .ok (.istore 6, 2) := by decide +kernel
theorem d_l_law_1643 : decode (ch_bc m_l_law) 1643 = .ok (.aload_n 2, 1) := by decide +kernel
theorem d_l_law_1644 : decode (ch_bc m_l_law) 1644 = .ok (.invokevirtual 214, 3) := by decide +kernel
theorem d_l_law_1647 : decode (ch_bc m_l_law) 1647 = .ok (.istore 7, 2) := by decide +kernel
theorem d_l_law_1649 : decode (ch_bc m_l_law) 1649 = .ok (.aload_n 2, 1) := by decide +kernel
theorem d_l_law_1650 : decode (ch_bc m_l_law) 1650 = .ok (.invokevirtual 129, 3) := by decide +kernel
theorem d_l_law_1653 : decode (ch_bc m_l_law) 1653 = .ok (.iload 6, 2) := by decide +kernel
theorem d_l_law_1655 : decode (ch_bc m_l_law) 1655 = .ok (.if_icmp .eq 5, 3) := by decide +kernel
theorem d_l_law_1658 : decode (ch_bc m_l_law) 1658 = .ok (.iconst 0, 1) := by decide +kernel
theorem d_l_law_1659 : decode (ch_bc m_l_law) 1659 = .ok (.ireturn, 1) := by decide +kernel
theorem d_l_law_1660 : decode (ch_bc m_l_law) 1660 = .ok (.iload 6, 2) := by decide +kernel
theorem d_l_law_1662 : decode (ch_bc m_l_law) 1662 = .ok (.ifCond .ne 15, 3) := by decide +kernel
theorem d_l_law_1665 : decode (ch_bc m_l_law) 1665 = .ok (.aload_n 3, 1) := by decide +kernel
theorem d_l_law_1666 : decode (ch_bc m_l_law) 1666 = .ok (.iconst 0, 1) := by decide +kernel
theorem d_l_law_1667 : decode (ch_bc m_l_law) 1667 = .ok (.laload, 1) := by decide +kernel
theorem d_l_law_1668 : decode (ch_bc m_l_law) 1668 = .ok (.iload 7, 2) := by decide +kernel
theorem d_l_law_1670 : decode (ch_bc m_l_law) 1670 = .ok (.i2l, 1) := by decide +kernel
theorem d_l_law_1671 : decode (ch_bc m_l_law) 1671 = .ok (.lcmp, 1) := by decide +kernel
theorem d_l_law_1672 : decode (ch_bc m_l_law) 1672 = .ok (.ifCond .eq 5, 3) := by decide +kernel
theorem d_l_law_1675 : decode (ch_bc m_l_law) 1675 = .ok (.iconst 0, 1) := by decide +kernel
theorem d_l_law_1676 : decode (ch_bc m_l_law) 1676 = .ok (.ireturn, 1) := by decide +kernel
theorem d_l_law_1677 : decode (ch_bc m_l_law) 1677 = .ok (.goto 419, 3) := by decide +kernel
theorem d_l_law_1680 : decode (ch_bc m_l_law) 1680 = .ok (.aload_n 1, 1) := by decide +kernel
theorem d_l_law_1681 : decode (ch_bc m_l_law) 1681 = .ok (.invokevirtual 215, 3) := by decide +kernel
theorem d_l_law_1684 : decode (ch_bc m_l_law) 1684 = .ok (.aload_n 2, 1) := by decide +kernel
theorem d_l_law_1685 : decode (ch_bc m_l_law) 1685 = .ok (.invokevirtual 218, 3) := by decide +kernel
theorem d_l_law_1688 : decode (ch_bc m_l_law) 1688 = .ok (.if_icmp .eq 408, 3) := by decide +kernel
theorem d_l_law_1691 : decode (ch_bc m_l_law) 1691 = .ok (.iconst 0, 1) := by decide +kernel
theorem d_l_law_1692 : decode (ch_bc m_l_law) 1692 = .ok (.ireturn, 1) := by decide +kernel
theorem d_l_law_1693 : decode (ch_bc m_l_law) 1693 = .ok (.aload_n 1, 1) := by decide +kernel
theorem d_l_law_1694 : decode (ch_bc m_l_law) 1694 = .ok (.aload_n 0, 1) := by decide +kernel
theorem d_l_law_1695 : decode (ch_bc m_l_law) 1695 = .ok (.iload 5, 2) := by decide +kernel
theorem d_l_law_1697 : decode (ch_bc m_l_law) 1697 = .ok (.iconst 1, 1) := by decide +kernel
theorem d_l_law_1698 : decode (ch_bc m_l_law) 1698 = .ok (.iadd, 1) := by decide +kernel
theorem d_l_law_1699 : decode (ch_bc m_l_law) 1699 = .ok (.iaload, 1) := by decide +kernel
theorem d_l_law_1700 : decode (ch_bc m_l_law) 1700 = .ok (.aload_n 3, 1) := by decide +kernel
theorem d_l_law_1701 : decode (ch_bc m_l_law) 1701 = .ok (.invokestatic 219, 3) := by decide +kernel
theorem d_l_law_1704 : decode (ch_bc m_l_law) 1704 = .ok (.istore 6, 2) := by decide +kernel
theorem d_l_law_1706 : decode (ch_bc m_l_law) 1706 = .ok (.aload_n 2, 1) := by decide +kernel
theorem d_l_law_1707 : decode (ch_bc m_l_law) 1707 = .ok (.aload_n 0, 1) := by decide +kernel
theorem d_l_law_1708 : decode (ch_bc m_l_law) 1708 = .ok (.iload 5, 2) := by decide +kernel
theorem d_l_law_1710 : decode (ch_bc m_l_law) 1710 = .ok (.iconst 1, 1) := by decide +kernel
theorem d_l_law_1711 : decode (ch_bc m_l_law) 1711 = .ok (.iadd, 1) := by decide +kernel
theorem d_l_law_1712 : decode (ch_bc m_l_law) 1712 = .ok (.iaload, 1) := by decide +kernel
theorem d_l_law_1713 : decode (ch_bc m_l_law) 1713 = .ok (.invokevirtual 221, 3) := by decide +kernel
theorem d_l_law_1716 : decode (ch_bc m_l_law) 1716 = .ok (.istore 7, 2) := by decide +kernel
theorem d_l_law_1718 : decode (ch_bc m_l_law) 1718 = .ok (.aload_n 2, 1) := by decide +kernel
theorem d_l_law_1719 : decode (ch_bc m_l_law) 1719 = .ok (.invokevirtual 129, 3) := by decide +kernel
theorem d_l_law_1722 : decode (ch_bc m_l_law) 1722 = .ok (.iload 6, 2) := by decide +kernel
theorem d_l_law_1724 : decode (ch_bc m_l_law) 1724 = .ok (.if_icmp .eq 5, 3) := by decide +kernel
theorem d_l_law_1727 : decode (ch_bc m_l_law) 1727 = .ok (.iconst 0, 1) := by decide +kernel
theorem d_l_law_1728 : decode (ch_bc m_l_law) 1728 = .ok (.ireturn, 1) := by decide +kernel
theorem d_l_law_1729 : decode (ch_bc m_l_law) 1729 = .ok (.iload 6, 2) := by decide +kernel
theorem d_l_law_1731 : decode (ch_bc m_l_law) 1731 = .ok (.ifCond .ne 15, 3) := by decide +kernel
theorem d_l_law_1734 : decode (ch_bc m_l_law) 1734 = .ok (.aload_n 3, 1) := by decide +kernel
theorem d_l_law_1735 : decode (ch_bc m_l_law) 1735 = .ok (.iconst 0, 1) := by decide +kernel
theorem d_l_law_1736 : decode (ch_bc m_l_law) 1736 = .ok (.laload, 1) := by decide +kernel
theorem d_l_law_1737 : decode (ch_bc m_l_law) 1737 = .ok (.iload 7, 2) := by decide +kernel
theorem d_l_law_1739 : decode (ch_bc m_l_law) 1739 = .ok (.i2l, 1) := by decide +kernel
theorem d_l_law_1740 : decode (ch_bc m_l_law) 1740 = .ok (.lcmp, 1) := by decide +kernel
theorem d_l_law_1741 : decode (ch_bc m_l_law) 1741 = .ok (.ifCond .eq 5, 3) := by decide +kernel
theorem d_l_law_1744 : decode (ch_bc m_l_law) 1744 = .ok (.iconst 0, 1) := by decide +kernel
theorem d_l_law_1745 : decode (ch_bc m_l_law) 1745 = .ok (.ireturn, 1) := by decide +kernel
theorem d_l_law_1746 : decode (ch_bc m_l_law) 1746 = .ok (.goto 350, 3) := by decide +kernel
theorem d_l_law_1749 : decode (ch_bc m_l_law) 1749 = .ok (.aload_n 1, 1) := by decide +kernel
theorem d_l_law_1750 : decode (ch_bc m_l_law) 1750 = .ok (.invokevirtual 222, 3) := by decide +kernel
theorem d_l_law_1753 : decode (ch_bc m_l_law) 1753 = .ok (.aload_n 2, 1) := by decide +kernel
theorem d_l_law_1754 : decode (ch_bc m_l_law) 1754 = .ok (.invokevirtual 225, 3) := by decide +kernel
theorem d_l_law_1757 : decode (ch_bc m_l_law) 1757 = .ok (.if_icmp .eq 339, 3) := by decide +kernel
theorem d_l_law_1760 : decode (ch_bc m_l_law) 1760 = .ok (.iconst 0, 1) := by decide +kernel
theorem d_l_law_1761 : decode (ch_bc m_l_law) 1761 = .ok (.ireturn, 1) := by decide +kernel
theorem d_l_law_1762 : decode (ch_bc m_l_law) 1762 = .ok (.aload_n 1, 1) := by decide +kernel
theorem d_l_law_1763 : decode (ch_bc m_l_law) 1763 = .ok (.invokevirtual 226, 3) := by decide +kernel
theorem d_l_law_1766 : decode (ch_bc m_l_law) 1766 = .ok (.aload_n 2, 1) := by decide +kernel
theorem d_l_law_1767 : decode (ch_bc m_l_law) 1767 = .ok (.invokevirtual 229, 3) := by decide +kernel
theorem d_l_law_1770 : decode (ch_bc m_l_law) 1770 = .ok (.if_icmp .eq 326, 3) := by decide +kernel
theorem d_l_law_1773 : decode (ch_bc m_l_law) 1773 = .ok (.iconst 0, 1) := by decide +kernel
theorem d_l_law_1774 : decode (ch_bc m_l_law) 1774 = .ok (.ireturn, 1) := by decide +kernel
theorem d_l_law_1775 : decode (ch_bc m_l_law) 1775 = .ok (.aload_n 1, 1) := by decide +kernel
theorem d_l_law_1776 : decode (ch_bc m_l_law) 1776 = .ok (.aload_n 0, 1) := by decide +kernel
theorem d_l_law_1777 : decode (ch_bc m_l_law) 1777 = .ok (.iload 5, 2) := by decide +kernel
theorem d_l_law_1779 : decode (ch_bc m_l_law) 1779 = .ok (.iconst 1, 1) := by decide +kernel
theorem d_l_law_1780 : decode (ch_bc m_l_law) 1780 = .ok (.iadd, 1) := by decide +kernel
theorem d_l_law_1781 : decode (ch_bc m_l_law) 1781 = .ok (.iaload, 1) := by decide +kernel
theorem d_l_law_1782 : decode (ch_bc m_l_law) 1782 = .ok (.aload_n 3, 1) := by decide +kernel
theorem d_l_law_1783 : decode (ch_bc m_l_law) 1783 = .ok (.invokestatic 230, 3) := by decide +kernel
theorem d_l_law_1786 : decode (ch_bc m_l_law) 1786 = .ok (.istore 6, 2) := by decide +kernel
theorem d_l_law_1788 : decode (ch_bc m_l_law) 1788 = .ok (.aload_n 2, 1) := by decide +kernel
theorem d_l_law_1789 : decode (ch_bc m_l_law) 1789 = .ok (.aload_n 0, 1) := by decide +kernel
theorem d_l_law_1790 : decode (ch_bc m_l_law) 1790 = .ok (.iload 5, 2) := by decide +kernel
theorem d_l_law_1792 : decode (ch_bc m_l_law) 1792 = .ok (.iconst 1, 1) := by decide +kernel
theorem d_l_law_1793 : decode (ch_bc m_l_law) 1793 = .ok (.iadd, 1) := by decide +kernel
theorem d_l_law_1794 : decode (ch_bc m_l_law) 1794 = .ok (.iaload, 1) := by decide +kernel
theorem d_l_law_1795 : decode (ch_bc m_l_law) 1795 = .ok (.invokevirtual 232, 3) := by decide +kernel
theorem d_l_law_1798 : decode (ch_bc m_l_law) 1798 = .ok (.istore 7, 2) := by decide +kernel
theorem d_l_law_1800 : decode (ch_bc m_l_law) 1800 = .ok (.aload_n 2, 1) := by decide +kernel
theorem d_l_law_1801 : decode (ch_bc m_l_law) 1801 = .ok (.invokevirtual 129, 3) := by decide +kernel
theorem d_l_law_1804 : decode (ch_bc m_l_law) 1804 = .ok (.iload 6, 2) := by decide +kernel
theorem d_l_law_1806 : decode (ch_bc m_l_law) 1806 = .ok (.if_icmp .eq 5, 3) := by decide +kernel
theorem d_l_law_1809 : decode (ch_bc m_l_law) 1809 = .ok (.iconst 0, 1) := by decide +kernel
theorem d_l_law_1810 : decode (ch_bc m_l_law) 1810 = .ok (.ireturn, 1) := by decide +kernel
theorem d_l_law_1811 : decode (ch_bc m_l_law) 1811 = .ok (.iload 6, 2) := by decide +kernel
theorem d_l_law_1813 : decode (ch_bc m_l_law) 1813 = .ok (.ifCond .ne 15, 3) := by decide +kernel
theorem d_l_law_1816 : decode (ch_bc m_l_law) 1816 = .ok (.aload_n 3, 1) := by decide +kernel
theorem d_l_law_1817 : decode (ch_bc m_l_law) 1817 = .ok (.iconst 0, 1) := by decide +kernel
theorem d_l_law_1818 : decode (ch_bc m_l_law) 1818 = .ok (.laload, 1) := by decide +kernel
theorem d_l_law_1819 : decode (ch_bc m_l_law) 1819 = .ok (.iload 7, 2) := by decide +kernel
theorem d_l_law_1821 : decode (ch_bc m_l_law) 1821 = .ok (.i2l, 1) := by decide +kernel
theorem d_l_law_1822 : decode (ch_bc m_l_law) 1822 = .ok (.lcmp, 1) := by decide +kernel
theorem d_l_law_1823 : decode (ch_bc m_l_law) 1823 = .ok (.ifCond .eq 5, 3) := by decide +kernel
theorem d_l_law_1826 : decode (ch_bc m_l_law) 1826 = .ok (.iconst 0, 1) := by decide +kernel
theorem d_l_law_1827 : decode (ch_bc m_l_law) 1827 = .ok (.ireturn, 1) := by decide +kernel
theorem d_l_law_1828 : decode (ch_bc m_l_law) 1828 = .ok (.goto 268, 3) := by decide +kernel
theorem d_l_law_1831 : decode (ch_bc m_l_law) 1831 = .ok (.aload_n 1, 1) := by decide +kernel
theorem d_l_law_1832 : decode (ch_bc m_l_law) 1832 = .ok (.aload 4, 2) := by decide +kernel
theorem d_l_law_1834 : decode (ch_bc m_l_law) 1834 = .ok (.invokestatic 233, 3) := by decide +kernel
theorem d_l_law_1837 : decode (ch_bc m_l_law) 1837 = .ok (.istore 6, 2) := by decide +kernel
theorem d_l_law_1839 : decode (ch_bc m_l_law) 1839 = .ok (.aload_n 2, 1) := by decide +kernel
theorem d_l_law_1840 : decode (ch_bc m_l_law) 1840 = .ok (.invokevirtual 236, 3) := by decide +kernel
theorem d_l_law_1843 : decode (ch_bc m_l_law) 1843 = .ok (.dstore 7, 2) := by decide +kernel
theorem d_l_law_1845 : decode (ch_bc m_l_law) 1845 = .ok (.aload_n 2, 1) := by decide +kernel
theorem d_l_law_1846 : decode (ch_bc m_l_law) 1846 = .ok (.invokevirtual 129, 3) := by decide +kernel
theorem d_l_law_1849 : decode (ch_bc m_l_law) 1849 = .ok (.iload 6, 2) := by decide +kernel
theorem d_l_law_1851 : decode (ch_bc m_l_law) 1851 = .ok (.if_icmp .eq 5, 3) := by decide +kernel
theorem d_l_law_1854 : decode (ch_bc m_l_law) 1854 = .ok (.iconst 0, 1) := by decide +kernel
theorem d_l_law_1855 : decode (ch_bc m_l_law) 1855 = .ok (.ireturn, 1) := by decide +kernel
theorem d_l_law_1856 : decode (ch_bc m_l_law) 1856 = .ok (.iload 6, 2) := by decide +kernel
theorem d_l_law_1858 : decode (ch_bc m_l_law) 1858 = .ok (.ifCond .ne 35, 3) := by decide +kernel
theorem d_l_law_1861 : decode (ch_bc m_l_law) 1861 = .ok (.aload 4, 2) := by decide +kernel
theorem d_l_law_1863 : decode (ch_bc m_l_law) 1863 = .ok (.iconst 0, 1) := by decide +kernel
theorem d_l_law_1864 : decode (ch_bc m_l_law) 1864 = .ok (.daload, 1) := by decide +kernel
theorem d_l_law_1865 : decode (ch_bc m_l_law) 1865 = .ok (.dload 7, 2) := by decide +kernel
theorem d_l_law_1867 : decode (ch_bc m_l_law) 1867 = .ok (.dcmp .l, 1) := by decide +kernel
theorem d_l_law_1868 : decode (ch_bc m_l_law) 1868 = .ok (.ifCond .eq 25, 3) := by decide +kernel
theorem d_l_law_1871 : decode (ch_bc m_l_law) 1871 = .ok (.aload 4, 2) := by decide +kernel
theorem d_l_law_1873 : decode (ch_bc m_l_law) 1873 = .ok (.iconst 0, 1) := by decide +kernel
theorem d_l_law_1874 : decode (ch_bc m_l_law) 1874 = .ok (.daload, 1) := by decide +kernel
theorem d_l_law_1875 : decode (ch_bc m_l_law) 1875 = .ok (.aload 4, 2) := by decide +kernel
theorem d_l_law_1877 : decode (ch_bc m_l_law) 1877 = .ok (.iconst 0, 1) := by decide +kernel
theorem d_l_law_1878 : decode (ch_bc m_l_law) 1878 = .ok (.daload, 1) := by decide +kernel
theorem d_l_law_1879 : decode (ch_bc m_l_law) 1879 = .ok (.dcmp .l, 1) := by decide +kernel
theorem d_l_law_1880 : decode (ch_bc m_l_law) 1880 = .ok (.ifCond .eq 11, 3) := by decide +kernel
theorem d_l_law_1883 : decode (ch_bc m_l_law) 1883 = .ok (.dload 7, 2) := by decide +kernel
theorem d_l_law_1885 : decode (ch_bc m_l_law) 1885 = .ok (.dload 7, 2) := by decide +kernel
theorem d_l_law_1887 : decode (ch_bc m_l_law) 1887 = .ok (.dcmp .l, 1) := by decide +kernel
theorem d_l_law_1888 : decode (ch_bc m_l_law) 1888 = .ok (.ifCond .ne 5, 3) := by decide +kernel
theorem d_l_law_1891 : decode (ch_bc m_l_law) 1891 = .ok (.iconst 0, 1) := by decide +kernel
theorem d_l_law_1892 : decode (ch_bc m_l_law) 1892 = .ok (.ireturn, 1) := by decide +kernel
theorem d_l_law_1893 : decode (ch_bc m_l_law) 1893 = .ok (.goto 203, 3) := by decide +kernel
theorem d_l_law_1896 : decode (ch_bc m_l_law) 1896 = .ok (.aload_n 1, 1) := by decide +kernel
theorem d_l_law_1897 : decode (ch_bc m_l_law) 1897 = .ok (.invokevirtual 237, 3) := by decide +kernel
theorem d_l_law_1900 : decode (ch_bc m_l_law) 1900 = .ok (.f2d, 1) := by decide +kernel
theorem d_l_law_1901 : decode (ch_bc m_l_law) 1901 = .ok (.dstore 6, 2) := by decide +kernel
theorem d_l_law_1903 : decode (ch_bc m_l_law) 1903 = .ok (.aload_n 2, 1) := by decide +kernel
theorem d_l_law_1904 : decode (ch_bc m_l_law) 1904 = .ok (.invokevirtual 241, 3) := by decide +kernel
theorem d_l_law_1907 : decode (ch_bc m_l_law) 1907 = .ok (.f2d, 1) := by decide +kernel
theorem d_l_law_1908 : decode (ch_bc m_l_law) 1908 = .ok (.dstore 8, 2) := by decide +kernel
theorem d_l_law_1910 : decode (ch_bc m_l_law) 1910 = .ok (.dload 6, 2) := by decide +kernel
theorem d_l_law_1912 : decode (ch_bc m_l_law) 1912 = .ok (.dload 8, 2) := by decide +kernel
theorem d_l_law_1914 : decode (ch_bc m_l_law) 1914 = .ok (.dcmp .l, 1) := by decide +kernel
theorem d_l_law_1915 : decode (ch_bc m_l_law) 1915 = .ok (.ifCond .eq 21, 3) := by decide +kernel
theorem d_l_law_1918 : decode (ch_bc m_l_law) 1918 = .ok (.dload 6, 2) := by decide +kernel
theorem d_l_law_1920 : decode (ch_bc m_l_law) 1920 = .ok (.dload 6, 2) := by decide +kernel
theorem d_l_law_1922 : decode (ch_bc m_l_law) 1922 = .ok (.dcmp .l, 1) := by decide +kernel
theorem d_l_law_1923 : decode (ch_bc m_l_law) 1923 = .ok (.ifCond .eq 11, 3) := by decide +kernel
theorem d_l_law_1926 : decode (ch_bc m_l_law) 1926 = .ok (.dload 8, 2) := by decide +kernel
theorem d_l_law_1928 : decode (ch_bc m_l_law) 1928 = .ok (.dload 8, 2) := by decide +kernel
theorem d_l_law_1930 : decode (ch_bc m_l_law) 1930 = .ok (.dcmp .l, 1) := by decide +kernel
theorem d_l_law_1931 : decode (ch_bc m_l_law) 1931 = .ok (.ifCond .ne 5, 3) := by decide +kernel
theorem d_l_law_1934 : decode (ch_bc m_l_law) 1934 = .ok (.iconst 0, 1) := by decide +kernel
theorem d_l_law_1935 : decode (ch_bc m_l_law) 1935 = .ok (.ireturn, 1) := by decide +kernel
theorem d_l_law_1936 : decode (ch_bc m_l_law) 1936 = .ok (.goto 160, 3) := by decide +kernel
theorem d_l_law_1939 : decode (ch_bc m_l_law) 1939 = .ok (.aload_n 1, 1) := by decide +kernel
theorem d_l_law_1940 : decode (ch_bc m_l_law) 1940 = .ok (.aload_n 0, 1) := by decide +kernel
theorem d_l_law_1941 : decode (ch_bc m_l_law) 1941 = .ok (.iload 5, 2) := by decide +kernel
theorem d_l_law_1943 : decode (ch_bc m_l_law) 1943 = .ok (.iconst 1, 1) := by decide +kernel
theorem d_l_law_1944 : decode (ch_bc m_l_law) 1944 = .ok (.iadd, 1) := by decide +kernel
theorem d_l_law_1945 : decode (ch_bc m_l_law) 1945 = .ok (.iaload, 1) := by decide +kernel
theorem d_l_law_1946 : decode (ch_bc m_l_law) 1946 = .ok (.aload_n 3, 1) := by decide +kernel
theorem d_l_law_1947 : decode (ch_bc m_l_law) 1947 = .ok (.invokestatic 242, 3) := by decide +kernel
theorem d_l_law_1950 : decode (ch_bc m_l_law) 1950 = .ok (.istore 6, 2) := by decide +kernel
theorem d_l_law_1952 : decode (ch_bc m_l_law) 1952 = .ok (.aload_n 2, 1) := by decide +kernel
theorem d_l_law_1953 : decode (ch_bc m_l_law) 1953 = .ok (.aload_n 0, 1) := by decide +kernel
theorem d_l_law_1954 : decode (ch_bc m_l_law) 1954 = .ok (.iload 5, 2) := by decide +kernel
theorem d_l_law_1956 : decode (ch_bc m_l_law) 1956 = .ok (.iconst 1, 1) := by decide +kernel
theorem d_l_law_1957 : decode (ch_bc m_l_law) 1957 = .ok (.iadd, 1) := by decide +kernel
theorem d_l_law_1958 : decode (ch_bc m_l_law) 1958 = .ok (.iaload, 1) := by decide +kernel
theorem d_l_law_1959 : decode (ch_bc m_l_law) 1959 = .ok (.invokevirtual 244, 3) := by decide +kernel
theorem d_l_law_1962 : decode (ch_bc m_l_law) 1962 = .ok (.istore 7, 2) := by decide +kernel
theorem d_l_law_1964 : decode (ch_bc m_l_law) 1964 = .ok (.aload_n 2, 1) := by decide +kernel
theorem d_l_law_1965 : decode (ch_bc m_l_law) 1965 = .ok (.invokevirtual 129, 3) := by decide +kernel
theorem d_l_law_1968 : decode (ch_bc m_l_law) 1968 = .ok (.iload 6, 2) := by decide +kernel
theorem d_l_law_1970 : decode (ch_bc m_l_law) 1970 = .ok (.if_icmp .eq 5, 3) := by decide +kernel
theorem d_l_law_1973 : decode (ch_bc m_l_law) 1973 = .ok (.iconst 0, 1) := by decide +kernel
theorem d_l_law_1974 : decode (ch_bc m_l_law) 1974 = .ok (.ireturn, 1) := by decide +kernel
theorem d_l_law_1975 : decode (ch_bc m_l_law) 1975 = .ok (.iload 6, 2) := by decide +kernel
theorem d_l_law_1977 : decode (ch_bc m_l_law) 1977 = .ok (.ifCond .ne 15, 3) := by decide +kernel
theorem d_l_law_1980 : decode (ch_bc m_l_law) 1980 = .ok (.aload_n 3, 1) := by decide +kernel
theorem d_l_law_1981 : decode (ch_bc m_l_law) 1981 = .ok (.iconst 0, 1) := by decide +kernel
theorem d_l_law_1982 : decode (ch_bc m_l_law) 1982 = .ok (.laload, 1) := by decide +kernel
theorem d_l_law_1983 : decode (ch_bc m_l_law) 1983 = .ok (.iload 7, 2) := by decide +kernel
theorem d_l_law_1985 : decode (ch_bc m_l_law) 1985 = .ok (.i2l, 1) := by decide +kernel
theorem d_l_law_1986 : decode (ch_bc m_l_law) 1986 = .ok (.lcmp, 1) := by decide +kernel
theorem d_l_law_1987 : decode (ch_bc m_l_law) 1987 = .ok (.ifCond .eq 5, 3) := by decide +kernel
theorem d_l_law_1990 : decode (ch_bc m_l_law) 1990 = .ok (.iconst 0, 1) := by decide +kernel
theorem d_l_law_1991 : decode (ch_bc m_l_law) 1991 = .ok (.ireturn, 1) := by decide +kernel
theorem d_l_law_1992 : decode (ch_bc m_l_law) 1992 = .ok (.goto 104, 3) := by decide +kernel
theorem d_l_law_1995 : decode (ch_bc m_l_law) 1995 = .ok (.aload_n 1, 1) := by decide +kernel
theorem d_l_law_1996 : decode (ch_bc m_l_law) 1996 = .ok (.aload_n 3, 1) := by decide +kernel
theorem d_l_law_1997 : decode (ch_bc m_l_law) 1997 = .ok (.invokestatic 245, 3) := by decide +kernel
theorem d_l_law_2000 : decode (ch_bc m_l_law) 2000 = .ok (.istore 6, 2) := by decide +kernel
theorem d_l_law_2002 : decode (ch_bc m_l_law) 2002 = .ok (.aload_n 2, 1) := by decide +kernel
theorem d_l_law_2003 : decode (ch_bc m_l_law) 2003 = .ok (.invokevirtual 247, 3) := by decide +kernel
theorem d_l_law_2006 : decode (ch_bc m_l_law) 2006 = .ok (.istore 7, 2) := by decide +kernel
theorem d_l_law_2008 : decode (ch_bc m_l_law) 2008 = .ok (.aload_n 2, 1) := by decide +kernel
theorem d_l_law_2009 : decode (ch_bc m_l_law) 2009 = .ok (.invokevirtual 129, 3) := by decide +kernel
theorem d_l_law_2012 : decode (ch_bc m_l_law) 2012 = .ok (.iload 6, 2) := by decide +kernel
theorem d_l_law_2014 : decode (ch_bc m_l_law) 2014 = .ok (.if_icmp .eq 5, 3) := by decide +kernel
theorem d_l_law_2017 : decode (ch_bc m_l_law) 2017 = .ok (.iconst 0, 1) := by decide +kernel
theorem d_l_law_2018 : decode (ch_bc m_l_law) 2018 = .ok (.ireturn, 1) := by decide +kernel
theorem d_l_law_2019 : decode (ch_bc m_l_law) 2019 = .ok (.iload 6, 2) := by decide +kernel
theorem d_l_law_2021 : decode (ch_bc m_l_law) 2021 = .ok (.ifCond .ne 15, 3) := by decide +kernel
theorem d_l_law_2024 : decode (ch_bc m_l_law) 2024 = .ok (.aload_n 3, 1) := by decide +kernel
theorem d_l_law_2025 : decode (ch_bc m_l_law) 2025 = .ok (.iconst 0, 1) := by decide +kernel
theorem d_l_law_2026 : decode (ch_bc m_l_law) 2026 = .ok (.laload, 1) := by decide +kernel
theorem d_l_law_2027 : decode (ch_bc m_l_law) 2027 = .ok (.iload 7, 2) := by decide +kernel
theorem d_l_law_2029 : decode (ch_bc m_l_law) 2029 = .ok (.i2l, 1) := by decide +kernel
theorem d_l_law_2030 : decode (ch_bc m_l_law) 2030 = .ok (.lcmp, 1) := by decide +kernel
theorem d_l_law_2031 : decode (ch_bc m_l_law) 2031 = .ok (.ifCond .eq 5, 3) := by decide +kernel
theorem d_l_law_2034 : decode (ch_bc m_l_law) 2034 = .ok (.iconst 0, 1) := by decide +kernel
theorem d_l_law_2035 : decode (ch_bc m_l_law) 2035 = .ok (.ireturn, 1) := by decide +kernel
theorem d_l_law_2036 : decode (ch_bc m_l_law) 2036 = .ok (.goto 60, 3) := by decide +kernel
theorem d_l_law_2039 : decode (ch_bc m_l_law) 2039 = .ok (.aload_n 1, 1) := by decide +kernel
theorem d_l_law_2040 : decode (ch_bc m_l_law) 2040 = .ok (.invokevirtual 248, 3) := by decide +kernel
theorem d_l_law_2043 : decode (ch_bc m_l_law) 2043 = .ok (.aload_n 2, 1) := by decide +kernel
theorem d_l_law_2044 : decode (ch_bc m_l_law) 2044 = .ok (.invokevirtual 251, 3) := by decide +kernel
theorem d_l_law_2047 : decode (ch_bc m_l_law) 2047 = .ok (.if_icmp .eq 49, 3) := by decide +kernel
theorem d_l_law_2050 : decode (ch_bc m_l_law) 2050 = .ok (.iconst 0, 1) := by decide +kernel
theorem d_l_law_2051 : decode (ch_bc m_l_law) 2051 = .ok (.ireturn, 1) := by decide +kernel
theorem d_l_law_2052 : decode (ch_bc m_l_law) 2052 = .ok (.aload_n 1, 1) := by decide +kernel
theorem d_l_law_2053 : decode (ch_bc m_l_law) 2053 = .ok (.aload_n 3, 1) := by decide +kernel
theorem d_l_law_2054 : decode (ch_bc m_l_law) 2054 = .ok (.invokestatic 252, 3) := by decide +kernel
theorem d_l_law_2057 : decode (ch_bc m_l_law) 2057 = .ok (.istore 6, 2) := by decide +kernel
theorem d_l_law_2059 : decode (ch_bc m_l_law) 2059 = .ok (.aload_n 2, 1) := by decide +kernel
theorem d_l_law_2060 : decode (ch_bc m_l_law) 2060 = .ok (.invokevirtual 254, 3) := by decide +kernel
theorem d_l_law_2063 : decode (ch_bc m_l_law) 2063 = .ok (.istore 7, 2) := by decide +kernel
theorem d_l_law_2065 : decode (ch_bc m_l_law) 2065 = .ok (.aload_n 2, 1) := by decide +kernel
theorem d_l_law_2066 : decode (ch_bc m_l_law) 2066 = .ok (.invokevirtual 129, 3) := by decide +kernel
theorem d_l_law_2069 : decode (ch_bc m_l_law) 2069 = .ok (.iload 6, 2) := by decide +kernel
theorem d_l_law_2071 : decode (ch_bc m_l_law) 2071 = .ok (.if_icmp .eq 5, 3) := by decide +kernel
theorem d_l_law_2074 : decode (ch_bc m_l_law) 2074 = .ok (.iconst 0, 1) := by decide +kernel
theorem d_l_law_2075 : decode (ch_bc m_l_law) 2075 = .ok (.ireturn, 1) := by decide +kernel
theorem d_l_law_2076 : decode (ch_bc m_l_law) 2076 = .ok (.iload 6, 2) := by decide +kernel
theorem d_l_law_2078 : decode (ch_bc m_l_law) 2078 = .ok (.ifCond .ne 15, 3) := by decide +kernel
theorem d_l_law_2081 : decode (ch_bc m_l_law) 2081 = .ok (.aload_n 3, 1) := by decide +kernel
theorem d_l_law_2082 : decode (ch_bc m_l_law) 2082 = .ok (.iconst 0, 1) := by decide +kernel
theorem d_l_law_2083 : decode (ch_bc m_l_law) 2083 = .ok (.laload, 1) := by decide +kernel
theorem d_l_law_2084 : decode (ch_bc m_l_law) 2084 = .ok (.iload 7, 2) := by decide +kernel
theorem d_l_law_2086 : decode (ch_bc m_l_law) 2086 = .ok (.i2l, 1) := by decide +kernel
theorem d_l_law_2087 : decode (ch_bc m_l_law) 2087 = .ok (.lcmp, 1) := by decide +kernel
theorem d_l_law_2088 : decode (ch_bc m_l_law) 2088 = .ok (.ifCond .eq 5, 3) := by decide +kernel
theorem d_l_law_2091 : decode (ch_bc m_l_law) 2091 = .ok (.iconst 0, 1) := by decide +kernel
theorem d_l_law_2092 : decode (ch_bc m_l_law) 2092 = .ok (.ireturn, 1) := by decide +kernel
theorem d_l_law_2093 : decode (ch_bc m_l_law) 2093 = .ok (.goto 3, 3) := by decide +kernel
theorem d_l_law_2096 : decode (ch_bc m_l_law) 2096 = .ok (.iinc 5 4, 3) := by decide +kernel
theorem d_l_law_2099 : decode (ch_bc m_l_law) 2099 = .ok (.goto (-2071), 3) := by decide +kernel
theorem d_l_law_2102 : decode (ch_bc m_l_law) 2102 = .ok (.iconst 1, 1) := by decide +kernel
theorem d_l_law_2103 : decode (ch_bc m_l_law) 2103 = .ok (.ireturn, 1) := by decide +kernel
