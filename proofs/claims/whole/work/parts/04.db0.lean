theorem dX3_init_0 : decode cX3_init 0 = .ok (.aload_n 0, 1) := by decide +kernel
theorem dX3_init_1 : decode cX3_init 1 = .ok (.invokespecial 1, 3) := by decide +kernel
theorem dX3_init_4 : decode cX3_init 4 = .ok (.aload_n 0, 1) := by decide +kernel
theorem dX3_init_5 : decode cX3_init 5 = .ok (.bipush 32, 2) := by decide +kernel
theorem dX3_init_7 : decode cX3_init 7 = .ok (.newarray .long, 2) := by decide +kernel
theorem dX3_init_9 : decode cX3_init 9 = .ok (.putfield 9, 3) := by decide +kernel
theorem dX3_init_12 : decode cX3_init 12 = .ok (.aload_n 0, 1) := by decide +kernel
theorem dX3_init_13 : decode cX3_init 13 = .ok (.iconst 0, 1) := by decide +kernel
theorem dX3_init_14 : decode cX3_init 14 = .ok (.putfield 13, 3) := by decide +kernel
theorem dX3_init_17 : decode cX3_init 17 = .ok (.return_, 1) := by decide +kernel
theorem dX3_get_0 : decode cX3_get 0 = .ok (.iload_n 1, 1) := by decide +kernel
theorem dX3_get_1 : decode cX3_get 1 = .ok (.invokestatic 17, 3) := by decide +kernel
theorem dX3_get_4 : decode cX3_get 4 = .ok (.ifCond .ne 13, 3) := by decide +kernel
theorem dX3_get_7 : decode cX3_get 7 = .ok (.new 21, 3) := by decide +kernel
theorem dX3_get_10 : decode cX3_get 10 = .ok (.dup, 1) := by decide +kernel
theorem dX3_get_11 : decode cX3_get 11 = .ok (.ldc 23, 2) := by decide +kernel
theorem dX3_get_13 : decode cX3_get 13 = .ok (.invokespecial 25, 3) := by decide +kernel
theorem dX3_get_16 : decode cX3_get 16 = .ok (.athrow, 1) := by decide +kernel
theorem dX3_get_17 : decode cX3_get 17 = .ok (.aload_n 0, 1) := by decide +kernel
theorem dX3_get_18 : decode cX3_get 18 = .ok (.getfield 9, 3) := by decide +kernel
theorem dX3_get_21 : decode cX3_get 21 = .ok (.iload_n 1, 1) := by decide +kernel
theorem dX3_get_22 : decode cX3_get 22 = .ok (.laload, 1) := by decide +kernel
theorem dX3_get_23 : decode cX3_get 23 = .ok (.lreturn, 1) := by decide +kernel
theorem dX3_set_0 : decode cX3_set 0 = .ok (.iload_n 1, 1) := by decide +kernel
theorem dX3_set_1 : decode cX3_set 1 = .ok (.invokestatic 17, 3) := by decide +kernel
theorem dX3_set_4 : decode cX3_set 4 = .ok (.ifCond .ne 13, 3) := by decide +kernel
theorem dX3_set_7 : decode cX3_set 7 = .ok (.new 21, 3) := by decide +kernel
theorem dX3_set_10 : decode cX3_set 10 = .ok (.dup, 1) := by decide +kernel
theorem dX3_set_11 : decode cX3_set 11 = .ok (.ldc 23, 2) := by decide +kernel
theorem dX3_set_13 : decode cX3_set 13 = .ok (.invokespecial 25, 3) := by decide +kernel
theorem dX3_set_16 : decode cX3_set 16 = .ok (.athrow, 1) := by decide +kernel
theorem dX3_set_17 : decode cX3_set 17 = .ok (.aload_n 0, 1) := by decide +kernel
theorem dX3_set_18 : decode cX3_set 18 = .ok (.iload_n 1, 1) := by decide +kernel
theorem dX3_set_19 : decode cX3_set 19 = .ok (.lload_n 2, 1) := by decide +kernel
theorem dX3_set_20 : decode cX3_set 20 = .ok (.invokevirtual 28, 3) := by decide +kernel
theorem dX3_set_23 : decode cX3_set 23 = .ok (.return_, 1) := by decide +kernel
theorem dX3_counter_0 : decode cX3_counter 0 = .ok (.aload_n 0, 1) := by decide +kernel
theorem dX3_counter_1 : decode cX3_counter 1 = .ok (.getfield 32, 3) := by decide +kernel
theorem dX3_counter_4 : decode cX3_counter 4 = .ok (.lreturn, 1) := by decide +kernel
theorem dX3_jump_0 : decode cX3_jump 0 = .ok (.aload_n 0, 1) := by decide +kernel
theorem dX3_jump_1 : decode cX3_jump 1 = .ok (.lload_n 1, 1) := by decide +kernel
theorem dX3_jump_2 : decode cX3_jump 2 = .ok (.ldc2_w 36, 3) := by decide +kernel
theorem dX3_jump_5 : decode cX3_jump 5 = .ok (.land, 1) := by decide +kernel
theorem dX3_jump_6 : decode cX3_jump 6 = .ok (.putfield 32, 3) := by decide +kernel
theorem dX3_jump_9 : decode cX3_jump 9 = .ok (.aload_n 0, 1) := by decide +kernel
theorem dX3_jump_10 : decode cX3_jump 10 = .ok (.iconst 0, 1) := by decide +kernel
theorem dX3_jump_11 : decode cX3_jump 11 = .ok (.putfield 13, 3) := by decide +kernel
theorem dX3_jump_14 : decode cX3_jump 14 = .ok (.return_, 1) := by decide +kernel
theorem dX3_run_0 : decode cX3_run 0 = .ok (.iload_n 2, 1) := by decide +kernel
theorem dX3_run_1 : decode cX3_run 1 = .ok (.iconst 2, 1) := by decide +kernel
theorem dX3_run_2 : decode cX3_run 2 = .ok (.if_icmp .eq 18, 3) := by decide +kernel
theorem dX3_run_5 : decode cX3_run 5 = .ok (.iload_n 2, 1) := by decide +kernel
theorem dX3_run_6 : decode cX3_run 6 = .ok (.iconst 4, 1) := by decide +kernel
theorem dX3_run_7 : decode cX3_run 7 = .ok (.if_icmp .eq 13, 3) := by decide +kernel
theorem dX3_run_10 : decode cX3_run 10 = .ok (.new 38, 3) := by decide +kernel
theorem dX3_run_13 : decode cX3_run 13 = .ok (.dup, 1) := by decide +kernel
theorem dX3_run_14 : decode cX3_run 14 = .ok (.ldc 40, 2) := by decide +kernel
theorem dX3_run_16 : decode cX3_run 16 = .ok (.invokespecial 42, 3) := by decide +kernel
theorem dX3_run_19 : decode cX3_run 19 = .ok (.athrow, 1) := by decide +kernel
theorem dX3_run_20 : decode cX3_run 20 = .ok (.aload_n 0, 1) := by decide +kernel
theorem dX3_run_21 : decode cX3_run 21 = .ok (.iconst 0, 1) := by decide +kernel
theorem dX3_run_22 : decode cX3_run 22 = .ok (.putfield 13, 3) := by decide +kernel
theorem dX3_run_25 : decode cX3_run 25 = .ok (.aload_n 0, 1) := by decide +kernel
theorem dX3_run_26 : decode cX3_run 26 = .ok (.iload_n 2, 1) := by decide +kernel
theorem dX3_run_27 : decode cX3_run 27 = .ok (.putfield 43, 3) := by decide +kernel
theorem dX3_run_30 : decode cX3_run 30 = .ok (.iload_n 1, 1) := by decide +kernel
theorem dX3_run_31 : decode cX3_run 31 = .ok (.invokestatic 46, 3) := by decide +kernel
theorem dX3_run_34 : decode cX3_run 34 = .ok (.lookupswitch 320 #[(3, 263), (7, 281), (15, 257), (19, 233), (23, 189), (27, 245), (35, 269), (39, 287), (47, 275), (51, 239), (55, 178), (59, 251), (67, 293), (71, 293), (75, 293), (79, 293), (83, 293), (99, 227), (103, 221), (111, 205), (115, 314)], 178) := by decide +kernel
theorem dX3_run_212 : decode cX3_run 212 = .ok (.aload_n 0, 1) := by decide +kernel
theorem dX3_run_213 : decode cX3_run 213 = .ok (.iload_n 1, 1) := by decide +kernel
theorem dX3_run_214 : decode cX3_run 214 = .ok (.iload_n 1, 1) := by decide +kernel
theorem dX3_run_215 : decode cX3_run 215 = .ok (.invokestatic 52, 3) := by decide +kernel
theorem dX3_run_218 : decode cX3_run 218 = .ok (.i2l, 1) := by decide +kernel
theorem dX3_run_219 : decode cX3_run 219 = .ok (.invokevirtual 55, 3) := by decide +kernel
theorem dX3_run_222 : decode cX3_run 222 = .ok (.ireturn, 1) := by decide +kernel
theorem dX3_run_223 : decode cX3_run 223 = .ok (.aload_n 0, 1) := by decide +kernel
theorem dX3_run_224 : decode cX3_run 224 = .ok (.iload_n 1, 1) := by decide +kernel
theorem dX3_run_225 : decode cX3_run 225 = .ok (.aload_n 0, 1) := by decide +kernel
theorem dX3_run_226 : decode cX3_run 226 = .ok (.getfield 32, 3) := by decide +kernel
theorem dX3_run_229 : decode cX3_run 229 = .ok (.iload_n 1, 1) := by decide +kernel
theorem dX3_run_230 : decode cX3_run 230 = .ok (.invokestatic 52, 3) := by decide +kernel
theorem dX3_run_233 : decode cX3_run 233 = .ok (.i2l, 1) := by decide +kernel
theorem dX3_run_234 : decode cX3_run 234 = .ok (.ladd, 1) := by decide +kernel
theorem dX3_run_235 : decode cX3_run 235 = .ok (.invokevirtual 55, 3) := by decide +kernel
theorem dX3_run_238 : decode cX3_run 238 = .ok (.ireturn, 1) := by decide +kernel
theorem dX3_run_239 : decode cX3_run 239 = .ok (.aload_n 0, 1) := by decide +kernel
theorem dX3_run_240 : decode cX3_run 240 = .ok (.iload_n 1, 1) := by decide +kernel
theorem dX3_run_241 : decode cX3_run 241 = .ok (.aload_n 0, 1) := by decide +kernel
theorem dX3_run_242 : decode cX3_run 242 = .ok (.getfield 32, 3) := by decide +kernel
theorem dX3_run_245 : decode cX3_run 245 = .ok (.iload_n 1, 1) := by decide +kernel
theorem dX3_run_246 : decode cX3_run 246 = .ok (.invokestatic 59, 3) := by decide +kernel
theorem dX3_run_249 : decode cX3_run 249 = .ok (.i2l, 1) := by decide +kernel
theorem dX3_run_250 : decode cX3_run 250 = .ok (.ladd, 1) := by decide +kernel
theorem dX3_run_251 : decode cX3_run 251 = .ok (.invokevirtual 62, 3) := by decide +kernel
theorem dX3_run_254 : decode cX3_run 254 = .ok (.ireturn, 1) := by decide +kernel
theorem dX3_run_255 : decode cX3_run 255 = .ok (.aload_n 0, 1) := by decide +kernel
theorem dX3_run_256 : decode cX3_run 256 = .ok (.iload_n 1, 1) := by decide +kernel
theorem dX3_run_257 : decode cX3_run 257 = .ok (.invokevirtual 65, 3) := by decide +kernel
theorem dX3_run_260 : decode cX3_run 260 = .ok (.ireturn, 1) := by decide +kernel
theorem dX3_run_261 : decode cX3_run 261 = .ok (.aload_n 0, 1) := by decide +kernel
theorem dX3_run_262 : decode cX3_run 262 = .ok (.iload_n 1, 1) := by decide +kernel
theorem dX3_run_263 : decode cX3_run 263 = .ok (.invokevirtual 68, 3) := by decide +kernel
theorem dX3_run_266 : decode cX3_run 266 = .ok (.ireturn, 1) := by decide +kernel
theorem dX3_run_267 : decode cX3_run 267 = .ok (.aload_n 0, 1) := by decide +kernel
theorem dX3_run_268 : decode cX3_run 268 = .ok (.iload_n 1, 1) := by decide +kernel
theorem dX3_run_269 : decode cX3_run 269 = .ok (.invokevirtual 71, 3) := by decide +kernel
theorem dX3_run_272 : decode cX3_run 272 = .ok (.ireturn, 1) := by decide +kernel
theorem dX3_run_273 : decode cX3_run 273 = .ok (.aload_n 0, 1) := by decide +kernel
theorem dX3_run_274 : decode cX3_run 274 = .ok (.iload_n 1, 1) := by decide +kernel
theorem dX3_run_275 : decode cX3_run 275 = .ok (.invokevirtual 74, 3) := by decide +kernel
theorem dX3_run_278 : decode cX3_run 278 = .ok (.ireturn, 1) := by decide +kernel
theorem dX3_run_279 : decode cX3_run 279 = .ok (.aload_n 0, 1) := by decide +kernel
theorem dX3_run_280 : decode cX3_run 280 = .ok (.iload_n 1, 1) := by decide +kernel
theorem dX3_run_281 : decode cX3_run 281 = .ok (.invokevirtual 77, 3) := by decide +kernel
theorem dX3_run_284 : decode cX3_run 284 = .ok (.ireturn, 1) := by decide +kernel
theorem dX3_run_285 : decode cX3_run 285 = .ok (.aload_n 0, 1) := by decide +kernel
theorem dX3_run_286 : decode cX3_run 286 = .ok (.iload_n 1, 1) := by decide +kernel
theorem dX3_run_287 : decode cX3_run 287 = .ok (.invokevirtual 80, 3) := by decide +kernel
theorem dX3_run_290 : decode cX3_run 290 = .ok (.ireturn, 1) := by decide +kernel
theorem dX3_run_291 : decode cX3_run 291 = .ok (.aload_n 0, 1) := by decide +kernel
theorem dX3_run_292 : decode cX3_run 292 = .ok (.iload_n 1, 1) := by decide +kernel
theorem dX3_run_293 : decode cX3_run 293 = .ok (.invokevirtual 83, 3) := by decide +kernel
theorem dX3_run_296 : decode cX3_run 296 = .ok (.ireturn, 1) := by decide +kernel
theorem dX3_run_297 : decode cX3_run 297 = .ok (.aload_n 0, 1) := by decide +kernel
theorem dX3_run_298 : decode cX3_run 298 = .ok (.iload_n 1, 1) := by decide +kernel
theorem dX3_run_299 : decode cX3_run 299 = .ok (.invokevirtual 86, 3) := by decide +kernel
theorem dX3_run_302 : decode cX3_run 302 = .ok (.ireturn, 1) := by decide +kernel
theorem dX3_run_303 : decode cX3_run 303 = .ok (.aload_n 0, 1) := by decide +kernel
theorem dX3_run_304 : decode cX3_run 304 = .ok (.iload_n 1, 1) := by decide +kernel
theorem dX3_run_305 : decode cX3_run 305 = .ok (.invokevirtual 89, 3) := by decide +kernel
theorem dX3_run_308 : decode cX3_run 308 = .ok (.ireturn, 1) := by decide +kernel
theorem dX3_run_309 : decode cX3_run 309 = .ok (.aload_n 0, 1) := by decide +kernel
theorem dX3_run_310 : decode cX3_run 310 = .ok (.iload_n 1, 1) := by decide +kernel
theorem dX3_run_311 : decode cX3_run 311 = .ok (.invokevirtual 92, 3) := by decide +kernel
theorem dX3_run_314 : decode cX3_run 314 = .ok (.ireturn, 1) := by decide +kernel
theorem dX3_run_315 : decode cX3_run 315 = .ok (.aload_n 0, 1) := by decide +kernel
theorem dX3_run_316 : decode cX3_run 316 = .ok (.iload_n 1, 1) := by decide +kernel
theorem dX3_run_317 : decode cX3_run 317 = .ok (.invokevirtual 95, 3) := by decide +kernel
theorem dX3_run_320 : decode cX3_run 320 = .ok (.ireturn, 1) := by decide +kernel
theorem dX3_run_321 : decode cX3_run 321 = .ok (.aload_n 0, 1) := by decide +kernel
theorem dX3_run_322 : decode cX3_run 322 = .ok (.iload_n 1, 1) := by decide +kernel
theorem dX3_run_323 : decode cX3_run 323 = .ok (.invokevirtual 98, 3) := by decide +kernel
theorem dX3_run_326 : decode cX3_run 326 = .ok (.ireturn, 1) := by decide +kernel
theorem dX3_run_327 : decode cX3_run 327 = .ok (.aload_n 0, 1) := by decide +kernel
theorem dX3_run_328 : decode cX3_run 328 = .ok (.iconst 5, 1) := by decide +kernel
theorem dX3_run_329 : decode cX3_run 329 = .ok (.lconst 0, 1) := by decide +kernel
theorem dX3_run_330 : decode cX3_run 330 = .ok (.iconst 0, 1) := by decide +kernel
theorem dX3_run_331 : decode cX3_run 331 = .ok (.aload_n 0, 1) := by decide +kernel
theorem dX3_run_332 : decode cX3_run 332 = .ok (.iload_n 1, 1) := by decide +kernel
theorem dX3_run_333 : decode cX3_run 333 = .ok (.invokevirtual 101, 3) := by decide +kernel
theorem dX3_run_336 : decode cX3_run 336 = .ok (.iload_n 1, 1) := by decide +kernel
theorem dX3_run_337 : decode cX3_run 337 = .ok (.invokestatic 46, 3) := by decide +kernel
theorem dX3_run_340 : decode cX3_run 340 = .ok (.iload_n 1, 1) := by decide +kernel
theorem dX3_run_341 : decode cX3_run 341 = .ok (.invokestatic 105, 3) := by decide +kernel
theorem dX3_run_344 : decode cX3_run 344 = .ok (.invokevirtual 108, 3) := by decide +kernel
theorem dX3_run_347 : decode cX3_run 347 = .ok (.ireturn, 1) := by decide +kernel
theorem dX3_run_348 : decode cX3_run 348 = .ok (.aload_n 0, 1) := by decide +kernel
theorem dX3_run_349 : decode cX3_run 349 = .ok (.iload_n 1, 1) := by decide +kernel
theorem dX3_run_350 : decode cX3_run 350 = .ok (.invokevirtual 112, 3) := by decide +kernel
theorem dX3_run_353 : decode cX3_run 353 = .ok (.ireturn, 1) := by decide +kernel
theorem dX3_run_354 : decode cX3_run 354 = .ok (.iconst (-1), 1) := by decide +kernel
theorem dX3_run_355 : decode cX3_run 355 = .ok (.ireturn, 1) := by decide +kernel
theorem dX3_wanted_0 : decode cX3_wanted 0 = .ok (.aload_n 0, 1) := by decide +kernel
theorem dX3_wanted_1 : decode cX3_wanted 1 = .ok (.getfield 13, 3) := by decide +kernel
theorem dX3_wanted_4 : decode cX3_wanted 4 = .ok (.ifCond .ne 7, 3) := by decide +kernel
theorem dX3_wanted_7 : decode cX3_wanted 7 = .ok (.ldc2_w 115, 3) := by decide +kernel
theorem dX3_wanted_10 : decode cX3_wanted 10 = .ok (.lreturn, 1) := by decide +kernel
theorem dX3_wanted_11 : decode cX3_wanted 11 = .ok (.iload_n 1, 1) := by decide +kernel
theorem dX3_wanted_12 : decode cX3_wanted 12 = .ok (.tableswitch 64 0 4 #[36, 41, 47, 52, 58], 36) := by decide +kernel
theorem dX3_wanted_48 : decode cX3_wanted 48 = .ok (.aload_n 0, 1) := by decide +kernel
theorem dX3_wanted_49 : decode cX3_wanted 49 = .ok (.getfield 117, 3) := by decide +kernel
theorem dX3_wanted_52 : decode cX3_wanted 52 = .ok (.lreturn, 1) := by decide +kernel
theorem dX3_wanted_53 : decode cX3_wanted 53 = .ok (.aload_n 0, 1) := by decide +kernel
theorem dX3_wanted_54 : decode cX3_wanted 54 = .ok (.getfield 120, 3) := by decide +kernel
theorem dX3_wanted_57 : decode cX3_wanted 57 = .ok (.i2l, 1) := by decide +kernel
theorem dX3_wanted_58 : decode cX3_wanted 58 = .ok (.lreturn, 1) := by decide +kernel
theorem dX3_wanted_59 : decode cX3_wanted 59 = .ok (.aload_n 0, 1) := by decide +kernel
theorem dX3_wanted_60 : decode cX3_wanted 60 = .ok (.getfield 123, 3) := by decide +kernel
theorem dX3_wanted_63 : decode cX3_wanted 63 = .ok (.lreturn, 1) := by decide +kernel
theorem dX3_wanted_64 : decode cX3_wanted 64 = .ok (.aload_n 0, 1) := by decide +kernel
theorem dX3_wanted_65 : decode cX3_wanted 65 = .ok (.getfield 126, 3) := by decide +kernel
theorem dX3_wanted_68 : decode cX3_wanted 68 = .ok (.i2l, 1) := by decide +kernel
theorem dX3_wanted_69 : decode cX3_wanted 69 = .ok (.lreturn, 1) := by decide +kernel
theorem dX3_wanted_70 : decode cX3_wanted 70 = .ok (.aload_n 0, 1) := by decide +kernel
theorem dX3_wanted_71 : decode cX3_wanted 71 = .ok (.getfield 129, 3) := by decide +kernel
theorem dX3_wanted_74 : decode cX3_wanted 74 = .ok (.i2l, 1) := by decide +kernel
theorem dX3_wanted_75 : decode cX3_wanted 75 = .ok (.lreturn, 1) := by decide +kernel
theorem dX3_wanted_76 : decode cX3_wanted 76 = .ok (.ldc2_w 115, 3) := by decide +kernel
theorem dX3_wanted_79 : decode cX3_wanted 79 = .ok (.lreturn, 1) := by decide +kernel
theorem dX3_finish_0 : decode cX3_finish 0 = .ok (.aload_n 0, 1) := by decide +kernel
theorem dX3_finish_1 : decode cX3_finish 1 = .ok (.getfield 13, 3) := by decide +kernel
theorem dX3_finish_4 : decode cX3_finish 4 = .ok (.ifCond .ne 13, 3) := by decide +kernel
theorem dX3_finish_7 : decode cX3_finish 7 = .ok (.new 132, 3) := by decide +kernel
theorem dX3_finish_10 : decode cX3_finish 10 = .ok (.dup, 1) := by decide +kernel
theorem dX3_finish_11 : decode cX3_finish 11 = .ok (.ldc 134, 2) := by decide +kernel
theorem dX3_finish_13 : decode cX3_finish 13 = .ok (.invokespecial 136, 3) := by decide +kernel
theorem dX3_finish_16 : decode cX3_finish 16 = .ok (.athrow, 1) := by decide +kernel
theorem dX3_finish_17 : decode cX3_finish 17 = .ok (.aload_n 0, 1) := by decide +kernel
theorem dX3_finish_18 : decode cX3_finish 18 = .ok (.getfield 13, 3) := by decide +kernel
theorem dX3_finish_21 : decode cX3_finish 21 = .ok (.istore 4, 2) := by decide +kernel
theorem dX3_finish_23 : decode cX3_finish 23 = .ok (.iload_n 1, 1) := by decide +kernel
theorem dX3_finish_24 : decode cX3_finish 24 = .ok (.ifCond .eq 16, 3) := by decide +kernel
theorem dX3_finish_27 : decode cX3_finish 27 = .ok (.aload_n 0, 1) := by decide +kernel
theorem dX3_finish_28 : decode cX3_finish 28 = .ok (.aload_n 0, 1) := by decide +kernel
theorem dX3_finish_29 : decode cX3_finish 29 = .ok (.getfield 129, 3) := by decide +kernel
theorem dX3_finish_32 : decode cX3_finish 32 = .ok (.aload_n 0, 1) := by decide +kernel
theorem dX3_finish_33 : decode cX3_finish 33 = .ok (.lload_n 2, 1) := by decide +kernel
theorem dX3_finish_34 : decode cX3_finish 34 = .ok (.invokevirtual 137, 3) := by decide +kernel
theorem dX3_finish_37 : decode cX3_finish 37 = .ok (.invokevirtual 28, 3) := by decide +kernel
theorem dX3_finish_40 : decode cX3_finish 40 = .ok (.aload_n 0, 1) := by decide +kernel
theorem dX3_finish_41 : decode cX3_finish 41 = .ok (.iconst 0, 1) := by decide +kernel
theorem dX3_finish_42 : decode cX3_finish 42 = .ok (.putfield 13, 3) := by decide +kernel
theorem dX3_finish_45 : decode cX3_finish 45 = .ok (.aload_n 0, 1) := by decide +kernel
theorem dX3_finish_46 : decode cX3_finish 46 = .ok (.aload_n 0, 1) := by decide +kernel
theorem dX3_finish_47 : decode cX3_finish 47 = .ok (.getfield 32, 3) := by decide +kernel
theorem dX3_finish_50 : decode cX3_finish 50 = .ok (.aload_n 0, 1) := by decide +kernel
theorem dX3_finish_51 : decode cX3_finish 51 = .ok (.getfield 43, 3) := by decide +kernel
theorem dX3_finish_54 : decode cX3_finish 54 = .ok (.i2l, 1) := by decide +kernel
theorem dX3_finish_55 : decode cX3_finish 55 = .ok (.ladd, 1) := by decide +kernel
theorem dX3_finish_56 : decode cX3_finish 56 = .ok (.invokevirtual 141, 3) := by decide +kernel
theorem dX3_finish_59 : decode cX3_finish 59 = .ok (.pop, 1) := by decide +kernel
theorem dX3_finish_60 : decode cX3_finish 60 = .ok (.iload 4, 2) := by decide +kernel
theorem dX3_finish_62 : decode cX3_finish 62 = .ok (.ireturn, 1) := by decide +kernel
theorem dX3_done_0 : decode cX3_done 0 = .ok (.aload_n 0, 1) := by decide +kernel
theorem dX3_done_1 : decode cX3_done 1 = .ok (.getfield 145, 3) := by decide +kernel
theorem dX3_done_4 : decode cX3_done 4 = .ok (.lreturn, 1) := by decide +kernel
theorem dX3_isRegister_0 : decode cX3_isRegister 0 = .ok (.iload_n 0, 1) := by decide +kernel
theorem dX3_isRegister_1 : decode cX3_isRegister 1 = .ok (.ifCond .lt 13, 3) := by decide +kernel
theorem dX3_isRegister_4 : decode cX3_isRegister 4 = .ok (.iload_n 0, 1) := by decide +kernel
theorem dX3_isRegister_5 : decode cX3_isRegister 5 = .ok (.bipush 32, 2) := by decide +kernel
theorem dX3_isRegister_7 : decode cX3_isRegister 7 = .ok (.if_icmp .ge 7, 3) := by decide +kernel
theorem dX3_isRegister_10 : decode cX3_isRegister 10 = .ok (.iconst 1, 1) := by decide +kernel
theorem dX3_isRegister_11 : decode cX3_isRegister 11 = .ok (.goto 4, 3) := by decide +kernel
theorem dX3_isRegister_14 : decode cX3_isRegister 14 = .ok (.iconst 0, 1) := by decide +kernel
theorem dX3_isRegister_15 : decode cX3_isRegister 15 = .ok (.ireturn, 1) := by decide +kernel
theorem dX3_put_0 : decode cX3_put 0 = .ok (.iload_n 1, 1) := by decide +kernel
theorem dX3_put_1 : decode cX3_put 1 = .ok (.ifCond .eq 17, 3) := by decide +kernel
theorem dX3_put_4 : decode cX3_put 4 = .ok (.iload_n 1, 1) := by decide +kernel
theorem dX3_put_5 : decode cX3_put 5 = .ok (.invokestatic 17, 3) := by decide +kernel
theorem dX3_put_8 : decode cX3_put 8 = .ok (.ifCond .eq 10, 3) := by decide +kernel
theorem dX3_put_11 : decode cX3_put 11 = .ok (.aload_n 0, 1) := by decide +kernel
theorem dX3_put_12 : decode cX3_put 12 = .ok (.getfield 9, 3) := by decide +kernel
theorem dX3_put_15 : decode cX3_put 15 = .ok (.iload_n 1, 1) := by decide +kernel
theorem dX3_put_16 : decode cX3_put 16 = .ok (.lload_n 2, 1) := by decide +kernel
theorem dX3_put_17 : decode cX3_put 17 = .ok (.lastore, 1) := by decide +kernel
theorem dX3_put_18 : decode cX3_put 18 = .ok (.return_, 1) := by decide +kernel
theorem dX3_held_0 : decode cX3_held 0 = .ok (.iload_n 1, 1) := by decide +kernel
theorem dX3_held_1 : decode cX3_held 1 = .ok (.invokestatic 17, 3) := by decide +kernel
theorem dX3_held_4 : decode cX3_held 4 = .ok (.ifCond .eq 12, 3) := by decide +kernel
theorem dX3_held_7 : decode cX3_held 7 = .ok (.aload_n 0, 1) := by decide +kernel
theorem dX3_held_8 : decode cX3_held 8 = .ok (.getfield 9, 3) := by decide +kernel
theorem dX3_held_11 : decode cX3_held 11 = .ok (.iload_n 1, 1) := by decide +kernel
theorem dX3_held_12 : decode cX3_held 12 = .ok (.laload, 1) := by decide +kernel
theorem dX3_held_13 : decode cX3_held 13 = .ok (.goto 4, 3) := by decide +kernel
theorem dX3_held_16 : decode cX3_held 16 = .ok (.lconst 0, 1) := by decide +kernel
theorem dX3_held_17 : decode cX3_held 17 = .ok (.lreturn, 1) := by decide +kernel
theorem dX3_x_0 : decode cX3_x 0 = .ok (.aload_n 0, 1) := by decide +kernel
theorem dX3_x_1 : decode cX3_x 1 = .ok (.iload_n 1, 1) := by decide +kernel
theorem dX3_x_2 : decode cX3_x 2 = .ok (.invokestatic 148, 3) := by decide +kernel
theorem dX3_x_5 : decode cX3_x 5 = .ok (.invokevirtual 151, 3) := by decide +kernel
theorem dX3_x_8 : decode cX3_x 8 = .ok (.lreturn, 1) := by decide +kernel
theorem dX3_y_0 : decode cX3_y 0 = .ok (.aload_n 0, 1) := by decide +kernel
theorem dX3_y_1 : decode cX3_y 1 = .ok (.iload_n 1, 1) := by decide +kernel
theorem dX3_y_2 : decode cX3_y 2 = .ok (.invokestatic 154, 3) := by decide +kernel
theorem dX3_y_5 : decode cX3_y 5 = .ok (.invokevirtual 151, 3) := by decide +kernel
theorem dX3_y_8 : decode cX3_y 8 = .ok (.lreturn, 1) := by decide +kernel
theorem dX3_complete_0 : decode cX3_complete 0 = .ok (.aload_n 0, 1) := by decide +kernel
theorem dX3_complete_1 : decode cX3_complete 1 = .ok (.lload_n 1, 1) := by decide +kernel
theorem dX3_complete_2 : decode cX3_complete 2 = .ok (.putfield 32, 3) := by decide +kernel
theorem dX3_complete_5 : decode cX3_complete 5 = .ok (.aload_n 0, 1) := by decide +kernel
theorem dX3_complete_6 : decode cX3_complete 6 = .ok (.dup, 1) := by decide +kernel
theorem dX3_complete_7 : decode cX3_complete 7 = .ok (.getfield 145, 3) := by decide +kernel
theorem dX3_complete_10 : decode cX3_complete 10 = .ok (.lconst 1, 1) := by decide +kernel
theorem dX3_complete_11 : decode cX3_complete 11 = .ok (.ladd, 1) := by decide +kernel
theorem dX3_complete_12 : decode cX3_complete 12 = .ok (.putfield 145, 3) := by decide +kernel
theorem dX3_complete_15 : decode cX3_complete 15 = .ok (.iconst 0, 1) := by decide +kernel
theorem dX3_complete_16 : decode cX3_complete 16 = .ok (.ireturn, 1) := by decide +kernel
theorem dX3_give_0 : decode cX3_give 0 = .ok (.aload_n 0, 1) := by decide +kernel
theorem dX3_give_1 : decode cX3_give 1 = .ok (.iload_n 1, 1) := by decide +kernel
theorem dX3_give_2 : decode cX3_give 2 = .ok (.invokestatic 105, 3) := by decide +kernel
theorem dX3_give_5 : decode cX3_give 5 = .ok (.lload_n 2, 1) := by decide +kernel
theorem dX3_give_6 : decode cX3_give 6 = .ok (.invokevirtual 28, 3) := by decide +kernel
theorem dX3_give_9 : decode cX3_give 9 = .ok (.aload_n 0, 1) := by decide +kernel
theorem dX3_give_10 : decode cX3_give 10 = .ok (.aload_n 0, 1) := by decide +kernel
theorem dX3_give_11 : decode cX3_give 11 = .ok (.getfield 32, 3) := by decide +kernel
theorem dX3_give_14 : decode cX3_give 14 = .ok (.aload_n 0, 1) := by decide +kernel
theorem dX3_give_15 : decode cX3_give 15 = .ok (.getfield 43, 3) := by decide +kernel
theorem dX3_give_18 : decode cX3_give 18 = .ok (.i2l, 1) := by decide +kernel
theorem dX3_give_19 : decode cX3_give 19 = .ok (.ladd, 1) := by decide +kernel
theorem dX3_give_20 : decode cX3_give 20 = .ok (.invokevirtual 141, 3) := by decide +kernel
theorem dX3_give_23 : decode cX3_give 23 = .ok (.ireturn, 1) := by decide +kernel
theorem dX3_link_0 : decode cX3_link 0 = .ok (.aload_n 0, 1) := by decide +kernel
theorem dX3_link_1 : decode cX3_link 1 = .ok (.iload_n 1, 1) := by decide +kernel
theorem dX3_link_2 : decode cX3_link 2 = .ok (.invokestatic 105, 3) := by decide +kernel
theorem dX3_link_5 : decode cX3_link 5 = .ok (.aload_n 0, 1) := by decide +kernel
theorem dX3_link_6 : decode cX3_link 6 = .ok (.getfield 32, 3) := by decide +kernel
theorem dX3_link_9 : decode cX3_link 9 = .ok (.aload_n 0, 1) := by decide +kernel
theorem dX3_link_10 : decode cX3_link 10 = .ok (.getfield 43, 3) := by decide +kernel
theorem dX3_link_13 : decode cX3_link 13 = .ok (.i2l, 1) := by decide +kernel
theorem dX3_link_14 : decode cX3_link 14 = .ok (.ladd, 1) := by decide +kernel
