theorem dX4_others_254 : decode cX4_others 254 = .ok (.iconst 3, 1) := by decide +kernel
theorem dX4_others_255 : decode cX4_others 255 = .ok (.if_icmp .ne 29, 3) := by decide +kernel
theorem dX4_others_258 : decode cX4_others 258 = .ok (.aload_n 0, 1) := by decide +kernel
theorem dX4_others_259 : decode cX4_others 259 = .ok (.iconst 5, 1) := by decide +kernel
theorem dX4_others_260 : decode cX4_others 260 = .ok (.aload_n 0, 1) := by decide +kernel
theorem dX4_others_261 : decode cX4_others 261 = .ok (.getfield 81, 3) := by decide +kernel
theorem dX4_others_264 : decode cX4_others 264 = .ok (.aload_n 0, 1) := by decide +kernel
theorem dX4_others_265 : decode cX4_others 265 = .ok (.invokevirtual 142, 3) := by decide +kernel
theorem dX4_others_268 : decode cX4_others 268 = .ok (.ladd, 1) := by decide +kernel
theorem dX4_others_269 : decode cX4_others 269 = .ok (.iload_n 3, 1) := by decide +kernel
theorem dX4_others_270 : decode cX4_others 270 = .ok (.invokestatic 135, 3) := by decide +kernel
theorem dX4_others_273 : decode cX4_others 273 = .ok (.lconst 0, 1) := by decide +kernel
theorem dX4_others_274 : decode cX4_others 274 = .ok (.ldc2_w 150, 3) := by decide +kernel
theorem dX4_others_277 : decode cX4_others 277 = .ok (.iconst 0, 1) := by decide +kernel
theorem dX4_others_278 : decode cX4_others 278 = .ok (.invokevirtual 138, 3) := by decide +kernel
theorem dX4_others_281 : decode cX4_others 281 = .ok (.goto 4, 3) := by decide +kernel
theorem dX4_others_284 : decode cX4_others 284 = .ok (.iconst (-1), 1) := by decide +kernel
theorem dX4_others_285 : decode cX4_others 285 = .ok (.ireturn, 1) := by decide +kernel
theorem dX4_others_286 : decode cX4_others 286 = .ok (.aload_n 0, 1) := by decide +kernel
theorem dX4_others_287 : decode cX4_others 287 = .ok (.iconst 5, 1) := by decide +kernel
theorem dX4_others_288 : decode cX4_others 288 = .ok (.lconst 0, 1) := by decide +kernel
theorem dX4_others_289 : decode cX4_others 289 = .ok (.lconst 0, 1) := by decide +kernel
theorem dX4_others_290 : decode cX4_others 290 = .ok (.aload_n 0, 1) := by decide +kernel
theorem dX4_others_291 : decode cX4_others 291 = .ok (.getfield 81, 3) := by decide +kernel
theorem dX4_others_294 : decode cX4_others 294 = .ok (.iload_n 1, 1) := by decide +kernel
theorem dX4_others_295 : decode cX4_others 295 = .ok (.i2l, 1) := by decide +kernel
theorem dX4_others_296 : decode cX4_others 296 = .ok (.iload_n 2, 1) := by decide +kernel
theorem dX4_others_297 : decode cX4_others 297 = .ok (.invokevirtual 138, 3) := by decide +kernel
theorem dX4_others_300 : decode cX4_others 300 = .ok (.ireturn, 1) := by decide +kernel
theorem dX4_others_301 : decode cX4_others 301 = .ok (.aload_n 0, 1) := by decide +kernel
theorem dX4_others_302 : decode cX4_others 302 = .ok (.iload_n 2, 1) := by decide +kernel
theorem dX4_others_303 : decode cX4_others 303 = .ok (.iload_n 3, 1) := by decide +kernel
theorem dX4_others_304 : decode cX4_others 304 = .ok (.invokevirtual 152, 3) := by decide +kernel
theorem dX4_others_307 : decode cX4_others 307 = .ok (.ireturn, 1) := by decide +kernel
theorem dX4_others_308 : decode cX4_others 308 = .ok (.iconst (-1), 1) := by decide +kernel
theorem dX4_others_309 : decode cX4_others 309 = .ok (.ireturn, 1) := by decide +kernel
theorem dX4_run_0 : decode cX4_run 0 = .ok (.aload_n 0, 1) := by decide +kernel
theorem dX4_run_1 : decode cX4_run 1 = .ok (.iload_n 2, 1) := by decide +kernel
theorem dX4_run_2 : decode cX4_run 2 = .ok (.iconst 2, 1) := by decide +kernel
theorem dX4_run_3 : decode cX4_run 3 = .ok (.if_icmp .eq 8, 3) := by decide +kernel
theorem dX4_run_6 : decode cX4_run 6 = .ok (.iload_n 2, 1) := by decide +kernel
theorem dX4_run_7 : decode cX4_run 7 = .ok (.iconst 4, 1) := by decide +kernel
theorem dX4_run_8 : decode cX4_run 8 = .ok (.if_icmp .ne 7, 3) := by decide +kernel
theorem dX4_run_11 : decode cX4_run 11 = .ok (.iconst 0, 1) := by decide +kernel
theorem dX4_run_12 : decode cX4_run 12 = .ok (.goto 4, 3) := by decide +kernel
theorem dX4_run_15 : decode cX4_run 15 = .ok (.iconst 1, 1) := by decide +kernel
theorem dX4_run_16 : decode cX4_run 16 = .ok (.putfield 20, 3) := by decide +kernel
theorem dX4_run_19 : decode cX4_run 19 = .ok (.aload_n 0, 1) := by decide +kernel
theorem dX4_run_20 : decode cX4_run 20 = .ok (.getfield 20, 3) := by decide +kernel
theorem dX4_run_23 : decode cX4_run 23 = .ok (.ifCond .le 5, 3) := by decide +kernel
theorem dX4_run_26 : decode cX4_run 26 = .ok (.iconst 0, 1) := by decide +kernel
theorem dX4_run_27 : decode cX4_run 27 = .ok (.ireturn, 1) := by decide +kernel
theorem dX4_run_28 : decode cX4_run 28 = .ok (.aload_n 0, 1) := by decide +kernel
theorem dX4_run_29 : decode cX4_run 29 = .ok (.iload_n 1, 1) := by decide +kernel
theorem dX4_run_30 : decode cX4_run 30 = .ok (.putfield 38, 3) := by decide +kernel
theorem dX4_run_33 : decode cX4_run 33 = .ok (.aload_n 0, 1) := by decide +kernel
theorem dX4_run_34 : decode cX4_run 34 = .ok (.iload_n 2, 1) := by decide +kernel
theorem dX4_run_35 : decode cX4_run 35 = .ok (.putfield 75, 3) := by decide +kernel
theorem dX4_run_38 : decode cX4_run 38 = .ok (.aload_n 0, 1) := by decide +kernel
theorem dX4_run_39 : decode cX4_run 39 = .ok (.iconst (-1), 1) := by decide +kernel
theorem dX4_run_40 : decode cX4_run 40 = .ok (.putfield 13, 3) := by decide +kernel
theorem dX4_run_43 : decode cX4_run 43 = .ok (.aload_n 0, 1) := by decide +kernel
theorem dX4_run_44 : decode cX4_run 44 = .ok (.bipush 6, 2) := by decide +kernel
theorem dX4_run_46 : decode cX4_run 46 = .ok (.iconst 0, 1) := by decide +kernel
theorem dX4_run_47 : decode cX4_run 47 = .ok (.invokevirtual 47, 3) := by decide +kernel
theorem dX4_run_50 : decode cX4_run 50 = .ok (.istore_n 3, 1) := by decide +kernel
theorem dX4_run_51 : decode cX4_run 51 = .ok (.aload_n 0, 1) := by decide +kernel
theorem dX4_run_52 : decode cX4_run 52 = .ok (.bipush 11, 2) := by decide +kernel
theorem dX4_run_54 : decode cX4_run 54 = .ok (.bipush 7, 2) := by decide +kernel
theorem dX4_run_56 : decode cX4_run 56 = .ok (.invokevirtual 47, 3) := by decide +kernel
theorem dX4_run_59 : decode cX4_run 59 = .ok (.istore 4, 2) := by decide +kernel
theorem dX4_run_61 : decode cX4_run 61 = .ok (.aload_n 0, 1) := by decide +kernel
theorem dX4_run_62 : decode cX4_run 62 = .ok (.bipush 14, 2) := by decide +kernel
theorem dX4_run_64 : decode cX4_run 64 = .ok (.bipush 12, 2) := by decide +kernel
theorem dX4_run_66 : decode cX4_run 66 = .ok (.invokevirtual 47, 3) := by decide +kernel
theorem dX4_run_69 : decode cX4_run 69 = .ok (.istore 5, 2) := by decide +kernel
theorem dX4_run_71 : decode cX4_run 71 = .ok (.aload_n 0, 1) := by decide +kernel
theorem dX4_run_72 : decode cX4_run 72 = .ok (.bipush 31, 2) := by decide +kernel
theorem dX4_run_74 : decode cX4_run 74 = .ok (.bipush 25, 2) := by decide +kernel
theorem dX4_run_76 : decode cX4_run 76 = .ok (.invokevirtual 47, 3) := by decide +kernel
theorem dX4_run_79 : decode cX4_run 79 = .ok (.istore 6, 2) := by decide +kernel
theorem dX4_run_81 : decode cX4_run 81 = .ok (.aload_n 0, 1) := by decide +kernel
theorem dX4_run_82 : decode cX4_run 82 = .ok (.aload_n 0, 1) := by decide +kernel
theorem dX4_run_83 : decode cX4_run 83 = .ok (.getfield 7, 3) := by decide +kernel
theorem dX4_run_86 : decode cX4_run 86 = .ok (.aload_n 0, 1) := by decide +kernel
theorem dX4_run_87 : decode cX4_run 87 = .ok (.bipush 19, 2) := by decide +kernel
theorem dX4_run_89 : decode cX4_run 89 = .ok (.bipush 15, 2) := by decide +kernel
theorem dX4_run_91 : decode cX4_run 91 = .ok (.invokevirtual 47, 3) := by decide +kernel
theorem dX4_run_94 : decode cX4_run 94 = .ok (.laload, 1) := by decide +kernel
theorem dX4_run_95 : decode cX4_run 95 = .ok (.putfield 81, 3) := by decide +kernel
theorem dX4_run_98 : decode cX4_run 98 = .ok (.aload_n 0, 1) := by decide +kernel
theorem dX4_run_99 : decode cX4_run 99 = .ok (.aload_n 0, 1) := by decide +kernel
theorem dX4_run_100 : decode cX4_run 100 = .ok (.getfield 7, 3) := by decide +kernel
theorem dX4_run_103 : decode cX4_run 103 = .ok (.aload_n 0, 1) := by decide +kernel
theorem dX4_run_104 : decode cX4_run 104 = .ok (.bipush 24, 2) := by decide +kernel
theorem dX4_run_106 : decode cX4_run 106 = .ok (.bipush 20, 2) := by decide +kernel
theorem dX4_run_108 : decode cX4_run 108 = .ok (.invokevirtual 47, 3) := by decide +kernel
theorem dX4_run_111 : decode cX4_run 111 = .ok (.laload, 1) := by decide +kernel
theorem dX4_run_112 : decode cX4_run 112 = .ok (.putfield 84, 3) := by decide +kernel
theorem dX4_run_115 : decode cX4_run 115 = .ok (.aload_n 0, 1) := by decide +kernel
theorem dX4_run_116 : decode cX4_run 116 = .ok (.getfield 31, 3) := by decide +kernel
theorem dX4_run_119 : decode cX4_run 119 = .ok (.aload_n 0, 1) := by decide +kernel
theorem dX4_run_120 : decode cX4_run 120 = .ok (.getfield 75, 3) := by decide +kernel
theorem dX4_run_123 : decode cX4_run 123 = .ok (.i2l, 1) := by decide +kernel
theorem dX4_run_124 : decode cX4_run 124 = .ok (.ladd, 1) := by decide +kernel
theorem dX4_run_125 : decode cX4_run 125 = .ok (.lstore 7, 2) := by decide +kernel
theorem dX4_run_127 : decode cX4_run 127 = .ok (.iload_n 3, 1) := by decide +kernel
theorem dX4_run_128 : decode cX4_run 128 = .ok (.lookupswitch 223 #[(19, 181), (23, 95), (27, 201), (51, 190), (55, 84), (59, 212), (99, 174), (103, 133), (111, 111)], 84) := by decide +kernel
theorem dX4_run_212 : decode cX4_run 212 = .ok (.aload_n 0, 1) := by decide +kernel
theorem dX4_run_213 : decode cX4_run 213 = .ok (.iload 4, 2) := by decide +kernel
theorem dX4_run_215 : decode cX4_run 215 = .ok (.aload_n 0, 1) := by decide +kernel
theorem dX4_run_216 : decode cX4_run 216 = .ok (.invokevirtual 155, 3) := by decide +kernel
theorem dX4_run_219 : decode cX4_run 219 = .ok (.invokevirtual 106, 3) := by decide +kernel
theorem dX4_run_222 : decode cX4_run 222 = .ok (.ireturn, 1) := by decide +kernel
theorem dX4_run_223 : decode cX4_run 223 = .ok (.aload_n 0, 1) := by decide +kernel
theorem dX4_run_224 : decode cX4_run 224 = .ok (.iload 4, 2) := by decide +kernel
theorem dX4_run_226 : decode cX4_run 226 = .ok (.aload_n 0, 1) := by decide +kernel
theorem dX4_run_227 : decode cX4_run 227 = .ok (.getfield 31, 3) := by decide +kernel
theorem dX4_run_230 : decode cX4_run 230 = .ok (.aload_n 0, 1) := by decide +kernel
theorem dX4_run_231 : decode cX4_run 231 = .ok (.invokevirtual 155, 3) := by decide +kernel
theorem dX4_run_234 : decode cX4_run 234 = .ok (.ladd, 1) := by decide +kernel
theorem dX4_run_235 : decode cX4_run 235 = .ok (.invokevirtual 106, 3) := by decide +kernel
theorem dX4_run_238 : decode cX4_run 238 = .ok (.ireturn, 1) := by decide +kernel
theorem dX4_run_239 : decode cX4_run 239 = .ok (.aload_n 0, 1) := by decide +kernel
theorem dX4_run_240 : decode cX4_run 240 = .ok (.iload 4, 2) := by decide +kernel
theorem dX4_run_242 : decode cX4_run 242 = .ok (.lload 7, 2) := by decide +kernel
theorem dX4_run_244 : decode cX4_run 244 = .ok (.invokevirtual 27, 3) := by decide +kernel
theorem dX4_run_247 : decode cX4_run 247 = .ok (.aload_n 0, 1) := by decide +kernel
theorem dX4_run_248 : decode cX4_run 248 = .ok (.aload_n 0, 1) := by decide +kernel
theorem dX4_run_249 : decode cX4_run 249 = .ok (.getfield 31, 3) := by decide +kernel
theorem dX4_run_252 : decode cX4_run 252 = .ok (.aload_n 0, 1) := by decide +kernel
theorem dX4_run_253 : decode cX4_run 253 = .ok (.invokevirtual 158, 3) := by decide +kernel
theorem dX4_run_256 : decode cX4_run 256 = .ok (.ladd, 1) := by decide +kernel
theorem dX4_run_257 : decode cX4_run 257 = .ok (.invokevirtual 91, 3) := by decide +kernel
theorem dX4_run_260 : decode cX4_run 260 = .ok (.ireturn, 1) := by decide +kernel
theorem dX4_run_261 : decode cX4_run 261 = .ok (.iload 5, 2) := by decide +kernel
theorem dX4_run_263 : decode cX4_run 263 = .ok (.ifCond .eq 5, 3) := by decide +kernel
theorem dX4_run_266 : decode cX4_run 266 = .ok (.iconst (-1), 1) := by decide +kernel
theorem dX4_run_267 : decode cX4_run 267 = .ok (.ireturn, 1) := by decide +kernel
theorem dX4_run_268 : decode cX4_run 268 = .ok (.aload_n 0, 1) := by decide +kernel
theorem dX4_run_269 : decode cX4_run 269 = .ok (.iload 4, 2) := by decide +kernel
theorem dX4_run_271 : decode cX4_run 271 = .ok (.lload 7, 2) := by decide +kernel
theorem dX4_run_273 : decode cX4_run 273 = .ok (.invokevirtual 27, 3) := by decide +kernel
theorem dX4_run_276 : decode cX4_run 276 = .ok (.aload_n 0, 1) := by decide +kernel
theorem dX4_run_277 : decode cX4_run 277 = .ok (.aload_n 0, 1) := by decide +kernel
theorem dX4_run_278 : decode cX4_run 278 = .ok (.getfield 81, 3) := by decide +kernel
theorem dX4_run_281 : decode cX4_run 281 = .ok (.aload_n 0, 1) := by decide +kernel
theorem dX4_run_282 : decode cX4_run 282 = .ok (.invokevirtual 99, 3) := by decide +kernel
theorem dX4_run_285 : decode cX4_run 285 = .ok (.ladd, 1) := by decide +kernel
theorem dX4_run_286 : decode cX4_run 286 = .ok (.aload_n 0, 1) := by decide +kernel
theorem dX4_run_287 : decode cX4_run 287 = .ok (.getfield 81, 3) := by decide +kernel
theorem dX4_run_290 : decode cX4_run 290 = .ok (.aload_n 0, 1) := by decide +kernel
theorem dX4_run_291 : decode cX4_run 291 = .ok (.invokevirtual 99, 3) := by decide +kernel
theorem dX4_run_294 : decode cX4_run 294 = .ok (.ladd, 1) := by decide +kernel
theorem dX4_run_295 : decode cX4_run 295 = .ok (.lconst 1, 1) := by decide +kernel
theorem dX4_run_296 : decode cX4_run 296 = .ok (.land, 1) := by decide +kernel
theorem dX4_run_297 : decode cX4_run 297 = .ok (.lsub, 1) := by decide +kernel
theorem dX4_run_298 : decode cX4_run 298 = .ok (.invokevirtual 91, 3) := by decide +kernel
theorem dX4_run_301 : decode cX4_run 301 = .ok (.ireturn, 1) := by decide +kernel
theorem dX4_run_302 : decode cX4_run 302 = .ok (.aload_n 0, 1) := by decide +kernel
theorem dX4_run_303 : decode cX4_run 303 = .ok (.iload 5, 2) := by decide +kernel
theorem dX4_run_305 : decode cX4_run 305 = .ok (.invokevirtual 161, 3) := by decide +kernel
theorem dX4_run_308 : decode cX4_run 308 = .ok (.ireturn, 1) := by decide +kernel
theorem dX4_run_309 : decode cX4_run 309 = .ok (.aload_n 0, 1) := by decide +kernel
theorem dX4_run_310 : decode cX4_run 310 = .ok (.iload 4, 2) := by decide +kernel
theorem dX4_run_312 : decode cX4_run 312 = .ok (.iload 5, 2) := by decide +kernel
theorem dX4_run_314 : decode cX4_run 314 = .ok (.invokevirtual 165, 3) := by decide +kernel
theorem dX4_run_317 : decode cX4_run 317 = .ok (.ireturn, 1) := by decide +kernel
theorem dX4_run_318 : decode cX4_run 318 = .ok (.aload_n 0, 1) := by decide +kernel
theorem dX4_run_319 : decode cX4_run 319 = .ok (.iload 4, 2) := by decide +kernel
theorem dX4_run_321 : decode cX4_run 321 = .ok (.iload 5, 2) := by decide +kernel
theorem dX4_run_323 : decode cX4_run 323 = .ok (.iload 6, 2) := by decide +kernel
theorem dX4_run_325 : decode cX4_run 325 = .ok (.invokevirtual 168, 3) := by decide +kernel
theorem dX4_run_328 : decode cX4_run 328 = .ok (.ireturn, 1) := by decide +kernel
theorem dX4_run_329 : decode cX4_run 329 = .ok (.aload_n 0, 1) := by decide +kernel
theorem dX4_run_330 : decode cX4_run 330 = .ok (.iload 4, 2) := by decide +kernel
theorem dX4_run_332 : decode cX4_run 332 = .ok (.iload 5, 2) := by decide +kernel
theorem dX4_run_334 : decode cX4_run 334 = .ok (.iload 6, 2) := by decide +kernel
theorem dX4_run_336 : decode cX4_run 336 = .ok (.invokevirtual 172, 3) := by decide +kernel
theorem dX4_run_339 : decode cX4_run 339 = .ok (.ireturn, 1) := by decide +kernel
theorem dX4_run_340 : decode cX4_run 340 = .ok (.aload_n 0, 1) := by decide +kernel
theorem dX4_run_341 : decode cX4_run 341 = .ok (.iload 4, 2) := by decide +kernel
theorem dX4_run_343 : decode cX4_run 343 = .ok (.iload 5, 2) := by decide +kernel
theorem dX4_run_345 : decode cX4_run 345 = .ok (.iload 6, 2) := by decide +kernel
theorem dX4_run_347 : decode cX4_run 347 = .ok (.invokevirtual 175, 3) := by decide +kernel
theorem dX4_run_350 : decode cX4_run 350 = .ok (.ireturn, 1) := by decide +kernel
theorem dX4_run_351 : decode cX4_run 351 = .ok (.aload_n 0, 1) := by decide +kernel
theorem dX4_run_352 : decode cX4_run 352 = .ok (.iload_n 3, 1) := by decide +kernel
theorem dX4_run_353 : decode cX4_run 353 = .ok (.iload 4, 2) := by decide +kernel
theorem dX4_run_355 : decode cX4_run 355 = .ok (.iload 5, 2) := by decide +kernel
theorem dX4_run_357 : decode cX4_run 357 = .ok (.invokevirtual 178, 3) := by decide +kernel
theorem dX4_run_360 : decode cX4_run 360 = .ok (.ireturn, 1) := by decide +kernel
theorem dX4_wanted_0 : decode cX4_wanted 0 = .ok (.aload_n 0, 1) := by decide +kernel
theorem dX4_wanted_1 : decode cX4_wanted 1 = .ok (.iconst 0, 1) := by decide +kernel
theorem dX4_wanted_2 : decode cX4_wanted 2 = .ok (.putfield 20, 3) := by decide +kernel
theorem dX4_wanted_5 : decode cX4_wanted 5 = .ok (.aload_n 0, 1) := by decide +kernel
theorem dX4_wanted_6 : decode cX4_wanted 6 = .ok (.getfield 13, 3) := by decide +kernel
theorem dX4_wanted_9 : decode cX4_wanted 9 = .ok (.iconst (-1), 1) := by decide +kernel
theorem dX4_wanted_10 : decode cX4_wanted 10 = .ok (.if_icmp .eq 12, 3) := by decide +kernel
theorem dX4_wanted_13 : decode cX4_wanted 13 = .ok (.iload_n 1, 1) := by decide +kernel
theorem dX4_wanted_14 : decode cX4_wanted 14 = .ok (.ifCond .lt 8, 3) := by decide +kernel
theorem dX4_wanted_17 : decode cX4_wanted 17 = .ok (.iload_n 1, 1) := by decide +kernel
theorem dX4_wanted_18 : decode cX4_wanted 18 = .ok (.iconst 4, 1) := by decide +kernel
theorem dX4_wanted_19 : decode cX4_wanted 19 = .ok (.if_icmp .le 9, 3) := by decide +kernel
theorem dX4_wanted_22 : decode cX4_wanted 22 = .ok (.ldc2_w 69, 3) := by decide +kernel
theorem dX4_wanted_25 : decode cX4_wanted 25 = .ok (.goto 9, 3) := by decide +kernel
theorem dX4_wanted_28 : decode cX4_wanted 28 = .ok (.aload_n 0, 1) := by decide +kernel
theorem dX4_wanted_29 : decode cX4_wanted 29 = .ok (.getfield 17, 3) := by decide +kernel
theorem dX4_wanted_32 : decode cX4_wanted 32 = .ok (.iload_n 1, 1) := by decide +kernel
theorem dX4_wanted_33 : decode cX4_wanted 33 = .ok (.laload, 1) := by decide +kernel
theorem dX4_wanted_34 : decode cX4_wanted 34 = .ok (.lreturn, 1) := by decide +kernel
theorem dX4_loaded_0 : decode cX4_loaded 0 = .ok (.ldc2_w 133, 3) := by decide +kernel
theorem dX4_loaded_3 : decode cX4_loaded 3 = .ok (.aload_n 0, 1) := by decide +kernel
theorem dX4_loaded_4 : decode cX4_loaded 4 = .ok (.getfield 17, 3) := by decide +kernel
theorem dX4_loaded_7 : decode cX4_loaded 7 = .ok (.iconst 1, 1) := by decide +kernel
theorem dX4_loaded_8 : decode cX4_loaded 8 = .ok (.laload, 1) := by decide +kernel
theorem dX4_loaded_9 : decode cX4_loaded 9 = .ok (.lmul, 1) := by decide +kernel
theorem dX4_loaded_10 : decode cX4_loaded 10 = .ok (.lstore_n 3, 1) := by decide +kernel
theorem dX4_loaded_11 : decode cX4_loaded 11 = .ok (.lload_n 3, 1) := by decide +kernel
theorem dX4_loaded_12 : decode cX4_loaded 12 = .ok (.ldc2_w 181, 3) := by decide +kernel
theorem dX4_loaded_15 : decode cX4_loaded 15 = .ok (.lcmp, 1) := by decide +kernel
theorem dX4_loaded_16 : decode cX4_loaded 16 = .ok (.ifCond .ne 5, 3) := by decide +kernel
theorem dX4_loaded_19 : decode cX4_loaded 19 = .ok (.lload_n 1, 1) := by decide +kernel
theorem dX4_loaded_20 : decode cX4_loaded 20 = .ok (.lreturn, 1) := by decide +kernel
theorem dX4_loaded_21 : decode cX4_loaded 21 = .ok (.lconst 1, 1) := by decide +kernel
theorem dX4_loaded_22 : decode cX4_loaded 22 = .ok (.lload_n 3, 1) := by decide +kernel
theorem dX4_loaded_23 : decode cX4_loaded 23 = .ok (.l2i, 1) := by decide +kernel
theorem dX4_loaded_24 : decode cX4_loaded 24 = .ok (.lshl, 1) := by decide +kernel
theorem dX4_loaded_25 : decode cX4_loaded 25 = .ok (.lstore 5, 2) := by decide +kernel
theorem dX4_loaded_27 : decode cX4_loaded 27 = .ok (.lload_n 1, 1) := by decide +kernel
theorem dX4_loaded_28 : decode cX4_loaded 28 = .ok (.lload 5, 2) := by decide +kernel
theorem dX4_loaded_30 : decode cX4_loaded 30 = .ok (.lconst 1, 1) := by decide +kernel
theorem dX4_loaded_31 : decode cX4_loaded 31 = .ok (.lsub, 1) := by decide +kernel
theorem dX4_loaded_32 : decode cX4_loaded 32 = .ok (.land, 1) := by decide +kernel
theorem dX4_loaded_33 : decode cX4_loaded 33 = .ok (.lstore 7, 2) := by decide +kernel
theorem dX4_loaded_35 : decode cX4_loaded 35 = .ok (.aload_n 0, 1) := by decide +kernel
theorem dX4_loaded_36 : decode cX4_loaded 36 = .ok (.getfield 17, 3) := by decide +kernel
theorem dX4_loaded_39 : decode cX4_loaded 39 = .ok (.iconst 3, 1) := by decide +kernel
theorem dX4_loaded_40 : decode cX4_loaded 40 = .ok (.laload, 1) := by decide +kernel
theorem dX4_loaded_41 : decode cX4_loaded 41 = .ok (.lconst 0, 1) := by decide +kernel
theorem dX4_loaded_42 : decode cX4_loaded 42 = .ok (.lcmp, 1) := by decide +kernel
theorem dX4_loaded_43 : decode cX4_loaded 43 = .ok (.ifCond .ne 23, 3) := by decide +kernel
theorem dX4_loaded_46 : decode cX4_loaded 46 = .ok (.lload 7, 2) := by decide +kernel
theorem dX4_loaded_48 : decode cX4_loaded 48 = .ok (.lload 5, 2) := by decide +kernel
theorem dX4_loaded_50 : decode cX4_loaded 50 = .ok (.ldc2_w 57, 3) := by decide +kernel
theorem dX4_loaded_53 : decode cX4_loaded 53 = .ok (.ldiv, 1) := by decide +kernel
theorem dX4_loaded_54 : decode cX4_loaded 54 = .ok (.lcmp, 1) := by decide +kernel
theorem dX4_loaded_55 : decode cX4_loaded 55 = .ok (.ifCond .lt 11, 3) := by decide +kernel
theorem dX4_loaded_58 : decode cX4_loaded 58 = .ok (.lload 7, 2) := by decide +kernel
theorem dX4_loaded_60 : decode cX4_loaded 60 = .ok (.lload 5, 2) := by decide +kernel
theorem dX4_loaded_62 : decode cX4_loaded 62 = .ok (.lsub, 1) := by decide +kernel
theorem dX4_loaded_63 : decode cX4_loaded 63 = .ok (.goto 5, 3) := by decide +kernel
theorem dX4_loaded_66 : decode cX4_loaded 66 = .ok (.lload 7, 2) := by decide +kernel
theorem dX4_loaded_68 : decode cX4_loaded 68 = .ok (.lreturn, 1) := by decide +kernel
theorem dX4_finish_0 : decode cX4_finish 0 = .ok (.aload_n 0, 1) := by decide +kernel
theorem dX4_finish_1 : decode cX4_finish 1 = .ok (.aload_n 0, 1) := by decide +kernel
theorem dX4_finish_2 : decode cX4_finish 2 = .ok (.getfield 13, 3) := by decide +kernel
theorem dX4_finish_5 : decode cX4_finish 5 = .ok (.iconst (-1), 1) := by decide +kernel
theorem dX4_finish_6 : decode cX4_finish 6 = .ok (.if_icmp .ne 7, 3) := by decide +kernel
theorem dX4_finish_9 : decode cX4_finish 9 = .ok (.iconst 1, 1) := by decide +kernel
theorem dX4_finish_10 : decode cX4_finish 10 = .ok (.goto 4, 3) := by decide +kernel
theorem dX4_finish_13 : decode cX4_finish 13 = .ok (.iconst 0, 1) := by decide +kernel
theorem dX4_finish_14 : decode cX4_finish 14 = .ok (.putfield 20, 3) := by decide +kernel
theorem dX4_finish_17 : decode cX4_finish 17 = .ok (.aload_n 0, 1) := by decide +kernel
theorem dX4_finish_18 : decode cX4_finish 18 = .ok (.getfield 20, 3) := by decide +kernel
theorem dX4_finish_21 : decode cX4_finish 21 = .ok (.ifCond .le 5, 3) := by decide +kernel
theorem dX4_finish_24 : decode cX4_finish 24 = .ok (.iconst 0, 1) := by decide +kernel
theorem dX4_finish_25 : decode cX4_finish 25 = .ok (.ireturn, 1) := by decide +kernel
theorem dX4_finish_26 : decode cX4_finish 26 = .ok (.aload_n 0, 1) := by decide +kernel
theorem dX4_finish_27 : decode cX4_finish 27 = .ok (.getfield 13, 3) := by decide +kernel
theorem dX4_finish_30 : decode cX4_finish 30 = .ok (.istore 4, 2) := by decide +kernel
theorem dX4_finish_32 : decode cX4_finish 32 = .ok (.iload_n 1, 1) := by decide +kernel
theorem dX4_finish_33 : decode cX4_finish 33 = .ok (.ifCond .eq 60, 3) := by decide +kernel
theorem dX4_finish_36 : decode cX4_finish 36 = .ok (.iload 4, 2) := by decide +kernel
theorem dX4_finish_38 : decode cX4_finish 38 = .ok (.iconst 3, 1) := by decide +kernel
theorem dX4_finish_39 : decode cX4_finish 39 = .ok (.if_icmp .eq 54, 3) := by decide +kernel
theorem dX4_finish_42 : decode cX4_finish 42 = .ok (.aload_n 0, 1) := by decide +kernel
theorem dX4_finish_43 : decode cX4_finish 43 = .ok (.aload_n 0, 1) := by decide +kernel
theorem dX4_finish_44 : decode cX4_finish 44 = .ok (.getfield 17, 3) := by decide +kernel
theorem dX4_finish_47 : decode cX4_finish 47 = .ok (.iconst 4, 1) := by decide +kernel
theorem dX4_finish_48 : decode cX4_finish 48 = .ok (.laload, 1) := by decide +kernel
theorem dX4_finish_49 : decode cX4_finish 49 = .ok (.l2i, 1) := by decide +kernel
theorem dX4_finish_50 : decode cX4_finish 50 = .ok (.iload 4, 2) := by decide +kernel
theorem dX4_finish_52 : decode cX4_finish 52 = .ok (.iconst 2, 1) := by decide +kernel
theorem dX4_finish_53 : decode cX4_finish 53 = .ok (.if_icmp .ne 11, 3) := by decide +kernel
theorem dX4_finish_56 : decode cX4_finish 56 = .ok (.aload_n 0, 1) := by decide +kernel
theorem dX4_finish_57 : decode cX4_finish 57 = .ok (.lload_n 2, 1) := by decide +kernel
theorem dX4_finish_58 : decode cX4_finish 58 = .ok (.invokevirtual 183, 3) := by decide +kernel
theorem dX4_finish_61 : decode cX4_finish 61 = .ok (.goto 29, 3) := by decide +kernel
theorem dX4_finish_64 : decode cX4_finish 64 = .ok (.iload 4, 2) := by decide +kernel
theorem dX4_finish_66 : decode cX4_finish 66 = .ok (.iconst 4, 1) := by decide +kernel
theorem dX4_finish_67 : decode cX4_finish 67 = .ok (.if_icmp .ne 22, 3) := by decide +kernel
theorem dX4_finish_70 : decode cX4_finish 70 = .ok (.aload_n 0, 1) := by decide +kernel
theorem dX4_finish_71 : decode cX4_finish 71 = .ok (.getfield 17, 3) := by decide +kernel
theorem dX4_finish_74 : decode cX4_finish 74 = .ok (.iconst 1, 1) := by decide +kernel
theorem dX4_finish_75 : decode cX4_finish 75 = .ok (.laload, 1) := by decide +kernel
theorem dX4_finish_76 : decode cX4_finish 76 = .ok (.ldc2_w 131, 3) := by decide +kernel
theorem dX4_finish_79 : decode cX4_finish 79 = .ok (.lcmp, 1) := by decide +kernel
theorem dX4_finish_80 : decode cX4_finish 80 = .ok (.ifCond .ne 9, 3) := by decide +kernel
theorem dX4_finish_83 : decode cX4_finish 83 = .ok (.lload_n 2, 1) := by decide +kernel
