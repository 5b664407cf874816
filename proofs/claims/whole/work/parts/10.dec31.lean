theorem d_Md_rearrange_0 : decode b_Md_rearrange 0 = .ok (.iload_n 1, 1) := by decide +kernel
theorem d_Md_rearrange_1 : decode b_Md_rearrange 1 = .ok (.bipush 21, 2) := by decide +kernel
theorem d_Md_rearrange_3 : decode b_Md_rearrange 3 = .ok (.if_icmp .ne 11, 3) := by decide +kernel
theorem d_Md_rearrange_6 : decode b_Md_rearrange 6 = .ok (.aload_n 0, 1) := by decide +kernel
theorem d_Md_rearrange_7 : decode b_Md_rearrange 7 = .ok (.iconst 1, 1) := by decide +kernel
theorem d_Md_rearrange_8 : decode b_Md_rearrange 8 = .ok (.invokevirtual 89, 3) := by decide +kernel
theorem d_Md_rearrange_11 : decode b_Md_rearrange 11 = .ok (.goto 18, 3) := by decide +kernel
theorem d_Md_rearrange_14 : decode b_Md_rearrange 14 = .ok (.iload_n 1, 1) := by decide +kernel
theorem d_Md_rearrange_15 : decode b_Md_rearrange 15 = .ok (.bipush 35, 2) := by decide +kernel
theorem d_Md_rearrange_17 : decode b_Md_rearrange 17 = .ok (.if_icmp .ne 11, 3) := by decide +kernel
theorem d_Md_rearrange_20 : decode b_Md_rearrange 20 = .ok (.aload_n 0, 1) := by decide +kernel
theorem d_Md_rearrange_21 : decode b_Md_rearrange 21 = .ok (.iconst 0, 1) := by decide +kernel
theorem d_Md_rearrange_22 : decode b_Md_rearrange 22 = .ok (.invokevirtual 97, 3) := by decide +kernel
theorem d_Md_rearrange_25 : decode b_Md_rearrange 25 = .ok (.goto 4, 3) := by decide +kernel
theorem d_Md_rearrange_28 : decode b_Md_rearrange 28 = .ok (.iconst 0, 1) := by decide +kernel
theorem d_Md_rearrange_29 : decode b_Md_rearrange 29 = .ok (.istore_n 2, 1) := by decide +kernel
theorem d_Md_rearrange_30 : decode b_Md_rearrange 30 = .ok (.aload_n 0, 1) := by decide +kernel
theorem d_Md_rearrange_31 : decode b_Md_rearrange 31 = .ok (.getfield 85, 3) := by decide +kernel
theorem d_Md_rearrange_34 : decode b_Md_rearrange 34 = .ok (.ifCond .eq 5, 3) := by decide +kernel
theorem d_Md_rearrange_37 : decode b_Md_rearrange 37 = .ok (.iconst 2, 1) := by decide +kernel
theorem d_Md_rearrange_38 : decode b_Md_rearrange 38 = .ok (.ireturn, 1) := by decide +kernel
theorem d_Md_rearrange_39 : decode b_Md_rearrange 39 = .ok (.iload_n 1, 1) := by decide +kernel
theorem d_Md_rearrange_40 : decode b_Md_rearrange 40 = .ok (.bipush 20, 2) := by decide +kernel
theorem d_Md_rearrange_42 : decode b_Md_rearrange 42 = .ok (.if_icmp .eq 9, 3) := by decide +kernel
theorem d_Md_rearrange_45 : decode b_Md_rearrange 45 = .ok (.iload_n 1, 1) := by decide +kernel
theorem d_Md_rearrange_46 : decode b_Md_rearrange 46 = .ok (.bipush 22, 2) := by decide +kernel
theorem d_Md_rearrange_48 : decode b_Md_rearrange 48 = .ok (.if_icmp .ne 7, 3) := by decide +kernel
theorem d_Md_rearrange_51 : decode b_Md_rearrange 51 = .ok (.iconst 2, 1) := by decide +kernel
theorem d_Md_rearrange_52 : decode b_Md_rearrange 52 = .ok (.goto 26, 3) := by decide +kernel
theorem d_Md_rearrange_55 : decode b_Md_rearrange 55 = .ok (.iload_n 1, 1) := by decide +kernel
theorem d_Md_rearrange_56 : decode b_Md_rearrange 56 = .ok (.bipush 23, 2) := by decide +kernel
theorem d_Md_rearrange_58 : decode b_Md_rearrange 58 = .ok (.if_icmp .ne 7, 3) := by decide +kernel
theorem d_Md_rearrange_61 : decode b_Md_rearrange 61 = .ok (.iconst 3, 1) := by decide +kernel
theorem d_Md_rearrange_62 : decode b_Md_rearrange 62 = .ok (.goto 16, 3) := by decide +kernel
theorem d_Md_rearrange_65 : decode b_Md_rearrange 65 = .ok (.iload_n 1, 1) := by decide +kernel
theorem d_Md_rearrange_66 : decode b_Md_rearrange 66 = .ok (.bipush 21, 2) := by decide +kernel
theorem d_Md_rearrange_68 : decode b_Md_rearrange 68 = .ok (.if_icmp .ne 9, 3) := by decide +kernel
theorem d_Md_rearrange_71 : decode b_Md_rearrange 71 = .ok (.iload_n 2, 1) := by decide +kernel
theorem d_Md_rearrange_72 : decode b_Md_rearrange 72 = .ok (.iconst 1, 1) := by decide +kernel
theorem d_Md_rearrange_73 : decode b_Md_rearrange 73 = .ok (.iadd, 1) := by decide +kernel
theorem d_Md_rearrange_74 : decode b_Md_rearrange 74 = .ok (.goto 4, 3) := by decide +kernel
theorem d_Md_rearrange_77 : decode b_Md_rearrange 77 = .ok (.iconst 1, 1) := by decide +kernel
theorem d_Md_rearrange_78 : decode b_Md_rearrange 78 = .ok (.istore_n 3, 1) := by decide +kernel
theorem d_Md_rearrange_79 : decode b_Md_rearrange 79 = .ok (.iload_n 1, 1) := by decide +kernel
theorem d_Md_rearrange_80 : decode b_Md_rearrange 80 = .ok (.bipush 18, 2) := by decide +kernel
theorem d_Md_rearrange_82 : decode b_Md_rearrange 82 = .ok (.bipush 23, 2) := by decide +kernel
theorem d_Md_rearrange_84 : decode b_Md_rearrange 84 = .ok (.invokestatic 75, 3) := by decide +kernel
theorem d_Md_rearrange_87 : decode b_Md_rearrange 87 = .ok (.ifCond .ne 35, 3) := by decide +kernel
theorem d_Md_rearrange_90 : decode b_Md_rearrange 90 = .ok (.iload_n 1, 1) := by decide +kernel
theorem d_Md_rearrange_91 : decode b_Md_rearrange 91 = .ok (.bipush 6, 2) := by decide +kernel
theorem d_Md_rearrange_93 : decode b_Md_rearrange 93 = .ok (.if_icmp .eq 29, 3) := by decide +kernel
theorem d_Md_rearrange_96 : decode b_Md_rearrange 96 = .ok (.iload_n 1, 1) := by decide +kernel
theorem d_Md_rearrange_97 : decode b_Md_rearrange 97 = .ok (.bipush 25, 2) := by decide +kernel
theorem d_Md_rearrange_99 : decode b_Md_rearrange 99 = .ok (.if_icmp .eq 23, 3) := by decide +kernel
theorem d_Md_rearrange_102 : decode b_Md_rearrange 102 = .ok (.iload_n 1, 1) := by decide +kernel
theorem d_Md_rearrange_103 : decode b_Md_rearrange 103 = .ok (.bipush 31, 2) := by decide +kernel
theorem d_Md_rearrange_105 : decode b_Md_rearrange 105 = .ok (.if_icmp .eq 17, 3) := by decide +kernel
theorem d_Md_rearrange_108 : decode b_Md_rearrange 108 = .ok (.iload_n 1, 1) := by decide +kernel
theorem d_Md_rearrange_109 : decode b_Md_rearrange 109 = .ok (.bipush 32, 2) := by decide +kernel
theorem d_Md_rearrange_111 : decode b_Md_rearrange 111 = .ok (.if_icmp .eq 11, 3) := by decide +kernel
theorem d_Md_rearrange_114 : decode b_Md_rearrange 114 = .ok (.iload_n 1, 1) := by decide +kernel
theorem d_Md_rearrange_115 : decode b_Md_rearrange 115 = .ok (.bipush 35, 2) := by decide +kernel
theorem d_Md_rearrange_117 : decode b_Md_rearrange 117 = .ok (.if_icmp .eq 5, 3) := by decide +kernel
theorem d_Md_rearrange_120 : decode b_Md_rearrange 120 = .ok (.iconst 2, 1) := by decide +kernel
theorem d_Md_rearrange_121 : decode b_Md_rearrange 121 = .ok (.ireturn, 1) := by decide +kernel
theorem d_Md_rearrange_122 : decode b_Md_rearrange 122 = .ok (.aload_n 0, 1) := by decide +kernel
theorem d_Md_rearrange_123 : decode b_Md_rearrange 123 = .ok (.iload_n 3, 1) := by decide +kernel
theorem d_Md_rearrange_124 : decode b_Md_rearrange 124 = .ok (.invokevirtual 174, 3) := by decide +kernel
theorem d_Md_rearrange_127 : decode b_Md_rearrange 127 = .ok (.ifCond .eq 5, 3) := by decide +kernel
theorem d_Md_rearrange_130 : decode b_Md_rearrange 130 = .ok (.iconst 3, 1) := by decide +kernel
theorem d_Md_rearrange_131 : decode b_Md_rearrange 131 = .ok (.ireturn, 1) := by decide +kernel
theorem d_Md_rearrange_132 : decode b_Md_rearrange 132 = .ok (.aload_n 0, 1) := by decide +kernel
theorem d_Md_rearrange_133 : decode b_Md_rearrange 133 = .ok (.getfield 53, 3) := by decide +kernel
theorem d_Md_rearrange_136 : decode b_Md_rearrange 136 = .ok (.aload_n 0, 1) := by decide +kernel
theorem d_Md_rearrange_137 : decode b_Md_rearrange 137 = .ok (.getfield 164, 3) := by decide +kernel
theorem d_Md_rearrange_140 : decode b_Md_rearrange 140 = .ok (.iconst 1, 1) := by decide +kernel
theorem d_Md_rearrange_141 : decode b_Md_rearrange 141 = .ok (.isub, 1) := by decide +kernel
theorem d_Md_rearrange_142 : decode b_Md_rearrange 142 = .ok (.iaload, 1) := by decide +kernel
theorem d_Md_rearrange_143 : decode b_Md_rearrange 143 = .ok (.istore 4, 2) := by decide +kernel
theorem d_Md_rearrange_145 : decode b_Md_rearrange 145 = .ok (.iload_n 1, 1) := by decide +kernel
theorem d_Md_rearrange_146 : decode b_Md_rearrange 146 = .ok (.tableswitch 388 6 32 #[122, 388, 388, 388, 388, 388, 388, 388, 388, 388, 388, 388, 154, 169, 181, 205, 231, 268, 388, 327, 388, 388, 388, 388, 388, 354, 371], 122) := by decide +kernel
theorem d_Md_rearrange_268 : decode b_Md_rearrange 268 = .ok (.iload 4, 2) := by decide +kernel
theorem d_Md_rearrange_270 : decode b_Md_rearrange 270 = .ok (.invokestatic 194, 3) := by decide +kernel
theorem d_Md_rearrange_273 : decode b_Md_rearrange 273 = .ok (.ifCond .ne 5, 3) := by decide +kernel
theorem d_Md_rearrange_276 : decode b_Md_rearrange 276 = .ok (.iconst 4, 1) := by decide +kernel
theorem d_Md_rearrange_277 : decode b_Md_rearrange 277 = .ok (.ireturn, 1) := by decide +kernel
theorem d_Md_rearrange_278 : decode b_Md_rearrange 278 = .ok (.aload_n 0, 1) := by decide +kernel
theorem d_Md_rearrange_279 : decode b_Md_rearrange 279 = .ok (.getfield 53, 3) := by decide +kernel
theorem d_Md_rearrange_282 : decode b_Md_rearrange 282 = .ok (.aload_n 0, 1) := by decide +kernel
theorem d_Md_rearrange_283 : decode b_Md_rearrange 283 = .ok (.getfield 164, 3) := by decide +kernel
theorem d_Md_rearrange_286 : decode b_Md_rearrange 286 = .ok (.iconst 1, 1) := by decide +kernel
theorem d_Md_rearrange_287 : decode b_Md_rearrange 287 = .ok (.isub, 1) := by decide +kernel
theorem d_Md_rearrange_288 : decode b_Md_rearrange 288 = .ok (.aload_n 0, 1) := by decide +kernel
theorem d_Md_rearrange_289 : decode b_Md_rearrange 289 = .ok (.getfield 56, 3) := by decide +kernel
theorem d_Md_rearrange_292 : decode b_Md_rearrange 292 = .ok (.iload 4, 2) := by decide +kernel
theorem d_Md_rearrange_294 : decode b_Md_rearrange 294 = .ok (.iconst 4, 1) := by decide +kernel
theorem d_Md_rearrange_295 : decode b_Md_rearrange 295 = .ok (.idiv, 1) := by decide +kernel
theorem d_Md_rearrange_296 : decode b_Md_rearrange 296 = .ok (.iaload, 1) := by decide +kernel
theorem d_Md_rearrange_297 : decode b_Md_rearrange 297 = .ok (.iastore, 1) := by decide +kernel
theorem d_Md_rearrange_298 : decode b_Md_rearrange 298 = .ok (.iconst 0, 1) := by decide +kernel
theorem d_Md_rearrange_299 : decode b_Md_rearrange 299 = .ok (.ireturn, 1) := by decide +kernel
theorem d_Md_rearrange_300 : decode b_Md_rearrange 300 = .ok (.aload_n 0, 1) := by decide +kernel
theorem d_Md_rearrange_301 : decode b_Md_rearrange 301 = .ok (.iload 4, 2) := by decide +kernel
theorem d_Md_rearrange_303 : decode b_Md_rearrange 303 = .ok (.invokevirtual 167, 3) := by decide +kernel
theorem d_Md_rearrange_306 : decode b_Md_rearrange 306 = .ok (.ifCond .eq 7, 3) := by decide +kernel
theorem d_Md_rearrange_309 : decode b_Md_rearrange 309 = .ok (.iconst 0, 1) := by decide +kernel
theorem d_Md_rearrange_310 : decode b_Md_rearrange 310 = .ok (.goto 4, 3) := by decide +kernel
theorem d_Md_rearrange_313 : decode b_Md_rearrange 313 = .ok (.iconst 3, 1) := by decide +kernel
theorem d_Md_rearrange_314 : decode b_Md_rearrange 314 = .ok (.ireturn, 1) := by decide +kernel
theorem d_Md_rearrange_315 : decode b_Md_rearrange 315 = .ok (.aload_n 0, 1) := by decide +kernel
theorem d_Md_rearrange_316 : decode b_Md_rearrange 316 = .ok (.dup, 1) := by decide +kernel
theorem d_Md_rearrange_317 : decode b_Md_rearrange 317 = .ok (.getfield 164, 3) := by decide +kernel
theorem d_Md_rearrange_320 : decode b_Md_rearrange 320 = .ok (.iconst 1, 1) := by decide +kernel
theorem d_Md_rearrange_321 : decode b_Md_rearrange 321 = .ok (.isub, 1) := by decide +kernel
theorem d_Md_rearrange_322 : decode b_Md_rearrange 322 = .ok (.putfield 164, 3) := by decide +kernel
theorem d_Md_rearrange_325 : decode b_Md_rearrange 325 = .ok (.iconst 0, 1) := by decide +kernel
theorem d_Md_rearrange_326 : decode b_Md_rearrange 326 = .ok (.ireturn, 1) := by decide +kernel
theorem d_Md_rearrange_327 : decode b_Md_rearrange 327 = .ok (.aload_n 0, 1) := by decide +kernel
theorem d_Md_rearrange_328 : decode b_Md_rearrange 328 = .ok (.aload_n 0, 1) := by decide +kernel
theorem d_Md_rearrange_329 : decode b_Md_rearrange 329 = .ok (.getfield 53, 3) := by decide +kernel
theorem d_Md_rearrange_332 : decode b_Md_rearrange 332 = .ok (.aload_n 0, 1) := by decide +kernel
theorem d_Md_rearrange_333 : decode b_Md_rearrange 333 = .ok (.getfield 164, 3) := by decide +kernel
theorem d_Md_rearrange_336 : decode b_Md_rearrange 336 = .ok (.iconst 2, 1) := by decide +kernel
theorem d_Md_rearrange_337 : decode b_Md_rearrange 337 = .ok (.isub, 1) := by decide +kernel
theorem d_Md_rearrange_338 : decode b_Md_rearrange 338 = .ok (.iaload, 1) := by decide +kernel
theorem d_Md_rearrange_339 : decode b_Md_rearrange 339 = .ok (.invokevirtual 167, 3) := by decide +kernel
theorem d_Md_rearrange_342 : decode b_Md_rearrange 342 = .ok (.ifCond .eq 7, 3) := by decide +kernel
theorem d_Md_rearrange_345 : decode b_Md_rearrange 345 = .ok (.iconst 0, 1) := by decide +kernel
theorem d_Md_rearrange_346 : decode b_Md_rearrange 346 = .ok (.goto 4, 3) := by decide +kernel
theorem d_Md_rearrange_349 : decode b_Md_rearrange 349 = .ok (.iconst 3, 1) := by decide +kernel
theorem d_Md_rearrange_350 : decode b_Md_rearrange 350 = .ok (.ireturn, 1) := by decide +kernel
theorem d_Md_rearrange_351 : decode b_Md_rearrange 351 = .ok (.aload_n 0, 1) := by decide +kernel
theorem d_Md_rearrange_352 : decode b_Md_rearrange 352 = .ok (.aload_n 0, 1) := by decide +kernel
theorem d_Md_rearrange_353 : decode b_Md_rearrange 353 = .ok (.getfield 53, 3) := by decide +kernel
theorem d_Md_rearrange_356 : decode b_Md_rearrange 356 = .ok (.aload_n 0, 1) := by decide +kernel
theorem d_Md_rearrange_357 : decode b_Md_rearrange 357 = .ok (.getfield 164, 3) := by decide +kernel
theorem d_Md_rearrange_360 : decode b_Md_rearrange 360 = .ok (.iconst 1, 1) := by decide +kernel
theorem d_Md_rearrange_361 : decode b_Md_rearrange 361 = .ok (.isub, 1) := by decide +kernel
theorem d_Md_rearrange_362 : decode b_Md_rearrange 362 = .ok (.iload_n 2, 1) := by decide +kernel
theorem d_Md_rearrange_363 : decode b_Md_rearrange 363 = .ok (.isub, 1) := by decide +kernel
theorem d_Md_rearrange_364 : decode b_Md_rearrange 364 = .ok (.iaload, 1) := by decide +kernel
theorem d_Md_rearrange_365 : decode b_Md_rearrange 365 = .ok (.invokevirtual 167, 3) := by decide +kernel
theorem d_Md_rearrange_368 : decode b_Md_rearrange 368 = .ok (.ifCond .eq 7, 3) := by decide +kernel
theorem d_Md_rearrange_371 : decode b_Md_rearrange 371 = .ok (.iconst 0, 1) := by decide +kernel
theorem d_Md_rearrange_372 : decode b_Md_rearrange 372 = .ok (.goto 4, 3) := by decide +kernel
theorem d_Md_rearrange_375 : decode b_Md_rearrange 375 = .ok (.iconst 3, 1) := by decide +kernel
theorem d_Md_rearrange_376 : decode b_Md_rearrange 376 = .ok (.ireturn, 1) := by decide +kernel
theorem d_Md_rearrange_377 : decode b_Md_rearrange 377 = .ok (.aload_n 0, 1) := by decide +kernel
theorem d_Md_rearrange_378 : decode b_Md_rearrange 378 = .ok (.getfield 53, 3) := by decide +kernel
theorem d_Md_rearrange_381 : decode b_Md_rearrange 381 = .ok (.aload_n 0, 1) := by decide +kernel
