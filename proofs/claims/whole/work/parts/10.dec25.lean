theorem d_Md_instruction_281 : decode b_Md_instruction 281 = .ok (.invokevirtual 111, 3) := by decide +kernel
theorem d_Md_instruction_284 : decode b_Md_instruction 284 = .ok (.goto 102, 3) := by decide +kernel
theorem d_Md_instruction_287 : decode b_Md_instruction 287 = .ok (.aload_n 0, 1) := by decide +kernel
theorem d_Md_instruction_288 : decode b_Md_instruction 288 = .ok (.invokevirtual 114, 3) := by decide +kernel
theorem d_Md_instruction_291 : decode b_Md_instruction 291 = .ok (.goto 95, 3) := by decide +kernel
theorem d_Md_instruction_294 : decode b_Md_instruction 294 = .ok (.iload_n 3, 1) := by decide +kernel
theorem d_Md_instruction_295 : decode b_Md_instruction 295 = .ok (.bipush 6, 2) := by decide +kernel
theorem d_Md_instruction_297 : decode b_Md_instruction 297 = .ok (.if_icmp .ne 35, 3) := by decide +kernel
theorem d_Md_instruction_300 : decode b_Md_instruction 300 = .ok (.aload_n 0, 1) := by decide +kernel
theorem d_Md_instruction_301 : decode b_Md_instruction 301 = .ok (.aload_n 0, 1) := by decide +kernel
theorem d_Md_instruction_302 : decode b_Md_instruction 302 = .ok (.getfield 85, 3) := by decide +kernel
theorem d_Md_instruction_305 : decode b_Md_instruction 305 = .ok (.ifCond .ne 8, 3) := by decide +kernel
theorem d_Md_instruction_308 : decode b_Md_instruction 308 = .ok (.iload 5, 2) := by decide +kernel
theorem d_Md_instruction_310 : decode b_Md_instruction 310 = .ok (.ifCond .eq 7, 3) := by decide +kernel
theorem d_Md_instruction_313 : decode b_Md_instruction 313 = .ok (.iconst 1, 1) := by decide +kernel
theorem d_Md_instruction_314 : decode b_Md_instruction 314 = .ok (.goto 4, 3) := by decide +kernel
theorem d_Md_instruction_317 : decode b_Md_instruction 317 = .ok (.iconst 0, 1) := by decide +kernel
theorem d_Md_instruction_318 : decode b_Md_instruction 318 = .ok (.putfield 85, 3) := by decide +kernel
theorem d_Md_instruction_321 : decode b_Md_instruction 321 = .ok (.aload_n 0, 1) := by decide +kernel
theorem d_Md_instruction_322 : decode b_Md_instruction 322 = .ok (.aload_n 0, 1) := by decide +kernel
theorem d_Md_instruction_323 : decode b_Md_instruction 323 = .ok (.invokevirtual 117, 3) := by decide +kernel
theorem d_Md_instruction_326 : decode b_Md_instruction 326 = .ok (.invokevirtual 104, 3) := by decide +kernel
theorem d_Md_instruction_329 : decode b_Md_instruction 329 = .ok (.goto 57, 3) := by decide +kernel
theorem d_Md_instruction_332 : decode b_Md_instruction 332 = .ok (.iload_n 3, 1) := by decide +kernel
theorem d_Md_instruction_333 : decode b_Md_instruction 333 = .ok (.bipush 12, 2) := by decide +kernel
theorem d_Md_instruction_335 : decode b_Md_instruction 335 = .ok (.bipush 15, 2) := by decide +kernel
theorem d_Md_instruction_337 : decode b_Md_instruction 337 = .ok (.invokestatic 75, 3) := by decide +kernel
theorem d_Md_instruction_340 : decode b_Md_instruction 340 = .ok (.ifCond .ne 15, 3) := by decide +kernel
theorem d_Md_instruction_343 : decode b_Md_instruction 343 = .ok (.iload_n 3, 1) := by decide +kernel
theorem d_Md_instruction_344 : decode b_Md_instruction 344 = .ok (.bipush 18, 2) := by decide +kernel
theorem d_Md_instruction_346 : decode b_Md_instruction 346 = .ok (.if_icmp .eq 9, 3) := by decide +kernel
theorem d_Md_instruction_349 : decode b_Md_instruction 349 = .ok (.iload_n 3, 1) := by decide +kernel
theorem d_Md_instruction_350 : decode b_Md_instruction 350 = .ok (.bipush 19, 2) := by decide +kernel
theorem d_Md_instruction_352 : decode b_Md_instruction 352 = .ok (.if_icmp .ne 18, 3) := by decide +kernel
theorem d_Md_instruction_355 : decode b_Md_instruction 355 = .ok (.aload_n 0, 1) := by decide +kernel
theorem d_Md_instruction_356 : decode b_Md_instruction 356 = .ok (.iload_n 3, 1) := by decide +kernel
theorem d_Md_instruction_357 : decode b_Md_instruction 357 = .ok (.aload_n 0, 1) := by decide +kernel
theorem d_Md_instruction_358 : decode b_Md_instruction 358 = .ok (.getfield 26, 3) := by decide +kernel
theorem d_Md_instruction_361 : decode b_Md_instruction 361 = .ok (.iload 4, 2) := by decide +kernel
theorem d_Md_instruction_363 : decode b_Md_instruction 363 = .ok (.iaload, 1) := by decide +kernel
theorem d_Md_instruction_364 : decode b_Md_instruction 364 = .ok (.invokevirtual 121, 3) := by decide +kernel
theorem d_Md_instruction_367 : decode b_Md_instruction 367 = .ok (.goto 19, 3) := by decide +kernel
theorem d_Md_instruction_370 : decode b_Md_instruction 370 = .ok (.iload_n 3, 1) := by decide +kernel
theorem d_Md_instruction_371 : decode b_Md_instruction 371 = .ok (.ifCond .eq 15, 3) := by decide +kernel
theorem d_Md_instruction_374 : decode b_Md_instruction 374 = .ok (.aload_n 0, 1) := by decide +kernel
theorem d_Md_instruction_375 : decode b_Md_instruction 375 = .ok (.iload_n 3, 1) := by decide +kernel
theorem d_Md_instruction_376 : decode b_Md_instruction 376 = .ok (.aload_n 0, 1) := by decide +kernel
theorem d_Md_instruction_377 : decode b_Md_instruction 377 = .ok (.getfield 26, 3) := by decide +kernel
theorem d_Md_instruction_380 : decode b_Md_instruction 380 = .ok (.iload 4, 2) := by decide +kernel
theorem d_Md_instruction_382 : decode b_Md_instruction 382 = .ok (.iaload, 1) := by decide +kernel
theorem d_Md_instruction_383 : decode b_Md_instruction 383 = .ok (.invokevirtual 125, 3) := by decide +kernel
theorem d_Md_instruction_386 : decode b_Md_instruction 386 = .ok (.return_, 1) := by decide +kernel
theorem d_Md_begin_0 : decode b_Md_begin 0 = .ok (.iconst 0, 1) := by decide +kernel
theorem d_Md_begin_1 : decode b_Md_begin 1 = .ok (.istore_n 2, 1) := by decide +kernel
theorem d_Md_begin_2 : decode b_Md_begin 2 = .ok (.iload_n 2, 1) := by decide +kernel
theorem d_Md_begin_3 : decode b_Md_begin 3 = .ok (.bipush 27, 2) := by decide +kernel
theorem d_Md_begin_5 : decode b_Md_begin 5 = .ok (.if_icmp .ge 16, 3) := by decide +kernel
theorem d_Md_begin_8 : decode b_Md_begin 8 = .ok (.aload_n 0, 1) := by decide +kernel
theorem d_Md_begin_9 : decode b_Md_begin 9 = .ok (.getfield 44, 3) := by decide +kernel
theorem d_Md_begin_12 : decode b_Md_begin 12 = .ok (.iload_n 2, 1) := by decide +kernel
theorem d_Md_begin_13 : decode b_Md_begin 13 = .ok (.iconst 0, 1) := by decide +kernel
theorem d_Md_begin_14 : decode b_Md_begin 14 = .ok (.iastore, 1) := by decide +kernel
theorem d_Md_begin_15 : decode b_Md_begin 15 = .ok (.iinc 2 1, 3) := by decide +kernel
theorem d_Md_begin_18 : decode b_Md_begin 18 = .ok (.goto (-16), 3) := by decide +kernel
theorem d_Md_begin_21 : decode b_Md_begin 21 = .ok (.iconst 0, 1) := by decide +kernel
theorem d_Md_begin_22 : decode b_Md_begin 22 = .ok (.istore_n 2, 1) := by decide +kernel
theorem d_Md_begin_23 : decode b_Md_begin 23 = .ok (.iload_n 2, 1) := by decide +kernel
theorem d_Md_begin_24 : decode b_Md_begin 24 = .ok (.bipush 8, 2) := by decide +kernel
theorem d_Md_begin_26 : decode b_Md_begin 26 = .ok (.if_icmp .ge 16, 3) := by decide +kernel
theorem d_Md_begin_29 : decode b_Md_begin 29 = .ok (.aload_n 0, 1) := by decide +kernel
theorem d_Md_begin_30 : decode b_Md_begin 30 = .ok (.getfield 44, 3) := by decide +kernel
theorem d_Md_begin_33 : decode b_Md_begin 33 = .ok (.iload_n 2, 1) := by decide +kernel
theorem d_Md_begin_34 : decode b_Md_begin 34 = .ok (.iconst 1, 1) := by decide +kernel
theorem d_Md_begin_35 : decode b_Md_begin 35 = .ok (.iastore, 1) := by decide +kernel
theorem d_Md_begin_36 : decode b_Md_begin 36 = .ok (.iinc 2 1, 3) := by decide +kernel
theorem d_Md_begin_39 : decode b_Md_begin 39 = .ok (.goto (-16), 3) := by decide +kernel
theorem d_Md_begin_42 : decode b_Md_begin 42 = .ok (.aload_n 0, 1) := by decide +kernel
theorem d_Md_begin_43 : decode b_Md_begin 43 = .ok (.bipush 7, 2) := by decide +kernel
theorem d_Md_begin_45 : decode b_Md_begin 45 = .ok (.iconst 3, 1) := by decide +kernel
theorem d_Md_begin_46 : decode b_Md_begin 46 = .ok (.iconst 0, 1) := by decide +kernel
theorem d_Md_begin_47 : decode b_Md_begin 47 = .ok (.iconst 0, 1) := by decide +kernel
theorem d_Md_begin_48 : decode b_Md_begin 48 = .ok (.invokevirtual 93, 3) := by decide +kernel
theorem d_Md_begin_51 : decode b_Md_begin 51 = .ok (.aload_n 0, 1) := by decide +kernel
theorem d_Md_begin_52 : decode b_Md_begin 52 = .ok (.aload_n 0, 1) := by decide +kernel
theorem d_Md_begin_53 : decode b_Md_begin 53 = .ok (.getfield 29, 3) := by decide +kernel
theorem d_Md_begin_56 : decode b_Md_begin 56 = .ok (.aload_n 0, 1) := by decide +kernel
theorem d_Md_begin_57 : decode b_Md_begin 57 = .ok (.getfield 20, 3) := by decide +kernel
theorem d_Md_begin_60 : decode b_Md_begin 60 = .ok (.iload_n 1, 1) := by decide +kernel
theorem d_Md_begin_61 : decode b_Md_begin 61 = .ok (.iaload, 1) := by decide +kernel
theorem d_Md_begin_62 : decode b_Md_begin 62 = .ok (.iaload, 1) := by decide +kernel
theorem d_Md_begin_63 : decode b_Md_begin 63 = .ok (.iconst 0, 1) := by decide +kernel
theorem d_Md_begin_64 : decode b_Md_begin 64 = .ok (.iconst 0, 1) := by decide +kernel
theorem d_Md_begin_65 : decode b_Md_begin 65 = .ok (.iconst 0, 1) := by decide +kernel
theorem d_Md_begin_66 : decode b_Md_begin 66 = .ok (.invokevirtual 93, 3) := by decide +kernel
theorem d_Md_begin_69 : decode b_Md_begin 69 = .ok (.aload_n 0, 1) := by decide +kernel
theorem d_Md_begin_70 : decode b_Md_begin 70 = .ok (.iconst 0, 1) := by decide +kernel
theorem d_Md_begin_71 : decode b_Md_begin 71 = .ok (.putfield 101, 3) := by decide +kernel
theorem d_Md_begin_74 : decode b_Md_begin 74 = .ok (.aload_n 0, 1) := by decide +kernel
theorem d_Md_begin_75 : decode b_Md_begin 75 = .ok (.iconst 0, 1) := by decide +kernel
theorem d_Md_begin_76 : decode b_Md_begin 76 = .ok (.putfield 108, 3) := by decide +kernel
theorem d_Md_begin_79 : decode b_Md_begin 79 = .ok (.return_, 1) := by decide +kernel
