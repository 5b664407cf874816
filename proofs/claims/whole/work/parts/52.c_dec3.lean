theorem d_Lw_law_280 : decode b_Lw_law 280 = .ok (.ireturn, 1) := by decide +kernel
theorem d_Lw_law_281 : decode b_Lw_law 281 = .ok (.aload_n 1, 1) := by decide +kernel
theorem d_Lw_law_282 : decode b_Lw_law 282 = .ok (.invokevirtual 80, 3) := by decide +kernel
theorem d_Lw_law_285 : decode b_Lw_law 285 = .ok (.aload_n 2, 1) := by decide +kernel
theorem d_Lw_law_286 : decode b_Lw_law 286 = .ok (.invokevirtual 83, 3) := by decide +kernel
theorem d_Lw_law_289 : decode b_Lw_law 289 = .ok (.if_icmp .eq 465, 3) := by decide +kernel
theorem d_Lw_law_292 : decode b_Lw_law 292 = .ok (.iconst 0, 1) := by decide +kernel
theorem d_Lw_law_293 : decode b_Lw_law 293 = .ok (.ireturn, 1) := by decide +kernel
theorem d_Lw_law_294 : decode b_Lw_law 294 = .ok (.aload_n 1, 1) := by decide +kernel
theorem d_Lw_law_295 : decode b_Lw_law 295 = .ok (.aload_n 0, 1) := by decide +kernel
theorem d_Lw_law_296 : decode b_Lw_law 296 = .ok (.iload 4, 2) := by decide +kernel
theorem d_Lw_law_298 : decode b_Lw_law 298 = .ok (.iconst 1, 1) := by decide +kernel
theorem d_Lw_law_299 : decode b_Lw_law 299 = .ok (.iadd, 1) := by decide +kernel
theorem d_Lw_law_300 : decode b_Lw_law 300 = .ok (.iaload, 1) := by decide +kernel
theorem d_Lw_law_301 : decode b_Lw_law 301 = .ok (.aload_n 3, 1) := by decide +kernel
theorem d_Lw_law_302 : decode b_Lw_law 302 = .ok (.invokestatic 84, 3) := by decide +kernel
theorem d_Lw_law_305 : decode b_Lw_law 305 = .ok (.istore 5, 2) := by decide +kernel
theorem d_Lw_law_307 : decode b_Lw_law 307 = .ok (.aload_n 2, 1) := by decide +kernel
theorem d_Lw_law_308 : decode b_Lw_law 308 = .ok (.aload_n 0, 1) := by decide +kernel
theorem d_Lw_law_309 : decode b_Lw_law 309 = .ok (.iload 4, 2) := by decide +kernel
theorem d_Lw_law_311 : decode b_Lw_law 311 = .ok (.iconst 1, 1) := by decide +kernel
theorem d_Lw_law_312 : decode b_Lw_law 312 = .ok (.iadd, 1) := by decide +kernel
theorem d_Lw_law_313 : decode b_Lw_law 313 = .ok (.iaload, 1) := by decide +kernel
theorem d_Lw_law_314 : decode b_Lw_law 314 = .ok (.invokevirtual 86, 3) := by decide +kernel
theorem d_Lw_law_317 : decode b_Lw_law 317 = .ok (.istore 6, 2) := by decide +kernel
theorem d_Lw_law_319 : decode b_Lw_law 319 = .ok (.aload_n 2, 1) := by decide +kernel
theorem d_Lw_law_320 : decode b_Lw_law 320 = .ok (.invokevirtual 64, 3) := by decide +kernel
theorem d_Lw_law_323 : decode b_Lw_law 323 = .ok (.iload 5, 2) := by decide +kernel
theorem d_Lw_law_325 : decode b_Lw_law 325 = .ok (.if_icmp .eq 5, 3) := by decide +kernel
theorem d_Lw_law_328 : decode b_Lw_law 328 = .ok (.iconst 0, 1) := by decide +kernel
theorem d_Lw_law_329 : decode b_Lw_law 329 = .ok (.ireturn, 1) := by decide +kernel
theorem d_Lw_law_330 : decode b_Lw_law 330 = .ok (.iload 5, 2) := by decide +kernel
theorem d_Lw_law_332 : decode b_Lw_law 332 = .ok (.ifCond .ne 15, 3) := by decide +kernel
theorem d_Lw_law_335 : decode b_Lw_law 335 = .ok (.aload_n 3, 1) := by decide +kernel
theorem d_Lw_law_336 : decode b_Lw_law 336 = .ok (.iconst 0, 1) := by decide +kernel
theorem d_Lw_law_337 : decode b_Lw_law 337 = .ok (.laload, 1) := by decide +kernel
theorem d_Lw_law_338 : decode b_Lw_law 338 = .ok (.iload 6, 2) := by decide +kernel
theorem d_Lw_law_340 : decode b_Lw_law 340 = .ok (.i2l, 1) := by decide +kernel
theorem d_Lw_law_341 : decode b_Lw_law 341 = .ok (.lcmp, 1) := by decide +kernel
theorem d_Lw_law_342 : decode b_Lw_law 342 = .ok (.ifCond .eq 5, 3) := by decide +kernel
theorem d_Lw_law_345 : decode b_Lw_law 345 = .ok (.iconst 0, 1) := by decide +kernel
theorem d_Lw_law_346 : decode b_Lw_law 346 = .ok (.ireturn, 1) := by decide +kernel
theorem d_Lw_law_347 : decode b_Lw_law 347 = .ok (.goto 407, 3) := by decide +kernel
theorem d_Lw_law_350 : decode b_Lw_law 350 = .ok (.aload_n 1, 1) := by decide +kernel
theorem d_Lw_law_351 : decode b_Lw_law 351 = .ok (.aload_n 0, 1) := by decide +kernel
theorem d_Lw_law_352 : decode b_Lw_law 352 = .ok (.iload 4, 2) := by decide +kernel
theorem d_Lw_law_354 : decode b_Lw_law 354 = .ok (.iconst 1, 1) := by decide +kernel
theorem d_Lw_law_355 : decode b_Lw_law 355 = .ok (.iadd, 1) := by decide +kernel
theorem d_Lw_law_356 : decode b_Lw_law 356 = .ok (.iaload, 1) := by decide +kernel
theorem d_Lw_law_357 : decode b_Lw_law 357 = .ok (.aload_n 0, 1) := by decide +kernel
theorem d_Lw_law_358 : decode b_Lw_law 358 = .ok (.iload 4, 2) := by decide +kernel
theorem d_Lw_law_360 : decode b_Lw_law 360 = .ok (.iconst 2, 1) := by decide +kernel
theorem d_Lw_law_361 : decode b_Lw_law 361 = .ok (.iadd, 1) := by decide +kernel
theorem d_Lw_law_362 : decode b_Lw_law 362 = .ok (.iaload, 1) := by decide +kernel
theorem d_Lw_law_363 : decode b_Lw_law 363 = .ok (.aload_n 0, 1) := by decide +kernel
theorem d_Lw_law_364 : decode b_Lw_law 364 = .ok (.iload 4, 2) := by decide +kernel
theorem d_Lw_law_366 : decode b_Lw_law 366 = .ok (.iconst 3, 1) := by decide +kernel
theorem d_Lw_law_367 : decode b_Lw_law 367 = .ok (.iadd, 1) := by decide +kernel
theorem d_Lw_law_368 : decode b_Lw_law 368 = .ok (.iaload, 1) := by decide +kernel
theorem d_Lw_law_369 : decode b_Lw_law 369 = .ok (.aload_n 3, 1) := by decide +kernel
