theorem d_Md_operation_0 : decode b_Md_operation 0 = .ok (.iload_n 1, 1) := by decide +kernel
theorem d_Md_operation_1 : decode b_Md_operation 1 = .ok (.invokestatic 171, 3) := by decide +kernel
theorem d_Md_operation_4 : decode b_Md_operation 4 = .ok (.ifCond .eq 85, 3) := by decide +kernel
theorem d_Md_operation_7 : decode b_Md_operation 7 = .ok (.aload_n 0, 1) := by decide +kernel
theorem d_Md_operation_8 : decode b_Md_operation 8 = .ok (.iconst 2, 1) := by decide +kernel
theorem d_Md_operation_9 : decode b_Md_operation 9 = .ok (.invokevirtual 174, 3) := by decide +kernel
theorem d_Md_operation_12 : decode b_Md_operation 12 = .ok (.ifCond .eq 5, 3) := by decide +kernel
theorem d_Md_operation_15 : decode b_Md_operation 15 = .ok (.iconst 3, 1) := by decide +kernel
theorem d_Md_operation_16 : decode b_Md_operation 16 = .ok (.ireturn, 1) := by decide +kernel
theorem d_Md_operation_17 : decode b_Md_operation 17 = .ok (.aload_n 0, 1) := by decide +kernel
theorem d_Md_operation_18 : decode b_Md_operation 18 = .ok (.getfield 53, 3) := by decide +kernel
theorem d_Md_operation_21 : decode b_Md_operation 21 = .ok (.aload_n 0, 1) := by decide +kernel
theorem d_Md_operation_22 : decode b_Md_operation 22 = .ok (.getfield 164, 3) := by decide +kernel
theorem d_Md_operation_25 : decode b_Md_operation 25 = .ok (.iconst 1, 1) := by decide +kernel
theorem d_Md_operation_26 : decode b_Md_operation 26 = .ok (.isub, 1) := by decide +kernel
theorem d_Md_operation_27 : decode b_Md_operation 27 = .ok (.iaload, 1) := by decide +kernel
theorem d_Md_operation_28 : decode b_Md_operation 28 = .ok (.istore 5, 2) := by decide +kernel
theorem d_Md_operation_30 : decode b_Md_operation 30 = .ok (.iload 5, 2) := by decide +kernel
theorem d_Md_operation_32 : decode b_Md_operation 32 = .ok (.ifCond .ne 17, 3) := by decide +kernel
theorem d_Md_operation_35 : decode b_Md_operation 35 = .ok (.iload_n 1, 1) := by decide +kernel
theorem d_Md_operation_36 : decode b_Md_operation 36 = .ok (.bipush 27, 2) := by decide +kernel
theorem d_Md_operation_38 : decode b_Md_operation 38 = .ok (.if_icmp .eq 9, 3) := by decide +kernel
theorem d_Md_operation_41 : decode b_Md_operation 41 = .ok (.iload_n 1, 1) := by decide +kernel
theorem d_Md_operation_42 : decode b_Md_operation 42 = .ok (.bipush 29, 2) := by decide +kernel
theorem d_Md_operation_44 : decode b_Md_operation 44 = .ok (.if_icmp .ne 5, 3) := by decide +kernel
theorem d_Md_operation_47 : decode b_Md_operation 47 = .ok (.iconst 5, 1) := by decide +kernel
theorem d_Md_operation_48 : decode b_Md_operation 48 = .ok (.ireturn, 1) := by decide +kernel
theorem d_Md_operation_49 : decode b_Md_operation 49 = .ok (.aload_n 0, 1) := by decide +kernel
theorem d_Md_operation_50 : decode b_Md_operation 50 = .ok (.dup, 1) := by decide +kernel
theorem d_Md_operation_51 : decode b_Md_operation 51 = .ok (.getfield 164, 3) := by decide +kernel
theorem d_Md_operation_54 : decode b_Md_operation 54 = .ok (.iconst 1, 1) := by decide +kernel
theorem d_Md_operation_55 : decode b_Md_operation 55 = .ok (.isub, 1) := by decide +kernel
theorem d_Md_operation_56 : decode b_Md_operation 56 = .ok (.putfield 164, 3) := by decide +kernel
theorem d_Md_operation_59 : decode b_Md_operation 59 = .ok (.aload_n 0, 1) := by decide +kernel
theorem d_Md_operation_60 : decode b_Md_operation 60 = .ok (.getfield 53, 3) := by decide +kernel
theorem d_Md_operation_63 : decode b_Md_operation 63 = .ok (.aload_n 0, 1) := by decide +kernel
theorem d_Md_operation_64 : decode b_Md_operation 64 = .ok (.getfield 164, 3) := by decide +kernel
theorem d_Md_operation_67 : decode b_Md_operation 67 = .ok (.iconst 1, 1) := by decide +kernel
theorem d_Md_operation_68 : decode b_Md_operation 68 = .ok (.isub, 1) := by decide +kernel
theorem d_Md_operation_69 : decode b_Md_operation 69 = .ok (.iload_n 1, 1) := by decide +kernel
theorem d_Md_operation_70 : decode b_Md_operation 70 = .ok (.aload_n 0, 1) := by decide +kernel
theorem d_Md_operation_71 : decode b_Md_operation 71 = .ok (.getfield 53, 3) := by decide +kernel
theorem d_Md_operation_74 : decode b_Md_operation 74 = .ok (.aload_n 0, 1) := by decide +kernel
theorem d_Md_operation_75 : decode b_Md_operation 75 = .ok (.getfield 164, 3) := by decide +kernel
theorem d_Md_operation_78 : decode b_Md_operation 78 = .ok (.iconst 1, 1) := by decide +kernel
theorem d_Md_operation_79 : decode b_Md_operation 79 = .ok (.isub, 1) := by decide +kernel
theorem d_Md_operation_80 : decode b_Md_operation 80 = .ok (.iaload, 1) := by decide +kernel
theorem d_Md_operation_81 : decode b_Md_operation 81 = .ok (.iload 5, 2) := by decide +kernel
theorem d_Md_operation_83 : decode b_Md_operation 83 = .ok (.invokestatic 177, 3) := by decide +kernel
theorem d_Md_operation_86 : decode b_Md_operation 86 = .ok (.iastore, 1) := by decide +kernel
theorem d_Md_operation_87 : decode b_Md_operation 87 = .ok (.iconst 0, 1) := by decide +kernel
theorem d_Md_operation_88 : decode b_Md_operation 88 = .ok (.ireturn, 1) := by decide +kernel
theorem d_Md_operation_89 : decode b_Md_operation 89 = .ok (.iload_n 1, 1) := by decide +kernel
theorem d_Md_operation_90 : decode b_Md_operation 90 = .ok (.bipush 48, 2) := by decide +kernel
theorem d_Md_operation_92 : decode b_Md_operation 92 = .ok (.bipush 79, 2) := by decide +kernel
theorem d_Md_operation_94 : decode b_Md_operation 94 = .ok (.invokestatic 75, 3) := by decide +kernel
theorem d_Md_operation_97 : decode b_Md_operation 97 = .ok (.ifCond .eq 12, 3) := by decide +kernel
theorem d_Md_operation_100 : decode b_Md_operation 100 = .ok (.aload_n 0, 1) := by decide +kernel
theorem d_Md_operation_101 : decode b_Md_operation 101 = .ok (.iload_n 1, 1) := by decide +kernel
theorem d_Md_operation_102 : decode b_Md_operation 102 = .ok (.bipush 48, 2) := by decide +kernel
theorem d_Md_operation_104 : decode b_Md_operation 104 = .ok (.isub, 1) := by decide +kernel
theorem d_Md_operation_105 : decode b_Md_operation 105 = .ok (.invokevirtual 181, 3) := by decide +kernel
theorem d_Md_operation_108 : decode b_Md_operation 108 = .ok (.ireturn, 1) := by decide +kernel
theorem d_Md_operation_109 : decode b_Md_operation 109 = .ok (.iload_n 1, 1) := by decide +kernel
theorem d_Md_operation_110 : decode b_Md_operation 110 = .ok (.bipush 112, 2) := by decide +kernel
theorem d_Md_operation_112 : decode b_Md_operation 112 = .ok (.bipush 119, 2) := by decide +kernel
theorem d_Md_operation_114 : decode b_Md_operation 114 = .ok (.invokestatic 75, 3) := by decide +kernel
theorem d_Md_operation_117 : decode b_Md_operation 117 = .ok (.ifCond .eq 61, 3) := by decide +kernel
theorem d_Md_operation_120 : decode b_Md_operation 120 = .ok (.aload_n 0, 1) := by decide +kernel
theorem d_Md_operation_121 : decode b_Md_operation 121 = .ok (.iconst 1, 1) := by decide +kernel
theorem d_Md_operation_122 : decode b_Md_operation 122 = .ok (.invokevirtual 97, 3) := by decide +kernel
theorem d_Md_operation_125 : decode b_Md_operation 125 = .ok (.istore 5, 2) := by decide +kernel
theorem d_Md_operation_127 : decode b_Md_operation 127 = .ok (.iload_n 1, 1) := by decide +kernel
theorem d_Md_operation_128 : decode b_Md_operation 128 = .ok (.bipush 112, 2) := by decide +kernel
theorem d_Md_operation_130 : decode b_Md_operation 130 = .ok (.isub, 1) := by decide +kernel
theorem d_Md_operation_131 : decode b_Md_operation 131 = .ok (.istore 6, 2) := by decide +kernel
theorem d_Md_operation_133 : decode b_Md_operation 133 = .ok (.aload_n 0, 1) := by decide +kernel
theorem d_Md_operation_134 : decode b_Md_operation 134 = .ok (.aload_n 0, 1) := by decide +kernel
theorem d_Md_operation_135 : decode b_Md_operation 135 = .ok (.getfield 59, 3) := by decide +kernel
theorem d_Md_operation_138 : decode b_Md_operation 138 = .ok (.iload 6, 2) := by decide +kernel
theorem d_Md_operation_140 : decode b_Md_operation 140 = .ok (.iaload, 1) := by decide +kernel
theorem d_Md_operation_141 : decode b_Md_operation 141 = .ok (.iload 5, 2) := by decide +kernel
theorem d_Md_operation_143 : decode b_Md_operation 143 = .ok (.iadd, 1) := by decide +kernel
theorem d_Md_operation_144 : decode b_Md_operation 144 = .ok (.invokevirtual 181, 3) := by decide +kernel
theorem d_Md_operation_147 : decode b_Md_operation 147 = .ok (.istore 7, 2) := by decide +kernel
theorem d_Md_operation_149 : decode b_Md_operation 149 = .ok (.iload 7, 2) := by decide +kernel
theorem d_Md_operation_151 : decode b_Md_operation 151 = .ok (.ifCond .eq 8, 3) := by decide +kernel
theorem d_Md_operation_154 : decode b_Md_operation 154 = .ok (.iload 7, 2) := by decide +kernel
theorem d_Md_operation_156 : decode b_Md_operation 156 = .ok (.goto 21, 3) := by decide +kernel
theorem d_Md_operation_159 : decode b_Md_operation 159 = .ok (.aload_n 0, 1) := by decide +kernel
theorem d_Md_operation_160 : decode b_Md_operation 160 = .ok (.getfield 62, 3) := by decide +kernel
theorem d_Md_operation_163 : decode b_Md_operation 163 = .ok (.iload 6, 2) := by decide +kernel
theorem d_Md_operation_165 : decode b_Md_operation 165 = .ok (.ishr, 1) := by decide +kernel
theorem d_Md_operation_166 : decode b_Md_operation 166 = .ok (.iconst 1, 1) := by decide +kernel
theorem d_Md_operation_167 : decode b_Md_operation 167 = .ok (.iand, 1) := by decide +kernel
theorem d_Md_operation_168 : decode b_Md_operation 168 = .ok (.iconst 1, 1) := by decide +kernel
theorem d_Md_operation_169 : decode b_Md_operation 169 = .ok (.if_icmp .ne 7, 3) := by decide +kernel
theorem d_Md_operation_172 : decode b_Md_operation 172 = .ok (.iconst 0, 1) := by decide +kernel
theorem d_Md_operation_173 : decode b_Md_operation 173 = .ok (.goto 4, 3) := by decide +kernel
theorem d_Md_operation_176 : decode b_Md_operation 176 = .ok (.iconst 4, 1) := by decide +kernel
theorem d_Md_operation_177 : decode b_Md_operation 177 = .ok (.ireturn, 1) := by decide +kernel
theorem d_Md_operation_178 : decode b_Md_operation 178 = .ok (.iload_n 1, 1) := by decide +kernel
theorem d_Md_operation_179 : decode b_Md_operation 179 = .ok (.lookupswitch 199 #[(3, 105), (8, 115), (9, 125), (10, 135), (11, 145), (13, 105), (16, 155), (17, 165), (40, 175), (47, 175), (150, 182), (156, 184)], 105) := by decide +kernel
theorem d_Md_operation_284 : decode b_Md_operation 284 = .ok (.aload_n 0, 1) := by decide +kernel
theorem d_Md_operation_285 : decode b_Md_operation 285 = .ok (.aload_n 0, 1) := by decide +kernel
theorem d_Md_operation_286 : decode b_Md_operation 286 = .ok (.iconst 4, 1) := by decide +kernel
theorem d_Md_operation_287 : decode b_Md_operation 287 = .ok (.invokevirtual 89, 3) := by decide +kernel
theorem d_Md_operation_290 : decode b_Md_operation 290 = .ok (.invokevirtual 181, 3) := by decide +kernel
theorem d_Md_operation_293 : decode b_Md_operation 293 = .ok (.ireturn, 1) := by decide +kernel
theorem d_Md_operation_294 : decode b_Md_operation 294 = .ok (.aload_n 0, 1) := by decide +kernel
theorem d_Md_operation_295 : decode b_Md_operation 295 = .ok (.aload_n 0, 1) := by decide +kernel
theorem d_Md_operation_296 : decode b_Md_operation 296 = .ok (.iconst 1, 1) := by decide +kernel
theorem d_Md_operation_297 : decode b_Md_operation 297 = .ok (.invokevirtual 89, 3) := by decide +kernel
theorem d_Md_operation_300 : decode b_Md_operation 300 = .ok (.invokevirtual 181, 3) := by decide +kernel
theorem d_Md_operation_303 : decode b_Md_operation 303 = .ok (.ireturn, 1) := by decide +kernel
theorem d_Md_operation_304 : decode b_Md_operation 304 = .ok (.aload_n 0, 1) := by decide +kernel
theorem d_Md_operation_305 : decode b_Md_operation 305 = .ok (.aload_n 0, 1) := by decide +kernel
theorem d_Md_operation_306 : decode b_Md_operation 306 = .ok (.iconst 1, 1) := by decide +kernel
theorem d_Md_operation_307 : decode b_Md_operation 307 = .ok (.invokevirtual 184, 3) := by decide +kernel
theorem d_Md_operation_310 : decode b_Md_operation 310 = .ok (.invokevirtual 181, 3) := by decide +kernel
theorem d_Md_operation_313 : decode b_Md_operation 313 = .ok (.ireturn, 1) := by decide +kernel
theorem d_Md_operation_314 : decode b_Md_operation 314 = .ok (.aload_n 0, 1) := by decide +kernel
theorem d_Md_operation_315 : decode b_Md_operation 315 = .ok (.aload_n 0, 1) := by decide +kernel
theorem d_Md_operation_316 : decode b_Md_operation 316 = .ok (.iconst 2, 1) := by decide +kernel
theorem d_Md_operation_317 : decode b_Md_operation 317 = .ok (.invokevirtual 89, 3) := by decide +kernel
theorem d_Md_operation_320 : decode b_Md_operation 320 = .ok (.invokevirtual 181, 3) := by decide +kernel
theorem d_Md_operation_323 : decode b_Md_operation 323 = .ok (.ireturn, 1) := by decide +kernel
theorem d_Md_operation_324 : decode b_Md_operation 324 = .ok (.aload_n 0, 1) := by decide +kernel
theorem d_Md_operation_325 : decode b_Md_operation 325 = .ok (.aload_n 0, 1) := by decide +kernel
theorem d_Md_operation_326 : decode b_Md_operation 326 = .ok (.iconst 2, 1) := by decide +kernel
theorem d_Md_operation_327 : decode b_Md_operation 327 = .ok (.invokevirtual 184, 3) := by decide +kernel
theorem d_Md_operation_330 : decode b_Md_operation 330 = .ok (.invokevirtual 181, 3) := by decide +kernel
theorem d_Md_operation_333 : decode b_Md_operation 333 = .ok (.ireturn, 1) := by decide +kernel
theorem d_Md_operation_334 : decode b_Md_operation 334 = .ok (.aload_n 0, 1) := by decide +kernel
theorem d_Md_operation_335 : decode b_Md_operation 335 = .ok (.aload_n 0, 1) := by decide +kernel
theorem d_Md_operation_336 : decode b_Md_operation 336 = .ok (.iconst 0, 1) := by decide +kernel
theorem d_Md_operation_337 : decode b_Md_operation 337 = .ok (.invokevirtual 97, 3) := by decide +kernel
theorem d_Md_operation_340 : decode b_Md_operation 340 = .ok (.invokevirtual 181, 3) := by decide +kernel
theorem d_Md_operation_343 : decode b_Md_operation 343 = .ok (.ireturn, 1) := by decide +kernel
theorem d_Md_operation_344 : decode b_Md_operation 344 = .ok (.aload_n 0, 1) := by decide +kernel
theorem d_Md_operation_345 : decode b_Md_operation 345 = .ok (.aload_n 0, 1) := by decide +kernel
theorem d_Md_operation_346 : decode b_Md_operation 346 = .ok (.iconst 1, 1) := by decide +kernel
theorem d_Md_operation_347 : decode b_Md_operation 347 = .ok (.invokevirtual 97, 3) := by decide +kernel
theorem d_Md_operation_350 : decode b_Md_operation 350 = .ok (.invokevirtual 181, 3) := by decide +kernel
theorem d_Md_operation_353 : decode b_Md_operation 353 = .ok (.ireturn, 1) := by decide +kernel
theorem d_Md_operation_354 : decode b_Md_operation 354 = .ok (.aload_n 0, 1) := by decide +kernel
theorem d_Md_operation_355 : decode b_Md_operation 355 = .ok (.iload_n 1, 1) := by decide +kernel
theorem d_Md_operation_356 : decode b_Md_operation 356 = .ok (.iload_n 2, 1) := by decide +kernel
theorem d_Md_operation_357 : decode b_Md_operation 357 = .ok (.invokevirtual 187, 3) := by decide +kernel
theorem d_Md_operation_360 : decode b_Md_operation 360 = .ok (.ireturn, 1) := by decide +kernel
