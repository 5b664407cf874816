theorem d_Md_operation_361 : decode b_Md_operation 361 = .ok (.iconst 0, 1) := by decide +kernel
theorem d_Md_operation_362 : decode b_Md_operation 362 = .ok (.ireturn, 1) := by decide +kernel
theorem d_Md_operation_363 : decode b_Md_operation 363 = .ok (.iload_n 3, 1) := by decide +kernel
theorem d_Md_operation_364 : decode b_Md_operation 364 = .ok (.ifCond .eq 12, 3) := by decide +kernel
theorem d_Md_operation_367 : decode b_Md_operation 367 = .ok (.aload_n 0, 1) := by decide +kernel
theorem d_Md_operation_368 : decode b_Md_operation 368 = .ok (.iload 4, 2) := by decide +kernel
theorem d_Md_operation_370 : decode b_Md_operation 370 = .ok (.invokevirtual 181, 3) := by decide +kernel
theorem d_Md_operation_373 : decode b_Md_operation 373 = .ok (.goto 4, 3) := by decide +kernel
theorem d_Md_operation_376 : decode b_Md_operation 376 = .ok (.iconst 2, 1) := by decide +kernel
theorem d_Md_operation_377 : decode b_Md_operation 377 = .ok (.ireturn, 1) := by decide +kernel
theorem d_Md_operation_378 : decode b_Md_operation 378 = .ok (.aload_n 0, 1) := by decide +kernel
theorem d_Md_operation_379 : decode b_Md_operation 379 = .ok (.iload_n 1, 1) := by decide +kernel
theorem d_Md_operation_380 : decode b_Md_operation 380 = .ok (.invokevirtual 191, 3) := by decide +kernel
theorem d_Md_operation_383 : decode b_Md_operation 383 = .ok (.ireturn, 1) := by decide +kernel
theorem d_Md_evaluate_0 : decode b_Md_evaluate 0 = .ok (.aload_n 0, 1) := by decide +kernel
theorem d_Md_evaluate_1 : decode b_Md_evaluate 1 = .ok (.iload_n 1, 1) := by decide +kernel
theorem d_Md_evaluate_2 : decode b_Md_evaluate 2 = .ok (.putfield 79, 3) := by decide +kernel
theorem d_Md_evaluate_5 : decode b_Md_evaluate 5 = .ok (.aload_n 0, 1) := by decide +kernel
theorem d_Md_evaluate_6 : decode b_Md_evaluate 6 = .ok (.iload_n 2, 1) := by decide +kernel
theorem d_Md_evaluate_7 : decode b_Md_evaluate 7 = .ok (.putfield 82, 3) := by decide +kernel
theorem d_Md_evaluate_10 : decode b_Md_evaluate 10 = .ok (.aload_n 0, 1) := by decide +kernel
theorem d_Md_evaluate_11 : decode b_Md_evaluate 11 = .ok (.iconst 0, 1) := by decide +kernel
theorem d_Md_evaluate_12 : decode b_Md_evaluate 12 = .ok (.putfield 85, 3) := by decide +kernel
theorem d_Md_evaluate_15 : decode b_Md_evaluate 15 = .ok (.iload_n 3, 1) := by decide +kernel
theorem d_Md_evaluate_16 : decode b_Md_evaluate 16 = .ok (.istore 6, 2) := by decide +kernel
theorem d_Md_evaluate_18 : decode b_Md_evaluate 18 = .ok (.aload_n 0, 1) := by decide +kernel
theorem d_Md_evaluate_19 : decode b_Md_evaluate 19 = .ok (.getfield 79, 3) := by decide +kernel
theorem d_Md_evaluate_22 : decode b_Md_evaluate 22 = .ok (.aload_n 0, 1) := by decide +kernel
theorem d_Md_evaluate_23 : decode b_Md_evaluate 23 = .ok (.getfield 82, 3) := by decide +kernel
theorem d_Md_evaluate_26 : decode b_Md_evaluate 26 = .ok (.if_icmp .ge 40, 3) := by decide +kernel
theorem d_Md_evaluate_29 : decode b_Md_evaluate 29 = .ok (.iload 6, 2) := by decide +kernel
theorem d_Md_evaluate_31 : decode b_Md_evaluate 31 = .ok (.ifCond .ne 5, 3) := by decide +kernel
theorem d_Md_evaluate_34 : decode b_Md_evaluate 34 = .ok (.iconst 1, 1) := by decide +kernel
theorem d_Md_evaluate_35 : decode b_Md_evaluate 35 = .ok (.ireturn, 1) := by decide +kernel
theorem d_Md_evaluate_36 : decode b_Md_evaluate 36 = .ok (.iinc 6 (-1), 3) := by decide +kernel
theorem d_Md_evaluate_39 : decode b_Md_evaluate 39 = .ok (.aload_n 0, 1) := by decide +kernel
theorem d_Md_evaluate_40 : decode b_Md_evaluate 40 = .ok (.aload_n 0, 1) := by decide +kernel
theorem d_Md_evaluate_41 : decode b_Md_evaluate 41 = .ok (.iconst 1, 1) := by decide +kernel
theorem d_Md_evaluate_42 : decode b_Md_evaluate 42 = .ok (.invokevirtual 89, 3) := by decide +kernel
theorem d_Md_evaluate_45 : decode b_Md_evaluate 45 = .ok (.iload_n 1, 1) := by decide +kernel
theorem d_Md_evaluate_46 : decode b_Md_evaluate 46 = .ok (.iload 4, 2) := by decide +kernel
theorem d_Md_evaluate_48 : decode b_Md_evaluate 48 = .ok (.iload 5, 2) := by decide +kernel
theorem d_Md_evaluate_50 : decode b_Md_evaluate 50 = .ok (.invokevirtual 197, 3) := by decide +kernel
theorem d_Md_evaluate_53 : decode b_Md_evaluate 53 = .ok (.istore 7, 2) := by decide +kernel
theorem d_Md_evaluate_55 : decode b_Md_evaluate 55 = .ok (.iload 7, 2) := by decide +kernel
theorem d_Md_evaluate_57 : decode b_Md_evaluate 57 = .ok (.ifCond .eq 6, 3) := by decide +kernel
theorem d_Md_evaluate_60 : decode b_Md_evaluate 60 = .ok (.iload 7, 2) := by decide +kernel
theorem d_Md_evaluate_62 : decode b_Md_evaluate 62 = .ok (.ireturn, 1) := by decide +kernel
theorem d_Md_evaluate_63 : decode b_Md_evaluate 63 = .ok (.goto (-45), 3) := by decide +kernel
theorem d_Md_evaluate_66 : decode b_Md_evaluate 66 = .ok (.aload_n 0, 1) := by decide +kernel
theorem d_Md_evaluate_67 : decode b_Md_evaluate 67 = .ok (.getfield 164, 3) := by decide +kernel
theorem d_Md_evaluate_70 : decode b_Md_evaluate 70 = .ok (.ifCond .ne 5, 3) := by decide +kernel
theorem d_Md_evaluate_73 : decode b_Md_evaluate 73 = .ok (.iconst 3, 1) := by decide +kernel
theorem d_Md_evaluate_74 : decode b_Md_evaluate 74 = .ok (.ireturn, 1) := by decide +kernel
theorem d_Md_evaluate_75 : decode b_Md_evaluate 75 = .ok (.aload_n 0, 1) := by decide +kernel
theorem d_Md_evaluate_76 : decode b_Md_evaluate 76 = .ok (.aload_n 0, 1) := by decide +kernel
theorem d_Md_evaluate_77 : decode b_Md_evaluate 77 = .ok (.getfield 53, 3) := by decide +kernel
theorem d_Md_evaluate_80 : decode b_Md_evaluate 80 = .ok (.aload_n 0, 1) := by decide +kernel
theorem d_Md_evaluate_81 : decode b_Md_evaluate 81 = .ok (.getfield 164, 3) := by decide +kernel
theorem d_Md_evaluate_84 : decode b_Md_evaluate 84 = .ok (.iconst 1, 1) := by decide +kernel
theorem d_Md_evaluate_85 : decode b_Md_evaluate 85 = .ok (.isub, 1) := by decide +kernel
theorem d_Md_evaluate_86 : decode b_Md_evaluate 86 = .ok (.iaload, 1) := by decide +kernel
theorem d_Md_evaluate_87 : decode b_Md_evaluate 87 = .ok (.putfield 201, 3) := by decide +kernel
theorem d_Md_evaluate_90 : decode b_Md_evaluate 90 = .ok (.iconst 0, 1) := by decide +kernel
theorem d_Md_evaluate_91 : decode b_Md_evaluate 91 = .ok (.ireturn, 1) := by decide +kernel
theorem d_Md_word_0 : decode b_Md_word 0 = .ok (.aload_n 0, 1) := by decide +kernel
theorem d_Md_word_1 : decode b_Md_word 1 = .ok (.iload_n 1, 1) := by decide +kernel
theorem d_Md_word_2 : decode b_Md_word 2 = .ok (.invokestatic 194, 3) := by decide +kernel
theorem d_Md_word_5 : decode b_Md_word 5 = .ok (.ifCond .eq 7, 3) := by decide +kernel
theorem d_Md_word_8 : decode b_Md_word 8 = .ok (.iconst 0, 1) := by decide +kernel
theorem d_Md_word_9 : decode b_Md_word 9 = .ok (.goto 4, 3) := by decide +kernel
theorem d_Md_word_12 : decode b_Md_word 12 = .ok (.iconst 1, 1) := by decide +kernel
theorem d_Md_word_13 : decode b_Md_word 13 = .ok (.putfield 69, 3) := by decide +kernel
theorem d_Md_word_16 : decode b_Md_word 16 = .ok (.aload_n 0, 1) := by decide +kernel
theorem d_Md_word_17 : decode b_Md_word 17 = .ok (.getfield 69, 3) := by decide +kernel
theorem d_Md_word_20 : decode b_Md_word 20 = .ok (.ifCond .ne 12, 3) := by decide +kernel
theorem d_Md_word_23 : decode b_Md_word 23 = .ok (.aload_n 0, 1) := by decide +kernel
theorem d_Md_word_24 : decode b_Md_word 24 = .ok (.getfield 56, 3) := by decide +kernel
theorem d_Md_word_27 : decode b_Md_word 27 = .ok (.iload_n 1, 1) := by decide +kernel
theorem d_Md_word_28 : decode b_Md_word 28 = .ok (.iconst 4, 1) := by decide +kernel
theorem d_Md_word_29 : decode b_Md_word 29 = .ok (.idiv, 1) := by decide +kernel
theorem d_Md_word_30 : decode b_Md_word 30 = .ok (.iload_n 2, 1) := by decide +kernel
theorem d_Md_word_31 : decode b_Md_word 31 = .ok (.iastore, 1) := by decide +kernel
theorem d_Md_word_32 : decode b_Md_word 32 = .ok (.return_, 1) := by decide +kernel
theorem d_Md_register_0 : decode b_Md_register 0 = .ok (.aload_n 0, 1) := by decide +kernel
theorem d_Md_register_1 : decode b_Md_register 1 = .ok (.iload_n 1, 1) := by decide +kernel
theorem d_Md_register_2 : decode b_Md_register 2 = .ok (.iconst 0, 1) := by decide +kernel
theorem d_Md_register_3 : decode b_Md_register 3 = .ok (.bipush 7, 2) := by decide +kernel
theorem d_Md_register_5 : decode b_Md_register 5 = .ok (.invokestatic 75, 3) := by decide +kernel
theorem d_Md_register_8 : decode b_Md_register 8 = .ok (.ifCond .eq 7, 3) := by decide +kernel
theorem d_Md_register_11 : decode b_Md_register 11 = .ok (.iconst 0, 1) := by decide +kernel
theorem d_Md_register_12 : decode b_Md_register 12 = .ok (.goto 4, 3) := by decide +kernel
theorem d_Md_register_15 : decode b_Md_register 15 = .ok (.iconst 1, 1) := by decide +kernel
theorem d_Md_register_16 : decode b_Md_register 16 = .ok (.putfield 69, 3) := by decide +kernel
theorem d_Md_register_19 : decode b_Md_register 19 = .ok (.aload_n 0, 1) := by decide +kernel
theorem d_Md_register_20 : decode b_Md_register 20 = .ok (.getfield 69, 3) := by decide +kernel
theorem d_Md_register_23 : decode b_Md_register 23 = .ok (.ifCond .eq 4, 3) := by decide +kernel
theorem d_Md_register_26 : decode b_Md_register 26 = .ok (.return_, 1) := by decide +kernel
theorem d_Md_register_27 : decode b_Md_register 27 = .ok (.aload_n 0, 1) := by decide +kernel
theorem d_Md_register_28 : decode b_Md_register 28 = .ok (.getfield 59, 3) := by decide +kernel
theorem d_Md_register_31 : decode b_Md_register 31 = .ok (.iload_n 1, 1) := by decide +kernel
theorem d_Md_register_32 : decode b_Md_register 32 = .ok (.iload_n 2, 1) := by decide +kernel
theorem d_Md_register_33 : decode b_Md_register 33 = .ok (.iastore, 1) := by decide +kernel
theorem d_Md_register_34 : decode b_Md_register 34 = .ok (.aload_n 0, 1) := by decide +kernel
theorem d_Md_register_35 : decode b_Md_register 35 = .ok (.aload_n 0, 1) := by decide +kernel
theorem d_Md_register_36 : decode b_Md_register 36 = .ok (.getfield 62, 3) := by decide +kernel
theorem d_Md_register_39 : decode b_Md_register 39 = .ok (.iconst 1, 1) := by decide +kernel
theorem d_Md_register_40 : decode b_Md_register 40 = .ok (.iload_n 1, 1) := by decide +kernel
theorem d_Md_register_41 : decode b_Md_register 41 = .ok (.ishl, 1) := by decide +kernel
theorem d_Md_register_42 : decode b_Md_register 42 = .ok (.ior, 1) := by decide +kernel
theorem d_Md_register_43 : decode b_Md_register 43 = .ok (.putfield 62, 3) := by decide +kernel
theorem d_Md_register_46 : decode b_Md_register 46 = .ok (.return_, 1) := by decide +kernel
theorem d_Md_start_0 : decode b_Md_start 0 = .ok (.aload_n 0, 1) := by decide +kernel
theorem d_Md_start_1 : decode b_Md_start 1 = .ok (.iconst 0, 1) := by decide +kernel
theorem d_Md_start_2 : decode b_Md_start 2 = .ok (.putfield 69, 3) := by decide +kernel
theorem d_Md_start_5 : decode b_Md_start 5 = .ok (.aload_n 0, 1) := by decide +kernel
theorem d_Md_start_6 : decode b_Md_start 6 = .ok (.iload_n 1, 1) := by decide +kernel
theorem d_Md_start_7 : decode b_Md_start 7 = .ok (.putfield 204, 3) := by decide +kernel
theorem d_Md_start_10 : decode b_Md_start 10 = .ok (.aload_n 0, 1) := by decide +kernel
theorem d_Md_start_11 : decode b_Md_start 11 = .ok (.iconst 0, 1) := by decide +kernel
theorem d_Md_start_12 : decode b_Md_start 12 = .ok (.putfield 207, 3) := by decide +kernel
theorem d_Md_start_15 : decode b_Md_start 15 = .ok (.return_, 1) := by decide +kernel
