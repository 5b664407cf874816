theorem d_Fu_feed_0 : decode b_Fu_feed 0 = .ok (.aload_n 0, 1) := by decide +kernel
theorem d_Fu_feed_1 : decode b_Fu_feed 1 = .ok (.getfield 10, 3) := by decide +kernel
theorem d_Fu_feed_4 : decode b_Fu_feed 4 = .ok (.getfield 73, 3) := by decide +kernel
theorem d_Fu_feed_7 : decode b_Fu_feed 7 = .ok (.iconst 4, 1) := by decide +kernel
theorem d_Fu_feed_8 : decode b_Fu_feed 8 = .ok (.iadd, 1) := by decide +kernel
theorem d_Fu_feed_9 : decode b_Fu_feed 9 = .ok (.sipush 512, 3) := by decide +kernel
theorem d_Fu_feed_12 : decode b_Fu_feed 12 = .ok (.if_icmp .le 11, 3) := by decide +kernel
theorem d_Fu_feed_15 : decode b_Fu_feed 15 = .ok (.new 76, 3) := by decide +kernel
theorem d_Fu_feed_18 : decode b_Fu_feed 18 = .ok (.dup, 1) := by decide +kernel
theorem d_Fu_feed_19 : decode b_Fu_feed 19 = .ok (.invokespecial 78, 3) := by decide +kernel
theorem d_Fu_feed_22 : decode b_Fu_feed 22 = .ok (.athrow, 1) := by decide +kernel
theorem d_Fu_feed_23 : decode b_Fu_feed 23 = .ok (.aload_n 0, 1) := by decide +kernel
theorem d_Fu_feed_24 : decode b_Fu_feed 24 = .ok (.getfield 10, 3) := by decide +kernel
theorem d_Fu_feed_27 : decode b_Fu_feed 27 = .ok (.iload_n 1, 1) := by decide +kernel
theorem d_Fu_feed_28 : decode b_Fu_feed 28 = .ok (.invokevirtual 79, 3) := by decide +kernel
theorem d_Fu_feed_31 : decode b_Fu_feed 31 = .ok (.aload_n 0, 1) := by decide +kernel
theorem d_Fu_feed_32 : decode b_Fu_feed 32 = .ok (.getfield 10, 3) := by decide +kernel
theorem d_Fu_feed_35 : decode b_Fu_feed 35 = .ok (.getfield 73, 3) := by decide +kernel
theorem d_Fu_feed_38 : decode b_Fu_feed 38 = .ok (.ireturn, 1) := by decide +kernel
theorem d_Fu_end_0 : decode b_Fu_end 0 = .ok (.iload_n 1, 1) := by decide +kernel
theorem d_Fu_end_1 : decode b_Fu_end 1 = .ok (.ifCond .lt 14, 3) := by decide +kernel
theorem d_Fu_end_4 : decode b_Fu_end 4 = .ok (.iload_n 1, 1) := by decide +kernel
theorem d_Fu_end_5 : decode b_Fu_end 5 = .ok (.aload_n 0, 1) := by decide +kernel
theorem d_Fu_end_6 : decode b_Fu_end 6 = .ok (.getfield 10, 3) := by decide +kernel
theorem d_Fu_end_9 : decode b_Fu_end 9 = .ok (.getfield 73, 3) := by decide +kernel
theorem d_Fu_end_12 : decode b_Fu_end 12 = .ok (.if_icmp .le 11, 3) := by decide +kernel
theorem d_Fu_end_15 : decode b_Fu_end 15 = .ok (.new 83, 3) := by decide +kernel
theorem d_Fu_end_18 : decode b_Fu_end 18 = .ok (.dup, 1) := by decide +kernel
theorem d_Fu_end_19 : decode b_Fu_end 19 = .ok (.invokespecial 85, 3) := by decide +kernel
theorem d_Fu_end_22 : decode b_Fu_end 22 = .ok (.athrow, 1) := by decide +kernel
theorem d_Fu_end_23 : decode b_Fu_end 23 = .ok (.aload_n 0, 1) := by decide +kernel
theorem d_Fu_end_24 : decode b_Fu_end 24 = .ok (.getfield 10, 3) := by decide +kernel
theorem d_Fu_end_27 : decode b_Fu_end 27 = .ok (.iload_n 1, 1) := by decide +kernel
theorem d_Fu_end_28 : decode b_Fu_end 28 = .ok (.putfield 73, 3) := by decide +kernel
theorem d_Fu_end_31 : decode b_Fu_end 31 = .ok (.return_, 1) := by decide +kernel
theorem d_Fu_spoil_0 : decode b_Fu_spoil 0 = .ok (.iload_n 1, 1) := by decide +kernel
theorem d_Fu_spoil_1 : decode b_Fu_spoil 1 = .ok (.ifCond .lt 14, 3) := by decide +kernel
theorem d_Fu_spoil_4 : decode b_Fu_spoil 4 = .ok (.iload_n 1, 1) := by decide +kernel
theorem d_Fu_spoil_5 : decode b_Fu_spoil 5 = .ok (.aload_n 0, 1) := by decide +kernel
theorem d_Fu_spoil_6 : decode b_Fu_spoil 6 = .ok (.getfield 10, 3) := by decide +kernel
theorem d_Fu_spoil_9 : decode b_Fu_spoil 9 = .ok (.getfield 73, 3) := by decide +kernel
theorem d_Fu_spoil_12 : decode b_Fu_spoil 12 = .ok (.if_icmp .lt 11, 3) := by decide +kernel
theorem d_Fu_spoil_15 : decode b_Fu_spoil 15 = .ok (.new 86, 3) := by decide +kernel
theorem d_Fu_spoil_18 : decode b_Fu_spoil 18 = .ok (.dup, 1) := by decide +kernel
theorem d_Fu_spoil_19 : decode b_Fu_spoil 19 = .ok (.invokespecial 88, 3) := by decide +kernel
theorem d_Fu_spoil_22 : decode b_Fu_spoil 22 = .ok (.athrow, 1) := by decide +kernel
theorem d_Fu_spoil_23 : decode b_Fu_spoil 23 = .ok (.aload_n 0, 1) := by decide +kernel
theorem d_Fu_spoil_24 : decode b_Fu_spoil 24 = .ok (.getfield 10, 3) := by decide +kernel
theorem d_Fu_spoil_27 : decode b_Fu_spoil 27 = .ok (.iload_n 1, 1) := by decide +kernel
theorem d_Fu_spoil_28 : decode b_Fu_spoil 28 = .ok (.iload_n 2, 1) := by decide +kernel
theorem d_Fu_spoil_29 : decode b_Fu_spoil 29 = .ok (.invokevirtual 89, 3) := by decide +kernel
theorem d_Fu_spoil_32 : decode b_Fu_spoil 32 = .ok (.ireturn, 1) := by decide +kernel
theorem d_Fu_find_0 : decode b_Fu_find 0 = .ok (.aload_n 0, 1) := by decide +kernel
theorem d_Fu_find_1 : decode b_Fu_find 1 = .ok (.getfield 30, 3) := by decide +kernel
theorem d_Fu_find_4 : decode b_Fu_find 4 = .ok (.invokevirtual 93, 3) := by decide +kernel
theorem d_Fu_find_7 : decode b_Fu_find 7 = .ok (.iconst (-1), 1) := by decide +kernel
theorem d_Fu_find_8 : decode b_Fu_find 8 = .ok (.if_icmp .eq 11, 3) := by decide +kernel
theorem d_Fu_find_11 : decode b_Fu_find 11 = .ok (.new 100, 3) := by decide +kernel
theorem d_Fu_find_14 : decode b_Fu_find 14 = .ok (.dup, 1) := by decide +kernel
theorem d_Fu_find_15 : decode b_Fu_find 15 = .ok (.invokespecial 102, 3) := by decide +kernel
theorem d_Fu_find_18 : decode b_Fu_find 18 = .ok (.athrow, 1) := by decide +kernel
theorem d_Fu_find_19 : decode b_Fu_find 19 = .ok (.aload_n 0, 1) := by decide +kernel
theorem d_Fu_find_20 : decode b_Fu_find 20 = .ok (.getfield 30, 3) := by decide +kernel
theorem d_Fu_find_23 : decode b_Fu_find 23 = .ok (.iload_n 1, 1) := by decide +kernel
theorem d_Fu_find_24 : decode b_Fu_find 24 = .ok (.invokevirtual 103, 3) := by decide +kernel
theorem d_Fu_find_27 : decode b_Fu_find 27 = .ok (.ireturn, 1) := by decide +kernel
theorem d_Fu_word_0 : decode b_Fu_word 0 = .ok (.aload_n 0, 1) := by decide +kernel
theorem d_Fu_word_1 : decode b_Fu_word 1 = .ok (.getfield 46, 3) := by decide +kernel
theorem d_Fu_word_4 : decode b_Fu_word 4 = .ok (.iload_n 1, 1) := by decide +kernel
theorem d_Fu_word_5 : decode b_Fu_word 5 = .ok (.invokevirtual 128, 3) := by decide +kernel
theorem d_Fu_word_8 : decode b_Fu_word 8 = .ok (.ifCond .ne 11, 3) := by decide +kernel
theorem d_Fu_word_11 : decode b_Fu_word 11 = .ok (.new 86, 3) := by decide +kernel
theorem d_Fu_word_14 : decode b_Fu_word 14 = .ok (.dup, 1) := by decide +kernel
theorem d_Fu_word_15 : decode b_Fu_word 15 = .ok (.invokespecial 88, 3) := by decide +kernel
theorem d_Fu_word_18 : decode b_Fu_word 18 = .ok (.athrow, 1) := by decide +kernel
theorem d_Fu_word_19 : decode b_Fu_word 19 = .ok (.aload_n 0, 1) := by decide +kernel
theorem d_Fu_word_20 : decode b_Fu_word 20 = .ok (.getfield 46, 3) := by decide +kernel
theorem d_Fu_word_23 : decode b_Fu_word 23 = .ok (.iload_n 1, 1) := by decide +kernel
theorem d_Fu_word_24 : decode b_Fu_word 24 = .ok (.iload_n 2, 1) := by decide +kernel
theorem d_Fu_word_25 : decode b_Fu_word 25 = .ok (.invokevirtual 132, 3) := by decide +kernel
theorem d_Fu_word_28 : decode b_Fu_word 28 = .ok (.return_, 1) := by decide +kernel
theorem d_Fu_register_0 : decode b_Fu_register 0 = .ok (.iload_n 1, 1) := by decide +kernel
theorem d_Fu_register_1 : decode b_Fu_register 1 = .ok (.ifCond .lt 9, 3) := by decide +kernel
theorem d_Fu_register_4 : decode b_Fu_register 4 = .ok (.iload_n 1, 1) := by decide +kernel
theorem d_Fu_register_5 : decode b_Fu_register 5 = .ok (.bipush 8, 2) := by decide +kernel
theorem d_Fu_register_7 : decode b_Fu_register 7 = .ok (.if_icmp .lt 11, 3) := by decide +kernel
theorem d_Fu_register_10 : decode b_Fu_register 10 = .ok (.new 86, 3) := by decide +kernel
theorem d_Fu_register_13 : decode b_Fu_register 13 = .ok (.dup, 1) := by decide +kernel
theorem d_Fu_register_14 : decode b_Fu_register 14 = .ok (.invokespecial 88, 3) := by decide +kernel
theorem d_Fu_register_17 : decode b_Fu_register 17 = .ok (.athrow, 1) := by decide +kernel
theorem d_Fu_register_18 : decode b_Fu_register 18 = .ok (.aload_n 0, 1) := by decide +kernel
theorem d_Fu_register_19 : decode b_Fu_register 19 = .ok (.getfield 53, 3) := by decide +kernel
theorem d_Fu_register_22 : decode b_Fu_register 22 = .ok (.iload_n 1, 1) := by decide +kernel
theorem d_Fu_register_23 : decode b_Fu_register 23 = .ok (.iload_n 2, 1) := by decide +kernel
theorem d_Fu_register_24 : decode b_Fu_register 24 = .ok (.invokevirtual 136, 3) := by decide +kernel
theorem d_Fu_register_27 : decode b_Fu_register 27 = .ok (.return_, 1) := by decide +kernel
theorem d_Fu_get_0 : decode b_Fu_get 0 = .ok (.iload_n 1, 1) := by decide +kernel
theorem d_Fu_get_1 : decode b_Fu_get 1 = .ok (.ifCond .lt 9, 3) := by decide +kernel
theorem d_Fu_get_4 : decode b_Fu_get 4 = .ok (.iload_n 1, 1) := by decide +kernel
theorem d_Fu_get_5 : decode b_Fu_get 5 = .ok (.bipush 10, 2) := by decide +kernel
theorem d_Fu_get_7 : decode b_Fu_get 7 = .ok (.if_icmp .le 11, 3) := by decide +kernel
theorem d_Fu_get_10 : decode b_Fu_get 10 = .ok (.new 86, 3) := by decide +kernel
theorem d_Fu_get_13 : decode b_Fu_get 13 = .ok (.dup, 1) := by decide +kernel
theorem d_Fu_get_14 : decode b_Fu_get 14 = .ok (.invokespecial 88, 3) := by decide +kernel
theorem d_Fu_get_17 : decode b_Fu_get 17 = .ok (.athrow, 1) := by decide +kernel
theorem d_Fu_get_18 : decode b_Fu_get 18 = .ok (.iload_n 1, 1) := by decide +kernel
theorem d_Fu_get_19 : decode b_Fu_get 19 = .ok (.tableswitch 49 8 10 #[25, 33, 41], 25) := by decide +kernel
theorem d_Fu_get_44 : decode b_Fu_get 44 = .ok (.aload_n 0, 1) := by decide +kernel
theorem d_Fu_get_45 : decode b_Fu_get 45 = .ok (.getfield 53, 3) := by decide +kernel
theorem d_Fu_get_48 : decode b_Fu_get 48 = .ok (.getfield 139, 3) := by decide +kernel
theorem d_Fu_get_51 : decode b_Fu_get 51 = .ok (.ireturn, 1) := by decide +kernel
theorem d_Fu_get_52 : decode b_Fu_get 52 = .ok (.aload_n 0, 1) := by decide +kernel
theorem d_Fu_get_53 : decode b_Fu_get 53 = .ok (.getfield 53, 3) := by decide +kernel
theorem d_Fu_get_56 : decode b_Fu_get 56 = .ok (.getfield 179, 3) := by decide +kernel
theorem d_Fu_get_59 : decode b_Fu_get 59 = .ok (.ireturn, 1) := by decide +kernel
theorem d_Fu_get_60 : decode b_Fu_get 60 = .ok (.aload_n 0, 1) := by decide +kernel
theorem d_Fu_get_61 : decode b_Fu_get 61 = .ok (.getfield 53, 3) := by decide +kernel
theorem d_Fu_get_64 : decode b_Fu_get 64 = .ok (.getfield 142, 3) := by decide +kernel
theorem d_Fu_get_67 : decode b_Fu_get 67 = .ok (.ireturn, 1) := by decide +kernel
theorem d_Fu_get_68 : decode b_Fu_get 68 = .ok (.aload_n 0, 1) := by decide +kernel
theorem d_Fu_get_69 : decode b_Fu_get 69 = .ok (.getfield 53, 3) := by decide +kernel
theorem d_Fu_get_72 : decode b_Fu_get 72 = .ok (.getfield 182, 3) := by decide +kernel
theorem d_Fu_get_75 : decode b_Fu_get 75 = .ok (.iload_n 1, 1) := by decide +kernel
theorem d_Fu_get_76 : decode b_Fu_get 76 = .ok (.iaload, 1) := by decide +kernel
theorem d_Fu_get_77 : decode b_Fu_get 77 = .ok (.ireturn, 1) := by decide +kernel
