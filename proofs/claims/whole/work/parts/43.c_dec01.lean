theorem d_Lw_feed_0 : decode b_Lw_feed 0 = .ok (.aload_n 2, 1) := by decide +kernel
theorem d_Lw_feed_1 : decode b_Lw_feed 1 = .ok (.iconst 0, 1) := by decide +kernel
theorem d_Lw_feed_2 : decode b_Lw_feed 2 = .ok (.aload_n 0, 1) := by decide +kernel
theorem d_Lw_feed_3 : decode b_Lw_feed 3 = .ok (.iload_n 1, 1) := by decide +kernel
theorem d_Lw_feed_4 : decode b_Lw_feed 4 = .ok (.invokevirtual 7, 3) := by decide +kernel
theorem d_Lw_feed_7 : decode b_Lw_feed 7 = .ok (.i2l, 1) := by decide +kernel
theorem d_Lw_feed_8 : decode b_Lw_feed 8 = .ok (.lastore, 1) := by decide +kernel
theorem d_Lw_feed_9 : decode b_Lw_feed 9 = .ok (.goto 6, 3) := by decide +kernel
theorem d_Lw_feed_12 : decode b_Lw_feed 12 = .ok (.astore_n 3, 1) := by decide +kernel
theorem d_Lw_feed_13 : decode b_Lw_feed 13 = .ok (.iconst 1, 1) := by decide +kernel
theorem d_Lw_feed_14 : decode b_Lw_feed 14 = .ok (.ireturn, 1) := by decide +kernel
theorem d_Lw_feed_15 : decode b_Lw_feed 15 = .ok (.iconst 0, 1) := by decide +kernel
theorem d_Lw_feed_16 : decode b_Lw_feed 16 = .ok (.ireturn, 1) := by decide +kernel
theorem d_Lw_end_0 : decode b_Lw_end 0 = .ok (.aload_n 0, 1) := by decide +kernel
theorem d_Lw_end_1 : decode b_Lw_end 1 = .ok (.iload_n 1, 1) := by decide +kernel
theorem d_Lw_end_2 : decode b_Lw_end 2 = .ok (.invokevirtual 15, 3) := by decide +kernel
theorem d_Lw_end_5 : decode b_Lw_end 5 = .ok (.goto 6, 3) := by decide +kernel
theorem d_Lw_end_8 : decode b_Lw_end 8 = .ok (.astore_n 2, 1) := by decide +kernel
theorem d_Lw_end_9 : decode b_Lw_end 9 = .ok (.iconst 1, 1) := by decide +kernel
theorem d_Lw_end_10 : decode b_Lw_end 10 = .ok (.ireturn, 1) := by decide +kernel
theorem d_Lw_end_11 : decode b_Lw_end 11 = .ok (.iconst 0, 1) := by decide +kernel
theorem d_Lw_end_12 : decode b_Lw_end 12 = .ok (.ireturn, 1) := by decide +kernel
theorem d_Lw_spoil_0 : decode b_Lw_spoil 0 = .ok (.aload_n 3, 1) := by decide +kernel
theorem d_Lw_spoil_1 : decode b_Lw_spoil 1 = .ok (.iconst 0, 1) := by decide +kernel
theorem d_Lw_spoil_2 : decode b_Lw_spoil 2 = .ok (.aload_n 0, 1) := by decide +kernel
theorem d_Lw_spoil_3 : decode b_Lw_spoil 3 = .ok (.iload_n 1, 1) := by decide +kernel
theorem d_Lw_spoil_4 : decode b_Lw_spoil 4 = .ok (.iload_n 2, 1) := by decide +kernel
theorem d_Lw_spoil_5 : decode b_Lw_spoil 5 = .ok (.invokevirtual 21, 3) := by decide +kernel
theorem d_Lw_spoil_8 : decode b_Lw_spoil 8 = .ok (.i2l, 1) := by decide +kernel
theorem d_Lw_spoil_9 : decode b_Lw_spoil 9 = .ok (.lastore, 1) := by decide +kernel
theorem d_Lw_spoil_10 : decode b_Lw_spoil 10 = .ok (.goto 7, 3) := by decide +kernel
theorem d_Lw_spoil_13 : decode b_Lw_spoil 13 = .ok (.astore 4, 2) := by decide +kernel
theorem d_Lw_spoil_15 : decode b_Lw_spoil 15 = .ok (.iconst 1, 1) := by decide +kernel
theorem d_Lw_spoil_16 : decode b_Lw_spoil 16 = .ok (.ireturn, 1) := by decide +kernel
theorem d_Lw_spoil_17 : decode b_Lw_spoil 17 = .ok (.iconst 0, 1) := by decide +kernel
theorem d_Lw_spoil_18 : decode b_Lw_spoil 18 = .ok (.ireturn, 1) := by decide +kernel
theorem d_Lw_find_0 : decode b_Lw_find 0 = .ok (.aload_n 2, 1) := by decide +kernel
theorem d_Lw_find_1 : decode b_Lw_find 1 = .ok (.iconst 0, 1) := by decide +kernel
theorem d_Lw_find_2 : decode b_Lw_find 2 = .ok (.aload_n 0, 1) := by decide +kernel
theorem d_Lw_find_3 : decode b_Lw_find 3 = .ok (.iload_n 1, 1) := by decide +kernel
theorem d_Lw_find_4 : decode b_Lw_find 4 = .ok (.invokevirtual 27, 3) := by decide +kernel
theorem d_Lw_find_7 : decode b_Lw_find 7 = .ok (.i2l, 1) := by decide +kernel
theorem d_Lw_find_8 : decode b_Lw_find 8 = .ok (.lastore, 1) := by decide +kernel
theorem d_Lw_find_9 : decode b_Lw_find 9 = .ok (.goto 6, 3) := by decide +kernel
theorem d_Lw_find_12 : decode b_Lw_find 12 = .ok (.astore_n 3, 1) := by decide +kernel
theorem d_Lw_find_13 : decode b_Lw_find 13 = .ok (.iconst 1, 1) := by decide +kernel
theorem d_Lw_find_14 : decode b_Lw_find 14 = .ok (.ireturn, 1) := by decide +kernel
theorem d_Lw_find_15 : decode b_Lw_find 15 = .ok (.iconst 0, 1) := by decide +kernel
theorem d_Lw_find_16 : decode b_Lw_find 16 = .ok (.ireturn, 1) := by decide +kernel
theorem d_Lw_row_0 : decode b_Lw_row 0 = .ok (.aload 4, 2) := by decide +kernel
theorem d_Lw_row_2 : decode b_Lw_row 2 = .ok (.iconst 0, 1) := by decide +kernel
theorem d_Lw_row_3 : decode b_Lw_row 3 = .ok (.aload_n 0, 1) := by decide +kernel
theorem d_Lw_row_4 : decode b_Lw_row 4 = .ok (.iload_n 1, 1) := by decide +kernel
theorem d_Lw_row_5 : decode b_Lw_row 5 = .ok (.iload_n 2, 1) := by decide +kernel
theorem d_Lw_row_6 : decode b_Lw_row 6 = .ok (.iload_n 3, 1) := by decide +kernel
theorem d_Lw_row_7 : decode b_Lw_row 7 = .ok (.invokevirtual 32, 3) := by decide +kernel
theorem d_Lw_row_10 : decode b_Lw_row 10 = .ok (.i2l, 1) := by decide +kernel
theorem d_Lw_row_11 : decode b_Lw_row 11 = .ok (.lastore, 1) := by decide +kernel
theorem d_Lw_row_12 : decode b_Lw_row 12 = .ok (.goto 15, 3) := by decide +kernel
theorem d_Lw_row_15 : decode b_Lw_row 15 = .ok (.astore 5, 2) := by decide +kernel
theorem d_Lw_row_17 : decode b_Lw_row 17 = .ok (.iconst 1, 1) := by decide +kernel
theorem d_Lw_row_18 : decode b_Lw_row 18 = .ok (.ireturn, 1) := by decide +kernel
theorem d_Lw_row_19 : decode b_Lw_row 19 = .ok (.astore 5, 2) := by decide +kernel
theorem d_Lw_row_21 : decode b_Lw_row 21 = .ok (.iconst 2, 1) := by decide +kernel
theorem d_Lw_row_22 : decode b_Lw_row 22 = .ok (.ireturn, 1) := by decide +kernel
theorem d_Lw_row_23 : decode b_Lw_row 23 = .ok (.astore 5, 2) := by decide +kernel
theorem d_Lw_row_25 : decode b_Lw_row 25 = .ok (.iconst 3, 1) := by decide +kernel
theorem d_Lw_row_26 : decode b_Lw_row 26 = .ok (.ireturn, 1) := by decide +kernel
theorem d_Lw_row_27 : decode b_Lw_row 27 = .ok (.iconst 0, 1) := by decide +kernel
theorem d_Lw_row_28 : decode b_Lw_row 28 = .ok (.ireturn, 1) := by decide +kernel
theorem d_Lw_word_0 : decode b_Lw_word 0 = .ok (.aload_n 0, 1) := by decide +kernel
theorem d_Lw_word_1 : decode b_Lw_word 1 = .ok (.iload_n 1, 1) := by decide +kernel
theorem d_Lw_word_2 : decode b_Lw_word 2 = .ok (.iload_n 2, 1) := by decide +kernel
theorem d_Lw_word_3 : decode b_Lw_word 3 = .ok (.invokevirtual 38, 3) := by decide +kernel
theorem d_Lw_word_6 : decode b_Lw_word 6 = .ok (.goto 6, 3) := by decide +kernel
theorem d_Lw_word_9 : decode b_Lw_word 9 = .ok (.astore_n 3, 1) := by decide +kernel
theorem d_Lw_word_10 : decode b_Lw_word 10 = .ok (.iconst 1, 1) := by decide +kernel
theorem d_Lw_word_11 : decode b_Lw_word 11 = .ok (.ireturn, 1) := by decide +kernel
theorem d_Lw_word_12 : decode b_Lw_word 12 = .ok (.iconst 0, 1) := by decide +kernel
theorem d_Lw_word_13 : decode b_Lw_word 13 = .ok (.ireturn, 1) := by decide +kernel
theorem d_Lw_register_0 : decode b_Lw_register 0 = .ok (.aload_n 0, 1) := by decide +kernel
theorem d_Lw_register_1 : decode b_Lw_register 1 = .ok (.iload_n 1, 1) := by decide +kernel
theorem d_Lw_register_2 : decode b_Lw_register 2 = .ok (.iload_n 2, 1) := by decide +kernel
theorem d_Lw_register_3 : decode b_Lw_register 3 = .ok (.invokevirtual 42, 3) := by decide +kernel
theorem d_Lw_register_6 : decode b_Lw_register 6 = .ok (.goto 6, 3) := by decide +kernel
theorem d_Lw_register_9 : decode b_Lw_register 9 = .ok (.astore_n 3, 1) := by decide +kernel
theorem d_Lw_register_10 : decode b_Lw_register 10 = .ok (.iconst 1, 1) := by decide +kernel
theorem d_Lw_register_11 : decode b_Lw_register 11 = .ok (.ireturn, 1) := by decide +kernel
theorem d_Lw_register_12 : decode b_Lw_register 12 = .ok (.iconst 0, 1) := by decide +kernel
theorem d_Lw_register_13 : decode b_Lw_register 13 = .ok (.ireturn, 1) := by decide +kernel
theorem d_Lw_reckon_0 : decode b_Lw_reckon 0 = .ok (.aload 4, 2) := by decide +kernel
theorem d_Lw_reckon_2 : decode b_Lw_reckon 2 = .ok (.iconst 0, 1) := by decide +kernel
theorem d_Lw_reckon_3 : decode b_Lw_reckon 3 = .ok (.aload_n 0, 1) := by decide +kernel
theorem d_Lw_reckon_4 : decode b_Lw_reckon 4 = .ok (.iload_n 1, 1) := by decide +kernel
theorem d_Lw_reckon_5 : decode b_Lw_reckon 5 = .ok (.iload_n 2, 1) := by decide +kernel
theorem d_Lw_reckon_6 : decode b_Lw_reckon 6 = .ok (.iload_n 3, 1) := by decide +kernel
theorem d_Lw_reckon_7 : decode b_Lw_reckon 7 = .ok (.invokevirtual 45, 3) := by decide +kernel
theorem d_Lw_reckon_10 : decode b_Lw_reckon 10 = .ok (.i2l, 1) := by decide +kernel
theorem d_Lw_reckon_11 : decode b_Lw_reckon 11 = .ok (.lastore, 1) := by decide +kernel
theorem d_Lw_reckon_12 : decode b_Lw_reckon 12 = .ok (.goto 7, 3) := by decide +kernel
theorem d_Lw_reckon_15 : decode b_Lw_reckon 15 = .ok (.astore 5, 2) := by decide +kernel
theorem d_Lw_reckon_17 : decode b_Lw_reckon 17 = .ok (.iconst 1, 1) := by decide +kernel
theorem d_Lw_reckon_18 : decode b_Lw_reckon 18 = .ok (.ireturn, 1) := by decide +kernel
theorem d_Lw_reckon_19 : decode b_Lw_reckon 19 = .ok (.iconst 0, 1) := by decide +kernel
theorem d_Lw_reckon_20 : decode b_Lw_reckon 20 = .ok (.ireturn, 1) := by decide +kernel
theorem d_Lw_unwind_0 : decode b_Lw_unwind 0 = .ok (.aload_n 2, 1) := by decide +kernel
theorem d_Lw_unwind_1 : decode b_Lw_unwind 1 = .ok (.iconst 0, 1) := by decide +kernel
theorem d_Lw_unwind_2 : decode b_Lw_unwind 2 = .ok (.aload_n 0, 1) := by decide +kernel
theorem d_Lw_unwind_3 : decode b_Lw_unwind 3 = .ok (.iload_n 1, 1) := by decide +kernel
theorem d_Lw_unwind_4 : decode b_Lw_unwind 4 = .ok (.invokevirtual 48, 3) := by decide +kernel
theorem d_Lw_unwind_7 : decode b_Lw_unwind 7 = .ok (.i2l, 1) := by decide +kernel
theorem d_Lw_unwind_8 : decode b_Lw_unwind 8 = .ok (.lastore, 1) := by decide +kernel
theorem d_Lw_unwind_9 : decode b_Lw_unwind 9 = .ok (.goto 9, 3) := by decide +kernel
theorem d_Lw_unwind_12 : decode b_Lw_unwind 12 = .ok (.astore_n 3, 1) := by decide +kernel
theorem d_Lw_unwind_13 : decode b_Lw_unwind 13 = .ok (.iconst 1, 1) := by decide +kernel
theorem d_Lw_unwind_14 : decode b_Lw_unwind 14 = .ok (.ireturn, 1) := by decide +kernel
theorem d_Lw_unwind_15 : decode b_Lw_unwind 15 = .ok (.astore_n 3, 1) := by decide +kernel
theorem d_Lw_unwind_16 : decode b_Lw_unwind 16 = .ok (.iconst 2, 1) := by decide +kernel
theorem d_Lw_unwind_17 : decode b_Lw_unwind 17 = .ok (.ireturn, 1) := by decide +kernel
theorem d_Lw_unwind_18 : decode b_Lw_unwind 18 = .ok (.iconst 0, 1) := by decide +kernel
theorem d_Lw_unwind_19 : decode b_Lw_unwind 19 = .ok (.ireturn, 1) := by decide +kernel
theorem d_Lw_get_0 : decode b_Lw_get 0 = .ok (.aload_n 2, 1) := by decide +kernel
theorem d_Lw_get_1 : decode b_Lw_get 1 = .ok (.iconst 0, 1) := by decide +kernel
theorem d_Lw_get_2 : decode b_Lw_get 2 = .ok (.aload_n 0, 1) := by decide +kernel
theorem d_Lw_get_3 : decode b_Lw_get 3 = .ok (.iload_n 1, 1) := by decide +kernel
theorem d_Lw_get_4 : decode b_Lw_get 4 = .ok (.invokevirtual 51, 3) := by decide +kernel
theorem d_Lw_get_7 : decode b_Lw_get 7 = .ok (.i2l, 1) := by decide +kernel
theorem d_Lw_get_8 : decode b_Lw_get 8 = .ok (.lastore, 1) := by decide +kernel
theorem d_Lw_get_9 : decode b_Lw_get 9 = .ok (.goto 6, 3) := by decide +kernel
theorem d_Lw_get_12 : decode b_Lw_get 12 = .ok (.astore_n 3, 1) := by decide +kernel
theorem d_Lw_get_13 : decode b_Lw_get 13 = .ok (.iconst 1, 1) := by decide +kernel
theorem d_Lw_get_14 : decode b_Lw_get 14 = .ok (.ireturn, 1) := by decide +kernel
theorem d_Lw_get_15 : decode b_Lw_get 15 = .ok (.iconst 0, 1) := by decide +kernel
theorem d_Lw_get_16 : decode b_Lw_get 16 = .ok (.ireturn, 1) := by decide +kernel
